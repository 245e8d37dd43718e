theorem s_nameByte (L k : Int) (c : MM) (hX : SX c) (h0 : 0 ≤ k) (h1 : k < c 16 9) (h2 : c 16 9 ≤ 13) : ev 54 0 [some (vR 16), some (vI k)] [] c (g_1 L) = some (some (vI (c 21 k)), c, g_1 L) := by
  have q0 : ¬ k < 0 := by omega
  have q1 : ¬ c 16 9 ≤ k := by omega
  have q2 : ¬ 13 ≤ k := by omega
  have q3 : k < 13 := by omega
  simp only [xe_54_0, xe_54_1, xe_54_4, xe_54_5, xe_54_6, xe_54_9, xe_54_12, xe_54_13, xe_54_14, xe_54_17, xe_54_18, xe_54_21, xe_54_22, xe_54_25, xe_54_26, xe_54_27, xe_54_30, xe_54_31, ite_self, mm_nL_I, mm_nL_R, mm_nL_0, Option.bind_some, Option.bind_none, bnd_ite, Option.toList_some, Option.toList_none, List.cons_append, List.nil_append, mm_cats_nil, mm_cats_I, mm_cats_L, mm_cats_R, if_true, if_false, true_and, and_true, false_and, and_false, not_true_eq_false, not_false_eq_true, Int.reduceLE, Int.reduceLT, Int.reduceEq, Int.reduceNe, Int.reduceNeg, Int.reduceAdd, Int.reduceSub, Int.reduceMul, Nat.reduceAdd, Nat.reduceLeDiff, true_or, or_true, false_or, or_false, reduceIte, k_16, k_21, l_21, sx_16_3 hX, q0, q1, q2, q3, h0, h1]
theorem s_nameX (L k : Int) (c r : MM) (hX : SX c) (hR : Rscr c r) : ev 105 0 [some (vR 10), some (vI k)] [] c (g_1 L) = some (some (vI (if k < 0 then -3 else if k < c 16 9 then c 21 k else -1)), c, g_1 L) := by
  obtain ⟨s1, s2, s3, s4, s5, s6, ⟨s11, s12, s13, s14⟩, _⟩ := hR
  by_cases h0 : k < 0
  · have h0' : ¬ 0 ≤ k := by omega
    simp only [xe_105_0, xe_105_1, xe_105_4, xe_105_6, xe_105_7, xe_105_8, xe_105_9, xe_105_12, xe_105_15, xe_105_18, xe_105_19, xe_105_22, xe_105_23, xe_105_26, xe_105_29, xe_105_30, ite_self, mm_nL_I, mm_nL_R, mm_nL_0, Option.bind_some, Option.bind_none, bnd_ite, Option.toList_some, Option.toList_none, List.cons_append, List.nil_append, mm_cats_nil, mm_cats_I, mm_cats_L, mm_cats_R, if_true, if_false, true_and, and_true, false_and, and_false, not_true_eq_false, not_false_eq_true, Int.reduceLE, Int.reduceLT, Int.reduceEq, Int.reduceNe, Int.reduceNeg, Int.reduceAdd, Int.reduceSub, Int.reduceMul, Nat.reduceAdd, Nat.reduceLeDiff, true_or, or_true, false_or, or_false, reduceIte, h0, h0']
  · have h0' : 0 ≤ k := by omega
    by_cases h1 : k < c 16 9
    · have q1 : ¬ c 16 9 ≤ k := by omega
      have P := s_nameByte L k c hX h0' h1 s13
      simp only [xe_105_0, xe_105_1, xe_105_4, xe_105_6, xe_105_7, xe_105_8, xe_105_9, xe_105_12, xe_105_15, xe_105_18, xe_105_19, xe_105_22, xe_105_23, xe_105_26, xe_105_29, xe_105_30, ite_self, mm_nL_I, mm_nL_R, mm_nL_0, Option.bind_some, Option.bind_none, bnd_ite, Option.toList_some, Option.toList_none, List.cons_append, List.nil_append, mm_cats_nil, mm_cats_I, mm_cats_L, mm_cats_R, if_true, if_false, true_and, and_true, false_and, and_false, not_true_eq_false, not_false_eq_true, Int.reduceLE, Int.reduceLT, Int.reduceEq, Int.reduceNe, Int.reduceNeg, Int.reduceAdd, Int.reduceSub, Int.reduceMul, Nat.reduceAdd, Nat.reduceLeDiff, true_or, or_true, false_or, or_false, reduceIte, k_10, k_16, sx_10_3 hX, h0, h0', h1, q1, P]
    · have q1 : c 16 9 ≤ k := by omega
      simp only [xe_105_0, xe_105_1, xe_105_4, xe_105_6, xe_105_7, xe_105_8, xe_105_9, xe_105_12, xe_105_15, xe_105_18, xe_105_19, xe_105_22, xe_105_23, xe_105_26, xe_105_29, xe_105_30, ite_self, mm_nL_I, mm_nL_R, mm_nL_0, Option.bind_some, Option.bind_none, bnd_ite, Option.toList_some, Option.toList_none, List.cons_append, List.nil_append, mm_cats_nil, mm_cats_I, mm_cats_L, mm_cats_R, if_true, if_false, true_and, and_true, false_and, and_false, not_true_eq_false, not_false_eq_true, Int.reduceLE, Int.reduceLT, Int.reduceEq, Int.reduceNe, Int.reduceNeg, Int.reduceAdd, Int.reduceSub, Int.reduceMul, Nat.reduceAdd, Nat.reduceLeDiff, true_or, or_true, false_or, or_false, reduceIte, k_10, k_16, sx_10_3 hX, h0, h0', h1, q1]
theorem s_nameM (L k : Int) (c r : MM) (hM : SM r) (hR : Rscr c r) : ev 179 0 [some (vR 149), some (vI k)] [] r (g_1 L) = some (some (vI (if k < 0 then -3 else if k < c 16 9 then c 21 k else -1)), mset r 149 0 0, g_1 L) := by
  have n : ∀ j, ¬ j = 0 → mset r 149 0 0 149 j = r 149 j := fun j hj => ms_nk _ _ _ _ _ _ hj
  obtain ⟨s1, s2, s3, s4, s5, s6, ⟨s11, s12, s13, s14⟩, _⟩ := hR
  have f14 : mset r 149 0 0 149 14 = c 16 9 := by rw [n 14 (by omega), s11]
  have p10 : mset r 149 0 0 149 10 = 154 := by rw [n 10 (by omega)]; exact sm_149_10 hM
  by_cases h0 : k < 0
  · have h0' : ¬ 0 ≤ k := by omega
    simp only [xe_179_0, xe_179_1, xe_179_2, xe_179_5, xe_179_6, xe_179_9, xe_179_11, xe_179_12, xe_179_13, xe_179_14, xe_179_17, xe_179_20, xe_179_21, xe_179_24, xe_179_25, xe_179_26, xe_179_29, xe_179_30, ite_self, mm_nL_I, mm_nL_R, mm_nL_0, Option.bind_some, Option.bind_none, bnd_ite, Option.toList_some, Option.toList_none, List.cons_append, List.nil_append, mm_cats_nil, mm_cats_I, mm_cats_L, mm_cats_R, if_true, if_false, true_and, and_true, false_and, and_false, not_true_eq_false, not_false_eq_true, Int.reduceLE, Int.reduceLT, Int.reduceEq, Int.reduceNe, Int.reduceNeg, Int.reduceAdd, Int.reduceSub, Int.reduceMul, Nat.reduceAdd, Nat.reduceLeDiff, true_or, or_true, false_or, or_false, reduceIte, k_149, h0, h0']
  · have h0' : 0 ≤ k := by omega
    by_cases h1 : k < c 16 9
    · have q1 : ¬ c 16 9 ≤ k := by omega
      have q2 : k < 13 := by omega
      have v : mset r 149 0 0 154 k = c 21 k := by rw [ms_na _ _ _ _ _ _ (by omega)]; exact (s14 k h0' h1).symm
      simp only [xe_179_0, xe_179_1, xe_179_2, xe_179_5, xe_179_6, xe_179_9, xe_179_11, xe_179_12, xe_179_13, xe_179_14, xe_179_17, xe_179_20, xe_179_21, xe_179_24, xe_179_25, xe_179_26, xe_179_29, xe_179_30, ite_self, mm_nL_I, mm_nL_R, mm_nL_0, Option.bind_some, Option.bind_none, bnd_ite, Option.toList_some, Option.toList_none, List.cons_append, List.nil_append, mm_cats_nil, mm_cats_I, mm_cats_L, mm_cats_R, if_true, if_false, true_and, and_true, false_and, and_false, not_true_eq_false, not_false_eq_true, Int.reduceLE, Int.reduceLT, Int.reduceEq, Int.reduceNe, Int.reduceNeg, Int.reduceAdd, Int.reduceSub, Int.reduceMul, Nat.reduceAdd, Nat.reduceLeDiff, true_or, or_true, false_or, or_false, reduceIte, k_149, k_154, l_154, h0, h0', h1, q1, q2, f14, p10, v]
    · have q1 : c 16 9 ≤ k := by omega
      simp only [xe_179_0, xe_179_1, xe_179_2, xe_179_5, xe_179_6, xe_179_9, xe_179_11, xe_179_12, xe_179_13, xe_179_14, xe_179_17, xe_179_20, xe_179_21, xe_179_24, xe_179_25, xe_179_26, xe_179_29, xe_179_30, ite_self, mm_nL_I, mm_nL_R, mm_nL_0, Option.bind_some, Option.bind_none, bnd_ite, Option.toList_some, Option.toList_none, List.cons_append, List.nil_append, mm_cats_nil, mm_cats_I, mm_cats_L, mm_cats_R, if_true, if_false, true_and, and_true, false_and, and_false, not_true_eq_false, not_false_eq_true, Int.reduceLE, Int.reduceLT, Int.reduceEq, Int.reduceNe, Int.reduceNeg, Int.reduceAdd, Int.reduceSub, Int.reduceMul, Nat.reduceAdd, Nat.reduceLeDiff, true_or, or_true, false_or, or_false, reduceIte, k_149, h0, h0', h1, q1, f14]
/-- a timing: broken or not, its parts -/
def brb (t : Int → Int) : Bool := decide (t 1 = 0 ∨ t 5 = 0 ∨ t 2 < t 3 + t 4 ∨ t 6 < t 7 + t 8)
theorem brb_i (t : Int → Int) : brb t = true ↔ bro t := by unfold brb bro; exact decide_eq_true_iff
theorem s_isBroken (a : Int) (c : MM) (G : MG) (hk : gk G a = 7) (h : ∀ j, 1 ≤ j → j ≤ 8 → 0 ≤ c a j ∧ c a j ≤ 100000) : ev 68 0 [some (vR a)] [] c G = some (some (vI (if brb (c a) = true then 1 else 0)), c, G) := by
  have b3 := h 3 (by omega) (by omega)
  have b4 := h 4 (by omega) (by omega)
  have b7 := h 7 (by omega) (by omega)
  have b8 := h 8 (by omega) (by omega)
  have w1 : w32 (c a 3 + c a 4) = c a 3 + c a 4 := wi32 (by omega) (by omega)
  have w2 : w32 (c a 7 + c a 8) = c a 7 + c a 8 := wi32 (by omega) (by omega)
  unfold brb
  by_cases h1 : c a 1 = 0
  · simp only [xe_68_0, xe_68_1, xe_68_4, xe_68_7, xe_68_8, xe_68_11, xe_68_14, xe_68_15, xe_68_18, xe_68_19, xe_68_22, xe_68_23, xe_68_24, xe_68_27, xe_68_30, xe_68_31, xe_68_34, xe_68_35, xe_68_38, xe_68_39, xe_68_40, xe_68_43, xe_68_46, xe_68_47, xe_68_50, xe_68_51, ite_self, mm_nL_I, mm_nL_R, mm_nL_0, Option.bind_some, Option.bind_none, bnd_ite, Option.toList_some, Option.toList_none, List.cons_append, List.nil_append, mm_cats_nil, mm_cats_I, mm_cats_L, mm_cats_R, if_true, if_false, true_and, and_true, false_and, and_false, not_true_eq_false, not_false_eq_true, Int.reduceLE, Int.reduceLT, Int.reduceEq, Int.reduceNe, Int.reduceNeg, Int.reduceAdd, Int.reduceSub, Int.reduceMul, Nat.reduceAdd, Nat.reduceLeDiff, true_or, or_true, false_or, or_false, reduceIte, decide_true, decide_false, Bool.false_eq_true, hk, h1]
  · by_cases h2 : c a 5 = 0
    · simp only [xe_68_0, xe_68_1, xe_68_4, xe_68_7, xe_68_8, xe_68_11, xe_68_14, xe_68_15, xe_68_18, xe_68_19, xe_68_22, xe_68_23, xe_68_24, xe_68_27, xe_68_30, xe_68_31, xe_68_34, xe_68_35, xe_68_38, xe_68_39, xe_68_40, xe_68_43, xe_68_46, xe_68_47, xe_68_50, xe_68_51, ite_self, mm_nL_I, mm_nL_R, mm_nL_0, Option.bind_some, Option.bind_none, bnd_ite, Option.toList_some, Option.toList_none, List.cons_append, List.nil_append, mm_cats_nil, mm_cats_I, mm_cats_L, mm_cats_R, if_true, if_false, true_and, and_true, false_and, and_false, not_true_eq_false, not_false_eq_true, Int.reduceLE, Int.reduceLT, Int.reduceEq, Int.reduceNe, Int.reduceNeg, Int.reduceAdd, Int.reduceSub, Int.reduceMul, Nat.reduceAdd, Nat.reduceLeDiff, true_or, or_true, false_or, or_false, reduceIte, decide_true, decide_false, Bool.false_eq_true, hk, h1, h2]
    · by_cases h3 : c a 2 < c a 3 + c a 4
      · have h3' : ¬ c a 3 + c a 4 ≤ c a 2 := by omega
        simp only [xe_68_0, xe_68_1, xe_68_4, xe_68_7, xe_68_8, xe_68_11, xe_68_14, xe_68_15, xe_68_18, xe_68_19, xe_68_22, xe_68_23, xe_68_24, xe_68_27, xe_68_30, xe_68_31, xe_68_34, xe_68_35, xe_68_38, xe_68_39, xe_68_40, xe_68_43, xe_68_46, xe_68_47, xe_68_50, xe_68_51, ite_self, mm_nL_I, mm_nL_R, mm_nL_0, Option.bind_some, Option.bind_none, bnd_ite, Option.toList_some, Option.toList_none, List.cons_append, List.nil_append, mm_cats_nil, mm_cats_I, mm_cats_L, mm_cats_R, if_true, if_false, true_and, and_true, false_and, and_false, not_true_eq_false, not_false_eq_true, Int.reduceLE, Int.reduceLT, Int.reduceEq, Int.reduceNe, Int.reduceNeg, Int.reduceAdd, Int.reduceSub, Int.reduceMul, Nat.reduceAdd, Nat.reduceLeDiff, true_or, or_true, false_or, or_false, reduceIte, decide_true, decide_false, Bool.false_eq_true, hk, h1, h2, h3, h3', w1]
      · have h3' : c a 3 + c a 4 ≤ c a 2 := by omega
        by_cases h4 : c a 6 < c a 7 + c a 8
        · have h4' : ¬ c a 7 + c a 8 ≤ c a 6 := by omega
          simp only [xe_68_0, xe_68_1, xe_68_4, xe_68_7, xe_68_8, xe_68_11, xe_68_14, xe_68_15, xe_68_18, xe_68_19, xe_68_22, xe_68_23, xe_68_24, xe_68_27, xe_68_30, xe_68_31, xe_68_34, xe_68_35, xe_68_38, xe_68_39, xe_68_40, xe_68_43, xe_68_46, xe_68_47, xe_68_50, xe_68_51, ite_self, mm_nL_I, mm_nL_R, mm_nL_0, Option.bind_some, Option.bind_none, bnd_ite, Option.toList_some, Option.toList_none, List.cons_append, List.nil_append, mm_cats_nil, mm_cats_I, mm_cats_L, mm_cats_R, if_true, if_false, true_and, and_true, false_and, and_false, not_true_eq_false, not_false_eq_true, Int.reduceLE, Int.reduceLT, Int.reduceEq, Int.reduceNe, Int.reduceNeg, Int.reduceAdd, Int.reduceSub, Int.reduceMul, Nat.reduceAdd, Nat.reduceLeDiff, true_or, or_true, false_or, or_false, reduceIte, decide_true, decide_false, Bool.false_eq_true, hk, h1, h2, h3, h3', h4, h4', w1, w2]
        · have h4' : c a 7 + c a 8 ≤ c a 6 := by omega
          simp only [xe_68_0, xe_68_1, xe_68_4, xe_68_7, xe_68_8, xe_68_11, xe_68_14, xe_68_15, xe_68_18, xe_68_19, xe_68_22, xe_68_23, xe_68_24, xe_68_27, xe_68_30, xe_68_31, xe_68_34, xe_68_35, xe_68_38, xe_68_39, xe_68_40, xe_68_43, xe_68_46, xe_68_47, xe_68_50, xe_68_51, ite_self, mm_nL_I, mm_nL_R, mm_nL_0, Option.bind_some, Option.bind_none, bnd_ite, Option.toList_some, Option.toList_none, List.cons_append, List.nil_append, mm_cats_nil, mm_cats_I, mm_cats_L, mm_cats_R, if_true, if_false, true_and, and_true, false_and, and_false, not_true_eq_false, not_false_eq_true, Int.reduceLE, Int.reduceLT, Int.reduceEq, Int.reduceNe, Int.reduceNeg, Int.reduceAdd, Int.reduceSub, Int.reduceMul, Nat.reduceAdd, Nat.reduceLeDiff, true_or, or_true, false_or, or_false, reduceIte, decide_true, decide_false, Bool.false_eq_true, hk, h1, h2, h3, h3', h4, h4', w1, w2]
theorem s_part (a w : Int) (c : MM) (G : MG) (ha : 0 < a) (hk : gk G a = 7) (h : ∀ j, 1 ≤ j → j ≤ 8 → 0 ≤ c a j ∧ c a j ≤ 100000) (h9 : c a 9 = 0 ∨ c a 9 = 1) (h0 : 0 ≤ w) (h1 : w ≤ 10) : ev 67 0 [some (vR a), some (vI w)] [] c G = some (some (vI (if w = 10 then if brb (c a) = true then 1 else 0 else c a w)), c, G) := by
  have B := s_isBroken a c G hk h
  have hw : w = 0 ∨ w = 1 ∨ w = 2 ∨ w = 3 ∨ w = 4 ∨ w = 5 ∨ w = 6 ∨ w = 7 ∨ w = 8 ∨ w = 9 ∨ w = 10 := by omega
  by_cases b : brb (c a) = true
  · rw [if_pos b] at B
    rcases h9 with e | e <;>
    rcases hw with rfl | rfl | rfl | rfl | rfl | rfl | rfl | rfl | rfl | rfl | rfl <;>
    simp only [xe_67_0, xe_67_1, xe_67_56, xe_67_57, xe_67_60, xe_67_61, xe_67_62, xe_67_65, xe_67_66, xe_67_67, xe_67_70, xe_67_71, xe_67_72, xe_67_75, xe_67_76, xe_67_77, xe_67_80, xe_67_81, xe_67_82, xe_67_85, xe_67_86, xe_67_87, xe_67_90, xe_67_91, xe_67_92, xe_67_95, xe_67_96, xe_67_97, xe_67_100, xe_67_101, xe_67_102, xe_67_105, xe_67_108, xe_67_109, xe_67_112, xe_67_113, xe_67_114, xe_67_115, xe_67_118, xe_67_121, xe_67_122, xe_67_125, xe_67_126, ite_self, mm_nL_I, mm_nL_R, mm_nL_0, Option.bind_some, Option.bind_none, bnd_ite, Option.toList_some, Option.toList_none, List.cons_append, List.nil_append, mm_cats_nil, mm_cats_I, mm_cats_L, mm_cats_R, if_true, if_false, true_and, and_true, false_and, and_false, not_true_eq_false, not_false_eq_true, Int.reduceLE, Int.reduceLT, Int.reduceEq, Int.reduceNe, Int.reduceNeg, Int.reduceAdd, Int.reduceSub, Int.reduceMul, Nat.reduceAdd, Nat.reduceLeDiff, true_or, or_true, false_or, or_false, reduceIte, Bool.false_eq_true, hk, ha, e, B, b]
  · rw [if_neg b] at B
    rcases h9 with e | e <;>
    rcases hw with rfl | rfl | rfl | rfl | rfl | rfl | rfl | rfl | rfl | rfl | rfl <;>
    simp only [xe_67_0, xe_67_1, xe_67_56, xe_67_57, xe_67_60, xe_67_61, xe_67_62, xe_67_65, xe_67_66, xe_67_67, xe_67_70, xe_67_71, xe_67_72, xe_67_75, xe_67_76, xe_67_77, xe_67_80, xe_67_81, xe_67_82, xe_67_85, xe_67_86, xe_67_87, xe_67_90, xe_67_91, xe_67_92, xe_67_95, xe_67_96, xe_67_97, xe_67_100, xe_67_101, xe_67_102, xe_67_105, xe_67_108, xe_67_109, xe_67_112, xe_67_113, xe_67_114, xe_67_115, xe_67_118, xe_67_121, xe_67_122, xe_67_125, xe_67_126, ite_self, mm_nL_I, mm_nL_R, mm_nL_0, Option.bind_some, Option.bind_none, bnd_ite, Option.toList_some, Option.toList_none, List.cons_append, List.nil_append, mm_cats_nil, mm_cats_I, mm_cats_L, mm_cats_R, if_true, if_false, true_and, and_true, false_and, and_false, not_true_eq_false, not_false_eq_true, Int.reduceLE, Int.reduceLT, Int.reduceEq, Int.reduceNe, Int.reduceNeg, Int.reduceAdd, Int.reduceSub, Int.reduceMul, Nat.reduceAdd, Nat.reduceLeDiff, true_or, or_true, false_or, or_false, reduceIte, Bool.false_eq_true, hk, ha, e, B, b]
theorem s_detAt (L k : Int) (c : MM) (hX : SX c) (h : c 16 6 ≤ 22) : ev 52 0 [some (vR 16), some (vI k)] [] c (g_1 L) = some (some (vR (if 0 ≤ k ∧ k < c 16 6 then 23 + k else 0)), c, g_1 L) := by
  by_cases h1 : 0 ≤ k ∧ k < c 16 6
  · have q0 : ¬ k < 0 := by omega
    have q1 : ¬ c 16 6 ≤ k := by omega
    have q2 : ¬ 22 ≤ k := by omega
    have q3 : k < 22 := by omega
    simp only [xe_52_0, xe_52_1, xe_52_4, xe_52_5, xe_52_6, xe_52_9, xe_52_12, xe_52_13, xe_52_14, xe_52_17, xe_52_18, xe_52_21, xe_52_22, xe_52_25, xe_52_26, xe_52_27, xe_52_30, xe_52_31, ite_self, mm_nL_I, mm_nL_R, mm_nL_0, Option.bind_some, Option.bind_none, bnd_ite, Option.toList_some, Option.toList_none, List.cons_append, List.nil_append, mm_cats_nil, mm_cats_I, mm_cats_L, mm_cats_R, if_true, if_false, true_and, and_true, false_and, and_false, not_true_eq_false, not_false_eq_true, Int.reduceLE, Int.reduceLT, Int.reduceEq, Int.reduceNe, Int.reduceNeg, Int.reduceAdd, Int.reduceSub, Int.reduceMul, Nat.reduceAdd, Nat.reduceLeDiff, true_or, or_true, false_or, or_false, reduceIte, k_16, k_19, l_19, sx_16_1 hX, hX.2.1 k h1.1 q3, h1.1, h1.2, q0, q1, q2, q3]
  · rw [if_neg h1]
    by_cases q0 : k < 0
    · simp only [xe_52_0, xe_52_1, xe_52_4, xe_52_5, xe_52_6, xe_52_9, xe_52_12, xe_52_13, xe_52_14, xe_52_17, xe_52_18, xe_52_21, xe_52_22, xe_52_25, xe_52_26, xe_52_27, xe_52_30, xe_52_31, ite_self, mm_nL_I, mm_nL_R, mm_nL_0, Option.bind_some, Option.bind_none, bnd_ite, Option.toList_some, Option.toList_none, List.cons_append, List.nil_append, mm_cats_nil, mm_cats_I, mm_cats_L, mm_cats_R, if_true, if_false, true_and, and_true, false_and, and_false, not_true_eq_false, not_false_eq_true, Int.reduceLE, Int.reduceLT, Int.reduceEq, Int.reduceNe, Int.reduceNeg, Int.reduceAdd, Int.reduceSub, Int.reduceMul, Nat.reduceAdd, Nat.reduceLeDiff, true_or, or_true, false_or, or_false, reduceIte, k_16, k_19, l_19, sx_16_1 hX, q0]
    · have q1 : c 16 6 ≤ k := by omega
      simp only [xe_52_0, xe_52_1, xe_52_4, xe_52_5, xe_52_6, xe_52_9, xe_52_12, xe_52_13, xe_52_14, xe_52_17, xe_52_18, xe_52_21, xe_52_22, xe_52_25, xe_52_26, xe_52_27, xe_52_30, xe_52_31, ite_self, mm_nL_I, mm_nL_R, mm_nL_0, Option.bind_some, Option.bind_none, bnd_ite, Option.toList_some, Option.toList_none, List.cons_append, List.nil_append, mm_cats_nil, mm_cats_I, mm_cats_L, mm_cats_R, if_true, if_false, true_and, and_true, false_and, and_false, not_true_eq_false, not_false_eq_true, Int.reduceLE, Int.reduceLT, Int.reduceEq, Int.reduceNe, Int.reduceNeg, Int.reduceAdd, Int.reduceSub, Int.reduceMul, Nat.reduceAdd, Nat.reduceLeDiff, true_or, or_true, false_or, or_false, reduceIte, k_16, k_19, l_19, sx_16_1 hX, q0, q1]
theorem s_detX (L k w : Int) (c r : MM) (hX : SX c) (hR : Rscr c r) : ev 106 0 [some (vR 10), some (vI k), some (vI w), none] [] c (g_1 L) = some (some (vI (if 0 ≤ k ∧ k < c 16 6 ∧ 0 ≤ w ∧ w ≤ 10 then r 153 (11 * k + w) else -2)), c, g_1 L) := by
  obtain ⟨s1, s2, s3, s4, s5, ⟨s6, s7, s8, s9, s10⟩, _⟩ := hR
  have A := s_detAt L k c hX s8
  by_cases h : 0 ≤ k ∧ k < c 16 6
  · rw [if_pos h] at A
    obtain ⟨d1, d2, d3, d4⟩ := s10 k h.1 h.2
    have n7 : ¬ 23 + k = 7 := by omega
    have n0 : ¬ 23 + k = 0 := by omega
    have g0 : 0 < 23 + k := by omega
    have kt := k_tim L k h.1 (by omega)
    by_cases g : 0 ≤ w ∧ w ≤ 10
    · have q0 : ¬ w < 0 := by omega
      have P := s_part (23 + k) w c (g_1 L) g0 kt (fun j h0 h1 => ⟨(d2.2.2.1 j h0 h1).1, by have := (d2.2.2.1 j h0 h1).2; omega⟩) d2.2.2.2.2.2.2.2 g.1 g.2
      have v : (if w = 10 then if brb (c (23 + k)) = true then 1 else 0 else c (23 + k) w) = r 153 (11 * k + w) := by
        split
        · rename_i e; subst e
          split
          · rename_i b; rw [d4.2 ((brb_i _).1 b)]
          · rename_i b
            rcases d3 with e | e
            · rw [e]
            · exact absurd ((brb_i _).2 (d4.1 e)) b
        · exact d1 w g.1 (by omega)
      rw [v] at P
      rw [if_pos ⟨h.1, h.2, g⟩]
      simp only [xe_106_0, xe_106_1, xe_106_4, xe_106_5, xe_106_8 _ _ (some (vI _)) _ _ _ _ _ rfl, xe_106_8 _ _ (some (vR _)) _ _ _ _ _ rfl, xe_106_8 _ _ none _ _ _ _ _ rfl, xe_106_9, xe_106_10, xe_106_13, xe_106_14, xe_106_17, xe_106_18, xe_106_20, xe_106_23, xe_106_25, xe_106_26, xe_106_27, xe_106_28, xe_106_31, ite_self, mm_nL_I, mm_nL_R, mm_nL_0, Option.bind_some, Option.bind_none, bnd_ite, Option.toList_some, Option.toList_none, List.cons_append, List.nil_append, mm_cats_nil, mm_cats_I, mm_cats_L, mm_cats_R, if_true, if_false, true_and, and_true, false_and, and_false, not_true_eq_false, not_false_eq_true, Int.reduceLE, Int.reduceLT, Int.reduceEq, Int.reduceNe, Int.reduceNeg, Int.reduceAdd, Int.reduceSub, Int.reduceMul, Nat.reduceAdd, Nat.reduceLeDiff, true_or, or_true, false_or, or_false, reduceIte, k_10, k_16, sx_10_3 hX, A, n7, n0, g0, q0, g.2, P, kt]
    · rw [if_neg (fun q => g q.2.2)]
      by_cases q0 : w < 0
      · simp only [xe_106_0, xe_106_1, xe_106_4, xe_106_5, xe_106_8 _ _ (some (vI _)) _ _ _ _ _ rfl, xe_106_8 _ _ (some (vR _)) _ _ _ _ _ rfl, xe_106_8 _ _ none _ _ _ _ _ rfl, xe_106_9, xe_106_10, xe_106_13, xe_106_14, xe_106_17, xe_106_18, xe_106_20, xe_106_23, xe_106_25, xe_106_26, xe_106_27, xe_106_28, xe_106_31, ite_self, mm_nL_I, mm_nL_R, mm_nL_0, Option.bind_some, Option.bind_none, bnd_ite, Option.toList_some, Option.toList_none, List.cons_append, List.nil_append, mm_cats_nil, mm_cats_I, mm_cats_L, mm_cats_R, if_true, if_false, true_and, and_true, false_and, and_false, not_true_eq_false, not_false_eq_true, Int.reduceLE, Int.reduceLT, Int.reduceEq, Int.reduceNe, Int.reduceNeg, Int.reduceAdd, Int.reduceSub, Int.reduceMul, Nat.reduceAdd, Nat.reduceLeDiff, true_or, or_true, false_or, or_false, reduceIte, k_10, k_16, sx_10_3 hX, A, n7, n0, q0]
      · have q1 : ¬ w ≤ 10 := by omega
        simp only [xe_106_0, xe_106_1, xe_106_4, xe_106_5, xe_106_8 _ _ (some (vI _)) _ _ _ _ _ rfl, xe_106_8 _ _ (some (vR _)) _ _ _ _ _ rfl, xe_106_8 _ _ none _ _ _ _ _ rfl, xe_106_9, xe_106_10, xe_106_13, xe_106_14, xe_106_17, xe_106_18, xe_106_20, xe_106_23, xe_106_25, xe_106_26, xe_106_27, xe_106_28, xe_106_31, ite_self, mm_nL_I, mm_nL_R, mm_nL_0, Option.bind_some, Option.bind_none, bnd_ite, Option.toList_some, Option.toList_none, List.cons_append, List.nil_append, mm_cats_nil, mm_cats_I, mm_cats_L, mm_cats_R, if_true, if_false, true_and, and_true, false_and, and_false, not_true_eq_false, not_false_eq_true, Int.reduceLE, Int.reduceLT, Int.reduceEq, Int.reduceNe, Int.reduceNeg, Int.reduceAdd, Int.reduceSub, Int.reduceMul, Nat.reduceAdd, Nat.reduceLeDiff, true_or, or_true, false_or, or_false, reduceIte, k_10, k_16, sx_10_3 hX, A, n7, n0, q0, q1]
  · rw [if_neg h] at A
    rw [if_neg (fun q => h ⟨q.1, q.2.1⟩)]
    simp only [xe_106_0, xe_106_1, xe_106_4, xe_106_5, xe_106_8 _ _ (some (vI _)) _ _ _ _ _ rfl, xe_106_8 _ _ (some (vR _)) _ _ _ _ _ rfl, xe_106_8 _ _ none _ _ _ _ _ rfl, xe_106_9, xe_106_10, xe_106_13, xe_106_14, xe_106_17, xe_106_18, xe_106_20, xe_106_23, xe_106_25, xe_106_26, xe_106_27, xe_106_28, xe_106_31, ite_self, mm_nL_I, mm_nL_R, mm_nL_0, Option.bind_some, Option.bind_none, bnd_ite, Option.toList_some, Option.toList_none, List.cons_append, List.nil_append, mm_cats_nil, mm_cats_I, mm_cats_L, mm_cats_R, if_true, if_false, true_and, and_true, false_and, and_false, not_true_eq_false, not_false_eq_true, Int.reduceLE, Int.reduceLT, Int.reduceEq, Int.reduceNe, Int.reduceNeg, Int.reduceAdd, Int.reduceSub, Int.reduceMul, Nat.reduceAdd, Nat.reduceLeDiff, true_or, or_true, false_or, or_false, reduceIte, k_10, k_16, sx_10_3 hX, A]
theorem s_detM (L k w : Int) (c r : MM) (hM : SM r) (hR : Rscr c r) : ev 180 0 [some (vR 149), some (vI k), some (vI w)] [] r (g_1 L) = some (some (vI (if 0 ≤ k ∧ k < c 16 6 ∧ 0 ≤ w ∧ w ≤ 10 then r 153 (11 * k + w) else -2)), mset r 149 0 0, g_1 L) := by
  have n : ∀ j, ¬ j = 0 → mset r 149 0 0 149 j = r 149 j := fun j hj => ms_nk _ _ _ _ _ _ hj
  obtain ⟨s1, s2, s3, s4, s5, ⟨s6, s7, s8, s9, s10⟩, _⟩ := hR
  have f13 : mset r 149 0 0 149 13 = c 16 6 := by rw [n 13 (by omega), s6]
  have p9 : mset r 149 0 0 149 9 = 153 := by rw [n 9 (by omega)]; exact sm_149_9 hM
  have w1 : w32 (c 16 6 - 1) = c 16 6 - 1 := wi32 (by omega) (by omega)
  by_cases h : 0 ≤ k ∧ k ≤ c 16 6 - 1
  · by_cases g : 0 ≤ w ∧ w ≤ 10
    · rw [if_pos ⟨h.1, by omega, g⟩]
      have w2 : w32 (11 * k) = 11 * k := wi32 (by omega) (by omega)
      have w3 : w32 (11 * k + w) = 11 * k + w := wi32 (by omega) (by omega)
      have q0 : 0 ≤ 11 * k + w := by omega
      have q1 : 11 * k + w < 286 := by omega
      have v : mset r 149 0 0 153 (11 * k + w) = r 153 (11 * k + w) := ms_na _ _ _ _ _ _ (by omega)
      simp only [xe_180_0, xe_180_1, xe_180_2, xe_180_5, xe_180_6, xe_180_7, xe_180_8, xe_180_9, xe_180_12, xe_180_13, xe_180_14, xe_180_15, xe_180_18, xe_180_21, xe_180_22, xe_180_23, xe_180_24, xe_180_27, xe_180_30, xe_180_33, xe_180_34, xe_180_37, xe_180_39, xe_180_40, xe_180_41, xe_180_42, xe_180_43, xe_180_44, xe_180_47, xe_180_49, ite_self, mm_nL_I, mm_nL_R, mm_nL_0, Option.bind_some, Option.bind_none, bnd_ite, Option.toList_some, Option.toList_none, List.cons_append, List.nil_append, mm_cats_nil, mm_cats_I, mm_cats_L, mm_cats_R, if_true, if_false, true_and, and_true, false_and, and_false, not_true_eq_false, not_false_eq_true, Int.reduceLE, Int.reduceLT, Int.reduceEq, Int.reduceNe, Int.reduceNeg, Int.reduceAdd, Int.reduceSub, Int.reduceMul, Nat.reduceAdd, Nat.reduceLeDiff, true_or, or_true, false_or, or_false, reduceIte, k_149, k_153, l_153, s_isIn, bi, f13, p9, w1, h, g, w2, w3, q0, q1, v]
    · rw [if_neg (fun q => g q.2.2)]
      simp only [xe_180_0, xe_180_1, xe_180_2, xe_180_5, xe_180_6, xe_180_7, xe_180_8, xe_180_9, xe_180_12, xe_180_13, xe_180_14, xe_180_15, xe_180_18, xe_180_21, xe_180_22, xe_180_23, xe_180_24, xe_180_27, xe_180_30, xe_180_33, xe_180_34, xe_180_37, xe_180_39, xe_180_40, xe_180_41, xe_180_42, xe_180_43, xe_180_44, xe_180_47, xe_180_49, ite_self, mm_nL_I, mm_nL_R, mm_nL_0, Option.bind_some, Option.bind_none, bnd_ite, Option.toList_some, Option.toList_none, List.cons_append, List.nil_append, mm_cats_nil, mm_cats_I, mm_cats_L, mm_cats_R, if_true, if_false, true_and, and_true, false_and, and_false, not_true_eq_false, not_false_eq_true, Int.reduceLE, Int.reduceLT, Int.reduceEq, Int.reduceNe, Int.reduceNeg, Int.reduceAdd, Int.reduceSub, Int.reduceMul, Nat.reduceAdd, Nat.reduceLeDiff, true_or, or_true, false_or, or_false, reduceIte, k_149, s_isIn, bi, f13, p9, w1, h, g]
  · rw [if_neg (fun q => h ⟨q.1, by omega⟩)]
    simp only [xe_180_0, xe_180_1, xe_180_2, xe_180_5, xe_180_6, xe_180_7, xe_180_8, xe_180_9, xe_180_12, xe_180_13, xe_180_14, xe_180_15, xe_180_18, xe_180_21, xe_180_22, xe_180_23, xe_180_24, xe_180_27, xe_180_30, xe_180_33, xe_180_34, xe_180_37, xe_180_39, xe_180_40, xe_180_41, xe_180_42, xe_180_43, xe_180_44, xe_180_47, xe_180_49, ite_self, mm_nL_I, mm_nL_R, mm_nL_0, Option.bind_some, Option.bind_none, bnd_ite, Option.toList_some, Option.toList_none, List.cons_append, List.nil_append, mm_cats_nil, mm_cats_I, mm_cats_L, mm_cats_R, if_true, if_false, true_and, and_true, false_and, and_false, not_true_eq_false, not_false_eq_true, Int.reduceLE, Int.reduceLT, Int.reduceEq, Int.reduceNe, Int.reduceNeg, Int.reduceAdd, Int.reduceSub, Int.reduceMul, Nat.reduceAdd, Nat.reduceLeDiff, true_or, or_true, false_or, or_false, reduceIte, k_149, s_isIn, bi, f13, p9, w1, h]
