/-! formulas -/
def syv (h v : Int) : Int := if h = v * 4 / 24 * 8 then 4 else if h = v * 16 / 72 * 8 then 5 else if h = v * 16 / 80 * 8 then 6 else if h = v * 5 / 32 * 8 ∨ h = v * 15 / 72 * 8 then 7 else 10
theorem syv_ok (h v : Int) : 4 ≤ syv h v ∧ syv h v ≤ 10 := by unfold syv; repeat' split <;> omega
def lin (v z : Int) : Int := 460 * v * z / (1000000 - 460 * z) + 1
theorem lin_ok {v z : Int} (v0 : 0 ≤ v) (v1 : v ≤ 4095) (z0 : 0 ≤ z) (z1 : z ≤ 240) : 1 ≤ lin v z ∧ lin v z ≤ 509 ∧ 0 ≤ 460 * v * z ∧ 460 * v * z ≤ 452088000 := by
  have b := mul_bd (show 0 ≤ 460 * v by omega) (show 460 * v ≤ 1883700 by omega) z0 (Int.le_refl z)
  have s0 : 0 < 1000000 - 460 * z := by omega
  have q0 : 0 ≤ 460 * v * z / (1000000 - 460 * z) := Int.ediv_nonneg b.1 (by omega)
  have q1 : 460 * v * z / (1000000 - 460 * z) < 509 := Int.ediv_lt_of_lt_mul s0 (by omega)
  unfold lin
  omega
/-- part j of what is worked out -/
def drh (k h : Int) : Int := if k = 0 then h / 8 * 8 else h
def drb (k : Int) : Int := if k = 0 then 160 else 80
def drs (k h v : Int) : Int := if k = 0 then syv (h / 8 * 8) v else 8
def drl (k h v z : Int) : Int := if k = 0 then max (lin v z) (syv (h / 8 * 8) v + 9) else max (lin v z) 15
def drk (k h v z : Int) : Int := if k = 0 then z * ((drh k h + drb k) * (v + drl k h v z)) / 250000 * 250 else z * ((drh k h + drb k) * (v + drl k h v z)) / 1000
def dr (k h v z j : Int) : Int := if j = 0 then drh k h else if j = 1 then drb k else if j = 2 then (if k = 0 then 48 else 8) else if j = 3 then 32 else if j = 4 then v else if j = 5 then drl k h v z else if j = 6 then (if k = 0 then 3 else drl k h v z - 14) else if j = 7 then drs k h v else drk k h v z
theorem drl_ok {k h v z : Int} (v0 : 0 ≤ v) (v1 : v ≤ 4095) (z0 : 0 ≤ z) (z1 : z ≤ 240) : 13 ≤ drl k h v z ∧ drl k h v z ≤ 509 ∧ (¬ k = 0 → 15 ≤ drl k h v z) := by
  have l := lin_ok v0 v1 z0 z1
  have s := syv_ok (h / 8 * 8) v
  unfold drl
  split <;> omega
theorem s_syncX (h v : Int) (c : MM) (G : MG) (v0 : 0 ≤ v) (v1 : v ≤ 4095) : ev 64 0 [some (vI h), some (vI v)] [] c G = some (some (vI (syv h v)), c, G) := by
  have a1 : w32 (v * 4) = v * 4 := wi32 (by omega) (by omega)
  have a2 : w32 (v * 16) = v * 16 := wi32 (by omega) (by omega)
  have a3 : w32 (v * 5) = v * 5 := wi32 (by omega) (by omega)
  have a4 : w32 (v * 15) = v * 15 := wi32 (by omega) (by omega)
  have d1 : mm_div (v * 4) 24 = v * 4 / 24 := nu_div (by omega) (by omega) (by omega) (by omega)
  have d2 : mm_div (v * 16) 72 = v * 16 / 72 := nu_div (by omega) (by omega) (by omega) (by omega)
  have d3 : mm_div (v * 16) 80 = v * 16 / 80 := nu_div (by omega) (by omega) (by omega) (by omega)
  have d4 : mm_div (v * 5) 32 = v * 5 / 32 := nu_div (by omega) (by omega) (by omega) (by omega)
  have d5 : mm_div (v * 15) 72 = v * 15 / 72 := nu_div (by omega) (by omega) (by omega) (by omega)
  have e1 : w32 (v * 4 / 24 * 8) = v * 4 / 24 * 8 := wi32 (by omega) (by omega)
  have e2 : w32 (v * 16 / 72 * 8) = v * 16 / 72 * 8 := wi32 (by omega) (by omega)
  have e3 : w32 (v * 16 / 80 * 8) = v * 16 / 80 * 8 := wi32 (by omega) (by omega)
  have e4 : w32 (v * 5 / 32 * 8) = v * 5 / 32 * 8 := wi32 (by omega) (by omega)
  have e5 : w32 (v * 15 / 72 * 8) = v * 15 / 72 * 8 := wi32 (by omega) (by omega)
  unfold syv
  by_cases h1 : h = v * 4 / 24 * 8
  · simp only [xe_64_0, xe_64_1, xe_64_2, xe_64_3, xe_64_4, xe_64_6, xe_64_7, xe_64_9, xe_64_10, xe_64_13, xe_64_14, xe_64_15, xe_64_16, xe_64_17, xe_64_19, xe_64_20, xe_64_22, xe_64_23, xe_64_25, xe_64_26, xe_64_29, xe_64_30, xe_64_31, xe_64_32, xe_64_33, xe_64_35, xe_64_36, xe_64_38, xe_64_39, xe_64_41, xe_64_42, xe_64_45, xe_64_47, xe_64_48, xe_64_49, xe_64_50, xe_64_51, xe_64_52, xe_64_54, xe_64_55, xe_64_57, xe_64_58, xe_64_61, xe_64_62, xe_64_63, xe_64_65, xe_64_66, xe_64_68, xe_64_69, xe_64_71, xe_64_72, xe_64_75, xe_64_77, xe_64_80, xe_64_82, ite_self, mm_nL_I, mm_nL_R, mm_nL_0, Option.bind_some, Option.bind_none, bnd_ite, Option.toList_some, Option.toList_none, List.cons_append, List.nil_append, mm_cats_nil, mm_cats_I, mm_cats_L, mm_cats_R, if_true, if_false, true_and, and_true, false_and, and_false, not_true_eq_false, not_false_eq_true, Int.reduceLE, Int.reduceLT, Int.reduceEq, Int.reduceNe, Int.reduceNeg, Int.reduceAdd, Int.reduceSub, Int.reduceMul, Nat.reduceAdd, Nat.reduceLeDiff, true_or, or_true, false_or, or_false, reduceIte, a1, d1, e1, h1]
  · by_cases h2 : h = v * 16 / 72 * 8
    · have h2' : ¬ v * 16 / 72 * 8 = v * 4 / 24 * 8 := by omega
      simp only [xe_64_0, xe_64_1, xe_64_2, xe_64_3, xe_64_4, xe_64_6, xe_64_7, xe_64_9, xe_64_10, xe_64_13, xe_64_14, xe_64_15, xe_64_16, xe_64_17, xe_64_19, xe_64_20, xe_64_22, xe_64_23, xe_64_25, xe_64_26, xe_64_29, xe_64_30, xe_64_31, xe_64_32, xe_64_33, xe_64_35, xe_64_36, xe_64_38, xe_64_39, xe_64_41, xe_64_42, xe_64_45, xe_64_47, xe_64_48, xe_64_49, xe_64_50, xe_64_51, xe_64_52, xe_64_54, xe_64_55, xe_64_57, xe_64_58, xe_64_61, xe_64_62, xe_64_63, xe_64_65, xe_64_66, xe_64_68, xe_64_69, xe_64_71, xe_64_72, xe_64_75, xe_64_77, xe_64_80, xe_64_82, ite_self, mm_nL_I, mm_nL_R, mm_nL_0, Option.bind_some, Option.bind_none, bnd_ite, Option.toList_some, Option.toList_none, List.cons_append, List.nil_append, mm_cats_nil, mm_cats_I, mm_cats_L, mm_cats_R, if_true, if_false, true_and, and_true, false_and, and_false, not_true_eq_false, not_false_eq_true, Int.reduceLE, Int.reduceLT, Int.reduceEq, Int.reduceNe, Int.reduceNeg, Int.reduceAdd, Int.reduceSub, Int.reduceMul, Nat.reduceAdd, Nat.reduceLeDiff, true_or, or_true, false_or, or_false, reduceIte, a1, a2, d1, d2, e1, e2, h2, h2']
    · by_cases h3 : h = v * 16 / 80 * 8
      · have h3' : ¬ v * 16 / 80 * 8 = v * 4 / 24 * 8 := by omega
        have h3'' : ¬ v * 16 / 80 * 8 = v * 16 / 72 * 8 := by omega
        simp only [xe_64_0, xe_64_1, xe_64_2, xe_64_3, xe_64_4, xe_64_6, xe_64_7, xe_64_9, xe_64_10, xe_64_13, xe_64_14, xe_64_15, xe_64_16, xe_64_17, xe_64_19, xe_64_20, xe_64_22, xe_64_23, xe_64_25, xe_64_26, xe_64_29, xe_64_30, xe_64_31, xe_64_32, xe_64_33, xe_64_35, xe_64_36, xe_64_38, xe_64_39, xe_64_41, xe_64_42, xe_64_45, xe_64_47, xe_64_48, xe_64_49, xe_64_50, xe_64_51, xe_64_52, xe_64_54, xe_64_55, xe_64_57, xe_64_58, xe_64_61, xe_64_62, xe_64_63, xe_64_65, xe_64_66, xe_64_68, xe_64_69, xe_64_71, xe_64_72, xe_64_75, xe_64_77, xe_64_80, xe_64_82, ite_self, mm_nL_I, mm_nL_R, mm_nL_0, Option.bind_some, Option.bind_none, bnd_ite, Option.toList_some, Option.toList_none, List.cons_append, List.nil_append, mm_cats_nil, mm_cats_I, mm_cats_L, mm_cats_R, if_true, if_false, true_and, and_true, false_and, and_false, not_true_eq_false, not_false_eq_true, Int.reduceLE, Int.reduceLT, Int.reduceEq, Int.reduceNe, Int.reduceNeg, Int.reduceAdd, Int.reduceSub, Int.reduceMul, Nat.reduceAdd, Nat.reduceLeDiff, true_or, or_true, false_or, or_false, reduceIte, a1, a2, d1, d2, d3, e1, e2, e3, h3, h3', h3'']
      · by_cases h4 : h = v * 5 / 32 * 8
        · subst h4
          simp only [xe_64_0, xe_64_1, xe_64_2, xe_64_3, xe_64_4, xe_64_6, xe_64_7, xe_64_9, xe_64_10, xe_64_13, xe_64_14, xe_64_15, xe_64_16, xe_64_17, xe_64_19, xe_64_20, xe_64_22, xe_64_23, xe_64_25, xe_64_26, xe_64_29, xe_64_30, xe_64_31, xe_64_32, xe_64_33, xe_64_35, xe_64_36, xe_64_38, xe_64_39, xe_64_41, xe_64_42, xe_64_45, xe_64_47, xe_64_48, xe_64_49, xe_64_50, xe_64_51, xe_64_52, xe_64_54, xe_64_55, xe_64_57, xe_64_58, xe_64_61, xe_64_62, xe_64_63, xe_64_65, xe_64_66, xe_64_68, xe_64_69, xe_64_71, xe_64_72, xe_64_75, xe_64_77, xe_64_80, xe_64_82, ite_self, mm_nL_I, mm_nL_R, mm_nL_0, Option.bind_some, Option.bind_none, bnd_ite, Option.toList_some, Option.toList_none, List.cons_append, List.nil_append, mm_cats_nil, mm_cats_I, mm_cats_L, mm_cats_R, if_true, if_false, true_and, and_true, false_and, and_false, not_true_eq_false, not_false_eq_true, Int.reduceLE, Int.reduceLT, Int.reduceEq, Int.reduceNe, Int.reduceNeg, Int.reduceAdd, Int.reduceSub, Int.reduceMul, Nat.reduceAdd, Nat.reduceLeDiff, true_or, or_true, false_or, or_false, reduceIte, a1, a2, a3, d1, d2, d3, d4, e1, e2, e3, e4, h1, h2, h3]
        · by_cases h5 : h = v * 15 / 72 * 8
          · subst h5
            simp only [xe_64_0, xe_64_1, xe_64_2, xe_64_3, xe_64_4, xe_64_6, xe_64_7, xe_64_9, xe_64_10, xe_64_13, xe_64_14, xe_64_15, xe_64_16, xe_64_17, xe_64_19, xe_64_20, xe_64_22, xe_64_23, xe_64_25, xe_64_26, xe_64_29, xe_64_30, xe_64_31, xe_64_32, xe_64_33, xe_64_35, xe_64_36, xe_64_38, xe_64_39, xe_64_41, xe_64_42, xe_64_45, xe_64_47, xe_64_48, xe_64_49, xe_64_50, xe_64_51, xe_64_52, xe_64_54, xe_64_55, xe_64_57, xe_64_58, xe_64_61, xe_64_62, xe_64_63, xe_64_65, xe_64_66, xe_64_68, xe_64_69, xe_64_71, xe_64_72, xe_64_75, xe_64_77, xe_64_80, xe_64_82, ite_self, mm_nL_I, mm_nL_R, mm_nL_0, Option.bind_some, Option.bind_none, bnd_ite, Option.toList_some, Option.toList_none, List.cons_append, List.nil_append, mm_cats_nil, mm_cats_I, mm_cats_L, mm_cats_R, if_true, if_false, true_and, and_true, false_and, and_false, not_true_eq_false, not_false_eq_true, Int.reduceLE, Int.reduceLT, Int.reduceEq, Int.reduceNe, Int.reduceNeg, Int.reduceAdd, Int.reduceSub, Int.reduceMul, Nat.reduceAdd, Nat.reduceLeDiff, true_or, or_true, false_or, or_false, reduceIte, a1, a2, a3, a4, d1, d2, d3, d4, d5, e1, e2, e3, e4, e5, h1, h2, h3, h4]
          · simp only [xe_64_0, xe_64_1, xe_64_2, xe_64_3, xe_64_4, xe_64_6, xe_64_7, xe_64_9, xe_64_10, xe_64_13, xe_64_14, xe_64_15, xe_64_16, xe_64_17, xe_64_19, xe_64_20, xe_64_22, xe_64_23, xe_64_25, xe_64_26, xe_64_29, xe_64_30, xe_64_31, xe_64_32, xe_64_33, xe_64_35, xe_64_36, xe_64_38, xe_64_39, xe_64_41, xe_64_42, xe_64_45, xe_64_47, xe_64_48, xe_64_49, xe_64_50, xe_64_51, xe_64_52, xe_64_54, xe_64_55, xe_64_57, xe_64_58, xe_64_61, xe_64_62, xe_64_63, xe_64_65, xe_64_66, xe_64_68, xe_64_69, xe_64_71, xe_64_72, xe_64_75, xe_64_77, xe_64_80, xe_64_82, ite_self, mm_nL_I, mm_nL_R, mm_nL_0, Option.bind_some, Option.bind_none, bnd_ite, Option.toList_some, Option.toList_none, List.cons_append, List.nil_append, mm_cats_nil, mm_cats_I, mm_cats_L, mm_cats_R, if_true, if_false, true_and, and_true, false_and, and_false, not_true_eq_false, not_false_eq_true, Int.reduceLE, Int.reduceLT, Int.reduceEq, Int.reduceNe, Int.reduceNeg, Int.reduceAdd, Int.reduceSub, Int.reduceMul, Nat.reduceAdd, Nat.reduceLeDiff, true_or, or_true, false_or, or_false, reduceIte, a1, a2, a3, a4, d1, d2, d3, d4, d5, e1, e2, e3, e4, e5, h1, h2, h3, h4, h5]
theorem s_syncM (h v : Int) (c : MM) (G : MG) (v0 : 0 ≤ v) (v1 : v ≤ 4095) : ev 193 0 [some (vI h), some (vI v)] [] c G = some (some (vI (syv h v)), c, G) := by
  have a1 : w32 (v * 4) = v * 4 := wi32 (by omega) (by omega)
  have a2 : w32 (v * 16) = v * 16 := wi32 (by omega) (by omega)
  have a3 : w32 (v * 5) = v * 5 := wi32 (by omega) (by omega)
  have a4 : w32 (v * 15) = v * 15 := wi32 (by omega) (by omega)
  have d1 : mm_div (v * 4) 24 = v * 4 / 24 := nu_div (by omega) (by omega) (by omega) (by omega)
  have d2 : mm_div (v * 16) 72 = v * 16 / 72 := nu_div (by omega) (by omega) (by omega) (by omega)
  have d3 : mm_div (v * 16) 80 = v * 16 / 80 := nu_div (by omega) (by omega) (by omega) (by omega)
  have d4 : mm_div (v * 5) 32 = v * 5 / 32 := nu_div (by omega) (by omega) (by omega) (by omega)
  have d5 : mm_div (v * 15) 72 = v * 15 / 72 := nu_div (by omega) (by omega) (by omega) (by omega)
  have e1 : w32 (v * 4 / 24 * 8) = v * 4 / 24 * 8 := wi32 (by omega) (by omega)
  have e2 : w32 (v * 16 / 72 * 8) = v * 16 / 72 * 8 := wi32 (by omega) (by omega)
  have e3 : w32 (v * 16 / 80 * 8) = v * 16 / 80 * 8 := wi32 (by omega) (by omega)
  have e4 : w32 (v * 5 / 32 * 8) = v * 5 / 32 * 8 := wi32 (by omega) (by omega)
  have e5 : w32 (v * 15 / 72 * 8) = v * 15 / 72 * 8 := wi32 (by omega) (by omega)
  unfold syv
  by_cases h1 : h = v * 4 / 24 * 8
  · simp only [xe_193_0, xe_193_1, xe_193_2, xe_193_3, xe_193_4, xe_193_6, xe_193_7, xe_193_9, xe_193_10, xe_193_13, xe_193_14, xe_193_15, xe_193_16, xe_193_17, xe_193_19, xe_193_20, xe_193_22, xe_193_23, xe_193_25, xe_193_26, xe_193_29, xe_193_30, xe_193_31, xe_193_32, xe_193_33, xe_193_35, xe_193_36, xe_193_38, xe_193_39, xe_193_41, xe_193_42, xe_193_45, xe_193_47, xe_193_48, xe_193_49, xe_193_50, xe_193_51, xe_193_52, xe_193_54, xe_193_55, xe_193_57, xe_193_58, xe_193_61, xe_193_62, xe_193_63, xe_193_65, xe_193_66, xe_193_68, xe_193_69, xe_193_71, xe_193_72, xe_193_75, xe_193_77, xe_193_80, xe_193_82, ite_self, mm_nL_I, mm_nL_R, mm_nL_0, Option.bind_some, Option.bind_none, bnd_ite, Option.toList_some, Option.toList_none, List.cons_append, List.nil_append, mm_cats_nil, mm_cats_I, mm_cats_L, mm_cats_R, if_true, if_false, true_and, and_true, false_and, and_false, not_true_eq_false, not_false_eq_true, Int.reduceLE, Int.reduceLT, Int.reduceEq, Int.reduceNe, Int.reduceNeg, Int.reduceAdd, Int.reduceSub, Int.reduceMul, Nat.reduceAdd, Nat.reduceLeDiff, true_or, or_true, false_or, or_false, reduceIte, a1, d1, e1, h1]
  · by_cases h2 : h = v * 16 / 72 * 8
    · have h2' : ¬ v * 16 / 72 * 8 = v * 4 / 24 * 8 := by omega
      simp only [xe_193_0, xe_193_1, xe_193_2, xe_193_3, xe_193_4, xe_193_6, xe_193_7, xe_193_9, xe_193_10, xe_193_13, xe_193_14, xe_193_15, xe_193_16, xe_193_17, xe_193_19, xe_193_20, xe_193_22, xe_193_23, xe_193_25, xe_193_26, xe_193_29, xe_193_30, xe_193_31, xe_193_32, xe_193_33, xe_193_35, xe_193_36, xe_193_38, xe_193_39, xe_193_41, xe_193_42, xe_193_45, xe_193_47, xe_193_48, xe_193_49, xe_193_50, xe_193_51, xe_193_52, xe_193_54, xe_193_55, xe_193_57, xe_193_58, xe_193_61, xe_193_62, xe_193_63, xe_193_65, xe_193_66, xe_193_68, xe_193_69, xe_193_71, xe_193_72, xe_193_75, xe_193_77, xe_193_80, xe_193_82, ite_self, mm_nL_I, mm_nL_R, mm_nL_0, Option.bind_some, Option.bind_none, bnd_ite, Option.toList_some, Option.toList_none, List.cons_append, List.nil_append, mm_cats_nil, mm_cats_I, mm_cats_L, mm_cats_R, if_true, if_false, true_and, and_true, false_and, and_false, not_true_eq_false, not_false_eq_true, Int.reduceLE, Int.reduceLT, Int.reduceEq, Int.reduceNe, Int.reduceNeg, Int.reduceAdd, Int.reduceSub, Int.reduceMul, Nat.reduceAdd, Nat.reduceLeDiff, true_or, or_true, false_or, or_false, reduceIte, a1, a2, d1, d2, e1, e2, h2, h2']
    · by_cases h3 : h = v * 16 / 80 * 8
      · have h3' : ¬ v * 16 / 80 * 8 = v * 4 / 24 * 8 := by omega
        have h3'' : ¬ v * 16 / 80 * 8 = v * 16 / 72 * 8 := by omega
        simp only [xe_193_0, xe_193_1, xe_193_2, xe_193_3, xe_193_4, xe_193_6, xe_193_7, xe_193_9, xe_193_10, xe_193_13, xe_193_14, xe_193_15, xe_193_16, xe_193_17, xe_193_19, xe_193_20, xe_193_22, xe_193_23, xe_193_25, xe_193_26, xe_193_29, xe_193_30, xe_193_31, xe_193_32, xe_193_33, xe_193_35, xe_193_36, xe_193_38, xe_193_39, xe_193_41, xe_193_42, xe_193_45, xe_193_47, xe_193_48, xe_193_49, xe_193_50, xe_193_51, xe_193_52, xe_193_54, xe_193_55, xe_193_57, xe_193_58, xe_193_61, xe_193_62, xe_193_63, xe_193_65, xe_193_66, xe_193_68, xe_193_69, xe_193_71, xe_193_72, xe_193_75, xe_193_77, xe_193_80, xe_193_82, ite_self, mm_nL_I, mm_nL_R, mm_nL_0, Option.bind_some, Option.bind_none, bnd_ite, Option.toList_some, Option.toList_none, List.cons_append, List.nil_append, mm_cats_nil, mm_cats_I, mm_cats_L, mm_cats_R, if_true, if_false, true_and, and_true, false_and, and_false, not_true_eq_false, not_false_eq_true, Int.reduceLE, Int.reduceLT, Int.reduceEq, Int.reduceNe, Int.reduceNeg, Int.reduceAdd, Int.reduceSub, Int.reduceMul, Nat.reduceAdd, Nat.reduceLeDiff, true_or, or_true, false_or, or_false, reduceIte, a1, a2, d1, d2, d3, e1, e2, e3, h3, h3', h3'']
      · by_cases h4 : h = v * 5 / 32 * 8
        · subst h4
          simp only [xe_193_0, xe_193_1, xe_193_2, xe_193_3, xe_193_4, xe_193_6, xe_193_7, xe_193_9, xe_193_10, xe_193_13, xe_193_14, xe_193_15, xe_193_16, xe_193_17, xe_193_19, xe_193_20, xe_193_22, xe_193_23, xe_193_25, xe_193_26, xe_193_29, xe_193_30, xe_193_31, xe_193_32, xe_193_33, xe_193_35, xe_193_36, xe_193_38, xe_193_39, xe_193_41, xe_193_42, xe_193_45, xe_193_47, xe_193_48, xe_193_49, xe_193_50, xe_193_51, xe_193_52, xe_193_54, xe_193_55, xe_193_57, xe_193_58, xe_193_61, xe_193_62, xe_193_63, xe_193_65, xe_193_66, xe_193_68, xe_193_69, xe_193_71, xe_193_72, xe_193_75, xe_193_77, xe_193_80, xe_193_82, ite_self, mm_nL_I, mm_nL_R, mm_nL_0, Option.bind_some, Option.bind_none, bnd_ite, Option.toList_some, Option.toList_none, List.cons_append, List.nil_append, mm_cats_nil, mm_cats_I, mm_cats_L, mm_cats_R, if_true, if_false, true_and, and_true, false_and, and_false, not_true_eq_false, not_false_eq_true, Int.reduceLE, Int.reduceLT, Int.reduceEq, Int.reduceNe, Int.reduceNeg, Int.reduceAdd, Int.reduceSub, Int.reduceMul, Nat.reduceAdd, Nat.reduceLeDiff, true_or, or_true, false_or, or_false, reduceIte, a1, a2, a3, d1, d2, d3, d4, e1, e2, e3, e4, h1, h2, h3]
        · by_cases h5 : h = v * 15 / 72 * 8
          · subst h5
            simp only [xe_193_0, xe_193_1, xe_193_2, xe_193_3, xe_193_4, xe_193_6, xe_193_7, xe_193_9, xe_193_10, xe_193_13, xe_193_14, xe_193_15, xe_193_16, xe_193_17, xe_193_19, xe_193_20, xe_193_22, xe_193_23, xe_193_25, xe_193_26, xe_193_29, xe_193_30, xe_193_31, xe_193_32, xe_193_33, xe_193_35, xe_193_36, xe_193_38, xe_193_39, xe_193_41, xe_193_42, xe_193_45, xe_193_47, xe_193_48, xe_193_49, xe_193_50, xe_193_51, xe_193_52, xe_193_54, xe_193_55, xe_193_57, xe_193_58, xe_193_61, xe_193_62, xe_193_63, xe_193_65, xe_193_66, xe_193_68, xe_193_69, xe_193_71, xe_193_72, xe_193_75, xe_193_77, xe_193_80, xe_193_82, ite_self, mm_nL_I, mm_nL_R, mm_nL_0, Option.bind_some, Option.bind_none, bnd_ite, Option.toList_some, Option.toList_none, List.cons_append, List.nil_append, mm_cats_nil, mm_cats_I, mm_cats_L, mm_cats_R, if_true, if_false, true_and, and_true, false_and, and_false, not_true_eq_false, not_false_eq_true, Int.reduceLE, Int.reduceLT, Int.reduceEq, Int.reduceNe, Int.reduceNeg, Int.reduceAdd, Int.reduceSub, Int.reduceMul, Nat.reduceAdd, Nat.reduceLeDiff, true_or, or_true, false_or, or_false, reduceIte, a1, a2, a3, a4, d1, d2, d3, d4, d5, e1, e2, e3, e4, e5, h1, h2, h3, h4]
          · simp only [xe_193_0, xe_193_1, xe_193_2, xe_193_3, xe_193_4, xe_193_6, xe_193_7, xe_193_9, xe_193_10, xe_193_13, xe_193_14, xe_193_15, xe_193_16, xe_193_17, xe_193_19, xe_193_20, xe_193_22, xe_193_23, xe_193_25, xe_193_26, xe_193_29, xe_193_30, xe_193_31, xe_193_32, xe_193_33, xe_193_35, xe_193_36, xe_193_38, xe_193_39, xe_193_41, xe_193_42, xe_193_45, xe_193_47, xe_193_48, xe_193_49, xe_193_50, xe_193_51, xe_193_52, xe_193_54, xe_193_55, xe_193_57, xe_193_58, xe_193_61, xe_193_62, xe_193_63, xe_193_65, xe_193_66, xe_193_68, xe_193_69, xe_193_71, xe_193_72, xe_193_75, xe_193_77, xe_193_80, xe_193_82, ite_self, mm_nL_I, mm_nL_R, mm_nL_0, Option.bind_some, Option.bind_none, bnd_ite, Option.toList_some, Option.toList_none, List.cons_append, List.nil_append, mm_cats_nil, mm_cats_I, mm_cats_L, mm_cats_R, if_true, if_false, true_and, and_true, false_and, and_false, not_true_eq_false, not_false_eq_true, Int.reduceLE, Int.reduceLT, Int.reduceEq, Int.reduceNe, Int.reduceNeg, Int.reduceAdd, Int.reduceSub, Int.reduceMul, Nat.reduceAdd, Nat.reduceLeDiff, true_or, or_true, false_or, or_false, reduceIte, a1, a2, a3, a4, d1, d2, d3, d4, d5, e1, e2, e3, e4, e5, h1, h2, h3, h4, h5]
theorem s_lines (v z : Int) (c : MM) (G : MG) (v0 : 0 ≤ v) (v1 : v ≤ 4095) (z0 : 0 ≤ z) (z1 : z ≤ 240) : ev 63 0 [some (vI v), some (vI z), none, none] [] c G = some (some (vI (lin v z)), c, G) := by
  obtain ⟨l1, l2, l3, l4⟩ := lin_ok v0 v1 z0 z1
  have a1 : w64 (460 * z) = 460 * z := wi64 (by omega) (by omega)
  have a2 : w64 (1000000 - 460 * z) = 1000000 - 460 * z := wi64 (by omega) (by omega)
  have a3 : ¬ (1000000 - 460 * z ≤ 0) := by omega
  have a4 : w64 (460 * v) = 460 * v := wi64 (by omega) (by omega)
  have a5 : w64 (460 * v * z) = 460 * v * z := wi64 (by omega) (by omega)
  have a6 : mm_ldiv (460 * v * z) (1000000 - 460 * z) = 460 * v * z / (1000000 - 460 * z) := nu_ldiv l3 (by omega) (by omega) (by omega)
  have a7 : ¬ 1000000 - 460 * z = 0 := by omega
  unfold lin at *
  have a8 : w32 (460 * v * z / (1000000 - 460 * z)) = 460 * v * z / (1000000 - 460 * z) := wi32 (by omega) (by omega)
  have a9 : w32 (460 * v * z / (1000000 - 460 * z) + 1) = 460 * v * z / (1000000 - 460 * z) + 1 := wi32 (by omega) (by omega)
  simp only [xe_63_0, xe_63_3, xe_63_6, xe_63_7, xe_63_8, xe_63_9, xe_63_10 _ (some (vI _)) _ _ _ _ _ _ rfl, xe_63_10 _ (some (vR _)) _ _ _ _ _ _ rfl, xe_63_10 _ none _ _ _ _ _ _ rfl, xe_63_11, xe_63_12, xe_63_13, xe_63_14, xe_63_17, xe_63_20, xe_63_21, xe_63_22, xe_63_23, xe_63_24, xe_63_25, xe_63_26, xe_63_27, xe_63_28, xe_63_29, xe_63_30, xe_63_31, xe_63_34, xe_63_35, ite_self, mm_nL_I, mm_nL_R, mm_nL_0, Option.bind_some, Option.bind_none, bnd_ite, Option.toList_some, Option.toList_none, List.cons_append, List.nil_append, mm_cats_nil, mm_cats_I, mm_cats_L, mm_cats_R, if_true, if_false, true_and, and_true, false_and, and_false, not_true_eq_false, not_false_eq_true, Int.reduceLE, Int.reduceLT, Int.reduceEq, Int.reduceNe, Int.reduceNeg, Int.reduceAdd, Int.reduceSub, Int.reduceMul, Nat.reduceAdd, Nat.reduceLeDiff, true_or, or_true, false_or, or_false, reduceIte, cmp_le, a1, a2, a3, a4, a5, a6, a7, a8, a9]
theorem ms_sa (μ : MM) (a k v j : Int) : mset μ a k v a j = if j = k then v else μ a j := by
  unfold mset
  by_cases h : j = k
  · simp [h]
  · simp [h]
def drm (c : MM) (a k h v z : Int) : MM := fun b j => if b = a ∧ 0 ≤ j ∧ j ≤ 9 then (if j = 0 then drk k h v z else if j = 9 then 0 else dr k h v z (j - 1)) else c b j
theorem s_draw (a k h v z : Int) (c : MM) (G : MG) (ha : 0 < a) (hk : gk G a = 7) (h0 : 0 ≤ h) (h1 : h ≤ 4095) (v0 : 0 ≤ v) (v1 : v ≤ 4095) (z0 : 0 ≤ z) (z1 : z ≤ 240) : ev 62 0 [some (vR a), some (vI k), some (vI h), some (vI v), some (vI z), none] [] c G = some (none, drm c a k h v z, G) := by
  have LI := fun c' => s_lines v z c' G v0 v1 z0 z1
  have lo := lin_ok v0 v1 z0 z1
  have dl := drl_ok (k := k) (h := h) v0 v1 z0 z1
  by_cases e : k = 0
  · have SY := fun c' => s_syncX (h / 8 * 8) v c' G v0 v1
    have so := syv_ok (h / 8 * 8) v
    have d1 : mm_div h 8 = h / 8 := nu_div h0 (by omega) (by omega) (by omega)
    have w1 : w32 (h / 8 * 8) = h / 8 * 8 := wi32 (by omega) (by omega)
    have w2 : w32 (syv (h / 8 * 8) v + 9) = syv (h / 8 * 8) v + 9 := wi32 (by omega) (by omega)
    have el : max (lin v z) (syv (h / 8 * 8) v + 9) = drl k h v z := by unfold drl; rw [if_pos e]
    have ek : drk k h v z = z * ((h / 8 * 8 + 160) * (v + drl k h v z)) / 250000 * 250 := by unfold drk drh drb; rw [if_pos e, if_pos e, if_pos e]
    generalize hl : drl k h v z = vb at *
    have w3 : w32 (h / 8 * 8 + 160) = h / 8 * 8 + 160 := wi32 (by omega) (by omega)
    have w4 : w32 (v + vb) = v + vb := wi32 (by omega) (by omega)
    have b := mul_bd (show 0 ≤ h / 8 * 8 + 160 by omega) (show h / 8 * 8 + 160 ≤ 4255 by omega) (show 0 ≤ v + vb by omega) (show v + vb ≤ 4604 by omega)
    have b2 := mul_bd z0 z1 b.1 b.2
    have w5 : w64 ((h / 8 * 8 + 160) * (v + vb)) = (h / 8 * 8 + 160) * (v + vb) := wi64 (by omega) (by omega)
    have w6 : w64 (z * ((h / 8 * 8 + 160) * (v + vb))) = z * ((h / 8 * 8 + 160) * (v + vb)) := wi64 (by omega) (by omega)
    have w7 : mm_ldiv (z * ((h / 8 * 8 + 160) * (v + vb))) 250000 = z * ((h / 8 * 8 + 160) * (v + vb)) / 250000 := nu_ldiv b2.1 (by omega) (by omega) (by omega)
    have w8 : w32 (z * ((h / 8 * 8 + 160) * (v + vb)) / 250000) = z * ((h / 8 * 8 + 160) * (v + vb)) / 250000 := wi32 (by omega) (by omega)
    have w9 : w32 (z * ((h / 8 * 8 + 160) * (v + vb)) / 250000 * 250) = z * ((h / 8 * 8 + 160) * (v + vb)) / 250000 * 250 := wi32 (by omega) (by omega)
    subst e
    simp only [xe_62_0, xe_62_1, xe_62_2, xe_62_5, xe_62_6, xe_62_7, xe_62_10, xe_62_11, xe_62_13, xe_62_16, xe_62_17, xe_62_19, xe_62_22 _ _ _ _ (some (vI _)) _ _ _ _ _ rfl, xe_62_22 _ _ _ _ (some (vR _)) _ _ _ _ _ rfl, xe_62_22 _ _ _ _ none _ _ _ _ _ rfl, xe_62_24, xe_62_25, xe_62_28, xe_62_29, xe_62_30, xe_62_32, xe_62_33, xe_62_35, xe_62_36, xe_62_39, xe_62_40, xe_62_43, xe_62_46, xe_62_47, xe_62_49, xe_62_52, xe_62_53, xe_62_54, xe_62_57, xe_62_58, xe_62_59, xe_62_62, xe_62_63, xe_62_66, xe_62_69, xe_62_70, xe_62_72, xe_62_73, xe_62_76, xe_62_78, xe_62_79, xe_62_82, xe_62_85, xe_62_86, xe_62_88, xe_62_89, xe_62_90, xe_62_93, xe_62_94, xe_62_97, xe_62_98, xe_62_99, xe_62_102, xe_62_103, xe_62_106, xe_62_109, xe_62_110, xe_62_111, xe_62_114, xe_62_115, xe_62_117, xe_62_120, xe_62_121, xe_62_123, xe_62_126, xe_62_127, xe_62_129, xe_62_132, xe_62_133, xe_62_135, xe_62_137, xe_62_140, xe_62_143, xe_62_144, xe_62_145, xe_62_148, xe_62_150, xe_62_151, xe_62_154, xe_62_155, xe_62_157, xe_62_158, xe_62_159, xe_62_162, xe_62_163, xe_62_166, xe_62_167, xe_62_168, xe_62_171, xe_72_0, xe_72_1, xe_72_4, xe_72_5, xe_72_8, xe_72_9, xe_72_10, xe_72_11, xe_72_14, xe_72_15, xe_72_18, xe_72_19, xe_72_20, xe_72_21, ite_self, mm_nL_I, mm_nL_R, mm_nL_0, Option.bind_some, Option.bind_none, bnd_ite, Option.toList_some, Option.toList_none, List.cons_append, List.nil_append, mm_cats_nil, mm_cats_I, mm_cats_L, mm_cats_R, if_true, if_false, true_and, and_true, false_and, and_false, not_true_eq_false, not_false_eq_true, Int.reduceLE, Int.reduceLT, Int.reduceEq, Int.reduceNe, Int.reduceNeg, Int.reduceAdd, Int.reduceSub, Int.reduceMul, Nat.reduceAdd, Nat.reduceLeDiff, true_or, or_true, false_or, or_false, reduceIte, hk, ha, LI, SY, ms_sa, d1, w1, w2, el, w3, w4, w5, w6, w7, w8, w9, mm_fits]
    congr 3
    funext b j
    by_cases hb : b = a
    · subst hb
      by_cases hj : 0 ≤ j ∧ j ≤ 9
      · have q : j = 0 ∨ j = 1 ∨ j = 2 ∨ j = 3 ∨ j = 4 ∨ j = 5 ∨ j = 6 ∨ j = 7 ∨ j = 8 ∨ j = 9 := by omega
        rcases q with rfl | rfl | rfl | rfl | rfl | rfl | rfl | rfl | rfl | rfl <;> simp [mset, drm, dr, drh, drb, drs, hl, ek]
      · have g0 : ¬ j = 0 := by omega
        have g1 : ¬ j = 1 := by omega
        have g2 : ¬ j = 2 := by omega
        have g3 : ¬ j = 3 := by omega
        have g4 : ¬ j = 4 := by omega
        have g5 : ¬ j = 5 := by omega
        have g6 : ¬ j = 6 := by omega
        have g7 : ¬ j = 7 := by omega
        have g8 : ¬ j = 8 := by omega
        have g9 : ¬ j = 9 := by omega
        simp only [mset, drm, hj, g0, g1, g2, g3, g4, g5, g6, g7, g8, g9, and_false, if_false]
    · simp only [mset, drm, hb, false_and, if_false]
  · have el : max (lin v z) 15 = drl k h v z := by unfold drl; rw [if_neg e]
    have ek : drk k h v z = z * ((h + 80) * (v + drl k h v z)) / 1000 := by unfold drk drh drb; rw [if_neg e, if_neg e, if_neg e]
    generalize hl : drl k h v z = vb at *
    have w3 : w32 (h + 80) = h + 80 := wi32 (by omega) (by omega)
    have w4 : w32 (v + vb) = v + vb := wi32 (by omega) (by omega)
    have b := mul_bd (show 0 ≤ h + 80 by omega) (show h + 80 ≤ 4255 by omega) (show 0 ≤ v + vb by omega) (show v + vb ≤ 4604 by omega)
    have b2 := mul_bd z0 z1 b.1 b.2
    have w5 : w64 ((h + 80) * (v + vb)) = (h + 80) * (v + vb) := wi64 (by omega) (by omega)
    have w6 : w64 (z * ((h + 80) * (v + vb))) = z * ((h + 80) * (v + vb)) := wi64 (by omega) (by omega)
    have w7 : mm_ldiv (z * ((h + 80) * (v + vb))) 1000 = z * ((h + 80) * (v + vb)) / 1000 := nu_ldiv b2.1 (by omega) (by omega) (by omega)
    have w8 : w32 (z * ((h + 80) * (v + vb)) / 1000) = z * ((h + 80) * (v + vb)) / 1000 := wi32 (by omega) (by omega)
    have w9 : w32 (vb - 14) = vb - 14 := wi32 (by omega) (by omega)
    simp only [xe_62_0, xe_62_1, xe_62_2, xe_62_5, xe_62_6, xe_62_7, xe_62_10, xe_62_11, xe_62_13, xe_62_16, xe_62_17, xe_62_19, xe_62_22 _ _ _ _ (some (vI _)) _ _ _ _ _ rfl, xe_62_22 _ _ _ _ (some (vR _)) _ _ _ _ _ rfl, xe_62_22 _ _ _ _ none _ _ _ _ _ rfl, xe_62_24, xe_62_25, xe_62_28, xe_62_29, xe_62_30, xe_62_32, xe_62_33, xe_62_35, xe_62_36, xe_62_39, xe_62_40, xe_62_43, xe_62_46, xe_62_47, xe_62_49, xe_62_52, xe_62_53, xe_62_54, xe_62_57, xe_62_58, xe_62_59, xe_62_62, xe_62_63, xe_62_66, xe_62_69, xe_62_70, xe_62_72, xe_62_73, xe_62_76, xe_62_78, xe_62_79, xe_62_82, xe_62_85, xe_62_86, xe_62_88, xe_62_89, xe_62_90, xe_62_93, xe_62_94, xe_62_97, xe_62_98, xe_62_99, xe_62_102, xe_62_103, xe_62_106, xe_62_109, xe_62_110, xe_62_111, xe_62_114, xe_62_115, xe_62_117, xe_62_120, xe_62_121, xe_62_123, xe_62_126, xe_62_127, xe_62_129, xe_62_132, xe_62_133, xe_62_135, xe_62_137, xe_62_140, xe_62_143, xe_62_144, xe_62_145, xe_62_148, xe_62_150, xe_62_151, xe_62_154, xe_62_155, xe_62_157, xe_62_158, xe_62_159, xe_62_162, xe_62_163, xe_62_166, xe_62_167, xe_62_168, xe_62_171, xe_72_0, xe_72_1, xe_72_4, xe_72_5, xe_72_8, xe_72_9, xe_72_10, xe_72_11, xe_72_14, xe_72_15, xe_72_18, xe_72_19, xe_72_20, xe_72_21, ite_self, mm_nL_I, mm_nL_R, mm_nL_0, Option.bind_some, Option.bind_none, bnd_ite, Option.toList_some, Option.toList_none, List.cons_append, List.nil_append, mm_cats_nil, mm_cats_I, mm_cats_L, mm_cats_R, if_true, if_false, true_and, and_true, false_and, and_false, not_true_eq_false, not_false_eq_true, Int.reduceLE, Int.reduceLT, Int.reduceEq, Int.reduceNe, Int.reduceNeg, Int.reduceAdd, Int.reduceSub, Int.reduceMul, Nat.reduceAdd, Nat.reduceLeDiff, true_or, or_true, false_or, or_false, reduceIte, hk, ha, LI, e, ms_sa, el, w3, w4, w5, w6, w7, w8, w9, mm_fits]
    congr 3
    funext b j
    by_cases hb : b = a
    · subst hb
      by_cases hj : 0 ≤ j ∧ j ≤ 9
      · have q : j = 0 ∨ j = 1 ∨ j = 2 ∨ j = 3 ∨ j = 4 ∨ j = 5 ∨ j = 6 ∨ j = 7 ∨ j = 8 ∨ j = 9 := by omega
        rcases q with rfl | rfl | rfl | rfl | rfl | rfl | rfl | rfl | rfl | rfl <;> simp [mset, drm, dr, drh, drb, drs, hl, ek, e]
      · have g0 : ¬ j = 0 := by omega
        have g1 : ¬ j = 1 := by omega
        have g2 : ¬ j = 2 := by omega
        have g3 : ¬ j = 3 := by omega
        have g4 : ¬ j = 4 := by omega
        have g5 : ¬ j = 5 := by omega
        have g6 : ¬ j = 6 := by omega
        have g7 : ¬ j = 7 := by omega
        have g8 : ¬ j = 8 := by omega
        have g9 : ¬ j = 9 := by omega
        simp only [mset, drm, hj, g0, g1, g2, g3, g4, g5, g6, g7, g8, g9, and_false, if_false]
    · simp only [mset, drm, hb, false_and, if_false]
/-- the reference's -/
def wkm (r : MM) (k h v z : Int) : MM := fun b j => if b = 164 ∧ 0 ≤ j ∧ j ≤ 8 then dr k h v z j else r b j
theorem s_works (L k h v z : Int) (r : MM) (p : r 149 29 = 164) (h0 : 0 ≤ h) (h1 : h ≤ 4095) (v0 : 0 ≤ v) (v1 : v ≤ 4095) (z0 : 0 ≤ z) (z1 : z ≤ 240) : ev 194 0 [some (vR 149), some (vI k), some (vI h), some (vI v), some (vI z), none, none, none, none] [] r (g_1 L) = some (none, wkm r k h v z, g_1 L) := by
  obtain ⟨l1, l2, l3, l4⟩ := lin_ok v0 v1 z0 z1
  have dl := drl_ok (k := k) (h := h) v0 v1 z0 z1
  have a1 : w32 (460 * v) = 460 * v := wi32 (by omega) (by omega)
  have a2 : w32 (460 * v * z) = 460 * v * z := wi32 (by omega) (by omega)
  have a3 : w32 (460 * z) = 460 * z := wi32 (by omega) (by omega)
  have a4 : w32 (1000000 - 460 * z) = 1000000 - 460 * z := wi32 (by omega) (by omega)
  have a5 : mm_div (460 * v * z) (1000000 - 460 * z) = 460 * v * z / (1000000 - 460 * z) := nu_div l3 (by omega) (by omega) (by omega)
  have a6 : w32 (460 * v * z / (1000000 - 460 * z) + 1) = lin v z := wi32 (by unfold lin at l1; omega) (by unfold lin at l2; omega)
  have a7 : ¬ 1000000 - 460 * z = 0 := by omega
  have pp : ∀ (c' : MM) (j x : Int), mset c' 164 j x 149 29 = c' 149 29 := fun c' j x => ms_na _ _ _ _ _ _ (by omega)
  by_cases e : k = 0
  · have SY := fun c' => s_syncM (h / 8 * 8) v c' (g_1 L) v0 v1
    have so := syv_ok (h / 8 * 8) v
    have d1 : mm_div h 8 = h / 8 := nu_div h0 (by omega) (by omega) (by omega)
    have w1 : w32 (h / 8 * 8) = h / 8 * 8 := wi32 (by omega) (by omega)
    have w2 : w32 (syv (h / 8 * 8) v + 9) = syv (h / 8 * 8) v + 9 := wi32 (by omega) (by omega)
    have el : max (lin v z) (syv (h / 8 * 8) v + 9) = drl k h v z := by unfold drl; rw [if_pos e]
    have ek : drk k h v z = z * ((h / 8 * 8 + 160) * (v + drl k h v z)) / 250000 * 250 := by unfold drk drh drb; rw [if_pos e, if_pos e, if_pos e]
    generalize hl : drl k h v z = vb at *
    have w3 : w32 (h / 8 * 8 + 160) = h / 8 * 8 + 160 := wi32 (by omega) (by omega)
    have w4 : w32 (v + vb) = v + vb := wi32 (by omega) (by omega)
    have b := mul_bd (show 0 ≤ h / 8 * 8 + 160 by omega) (show h / 8 * 8 + 160 ≤ 4255 by omega) (show 0 ≤ v + vb by omega) (show v + vb ≤ 4604 by omega)
    have b2 := mul_bd z0 z1 b.1 b.2
    have w5 : w64 ((h / 8 * 8 + 160) * (v + vb)) = (h / 8 * 8 + 160) * (v + vb) := wi64 (by omega) (by omega)
    have w6 : w64 (z * ((h / 8 * 8 + 160) * (v + vb))) = z * ((h / 8 * 8 + 160) * (v + vb)) := wi64 (by omega) (by omega)
    have w7 : mm_ldiv (z * ((h / 8 * 8 + 160) * (v + vb))) 250000 = z * ((h / 8 * 8 + 160) * (v + vb)) / 250000 := nu_ldiv b2.1 (by omega) (by omega) (by omega)
    have w8 : w32 (z * ((h / 8 * 8 + 160) * (v + vb)) / 250000) = z * ((h / 8 * 8 + 160) * (v + vb)) / 250000 := wi32 (by omega) (by omega)
    have w9 : w32 (z * ((h / 8 * 8 + 160) * (v + vb)) / 250000 * 250) = z * ((h / 8 * 8 + 160) * (v + vb)) / 250000 * 250 := wi32 (by omega) (by omega)
    have b3 := mul_bd z0 z1 (show 0 ≤ h / 8 * 8 + 160 by omega) (show h / 8 * 8 + 160 ≤ 4255 by omega)
    have u1 : w64 (z * (h / 8 * 8 + 160)) = z * (h / 8 * 8 + 160) := wi64 (by omega) (by omega)
    have u2 : z * (h / 8 * 8 + 160) * (v + vb) = z * ((h / 8 * 8 + 160) * (v + vb)) := Int.mul_assoc _ _ _
    subst e
    simp only [xe_194_0, xe_194_3, xe_194_4, xe_194_5, xe_194_7, xe_194_8, xe_194_11, xe_194_14, xe_194_16, xe_194_17, xe_194_18, xe_194_19, xe_194_20, xe_194_21 _ _ _ _ (some (vI _)) _ _ _ _ _ _ _ _ rfl, xe_194_21 _ _ _ _ (some (vR _)) _ _ _ _ _ _ _ _ rfl, xe_194_21 _ _ _ _ none _ _ _ _ _ _ _ _ rfl, xe_194_23, xe_194_24, xe_194_27, xe_194_28, xe_194_31, xe_194_32 _ _ _ _ _ (some (vI _)) _ _ _ _ _ _ _ rfl, xe_194_32 _ _ _ _ _ (some (vR _)) _ _ _ _ _ _ _ rfl, xe_194_32 _ _ _ _ _ none _ _ _ _ _ _ _ rfl, xe_194_34, xe_194_35, xe_194_38, xe_194_39, xe_194_41, xe_194_44, xe_194_45, xe_194_47, xe_194_48, xe_194_50, xe_194_51, xe_194_54, xe_194_55, xe_194_56, xe_194_57, xe_194_60, xe_194_61, xe_194_63, xe_194_66, xe_194_69, xe_194_72, xe_194_74, xe_194_75, xe_194_76, xe_194_79, xe_194_80, xe_194_82, xe_194_85, xe_194_87, xe_194_90, xe_194_92, xe_194_93, xe_194_94, xe_194_97, xe_194_98, xe_194_100, xe_194_101, xe_194_102, xe_194_105, xe_194_106, xe_194_107, xe_194_108, xe_194_109, xe_194_112, xe_194_114, xe_194_116, xe_194_119, xe_194_120, xe_194_123, xe_194_124, xe_194_125, xe_194_126, xe_194_129, xe_194_132, xe_194_134, xe_194_135, xe_194_136, xe_194_139, xe_194_140, xe_194_142, xe_194_144, xe_194_147, xe_194_148, xe_194_151, xe_194_153, xe_194_154, xe_194_156, xe_194_157, xe_194_160, xe_194_162, xe_194_165, xe_194_166, xe_194_167, xe_194_170, xe_194_172, xe_194_174, xe_194_177, xe_194_178, xe_194_181, xe_194_182, xe_194_185, xe_194_186, xe_194_187, xe_194_189, xe_194_190, xe_194_191, xe_194_193, xe_194_194, xe_194_195, xe_194_198, xe_194_199, xe_194_200, xe_194_201, xe_194_204, xe_194_205, xe_194_206, xe_194_207, xe_194_208, xe_194_209, xe_194_210, xe_194_213, xe_194_214, xe_194_215, xe_194_216, xe_194_219, xe_194_220, xe_194_221, xe_194_222, xe_194_223, xe_194_224 _ _ _ _ _ _ (some (vI _)) _ _ _ _ _ _ rfl, xe_194_224 _ _ _ _ _ _ (some (vR _)) _ _ _ _ _ _ rfl, xe_194_224 _ _ _ _ _ _ none _ _ _ _ _ _ rfl, xe_194_226, xe_194_227, xe_194_230, xe_194_232, xe_194_234, xe_194_237, xe_194_239, xe_194_242, xe_194_243, xe_194_244, xe_194_247, xe_194_248, xe_194_251, xe_194_253, xe_194_256, xe_194_257, xe_194_258, xe_194_259, ite_self, mm_nL_I, mm_nL_R, mm_nL_0, Option.bind_some, Option.bind_none, bnd_ite, Option.toList_some, Option.toList_none, List.cons_append, List.nil_append, mm_cats_nil, mm_cats_I, mm_cats_L, mm_cats_R, if_true, if_false, true_and, and_true, false_and, and_false, not_true_eq_false, not_false_eq_true, Int.reduceLE, Int.reduceLT, Int.reduceEq, Int.reduceNe, Int.reduceNeg, Int.reduceAdd, Int.reduceSub, Int.reduceMul, Nat.reduceAdd, Nat.reduceLeDiff, true_or, or_true, false_or, or_false, reduceIte, k_149, k_164, l_164, p, pp, s_greater, SY, ms_sa, a1, a2, a3, a4, a5, a6, a7, d1, w1, w2, el, w3, w4, w5, u1, u2, w6, w7, w8, w9]
    congr 3
    funext b j
    by_cases hb : b = 164
    · subst hb
      by_cases hj : 0 ≤ j ∧ j ≤ 8
      · have q : j = 0 ∨ j = 1 ∨ j = 2 ∨ j = 3 ∨ j = 4 ∨ j = 5 ∨ j = 6 ∨ j = 7 ∨ j = 8 := by omega
        rcases q with rfl | rfl | rfl | rfl | rfl | rfl | rfl | rfl | rfl <;> simp [mset, wkm, dr, drh, drb, drs, hl, ek]
      · have g0 : ¬ j = 0 := by omega
        have g1 : ¬ j = 1 := by omega
        have g2 : ¬ j = 2 := by omega
        have g3 : ¬ j = 3 := by omega
        have g4 : ¬ j = 4 := by omega
        have g5 : ¬ j = 5 := by omega
        have g6 : ¬ j = 6 := by omega
        have g7 : ¬ j = 7 := by omega
        have g8 : ¬ j = 8 := by omega
        simp only [mset, wkm, hj, g0, g1, g2, g3, g4, g5, g6, g7, g8, and_false, if_false]
    · simp only [mset, wkm, hb, false_and, if_false]
  · have el : max (lin v z) 15 = drl k h v z := by unfold drl; rw [if_neg e]
    have ek : drk k h v z = z * ((h + 80) * (v + drl k h v z)) / 1000 := by unfold drk drh drb; rw [if_neg e, if_neg e, if_neg e]
    generalize hl : drl k h v z = vb at *
    have w3 : w32 (h + 80) = h + 80 := wi32 (by omega) (by omega)
    have w4 : w32 (v + vb) = v + vb := wi32 (by omega) (by omega)
    have b := mul_bd (show 0 ≤ h + 80 by omega) (show h + 80 ≤ 4255 by omega) (show 0 ≤ v + vb by omega) (show v + vb ≤ 4604 by omega)
    have b2 := mul_bd z0 z1 b.1 b.2
    have w5 : w64 ((h + 80) * (v + vb)) = (h + 80) * (v + vb) := wi64 (by omega) (by omega)
    have w6 : w64 (z * ((h + 80) * (v + vb))) = z * ((h + 80) * (v + vb)) := wi64 (by omega) (by omega)
    have w7 : mm_ldiv (z * ((h + 80) * (v + vb))) 1000 = z * ((h + 80) * (v + vb)) / 1000 := nu_ldiv b2.1 (by omega) (by omega) (by omega)
    have w8 : w32 (z * ((h + 80) * (v + vb)) / 1000) = z * ((h + 80) * (v + vb)) / 1000 := wi32 (by omega) (by omega)
    have w9 : w32 (vb - 14) = vb - 14 := wi32 (by omega) (by omega)
    have b3 := mul_bd z0 z1 (show 0 ≤ h + 80 by omega) (show h + 80 ≤ 4255 by omega)
    have u1 : w64 (z * (h + 80)) = z * (h + 80) := wi64 (by omega) (by omega)
    have u2 : z * (h + 80) * (v + vb) = z * ((h + 80) * (v + vb)) := Int.mul_assoc _ _ _
    simp only [xe_194_0, xe_194_3, xe_194_4, xe_194_5, xe_194_7, xe_194_8, xe_194_11, xe_194_14, xe_194_16, xe_194_17, xe_194_18, xe_194_19, xe_194_20, xe_194_21 _ _ _ _ (some (vI _)) _ _ _ _ _ _ _ _ rfl, xe_194_21 _ _ _ _ (some (vR _)) _ _ _ _ _ _ _ _ rfl, xe_194_21 _ _ _ _ none _ _ _ _ _ _ _ _ rfl, xe_194_23, xe_194_24, xe_194_27, xe_194_28, xe_194_31, xe_194_32 _ _ _ _ _ (some (vI _)) _ _ _ _ _ _ _ rfl, xe_194_32 _ _ _ _ _ (some (vR _)) _ _ _ _ _ _ _ rfl, xe_194_32 _ _ _ _ _ none _ _ _ _ _ _ _ rfl, xe_194_34, xe_194_35, xe_194_38, xe_194_39, xe_194_41, xe_194_44, xe_194_45, xe_194_47, xe_194_48, xe_194_50, xe_194_51, xe_194_54, xe_194_55, xe_194_56, xe_194_57, xe_194_60, xe_194_61, xe_194_63, xe_194_66, xe_194_69, xe_194_72, xe_194_74, xe_194_75, xe_194_76, xe_194_79, xe_194_80, xe_194_82, xe_194_85, xe_194_87, xe_194_90, xe_194_92, xe_194_93, xe_194_94, xe_194_97, xe_194_98, xe_194_100, xe_194_101, xe_194_102, xe_194_105, xe_194_106, xe_194_107, xe_194_108, xe_194_109, xe_194_112, xe_194_114, xe_194_116, xe_194_119, xe_194_120, xe_194_123, xe_194_124, xe_194_125, xe_194_126, xe_194_129, xe_194_132, xe_194_134, xe_194_135, xe_194_136, xe_194_139, xe_194_140, xe_194_142, xe_194_144, xe_194_147, xe_194_148, xe_194_151, xe_194_153, xe_194_154, xe_194_156, xe_194_157, xe_194_160, xe_194_162, xe_194_165, xe_194_166, xe_194_167, xe_194_170, xe_194_172, xe_194_174, xe_194_177, xe_194_178, xe_194_181, xe_194_182, xe_194_185, xe_194_186, xe_194_187, xe_194_189, xe_194_190, xe_194_191, xe_194_193, xe_194_194, xe_194_195, xe_194_198, xe_194_199, xe_194_200, xe_194_201, xe_194_204, xe_194_205, xe_194_206, xe_194_207, xe_194_208, xe_194_209, xe_194_210, xe_194_213, xe_194_214, xe_194_215, xe_194_216, xe_194_219, xe_194_220, xe_194_221, xe_194_222, xe_194_223, xe_194_224 _ _ _ _ _ _ (some (vI _)) _ _ _ _ _ _ rfl, xe_194_224 _ _ _ _ _ _ (some (vR _)) _ _ _ _ _ _ rfl, xe_194_224 _ _ _ _ _ _ none _ _ _ _ _ _ rfl, xe_194_226, xe_194_227, xe_194_230, xe_194_232, xe_194_234, xe_194_237, xe_194_239, xe_194_242, xe_194_243, xe_194_244, xe_194_247, xe_194_248, xe_194_251, xe_194_253, xe_194_256, xe_194_257, xe_194_258, xe_194_259, ite_self, mm_nL_I, mm_nL_R, mm_nL_0, Option.bind_some, Option.bind_none, bnd_ite, Option.toList_some, Option.toList_none, List.cons_append, List.nil_append, mm_cats_nil, mm_cats_I, mm_cats_L, mm_cats_R, if_true, if_false, true_and, and_true, false_and, and_false, not_true_eq_false, not_false_eq_true, Int.reduceLE, Int.reduceLT, Int.reduceEq, Int.reduceNe, Int.reduceNeg, Int.reduceAdd, Int.reduceSub, Int.reduceMul, Nat.reduceAdd, Nat.reduceLeDiff, true_or, or_true, false_or, or_false, reduceIte, k_149, k_164, l_164, p, pp, s_greater, e, ms_sa, a1, a2, a3, a4, a5, a6, a7, el, w3, w4, w5, u1, u2, w6, w7, w8, w9]
    congr 3
    funext b j
    by_cases hb : b = 164
    · subst hb
      by_cases hj : 0 ≤ j ∧ j ≤ 8
      · have q : j = 0 ∨ j = 1 ∨ j = 2 ∨ j = 3 ∨ j = 4 ∨ j = 5 ∨ j = 6 ∨ j = 7 ∨ j = 8 := by omega
        rcases q with rfl | rfl | rfl | rfl | rfl | rfl | rfl | rfl | rfl <;> simp [mset, wkm, dr, drh, drb, drs, hl, ek, e]
      · have g0 : ¬ j = 0 := by omega
        have g1 : ¬ j = 1 := by omega
        have g2 : ¬ j = 2 := by omega
        have g3 : ¬ j = 3 := by omega
        have g4 : ¬ j = 4 := by omega
        have g5 : ¬ j = 5 := by omega
        have g6 : ¬ j = 6 := by omega
        have g7 : ¬ j = 7 := by omega
        have g8 : ¬ j = 8 := by omega
        simp only [mset, wkm, hj, g0, g1, g2, g3, g4, g5, g6, g7, g8, and_false, if_false]
    · simp only [mset, wkm, hb, false_and, if_false]
