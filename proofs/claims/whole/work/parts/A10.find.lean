/-- the first number from i on, of n, of which p holds -/
def ff (p : Int → Bool) (i : Int) : Nat → Int
  | 0 => -1
  | n + 1 => if p i = true then i else ff p (i + 1) n
def isL (q : Int → Int) (o h v z : Int) : Bool := decide (q o = h ∧ q (o + 1) = v ∧ q (o + 2) = z)
theorem s_isLike (L u o h v z : Int) (c : MM) (q : Int → Int) (o2 : 0 ≤ u) (o3 : u < 40) (kt : c (49 + 2 * u) 0 = 50 + 2 * u) (e1 : c (50 + 2 * u) 1 = q (12 * o)) (e2 : c (50 + 2 * u) 5 = q (12 * o + 1)) (e3 : c (49 + 2 * u) 1 = q (12 * o + 2)) :
    ev 28 0 [some (vR (49 + 2 * u)), some (vI h), some (vI v), some (vI z)] [] c (g_1 L) = some (some (vI (if isL q (12 * o) h v z = true then 1 else 0)), c, g_1 L) := by
  have k1 := k_mode L u o2 o3
  have k2 := k_mtim L u o2 o3
  unfold isL
  by_cases h1 : q (12 * o) = h
  · by_cases h2 : q (12 * o + 1) = v
    · by_cases h3 : q (12 * o + 2) = z
      · simp only [xe_28_0, xe_28_1, xe_28_4, xe_28_7, xe_28_8, xe_28_11, xe_28_12, xe_28_15, xe_28_18, xe_28_19, xe_28_22, xe_28_23, xe_28_26, xe_28_27, xe_28_30, xe_28_31, xe_28_34, xe_28_35, ite_self, mm_nL_I, mm_nL_R, mm_nL_0, Option.bind_some, Option.bind_none, bnd_ite, Option.toList_some, Option.toList_none, List.cons_append, List.nil_append, mm_cats_nil, mm_cats_I, mm_cats_L, mm_cats_R, if_true, if_false, true_and, and_true, false_and, and_false, not_true_eq_false, not_false_eq_true, Int.reduceLE, Int.reduceLT, Int.reduceEq, Int.reduceNe, Int.reduceNeg, Int.reduceAdd, Int.reduceSub, Int.reduceMul, Nat.reduceAdd, Nat.reduceLeDiff, true_or, or_true, false_or, or_false, reduceIte, k1, k2, kt, e1, e2, e3, h1, h2, h3, decide_true]
      · simp only [xe_28_0, xe_28_1, xe_28_4, xe_28_7, xe_28_8, xe_28_11, xe_28_12, xe_28_15, xe_28_18, xe_28_19, xe_28_22, xe_28_23, xe_28_26, xe_28_27, xe_28_30, xe_28_31, xe_28_34, xe_28_35, ite_self, mm_nL_I, mm_nL_R, mm_nL_0, Option.bind_some, Option.bind_none, bnd_ite, Option.toList_some, Option.toList_none, List.cons_append, List.nil_append, mm_cats_nil, mm_cats_I, mm_cats_L, mm_cats_R, if_true, if_false, true_and, and_true, false_and, and_false, not_true_eq_false, not_false_eq_true, Int.reduceLE, Int.reduceLT, Int.reduceEq, Int.reduceNe, Int.reduceNeg, Int.reduceAdd, Int.reduceSub, Int.reduceMul, Nat.reduceAdd, Nat.reduceLeDiff, true_or, or_true, false_or, or_false, reduceIte, k1, k2, kt, e1, e2, e3, h1, h2, h3, decide_false, Bool.false_eq_true]
    · simp only [xe_28_0, xe_28_1, xe_28_4, xe_28_7, xe_28_8, xe_28_11, xe_28_12, xe_28_15, xe_28_18, xe_28_19, xe_28_22, xe_28_23, xe_28_26, xe_28_27, xe_28_30, xe_28_31, xe_28_34, xe_28_35, ite_self, mm_nL_I, mm_nL_R, mm_nL_0, Option.bind_some, Option.bind_none, bnd_ite, Option.toList_some, Option.toList_none, List.cons_append, List.nil_append, mm_cats_nil, mm_cats_I, mm_cats_L, mm_cats_R, if_true, if_false, true_and, and_true, false_and, and_false, not_true_eq_false, not_false_eq_true, Int.reduceLE, Int.reduceLT, Int.reduceEq, Int.reduceNe, Int.reduceNeg, Int.reduceAdd, Int.reduceSub, Int.reduceMul, Nat.reduceAdd, Nat.reduceLeDiff, true_or, or_true, false_or, or_false, reduceIte, k1, k2, kt, e1, e2, e3, h1, h2, decide_false, Bool.false_eq_true]
  · simp only [xe_28_0, xe_28_1, xe_28_4, xe_28_7, xe_28_8, xe_28_11, xe_28_12, xe_28_15, xe_28_18, xe_28_19, xe_28_22, xe_28_23, xe_28_26, xe_28_27, xe_28_30, xe_28_31, xe_28_34, xe_28_35, ite_self, mm_nL_I, mm_nL_R, mm_nL_0, Option.bind_some, Option.bind_none, bnd_ite, Option.toList_some, Option.toList_none, List.cons_append, List.nil_append, mm_cats_nil, mm_cats_I, mm_cats_L, mm_cats_R, if_true, if_false, true_and, and_true, false_and, and_false, not_true_eq_false, not_false_eq_true, Int.reduceLE, Int.reduceLT, Int.reduceEq, Int.reduceNe, Int.reduceNeg, Int.reduceAdd, Int.reduceSub, Int.reduceMul, Nat.reduceAdd, Nat.reduceLeDiff, true_or, or_true, false_or, or_false, reduceIte, k1, k2, kt, e1, e2, e3, h1, decide_false, Bool.false_eq_true]
/-- the class's list while it is searched: n modes -/
theorem s_indexl (L h v z : Int) (c r : MM) (hX : SX c) (hR : Rmod c r) : ∀ (m : Nat) (i : Int), 0 ≤ i → i + m = c 45 4 →
    ev 33 3 [some (vR 45), some (vI h), some (vI v), some (vI z), some (vI i)] [] c (g_1 L) = some (some (vI (ff (fun i => isL (r 157) (12 * r 158 i) h v z) i m)), c, g_1 L) := by
  obtain ⟨m1, m2, m3, m4, m6⟩ := hR
  intro m
  induction m with
  | zero =>
    intro i h0 hi
    have q : c 45 4 ≤ i := by omega
    simp only [xe_33_3, xe_33_5, xe_33_6, xe_33_9, xe_33_47, xe_33_48, ite_self, mm_nL_I, mm_nL_R, mm_nL_0, Option.bind_some, Option.bind_none, bnd_ite, Option.toList_some, Option.toList_none, List.cons_append, List.nil_append, mm_cats_nil, mm_cats_I, mm_cats_L, mm_cats_R, if_true, if_false, true_and, and_true, false_and, and_false, not_true_eq_false, not_false_eq_true, Int.reduceLE, Int.reduceLT, Int.reduceEq, Int.reduceNe, Int.reduceNeg, Int.reduceAdd, Int.reduceSub, Int.reduceMul, Nat.reduceAdd, Nat.reduceLeDiff, true_or, or_true, false_or, or_false, reduceIte, k_45, q, ff]
  | succ m ih =>
    intro i h0 hi
    obtain ⟨u, o1, u0, u3, o2, o3, ⟨e1, e2, e3, e4, e5, e6, e7, e8, e9, e10, e11, e12⟩, f⟩ := m6 i h0 (by omega)
    have kt : c (49 + 2 * u) 0 = 50 + 2 * u := hX.2.2 u u0 u3
    have I := s_isLike L u (r 158 i) h v z c (r 157) u0 u3 kt e1 e2 e3
    have q1 : ¬ c 45 4 ≤ i := by omega
    have q2 : ¬ 40 ≤ i := by omega
    have q3 : i < 40 := by omega
    have q4 : w32 (i + 1) = i + 1 := wi32 (by omega) (by omega)
    have q5 : 0 < 49 + 2 * u := by omega
    have k1 := k_mode L u u0 u3
    rw [xe_33_3]
    simp only [ff]
    by_cases g : isL (r 157) (12 * r 158 i) h v z = true
    · simp only [xe_33_5, xe_33_6, xe_33_9, xe_33_12, xe_33_14, xe_33_15, xe_33_18, xe_33_19, xe_33_22, xe_33_23, xe_33_26, xe_33_28, xe_33_29, xe_33_30, xe_33_31, xe_33_32, xe_33_35, xe_33_38, xe_33_40, xe_33_41 _ _ _ (some (vI _)) _ _ _ _ rfl, xe_33_41 _ _ _ (some (vR _)) _ _ _ _ rfl, xe_33_41 _ _ _ none _ _ _ _ rfl, xe_33_44, xe_33_47, xe_33_48, ite_self, mm_nL_I, mm_nL_R, mm_nL_0, Option.bind_some, Option.bind_none, bnd_ite, Option.toList_some, Option.toList_none, List.cons_append, List.nil_append, mm_cats_nil, mm_cats_I, mm_cats_L, mm_cats_R, if_true, if_false, true_and, and_true, false_and, and_false, not_true_eq_false, not_false_eq_true, Int.reduceLE, Int.reduceLT, Int.reduceEq, Int.reduceNe, Int.reduceNeg, Int.reduceAdd, Int.reduceSub, Int.reduceMul, Nat.reduceAdd, Nat.reduceLeDiff, true_or, or_true, false_or, or_false, reduceIte, k_45, k_46, l_46, sx_45_0 hX, o1, q1, q2, q3, h0, I, g, q5, k1]
    · simp only [xe_33_5, xe_33_6, xe_33_9, xe_33_12, xe_33_14, xe_33_15, xe_33_18, xe_33_19, xe_33_22, xe_33_23, xe_33_26, xe_33_28, xe_33_29, xe_33_30, xe_33_31, xe_33_32, xe_33_35, xe_33_38, xe_33_40, xe_33_41 _ _ _ (some (vI _)) _ _ _ _ rfl, xe_33_41 _ _ _ (some (vR _)) _ _ _ _ rfl, xe_33_41 _ _ _ none _ _ _ _ rfl, xe_33_44, xe_33_47, xe_33_48, ite_self, mm_nL_I, mm_nL_R, mm_nL_0, Option.bind_some, Option.bind_none, bnd_ite, Option.toList_some, Option.toList_none, List.cons_append, List.nil_append, mm_cats_nil, mm_cats_I, mm_cats_L, mm_cats_R, if_true, if_false, true_and, and_true, false_and, and_false, not_true_eq_false, not_false_eq_true, Int.reduceLE, Int.reduceLT, Int.reduceEq, Int.reduceNe, Int.reduceNeg, Int.reduceAdd, Int.reduceSub, Int.reduceMul, Nat.reduceAdd, Nat.reduceLeDiff, true_or, or_true, false_or, or_false, reduceIte, k_45, k_46, l_46, sx_45_0 hX, o1, q1, q2, q3, q4, h0, I, g, q5, k1]
      exact ih (i + 1) (by omega) (by omega)
theorem s_indexOf (L h v z : Int) (c r : MM) (hX : SX c) (hR : Rmod c r) : ev 33 0 [some (vR 45), some (vI h), some (vI v), some (vI z), none] [] c (g_1 L) = some (some (vI (ff (fun i => isL (r 157) (12 * r 158 i) h v z) 0 (c 45 4).toNat)), c, g_1 L) := by
  have l := s_indexl L h v z c r hX hR (c 45 4).toNat 0 (by omega) (by have := hR.2.1; omega)
  simp only [xe_33_0, xe_33_1 _ _ _ (some (vI _)) _ _ _ _ _ rfl, xe_33_1 _ _ _ (some (vR _)) _ _ _ _ _ rfl, xe_33_1 _ _ _ none _ _ _ _ _ rfl]
  exact l
theorem s_findX (L h v z : Int) (c r : MM) (hX : SX c) (hR : Rmod c r) : ev 110 0 [some (vR 10), some (vI h), some (vI v), some (vI z)] [] c (g_1 L) = some (some (vI (ff (fun i => isL (r 157) (12 * r 158 i) h v z) 0 (c 45 4).toNat)), c, g_1 L) := by
  simp only [xe_110_0, xe_110_1, xe_110_4, xe_110_5, xe_110_6, xe_110_7, xe_110_10, ite_self, mm_nL_I, mm_nL_R, mm_nL_0, Option.bind_some, Option.bind_none, bnd_ite, Option.toList_some, Option.toList_none, List.cons_append, List.nil_append, mm_cats_nil, mm_cats_I, mm_cats_L, mm_cats_R, if_true, if_false, true_and, and_true, false_and, and_false, not_true_eq_false, not_false_eq_true, Int.reduceLE, Int.reduceLT, Int.reduceEq, Int.reduceNe, Int.reduceNeg, Int.reduceAdd, Int.reduceSub, Int.reduceMul, Nat.reduceAdd, Nat.reduceLeDiff, true_or, or_true, false_or, or_false, reduceIte, k_10, k_45, sx_10_4 hX, s_indexOf L h v z c r hX hR]
theorem s_findMl (L h v z n : Int) (r : MM) (p1 : r 149 20 = 157) (p2 : r 149 21 = 158) (p3 : r 149 23 = n) (hn : n ≤ 40) (ho : ∀ i, 0 ≤ i → i < n → 0 ≤ r 158 i ∧ r 158 i < 40) : ∀ (m : Nat) (i : Int), 0 ≤ i → i + m = n →
    ev 192 8 [some (vR 149), some (vI h), some (vI v), some (vI z), some (vI i)] [] r (g_1 L) = some (some (vI (ff (fun i => isL (r 157) (12 * r 158 i) h v z) i m)), r, g_1 L) := by
  intro m
  induction m with
  | zero =>
    intro i h0 hi
    have q : n ≤ i := by omega
    simp only [xe_192_8, xe_192_10, xe_192_11, xe_192_14, xe_192_59, xe_192_60, ite_self, mm_nL_I, mm_nL_R, mm_nL_0, Option.bind_some, Option.bind_none, bnd_ite, Option.toList_some, Option.toList_none, List.cons_append, List.nil_append, mm_cats_nil, mm_cats_I, mm_cats_L, mm_cats_R, if_true, if_false, true_and, and_true, false_and, and_false, not_true_eq_false, not_false_eq_true, Int.reduceLE, Int.reduceLT, Int.reduceEq, Int.reduceNe, Int.reduceNeg, Int.reduceAdd, Int.reduceSub, Int.reduceMul, Nat.reduceAdd, Nat.reduceLeDiff, true_or, or_true, false_or, or_false, reduceIte, k_149, p3, q, ff]
  | succ m ih =>
    intro i h0 hi
    obtain ⟨o2, o3⟩ := ho i h0 (by omega)
    have O0 := s_ofMode L i 0 r p1 p2 h0 (by omega) o2 o3 (by omega) (by omega)
    have O1 := s_ofMode L i 1 r p1 p2 h0 (by omega) o2 o3 (by omega) (by omega)
    have O2 := s_ofMode L i 2 r p1 p2 h0 (by omega) o2 o3 (by omega) (by omega)
    rw [Int.add_zero] at O0
    have q1 : ¬ n ≤ i := by omega
    have q4 : w32 (i + 1) = i + 1 := wi32 (by omega) (by omega)
    have ih' := ih (i + 1) (by omega) (by omega)
    rw [xe_192_8]
    simp only [ff, isL]
    by_cases h1 : r 157 (12 * r 158 i) = h
    · by_cases h2 : r 157 (12 * r 158 i + 1) = v
      · by_cases h3 : r 157 (12 * r 158 i + 2) = z
        · simp only [xe_192_10, xe_192_11, xe_192_14, xe_192_17, xe_192_18, xe_192_20, xe_192_21, xe_192_24, xe_192_25, xe_192_28, xe_192_29, xe_192_31, xe_192_32, xe_192_35, xe_192_36, xe_192_39, xe_192_40, xe_192_42, xe_192_43, xe_192_46, xe_192_47, xe_192_50, xe_192_52, xe_192_53 _ _ _ (some (vI _)) _ _ _ _ rfl, xe_192_53 _ _ _ (some (vR _)) _ _ _ _ rfl, xe_192_53 _ _ _ none _ _ _ _ rfl, xe_192_56, xe_192_59, xe_192_60, ite_self, mm_nL_I, mm_nL_R, mm_nL_0, Option.bind_some, Option.bind_none, bnd_ite, Option.toList_some, Option.toList_none, List.cons_append, List.nil_append, mm_cats_nil, mm_cats_I, mm_cats_L, mm_cats_R, if_true, if_false, true_and, and_true, false_and, and_false, not_true_eq_false, not_false_eq_true, Int.reduceLE, Int.reduceLT, Int.reduceEq, Int.reduceNe, Int.reduceNeg, Int.reduceAdd, Int.reduceSub, Int.reduceMul, Nat.reduceAdd, Nat.reduceLeDiff, true_or, or_true, false_or, or_false, reduceIte, k_149, p3, q1, O0, O1, O2, h1, h2, h3, decide_true]
        · simp only [xe_192_10, xe_192_11, xe_192_14, xe_192_17, xe_192_18, xe_192_20, xe_192_21, xe_192_24, xe_192_25, xe_192_28, xe_192_29, xe_192_31, xe_192_32, xe_192_35, xe_192_36, xe_192_39, xe_192_40, xe_192_42, xe_192_43, xe_192_46, xe_192_47, xe_192_50, xe_192_52, xe_192_53 _ _ _ (some (vI _)) _ _ _ _ rfl, xe_192_53 _ _ _ (some (vR _)) _ _ _ _ rfl, xe_192_53 _ _ _ none _ _ _ _ rfl, xe_192_56, xe_192_59, xe_192_60, ite_self, mm_nL_I, mm_nL_R, mm_nL_0, Option.bind_some, Option.bind_none, bnd_ite, Option.toList_some, Option.toList_none, List.cons_append, List.nil_append, mm_cats_nil, mm_cats_I, mm_cats_L, mm_cats_R, if_true, if_false, true_and, and_true, false_and, and_false, not_true_eq_false, not_false_eq_true, Int.reduceLE, Int.reduceLT, Int.reduceEq, Int.reduceNe, Int.reduceNeg, Int.reduceAdd, Int.reduceSub, Int.reduceMul, Nat.reduceAdd, Nat.reduceLeDiff, true_or, or_true, false_or, or_false, reduceIte, k_149, p3, q1, q4, O0, O1, O2, h1, h2, h3, decide_false, Bool.false_eq_true]
          exact ih'
      · simp only [xe_192_10, xe_192_11, xe_192_14, xe_192_17, xe_192_18, xe_192_20, xe_192_21, xe_192_24, xe_192_25, xe_192_28, xe_192_29, xe_192_31, xe_192_32, xe_192_35, xe_192_36, xe_192_39, xe_192_40, xe_192_42, xe_192_43, xe_192_46, xe_192_47, xe_192_50, xe_192_52, xe_192_53 _ _ _ (some (vI _)) _ _ _ _ rfl, xe_192_53 _ _ _ (some (vR _)) _ _ _ _ rfl, xe_192_53 _ _ _ none _ _ _ _ rfl, xe_192_56, xe_192_59, xe_192_60, ite_self, mm_nL_I, mm_nL_R, mm_nL_0, Option.bind_some, Option.bind_none, bnd_ite, Option.toList_some, Option.toList_none, List.cons_append, List.nil_append, mm_cats_nil, mm_cats_I, mm_cats_L, mm_cats_R, if_true, if_false, true_and, and_true, false_and, and_false, not_true_eq_false, not_false_eq_true, Int.reduceLE, Int.reduceLT, Int.reduceEq, Int.reduceNe, Int.reduceNeg, Int.reduceAdd, Int.reduceSub, Int.reduceMul, Nat.reduceAdd, Nat.reduceLeDiff, true_or, or_true, false_or, or_false, reduceIte, k_149, p3, q1, q4, O0, O1, O2, h1, h2, decide_false, Bool.false_eq_true]
        exact ih'
    · simp only [xe_192_10, xe_192_11, xe_192_14, xe_192_17, xe_192_18, xe_192_20, xe_192_21, xe_192_24, xe_192_25, xe_192_28, xe_192_29, xe_192_31, xe_192_32, xe_192_35, xe_192_36, xe_192_39, xe_192_40, xe_192_42, xe_192_43, xe_192_46, xe_192_47, xe_192_50, xe_192_52, xe_192_53 _ _ _ (some (vI _)) _ _ _ _ rfl, xe_192_53 _ _ _ (some (vR _)) _ _ _ _ rfl, xe_192_53 _ _ _ none _ _ _ _ rfl, xe_192_56, xe_192_59, xe_192_60, ite_self, mm_nL_I, mm_nL_R, mm_nL_0, Option.bind_some, Option.bind_none, bnd_ite, Option.toList_some, Option.toList_none, List.cons_append, List.nil_append, mm_cats_nil, mm_cats_I, mm_cats_L, mm_cats_R, if_true, if_false, true_and, and_true, false_and, and_false, not_true_eq_false, not_false_eq_true, Int.reduceLE, Int.reduceLT, Int.reduceEq, Int.reduceNe, Int.reduceNeg, Int.reduceAdd, Int.reduceSub, Int.reduceMul, Nat.reduceAdd, Nat.reduceLeDiff, true_or, or_true, false_or, or_false, reduceIte, k_149, p3, q1, q4, O0, O1, O2, h1, decide_false, Bool.false_eq_true]
      exact ih'
theorem s_findM (L h v z : Int) (c r : MM) (hM : SM r) (hR : Rmod c r) : ev 192 0 [some (vR 149), some (vI h), some (vI v), some (vI z), none] [] r (g_1 L) = some (some (vI (ff (fun i => isL (r 157) (12 * r 158 i) h v z) 0 (c 45 4).toNat)), mset r 149 0 0, g_1 L) := by
  obtain ⟨m1, m2, m3, m4, m6⟩ := hR
  have n : ∀ j, ¬ j = 0 → mset r 149 0 0 149 j = r 149 j := fun j hj => ms_nk _ _ _ _ _ _ hj
  have n157 : mset r 149 0 0 157 = r 157 := ms_row _ _ _ _ _ (by omega)
  have n158 : mset r 149 0 0 158 = r 158 := ms_row _ _ _ _ _ (by omega)
  have l := s_findMl L h v z (c 45 4) (mset r 149 0 0) (by rw [n 20 (by omega)]; exact sm_149_20 hM) (by rw [n 21 (by omega)]; exact sm_149_21 hM) (by rw [n 23 (by omega), m1]) m3 (by rw [n158]; exact fun i h0 h1 => by obtain ⟨u, o1, u0, u3, o2, o3, _⟩ := m6 i h0 h1; exact ⟨o2, by omega⟩) (c 45 4).toNat 0 (by omega) (by omega)
  rw [n157, n158] at l
  simp only [xe_192_0, xe_192_1, xe_192_2, xe_192_5, xe_192_6 _ _ _ (some (vI _)) _ _ _ _ _ rfl, xe_192_6 _ _ _ (some (vR _)) _ _ _ _ _ rfl, xe_192_6 _ _ _ none _ _ _ _ _ rfl, ite_self, mm_nL_I, mm_nL_R, mm_nL_0, Option.bind_some, Option.bind_none, bnd_ite, Option.toList_some, Option.toList_none, List.cons_append, List.nil_append, mm_cats_nil, mm_cats_I, mm_cats_L, mm_cats_R, if_true, if_false, true_and, and_true, false_and, and_false, not_true_eq_false, not_false_eq_true, Int.reduceLE, Int.reduceLT, Int.reduceEq, Int.reduceNe, Int.reduceNeg, Int.reduceAdd, Int.reduceSub, Int.reduceMul, Nat.reduceAdd, Nat.reduceLeDiff, true_or, or_true, false_or, or_false, reduceIte, k_149]
  exact l
/-! need, best -/
theorem s_needOfX (k d : Int) (c : MM) (G : MG) (h1 : 0 ≤ k) (h2 : k ≤ 10000000) (h3 : 0 ≤ d) (h4 : d ≤ 12) : ev 125 0 [some (vI k), some (vI d)] [] c G = some (some (vL (k * 3 * d)), c, G) := by
  have b := mul_bd (show 0 ≤ k * 3 by omega) (show k * 3 ≤ 30000000 by omega) h3 h4
  have w1 : w64 (k * 3) = k * 3 := wi64 (by omega) (by omega)
  have w2 : w64 (k * 3 * d) = k * 3 * d := wi64 (by omega) (by omega)
  simp only [xe_125_0, xe_125_1, xe_125_2, xe_125_5, xe_125_6, xe_125_7, xe_125_8, xe_125_9, ite_self, mm_nL_I, mm_nL_R, mm_nL_0, Option.bind_some, Option.bind_none, bnd_ite, Option.toList_some, Option.toList_none, List.cons_append, List.nil_append, mm_cats_nil, mm_cats_I, mm_cats_L, mm_cats_R, if_true, if_false, true_and, and_true, false_and, and_false, not_true_eq_false, not_false_eq_true, Int.reduceLE, Int.reduceLT, Int.reduceEq, Int.reduceNe, Int.reduceNeg, Int.reduceAdd, Int.reduceSub, Int.reduceMul, Nat.reduceAdd, Nat.reduceLeDiff, true_or, or_true, false_or, or_false, reduceIte, w1, w2]
theorem s_needOfM (L i d k : Int) (r : MM) (hM1 : r 149 20 = 157) (hM2 : r 149 21 = 158) (h0 : 0 ≤ i) (h1 : i < 40) (h2 : 0 ≤ r 158 i) (h3 : r 158 i < 40) (hk : r 157 (12 * r 158 i + 3) = k) (k0 : 0 ≤ k) (k1 : k ≤ 655350) (d0 : 0 ≤ d) (d1 : d ≤ 12) : ev 203 0 [some (vR 149), some (vI i), some (vI d)] [] r (g_1 L) = some (some (vI (k * 3 * d)), r, g_1 L) := by
  have O := s_ofMode L i 3 r hM1 hM2 h0 h1 h2 h3 (by omega) (by omega)
  rw [hk] at O
  have b := mul_bd (show 0 ≤ k * 3 by omega) (show k * 3 ≤ 1966050 by omega) d0 d1
  have w1 : w32 (3 * d) = 3 * d := wi32 (by omega) (by omega)
  have w2 : w32 (3 * d * k) = k * 3 * d := by
    have e : 3 * d * k = k * 3 * d := by rw [Int.mul_comm (3 * d) k, Int.mul_assoc]
    rw [e, wi32 (by omega) (by omega)]
  simp only [xe_203_0, xe_203_1, xe_203_2, xe_203_3, xe_203_4, xe_203_5, xe_203_6, xe_203_9, xe_203_10, ite_self, mm_nL_I, mm_nL_R, mm_nL_0, Option.bind_some, Option.bind_none, bnd_ite, Option.toList_some, Option.toList_none, List.cons_append, List.nil_append, mm_cats_nil, mm_cats_I, mm_cats_L, mm_cats_R, if_true, if_false, true_and, and_true, false_and, and_false, not_true_eq_false, not_false_eq_true, Int.reduceLE, Int.reduceLT, Int.reduceEq, Int.reduceNe, Int.reduceNeg, Int.reduceAdd, Int.reduceSub, Int.reduceMul, Nat.reduceAdd, Nat.reduceLeDiff, true_or, or_true, false_or, or_false, reduceIte, k_149, O, w1, w2]
theorem s_needX (L i d : Int) (c r : MM) (hX : SX c) (hR : Rmod c r) : ev 119 0 [some (vR 10), some (vI i), some (vI d), none] [] c (g_1 L) = some (some (vI (if 0 ≤ i ∧ i < c 45 4 then if d = 6 ∨ d = 8 ∨ d = 10 ∨ d = 12 then r 157 (12 * r 158 i + 3) * 3 * d else -3 else -2)), c, g_1 L) := by
  obtain ⟨m1, m2, m3, m4, m6⟩ := hR
  have A := s_modesAt L i c hX m3
  by_cases h : 0 ≤ i ∧ i < c 45 4
  · obtain ⟨u, o1, u0, u3, o2, o3, ⟨e1, e2, e3, e4, e5, e6, e7, e8, e9, e10, e11, e12⟩, f⟩ := m6 i h.1 h.2
    rw [if_pos h, o1] at A
    rw [if_pos h]
    generalize r 158 i = o at *
    unfold mok at f
    have kt : c (49 + 2 * u) 0 = 50 + 2 * u := hX.2.2 u u0 u3
    have k1 := k_mode L u u0 u3
    have k2 := k_mtim L u u0 u3
    have n7 : ¬ 49 + 2 * u = 7 := by omega
    have n0 : ¬ 49 + 2 * u = 0 := by omega
    by_cases hd : d = 6 ∨ d = 8 ∨ d = 10 ∨ d = 12
    · have N := s_needOfX (c (50 + 2 * u) 0) d c (g_1 L) (by omega) (by omega) (by omega) (by omega)
      rw [e4] at N
      have b := mul_bd (show 0 ≤ r 157 (12 * o + 3) * 3 by omega) (show r 157 (12 * o + 3) * 3 ≤ 1966050 by omega) (show 0 ≤ d by omega) (show d ≤ 12 by omega)
      have w := wi32 (x := r 157 (12 * o + 3) * 3 * d) (by omega) (by omega)
      simp only [xe_119_0, xe_119_1, xe_119_4, xe_119_5, xe_119_8 _ _ (some (vI _)) _ _ _ _ _ rfl, xe_119_8 _ _ (some (vR _)) _ _ _ _ _ rfl, xe_119_8 _ _ none _ _ _ _ _ rfl, xe_119_9, xe_119_10, xe_119_13, xe_119_15, xe_119_16, xe_119_17, xe_119_20, xe_119_23, xe_119_25, xe_119_26, xe_119_27, xe_119_30, xe_119_33, xe_119_34, xe_119_37, xe_119_38, ite_self, mm_nL_I, mm_nL_R, mm_nL_0, Option.bind_some, Option.bind_none, bnd_ite, Option.toList_some, Option.toList_none, List.cons_append, List.nil_append, mm_cats_nil, mm_cats_I, mm_cats_L, mm_cats_R, if_true, if_false, true_and, and_true, false_and, and_false, not_true_eq_false, not_false_eq_true, Int.reduceLE, Int.reduceLT, Int.reduceEq, Int.reduceNe, Int.reduceNeg, Int.reduceAdd, Int.reduceSub, Int.reduceMul, Nat.reduceAdd, Nat.reduceLeDiff, true_or, or_true, false_or, or_false, reduceIte, k_10, k_45, sx_10_4 hX, A, n7, n0, k1, kt, k2, e4, s_isDepthX, bi, hd, N, w]
    · simp only [xe_119_0, xe_119_1, xe_119_4, xe_119_5, xe_119_8 _ _ (some (vI _)) _ _ _ _ _ rfl, xe_119_8 _ _ (some (vR _)) _ _ _ _ _ rfl, xe_119_8 _ _ none _ _ _ _ _ rfl, xe_119_9, xe_119_10, xe_119_13, xe_119_15, xe_119_16, xe_119_17, xe_119_20, xe_119_23, xe_119_25, xe_119_26, xe_119_27, xe_119_30, xe_119_33, xe_119_34, xe_119_37, xe_119_38, ite_self, mm_nL_I, mm_nL_R, mm_nL_0, Option.bind_some, Option.bind_none, bnd_ite, Option.toList_some, Option.toList_none, List.cons_append, List.nil_append, mm_cats_nil, mm_cats_I, mm_cats_L, mm_cats_R, if_true, if_false, true_and, and_true, false_and, and_false, not_true_eq_false, not_false_eq_true, Int.reduceLE, Int.reduceLT, Int.reduceEq, Int.reduceNe, Int.reduceNeg, Int.reduceAdd, Int.reduceSub, Int.reduceMul, Nat.reduceAdd, Nat.reduceLeDiff, true_or, or_true, false_or, or_false, reduceIte, k_10, k_45, sx_10_4 hX, A, n7, n0, k1, kt, k2, e4, s_isDepthX, bi, hd]
  · rw [if_neg h] at A
    rw [if_neg h]
    simp only [xe_119_0, xe_119_1, xe_119_4, xe_119_5, xe_119_8 _ _ (some (vI _)) _ _ _ _ _ rfl, xe_119_8 _ _ (some (vR _)) _ _ _ _ _ rfl, xe_119_8 _ _ none _ _ _ _ _ rfl, xe_119_9, xe_119_10, xe_119_13, xe_119_15, xe_119_16, xe_119_17, xe_119_20, xe_119_23, xe_119_25, xe_119_26, xe_119_27, xe_119_30, xe_119_33, xe_119_34, xe_119_37, xe_119_38, ite_self, mm_nL_I, mm_nL_R, mm_nL_0, Option.bind_some, Option.bind_none, bnd_ite, Option.toList_some, Option.toList_none, List.cons_append, List.nil_append, mm_cats_nil, mm_cats_I, mm_cats_L, mm_cats_R, if_true, if_false, true_and, and_true, false_and, and_false, not_true_eq_false, not_false_eq_true, Int.reduceLE, Int.reduceLT, Int.reduceEq, Int.reduceNe, Int.reduceNeg, Int.reduceAdd, Int.reduceSub, Int.reduceMul, Nat.reduceAdd, Nat.reduceLeDiff, true_or, or_true, false_or, or_false, reduceIte, k_10, k_45, sx_10_4 hX, A]
theorem s_needM (L i d : Int) (c r : MM) (hM : SM r) (hR : Rmod c r) (d1 : -2147483648 ≤ d) (d2 : d < 2147483648) : ev 206 0 [some (vR 149), some (vI i), some (vI d)] [] r (g_1 L) = some (some (vI (if 0 ≤ i ∧ i < c 45 4 then if d = 6 ∨ d = 8 ∨ d = 10 ∨ d = 12 then r 157 (12 * r 158 i + 3) * 3 * d else -3 else -2)), mset r 149 0 0, g_1 L) := by
  obtain ⟨m1, m2, m3, m4, m6⟩ := hR
  have n : ∀ j, ¬ j = 0 → mset r 149 0 0 149 j = r 149 j := fun j hj => ms_nk _ _ _ _ _ _ hj
  have n157 : mset r 149 0 0 157 = r 157 := ms_row _ _ _ _ _ (by omega)
  have n158 : mset r 149 0 0 158 = r 158 := ms_row _ _ _ _ _ (by omega)
  have n23 : mset r 149 0 0 149 23 = c 45 4 := by rw [n 23 (by omega), m1]
  have I := s_isMode L i (mset r 149 0 0) (by omega) (by omega)
  rw [n23] at I
  by_cases h : 0 ≤ i ∧ i < c 45 4
  · obtain ⟨u, o1, u0, u3, o2, o3, ⟨e1, e2, e3, e4, e5, e6, e7, e8, e9, e10, e11, e12⟩, f⟩ := m6 i h.1 h.2
    unfold mok at f
    by_cases hd : d = 6 ∨ d = 8 ∨ d = 10 ∨ d = 12
    · have N := s_needOfM L i d (r 157 (12 * r 158 i + 3)) (mset r 149 0 0) (by rw [n 20 (by omega)]; exact sm_149_20 hM) (by rw [n 21 (by omega)]; exact sm_149_21 hM) h.1 (by omega) (by rw [n158]; omega) (by rw [n158]; omega) (by rw [n157, n158]) (by omega) (by omega) (by omega) (by omega)
      simp only [xe_206_0, xe_206_1, xe_206_2, xe_206_5, xe_206_6, xe_206_7, xe_206_10, xe_206_13, xe_206_15, xe_206_16, xe_206_17, xe_206_20, xe_206_23, xe_206_24, xe_206_25, xe_206_26, xe_206_29, xe_206_32, xe_206_34, ite_self, mm_nL_I, mm_nL_R, mm_nL_0, Option.bind_some, Option.bind_none, bnd_ite, Option.toList_some, Option.toList_none, List.cons_append, List.nil_append, mm_cats_nil, mm_cats_I, mm_cats_L, mm_cats_R, if_true, if_false, true_and, and_true, false_and, and_false, not_true_eq_false, not_false_eq_true, Int.reduceLE, Int.reduceLT, Int.reduceEq, Int.reduceNe, Int.reduceNeg, Int.reduceAdd, Int.reduceSub, Int.reduceMul, Nat.reduceAdd, Nat.reduceLeDiff, true_or, or_true, false_or, or_false, reduceIte, k_149, I, h, bi, s_isDepthM d _ _ d1 d2, hd, N]
    · simp only [xe_206_0, xe_206_1, xe_206_2, xe_206_5, xe_206_6, xe_206_7, xe_206_10, xe_206_13, xe_206_15, xe_206_16, xe_206_17, xe_206_20, xe_206_23, xe_206_24, xe_206_25, xe_206_26, xe_206_29, xe_206_32, xe_206_34, ite_self, mm_nL_I, mm_nL_R, mm_nL_0, Option.bind_some, Option.bind_none, bnd_ite, Option.toList_some, Option.toList_none, List.cons_append, List.nil_append, mm_cats_nil, mm_cats_I, mm_cats_L, mm_cats_R, if_true, if_false, true_and, and_true, false_and, and_false, not_true_eq_false, not_false_eq_true, Int.reduceLE, Int.reduceLT, Int.reduceEq, Int.reduceNe, Int.reduceNeg, Int.reduceAdd, Int.reduceSub, Int.reduceMul, Nat.reduceAdd, Nat.reduceLeDiff, true_or, or_true, false_or, or_false, reduceIte, k_149, I, h, bi, s_isDepthM d _ _ d1 d2, hd]
  · simp only [xe_206_0, xe_206_1, xe_206_2, xe_206_5, xe_206_6, xe_206_7, xe_206_10, xe_206_13, xe_206_15, xe_206_16, xe_206_17, xe_206_20, xe_206_23, xe_206_24, xe_206_25, xe_206_26, xe_206_29, xe_206_32, xe_206_34, ite_self, mm_nL_I, mm_nL_R, mm_nL_0, Option.bind_some, Option.bind_none, bnd_ite, Option.toList_some, Option.toList_none, List.cons_append, List.nil_append, mm_cats_nil, mm_cats_I, mm_cats_L, mm_cats_R, if_true, if_false, true_and, and_true, false_and, and_false, not_true_eq_false, not_false_eq_true, Int.reduceLE, Int.reduceLT, Int.reduceEq, Int.reduceNe, Int.reduceNeg, Int.reduceAdd, Int.reduceSub, Int.reduceMul, Nat.reduceAdd, Nat.reduceLeDiff, true_or, or_true, false_or, or_false, reduceIte, k_149, I, h, bi]
