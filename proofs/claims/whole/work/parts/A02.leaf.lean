/-! leaves -/
theorem cmp_lt (x y : Int) : mm_cmp x y < 0 ↔ x < y := by unfold mm_cmp; (repeat' split) <;> omega
theorem cmp_gt (x y : Int) : 0 < mm_cmp x y ↔ y < x := by unfold mm_cmp; (repeat' split) <;> omega
theorem cmp_le (x y : Int) : mm_cmp x y ≤ 0 ↔ x ≤ y := by unfold mm_cmp; (repeat' split) <;> omega
theorem cmp_ge (x y : Int) : 0 ≤ mm_cmp x y ↔ y ≤ x := by unfold mm_cmp; (repeat' split) <;> omega
def bi (p : Prop) [Decidable p] : Int := if p then 1 else 0
theorem bi_0 (p : Prop) [Decidable p] : bi p = 0 ↔ ¬ p := by unfold bi; split <;> simp_all
theorem bi_ok (p : Prop) [Decidable p] : bi p = 0 ∨ bi p = 1 := by unfold bi; split <;> simp
theorem s_isIn (v lo hi : Int) (μ : MM) (G : MG) : ev 148 0 [some (vL v), none, some (vL lo), none, some (vL hi), none] [] μ G = some (some (vI (bi (lo ≤ v ∧ v ≤ hi))), μ, G) := by
  simp only [xe_148_0, xe_148_1, xe_148_2, xe_148_3, xe_148_6, xe_148_7, xe_148_9, xe_148_10, xe_148_13, xe_148_14, xe_148_17, xe_148_18, ite_self, mm_nL_I, mm_nL_R, mm_nL_0, Option.bind_some, Option.bind_none, bnd_ite, Option.toList_some, Option.toList_none, List.cons_append, List.nil_append, mm_cats_nil, mm_cats_I, mm_cats_L, mm_cats_R, if_true, if_false, true_and, and_true, false_and, and_false, not_true_eq_false, not_false_eq_true, Int.reduceLE, Int.reduceLT, Int.reduceEq, Int.reduceNe, Int.reduceNeg, Int.reduceAdd, Int.reduceSub, Int.reduceMul, Nat.reduceAdd, Nat.reduceLeDiff, true_or, or_true, false_or, or_false, reduceIte, cmp_lt, cmp_gt, bi]
  split
  · rw [if_neg (by omega)]
  · split
    · rw [if_neg (by omega)]
    · rw [if_pos (by omega)]
theorem s_greater (x y : Int) (μ : MM) (G : MG) : ev 150 0 [some (vI x), some (vI y)] [] μ G = some (some (vI (max x y)), μ, G) := by
  simp only [xe_150_0, xe_150_1, xe_150_2, xe_150_5, xe_150_6, xe_150_9, xe_150_10, ite_self, mm_nL_I, mm_nL_R, mm_nL_0, Option.bind_some, Option.bind_none, bnd_ite, Option.toList_some, Option.toList_none, List.cons_append, List.nil_append, mm_cats_nil, mm_cats_I, mm_cats_L, mm_cats_R, if_true, if_false, true_and, and_true, false_and, and_false, not_true_eq_false, not_false_eq_true, Int.reduceLE, Int.reduceLT, Int.reduceEq, Int.reduceNe, Int.reduceNeg, Int.reduceAdd, Int.reduceSub, Int.reduceMul, Nat.reduceAdd, Nat.reduceLeDiff, true_or, or_true, false_or, or_false, reduceIte]
  split
  · rw [Int.max_eq_right (by omega)]
  · rw [Int.max_eq_left (by omega)]
/-- Bytes at a: its row lies behind it -/
theorem s_at (a i : Int) (μ : MM) (G : MG) (h0 : gk G a = 0) (h1 : μ a 0 = a + 1) (h2 : gk G (a + 1) = 100) (h3 : gl G (a + 1) = 520) :
    ev 3 0 [some (vR a), some (vI i)] [] μ G = some (some (vI (if 0 ≤ i ∧ i < μ a 1 ∧ i < 520 then μ (a + 1) i else 0)), μ, G) := by
  simp only [xe_3_0, xe_3_1, xe_3_4, xe_3_5, xe_3_6, xe_3_9, xe_3_12, xe_3_13, xe_3_14, xe_3_17, xe_3_18, xe_3_21, xe_3_22, xe_3_25, xe_3_26, xe_3_27, xe_3_30, xe_3_31, ite_self, mm_nL_I, mm_nL_R, mm_nL_0, Option.bind_some, Option.bind_none, bnd_ite, Option.toList_some, Option.toList_none, List.cons_append, List.nil_append, mm_cats_nil, mm_cats_I, mm_cats_L, mm_cats_R, if_true, if_false, true_and, and_true, false_and, and_false, not_true_eq_false, not_false_eq_true, Int.reduceLE, Int.reduceLT, Int.reduceEq, Int.reduceNe, Int.reduceNeg, Int.reduceAdd, Int.reduceSub, Int.reduceMul, Nat.reduceAdd, Nat.reduceLeDiff, true_or, or_true, false_or, or_false, reduceIte, h0, h1, h2, h3]
  split
  · rw [if_neg (by omega)]
  · split
    · rw [if_neg (by omega)]
    · split
      · rw [if_neg (by omega)]
      · rw [if_pos (by omega), if_pos (by omega)]
theorem s_clear (a : Int) (μ : MM) (G : MG) (h0 : gk G a = 0) : ev 1 0 [some (vR a)] [] μ G = some (none, mset μ a 1 0, G) := by
  simp only [xe_1_0, xe_1_1, xe_1_2, xe_1_5, ite_self, mm_nL_I, mm_nL_R, mm_nL_0, Option.bind_some, Option.bind_none, bnd_ite, Option.toList_some, Option.toList_none, List.cons_append, List.nil_append, mm_cats_nil, mm_cats_I, mm_cats_L, mm_cats_R, if_true, if_false, true_and, and_true, false_and, and_false, not_true_eq_false, not_false_eq_true, Int.reduceLE, Int.reduceLT, Int.reduceEq, Int.reduceNe, Int.reduceNeg, Int.reduceAdd, Int.reduceSub, Int.reduceMul, Nat.reduceAdd, Nat.reduceLeDiff, true_or, or_true, false_or, or_false, reduceIte, h0]
theorem s_take (a b n : Int) (μ : MM) (G : MG) (h0 : gk G a = 0) (h1 : μ a 0 = a + 1) (h2 : gk G (a + 1) = 100) (h3 : gl G (a + 1) = 520) (g0 : gk G b = 0) (g1 : μ b 0 = b + 1) (g2 : gk G (b + 1) = 100) (g3 : gl G (b + 1) = 520)
    (ha : 10 ≤ a) (hab : ¬ a = b) (hab1 : ¬ b = a + 1) (hab2 : ¬ a = b + 1) (hn : 0 ≤ n) (hn2 : n ≤ μ b 1) (hb : μ b 1 ≤ 520) :
    ev 4 0 [some (vR a), some (vR b), some (vI n)] [] μ G = some (none, mcopy (mset μ a 1 n) (a + 1) 0 n (fun q => μ (b + 1) q), G) := by
  have e1 : max 0 (min n (μ b 1)) = n := by omega
  have e2 : mset μ a 1 n b 0 = b + 1 := by rw [ms_na _ _ _ _ _ _ (by omega), g1]
  have e3 : mset μ a 1 n a 0 = a + 1 := by rw [ms_nk _ _ _ _ _ _ (by omega), h1]
  simp only [xe_4_0, xe_4_1, xe_4_2, xe_4_3, xe_4_4, xe_4_7, xe_4_10, xe_4_13, xe_4_16, xe_4_17, xe_4_20, xe_4_21, xe_4_22, xe_4_25, xe_4_26, xe_4_27, xe_4_30, xe_4_33, ite_self, mm_nL_I, mm_nL_R, mm_nL_0, Option.bind_some, Option.bind_none, bnd_ite, Option.toList_some, Option.toList_none, List.cons_append, List.nil_append, mm_cats_nil, mm_cats_I, mm_cats_L, mm_cats_R, if_true, if_false, true_and, and_true, false_and, and_false, not_true_eq_false, not_false_eq_true, Int.reduceLE, Int.reduceLT, Int.reduceEq, Int.reduceNe, Int.reduceNeg, Int.reduceAdd, Int.reduceSub, Int.reduceMul, Nat.reduceAdd, Nat.reduceLeDiff, true_or, or_true, false_or, or_false, reduceIte, h0, h1, h2, h3, g0, g1, g2, g3, e1, e2, e3, ms_eq]
  rw [if_pos (by omega)]
  congr 3
  funext c j
  simp only [mcopy]
  split
  · rw [ms_na _ _ _ _ _ _ (by omega)]
    simp
  · rfl
/-- n numbers of f, from k on -/
def sm (f : Int → Int) (k : Int) : Nat → Int
  | 0 => 0
  | n + 1 => sm f k n + f (k + n)
