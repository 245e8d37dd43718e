/-! what is put aside for the paper -/
def ops (r : MM) : MM := fun b j => if b = 166 ∧ 0 ≤ j ∧ j < 88 then r 165 j else if b = 169 ∧ 0 ≤ j ∧ j < 4 then r 167 j else if b = 170 ∧ 0 ≤ j ∧ j < 4 then r 168 j else if b = 149 ∧ j = 42 then 1 else r b j
def cls (r : MM) : MM := fun b j => if b = 165 ∧ 0 ≤ j ∧ j < 88 then r 166 j else if b = 167 ∧ 0 ≤ j ∧ j < 4 then r 169 j else if b = 168 ∧ 0 ≤ j ∧ j < 4 then r 170 j else if b = 149 ∧ j = 42 then 0 else r b j
theorem s_op1 (L : Int) : ∀ (m : Nat) (k : Int) (r : MM), r 149 35 = 165 → r 149 36 = 166 → 0 ≤ k → k + m = 88 → ev 233 7 [some (vR 149), some (vI k)] [] r (g_1 L) = ev 233 31 [some (vR 149), some (vI 88)] [] (fun b j => if b = 166 ∧ k ≤ j ∧ j < 88 then r 165 j else r b j) (g_1 L) := by
  intro m
  induction m with
  | zero =>
    intro k r h1 h2 k0 hk
    have e : k = 88 := by omega
    subst e
    simp only [xe_233_7, xe_233_8, xe_233_10, ite_self, mm_nL_I, mm_nL_R, mm_nL_0, Option.bind_some, Option.bind_none, bnd_ite, Option.toList_some, Option.toList_none, List.cons_append, List.nil_append, mm_cats_nil, mm_cats_I, mm_cats_L, mm_cats_R, if_true, if_false, true_and, and_true, false_and, and_false, not_true_eq_false, not_false_eq_true, Int.reduceLE, Int.reduceLT, Int.reduceEq, Int.reduceNe, Int.reduceNeg, Int.reduceAdd, Int.reduceSub, Int.reduceMul, Nat.reduceAdd, Nat.reduceLeDiff, true_or, or_true, false_or, or_false, reduceIte]
    congr 1
    funext b j
    rw [if_neg (by omega)]
  | succ m ih =>
    intro k r h1 h2 k0 hk
    have g : ¬ 88 ≤ k := by omega
    have g' : k < 88 := by omega
    have w : w32 (k + 1) = k + 1 := wi32 (by omega) (by omega)
    rw [xe_233_7]
    simp only [xe_233_8, xe_233_10, xe_233_13, xe_233_14, xe_233_17, xe_233_18, xe_233_19, xe_233_22, xe_233_23, xe_233_24, xe_233_25 (some (vI _)) _ _ _ _ rfl, xe_233_25 (some (vR _)) _ _ _ _ rfl, xe_233_25 none _ _ _ _ rfl, xe_233_28, ite_self, mm_nL_I, mm_nL_R, mm_nL_0, Option.bind_some, Option.bind_none, bnd_ite, Option.toList_some, Option.toList_none, List.cons_append, List.nil_append, mm_cats_nil, mm_cats_I, mm_cats_L, mm_cats_R, if_true, if_false, true_and, and_true, false_and, and_false, not_true_eq_false, not_false_eq_true, Int.reduceLE, Int.reduceLT, Int.reduceEq, Int.reduceNe, Int.reduceNeg, Int.reduceAdd, Int.reduceSub, Int.reduceMul, Nat.reduceAdd, Nat.reduceLeDiff, true_or, or_true, false_or, or_false, reduceIte, k_149, k_165, l_165, k_166, l_166, h1, h2, g, g', k0, w]
    rw [ih (k + 1) _ (by rw [ms_row _ _ _ _ _ (by omega)]; exact h1) (by rw [ms_row _ _ _ _ _ (by omega)]; exact h2) (by omega) (by omega)]
    congr 1
    funext b j
    rw [ms_row _ _ _ _ 165 (by omega)]
    simp only [mset]
    by_cases e : b = 166 ∧ k ≤ j ∧ j < 88
    · rw [if_pos e]
      by_cases e2 : j = k
      · rw [if_neg (by omega), if_pos ⟨e.1, e2⟩, e2]
      · rw [if_pos ⟨e.1, by omega, e.2.2⟩]
    · rw [if_neg e, if_neg (fun q => e ⟨q.1, by omega, q.2.2⟩), if_neg (fun q => e ⟨q.1, by omega, by omega⟩)]
theorem s_op2 (L : Int) : ∀ (m : Nat) (k : Int) (r : MM), r 149 37 = 167 → r 149 38 = 168 → r 149 39 = 169 → r 149 40 = 170 → 0 ≤ k → k + m = 4 → ev 233 33 [some (vR 149), some (vI k)] [] r (g_1 L) = some (none, (fun b j => if b = 169 ∧ k ≤ j ∧ j < 4 then r 167 j else if b = 170 ∧ k ≤ j ∧ j < 4 then r 168 j else r b j), g_1 L) := by
  intro m
  induction m with
  | zero =>
    intro k r h1 h2 h3 h4 k0 hk
    have g : 4 ≤ k := by omega
    simp only [xe_233_33, xe_233_34, xe_233_35, xe_233_68, ite_self, mm_nL_I, mm_nL_R, mm_nL_0, Option.bind_some, Option.bind_none, bnd_ite, Option.toList_some, Option.toList_none, List.cons_append, List.nil_append, mm_cats_nil, mm_cats_I, mm_cats_L, mm_cats_R, if_true, if_false, true_and, and_true, false_and, and_false, not_true_eq_false, not_false_eq_true, Int.reduceLE, Int.reduceLT, Int.reduceEq, Int.reduceNe, Int.reduceNeg, Int.reduceAdd, Int.reduceSub, Int.reduceMul, Nat.reduceAdd, Nat.reduceLeDiff, true_or, or_true, false_or, or_false, reduceIte, g]
    congr 3
    funext b j
    rw [if_neg (by omega), if_neg (by omega)]
  | succ m ih =>
    intro k r h1 h2 h3 h4 k0 hk
    have g : ¬ 4 ≤ k := by omega
    have g' : k < 4 := by omega
    have w : w32 (k + 1) = k + 1 := wi32 (by omega) (by omega)
    have m1 : ∀ v, mset r 169 k v 149 = r 149 := fun v => ms_row _ _ _ _ _ (by omega)
    have m2 : ∀ v, mset r 169 k v 168 = r 168 := fun v => ms_row _ _ _ _ _ (by omega)
    have m3 : ∀ v v', mset (mset r 169 k v) 170 k v' 149 = r 149 := fun v v' => by rw [ms_row _ _ _ _ _ (by omega), m1]
    rw [xe_233_33]
    simp only [xe_233_34, xe_233_35, xe_233_38, xe_233_39, xe_233_42, xe_233_43, xe_233_44, xe_233_47, xe_233_48, xe_233_49, xe_233_50, xe_233_51, xe_233_54, xe_233_55, xe_233_56, xe_233_59, xe_233_60, xe_233_61, xe_233_62 (some (vI _)) _ _ _ _ rfl, xe_233_62 (some (vR _)) _ _ _ _ rfl, xe_233_62 none _ _ _ _ rfl, xe_233_65, xe_233_68, ite_self, mm_nL_I, mm_nL_R, mm_nL_0, Option.bind_some, Option.bind_none, bnd_ite, Option.toList_some, Option.toList_none, List.cons_append, List.nil_append, mm_cats_nil, mm_cats_I, mm_cats_L, mm_cats_R, if_true, if_false, true_and, and_true, false_and, and_false, not_true_eq_false, not_false_eq_true, Int.reduceLE, Int.reduceLT, Int.reduceEq, Int.reduceNe, Int.reduceNeg, Int.reduceAdd, Int.reduceSub, Int.reduceMul, Nat.reduceAdd, Nat.reduceLeDiff, true_or, or_true, false_or, or_false, reduceIte, k_149, k_167, l_167, k_168, l_168, k_169, l_169, k_170, l_170, h1, h2, h3, h4, m1, m2, g, g', k0, w]
    rw [ih (k + 1) _ (by rw [m3]; exact h1) (by rw [m3]; exact h2) (by rw [m3]; exact h3) (by rw [m3]; exact h4) (by omega) (by omega)]
    congr 3
    funext b j
    rw [ms_row _ _ _ _ 167 (by omega), ms_row _ _ _ _ 167 (by omega), ms_row _ _ _ _ 168 (by omega), ms_row _ _ _ _ 168 (by omega)]
    simp only [mset]
    (repeat' split) <;> first | rfl | (exfalso; omega) | (have e : j = k := (by omega); rw [e])
theorem s_opens (L : Int) (r : MM) (hP : MP r) : ev 233 0 [some (vR 149), none] [] r (g_1 L) = some (none, ops r, g_1 L) := by
  obtain ⟨p1, p2, p3, p4, p5, p6, p7⟩ := hP
  have f1 : (1 : Int) = 0 ∨ (1 : Int) = 1 := Or.inr rfl
  have n : ∀ k, ¬ k = 42 → mset r 149 42 1 149 k = r 149 k := fun k hk => ms_nk _ _ _ _ _ _ hk
  have A := s_op1 L 88 0 (mset r 149 42 1) (by rw [n _ (by omega)]; exact p1) (by rw [n _ (by omega)]; exact p2) (by omega) (by omega)
  have q : ∀ k, (fun (b j : Int) => if b = 166 ∧ 0 ≤ j ∧ j < 88 then mset r 149 42 1 165 j else mset r 149 42 1 b j) 149 k = mset r 149 42 1 149 k := fun k => by
    show (if (149 : Int) = 166 ∧ _ then _ else _) = _
    rw [if_neg (by omega)]
  have B := s_op2 L 4 0 (fun (b j : Int) => if b = 166 ∧ 0 ≤ j ∧ j < 88 then mset r 149 42 1 165 j else mset r 149 42 1 b j) ((q _).trans ((n _ (by omega)).trans p3)) ((q _).trans ((n _ (by omega)).trans p4)) ((q _).trans ((n _ (by omega)).trans p5)) ((q _).trans ((n _ (by omega)).trans p6)) (by omega) (by omega)
  have st : ev 233 0 [some (vR 149), none] [] r (g_1 L) = ev 233 7 [some (vR 149), some (vI 0)] [] (mset r 149 42 1) (g_1 L) := by
    simp only [xe_233_0, xe_233_1, xe_233_2, xe_233_5, xe_233_6 (some (vI _)) _ _ _ _ _ rfl, xe_233_6 (some (vR _)) _ _ _ _ _ rfl, xe_233_6 none _ _ _ _ _ rfl, ite_self, mm_nL_I, mm_nL_R, mm_nL_0, Option.bind_some, Option.bind_none, bnd_ite, Option.toList_some, Option.toList_none, List.cons_append, List.nil_append, mm_cats_nil, mm_cats_I, mm_cats_L, mm_cats_R, if_true, if_false, true_and, and_true, false_and, and_false, not_true_eq_false, not_false_eq_true, Int.reduceLE, Int.reduceLT, Int.reduceEq, Int.reduceNe, Int.reduceNeg, Int.reduceAdd, Int.reduceSub, Int.reduceMul, Nat.reduceAdd, Nat.reduceLeDiff, true_or, or_true, false_or, or_false, reduceIte, k_149]
  rw [st, A]
  simp only [xe_233_31, xe_233_32 (some (vI _)) _ _ _ _ _ rfl, xe_233_32 (some (vR _)) _ _ _ _ _ rfl, xe_233_32 none _ _ _ _ _ rfl]
  rw [B]
  congr 3
  funext b j
  simp only [ops, mset]
  (repeat' split) <;> first | rfl | (exfalso; omega)
theorem s_cl1 (L : Int) : ∀ (m : Nat) (k : Int) (r : MM), r 149 35 = 165 → r 149 36 = 166 → 0 ≤ k → k + m = 88 → ev 234 7 [some (vR 149), some (vI k)] [] r (g_1 L) = ev 234 31 [some (vR 149), some (vI 88)] [] (fun b j => if b = 165 ∧ k ≤ j ∧ j < 88 then r 166 j else r b j) (g_1 L) := by
  intro m
  induction m with
  | zero =>
    intro k r h1 h2 k0 hk
    have e : k = 88 := by omega
    subst e
    simp only [xe_234_7, xe_234_8, xe_234_10, ite_self, mm_nL_I, mm_nL_R, mm_nL_0, Option.bind_some, Option.bind_none, bnd_ite, Option.toList_some, Option.toList_none, List.cons_append, List.nil_append, mm_cats_nil, mm_cats_I, mm_cats_L, mm_cats_R, if_true, if_false, true_and, and_true, false_and, and_false, not_true_eq_false, not_false_eq_true, Int.reduceLE, Int.reduceLT, Int.reduceEq, Int.reduceNe, Int.reduceNeg, Int.reduceAdd, Int.reduceSub, Int.reduceMul, Nat.reduceAdd, Nat.reduceLeDiff, true_or, or_true, false_or, or_false, reduceIte]
    congr 1
    funext b j
    rw [if_neg (by omega)]
  | succ m ih =>
    intro k r h1 h2 k0 hk
    have g : ¬ 88 ≤ k := by omega
    have g' : k < 88 := by omega
    have w : w32 (k + 1) = k + 1 := wi32 (by omega) (by omega)
    rw [xe_234_7]
    simp only [xe_234_8, xe_234_10, xe_234_13, xe_234_14, xe_234_17, xe_234_18, xe_234_19, xe_234_22, xe_234_23, xe_234_24, xe_234_25 (some (vI _)) _ _ _ _ rfl, xe_234_25 (some (vR _)) _ _ _ _ rfl, xe_234_25 none _ _ _ _ rfl, xe_234_28, ite_self, mm_nL_I, mm_nL_R, mm_nL_0, Option.bind_some, Option.bind_none, bnd_ite, Option.toList_some, Option.toList_none, List.cons_append, List.nil_append, mm_cats_nil, mm_cats_I, mm_cats_L, mm_cats_R, if_true, if_false, true_and, and_true, false_and, and_false, not_true_eq_false, not_false_eq_true, Int.reduceLE, Int.reduceLT, Int.reduceEq, Int.reduceNe, Int.reduceNeg, Int.reduceAdd, Int.reduceSub, Int.reduceMul, Nat.reduceAdd, Nat.reduceLeDiff, true_or, or_true, false_or, or_false, reduceIte, k_149, k_165, l_165, k_166, l_166, h1, h2, g, g', k0, w]
    rw [ih (k + 1) _ (by rw [ms_row _ _ _ _ _ (by omega)]; exact h1) (by rw [ms_row _ _ _ _ _ (by omega)]; exact h2) (by omega) (by omega)]
    congr 1
    funext b j
    rw [ms_row _ _ _ _ 166 (by omega)]
    simp only [mset]
    by_cases e : b = 165 ∧ k ≤ j ∧ j < 88
    · rw [if_pos e]
      by_cases e2 : j = k
      · rw [if_neg (by omega), if_pos ⟨e.1, e2⟩, e2]
      · rw [if_pos ⟨e.1, by omega, e.2.2⟩]
    · rw [if_neg e, if_neg (fun q => e ⟨q.1, by omega, q.2.2⟩), if_neg (fun q => e ⟨q.1, by omega, by omega⟩)]
theorem s_cl2 (L : Int) : ∀ (m : Nat) (k : Int) (r : MM), r 149 37 = 167 → r 149 38 = 168 → r 149 39 = 169 → r 149 40 = 170 → 0 ≤ k → k + m = 4 → ev 234 33 [some (vR 149), some (vI k)] [] r (g_1 L) = some (none, (fun b j => if b = 167 ∧ k ≤ j ∧ j < 4 then r 169 j else if b = 168 ∧ k ≤ j ∧ j < 4 then r 170 j else r b j), g_1 L) := by
  intro m
  induction m with
  | zero =>
    intro k r h1 h2 h3 h4 k0 hk
    have g : 4 ≤ k := by omega
    simp only [xe_234_33, xe_234_34, xe_234_35, xe_234_68, ite_self, mm_nL_I, mm_nL_R, mm_nL_0, Option.bind_some, Option.bind_none, bnd_ite, Option.toList_some, Option.toList_none, List.cons_append, List.nil_append, mm_cats_nil, mm_cats_I, mm_cats_L, mm_cats_R, if_true, if_false, true_and, and_true, false_and, and_false, not_true_eq_false, not_false_eq_true, Int.reduceLE, Int.reduceLT, Int.reduceEq, Int.reduceNe, Int.reduceNeg, Int.reduceAdd, Int.reduceSub, Int.reduceMul, Nat.reduceAdd, Nat.reduceLeDiff, true_or, or_true, false_or, or_false, reduceIte, g]
    congr 3
    funext b j
    rw [if_neg (by omega), if_neg (by omega)]
  | succ m ih =>
    intro k r h1 h2 h3 h4 k0 hk
    have g : ¬ 4 ≤ k := by omega
    have g' : k < 4 := by omega
    have w : w32 (k + 1) = k + 1 := wi32 (by omega) (by omega)
    have m1 : ∀ v, mset r 167 k v 149 = r 149 := fun v => ms_row _ _ _ _ _ (by omega)
    have m2 : ∀ v, mset r 167 k v 170 = r 170 := fun v => ms_row _ _ _ _ _ (by omega)
    have m3 : ∀ v v', mset (mset r 167 k v) 168 k v' 149 = r 149 := fun v v' => by rw [ms_row _ _ _ _ _ (by omega), m1]
    rw [xe_234_33]
    simp only [xe_234_34, xe_234_35, xe_234_38, xe_234_39, xe_234_42, xe_234_43, xe_234_44, xe_234_47, xe_234_48, xe_234_49, xe_234_50, xe_234_51, xe_234_54, xe_234_55, xe_234_56, xe_234_59, xe_234_60, xe_234_61, xe_234_62 (some (vI _)) _ _ _ _ rfl, xe_234_62 (some (vR _)) _ _ _ _ rfl, xe_234_62 none _ _ _ _ rfl, xe_234_65, xe_234_68, ite_self, mm_nL_I, mm_nL_R, mm_nL_0, Option.bind_some, Option.bind_none, bnd_ite, Option.toList_some, Option.toList_none, List.cons_append, List.nil_append, mm_cats_nil, mm_cats_I, mm_cats_L, mm_cats_R, if_true, if_false, true_and, and_true, false_and, and_false, not_true_eq_false, not_false_eq_true, Int.reduceLE, Int.reduceLT, Int.reduceEq, Int.reduceNe, Int.reduceNeg, Int.reduceAdd, Int.reduceSub, Int.reduceMul, Nat.reduceAdd, Nat.reduceLeDiff, true_or, or_true, false_or, or_false, reduceIte, k_149, k_167, l_167, k_168, l_168, k_169, l_169, k_170, l_170, h1, h2, h3, h4, m1, m2, g, g', k0, w]
    rw [ih (k + 1) _ (by rw [m3]; exact h1) (by rw [m3]; exact h2) (by rw [m3]; exact h3) (by rw [m3]; exact h4) (by omega) (by omega)]
    congr 3
    funext b j
    rw [ms_row _ _ _ _ 169 (by omega), ms_row _ _ _ _ 169 (by omega), ms_row _ _ _ _ 170 (by omega), ms_row _ _ _ _ 170 (by omega)]
    simp only [mset]
    (repeat' split) <;> first | rfl | (exfalso; omega) | (have e : j = k := (by omega); rw [e])
theorem s_closes (L : Int) (r : MM) (hP : MP r) : ev 234 0 [some (vR 149), none] [] r (g_1 L) = some (none, cls r, g_1 L) := by
  obtain ⟨p1, p2, p3, p4, p5, p6, p7⟩ := hP
  have f1 : (0 : Int) = 0 ∨ (0 : Int) = 1 := Or.inl rfl
  have n : ∀ k, ¬ k = 42 → mset r 149 42 0 149 k = r 149 k := fun k hk => ms_nk _ _ _ _ _ _ hk
  have A := s_cl1 L 88 0 (mset r 149 42 0) (by rw [n _ (by omega)]; exact p1) (by rw [n _ (by omega)]; exact p2) (by omega) (by omega)
  have q : ∀ k, (fun (b j : Int) => if b = 165 ∧ 0 ≤ j ∧ j < 88 then mset r 149 42 0 166 j else mset r 149 42 0 b j) 149 k = mset r 149 42 0 149 k := fun k => by
    show (if (149 : Int) = 165 ∧ _ then _ else _) = _
    rw [if_neg (by omega)]
  have B := s_cl2 L 4 0 (fun (b j : Int) => if b = 165 ∧ 0 ≤ j ∧ j < 88 then mset r 149 42 0 166 j else mset r 149 42 0 b j) ((q _).trans ((n _ (by omega)).trans p3)) ((q _).trans ((n _ (by omega)).trans p4)) ((q _).trans ((n _ (by omega)).trans p5)) ((q _).trans ((n _ (by omega)).trans p6)) (by omega) (by omega)
  have st : ev 234 0 [some (vR 149), none] [] r (g_1 L) = ev 234 7 [some (vR 149), some (vI 0)] [] (mset r 149 42 0) (g_1 L) := by
    simp only [xe_234_0, xe_234_1, xe_234_2, xe_234_5, xe_234_6 (some (vI _)) _ _ _ _ _ rfl, xe_234_6 (some (vR _)) _ _ _ _ _ rfl, xe_234_6 none _ _ _ _ _ rfl, ite_self, mm_nL_I, mm_nL_R, mm_nL_0, Option.bind_some, Option.bind_none, bnd_ite, Option.toList_some, Option.toList_none, List.cons_append, List.nil_append, mm_cats_nil, mm_cats_I, mm_cats_L, mm_cats_R, if_true, if_false, true_and, and_true, false_and, and_false, not_true_eq_false, not_false_eq_true, Int.reduceLE, Int.reduceLT, Int.reduceEq, Int.reduceNe, Int.reduceNeg, Int.reduceAdd, Int.reduceSub, Int.reduceMul, Nat.reduceAdd, Nat.reduceLeDiff, true_or, or_true, false_or, or_false, reduceIte, k_149]
  rw [st, A]
  simp only [xe_234_31, xe_234_32 (some (vI _)) _ _ _ _ _ rfl, xe_234_32 (some (vR _)) _ _ _ _ _ rfl, xe_234_32 none _ _ _ _ _ rfl]
  rw [B]
  congr 3
  funext b j
  simp only [cls, mset]
  (repeat' split) <;> first | rfl | (exfalso; omega)
/-- the paper leaves all as it was -/
theorem keR.pap {r r2 : MM} {t : Int → Int} {fl fw : Int} (p0 : r 149 42 = 0) (h1 : ∀ b, ¬ b = 149 → ¬ b = 167 → ¬ b = 168 → r2 b = ops (mset r 149 0 0) b) (h2 : ∀ j, ¬ (0 ≤ j ∧ j < 4) → r2 167 j = r 167 j ∧ r2 168 j = r 168 j) (h3 : ∀ k, ¬ (k = 0 ∨ k = 42 ∨ 45 ≤ k ∧ k ≤ 46) → r2 149 k = r 149 k) : keR r (cls (rm r2 t fl fw)) ∧ FM r (cls (rm r2 t fl fw)) := by
  have m0 : ∀ b, ¬ b = 149 → mset r 149 0 0 b = r b := fun b hb => ms_row _ _ _ _ _ hb
  have o : ∀ b, ¬ b = 149 → ¬ b = 166 → ¬ b = 169 → ¬ b = 170 → ops (mset r 149 0 0) b = r b := fun b a1 a2 a3 a4 => by
    funext j; unfold ops; rw [if_neg (by omega), if_neg (by omega), if_neg (by omega), if_neg (by omega), m0 b a1]
  have k : ∀ b, ¬ b = 149 → ¬ b = 165 → ¬ b = 167 → ¬ b = 168 → cls (rm r2 t fl fw) b = r2 b := fun b a1 a2 a3 a4 => by
    funext j; unfold cls; rw [if_neg (by omega), if_neg (by omega), if_neg (by omega), if_neg (by omega), rm_b _ _ _ _ _ a2 a1]
  have z5 : cls (rm r2 t fl fw) 165 = r 165 := by
    funext j
    unfold cls
    by_cases e : 0 ≤ j ∧ j < 88
    · rw [if_pos ⟨rfl, e⟩, rm_b _ _ _ _ _ (by omega) (by omega), h1 166 (by omega) (by omega) (by omega)]
      unfold ops
      rw [if_pos ⟨rfl, e⟩, m0 165 (by omega)]
    · rw [if_neg (fun q => e q.2), if_neg (by omega), if_neg (by omega), if_neg (by omega)]
      show (if (165 : Int) = 165 ∧ 0 ≤ j ∧ j < 88 then t j else _) = _
      rw [if_neg (fun q => e q.2), if_neg (by omega), if_neg (by omega), h1 165 (by omega) (by omega) (by omega), o 165 (by omega) (by omega) (by omega) (by omega)]
  have z7 : cls (rm r2 t fl fw) 167 = r 167 := by
    funext j
    unfold cls
    rw [if_neg (by omega)]
    by_cases e : 0 ≤ j ∧ j < 4
    · rw [if_pos ⟨rfl, e⟩, rm_b _ _ _ _ _ (by omega) (by omega), h1 169 (by omega) (by omega) (by omega)]
      unfold ops
      rw [if_neg (by omega), if_pos ⟨rfl, e⟩, m0 167 (by omega)]
    · rw [if_neg (fun q => e q.2), if_neg (by omega), if_neg (by omega), rm_b _ _ _ _ _ (by omega) (by omega), (h2 j e).1]
  have z8 : cls (rm r2 t fl fw) 168 = r 168 := by
    funext j
    unfold cls
    rw [if_neg (by omega), if_neg (by omega)]
    by_cases e : 0 ≤ j ∧ j < 4
    · rw [if_pos ⟨rfl, e⟩, rm_b _ _ _ _ _ (by omega) (by omega), h1 170 (by omega) (by omega) (by omega)]
      unfold ops
      rw [if_neg (by omega), if_neg (by omega), if_pos ⟨rfl, e⟩, m0 168 (by omega)]
    · rw [if_neg (fun q => e q.2), if_neg (by omega), rm_b _ _ _ _ _ (by omega) (by omega), (h2 j e).2]
  refine ⟨⟨fun a ha => ?_, fun q hq => ?_⟩, fun a ha => ?_⟩
  · by_cases a5 : a = 165
    · rw [a5, z5]
    · by_cases a7 : a = 167
      · rw [a7, z7]
      · by_cases a8 : a = 168
        · rw [a8, z8]
        · rw [k a (by omega) a5 a7 a8, h1 a (by omega) a7 a8, o a (by omega) (by omega) (by omega) (by omega)]
  · unfold cls
    rw [if_neg (by omega), if_neg (by omega), if_neg (by omega)]
    by_cases e : q = 42
    · rw [if_pos ⟨rfl, e⟩, e, p0]
    · rw [if_neg (fun z => e z.2), rm_k _ _ _ _ _ (by omega) (by omega), h3 q (by omega)]
  · rw [k a (by omega) (by omega) (by omega) (by omega), h1 a (by omega) (by omega) (by omega), o a (by omega) (by omega) (by omega) (by omega)]
/-- the state that the paper begins with -/
theorem ops_k (r : MM) (k : Int) (h0 : ¬ k = 0) : ops (mset r 149 0 0) 149 k = if k = 42 then 1 else r 149 k := by
  unfold ops
  rw [if_neg (by omega), if_neg (by omega), if_neg (by omega)]
  by_cases e : k = 42
  · rw [if_pos ⟨rfl, e⟩, if_pos e]
  · rw [if_neg (fun q => e q.2), if_neg e, ms_nk _ _ _ _ _ _ h0]
theorem ops_b (r : MM) (b : Int) (a1 : ¬ b = 149) (a2 : ¬ b = 166) (a3 : ¬ b = 169) (a4 : ¬ b = 170) : ops (mset r 149 0 0) b = r b := by
  funext j; unfold ops; rw [if_neg (by omega), if_neg (by omega), if_neg (by omega), if_neg (by omega), ms_row _ _ _ _ _ a1]
theorem MP.op {r : MM} (h : SM r) : MP (ops (mset r 149 0 0)) := by
  have := MP.of h
  unfold MP at *
  rw [ops_k _ _ (by omega), ops_k _ _ (by omega), ops_k _ _ (by omega), ops_k _ _ (by omega), ops_k _ _ (by omega), ops_k _ _ (by omega), ops_k _ _ (by omega)]
  exact this
theorem MP.t {r : MM} (h : SM r) : MP (mset r 149 0 0) := by
  have := MP.of h
  have m0 : ∀ j, ¬ j = 0 → mset r 149 0 0 149 j = r 149 j := fun j hj => ms_nk _ _ _ _ _ _ hj
  unfold MP at *
  rw [m0 _ (by omega), m0 _ (by omega), m0 _ (by omega), m0 _ (by omega), m0 _ (by omega), m0 _ (by omega), m0 _ (by omega)]; exact this
theorem MP.rm {r : MM} (h : MP r) (t : Int → Int) (fl fw : Int) : MP (rm r t fl fw) := by
  unfold MP at *
  rw [rm_k _ _ _ _ _ (by omega) (by omega), rm_k _ _ _ _ _ (by omega) (by omega), rm_k _ _ _ _ _ (by omega) (by omega), rm_k _ _ _ _ _ (by omega) (by omega), rm_k _ _ _ _ _ (by omega) (by omega), rm_k _ _ _ _ _ (by omega) (by omega), rm_k _ _ _ _ _ (by omega) (by omega)]; exact h
theorem keC.pap {c c2 : MM} {S sw em : Int → Int} (h1 : ∀ b, ¬ (143 ≤ b ∧ b ≤ 145) → c2 b = c b) (h2 : c2 143 0 = c 143 0 ∧ c2 143 1 = c 143 1) (h3 : ∀ j, ¬ (0 ≤ j ∧ j < 4) → c2 144 j = c 144 j ∧ c2 145 j = c 145 j) : keC c (tm c2 146 S sw em) ∧ FX c (tm c2 146 S sw em) := by
  have t : ∀ b, ¬ (146 ≤ b ∧ b ≤ 148) → tm c2 146 S sw em b = c2 b := fun b hb => tm_b _ _ _ _ _ _ (by omega) (by omega) (by omega)
  refine ⟨⟨fun a ha => by rw [t a (by omega), h1 a (by omega)], ?_, ⟨?_, ?_, ?_, ?_⟩, fun j hj => ?_⟩, fun a ha => by rw [t a (by omega), h1 a (by omega)]⟩
  · rw [t _ (by omega), h1 _ (by omega)]; exact ⟨rfl, rfl, id⟩
  · rw [t _ (by omega)]; exact h2.1
  · rw [t _ (by omega)]; exact h2.2
  · rw [tm_0, h1 _ (by omega)]
  · rw [tm_1, h1 _ (by omega)]
  · rw [t _ (by omega), t _ (by omega)]; exact h3 j hj
