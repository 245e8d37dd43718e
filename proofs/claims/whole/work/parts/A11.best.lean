/-- the greatest depth from d down by which a clock is carried; 0 none -/
def dwf (k sp d : Int) : Nat → Int
  | 0 => 0
  | n + 1 => if d < 6 then 0 else if k * 3 * d ≤ sp then d else dwf k sp (d - 2) n
theorem dwf_ok (k sp : Int) : ∀ (n : Nat) (d : Int), dwf k sp d n = 0 ∨ (6 ≤ dwf k sp d n ∧ dwf k sp d n ≤ d ∧ k * 3 * dwf k sp d n ≤ sp)
  | 0, d => Or.inl rfl
  | n + 1, d => by
    simp only [dwf]
    split
    · exact Or.inl rfl
    · split
      · right; omega
      · rcases dwf_ok k sp n (d - 2) with h | h
        · exact Or.inl h
        · right; omega
theorem s_depthl (L k sp : Int) (c : MM) (k0 : 0 ≤ k) (k1 : k ≤ 10000000) : ∀ (n : Nat) (d : Int), 4 ≤ d → d ≤ 12 → d ≤ 4 + 2 * (n : Int) → ev 126 5 [some (vR 10), some (vI k), some (vI sp), some (vI d)] [] c (g_1 L) = some (some (vI (dwf k sp d n)), c, g_1 L) := by
  intro n
  induction n with
  | zero =>
    intro d h0 h1 h2
    have q : d < 6 := by omega
    simp only [xe_126_5, xe_126_6, xe_126_8, xe_126_30, xe_126_31, ite_self, mm_nL_I, mm_nL_R, mm_nL_0, Option.bind_some, Option.bind_none, bnd_ite, Option.toList_some, Option.toList_none, List.cons_append, List.nil_append, mm_cats_nil, mm_cats_I, mm_cats_L, mm_cats_R, if_true, if_false, true_and, and_true, false_and, and_false, not_true_eq_false, not_false_eq_true, Int.reduceLE, Int.reduceLT, Int.reduceEq, Int.reduceNe, Int.reduceNeg, Int.reduceAdd, Int.reduceSub, Int.reduceMul, Nat.reduceAdd, Nat.reduceLeDiff, true_or, or_true, false_or, or_false, reduceIte, q, dwf]
  | succ n ih =>
    intro d h0 h1 h2
    rw [xe_126_5]
    simp only [dwf]
    by_cases q : d < 6
    · simp only [xe_126_6, xe_126_8, xe_126_11, xe_126_12, xe_126_13, xe_126_16, xe_126_17, xe_126_18, xe_126_19, xe_126_22, xe_126_23, xe_126_24 _ _ (some (vI _)) _ _ _ _ rfl, xe_126_24 _ _ (some (vR _)) _ _ _ _ rfl, xe_126_24 _ _ none _ _ _ _ rfl, xe_126_27, xe_126_30, xe_126_31, ite_self, mm_nL_I, mm_nL_R, mm_nL_0, Option.bind_some, Option.bind_none, bnd_ite, Option.toList_some, Option.toList_none, List.cons_append, List.nil_append, mm_cats_nil, mm_cats_I, mm_cats_L, mm_cats_R, if_true, if_false, true_and, and_true, false_and, and_false, not_true_eq_false, not_false_eq_true, Int.reduceLE, Int.reduceLT, Int.reduceEq, Int.reduceNe, Int.reduceNeg, Int.reduceAdd, Int.reduceSub, Int.reduceMul, Nat.reduceAdd, Nat.reduceLeDiff, true_or, or_true, false_or, or_false, reduceIte, q]
    · have N := s_needOfX k d c (g_1 L) k0 k1 (by omega) h1
      by_cases g : k * 3 * d ≤ sp
      · have g' : ¬ sp < k * 3 * d := by omega
        simp only [xe_126_6, xe_126_8, xe_126_11, xe_126_12, xe_126_13, xe_126_16, xe_126_17, xe_126_18, xe_126_19, xe_126_22, xe_126_23, xe_126_24 _ _ (some (vI _)) _ _ _ _ rfl, xe_126_24 _ _ (some (vR _)) _ _ _ _ rfl, xe_126_24 _ _ none _ _ _ _ rfl, xe_126_27, xe_126_30, xe_126_31, ite_self, mm_nL_I, mm_nL_R, mm_nL_0, Option.bind_some, Option.bind_none, bnd_ite, Option.toList_some, Option.toList_none, List.cons_append, List.nil_append, mm_cats_nil, mm_cats_I, mm_cats_L, mm_cats_R, if_true, if_false, true_and, and_true, false_and, and_false, not_true_eq_false, not_false_eq_true, Int.reduceLE, Int.reduceLT, Int.reduceEq, Int.reduceNe, Int.reduceNeg, Int.reduceAdd, Int.reduceSub, Int.reduceMul, Nat.reduceAdd, Nat.reduceLeDiff, true_or, or_true, false_or, or_false, reduceIte, q, N, cmp_gt, g, g']
      · have g' : sp < k * 3 * d := by omega
        have w : w32 (d + -2) = d - 2 := by rw [wi32 (by omega) (by omega)]; omega
        simp only [xe_126_6, xe_126_8, xe_126_11, xe_126_12, xe_126_13, xe_126_16, xe_126_17, xe_126_18, xe_126_19, xe_126_22, xe_126_23, xe_126_24 _ _ (some (vI _)) _ _ _ _ rfl, xe_126_24 _ _ (some (vR _)) _ _ _ _ rfl, xe_126_24 _ _ none _ _ _ _ rfl, xe_126_27, xe_126_30, xe_126_31, ite_self, mm_nL_I, mm_nL_R, mm_nL_0, Option.bind_some, Option.bind_none, bnd_ite, Option.toList_some, Option.toList_none, List.cons_append, List.nil_append, mm_cats_nil, mm_cats_I, mm_cats_L, mm_cats_R, if_true, if_false, true_and, and_true, false_and, and_false, not_true_eq_false, not_false_eq_true, Int.reduceLE, Int.reduceLT, Int.reduceEq, Int.reduceNe, Int.reduceNeg, Int.reduceAdd, Int.reduceSub, Int.reduceMul, Nat.reduceAdd, Nat.reduceLeDiff, true_or, or_true, false_or, or_false, reduceIte, q, N, cmp_gt, g, g', w]
        exact ih (d - 2) (by omega) (by omega) (by omega)
theorem s_depth (L k sp d : Int) (c : MM) (k0 : 0 ≤ k) (k1 : k ≤ 10000000) (hd : c 10 13 = d) (hw : d = 6 ∨ d = 8 ∨ d = 10 ∨ d = 12) : ev 126 0 [some (vR 10), some (vI k), some (vI sp), none] [] c (g_1 L) = some (some (vI (dwf k sp d 4)), c, g_1 L) := by
  have l := s_depthl L k sp c k0 k1 4 d (by omega) (by omega) (by omega)
  simp only [xe_126_0, xe_126_1, xe_126_4 _ _ (some (vI _)) _ _ _ _ _ rfl, xe_126_4 _ _ (some (vR _)) _ _ _ _ _ rfl, xe_126_4 _ _ none _ _ _ _ _ rfl, ite_self, mm_nL_I, mm_nL_R, mm_nL_0, Option.bind_some, Option.bind_none, bnd_ite, Option.toList_some, Option.toList_none, List.cons_append, List.nil_append, mm_cats_nil, mm_cats_I, mm_cats_L, mm_cats_R, if_true, if_false, true_and, and_true, false_and, and_false, not_true_eq_false, not_false_eq_true, Int.reduceLE, Int.reduceLT, Int.reduceEq, Int.reduceNe, Int.reduceNeg, Int.reduceAdd, Int.reduceSub, Int.reduceMul, Nat.reduceAdd, Nat.reduceLeDiff, true_or, or_true, false_or, or_false, reduceIte, k_10, hd]
  exact l
/-- the best mode from i on, its depth -/
def bwf (ck : Int → Int) (sp d i : Int) : Nat → Int × Int
  | 0 => (-1, -1)
  | n + 1 => if dwf (ck i) sp d 4 = 0 then bwf ck sp d (i + 1) n else (i, dwf (ck i) sp d 4)
def bwv (ck : Int → Int) (sp w : Int) (p : Int × Int) : Int := if w = 0 then p.1 else if w = 1 then p.2 else if p.1 = -1 then -1 else sp - ck p.1 * 3 * p.2
def ckr (r : MM) (i : Int) : Int := r 157 (12 * r 158 i + 3)
theorem s_bestXl (L sp w d : Int) (c r : MM) (hX : SX c) (hR : Rmod c r) (hd : c 10 13 = d) (hw : d = 6 ∨ d = 8 ∨ d = 10 ∨ d = 12) (s0 : 0 ≤ sp) (s1 : sp < 2147483648) : ∀ (m : Nat) (i : Int) (y z : Option MV), 0 ≤ i → i + m = c 45 4 → (y = none ∨ ∃ a, y = some (vR a)) →
    ev 127 2 [some (vR 10), some (vI sp), some (vI w), some (vI i), y, z] [] c (g_1 L) = some (some (vI (bwv (ckr r) sp w (bwf (ckr r) sp d i m))), c, g_1 L) := by
  have hR' := hR
  obtain ⟨m1, m2, m3, m4, m6⟩ := hR
  intro m
  induction m with
  | zero =>
    intro i y z h0 hi hy
    have q : c 45 4 ≤ i := by omega
    simp only [xe_127_2, xe_127_3, xe_127_4, xe_127_7, xe_127_10, xe_127_108, xe_127_109, ite_self, mm_nL_I, mm_nL_R, mm_nL_0, Option.bind_some, Option.bind_none, bnd_ite, Option.toList_some, Option.toList_none, List.cons_append, List.nil_append, mm_cats_nil, mm_cats_I, mm_cats_L, mm_cats_R, if_true, if_false, true_and, and_true, false_and, and_false, not_true_eq_false, not_false_eq_true, Int.reduceLE, Int.reduceLT, Int.reduceEq, Int.reduceNe, Int.reduceNeg, Int.reduceAdd, Int.reduceSub, Int.reduceMul, Nat.reduceAdd, Nat.reduceLeDiff, true_or, or_true, false_or, or_false, reduceIte, k_10, k_45, sx_10_4 hX, q, bwf, bwv]
  | succ m ih =>
    intro i y z h0 hi hy
    have q : ¬ c 45 4 ≤ i := by omega
    have A := s_modesAt L i c hX m3
    obtain ⟨u, o1, u0, u3, o2, o3, ⟨e1, e2, e3, e4, e5, e6, e7, e8, e9, e10, e11, e12⟩, f⟩ := m6 i h0 (by omega)
    rw [if_pos ⟨h0, by omega⟩, o1] at A
    have hc : ckr r i = r 157 (12 * r 158 i + 3) := rfl
    simp only [bwf]
    rw [hc]
    generalize r 158 i = o at *
    unfold mok at f
    have kt : c (49 + 2 * u) 0 = 50 + 2 * u := hX.2.2 u u0 u3
    have k1 := k_mode L u u0 u3
    have k2 := k_mtim L u u0 u3
    have n7 : ¬ 49 + 2 * u = 7 := by omega
    have n0 : ¬ 49 + 2 * u = 0 := by omega
    have D := s_depth L (c (50 + 2 * u) 0) sp d c (by omega) (by omega) hd hw
    have ok := dwf_ok (c (50 + 2 * u) 0) sp 4 d
    have N := fun e h3 h4 => s_needOfX (c (50 + 2 * u) 0) e c (g_1 L) (by omega) (by omega) h3 h4
    rw [e4] at D ok N
    have f0 : 0 ≤ r 157 (12 * o + 3) := by omega
    have wi : w32 (i + 1) = i + 1 := wi32 (by omega) (by omega)
    rw [xe_127_2]
    by_cases g : dwf (r 157 (12 * o + 3)) sp d 4 = 0
    · rw [if_pos g]
      rcases hy with rfl | ⟨a, rfl⟩
      · simp only [xe_127_3, xe_127_4, xe_127_7, xe_127_10, xe_127_13, xe_127_14, xe_127_17, xe_127_18, xe_127_21 _ _ _ (some (vI _)) _ _ _ _ _ _ rfl, xe_127_21 _ _ _ (some (vR _)) _ _ _ _ _ _ rfl, xe_127_21 _ _ _ none _ _ _ _ _ _ rfl, xe_127_23, xe_127_25, xe_127_28, xe_127_29, xe_127_32, xe_127_33, xe_127_35, xe_127_38, xe_127_41, xe_127_42, xe_127_45 _ _ _ _ (some (vI _)) _ _ _ _ _ rfl, xe_127_45 _ _ _ _ (some (vR _)) _ _ _ _ _ rfl, xe_127_45 _ _ _ _ none _ _ _ _ _ rfl, xe_127_47, xe_127_49, xe_127_52, xe_127_53, xe_127_80, xe_127_81, xe_127_82, xe_127_84, xe_127_85, xe_127_86, xe_127_88, xe_127_91, xe_127_94, xe_127_96, xe_127_99, xe_127_100, xe_127_101, xe_127_102 _ _ (some (vI _)) _ _ _ _ _ _ rfl, xe_127_102 _ _ (some (vR _)) _ _ _ _ _ _ rfl, xe_127_102 _ _ none _ _ _ _ _ _ rfl, xe_127_105, xe_127_108, xe_127_109, ite_self, mm_nL_I, mm_nL_R, mm_nL_0, Option.bind_some, Option.bind_none, bnd_ite, Option.toList_some, Option.toList_none, List.cons_append, List.nil_append, mm_cats_nil, mm_cats_I, mm_cats_L, mm_cats_R, if_true, if_false, true_and, and_true, false_and, and_false, not_true_eq_false, not_false_eq_true, Int.reduceLE, Int.reduceLT, Int.reduceEq, Int.reduceNe, Int.reduceNeg, Int.reduceAdd, Int.reduceSub, Int.reduceMul, Nat.reduceAdd, Nat.reduceLeDiff, true_or, or_true, false_or, or_false, reduceIte, k_10, k_45, sx_10_4 hX, q, A, n7, n0, k1, kt, k2, e4, D, g, wi]
        exact ih (i + 1) _ _ (by omega) (by omega) (Or.inr ⟨_, rfl⟩)
      · simp only [xe_127_3, xe_127_4, xe_127_7, xe_127_10, xe_127_13, xe_127_14, xe_127_17, xe_127_18, xe_127_21 _ _ _ (some (vI _)) _ _ _ _ _ _ rfl, xe_127_21 _ _ _ (some (vR _)) _ _ _ _ _ _ rfl, xe_127_21 _ _ _ none _ _ _ _ _ _ rfl, xe_127_23, xe_127_25, xe_127_28, xe_127_29, xe_127_32, xe_127_33, xe_127_35, xe_127_38, xe_127_41, xe_127_42, xe_127_45 _ _ _ _ (some (vI _)) _ _ _ _ _ rfl, xe_127_45 _ _ _ _ (some (vR _)) _ _ _ _ _ rfl, xe_127_45 _ _ _ _ none _ _ _ _ _ rfl, xe_127_47, xe_127_49, xe_127_52, xe_127_53, xe_127_80, xe_127_81, xe_127_82, xe_127_84, xe_127_85, xe_127_86, xe_127_88, xe_127_91, xe_127_94, xe_127_96, xe_127_99, xe_127_100, xe_127_101, xe_127_102 _ _ (some (vI _)) _ _ _ _ _ _ rfl, xe_127_102 _ _ (some (vR _)) _ _ _ _ _ _ rfl, xe_127_102 _ _ none _ _ _ _ _ _ rfl, xe_127_105, xe_127_108, xe_127_109, ite_self, mm_nL_I, mm_nL_R, mm_nL_0, Option.bind_some, Option.bind_none, bnd_ite, Option.toList_some, Option.toList_none, List.cons_append, List.nil_append, mm_cats_nil, mm_cats_I, mm_cats_L, mm_cats_R, if_true, if_false, true_and, and_true, false_and, and_false, not_true_eq_false, not_false_eq_true, Int.reduceLE, Int.reduceLT, Int.reduceEq, Int.reduceNe, Int.reduceNeg, Int.reduceAdd, Int.reduceSub, Int.reduceMul, Nat.reduceAdd, Nat.reduceLeDiff, true_or, or_true, false_or, or_false, reduceIte, k_10, k_45, sx_10_4 hX, q, A, n7, n0, k1, kt, k2, e4, D, g, wi]
        exact ih (i + 1) _ _ (by omega) (by omega) (Or.inr ⟨_, rfl⟩)
    · rw [if_neg g]
      have ok' := ok.resolve_left g
      have g' : ¬ dwf (r 157 (12 * o + 3)) sp d 4 ≤ 0 := by omega
      have N' := N (dwf (r 157 (12 * o + 3)) sp d 4) (by omega) (by omega)
      have ni : ¬ i = -1 := by omega
      have b := mul_bd (show 0 ≤ r 157 (12 * o + 3) * 3 by omega) (Int.le_refl _) (show 0 ≤ dwf (r 157 (12 * o + 3)) sp d 4 by omega) (Int.le_refl _)
      have w1 : w32 (r 157 (12 * o + 3) * 3 * dwf (r 157 (12 * o + 3)) sp d 4) = r 157 (12 * o + 3) * 3 * dwf (r 157 (12 * o + 3)) sp d 4 := wi32 (by omega) (by omega)
      have w2 : w32 (sp - r 157 (12 * o + 3) * 3 * dwf (r 157 (12 * o + 3)) sp d 4) = sp - r 157 (12 * o + 3) * 3 * dwf (r 157 (12 * o + 3)) sp d 4 := wi32 (by omega) (by omega)
      by_cases c0 : w = 0
      · rcases hy with rfl | ⟨a, rfl⟩ <;>
        simp only [xe_127_3, xe_127_4, xe_127_7, xe_127_10, xe_127_13, xe_127_14, xe_127_17, xe_127_18, xe_127_21 _ _ _ (some (vI _)) _ _ _ _ _ _ rfl, xe_127_21 _ _ _ (some (vR _)) _ _ _ _ _ _ rfl, xe_127_21 _ _ _ none _ _ _ _ _ _ rfl, xe_127_23, xe_127_25, xe_127_28, xe_127_29, xe_127_32, xe_127_33, xe_127_35, xe_127_38, xe_127_41, xe_127_42, xe_127_45 _ _ _ _ (some (vI _)) _ _ _ _ _ rfl, xe_127_45 _ _ _ _ (some (vR _)) _ _ _ _ _ rfl, xe_127_45 _ _ _ _ none _ _ _ _ _ rfl, xe_127_47, xe_127_49, xe_127_52, xe_127_53, xe_127_80, xe_127_81, xe_127_82, xe_127_84, xe_127_85, xe_127_86, xe_127_88, xe_127_91, xe_127_94, xe_127_96, xe_127_99, xe_127_100, xe_127_101, xe_127_102 _ _ (some (vI _)) _ _ _ _ _ _ rfl, xe_127_102 _ _ (some (vR _)) _ _ _ _ _ _ rfl, xe_127_102 _ _ none _ _ _ _ _ _ rfl, xe_127_105, xe_127_108, xe_127_109, ite_self, mm_nL_I, mm_nL_R, mm_nL_0, Option.bind_some, Option.bind_none, bnd_ite, Option.toList_some, Option.toList_none, List.cons_append, List.nil_append, mm_cats_nil, mm_cats_I, mm_cats_L, mm_cats_R, if_true, if_false, true_and, and_true, false_and, and_false, not_true_eq_false, not_false_eq_true, Int.reduceLE, Int.reduceLT, Int.reduceEq, Int.reduceNe, Int.reduceNeg, Int.reduceAdd, Int.reduceSub, Int.reduceMul, Nat.reduceAdd, Nat.reduceLeDiff, true_or, or_true, false_or, or_false, reduceIte, k_10, k_45, sx_10_4 hX, q, A, n7, n0, k1, kt, k2, e4, D, g', bwv, c0]
      · by_cases c1 : w = 1
        · rcases hy with rfl | ⟨a, rfl⟩ <;>
          simp only [xe_127_3, xe_127_4, xe_127_7, xe_127_10, xe_127_13, xe_127_14, xe_127_17, xe_127_18, xe_127_21 _ _ _ (some (vI _)) _ _ _ _ _ _ rfl, xe_127_21 _ _ _ (some (vR _)) _ _ _ _ _ _ rfl, xe_127_21 _ _ _ none _ _ _ _ _ _ rfl, xe_127_23, xe_127_25, xe_127_28, xe_127_29, xe_127_32, xe_127_33, xe_127_35, xe_127_38, xe_127_41, xe_127_42, xe_127_45 _ _ _ _ (some (vI _)) _ _ _ _ _ rfl, xe_127_45 _ _ _ _ (some (vR _)) _ _ _ _ _ rfl, xe_127_45 _ _ _ _ none _ _ _ _ _ rfl, xe_127_47, xe_127_49, xe_127_52, xe_127_53, xe_127_80, xe_127_81, xe_127_82, xe_127_84, xe_127_85, xe_127_86, xe_127_88, xe_127_91, xe_127_94, xe_127_96, xe_127_99, xe_127_100, xe_127_101, xe_127_102 _ _ (some (vI _)) _ _ _ _ _ _ rfl, xe_127_102 _ _ (some (vR _)) _ _ _ _ _ _ rfl, xe_127_102 _ _ none _ _ _ _ _ _ rfl, xe_127_105, xe_127_108, xe_127_109, ite_self, mm_nL_I, mm_nL_R, mm_nL_0, Option.bind_some, Option.bind_none, bnd_ite, Option.toList_some, Option.toList_none, List.cons_append, List.nil_append, mm_cats_nil, mm_cats_I, mm_cats_L, mm_cats_R, if_true, if_false, true_and, and_true, false_and, and_false, not_true_eq_false, not_false_eq_true, Int.reduceLE, Int.reduceLT, Int.reduceEq, Int.reduceNe, Int.reduceNeg, Int.reduceAdd, Int.reduceSub, Int.reduceMul, Nat.reduceAdd, Nat.reduceLeDiff, true_or, or_true, false_or, or_false, reduceIte, k_10, k_45, sx_10_4 hX, q, A, n7, n0, k1, kt, k2, e4, D, g', bwv, c1]
        · rcases hy with rfl | ⟨a, rfl⟩ <;>
          simp only [xe_127_3, xe_127_4, xe_127_7, xe_127_10, xe_127_13, xe_127_14, xe_127_17, xe_127_18, xe_127_21 _ _ _ (some (vI _)) _ _ _ _ _ _ rfl, xe_127_21 _ _ _ (some (vR _)) _ _ _ _ _ _ rfl, xe_127_21 _ _ _ none _ _ _ _ _ _ rfl, xe_127_23, xe_127_25, xe_127_28, xe_127_29, xe_127_32, xe_127_33, xe_127_35, xe_127_38, xe_127_41, xe_127_42, xe_127_45 _ _ _ _ (some (vI _)) _ _ _ _ _ rfl, xe_127_45 _ _ _ _ (some (vR _)) _ _ _ _ _ rfl, xe_127_45 _ _ _ _ none _ _ _ _ _ rfl, xe_127_47, xe_127_49, xe_127_52, xe_127_53, xe_127_80, xe_127_81, xe_127_82, xe_127_84, xe_127_85, xe_127_86, xe_127_88, xe_127_91, xe_127_94, xe_127_96, xe_127_99, xe_127_100, xe_127_101, xe_127_102 _ _ (some (vI _)) _ _ _ _ _ _ rfl, xe_127_102 _ _ (some (vR _)) _ _ _ _ _ _ rfl, xe_127_102 _ _ none _ _ _ _ _ _ rfl, xe_127_105, xe_127_108, xe_127_109, ite_self, mm_nL_I, mm_nL_R, mm_nL_0, Option.bind_some, Option.bind_none, bnd_ite, Option.toList_some, Option.toList_none, List.cons_append, List.nil_append, mm_cats_nil, mm_cats_I, mm_cats_L, mm_cats_R, if_true, if_false, true_and, and_true, false_and, and_false, not_true_eq_false, not_false_eq_true, Int.reduceLE, Int.reduceLT, Int.reduceEq, Int.reduceNe, Int.reduceNeg, Int.reduceAdd, Int.reduceSub, Int.reduceMul, Nat.reduceAdd, Nat.reduceLeDiff, true_or, or_true, false_or, or_false, reduceIte, k_10, k_45, sx_10_4 hX, q, A, n7, n0, k1, kt, k2, e4, D, g', bwv, c0, c1, ni, hc, N', w1, w2]
theorem s_bestWithin (L sp w d : Int) (c r : MM) (hX : SX c) (hR : Rmod c r) (hd : c 10 13 = d) (hw : d = 6 ∨ d = 8 ∨ d = 10 ∨ d = 12) (s0 : 0 ≤ sp) (s1 : sp < 2147483648) : 
    ev 127 0 [some (vR 10), some (vI sp), some (vI w), none, none, none] [] c (g_1 L) = some (some (vI (bwv (ckr r) sp w (bwf (ckr r) sp d 0 (c 45 4).toNat))), c, g_1 L) := by
  have l := s_bestXl L sp w d c r hX hR hd hw s0 s1 (c 45 4).toNat 0 none none (by omega) (by have := hR.2.1; omega) (Or.inl rfl)
  simp only [xe_127_0, xe_127_1 _ _ (some (vI _)) _ _ _ _ _ _ _ rfl, xe_127_1 _ _ (some (vR _)) _ _ _ _ _ _ _ rfl, xe_127_1 _ _ none _ _ _ _ _ _ _ rfl]
  exact l
/-- the reference's -/
def bm (r : MM) (a b : Int) : MM := mset (mset r 149 33 a) 149 34 b
theorem bm_bm (r : MM) (a b x y : Int) : mset (mset (bm r a b) 149 33 x) 149 34 y = bm r x y := by
  funext e k
  simp only [bm, mset]
  split
  · rfl
  · split
    · rfl
    · rfl
theorem bm_33 (r : MM) (a b : Int) : bm r a b 149 33 = a := by simp [bm, mset]
theorem bm_34 (r : MM) (a b : Int) : bm r a b 149 34 = b := by simp [bm, mset]
theorem bm_k (r : MM) (a b k : Int) (h1 : ¬ k = 33) (h2 : ¬ k = 34) : bm r a b 149 k = r 149 k := by simp [bm, mset, h1, h2]
theorem bm_r (r : MM) (a b e : Int) (h : ¬ e = 149) : bm r a b e = r e := by funext k; simp [bm, mset, h]
theorem s_laysIn (L sp i k : Int) (r : MM) (p1 : r 149 20 = 157) (p2 : r 149 21 = 158) (h0 : 0 ≤ i) (h1 : i < 40) (o2 : 0 ≤ r 158 i) (o3 : r 158 i < 40) (hk : r 157 (12 * r 158 i + 3) = k) (k0 : 0 ≤ k) (k1 : k ≤ 655350) :
    ∀ (n : Nat) (d : Int), 4 ≤ d → d ≤ 12 → d ≤ 4 + 2 * (n : Int) → ∃ e, ev 207 33 [some (vR 149), some (vI sp), some (vI i), some (vI d)] [] (bm r (-1) (-1)) (g_1 L) = ev 207 76 [some (vR 149), some (vI sp), some (vI i), some (vI e)] [] (if dwf k sp d n = 0 then bm r (-1) (-1) else bm r i (dwf k sp d n)) (g_1 L) := by
  intro n
  induction n with
  | zero =>
    intro d h0 h1 h2
    have q : d < 6 := by omega
    refine ⟨d, ?_⟩
    simp only [xe_207_33, xe_207_34, xe_207_36, ite_self, mm_nL_I, mm_nL_R, mm_nL_0, Option.bind_some, Option.bind_none, bnd_ite, Option.toList_some, Option.toList_none, List.cons_append, List.nil_append, mm_cats_nil, mm_cats_I, mm_cats_L, mm_cats_R, if_true, if_false, true_and, and_true, false_and, and_false, not_true_eq_false, not_false_eq_true, Int.reduceLE, Int.reduceLT, Int.reduceEq, Int.reduceNe, Int.reduceNeg, Int.reduceAdd, Int.reduceSub, Int.reduceMul, Nat.reduceAdd, Nat.reduceLeDiff, true_or, or_true, false_or, or_false, reduceIte, q, dwf]
  | succ n ih =>
    intro d d0 d1 d2
    simp only [dwf]
    by_cases q : d < 6
    · refine ⟨d, ?_⟩
      simp only [xe_207_33, xe_207_34, xe_207_36, ite_self, mm_nL_I, mm_nL_R, mm_nL_0, Option.bind_some, Option.bind_none, bnd_ite, Option.toList_some, Option.toList_none, List.cons_append, List.nil_append, mm_cats_nil, mm_cats_I, mm_cats_L, mm_cats_R, if_true, if_false, true_and, and_true, false_and, and_false, not_true_eq_false, not_false_eq_true, Int.reduceLE, Int.reduceLT, Int.reduceEq, Int.reduceNe, Int.reduceNeg, Int.reduceAdd, Int.reduceSub, Int.reduceMul, Nat.reduceAdd, Nat.reduceLeDiff, true_or, or_true, false_or, or_false, reduceIte, q]
    · have N := s_needOfM L i d k (bm r (-1) (-1)) (by rw [bm_k _ _ _ _ (by omega) (by omega)]; exact p1) (by rw [bm_k _ _ _ _ (by omega) (by omega)]; exact p2) h0 h1 (by rw [bm_r _ _ _ _ (by omega)]; exact o2) (by rw [bm_r _ _ _ _ (by omega)]; exact o3) (by rw [bm_r _ _ _ _ (by omega), bm_r _ _ _ _ (by omega)]; exact hk) k0 k1 (by omega) d1
      have w : w32 (d + -2) = d - 2 := by rw [wi32 (by omega) (by omega)]; omega
      by_cases g : k * 3 * d ≤ sp
      · have nd : ¬ d = 0 := by omega
        have ni : ¬ i = -1 := by omega
        refine ⟨d - 2, ?_⟩
        rw [xe_207_33]
        simp only [xe_207_34, xe_207_36, xe_207_39, xe_207_40, xe_207_43, xe_207_44, xe_207_47, xe_207_48, xe_207_49, xe_207_50, xe_207_53, xe_207_54, xe_207_57, xe_207_60, xe_207_61, xe_207_62, xe_207_65, xe_207_66, xe_207_67, xe_207_70 _ _ (some (vI _)) _ _ _ _ rfl, xe_207_70 _ _ (some (vR _)) _ _ _ _ rfl, xe_207_70 _ _ none _ _ _ _ rfl, xe_207_73, ite_self, mm_nL_I, mm_nL_R, mm_nL_0, Option.bind_some, Option.bind_none, bnd_ite, Option.toList_some, Option.toList_none, List.cons_append, List.nil_append, mm_cats_nil, mm_cats_I, mm_cats_L, mm_cats_R, if_true, if_false, true_and, and_true, false_and, and_false, not_true_eq_false, not_false_eq_true, Int.reduceLE, Int.reduceLT, Int.reduceEq, Int.reduceNe, Int.reduceNeg, Int.reduceAdd, Int.reduceSub, Int.reduceMul, Nat.reduceAdd, Nat.reduceLeDiff, true_or, or_true, false_or, or_false, reduceIte, k_149, q, N, g, bm_33, w, nd, bm_bm]
        rw [xe_207_33]
        simp only [xe_207_34, xe_207_36, xe_207_39, xe_207_40, xe_207_43, xe_207_44, ite_self, mm_nL_I, mm_nL_R, mm_nL_0, Option.bind_some, Option.bind_none, bnd_ite, Option.toList_some, Option.toList_none, List.cons_append, List.nil_append, mm_cats_nil, mm_cats_I, mm_cats_L, mm_cats_R, if_true, if_false, true_and, and_true, false_and, and_false, not_true_eq_false, not_false_eq_true, Int.reduceLE, Int.reduceLT, Int.reduceEq, Int.reduceNe, Int.reduceNeg, Int.reduceAdd, Int.reduceSub, Int.reduceMul, Nat.reduceAdd, Nat.reduceLeDiff, true_or, or_true, false_or, or_false, reduceIte, k_149, bm_33, ni]
      · obtain ⟨e, he⟩ := ih (d - 2) (by omega) (by omega) (by omega)
        refine ⟨e, ?_⟩
        rw [xe_207_33]
        simp only [xe_207_34, xe_207_36, xe_207_39, xe_207_40, xe_207_43, xe_207_44, xe_207_47, xe_207_48, xe_207_49, xe_207_50, xe_207_53, xe_207_54, xe_207_57, xe_207_60, xe_207_61, xe_207_62, xe_207_65, xe_207_66, xe_207_67, xe_207_70 _ _ (some (vI _)) _ _ _ _ rfl, xe_207_70 _ _ (some (vR _)) _ _ _ _ rfl, xe_207_70 _ _ none _ _ _ _ rfl, xe_207_73, ite_self, mm_nL_I, mm_nL_R, mm_nL_0, Option.bind_some, Option.bind_none, bnd_ite, Option.toList_some, Option.toList_none, List.cons_append, List.nil_append, mm_cats_nil, mm_cats_I, mm_cats_L, mm_cats_R, if_true, if_false, true_and, and_true, false_and, and_false, not_true_eq_false, not_false_eq_true, Int.reduceLE, Int.reduceLT, Int.reduceEq, Int.reduceNe, Int.reduceNeg, Int.reduceAdd, Int.reduceSub, Int.reduceMul, Nat.reduceAdd, Nat.reduceLeDiff, true_or, or_true, false_or, or_false, reduceIte, k_149, q, N, g, bm_33, w]
        exact he
theorem s_laysl (L sp d n : Int) (r : MM) (p1 : r 149 20 = 157) (p2 : r 149 21 = 158) (p3 : r 149 23 = n) (p4 : r 149 30 = d) (hw : d = 6 ∨ d = 8 ∨ d = 10 ∨ d = 12) (hn : n ≤ 40) (ho : ∀ i, 0 ≤ i → i < n → 0 ≤ r 158 i ∧ r 158 i < 40 ∧ 0 ≤ ckr r i ∧ ckr r i ≤ 655350) : ∀ (m : Nat) (i : Int) (y : Option MV), 0 ≤ i → i + m = n →
    ev 207 12 [some (vR 149), some (vI sp), some (vI i), y] [] (bm r (-1) (-1)) (g_1 L) = some (none, bm r (bwf (ckr r) sp d i m).1 (bwf (ckr r) sp d i m).2, g_1 L) := by
  have q23 : ∀ a b, bm r a b 149 23 = n := fun a b => by rw [bm_k _ _ _ _ (by omega) (by omega)]; exact p3
  have q30 : ∀ a b, bm r a b 149 30 = d := fun a b => by rw [bm_k _ _ _ _ (by omega) (by omega)]; exact p4
  intro m
  induction m with
  | zero =>
    intro i y h0 hi
    have q : n ≤ i := by omega
    simp only [xe_207_12, xe_207_13, xe_207_14, xe_207_17, xe_207_82, ite_self, mm_nL_I, mm_nL_R, mm_nL_0, Option.bind_some, Option.bind_none, bnd_ite, Option.toList_some, Option.toList_none, List.cons_append, List.nil_append, mm_cats_nil, mm_cats_I, mm_cats_L, mm_cats_R, if_true, if_false, true_and, and_true, false_and, and_false, not_true_eq_false, not_false_eq_true, Int.reduceLE, Int.reduceLT, Int.reduceEq, Int.reduceNe, Int.reduceNeg, Int.reduceAdd, Int.reduceSub, Int.reduceMul, Nat.reduceAdd, Nat.reduceLeDiff, true_or, or_true, false_or, or_false, reduceIte, k_149, q23, q, bwf]
  | succ m ih =>
    intro i y h0 hi
    have q : ¬ n ≤ i := by omega
    obtain ⟨o1, o2, o3, o4⟩ := ho i h0 (by omega)
    obtain ⟨e, he⟩ := s_laysIn L sp i (ckr r i) r p1 p2 h0 (by omega) o1 o2 rfl o3 o4 4 d (by omega) (by omega) (by omega)
    have wi : w32 (i + 1) = i + 1 := wi32 (by omega) (by omega)
    rw [xe_207_12]
    simp only [xe_207_13, xe_207_14, xe_207_17, xe_207_20, xe_207_21, xe_207_24, xe_207_25, xe_207_28, xe_207_29, xe_207_32 _ _ (some (vI _)) _ _ _ _ _ rfl, xe_207_32 _ _ (some (vR _)) _ _ _ _ _ rfl, xe_207_32 _ _ none _ _ _ _ _ rfl, ite_self, mm_nL_I, mm_nL_R, mm_nL_0, Option.bind_some, Option.bind_none, bnd_ite, Option.toList_some, Option.toList_none, List.cons_append, List.nil_append, mm_cats_nil, mm_cats_I, mm_cats_L, mm_cats_R, if_true, if_false, true_and, and_true, false_and, and_false, not_true_eq_false, not_false_eq_true, Int.reduceLE, Int.reduceLT, Int.reduceEq, Int.reduceNe, Int.reduceNeg, Int.reduceAdd, Int.reduceSub, Int.reduceMul, Nat.reduceAdd, Nat.reduceLeDiff, true_or, or_true, false_or, or_false, reduceIte, k_149, q23, q30, q, bm_33, he]
    simp only [bwf]
    by_cases g : dwf (ckr r i) sp d 4 = 0
    · simp only [g, xe_207_76 _ (some (vI _)) _ _ _ _ _ rfl, xe_207_76 _ (some (vR _)) _ _ _ _ _ rfl, xe_207_76 _ none _ _ _ _ _ rfl, xe_207_79, ite_self, mm_nL_I, mm_nL_R, mm_nL_0, Option.bind_some, Option.bind_none, bnd_ite, Option.toList_some, Option.toList_none, List.cons_append, List.nil_append, mm_cats_nil, mm_cats_I, mm_cats_L, mm_cats_R, if_true, if_false, true_and, and_true, false_and, and_false, not_true_eq_false, not_false_eq_true, Int.reduceLE, Int.reduceLT, Int.reduceEq, Int.reduceNe, Int.reduceNeg, Int.reduceAdd, Int.reduceSub, Int.reduceMul, Nat.reduceAdd, Nat.reduceLeDiff, true_or, or_true, false_or, or_false, reduceIte, wi]
      exact ih (i + 1) _ (by omega) (by omega)
    · have ni : ¬ i = -1 := by omega
      simp only [g, xe_207_76 _ (some (vI _)) _ _ _ _ _ rfl, xe_207_76 _ (some (vR _)) _ _ _ _ _ rfl, xe_207_76 _ none _ _ _ _ _ rfl, xe_207_79, ite_self, mm_nL_I, mm_nL_R, mm_nL_0, Option.bind_some, Option.bind_none, bnd_ite, Option.toList_some, Option.toList_none, List.cons_append, List.nil_append, mm_cats_nil, mm_cats_I, mm_cats_L, mm_cats_R, if_true, if_false, true_and, and_true, false_and, and_false, not_true_eq_false, not_false_eq_true, Int.reduceLE, Int.reduceLT, Int.reduceEq, Int.reduceNe, Int.reduceNeg, Int.reduceAdd, Int.reduceSub, Int.reduceMul, Nat.reduceAdd, Nat.reduceLeDiff, true_or, or_true, false_or, or_false, reduceIte, wi]
      rw [xe_207_12]
      simp only [xe_207_13, xe_207_14, xe_207_17, xe_207_20, xe_207_21, xe_207_24, xe_207_25, xe_207_82, ite_self, mm_nL_I, mm_nL_R, mm_nL_0, Option.bind_some, Option.bind_none, bnd_ite, Option.toList_some, Option.toList_none, List.cons_append, List.nil_append, mm_cats_nil, mm_cats_I, mm_cats_L, mm_cats_R, if_true, if_false, true_and, and_true, false_and, and_false, not_true_eq_false, not_false_eq_true, Int.reduceLE, Int.reduceLT, Int.reduceEq, Int.reduceNe, Int.reduceNeg, Int.reduceAdd, Int.reduceSub, Int.reduceMul, Nat.reduceAdd, Nat.reduceLeDiff, true_or, or_true, false_or, or_false, reduceIte, k_149, q23, bm_33, ni]
theorem s_lays (L sp d n : Int) (r : MM) (p1 : r 149 20 = 157) (p2 : r 149 21 = 158) (p3 : r 149 23 = n) (p4 : r 149 30 = d) (hw : d = 6 ∨ d = 8 ∨ d = 10 ∨ d = 12) (hn0 : 0 ≤ n) (hn : n ≤ 40) (ho : ∀ i, 0 ≤ i → i < n → 0 ≤ r 158 i ∧ r 158 i < 40 ∧ 0 ≤ ckr r i ∧ ckr r i ≤ 655350) : 
    ev 207 0 [some (vR 149), some (vI sp), none, none] [] r (g_1 L) = some (none, bm r (bwf (ckr r) sp d 0 n.toNat).1 (bwf (ckr r) sp d 0 n.toNat).2, g_1 L) := by
  have l := s_laysl L sp d n r p1 p2 p3 p4 hw hn ho n.toNat 0 none (by omega) (by omega)
  simp only [xe_207_0, xe_207_1, xe_207_2, xe_207_5, xe_207_6, xe_207_7, xe_207_10, xe_207_11 _ (some (vI _)) _ _ _ _ _ _ rfl, xe_207_11 _ (some (vR _)) _ _ _ _ _ _ rfl, xe_207_11 _ none _ _ _ _ _ _ rfl, ite_self, mm_nL_I, mm_nL_R, mm_nL_0, Option.bind_some, Option.bind_none, bnd_ite, Option.toList_some, Option.toList_none, List.cons_append, List.nil_append, mm_cats_nil, mm_cats_I, mm_cats_L, mm_cats_R, if_true, if_false, true_and, and_true, false_and, and_false, not_true_eq_false, not_false_eq_true, Int.reduceLE, Int.reduceLT, Int.reduceEq, Int.reduceNe, Int.reduceNeg, Int.reduceAdd, Int.reduceSub, Int.reduceMul, Nat.reduceAdd, Nat.reduceLeDiff, true_or, or_true, false_or, or_false, reduceIte, k_149]
  exact l
