theorem fd4_11 (c : MM) (n x k : Int) : fd4 c n x 11 k = if k = 1 then n + 4 else c 11 k := by
  simp [fd4]
theorem fd4_12 (c : MM) (n x k : Int) : fd4 c n x 12 k = if n ≤ k ∧ k < n + 4 then by4 x (k - n) else c 12 k := by
  simp [fd4]
theorem fd4_a (c : MM) (n x a k : Int) (h1 : ¬ a = 11) (h2 : ¬ a = 12) : fd4 c n x a k = c a k := by
  simp [fd4, h1, h2]
/-- pointers' cells -/
def isP (a k : Int) : Prop := (∃ q ∈ SXl, q.1 = a ∧ q.2.1 = k) ∨ a = 19 ∨ (k = 0 ∧ 49 ≤ a ∧ a < 129)
theorem SX.cg {c c' : MM} (hX : SX c) (h : ∀ a k, isP a k → c' a k = c a k) : SX c' := by
  obtain ⟨h1, h2, h3⟩ := hX
  refine ⟨fun q hq => ?_, fun k h0 hk => ?_, fun j h0 hj => ?_⟩
  · rw [h _ _ (Or.inl ⟨q, hq, rfl, rfl⟩)]; exact h1 q hq
  · rw [h _ _ (Or.inr (Or.inl rfl))]; exact h2 k h0 hk
  · rw [h _ _ (Or.inr (Or.inr ⟨rfl, by omega, by omega⟩))]; exact h3 j h0 hj
/-- rows of pointers -/
theorem isP_row {a k : Int} (h : isP a k) : a ∈ ([10, 11, 13, 16, 17, 19, 45, 129, 132, 134, 137, 140, 143, 146] : List Int) ∨ (k = 0 ∧ 49 ≤ a ∧ a < 129) := by
  rcases h with ⟨q, hq, rfl, rfl⟩ | rfl | h
  · left; revert q; decide
  · left; decide
  · exact Or.inr h
/-- a pointer's place is no number's -/
theorem isP_k {a k : Int} (h : isP a k) : (a = 11 → k = 0) ∧ (a = 13 → k = 0) ∧ (a = 10 → k ≤ 12) ∧ (a = 16 → k ≤ 4) ∧ (a = 17 → k = 0) ∧ (a = 45 → k ≤ 2) ∧ (a = 129 → k = 0) ∧ (a = 132 → k = 0) ∧ (a = 134 → k ≤ 1) ∧ (a = 137 → k ≤ 1) ∧ (a = 140 → k ≤ 1) ∧ (a = 143 → k ≤ 1) ∧ (a = 146 → k ≤ 1) := by
  rcases h with ⟨q, hq, rfl, rfl⟩ | rfl | h
  · revert q; decide
  · omega
  · omega
theorem SX.fd4 {c : MM} (hX : SX c) (n x : Int) : SX (fd4 c n x) := hX.cg fun a k h => by
  have h1 := isP_row h
  have h2 := (isP_k h).1
  by_cases ha : a = 11
  · subst ha; rw [fd4_11, h2 rfl]; rfl
  · by_cases hb : a = 12
    · subst hb; exfalso
      rcases h1 with h1 | h1
      · revert h1; decide
      · omega
    · exact fd4_a _ _ _ _ _ ha hb
def fd20 (c : MM) (n x0 x1 x2 x3 x4 : Int) : MM := fd4 (fd4 (fd4 (fd4 (fd4 c n x0) (n + 4) x1) (n + 4 + 4) x2) (n + 4 + 4 + 4) x3) (n + 4 + 4 + 4 + 4) x4
theorem s_feedX (L x0 x1 x2 x3 x4 n : Int) (c : MM) (hX : SX c) (b0 : -2147483648 ≤ x0 ∧ x0 < 2147483648) (b1 : -2147483648 ≤ x1 ∧ x1 < 2147483648) (b2 : -2147483648 ≤ x2 ∧ x2 < 2147483648) (b3 : -2147483648 ≤ x3 ∧ x3 < 2147483648) (b4 : -2147483648 ≤ x4 ∧ x4 < 2147483648) (hn : c 11 1 = n) (h0 : 0 ≤ n) (h5 : n ≤ 520) :
    ev 99 0 [some (vR 10), some (vI x0), some (vI x1), some (vI x2), some (vI x3), some (vI x4)] [] c (g_1 L) = some (some (vI (if n + 20 ≤ 520 then n + 20 else -4)), (if n + 20 ≤ 520 then fd20 c n x0 x1 x2 x3 x4 else c), g_1 L) := by
  have w1 : w32 (n + 20) = n + 20 := wi32 (by omega) (by omega)
  by_cases h : n + 20 ≤ 520
  · have e0 := s_addInt L x0 c hX b0.1 b0.2 (by omega) (by omega)
    rw [hn] at e0
    have l1 : fd4 c n x0 11 1 = n + 4 := by rw [fd4_11]; rfl
    have e1 := s_addInt L x1 _ (hX.fd4 n x0) b1.1 b1.2 (by omega) (by omega)
    rw [l1] at e1
    have l2 : fd4 (fd4 c n x0) (n + 4) x1 11 1 = n + 4 + 4 := by rw [fd4_11]; rfl
    have e2 := s_addInt L x2 _ ((hX.fd4 n x0).fd4 (n + 4) x1) b2.1 b2.2 (by omega) (by omega)
    rw [l2] at e2
    have l3 : fd4 (fd4 (fd4 c n x0) (n + 4) x1) (n + 4 + 4) x2 11 1 = n + 4 + 4 + 4 := by rw [fd4_11]; rfl
    have e3 := s_addInt L x3 _ (((hX.fd4 n x0).fd4 (n + 4) x1).fd4 (n + 4 + 4) x2) b3.1 b3.2 (by omega) (by omega)
    rw [l3] at e3
    have l4 : fd4 (fd4 (fd4 (fd4 c n x0) (n + 4) x1) (n + 4 + 4) x2) (n + 4 + 4 + 4) x3 11 1 = n + 4 + 4 + 4 + 4 := by rw [fd4_11]; rfl
    have e4 := s_addInt L x4 _ ((((hX.fd4 n x0).fd4 (n + 4) x1).fd4 (n + 4 + 4) x2).fd4 (n + 4 + 4 + 4) x3) b4.1 b4.2 (by omega) (by omega)
    rw [l4] at e4
    have l5 : fd4 (fd4 (fd4 (fd4 (fd4 c n x0) (n + 4) x1) (n + 4 + 4) x2) (n + 4 + 4 + 4) x3) (n + 4 + 4 + 4 + 4) x4 11 1 = n + 20 := by rw [fd4_11, if_pos rfl]; omega
    have p : ∀ (c' : MM) (m x : Int), c' 10 0 = 11 → fd4 c' m x 10 0 = 11 := fun c' m x h => by rw [fd4_a _ _ _ _ _ (by omega) (by omega)]; exact h
    have p0 : c 10 0 = 11 := sx_10_0 hX
    have p1 := p _ n x0 p0
    have p2 := p _ (n + 4) x1 p1
    have p3 := p _ (n + 4 + 4) x2 p2
    have p4 := p _ (n + 4 + 4 + 4) x3 p3
    have p5 := p _ (n + 4 + 4 + 4 + 4) x4 p4
    simp only [xe_99_0, xe_99_1, xe_99_4, xe_99_7, xe_99_9, xe_99_10, xe_99_13, xe_99_16, xe_99_18, xe_99_19, xe_99_20, xe_99_23, xe_99_24, xe_99_27, xe_99_28, xe_99_31, xe_99_32, xe_99_35, xe_99_36, xe_99_39, xe_99_40, xe_99_43, xe_99_44, xe_99_47, xe_99_49, xe_99_52, xe_99_53, xe_99_56, xe_99_58, xe_99_61, xe_99_62, xe_99_65, xe_99_68, ite_self, mm_nL_I, mm_nL_R, mm_nL_0, Option.bind_some, Option.bind_none, bnd_ite, Option.toList_some, Option.toList_none, List.cons_append, List.nil_append, mm_cats_nil, mm_cats_I, mm_cats_L, mm_cats_R, if_true, if_false, true_and, and_true, false_and, and_false, not_true_eq_false, not_false_eq_true, Int.reduceLE, Int.reduceLT, Int.reduceEq, Int.reduceNe, Int.reduceNeg, Int.reduceAdd, Int.reduceSub, Int.reduceMul, Nat.reduceAdd, Nat.reduceLeDiff, true_or, or_true, false_or, or_false, reduceIte, k_10, k_11, p0, p1, p2, p3, p4, p5, hn, w1, h, e0, e1, e2, e3, e4, l5, fd20]
  · have p0 : c 10 0 = 11 := sx_10_0 hX
    simp only [xe_99_0, xe_99_1, xe_99_4, xe_99_7, xe_99_9, xe_99_10, xe_99_13, xe_99_16, xe_99_18, xe_99_19, xe_99_20, xe_99_23, xe_99_24, xe_99_27, xe_99_28, xe_99_31, xe_99_32, xe_99_35, xe_99_36, xe_99_39, xe_99_40, xe_99_43, xe_99_44, xe_99_47, xe_99_49, xe_99_52, xe_99_53, xe_99_56, xe_99_58, xe_99_61, xe_99_62, xe_99_65, xe_99_68, ite_self, mm_nL_I, mm_nL_R, mm_nL_0, Option.bind_some, Option.bind_none, bnd_ite, Option.toList_some, Option.toList_none, List.cons_append, List.nil_append, mm_cats_nil, mm_cats_I, mm_cats_L, mm_cats_R, if_true, if_false, true_and, and_true, false_and, and_false, not_true_eq_false, not_false_eq_true, Int.reduceLE, Int.reduceLT, Int.reduceEq, Int.reduceNe, Int.reduceNeg, Int.reduceAdd, Int.reduceSub, Int.reduceMul, Nat.reduceAdd, Nat.reduceLeDiff, true_or, or_true, false_or, or_false, reduceIte, k_10, k_11, p0, hn, w1, h]
/-- the reference's -/
def byt (x0 x1 x2 x3 x4 i : Int) : Int := by4 (if i < 4 then x0 else if i < 8 then x1 else if i < 12 then x2 else if i < 16 then x3 else x4) (i % 4)
def fm (r : MM) (n j x0 x1 x2 x3 x4 : Int) : MM := fun a k => if a = 150 ∧ n ≤ k ∧ k < n + j then byt x0 x1 x2 x3 x4 (k - n) else if a = 149 ∧ k = 4 then n + j else r a k
theorem fm_s (r : MM) (n j x0 x1 x2 x3 x4 : Int) (h : 0 ≤ j) : mset (mset (fm r n j x0 x1 x2 x3 x4) 150 (n + j) (byt x0 x1 x2 x3 x4 j)) 149 4 (n + (j + 1)) = fm r n (j + 1) x0 x1 x2 x3 x4 := by
  funext a k
  simp only [mset, fm]
  by_cases h1 : a = 149 ∧ k = 4
  · obtain ⟨rfl, rfl⟩ := h1
    simp
  · rw [if_neg h1, if_neg h1]
    by_cases h2 : a = 150 ∧ k = n + j
    · obtain ⟨rfl, rfl⟩ := h2
      rw [if_pos ⟨rfl, rfl⟩, if_pos ⟨rfl, by omega, by omega⟩]
      congr 1; omega
    · rw [if_neg h2, if_neg h1]
      by_cases h3 : a = 150 ∧ n ≤ k ∧ k < n + j
      · rw [if_pos h3, if_pos ⟨h3.1, h3.2.1, by omega⟩]
      · rw [if_neg h3, if_neg (fun h => h2 ⟨h.1, by omega⟩)]
theorem by4_s {x : Int} (h1 : -2147483648 ≤ x) (h2 : x < 2147483648) (j : Int) (h0 : 0 ≤ j) (h3 : j < 4) : mm_and (mm_shr x (w32 (24 - w32 (8 * j)))) 255 = by4 x j := by
  obtain ⟨e0, e1, e2, e3⟩ := by4_0 h1 h2
  have hj : j = 0 ∨ j = 1 ∨ j = 2 ∨ j = 3 := by omega
  rcases hj with rfl | rfl | rfl | rfl
  · exact e0
  · exact e1
  · exact e2
  · exact e3
theorem s_feedM1 (L x0 x1 x2 x3 x4 n k : Int) (r : MM) (y : Option MV) (hy : y = none ∨ ∃ z, y = some (vI z)) (hM : r 149 1 = 150) (b0 : -2147483648 ≤ x0 ∧ x0 < 2147483648) (b1 : -2147483648 ≤ x1 ∧ x1 < 2147483648) (b2 : -2147483648 ≤ x2 ∧ x2 < 2147483648) (b3 : -2147483648 ≤ x3 ∧ x3 < 2147483648) (b4 : -2147483648 ≤ x4 ∧ x4 < 2147483648) (hn : r 149 4 = n) (h0 : 0 ≤ n) (h5 : n < 520) (hk : 0 ≤ k) (hk2 : k < 20) :
    ∃ z, ev 152 24 [some (vR 149), some (vI x0), some (vI x1), some (vI x2), some (vI x3), some (vI x4), some (vI k), y] [] r (g_1 L) = ev 152 24 [some (vR 149), some (vI x0), some (vI x1), some (vI x2), some (vI x3), some (vI x4), some (vI (k + 1)), some (vI z)] [] (mset (mset r 150 n (byt x0 x1 x2 x3 x4 k)) 149 4 (n + 1)) (g_1 L) := by
  have w1 : w32 (n + 1) = n + 1 := wi32 (by omega) (by omega)
  have w2 : w32 (k + 1) = k + 1 := wi32 (by omega) (by omega)
  have m1 : mm_rem k 4 = k % 4 := nu_rem hk (by omega) (by omega) (by omega)
  have k0 : ¬ 20 ≤ k := by omega
  refine ⟨if k < 4 then x0 else if k < 8 then x1 else if k < 12 then x2 else if k < 16 then x3 else x4, ?_⟩
  rw [xe_152_24]
  have s := fun (x : Int) (h : -2147483648 ≤ x ∧ x < 2147483648) => by4_s h.1 h.2 (k % 4) (by omega) (by omega)
  unfold byt
  by_cases c1 : k < 4
  · have d1 : ¬ 4 ≤ k := by omega
    simp only [xe_152_26, xe_152_28, xe_152_31, xe_152_33, xe_152_34, xe_152_37, xe_152_38, xe_152_41, xe_152_43, xe_152_45, xe_152_48, xe_152_49, xe_152_52, xe_152_54, xe_152_56, xe_152_59, xe_152_60, xe_152_63, xe_152_65, xe_152_67, xe_152_70, xe_152_72, xe_152_75, xe_152_77 _ _ _ _ _ _ (some (vI _)) _ _ _ _ _ rfl, xe_152_77 _ _ _ _ _ _ (some (vR _)) _ _ _ _ _ rfl, xe_152_77 _ _ _ _ _ _ none _ _ _ _ _ rfl, xe_152_79, xe_152_80, xe_152_83, xe_152_84, xe_152_87, xe_152_89, xe_152_91, xe_152_93, xe_152_95, xe_152_96, xe_152_97, xe_152_98, xe_152_99, xe_152_100, xe_152_103, xe_152_104, xe_152_105, xe_152_106, xe_152_107, xe_152_110, xe_152_111, xe_152_112, xe_152_115 _ _ _ _ _ (some (vI _)) _ _ _ _ _ rfl, xe_152_115 _ _ _ _ _ (some (vR _)) _ _ _ _ _ rfl, xe_152_115 _ _ _ _ _ none _ _ _ _ _ rfl, xe_152_118, xe_152_121, xe_152_122, xe_152_125, ite_self, mm_nL_I, mm_nL_R, mm_nL_0, Option.bind_some, Option.bind_none, bnd_ite, Option.toList_some, Option.toList_none, List.cons_append, List.nil_append, mm_cats_nil, mm_cats_I, mm_cats_L, mm_cats_R, if_true, if_false, true_and, and_true, false_and, and_false, not_true_eq_false, not_false_eq_true, Int.reduceLE, Int.reduceLT, Int.reduceEq, Int.reduceNe, Int.reduceNeg, Int.reduceAdd, Int.reduceSub, Int.reduceMul, Nat.reduceAdd, Nat.reduceLeDiff, true_or, or_true, false_or, or_false, reduceIte, k_149, k_150, l_150, hM, hn, ms_na _ _ _ _ _ _ (show ¬ (149 : Int) = 150 by omega), w1, w2, m1, k0, c1, d1, s x0 b0, h0, h5]
  · have d1 : 4 ≤ k := by omega
    by_cases c2 : k < 8
    · have d2 : ¬ 8 ≤ k := by omega
      simp only [xe_152_26, xe_152_28, xe_152_31, xe_152_33, xe_152_34, xe_152_37, xe_152_38, xe_152_41, xe_152_43, xe_152_45, xe_152_48, xe_152_49, xe_152_52, xe_152_54, xe_152_56, xe_152_59, xe_152_60, xe_152_63, xe_152_65, xe_152_67, xe_152_70, xe_152_72, xe_152_75, xe_152_77 _ _ _ _ _ _ (some (vI _)) _ _ _ _ _ rfl, xe_152_77 _ _ _ _ _ _ (some (vR _)) _ _ _ _ _ rfl, xe_152_77 _ _ _ _ _ _ none _ _ _ _ _ rfl, xe_152_79, xe_152_80, xe_152_83, xe_152_84, xe_152_87, xe_152_89, xe_152_91, xe_152_93, xe_152_95, xe_152_96, xe_152_97, xe_152_98, xe_152_99, xe_152_100, xe_152_103, xe_152_104, xe_152_105, xe_152_106, xe_152_107, xe_152_110, xe_152_111, xe_152_112, xe_152_115 _ _ _ _ _ (some (vI _)) _ _ _ _ _ rfl, xe_152_115 _ _ _ _ _ (some (vR _)) _ _ _ _ _ rfl, xe_152_115 _ _ _ _ _ none _ _ _ _ _ rfl, xe_152_118, xe_152_121, xe_152_122, xe_152_125, ite_self, mm_nL_I, mm_nL_R, mm_nL_0, Option.bind_some, Option.bind_none, bnd_ite, Option.toList_some, Option.toList_none, List.cons_append, List.nil_append, mm_cats_nil, mm_cats_I, mm_cats_L, mm_cats_R, if_true, if_false, true_and, and_true, false_and, and_false, not_true_eq_false, not_false_eq_true, Int.reduceLE, Int.reduceLT, Int.reduceEq, Int.reduceNe, Int.reduceNeg, Int.reduceAdd, Int.reduceSub, Int.reduceMul, Nat.reduceAdd, Nat.reduceLeDiff, true_or, or_true, false_or, or_false, reduceIte, k_149, k_150, l_150, hM, hn, ms_na _ _ _ _ _ _ (show ¬ (149 : Int) = 150 by omega), w1, w2, m1, k0, c1, d1, c2, d2, s x1 b1, h0, h5]
    · have d2 : 8 ≤ k := by omega
      by_cases c3 : k < 12
      · have d3 : ¬ 12 ≤ k := by omega
        simp only [xe_152_26, xe_152_28, xe_152_31, xe_152_33, xe_152_34, xe_152_37, xe_152_38, xe_152_41, xe_152_43, xe_152_45, xe_152_48, xe_152_49, xe_152_52, xe_152_54, xe_152_56, xe_152_59, xe_152_60, xe_152_63, xe_152_65, xe_152_67, xe_152_70, xe_152_72, xe_152_75, xe_152_77 _ _ _ _ _ _ (some (vI _)) _ _ _ _ _ rfl, xe_152_77 _ _ _ _ _ _ (some (vR _)) _ _ _ _ _ rfl, xe_152_77 _ _ _ _ _ _ none _ _ _ _ _ rfl, xe_152_79, xe_152_80, xe_152_83, xe_152_84, xe_152_87, xe_152_89, xe_152_91, xe_152_93, xe_152_95, xe_152_96, xe_152_97, xe_152_98, xe_152_99, xe_152_100, xe_152_103, xe_152_104, xe_152_105, xe_152_106, xe_152_107, xe_152_110, xe_152_111, xe_152_112, xe_152_115 _ _ _ _ _ (some (vI _)) _ _ _ _ _ rfl, xe_152_115 _ _ _ _ _ (some (vR _)) _ _ _ _ _ rfl, xe_152_115 _ _ _ _ _ none _ _ _ _ _ rfl, xe_152_118, xe_152_121, xe_152_122, xe_152_125, ite_self, mm_nL_I, mm_nL_R, mm_nL_0, Option.bind_some, Option.bind_none, bnd_ite, Option.toList_some, Option.toList_none, List.cons_append, List.nil_append, mm_cats_nil, mm_cats_I, mm_cats_L, mm_cats_R, if_true, if_false, true_and, and_true, false_and, and_false, not_true_eq_false, not_false_eq_true, Int.reduceLE, Int.reduceLT, Int.reduceEq, Int.reduceNe, Int.reduceNeg, Int.reduceAdd, Int.reduceSub, Int.reduceMul, Nat.reduceAdd, Nat.reduceLeDiff, true_or, or_true, false_or, or_false, reduceIte, k_149, k_150, l_150, hM, hn, ms_na _ _ _ _ _ _ (show ¬ (149 : Int) = 150 by omega), w1, w2, m1, k0, c1, d1, c2, d2, c3, d3, s x2 b2, h0, h5]
      · have d3 : 12 ≤ k := by omega
        by_cases c4 : k < 16
        · have d4 : ¬ 16 ≤ k := by omega
          simp only [xe_152_26, xe_152_28, xe_152_31, xe_152_33, xe_152_34, xe_152_37, xe_152_38, xe_152_41, xe_152_43, xe_152_45, xe_152_48, xe_152_49, xe_152_52, xe_152_54, xe_152_56, xe_152_59, xe_152_60, xe_152_63, xe_152_65, xe_152_67, xe_152_70, xe_152_72, xe_152_75, xe_152_77 _ _ _ _ _ _ (some (vI _)) _ _ _ _ _ rfl, xe_152_77 _ _ _ _ _ _ (some (vR _)) _ _ _ _ _ rfl, xe_152_77 _ _ _ _ _ _ none _ _ _ _ _ rfl, xe_152_79, xe_152_80, xe_152_83, xe_152_84, xe_152_87, xe_152_89, xe_152_91, xe_152_93, xe_152_95, xe_152_96, xe_152_97, xe_152_98, xe_152_99, xe_152_100, xe_152_103, xe_152_104, xe_152_105, xe_152_106, xe_152_107, xe_152_110, xe_152_111, xe_152_112, xe_152_115 _ _ _ _ _ (some (vI _)) _ _ _ _ _ rfl, xe_152_115 _ _ _ _ _ (some (vR _)) _ _ _ _ _ rfl, xe_152_115 _ _ _ _ _ none _ _ _ _ _ rfl, xe_152_118, xe_152_121, xe_152_122, xe_152_125, ite_self, mm_nL_I, mm_nL_R, mm_nL_0, Option.bind_some, Option.bind_none, bnd_ite, Option.toList_some, Option.toList_none, List.cons_append, List.nil_append, mm_cats_nil, mm_cats_I, mm_cats_L, mm_cats_R, if_true, if_false, true_and, and_true, false_and, and_false, not_true_eq_false, not_false_eq_true, Int.reduceLE, Int.reduceLT, Int.reduceEq, Int.reduceNe, Int.reduceNeg, Int.reduceAdd, Int.reduceSub, Int.reduceMul, Nat.reduceAdd, Nat.reduceLeDiff, true_or, or_true, false_or, or_false, reduceIte, k_149, k_150, l_150, hM, hn, ms_na _ _ _ _ _ _ (show ¬ (149 : Int) = 150 by omega), w1, w2, m1, k0, c1, d1, c2, d2, c3, d3, c4, d4, s x3 b3, h0, h5]
        · have d4 : 16 ≤ k := by omega
          simp only [xe_152_26, xe_152_28, xe_152_31, xe_152_33, xe_152_34, xe_152_37, xe_152_38, xe_152_41, xe_152_43, xe_152_45, xe_152_48, xe_152_49, xe_152_52, xe_152_54, xe_152_56, xe_152_59, xe_152_60, xe_152_63, xe_152_65, xe_152_67, xe_152_70, xe_152_72, xe_152_75, xe_152_77 _ _ _ _ _ _ (some (vI _)) _ _ _ _ _ rfl, xe_152_77 _ _ _ _ _ _ (some (vR _)) _ _ _ _ _ rfl, xe_152_77 _ _ _ _ _ _ none _ _ _ _ _ rfl, xe_152_79, xe_152_80, xe_152_83, xe_152_84, xe_152_87, xe_152_89, xe_152_91, xe_152_93, xe_152_95, xe_152_96, xe_152_97, xe_152_98, xe_152_99, xe_152_100, xe_152_103, xe_152_104, xe_152_105, xe_152_106, xe_152_107, xe_152_110, xe_152_111, xe_152_112, xe_152_115 _ _ _ _ _ (some (vI _)) _ _ _ _ _ rfl, xe_152_115 _ _ _ _ _ (some (vR _)) _ _ _ _ _ rfl, xe_152_115 _ _ _ _ _ none _ _ _ _ _ rfl, xe_152_118, xe_152_121, xe_152_122, xe_152_125, ite_self, mm_nL_I, mm_nL_R, mm_nL_0, Option.bind_some, Option.bind_none, bnd_ite, Option.toList_some, Option.toList_none, List.cons_append, List.nil_append, mm_cats_nil, mm_cats_I, mm_cats_L, mm_cats_R, if_true, if_false, true_and, and_true, false_and, and_false, not_true_eq_false, not_false_eq_true, Int.reduceLE, Int.reduceLT, Int.reduceEq, Int.reduceNe, Int.reduceNeg, Int.reduceAdd, Int.reduceSub, Int.reduceMul, Nat.reduceAdd, Nat.reduceLeDiff, true_or, or_true, false_or, or_false, reduceIte, k_149, k_150, l_150, hM, hn, ms_na _ _ _ _ _ _ (show ¬ (149 : Int) = 150 by omega), w1, w2, m1, k0, c1, d1, c2, d2, c3, d3, c4, d4, s x4 b4, h0, h5]
theorem fm_0 (r : MM) (n x0 x1 x2 x3 x4 : Int) (h : r 149 4 = n) : fm r n 0 x0 x1 x2 x3 x4 = r := by
  funext a k
  simp only [fm]
  rw [if_neg (by omega)]
  split
  · rename_i q; obtain ⟨rfl, rfl⟩ := q; omega
  · rfl
theorem s_feedMl (L x0 x1 x2 x3 x4 n : Int) (r : MM) (hM : r 149 1 = 150) (b0 : -2147483648 ≤ x0 ∧ x0 < 2147483648) (b1 : -2147483648 ≤ x1 ∧ x1 < 2147483648) (b2 : -2147483648 ≤ x2 ∧ x2 < 2147483648) (b3 : -2147483648 ≤ x3 ∧ x3 < 2147483648) (b4 : -2147483648 ≤ x4 ∧ x4 < 2147483648) (h0 : 0 ≤ n) (h5 : n + 20 ≤ 520) :
    ∀ (m : Nat) (k : Int) (y : Option MV), (y = none ∨ ∃ z, y = some (vI z)) → k + m = 20 → 0 ≤ k → ev 152 24 [some (vR 149), some (vI x0), some (vI x1), some (vI x2), some (vI x3), some (vI x4), some (vI k), y] [] (fm r n k x0 x1 x2 x3 x4) (g_1 L) = some (some (vI (n + 20)), fm r n 20 x0 x1 x2 x3 x4, g_1 L) := by
  have q : ∀ k, fm r n k x0 x1 x2 x3 x4 149 1 = 150 := fun k => by simp [fm, hM]
  have q4 : ∀ k, fm r n k x0 x1 x2 x3 x4 149 4 = n + k := fun k => by simp [fm]
  intro m
  induction m with
  | zero =>
    intro k y hy hk _
    have hk' : k = 20 := by omega
    subst hk'
    simp only [xe_152_24, xe_152_26, xe_152_28, xe_152_121, xe_152_122, xe_152_125, ite_self, mm_nL_I, mm_nL_R, mm_nL_0, Option.bind_some, Option.bind_none, bnd_ite, Option.toList_some, Option.toList_none, List.cons_append, List.nil_append, mm_cats_nil, mm_cats_I, mm_cats_L, mm_cats_R, if_true, if_false, true_and, and_true, false_and, and_false, not_true_eq_false, not_false_eq_true, Int.reduceLE, Int.reduceLT, Int.reduceEq, Int.reduceNe, Int.reduceNeg, Int.reduceAdd, Int.reduceSub, Int.reduceMul, Nat.reduceAdd, Nat.reduceLeDiff, true_or, or_true, false_or, or_false, reduceIte, k_149, q4]
  | succ m ih =>
    intro k y hy hk hk0
    obtain ⟨z, hz⟩ := s_feedM1 L x0 x1 x2 x3 x4 (n + k) k (fm r n k x0 x1 x2 x3 x4) y hy (q k) b0 b1 b2 b3 b4 (q4 k) (by omega) (by omega) hk0 (by omega)
    rw [hz, show n + k + 1 = n + (k + 1) by omega, fm_s _ _ _ _ _ _ _ _ hk0]
    exact ih (k + 1) _ (Or.inr ⟨z, rfl⟩) (by omega) (by omega)
theorem s_feedM (L x0 x1 x2 x3 x4 n : Int) (r : MM) (hM : SM r) (b0 : -2147483648 ≤ x0 ∧ x0 < 2147483648) (b1 : -2147483648 ≤ x1 ∧ x1 < 2147483648) (b2 : -2147483648 ≤ x2 ∧ x2 < 2147483648) (b3 : -2147483648 ≤ x3 ∧ x3 < 2147483648) (b4 : -2147483648 ≤ x4 ∧ x4 < 2147483648) (hn : r 149 4 = n) (h0 : 0 ≤ n) (h5 : n ≤ 520) :
    ev 152 0 [some (vR 149), some (vI x0), some (vI x1), some (vI x2), some (vI x3), some (vI x4), none, none] [] r (g_1 L) = some (some (vI (if n + 20 ≤ 520 then n + 20 else -4)), (if n + 20 ≤ 520 then fm (mset r 149 0 0) n 20 x0 x1 x2 x3 x4 else mset r 149 0 0), g_1 L) := by
  have w1 : w32 (n + 20) = n + 20 := wi32 (by omega) (by omega)
  have e1 : mset r 149 0 0 149 4 = n := by rw [ms_nk _ _ _ _ _ _ (by omega)]; exact hn
  have e2 : mset r 149 0 0 149 1 = 150 := by rw [ms_nk _ _ _ _ _ _ (by omega)]; exact sm_149_1 hM
  by_cases h : n + 20 ≤ 520
  · have l := s_feedMl L x0 x1 x2 x3 x4 n (mset r 149 0 0) e2 b0 b1 b2 b3 b4 h0 h 20 0 none (Or.inl rfl) rfl (by omega)
    rw [fm_0 _ _ _ _ _ _ _ e1] at l
    simp only [xe_152_0, xe_152_1, xe_152_2, xe_152_5, xe_152_6, xe_152_9, xe_152_11, xe_152_12, xe_152_15, xe_152_18, xe_152_20, xe_152_21, xe_152_22 _ _ _ _ _ (some (vI _)) _ _ _ _ _ _ rfl, xe_152_22 _ _ _ _ _ (some (vR _)) _ _ _ _ _ _ rfl, xe_152_22 _ _ _ _ _ none _ _ _ _ _ _ rfl, ite_self, mm_nL_I, mm_nL_R, mm_nL_0, Option.bind_some, Option.bind_none, bnd_ite, Option.toList_some, Option.toList_none, List.cons_append, List.nil_append, mm_cats_nil, mm_cats_I, mm_cats_L, mm_cats_R, if_true, if_false, true_and, and_true, false_and, and_false, not_true_eq_false, not_false_eq_true, Int.reduceLE, Int.reduceLT, Int.reduceEq, Int.reduceNe, Int.reduceNeg, Int.reduceAdd, Int.reduceSub, Int.reduceMul, Nat.reduceAdd, Nat.reduceLeDiff, true_or, or_true, false_or, or_false, reduceIte, k_149, e1, w1, h, l]
  · simp only [xe_152_0, xe_152_1, xe_152_2, xe_152_5, xe_152_6, xe_152_9, xe_152_11, xe_152_12, xe_152_15, xe_152_18, xe_152_20, xe_152_21, xe_152_22 _ _ _ _ _ (some (vI _)) _ _ _ _ _ _ rfl, xe_152_22 _ _ _ _ _ (some (vR _)) _ _ _ _ _ _ rfl, xe_152_22 _ _ _ _ _ none _ _ _ _ _ _ rfl, ite_self, mm_nL_I, mm_nL_R, mm_nL_0, Option.bind_some, Option.bind_none, bnd_ite, Option.toList_some, Option.toList_none, List.cons_append, List.nil_append, mm_cats_nil, mm_cats_I, mm_cats_L, mm_cats_R, if_true, if_false, true_and, and_true, false_and, and_false, not_true_eq_false, not_false_eq_true, Int.reduceLE, Int.reduceLT, Int.reduceEq, Int.reduceNe, Int.reduceNeg, Int.reduceAdd, Int.reduceSub, Int.reduceMul, Nat.reduceAdd, Nat.reduceLeDiff, true_or, or_true, false_or, or_false, reduceIte, k_149, e1, w1, h]
theorem s_feedT {c r : MM} (x0 x1 x2 x3 x4 n : Int) (hn : c 11 1 = n) (hT : Rtape c r) (h : n + 20 ≤ 520) : Rtape (fd20 c n x0 x1 x2 x3 x4) (fm (mset r 149 0 0) n 20 x0 x1 x2 x3 x4) := by
  obtain ⟨t1, t2, t3, t4⟩ := hT
  have l : fd20 c n x0 x1 x2 x3 x4 11 1 = n + 20 := by simp only [fd20, fd4_11, if_true]; omega
  refine ⟨by rw [l]; simp [fm], by omega, by omega, fun i h0 hi => ?_⟩
  rw [l] at hi
  have e : fd20 c n x0 x1 x2 x3 x4 12 i = if n ≤ i ∧ i < n + 20 then byt x0 x1 x2 x3 x4 (i - n) else c 12 i := by
    simp only [fd20, fd4_12]
    by_cases g : n ≤ i ∧ i < n + 20
    · rw [if_pos g]
      unfold byt
      by_cases g0 : i < n + 4
      · rw [if_neg (by omega), if_neg (by omega), if_neg (by omega), if_neg (by omega), if_pos (by omega), if_pos (by omega)]; congr 1; omega
      · by_cases g1 : i < n + 8
        · rw [if_neg (by omega), if_neg (by omega), if_neg (by omega), if_pos (by omega), if_neg (by omega), if_pos (by omega)]; congr 1; omega
        · by_cases g2 : i < n + 12
          · rw [if_neg (by omega), if_neg (by omega), if_pos (by omega), if_neg (by omega), if_neg (by omega), if_pos (by omega)]; congr 1; omega
          · by_cases g3 : i < n + 16
            · rw [if_neg (by omega), if_pos (by omega), if_neg (by omega), if_neg (by omega), if_neg (by omega), if_pos (by omega)]; congr 1; omega
            · rw [if_pos (by omega), if_neg (by omega), if_neg (by omega), if_neg (by omega), if_neg (by omega)]; congr 1; omega
    · rw [if_neg g, if_neg (by omega), if_neg (by omega), if_neg (by omega), if_neg (by omega), if_neg (by omega)]
  rw [e]
  have e' : fm (mset r 149 0 0) n 20 x0 x1 x2 x3 x4 150 i = if n ≤ i ∧ i < n + 20 then byt x0 x1 x2 x3 x4 (i - n) else r 150 i := by simp [fm, mset]
  rw [e']
  split
  · exact ⟨rfl, by4_ok _ _⟩
  · exact t4 i h0 (by omega)
