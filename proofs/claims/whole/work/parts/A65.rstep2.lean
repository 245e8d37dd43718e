/-! load: names, ranges, codes -/
section RT
variable {L n : Int} {F : Int → Int}
/-- a letter as it is told -/
def ltr (x : Int) : Int := if 32 ≤ x ∧ x ≤ 126 then x else 63
theorem nm_X (i : Int) (i0 : 0 ≤ i) (i1 : i + 18 ≤ n) : ∀ (m : Nat) (k : Int) (c : MM) (y : Option MV), 0 ≤ k → k + m = 13 → PX c n F → c 16 9 = k → (y = none ∨ ∃ z, y = some (vI z)) →
    ∃ c' e, ev 47 7 [some (vR 16), some (vI (i + 5)), some (vI k), y] [] c (g_1 L) = some (none, c', g_1 L) ∧ fC c c' ∧ k ≤ e ∧ e ≤ 13 ∧ c' 16 9 = e ∧ (∀ j, ¬ j = 9 → c' 16 j = c 16 j) ∧ (∀ b, ¬ b = 16 → ¬ b = 21 → c' b = c b) ∧ (∀ j, j < k → c' 21 j = c 21 j) ∧ (∀ j, k ≤ j → j < e → c' 21 j = ltr (F (i + 5 + j)) ∧ ¬ (F (i + 5 + j) = 10 ∨ F (i + 5 + j) = 0)) ∧ (e < 13 → F (i + 5 + e) = 10 ∨ F (i + 5 + e) = 0) := by
  intro m
  induction m with
  | zero =>
    intro k c y k0 hk hX h9 hy
    have g : 13 ≤ k := by omega
    refine ⟨c, k, ?_, fC.rf c, Int.le_refl _, by omega, h9, fun _ _ => rfl, fun _ _ _ => rfl, fun _ _ => rfl, fun j j0 j1 => by omega, fun q => by omega⟩
    simp only [xe_47_7, xe_47_8, xe_47_10, xe_47_74, ite_self, mm_nL_I, mm_nL_R, mm_nL_0, Option.bind_some, Option.bind_none, bnd_ite, Option.toList_some, Option.toList_none, List.cons_append, List.nil_append, mm_cats_nil, mm_cats_I, mm_cats_L, mm_cats_R, if_true, if_false, true_and, and_true, false_and, and_false, not_true_eq_false, not_false_eq_true, Int.reduceLE, Int.reduceLT, Int.reduceEq, Int.reduceNe, Int.reduceNeg, Int.reduceAdd, Int.reduceSub, Int.reduceMul, Nat.reduceAdd, Nat.reduceLeDiff, true_or, or_true, false_or, or_false, reduceIte, g]
  | succ m ih =>
    intro k c y k0 hk hX h9 hy
    have n5 := hX.1.2.2.1
    have g : ¬ 13 ≤ k := by omega
    have g' : k < 13 := by omega
    have A := px_at (L := L) hX (i + 5 + k) (by omega) (by omega)
    have w1 : w32 (i + 5 + k) = i + 5 + k := wi32 (by omega) (by omega)
    have w2 : w32 (k + 1) = k + 1 := wi32 (by omega) (by omega)
    have bv := (hX.1.2.2.2 (i + 5 + k) (by omega) (by omega)).2
    generalize hx : F (i + 5 + k) = x at *
    by_cases s1 : x = 10
    · refine ⟨c, k, ?_, fC.rf c, Int.le_refl _, by omega, h9, fun _ _ => rfl, fun _ _ _ => rfl, fun _ _ => rfl, fun j j0 j1 => by omega, fun q => by rw [hx]; exact Or.inl s1⟩
      rw [xe_47_7]
      rcases hy with rfl | ⟨z, rfl⟩ <;>
      simp only [xe_47_8, xe_47_10, xe_47_13, xe_47_14, xe_47_17, xe_47_18, xe_47_19, xe_47_20, xe_47_23 _ _ (some (vI _)) _ _ _ _ _ rfl, xe_47_23 _ _ (some (vR _)) _ _ _ _ _ rfl, xe_47_23 _ _ none _ _ _ _ _ rfl, xe_47_24, xe_47_25, xe_47_27, xe_47_30, xe_47_31, xe_47_34, xe_47_37, xe_47_38, xe_47_41, xe_47_42, xe_47_43, xe_47_45, xe_47_48, xe_47_49, xe_47_51, xe_47_54, xe_47_55, xe_47_58, xe_47_60, xe_47_61, xe_47_62, xe_47_63, xe_47_64, xe_47_65, xe_47_68 _ (some (vI _)) _ _ _ _ _ rfl, xe_47_68 _ (some (vR _)) _ _ _ _ _ rfl, xe_47_68 _ none _ _ _ _ _ rfl, xe_47_71, xe_47_74, ite_self, mm_nL_I, mm_nL_R, mm_nL_0, Option.bind_some, Option.bind_none, bnd_ite, Option.toList_some, Option.toList_none, List.cons_append, List.nil_append, mm_cats_nil, mm_cats_I, mm_cats_L, mm_cats_R, if_true, if_false, true_and, and_true, false_and, and_false, not_true_eq_false, not_false_eq_true, Int.reduceLE, Int.reduceLT, Int.reduceEq, Int.reduceNe, Int.reduceNeg, Int.reduceAdd, Int.reduceSub, Int.reduceMul, Nat.reduceAdd, Nat.reduceLeDiff, true_or, or_true, false_or, or_false, reduceIte, k_16, k_17, hX.2.1, A, w1, g, s1]
    · by_cases s2 : x = 0
      · refine ⟨c, k, ?_, fC.rf c, Int.le_refl _, by omega, h9, fun _ _ => rfl, fun _ _ _ => rfl, fun _ _ => rfl, fun j j0 j1 => by omega, fun q => by rw [hx]; exact Or.inr s2⟩
        rw [xe_47_7]
        rcases hy with rfl | ⟨z, rfl⟩ <;>
        simp only [xe_47_8, xe_47_10, xe_47_13, xe_47_14, xe_47_17, xe_47_18, xe_47_19, xe_47_20, xe_47_23 _ _ (some (vI _)) _ _ _ _ _ rfl, xe_47_23 _ _ (some (vR _)) _ _ _ _ _ rfl, xe_47_23 _ _ none _ _ _ _ _ rfl, xe_47_24, xe_47_25, xe_47_27, xe_47_30, xe_47_31, xe_47_34, xe_47_37, xe_47_38, xe_47_41, xe_47_42, xe_47_43, xe_47_45, xe_47_48, xe_47_49, xe_47_51, xe_47_54, xe_47_55, xe_47_58, xe_47_60, xe_47_61, xe_47_62, xe_47_63, xe_47_64, xe_47_65, xe_47_68 _ (some (vI _)) _ _ _ _ _ rfl, xe_47_68 _ (some (vR _)) _ _ _ _ _ rfl, xe_47_68 _ none _ _ _ _ _ rfl, xe_47_71, xe_47_74, ite_self, mm_nL_I, mm_nL_R, mm_nL_0, Option.bind_some, Option.bind_none, bnd_ite, Option.toList_some, Option.toList_none, List.cons_append, List.nil_append, mm_cats_nil, mm_cats_I, mm_cats_L, mm_cats_R, if_true, if_false, true_and, and_true, false_and, and_false, not_true_eq_false, not_false_eq_true, Int.reduceLE, Int.reduceLT, Int.reduceEq, Int.reduceNe, Int.reduceNeg, Int.reduceAdd, Int.reduceSub, Int.reduceMul, Nat.reduceAdd, Nat.reduceLeDiff, true_or, or_true, false_or, or_false, reduceIte, k_16, k_17, hX.2.1, A, w1, g, s1, s2]
      · have f1 : fC c (mset (mset c 21 k (ltr x)) 16 9 (k + 1)) := ⟨fun a ha => by rw [ms_row _ _ _ _ _ (by omega), ms_row _ _ _ _ _ (by omega)], fun j hj => by rw [ms_nk _ _ _ _ _ _ (by omega), ms_row _ _ _ _ _ (by omega)]⟩
        obtain ⟨c', e, u1, u2, u3, u4, u5, u6, u7, u8, u9, u10⟩ := ih (k + 1) (mset (mset c 21 k (ltr x)) 16 9 (k + 1)) (some (vI x)) (by omega) (by omega) (hX.f f1) (ms_eq _ _ _ _) (Or.inr ⟨x, rfl⟩)
        refine ⟨c', e, ?_, f1.tr u2, by omega, u4, u5, fun j hj => by rw [u6 j hj, ms_nk _ _ _ _ _ _ hj, ms_row _ _ _ _ _ (by omega)], fun b h1 h2 => by rw [u7 b h1 h2, ms_row _ _ _ _ _ h1, ms_row _ _ _ _ _ h2], fun j hj => by rw [u8 j (by omega), ms_row _ _ _ _ _ (by omega), ms_nk _ _ _ _ _ _ (by omega)], fun j j0 j1 => ?_, u10⟩
        · rw [← u1, xe_47_7]
          have m21 : ∀ v, mset c 21 k v 16 = c 16 := fun v => ms_row _ _ _ _ _ (by omega)
          unfold ltr
          by_cases t1 : x < 32
          · have t : ¬ (32 ≤ x ∧ x ≤ 126) := by omega
            rcases hy with rfl | ⟨z, rfl⟩ <;>
            simp only [xe_47_8, xe_47_10, xe_47_13, xe_47_14, xe_47_17, xe_47_18, xe_47_19, xe_47_20, xe_47_23 _ _ (some (vI _)) _ _ _ _ _ rfl, xe_47_23 _ _ (some (vR _)) _ _ _ _ _ rfl, xe_47_23 _ _ none _ _ _ _ _ rfl, xe_47_24, xe_47_25, xe_47_27, xe_47_30, xe_47_31, xe_47_34, xe_47_37, xe_47_38, xe_47_41, xe_47_42, xe_47_43, xe_47_45, xe_47_48, xe_47_49, xe_47_51, xe_47_54, xe_47_55, xe_47_58, xe_47_60, xe_47_61, xe_47_62, xe_47_63, xe_47_64, xe_47_65, xe_47_68 _ (some (vI _)) _ _ _ _ _ rfl, xe_47_68 _ (some (vR _)) _ _ _ _ _ rfl, xe_47_68 _ none _ _ _ _ _ rfl, xe_47_71, xe_47_74, ite_self, mm_nL_I, mm_nL_R, mm_nL_0, Option.bind_some, Option.bind_none, bnd_ite, Option.toList_some, Option.toList_none, List.cons_append, List.nil_append, mm_cats_nil, mm_cats_I, mm_cats_L, mm_cats_R, if_true, if_false, true_and, and_true, false_and, and_false, not_true_eq_false, not_false_eq_true, Int.reduceLE, Int.reduceLT, Int.reduceEq, Int.reduceNe, Int.reduceNeg, Int.reduceAdd, Int.reduceSub, Int.reduceMul, Nat.reduceAdd, Nat.reduceLeDiff, true_or, or_true, false_or, or_false, reduceIte, k_16, k_17, k_21, l_21, hX.2.1, hX.2.2.2.2.1, A, w1, w2, g, g', k0, s1, s2, t1, t]
          · by_cases t2 : 126 < x
            · have t : ¬ (32 ≤ x ∧ x ≤ 126) := by omega
              rcases hy with rfl | ⟨z, rfl⟩ <;>
              simp only [xe_47_8, xe_47_10, xe_47_13, xe_47_14, xe_47_17, xe_47_18, xe_47_19, xe_47_20, xe_47_23 _ _ (some (vI _)) _ _ _ _ _ rfl, xe_47_23 _ _ (some (vR _)) _ _ _ _ _ rfl, xe_47_23 _ _ none _ _ _ _ _ rfl, xe_47_24, xe_47_25, xe_47_27, xe_47_30, xe_47_31, xe_47_34, xe_47_37, xe_47_38, xe_47_41, xe_47_42, xe_47_43, xe_47_45, xe_47_48, xe_47_49, xe_47_51, xe_47_54, xe_47_55, xe_47_58, xe_47_60, xe_47_61, xe_47_62, xe_47_63, xe_47_64, xe_47_65, xe_47_68 _ (some (vI _)) _ _ _ _ _ rfl, xe_47_68 _ (some (vR _)) _ _ _ _ _ rfl, xe_47_68 _ none _ _ _ _ _ rfl, xe_47_71, xe_47_74, ite_self, mm_nL_I, mm_nL_R, mm_nL_0, Option.bind_some, Option.bind_none, bnd_ite, Option.toList_some, Option.toList_none, List.cons_append, List.nil_append, mm_cats_nil, mm_cats_I, mm_cats_L, mm_cats_R, if_true, if_false, true_and, and_true, false_and, and_false, not_true_eq_false, not_false_eq_true, Int.reduceLE, Int.reduceLT, Int.reduceEq, Int.reduceNe, Int.reduceNeg, Int.reduceAdd, Int.reduceSub, Int.reduceMul, Nat.reduceAdd, Nat.reduceLeDiff, true_or, or_true, false_or, or_false, reduceIte, k_16, k_17, k_21, l_21, hX.2.1, hX.2.2.2.2.1, A, w1, w2, g, g', k0, s1, s2, t1, t2, t]
            · have t : 32 ≤ x ∧ x ≤ 126 := by omega
              rcases hy with rfl | ⟨z, rfl⟩ <;>
              simp only [xe_47_8, xe_47_10, xe_47_13, xe_47_14, xe_47_17, xe_47_18, xe_47_19, xe_47_20, xe_47_23 _ _ (some (vI _)) _ _ _ _ _ rfl, xe_47_23 _ _ (some (vR _)) _ _ _ _ _ rfl, xe_47_23 _ _ none _ _ _ _ _ rfl, xe_47_24, xe_47_25, xe_47_27, xe_47_30, xe_47_31, xe_47_34, xe_47_37, xe_47_38, xe_47_41, xe_47_42, xe_47_43, xe_47_45, xe_47_48, xe_47_49, xe_47_51, xe_47_54, xe_47_55, xe_47_58, xe_47_60, xe_47_61, xe_47_62, xe_47_63, xe_47_64, xe_47_65, xe_47_68 _ (some (vI _)) _ _ _ _ _ rfl, xe_47_68 _ (some (vR _)) _ _ _ _ _ rfl, xe_47_68 _ none _ _ _ _ _ rfl, xe_47_71, xe_47_74, ite_self, mm_nL_I, mm_nL_R, mm_nL_0, Option.bind_some, Option.bind_none, bnd_ite, Option.toList_some, Option.toList_none, List.cons_append, List.nil_append, mm_cats_nil, mm_cats_I, mm_cats_L, mm_cats_R, if_true, if_false, true_and, and_true, false_and, and_false, not_true_eq_false, not_false_eq_true, Int.reduceLE, Int.reduceLT, Int.reduceEq, Int.reduceNe, Int.reduceNeg, Int.reduceAdd, Int.reduceSub, Int.reduceMul, Nat.reduceAdd, Nat.reduceLeDiff, true_or, or_true, false_or, or_false, reduceIte, k_16, k_17, k_21, l_21, hX.2.1, hX.2.2.2.2.1, A, w1, w2, g, g', k0, s1, s2, t1, t2, t]
        · by_cases ej : j = k
          · rw [ej, u8 k (by omega), ms_row _ _ _ _ _ (by omega), ms_eq, hx]
            exact ⟨rfl, by omega⟩
          · exact u9 j (by omega) j1
theorem nm_M (i : Int) (i0 : 0 ≤ i) (i1 : i + 18 ≤ n) : ∀ (m : Nat) (k : Int) (r : MM), 0 ≤ k → k + m = 13 → PM r n F → r 149 14 = k →
    ∃ r' e, ev 164 20 [some (vR 149), some (vI i), some (vI (k + 5))] [] r (g_1 L) = ev 164 105 [some (vR 149), some (vI i), some (vI (e + 5))] [] r' (g_1 L) ∧ fR r r' ∧ k ≤ e ∧ e ≤ 13 ∧ r' 149 14 = e ∧ (∀ j, ¬ j = 14 → r' 149 j = r 149 j) ∧ (∀ b, ¬ b = 149 → ¬ b = 154 → r' b = r b) ∧ (∀ j, j < k → r' 154 j = r 154 j) ∧ (∀ j, k ≤ j → j < e → r' 154 j = ltr (F (i + 5 + j)) ∧ ¬ (F (i + 5 + j) = 10 ∨ F (i + 5 + j) = 0)) ∧ (e < 13 → F (i + 5 + e) = 10 ∨ F (i + 5 + e) = 0) := by
  intro m
  induction m with
  | zero =>
    intro k r k0 hk hM h9
    have g : 18 ≤ k + 5 := by omega
    refine ⟨r, k, ?_, fR.rf r, Int.le_refl _, by omega, h9, fun _ _ => rfl, fun _ _ _ => rfl, fun _ _ => rfl, fun j j0 j1 => by omega, fun q => by omega⟩
    simp only [xe_164_20, xe_164_21, xe_164_23, ite_self, mm_nL_I, mm_nL_R, mm_nL_0, Option.bind_some, Option.bind_none, bnd_ite, Option.toList_some, Option.toList_none, List.cons_append, List.nil_append, mm_cats_nil, mm_cats_I, mm_cats_L, mm_cats_R, if_true, if_false, true_and, and_true, false_and, and_false, not_true_eq_false, not_false_eq_true, Int.reduceLE, Int.reduceLT, Int.reduceEq, Int.reduceNe, Int.reduceNeg, Int.reduceAdd, Int.reduceSub, Int.reduceMul, Nat.reduceAdd, Nat.reduceLeDiff, true_or, or_true, false_or, or_false, reduceIte, g]
  | succ m ih =>
    intro k r k0 hk hM h9
    have n5 := hM.1.2.1
    have g : ¬ 18 ≤ k + 5 := by omega
    have g' : k < 13 := by omega
    have A := pm_at (L := L) hM (i + 5 + k) (by omega) (by omega)
    have w1 : w32 (i + (k + 5)) = i + 5 + k := by rw [wi32 (by omega) (by omega)]; omega
    have w2 : w32 (k + 1) = k + 1 := wi32 (by omega) (by omega)
    have w3 : w32 (k + 5 + 1) = k + 1 + 5 := by rw [wi32 (by omega) (by omega)]; omega
    have bv := (hM.1.2.2 (i + 5 + k) (by omega) (by omega)).2
    generalize hx : F (i + 5 + k) = x at *
    by_cases s1 : x = 10
    · refine ⟨r, k, ?_, fR.rf r, Int.le_refl _, by omega, h9, fun _ _ => rfl, fun _ _ _ => rfl, fun _ _ => rfl, fun j j0 j1 => by omega, fun q => by rw [hx]; exact Or.inl s1⟩
      rw [xe_164_20]
      simp only [xe_164_21, xe_164_23, xe_164_26, xe_164_27, xe_164_28, xe_164_29, xe_164_30, xe_164_33, xe_164_35, xe_164_38, xe_164_39, xe_164_40, xe_164_41, xe_164_42, xe_164_45, xe_164_48, xe_164_49, xe_164_52, xe_164_53, xe_164_56, xe_164_57, xe_164_58, xe_164_59, xe_164_60, xe_164_63, xe_164_64, xe_164_67, xe_164_70, xe_164_73, xe_164_76, xe_164_77, xe_164_78, xe_164_79, xe_164_80, xe_164_83, xe_164_86, xe_164_88, xe_164_89, xe_164_90, xe_164_91, xe_164_94, xe_164_95, xe_164_96, xe_164_99 _ (some (vI _)) _ _ _ _ rfl, xe_164_99 _ (some (vR _)) _ _ _ _ rfl, xe_164_99 _ none _ _ _ _ rfl, xe_164_102, ite_self, mm_nL_I, mm_nL_R, mm_nL_0, Option.bind_some, Option.bind_none, bnd_ite, Option.toList_some, Option.toList_none, List.cons_append, List.nil_append, mm_cats_nil, mm_cats_I, mm_cats_L, mm_cats_R, if_true, if_false, true_and, and_true, false_and, and_false, not_true_eq_false, not_false_eq_true, Int.reduceLE, Int.reduceLT, Int.reduceEq, Int.reduceNe, Int.reduceNeg, Int.reduceAdd, Int.reduceSub, Int.reduceMul, Nat.reduceAdd, Nat.reduceLeDiff, true_or, or_true, false_or, or_false, reduceIte, k_149, A, w1, g, s1]
    · by_cases s2 : x = 0
      · refine ⟨r, k, ?_, fR.rf r, Int.le_refl _, by omega, h9, fun _ _ => rfl, fun _ _ _ => rfl, fun _ _ => rfl, fun j j0 j1 => by omega, fun q => by rw [hx]; exact Or.inr s2⟩
        rw [xe_164_20]
        simp only [xe_164_21, xe_164_23, xe_164_26, xe_164_27, xe_164_28, xe_164_29, xe_164_30, xe_164_33, xe_164_35, xe_164_38, xe_164_39, xe_164_40, xe_164_41, xe_164_42, xe_164_45, xe_164_48, xe_164_49, xe_164_52, xe_164_53, xe_164_56, xe_164_57, xe_164_58, xe_164_59, xe_164_60, xe_164_63, xe_164_64, xe_164_67, xe_164_70, xe_164_73, xe_164_76, xe_164_77, xe_164_78, xe_164_79, xe_164_80, xe_164_83, xe_164_86, xe_164_88, xe_164_89, xe_164_90, xe_164_91, xe_164_94, xe_164_95, xe_164_96, xe_164_99 _ (some (vI _)) _ _ _ _ rfl, xe_164_99 _ (some (vR _)) _ _ _ _ rfl, xe_164_99 _ none _ _ _ _ rfl, xe_164_102, ite_self, mm_nL_I, mm_nL_R, mm_nL_0, Option.bind_some, Option.bind_none, bnd_ite, Option.toList_some, Option.toList_none, List.cons_append, List.nil_append, mm_cats_nil, mm_cats_I, mm_cats_L, mm_cats_R, if_true, if_false, true_and, and_true, false_and, and_false, not_true_eq_false, not_false_eq_true, Int.reduceLE, Int.reduceLT, Int.reduceEq, Int.reduceNe, Int.reduceNeg, Int.reduceAdd, Int.reduceSub, Int.reduceMul, Nat.reduceAdd, Nat.reduceLeDiff, true_or, or_true, false_or, or_false, reduceIte, k_149, A, w1, g, s1, s2]
      · have f1 : fR r (mset (mset r 154 k (ltr x)) 149 14 (k + 1)) := ⟨fun a ha => by rw [ms_row _ _ _ _ _ (by omega), ms_row _ _ _ _ _ (by omega)], fun j hj => by rw [ms_nk _ _ _ _ _ _ (by omega), ms_row _ _ _ _ _ (by omega)]⟩
        obtain ⟨r', e, u1, u2, u3, u4, u5, u6, u7, u8, u9, u10⟩ := ih (k + 1) (mset (mset r 154 k (ltr x)) 149 14 (k + 1)) (by omega) (by omega) (hM.f f1) (ms_eq _ _ _ _)
        refine ⟨r', e, ?_, f1.tr u2, by omega, u4, u5, fun j hj => by rw [u6 j hj, ms_nk _ _ _ _ _ _ hj, ms_row _ _ _ _ _ (by omega)], fun b h1 h2 => by rw [u7 b h1 h2, ms_row _ _ _ _ _ h1, ms_row _ _ _ _ _ h2], fun j hj => by rw [u8 j (by omega), ms_row _ _ _ _ _ (by omega), ms_nk _ _ _ _ _ _ (by omega)], fun j j0 j1 => ?_, u10⟩
        · rw [← u1, xe_164_20]
          have m154 : ∀ v, mset r 154 k v 149 = r 149 := fun v => ms_row _ _ _ _ _ (by omega)
          unfold ltr
          by_cases t : 32 ≤ x ∧ x ≤ 126
          · simp only [xe_164_21, xe_164_23, xe_164_26, xe_164_27, xe_164_28, xe_164_29, xe_164_30, xe_164_33, xe_164_35, xe_164_38, xe_164_39, xe_164_40, xe_164_41, xe_164_42, xe_164_45, xe_164_48, xe_164_49, xe_164_52, xe_164_53, xe_164_56, xe_164_57, xe_164_58, xe_164_59, xe_164_60, xe_164_63, xe_164_64, xe_164_67, xe_164_70, xe_164_73, xe_164_76, xe_164_77, xe_164_78, xe_164_79, xe_164_80, xe_164_83, xe_164_86, xe_164_88, xe_164_89, xe_164_90, xe_164_91, xe_164_94, xe_164_95, xe_164_96, xe_164_99 _ (some (vI _)) _ _ _ _ rfl, xe_164_99 _ (some (vR _)) _ _ _ _ rfl, xe_164_99 _ none _ _ _ _ rfl, xe_164_102, ite_self, mm_nL_I, mm_nL_R, mm_nL_0, Option.bind_some, Option.bind_none, bnd_ite, Option.toList_some, Option.toList_none, List.cons_append, List.nil_append, mm_cats_nil, mm_cats_I, mm_cats_L, mm_cats_R, if_true, if_false, true_and, and_true, false_and, and_false, not_true_eq_false, not_false_eq_true, Int.reduceLE, Int.reduceLT, Int.reduceEq, Int.reduceNe, Int.reduceNeg, Int.reduceAdd, Int.reduceSub, Int.reduceMul, Nat.reduceAdd, Nat.reduceLeDiff, true_or, or_true, false_or, or_false, reduceIte, k_149, k_154, l_154, hM.2.2.1, h9, m154, A, s_isIn, bi, w1, w2, w3, g, g', k0, s1, s2, t]
          · simp only [xe_164_21, xe_164_23, xe_164_26, xe_164_27, xe_164_28, xe_164_29, xe_164_30, xe_164_33, xe_164_35, xe_164_38, xe_164_39, xe_164_40, xe_164_41, xe_164_42, xe_164_45, xe_164_48, xe_164_49, xe_164_52, xe_164_53, xe_164_56, xe_164_57, xe_164_58, xe_164_59, xe_164_60, xe_164_63, xe_164_64, xe_164_67, xe_164_70, xe_164_73, xe_164_76, xe_164_77, xe_164_78, xe_164_79, xe_164_80, xe_164_83, xe_164_86, xe_164_88, xe_164_89, xe_164_90, xe_164_91, xe_164_94, xe_164_95, xe_164_96, xe_164_99 _ (some (vI _)) _ _ _ _ rfl, xe_164_99 _ (some (vR _)) _ _ _ _ rfl, xe_164_99 _ none _ _ _ _ rfl, xe_164_102, ite_self, mm_nL_I, mm_nL_R, mm_nL_0, Option.bind_some, Option.bind_none, bnd_ite, Option.toList_some, Option.toList_none, List.cons_append, List.nil_append, mm_cats_nil, mm_cats_I, mm_cats_L, mm_cats_R, if_true, if_false, true_and, and_true, false_and, and_false, not_true_eq_false, not_false_eq_true, Int.reduceLE, Int.reduceLT, Int.reduceEq, Int.reduceNe, Int.reduceNeg, Int.reduceAdd, Int.reduceSub, Int.reduceMul, Nat.reduceAdd, Nat.reduceLeDiff, true_or, or_true, false_or, or_false, reduceIte, k_149, k_154, l_154, hM.2.2.1, h9, m154, A, s_isIn, bi, w1, w2, w3, g, g', k0, s1, s2, t]
        · by_cases ej : j = k
          · rw [ej, u8 k (by omega), ms_row _ _ _ _ _ (by omega), ms_eq, hx]
            exact ⟨rfl, by omega⟩
          · exact u9 j (by omega) j1
theorem ltr_b {x : Int} (h0 : 0 ≤ x) (h1 : x < 256) : 0 ≤ ltr x ∧ ltr x < 256 := by unfold ltr; split <;> omega
/-- a descriptor of the base that is no timing -/
theorem st_oth {c r : MM} (hX : PX c n F) (hM : PM r n F) (hR : Rq c r) (i : Int) (i0 : 0 ≤ i) (i1 : i + 18 ≤ n) (hc : hcl F i = false) :
    ∃ c' r', ev 43 0 [some (vR 16), some (vI i)] [] c (g_1 L) = some (none, c', g_1 L) ∧ ev 164 0 [some (vR 149), some (vI i), none] [] r (g_1 L) = some (none, r', g_1 L) ∧ Rq c' r' ∧ fC c c' ∧ fR r r' ∧ (∀ k, ¬ k = 9 → ¬ k = 12 → c' 16 k = c 16 k) := by
  have n5 := hX.1.2.2.1
  have H := s_hasC (L := L) hX i i0 (by omega)
  rw [if_neg (by rw [hc]; decide)] at H
  have A := px_at (L := L) hX (i + 3) (by omega) (by omega)
  have B := pm_at (L := L) hM (i + 3) (by omega) (by omega)
  have w3 : w32 (i + 3) = i + 3 := wi32 (by omega) (by omega)
  have w5 : w32 (i + 5) = i + 5 := wi32 (by omega) (by omega)
  obtain ⟨q1, q2, q3, q4, q5, q6⟩ := hR
  generalize hx : F (i + 3) = x at *
  by_cases s1 : x = 252
  · have f0 : fC c (mset c 16 9 0) := ⟨fun a ha => ms_row _ _ _ _ _ (by omega), fun j hj => ms_nk _ _ _ _ _ _ (by omega)⟩
    have g0 : fR r (mset r 149 14 0) := ⟨fun a ha => ms_row _ _ _ _ _ (by omega), fun j hj => ms_nk _ _ _ _ _ _ (by omega)⟩
    obtain ⟨c', e, u1, u2, u3, u4, u5, u6, u7, u8, u9, u10⟩ := nm_X (L := L) i i0 i1 13 0 (mset c 16 9 0) none (by omega) (by omega) (hX.f f0) (ms_eq _ _ _ _) (Or.inl rfl)
    obtain ⟨r', e', v1, v2, v3, v4, v5, v6, v7, v8, v9, v10⟩ := nm_M (L := L) i i0 i1 13 0 (mset r 149 14 0) (by omega) (by omega) (hM.f g0) (ms_eq _ _ _ _)
    have ee : e = e' := by
      by_cases lt : e < e'
      · have := (v9 e (by omega) lt).2
        have := u10 (by omega)
        omega
      · by_cases gt : e' < e
        · have := (u9 e' (by omega) gt).2
          have := v10 (by omega)
          omega
        · omega
    subst ee
    have c16 : ∀ j, ¬ j = 9 → c' 16 j = c 16 j := fun j hj => by rw [u6 j hj, ms_nk _ _ _ _ _ _ hj]
    have cb : ∀ b, ¬ b = 16 → ¬ b = 21 → c' b = c b := fun b h1 h2 => by rw [u7 b h1 h2, ms_row _ _ _ _ _ h1]
    have rk : ∀ j, ¬ j = 14 → r' 149 j = r 149 j := fun j hj => by rw [v6 j hj, ms_nk _ _ _ _ _ _ hj]
    have rb : ∀ b, ¬ b = 149 → ¬ b = 154 → r' b = r b := fun b h1 h2 => by rw [v7 b h1 h2, ms_row _ _ _ _ _ h1]
    have fR' := g0.tr v2
    have B' := pm_at (L := L) (hM.f fR') (i + 3) (by omega) (by omega)
    rw [hx] at B'
    refine ⟨c', r', ?_, ?_, ⟨q1.ke (c16 _ (by omega)) (fun a ha => cb a (by omega) (by omega)) (rk _ (by omega)) (rb _ (by omega) (by omega)), ⟨by rw [u5, v5], by rw [u5]; exact u3, by rw [u5]; exact u4, fun k k0 k1 => ?_⟩, q3.ke (c16 _ (by omega)) (cb _ (by omega) (by omega)) (rk _ (by omega)) (rb _ (by omega) (by omega)), q4.ke (c16 _ (by omega)) (cb _ (by omega) (by omega)) (rk _ (by omega)) (rb _ (by omega) (by omega)), q5.ke (c16 _ (by omega)) (rk _ (by omega)), q6.ke (c16 _ (by omega)) (rk _ (by omega))⟩, f0.tr u2, fR', fun k h1 h2 => c16 k h1⟩
    · have N : ev 47 0 [some (vR 16), some (vI (i + 5)), none, none] [] c (g_1 L) = some (none, c', g_1 L) := by
        rw [← u1]
        simp only [xe_47_0, xe_47_1, xe_47_2, xe_47_5, xe_47_6 _ (some (vI _)) _ _ _ _ _ _ rfl, xe_47_6 _ (some (vR _)) _ _ _ _ _ _ rfl, xe_47_6 _ none _ _ _ _ _ _ rfl, ite_self, mm_nL_I, mm_nL_R, mm_nL_0, Option.bind_some, Option.bind_none, bnd_ite, Option.toList_some, Option.toList_none, List.cons_append, List.nil_append, mm_cats_nil, mm_cats_I, mm_cats_L, mm_cats_R, if_true, if_false, true_and, and_true, false_and, and_false, not_true_eq_false, not_false_eq_true, Int.reduceLE, Int.reduceLT, Int.reduceEq, Int.reduceNe, Int.reduceNeg, Int.reduceAdd, Int.reduceSub, Int.reduceMul, Nat.reduceAdd, Nat.reduceLeDiff, true_or, or_true, false_or, or_false, reduceIte, k_16]
      simp only [xe_43_0, xe_43_1, xe_43_2, xe_43_5, xe_43_8, xe_43_9, xe_43_10, xe_43_13, xe_43_16, xe_43_17, xe_43_20, xe_43_21, xe_43_22, xe_43_23, xe_43_26, xe_43_29, xe_43_32, xe_43_33, xe_43_34, xe_43_35, xe_43_36, xe_43_39, xe_43_42, xe_43_43, xe_43_46, xe_43_47, xe_43_48, xe_43_49, xe_43_52, xe_43_55, xe_43_58, xe_43_59, xe_43_60, xe_43_61, xe_43_62, xe_43_65, ite_self, mm_nL_I, mm_nL_R, mm_nL_0, Option.bind_some, Option.bind_none, bnd_ite, Option.toList_some, Option.toList_none, List.cons_append, List.nil_append, mm_cats_nil, mm_cats_I, mm_cats_L, mm_cats_R, if_true, if_false, true_and, and_true, false_and, and_false, not_true_eq_false, not_false_eq_true, Int.reduceLE, Int.reduceLT, Int.reduceEq, Int.reduceNe, Int.reduceNeg, Int.reduceAdd, Int.reduceSub, Int.reduceMul, Nat.reduceAdd, Nat.reduceLeDiff, true_or, or_true, false_or, or_false, reduceIte, k_16, k_17, hX.2.1, H, A, N, w3, w5, s1]
    · have st : ev 164 0 [some (vR 149), some (vI i), none] [] r (g_1 L) = ev 164 20 [some (vR 149), some (vI i), some (vI (0 + 5))] [] (mset r 149 14 0) (g_1 L) := by
        simp only [xe_164_0, xe_164_1, xe_164_2, xe_164_3, xe_164_4, xe_164_7, xe_164_10, xe_164_13, xe_164_14, xe_164_15, xe_164_18, xe_164_19 _ (some (vI _)) _ _ _ _ _ rfl, xe_164_19 _ (some (vR _)) _ _ _ _ _ rfl, xe_164_19 _ none _ _ _ _ _ rfl, ite_self, mm_nL_I, mm_nL_R, mm_nL_0, Option.bind_some, Option.bind_none, bnd_ite, Option.toList_some, Option.toList_none, List.cons_append, List.nil_append, mm_cats_nil, mm_cats_I, mm_cats_L, mm_cats_R, if_true, if_false, true_and, and_true, false_and, and_false, not_true_eq_false, not_false_eq_true, Int.reduceLE, Int.reduceLT, Int.reduceEq, Int.reduceNe, Int.reduceNeg, Int.reduceAdd, Int.reduceSub, Int.reduceMul, Nat.reduceAdd, Nat.reduceLeDiff, true_or, or_true, false_or, or_false, reduceIte, k_149, B, w3, s1]
      rw [st, v1]
      simp only [xe_164_105, xe_164_106, xe_164_107, xe_164_108, xe_164_109, xe_164_112, xe_164_115, xe_164_118, xe_164_119, xe_164_120, xe_164_123, xe_164_124 _ (some (vI _)) _ _ _ _ _ rfl, xe_164_124 _ (some (vR _)) _ _ _ _ _ rfl, xe_164_124 _ none _ _ _ _ _ rfl, xe_164_169, ite_self, mm_nL_I, mm_nL_R, mm_nL_0, Option.bind_some, Option.bind_none, bnd_ite, Option.toList_some, Option.toList_none, List.cons_append, List.nil_append, mm_cats_nil, mm_cats_I, mm_cats_L, mm_cats_R, if_true, if_false, true_and, and_true, false_and, and_false, not_true_eq_false, not_false_eq_true, Int.reduceLE, Int.reduceLT, Int.reduceEq, Int.reduceNe, Int.reduceNeg, Int.reduceAdd, Int.reduceSub, Int.reduceMul, Nat.reduceAdd, Nat.reduceLeDiff, true_or, or_true, false_or, or_false, reduceIte, k_149, B', w3, s1]
    · rw [u5] at k1
      have a := u9 k k0 k1
      have b := v9 k k0 k1
      have bb := (hX.1.2.2.2 (i + 5 + k) (by omega) (by omega)).2
      rw [a.1, b.1]
      exact ⟨rfl, ltr_b bb.1 bb.2⟩
  · by_cases s2 : x = 253
    · have R1 : ∀ (k : Int) (c' : MM) (y : Int), PX c' n F → 0 ≤ k → k < 5 → ev 44 7 [some (vR 16), some (vI (i + 5)), some (vI k)] [] c' (g_1 L) = ev 44 7 [some (vR 16), some (vI (i + 5)), some (vI (k + 1))] [] (mset c' 22 k (F (i + 5 + k))) (g_1 L) := fun k c' y hX' k0 k5 => by
        have A' := px_at (L := L) hX' (i + 5 + k) (by omega) (by omega)
        have g : ¬ 5 ≤ k := by omega
        have w1 : w32 (i + 5 + k) = i + 5 + k := wi32 (by omega) (by omega)
        have w2 : w32 (k + 1) = k + 1 := wi32 (by omega) (by omega)
        rw [xe_44_7]
        simp only [xe_44_8, xe_44_9, xe_44_12, xe_44_13, xe_44_16, xe_44_17, xe_44_20, xe_44_21, xe_44_22, xe_44_25, xe_44_26, xe_44_27, xe_44_28, xe_44_31, xe_44_32 _ (some (vI _)) _ _ _ _ rfl, xe_44_32 _ (some (vR _)) _ _ _ _ rfl, xe_44_32 _ none _ _ _ _ rfl, xe_44_35, xe_44_38, ite_self, mm_nL_I, mm_nL_R, mm_nL_0, Option.bind_some, Option.bind_none, bnd_ite, Option.toList_some, Option.toList_none, List.cons_append, List.nil_append, mm_cats_nil, mm_cats_I, mm_cats_L, mm_cats_R, if_true, if_false, true_and, and_true, false_and, and_false, not_true_eq_false, not_false_eq_true, Int.reduceLE, Int.reduceLT, Int.reduceEq, Int.reduceNe, Int.reduceNeg, Int.reduceAdd, Int.reduceSub, Int.reduceMul, Nat.reduceAdd, Nat.reduceLeDiff, true_or, or_true, false_or, or_false, reduceIte, k_16, k_17, k_22, l_22, hX'.2.1, hX'.2.2.2.2.2.1, A', w1, w2, g, k0, k5]
      have fx : ∀ (c' : MM) k v, fC c' (mset c' 22 k v) := fun c' k v => ⟨fun a ha => ms_row _ _ _ _ _ (by omega), fun j hj => by rw [ms_row _ _ _ _ _ (by omega)]⟩
      have f0 : fC c (mset c 16 12 1) := ⟨fun a ha => ms_row _ _ _ _ _ (by omega), fun j hj => ms_nk _ _ _ _ _ _ (by omega)⟩
      have p0 := hX.f f0
      have N : ev 44 0 [some (vR 16), some (vI (i + 5)), none] [] c (g_1 L) = some (none, mset (mset (mset (mset (mset (mset c 16 12 1) 22 0 (F (i + 5 + 0))) 22 1 (F (i + 5 + 1))) 22 2 (F (i + 5 + 2))) 22 3 (F (i + 5 + 3))) 22 4 (F (i + 5 + 4)), g_1 L) := by
        have st : ev 44 0 [some (vR 16), some (vI (i + 5)), none] [] c (g_1 L) = ev 44 7 [some (vR 16), some (vI (i + 5)), some (vI 0)] [] (mset c 16 12 1) (g_1 L) := by
          simp only [xe_44_0, xe_44_1, xe_44_2, xe_44_5, xe_44_6 _ (some (vI _)) _ _ _ _ _ rfl, xe_44_6 _ (some (vR _)) _ _ _ _ _ rfl, xe_44_6 _ none _ _ _ _ _ rfl, ite_self, mm_nL_I, mm_nL_R, mm_nL_0, Option.bind_some, Option.bind_none, bnd_ite, Option.toList_some, Option.toList_none, List.cons_append, List.nil_append, mm_cats_nil, mm_cats_I, mm_cats_L, mm_cats_R, if_true, if_false, true_and, and_true, false_and, and_false, not_true_eq_false, not_false_eq_true, Int.reduceLE, Int.reduceLT, Int.reduceEq, Int.reduceNe, Int.reduceNeg, Int.reduceAdd, Int.reduceSub, Int.reduceMul, Nat.reduceAdd, Nat.reduceLeDiff, true_or, or_true, false_or, or_false, reduceIte, k_16, mm_fits]
        rw [st, R1 0 _ 0 p0 (by omega) (by omega), show (0 : Int) + 1 = 1 from rfl]
        have p1 := p0.f (fx _ 0 (F (i + 5 + 0)))
        rw [R1 1 _ 0 p1 (by omega) (by omega), show (1 : Int) + 1 = 2 from rfl]
        have p2 := p1.f (fx _ 1 (F (i + 5 + 1)))
        rw [R1 2 _ 0 p2 (by omega) (by omega), show (2 : Int) + 1 = 3 from rfl]
        have p3 := p2.f (fx _ 2 (F (i + 5 + 2)))
        rw [R1 3 _ 0 p3 (by omega) (by omega), show (3 : Int) + 1 = 4 from rfl]
        have p4 := p3.f (fx _ 3 (F (i + 5 + 3)))
        rw [R1 4 _ 0 p4 (by omega) (by omega), show (4 : Int) + 1 = 5 from rfl]
        have p5 := p4.f (fx _ 4 (F (i + 5 + 4)))
        rw [xe_44_7]
        simp only [xe_44_8, xe_44_9, xe_44_12, xe_44_13, xe_44_16, xe_44_17, xe_44_20, xe_44_21, xe_44_22, xe_44_25, xe_44_26, xe_44_27, xe_44_28, xe_44_31, xe_44_32 _ (some (vI _)) _ _ _ _ rfl, xe_44_32 _ (some (vR _)) _ _ _ _ rfl, xe_44_32 _ none _ _ _ _ rfl, xe_44_35, xe_44_38, ite_self, mm_nL_I, mm_nL_R, mm_nL_0, Option.bind_some, Option.bind_none, bnd_ite, Option.toList_some, Option.toList_none, List.cons_append, List.nil_append, mm_cats_nil, mm_cats_I, mm_cats_L, mm_cats_R, if_true, if_false, true_and, and_true, false_and, and_false, not_true_eq_false, not_false_eq_true, Int.reduceLE, Int.reduceLT, Int.reduceEq, Int.reduceNe, Int.reduceNeg, Int.reduceAdd, Int.reduceSub, Int.reduceMul, Nat.reduceAdd, Nat.reduceLeDiff, true_or, or_true, false_or, or_false, reduceIte, k_16, k_22, l_22, p5.2.2.2.2.2.1]
      have S1 : ∀ (k : Int) (r' : MM), PM r' n F → 0 ≤ k → k < 4 → ev 164 125 [some (vR 149), some (vI i), some (vI k)] [] r' (g_1 L) = ev 164 125 [some (vR 149), some (vI i), some (vI (k + 1))] [] (mset r' 155 k (F (i + 5 + k))) (g_1 L) := fun k r' hM' k0 k5 => by
        have A' := pm_at (L := L) hM' (i + 5 + k) (by omega) (by omega)
        have g : ¬ 4 ≤ k := by omega
        have g5 : k < 5 := by omega
        have w1 : w32 (i + 5 + k) = i + 5 + k := wi32 (by omega) (by omega)
        have w2 : w32 (k + 1) = k + 1 := wi32 (by omega) (by omega)
        rw [xe_164_125]
        simp only [xe_164_126, xe_164_127, xe_164_130, xe_164_131, xe_164_134, xe_164_135, xe_164_136, xe_164_137, xe_164_138, xe_164_139, xe_164_140, xe_164_141, xe_164_144, xe_164_145 _ (some (vI _)) _ _ _ _ rfl, xe_164_145 _ (some (vR _)) _ _ _ _ rfl, xe_164_145 _ none _ _ _ _ rfl, xe_164_148, ite_self, mm_nL_I, mm_nL_R, mm_nL_0, Option.bind_some, Option.bind_none, bnd_ite, Option.toList_some, Option.toList_none, List.cons_append, List.nil_append, mm_cats_nil, mm_cats_I, mm_cats_L, mm_cats_R, if_true, if_false, true_and, and_true, false_and, and_false, not_true_eq_false, not_false_eq_true, Int.reduceLE, Int.reduceLT, Int.reduceEq, Int.reduceNe, Int.reduceNeg, Int.reduceAdd, Int.reduceSub, Int.reduceMul, Nat.reduceAdd, Nat.reduceLeDiff, true_or, or_true, false_or, or_false, reduceIte, k_149, k_155, l_155, hM'.2.2.2.1, A', w1, w2, w5, g, g5, k0]
      have gx : ∀ (r' : MM) k v, fR r' (mset r' 155 k v) := fun r' k v => ⟨fun a ha => ms_row _ _ _ _ _ (by omega), fun j hj => by rw [ms_row _ _ _ _ _ (by omega)]⟩
      have g0 : fR r (mset r 149 18 1) := ⟨fun a ha => ms_row _ _ _ _ _ (by omega), fun j hj => ms_nk _ _ _ _ _ _ (by omega)⟩
      have b9 := (hX.1.2.2.2 (i + 5 + 4) (by omega) (by omega)).2
      have e9 : i + 9 = i + 5 + 4 := by omega
      have M : ev 164 0 [some (vR 149), some (vI i), none] [] r (g_1 L) = some (none, mset (mset (mset (mset (mset (mset r 149 18 1) 155 0 (F (i + 5 + 0))) 155 1 (F (i + 5 + 1))) 155 2 (F (i + 5 + 2))) 155 3 (F (i + 5 + 3))) 155 4 (10000 * F (i + 5 + 4)), g_1 L) := by
        have st : ev 164 0 [some (vR 149), some (vI i), none] [] r (g_1 L) = ev 164 125 [some (vR 149), some (vI i), some (vI 0)] [] (mset r 149 18 1) (g_1 L) := by
          simp only [xe_164_0, xe_164_1, xe_164_2, xe_164_3, xe_164_4, xe_164_7, xe_164_10, xe_164_13, xe_164_14, xe_164_15, xe_164_18, xe_164_19 _ (some (vI _)) _ _ _ _ _ rfl, xe_164_19 _ (some (vR _)) _ _ _ _ _ rfl, xe_164_19 _ none _ _ _ _ _ rfl, xe_164_105, xe_164_106, xe_164_107, xe_164_108, xe_164_109, xe_164_112, xe_164_115, xe_164_118, xe_164_119, xe_164_120, xe_164_123, xe_164_124 _ (some (vI _)) _ _ _ _ _ rfl, xe_164_124 _ (some (vR _)) _ _ _ _ _ rfl, xe_164_124 _ none _ _ _ _ _ rfl, xe_164_169, ite_self, mm_nL_I, mm_nL_R, mm_nL_0, Option.bind_some, Option.bind_none, bnd_ite, Option.toList_some, Option.toList_none, List.cons_append, List.nil_append, mm_cats_nil, mm_cats_I, mm_cats_L, mm_cats_R, if_true, if_false, true_and, and_true, false_and, and_false, not_true_eq_false, not_false_eq_true, Int.reduceLE, Int.reduceLT, Int.reduceEq, Int.reduceNe, Int.reduceNeg, Int.reduceAdd, Int.reduceSub, Int.reduceMul, Nat.reduceAdd, Nat.reduceLeDiff, true_or, or_true, false_or, or_false, reduceIte, k_149, B, w3, s1, s2, mm_fits]
        have p0 := hM.f g0
        rw [st, S1 0 _ p0 (by omega) (by omega), show (0 : Int) + 1 = 1 from rfl]
        have p1 := p0.f (gx _ 0 (F (i + 5 + 0)))
        rw [S1 1 _ p1 (by omega) (by omega), show (1 : Int) + 1 = 2 from rfl]
        have p2 := p1.f (gx _ 1 (F (i + 5 + 1)))
        rw [S1 2 _ p2 (by omega) (by omega), show (2 : Int) + 1 = 3 from rfl]
        have p3 := p2.f (gx _ 2 (F (i + 5 + 2)))
        rw [S1 3 _ p3 (by omega) (by omega), show (3 : Int) + 1 = 4 from rfl]
        have p4 := p3.f (gx _ 3 (F (i + 5 + 3)))
        have A' := pm_at (L := L) p4 (i + 5 + 4) (by omega) (by omega)
        have w9 : w32 (i + 9) = i + 5 + 4 := by rw [wi32 (by omega) (by omega)]; omega
        have wm : w32 (10000 * F (i + 5 + 4)) = 10000 * F (i + 5 + 4) := wi32 (by omega) (by omega)
        rw [xe_164_125]
        simp only [xe_164_126, xe_164_127, xe_164_130, xe_164_131, xe_164_134, xe_164_135, xe_164_136, xe_164_137, xe_164_138, xe_164_139, xe_164_140, xe_164_141, xe_164_144, xe_164_145 _ (some (vI _)) _ _ _ _ rfl, xe_164_145 _ (some (vR _)) _ _ _ _ rfl, xe_164_145 _ none _ _ _ _ rfl, xe_164_148, xe_164_151, xe_164_152, xe_164_155, xe_164_156, xe_164_159, xe_164_160, xe_164_161, xe_164_163, xe_164_164, xe_164_167, xe_164_168, xe_164_169, ite_self, mm_nL_I, mm_nL_R, mm_nL_0, Option.bind_some, Option.bind_none, bnd_ite, Option.toList_some, Option.toList_none, List.cons_append, List.nil_append, mm_cats_nil, mm_cats_I, mm_cats_L, mm_cats_R, if_true, if_false, true_and, and_true, false_and, and_false, not_true_eq_false, not_false_eq_true, Int.reduceLE, Int.reduceLT, Int.reduceEq, Int.reduceNe, Int.reduceNeg, Int.reduceAdd, Int.reduceSub, Int.reduceMul, Nat.reduceAdd, Nat.reduceLeDiff, true_or, or_true, false_or, or_false, reduceIte, k_149, k_155, l_155, p4.2.2.2.1, A', w9, wm]
      have c16 : ∀ j, ¬ j = 12 → mset (mset (mset (mset (mset (mset c 16 12 1) 22 0 (F (i + 5 + 0))) 22 1 (F (i + 5 + 1))) 22 2 (F (i + 5 + 2))) 22 3 (F (i + 5 + 3))) 22 4 (F (i + 5 + 4)) 16 j = c 16 j := fun j hj => by
        rw [ms_row _ _ _ _ _ (by omega), ms_row _ _ _ _ _ (by omega), ms_row _ _ _ _ _ (by omega), ms_row _ _ _ _ _ (by omega), ms_row _ _ _ _ _ (by omega), ms_nk _ _ _ _ _ _ hj]
      have cb : ∀ b, ¬ b = 16 → ¬ b = 22 → mset (mset (mset (mset (mset (mset c 16 12 1) 22 0 (F (i + 5 + 0))) 22 1 (F (i + 5 + 1))) 22 2 (F (i + 5 + 2))) 22 3 (F (i + 5 + 3))) 22 4 (F (i + 5 + 4)) b = c b := fun b h1 h2 => by
        rw [ms_row _ _ _ _ _ h2, ms_row _ _ _ _ _ h2, ms_row _ _ _ _ _ h2, ms_row _ _ _ _ _ h2, ms_row _ _ _ _ _ h2, ms_row _ _ _ _ _ h1]
      have c12 : mset (mset (mset (mset (mset (mset c 16 12 1) 22 0 (F (i + 5 + 0))) 22 1 (F (i + 5 + 1))) 22 2 (F (i + 5 + 2))) 22 3 (F (i + 5 + 3))) 22 4 (F (i + 5 + 4)) 16 12 = 1 := by
        rw [ms_row _ _ _ _ _ (by omega), ms_row _ _ _ _ _ (by omega), ms_row _ _ _ _ _ (by omega), ms_row _ _ _ _ _ (by omega), ms_row _ _ _ _ _ (by omega), ms_eq]
      have c22 : ∀ k, 0 ≤ k → k < 5 → mset (mset (mset (mset (mset (mset c 16 12 1) 22 0 (F (i + 5 + 0))) 22 1 (F (i + 5 + 1))) 22 2 (F (i + 5 + 2))) 22 3 (F (i + 5 + 3))) 22 4 (F (i + 5 + 4)) 22 k = F (i + 5 + k) := fun k k0 k5 => by
        have q : k = 0 ∨ k = 1 ∨ k = 2 ∨ k = 3 ∨ k = 4 := by omega
        rcases q with rfl | rfl | rfl | rfl | rfl <;> simp [mset]
      have rk : ∀ j, ¬ j = 18 → mset (mset (mset (mset (mset (mset r 149 18 1) 155 0 (F (i + 5 + 0))) 155 1 (F (i + 5 + 1))) 155 2 (F (i + 5 + 2))) 155 3 (F (i + 5 + 3))) 155 4 (10000 * F (i + 5 + 4)) 149 j = r 149 j := fun j hj => by
        rw [ms_row _ _ _ _ _ (by omega), ms_row _ _ _ _ _ (by omega), ms_row _ _ _ _ _ (by omega), ms_row _ _ _ _ _ (by omega), ms_row _ _ _ _ _ (by omega), ms_nk _ _ _ _ _ _ hj]
      have r18 : mset (mset (mset (mset (mset (mset r 149 18 1) 155 0 (F (i + 5 + 0))) 155 1 (F (i + 5 + 1))) 155 2 (F (i + 5 + 2))) 155 3 (F (i + 5 + 3))) 155 4 (10000 * F (i + 5 + 4)) 149 18 = 1 := by
        rw [ms_row _ _ _ _ _ (by omega), ms_row _ _ _ _ _ (by omega), ms_row _ _ _ _ _ (by omega), ms_row _ _ _ _ _ (by omega), ms_row _ _ _ _ _ (by omega), ms_eq]
      have rb : ∀ b, ¬ b = 149 → ¬ b = 155 → mset (mset (mset (mset (mset (mset r 149 18 1) 155 0 (F (i + 5 + 0))) 155 1 (F (i + 5 + 1))) 155 2 (F (i + 5 + 2))) 155 3 (F (i + 5 + 3))) 155 4 (10000 * F (i + 5 + 4)) b = r b := fun b h1 h2 => by
        rw [ms_row _ _ _ _ _ h2, ms_row _ _ _ _ _ h2, ms_row _ _ _ _ _ h2, ms_row _ _ _ _ _ h2, ms_row _ _ _ _ _ h2, ms_row _ _ _ _ _ h1]
      have r22 : ∀ k, 0 ≤ k → k < 4 → mset (mset (mset (mset (mset (mset r 149 18 1) 155 0 (F (i + 5 + 0))) 155 1 (F (i + 5 + 1))) 155 2 (F (i + 5 + 2))) 155 3 (F (i + 5 + 3))) 155 4 (10000 * F (i + 5 + 4)) 155 k = F (i + 5 + k) := fun k k0 k5 => by
        have q : k = 0 ∨ k = 1 ∨ k = 2 ∨ k = 3 := by omega
        rcases q with rfl | rfl | rfl | rfl <;> simp [mset]
      have r4 : mset (mset (mset (mset (mset (mset r 149 18 1) 155 0 (F (i + 5 + 0))) 155 1 (F (i + 5 + 1))) 155 2 (F (i + 5 + 2))) 155 3 (F (i + 5 + 3))) 155 4 (10000 * F (i + 5 + 4)) 155 4 = 10000 * F (i + 5 + 4) := ms_eq _ _ _ _
      refine ⟨_, _, ?_, M, ⟨q1.ke (c16 _ (by omega)) (fun a ha => cb a (by omega) (by omega)) (rk _ (by omega)) (rb _ (by omega) (by omega)), q2.ke (c16 _ (by omega)) (cb _ (by omega) (by omega)) (rk _ (by omega)) (rb _ (by omega) (by omega)), ⟨by rw [c12, r18], Or.inr c12, fun _ => ⟨fun k k0 k5 => ?_, fun k k0 k4 => ?_, ?_⟩⟩, q4.ke (c16 _ (by omega)) (cb _ (by omega) (by omega)) (rk _ (by omega)) (rb _ (by omega) (by omega)), q5.ke (c16 _ (by omega)) (rk _ (by omega)), q6.ke (c16 _ (by omega)) (rk _ (by omega))⟩, ⟨fun a ha => cb a (by omega) (by omega), fun j hj => c16 j (by omega)⟩, ⟨fun a ha => rb a (by omega) (by omega), fun j hj => rk j (by omega)⟩, fun k h1 h2 => c16 k h2⟩
      · simp only [xe_43_0, xe_43_1, xe_43_2, xe_43_5, xe_43_8, xe_43_9, xe_43_10, xe_43_13, xe_43_16, xe_43_17, xe_43_20, xe_43_21, xe_43_22, xe_43_23, xe_43_26, xe_43_29, xe_43_32, xe_43_33, xe_43_34, xe_43_35, xe_43_36, xe_43_39, xe_43_42, xe_43_43, xe_43_46, xe_43_47, xe_43_48, xe_43_49, xe_43_52, xe_43_55, xe_43_58, xe_43_59, xe_43_60, xe_43_61, xe_43_62, xe_43_65, ite_self, mm_nL_I, mm_nL_R, mm_nL_0, Option.bind_some, Option.bind_none, bnd_ite, Option.toList_some, Option.toList_none, List.cons_append, List.nil_append, mm_cats_nil, mm_cats_I, mm_cats_L, mm_cats_R, if_true, if_false, true_and, and_true, false_and, and_false, not_true_eq_false, not_false_eq_true, Int.reduceLE, Int.reduceLT, Int.reduceEq, Int.reduceNe, Int.reduceNeg, Int.reduceAdd, Int.reduceSub, Int.reduceMul, Nat.reduceAdd, Nat.reduceLeDiff, true_or, or_true, false_or, or_false, reduceIte, k_16, k_17, hX.2.1, H, A, N, w3, w5, s1, s2]
      · rw [c22 k k0 k5]; exact (hX.1.2.2.2 (i + 5 + k) (by omega) (by omega)).2
      · rw [c22 k k0 (by omega), r22 k k0 k4]
      · rw [c22 4 (by omega) (by omega), r4]
    · refine ⟨c, r, ?_, ?_, ⟨q1, q2, q3, q4, q5, q6⟩, fC.rf c, fR.rf r, fun _ _ _ => rfl⟩
      · simp only [xe_43_0, xe_43_1, xe_43_2, xe_43_5, xe_43_8, xe_43_9, xe_43_10, xe_43_13, xe_43_16, xe_43_17, xe_43_20, xe_43_21, xe_43_22, xe_43_23, xe_43_26, xe_43_29, xe_43_32, xe_43_33, xe_43_34, xe_43_35, xe_43_36, xe_43_39, xe_43_42, xe_43_43, xe_43_46, xe_43_47, xe_43_48, xe_43_49, xe_43_52, xe_43_55, xe_43_58, xe_43_59, xe_43_60, xe_43_61, xe_43_62, xe_43_65, ite_self, mm_nL_I, mm_nL_R, mm_nL_0, Option.bind_some, Option.bind_none, bnd_ite, Option.toList_some, Option.toList_none, List.cons_append, List.nil_append, mm_cats_nil, mm_cats_I, mm_cats_L, mm_cats_R, if_true, if_false, true_and, and_true, false_and, and_false, not_true_eq_false, not_false_eq_true, Int.reduceLE, Int.reduceLT, Int.reduceEq, Int.reduceNe, Int.reduceNeg, Int.reduceAdd, Int.reduceSub, Int.reduceMul, Nat.reduceAdd, Nat.reduceLeDiff, true_or, or_true, false_or, or_false, reduceIte, k_16, k_17, hX.2.1, H, A, w3, s1, s2]
      · simp only [xe_164_0, xe_164_1, xe_164_2, xe_164_3, xe_164_4, xe_164_7, xe_164_10, xe_164_13, xe_164_14, xe_164_15, xe_164_18, xe_164_19 _ (some (vI _)) _ _ _ _ _ rfl, xe_164_19 _ (some (vR _)) _ _ _ _ _ rfl, xe_164_19 _ none _ _ _ _ _ rfl, xe_164_105, xe_164_106, xe_164_107, xe_164_108, xe_164_109, xe_164_112, xe_164_115, xe_164_118, xe_164_119, xe_164_120, xe_164_123, xe_164_124 _ (some (vI _)) _ _ _ _ _ rfl, xe_164_124 _ (some (vR _)) _ _ _ _ _ rfl, xe_164_124 _ none _ _ _ _ _ rfl, xe_164_169, ite_self, mm_nL_I, mm_nL_R, mm_nL_0, Option.bind_some, Option.bind_none, bnd_ite, Option.toList_some, Option.toList_none, List.cons_append, List.nil_append, mm_cats_nil, mm_cats_I, mm_cats_L, mm_cats_R, if_true, if_false, true_and, and_true, false_and, and_false, not_true_eq_false, not_false_eq_true, Int.reduceLE, Int.reduceLT, Int.reduceEq, Int.reduceNe, Int.reduceNeg, Int.reduceAdd, Int.reduceSub, Int.reduceMul, Nat.reduceAdd, Nat.reduceLeDiff, true_or, or_true, false_or, or_false, reduceIte, k_149, B, w3, s1, s2]
end RT
