/-! load: the whole of collect beside reads -/
section S6
variable {L n : Int} {F : Int → Int}
theorem lp_dt (n1 : 128 ≤ n) (ff' : Int) (hff : ff' = if hcl F 54 = true then 1 else 0) : ∀ (m : Nat) (i K : Int) (c r : MM) (s : Nat) (y2 y3 y4 v4 : Option MV), 0 ≤ i → i + m = c 16 6 → K + m ≤ 5000 → CX n F K c r s →
    ∃ c' r' s' v4', ev 34 22 [some (vR 45), some (vR 16), some (vI ff'), some (vI i), v4] [] c (g_1 L) = ev 34 90 [some (vR 45), some (vR 16), some (vI ff'), some (vI 0), v4'] [] c' (g_1 L) ∧ ev 176 32 [some (vR 149), some (vI i), y2, y3, y4] [] r (g_1 L) = ev 176 53 [some (vR 149), some (vI 0), y2, y3, y4] [] r' (g_1 L) ∧ CX n F (K + m) c' r' s' ∧ gC c c' ∧ gR r r' := by
  intro m
  induction m with
  | zero =>
    intro i K c r s y2 y3 y4 v4 i0 im k5 h
    have e : c 16 6 ≤ i := by omega
    have e' : r 149 13 ≤ i := by rw [← h.2.2.2.2.1.1.1]; exact e
    refine ⟨c, r, s, v4, ?_, ?_, by rw [show K + ((0 : Nat) : Int) = K by omega]; exact h, gC.rf c, gR.rf r⟩
    · simp only [xe_34_22, xe_34_23, xe_34_24, xe_34_27, xe_34_30, xe_34_31, xe_34_32, xe_34_35 _ _ _ (some (vI _)) _ _ _ _ _ rfl, xe_34_35 _ _ _ (some (vR _)) _ _ _ _ _ rfl, xe_34_35 _ _ _ none _ _ _ _ _ rfl, xe_34_37, xe_34_39, xe_34_42, xe_34_43, xe_34_46, xe_34_48, xe_34_51, xe_34_52, xe_34_53, xe_34_54, xe_34_55, xe_34_58, xe_34_61, xe_34_62, xe_34_65, xe_34_66, xe_34_67, xe_34_70, xe_34_71, xe_34_74, xe_34_75, xe_34_78, xe_34_79, xe_34_82 _ _ (some (vI _)) _ _ _ _ _ rfl, xe_34_82 _ _ (some (vR _)) _ _ _ _ _ rfl, xe_34_82 _ _ none _ _ _ _ _ rfl, xe_34_85, xe_34_88, xe_34_89 _ _ (some (vI _)) _ _ _ _ _ _ rfl, xe_34_89 _ _ (some (vR _)) _ _ _ _ _ _ rfl, xe_34_89 _ _ none _ _ _ _ _ _ rfl, ite_self, mm_nL_I, mm_nL_R, mm_nL_0, Option.bind_some, Option.bind_none, bnd_ite, Option.toList_some, Option.toList_none, List.cons_append, List.nil_append, mm_cats_nil, mm_cats_I, mm_cats_L, mm_cats_R, if_true, if_false, true_and, and_true, false_and, and_false, not_true_eq_false, not_false_eq_true, Int.reduceLE, Int.reduceLT, Int.reduceEq, Int.reduceNe, Int.reduceNeg, Int.reduceAdd, Int.reduceSub, Int.reduceMul, Nat.reduceAdd, Nat.reduceLeDiff, true_or, or_true, false_or, or_false, reduceIte, k_16, e]
    · simp only [xe_176_32, xe_176_33, xe_176_34, xe_176_37, xe_176_40, xe_176_41, xe_176_42, xe_176_45 (some (vI _)) _ _ _ _ _ _ _ rfl, xe_176_45 (some (vR _)) _ _ _ _ _ _ _ rfl, xe_176_45 none _ _ _ _ _ _ _ rfl, xe_176_48, xe_176_51, xe_176_52 (some (vI _)) _ _ _ _ _ _ _ _ rfl, xe_176_52 (some (vR _)) _ _ _ _ _ _ _ _ rfl, xe_176_52 none _ _ _ _ _ _ _ _ rfl, ite_self, mm_nL_I, mm_nL_R, mm_nL_0, Option.bind_some, Option.bind_none, bnd_ite, Option.toList_some, Option.toList_none, List.cons_append, List.nil_append, mm_cats_nil, mm_cats_I, mm_cats_L, mm_cats_R, if_true, if_false, true_and, and_true, false_and, and_false, not_true_eq_false, not_false_eq_true, Int.reduceLE, Int.reduceLT, Int.reduceEq, Int.reduceNe, Int.reduceNeg, Int.reduceAdd, Int.reduceSub, Int.reduceMul, Nat.reduceAdd, Nat.reduceLeDiff, true_or, or_true, false_or, or_false, reduceIte, k_149, e']
  | succ m ih =>
    intro i K c r s y2 y3 y4 v4 i0 im k5 h
    have q1 := h.2.2.2.2.1.1.1
    have l6 := h.2.2.2.2.2.2.1
    obtain ⟨c1, c', r', s', u1, u2, u3, u4, u5, u6, u7, u8⟩ := st_dt (L := L) h.1 h.2.1 h.2.2.2.1 n1 h.2.2.2.2.2.2.2 h.2.2.2.2.1.1 h.2.2.2.2.1.2.2.1 h.2.2.2.2.1.2.2.2.2.2 (by omega) i i0 (by omega) l6.1 l6.2.2 ff' hff
    obtain ⟨d, e, s1, v4', w1, w2, w3, w4, w5⟩ := ih (i + 1) (K + 1) c' r' s' y2 y3 y4 (some (vR (23 + i))) (by omega) (by rw [u7.1 16 (by omega)]; omega) (by omega) (h.g u7 u8 u6)
    have a1 : ¬ c 16 6 ≤ i := by omega
    have a2 : ¬ r 149 13 ≤ i := by omega
    have a6 : w32 (i + 1) = i + 1 := wi32 (by omega) (by omega)
    have D := s_detAt L i c h.1 l6.1
    rw [if_pos (by omega)] at D
    have nz : ¬ 23 + i = 0 := by omega
    have n7 : ¬ 23 + i = 7 := by omega
    have x2 := sx_45_2 h.1
    refine ⟨d, e, s1, v4', ?_, ?_, by rw [show K + ((m + 1 : Nat) : Int) = K + 1 + (m : Int) by omega]; exact w3, u7.tr w4, u8.tr w5⟩
    · rw [← w1, xe_34_22]
      by_cases b : i < c 16 7
      · have b' : ¬ c 16 7 ≤ i := by omega
        rw [if_pos b] at u4
        by_cases z : i = 0
        · by_cases t : hcl F 54 = true
          · rw [if_pos ⟨z, t⟩] at u4
            rw [if_pos t] at hff
            have f0 : ¬ ff' = 0 := by omega
            simp only [xe_34_23, xe_34_24, xe_34_27, xe_34_30, xe_34_31, xe_34_32, xe_34_35 _ _ _ (some (vI _)) _ _ _ _ _ rfl, xe_34_35 _ _ _ (some (vR _)) _ _ _ _ _ rfl, xe_34_35 _ _ _ none _ _ _ _ _ rfl, xe_34_37, xe_34_39, xe_34_42, xe_34_43, xe_34_46, xe_34_48, xe_34_51, xe_34_52, xe_34_53, xe_34_54, xe_34_55, xe_34_58, xe_34_61, xe_34_62, xe_34_65, xe_34_66, xe_34_67, xe_34_70, xe_34_71, xe_34_74, xe_34_75, xe_34_78, xe_34_79, xe_34_82 _ _ (some (vI _)) _ _ _ _ _ rfl, xe_34_82 _ _ (some (vR _)) _ _ _ _ _ rfl, xe_34_82 _ _ none _ _ _ _ _ rfl, xe_34_85, xe_34_88, xe_34_89 _ _ (some (vI _)) _ _ _ _ _ _ rfl, xe_34_89 _ _ (some (vR _)) _ _ _ _ _ _ rfl, xe_34_89 _ _ none _ _ _ _ _ _ rfl, ite_self, mm_nL_I, mm_nL_R, mm_nL_0, Option.bind_some, Option.bind_none, bnd_ite, Option.toList_some, Option.toList_none, List.cons_append, List.nil_append, mm_cats_nil, mm_cats_I, mm_cats_L, mm_cats_R, if_true, if_false, true_and, and_true, false_and, and_false, not_true_eq_false, not_false_eq_true, Int.reduceLE, Int.reduceLT, Int.reduceEq, Int.reduceNe, Int.reduceNeg, Int.reduceAdd, Int.reduceSub, Int.reduceMul, Nat.reduceAdd, Nat.reduceLeDiff, true_or, or_true, false_or, or_false, reduceIte, k_45, k_16, k_48, a1, a6, D, nz, n7, x2, u1, u2, b', eq_true z, f0, u4]
          · rw [if_neg (fun q => t q.2)] at u4
            rw [if_neg t] at hff
            simp only [xe_34_23, xe_34_24, xe_34_27, xe_34_30, xe_34_31, xe_34_32, xe_34_35 _ _ _ (some (vI _)) _ _ _ _ _ rfl, xe_34_35 _ _ _ (some (vR _)) _ _ _ _ _ rfl, xe_34_35 _ _ _ none _ _ _ _ _ rfl, xe_34_37, xe_34_39, xe_34_42, xe_34_43, xe_34_46, xe_34_48, xe_34_51, xe_34_52, xe_34_53, xe_34_54, xe_34_55, xe_34_58, xe_34_61, xe_34_62, xe_34_65, xe_34_66, xe_34_67, xe_34_70, xe_34_71, xe_34_74, xe_34_75, xe_34_78, xe_34_79, xe_34_82 _ _ (some (vI _)) _ _ _ _ _ rfl, xe_34_82 _ _ (some (vR _)) _ _ _ _ _ rfl, xe_34_82 _ _ none _ _ _ _ _ rfl, xe_34_85, xe_34_88, xe_34_89 _ _ (some (vI _)) _ _ _ _ _ _ rfl, xe_34_89 _ _ (some (vR _)) _ _ _ _ _ _ rfl, xe_34_89 _ _ none _ _ _ _ _ _ rfl, ite_self, mm_nL_I, mm_nL_R, mm_nL_0, Option.bind_some, Option.bind_none, bnd_ite, Option.toList_some, Option.toList_none, List.cons_append, List.nil_append, mm_cats_nil, mm_cats_I, mm_cats_L, mm_cats_R, if_true, if_false, true_and, and_true, false_and, and_false, not_true_eq_false, not_false_eq_true, Int.reduceLE, Int.reduceLT, Int.reduceEq, Int.reduceNe, Int.reduceNeg, Int.reduceAdd, Int.reduceSub, Int.reduceMul, Nat.reduceAdd, Nat.reduceLeDiff, true_or, or_true, false_or, or_false, reduceIte, k_45, k_16, k_48, a1, a6, D, nz, n7, x2, u1, u2, b', eq_true z, eq_true hff, u4]
        · rw [if_neg (fun q => z q.1)] at u4
          simp only [xe_34_23, xe_34_24, xe_34_27, xe_34_30, xe_34_31, xe_34_32, xe_34_35 _ _ _ (some (vI _)) _ _ _ _ _ rfl, xe_34_35 _ _ _ (some (vR _)) _ _ _ _ _ rfl, xe_34_35 _ _ _ none _ _ _ _ _ rfl, xe_34_37, xe_34_39, xe_34_42, xe_34_43, xe_34_46, xe_34_48, xe_34_51, xe_34_52, xe_34_53, xe_34_54, xe_34_55, xe_34_58, xe_34_61, xe_34_62, xe_34_65, xe_34_66, xe_34_67, xe_34_70, xe_34_71, xe_34_74, xe_34_75, xe_34_78, xe_34_79, xe_34_82 _ _ (some (vI _)) _ _ _ _ _ rfl, xe_34_82 _ _ (some (vR _)) _ _ _ _ _ rfl, xe_34_82 _ _ none _ _ _ _ _ rfl, xe_34_85, xe_34_88, xe_34_89 _ _ (some (vI _)) _ _ _ _ _ _ rfl, xe_34_89 _ _ (some (vR _)) _ _ _ _ _ _ rfl, xe_34_89 _ _ none _ _ _ _ _ _ rfl, ite_self, mm_nL_I, mm_nL_R, mm_nL_0, Option.bind_some, Option.bind_none, bnd_ite, Option.toList_some, Option.toList_none, List.cons_append, List.nil_append, mm_cats_nil, mm_cats_I, mm_cats_L, mm_cats_R, if_true, if_false, true_and, and_true, false_and, and_false, not_true_eq_false, not_false_eq_true, Int.reduceLE, Int.reduceLT, Int.reduceEq, Int.reduceNe, Int.reduceNeg, Int.reduceAdd, Int.reduceSub, Int.reduceMul, Nat.reduceAdd, Nat.reduceLeDiff, true_or, or_true, false_or, or_false, reduceIte, k_45, k_16, k_48, a1, a6, D, nz, n7, x2, u1, u2, b', z, u4]
      · have b' : c 16 7 ≤ i := by omega
        rw [if_neg b] at u4
        by_cases z : i = 0
        · by_cases t : hcl F 54 = true
          · rw [if_pos ⟨z, t⟩] at u4
            rw [if_pos t] at hff
            have f0 : ¬ ff' = 0 := by omega
            simp only [xe_34_23, xe_34_24, xe_34_27, xe_34_30, xe_34_31, xe_34_32, xe_34_35 _ _ _ (some (vI _)) _ _ _ _ _ rfl, xe_34_35 _ _ _ (some (vR _)) _ _ _ _ _ rfl, xe_34_35 _ _ _ none _ _ _ _ _ rfl, xe_34_37, xe_34_39, xe_34_42, xe_34_43, xe_34_46, xe_34_48, xe_34_51, xe_34_52, xe_34_53, xe_34_54, xe_34_55, xe_34_58, xe_34_61, xe_34_62, xe_34_65, xe_34_66, xe_34_67, xe_34_70, xe_34_71, xe_34_74, xe_34_75, xe_34_78, xe_34_79, xe_34_82 _ _ (some (vI _)) _ _ _ _ _ rfl, xe_34_82 _ _ (some (vR _)) _ _ _ _ _ rfl, xe_34_82 _ _ none _ _ _ _ _ rfl, xe_34_85, xe_34_88, xe_34_89 _ _ (some (vI _)) _ _ _ _ _ _ rfl, xe_34_89 _ _ (some (vR _)) _ _ _ _ _ _ rfl, xe_34_89 _ _ none _ _ _ _ _ _ rfl, ite_self, mm_nL_I, mm_nL_R, mm_nL_0, Option.bind_some, Option.bind_none, bnd_ite, Option.toList_some, Option.toList_none, List.cons_append, List.nil_append, mm_cats_nil, mm_cats_I, mm_cats_L, mm_cats_R, if_true, if_false, true_and, and_true, false_and, and_false, not_true_eq_false, not_false_eq_true, Int.reduceLE, Int.reduceLT, Int.reduceEq, Int.reduceNe, Int.reduceNeg, Int.reduceAdd, Int.reduceSub, Int.reduceMul, Nat.reduceAdd, Nat.reduceLeDiff, true_or, or_true, false_or, or_false, reduceIte, k_45, k_16, k_48, a1, a6, D, nz, n7, x2, u1, u2, b', eq_true z, f0, u4]
          · rw [if_neg (fun q => t q.2)] at u4
            rw [if_neg t] at hff
            simp only [xe_34_23, xe_34_24, xe_34_27, xe_34_30, xe_34_31, xe_34_32, xe_34_35 _ _ _ (some (vI _)) _ _ _ _ _ rfl, xe_34_35 _ _ _ (some (vR _)) _ _ _ _ _ rfl, xe_34_35 _ _ _ none _ _ _ _ _ rfl, xe_34_37, xe_34_39, xe_34_42, xe_34_43, xe_34_46, xe_34_48, xe_34_51, xe_34_52, xe_34_53, xe_34_54, xe_34_55, xe_34_58, xe_34_61, xe_34_62, xe_34_65, xe_34_66, xe_34_67, xe_34_70, xe_34_71, xe_34_74, xe_34_75, xe_34_78, xe_34_79, xe_34_82 _ _ (some (vI _)) _ _ _ _ _ rfl, xe_34_82 _ _ (some (vR _)) _ _ _ _ _ rfl, xe_34_82 _ _ none _ _ _ _ _ rfl, xe_34_85, xe_34_88, xe_34_89 _ _ (some (vI _)) _ _ _ _ _ _ rfl, xe_34_89 _ _ (some (vR _)) _ _ _ _ _ _ rfl, xe_34_89 _ _ none _ _ _ _ _ _ rfl, ite_self, mm_nL_I, mm_nL_R, mm_nL_0, Option.bind_some, Option.bind_none, bnd_ite, Option.toList_some, Option.toList_none, List.cons_append, List.nil_append, mm_cats_nil, mm_cats_I, mm_cats_L, mm_cats_R, if_true, if_false, true_and, and_true, false_and, and_false, not_true_eq_false, not_false_eq_true, Int.reduceLE, Int.reduceLT, Int.reduceEq, Int.reduceNe, Int.reduceNeg, Int.reduceAdd, Int.reduceSub, Int.reduceMul, Nat.reduceAdd, Nat.reduceLeDiff, true_or, or_true, false_or, or_false, reduceIte, k_45, k_16, k_48, a1, a6, D, nz, n7, x2, u1, u2, b', eq_true z, eq_true hff, u4]
        · rw [if_neg (fun q => z q.1)] at u4
          simp only [xe_34_23, xe_34_24, xe_34_27, xe_34_30, xe_34_31, xe_34_32, xe_34_35 _ _ _ (some (vI _)) _ _ _ _ _ rfl, xe_34_35 _ _ _ (some (vR _)) _ _ _ _ _ rfl, xe_34_35 _ _ _ none _ _ _ _ _ rfl, xe_34_37, xe_34_39, xe_34_42, xe_34_43, xe_34_46, xe_34_48, xe_34_51, xe_34_52, xe_34_53, xe_34_54, xe_34_55, xe_34_58, xe_34_61, xe_34_62, xe_34_65, xe_34_66, xe_34_67, xe_34_70, xe_34_71, xe_34_74, xe_34_75, xe_34_78, xe_34_79, xe_34_82 _ _ (some (vI _)) _ _ _ _ _ rfl, xe_34_82 _ _ (some (vR _)) _ _ _ _ _ rfl, xe_34_82 _ _ none _ _ _ _ _ rfl, xe_34_85, xe_34_88, xe_34_89 _ _ (some (vI _)) _ _ _ _ _ _ rfl, xe_34_89 _ _ (some (vR _)) _ _ _ _ _ _ rfl, xe_34_89 _ _ none _ _ _ _ _ _ rfl, ite_self, mm_nL_I, mm_nL_R, mm_nL_0, Option.bind_some, Option.bind_none, bnd_ite, Option.toList_some, Option.toList_none, List.cons_append, List.nil_append, mm_cats_nil, mm_cats_I, mm_cats_L, mm_cats_R, if_true, if_false, true_and, and_true, false_and, and_false, not_true_eq_false, not_false_eq_true, Int.reduceLE, Int.reduceLT, Int.reduceEq, Int.reduceNe, Int.reduceNeg, Int.reduceAdd, Int.reduceSub, Int.reduceMul, Nat.reduceAdd, Nat.reduceLeDiff, true_or, or_true, false_or, or_false, reduceIte, k_45, k_16, k_48, a1, a6, D, nz, n7, x2, u1, u2, b', z, u4]
    · rw [← w2, xe_176_32]
      simp only [xe_176_33, xe_176_34, xe_176_37, xe_176_40, xe_176_41, xe_176_42, xe_176_45 (some (vI _)) _ _ _ _ _ _ _ rfl, xe_176_45 (some (vR _)) _ _ _ _ _ _ _ rfl, xe_176_45 none _ _ _ _ _ _ _ rfl, xe_176_48, xe_176_51, xe_176_52 (some (vI _)) _ _ _ _ _ _ _ _ rfl, xe_176_52 (some (vR _)) _ _ _ _ _ _ _ _ rfl, xe_176_52 none _ _ _ _ _ _ _ _ rfl, ite_self, mm_nL_I, mm_nL_R, mm_nL_0, Option.bind_some, Option.bind_none, bnd_ite, Option.toList_some, Option.toList_none, List.cons_append, List.nil_append, mm_cats_nil, mm_cats_I, mm_cats_L, mm_cats_R, if_true, if_false, true_and, and_true, false_and, and_false, not_true_eq_false, not_false_eq_true, Int.reduceLE, Int.reduceLT, Int.reduceEq, Int.reduceNe, Int.reduceNeg, Int.reduceAdd, Int.reduceSub, Int.reduceMul, Nat.reduceAdd, Nat.reduceLeDiff, true_or, or_true, false_or, or_false, reduceIte, k_149, a2, a6, u5]
/-- the reference's order -/
theorem lp_or (q : Int → Int) (s : Nat) (s40 : (s : Int) ≤ 40) (hb : ∀ i, 0 ≤ i → i < (s : Int) → mrb q i) : ∀ (m i : Nat) (r : MM) (y2 y3 y4 : Option MV), i + m = s → r 149 20 = 157 → r 149 21 = 158 → r 149 23 = s → r 157 = q → (∀ j, 0 ≤ j → j < (i : Int) → r 158 j = sor q i j) →
    ∃ r', ev 176 288 [some (vR 149), some (vI (i : Int)), y2, y3, y4] [] r (g_1 L) = some (none, r', g_1 L) ∧ (∀ b, ¬ b = 158 → r' b = r b) ∧ ∀ j, 0 ≤ j → j < (s : Int) → r' 158 j = sor q s j := by
  intro m
  induction m with
  | zero =>
    intro i r y2 y3 y4 im p20 p21 p23 hq ho
    have e : i = s := by omega
    subst e
    refine ⟨r, ?_, fun _ _ => rfl, ho⟩
    have a : r 149 23 ≤ (i : Int) := by omega
    simp only [xe_176_288, xe_176_289, xe_176_290, xe_176_293, xe_176_296, xe_176_297 _ (some (vI _)) _ _ _ _ _ _ _ rfl, xe_176_297 _ (some (vR _)) _ _ _ _ _ _ _ rfl, xe_176_297 _ none _ _ _ _ _ _ _ rfl, xe_176_351, ite_self, mm_nL_I, mm_nL_R, mm_nL_0, Option.bind_some, Option.bind_none, bnd_ite, Option.toList_some, Option.toList_none, List.cons_append, List.nil_append, mm_cats_nil, mm_cats_I, mm_cats_L, mm_cats_R, if_true, if_false, true_and, and_true, false_and, and_false, not_true_eq_false, not_false_eq_true, Int.reduceLE, Int.reduceLT, Int.reduceEq, Int.reduceNe, Int.reduceNeg, Int.reduceAdd, Int.reduceSub, Int.reduceMul, Nat.reduceAdd, Nat.reduceLeDiff, true_or, or_true, false_or, or_false, reduceIte, k_149, a]
  | succ m ih =>
    intro i r y2 y3 y4 im p20 p21 p23 hq ho
    have I := in_M L (i : Int) r q (sor q i) p20 p21 hq (by omega) (by omega) (fun j j0 j1 => hb j j0 (by omega)) (fun j j0 j1 => ⟨ho j j0 j1, sor_r q i j j0 j1⟩) y3 y4 i (by omega)
    have p := pl_ok q (sor q i) (i : Int) i
    have l0 : liR r (i : Int) (i : Int) = r := by
      funext a j; unfold liR; rw [if_neg (by omega)]
    rw [l0] at I
    have so : sor q (i + 1) = insO (sor q i) (i : Int) (pl q (sor q i) (i : Int) i) := rfl
    generalize pl q (sor q i) (i : Int) i = P at *
    have R9 : mset (liR r (i : Int) P) 158 P (i : Int) 149 = r 149 := by rw [ms_row _ _ _ _ _ (by omega), liR_b _ _ _ _ (by omega)]
    have L9 : liR r (i : Int) P 149 = r 149 := liR_b _ _ _ _ (by omega)
    obtain ⟨r', w1, w2, w3⟩ := ih (i + 1) (mset (liR r (i : Int) P) 158 P (i : Int)) (some (vI P)) y3 y4 (by omega) (by rw [R9]; exact p20) (by rw [R9]; exact p21) (by rw [R9]; exact p23) (by rw [ms_row _ _ _ _ _ (by omega), liR_b _ _ _ _ (by omega)]; exact hq) (fun j j0 j1 => by
      rw [so, ms_sa]
      unfold insO
      by_cases e : j = P
      · rw [if_pos e, if_neg (by omega), if_pos e]
      · rw [if_neg e]
        unfold liR
        by_cases lt : j < P
        · rw [if_pos lt, if_neg (by omega)]; exact ho j j0 (by omega)
        · rw [if_neg lt, if_neg e, if_pos (by omega), if_pos (by omega)]; exact ho (j - 1) (by omega) (by omega))
    refine ⟨r', ?_, fun b hb' => by rw [w2 b hb', ms_row _ _ _ _ _ hb', liR_b _ _ _ _ hb'], w3⟩
    have a : ¬ r 149 23 ≤ (i : Int) := by omega
    have w : w32 ((i : Int) + 1) = (i : Int) + 1 := wi32 (by omega) (by omega)
    have b1 : 0 ≤ P ∧ P < 40 := by omega
    rw [show (((i + 1 : Nat) : Int)) = (i : Int) + 1 by omega] at w1
    rw [← w1, xe_176_288]
    simp only [xe_176_289, xe_176_290, xe_176_293, xe_176_296, xe_176_297 _ (some (vI _)) _ _ _ _ _ _ _ rfl, xe_176_297 _ (some (vR _)) _ _ _ _ _ _ _ rfl, xe_176_297 _ none _ _ _ _ _ _ _ rfl, xe_176_351, ite_self, mm_nL_I, mm_nL_R, mm_nL_0, Option.bind_some, Option.bind_none, bnd_ite, Option.toList_some, Option.toList_none, List.cons_append, List.nil_append, mm_cats_nil, mm_cats_I, mm_cats_L, mm_cats_R, if_true, if_false, true_and, and_true, false_and, and_false, not_true_eq_false, not_false_eq_true, Int.reduceLE, Int.reduceLT, Int.reduceEq, Int.reduceNe, Int.reduceNeg, Int.reduceAdd, Int.reduceSub, Int.reduceMul, Nat.reduceAdd, Nat.reduceLeDiff, true_or, or_true, false_or, or_false, reduceIte, k_149, a]
    rw [I]
    simp only [xe_176_338, xe_176_339, xe_176_342, xe_176_343, xe_176_344, xe_176_345 (some (vI _)) _ _ _ _ _ _ _ rfl, xe_176_345 (some (vR _)) _ _ _ _ _ _ _ rfl, xe_176_345 none _ _ _ _ _ _ _ rfl, xe_176_348, ite_self, mm_nL_I, mm_nL_R, mm_nL_0, Option.bind_some, Option.bind_none, bnd_ite, Option.toList_some, Option.toList_none, List.cons_append, List.nil_append, mm_cats_nil, mm_cats_I, mm_cats_L, mm_cats_R, if_true, if_false, true_and, and_true, false_and, and_false, not_true_eq_false, not_false_eq_true, Int.reduceLE, Int.reduceLT, Int.reduceEq, Int.reduceNe, Int.reduceNeg, Int.reduceAdd, Int.reduceSub, Int.reduceMul, Nat.reduceAdd, Nat.reduceLeDiff, true_or, or_true, false_or, or_false, reduceIte, k_149, k_158, l_158, L9, p21, b1, w]
end S6
