/-! feed and shown -/
theorem bwf_ok (ck : Int → Int) (sp d : Int) : ∀ (n : Nat) (i : Int), bwf ck sp d i n = (-1, -1) ∨ (i ≤ (bwf ck sp d i n).1 ∧ (bwf ck sp d i n).1 < i + n ∧ 6 ≤ (bwf ck sp d i n).2 ∧ (bwf ck sp d i n).2 ≤ d)
  | 0, i => Or.inl rfl
  | n + 1, i => by
    simp only [bwf]
    split
    · rcases bwf_ok ck sp d n (i + 1) with h | h
      · exact Or.inl h
      · right; omega
    · rename_i h
      right
      have := dwf_ok (ck i) sp 4 d
      show i ≤ i ∧ i < i + ((n + 1 : Nat) : Int) ∧ 6 ≤ dwf (ck i) sp d 4 ∧ dwf (ck i) sp d 4 ≤ d
      omega
section CF
variable {L : Int} {c r : MM}
theorem c_shown (w : Int) (h : RR c r) : CALL L 136 [some (vR 10), some (vI w)] 232 [some (vR 149), some (vI w), none] c r := by
  have hX := h.1
  have hM := h.2.1
  have hR := h.2.2.2.2.2.2.1
  have hW := h.2.2.2.2.2.2.2.1
  have hT := h.2.2.2.2.2.2.2.2.2.2.1
  have x9 := sx_10_9 hX
  have n : ∀ j, ¬ j = 0 → mset r 149 0 0 149 j = r 149 j := fun j hj => ms_nk _ _ _ _ _ _ hj
  have n35 : mset r 149 0 0 149 35 = 165 := by rw [n 35 (by omega)]; exact sm_149_35 hM
  have n5 : mset r 149 0 0 165 = r 165 := ms_row _ _ _ _ _ (by omega)
  have e0 : c 137 2 = r 165 0 := hT.1.1.1
  have e3 : c 137 3 = r 165 1 := hT.1.1.2.1
  have e4 : c 137 4 = r 165 2 := hT.1.1.2.2.1
  by_cases g : 0 ≤ w ∧ w ≤ 2
  · have g1 : ¬ w < 0 := by omega
    by_cases p : r 165 0 = 3
    · obtain ⟨q1, q2, q3⟩ : (r 165 1 = 1 ∨ r 165 1 = 2 ∨ r 165 1 = 4) ∧ 0 ≤ r 165 2 ∧ r 165 2 ≤ 3 := by
        rcases hT.2 with ⟨i1, i2, i3, _⟩ | i
        · rw [← e3, ← e4]; exact ⟨i1, i2, i3⟩
        · omega
      generalize hl : r 165 1 = l at *
      generalize hq : r 165 2 = q at *
      have ro := rom_ok q q1
      have B := s_bestWithin L (rom l q) w (c 10 13) c r hX hR rfl hW.2 (by omega) (by omega)
      have K := s_roomOfX L l q c h.2.2.1.1 q1 q2 q3
      have n157 : mset r 149 0 0 157 = r 157 := ms_row _ _ _ _ _ (by omega)
      have n158 : mset r 149 0 0 158 = r 158 := ms_row _ _ _ _ _ (by omega)
      have nc : ckr (mset r 149 0 0) = ckr r := by funext i; simp only [ckr, n157, n158]
      have ho := mod_ho hR
      have BM := s_lays L (rom l q) (c 10 13) (c 45 4) (mset r 149 0 0) (by rw [n 20 (by omega)]; exact sm_149_20 hM) (by rw [n 21 (by omega)]; exact sm_149_21 hM) (by rw [n 23 (by omega)]; exact hR.1.symm) (by rw [n 30 (by omega)]; exact hW.1.symm) hW.2 hR.2.1 hR.2.2.1 (by rw [nc, n158]; exact fun i h0 h1 => ⟨(ho i h0 h1).1, (ho i h0 h1).2.1, by have := (ho i h0 h1).2.2.1; omega, (ho i h0 h1).2.2.2⟩)
      rw [nc] at BM
      have KM := fun μ => s_roomOfM l q μ (g_1 L) q1 q2 q3
      have bo := bwf_ok (ckr r) (rom l q) (c 10 13) (c 45 4).toNat 0
      generalize hp : bwf (ckr r) (rom l q) (c 10 13) 0 (c 45 4).toNat = pr at *
      obtain ⟨pa, pb⟩ := pr
      simp only [] at bo BM B
      have e1 : ev 136 0 [some (vR 10), some (vI w)] [] c (g_1 L) = some (some (vI (bwv (ckr r) (rom l q) w (pa, pb))), c, g_1 L) := by
        simp only [xe_136_0, xe_136_1, xe_136_4, xe_136_5, xe_136_6, xe_136_9, xe_136_11, xe_136_12, xe_136_13, xe_136_16, xe_136_19, xe_136_20, xe_136_23, xe_136_25, xe_136_26, xe_136_27, xe_136_28, xe_136_31, xe_136_34, xe_136_35, xe_136_38, xe_136_41, xe_136_44, xe_136_45, xe_136_48, ite_self, mm_nL_I, mm_nL_R, mm_nL_0, Option.bind_some, Option.bind_none, bnd_ite, Option.toList_some, Option.toList_none, List.cons_append, List.nil_append, mm_cats_nil, mm_cats_I, mm_cats_L, mm_cats_R, if_true, if_false, true_and, and_true, false_and, and_false, not_true_eq_false, not_false_eq_true, Int.reduceLE, Int.reduceLT, Int.reduceEq, Int.reduceNe, Int.reduceNeg, Int.reduceAdd, Int.reduceSub, Int.reduceMul, Nat.reduceAdd, Nat.reduceLeDiff, true_or, or_true, false_or, or_false, reduceIte, k_10, k_137, x9, e0, e3, e4, p, g, g1, K, B]
      refine CALL.tell h _ _ (bm (mset r 149 0 0) pa pb) e1 ?_ (keC.rf c) (keR.bm r _ _) (FX.rf c) (FM.bm r _ _)
      unfold bwv
      by_cases m1 : pa = -1
      · have m2 : pb = -1 := by
          rcases bo with bo | bo
          · exact (Prod.mk.inj bo).2
          · have b1 : 0 ≤ pa := bo.1; omega
        have f : (if w = 0 then pa else if w = 1 then pb else if pa = -1 then -1 else rom l q - ckr r pa * 3 * pb) = -1 := by
          rw [m1, m2]; (repeat' split) <;> first | rfl | omega
        have f' : (if w = 0 then (pa, pb).1 else if w = 1 then (pa, pb).2 else if (pa, pb).1 = -1 then -1 else rom l q - ckr r (pa, pb).1 * 3 * (pa, pb).2) = -1 := f
        rw [f']
        simp only [xe_232_0, xe_232_1, xe_232_2, xe_232_5, xe_232_6, xe_232_7, xe_232_8, xe_232_11, xe_232_14, xe_232_17, xe_232_19, xe_232_20, xe_232_21, xe_232_24, xe_232_25, xe_232_26, xe_232_27, xe_232_30, xe_232_32, xe_232_33, xe_232_34, xe_232_37, xe_232_38, xe_232_39, xe_232_40, xe_232_43, xe_232_44, xe_232_45, xe_232_48 _ (some (vI _)) _ _ _ _ _ rfl, xe_232_48 _ (some (vR _)) _ _ _ _ _ rfl, xe_232_48 _ none _ _ _ _ _ rfl, xe_232_49, xe_232_50, xe_232_51, xe_232_54, xe_232_55, xe_232_58, xe_232_59, xe_232_62, xe_232_63, xe_232_64, xe_232_65, xe_232_68, xe_232_69, xe_232_72, xe_232_75, xe_232_76, xe_232_77, xe_232_80, xe_232_81, xe_232_84, xe_232_87, xe_232_88, xe_232_89, xe_232_90, xe_232_93, xe_232_94, xe_232_97, xe_232_100, xe_232_101, ite_self, mm_nL_I, mm_nL_R, mm_nL_0, Option.bind_some, Option.bind_none, bnd_ite, Option.toList_some, Option.toList_none, List.cons_append, List.nil_append, mm_cats_nil, mm_cats_I, mm_cats_L, mm_cats_R, if_true, if_false, true_and, and_true, false_and, and_false, not_true_eq_false, not_false_eq_true, Int.reduceLE, Int.reduceLT, Int.reduceEq, Int.reduceNe, Int.reduceNeg, Int.reduceAdd, Int.reduceSub, Int.reduceMul, Nat.reduceAdd, Nat.reduceLeDiff, true_or, or_true, false_or, or_false, reduceIte, k_149, k_165, l_165, s_isIn, bi, n35, n5, hl, hq, p, g, KM, BM, bm_33, m1]
      · have b2 : 0 ≤ pa ∧ pa < c 45 4 ∧ 6 ≤ pb ∧ pb ≤ c 10 13 := by
          have := hR.2.1
          rcases bo with bo | bo
          · exact absurd (Prod.mk.inj bo).1 m1
          · have b1 : 0 ≤ pa ∧ pa < 0 + ((c 45 4).toNat : Int) ∧ 6 ≤ pb ∧ pb ≤ c 10 13 := bo; omega
        have o := ho pa b2.1 b2.2.1
        have o' := o
        unfold ckr at o'
        have wd := hW.2
        have nb : ∀ k, ¬ k = 33 → ¬ k = 34 → bm (mset r 149 0 0) pa pb 149 k = mset r 149 0 0 149 k := fun k h1 h2 => bm_k _ _ _ _ h1 h2
        have N := s_needOfM L pa pb (ckr r pa) (bm (mset r 149 0 0) pa pb) (by rw [nb _ (by omega) (by omega), n 20 (by omega)]; exact sm_149_20 hM) (by rw [nb _ (by omega) (by omega), n 21 (by omega)]; exact sm_149_21 hM) b2.1 (by have := hR.2.2.1; omega) (by rw [bm_r _ _ _ _ (by omega), n158]; exact o.1) (by rw [bm_r _ _ _ _ (by omega), n158]; exact o.2.1) (by rw [bm_r _ _ _ _ (by omega), bm_r _ _ _ _ (by omega), n157, n158]; rfl) (by omega) (by omega) (by omega) (by omega)
        have bnd : 0 ≤ ckr r pa * 3 * pb ∧ ckr r pa * 3 * pb ≤ 655350 * 3 * 12 := mul_bd (by omega) (by omega) (by omega) (by omega)
        have ww : w32 (rom l q - ckr r pa * 3 * pb) = rom l q - ckr r pa * 3 * pb := wi32 (by omega) (by omega)
        have qw : w = 0 ∨ w = 1 ∨ w = 2 := by omega
        rcases qw with rfl | rfl | rfl
        · simp only [xe_232_0, xe_232_1, xe_232_2, xe_232_5, xe_232_6, xe_232_7, xe_232_8, xe_232_11, xe_232_14, xe_232_17, xe_232_19, xe_232_20, xe_232_21, xe_232_24, xe_232_25, xe_232_26, xe_232_27, xe_232_30, xe_232_32, xe_232_33, xe_232_34, xe_232_37, xe_232_38, xe_232_39, xe_232_40, xe_232_43, xe_232_44, xe_232_45, xe_232_48 _ (some (vI _)) _ _ _ _ _ rfl, xe_232_48 _ (some (vR _)) _ _ _ _ _ rfl, xe_232_48 _ none _ _ _ _ _ rfl, xe_232_49, xe_232_50, xe_232_51, xe_232_54, xe_232_55, xe_232_58, xe_232_59, xe_232_62, xe_232_63, xe_232_64, xe_232_65, xe_232_68, xe_232_69, xe_232_72, xe_232_75, xe_232_76, xe_232_77, xe_232_80, xe_232_81, xe_232_84, xe_232_87, xe_232_88, xe_232_89, xe_232_90, xe_232_93, xe_232_94, xe_232_97, xe_232_100, xe_232_101, ite_self, mm_nL_I, mm_nL_R, mm_nL_0, Option.bind_some, Option.bind_none, bnd_ite, Option.toList_some, Option.toList_none, List.cons_append, List.nil_append, mm_cats_nil, mm_cats_I, mm_cats_L, mm_cats_R, if_true, if_false, true_and, and_true, false_and, and_false, not_true_eq_false, not_false_eq_true, Int.reduceLE, Int.reduceLT, Int.reduceEq, Int.reduceNe, Int.reduceNeg, Int.reduceAdd, Int.reduceSub, Int.reduceMul, Nat.reduceAdd, Nat.reduceLeDiff, true_or, or_true, false_or, or_false, reduceIte, k_149, k_165, l_165, s_isIn, bi, n35, n5, hl, hq, p, KM, BM, bm_33, bm_34, m1]
        · simp only [xe_232_0, xe_232_1, xe_232_2, xe_232_5, xe_232_6, xe_232_7, xe_232_8, xe_232_11, xe_232_14, xe_232_17, xe_232_19, xe_232_20, xe_232_21, xe_232_24, xe_232_25, xe_232_26, xe_232_27, xe_232_30, xe_232_32, xe_232_33, xe_232_34, xe_232_37, xe_232_38, xe_232_39, xe_232_40, xe_232_43, xe_232_44, xe_232_45, xe_232_48 _ (some (vI _)) _ _ _ _ _ rfl, xe_232_48 _ (some (vR _)) _ _ _ _ _ rfl, xe_232_48 _ none _ _ _ _ _ rfl, xe_232_49, xe_232_50, xe_232_51, xe_232_54, xe_232_55, xe_232_58, xe_232_59, xe_232_62, xe_232_63, xe_232_64, xe_232_65, xe_232_68, xe_232_69, xe_232_72, xe_232_75, xe_232_76, xe_232_77, xe_232_80, xe_232_81, xe_232_84, xe_232_87, xe_232_88, xe_232_89, xe_232_90, xe_232_93, xe_232_94, xe_232_97, xe_232_100, xe_232_101, ite_self, mm_nL_I, mm_nL_R, mm_nL_0, Option.bind_some, Option.bind_none, bnd_ite, Option.toList_some, Option.toList_none, List.cons_append, List.nil_append, mm_cats_nil, mm_cats_I, mm_cats_L, mm_cats_R, if_true, if_false, true_and, and_true, false_and, and_false, not_true_eq_false, not_false_eq_true, Int.reduceLE, Int.reduceLT, Int.reduceEq, Int.reduceNe, Int.reduceNeg, Int.reduceAdd, Int.reduceSub, Int.reduceMul, Nat.reduceAdd, Nat.reduceLeDiff, true_or, or_true, false_or, or_false, reduceIte, k_149, k_165, l_165, s_isIn, bi, n35, n5, hl, hq, p, KM, BM, bm_33, bm_34, m1]
        · simp only [xe_232_0, xe_232_1, xe_232_2, xe_232_5, xe_232_6, xe_232_7, xe_232_8, xe_232_11, xe_232_14, xe_232_17, xe_232_19, xe_232_20, xe_232_21, xe_232_24, xe_232_25, xe_232_26, xe_232_27, xe_232_30, xe_232_32, xe_232_33, xe_232_34, xe_232_37, xe_232_38, xe_232_39, xe_232_40, xe_232_43, xe_232_44, xe_232_45, xe_232_48 _ (some (vI _)) _ _ _ _ _ rfl, xe_232_48 _ (some (vR _)) _ _ _ _ _ rfl, xe_232_48 _ none _ _ _ _ _ rfl, xe_232_49, xe_232_50, xe_232_51, xe_232_54, xe_232_55, xe_232_58, xe_232_59, xe_232_62, xe_232_63, xe_232_64, xe_232_65, xe_232_68, xe_232_69, xe_232_72, xe_232_75, xe_232_76, xe_232_77, xe_232_80, xe_232_81, xe_232_84, xe_232_87, xe_232_88, xe_232_89, xe_232_90, xe_232_93, xe_232_94, xe_232_97, xe_232_100, xe_232_101, ite_self, mm_nL_I, mm_nL_R, mm_nL_0, Option.bind_some, Option.bind_none, bnd_ite, Option.toList_some, Option.toList_none, List.cons_append, List.nil_append, mm_cats_nil, mm_cats_I, mm_cats_L, mm_cats_R, if_true, if_false, true_and, and_true, false_and, and_false, not_true_eq_false, not_false_eq_true, Int.reduceLE, Int.reduceLT, Int.reduceEq, Int.reduceNe, Int.reduceNeg, Int.reduceAdd, Int.reduceSub, Int.reduceMul, Nat.reduceAdd, Nat.reduceLeDiff, true_or, or_true, false_or, or_false, reduceIte, k_149, k_165, l_165, s_isIn, bi, n35, n5, hl, hq, p, KM, BM, bm_33, bm_34, m1, N, ww]
    · refine CALL.ask h (-5) ?_ ?_
      · simp only [xe_136_0, xe_136_1, xe_136_4, xe_136_5, xe_136_6, xe_136_9, xe_136_11, xe_136_12, xe_136_13, xe_136_16, xe_136_19, xe_136_20, xe_136_23, xe_136_25, xe_136_26, xe_136_27, xe_136_28, xe_136_31, xe_136_34, xe_136_35, xe_136_38, xe_136_41, xe_136_44, xe_136_45, xe_136_48, ite_self, mm_nL_I, mm_nL_R, mm_nL_0, Option.bind_some, Option.bind_none, bnd_ite, Option.toList_some, Option.toList_none, List.cons_append, List.nil_append, mm_cats_nil, mm_cats_I, mm_cats_L, mm_cats_R, if_true, if_false, true_and, and_true, false_and, and_false, not_true_eq_false, not_false_eq_true, Int.reduceLE, Int.reduceLT, Int.reduceEq, Int.reduceNe, Int.reduceNeg, Int.reduceAdd, Int.reduceSub, Int.reduceMul, Nat.reduceAdd, Nat.reduceLeDiff, true_or, or_true, false_or, or_false, reduceIte, k_10, k_137, x9, e0, p, g, g1]
      · simp only [xe_232_0, xe_232_1, xe_232_2, xe_232_5, xe_232_6, xe_232_7, xe_232_8, xe_232_11, xe_232_14, xe_232_17, xe_232_19, xe_232_20, xe_232_21, xe_232_24, xe_232_25, xe_232_26, xe_232_27, xe_232_30, xe_232_32, xe_232_33, xe_232_34, xe_232_37, xe_232_38, xe_232_39, xe_232_40, xe_232_43, xe_232_44, xe_232_45, xe_232_48 _ (some (vI _)) _ _ _ _ _ rfl, xe_232_48 _ (some (vR _)) _ _ _ _ _ rfl, xe_232_48 _ none _ _ _ _ _ rfl, xe_232_49, xe_232_50, xe_232_51, xe_232_54, xe_232_55, xe_232_58, xe_232_59, xe_232_62, xe_232_63, xe_232_64, xe_232_65, xe_232_68, xe_232_69, xe_232_72, xe_232_75, xe_232_76, xe_232_77, xe_232_80, xe_232_81, xe_232_84, xe_232_87, xe_232_88, xe_232_89, xe_232_90, xe_232_93, xe_232_94, xe_232_97, xe_232_100, xe_232_101, ite_self, mm_nL_I, mm_nL_R, mm_nL_0, Option.bind_some, Option.bind_none, bnd_ite, Option.toList_some, Option.toList_none, List.cons_append, List.nil_append, mm_cats_nil, mm_cats_I, mm_cats_L, mm_cats_R, if_true, if_false, true_and, and_true, false_and, and_false, not_true_eq_false, not_false_eq_true, Int.reduceLE, Int.reduceLT, Int.reduceEq, Int.reduceNe, Int.reduceNeg, Int.reduceAdd, Int.reduceSub, Int.reduceMul, Nat.reduceAdd, Nat.reduceLeDiff, true_or, or_true, false_or, or_false, reduceIte, k_149, k_165, l_165, s_isIn, bi, n35, n5, p, g]
  · refine CALL.ask h (-2) ?_ ?_
    · by_cases g1 : w < 0
      · simp only [xe_136_0, xe_136_1, xe_136_4, xe_136_5, xe_136_6, xe_136_9, xe_136_11, xe_136_12, xe_136_13, xe_136_16, xe_136_19, xe_136_20, xe_136_23, xe_136_25, xe_136_26, xe_136_27, xe_136_28, xe_136_31, xe_136_34, xe_136_35, xe_136_38, xe_136_41, xe_136_44, xe_136_45, xe_136_48, ite_self, mm_nL_I, mm_nL_R, mm_nL_0, Option.bind_some, Option.bind_none, bnd_ite, Option.toList_some, Option.toList_none, List.cons_append, List.nil_append, mm_cats_nil, mm_cats_I, mm_cats_L, mm_cats_R, if_true, if_false, true_and, and_true, false_and, and_false, not_true_eq_false, not_false_eq_true, Int.reduceLE, Int.reduceLT, Int.reduceEq, Int.reduceNe, Int.reduceNeg, Int.reduceAdd, Int.reduceSub, Int.reduceMul, Nat.reduceAdd, Nat.reduceLeDiff, true_or, or_true, false_or, or_false, reduceIte, g1]
      · have g2 : ¬ w ≤ 2 := by omega
        simp only [xe_136_0, xe_136_1, xe_136_4, xe_136_5, xe_136_6, xe_136_9, xe_136_11, xe_136_12, xe_136_13, xe_136_16, xe_136_19, xe_136_20, xe_136_23, xe_136_25, xe_136_26, xe_136_27, xe_136_28, xe_136_31, xe_136_34, xe_136_35, xe_136_38, xe_136_41, xe_136_44, xe_136_45, xe_136_48, ite_self, mm_nL_I, mm_nL_R, mm_nL_0, Option.bind_some, Option.bind_none, bnd_ite, Option.toList_some, Option.toList_none, List.cons_append, List.nil_append, mm_cats_nil, mm_cats_I, mm_cats_L, mm_cats_R, if_true, if_false, true_and, and_true, false_and, and_false, not_true_eq_false, not_false_eq_true, Int.reduceLE, Int.reduceLT, Int.reduceEq, Int.reduceNe, Int.reduceNeg, Int.reduceAdd, Int.reduceSub, Int.reduceMul, Nat.reduceAdd, Nat.reduceLeDiff, true_or, or_true, false_or, or_false, reduceIte, g1, g2]
    · simp only [xe_232_0, xe_232_1, xe_232_2, xe_232_5, xe_232_6, xe_232_7, xe_232_8, xe_232_11, xe_232_14, xe_232_17, xe_232_19, xe_232_20, xe_232_21, xe_232_24, xe_232_25, xe_232_26, xe_232_27, xe_232_30, xe_232_32, xe_232_33, xe_232_34, xe_232_37, xe_232_38, xe_232_39, xe_232_40, xe_232_43, xe_232_44, xe_232_45, xe_232_48 _ (some (vI _)) _ _ _ _ _ rfl, xe_232_48 _ (some (vR _)) _ _ _ _ _ rfl, xe_232_48 _ none _ _ _ _ _ rfl, xe_232_49, xe_232_50, xe_232_51, xe_232_54, xe_232_55, xe_232_58, xe_232_59, xe_232_62, xe_232_63, xe_232_64, xe_232_65, xe_232_68, xe_232_69, xe_232_72, xe_232_75, xe_232_76, xe_232_77, xe_232_80, xe_232_81, xe_232_84, xe_232_87, xe_232_88, xe_232_89, xe_232_90, xe_232_93, xe_232_94, xe_232_97, xe_232_100, xe_232_101, ite_self, mm_nL_I, mm_nL_R, mm_nL_0, Option.bind_some, Option.bind_none, bnd_ite, Option.toList_some, Option.toList_none, List.cons_append, List.nil_append, mm_cats_nil, mm_cats_I, mm_cats_L, mm_cats_R, if_true, if_false, true_and, and_true, false_and, and_false, not_true_eq_false, not_false_eq_true, Int.reduceLE, Int.reduceLT, Int.reduceEq, Int.reduceNe, Int.reduceNeg, Int.reduceAdd, Int.reduceSub, Int.reduceMul, Nat.reduceAdd, Nat.reduceLeDiff, true_or, or_true, false_or, or_false, reduceIte, k_149, s_isIn, bi, g]
theorem fm_b (r : MM) (n j x0 x1 x2 x3 x4 b : Int) (h : ¬ b = 150) (h' : ¬ b = 149) : fm r n j x0 x1 x2 x3 x4 b = r b := by
  funext k; simp [fm, h, h']
theorem fm_k (r : MM) (n j x0 x1 x2 x3 x4 k : Int) (h : ¬ k = 4) : fm r n j x0 x1 x2 x3 x4 149 k = r 149 k := by
  simp [fm, h]
theorem c_feed (x0 x1 x2 x3 x4 : Int) (h : RR c r) (b0 : -2147483648 ≤ x0 ∧ x0 < 2147483648) (b1 : -2147483648 ≤ x1 ∧ x1 < 2147483648) (b2 : -2147483648 ≤ x2 ∧ x2 < 2147483648) (b3 : -2147483648 ≤ x3 ∧ x3 < 2147483648) (b4 : -2147483648 ≤ x4 ∧ x4 < 2147483648) : CALL L 99 [some (vR 10), some (vI x0), some (vI x1), some (vI x2), some (vI x3), some (vI x4)] 152 [some (vR 149), some (vI x0), some (vI x1), some (vI x2), some (vI x3), some (vI x4), none, none] c r := by
  have hX := h.1
  have hM := h.2.1
  have hT := h.2.2.2.1
  have e1 := s_feedX L x0 x1 x2 x3 x4 (c 11 1) c hX b0 b1 b2 b3 b4 rfl hT.2.1 hT.2.2.1
  have e2 := s_feedM L x0 x1 x2 x3 x4 (c 11 1) r hM b0 b1 b2 b3 b4 hT.1.symm hT.2.1 hT.2.2.1
  by_cases g : c 11 1 + 20 ≤ 520
  · rw [if_pos g, if_pos g] at e1 e2
    have F := s_feedT x0 x1 x2 x3 x4 (c 11 1) rfl hT g
    have k1 : ∀ a, ¬ a = 11 → ¬ a = 12 → fd20 c (c 11 1) x0 x1 x2 x3 x4 a = c a := fun a h1 h2 => by
      funext k; unfold fd20; rw [fd4_a _ _ _ _ _ h1 h2, fd4_a _ _ _ _ _ h1 h2, fd4_a _ _ _ _ _ h1 h2, fd4_a _ _ _ _ _ h1 h2, fd4_a _ _ _ _ _ h1 h2]
    have q1 : ∀ a, ¬ a = 149 → ¬ a = 150 → fm (mset r 149 0 0) (c 11 1) 20 x0 x1 x2 x3 x4 a = r a := fun a h1 h2 => by
      rw [fm_b _ _ _ _ _ _ _ _ _ h2 h1, ms_row _ _ _ _ _ h1]
    have q2 : ∀ k, ¬ k = 0 → ¬ k = 4 → fm (mset r 149 0 0) (c 11 1) 20 x0 x1 x2 x3 x4 149 k = r 149 k := fun k h1 h2 => by
      rw [fm_k _ _ _ _ _ _ _ _ _ h2, ms_nk _ _ _ _ _ _ h1]
    refine ⟨_, _, _, e1, e2, ?_, fun a ha => k1 a (by omega) (by omega), fun a ha => q1 a (by omega) (by omega)⟩
    obtain ⟨h1, h2, h3, h4, h5, h6, h7, h8, h9, h10, h11, h12, h13, h14⟩ := h
    refine ⟨((((hX.fd4 _ _).fd4 _ _).fd4 _ _).fd4 _ _).fd4 _ _, ?_, h3.ke (fun a ha => k1 a (by omega) (by omega)) (q1 _ (by omega) (by omega)) (q1 _ (by omega) (by omega)), F, h5.ke (k1 _ (by omega) (by omega)) (k1 _ (by omega) (by omega)) (k1 _ (by omega) (by omega)) (q2 _ (by omega) (by omega)) (q1 _ (by omega) (by omega)) (q2 _ (by omega) (by omega)) (q2 _ (by omega) (by omega)), h6.ke (fun a ha => k1 a (by omega) (by omega)) (fun a ha => q1 a (by omega) (by omega)) (fun a ha => q2 a (by omega) (by omega)), h7.ke (fun a ha => k1 a (by omega) (by omega)) (fun a ha => q1 a (by omega) (by omega)) (q2 _ (by omega) (by omega)), h8.ke (by rw [k1 10 (by omega) (by omega)]) (q2 _ (by omega) (by omega)), h9.ke (k1 _ (by omega) (by omega)) (k1 _ (by omega) (by omega)) (k1 _ (by omega) (by omega)) (q2 _ (by omega) (by omega)) (q2 _ (by omega) (by omega)) (q1 _ (by omega) (by omega)) (q1 _ (by omega) (by omega)), h10.ke (k1 _ (by omega) (by omega)) (k1 _ (by omega) (by omega)) (fun j _ => by rw [k1 144 (by omega) (by omega), k1 145 (by omega) (by omega)]; exact ⟨rfl, rfl⟩) (q1 _ (by omega) (by omega)) (q1 _ (by omega) (by omega)), h11.ke (fun a ha => k1 a (by omega) (by omega)) (q1 _ (by omega) (by omega)) (q1 _ (by omega) (by omega)), h12.ke h7 (fun a ha => k1 a (by omega) (by omega)), ?_, ?_⟩
    · intro q hq
      have t : ∀ q ∈ SMl, q.1 = 149 ∧ ¬ q.2.1 = 0 ∧ ¬ q.2.1 = 4 := by decide
      have t := t q hq
      rw [← h2 q hq, t.1]; exact q2 _ t.2.1 t.2.2
    · rw [q2 42 (by omega) (by omega)]; exact h13
    · unfold Rtx Rpl; rw [k1 132 (by omega) (by omega), k1 46 (by omega) (by omega)]; exact h14
  · rw [if_neg g, if_neg g] at e1 e2
    exact CALL.ask h _ e1 e2
end CF
