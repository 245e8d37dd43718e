theorem tg_drm (c : MM) (a k h v z : Int) (j : Int) (h0 : 0 ≤ j) (h1 : j ≤ 8) : tg (drm c a k h v z a) j = dr k h v z j := by
  unfold tg
  by_cases e : j = 8
  · subst e; rw [if_pos rfl, drm_0, dr_8]
  · rw [if_neg e, drm_j _ _ _ _ _ _ _ (by omega) (by omega), show j + 1 - 1 = j by omega]
theorem dbv_cg {f g : Int → Int} (h : ∀ j, 0 ≤ j → j ≤ 8 → f j = g j) (k : Int) : dbv f k = dbv g k := by
  unfold dbv
  rw [h 0 (by omega) (by omega), h 1 (by omega) (by omega), h 2 (by omega) (by omega), h 3 (by omega) (by omega), h 4 (by omega) (by omega), h 5 (by omega) (by omega), h 6 (by omega) (by omega), h 7 (by omega) (by omega), h 8 (by omega) (by omega)]
theorem fitv_cg {f g : Int → Int} (h : ∀ j, 0 ≤ j → j ≤ 8 → f j = g j) : fitv f = fitv g := by
  unfold fitv
  rw [h 0 (by omega) (by omega), h 1 (by omega) (by omega), h 2 (by omega) (by omega), h 3 (by omega) (by omega), h 4 (by omega) (by omega), h 5 (by omega) (by omega), h 6 (by omega) (by omega), h 7 (by omega) (by omega), h 8 (by omega) (by omega)]
theorem nn_dr {k h v z : Int} (h0 : 0 ≤ h) (h1 : h ≤ 4095) (v0 : 0 ≤ v) (v1 : v ≤ 4095) (z0 : 0 ≤ z) (z1 : z ≤ 240) : nn (dr k h v z) := fun j j0 j1 => by
  obtain ⟨o1, o2, o3, _⟩ := dr_ok (k := k) h0 h1 v0 v1 z0 z1
  by_cases e : j = 8
  · subst e; rw [dr_8]; omega
  · have := o1 j j0 (by omega); omega
def dev (k h v z w : Int) : Int := if (k = 0 ∨ k = 1) ∧ 0 ≤ w ∧ w < 18 then if (64 ≤ h ∧ h ≤ 4095 ∧ 48 ≤ v ∧ v ≤ 4095) ∧ 20 ≤ z ∧ z ≤ 240 then (if fitv (dr k h v z) = true then dbv (dr k h v z) w else -5) else -3 else -2
theorem s_descX (L k h v z w : Int) (c : MM) (hX : SX c) : ∃ c', ev 112 0 [some (vR 10), some (vI k), some (vI h), some (vI v), some (vI z), some (vI w)] [] c (g_1 L) = some (some (vI (dev k h v z w)), c', g_1 L) ∧ (c' = c ∨ c' = drm c 131 k h v z) := by
  unfold dev
  by_cases hk : k = 0 ∨ k = 1
  · by_cases hw : 0 ≤ w ∧ w < 18
    · have w0 : ¬ w < 0 := by omega
      by_cases hs : 64 ≤ h ∧ h ≤ 4095 ∧ 48 ≤ v ∧ v ≤ 4095
      · by_cases hz : 20 ≤ z ∧ z ≤ 240
        · refine ⟨drm c 131 k h v z, ?_, Or.inr rfl⟩
          have D := s_draw 131 k h v z c (g_1 L) (by omega) (by simp only [k_131]) (by omega) (by omega) (by omega) (by omega) (by omega) (by omega)
          have p6 : c 10 6 = 131 := sx_10_6 hX
          have p6' : drm c 131 k h v z 10 6 = 131 := by rw [drm_a _ _ _ _ _ _ _ (by omega)]; exact p6
          have tc := tg_drm c 131 k h v z
          have N : nn (tg (drm c 131 k h v z 131)) := fun j j0 j1 => by rw [tc j j0 j1]; exact nn_dr (by omega) (by omega) (by omega) (by omega) (by omega) (by omega) j j0 j1
          have F := s_fits 131 (drm c 131 k h v z) (g_1 L) (by simp only [k_131])
          have Y := s_byteX 131 w (drm c 131 k h v z) (g_1 L) (by simp only [k_131]) N hw.1 hw.2
          rw [fitv_cg tc] at F
          rw [dbv_cg tc] at Y
          by_cases f : fitv (dr k h v z) = true
          · rw [if_pos f] at F
            simp only [xe_112_0, xe_112_1, xe_112_4, xe_112_7, xe_112_9, xe_112_12, xe_112_14, xe_112_16, xe_112_19, xe_112_21, xe_112_22, xe_112_23, xe_112_24, xe_112_27, xe_112_30, xe_112_32, xe_112_35, xe_112_38, xe_112_40, xe_112_41, xe_112_42, xe_112_45, xe_112_46, xe_112_47, xe_112_48, xe_112_50, xe_112_53, xe_112_54, xe_112_57, xe_112_60, xe_112_63, xe_112_64, xe_112_67, xe_112_69, xe_112_72, xe_112_75, xe_112_77, ite_self, mm_nL_I, mm_nL_R, mm_nL_0, Option.bind_some, Option.bind_none, bnd_ite, Option.toList_some, Option.toList_none, List.cons_append, List.nil_append, mm_cats_nil, mm_cats_I, mm_cats_L, mm_cats_R, if_true, if_false, true_and, and_true, false_and, and_false, not_true_eq_false, not_false_eq_true, Int.reduceLE, Int.reduceLT, Int.reduceEq, Int.reduceNe, Int.reduceNeg, Int.reduceAdd, Int.reduceSub, Int.reduceMul, Nat.reduceAdd, Nat.reduceLeDiff, true_or, or_true, false_or, or_false, reduceIte, k_10, k_131, s_isFormulaX, s_isSizeX, s_isHertzX, bi, hk, hw, w0, hs, hz, p6, p6', D, F, Y, f]
          · rw [if_neg f] at F
            simp only [xe_112_0, xe_112_1, xe_112_4, xe_112_7, xe_112_9, xe_112_12, xe_112_14, xe_112_16, xe_112_19, xe_112_21, xe_112_22, xe_112_23, xe_112_24, xe_112_27, xe_112_30, xe_112_32, xe_112_35, xe_112_38, xe_112_40, xe_112_41, xe_112_42, xe_112_45, xe_112_46, xe_112_47, xe_112_48, xe_112_50, xe_112_53, xe_112_54, xe_112_57, xe_112_60, xe_112_63, xe_112_64, xe_112_67, xe_112_69, xe_112_72, xe_112_75, xe_112_77, ite_self, mm_nL_I, mm_nL_R, mm_nL_0, Option.bind_some, Option.bind_none, bnd_ite, Option.toList_some, Option.toList_none, List.cons_append, List.nil_append, mm_cats_nil, mm_cats_I, mm_cats_L, mm_cats_R, if_true, if_false, true_and, and_true, false_and, and_false, not_true_eq_false, not_false_eq_true, Int.reduceLE, Int.reduceLT, Int.reduceEq, Int.reduceNe, Int.reduceNeg, Int.reduceAdd, Int.reduceSub, Int.reduceMul, Nat.reduceAdd, Nat.reduceLeDiff, true_or, or_true, false_or, or_false, reduceIte, k_10, k_131, s_isFormulaX, s_isSizeX, s_isHertzX, bi, hk, hw, w0, hs, hz, p6, p6', D, F, f, Bool.false_eq_true]
        · refine ⟨c, ?_, Or.inl rfl⟩
          simp only [xe_112_0, xe_112_1, xe_112_4, xe_112_7, xe_112_9, xe_112_12, xe_112_14, xe_112_16, xe_112_19, xe_112_21, xe_112_22, xe_112_23, xe_112_24, xe_112_27, xe_112_30, xe_112_32, xe_112_35, xe_112_38, xe_112_40, xe_112_41, xe_112_42, xe_112_45, xe_112_46, xe_112_47, xe_112_48, xe_112_50, xe_112_53, xe_112_54, xe_112_57, xe_112_60, xe_112_63, xe_112_64, xe_112_67, xe_112_69, xe_112_72, xe_112_75, xe_112_77, ite_self, mm_nL_I, mm_nL_R, mm_nL_0, Option.bind_some, Option.bind_none, bnd_ite, Option.toList_some, Option.toList_none, List.cons_append, List.nil_append, mm_cats_nil, mm_cats_I, mm_cats_L, mm_cats_R, if_true, if_false, true_and, and_true, false_and, and_false, not_true_eq_false, not_false_eq_true, Int.reduceLE, Int.reduceLT, Int.reduceEq, Int.reduceNe, Int.reduceNeg, Int.reduceAdd, Int.reduceSub, Int.reduceMul, Nat.reduceAdd, Nat.reduceLeDiff, true_or, or_true, false_or, or_false, reduceIte, s_isFormulaX, s_isSizeX, s_isHertzX, bi, hk, hw, w0, hs, hz]
      · refine ⟨c, ?_, Or.inl rfl⟩
        simp only [xe_112_0, xe_112_1, xe_112_4, xe_112_7, xe_112_9, xe_112_12, xe_112_14, xe_112_16, xe_112_19, xe_112_21, xe_112_22, xe_112_23, xe_112_24, xe_112_27, xe_112_30, xe_112_32, xe_112_35, xe_112_38, xe_112_40, xe_112_41, xe_112_42, xe_112_45, xe_112_46, xe_112_47, xe_112_48, xe_112_50, xe_112_53, xe_112_54, xe_112_57, xe_112_60, xe_112_63, xe_112_64, xe_112_67, xe_112_69, xe_112_72, xe_112_75, xe_112_77, ite_self, mm_nL_I, mm_nL_R, mm_nL_0, Option.bind_some, Option.bind_none, bnd_ite, Option.toList_some, Option.toList_none, List.cons_append, List.nil_append, mm_cats_nil, mm_cats_I, mm_cats_L, mm_cats_R, if_true, if_false, true_and, and_true, false_and, and_false, not_true_eq_false, not_false_eq_true, Int.reduceLE, Int.reduceLT, Int.reduceEq, Int.reduceNe, Int.reduceNeg, Int.reduceAdd, Int.reduceSub, Int.reduceMul, Nat.reduceAdd, Nat.reduceLeDiff, true_or, or_true, false_or, or_false, reduceIte, s_isFormulaX, s_isSizeX, bi, hk, hw, w0, hs]
    · refine ⟨c, ?_, Or.inl rfl⟩
      rw [if_neg (fun q => hw q.2)]
      by_cases w0 : w < 0
      · simp only [xe_112_0, xe_112_1, xe_112_4, xe_112_7, xe_112_9, xe_112_12, xe_112_14, xe_112_16, xe_112_19, xe_112_21, xe_112_22, xe_112_23, xe_112_24, xe_112_27, xe_112_30, xe_112_32, xe_112_35, xe_112_38, xe_112_40, xe_112_41, xe_112_42, xe_112_45, xe_112_46, xe_112_47, xe_112_48, xe_112_50, xe_112_53, xe_112_54, xe_112_57, xe_112_60, xe_112_63, xe_112_64, xe_112_67, xe_112_69, xe_112_72, xe_112_75, xe_112_77, ite_self, mm_nL_I, mm_nL_R, mm_nL_0, Option.bind_some, Option.bind_none, bnd_ite, Option.toList_some, Option.toList_none, List.cons_append, List.nil_append, mm_cats_nil, mm_cats_I, mm_cats_L, mm_cats_R, if_true, if_false, true_and, and_true, false_and, and_false, not_true_eq_false, not_false_eq_true, Int.reduceLE, Int.reduceLT, Int.reduceEq, Int.reduceNe, Int.reduceNeg, Int.reduceAdd, Int.reduceSub, Int.reduceMul, Nat.reduceAdd, Nat.reduceLeDiff, true_or, or_true, false_or, or_false, reduceIte, s_isFormulaX, bi, hk, w0]
      · have w1 : ¬ w < 18 := by omega
        simp only [xe_112_0, xe_112_1, xe_112_4, xe_112_7, xe_112_9, xe_112_12, xe_112_14, xe_112_16, xe_112_19, xe_112_21, xe_112_22, xe_112_23, xe_112_24, xe_112_27, xe_112_30, xe_112_32, xe_112_35, xe_112_38, xe_112_40, xe_112_41, xe_112_42, xe_112_45, xe_112_46, xe_112_47, xe_112_48, xe_112_50, xe_112_53, xe_112_54, xe_112_57, xe_112_60, xe_112_63, xe_112_64, xe_112_67, xe_112_69, xe_112_72, xe_112_75, xe_112_77, ite_self, mm_nL_I, mm_nL_R, mm_nL_0, Option.bind_some, Option.bind_none, bnd_ite, Option.toList_some, Option.toList_none, List.cons_append, List.nil_append, mm_cats_nil, mm_cats_I, mm_cats_L, mm_cats_R, if_true, if_false, true_and, and_true, false_and, and_false, not_true_eq_false, not_false_eq_true, Int.reduceLE, Int.reduceLT, Int.reduceEq, Int.reduceNe, Int.reduceNeg, Int.reduceAdd, Int.reduceSub, Int.reduceMul, Nat.reduceAdd, Nat.reduceLeDiff, true_or, or_true, false_or, or_false, reduceIte, s_isFormulaX, bi, hk, w0, w1]
  · refine ⟨c, ?_, Or.inl rfl⟩
    rw [if_neg (fun q => hk q.1)]
    simp only [xe_112_0, xe_112_1, xe_112_4, xe_112_7, xe_112_9, xe_112_12, xe_112_14, xe_112_16, xe_112_19, xe_112_21, xe_112_22, xe_112_23, xe_112_24, xe_112_27, xe_112_30, xe_112_32, xe_112_35, xe_112_38, xe_112_40, xe_112_41, xe_112_42, xe_112_45, xe_112_46, xe_112_47, xe_112_48, xe_112_50, xe_112_53, xe_112_54, xe_112_57, xe_112_60, xe_112_63, xe_112_64, xe_112_67, xe_112_69, xe_112_72, xe_112_75, xe_112_77, ite_self, mm_nL_I, mm_nL_R, mm_nL_0, Option.bind_some, Option.bind_none, bnd_ite, Option.toList_some, Option.toList_none, List.cons_append, List.nil_append, mm_cats_nil, mm_cats_I, mm_cats_L, mm_cats_R, if_true, if_false, true_and, and_true, false_and, and_false, not_true_eq_false, not_false_eq_true, Int.reduceLE, Int.reduceLT, Int.reduceEq, Int.reduceNe, Int.reduceNeg, Int.reduceAdd, Int.reduceSub, Int.reduceMul, Nat.reduceAdd, Nat.reduceLeDiff, true_or, or_true, false_or, or_false, reduceIte, s_isFormulaX, bi, hk]
theorem s_descM (L k h v z w : Int) (r : MM) (hM : SM r) : ∃ r', ev 199 0 [some (vR 149), some (vI k), some (vI h), some (vI v), some (vI z), some (vI w)] [] r (g_1 L) = some (some (vI (dev k h v z w)), r', g_1 L) ∧ (r' = mset r 149 0 0 ∨ r' = wkm (mset r 149 0 0) k h v z) := by
  have p29 : mset r 149 0 0 149 29 = 164 := by rw [ms_nk _ _ _ _ _ _ (by omega)]; exact sm_149_29 hM
  unfold dev
  by_cases hk : k = 0 ∨ k = 1
  · have hk' : 0 ≤ k ∧ k ≤ 1 := by omega
    by_cases hw : 0 ≤ w ∧ w < 18
    · have hw' : 0 ≤ w ∧ w ≤ 17 := by omega
      by_cases hs : 64 ≤ h ∧ h ≤ 4095 ∧ 48 ≤ v ∧ v ≤ 4095
      · by_cases hz : 20 ≤ z ∧ z ≤ 240
        · refine ⟨wkm (mset r 149 0 0) k h v z, ?_, Or.inr rfl⟩
          have hs' : (64 ≤ h ∧ h ≤ 4095) ∧ (48 ≤ v ∧ v ≤ 4095) ∧ 20 ≤ z ∧ z ≤ 240 := ⟨⟨hs.1, hs.2.1⟩, hs.2.2, hz⟩
          have RF := s_refuses h v z (mset r 149 0 0) (g_1 L)
          rw [if_pos hs'] at RF
          have D := s_works L k h v z (mset r 149 0 0) p29 (by omega) (by omega) (by omega) (by omega) (by omega) (by omega)
          have p' : wkm (mset r 149 0 0) k h v z 149 29 = 164 := by rw [wkm_a _ _ _ _ _ _ (by omega)]; exact p29
          have tc := wkm_j (mset r 149 0 0) k h v z
          have N : nn (wkm (mset r 149 0 0) k h v z 164) := fun j j0 j1 => by rw [tc j j0 j1]; exact nn_dr (by omega) (by omega) (by omega) (by omega) (by omega) (by omega) j j0 j1
          have F := s_room L (wkm (mset r 149 0 0) k h v z) p'
          rw [fitv_cg tc] at F
          by_cases f : fitv (dr k h v z) = true
          · rw [if_pos f] at F
            have Y := s_byteM L w (wkm (mset r 149 0 0) k h v z) p' N (by rw [fitv_cg tc]; exact f) hw.1 hw.2
            rw [dbv_cg tc] at Y
            simp only [xe_199_0, xe_199_1, xe_199_2, xe_199_5, xe_199_6, xe_199_7, xe_199_8, xe_199_9, xe_199_12, xe_199_15, xe_199_17, xe_199_18, xe_199_19, xe_199_22, xe_199_25, xe_199_28, xe_199_30, xe_199_31, xe_199_32, xe_199_33, xe_199_35, xe_199_38, xe_199_41, xe_199_43, xe_199_44, xe_199_45, xe_199_46, xe_199_47, xe_199_48, xe_199_50, xe_199_53, xe_199_54, xe_199_57, xe_199_60, xe_199_61, xe_199_63, xe_199_66, xe_199_69, xe_199_71, ite_self, mm_nL_I, mm_nL_R, mm_nL_0, Option.bind_some, Option.bind_none, bnd_ite, Option.toList_some, Option.toList_none, List.cons_append, List.nil_append, mm_cats_nil, mm_cats_I, mm_cats_L, mm_cats_R, if_true, if_false, true_and, and_true, false_and, and_false, not_true_eq_false, not_false_eq_true, Int.reduceLE, Int.reduceLT, Int.reduceEq, Int.reduceNe, Int.reduceNeg, Int.reduceAdd, Int.reduceSub, Int.reduceMul, Nat.reduceAdd, Nat.reduceLeDiff, true_or, or_true, false_or, or_false, reduceIte, k_149, s_isIn, bi, hk, hk', hw, hw', hs, hz, RF, D, F, Y, f]
          · rw [if_neg f] at F
            simp only [xe_199_0, xe_199_1, xe_199_2, xe_199_5, xe_199_6, xe_199_7, xe_199_8, xe_199_9, xe_199_12, xe_199_15, xe_199_17, xe_199_18, xe_199_19, xe_199_22, xe_199_25, xe_199_28, xe_199_30, xe_199_31, xe_199_32, xe_199_33, xe_199_35, xe_199_38, xe_199_41, xe_199_43, xe_199_44, xe_199_45, xe_199_46, xe_199_47, xe_199_48, xe_199_50, xe_199_53, xe_199_54, xe_199_57, xe_199_60, xe_199_61, xe_199_63, xe_199_66, xe_199_69, xe_199_71, ite_self, mm_nL_I, mm_nL_R, mm_nL_0, Option.bind_some, Option.bind_none, bnd_ite, Option.toList_some, Option.toList_none, List.cons_append, List.nil_append, mm_cats_nil, mm_cats_I, mm_cats_L, mm_cats_R, if_true, if_false, true_and, and_true, false_and, and_false, not_true_eq_false, not_false_eq_true, Int.reduceLE, Int.reduceLT, Int.reduceEq, Int.reduceNe, Int.reduceNeg, Int.reduceAdd, Int.reduceSub, Int.reduceMul, Nat.reduceAdd, Nat.reduceLeDiff, true_or, or_true, false_or, or_false, reduceIte, k_149, s_isIn, bi, hk, hk', hw, hw', hs, hz, RF, D, F, f, Bool.false_eq_true]
        · have RF := s_refuses h v z (mset r 149 0 0) (g_1 L)
          rw [if_neg (fun q => hz q.2.2)] at RF
          refine ⟨mset r 149 0 0, ?_, Or.inl rfl⟩
          simp only [xe_199_0, xe_199_1, xe_199_2, xe_199_5, xe_199_6, xe_199_7, xe_199_8, xe_199_9, xe_199_12, xe_199_15, xe_199_17, xe_199_18, xe_199_19, xe_199_22, xe_199_25, xe_199_28, xe_199_30, xe_199_31, xe_199_32, xe_199_33, xe_199_35, xe_199_38, xe_199_41, xe_199_43, xe_199_44, xe_199_45, xe_199_46, xe_199_47, xe_199_48, xe_199_50, xe_199_53, xe_199_54, xe_199_57, xe_199_60, xe_199_61, xe_199_63, xe_199_66, xe_199_69, xe_199_71, ite_self, mm_nL_I, mm_nL_R, mm_nL_0, Option.bind_some, Option.bind_none, bnd_ite, Option.toList_some, Option.toList_none, List.cons_append, List.nil_append, mm_cats_nil, mm_cats_I, mm_cats_L, mm_cats_R, if_true, if_false, true_and, and_true, false_and, and_false, not_true_eq_false, not_false_eq_true, Int.reduceLE, Int.reduceLT, Int.reduceEq, Int.reduceNe, Int.reduceNeg, Int.reduceAdd, Int.reduceSub, Int.reduceMul, Nat.reduceAdd, Nat.reduceLeDiff, true_or, or_true, false_or, or_false, reduceIte, k_149, s_isIn, bi, hk, hk', hw, hw', hs, hz, RF]
      · have RF := s_refuses h v z (mset r 149 0 0) (g_1 L)
        rw [if_neg (fun q => hs ⟨q.1.1, q.1.2, q.2.1⟩)] at RF
        refine ⟨mset r 149 0 0, ?_, Or.inl rfl⟩
        simp only [xe_199_0, xe_199_1, xe_199_2, xe_199_5, xe_199_6, xe_199_7, xe_199_8, xe_199_9, xe_199_12, xe_199_15, xe_199_17, xe_199_18, xe_199_19, xe_199_22, xe_199_25, xe_199_28, xe_199_30, xe_199_31, xe_199_32, xe_199_33, xe_199_35, xe_199_38, xe_199_41, xe_199_43, xe_199_44, xe_199_45, xe_199_46, xe_199_47, xe_199_48, xe_199_50, xe_199_53, xe_199_54, xe_199_57, xe_199_60, xe_199_61, xe_199_63, xe_199_66, xe_199_69, xe_199_71, ite_self, mm_nL_I, mm_nL_R, mm_nL_0, Option.bind_some, Option.bind_none, bnd_ite, Option.toList_some, Option.toList_none, List.cons_append, List.nil_append, mm_cats_nil, mm_cats_I, mm_cats_L, mm_cats_R, if_true, if_false, true_and, and_true, false_and, and_false, not_true_eq_false, not_false_eq_true, Int.reduceLE, Int.reduceLT, Int.reduceEq, Int.reduceNe, Int.reduceNeg, Int.reduceAdd, Int.reduceSub, Int.reduceMul, Nat.reduceAdd, Nat.reduceLeDiff, true_or, or_true, false_or, or_false, reduceIte, k_149, s_isIn, bi, hk, hk', hw, hw', hs, RF]
    · have hw' : ¬ (0 ≤ w ∧ w ≤ 17) := by omega
      refine ⟨mset r 149 0 0, ?_, Or.inl rfl⟩
      rw [if_neg (fun q => hw q.2)]
      simp only [xe_199_0, xe_199_1, xe_199_2, xe_199_5, xe_199_6, xe_199_7, xe_199_8, xe_199_9, xe_199_12, xe_199_15, xe_199_17, xe_199_18, xe_199_19, xe_199_22, xe_199_25, xe_199_28, xe_199_30, xe_199_31, xe_199_32, xe_199_33, xe_199_35, xe_199_38, xe_199_41, xe_199_43, xe_199_44, xe_199_45, xe_199_46, xe_199_47, xe_199_48, xe_199_50, xe_199_53, xe_199_54, xe_199_57, xe_199_60, xe_199_61, xe_199_63, xe_199_66, xe_199_69, xe_199_71, ite_self, mm_nL_I, mm_nL_R, mm_nL_0, Option.bind_some, Option.bind_none, bnd_ite, Option.toList_some, Option.toList_none, List.cons_append, List.nil_append, mm_cats_nil, mm_cats_I, mm_cats_L, mm_cats_R, if_true, if_false, true_and, and_true, false_and, and_false, not_true_eq_false, not_false_eq_true, Int.reduceLE, Int.reduceLT, Int.reduceEq, Int.reduceNe, Int.reduceNeg, Int.reduceAdd, Int.reduceSub, Int.reduceMul, Nat.reduceAdd, Nat.reduceLeDiff, true_or, or_true, false_or, or_false, reduceIte, k_149, s_isIn, bi, hk', hw']
  · have hk' : ¬ (0 ≤ k ∧ k ≤ 1) := by omega
    refine ⟨mset r 149 0 0, ?_, Or.inl rfl⟩
    rw [if_neg (fun q => hk q.1)]
    simp only [xe_199_0, xe_199_1, xe_199_2, xe_199_5, xe_199_6, xe_199_7, xe_199_8, xe_199_9, xe_199_12, xe_199_15, xe_199_17, xe_199_18, xe_199_19, xe_199_22, xe_199_25, xe_199_28, xe_199_30, xe_199_31, xe_199_32, xe_199_33, xe_199_35, xe_199_38, xe_199_41, xe_199_43, xe_199_44, xe_199_45, xe_199_46, xe_199_47, xe_199_48, xe_199_50, xe_199_53, xe_199_54, xe_199_57, xe_199_60, xe_199_61, xe_199_63, xe_199_66, xe_199_69, xe_199_71, ite_self, mm_nL_I, mm_nL_R, mm_nL_0, Option.bind_some, Option.bind_none, bnd_ite, Option.toList_some, Option.toList_none, List.cons_append, List.nil_append, mm_cats_nil, mm_cats_I, mm_cats_L, mm_cats_R, if_true, if_false, true_and, and_true, false_and, and_false, not_true_eq_false, not_false_eq_true, Int.reduceLE, Int.reduceLT, Int.reduceEq, Int.reduceNe, Int.reduceNeg, Int.reduceAdd, Int.reduceSub, Int.reduceMul, Nat.reduceAdd, Nat.reduceLeDiff, true_or, or_true, false_or, or_false, reduceIte, k_149, s_isIn, bi, hk']
/-! fastest -/
def fz (p : Int → Bool) (z : Int) : Nat → Int
  | 0 => -1
  | n + 1 => if p z = true then z else fz p (z - 1) n
theorem drm_drm (c : MM) (a k h v z z' : Int) : drm (drm c a k h v z) a k h v z' = drm c a k h v z' := by
  funext b j
  simp only [drm]
  split <;> rfl
theorem wkm_wkm (c : MM) (k h v z z' : Int) : wkm (wkm c k h v z) k h v z' = wkm c k h v z' := by
  funext b j
  simp only [wkm]
  split <;> rfl
def fap (k h v d sp z : Int) : Bool := decide (drk k h v z * 3 * d ≤ sp)
theorem s_fastXl (L k h v l q d sp : Int) (c : MM) (hX : SX c) (h0 : 0 ≤ h) (h1 : h ≤ 4095) (v0 : 0 ≤ v) (v1 : v ≤ 4095) (d0 : 0 ≤ d) (d1 : d ≤ 12) : ∀ (n : Nat) (z : Int) (c1 : MM), z = 19 + n → z ≤ 240 → (c1 = c ∨ ∃ z', c1 = drm c 131 k h v z') →
    ∃ c', ev 113 54 [some (vR 10), some (vI k), some (vI h), some (vI v), some (vI l), some (vI q), some (vI d), some (vL sp), none, some (vI z)] [] c1 (g_1 L) = some (some (vI (fz (fap k h v d sp) z n)), c', g_1 L) ∧ (c' = c ∨ ∃ z', c' = drm c 131 k h v z') := by
  intro n
  induction n with
  | zero =>
    intro z c1 hz _ hc
    have g : z < 20 := by omega
    refine ⟨c1, ?_, hc⟩
    simp only [xe_113_54, xe_113_56, xe_113_58, xe_113_100, xe_113_101, ite_self, mm_nL_I, mm_nL_R, mm_nL_0, Option.bind_some, Option.bind_none, bnd_ite, Option.toList_some, Option.toList_none, List.cons_append, List.nil_append, mm_cats_nil, mm_cats_I, mm_cats_L, mm_cats_R, if_true, if_false, true_and, and_true, false_and, and_false, not_true_eq_false, not_false_eq_true, Int.reduceLE, Int.reduceLT, Int.reduceEq, Int.reduceNe, Int.reduceNeg, Int.reduceAdd, Int.reduceSub, Int.reduceMul, Nat.reduceAdd, Nat.reduceLeDiff, true_or, or_true, false_or, or_false, reduceIte, g, fz]
  | succ n ih =>
    intro z c1 hz hz2 hc
    have g : ¬ z < 20 := by omega
    have D := s_draw 131 k h v z c1 (g_1 L) (by omega) (by simp only [k_131]) h0 h1 v0 v1 (by omega) hz2
    have ed : drm c1 131 k h v z = drm c 131 k h v z := by
      rcases hc with rfl | ⟨z', rfl⟩
      · rfl
      · exact drm_drm _ _ _ _ _ _ _
    have p6 : c1 10 6 = 131 := by
      rcases hc with rfl | ⟨z', rfl⟩
      · exact sx_10_6 hX
      · rw [drm_a _ _ _ _ _ _ _ (by omega)]; exact sx_10_6 hX
    have p6' : drm c 131 k h v z 10 6 = 131 := by rw [drm_a _ _ _ _ _ _ _ (by omega)]; exact sx_10_6 hX
    rw [ed] at D
    obtain ⟨o1, o2, o3, _⟩ := dr_ok (k := k) h0 h1 v0 v1 (show 0 ≤ z by omega) hz2
    have N := s_needOfX (drk k h v z) d (drm c 131 k h v z) (g_1 L) o2 (by omega) d0 d1
    rw [xe_113_54]
    simp only [fz]
    by_cases f : drk k h v z * 3 * d ≤ sp
    · have f' : ¬ sp < drk k h v z * 3 * d := by omega
      have fb : fap k h v d sp z = true := decide_eq_true f
      refine ⟨drm c 131 k h v z, ?_, Or.inr ⟨z, rfl⟩⟩
      simp only [xe_113_56, xe_113_58, xe_113_61, xe_113_62, xe_113_65, xe_113_66, xe_113_67, xe_113_68, xe_113_70, xe_113_73, xe_113_74, xe_113_77, xe_113_80, xe_113_82, xe_113_85, xe_113_87, xe_113_88, xe_113_91, xe_113_93, xe_113_94 _ _ _ _ _ _ _ _ (some (vI _)) _ _ _ _ rfl, xe_113_94 _ _ _ _ _ _ _ _ (some (vR _)) _ _ _ _ rfl, xe_113_94 _ _ _ _ _ _ _ _ none _ _ _ _ rfl, xe_113_97, xe_113_100, xe_113_101, ite_self, mm_nL_I, mm_nL_R, mm_nL_0, Option.bind_some, Option.bind_none, bnd_ite, Option.toList_some, Option.toList_none, List.cons_append, List.nil_append, mm_cats_nil, mm_cats_I, mm_cats_L, mm_cats_R, if_true, if_false, true_and, and_true, false_and, and_false, not_true_eq_false, not_false_eq_true, Int.reduceLE, Int.reduceLT, Int.reduceEq, Int.reduceNe, Int.reduceNeg, Int.reduceAdd, Int.reduceSub, Int.reduceMul, Nat.reduceAdd, Nat.reduceLeDiff, true_or, or_true, false_or, or_false, reduceIte, k_10, k_131, g, p6, p6', D, drm_0, N, cmp_gt, f', fb]
    · have f' : sp < drk k h v z * 3 * d := by omega
      have fb : ¬ fap k h v d sp z = true := fun e => f (of_decide_eq_true e)
      have w : w32 (z + -1) = z - 1 := by rw [wi32 (by omega) (by omega)]; omega
      obtain ⟨c', e1, e2⟩ := ih (z - 1) (drm c 131 k h v z) (by omega) (by omega) (Or.inr ⟨z, rfl⟩)
      refine ⟨c', ?_, e2⟩
      rw [if_neg fb]
      simp only [xe_113_56, xe_113_58, xe_113_61, xe_113_62, xe_113_65, xe_113_66, xe_113_67, xe_113_68, xe_113_70, xe_113_73, xe_113_74, xe_113_77, xe_113_80, xe_113_82, xe_113_85, xe_113_87, xe_113_88, xe_113_91, xe_113_93, xe_113_94 _ _ _ _ _ _ _ _ (some (vI _)) _ _ _ _ rfl, xe_113_94 _ _ _ _ _ _ _ _ (some (vR _)) _ _ _ _ rfl, xe_113_94 _ _ _ _ _ _ _ _ none _ _ _ _ rfl, xe_113_97, xe_113_100, xe_113_101, ite_self, mm_nL_I, mm_nL_R, mm_nL_0, Option.bind_some, Option.bind_none, bnd_ite, Option.toList_some, Option.toList_none, List.cons_append, List.nil_append, mm_cats_nil, mm_cats_I, mm_cats_L, mm_cats_R, if_true, if_false, true_and, and_true, false_and, and_false, not_true_eq_false, not_false_eq_true, Int.reduceLE, Int.reduceLT, Int.reduceEq, Int.reduceNe, Int.reduceNeg, Int.reduceAdd, Int.reduceSub, Int.reduceMul, Nat.reduceAdd, Nat.reduceLeDiff, true_or, or_true, false_or, or_false, reduceIte, k_10, k_131, g, p6, p6', D, drm_0, N, cmp_gt, f', w]
      exact e1
theorem s_fastMl (L k h v l q d : Int) (r : MM) (p : r 149 29 = 164) (hl : l = 1 ∨ l = 2 ∨ l = 4) (q0 : 0 ≤ q) (q3 : q ≤ 3) (h0 : 0 ≤ h) (h1 : h ≤ 4095) (v0 : 0 ≤ v) (v1 : v ≤ 4095) (d0 : 0 ≤ d) (d1 : d ≤ 12) : ∀ (n : Nat) (z : Int) (c1 : MM), z = 19 + n → z ≤ 240 → (c1 = r ∨ ∃ z', c1 = wkm r k h v z') →
    ∃ c', ev 210 54 [some (vR 149), some (vI k), some (vI h), some (vI v), some (vI l), some (vI q), some (vI d), some (vI z)] [] c1 (g_1 L) = some (some (vI (fz (fap k h v d (rom l q)) z n)), c', g_1 L) ∧ (c' = r ∨ ∃ z', c' = wkm r k h v z') := by
  intro n
  induction n with
  | zero =>
    intro z c1 hz _ hc
    have g : z < 20 := by omega
    refine ⟨c1, ?_, hc⟩
    simp only [xe_210_54, xe_210_56, xe_210_58, xe_210_107, xe_210_108, ite_self, mm_nL_I, mm_nL_R, mm_nL_0, Option.bind_some, Option.bind_none, bnd_ite, Option.toList_some, Option.toList_none, List.cons_append, List.nil_append, mm_cats_nil, mm_cats_I, mm_cats_L, mm_cats_R, if_true, if_false, true_and, and_true, false_and, and_false, not_true_eq_false, not_false_eq_true, Int.reduceLE, Int.reduceLT, Int.reduceEq, Int.reduceNe, Int.reduceNeg, Int.reduceAdd, Int.reduceSub, Int.reduceMul, Nat.reduceAdd, Nat.reduceLeDiff, true_or, or_true, false_or, or_false, reduceIte, g, fz]
  | succ n ih =>
    intro z c1 hz hz2 hc
    have g : ¬ z < 20 := by omega
    have p1 : c1 149 29 = 164 := by
      rcases hc with rfl | ⟨z', rfl⟩
      · exact p
      · rw [wkm_a _ _ _ _ _ _ (by omega)]; exact p
    have D := s_works L k h v z c1 p1 h0 h1 v0 v1 (by omega) hz2
    have ed : wkm c1 k h v z = wkm r k h v z := by
      rcases hc with rfl | ⟨z', rfl⟩
      · rfl
      · exact wkm_wkm _ _ _ _ _ _
    have p' : wkm r k h v z 149 29 = 164 := by rw [wkm_a _ _ _ _ _ _ (by omega)]; exact p
    rw [ed] at D
    obtain ⟨o1, o2, o3, _⟩ := dr_ok (k := k) h0 h1 v0 v1 (show 0 ≤ z by omega) hz2
    have K := s_roomOfM l q (wkm r k h v z) (g_1 L) hl q0 q3
    have x8 : wkm r k h v z 164 8 = drk k h v z := by rw [wkm_j _ _ _ _ _ _ (by omega) (by omega), dr_8]
    have b := mul_bd (show 0 ≤ 3 * d by omega) (show 3 * d ≤ 36 by omega) o2 o3
    have u1 : w64 (3 * d) = 3 * d := wi64 (by omega) (by omega)
    have u2 : w64 (3 * d * drk k h v z) = drk k h v z * 3 * d := by
      have e : 3 * d * drk k h v z = drk k h v z * 3 * d := by rw [Int.mul_comm (3 * d), Int.mul_assoc]
      rw [← e, wi64 (by omega) (by omega)]
    rw [xe_210_54]
    simp only [fz]
    by_cases f : drk k h v z * 3 * d ≤ rom l q
    · have f' : ¬ rom l q < drk k h v z * 3 * d := by omega
      have fb : fap k h v d (rom l q) z = true := decide_eq_true f
      refine ⟨wkm r k h v z, ?_, Or.inr ⟨z, rfl⟩⟩
      simp only [xe_210_56, xe_210_58, xe_210_61, xe_210_62, xe_210_63, xe_210_64, xe_210_65, xe_210_67, xe_210_70, xe_210_73, xe_210_75, xe_210_76, xe_210_77, xe_210_78, xe_210_81, xe_210_83, xe_210_84, xe_210_85, xe_210_86, xe_210_88, xe_210_90, xe_210_93, xe_210_94, xe_210_95, xe_210_98, xe_210_100, xe_210_101 _ _ _ _ _ _ (some (vI _)) _ _ _ _ rfl, xe_210_101 _ _ _ _ _ _ (some (vR _)) _ _ _ _ rfl, xe_210_101 _ _ _ _ _ _ none _ _ _ _ rfl, xe_210_104, xe_210_107, xe_210_108, ite_self, mm_nL_I, mm_nL_R, mm_nL_0, Option.bind_some, Option.bind_none, bnd_ite, Option.toList_some, Option.toList_none, List.cons_append, List.nil_append, mm_cats_nil, mm_cats_I, mm_cats_L, mm_cats_R, if_true, if_false, true_and, and_true, false_and, and_false, not_true_eq_false, not_false_eq_true, Int.reduceLE, Int.reduceLT, Int.reduceEq, Int.reduceNe, Int.reduceNeg, Int.reduceAdd, Int.reduceSub, Int.reduceMul, Nat.reduceAdd, Nat.reduceLeDiff, true_or, or_true, false_or, or_false, reduceIte, k_149, k_164, l_164, g, D, p', x8, K, u1, u2, cmp_gt, f', fb]
    · have f' : rom l q < drk k h v z * 3 * d := by omega
      have fb : ¬ fap k h v d (rom l q) z = true := fun e => f (of_decide_eq_true e)
      have w : w32 (z + -1) = z - 1 := by rw [wi32 (by omega) (by omega)]; omega
      obtain ⟨c', e1, e2⟩ := ih (z - 1) (wkm r k h v z) (by omega) (by omega) (Or.inr ⟨z, rfl⟩)
      refine ⟨c', ?_, e2⟩
      rw [if_neg fb]
      simp only [xe_210_56, xe_210_58, xe_210_61, xe_210_62, xe_210_63, xe_210_64, xe_210_65, xe_210_67, xe_210_70, xe_210_73, xe_210_75, xe_210_76, xe_210_77, xe_210_78, xe_210_81, xe_210_83, xe_210_84, xe_210_85, xe_210_86, xe_210_88, xe_210_90, xe_210_93, xe_210_94, xe_210_95, xe_210_98, xe_210_100, xe_210_101 _ _ _ _ _ _ (some (vI _)) _ _ _ _ rfl, xe_210_101 _ _ _ _ _ _ (some (vR _)) _ _ _ _ rfl, xe_210_101 _ _ _ _ _ _ none _ _ _ _ rfl, xe_210_104, xe_210_107, xe_210_108, ite_self, mm_nL_I, mm_nL_R, mm_nL_0, Option.bind_some, Option.bind_none, bnd_ite, Option.toList_some, Option.toList_none, List.cons_append, List.nil_append, mm_cats_nil, mm_cats_I, mm_cats_L, mm_cats_R, if_true, if_false, true_and, and_true, false_and, and_false, not_true_eq_false, not_false_eq_true, Int.reduceLE, Int.reduceLT, Int.reduceEq, Int.reduceNe, Int.reduceNeg, Int.reduceAdd, Int.reduceSub, Int.reduceMul, Nat.reduceAdd, Nat.reduceLeDiff, true_or, or_true, false_or, or_false, reduceIte, k_149, k_164, l_164, g, D, p', x8, K, u1, u2, cmp_gt, f', w]
      exact e1
def fav (k h v l q d : Int) : Int := if k = 0 ∨ k = 1 then if (64 ≤ h ∧ h ≤ 4095 ∧ 48 ≤ v ∧ v ≤ 4095) ∧ ((l = 1 ∨ l = 2 ∨ l = 4) ∧ 0 ≤ q ∧ q ≤ 3) ∧ (d = 6 ∨ d = 8 ∨ d = 10 ∨ d = 12) then fz (fap k h v d (rom l q)) 240 221 else -3 else -2
theorem s_fastX (L k h v l q d : Int) (c : MM) (hX : SX c) (hS : Rst c) : ∃ c', ev 113 0 [some (vR 10), some (vI k), some (vI h), some (vI v), some (vI l), some (vI q), some (vI d), none, none, none] [] c (g_1 L) = some (some (vI (fav k h v l q d)), c', g_1 L) ∧ (c' = c ∨ ∃ z', c' = drm c 131 k h v z') := by
  unfold fav
  by_cases hk : k = 0 ∨ k = 1
  · rw [if_pos hk]
    by_cases hs : 64 ≤ h ∧ h ≤ 4095 ∧ 48 ≤ v ∧ v ≤ 4095
    · by_cases hl : (l = 1 ∨ l = 2 ∨ l = 4) ∧ 0 ≤ q ∧ q ≤ 3
      · by_cases hd : d = 6 ∨ d = 8 ∨ d = 10 ∨ d = 12
        · obtain ⟨c', e1, e2⟩ := s_fastXl L k h v l q d (rom l q) c hX (by omega) (by omega) (by omega) (by omega) (by omega) (by omega) 221 240 c (by omega) (by omega) (Or.inl rfl)
          refine ⟨c', ?_, e2⟩
          rw [if_pos ⟨hs, hl, hd⟩]
          have K := s_roomOfX L l q c hS hl.1 hl.2.1 hl.2.2
          simp only [xe_113_0, xe_113_1, xe_113_4, xe_113_7, xe_113_9, xe_113_10, xe_113_11, xe_113_12, xe_113_15, xe_113_18, xe_113_20, xe_113_22, xe_113_25, xe_113_28, xe_113_30, xe_113_33, xe_113_36, xe_113_38, xe_113_39, xe_113_41, xe_113_43, xe_113_46, xe_113_47 _ _ _ _ _ _ (some (vI _)) _ _ _ _ _ _ _ rfl, xe_113_47 _ _ _ _ _ _ (some (vR _)) _ _ _ _ _ _ _ rfl, xe_113_47 _ _ _ _ _ _ none _ _ _ _ _ _ _ rfl, xe_113_49, xe_113_52 _ _ _ _ _ _ _ _ (some (vI _)) _ _ _ _ _ rfl, xe_113_52 _ _ _ _ _ _ _ _ (some (vR _)) _ _ _ _ _ rfl, xe_113_52 _ _ _ _ _ _ _ _ none _ _ _ _ _ rfl, ite_self, mm_nL_I, mm_nL_R, mm_nL_0, Option.bind_some, Option.bind_none, bnd_ite, Option.toList_some, Option.toList_none, List.cons_append, List.nil_append, mm_cats_nil, mm_cats_I, mm_cats_L, mm_cats_R, if_true, if_false, true_and, and_true, false_and, and_false, not_true_eq_false, not_false_eq_true, Int.reduceLE, Int.reduceLT, Int.reduceEq, Int.reduceNe, Int.reduceNeg, Int.reduceAdd, Int.reduceSub, Int.reduceMul, Nat.reduceAdd, Nat.reduceLeDiff, true_or, or_true, false_or, or_false, reduceIte, s_isFormulaX, s_isSizeX, s_isLinkX, s_isDepthX, bi, hk, hs, hl, hd, K]
          exact e1
        · refine ⟨c, ?_, Or.inl rfl⟩
          rw [if_neg (fun q => hd q.2.2)]
          simp only [xe_113_0, xe_113_1, xe_113_4, xe_113_7, xe_113_9, xe_113_10, xe_113_11, xe_113_12, xe_113_15, xe_113_18, xe_113_20, xe_113_22, xe_113_25, xe_113_28, xe_113_30, xe_113_33, xe_113_36, xe_113_38, xe_113_39, xe_113_41, xe_113_43, xe_113_46, xe_113_47 _ _ _ _ _ _ (some (vI _)) _ _ _ _ _ _ _ rfl, xe_113_47 _ _ _ _ _ _ (some (vR _)) _ _ _ _ _ _ _ rfl, xe_113_47 _ _ _ _ _ _ none _ _ _ _ _ _ _ rfl, xe_113_49, xe_113_52 _ _ _ _ _ _ _ _ (some (vI _)) _ _ _ _ _ rfl, xe_113_52 _ _ _ _ _ _ _ _ (some (vR _)) _ _ _ _ _ rfl, xe_113_52 _ _ _ _ _ _ _ _ none _ _ _ _ _ rfl, ite_self, mm_nL_I, mm_nL_R, mm_nL_0, Option.bind_some, Option.bind_none, bnd_ite, Option.toList_some, Option.toList_none, List.cons_append, List.nil_append, mm_cats_nil, mm_cats_I, mm_cats_L, mm_cats_R, if_true, if_false, true_and, and_true, false_and, and_false, not_true_eq_false, not_false_eq_true, Int.reduceLE, Int.reduceLT, Int.reduceEq, Int.reduceNe, Int.reduceNeg, Int.reduceAdd, Int.reduceSub, Int.reduceMul, Nat.reduceAdd, Nat.reduceLeDiff, true_or, or_true, false_or, or_false, reduceIte, s_isFormulaX, s_isSizeX, s_isLinkX, s_isDepthX, bi, hk, hs, hl, hd]
      · refine ⟨c, ?_, Or.inl rfl⟩
        rw [if_neg (fun q => hl q.2.1)]
        simp only [xe_113_0, xe_113_1, xe_113_4, xe_113_7, xe_113_9, xe_113_10, xe_113_11, xe_113_12, xe_113_15, xe_113_18, xe_113_20, xe_113_22, xe_113_25, xe_113_28, xe_113_30, xe_113_33, xe_113_36, xe_113_38, xe_113_39, xe_113_41, xe_113_43, xe_113_46, xe_113_47 _ _ _ _ _ _ (some (vI _)) _ _ _ _ _ _ _ rfl, xe_113_47 _ _ _ _ _ _ (some (vR _)) _ _ _ _ _ _ _ rfl, xe_113_47 _ _ _ _ _ _ none _ _ _ _ _ _ _ rfl, xe_113_49, xe_113_52 _ _ _ _ _ _ _ _ (some (vI _)) _ _ _ _ _ rfl, xe_113_52 _ _ _ _ _ _ _ _ (some (vR _)) _ _ _ _ _ rfl, xe_113_52 _ _ _ _ _ _ _ _ none _ _ _ _ _ rfl, ite_self, mm_nL_I, mm_nL_R, mm_nL_0, Option.bind_some, Option.bind_none, bnd_ite, Option.toList_some, Option.toList_none, List.cons_append, List.nil_append, mm_cats_nil, mm_cats_I, mm_cats_L, mm_cats_R, if_true, if_false, true_and, and_true, false_and, and_false, not_true_eq_false, not_false_eq_true, Int.reduceLE, Int.reduceLT, Int.reduceEq, Int.reduceNe, Int.reduceNeg, Int.reduceAdd, Int.reduceSub, Int.reduceMul, Nat.reduceAdd, Nat.reduceLeDiff, true_or, or_true, false_or, or_false, reduceIte, s_isFormulaX, s_isSizeX, s_isLinkX, bi, hk, hs, hl]
    · refine ⟨c, ?_, Or.inl rfl⟩
      rw [if_neg (fun q => hs q.1)]
      simp only [xe_113_0, xe_113_1, xe_113_4, xe_113_7, xe_113_9, xe_113_10, xe_113_11, xe_113_12, xe_113_15, xe_113_18, xe_113_20, xe_113_22, xe_113_25, xe_113_28, xe_113_30, xe_113_33, xe_113_36, xe_113_38, xe_113_39, xe_113_41, xe_113_43, xe_113_46, xe_113_47 _ _ _ _ _ _ (some (vI _)) _ _ _ _ _ _ _ rfl, xe_113_47 _ _ _ _ _ _ (some (vR _)) _ _ _ _ _ _ _ rfl, xe_113_47 _ _ _ _ _ _ none _ _ _ _ _ _ _ rfl, xe_113_49, xe_113_52 _ _ _ _ _ _ _ _ (some (vI _)) _ _ _ _ _ rfl, xe_113_52 _ _ _ _ _ _ _ _ (some (vR _)) _ _ _ _ _ rfl, xe_113_52 _ _ _ _ _ _ _ _ none _ _ _ _ _ rfl, ite_self, mm_nL_I, mm_nL_R, mm_nL_0, Option.bind_some, Option.bind_none, bnd_ite, Option.toList_some, Option.toList_none, List.cons_append, List.nil_append, mm_cats_nil, mm_cats_I, mm_cats_L, mm_cats_R, if_true, if_false, true_and, and_true, false_and, and_false, not_true_eq_false, not_false_eq_true, Int.reduceLE, Int.reduceLT, Int.reduceEq, Int.reduceNe, Int.reduceNeg, Int.reduceAdd, Int.reduceSub, Int.reduceMul, Nat.reduceAdd, Nat.reduceLeDiff, true_or, or_true, false_or, or_false, reduceIte, s_isFormulaX, s_isSizeX, bi, hk, hs]
  · refine ⟨c, ?_, Or.inl rfl⟩
    rw [if_neg hk]
    simp only [xe_113_0, xe_113_1, xe_113_4, xe_113_7, xe_113_9, xe_113_10, xe_113_11, xe_113_12, xe_113_15, xe_113_18, xe_113_20, xe_113_22, xe_113_25, xe_113_28, xe_113_30, xe_113_33, xe_113_36, xe_113_38, xe_113_39, xe_113_41, xe_113_43, xe_113_46, xe_113_47 _ _ _ _ _ _ (some (vI _)) _ _ _ _ _ _ _ rfl, xe_113_47 _ _ _ _ _ _ (some (vR _)) _ _ _ _ _ _ _ rfl, xe_113_47 _ _ _ _ _ _ none _ _ _ _ _ _ _ rfl, xe_113_49, xe_113_52 _ _ _ _ _ _ _ _ (some (vI _)) _ _ _ _ _ rfl, xe_113_52 _ _ _ _ _ _ _ _ (some (vR _)) _ _ _ _ _ rfl, xe_113_52 _ _ _ _ _ _ _ _ none _ _ _ _ _ rfl, ite_self, mm_nL_I, mm_nL_R, mm_nL_0, Option.bind_some, Option.bind_none, bnd_ite, Option.toList_some, Option.toList_none, List.cons_append, List.nil_append, mm_cats_nil, mm_cats_I, mm_cats_L, mm_cats_R, if_true, if_false, true_and, and_true, false_and, and_false, not_true_eq_false, not_false_eq_true, Int.reduceLE, Int.reduceLT, Int.reduceEq, Int.reduceNe, Int.reduceNeg, Int.reduceAdd, Int.reduceSub, Int.reduceMul, Nat.reduceAdd, Nat.reduceLeDiff, true_or, or_true, false_or, or_false, reduceIte, s_isFormulaX, bi, hk]
theorem s_fastM (L k h v l q d : Int) (r : MM) (hM : SM r) (d1 : -2147483648 ≤ d) (d2 : d < 2147483648) : ∃ r', ev 210 0 [some (vR 149), some (vI k), some (vI h), some (vI v), some (vI l), some (vI q), some (vI d), none] [] r (g_1 L) = some (some (vI (fav k h v l q d)), r', g_1 L) ∧ (r' = mset r 149 0 0 ∨ ∃ z', r' = wkm (mset r 149 0 0) k h v z') := by
  have p29 : mset r 149 0 0 149 29 = 164 := by rw [ms_nk _ _ _ _ _ _ (by omega)]; exact sm_149_29 hM
  have RF := s_refuses h v 20 (mset r 149 0 0) (g_1 L)
  unfold fav
  by_cases hk : k = 0 ∨ k = 1
  · have hk' : 0 ≤ k ∧ k ≤ 1 := by omega
    rw [if_pos hk]
    by_cases hs : 64 ≤ h ∧ h ≤ 4095 ∧ 48 ≤ v ∧ v ≤ 4095
    · rw [if_pos ⟨⟨hs.1, hs.2.1⟩, hs.2.2, by omega, by omega⟩] at RF
      by_cases hl : (l = 1 ∨ l = 2 ∨ l = 4) ∧ 0 ≤ q ∧ q ≤ 3
      · by_cases hd : d = 6 ∨ d = 8 ∨ d = 10 ∨ d = 12
        · obtain ⟨c', e1, e2⟩ := s_fastMl L k h v l q d (mset r 149 0 0) p29 hl.1 hl.2.1 hl.2.2 (by omega) (by omega) (by omega) (by omega) (by omega) (by omega) 221 240 (mset r 149 0 0) (by omega) (by omega) (Or.inl rfl)
          refine ⟨c', ?_, e2⟩
          rw [if_pos ⟨hs, hl, hd⟩]
          simp only [xe_210_0, xe_210_1, xe_210_2, xe_210_5, xe_210_6, xe_210_7, xe_210_8, xe_210_9, xe_210_12, xe_210_15, xe_210_17, xe_210_18, xe_210_19, xe_210_20, xe_210_22, xe_210_25, xe_210_28, xe_210_30, xe_210_32, xe_210_35, xe_210_38, xe_210_40, xe_210_43, xe_210_46, xe_210_48, xe_210_49, xe_210_52 _ _ _ _ _ _ (some (vI _)) _ _ _ _ _ rfl, xe_210_52 _ _ _ _ _ _ (some (vR _)) _ _ _ _ _ rfl, xe_210_52 _ _ _ _ _ _ none _ _ _ _ _ rfl, ite_self, mm_nL_I, mm_nL_R, mm_nL_0, Option.bind_some, Option.bind_none, bnd_ite, Option.toList_some, Option.toList_none, List.cons_append, List.nil_append, mm_cats_nil, mm_cats_I, mm_cats_L, mm_cats_R, if_true, if_false, true_and, and_true, false_and, and_false, not_true_eq_false, not_false_eq_true, Int.reduceLE, Int.reduceLT, Int.reduceEq, Int.reduceNe, Int.reduceNeg, Int.reduceAdd, Int.reduceSub, Int.reduceMul, Nat.reduceAdd, Nat.reduceLeDiff, true_or, or_true, false_or, or_false, reduceIte, k_149, s_isIn, s_isLinkM, s_isDepthM d _ _ d1 d2, bi, hk', hl, hd, RF]
          exact e1
        · refine ⟨mset r 149 0 0, ?_, Or.inl rfl⟩
          rw [if_neg (fun q => hd q.2.2)]
          simp only [xe_210_0, xe_210_1, xe_210_2, xe_210_5, xe_210_6, xe_210_7, xe_210_8, xe_210_9, xe_210_12, xe_210_15, xe_210_17, xe_210_18, xe_210_19, xe_210_20, xe_210_22, xe_210_25, xe_210_28, xe_210_30, xe_210_32, xe_210_35, xe_210_38, xe_210_40, xe_210_43, xe_210_46, xe_210_48, xe_210_49, xe_210_52 _ _ _ _ _ _ (some (vI _)) _ _ _ _ _ rfl, xe_210_52 _ _ _ _ _ _ (some (vR _)) _ _ _ _ _ rfl, xe_210_52 _ _ _ _ _ _ none _ _ _ _ _ rfl, ite_self, mm_nL_I, mm_nL_R, mm_nL_0, Option.bind_some, Option.bind_none, bnd_ite, Option.toList_some, Option.toList_none, List.cons_append, List.nil_append, mm_cats_nil, mm_cats_I, mm_cats_L, mm_cats_R, if_true, if_false, true_and, and_true, false_and, and_false, not_true_eq_false, not_false_eq_true, Int.reduceLE, Int.reduceLT, Int.reduceEq, Int.reduceNe, Int.reduceNeg, Int.reduceAdd, Int.reduceSub, Int.reduceMul, Nat.reduceAdd, Nat.reduceLeDiff, true_or, or_true, false_or, or_false, reduceIte, k_149, s_isIn, s_isLinkM, s_isDepthM d _ _ d1 d2, bi, hk', hl, hd, RF]
      · refine ⟨mset r 149 0 0, ?_, Or.inl rfl⟩
        rw [if_neg (fun q => hl q.2.1)]
        simp only [xe_210_0, xe_210_1, xe_210_2, xe_210_5, xe_210_6, xe_210_7, xe_210_8, xe_210_9, xe_210_12, xe_210_15, xe_210_17, xe_210_18, xe_210_19, xe_210_20, xe_210_22, xe_210_25, xe_210_28, xe_210_30, xe_210_32, xe_210_35, xe_210_38, xe_210_40, xe_210_43, xe_210_46, xe_210_48, xe_210_49, xe_210_52 _ _ _ _ _ _ (some (vI _)) _ _ _ _ _ rfl, xe_210_52 _ _ _ _ _ _ (some (vR _)) _ _ _ _ _ rfl, xe_210_52 _ _ _ _ _ _ none _ _ _ _ _ rfl, ite_self, mm_nL_I, mm_nL_R, mm_nL_0, Option.bind_some, Option.bind_none, bnd_ite, Option.toList_some, Option.toList_none, List.cons_append, List.nil_append, mm_cats_nil, mm_cats_I, mm_cats_L, mm_cats_R, if_true, if_false, true_and, and_true, false_and, and_false, not_true_eq_false, not_false_eq_true, Int.reduceLE, Int.reduceLT, Int.reduceEq, Int.reduceNe, Int.reduceNeg, Int.reduceAdd, Int.reduceSub, Int.reduceMul, Nat.reduceAdd, Nat.reduceLeDiff, true_or, or_true, false_or, or_false, reduceIte, k_149, s_isIn, s_isLinkM, bi, hk', hl, RF]
    · rw [if_neg (fun q => hs ⟨q.1.1, q.1.2, q.2.1⟩)] at RF
      refine ⟨mset r 149 0 0, ?_, Or.inl rfl⟩
      rw [if_neg (fun q => hs q.1)]
      simp only [xe_210_0, xe_210_1, xe_210_2, xe_210_5, xe_210_6, xe_210_7, xe_210_8, xe_210_9, xe_210_12, xe_210_15, xe_210_17, xe_210_18, xe_210_19, xe_210_20, xe_210_22, xe_210_25, xe_210_28, xe_210_30, xe_210_32, xe_210_35, xe_210_38, xe_210_40, xe_210_43, xe_210_46, xe_210_48, xe_210_49, xe_210_52 _ _ _ _ _ _ (some (vI _)) _ _ _ _ _ rfl, xe_210_52 _ _ _ _ _ _ (some (vR _)) _ _ _ _ _ rfl, xe_210_52 _ _ _ _ _ _ none _ _ _ _ _ rfl, ite_self, mm_nL_I, mm_nL_R, mm_nL_0, Option.bind_some, Option.bind_none, bnd_ite, Option.toList_some, Option.toList_none, List.cons_append, List.nil_append, mm_cats_nil, mm_cats_I, mm_cats_L, mm_cats_R, if_true, if_false, true_and, and_true, false_and, and_false, not_true_eq_false, not_false_eq_true, Int.reduceLE, Int.reduceLT, Int.reduceEq, Int.reduceNe, Int.reduceNeg, Int.reduceAdd, Int.reduceSub, Int.reduceMul, Nat.reduceAdd, Nat.reduceLeDiff, true_or, or_true, false_or, or_false, reduceIte, k_149, s_isIn, bi, hk', RF]
  · have hk' : ¬ (0 ≤ k ∧ k ≤ 1) := by omega
    refine ⟨mset r 149 0 0, ?_, Or.inl rfl⟩
    rw [if_neg hk]
    simp only [xe_210_0, xe_210_1, xe_210_2, xe_210_5, xe_210_6, xe_210_7, xe_210_8, xe_210_9, xe_210_12, xe_210_15, xe_210_17, xe_210_18, xe_210_19, xe_210_20, xe_210_22, xe_210_25, xe_210_28, xe_210_30, xe_210_32, xe_210_35, xe_210_38, xe_210_40, xe_210_43, xe_210_46, xe_210_48, xe_210_49, xe_210_52 _ _ _ _ _ _ (some (vI _)) _ _ _ _ _ rfl, xe_210_52 _ _ _ _ _ _ (some (vR _)) _ _ _ _ _ rfl, xe_210_52 _ _ _ _ _ _ none _ _ _ _ _ rfl, ite_self, mm_nL_I, mm_nL_R, mm_nL_0, Option.bind_some, Option.bind_none, bnd_ite, Option.toList_some, Option.toList_none, List.cons_append, List.nil_append, mm_cats_nil, mm_cats_I, mm_cats_L, mm_cats_R, if_true, if_false, true_and, and_true, false_and, and_false, not_true_eq_false, not_false_eq_true, Int.reduceLE, Int.reduceLT, Int.reduceEq, Int.reduceNe, Int.reduceNeg, Int.reduceAdd, Int.reduceSub, Int.reduceMul, Nat.reduceAdd, Nat.reduceLeDiff, true_or, or_true, false_or, or_false, reduceIte, k_149, s_isIn, bi, hk']
