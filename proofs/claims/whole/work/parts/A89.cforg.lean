/-! forged, both sides -/
theorem fgp_nm {nm nm' : Int → Int} (b : Int → Int) (n nl hr : Int) (md : Int → Int → Int) (rg : Int → Int) (h : ∀ k, 0 ≤ k → k < nl → nm k = nm' k) : fgp b n nl hr md nm rg = fgp b n nl hr md nm' rg := by
  funext i
  unfold fgp
  by_cases a1 : 1 ≤ i ∧ i ≤ 6
  · rw [if_pos a1, if_pos a1]
  · rw [if_neg a1, if_neg a1]
    split
    · rfl
    · split
      · rfl
      · by_cases q : 54 ≤ i ∧ i < 126
        · rw [if_pos q, if_pos q]
          generalize (i - 54) / 18 = d
          generalize (i - 54) % 18 = k
          unfold fgd
          by_cases p : d < n
          · rw [if_pos p, if_pos p]
          · rw [if_neg p, if_neg p]
            by_cases e : d = n
            · rw [if_pos e, if_pos e]
              by_cases l : 0 < nl
              · rw [if_pos l, if_pos l]
                by_cases k3 : k = 3
                · rw [if_pos k3, if_pos k3]
                · rw [if_neg k3, if_neg k3]
                  by_cases k5 : 5 ≤ k
                  · rw [if_pos k5, if_pos k5]
                    by_cases kl : k - 5 < nl
                    · rw [if_pos kl, if_pos kl]; exact h _ (by omega) kl
                    · rw [if_neg kl, if_neg kl]
                  · rw [if_neg k5, if_neg k5]
              · rw [if_neg l, if_neg l]
            · rw [if_neg e, if_neg e]
        · rw [if_neg q, if_neg q]
section FD
variable {L : Int} {c r : MM}
theorem c_forged (i : Int) (h : RR c r) : CALL L 107 [some (vR 10), some (vI i)] 188 [some (vR 149), some (vI i)] c r := by
  have hX := h.1
  have hM := h.2.1
  have hS := h.2.2.2.2.2.1
  have b6 : mset r 149 0 0 149 6 = c 16 5 := by rw [ms_nk _ _ _ _ _ _ (by omega)]; exact hS.1.symm
  by_cases a : 0 ≤ i ∧ i ≤ 127
  · have l0 : ¬ i < 0 := by omega
    have l1 : i < 128 := by omega
    by_cases z : c 16 5 = 0
    · refine CALL.ask h (-5) ?_ ?_
      · simp only [xe_107_0, xe_107_1, xe_107_4, xe_107_5, xe_107_8, xe_107_11, xe_107_13, xe_107_14, xe_107_15, xe_107_18, xe_107_21, xe_107_24, xe_107_26, xe_107_27, xe_107_28, xe_107_31, xe_107_34, xe_107_37, xe_107_38, xe_107_41, xe_107_42, xe_107_45, xe_107_48, xe_107_49, ite_self, mm_nL_I, mm_nL_R, mm_nL_0, Option.bind_some, Option.bind_none, bnd_ite, Option.toList_some, Option.toList_none, List.cons_append, List.nil_append, mm_cats_nil, mm_cats_I, mm_cats_L, mm_cats_R, if_true, if_false, true_and, and_true, false_and, and_false, not_true_eq_false, not_false_eq_true, Int.reduceLE, Int.reduceLT, Int.reduceEq, Int.reduceNe, Int.reduceNeg, Int.reduceAdd, Int.reduceSub, Int.reduceMul, Nat.reduceAdd, Nat.reduceLeDiff, true_or, or_true, false_or, or_false, reduceIte, k_10, k_16, sx_10_3 hX, l0, l1, eq_true z]
      · simp only [xe_188_0, xe_188_1, xe_188_2, xe_188_5, xe_188_6, xe_188_7, xe_188_8, xe_188_11, xe_188_14, xe_188_17, xe_188_19, xe_188_20, xe_188_21, xe_188_24, xe_188_27, xe_188_29, xe_188_30, xe_188_31, xe_188_34, xe_188_37, xe_188_38, xe_188_41, xe_188_42, xe_188_43, xe_188_46, xe_188_47, ite_self, mm_nL_I, mm_nL_R, mm_nL_0, Option.bind_some, Option.bind_none, bnd_ite, Option.toList_some, Option.toList_none, List.cons_append, List.nil_append, mm_cats_nil, mm_cats_I, mm_cats_L, mm_cats_R, if_true, if_false, true_and, and_true, false_and, and_false, not_true_eq_false, not_false_eq_true, Int.reduceLE, Int.reduceLT, Int.reduceEq, Int.reduceNe, Int.reduceNeg, Int.reduceAdd, Int.reduceSub, Int.reduceMul, Nat.reduceAdd, Nat.reduceLeDiff, true_or, or_true, false_or, or_false, reduceIte, k_149, s_isIn, bi, a, b6, eq_true z]
    · obtain ⟨f1, f2, f3⟩ := h.2.2.2.2.2.2.2.2.2.2.2.1 z
      have nm : ∀ k, 0 ≤ k → k < c 16 9 → r 154 k = c 21 k := fun k k0 k1 => (hS.2.2.2.2.2.2.1.2.2.2 k k0 k1).symm
      have t4 : mset r 149 0 0 154 = r 154 := ms_row _ _ _ _ _ (by omega)
      have RF0 : RF c (mset r 149 0 0) := ⟨hM.ke (keR.t r), hS.ke (fun _ _ => rfl) (fun a ha => (keR.t r).1 a (by omega)) (fun k hk => (keR.t r).2 k (by omega)), h.2.2.2.2.2.2.1.ke (fun _ _ => rfl) (fun a ha => (keR.t r).1 a (by omega)) ((keR.t r).2 _ (by omega))⟩
      obtain ⟨w, W⟩ := s_forges (L := L) RF0 (by have := hS.2.1; omega) (fun k k0 k1 => by rw [t4, nm k k0 k1]; exact f3 k k0 k1)
      rw [t4, fgp_nm (c 18) (c 45 4) (c 16 9) (c 16 12) (fun d => tg (c (c 46 d + 1))) (c 22) nm] at W
      have v := f2 i a.1 l1
      have fe : up (fgp (c 18) (c 45 4) (c 16 9) (c 16 12) (fun d => tg (c (c 46 d + 1))) (c 21) (c 22)) 127 ((256 - sm (fgp (c 18) (c 45 4) (c 16 9) (c 16 12) (fun d => tg (c (c 46 d + 1))) (c 21) (c 22)) 0 127 % 256) % 256) i = fgc c i := rfl
      generalize up (fgp (c 18) (c 45 4) (c 16 9) (c 16 12) (fun d => tg (c (c 46 d + 1))) (c 21) (c 22)) 127 ((256 - sm (fgp (c 18) (c 45 4) (c 16 9) (c 16 12) (fun d => tg (c (c 46 d + 1))) (c 21) (c 22)) 0 127 % 256) % 256) = f at *
      have v' := rfo_v (mset r 149 0 0) f w i a.1 l1
      rw [fe, ← v] at v'
      have p26 : rfo (mset r 149 0 0) f w 149 26 = 162 := by rw [rfo_b _ _ _ _ (by omega) (by omega), ms_nk _ _ _ _ _ _ (by omega)]; exact sm_149_26 hM
      have g8 : ¬ 128 ≤ i := by omega
      have n1 : ¬ c 129 1 = 0 := by omega
      have at' : ev 7 0 [some (vR 129), some (vI i)] [] c (g_1 L) = some (some (vI (c 130 i)), c, g_1 L) := by
        simp only [xe_7_0, xe_7_1, xe_7_4, xe_7_5, xe_7_6, xe_7_9, xe_7_10, xe_7_13, xe_7_14, xe_7_17, xe_7_18, xe_7_19, xe_7_22, xe_7_23, ite_self, mm_nL_I, mm_nL_R, mm_nL_0, Option.bind_some, Option.bind_none, bnd_ite, Option.toList_some, Option.toList_none, List.cons_append, List.nil_append, mm_cats_nil, mm_cats_I, mm_cats_L, mm_cats_R, if_true, if_false, true_and, and_true, false_and, and_false, not_true_eq_false, not_false_eq_true, Int.reduceLE, Int.reduceLT, Int.reduceEq, Int.reduceNe, Int.reduceNeg, Int.reduceAdd, Int.reduceSub, Int.reduceMul, Nat.reduceAdd, Nat.reduceLeDiff, true_or, or_true, false_or, or_false, reduceIte, k_129, k_130, l_130, sx_129_0 hX, l0, g8, a.1, l1]
      refine CALL.tell h (c 130 i) c (rfo (mset r 149 0 0) f w) ?_ ?_ (keC.rf c) ⟨fun x hx => ?_, fun k hk => ?_⟩ (fun _ _ => rfl) (fun x hx => ?_)
      · simp only [xe_107_0, xe_107_1, xe_107_4, xe_107_5, xe_107_8, xe_107_11, xe_107_13, xe_107_14, xe_107_15, xe_107_18, xe_107_21, xe_107_24, xe_107_26, xe_107_27, xe_107_28, xe_107_31, xe_107_34, xe_107_37, xe_107_38, xe_107_41, xe_107_42, xe_107_45, xe_107_48, xe_107_49, ite_self, mm_nL_I, mm_nL_R, mm_nL_0, Option.bind_some, Option.bind_none, bnd_ite, Option.toList_some, Option.toList_none, List.cons_append, List.nil_append, mm_cats_nil, mm_cats_I, mm_cats_L, mm_cats_R, if_true, if_false, true_and, and_true, false_and, and_false, not_true_eq_false, not_false_eq_true, Int.reduceLE, Int.reduceLT, Int.reduceEq, Int.reduceNe, Int.reduceNeg, Int.reduceAdd, Int.reduceSub, Int.reduceMul, Nat.reduceAdd, Nat.reduceLeDiff, true_or, or_true, false_or, or_false, reduceIte, k_10, k_16, k_129, sx_10_3 hX, sx_10_5 hX, l0, l1, z, n1, at']
      · simp only [xe_188_0, xe_188_1, xe_188_2, xe_188_5, xe_188_6, xe_188_7, xe_188_8, xe_188_11, xe_188_14, xe_188_17, xe_188_19, xe_188_20, xe_188_21, xe_188_24, xe_188_27, xe_188_29, xe_188_30, xe_188_31, xe_188_34, xe_188_37, xe_188_38, xe_188_41, xe_188_42, xe_188_43, xe_188_46, xe_188_47, ite_self, mm_nL_I, mm_nL_R, mm_nL_0, Option.bind_some, Option.bind_none, bnd_ite, Option.toList_some, Option.toList_none, List.cons_append, List.nil_append, mm_cats_nil, mm_cats_I, mm_cats_L, mm_cats_R, if_true, if_false, true_and, and_true, false_and, and_false, not_true_eq_false, not_false_eq_true, Int.reduceLE, Int.reduceLT, Int.reduceEq, Int.reduceNe, Int.reduceNeg, Int.reduceAdd, Int.reduceSub, Int.reduceMul, Nat.reduceAdd, Nat.reduceLeDiff, true_or, or_true, false_or, or_false, reduceIte, k_149, k_162, l_162, s_isIn, bi, a, b6, z, W, p26, a.1, l1, v']
      · rw [rfo_b _ _ _ _ (by omega) (by omega)]; exact (keR.t r).1 x hx
      · rw [rfo_b _ _ _ _ (by omega) (by omega)]; exact (keR.t r).2 k hk
      · rw [rfo_b _ _ _ _ (by omega) (by omega)]; exact FM.t r x hx
  · refine CALL.ask h (-2) ?_ ?_
    · by_cases l : i < 0
      · simp only [xe_107_0, xe_107_1, xe_107_4, xe_107_5, xe_107_8, xe_107_11, xe_107_13, xe_107_14, xe_107_15, xe_107_18, xe_107_21, xe_107_24, xe_107_26, xe_107_27, xe_107_28, xe_107_31, xe_107_34, xe_107_37, xe_107_38, xe_107_41, xe_107_42, xe_107_45, xe_107_48, xe_107_49, ite_self, mm_nL_I, mm_nL_R, mm_nL_0, Option.bind_some, Option.bind_none, bnd_ite, Option.toList_some, Option.toList_none, List.cons_append, List.nil_append, mm_cats_nil, mm_cats_I, mm_cats_L, mm_cats_R, if_true, if_false, true_and, and_true, false_and, and_false, not_true_eq_false, not_false_eq_true, Int.reduceLE, Int.reduceLT, Int.reduceEq, Int.reduceNe, Int.reduceNeg, Int.reduceAdd, Int.reduceSub, Int.reduceMul, Nat.reduceAdd, Nat.reduceLeDiff, true_or, or_true, false_or, or_false, reduceIte, k_10, l]
      · have l1 : ¬ i < 128 := by omega
        simp only [xe_107_0, xe_107_1, xe_107_4, xe_107_5, xe_107_8, xe_107_11, xe_107_13, xe_107_14, xe_107_15, xe_107_18, xe_107_21, xe_107_24, xe_107_26, xe_107_27, xe_107_28, xe_107_31, xe_107_34, xe_107_37, xe_107_38, xe_107_41, xe_107_42, xe_107_45, xe_107_48, xe_107_49, ite_self, mm_nL_I, mm_nL_R, mm_nL_0, Option.bind_some, Option.bind_none, bnd_ite, Option.toList_some, Option.toList_none, List.cons_append, List.nil_append, mm_cats_nil, mm_cats_I, mm_cats_L, mm_cats_R, if_true, if_false, true_and, and_true, false_and, and_false, not_true_eq_false, not_false_eq_true, Int.reduceLE, Int.reduceLT, Int.reduceEq, Int.reduceNe, Int.reduceNeg, Int.reduceAdd, Int.reduceSub, Int.reduceMul, Nat.reduceAdd, Nat.reduceLeDiff, true_or, or_true, false_or, or_false, reduceIte, k_10, l, l1]
    · simp only [xe_188_0, xe_188_1, xe_188_2, xe_188_5, xe_188_6, xe_188_7, xe_188_8, xe_188_11, xe_188_14, xe_188_17, xe_188_19, xe_188_20, xe_188_21, xe_188_24, xe_188_27, xe_188_29, xe_188_30, xe_188_31, xe_188_34, xe_188_37, xe_188_38, xe_188_41, xe_188_42, xe_188_43, xe_188_46, xe_188_47, ite_self, mm_nL_I, mm_nL_R, mm_nL_0, Option.bind_some, Option.bind_none, bnd_ite, Option.toList_some, Option.toList_none, List.cons_append, List.nil_append, mm_cats_nil, mm_cats_I, mm_cats_L, mm_cats_R, if_true, if_false, true_and, and_true, false_and, and_false, not_true_eq_false, not_false_eq_true, Int.reduceLE, Int.reduceLT, Int.reduceEq, Int.reduceNe, Int.reduceNeg, Int.reduceAdd, Int.reduceSub, Int.reduceMul, Nat.reduceAdd, Nat.reduceLeDiff, true_or, or_true, false_or, or_false, reduceIte, k_149, s_isIn, bi, a]
end FD
