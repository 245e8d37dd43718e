/-! the class's forge -/
def fog (c : MM) (f : Int → Int) : MM := fun b j => if b = 130 ∧ 0 ≤ j ∧ j < 128 then f j else if b = 129 ∧ j = 1 then 1 else c b j
theorem fog_b (c : MM) (f : Int → Int) (b : Int) (h1 : ¬ b = 129) (h2 : ¬ b = 130) : fog c f b = c b := by
  funext j; unfold fog; rw [if_neg (by omega), if_neg (by omega)]
theorem fog_0 (c : MM) (f : Int → Int) : fog c f 129 0 = c 129 0 := by unfold fog; rw [if_neg (by omega), if_neg (by omega)]
theorem fog_1 (c : MM) (f : Int → Int) : fog c f 129 1 = 1 := by unfold fog; rw [if_neg (by omega), if_pos ⟨rfl, rfl⟩]
theorem fog_v (c : MM) (f : Int → Int) (j : Int) (h0 : 0 ≤ j) (h1 : j < 128) : fog c f 130 j = f j := by unfold fog; rw [if_pos ⟨rfl, h0, h1⟩]
theorem fog_u (c : MM) (f : Int → Int) (p v : Int) (h0 : 0 ≤ p) (h1 : p < 128) : mset (fog c f) 130 p v = fog c (up f p v) := by
  funext b j; unfold mset fog up; (repeat' split) <;> first | rfl | (exfalso; omega)
section FG
variable {L : Int} {c : MM}
theorem fo_put (f : Int → Int) (hX : SX c) (d k v : Int) (d0 : 0 ≤ d) (d1 : d < 4) (k0 : 0 ≤ k) (k1 : k < 18) : ev 9 0 [some (vR 129), some (vI d), some (vI k), some (vI v), none] [] (fog c f) (g_1 L) = some (none, fog c (up f (54 + 18 * d + k) v), g_1 L) := by
  have w1 : w32 (d * 18) = 18 * d := by rw [wi32 (by omega) (by omega)]; omega
  have w2 : w32 (54 + 18 * d) = 54 + 18 * d := wi32 (by omega) (by omega)
  have w3 : w32 (54 + 18 * d + k) = 54 + 18 * d + k := wi32 (by omega) (by omega)
  have g0 : ¬ 54 + 18 * d + k < 0 := by omega
  have g1 : ¬ 128 ≤ 54 + 18 * d + k := by omega
  have a : 0 ≤ 54 + 18 * d + k ∧ 54 + 18 * d + k < 128 := by omega
  have p := sx_129_0 hX
  have u := fog_u c f (54 + 18 * d + k) v a.1 a.2
  simp only [xe_9_0, xe_9_2, xe_9_3, xe_9_5, xe_9_6, xe_9_7, xe_9_8, xe_9_9 _ _ _ (some (vI _)) _ _ _ _ _ rfl, xe_9_9 _ _ _ (some (vR _)) _ _ _ _ _ rfl, xe_9_9 _ _ _ none _ _ _ _ _ rfl, xe_9_11, xe_9_13, xe_9_16, xe_9_18, xe_9_19, xe_9_22, xe_9_23, xe_9_26, xe_9_27, xe_9_30, xe_9_32, xe_9_33, xe_9_34, ite_self, mm_nL_I, mm_nL_R, mm_nL_0, Option.bind_some, Option.bind_none, bnd_ite, Option.toList_some, Option.toList_none, List.cons_append, List.nil_append, mm_cats_nil, mm_cats_I, mm_cats_L, mm_cats_R, if_true, if_false, true_and, and_true, false_and, and_false, not_true_eq_false, not_false_eq_true, Int.reduceLE, Int.reduceLT, Int.reduceEq, Int.reduceNe, Int.reduceNeg, Int.reduceAdd, Int.reduceSub, Int.reduceMul, Nat.reduceAdd, Nat.reduceLeDiff, true_or, or_true, false_or, or_false, reduceIte, k_129, k_130, l_130, fog_0, p, w1, w2, w3, g0, g1, a, u]
theorem lp_pt (hX : SX c) (d t : Int) (d0 : 0 ≤ d) (d1 : d < 4) (ht : gk (g_1 L) t = 7) (t0 : 0 < t) (t1 : t < 129) (hn : nn (tg (c t))) : ∀ (m : Nat) (k : Int) (f : Int → Int), 0 ≤ k → k + m = 18 → ev 10 14 [some (vR 129), some (vI d), some (vR t), some (vI k)] [] (fog c f) (g_1 L) = some (none, fog c (bk f d (tg (c t)) k), g_1 L) := by
  intro m
  induction m with
  | zero =>
    intro k f k0 km
    have e : k = 18 := by omega
    subst e
    rw [bk_e, xe_10_14]
    simp only [xe_10_15, xe_10_17, xe_10_20, xe_10_21, xe_10_22, xe_10_23, xe_10_24, xe_10_25, xe_10_28, xe_10_31 _ _ (some (vI _)) _ _ _ _ rfl, xe_10_31 _ _ (some (vR _)) _ _ _ _ rfl, xe_10_31 _ _ none _ _ _ _ rfl, xe_10_34, xe_10_37, ite_self, mm_nL_I, mm_nL_R, mm_nL_0, Option.bind_some, Option.bind_none, bnd_ite, Option.toList_some, Option.toList_none, List.cons_append, List.nil_append, mm_cats_nil, mm_cats_I, mm_cats_L, mm_cats_R, if_true, if_false, true_and, and_true, false_and, and_false, not_true_eq_false, not_false_eq_true, Int.reduceLE, Int.reduceLT, Int.reduceEq, Int.reduceNe, Int.reduceNeg, Int.reduceAdd, Int.reduceSub, Int.reduceMul, Nat.reduceAdd, Nat.reduceLeDiff, true_or, or_true, false_or, or_false, reduceIte]
  | succ m ih =>
    intro k f k0 km
    have I := ih (k + 1) (up f (54 + 18 * d + k) (dbv (tg (c t)) k)) (by omega) (by omega)
    rw [bk_s f d (tg (c t)) k k0 (by omega)] at I
    have e := fog_b c f t (by omega) (by omega)
    have B := s_byteX t k (fog c f) (g_1 L) ht (by rw [e]; exact hn) k0 (by omega)
    rw [e] at B
    have P := fo_put (L := L) f hX d k (dbv (tg (c t)) k) d0 d1 k0 (by omega)
    have g : ¬ 18 ≤ k := by omega
    have w : w32 (k + 1) = k + 1 := wi32 (by omega) (by omega)
    have z : 0 < t := t0
    rw [← I, xe_10_14]
    simp only [xe_10_15, xe_10_17, xe_10_20, xe_10_21, xe_10_22, xe_10_23, xe_10_24, xe_10_25, xe_10_28, xe_10_31 _ _ (some (vI _)) _ _ _ _ rfl, xe_10_31 _ _ (some (vR _)) _ _ _ _ rfl, xe_10_31 _ _ none _ _ _ _ rfl, xe_10_34, xe_10_37, ite_self, mm_nL_I, mm_nL_R, mm_nL_0, Option.bind_some, Option.bind_none, bnd_ite, Option.toList_some, Option.toList_none, List.cons_append, List.nil_append, mm_cats_nil, mm_cats_I, mm_cats_L, mm_cats_R, if_true, if_false, true_and, and_true, false_and, and_false, not_true_eq_false, not_false_eq_true, Int.reduceLE, Int.reduceLT, Int.reduceEq, Int.reduceNe, Int.reduceNeg, Int.reduceAdd, Int.reduceSub, Int.reduceMul, Nat.reduceAdd, Nat.reduceLeDiff, true_or, or_true, false_or, or_false, reduceIte, k_129, ht, z, g, B, P, w]
theorem s_pt (hX : SX c) (f : Int → Int) (d t : Int) (d0 : 0 ≤ d) (d1 : d < 4) (ht : gk (g_1 L) t = 7) (t0 : 0 < t) (t1 : t < 129) (hn : nn (tg (c t))) (hf : fitv (tg (c t)) = true) : ev 10 0 [some (vR 129), some (vI d), some (vR t), none] [] (fog c f) (g_1 L) = some (none, fog c (bk f d (tg (c t)) 0), g_1 L) := by
  have e := fog_b c f t (by omega) (by omega)
  have B := s_fits t (fog c f) (g_1 L) ht
  rw [e, if_pos hf] at B
  have I := lp_pt (L := L) hX d t d0 d1 ht t0 t1 hn 18 0 f (by omega) (by omega)
  have z : 0 < t := t0
  rw [← I]
  simp only [xe_10_0, xe_10_1, xe_10_4, xe_10_7, xe_10_8, xe_10_9, xe_10_12, xe_10_13 _ _ (some (vI _)) _ _ _ _ _ rfl, xe_10_13 _ _ (some (vR _)) _ _ _ _ _ rfl, xe_10_13 _ _ none _ _ _ _ _ rfl, ite_self, mm_nL_I, mm_nL_R, mm_nL_0, Option.bind_some, Option.bind_none, bnd_ite, Option.toList_some, Option.toList_none, List.cons_append, List.nil_append, mm_cats_nil, mm_cats_I, mm_cats_L, mm_cats_R, if_true, if_false, true_and, and_true, false_and, and_false, not_true_eq_false, not_false_eq_true, Int.reduceLE, Int.reduceLT, Int.reduceEq, Int.reduceNe, Int.reduceNeg, Int.reduceAdd, Int.reduceSub, Int.reduceMul, Nat.reduceAdd, Nat.reduceLeDiff, true_or, or_true, false_or, or_false, reduceIte, k_129, ht, z, B]
theorem lp_pn (hX : SX c) (d : Int) (d0 : 0 ≤ d) (d1 : d < 4) (l13 : c 16 9 ≤ 13) : ∀ (m : Nat) (k : Int) (f : Int → Int), 0 ≤ k → k + m = 13 → ev 11 24 [some (vR 129), some (vI d), some (vR 16), some (vI k)] [] (fog c f) (g_1 L) = some (none, fog c (nb f d (c 16 9) (c 21) k), g_1 L) := by
  intro m
  induction m with
  | zero =>
    intro k f k0 km
    have e : k = 13 := by omega
    subst e
    rw [nb_e, xe_11_24]
    simp only [xe_11_25, xe_11_27, xe_11_30, xe_11_31, xe_11_32, xe_11_35, xe_11_38, xe_11_39, xe_11_40, xe_11_41, xe_11_42, xe_11_43, xe_11_44, xe_11_45, xe_11_48, xe_11_51, xe_11_54, xe_11_55, xe_11_56, xe_11_57, xe_11_58, xe_11_59, xe_11_60, xe_11_61, xe_11_64, xe_11_67, xe_11_69, xe_11_72, xe_11_74, xe_11_77 _ _ (some (vI _)) _ _ _ _ rfl, xe_11_77 _ _ (some (vR _)) _ _ _ _ rfl, xe_11_77 _ _ none _ _ _ _ rfl, xe_11_80, xe_11_83, ite_self, mm_nL_I, mm_nL_R, mm_nL_0, Option.bind_some, Option.bind_none, bnd_ite, Option.toList_some, Option.toList_none, List.cons_append, List.nil_append, mm_cats_nil, mm_cats_I, mm_cats_L, mm_cats_R, if_true, if_false, true_and, and_true, false_and, and_false, not_true_eq_false, not_false_eq_true, Int.reduceLE, Int.reduceLT, Int.reduceEq, Int.reduceNe, Int.reduceNeg, Int.reduceAdd, Int.reduceSub, Int.reduceMul, Nat.reduceAdd, Nat.reduceLeDiff, true_or, or_true, false_or, or_false, reduceIte]
  | succ m ih =>
    intro k f k0 km
    have I := ih (k + 1) (up f (54 + 18 * d + (5 + k)) (nmv (c 16 9) (c 21) k)) (by omega) (by omega)
    rw [nb_s f d (c 16 9) (c 21) k k0 (by omega)] at I
    have P := fun v => fo_put (L := L) f hX d (5 + k) v d0 d1 (by omega) (by omega)
    have g : ¬ 13 ≤ k := by omega
    have w : w32 (k + 1) = k + 1 := wi32 (by omega) (by omega)
    have w5 : w32 (5 + k) = 5 + k := wi32 (by omega) (by omega)
    have b16 : fog c f 16 = c 16 := fog_b c f 16 (by omega) (by omega)
    have b21 : fog c f 21 = c 21 := fog_b c f 21 (by omega) (by omega)
    have N : k < c 16 9 → ev 54 0 [some (vR 16), some (vI k)] [] (fog c f) (g_1 L) = some (some (vI (c 21 k)), fog c f, g_1 L) := fun h => by
      have q0 : ¬ k < 0 := by omega
      have q1 : ¬ c 16 9 ≤ k := by omega
      have q3 : 0 ≤ k ∧ k < 13 := by omega
      simp only [xe_54_0, xe_54_1, xe_54_4, xe_54_5, xe_54_6, xe_54_9, xe_54_12, xe_54_13, xe_54_14, xe_54_17, xe_54_18, xe_54_21, xe_54_22, xe_54_25, xe_54_26, xe_54_27, xe_54_30, xe_54_31, ite_self, mm_nL_I, mm_nL_R, mm_nL_0, Option.bind_some, Option.bind_none, bnd_ite, Option.toList_some, Option.toList_none, List.cons_append, List.nil_append, mm_cats_nil, mm_cats_I, mm_cats_L, mm_cats_R, if_true, if_false, true_and, and_true, false_and, and_false, not_true_eq_false, not_false_eq_true, Int.reduceLE, Int.reduceLT, Int.reduceEq, Int.reduceNe, Int.reduceNeg, Int.reduceAdd, Int.reduceSub, Int.reduceMul, Nat.reduceAdd, Nat.reduceLeDiff, true_or, or_true, false_or, or_false, reduceIte, k_16, k_21, l_21, b16, b21, sx_16_3 hX, q0, q1, g, q3]
    rw [← I, xe_11_24]
    unfold nmv
    by_cases a : k < c 16 9
    · have a' : ¬ c 16 9 ≤ k := by omega
      rw [if_pos a]
      simp only [xe_11_25, xe_11_27, xe_11_30, xe_11_31, xe_11_32, xe_11_35, xe_11_38, xe_11_39, xe_11_40, xe_11_41, xe_11_42, xe_11_43, xe_11_44, xe_11_45, xe_11_48, xe_11_51, xe_11_54, xe_11_55, xe_11_56, xe_11_57, xe_11_58, xe_11_59, xe_11_60, xe_11_61, xe_11_64, xe_11_67, xe_11_69, xe_11_72, xe_11_74, xe_11_77 _ _ (some (vI _)) _ _ _ _ rfl, xe_11_77 _ _ (some (vR _)) _ _ _ _ rfl, xe_11_77 _ _ none _ _ _ _ rfl, xe_11_80, xe_11_83, ite_self, mm_nL_I, mm_nL_R, mm_nL_0, Option.bind_some, Option.bind_none, bnd_ite, Option.toList_some, Option.toList_none, List.cons_append, List.nil_append, mm_cats_nil, mm_cats_I, mm_cats_L, mm_cats_R, if_true, if_false, true_and, and_true, false_and, and_false, not_true_eq_false, not_false_eq_true, Int.reduceLE, Int.reduceLT, Int.reduceEq, Int.reduceNe, Int.reduceNeg, Int.reduceAdd, Int.reduceSub, Int.reduceMul, Nat.reduceAdd, Nat.reduceLeDiff, true_or, or_true, false_or, or_false, reduceIte, k_129, k_16, b16, g, a', N a, P, w, w5]
    · have a' : c 16 9 ≤ k := by omega
      rw [if_neg a]
      by_cases e : k = c 16 9
      · rw [if_pos e]
        simp only [xe_11_25, xe_11_27, xe_11_30, xe_11_31, xe_11_32, xe_11_35, xe_11_38, xe_11_39, xe_11_40, xe_11_41, xe_11_42, xe_11_43, xe_11_44, xe_11_45, xe_11_48, xe_11_51, xe_11_54, xe_11_55, xe_11_56, xe_11_57, xe_11_58, xe_11_59, xe_11_60, xe_11_61, xe_11_64, xe_11_67, xe_11_69, xe_11_72, xe_11_74, xe_11_77 _ _ (some (vI _)) _ _ _ _ rfl, xe_11_77 _ _ (some (vR _)) _ _ _ _ rfl, xe_11_77 _ _ none _ _ _ _ rfl, xe_11_80, xe_11_83, ite_self, mm_nL_I, mm_nL_R, mm_nL_0, Option.bind_some, Option.bind_none, bnd_ite, Option.toList_some, Option.toList_none, List.cons_append, List.nil_append, mm_cats_nil, mm_cats_I, mm_cats_L, mm_cats_R, if_true, if_false, true_and, and_true, false_and, and_false, not_true_eq_false, not_false_eq_true, Int.reduceLE, Int.reduceLT, Int.reduceEq, Int.reduceNe, Int.reduceNeg, Int.reduceAdd, Int.reduceSub, Int.reduceMul, Nat.reduceAdd, Nat.reduceLeDiff, true_or, or_true, false_or, or_false, reduceIte, k_129, k_16, b16, g, a', eq_true e, P, w, w5]
      · rw [if_neg e]
        simp only [xe_11_25, xe_11_27, xe_11_30, xe_11_31, xe_11_32, xe_11_35, xe_11_38, xe_11_39, xe_11_40, xe_11_41, xe_11_42, xe_11_43, xe_11_44, xe_11_45, xe_11_48, xe_11_51, xe_11_54, xe_11_55, xe_11_56, xe_11_57, xe_11_58, xe_11_59, xe_11_60, xe_11_61, xe_11_64, xe_11_67, xe_11_69, xe_11_72, xe_11_74, xe_11_77 _ _ (some (vI _)) _ _ _ _ rfl, xe_11_77 _ _ (some (vR _)) _ _ _ _ rfl, xe_11_77 _ _ none _ _ _ _ rfl, xe_11_80, xe_11_83, ite_self, mm_nL_I, mm_nL_R, mm_nL_0, Option.bind_some, Option.bind_none, bnd_ite, Option.toList_some, Option.toList_none, List.cons_append, List.nil_append, mm_cats_nil, mm_cats_I, mm_cats_L, mm_cats_R, if_true, if_false, true_and, and_true, false_and, and_false, not_true_eq_false, not_false_eq_true, Int.reduceLE, Int.reduceLT, Int.reduceEq, Int.reduceNe, Int.reduceNeg, Int.reduceAdd, Int.reduceSub, Int.reduceMul, Nat.reduceAdd, Nat.reduceLeDiff, true_or, or_true, false_or, or_false, reduceIte, k_129, k_16, b16, g, a', e, P, w, w5]
theorem s_pn (hX : SX c) (f : Int → Int) (d : Int) (d0 : 0 ≤ d) (l0 : 0 ≤ c 16 9) (l13 : c 16 9 ≤ 13) : ev 11 0 [some (vR 129), some (vI d), some (vR 16), none] [] (fog c f) (g_1 L) = some (none, fog c (if d < 4 ∧ 0 < c 16 9 then nb (up f (54 + 18 * d + 3) 252) d (c 16 9) (c 21) 0 else f), g_1 L) := by
  have b16 : fog c f 16 = c 16 := fog_b c f 16 (by omega) (by omega)
  by_cases a : d < 4
  · have a' : ¬ 4 ≤ d := by omega
    by_cases e : c 16 9 = 0
    · rw [if_neg (by omega)]
      simp only [xe_11_0, xe_11_1, xe_11_2, xe_11_5, xe_11_6, xe_11_9, xe_11_12, xe_11_13, xe_11_14, xe_11_15, xe_11_16, xe_11_19, xe_11_22, xe_11_23 _ _ (some (vI _)) _ _ _ _ _ rfl, xe_11_23 _ _ (some (vR _)) _ _ _ _ _ rfl, xe_11_23 _ _ none _ _ _ _ _ rfl, ite_self, mm_nL_I, mm_nL_R, mm_nL_0, Option.bind_some, Option.bind_none, bnd_ite, Option.toList_some, Option.toList_none, List.cons_append, List.nil_append, mm_cats_nil, mm_cats_I, mm_cats_L, mm_cats_R, if_true, if_false, true_and, and_true, false_and, and_false, not_true_eq_false, not_false_eq_true, Int.reduceLE, Int.reduceLT, Int.reduceEq, Int.reduceNe, Int.reduceNeg, Int.reduceAdd, Int.reduceSub, Int.reduceMul, Nat.reduceAdd, Nat.reduceLeDiff, true_or, or_true, false_or, or_false, reduceIte, k_129, k_16, b16, a', eq_true e]
    · rw [if_pos (by omega)]
      have P := fo_put (L := L) f hX d 3 252 d0 a (by omega) (by omega)
      have I := lp_pn (L := L) hX d d0 a l13 13 0 (up f (54 + 18 * d + 3) 252) (by omega) (by omega)
      rw [← I]
      simp only [xe_11_0, xe_11_1, xe_11_2, xe_11_5, xe_11_6, xe_11_9, xe_11_12, xe_11_13, xe_11_14, xe_11_15, xe_11_16, xe_11_19, xe_11_22, xe_11_23 _ _ (some (vI _)) _ _ _ _ _ rfl, xe_11_23 _ _ (some (vR _)) _ _ _ _ _ rfl, xe_11_23 _ _ none _ _ _ _ _ rfl, ite_self, mm_nL_I, mm_nL_R, mm_nL_0, Option.bind_some, Option.bind_none, bnd_ite, Option.toList_some, Option.toList_none, List.cons_append, List.nil_append, mm_cats_nil, mm_cats_I, mm_cats_L, mm_cats_R, if_true, if_false, true_and, and_true, false_and, and_false, not_true_eq_false, not_false_eq_true, Int.reduceLE, Int.reduceLT, Int.reduceEq, Int.reduceNe, Int.reduceNeg, Int.reduceAdd, Int.reduceSub, Int.reduceMul, Nat.reduceAdd, Nat.reduceLeDiff, true_or, or_true, false_or, or_false, reduceIte, k_129, k_16, b16, a', e, P]
  · have a' : 4 ≤ d := by omega
    rw [if_neg (by omega)]
    simp only [xe_11_0, xe_11_1, xe_11_2, xe_11_5, xe_11_6, xe_11_9, xe_11_12, xe_11_13, xe_11_14, xe_11_15, xe_11_16, xe_11_19, xe_11_22, xe_11_23 _ _ (some (vI _)) _ _ _ _ _ rfl, xe_11_23 _ _ (some (vR _)) _ _ _ _ _ rfl, xe_11_23 _ _ none _ _ _ _ _ rfl, ite_self, mm_nL_I, mm_nL_R, mm_nL_0, Option.bind_some, Option.bind_none, bnd_ite, Option.toList_some, Option.toList_none, List.cons_append, List.nil_append, mm_cats_nil, mm_cats_I, mm_cats_L, mm_cats_R, if_true, if_false, true_and, and_true, false_and, and_false, not_true_eq_false, not_false_eq_true, Int.reduceLE, Int.reduceLT, Int.reduceEq, Int.reduceNe, Int.reduceNeg, Int.reduceAdd, Int.reduceSub, Int.reduceMul, Nat.reduceAdd, Nat.reduceLeDiff, true_or, or_true, false_or, or_false, reduceIte, k_129, k_16, b16, a']
theorem lp_pr (hX : SX c) (d : Int) (d0 : 0 ≤ d) (d1 : d < 4) : ∀ (m : Nat) (k : Int) (f : Int → Int), 0 ≤ k → k + m = 5 → ev 12 24 [some (vR 129), some (vI d), some (vR 16), some (vI k)] [] (fog c f) (g_1 L) = some (none, fog c (rb f d (c 22) k 5), g_1 L) := by
  intro m
  induction m with
  | zero =>
    intro k f k0 km
    have e : k = 5 := by omega
    subst e
    rw [rb_e, xe_12_24]
    simp only [xe_12_25, xe_12_26, xe_12_29, xe_12_30, xe_12_31, xe_12_32, xe_12_33, xe_12_34, xe_12_35, xe_12_36, xe_12_39, xe_12_42 _ _ (some (vI _)) _ _ _ _ rfl, xe_12_42 _ _ (some (vR _)) _ _ _ _ rfl, xe_12_42 _ _ none _ _ _ _ rfl, xe_12_45, xe_12_48, ite_self, mm_nL_I, mm_nL_R, mm_nL_0, Option.bind_some, Option.bind_none, bnd_ite, Option.toList_some, Option.toList_none, List.cons_append, List.nil_append, mm_cats_nil, mm_cats_I, mm_cats_L, mm_cats_R, if_true, if_false, true_and, and_true, false_and, and_false, not_true_eq_false, not_false_eq_true, Int.reduceLE, Int.reduceLT, Int.reduceEq, Int.reduceNe, Int.reduceNeg, Int.reduceAdd, Int.reduceSub, Int.reduceMul, Nat.reduceAdd, Nat.reduceLeDiff, true_or, or_true, false_or, or_false, reduceIte]
  | succ m ih =>
    intro k f k0 km
    have I := ih (k + 1) (up f (54 + 18 * d + (5 + k)) (c 22 k)) (by omega) (by omega)
    rw [rb_s f d (c 22) k 5 k0 (by omega)] at I
    have P := fo_put (L := L) f hX d (5 + k) (c 22 k) d0 d1 (by omega) (by omega)
    have g : ¬ 5 ≤ k := by omega
    have w : w32 (k + 1) = k + 1 := wi32 (by omega) (by omega)
    have w5 : w32 (5 + k) = 5 + k := wi32 (by omega) (by omega)
    have b16 : fog c f 16 = c 16 := fog_b c f 16 (by omega) (by omega)
    have b22 : fog c f 22 = c 22 := fog_b c f 22 (by omega) (by omega)
    have q0 : ¬ k < 0 := by omega
    have q3 : 0 ≤ k ∧ k < 5 := by omega
    have N : ev 56 0 [some (vR 16), some (vI k)] [] (fog c f) (g_1 L) = some (some (vI (c 22 k)), fog c f, g_1 L) := by
      simp only [xe_56_0, xe_56_1, xe_56_4, xe_56_5, xe_56_6, xe_56_9, xe_56_10, xe_56_13, xe_56_14, xe_56_17, xe_56_18, xe_56_19, xe_56_22, xe_56_23, ite_self, mm_nL_I, mm_nL_R, mm_nL_0, Option.bind_some, Option.bind_none, bnd_ite, Option.toList_some, Option.toList_none, List.cons_append, List.nil_append, mm_cats_nil, mm_cats_I, mm_cats_L, mm_cats_R, if_true, if_false, true_and, and_true, false_and, and_false, not_true_eq_false, not_false_eq_true, Int.reduceLE, Int.reduceLT, Int.reduceEq, Int.reduceNe, Int.reduceNeg, Int.reduceAdd, Int.reduceSub, Int.reduceMul, Nat.reduceAdd, Nat.reduceLeDiff, true_or, or_true, false_or, or_false, reduceIte, k_16, k_22, l_22, b16, b22, sx_16_4 hX, q0, g, q3]
    rw [← I, xe_12_24]
    simp only [xe_12_25, xe_12_26, xe_12_29, xe_12_30, xe_12_31, xe_12_32, xe_12_33, xe_12_34, xe_12_35, xe_12_36, xe_12_39, xe_12_42 _ _ (some (vI _)) _ _ _ _ rfl, xe_12_42 _ _ (some (vR _)) _ _ _ _ rfl, xe_12_42 _ _ none _ _ _ _ rfl, xe_12_45, xe_12_48, ite_self, mm_nL_I, mm_nL_R, mm_nL_0, Option.bind_some, Option.bind_none, bnd_ite, Option.toList_some, Option.toList_none, List.cons_append, List.nil_append, mm_cats_nil, mm_cats_I, mm_cats_L, mm_cats_R, if_true, if_false, true_and, and_true, false_and, and_false, not_true_eq_false, not_false_eq_true, Int.reduceLE, Int.reduceLT, Int.reduceEq, Int.reduceNe, Int.reduceNeg, Int.reduceAdd, Int.reduceSub, Int.reduceMul, Nat.reduceAdd, Nat.reduceLeDiff, true_or, or_true, false_or, or_false, reduceIte, k_129, k_16, g, N, P, w, w5]
theorem s_pr (hX : SX c) (f : Int → Int) (d : Int) (d0 : 0 ≤ d) (hr : c 16 12 = 0 ∨ c 16 12 = 1) : ev 12 0 [some (vR 129), some (vI d), some (vR 16), none] [] (fog c f) (g_1 L) = some (none, fog c (if d < 4 ∧ c 16 12 = 1 then rb (up f (54 + 18 * d + 3) 253) d (c 22) 0 5 else f), g_1 L) := by
  have b16 : fog c f 16 = c 16 := fog_b c f 16 (by omega) (by omega)
  by_cases a : d < 4
  · have a' : ¬ 4 ≤ d := by omega
    by_cases e : c 16 12 = 0
    · rw [if_neg (by omega)]
      simp only [xe_12_0, xe_12_1, xe_12_2, xe_12_5, xe_12_6, xe_12_9, xe_12_12, xe_12_13, xe_12_14, xe_12_15, xe_12_16, xe_12_19, xe_12_22, xe_12_23 _ _ (some (vI _)) _ _ _ _ _ rfl, xe_12_23 _ _ (some (vR _)) _ _ _ _ _ rfl, xe_12_23 _ _ none _ _ _ _ _ rfl, ite_self, mm_nL_I, mm_nL_R, mm_nL_0, Option.bind_some, Option.bind_none, bnd_ite, Option.toList_some, Option.toList_none, List.cons_append, List.nil_append, mm_cats_nil, mm_cats_I, mm_cats_L, mm_cats_R, if_true, if_false, true_and, and_true, false_and, and_false, not_true_eq_false, not_false_eq_true, Int.reduceLE, Int.reduceLT, Int.reduceEq, Int.reduceNe, Int.reduceNeg, Int.reduceAdd, Int.reduceSub, Int.reduceMul, Nat.reduceAdd, Nat.reduceLeDiff, true_or, or_true, false_or, or_false, reduceIte, k_129, k_16, b16, a', eq_true e]
    · rw [if_pos (by omega)]
      have P := fo_put (L := L) f hX d 3 253 d0 a (by omega) (by omega)
      have I := lp_pr (L := L) hX d d0 a 5 0 (up f (54 + 18 * d + 3) 253) (by omega) (by omega)
      rw [← I]
      simp only [xe_12_0, xe_12_1, xe_12_2, xe_12_5, xe_12_6, xe_12_9, xe_12_12, xe_12_13, xe_12_14, xe_12_15, xe_12_16, xe_12_19, xe_12_22, xe_12_23 _ _ (some (vI _)) _ _ _ _ _ rfl, xe_12_23 _ _ (some (vR _)) _ _ _ _ _ rfl, xe_12_23 _ _ none _ _ _ _ _ rfl, ite_self, mm_nL_I, mm_nL_R, mm_nL_0, Option.bind_some, Option.bind_none, bnd_ite, Option.toList_some, Option.toList_none, List.cons_append, List.nil_append, mm_cats_nil, mm_cats_I, mm_cats_L, mm_cats_R, if_true, if_false, true_and, and_true, false_and, and_false, not_true_eq_false, not_false_eq_true, Int.reduceLE, Int.reduceLT, Int.reduceEq, Int.reduceNe, Int.reduceNeg, Int.reduceAdd, Int.reduceSub, Int.reduceMul, Nat.reduceAdd, Nat.reduceLeDiff, true_or, or_true, false_or, or_false, reduceIte, k_129, k_16, b16, a', e, P]
  · have a' : 4 ≤ d := by omega
    rw [if_neg (by omega)]
    simp only [xe_12_0, xe_12_1, xe_12_2, xe_12_5, xe_12_6, xe_12_9, xe_12_12, xe_12_13, xe_12_14, xe_12_15, xe_12_16, xe_12_19, xe_12_22, xe_12_23 _ _ (some (vI _)) _ _ _ _ _ rfl, xe_12_23 _ _ (some (vR _)) _ _ _ _ _ rfl, xe_12_23 _ _ none _ _ _ _ _ rfl, ite_self, mm_nL_I, mm_nL_R, mm_nL_0, Option.bind_some, Option.bind_none, bnd_ite, Option.toList_some, Option.toList_none, List.cons_append, List.nil_append, mm_cats_nil, mm_cats_I, mm_cats_L, mm_cats_R, if_true, if_false, true_and, and_true, false_and, and_false, not_true_eq_false, not_false_eq_true, Int.reduceLE, Int.reduceLT, Int.reduceEq, Int.reduceNe, Int.reduceNeg, Int.reduceAdd, Int.reduceSub, Int.reduceMul, Nat.reduceAdd, Nat.reduceLeDiff, true_or, or_true, false_or, or_false, reduceIte, k_129, k_16, b16, a']
theorem lp_ps (f : Int → Int) (hb : ∀ j, 0 ≤ j → j < 128 → 0 ≤ f j ∧ f j < 256) : ∀ (m i : Nat) (y5 : Option MV), i + m = 128 → ∃ z5, ev 13 13 [some (vR 129), some (vI (sm f 0 i)), some (vR 130), some (vI 128), some (vI (i : Int)), y5] [] (fog c f) (g_1 L) = ev 13 36 [some (vR 129), some (vI (sm f 0 128)), some (vR 130), some (vI 128), some (vI 128), z5] [] (fog c f) (g_1 L) := by
  intro m
  induction m with
  | zero =>
    intro i y5 im
    have e : i = 128 := by omega
    subst e
    refine ⟨y5, ?_⟩
    rw [show (((128 : Nat) : Int)) = 128 from rfl, xe_13_13]
    simp only [xe_13_15, xe_13_16, xe_13_19, xe_13_20, xe_13_22, xe_13_23 _ _ _ _ (some (vI _)) _ _ _ _ _ rfl, xe_13_23 _ _ _ _ (some (vR _)) _ _ _ _ _ rfl, xe_13_23 _ _ _ _ none _ _ _ _ _ rfl, xe_13_25, xe_13_26, xe_13_28, xe_13_29 (some (vI _)) _ _ _ _ _ _ _ _ _ rfl, xe_13_29 (some (vR _)) _ _ _ _ _ _ _ _ _ rfl, xe_13_29 none _ _ _ _ _ _ _ _ _ rfl, xe_13_30 _ _ _ (some (vI _)) _ _ _ _ _ rfl, xe_13_30 _ _ _ (some (vR _)) _ _ _ _ _ rfl, xe_13_30 _ _ _ none _ _ _ _ _ rfl, xe_13_33, ite_self, mm_nL_I, mm_nL_R, mm_nL_0, Option.bind_some, Option.bind_none, bnd_ite, Option.toList_some, Option.toList_none, List.cons_append, List.nil_append, mm_cats_nil, mm_cats_I, mm_cats_L, mm_cats_R, if_true, if_false, true_and, and_true, false_and, and_false, not_true_eq_false, not_false_eq_true, Int.reduceLE, Int.reduceLT, Int.reduceEq, Int.reduceNe, Int.reduceNeg, Int.reduceAdd, Int.reduceSub, Int.reduceMul, Nat.reduceAdd, Nat.reduceLeDiff, true_or, or_true, false_or, or_false, reduceIte]
  | succ m ih =>
    intro i y5 im
    obtain ⟨z5, I⟩ := ih (i + 1) (some (vI (f (i : Int)))) (by omega)
    refine ⟨z5, ?_⟩
    rw [show (((i + 1 : Nat) : Int)) = (i : Int) + 1 by omega, show sm f 0 (i + 1) = sm f 0 i + f (0 + (i : Int)) from rfl, Int.zero_add] at I
    have bd := sm_bd f 0 i (fun j j0 j1 => by rw [Int.zero_add]; exact hb j j0 (by omega))
    have b1 := hb (i : Int) (by omega) (by omega)
    have v := fog_v c f (i : Int) (by omega) (by omega)
    have g : ¬ 128 ≤ (i : Int) := by omega
    have a : 0 ≤ (i : Int) ∧ (i : Int) < 128 := by omega
    have w : w32 ((i : Int) + 1) = (i : Int) + 1 := wi32 (by omega) (by omega)
    have w2 : w32 (sm f 0 i + f (i : Int)) = sm f 0 i + f (i : Int) := wi32 (by omega) (by omega)
    rw [← I, xe_13_13]
    simp only [xe_13_15, xe_13_16, xe_13_19, xe_13_20, xe_13_22, xe_13_23 _ _ _ _ (some (vI _)) _ _ _ _ _ rfl, xe_13_23 _ _ _ _ (some (vR _)) _ _ _ _ _ rfl, xe_13_23 _ _ _ _ none _ _ _ _ _ rfl, xe_13_25, xe_13_26, xe_13_28, xe_13_29 (some (vI _)) _ _ _ _ _ _ _ _ _ rfl, xe_13_29 (some (vR _)) _ _ _ _ _ _ _ _ _ rfl, xe_13_29 none _ _ _ _ _ _ _ _ _ rfl, xe_13_30 _ _ _ (some (vI _)) _ _ _ _ _ rfl, xe_13_30 _ _ _ (some (vR _)) _ _ _ _ _ rfl, xe_13_30 _ _ _ none _ _ _ _ _ rfl, xe_13_33, ite_self, mm_nL_I, mm_nL_R, mm_nL_0, Option.bind_some, Option.bind_none, bnd_ite, Option.toList_some, Option.toList_none, List.cons_append, List.nil_append, mm_cats_nil, mm_cats_I, mm_cats_L, mm_cats_R, if_true, if_false, true_and, and_true, false_and, and_false, not_true_eq_false, not_false_eq_true, Int.reduceLE, Int.reduceLT, Int.reduceEq, Int.reduceNe, Int.reduceNeg, Int.reduceAdd, Int.reduceSub, Int.reduceMul, Nat.reduceAdd, Nat.reduceLeDiff, true_or, or_true, false_or, or_false, reduceIte, k_130, l_130, g, a, w, w2, v]
theorem s_ps (hX : SX c) (f : Int → Int) (hb : ∀ j, 0 ≤ j → j < 128 → 0 ≤ f j ∧ f j < 256) : ev 13 0 [some (vR 129), none, none, none, none, none] [] (fog c f) (g_1 L) = some (none, fog c (up f 127 ((256 - sm f 0 128 % 256) % 256)), g_1 L) := by
  obtain ⟨z5, I⟩ := lp_ps (L := L) (c := c) f hb 128 0 none (by omega)
  rw [show sm f 0 0 = 0 from rfl, show (((0 : Nat) : Int)) = 0 from rfl] at I
  have bd := sm_bd f 0 128 (fun j j0 j1 => by rw [Int.zero_add]; exact hb j j0 (by omega))
  have s1 : ev 13 0 [some (vR 129), none, none, none, none, none] [] (fog c f) (g_1 L) = ev 13 13 [some (vR 129), some (vI 0), some (vR 130), some (vI 128), some (vI 0), none] [] (fog c f) (g_1 L) := by
    simp only [xe_13_0, xe_13_1 (some (vI _)) _ _ _ _ _ _ _ _ _ rfl, xe_13_1 (some (vR _)) _ _ _ _ _ _ _ _ _ rfl, xe_13_1 none _ _ _ _ _ _ _ _ _ rfl, xe_13_2, xe_13_3, xe_13_6 _ (some (vI _)) _ _ _ _ _ _ _ _ rfl, xe_13_6 _ (some (vR _)) _ _ _ _ _ _ _ _ rfl, xe_13_6 _ none _ _ _ _ _ _ _ _ rfl, xe_13_7, xe_13_8, xe_13_9 _ _ (some (vI _)) _ _ _ _ _ _ _ rfl, xe_13_9 _ _ (some (vR _)) _ _ _ _ _ _ _ rfl, xe_13_9 _ _ none _ _ _ _ _ _ _ rfl, xe_13_10, xe_13_11 _ _ _ (some (vI _)) _ _ _ _ _ _ rfl, xe_13_11 _ _ _ (some (vR _)) _ _ _ _ _ _ rfl, xe_13_11 _ _ _ none _ _ _ _ _ _ rfl, ite_self, mm_nL_I, mm_nL_R, mm_nL_0, Option.bind_some, Option.bind_none, bnd_ite, Option.toList_some, Option.toList_none, List.cons_append, List.nil_append, mm_cats_nil, mm_cats_I, mm_cats_L, mm_cats_R, if_true, if_false, true_and, and_true, false_and, and_false, not_true_eq_false, not_false_eq_true, Int.reduceLE, Int.reduceLT, Int.reduceEq, Int.reduceNe, Int.reduceNeg, Int.reduceAdd, Int.reduceSub, Int.reduceMul, Nat.reduceAdd, Nat.reduceLeDiff, true_or, or_true, false_or, or_false, reduceIte, k_129, k_130, l_130, fog_0, sx_129_0 hX]
  have w : w32 (-sm f 0 128) = -sm f 0 128 := wi32 (by omega) (by omega)
  have n : -sm f 0 128 % 256 = (256 - sm f 0 128 % 256) % 256 := by omega
  have u := fog_u c f 127 ((256 - sm f 0 128 % 256) % 256) (by omega) (by omega)
  rw [s1, I]
  generalize sm f 0 128 = S at *
  simp only [xe_13_36, xe_13_37, xe_13_40, xe_13_42, xe_13_43, xe_13_44, xe_13_47, xe_13_48, xe_13_49, ite_self, mm_nL_I, mm_nL_R, mm_nL_0, Option.bind_some, Option.bind_none, bnd_ite, Option.toList_some, Option.toList_none, List.cons_append, List.nil_append, mm_cats_nil, mm_cats_I, mm_cats_L, mm_cats_R, if_true, if_false, true_and, and_true, false_and, and_false, not_true_eq_false, not_false_eq_true, Int.reduceLE, Int.reduceLT, Int.reduceEq, Int.reduceNe, Int.reduceNeg, Int.reduceAdd, Int.reduceSub, Int.reduceMul, Nat.reduceAdd, Nat.reduceLeDiff, true_or, or_true, false_or, or_false, reduceIte, k_129, k_130, l_130, fog_0, sx_129_0 hX, w, nu_255, n, u]
end FG
