/-! the reference's forge -/
def rfo (r : MM) (f w : Int → Int) : MM := fun b j => if b = 162 ∧ 0 ≤ j ∧ j < 128 then f j else if b = 164 ∧ 0 ≤ j ∧ j ≤ 8 then w j else r b j
theorem rfo_b (r : MM) (f w : Int → Int) (b : Int) (h1 : ¬ b = 162) (h2 : ¬ b = 164) : rfo r f w b = r b := by
  funext j; unfold rfo; rw [if_neg (by omega), if_neg (by omega)]
theorem rfo_v (r : MM) (f w : Int → Int) (j : Int) (h0 : 0 ≤ j) (h1 : j < 128) : rfo r f w 162 j = f j := by unfold rfo; rw [if_pos ⟨rfl, h0, h1⟩]
theorem rfo_w (r : MM) (f w : Int → Int) (j : Int) (h0 : 0 ≤ j) (h1 : j ≤ 8) : rfo r f w 164 j = w j := by unfold rfo; rw [if_neg (by omega), if_pos ⟨rfl, h0, h1⟩]
theorem rfo_u (r : MM) (f w : Int → Int) (p v : Int) (h0 : 0 ≤ p) (h1 : p < 128) : mset (rfo r f w) 162 p v = rfo r (up f p v) w := by
  funext b j; unfold mset rfo up; (repeat' split) <;> first | rfl | (exfalso; omega)
theorem rfo_x (r : MM) (f w : Int → Int) (p v : Int) (h0 : 0 ≤ p) (h1 : p ≤ 8) : mset (rfo r f w) 164 p v = rfo r f (up w p v) := by
  funext b j; unfold mset rfo up; (repeat' split) <;> first | rfl | (exfalso; omega)
theorem rfo_i (r : MM) : r = rfo r (r 162) (r 164) := by
  funext b j; unfold rfo
  by_cases h : b = 162 ∧ 0 ≤ j ∧ j < 128
  · rw [if_pos h, h.1]
  · rw [if_neg h]
    by_cases g : b = 164 ∧ 0 ≤ j ∧ j ≤ 8
    · rw [if_pos g, g.1]
    · rw [if_neg g]
theorem rfo_cg (r : MM) {f f' w w' : Int → Int} (h : ∀ j, 0 ≤ j → j < 128 → f j = f' j) (g : ∀ j, 0 ≤ j → j ≤ 8 → w j = w' j) : rfo r f w = rfo r f' w' := by
  funext b j; unfold rfo
  by_cases p : b = 162 ∧ 0 ≤ j ∧ j < 128
  · rw [if_pos p, if_pos p]; exact h j p.2.1 p.2.2
  · rw [if_neg p, if_neg p]
    by_cases q : b = 164 ∧ 0 ≤ j ∧ j ≤ 8
    · rw [if_pos q, if_pos q]; exact g j q.2.1 q.2.2
    · rw [if_neg q, if_neg q]
section FM1
variable {L : Int} {r : MM}
theorem lp_f2 (hM : SM r) (w : Int → Int) (y2 y3 : Option MV) : ∀ (m : Nat) (i : Int) (f : Int → Int), 0 ≤ i → i + m = 128 → (∀ j, 0 ≤ j → j < i → f j = h8z 8 j) → ev 187 2 [some (vR 149), some (vI i), y2, y3] [] (rfo r f w) (g_1 L) = ev 187 38 [some (vR 149), some (vI 128), y2, y3] [] (rfo r (h8z 8) w) (g_1 L) := by
  intro m
  induction m with
  | zero =>
    intro i f i0 im hf
    have e : i = 128 := by omega
    subst e
    rw [rfo_cg r hf (fun j _ _ => rfl), xe_187_2]
    simp only [xe_187_3, xe_187_6, xe_187_9, xe_187_10, xe_187_13, xe_187_14, xe_187_15, xe_187_18, xe_187_19, xe_187_21, xe_187_24, xe_187_27, xe_187_30, xe_187_31, xe_187_32 (some (vI _)) _ _ _ _ _ _ rfl, xe_187_32 (some (vR _)) _ _ _ _ _ _ rfl, xe_187_32 none _ _ _ _ _ _ rfl, xe_187_35, ite_self, mm_nL_I, mm_nL_R, mm_nL_0, Option.bind_some, Option.bind_none, bnd_ite, Option.toList_some, Option.toList_none, List.cons_append, List.nil_append, mm_cats_nil, mm_cats_I, mm_cats_L, mm_cats_R, if_true, if_false, true_and, and_true, false_and, and_false, not_true_eq_false, not_false_eq_true, Int.reduceLE, Int.reduceLT, Int.reduceEq, Int.reduceNe, Int.reduceNeg, Int.reduceAdd, Int.reduceSub, Int.reduceMul, Nat.reduceAdd, Nat.reduceLeDiff, true_or, or_true, false_or, or_false, reduceIte]
  | succ m ih =>
    intro i f i0 im hf
    have g : ¬ 128 ≤ i := by omega
    have a : 0 ≤ i ∧ i < 128 := by omega
    have s : w32 (i + 1) = i + 1 := wi32 (by omega) (by omega)
    have u := fun v => rfo_u r f w i v a.1 a.2
    have p : rfo r f w 149 26 = 162 := by rw [rfo_b _ _ _ _ (by omega) (by omega)]; exact sm_149_26 hM
    have I := ih (i + 1) (up f i (if 1 ≤ i ∧ i ≤ 6 then 255 else 0)) (by omega) (by omega) (fun j j0 j1 => by
      unfold up
      by_cases e : j = i
      · rw [if_pos e, e]
        unfold h8z
        by_cases q : 1 ≤ i ∧ i ≤ 6
        · rw [if_pos q, if_pos (by omega)]
        · rw [if_neg q, if_neg (by omega)]
      · rw [if_neg e]; exact hf j j0 (by omega))
    rw [← I, xe_187_2]
    by_cases l : i ≤ 0
    · rw [if_neg (by omega)]
      simp only [xe_187_3, xe_187_6, xe_187_9, xe_187_10, xe_187_13, xe_187_14, xe_187_15, xe_187_18, xe_187_19, xe_187_21, xe_187_24, xe_187_27, xe_187_30, xe_187_31, xe_187_32 (some (vI _)) _ _ _ _ _ _ rfl, xe_187_32 (some (vR _)) _ _ _ _ _ _ rfl, xe_187_32 none _ _ _ _ _ _ rfl, xe_187_35, ite_self, mm_nL_I, mm_nL_R, mm_nL_0, Option.bind_some, Option.bind_none, bnd_ite, Option.toList_some, Option.toList_none, List.cons_append, List.nil_append, mm_cats_nil, mm_cats_I, mm_cats_L, mm_cats_R, if_true, if_false, true_and, and_true, false_and, and_false, not_true_eq_false, not_false_eq_true, Int.reduceLE, Int.reduceLT, Int.reduceEq, Int.reduceNe, Int.reduceNeg, Int.reduceAdd, Int.reduceSub, Int.reduceMul, Nat.reduceAdd, Nat.reduceLeDiff, true_or, or_true, false_or, or_false, reduceIte, k_149, k_162, l_162, p, g, a, s, u, l]
    · by_cases l7 : 7 ≤ i
      · rw [if_neg (by omega)]
        simp only [xe_187_3, xe_187_6, xe_187_9, xe_187_10, xe_187_13, xe_187_14, xe_187_15, xe_187_18, xe_187_19, xe_187_21, xe_187_24, xe_187_27, xe_187_30, xe_187_31, xe_187_32 (some (vI _)) _ _ _ _ _ _ rfl, xe_187_32 (some (vR _)) _ _ _ _ _ _ rfl, xe_187_32 none _ _ _ _ _ _ rfl, xe_187_35, ite_self, mm_nL_I, mm_nL_R, mm_nL_0, Option.bind_some, Option.bind_none, bnd_ite, Option.toList_some, Option.toList_none, List.cons_append, List.nil_append, mm_cats_nil, mm_cats_I, mm_cats_L, mm_cats_R, if_true, if_false, true_and, and_true, false_and, and_false, not_true_eq_false, not_false_eq_true, Int.reduceLE, Int.reduceLT, Int.reduceEq, Int.reduceNe, Int.reduceNeg, Int.reduceAdd, Int.reduceSub, Int.reduceMul, Nat.reduceAdd, Nat.reduceLeDiff, true_or, or_true, false_or, or_false, reduceIte, k_149, k_162, l_162, p, g, a, s, u, l, l7]
      · rw [if_pos (by omega)]
        simp only [xe_187_3, xe_187_6, xe_187_9, xe_187_10, xe_187_13, xe_187_14, xe_187_15, xe_187_18, xe_187_19, xe_187_21, xe_187_24, xe_187_27, xe_187_30, xe_187_31, xe_187_32 (some (vI _)) _ _ _ _ _ _ rfl, xe_187_32 (some (vR _)) _ _ _ _ _ _ rfl, xe_187_32 none _ _ _ _ _ _ rfl, xe_187_35, ite_self, mm_nL_I, mm_nL_R, mm_nL_0, Option.bind_some, Option.bind_none, bnd_ite, Option.toList_some, Option.toList_none, List.cons_append, List.nil_append, mm_cats_nil, mm_cats_I, mm_cats_L, mm_cats_R, if_true, if_false, true_and, and_true, false_and, and_false, not_true_eq_false, not_false_eq_true, Int.reduceLE, Int.reduceLT, Int.reduceEq, Int.reduceNe, Int.reduceNeg, Int.reduceAdd, Int.reduceSub, Int.reduceMul, Nat.reduceAdd, Nat.reduceLeDiff, true_or, or_true, false_or, or_false, reduceIte, k_149, k_162, l_162, p, g, a, s, u, l, l7]
theorem fo_lay (hM : SM r) (i : Int) (f w m t : Int → Int) (i0 : 0 ≤ i) (i1 : i < 40) (o0 : 0 ≤ r 158 i) (o1 : r 158 i < 40) (hR : Rmo m t (r 157) (12 * r 158 i)) (hk : mok m t) : ev 184 0 [some (vR 149), some (vI i)] [] (rfo r f w) (g_1 L) = some (none, rfo r f (tg t), g_1 L) := by
  have OF : ∀ (w : Int → Int) (k : Int), 0 ≤ k → k < 12 → ev 168 0 [some (vR 149), some (vI i), some (vI k)] [] (rfo r f w) (g_1 L) = some (some (vI (r 157 (12 * r 158 i + k))), rfo r f w, g_1 L) := fun w k k0 k1 => by
    have b7 : rfo r f w 157 = r 157 := rfo_b _ _ _ _ (by omega) (by omega)
    have b8 : rfo r f w 158 = r 158 := rfo_b _ _ _ _ (by omega) (by omega)
    have b9 : rfo r f w 149 = r 149 := rfo_b _ _ _ _ (by omega) (by omega)
    have := s_ofMode L i k (rfo r f w) (by rw [b9]; exact sm_149_20 hM) (by rw [b9]; exact sm_149_21 hM) i0 i1 (by rw [b8]; exact o0) (by rw [b8]; exact o1) k0 k1
    rw [b7, b8] at this
    exact this
  unfold Rmo at hR
  obtain ⟨q0, q1, q2, q3, q4, q5, q6, q7, q8, q9, q10, q11⟩ := hR
  have F0 := fun w => OF w 0 (by omega) (by omega)
  have F1 := fun w => OF w 1 (by omega) (by omega)
  have F3 := fun w => OF w 3 (by omega) (by omega)
  have F4 := fun w => OF w 4 (by omega) (by omega)
  have F5 := fun w => OF w 5 (by omega) (by omega)
  have F8 := fun w => OF w 8 (by omega) (by omega)
  have F9 := fun w => OF w 9 (by omega) (by omega)
  have F10 := fun w => OF w 10 (by omega) (by omega)
  have F11 := fun w => OF w 11 (by omega) (by omega)
  rw [Int.add_zero] at F0
  rw [← q0] at F0
  rw [← q1] at F1
  rw [← q3] at F3
  rw [← q4] at F4
  rw [← q5] at F5
  rw [← q8] at F8
  rw [← q9] at F9
  rw [← q10] at F10
  rw [← q11] at F11
  have p : ∀ w, rfo r f w 149 29 = 164 := fun w => by rw [rfo_b _ _ _ _ (by omega) (by omega)]; exact sm_149_29 hM
  unfold mok at hk
  have e2 : w32 (t 1 + t 2 - t 1) = t 2 := by rw [wi32 (by omega) (by omega)]; omega
  have e6 : w32 (t 5 + t 6 - t 5) = t 6 := by rw [wi32 (by omega) (by omega)]; omega
  have x0 := fun w v => rfo_x r f w 0 v (by omega) (by omega)
  have x1 := fun w v => rfo_x r f w 1 v (by omega) (by omega)
  have x2 := fun w v => rfo_x r f w 2 v (by omega) (by omega)
  have x3 := fun w v => rfo_x r f w 3 v (by omega) (by omega)
  have x4 := fun w v => rfo_x r f w 4 v (by omega) (by omega)
  have x5 := fun w v => rfo_x r f w 5 v (by omega) (by omega)
  have x6 := fun w v => rfo_x r f w 6 v (by omega) (by omega)
  have x7 := fun w v => rfo_x r f w 7 v (by omega) (by omega)
  have x8 := fun w v => rfo_x r f w 8 v (by omega) (by omega)
  have y0 := fun w => rfo_w r f w 0 (by omega) (by omega)
  have y4 := fun w => rfo_w r f w 4 (by omega) (by omega)
  have fin : rfo r f (up (up (up (up (up (up (up (up (up w 0 (t 1)) 1 (t 2)) 4 (t 5)) 5 (t 6)) 2 (t 3)) 3 (t 4)) 6 (t 7)) 7 (t 8)) 8 (t 0)) = rfo r f (tg t) := by
    refine rfo_cg r (fun j _ _ => rfl) (fun j j0 j1 => ?_)
    have q : j = 0 ∨ j = 1 ∨ j = 2 ∨ j = 3 ∨ j = 4 ∨ j = 5 ∨ j = 6 ∨ j = 7 ∨ j = 8 := by omega
    rcases q with rfl | rfl | rfl | rfl | rfl | rfl | rfl | rfl | rfl <;> rfl
  rw [← fin]
  clear hk q0 q1 q2 q3 q4 q5 q6 q7 q8 q9 q10 q11
  simp only [xe_184_0, xe_184_1, xe_184_4, xe_184_5, xe_184_6, xe_184_7, xe_184_8, xe_184_11, xe_184_12, xe_184_13, xe_184_16, xe_184_17, xe_184_18, xe_184_19, xe_184_20, xe_184_23, xe_184_24, xe_184_27, xe_184_28, xe_184_29, xe_184_30, xe_184_31, xe_184_32, xe_184_35, xe_184_36, xe_184_37, xe_184_38, xe_184_39, xe_184_42, xe_184_43, xe_184_44, xe_184_47, xe_184_48, xe_184_49, xe_184_50, xe_184_51, xe_184_54, xe_184_55, xe_184_58, xe_184_59, xe_184_60, xe_184_61, xe_184_62, xe_184_63, xe_184_66, xe_184_67, xe_184_68, xe_184_69, xe_184_71, xe_184_74, xe_184_75, xe_184_76, xe_184_79, xe_184_80, xe_184_81, xe_184_82, xe_184_84, xe_184_87, xe_184_88, xe_184_89, xe_184_92, xe_184_94, xe_184_95, xe_184_96, xe_184_98, xe_184_101, xe_184_102, xe_184_103, xe_184_106, xe_184_108, xe_184_109, xe_184_110, xe_184_112, xe_184_115, xe_184_116, xe_184_117, xe_184_120, xe_184_122, xe_184_123, xe_184_124, xe_184_125, xe_184_128, xe_184_129, ite_self, mm_nL_I, mm_nL_R, mm_nL_0, Option.bind_some, Option.bind_none, bnd_ite, Option.toList_some, Option.toList_none, List.cons_append, List.nil_append, mm_cats_nil, mm_cats_I, mm_cats_L, mm_cats_R, if_true, if_false, true_and, and_true, false_and, and_false, not_true_eq_false, not_false_eq_true, Int.reduceLE, Int.reduceLT, Int.reduceEq, Int.reduceNe, Int.reduceNeg, Int.reduceAdd, Int.reduceSub, Int.reduceMul, Nat.reduceAdd, Nat.reduceLeDiff, true_or, or_true, false_or, or_false, reduceIte, k_149, k_164, l_164, p, F0, F1, F3, F4, F5, F8, F9, F10, F11, x0, x1, x2, x3, x4, x5, x6, x7, x8, y0, y4, up_e, e2, e6]
theorem lp_fb (hM : SM r) (d : Int) (d0 : 0 ≤ d) (d1 : d < 4) (w : Int → Int) (hn : nn w) (hf : fitv w = true) (i : Int) : ∀ (m : Nat) (k : Int) (f : Int → Int), 0 ≤ k → k + m = 18 → ev 187 137 [some (vR 149), some (vI i), some (vI (54 + 18 * d)), some (vI k)] [] (rfo r f w) (g_1 L) = ev 187 210 [some (vR 149), some (vI i), some (vI (54 + 18 * d)), some (vI 18)] [] (rfo r (bk f d w k) w) (g_1 L) := by
  intro m
  induction m with
  | zero =>
    intro k f k0 km
    have e : k = 18 := by omega
    subst e
    rw [bk_e, xe_187_137]
    simp only [xe_187_138, xe_187_140, xe_187_143, xe_187_144, xe_187_147, xe_187_148, xe_187_149, xe_187_150, xe_187_151, xe_187_152, xe_187_155, xe_187_156 _ _ (some (vI _)) _ _ _ _ rfl, xe_187_156 _ _ (some (vR _)) _ _ _ _ rfl, xe_187_156 _ _ none _ _ _ _ rfl, xe_187_159, xe_187_162, ite_self, mm_nL_I, mm_nL_R, mm_nL_0, Option.bind_some, Option.bind_none, bnd_ite, Option.toList_some, Option.toList_none, List.cons_append, List.nil_append, mm_cats_nil, mm_cats_I, mm_cats_L, mm_cats_R, if_true, if_false, true_and, and_true, false_and, and_false, not_true_eq_false, not_false_eq_true, Int.reduceLE, Int.reduceLT, Int.reduceEq, Int.reduceNe, Int.reduceNeg, Int.reduceAdd, Int.reduceSub, Int.reduceMul, Nat.reduceAdd, Nat.reduceLeDiff, true_or, or_true, false_or, or_false, reduceIte]
  | succ m ih =>
    intro k f k0 km
    have I := ih (k + 1) (up f (54 + 18 * d + k) (dbv w k)) (by omega) (by omega)
    rw [bk_s f d w k k0 (by omega)] at I
    have wc : ∀ j, 0 ≤ j → j ≤ 8 → rfo r f w 164 j = w j := fun j j0 j1 => rfo_w r f w j j0 j1
    have B := s_byteM L k (rfo r f w) (by rw [rfo_b _ _ _ _ (by omega) (by omega)]; exact sm_149_29 hM) (fun j j0 j1 => by rw [wc j j0 j1]; exact hn j j0 j1) (by rw [fitv_cg wc]; exact hf) k0 (by omega)
    rw [dbv_cg wc] at B
    have g : ¬ 18 ≤ k := by omega
    have a : 0 ≤ 54 + 18 * d + k ∧ 54 + 18 * d + k < 128 := by omega
    have s : w32 (k + 1) = k + 1 := wi32 (by omega) (by omega)
    have s2 : w32 (54 + 18 * d + k) = 54 + 18 * d + k := wi32 (by omega) (by omega)
    have u := fun v => rfo_u r f w (54 + 18 * d + k) v a.1 a.2
    have p : rfo r f w 149 26 = 162 := by rw [rfo_b _ _ _ _ (by omega) (by omega)]; exact sm_149_26 hM
    rw [← I, xe_187_137]
    simp only [xe_187_138, xe_187_140, xe_187_143, xe_187_144, xe_187_147, xe_187_148, xe_187_149, xe_187_150, xe_187_151, xe_187_152, xe_187_155, xe_187_156 _ _ (some (vI _)) _ _ _ _ rfl, xe_187_156 _ _ (some (vR _)) _ _ _ _ rfl, xe_187_156 _ _ none _ _ _ _ rfl, xe_187_159, xe_187_162, ite_self, mm_nL_I, mm_nL_R, mm_nL_0, Option.bind_some, Option.bind_none, bnd_ite, Option.toList_some, Option.toList_none, List.cons_append, List.nil_append, mm_cats_nil, mm_cats_I, mm_cats_L, mm_cats_R, if_true, if_false, true_and, and_true, false_and, and_false, not_true_eq_false, not_false_eq_true, Int.reduceLE, Int.reduceLT, Int.reduceEq, Int.reduceNe, Int.reduceNeg, Int.reduceAdd, Int.reduceSub, Int.reduceMul, Nat.reduceAdd, Nat.reduceLeDiff, true_or, or_true, false_or, or_false, reduceIte, k_149, k_162, l_162, p, g, B, a, s, s2, u]
theorem lp_fn (hM : SM r) (d : Int) (d0 : 0 ≤ d) (d1 : d < 4) (w : Int → Int) (l13 : r 149 14 ≤ 13) : ∀ (m : Nat) (k : Int) (f : Int → Int), 0 ≤ k → k + m = 13 → ev 185 13 [some (vR 149), some (vI (54 + 18 * d)), some (vI k)] [] (rfo r f w) (g_1 L) = some (none, rfo r (nb f d (r 149 14) (r 154) k) w, g_1 L) := by
  intro m
  induction m with
  | zero =>
    intro k f k0 km
    have e : k = 13 := by omega
    subst e
    rw [nb_e, xe_185_13]
    simp only [xe_185_14, xe_185_16, xe_185_19, xe_185_20, xe_185_23, xe_185_24, xe_185_25, xe_185_26, xe_185_27, xe_185_28, xe_185_29, xe_185_30, xe_185_33, xe_185_36, xe_185_37, xe_185_40, xe_185_41, xe_185_42, xe_185_45, xe_185_46, xe_185_47, xe_185_50, xe_185_53, xe_185_55, xe_185_58, xe_185_60, xe_185_61 _ (some (vI _)) _ _ _ _ rfl, xe_185_61 _ (some (vR _)) _ _ _ _ rfl, xe_185_61 _ none _ _ _ _ rfl, xe_185_64, xe_185_67, ite_self, mm_nL_I, mm_nL_R, mm_nL_0, Option.bind_some, Option.bind_none, bnd_ite, Option.toList_some, Option.toList_none, List.cons_append, List.nil_append, mm_cats_nil, mm_cats_I, mm_cats_L, mm_cats_R, if_true, if_false, true_and, and_true, false_and, and_false, not_true_eq_false, not_false_eq_true, Int.reduceLE, Int.reduceLT, Int.reduceEq, Int.reduceNe, Int.reduceNeg, Int.reduceAdd, Int.reduceSub, Int.reduceMul, Nat.reduceAdd, Nat.reduceLeDiff, true_or, or_true, false_or, or_false, reduceIte]
  | succ m ih =>
    intro k f k0 km
    have I := ih (k + 1) (up f (54 + 18 * d + (5 + k)) (nmv (r 149 14) (r 154) k)) (by omega) (by omega)
    rw [nb_s f d (r 149 14) (r 154) k k0 (by omega)] at I
    have g : ¬ 13 ≤ k := by omega
    have a : 0 ≤ 54 + 18 * d + (5 + k) ∧ 54 + 18 * d + (5 + k) < 128 := by omega
    have s : w32 (k + 1) = k + 1 := wi32 (by omega) (by omega)
    have s1 : w32 (54 + 18 * d + 5) = 54 + 18 * d + 5 := wi32 (by omega) (by omega)
    have s2 : w32 (54 + 18 * d + 5 + k) = 54 + 18 * d + (5 + k) := by rw [wi32 (by omega) (by omega)]; omega
    have u := fun v => rfo_u r f w (54 + 18 * d + (5 + k)) v a.1 a.2
    have b9 : rfo r f w 149 = r 149 := rfo_b _ _ _ _ (by omega) (by omega)
    have b4 : rfo r f w 154 = r 154 := rfo_b _ _ _ _ (by omega) (by omega)
    have k13 : 0 ≤ k ∧ k < 13 := by omega
    rw [← I, xe_185_13]
    unfold nmv
    by_cases x : k < r 149 14
    · have x' : ¬ r 149 14 ≤ k := by omega
      rw [if_pos x]
      simp only [xe_185_14, xe_185_16, xe_185_19, xe_185_20, xe_185_23, xe_185_24, xe_185_25, xe_185_26, xe_185_27, xe_185_28, xe_185_29, xe_185_30, xe_185_33, xe_185_36, xe_185_37, xe_185_40, xe_185_41, xe_185_42, xe_185_45, xe_185_46, xe_185_47, xe_185_50, xe_185_53, xe_185_55, xe_185_58, xe_185_60, xe_185_61 _ (some (vI _)) _ _ _ _ rfl, xe_185_61 _ (some (vR _)) _ _ _ _ rfl, xe_185_61 _ none _ _ _ _ rfl, xe_185_64, xe_185_67, ite_self, mm_nL_I, mm_nL_R, mm_nL_0, Option.bind_some, Option.bind_none, bnd_ite, Option.toList_some, Option.toList_none, List.cons_append, List.nil_append, mm_cats_nil, mm_cats_I, mm_cats_L, mm_cats_R, if_true, if_false, true_and, and_true, false_and, and_false, not_true_eq_false, not_false_eq_true, Int.reduceLE, Int.reduceLT, Int.reduceEq, Int.reduceNe, Int.reduceNeg, Int.reduceAdd, Int.reduceSub, Int.reduceMul, Nat.reduceAdd, Nat.reduceLeDiff, true_or, or_true, false_or, or_false, reduceIte, k_149, k_162, l_162, k_154, l_154, b9, b4, sm_149_26 hM, sm_149_10 hM, g, x', k13, a, s, s1, s2, u]
    · have x' : r 149 14 ≤ k := by omega
      rw [if_neg x]
      by_cases e : k = r 149 14
      · rw [if_pos e]
        simp only [xe_185_14, xe_185_16, xe_185_19, xe_185_20, xe_185_23, xe_185_24, xe_185_25, xe_185_26, xe_185_27, xe_185_28, xe_185_29, xe_185_30, xe_185_33, xe_185_36, xe_185_37, xe_185_40, xe_185_41, xe_185_42, xe_185_45, xe_185_46, xe_185_47, xe_185_50, xe_185_53, xe_185_55, xe_185_58, xe_185_60, xe_185_61 _ (some (vI _)) _ _ _ _ rfl, xe_185_61 _ (some (vR _)) _ _ _ _ rfl, xe_185_61 _ none _ _ _ _ rfl, xe_185_64, xe_185_67, ite_self, mm_nL_I, mm_nL_R, mm_nL_0, Option.bind_some, Option.bind_none, bnd_ite, Option.toList_some, Option.toList_none, List.cons_append, List.nil_append, mm_cats_nil, mm_cats_I, mm_cats_L, mm_cats_R, if_true, if_false, true_and, and_true, false_and, and_false, not_true_eq_false, not_false_eq_true, Int.reduceLE, Int.reduceLT, Int.reduceEq, Int.reduceNe, Int.reduceNeg, Int.reduceAdd, Int.reduceSub, Int.reduceMul, Nat.reduceAdd, Nat.reduceLeDiff, true_or, or_true, false_or, or_false, reduceIte, k_149, k_162, l_162, k_154, l_154, b9, b4, sm_149_26 hM, sm_149_10 hM, g, x', eq_true e, a, s, s1, s2, u]
      · rw [if_neg e]
        simp only [xe_185_14, xe_185_16, xe_185_19, xe_185_20, xe_185_23, xe_185_24, xe_185_25, xe_185_26, xe_185_27, xe_185_28, xe_185_29, xe_185_30, xe_185_33, xe_185_36, xe_185_37, xe_185_40, xe_185_41, xe_185_42, xe_185_45, xe_185_46, xe_185_47, xe_185_50, xe_185_53, xe_185_55, xe_185_58, xe_185_60, xe_185_61 _ (some (vI _)) _ _ _ _ rfl, xe_185_61 _ (some (vR _)) _ _ _ _ rfl, xe_185_61 _ none _ _ _ _ rfl, xe_185_64, xe_185_67, ite_self, mm_nL_I, mm_nL_R, mm_nL_0, Option.bind_some, Option.bind_none, bnd_ite, Option.toList_some, Option.toList_none, List.cons_append, List.nil_append, mm_cats_nil, mm_cats_I, mm_cats_L, mm_cats_R, if_true, if_false, true_and, and_true, false_and, and_false, not_true_eq_false, not_false_eq_true, Int.reduceLE, Int.reduceLT, Int.reduceEq, Int.reduceNe, Int.reduceNeg, Int.reduceAdd, Int.reduceSub, Int.reduceMul, Nat.reduceAdd, Nat.reduceLeDiff, true_or, or_true, false_or, or_false, reduceIte, k_149, k_162, l_162, k_154, l_154, b9, b4, sm_149_26 hM, sm_149_10 hM, g, x', e, a, s, s1, s2, u]
theorem s_fn (hM : SM r) (d : Int) (d0 : 0 ≤ d) (d1 : d < 4) (f w : Int → Int) (l13 : r 149 14 ≤ 13) : ev 185 0 [some (vR 149), some (vI (54 + 18 * d)), none] [] (rfo r f w) (g_1 L) = some (none, rfo r (nb (up f (54 + 18 * d + 3) 252) d (r 149 14) (r 154) 0) w, g_1 L) := by
  have I := lp_fn (L := L) hM d d0 d1 w l13 13 0 (up f (54 + 18 * d + 3) 252) (by omega) (by omega)
  have a : 0 ≤ 54 + 18 * d + 3 ∧ 54 + 18 * d + 3 < 128 := by omega
  have s1 : w32 (54 + 18 * d + 3) = 54 + 18 * d + 3 := wi32 (by omega) (by omega)
  have u := fun v => rfo_u r f w (54 + 18 * d + 3) v a.1 a.2
  have b9 : rfo r f w 149 = r 149 := rfo_b _ _ _ _ (by omega) (by omega)
  rw [← I]
  simp only [xe_185_0, xe_185_1, xe_185_4, xe_185_5, xe_185_6, xe_185_7, xe_185_10, xe_185_11, xe_185_12 _ (some (vI _)) _ _ _ _ _ rfl, xe_185_12 _ (some (vR _)) _ _ _ _ _ rfl, xe_185_12 _ none _ _ _ _ _ rfl, ite_self, mm_nL_I, mm_nL_R, mm_nL_0, Option.bind_some, Option.bind_none, bnd_ite, Option.toList_some, Option.toList_none, List.cons_append, List.nil_append, mm_cats_nil, mm_cats_I, mm_cats_L, mm_cats_R, if_true, if_false, true_and, and_true, false_and, and_false, not_true_eq_false, not_false_eq_true, Int.reduceLE, Int.reduceLT, Int.reduceEq, Int.reduceNe, Int.reduceNeg, Int.reduceAdd, Int.reduceSub, Int.reduceMul, Nat.reduceAdd, Nat.reduceLeDiff, true_or, or_true, false_or, or_false, reduceIte, k_149, k_162, l_162, b9, sm_149_26 hM, a, s1, u]
theorem lp_fr (hM : SM r) (d : Int) (d0 : 0 ≤ d) (d1 : d < 4) (w : Int → Int) : ∀ (m : Nat) (k : Int) (f : Int → Int), 0 ≤ k → k + m = 4 → ev 186 13 [some (vR 149), some (vI (54 + 18 * d)), some (vI k)] [] (rfo r f w) (g_1 L) = ev 186 40 [some (vR 149), some (vI (54 + 18 * d)), some (vI 4)] [] (rfo r (rb f d (r 155) k 4) w) (g_1 L) := by
  intro m
  induction m with
  | zero =>
    intro k f k0 km
    have e : k = 4 := by omega
    subst e
    rw [rb_e, xe_186_13]
    simp only [xe_186_14, xe_186_15, xe_186_18, xe_186_19, xe_186_22, xe_186_23, xe_186_24, xe_186_25, xe_186_26, xe_186_27, xe_186_28, xe_186_31, xe_186_32, xe_186_33, xe_186_34 _ (some (vI _)) _ _ _ _ rfl, xe_186_34 _ (some (vR _)) _ _ _ _ rfl, xe_186_34 _ none _ _ _ _ rfl, xe_186_37, ite_self, mm_nL_I, mm_nL_R, mm_nL_0, Option.bind_some, Option.bind_none, bnd_ite, Option.toList_some, Option.toList_none, List.cons_append, List.nil_append, mm_cats_nil, mm_cats_I, mm_cats_L, mm_cats_R, if_true, if_false, true_and, and_true, false_and, and_false, not_true_eq_false, not_false_eq_true, Int.reduceLE, Int.reduceLT, Int.reduceEq, Int.reduceNe, Int.reduceNeg, Int.reduceAdd, Int.reduceSub, Int.reduceMul, Nat.reduceAdd, Nat.reduceLeDiff, true_or, or_true, false_or, or_false, reduceIte]
  | succ m ih =>
    intro k f k0 km
    have I := ih (k + 1) (up f (54 + 18 * d + (5 + k)) (r 155 k)) (by omega) (by omega)
    rw [rb_s f d (r 155) k 4 k0 (by omega)] at I
    have g : ¬ 4 ≤ k := by omega
    have a : 0 ≤ 54 + 18 * d + (5 + k) ∧ 54 + 18 * d + (5 + k) < 128 := by omega
    have s : w32 (k + 1) = k + 1 := wi32 (by omega) (by omega)
    have s1 : w32 (54 + 18 * d + 5) = 54 + 18 * d + 5 := wi32 (by omega) (by omega)
    have s2 : w32 (54 + 18 * d + 5 + k) = 54 + 18 * d + (5 + k) := by rw [wi32 (by omega) (by omega)]; omega
    have u := fun v => rfo_u r f w (54 + 18 * d + (5 + k)) v a.1 a.2
    have b9 : rfo r f w 149 = r 149 := rfo_b _ _ _ _ (by omega) (by omega)
    have b5 : rfo r f w 155 = r 155 := rfo_b _ _ _ _ (by omega) (by omega)
    have k5 : 0 ≤ k ∧ k < 5 := by omega
    rw [← I, xe_186_13]
    simp only [xe_186_14, xe_186_15, xe_186_18, xe_186_19, xe_186_22, xe_186_23, xe_186_24, xe_186_25, xe_186_26, xe_186_27, xe_186_28, xe_186_31, xe_186_32, xe_186_33, xe_186_34 _ (some (vI _)) _ _ _ _ rfl, xe_186_34 _ (some (vR _)) _ _ _ _ rfl, xe_186_34 _ none _ _ _ _ rfl, xe_186_37, ite_self, mm_nL_I, mm_nL_R, mm_nL_0, Option.bind_some, Option.bind_none, bnd_ite, Option.toList_some, Option.toList_none, List.cons_append, List.nil_append, mm_cats_nil, mm_cats_I, mm_cats_L, mm_cats_R, if_true, if_false, true_and, and_true, false_and, and_false, not_true_eq_false, not_false_eq_true, Int.reduceLE, Int.reduceLT, Int.reduceEq, Int.reduceNe, Int.reduceNeg, Int.reduceAdd, Int.reduceSub, Int.reduceMul, Nat.reduceAdd, Nat.reduceLeDiff, true_or, or_true, false_or, or_false, reduceIte, k_149, k_162, l_162, k_155, l_155, b9, b5, sm_149_26 hM, sm_149_11 hM, g, k5, a, s, s1, s2, u]
theorem s_fr (hM : SM r) (d : Int) (d0 : 0 ≤ d) (d1 : d < 4) (f w rg : Int → Int) (h4 : ∀ k, 0 ≤ k → k < 4 → rg k = r 155 k) (h5 : 10000 * rg 4 = r 155 4) (b0 : 0 ≤ rg 4) (b1 : rg 4 < 256) : ev 186 0 [some (vR 149), some (vI (54 + 18 * d)), none] [] (rfo r f w) (g_1 L) = some (none, rfo r (rb (up f (54 + 18 * d + 3) 253) d rg 0 5) w, g_1 L) := by
  have I := lp_fr (L := L) hM d d0 d1 w 4 0 (up f (54 + 18 * d + 3) 253) (by omega) (by omega)
  have a : 0 ≤ 54 + 18 * d + 3 ∧ 54 + 18 * d + 3 < 128 := by omega
  have a9 : 0 ≤ 54 + 18 * d + 9 ∧ 54 + 18 * d + 9 < 128 := by omega
  have s1 : w32 (54 + 18 * d + 3) = 54 + 18 * d + 3 := wi32 (by omega) (by omega)
  have s9 : w32 (54 + 18 * d + 9) = 54 + 18 * d + 9 := wi32 (by omega) (by omega)
  have dv : mm_div (r 155 4) 10000 = rg 4 := by rw [← h5, nu_div (by omega) (by omega) (by omega) (by omega)]; omega
  have e : up (rb (up f (54 + 18 * d + 3) 253) d (r 155) 0 4) (54 + 18 * d + 9) (rg 4) = rb (up f (54 + 18 * d + 3) 253) d rg 0 5 := by
    funext j
    unfold rb
    rw [up_e]
    by_cases x : j = 54 + 18 * d + 9
    · rw [if_pos x, if_pos (by omega), show j - 54 - 18 * d - 5 = 4 by omega]
    · rw [if_neg x]
      by_cases y : 54 + 18 * d + 5 + 0 ≤ j ∧ j < 54 + 18 * d + 5 + 4
      · rw [if_pos y, if_pos (by omega)]; exact (h4 _ (by omega) (by omega)).symm
      · rw [if_neg y, if_neg (by omega)]
  have u := fun f v => rfo_u r f w (54 + 18 * d + 3) v a.1 a.2
  have u9 := fun f v => rfo_u r f w (54 + 18 * d + 9) v a9.1 a9.2
  have b9 : ∀ f, rfo r f w 149 = r 149 := fun f => rfo_b _ _ _ _ (by omega) (by omega)
  have b5 : ∀ f, rfo r f w 155 = r 155 := fun f => rfo_b _ _ _ _ (by omega) (by omega)
  have st : ev 186 0 [some (vR 149), some (vI (54 + 18 * d)), none] [] (rfo r f w) (g_1 L) = ev 186 13 [some (vR 149), some (vI (54 + 18 * d)), some (vI 0)] [] (rfo r (up f (54 + 18 * d + 3) 253) w) (g_1 L) := by
    simp only [xe_186_0, xe_186_1, xe_186_4, xe_186_5, xe_186_6, xe_186_7, xe_186_10, xe_186_11, xe_186_12 _ (some (vI _)) _ _ _ _ _ rfl, xe_186_12 _ (some (vR _)) _ _ _ _ _ rfl, xe_186_12 _ none _ _ _ _ _ rfl, ite_self, mm_nL_I, mm_nL_R, mm_nL_0, Option.bind_some, Option.bind_none, bnd_ite, Option.toList_some, Option.toList_none, List.cons_append, List.nil_append, mm_cats_nil, mm_cats_I, mm_cats_L, mm_cats_R, if_true, if_false, true_and, and_true, false_and, and_false, not_true_eq_false, not_false_eq_true, Int.reduceLE, Int.reduceLT, Int.reduceEq, Int.reduceNe, Int.reduceNeg, Int.reduceAdd, Int.reduceSub, Int.reduceMul, Nat.reduceAdd, Nat.reduceLeDiff, true_or, or_true, false_or, or_false, reduceIte, k_149, k_162, l_162, b9, sm_149_26 hM, a, s1, u]
  rw [st, I, ← e]
  simp only [xe_186_40, xe_186_41, xe_186_44, xe_186_45, xe_186_47, xe_186_48, xe_186_49, xe_186_52, xe_186_53, xe_186_54, xe_186_57, xe_186_58, xe_186_59, ite_self, mm_nL_I, mm_nL_R, mm_nL_0, Option.bind_some, Option.bind_none, bnd_ite, Option.toList_some, Option.toList_none, List.cons_append, List.nil_append, mm_cats_nil, mm_cats_I, mm_cats_L, mm_cats_R, if_true, if_false, true_and, and_true, false_and, and_false, not_true_eq_false, not_false_eq_true, Int.reduceLE, Int.reduceLT, Int.reduceEq, Int.reduceNe, Int.reduceNeg, Int.reduceAdd, Int.reduceSub, Int.reduceMul, Nat.reduceAdd, Nat.reduceLeDiff, true_or, or_true, false_or, or_false, reduceIte, k_149, k_162, l_162, k_155, l_155, b9, b5, sm_149_26 hM, sm_149_11 hM, a9, s9, dv, u9]
end FM1
