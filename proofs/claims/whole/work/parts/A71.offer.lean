/-! load: a mode is offered, on both sides -/
def Wt (t : Int → Int) : Int := (t 1 + t 2) * (t 5 + t 6)
def hz (t : Int → Int) : Int := (2000 * t 0 + Wt t) / (2 * Wt t)
/-- a timing that is neither broken nor interlaced -/
def ct (t : Int → Int) : Prop := 0 < t 0 ∧ t 0 ≤ 655350 ∧ 0 < t 1 ∧ t 1 ≤ 4095 ∧ 0 < t 5 ∧ t 5 ≤ 4095 ∧ 0 ≤ t 2 ∧ t 2 ≤ 4095 ∧ 0 ≤ t 6 ∧ t 6 ≤ 4095 ∧ 0 ≤ t 3 ∧ t 3 ≤ 1023 ∧ 0 ≤ t 4 ∧ t 4 ≤ 1023 ∧ 0 ≤ t 7 ∧ t 7 ≤ 63 ∧ 0 ≤ t 8 ∧ t 8 ≤ 63 ∧ t 3 + t 4 ≤ t 2 ∧ t 7 + t 8 ≤ t 6 ∧ t 9 = 0
theorem Wt_ok {t : Int → Int} (h : ct t) : 0 < Wt t ∧ Wt t ≤ 8190 * 8190 := by
  unfold ct at h
  unfold Wt
  have b := mul_bd (show 0 ≤ t 1 + t 2 by omega) (show t 1 + t 2 ≤ 8190 by omega) (show 0 ≤ t 5 + t 6 by omega) (show t 5 + t 6 ≤ 8190 by omega)
  have p : 0 < (t 1 + t 2) * (t 5 + t 6) := Int.mul_pos (by omega) (by omega)
  omega
theorem hz_ok {t : Int → Int} (h : ct t) : 0 ≤ hz t ∧ hz t ≤ 700000000 ∧ 2 * (hz t * Wt t) ≤ 2000 * t 0 + Wt t := by
  have w := Wt_ok h
  unfold ct at h
  unfold hz
  generalize Wt t = W at *
  have hp : 0 ≤ (2000 * t 0 + W) / (2 * W) := Int.ediv_nonneg (by omega) (by omega)
  have m := Int.mul_ediv_self_le (x := 2000 * t 0 + W) (k := 2 * W) (by omega)
  generalize (2000 * t 0 + W) / (2 * W) = H at *
  have e : 2 * (H * W) = 2 * W * H := by rw [Int.mul_assoc 2 W, Int.mul_comm W]
  refine ⟨hp, ?_, by omega⟩
  by_cases q : H ≤ 700000000
  · exact q
  · have := Int.mul_le_mul_of_nonneg_right (show 700000001 ≤ H by omega) (show 0 ≤ W by omega)
    omega
theorem s_hzX (L a : Int) (c : MM) (ha : 0 < a) (hk : gk (g_1 L) a = 7) (h : ct (c a)) : ev 73 0 [some (vR a), none, none] [] c (g_1 L) = some (some (vI (hz (c a))), c, g_1 L) := by
  have w := Wt_ok h
  have o := hz_ok h
  have h' := h
  unfold ct at h
  have P := s_pixels a c (g_1 L) hk (by omega) (by omega) (by omega) (by omega)
  have P' : ev 72 0 [some (vR a)] [] c (g_1 L) = some (some (vL (Wt (c a))), c, g_1 L) := P
  unfold hz at *
  generalize Wt (c a) = W at *
  have n0 : ¬ mm_cmp W 0 ≤ 0 := by rw [cmp_le]; omega
  have w1 : w64 (c a 0 * 2000) = 2000 * c a 0 := by rw [wi64 (by omega) (by omega)]; omega
  have w2 : w64 (2000 * c a 0 + W) = 2000 * c a 0 + W := wi64 (by omega) (by omega)
  have w3 : w64 (2 * W) = 2 * W := wi64 (by omega) (by omega)
  have d : mm_ldiv (2000 * c a 0 + W) (2 * W) = (2000 * c a 0 + W) / (2 * W) := nu_ldiv (by omega) (by omega) (by omega) (by omega)
  have nw : ¬ 2 * W = 0 := by omega
  have w4 : w32 ((2000 * c a 0 + W) / (2 * W)) = (2000 * c a 0 + W) / (2 * W) := wi32 (by omega) (by omega)
  simp only [xe_73_0, xe_73_1, xe_73_4 (some (vI _)) _ _ _ _ _ _ rfl, xe_73_4 (some (vR _)) _ _ _ _ _ _ rfl, xe_73_4 none _ _ _ _ _ _ rfl, xe_73_5, xe_73_6, xe_73_7, xe_73_8, xe_73_11, xe_73_12, xe_73_15, xe_73_16, xe_73_19, xe_73_20, xe_73_21, xe_73_22, xe_73_25, xe_73_26, xe_73_27, xe_73_28, xe_73_29, xe_73_32, xe_73_33, ite_self, mm_nL_I, mm_nL_R, mm_nL_0, Option.bind_some, Option.bind_none, bnd_ite, Option.toList_some, Option.toList_none, List.cons_append, List.nil_append, mm_cats_nil, mm_cats_I, mm_cats_L, mm_cats_R, if_true, if_false, true_and, and_true, false_and, and_false, not_true_eq_false, not_false_eq_true, Int.reduceLE, Int.reduceLT, Int.reduceEq, Int.reduceNe, Int.reduceNeg, Int.reduceAdd, Int.reduceSub, Int.reduceMul, Nat.reduceAdd, Nat.reduceLeDiff, true_or, or_true, false_or, or_false, reduceIte, hk, ha, P', n0, w1, w2, w3, d, nw, w4]
theorem s_hzM (k W : Int) (c : MM) (G : MG) (k0 : 0 ≤ k) (k1 : k ≤ 655350) (W0 : 0 < W) (W1 : W ≤ 8190 * 8190) (o : (2000 * k + W) / (2 * W) ≤ 700000000) : ev 167 0 [some (vI k), some (vI W)] [] c G = some (some (vI ((2000 * k + W) / (2 * W))), c, G) := by
  have w1 : w64 (2000 * k) = 2000 * k := wi64 (by omega) (by omega)
  have w2 : w64 (2000 * k + W) = 2000 * k + W := wi64 (by omega) (by omega)
  have w3 : w64 (2 * W) = 2 * W := wi64 (by omega) (by omega)
  have d : mm_ldiv (2000 * k + W) (2 * W) = (2000 * k + W) / (2 * W) := nu_ldiv (by omega) (by omega) (by omega) (by omega)
  have nw : ¬ 2 * W = 0 := by omega
  have p : 0 ≤ (2000 * k + W) / (2 * W) := Int.ediv_nonneg (by omega) (by omega)
  have w4 : w32 ((2000 * k + W) / (2 * W)) = (2000 * k + W) / (2 * W) := wi32 (by omega) (by omega)
  simp only [xe_167_0, xe_167_3, xe_167_4, xe_167_5, xe_167_6, xe_167_7, xe_167_8, xe_167_9, xe_167_12, xe_167_13, xe_167_14, xe_167_15, xe_167_16, xe_167_17, ite_self, mm_nL_I, mm_nL_R, mm_nL_0, Option.bind_some, Option.bind_none, bnd_ite, Option.toList_some, Option.toList_none, List.cons_append, List.nil_append, mm_cats_nil, mm_cats_I, mm_cats_L, mm_cats_R, if_true, if_false, true_and, and_true, false_and, and_false, not_true_eq_false, not_false_eq_true, Int.reduceLE, Int.reduceLT, Int.reduceEq, Int.reduceNe, Int.reduceNeg, Int.reduceAdd, Int.reduceSub, Int.reduceMul, Nat.reduceAdd, Nat.reduceLeDiff, true_or, or_true, false_or, or_false, reduceIte, w1, w2, w3, d, nw, w4]
/-- out of the range: z Hertz, lines, clock -/
def ou (c : MM) (z l k : Int) : Bool := decide (c 16 12 = 1 ∧ ¬ (c 22 0 ≤ z ∧ z ≤ c 22 1 ∧ c 22 2 ≤ l ∧ l ≤ c 22 3 ∧ k ≤ 10000 * c 22 4))
theorem s_inR (L z l k : Int) (c r : MM) (p4 : c 16 4 = 22) (h : Qr c r) : ev 58 0 [some (vR 16), some (vI z), some (vI l), some (vI k)] [] c (g_1 L) = some (some (vI (if ou c z l k = true then 0 else 1)), c, g_1 L) := by
  obtain ⟨h1, h2, h3⟩ := h
  unfold ou
  rcases h2 with e | e
  · have n : ¬ (c 16 12 = 1 ∧ ¬ (c 22 0 ≤ z ∧ z ≤ c 22 1 ∧ c 22 2 ≤ l ∧ l ≤ c 22 3 ∧ k ≤ 10000 * c 22 4)) := by omega
    rw [decide_eq_false n]
    simp only [xe_58_0, xe_58_1, xe_58_4, xe_58_7, xe_58_8, xe_58_9, xe_58_12, xe_58_13, xe_58_14, xe_58_17, xe_58_18, xe_58_19, xe_58_22, xe_58_23, xe_58_24, xe_58_27, xe_58_28, xe_58_29, xe_58_32, xe_58_33, xe_58_34, xe_58_37, xe_58_38, xe_58_39, xe_58_42, xe_58_43, xe_58_44, xe_58_47, xe_58_48, xe_58_49, xe_58_52, xe_58_53, xe_58_54, xe_58_57, xe_58_58, xe_58_61, xe_58_62, xe_58_65, xe_58_66, ite_self, mm_nL_I, mm_nL_R, mm_nL_0, Option.bind_some, Option.bind_none, bnd_ite, Option.toList_some, Option.toList_none, List.cons_append, List.nil_append, mm_cats_nil, mm_cats_I, mm_cats_L, mm_cats_R, if_true, if_false, true_and, and_true, false_and, and_false, not_true_eq_false, not_false_eq_true, Int.reduceLE, Int.reduceLT, Int.reduceEq, Int.reduceNe, Int.reduceNeg, Int.reduceAdd, Int.reduceSub, Int.reduceMul, Nat.reduceAdd, Nat.reduceLeDiff, true_or, or_true, false_or, or_false, reduceIte, k_16, e, Bool.false_eq_true]
  · have b4 := (h3 e).1 4 (by omega) (by omega)
    have w : w32 (c 22 4 * 10000) = 10000 * c 22 4 := by rw [wi32 (by omega) (by omega)]; omega
    by_cases q0 : z < c 22 0
    · have n : (c 16 12 = 1 ∧ ¬ (c 22 0 ≤ z ∧ z ≤ c 22 1 ∧ c 22 2 ≤ l ∧ l ≤ c 22 3 ∧ k ≤ 10000 * c 22 4)) := by omega
      rw [decide_eq_true n]
      simp only [xe_58_0, xe_58_1, xe_58_4, xe_58_7, xe_58_8, xe_58_9, xe_58_12, xe_58_13, xe_58_14, xe_58_17, xe_58_18, xe_58_19, xe_58_22, xe_58_23, xe_58_24, xe_58_27, xe_58_28, xe_58_29, xe_58_32, xe_58_33, xe_58_34, xe_58_37, xe_58_38, xe_58_39, xe_58_42, xe_58_43, xe_58_44, xe_58_47, xe_58_48, xe_58_49, xe_58_52, xe_58_53, xe_58_54, xe_58_57, xe_58_58, xe_58_61, xe_58_62, xe_58_65, xe_58_66, ite_self, mm_nL_I, mm_nL_R, mm_nL_0, Option.bind_some, Option.bind_none, bnd_ite, Option.toList_some, Option.toList_none, List.cons_append, List.nil_append, mm_cats_nil, mm_cats_I, mm_cats_L, mm_cats_R, if_true, if_false, true_and, and_true, false_and, and_false, not_true_eq_false, not_false_eq_true, Int.reduceLE, Int.reduceLT, Int.reduceEq, Int.reduceNe, Int.reduceNeg, Int.reduceAdd, Int.reduceSub, Int.reduceMul, Nat.reduceAdd, Nat.reduceLeDiff, true_or, or_true, false_or, or_false, reduceIte, k_16, k_22, l_22, p4, e, q0]
    · by_cases q1 : c 22 1 < z
      · have n : (c 16 12 = 1 ∧ ¬ (c 22 0 ≤ z ∧ z ≤ c 22 1 ∧ c 22 2 ≤ l ∧ l ≤ c 22 3 ∧ k ≤ 10000 * c 22 4)) := by omega
        rw [decide_eq_true n]
        simp only [xe_58_0, xe_58_1, xe_58_4, xe_58_7, xe_58_8, xe_58_9, xe_58_12, xe_58_13, xe_58_14, xe_58_17, xe_58_18, xe_58_19, xe_58_22, xe_58_23, xe_58_24, xe_58_27, xe_58_28, xe_58_29, xe_58_32, xe_58_33, xe_58_34, xe_58_37, xe_58_38, xe_58_39, xe_58_42, xe_58_43, xe_58_44, xe_58_47, xe_58_48, xe_58_49, xe_58_52, xe_58_53, xe_58_54, xe_58_57, xe_58_58, xe_58_61, xe_58_62, xe_58_65, xe_58_66, ite_self, mm_nL_I, mm_nL_R, mm_nL_0, Option.bind_some, Option.bind_none, bnd_ite, Option.toList_some, Option.toList_none, List.cons_append, List.nil_append, mm_cats_nil, mm_cats_I, mm_cats_L, mm_cats_R, if_true, if_false, true_and, and_true, false_and, and_false, not_true_eq_false, not_false_eq_true, Int.reduceLE, Int.reduceLT, Int.reduceEq, Int.reduceNe, Int.reduceNeg, Int.reduceAdd, Int.reduceSub, Int.reduceMul, Nat.reduceAdd, Nat.reduceLeDiff, true_or, or_true, false_or, or_false, reduceIte, k_16, k_22, l_22, p4, e, q0, q1]
      · by_cases q2 : l < c 22 2
        · have n : (c 16 12 = 1 ∧ ¬ (c 22 0 ≤ z ∧ z ≤ c 22 1 ∧ c 22 2 ≤ l ∧ l ≤ c 22 3 ∧ k ≤ 10000 * c 22 4)) := by omega
          rw [decide_eq_true n]
          simp only [xe_58_0, xe_58_1, xe_58_4, xe_58_7, xe_58_8, xe_58_9, xe_58_12, xe_58_13, xe_58_14, xe_58_17, xe_58_18, xe_58_19, xe_58_22, xe_58_23, xe_58_24, xe_58_27, xe_58_28, xe_58_29, xe_58_32, xe_58_33, xe_58_34, xe_58_37, xe_58_38, xe_58_39, xe_58_42, xe_58_43, xe_58_44, xe_58_47, xe_58_48, xe_58_49, xe_58_52, xe_58_53, xe_58_54, xe_58_57, xe_58_58, xe_58_61, xe_58_62, xe_58_65, xe_58_66, ite_self, mm_nL_I, mm_nL_R, mm_nL_0, Option.bind_some, Option.bind_none, bnd_ite, Option.toList_some, Option.toList_none, List.cons_append, List.nil_append, mm_cats_nil, mm_cats_I, mm_cats_L, mm_cats_R, if_true, if_false, true_and, and_true, false_and, and_false, not_true_eq_false, not_false_eq_true, Int.reduceLE, Int.reduceLT, Int.reduceEq, Int.reduceNe, Int.reduceNeg, Int.reduceAdd, Int.reduceSub, Int.reduceMul, Nat.reduceAdd, Nat.reduceLeDiff, true_or, or_true, false_or, or_false, reduceIte, k_16, k_22, l_22, p4, e, q0, q1, q2]
        · by_cases q3 : c 22 3 < l
          · have n : (c 16 12 = 1 ∧ ¬ (c 22 0 ≤ z ∧ z ≤ c 22 1 ∧ c 22 2 ≤ l ∧ l ≤ c 22 3 ∧ k ≤ 10000 * c 22 4)) := by omega
            rw [decide_eq_true n]
            simp only [xe_58_0, xe_58_1, xe_58_4, xe_58_7, xe_58_8, xe_58_9, xe_58_12, xe_58_13, xe_58_14, xe_58_17, xe_58_18, xe_58_19, xe_58_22, xe_58_23, xe_58_24, xe_58_27, xe_58_28, xe_58_29, xe_58_32, xe_58_33, xe_58_34, xe_58_37, xe_58_38, xe_58_39, xe_58_42, xe_58_43, xe_58_44, xe_58_47, xe_58_48, xe_58_49, xe_58_52, xe_58_53, xe_58_54, xe_58_57, xe_58_58, xe_58_61, xe_58_62, xe_58_65, xe_58_66, ite_self, mm_nL_I, mm_nL_R, mm_nL_0, Option.bind_some, Option.bind_none, bnd_ite, Option.toList_some, Option.toList_none, List.cons_append, List.nil_append, mm_cats_nil, mm_cats_I, mm_cats_L, mm_cats_R, if_true, if_false, true_and, and_true, false_and, and_false, not_true_eq_false, not_false_eq_true, Int.reduceLE, Int.reduceLT, Int.reduceEq, Int.reduceNe, Int.reduceNeg, Int.reduceAdd, Int.reduceSub, Int.reduceMul, Nat.reduceAdd, Nat.reduceLeDiff, true_or, or_true, false_or, or_false, reduceIte, k_16, k_22, l_22, p4, e, q0, q1, q2, q3]
          · by_cases q4 : 10000 * c 22 4 < k
            · have n : (c 16 12 = 1 ∧ ¬ (c 22 0 ≤ z ∧ z ≤ c 22 1 ∧ c 22 2 ≤ l ∧ l ≤ c 22 3 ∧ k ≤ 10000 * c 22 4)) := by omega
              rw [decide_eq_true n]
              simp only [xe_58_0, xe_58_1, xe_58_4, xe_58_7, xe_58_8, xe_58_9, xe_58_12, xe_58_13, xe_58_14, xe_58_17, xe_58_18, xe_58_19, xe_58_22, xe_58_23, xe_58_24, xe_58_27, xe_58_28, xe_58_29, xe_58_32, xe_58_33, xe_58_34, xe_58_37, xe_58_38, xe_58_39, xe_58_42, xe_58_43, xe_58_44, xe_58_47, xe_58_48, xe_58_49, xe_58_52, xe_58_53, xe_58_54, xe_58_57, xe_58_58, xe_58_61, xe_58_62, xe_58_65, xe_58_66, ite_self, mm_nL_I, mm_nL_R, mm_nL_0, Option.bind_some, Option.bind_none, bnd_ite, Option.toList_some, Option.toList_none, List.cons_append, List.nil_append, mm_cats_nil, mm_cats_I, mm_cats_L, mm_cats_R, if_true, if_false, true_and, and_true, false_and, and_false, not_true_eq_false, not_false_eq_true, Int.reduceLE, Int.reduceLT, Int.reduceEq, Int.reduceNe, Int.reduceNeg, Int.reduceAdd, Int.reduceSub, Int.reduceMul, Nat.reduceAdd, Nat.reduceLeDiff, true_or, or_true, false_or, or_false, reduceIte, k_16, k_22, l_22, p4, e, q0, q1, q2, q3, w, q4]
            · have n : ¬ (c 16 12 = 1 ∧ ¬ (c 22 0 ≤ z ∧ z ≤ c 22 1 ∧ c 22 2 ≤ l ∧ l ≤ c 22 3 ∧ k ≤ 10000 * c 22 4)) := by omega
              rw [decide_eq_false n]
              simp only [xe_58_0, xe_58_1, xe_58_4, xe_58_7, xe_58_8, xe_58_9, xe_58_12, xe_58_13, xe_58_14, xe_58_17, xe_58_18, xe_58_19, xe_58_22, xe_58_23, xe_58_24, xe_58_27, xe_58_28, xe_58_29, xe_58_32, xe_58_33, xe_58_34, xe_58_37, xe_58_38, xe_58_39, xe_58_42, xe_58_43, xe_58_44, xe_58_47, xe_58_48, xe_58_49, xe_58_52, xe_58_53, xe_58_54, xe_58_57, xe_58_58, xe_58_61, xe_58_62, xe_58_65, xe_58_66, ite_self, mm_nL_I, mm_nL_R, mm_nL_0, Option.bind_some, Option.bind_none, bnd_ite, Option.toList_some, Option.toList_none, List.cons_append, List.nil_append, mm_cats_nil, mm_cats_I, mm_cats_L, mm_cats_R, if_true, if_false, true_and, and_true, false_and, and_false, not_true_eq_false, not_false_eq_true, Int.reduceLE, Int.reduceLT, Int.reduceEq, Int.reduceNe, Int.reduceNeg, Int.reduceAdd, Int.reduceSub, Int.reduceMul, Nat.reduceAdd, Nat.reduceLeDiff, true_or, or_true, false_or, or_false, reduceIte, k_16, k_22, l_22, p4, e, q0, q1, q2, q3, w, q4, Bool.false_eq_true]
theorem s_isOut (L z k wh : Int) (c r : MM) (p11 : r 149 11 = 155) (h : Qr c r) (k0 : 0 ≤ k) (k1 : k ≤ 655350) (w0 : 0 < wh) (w1 : wh ≤ 8190) : ev 169 0 [some (vR 149), some (vI z), some (vI k), some (vI wh)] [] r (g_1 L) = some (some (vI (if ou c z (k / wh) k = true then 1 else 0)), r, g_1 L) := by
  obtain ⟨h1, h2, h3⟩ := h
  have d : mm_div k wh = k / wh := nu_div k0 (by omega) w0 (by omega)
  have nw : ¬ wh = 0 := by omega
  unfold ou
  rw [h1] at h2 h3 ⊢
  rcases h2 with e | e
  · have n : ¬ (r 149 18 = 1 ∧ ¬ (c 22 0 ≤ z ∧ z ≤ c 22 1 ∧ c 22 2 ≤ k / wh ∧ k / wh ≤ c 22 3 ∧ k ≤ 10000 * c 22 4)) := by omega
    rw [decide_eq_false n]
    simp only [xe_169_0, xe_169_1, xe_169_4, xe_169_7, xe_169_8, xe_169_9, xe_169_10, xe_169_11, xe_169_12, xe_169_15, xe_169_16, xe_169_17, xe_169_18, xe_169_19, xe_169_22, xe_169_23, xe_169_24, xe_169_25, xe_169_28, xe_169_31, xe_169_32, xe_169_33, xe_169_34, xe_169_35, xe_169_36, xe_169_39, xe_169_40, xe_169_41, xe_169_42, xe_169_43, xe_169_46, xe_169_47, xe_169_48, xe_169_49, xe_169_52, xe_169_55, xe_169_56, xe_169_57, xe_169_60, xe_169_61, xe_169_62, xe_169_65, xe_169_66, xe_169_69, xe_169_70, ite_self, mm_nL_I, mm_nL_R, mm_nL_0, Option.bind_some, Option.bind_none, bnd_ite, Option.toList_some, Option.toList_none, List.cons_append, List.nil_append, mm_cats_nil, mm_cats_I, mm_cats_L, mm_cats_R, if_true, if_false, true_and, and_true, false_and, and_false, not_true_eq_false, not_false_eq_true, Int.reduceLE, Int.reduceLT, Int.reduceEq, Int.reduceNe, Int.reduceNeg, Int.reduceAdd, Int.reduceSub, Int.reduceMul, Nat.reduceAdd, Nat.reduceLeDiff, true_or, or_true, false_or, or_false, reduceIte, k_149, e, Bool.false_eq_true]
  · obtain ⟨a1, a2, a3⟩ := h3 e
    have c0 := a2 0 (by omega) (by omega)
    have c1 := a2 1 (by omega) (by omega)
    have c2 := a2 2 (by omega) (by omega)
    have c3 := a2 3 (by omega) (by omega)
    rw [c0, c1, c2, c3, a3]
    by_cases q0 : r 155 0 ≤ z ∧ z ≤ r 155 1
    · by_cases q1 : r 155 2 ≤ k / wh ∧ k / wh ≤ r 155 3
      · by_cases q2 : k ≤ r 155 4
        · have n : ¬ (r 149 18 = 1 ∧ ¬ (r 155 0 ≤ z ∧ z ≤ r 155 1 ∧ r 155 2 ≤ k / wh ∧ k / wh ≤ r 155 3 ∧ k ≤ r 155 4)) := by omega
          rw [decide_eq_false n]
          simp only [xe_169_0, xe_169_1, xe_169_4, xe_169_7, xe_169_8, xe_169_9, xe_169_10, xe_169_11, xe_169_12, xe_169_15, xe_169_16, xe_169_17, xe_169_18, xe_169_19, xe_169_22, xe_169_23, xe_169_24, xe_169_25, xe_169_28, xe_169_31, xe_169_32, xe_169_33, xe_169_34, xe_169_35, xe_169_36, xe_169_39, xe_169_40, xe_169_41, xe_169_42, xe_169_43, xe_169_46, xe_169_47, xe_169_48, xe_169_49, xe_169_52, xe_169_55, xe_169_56, xe_169_57, xe_169_60, xe_169_61, xe_169_62, xe_169_65, xe_169_66, xe_169_69, xe_169_70, ite_self, mm_nL_I, mm_nL_R, mm_nL_0, Option.bind_some, Option.bind_none, bnd_ite, Option.toList_some, Option.toList_none, List.cons_append, List.nil_append, mm_cats_nil, mm_cats_I, mm_cats_L, mm_cats_R, if_true, if_false, true_and, and_true, false_and, and_false, not_true_eq_false, not_false_eq_true, Int.reduceLE, Int.reduceLT, Int.reduceEq, Int.reduceNe, Int.reduceNeg, Int.reduceAdd, Int.reduceSub, Int.reduceMul, Nat.reduceAdd, Nat.reduceLeDiff, true_or, or_true, false_or, or_false, reduceIte, k_149, k_155, l_155, p11, e, d, nw, s_isIn, bi, q0, q1, q2, Bool.false_eq_true]
        · have n : (r 149 18 = 1 ∧ ¬ (r 155 0 ≤ z ∧ z ≤ r 155 1 ∧ r 155 2 ≤ k / wh ∧ k / wh ≤ r 155 3 ∧ k ≤ r 155 4)) := by omega
          rw [decide_eq_true n]
          simp only [xe_169_0, xe_169_1, xe_169_4, xe_169_7, xe_169_8, xe_169_9, xe_169_10, xe_169_11, xe_169_12, xe_169_15, xe_169_16, xe_169_17, xe_169_18, xe_169_19, xe_169_22, xe_169_23, xe_169_24, xe_169_25, xe_169_28, xe_169_31, xe_169_32, xe_169_33, xe_169_34, xe_169_35, xe_169_36, xe_169_39, xe_169_40, xe_169_41, xe_169_42, xe_169_43, xe_169_46, xe_169_47, xe_169_48, xe_169_49, xe_169_52, xe_169_55, xe_169_56, xe_169_57, xe_169_60, xe_169_61, xe_169_62, xe_169_65, xe_169_66, xe_169_69, xe_169_70, ite_self, mm_nL_I, mm_nL_R, mm_nL_0, Option.bind_some, Option.bind_none, bnd_ite, Option.toList_some, Option.toList_none, List.cons_append, List.nil_append, mm_cats_nil, mm_cats_I, mm_cats_L, mm_cats_R, if_true, if_false, true_and, and_true, false_and, and_false, not_true_eq_false, not_false_eq_true, Int.reduceLE, Int.reduceLT, Int.reduceEq, Int.reduceNe, Int.reduceNeg, Int.reduceAdd, Int.reduceSub, Int.reduceMul, Nat.reduceAdd, Nat.reduceLeDiff, true_or, or_true, false_or, or_false, reduceIte, k_149, k_155, l_155, p11, e, d, nw, s_isIn, bi, q0, q1, q2]
      · have n : (r 149 18 = 1 ∧ ¬ (r 155 0 ≤ z ∧ z ≤ r 155 1 ∧ r 155 2 ≤ k / wh ∧ k / wh ≤ r 155 3 ∧ k ≤ r 155 4)) := by omega
        rw [decide_eq_true n]
        simp only [xe_169_0, xe_169_1, xe_169_4, xe_169_7, xe_169_8, xe_169_9, xe_169_10, xe_169_11, xe_169_12, xe_169_15, xe_169_16, xe_169_17, xe_169_18, xe_169_19, xe_169_22, xe_169_23, xe_169_24, xe_169_25, xe_169_28, xe_169_31, xe_169_32, xe_169_33, xe_169_34, xe_169_35, xe_169_36, xe_169_39, xe_169_40, xe_169_41, xe_169_42, xe_169_43, xe_169_46, xe_169_47, xe_169_48, xe_169_49, xe_169_52, xe_169_55, xe_169_56, xe_169_57, xe_169_60, xe_169_61, xe_169_62, xe_169_65, xe_169_66, xe_169_69, xe_169_70, ite_self, mm_nL_I, mm_nL_R, mm_nL_0, Option.bind_some, Option.bind_none, bnd_ite, Option.toList_some, Option.toList_none, List.cons_append, List.nil_append, mm_cats_nil, mm_cats_I, mm_cats_L, mm_cats_R, if_true, if_false, true_and, and_true, false_and, and_false, not_true_eq_false, not_false_eq_true, Int.reduceLE, Int.reduceLT, Int.reduceEq, Int.reduceNe, Int.reduceNeg, Int.reduceAdd, Int.reduceSub, Int.reduceMul, Nat.reduceAdd, Nat.reduceLeDiff, true_or, or_true, false_or, or_false, reduceIte, k_149, k_155, l_155, p11, e, d, nw, s_isIn, bi, q0, q1]
    · have n : (r 149 18 = 1 ∧ ¬ (r 155 0 ≤ z ∧ z ≤ r 155 1 ∧ r 155 2 ≤ k / wh ∧ k / wh ≤ r 155 3 ∧ k ≤ r 155 4)) := by omega
      rw [decide_eq_true n]
      simp only [xe_169_0, xe_169_1, xe_169_4, xe_169_7, xe_169_8, xe_169_9, xe_169_10, xe_169_11, xe_169_12, xe_169_15, xe_169_16, xe_169_17, xe_169_18, xe_169_19, xe_169_22, xe_169_23, xe_169_24, xe_169_25, xe_169_28, xe_169_31, xe_169_32, xe_169_33, xe_169_34, xe_169_35, xe_169_36, xe_169_39, xe_169_40, xe_169_41, xe_169_42, xe_169_43, xe_169_46, xe_169_47, xe_169_48, xe_169_49, xe_169_52, xe_169_55, xe_169_56, xe_169_57, xe_169_60, xe_169_61, xe_169_62, xe_169_65, xe_169_66, xe_169_69, xe_169_70, ite_self, mm_nL_I, mm_nL_R, mm_nL_0, Option.bind_some, Option.bind_none, bnd_ite, Option.toList_some, Option.toList_none, List.cons_append, List.nil_append, mm_cats_nil, mm_cats_I, mm_cats_L, mm_cats_R, if_true, if_false, true_and, and_true, false_and, and_false, not_true_eq_false, not_false_eq_true, Int.reduceLE, Int.reduceLT, Int.reduceEq, Int.reduceNe, Int.reduceNeg, Int.reduceAdd, Int.reduceSub, Int.reduceMul, Nat.reduceAdd, Nat.reduceLeDiff, true_or, or_true, false_or, or_false, reduceIte, k_149, k_155, l_155, p11, e, d, nw, s_isIn, bi, q0]
theorem ff_n (p : Int → Bool) : ∀ (n : Nat) (i : Int), 0 ≤ i → (ff p i n = -1 ↔ ∀ j, i ≤ j → j < i + n → p j = false)
  | 0, i, _ => ⟨fun _ j a b => by omega, fun _ => rfl⟩
  | n + 1, i, h0 => by
    simp only [ff]
    by_cases z : p i = true
    · rw [if_pos z]
      constructor
      · intro h; omega
      · intro h; have := h i (Int.le_refl _) (by omega); rw [z] at this; cases this
    · rw [if_neg z, ff_n p n (i + 1) (by omega)]
      have zf : p i = false := by cases q : p i; rfl; exact absurd q z
      constructor
      · intro h j a b
        by_cases e : j = i
        · rw [e]; exact zf
        · exact h j (by omega) (by omega)
      · intro h j a b; exact h j (by omega) (by omega)
theorem fd_eq (q : Int → Int) (s : Nat) (x y z : Int) : (ff (fun i => isL q (12 * sor q s i) x y z) 0 s = -1) ↔ (ff (fun i => isL q (12 * i) x y z) 0 s = -1) := by
  rw [ff_n _ _ _ (by omega), ff_n _ _ _ (by omega)]
  constructor
  · intro h j a b
    obtain ⟨i, i0, i1, e⟩ := sor_s q s j (by omega) (by omega)
    have := h i (by omega) (by omega)
    rw [e] at this; exact this
  · intro h j a b
    have := sor_r q s j (by omega) (by omega)
    exact h _ (by omega) (by omega)
theorem s_isFd (L x y z s : Int) (r : MM) (p20 : r 149 20 = 157) (hs : r 149 23 = s) (s1 : s ≤ 40) : ∀ (m : Nat) (i : Int), 0 ≤ i → i + m = s → ev 170 3 [some (vR 149), some (vI x), some (vI y), some (vI z), some (vI i)] [] r (g_1 L) = some (some (vI (if ff (fun i => isL (r 157) (12 * i) x y z) i m = -1 then 0 else 1)), r, g_1 L) := by
  intro m
  induction m with
  | zero =>
    intro i i0 hi
    have g : s ≤ i := by omega
    simp only [xe_170_3, xe_170_5, xe_170_6, xe_170_9, xe_170_66, xe_170_67, ite_self, mm_nL_I, mm_nL_R, mm_nL_0, Option.bind_some, Option.bind_none, bnd_ite, Option.toList_some, Option.toList_none, List.cons_append, List.nil_append, mm_cats_nil, mm_cats_I, mm_cats_L, mm_cats_R, if_true, if_false, true_and, and_true, false_and, and_false, not_true_eq_false, not_false_eq_true, Int.reduceLE, Int.reduceLT, Int.reduceEq, Int.reduceNe, Int.reduceNeg, Int.reduceAdd, Int.reduceSub, Int.reduceMul, Nat.reduceAdd, Nat.reduceLeDiff, true_or, or_true, false_or, or_false, reduceIte, k_149, hs, g, ff]
  | succ m ih =>
    intro i i0 hi
    have g : ¬ s ≤ i := by omega
    have w0 : w32 (12 * i) = 12 * i := wi32 (by omega) (by omega)
    have w1 : w32 (12 * i + 1) = 12 * i + 1 := wi32 (by omega) (by omega)
    have w2 : w32 (12 * i + 2) = 12 * i + 2 := wi32 (by omega) (by omega)
    have w3 : w32 (i + 1) = i + 1 := wi32 (by omega) (by omega)
    have r0 : 0 ≤ 12 * i ∧ 12 * i < 480 := by omega
    have r1 : 0 ≤ 12 * i + 1 ∧ 12 * i + 1 < 480 := by omega
    have r2 : 0 ≤ 12 * i + 2 ∧ 12 * i + 2 < 480 := by omega
    have I := ih (i + 1) (by omega) (by omega)
    have ni : ¬ i = -1 := by omega
    have F1 : isL (r 157) (12 * i) x y z = true → ff (fun i => isL (r 157) (12 * i) x y z) i (m + 1) = i := fun q => by simp only [ff]; rw [if_pos q]
    have F0 : ¬ isL (r 157) (12 * i) x y z = true → ff (fun i => isL (r 157) (12 * i) x y z) i (m + 1) = ff (fun i => isL (r 157) (12 * i) x y z) (i + 1) m := fun q => by simp only [ff]; rw [if_neg q]
    rw [xe_170_3]
    by_cases a : r 157 (12 * i) = x
    · by_cases b : r 157 (12 * i + 1) = y
      · by_cases d : r 157 (12 * i + 2) = z
        · have L1 : isL (r 157) (12 * i) x y z = true := by unfold isL; exact decide_eq_true ⟨a, b, d⟩
          rw [F1 L1, if_neg ni]
          simp only [xe_170_5, xe_170_6, xe_170_9, xe_170_12, xe_170_13, xe_170_16, xe_170_18, xe_170_20, xe_170_21, xe_170_22, xe_170_23, xe_170_26, xe_170_27, xe_170_30, xe_170_32, xe_170_34, xe_170_35, xe_170_36, xe_170_37, xe_170_38, xe_170_39, xe_170_42, xe_170_43, xe_170_46, xe_170_48, xe_170_50, xe_170_51, xe_170_52, xe_170_53, xe_170_54, xe_170_55, xe_170_58, xe_170_59, xe_170_60 _ _ _ (some (vI _)) _ _ _ _ rfl, xe_170_60 _ _ _ (some (vR _)) _ _ _ _ rfl, xe_170_60 _ _ _ none _ _ _ _ rfl, xe_170_63, xe_170_66, xe_170_67, ite_self, mm_nL_I, mm_nL_R, mm_nL_0, Option.bind_some, Option.bind_none, bnd_ite, Option.toList_some, Option.toList_none, List.cons_append, List.nil_append, mm_cats_nil, mm_cats_I, mm_cats_L, mm_cats_R, if_true, if_false, true_and, and_true, false_and, and_false, not_true_eq_false, not_false_eq_true, Int.reduceLE, Int.reduceLT, Int.reduceEq, Int.reduceNe, Int.reduceNeg, Int.reduceAdd, Int.reduceSub, Int.reduceMul, Nat.reduceAdd, Nat.reduceLeDiff, true_or, or_true, false_or, or_false, reduceIte, k_149, k_157, l_157, hs, p20, g, w0, w1, w2, r0, r1, r2, eq_true a, eq_true b, eq_true d]
        · have L1 : ¬ isL (r 157) (12 * i) x y z = true := fun q => d (of_decide_eq_true q).2.2
          rw [F0 L1]
          simp only [xe_170_5, xe_170_6, xe_170_9, xe_170_12, xe_170_13, xe_170_16, xe_170_18, xe_170_20, xe_170_21, xe_170_22, xe_170_23, xe_170_26, xe_170_27, xe_170_30, xe_170_32, xe_170_34, xe_170_35, xe_170_36, xe_170_37, xe_170_38, xe_170_39, xe_170_42, xe_170_43, xe_170_46, xe_170_48, xe_170_50, xe_170_51, xe_170_52, xe_170_53, xe_170_54, xe_170_55, xe_170_58, xe_170_59, xe_170_60 _ _ _ (some (vI _)) _ _ _ _ rfl, xe_170_60 _ _ _ (some (vR _)) _ _ _ _ rfl, xe_170_60 _ _ _ none _ _ _ _ rfl, xe_170_63, xe_170_66, xe_170_67, ite_self, mm_nL_I, mm_nL_R, mm_nL_0, Option.bind_some, Option.bind_none, bnd_ite, Option.toList_some, Option.toList_none, List.cons_append, List.nil_append, mm_cats_nil, mm_cats_I, mm_cats_L, mm_cats_R, if_true, if_false, true_and, and_true, false_and, and_false, not_true_eq_false, not_false_eq_true, Int.reduceLE, Int.reduceLT, Int.reduceEq, Int.reduceNe, Int.reduceNeg, Int.reduceAdd, Int.reduceSub, Int.reduceMul, Nat.reduceAdd, Nat.reduceLeDiff, true_or, or_true, false_or, or_false, reduceIte, k_149, k_157, l_157, hs, p20, g, w0, w1, w2, w3, r0, r1, r2, eq_true a, eq_true b, d, I]
      · have L1 : ¬ isL (r 157) (12 * i) x y z = true := fun q => b (of_decide_eq_true q).2.1
        rw [F0 L1]
        simp only [xe_170_5, xe_170_6, xe_170_9, xe_170_12, xe_170_13, xe_170_16, xe_170_18, xe_170_20, xe_170_21, xe_170_22, xe_170_23, xe_170_26, xe_170_27, xe_170_30, xe_170_32, xe_170_34, xe_170_35, xe_170_36, xe_170_37, xe_170_38, xe_170_39, xe_170_42, xe_170_43, xe_170_46, xe_170_48, xe_170_50, xe_170_51, xe_170_52, xe_170_53, xe_170_54, xe_170_55, xe_170_58, xe_170_59, xe_170_60 _ _ _ (some (vI _)) _ _ _ _ rfl, xe_170_60 _ _ _ (some (vR _)) _ _ _ _ rfl, xe_170_60 _ _ _ none _ _ _ _ rfl, xe_170_63, xe_170_66, xe_170_67, ite_self, mm_nL_I, mm_nL_R, mm_nL_0, Option.bind_some, Option.bind_none, bnd_ite, Option.toList_some, Option.toList_none, List.cons_append, List.nil_append, mm_cats_nil, mm_cats_I, mm_cats_L, mm_cats_R, if_true, if_false, true_and, and_true, false_and, and_false, not_true_eq_false, not_false_eq_true, Int.reduceLE, Int.reduceLT, Int.reduceEq, Int.reduceNe, Int.reduceNeg, Int.reduceAdd, Int.reduceSub, Int.reduceMul, Nat.reduceAdd, Nat.reduceLeDiff, true_or, or_true, false_or, or_false, reduceIte, k_149, k_157, l_157, hs, p20, g, w0, w1, w2, w3, r0, r1, r2, eq_true a, b, I]
    · have L1 : ¬ isL (r 157) (12 * i) x y z = true := fun q => a (of_decide_eq_true q).1
      rw [F0 L1]
      simp only [xe_170_5, xe_170_6, xe_170_9, xe_170_12, xe_170_13, xe_170_16, xe_170_18, xe_170_20, xe_170_21, xe_170_22, xe_170_23, xe_170_26, xe_170_27, xe_170_30, xe_170_32, xe_170_34, xe_170_35, xe_170_36, xe_170_37, xe_170_38, xe_170_39, xe_170_42, xe_170_43, xe_170_46, xe_170_48, xe_170_50, xe_170_51, xe_170_52, xe_170_53, xe_170_54, xe_170_55, xe_170_58, xe_170_59, xe_170_60 _ _ _ (some (vI _)) _ _ _ _ rfl, xe_170_60 _ _ _ (some (vR _)) _ _ _ _ rfl, xe_170_60 _ _ _ none _ _ _ _ rfl, xe_170_63, xe_170_66, xe_170_67, ite_self, mm_nL_I, mm_nL_R, mm_nL_0, Option.bind_some, Option.bind_none, bnd_ite, Option.toList_some, Option.toList_none, List.cons_append, List.nil_append, mm_cats_nil, mm_cats_I, mm_cats_L, mm_cats_R, if_true, if_false, true_and, and_true, false_and, and_false, not_true_eq_false, not_false_eq_true, Int.reduceLE, Int.reduceLT, Int.reduceEq, Int.reduceNe, Int.reduceNeg, Int.reduceAdd, Int.reduceSub, Int.reduceMul, Nat.reduceAdd, Nat.reduceLeDiff, true_or, or_true, false_or, or_false, reduceIte, k_149, k_157, l_157, hs, p20, g, w0, w1, w2, w3, r0, r1, r2, a, I]
