/-! the reference's TRY with its step -/
theorem ru_b (r : MM) (t : Int → Int) (fl fw b k v : Int) (h1 : ¬ b = 165) (h2 : ¬ b = 149) : mset (rm r t fl fw) b k v = rm (mset r b k v) t fl fw := by
  funext x j
  by_cases hx : x = b
  · subst hx; simp [mset, rm, h1, h2]
  · simp [mset, rm, hx]
theorem ru_171 (r : MM) (t : Int → Int) (fl fw k v : Int) : mset (rm r t fl fw) 171 k v = rm (mset r 171 k v) t fl fw := ru_b _ _ _ _ _ _ _ (by omega) (by omega)
theorem rq_149 (r : MM) (t : Int → Int) (fl fw k v : Int) : rm (mset r 171 k v) t fl fw 149 = rm r t fl fw 149 := by
  funext j; simp [rm, mset]
theorem rq_165 (r : MM) (t : Int → Int) (fl fw k v : Int) : rm (mset r 171 k v) t fl fw 165 = rm r t fl fw 165 := by
  funext j; simp [rm, mset]
theorem rp_41 {r : MM} (h : MP r) (t : Int → Int) (fl fw : Int) : rm r t fl fw 149 41 = 171 := by rw [rm_k _ _ _ _ _ (by omega) (by omega)]; exact h.2.2.2.2.2.2
theorem MP.s {r : MM} (h : MP r) (b k v : Int) (hb : ¬ b = 149) : MP (mset r b k v) := by
  unfold MP at *
  rw [ms_row _ _ _ _ _ (show ¬ 149 = b by omega)]; exact h
def dg4 (f : Int → Int) : Int := 10 * (10 * (10 * (10 * 0 + f 0) + f 1) + f 2) + f 3
theorem s_digM1 (L o v l fl fw : Int) (r : MM) (t : Int → Int) (hP : MP r) (o0 : 0 ≤ o) (o1 : o ≤ 80) (l0 : 0 ≤ l) (l3 : l < 4) (v0 : 0 ≤ v) (v1 : v ≤ 9999) (a0 : 0 ≤ t (o + l)) (a1 : t (o + l) ≤ 9) :
    ev 224 4 [some (vR 149), some (vI o), some (vI v), some (vI l)] [] (rm r t fl fw) (g_1 L) = ev 224 4 [some (vR 149), some (vI o), some (vI (10 * v + t (o + l))), some (vI (l + 1))] [] (rm r t fl fw) (g_1 L) := by
  have g : ¬ 4 ≤ l := by omega
  have w1 : w32 (10 * v) = 10 * v := wi32 (by omega) (by omega)
  have w2 : w32 (o + l) = o + l := wi32 (by omega) (by omega)
  have w3 : w32 (10 * v + t (o + l)) = 10 * v + t (o + l) := wi32 (by omega) (by omega)
  have w4 : w32 (l + 1) = l + 1 := wi32 (by omega) (by omega)
  have k1 : 0 ≤ o + l := by omega
  have k2 : o + l < 88 := by omega
  have e := rm_t r t fl fw (o + l) ⟨k1, k2⟩
  rw [xe_224_4]
  simp only [xe_224_5, xe_224_6, xe_224_9, xe_224_11, xe_224_12, xe_224_13, xe_224_14, xe_224_17, xe_224_18, xe_224_19, xe_224_20, xe_224_21, xe_224_22 _ (some (vI _)) _ _ _ _ _ _ rfl, xe_224_22 _ (some (vR _)) _ _ _ _ _ _ rfl, xe_224_22 _ none _ _ _ _ _ _ rfl, xe_224_23 _ _ (some (vI _)) _ _ _ _ rfl, xe_224_23 _ _ (some (vR _)) _ _ _ _ rfl, xe_224_23 _ _ none _ _ _ _ rfl, xe_224_26, xe_224_29, xe_224_30, ite_self, mm_nL_I, mm_nL_R, mm_nL_0, Option.bind_some, Option.bind_none, bnd_ite, Option.toList_some, Option.toList_none, List.cons_append, List.nil_append, mm_cats_nil, mm_cats_I, mm_cats_L, mm_cats_R, if_true, if_false, true_and, and_true, false_and, and_false, not_true_eq_false, not_false_eq_true, Int.reduceLE, Int.reduceLT, Int.reduceEq, Int.reduceNe, Int.reduceNeg, Int.reduceAdd, Int.reduceSub, Int.reduceMul, Nat.reduceAdd, Nat.reduceLeDiff, true_or, or_true, false_or, or_false, reduceIte, k_149, k_165, l_165, rp_35 hP, g, w1, w2, w3, w4, k1, k2, e]
theorem s_digM (L o fl fw : Int) (r : MM) (t : Int → Int) (hP : MP r) (o0 : 0 ≤ o) (o1 : o ≤ 80) (ht : ∀ l, 0 ≤ l → l < 4 → 0 ≤ t (o + l) ∧ t (o + l) ≤ 9) :
    ev 224 0 [some (vR 149), some (vI o), none, none] [] (rm r t fl fw) (g_1 L) = some (some (vI (dg4 (fun l => t (o + l)))), rm r t fl fw, g_1 L) := by
  have h0 := ht 0 (by omega) (by omega)
  have h1 := ht 1 (by omega) (by omega)
  have h2 := ht 2 (by omega) (by omega)
  have h3 := ht 3 (by omega) (by omega)
  have S := fun v l => s_digM1 L o v l fl fw r t hP o0 o1
  simp only [xe_224_0, xe_224_1 _ (some (vI _)) _ _ _ _ _ _ rfl, xe_224_1 _ (some (vR _)) _ _ _ _ _ _ rfl, xe_224_1 _ none _ _ _ _ _ _ rfl, xe_224_2, xe_224_3 _ _ (some (vI _)) _ _ _ _ _ rfl, xe_224_3 _ _ (some (vR _)) _ _ _ _ _ rfl, xe_224_3 _ _ none _ _ _ _ _ rfl]
  rw [S 0 0 (by omega) (by omega) (by omega) (by omega) h0.1 h0.2, show (0 : Int) + 1 = 1 from rfl]
  rw [S _ 1 (by omega) (by omega) (by omega) (by omega) h1.1 h1.2, show (1 : Int) + 1 = 2 from rfl]
  rw [S _ 2 (by omega) (by omega) (by omega) (by omega) h2.1 h2.2, show (2 : Int) + 1 = 3 from rfl]
  rw [S _ 3 (by omega) (by omega) (by omega) (by omega) h3.1 h3.2, show (3 : Int) + 1 = 4 from rfl]
  simp only [xe_224_4, xe_224_5, xe_224_6, xe_224_29, xe_224_30, ite_self, mm_nL_I, mm_nL_R, mm_nL_0, Option.bind_some, Option.bind_none, bnd_ite, Option.toList_some, Option.toList_none, List.cons_append, List.nil_append, mm_cats_nil, mm_cats_I, mm_cats_L, mm_cats_R, if_true, if_false, true_and, and_true, false_and, and_false, not_true_eq_false, not_false_eq_true, Int.reduceLE, Int.reduceLT, Int.reduceEq, Int.reduceNe, Int.reduceNeg, Int.reduceAdd, Int.reduceSub, Int.reduceMul, Nat.reduceAdd, Nat.reduceLeDiff, true_or, or_true, false_or, or_false, reduceIte, dg4]
theorem s_once2 (L s fl fw : Int) (r : MM) (t : Int → Int) (hP : MP r) (ht : mo t) (h6 : t 6 ≤ 900) (h3 : t 3 ≤ 99) (h4 : t 4 ≤ 99) (h5 : t 5 ≤ 99) (ho : wo (r 167)) (hs : so2 (r 168)) (s0 : 0 ≤ s) (s1 : s ≤ 1743) (pp : r 149 42 = 0 ∨ r 149 42 = 1) :
    ev 225 86 [some (vR 149), some (vI s)] [] (rm r t fl fw) (g_1 L) = some (none, rm (if r 149 42 = 0 then mset (mset r 171 (s + 5) (yF (r 167) (r 168) t)) 171 (s + 6) (yO (r 167) (r 168) t) else r) (yT (r 167) (r 168) (r 149 32) t) (yF (r 167) (r 168) t) (yO (r 167) (r 168) t), g_1 L) := by
  have w6 : w32 (t 6 + 1) = t 6 + 1 := wi32 (by have := ht.2.2.2.2.2.2.2.2.2.2.1; omega) (by omega)
  have v5 : w32 (s + 5) = s + 5 := wi32 (by omega) (by omega)
  have v6 : w32 (s + 6) = s + 6 := wi32 (by omega) (by omega)
  have a5 : 0 ≤ s + 5 := by omega
  have a6 : 0 ≤ s + 6 := by omega
  have b5 : s + 5 < 1750 := by omega
  have b6 : s + 6 < 1750 := by omega
  have ht' := mo_t10 ht h6
  have C := s_clkM L 0 r (up t 6 (t 6 + 1)) hP ht' (show t 3 ≤ 99 from h3) (show t 4 ≤ 99 from h4) ho
  have E := s_evnM L 0 r (up t 6 (t 6 + 1)) hP ht' (show t 5 ≤ 99 from h5) ho hs
  have k42 := fun r t fl fw => rm_k r t fl fw 42 (by omega) (by omega)
  have m42 : ∀ k v, mset r 171 k v 149 42 = r 149 42 := fun k v => ms_na _ _ _ _ _ _ (by omega)
  unfold yF yO yT
  by_cases h0 : t 0 = 1
  · simp only [h0, if_true]
    generalize kT (up t 6 (t 6 + 1)) (r 167) (r 168) (r 149 32) = T at *
    generalize kF (up t 6 (t 6 + 1)) (r 167) (r 168) 0 = F at *
    generalize kO (up t 6 (t 6 + 1)) (r 167) (r 168) = O at *
    rcases pp with pp | pp
    · simp only [xe_225_86, xe_225_87, xe_225_90, xe_225_92, xe_225_93, xe_225_94, xe_225_95, xe_225_96, xe_225_97, xe_225_98, xe_225_99, xe_225_102, xe_225_103, xe_225_104, xe_225_107, xe_225_108, xe_225_111, xe_225_112, xe_225_113, xe_225_114, xe_225_117, xe_225_118, xe_225_121, xe_225_124, xe_225_125, xe_225_128, xe_225_129, xe_225_132, xe_225_135, xe_225_136, xe_225_137, xe_225_140, xe_225_141, xe_225_142, xe_225_143, xe_225_144, xe_225_147, xe_225_148, xe_225_149, xe_225_152, xe_225_153, xe_225_155, xe_225_156, xe_225_157, xe_225_160, xe_225_161, ite_self, mm_nL_I, mm_nL_R, mm_nL_0, Option.bind_some, Option.bind_none, bnd_ite, Option.toList_some, Option.toList_none, List.cons_append, List.nil_append, mm_cats_nil, mm_cats_I, mm_cats_L, mm_cats_R, if_true, if_false, true_and, and_true, false_and, and_false, not_true_eq_false, not_false_eq_true, Int.reduceLE, Int.reduceLT, Int.reduceEq, Int.reduceNe, Int.reduceNeg, Int.reduceAdd, Int.reduceSub, Int.reduceMul, Nat.reduceAdd, Nat.reduceLeDiff, true_or, or_true, false_or, or_false, reduceIte, k_149, k_165, l_165, k_171, l_171, rp_35 hP, rp_41 hP, rg_0, rw_0, rg_1, rw_1, rg_2, rw_2, rg_3, rw_3, rg_4, rw_4, rg_5, rw_5, rg_6, rw_6, rg_7, rw_7, ru_43, ru_44, rm_43, rm_44, ru_171, rq_149, up_e, w6, h0, C, k42, pp, v5, v6, a5, a6, b5, b6]
    · simp only [xe_225_86, xe_225_87, xe_225_90, xe_225_92, xe_225_93, xe_225_94, xe_225_95, xe_225_96, xe_225_97, xe_225_98, xe_225_99, xe_225_102, xe_225_103, xe_225_104, xe_225_107, xe_225_108, xe_225_111, xe_225_112, xe_225_113, xe_225_114, xe_225_117, xe_225_118, xe_225_121, xe_225_124, xe_225_125, xe_225_128, xe_225_129, xe_225_132, xe_225_135, xe_225_136, xe_225_137, xe_225_140, xe_225_141, xe_225_142, xe_225_143, xe_225_144, xe_225_147, xe_225_148, xe_225_149, xe_225_152, xe_225_153, xe_225_155, xe_225_156, xe_225_157, xe_225_160, xe_225_161, ite_self, mm_nL_I, mm_nL_R, mm_nL_0, Option.bind_some, Option.bind_none, bnd_ite, Option.toList_some, Option.toList_none, List.cons_append, List.nil_append, mm_cats_nil, mm_cats_I, mm_cats_L, mm_cats_R, if_true, if_false, true_and, and_true, false_and, and_false, not_true_eq_false, not_false_eq_true, Int.reduceLE, Int.reduceLT, Int.reduceEq, Int.reduceNe, Int.reduceNeg, Int.reduceAdd, Int.reduceSub, Int.reduceMul, Nat.reduceAdd, Nat.reduceLeDiff, true_or, or_true, false_or, or_false, reduceIte, k_149, k_165, l_165, k_171, l_171, rp_35 hP, rp_41 hP, rg_0, rw_0, rg_1, rw_1, rg_2, rw_2, rg_3, rw_3, rg_4, rw_4, rg_5, rw_5, rg_6, rw_6, rg_7, rw_7, ru_43, ru_44, rm_43, rm_44, ru_171, rq_149, up_e, w6, h0, C, k42, pp, v5, v6, a5, a6, b5, b6]
  · simp only [h0, if_false]
    generalize vT (up t 6 (t 6 + 1)) (r 167) (r 168) (r 149 32) = T at *
    generalize vF (up t 6 (t 6 + 1)) (r 167) (r 168) 0 = F at *
    generalize vO (up t 6 (t 6 + 1)) (r 167) (r 168) = O at *
    rcases pp with pp | pp
    · simp only [xe_225_86, xe_225_87, xe_225_90, xe_225_92, xe_225_93, xe_225_94, xe_225_95, xe_225_96, xe_225_97, xe_225_98, xe_225_99, xe_225_102, xe_225_103, xe_225_104, xe_225_107, xe_225_108, xe_225_111, xe_225_112, xe_225_113, xe_225_114, xe_225_117, xe_225_118, xe_225_121, xe_225_124, xe_225_125, xe_225_128, xe_225_129, xe_225_132, xe_225_135, xe_225_136, xe_225_137, xe_225_140, xe_225_141, xe_225_142, xe_225_143, xe_225_144, xe_225_147, xe_225_148, xe_225_149, xe_225_152, xe_225_153, xe_225_155, xe_225_156, xe_225_157, xe_225_160, xe_225_161, ite_self, mm_nL_I, mm_nL_R, mm_nL_0, Option.bind_some, Option.bind_none, bnd_ite, Option.toList_some, Option.toList_none, List.cons_append, List.nil_append, mm_cats_nil, mm_cats_I, mm_cats_L, mm_cats_R, if_true, if_false, true_and, and_true, false_and, and_false, not_true_eq_false, not_false_eq_true, Int.reduceLE, Int.reduceLT, Int.reduceEq, Int.reduceNe, Int.reduceNeg, Int.reduceAdd, Int.reduceSub, Int.reduceMul, Nat.reduceAdd, Nat.reduceLeDiff, true_or, or_true, false_or, or_false, reduceIte, k_149, k_165, l_165, k_171, l_171, rp_35 hP, rp_41 hP, rg_0, rw_0, rg_1, rw_1, rg_2, rw_2, rg_3, rw_3, rg_4, rw_4, rg_5, rw_5, rg_6, rw_6, rg_7, rw_7, ru_43, ru_44, rm_43, rm_44, ru_171, rq_149, up_e, w6, h0, E, k42, pp, v5, v6, a5, a6, b5, b6]
    · simp only [xe_225_86, xe_225_87, xe_225_90, xe_225_92, xe_225_93, xe_225_94, xe_225_95, xe_225_96, xe_225_97, xe_225_98, xe_225_99, xe_225_102, xe_225_103, xe_225_104, xe_225_107, xe_225_108, xe_225_111, xe_225_112, xe_225_113, xe_225_114, xe_225_117, xe_225_118, xe_225_121, xe_225_124, xe_225_125, xe_225_128, xe_225_129, xe_225_132, xe_225_135, xe_225_136, xe_225_137, xe_225_140, xe_225_141, xe_225_142, xe_225_143, xe_225_144, xe_225_147, xe_225_148, xe_225_149, xe_225_152, xe_225_153, xe_225_155, xe_225_156, xe_225_157, xe_225_160, xe_225_161, ite_self, mm_nL_I, mm_nL_R, mm_nL_0, Option.bind_some, Option.bind_none, bnd_ite, Option.toList_some, Option.toList_none, List.cons_append, List.nil_append, mm_cats_nil, mm_cats_I, mm_cats_L, mm_cats_R, if_true, if_false, true_and, and_true, false_and, and_false, not_true_eq_false, not_false_eq_true, Int.reduceLE, Int.reduceLT, Int.reduceEq, Int.reduceNe, Int.reduceNeg, Int.reduceAdd, Int.reduceSub, Int.reduceMul, Nat.reduceAdd, Nat.reduceLeDiff, true_or, or_true, false_or, or_false, reduceIte, k_149, k_165, l_165, k_171, l_171, rp_35 hP, rp_41 hP, rg_0, rw_0, rg_1, rw_1, rg_2, rw_2, rg_3, rw_3, rg_4, rw_4, rg_5, rw_5, rg_6, rw_6, rg_7, rw_7, ru_43, ru_44, rm_43, rm_44, ru_171, rq_149, up_e, w6, h0, E, k42, pp, v5, v6, a5, a6, b5, b6]
/-- the step ahead of a TRY -/
def st5 (r : MM) (s : Int) (t : Int → Int) : MM := mset (mset (mset (mset (mset r 171 s (t 0)) 171 (s + 1) (t 1)) 171 (s + 2) (t 2)) 171 (s + 3) (dg4 (fun l => t (8 + l)))) 171 (s + 4) (dg4 (fun l => t (12 + l)))
theorem st5_b (r : MM) (s : Int) (t : Int → Int) (b : Int) (h : ¬ b = 171) : st5 r s t b = r b := by
  unfold st5; rw [ms_row _ _ _ _ _ h, ms_row _ _ _ _ _ h, ms_row _ _ _ _ _ h, ms_row _ _ _ _ _ h, ms_row _ _ _ _ _ h]
theorem s_once1 (L fl fw : Int) (r : MM) (t : Int → Int) (hP : MP r) (ht : mo t) (h6 : t 6 ≤ 191) (p0 : r 149 42 = 0) :
    ev 225 0 [some (vR 149), none] [] (rm r t fl fw) (g_1 L) = ev 225 86 [some (vR 149), some (vI (7 * t 6))] [] (rm (st5 r (7 * t 6) t) t fl fw) (g_1 L) := by
  obtain ⟨n1, q0, q3, hl, f0, f1, g0, g1, x0, x1, y0, y1, w0, w1⟩ := ht
  have v0 : w32 (7 * t 6) = 7 * t 6 := wi32 (by omega) (by omega)
  have s0 : 0 ≤ 7 * t 6 := by omega
  have s1 : 7 * t 6 ≤ 1337 := by omega
  unfold st5
  have p1 : rm r t fl fw 149 42 = 0 := by rw [rm_k _ _ _ _ _ (by omega) (by omega)]; exact p0
  have pre : ev 225 0 [some (vR 149), none] [] (rm r t fl fw) (g_1 L) = ev 225 18 [some (vR 149), some (vI (7 * t 6))] [] (rm r t fl fw) (g_1 L) := by
    simp only [xe_225_0, xe_225_2, xe_225_3, xe_225_6, xe_225_8, xe_225_9, xe_225_10 (some (vI _)) _ _ _ _ _ rfl, xe_225_10 (some (vR _)) _ _ _ _ _ rfl, xe_225_10 none _ _ _ _ _ rfl, xe_225_11, xe_225_12, xe_225_15, ite_self, mm_nL_I, mm_nL_R, mm_nL_0, Option.bind_some, Option.bind_none, bnd_ite, Option.toList_some, Option.toList_none, List.cons_append, List.nil_append, mm_cats_nil, mm_cats_I, mm_cats_L, mm_cats_R, if_true, if_false, true_and, and_true, false_and, and_false, not_true_eq_false, not_false_eq_true, Int.reduceLE, Int.reduceLT, Int.reduceEq, Int.reduceNe, Int.reduceNeg, Int.reduceAdd, Int.reduceSub, Int.reduceMul, Nat.reduceAdd, Nat.reduceLeDiff, true_or, or_true, false_or, or_false, reduceIte, k_149, k_165, l_165, rp_35 hP, rg_0, rw_0, rg_1, rw_1, rg_2, rw_2, rg_3, rw_3, rg_4, rw_4, rg_5, rw_5, rg_6, rw_6, rg_7, rw_7, v0, p1]
  rw [pre]
  generalize 7 * t 6 = s at *
  have u1 : w32 (s + 1) = s + 1 := wi32 (by omega) (by omega)
  have u2 : w32 (s + 2) = s + 2 := wi32 (by omega) (by omega)
  have u3 : w32 (s + 3) = s + 3 := wi32 (by omega) (by omega)
  have u4 : w32 (s + 4) = s + 4 := wi32 (by omega) (by omega)
  have a1 : 0 ≤ s + 1 := by omega
  have a2 : 0 ≤ s + 2 := by omega
  have a3 : 0 ≤ s + 3 := by omega
  have a4 : 0 ≤ s + 4 := by omega
  have b0 : s < 1750 := by omega
  have b1 : s + 1 < 1750 := by omega
  have b2 : s + 2 < 1750 := by omega
  have b3 : s + 3 < 1750 := by omega
  have b4 : s + 4 < 1750 := by omega
  have P3 : MP (mset (mset (mset r 171 s (t 0)) 171 (s + 1) (t 1)) 171 (s + 2) (t 2)) := ((hP.s _ _ _ (by omega)).s _ _ _ (by omega)).s _ _ _ (by omega)
  have D1 := s_digM L 8 fl fw _ t P3 (by omega) (by omega) (fun l l0 l3 => by have := hl l l0 l3; omega)
  have D2 := s_digM L 12 fl fw _ t (P3.s 171 (s + 3) (dg4 (fun l => t (8 + l))) (by omega)) (by omega) (by omega) (fun l l0 l3 => by have := hl l l0 l3; omega)
  simp only [xe_225_18, xe_225_19, xe_225_22, xe_225_23, xe_225_24, xe_225_27, xe_225_28, xe_225_29, xe_225_30, xe_225_31, xe_225_34, xe_225_35, xe_225_36, xe_225_37, xe_225_38, xe_225_41, xe_225_42, xe_225_43, xe_225_44, xe_225_45, xe_225_48, xe_225_49, xe_225_50, xe_225_51, xe_225_52, xe_225_55, xe_225_56, xe_225_57, xe_225_58, xe_225_59, xe_225_62, xe_225_63, xe_225_64, xe_225_65, xe_225_66, xe_225_68, xe_225_71, xe_225_72, xe_225_73, xe_225_76, xe_225_77, xe_225_78, xe_225_79, xe_225_80, xe_225_82, xe_225_85, ite_self, mm_nL_I, mm_nL_R, mm_nL_0, Option.bind_some, Option.bind_none, bnd_ite, Option.toList_some, Option.toList_none, List.cons_append, List.nil_append, mm_cats_nil, mm_cats_I, mm_cats_L, mm_cats_R, if_true, if_false, true_and, and_true, false_and, and_false, not_true_eq_false, not_false_eq_true, Int.reduceLE, Int.reduceLT, Int.reduceEq, Int.reduceNe, Int.reduceNeg, Int.reduceAdd, Int.reduceSub, Int.reduceMul, Nat.reduceAdd, Nat.reduceLeDiff, true_or, or_true, false_or, or_false, reduceIte, k_149, k_165, l_165, k_171, l_171, rp_35 hP, rp_41 hP, rg_0, rw_0, rg_1, rw_1, rg_2, rw_2, rg_3, rw_3, rg_4, rw_4, rg_5, rw_5, rg_6, rw_6, rg_7, rw_7, ru_171, rq_149, rq_165, D1, D2, u1, u2, u3, u4, a1, a2, a3, a4, b0, b1, b2, b3, b4, s0]
theorem s_once1p (L fl fw : Int) (r : MM) (t : Int → Int) (hP : MP r) (h0 : 0 ≤ t 6) (h6 : t 6 ≤ 191) (p0 : r 149 42 = 1) :
    ev 225 0 [some (vR 149), none] [] (rm r t fl fw) (g_1 L) = ev 225 86 [some (vR 149), some (vI (7 * t 6))] [] (rm r t fl fw) (g_1 L) := by
  have v0 : w32 (7 * t 6) = 7 * t 6 := wi32 (by omega) (by omega)
  have p1 : rm r t fl fw 149 42 = 1 := by rw [rm_k _ _ _ _ _ (by omega) (by omega)]; exact p0
  simp only [xe_225_0, xe_225_2, xe_225_3, xe_225_6, xe_225_8, xe_225_9, xe_225_10 (some (vI _)) _ _ _ _ _ rfl, xe_225_10 (some (vR _)) _ _ _ _ _ rfl, xe_225_10 none _ _ _ _ _ rfl, xe_225_11, xe_225_12, xe_225_15, xe_225_18, xe_225_19, xe_225_22, xe_225_23, xe_225_24, xe_225_27, xe_225_28, xe_225_29, xe_225_30, xe_225_31, xe_225_34, xe_225_35, xe_225_36, xe_225_37, xe_225_38, xe_225_41, xe_225_42, xe_225_43, xe_225_44, xe_225_45, xe_225_48, xe_225_49, xe_225_50, xe_225_51, xe_225_52, xe_225_55, xe_225_56, xe_225_57, xe_225_58, xe_225_59, xe_225_62, xe_225_63, xe_225_64, xe_225_65, xe_225_66, xe_225_68, xe_225_71, xe_225_72, xe_225_73, xe_225_76, xe_225_77, xe_225_78, xe_225_79, xe_225_80, xe_225_82, xe_225_85, ite_self, mm_nL_I, mm_nL_R, mm_nL_0, Option.bind_some, Option.bind_none, bnd_ite, Option.toList_some, Option.toList_none, List.cons_append, List.nil_append, mm_cats_nil, mm_cats_I, mm_cats_L, mm_cats_R, if_true, if_false, true_and, and_true, false_and, and_false, not_true_eq_false, not_false_eq_true, Int.reduceLE, Int.reduceLT, Int.reduceEq, Int.reduceNe, Int.reduceNeg, Int.reduceAdd, Int.reduceSub, Int.reduceMul, Nat.reduceAdd, Nat.reduceLeDiff, true_or, or_true, false_or, or_false, reduceIte, k_149, k_165, l_165, rp_35 hP, rg_0, rw_0, rg_1, rw_1, rg_2, rw_2, rg_3, rw_3, rg_4, rw_4, rg_5, rw_5, rg_6, rw_6, rg_7, rw_7, v0, p1]
/-- a TRY on paper -/
theorem s_onceP (L fl fw : Int) (r : MM) (t : Int → Int) (hP : MP r) (ht : mo t) (h6 : t 6 ≤ 191) (h3 : t 3 ≤ 99) (h4 : t 4 ≤ 99) (h5 : t 5 ≤ 99) (ho : wo (r 167)) (hs : so2 (r 168)) (p0 : r 149 42 = 1) :
    ev 225 0 [some (vR 149), none] [] (rm r t fl fw) (g_1 L) = some (none, rm r (yT (r 167) (r 168) (r 149 32) t) (yF (r 167) (r 168) t) (yO (r 167) (r 168) t), g_1 L) := by
  have y0 := ht.2.2.2.2.2.2.2.2.2.2.1
  rw [s_once1p L fl fw r t hP y0 h6 p0, s_once2 L (7 * t 6) fl fw r t hP ht (by omega) h3 h4 h5 ho hs (by omega) (by omega) (Or.inr p0), if_neg (by omega)]
/-- a TRY that is written down -/
def st7 (r : MM) (ls sl t : Int → Int) : MM := mset (mset (st5 r (7 * t 6) t) 171 (7 * t 6 + 5) (yF ls sl t)) 171 (7 * t 6 + 6) (yO ls sl t)
theorem st7_b (r : MM) (ls sl t : Int → Int) (b : Int) (h : ¬ b = 171) : st7 r ls sl t b = r b := by
  unfold st7; rw [ms_row _ _ _ _ _ h, ms_row _ _ _ _ _ h, st5_b _ _ _ _ h]
theorem s_once (L fl fw : Int) (r : MM) (t : Int → Int) (hP : MP r) (ht : mo t) (h6 : t 6 ≤ 191) (h3 : t 3 ≤ 99) (h4 : t 4 ≤ 99) (h5 : t 5 ≤ 99) (ho : wo (r 167)) (hs : so2 (r 168)) (p0 : r 149 42 = 0) :
    ev 225 0 [some (vR 149), none] [] (rm r t fl fw) (g_1 L) = some (none, rm (st7 r (r 167) (r 168) t) (yT (r 167) (r 168) (r 149 32) t) (yF (r 167) (r 168) t) (yO (r 167) (r 168) t), g_1 L) := by
  have y0 := ht.2.2.2.2.2.2.2.2.2.2.1
  have e7 : st5 r (7 * t 6) t 167 = r 167 := st5_b _ _ _ _ (by omega)
  have e8 : st5 r (7 * t 6) t 168 = r 168 := st5_b _ _ _ _ (by omega)
  have e9 : st5 r (7 * t 6) t 149 = r 149 := st5_b _ _ _ _ (by omega)
  have hP' : MP (st5 r (7 * t 6) t) := by unfold MP at *; rw [e9]; exact hP
  rw [s_once1 L fl fw r t hP ht h6 p0, s_once2 L (7 * t 6) fl fw _ t hP' ht (by omega) h3 h4 h5 (by rw [e7]; exact ho) (by rw [e8]; exact hs) (by omega) (by omega) (Or.inl (by rw [e9]; exact p0)), e7, e8, e9, if_pos p0]
  rfl
theorem st7_k (r : MM) (ls sl t : Int → Int) (k j : Int) (k0 : 0 ≤ k) (j0 : 0 ≤ j) (j1 : j < 7) : st7 r ls sl t 171 (7 * k + j) = if k = t 6 then (if j = 0 then t 0 else if j = 1 then t 1 else if j = 2 then t 2 else if j = 3 then dg4 (fun l => t (8 + l)) else if j = 4 then dg4 (fun l => t (12 + l)) else if j = 5 then yF ls sl t else yO ls sl t) else r 171 (7 * k + j) := by
  unfold st7 st5
  by_cases e : k = t 6
  · rw [if_pos e, e]
    have q : j = 0 ∨ j = 1 ∨ j = 2 ∨ j = 3 ∨ j = 4 ∨ j = 5 ∨ j = 6 := by omega
    have n : ∀ (μ : MM) (a v : Int), ¬ j = a → mset μ 171 (7 * t 6 + a) v 171 (7 * t 6 + j) = μ 171 (7 * t 6 + j) := fun μ a v h => ms_nk _ _ _ _ _ _ (by omega)
    have n0 : ∀ (μ : MM) (v : Int), ¬ j = 0 → mset μ 171 (7 * t 6) v 171 (7 * t 6 + j) = μ 171 (7 * t 6 + j) := fun μ v h => ms_nk _ _ _ _ _ _ (by omega)
    rcases q with rfl | rfl | rfl | rfl | rfl | rfl | rfl
    · rw [n _ _ _ (by omega), n _ _ _ (by omega), n _ _ _ (by omega), n _ _ _ (by omega), n _ _ _ (by omega), n _ _ _ (by omega), Int.add_zero, ms_eq]; rfl
    · rw [n _ _ _ (by omega), n _ _ _ (by omega), n _ _ _ (by omega), n _ _ _ (by omega), n _ _ _ (by omega), ms_eq]; rfl
    · rw [n _ _ _ (by omega), n _ _ _ (by omega), n _ _ _ (by omega), n _ _ _ (by omega), ms_eq]; rfl
    · rw [n _ _ _ (by omega), n _ _ _ (by omega), n _ _ _ (by omega), ms_eq]; rfl
    · rw [n _ _ _ (by omega), n _ _ _ (by omega), ms_eq]; rfl
    · rw [n _ _ _ (by omega), ms_eq]; rfl
    · rw [ms_eq]; rfl
  · rw [if_neg e, ms_nk _ _ _ _ _ _ (by omega), ms_nk _ _ _ _ _ _ (by omega), ms_nk _ _ _ _ _ _ (by omega), ms_nk _ _ _ _ _ _ (by omega), ms_nk _ _ _ _ _ _ (by omega), ms_nk _ _ _ _ _ _ (by omega), ms_nk _ _ _ _ _ _ (by omega)]
