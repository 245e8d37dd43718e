theorem rm_cg (r : MM) (fl fw : Int) {t t' : Int → Int} (h : ∀ j, 0 ≤ j → j < 88 → t j = t' j) : rm r t fl fw = rm r t' fl fw := by
  funext b j
  simp only [rm]
  split
  · rename_i q; exact h j q.2.1 q.2.2
  · rfl
/-- the foot -/
def fot (t : Int → Int) : Int → Int := fun j => if j = 0 then 1 else if j = 3 ∨ j = 4 ∨ j = 5 ∨ (8 ≤ j ∧ j < 24) then 0 else t j
theorem s_footl (L fl fw : Int) (r : MM) (hP : MP r) : ∀ (m : Nat) (k : Int) (t : Int → Int), 8 ≤ k → k + m = 24 → ev 215 31 [some (vR 149), some (vI k)] [] (rm r t fl fw) (g_1 L) = some (none, rm r (fun j => if k ≤ j ∧ j < 24 then 0 else t j) fl fw, g_1 L) := by
  intro m
  induction m with
  | zero =>
    intro k t k0 hk
    have g : 24 ≤ k := by omega
    simp only [xe_215_31, xe_215_32, xe_215_34, xe_215_50, ite_self, mm_nL_I, mm_nL_R, mm_nL_0, Option.bind_some, Option.bind_none, bnd_ite, Option.toList_some, Option.toList_none, List.cons_append, List.nil_append, mm_cats_nil, mm_cats_I, mm_cats_L, mm_cats_R, if_true, if_false, true_and, and_true, false_and, and_false, not_true_eq_false, not_false_eq_true, Int.reduceLE, Int.reduceLT, Int.reduceEq, Int.reduceNe, Int.reduceNeg, Int.reduceAdd, Int.reduceSub, Int.reduceMul, Nat.reduceAdd, Nat.reduceLeDiff, true_or, or_true, false_or, or_false, reduceIte, g]
    rw [rm_cg r fl fw (t' := fun j => if k ≤ j ∧ j < 24 then 0 else t j) (fun j _ _ => by show t j = if k ≤ j ∧ j < 24 then 0 else t j; rw [if_neg (by omega)])]
  | succ m ih =>
    intro k t k0 hk
    have g : ¬ 24 ≤ k := by omega
    have w : w32 (k + 1) = k + 1 := wi32 (by omega) (by omega)
    have p0 : 0 ≤ k := by omega
    have p1 : k < 88 := by omega
    have u := rm_u r t fl fw k 0 ⟨p0, p1⟩
    rw [xe_215_31]
    simp only [xe_215_32, xe_215_34, xe_215_37, xe_215_38, xe_215_41, xe_215_42, xe_215_43, xe_215_44 (some (vI _)) _ _ _ _ rfl, xe_215_44 (some (vR _)) _ _ _ _ rfl, xe_215_44 none _ _ _ _ rfl, xe_215_47, xe_215_50, ite_self, mm_nL_I, mm_nL_R, mm_nL_0, Option.bind_some, Option.bind_none, bnd_ite, Option.toList_some, Option.toList_none, List.cons_append, List.nil_append, mm_cats_nil, mm_cats_I, mm_cats_L, mm_cats_R, if_true, if_false, true_and, and_true, false_and, and_false, not_true_eq_false, not_false_eq_true, Int.reduceLE, Int.reduceLT, Int.reduceEq, Int.reduceNe, Int.reduceNeg, Int.reduceAdd, Int.reduceSub, Int.reduceMul, Nat.reduceAdd, Nat.reduceLeDiff, true_or, or_true, false_or, or_false, reduceIte, k_149, k_165, l_165, rp_35 hP, g, p0, p1, w, u]
    rw [ih (k + 1) (up t k 0) (by omega) (by omega)]
    rw [rm_cg r fl fw (t' := fun j => if k ≤ j ∧ j < 24 then 0 else t j) (fun j _ _ => by
      show (if k + 1 ≤ j ∧ j < 24 then 0 else up t k 0 j) = if k ≤ j ∧ j < 24 then 0 else t j
      unfold up
      by_cases e : j = k
      · rw [if_neg (by omega), if_pos e, if_pos (by omega)]
      · rw [if_neg e]
        by_cases e2 : k ≤ j ∧ j < 24
        · rw [if_pos e2, if_pos (by omega)]
        · rw [if_neg e2, if_neg (by omega)])]
theorem s_foots (L fl fw : Int) (r : MM) (t : Int → Int) (hP : MP r) : ev 215 0 [some (vR 149), none] [] (rm r t fl fw) (g_1 L) = some (none, rm r (fot t) fl fw, g_1 L) := by
  have l := s_footl L fl fw r hP 16 8 (up (up (up (up t 0 1) 3 0) 4 0) 5 0) (by omega) (by omega)
  simp only [xe_215_0, xe_215_1, xe_215_4, xe_215_5, xe_215_6, xe_215_7, xe_215_8, xe_215_11, xe_215_12, xe_215_13, xe_215_14, xe_215_15, xe_215_18, xe_215_19, xe_215_20, xe_215_21, xe_215_22, xe_215_25, xe_215_26, xe_215_27, xe_215_28, xe_215_30 (some (vI _)) _ _ _ _ _ rfl, xe_215_30 (some (vR _)) _ _ _ _ _ rfl, xe_215_30 none _ _ _ _ _ rfl, ite_self, mm_nL_I, mm_nL_R, mm_nL_0, Option.bind_some, Option.bind_none, bnd_ite, Option.toList_some, Option.toList_none, List.cons_append, List.nil_append, mm_cats_nil, mm_cats_I, mm_cats_L, mm_cats_R, if_true, if_false, true_and, and_true, false_and, and_false, not_true_eq_false, not_false_eq_true, Int.reduceLE, Int.reduceLT, Int.reduceEq, Int.reduceNe, Int.reduceNeg, Int.reduceAdd, Int.reduceSub, Int.reduceMul, Nat.reduceAdd, Nat.reduceLeDiff, true_or, or_true, false_or, or_false, reduceIte, k_149, k_165, l_165, rp_35 hP, rg_0, rw_0, rg_1, rw_1, rg_2, rw_2, rg_3, rw_3, rg_4, rw_4, rg_5, rw_5, rg_6, rw_6, rg_7, rw_7]
  rw [l]
  rw [rm_cg r fl fw (t' := fot t) (fun j _ _ => by
    show (if 8 ≤ j ∧ j < 24 then 0 else up (up (up (up t 0 1) 3 0) 4 0) 5 0 j) = fot t j
    unfold fot up
    by_cases e : 8 ≤ j ∧ j < 24
    · rw [if_pos e, if_neg (by omega), if_pos (by omega)]
    · rw [if_neg e]
      by_cases e0 : j = 0
      · subst e0; rfl
      · by_cases e1 : j = 3 ∨ j = 4 ∨ j = 5
        · rcases e1 with rfl | rfl | rfl <;> first | rfl | simp
        · rw [if_neg (by omega), if_neg (by omega), if_neg (by omega), if_neg e0, if_neg e0, if_neg (by omega)])]
theorem s_endl (L fl fw : Int) (r : MM) (hP : MP r) : ∀ (m : Nat) (k : Int) (t : Int → Int), 0 ≤ k → k + m = 88 → ev 212 2 [some (vR 149), some (vI k)] [] (rm r t fl fw) (g_1 L) = some (none, rm r (fun j => if k ≤ j ∧ j < 88 then 0 else t j) fl fw, g_1 L) := by
  intro m
  induction m with
  | zero =>
    intro k t k0 hk
    have g : 88 ≤ k := by omega
    simp only [xe_212_2, xe_212_3, xe_212_5, xe_212_21, ite_self, mm_nL_I, mm_nL_R, mm_nL_0, Option.bind_some, Option.bind_none, bnd_ite, Option.toList_some, Option.toList_none, List.cons_append, List.nil_append, mm_cats_nil, mm_cats_I, mm_cats_L, mm_cats_R, if_true, if_false, true_and, and_true, false_and, and_false, not_true_eq_false, not_false_eq_true, Int.reduceLE, Int.reduceLT, Int.reduceEq, Int.reduceNe, Int.reduceNeg, Int.reduceAdd, Int.reduceSub, Int.reduceMul, Nat.reduceAdd, Nat.reduceLeDiff, true_or, or_true, false_or, or_false, reduceIte, g]
    rw [rm_cg r fl fw (t' := fun j => if k ≤ j ∧ j < 88 then 0 else t j) (fun j _ _ => by show t j = if k ≤ j ∧ j < 88 then 0 else t j; rw [if_neg (by omega)])]
  | succ m ih =>
    intro k t k0 hk
    have g : ¬ 88 ≤ k := by omega
    have w : w32 (k + 1) = k + 1 := wi32 (by omega) (by omega)
    have p1 : k < 88 := by omega
    have u := rm_u r t fl fw k 0 ⟨k0, p1⟩
    rw [xe_212_2]
    simp only [xe_212_3, xe_212_5, xe_212_8, xe_212_9, xe_212_12, xe_212_13, xe_212_14, xe_212_15 (some (vI _)) _ _ _ _ rfl, xe_212_15 (some (vR _)) _ _ _ _ rfl, xe_212_15 none _ _ _ _ rfl, xe_212_18, xe_212_21, ite_self, mm_nL_I, mm_nL_R, mm_nL_0, Option.bind_some, Option.bind_none, bnd_ite, Option.toList_some, Option.toList_none, List.cons_append, List.nil_append, mm_cats_nil, mm_cats_I, mm_cats_L, mm_cats_R, if_true, if_false, true_and, and_true, false_and, and_false, not_true_eq_false, not_false_eq_true, Int.reduceLE, Int.reduceLT, Int.reduceEq, Int.reduceNe, Int.reduceNeg, Int.reduceAdd, Int.reduceSub, Int.reduceMul, Nat.reduceAdd, Nat.reduceLeDiff, true_or, or_true, false_or, or_false, reduceIte, k_149, k_165, l_165, rp_35 hP, g, k0, p1, w, u]
    rw [ih (k + 1) (up t k 0) (by omega) (by omega)]
    rw [rm_cg r fl fw (t' := fun j => if k ≤ j ∧ j < 88 then 0 else t j) (fun j _ _ => by
      show (if k + 1 ≤ j ∧ j < 88 then 0 else up t k 0 j) = if k ≤ j ∧ j < 88 then 0 else t j
      unfold up
      by_cases e : j = k
      · rw [if_neg (by omega), if_pos e, if_pos (by omega)]
      · rw [if_neg e]
        by_cases e2 : k ≤ j ∧ j < 88
        · rw [if_pos e2, if_pos (by omega)]
        · rw [if_neg e2, if_neg (by omega)])]
theorem s_ends (L fl fw : Int) (r : MM) (t : Int → Int) (hP : MP r) : ev 212 0 [some (vR 149), none] [] (rm r t fl fw) (g_1 L) = some (none, rm r z0 fl fw, g_1 L) := by
  have l := s_endl L fl fw r hP 88 0 t (by omega) (by omega)
  simp only [xe_212_0, xe_212_1 (some (vI _)) _ _ _ _ _ rfl, xe_212_1 (some (vR _)) _ _ _ _ _ rfl, xe_212_1 none _ _ _ _ _ rfl]
  rw [l]
  rw [rm_cg r fl fw (t' := z0) (fun j j0 j1 => by show (if 0 ≤ j ∧ j < 88 then 0 else t j) = z0 j; rw [if_pos ⟨j0, j1⟩]; rfl)]
def bgt (la ra : Int) : Int → Int := fot (up (up z0 1 la) 2 ra)
theorem s_begins (L fl fw : Int) (r : MM) (t : Int → Int) (hP : MP r) : ev 216 0 [some (vR 149)] [] (rm r t fl fw) (g_1 L) = some (none, rm r (bgt (r 149 31) (r 149 32)) fl fw, g_1 L) := by
  have E := s_ends L fl fw r t hP
  have F := fun t => s_foots L fl fw r t hP
  have k1 : ∀ t, rm r t fl fw 149 31 = r 149 31 := fun t => rm_k _ _ _ _ _ (by omega) (by omega)
  have k2 : ∀ t, rm r t fl fw 149 32 = r 149 32 := fun t => rm_k _ _ _ _ _ (by omega) (by omega)
  simp only [xe_216_0, xe_216_1, xe_216_4, xe_216_5, xe_216_8, xe_216_9, xe_216_10, xe_216_13, xe_216_14, xe_216_15, xe_216_18, xe_216_19, xe_216_20, xe_216_23, xe_216_24, xe_216_25, xe_216_28, ite_self, mm_nL_I, mm_nL_R, mm_nL_0, Option.bind_some, Option.bind_none, bnd_ite, Option.toList_some, Option.toList_none, List.cons_append, List.nil_append, mm_cats_nil, mm_cats_I, mm_cats_L, mm_cats_R, if_true, if_false, true_and, and_true, false_and, and_false, not_true_eq_false, not_false_eq_true, Int.reduceLE, Int.reduceLT, Int.reduceEq, Int.reduceNe, Int.reduceNeg, Int.reduceAdd, Int.reduceSub, Int.reduceMul, Nat.reduceAdd, Nat.reduceLeDiff, true_or, or_true, false_or, or_false, reduceIte, k_149, k_165, l_165, rp_35 hP, E, F, k1, k2, rg_0, rw_0, rg_1, rw_1, rg_2, rw_2, rg_3, rw_3, rg_4, rw_4, rg_5, rw_5, rg_6, rw_6, rg_7, rw_7, bgt]
/-- a FALL of the reference -/
def fa1 (t : Int → Int) (by' : Int) : Int → Int := up (up (up (up t (24 + 4 * t 7) by') (24 + 4 * t 7 + 1) (t 1)) (24 + 4 * t 7 + 2) (t 2)) (24 + 4 * t 7 + 3) (if t 0 = 1 then t 3 else t 5)
theorem fa1_k (t : Int → Int) (by' k : Int) (h : 0 ≤ t 7) (hk : k < 24) : fa1 t by' k = t k := by
  unfold fa1 up
  rw [if_neg (by omega), if_neg (by omega), if_neg (by omega), if_neg (by omega)]
def fa2 (t : Int → Int) (wr : Int) : Int → Int := if t 1 = 1 ∧ t 2 = 0 then up (fot (up t 7 (t 7 + 1))) 0 4
  else if t 0 = 1 then (if 0 < t 2 then fot (up (up t 7 (t 7 + 1)) 2 (t 2 - 1)) else fot (up (up (up t 7 (t 7 + 1)) 1 (t 1 / 2)) 2 wr))
  else (if t 1 = 1 then fot (up (up t 7 (t 7 + 1)) 2 (t 2 - 1)) else fot (up (up t 7 (t 7 + 1)) 1 (t 1 / 2)))
theorem s_falls2 (L b q fl fw : Int) (r : MM) (t : Int → Int) (hP : MP r) (l0 : 0 ≤ t 1) (l1 : t 1 ≤ 4) (q0 : 0 ≤ t 2) (q3 : t 2 ≤ 3) (f0 : 0 ≤ t 7) (f1 : t 7 ≤ 11) :
    ev 220 86 [some (vR 149), some (vI b), some (vI q), none, none] [] (rm r t fl fw) (g_1 L) = some (none, rm r (fa2 t (r 149 32)) fl fw, g_1 L) := by
  have F := fun t => s_foots L fl fw r t hP
  have k2 : ∀ t, rm r t fl fw 149 32 = r 149 32 := fun t => rm_k _ _ _ _ _ (by omega) (by omega)
  have w7 : w32 (t 7 + 1) = t 7 + 1 := wi32 (by omega) (by omega)
  have w2 : w32 (t 2 - 1) = t 2 - 1 := wi32 (by omega) (by omega)
  have d1 : mm_div (t 1) 2 = t 1 / 2 := nu_div (by omega) (by omega) (by omega) (by omega)
  unfold fa2
  by_cases h0 : t 0 = 1
  · by_cases h1 : t 1 = 1
    · by_cases h2 : t 2 = 0
      · simp only [xe_220_86, xe_220_87, xe_220_90, xe_220_92, xe_220_93, xe_220_94, xe_220_95, xe_220_96, xe_220_97, xe_220_98, xe_220_101, xe_220_102, xe_220_103, xe_220_104, xe_220_107, xe_220_108, xe_220_111, xe_220_112 _ _ (some (vI _)) _ _ _ _ _ _ rfl, xe_220_112 _ _ (some (vR _)) _ _ _ _ _ _ rfl, xe_220_112 _ _ none _ _ _ _ _ _ rfl, xe_220_113, xe_220_114, xe_220_117, xe_220_118, xe_220_119, xe_220_120, xe_220_123, xe_220_124, xe_220_127, xe_220_128, xe_220_129, xe_220_132, xe_220_133, xe_220_136, xe_220_137, xe_220_140, xe_220_141, xe_220_142, xe_220_143, xe_220_144, xe_220_145, xe_220_148, xe_220_149, xe_220_152, xe_220_153, xe_220_154, xe_220_157, xe_220_158, xe_220_161, xe_220_162, xe_220_165, xe_220_166, xe_220_169, xe_220_170, xe_220_171, xe_220_172, xe_220_175, xe_220_176, xe_220_179, xe_220_180 _ _ _ (some (vI _)) _ _ _ _ _ rfl, xe_220_180 _ _ _ (some (vR _)) _ _ _ _ _ rfl, xe_220_180 _ _ _ none _ _ _ _ _ rfl, xe_220_182, xe_220_184, xe_220_187, xe_220_188, xe_220_191, xe_220_192, xe_220_193, xe_220_194, xe_220_195, xe_220_196, xe_220_197, xe_220_200, xe_220_201, xe_220_204, xe_220_205, xe_220_206, xe_220_207, xe_220_208, xe_220_209, xe_220_210, xe_220_211, xe_220_214, xe_220_215, xe_220_218, xe_220_219, xe_220_220, xe_220_223, xe_220_224, xe_220_225, xe_220_228, ite_self, mm_nL_I, mm_nL_R, mm_nL_0, Option.bind_some, Option.bind_none, bnd_ite, Option.toList_some, Option.toList_none, List.cons_append, List.nil_append, mm_cats_nil, mm_cats_I, mm_cats_L, mm_cats_R, if_true, if_false, true_and, and_true, false_and, and_false, not_true_eq_false, not_false_eq_true, Int.reduceLE, Int.reduceLT, Int.reduceEq, Int.reduceNe, Int.reduceNeg, Int.reduceAdd, Int.reduceSub, Int.reduceMul, Nat.reduceAdd, Nat.reduceLeDiff, true_or, or_true, false_or, or_false, reduceIte, k_149, k_165, l_165, rp_35 hP, F, k2, rg_0, rw_0, rg_1, rw_1, rg_2, rw_2, rg_3, rw_3, rg_4, rw_4, rg_5, rw_5, rg_6, rw_6, rg_7, rw_7, up_e, w7, h0, h1, h2]
      · have h2' : ¬ t 2 ≤ 0 := by omega
        have h2'' : 0 < t 2 := by omega
        simp only [xe_220_86, xe_220_87, xe_220_90, xe_220_92, xe_220_93, xe_220_94, xe_220_95, xe_220_96, xe_220_97, xe_220_98, xe_220_101, xe_220_102, xe_220_103, xe_220_104, xe_220_107, xe_220_108, xe_220_111, xe_220_112 _ _ (some (vI _)) _ _ _ _ _ _ rfl, xe_220_112 _ _ (some (vR _)) _ _ _ _ _ _ rfl, xe_220_112 _ _ none _ _ _ _ _ _ rfl, xe_220_113, xe_220_114, xe_220_117, xe_220_118, xe_220_119, xe_220_120, xe_220_123, xe_220_124, xe_220_127, xe_220_128, xe_220_129, xe_220_132, xe_220_133, xe_220_136, xe_220_137, xe_220_140, xe_220_141, xe_220_142, xe_220_143, xe_220_144, xe_220_145, xe_220_148, xe_220_149, xe_220_152, xe_220_153, xe_220_154, xe_220_157, xe_220_158, xe_220_161, xe_220_162, xe_220_165, xe_220_166, xe_220_169, xe_220_170, xe_220_171, xe_220_172, xe_220_175, xe_220_176, xe_220_179, xe_220_180 _ _ _ (some (vI _)) _ _ _ _ _ rfl, xe_220_180 _ _ _ (some (vR _)) _ _ _ _ _ rfl, xe_220_180 _ _ _ none _ _ _ _ _ rfl, xe_220_182, xe_220_184, xe_220_187, xe_220_188, xe_220_191, xe_220_192, xe_220_193, xe_220_194, xe_220_195, xe_220_196, xe_220_197, xe_220_200, xe_220_201, xe_220_204, xe_220_205, xe_220_206, xe_220_207, xe_220_208, xe_220_209, xe_220_210, xe_220_211, xe_220_214, xe_220_215, xe_220_218, xe_220_219, xe_220_220, xe_220_223, xe_220_224, xe_220_225, xe_220_228, ite_self, mm_nL_I, mm_nL_R, mm_nL_0, Option.bind_some, Option.bind_none, bnd_ite, Option.toList_some, Option.toList_none, List.cons_append, List.nil_append, mm_cats_nil, mm_cats_I, mm_cats_L, mm_cats_R, if_true, if_false, true_and, and_true, false_and, and_false, not_true_eq_false, not_false_eq_true, Int.reduceLE, Int.reduceLT, Int.reduceEq, Int.reduceNe, Int.reduceNeg, Int.reduceAdd, Int.reduceSub, Int.reduceMul, Nat.reduceAdd, Nat.reduceLeDiff, true_or, or_true, false_or, or_false, reduceIte, k_149, k_165, l_165, rp_35 hP, F, k2, rg_0, rw_0, rg_1, rw_1, rg_2, rw_2, rg_3, rw_3, rg_4, rw_4, rg_5, rw_5, rg_6, rw_6, rg_7, rw_7, up_e, w7, w2, h0, h1, h2, h2', h2'']
    · by_cases h2 : t 2 ≤ 0
      · have h2' : ¬ 0 < t 2 := by omega
        simp only [xe_220_86, xe_220_87, xe_220_90, xe_220_92, xe_220_93, xe_220_94, xe_220_95, xe_220_96, xe_220_97, xe_220_98, xe_220_101, xe_220_102, xe_220_103, xe_220_104, xe_220_107, xe_220_108, xe_220_111, xe_220_112 _ _ (some (vI _)) _ _ _ _ _ _ rfl, xe_220_112 _ _ (some (vR _)) _ _ _ _ _ _ rfl, xe_220_112 _ _ none _ _ _ _ _ _ rfl, xe_220_113, xe_220_114, xe_220_117, xe_220_118, xe_220_119, xe_220_120, xe_220_123, xe_220_124, xe_220_127, xe_220_128, xe_220_129, xe_220_132, xe_220_133, xe_220_136, xe_220_137, xe_220_140, xe_220_141, xe_220_142, xe_220_143, xe_220_144, xe_220_145, xe_220_148, xe_220_149, xe_220_152, xe_220_153, xe_220_154, xe_220_157, xe_220_158, xe_220_161, xe_220_162, xe_220_165, xe_220_166, xe_220_169, xe_220_170, xe_220_171, xe_220_172, xe_220_175, xe_220_176, xe_220_179, xe_220_180 _ _ _ (some (vI _)) _ _ _ _ _ rfl, xe_220_180 _ _ _ (some (vR _)) _ _ _ _ _ rfl, xe_220_180 _ _ _ none _ _ _ _ _ rfl, xe_220_182, xe_220_184, xe_220_187, xe_220_188, xe_220_191, xe_220_192, xe_220_193, xe_220_194, xe_220_195, xe_220_196, xe_220_197, xe_220_200, xe_220_201, xe_220_204, xe_220_205, xe_220_206, xe_220_207, xe_220_208, xe_220_209, xe_220_210, xe_220_211, xe_220_214, xe_220_215, xe_220_218, xe_220_219, xe_220_220, xe_220_223, xe_220_224, xe_220_225, xe_220_228, ite_self, mm_nL_I, mm_nL_R, mm_nL_0, Option.bind_some, Option.bind_none, bnd_ite, Option.toList_some, Option.toList_none, List.cons_append, List.nil_append, mm_cats_nil, mm_cats_I, mm_cats_L, mm_cats_R, if_true, if_false, true_and, and_true, false_and, and_false, not_true_eq_false, not_false_eq_true, Int.reduceLE, Int.reduceLT, Int.reduceEq, Int.reduceNe, Int.reduceNeg, Int.reduceAdd, Int.reduceSub, Int.reduceMul, Nat.reduceAdd, Nat.reduceLeDiff, true_or, or_true, false_or, or_false, reduceIte, k_149, k_165, l_165, rp_35 hP, F, k2, rg_0, rw_0, rg_1, rw_1, rg_2, rw_2, rg_3, rw_3, rg_4, rw_4, rg_5, rw_5, rg_6, rw_6, rg_7, rw_7, up_e, w7, d1, h0, h1, h2, h2']
      · have h2' : 0 < t 2 := by omega
        simp only [xe_220_86, xe_220_87, xe_220_90, xe_220_92, xe_220_93, xe_220_94, xe_220_95, xe_220_96, xe_220_97, xe_220_98, xe_220_101, xe_220_102, xe_220_103, xe_220_104, xe_220_107, xe_220_108, xe_220_111, xe_220_112 _ _ (some (vI _)) _ _ _ _ _ _ rfl, xe_220_112 _ _ (some (vR _)) _ _ _ _ _ _ rfl, xe_220_112 _ _ none _ _ _ _ _ _ rfl, xe_220_113, xe_220_114, xe_220_117, xe_220_118, xe_220_119, xe_220_120, xe_220_123, xe_220_124, xe_220_127, xe_220_128, xe_220_129, xe_220_132, xe_220_133, xe_220_136, xe_220_137, xe_220_140, xe_220_141, xe_220_142, xe_220_143, xe_220_144, xe_220_145, xe_220_148, xe_220_149, xe_220_152, xe_220_153, xe_220_154, xe_220_157, xe_220_158, xe_220_161, xe_220_162, xe_220_165, xe_220_166, xe_220_169, xe_220_170, xe_220_171, xe_220_172, xe_220_175, xe_220_176, xe_220_179, xe_220_180 _ _ _ (some (vI _)) _ _ _ _ _ rfl, xe_220_180 _ _ _ (some (vR _)) _ _ _ _ _ rfl, xe_220_180 _ _ _ none _ _ _ _ _ rfl, xe_220_182, xe_220_184, xe_220_187, xe_220_188, xe_220_191, xe_220_192, xe_220_193, xe_220_194, xe_220_195, xe_220_196, xe_220_197, xe_220_200, xe_220_201, xe_220_204, xe_220_205, xe_220_206, xe_220_207, xe_220_208, xe_220_209, xe_220_210, xe_220_211, xe_220_214, xe_220_215, xe_220_218, xe_220_219, xe_220_220, xe_220_223, xe_220_224, xe_220_225, xe_220_228, ite_self, mm_nL_I, mm_nL_R, mm_nL_0, Option.bind_some, Option.bind_none, bnd_ite, Option.toList_some, Option.toList_none, List.cons_append, List.nil_append, mm_cats_nil, mm_cats_I, mm_cats_L, mm_cats_R, if_true, if_false, true_and, and_true, false_and, and_false, not_true_eq_false, not_false_eq_true, Int.reduceLE, Int.reduceLT, Int.reduceEq, Int.reduceNe, Int.reduceNeg, Int.reduceAdd, Int.reduceSub, Int.reduceMul, Nat.reduceAdd, Nat.reduceLeDiff, true_or, or_true, false_or, or_false, reduceIte, k_149, k_165, l_165, rp_35 hP, F, k2, rg_0, rw_0, rg_1, rw_1, rg_2, rw_2, rg_3, rw_3, rg_4, rw_4, rg_5, rw_5, rg_6, rw_6, rg_7, rw_7, up_e, w7, w2, h0, h1, h2, h2']
  · by_cases h1 : t 1 = 1
    · by_cases h2 : t 2 = 0
      · simp only [xe_220_86, xe_220_87, xe_220_90, xe_220_92, xe_220_93, xe_220_94, xe_220_95, xe_220_96, xe_220_97, xe_220_98, xe_220_101, xe_220_102, xe_220_103, xe_220_104, xe_220_107, xe_220_108, xe_220_111, xe_220_112 _ _ (some (vI _)) _ _ _ _ _ _ rfl, xe_220_112 _ _ (some (vR _)) _ _ _ _ _ _ rfl, xe_220_112 _ _ none _ _ _ _ _ _ rfl, xe_220_113, xe_220_114, xe_220_117, xe_220_118, xe_220_119, xe_220_120, xe_220_123, xe_220_124, xe_220_127, xe_220_128, xe_220_129, xe_220_132, xe_220_133, xe_220_136, xe_220_137, xe_220_140, xe_220_141, xe_220_142, xe_220_143, xe_220_144, xe_220_145, xe_220_148, xe_220_149, xe_220_152, xe_220_153, xe_220_154, xe_220_157, xe_220_158, xe_220_161, xe_220_162, xe_220_165, xe_220_166, xe_220_169, xe_220_170, xe_220_171, xe_220_172, xe_220_175, xe_220_176, xe_220_179, xe_220_180 _ _ _ (some (vI _)) _ _ _ _ _ rfl, xe_220_180 _ _ _ (some (vR _)) _ _ _ _ _ rfl, xe_220_180 _ _ _ none _ _ _ _ _ rfl, xe_220_182, xe_220_184, xe_220_187, xe_220_188, xe_220_191, xe_220_192, xe_220_193, xe_220_194, xe_220_195, xe_220_196, xe_220_197, xe_220_200, xe_220_201, xe_220_204, xe_220_205, xe_220_206, xe_220_207, xe_220_208, xe_220_209, xe_220_210, xe_220_211, xe_220_214, xe_220_215, xe_220_218, xe_220_219, xe_220_220, xe_220_223, xe_220_224, xe_220_225, xe_220_228, ite_self, mm_nL_I, mm_nL_R, mm_nL_0, Option.bind_some, Option.bind_none, bnd_ite, Option.toList_some, Option.toList_none, List.cons_append, List.nil_append, mm_cats_nil, mm_cats_I, mm_cats_L, mm_cats_R, if_true, if_false, true_and, and_true, false_and, and_false, not_true_eq_false, not_false_eq_true, Int.reduceLE, Int.reduceLT, Int.reduceEq, Int.reduceNe, Int.reduceNeg, Int.reduceAdd, Int.reduceSub, Int.reduceMul, Nat.reduceAdd, Nat.reduceLeDiff, true_or, or_true, false_or, or_false, reduceIte, k_149, k_165, l_165, rp_35 hP, F, k2, rg_0, rw_0, rg_1, rw_1, rg_2, rw_2, rg_3, rw_3, rg_4, rw_4, rg_5, rw_5, rg_6, rw_6, rg_7, rw_7, up_e, w7, h0, h1, h2]
      · simp only [xe_220_86, xe_220_87, xe_220_90, xe_220_92, xe_220_93, xe_220_94, xe_220_95, xe_220_96, xe_220_97, xe_220_98, xe_220_101, xe_220_102, xe_220_103, xe_220_104, xe_220_107, xe_220_108, xe_220_111, xe_220_112 _ _ (some (vI _)) _ _ _ _ _ _ rfl, xe_220_112 _ _ (some (vR _)) _ _ _ _ _ _ rfl, xe_220_112 _ _ none _ _ _ _ _ _ rfl, xe_220_113, xe_220_114, xe_220_117, xe_220_118, xe_220_119, xe_220_120, xe_220_123, xe_220_124, xe_220_127, xe_220_128, xe_220_129, xe_220_132, xe_220_133, xe_220_136, xe_220_137, xe_220_140, xe_220_141, xe_220_142, xe_220_143, xe_220_144, xe_220_145, xe_220_148, xe_220_149, xe_220_152, xe_220_153, xe_220_154, xe_220_157, xe_220_158, xe_220_161, xe_220_162, xe_220_165, xe_220_166, xe_220_169, xe_220_170, xe_220_171, xe_220_172, xe_220_175, xe_220_176, xe_220_179, xe_220_180 _ _ _ (some (vI _)) _ _ _ _ _ rfl, xe_220_180 _ _ _ (some (vR _)) _ _ _ _ _ rfl, xe_220_180 _ _ _ none _ _ _ _ _ rfl, xe_220_182, xe_220_184, xe_220_187, xe_220_188, xe_220_191, xe_220_192, xe_220_193, xe_220_194, xe_220_195, xe_220_196, xe_220_197, xe_220_200, xe_220_201, xe_220_204, xe_220_205, xe_220_206, xe_220_207, xe_220_208, xe_220_209, xe_220_210, xe_220_211, xe_220_214, xe_220_215, xe_220_218, xe_220_219, xe_220_220, xe_220_223, xe_220_224, xe_220_225, xe_220_228, ite_self, mm_nL_I, mm_nL_R, mm_nL_0, Option.bind_some, Option.bind_none, bnd_ite, Option.toList_some, Option.toList_none, List.cons_append, List.nil_append, mm_cats_nil, mm_cats_I, mm_cats_L, mm_cats_R, if_true, if_false, true_and, and_true, false_and, and_false, not_true_eq_false, not_false_eq_true, Int.reduceLE, Int.reduceLT, Int.reduceEq, Int.reduceNe, Int.reduceNeg, Int.reduceAdd, Int.reduceSub, Int.reduceMul, Nat.reduceAdd, Nat.reduceLeDiff, true_or, or_true, false_or, or_false, reduceIte, k_149, k_165, l_165, rp_35 hP, F, k2, rg_0, rw_0, rg_1, rw_1, rg_2, rw_2, rg_3, rw_3, rg_4, rw_4, rg_5, rw_5, rg_6, rw_6, rg_7, rw_7, up_e, w7, w2, h0, h1, h2]
    · simp only [xe_220_86, xe_220_87, xe_220_90, xe_220_92, xe_220_93, xe_220_94, xe_220_95, xe_220_96, xe_220_97, xe_220_98, xe_220_101, xe_220_102, xe_220_103, xe_220_104, xe_220_107, xe_220_108, xe_220_111, xe_220_112 _ _ (some (vI _)) _ _ _ _ _ _ rfl, xe_220_112 _ _ (some (vR _)) _ _ _ _ _ _ rfl, xe_220_112 _ _ none _ _ _ _ _ _ rfl, xe_220_113, xe_220_114, xe_220_117, xe_220_118, xe_220_119, xe_220_120, xe_220_123, xe_220_124, xe_220_127, xe_220_128, xe_220_129, xe_220_132, xe_220_133, xe_220_136, xe_220_137, xe_220_140, xe_220_141, xe_220_142, xe_220_143, xe_220_144, xe_220_145, xe_220_148, xe_220_149, xe_220_152, xe_220_153, xe_220_154, xe_220_157, xe_220_158, xe_220_161, xe_220_162, xe_220_165, xe_220_166, xe_220_169, xe_220_170, xe_220_171, xe_220_172, xe_220_175, xe_220_176, xe_220_179, xe_220_180 _ _ _ (some (vI _)) _ _ _ _ _ rfl, xe_220_180 _ _ _ (some (vR _)) _ _ _ _ _ rfl, xe_220_180 _ _ _ none _ _ _ _ _ rfl, xe_220_182, xe_220_184, xe_220_187, xe_220_188, xe_220_191, xe_220_192, xe_220_193, xe_220_194, xe_220_195, xe_220_196, xe_220_197, xe_220_200, xe_220_201, xe_220_204, xe_220_205, xe_220_206, xe_220_207, xe_220_208, xe_220_209, xe_220_210, xe_220_211, xe_220_214, xe_220_215, xe_220_218, xe_220_219, xe_220_220, xe_220_223, xe_220_224, xe_220_225, xe_220_228, ite_self, mm_nL_I, mm_nL_R, mm_nL_0, Option.bind_some, Option.bind_none, bnd_ite, Option.toList_some, Option.toList_none, List.cons_append, List.nil_append, mm_cats_nil, mm_cats_I, mm_cats_L, mm_cats_R, if_true, if_false, true_and, and_true, false_and, and_false, not_true_eq_false, not_false_eq_true, Int.reduceLE, Int.reduceLT, Int.reduceEq, Int.reduceNe, Int.reduceNeg, Int.reduceAdd, Int.reduceSub, Int.reduceMul, Nat.reduceAdd, Nat.reduceLeDiff, true_or, or_true, false_or, or_false, reduceIte, k_149, k_165, l_165, rp_35 hP, F, k2, rg_0, rw_0, rg_1, rw_1, rg_2, rw_2, rg_3, rw_3, rg_4, rw_4, rg_5, rw_5, rg_6, rw_6, rg_7, rw_7, up_e, w7, d1, h0, h1]
theorem s_falls (L b fl fw : Int) (r : MM) (t : Int → Int) (hP : MP r) (l0 : 0 ≤ t 1) (l1 : t 1 ≤ 4) (q0 : 0 ≤ t 2) (q3 : t 2 ≤ 3) (f0 : 0 ≤ t 7) (f1 : t 7 ≤ 11) :
    ev 220 0 [some (vR 149), some (vI b), none, none, none] [] (rm r t fl fw) (g_1 L) = some (none, rm r (fa2 (fa1 t b) (r 149 32)) fl b, g_1 L) := by
  have w1 : w32 (4 * t 7) = 4 * t 7 := wi32 (by omega) (by omega)
  have w2 : w32 (24 + 4 * t 7) = 24 + 4 * t 7 := wi32 (by omega) (by omega)
  have k := fun k hk => fa1_k t b k f0 hk
  have z := s_falls2 L b (24 + 4 * t 7) fl b r (fa1 t b) hP (by rw [k 1 (by omega)]; exact l0) (by rw [k 1 (by omega)]; exact l1) (by rw [k 2 (by omega)]; exact q0) (by rw [k 2 (by omega)]; exact q3) (by rw [k 7 (by omega)]; exact f0) (by rw [k 7 (by omega)]; exact f1)
  rw [← z]
  unfold fa1
  generalize hA : 24 + 4 * t 7 = A at *
  have A0 : 24 ≤ A := by omega
  have A1 : A ≤ 68 := by omega
  have v1 : w32 (A + 1) = A + 1 := wi32 (by omega) (by omega)
  have v2 : w32 (A + 2) = A + 2 := wi32 (by omega) (by omega)
  have v3 : w32 (A + 3) = A + 3 := wi32 (by omega) (by omega)
  have a0 : 0 ≤ A := by omega
  have a1 : 0 ≤ A + 1 := by omega
  have a2 : 0 ≤ A + 2 := by omega
  have a3 : 0 ≤ A + 3 := by omega
  have b0 : A < 88 := by omega
  have b1 : A + 1 < 88 := by omega
  have b2 : A + 2 < 88 := by omega
  have b3 : A + 3 < 88 := by omega
  have u0 := fun t v => rm_u r t fl b A v ⟨a0, b0⟩
  have u1 := fun t v => rm_u r t fl b (A + 1) v ⟨a1, b1⟩
  have u2 := fun t v => rm_u r t fl b (A + 2) v ⟨a2, b2⟩
  have u3 := fun t v => rm_u r t fl b (A + 3) v ⟨a3, b3⟩
  have n : ∀ (k i : Int), k < 24 → 0 ≤ i → ¬ k = A + i := fun k i h1 h2 => by omega
  have m0 : ∀ (k : Int), k < 24 → ¬ k = A := fun k h1 => by omega
  by_cases h : t 0 = 1
  · simp only [xe_220_0, xe_220_2, xe_220_3, xe_220_4, xe_220_7, xe_220_9, xe_220_10, xe_220_11, xe_220_12 _ (some (vI _)) _ _ _ _ _ _ _ rfl, xe_220_12 _ (some (vR _)) _ _ _ _ _ _ _ rfl, xe_220_12 _ none _ _ _ _ _ _ _ rfl, xe_220_13, xe_220_14, xe_220_15, xe_220_18, xe_220_19, xe_220_22, xe_220_23, xe_220_24, xe_220_25, xe_220_26, xe_220_29, xe_220_30, xe_220_31, xe_220_32, xe_220_33, xe_220_36, xe_220_37, xe_220_38, xe_220_39, xe_220_40, xe_220_43, xe_220_44, xe_220_45, xe_220_46, xe_220_47, xe_220_50, xe_220_51, xe_220_52, xe_220_53, xe_220_54, xe_220_57, xe_220_58, xe_220_59, xe_220_60, xe_220_61, xe_220_64, xe_220_65, xe_220_66, xe_220_67, xe_220_70, xe_220_71, xe_220_74, xe_220_75, xe_220_76, xe_220_79, xe_220_80, xe_220_83, xe_220_84, xe_220_85, ite_self, mm_nL_I, mm_nL_R, mm_nL_0, Option.bind_some, Option.bind_none, bnd_ite, Option.toList_some, Option.toList_none, List.cons_append, List.nil_append, mm_cats_nil, mm_cats_I, mm_cats_L, mm_cats_R, if_true, if_false, true_and, and_true, false_and, and_false, not_true_eq_false, not_false_eq_true, Int.reduceLE, Int.reduceLT, Int.reduceEq, Int.reduceNe, Int.reduceNeg, Int.reduceAdd, Int.reduceSub, Int.reduceMul, Nat.reduceAdd, Nat.reduceLeDiff, true_or, or_true, false_or, or_false, reduceIte, k_149, k_165, l_165, rp_35 hP, rg_0, rw_0, rg_1, rw_1, rg_2, rw_2, rg_3, rw_3, rg_4, rw_4, rg_5, rw_5, rg_6, rw_6, rg_7, rw_7, ru_44, up_e, w1, hA, w2, v1, v2, v3, a0, a1, a2, a3, b0, b1, b2, b3, u0, u1, u2, u3, n 0 1 (by omega) (by omega), n 0 2 (by omega) (by omega), n 1 1 (by omega) (by omega), n 2 1 (by omega) (by omega), n 2 2 (by omega) (by omega), n 3 1 (by omega) (by omega), n 3 2 (by omega) (by omega), n 5 1 (by omega) (by omega), n 5 2 (by omega) (by omega), m0 0 (by omega), m0 1 (by omega), m0 2 (by omega), m0 3 (by omega), m0 5 (by omega), h]
  · simp only [xe_220_0, xe_220_2, xe_220_3, xe_220_4, xe_220_7, xe_220_9, xe_220_10, xe_220_11, xe_220_12 _ (some (vI _)) _ _ _ _ _ _ _ rfl, xe_220_12 _ (some (vR _)) _ _ _ _ _ _ _ rfl, xe_220_12 _ none _ _ _ _ _ _ _ rfl, xe_220_13, xe_220_14, xe_220_15, xe_220_18, xe_220_19, xe_220_22, xe_220_23, xe_220_24, xe_220_25, xe_220_26, xe_220_29, xe_220_30, xe_220_31, xe_220_32, xe_220_33, xe_220_36, xe_220_37, xe_220_38, xe_220_39, xe_220_40, xe_220_43, xe_220_44, xe_220_45, xe_220_46, xe_220_47, xe_220_50, xe_220_51, xe_220_52, xe_220_53, xe_220_54, xe_220_57, xe_220_58, xe_220_59, xe_220_60, xe_220_61, xe_220_64, xe_220_65, xe_220_66, xe_220_67, xe_220_70, xe_220_71, xe_220_74, xe_220_75, xe_220_76, xe_220_79, xe_220_80, xe_220_83, xe_220_84, xe_220_85, ite_self, mm_nL_I, mm_nL_R, mm_nL_0, Option.bind_some, Option.bind_none, bnd_ite, Option.toList_some, Option.toList_none, List.cons_append, List.nil_append, mm_cats_nil, mm_cats_I, mm_cats_L, mm_cats_R, if_true, if_false, true_and, and_true, false_and, and_false, not_true_eq_false, not_false_eq_true, Int.reduceLE, Int.reduceLT, Int.reduceEq, Int.reduceNe, Int.reduceNeg, Int.reduceAdd, Int.reduceSub, Int.reduceMul, Nat.reduceAdd, Nat.reduceLeDiff, true_or, or_true, false_or, or_false, reduceIte, k_149, k_165, l_165, rp_35 hP, rg_0, rw_0, rg_1, rw_1, rg_2, rw_2, rg_3, rw_3, rg_4, rw_4, rg_5, rw_5, rg_6, rw_6, rg_7, rw_7, ru_44, up_e, w1, hA, w2, v1, v2, v3, a0, a1, a2, a3, b0, b1, b2, b3, u0, u1, u2, u3, n 0 1 (by omega) (by omega), n 0 2 (by omega) (by omega), n 1 1 (by omega) (by omega), n 2 1 (by omega) (by omega), n 2 2 (by omega) (by omega), n 3 1 (by omega) (by omega), n 3 2 (by omega) (by omega), n 5 1 (by omega) (by omega), n 5 2 (by omega) (by omega), m0 0 (by omega), m0 1 (by omega), m0 2 (by omega), m0 3 (by omega), m0 5 (by omega), h]
