/-! load: loops of collect beside reads -/
section S5
variable {L n : Int} {F : Int → Int}
theorem lp_sd (n1 : 128 ≤ n) : ∀ (m : Nat) (i K : Int) (c r : MM) (s : Nat) (y2 y3 y4 v4 : Option MV) (v2 : Int), 38 ≤ i → i + 2 * m = 54 → K + m ≤ 5000 → CX n F K c r s →
    ∃ c' r' s' z2 z3 z4, ev 34 117 [some (vR 45), some (vR 16), some (vI v2), some (vI i), v4] [] c (g_1 L) = ev 34 154 [some (vR 45), some (vR 16), some (vI v2), some (vI 0), v4] [] c' (g_1 L) ∧ ev 176 80 [some (vR 149), some (vI i), y2, y3, y4] [] r (g_1 L) = ev 176 218 [some (vR 149), some (vI 0), z2, z3, z4] [] r' (g_1 L) ∧ CX n F (K + m) c' r' s' ∧ gC c c' ∧ gR r r' := by
  intro m
  induction m with
  | zero =>
    intro i K c r s y2 y3 y4 v4 v2 i0 im k5 h
    have e : i = 54 := by omega
    subst e
    refine ⟨c, r, s, y2, y3, y4, ?_, ?_, by rw [show K + ((0 : Nat) : Int) = K by omega]; exact h, gC.rf c, gR.rf r⟩
    · simp only [xe_34_117, xe_34_118, xe_34_120, xe_34_123, xe_34_124, xe_34_125, xe_34_126, xe_34_129, xe_34_130, xe_34_133, xe_34_134, xe_34_137, xe_34_138, xe_34_139, xe_34_140, xe_34_143, xe_34_146 _ _ (some (vI _)) _ _ _ _ _ rfl, xe_34_146 _ _ (some (vR _)) _ _ _ _ _ rfl, xe_34_146 _ _ none _ _ _ _ _ rfl, xe_34_149, xe_34_152, xe_34_153 _ _ (some (vI _)) _ _ _ _ _ _ rfl, xe_34_153 _ _ (some (vR _)) _ _ _ _ _ _ rfl, xe_34_153 _ _ none _ _ _ _ _ _ rfl, ite_self, mm_nL_I, mm_nL_R, mm_nL_0, Option.bind_some, Option.bind_none, bnd_ite, Option.toList_some, Option.toList_none, List.cons_append, List.nil_append, mm_cats_nil, mm_cats_I, mm_cats_L, mm_cats_R, if_true, if_false, true_and, and_true, false_and, and_false, not_true_eq_false, not_false_eq_true, Int.reduceLE, Int.reduceLT, Int.reduceEq, Int.reduceNe, Int.reduceNeg, Int.reduceAdd, Int.reduceSub, Int.reduceMul, Nat.reduceAdd, Nat.reduceLeDiff, true_or, or_true, false_or, or_false, reduceIte]
    · simp only [xe_176_80, xe_176_81, xe_176_83, xe_176_86, xe_176_87, xe_176_88, xe_176_91, xe_176_94, xe_176_95, xe_176_96, xe_176_99, xe_176_100, xe_176_103, xe_176_104, xe_176_105, xe_176_106, xe_176_107, xe_176_110, xe_176_111, xe_176_114, xe_176_117, xe_176_119, xe_176_120, xe_176_121, xe_176_124, xe_176_126, xe_176_127, xe_176_128 _ (some (vI _)) _ _ _ _ _ _ _ rfl, xe_176_128 _ (some (vR _)) _ _ _ _ _ _ _ rfl, xe_176_128 _ none _ _ _ _ _ _ _ rfl, xe_176_129, xe_176_130, xe_176_131, xe_176_132, xe_176_133, xe_176_136, xe_176_138, xe_176_139 _ _ (some (vI _)) _ _ _ _ _ _ rfl, xe_176_139 _ _ (some (vR _)) _ _ _ _ _ _ rfl, xe_176_139 _ _ none _ _ _ _ _ _ rfl, xe_176_140, xe_176_141, xe_176_144, xe_176_145, xe_176_147, xe_176_148, xe_176_150, xe_176_151, xe_176_154, xe_176_155, xe_176_156, xe_176_159, xe_176_160, xe_176_161, xe_176_162, xe_176_163, xe_176_164, xe_176_167, xe_176_168, xe_176_169, xe_176_172, xe_176_173, xe_176_174, xe_176_175, xe_176_176, xe_176_177, xe_176_180, xe_176_181, xe_176_183, xe_176_184, xe_176_186, xe_176_187 _ _ _ (some (vI _)) _ _ _ _ _ rfl, xe_176_187 _ _ _ (some (vR _)) _ _ _ _ _ rfl, xe_176_187 _ _ _ none _ _ _ _ _ rfl, xe_176_189, xe_176_190, xe_176_191, xe_176_193, xe_176_195, xe_176_196, xe_176_197, xe_176_198, xe_176_199, xe_176_202, xe_176_204, xe_176_205, xe_176_206, xe_176_207, xe_176_210 (some (vI _)) _ _ _ _ _ _ _ rfl, xe_176_210 (some (vR _)) _ _ _ _ _ _ _ rfl, xe_176_210 none _ _ _ _ _ _ _ rfl, xe_176_213, xe_176_216, xe_176_217 (some (vI _)) _ _ _ _ _ _ _ _ rfl, xe_176_217 (some (vR _)) _ _ _ _ _ _ _ _ rfl, xe_176_217 none _ _ _ _ _ _ _ _ rfl, ite_self, mm_nL_I, mm_nL_R, mm_nL_0, Option.bind_some, Option.bind_none, bnd_ite, Option.toList_some, Option.toList_none, List.cons_append, List.nil_append, mm_cats_nil, mm_cats_I, mm_cats_L, mm_cats_R, if_true, if_false, true_and, and_true, false_and, and_false, not_true_eq_false, not_false_eq_true, Int.reduceLE, Int.reduceLT, Int.reduceEq, Int.reduceNe, Int.reduceNeg, Int.reduceAdd, Int.reduceSub, Int.reduceMul, Nat.reduceAdd, Nat.reduceLeDiff, true_or, or_true, false_or, or_false, reduceIte]
  | succ m ih =>
    intro i K c r s y2 y3 y4 v4 v2 i0 im k5 h
    obtain ⟨c1, r1, s1, u1, u2, u3, u4, u5⟩ := st_sd (L := L) h n1 (by omega) i i0 (by omega)
    obtain ⟨z2, z3, z4, u2⟩ := u2 y2 y3 y4
    obtain ⟨c', r', s', t2, t3, t4, w1, w2, w3, w4, w5⟩ := ih (i + 2) (K + 1) c1 r1 s1 z2 z3 z4 v4 v2 (by omega) (by omega) (by omega) u3
    refine ⟨c', r', s', t2, t3, t4, ?_, u2.trans w2, by rw [show K + ((m + 1 : Nat) : Int) = K + 1 + (m : Int) by omega]; exact w3, u4.tr w4, u5.tr w5⟩
    rw [← w1, xe_34_117]
    have A := xb_at (L := L) (i := i) h.2.2.1.1 (by omega) (by omega) c rfl rfl
    have B := xb_at (L := L) (i := i + 1) h.2.2.1.1 (by omega) (by omega) c rfl rfl
    have w1 : w32 (i + 1) = i + 1 := wi32 (by omega) (by omega)
    have w2 : w32 (i + 2) = i + 2 := wi32 (by omega) (by omega)
    have g54 : ¬ 54 ≤ i := by omega
    simp only [xe_34_118, xe_34_120, xe_34_123, xe_34_124, xe_34_125, xe_34_126, xe_34_129, xe_34_130, xe_34_133, xe_34_134, xe_34_137, xe_34_138, xe_34_139, xe_34_140, xe_34_143, xe_34_146 _ _ (some (vI _)) _ _ _ _ _ rfl, xe_34_146 _ _ (some (vR _)) _ _ _ _ _ rfl, xe_34_146 _ _ none _ _ _ _ _ rfl, xe_34_149, xe_34_152, xe_34_153 _ _ (some (vI _)) _ _ _ _ _ _ rfl, xe_34_153 _ _ (some (vR _)) _ _ _ _ _ _ rfl, xe_34_153 _ _ none _ _ _ _ _ _ rfl, ite_self, mm_nL_I, mm_nL_R, mm_nL_0, Option.bind_some, Option.bind_none, bnd_ite, Option.toList_some, Option.toList_none, List.cons_append, List.nil_append, mm_cats_nil, mm_cats_I, mm_cats_L, mm_cats_R, if_true, if_false, true_and, and_true, false_and, and_false, not_true_eq_false, not_false_eq_true, Int.reduceLE, Int.reduceLT, Int.reduceEq, Int.reduceNe, Int.reduceNeg, Int.reduceAdd, Int.reduceSub, Int.reduceMul, Nat.reduceAdd, Nat.reduceLeDiff, true_or, or_true, false_or, or_false, reduceIte, k_45, k_16, k_17, sx_16_0 h.1, g54, A, B, w1, w2, u1]
theorem es_ok : ∀ k : Fin 6, (est_l.getD (5 * k.val) 0 = 35 ∨ est_l.getD (5 * k.val) 0 = 36) ∧ 256 ≤ est_l.getD (5 * k.val + 2) 0 ∧ est_l.getD (5 * k.val + 2) 0 ≤ 2288 ∧ 144 ≤ est_l.getD (5 * k.val + 3) 0 ∧ est_l.getD (5 * k.val + 3) 0 ≤ 1830 ∧ 60 ≤ est_l.getD (5 * k.val + 4) 0 ∧ est_l.getD (5 * k.val + 4) 0 ≤ 123 := by decide +kernel
theorem s_has (v b : Int) (r : MM) (G : MG) : ev 149 0 [some (vI v), some (vI b)] [] r G = some (some (vI (if mm_and (mm_shr v b) 1 = 1 then 1 else 0)), r, G) := by
  by_cases h : mm_and (mm_shr v b) 1 = 1
  · rw [if_pos h]
    simp only [xe_149_0, xe_149_1, xe_149_2, xe_149_3, xe_149_4, xe_149_5, xe_149_6, xe_149_9, xe_149_10, xe_149_13, xe_149_14, ite_self, mm_nL_I, mm_nL_R, mm_nL_0, Option.bind_some, Option.bind_none, bnd_ite, Option.toList_some, Option.toList_none, List.cons_append, List.nil_append, mm_cats_nil, mm_cats_I, mm_cats_L, mm_cats_R, if_true, if_false, true_and, and_true, false_and, and_false, not_true_eq_false, not_false_eq_true, Int.reduceLE, Int.reduceLT, Int.reduceEq, Int.reduceNe, Int.reduceNeg, Int.reduceAdd, Int.reduceSub, Int.reduceMul, Nat.reduceAdd, Nat.reduceLeDiff, true_or, or_true, false_or, or_false, reduceIte, eq_true h]
  · rw [if_neg h]
    simp only [xe_149_0, xe_149_1, xe_149_2, xe_149_3, xe_149_4, xe_149_5, xe_149_6, xe_149_9, xe_149_10, xe_149_13, xe_149_14, ite_self, mm_nL_I, mm_nL_R, mm_nL_0, Option.bind_some, Option.bind_none, bnd_ite, Option.toList_some, Option.toList_none, List.cons_append, List.nil_append, mm_cats_nil, mm_cats_I, mm_cats_L, mm_cats_R, if_true, if_false, true_and, and_true, false_and, and_false, not_true_eq_false, not_false_eq_true, Int.reduceLE, Int.reduceLT, Int.reduceEq, Int.reduceNe, Int.reduceNeg, Int.reduceAdd, Int.reduceSub, Int.reduceMul, Nat.reduceAdd, Nat.reduceLeDiff, true_or, or_true, false_or, or_false, reduceIte, eq_false h]
theorem lp_es (n1 : 128 ≤ n) : ∀ (m : Nat) (i : Nat) (K : Int) (c r : MM) (s : Nat) (y2 y3 y4 v4 : Option MV) (v2 : Int), i + m = 6 → K + m ≤ 5000 → CX n F K c r s →
    ∃ c' r' s', ev 34 154 [some (vR 45), some (vR 16), some (vI v2), some (vI (5 * (i : Int))), v4] [] c (g_1 L) = some (none, c', g_1 L) ∧ ev 176 218 [some (vR 149), some (vI (5 * (i : Int))), y2, y3, y4] [] r (g_1 L) = ev 176 288 [some (vR 149), some (vI 0), y2, y3, y4] [] r' (g_1 L) ∧ CX n F (K + m) c' r' s' ∧ gC c c' ∧ gR r r' := by
  intro m
  induction m with
  | zero =>
    intro i K c r s y2 y3 y4 v4 v2 im k5 h
    have e : i = 6 := by omega
    subst e
    refine ⟨c, r, s, ?_, ?_, by rw [show K + ((0 : Nat) : Int) = K by omega]; exact h, gC.rf c, gR.rf r⟩
    · rw [show (5 * ((6 : Nat) : Int)) = 30 from rfl]
      simp only [xe_34_154, xe_34_155, xe_34_156, xe_34_157, xe_34_160, xe_34_161, xe_34_164, xe_34_165, xe_34_168, xe_34_171, xe_34_172, xe_34_173, xe_34_176, xe_34_179, xe_34_180, xe_34_181, xe_34_182, xe_34_183, xe_34_184, xe_34_185, xe_34_186, xe_34_189, xe_34_190, xe_34_193, xe_34_194, xe_34_197, xe_34_198, xe_34_199, xe_34_200, xe_34_201, xe_34_204, xe_34_205, xe_34_206, xe_34_207, xe_34_208, xe_34_211, xe_34_212, xe_34_213, xe_34_214, xe_34_215, xe_34_218, xe_34_219, xe_34_220, xe_34_221, xe_34_222, xe_34_225 _ _ (some (vI _)) _ _ _ _ _ rfl, xe_34_225 _ _ (some (vR _)) _ _ _ _ _ rfl, xe_34_225 _ _ none _ _ _ _ _ rfl, xe_34_228, xe_34_231, ite_self, mm_nL_I, mm_nL_R, mm_nL_0, Option.bind_some, Option.bind_none, bnd_ite, Option.toList_some, Option.toList_none, List.cons_append, List.nil_append, mm_cats_nil, mm_cats_I, mm_cats_L, mm_cats_R, if_true, if_false, true_and, and_true, false_and, and_false, not_true_eq_false, not_false_eq_true, Int.reduceLE, Int.reduceLT, Int.reduceEq, Int.reduceNe, Int.reduceNeg, Int.reduceAdd, Int.reduceSub, Int.reduceMul, Nat.reduceAdd, Nat.reduceLeDiff, true_or, or_true, false_or, or_false, reduceIte, k_3, l_3, (show w32 35 = 35 from by decide +kernel)]
    · rw [show (5 * ((6 : Nat) : Int)) = 30 from rfl]
      simp only [xe_176_218, xe_176_219, xe_176_220, xe_176_223, xe_176_224, xe_176_227, xe_176_228, xe_176_229, xe_176_232, xe_176_233, xe_176_234, xe_176_237, xe_176_238, xe_176_241, xe_176_242, xe_176_243, xe_176_244, xe_176_245, xe_176_248, xe_176_251, xe_176_252, xe_176_253, xe_176_256, xe_176_257, xe_176_258, xe_176_259, xe_176_260, xe_176_261, xe_176_264, xe_176_265, xe_176_266, xe_176_267, xe_176_268, xe_176_269, xe_176_272, xe_176_273, xe_176_274, xe_176_275, xe_176_276, xe_176_277, xe_176_280 (some (vI _)) _ _ _ _ _ _ _ rfl, xe_176_280 (some (vR _)) _ _ _ _ _ _ _ rfl, xe_176_280 none _ _ _ _ _ _ _ rfl, xe_176_283, xe_176_286, xe_176_287 (some (vI _)) _ _ _ _ _ _ _ _ rfl, xe_176_287 (some (vR _)) _ _ _ _ _ _ _ _ rfl, xe_176_287 none _ _ _ _ _ _ _ _ rfl, ite_self, mm_nL_I, mm_nL_R, mm_nL_0, Option.bind_some, Option.bind_none, bnd_ite, Option.toList_some, Option.toList_none, List.cons_append, List.nil_append, mm_cats_nil, mm_cats_I, mm_cats_L, mm_cats_R, if_true, if_false, true_and, and_true, false_and, and_false, not_true_eq_false, not_false_eq_true, Int.reduceLE, Int.reduceLT, Int.reduceEq, Int.reduceNe, Int.reduceNeg, Int.reduceAdd, Int.reduceSub, Int.reduceMul, Nat.reduceAdd, Nat.reduceLeDiff, true_or, or_true, false_or, or_false, reduceIte, k_149, k_161, l_161, sm_149_25 h.2.1]
  | succ m ih =>
    intro i K c r s y2 y3 y4 v4 v2 im k5 h
    have o := es_ok ⟨i, by omega⟩
    have tC := h.2.2.2.2.2.1.2.2.1
    have tM := h.2.2.2.2.2.1.2.2.2.2.2
    have cc : ∀ k : Nat, k < 5 → c 3 (5 * (i : Int) + (k : Int)) = est_l.getD (5 * i + k) 0 := fun k hk => by
      rw [← tC (5 * i + k) (by show 5 * i + k < 30; omega)]; congr 1
    have rr : ∀ k : Nat, k < 5 → r 161 (5 * (i : Int) + (k : Int)) = est_l.getD (5 * i + k) 0 := fun k hk => by
      rw [← tM (5 * i + k) (by show 5 * i + k < 30; omega)]; congr 1
    have c0 := cc 0 (by omega)
    have c1' := cc 1 (by omega)
    have c2 := cc 2 (by omega)
    have c3 := cc 3 (by omega)
    have c4 := cc 4 (by omega)
    have r0 := rr 0 (by omega)
    have r1' := rr 1 (by omega)
    have r2 := rr 2 (by omega)
    have r3 := rr 3 (by omega)
    have r4 := rr 4 (by omega)
    rw [show 5 * (i : Int) + ((0 : Nat) : Int) = 5 * (i : Int) by omega] at c0 r0
    simp only [Nat.add_zero] at c0 r0 o
    change c 3 (5 * (i : Int) + 1) = _ at c1'
    change c 3 (5 * (i : Int) + 2) = _ at c2
    change c 3 (5 * (i : Int) + 3) = _ at c3
    change c 3 (5 * (i : Int) + 4) = _ at c4
    change r 161 (5 * (i : Int) + 1) = _ at r1'
    change r 161 (5 * (i : Int) + 2) = _ at r2
    change r 161 (5 * (i : Int) + 3) = _ at r3
    change r 161 (5 * (i : Int) + 4) = _ at r4
    clear cc rr tC tM
    generalize est_l.getD (5 * i) 0 = e0 at *
    generalize est_l.getD (5 * i + 1) 0 = e1 at *
    generalize est_l.getD (5 * i + 2) 0 = x at *
    generalize est_l.getD (5 * i + 3) 0 = y at *
    generalize est_l.getD (5 * i + 4) 0 = z at *
    obtain ⟨o0, o1, o2, o3, o4, o5, o6⟩ := o
    have A := xb_at (L := L) (i := e0) h.2.2.1.1 (by omega) (by omega) c rfl rfl
    have B := yb_at (L := L) (i := e0) h.2.2.2.1.1 (by omega) (by omega) r rfl rfl
    have H := s_has (F e0) e1 r (g_1 L)
    have w5 : w32 (5 * (i : Int) + 5) = 5 * (i : Int) + 5 := wi32 (by omega) (by omega)
    have w1 : w32 (5 * (i : Int) + 1) = 5 * (i : Int) + 1 := wi32 (by omega) (by omega)
    have w2 : w32 (5 * (i : Int) + 2) = 5 * (i : Int) + 2 := wi32 (by omega) (by omega)
    have w3 : w32 (5 * (i : Int) + 3) = 5 * (i : Int) + 3 := wi32 (by omega) (by omega)
    have w4 : w32 (5 * (i : Int) + 4) = 5 * (i : Int) + 4 := wi32 (by omega) (by omega)
    have b0 : 0 ≤ 5 * (i : Int) ∧ 5 * (i : Int) < 30 := by omega
    have b1 : 0 ≤ 5 * (i : Int) + 1 ∧ 5 * (i : Int) + 1 < 30 := by omega
    have b2 : 0 ≤ 5 * (i : Int) + 2 ∧ 5 * (i : Int) + 2 < 30 := by omega
    have b3 : 0 ≤ 5 * (i : Int) + 3 ∧ 5 * (i : Int) + 3 < 30 := by omega
    have b4 : 0 ≤ 5 * (i : Int) + 4 ∧ 5 * (i : Int) + 4 < 30 := by omega
    have g1 : ¬ 30 < 5 * (i : Int) + 5 := by omega
    have g2 : ¬ 30 ≤ 5 * (i : Int) := by omega
    have p25 := sm_149_25 h.2.1
    have p0 := sx_16_0 h.1
    have p2 := sx_45_2 h.1
    have nx : 5 * ((i + 1 : Nat) : Int) = 5 * (i : Int) + 5 := by omega
    have nk : K + ((m + 1 : Nat) : Int) = K + 1 + (m : Int) := by omega
    rw [nu_1] at H
    have md := Int.emod_two_eq (mm_shr (F e0) e1)
    rcases md with md | md
    · rw [if_neg (by omega)] at H
      obtain ⟨c', r', s', q1, q2, q3, q4, q5⟩ := ih (i + 1) (K + 1) c r s y2 y3 y4 v4 v2 (by omega) (by omega) (h.g (gC.rf c) (gR.rf r) (h.2.2.2.2.2.2.2.mono (by omega)))
      rw [nx] at q1 q2
      refine ⟨c', r', s', ?_, ?_, by rw [nk]; exact q3, q4, q5⟩
      · rw [← q1, xe_34_154]
        simp only [xe_34_155, xe_34_156, xe_34_157, xe_34_160, xe_34_161, xe_34_164, xe_34_165, xe_34_168, xe_34_171, xe_34_172, xe_34_173, xe_34_176, xe_34_179, xe_34_180, xe_34_181, xe_34_182, xe_34_183, xe_34_184, xe_34_185, xe_34_186, xe_34_189, xe_34_190, xe_34_193, xe_34_194, xe_34_197, xe_34_198, xe_34_199, xe_34_200, xe_34_201, xe_34_204, xe_34_205, xe_34_206, xe_34_207, xe_34_208, xe_34_211, xe_34_212, xe_34_213, xe_34_214, xe_34_215, xe_34_218, xe_34_219, xe_34_220, xe_34_221, xe_34_222, xe_34_225 _ _ (some (vI _)) _ _ _ _ _ rfl, xe_34_225 _ _ (some (vR _)) _ _ _ _ _ rfl, xe_34_225 _ _ none _ _ _ _ _ rfl, xe_34_228, xe_34_231, ite_self, mm_nL_I, mm_nL_R, mm_nL_0, Option.bind_some, Option.bind_none, bnd_ite, Option.toList_some, Option.toList_none, List.cons_append, List.nil_append, mm_cats_nil, mm_cats_I, mm_cats_L, mm_cats_R, if_true, if_false, true_and, and_true, false_and, and_false, not_true_eq_false, not_false_eq_true, Int.reduceLE, Int.reduceLT, Int.reduceEq, Int.reduceNe, Int.reduceNeg, Int.reduceAdd, Int.reduceSub, Int.reduceMul, Nat.reduceAdd, Nat.reduceLeDiff, true_or, or_true, false_or, or_false, reduceIte, k_45, k_16, k_17, k_3, l_3, p0, g1, w5, w1, b0, b1, c0, c1', A, nu_1, md]
      · rw [← q2, xe_176_218]
        simp only [xe_176_219, xe_176_220, xe_176_223, xe_176_224, xe_176_227, xe_176_228, xe_176_229, xe_176_232, xe_176_233, xe_176_234, xe_176_237, xe_176_238, xe_176_241, xe_176_242, xe_176_243, xe_176_244, xe_176_245, xe_176_248, xe_176_251, xe_176_252, xe_176_253, xe_176_256, xe_176_257, xe_176_258, xe_176_259, xe_176_260, xe_176_261, xe_176_264, xe_176_265, xe_176_266, xe_176_267, xe_176_268, xe_176_269, xe_176_272, xe_176_273, xe_176_274, xe_176_275, xe_176_276, xe_176_277, xe_176_280 (some (vI _)) _ _ _ _ _ _ _ rfl, xe_176_280 (some (vR _)) _ _ _ _ _ _ _ rfl, xe_176_280 none _ _ _ _ _ _ _ rfl, xe_176_283, xe_176_286, xe_176_287 (some (vI _)) _ _ _ _ _ _ _ _ rfl, xe_176_287 (some (vR _)) _ _ _ _ _ _ _ _ rfl, xe_176_287 none _ _ _ _ _ _ _ _ rfl, ite_self, mm_nL_I, mm_nL_R, mm_nL_0, Option.bind_some, Option.bind_none, bnd_ite, Option.toList_some, Option.toList_none, List.cons_append, List.nil_append, mm_cats_nil, mm_cats_I, mm_cats_L, mm_cats_R, if_true, if_false, true_and, and_true, false_and, and_false, not_true_eq_false, not_false_eq_true, Int.reduceLE, Int.reduceLT, Int.reduceEq, Int.reduceNe, Int.reduceNeg, Int.reduceAdd, Int.reduceSub, Int.reduceMul, Nat.reduceAdd, Nat.reduceLeDiff, true_or, or_true, false_or, or_false, reduceIte, k_149, k_161, l_161, p25, g2, w5, w1, b0, b1, r0, r1', B, H]
    · rw [if_pos md] at H
      have dk := drk_b (x := x) (y := y) (z := z) o1 o2 o3 o4 o5 o6
      obtain ⟨d1, d', e', s1, u1, u2, u3, u4, u5, u6, u7, u8⟩ := st_pl (L := L) h.1 h.2.1 h.2.2.2.2.2.2.2 h.2.2.2.2.1.2.2.1 h.2.2.2.2.1.2.2.2.2.2 (by omega) x y z 4 (by omega) (by omega) (by omega) (by omega) (by omega) (by omega) (by omega) (by omega) dk.1 dk.2
      obtain ⟨c', r', s', q1, q2, q3, q4, q5⟩ := ih (i + 1) (K + 1) d' e' s1 y2 y3 y4 v4 v2 (by omega) (by omega) (h.g u7 u8 u6)
      rw [nx] at q1 q2
      have nm : ¬ (1 : Int) = 0 := by omega
      refine ⟨c', r', s', ?_, ?_, by rw [nk]; exact q3, u7.tr q4, u8.tr q5⟩
      · rw [← q1, xe_34_154]
        simp only [xe_34_155, xe_34_156, xe_34_157, xe_34_160, xe_34_161, xe_34_164, xe_34_165, xe_34_168, xe_34_171, xe_34_172, xe_34_173, xe_34_176, xe_34_179, xe_34_180, xe_34_181, xe_34_182, xe_34_183, xe_34_184, xe_34_185, xe_34_186, xe_34_189, xe_34_190, xe_34_193, xe_34_194, xe_34_197, xe_34_198, xe_34_199, xe_34_200, xe_34_201, xe_34_204, xe_34_205, xe_34_206, xe_34_207, xe_34_208, xe_34_211, xe_34_212, xe_34_213, xe_34_214, xe_34_215, xe_34_218, xe_34_219, xe_34_220, xe_34_221, xe_34_222, xe_34_225 _ _ (some (vI _)) _ _ _ _ _ rfl, xe_34_225 _ _ (some (vR _)) _ _ _ _ _ rfl, xe_34_225 _ _ none _ _ _ _ _ rfl, xe_34_228, xe_34_231, ite_self, mm_nL_I, mm_nL_R, mm_nL_0, Option.bind_some, Option.bind_none, bnd_ite, Option.toList_some, Option.toList_none, List.cons_append, List.nil_append, mm_cats_nil, mm_cats_I, mm_cats_L, mm_cats_R, if_true, if_false, true_and, and_true, false_and, and_false, not_true_eq_false, not_false_eq_true, Int.reduceLE, Int.reduceLT, Int.reduceEq, Int.reduceNe, Int.reduceNeg, Int.reduceAdd, Int.reduceSub, Int.reduceMul, Nat.reduceAdd, Nat.reduceLeDiff, true_or, or_true, false_or, or_false, reduceIte, k_45, k_16, k_17, k_3, l_3, k_48, p0, p2, g1, w5, w1, w2, w3, w4, b0, b1, b2, b3, b4, c0, c1', c2, c3, c4, A, nu_1, md, u1, u4]
      · rw [← q2, xe_176_218]
        simp only [xe_176_219, xe_176_220, xe_176_223, xe_176_224, xe_176_227, xe_176_228, xe_176_229, xe_176_232, xe_176_233, xe_176_234, xe_176_237, xe_176_238, xe_176_241, xe_176_242, xe_176_243, xe_176_244, xe_176_245, xe_176_248, xe_176_251, xe_176_252, xe_176_253, xe_176_256, xe_176_257, xe_176_258, xe_176_259, xe_176_260, xe_176_261, xe_176_264, xe_176_265, xe_176_266, xe_176_267, xe_176_268, xe_176_269, xe_176_272, xe_176_273, xe_176_274, xe_176_275, xe_176_276, xe_176_277, xe_176_280 (some (vI _)) _ _ _ _ _ _ _ rfl, xe_176_280 (some (vR _)) _ _ _ _ _ _ _ rfl, xe_176_280 none _ _ _ _ _ _ _ rfl, xe_176_283, xe_176_286, xe_176_287 (some (vI _)) _ _ _ _ _ _ _ _ rfl, xe_176_287 (some (vR _)) _ _ _ _ _ _ _ _ rfl, xe_176_287 none _ _ _ _ _ _ _ _ rfl, ite_self, mm_nL_I, mm_nL_R, mm_nL_0, Option.bind_some, Option.bind_none, bnd_ite, Option.toList_some, Option.toList_none, List.cons_append, List.nil_append, mm_cats_nil, mm_cats_I, mm_cats_L, mm_cats_R, if_true, if_false, true_and, and_true, false_and, and_false, not_true_eq_false, not_false_eq_true, Int.reduceLE, Int.reduceLT, Int.reduceEq, Int.reduceNe, Int.reduceNeg, Int.reduceAdd, Int.reduceSub, Int.reduceMul, Nat.reduceAdd, Nat.reduceLeDiff, true_or, or_true, false_or, or_false, reduceIte, k_149, k_161, l_161, p25, g2, w5, w1, w2, w3, w4, b0, b1, b2, b3, b4, r0, r1', r2, r3, r4, B, H, u5]
theorem lp_cd : ∀ (m : Nat) (i K : Int) (c r : MM) (s : Nat) (y2 y3 y4 v4 : Option MV) (v2 : Int), 0 ≤ i → i + m = c 16 8 → K + m ≤ 5000 → CX n F K c r s →
    ∃ c' r' s', ev 34 90 [some (vR 45), some (vR 16), some (vI v2), some (vI i), v4] [] c (g_1 L) = ev 34 117 [some (vR 45), some (vR 16), some (vI v2), some (vI 38), v4] [] c' (g_1 L) ∧ ev 176 53 [some (vR 149), some (vI i), y2, y3, y4] [] r (g_1 L) = ev 176 80 [some (vR 149), some (vI 38), y2, y3, y4] [] r' (g_1 L) ∧ CX n F (K + m) c' r' s' ∧ gC c c' ∧ gR r r' := by
  intro m
  induction m with
  | zero =>
    intro i K c r s y2 y3 y4 v4 v2 i0 im k5 h
    have e : c 16 8 ≤ i := by omega
    have e' : r 149 17 ≤ i := by rw [← h.2.2.2.2.1.2.2.2.1.1]; exact e
    refine ⟨c, r, s, ?_, ?_, by rw [show K + ((0 : Nat) : Int) = K by omega]; exact h, gC.rf c, gR.rf r⟩
    · simp only [xe_34_90, xe_34_91, xe_34_92, xe_34_95, xe_34_98, xe_34_99, xe_34_100, xe_34_101, xe_34_102, xe_34_105, xe_34_108 _ _ (some (vI _)) _ _ _ _ _ rfl, xe_34_108 _ _ (some (vR _)) _ _ _ _ _ rfl, xe_34_108 _ _ none _ _ _ _ _ rfl, xe_34_111, xe_34_114, xe_34_116 _ _ (some (vI _)) _ _ _ _ _ _ rfl, xe_34_116 _ _ (some (vR _)) _ _ _ _ _ _ rfl, xe_34_116 _ _ none _ _ _ _ _ _ rfl, ite_self, mm_nL_I, mm_nL_R, mm_nL_0, Option.bind_some, Option.bind_none, bnd_ite, Option.toList_some, Option.toList_none, List.cons_append, List.nil_append, mm_cats_nil, mm_cats_I, mm_cats_L, mm_cats_R, if_true, if_false, true_and, and_true, false_and, and_false, not_true_eq_false, not_false_eq_true, Int.reduceLE, Int.reduceLT, Int.reduceEq, Int.reduceNe, Int.reduceNeg, Int.reduceAdd, Int.reduceSub, Int.reduceMul, Nat.reduceAdd, Nat.reduceLeDiff, true_or, or_true, false_or, or_false, reduceIte, k_16, e]
    · simp only [xe_176_53, xe_176_54, xe_176_55, xe_176_58, xe_176_61, xe_176_62, xe_176_63, xe_176_66, xe_176_67, xe_176_68, xe_176_71 (some (vI _)) _ _ _ _ _ _ _ rfl, xe_176_71 (some (vR _)) _ _ _ _ _ _ _ rfl, xe_176_71 none _ _ _ _ _ _ _ rfl, xe_176_74, xe_176_77, xe_176_79 (some (vI _)) _ _ _ _ _ _ _ _ rfl, xe_176_79 (some (vR _)) _ _ _ _ _ _ _ _ rfl, xe_176_79 none _ _ _ _ _ _ _ _ rfl, ite_self, mm_nL_I, mm_nL_R, mm_nL_0, Option.bind_some, Option.bind_none, bnd_ite, Option.toList_some, Option.toList_none, List.cons_append, List.nil_append, mm_cats_nil, mm_cats_I, mm_cats_L, mm_cats_R, if_true, if_false, true_and, and_true, false_and, and_false, not_true_eq_false, not_false_eq_true, Int.reduceLE, Int.reduceLT, Int.reduceEq, Int.reduceNe, Int.reduceNeg, Int.reduceAdd, Int.reduceSub, Int.reduceMul, Nat.reduceAdd, Nat.reduceLeDiff, true_or, or_true, false_or, or_false, reduceIte, k_149, e']
  | succ m ih =>
    intro i K c r s y2 y3 y4 v4 v2 i0 im k5 h
    obtain ⟨q1, q2, q3⟩ := h.2.2.2.2.1.2.2.2.1
    have q4 := q3 i i0 (by omega)
    have l8 := h.2.2.2.2.2.2.1.2.1
    obtain ⟨c1, r1, s1, u1, u2, u3, u4, u5⟩ := st_cd (L := L) h.1 h.2.1 h.2.2.2.2.2.2.2 h.2.2.2.2.1.2.2.1 h.2.2.2.2.1.2.2.2.2.2 (by omega) h.2.2.2.2.2.1 (c 20 i)
    obtain ⟨c', r', s', w1, w2, w3, w4, w5⟩ := ih (i + 1) (K + 1) c1 r1 s1 y2 y3 y4 v4 v2 (by omega) (by rw [u4.1 16 (by omega)]; omega) (by omega) (h.g u4 u5 u3)
    have a1 : ¬ c 16 8 ≤ i := by omega
    have a2 : ¬ r 149 17 ≤ i := by omega
    have a3 : ¬ i < 0 := by omega
    have a4 : ¬ 384 ≤ i := by omega
    have a5 : 0 ≤ i ∧ i < 384 := by omega
    have a7 : i < 512 := by omega
    have a6 : w32 (i + 1) = i + 1 := wi32 (by omega) (by omega)
    have C : ev 53 0 [some (vR 16), some (vI i)] [] c (g_1 L) = some (some (vI (c 20 i)), c, g_1 L) := by
      simp only [xe_53_0, xe_53_1, xe_53_4, xe_53_5, xe_53_6, xe_53_9, xe_53_12, xe_53_13, xe_53_14, xe_53_17, xe_53_18, xe_53_21, xe_53_22, xe_53_25, xe_53_26, xe_53_27, xe_53_30, xe_53_31, ite_self, mm_nL_I, mm_nL_R, mm_nL_0, Option.bind_some, Option.bind_none, bnd_ite, Option.toList_some, Option.toList_none, List.cons_append, List.nil_append, mm_cats_nil, mm_cats_I, mm_cats_L, mm_cats_R, if_true, if_false, true_and, and_true, false_and, and_false, not_true_eq_false, not_false_eq_true, Int.reduceLE, Int.reduceLT, Int.reduceEq, Int.reduceNe, Int.reduceNeg, Int.reduceAdd, Int.reduceSub, Int.reduceMul, Nat.reduceAdd, Nat.reduceLeDiff, true_or, or_true, false_or, or_false, reduceIte, k_16, k_20, l_20, sx_16_2 h.1, a1, a3, a4, a5]
    refine ⟨c', r', s', ?_, ?_, by rw [show K + ((m + 1 : Nat) : Int) = K + 1 + (m : Int) by omega]; exact w3, u4.tr w4, u5.tr w5⟩
    · rw [← w1, xe_34_90]
      simp only [xe_34_91, xe_34_92, xe_34_95, xe_34_98, xe_34_99, xe_34_100, xe_34_101, xe_34_102, xe_34_105, xe_34_108 _ _ (some (vI _)) _ _ _ _ _ rfl, xe_34_108 _ _ (some (vR _)) _ _ _ _ _ rfl, xe_34_108 _ _ none _ _ _ _ _ rfl, xe_34_111, xe_34_114, xe_34_116 _ _ (some (vI _)) _ _ _ _ _ _ rfl, xe_34_116 _ _ (some (vR _)) _ _ _ _ _ _ rfl, xe_34_116 _ _ none _ _ _ _ _ _ rfl, ite_self, mm_nL_I, mm_nL_R, mm_nL_0, Option.bind_some, Option.bind_none, bnd_ite, Option.toList_some, Option.toList_none, List.cons_append, List.nil_append, mm_cats_nil, mm_cats_I, mm_cats_L, mm_cats_R, if_true, if_false, true_and, and_true, false_and, and_false, not_true_eq_false, not_false_eq_true, Int.reduceLE, Int.reduceLT, Int.reduceEq, Int.reduceNe, Int.reduceNeg, Int.reduceAdd, Int.reduceSub, Int.reduceMul, Nat.reduceAdd, Nat.reduceLeDiff, true_or, or_true, false_or, or_false, reduceIte, k_45, k_16, a1, a6, C, u1]
    · rw [← w2, xe_176_53]
      rw [q4.1] at u2
      simp only [xe_176_54, xe_176_55, xe_176_58, xe_176_61, xe_176_62, xe_176_63, xe_176_66, xe_176_67, xe_176_68, xe_176_71 (some (vI _)) _ _ _ _ _ _ _ rfl, xe_176_71 (some (vR _)) _ _ _ _ _ _ _ rfl, xe_176_71 none _ _ _ _ _ _ _ rfl, xe_176_74, xe_176_77, xe_176_79 (some (vI _)) _ _ _ _ _ _ _ _ rfl, xe_176_79 (some (vR _)) _ _ _ _ _ _ _ _ rfl, xe_176_79 none _ _ _ _ _ _ _ _ rfl, ite_self, mm_nL_I, mm_nL_R, mm_nL_0, Option.bind_some, Option.bind_none, bnd_ite, Option.toList_some, Option.toList_none, List.cons_append, List.nil_append, mm_cats_nil, mm_cats_I, mm_cats_L, mm_cats_R, if_true, if_false, true_and, and_true, false_and, and_false, not_true_eq_false, not_false_eq_true, Int.reduceLE, Int.reduceLT, Int.reduceEq, Int.reduceNe, Int.reduceNeg, Int.reduceAdd, Int.reduceSub, Int.reduceMul, Nat.reduceAdd, Nat.reduceLeDiff, true_or, or_true, false_or, or_false, reduceIte, k_149, k_156, l_156, sm_149_12 h.2.1, a2, a5, a6, a7, u2]
end S5
