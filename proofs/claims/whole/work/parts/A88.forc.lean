/-! forged -/
section FC
variable {L : Int} {c r : MM}
/-- the relations that a forged block needs, of the memory that the reference works on -/
def RF (c r : MM) : Prop := SM r ∧ Rscr c r ∧ Rmod c r
theorem fr_1 (h : RF c r) (i : Int) (i0 : 0 ≤ i) (i1 : i < 4) (w : Int → Int) (y2 y3 : Option MV) : ∃ w' z2 z3, ev 187 100 [some (vR 149), some (vI i), y2, y3] [] (rfo r (G1 (c 18) (c 45 4) (c 16 9) (c 16 12) (fun d => tg (c (c 46 d + 1))) (r 154) (c 22) i) w) (g_1 L) = ev 187 100 [some (vR 149), some (vI (i + 1)), z2, z3] [] (rfo r (G1 (c 18) (c 45 4) (c 16 9) (c 16 12) (fun d => tg (c (c 46 d + 1))) (r 154) (c 22) (i + 1)) w') (g_1 L) := by
  obtain ⟨hM, hS, hR⟩ := h
  obtain ⟨_, _, _, _, _, _, ⟨n1, n2, n3, _⟩, ⟨g1, g2, g3⟩, _⟩ := hS
  obtain ⟨m1, m2, m3, m4, m6⟩ := hR
  have g : ¬ 4 ≤ i := by omega
  have s : w32 (i + 1) = i + 1 := wi32 (by omega) (by omega)
  have s18 : w32 (18 * i) = 18 * i := wi32 (by omega) (by omega)
  have s54 : w32 (54 + 18 * i) = 54 + 18 * i := wi32 (by omega) (by omega)
  have b9 : ∀ f w, rfo r f w 149 = r 149 := fun f w => rfo_b _ _ _ _ (by omega) (by omega)
  have s1 : w32 (r 149 23 + 1) = r 149 23 + 1 := wi32 (by omega) (by omega)
  by_cases a : i < c 45 4
  · obtain ⟨u, o1, u0, u1, o2, o3, o4, o5⟩ := m6 i i0 a
    have E : ∀ f, ev 184 0 [some (vR 149), some (vI i)] [] (rfo r f w) (g_1 L) = some (none, rfo r f (tg (c (50 + 2 * u))), g_1 L) := fun f => fo_lay hM i f w _ _ i0 (by omega) o2 (by omega) o4 o5
    have mk := mok_n o5
    have RM : ∀ f, ev 197 0 [some (vR 149)] [] (rfo r f (tg (c (50 + 2 * u)))) (g_1 L) = some (some (vI 1), rfo r f (tg (c (50 + 2 * u))), g_1 L) := fun f => by
      have := s_room L (rfo r f (tg (c (50 + 2 * u)))) (by rw [b9]; exact sm_149_29 hM)
      rw [fitv_cg (fun j j0 j1 => rfo_w r f (tg (c (50 + 2 * u))) j j0 j1), mk.2, if_pos rfl] at this
      exact this
    refine ⟨tg (c (50 + 2 * u)), some (vI (54 + 18 * i)), some (vI 18), ?_⟩
    rw [← G1_t (c 18) (c 45 4) (c 16 9) (c 16 12) (fun d => tg (c (c 46 d + 1))) (r 154) (c 22) i i0 a]
    generalize G1 (c 18) (c 45 4) (c 16 9) (c 16 12) (fun d => tg (c (c 46 d + 1))) (r 154) (c 22) i = f
    show _ = ev 187 100 [some (vR 149), some (vI (i + 1)), some (vI (54 + 18 * i)), some (vI 18)] [] (rfo r (bk f i (tg (c (c 46 i + 1))) 0) (tg (c (50 + 2 * u)))) (g_1 L)
    rw [o1, show 49 + 2 * u + 1 = 50 + 2 * u by omega]
    have I := lp_fb (L := L) hM i i0 i1 (tg (c (50 + 2 * u))) mk.1 mk.2 i 18 0 f (by omega) (by omega)
    have a' : ¬ r 149 23 ≤ i := by omega
    rw [xe_187_100]
    simp only [xe_187_101, xe_187_102, xe_187_105, xe_187_107, xe_187_109, xe_187_110, xe_187_111, xe_187_112 _ (some (vI _)) _ _ _ _ _ _ rfl, xe_187_112 _ (some (vR _)) _ _ _ _ _ _ rfl, xe_187_112 _ none _ _ _ _ _ _ rfl, xe_187_113, xe_187_114, xe_187_115, xe_187_118, xe_187_121, xe_187_122, xe_187_123, xe_187_126, xe_187_127, xe_187_130, xe_187_133, xe_187_134, xe_187_135, xe_187_136 _ _ (some (vI _)) _ _ _ _ _ rfl, xe_187_136 _ _ (some (vR _)) _ _ _ _ _ rfl, xe_187_136 _ _ none _ _ _ _ _ rfl, xe_187_165, xe_187_166, xe_187_167, xe_187_170, xe_187_173, xe_187_174, xe_187_177, xe_187_180, xe_187_181, xe_187_182, xe_187_185, xe_187_188, xe_187_189, xe_187_190, xe_187_193, xe_187_194, xe_187_195, xe_187_198, xe_187_199, xe_187_202, xe_187_205, xe_187_206, xe_187_207, ite_self, mm_nL_I, mm_nL_R, mm_nL_0, Option.bind_some, Option.bind_none, bnd_ite, Option.toList_some, Option.toList_none, List.cons_append, List.nil_append, mm_cats_nil, mm_cats_I, mm_cats_L, mm_cats_R, if_true, if_false, true_and, and_true, false_and, and_false, not_true_eq_false, not_false_eq_true, Int.reduceLE, Int.reduceLT, Int.reduceEq, Int.reduceNe, Int.reduceNeg, Int.reduceAdd, Int.reduceSub, Int.reduceMul, Nat.reduceAdd, Nat.reduceLeDiff, true_or, or_true, false_or, or_false, reduceIte, k_149, g, s18, s54, b9, a', E, RM, I]
    simp only [xe_187_210 (some (vI _)) _ _ _ _ _ _ rfl, xe_187_210 (some (vR _)) _ _ _ _ _ _ rfl, xe_187_210 none _ _ _ _ _ _ rfl, xe_187_213, ite_self, mm_nL_I, mm_nL_R, mm_nL_0, Option.bind_some, Option.bind_none, bnd_ite, Option.toList_some, Option.toList_none, List.cons_append, List.nil_append, mm_cats_nil, mm_cats_I, mm_cats_L, mm_cats_R, if_true, if_false, true_and, and_true, false_and, and_false, not_true_eq_false, not_false_eq_true, Int.reduceLE, Int.reduceLT, Int.reduceEq, Int.reduceNe, Int.reduceNeg, Int.reduceAdd, Int.reduceSub, Int.reduceMul, Nat.reduceAdd, Nat.reduceLeDiff, true_or, or_true, false_or, or_false, reduceIte, s]
  · have a' : r 149 23 ≤ i := by omega
    by_cases e : i = c 45 4
    · have e' : i = r 149 23 := by omega
      by_cases l : 0 < c 16 9
      · have N := fun f => s_fn (L := L) hM i i0 i1 f w (by omega)
        have l' : ¬ r 149 14 ≤ 0 := by omega
        refine ⟨w, some (vI (54 + 18 * i)), y3, ?_⟩
        have G := G1_n (c 18) (c 45 4) (c 16 9) (c 16 12) (fun d => tg (c (c 46 d + 1))) (r 154) (c 22) m2 l
        rw [← e, n1] at G
        rw [n1, ← e, ← G]
        rw [xe_187_100]
        simp only [xe_187_101, xe_187_102, xe_187_105, xe_187_107, xe_187_109, xe_187_110, xe_187_111, xe_187_112 _ (some (vI _)) _ _ _ _ _ _ rfl, xe_187_112 _ (some (vR _)) _ _ _ _ _ _ rfl, xe_187_112 _ none _ _ _ _ _ _ rfl, xe_187_113, xe_187_114, xe_187_115, xe_187_118, xe_187_121, xe_187_122, xe_187_123, xe_187_126, xe_187_127, xe_187_130, xe_187_133, xe_187_134, xe_187_135, xe_187_136 _ _ (some (vI _)) _ _ _ _ _ rfl, xe_187_136 _ _ (some (vR _)) _ _ _ _ _ rfl, xe_187_136 _ _ none _ _ _ _ _ rfl, xe_187_165, xe_187_166, xe_187_167, xe_187_170, xe_187_173, xe_187_174, xe_187_177, xe_187_180, xe_187_181, xe_187_182, xe_187_185, xe_187_188, xe_187_189, xe_187_190, xe_187_193, xe_187_194, xe_187_195, xe_187_198, xe_187_199, xe_187_202, xe_187_205, xe_187_206, xe_187_207, xe_187_210 (some (vI _)) _ _ _ _ _ _ rfl, xe_187_210 (some (vR _)) _ _ _ _ _ _ rfl, xe_187_210 none _ _ _ _ _ _ rfl, xe_187_213, ite_self, mm_nL_I, mm_nL_R, mm_nL_0, Option.bind_some, Option.bind_none, bnd_ite, Option.toList_some, Option.toList_none, List.cons_append, List.nil_append, mm_cats_nil, mm_cats_I, mm_cats_L, mm_cats_R, if_true, if_false, true_and, and_true, false_and, and_false, not_true_eq_false, not_false_eq_true, Int.reduceLE, Int.reduceLT, Int.reduceEq, Int.reduceNe, Int.reduceNeg, Int.reduceAdd, Int.reduceSub, Int.reduceMul, Nat.reduceAdd, Nat.reduceLeDiff, true_or, or_true, false_or, or_false, reduceIte, k_149, g, s, s18, s54, b9, a', eq_true e', l', N]
      · have l' : r 149 14 ≤ 0 := by omega
        refine ⟨w, some (vI (54 + 18 * i)), y3, ?_⟩
        have G := G1_0 (c 18) (c 45 4) (c 16 9) (c 16 12) (fun d => tg (c (c 46 d + 1))) (r 154) (c 22) i i0 (fun k _ _ => by rw [e]; exact fgd_n0 _ _ _ _ _ _ k l)
        rw [← G, xe_187_100]
        simp only [xe_187_101, xe_187_102, xe_187_105, xe_187_107, xe_187_109, xe_187_110, xe_187_111, xe_187_112 _ (some (vI _)) _ _ _ _ _ _ rfl, xe_187_112 _ (some (vR _)) _ _ _ _ _ _ rfl, xe_187_112 _ none _ _ _ _ _ _ rfl, xe_187_113, xe_187_114, xe_187_115, xe_187_118, xe_187_121, xe_187_122, xe_187_123, xe_187_126, xe_187_127, xe_187_130, xe_187_133, xe_187_134, xe_187_135, xe_187_136 _ _ (some (vI _)) _ _ _ _ _ rfl, xe_187_136 _ _ (some (vR _)) _ _ _ _ _ rfl, xe_187_136 _ _ none _ _ _ _ _ rfl, xe_187_165, xe_187_166, xe_187_167, xe_187_170, xe_187_173, xe_187_174, xe_187_177, xe_187_180, xe_187_181, xe_187_182, xe_187_185, xe_187_188, xe_187_189, xe_187_190, xe_187_193, xe_187_194, xe_187_195, xe_187_198, xe_187_199, xe_187_202, xe_187_205, xe_187_206, xe_187_207, xe_187_210 (some (vI _)) _ _ _ _ _ _ rfl, xe_187_210 (some (vR _)) _ _ _ _ _ _ rfl, xe_187_210 none _ _ _ _ _ _ rfl, xe_187_213, ite_self, mm_nL_I, mm_nL_R, mm_nL_0, Option.bind_some, Option.bind_none, bnd_ite, Option.toList_some, Option.toList_none, List.cons_append, List.nil_append, mm_cats_nil, mm_cats_I, mm_cats_L, mm_cats_R, if_true, if_false, true_and, and_true, false_and, and_false, not_true_eq_false, not_false_eq_true, Int.reduceLE, Int.reduceLT, Int.reduceEq, Int.reduceNe, Int.reduceNeg, Int.reduceAdd, Int.reduceSub, Int.reduceMul, Nat.reduceAdd, Nat.reduceLeDiff, true_or, or_true, false_or, or_false, reduceIte, k_149, g, s, s18, s54, b9, a', eq_true e', l']
    · have e' : ¬ i = r 149 23 := by omega
      by_cases q : i = c 45 4 + 1
      · have q' : i = r 149 23 + 1 := by omega
        by_cases z : c 16 12 = 1
        · obtain ⟨x1, x2, x3⟩ := g3 z
          have N := fun f => s_fr (L := L) hM i i0 i1 f w (c 22) x2 x3 (x1 4 (by omega) (by omega)).1 (x1 4 (by omega) (by omega)).2
          have z' : ¬ r 149 18 = 0 := by omega
          refine ⟨w, some (vI (54 + 18 * i)), y3, ?_⟩
          have G := G1_r (c 18) (c 45 4) (c 16 9) (c 16 12) (fun d => tg (c (c 46 d + 1))) (r 154) (c 22) m2 z
          rw [← q] at G
          rw [← G, xe_187_100]
          simp only [xe_187_101, xe_187_102, xe_187_105, xe_187_107, xe_187_109, xe_187_110, xe_187_111, xe_187_112 _ (some (vI _)) _ _ _ _ _ _ rfl, xe_187_112 _ (some (vR _)) _ _ _ _ _ _ rfl, xe_187_112 _ none _ _ _ _ _ _ rfl, xe_187_113, xe_187_114, xe_187_115, xe_187_118, xe_187_121, xe_187_122, xe_187_123, xe_187_126, xe_187_127, xe_187_130, xe_187_133, xe_187_134, xe_187_135, xe_187_136 _ _ (some (vI _)) _ _ _ _ _ rfl, xe_187_136 _ _ (some (vR _)) _ _ _ _ _ rfl, xe_187_136 _ _ none _ _ _ _ _ rfl, xe_187_165, xe_187_166, xe_187_167, xe_187_170, xe_187_173, xe_187_174, xe_187_177, xe_187_180, xe_187_181, xe_187_182, xe_187_185, xe_187_188, xe_187_189, xe_187_190, xe_187_193, xe_187_194, xe_187_195, xe_187_198, xe_187_199, xe_187_202, xe_187_205, xe_187_206, xe_187_207, xe_187_210 (some (vI _)) _ _ _ _ _ _ rfl, xe_187_210 (some (vR _)) _ _ _ _ _ _ rfl, xe_187_210 none _ _ _ _ _ _ rfl, xe_187_213, ite_self, mm_nL_I, mm_nL_R, mm_nL_0, Option.bind_some, Option.bind_none, bnd_ite, Option.toList_some, Option.toList_none, List.cons_append, List.nil_append, mm_cats_nil, mm_cats_I, mm_cats_L, mm_cats_R, if_true, if_false, true_and, and_true, false_and, and_false, not_true_eq_false, not_false_eq_true, Int.reduceLE, Int.reduceLT, Int.reduceEq, Int.reduceNe, Int.reduceNeg, Int.reduceAdd, Int.reduceSub, Int.reduceMul, Nat.reduceAdd, Nat.reduceLeDiff, true_or, or_true, false_or, or_false, reduceIte, k_149, g, s, s18, s54, s1, b9, a', e', eq_true q', z', N]
        · have z' : r 149 18 = 0 := by omega
          refine ⟨w, some (vI (54 + 18 * i)), y3, ?_⟩
          have G := G1_0 (c 18) (c 45 4) (c 16 9) (c 16 12) (fun d => tg (c (c 46 d + 1))) (r 154) (c 22) i i0 (fun k _ _ => fgd_0 _ _ _ _ _ _ i k (by omega) (fun p => z p.2))
          rw [← G, xe_187_100]
          simp only [xe_187_101, xe_187_102, xe_187_105, xe_187_107, xe_187_109, xe_187_110, xe_187_111, xe_187_112 _ (some (vI _)) _ _ _ _ _ _ rfl, xe_187_112 _ (some (vR _)) _ _ _ _ _ _ rfl, xe_187_112 _ none _ _ _ _ _ _ rfl, xe_187_113, xe_187_114, xe_187_115, xe_187_118, xe_187_121, xe_187_122, xe_187_123, xe_187_126, xe_187_127, xe_187_130, xe_187_133, xe_187_134, xe_187_135, xe_187_136 _ _ (some (vI _)) _ _ _ _ _ rfl, xe_187_136 _ _ (some (vR _)) _ _ _ _ _ rfl, xe_187_136 _ _ none _ _ _ _ _ rfl, xe_187_165, xe_187_166, xe_187_167, xe_187_170, xe_187_173, xe_187_174, xe_187_177, xe_187_180, xe_187_181, xe_187_182, xe_187_185, xe_187_188, xe_187_189, xe_187_190, xe_187_193, xe_187_194, xe_187_195, xe_187_198, xe_187_199, xe_187_202, xe_187_205, xe_187_206, xe_187_207, xe_187_210 (some (vI _)) _ _ _ _ _ _ rfl, xe_187_210 (some (vR _)) _ _ _ _ _ _ rfl, xe_187_210 none _ _ _ _ _ _ rfl, xe_187_213, ite_self, mm_nL_I, mm_nL_R, mm_nL_0, Option.bind_some, Option.bind_none, bnd_ite, Option.toList_some, Option.toList_none, List.cons_append, List.nil_append, mm_cats_nil, mm_cats_I, mm_cats_L, mm_cats_R, if_true, if_false, true_and, and_true, false_and, and_false, not_true_eq_false, not_false_eq_true, Int.reduceLE, Int.reduceLT, Int.reduceEq, Int.reduceNe, Int.reduceNeg, Int.reduceAdd, Int.reduceSub, Int.reduceMul, Nat.reduceAdd, Nat.reduceLeDiff, true_or, or_true, false_or, or_false, reduceIte, k_149, g, s, s18, s54, s1, b9, a', e', eq_true q', z']
      · have q' : ¬ i = r 149 23 + 1 := by omega
        refine ⟨w, some (vI (54 + 18 * i)), y3, ?_⟩
        have G := G1_0 (c 18) (c 45 4) (c 16 9) (c 16 12) (fun d => tg (c (c 46 d + 1))) (r 154) (c 22) i i0 (fun k _ _ => fgd_0 _ _ _ _ _ _ i k (by omega) (fun p => q p.1))
        rw [← G, xe_187_100]
        simp only [xe_187_101, xe_187_102, xe_187_105, xe_187_107, xe_187_109, xe_187_110, xe_187_111, xe_187_112 _ (some (vI _)) _ _ _ _ _ _ rfl, xe_187_112 _ (some (vR _)) _ _ _ _ _ _ rfl, xe_187_112 _ none _ _ _ _ _ _ rfl, xe_187_113, xe_187_114, xe_187_115, xe_187_118, xe_187_121, xe_187_122, xe_187_123, xe_187_126, xe_187_127, xe_187_130, xe_187_133, xe_187_134, xe_187_135, xe_187_136 _ _ (some (vI _)) _ _ _ _ _ rfl, xe_187_136 _ _ (some (vR _)) _ _ _ _ _ rfl, xe_187_136 _ _ none _ _ _ _ _ rfl, xe_187_165, xe_187_166, xe_187_167, xe_187_170, xe_187_173, xe_187_174, xe_187_177, xe_187_180, xe_187_181, xe_187_182, xe_187_185, xe_187_188, xe_187_189, xe_187_190, xe_187_193, xe_187_194, xe_187_195, xe_187_198, xe_187_199, xe_187_202, xe_187_205, xe_187_206, xe_187_207, xe_187_210 (some (vI _)) _ _ _ _ _ _ rfl, xe_187_210 (some (vR _)) _ _ _ _ _ _ rfl, xe_187_210 none _ _ _ _ _ _ rfl, xe_187_213, ite_self, mm_nL_I, mm_nL_R, mm_nL_0, Option.bind_some, Option.bind_none, bnd_ite, Option.toList_some, Option.toList_none, List.cons_append, List.nil_append, mm_cats_nil, mm_cats_I, mm_cats_L, mm_cats_R, if_true, if_false, true_and, and_true, false_and, and_false, not_true_eq_false, not_false_eq_true, Int.reduceLE, Int.reduceLT, Int.reduceEq, Int.reduceNe, Int.reduceNeg, Int.reduceAdd, Int.reduceSub, Int.reduceMul, Nat.reduceAdd, Nat.reduceLeDiff, true_or, or_true, false_or, or_false, reduceIte, k_149, g, s, s18, s54, s1, b9, a', e', q']
theorem lp_fs (hM : SM r) (f w : Int → Int) (y3 : Option MV) (hb : ∀ j, 0 ≤ j → j < 128 → 0 ≤ f j ∧ f j < 256) : ∀ (m i : Nat), i + m = 127 → ev 187 220 [some (vR 149), some (vI (sm f 0 i)), some (vI (i : Int)), y3] [] (rfo r f w) (g_1 L) = ev 187 241 [some (vR 149), some (vI (sm f 0 127)), some (vI 127), y3] [] (rfo r f w) (g_1 L) := by
  intro m
  induction m with
  | zero =>
    intro i im
    have e : i = 127 := by omega
    subst e
    rw [show (((127 : Nat) : Int)) = 127 from rfl, xe_187_220]
    simp only [xe_187_221, xe_187_223, xe_187_226, xe_187_227, xe_187_228, xe_187_231, xe_187_232, xe_187_233, xe_187_234 (some (vI _)) _ _ _ _ _ _ _ rfl, xe_187_234 (some (vR _)) _ _ _ _ _ _ _ rfl, xe_187_234 none _ _ _ _ _ _ _ rfl, xe_187_235 _ (some (vI _)) _ _ _ _ _ rfl, xe_187_235 _ (some (vR _)) _ _ _ _ _ rfl, xe_187_235 _ none _ _ _ _ _ rfl, xe_187_238, ite_self, mm_nL_I, mm_nL_R, mm_nL_0, Option.bind_some, Option.bind_none, bnd_ite, Option.toList_some, Option.toList_none, List.cons_append, List.nil_append, mm_cats_nil, mm_cats_I, mm_cats_L, mm_cats_R, if_true, if_false, true_and, and_true, false_and, and_false, not_true_eq_false, not_false_eq_true, Int.reduceLE, Int.reduceLT, Int.reduceEq, Int.reduceNe, Int.reduceNeg, Int.reduceAdd, Int.reduceSub, Int.reduceMul, Nat.reduceAdd, Nat.reduceLeDiff, true_or, or_true, false_or, or_false, reduceIte]
  | succ m ih =>
    intro i im
    have I := ih (i + 1) (by omega)
    rw [show (((i + 1 : Nat) : Int)) = (i : Int) + 1 by omega, show sm f 0 (i + 1) = sm f 0 i + f (0 + (i : Int)) from rfl, Int.zero_add] at I
    have bd := sm_bd f 0 i (fun j j0 j1 => by rw [Int.zero_add]; exact hb j j0 (by omega))
    have b1 := hb (i : Int) (by omega) (by omega)
    have v := rfo_v r f w (i : Int) (by omega) (by omega)
    have g : ¬ 127 ≤ (i : Int) := by omega
    have a : 0 ≤ (i : Int) ∧ (i : Int) < 128 := by omega
    have s : w32 ((i : Int) + 1) = (i : Int) + 1 := wi32 (by omega) (by omega)
    have s2 : w32 (sm f 0 i + f (i : Int)) = sm f 0 i + f (i : Int) := wi32 (by omega) (by omega)
    have b9 : rfo r f w 149 = r 149 := rfo_b _ _ _ _ (by omega) (by omega)
    rw [← I, xe_187_220]
    simp only [xe_187_221, xe_187_223, xe_187_226, xe_187_227, xe_187_228, xe_187_231, xe_187_232, xe_187_233, xe_187_234 (some (vI _)) _ _ _ _ _ _ _ rfl, xe_187_234 (some (vR _)) _ _ _ _ _ _ _ rfl, xe_187_234 none _ _ _ _ _ _ _ rfl, xe_187_235 _ (some (vI _)) _ _ _ _ _ rfl, xe_187_235 _ (some (vR _)) _ _ _ _ _ rfl, xe_187_235 _ none _ _ _ _ _ rfl, xe_187_238, ite_self, mm_nL_I, mm_nL_R, mm_nL_0, Option.bind_some, Option.bind_none, bnd_ite, Option.toList_some, Option.toList_none, List.cons_append, List.nil_append, mm_cats_nil, mm_cats_I, mm_cats_L, mm_cats_R, if_true, if_false, true_and, and_true, false_and, and_false, not_true_eq_false, not_false_eq_true, Int.reduceLE, Int.reduceLT, Int.reduceEq, Int.reduceNe, Int.reduceNeg, Int.reduceAdd, Int.reduceSub, Int.reduceMul, Nat.reduceAdd, Nat.reduceLeDiff, true_or, or_true, false_or, or_false, reduceIte, k_149, k_162, l_162, b9, sm_149_26 hM, g, a, s, s2, v]
theorem s_forges (h : RF c r) (hb : 1 ≤ c 16 5) (hn : ∀ k, 0 ≤ k → k < c 16 9 → 0 ≤ r 154 k ∧ r 154 k < 256) : ∃ w, ev 187 0 [some (vR 149), none, none, none] [] r (g_1 L) = some (some (vI 1), rfo r (up (fgp (c 18) (c 45 4) (c 16 9) (c 16 12) (fun d => tg (c (c 46 d + 1))) (r 154) (c 22)) 127 ((256 - sm (fgp (c 18) (c 45 4) (c 16 9) (c 16 12) (fun d => tg (c (c 46 d + 1))) (r 154) (c 22)) 0 127 % 256) % 256)) w, g_1 L) := by
  have hM := h.1
  have hS := h.2.1
  have n0 := h.2.2.2.1
  have by8 : ∀ i, 0 ≤ i → i < 128 → c 18 i = r 152 i ∧ 0 ≤ c 18 i ∧ c 18 i < 256 := fun i i0 i1 => hS.2.2.2.2.1 i i0 (by omega)
  have A : ∀ f w i, 0 ≤ i → i < 128 → ev 160 0 [some (vR 149), some (vI i)] [] (rfo r f w) (g_1 L) = some (some (vI (c 18 i)), rfo r f w, g_1 L) := fun f w i i0 i1 => by
    have := s_atM L i (rfo r f w) (by rw [rfo_b _ _ _ _ (by omega) (by omega)]; exact sm_149_3 hM) i0 (by omega)
    rw [rfo_b _ _ _ 152 (by omega) (by omega), ← (by8 i i0 i1).1] at this
    exact this
  have H := lp_f2 (L := L) hM (r 164) none none 128 0 (r 162) (by omega) (by omega) (fun j j0 j1 => by omega)
  rw [← rfo_i] at H
  have fb := fgp_b (c 18) (c 45 4) (c 16 9) (c 16 12) (fun d => tg (c (c 46 d + 1))) (r 154) (c 22) n0 (fun i hi => (by8 i (by omega) (by omega)).2) hn (fun z => (hS.2.2.2.2.2.2.2.1.2.2 z).1)
  obtain ⟨w1, p1, q1, T1⟩ := fr_1 (L := L) h 0 (by omega) (by omega) (r 164) none none
  obtain ⟨w2, p2, q2, T2⟩ := fr_1 (L := L) h 1 (by omega) (by omega) w1 p1 q1
  obtain ⟨w3, p3, q3, T3⟩ := fr_1 (L := L) h 2 (by omega) (by omega) w2 p2 q2
  obtain ⟨w4, p4, q4, T4⟩ := fr_1 (L := L) h 3 (by omega) (by omega) w3 p3 q3
  rw [G1_00] at T1
  rw [show (3 : Int) + 1 = 4 from rfl, G1_p] at T4
  rw [show (2 : Int) + 1 = 3 from rfl] at T3
  rw [show (1 : Int) + 1 = 2 from rfl] at T2
  rw [show (0 : Int) + 1 = 1 from rfl] at T1
  generalize fgp (c 18) (c 45 4) (c 16 9) (c 16 12) (fun d => tg (c (c 46 d + 1))) (r 154) (c 22) = f at *
  have S := lp_fs (L := L) hM f w4 q4 (fun j _ _ => fb j) 127 0 (by omega)
  rw [show sm f 0 0 = 0 from rfl, show (((0 : Nat) : Int)) = 0 from rfl] at S
  have bd := sm_bd f 0 127 (fun j j0 j1 => fb _)
  have b9 : ∀ f w, rfo r f w 149 = r 149 := fun f w => rfo_b _ _ _ _ (by omega) (by omega)
  have a8 := fun f w => A f w 8 (by omega) (by omega)
  have a9 := fun f w => A f w 9 (by omega) (by omega)
  have a21 := fun f w => A f w 21 (by omega) (by omega)
  have a22 := fun f w => A f w 22 (by omega) (by omega)
  have u8 := fun f w v => rfo_u r f w 8 v (by omega) (by omega)
  have u9 := fun f w v => rfo_u r f w 9 v (by omega) (by omega)
  have u18 := fun f w v => rfo_u r f w 18 v (by omega) (by omega)
  have u21 := fun f w v => rfo_u r f w 21 v (by omega) (by omega)
  have u22 := fun f w v => rfo_u r f w 22 v (by omega) (by omega)
  have u127 := fun f w v => rfo_u r f w 127 v (by omega) (by omega)
  have st1 : ev 187 0 [some (vR 149), none, none, none] [] r (g_1 L) = ev 187 2 [some (vR 149), some (vI 0), none, none] [] r (g_1 L) := by
    simp only [xe_187_0, xe_187_1 (some (vI _)) _ _ _ _ _ _ _ rfl, xe_187_1 (some (vR _)) _ _ _ _ _ _ _ rfl, xe_187_1 none _ _ _ _ _ _ _ rfl, ite_self, mm_nL_I, mm_nL_R, mm_nL_0, Option.bind_some, Option.bind_none, bnd_ite, Option.toList_some, Option.toList_none, List.cons_append, List.nil_append, mm_cats_nil, mm_cats_I, mm_cats_L, mm_cats_R, if_true, if_false, true_and, and_true, false_and, and_false, not_true_eq_false, not_false_eq_true, Int.reduceLE, Int.reduceLT, Int.reduceEq, Int.reduceNe, Int.reduceNeg, Int.reduceAdd, Int.reduceSub, Int.reduceMul, Nat.reduceAdd, Nat.reduceLeDiff, true_or, or_true, false_or, or_false, reduceIte]
  have st2 : ev 187 38 [some (vR 149), some (vI 128), none, none] [] (rfo r (h8z 8) (r 164)) (g_1 L) = ev 187 100 [some (vR 149), some (vI 0), none, none] [] (rfo r (G0 (c 18)) (r 164)) (g_1 L) := by
    rw [← h8z_e]
    simp only [xe_187_38, xe_187_39, xe_187_42, xe_187_44, xe_187_45, xe_187_47, xe_187_50, xe_187_51, xe_187_52, xe_187_55, xe_187_57, xe_187_58, xe_187_60, xe_187_63, xe_187_64, xe_187_65, xe_187_68, xe_187_70, xe_187_71, xe_187_72, xe_187_73, xe_187_76, xe_187_78, xe_187_79, xe_187_81, xe_187_84, xe_187_85, xe_187_86, xe_187_89, xe_187_91, xe_187_92, xe_187_94, xe_187_97, xe_187_98, xe_187_99 (some (vI _)) _ _ _ _ _ _ _ rfl, xe_187_99 (some (vR _)) _ _ _ _ _ _ _ rfl, xe_187_99 none _ _ _ _ _ _ _ rfl, ite_self, mm_nL_I, mm_nL_R, mm_nL_0, Option.bind_some, Option.bind_none, bnd_ite, Option.toList_some, Option.toList_none, List.cons_append, List.nil_append, mm_cats_nil, mm_cats_I, mm_cats_L, mm_cats_R, if_true, if_false, true_and, and_true, false_and, and_false, not_true_eq_false, not_false_eq_true, Int.reduceLE, Int.reduceLT, Int.reduceEq, Int.reduceNe, Int.reduceNeg, Int.reduceAdd, Int.reduceSub, Int.reduceMul, Nat.reduceAdd, Nat.reduceLeDiff, true_or, or_true, false_or, or_false, reduceIte, k_149, k_162, l_162, b9, sm_149_26 hM, a8, a9, a21, a22, u8, u9, u18, u21, u22]
  have st3 : ev 187 100 [some (vR 149), some (vI 4), p4, q4] [] (rfo r f w4) (g_1 L) = ev 187 220 [some (vR 149), some (vI 0), some (vI 0), q4] [] (rfo r f w4) (g_1 L) := by
    rw [xe_187_100]
    simp only [xe_187_101, xe_187_102, ite_self, mm_nL_I, mm_nL_R, mm_nL_0, Option.bind_some, Option.bind_none, bnd_ite, Option.toList_some, Option.toList_none, List.cons_append, List.nil_append, mm_cats_nil, mm_cats_I, mm_cats_L, mm_cats_R, if_true, if_false, true_and, and_true, false_and, and_false, not_true_eq_false, not_false_eq_true, Int.reduceLE, Int.reduceLT, Int.reduceEq, Int.reduceNe, Int.reduceNeg, Int.reduceAdd, Int.reduceSub, Int.reduceMul, Nat.reduceAdd, Nat.reduceLeDiff, true_or, or_true, false_or, or_false, reduceIte]
    simp only [xe_187_216, xe_187_217 (some (vI _)) _ _ _ _ _ _ _ rfl, xe_187_217 (some (vR _)) _ _ _ _ _ _ _ rfl, xe_187_217 none _ _ _ _ _ _ _ rfl, xe_187_218, xe_187_219 _ (some (vI _)) _ _ _ _ _ _ rfl, xe_187_219 _ (some (vR _)) _ _ _ _ _ _ rfl, xe_187_219 _ none _ _ _ _ _ _ rfl, ite_self, mm_nL_I, mm_nL_R, mm_nL_0, Option.bind_some, Option.bind_none, bnd_ite, Option.toList_some, Option.toList_none, List.cons_append, List.nil_append, mm_cats_nil, mm_cats_I, mm_cats_L, mm_cats_R, if_true, if_false, true_and, and_true, false_and, and_false, not_true_eq_false, not_false_eq_true, Int.reduceLE, Int.reduceLT, Int.reduceEq, Int.reduceNe, Int.reduceNeg, Int.reduceAdd, Int.reduceSub, Int.reduceMul, Nat.reduceAdd, Nat.reduceLeDiff, true_or, or_true, false_or, or_false, reduceIte]
  refine ⟨w4, ?_⟩
  rw [st1, H, st2, T1, T2, T3, T4, st3, S]
  generalize sm f 0 127 = Z at *
  have d1 : mm_rem Z 256 = Z % 256 := nu_rem (by omega) (by omega) (by omega) (by omega)
  have s1 : w32 (256 - Z % 256) = 256 - Z % 256 := wi32 (by omega) (by omega)
  have d2 : mm_rem (256 - Z % 256) 256 = (256 - Z % 256) % 256 := nu_rem (by omega) (by omega) (by omega) (by omega)
  simp only [xe_187_241, xe_187_242, xe_187_245, xe_187_247, xe_187_250, xe_187_251, xe_187_254, xe_187_255, xe_187_256, xe_187_259, xe_187_260, xe_187_261, xe_187_262, ite_self, mm_nL_I, mm_nL_R, mm_nL_0, Option.bind_some, Option.bind_none, bnd_ite, Option.toList_some, Option.toList_none, List.cons_append, List.nil_append, mm_cats_nil, mm_cats_I, mm_cats_L, mm_cats_R, if_true, if_false, true_and, and_true, false_and, and_false, not_true_eq_false, not_false_eq_true, Int.reduceLE, Int.reduceLT, Int.reduceEq, Int.reduceNe, Int.reduceNeg, Int.reduceAdd, Int.reduceSub, Int.reduceMul, Nat.reduceAdd, Nat.reduceLeDiff, true_or, or_true, false_or, or_false, reduceIte, k_149, k_162, l_162, b9, sm_149_26 hM, d1, d2, s1, u127]
end FC
