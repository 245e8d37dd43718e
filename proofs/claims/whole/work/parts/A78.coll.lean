/-! load: the modes are collected -/
theorem drk_b {x y z : Int} (x0 : 256 ≤ x) (x1 : x ≤ 2288) (y0 : 144 ≤ y) (y1 : y ≤ 1830) (z0 : 60 ≤ z) (z1 : z ≤ 123) : 0 < drk 0 x y z ∧ drk 0 x y z ≤ 655350 := by
  have b := mul_bd (show 0 ≤ 460 * y by omega) (show 460 * y ≤ 841800 by omega) (show 0 ≤ z by omega) z1
  have q1 : 460 * y * z / (1000000 - 460 * z) < 110 := Int.ediv_lt_of_lt_mul (by omega) (by omega)
  have s := syv_ok (x / 8 * 8) y
  have l := drl_ok (k := 0) (h := x) (show 0 ≤ y by omega) (show y ≤ 4095 by omega) (show 0 ≤ z by omega) (show z ≤ 240 by omega)
  have u : drl 0 x y z ≤ 110 := by
    unfold drl lin
    rw [if_pos rfl]
    omega
  have e : drk 0 x y z = z * ((x / 8 * 8 + 160) * (y + drl 0 x y z)) / 250000 * 250 := rfl
  rw [e]
  have l1 := l.1
  generalize drl 0 x y z = d at *
  clear q1 b s l e
  have a0 : 409 ≤ x / 8 * 8 + 160 := by omega
  have a1 : x / 8 * 8 + 160 ≤ 2448 := by omega
  have d0 : 157 ≤ y + d := by omega
  have d1 : y + d ≤ 1940 := by omega
  generalize x / 8 * 8 + 160 = A at *
  generalize y + d = B at *
  have p0 : 409 * 157 ≤ A * B := Int.mul_le_mul a0 d0 (by omega) (by omega)
  have p1 : A * B ≤ 2448 * 1940 := Int.mul_le_mul a1 d1 (by omega) (by omega)
  generalize A * B = P at *
  have v0 : 60 * 64213 ≤ z * P := Int.mul_le_mul z0 (by omega) (by omega) (by omega)
  have v1 : z * P ≤ 123 * 4749120 := Int.mul_le_mul z1 (by omega) (by omega) (by omega)
  generalize z * P = Q at *
  omega
def sth (x s : Int) : Int := if s = 0 then x * 10 / 16 else if s = 1 then x * 3 / 4 else if s = 2 then x * 4 / 5 else x * 9 / 16
theorem s_sth (x s : Int) (c : MM) (G : MG) (x0 : 0 ≤ x) (x1 : x ≤ 3000) : ev 37 0 [some (vI x), some (vI s)] [] c G = some (some (vI (sth x s)), c, G) := by
  have w1 : w32 (x * 10) = x * 10 := wi32 (by omega) (by omega)
  have w2 : w32 (x * 3) = x * 3 := wi32 (by omega) (by omega)
  have w3 : w32 (x * 4) = x * 4 := wi32 (by omega) (by omega)
  have w4 : w32 (x * 9) = x * 9 := wi32 (by omega) (by omega)
  have d1 : mm_div (x * 10) 16 = x * 10 / 16 := nu_div (by omega) (by omega) (by omega) (by omega)
  have d2 : mm_div (x * 3) 4 = x * 3 / 4 := nu_div (by omega) (by omega) (by omega) (by omega)
  have d3 : mm_div (x * 4) 5 = x * 4 / 5 := nu_div (by omega) (by omega) (by omega) (by omega)
  have d4 : mm_div (x * 9) 16 = x * 9 / 16 := nu_div (by omega) (by omega) (by omega) (by omega)
  unfold sth
  by_cases h0 : s = 0
  · subst h0
    simp only [xe_37_0, xe_37_1, xe_37_28, xe_37_29, xe_37_31, xe_37_32, xe_37_34, xe_37_35, xe_37_36, xe_37_37, xe_37_38, xe_37_39, xe_37_40, xe_37_41, xe_37_42, xe_37_43, xe_37_44, xe_37_45, xe_37_46, xe_37_47, xe_37_48, xe_37_49, xe_37_51, xe_37_52, xe_37_54, xe_37_55, ite_self, mm_nL_I, mm_nL_R, mm_nL_0, Option.bind_some, Option.bind_none, bnd_ite, Option.toList_some, Option.toList_none, List.cons_append, List.nil_append, mm_cats_nil, mm_cats_I, mm_cats_L, mm_cats_R, if_true, if_false, true_and, and_true, false_and, and_false, not_true_eq_false, not_false_eq_true, Int.reduceLE, Int.reduceLT, Int.reduceEq, Int.reduceNe, Int.reduceNeg, Int.reduceAdd, Int.reduceSub, Int.reduceMul, Nat.reduceAdd, Nat.reduceLeDiff, true_or, or_true, false_or, or_false, reduceIte, w1, d1]
  · by_cases h1 : s = 1
    · subst h1
      simp only [xe_37_0, xe_37_1, xe_37_28, xe_37_29, xe_37_31, xe_37_32, xe_37_34, xe_37_35, xe_37_36, xe_37_37, xe_37_38, xe_37_39, xe_37_40, xe_37_41, xe_37_42, xe_37_43, xe_37_44, xe_37_45, xe_37_46, xe_37_47, xe_37_48, xe_37_49, xe_37_51, xe_37_52, xe_37_54, xe_37_55, ite_self, mm_nL_I, mm_nL_R, mm_nL_0, Option.bind_some, Option.bind_none, bnd_ite, Option.toList_some, Option.toList_none, List.cons_append, List.nil_append, mm_cats_nil, mm_cats_I, mm_cats_L, mm_cats_R, if_true, if_false, true_and, and_true, false_and, and_false, not_true_eq_false, not_false_eq_true, Int.reduceLE, Int.reduceLT, Int.reduceEq, Int.reduceNe, Int.reduceNeg, Int.reduceAdd, Int.reduceSub, Int.reduceMul, Nat.reduceAdd, Nat.reduceLeDiff, true_or, or_true, false_or, or_false, reduceIte, w2, d2]
    · by_cases h2 : s = 2
      · subst h2
        simp only [xe_37_0, xe_37_1, xe_37_28, xe_37_29, xe_37_31, xe_37_32, xe_37_34, xe_37_35, xe_37_36, xe_37_37, xe_37_38, xe_37_39, xe_37_40, xe_37_41, xe_37_42, xe_37_43, xe_37_44, xe_37_45, xe_37_46, xe_37_47, xe_37_48, xe_37_49, xe_37_51, xe_37_52, xe_37_54, xe_37_55, ite_self, mm_nL_I, mm_nL_R, mm_nL_0, Option.bind_some, Option.bind_none, bnd_ite, Option.toList_some, Option.toList_none, List.cons_append, List.nil_append, mm_cats_nil, mm_cats_I, mm_cats_L, mm_cats_R, if_true, if_false, true_and, and_true, false_and, and_false, not_true_eq_false, not_false_eq_true, Int.reduceLE, Int.reduceLT, Int.reduceEq, Int.reduceNe, Int.reduceNeg, Int.reduceAdd, Int.reduceSub, Int.reduceMul, Nat.reduceAdd, Nat.reduceLeDiff, true_or, or_true, false_or, or_false, reduceIte, w3, d3]
      · simp only [xe_37_0, xe_37_1, xe_37_28, xe_37_29, xe_37_31, xe_37_32, xe_37_34, xe_37_35, xe_37_36, xe_37_37, xe_37_38, xe_37_39, xe_37_40, xe_37_41, xe_37_42, xe_37_43, xe_37_44, xe_37_45, xe_37_46, xe_37_47, xe_37_48, xe_37_49, xe_37_51, xe_37_52, xe_37_54, xe_37_55, ite_self, mm_nL_I, mm_nL_R, mm_nL_0, Option.bind_some, Option.bind_none, bnd_ite, Option.toList_some, Option.toList_none, List.cons_append, List.nil_append, mm_cats_nil, mm_cats_I, mm_cats_L, mm_cats_R, if_true, if_false, true_and, and_true, false_and, and_false, not_true_eq_false, not_false_eq_true, Int.reduceLE, Int.reduceLT, Int.reduceEq, Int.reduceNe, Int.reduceNeg, Int.reduceAdd, Int.reduceSub, Int.reduceMul, Nat.reduceAdd, Nat.reduceLeDiff, true_or, or_true, false_or, or_false, reduceIte, h0, h1, h2, w4, d4]
theorem s_sthM (L x s i : Int) (y4 : Option MV) (r : MM) (x0 : 0 ≤ x) (x1 : x ≤ 3000) : ev 176 140 [some (vR 149), some (vI i), some (vI x), some (vI s), y4] [] r (g_1 L) = ev 176 189 [some (vR 149), some (vI i), some (vI x), some (vI s), some (vI (sth x s))] [] r (g_1 L) := by
  have w1 : w32 (x * 10) = x * 10 := wi32 (by omega) (by omega)
  have w2 : w32 (x * 3) = x * 3 := wi32 (by omega) (by omega)
  have w3 : w32 (x * 4) = x * 4 := wi32 (by omega) (by omega)
  have w4 : w32 (x * 9) = x * 9 := wi32 (by omega) (by omega)
  have d1 : mm_div (x * 10) 16 = x * 10 / 16 := nu_div (by omega) (by omega) (by omega) (by omega)
  have d2 : mm_div (x * 3) 4 = x * 3 / 4 := nu_div (by omega) (by omega) (by omega) (by omega)
  have d3 : mm_div (x * 4) 5 = x * 4 / 5 := nu_div (by omega) (by omega) (by omega) (by omega)
  have d4 : mm_div (x * 9) 16 = x * 9 / 16 := nu_div (by omega) (by omega) (by omega) (by omega)
  unfold sth
  by_cases h0 : s = 0
  · subst h0
    simp only [xe_176_140, xe_176_141, xe_176_144, xe_176_145, xe_176_147, xe_176_148, xe_176_150, xe_176_151, xe_176_154, xe_176_155, xe_176_156, xe_176_159, xe_176_160, xe_176_161, xe_176_162, xe_176_163, xe_176_164, xe_176_167, xe_176_168, xe_176_169, xe_176_172, xe_176_173, xe_176_174, xe_176_175, xe_176_176, xe_176_177, xe_176_180, xe_176_181, xe_176_183, xe_176_184, xe_176_186, xe_176_187 _ _ _ (some (vI _)) _ _ _ _ _ rfl, xe_176_187 _ _ _ (some (vR _)) _ _ _ _ _ rfl, xe_176_187 _ _ _ none _ _ _ _ _ rfl, ite_self, mm_nL_I, mm_nL_R, mm_nL_0, Option.bind_some, Option.bind_none, bnd_ite, Option.toList_some, Option.toList_none, List.cons_append, List.nil_append, mm_cats_nil, mm_cats_I, mm_cats_L, mm_cats_R, if_true, if_false, true_and, and_true, false_and, and_false, not_true_eq_false, not_false_eq_true, Int.reduceLE, Int.reduceLT, Int.reduceEq, Int.reduceNe, Int.reduceNeg, Int.reduceAdd, Int.reduceSub, Int.reduceMul, Nat.reduceAdd, Nat.reduceLeDiff, true_or, or_true, false_or, or_false, reduceIte, w1, d1]
  · by_cases h1 : s = 1
    · subst h1
      simp only [xe_176_140, xe_176_141, xe_176_144, xe_176_145, xe_176_147, xe_176_148, xe_176_150, xe_176_151, xe_176_154, xe_176_155, xe_176_156, xe_176_159, xe_176_160, xe_176_161, xe_176_162, xe_176_163, xe_176_164, xe_176_167, xe_176_168, xe_176_169, xe_176_172, xe_176_173, xe_176_174, xe_176_175, xe_176_176, xe_176_177, xe_176_180, xe_176_181, xe_176_183, xe_176_184, xe_176_186, xe_176_187 _ _ _ (some (vI _)) _ _ _ _ _ rfl, xe_176_187 _ _ _ (some (vR _)) _ _ _ _ _ rfl, xe_176_187 _ _ _ none _ _ _ _ _ rfl, ite_self, mm_nL_I, mm_nL_R, mm_nL_0, Option.bind_some, Option.bind_none, bnd_ite, Option.toList_some, Option.toList_none, List.cons_append, List.nil_append, mm_cats_nil, mm_cats_I, mm_cats_L, mm_cats_R, if_true, if_false, true_and, and_true, false_and, and_false, not_true_eq_false, not_false_eq_true, Int.reduceLE, Int.reduceLT, Int.reduceEq, Int.reduceNe, Int.reduceNeg, Int.reduceAdd, Int.reduceSub, Int.reduceMul, Nat.reduceAdd, Nat.reduceLeDiff, true_or, or_true, false_or, or_false, reduceIte, w2, d2]
    · by_cases h2 : s = 2
      · subst h2
        simp only [xe_176_140, xe_176_141, xe_176_144, xe_176_145, xe_176_147, xe_176_148, xe_176_150, xe_176_151, xe_176_154, xe_176_155, xe_176_156, xe_176_159, xe_176_160, xe_176_161, xe_176_162, xe_176_163, xe_176_164, xe_176_167, xe_176_168, xe_176_169, xe_176_172, xe_176_173, xe_176_174, xe_176_175, xe_176_176, xe_176_177, xe_176_180, xe_176_181, xe_176_183, xe_176_184, xe_176_186, xe_176_187 _ _ _ (some (vI _)) _ _ _ _ _ rfl, xe_176_187 _ _ _ (some (vR _)) _ _ _ _ _ rfl, xe_176_187 _ _ _ none _ _ _ _ _ rfl, ite_self, mm_nL_I, mm_nL_R, mm_nL_0, Option.bind_some, Option.bind_none, bnd_ite, Option.toList_some, Option.toList_none, List.cons_append, List.nil_append, mm_cats_nil, mm_cats_I, mm_cats_L, mm_cats_R, if_true, if_false, true_and, and_true, false_and, and_false, not_true_eq_false, not_false_eq_true, Int.reduceLE, Int.reduceLT, Int.reduceEq, Int.reduceNe, Int.reduceNeg, Int.reduceAdd, Int.reduceSub, Int.reduceMul, Nat.reduceAdd, Nat.reduceLeDiff, true_or, or_true, false_or, or_false, reduceIte, w3, d3]
      · simp only [xe_176_140, xe_176_141, xe_176_144, xe_176_145, xe_176_147, xe_176_148, xe_176_150, xe_176_151, xe_176_154, xe_176_155, xe_176_156, xe_176_159, xe_176_160, xe_176_161, xe_176_162, xe_176_163, xe_176_164, xe_176_167, xe_176_168, xe_176_169, xe_176_172, xe_176_173, xe_176_174, xe_176_175, xe_176_176, xe_176_177, xe_176_180, xe_176_181, xe_176_183, xe_176_184, xe_176_186, xe_176_187 _ _ _ (some (vI _)) _ _ _ _ _ rfl, xe_176_187 _ _ _ (some (vR _)) _ _ _ _ _ rfl, xe_176_187 _ _ _ none _ _ _ _ _ rfl, ite_self, mm_nL_I, mm_nL_R, mm_nL_0, Option.bind_some, Option.bind_none, bnd_ite, Option.toList_some, Option.toList_none, List.cons_append, List.nil_append, mm_cats_nil, mm_cats_I, mm_cats_L, mm_cats_R, if_true, if_false, true_and, and_true, false_and, and_false, not_true_eq_false, not_false_eq_true, Int.reduceLE, Int.reduceLT, Int.reduceEq, Int.reduceNe, Int.reduceNeg, Int.reduceAdd, Int.reduceSub, Int.reduceMul, Nat.reduceAdd, Nat.reduceLeDiff, true_or, or_true, false_or, or_false, reduceIte, h0, h1, h2, w4, d4]
def CX (n : Int) (F : Int → Int) (K : Int) (c r : MM) (s : Nat) : Prop := SX c ∧ SM r ∧ PX c n F ∧ PM r n F ∧ Rq c r ∧ Rtb c r ∧ (c 16 6 ≤ 22 ∧ c 16 8 ≤ 384 ∧ c 16 7 = r 149 19) ∧ INV K c r s
theorem INV.mono {K K' : Int} {c r : MM} {s : Nat} (h : INV K c r s) (k : K ≤ K') : INV K' c r s := h.ke rfl rfl (fun i i0 i1 => by have := h.2.2.2.1 i i0 i1; omega) (fun _ _ _ => rfl) rfl rfl
theorem CX.g {n : Int} {F : Int → Int} {K K' : Int} {c r c' r' : MM} {s s' : Nat} (h : CX n F K c r s) (gc : gC c c') (gr : gR r r') (hI : INV K' c' r' s') : CX n F K' c' r' s' := by
  obtain ⟨h1, h2, h3, h4, ⟨q1, q2, q3, q4, q5, q6⟩, h6, h7, h8⟩ := h
  have cb : ∀ a, ¬ (45 ≤ a ∧ a ≤ 128) → c' a = c a := gc.1
  have rb : ∀ a, 150 ≤ a → a ≤ 156 ∨ a = 160 ∨ a = 161 → r' a = r a := fun a a0 a1 => gr.1 a (by omega)
  have rk : ∀ k, ¬ k = 23 → r' 149 k = r 149 k := gr.2
  refine ⟨h1.g gc, h2.g gr, ?_, ?_, ⟨?_, q2.ke (by rw [cb _ (by omega)]) (cb _ (by omega)) (rk _ (by omega)) (rb _ (by omega) (by omega)), q3.ke (by rw [cb _ (by omega)]) (cb _ (by omega)) (rk _ (by omega)) (rb _ (by omega) (by omega)), q4.ke (by rw [cb _ (by omega)]) (cb _ (by omega)) (rk _ (by omega)) (rb _ (by omega) (by omega)), q5.ke (by rw [cb _ (by omega)]) (rk _ (by omega)), q6.ke (by rw [cb _ (by omega)]) (rk _ (by omega))⟩, h6.ke (fun a ha => cb a (by omega)) (rb _ (by omega) (by omega)) (rb _ (by omega) (by omega)), ?_, hI⟩
  · unfold PX XB at *
    rw [cb 16 (by omega), cb 17 (by omega), cb 18 (by omega), cb 19 (by omega)]; exact h3
  · unfold PM YB at *
    rw [rb 152 (by omega) (by omega), rk 3 (by omega), rk 9 (by omega), rk 10 (by omega), rk 11 (by omega), rk 12 (by omega)]; exact h4
  · obtain ⟨d1, d2, d3⟩ := q1
    unfold Qd
    rw [cb 16 (by omega), rk 13 (by omega), rb 153 (by omega) (by omega)]
    refine ⟨d1, d2, fun k k0 k1 => ?_⟩
    rw [cb (23 + k) (by omega)]
    exact d3 k k0 k1
  · rw [cb 16 (by omega), rk 19 (by omega)]; exact h7
section S4
variable {L K n : Int} {F : Int → Int} {c r : MM} {s : Nat}
theorem st_sd (h : CX n F K c r s) (n1 : 128 ≤ n) (K5 : K ≤ 5000) (i : Int) (i0 : 38 ≤ i) (i1 : i + 1 < 54) :
    ∃ c' r' s', ev 36 0 [some (vR 45), some (vR 16), some (vI (F i)), some (vI (F (i + 1))), none] [] c (g_1 L) = some (none, c', g_1 L) ∧ (∀ y2 y3 y4 : Option MV, ∃ z2 z3 z4 : Option MV, ev 176 80 [some (vR 149), some (vI i), y2, y3, y4] [] r (g_1 L) = ev 176 80 [some (vR 149), some (vI (i + 2)), z2, z3, z4] [] r' (g_1 L)) ∧ CX n F (K + 1) c' r' s' ∧ gC c c' ∧ gR r r' := by
  have hM := h.2.2.2.1
  have hI := h.2.2.2.2.2.2.2
  have A : ∀ r', gR r r' → ev 160 0 [some (vR 149), some (vI i)] [] r' (g_1 L) = some (some (vI (F i)), r', g_1 L) := fun r' g => yb_at hM.1 (by omega) (by omega) r' (g.2 _ (by omega)) (g.1 _ (by omega))
  have B : ∀ r', gR r r' → ev 160 0 [some (vR 149), some (vI (i + 1))] [] r' (g_1 L) = some (some (vI (F (i + 1))), r', g_1 L) := fun r' g => yb_at hM.1 (by omega) (by omega) r' (g.2 _ (by omega)) (g.1 _ (by omega))
  have A0 := A r (gR.rf r)
  have B0 := B r (gR.rf r)
  have a := (hM.1.2.2 i (by omega) (by omega)).2
  have b := (hM.1.2.2 (i + 1) (by omega) (by omega)).2
  have g54 : ¬ 54 ≤ i := by omega
  have w1 : w32 (i + 1) = i + 1 := wi32 (by omega) (by omega)
  have w2 : w32 (i + 2) = i + 2 := wi32 (by omega) (by omega)
  generalize F i = p at *
  generalize F (i + 1) = q at *
  by_cases p0 : p = 0
  · refine ⟨c, r, s, ?_, fun y2 y3 y4 => ⟨y2, y3, y4, ?_⟩, h.g (gC.rf c) (gR.rf r) (hI.mono (by omega)), gC.rf c, gR.rf r⟩
    · simp only [xe_36_0, xe_36_1, xe_36_4, xe_36_5, xe_36_6, xe_36_9, xe_36_10, xe_36_11, xe_36_14, xe_36_15, xe_36_17, xe_36_18, xe_36_20, xe_36_21, xe_36_22 _ _ _ (some (vI _)) _ _ _ _ _ rfl, xe_36_22 _ _ _ (some (vR _)) _ _ _ _ _ rfl, xe_36_22 _ _ _ none _ _ _ _ _ rfl, xe_36_24, xe_36_25, xe_36_28, xe_36_29, xe_36_31, xe_36_33, xe_36_34, xe_36_36, xe_36_37, xe_36_40, xe_36_42, xe_36_43, xe_36_45, xe_36_46, xe_36_47, xe_36_50, xe_36_51, xe_36_52, xe_36_53, xe_36_54, xe_36_57, ite_self, mm_nL_I, mm_nL_R, mm_nL_0, Option.bind_some, Option.bind_none, bnd_ite, Option.toList_some, Option.toList_none, List.cons_append, List.nil_append, mm_cats_nil, mm_cats_I, mm_cats_L, mm_cats_R, if_true, if_false, true_and, and_true, false_and, and_false, not_true_eq_false, not_false_eq_true, Int.reduceLE, Int.reduceLT, Int.reduceEq, Int.reduceNe, Int.reduceNeg, Int.reduceAdd, Int.reduceSub, Int.reduceMul, Nat.reduceAdd, Nat.reduceLeDiff, true_or, or_true, false_or, or_false, reduceIte, p0]
    · rw [p0] at A0
      rw [xe_176_80]
      simp only [xe_176_81, xe_176_83, xe_176_86, xe_176_87, xe_176_88, xe_176_91, xe_176_94, xe_176_95, xe_176_96, xe_176_99, xe_176_100, xe_176_103, xe_176_104, xe_176_105, xe_176_106, xe_176_107, xe_176_110, xe_176_111, xe_176_114, xe_176_117, xe_176_119, xe_176_120, xe_176_121, xe_176_124, xe_176_126, xe_176_127, xe_176_128 _ (some (vI _)) _ _ _ _ _ _ _ rfl, xe_176_128 _ (some (vR _)) _ _ _ _ _ _ _ rfl, xe_176_128 _ none _ _ _ _ _ _ _ rfl, xe_176_129, xe_176_130, xe_176_131, xe_176_132, xe_176_133, xe_176_136, xe_176_138, xe_176_139 _ _ (some (vI _)) _ _ _ _ _ _ rfl, xe_176_139 _ _ (some (vR _)) _ _ _ _ _ _ rfl, xe_176_139 _ _ none _ _ _ _ _ _ rfl, xe_176_140, xe_176_141, xe_176_144, xe_176_145, xe_176_147, xe_176_148, xe_176_150, xe_176_151, xe_176_154, xe_176_155, xe_176_156, xe_176_159, xe_176_160, xe_176_161, xe_176_162, xe_176_163, xe_176_164, xe_176_167, xe_176_168, xe_176_169, xe_176_172, xe_176_173, xe_176_174, xe_176_175, xe_176_176, xe_176_177, xe_176_180, xe_176_181, xe_176_183, xe_176_184, xe_176_186, xe_176_187 _ _ _ (some (vI _)) _ _ _ _ _ rfl, xe_176_187 _ _ _ (some (vR _)) _ _ _ _ _ rfl, xe_176_187 _ _ _ none _ _ _ _ _ rfl, xe_176_189, xe_176_190, xe_176_191, xe_176_193, xe_176_195, xe_176_196, xe_176_197, xe_176_198, xe_176_199, xe_176_202, xe_176_204, xe_176_205, xe_176_206, xe_176_207, xe_176_210 (some (vI _)) _ _ _ _ _ _ _ rfl, xe_176_210 (some (vR _)) _ _ _ _ _ _ _ rfl, xe_176_210 none _ _ _ _ _ _ _ rfl, xe_176_213, xe_176_216, xe_176_217 (some (vI _)) _ _ _ _ _ _ _ _ rfl, xe_176_217 (some (vR _)) _ _ _ _ _ _ _ _ rfl, xe_176_217 none _ _ _ _ _ _ _ _ rfl, ite_self, mm_nL_I, mm_nL_R, mm_nL_0, Option.bind_some, Option.bind_none, bnd_ite, Option.toList_some, Option.toList_none, List.cons_append, List.nil_append, mm_cats_nil, mm_cats_I, mm_cats_L, mm_cats_R, if_true, if_false, true_and, and_true, false_and, and_false, not_true_eq_false, not_false_eq_true, Int.reduceLE, Int.reduceLT, Int.reduceEq, Int.reduceNe, Int.reduceNeg, Int.reduceAdd, Int.reduceSub, Int.reduceMul, Nat.reduceAdd, Nat.reduceLeDiff, true_or, or_true, false_or, or_false, reduceIte, k_149, g54, A0, w2]
  · by_cases pq : p = 1 ∧ q = 1
    · refine ⟨c, r, s, ?_, fun y2 y3 y4 => ⟨y2, y3, y4, ?_⟩, h.g (gC.rf c) (gR.rf r) (hI.mono (by omega)), gC.rf c, gR.rf r⟩
      · simp only [xe_36_0, xe_36_1, xe_36_4, xe_36_5, xe_36_6, xe_36_9, xe_36_10, xe_36_11, xe_36_14, xe_36_15, xe_36_17, xe_36_18, xe_36_20, xe_36_21, xe_36_22 _ _ _ (some (vI _)) _ _ _ _ _ rfl, xe_36_22 _ _ _ (some (vR _)) _ _ _ _ _ rfl, xe_36_22 _ _ _ none _ _ _ _ _ rfl, xe_36_24, xe_36_25, xe_36_28, xe_36_29, xe_36_31, xe_36_33, xe_36_34, xe_36_36, xe_36_37, xe_36_40, xe_36_42, xe_36_43, xe_36_45, xe_36_46, xe_36_47, xe_36_50, xe_36_51, xe_36_52, xe_36_53, xe_36_54, xe_36_57, ite_self, mm_nL_I, mm_nL_R, mm_nL_0, Option.bind_some, Option.bind_none, bnd_ite, Option.toList_some, Option.toList_none, List.cons_append, List.nil_append, mm_cats_nil, mm_cats_I, mm_cats_L, mm_cats_R, if_true, if_false, true_and, and_true, false_and, and_false, not_true_eq_false, not_false_eq_true, Int.reduceLE, Int.reduceLT, Int.reduceEq, Int.reduceNe, Int.reduceNeg, Int.reduceAdd, Int.reduceSub, Int.reduceMul, Nat.reduceAdd, Nat.reduceLeDiff, true_or, or_true, false_or, or_false, reduceIte, pq.1, pq.2]
      · rw [pq.1] at A0
        rw [pq.2] at B0
        rw [xe_176_80]
        simp only [xe_176_81, xe_176_83, xe_176_86, xe_176_87, xe_176_88, xe_176_91, xe_176_94, xe_176_95, xe_176_96, xe_176_99, xe_176_100, xe_176_103, xe_176_104, xe_176_105, xe_176_106, xe_176_107, xe_176_110, xe_176_111, xe_176_114, xe_176_117, xe_176_119, xe_176_120, xe_176_121, xe_176_124, xe_176_126, xe_176_127, xe_176_128 _ (some (vI _)) _ _ _ _ _ _ _ rfl, xe_176_128 _ (some (vR _)) _ _ _ _ _ _ _ rfl, xe_176_128 _ none _ _ _ _ _ _ _ rfl, xe_176_129, xe_176_130, xe_176_131, xe_176_132, xe_176_133, xe_176_136, xe_176_138, xe_176_139 _ _ (some (vI _)) _ _ _ _ _ _ rfl, xe_176_139 _ _ (some (vR _)) _ _ _ _ _ _ rfl, xe_176_139 _ _ none _ _ _ _ _ _ rfl, xe_176_140, xe_176_141, xe_176_144, xe_176_145, xe_176_147, xe_176_148, xe_176_150, xe_176_151, xe_176_154, xe_176_155, xe_176_156, xe_176_159, xe_176_160, xe_176_161, xe_176_162, xe_176_163, xe_176_164, xe_176_167, xe_176_168, xe_176_169, xe_176_172, xe_176_173, xe_176_174, xe_176_175, xe_176_176, xe_176_177, xe_176_180, xe_176_181, xe_176_183, xe_176_184, xe_176_186, xe_176_187 _ _ _ (some (vI _)) _ _ _ _ _ rfl, xe_176_187 _ _ _ (some (vR _)) _ _ _ _ _ rfl, xe_176_187 _ _ _ none _ _ _ _ _ rfl, xe_176_189, xe_176_190, xe_176_191, xe_176_193, xe_176_195, xe_176_196, xe_176_197, xe_176_198, xe_176_199, xe_176_202, xe_176_204, xe_176_205, xe_176_206, xe_176_207, xe_176_210 (some (vI _)) _ _ _ _ _ _ _ rfl, xe_176_210 (some (vR _)) _ _ _ _ _ _ _ rfl, xe_176_210 none _ _ _ _ _ _ _ rfl, xe_176_213, xe_176_216, xe_176_217 (some (vI _)) _ _ _ _ _ _ _ _ rfl, xe_176_217 (some (vR _)) _ _ _ _ _ _ _ _ rfl, xe_176_217 none _ _ _ _ _ _ _ _ rfl, ite_self, mm_nL_I, mm_nL_R, mm_nL_0, Option.bind_some, Option.bind_none, bnd_ite, Option.toList_some, Option.toList_none, List.cons_append, List.nil_append, mm_cats_nil, mm_cats_I, mm_cats_L, mm_cats_R, if_true, if_false, true_and, and_true, false_and, and_false, not_true_eq_false, not_false_eq_true, Int.reduceLE, Int.reduceLT, Int.reduceEq, Int.reduceNe, Int.reduceNeg, Int.reduceAdd, Int.reduceSub, Int.reduceMul, Nat.reduceAdd, Nat.reduceLeDiff, true_or, or_true, false_or, or_false, reduceIte, k_149, g54, A0, B0, w1, w2]
    · have sy : 144 ≤ sth (8 * (p + 31)) (q / 64) ∧ sth (8 * (p + 31)) (q / 64) ≤ 1830 := by
        unfold sth
        (repeat' split) <;> omega
      have dk := drk_b (x := 8 * (p + 31)) (y := sth (8 * (p + 31)) (q / 64)) (z := 60 + q % 64) (by omega) (by omega) sy.1 sy.2 (by omega) (by omega)
      obtain ⟨c1, c', r', s', u1, u2, u3, u4, u5, u6, u7, u8⟩ := st_pl (L := L) h.1 h.2.1 hI h.2.2.2.2.1.2.2.1 h.2.2.2.2.1.2.2.2.2.2 K5 (8 * (p + 31)) (sth (8 * (p + 31)) (q / 64)) (60 + q % 64) 3 (by omega) (by omega) (by omega) (by omega) (by omega) (by omega) (by omega) (by omega) dk.1 dk.2
      have S1 := s_sth (8 * (p + 31)) (q / 64) c (g_1 L) (by omega) (by omega)
      have e1 : w32 (p + 31) = p + 31 := wi32 (by omega) (by omega)
      have e2 : w32 (8 * (p + 31)) = 8 * (p + 31) := wi32 (by omega) (by omega)
      have e3 : w32 (60 + q % 64) = 60 + q % 64 := wi32 (by omega) (by omega)
      have e4 := sh_6 b.1 b.2
      have x2 := sx_45_2 h.1
      refine ⟨c', r', s', ?_, fun y2 y3 y4 => ⟨some (vI (8 * (p + 31))), some (vI (q / 64)), some (vI (sth (8 * (p + 31)) (q / 64))), ?_⟩, h.g u7 u8 u6, u7, u8⟩
      · by_cases p1 : p = 1
        · have q1 : ¬ q = 1 := fun t => pq ⟨p1, t⟩
          subst p1
          simp only [Int.reduceAdd, Int.reduceMul] at S1 u1
          simp only [xe_36_0, xe_36_1, xe_36_4, xe_36_5, xe_36_6, xe_36_9, xe_36_10, xe_36_11, xe_36_14, xe_36_15, xe_36_17, xe_36_18, xe_36_20, xe_36_21, xe_36_22 _ _ _ (some (vI _)) _ _ _ _ _ rfl, xe_36_22 _ _ _ (some (vR _)) _ _ _ _ _ rfl, xe_36_22 _ _ _ none _ _ _ _ _ rfl, xe_36_24, xe_36_25, xe_36_28, xe_36_29, xe_36_31, xe_36_33, xe_36_34, xe_36_36, xe_36_37, xe_36_40, xe_36_42, xe_36_43, xe_36_45, xe_36_46, xe_36_47, xe_36_50, xe_36_51, xe_36_52, xe_36_53, xe_36_54, xe_36_57, ite_self, mm_nL_I, mm_nL_R, mm_nL_0, Option.bind_some, Option.bind_none, bnd_ite, Option.toList_some, Option.toList_none, List.cons_append, List.nil_append, mm_cats_nil, mm_cats_I, mm_cats_L, mm_cats_R, if_true, if_false, true_and, and_true, false_and, and_false, not_true_eq_false, not_false_eq_true, Int.reduceLE, Int.reduceLT, Int.reduceEq, Int.reduceNe, Int.reduceNeg, Int.reduceAdd, Int.reduceSub, Int.reduceMul, Nat.reduceAdd, Nat.reduceLeDiff, true_or, or_true, false_or, or_false, reduceIte, k_45, k_48, k_16, q1, e1, e2, e3, e4, x2, S1, u1, u4, nu_63, (show w32 32 = 32 from by decide +kernel), (show w32 256 = 256 from by decide +kernel)]
        · simp only [xe_36_0, xe_36_1, xe_36_4, xe_36_5, xe_36_6, xe_36_9, xe_36_10, xe_36_11, xe_36_14, xe_36_15, xe_36_17, xe_36_18, xe_36_20, xe_36_21, xe_36_22 _ _ _ (some (vI _)) _ _ _ _ _ rfl, xe_36_22 _ _ _ (some (vR _)) _ _ _ _ _ rfl, xe_36_22 _ _ _ none _ _ _ _ _ rfl, xe_36_24, xe_36_25, xe_36_28, xe_36_29, xe_36_31, xe_36_33, xe_36_34, xe_36_36, xe_36_37, xe_36_40, xe_36_42, xe_36_43, xe_36_45, xe_36_46, xe_36_47, xe_36_50, xe_36_51, xe_36_52, xe_36_53, xe_36_54, xe_36_57, ite_self, mm_nL_I, mm_nL_R, mm_nL_0, Option.bind_some, Option.bind_none, bnd_ite, Option.toList_some, Option.toList_none, List.cons_append, List.nil_append, mm_cats_nil, mm_cats_I, mm_cats_L, mm_cats_R, if_true, if_false, true_and, and_true, false_and, and_false, not_true_eq_false, not_false_eq_true, Int.reduceLE, Int.reduceLT, Int.reduceEq, Int.reduceNe, Int.reduceNeg, Int.reduceAdd, Int.reduceSub, Int.reduceMul, Nat.reduceAdd, Nat.reduceLeDiff, true_or, or_true, false_or, or_false, reduceIte, k_45, k_48, k_16, p0, p1, e1, e2, e3, e4, x2, S1, u1, u4, nu_63]
      · have d1 : mm_div q 64 = q / 64 := nu_div (by omega) (by omega) (by omega) (by omega)
        have d2 : mm_rem q 64 = q % 64 := nu_rem (by omega) (by omega) (by omega) (by omega)
        have e5 := B0
        have M1 := s_sthM L (8 * (p + 31)) (q / 64) i y4 r (by omega) (by omega)
        rw [xe_176_80]
        have t : ev 176 117 [some (vR 149), some (vI i), y2, y3, y4] [] r (g_1 L) = ev 176 80 [some (vR 149), some (vI (i + 2)), some (vI (8 * (p + 31))), some (vI (q / 64)), some (vI (sth (8 * (p + 31)) (q / 64)))] [] r' (g_1 L) := by
          simp only [xe_176_117, xe_176_119, xe_176_120, xe_176_121, xe_176_124, xe_176_126, xe_176_127, xe_176_128 _ (some (vI _)) _ _ _ _ _ _ _ rfl, xe_176_128 _ (some (vR _)) _ _ _ _ _ _ _ rfl, xe_176_128 _ none _ _ _ _ _ _ _ rfl, xe_176_129, xe_176_130, xe_176_131, xe_176_132, xe_176_133, xe_176_136, xe_176_138, xe_176_139 _ _ (some (vI _)) _ _ _ _ _ _ rfl, xe_176_139 _ _ (some (vR _)) _ _ _ _ _ _ rfl, xe_176_139 _ _ none _ _ _ _ _ _ rfl, ite_self, mm_nL_I, mm_nL_R, mm_nL_0, Option.bind_some, Option.bind_none, bnd_ite, Option.toList_some, Option.toList_none, List.cons_append, List.nil_append, mm_cats_nil, mm_cats_I, mm_cats_L, mm_cats_R, if_true, if_false, true_and, and_true, false_and, and_false, not_true_eq_false, not_false_eq_true, Int.reduceLE, Int.reduceLT, Int.reduceEq, Int.reduceNe, Int.reduceNeg, Int.reduceAdd, Int.reduceSub, Int.reduceMul, Nat.reduceAdd, Nat.reduceLeDiff, true_or, or_true, false_or, or_false, reduceIte, k_149, A0, B0, w1, d1, e1, e2, M1]
          simp only [xe_176_189, xe_176_190, xe_176_191, xe_176_193, xe_176_195, xe_176_196, xe_176_197, xe_176_198, xe_176_199, xe_176_202, xe_176_204, xe_176_205, xe_176_206, xe_176_207, xe_176_210 (some (vI _)) _ _ _ _ _ _ _ rfl, xe_176_210 (some (vR _)) _ _ _ _ _ _ _ rfl, xe_176_210 none _ _ _ _ _ _ _ rfl, xe_176_213, ite_self, mm_nL_I, mm_nL_R, mm_nL_0, Option.bind_some, Option.bind_none, bnd_ite, Option.toList_some, Option.toList_none, List.cons_append, List.nil_append, mm_cats_nil, mm_cats_I, mm_cats_L, mm_cats_R, if_true, if_false, true_and, and_true, false_and, and_false, not_true_eq_false, not_false_eq_true, Int.reduceLE, Int.reduceLT, Int.reduceEq, Int.reduceNe, Int.reduceNeg, Int.reduceAdd, Int.reduceSub, Int.reduceMul, Nat.reduceAdd, Nat.reduceLeDiff, true_or, or_true, false_or, or_false, reduceIte, k_149, B0, w1, w2, d2, e3, u5]
        by_cases p1 : p = 1
        · have q1 : ¬ q = 1 := fun t => pq ⟨p1, t⟩
          rw [← t]
          rw [p1] at A0
          simp only [xe_176_81, xe_176_83, xe_176_86, xe_176_87, xe_176_88, xe_176_91, xe_176_94, xe_176_95, xe_176_96, xe_176_99, xe_176_100, xe_176_103, xe_176_104, xe_176_105, xe_176_106, xe_176_107, xe_176_110, xe_176_111, xe_176_114, xe_176_210 (some (vI _)) _ _ _ _ _ _ _ rfl, xe_176_210 (some (vR _)) _ _ _ _ _ _ _ rfl, xe_176_210 none _ _ _ _ _ _ _ rfl, xe_176_213, xe_176_216, xe_176_217 (some (vI _)) _ _ _ _ _ _ _ _ rfl, xe_176_217 (some (vR _)) _ _ _ _ _ _ _ _ rfl, xe_176_217 none _ _ _ _ _ _ _ _ rfl, ite_self, mm_nL_I, mm_nL_R, mm_nL_0, Option.bind_some, Option.bind_none, bnd_ite, Option.toList_some, Option.toList_none, List.cons_append, List.nil_append, mm_cats_nil, mm_cats_I, mm_cats_L, mm_cats_R, if_true, if_false, true_and, and_true, false_and, and_false, not_true_eq_false, not_false_eq_true, Int.reduceLE, Int.reduceLT, Int.reduceEq, Int.reduceNe, Int.reduceNeg, Int.reduceAdd, Int.reduceSub, Int.reduceMul, Nat.reduceAdd, Nat.reduceLeDiff, true_or, or_true, false_or, or_false, reduceIte, k_149, g54, A0, B0, w1, q1]
        · rw [← t]
          simp only [xe_176_81, xe_176_83, xe_176_86, xe_176_87, xe_176_88, xe_176_91, xe_176_94, xe_176_95, xe_176_96, xe_176_99, xe_176_100, xe_176_103, xe_176_104, xe_176_105, xe_176_106, xe_176_107, xe_176_110, xe_176_111, xe_176_114, xe_176_210 (some (vI _)) _ _ _ _ _ _ _ rfl, xe_176_210 (some (vR _)) _ _ _ _ _ _ _ rfl, xe_176_210 none _ _ _ _ _ _ _ rfl, xe_176_213, xe_176_216, xe_176_217 (some (vI _)) _ _ _ _ _ _ _ _ rfl, xe_176_217 (some (vR _)) _ _ _ _ _ _ _ _ rfl, xe_176_217 none _ _ _ _ _ _ _ _ rfl, ite_self, mm_nL_I, mm_nL_R, mm_nL_0, Option.bind_some, Option.bind_none, bnd_ite, Option.toList_some, Option.toList_none, List.cons_append, List.nil_append, mm_cats_nil, mm_cats_I, mm_cats_L, mm_cats_R, if_true, if_false, true_and, and_true, false_and, and_false, not_true_eq_false, not_false_eq_true, Int.reduceLE, Int.reduceLT, Int.reduceEq, Int.reduceNe, Int.reduceNeg, Int.reduceAdd, Int.reduceSub, Int.reduceMul, Nat.reduceAdd, Nat.reduceLeDiff, true_or, or_true, false_or, or_false, reduceIte, k_149, g54, A0, p0, p1]
end S4
