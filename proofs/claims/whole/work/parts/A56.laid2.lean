/-! laid, on both sides -/
def cz (c : MM) (f g : Int → Int) : MM := fun b j => if b = 144 ∧ 0 ≤ j ∧ j < 4 then f j else if b = 145 ∧ 0 ≤ j ∧ j < 4 then g j else cpw c b j
theorem cz_4 (c : MM) (f g : Int → Int) (p v : Int) (h0 : 0 ≤ p) (h1 : p < 4) : mset (cz c f g) 144 p v = cz c (up f p v) g := by
  funext b j; unfold mset cz up; (repeat' split) <;> first | rfl | (exfalso; omega)
theorem cz_5 (c : MM) (f g : Int → Int) (p v : Int) (h0 : 0 ≤ p) (h1 : p < 4) : mset (cz c f g) 145 p v = cz c f (up g p v) := by
  funext b j; unfold mset cz up; (repeat' split) <;> first | rfl | (exfalso; omega)
theorem cz_b (c : MM) (f g : Int → Int) (b : Int) (h : ¬ (143 ≤ b ∧ b ≤ 145)) : cz c f g b = c b := by
  funext j; unfold cz; rw [if_neg (by omega), if_neg (by omega), cpw_b _ _ h]
theorem cz_143 (c : MM) (f g : Int → Int) : cz c f g 143 = cpw c 143 := by
  funext j; unfold cz; rw [if_neg (by omega), if_neg (by omega)]
theorem cz_i (c : MM) : cz c (c 135) (c 136) = cpw c := by
  funext b j; unfold cz cpw; (repeat' split) <;> first | rfl | (exfalso; omega)
theorem cz_144 {c r : MM} (h : Rz c r) (f g : Int → Int) (o : Int) (hf : ∀ j, 0 ≤ j → j < 4 → f j = pm (c 135) o j) (hg : ∀ j, 0 ≤ j → j < 4 → g j = pm (c 136) o j) : cz c f g 144 = pm (c 135) o ∧ cz c f g 145 = pm (c 136) o := by
  have z := cpw_144 h
  refine ⟨?_, ?_⟩
  · funext j
    unfold cz
    by_cases e : 0 ≤ j ∧ j < 4
    · rw [if_pos ⟨rfl, e⟩, hf j e.1 e.2]
    · rw [if_neg (fun q => e q.2), if_neg (by omega), z.1, (h.2.2 j e).1]
      unfold pm
      rw [if_neg (by omega), if_neg (by omega), if_neg (by omega), if_neg (by omega)]
  · funext j
    unfold cz
    rw [if_neg (by omega)]
    by_cases e : 0 ≤ j ∧ j < 4
    · rw [if_pos ⟨rfl, e⟩, hg j e.1 e.2]
    · rw [if_neg (fun q => e q.2), z.2, (h.2.2 j e).2.1]
      unfold pm
      rw [if_neg (by omega), if_neg (by omega), if_neg (by omega), if_neg (by omega)]
theorem SXz {c : MM} (h : SX c) (f g : Int → Int) : SX (cz c f g) := h.cpw.cg fun a k hp => by
  have : ¬ a = 144 ∧ ¬ a = 145 := by
    rcases isP_row hp with q | q
    · simp only [List.mem_cons, List.not_mem_nil, or_false] at q; omega
    · omega
  unfold cz
  rw [if_neg (by omega), if_neg (by omega)]
theorem s_lay (L p l : Int) (c : MM) (f g S sw em : Int → Int) (hX : SX c) (p0 : 0 ≤ p) (p3 : p < 4) (l0 : 0 ≤ l) (l3 : l < 4) : ev 143 0 [some (vR 10), some (vI p), some (vI l)] [] (tm (cz c f g) 146 S sw em) (g_1 L) = some (none, tm (cz c (up f p (c 135 l)) (up g p (c 136 l))) 146 S sw em, g_1 L) := by
  have b := fun f g b hb => cz_b c f g b hb
  have e0 : ∀ f g, cz c f g 143 0 = 144 := fun f g => sx_143_0 (SXz hX f g)
  have e1 : ∀ f g, cz c f g 143 1 = 145 := fun f g => sx_143_1 (SXz hX f g)
  have m4 : ∀ c S sw em k v, mset (tm c 146 S sw em) 144 k v = tm (mset c 144 k v) 146 S sw em := fun c S sw em k v => tx_ms _ _ _ _ _ _ _ (by omega)
  have m5 : ∀ c S sw em k v, mset (tm c 146 S sw em) 145 k v = tm (mset c 145 k v) 146 S sw em := fun c S sw em k v => tx_ms _ _ _ _ _ _ _ (by omega)
  have q4 := fun f g v => cz_4 c f g p v p0 p3
  have q5 := fun f g v => cz_5 c f g p v p0 p3
  simp only [xe_143_0, xe_143_1, xe_143_4, xe_143_7, xe_143_8, xe_143_11, xe_143_14, xe_143_15, xe_143_18, xe_143_21, xe_143_22, xe_143_23, xe_143_26, xe_143_29, xe_143_30, xe_143_31, xe_143_32, xe_143_33, xe_143_36, xe_143_39, xe_143_40, xe_143_41, xe_143_44, xe_143_47, xe_143_48, xe_143_49, xe_143_50, ite_self, mm_nL_I, mm_nL_R, mm_nL_0, Option.bind_some, Option.bind_none, bnd_ite, Option.toList_some, Option.toList_none, List.cons_append, List.nil_append, mm_cats_nil, mm_cats_I, mm_cats_L, mm_cats_R, if_true, if_false, true_and, and_true, false_and, and_false, not_true_eq_false, not_false_eq_true, Int.reduceLE, Int.reduceLT, Int.reduceEq, Int.reduceNe, Int.reduceNeg, Int.reduceAdd, Int.reduceSub, Int.reduceMul, Nat.reduceAdd, Nat.reduceLeDiff, true_or, or_true, false_or, or_false, reduceIte, k_10, k_134, k_135, l_135, k_136, l_136, k_143, k_144, l_144, k_145, l_145, s_isLaneX, bi, p0, p3, l0, l3, tx_10, tx_134, tx_135, tx_136, tx_143, b _ _ 10 (by omega), b _ _ 134 (by omega), b _ _ 135 (by omega), b _ _ 136 (by omega), e0, e1, sx_10_8 hX, sx_10_11 hX, sx_134_0 hX, sx_134_1 hX, m4, m5, q4, q5]
theorem dg_o {a b d x : Int} (a0 : 0 ≤ a) (a3 : a < 4) (b0 : 0 ≤ b) (b3 : b < 4) (d0 : 0 ≤ d) (d3 : d < 4) (x0 : 0 ≤ x) (x3 : x < 4) : (1000 * a + 100 * b + 10 * d + x) / 1000 = a ∧ (1000 * a + 100 * b + 10 * d + x) / 100 % 10 = b ∧ (1000 * a + 100 * b + 10 * d + x) / 10 % 10 = d ∧ (1000 * a + 100 * b + 10 * d + x) % 10 = x := by
  have e1 : (1000 * a + 100 * b + 10 * d + x) / 100 = 10 * a + b := by omega
  have e2 : (1000 * a + 100 * b + 10 * d + x) / 10 = 100 * a + 10 * b + d := by omega
  rw [e1, e2]
  refine ⟨?_, ?_, ?_, ?_⟩ <;> omega
section CL
variable {L : Int} {c r : MM}
def lf (c : MM) (o : Int) : Int := pr (pm (c 135) o) (pm (c 136) o) (c 134 2) (c 134 3)
theorem wo_pm {ls : Int → Int} (h : wo ls) (o : Int) (h0 : 0 ≤ o) (h4 : o < 4000) (d : o % 10 < 4 ∧ o / 10 % 10 < 4 ∧ o / 100 % 10 < 4) : wo (pm ls o) := fun j j0 j3 => by
  unfold pm
  have a := h (o / 1000) (by omega) (by omega)
  have b := h (o / 100 % 10) (by omega) (by omega)
  have e := h (o / 10 % 10) (by omega) (by omega)
  have f := h (o % 10) (by omega) (by omega)
  (repeat' split) <;> first | assumption | omega
theorem so_pm {ls : Int → Int} (h : so2 ls) (o : Int) (h0 : 0 ≤ o) (h4 : o < 4000) (d : o % 10 < 4 ∧ o / 10 % 10 < 4 ∧ o / 100 % 10 < 4) : so2 (pm ls o) := fun j j0 j3 => by
  unfold pm
  have a := h (o / 1000) (by omega) (by omega)
  have b := h (o / 100 % 10) (by omega) (by omega)
  have e := h (o / 10 % 10) (by omega) (by omega)
  have f := h (o % 10) (by omega) (by omega)
  (repeat' split) <;> first | assumption | omega
theorem la_X1 (h : RR c r) (w i : Int) (s : Int × Int) (f g S sw em : Int → Int) (y5 y6 y7 y8 y9 : Option MV) (i0 : 0 ≤ i) (i1 : i < 64) :
    ∃ f' g' S' sw' em' z5 z6 z7 z8 z9, ev 142 30 [some (vR 10), some (vI w), some (vI s.1), some (vI s.2), some (vI i), y5, y6, y7, y8, y9] [] (tm (cz c f g) 146 S sw em) (g_1 L) = ev 142 30 [some (vR 10), some (vI w), some (vI (if dup i = true then s else lst (lf c) s (oro i)).1), some (vI (if dup i = true then s else lst (lf c) s (oro i)).2), some (vI (i + 1)), z5, z6, z7, z8, z9] [] (tm (cz c f' g') 146 S' sw' em') (g_1 L) := by
  have hX := h.1
  obtain ⟨w1, w2, w3, w4, w5, w6⟩ := h.2.2.2.2.2.2.2.2.1
  have g0 : ¬ 64 ≤ i := by omega
  have d1 : mm_div i 16 = i / 16 := nu_div i0 (by omega) (by omega) (by omega)
  have d2 : mm_div i 4 = i / 4 := nu_div i0 (by omega) (by omega) (by omega)
  have d3 : mm_rem (i / 4) 4 = i / 4 % 4 := nu_rem (by omega) (by omega) (by omega) (by omega)
  have d4 : mm_rem i 4 = i % 4 := nu_rem i0 (by omega) (by omega) (by omega)
  have wi : w32 (i + 1) = i + 1 := wi32 (by omega) (by omega)
  unfold dup
  generalize ha : i / 16 = a at *
  generalize hb : i / 4 % 4 = b at *
  generalize hd : i % 4 = d at *
  by_cases e1 : a = b
  · refine ⟨f, g, S, sw, em, some (vI a), some (vI b), some (vI d), y8, y9, ?_⟩
    have q : (a = b ∨ a = d ∨ b = d) := Or.inl e1
    rw [xe_142_30]
    simp only [xe_142_32, xe_142_34, xe_142_37, xe_142_39, xe_142_41, xe_142_42 _ _ _ _ (some (vI _)) _ _ _ _ _ _ _ _ _ rfl, xe_142_42 _ _ _ _ (some (vR _)) _ _ _ _ _ _ _ _ _ rfl, xe_142_42 _ _ _ _ none _ _ _ _ _ _ _ _ _ rfl, xe_142_44, xe_142_46, xe_142_47, xe_142_48, xe_142_49, xe_142_50 _ _ _ _ _ (some (vI _)) _ _ _ _ _ _ _ _ rfl, xe_142_50 _ _ _ _ _ (some (vR _)) _ _ _ _ _ _ _ _ rfl, xe_142_50 _ _ _ _ _ none _ _ _ _ _ _ _ _ rfl, xe_142_52, xe_142_54, xe_142_55, xe_142_56 _ _ _ _ _ _ (some (vI _)) _ _ _ _ _ _ _ rfl, xe_142_56 _ _ _ _ _ _ (some (vR _)) _ _ _ _ _ _ _ rfl, xe_142_56 _ _ _ _ _ _ none _ _ _ _ _ _ _ rfl, xe_142_58, xe_142_60, xe_142_62, xe_142_65, xe_142_67, xe_142_69, xe_142_72, xe_142_74, xe_142_76, xe_142_79, xe_142_82, xe_142_84, xe_142_86, xe_142_87, xe_142_89, xe_142_90, xe_142_92, xe_142_93 _ _ _ _ _ _ _ (some (vI _)) _ _ _ _ _ _ rfl, xe_142_93 _ _ _ _ _ _ _ (some (vR _)) _ _ _ _ _ _ rfl, xe_142_93 _ _ _ _ _ _ _ none _ _ _ _ _ _ rfl, xe_142_95, xe_142_96, xe_142_97, xe_142_99, xe_142_102, xe_142_103, xe_142_104, xe_142_106, xe_142_109, xe_142_110, xe_142_111, xe_142_113, xe_142_116, xe_142_117, xe_142_118, xe_142_120, xe_142_123, xe_142_124, xe_142_127, xe_142_128, xe_142_131, xe_142_134 _ _ _ _ _ _ _ _ (some (vI _)) _ _ _ _ _ rfl, xe_142_134 _ _ _ _ _ _ _ _ (some (vR _)) _ _ _ _ _ rfl, xe_142_134 _ _ _ _ _ _ _ _ none _ _ _ _ _ rfl, xe_142_136, xe_142_138, xe_142_139, xe_142_142, xe_142_144 _ (some (vI _)) _ _ _ _ _ _ _ _ _ _ _ _ rfl, xe_142_144 _ (some (vR _)) _ _ _ _ _ _ _ _ _ _ _ _ rfl, xe_142_144 _ none _ _ _ _ _ _ _ _ _ _ _ _ rfl, xe_142_145, xe_142_148, xe_142_150, xe_142_151, xe_142_153, xe_142_155, xe_142_156, xe_142_157, xe_142_159, xe_142_161, xe_142_162, xe_142_163, xe_142_165, xe_142_166 _ _ (some (vI _)) _ _ _ _ _ _ _ _ _ _ _ rfl, xe_142_166 _ _ (some (vR _)) _ _ _ _ _ _ _ _ _ _ _ rfl, xe_142_166 _ _ none _ _ _ _ _ _ _ _ _ _ _ rfl, xe_142_167 _ _ _ (some (vI _)) _ _ _ _ _ _ _ _ _ rfl, xe_142_167 _ _ _ (some (vR _)) _ _ _ _ _ _ _ _ _ rfl, xe_142_167 _ _ _ none _ _ _ _ _ _ _ _ _ rfl, xe_142_170, xe_142_173, xe_142_174, xe_142_177, xe_142_178, xe_142_181, xe_142_182, ite_self, mm_nL_I, mm_nL_R, mm_nL_0, Option.bind_some, Option.bind_none, bnd_ite, Option.toList_some, Option.toList_none, List.cons_append, List.nil_append, mm_cats_nil, mm_cats_I, mm_cats_L, mm_cats_R, if_true, if_false, true_and, and_true, false_and, and_false, not_true_eq_false, not_false_eq_true, Int.reduceLE, Int.reduceLT, Int.reduceEq, Int.reduceNe, Int.reduceNeg, Int.reduceAdd, Int.reduceSub, Int.reduceMul, Nat.reduceAdd, Nat.reduceLeDiff, true_or, or_true, false_or, or_false, reduceIte, g0, d1, d2, d3, d4, wi, q, eq_true e1, decide_true]
  · by_cases e2 : a = d
    · refine ⟨f, g, S, sw, em, some (vI a), some (vI b), some (vI d), y8, y9, ?_⟩
      have q : (a = b ∨ a = d ∨ b = d) := Or.inr (Or.inl e2)
      rw [xe_142_30]
      simp only [xe_142_32, xe_142_34, xe_142_37, xe_142_39, xe_142_41, xe_142_42 _ _ _ _ (some (vI _)) _ _ _ _ _ _ _ _ _ rfl, xe_142_42 _ _ _ _ (some (vR _)) _ _ _ _ _ _ _ _ _ rfl, xe_142_42 _ _ _ _ none _ _ _ _ _ _ _ _ _ rfl, xe_142_44, xe_142_46, xe_142_47, xe_142_48, xe_142_49, xe_142_50 _ _ _ _ _ (some (vI _)) _ _ _ _ _ _ _ _ rfl, xe_142_50 _ _ _ _ _ (some (vR _)) _ _ _ _ _ _ _ _ rfl, xe_142_50 _ _ _ _ _ none _ _ _ _ _ _ _ _ rfl, xe_142_52, xe_142_54, xe_142_55, xe_142_56 _ _ _ _ _ _ (some (vI _)) _ _ _ _ _ _ _ rfl, xe_142_56 _ _ _ _ _ _ (some (vR _)) _ _ _ _ _ _ _ rfl, xe_142_56 _ _ _ _ _ _ none _ _ _ _ _ _ _ rfl, xe_142_58, xe_142_60, xe_142_62, xe_142_65, xe_142_67, xe_142_69, xe_142_72, xe_142_74, xe_142_76, xe_142_79, xe_142_82, xe_142_84, xe_142_86, xe_142_87, xe_142_89, xe_142_90, xe_142_92, xe_142_93 _ _ _ _ _ _ _ (some (vI _)) _ _ _ _ _ _ rfl, xe_142_93 _ _ _ _ _ _ _ (some (vR _)) _ _ _ _ _ _ rfl, xe_142_93 _ _ _ _ _ _ _ none _ _ _ _ _ _ rfl, xe_142_95, xe_142_96, xe_142_97, xe_142_99, xe_142_102, xe_142_103, xe_142_104, xe_142_106, xe_142_109, xe_142_110, xe_142_111, xe_142_113, xe_142_116, xe_142_117, xe_142_118, xe_142_120, xe_142_123, xe_142_124, xe_142_127, xe_142_128, xe_142_131, xe_142_134 _ _ _ _ _ _ _ _ (some (vI _)) _ _ _ _ _ rfl, xe_142_134 _ _ _ _ _ _ _ _ (some (vR _)) _ _ _ _ _ rfl, xe_142_134 _ _ _ _ _ _ _ _ none _ _ _ _ _ rfl, xe_142_136, xe_142_138, xe_142_139, xe_142_142, xe_142_144 _ (some (vI _)) _ _ _ _ _ _ _ _ _ _ _ _ rfl, xe_142_144 _ (some (vR _)) _ _ _ _ _ _ _ _ _ _ _ _ rfl, xe_142_144 _ none _ _ _ _ _ _ _ _ _ _ _ _ rfl, xe_142_145, xe_142_148, xe_142_150, xe_142_151, xe_142_153, xe_142_155, xe_142_156, xe_142_157, xe_142_159, xe_142_161, xe_142_162, xe_142_163, xe_142_165, xe_142_166 _ _ (some (vI _)) _ _ _ _ _ _ _ _ _ _ _ rfl, xe_142_166 _ _ (some (vR _)) _ _ _ _ _ _ _ _ _ _ _ rfl, xe_142_166 _ _ none _ _ _ _ _ _ _ _ _ _ _ rfl, xe_142_167 _ _ _ (some (vI _)) _ _ _ _ _ _ _ _ _ rfl, xe_142_167 _ _ _ (some (vR _)) _ _ _ _ _ _ _ _ _ rfl, xe_142_167 _ _ _ none _ _ _ _ _ _ _ _ _ rfl, xe_142_170, xe_142_173, xe_142_174, xe_142_177, xe_142_178, xe_142_181, xe_142_182, ite_self, mm_nL_I, mm_nL_R, mm_nL_0, Option.bind_some, Option.bind_none, bnd_ite, Option.toList_some, Option.toList_none, List.cons_append, List.nil_append, mm_cats_nil, mm_cats_I, mm_cats_L, mm_cats_R, if_true, if_false, true_and, and_true, false_and, and_false, not_true_eq_false, not_false_eq_true, Int.reduceLE, Int.reduceLT, Int.reduceEq, Int.reduceNe, Int.reduceNeg, Int.reduceAdd, Int.reduceSub, Int.reduceMul, Nat.reduceAdd, Nat.reduceLeDiff, true_or, or_true, false_or, or_false, reduceIte, g0, d1, d2, d3, d4, wi, q, e1, eq_true e2, decide_true]
    · by_cases e3 : b = d
      · refine ⟨f, g, S, sw, em, some (vI a), some (vI b), some (vI d), y8, y9, ?_⟩
        have q : (a = b ∨ a = d ∨ b = d) := Or.inr (Or.inr e3)
        rw [xe_142_30]
        simp only [xe_142_32, xe_142_34, xe_142_37, xe_142_39, xe_142_41, xe_142_42 _ _ _ _ (some (vI _)) _ _ _ _ _ _ _ _ _ rfl, xe_142_42 _ _ _ _ (some (vR _)) _ _ _ _ _ _ _ _ _ rfl, xe_142_42 _ _ _ _ none _ _ _ _ _ _ _ _ _ rfl, xe_142_44, xe_142_46, xe_142_47, xe_142_48, xe_142_49, xe_142_50 _ _ _ _ _ (some (vI _)) _ _ _ _ _ _ _ _ rfl, xe_142_50 _ _ _ _ _ (some (vR _)) _ _ _ _ _ _ _ _ rfl, xe_142_50 _ _ _ _ _ none _ _ _ _ _ _ _ _ rfl, xe_142_52, xe_142_54, xe_142_55, xe_142_56 _ _ _ _ _ _ (some (vI _)) _ _ _ _ _ _ _ rfl, xe_142_56 _ _ _ _ _ _ (some (vR _)) _ _ _ _ _ _ _ rfl, xe_142_56 _ _ _ _ _ _ none _ _ _ _ _ _ _ rfl, xe_142_58, xe_142_60, xe_142_62, xe_142_65, xe_142_67, xe_142_69, xe_142_72, xe_142_74, xe_142_76, xe_142_79, xe_142_82, xe_142_84, xe_142_86, xe_142_87, xe_142_89, xe_142_90, xe_142_92, xe_142_93 _ _ _ _ _ _ _ (some (vI _)) _ _ _ _ _ _ rfl, xe_142_93 _ _ _ _ _ _ _ (some (vR _)) _ _ _ _ _ _ rfl, xe_142_93 _ _ _ _ _ _ _ none _ _ _ _ _ _ rfl, xe_142_95, xe_142_96, xe_142_97, xe_142_99, xe_142_102, xe_142_103, xe_142_104, xe_142_106, xe_142_109, xe_142_110, xe_142_111, xe_142_113, xe_142_116, xe_142_117, xe_142_118, xe_142_120, xe_142_123, xe_142_124, xe_142_127, xe_142_128, xe_142_131, xe_142_134 _ _ _ _ _ _ _ _ (some (vI _)) _ _ _ _ _ rfl, xe_142_134 _ _ _ _ _ _ _ _ (some (vR _)) _ _ _ _ _ rfl, xe_142_134 _ _ _ _ _ _ _ _ none _ _ _ _ _ rfl, xe_142_136, xe_142_138, xe_142_139, xe_142_142, xe_142_144 _ (some (vI _)) _ _ _ _ _ _ _ _ _ _ _ _ rfl, xe_142_144 _ (some (vR _)) _ _ _ _ _ _ _ _ _ _ _ _ rfl, xe_142_144 _ none _ _ _ _ _ _ _ _ _ _ _ _ rfl, xe_142_145, xe_142_148, xe_142_150, xe_142_151, xe_142_153, xe_142_155, xe_142_156, xe_142_157, xe_142_159, xe_142_161, xe_142_162, xe_142_163, xe_142_165, xe_142_166 _ _ (some (vI _)) _ _ _ _ _ _ _ _ _ _ _ rfl, xe_142_166 _ _ (some (vR _)) _ _ _ _ _ _ _ _ _ _ _ rfl, xe_142_166 _ _ none _ _ _ _ _ _ _ _ _ _ _ rfl, xe_142_167 _ _ _ (some (vI _)) _ _ _ _ _ _ _ _ _ rfl, xe_142_167 _ _ _ (some (vR _)) _ _ _ _ _ _ _ _ _ rfl, xe_142_167 _ _ _ none _ _ _ _ _ _ _ _ _ rfl, xe_142_170, xe_142_173, xe_142_174, xe_142_177, xe_142_178, xe_142_181, xe_142_182, ite_self, mm_nL_I, mm_nL_R, mm_nL_0, Option.bind_some, Option.bind_none, bnd_ite, Option.toList_some, Option.toList_none, List.cons_append, List.nil_append, mm_cats_nil, mm_cats_I, mm_cats_L, mm_cats_R, if_true, if_false, true_and, and_true, false_and, and_false, not_true_eq_false, not_false_eq_true, Int.reduceLE, Int.reduceLT, Int.reduceEq, Int.reduceNe, Int.reduceNeg, Int.reduceAdd, Int.reduceSub, Int.reduceMul, Nat.reduceAdd, Nat.reduceLeDiff, true_or, or_true, false_or, or_false, reduceIte, g0, d1, d2, d3, d4, wi, q, e1, e2, eq_true e3, decide_true]
      · have q : ¬ (a = b ∨ a = d ∨ b = d) := by omega
        have bd : 0 ≤ a ∧ a < 4 ∧ 0 ≤ b ∧ b < 4 ∧ 0 ≤ d ∧ d < 4 := by omega
        have bx : 0 ≤ 6 - a - b - d ∧ 6 - a - b - d < 4 := by omega
        have oe : oro i = 1000 * a + 100 * b + 10 * d + (6 - a - b - d) := by unfold oro; rw [ha, hb, hd]
        generalize hx : 6 - a - b - d = x at *
        obtain ⟨o1, o2, o3, o4⟩ := dg_o bd.1 bd.2.1 bd.2.2.1 bd.2.2.2.1 bd.2.2.2.2.1 bd.2.2.2.2.2 bx.1 bx.2
        rw [← oe] at o1 o2 o3 o4
        have y0 := fun f g S sw em => s_lay L 0 a c f g S sw em hX (by omega) (by omega) (by omega) (by omega)
        have y1 := fun f g S sw em => s_lay L 1 b c f g S sw em hX (by omega) (by omega) (by omega) (by omega)
        have y2 := fun f g S sw em => s_lay L 2 d c f g S sw em hX (by omega) (by omega) (by omega) (by omega)
        have y3 := fun f g S sw em => s_lay L 3 x c f g S sw em hX (by omega) (by omega) (by omega) (by omega)
        have pv : ∀ (ls f : Int → Int) j, 0 ≤ j → j < 4 → up (up (up (up f 0 (ls a)) 1 (ls b)) 2 (ls d)) 3 (ls x) j = pm ls (oro i) j := fun ls f j j0 j3 => by
          unfold pm; rw [o1, o2, o3, o4]
          have jq : j = 0 ∨ j = 1 ∨ j = 2 ∨ j = 3 := by omega
          rcases jq with rfl | rfl | rfl | rfl <;> rfl
        have Z := cz_144 h.2.2.2.2.2.2.2.2.2.1 _ _ (oro i) (pv (c 135) f) (pv (c 136) g)
        have oi : 0 ≤ oro i ∧ oro i < 4000 := by omega
        have hz := SXz hX (up (up (up (up f 0 (c 135 a)) 1 (c 135 b)) 2 (c 135 d)) 3 (c 135 x)) (up (up (up (up g 0 (c 136 a)) 1 (c 136 b)) 2 (c 136 d)) 3 (c 136 x))
        have ww := wo_pm (p_wo h).1 (oro i) oi.1 oi.2 (by omega)
        obtain ⟨S', sw', em', F, hR⟩ := s_finT L 143 (c 134 2) (c 134 3) (cz c (up (up (up (up f 0 (c 135 a)) 1 (c 135 b)) 2 (c 135 d)) 3 (c 135 x)) (up (up (up (up g 0 (c 136 a)) 1 (c 136 b)) 2 (c 136 d)) 3 (c 136 x))) (pm (c 135) (oro i)) (pm (c 136) (oro i)) S sw em (by unfold Rst; rw [cz_b _ _ _ 1 (by omega)]; exact h.2.2.1.1) (TPx hz) (WPy hz) (by omega) Z.1 Z.2 (by rw [cz_143, cpw_143]; rfl) (by rw [cz_143, cpw_143]; rfl) ww w3 w4 w5
        have lfe : pr (pm (c 135) (oro i)) (pm (c 136) (oro i)) (c 134 2) (c 134 3) = lf c (oro i) := rfl
        rw [lfe] at F
        have cb := fun f g => cz_b c f g 10 (by omega)
        have v1 : w32 (6 - a) = 6 - a := wi32 (by omega) (by omega)
        have v2 : w32 (6 - a - b) = 6 - a - b := wi32 (by omega) (by omega)
        have v3 : w32 (6 - a - b - d) = x := by rw [hx]; exact wi32 (by omega) (by omega)
        have u1 : w32 (1000 * a) = 1000 * a := wi32 (by omega) (by omega)
        have u2 : w32 (100 * b) = 100 * b := wi32 (by omega) (by omega)
        have u3 : w32 (1000 * a + 100 * b) = 1000 * a + 100 * b := wi32 (by omega) (by omega)
        have u4 : w32 (10 * d) = 10 * d := wi32 (by omega) (by omega)
        have u5 : w32 (1000 * a + 100 * b + 10 * d) = 1000 * a + 100 * b + 10 * d := wi32 (by omega) (by omega)
        have u6 : w32 (1000 * a + 100 * b + 10 * d + x) = oro i := by rw [oe]; exact wi32 (by omega) (by omega)
        by_cases p : s.1 < lf c (oro i)
        · have p' : ¬ lf c (oro i) ≤ s.1 := by omega
          have le : lst (lf c) s (oro i) = (lf c (oro i), oro i) := by unfold lst; rw [if_pos p]
          refine ⟨up (up (up (up f 0 (c 135 a)) 1 (c 135 b)) 2 (c 135 d)) 3 (c 135 x), up (up (up (up g 0 (c 136 a)) 1 (c 136 b)) 2 (c 136 d)) 3 (c 136 x), S', sw', em', some (vI a), some (vI b), some (vI d), some (vI x), some (vI (lf c (oro i))), ?_⟩
          rw [xe_142_30]
          simp only [xe_142_32, xe_142_34, xe_142_37, xe_142_39, xe_142_41, xe_142_42 _ _ _ _ (some (vI _)) _ _ _ _ _ _ _ _ _ rfl, xe_142_42 _ _ _ _ (some (vR _)) _ _ _ _ _ _ _ _ _ rfl, xe_142_42 _ _ _ _ none _ _ _ _ _ _ _ _ _ rfl, xe_142_44, xe_142_46, xe_142_47, xe_142_48, xe_142_49, xe_142_50 _ _ _ _ _ (some (vI _)) _ _ _ _ _ _ _ _ rfl, xe_142_50 _ _ _ _ _ (some (vR _)) _ _ _ _ _ _ _ _ rfl, xe_142_50 _ _ _ _ _ none _ _ _ _ _ _ _ _ rfl, xe_142_52, xe_142_54, xe_142_55, xe_142_56 _ _ _ _ _ _ (some (vI _)) _ _ _ _ _ _ _ rfl, xe_142_56 _ _ _ _ _ _ (some (vR _)) _ _ _ _ _ _ _ rfl, xe_142_56 _ _ _ _ _ _ none _ _ _ _ _ _ _ rfl, xe_142_58, xe_142_60, xe_142_62, xe_142_65, xe_142_67, xe_142_69, xe_142_72, xe_142_74, xe_142_76, xe_142_79, xe_142_82, xe_142_84, xe_142_86, xe_142_87, xe_142_89, xe_142_90, xe_142_92, xe_142_93 _ _ _ _ _ _ _ (some (vI _)) _ _ _ _ _ _ rfl, xe_142_93 _ _ _ _ _ _ _ (some (vR _)) _ _ _ _ _ _ rfl, xe_142_93 _ _ _ _ _ _ _ none _ _ _ _ _ _ rfl, xe_142_95, xe_142_96, xe_142_97, xe_142_99, xe_142_102, xe_142_103, xe_142_104, xe_142_106, xe_142_109, xe_142_110, xe_142_111, xe_142_113, xe_142_116, xe_142_117, xe_142_118, xe_142_120, xe_142_123, xe_142_124, xe_142_127, xe_142_128, xe_142_131, xe_142_134 _ _ _ _ _ _ _ _ (some (vI _)) _ _ _ _ _ rfl, xe_142_134 _ _ _ _ _ _ _ _ (some (vR _)) _ _ _ _ _ rfl, xe_142_134 _ _ _ _ _ _ _ _ none _ _ _ _ _ rfl, xe_142_136, xe_142_138, xe_142_139, xe_142_142, xe_142_144 _ (some (vI _)) _ _ _ _ _ _ _ _ _ _ _ _ rfl, xe_142_144 _ (some (vR _)) _ _ _ _ _ _ _ _ _ _ _ _ rfl, xe_142_144 _ none _ _ _ _ _ _ _ _ _ _ _ _ rfl, xe_142_145, xe_142_148, xe_142_150, xe_142_151, xe_142_153, xe_142_155, xe_142_156, xe_142_157, xe_142_159, xe_142_161, xe_142_162, xe_142_163, xe_142_165, xe_142_166 _ _ (some (vI _)) _ _ _ _ _ _ _ _ _ _ _ rfl, xe_142_166 _ _ (some (vR _)) _ _ _ _ _ _ _ _ _ _ _ rfl, xe_142_166 _ _ none _ _ _ _ _ _ _ _ _ _ _ rfl, xe_142_167 _ _ _ (some (vI _)) _ _ _ _ _ _ _ _ _ rfl, xe_142_167 _ _ _ (some (vR _)) _ _ _ _ _ _ _ _ _ rfl, xe_142_167 _ _ _ none _ _ _ _ _ _ _ _ _ rfl, xe_142_170, xe_142_173, xe_142_174, xe_142_177, xe_142_178, xe_142_181, xe_142_182, ite_self, mm_nL_I, mm_nL_R, mm_nL_0, Option.bind_some, Option.bind_none, bnd_ite, Option.toList_some, Option.toList_none, List.cons_append, List.nil_append, mm_cats_nil, mm_cats_I, mm_cats_L, mm_cats_R, if_true, if_false, true_and, and_true, false_and, and_false, not_true_eq_false, not_false_eq_true, Int.reduceLE, Int.reduceLT, Int.reduceEq, Int.reduceNe, Int.reduceNeg, Int.reduceAdd, Int.reduceSub, Int.reduceMul, Nat.reduceAdd, Nat.reduceLeDiff, true_or, or_true, false_or, or_false, reduceIte, k_10, k_143, k_146, g0, d1, d2, d3, d4, wi, q, e1, e2, e3, decide_false, Bool.false_eq_true, le, y0, y1, y2, y3, tx_10, cb, sx_10_11 hX, sx_10_12 hX, F, v1, v2, v3, u1, u2, u3, u4, u5, u6, p']
        · have p' : lf c (oro i) ≤ s.1 := by omega
          have le : lst (lf c) s (oro i) = s := by unfold lst; rw [if_neg p]
          refine ⟨up (up (up (up f 0 (c 135 a)) 1 (c 135 b)) 2 (c 135 d)) 3 (c 135 x), up (up (up (up g 0 (c 136 a)) 1 (c 136 b)) 2 (c 136 d)) 3 (c 136 x), S', sw', em', some (vI a), some (vI b), some (vI d), some (vI x), some (vI (lf c (oro i))), ?_⟩
          rw [xe_142_30]
          simp only [xe_142_32, xe_142_34, xe_142_37, xe_142_39, xe_142_41, xe_142_42 _ _ _ _ (some (vI _)) _ _ _ _ _ _ _ _ _ rfl, xe_142_42 _ _ _ _ (some (vR _)) _ _ _ _ _ _ _ _ _ rfl, xe_142_42 _ _ _ _ none _ _ _ _ _ _ _ _ _ rfl, xe_142_44, xe_142_46, xe_142_47, xe_142_48, xe_142_49, xe_142_50 _ _ _ _ _ (some (vI _)) _ _ _ _ _ _ _ _ rfl, xe_142_50 _ _ _ _ _ (some (vR _)) _ _ _ _ _ _ _ _ rfl, xe_142_50 _ _ _ _ _ none _ _ _ _ _ _ _ _ rfl, xe_142_52, xe_142_54, xe_142_55, xe_142_56 _ _ _ _ _ _ (some (vI _)) _ _ _ _ _ _ _ rfl, xe_142_56 _ _ _ _ _ _ (some (vR _)) _ _ _ _ _ _ _ rfl, xe_142_56 _ _ _ _ _ _ none _ _ _ _ _ _ _ rfl, xe_142_58, xe_142_60, xe_142_62, xe_142_65, xe_142_67, xe_142_69, xe_142_72, xe_142_74, xe_142_76, xe_142_79, xe_142_82, xe_142_84, xe_142_86, xe_142_87, xe_142_89, xe_142_90, xe_142_92, xe_142_93 _ _ _ _ _ _ _ (some (vI _)) _ _ _ _ _ _ rfl, xe_142_93 _ _ _ _ _ _ _ (some (vR _)) _ _ _ _ _ _ rfl, xe_142_93 _ _ _ _ _ _ _ none _ _ _ _ _ _ rfl, xe_142_95, xe_142_96, xe_142_97, xe_142_99, xe_142_102, xe_142_103, xe_142_104, xe_142_106, xe_142_109, xe_142_110, xe_142_111, xe_142_113, xe_142_116, xe_142_117, xe_142_118, xe_142_120, xe_142_123, xe_142_124, xe_142_127, xe_142_128, xe_142_131, xe_142_134 _ _ _ _ _ _ _ _ (some (vI _)) _ _ _ _ _ rfl, xe_142_134 _ _ _ _ _ _ _ _ (some (vR _)) _ _ _ _ _ rfl, xe_142_134 _ _ _ _ _ _ _ _ none _ _ _ _ _ rfl, xe_142_136, xe_142_138, xe_142_139, xe_142_142, xe_142_144 _ (some (vI _)) _ _ _ _ _ _ _ _ _ _ _ _ rfl, xe_142_144 _ (some (vR _)) _ _ _ _ _ _ _ _ _ _ _ _ rfl, xe_142_144 _ none _ _ _ _ _ _ _ _ _ _ _ _ rfl, xe_142_145, xe_142_148, xe_142_150, xe_142_151, xe_142_153, xe_142_155, xe_142_156, xe_142_157, xe_142_159, xe_142_161, xe_142_162, xe_142_163, xe_142_165, xe_142_166 _ _ (some (vI _)) _ _ _ _ _ _ _ _ _ _ _ rfl, xe_142_166 _ _ (some (vR _)) _ _ _ _ _ _ _ _ _ _ _ rfl, xe_142_166 _ _ none _ _ _ _ _ _ _ _ _ _ _ rfl, xe_142_167 _ _ _ (some (vI _)) _ _ _ _ _ _ _ _ _ rfl, xe_142_167 _ _ _ (some (vR _)) _ _ _ _ _ _ _ _ _ rfl, xe_142_167 _ _ _ none _ _ _ _ _ _ _ _ _ rfl, xe_142_170, xe_142_173, xe_142_174, xe_142_177, xe_142_178, xe_142_181, xe_142_182, ite_self, mm_nL_I, mm_nL_R, mm_nL_0, Option.bind_some, Option.bind_none, bnd_ite, Option.toList_some, Option.toList_none, List.cons_append, List.nil_append, mm_cats_nil, mm_cats_I, mm_cats_L, mm_cats_R, if_true, if_false, true_and, and_true, false_and, and_false, not_true_eq_false, not_false_eq_true, Int.reduceLE, Int.reduceLT, Int.reduceEq, Int.reduceNe, Int.reduceNeg, Int.reduceAdd, Int.reduceSub, Int.reduceMul, Nat.reduceAdd, Nat.reduceLeDiff, true_or, or_true, false_or, or_false, reduceIte, k_10, k_143, k_146, g0, d1, d2, d3, d4, wi, q, e1, e2, e3, decide_false, Bool.false_eq_true, le, y0, y1, y2, y3, tx_10, cb, sx_10_11 hX, sx_10_12 hX, F, v1, v2, v3, p']
theorem la_X (h : RR c r) (w : Int) (w0 : w = 0 ∨ ¬ w = 0) : ∀ (m : Nat) (s : Int × Int) (f g S sw em : Int → Int) (y5 y6 y7 y8 y9 : Option MV), m ≤ 64 →
    ∃ f' g' S' sw' em', ev 142 30 [some (vR 10), some (vI w), some (vI s.1), some (vI s.2), some (vI (64 - (m : Int))), y5, y6, y7, y8, y9] [] (tm (cz c f g) 146 S sw em) (g_1 L) = some (some (vI (if w = 0 then (lc (lf c) m s).1 else (lc (lf c) m s).2)), tm (cz c f' g') 146 S' sw' em', g_1 L) := by
  intro m
  induction m with
  | zero =>
    intro s f g S sw em y5 y6 y7 y8 y9 hm
    refine ⟨f, g, S, sw, em, ?_⟩
    have e : (64 : Int) - ((0 : Nat) : Int) = 64 := by omega
    rw [e]
    rcases w0 with w0 | w0
    · simp only [xe_142_30, xe_142_32, xe_142_34, xe_142_173, xe_142_174, xe_142_177, xe_142_178, xe_142_182, ite_self, mm_nL_I, mm_nL_R, mm_nL_0, Option.bind_some, Option.bind_none, bnd_ite, Option.toList_some, Option.toList_none, List.cons_append, List.nil_append, mm_cats_nil, mm_cats_I, mm_cats_L, mm_cats_R, if_true, if_false, true_and, and_true, false_and, and_false, not_true_eq_false, not_false_eq_true, Int.reduceLE, Int.reduceLT, Int.reduceEq, Int.reduceNe, Int.reduceNeg, Int.reduceAdd, Int.reduceSub, Int.reduceMul, Nat.reduceAdd, Nat.reduceLeDiff, true_or, or_true, false_or, or_false, reduceIte, w0, lc]
    · simp only [xe_142_30, xe_142_32, xe_142_34, xe_142_173, xe_142_174, xe_142_181, xe_142_182, ite_self, mm_nL_I, mm_nL_R, mm_nL_0, Option.bind_some, Option.bind_none, bnd_ite, Option.toList_some, Option.toList_none, List.cons_append, List.nil_append, mm_cats_nil, mm_cats_I, mm_cats_L, mm_cats_R, if_true, if_false, true_and, and_true, false_and, and_false, not_true_eq_false, not_false_eq_true, Int.reduceLE, Int.reduceLT, Int.reduceEq, Int.reduceNe, Int.reduceNeg, Int.reduceAdd, Int.reduceSub, Int.reduceMul, Nat.reduceAdd, Nat.reduceLeDiff, true_or, or_true, false_or, or_false, reduceIte, w0, lc]
  | succ m ih =>
    intro s f g S sw em y5 y6 y7 y8 y9 hm
    have e : (64 : Int) - ((m + 1 : Nat) : Int) = 63 - (m : Int) := by omega
    obtain ⟨f1, g1, S1, sw1, em1, z5, z6, z7, z8, z9, A⟩ := la_X1 (L := L) h w (63 - (m : Int)) s f g S sw em y5 y6 y7 y8 y9 (by omega) (by omega)
    have e2 : (63 : Int) - (m : Int) + 1 = 64 - (m : Int) := by omega
    rw [e2] at A
    obtain ⟨f2, g2, S2, sw2, em2, B⟩ := ih (if dup (63 - (m : Int)) = true then s else lst (lf c) s (oro (63 - (m : Int)))) f1 g1 S1 sw1 em1 z5 z6 z7 z8 z9 (by omega)
    refine ⟨f2, g2, S2, sw2, em2, ?_⟩
    rw [e, A, B]
    rfl
end CL
