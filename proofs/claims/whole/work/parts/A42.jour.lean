/-! the class's journal -/
theorem tm_ms (c : MM) (a : Int) (S sw em : Int → Int) (b k v : Int) (h0 : ¬ b = a) (h1 : ¬ b = a + 1) (h2 : ¬ b = a + 2) : mset (tm c a S sw em) b k v = tm (mset c b k v) a S sw em := by
  funext x j
  by_cases hx : x = b
  · subst hx; simp [mset, tm, h0, h1, h2]
  · simp [mset, tm, hx]
theorem tj_140 (c : MM) (S sw em : Int → Int) (k v : Int) : mset (tm c 137 S sw em) 140 k v = tm (mset c 140 k v) 137 S sw em := tm_ms _ _ _ _ _ _ _ _ (by omega) (by omega) (by omega)
theorem tj_141 (c : MM) (S sw em : Int → Int) (k v : Int) : mset (tm c 137 S sw em) 141 k v = tm (mset c 141 k v) 137 S sw em := tm_ms _ _ _ _ _ _ _ _ (by omega) (by omega) (by omega)
theorem tj_142 (c : MM) (S sw em : Int → Int) (k v : Int) : mset (tm c 137 S sw em) 142 k v = tm (mset c 142 k v) 137 S sw em := tm_ms _ _ _ _ _ _ _ _ (by omega) (by omega) (by omega)
theorem tr_10 (c : MM) (S sw em : Int → Int) : tm c 137 S sw em 10 = c 10 := tm_b _ _ _ _ _ _ (by omega) (by omega) (by omega)
theorem tr_140 (c : MM) (S sw em : Int → Int) : tm c 137 S sw em 140 = c 140 := tm_b _ _ _ _ _ _ (by omega) (by omega) (by omega)
theorem mr_141 (c : MM) (k v : Int) : mset c 141 k v 140 = c 140 := ms_row _ _ _ _ _ (by omega)
theorem mr_142 (c : MM) (k v : Int) : mset c 142 k v 140 = c 140 := ms_row _ _ _ _ _ (by omega)
theorem s_digX1 (p v l : Int) (y : Option MV) (c : MM) (G : MG) (h1 : gk G p = 100) (h2 : gl G p = 4) (l0 : 0 ≤ l) (l3 : l < 4) (v0 : 0 ≤ v) (v1 : v ≤ 9999) (a0 : 0 ≤ c p l) (a1 : c p l ≤ 9) :
    ev 24 10 [some (vR p), some (vI v), some (vR p), some (vI 4), some (vI l), y] [] c G = ev 24 10 [some (vR p), some (vI (10 * v + c p l)), some (vR p), some (vI 4), some (vI (l + 1)), some (vI (c p l))] [] c G := by
  have g : ¬ 4 ≤ l := by omega
  have w1 : w32 (v * 10) = 10 * v := by rw [wi32 (by omega) (by omega)]; omega
  have w3 : w32 (10 * v + c p l) = 10 * v + c p l := wi32 (by omega) (by omega)
  have w4 : w32 (l + 1) = l + 1 := wi32 (by omega) (by omega)
  rw [xe_24_10]
  simp only [xe_24_12, xe_24_13, xe_24_16, xe_24_17, xe_24_19, xe_24_20 _ _ _ _ (some (vI _)) _ _ _ _ _ rfl, xe_24_20 _ _ _ _ (some (vR _)) _ _ _ _ _ rfl, xe_24_20 _ _ _ _ none _ _ _ _ _ rfl, xe_24_22, xe_24_23, xe_24_25, xe_24_26, xe_24_28, xe_24_29 (some (vI _)) _ _ _ _ _ _ _ _ _ rfl, xe_24_29 (some (vR _)) _ _ _ _ _ _ _ _ _ rfl, xe_24_29 none _ _ _ _ _ _ _ _ _ rfl, xe_24_30 _ _ _ (some (vI _)) _ _ _ _ _ rfl, xe_24_30 _ _ _ (some (vR _)) _ _ _ _ _ rfl, xe_24_30 _ _ _ none _ _ _ _ _ rfl, xe_24_33, xe_24_36, xe_24_37, ite_self, mm_nL_I, mm_nL_R, mm_nL_0, Option.bind_some, Option.bind_none, bnd_ite, Option.toList_some, Option.toList_none, List.cons_append, List.nil_append, mm_cats_nil, mm_cats_I, mm_cats_L, mm_cats_R, if_true, if_false, true_and, and_true, false_and, and_false, not_true_eq_false, not_false_eq_true, Int.reduceLE, Int.reduceLT, Int.reduceEq, Int.reduceNe, Int.reduceNeg, Int.reduceAdd, Int.reduceSub, Int.reduceMul, Nat.reduceAdd, Nat.reduceLeDiff, true_or, or_true, false_or, or_false, reduceIte, h1, h2, g, w1, w3, w4, l0, l3]
theorem s_digX (p : Int) (c : MM) (G : MG) (h1 : gk G p = 100) (h2 : gl G p = 4) (ht : ∀ l, 0 ≤ l → l < 4 → 0 ≤ c p l ∧ c p l ≤ 9) :
    ev 24 0 [some (vR p), none, none, none, none, none] [] c G = some (some (vI (dg4 (c p))), c, G) := by
  have b0 := ht 0 (by omega) (by omega)
  have b1 := ht 1 (by omega) (by omega)
  have b2 := ht 2 (by omega) (by omega)
  have b3 := ht 3 (by omega) (by omega)
  have S := fun v l y => s_digX1 p v l y c G h1 h2
  simp only [xe_24_0, xe_24_1 (some (vI _)) _ _ _ _ _ _ _ _ _ rfl, xe_24_1 (some (vR _)) _ _ _ _ _ _ _ _ _ rfl, xe_24_1 none _ _ _ _ _ _ _ _ _ rfl, xe_24_2, xe_24_3 _ (some (vI _)) _ _ _ _ _ _ _ _ rfl, xe_24_3 _ (some (vR _)) _ _ _ _ _ _ _ _ rfl, xe_24_3 _ none _ _ _ _ _ _ _ _ rfl, xe_24_4, xe_24_5, xe_24_6 _ _ (some (vI _)) _ _ _ _ _ _ _ rfl, xe_24_6 _ _ (some (vR _)) _ _ _ _ _ _ _ rfl, xe_24_6 _ _ none _ _ _ _ _ _ _ rfl, xe_24_7, xe_24_8 _ _ _ (some (vI _)) _ _ _ _ _ _ rfl, xe_24_8 _ _ _ (some (vR _)) _ _ _ _ _ _ rfl, xe_24_8 _ _ _ none _ _ _ _ _ _ rfl, ite_self, mm_nL_I, mm_nL_R, mm_nL_0, Option.bind_some, Option.bind_none, bnd_ite, Option.toList_some, Option.toList_none, List.cons_append, List.nil_append, mm_cats_nil, mm_cats_I, mm_cats_L, mm_cats_R, if_true, if_false, true_and, and_true, false_and, and_false, not_true_eq_false, not_false_eq_true, Int.reduceLE, Int.reduceLT, Int.reduceEq, Int.reduceNe, Int.reduceNeg, Int.reduceAdd, Int.reduceSub, Int.reduceMul, Nat.reduceAdd, Nat.reduceLeDiff, true_or, or_true, false_or, or_false, reduceIte, h1, h2]
  rw [S 0 0 _ (by omega) (by omega) (by omega) (by omega) b0.1 b0.2, show (0 : Int) + 1 = 1 from rfl]
  rw [S _ 1 _ (by omega) (by omega) (by omega) (by omega) b1.1 b1.2, show (1 : Int) + 1 = 2 from rfl]
  rw [S _ 2 _ (by omega) (by omega) (by omega) (by omega) b2.1 b2.2, show (2 : Int) + 1 = 3 from rfl]
  rw [S _ 3 _ (by omega) (by omega) (by omega) (by omega) b3.1 b3.2, show (3 : Int) + 1 = 4 from rfl]
  simp only [xe_24_10, xe_24_12, xe_24_13, xe_24_36, xe_24_37, ite_self, mm_nL_I, mm_nL_R, mm_nL_0, Option.bind_some, Option.bind_none, bnd_ite, Option.toList_some, Option.toList_none, List.cons_append, List.nil_append, mm_cats_nil, mm_cats_I, mm_cats_L, mm_cats_R, if_true, if_false, true_and, and_true, false_and, and_false, not_true_eq_false, not_false_eq_true, Int.reduceLE, Int.reduceLT, Int.reduceEq, Int.reduceNe, Int.reduceNeg, Int.reduceAdd, Int.reduceSub, Int.reduceMul, Nat.reduceAdd, Nat.reduceLeDiff, true_or, or_true, false_or, or_false, reduceIte, dg4]
theorem dg4_cg {f g : Int → Int} (h : ∀ l, 0 ≤ l → l < 4 → f l = g l) : dg4 f = dg4 g := by
  unfold dg4
  rw [h 0 (by omega) (by omega), h 1 (by omega) (by omega), h 2 (by omega) (by omega), h 3 (by omega) (by omega)]
theorem s_put (L n col v : Int) (c : MM) (S sw em : Int → Int) (h0 : c 140 0 = 141) (h2 : c 140 2 = n) (n0 : 0 ≤ n) (n1 : n < 192) (c0 : 0 ≤ col) (c1 : col < 8) :
    ev 23 0 [some (vR 140), some (vI col), some (vI v), none] [] (tm c 137 S sw em) (g_1 L) = some (none, tm (mset c 141 (8 * n + col) v) 137 S sw em, g_1 L) := by
  have w1 : w32 (n * 8) = 8 * n := by rw [wi32 (by omega) (by omega)]; omega
  have w2 : w32 (8 * n + col) = 8 * n + col := wi32 (by omega) (by omega)
  have a0 : ¬ 8 * n + col < 0 := by omega
  have a0' : 0 ≤ 8 * n + col := by omega
  have a1 : ¬ 1536 ≤ 8 * n + col := by omega
  have a1' : 8 * n + col < 1536 := by omega
  simp only [xe_23_0, xe_23_1, xe_23_4, xe_23_6, xe_23_7, xe_23_8, xe_23_9 _ _ (some (vI _)) _ _ _ _ _ rfl, xe_23_9 _ _ (some (vR _)) _ _ _ _ _ rfl, xe_23_9 _ _ none _ _ _ _ _ rfl, xe_23_10, xe_23_11, xe_23_14, xe_23_15, xe_23_16, xe_23_19, xe_23_20, xe_23_23, xe_23_24, xe_23_27, xe_23_28, xe_23_29, xe_23_30, ite_self, mm_nL_I, mm_nL_R, mm_nL_0, Option.bind_some, Option.bind_none, bnd_ite, Option.toList_some, Option.toList_none, List.cons_append, List.nil_append, mm_cats_nil, mm_cats_I, mm_cats_L, mm_cats_R, if_true, if_false, true_and, and_true, false_and, and_false, not_true_eq_false, not_false_eq_true, Int.reduceLE, Int.reduceLT, Int.reduceEq, Int.reduceNe, Int.reduceNeg, Int.reduceAdd, Int.reduceSub, Int.reduceMul, Nat.reduceAdd, Nat.reduceLeDiff, true_or, or_true, false_or, or_false, reduceIte, k_140, k_141, l_141, tr_140, tj_141, h0, h2, w1, w2, a0, a0', a1, a1']
def tph (S : Int → Int) : Int := if S 2 = 1 then S 7 else if S 2 = 2 then S 8 else 0
theorem s_tph (a : Int) (c : MM) (G : MG) (S sw em : Int → Int) (hT : TP c G a) : ev 80 0 [some (vR a)] [] (tm c a S sw em) G = some (some (vI (tph S)), tm c a S sw em, G) := by
  unfold tph
  by_cases h1 : S 2 = 1
  · simp only [xe_80_0, xe_80_1, xe_80_4, xe_80_5, xe_80_8, xe_80_9, xe_80_12, xe_80_13, xe_80_14, xe_80_17, xe_80_18, xe_80_21, xe_80_22, xe_80_25, xe_80_28, xe_80_29, ite_self, mm_nL_I, mm_nL_R, mm_nL_0, Option.bind_some, Option.bind_none, bnd_ite, Option.toList_some, Option.toList_none, List.cons_append, List.nil_append, mm_cats_nil, mm_cats_I, mm_cats_L, mm_cats_R, if_true, if_false, true_and, and_true, false_and, and_false, not_true_eq_false, not_false_eq_true, Int.reduceLE, Int.reduceLT, Int.reduceEq, Int.reduceNe, Int.reduceNeg, Int.reduceAdd, Int.reduceSub, Int.reduceMul, Nat.reduceAdd, Nat.reduceLeDiff, true_or, or_true, false_or, or_false, reduceIte, hT.2.1, tm_0, tm_1, tg_2, tu_2, tg_3, tu_3, tg_4, tu_4, tg_5, tu_5, tg_6, tu_6, tg_7, tu_7, tg_8, tu_8, tg_9, tu_9, tg_10, tu_10, tg_11, tu_11, tg_12, tu_12, up_e, h1]
  · by_cases h2 : S 2 = 2
    · simp only [xe_80_0, xe_80_1, xe_80_4, xe_80_5, xe_80_8, xe_80_9, xe_80_12, xe_80_13, xe_80_14, xe_80_17, xe_80_18, xe_80_21, xe_80_22, xe_80_25, xe_80_28, xe_80_29, ite_self, mm_nL_I, mm_nL_R, mm_nL_0, Option.bind_some, Option.bind_none, bnd_ite, Option.toList_some, Option.toList_none, List.cons_append, List.nil_append, mm_cats_nil, mm_cats_I, mm_cats_L, mm_cats_R, if_true, if_false, true_and, and_true, false_and, and_false, not_true_eq_false, not_false_eq_true, Int.reduceLE, Int.reduceLT, Int.reduceEq, Int.reduceNe, Int.reduceNeg, Int.reduceAdd, Int.reduceSub, Int.reduceMul, Nat.reduceAdd, Nat.reduceLeDiff, true_or, or_true, false_or, or_false, reduceIte, hT.2.1, tm_0, tm_1, tg_2, tu_2, tg_3, tu_3, tg_4, tu_4, tg_5, tu_5, tg_6, tu_6, tg_7, tu_7, tg_8, tu_8, tg_9, tu_9, tg_10, tu_10, tg_11, tu_11, tg_12, tu_12, up_e, h1, h2]
    · simp only [xe_80_0, xe_80_1, xe_80_4, xe_80_5, xe_80_8, xe_80_9, xe_80_12, xe_80_13, xe_80_14, xe_80_17, xe_80_18, xe_80_21, xe_80_22, xe_80_25, xe_80_28, xe_80_29, ite_self, mm_nL_I, mm_nL_R, mm_nL_0, Option.bind_some, Option.bind_none, bnd_ite, Option.toList_some, Option.toList_none, List.cons_append, List.nil_append, mm_cats_nil, mm_cats_I, mm_cats_L, mm_cats_R, if_true, if_false, true_and, and_true, false_and, and_false, not_true_eq_false, not_false_eq_true, Int.reduceLE, Int.reduceLT, Int.reduceEq, Int.reduceNe, Int.reduceNeg, Int.reduceAdd, Int.reduceSub, Int.reduceMul, Nat.reduceAdd, Nat.reduceLeDiff, true_or, or_true, false_or, or_false, reduceIte, hT.2.1, tm_0, tm_1, tg_2, tu_2, tg_3, tu_3, tg_4, tu_4, tg_5, tu_5, tg_6, tu_6, tg_7, tu_7, tg_8, tu_8, tg_9, tu_9, tg_10, tu_10, tg_11, tu_11, tg_12, tu_12, up_e, h1, h2]
theorem TP.j {c : MM} {G : MG} {a : Int} (h : TP c G a) (b k v : Int) (hb : ¬ b = a) : TP (mset c b k v) G a := by
  unfold TP at *
  rw [ms_row _ _ _ _ _ (show ¬ a = b by omega)]; exact h
def jo (c : MM) (n : Int) (S sw em : Int → Int) : MM := mset (mset (mset (mset (mset (mset c 141 (8 * n + 0) (S 2)) 141 (8 * n + 1) (S 3)) 141 (8 * n + 2) (S 4)) 141 (8 * n + 3) (dg4 sw)) 141 (8 * n + 4) (dg4 em)) 141 (8 * n + 7) (tph S + 1)
theorem jo_b (c : MM) (n : Int) (S sw em : Int → Int) (b : Int) (h : ¬ b = 141) : jo c n S sw em b = c b := by
  unfold jo; rw [ms_row _ _ _ _ _ h, ms_row _ _ _ _ _ h, ms_row _ _ _ _ _ h, ms_row _ _ _ _ _ h, ms_row _ _ _ _ _ h, ms_row _ _ _ _ _ h]
theorem s_open (L n : Int) (c : MM) (S sw em : Int → Int) (hT : TP c (g_1 L) 137) (h0 : c 140 0 = 141) (h2 : c 140 2 = n) (n0 : 0 ≤ n) (n1 : n < 192) (hs : ∀ l, 0 ≤ l → l < 4 → 0 ≤ sw l ∧ sw l ≤ 3 ∧ 0 ≤ em l ∧ em l ≤ 3) (t0 : 0 ≤ tph S) (t1 : tph S ≤ 99) :
    ev 21 0 [some (vR 140), some (vR 137)] [] (tm c 137 S sw em) (g_1 L) = some (none, tm (jo c n S sw em) 137 S sw em, g_1 L) := by
  have P := fun (c : MM) (col v : Int) (h0 : c 140 0 = 141) (h2 : c 140 2 = n) (c0 : 0 ≤ col) (c1 : col < 8) => s_put L n col v c S sw em h0 h2 n0 n1 c0 c1
  have D1 : ∀ c, ev 24 0 [some (vR 138), none, none, none, none, none] [] (tm c 137 S sw em) (g_1 L) = some (some (vI (dg4 sw)), tm c 137 S sw em, g_1 L) := fun c => by
    have e : ∀ l, 0 ≤ l → l < 4 → tm c 137 S sw em 138 l = sw l := fun l l0 l3 => tm_s c 137 S sw em l l0 l3
    rw [s_digX 138 _ _ (k_138 L) (l_138 L) (fun l l0 l3 => by rw [e l l0 l3]; have := hs l l0 l3; omega), dg4_cg e]
  have D2 : ∀ c, ev 24 0 [some (vR 139), none, none, none, none, none] [] (tm c 137 S sw em) (g_1 L) = some (some (vI (dg4 em)), tm c 137 S sw em, g_1 L) := fun c => by
    have e : ∀ l, 0 ≤ l → l < 4 → tm c 137 S sw em 139 l = em l := fun l l0 l3 => tm_m c 137 S sw em l l0 l3
    rw [s_digX 139 _ _ (k_139 L) (l_139 L) (fun l l0 l3 => by rw [e l l0 l3]; have := hs l l0 l3; omega), dg4_cg e]
  have c1 : mset c 141 (8 * n + 0) (S 2) 137 = c 137 := ms_row _ _ _ _ _ (by omega)
  have e137 : ∀ (c : MM) (k v : Int), mset c 141 k v 137 = c 137 := fun c k v => ms_row _ _ _ _ _ (by omega)
  have T5 : ∀ c', c' 137 = c 137 → ev 80 0 [some (vR 137)] [] (tm c' 137 S sw em) (g_1 L) = some (some (vI (tph S)), tm c' 137 S sw em, g_1 L) := fun c' h => s_tph 137 c' (g_1 L) S sw em (by unfold TP at *; rw [h]; exact hT)
  have w : w32 (tph S + 1) = tph S + 1 := wi32 (by omega) (by omega)
  have p0 : c 137 0 = 138 := hT.2.2.1
  have p1 : c 137 1 = 139 := hT.2.2.2.1
  unfold jo
  simp only [xe_21_0, xe_21_1, xe_21_2, xe_21_3, xe_21_6, xe_21_9, xe_21_10, xe_21_11, xe_21_12, xe_21_15, xe_21_18, xe_21_19, xe_21_20, xe_21_21, xe_21_24, xe_21_27, xe_21_28, xe_21_29, xe_21_30, xe_21_33, xe_21_36, xe_21_39, xe_21_40, xe_21_41, xe_21_42, xe_21_45, xe_21_48, xe_21_51, xe_21_52, xe_21_54, xe_21_55, xe_21_58, xe_21_59, xe_21_60, xe_21_63, ite_self, mm_nL_I, mm_nL_R, mm_nL_0, Option.bind_some, Option.bind_none, bnd_ite, Option.toList_some, Option.toList_none, List.cons_append, List.nil_append, mm_cats_nil, mm_cats_I, mm_cats_L, mm_cats_R, if_true, if_false, true_and, and_true, false_and, and_false, not_true_eq_false, not_false_eq_true, Int.reduceLE, Int.reduceLT, Int.reduceEq, Int.reduceNe, Int.reduceNeg, Int.reduceAdd, Int.reduceSub, Int.reduceMul, Nat.reduceAdd, Nat.reduceLeDiff, true_or, or_true, false_or, or_false, reduceIte, k_140, k_137, P, D1, D2, T5, e137, mr_141, h0, h2, p0, p1, tm_0, tm_1, tg_2, tu_2, tg_3, tu_3, tg_4, tu_4, tg_5, tu_5, tg_6, tu_6, tg_7, tu_7, tg_8, tu_8, tg_9, tu_9, tg_10, tu_10, tg_11, tu_11, tg_12, tu_12, up_e, w]
def jc (c : MM) (n m f o : Int) : MM := if 1 ≤ o ∧ o ≤ 6 then mset (mset (mset (mset (mset c 141 (8 * n + 5) f) 141 (8 * n + 6) o) 142 m n) 140 3 (m + 1)) 140 2 (n + 1) else mset (mset (mset c 141 (8 * n + 5) f) 141 (8 * n + 6) o) 140 2 (n + 1)
theorem jc_b (c : MM) (n m f o b : Int) (h1 : ¬ b = 141) (h2 : ¬ b = 142) (h3 : ¬ b = 140) : jc c n m f o b = c b := by
  unfold jc
  split
  · rw [ms_row _ _ _ _ _ h3, ms_row _ _ _ _ _ h3, ms_row _ _ _ _ _ h2, ms_row _ _ _ _ _ h1, ms_row _ _ _ _ _ h1]
  · rw [ms_row _ _ _ _ _ h3, ms_row _ _ _ _ _ h1, ms_row _ _ _ _ _ h1]
theorem s_close (L n m f o : Int) (c : MM) (S sw em : Int → Int) (h0 : c 140 0 = 141) (h1 : c 140 1 = 142) (h2 : c 140 2 = n) (h3 : c 140 3 = m) (n0 : 0 ≤ n) (n1 : n < 192) (m0 : 0 ≤ m) (m1 : m < 12) :
    ev 22 0 [some (vR 140), some (vI f), some (vI o)] [] (tm c 137 S sw em) (g_1 L) = some (none, tm (jc c n m f o) 137 S sw em, g_1 L) := by
  have P := fun (c : MM) (col v : Int) (h0 : c 140 0 = 141) (h2 : c 140 2 = n) (c0 : 0 ≤ col) (c1 : col < 8) => s_put L n col v c S sw em h0 h2 n0 n1 c0 c1
  have w1 : w32 (n + 1) = n + 1 := wi32 (by omega) (by omega)
  have w2 : w32 (m + 1) = m + 1 := wi32 (by omega) (by omega)
  have g1 : ¬ m < 0 := by omega
  have g2 : ¬ 12 ≤ m := by omega
  have g3 : ¬ 192 ≤ n := by omega
  have k3 : ∀ (c : MM) (v : Int), mset c 140 3 v 140 2 = c 140 2 := fun c v => ms_nk _ _ _ _ _ _ (by omega)
  unfold jc
  by_cases a : o < 1
  · have a' : ¬ 1 ≤ o := by omega
    simp only [xe_22_0, xe_22_1, xe_22_2, xe_22_3, xe_22_6, xe_22_7, xe_22_9, xe_22_10, xe_22_13, xe_22_14, xe_22_15, xe_22_18, xe_22_19, xe_22_21, xe_22_24, xe_22_25, xe_22_28, xe_22_31, xe_22_32, xe_22_35, xe_22_36, xe_22_39, xe_22_40, xe_22_43, xe_22_44, xe_22_47, xe_22_48, xe_22_51, xe_22_52, xe_22_55, xe_22_56, xe_22_57, xe_22_58, xe_22_61, xe_22_62, xe_22_63, xe_22_66, xe_22_67, xe_22_70, xe_22_73, xe_22_76, xe_22_77, xe_22_78, xe_22_81, xe_22_82, xe_22_83, xe_22_86, ite_self, mm_nL_I, mm_nL_R, mm_nL_0, Option.bind_some, Option.bind_none, bnd_ite, Option.toList_some, Option.toList_none, List.cons_append, List.nil_append, mm_cats_nil, mm_cats_I, mm_cats_L, mm_cats_R, if_true, if_false, true_and, and_true, false_and, and_false, not_true_eq_false, not_false_eq_true, Int.reduceLE, Int.reduceLT, Int.reduceEq, Int.reduceNe, Int.reduceNeg, Int.reduceAdd, Int.reduceSub, Int.reduceMul, Nat.reduceAdd, Nat.reduceLeDiff, true_or, or_true, false_or, or_false, reduceIte, k_140, k_142, l_142, P, tr_140, tj_140, mr_141, h0, h1, h2, h3, a, a', g3, w1]
  · have a' : 1 ≤ o := by omega
    by_cases b : 6 < o
    · have b' : ¬ o ≤ 6 := by omega
      simp only [xe_22_0, xe_22_1, xe_22_2, xe_22_3, xe_22_6, xe_22_7, xe_22_9, xe_22_10, xe_22_13, xe_22_14, xe_22_15, xe_22_18, xe_22_19, xe_22_21, xe_22_24, xe_22_25, xe_22_28, xe_22_31, xe_22_32, xe_22_35, xe_22_36, xe_22_39, xe_22_40, xe_22_43, xe_22_44, xe_22_47, xe_22_48, xe_22_51, xe_22_52, xe_22_55, xe_22_56, xe_22_57, xe_22_58, xe_22_61, xe_22_62, xe_22_63, xe_22_66, xe_22_67, xe_22_70, xe_22_73, xe_22_76, xe_22_77, xe_22_78, xe_22_81, xe_22_82, xe_22_83, xe_22_86, ite_self, mm_nL_I, mm_nL_R, mm_nL_0, Option.bind_some, Option.bind_none, bnd_ite, Option.toList_some, Option.toList_none, List.cons_append, List.nil_append, mm_cats_nil, mm_cats_I, mm_cats_L, mm_cats_R, if_true, if_false, true_and, and_true, false_and, and_false, not_true_eq_false, not_false_eq_true, Int.reduceLE, Int.reduceLT, Int.reduceEq, Int.reduceNe, Int.reduceNeg, Int.reduceAdd, Int.reduceSub, Int.reduceMul, Nat.reduceAdd, Nat.reduceLeDiff, true_or, or_true, false_or, or_false, reduceIte, k_140, k_142, l_142, P, tr_140, tj_140, mr_141, h0, h1, h2, h3, a, a', b, b', g3, w1]
    · have b' : o ≤ 6 := by omega
      simp only [xe_22_0, xe_22_1, xe_22_2, xe_22_3, xe_22_6, xe_22_7, xe_22_9, xe_22_10, xe_22_13, xe_22_14, xe_22_15, xe_22_18, xe_22_19, xe_22_21, xe_22_24, xe_22_25, xe_22_28, xe_22_31, xe_22_32, xe_22_35, xe_22_36, xe_22_39, xe_22_40, xe_22_43, xe_22_44, xe_22_47, xe_22_48, xe_22_51, xe_22_52, xe_22_55, xe_22_56, xe_22_57, xe_22_58, xe_22_61, xe_22_62, xe_22_63, xe_22_66, xe_22_67, xe_22_70, xe_22_73, xe_22_76, xe_22_77, xe_22_78, xe_22_81, xe_22_82, xe_22_83, xe_22_86, ite_self, mm_nL_I, mm_nL_R, mm_nL_0, Option.bind_some, Option.bind_none, bnd_ite, Option.toList_some, Option.toList_none, List.cons_append, List.nil_append, mm_cats_nil, mm_cats_I, mm_cats_L, mm_cats_R, if_true, if_false, true_and, and_true, false_and, and_false, not_true_eq_false, not_false_eq_true, Int.reduceLE, Int.reduceLT, Int.reduceEq, Int.reduceNe, Int.reduceNeg, Int.reduceAdd, Int.reduceSub, Int.reduceMul, Nat.reduceAdd, Nat.reduceLeDiff, true_or, or_true, false_or, or_false, reduceIte, k_140, k_142, l_142, P, tr_140, tj_140, tj_142, mr_141, mr_142, k3, h0, h1, h2, h3, a, a', b, b', g1, g2, g3, m0, m1, w1, w2]
