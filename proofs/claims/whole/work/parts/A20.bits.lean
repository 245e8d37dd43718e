/-! sets of lanes as bits -/
def be (b : Bool) : Int := if b = true then 1 else 0
def bt (b0 b1 b2 b3 : Bool) : Int := be b0 + 2 * be b1 + 4 * be b2 + 8 * be b3
def ac (s l : Int) (b : Bool) : Int := if b = true then mm_or s (mm_shl 1 l) else s
theorem ac_4 : ∀ b0 b1 b2 b3 : Bool, ac (ac (ac (ac 0 0 b0) 1 b1) 2 b2) 3 b3 = bt b0 b1 b2 b3 := by decide +kernel
theorem bt_0 : ∀ b0 b1 b2 b3 : Bool, mm_and (mm_shr (bt b0 b1 b2 b3) 0) 1 = be b0 := by decide +kernel
theorem bt_1 : ∀ b0 b1 b2 b3 : Bool, mm_and (mm_shr (bt b0 b1 b2 b3) 1) 1 = be b1 := by decide +kernel
theorem bt_2 : ∀ b0 b1 b2 b3 : Bool, mm_and (mm_shr (bt b0 b1 b2 b3) 2) 1 = be b2 := by decide +kernel
theorem bt_3 : ∀ b0 b1 b2 b3 : Bool, mm_and (mm_shr (bt b0 b1 b2 b3) 3) 1 = be b3 := by decide +kernel
theorem bt_an : ∀ a0 a1 a2 a3 b0 b1 b2 b3 : Bool, mm_and (bt a0 a1 a2 a3) (mm_xor (bt b0 b1 b2 b3) (-1)) = bt (a0 && !b0) (a1 && !b1) (a2 && !b2) (a3 && !b3) := by decide +kernel
theorem be_ok (b : Bool) : 0 ≤ be b ∧ be b ≤ 1 := by cases b <;> decide
/-- a training's object, its rows behind it; a wiring's -/
def TP (c : MM) (G : MG) (a : Int) : Prop := 10 ≤ a ∧ gk G a = 8 ∧ c a 0 = a + 1 ∧ c a 1 = a + 2 ∧ gk G (a + 1) = 100 ∧ gl G (a + 1) = 4 ∧ gk G (a + 2) = 100 ∧ gl G (a + 2) = 4
def WP (c : MM) (G : MG) (w : Int) : Prop := 10 ≤ w ∧ gk G w = 9 ∧ c w 0 = w + 1 ∧ c w 1 = w + 2 ∧ gk G (w + 1) = 100 ∧ gl G (w + 1) = 4 ∧ gk G (w + 2) = 100 ∧ gl G (w + 2) = 4
def wsb (n q : Int) (sw ls : Int → Int) (l : Int) : Bool := decide (l < n ∧ 5 * sw l + 14 < ls l + 2 * q)
def web (n q : Int) (em ls : Int → Int) (l : Int) : Bool := decide (l < n ∧ 3 * em l + 8 < ls l / 2 + 5 * q)
def fab (n t : Int) (sl : Int → Int) (l : Int) : Bool := decide (l < n ∧ sl l < t)
def b4 (f : Int → Bool) : Int := bt (f 0) (f 1) (f 2) (f 3)
theorem s_wantSl (a w s l : Int) (c : MM) (G : MG) (hT : TP c G a) (hW : WP c G w) (l0 : 0 ≤ l) (l3 : l < 4) (q0 : 0 ≤ c a 4) (q3 : c a 4 ≤ 3) (s0 : 0 ≤ c (a + 1) l) (s3 : c (a + 1) l ≤ 4) (o0 : 0 ≤ c (w + 1) l) (o3 : c (w + 1) l ≤ 30) :
    ev 86 4 [some (vR a), some (vR w), some (vI s), some (vI l)] [] c G = ev 86 4 [some (vR a), some (vR w), some (vI (ac s l (wsb (c a 3) (c a 4) (c (a + 1)) (c (w + 1)) l))), some (vI (l + 1))] [] c G := by
  obtain ⟨t1, t2, t3, t4, t5, t6, t7, t8⟩ := hT
  obtain ⟨u1, u2, u3, u4, u5, u6, u7, u8⟩ := hW
  have g : ¬ 4 ≤ l := by omega
  have w1 : w32 (5 * c (a + 1) l) = 5 * c (a + 1) l := wi32 (by omega) (by omega)
  have w2 : w32 (5 * c (a + 1) l + 14) = 5 * c (a + 1) l + 14 := wi32 (by omega) (by omega)
  have w3 : w32 (2 * c a 4) = 2 * c a 4 := wi32 (by omega) (by omega)
  have w4 : w32 (c (w + 1) l + 2 * c a 4) = c (w + 1) l + 2 * c a 4 := wi32 (by omega) (by omega)
  have w5 : w32 (l + 1) = l + 1 := wi32 (by omega) (by omega)
  rw [xe_86_4]
  unfold wsb
  by_cases h1 : l < c a 3
  · have h1' : ¬ c a 3 ≤ l := by omega
    by_cases h2 : 5 * c (a + 1) l + 14 < c (w + 1) l + 2 * c a 4
    · have h2' : ¬ c (w + 1) l + 2 * c a 4 ≤ 5 * c (a + 1) l + 14 := by omega
      simp only [xe_86_5, xe_86_6, xe_86_9, xe_86_10, xe_86_11, xe_86_14, xe_86_17, xe_86_18, xe_86_19, xe_86_22, xe_86_23, xe_86_24, xe_86_25, xe_86_27, xe_86_28, xe_86_29, xe_86_32, xe_86_33, xe_86_34, xe_86_35, xe_86_36, xe_86_39, xe_86_40, xe_86_41, xe_86_44, xe_86_45, xe_86_46, xe_86_47, xe_86_48, xe_86_49 _ (some (vI _)) _ _ _ _ _ _ rfl, xe_86_49 _ (some (vR _)) _ _ _ _ _ _ rfl, xe_86_49 _ none _ _ _ _ _ _ rfl, xe_86_50 _ _ (some (vI _)) _ _ _ _ rfl, xe_86_50 _ _ (some (vR _)) _ _ _ _ rfl, xe_86_50 _ _ none _ _ _ _ rfl, xe_86_53, xe_86_56, xe_86_57, ite_self, mm_nL_I, mm_nL_R, mm_nL_0, Option.bind_some, Option.bind_none, bnd_ite, Option.toList_some, Option.toList_none, List.cons_append, List.nil_append, mm_cats_nil, mm_cats_I, mm_cats_L, mm_cats_R, if_true, if_false, true_and, and_true, false_and, and_false, not_true_eq_false, not_false_eq_true, Int.reduceLE, Int.reduceLT, Int.reduceEq, Int.reduceNe, Int.reduceNeg, Int.reduceAdd, Int.reduceSub, Int.reduceMul, Nat.reduceAdd, Nat.reduceLeDiff, true_or, or_true, false_or, or_false, reduceIte, t2, t3, t5, t6, u2, u3, u5, u6, g, l0, l3, h1, h1', h2, h2', w1, w2, w3, w4, w5, decide_true, ac]
    · have h2' : c (w + 1) l + 2 * c a 4 ≤ 5 * c (a + 1) l + 14 := by omega
      simp only [xe_86_5, xe_86_6, xe_86_9, xe_86_10, xe_86_11, xe_86_14, xe_86_17, xe_86_18, xe_86_19, xe_86_22, xe_86_23, xe_86_24, xe_86_25, xe_86_27, xe_86_28, xe_86_29, xe_86_32, xe_86_33, xe_86_34, xe_86_35, xe_86_36, xe_86_39, xe_86_40, xe_86_41, xe_86_44, xe_86_45, xe_86_46, xe_86_47, xe_86_48, xe_86_49 _ (some (vI _)) _ _ _ _ _ _ rfl, xe_86_49 _ (some (vR _)) _ _ _ _ _ _ rfl, xe_86_49 _ none _ _ _ _ _ _ rfl, xe_86_50 _ _ (some (vI _)) _ _ _ _ rfl, xe_86_50 _ _ (some (vR _)) _ _ _ _ rfl, xe_86_50 _ _ none _ _ _ _ rfl, xe_86_53, xe_86_56, xe_86_57, ite_self, mm_nL_I, mm_nL_R, mm_nL_0, Option.bind_some, Option.bind_none, bnd_ite, Option.toList_some, Option.toList_none, List.cons_append, List.nil_append, mm_cats_nil, mm_cats_I, mm_cats_L, mm_cats_R, if_true, if_false, true_and, and_true, false_and, and_false, not_true_eq_false, not_false_eq_true, Int.reduceLE, Int.reduceLT, Int.reduceEq, Int.reduceNe, Int.reduceNeg, Int.reduceAdd, Int.reduceSub, Int.reduceMul, Nat.reduceAdd, Nat.reduceLeDiff, true_or, or_true, false_or, or_false, reduceIte, t2, t3, t5, t6, u2, u3, u5, u6, g, l0, l3, h1, h1', h2, h2', w1, w2, w3, w4, w5, decide_false, Bool.false_eq_true, ac]
  · have h1' : c a 3 ≤ l := by omega
    simp only [xe_86_5, xe_86_6, xe_86_9, xe_86_10, xe_86_11, xe_86_14, xe_86_17, xe_86_18, xe_86_19, xe_86_22, xe_86_23, xe_86_24, xe_86_25, xe_86_27, xe_86_28, xe_86_29, xe_86_32, xe_86_33, xe_86_34, xe_86_35, xe_86_36, xe_86_39, xe_86_40, xe_86_41, xe_86_44, xe_86_45, xe_86_46, xe_86_47, xe_86_48, xe_86_49 _ (some (vI _)) _ _ _ _ _ _ rfl, xe_86_49 _ (some (vR _)) _ _ _ _ _ _ rfl, xe_86_49 _ none _ _ _ _ _ _ rfl, xe_86_50 _ _ (some (vI _)) _ _ _ _ rfl, xe_86_50 _ _ (some (vR _)) _ _ _ _ rfl, xe_86_50 _ _ none _ _ _ _ rfl, xe_86_53, xe_86_56, xe_86_57, ite_self, mm_nL_I, mm_nL_R, mm_nL_0, Option.bind_some, Option.bind_none, bnd_ite, Option.toList_some, Option.toList_none, List.cons_append, List.nil_append, mm_cats_nil, mm_cats_I, mm_cats_L, mm_cats_R, if_true, if_false, true_and, and_true, false_and, and_false, not_true_eq_false, not_false_eq_true, Int.reduceLE, Int.reduceLT, Int.reduceEq, Int.reduceNe, Int.reduceNeg, Int.reduceAdd, Int.reduceSub, Int.reduceMul, Nat.reduceAdd, Nat.reduceLeDiff, true_or, or_true, false_or, or_false, reduceIte, t2, g, h1, h1', w5, decide_false, Bool.false_eq_true, ac]
theorem s_wantS (a w : Int) (c : MM) (G : MG) (hT : TP c G a) (hW : WP c G w) (q0 : 0 ≤ c a 4) (q3 : c a 4 ≤ 3) (hs : ∀ l, 0 ≤ l → l < 4 → 0 ≤ c (a + 1) l ∧ c (a + 1) l ≤ 4) (ho : ∀ l, 0 ≤ l → l < 4 → 0 ≤ c (w + 1) l ∧ c (w + 1) l ≤ 30) :
    ev 86 0 [some (vR a), some (vR w), none, none] [] c G = some (some (vI (b4 (wsb (c a 3) (c a 4) (c (a + 1)) (c (w + 1))))), c, G) := by
  have S := fun s l l0 l3 => s_wantSl a w s l c G hT hW l0 l3 q0 q3 (hs l l0 l3).1 (hs l l0 l3).2 (ho l l0 l3).1 (ho l l0 l3).2
  simp only [xe_86_0, xe_86_1 _ (some (vI _)) _ _ _ _ _ _ rfl, xe_86_1 _ (some (vR _)) _ _ _ _ _ _ rfl, xe_86_1 _ none _ _ _ _ _ _ rfl, xe_86_2, xe_86_3 _ _ (some (vI _)) _ _ _ _ _ rfl, xe_86_3 _ _ (some (vR _)) _ _ _ _ _ rfl, xe_86_3 _ _ none _ _ _ _ _ rfl]
  rw [S 0 0 (by omega) (by omega), S _ (0 + 1) (by omega) (by omega), S _ (0 + 1 + 1) (by omega) (by omega), S _ (0 + 1 + 1 + 1) (by omega) (by omega)]
  simp only [xe_86_4, xe_86_5, xe_86_6, xe_86_56, xe_86_57, ite_self, mm_nL_I, mm_nL_R, mm_nL_0, Option.bind_some, Option.bind_none, bnd_ite, Option.toList_some, Option.toList_none, List.cons_append, List.nil_append, mm_cats_nil, mm_cats_I, mm_cats_L, mm_cats_R, if_true, if_false, true_and, and_true, false_and, and_false, not_true_eq_false, not_false_eq_true, Int.reduceLE, Int.reduceLT, Int.reduceEq, Int.reduceNe, Int.reduceNeg, Int.reduceAdd, Int.reduceSub, Int.reduceMul, Nat.reduceAdd, Nat.reduceLeDiff, true_or, or_true, false_or, or_false, reduceIte, ac_4, b4]
theorem s_wantEl (a w s l : Int) (c : MM) (G : MG) (hT : TP c G a) (hW : WP c G w) (l0 : 0 ≤ l) (l3 : l < 4) (q0 : 0 ≤ c a 4) (q3 : c a 4 ≤ 3) (s0 : 0 ≤ c (a + 2) l) (s3 : c (a + 2) l ≤ 4) (o0 : 0 ≤ c (w + 1) l) (o3 : c (w + 1) l ≤ 30) :
    ev 87 4 [some (vR a), some (vR w), some (vI s), some (vI l)] [] c G = ev 87 4 [some (vR a), some (vR w), some (vI (ac s l (web (c a 3) (c a 4) (c (a + 2)) (c (w + 1)) l))), some (vI (l + 1))] [] c G := by
  obtain ⟨t1, t2, t3, t4, t5, t6, t7, t8⟩ := hT
  obtain ⟨u1, u2, u3, u4, u5, u6, u7, u8⟩ := hW
  have g : ¬ 4 ≤ l := by omega
  have w1 : w32 (3 * c (a + 2) l) = 3 * c (a + 2) l := wi32 (by omega) (by omega)
  have w2 : w32 (3 * c (a + 2) l + 8) = 3 * c (a + 2) l + 8 := wi32 (by omega) (by omega)
  have w3 : w32 (5 * c a 4) = 5 * c a 4 := wi32 (by omega) (by omega)
  have d : mm_div (c (w + 1) l) 2 = c (w + 1) l / 2 := nu_div o0 (by omega) (by omega) (by omega)
  have w4 : w32 (c (w + 1) l / 2 + 5 * c a 4) = c (w + 1) l / 2 + 5 * c a 4 := wi32 (by omega) (by omega)
  have w5 : w32 (l + 1) = l + 1 := wi32 (by omega) (by omega)
  rw [xe_87_4]
  unfold web
  by_cases h1 : l < c a 3
  · have h1' : ¬ c a 3 ≤ l := by omega
    by_cases h2 : 3 * c (a + 2) l + 8 < c (w + 1) l / 2 + 5 * c a 4
    · have h2' : ¬ c (w + 1) l / 2 + 5 * c a 4 ≤ 3 * c (a + 2) l + 8 := by omega
      simp only [xe_87_5, xe_87_6, xe_87_9, xe_87_10, xe_87_11, xe_87_14, xe_87_17, xe_87_18, xe_87_19, xe_87_22, xe_87_23, xe_87_24, xe_87_25, xe_87_27, xe_87_28, xe_87_29, xe_87_32, xe_87_33, xe_87_34, xe_87_35, xe_87_36, xe_87_37, xe_87_38, xe_87_41, xe_87_42, xe_87_43, xe_87_46, xe_87_47, xe_87_48, xe_87_49, xe_87_50, xe_87_51 _ (some (vI _)) _ _ _ _ _ _ rfl, xe_87_51 _ (some (vR _)) _ _ _ _ _ _ rfl, xe_87_51 _ none _ _ _ _ _ _ rfl, xe_87_52 _ _ (some (vI _)) _ _ _ _ rfl, xe_87_52 _ _ (some (vR _)) _ _ _ _ rfl, xe_87_52 _ _ none _ _ _ _ rfl, xe_87_55, xe_87_58, xe_87_59, ite_self, mm_nL_I, mm_nL_R, mm_nL_0, Option.bind_some, Option.bind_none, bnd_ite, Option.toList_some, Option.toList_none, List.cons_append, List.nil_append, mm_cats_nil, mm_cats_I, mm_cats_L, mm_cats_R, if_true, if_false, true_and, and_true, false_and, and_false, not_true_eq_false, not_false_eq_true, Int.reduceLE, Int.reduceLT, Int.reduceEq, Int.reduceNe, Int.reduceNeg, Int.reduceAdd, Int.reduceSub, Int.reduceMul, Nat.reduceAdd, Nat.reduceLeDiff, true_or, or_true, false_or, or_false, reduceIte, t2, t4, t7, t8, u2, u3, u5, u6, g, l0, l3, h1, h1', h2, h2', d, w1, w2, w3, w4, w5, decide_true, ac]
    · have h2' : c (w + 1) l / 2 + 5 * c a 4 ≤ 3 * c (a + 2) l + 8 := by omega
      simp only [xe_87_5, xe_87_6, xe_87_9, xe_87_10, xe_87_11, xe_87_14, xe_87_17, xe_87_18, xe_87_19, xe_87_22, xe_87_23, xe_87_24, xe_87_25, xe_87_27, xe_87_28, xe_87_29, xe_87_32, xe_87_33, xe_87_34, xe_87_35, xe_87_36, xe_87_37, xe_87_38, xe_87_41, xe_87_42, xe_87_43, xe_87_46, xe_87_47, xe_87_48, xe_87_49, xe_87_50, xe_87_51 _ (some (vI _)) _ _ _ _ _ _ rfl, xe_87_51 _ (some (vR _)) _ _ _ _ _ _ rfl, xe_87_51 _ none _ _ _ _ _ _ rfl, xe_87_52 _ _ (some (vI _)) _ _ _ _ rfl, xe_87_52 _ _ (some (vR _)) _ _ _ _ rfl, xe_87_52 _ _ none _ _ _ _ rfl, xe_87_55, xe_87_58, xe_87_59, ite_self, mm_nL_I, mm_nL_R, mm_nL_0, Option.bind_some, Option.bind_none, bnd_ite, Option.toList_some, Option.toList_none, List.cons_append, List.nil_append, mm_cats_nil, mm_cats_I, mm_cats_L, mm_cats_R, if_true, if_false, true_and, and_true, false_and, and_false, not_true_eq_false, not_false_eq_true, Int.reduceLE, Int.reduceLT, Int.reduceEq, Int.reduceNe, Int.reduceNeg, Int.reduceAdd, Int.reduceSub, Int.reduceMul, Nat.reduceAdd, Nat.reduceLeDiff, true_or, or_true, false_or, or_false, reduceIte, t2, t4, t7, t8, u2, u3, u5, u6, g, l0, l3, h1, h1', h2, h2', d, w1, w2, w3, w4, w5, decide_false, Bool.false_eq_true, ac]
  · have h1' : c a 3 ≤ l := by omega
    simp only [xe_87_5, xe_87_6, xe_87_9, xe_87_10, xe_87_11, xe_87_14, xe_87_17, xe_87_18, xe_87_19, xe_87_22, xe_87_23, xe_87_24, xe_87_25, xe_87_27, xe_87_28, xe_87_29, xe_87_32, xe_87_33, xe_87_34, xe_87_35, xe_87_36, xe_87_37, xe_87_38, xe_87_41, xe_87_42, xe_87_43, xe_87_46, xe_87_47, xe_87_48, xe_87_49, xe_87_50, xe_87_51 _ (some (vI _)) _ _ _ _ _ _ rfl, xe_87_51 _ (some (vR _)) _ _ _ _ _ _ rfl, xe_87_51 _ none _ _ _ _ _ _ rfl, xe_87_52 _ _ (some (vI _)) _ _ _ _ rfl, xe_87_52 _ _ (some (vR _)) _ _ _ _ rfl, xe_87_52 _ _ none _ _ _ _ rfl, xe_87_55, xe_87_58, xe_87_59, ite_self, mm_nL_I, mm_nL_R, mm_nL_0, Option.bind_some, Option.bind_none, bnd_ite, Option.toList_some, Option.toList_none, List.cons_append, List.nil_append, mm_cats_nil, mm_cats_I, mm_cats_L, mm_cats_R, if_true, if_false, true_and, and_true, false_and, and_false, not_true_eq_false, not_false_eq_true, Int.reduceLE, Int.reduceLT, Int.reduceEq, Int.reduceNe, Int.reduceNeg, Int.reduceAdd, Int.reduceSub, Int.reduceMul, Nat.reduceAdd, Nat.reduceLeDiff, true_or, or_true, false_or, or_false, reduceIte, t2, g, h1, h1', w5, decide_false, Bool.false_eq_true, ac]
theorem s_wantE (a w : Int) (c : MM) (G : MG) (hT : TP c G a) (hW : WP c G w) (q0 : 0 ≤ c a 4) (q3 : c a 4 ≤ 3) (hs : ∀ l, 0 ≤ l → l < 4 → 0 ≤ c (a + 2) l ∧ c (a + 2) l ≤ 4) (ho : ∀ l, 0 ≤ l → l < 4 → 0 ≤ c (w + 1) l ∧ c (w + 1) l ≤ 30) :
    ev 87 0 [some (vR a), some (vR w), none, none] [] c G = some (some (vI (b4 (web (c a 3) (c a 4) (c (a + 2)) (c (w + 1))))), c, G) := by
  have S := fun s l l0 l3 => s_wantEl a w s l c G hT hW l0 l3 q0 q3 (hs l l0 l3).1 (hs l l0 l3).2 (ho l l0 l3).1 (ho l l0 l3).2
  simp only [xe_87_0, xe_87_1 _ (some (vI _)) _ _ _ _ _ _ rfl, xe_87_1 _ (some (vR _)) _ _ _ _ _ _ rfl, xe_87_1 _ none _ _ _ _ _ _ rfl, xe_87_2, xe_87_3 _ _ (some (vI _)) _ _ _ _ _ rfl, xe_87_3 _ _ (some (vR _)) _ _ _ _ _ rfl, xe_87_3 _ _ none _ _ _ _ _ rfl]
  rw [S 0 0 (by omega) (by omega), S _ (0 + 1) (by omega) (by omega), S _ (0 + 1 + 1) (by omega) (by omega), S _ (0 + 1 + 1 + 1) (by omega) (by omega)]
  simp only [xe_87_4, xe_87_5, xe_87_6, xe_87_58, xe_87_59, ite_self, mm_nL_I, mm_nL_R, mm_nL_0, Option.bind_some, Option.bind_none, bnd_ite, Option.toList_some, Option.toList_none, List.cons_append, List.nil_append, mm_cats_nil, mm_cats_I, mm_cats_L, mm_cats_R, if_true, if_false, true_and, and_true, false_and, and_false, not_true_eq_false, not_false_eq_true, Int.reduceLE, Int.reduceLT, Int.reduceEq, Int.reduceNe, Int.reduceNeg, Int.reduceAdd, Int.reduceSub, Int.reduceMul, Nat.reduceAdd, Nat.reduceLeDiff, true_or, or_true, false_or, or_false, reduceIte, ac_4, b4]
theorem s_fastl (a w t s l : Int) (c : MM) (G : MG) (hT : TP c G a) (hW : WP c G w) (l0 : 0 ≤ l) (l3 : l < 4) :
    ev 88 5 [some (vR a), some (vR w), some (vI t), some (vI s), some (vI l)] [] c G = ev 88 5 [some (vR a), some (vR w), some (vI t), some (vI (ac s l (fab (c a 3) t (c (w + 2)) l))), some (vI (l + 1))] [] c G := by
  obtain ⟨t1, t2, t3, t4, t5, t6, t7, t8⟩ := hT
  obtain ⟨u1, u2, u3, u4, u5, u6, u7, u8⟩ := hW
  have g : ¬ 4 ≤ l := by omega
  have w5 : w32 (l + 1) = l + 1 := wi32 (by omega) (by omega)
  rw [xe_88_5]
  unfold fab
  by_cases h1 : l < c a 3
  · have h1' : ¬ c a 3 ≤ l := by omega
    by_cases h2 : c (w + 2) l < t
    · have h2' : ¬ t ≤ c (w + 2) l := by omega
      simp only [xe_88_7, xe_88_8, xe_88_11, xe_88_13, xe_88_14, xe_88_17, xe_88_20, xe_88_21, xe_88_22, xe_88_25, xe_88_27, xe_88_28, xe_88_31, xe_88_32, xe_88_33, xe_88_35, xe_88_36, xe_88_37 _ _ (some (vI _)) _ _ _ _ _ _ rfl, xe_88_37 _ _ (some (vR _)) _ _ _ _ _ _ rfl, xe_88_37 _ _ none _ _ _ _ _ _ rfl, xe_88_38 _ _ _ (some (vI _)) _ _ _ _ rfl, xe_88_38 _ _ _ (some (vR _)) _ _ _ _ rfl, xe_88_38 _ _ _ none _ _ _ _ rfl, xe_88_41, xe_88_44, xe_88_45, ite_self, mm_nL_I, mm_nL_R, mm_nL_0, Option.bind_some, Option.bind_none, bnd_ite, Option.toList_some, Option.toList_none, List.cons_append, List.nil_append, mm_cats_nil, mm_cats_I, mm_cats_L, mm_cats_R, if_true, if_false, true_and, and_true, false_and, and_false, not_true_eq_false, not_false_eq_true, Int.reduceLE, Int.reduceLT, Int.reduceEq, Int.reduceNe, Int.reduceNeg, Int.reduceAdd, Int.reduceSub, Int.reduceMul, Nat.reduceAdd, Nat.reduceLeDiff, true_or, or_true, false_or, or_false, reduceIte, t2, u2, u4, u7, u8, g, l0, l3, h1, h1', h2, h2', w5, decide_true, ac]
    · have h2' : t ≤ c (w + 2) l := by omega
      simp only [xe_88_7, xe_88_8, xe_88_11, xe_88_13, xe_88_14, xe_88_17, xe_88_20, xe_88_21, xe_88_22, xe_88_25, xe_88_27, xe_88_28, xe_88_31, xe_88_32, xe_88_33, xe_88_35, xe_88_36, xe_88_37 _ _ (some (vI _)) _ _ _ _ _ _ rfl, xe_88_37 _ _ (some (vR _)) _ _ _ _ _ _ rfl, xe_88_37 _ _ none _ _ _ _ _ _ rfl, xe_88_38 _ _ _ (some (vI _)) _ _ _ _ rfl, xe_88_38 _ _ _ (some (vR _)) _ _ _ _ rfl, xe_88_38 _ _ _ none _ _ _ _ rfl, xe_88_41, xe_88_44, xe_88_45, ite_self, mm_nL_I, mm_nL_R, mm_nL_0, Option.bind_some, Option.bind_none, bnd_ite, Option.toList_some, Option.toList_none, List.cons_append, List.nil_append, mm_cats_nil, mm_cats_I, mm_cats_L, mm_cats_R, if_true, if_false, true_and, and_true, false_and, and_false, not_true_eq_false, not_false_eq_true, Int.reduceLE, Int.reduceLT, Int.reduceEq, Int.reduceNe, Int.reduceNeg, Int.reduceAdd, Int.reduceSub, Int.reduceMul, Nat.reduceAdd, Nat.reduceLeDiff, true_or, or_true, false_or, or_false, reduceIte, t2, u2, u4, u7, u8, g, l0, l3, h1, h1', h2, h2', w5, decide_false, Bool.false_eq_true, ac]
  · have h1' : c a 3 ≤ l := by omega
    simp only [xe_88_7, xe_88_8, xe_88_11, xe_88_13, xe_88_14, xe_88_17, xe_88_20, xe_88_21, xe_88_22, xe_88_25, xe_88_27, xe_88_28, xe_88_31, xe_88_32, xe_88_33, xe_88_35, xe_88_36, xe_88_37 _ _ (some (vI _)) _ _ _ _ _ _ rfl, xe_88_37 _ _ (some (vR _)) _ _ _ _ _ _ rfl, xe_88_37 _ _ none _ _ _ _ _ _ rfl, xe_88_38 _ _ _ (some (vI _)) _ _ _ _ rfl, xe_88_38 _ _ _ (some (vR _)) _ _ _ _ rfl, xe_88_38 _ _ _ none _ _ _ _ rfl, xe_88_41, xe_88_44, xe_88_45, ite_self, mm_nL_I, mm_nL_R, mm_nL_0, Option.bind_some, Option.bind_none, bnd_ite, Option.toList_some, Option.toList_none, List.cons_append, List.nil_append, mm_cats_nil, mm_cats_I, mm_cats_L, mm_cats_R, if_true, if_false, true_and, and_true, false_and, and_false, not_true_eq_false, not_false_eq_true, Int.reduceLE, Int.reduceLT, Int.reduceEq, Int.reduceNe, Int.reduceNeg, Int.reduceAdd, Int.reduceSub, Int.reduceMul, Nat.reduceAdd, Nat.reduceLeDiff, true_or, or_true, false_or, or_false, reduceIte, t2, g, h1, h1', w5, decide_false, Bool.false_eq_true, ac]
theorem s_fastL (a w t : Int) (c : MM) (G : MG) (hT : TP c G a) (hW : WP c G w) :
    ev 88 0 [some (vR a), some (vR w), some (vI t), none, none] [] c G = some (some (vI (b4 (fab (c a 3) t (c (w + 2))))), c, G) := by
  have S := fun s l l0 l3 => s_fastl a w t s l c G hT hW l0 l3
  simp only [xe_88_0, xe_88_1 _ _ (some (vI _)) _ _ _ _ _ _ rfl, xe_88_1 _ _ (some (vR _)) _ _ _ _ _ _ rfl, xe_88_1 _ _ none _ _ _ _ _ _ rfl, xe_88_2, xe_88_3 _ _ _ (some (vI _)) _ _ _ _ _ rfl, xe_88_3 _ _ _ (some (vR _)) _ _ _ _ _ rfl, xe_88_3 _ _ _ none _ _ _ _ _ rfl]
  rw [S 0 0 (by omega) (by omega), S _ (0 + 1) (by omega) (by omega), S _ (0 + 1 + 1) (by omega) (by omega), S _ (0 + 1 + 1 + 1) (by omega) (by omega)]
  simp only [xe_88_5, xe_88_7, xe_88_8, xe_88_44, xe_88_45, ite_self, mm_nL_I, mm_nL_R, mm_nL_0, Option.bind_some, Option.bind_none, bnd_ite, Option.toList_some, Option.toList_none, List.cons_append, List.nil_append, mm_cats_nil, mm_cats_I, mm_cats_L, mm_cats_R, if_true, if_false, true_and, and_true, false_and, and_false, not_true_eq_false, not_false_eq_true, Int.reduceLE, Int.reduceLT, Int.reduceEq, Int.reduceNe, Int.reduceNeg, Int.reduceAdd, Int.reduceSub, Int.reduceMul, Nat.reduceAdd, Nat.reduceLeDiff, true_or, or_true, false_or, or_false, reduceIte, ac_4, b4]
theorem bt_l (f : Int → Bool) (l : Int) (l0 : 0 ≤ l) (l3 : l < 4) : mm_and (mm_shr (b4 f) l) 1 = be (f l) := by
  have h : l = 0 ∨ l = 1 ∨ l = 2 ∨ l = 3 := by omega
  rcases h with rfl | rfl | rfl | rfl
  · exact bt_0 _ _ _ _
  · exact bt_1 _ _ _ _
  · exact bt_2 _ _ _ _
  · exact bt_3 _ _ _ _
/-- one of the set is at the top of a ladder -/
def tpb (f : Int → Bool) (d : Int → Int) (l : Int) : Bool := f l && decide (3 ≤ d l)
theorem s_topl (p l : Int) (f : Int → Bool) (c : MM) (G : MG) (h1 : gk G p = 100) (h2 : gl G p = 4) (l0 : 0 ≤ l) (l3 : l < 4) :
    ev 89 2 [some (vR p), some (vI (b4 f)), some (vI l)] [] c G = if tpb f (c p) l = true then some (some (vI 1), c, G) else ev 89 2 [some (vR p), some (vI (b4 f)), some (vI (l + 1))] [] c G := by
  have g : ¬ 4 ≤ l := by omega
  have w5 : w32 (l + 1) = l + 1 := wi32 (by omega) (by omega)
  have b := bt_l f l l0 l3
  rw [xe_89_2]
  unfold tpb
  cases e : f l
  · rw [e] at b
    have b' : mm_and (mm_shr (b4 f) l) 1 = 0 := b
    simp only [xe_89_3, xe_89_4, xe_89_5, xe_89_8, xe_89_9, xe_89_10, xe_89_11, xe_89_12, xe_89_13, xe_89_16, xe_89_17, xe_89_18, xe_89_19, xe_89_20, xe_89_23, xe_89_24, xe_89_25 _ (some (vI _)) _ _ _ _ rfl, xe_89_25 _ (some (vR _)) _ _ _ _ rfl, xe_89_25 _ none _ _ _ _ rfl, xe_89_28, xe_89_31, xe_89_32, ite_self, mm_nL_I, mm_nL_R, mm_nL_0, Option.bind_some, Option.bind_none, bnd_ite, Option.toList_some, Option.toList_none, List.cons_append, List.nil_append, mm_cats_nil, mm_cats_I, mm_cats_L, mm_cats_R, if_true, if_false, true_and, and_true, false_and, and_false, not_true_eq_false, not_false_eq_true, Int.reduceLE, Int.reduceLT, Int.reduceEq, Int.reduceNe, Int.reduceNeg, Int.reduceAdd, Int.reduceSub, Int.reduceMul, Nat.reduceAdd, Nat.reduceLeDiff, true_or, or_true, false_or, or_false, reduceIte, h1, h2, g, b', w5, Bool.false_and, Bool.false_eq_true]
  · rw [e] at b
    have b' : mm_and (mm_shr (b4 f) l) 1 = 1 := b
    by_cases h : 3 ≤ c p l
    · have h' : ¬ c p l < 3 := by omega
      simp only [xe_89_3, xe_89_4, xe_89_5, xe_89_8, xe_89_9, xe_89_10, xe_89_11, xe_89_12, xe_89_13, xe_89_16, xe_89_17, xe_89_18, xe_89_19, xe_89_20, xe_89_23, xe_89_24, xe_89_25 _ (some (vI _)) _ _ _ _ rfl, xe_89_25 _ (some (vR _)) _ _ _ _ rfl, xe_89_25 _ none _ _ _ _ rfl, xe_89_28, xe_89_31, xe_89_32, ite_self, mm_nL_I, mm_nL_R, mm_nL_0, Option.bind_some, Option.bind_none, bnd_ite, Option.toList_some, Option.toList_none, List.cons_append, List.nil_append, mm_cats_nil, mm_cats_I, mm_cats_L, mm_cats_R, if_true, if_false, true_and, and_true, false_and, and_false, not_true_eq_false, not_false_eq_true, Int.reduceLE, Int.reduceLT, Int.reduceEq, Int.reduceNe, Int.reduceNeg, Int.reduceAdd, Int.reduceSub, Int.reduceMul, Nat.reduceAdd, Nat.reduceLeDiff, true_or, or_true, false_or, or_false, reduceIte, h1, h2, g, b', l0, l3, h, h', decide_true, Bool.true_and]
    · have h' : c p l < 3 := by omega
      simp only [xe_89_3, xe_89_4, xe_89_5, xe_89_8, xe_89_9, xe_89_10, xe_89_11, xe_89_12, xe_89_13, xe_89_16, xe_89_17, xe_89_18, xe_89_19, xe_89_20, xe_89_23, xe_89_24, xe_89_25 _ (some (vI _)) _ _ _ _ rfl, xe_89_25 _ (some (vR _)) _ _ _ _ rfl, xe_89_25 _ none _ _ _ _ rfl, xe_89_28, xe_89_31, xe_89_32, ite_self, mm_nL_I, mm_nL_R, mm_nL_0, Option.bind_some, Option.bind_none, bnd_ite, Option.toList_some, Option.toList_none, List.cons_append, List.nil_append, mm_cats_nil, mm_cats_I, mm_cats_L, mm_cats_R, if_true, if_false, true_and, and_true, false_and, and_false, not_true_eq_false, not_false_eq_true, Int.reduceLE, Int.reduceLT, Int.reduceEq, Int.reduceNe, Int.reduceNeg, Int.reduceAdd, Int.reduceSub, Int.reduceMul, Nat.reduceAdd, Nat.reduceLeDiff, true_or, or_true, false_or, or_false, reduceIte, h1, h2, g, b', l0, l3, h, h', w5, decide_false, Bool.true_and, Bool.false_eq_true]
def o4 (f : Int → Bool) : Bool := f 0 || f 1 || f 2 || f 3
theorem s_top (p : Int) (f : Int → Bool) (c : MM) (G : MG) (h1 : gk G p = 100) (h2 : gl G p = 4) :
    ev 89 0 [some (vR p), some (vI (b4 f)), none] [] c G = some (some (vI (be (o4 (tpb f (c p))))), c, G) := by
  have S := fun l l0 l3 => s_topl p l f c G h1 h2 l0 l3
  simp only [xe_89_0, xe_89_1 _ (some (vI _)) _ _ _ _ _ rfl, xe_89_1 _ (some (vR _)) _ _ _ _ _ rfl, xe_89_1 _ none _ _ _ _ _ rfl]
  rw [S 0 (by omega) (by omega), S (0 + 1) (by omega) (by omega), S (0 + 1 + 1) (by omega) (by omega), S (0 + 1 + 1 + 1) (by omega) (by omega)]
  have e1 : (0 : Int) + 1 = 1 := rfl
  have e2 : (0 : Int) + 1 + 1 = 2 := rfl
  have e3 : (0 : Int) + 1 + 1 + 1 = 3 := rfl
  rw [e3, e2, e1]
  unfold o4
  cases x0 : tpb f (c p) 0
  · cases x1 : tpb f (c p) 1
    · cases x2 : tpb f (c p) 2
      · cases x3 : tpb f (c p) 3
        · simp only [xe_89_2, xe_89_3, xe_89_4, xe_89_5, xe_89_31, xe_89_32, ite_self, mm_nL_I, mm_nL_R, mm_nL_0, Option.bind_some, Option.bind_none, bnd_ite, Option.toList_some, Option.toList_none, List.cons_append, List.nil_append, mm_cats_nil, mm_cats_I, mm_cats_L, mm_cats_R, if_true, if_false, true_and, and_true, false_and, and_false, not_true_eq_false, not_false_eq_true, Int.reduceLE, Int.reduceLT, Int.reduceEq, Int.reduceNe, Int.reduceNeg, Int.reduceAdd, Int.reduceSub, Int.reduceMul, Nat.reduceAdd, Nat.reduceLeDiff, true_or, or_true, false_or, or_false, reduceIte, h1, h2, Bool.false_eq_true, Bool.or_false, be]
        · simp only [ite_self, mm_nL_I, mm_nL_R, mm_nL_0, Option.bind_some, Option.bind_none, bnd_ite, Option.toList_some, Option.toList_none, List.cons_append, List.nil_append, mm_cats_nil, mm_cats_I, mm_cats_L, mm_cats_R, if_true, if_false, true_and, and_true, false_and, and_false, not_true_eq_false, not_false_eq_true, Int.reduceLE, Int.reduceLT, Int.reduceEq, Int.reduceNe, Int.reduceNeg, Int.reduceAdd, Int.reduceSub, Int.reduceMul, Nat.reduceAdd, Nat.reduceLeDiff, true_or, or_true, false_or, or_false, reduceIte, Bool.false_eq_true, Bool.false_or, be]
      · simp only [ite_self, mm_nL_I, mm_nL_R, mm_nL_0, Option.bind_some, Option.bind_none, bnd_ite, Option.toList_some, Option.toList_none, List.cons_append, List.nil_append, mm_cats_nil, mm_cats_I, mm_cats_L, mm_cats_R, if_true, if_false, true_and, and_true, false_and, and_false, not_true_eq_false, not_false_eq_true, Int.reduceLE, Int.reduceLT, Int.reduceEq, Int.reduceNe, Int.reduceNeg, Int.reduceAdd, Int.reduceSub, Int.reduceMul, Nat.reduceAdd, Nat.reduceLeDiff, true_or, or_true, false_or, or_false, reduceIte, Bool.false_eq_true, Bool.false_or, Bool.true_or, be]
    · simp only [ite_self, mm_nL_I, mm_nL_R, mm_nL_0, Option.bind_some, Option.bind_none, bnd_ite, Option.toList_some, Option.toList_none, List.cons_append, List.nil_append, mm_cats_nil, mm_cats_I, mm_cats_L, mm_cats_R, if_true, if_false, true_and, and_true, false_and, and_false, not_true_eq_false, not_false_eq_true, Int.reduceLE, Int.reduceLT, Int.reduceEq, Int.reduceNe, Int.reduceNeg, Int.reduceAdd, Int.reduceSub, Int.reduceMul, Nat.reduceAdd, Nat.reduceLeDiff, true_or, or_true, false_or, or_false, reduceIte, Bool.false_eq_true, Bool.false_or, Bool.true_or, be]
  · simp only [ite_self, mm_nL_I, mm_nL_R, mm_nL_0, Option.bind_some, Option.bind_none, bnd_ite, Option.toList_some, Option.toList_none, List.cons_append, List.nil_append, mm_cats_nil, mm_cats_I, mm_cats_L, mm_cats_R, if_true, if_false, true_and, and_true, false_and, and_false, not_true_eq_false, not_false_eq_true, Int.reduceLE, Int.reduceLT, Int.reduceEq, Int.reduceNe, Int.reduceNeg, Int.reduceAdd, Int.reduceSub, Int.reduceMul, Nat.reduceAdd, Nat.reduceLeDiff, true_or, or_true, false_or, or_false, reduceIte, Bool.true_or, be]
/-- a row's four first places anew -/
def r4 (c : MM) (p : Int) (f : Int → Int) : MM := fun b j => if b = p ∧ 0 ≤ j ∧ j < 4 then f j else c b j
theorem r4_p (c : MM) (p : Int) (f : Int → Int) (j : Int) (h0 : 0 ≤ j) (h1 : j < 4) : r4 c p f p j = f j := by simp [r4, h0, h1]
theorem r4_a (c : MM) (p : Int) (f : Int → Int) (b : Int) (h : ¬ b = p) : r4 c p f b = c b := by funext j; simp [r4, h]
theorem r4_ms (c : MM) (p : Int) (f : Int → Int) : mset (mset (mset (mset c p 0 (f 0)) p 1 (f 1)) p 2 (f 2)) p 3 (f 3) = r4 c p f := by
  funext b j
  by_cases hb : b = p
  · subst hb
    by_cases h : 0 ≤ j ∧ j < 4
    · have q : j = 0 ∨ j = 1 ∨ j = 2 ∨ j = 3 := by omega
      rcases q with rfl | rfl | rfl | rfl <;> simp [mset, r4]
    · have g0 : ¬ j = 0 := by omega
      have g1 : ¬ j = 1 := by omega
      have g2 : ¬ j = 2 := by omega
      have g3 : ¬ j = 3 := by omega
      simp only [mset, r4, h, g0, g1, g2, g3, and_false, if_false]
  · simp only [mset, r4, hb, false_and, if_false]
theorem s_raisel (p l : Int) (f : Int → Bool) (c : MM) (G : MG) (hp : 10 ≤ p) (h1 : gk G p = 100) (h2 : gl G p = 4) (l0 : 0 ≤ l) (l3 : l < 4) (d0 : 0 ≤ c p l) (d1 : c p l ≤ 4) :
    ev 90 2 [some (vR p), some (vI (b4 f)), some (vI l)] [] c G = ev 90 2 [some (vR p), some (vI (b4 f)), some (vI (l + 1))] [] (mset c p l (c p l + be (f l))) G := by
  have g : ¬ 4 ≤ l := by omega
  have w5 : w32 (l + 1) = l + 1 := wi32 (by omega) (by omega)
  have b := bt_l f l l0 l3
  have bo := be_ok (f l)
  have w6 : w32 (c p l + be (f l)) = c p l + be (f l) := wi32 (by omega) (by omega)
  rw [xe_90_2]
  simp only [xe_90_3, xe_90_4, xe_90_5, xe_90_8, xe_90_9, xe_90_10, xe_90_11, xe_90_12, xe_90_13, xe_90_14, xe_90_15, xe_90_16, xe_90_17, xe_90_18, xe_90_19 _ (some (vI _)) _ _ _ _ rfl, xe_90_19 _ (some (vR _)) _ _ _ _ rfl, xe_90_19 _ none _ _ _ _ rfl, xe_90_22, xe_90_25, ite_self, mm_nL_I, mm_nL_R, mm_nL_0, Option.bind_some, Option.bind_none, bnd_ite, Option.toList_some, Option.toList_none, List.cons_append, List.nil_append, mm_cats_nil, mm_cats_I, mm_cats_L, mm_cats_R, if_true, if_false, true_and, and_true, false_and, and_false, not_true_eq_false, not_false_eq_true, Int.reduceLE, Int.reduceLT, Int.reduceEq, Int.reduceNe, Int.reduceNeg, Int.reduceAdd, Int.reduceSub, Int.reduceMul, Nat.reduceAdd, Nat.reduceLeDiff, true_or, or_true, false_or, or_false, reduceIte, h1, h2, g, l0, l3, b, w5, w6, hp]
theorem s_raise (p : Int) (f : Int → Bool) (c : MM) (G : MG) (hp : 10 ≤ p) (h1 : gk G p = 100) (h2 : gl G p = 4) (hd : ∀ l, 0 ≤ l → l < 4 → 0 ≤ c p l ∧ c p l ≤ 4) :
    ev 90 0 [some (vR p), some (vI (b4 f)), none] [] c G = some (none, r4 c p (fun l => c p l + be (f l)), G) := by
  simp only [xe_90_0, xe_90_1 _ (some (vI _)) _ _ _ _ _ rfl, xe_90_1 _ (some (vR _)) _ _ _ _ _ rfl, xe_90_1 _ none _ _ _ _ _ rfl]
  have k1 : mset c p 0 (c p 0 + be (f 0)) p 1 = c p 1 := ms_nk _ _ _ _ _ _ (by omega)
  have k2 : mset (mset c p 0 (c p 0 + be (f 0))) p 1 (c p 1 + be (f 1)) p 2 = c p 2 := by rw [ms_nk _ _ _ _ _ _ (by omega), ms_nk _ _ _ _ _ _ (by omega)]
  have k3 : mset (mset (mset c p 0 (c p 0 + be (f 0))) p 1 (c p 1 + be (f 1))) p 2 (c p 2 + be (f 2)) p 3 = c p 3 := by rw [ms_nk _ _ _ _ _ _ (by omega), ms_nk _ _ _ _ _ _ (by omega), ms_nk _ _ _ _ _ _ (by omega)]
  have a0 := s_raisel p 0 f c G hp h1 h2 (by omega) (by omega) (hd 0 (by omega) (by omega)).1 (hd 0 (by omega) (by omega)).2
  have a1 := s_raisel p 1 f (mset c p 0 (c p 0 + be (f 0))) G hp h1 h2 (by omega) (by omega) (by rw [k1]; exact (hd 1 (by omega) (by omega)).1) (by rw [k1]; exact (hd 1 (by omega) (by omega)).2)
  rw [k1] at a1
  have a2 := s_raisel p 2 f (mset (mset c p 0 (c p 0 + be (f 0))) p 1 (c p 1 + be (f 1))) G hp h1 h2 (by omega) (by omega) (by rw [k2]; exact (hd 2 (by omega) (by omega)).1) (by rw [k2]; exact (hd 2 (by omega) (by omega)).2)
  rw [k2] at a2
  have a3 := s_raisel p 3 f (mset (mset (mset c p 0 (c p 0 + be (f 0))) p 1 (c p 1 + be (f 1))) p 2 (c p 2 + be (f 2))) G hp h1 h2 (by omega) (by omega) (by rw [k3]; exact (hd 3 (by omega) (by omega)).1) (by rw [k3]; exact (hd 3 (by omega) (by omega)).2)
  rw [k3] at a3
  refine a0.trans (a1.trans (a2.trans (a3.trans ?_)))
  rw [r4_ms c p (fun l => c p l + be (f l))]
  simp only [xe_90_2, xe_90_3, xe_90_4, xe_90_5, xe_90_25, ite_self, mm_nL_I, mm_nL_R, mm_nL_0, Option.bind_some, Option.bind_none, bnd_ite, Option.toList_some, Option.toList_none, List.cons_append, List.nil_append, mm_cats_nil, mm_cats_I, mm_cats_L, mm_cats_R, if_true, if_false, true_and, and_true, false_and, and_false, not_true_eq_false, not_false_eq_true, Int.reduceLE, Int.reduceLT, Int.reduceEq, Int.reduceNe, Int.reduceNeg, Int.reduceAdd, Int.reduceSub, Int.reduceMul, Nat.reduceAdd, Nat.reduceLeDiff, true_or, or_true, false_or, or_false, reduceIte, h1, h2]
