/-! the reference's training as a state: t its row, fl and fw what was found -/
def rm (r : MM) (t : Int → Int) (fl fw : Int) : MM := fun b j => if b = 165 ∧ 0 ≤ j ∧ j < 88 then t j else if b = 149 ∧ j = 43 then fl else if b = 149 ∧ j = 44 then fw else r b j
theorem rm_id (r : MM) : rm r (r 165) (r 149 43) (r 149 44) = r := by
  funext b j
  simp only [rm]
  split
  · rename_i h; rw [h.1]
  · split
    · rename_i h; rw [h.1, h.2]
    · split
      · rename_i h; rw [h.1, h.2]
      · rfl
theorem rm_t (r : MM) (t : Int → Int) (fl fw k : Int) (h : 0 ≤ k ∧ k < 88) : rm r t fl fw 165 k = t k := by simp [rm, h]
theorem rm_43 (r : MM) (t : Int → Int) (fl fw : Int) : rm r t fl fw 149 43 = fl := by simp [rm]
theorem rm_44 (r : MM) (t : Int → Int) (fl fw : Int) : rm r t fl fw 149 44 = fw := by simp [rm]
theorem rm_k (r : MM) (t : Int → Int) (fl fw k : Int) (h1 : ¬ k = 43) (h2 : ¬ k = 44) : rm r t fl fw 149 k = r 149 k := by simp [rm, h1, h2]
theorem rm_b (r : MM) (t : Int → Int) (fl fw b : Int) (h1 : ¬ b = 165) (h2 : ¬ b = 149) : rm r t fl fw b = r b := by funext j; simp [rm, h1, h2]
theorem rm_u (r : MM) (t : Int → Int) (fl fw k v : Int) (h : 0 ≤ k ∧ k < 88) : mset (rm r t fl fw) 165 k v = rm r (up t k v) fl fw := by
  funext b j
  by_cases hb : b = 165
  · subst hb
    by_cases hj : j = k
    · subst hj; simp [mset, rm, h, up]
    · simp [mset, rm, hj, up]
  · simp [mset, rm, hb]
theorem ru_43 (r : MM) (t : Int → Int) (fl fw v : Int) : mset (rm r t fl fw) 149 43 v = rm r t v fw := by
  funext b j
  by_cases hb : b = 149
  · subst hb
    by_cases hj : j = 43
    · subst hj; simp [mset, rm]
    · simp [mset, rm, hj]
  · simp [mset, rm, hb]
theorem ru_44 (r : MM) (t : Int → Int) (fl fw v : Int) : mset (rm r t fl fw) 149 44 v = rm r t fl v := by
  funext b j
  by_cases hb : b = 149
  · subst hb
    by_cases hj : j = 44
    · subst hj; simp [mset, rm]
    · simp [mset, rm, hj]
  · simp [mset, rm, hb]
theorem rg_0 (r : MM) (t : Int → Int) (fl fw : Int) : rm r t fl fw 165 0 = t 0 := rm_t _ _ _ _ _ (by omega)
theorem rw_0 (r : MM) (t : Int → Int) (fl fw v : Int) : mset (rm r t fl fw) 165 0 v = rm r (up t 0 v) fl fw := rm_u _ _ _ _ _ _ (by omega)
theorem rg_1 (r : MM) (t : Int → Int) (fl fw : Int) : rm r t fl fw 165 1 = t 1 := rm_t _ _ _ _ _ (by omega)
theorem rw_1 (r : MM) (t : Int → Int) (fl fw v : Int) : mset (rm r t fl fw) 165 1 v = rm r (up t 1 v) fl fw := rm_u _ _ _ _ _ _ (by omega)
theorem rg_2 (r : MM) (t : Int → Int) (fl fw : Int) : rm r t fl fw 165 2 = t 2 := rm_t _ _ _ _ _ (by omega)
theorem rw_2 (r : MM) (t : Int → Int) (fl fw v : Int) : mset (rm r t fl fw) 165 2 v = rm r (up t 2 v) fl fw := rm_u _ _ _ _ _ _ (by omega)
theorem rg_3 (r : MM) (t : Int → Int) (fl fw : Int) : rm r t fl fw 165 3 = t 3 := rm_t _ _ _ _ _ (by omega)
theorem rw_3 (r : MM) (t : Int → Int) (fl fw v : Int) : mset (rm r t fl fw) 165 3 v = rm r (up t 3 v) fl fw := rm_u _ _ _ _ _ _ (by omega)
theorem rg_4 (r : MM) (t : Int → Int) (fl fw : Int) : rm r t fl fw 165 4 = t 4 := rm_t _ _ _ _ _ (by omega)
theorem rw_4 (r : MM) (t : Int → Int) (fl fw v : Int) : mset (rm r t fl fw) 165 4 v = rm r (up t 4 v) fl fw := rm_u _ _ _ _ _ _ (by omega)
theorem rg_5 (r : MM) (t : Int → Int) (fl fw : Int) : rm r t fl fw 165 5 = t 5 := rm_t _ _ _ _ _ (by omega)
theorem rw_5 (r : MM) (t : Int → Int) (fl fw v : Int) : mset (rm r t fl fw) 165 5 v = rm r (up t 5 v) fl fw := rm_u _ _ _ _ _ _ (by omega)
theorem rg_6 (r : MM) (t : Int → Int) (fl fw : Int) : rm r t fl fw 165 6 = t 6 := rm_t _ _ _ _ _ (by omega)
theorem rw_6 (r : MM) (t : Int → Int) (fl fw v : Int) : mset (rm r t fl fw) 165 6 v = rm r (up t 6 v) fl fw := rm_u _ _ _ _ _ _ (by omega)
theorem rg_7 (r : MM) (t : Int → Int) (fl fw : Int) : rm r t fl fw 165 7 = t 7 := rm_t _ _ _ _ _ (by omega)
theorem rw_7 (r : MM) (t : Int → Int) (fl fw v : Int) : mset (rm r t fl fw) 165 7 v = rm r (up t 7 v) fl fw := rm_u _ _ _ _ _ _ (by omega)
/-- pointers that the training needs -/
def MP (r : MM) : Prop := r 149 35 = 165 ∧ r 149 36 = 166 ∧ r 149 37 = 167 ∧ r 149 38 = 168 ∧ r 149 39 = 169 ∧ r 149 40 = 170 ∧ r 149 41 = 171
theorem rp_35 {r : MM} (h : MP r) (t : Int → Int) (fl fw : Int) : rm r t fl fw 149 35 = 165 := by rw [rm_k _ _ _ _ _ (by omega) (by omega)]; exact h.1
theorem rp_37 {r : MM} (h : MP r) (t : Int → Int) (fl fw : Int) : rm r t fl fw 149 37 = 167 := by rw [rm_k _ _ _ _ _ (by omega) (by omega)]; exact h.2.2.1
theorem rp_38 {r : MM} (h : MP r) (t : Int → Int) (fl fw : Int) : rm r t fl fw 149 38 = 168 := by rw [rm_k _ _ _ _ _ (by omega) (by omega)]; exact h.2.2.2.1
def wsm (t ls : Int → Int) (l : Int) : Bool := decide (5 * t (8 + l) + 14 < ls l + 2 * t 2)
def wem (t ls : Int → Int) (l : Int) : Bool := decide (3 * t (12 + l) + 8 < ls l / 2 + 5 * t 2)
theorem s_wSM (L l fl fw : Int) (r : MM) (t : Int → Int) (hP : MP r) (l0 : 0 ≤ l) (l3 : l < 4) (a0 : 0 ≤ t (8 + l)) (a1 : t (8 + l) ≤ 4) (q0 : 0 ≤ t 2) (q3 : t 2 ≤ 3) (o0 : 0 ≤ r 167 l) (o1 : r 167 l ≤ 30) :
    ev 218 0 [some (vR 149), some (vI l)] [] (rm r t fl fw) (g_1 L) = some (some (vI (be (wsm t (r 167) l))), rm r t fl fw, g_1 L) := by
  have w1 : w32 (8 + l) = 8 + l := wi32 (by omega) (by omega)
  have w2 : w32 (5 * t (8 + l)) = 5 * t (8 + l) := wi32 (by omega) (by omega)
  have w3 : w32 (5 * t (8 + l) + 14) = 5 * t (8 + l) + 14 := wi32 (by omega) (by omega)
  have w4 : w32 (2 * t 2) = 2 * t 2 := wi32 (by omega) (by omega)
  have w5 : w32 (r 167 l + 2 * t 2) = r 167 l + 2 * t 2 := wi32 (by omega) (by omega)
  have k1 : 0 ≤ 8 + l := by omega
  have k2 : 8 + l < 88 := by omega
  have e1 := rm_t r t fl fw (8 + l) ⟨k1, k2⟩
  have e2 : rm r t fl fw 167 = r 167 := rm_b _ _ _ _ _ (by omega) (by omega)
  unfold wsm be
  by_cases h : 5 * t (8 + l) + 14 < r 167 l + 2 * t 2
  · have h' : ¬ r 167 l + 2 * t 2 ≤ 5 * t (8 + l) + 14 := by omega
    simp only [xe_218_0, xe_218_1, xe_218_2, xe_218_5, xe_218_7, xe_218_8, xe_218_9, xe_218_10, xe_218_11, xe_218_13, xe_218_14, xe_218_15, xe_218_18, xe_218_19, xe_218_20, xe_218_21, xe_218_22, xe_218_25, xe_218_26, xe_218_27, xe_218_28, xe_218_29, xe_218_32, xe_218_33, xe_218_36, xe_218_37, ite_self, mm_nL_I, mm_nL_R, mm_nL_0, Option.bind_some, Option.bind_none, bnd_ite, Option.toList_some, Option.toList_none, List.cons_append, List.nil_append, mm_cats_nil, mm_cats_I, mm_cats_L, mm_cats_R, if_true, if_false, true_and, and_true, false_and, and_false, not_true_eq_false, not_false_eq_true, Int.reduceLE, Int.reduceLT, Int.reduceEq, Int.reduceNe, Int.reduceNeg, Int.reduceAdd, Int.reduceSub, Int.reduceMul, Nat.reduceAdd, Nat.reduceLeDiff, true_or, or_true, false_or, or_false, reduceIte, k_149, k_165, l_165, k_167, l_167, rp_35 hP, rp_37 hP, k1, k2, e1, e2, l0, l3, rg_0, rw_0, rg_1, rw_1, rg_2, rw_2, rg_3, rw_3, rg_4, rw_4, rg_5, rw_5, rg_6, rw_6, rg_7, rw_7, w1, w2, w3, w4, w5, h, h', decide_true]
  · have h' : r 167 l + 2 * t 2 ≤ 5 * t (8 + l) + 14 := by omega
    simp only [xe_218_0, xe_218_1, xe_218_2, xe_218_5, xe_218_7, xe_218_8, xe_218_9, xe_218_10, xe_218_11, xe_218_13, xe_218_14, xe_218_15, xe_218_18, xe_218_19, xe_218_20, xe_218_21, xe_218_22, xe_218_25, xe_218_26, xe_218_27, xe_218_28, xe_218_29, xe_218_32, xe_218_33, xe_218_36, xe_218_37, ite_self, mm_nL_I, mm_nL_R, mm_nL_0, Option.bind_some, Option.bind_none, bnd_ite, Option.toList_some, Option.toList_none, List.cons_append, List.nil_append, mm_cats_nil, mm_cats_I, mm_cats_L, mm_cats_R, if_true, if_false, true_and, and_true, false_and, and_false, not_true_eq_false, not_false_eq_true, Int.reduceLE, Int.reduceLT, Int.reduceEq, Int.reduceNe, Int.reduceNeg, Int.reduceAdd, Int.reduceSub, Int.reduceMul, Nat.reduceAdd, Nat.reduceLeDiff, true_or, or_true, false_or, or_false, reduceIte, k_149, k_165, l_165, k_167, l_167, rp_35 hP, rp_37 hP, k1, k2, e1, e2, l0, l3, rg_0, rw_0, rg_1, rw_1, rg_2, rw_2, rg_3, rw_3, rg_4, rw_4, rg_5, rw_5, rg_6, rw_6, rg_7, rw_7, w1, w2, w3, w4, w5, h, h', decide_false, Bool.false_eq_true]
theorem s_wEM (L l fl fw : Int) (r : MM) (t : Int → Int) (hP : MP r) (l0 : 0 ≤ l) (l3 : l < 4) (a0 : 0 ≤ t (12 + l)) (a1 : t (12 + l) ≤ 4) (q0 : 0 ≤ t 2) (q3 : t 2 ≤ 3) (o0 : 0 ≤ r 167 l) (o1 : r 167 l ≤ 30) :
    ev 219 0 [some (vR 149), some (vI l)] [] (rm r t fl fw) (g_1 L) = some (some (vI (be (wem t (r 167) l))), rm r t fl fw, g_1 L) := by
  have w1 : w32 (12 + l) = 12 + l := wi32 (by omega) (by omega)
  have w2 : w32 (3 * t (12 + l)) = 3 * t (12 + l) := wi32 (by omega) (by omega)
  have w3 : w32 (3 * t (12 + l) + 8) = 3 * t (12 + l) + 8 := wi32 (by omega) (by omega)
  have w4 : w32 (5 * t 2) = 5 * t 2 := wi32 (by omega) (by omega)
  have d : mm_div (r 167 l) 2 = r 167 l / 2 := nu_div o0 (by omega) (by omega) (by omega)
  have w5 : w32 (r 167 l / 2 + 5 * t 2) = r 167 l / 2 + 5 * t 2 := wi32 (by omega) (by omega)
  have k1 : 0 ≤ 12 + l := by omega
  have k2 : 12 + l < 88 := by omega
  have e1 := rm_t r t fl fw (12 + l) ⟨k1, k2⟩
  have e2 : rm r t fl fw 167 = r 167 := rm_b _ _ _ _ _ (by omega) (by omega)
  unfold wem be
  by_cases h : 3 * t (12 + l) + 8 < r 167 l / 2 + 5 * t 2
  · have h' : ¬ r 167 l / 2 + 5 * t 2 ≤ 3 * t (12 + l) + 8 := by omega
    simp only [xe_219_0, xe_219_1, xe_219_2, xe_219_5, xe_219_7, xe_219_8, xe_219_9, xe_219_10, xe_219_11, xe_219_13, xe_219_14, xe_219_15, xe_219_18, xe_219_19, xe_219_20, xe_219_21, xe_219_22, xe_219_23, xe_219_24, xe_219_27, xe_219_28, xe_219_29, xe_219_30, xe_219_31, xe_219_34, xe_219_35, xe_219_38, xe_219_39, ite_self, mm_nL_I, mm_nL_R, mm_nL_0, Option.bind_some, Option.bind_none, bnd_ite, Option.toList_some, Option.toList_none, List.cons_append, List.nil_append, mm_cats_nil, mm_cats_I, mm_cats_L, mm_cats_R, if_true, if_false, true_and, and_true, false_and, and_false, not_true_eq_false, not_false_eq_true, Int.reduceLE, Int.reduceLT, Int.reduceEq, Int.reduceNe, Int.reduceNeg, Int.reduceAdd, Int.reduceSub, Int.reduceMul, Nat.reduceAdd, Nat.reduceLeDiff, true_or, or_true, false_or, or_false, reduceIte, k_149, k_165, l_165, k_167, l_167, rp_35 hP, rp_37 hP, k1, k2, e1, e2, l0, l3, rg_0, rw_0, rg_1, rw_1, rg_2, rw_2, rg_3, rw_3, rg_4, rw_4, rg_5, rw_5, rg_6, rw_6, rg_7, rw_7, d, w1, w2, w3, w4, w5, h, h', decide_true]
  · have h' : r 167 l / 2 + 5 * t 2 ≤ 3 * t (12 + l) + 8 := by omega
    simp only [xe_219_0, xe_219_1, xe_219_2, xe_219_5, xe_219_7, xe_219_8, xe_219_9, xe_219_10, xe_219_11, xe_219_13, xe_219_14, xe_219_15, xe_219_18, xe_219_19, xe_219_20, xe_219_21, xe_219_22, xe_219_23, xe_219_24, xe_219_27, xe_219_28, xe_219_29, xe_219_30, xe_219_31, xe_219_34, xe_219_35, xe_219_38, xe_219_39, ite_self, mm_nL_I, mm_nL_R, mm_nL_0, Option.bind_some, Option.bind_none, bnd_ite, Option.toList_some, Option.toList_none, List.cons_append, List.nil_append, mm_cats_nil, mm_cats_I, mm_cats_L, mm_cats_R, if_true, if_false, true_and, and_true, false_and, and_false, not_true_eq_false, not_false_eq_true, Int.reduceLE, Int.reduceLT, Int.reduceEq, Int.reduceNe, Int.reduceNeg, Int.reduceAdd, Int.reduceSub, Int.reduceMul, Nat.reduceAdd, Nat.reduceLeDiff, true_or, or_true, false_or, or_false, reduceIte, k_149, k_165, l_165, k_167, l_167, rp_35 hP, rp_37 hP, k1, k2, e1, e2, l0, l3, rg_0, rw_0, rg_1, rw_1, rg_2, rw_2, rg_3, rw_3, rg_4, rw_4, rg_5, rw_5, rg_6, rw_6, rg_7, rw_7, d, w1, w2, w3, w4, w5, h, h', decide_false, Bool.false_eq_true]
/-- one lane of a TRY of the clock -/
def mC (t ls sl : Int → Int) (l : Int) : Bool := !wsm t ls l && decide (sl l < t 3)
def mT (t ls : Int → Int) (l : Int) : Bool := wsm t ls l && decide (t (8 + l) = 3)
theorem s_clkM1 (L l fl fw : Int) (al tp : Bool) (y : Option MV) (r : MM) (t : Int → Int) (hP : MP r) (l0 : 0 ≤ l) (l3 : l < 4) (ln : l < t 1) (a0 : 0 ≤ t (8 + l)) (a1 : t (8 + l) ≤ 4) (q0 : 0 ≤ t 2) (q3 : t 2 ≤ 3) (o0 : 0 ≤ r 167 l) (o1 : r 167 l ≤ 30) :
    ev 221 26 [some (vR 149), some (vI (be al)), some (vI (be tp)), some (vI l), y] [] (rm r t fl fw) (g_1 L) = ev 221 26 [some (vR 149), some (vI (be (al && mC t (r 167) (r 168) l))), some (vI (be (tp || mT t (r 167) l))), some (vI (l + 1)), some (vI (be (mC t (r 167) (r 168) l)))] [] (rm r (up t (16 + l) (be (mC t (r 167) (r 168) l))) (mm_or fl (if mC t (r 167) (r 168) l = true then mm_shl 1 l else 0)) fw) (g_1 L) := by
  have W := fun v fl' => s_wSM L l fl' fw r (up t (16 + l) v) hP l0 l3
  have W0 := s_wSM L l fl fw r t hP l0 l3 a0 a1 q0 q3 o0 o1
  have u8 : ∀ v, up t (16 + l) v (8 + l) = t (8 + l) := fun v => by unfold up; rw [if_neg (by omega)]
  have u2 : ∀ v, up t (16 + l) v 2 = t 2 := fun v => by unfold up; rw [if_neg (by omega)]
  have uw : ∀ v, wsm (up t (16 + l) v) (r 167) l = wsm t (r 167) l := fun v => by unfold wsm; rw [u8, u2]
  have W1 : ∀ v fl', ev 218 0 [some (vR 149), some (vI l)] [] (rm r (up t (16 + l) v) fl' fw) (g_1 L) = some (some (vI (be (wsm t (r 167) l))), rm r (up t (16 + l) v) fl' fw, g_1 L) := fun v fl' => by
    rw [W v fl' (by rw [u8]; exact a0) (by rw [u8]; exact a1) (by rw [u2]; exact q0) (by rw [u2]; exact q3) o0 o1, uw]
  have k1 : 0 ≤ 16 + l := by omega
  have k2 : 16 + l < 88 := by omega
  have k3 : 0 ≤ 8 + l := by omega
  have k4 : 8 + l < 88 := by omega
  have w1 : w32 (16 + l) = 16 + l := wi32 (by omega) (by omega)
  have w2 : w32 (8 + l) = 8 + l := wi32 (by omega) (by omega)
  have w3 : w32 (l + 1) = l + 1 := wi32 (by omega) (by omega)
  have g : ¬ t 1 ≤ l := by omega
  have e2 : ∀ t' fl', rm r t' fl' fw 168 = r 168 := fun t' fl' => rm_b _ _ _ _ _ (by omega) (by omega)
  have e3 := fun t' fl' => rm_t r t' fl' fw (8 + l) ⟨k3, k4⟩
  have e4 := fun v => rm_u r t fl fw (16 + l) v ⟨k1, k2⟩
  have z : ∀ x : Int, mm_or fl x = mm_or fl x := fun _ => rfl
  rw [xe_221_26]
  unfold mC mT
  cases hw : wsm t (r 167) l
  · rw [hw] at W0
    have W0' : ev 218 0 [some (vR 149), some (vI l)] [] (rm r t fl fw) (g_1 L) = some (some (vI 0), rm r t fl fw, g_1 L) := W0
    have W1' : ∀ v fl', ev 218 0 [some (vR 149), some (vI l)] [] (rm r (up t (16 + l) v) fl' fw) (g_1 L) = some (some (vI 0), rm r (up t (16 + l) v) fl' fw, g_1 L) := fun v fl' => by rw [W1 v fl', hw]; rfl
    by_cases h : r 168 l < t 3
    · have h' : ¬ t 3 ≤ r 168 l := by omega
      cases al <;> cases tp <;>
      simp only [xe_221_27, xe_221_28, xe_221_31, xe_221_32, xe_221_33, xe_221_36, xe_221_37, xe_221_38, xe_221_41, xe_221_44, xe_221_45, xe_221_48, xe_221_49, xe_221_50, xe_221_51, xe_221_54, xe_221_55, xe_221_56, xe_221_59, xe_221_60, xe_221_63, xe_221_64 _ _ _ (some (vI _)) _ _ _ _ _ rfl, xe_221_64 _ _ _ (some (vR _)) _ _ _ _ _ rfl, xe_221_64 _ _ _ none _ _ _ _ _ rfl, xe_221_66, xe_221_67, xe_221_70, xe_221_72, xe_221_73, xe_221_74, xe_221_76, xe_221_79, xe_221_80, xe_221_83, xe_221_84, xe_221_85, xe_221_86, xe_221_87, xe_221_90, xe_221_92, xe_221_95, xe_221_96, xe_221_97, xe_221_98, xe_221_101, xe_221_102, xe_221_103, xe_221_106, xe_221_107, xe_221_110, xe_221_112, xe_221_115, xe_221_116, xe_221_119, xe_221_120 (some (vI _)) _ _ _ _ _ _ _ _ rfl, xe_221_120 (some (vR _)) _ _ _ _ _ _ _ _ rfl, xe_221_120 none _ _ _ _ _ _ _ _ rfl, xe_221_121, xe_221_122, xe_221_125, xe_221_126, xe_221_127, xe_221_130, xe_221_133, xe_221_134, xe_221_137, xe_221_139, xe_221_140, xe_221_141, xe_221_142, xe_221_143, xe_221_146, xe_221_147, xe_221_150, xe_221_151 _ (some (vI _)) _ _ _ _ _ _ _ rfl, xe_221_151 _ (some (vR _)) _ _ _ _ _ _ _ rfl, xe_221_151 _ none _ _ _ _ _ _ _ rfl, xe_221_152 _ _ (some (vI _)) _ _ _ _ _ rfl, xe_221_152 _ _ (some (vR _)) _ _ _ _ _ rfl, xe_221_152 _ _ none _ _ _ _ _ rfl, xe_221_155, xe_221_158, xe_221_159, xe_221_162, xe_221_163, xe_221_166, xe_221_167, xe_221_168, xe_221_169, xe_221_170, xe_221_172, xe_221_175, xe_221_176, xe_221_177, xe_221_180, xe_221_181, xe_221_184, xe_221_185, xe_221_186, xe_221_188, xe_221_191, xe_221_192, xe_221_195, xe_221_196, xe_221_197, xe_221_199, xe_221_202, xe_221_203, xe_221_204, xe_221_207, xe_221_208, xe_221_211, xe_221_212, xe_221_215, xe_221_216, xe_221_217, xe_221_219, xe_221_222, xe_221_223, xe_221_226, xe_221_227, xe_221_230, xe_221_231, xe_221_232 _ _ (some (vI _)) _ _ _ _ _ _ rfl, xe_221_232 _ _ (some (vR _)) _ _ _ _ _ _ rfl, xe_221_232 _ _ none _ _ _ _ _ _ rfl, ite_self, mm_nL_I, mm_nL_R, mm_nL_0, Option.bind_some, Option.bind_none, bnd_ite, Option.toList_some, Option.toList_none, List.cons_append, List.nil_append, mm_cats_nil, mm_cats_I, mm_cats_L, mm_cats_R, if_true, if_false, true_and, and_true, false_and, and_false, not_true_eq_false, not_false_eq_true, Int.reduceLE, Int.reduceLT, Int.reduceEq, Int.reduceNe, Int.reduceNeg, Int.reduceAdd, Int.reduceSub, Int.reduceMul, Nat.reduceAdd, Nat.reduceLeDiff, true_or, or_true, false_or, or_false, reduceIte, k_149, k_165, l_165, k_168, l_168, rp_35 hP, rp_38 hP, rg_0, rw_0, rg_1, rw_1, rg_2, rw_2, rg_3, rw_3, rg_4, rw_4, rg_5, rw_5, rg_6, rw_6, rg_7, rw_7, rm_43, ru_43, W0', W1', l0, l3, g, k1, k2, k3, k4, e2, e3, e4, u8, w1, w2, w3, h, h', be, decide_true, Bool.not_false, Bool.true_and, Bool.false_and, Bool.and_true, Bool.or_false, Bool.or_true, Bool.false_eq_true]
    · have h' : t 3 ≤ r 168 l := by omega
      cases al <;> cases tp <;>
      simp only [xe_221_27, xe_221_28, xe_221_31, xe_221_32, xe_221_33, xe_221_36, xe_221_37, xe_221_38, xe_221_41, xe_221_44, xe_221_45, xe_221_48, xe_221_49, xe_221_50, xe_221_51, xe_221_54, xe_221_55, xe_221_56, xe_221_59, xe_221_60, xe_221_63, xe_221_64 _ _ _ (some (vI _)) _ _ _ _ _ rfl, xe_221_64 _ _ _ (some (vR _)) _ _ _ _ _ rfl, xe_221_64 _ _ _ none _ _ _ _ _ rfl, xe_221_66, xe_221_67, xe_221_70, xe_221_72, xe_221_73, xe_221_74, xe_221_76, xe_221_79, xe_221_80, xe_221_83, xe_221_84, xe_221_85, xe_221_86, xe_221_87, xe_221_90, xe_221_92, xe_221_95, xe_221_96, xe_221_97, xe_221_98, xe_221_101, xe_221_102, xe_221_103, xe_221_106, xe_221_107, xe_221_110, xe_221_112, xe_221_115, xe_221_116, xe_221_119, xe_221_120 (some (vI _)) _ _ _ _ _ _ _ _ rfl, xe_221_120 (some (vR _)) _ _ _ _ _ _ _ _ rfl, xe_221_120 none _ _ _ _ _ _ _ _ rfl, xe_221_121, xe_221_122, xe_221_125, xe_221_126, xe_221_127, xe_221_130, xe_221_133, xe_221_134, xe_221_137, xe_221_139, xe_221_140, xe_221_141, xe_221_142, xe_221_143, xe_221_146, xe_221_147, xe_221_150, xe_221_151 _ (some (vI _)) _ _ _ _ _ _ _ rfl, xe_221_151 _ (some (vR _)) _ _ _ _ _ _ _ rfl, xe_221_151 _ none _ _ _ _ _ _ _ rfl, xe_221_152 _ _ (some (vI _)) _ _ _ _ _ rfl, xe_221_152 _ _ (some (vR _)) _ _ _ _ _ rfl, xe_221_152 _ _ none _ _ _ _ _ rfl, xe_221_155, xe_221_158, xe_221_159, xe_221_162, xe_221_163, xe_221_166, xe_221_167, xe_221_168, xe_221_169, xe_221_170, xe_221_172, xe_221_175, xe_221_176, xe_221_177, xe_221_180, xe_221_181, xe_221_184, xe_221_185, xe_221_186, xe_221_188, xe_221_191, xe_221_192, xe_221_195, xe_221_196, xe_221_197, xe_221_199, xe_221_202, xe_221_203, xe_221_204, xe_221_207, xe_221_208, xe_221_211, xe_221_212, xe_221_215, xe_221_216, xe_221_217, xe_221_219, xe_221_222, xe_221_223, xe_221_226, xe_221_227, xe_221_230, xe_221_231, xe_221_232 _ _ (some (vI _)) _ _ _ _ _ _ rfl, xe_221_232 _ _ (some (vR _)) _ _ _ _ _ _ rfl, xe_221_232 _ _ none _ _ _ _ _ _ rfl, ite_self, mm_nL_I, mm_nL_R, mm_nL_0, Option.bind_some, Option.bind_none, bnd_ite, Option.toList_some, Option.toList_none, List.cons_append, List.nil_append, mm_cats_nil, mm_cats_I, mm_cats_L, mm_cats_R, if_true, if_false, true_and, and_true, false_and, and_false, not_true_eq_false, not_false_eq_true, Int.reduceLE, Int.reduceLT, Int.reduceEq, Int.reduceNe, Int.reduceNeg, Int.reduceAdd, Int.reduceSub, Int.reduceMul, Nat.reduceAdd, Nat.reduceLeDiff, true_or, or_true, false_or, or_false, reduceIte, k_149, k_165, l_165, k_168, l_168, rp_35 hP, rp_38 hP, rg_0, rw_0, rg_1, rw_1, rg_2, rw_2, rg_3, rw_3, rg_4, rw_4, rg_5, rw_5, rg_6, rw_6, rg_7, rw_7, rm_43, ru_43, W0', W1', l0, l3, g, k1, k2, k3, k4, e2, e3, e4, u8, w1, w2, w3, h, h', be, decide_false, Bool.not_false, Bool.true_and, Bool.false_and, Bool.and_false, Bool.or_false, Bool.or_true, Bool.false_eq_true]
  · rw [hw] at W0
    have W0' : ev 218 0 [some (vR 149), some (vI l)] [] (rm r t fl fw) (g_1 L) = some (some (vI 1), rm r t fl fw, g_1 L) := W0
    have W1' : ∀ v fl', ev 218 0 [some (vR 149), some (vI l)] [] (rm r (up t (16 + l) v) fl' fw) (g_1 L) = some (some (vI 1), rm r (up t (16 + l) v) fl' fw, g_1 L) := fun v fl' => by rw [W1 v fl', hw]; rfl
    by_cases h : t (8 + l) = 3
    · cases al <;> cases tp <;>
      simp only [xe_221_27, xe_221_28, xe_221_31, xe_221_32, xe_221_33, xe_221_36, xe_221_37, xe_221_38, xe_221_41, xe_221_44, xe_221_45, xe_221_48, xe_221_49, xe_221_50, xe_221_51, xe_221_54, xe_221_55, xe_221_56, xe_221_59, xe_221_60, xe_221_63, xe_221_64 _ _ _ (some (vI _)) _ _ _ _ _ rfl, xe_221_64 _ _ _ (some (vR _)) _ _ _ _ _ rfl, xe_221_64 _ _ _ none _ _ _ _ _ rfl, xe_221_66, xe_221_67, xe_221_70, xe_221_72, xe_221_73, xe_221_74, xe_221_76, xe_221_79, xe_221_80, xe_221_83, xe_221_84, xe_221_85, xe_221_86, xe_221_87, xe_221_90, xe_221_92, xe_221_95, xe_221_96, xe_221_97, xe_221_98, xe_221_101, xe_221_102, xe_221_103, xe_221_106, xe_221_107, xe_221_110, xe_221_112, xe_221_115, xe_221_116, xe_221_119, xe_221_120 (some (vI _)) _ _ _ _ _ _ _ _ rfl, xe_221_120 (some (vR _)) _ _ _ _ _ _ _ _ rfl, xe_221_120 none _ _ _ _ _ _ _ _ rfl, xe_221_121, xe_221_122, xe_221_125, xe_221_126, xe_221_127, xe_221_130, xe_221_133, xe_221_134, xe_221_137, xe_221_139, xe_221_140, xe_221_141, xe_221_142, xe_221_143, xe_221_146, xe_221_147, xe_221_150, xe_221_151 _ (some (vI _)) _ _ _ _ _ _ _ rfl, xe_221_151 _ (some (vR _)) _ _ _ _ _ _ _ rfl, xe_221_151 _ none _ _ _ _ _ _ _ rfl, xe_221_152 _ _ (some (vI _)) _ _ _ _ _ rfl, xe_221_152 _ _ (some (vR _)) _ _ _ _ _ rfl, xe_221_152 _ _ none _ _ _ _ _ rfl, xe_221_155, xe_221_158, xe_221_159, xe_221_162, xe_221_163, xe_221_166, xe_221_167, xe_221_168, xe_221_169, xe_221_170, xe_221_172, xe_221_175, xe_221_176, xe_221_177, xe_221_180, xe_221_181, xe_221_184, xe_221_185, xe_221_186, xe_221_188, xe_221_191, xe_221_192, xe_221_195, xe_221_196, xe_221_197, xe_221_199, xe_221_202, xe_221_203, xe_221_204, xe_221_207, xe_221_208, xe_221_211, xe_221_212, xe_221_215, xe_221_216, xe_221_217, xe_221_219, xe_221_222, xe_221_223, xe_221_226, xe_221_227, xe_221_230, xe_221_231, xe_221_232 _ _ (some (vI _)) _ _ _ _ _ _ rfl, xe_221_232 _ _ (some (vR _)) _ _ _ _ _ _ rfl, xe_221_232 _ _ none _ _ _ _ _ _ rfl, ite_self, mm_nL_I, mm_nL_R, mm_nL_0, Option.bind_some, Option.bind_none, bnd_ite, Option.toList_some, Option.toList_none, List.cons_append, List.nil_append, mm_cats_nil, mm_cats_I, mm_cats_L, mm_cats_R, if_true, if_false, true_and, and_true, false_and, and_false, not_true_eq_false, not_false_eq_true, Int.reduceLE, Int.reduceLT, Int.reduceEq, Int.reduceNe, Int.reduceNeg, Int.reduceAdd, Int.reduceSub, Int.reduceMul, Nat.reduceAdd, Nat.reduceLeDiff, true_or, or_true, false_or, or_false, reduceIte, k_149, k_165, l_165, k_168, l_168, rp_35 hP, rp_38 hP, rg_0, rw_0, rg_1, rw_1, rg_2, rw_2, rg_3, rw_3, rg_4, rw_4, rg_5, rw_5, rg_6, rw_6, rg_7, rw_7, rm_43, ru_43, W0', W1', l0, l3, g, k1, k2, k3, k4, e2, e3, e4, u8, w1, w2, w3, h, be, decide_true, Bool.not_true, Bool.true_and, Bool.false_and, Bool.and_false, Bool.or_false, Bool.or_true, Bool.true_or, Bool.false_or, Bool.false_eq_true]
    · cases al <;> cases tp <;>
      simp only [xe_221_27, xe_221_28, xe_221_31, xe_221_32, xe_221_33, xe_221_36, xe_221_37, xe_221_38, xe_221_41, xe_221_44, xe_221_45, xe_221_48, xe_221_49, xe_221_50, xe_221_51, xe_221_54, xe_221_55, xe_221_56, xe_221_59, xe_221_60, xe_221_63, xe_221_64 _ _ _ (some (vI _)) _ _ _ _ _ rfl, xe_221_64 _ _ _ (some (vR _)) _ _ _ _ _ rfl, xe_221_64 _ _ _ none _ _ _ _ _ rfl, xe_221_66, xe_221_67, xe_221_70, xe_221_72, xe_221_73, xe_221_74, xe_221_76, xe_221_79, xe_221_80, xe_221_83, xe_221_84, xe_221_85, xe_221_86, xe_221_87, xe_221_90, xe_221_92, xe_221_95, xe_221_96, xe_221_97, xe_221_98, xe_221_101, xe_221_102, xe_221_103, xe_221_106, xe_221_107, xe_221_110, xe_221_112, xe_221_115, xe_221_116, xe_221_119, xe_221_120 (some (vI _)) _ _ _ _ _ _ _ _ rfl, xe_221_120 (some (vR _)) _ _ _ _ _ _ _ _ rfl, xe_221_120 none _ _ _ _ _ _ _ _ rfl, xe_221_121, xe_221_122, xe_221_125, xe_221_126, xe_221_127, xe_221_130, xe_221_133, xe_221_134, xe_221_137, xe_221_139, xe_221_140, xe_221_141, xe_221_142, xe_221_143, xe_221_146, xe_221_147, xe_221_150, xe_221_151 _ (some (vI _)) _ _ _ _ _ _ _ rfl, xe_221_151 _ (some (vR _)) _ _ _ _ _ _ _ rfl, xe_221_151 _ none _ _ _ _ _ _ _ rfl, xe_221_152 _ _ (some (vI _)) _ _ _ _ _ rfl, xe_221_152 _ _ (some (vR _)) _ _ _ _ _ rfl, xe_221_152 _ _ none _ _ _ _ _ rfl, xe_221_155, xe_221_158, xe_221_159, xe_221_162, xe_221_163, xe_221_166, xe_221_167, xe_221_168, xe_221_169, xe_221_170, xe_221_172, xe_221_175, xe_221_176, xe_221_177, xe_221_180, xe_221_181, xe_221_184, xe_221_185, xe_221_186, xe_221_188, xe_221_191, xe_221_192, xe_221_195, xe_221_196, xe_221_197, xe_221_199, xe_221_202, xe_221_203, xe_221_204, xe_221_207, xe_221_208, xe_221_211, xe_221_212, xe_221_215, xe_221_216, xe_221_217, xe_221_219, xe_221_222, xe_221_223, xe_221_226, xe_221_227, xe_221_230, xe_221_231, xe_221_232 _ _ (some (vI _)) _ _ _ _ _ _ rfl, xe_221_232 _ _ (some (vR _)) _ _ _ _ _ _ rfl, xe_221_232 _ _ none _ _ _ _ _ _ rfl, ite_self, mm_nL_I, mm_nL_R, mm_nL_0, Option.bind_some, Option.bind_none, bnd_ite, Option.toList_some, Option.toList_none, List.cons_append, List.nil_append, mm_cats_nil, mm_cats_I, mm_cats_L, mm_cats_R, if_true, if_false, true_and, and_true, false_and, and_false, not_true_eq_false, not_false_eq_true, Int.reduceLE, Int.reduceLT, Int.reduceEq, Int.reduceNe, Int.reduceNeg, Int.reduceAdd, Int.reduceSub, Int.reduceMul, Nat.reduceAdd, Nat.reduceLeDiff, true_or, or_true, false_or, or_false, reduceIte, k_149, k_165, l_165, k_168, l_168, rp_35 hP, rp_38 hP, rg_0, rw_0, rg_1, rw_1, rg_2, rw_2, rg_3, rw_3, rg_4, rw_4, rg_5, rw_5, rg_6, rw_6, rg_7, rw_7, rm_43, ru_43, W0', W1', l0, l3, g, k1, k2, k3, k4, e2, e3, e4, u8, w1, w2, w3, h, be, decide_false, Bool.not_true, Bool.true_and, Bool.false_and, Bool.and_false, Bool.or_false, Bool.or_true, Bool.true_or, Bool.false_or, Bool.false_eq_true]
