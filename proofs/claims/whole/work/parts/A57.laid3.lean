/-! laid of the reference -/
def ro (r : MM) (f g : Int → Int) (x y : Int) : MM := fun b j => if b = 167 ∧ 0 ≤ j ∧ j < 4 then f j else if b = 168 ∧ 0 ≤ j ∧ j < 4 then g j else if b = 149 ∧ j = 45 then x else if b = 149 ∧ j = 46 then y else ops (mset r 149 0 0) b j
theorem ro_7 (r : MM) (f g : Int → Int) (x y p v : Int) (h0 : 0 ≤ p) (h1 : p < 4) : mset (ro r f g x y) 167 p v = ro r (up f p v) g x y := by
  funext b j; unfold mset ro up; (repeat' split) <;> first | rfl | (exfalso; omega)
theorem ro_8 (r : MM) (f g : Int → Int) (x y p v : Int) (h0 : 0 ≤ p) (h1 : p < 4) : mset (ro r f g x y) 168 p v = ro r f (up g p v) x y := by
  funext b j; unfold mset ro up; (repeat' split) <;> first | rfl | (exfalso; omega)
theorem ro_45 (r : MM) (f g : Int → Int) (x y v : Int) : mset (ro r f g x y) 149 45 v = ro r f g v y := by
  funext b j; unfold mset ro; (repeat' split) <;> first | rfl | (exfalso; omega)
theorem ro_46 (r : MM) (f g : Int → Int) (x y v : Int) : mset (ro r f g x y) 149 46 v = ro r f g x v := by
  funext b j; unfold mset ro; (repeat' split) <;> first | rfl | (exfalso; omega)
theorem ro_k (r : MM) (f g : Int → Int) (x y k : Int) (h1 : ¬ k = 45) (h2 : ¬ k = 46) : ro r f g x y 149 k = ops (mset r 149 0 0) 149 k := by
  unfold ro; rw [if_neg (by omega), if_neg (by omega), if_neg (by omega), if_neg (by omega)]
theorem ro_b (r : MM) (f g : Int → Int) (x y b : Int) (h0 : ¬ b = 149) (h1 : ¬ b = 167) (h2 : ¬ b = 168) : ro r f g x y b = ops (mset r 149 0 0) b := by
  funext j; unfold ro; rw [if_neg (by omega), if_neg (by omega), if_neg (by omega), if_neg (by omega)]
theorem ro_g45 (r : MM) (f g : Int → Int) (x y : Int) : ro r f g x y 149 45 = x := by
  unfold ro; rw [if_neg (by omega), if_neg (by omega), if_pos ⟨rfl, rfl⟩]
theorem ro_g46 (r : MM) (f g : Int → Int) (x y : Int) : ro r f g x y 149 46 = y := by
  unfold ro; rw [if_neg (by omega), if_neg (by omega), if_neg (by omega), if_pos ⟨rfl, rfl⟩]
theorem MP.ro {r : MM} (h : SM r) (f g : Int → Int) (x y : Int) : MP (ro r f g x y) := by
  have := MP.op h
  unfold MP at *
  rw [ro_k _ _ _ _ _ _ (by omega) (by omega), ro_k _ _ _ _ _ _ (by omega) (by omega), ro_k _ _ _ _ _ _ (by omega) (by omega), ro_k _ _ _ _ _ _ (by omega) (by omega), ro_k _ _ _ _ _ _ (by omega) (by omega), ro_k _ _ _ _ _ _ (by omega) (by omega), ro_k _ _ _ _ _ _ (by omega) (by omega)]; exact this
theorem ops_9 (r : MM) (k : Int) (h0 : 0 ≤ k) (h1 : k < 4) : ops (mset r 149 0 0) 169 k = r 167 k ∧ ops (mset r 149 0 0) 170 k = r 168 k := by
  unfold ops
  refine ⟨?_, ?_⟩
  · rw [if_neg (by omega), if_pos ⟨rfl, h0, h1⟩, ms_row _ _ _ _ _ (by omega)]
  · rw [if_neg (by omega), if_neg (by omega), if_pos ⟨rfl, h0, h1⟩, ms_row _ _ _ _ _ (by omega)]
theorem s_to1 (L o e l fl fw x y : Int) (r : MM) (f g t : Int → Int) (hM : SM r) (l0 : 0 ≤ l) (l3 : l < 4) (e0 : 0 ≤ e) (e1 : e < 10000) (e4 : e % 10 < 4) :
    ev 239 4 [some (vR 149), some (vI o), some (vI e), some (vI l)] [] (rm (ro r f g x y) t fl fw) (g_1 L) = ev 239 4 [some (vR 149), some (vI o), some (vI (e / 10)), some (vI (l - 1))] [] (rm (ro r (up f l (r 167 (e % 10))) (up g l (r 168 (e % 10))) x y) t fl fw) (g_1 L) := by
  have P := fun f g => MP.ro hM f g x y
  have g0 : ¬ l < 0 := by omega
  have k0 : 0 ≤ e % 10 := by omega
  have d1 : mm_rem e 10 = e % 10 := nu_rem e0 (by omega) (by omega) (by omega)
  have d2 : mm_div e 10 = e / 10 := nu_div e0 (by omega) (by omega) (by omega)
  have w : w32 (l + -1) = l - 1 := by rw [wi32 (by omega) (by omega)]; omega
  have p39 : ∀ f g t fl fw, rm (ro r f g x y) t fl fw 149 39 = 169 := fun f g t fl fw => by rw [rm_k _ _ _ _ _ (by omega) (by omega)]; exact (P f g).2.2.2.2.1
  have p40 : ∀ f g t fl fw, rm (ro r f g x y) t fl fw 149 40 = 170 := fun f g t fl fw => by rw [rm_k _ _ _ _ _ (by omega) (by omega)]; exact (P f g).2.2.2.2.2.1
  have p37 : ∀ f g t fl fw, rm (ro r f g x y) t fl fw 149 37 = 167 := fun f g t fl fw => rp_37 (P f g) t fl fw
  have p38 : ∀ f g t fl fw, rm (ro r f g x y) t fl fw 149 38 = 168 := fun f g t fl fw => rp_38 (P f g) t fl fw
  have q9 : ∀ f g t fl fw, rm (ro r f g x y) t fl fw 169 (e % 10) = r 167 (e % 10) := fun f g t fl fw => by rw [rm_b _ _ _ _ _ (by omega) (by omega), ro_b _ _ _ _ _ _ (by omega) (by omega) (by omega)]; exact (ops_9 r _ k0 e4).1
  have q0 : ∀ f g t fl fw, rm (ro r f g x y) t fl fw 170 (e % 10) = r 168 (e % 10) := fun f g t fl fw => by rw [rm_b _ _ _ _ _ (by omega) (by omega), ro_b _ _ _ _ _ _ (by omega) (by omega) (by omega)]; exact (ops_9 r _ k0 e4).2
  have u7 : ∀ f g t fl fw v, mset (rm (ro r f g x y) t fl fw) 167 l v = rm (ro r (up f l v) g x y) t fl fw := fun f g t fl fw v => by rw [ru_b _ _ _ _ _ _ _ (by omega) (by omega), ro_7 _ _ _ _ _ _ _ l0 l3]
  have u8 : ∀ f g t fl fw v, mset (rm (ro r f g x y) t fl fw) 168 l v = rm (ro r f (up g l v) x y) t fl fw := fun f g t fl fw v => by rw [ru_b _ _ _ _ _ _ _ (by omega) (by omega), ro_8 _ _ _ _ _ _ _ l0 l3]
  rw [xe_239_4]
  simp only [xe_239_5, xe_239_8, xe_239_9, xe_239_12, xe_239_13, xe_239_14, xe_239_17, xe_239_18, xe_239_20, xe_239_21, xe_239_22, xe_239_23, xe_239_24, xe_239_27, xe_239_28, xe_239_29, xe_239_32, xe_239_33, xe_239_35, xe_239_36, xe_239_37, xe_239_38, xe_239_39, xe_239_41, xe_239_42 _ (some (vI _)) _ _ _ _ _ _ rfl, xe_239_42 _ (some (vR _)) _ _ _ _ _ _ rfl, xe_239_42 _ none _ _ _ _ _ _ rfl, xe_239_43 _ _ (some (vI _)) _ _ _ _ rfl, xe_239_43 _ _ (some (vR _)) _ _ _ _ rfl, xe_239_43 _ _ none _ _ _ _ rfl, xe_239_46, xe_239_49, xe_239_50, xe_239_53 _ _ (some (vI _)) _ _ _ _ _ rfl, xe_239_53 _ _ (some (vR _)) _ _ _ _ _ rfl, xe_239_53 _ _ none _ _ _ _ _ rfl, xe_239_54, xe_239_55, xe_239_56, xe_239_59, xe_239_62, xe_239_63, xe_239_64, xe_239_65, xe_239_68, xe_239_69, xe_239_70, xe_239_73, ite_self, mm_nL_I, mm_nL_R, mm_nL_0, Option.bind_some, Option.bind_none, bnd_ite, Option.toList_some, Option.toList_none, List.cons_append, List.nil_append, mm_cats_nil, mm_cats_I, mm_cats_L, mm_cats_R, if_true, if_false, true_and, and_true, false_and, and_false, not_true_eq_false, not_false_eq_true, Int.reduceLE, Int.reduceLT, Int.reduceEq, Int.reduceNe, Int.reduceNeg, Int.reduceAdd, Int.reduceSub, Int.reduceMul, Nat.reduceAdd, Nat.reduceLeDiff, true_or, or_true, false_or, or_false, reduceIte, k_149, k_167, l_167, k_168, l_168, k_169, l_169, k_170, l_170, g0, k0, e4, l0, l3, d1, d2, w, p37, p38, p39, p40, q9, q0, u7, u8]
section CM
variable {L : Int} {c r : MM}
theorem s_tryO (h : RR c r) (o fl fw : Int) (s : Int × Int) (f g t : Int → Int) (o0 : 0 ≤ o) (o1 : o < 4000) (d : o % 10 < 4 ∧ o / 10 % 10 < 4 ∧ o / 10 / 10 % 10 < 4) :
    ∃ f' g' t' fl' fw', ev 239 0 [some (vR 149), some (vI o), none, none] [] (rm (ro r f g s.1 s.2) t fl fw) (g_1 L) = some (none, rm (ro r f' g' (lst (lf c) s o).1 (lst (lf c) s o).2) t' fl' fw', g_1 L) := by
  have hM := h.2.1
  obtain ⟨z1, z2, z3⟩ := h.2.2.2.2.2.2.2.2.2.1
  obtain ⟨w1, w2, w3, w4, w5, w6⟩ := h.2.2.2.2.2.2.2.2.1
  have wv := p_wo h
  have T := fun e l f g => s_to1 L o e l fl fw s.1 s.2 r f g t hM
  have st : ev 239 0 [some (vR 149), some (vI o), none, none] [] (rm (ro r f g s.1 s.2) t fl fw) (g_1 L) = ev 239 4 [some (vR 149), some (vI o), some (vI o), some (vI 3)] [] (rm (ro r f g s.1 s.2) t fl fw) (g_1 L) := by
    simp only [xe_239_0, xe_239_1 _ (some (vI _)) _ _ _ _ _ _ rfl, xe_239_1 _ (some (vR _)) _ _ _ _ _ _ rfl, xe_239_1 _ none _ _ _ _ _ _ rfl, xe_239_2, xe_239_3 _ _ (some (vI _)) _ _ _ _ _ rfl, xe_239_3 _ _ (some (vR _)) _ _ _ _ _ rfl, xe_239_3 _ _ none _ _ _ _ _ rfl, ite_self, mm_nL_I, mm_nL_R, mm_nL_0, Option.bind_some, Option.bind_none, bnd_ite, Option.toList_some, Option.toList_none, List.cons_append, List.nil_append, mm_cats_nil, mm_cats_I, mm_cats_L, mm_cats_R, if_true, if_false, true_and, and_true, false_and, and_false, not_true_eq_false, not_false_eq_true, Int.reduceLE, Int.reduceLT, Int.reduceEq, Int.reduceNe, Int.reduceNeg, Int.reduceAdd, Int.reduceSub, Int.reduceMul, Nat.reduceAdd, Nat.reduceLeDiff, true_or, or_true, false_or, or_false, reduceIte]
  rw [st, T o 3 f g (by omega) (by omega) (by omega) (by omega) (by omega), show (3 : Int) - 1 = 2 from rfl]
  rw [T (o / 10) 2 _ _ (by omega) (by omega) (by omega) (by omega) (by omega), show (2 : Int) - 1 = 1 from rfl]
  rw [T (o / 10 / 10) 1 _ _ (by omega) (by omega) (by omega) (by omega) (by omega), show (1 : Int) - 1 = 0 from rfl]
  rw [T (o / 10 / 10 / 10) 0 _ _ (by omega) (by omega) (by omega) (by omega) (by omega), show (0 : Int) - 1 = -1 from rfl]
  have pv : ∀ (ls f : Int → Int) j, 0 ≤ j → j < 4 → up (up (up (up f 3 (ls (o % 10))) 2 (ls (o / 10 % 10))) 1 (ls (o / 10 / 10 % 10))) 0 (ls (o / 10 / 10 / 10 % 10)) j = pm ls o j := fun ls f j j0 j3 => by
    unfold pm
    have a1 : o / 1000 = o / 10 / 10 / 10 % 10 := by omega
    have a2 : o / 100 % 10 = o / 10 / 10 % 10 := by omega
    rw [a1, a2]
    have jq : j = 0 ∨ j = 1 ∨ j = 2 ∨ j = 3 := by omega
    rcases jq with rfl | rfl | rfl | rfl <;> rfl
  have p7 := pv (r 167) f
  have p8 := pv (r 168) g
  generalize up (up (up (up f 3 (r 167 (o % 10))) 2 (r 167 (o / 10 % 10))) 1 (r 167 (o / 10 / 10 % 10))) 0 (r 167 (o / 10 / 10 / 10 % 10)) = F at *
  generalize up (up (up (up g 3 (r 168 (o % 10))) 2 (r 168 (o / 10 % 10))) 1 (r 168 (o / 10 / 10 % 10))) 0 (r 168 (o / 10 / 10 / 10 % 10)) = G at *
  have e7 : ro r F G s.1 s.2 167 = pm (c 135) o := by
    funext j
    rw [z1]
    unfold ro
    by_cases e : 0 ≤ j ∧ j < 4
    · rw [if_pos ⟨rfl, e⟩, p7 j e.1 e.2]
    · rw [if_neg (fun q => e q.2), if_neg (by omega), if_neg (by omega), if_neg (by omega), ops_b _ _ (by omega) (by omega) (by omega) (by omega), ← z1, (z3 j e).1]
      unfold pm
      rw [if_neg (by omega), if_neg (by omega), if_neg (by omega), if_neg (by omega)]
  have e8 : ro r F G s.1 s.2 168 = pm (c 136) o := by
    funext j
    rw [z2]
    unfold ro
    rw [if_neg (by omega)]
    by_cases e : 0 ≤ j ∧ j < 4
    · rw [if_pos ⟨rfl, e⟩, p8 j e.1 e.2]
    · rw [if_neg (fun q => e q.2), if_neg (by omega), if_neg (by omega), ops_b _ _ (by omega) (by omega) (by omega) (by omega), ← z2, (z3 j e).2.1]
      unfold pm
      rw [if_neg (by omega), if_neg (by omega), if_neg (by omega), if_neg (by omega)]
  have dd : o % 10 < 4 ∧ o / 10 % 10 < 4 ∧ o / 100 % 10 < 4 := by omega
  obtain ⟨fl', fw', M⟩ := p_M (L := L) h (ro r F G s.1 s.2) t (pm (c 135) o) (pm (c 136) o) (c 134 3) fl fw (fun k hk => ro_k _ _ _ _ _ _ (by omega) (by omega)) e7 e8 (by rw [ro_k _ _ _ _ _ _ (by omega) (by omega), ops_k _ _ (by omega), if_neg (by omega)]; exact w2.symm) (wo_pm wv.1 o o0 o1 dd) (so_pm wv.2.1 o o0 o1 dd) w4 w5
  have lfe : pr (pm (c 135) o) (pm (c 136) o) (c 134 2) (c 134 3) = lf c o := rfl
  rw [lfe] at M
  have k45 : ∀ (r : MM) t fl fw, rm r t fl fw 149 45 = r 149 45 := fun r t fl fw => rm_k _ _ _ _ _ (by omega) (by omega)
  have u45 : ∀ (r : MM) t fl fw v, mset (rm r t fl fw) 149 45 v = rm (mset r 149 45 v) t fl fw := fun r t fl fw v => ru_k _ _ _ _ _ _ (by omega) (by omega)
  have u46 : ∀ (r : MM) t fl fw v, mset (rm r t fl fw) 149 46 v = rm (mset r 149 46 v) t fl fw := fun r t fl fw v => ru_k _ _ _ _ _ _ (by omega) (by omega)
  by_cases p : s.1 < lf c o
  · have le : lst (lf c) s o = (lf c o, o) := by unfold lst; rw [if_pos p]
    refine ⟨F, G, pt (pm (c 135) o) (pm (c 136) o) (c 134 2) (c 134 3), fl', fw', ?_⟩
    rw [le, xe_239_4]
    simp only [xe_239_5, xe_239_8, xe_239_9, xe_239_12, xe_239_13, xe_239_14, xe_239_17, xe_239_18, xe_239_20, xe_239_21, xe_239_22, xe_239_23, xe_239_24, xe_239_27, xe_239_28, xe_239_29, xe_239_32, xe_239_33, xe_239_35, xe_239_36, xe_239_37, xe_239_38, xe_239_39, xe_239_41, xe_239_42 _ (some (vI _)) _ _ _ _ _ _ rfl, xe_239_42 _ (some (vR _)) _ _ _ _ _ _ rfl, xe_239_42 _ none _ _ _ _ _ _ rfl, xe_239_43 _ _ (some (vI _)) _ _ _ _ rfl, xe_239_43 _ _ (some (vR _)) _ _ _ _ rfl, xe_239_43 _ _ none _ _ _ _ rfl, xe_239_46, xe_239_49, xe_239_50, xe_239_53 _ _ (some (vI _)) _ _ _ _ _ rfl, xe_239_53 _ _ (some (vR _)) _ _ _ _ _ rfl, xe_239_53 _ _ none _ _ _ _ _ rfl, xe_239_54, xe_239_55, xe_239_56, xe_239_59, xe_239_62, xe_239_63, xe_239_64, xe_239_65, xe_239_68, xe_239_69, xe_239_70, xe_239_73, ite_self, mm_nL_I, mm_nL_R, mm_nL_0, Option.bind_some, Option.bind_none, bnd_ite, Option.toList_some, Option.toList_none, List.cons_append, List.nil_append, mm_cats_nil, mm_cats_I, mm_cats_L, mm_cats_R, if_true, if_false, true_and, and_true, false_and, and_false, not_true_eq_false, not_false_eq_true, Int.reduceLE, Int.reduceLT, Int.reduceEq, Int.reduceNe, Int.reduceNeg, Int.reduceAdd, Int.reduceSub, Int.reduceMul, Nat.reduceAdd, Nat.reduceLeDiff, true_or, or_true, false_or, or_false, reduceIte, k_149, M, k45, u45, u46, ro_g45, ro_45, ro_46, p]
  · have le : lst (lf c) s o = s := by unfold lst; rw [if_neg p]
    refine ⟨F, G, pt (pm (c 135) o) (pm (c 136) o) (c 134 2) (c 134 3), fl', fw', ?_⟩
    rw [le, xe_239_4]
    simp only [xe_239_5, xe_239_8, xe_239_9, xe_239_12, xe_239_13, xe_239_14, xe_239_17, xe_239_18, xe_239_20, xe_239_21, xe_239_22, xe_239_23, xe_239_24, xe_239_27, xe_239_28, xe_239_29, xe_239_32, xe_239_33, xe_239_35, xe_239_36, xe_239_37, xe_239_38, xe_239_39, xe_239_41, xe_239_42 _ (some (vI _)) _ _ _ _ _ _ rfl, xe_239_42 _ (some (vR _)) _ _ _ _ _ _ rfl, xe_239_42 _ none _ _ _ _ _ _ rfl, xe_239_43 _ _ (some (vI _)) _ _ _ _ rfl, xe_239_43 _ _ (some (vR _)) _ _ _ _ rfl, xe_239_43 _ _ none _ _ _ _ rfl, xe_239_46, xe_239_49, xe_239_50, xe_239_53 _ _ (some (vI _)) _ _ _ _ _ rfl, xe_239_53 _ _ (some (vR _)) _ _ _ _ _ rfl, xe_239_53 _ _ none _ _ _ _ _ rfl, xe_239_54, xe_239_55, xe_239_56, xe_239_59, xe_239_62, xe_239_63, xe_239_64, xe_239_65, xe_239_68, xe_239_69, xe_239_70, xe_239_73, ite_self, mm_nL_I, mm_nL_R, mm_nL_0, Option.bind_some, Option.bind_none, bnd_ite, Option.toList_some, Option.toList_none, List.cons_append, List.nil_append, mm_cats_nil, mm_cats_I, mm_cats_L, mm_cats_R, if_true, if_false, true_and, and_true, false_and, and_false, not_true_eq_false, not_false_eq_true, Int.reduceLE, Int.reduceLT, Int.reduceEq, Int.reduceNe, Int.reduceNeg, Int.reduceAdd, Int.reduceSub, Int.reduceMul, Nat.reduceAdd, Nat.reduceLeDiff, true_or, or_true, false_or, or_false, reduceIte, k_149, M, k45, u45, u46, ro_g45, ro_45, ro_46, p]
theorem s_isO1 (o s e k : Int) (μ : MM) (G : MG) (e0 : 0 ≤ e) (e1 : e < 2147483648) (k0 : 0 ≤ k) (k1 : k < 4) : ev 240 6 [some (vI o), some (vI s), some (vI e), some (vI k)] [] μ G = ev 240 6 [some (vI o), some (vI (mm_or s (mm_shl 1 (e % 10)))), some (vI (e / 10)), some (vI (k + 1))] [] μ G := by
  have g0 : ¬ 4 ≤ k := by omega
  have d1 : mm_rem e 10 = e % 10 := nu_rem e0 e1 (by omega) (by omega)
  have d2 : mm_div e 10 = e / 10 := nu_div e0 e1 (by omega) (by omega)
  have w : w32 (k + 1) = k + 1 := wi32 (by omega) (by omega)
  rw [xe_240_6]
  simp only [xe_240_7, xe_240_8, xe_240_11, xe_240_12, xe_240_13, xe_240_14, xe_240_16, xe_240_17, xe_240_18, xe_240_19 (some (vI _)) _ _ _ _ _ _ _ rfl, xe_240_19 (some (vR _)) _ _ _ _ _ _ _ rfl, xe_240_19 none _ _ _ _ _ _ _ rfl, xe_240_20, xe_240_21, xe_240_23, xe_240_24 _ (some (vI _)) _ _ _ _ _ _ rfl, xe_240_24 _ (some (vR _)) _ _ _ _ _ _ rfl, xe_240_24 _ none _ _ _ _ _ _ rfl, xe_240_25 _ _ (some (vI _)) _ _ _ _ rfl, xe_240_25 _ _ (some (vR _)) _ _ _ _ rfl, xe_240_25 _ _ none _ _ _ _ rfl, xe_240_28, xe_240_31, xe_240_32, xe_240_34, xe_240_37, xe_240_38, xe_240_41, xe_240_42, ite_self, mm_nL_I, mm_nL_R, mm_nL_0, Option.bind_some, Option.bind_none, bnd_ite, Option.toList_some, Option.toList_none, List.cons_append, List.nil_append, mm_cats_nil, mm_cats_I, mm_cats_L, mm_cats_R, if_true, if_false, true_and, and_true, false_and, and_false, not_true_eq_false, not_false_eq_true, Int.reduceLE, Int.reduceLT, Int.reduceEq, Int.reduceNe, Int.reduceNeg, Int.reduceAdd, Int.reduceSub, Int.reduceMul, Nat.reduceAdd, Nat.reduceLeDiff, true_or, or_true, false_or, or_false, reduceIte, g0, d1, d2, w]
theorem s_isO (o : Int) (μ : MM) (G : MG) (o0 : 0 ≤ o) (o1 : o < 2147483648) : ev 240 0 [some (vI o), none, none, none] [] μ G = some (some (vI (if isO o = true then 1 else 0)), μ, G) := by
  have T := fun s e k => s_isO1 o s e k μ G
  have st : ev 240 0 [some (vI o), none, none, none] [] μ G = ev 240 6 [some (vI o), some (vI 0), some (vI o), some (vI 0)] [] μ G := by
    simp only [xe_240_0, xe_240_1 (some (vI _)) _ _ _ _ _ _ _ rfl, xe_240_1 (some (vR _)) _ _ _ _ _ _ _ rfl, xe_240_1 none _ _ _ _ _ _ _ rfl, xe_240_2, xe_240_3 _ (some (vI _)) _ _ _ _ _ _ rfl, xe_240_3 _ (some (vR _)) _ _ _ _ _ _ rfl, xe_240_3 _ none _ _ _ _ _ _ rfl, xe_240_4, xe_240_5 _ _ (some (vI _)) _ _ _ _ _ rfl, xe_240_5 _ _ (some (vR _)) _ _ _ _ _ rfl, xe_240_5 _ _ none _ _ _ _ _ rfl, ite_self, mm_nL_I, mm_nL_R, mm_nL_0, Option.bind_some, Option.bind_none, bnd_ite, Option.toList_some, Option.toList_none, List.cons_append, List.nil_append, mm_cats_nil, mm_cats_I, mm_cats_L, mm_cats_R, if_true, if_false, true_and, and_true, false_and, and_false, not_true_eq_false, not_false_eq_true, Int.reduceLE, Int.reduceLT, Int.reduceEq, Int.reduceNe, Int.reduceNeg, Int.reduceAdd, Int.reduceSub, Int.reduceMul, Nat.reduceAdd, Nat.reduceLeDiff, true_or, or_true, false_or, or_false, reduceIte]
  rw [st, T _ _ 0 (by omega) (by omega) (by omega) (by omega), show (0 : Int) + 1 = 1 from rfl]
  rw [T _ _ 1 (by omega) (by omega) (by omega) (by omega), show (1 : Int) + 1 = 2 from rfl]
  rw [T _ _ 2 (by omega) (by omega) (by omega) (by omega), show (2 : Int) + 1 = 3 from rfl]
  rw [T _ _ 3 (by omega) (by omega) (by omega) (by omega), show (3 : Int) + 1 = 4 from rfl]
  unfold isO
  by_cases p : mm_or (mm_or (mm_or (mm_or 0 (mm_shl 1 (o % 10))) (mm_shl 1 (o / 10 % 10))) (mm_shl 1 (o / 10 / 10 % 10))) (mm_shl 1 (o / 10 / 10 / 10 % 10)) = 15
  · rw [xe_240_6]
    simp only [xe_240_7, xe_240_8, xe_240_11, xe_240_12, xe_240_13, xe_240_14, xe_240_16, xe_240_17, xe_240_18, xe_240_19 (some (vI _)) _ _ _ _ _ _ _ rfl, xe_240_19 (some (vR _)) _ _ _ _ _ _ _ rfl, xe_240_19 none _ _ _ _ _ _ _ rfl, xe_240_20, xe_240_21, xe_240_23, xe_240_24 _ (some (vI _)) _ _ _ _ _ _ rfl, xe_240_24 _ (some (vR _)) _ _ _ _ _ _ rfl, xe_240_24 _ none _ _ _ _ _ _ rfl, xe_240_25 _ _ (some (vI _)) _ _ _ _ rfl, xe_240_25 _ _ (some (vR _)) _ _ _ _ rfl, xe_240_25 _ _ none _ _ _ _ rfl, xe_240_28, xe_240_31, xe_240_32, xe_240_34, xe_240_37, xe_240_38, xe_240_41, xe_240_42, ite_self, mm_nL_I, mm_nL_R, mm_nL_0, Option.bind_some, Option.bind_none, bnd_ite, Option.toList_some, Option.toList_none, List.cons_append, List.nil_append, mm_cats_nil, mm_cats_I, mm_cats_L, mm_cats_R, if_true, if_false, true_and, and_true, false_and, and_false, not_true_eq_false, not_false_eq_true, Int.reduceLE, Int.reduceLT, Int.reduceEq, Int.reduceNe, Int.reduceNeg, Int.reduceAdd, Int.reduceSub, Int.reduceMul, Nat.reduceAdd, Nat.reduceLeDiff, true_or, or_true, false_or, or_false, reduceIte, p, decide_true]
  · rw [xe_240_6]
    simp only [xe_240_7, xe_240_8, xe_240_11, xe_240_12, xe_240_13, xe_240_14, xe_240_16, xe_240_17, xe_240_18, xe_240_19 (some (vI _)) _ _ _ _ _ _ _ rfl, xe_240_19 (some (vR _)) _ _ _ _ _ _ _ rfl, xe_240_19 none _ _ _ _ _ _ _ rfl, xe_240_20, xe_240_21, xe_240_23, xe_240_24 _ (some (vI _)) _ _ _ _ _ _ rfl, xe_240_24 _ (some (vR _)) _ _ _ _ _ _ rfl, xe_240_24 _ none _ _ _ _ _ _ rfl, xe_240_25 _ _ (some (vI _)) _ _ _ _ rfl, xe_240_25 _ _ (some (vR _)) _ _ _ _ rfl, xe_240_25 _ _ none _ _ _ _ rfl, xe_240_28, xe_240_31, xe_240_32, xe_240_34, xe_240_37, xe_240_38, xe_240_41, xe_240_42, ite_self, mm_nL_I, mm_nL_R, mm_nL_0, Option.bind_some, Option.bind_none, bnd_ite, Option.toList_some, Option.toList_none, List.cons_append, List.nil_append, mm_cats_nil, mm_cats_I, mm_cats_L, mm_cats_R, if_true, if_false, true_and, and_true, false_and, and_false, not_true_eq_false, not_false_eq_true, Int.reduceLE, Int.reduceLT, Int.reduceEq, Int.reduceNe, Int.reduceNeg, Int.reduceAdd, Int.reduceSub, Int.reduceMul, Nat.reduceAdd, Nat.reduceLeDiff, true_or, or_true, false_or, or_false, reduceIte, p, decide_false, Bool.false_eq_true]
theorem la_M (h : RR c r) (w : Int) : ∀ (m : Nat) (s : Int × Int) (f g t : Int → Int) (fl fw : Int), m ≤ 3088 →
    ∃ f' g' t' fl' fw', ev 241 30 [some (vR 149), some (vI w), some (vI (3211 - (m : Int)))] [] (rm (ro r f g s.1 s.2) t fl fw) (g_1 L) = ev 241 55 [some (vR 149), some (vI w), some (vI 3211)] [] (rm (ro r f' g' (lm (lf c) m s).1 (lm (lf c) m s).2) t' fl' fw') (g_1 L) := by
  intro m
  induction m with
  | zero =>
    intro s f g t fl fw hm
    refine ⟨f, g, t, fl, fw, ?_⟩
    have e : (3211 : Int) - ((0 : Nat) : Int) = 3211 := by omega
    rw [e]
    simp only [xe_241_30, xe_241_31, xe_241_34, ite_self, mm_nL_I, mm_nL_R, mm_nL_0, Option.bind_some, Option.bind_none, bnd_ite, Option.toList_some, Option.toList_none, List.cons_append, List.nil_append, mm_cats_nil, mm_cats_I, mm_cats_L, mm_cats_R, if_true, if_false, true_and, and_true, false_and, and_false, not_true_eq_false, not_false_eq_true, Int.reduceLE, Int.reduceLT, Int.reduceEq, Int.reduceNe, Int.reduceNeg, Int.reduceAdd, Int.reduceSub, Int.reduceMul, Nat.reduceAdd, Nat.reduceLeDiff, true_or, or_true, false_or, or_false, reduceIte, lm]
  | succ m ih =>
    intro s f g t fl fw hm
    have e : (3211 : Int) - ((m + 1 : Nat) : Int) = 3210 - (m : Int) := by omega
    have e2 : w32 (3210 - (m : Int) + 1) = 3211 - (m : Int) := by rw [wi32 (by omega) (by omega)]; omega
    have g0 : ¬ 3210 < 3210 - (m : Int) := by omega
    have I := fun μ => s_isO (3210 - (m : Int)) μ (g_1 L) (by omega) (by omega)
    rw [e, xe_241_30]
    simp only [lm]
    cases p : isO (3210 - (m : Int))
    · rw [if_neg (by rw [p]; decide)] at I
      obtain ⟨f2, g2, t2, fl2, fw2, B⟩ := ih s f g t fl fw (by omega)
      refine ⟨f2, g2, t2, fl2, fw2, ?_⟩
      simp only [xe_241_31, xe_241_34, xe_241_37, xe_241_38, xe_241_41, xe_241_44, xe_241_45, xe_241_46, xe_241_49 _ (some (vI _)) _ _ _ _ rfl, xe_241_49 _ (some (vR _)) _ _ _ _ rfl, xe_241_49 _ none _ _ _ _ rfl, xe_241_52, ite_self, mm_nL_I, mm_nL_R, mm_nL_0, Option.bind_some, Option.bind_none, bnd_ite, Option.toList_some, Option.toList_none, List.cons_append, List.nil_append, mm_cats_nil, mm_cats_I, mm_cats_L, mm_cats_R, if_true, if_false, true_and, and_true, false_and, and_false, not_true_eq_false, not_false_eq_true, Int.reduceLE, Int.reduceLT, Int.reduceEq, Int.reduceNe, Int.reduceNeg, Int.reduceAdd, Int.reduceSub, Int.reduceMul, Nat.reduceAdd, Nat.reduceLeDiff, true_or, or_true, false_or, or_false, reduceIte, g0, I, e2, Bool.false_eq_true]
      exact B
    · have dg := chk_m 3088 m chk_e (by omega) p
      unfold dgo at dg
      have dg := of_decide_eq_true dg
      rw [if_pos p] at I
      obtain ⟨f1, g1, t1, fl1, fw1, A⟩ := s_tryO (L := L) h (3210 - (m : Int)) fl fw s f g t (by omega) (by omega) ⟨dg.1, dg.2.1, dg.2.2.1⟩
      obtain ⟨f2, g2, t2, fl2, fw2, B⟩ := ih (lst (lf c) s (3210 - (m : Int))) f1 g1 t1 fl1 fw1 (by omega)
      refine ⟨f2, g2, t2, fl2, fw2, ?_⟩
      simp only [xe_241_31, xe_241_34, xe_241_37, xe_241_38, xe_241_41, xe_241_44, xe_241_45, xe_241_46, xe_241_49 _ (some (vI _)) _ _ _ _ rfl, xe_241_49 _ (some (vR _)) _ _ _ _ rfl, xe_241_49 _ none _ _ _ _ rfl, xe_241_52, ite_self, mm_nL_I, mm_nL_R, mm_nL_0, Option.bind_some, Option.bind_none, bnd_ite, Option.toList_some, Option.toList_none, List.cons_append, List.nil_append, mm_cats_nil, mm_cats_I, mm_cats_L, mm_cats_R, if_true, if_false, true_and, and_true, false_and, and_false, not_true_eq_false, not_false_eq_true, Int.reduceLE, Int.reduceLT, Int.reduceEq, Int.reduceNe, Int.reduceNeg, Int.reduceAdd, Int.reduceSub, Int.reduceMul, Nat.reduceAdd, Nat.reduceLeDiff, true_or, or_true, false_or, or_false, reduceIte, k_149, g0, I, e2, A]
      exact B
theorem c_laid (w : Int) (h : RR c r) : CALL L 142 [some (vR 10), some (vI w), none, none, none, none, none, none, none, none] 241 [some (vR 149), some (vI w), none] c r := by
  have hX := h.1
  have hM := h.2.1
  by_cases g : 0 ≤ w ∧ w ≤ 1
  · have g1 : ¬ w < 0 := by omega
    obtain ⟨w1, w2, w3, w4, w5, w6⟩ := h.2.2.2.2.2.2.2.2.1
    have K := s_cpy L c (c 146) (c 147) (c 148) hX
    rw [txi] at K
    obtain ⟨f', g', S', sw', em', A⟩ := la_X (L := L) h w (Decidable.em _) 64 (-1, -1) (c 135) (c 136) (c 146) (c 147) (c 148) none none none none none (by omega)
    rw [cz_i] at A
    have O := s_opens L (mset r 149 0 0) (MP.t hM)
    have ri : ∀ x, mset (ops (mset r 149 0 0)) 149 45 x = ro r (r 167) (r 168) x (r 149 46) := fun x => by
      have a7 := ops_b r 167 (by omega) (by omega) (by omega) (by omega)
      have a8 := ops_b r 168 (by omega) (by omega) (by omega) (by omega)
      have a6 : ops (mset r 149 0 0) 149 46 = r 149 46 := by rw [ops_k _ _ (by omega), if_neg (by omega)]
      funext b j
      unfold mset ro
      by_cases b7 : b = 167 ∧ 0 ≤ j ∧ j < 4
      · rw [if_pos b7, if_neg (by omega), b7.1]; exact congrFun a7 j
      · rw [if_neg b7]
        by_cases b8 : b = 168 ∧ 0 ≤ j ∧ j < 4
        · rw [if_pos b8, if_neg (by omega), b8.1]; exact congrFun a8 j
        · rw [if_neg b8]
          by_cases b5 : b = 149 ∧ j = 45
          · rw [if_pos b5, if_pos b5]
          · rw [if_neg b5, if_neg b5]
            by_cases b6 : b = 149 ∧ j = 46
            · rw [if_pos b6, b6.1, b6.2]; exact a6
            · rw [if_neg b6]; rfl
    obtain ⟨f2, g2, t2, fl, fw, B⟩ := la_M (L := L) h w 3088 (-1, r 149 46) (r 167) (r 168) (ro r (r 167) (r 168) (-1) (r 149 46) 165) (ro r (r 167) (r 168) (-1) (r 149 46) 149 43) (ro r (r 167) (r 168) (-1) (r 149 46) 149 44) (by omega)
    rw [show ((-1, r 149 46) : Int × Int).1 = -1 from rfl, show ((-1, r 149 46) : Int × Int).2 = r 149 46 from rfl, rm_id, lmc (lf c) (pr_nn _ _ w3 w4 w5) (r 149 46) (-1)] at B
    generalize lc (lf c) 64 (-1, -1) = V at *
    have C := s_closes L (rm (ro r f2 g2 V.1 V.2) t2 fl fw) ((MP.ro hM _ _ _ _).rm _ _ _)
    have c45 : cls (rm (ro r f2 g2 V.1 V.2) t2 fl fw) 149 45 = V.1 := by
      unfold cls; rw [if_neg (by omega), if_neg (by omega), if_neg (by omega), if_neg (by omega), rm_k _ _ _ _ _ (by omega) (by omega), ro_g45]
    have c46 : cls (rm (ro r f2 g2 V.1 V.2) t2 fl fw) 149 46 = V.2 := by
      unfold cls; rw [if_neg (by omega), if_neg (by omega), if_neg (by omega), if_neg (by omega), rm_k _ _ _ _ _ (by omega) (by omega), ro_g46]
    have kc : keC c (tm (cz c f' g') 146 S' sw' em') ∧ FX c (tm (cz c f' g') 146 S' sw' em') := by
      refine keC.pap (fun b hb => cz_b c f' g' b hb) ?_ (fun j hj => ?_)
      · rw [cz_143, cpw_143, cpw_143]; exact ⟨rfl, rfl⟩
      · unfold cz cpw
        rw [if_neg (by omega), if_neg (by omega), if_neg (by omega), if_neg (by omega), if_neg (by omega), if_neg (by omega), if_neg (by omega), if_neg (by omega), if_neg (by omega), if_neg (by omega), if_neg (by omega), if_neg (by omega)]
        exact ⟨rfl, rfl⟩
    have kq : keR r (cls (rm (ro r f2 g2 V.1 V.2) t2 fl fw)) ∧ FM r (cls (rm (ro r f2 g2 V.1 V.2) t2 fl fw)) := by
      refine keR.pap h.2.2.2.2.2.2.2.2.2.2.2.2.1 (fun b b1 b2 b3 => ro_b _ _ _ _ _ _ b1 b2 b3) (fun j hj => ?_) (fun k hk => ?_)
      · unfold ro
        rw [if_neg (by omega), if_neg (by omega), if_neg (by omega), if_neg (by omega), if_neg (by omega), if_neg (by omega), if_neg (by omega), if_neg (by omega), ops_b _ _ (by omega) (by omega) (by omega) (by omega), ops_b _ _ (by omega) (by omega) (by omega) (by omega)]; exact ⟨rfl, rfl⟩
      · rw [ro_k _ _ _ _ _ _ (by omega) (by omega), ops_k _ _ (by omega), if_neg (by omega)]
    refine CALL.tell h (if w = 0 then V.1 else V.2) (tm (cz c f' g') 146 S' sw' em') (cls (rm (ro r f2 g2 V.1 V.2) t2 fl fw)) ?_ ?_ kc.1 kq.1 kc.2 kq.2
    · simp only [xe_142_0, xe_142_1, xe_142_4, xe_142_5, xe_142_6, xe_142_9, xe_142_11, xe_142_12, xe_142_13 _ (some (vI _)) _ _ _ _ _ _ _ _ _ _ _ _ rfl, xe_142_13 _ (some (vR _)) _ _ _ _ _ _ _ _ _ _ _ _ rfl, xe_142_13 _ none _ _ _ _ _ _ _ _ _ _ _ _ rfl, xe_142_14, xe_142_15 _ _ (some (vI _)) _ _ _ _ _ _ _ _ _ _ _ rfl, xe_142_15 _ _ (some (vR _)) _ _ _ _ _ _ _ _ _ _ _ rfl, xe_142_15 _ _ none _ _ _ _ _ _ _ _ _ _ _ rfl, xe_142_16, xe_142_17, xe_142_20, xe_142_21, xe_142_24, xe_142_27, xe_142_28 _ _ _ (some (vI _)) _ _ _ _ _ _ _ _ _ _ rfl, xe_142_28 _ _ _ (some (vR _)) _ _ _ _ _ _ _ _ _ _ rfl, xe_142_28 _ _ _ none _ _ _ _ _ _ _ _ _ _ rfl, ite_self, mm_nL_I, mm_nL_R, mm_nL_0, Option.bind_some, Option.bind_none, bnd_ite, Option.toList_some, Option.toList_none, List.cons_append, List.nil_append, mm_cats_nil, mm_cats_I, mm_cats_L, mm_cats_R, if_true, if_false, true_and, and_true, false_and, and_false, not_true_eq_false, not_false_eq_true, Int.reduceLE, Int.reduceLT, Int.reduceEq, Int.reduceNe, Int.reduceNeg, Int.reduceAdd, Int.reduceSub, Int.reduceMul, Nat.reduceAdd, Nat.reduceLeDiff, true_or, or_true, false_or, or_false, reduceIte, k_10, k_134, k_143, sx_10_8 hX, sx_10_11 hX, g, g1, K]
      exact A
    · have st : ev 241 0 [some (vR 149), some (vI w), none] [] r (g_1 L) = ev 241 30 [some (vR 149), some (vI w), some (vI 123)] [] (ro r (r 167) (r 168) (-1) (r 149 46)) (g_1 L) := by
        simp only [xe_241_0, xe_241_1, xe_241_2, xe_241_5, xe_241_6, xe_241_7, xe_241_8, xe_241_9, xe_241_12, xe_241_15, xe_241_17, xe_241_18, xe_241_19, xe_241_22, xe_241_23, xe_241_24, xe_241_27, xe_241_29 _ (some (vI _)) _ _ _ _ _ rfl, xe_241_29 _ (some (vR _)) _ _ _ _ _ rfl, xe_241_29 _ none _ _ _ _ _ rfl, ite_self, mm_nL_I, mm_nL_R, mm_nL_0, Option.bind_some, Option.bind_none, bnd_ite, Option.toList_some, Option.toList_none, List.cons_append, List.nil_append, mm_cats_nil, mm_cats_I, mm_cats_L, mm_cats_R, if_true, if_false, true_and, and_true, false_and, and_false, not_true_eq_false, not_false_eq_true, Int.reduceLE, Int.reduceLT, Int.reduceEq, Int.reduceNe, Int.reduceNeg, Int.reduceAdd, Int.reduceSub, Int.reduceMul, Nat.reduceAdd, Nat.reduceLeDiff, true_or, or_true, false_or, or_false, reduceIte, k_149, s_isIn, bi, g, O, ri]
      rw [st]
      refine B.trans ?_
      by_cases w0 : w = 0
      · simp only [xe_241_55, xe_241_56, xe_241_59, xe_241_60, xe_241_63, xe_241_64, xe_241_67, xe_241_70, xe_241_71, xe_241_74, ite_self, mm_nL_I, mm_nL_R, mm_nL_0, Option.bind_some, Option.bind_none, bnd_ite, Option.toList_some, Option.toList_none, List.cons_append, List.nil_append, mm_cats_nil, mm_cats_I, mm_cats_L, mm_cats_R, if_true, if_false, true_and, and_true, false_and, and_false, not_true_eq_false, not_false_eq_true, Int.reduceLE, Int.reduceLT, Int.reduceEq, Int.reduceNe, Int.reduceNeg, Int.reduceAdd, Int.reduceSub, Int.reduceMul, Nat.reduceAdd, Nat.reduceLeDiff, true_or, or_true, false_or, or_false, reduceIte, k_149, C, c45, w0]
      · simp only [xe_241_55, xe_241_56, xe_241_59, xe_241_60, xe_241_63, xe_241_64, xe_241_67, xe_241_70, xe_241_71, xe_241_74, ite_self, mm_nL_I, mm_nL_R, mm_nL_0, Option.bind_some, Option.bind_none, bnd_ite, Option.toList_some, Option.toList_none, List.cons_append, List.nil_append, mm_cats_nil, mm_cats_I, mm_cats_L, mm_cats_R, if_true, if_false, true_and, and_true, false_and, and_false, not_true_eq_false, not_false_eq_true, Int.reduceLE, Int.reduceLT, Int.reduceEq, Int.reduceNe, Int.reduceNeg, Int.reduceAdd, Int.reduceSub, Int.reduceMul, Nat.reduceAdd, Nat.reduceLeDiff, true_or, or_true, false_or, or_false, reduceIte, k_149, C, c46, w0]
  · refine CALL.ask h (-2) ?_ ?_
    · by_cases g1 : w < 0
      · simp only [xe_142_0, xe_142_1, xe_142_4, xe_142_5, xe_142_6, xe_142_9, xe_142_11, xe_142_12, xe_142_13 _ (some (vI _)) _ _ _ _ _ _ _ _ _ _ _ _ rfl, xe_142_13 _ (some (vR _)) _ _ _ _ _ _ _ _ _ _ _ _ rfl, xe_142_13 _ none _ _ _ _ _ _ _ _ _ _ _ _ rfl, xe_142_14, xe_142_15 _ _ (some (vI _)) _ _ _ _ _ _ _ _ _ _ _ rfl, xe_142_15 _ _ (some (vR _)) _ _ _ _ _ _ _ _ _ _ _ rfl, xe_142_15 _ _ none _ _ _ _ _ _ _ _ _ _ _ rfl, xe_142_16, xe_142_17, xe_142_20, xe_142_21, xe_142_24, xe_142_27, xe_142_28 _ _ _ (some (vI _)) _ _ _ _ _ _ _ _ _ _ rfl, xe_142_28 _ _ _ (some (vR _)) _ _ _ _ _ _ _ _ _ _ rfl, xe_142_28 _ _ _ none _ _ _ _ _ _ _ _ _ _ rfl, ite_self, mm_nL_I, mm_nL_R, mm_nL_0, Option.bind_some, Option.bind_none, bnd_ite, Option.toList_some, Option.toList_none, List.cons_append, List.nil_append, mm_cats_nil, mm_cats_I, mm_cats_L, mm_cats_R, if_true, if_false, true_and, and_true, false_and, and_false, not_true_eq_false, not_false_eq_true, Int.reduceLE, Int.reduceLT, Int.reduceEq, Int.reduceNe, Int.reduceNeg, Int.reduceAdd, Int.reduceSub, Int.reduceMul, Nat.reduceAdd, Nat.reduceLeDiff, true_or, or_true, false_or, or_false, reduceIte, g1]
      · have g2 : ¬ w ≤ 1 := by omega
        simp only [xe_142_0, xe_142_1, xe_142_4, xe_142_5, xe_142_6, xe_142_9, xe_142_11, xe_142_12, xe_142_13 _ (some (vI _)) _ _ _ _ _ _ _ _ _ _ _ _ rfl, xe_142_13 _ (some (vR _)) _ _ _ _ _ _ _ _ _ _ _ _ rfl, xe_142_13 _ none _ _ _ _ _ _ _ _ _ _ _ _ rfl, xe_142_14, xe_142_15 _ _ (some (vI _)) _ _ _ _ _ _ _ _ _ _ _ rfl, xe_142_15 _ _ (some (vR _)) _ _ _ _ _ _ _ _ _ _ _ rfl, xe_142_15 _ _ none _ _ _ _ _ _ _ _ _ _ _ rfl, xe_142_16, xe_142_17, xe_142_20, xe_142_21, xe_142_24, xe_142_27, xe_142_28 _ _ _ (some (vI _)) _ _ _ _ _ _ _ _ _ _ rfl, xe_142_28 _ _ _ (some (vR _)) _ _ _ _ _ _ _ _ _ _ rfl, xe_142_28 _ _ _ none _ _ _ _ _ _ _ _ _ _ rfl, ite_self, mm_nL_I, mm_nL_R, mm_nL_0, Option.bind_some, Option.bind_none, bnd_ite, Option.toList_some, Option.toList_none, List.cons_append, List.nil_append, mm_cats_nil, mm_cats_I, mm_cats_L, mm_cats_R, if_true, if_false, true_and, and_true, false_and, and_false, not_true_eq_false, not_false_eq_true, Int.reduceLE, Int.reduceLT, Int.reduceEq, Int.reduceNe, Int.reduceNeg, Int.reduceAdd, Int.reduceSub, Int.reduceMul, Nat.reduceAdd, Nat.reduceLeDiff, true_or, or_true, false_or, or_false, reduceIte, g1, g2]
    · simp only [xe_241_0, xe_241_1, xe_241_2, xe_241_5, xe_241_6, xe_241_7, xe_241_8, xe_241_9, xe_241_12, xe_241_15, xe_241_17, xe_241_18, xe_241_19, xe_241_22, xe_241_23, xe_241_24, xe_241_27, xe_241_29 _ (some (vI _)) _ _ _ _ _ rfl, xe_241_29 _ (some (vR _)) _ _ _ _ _ rfl, xe_241_29 _ none _ _ _ _ _ rfl, ite_self, mm_nL_I, mm_nL_R, mm_nL_0, Option.bind_some, Option.bind_none, bnd_ite, Option.toList_some, Option.toList_none, List.cons_append, List.nil_append, mm_cats_nil, mm_cats_I, mm_cats_L, mm_cats_R, if_true, if_false, true_and, and_true, false_and, and_false, not_true_eq_false, not_false_eq_true, Int.reduceLE, Int.reduceLT, Int.reduceEq, Int.reduceNe, Int.reduceNeg, Int.reduceAdd, Int.reduceSub, Int.reduceMul, Nat.reduceAdd, Nat.reduceLeDiff, true_or, or_true, false_or, or_false, reduceIte, k_149, s_isIn, bi, g]
end CM
