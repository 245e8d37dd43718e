/-! a training as a state: S its fields 2 to 12, sw and em its ladders -/
def up (S : Int → Int) (k v : Int) : Int → Int := fun j => if j = k then v else S j
theorem up_e (S : Int → Int) (k v j : Int) : up S k v j = if j = k then v else S j := rfl
def tm (c : MM) (a : Int) (S sw em : Int → Int) : MM := fun b j => if b = a ∧ 2 ≤ j ∧ j ≤ 12 then S j else if b = a + 1 ∧ 0 ≤ j ∧ j < 4 then sw j else if b = a + 2 ∧ 0 ≤ j ∧ j < 4 then em j else c b j
theorem tm_id (c : MM) (a : Int) : tm c a (c a) (c (a + 1)) (c (a + 2)) = c := by
  funext b j
  simp only [tm]
  split
  · rename_i h; rw [h.1]
  · split
    · rename_i h; rw [h.1]
    · split
      · rename_i h; rw [h.1]
      · rfl
theorem tm_0 (c : MM) (a : Int) (S sw em : Int → Int) : tm c a S sw em a 0 = c a 0 := by
  have h1 : ¬ a = a + 1 := by omega
  have h2 : ¬ a = a + 2 := by omega
  simp [tm, h1, h2]
theorem tm_1 (c : MM) (a : Int) (S sw em : Int → Int) : tm c a S sw em a 1 = c a 1 := by
  have h1 : ¬ a = a + 1 := by omega
  have h2 : ¬ a = a + 2 := by omega
  simp [tm, h1, h2]
theorem tm_s (c : MM) (a : Int) (S sw em : Int → Int) (l : Int) (l0 : 0 ≤ l) (l3 : l < 4) : tm c a S sw em (a + 1) l = sw l := by
  have h1 : ¬ a + 1 = a := by omega
  simp [tm, h1, l0, l3]
theorem tm_m (c : MM) (a : Int) (S sw em : Int → Int) (l : Int) (l0 : 0 ≤ l) (l3 : l < 4) : tm c a S sw em (a + 2) l = em l := by
  have h1 : ¬ a + 2 = a := by omega
  have h2 : ¬ a + 2 = a + 1 := by omega
  simp [tm, h1, h2, l0, l3]
theorem tm_b (c : MM) (a : Int) (S sw em : Int → Int) (b : Int) (h0 : ¬ b = a) (h1 : ¬ b = a + 1) (h2 : ¬ b = a + 2) : tm c a S sw em b = c b := by
  funext j
  simp [tm, h0, h1, h2]
theorem tm_k (c : MM) (a : Int) (S sw em : Int → Int) (k : Int) (h : 2 ≤ k ∧ k ≤ 12) : tm c a S sw em a k = S k := by simp [tm, h]
theorem tm_u (c : MM) (a : Int) (S sw em : Int → Int) (k v : Int) (h : 2 ≤ k ∧ k ≤ 12) : mset (tm c a S sw em) a k v = tm c a (up S k v) sw em := by
  funext b j
  by_cases hb : b = a
  · subst hb
    by_cases hj : j = k
    · subst hj
      simp [mset, tm, h, up]
    · simp [mset, tm, hj, up]
  · simp [mset, tm, hb]
theorem tm_us (c : MM) (a : Int) (S sw em : Int → Int) (l v : Int) (l0 : 0 ≤ l) (l3 : l < 4) : mset (tm c a S sw em) (a + 1) l v = tm c a S (up sw l v) em := by
  have h1 : ¬ a + 1 = a := by omega
  have h2 : ¬ a + 1 = a + 2 := by omega
  funext b j
  by_cases hb : b = a + 1
  · subst hb
    by_cases hj : j = l
    · subst hj
      simp [mset, tm, h1, up, l0, l3]
    · simp [mset, tm, hj, h1, h2, up]
  · simp [mset, tm, hb]
theorem tm_r (c : MM) (a : Int) (S sw em f : Int → Int) : r4 (tm c a S sw em) (a + 1) f = tm c a S f em := by
  have h1 : ¬ a + 1 = a := by omega
  have h2 : ¬ a + 1 = a + 2 := by omega
  funext b j
  by_cases hb : b = a + 1
  · subst hb
    by_cases hj : 0 ≤ j ∧ j < 4
    · simp [r4, tm, hj, h1]
    · simp only [r4, tm, hj, h1, h2, and_false, false_and, if_false]
  · simp [r4, tm, hb]
theorem tm_rm (c : MM) (a : Int) (S sw em f : Int → Int) : r4 (tm c a S sw em) (a + 2) f = tm c a S sw f := by
  have h1 : ¬ a + 2 = a := by omega
  have h2 : ¬ a + 2 = a + 1 := by omega
  funext b j
  by_cases hb : b = a + 2
  · subst hb
    by_cases hj : 0 ≤ j ∧ j < 4
    · simp [r4, tm, hj, h1, h2]
    · simp only [r4, tm, hj, h1, h2, and_false, false_and, if_false]
  · simp [r4, tm, hb]
theorem tg_2 (c : MM) (a : Int) (S sw em : Int → Int) : tm c a S sw em a 2 = S 2 := tm_k _ _ _ _ _ _ (by omega)
theorem tu_2 (c : MM) (a : Int) (S sw em : Int → Int) (v : Int) : mset (tm c a S sw em) a 2 v = tm c a (up S 2 v) sw em := tm_u _ _ _ _ _ _ _ (by omega)
theorem tg_3 (c : MM) (a : Int) (S sw em : Int → Int) : tm c a S sw em a 3 = S 3 := tm_k _ _ _ _ _ _ (by omega)
theorem tu_3 (c : MM) (a : Int) (S sw em : Int → Int) (v : Int) : mset (tm c a S sw em) a 3 v = tm c a (up S 3 v) sw em := tm_u _ _ _ _ _ _ _ (by omega)
theorem tg_4 (c : MM) (a : Int) (S sw em : Int → Int) : tm c a S sw em a 4 = S 4 := tm_k _ _ _ _ _ _ (by omega)
theorem tu_4 (c : MM) (a : Int) (S sw em : Int → Int) (v : Int) : mset (tm c a S sw em) a 4 v = tm c a (up S 4 v) sw em := tm_u _ _ _ _ _ _ _ (by omega)
theorem tg_5 (c : MM) (a : Int) (S sw em : Int → Int) : tm c a S sw em a 5 = S 5 := tm_k _ _ _ _ _ _ (by omega)
theorem tu_5 (c : MM) (a : Int) (S sw em : Int → Int) (v : Int) : mset (tm c a S sw em) a 5 v = tm c a (up S 5 v) sw em := tm_u _ _ _ _ _ _ _ (by omega)
theorem tg_6 (c : MM) (a : Int) (S sw em : Int → Int) : tm c a S sw em a 6 = S 6 := tm_k _ _ _ _ _ _ (by omega)
theorem tu_6 (c : MM) (a : Int) (S sw em : Int → Int) (v : Int) : mset (tm c a S sw em) a 6 v = tm c a (up S 6 v) sw em := tm_u _ _ _ _ _ _ _ (by omega)
theorem tg_7 (c : MM) (a : Int) (S sw em : Int → Int) : tm c a S sw em a 7 = S 7 := tm_k _ _ _ _ _ _ (by omega)
theorem tu_7 (c : MM) (a : Int) (S sw em : Int → Int) (v : Int) : mset (tm c a S sw em) a 7 v = tm c a (up S 7 v) sw em := tm_u _ _ _ _ _ _ _ (by omega)
theorem tg_8 (c : MM) (a : Int) (S sw em : Int → Int) : tm c a S sw em a 8 = S 8 := tm_k _ _ _ _ _ _ (by omega)
theorem tu_8 (c : MM) (a : Int) (S sw em : Int → Int) (v : Int) : mset (tm c a S sw em) a 8 v = tm c a (up S 8 v) sw em := tm_u _ _ _ _ _ _ _ (by omega)
theorem tg_9 (c : MM) (a : Int) (S sw em : Int → Int) : tm c a S sw em a 9 = S 9 := tm_k _ _ _ _ _ _ (by omega)
theorem tu_9 (c : MM) (a : Int) (S sw em : Int → Int) (v : Int) : mset (tm c a S sw em) a 9 v = tm c a (up S 9 v) sw em := tm_u _ _ _ _ _ _ _ (by omega)
theorem tg_10 (c : MM) (a : Int) (S sw em : Int → Int) : tm c a S sw em a 10 = S 10 := tm_k _ _ _ _ _ _ (by omega)
theorem tu_10 (c : MM) (a : Int) (S sw em : Int → Int) (v : Int) : mset (tm c a S sw em) a 10 v = tm c a (up S 10 v) sw em := tm_u _ _ _ _ _ _ _ (by omega)
theorem tg_11 (c : MM) (a : Int) (S sw em : Int → Int) : tm c a S sw em a 11 = S 11 := tm_k _ _ _ _ _ _ (by omega)
theorem tu_11 (c : MM) (a : Int) (S sw em : Int → Int) (v : Int) : mset (tm c a S sw em) a 11 v = tm c a (up S 11 v) sw em := tm_u _ _ _ _ _ _ _ (by omega)
theorem tg_12 (c : MM) (a : Int) (S sw em : Int → Int) : tm c a S sw em a 12 = S 12 := tm_k _ _ _ _ _ _ (by omega)
theorem tu_12 (c : MM) (a : Int) (S sw em : Int → Int) (v : Int) : mset (tm c a S sw em) a 12 v = tm c a (up S 12 v) sw em := tm_u _ _ _ _ _ _ _ (by omega)
theorem TP.atm {c : MM} {G : MG} {a : Int} (h : TP c G a) (S sw em : Int → Int) : TP (tm c a S sw em) G a := by
  obtain ⟨h1, h2, h3, h4, h5⟩ := h
  exact ⟨h1, h2, by rw [tm_0]; exact h3, by rw [tm_1]; exact h4, h5⟩
/-- the wiring lies elsewhere -/
def apart (a w : Int) : Prop := w + 3 ≤ a ∨ a + 3 ≤ w
theorem WP.atm {c : MM} {G : MG} {a w : Int} (h : WP c G w) (hp : apart a w) (S sw em : Int → Int) : WP (tm c a S sw em) G w := by
  obtain ⟨h1, h2, h3, h4, h5⟩ := h
  unfold apart at hp
  have e : tm c a S sw em w = c w := tm_b _ _ _ _ _ _ (by omega) (by omega) (by omega)
  exact ⟨h1, h2, by rw [e]; exact h3, by rw [e]; exact h4, h5⟩
/-- Arrays.fill -/
theorem s_filll (p v : Int) (n : Int) (G : MG) (hp : 10 ≤ p) (h1 : gk G p = 100) (h2 : gl G p = n) (hn : n ≤ 100000) : ∀ (m : Nat) (l : Int) (c : MM), 0 ≤ l → l + m = n → ev 263 5 [some (vR p), some (vI v), some (vI l), some (vI n)] [] c G = some (none, fun b j => if b = p ∧ l ≤ j ∧ j < n then v else c b j, G) := by
  intro m
  induction m with
  | zero =>
    intro l c l0 hl
    have g : n ≤ l := by omega
    simp only [xe_263_5, xe_263_6, xe_263_7, xe_263_20, ite_self, mm_nL_I, mm_nL_R, mm_nL_0, Option.bind_some, Option.bind_none, bnd_ite, Option.toList_some, Option.toList_none, List.cons_append, List.nil_append, mm_cats_nil, mm_cats_I, mm_cats_L, mm_cats_R, if_true, if_false, true_and, and_true, false_and, and_false, not_true_eq_false, not_false_eq_true, Int.reduceLE, Int.reduceLT, Int.reduceEq, Int.reduceNe, Int.reduceNeg, Int.reduceAdd, Int.reduceSub, Int.reduceMul, Nat.reduceAdd, Nat.reduceLeDiff, true_or, or_true, false_or, or_false, reduceIte, g]
    congr 3
    funext b j
    rw [if_neg (by omega)]
  | succ m ih =>
    intro l c l0 hl
    have g : ¬ n ≤ l := by omega
    have g' : l < n := by omega
    have w5 : w32 (l + 1) = l + 1 := wi32 (by omega) (by omega)
    rw [xe_263_5]
    simp only [xe_263_6, xe_263_7, xe_263_10, xe_263_11, xe_263_12, xe_263_13, xe_263_14 _ (some (vI _)) _ _ _ _ _ rfl, xe_263_14 _ (some (vR _)) _ _ _ _ _ rfl, xe_263_14 _ none _ _ _ _ _ rfl, xe_263_17, xe_263_20, ite_self, mm_nL_I, mm_nL_R, mm_nL_0, Option.bind_some, Option.bind_none, bnd_ite, Option.toList_some, Option.toList_none, List.cons_append, List.nil_append, mm_cats_nil, mm_cats_I, mm_cats_L, mm_cats_R, if_true, if_false, true_and, and_true, false_and, and_false, not_true_eq_false, not_false_eq_true, Int.reduceLE, Int.reduceLT, Int.reduceEq, Int.reduceNe, Int.reduceNeg, Int.reduceAdd, Int.reduceSub, Int.reduceMul, Nat.reduceAdd, Nat.reduceLeDiff, true_or, or_true, false_or, or_false, reduceIte, h1, h2, g, g', l0, hp, w5]
    rw [ih (l + 1) _ (by omega) (by omega)]
    congr 3
    funext b j
    simp only [mset]
    by_cases e : b = p ∧ l ≤ j ∧ j < n
    · rw [if_pos e]
      by_cases e2 : j = l
      · rw [if_neg (by omega), if_pos ⟨e.1, e2⟩]
      · rw [if_pos ⟨e.1, by omega, e.2.2⟩]
    · rw [if_neg e, if_neg (fun q => e ⟨q.1, by omega, q.2.2⟩), if_neg (fun q => e ⟨q.1, by omega, by omega⟩)]
theorem s_fill (p v n : Int) (c : MM) (G : MG) (hp : 10 ≤ p) (h1 : gk G p = 100) (h2 : gl G p = n) (hn0 : 0 ≤ n) (hn : n ≤ 100000) : ev 263 0 [some (vR p), some (vI v), none, none] [] c G = some (none, fun b j => if b = p ∧ 0 ≤ j ∧ j < n then v else c b j, G) := by
  have l := s_filll p v n G hp h1 h2 hn n.toNat 0 c (by omega) (by omega)
  have k : (100 : Int) ≤ gk G p := by omega
  simp only [xe_263_0, xe_263_1 _ (some (vI _)) _ _ _ _ _ _ rfl, xe_263_1 _ (some (vR _)) _ _ _ _ _ _ rfl, xe_263_1 _ none _ _ _ _ _ _ rfl, xe_263_2, xe_263_3, xe_263_4 _ _ (some (vI _)) _ _ _ _ _ rfl, xe_263_4 _ _ (some (vR _)) _ _ _ _ _ rfl, xe_263_4 _ _ none _ _ _ _ _ rfl, ite_self, mm_nL_I, mm_nL_R, mm_nL_0, Option.bind_some, Option.bind_none, bnd_ite, Option.toList_some, Option.toList_none, List.cons_append, List.nil_append, mm_cats_nil, mm_cats_I, mm_cats_L, mm_cats_R, if_true, if_false, true_and, and_true, false_and, and_false, not_true_eq_false, not_false_eq_true, Int.reduceLE, Int.reduceLT, Int.reduceEq, Int.reduceNe, Int.reduceNeg, Int.reduceAdd, Int.reduceSub, Int.reduceMul, Nat.reduceAdd, Nat.reduceLeDiff, true_or, or_true, false_or, or_false, reduceIte, h1, h2]
  exact l
def z0 : Int → Int := fun _ => 0
def ft (S : Int → Int) : Int → Int := up (up (up (up (up S 5 0) 6 0) 7 0) 8 0) 9 0
theorem s_toFoot (a : Int) (c : MM) (G : MG) (S sw em : Int → Int) (hT : TP c G a) : ev 95 0 [some (vR a)] [] (tm c a S sw em) G = some (none, tm c a (ft S) z0 z0, G) := by
  obtain ⟨t1, t2, t3, t4, t5, t6, t7, t8⟩ := hT
  have F1 := s_fill (a + 1) 0 4 (tm c a S sw em) G (by omega) t5 t6 (by omega) (by omega)
  have e1 : (fun b j => if b = a + 1 ∧ 0 ≤ j ∧ j < 4 then 0 else tm c a S sw em b j) = tm c a S z0 em := tm_r c a S sw em z0
  rw [e1] at F1
  have F2 := s_fill (a + 2) 0 4 (tm c a S z0 em) G (by omega) t7 t8 (by omega) (by omega)
  have e2 : (fun b j => if b = a + 2 ∧ 0 ≤ j ∧ j < 4 then 0 else tm c a S z0 em b j) = tm c a S z0 z0 := tm_rm c a S z0 em z0
  rw [e2] at F2
  simp only [xe_95_0, xe_95_1, xe_95_4, xe_95_5, xe_95_8, xe_95_9, xe_95_12, xe_95_13, xe_95_16, xe_95_17, xe_95_18, xe_95_21, xe_95_22, xe_95_23, xe_95_26, xe_95_27, xe_95_28, xe_95_31, xe_95_32, xe_95_33, xe_95_36, xe_95_37, xe_95_38, xe_95_41, ite_self, mm_nL_I, mm_nL_R, mm_nL_0, Option.bind_some, Option.bind_none, bnd_ite, Option.toList_some, Option.toList_none, List.cons_append, List.nil_append, mm_cats_nil, mm_cats_I, mm_cats_L, mm_cats_R, if_true, if_false, true_and, and_true, false_and, and_false, not_true_eq_false, not_false_eq_true, Int.reduceLE, Int.reduceLT, Int.reduceEq, Int.reduceNe, Int.reduceNeg, Int.reduceAdd, Int.reduceSub, Int.reduceMul, Nat.reduceAdd, Nat.reduceLeDiff, true_or, or_true, false_or, or_false, reduceIte, t2, t3, t4, F1, F2, tm_0, tm_1, tg_2, tu_2, tg_3, tu_3, tg_4, tu_4, tg_5, tu_5, tg_6, tu_6, tg_7, tu_7, tg_8, tu_8, tg_9, tu_9, tg_10, tu_10, tg_11, tu_11, tg_12, tu_12, up_e, ft]
theorem s_stop (a : Int) (c : MM) (G : MG) (S sw em : Int → Int) (hT : TP c G a) : ev 77 0 [some (vR a)] [] (tm c a S sw em) G = some (none, tm c a (ft (up (up (up (up (up S 2 0) 3 0) 4 0) 10 0) 11 0)) z0 z0, G) := by
  have F := fun S => s_toFoot a c G S sw em hT
  obtain ⟨t1, t2, t3, t4, t5, t6, t7, t8⟩ := hT
  have a0 : 0 < a := by omega
  simp only [xe_77_0, xe_77_1, xe_77_2, xe_77_5, xe_77_6, xe_77_7, xe_77_10, xe_77_11, xe_77_12, xe_77_15, xe_77_16, xe_77_17, xe_77_20, xe_77_21, xe_77_22, xe_77_25, xe_77_26, xe_77_29, ite_self, mm_nL_I, mm_nL_R, mm_nL_0, Option.bind_some, Option.bind_none, bnd_ite, Option.toList_some, Option.toList_none, List.cons_append, List.nil_append, mm_cats_nil, mm_cats_I, mm_cats_L, mm_cats_R, if_true, if_false, true_and, and_true, false_and, and_false, not_true_eq_false, not_false_eq_true, Int.reduceLE, Int.reduceLT, Int.reduceEq, Int.reduceNe, Int.reduceNeg, Int.reduceAdd, Int.reduceSub, Int.reduceMul, Nat.reduceAdd, Nat.reduceLeDiff, true_or, or_true, false_or, or_false, reduceIte, t2, a0, F, tm_0, tm_1, tg_2, tu_2, tg_3, tu_3, tg_4, tu_4, tg_5, tu_5, tg_6, tu_6, tg_7, tu_7, tg_8, tu_8, tg_9, tu_9, tg_10, tu_10, tg_11, tu_11, tg_12, tu_12, up_e]
def sta (S : Int → Int) (la ra : Int) : Int → Int := up (up (up (ft (up (up (up (up (up S 2 0) 3 0) 4 0) 10 0) 11 0)) 2 1) 3 la) 4 ra
theorem s_start (a w : Int) (c : MM) (G : MG) (S sw em : Int → Int) (hT : TP c G a) (hW : WP c G w) (hp : apart a w) : ev 78 0 [some (vR a), some (vR w)] [] (tm c a S sw em) G = some (none, tm c a (sta S (c w 2) (c w 3)) z0 z0, G) := by
  have F := s_stop a c G S sw em hT
  obtain ⟨t1, t2, t3, t4, t5, t6, t7, t8⟩ := hT
  unfold apart at hp
  have e := fun S sw em => tm_b c a S sw em w (by omega) (by omega) (by omega)
  have a0 : 0 < a := by omega
  simp only [xe_78_0, xe_78_1, xe_78_4, xe_78_5, xe_78_6, xe_78_9, xe_78_10, xe_78_11, xe_78_14, xe_78_17, xe_78_18, xe_78_19, xe_78_22, xe_78_25, ite_self, mm_nL_I, mm_nL_R, mm_nL_0, Option.bind_some, Option.bind_none, bnd_ite, Option.toList_some, Option.toList_none, List.cons_append, List.nil_append, mm_cats_nil, mm_cats_I, mm_cats_L, mm_cats_R, if_true, if_false, true_and, and_true, false_and, and_false, not_true_eq_false, not_false_eq_true, Int.reduceLE, Int.reduceLT, Int.reduceEq, Int.reduceNe, Int.reduceNeg, Int.reduceAdd, Int.reduceSub, Int.reduceMul, Nat.reduceAdd, Nat.reduceLeDiff, true_or, or_true, false_or, or_false, reduceIte, t2, hW.2.1, a0, F, e, tm_0, tm_1, tg_2, tu_2, tg_3, tu_3, tg_4, tu_4, tg_5, tu_5, tg_6, tu_6, tg_7, tu_7, tg_8, tu_8, tg_9, tu_9, tg_10, tu_10, tg_11, tu_11, tg_12, tu_12, up_e, sta]
