/-! load: what both do ahead of reading -/
def L1 (c : MM) (n : Int) : MM := mset (mcopy (mset c 13 1 n) 14 0 n (fun q => c 12 q)) 11 1 0
theorem L1_b (c : MM) (n b : Int) (h1 : ¬ b = 11) (h2 : ¬ b = 13) (h3 : ¬ b = 14) : L1 c n b = c b := by
  unfold L1; rw [ms_row _ _ _ _ _ h1]; funext j; unfold mcopy; rw [if_neg (by omega), ms_row _ _ _ _ _ h2]
theorem L1_11 (c : MM) (n k : Int) : L1 c n 11 k = if k = 1 then 0 else c 11 k := by
  unfold L1; rw [ms_sa]; unfold mcopy; rw [if_neg (c := (11 : Int) = 14 ∧ _) (by omega), ms_row _ _ _ _ _ (by omega)]
theorem L1_13 (c : MM) (n k : Int) : L1 c n 13 k = if k = 1 then n else c 13 k := by
  unfold L1; rw [ms_row _ _ _ _ _ (by omega)]; unfold mcopy; rw [if_neg (by omega), ms_sa]
theorem L1_14 (c : MM) (n k : Int) (h0 : 0 ≤ k) (h1 : k < n) : L1 c n 14 k = c 12 k := by
  unfold L1; rw [ms_row _ _ _ _ _ (by omega)]; unfold mcopy; rw [if_pos (by omega)]; simp only [Int.sub_zero]
def crow (r : MM) (a b n : Int) : MM := fun x j => if x = a ∧ 0 ≤ j ∧ j < n then r b j else r x j
theorem crow_b (r : MM) (a b n x : Int) (h : ¬ x = a) : crow r a b n x = r x := by funext j; unfold crow; rw [if_neg (fun q => h q.1)]
theorem crow_v (r : MM) (a b n j : Int) (h0 : 0 ≤ j) (h1 : j < n) : crow r a b n a j = r b j := by unfold crow; rw [if_pos ⟨rfl, h0, h1⟩]
theorem crow_0 (r : MM) (a b : Int) : crow r a b 0 = r := by funext x j; unfold crow; rw [if_neg (by omega)]
theorem crow_s (r : MM) (a b i : Int) (i0 : 0 ≤ i) : mset (crow r a b i) a i (r b i) = crow r a b (i + 1) := by
  funext x j
  unfold mset crow
  by_cases h : x = a ∧ j = i
  · rw [if_pos h, if_pos (by omega), h.2]
  · rw [if_neg h]
    by_cases q : x = a ∧ 0 ≤ j ∧ j < i
    · rw [if_pos q, if_pos (by omega)]
    · rw [if_neg q, if_neg (by omega)]
section LD
variable {L : Int}
theorem lp_34 (n : Int) (n5 : n ≤ 520) (r : MM) (p1 : r 149 1 = 150) (p2 : r 149 2 = 151) : ∀ (m : Nat) (i : Int), 0 ≤ i → i + m = n → ev 157 34 [some (vR 149), some (vI n), some (vI i)] [] (crow r 151 150 i) (g_1 L) = ev 157 57 [some (vR 149), some (vI n), some (vI n)] [] (crow r 151 150 n) (g_1 L) := by
  intro m
  induction m with
  | zero =>
    intro i i0 im
    have e : i = n := by omega
    subst e
    rw [xe_157_34]
    simp only [xe_157_35, xe_157_36, xe_157_39, xe_157_40, xe_157_43, xe_157_44, xe_157_45, xe_157_48, xe_157_49, xe_157_50, xe_157_51 _ (some (vI _)) _ _ _ _ rfl, xe_157_51 _ (some (vR _)) _ _ _ _ rfl, xe_157_51 _ none _ _ _ _ rfl, xe_157_54, ite_self, mm_nL_I, mm_nL_R, mm_nL_0, Option.bind_some, Option.bind_none, bnd_ite, Option.toList_some, Option.toList_none, List.cons_append, List.nil_append, mm_cats_nil, mm_cats_I, mm_cats_L, mm_cats_R, if_true, if_false, true_and, and_true, false_and, and_false, not_true_eq_false, not_false_eq_true, Int.reduceLE, Int.reduceLT, Int.reduceEq, Int.reduceNe, Int.reduceNeg, Int.reduceAdd, Int.reduceSub, Int.reduceMul, Nat.reduceAdd, Nat.reduceLeDiff, true_or, or_true, false_or, or_false, reduceIte, Int.le_refl]
  | succ m ih =>
    intro i i0 im
    have I := ih (i + 1) (by omega) (by omega)
    rw [← I, ← crow_s r 151 150 i i0]
    have g : ¬ n ≤ i := by omega
    have a : 0 ≤ i ∧ i < 520 := by omega
    have w : w32 (i + 1) = i + 1 := wi32 (by omega) (by omega)
    have c9 : crow r 151 150 i 149 = r 149 := crow_b _ _ _ _ _ (by omega)
    have c5 : crow r 151 150 i 150 = r 150 := crow_b _ _ _ _ _ (by omega)
    rw [xe_157_34]
    simp only [xe_157_35, xe_157_36, xe_157_39, xe_157_40, xe_157_43, xe_157_44, xe_157_45, xe_157_48, xe_157_49, xe_157_50, xe_157_51 _ (some (vI _)) _ _ _ _ rfl, xe_157_51 _ (some (vR _)) _ _ _ _ rfl, xe_157_51 _ none _ _ _ _ rfl, xe_157_54, ite_self, mm_nL_I, mm_nL_R, mm_nL_0, Option.bind_some, Option.bind_none, bnd_ite, Option.toList_some, Option.toList_none, List.cons_append, List.nil_append, mm_cats_nil, mm_cats_I, mm_cats_L, mm_cats_R, if_true, if_false, true_and, and_true, false_and, and_false, not_true_eq_false, not_false_eq_true, Int.reduceLE, Int.reduceLT, Int.reduceEq, Int.reduceNe, Int.reduceNeg, Int.reduceAdd, Int.reduceSub, Int.reduceMul, Nat.reduceAdd, Nat.reduceLeDiff, true_or, or_true, false_or, or_false, reduceIte, k_149, k_150, l_150, k_151, l_151, g, a, w, c9, c5, p1, p2]
theorem lp_88 (n : Int) (n5 : n ≤ 512) (r : MM) (p2 : r 149 2 = 151) (p3 : r 149 3 = 152) : ∀ (m : Nat) (i : Int), 0 ≤ i → i + m = n → ev 157 88 [some (vR 149), some (vI n), some (vI i)] [] (crow r 152 151 i) (g_1 L) = ev 157 111 [some (vR 149), some (vI n), some (vI n)] [] (crow r 152 151 n) (g_1 L) := by
  intro m
  induction m with
  | zero =>
    intro i i0 im
    have e : i = n := by omega
    subst e
    rw [xe_157_88]
    simp only [xe_157_89, xe_157_90, xe_157_93, xe_157_94, xe_157_97, xe_157_98, xe_157_99, xe_157_102, xe_157_103, xe_157_104, xe_157_105 _ (some (vI _)) _ _ _ _ rfl, xe_157_105 _ (some (vR _)) _ _ _ _ rfl, xe_157_105 _ none _ _ _ _ rfl, xe_157_108, ite_self, mm_nL_I, mm_nL_R, mm_nL_0, Option.bind_some, Option.bind_none, bnd_ite, Option.toList_some, Option.toList_none, List.cons_append, List.nil_append, mm_cats_nil, mm_cats_I, mm_cats_L, mm_cats_R, if_true, if_false, true_and, and_true, false_and, and_false, not_true_eq_false, not_false_eq_true, Int.reduceLE, Int.reduceLT, Int.reduceEq, Int.reduceNe, Int.reduceNeg, Int.reduceAdd, Int.reduceSub, Int.reduceMul, Nat.reduceAdd, Nat.reduceLeDiff, true_or, or_true, false_or, or_false, reduceIte, Int.le_refl]
  | succ m ih =>
    intro i i0 im
    have I := ih (i + 1) (by omega) (by omega)
    rw [← I, ← crow_s r 152 151 i i0]
    have g : ¬ n ≤ i := by omega
    have a : 0 ≤ i ∧ i < 520 := by omega
    have a2 : 0 ≤ i ∧ i < 512 := by omega
    have w : w32 (i + 1) = i + 1 := wi32 (by omega) (by omega)
    have c9 : crow r 152 151 i 149 = r 149 := crow_b _ _ _ _ _ (by omega)
    have c5 : crow r 152 151 i 151 = r 151 := crow_b _ _ _ _ _ (by omega)
    rw [xe_157_88]
    simp only [xe_157_89, xe_157_90, xe_157_93, xe_157_94, xe_157_97, xe_157_98, xe_157_99, xe_157_102, xe_157_103, xe_157_104, xe_157_105 _ (some (vI _)) _ _ _ _ rfl, xe_157_105 _ (some (vR _)) _ _ _ _ rfl, xe_157_105 _ none _ _ _ _ rfl, xe_157_108, ite_self, mm_nL_I, mm_nL_R, mm_nL_0, Option.bind_some, Option.bind_none, bnd_ite, Option.toList_some, Option.toList_none, List.cons_append, List.nil_append, mm_cats_nil, mm_cats_I, mm_cats_L, mm_cats_R, if_true, if_false, true_and, and_true, false_and, and_false, not_true_eq_false, not_false_eq_true, Int.reduceLE, Int.reduceLT, Int.reduceEq, Int.reduceNe, Int.reduceNeg, Int.reduceAdd, Int.reduceSub, Int.reduceMul, Nat.reduceAdd, Nat.reduceLeDiff, true_or, or_true, false_or, or_false, reduceIte, k_149, k_151, l_151, k_152, l_152, g, a, a2, w, c9, c5, p2, p3]
def M1 (r : MM) (n : Int) : MM := crow (mset (mset (mset r 149 0 0) 149 4 0) 149 5 n) 151 150 n
theorem M1_b (r : MM) (n b : Int) (h1 : ¬ b = 149) (h2 : ¬ b = 151) : M1 r n b = r b := by
  unfold M1; rw [crow_b _ _ _ _ _ h2, ms_row _ _ _ _ _ h1, ms_row _ _ _ _ _ h1, ms_row _ _ _ _ _ h1]
theorem M1_k (r : MM) (n k : Int) : M1 r n 149 k = if k = 5 then n else if k = 4 then 0 else if k = 0 then 0 else r 149 k := by
  unfold M1; rw [crow_b _ _ _ _ _ (by omega), ms_sa, ms_sa, ms_sa]
theorem M1_v (r : MM) (n j : Int) (h0 : 0 ≤ j) (h1 : j < n) : M1 r n 151 j = r 150 j := by
  unfold M1; rw [crow_v _ _ _ _ _ h0 h1, ms_row _ _ _ _ _ (by omega), ms_row _ _ _ _ _ (by omega), ms_row _ _ _ _ _ (by omega)]
theorem ld_X {c : MM} (n : Int) (hX : SX c) (h0 : 0 ≤ n) (h1 : n ≤ c 11 1) (h5 : c 11 1 ≤ 520) (hb : ∀ i, 0 ≤ i → i < c 11 1 → 0 ≤ c 12 i ∧ c 12 i < 256) :
    ev 100 0 [some (vR 10), some (vI n)] [] c (g_1 L) = if (ins (L1 c n 14) n).1 = 0 then ev 100 69 [some (vR 10), some (vI n)] [] (ic (L1 c n) (ins (L1 c n 14) n)) (g_1 L) else some (some (vI (w32 (-30 - (ins (L1 c n 14) n).1))), ic (L1 c n) (ins (L1 c n 14) n), g_1 L) := by
  have T := s_take 13 11 n c (g_1 L) (k_13 L) (sx_13_0 hX) (k_14 L) (l_14 L) (k_11 L) (sx_11_0 hX) (k_12 L) (l_12 L) (by omega) (by omega) (by omega) (by omega) h0 h1 h5
  have T' : ev 4 0 [some (vR 13), some (vR 11), some (vI n)] [] c (g_1 L) = some (none, mcopy (mset c 13 1 n) 14 0 n (fun q => c 12 q), g_1 L) := T
  have C := s_clear 11 (mcopy (mset c 13 1 n) 14 0 n (fun q => c 12 q)) (g_1 L) (k_11 L)
  have C' : ev 1 0 [some (vR 11)] [] (mcopy (mset c 13 1 n) 14 0 n (fun q => c 12 q)) (g_1 L) = some (none, L1 c n, g_1 L) := C
  have I := s_insp (L := L) (c := L1 c n) (n := n) ⟨by rw [L1_13]; exact sx_13_0 hX, by rw [L1_13]; rfl, by omega, fun i i0 i1 => by rw [L1_14 _ _ _ i0 i1]; exact hb i i0 (by omega)⟩ h0
  have t10 : mcopy (mset c 13 1 n) 14 0 n (fun q => c 12 q) 10 = c 10 := by
    funext j; unfold mcopy; rw [if_neg (by omega), ms_row _ _ _ _ _ (by omega)]
  have l10 : L1 c n 10 = c 10 := L1_b _ _ _ (by omega) (by omega) (by omega)
  have g0 : ¬ n < 0 := by omega
  have q0 := ic_0 (L1 c n) (ins (L1 c n 14) n)
  have q10 : ic (L1 c n) (ins (L1 c n 14) n) 10 = c 10 := by rw [ic_b _ _ _ (by omega)]; exact l10
  generalize L1 c n = d at *
  generalize ins (d 14) n = p at *
  by_cases e : p.1 = 0
  · rw [if_pos e]
    simp only [xe_100_0, xe_100_1, xe_100_4, xe_100_5, xe_100_6, xe_100_9, xe_100_12, xe_100_15, xe_100_17, xe_100_18, xe_100_19, xe_100_22, xe_100_23, xe_100_26, xe_100_27, xe_100_30, xe_100_31, xe_100_34, xe_100_37, xe_100_38, xe_100_41, xe_100_42, xe_100_45, xe_100_48, xe_100_49, xe_100_52, xe_100_55, xe_100_58, xe_100_60, xe_100_61, xe_100_64, xe_100_67, xe_100_68, ite_self, mm_nL_I, mm_nL_R, mm_nL_0, Option.bind_some, Option.bind_none, bnd_ite, Option.toList_some, Option.toList_none, List.cons_append, List.nil_append, mm_cats_nil, mm_cats_I, mm_cats_L, mm_cats_R, if_true, if_false, true_and, and_true, false_and, and_false, not_true_eq_false, not_false_eq_true, Int.reduceLE, Int.reduceLT, Int.reduceEq, Int.reduceNe, Int.reduceNeg, Int.reduceAdd, Int.reduceSub, Int.reduceMul, Nat.reduceAdd, Nat.reduceLeDiff, true_or, or_true, false_or, or_false, reduceIte, k_10, k_11, k_13, k_15, sx_10_0 hX, sx_10_1 hX, sx_10_2 hX, g0, h1, T', t10, C', l10, I, q0, q10, eq_true e]
  · rw [if_neg e]
    simp only [xe_100_0, xe_100_1, xe_100_4, xe_100_5, xe_100_6, xe_100_9, xe_100_12, xe_100_15, xe_100_17, xe_100_18, xe_100_19, xe_100_22, xe_100_23, xe_100_26, xe_100_27, xe_100_30, xe_100_31, xe_100_34, xe_100_37, xe_100_38, xe_100_41, xe_100_42, xe_100_45, xe_100_48, xe_100_49, xe_100_52, xe_100_55, xe_100_58, xe_100_60, xe_100_61, xe_100_64, xe_100_67, xe_100_68, ite_self, mm_nL_I, mm_nL_R, mm_nL_0, Option.bind_some, Option.bind_none, bnd_ite, Option.toList_some, Option.toList_none, List.cons_append, List.nil_append, mm_cats_nil, mm_cats_I, mm_cats_L, mm_cats_R, if_true, if_false, true_and, and_true, false_and, and_false, not_true_eq_false, not_false_eq_true, Int.reduceLE, Int.reduceLT, Int.reduceEq, Int.reduceNe, Int.reduceNeg, Int.reduceAdd, Int.reduceSub, Int.reduceMul, Nat.reduceAdd, Nat.reduceLeDiff, true_or, or_true, false_or, or_false, reduceIte, k_10, k_11, k_13, k_15, sx_10_0 hX, sx_10_1 hX, sx_10_2 hX, g0, h1, T', t10, C', l10, I, q0, q10, e]
theorem ld_M {r : MM} (F : Int → Int) (n : Int) (hM : SM r) (h0 : 0 ≤ n) (h1 : n ≤ r 149 4) (h5 : r 149 4 ≤ 520) (hb : ∀ i, 0 ≤ i → i < n → r 150 i = F i ∧ 0 ≤ F i ∧ F i < 256) :
    ev 157 0 [some (vR 149), some (vI n), none] [] r (g_1 L) = if (ins F n).1 = 0 then ev 157 86 [some (vR 149), some (vI n), some (vI n)] [] (im (M1 r n) (ins F n)) (g_1 L) else some (some (vI (w32 (-30 - (ins F n).1))), im (M1 r n) (ins F n), g_1 L) := by
  have p1 : mset (mset (mset r 149 0 0) 149 4 0) 149 5 n 149 1 = 150 := by rw [ms_nk _ _ _ _ _ _ (by omega), ms_nk _ _ _ _ _ _ (by omega), ms_nk _ _ _ _ _ _ (by omega)]; exact sm_149_1 hM
  have p2 : mset (mset (mset r 149 0 0) 149 4 0) 149 5 n 149 2 = 151 := by rw [ms_nk _ _ _ _ _ _ (by omega), ms_nk _ _ _ _ _ _ (by omega), ms_nk _ _ _ _ _ _ (by omega)]; exact sm_149_2 hM
  have P := lp_34 (L := L) n (by omega) (mset (mset (mset r 149 0 0) 149 4 0) 149 5 n) p1 p2 n.toNat 0 (by omega) (by omega)
  rw [crow_0] at P
  have C := m_chk (L := L) (r := M1 r n) (n := n) (F := F) ⟨by rw [M1_k]; exact sm_149_2 hM, by rw [M1_k]; rfl, by omega, fun i i0 i1 => by rw [M1_v _ _ _ i0 i1]; exact hb i i0 i1⟩ h0
  have iv0 : 0 ≤ n ∧ n ≤ r 149 4 := ⟨h0, h1⟩
  have z4 : mset r 149 0 0 149 4 = r 149 4 := ms_nk _ _ _ _ _ _ (by omega)
  have s1 : ev 157 0 [some (vR 149), some (vI n), none] [] r (g_1 L) = ev 157 34 [some (vR 149), some (vI n), some (vI 0)] [] (mset (mset (mset r 149 0 0) 149 4 0) 149 5 n) (g_1 L) := by
    simp only [xe_157_0, xe_157_1, xe_157_2, xe_157_5, xe_157_6, xe_157_7, xe_157_8, xe_157_9, xe_157_12, xe_157_13, xe_157_16, xe_157_19, xe_157_21, xe_157_22, xe_157_23, xe_157_24, xe_157_27, xe_157_28, xe_157_29, xe_157_32, xe_157_33 _ (some (vI _)) _ _ _ _ _ rfl, xe_157_33 _ (some (vR _)) _ _ _ _ _ rfl, xe_157_33 _ none _ _ _ _ _ rfl, ite_self, mm_nL_I, mm_nL_R, mm_nL_0, Option.bind_some, Option.bind_none, bnd_ite, Option.toList_some, Option.toList_none, List.cons_append, List.nil_append, mm_cats_nil, mm_cats_I, mm_cats_L, mm_cats_R, if_true, if_false, true_and, and_true, false_and, and_false, not_true_eq_false, not_false_eq_true, Int.reduceLE, Int.reduceLT, Int.reduceEq, Int.reduceNe, Int.reduceNeg, Int.reduceAdd, Int.reduceSub, Int.reduceMul, Nat.reduceAdd, Nat.reduceLeDiff, true_or, or_true, false_or, or_false, reduceIte, k_149, s_isIn, bi, z4, iv0]
  rw [s1, P]
  have q7 := im_7 (M1 r n) (ins F n)
  have C' : ev 155 0 [some (vR 149), none, none] [] (mset (mset (M1 r n) 149 7 0) 149 8 (-1)) (g_1 L) = some (none, im (M1 r n) (ins F n), g_1 L) := C
  show ev 157 57 [some (vR 149), some (vI n), some (vI n)] [] (M1 r n) (g_1 L) = _
  generalize M1 r n = d at *
  generalize ins F n = p at *
  by_cases e : p.1 = 0
  · rw [if_pos e]
    simp only [xe_157_57, xe_157_58, xe_157_59, xe_157_62, xe_157_63, xe_157_64, xe_157_67, xe_157_68, xe_157_71, xe_157_72, xe_157_75, xe_157_78, xe_157_80, xe_157_81, xe_157_84, xe_157_85, ite_self, mm_nL_I, mm_nL_R, mm_nL_0, Option.bind_some, Option.bind_none, bnd_ite, Option.toList_some, Option.toList_none, List.cons_append, List.nil_append, mm_cats_nil, mm_cats_I, mm_cats_L, mm_cats_R, if_true, if_false, true_and, and_true, false_and, and_false, not_true_eq_false, not_false_eq_true, Int.reduceLE, Int.reduceLT, Int.reduceEq, Int.reduceNe, Int.reduceNeg, Int.reduceAdd, Int.reduceSub, Int.reduceMul, Nat.reduceAdd, Nat.reduceLeDiff, true_or, or_true, false_or, or_false, reduceIte, k_149, C', q7, eq_true e]
  · rw [if_neg e]
    simp only [xe_157_57, xe_157_58, xe_157_59, xe_157_62, xe_157_63, xe_157_64, xe_157_67, xe_157_68, xe_157_71, xe_157_72, xe_157_75, xe_157_78, xe_157_80, xe_157_81, xe_157_84, xe_157_85, ite_self, mm_nL_I, mm_nL_R, mm_nL_0, Option.bind_some, Option.bind_none, bnd_ite, Option.toList_some, Option.toList_none, List.cons_append, List.nil_append, mm_cats_nil, mm_cats_I, mm_cats_L, mm_cats_R, if_true, if_false, true_and, and_true, false_and, and_false, not_true_eq_false, not_false_eq_true, Int.reduceLE, Int.reduceLT, Int.reduceEq, Int.reduceNe, Int.reduceNeg, Int.reduceAdd, Int.reduceSub, Int.reduceMul, Nat.reduceAdd, Nat.reduceLeDiff, true_or, or_true, false_or, or_false, reduceIte, k_149, C', q7, e]
end LD
