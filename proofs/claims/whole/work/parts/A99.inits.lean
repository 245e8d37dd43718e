/-! WHAT THE CLASS'S CONSTRUCTOR LEAVES -/
def imo (μ : MM) (n : Int) : MM := fun a j => if 49 ≤ a ∧ a < 49 + 2 * n then (if j = 0 ∧ a % 2 = 1 then a + 1 else 0) else if a = 46 ∧ 0 ≤ j ∧ j < n then 49 + 2 * j else μ a j
def iti (μ : MM) (n : Int) : MM := fun a j => if 23 ≤ a ∧ a < 23 + n then 0 else if a = 19 ∧ 0 ≤ j ∧ j < n then 23 + j else μ a j
theorem imo_0 (μ : MM) : imo μ 0 = μ := by
  funext a j; unfold imo; rw [if_neg (by omega), if_neg (by omega)]
theorem iti_0 (μ : MM) : iti μ 0 = μ := by
  funext a j; unfold iti; rw [if_neg (by omega), if_neg (by omega)]
theorem imo_s (μ : MM) (n : Int) (h : 0 ≤ n) : mset (mset (mzero (mzero (imo μ n) (49 + 2 * n)) (49 + 2 * n + 1)) (49 + 2 * n) 0 (49 + 2 * n + 1)) 46 n (49 + 2 * n) = imo μ (n + 1) := by
  funext a j
  simp only [mset_ap, mzero_ap]
  unfold imo
  by_cases e1 : a = 46
  · subst e1
    rw [if_neg (show ¬ ((46 : Int) = 49 + 2 * n ∧ j = 0) by omega), if_neg (show ¬ (46 : Int) = 49 + 2 * n + 1 by omega), if_neg (show ¬ (46 : Int) = 49 + 2 * n by omega), if_neg (show ¬ ((49 : Int) ≤ 46 ∧ (46 : Int) < 49 + 2 * n) by omega), if_neg (show ¬ ((49 : Int) ≤ 46 ∧ (46 : Int) < 49 + 2 * (n + 1)) by omega)]
    by_cases e2 : j = n
    · subst e2; rw [if_pos ⟨rfl, rfl⟩, if_pos (by omega)]
    · rw [if_neg (by omega)]
      by_cases e3 : 0 ≤ j ∧ j < n
      · rw [if_pos (by omega), if_pos (by omega)]
      · rw [if_neg (by omega), if_neg (by omega)]
  · rw [if_neg (show ¬ (a = 46 ∧ j = n) by omega)]
    rw [if_neg (show ¬ (a = 46 ∧ 0 ≤ j ∧ j < n) by omega), if_neg (show ¬ (a = 46 ∧ 0 ≤ j ∧ j < n + 1) by omega)]
    by_cases e2 : a = 49 + 2 * n
    · by_cases e3 : j = 0
      · rw [if_pos ⟨e2, e3⟩, if_pos (show 49 ≤ a ∧ a < 49 + 2 * (n + 1) by omega), if_pos (by omega), e2]
      · rw [if_neg (by omega), if_neg (by omega), if_pos e2, if_pos (show 49 ≤ a ∧ a < 49 + 2 * (n + 1) by omega), if_neg (by omega)]
    · rw [if_neg (show ¬ (a = 49 + 2 * n ∧ j = 0) by omega)]
      by_cases e3 : a = 49 + 2 * n + 1
      · rw [if_pos e3, if_pos (show 49 ≤ a ∧ a < 49 + 2 * (n + 1) by omega), if_neg (by omega)]
      · rw [if_neg e3, if_neg e2]
        by_cases e4 : 49 ≤ a ∧ a < 49 + 2 * n
        · rw [if_pos e4, if_pos (show 49 ≤ a ∧ a < 49 + 2 * (n + 1) by omega)]
        · rw [if_neg e4, if_neg (show ¬ (49 ≤ a ∧ a < 49 + 2 * (n + 1)) by omega)]
theorem iti_s (μ : MM) (n : Int) (h : 0 ≤ n) : mset (mzero (iti μ n) (23 + n)) 19 n (23 + n) = iti μ (n + 1) := by
  funext a j
  simp only [mset_ap, mzero_ap]
  unfold iti
  by_cases e1 : a = 19
  · subst e1
    rw [if_neg (show ¬ ((19 : Int) = 23 + n) by omega), if_neg (show ¬ ((23 : Int) ≤ 19 ∧ (19 : Int) < 23 + n) by omega), if_neg (show ¬ ((23 : Int) ≤ 19 ∧ (19 : Int) < 23 + (n + 1)) by omega)]
    by_cases e2 : j = n
    · subst e2; rw [if_pos ⟨rfl, rfl⟩, if_pos (by omega)]
    · rw [if_neg (by omega)]
      by_cases e3 : 0 ≤ j ∧ j < n
      · rw [if_pos (by omega), if_pos (by omega)]
      · rw [if_neg (by omega), if_neg (by omega)]
  · rw [if_neg (show ¬ (a = 19 ∧ j = n) by omega)]
    rw [if_neg (show ¬ (a = 19 ∧ 0 ≤ j ∧ j < n) by omega), if_neg (show ¬ (a = 19 ∧ 0 ≤ j ∧ j < n + 1) by omega)]
    by_cases e3 : a = 23 + n
    · rw [if_pos e3, if_pos (show 23 ≤ a ∧ a < 23 + (n + 1) by omega)]
    · rw [if_neg e3]
      by_cases e4 : 23 ≤ a ∧ a < 23 + n
      · rw [if_pos e4, if_pos (show 23 ≤ a ∧ a < 23 + (n + 1) by omega)]
      · rw [if_neg e4, if_neg (show ¬ (23 ≤ a ∧ a < 23 + (n + 1)) by omega)]
theorem s_i7 (a : Int) (μ : MM) (G : MG) (h : 10 ≤ a) : ev 59 0 [some (vR a)] [] μ G = some (none, μ, G) := by
  simp only [xe_59_0, xe_59_1, xe_59_4, ite_self, mm_nL_I, mm_nL_R, mm_nL_0, Option.bind_some, Option.bind_none, bnd_ite, Option.toList_some, Option.toList_none, List.cons_append, List.nil_append, mm_cats_nil, mm_cats_I, mm_cats_L, mm_cats_R, if_true, if_false, true_and, and_true, false_and, and_false, not_true_eq_false, not_false_eq_true, Int.reduceLE, Int.reduceLT, Int.reduceEq, Int.reduceNe, Int.reduceNeg, Int.reduceAdd, Int.reduceSub, Int.reduceMul, Nat.reduceAdd, Nat.reduceLeDiff, true_or, or_true, false_or, or_false, reduceIte, h]
theorem s_i4 (L a s : Int) (μ : MM) (h : 10 ≤ a) (k1 : kd_c a = (4, 0)) (k2 : kd_c (a + 1) = (7, 0)) : ev 27 0 [some (vR a)] [] μ (gp L (a + 1) s) = some (none, mset (mzero μ (a + 1)) a 0 (a + 1), gp L (a + 1 + 1) (s + 10)) := by
  simp only [xe_27_0, xe_27_1, xe_27_4, xe_27_5, xe_27_8, xe_27_9, xe_27_12, xe_27_15, ite_self, mm_nL_I, mm_nL_R, mm_nL_0, Option.bind_some, Option.bind_none, bnd_ite, Option.toList_some, Option.toList_none, List.cons_append, List.nil_append, mm_cats_nil, mm_cats_I, mm_cats_L, mm_cats_R, if_true, if_false, true_and, and_true, false_and, and_false, not_true_eq_false, not_false_eq_true, Int.reduceLE, Int.reduceLT, Int.reduceEq, Int.reduceNe, Int.reduceNeg, Int.reduceAdd, Int.reduceSub, Int.reduceMul, Nat.reduceAdd, Nat.reduceLeDiff, true_or, or_true, false_or, or_false, reduceIte, h, gp_n, gp_new k2 (show 10 ≤ a + 1 by omega), gp_k (show a < a + 1 + 1 by omega) (show ¬ a = 6 by omega), gp_k (show a + 1 < a + 1 + 1 by omega) (show ¬ a + 1 = 6 by omega), k1, k2, s_i7 (a + 1) _ _ (by omega), show 0 < a + 1 by omega]
theorem s_i5l (L : Int) : ∀ (d : Nat) (n s : Int) (μ : MM), n + (d : Int) = 40 → 0 ≤ n → μ 45 0 = 46 → ev 30 34 [some (vR 45), some (vI n)] [] (imo μ n) (gp L (49 + 2 * n) s) = some (none, imo μ 40, gp L 129 (s + 14 * (d : Int))) := by
  intro d
  induction d with
  | zero =>
    intro n s μ h1 h2 h3
    have e : n = 40 := by omega
    subst e
    have m1 : imo μ 40 45 0 = 46 := h3
    simp only [xe_30_34, xe_30_35, xe_30_36, xe_30_39, xe_30_40, xe_30_62, ite_self, mm_nL_I, mm_nL_R, mm_nL_0, Option.bind_some, Option.bind_none, bnd_ite, Option.toList_some, Option.toList_none, List.cons_append, List.nil_append, mm_cats_nil, mm_cats_I, mm_cats_L, mm_cats_R, if_true, if_false, true_and, and_true, false_and, and_false, not_true_eq_false, not_false_eq_true, Int.reduceLE, Int.reduceLT, Int.reduceEq, Int.reduceNe, Int.reduceNeg, Int.reduceAdd, Int.reduceSub, Int.reduceMul, Nat.reduceAdd, Nat.reduceLeDiff, true_or, or_true, false_or, or_false, reduceIte, m1, gp_n, gp_k (L := L) (k := 129) (s := s) (a := 45) (by omega) (by omega), gp_k (L := L) (k := 129) (s := s) (a := 46) (by omega) (by omega), gp_l (L := L) (k := 129) (s := s) (a := 46) (by omega) (by omega), kc_45, kc_46, xe_30_62]
    simp
  | succ d ih =>
    intro n s μ h1 h2 h3
    have m1 : imo μ n 45 0 = 46 := by
      unfold imo; rw [if_neg (by omega), if_neg (by omega)]; exact h3
    obtain ⟨i, rfl⟩ := Int.eq_ofNat_of_zero_le h2
    obtain ⟨k1, k2⟩ := kc_mo i (by omega)
    have I := ih ((i : Int) + 1) (s + 4 + 10) μ (by omega) (by omega) h3
    rw [show s + 14 * ((d + 1 : Nat) : Int) = s + 4 + 10 + 14 * (d : Int) by omega, ← I, xe_30_34, ← imo_s μ i (by omega)]
    have w : w32 ((i : Int) + 1) = (i : Int) + 1 := wi32 (by omega) (by omega)
    have c1 : imo μ i 45 0 = 46 := m1
    have c2 : mzero (imo μ i) (49 + 2 * (i : Int)) 45 0 = 46 := by rw [mzero_ap, if_neg (by omega)]; exact m1
    have e1 : (49 : Int) + 2 * ((i : Int) + 1) = 49 + 2 * (i : Int) + 1 + 1 := by omega
    simp only [xe_30_35, xe_30_36, xe_30_39, xe_30_40, xe_30_43, xe_30_44, xe_30_47, xe_30_48, xe_30_51, xe_30_52, xe_30_55, xe_30_56 (some (vI _)) _ _ _ _ rfl, xe_30_56 (some (vR _)) _ _ _ _ rfl, xe_30_56 none _ _ _ _ rfl, xe_30_59, ite_self, mm_nL_I, mm_nL_R, mm_nL_0, Option.bind_some, Option.bind_none, bnd_ite, Option.toList_some, Option.toList_none, List.cons_append, List.nil_append, mm_cats_nil, mm_cats_I, mm_cats_L, mm_cats_R, if_true, if_false, true_and, and_true, false_and, and_false, not_true_eq_false, not_false_eq_true, Int.reduceLE, Int.reduceLT, Int.reduceEq, Int.reduceNe, Int.reduceNeg, Int.reduceAdd, Int.reduceSub, Int.reduceMul, Nat.reduceAdd, Nat.reduceLeDiff, true_or, or_true, false_or, or_false, reduceIte, c1, gp_n, gp_new k1 (show 10 ≤ 49 + 2 * (i : Int) by omega), s_i4 L _ _ _ (show 10 ≤ 49 + 2 * (i : Int) by omega) k1 k2,
      gp_k (show (45 : Int) < 49 + 2 * (i : Int) by omega) (show ¬ (45 : Int) = 6 by omega), gp_k (show (46 : Int) < 49 + 2 * (i : Int) by omega) (show ¬ (46 : Int) = 6 by omega), gp_l (show (46 : Int) < 49 + 2 * (i : Int) by omega) (show ¬ (46 : Int) = 6 by omega),
      gp_k (show (49 + 2 * (i : Int)) < 49 + 2 * (i : Int) + 1 by omega) (show ¬ (49 + 2 * (i : Int)) = 6 by omega), gp_k (show (49 + 2 * (i : Int)) < 49 + 2 * (i : Int) + 1 + 1 by omega) (show ¬ (49 + 2 * (i : Int)) = 6 by omega), gp_k (show (46 : Int) < 49 + 2 * (i : Int) + 1 + 1 by omega) (show ¬ (46 : Int) = 6 by omega), gp_l (show (46 : Int) < 49 + 2 * (i : Int) + 1 + 1 by omega) (show ¬ (46 : Int) = 6 by omega),
      kc_45, kc_46, k1, w, e1, show ¬ (40 : Int) ≤ i by omega, show (i : Int) < 40 by omega, show 0 ≤ (i : Int) by omega, show 0 < 49 + 2 * (i : Int) by omega]
theorem s_i6l (L : Int) : ∀ (d : Nat) (n s : Int) (μ : MM), n + (d : Int) = 22 → 0 ≤ n → μ 16 1 = 19 → ev 41 50 [some (vR 16), some (vI n)] [] (iti μ n) (gp L (23 + n) s) = some (none, iti μ 22, gp L 45 (s + 10 * (d : Int))) := by
  intro d
  induction d with
  | zero =>
    intro n s μ h1 h2 h3
    have e : n = 22 := by omega
    subst e
    have m1 : iti μ 22 16 1 = 19 := h3
    simp only [xe_41_50, xe_41_51, xe_41_52, xe_41_55, xe_41_56, xe_41_78, ite_self, mm_nL_I, mm_nL_R, mm_nL_0, Option.bind_some, Option.bind_none, bnd_ite, Option.toList_some, Option.toList_none, List.cons_append, List.nil_append, mm_cats_nil, mm_cats_I, mm_cats_L, mm_cats_R, if_true, if_false, true_and, and_true, false_and, and_false, not_true_eq_false, not_false_eq_true, Int.reduceLE, Int.reduceLT, Int.reduceEq, Int.reduceNe, Int.reduceNeg, Int.reduceAdd, Int.reduceSub, Int.reduceMul, Nat.reduceAdd, Nat.reduceLeDiff, true_or, or_true, false_or, or_false, reduceIte, m1, gp_n, gp_k (L := L) (k := 45) (s := s) (a := 16) (by omega) (by omega), gp_k (L := L) (k := 45) (s := s) (a := 19) (by omega) (by omega), gp_l (L := L) (k := 45) (s := s) (a := 19) (by omega) (by omega), kc_16, kc_19, xe_41_78]
    simp
  | succ d ih =>
    intro n s μ h1 h2 h3
    have m1 : iti μ n 16 1 = 19 := by
      unfold iti; rw [if_neg (by omega), if_neg (by omega)]; exact h3
    obtain ⟨i, rfl⟩ := Int.eq_ofNat_of_zero_le h2
    have k1 := kc_ti i (by omega)
    have I := ih ((i : Int) + 1) (s + 10) μ (by omega) (by omega) h3
    rw [show s + 10 * ((d + 1 : Nat) : Int) = s + 10 + 10 * (d : Int) by omega, ← I, xe_41_50, ← iti_s μ i (by omega)]
    have w : w32 ((i : Int) + 1) = (i : Int) + 1 := wi32 (by omega) (by omega)
    have c1 : iti μ i 16 1 = 19 := m1
    have e1 : (23 : Int) + ((i : Int) + 1) = 23 + (i : Int) + 1 := by omega
    simp only [xe_41_51, xe_41_52, xe_41_55, xe_41_56, xe_41_59, xe_41_60, xe_41_63, xe_41_64, xe_41_67, xe_41_68, xe_41_71, xe_41_72 (some (vI _)) _ _ _ _ rfl, xe_41_72 (some (vR _)) _ _ _ _ rfl, xe_41_72 none _ _ _ _ rfl, xe_41_75, ite_self, mm_nL_I, mm_nL_R, mm_nL_0, Option.bind_some, Option.bind_none, bnd_ite, Option.toList_some, Option.toList_none, List.cons_append, List.nil_append, mm_cats_nil, mm_cats_I, mm_cats_L, mm_cats_R, if_true, if_false, true_and, and_true, false_and, and_false, not_true_eq_false, not_false_eq_true, Int.reduceLE, Int.reduceLT, Int.reduceEq, Int.reduceNe, Int.reduceNeg, Int.reduceAdd, Int.reduceSub, Int.reduceMul, Nat.reduceAdd, Nat.reduceLeDiff, true_or, or_true, false_or, or_false, reduceIte, c1, gp_n, gp_new k1 (show 10 ≤ 23 + (i : Int) by omega), s_i7 _ _ _ (show 10 ≤ 23 + (i : Int) by omega),
      gp_k (show (16 : Int) < 23 + (i : Int) by omega) (show ¬ (16 : Int) = 6 by omega), gp_k (show (19 : Int) < 23 + (i : Int) by omega) (show ¬ (19 : Int) = 6 by omega), gp_l (show (19 : Int) < 23 + (i : Int) by omega) (show ¬ (19 : Int) = 6 by omega),
      gp_k (show (23 + (i : Int)) < 23 + (i : Int) + 1 by omega) (show ¬ (23 + (i : Int)) = 6 by omega), gp_k (show (19 : Int) < 23 + (i : Int) + 1 by omega) (show ¬ (19 : Int) = 6 by omega), gp_l (show (19 : Int) < 23 + (i : Int) + 1 by omega) (show ¬ (19 : Int) = 6 by omega),
      kc_16, kc_19, k1, w, e1, show ¬ (22 : Int) ≤ i by omega, show (i : Int) < 22 by omega, show 0 ≤ (i : Int) by omega, show 0 < 23 + (i : Int) by omega]
