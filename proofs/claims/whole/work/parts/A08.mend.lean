theorem sm_bd (f : Int → Int) (k : Int) : ∀ n : Nat, (∀ j : Int, 0 ≤ j → j < n → 0 ≤ f (k + j) ∧ f (k + j) < 256) → 0 ≤ sm f k n ∧ sm f k n ≤ 255 * n
  | 0, _ => by simp [sm]
  | n + 1, h => by
    have := sm_bd f k n (fun j h0 h1 => h j h0 (by omega))
    have h2 := h n (by omega) (by omega)
    simp only [sm]
    omega
theorem sm_ge (f : Int → Int) (k i : Int) : ∀ n : Nat, (∀ j : Int, 0 ≤ j → j < n → 0 ≤ f (k + j) ∧ f (k + j) < 256) → 0 ≤ i → i < n → f (k + i) ≤ sm f k n
  | 0, _, h0, h1 => by omega
  | n + 1, h, h0, h1 => by
    have b := sm_bd f k n (fun j h0 h1 => h j h0 (by omega))
    have h2 := h n (by omega) (by omega)
    simp only [sm]
    by_cases e : i = n
    · subst e; omega
    · have := sm_ge f k i n (fun j h0 h1 => h j h0 (by omega)) h0 (by omega)
      omega
theorem sm_cg (f g : Int → Int) (k : Int) : ∀ n : Nat, (∀ j : Int, 0 ≤ j → j < n → f (k + j) = g (k + j)) → sm f k n = sm g k n
  | 0, _ => rfl
  | n + 1, h => by
    simp only [sm]
    rw [sm_cg f g k n (fun j h0 h1 => h j h0 (by omega)), h n (by omega) (by omega)]
theorem s_sumXl (a b : Int) (μ : MM) (G : MG) (ha : 0 < a) (h0 : gk G a = 0) (h1 : μ a 0 = a + 1) (h2 : gk G (a + 1) = 100) (h3 : gl G (a + 1) = 520) (hb : 0 ≤ b) (hl : 128 * b + 128 ≤ μ a 1) (hl2 : μ a 1 ≤ 520) (hv : ∀ i, 0 ≤ i → i < μ a 1 → 0 ≤ μ (a + 1) i ∧ μ (a + 1) i < 256) :
    ∀ (m j : Nat), j + m = 128 → ev 5 4 [some (vR a), some (vI b), some (vI (sm (μ (a + 1)) (128 * b) j)), some (vI j)] [] μ G = some (some (vI (sm (μ (a + 1)) (128 * b) 128 % 256)), μ, G) := by
  have at' := fun i => s_at a i μ G h0 h1 h2 h3
  intro m
  induction m with
  | zero =>
    intro j hj
    have e : j = 128 := by omega
    subst e
    simp only [xe_5_4, xe_5_5, xe_5_8, xe_5_31, xe_5_32, xe_5_35, xe_5_36, ite_self, mm_nL_I, mm_nL_R, mm_nL_0, Option.bind_some, Option.bind_none, bnd_ite, Option.toList_some, Option.toList_none, List.cons_append, List.nil_append, mm_cats_nil, mm_cats_I, mm_cats_L, mm_cats_R, if_true, if_false, true_and, and_true, false_and, and_false, not_true_eq_false, not_false_eq_true, Int.reduceLE, Int.reduceLT, Int.reduceEq, Int.reduceNe, Int.reduceNeg, Int.reduceAdd, Int.reduceSub, Int.reduceMul, Nat.reduceAdd, Nat.reduceLeDiff, true_or, or_true, false_or, or_false, reduceIte, nu_255]
    simp
  | succ m ih =>
    intro j hj
    have q0 : ¬ (128 : Int) ≤ (j : Int) := by omega
    have q1 : w32 (b * 128) = 128 * b := by rw [wi32 (by omega) (by omega)]; omega
    have q2 : w32 (128 * b + (j : Int)) = 128 * b + j := wi32 (by omega) (by omega)
    have q3 : 0 ≤ 128 * b + (j : Int) ∧ 128 * b + (j : Int) < μ a 1 ∧ 128 * b + (j : Int) < 520 := by omega
    have bd := sm_bd (μ (a + 1)) (128 * b) (j + 1) (fun i h0 h1 => hv _ (by omega) (by omega))
    have q4 : w32 (sm (μ (a + 1)) (128 * b) j + μ (a + 1) (128 * b + j)) = sm (μ (a + 1)) (128 * b) (j + 1) := wi32 (by simp only [sm] at bd; omega) (by simp only [sm] at bd; omega)
    have q5 : w32 ((j : Int) + 1) = ((j + 1 : Nat) : Int) := by rw [wi32 (by omega) (by omega)]; omega
    rw [xe_5_4]
    simp only [xe_5_5, xe_5_8, xe_5_11, xe_5_12, xe_5_13, xe_5_14, xe_5_17, xe_5_18, xe_5_19, xe_5_20, xe_5_23, xe_5_24 _ (some (vI _)) _ _ _ _ _ _ rfl, xe_5_24 _ (some (vR _)) _ _ _ _ _ _ rfl, xe_5_24 _ none _ _ _ _ _ _ rfl, xe_5_25 _ _ (some (vI _)) _ _ _ _ rfl, xe_5_25 _ _ (some (vR _)) _ _ _ _ rfl, xe_5_25 _ _ none _ _ _ _ rfl, xe_5_28, xe_5_31, xe_5_32, xe_5_35, xe_5_36, ite_self, mm_nL_I, mm_nL_R, mm_nL_0, Option.bind_some, Option.bind_none, bnd_ite, Option.toList_some, Option.toList_none, List.cons_append, List.nil_append, mm_cats_nil, mm_cats_I, mm_cats_L, mm_cats_R, if_true, if_false, true_and, and_true, false_and, and_false, not_true_eq_false, not_false_eq_true, Int.reduceLE, Int.reduceLT, Int.reduceEq, Int.reduceNe, Int.reduceNeg, Int.reduceAdd, Int.reduceSub, Int.reduceMul, Nat.reduceAdd, Nat.reduceLeDiff, true_or, or_true, false_or, or_false, reduceIte, ha, h0, q0, q1, q2, q3, q4, q5, at']
    exact ih (j + 1) (by omega)
theorem s_sumX (a b : Int) (μ : MM) (G : MG) (ha : 0 < a) (h0 : gk G a = 0) (h1 : μ a 0 = a + 1) (h2 : gk G (a + 1) = 100) (h3 : gl G (a + 1) = 520) (hb : 0 ≤ b) (hl : 128 * b + 128 ≤ μ a 1) (hl2 : μ a 1 ≤ 520) (hv : ∀ i, 0 ≤ i → i < μ a 1 → 0 ≤ μ (a + 1) i ∧ μ (a + 1) i < 256) :
    ev 5 0 [some (vR a), some (vI b), none, none] [] μ G = some (some (vI (sm (μ (a + 1)) (128 * b) 128 % 256)), μ, G) := by
  have l := s_sumXl a b μ G ha h0 h1 h2 h3 hb hl hl2 hv 128 0 rfl
  simp only [xe_5_0, xe_5_1 _ (some (vI _)) _ _ _ _ _ _ rfl, xe_5_1 _ (some (vR _)) _ _ _ _ _ _ rfl, xe_5_1 _ none _ _ _ _ _ _ rfl, xe_5_2, xe_5_3 _ _ (some (vI _)) _ _ _ _ _ rfl, xe_5_3 _ _ (some (vR _)) _ _ _ _ _ rfl, xe_5_3 _ _ none _ _ _ _ _ rfl]
  exact l
theorem s_sumMl (L b n : Int) (r : MM) (hp : r 149 2 = 151) (hb : 0 ≤ b) (hl : 128 * b + 128 ≤ n) (hl2 : n ≤ 520) (hv : ∀ i, 0 ≤ i → i < n → 0 ≤ r 151 i ∧ r 151 i < 256) :
    ∀ (m j : Nat), j + m = 128 → ev 154 4 [some (vR 149), some (vI b), some (vI (sm (r 151) (128 * b) j)), some (vI j)] [] r (g_1 L) = some (some (vI (sm (r 151) (128 * b) 128)), r, g_1 L) := by
  intro m
  induction m with
  | zero =>
    intro j hj
    have e : j = 128 := by omega
    subst e
    simp only [xe_154_4, xe_154_5, xe_154_8, xe_154_32, xe_154_33, ite_self, mm_nL_I, mm_nL_R, mm_nL_0, Option.bind_some, Option.bind_none, bnd_ite, Option.toList_some, Option.toList_none, List.cons_append, List.nil_append, mm_cats_nil, mm_cats_I, mm_cats_L, mm_cats_R, if_true, if_false, true_and, and_true, false_and, and_false, not_true_eq_false, not_false_eq_true, Int.reduceLE, Int.reduceLT, Int.reduceEq, Int.reduceNe, Int.reduceNeg, Int.reduceAdd, Int.reduceSub, Int.reduceMul, Nat.reduceAdd, Nat.reduceLeDiff, true_or, or_true, false_or, or_false, reduceIte]
    simp
  | succ m ih =>
    intro j hj
    have q0 : ¬ (128 : Int) ≤ (j : Int) := by omega
    have q1 : w32 (128 * b) = 128 * b := by rw [wi32 (by omega) (by omega)]
    have q2 : w32 (128 * b + (j : Int)) = 128 * b + j := wi32 (by omega) (by omega)
    have q3 : 0 ≤ 128 * b + (j : Int) := by omega
    have q3' : 128 * b + (j : Int) < 520 := by omega
    have bd := sm_bd (r 151) (128 * b) (j + 1) (fun i h0 h1 => hv _ (by omega) (by omega))
    have q4 : w32 (sm (r 151) (128 * b) j + r 151 (128 * b + j)) = sm (r 151) (128 * b) (j + 1) := wi32 (by simp only [sm] at bd; omega) (by simp only [sm] at bd; omega)
    have q5 : w32 ((j : Int) + 1) = ((j + 1 : Nat) : Int) := by rw [wi32 (by omega) (by omega)]; omega
    rw [xe_154_4]
    simp only [xe_154_5, xe_154_8, xe_154_11, xe_154_12, xe_154_13, xe_154_16, xe_154_19, xe_154_20, xe_154_21, xe_154_22, xe_154_23, xe_154_24, xe_154_25 _ (some (vI _)) _ _ _ _ _ _ rfl, xe_154_25 _ (some (vR _)) _ _ _ _ _ _ rfl, xe_154_25 _ none _ _ _ _ _ _ rfl, xe_154_26 _ _ (some (vI _)) _ _ _ _ rfl, xe_154_26 _ _ (some (vR _)) _ _ _ _ rfl, xe_154_26 _ _ none _ _ _ _ rfl, xe_154_29, xe_154_32, xe_154_33, ite_self, mm_nL_I, mm_nL_R, mm_nL_0, Option.bind_some, Option.bind_none, bnd_ite, Option.toList_some, Option.toList_none, List.cons_append, List.nil_append, mm_cats_nil, mm_cats_I, mm_cats_L, mm_cats_R, if_true, if_false, true_and, and_true, false_and, and_false, not_true_eq_false, not_false_eq_true, Int.reduceLE, Int.reduceLT, Int.reduceEq, Int.reduceNe, Int.reduceNeg, Int.reduceAdd, Int.reduceSub, Int.reduceMul, Nat.reduceAdd, Nat.reduceLeDiff, true_or, or_true, false_or, or_false, reduceIte, k_149, k_151, l_151, hp, q0, q1, q2, q3, q3', q4, q5]
    exact ih (j + 1) (by omega)
theorem s_sumM (L b n : Int) (r : MM) (hp : r 149 2 = 151) (hb : 0 ≤ b) (hl : 128 * b + 128 ≤ n) (hl2 : n ≤ 520) (hv : ∀ i, 0 ≤ i → i < n → 0 ≤ r 151 i ∧ r 151 i < 256) :
    ev 154 0 [some (vR 149), some (vI b), none, none] [] r (g_1 L) = some (some (vI (sm (r 151) (128 * b) 128)), r, g_1 L) := by
  have l := s_sumMl L b n r hp hb hl hl2 hv 128 0 rfl
  simp only [xe_154_0, xe_154_1 _ (some (vI _)) _ _ _ _ _ _ rfl, xe_154_1 _ (some (vR _)) _ _ _ _ _ _ rfl, xe_154_1 _ none _ _ _ _ _ _ rfl, xe_154_2, xe_154_3 _ _ (some (vI _)) _ _ _ _ _ rfl, xe_154_3 _ _ (some (vR _)) _ _ _ _ _ rfl, xe_154_3 _ _ none _ _ _ _ _ rfl]
  exact l
def mendv (n : Int) (f : Int → Int) (i : Int) : Int := if i < 0 then -3 else if n / 128 * 128 ≤ i then -1 else (f i - sm f (128 * (i / 128)) 128 % 256) % 256
theorem s_mendX (L i : Int) (c r : MM) (hX : SX c) (hR : Rlat c r) (h2 : i < 2147483648) : ev 102 0 [some (vR 10), some (vI i)] [] c (g_1 L) = some (some (vI (mendv (c 13 1) (c 14) i)), c, g_1 L) := by
  obtain ⟨l1, l2, l3, l4, l5, l6⟩ := hR
  have d1 : mm_div (c 13 1) 128 = c 13 1 / 128 := nu_div l2 (by omega) (by omega) (by omega)
  have d2 : w32 (c 13 1 / 128 * 128) = c 13 1 / 128 * 128 := wi32 (by omega) (by omega)
  by_cases h0 : i < 0
  · have h0' : ¬ 0 ≤ i := by omega
    simp only [xe_102_0, xe_102_1, xe_102_4, xe_102_6, xe_102_7, xe_102_8, xe_102_9, xe_102_12, xe_102_15, xe_102_18, xe_102_19, xe_102_22, xe_102_23, xe_102_26, xe_102_27, xe_102_28, xe_102_29, xe_102_32, xe_102_33, xe_102_36, xe_102_37, xe_102_40, xe_102_41, xe_102_44, xe_102_45, xe_102_48, xe_102_49, xe_102_52, xe_102_53, ite_self, mm_nL_I, mm_nL_R, mm_nL_0, Option.bind_some, Option.bind_none, bnd_ite, Option.toList_some, Option.toList_none, List.cons_append, List.nil_append, mm_cats_nil, mm_cats_I, mm_cats_L, mm_cats_R, if_true, if_false, true_and, and_true, false_and, and_false, not_true_eq_false, not_false_eq_true, Int.reduceLE, Int.reduceLT, Int.reduceEq, Int.reduceNe, Int.reduceNeg, Int.reduceAdd, Int.reduceSub, Int.reduceMul, Nat.reduceAdd, Nat.reduceLeDiff, true_or, or_true, false_or, or_false, reduceIte, k_10, k_13, sx_10_1 hX, mendv, h0, h0']
  · have h0' : 0 ≤ i := by omega
    by_cases h1 : c 13 1 / 128 * 128 ≤ i
    · have h1' : ¬ i < c 13 1 / 128 * 128 := by omega
      simp only [xe_102_0, xe_102_1, xe_102_4, xe_102_6, xe_102_7, xe_102_8, xe_102_9, xe_102_12, xe_102_15, xe_102_18, xe_102_19, xe_102_22, xe_102_23, xe_102_26, xe_102_27, xe_102_28, xe_102_29, xe_102_32, xe_102_33, xe_102_36, xe_102_37, xe_102_40, xe_102_41, xe_102_44, xe_102_45, xe_102_48, xe_102_49, xe_102_52, xe_102_53, ite_self, mm_nL_I, mm_nL_R, mm_nL_0, Option.bind_some, Option.bind_none, bnd_ite, Option.toList_some, Option.toList_none, List.cons_append, List.nil_append, mm_cats_nil, mm_cats_I, mm_cats_L, mm_cats_R, if_true, if_false, true_and, and_true, false_and, and_false, not_true_eq_false, not_false_eq_true, Int.reduceLE, Int.reduceLT, Int.reduceEq, Int.reduceNe, Int.reduceNeg, Int.reduceAdd, Int.reduceSub, Int.reduceMul, Nat.reduceAdd, Nat.reduceLeDiff, true_or, or_true, false_or, or_false, reduceIte, k_10, k_13, sx_10_1 hX, mendv, h0, h0', h1, h1', d1, d2]
    · have h1' : i < c 13 1 / 128 * 128 := by omega
      have d3 : mm_div i 128 = i / 128 := nu_div h0' h2 (by omega) (by omega)
      have e1 := s_at 13 i c (g_1 L) (by simp only [k_13]) (sx_13_0 hX) (by show gk (g_1 L) 14 = 100; simp only [k_14, l_14]) (by show gl (g_1 L) 14 = 520; simp only [k_14, l_14])
      have e2 := s_sumX 13 (i / 128) c (g_1 L) (by omega) (by simp only [k_13]) (sx_13_0 hX) (by show gk (g_1 L) 14 = 100; simp only [k_14, l_14]) (by show gl (g_1 L) 14 = 520; simp only [k_14, l_14]) (by omega) (by omega) l3 (fun i h0 h1 => (l4 i h0 h1).2)
      rw [if_pos (by omega)] at e1
      have bv := (l4 i h0' (by omega)).2
      have d4 : w32 (c 14 i - sm (c 14) (128 * (i / 128)) 128 % 256) = c 14 i - sm (c 14) (128 * (i / 128)) 128 % 256 := wi32 (by omega) (by omega)
      simp only [Int.reduceAdd] at e1 e2
      simp only [xe_102_0, xe_102_1, xe_102_4, xe_102_6, xe_102_7, xe_102_8, xe_102_9, xe_102_12, xe_102_15, xe_102_18, xe_102_19, xe_102_22, xe_102_23, xe_102_26, xe_102_27, xe_102_28, xe_102_29, xe_102_32, xe_102_33, xe_102_36, xe_102_37, xe_102_40, xe_102_41, xe_102_44, xe_102_45, xe_102_48, xe_102_49, xe_102_52, xe_102_53, ite_self, mm_nL_I, mm_nL_R, mm_nL_0, Option.bind_some, Option.bind_none, bnd_ite, Option.toList_some, Option.toList_none, List.cons_append, List.nil_append, mm_cats_nil, mm_cats_I, mm_cats_L, mm_cats_R, if_true, if_false, true_and, and_true, false_and, and_false, not_true_eq_false, not_false_eq_true, Int.reduceLE, Int.reduceLT, Int.reduceEq, Int.reduceNe, Int.reduceNeg, Int.reduceAdd, Int.reduceSub, Int.reduceMul, Nat.reduceAdd, Nat.reduceLeDiff, true_or, or_true, false_or, or_false, reduceIte, k_10, k_13, sx_10_1 hX, mendv, h0, h0', h1, h1', d1, d2, d3, d4, e1, e2, nu_255]
theorem s_mendM (L i : Int) (c r : MM) (hM : SM r) (hR : Rlat c r) (h2 : i < 2147483648) : ev 159 0 [some (vR 149), some (vI i), none] [] r (g_1 L) = some (some (vI (mendv (c 13 1) (c 14) i)), mset r 149 0 0, g_1 L) := by
  obtain ⟨l1, l2, l3, l4, l5, l6⟩ := hR
  have n5 : mset r 149 0 0 149 5 = c 13 1 := by rw [ms_nk _ _ _ _ _ _ (by omega), l1]
  have n2 : mset r 149 0 0 149 2 = 151 := by rw [ms_nk _ _ _ _ _ _ (by omega)]; exact sm_149_2 hM
  have d1 : mm_rem (c 13 1) 128 = c 13 1 % 128 := nu_rem l2 (by omega) (by omega) (by omega)
  have d2 : w32 (c 13 1 - c 13 1 % 128) = c 13 1 / 128 * 128 := by rw [wi32 (by omega) (by omega)]; omega
  by_cases h0 : i < 0
  · have h0' : ¬ 0 ≤ i := by omega
    simp only [xe_159_0, xe_159_1, xe_159_2, xe_159_5, xe_159_6, xe_159_9, xe_159_11, xe_159_12, xe_159_13, xe_159_14, xe_159_17, xe_159_18, xe_159_21, xe_159_24, xe_159_25, xe_159_26, xe_159_29, xe_159_30, xe_159_31, xe_159_32, xe_159_33, xe_159_36, xe_159_37, xe_159_40, xe_159_41, xe_159_44, xe_159_45, xe_159_46, xe_159_47 _ (some (vI _)) _ _ _ _ _ rfl, xe_159_47 _ (some (vR _)) _ _ _ _ _ rfl, xe_159_47 _ none _ _ _ _ _ rfl, xe_159_48, xe_159_51, xe_159_52, xe_159_55, xe_159_56, xe_159_57, xe_159_60, xe_159_61, ite_self, mm_nL_I, mm_nL_R, mm_nL_0, Option.bind_some, Option.bind_none, bnd_ite, Option.toList_some, Option.toList_none, List.cons_append, List.nil_append, mm_cats_nil, mm_cats_I, mm_cats_L, mm_cats_R, if_true, if_false, true_and, and_true, false_and, and_false, not_true_eq_false, not_false_eq_true, Int.reduceLE, Int.reduceLT, Int.reduceEq, Int.reduceNe, Int.reduceNeg, Int.reduceAdd, Int.reduceSub, Int.reduceMul, Nat.reduceAdd, Nat.reduceLeDiff, true_or, or_true, false_or, or_false, reduceIte, k_149, n5, n2, mendv, h0, h0']
  · have h0' : 0 ≤ i := by omega
    by_cases h1 : c 13 1 / 128 * 128 ≤ i
    · have h1' : ¬ i < c 13 1 / 128 * 128 := by omega
      simp only [xe_159_0, xe_159_1, xe_159_2, xe_159_5, xe_159_6, xe_159_9, xe_159_11, xe_159_12, xe_159_13, xe_159_14, xe_159_17, xe_159_18, xe_159_21, xe_159_24, xe_159_25, xe_159_26, xe_159_29, xe_159_30, xe_159_31, xe_159_32, xe_159_33, xe_159_36, xe_159_37, xe_159_40, xe_159_41, xe_159_44, xe_159_45, xe_159_46, xe_159_47 _ (some (vI _)) _ _ _ _ _ rfl, xe_159_47 _ (some (vR _)) _ _ _ _ _ rfl, xe_159_47 _ none _ _ _ _ _ rfl, xe_159_48, xe_159_51, xe_159_52, xe_159_55, xe_159_56, xe_159_57, xe_159_60, xe_159_61, ite_self, mm_nL_I, mm_nL_R, mm_nL_0, Option.bind_some, Option.bind_none, bnd_ite, Option.toList_some, Option.toList_none, List.cons_append, List.nil_append, mm_cats_nil, mm_cats_I, mm_cats_L, mm_cats_R, if_true, if_false, true_and, and_true, false_and, and_false, not_true_eq_false, not_false_eq_true, Int.reduceLE, Int.reduceLT, Int.reduceEq, Int.reduceNe, Int.reduceNeg, Int.reduceAdd, Int.reduceSub, Int.reduceMul, Nat.reduceAdd, Nat.reduceLeDiff, true_or, or_true, false_or, or_false, reduceIte, k_149, n5, n2, mendv, h0, h0', h1, h1', d1, d2]
    · have h1' : i < c 13 1 / 128 * 128 := by omega
      have d3 : mm_div i 128 = i / 128 := nu_div h0' h2 (by omega) (by omega)
      have e151 : mset r 149 0 0 151 = r 151 := ms_row _ _ _ _ _ (by omega)
      have hv : ∀ i, 0 ≤ i → i < c 13 1 → 0 ≤ r 151 i ∧ r 151 i < 256 := fun i h0 h1 => by rw [← (l4 i h0 h1).1]; exact (l4 i h0 h1).2
      have e2 := s_sumM L (i / 128) (c 13 1) (mset r 149 0 0) n2 (by omega) (by omega) l3 (by rw [e151]; exact hv)
      rw [e151] at e2
      have cg : sm (r 151) (128 * (i / 128)) 128 = sm (c 14) (128 * (i / 128)) 128 := sm_cg _ _ _ _ (fun j h0 h1 => (l4 _ (by omega) (by omega)).1.symm)
      have hx : r 151 i = c 14 i := (l4 i h0' (by omega)).1.symm
      rw [cg] at e2
      have bd := sm_bd (c 14) (128 * (i / 128)) 128 (fun j h0 h1 => (l4 _ (by omega) (by omega)).2)
      have ge := sm_ge (c 14) (128 * (i / 128)) (i % 128) 128 (fun j h0 h1 => (l4 _ (by omega) (by omega)).2) (by omega) (by omega)
      rw [show 128 * (i / 128) + i % 128 = i by omega] at ge
      have bv := (l4 i h0' (by omega)).2
      generalize hS : sm (c 14) (128 * (i / 128)) 128 = S at *
      have d4 : w32 (S - c 14 i) = S - c 14 i := wi32 (by omega) (by omega)
      have d5 : mm_rem (S - c 14 i) 256 = (S - c 14 i) % 256 := nu_rem (by omega) (by omega) (by omega) (by omega)
      have d6 : w32 (256 - (S - c 14 i) % 256) = 256 - (S - c 14 i) % 256 := wi32 (by omega) (by omega)
      have d7 : mm_rem (256 - (S - c 14 i) % 256) 256 = (256 - (S - c 14 i) % 256) % 256 := nu_rem (by omega) (by omega) (by omega) (by omega)
      have i5 : i < 520 := by omega
      have e151' : mset r 149 0 0 151 i = c 14 i := by rw [e151]; exact hx
      have fin : (256 - (S - c 14 i) % 256) % 256 = (c 14 i - S % 256) % 256 := by omega
      simp only [xe_159_0, xe_159_1, xe_159_2, xe_159_5, xe_159_6, xe_159_9, xe_159_11, xe_159_12, xe_159_13, xe_159_14, xe_159_17, xe_159_18, xe_159_21, xe_159_24, xe_159_25, xe_159_26, xe_159_29, xe_159_30, xe_159_31, xe_159_32, xe_159_33, xe_159_36, xe_159_37, xe_159_40, xe_159_41, xe_159_44, xe_159_45, xe_159_46, xe_159_47 _ (some (vI _)) _ _ _ _ _ rfl, xe_159_47 _ (some (vR _)) _ _ _ _ _ rfl, xe_159_47 _ none _ _ _ _ _ rfl, xe_159_48, xe_159_51, xe_159_52, xe_159_55, xe_159_56, xe_159_57, xe_159_60, xe_159_61, ite_self, mm_nL_I, mm_nL_R, mm_nL_0, Option.bind_some, Option.bind_none, bnd_ite, Option.toList_some, Option.toList_none, List.cons_append, List.nil_append, mm_cats_nil, mm_cats_I, mm_cats_L, mm_cats_R, if_true, if_false, true_and, and_true, false_and, and_false, not_true_eq_false, not_false_eq_true, Int.reduceLE, Int.reduceLT, Int.reduceEq, Int.reduceNe, Int.reduceNeg, Int.reduceAdd, Int.reduceSub, Int.reduceMul, Nat.reduceAdd, Nat.reduceLeDiff, true_or, or_true, false_or, or_false, reduceIte, k_149, k_151, l_151, n5, n2, mendv, h0, h0', h1, h1', i5, d1, d2, d3, e2, e151', d4, d5, d6, d7, fin, hS]
