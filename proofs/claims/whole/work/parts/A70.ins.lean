/-! load: a mode is inserted -/
def tcp (c : MM) (a b : Int) : MM := fun x j => if x = a ∧ 0 ≤ j ∧ j ≤ 9 then c b j else c x j
theorem s_tcopy (L a b : Int) (c : MM) (ha : gk (g_1 L) a = 7) (hb : gk (g_1 L) b = 7) (hab : ¬ a = b) (h9 : c b 9 = 0 ∨ c b 9 = 1) : ev 65 0 [some (vR a), some (vR b)] [] c (g_1 L) = some (none, tcp c a b, g_1 L) := by
  have m : ∀ (c : MM) k v, mset c a k v b = c b := fun c k v => ms_row _ _ _ _ _ (fun q => hab q.symm)
  have ft : mm_fits 1 (c b 9) = true := by unfold mm_fits; rw [if_pos rfl]; exact decide_eq_true h9
  have e : mset (mset (mset (mset (mset (mset (mset (mset (mset (mset c a 0 (c b 0)) a 1 (c b 1)) a 2 (c b 2)) a 3 (c b 3)) a 4 (c b 4)) a 5 (c b 5)) a 6 (c b 6)) a 7 (c b 7)) a 8 (c b 8)) a 9 (c b 9) = tcp c a b := by
    funext x j
    unfold tcp
    by_cases hx : x = a ∧ 0 ≤ j ∧ j ≤ 9
    · rw [if_pos hx]
      obtain ⟨rfl, j0, j9⟩ := hx
      have q : j = 0 ∨ j = 1 ∨ j = 2 ∨ j = 3 ∨ j = 4 ∨ j = 5 ∨ j = 6 ∨ j = 7 ∨ j = 8 ∨ j = 9 := by omega
      rcases q with rfl | rfl | rfl | rfl | rfl | rfl | rfl | rfl | rfl | rfl <;> simp [mset]
    · rw [if_neg hx]
      have z : ∀ (μ : MM) (k v : Int), 0 ≤ k → k ≤ 9 → mset μ a k v x j = μ x j := fun μ k v k0 k9 => ms_ne _ _ _ _ _ _ (fun q => hx ⟨q.1, by omega, by omega⟩)
      rw [z _ _ _ (by omega) (by omega), z _ _ _ (by omega) (by omega), z _ _ _ (by omega) (by omega), z _ _ _ (by omega) (by omega), z _ _ _ (by omega) (by omega), z _ _ _ (by omega) (by omega), z _ _ _ (by omega) (by omega), z _ _ _ (by omega) (by omega), z _ _ _ (by omega) (by omega), z _ _ _ (by omega) (by omega)]
  rw [← e]
  simp only [xe_65_0, xe_65_1, xe_65_2, xe_65_5, xe_65_8, xe_65_9, xe_65_10, xe_65_13, xe_65_16, xe_65_17, xe_65_18, xe_65_21, xe_65_24, xe_65_25, xe_65_26, xe_65_29, xe_65_32, xe_65_33, xe_65_34, xe_65_37, xe_65_40, xe_65_41, xe_65_42, xe_65_45, xe_65_48, xe_65_49, xe_65_50, xe_65_53, xe_65_56, xe_65_57, xe_65_58, xe_65_61, xe_65_64, xe_65_65, xe_65_66, xe_65_69, xe_65_72, xe_65_73, xe_65_74, xe_65_77, xe_65_80, ite_self, mm_nL_I, mm_nL_R, mm_nL_0, Option.bind_some, Option.bind_none, bnd_ite, Option.toList_some, Option.toList_none, List.cons_append, List.nil_append, mm_cats_nil, mm_cats_I, mm_cats_L, mm_cats_R, if_true, if_false, true_and, and_true, false_and, and_false, not_true_eq_false, not_false_eq_true, Int.reduceLE, Int.reduceLT, Int.reduceEq, Int.reduceNe, Int.reduceNeg, Int.reduceAdd, Int.reduceSub, Int.reduceMul, Nat.reduceAdd, Nat.reduceLeDiff, true_or, or_true, false_or, or_false, reduceIte, ha, hb, m, eq_true h9]
/-- the fresh mode's cells -/
def fre (c : MM) (u src pf : Int) : MM := fun x j => if x = 50 + 2 * u ∧ 0 ≤ j ∧ j ≤ 9 then c 48 j else if x = 49 + 2 * u ∧ j = 1 then c 45 3 else if x = 49 + 2 * u ∧ j = 2 then src else if x = 49 + 2 * u ∧ j = 3 then pf else c x j
/-- the list while a place is looked for -/
def lis (c : MM) (s p : Int) : MM := fun x j => if x = 46 ∧ p < j ∧ j ≤ s then c 46 (j - 1) else c x j
theorem lis_b (c : MM) (s p b : Int) (h : ¬ b = 46) : lis c s p b = c b := by funext j; unfold lis; rw [if_neg (by omega)]
theorem in_X (L s src pf f : Int) (c : MM) (q ord : Int → Int) (p0 : c 45 0 = 46) (s0 : 0 ≤ s) (s1 : s < 40) (uf : Int) (hf : f = 49 + 2 * uf) (uf0 : 0 ≤ uf) (uf1 : uf < 40) (hF : xm c uf q s) (hl : ∀ i, 0 ≤ i → i < s → ∃ u, c 46 i = 49 + 2 * u ∧ 0 ≤ u ∧ u < 40 ∧ xm c u q (ord i)) : ∀ (m : Nat), (m : Int) ≤ s → ev 40 65 [some (vR 45), some (vI src), some (vI pf), some (vR f), some (vI (m : Int))] [] (lis c s (m : Int)) (g_1 L) = ev 40 108 [some (vR 45), some (vI src), some (vI pf), some (vR f), some (vI (pl q ord s m))] [] (lis c s (pl q ord s m)) (g_1 L) := by
  intro m
  induction m with
  | zero =>
    intro hm
    have e : ((0 : Nat) : Int) = 0 := rfl
    rw [e]
    simp only [xe_40_65, xe_40_67, ite_self, mm_nL_I, mm_nL_R, mm_nL_0, Option.bind_some, Option.bind_none, bnd_ite, Option.toList_some, Option.toList_none, List.cons_append, List.nil_append, mm_cats_nil, mm_cats_I, mm_cats_L, mm_cats_R, if_true, if_false, true_and, and_true, false_and, and_false, not_true_eq_false, not_false_eq_true, Int.reduceLE, Int.reduceLT, Int.reduceEq, Int.reduceNe, Int.reduceNeg, Int.reduceAdd, Int.reduceSub, Int.reduceMul, Nat.reduceAdd, Nat.reduceLeDiff, true_or, or_true, false_or, or_false, reduceIte, pl]
  | succ m ih =>
    intro hm
    have e : ((m + 1 : Nat) : Int) = (m : Int) + 1 := by omega
    rw [e]
    obtain ⟨u, o1, u0, u1, hx⟩ := hl (m : Int) (by omega) (by omega)
    have g : ¬ (m : Int) + 1 ≤ 0 := by omega
    have w1 : w32 ((m : Int) + 1 - 1) = (m : Int) := by rw [wi32 (by omega) (by omega)]; omega
    have w2 : w32 ((m : Int) + 1 + -1) = (m : Int) := by rw [wi32 (by omega) (by omega)]; omega
    have l0 : ∀ p, lis c s p 45 = c 45 := fun p => lis_b _ _ _ _ (by omega)
    have lm : lis c s ((m : Int) + 1) 46 (m : Int) = 49 + 2 * u := by unfold lis; rw [if_neg (by omega)]; exact o1
    have lx : ∀ w i, 0 ≤ w → w < 40 → xm c w q i → xm (lis c s ((m : Int) + 1)) w q i := fun w i w0 w1 h => by
      unfold xm at *
      rw [lis_b _ _ _ _ (by omega), lis_b _ _ _ _ (by omega)]; exact h
    have A := s_ahX L uf u s (ord (m : Int)) (lis c s ((m : Int) + 1)) q uf0 uf1 u0 u1 (lx _ _ uf0 uf1 hF) (lx _ _ u0 u1 hx)
    rw [← hf] at A
    have k1 := k_mode L u u0 u1
    have k2 : gk (g_1 L) f = 4 := by rw [hf]; exact k_mode L uf uf0 uf1
    have a0 : 0 ≤ (m : Int) := by omega
    have a1 : (m : Int) < 40 := by omega
    have a2 : 0 ≤ (m : Int) + 1 := by omega
    have a3 : (m : Int) + 1 < 40 := by omega
    have f0 : 0 < f := by omega
    have u2 : 0 < 49 + 2 * u := by omega
    have st : mset (lis c s ((m : Int) + 1)) 46 ((m : Int) + 1) (49 + 2 * u) = lis c s (m : Int) := by
      funext x j
      unfold mset lis
      by_cases hx : x = 46 ∧ j = (m : Int) + 1
      · rw [if_pos hx, if_pos ⟨hx.1, by omega, by omega⟩, hx.2, show (m : Int) + 1 - 1 = (m : Int) by omega, o1]
      · rw [if_neg hx]
        (repeat' split) <;> first | rfl | (exfalso; omega)
    rw [xe_40_65]
    simp only [pl]
    by_cases z : ahd q s (ord (m : Int)) = true
    · rw [if_pos z] at A
      rw [if_pos z]
      simp only [xe_40_67, xe_40_70, xe_40_71, xe_40_72, xe_40_75, xe_40_77, xe_40_78, xe_40_79, xe_40_80, xe_40_83, xe_40_86, xe_40_87, xe_40_90, xe_40_92, xe_40_93, xe_40_96, xe_40_98, xe_40_99, xe_40_100, xe_40_101, xe_40_102 _ _ _ (some (vI _)) _ _ _ _ rfl, xe_40_102 _ _ _ (some (vR _)) _ _ _ _ rfl, xe_40_102 _ _ _ none _ _ _ _ rfl, xe_40_105, ite_self, mm_nL_I, mm_nL_R, mm_nL_0, Option.bind_some, Option.bind_none, bnd_ite, Option.toList_some, Option.toList_none, List.cons_append, List.nil_append, mm_cats_nil, mm_cats_I, mm_cats_L, mm_cats_R, if_true, if_false, true_and, and_true, false_and, and_false, not_true_eq_false, not_false_eq_true, Int.reduceLE, Int.reduceLT, Int.reduceEq, Int.reduceNe, Int.reduceNeg, Int.reduceAdd, Int.reduceSub, Int.reduceMul, Nat.reduceAdd, Nat.reduceLeDiff, true_or, or_true, false_or, or_false, reduceIte, k_45, k_46, l_46, l0, p0, lm, A, g, w1, w2, a0, a1, a2, a3, k1, k2, f0, u2, st]
      exact ih (by omega)
    · rw [if_neg z] at A
      rw [if_neg z]
      simp only [xe_40_67, xe_40_70, xe_40_71, xe_40_72, xe_40_75, xe_40_77, xe_40_78, xe_40_79, xe_40_80, xe_40_83, xe_40_86, xe_40_87, xe_40_90, xe_40_92, xe_40_93, xe_40_96, xe_40_98, xe_40_99, xe_40_100, xe_40_101, xe_40_102 _ _ _ (some (vI _)) _ _ _ _ rfl, xe_40_102 _ _ _ (some (vR _)) _ _ _ _ rfl, xe_40_102 _ _ _ none _ _ _ _ rfl, xe_40_105, ite_self, mm_nL_I, mm_nL_R, mm_nL_0, Option.bind_some, Option.bind_none, bnd_ite, Option.toList_some, Option.toList_none, List.cons_append, List.nil_append, mm_cats_nil, mm_cats_I, mm_cats_L, mm_cats_R, if_true, if_false, true_and, and_true, false_and, and_false, not_true_eq_false, not_false_eq_true, Int.reduceLE, Int.reduceLT, Int.reduceEq, Int.reduceNe, Int.reduceNeg, Int.reduceAdd, Int.reduceSub, Int.reduceMul, Nat.reduceAdd, Nat.reduceLeDiff, true_or, or_true, false_or, or_false, reduceIte, k_45, k_46, l_46, l0, p0, lm, A, g, w1, w2, a0, a1, a2, a3, k1, k2, f0]
theorem s_ins (L s src pf uf : Int) (c : MM) (q ord : Int → Int) (hs : c 45 4 = s) (p0 : c 45 0 = 46) (p2 : c 45 2 = 48) (s0 : 0 ≤ s) (s1 : s < 40) (hl : c 46 s = 49 + 2 * uf) (uf0 : 0 ≤ uf) (uf1 : uf < 40) (ht : c (49 + 2 * uf) 0 = 50 + 2 * uf) (h9 : c 48 9 = 0 ∨ c 48 9 = 1) (hp : pf = 0 ∨ pf = 1)
    (hF : xm (fre c uf src pf) uf q s) (hl' : ∀ i, 0 ≤ i → i < s → ∃ u, c 46 i = 49 + 2 * u ∧ 0 ≤ u ∧ u < 40 ∧ xm (fre c uf src pf) u q (ord i)) :
    ev 40 0 [some (vR 45), some (vI src), some (vI pf), none, none] [] c (g_1 L) = some (none, mset (mset (lis (fre c uf src pf) s (pl q ord s s.toNat)) 46 (pl q ord s s.toNat) (49 + 2 * uf)) 45 4 (s + 1), g_1 L) := by
  have k1 := k_mode L uf uf0 uf1
  have k2 := k_mtim L uf uf0 uf1
  have T := s_tcopy L (50 + 2 * uf) 48 c k2 (k_48 L) (by omega) h9
  have f4 : fre c uf src pf 46 = c 46 := by funext j; unfold fre; rw [if_neg (by omega), if_neg (by omega), if_neg (by omega), if_neg (by omega)]
  have f5 : fre c uf src pf 45 = c 45 := by funext j; unfold fre; rw [if_neg (by omega), if_neg (by omega), if_neg (by omega), if_neg (by omega)]
  have I := in_X L s src pf (49 + 2 * uf) (fre c uf src pf) q ord (by rw [f5]; exact p0) s0 s1 uf rfl uf0 uf1 hF (by rw [f4]; exact hl') s.toNat (by omega)
  rw [show ((s.toNat : Nat) : Int) = s by omega] at I
  have po := pl_ok q ord s s.toNat
  generalize pl q ord s s.toNat = P at *
  have g1 : ¬ s < 0 := by omega
  have t45 : tcp c (50 + 2 * uf) 48 45 = c 45 := by funext j; unfold tcp; rw [if_neg (by omega)]
  have t49 : tcp c (50 + 2 * uf) 48 (49 + 2 * uf) = c (49 + 2 * uf) := by funext j; unfold tcp; rw [if_neg (by omega)]
  have m45 : ∀ (c : MM) k v, mset c (49 + 2 * uf) k v 45 = c 45 := fun c k v => ms_row _ _ _ _ _ (by omega)
  have a7 : ¬ 49 + 2 * uf = 7 := by omega
  have a0 : 0 < 50 + 2 * uf := by omega
  have a1 : 0 < 49 + 2 * uf := by omega
  have ft : mm_fits 1 pf = true := by unfold mm_fits; rw [if_pos rfl]; exact decide_eq_true hp
  have fe : mset (mset (mset (tcp c (50 + 2 * uf) 48) (49 + 2 * uf) 1 (c 45 3)) (49 + 2 * uf) 2 src) (49 + 2 * uf) 3 pf = lis (fre c uf src pf) s s := by
    funext x j
    have e : lis (fre c uf src pf) s s x j = fre c uf src pf x j := by unfold lis; rw [if_neg (by omega)]
    rw [e]
    unfold mset tcp fre
    (repeat' split) <;> first | rfl | (exfalso; omega)
  have l45 : lis (fre c uf src pf) s P 45 = c 45 := by rw [lis_b _ _ _ _ (by omega), f5]
  have st : ev 40 0 [some (vR 45), some (vI src), some (vI pf), none, none] [] c (g_1 L) = ev 40 65 [some (vR 45), some (vI src), some (vI pf), some (vR (49 + 2 * uf)), some (vI s)] [] (lis (fre c uf src pf) s s) (g_1 L) := by
    simp only [xe_40_0, xe_40_1, xe_40_4, xe_40_7, xe_40_8, xe_40_11, xe_40_12, xe_40_15, xe_40_16, xe_40_19, xe_40_20, xe_40_21, xe_40_24, xe_40_25, xe_40_28, xe_40_29 _ _ (some (vI _)) _ _ _ _ _ _ rfl, xe_40_29 _ _ (some (vR _)) _ _ _ _ _ _ rfl, xe_40_29 _ _ none _ _ _ _ _ _ rfl, xe_40_30, xe_40_31, xe_40_34, xe_40_35, xe_40_38, xe_40_41, xe_40_42, xe_40_43, xe_40_46, xe_40_49, xe_40_50, xe_40_51, xe_40_54, xe_40_55, xe_40_56, xe_40_59, xe_40_60, xe_40_63 _ _ _ (some (vI _)) _ _ _ _ _ rfl, xe_40_63 _ _ _ (some (vR _)) _ _ _ _ _ rfl, xe_40_63 _ _ _ none _ _ _ _ _ rfl, ite_self, mm_nL_I, mm_nL_R, mm_nL_0, Option.bind_some, Option.bind_none, bnd_ite, Option.toList_some, Option.toList_none, List.cons_append, List.nil_append, mm_cats_nil, mm_cats_I, mm_cats_L, mm_cats_R, if_true, if_false, true_and, and_true, false_and, and_false, not_true_eq_false, not_false_eq_true, Int.reduceLE, Int.reduceLT, Int.reduceEq, Int.reduceNe, Int.reduceNeg, Int.reduceAdd, Int.reduceSub, Int.reduceMul, Nat.reduceAdd, Nat.reduceLeDiff, true_or, or_true, false_or, or_false, reduceIte, k_45, k_46, l_46, k_48, p0, p2, hs, hl, g1, s0, s1, k1, k2, ht, a0, T, t45, t49, m45, eq_true hp, fe]
  have w1 : w32 (s + 1) = s + 1 := wi32 (by omega) (by omega)
  have b0 : 0 ≤ P := po.1
  have b1 : P < 40 := by omega
  have m46 : ∀ (c : MM) k v, mset c 46 k v 45 = c 45 := fun c k v => ms_row _ _ _ _ _ (by omega)
  rw [st, I]
  simp only [xe_40_108, xe_40_109, xe_40_112, xe_40_114, xe_40_115, xe_40_116, xe_40_117, xe_40_118, xe_40_121, xe_40_122, xe_40_123, xe_40_126, ite_self, mm_nL_I, mm_nL_R, mm_nL_0, Option.bind_some, Option.bind_none, bnd_ite, Option.toList_some, Option.toList_none, List.cons_append, List.nil_append, mm_cats_nil, mm_cats_I, mm_cats_L, mm_cats_R, if_true, if_false, true_and, and_true, false_and, and_false, not_true_eq_false, not_false_eq_true, Int.reduceLE, Int.reduceLT, Int.reduceEq, Int.reduceNe, Int.reduceNeg, Int.reduceAdd, Int.reduceSub, Int.reduceMul, Nat.reduceAdd, Nat.reduceLeDiff, true_or, or_true, false_or, or_false, reduceIte, k_45, k_46, l_46, l45, p0, hs, m46, k1, a1, b0, b1, w1]
def liR (r : MM) (k p : Int) : MM := fun x j => if x = 158 ∧ p < j ∧ j ≤ k then r 158 (j - 1) else r x j
theorem liR_b (r : MM) (k p b : Int) (h : ¬ b = 158) : liR r k p b = r b := by funext j; unfold liR; rw [if_neg (by omega)]
/-- the reference's order, a mode more -/
theorem in_M (L k : Int) (r : MM) (q ord : Int → Int) (p20 : r 149 20 = 157) (p21 : r 149 21 = 158) (hq : r 157 = q) (k0 : 0 ≤ k) (k1 : k < 40) (hb : ∀ i, 0 ≤ i → i ≤ k → mrb q i) (ho : ∀ i, 0 ≤ i → i < k → r 158 i = ord i ∧ 0 ≤ ord i ∧ ord i < k) (y3 y4 : Option MV) : ∀ (m : Nat), (m : Int) ≤ k → ev 176 298 [some (vR 149), some (vI k), some (vI (m : Int)), y3, y4] [] (liR r k (m : Int)) (g_1 L) = ev 176 338 [some (vR 149), some (vI k), some (vI (pl q ord k m)), y3, y4] [] (liR r k (pl q ord k m)) (g_1 L) := by
  intro m
  induction m with
  | zero =>
    intro hm
    have e : ((0 : Nat) : Int) = 0 := rfl
    rw [e]
    simp only [xe_176_298, xe_176_299, ite_self, mm_nL_I, mm_nL_R, mm_nL_0, Option.bind_some, Option.bind_none, bnd_ite, Option.toList_some, Option.toList_none, List.cons_append, List.nil_append, mm_cats_nil, mm_cats_I, mm_cats_L, mm_cats_R, if_true, if_false, true_and, and_true, false_and, and_false, not_true_eq_false, not_false_eq_true, Int.reduceLE, Int.reduceLT, Int.reduceEq, Int.reduceNe, Int.reduceNeg, Int.reduceAdd, Int.reduceSub, Int.reduceMul, Nat.reduceAdd, Nat.reduceLeDiff, true_or, or_true, false_or, or_false, reduceIte, pl]
  | succ m ih =>
    intro hm
    have e : ((m + 1 : Nat) : Int) = (m : Int) + 1 := by omega
    rw [e]
    obtain ⟨o1, o2, o3⟩ := ho (m : Int) (by omega) (by omega)
    have Rb : ∀ b, ¬ b = 158 → liR r k ((m : Int) + 1) b = r b := fun b hb => liR_b _ _ _ _ hb
    have Rm : liR r k ((m : Int) + 1) 158 (m : Int) = ord (m : Int) := by unfold liR; rw [if_neg (by omega)]; exact o1
    have g : ¬ (m : Int) + 1 ≤ 0 := by omega
    have w1 : w32 ((m : Int) + 1 - 1) = (m : Int) := by rw [wi32 (by omega) (by omega)]; omega
    have w2 : w32 ((m : Int) + 1 + -1) = (m : Int) := by rw [wi32 (by omega) (by omega)]; omega
    have A := s_ahM L k (ord (m : Int)) (liR r k ((m : Int) + 1)) (by rw [Rb _ (by omega)]; exact p20) k0 k1 o2 (by omega) (by rw [Rb _ (by omega), hq]; exact hb k k0 (Int.le_refl _)) (by rw [Rb _ (by omega), hq]; exact hb _ o2 (by omega))
    rw [Rb 157 (by omega), hq] at A
    have q21 : liR r k ((m : Int) + 1) 149 21 = 158 := by rw [Rb _ (by omega)]; exact p21
    have a0 : 0 ≤ (m : Int) := by omega
    have a1 : (m : Int) < 40 := by omega
    have a2 : 0 ≤ (m : Int) + 1 := by omega
    have a3 : (m : Int) + 1 < 40 := by omega
    have st : mset (liR r k ((m : Int) + 1)) 158 ((m : Int) + 1) (ord (m : Int)) = liR r k (m : Int) := by
      funext x j
      unfold mset liR
      by_cases hx : x = 158 ∧ j = (m : Int) + 1
      · rw [if_pos hx, if_pos ⟨hx.1, by omega, by omega⟩, hx.2, show (m : Int) + 1 - 1 = (m : Int) by omega, o1]
      · rw [if_neg hx]
        (repeat' split) <;> first | rfl | (exfalso; omega)
    rw [xe_176_298]
    simp only [pl]
    by_cases z : ahd q k (ord (m : Int)) = true
    · rw [if_pos z] at A
      rw [if_pos z]
      simp only [xe_176_299, xe_176_302, xe_176_303, xe_176_304, xe_176_305, xe_176_308, xe_176_309, xe_176_310, xe_176_311, xe_176_312, xe_176_315, xe_176_318, xe_176_319, xe_176_322, xe_176_323, xe_176_324, xe_176_327, xe_176_328, xe_176_329, xe_176_330, xe_176_331, xe_176_332 _ (some (vI _)) _ _ _ _ _ _ rfl, xe_176_332 _ (some (vR _)) _ _ _ _ _ _ rfl, xe_176_332 _ none _ _ _ _ _ _ rfl, xe_176_335, ite_self, mm_nL_I, mm_nL_R, mm_nL_0, Option.bind_some, Option.bind_none, bnd_ite, Option.toList_some, Option.toList_none, List.cons_append, List.nil_append, mm_cats_nil, mm_cats_I, mm_cats_L, mm_cats_R, if_true, if_false, true_and, and_true, false_and, and_false, not_true_eq_false, not_false_eq_true, Int.reduceLE, Int.reduceLT, Int.reduceEq, Int.reduceNe, Int.reduceNeg, Int.reduceAdd, Int.reduceSub, Int.reduceMul, Nat.reduceAdd, Nat.reduceLeDiff, true_or, or_true, false_or, or_false, reduceIte, k_149, k_158, l_158, q21, Rm, A, g, w1, w2, a0, a1, a2, a3, st]
      exact ih (by omega)
    · rw [if_neg z] at A
      rw [if_neg z]
      simp only [xe_176_299, xe_176_302, xe_176_303, xe_176_304, xe_176_305, xe_176_308, xe_176_309, xe_176_310, xe_176_311, xe_176_312, xe_176_315, xe_176_318, xe_176_319, xe_176_322, xe_176_323, xe_176_324, xe_176_327, xe_176_328, xe_176_329, xe_176_330, xe_176_331, xe_176_332 _ (some (vI _)) _ _ _ _ _ _ rfl, xe_176_332 _ (some (vR _)) _ _ _ _ _ _ rfl, xe_176_332 _ none _ _ _ _ _ _ rfl, xe_176_335, ite_self, mm_nL_I, mm_nL_R, mm_nL_0, Option.bind_some, Option.bind_none, bnd_ite, Option.toList_some, Option.toList_none, List.cons_append, List.nil_append, mm_cats_nil, mm_cats_I, mm_cats_L, mm_cats_R, if_true, if_false, true_and, and_true, false_and, and_false, not_true_eq_false, not_false_eq_true, Int.reduceLE, Int.reduceLT, Int.reduceEq, Int.reduceNe, Int.reduceNeg, Int.reduceAdd, Int.reduceSub, Int.reduceMul, Nat.reduceAdd, Nat.reduceLeDiff, true_or, or_true, false_or, or_false, reduceIte, k_149, k_158, l_158, q21, Rm, A, g, w1, w2, a0, a1, a2, a3]
