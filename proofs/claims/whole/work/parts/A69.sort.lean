/-! load: the order of the modes -/
def ar (q : Int → Int) (i : Int) : Int := q (12 * i) * q (12 * i + 1)
def ahd (q : Int → Int) (i o : Int) : Bool := if q (12 * i + 7) = q (12 * o + 7) then decide (ar q o < ar q i ∨ (ar q i = ar q o ∧ q (12 * o + 2) < q (12 * i + 2))) else decide (q (12 * i + 7) = 1)
def pl (q ord : Int → Int) (k : Int) : Nat → Int
  | 0 => 0
  | m + 1 => if ahd q k (ord (m : Int)) = true then pl q ord k m else (m : Int) + 1
def insO (ord : Int → Int) (k p : Int) : Int → Int := fun j => if j < p then ord j else if j = p then k else if j ≤ k then ord (j - 1) else ord j
def sor (q : Int → Int) : Nat → Int → Int
  | 0 => fun _ => 0
  | k + 1 => insO (sor q k) (k : Int) (pl q (sor q k) (k : Int) k)
theorem pl_ok (q ord : Int → Int) (k : Int) : ∀ m : Nat, 0 ≤ pl q ord k m ∧ pl q ord k m ≤ m
  | 0 => by simp [pl]
  | m + 1 => by
    have := pl_ok q ord k m
    simp only [pl]
    split <;> omega
theorem sor_r (q : Int → Int) : ∀ (k : Nat) (i : Int), 0 ≤ i → i < k → 0 ≤ sor q k i ∧ sor q k i < k
  | 0, i, h0, h1 => by omega
  | k + 1, i, h0, h1 => by
    simp only [sor, insO]
    have p := pl_ok q (sor q k) k k
    have := sor_r q k
    split
    · have := this i h0 (by omega); omega
    · split
      · omega
      · split
        · have := this (i - 1) (by omega) (by omega); omega
        · omega
theorem sor_s (q : Int → Int) : ∀ (k : Nat) (j : Int), 0 ≤ j → j < k → ∃ i : Int, 0 ≤ i ∧ i < k ∧ sor q k i = j
  | 0, j, h0, h1 => by omega
  | k + 1, j, h0, h1 => by
    have p := pl_ok q (sor q k) k k
    simp only [sor, insO]
    generalize pl q (sor q k) k k = P at *
    by_cases e : j = k
    · exact ⟨P, by omega, by omega, by rw [if_neg (by omega), if_pos rfl, e]⟩
    · obtain ⟨i, i0, i1, hi⟩ := sor_s q k j h0 (by omega)
      by_cases lt : i < P
      · exact ⟨i, i0, by omega, by rw [if_pos lt, hi]⟩
      · exact ⟨i + 1, by omega, by omega, by rw [if_neg (by omega), if_neg (by omega), if_pos (by omega), show i + 1 - 1 = i by omega, hi]⟩
theorem ahd_cg {q q' : Int → Int} {n i o : Int} (h : ∀ j, 0 ≤ j → j < 12 * n → q' j = q j) (i0 : 0 ≤ i) (i1 : i < n) (o0 : 0 ≤ o) (o1 : o < n) : ahd q' i o = ahd q i o := by
  unfold ahd ar
  rw [h (12 * i) (by omega) (by omega), h (12 * i + 1) (by omega) (by omega), h (12 * i + 2) (by omega) (by omega), h (12 * i + 7) (by omega) (by omega), h (12 * o) (by omega) (by omega), h (12 * o + 1) (by omega) (by omega), h (12 * o + 2) (by omega) (by omega), h (12 * o + 7) (by omega) (by omega)]
theorem pl_cg {q q' ord ord' : Int → Int} {n k : Int} (h : ∀ j, 0 ≤ j → j < 12 * n → q' j = q j) (k0 : 0 ≤ k) (k1 : k < n) : ∀ m : Nat, (∀ j : Int, 0 ≤ j → j < (m : Int) → ord' j = ord j ∧ 0 ≤ ord j ∧ ord j < n) → pl q' ord' k m = pl q ord k m
  | 0, _ => rfl
  | m + 1, ho => by
    simp only [pl]
    have a := ho m (by omega) (by omega)
    rw [a.1, ahd_cg h k0 k1 a.2.1 a.2.2, pl_cg h k0 k1 m (fun j j0 j1 => ho j j0 (by omega))]
theorem sor_cg {q q' : Int → Int} : ∀ (k : Nat), (∀ j, 0 ≤ j → j < 12 * (k : Int) → q' j = q j) → sor q' k = sor q k
  | 0, _ => rfl
  | k + 1, h => by
    have e := sor_cg k (fun j j0 j1 => h j j0 (by omega))
    simp only [sor]
    rw [e, pl_cg (n := (k : Int) + 1) (fun j j0 j1 => h j j0 (by omega)) (by omega) (by omega) k (fun j j0 j1 => ⟨rfl, by have := sor_r q k j j0 j1; omega⟩)]
/-- parts of a mode in the reference's row -/
def mrb (q : Int → Int) (i : Int) : Prop := 0 ≤ q (12 * i) ∧ q (12 * i) ≤ 4095 ∧ 0 ≤ q (12 * i + 1) ∧ q (12 * i + 1) ≤ 4095 ∧ (q (12 * i + 7) = 0 ∨ q (12 * i + 7) = 1)
theorem s_ahM (L i o : Int) (r : MM) (p20 : r 149 20 = 157) (i0 : 0 ≤ i) (i1 : i < 40) (o0 : 0 ≤ o) (o1 : o < 40) (hi : mrb (r 157) i) (ho : mrb (r 157) o) : ev 177 0 [some (vR 149), some (vI i), some (vI o), none, none, none] [] r (g_1 L) = some (some (vI (if ahd (r 157) i o = true then 1 else 0)), r, g_1 L) := by
  obtain ⟨a1, a2, a3, a4, a5⟩ := hi
  obtain ⟨b1, b2, b3, b4, b5⟩ := ho
  have ma := mul_bd a1 a2 a3 a4
  have mb := mul_bd b1 b2 b3 b4
  unfold ahd ar
  have wi : w32 (12 * i) = 12 * i := wi32 (by omega) (by omega)
  have wo' : w32 (12 * o) = 12 * o := wi32 (by omega) (by omega)
  have i7 : w32 (12 * i + 7) = 12 * i + 7 := wi32 (by omega) (by omega)
  have o7 : w32 (12 * o + 7) = 12 * o + 7 := wi32 (by omega) (by omega)
  have i1' : w32 (12 * i + 1) = 12 * i + 1 := wi32 (by omega) (by omega)
  have o1' : w32 (12 * o + 1) = 12 * o + 1 := wi32 (by omega) (by omega)
  have i2 : w32 (12 * i + 2) = 12 * i + 2 := wi32 (by omega) (by omega)
  have o2 : w32 (12 * o + 2) = 12 * o + 2 := wi32 (by omega) (by omega)
  have r0 : 0 ≤ 12 * i ∧ 12 * i < 480 := by omega
  have r1 : 0 ≤ 12 * i + 1 ∧ 12 * i + 1 < 480 := by omega
  have r2 : 0 ≤ 12 * i + 2 ∧ 12 * i + 2 < 480 := by omega
  have r7 : 0 ≤ 12 * i + 7 ∧ 12 * i + 7 < 480 := by omega
  have t0 : 0 ≤ 12 * o ∧ 12 * o < 480 := by omega
  have t1 : 0 ≤ 12 * o + 1 ∧ 12 * o + 1 < 480 := by omega
  have t2 : 0 ≤ 12 * o + 2 ∧ 12 * o + 2 < 480 := by omega
  have t7 : 0 ≤ 12 * o + 7 ∧ 12 * o + 7 < 480 := by omega
  generalize ga : r 157 (12 * i) * r 157 (12 * i + 1) = A at *
  generalize gb : r 157 (12 * o) * r 157 (12 * o + 1) = B at *
  have wA : w32 A = A := wi32 (by omega) (by omega)
  have wB : w32 B = B := wi32 (by omega) (by omega)
  have wAB : w32 (A - B) = A - B := wi32 (by omega) (by omega)
  by_cases e : r 157 (12 * i + 7) = r 157 (12 * o + 7)
  · rw [if_pos e]
    by_cases z : A - B = 0
    · by_cases h2 : r 157 (12 * i + 2) ≤ r 157 (12 * o + 2)
      · have n : ¬ (B < A ∨ (A = B ∧ r 157 (12 * o + 2) < r 157 (12 * i + 2))) := by omega
        simp only [xe_177_0, xe_177_2, xe_177_3, xe_177_4 _ _ (some (vI _)) _ _ _ _ _ _ _ rfl, xe_177_4 _ _ (some (vR _)) _ _ _ _ _ _ _ rfl, xe_177_4 _ _ none _ _ _ _ _ _ _ rfl, xe_177_5, xe_177_7, xe_177_8, xe_177_9 _ _ _ (some (vI _)) _ _ _ _ _ _ rfl, xe_177_9 _ _ _ (some (vR _)) _ _ _ _ _ _ rfl, xe_177_9 _ _ _ none _ _ _ _ _ _ rfl, xe_177_11, xe_177_12, xe_177_15, xe_177_16, xe_177_18, xe_177_19, xe_177_20, xe_177_21, xe_177_24, xe_177_26, xe_177_28, xe_177_29, xe_177_30, xe_177_33, xe_177_34, xe_177_37, xe_177_38, xe_177_40, xe_177_41, xe_177_42, xe_177_43, xe_177_46, xe_177_47, xe_177_50, xe_177_51, xe_177_52, xe_177_53, xe_177_56, xe_177_57, xe_177_58, xe_177_59, xe_177_62, xe_177_63, xe_177_64, xe_177_65, xe_177_66, xe_177_67, xe_177_68, xe_177_71, xe_177_73, xe_177_74, xe_177_75, xe_177_78, xe_177_80, xe_177_81, xe_177_82, xe_177_83, xe_177_84, xe_177_85 _ _ _ _ (some (vI _)) _ _ _ _ _ rfl, xe_177_85 _ _ _ _ (some (vR _)) _ _ _ _ _ rfl, xe_177_85 _ _ _ _ none _ _ _ _ _ rfl, xe_177_87, xe_177_89, xe_177_92, xe_177_94, xe_177_97, xe_177_98, xe_177_101, xe_177_102, xe_177_105, xe_177_106, xe_177_109, xe_177_110, xe_177_111, xe_177_112, xe_177_113, xe_177_114, xe_177_117, xe_177_119, xe_177_120, xe_177_121, xe_177_122, xe_177_125, xe_177_126, xe_177_129, xe_177_130, ite_self, mm_nL_I, mm_nL_R, mm_nL_0, Option.bind_some, Option.bind_none, bnd_ite, Option.toList_some, Option.toList_none, List.cons_append, List.nil_append, mm_cats_nil, mm_cats_I, mm_cats_L, mm_cats_R, if_true, if_false, true_and, and_true, false_and, and_false, not_true_eq_false, not_false_eq_true, Int.reduceLE, Int.reduceLT, Int.reduceEq, Int.reduceNe, Int.reduceNeg, Int.reduceAdd, Int.reduceSub, Int.reduceMul, Nat.reduceAdd, Nat.reduceLeDiff, true_or, or_true, false_or, or_false, reduceIte, k_149, k_157, l_157, p20, wi, wo', i7, o7, i1', o1', i2, o2, r0, r1, r2, r7, t0, t1, t2, t7, ga, gb, wA, wB, wAB, eq_true e, eq_true z, h2, n, decide_false, Bool.false_eq_true]
      · have n : (B < A ∨ (A = B ∧ r 157 (12 * o + 2) < r 157 (12 * i + 2))) := by omega
        simp only [xe_177_0, xe_177_2, xe_177_3, xe_177_4 _ _ (some (vI _)) _ _ _ _ _ _ _ rfl, xe_177_4 _ _ (some (vR _)) _ _ _ _ _ _ _ rfl, xe_177_4 _ _ none _ _ _ _ _ _ _ rfl, xe_177_5, xe_177_7, xe_177_8, xe_177_9 _ _ _ (some (vI _)) _ _ _ _ _ _ rfl, xe_177_9 _ _ _ (some (vR _)) _ _ _ _ _ _ rfl, xe_177_9 _ _ _ none _ _ _ _ _ _ rfl, xe_177_11, xe_177_12, xe_177_15, xe_177_16, xe_177_18, xe_177_19, xe_177_20, xe_177_21, xe_177_24, xe_177_26, xe_177_28, xe_177_29, xe_177_30, xe_177_33, xe_177_34, xe_177_37, xe_177_38, xe_177_40, xe_177_41, xe_177_42, xe_177_43, xe_177_46, xe_177_47, xe_177_50, xe_177_51, xe_177_52, xe_177_53, xe_177_56, xe_177_57, xe_177_58, xe_177_59, xe_177_62, xe_177_63, xe_177_64, xe_177_65, xe_177_66, xe_177_67, xe_177_68, xe_177_71, xe_177_73, xe_177_74, xe_177_75, xe_177_78, xe_177_80, xe_177_81, xe_177_82, xe_177_83, xe_177_84, xe_177_85 _ _ _ _ (some (vI _)) _ _ _ _ _ rfl, xe_177_85 _ _ _ _ (some (vR _)) _ _ _ _ _ rfl, xe_177_85 _ _ _ _ none _ _ _ _ _ rfl, xe_177_87, xe_177_89, xe_177_92, xe_177_94, xe_177_97, xe_177_98, xe_177_101, xe_177_102, xe_177_105, xe_177_106, xe_177_109, xe_177_110, xe_177_111, xe_177_112, xe_177_113, xe_177_114, xe_177_117, xe_177_119, xe_177_120, xe_177_121, xe_177_122, xe_177_125, xe_177_126, xe_177_129, xe_177_130, ite_self, mm_nL_I, mm_nL_R, mm_nL_0, Option.bind_some, Option.bind_none, bnd_ite, Option.toList_some, Option.toList_none, List.cons_append, List.nil_append, mm_cats_nil, mm_cats_I, mm_cats_L, mm_cats_R, if_true, if_false, true_and, and_true, false_and, and_false, not_true_eq_false, not_false_eq_true, Int.reduceLE, Int.reduceLT, Int.reduceEq, Int.reduceNe, Int.reduceNeg, Int.reduceAdd, Int.reduceSub, Int.reduceMul, Nat.reduceAdd, Nat.reduceLeDiff, true_or, or_true, false_or, or_false, reduceIte, k_149, k_157, l_157, p20, wi, wo', i7, o7, i1', o1', i2, o2, r0, r1, r2, r7, t0, t1, t2, t7, ga, gb, wA, wB, wAB, eq_true e, eq_true z, h2, eq_true n, decide_true]
    · by_cases g : A - B ≤ 0
      · have n : ¬ (B < A ∨ (A = B ∧ r 157 (12 * o + 2) < r 157 (12 * i + 2))) := by omega
        simp only [xe_177_0, xe_177_2, xe_177_3, xe_177_4 _ _ (some (vI _)) _ _ _ _ _ _ _ rfl, xe_177_4 _ _ (some (vR _)) _ _ _ _ _ _ _ rfl, xe_177_4 _ _ none _ _ _ _ _ _ _ rfl, xe_177_5, xe_177_7, xe_177_8, xe_177_9 _ _ _ (some (vI _)) _ _ _ _ _ _ rfl, xe_177_9 _ _ _ (some (vR _)) _ _ _ _ _ _ rfl, xe_177_9 _ _ _ none _ _ _ _ _ _ rfl, xe_177_11, xe_177_12, xe_177_15, xe_177_16, xe_177_18, xe_177_19, xe_177_20, xe_177_21, xe_177_24, xe_177_26, xe_177_28, xe_177_29, xe_177_30, xe_177_33, xe_177_34, xe_177_37, xe_177_38, xe_177_40, xe_177_41, xe_177_42, xe_177_43, xe_177_46, xe_177_47, xe_177_50, xe_177_51, xe_177_52, xe_177_53, xe_177_56, xe_177_57, xe_177_58, xe_177_59, xe_177_62, xe_177_63, xe_177_64, xe_177_65, xe_177_66, xe_177_67, xe_177_68, xe_177_71, xe_177_73, xe_177_74, xe_177_75, xe_177_78, xe_177_80, xe_177_81, xe_177_82, xe_177_83, xe_177_84, xe_177_85 _ _ _ _ (some (vI _)) _ _ _ _ _ rfl, xe_177_85 _ _ _ _ (some (vR _)) _ _ _ _ _ rfl, xe_177_85 _ _ _ _ none _ _ _ _ _ rfl, xe_177_87, xe_177_89, xe_177_92, xe_177_94, xe_177_97, xe_177_98, xe_177_101, xe_177_102, xe_177_105, xe_177_106, xe_177_109, xe_177_110, xe_177_111, xe_177_112, xe_177_113, xe_177_114, xe_177_117, xe_177_119, xe_177_120, xe_177_121, xe_177_122, xe_177_125, xe_177_126, xe_177_129, xe_177_130, ite_self, mm_nL_I, mm_nL_R, mm_nL_0, Option.bind_some, Option.bind_none, bnd_ite, Option.toList_some, Option.toList_none, List.cons_append, List.nil_append, mm_cats_nil, mm_cats_I, mm_cats_L, mm_cats_R, if_true, if_false, true_and, and_true, false_and, and_false, not_true_eq_false, not_false_eq_true, Int.reduceLE, Int.reduceLT, Int.reduceEq, Int.reduceNe, Int.reduceNeg, Int.reduceAdd, Int.reduceSub, Int.reduceMul, Nat.reduceAdd, Nat.reduceLeDiff, true_or, or_true, false_or, or_false, reduceIte, k_149, k_157, l_157, p20, wi, wo', i7, o7, i1', o1', i2, o2, r0, r1, r2, r7, t0, t1, t2, t7, ga, gb, wA, wB, wAB, eq_true e, z, g, n, decide_false, Bool.false_eq_true]
      · have n : (B < A ∨ (A = B ∧ r 157 (12 * o + 2) < r 157 (12 * i + 2))) := by omega
        simp only [xe_177_0, xe_177_2, xe_177_3, xe_177_4 _ _ (some (vI _)) _ _ _ _ _ _ _ rfl, xe_177_4 _ _ (some (vR _)) _ _ _ _ _ _ _ rfl, xe_177_4 _ _ none _ _ _ _ _ _ _ rfl, xe_177_5, xe_177_7, xe_177_8, xe_177_9 _ _ _ (some (vI _)) _ _ _ _ _ _ rfl, xe_177_9 _ _ _ (some (vR _)) _ _ _ _ _ _ rfl, xe_177_9 _ _ _ none _ _ _ _ _ _ rfl, xe_177_11, xe_177_12, xe_177_15, xe_177_16, xe_177_18, xe_177_19, xe_177_20, xe_177_21, xe_177_24, xe_177_26, xe_177_28, xe_177_29, xe_177_30, xe_177_33, xe_177_34, xe_177_37, xe_177_38, xe_177_40, xe_177_41, xe_177_42, xe_177_43, xe_177_46, xe_177_47, xe_177_50, xe_177_51, xe_177_52, xe_177_53, xe_177_56, xe_177_57, xe_177_58, xe_177_59, xe_177_62, xe_177_63, xe_177_64, xe_177_65, xe_177_66, xe_177_67, xe_177_68, xe_177_71, xe_177_73, xe_177_74, xe_177_75, xe_177_78, xe_177_80, xe_177_81, xe_177_82, xe_177_83, xe_177_84, xe_177_85 _ _ _ _ (some (vI _)) _ _ _ _ _ rfl, xe_177_85 _ _ _ _ (some (vR _)) _ _ _ _ _ rfl, xe_177_85 _ _ _ _ none _ _ _ _ _ rfl, xe_177_87, xe_177_89, xe_177_92, xe_177_94, xe_177_97, xe_177_98, xe_177_101, xe_177_102, xe_177_105, xe_177_106, xe_177_109, xe_177_110, xe_177_111, xe_177_112, xe_177_113, xe_177_114, xe_177_117, xe_177_119, xe_177_120, xe_177_121, xe_177_122, xe_177_125, xe_177_126, xe_177_129, xe_177_130, ite_self, mm_nL_I, mm_nL_R, mm_nL_0, Option.bind_some, Option.bind_none, bnd_ite, Option.toList_some, Option.toList_none, List.cons_append, List.nil_append, mm_cats_nil, mm_cats_I, mm_cats_L, mm_cats_R, if_true, if_false, true_and, and_true, false_and, and_false, not_true_eq_false, not_false_eq_true, Int.reduceLE, Int.reduceLT, Int.reduceEq, Int.reduceNe, Int.reduceNeg, Int.reduceAdd, Int.reduceSub, Int.reduceMul, Nat.reduceAdd, Nat.reduceLeDiff, true_or, or_true, false_or, or_false, reduceIte, k_149, k_157, l_157, p20, wi, wo', i7, o7, i1', o1', i2, o2, r0, r1, r2, r7, t0, t1, t2, t7, ga, gb, wA, wB, wAB, eq_true e, z, g, eq_true n, decide_true]
  · rw [if_neg e]
    by_cases p : r 157 (12 * i + 7) = 1
    · simp only [xe_177_0, xe_177_2, xe_177_3, xe_177_4 _ _ (some (vI _)) _ _ _ _ _ _ _ rfl, xe_177_4 _ _ (some (vR _)) _ _ _ _ _ _ _ rfl, xe_177_4 _ _ none _ _ _ _ _ _ _ rfl, xe_177_5, xe_177_7, xe_177_8, xe_177_9 _ _ _ (some (vI _)) _ _ _ _ _ _ rfl, xe_177_9 _ _ _ (some (vR _)) _ _ _ _ _ _ rfl, xe_177_9 _ _ _ none _ _ _ _ _ _ rfl, xe_177_11, xe_177_12, xe_177_15, xe_177_16, xe_177_18, xe_177_19, xe_177_20, xe_177_21, xe_177_24, xe_177_26, xe_177_28, xe_177_29, xe_177_30, xe_177_33, xe_177_34, xe_177_37, xe_177_38, xe_177_40, xe_177_41, xe_177_42, xe_177_43, xe_177_46, xe_177_47, xe_177_50, xe_177_51, xe_177_52, xe_177_53, xe_177_56, xe_177_57, xe_177_58, xe_177_59, xe_177_62, xe_177_63, xe_177_64, xe_177_65, xe_177_66, xe_177_67, xe_177_68, xe_177_71, xe_177_73, xe_177_74, xe_177_75, xe_177_78, xe_177_80, xe_177_81, xe_177_82, xe_177_83, xe_177_84, xe_177_85 _ _ _ _ (some (vI _)) _ _ _ _ _ rfl, xe_177_85 _ _ _ _ (some (vR _)) _ _ _ _ _ rfl, xe_177_85 _ _ _ _ none _ _ _ _ _ rfl, xe_177_87, xe_177_89, xe_177_92, xe_177_94, xe_177_97, xe_177_98, xe_177_101, xe_177_102, xe_177_105, xe_177_106, xe_177_109, xe_177_110, xe_177_111, xe_177_112, xe_177_113, xe_177_114, xe_177_117, xe_177_119, xe_177_120, xe_177_121, xe_177_122, xe_177_125, xe_177_126, xe_177_129, xe_177_130, ite_self, mm_nL_I, mm_nL_R, mm_nL_0, Option.bind_some, Option.bind_none, bnd_ite, Option.toList_some, Option.toList_none, List.cons_append, List.nil_append, mm_cats_nil, mm_cats_I, mm_cats_L, mm_cats_R, if_true, if_false, true_and, and_true, false_and, and_false, not_true_eq_false, not_false_eq_true, Int.reduceLE, Int.reduceLT, Int.reduceEq, Int.reduceNe, Int.reduceNeg, Int.reduceAdd, Int.reduceSub, Int.reduceMul, Nat.reduceAdd, Nat.reduceLeDiff, true_or, or_true, false_or, or_false, reduceIte, k_149, k_157, l_157, p20, wi, wo', i7, o7, r7, t7, e, eq_true p, decide_true]
    · simp only [xe_177_0, xe_177_2, xe_177_3, xe_177_4 _ _ (some (vI _)) _ _ _ _ _ _ _ rfl, xe_177_4 _ _ (some (vR _)) _ _ _ _ _ _ _ rfl, xe_177_4 _ _ none _ _ _ _ _ _ _ rfl, xe_177_5, xe_177_7, xe_177_8, xe_177_9 _ _ _ (some (vI _)) _ _ _ _ _ _ rfl, xe_177_9 _ _ _ (some (vR _)) _ _ _ _ _ _ rfl, xe_177_9 _ _ _ none _ _ _ _ _ _ rfl, xe_177_11, xe_177_12, xe_177_15, xe_177_16, xe_177_18, xe_177_19, xe_177_20, xe_177_21, xe_177_24, xe_177_26, xe_177_28, xe_177_29, xe_177_30, xe_177_33, xe_177_34, xe_177_37, xe_177_38, xe_177_40, xe_177_41, xe_177_42, xe_177_43, xe_177_46, xe_177_47, xe_177_50, xe_177_51, xe_177_52, xe_177_53, xe_177_56, xe_177_57, xe_177_58, xe_177_59, xe_177_62, xe_177_63, xe_177_64, xe_177_65, xe_177_66, xe_177_67, xe_177_68, xe_177_71, xe_177_73, xe_177_74, xe_177_75, xe_177_78, xe_177_80, xe_177_81, xe_177_82, xe_177_83, xe_177_84, xe_177_85 _ _ _ _ (some (vI _)) _ _ _ _ _ rfl, xe_177_85 _ _ _ _ (some (vR _)) _ _ _ _ _ rfl, xe_177_85 _ _ _ _ none _ _ _ _ _ rfl, xe_177_87, xe_177_89, xe_177_92, xe_177_94, xe_177_97, xe_177_98, xe_177_101, xe_177_102, xe_177_105, xe_177_106, xe_177_109, xe_177_110, xe_177_111, xe_177_112, xe_177_113, xe_177_114, xe_177_117, xe_177_119, xe_177_120, xe_177_121, xe_177_122, xe_177_125, xe_177_126, xe_177_129, xe_177_130, ite_self, mm_nL_I, mm_nL_R, mm_nL_0, Option.bind_some, Option.bind_none, bnd_ite, Option.toList_some, Option.toList_none, List.cons_append, List.nil_append, mm_cats_nil, mm_cats_I, mm_cats_L, mm_cats_R, if_true, if_false, true_and, and_true, false_and, and_false, not_true_eq_false, not_false_eq_true, Int.reduceLE, Int.reduceLT, Int.reduceEq, Int.reduceNe, Int.reduceNeg, Int.reduceAdd, Int.reduceSub, Int.reduceMul, Nat.reduceAdd, Nat.reduceLeDiff, true_or, or_true, false_or, or_false, reduceIte, k_149, k_157, l_157, p20, wi, wo', i7, o7, r7, t7, e, p, decide_false, Bool.false_eq_true]
/-- the class's mode at object u is the reference's i -/
def xm (c : MM) (u : Int) (q : Int → Int) (i : Int) : Prop := c (49 + 2 * u) 0 = 50 + 2 * u ∧ Rmo (c (49 + 2 * u)) (c (50 + 2 * u)) q (12 * i) ∧ mok (c (49 + 2 * u)) (c (50 + 2 * u))
theorem s_ahX (L u w i o : Int) (c : MM) (q : Int → Int) (u0 : 0 ≤ u) (u1 : u < 40) (w0 : 0 ≤ w) (w1 : w < 40) (hi : xm c u q i) (ho : xm c w q o) : ev 29 0 [some (vR (49 + 2 * u)), some (vR (49 + 2 * w)), none, none] [] c (g_1 L) = some (some (vI (if ahd q i o = true then 1 else 0)), c, g_1 L) := by
  obtain ⟨x0, ⟨e1, e2, e3, e4, e5, e6, e7, e8, _⟩, f⟩ := hi
  obtain ⟨y0, ⟨d1, d2, d3, d4, d5, d6, d7, d8, _⟩, g⟩ := ho
  unfold mok at f g
  have k1 := k_mode L u u0 u1
  have k2 := k_mtim L u u0 u1
  have j1 := k_mode L w w0 w1
  have j2 := k_mtim L w w0 w1
  have ma := mul_bd (show 0 ≤ c (50 + 2 * u) 1 by omega) (show c (50 + 2 * u) 1 ≤ 4095 by omega) (show 0 ≤ c (50 + 2 * u) 5 by omega) (show c (50 + 2 * u) 5 ≤ 4095 by omega)
  have mb := mul_bd (show 0 ≤ c (50 + 2 * w) 1 by omega) (show c (50 + 2 * w) 1 ≤ 4095 by omega) (show 0 ≤ c (50 + 2 * w) 5 by omega) (show c (50 + 2 * w) 5 ≤ 4095 by omega)
  have p7 : q (12 * i + 7) = 0 ∨ q (12 * i + 7) = 1 := by rw [← e8]; omega
  rw [e1, e2] at ma
  rw [d1, d2] at mb
  unfold ahd ar
  generalize ga : q (12 * i) * q (12 * i + 1) = A at *
  generalize gb : q (12 * o) * q (12 * o + 1) = B at *
  have wA : w32 A = A := wi32 (by omega) (by omega)
  have wB : w32 B = B := wi32 (by omega) (by omega)
  by_cases e : q (12 * i + 7) = q (12 * o + 7)
  · rw [if_pos e]
    by_cases z : B < A
    · have n : (B < A ∨ (A = B ∧ q (12 * o + 2) < q (12 * i + 2))) := Or.inl z
      simp only [xe_29_0, xe_29_1, xe_29_4, xe_29_5, xe_29_8, xe_29_11, xe_29_12, xe_29_15, xe_29_16, xe_29_17, xe_29_20, xe_29_23, xe_29_24, xe_29_27, xe_29_30, xe_29_31 _ (some (vI _)) _ _ _ _ _ _ rfl, xe_29_31 _ (some (vR _)) _ _ _ _ _ _ rfl, xe_29_31 _ none _ _ _ _ _ _ rfl, xe_29_32, xe_29_33, xe_29_36, xe_29_39, xe_29_40, xe_29_43, xe_29_46, xe_29_47 _ _ (some (vI _)) _ _ _ _ _ rfl, xe_29_47 _ _ (some (vR _)) _ _ _ _ _ rfl, xe_29_47 _ _ none _ _ _ _ _ rfl, xe_29_48, xe_29_49, xe_29_50, xe_29_53, xe_29_54, xe_29_55, xe_29_58, xe_29_59, xe_29_62, xe_29_63, xe_29_66, xe_29_69, xe_29_70, xe_29_73, xe_29_74, ite_self, mm_nL_I, mm_nL_R, mm_nL_0, Option.bind_some, Option.bind_none, bnd_ite, Option.toList_some, Option.toList_none, List.cons_append, List.nil_append, mm_cats_nil, mm_cats_I, mm_cats_L, mm_cats_R, if_true, if_false, true_and, and_true, false_and, and_false, not_true_eq_false, not_false_eq_true, Int.reduceLE, Int.reduceLT, Int.reduceEq, Int.reduceNe, Int.reduceNeg, Int.reduceAdd, Int.reduceSub, Int.reduceMul, Nat.reduceAdd, Nat.reduceLeDiff, true_or, or_true, false_or, or_false, reduceIte, k1, k2, j1, j2, x0, y0, e1, e2, e8, d1, d2, d8, ga, gb, wA, wB, eq_true e, z, eq_true n, decide_true]
    · by_cases z2 : A = B
      · by_cases h2 : q (12 * i + 2) ≤ q (12 * o + 2)
        · have n : ¬ (B < A ∨ (A = B ∧ q (12 * o + 2) < q (12 * i + 2))) := by omega
          rw [decide_eq_false n]
          simp only [xe_29_0, xe_29_1, xe_29_4, xe_29_5, xe_29_8, xe_29_11, xe_29_12, xe_29_15, xe_29_16, xe_29_17, xe_29_20, xe_29_23, xe_29_24, xe_29_27, xe_29_30, xe_29_31 _ (some (vI _)) _ _ _ _ _ _ rfl, xe_29_31 _ (some (vR _)) _ _ _ _ _ _ rfl, xe_29_31 _ none _ _ _ _ _ _ rfl, xe_29_32, xe_29_33, xe_29_36, xe_29_39, xe_29_40, xe_29_43, xe_29_46, xe_29_47 _ _ (some (vI _)) _ _ _ _ _ rfl, xe_29_47 _ _ (some (vR _)) _ _ _ _ _ rfl, xe_29_47 _ _ none _ _ _ _ _ rfl, xe_29_48, xe_29_49, xe_29_50, xe_29_53, xe_29_54, xe_29_55, xe_29_58, xe_29_59, xe_29_62, xe_29_63, xe_29_66, xe_29_69, xe_29_70, xe_29_73, xe_29_74, ite_self, mm_nL_I, mm_nL_R, mm_nL_0, Option.bind_some, Option.bind_none, bnd_ite, Option.toList_some, Option.toList_none, List.cons_append, List.nil_append, mm_cats_nil, mm_cats_I, mm_cats_L, mm_cats_R, if_true, if_false, true_and, and_true, false_and, and_false, not_true_eq_false, not_false_eq_true, Int.reduceLE, Int.reduceLT, Int.reduceEq, Int.reduceNe, Int.reduceNeg, Int.reduceAdd, Int.reduceSub, Int.reduceMul, Nat.reduceAdd, Nat.reduceLeDiff, true_or, or_true, false_or, or_false, reduceIte, k1, k2, j1, j2, x0, y0, e1, e2, e3, e8, d1, d2, d3, d8, ga, gb, wA, wB, eq_true e, z, eq_true z2, h2, Bool.false_eq_true]
        · have n : (B < A ∨ (A = B ∧ q (12 * o + 2) < q (12 * i + 2))) := by omega
          rw [decide_eq_true n]
          simp only [xe_29_0, xe_29_1, xe_29_4, xe_29_5, xe_29_8, xe_29_11, xe_29_12, xe_29_15, xe_29_16, xe_29_17, xe_29_20, xe_29_23, xe_29_24, xe_29_27, xe_29_30, xe_29_31 _ (some (vI _)) _ _ _ _ _ _ rfl, xe_29_31 _ (some (vR _)) _ _ _ _ _ _ rfl, xe_29_31 _ none _ _ _ _ _ _ rfl, xe_29_32, xe_29_33, xe_29_36, xe_29_39, xe_29_40, xe_29_43, xe_29_46, xe_29_47 _ _ (some (vI _)) _ _ _ _ _ rfl, xe_29_47 _ _ (some (vR _)) _ _ _ _ _ rfl, xe_29_47 _ _ none _ _ _ _ _ rfl, xe_29_48, xe_29_49, xe_29_50, xe_29_53, xe_29_54, xe_29_55, xe_29_58, xe_29_59, xe_29_62, xe_29_63, xe_29_66, xe_29_69, xe_29_70, xe_29_73, xe_29_74, ite_self, mm_nL_I, mm_nL_R, mm_nL_0, Option.bind_some, Option.bind_none, bnd_ite, Option.toList_some, Option.toList_none, List.cons_append, List.nil_append, mm_cats_nil, mm_cats_I, mm_cats_L, mm_cats_R, if_true, if_false, true_and, and_true, false_and, and_false, not_true_eq_false, not_false_eq_true, Int.reduceLE, Int.reduceLT, Int.reduceEq, Int.reduceNe, Int.reduceNeg, Int.reduceAdd, Int.reduceSub, Int.reduceMul, Nat.reduceAdd, Nat.reduceLeDiff, true_or, or_true, false_or, or_false, reduceIte, k1, k2, j1, j2, x0, y0, e1, e2, e3, e8, d1, d2, d3, d8, ga, gb, wA, wB, eq_true e, z, eq_true z2, h2]
      · have n : ¬ (B < A ∨ (A = B ∧ q (12 * o + 2) < q (12 * i + 2))) := by omega
        simp only [xe_29_0, xe_29_1, xe_29_4, xe_29_5, xe_29_8, xe_29_11, xe_29_12, xe_29_15, xe_29_16, xe_29_17, xe_29_20, xe_29_23, xe_29_24, xe_29_27, xe_29_30, xe_29_31 _ (some (vI _)) _ _ _ _ _ _ rfl, xe_29_31 _ (some (vR _)) _ _ _ _ _ _ rfl, xe_29_31 _ none _ _ _ _ _ _ rfl, xe_29_32, xe_29_33, xe_29_36, xe_29_39, xe_29_40, xe_29_43, xe_29_46, xe_29_47 _ _ (some (vI _)) _ _ _ _ _ rfl, xe_29_47 _ _ (some (vR _)) _ _ _ _ _ rfl, xe_29_47 _ _ none _ _ _ _ _ rfl, xe_29_48, xe_29_49, xe_29_50, xe_29_53, xe_29_54, xe_29_55, xe_29_58, xe_29_59, xe_29_62, xe_29_63, xe_29_66, xe_29_69, xe_29_70, xe_29_73, xe_29_74, ite_self, mm_nL_I, mm_nL_R, mm_nL_0, Option.bind_some, Option.bind_none, bnd_ite, Option.toList_some, Option.toList_none, List.cons_append, List.nil_append, mm_cats_nil, mm_cats_I, mm_cats_L, mm_cats_R, if_true, if_false, true_and, and_true, false_and, and_false, not_true_eq_false, not_false_eq_true, Int.reduceLE, Int.reduceLT, Int.reduceEq, Int.reduceNe, Int.reduceNeg, Int.reduceAdd, Int.reduceSub, Int.reduceMul, Nat.reduceAdd, Nat.reduceLeDiff, true_or, or_true, false_or, or_false, reduceIte, k1, k2, j1, j2, x0, y0, e1, e2, e3, e8, d1, d2, d3, d8, ga, gb, wA, wB, eq_true e, z, z2, n, decide_false, Bool.false_eq_true]
  · rw [if_neg e]
    rcases p7 with p | p
    · have np : ¬ q (12 * i + 7) = 1 := by omega
      simp only [xe_29_0, xe_29_1, xe_29_4, xe_29_5, xe_29_8, xe_29_11, xe_29_12, xe_29_15, xe_29_16, xe_29_17, xe_29_20, xe_29_23, xe_29_24, xe_29_27, xe_29_30, xe_29_31 _ (some (vI _)) _ _ _ _ _ _ rfl, xe_29_31 _ (some (vR _)) _ _ _ _ _ _ rfl, xe_29_31 _ none _ _ _ _ _ _ rfl, xe_29_32, xe_29_33, xe_29_36, xe_29_39, xe_29_40, xe_29_43, xe_29_46, xe_29_47 _ _ (some (vI _)) _ _ _ _ _ rfl, xe_29_47 _ _ (some (vR _)) _ _ _ _ _ rfl, xe_29_47 _ _ none _ _ _ _ _ rfl, xe_29_48, xe_29_49, xe_29_50, xe_29_53, xe_29_54, xe_29_55, xe_29_58, xe_29_59, xe_29_62, xe_29_63, xe_29_66, xe_29_69, xe_29_70, xe_29_73, xe_29_74, ite_self, mm_nL_I, mm_nL_R, mm_nL_0, Option.bind_some, Option.bind_none, bnd_ite, Option.toList_some, Option.toList_none, List.cons_append, List.nil_append, mm_cats_nil, mm_cats_I, mm_cats_L, mm_cats_R, if_true, if_false, true_and, and_true, false_and, and_false, not_true_eq_false, not_false_eq_true, Int.reduceLE, Int.reduceLT, Int.reduceEq, Int.reduceNe, Int.reduceNeg, Int.reduceAdd, Int.reduceSub, Int.reduceMul, Nat.reduceAdd, Nat.reduceLeDiff, true_or, or_true, false_or, or_false, reduceIte, k1, k2, j1, j2, x0, y0, e1, e2, e8, d1, d2, d8, e, np, eq_true p, decide_false, Bool.false_eq_true]
      rw [p]
    · simp only [xe_29_0, xe_29_1, xe_29_4, xe_29_5, xe_29_8, xe_29_11, xe_29_12, xe_29_15, xe_29_16, xe_29_17, xe_29_20, xe_29_23, xe_29_24, xe_29_27, xe_29_30, xe_29_31 _ (some (vI _)) _ _ _ _ _ _ rfl, xe_29_31 _ (some (vR _)) _ _ _ _ _ _ rfl, xe_29_31 _ none _ _ _ _ _ _ rfl, xe_29_32, xe_29_33, xe_29_36, xe_29_39, xe_29_40, xe_29_43, xe_29_46, xe_29_47 _ _ (some (vI _)) _ _ _ _ _ rfl, xe_29_47 _ _ (some (vR _)) _ _ _ _ _ rfl, xe_29_47 _ _ none _ _ _ _ _ rfl, xe_29_48, xe_29_49, xe_29_50, xe_29_53, xe_29_54, xe_29_55, xe_29_58, xe_29_59, xe_29_62, xe_29_63, xe_29_66, xe_29_69, xe_29_70, xe_29_73, xe_29_74, ite_self, mm_nL_I, mm_nL_R, mm_nL_0, Option.bind_some, Option.bind_none, bnd_ite, Option.toList_some, Option.toList_none, List.cons_append, List.nil_append, mm_cats_nil, mm_cats_I, mm_cats_L, mm_cats_R, if_true, if_false, true_and, and_true, false_and, and_false, not_true_eq_false, not_false_eq_true, Int.reduceLE, Int.reduceLT, Int.reduceEq, Int.reduceNe, Int.reduceNeg, Int.reduceAdd, Int.reduceSub, Int.reduceMul, Nat.reduceAdd, Nat.reduceLeDiff, true_or, or_true, false_or, or_false, reduceIte, k1, k2, j1, j2, x0, y0, e1, e2, e8, d1, d2, d8, e, eq_true p, decide_true]
      rw [p]
