/-! load: the class's offer; both sides -/
def INV (K : Int) (c r : MM) (s : Nat) : Prop := c 45 4 = s ∧ r 149 23 = s ∧ (s : Int) ≤ 40 ∧ (∀ i, 0 ≤ i → i < 7 → c 47 i = r 159 i ∧ 0 ≤ c 47 i ∧ c 47 i ≤ K) ∧ (∀ i, 0 ≤ i → i < (s : Int) → ∃ u, c 46 i = 49 + 2 * u ∧ 0 ≤ u ∧ u < 40 ∧ xm c u (r 157) (sor (r 157) s i)) ∧ Rpl c
def rv (r : MM) (s : Nat) : MM := fun b j => if b = 158 then sor (r 157) s j else r b j
theorem rv_b (r : MM) (s : Nat) (b : Int) (h : ¬ b = 158) : rv r s b = r b := by funext j; unfold rv; rw [if_neg h]
theorem INV.mod {K : Int} {c r : MM} {s : Nat} (h : INV K c r s) : Rmod c (rv r s) := by
  obtain ⟨h1, h2, h3, h4, h5, h6⟩ := h
  unfold Rmod
  rw [rv_b _ _ 149 (by omega), rv_b _ _ 157 (by omega), rv_b _ _ 159 (by omega), h1]
  refine ⟨h2.symm, by omega, h3, fun i i0 i1 => (h4 i i0 i1).1, fun i i0 i1 => ?_⟩
  obtain ⟨u, o1, u0, u1, x⟩ := h5 i i0 i1
  have o := sor_r (r 157) s i i0 i1
  have e : rv r s 158 i = sor (r 157) s i := by unfold rv; rw [if_pos rfl]
  rw [e]
  exact ⟨u, o1, u0, u1, o.1, o.2, x.2.1, x.2.2⟩
section OX
variable {L K : Int} {c r : MM} {s : Nat}
theorem brb_c {t : Int → Int} (h : ct t) : brb t = false := by
  unfold ct at h
  unfold brb
  exact decide_eq_false (by omega)
theorem s_why (hX : SX c) (h : ct (c 48)) (hz' : c 45 3 = hz (c 48)) (hI : INV K c r s) (hr : Qr c r) (hm : Qm c r) : ev 39 0 [some (vR 45), some (vR 16)] [] c (g_1 L) = some (some (vI (wv c r (c 48) s)), c, g_1 L) := by
  have bj : ∀ j, 1 ≤ j → j ≤ 8 → 0 ≤ c 48 j ∧ c 48 j ≤ 100000 := by
    clear hz' hI hr hm
    unfold ct at h
    intro j j0 j1
    have q : j = 1 ∨ j = 2 ∨ j = 3 ∨ j = 4 ∨ j = 5 ∨ j = 6 ∨ j = 7 ∨ j = 8 := by omega
    rcases q with rfl | rfl | rfl | rfl | rfl | rfl | rfl | rfl <;> omega
  have Bk := s_isBroken 48 c (g_1 L) (k_48 L) bj
  rw [brb_c h] at Bk
  have Bk' : ev 68 0 [some (vR 48)] [] c (g_1 L) = some (some (vI 0), c, g_1 L) := Bk
  have h9 : c 48 9 = 0 := by unfold ct at h; omega
  have k0 : 0 ≤ c 48 0 ∧ c 48 0 ≤ 655350 ∧ 0 < c 48 1 + c 48 2 ∧ c 48 1 + c 48 2 ≤ 8190 := by unfold ct at h; omega
  have lr : ev 75 0 [some (vR 48), none] [] c (g_1 L) = some (some (vI (c 48 0 / (c 48 1 + c 48 2))), c, g_1 L) := by
    have w : w32 (c 48 1 + c 48 2) = c 48 1 + c 48 2 := wi32 (by omega) (by omega)
    have wh : ev 70 0 [some (vR 48)] [] c (g_1 L) = some (some (vI (c 48 1 + c 48 2)), c, g_1 L) := by simp only [xe_70_0, xe_70_1, xe_70_4, xe_70_5, xe_70_8, xe_70_9, ite_self, mm_nL_I, mm_nL_R, mm_nL_0, Option.bind_some, Option.bind_none, bnd_ite, Option.toList_some, Option.toList_none, List.cons_append, List.nil_append, mm_cats_nil, mm_cats_I, mm_cats_L, mm_cats_R, if_true, if_false, true_and, and_true, false_and, and_false, not_true_eq_false, not_false_eq_true, Int.reduceLE, Int.reduceLT, Int.reduceEq, Int.reduceNe, Int.reduceNeg, Int.reduceAdd, Int.reduceSub, Int.reduceMul, Nat.reduceAdd, Nat.reduceLeDiff, true_or, or_true, false_or, or_false, reduceIte, k_48, w]
    have g : ¬ c 48 1 + c 48 2 ≤ 0 := by omega
    have nz : ¬ c 48 1 + c 48 2 = 0 := by omega
    have d : mm_div (c 48 0) (c 48 1 + c 48 2) = c 48 0 / (c 48 1 + c 48 2) := nu_div k0.1 (by omega) k0.2.2.1 (by omega)
    simp only [xe_75_0, xe_75_1, xe_75_4 (some (vI _)) _ _ _ _ _ rfl, xe_75_4 (some (vR _)) _ _ _ _ _ rfl, xe_75_4 none _ _ _ _ _ rfl, xe_75_5, xe_75_6, xe_75_9, xe_75_10, xe_75_13, xe_75_14, xe_75_15, xe_75_18, xe_75_19, ite_self, mm_nL_I, mm_nL_R, mm_nL_0, Option.bind_some, Option.bind_none, bnd_ite, Option.toList_some, Option.toList_none, List.cons_append, List.nil_append, mm_cats_nil, mm_cats_I, mm_cats_L, mm_cats_R, if_true, if_false, true_and, and_true, false_and, and_false, not_true_eq_false, not_false_eq_true, Int.reduceLE, Int.reduceLT, Int.reduceEq, Int.reduceNe, Int.reduceNeg, Int.reduceAdd, Int.reduceSub, Int.reduceMul, Nat.reduceAdd, Nat.reduceLeDiff, true_or, or_true, false_or, or_false, reduceIte, k_48, wh, g, nz, d]
  have R := s_inR L (hz (c 48)) (c 48 0 / (c 48 1 + c 48 2)) (c 48 0) c r (sx_16_4 hX) hr
  have F := s_indexOf L (c 48 1) (c 48 5) (hz (c 48)) c (rv r s) hX hI.mod
  have Ft : (c 45 4).toNat = s := by rw [hI.1]; rfl
  rw [rv_b _ _ 157 (by omega), Ft] at F
  have fe : (fun i => isL (r 157) (12 * rv r s 158 i) (c 48 1) (c 48 5) (hz (c 48))) = fun i => isL (r 157) (12 * sor (r 157) s i) (c 48 1) (c 48 5) (hz (c 48)) := by
    funext i; unfold rv; rw [if_pos rfl]
  rw [fe] at F
  have fq := fd_eq (r 157) s (c 48 1) (c 48 5) (hz (c 48))
  have m0 := hm.2.1
  have s4 := hI.1
  have s40 := hI.2.2.1
  have x2 := sx_45_2 hX
  clear Bk hI hm hr h fe Ft
  unfold wv
  generalize hz (c 48) = z at *
  generalize ff (fun i => isL (r 157) (12 * sor (r 157) s i) (c 48 1) (c 48 5) z) 0 s = f1 at *
  by_cases a : ou c z (c 48 0 / (c 48 1 + c 48 2)) (c 48 0) = true
  · rw [if_pos a] at R ⊢
    simp only [xe_39_0, xe_39_1, xe_39_4, xe_39_7, xe_39_10, xe_39_11, xe_39_12, xe_39_13, xe_39_16, xe_39_19, xe_39_22, xe_39_23, xe_39_24, xe_39_25, xe_39_26, xe_39_29, xe_39_30, xe_39_33, xe_39_36, xe_39_37, xe_39_40, xe_39_43, xe_39_46, xe_39_49, xe_39_50, xe_39_51, xe_39_52, xe_39_55, xe_39_58, xe_39_59, xe_39_62, xe_39_65, xe_39_66, xe_39_69, xe_39_72, xe_39_73, xe_39_74, xe_39_75, xe_39_76, xe_39_79, xe_39_82, xe_39_83, xe_39_86, xe_39_89, xe_39_90, xe_39_93, xe_39_96, xe_39_97, xe_39_100, xe_39_101, xe_39_102, xe_39_103, xe_39_106, xe_39_108, xe_39_111, xe_39_113, xe_39_116, xe_39_117, ite_self, mm_nL_I, mm_nL_R, mm_nL_0, Option.bind_some, Option.bind_none, bnd_ite, Option.toList_some, Option.toList_none, List.cons_append, List.nil_append, mm_cats_nil, mm_cats_I, mm_cats_L, mm_cats_R, if_true, if_false, true_and, and_true, false_and, and_false, not_true_eq_false, not_false_eq_true, Int.reduceLE, Int.reduceLT, Int.reduceEq, Int.reduceNe, Int.reduceNeg, Int.reduceAdd, Int.reduceSub, Int.reduceMul, Nat.reduceAdd, Nat.reduceLeDiff, true_or, or_true, false_or, or_false, reduceIte, k_45, k_48, k_16, x2, Bk', h9, hz', lr, R]
  · rw [if_neg a] at R ⊢
    generalize c 48 0 / (c 48 1 + c 48 2) = l at *
    by_cases b : c 16 11 = 0
    · have b' : ¬ (¬ c 16 11 = 0 ∧ c 16 11 < c 48 0) := fun q => q.1 b
      rw [if_neg b']
      by_cases d : ff (fun i => isL (r 157) (12 * i) (c 48 1) (c 48 5) z) 0 s = -1
      · have d' := fq.2 d
        rw [if_pos d]
        by_cases e : (s : Int) = 40
        · have e' : ¬ (s : Int) < 40 := by omega
          rw [if_pos e]
          simp only [xe_39_0, xe_39_1, xe_39_4, xe_39_7, xe_39_10, xe_39_11, xe_39_12, xe_39_13, xe_39_16, xe_39_19, xe_39_22, xe_39_23, xe_39_24, xe_39_25, xe_39_26, xe_39_29, xe_39_30, xe_39_33, xe_39_36, xe_39_37, xe_39_40, xe_39_43, xe_39_46, xe_39_49, xe_39_50, xe_39_51, xe_39_52, xe_39_55, xe_39_58, xe_39_59, xe_39_62, xe_39_65, xe_39_66, xe_39_69, xe_39_72, xe_39_73, xe_39_74, xe_39_75, xe_39_76, xe_39_79, xe_39_82, xe_39_83, xe_39_86, xe_39_89, xe_39_90, xe_39_93, xe_39_96, xe_39_97, xe_39_100, xe_39_101, xe_39_102, xe_39_103, xe_39_106, xe_39_108, xe_39_111, xe_39_113, xe_39_116, xe_39_117, ite_self, mm_nL_I, mm_nL_R, mm_nL_0, Option.bind_some, Option.bind_none, bnd_ite, Option.toList_some, Option.toList_none, List.cons_append, List.nil_append, mm_cats_nil, mm_cats_I, mm_cats_L, mm_cats_R, if_true, if_false, true_and, and_true, false_and, and_false, not_true_eq_false, not_false_eq_true, Int.reduceLE, Int.reduceLT, Int.reduceEq, Int.reduceNe, Int.reduceNeg, Int.reduceAdd, Int.reduceSub, Int.reduceMul, Nat.reduceAdd, Nat.reduceLeDiff, true_or, or_true, false_or, or_false, reduceIte, k_45, k_48, k_16, x2, Bk', h9, hz', lr, R, eq_true b, F, eq_true d', s4, e']
        · have e' : (s : Int) < 40 := by omega
          rw [if_neg e]
          simp only [xe_39_0, xe_39_1, xe_39_4, xe_39_7, xe_39_10, xe_39_11, xe_39_12, xe_39_13, xe_39_16, xe_39_19, xe_39_22, xe_39_23, xe_39_24, xe_39_25, xe_39_26, xe_39_29, xe_39_30, xe_39_33, xe_39_36, xe_39_37, xe_39_40, xe_39_43, xe_39_46, xe_39_49, xe_39_50, xe_39_51, xe_39_52, xe_39_55, xe_39_58, xe_39_59, xe_39_62, xe_39_65, xe_39_66, xe_39_69, xe_39_72, xe_39_73, xe_39_74, xe_39_75, xe_39_76, xe_39_79, xe_39_82, xe_39_83, xe_39_86, xe_39_89, xe_39_90, xe_39_93, xe_39_96, xe_39_97, xe_39_100, xe_39_101, xe_39_102, xe_39_103, xe_39_106, xe_39_108, xe_39_111, xe_39_113, xe_39_116, xe_39_117, ite_self, mm_nL_I, mm_nL_R, mm_nL_0, Option.bind_some, Option.bind_none, bnd_ite, Option.toList_some, Option.toList_none, List.cons_append, List.nil_append, mm_cats_nil, mm_cats_I, mm_cats_L, mm_cats_R, if_true, if_false, true_and, and_true, false_and, and_false, not_true_eq_false, not_false_eq_true, Int.reduceLE, Int.reduceLT, Int.reduceEq, Int.reduceNe, Int.reduceNeg, Int.reduceAdd, Int.reduceSub, Int.reduceMul, Nat.reduceAdd, Nat.reduceLeDiff, true_or, or_true, false_or, or_false, reduceIte, k_45, k_48, k_16, x2, Bk', h9, hz', lr, R, eq_true b, F, eq_true d', s4, e']
      · have d' : ¬ f1 = -1 := fun q => d (fq.1 q)
        rw [if_neg d]
        simp only [xe_39_0, xe_39_1, xe_39_4, xe_39_7, xe_39_10, xe_39_11, xe_39_12, xe_39_13, xe_39_16, xe_39_19, xe_39_22, xe_39_23, xe_39_24, xe_39_25, xe_39_26, xe_39_29, xe_39_30, xe_39_33, xe_39_36, xe_39_37, xe_39_40, xe_39_43, xe_39_46, xe_39_49, xe_39_50, xe_39_51, xe_39_52, xe_39_55, xe_39_58, xe_39_59, xe_39_62, xe_39_65, xe_39_66, xe_39_69, xe_39_72, xe_39_73, xe_39_74, xe_39_75, xe_39_76, xe_39_79, xe_39_82, xe_39_83, xe_39_86, xe_39_89, xe_39_90, xe_39_93, xe_39_96, xe_39_97, xe_39_100, xe_39_101, xe_39_102, xe_39_103, xe_39_106, xe_39_108, xe_39_111, xe_39_113, xe_39_116, xe_39_117, ite_self, mm_nL_I, mm_nL_R, mm_nL_0, Option.bind_some, Option.bind_none, bnd_ite, Option.toList_some, Option.toList_none, List.cons_append, List.nil_append, mm_cats_nil, mm_cats_I, mm_cats_L, mm_cats_R, if_true, if_false, true_and, and_true, false_and, and_false, not_true_eq_false, not_false_eq_true, Int.reduceLE, Int.reduceLT, Int.reduceEq, Int.reduceNe, Int.reduceNeg, Int.reduceAdd, Int.reduceSub, Int.reduceMul, Nat.reduceAdd, Nat.reduceLeDiff, true_or, or_true, false_or, or_false, reduceIte, k_45, k_48, k_16, x2, Bk', h9, hz', lr, R, eq_true b, F, d']
    · by_cases g : c 48 0 ≤ c 16 11
      · have b' : ¬ (¬ c 16 11 = 0 ∧ c 16 11 < c 48 0) := by omega
        rw [if_neg b']
        by_cases d : ff (fun i => isL (r 157) (12 * i) (c 48 1) (c 48 5) z) 0 s = -1
        · have d' := fq.2 d
          rw [if_pos d]
          by_cases e : (s : Int) = 40
          · have e' : ¬ (s : Int) < 40 := by omega
            rw [if_pos e]
            simp only [xe_39_0, xe_39_1, xe_39_4, xe_39_7, xe_39_10, xe_39_11, xe_39_12, xe_39_13, xe_39_16, xe_39_19, xe_39_22, xe_39_23, xe_39_24, xe_39_25, xe_39_26, xe_39_29, xe_39_30, xe_39_33, xe_39_36, xe_39_37, xe_39_40, xe_39_43, xe_39_46, xe_39_49, xe_39_50, xe_39_51, xe_39_52, xe_39_55, xe_39_58, xe_39_59, xe_39_62, xe_39_65, xe_39_66, xe_39_69, xe_39_72, xe_39_73, xe_39_74, xe_39_75, xe_39_76, xe_39_79, xe_39_82, xe_39_83, xe_39_86, xe_39_89, xe_39_90, xe_39_93, xe_39_96, xe_39_97, xe_39_100, xe_39_101, xe_39_102, xe_39_103, xe_39_106, xe_39_108, xe_39_111, xe_39_113, xe_39_116, xe_39_117, ite_self, mm_nL_I, mm_nL_R, mm_nL_0, Option.bind_some, Option.bind_none, bnd_ite, Option.toList_some, Option.toList_none, List.cons_append, List.nil_append, mm_cats_nil, mm_cats_I, mm_cats_L, mm_cats_R, if_true, if_false, true_and, and_true, false_and, and_false, not_true_eq_false, not_false_eq_true, Int.reduceLE, Int.reduceLT, Int.reduceEq, Int.reduceNe, Int.reduceNeg, Int.reduceAdd, Int.reduceSub, Int.reduceMul, Nat.reduceAdd, Nat.reduceLeDiff, true_or, or_true, false_or, or_false, reduceIte, k_45, k_48, k_16, x2, Bk', h9, hz', lr, R, b, g, F, eq_true d', s4, e']
          · have e' : (s : Int) < 40 := by omega
            rw [if_neg e]
            simp only [xe_39_0, xe_39_1, xe_39_4, xe_39_7, xe_39_10, xe_39_11, xe_39_12, xe_39_13, xe_39_16, xe_39_19, xe_39_22, xe_39_23, xe_39_24, xe_39_25, xe_39_26, xe_39_29, xe_39_30, xe_39_33, xe_39_36, xe_39_37, xe_39_40, xe_39_43, xe_39_46, xe_39_49, xe_39_50, xe_39_51, xe_39_52, xe_39_55, xe_39_58, xe_39_59, xe_39_62, xe_39_65, xe_39_66, xe_39_69, xe_39_72, xe_39_73, xe_39_74, xe_39_75, xe_39_76, xe_39_79, xe_39_82, xe_39_83, xe_39_86, xe_39_89, xe_39_90, xe_39_93, xe_39_96, xe_39_97, xe_39_100, xe_39_101, xe_39_102, xe_39_103, xe_39_106, xe_39_108, xe_39_111, xe_39_113, xe_39_116, xe_39_117, ite_self, mm_nL_I, mm_nL_R, mm_nL_0, Option.bind_some, Option.bind_none, bnd_ite, Option.toList_some, Option.toList_none, List.cons_append, List.nil_append, mm_cats_nil, mm_cats_I, mm_cats_L, mm_cats_R, if_true, if_false, true_and, and_true, false_and, and_false, not_true_eq_false, not_false_eq_true, Int.reduceLE, Int.reduceLT, Int.reduceEq, Int.reduceNe, Int.reduceNeg, Int.reduceAdd, Int.reduceSub, Int.reduceMul, Nat.reduceAdd, Nat.reduceLeDiff, true_or, or_true, false_or, or_false, reduceIte, k_45, k_48, k_16, x2, Bk', h9, hz', lr, R, b, g, F, eq_true d', s4, e']
        · have d' : ¬ f1 = -1 := fun q => d (fq.1 q)
          rw [if_neg d]
          simp only [xe_39_0, xe_39_1, xe_39_4, xe_39_7, xe_39_10, xe_39_11, xe_39_12, xe_39_13, xe_39_16, xe_39_19, xe_39_22, xe_39_23, xe_39_24, xe_39_25, xe_39_26, xe_39_29, xe_39_30, xe_39_33, xe_39_36, xe_39_37, xe_39_40, xe_39_43, xe_39_46, xe_39_49, xe_39_50, xe_39_51, xe_39_52, xe_39_55, xe_39_58, xe_39_59, xe_39_62, xe_39_65, xe_39_66, xe_39_69, xe_39_72, xe_39_73, xe_39_74, xe_39_75, xe_39_76, xe_39_79, xe_39_82, xe_39_83, xe_39_86, xe_39_89, xe_39_90, xe_39_93, xe_39_96, xe_39_97, xe_39_100, xe_39_101, xe_39_102, xe_39_103, xe_39_106, xe_39_108, xe_39_111, xe_39_113, xe_39_116, xe_39_117, ite_self, mm_nL_I, mm_nL_R, mm_nL_0, Option.bind_some, Option.bind_none, bnd_ite, Option.toList_some, Option.toList_none, List.cons_append, List.nil_append, mm_cats_nil, mm_cats_I, mm_cats_L, mm_cats_R, if_true, if_false, true_and, and_true, false_and, and_false, not_true_eq_false, not_false_eq_true, Int.reduceLE, Int.reduceLT, Int.reduceEq, Int.reduceNe, Int.reduceNeg, Int.reduceAdd, Int.reduceSub, Int.reduceMul, Nat.reduceAdd, Nat.reduceLeDiff, true_or, or_true, false_or, or_false, reduceIte, k_45, k_48, k_16, x2, Bk', h9, hz', lr, R, b, g, F, d']
      · have b' : (¬ c 16 11 = 0 ∧ c 16 11 < c 48 0) := by omega
        rw [if_pos b']
        simp only [xe_39_0, xe_39_1, xe_39_4, xe_39_7, xe_39_10, xe_39_11, xe_39_12, xe_39_13, xe_39_16, xe_39_19, xe_39_22, xe_39_23, xe_39_24, xe_39_25, xe_39_26, xe_39_29, xe_39_30, xe_39_33, xe_39_36, xe_39_37, xe_39_40, xe_39_43, xe_39_46, xe_39_49, xe_39_50, xe_39_51, xe_39_52, xe_39_55, xe_39_58, xe_39_59, xe_39_62, xe_39_65, xe_39_66, xe_39_69, xe_39_72, xe_39_73, xe_39_74, xe_39_75, xe_39_76, xe_39_79, xe_39_82, xe_39_83, xe_39_86, xe_39_89, xe_39_90, xe_39_93, xe_39_96, xe_39_97, xe_39_100, xe_39_101, xe_39_102, xe_39_103, xe_39_106, xe_39_108, xe_39_111, xe_39_113, xe_39_116, xe_39_117, ite_self, mm_nL_I, mm_nL_R, mm_nL_0, Option.bind_some, Option.bind_none, bnd_ite, Option.toList_some, Option.toList_none, List.cons_append, List.nil_append, mm_cats_nil, mm_cats_I, mm_cats_L, mm_cats_R, if_true, if_false, true_and, and_true, false_and, and_false, not_true_eq_false, not_false_eq_true, Int.reduceLE, Int.reduceLT, Int.reduceEq, Int.reduceNe, Int.reduceNeg, Int.reduceAdd, Int.reduceSub, Int.reduceMul, Nat.reduceAdd, Nat.reduceLeDiff, true_or, or_true, false_or, or_false, reduceIte, k_45, k_48, k_16, x2, Bk', h9, hz', lr, R, b, g]
/-- what an offer leaves as it is -/
def gC (c c' : MM) : Prop := (∀ a, ¬ (45 ≤ a ∧ a ≤ 128) → c' a = c a) ∧ (∀ k, k ≤ 2 → c' 45 k = c 45 k) ∧ (∀ j, 0 ≤ j → j < 40 → c' (49 + 2 * j) 0 = c (49 + 2 * j) 0)
def gR (r r' : MM) : Prop := (∀ a, ¬ (a = 149 ∨ 157 ≤ a ∧ a ≤ 159 ∨ a = 164) → r' a = r a) ∧ (∀ k, ¬ k = 23 → r' 149 k = r 149 k)
theorem gC.rf (c : MM) : gC c c := ⟨fun _ _ => rfl, fun _ _ => rfl, fun _ _ _ => rfl⟩
theorem gR.rf (c : MM) : gR c c := ⟨fun _ _ => rfl, fun _ _ => rfl⟩
theorem gC.tr {a b d : MM} (h : gC a b) (h' : gC b d) : gC a d := ⟨fun x hx => by rw [h'.1 x hx, h.1 x hx], fun x hx => by rw [h'.2.1 x hx, h.2.1 x hx], fun j j0 j1 => by rw [h'.2.2 j j0 j1, h.2.2 j j0 j1]⟩
theorem gR.tr {a b d : MM} (h : gR a b) (h' : gR b d) : gR a d := ⟨fun x hx => by rw [h'.1 x hx, h.1 x hx], fun x hx => by rw [h'.2 x hx, h.2 x hx]⟩
theorem SX.g {c c' : MM} (h : SX c) (g : gC c c') : SX c' := by
  obtain ⟨h1, h2, h3⟩ := h
  refine ⟨fun q hq => ?_, fun k k0 k1 => ?_, fun j j0 j1 => ?_⟩
  · rw [← h1 q hq]
    have t : ∀ x ∈ SXl, (x.1 = 45 ∧ x.2.1 ≤ 2) ∨ ¬ (45 ≤ x.1 ∧ x.1 ≤ 128) := by decide
    rcases t q hq with e | e
    · rw [e.1]; exact g.2.1 _ e.2
    · rw [g.1 _ e]
  · rw [g.1 19 (by omega)]; exact h2 k k0 k1
  · rw [g.2.2 j j0 j1]; exact h3 j j0 j1
theorem SM.g {r r' : MM} (h : SM r) (g : gR r r') : SM r' := by
  intro q hq
  have : ∀ q ∈ SMl, q.1 = 149 ∧ ¬ q.2.1 = 23 := by decide
  have t := this q hq
  rw [← h q hq, t.1]; exact g.2 _ t.2
end OX
