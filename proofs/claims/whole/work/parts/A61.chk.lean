/-! load: the reference's checks -/
def im (r : MM) (p : Int × Int) : MM := mset (mset r 149 7 p.1) 149 8 p.2
theorem im_b (r : MM) (p : Int × Int) (b : Int) (h : ¬ b = 149) : im r p b = r b := by unfold im; rw [ms_row _ _ _ _ _ h, ms_row _ _ _ _ _ h]
theorem im_k (r : MM) (p : Int × Int) (k : Int) (h : ¬ k = 7) (h' : ¬ k = 8) : im r p 149 k = r 149 k := by unfold im; rw [ms_nk _ _ _ _ _ _ h', ms_nk _ _ _ _ _ _ h]
theorem im_7 (r : MM) (p : Int × Int) : im r p 149 7 = p.1 := by unfold im; rw [ms_nk _ _ _ _ _ _ (by omega), ms_eq]
theorem im_8 (r : MM) (p : Int × Int) : im r p 149 8 = p.2 := by unfold im; rw [ms_eq]
theorem im_u (r : MM) (p : Int × Int) (x y : Int) : mset (mset (im r p) 149 7 x) 149 8 y = im r (x, y) := by
  funext b j; unfold im mset; (repeat' split) <;> first | rfl | (exfalso; omega)
theorem s_fls (L k x : Int) (r : MM) (p : Int × Int) : ev 153 0 [some (vR 149), some (vI k), some (vI x)] [] (im r p) (g_1 L) = some (none, im r (nt p k x), g_1 L) := by
  unfold nt
  by_cases h : p.1 = 0
  · simp only [xe_153_0, xe_153_1, xe_153_4, xe_153_7, xe_153_8, xe_153_9, xe_153_10, xe_153_13, xe_153_14, xe_153_15, xe_153_18, ite_self, mm_nL_I, mm_nL_R, mm_nL_0, Option.bind_some, Option.bind_none, bnd_ite, Option.toList_some, Option.toList_none, List.cons_append, List.nil_append, mm_cats_nil, mm_cats_I, mm_cats_L, mm_cats_R, if_true, if_false, true_and, and_true, false_and, and_false, not_true_eq_false, not_false_eq_true, Int.reduceLE, Int.reduceLT, Int.reduceEq, Int.reduceNe, Int.reduceNeg, Int.reduceAdd, Int.reduceSub, Int.reduceMul, Nat.reduceAdd, Nat.reduceLeDiff, true_or, or_true, false_or, or_false, reduceIte, k_149, im_7, im_u, h]
  · simp only [xe_153_0, xe_153_1, xe_153_4, xe_153_7, xe_153_8, xe_153_9, xe_153_10, xe_153_13, xe_153_14, xe_153_15, xe_153_18, ite_self, mm_nL_I, mm_nL_R, mm_nL_0, Option.bind_some, Option.bind_none, bnd_ite, Option.toList_some, Option.toList_none, List.cons_append, List.nil_append, mm_cats_nil, mm_cats_I, mm_cats_L, mm_cats_R, if_true, if_false, true_and, and_true, false_and, and_false, not_true_eq_false, not_false_eq_true, Int.reduceLE, Int.reduceLT, Int.reduceEq, Int.reduceNe, Int.reduceNeg, Int.reduceAdd, Int.reduceSub, Int.reduceMul, Nat.reduceAdd, Nat.reduceLeDiff, true_or, or_true, false_or, or_false, reduceIte, k_149, im_7, h]
section JJ
variable {L n : Int} {r : MM} {F : Int → Int}
/-- the reference's bytes are F -/
def JB (r : MM) (n : Int) (F : Int → Int) : Prop := r 149 2 = 151 ∧ r 149 5 = n ∧ n ≤ 520 ∧ ∀ i, 0 ≤ i → i < n → r 151 i = F i ∧ 0 ≤ F i ∧ F i < 256
theorem jb_sum (h : JB r n F) (p : Int × Int) (b : Int) (b0 : 0 ≤ b) (b1 : 128 * b + 128 ≤ n) : ev 154 0 [some (vR 149), some (vI b), none, none] [] (im r p) (g_1 L) = some (some (vI (sm F (128 * b) 128)), im r p, g_1 L) := by
  obtain ⟨h0, h1, h2, h3⟩ := h
  have := s_sumM L b n (im r p) (by rw [im_k _ _ _ (by omega) (by omega)]; exact h0) b0 b1 h2 (by rw [im_b _ _ 151 (by omega)]; exact fun i i0 i1 => by rw [(h3 i i0 i1).1]; exact (h3 i i0 i1).2)
  rw [im_b _ _ 151 (by omega), sm_cg (r 151) F (128 * b) 128 (fun j j0 j1 => (h3 _ (by omega) (by omega)).1)] at this
  exact this
theorem sm_b (h : JB r n F) (b : Int) (b0 : 0 ≤ b) (b1 : 128 * b + 128 ≤ n) : 0 ≤ sm F (128 * b) 128 ∧ sm F (128 * b) 128 < 2147483648 := by
  have := sm_bd F (128 * b) 128 (fun j h0 h1 => (h.2.2.2 _ (by omega) (by omega)).2)
  omega
theorem m_hd8 (h : JB r n F) (hn : 128 ≤ n) (B : Int) : ∀ (m : Nat) (k : Int) (p : Int × Int), 0 ≤ k → k + m = 8 → ev 155 44 [some (vR 149), some (vI B), some (vI k)] [] (im r p) (g_1 L) = ev 155 88 [some (vR 149), some (vI B), some (vI 8)] [] (im r (h8 F m k p)) (g_1 L) := by
  intro m
  induction m with
  | zero =>
    intro k p k0 hk
    have e : k = 8 := by omega
    subst e
    simp only [xe_155_44, xe_155_45, xe_155_47, ite_self, mm_nL_I, mm_nL_R, mm_nL_0, Option.bind_some, Option.bind_none, bnd_ite, Option.toList_some, Option.toList_none, List.cons_append, List.nil_append, mm_cats_nil, mm_cats_I, mm_cats_L, mm_cats_R, if_true, if_false, true_and, and_true, false_and, and_false, not_true_eq_false, not_false_eq_true, Int.reduceLE, Int.reduceLT, Int.reduceEq, Int.reduceNe, Int.reduceNeg, Int.reduceAdd, Int.reduceSub, Int.reduceMul, Nat.reduceAdd, Nat.reduceLeDiff, true_or, or_true, false_or, or_false, reduceIte, h8]
  | succ m ih =>
    intro k p k0 hk
    have g : ¬ 8 ≤ k := by omega
    have g5 : k < 520 := by omega
    have w : w32 (k + 1) = k + 1 := wi32 (by omega) (by omega)
    have N := fun k x p => s_fls L k x r p
    have i2 : ∀ p, im r p 149 2 = 151 := fun p => by rw [im_k _ _ _ (by omega) (by omega)]; exact h.1
    have i1 : ∀ p, im r p 151 k = F k := fun p => by rw [im_b _ _ _ (by omega)]; exact (h.2.2.2 k k0 (by omega)).1
    rw [xe_155_44]
    simp only [h8]
    unfold hb8
    by_cases e0 : k = 0
    · have a0 : (k = 0 ∨ k = 7) := Or.inl e0
      rw [if_pos a0]
      by_cases q : F k = 0
      · rw [if_pos q]
        have q' := eq_true q
        simp only [xe_155_45, xe_155_47, xe_155_50, xe_155_51, xe_155_54, xe_155_55, xe_155_56, xe_155_57, xe_155_60, xe_155_61, xe_155_63, xe_155_66, xe_155_67, xe_155_70, xe_155_73, xe_155_76, xe_155_77, xe_155_78, xe_155_79, xe_155_82 _ (some (vI _)) _ _ _ _ rfl, xe_155_82 _ (some (vR _)) _ _ _ _ rfl, xe_155_82 _ none _ _ _ _ rfl, xe_155_85, ite_self, mm_nL_I, mm_nL_R, mm_nL_0, Option.bind_some, Option.bind_none, bnd_ite, Option.toList_some, Option.toList_none, List.cons_append, List.nil_append, mm_cats_nil, mm_cats_I, mm_cats_L, mm_cats_R, if_true, if_false, true_and, and_true, false_and, and_false, not_true_eq_false, not_false_eq_true, Int.reduceLE, Int.reduceLT, Int.reduceEq, Int.reduceNe, Int.reduceNeg, Int.reduceAdd, Int.reduceSub, Int.reduceMul, Nat.reduceAdd, Nat.reduceLeDiff, true_or, or_true, false_or, or_false, reduceIte, k_149, k_151, l_151, i2, i1, N, g, g5, k0, w, eq_true e0, q']
        exact ih (k + 1) p (by omega) (by omega)
      · rw [if_neg q]
        simp only [xe_155_45, xe_155_47, xe_155_50, xe_155_51, xe_155_54, xe_155_55, xe_155_56, xe_155_57, xe_155_60, xe_155_61, xe_155_63, xe_155_66, xe_155_67, xe_155_70, xe_155_73, xe_155_76, xe_155_77, xe_155_78, xe_155_79, xe_155_82 _ (some (vI _)) _ _ _ _ rfl, xe_155_82 _ (some (vR _)) _ _ _ _ rfl, xe_155_82 _ none _ _ _ _ rfl, xe_155_85, ite_self, mm_nL_I, mm_nL_R, mm_nL_0, Option.bind_some, Option.bind_none, bnd_ite, Option.toList_some, Option.toList_none, List.cons_append, List.nil_append, mm_cats_nil, mm_cats_I, mm_cats_L, mm_cats_R, if_true, if_false, true_and, and_true, false_and, and_false, not_true_eq_false, not_false_eq_true, Int.reduceLE, Int.reduceLT, Int.reduceEq, Int.reduceNe, Int.reduceNeg, Int.reduceAdd, Int.reduceSub, Int.reduceMul, Nat.reduceAdd, Nat.reduceLeDiff, true_or, or_true, false_or, or_false, reduceIte, k_149, k_151, l_151, i2, i1, N, g, g5, k0, w, eq_true e0, q]
        exact ih (k + 1) _ (by omega) (by omega)
    · by_cases e7 : k = 7
      · have a0 : (k = 0 ∨ k = 7) := Or.inr e7
        rw [if_pos a0]
        by_cases q : F k = 0
        · rw [if_pos q]
          have q' := eq_true q
          simp only [xe_155_45, xe_155_47, xe_155_50, xe_155_51, xe_155_54, xe_155_55, xe_155_56, xe_155_57, xe_155_60, xe_155_61, xe_155_63, xe_155_66, xe_155_67, xe_155_70, xe_155_73, xe_155_76, xe_155_77, xe_155_78, xe_155_79, xe_155_82 _ (some (vI _)) _ _ _ _ rfl, xe_155_82 _ (some (vR _)) _ _ _ _ rfl, xe_155_82 _ none _ _ _ _ rfl, xe_155_85, ite_self, mm_nL_I, mm_nL_R, mm_nL_0, Option.bind_some, Option.bind_none, bnd_ite, Option.toList_some, Option.toList_none, List.cons_append, List.nil_append, mm_cats_nil, mm_cats_I, mm_cats_L, mm_cats_R, if_true, if_false, true_and, and_true, false_and, and_false, not_true_eq_false, not_false_eq_true, Int.reduceLE, Int.reduceLT, Int.reduceEq, Int.reduceNe, Int.reduceNeg, Int.reduceAdd, Int.reduceSub, Int.reduceMul, Nat.reduceAdd, Nat.reduceLeDiff, true_or, or_true, false_or, or_false, reduceIte, k_149, k_151, l_151, i2, i1, N, g, g5, k0, w, e0, eq_true e7, q']
          exact ih (k + 1) p (by omega) (by omega)
        · rw [if_neg q]
          simp only [xe_155_45, xe_155_47, xe_155_50, xe_155_51, xe_155_54, xe_155_55, xe_155_56, xe_155_57, xe_155_60, xe_155_61, xe_155_63, xe_155_66, xe_155_67, xe_155_70, xe_155_73, xe_155_76, xe_155_77, xe_155_78, xe_155_79, xe_155_82 _ (some (vI _)) _ _ _ _ rfl, xe_155_82 _ (some (vR _)) _ _ _ _ rfl, xe_155_82 _ none _ _ _ _ rfl, xe_155_85, ite_self, mm_nL_I, mm_nL_R, mm_nL_0, Option.bind_some, Option.bind_none, bnd_ite, Option.toList_some, Option.toList_none, List.cons_append, List.nil_append, mm_cats_nil, mm_cats_I, mm_cats_L, mm_cats_R, if_true, if_false, true_and, and_true, false_and, and_false, not_true_eq_false, not_false_eq_true, Int.reduceLE, Int.reduceLT, Int.reduceEq, Int.reduceNe, Int.reduceNeg, Int.reduceAdd, Int.reduceSub, Int.reduceMul, Nat.reduceAdd, Nat.reduceLeDiff, true_or, or_true, false_or, or_false, reduceIte, k_149, k_151, l_151, i2, i1, N, g, g5, k0, w, e0, eq_true e7, q]
          exact ih (k + 1) _ (by omega) (by omega)
      · have a0 : ¬ (k = 0 ∨ k = 7) := by omega
        rw [if_neg a0]
        by_cases q : F k = 255
        · rw [if_pos q]
          have q' := eq_true q
          simp only [xe_155_45, xe_155_47, xe_155_50, xe_155_51, xe_155_54, xe_155_55, xe_155_56, xe_155_57, xe_155_60, xe_155_61, xe_155_63, xe_155_66, xe_155_67, xe_155_70, xe_155_73, xe_155_76, xe_155_77, xe_155_78, xe_155_79, xe_155_82 _ (some (vI _)) _ _ _ _ rfl, xe_155_82 _ (some (vR _)) _ _ _ _ rfl, xe_155_82 _ none _ _ _ _ rfl, xe_155_85, ite_self, mm_nL_I, mm_nL_R, mm_nL_0, Option.bind_some, Option.bind_none, bnd_ite, Option.toList_some, Option.toList_none, List.cons_append, List.nil_append, mm_cats_nil, mm_cats_I, mm_cats_L, mm_cats_R, if_true, if_false, true_and, and_true, false_and, and_false, not_true_eq_false, not_false_eq_true, Int.reduceLE, Int.reduceLT, Int.reduceEq, Int.reduceNe, Int.reduceNeg, Int.reduceAdd, Int.reduceSub, Int.reduceMul, Nat.reduceAdd, Nat.reduceLeDiff, true_or, or_true, false_or, or_false, reduceIte, k_149, k_151, l_151, i2, i1, N, g, g5, k0, w, e0, e7, q']
          exact ih (k + 1) p (by omega) (by omega)
        · rw [if_neg q]
          simp only [xe_155_45, xe_155_47, xe_155_50, xe_155_51, xe_155_54, xe_155_55, xe_155_56, xe_155_57, xe_155_60, xe_155_61, xe_155_63, xe_155_66, xe_155_67, xe_155_70, xe_155_73, xe_155_76, xe_155_77, xe_155_78, xe_155_79, xe_155_82 _ (some (vI _)) _ _ _ _ rfl, xe_155_82 _ (some (vR _)) _ _ _ _ rfl, xe_155_82 _ none _ _ _ _ rfl, xe_155_85, ite_self, mm_nL_I, mm_nL_R, mm_nL_0, Option.bind_some, Option.bind_none, bnd_ite, Option.toList_some, Option.toList_none, List.cons_append, List.nil_append, mm_cats_nil, mm_cats_I, mm_cats_L, mm_cats_R, if_true, if_false, true_and, and_true, false_and, and_false, not_true_eq_false, not_false_eq_true, Int.reduceLE, Int.reduceLT, Int.reduceEq, Int.reduceNe, Int.reduceNeg, Int.reduceAdd, Int.reduceSub, Int.reduceMul, Nat.reduceAdd, Nat.reduceLeDiff, true_or, or_true, false_or, or_false, reduceIte, k_149, k_151, l_151, i2, i1, N, g, g5, k0, w, e0, e7, q]
          exact ih (k + 1) _ (by omega) (by omega)
theorem m_blk (h : JB r n F) (B : Int) (hB : n = 128 * B) (hB4 : B ≤ 4) : ∀ (m : Nat) (b : Int) (p : Int × Int), 0 ≤ b → b + m = B → ev 155 90 [some (vR 149), some (vI B), some (vI b)] [] (im r p) (g_1 L) = ev 155 154 [some (vR 149), some (vI B), some (vI B)] [] (im r (blk F m b p)) (g_1 L) := by
  intro m
  induction m with
  | zero =>
    intro b p b0 hb
    have e : b = B := by omega
    subst e
    simp only [xe_155_90, xe_155_91, xe_155_92, ite_self, mm_nL_I, mm_nL_R, mm_nL_0, Option.bind_some, Option.bind_none, bnd_ite, Option.toList_some, Option.toList_none, List.cons_append, List.nil_append, mm_cats_nil, mm_cats_I, mm_cats_L, mm_cats_R, if_true, if_false, true_and, and_true, false_and, and_false, not_true_eq_false, not_false_eq_true, Int.reduceLE, Int.reduceLT, Int.reduceEq, Int.reduceNe, Int.reduceNeg, Int.reduceAdd, Int.reduceSub, Int.reduceMul, Nat.reduceAdd, Nat.reduceLeDiff, true_or, or_true, false_or, or_false, reduceIte, Int.le_refl, blk]
  | succ m ih =>
    intro b p b0 hb
    have g : ¬ B ≤ b := by omega
    have w : w32 (b + 1) = b + 1 := wi32 (by omega) (by omega)
    have w1 : w32 (128 * b) = 128 * b := wi32 (by omega) (by omega)
    have w2 : w32 (128 * b + 127) = 128 * b + 127 := wi32 (by omega) (by omega)
    have N := fun k x p => s_fls L k x r p
    have S := fun p => jb_sum (L := L) h p b b0 (by omega)
    have sb := sm_b h b b0 (by omega)
    have d : mm_rem (sm F (128 * b) 128) 256 = sm F (128 * b) 128 % 256 := nu_rem sb.1 sb.2 (by omega) (by omega)
    have i2 : ∀ p, im r p 149 2 = 151 := fun p => by rw [im_k _ _ _ (by omega) (by omega)]; exact h.1
    have i1 : ∀ p, im r p 151 (128 * b) = F (128 * b) := fun p => by rw [im_b _ _ _ (by omega)]; exact (h.2.2.2 _ (by omega) (by omega)).1
    have k0 : 0 ≤ 128 * b := by omega
    have k1 : 128 * b < 520 := by omega
    rw [xe_155_90]
    simp only [blk]
    unfold bs1 bh1
    by_cases e : b ≤ 0
    · rw [if_pos e]
      by_cases q : sm F (128 * b) 128 % 256 = 0
      · simp only [xe_155_91, xe_155_92, xe_155_95, xe_155_96, xe_155_99, xe_155_100, xe_155_103, xe_155_106, xe_155_107, xe_155_108, xe_155_109, xe_155_110, xe_155_113, xe_155_114, xe_155_115, xe_155_118, xe_155_119, xe_155_120, xe_155_123, xe_155_124, xe_155_125, xe_155_128, xe_155_131, xe_155_132, xe_155_135, xe_155_136, xe_155_137, xe_155_140, xe_155_141, xe_155_142, xe_155_144, xe_155_145, xe_155_148 _ (some (vI _)) _ _ _ _ rfl, xe_155_148 _ (some (vR _)) _ _ _ _ rfl, xe_155_148 _ none _ _ _ _ rfl, xe_155_151, ite_self, mm_nL_I, mm_nL_R, mm_nL_0, Option.bind_some, Option.bind_none, bnd_ite, Option.toList_some, Option.toList_none, List.cons_append, List.nil_append, mm_cats_nil, mm_cats_I, mm_cats_L, mm_cats_R, if_true, if_false, true_and, and_true, false_and, and_false, not_true_eq_false, not_false_eq_true, Int.reduceLE, Int.reduceLT, Int.reduceEq, Int.reduceNe, Int.reduceNeg, Int.reduceAdd, Int.reduceSub, Int.reduceMul, Nat.reduceAdd, Nat.reduceLeDiff, true_or, or_true, false_or, or_false, reduceIte, k_149, k_151, l_151, i2, i1, N, S, d, g, w, w1, w2, e, q]
        exact ih (b + 1) _ (by omega) (by omega)
      · simp only [xe_155_91, xe_155_92, xe_155_95, xe_155_96, xe_155_99, xe_155_100, xe_155_103, xe_155_106, xe_155_107, xe_155_108, xe_155_109, xe_155_110, xe_155_113, xe_155_114, xe_155_115, xe_155_118, xe_155_119, xe_155_120, xe_155_123, xe_155_124, xe_155_125, xe_155_128, xe_155_131, xe_155_132, xe_155_135, xe_155_136, xe_155_137, xe_155_140, xe_155_141, xe_155_142, xe_155_144, xe_155_145, xe_155_148 _ (some (vI _)) _ _ _ _ rfl, xe_155_148 _ (some (vR _)) _ _ _ _ rfl, xe_155_148 _ none _ _ _ _ rfl, xe_155_151, ite_self, mm_nL_I, mm_nL_R, mm_nL_0, Option.bind_some, Option.bind_none, bnd_ite, Option.toList_some, Option.toList_none, List.cons_append, List.nil_append, mm_cats_nil, mm_cats_I, mm_cats_L, mm_cats_R, if_true, if_false, true_and, and_true, false_and, and_false, not_true_eq_false, not_false_eq_true, Int.reduceLE, Int.reduceLT, Int.reduceEq, Int.reduceNe, Int.reduceNeg, Int.reduceAdd, Int.reduceSub, Int.reduceMul, Nat.reduceAdd, Nat.reduceLeDiff, true_or, or_true, false_or, or_false, reduceIte, k_149, k_151, l_151, i2, i1, N, S, d, g, w, w1, w2, e, q]
        exact ih (b + 1) _ (by omega) (by omega)
    · rw [if_neg e]
      by_cases f : F (128 * b) = 2
      · have f' := eq_true f
        by_cases q : sm F (128 * b) 128 % 256 = 0
        · simp only [xe_155_91, xe_155_92, xe_155_95, xe_155_96, xe_155_99, xe_155_100, xe_155_103, xe_155_106, xe_155_107, xe_155_108, xe_155_109, xe_155_110, xe_155_113, xe_155_114, xe_155_115, xe_155_118, xe_155_119, xe_155_120, xe_155_123, xe_155_124, xe_155_125, xe_155_128, xe_155_131, xe_155_132, xe_155_135, xe_155_136, xe_155_137, xe_155_140, xe_155_141, xe_155_142, xe_155_144, xe_155_145, xe_155_148 _ (some (vI _)) _ _ _ _ rfl, xe_155_148 _ (some (vR _)) _ _ _ _ rfl, xe_155_148 _ none _ _ _ _ rfl, xe_155_151, ite_self, mm_nL_I, mm_nL_R, mm_nL_0, Option.bind_some, Option.bind_none, bnd_ite, Option.toList_some, Option.toList_none, List.cons_append, List.nil_append, mm_cats_nil, mm_cats_I, mm_cats_L, mm_cats_R, if_true, if_false, true_and, and_true, false_and, and_false, not_true_eq_false, not_false_eq_true, Int.reduceLE, Int.reduceLT, Int.reduceEq, Int.reduceNe, Int.reduceNeg, Int.reduceAdd, Int.reduceSub, Int.reduceMul, Nat.reduceAdd, Nat.reduceLeDiff, true_or, or_true, false_or, or_false, reduceIte, k_149, k_151, l_151, i2, i1, N, S, d, g, w, w1, w2, e, q, f', k0, k1]
          exact ih (b + 1) _ (by omega) (by omega)
        · simp only [xe_155_91, xe_155_92, xe_155_95, xe_155_96, xe_155_99, xe_155_100, xe_155_103, xe_155_106, xe_155_107, xe_155_108, xe_155_109, xe_155_110, xe_155_113, xe_155_114, xe_155_115, xe_155_118, xe_155_119, xe_155_120, xe_155_123, xe_155_124, xe_155_125, xe_155_128, xe_155_131, xe_155_132, xe_155_135, xe_155_136, xe_155_137, xe_155_140, xe_155_141, xe_155_142, xe_155_144, xe_155_145, xe_155_148 _ (some (vI _)) _ _ _ _ rfl, xe_155_148 _ (some (vR _)) _ _ _ _ rfl, xe_155_148 _ none _ _ _ _ rfl, xe_155_151, ite_self, mm_nL_I, mm_nL_R, mm_nL_0, Option.bind_some, Option.bind_none, bnd_ite, Option.toList_some, Option.toList_none, List.cons_append, List.nil_append, mm_cats_nil, mm_cats_I, mm_cats_L, mm_cats_R, if_true, if_false, true_and, and_true, false_and, and_false, not_true_eq_false, not_false_eq_true, Int.reduceLE, Int.reduceLT, Int.reduceEq, Int.reduceNe, Int.reduceNeg, Int.reduceAdd, Int.reduceSub, Int.reduceMul, Nat.reduceAdd, Nat.reduceLeDiff, true_or, or_true, false_or, or_false, reduceIte, k_149, k_151, l_151, i2, i1, N, S, d, g, w, w1, w2, e, q, f', k0, k1]
          exact ih (b + 1) _ (by omega) (by omega)
      · by_cases q : sm F (128 * b) 128 % 256 = 0
        · simp only [xe_155_91, xe_155_92, xe_155_95, xe_155_96, xe_155_99, xe_155_100, xe_155_103, xe_155_106, xe_155_107, xe_155_108, xe_155_109, xe_155_110, xe_155_113, xe_155_114, xe_155_115, xe_155_118, xe_155_119, xe_155_120, xe_155_123, xe_155_124, xe_155_125, xe_155_128, xe_155_131, xe_155_132, xe_155_135, xe_155_136, xe_155_137, xe_155_140, xe_155_141, xe_155_142, xe_155_144, xe_155_145, xe_155_148 _ (some (vI _)) _ _ _ _ rfl, xe_155_148 _ (some (vR _)) _ _ _ _ rfl, xe_155_148 _ none _ _ _ _ rfl, xe_155_151, ite_self, mm_nL_I, mm_nL_R, mm_nL_0, Option.bind_some, Option.bind_none, bnd_ite, Option.toList_some, Option.toList_none, List.cons_append, List.nil_append, mm_cats_nil, mm_cats_I, mm_cats_L, mm_cats_R, if_true, if_false, true_and, and_true, false_and, and_false, not_true_eq_false, not_false_eq_true, Int.reduceLE, Int.reduceLT, Int.reduceEq, Int.reduceNe, Int.reduceNeg, Int.reduceAdd, Int.reduceSub, Int.reduceMul, Nat.reduceAdd, Nat.reduceLeDiff, true_or, or_true, false_or, or_false, reduceIte, k_149, k_151, l_151, i2, i1, N, S, d, g, w, w1, w2, e, q, f, k0, k1]
          exact ih (b + 1) _ (by omega) (by omega)
        · simp only [xe_155_91, xe_155_92, xe_155_95, xe_155_96, xe_155_99, xe_155_100, xe_155_103, xe_155_106, xe_155_107, xe_155_108, xe_155_109, xe_155_110, xe_155_113, xe_155_114, xe_155_115, xe_155_118, xe_155_119, xe_155_120, xe_155_123, xe_155_124, xe_155_125, xe_155_128, xe_155_131, xe_155_132, xe_155_135, xe_155_136, xe_155_137, xe_155_140, xe_155_141, xe_155_142, xe_155_144, xe_155_145, xe_155_148 _ (some (vI _)) _ _ _ _ rfl, xe_155_148 _ (some (vR _)) _ _ _ _ rfl, xe_155_148 _ none _ _ _ _ rfl, xe_155_151, ite_self, mm_nL_I, mm_nL_R, mm_nL_0, Option.bind_some, Option.bind_none, bnd_ite, Option.toList_some, Option.toList_none, List.cons_append, List.nil_append, mm_cats_nil, mm_cats_I, mm_cats_L, mm_cats_R, if_true, if_false, true_and, and_true, false_and, and_false, not_true_eq_false, not_false_eq_true, Int.reduceLE, Int.reduceLT, Int.reduceEq, Int.reduceNe, Int.reduceNeg, Int.reduceAdd, Int.reduceSub, Int.reduceMul, Nat.reduceAdd, Nat.reduceLeDiff, true_or, or_true, false_or, or_false, reduceIte, k_149, k_151, l_151, i2, i1, N, S, d, g, w, w1, w2, e, q, f, k0, k1]
          exact ih (b + 1) _ (by omega) (by omega)
theorem m_xl (h : JB r n F) (s e : Int) (s0 : 0 ≤ s) (s1 : s + 128 ≤ n) (e1 : e ≤ 127) : ∀ (m : Nat) (hd : Int) (p : Int × Int) (y : Option MV), 4 ≤ hd → hd ≤ 200 → e ≤ hd + m → ev 156 38 [some (vR 149), some (vI s), some (vI e), some (vI hd), y] [] (im r p) (g_1 L) = some (none, im r (xl F s e m hd p), g_1 L) := by
  have l5 := h.2.2.1
  have N := fun k x p => s_fls L k x r p
  have i2 : ∀ p, im r p 149 2 = 151 := fun p => by rw [im_k _ _ _ (by omega) (by omega)]; exact h.1
  intro m
  induction m with
  | zero =>
    intro hd p y h0 h1 he
    have g : e ≤ hd := by omega
    rw [xe_156_38]
    by_cases z : p.1 = 0
    · simp only [xe_156_39, xe_156_42, xe_156_45, xe_156_46, xe_156_47, xe_156_50, xe_156_51, xe_156_52, xe_156_53, xe_156_54, xe_156_57, xe_156_58, xe_156_59, xe_156_60, xe_156_61, xe_156_63, xe_156_64, xe_156_65 _ _ _ (some (vI _)) _ _ _ _ _ rfl, xe_156_65 _ _ _ (some (vR _)) _ _ _ _ _ rfl, xe_156_65 _ _ _ none _ _ _ _ _ rfl, xe_156_67, xe_156_69, xe_156_70, xe_156_73, xe_156_74, xe_156_76, xe_156_77, xe_156_78, xe_156_79, xe_156_82, xe_156_84 _ _ (some (vI _)) _ _ _ _ _ _ rfl, xe_156_84 _ _ (some (vR _)) _ _ _ _ _ _ rfl, xe_156_84 _ _ none _ _ _ _ _ _ rfl, xe_156_85, xe_156_88, ite_self, mm_nL_I, mm_nL_R, mm_nL_0, Option.bind_some, Option.bind_none, bnd_ite, Option.toList_some, Option.toList_none, List.cons_append, List.nil_append, mm_cats_nil, mm_cats_I, mm_cats_L, mm_cats_R, if_true, if_false, true_and, and_true, false_and, and_false, not_true_eq_false, not_false_eq_true, Int.reduceLE, Int.reduceLT, Int.reduceEq, Int.reduceNe, Int.reduceNeg, Int.reduceAdd, Int.reduceSub, Int.reduceMul, Nat.reduceAdd, Nat.reduceLeDiff, true_or, or_true, false_or, or_false, reduceIte, k_149, im_7, z, g, xl]
    · simp only [xe_156_39, xe_156_42, xe_156_45, xe_156_46, xe_156_47, xe_156_50, xe_156_51, xe_156_52, xe_156_53, xe_156_54, xe_156_57, xe_156_58, xe_156_59, xe_156_60, xe_156_61, xe_156_63, xe_156_64, xe_156_65 _ _ _ (some (vI _)) _ _ _ _ _ rfl, xe_156_65 _ _ _ (some (vR _)) _ _ _ _ _ rfl, xe_156_65 _ _ _ none _ _ _ _ _ rfl, xe_156_67, xe_156_69, xe_156_70, xe_156_73, xe_156_74, xe_156_76, xe_156_77, xe_156_78, xe_156_79, xe_156_82, xe_156_84 _ _ (some (vI _)) _ _ _ _ _ _ rfl, xe_156_84 _ _ (some (vR _)) _ _ _ _ _ _ rfl, xe_156_84 _ _ none _ _ _ _ _ _ rfl, xe_156_85, xe_156_88, ite_self, mm_nL_I, mm_nL_R, mm_nL_0, Option.bind_some, Option.bind_none, bnd_ite, Option.toList_some, Option.toList_none, List.cons_append, List.nil_append, mm_cats_nil, mm_cats_I, mm_cats_L, mm_cats_R, if_true, if_false, true_and, and_true, false_and, and_false, not_true_eq_false, not_false_eq_true, Int.reduceLE, Int.reduceLT, Int.reduceEq, Int.reduceNe, Int.reduceNeg, Int.reduceAdd, Int.reduceSub, Int.reduceMul, Nat.reduceAdd, Nat.reduceLeDiff, true_or, or_true, false_or, or_false, reduceIte, k_149, im_7, z, xl]
  | succ m ih =>
    intro hd p y h0 h1 he
    by_cases z : p.1 = 0
    · simp only [xl]
      by_cases g : e ≤ hd
      · rw [xe_156_38]
        simp only [xe_156_39, xe_156_42, xe_156_45, xe_156_46, xe_156_47, xe_156_50, xe_156_51, xe_156_52, xe_156_53, xe_156_54, xe_156_57, xe_156_58, xe_156_59, xe_156_60, xe_156_61, xe_156_63, xe_156_64, xe_156_65 _ _ _ (some (vI _)) _ _ _ _ _ rfl, xe_156_65 _ _ _ (some (vR _)) _ _ _ _ _ rfl, xe_156_65 _ _ _ none _ _ _ _ _ rfl, xe_156_67, xe_156_69, xe_156_70, xe_156_73, xe_156_74, xe_156_76, xe_156_77, xe_156_78, xe_156_79, xe_156_82, xe_156_84 _ _ (some (vI _)) _ _ _ _ _ _ rfl, xe_156_84 _ _ (some (vR _)) _ _ _ _ _ _ rfl, xe_156_84 _ _ none _ _ _ _ _ _ rfl, xe_156_85, xe_156_88, ite_self, mm_nL_I, mm_nL_R, mm_nL_0, Option.bind_some, Option.bind_none, bnd_ite, Option.toList_some, Option.toList_none, List.cons_append, List.nil_append, mm_cats_nil, mm_cats_I, mm_cats_L, mm_cats_R, if_true, if_false, true_and, and_true, false_and, and_false, not_true_eq_false, not_false_eq_true, Int.reduceLE, Int.reduceLT, Int.reduceEq, Int.reduceNe, Int.reduceNeg, Int.reduceAdd, Int.reduceSub, Int.reduceMul, Nat.reduceAdd, Nat.reduceLeDiff, true_or, or_true, false_or, or_false, reduceIte, k_149, im_7, z, g]
      · have i1 : ∀ p, im r p 151 (s + hd) = F (s + hd) := fun p => by rw [im_b _ _ _ (by omega)]; exact (h.2.2.2 _ (by omega) (by omega)).1
        have bv := (h.2.2.2 (s + hd) (by omega) (by omega)).2
        have k0 : 0 ≤ s + hd := by omega
        have k1 : s + hd < 520 := by omega
        have w1 : w32 (hd + 1) = hd + 1 := wi32 (by omega) (by omega)
        have w2 : w32 (s + hd) = s + hd := wi32 (by omega) (by omega)
        have w3 : w32 (hd + 1 + F (s + hd) % 32) = hd + 1 + F (s + hd) % 32 := wi32 (by omega) (by omega)
        have d : mm_rem (F (s + hd)) 32 = F (s + hd) % 32 := nu_rem bv.1 (by omega) (by omega) (by omega)
        rw [xe_156_38]
        by_cases q : hd + 1 + F (s + hd) % 32 ≤ e
        · simp only [xe_156_39, xe_156_42, xe_156_45, xe_156_46, xe_156_47, xe_156_50, xe_156_51, xe_156_52, xe_156_53, xe_156_54, xe_156_57, xe_156_58, xe_156_59, xe_156_60, xe_156_61, xe_156_63, xe_156_64, xe_156_65 _ _ _ (some (vI _)) _ _ _ _ _ rfl, xe_156_65 _ _ _ (some (vR _)) _ _ _ _ _ rfl, xe_156_65 _ _ _ none _ _ _ _ _ rfl, xe_156_67, xe_156_69, xe_156_70, xe_156_73, xe_156_74, xe_156_76, xe_156_77, xe_156_78, xe_156_79, xe_156_82, xe_156_84 _ _ (some (vI _)) _ _ _ _ _ _ rfl, xe_156_84 _ _ (some (vR _)) _ _ _ _ _ _ rfl, xe_156_84 _ _ none _ _ _ _ _ _ rfl, xe_156_85, xe_156_88, ite_self, mm_nL_I, mm_nL_R, mm_nL_0, Option.bind_some, Option.bind_none, bnd_ite, Option.toList_some, Option.toList_none, List.cons_append, List.nil_append, mm_cats_nil, mm_cats_I, mm_cats_L, mm_cats_R, if_true, if_false, true_and, and_true, false_and, and_false, not_true_eq_false, not_false_eq_true, Int.reduceLE, Int.reduceLT, Int.reduceEq, Int.reduceNe, Int.reduceNeg, Int.reduceAdd, Int.reduceSub, Int.reduceMul, Nat.reduceAdd, Nat.reduceLeDiff, true_or, or_true, false_or, or_false, reduceIte, k_149, k_151, l_151, im_7, i2, i1, N, d, z, g, k0, k1, w1, w2, w3, q]
          exact ih _ p _ (by omega) (by omega) (by omega)
        · simp only [xe_156_39, xe_156_42, xe_156_45, xe_156_46, xe_156_47, xe_156_50, xe_156_51, xe_156_52, xe_156_53, xe_156_54, xe_156_57, xe_156_58, xe_156_59, xe_156_60, xe_156_61, xe_156_63, xe_156_64, xe_156_65 _ _ _ (some (vI _)) _ _ _ _ _ rfl, xe_156_65 _ _ _ (some (vR _)) _ _ _ _ _ rfl, xe_156_65 _ _ _ none _ _ _ _ _ rfl, xe_156_67, xe_156_69, xe_156_70, xe_156_73, xe_156_74, xe_156_76, xe_156_77, xe_156_78, xe_156_79, xe_156_82, xe_156_84 _ _ (some (vI _)) _ _ _ _ _ _ rfl, xe_156_84 _ _ (some (vR _)) _ _ _ _ _ _ rfl, xe_156_84 _ _ none _ _ _ _ _ _ rfl, xe_156_85, xe_156_88, ite_self, mm_nL_I, mm_nL_R, mm_nL_0, Option.bind_some, Option.bind_none, bnd_ite, Option.toList_some, Option.toList_none, List.cons_append, List.nil_append, mm_cats_nil, mm_cats_I, mm_cats_L, mm_cats_R, if_true, if_false, true_and, and_true, false_and, and_false, not_true_eq_false, not_false_eq_true, Int.reduceLE, Int.reduceLT, Int.reduceEq, Int.reduceNe, Int.reduceNeg, Int.reduceAdd, Int.reduceSub, Int.reduceMul, Nat.reduceAdd, Nat.reduceLeDiff, true_or, or_true, false_or, or_false, reduceIte, k_149, k_151, l_151, im_7, i2, i1, N, d, z, g, k0, k1, w1, w2, w3, q]
          exact ih _ _ _ (by omega) (by omega) (by omega)
    · rw [xl_n _ _ _ _ _ _ z, xe_156_38]
      simp only [xe_156_39, xe_156_42, xe_156_45, xe_156_46, xe_156_47, xe_156_50, xe_156_51, xe_156_52, xe_156_53, xe_156_54, xe_156_57, xe_156_58, xe_156_59, xe_156_60, xe_156_61, xe_156_63, xe_156_64, xe_156_65 _ _ _ (some (vI _)) _ _ _ _ _ rfl, xe_156_65 _ _ _ (some (vR _)) _ _ _ _ _ rfl, xe_156_65 _ _ _ none _ _ _ _ _ rfl, xe_156_67, xe_156_69, xe_156_70, xe_156_73, xe_156_74, xe_156_76, xe_156_77, xe_156_78, xe_156_79, xe_156_82, xe_156_84 _ _ (some (vI _)) _ _ _ _ _ _ rfl, xe_156_84 _ _ (some (vR _)) _ _ _ _ _ _ rfl, xe_156_84 _ _ none _ _ _ _ _ _ rfl, xe_156_85, xe_156_88, ite_self, mm_nL_I, mm_nL_R, mm_nL_0, Option.bind_some, Option.bind_none, bnd_ite, Option.toList_some, Option.toList_none, List.cons_append, List.nil_append, mm_cats_nil, mm_cats_I, mm_cats_L, mm_cats_R, if_true, if_false, true_and, and_true, false_and, and_false, not_true_eq_false, not_false_eq_true, Int.reduceLE, Int.reduceLT, Int.reduceEq, Int.reduceNe, Int.reduceNeg, Int.reduceAdd, Int.reduceSub, Int.reduceMul, Nat.reduceAdd, Nat.reduceLeDiff, true_or, or_true, false_or, or_false, reduceIte, k_149, im_7, z]
theorem m_ext (h : JB r n F) (s : Int) (p : Int × Int) (s0 : 0 ≤ s) (s1 : s + 128 ≤ n) : ev 156 0 [some (vR 149), some (vI s), none, none, none] [] (im r p) (g_1 L) = some (none, im r (ext F s p), g_1 L) := by
  have l5 := h.2.2.1
  have N := fun k x p => s_fls L k x r p
  have i2 : ∀ p, im r p 149 2 = 151 := fun p => by rw [im_k _ _ _ (by omega) (by omega)]; exact h.1
  have i1 : ∀ p, im r p 151 (s + 2) = F (s + 2) := fun p => by rw [im_b _ _ _ (by omega)]; exact (h.2.2.2 _ (by omega) (by omega)).1
  have bv := (h.2.2.2 (s + 2) (by omega) (by omega)).2
  have w2 : w32 (s + 2) = s + 2 := wi32 (by omega) (by omega)
  have k0 : 0 ≤ s + 2 := by omega
  have k1 : s + 2 < 520 := by omega
  unfold ext
  by_cases q : F (s + 2) = 0 ∨ (4 ≤ F (s + 2) ∧ F (s + 2) ≤ 127)
  · have X := m_xl (L := L) h s (F (s + 2)) s0 s1 (by omega) 128 4 p none (by omega) (by omega) (by omega)
    rw [if_pos q]
    generalize F (s + 2) = e at *
    by_cases e0 : e = 0
    · simp only [xe_156_0, xe_156_1, xe_156_4, xe_156_5, xe_156_6, xe_156_7, xe_156_8 _ (some (vI _)) _ _ _ _ _ _ _ rfl, xe_156_8 _ (some (vR _)) _ _ _ _ _ _ _ rfl, xe_156_8 _ none _ _ _ _ _ _ _ rfl, xe_156_9, xe_156_10, xe_156_13, xe_156_14, xe_156_15, xe_156_18, xe_156_21, xe_156_24, xe_156_27, xe_156_28, xe_156_30, xe_156_31, xe_156_32, xe_156_33, xe_156_36, xe_156_37 _ _ (some (vI _)) _ _ _ _ _ _ rfl, xe_156_37 _ _ (some (vR _)) _ _ _ _ _ _ rfl, xe_156_37 _ _ none _ _ _ _ _ _ rfl, ite_self, mm_nL_I, mm_nL_R, mm_nL_0, Option.bind_some, Option.bind_none, bnd_ite, Option.toList_some, Option.toList_none, List.cons_append, List.nil_append, mm_cats_nil, mm_cats_I, mm_cats_L, mm_cats_R, if_true, if_false, true_and, and_true, false_and, and_false, not_true_eq_false, not_false_eq_true, Int.reduceLE, Int.reduceLT, Int.reduceEq, Int.reduceNe, Int.reduceNeg, Int.reduceAdd, Int.reduceSub, Int.reduceMul, Nat.reduceAdd, Nat.reduceLeDiff, true_or, or_true, false_or, or_false, reduceIte, k_149, k_151, l_151, i2, i1, k0, k1, w2, e0]
      rw [e0] at X
      exact X
    · have q1 : 4 ≤ e ∧ e ≤ 127 := by omega
      simp only [xe_156_0, xe_156_1, xe_156_4, xe_156_5, xe_156_6, xe_156_7, xe_156_8 _ (some (vI _)) _ _ _ _ _ _ _ rfl, xe_156_8 _ (some (vR _)) _ _ _ _ _ _ _ rfl, xe_156_8 _ none _ _ _ _ _ _ _ rfl, xe_156_9, xe_156_10, xe_156_13, xe_156_14, xe_156_15, xe_156_18, xe_156_21, xe_156_24, xe_156_27, xe_156_28, xe_156_30, xe_156_31, xe_156_32, xe_156_33, xe_156_36, xe_156_37 _ _ (some (vI _)) _ _ _ _ _ _ rfl, xe_156_37 _ _ (some (vR _)) _ _ _ _ _ _ rfl, xe_156_37 _ _ none _ _ _ _ _ _ rfl, ite_self, mm_nL_I, mm_nL_R, mm_nL_0, Option.bind_some, Option.bind_none, bnd_ite, Option.toList_some, Option.toList_none, List.cons_append, List.nil_append, mm_cats_nil, mm_cats_I, mm_cats_L, mm_cats_R, if_true, if_false, true_and, and_true, false_and, and_false, not_true_eq_false, not_false_eq_true, Int.reduceLE, Int.reduceLT, Int.reduceEq, Int.reduceNe, Int.reduceNeg, Int.reduceAdd, Int.reduceSub, Int.reduceMul, Nat.reduceAdd, Nat.reduceLeDiff, true_or, or_true, false_or, or_false, reduceIte, k_149, k_151, l_151, s_isIn, bi, i2, i1, k0, k1, w2, e0, q1]
      exact X
  · rw [if_neg q]
    generalize F (s + 2) = e at *
    have e0 : ¬ e = 0 := by omega
    have q1 : ¬ (4 ≤ e ∧ e ≤ 127) := by omega
    have z : ¬ (nt p 6 (s + 2)).1 = 0 := by
      unfold nt; split
      · show ¬ (6 : Int) = 0; omega
      · assumption
    have fin : ev 156 38 [some (vR 149), some (vI s), some (vI e), some (vI 4), none] [] (im r (nt p 6 (s + 2))) (g_1 L) = some (none, im r (nt p 6 (s + 2)), g_1 L) := by
      rw [xe_156_38]
      simp only [xe_156_39, xe_156_42, xe_156_45, xe_156_46, xe_156_47, xe_156_50, xe_156_51, xe_156_52, xe_156_53, xe_156_54, xe_156_57, xe_156_58, xe_156_59, xe_156_60, xe_156_61, xe_156_63, xe_156_64, xe_156_65 _ _ _ (some (vI _)) _ _ _ _ _ rfl, xe_156_65 _ _ _ (some (vR _)) _ _ _ _ _ rfl, xe_156_65 _ _ _ none _ _ _ _ _ rfl, xe_156_67, xe_156_69, xe_156_70, xe_156_73, xe_156_74, xe_156_76, xe_156_77, xe_156_78, xe_156_79, xe_156_82, xe_156_84 _ _ (some (vI _)) _ _ _ _ _ _ rfl, xe_156_84 _ _ (some (vR _)) _ _ _ _ _ _ rfl, xe_156_84 _ _ none _ _ _ _ _ _ rfl, xe_156_85, xe_156_88, ite_self, mm_nL_I, mm_nL_R, mm_nL_0, Option.bind_some, Option.bind_none, bnd_ite, Option.toList_some, Option.toList_none, List.cons_append, List.nil_append, mm_cats_nil, mm_cats_I, mm_cats_L, mm_cats_R, if_true, if_false, true_and, and_true, false_and, and_false, not_true_eq_false, not_false_eq_true, Int.reduceLE, Int.reduceLT, Int.reduceEq, Int.reduceNe, Int.reduceNeg, Int.reduceAdd, Int.reduceSub, Int.reduceMul, Nat.reduceAdd, Nat.reduceLeDiff, true_or, or_true, false_or, or_false, reduceIte, k_149, im_7, z]
    simp only [xe_156_0, xe_156_1, xe_156_4, xe_156_5, xe_156_6, xe_156_7, xe_156_8 _ (some (vI _)) _ _ _ _ _ _ _ rfl, xe_156_8 _ (some (vR _)) _ _ _ _ _ _ _ rfl, xe_156_8 _ none _ _ _ _ _ _ _ rfl, xe_156_9, xe_156_10, xe_156_13, xe_156_14, xe_156_15, xe_156_18, xe_156_21, xe_156_24, xe_156_27, xe_156_28, xe_156_30, xe_156_31, xe_156_32, xe_156_33, xe_156_36, xe_156_37 _ _ (some (vI _)) _ _ _ _ _ _ rfl, xe_156_37 _ _ (some (vR _)) _ _ _ _ _ _ rfl, xe_156_37 _ _ none _ _ _ _ _ _ rfl, ite_self, mm_nL_I, mm_nL_R, mm_nL_0, Option.bind_some, Option.bind_none, bnd_ite, Option.toList_some, Option.toList_none, List.cons_append, List.nil_append, mm_cats_nil, mm_cats_I, mm_cats_L, mm_cats_R, if_true, if_false, true_and, and_true, false_and, and_false, not_true_eq_false, not_false_eq_true, Int.reduceLE, Int.reduceLT, Int.reduceEq, Int.reduceNe, Int.reduceNeg, Int.reduceAdd, Int.reduceSub, Int.reduceMul, Nat.reduceAdd, Nat.reduceLeDiff, true_or, or_true, false_or, or_false, reduceIte, k_149, k_151, l_151, s_isIn, bi, i2, i1, N, k0, k1, w2, e0, q1]
    exact fin
theorem m_exs (h : JB r n F) (B : Int) (hB : n = 128 * B) (hB4 : B ≤ 4) : ∀ (m : Nat) (b : Int) (p : Int × Int), 1 ≤ b → b + m = B → ev 155 194 [some (vR 149), some (vI B), some (vI b)] [] (im r p) (g_1 L) = some (none, im r (exs F m b p), g_1 L) := by
  intro m
  induction m with
  | zero =>
    intro b p b0 hb
    have g : B ≤ b := by omega
    simp only [xe_155_194, xe_155_195, xe_155_196, xe_155_214, ite_self, mm_nL_I, mm_nL_R, mm_nL_0, Option.bind_some, Option.bind_none, bnd_ite, Option.toList_some, Option.toList_none, List.cons_append, List.nil_append, mm_cats_nil, mm_cats_I, mm_cats_L, mm_cats_R, if_true, if_false, true_and, and_true, false_and, and_false, not_true_eq_false, not_false_eq_true, Int.reduceLE, Int.reduceLT, Int.reduceEq, Int.reduceNe, Int.reduceNeg, Int.reduceAdd, Int.reduceSub, Int.reduceMul, Nat.reduceAdd, Nat.reduceLeDiff, true_or, or_true, false_or, or_false, reduceIte, g, exs]
  | succ m ih =>
    intro b p b0 hb
    have g : ¬ B ≤ b := by omega
    have w : w32 (b + 1) = b + 1 := wi32 (by omega) (by omega)
    have w1 : w32 (128 * b) = 128 * b := wi32 (by omega) (by omega)
    have X := m_ext (L := L) h (128 * b) p (by omega) (by omega)
    rw [xe_155_194]
    simp only [xe_155_195, xe_155_196, xe_155_199, xe_155_200, xe_155_203, xe_155_204, xe_155_205, xe_155_208 _ (some (vI _)) _ _ _ _ rfl, xe_155_208 _ (some (vR _)) _ _ _ _ rfl, xe_155_208 _ none _ _ _ _ rfl, xe_155_211, xe_155_214, ite_self, mm_nL_I, mm_nL_R, mm_nL_0, Option.bind_some, Option.bind_none, bnd_ite, Option.toList_some, Option.toList_none, List.cons_append, List.nil_append, mm_cats_nil, mm_cats_I, mm_cats_L, mm_cats_R, if_true, if_false, true_and, and_true, false_and, and_false, not_true_eq_false, not_false_eq_true, Int.reduceLE, Int.reduceLT, Int.reduceEq, Int.reduceNe, Int.reduceNeg, Int.reduceAdd, Int.reduceSub, Int.reduceMul, Nat.reduceAdd, Nat.reduceLeDiff, true_or, or_true, false_or, or_false, reduceIte, k_149, X, g, w, w1, exs]
    exact ih (b + 1) _ (by omega) (by omega)
theorem m_chk (h : JB r n F) (n0 : 0 ≤ n) : ev 155 0 [some (vR 149), none, none] [] (im r (0, -1)) (g_1 L) = some (none, im r (ins F n), g_1 L) := by
  have h5 : ∀ p, im r p 149 5 = n := fun p => by rw [im_k _ _ _ (by omega) (by omega)]; exact h.2.1
  have h2 := h.2.2.1
  have N := fun k x p => s_fls L k x r p
  have d1 : mm_div n 128 = n / 128 := nu_div n0 (by omega) (by omega) (by omega)
  have d2 : mm_rem n 128 = n % 128 := nu_rem n0 (by omega) (by omega) (by omega)
  unfold ins
  by_cases q : n % 128 = 0 ∧ 1 ≤ n / 128 ∧ n / 128 ≤ 4
  · rw [if_pos q]
    have hB : n = 128 * (n / 128) := by omega
    generalize n / 128 = B at *
    have H := m_hd8 (L := L) h (by omega) B 8 0 (0, -1) (by omega) (by omega)
    have BL := fun p => m_blk (L := L) h B hB q.2.2 B.toNat 0 p (by omega) (by omega)
    have EX := fun p => m_exs (L := L) h B hB q.2.2 (B - 1).toNat 1 p (by omega) (by omega)
    have i2 : ∀ p, im r p 149 2 = 151 := fun p => by rw [im_k _ _ _ (by omega) (by omega)]; exact h.1
    have i18 : ∀ p, im r p 151 18 = F 18 := fun p => by rw [im_b _ _ _ (by omega)]; exact (h.2.2.2 _ (by omega) (by omega)).1
    have i126 : ∀ p, im r p 151 126 = F 126 := fun p => by rw [im_b _ _ _ (by omega)]; exact (h.2.2.2 _ (by omega) (by omega)).1
    have w1 : w32 (B - 1) = B - 1 := wi32 (by omega) (by omega)
    have st : ev 155 0 [some (vR 149), none, none] [] (im r (0, -1)) (g_1 L) = ev 155 44 [some (vR 149), some (vI B), some (vI 0)] [] (im r (0, -1)) (g_1 L) := by
      simp only [xe_155_0, xe_155_1, xe_155_4, xe_155_7, xe_155_8 (some (vI _)) _ _ _ _ _ _ rfl, xe_155_8 (some (vR _)) _ _ _ _ _ _ rfl, xe_155_8 none _ _ _ _ _ _ rfl, xe_155_9, xe_155_10, xe_155_13, xe_155_16, xe_155_17, xe_155_20, xe_155_21, xe_155_22, xe_155_23, xe_155_26, xe_155_29, xe_155_32, xe_155_33, xe_155_34, xe_155_35, xe_155_38, xe_155_41, xe_155_42, xe_155_43 _ (some (vI _)) _ _ _ _ _ rfl, xe_155_43 _ (some (vR _)) _ _ _ _ _ rfl, xe_155_43 _ none _ _ _ _ _ rfl, ite_self, mm_nL_I, mm_nL_R, mm_nL_0, Option.bind_some, Option.bind_none, bnd_ite, Option.toList_some, Option.toList_none, List.cons_append, List.nil_append, mm_cats_nil, mm_cats_I, mm_cats_L, mm_cats_R, if_true, if_false, true_and, and_true, false_and, and_false, not_true_eq_false, not_false_eq_true, Int.reduceLE, Int.reduceLT, Int.reduceEq, Int.reduceNe, Int.reduceNeg, Int.reduceAdd, Int.reduceSub, Int.reduceMul, Nat.reduceAdd, Nat.reduceLeDiff, true_or, or_true, false_or, or_false, reduceIte, k_149, h5, d1, d2, s_isIn, bi, q.1, q.2]
    rw [st, H]
    simp only [xe_155_88, xe_155_89 _ (some (vI _)) _ _ _ _ _ rfl, xe_155_89 _ (some (vR _)) _ _ _ _ _ rfl, xe_155_89 _ none _ _ _ _ _ rfl]
    rw [BL]
    unfold i45
    generalize blk F B.toNat 0 (h8 F 8 0 (0, -1)) = p1 at *
    by_cases a1 : F 18 = 1
    · by_cases a2 : F 126 = B - 1
      · have a2' := eq_true a2
        simp only [xe_155_154, xe_155_155, xe_155_158, xe_155_160, xe_155_161, xe_155_162, xe_155_165, xe_155_166, xe_155_167, xe_155_169, xe_155_172, xe_155_173, xe_155_176, xe_155_178, xe_155_179, xe_155_180, xe_155_181, xe_155_182, xe_155_185, xe_155_186, xe_155_187, xe_155_189, xe_155_192, xe_155_193 _ (some (vI _)) _ _ _ _ _ rfl, xe_155_193 _ (some (vR _)) _ _ _ _ _ rfl, xe_155_193 _ none _ _ _ _ _ rfl, ite_self, mm_nL_I, mm_nL_R, mm_nL_0, Option.bind_some, Option.bind_none, bnd_ite, Option.toList_some, Option.toList_none, List.cons_append, List.nil_append, mm_cats_nil, mm_cats_I, mm_cats_L, mm_cats_R, if_true, if_false, true_and, and_true, false_and, and_false, not_true_eq_false, not_false_eq_true, Int.reduceLE, Int.reduceLT, Int.reduceEq, Int.reduceNe, Int.reduceNeg, Int.reduceAdd, Int.reduceSub, Int.reduceMul, Nat.reduceAdd, Nat.reduceLeDiff, true_or, or_true, false_or, or_false, reduceIte, k_149, k_151, l_151, i2, i18, i126, N, w1, a1, a2', EX]
      · simp only [xe_155_154, xe_155_155, xe_155_158, xe_155_160, xe_155_161, xe_155_162, xe_155_165, xe_155_166, xe_155_167, xe_155_169, xe_155_172, xe_155_173, xe_155_176, xe_155_178, xe_155_179, xe_155_180, xe_155_181, xe_155_182, xe_155_185, xe_155_186, xe_155_187, xe_155_189, xe_155_192, xe_155_193 _ (some (vI _)) _ _ _ _ _ rfl, xe_155_193 _ (some (vR _)) _ _ _ _ _ rfl, xe_155_193 _ none _ _ _ _ _ rfl, ite_self, mm_nL_I, mm_nL_R, mm_nL_0, Option.bind_some, Option.bind_none, bnd_ite, Option.toList_some, Option.toList_none, List.cons_append, List.nil_append, mm_cats_nil, mm_cats_I, mm_cats_L, mm_cats_R, if_true, if_false, true_and, and_true, false_and, and_false, not_true_eq_false, not_false_eq_true, Int.reduceLE, Int.reduceLT, Int.reduceEq, Int.reduceNe, Int.reduceNeg, Int.reduceAdd, Int.reduceSub, Int.reduceMul, Nat.reduceAdd, Nat.reduceLeDiff, true_or, or_true, false_or, or_false, reduceIte, k_149, k_151, l_151, i2, i18, i126, N, w1, a1, a2, EX]
    · by_cases a2 : F 126 = B - 1
      · have a2' := eq_true a2
        simp only [xe_155_154, xe_155_155, xe_155_158, xe_155_160, xe_155_161, xe_155_162, xe_155_165, xe_155_166, xe_155_167, xe_155_169, xe_155_172, xe_155_173, xe_155_176, xe_155_178, xe_155_179, xe_155_180, xe_155_181, xe_155_182, xe_155_185, xe_155_186, xe_155_187, xe_155_189, xe_155_192, xe_155_193 _ (some (vI _)) _ _ _ _ _ rfl, xe_155_193 _ (some (vR _)) _ _ _ _ _ rfl, xe_155_193 _ none _ _ _ _ _ rfl, ite_self, mm_nL_I, mm_nL_R, mm_nL_0, Option.bind_some, Option.bind_none, bnd_ite, Option.toList_some, Option.toList_none, List.cons_append, List.nil_append, mm_cats_nil, mm_cats_I, mm_cats_L, mm_cats_R, if_true, if_false, true_and, and_true, false_and, and_false, not_true_eq_false, not_false_eq_true, Int.reduceLE, Int.reduceLT, Int.reduceEq, Int.reduceNe, Int.reduceNeg, Int.reduceAdd, Int.reduceSub, Int.reduceMul, Nat.reduceAdd, Nat.reduceLeDiff, true_or, or_true, false_or, or_false, reduceIte, k_149, k_151, l_151, i2, i18, i126, N, w1, a1, a2', EX]
      · simp only [xe_155_154, xe_155_155, xe_155_158, xe_155_160, xe_155_161, xe_155_162, xe_155_165, xe_155_166, xe_155_167, xe_155_169, xe_155_172, xe_155_173, xe_155_176, xe_155_178, xe_155_179, xe_155_180, xe_155_181, xe_155_182, xe_155_185, xe_155_186, xe_155_187, xe_155_189, xe_155_192, xe_155_193 _ (some (vI _)) _ _ _ _ _ rfl, xe_155_193 _ (some (vR _)) _ _ _ _ _ rfl, xe_155_193 _ none _ _ _ _ _ rfl, ite_self, mm_nL_I, mm_nL_R, mm_nL_0, Option.bind_some, Option.bind_none, bnd_ite, Option.toList_some, Option.toList_none, List.cons_append, List.nil_append, mm_cats_nil, mm_cats_I, mm_cats_L, mm_cats_R, if_true, if_false, true_and, and_true, false_and, and_false, not_true_eq_false, not_false_eq_true, Int.reduceLE, Int.reduceLT, Int.reduceEq, Int.reduceNe, Int.reduceNeg, Int.reduceAdd, Int.reduceSub, Int.reduceMul, Nat.reduceAdd, Nat.reduceLeDiff, true_or, or_true, false_or, or_false, reduceIte, k_149, k_151, l_151, i2, i18, i126, N, w1, a1, a2, EX]
  · rw [if_neg q]
    have N0 : ev 153 0 [some (vR 149), some (vI 1), some (vI n)] [] (im r (0, -1)) (g_1 L) = some (none, im r (1, n), g_1 L) := N 1 n (0, -1)
    by_cases q1 : n % 128 = 0
    · have q2 : ¬ (1 ≤ n / 128 ∧ n / 128 ≤ 4) := fun z => q ⟨q1, z⟩
      simp only [xe_155_0, xe_155_1, xe_155_4, xe_155_7, xe_155_8 (some (vI _)) _ _ _ _ _ _ rfl, xe_155_8 (some (vR _)) _ _ _ _ _ _ rfl, xe_155_8 none _ _ _ _ _ _ rfl, xe_155_9, xe_155_10, xe_155_13, xe_155_16, xe_155_17, xe_155_20, xe_155_21, xe_155_22, xe_155_23, xe_155_26, xe_155_29, xe_155_32, xe_155_33, xe_155_34, xe_155_35, xe_155_38, xe_155_41, xe_155_42, xe_155_43 _ (some (vI _)) _ _ _ _ _ rfl, xe_155_43 _ (some (vR _)) _ _ _ _ _ rfl, xe_155_43 _ none _ _ _ _ _ rfl, ite_self, mm_nL_I, mm_nL_R, mm_nL_0, Option.bind_some, Option.bind_none, bnd_ite, Option.toList_some, Option.toList_none, List.cons_append, List.nil_append, mm_cats_nil, mm_cats_I, mm_cats_L, mm_cats_R, if_true, if_false, true_and, and_true, false_and, and_false, not_true_eq_false, not_false_eq_true, Int.reduceLE, Int.reduceLT, Int.reduceEq, Int.reduceNe, Int.reduceNeg, Int.reduceAdd, Int.reduceSub, Int.reduceMul, Nat.reduceAdd, Nat.reduceLeDiff, true_or, or_true, false_or, or_false, reduceIte, k_149, h5, d1, d2, s_isIn, bi, q1, q2, N0]
    · simp only [xe_155_0, xe_155_1, xe_155_4, xe_155_7, xe_155_8 (some (vI _)) _ _ _ _ _ _ rfl, xe_155_8 (some (vR _)) _ _ _ _ _ _ rfl, xe_155_8 none _ _ _ _ _ _ rfl, xe_155_9, xe_155_10, xe_155_13, xe_155_16, xe_155_17, xe_155_20, xe_155_21, xe_155_22, xe_155_23, xe_155_26, xe_155_29, xe_155_32, xe_155_33, xe_155_34, xe_155_35, xe_155_38, xe_155_41, xe_155_42, xe_155_43 _ (some (vI _)) _ _ _ _ _ rfl, xe_155_43 _ (some (vR _)) _ _ _ _ _ rfl, xe_155_43 _ none _ _ _ _ _ rfl, ite_self, mm_nL_I, mm_nL_R, mm_nL_0, Option.bind_some, Option.bind_none, bnd_ite, Option.toList_some, Option.toList_none, List.cons_append, List.nil_append, mm_cats_nil, mm_cats_I, mm_cats_L, mm_cats_R, if_true, if_false, true_and, and_true, false_and, and_false, not_true_eq_false, not_false_eq_true, Int.reduceLE, Int.reduceLT, Int.reduceEq, Int.reduceNe, Int.reduceNeg, Int.reduceAdd, Int.reduceSub, Int.reduceMul, Nat.reduceAdd, Nat.reduceLeDiff, true_or, or_true, false_or, or_false, reduceIte, k_149, h5, d1, d2, q1, N0]
end JJ
