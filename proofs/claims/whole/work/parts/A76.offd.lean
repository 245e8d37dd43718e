/-! load: a detailed timing is offered on both sides -/
theorem hz_any (L a : Int) (c : MM) (ha : 0 < a) (hk : gk (g_1 L) a = 7) (h0 : 0 ≤ c a 0) (h1 : c a 0 ≤ 655350) (b1 : 0 ≤ c a 1 + c a 2) (b2 : c a 1 + c a 2 ≤ 8190) (b3 : 0 ≤ c a 5 + c a 6) (b4 : c a 5 + c a 6 ≤ 8190) : ∃ z, ev 73 0 [some (vR a), none, none] [] c (g_1 L) = some (some (vI z), c, g_1 L) := by
  have P := s_pixels a c (g_1 L) hk b1 b2 b3 b4
  have bb := mul_bd b1 b2 b3 b4
  generalize (c a 1 + c a 2) * (c a 5 + c a 6) = W at *
  by_cases n : W ≤ 0
  · have n0 : mm_cmp W 0 ≤ 0 := by rw [cmp_le]; exact n
    exact ⟨0, by simp only [xe_73_0, xe_73_1, xe_73_4 (some (vI _)) _ _ _ _ _ _ rfl, xe_73_4 (some (vR _)) _ _ _ _ _ _ rfl, xe_73_4 none _ _ _ _ _ _ rfl, xe_73_5, xe_73_6, xe_73_7, xe_73_8, xe_73_11, xe_73_12, xe_73_15, xe_73_16, xe_73_19, xe_73_20, xe_73_21, xe_73_22, xe_73_25, xe_73_26, xe_73_27, xe_73_28, xe_73_29, xe_73_32, xe_73_33, ite_self, mm_nL_I, mm_nL_R, mm_nL_0, Option.bind_some, Option.bind_none, bnd_ite, Option.toList_some, Option.toList_none, List.cons_append, List.nil_append, mm_cats_nil, mm_cats_I, mm_cats_L, mm_cats_R, if_true, if_false, true_and, and_true, false_and, and_false, not_true_eq_false, not_false_eq_true, Int.reduceLE, Int.reduceLT, Int.reduceEq, Int.reduceNe, Int.reduceNeg, Int.reduceAdd, Int.reduceSub, Int.reduceMul, Nat.reduceAdd, Nat.reduceLeDiff, true_or, or_true, false_or, or_false, reduceIte, hk, ha, P, n0]⟩
  · have n0 : ¬ mm_cmp W 0 ≤ 0 := by rw [cmp_le]; exact n
    have w1 : w64 (c a 0 * 2000) = 2000 * c a 0 := by rw [wi64 (by omega) (by omega)]; omega
    have w2 : w64 (2000 * c a 0 + W) = 2000 * c a 0 + W := wi64 (by omega) (by omega)
    have w3 : w64 (2 * W) = 2 * W := wi64 (by omega) (by omega)
    have nw : ¬ 2 * W = 0 := by omega
    exact ⟨_, by simp only [xe_73_0, xe_73_1, xe_73_4 (some (vI _)) _ _ _ _ _ _ rfl, xe_73_4 (some (vR _)) _ _ _ _ _ _ rfl, xe_73_4 none _ _ _ _ _ _ rfl, xe_73_5, xe_73_6, xe_73_7, xe_73_8, xe_73_11, xe_73_12, xe_73_15, xe_73_16, xe_73_19, xe_73_20, xe_73_21, xe_73_22, xe_73_25, xe_73_26, xe_73_27, xe_73_28, xe_73_29, xe_73_32, xe_73_33, ite_self, mm_nL_I, mm_nL_R, mm_nL_0, Option.bind_some, Option.bind_none, bnd_ite, Option.toList_some, Option.toList_none, List.cons_append, List.nil_append, mm_cats_nil, mm_cats_I, mm_cats_L, mm_cats_R, if_true, if_false, true_and, and_true, false_and, and_false, not_true_eq_false, not_false_eq_true, Int.reduceLE, Int.reduceLT, Int.reduceEq, Int.reduceNe, Int.reduceNeg, Int.reduceAdd, Int.reduceSub, Int.reduceMul, Nat.reduceAdd, Nat.reduceLeDiff, true_or, or_true, false_or, or_false, reduceIte, hk, ha, P, n0, w1, w2, w3, nw]; rfl⟩
section S2
variable {L K n : Int} {c r : MM} {s : Nat} {F : Int → Int}
/-- it is left out by w, whatever its Hertz -/
theorem st_out (hI : INV K c r s) (K5 : K ≤ 5000) (c' : MM) (w : Int) (w0 : 0 ≤ w) (w7 : w < 7) (k1 : c' 45 4 = c 45 4) (k2 : c' 46 = c 46) (k3 : c' 47 = c 47) (k4 : ∀ a, 49 ≤ a → a ≤ 128 → c' a = c a) : INV (K + 1) (mset c' 47 w (c 47 w + 1)) (mset r 159 w (r 159 w + 1)) s := by
  refine hI.ke ?_ ?_ (fun i i0 i1 => ?_) (fun a a0 a1 => ?_) ?_ ?_
  · rw [ms_row _ _ _ _ _ (by omega)]; exact k1
  · rw [ms_row _ _ _ _ _ (by omega)]; exact k2
  · have b := hI.2.2.2.1 i i0 i1
    have bw := hI.2.2.2.1 w w0 w7
    rw [ms_sa, ms_sa, k3]
    split <;> omega
  · rw [ms_row _ _ _ _ _ (by omega)]; exact k4 a a0 a1
  · rw [ms_row _ _ _ _ _ (by omega)]
  · rw [ms_row _ _ _ _ _ (by omega)]
theorem st_dt (hX : SX c) (hM : SM r) (hP : PM r n F) (n1 : 128 ≤ n) (hI : INV K c r s) (hd : Qd c r) (hr : Qr c r) (hm : Qm c r) (K5 : K ≤ 5000) (k : Int) (k0 : 0 ≤ k) (k1 : k < c 16 6) (k2 : c 16 6 ≤ 22) (hb : c 16 7 = r 149 19) (ff' : Int) (hff : ff' = if hcl F 54 = true then 1 else 0) :
    ∃ c1 c' r' s', ev 65 0 [some (vR 48), some (vR (23 + k))] [] c (g_1 L) = some (none, c1, g_1 L) ∧ c1 16 = c 16 ∧ c1 45 = c 45 ∧ ev 38 0 [some (vR 45), some (vR 16), some (vI (if k < c 16 7 then 0 else 1)), some (vI (if k = 0 ∧ hcl F 54 = true then 1 else 0)), none] [] c1 (g_1 L) = some (none, c', g_1 L) ∧ ev 173 0 [some (vR 149), some (vI k), none, none] [] r (g_1 L) = some (none, r', g_1 L) ∧ INV (K + 1) c' r' s' ∧ gC c c' ∧ gR r r' := by
  obtain ⟨d1, d2, d3⟩ := hd
  obtain ⟨e1, e2, e3, e4, e5⟩ := d3 k k0 k1
  have kk : gk (g_1 L) (23 + k) = 7 := by
    have : ∀ m : Fin 22, (kd_c (23 + (m.val : Int))).1 = 7 := by decide +kernel
    rw [gk_c L _ (by omega)]
    have t := this ⟨k.toNat, by omega⟩
    rw [show ((k.toNat : Nat) : Int) = k by omega] at t
    exact t
  have T := s_tcopy L 48 (23 + k) c (k_48 L) kk (by omega) e2.2.2.2.2.2.2.2
  have tb : ∀ b, ¬ b = 48 → tcp c 48 (23 + k) b = c b := fun b hb => by funext j; unfold tcp; rw [if_neg (by omega)]
  have tj : ∀ j, 0 ≤ j → j ≤ 9 → tcp c 48 (23 + k) 48 j = c (23 + k) j := fun j j0 j9 => by unfold tcp; rw [if_pos ⟨rfl, j0, j9⟩]
  have g1 : gC c (tcp c 48 (23 + k)) := ⟨fun a ha => tb a (by omega), fun k hk => by rw [tb _ (by omega)], fun j j0 j1 => by rw [tb _ (by omega)]⟩
  have hI1 : INV K (tcp c 48 (23 + k)) r s := hI.ke (by rw [tb _ (by omega)]) (tb _ (by omega)) (fun i i0 i1 => by rw [tb _ (by omega)]; exact hI.2.2.2.1 i i0 i1) (fun a a0 a1 => tb a (by omega)) rfl rfl
  have hr1 : Qr (tcp c 48 (23 + k)) r := hr.ke (by rw [tb _ (by omega)]) (tb _ (by omega)) rfl rfl
  have hm1 : Qm (tcp c 48 (23 + k)) r := hm.ke (by rw [tb _ (by omega)]) rfl
  have hX1 := hX.g g1
  have r0 := e1 0 (by omega) (by omega)
  have r1 := e1 1 (by omega) (by omega)
  have r2 := e1 2 (by omega) (by omega)
  have r3 := e1 3 (by omega) (by omega)
  have r4 := e1 4 (by omega) (by omega)
  have r5 := e1 5 (by omega) (by omega)
  have r6 := e1 6 (by omega) (by omega)
  have r7 := e1 7 (by omega) (by omega)
  have r8 := e1 8 (by omega) (by omega)
  have r9 := e1 9 (by omega) (by omega)
  rw [Int.add_zero] at r0
  have t0 := tj 0 (by omega) (by omega)
  have t1 := tj 1 (by omega) (by omega)
  have t2 := tj 2 (by omega) (by omega)
  have t3 := tj 3 (by omega) (by omega)
  have t4 := tj 4 (by omega) (by omega)
  have t5 := tj 5 (by omega) (by omega)
  have t6 := tj 6 (by omega) (by omega)
  have t7 := tj 7 (by omega) (by omega)
  have t8 := tj 8 (by omega) (by omega)
  have t9 := tj 9 (by omega) (by omega)
  have c16 : tcp c 48 (23 + k) 16 = c 16 := tb _ (by omega)
  have c45 : tcp c 48 (23 + k) 45 = c 45 := tb _ (by omega)
  have c46 : tcp c 48 (23 + k) 46 = c 46 := tb _ (by omega)
  have c47 : tcp c 48 (23 + k) 47 = c 47 := tb _ (by omega)
  have c49 : ∀ a, 49 ≤ a → a ≤ 128 → tcp c 48 (23 + k) a = c a := fun a a0 a1 => tb a (by omega)
  obtain ⟨b0, b1, bj, b3, b4, b7, b8, b9⟩ := e2
  have b1' := bj 1 (by omega) (by omega)
  have b2' := bj 2 (by omega) (by omega)
  have b3' := bj 3 (by omega) (by omega)
  have b4' := bj 4 (by omega) (by omega)
  have b5' := bj 5 (by omega) (by omega)
  have b6' := bj 6 (by omega) (by omega)
  have b7' := bj 7 (by omega) (by omega)
  have b8' := bj 8 (by omega) (by omega)
  have brq : bro (c (23 + k)) ↔ (c (23 + k) 1 = 0 ∨ c (23 + k) 5 = 0 ∨ c (23 + k) 2 < c (23 + k) 3 + c (23 + k) 4 ∨ c (23 + k) 6 < c (23 + k) 7 + c (23 + k) 8) := Iff.rfl
  have p9 := sm_149_9 hM
  have p22 := sm_149_22 hM
  have p20 := sm_149_20 hM
  have wk : w32 (11 * k) = 11 * k := wi32 (by omega) (by omega)
  clear d3 e1 tj tb bj hr hm
  generalize tcp c 48 (23 + k) = c1 at *
  generalize c (23 + k) = t at *
  have Bk := s_isBroken 48 c1 (g_1 L) (k_48 L) (by intro j j0 j1; clear hI hI1 hr1 hm1 T; rcases (by omega : j = 1 ∨ j = 2 ∨ j = 3 ∨ j = 4 ∨ j = 5 ∨ j = 6 ∨ j = 7 ∨ j = 8) with rfl | rfl | rfl | rfl | rfl | rfl | rfl | rfl <;> omega)
  have x2 := sx_45_2 hX1
  have x1 := sx_45_1 hX1
  obtain ⟨zz, hzz⟩ := hz_any L 48 c1 (by omega) (k_48 L) (by rw [t0]; exact b0) (by rw [t0]; exact b1) (by rw [t1, t2]; omega) (by rw [t1, t2]; omega) (by rw [t5, t6]; omega) (by rw [t5, t6]; omega)
  have d10 : 0 ≤ 11 * k + 10 ∧ 11 * k + 10 < 286 := by omega
  have d9 : 0 ≤ 11 * k + 9 ∧ 11 * k + 9 < 286 := by omega
  have w10 : w32 (11 * k + 10) = 11 * k + 10 := wi32 (by omega) (by omega)
  have w9 : w32 (11 * k + 9) = 11 * k + 9 := wi32 (by omega) (by omega)
  have mz3 : ∀ z, mset c1 45 3 z 45 2 = 48 := fun z => by rw [ms_nk _ _ _ _ _ _ (by omega)]; exact x2
  have mz1 : ∀ z, mset c1 45 3 z 45 1 = 47 := fun z => by rw [ms_nk _ _ _ _ _ _ (by omega)]; exact x1
  have mz8 : ∀ z, mset c1 45 3 z 48 = c1 48 := fun z => ms_row _ _ _ _ _ (by omega)
  have mz7 : ∀ z, mset c1 45 3 z 47 = c1 47 := fun z => ms_row _ _ _ _ _ (by omega)
  have Bk2 := s_isBroken 48 (mset c1 45 3 zz) (g_1 L) (k_48 L) (by rw [mz8]; intro j j0 j1; clear hI hI1 hr1 hm1 T Bk; rcases (by omega : j = 1 ∨ j = 2 ∨ j = 3 ∨ j = 4 ∨ j = 5 ∨ j = 6 ∨ j = 7 ∨ j = 8) with rfl | rfl | rfl | rfl | rfl | rfl | rfl | rfl <;> omega)
  rw [mz8] at Bk2
  by_cases z : r 153 (11 * k + 10) = 1
  · -- broken
    have bt : brb (c1 48) = true := by
      have := (e4.1 z)
      rw [brb_i]; unfold bro; rw [t1, t2, t3, t4, t5, t6, t7, t8]; exact this
    rw [if_pos bt] at Bk2
    have cb0 := hI.2.2.2.1 0 (by omega) (by omega)
    have wi : w32 (c1 47 0 + 1) = c1 47 0 + 1 := by rw [c47]; exact wi32 (by omega) (by omega)
    have wi2 : w32 (r 159 0 + 1) = r 159 0 + 1 := wi32 (by omega) (by omega)
    refine ⟨c1, mset (mset c1 45 3 zz) 47 0 (c1 47 0 + 1), mset r 159 0 (r 159 0 + 1), s, T, c16, c45, ?_, ?_, ?_, g1.tr ⟨fun a ha => by rw [ms_row _ _ _ _ _ (by omega), ms_row _ _ _ _ _ (by omega)], fun k hk => by rw [ms_row _ _ _ _ _ (by omega), ms_nk _ _ _ _ _ _ (by omega)], fun j j0 j1 => by rw [ms_row _ _ _ _ _ (by omega), ms_row _ _ _ _ _ (by omega)]⟩, ⟨fun a ha => ms_row _ _ _ _ _ (by omega), fun k hk => by rw [ms_row _ _ _ _ _ (by omega)]⟩⟩
    · have Wy : ev 39 0 [some (vR 45), some (vR 16)] [] (mset c1 45 3 zz) (g_1 L) = some (some (vI 0), mset c1 45 3 zz, g_1 L) := by
        simp only [xe_39_0, xe_39_1, xe_39_4, xe_39_7, xe_39_10, xe_39_11, xe_39_12, xe_39_13, xe_39_16, xe_39_19, xe_39_22, xe_39_23, xe_39_24, xe_39_25, xe_39_26, xe_39_29, xe_39_30, xe_39_33, xe_39_36, xe_39_37, xe_39_40, xe_39_43, xe_39_46, xe_39_49, xe_39_50, xe_39_51, xe_39_52, xe_39_55, xe_39_58, xe_39_59, xe_39_62, xe_39_65, xe_39_66, xe_39_69, xe_39_72, xe_39_73, xe_39_74, xe_39_75, xe_39_76, xe_39_79, xe_39_82, xe_39_83, xe_39_86, xe_39_89, xe_39_90, xe_39_93, xe_39_96, xe_39_97, xe_39_100, xe_39_101, xe_39_102, xe_39_103, xe_39_106, xe_39_108, xe_39_111, xe_39_113, xe_39_116, xe_39_117, ite_self, mm_nL_I, mm_nL_R, mm_nL_0, Option.bind_some, Option.bind_none, bnd_ite, Option.toList_some, Option.toList_none, List.cons_append, List.nil_append, mm_cats_nil, mm_cats_I, mm_cats_L, mm_cats_R, if_true, if_false, true_and, and_true, false_and, and_false, not_true_eq_false, not_false_eq_true, Int.reduceLE, Int.reduceLT, Int.reduceEq, Int.reduceNe, Int.reduceNeg, Int.reduceAdd, Int.reduceSub, Int.reduceMul, Nat.reduceAdd, Nat.reduceLeDiff, true_or, or_true, false_or, or_false, reduceIte, k_45, k_48, mz3, Bk2]
      simp only [xe_38_0, xe_38_1, xe_38_2, xe_38_5, xe_38_8, xe_38_11, xe_38_12, xe_38_13, xe_38_16 _ _ _ (some (vI _)) _ _ _ _ _ rfl, xe_38_16 _ _ _ (some (vR _)) _ _ _ _ _ rfl, xe_38_16 _ _ _ none _ _ _ _ _ rfl, xe_38_18, xe_38_20, xe_38_23, xe_38_25, xe_38_26, xe_38_29, xe_38_30, xe_38_33, xe_38_34, xe_38_37, xe_38_39, xe_38_40, xe_38_41, xe_38_42, xe_38_43, xe_38_44, xe_38_47, xe_38_48, xe_38_51, xe_38_54, xe_38_55, xe_38_58, xe_38_59, xe_38_62, xe_38_63, xe_38_66, xe_38_67, xe_38_68, xe_38_69, xe_38_72, ite_self, mm_nL_I, mm_nL_R, mm_nL_0, Option.bind_some, Option.bind_none, bnd_ite, Option.toList_some, Option.toList_none, List.cons_append, List.nil_append, mm_cats_nil, mm_cats_I, mm_cats_L, mm_cats_R, if_true, if_false, true_and, and_true, false_and, and_false, not_true_eq_false, not_false_eq_true, Int.reduceLE, Int.reduceLT, Int.reduceEq, Int.reduceNe, Int.reduceNeg, Int.reduceAdd, Int.reduceSub, Int.reduceMul, Nat.reduceAdd, Nat.reduceLeDiff, true_or, or_true, false_or, or_false, reduceIte, k_45, k_47, l_47, k_48, k_16, x2, hzz, Wy, mz1, mz7, wi]
    · simp only [xe_173_0, xe_173_2, xe_173_3, xe_173_4 _ (some (vI _)) _ _ _ _ _ _ rfl, xe_173_4 _ (some (vR _)) _ _ _ _ _ _ rfl, xe_173_4 _ none _ _ _ _ _ _ rfl, xe_173_5, xe_173_6, xe_173_9, xe_173_10, xe_173_12, xe_173_13, xe_173_14, xe_173_15, xe_173_18, xe_173_19, xe_173_22, xe_173_23, xe_173_24, xe_173_25, xe_173_26, xe_173_27, xe_173_28, xe_173_31, xe_173_32, xe_173_35, xe_173_36, xe_173_38, xe_173_39, xe_173_40, xe_173_41, xe_173_44, xe_173_45, xe_173_48, xe_173_49, xe_173_50, xe_173_51, xe_173_52, xe_173_53, xe_173_54, xe_173_57, xe_173_58, xe_173_59, xe_173_62, xe_173_63, xe_173_64, xe_173_65, xe_173_66, xe_173_67, xe_173_70, xe_173_71, xe_173_72, xe_173_73, xe_173_74, xe_173_75, xe_173_78, xe_173_79, xe_173_80, xe_173_81, xe_173_84, xe_173_85, xe_173_86, xe_173_87, xe_173_88, xe_173_89, xe_173_92, xe_173_93, xe_173_94, xe_173_95, xe_173_96, xe_173_97, xe_173_98, xe_173_99, xe_173_100, xe_173_103, xe_173_104, xe_173_105, xe_173_106, xe_173_107, xe_173_108, xe_173_111, xe_173_112, xe_173_113, xe_173_114, xe_173_115, xe_173_116, xe_173_117, xe_173_118, xe_173_119, xe_173_120, xe_173_123, xe_173_126, xe_173_127, xe_173_130, xe_173_131, xe_173_134 _ _ (some (vI _)) _ _ _ _ _ rfl, xe_173_134 _ _ (some (vR _)) _ _ _ _ _ rfl, xe_173_134 _ _ none _ _ _ _ _ rfl, xe_173_135, xe_173_136, xe_173_139, xe_173_140, xe_173_141, xe_173_144, xe_173_145, xe_173_146, xe_173_147, xe_173_148, xe_173_149, xe_173_150, xe_173_151, xe_173_154, xe_173_155, xe_173_156, xe_173_157, xe_173_158, xe_173_159, xe_173_160, xe_173_161, xe_173_164, xe_173_165, xe_173_166, xe_173_167, xe_173_168, xe_173_169, xe_173_170, xe_173_171, xe_173_174, xe_173_175, xe_173_176, xe_173_177, xe_173_178, xe_173_179, xe_173_180, xe_173_183, xe_173_184, xe_173_187, xe_173_188, xe_173_191, xe_173_192, xe_173_194, xe_173_197, xe_173_200, xe_173_201, xe_173_204, xe_173_206, xe_173_207, xe_173_210, xe_173_211, xe_173_212, xe_173_213, xe_173_215, xe_173_216, xe_173_217, xe_173_218, ite_self, mm_nL_I, mm_nL_R, mm_nL_0, Option.bind_some, Option.bind_none, bnd_ite, Option.toList_some, Option.toList_none, List.cons_append, List.nil_append, mm_cats_nil, mm_cats_I, mm_cats_L, mm_cats_R, if_true, if_false, true_and, and_true, false_and, and_false, not_true_eq_false, not_false_eq_true, Int.reduceLE, Int.reduceLT, Int.reduceEq, Int.reduceNe, Int.reduceNeg, Int.reduceAdd, Int.reduceSub, Int.reduceMul, Nat.reduceAdd, Nat.reduceLeDiff, true_or, or_true, false_or, or_false, reduceIte, k_149, k_153, l_153, k_159, l_159, p9, p22, wk, w10, d10, z, wi2]
    · rw [c47]; exact st_out hI K5 (mset c1 45 3 zz) 0 (by omega) (by omega) (by rw [ms_nk _ _ _ _ _ _ (by omega), c45]) (by rw [ms_row _ _ _ _ _ (by omega), c46]) (by rw [ms_row _ _ _ _ _ (by omega), c47]) (fun a a0 a1 => by rw [ms_row _ _ _ _ _ (by omega), c49 a a0 a1])
  · have nb : ¬ bro t := fun q => z (e4.2 q)
    have bf : brb (c1 48) = false := by
      cases q : brb (c1 48)
      · rfl
      · exfalso; apply nb
        rw [brb_i] at q; unfold bro at q ⊢; rw [t1, t2, t3, t4, t5, t6, t7, t8] at q; exact q
    rw [bf] at Bk2
    have Bk3 : ev 68 0 [some (vR 48)] [] (mset c1 45 3 zz) (g_1 L) = some (some (vI 0), mset c1 45 3 zz, g_1 L) := Bk2
    by_cases i9 : t 9 = 1
    · -- interlaced
      have r9' : r 153 (11 * k + 9) = 1 := by rw [← r9]; exact i9
      have c19 : c1 48 9 = 1 := by rw [t9]; exact i9
      have cb0 := hI.2.2.2.1 2 (by omega) (by omega)
      have wi : w32 (c1 47 2 + 1) = c1 47 2 + 1 := by rw [c47]; exact wi32 (by omega) (by omega)
      have wi2 : w32 (r 159 2 + 1) = r 159 2 + 1 := wi32 (by omega) (by omega)
      refine ⟨c1, mset (mset c1 45 3 zz) 47 2 (c1 47 2 + 1), mset r 159 2 (r 159 2 + 1), s, T, c16, c45, ?_, ?_, ?_, g1.tr ⟨fun a ha => by rw [ms_row _ _ _ _ _ (by omega), ms_row _ _ _ _ _ (by omega)], fun k hk => by rw [ms_row _ _ _ _ _ (by omega), ms_nk _ _ _ _ _ _ (by omega)], fun j j0 j1 => by rw [ms_row _ _ _ _ _ (by omega), ms_row _ _ _ _ _ (by omega)]⟩, ⟨fun a ha => ms_row _ _ _ _ _ (by omega), fun k hk => by rw [ms_row _ _ _ _ _ (by omega)]⟩⟩
      · have Wy : ev 39 0 [some (vR 45), some (vR 16)] [] (mset c1 45 3 zz) (g_1 L) = some (some (vI 2), mset c1 45 3 zz, g_1 L) := by
          simp only [xe_39_0, xe_39_1, xe_39_4, xe_39_7, xe_39_10, xe_39_11, xe_39_12, xe_39_13, xe_39_16, xe_39_19, xe_39_22, xe_39_23, xe_39_24, xe_39_25, xe_39_26, xe_39_29, xe_39_30, xe_39_33, xe_39_36, xe_39_37, xe_39_40, xe_39_43, xe_39_46, xe_39_49, xe_39_50, xe_39_51, xe_39_52, xe_39_55, xe_39_58, xe_39_59, xe_39_62, xe_39_65, xe_39_66, xe_39_69, xe_39_72, xe_39_73, xe_39_74, xe_39_75, xe_39_76, xe_39_79, xe_39_82, xe_39_83, xe_39_86, xe_39_89, xe_39_90, xe_39_93, xe_39_96, xe_39_97, xe_39_100, xe_39_101, xe_39_102, xe_39_103, xe_39_106, xe_39_108, xe_39_111, xe_39_113, xe_39_116, xe_39_117, ite_self, mm_nL_I, mm_nL_R, mm_nL_0, Option.bind_some, Option.bind_none, bnd_ite, Option.toList_some, Option.toList_none, List.cons_append, List.nil_append, mm_cats_nil, mm_cats_I, mm_cats_L, mm_cats_R, if_true, if_false, true_and, and_true, false_and, and_false, not_true_eq_false, not_false_eq_true, Int.reduceLE, Int.reduceLT, Int.reduceEq, Int.reduceNe, Int.reduceNeg, Int.reduceAdd, Int.reduceSub, Int.reduceMul, Nat.reduceAdd, Nat.reduceLeDiff, true_or, or_true, false_or, or_false, reduceIte, k_45, k_48, mz3, Bk3, mz8, c19]
        simp only [xe_38_0, xe_38_1, xe_38_2, xe_38_5, xe_38_8, xe_38_11, xe_38_12, xe_38_13, xe_38_16 _ _ _ (some (vI _)) _ _ _ _ _ rfl, xe_38_16 _ _ _ (some (vR _)) _ _ _ _ _ rfl, xe_38_16 _ _ _ none _ _ _ _ _ rfl, xe_38_18, xe_38_20, xe_38_23, xe_38_25, xe_38_26, xe_38_29, xe_38_30, xe_38_33, xe_38_34, xe_38_37, xe_38_39, xe_38_40, xe_38_41, xe_38_42, xe_38_43, xe_38_44, xe_38_47, xe_38_48, xe_38_51, xe_38_54, xe_38_55, xe_38_58, xe_38_59, xe_38_62, xe_38_63, xe_38_66, xe_38_67, xe_38_68, xe_38_69, xe_38_72, ite_self, mm_nL_I, mm_nL_R, mm_nL_0, Option.bind_some, Option.bind_none, bnd_ite, Option.toList_some, Option.toList_none, List.cons_append, List.nil_append, mm_cats_nil, mm_cats_I, mm_cats_L, mm_cats_R, if_true, if_false, true_and, and_true, false_and, and_false, not_true_eq_false, not_false_eq_true, Int.reduceLE, Int.reduceLT, Int.reduceEq, Int.reduceNe, Int.reduceNeg, Int.reduceAdd, Int.reduceSub, Int.reduceMul, Nat.reduceAdd, Nat.reduceLeDiff, true_or, or_true, false_or, or_false, reduceIte, k_45, k_47, l_47, k_48, k_16, x2, hzz, Wy, mz1, mz7, wi]
      · simp only [xe_173_0, xe_173_2, xe_173_3, xe_173_4 _ (some (vI _)) _ _ _ _ _ _ rfl, xe_173_4 _ (some (vR _)) _ _ _ _ _ _ rfl, xe_173_4 _ none _ _ _ _ _ _ rfl, xe_173_5, xe_173_6, xe_173_9, xe_173_10, xe_173_12, xe_173_13, xe_173_14, xe_173_15, xe_173_18, xe_173_19, xe_173_22, xe_173_23, xe_173_24, xe_173_25, xe_173_26, xe_173_27, xe_173_28, xe_173_31, xe_173_32, xe_173_35, xe_173_36, xe_173_38, xe_173_39, xe_173_40, xe_173_41, xe_173_44, xe_173_45, xe_173_48, xe_173_49, xe_173_50, xe_173_51, xe_173_52, xe_173_53, xe_173_54, xe_173_57, xe_173_58, xe_173_59, xe_173_62, xe_173_63, xe_173_64, xe_173_65, xe_173_66, xe_173_67, xe_173_70, xe_173_71, xe_173_72, xe_173_73, xe_173_74, xe_173_75, xe_173_78, xe_173_79, xe_173_80, xe_173_81, xe_173_84, xe_173_85, xe_173_86, xe_173_87, xe_173_88, xe_173_89, xe_173_92, xe_173_93, xe_173_94, xe_173_95, xe_173_96, xe_173_97, xe_173_98, xe_173_99, xe_173_100, xe_173_103, xe_173_104, xe_173_105, xe_173_106, xe_173_107, xe_173_108, xe_173_111, xe_173_112, xe_173_113, xe_173_114, xe_173_115, xe_173_116, xe_173_117, xe_173_118, xe_173_119, xe_173_120, xe_173_123, xe_173_126, xe_173_127, xe_173_130, xe_173_131, xe_173_134 _ _ (some (vI _)) _ _ _ _ _ rfl, xe_173_134 _ _ (some (vR _)) _ _ _ _ _ rfl, xe_173_134 _ _ none _ _ _ _ _ rfl, xe_173_135, xe_173_136, xe_173_139, xe_173_140, xe_173_141, xe_173_144, xe_173_145, xe_173_146, xe_173_147, xe_173_148, xe_173_149, xe_173_150, xe_173_151, xe_173_154, xe_173_155, xe_173_156, xe_173_157, xe_173_158, xe_173_159, xe_173_160, xe_173_161, xe_173_164, xe_173_165, xe_173_166, xe_173_167, xe_173_168, xe_173_169, xe_173_170, xe_173_171, xe_173_174, xe_173_175, xe_173_176, xe_173_177, xe_173_178, xe_173_179, xe_173_180, xe_173_183, xe_173_184, xe_173_187, xe_173_188, xe_173_191, xe_173_192, xe_173_194, xe_173_197, xe_173_200, xe_173_201, xe_173_204, xe_173_206, xe_173_207, xe_173_210, xe_173_211, xe_173_212, xe_173_213, xe_173_215, xe_173_216, xe_173_217, xe_173_218, ite_self, mm_nL_I, mm_nL_R, mm_nL_0, Option.bind_some, Option.bind_none, bnd_ite, Option.toList_some, Option.toList_none, List.cons_append, List.nil_append, mm_cats_nil, mm_cats_I, mm_cats_L, mm_cats_R, if_true, if_false, true_and, and_true, false_and, and_false, not_true_eq_false, not_false_eq_true, Int.reduceLE, Int.reduceLT, Int.reduceEq, Int.reduceNe, Int.reduceNeg, Int.reduceAdd, Int.reduceSub, Int.reduceMul, Nat.reduceAdd, Nat.reduceLeDiff, true_or, or_true, false_or, or_false, reduceIte, k_149, k_153, l_153, k_159, l_159, p9, p22, wk, w10, w9, d10, d9, z, r9', wi2]
      · rw [c47]; exact st_out hI K5 (mset c1 45 3 zz) 2 (by omega) (by omega) (by rw [ms_nk _ _ _ _ _ _ (by omega), c45]) (by rw [ms_row _ _ _ _ _ (by omega), c46]) (by rw [ms_row _ _ _ _ _ (by omega), c47]) (fun a a0 a1 => by rw [ms_row _ _ _ _ _ (by omega), c49 a a0 a1])
    · -- it may be a mode
      have r9' : ¬ r 153 (11 * k + 9) = 1 := by rw [← r9]; exact i9
      have nb' : ¬ (t 1 = 0 ∨ t 5 = 0 ∨ t 2 < t 3 + t 4 ∨ t 6 < t 7 + t 8) := nb
      have hc : ct (c1 48) := by
        unfold ct
        rw [t0, t1, t2, t3, t4, t5, t6, t7, t8, t9]
        clear hI hI1 hr1 hm1 T Bk Bk2 Bk3 hzz r0 r1 r2 r3 r4 r5 r6 r7 r8 r9
        omega
      clear Bk Bk2 Bk3 hzz e4 e3 brq nb
      generalize hsrc : (if k < c 16 7 then (0 : Int) else 1) = src at *
      have s0 : 0 ≤ src ∧ src ≤ 4 := by rw [← hsrc]; split <;> omega
      generalize hpf : (if k = 0 ∧ hcl F 54 = true then (1 : Int) else 0) = pf at *
      have hp : pf = 0 ∨ pf = 1 := by rw [← hpf]; split; exact Or.inr rfl; exact Or.inl rfl
      have O := s_offM L src s c1 r (c1 48) hM hc hI1.2.1 hI1.2.2.1 hr1 hm1 (fun i i0 i1 => by have := hI1.2.2.2.1 i i0 i1; rw [← this.1]; omega)
      have OA : acc r (c1 48) src s = mset (f12 r (12 * (s : Int)) (ofv (c1 48 1) (c1 48 5) (c1 48 0) (c1 48 1 + c1 48 2) (c1 48 5 + c1 48 6) src (hz (c1 48)))) 149 23 ((s : Int) + 1) := rfl
      rw [← OA] at O
      have q1 : w32 (11 * k + 1) = 11 * k + 1 := wi32 (by omega) (by omega)
      have q2 : w32 (11 * k + 1 + 1) = 11 * k + 2 := by rw [wi32 (by omega) (by omega)]; omega
      have q3 : w32 (11 * k + 1 + 2) = 11 * k + 3 := by rw [wi32 (by omega) (by omega)]; omega
      have q4 : w32 (11 * k + 1 + 3) = 11 * k + 4 := by rw [wi32 (by omega) (by omega)]; omega
      have q5 : w32 (11 * k + 5) = 11 * k + 5 := wi32 (by omega) (by omega)
      have q6 : w32 (11 * k + 5 + 1) = 11 * k + 6 := by rw [wi32 (by omega) (by omega)]; omega
      have q7 : w32 (11 * k + 5 + 2) = 11 * k + 7 := by rw [wi32 (by omega) (by omega)]; omega
      have q8 : w32 (11 * k + 5 + 3) = 11 * k + 8 := by rw [wi32 (by omega) (by omega)]; omega
      have v0 : 0 ≤ 11 * k ∧ 11 * k < 286 := by omega
      have v1 : 0 ≤ 11 * k + 1 ∧ 11 * k + 1 < 286 := by omega
      have v2 : 0 ≤ 11 * k + 2 ∧ 11 * k + 2 < 286 := by omega
      have v3 : 0 ≤ 11 * k + 3 ∧ 11 * k + 3 < 286 := by omega
      have v4 : 0 ≤ 11 * k + 4 ∧ 11 * k + 4 < 286 := by omega
      have v5 : 0 ≤ 11 * k + 5 ∧ 11 * k + 5 < 286 := by omega
      have v6 : 0 ≤ 11 * k + 6 ∧ 11 * k + 6 < 286 := by omega
      have v7 : 0 ≤ 11 * k + 7 ∧ 11 * k + 7 < 286 := by omega
      have v8 : 0 ≤ 11 * k + 8 ∧ 11 * k + 8 < 286 := by omega
      have wh : w32 (t 1 + t 2) = t 1 + t 2 := wi32 (by omega) (by omega)
      have wvv : w32 (t 5 + t 6) = t 5 + t 6 := wi32 (by omega) (by omega)
      -- up to the offer
      have pre : ev 173 0 [some (vR 149), some (vI k), none, none] [] r (g_1 L) = (ev 171 0 [some (vR 149), some (vI (t 1)), some (vI (t 5)), some (vI (t 0)), some (vI (t 1 + t 2)), some (vI (t 5 + t 6)), some (vI src), none, none, none, none] [] r (g_1 L)).bind (fun q => ev 173 134 [some (vR 149), some (vI k), some (vI (11 * k)), none] (q.1.toList ++ []) q.2.1 q.2.2) := by
        by_cases kb : k < c 16 7
        · have kb' : ¬ r 149 19 ≤ k := by rw [← hb]; omega
          rw [if_pos kb] at hsrc
          rw [← hsrc]
          simp only [xe_173_0, xe_173_2, xe_173_3, xe_173_4 _ (some (vI _)) _ _ _ _ _ _ rfl, xe_173_4 _ (some (vR _)) _ _ _ _ _ _ rfl, xe_173_4 _ none _ _ _ _ _ _ rfl, xe_173_5, xe_173_6, xe_173_9, xe_173_10, xe_173_12, xe_173_13, xe_173_14, xe_173_15, xe_173_18, xe_173_19, xe_173_22, xe_173_23, xe_173_24, xe_173_25, xe_173_26, xe_173_27, xe_173_28, xe_173_31, xe_173_32, xe_173_35, xe_173_36, xe_173_38, xe_173_39, xe_173_40, xe_173_41, xe_173_44, xe_173_45, xe_173_48, xe_173_49, xe_173_50, xe_173_51, xe_173_52, xe_173_53, xe_173_54, xe_173_57, xe_173_58, xe_173_59, xe_173_62, xe_173_63, xe_173_64, xe_173_65, xe_173_66, xe_173_67, xe_173_70, xe_173_71, xe_173_72, xe_173_73, xe_173_74, xe_173_75, xe_173_78, xe_173_79, xe_173_80, xe_173_81, xe_173_84, xe_173_85, xe_173_86, xe_173_87, xe_173_88, xe_173_89, xe_173_92, xe_173_93, xe_173_94, xe_173_95, xe_173_96, xe_173_97, xe_173_98, xe_173_99, xe_173_100, xe_173_103, xe_173_104, xe_173_105, xe_173_106, xe_173_107, xe_173_108, xe_173_111, xe_173_112, xe_173_113, xe_173_114, xe_173_115, xe_173_116, xe_173_117, xe_173_118, xe_173_119, xe_173_120, xe_173_123, xe_173_126, xe_173_127, xe_173_130, xe_173_131, xe_173_218, ite_self, mm_nL_I, mm_nL_R, mm_nL_0, Option.bind_some, Option.bind_none, bnd_ite, Option.toList_some, Option.toList_none, List.cons_append, List.nil_append, mm_cats_nil, mm_cats_I, mm_cats_L, mm_cats_R, if_true, if_false, true_and, and_true, false_and, and_false, not_true_eq_false, not_false_eq_true, Int.reduceLE, Int.reduceLT, Int.reduceEq, Int.reduceNe, Int.reduceNeg, Int.reduceAdd, Int.reduceSub, Int.reduceMul, Nat.reduceAdd, Nat.reduceLeDiff, true_or, or_true, false_or, or_false, reduceIte, k_149, k_153, l_153, p9, wk, w10, w9, d10, d9, z, r9', q1, q2, q5, q6, v0, v1, v2, v5, v6, ← r0, ← r1, ← r2, ← r5, ← r6, wh, wvv, kb']
        · have kb' : r 149 19 ≤ k := by rw [← hb]; omega
          rw [if_neg kb] at hsrc
          rw [← hsrc]
          simp only [xe_173_0, xe_173_2, xe_173_3, xe_173_4 _ (some (vI _)) _ _ _ _ _ _ rfl, xe_173_4 _ (some (vR _)) _ _ _ _ _ _ rfl, xe_173_4 _ none _ _ _ _ _ _ rfl, xe_173_5, xe_173_6, xe_173_9, xe_173_10, xe_173_12, xe_173_13, xe_173_14, xe_173_15, xe_173_18, xe_173_19, xe_173_22, xe_173_23, xe_173_24, xe_173_25, xe_173_26, xe_173_27, xe_173_28, xe_173_31, xe_173_32, xe_173_35, xe_173_36, xe_173_38, xe_173_39, xe_173_40, xe_173_41, xe_173_44, xe_173_45, xe_173_48, xe_173_49, xe_173_50, xe_173_51, xe_173_52, xe_173_53, xe_173_54, xe_173_57, xe_173_58, xe_173_59, xe_173_62, xe_173_63, xe_173_64, xe_173_65, xe_173_66, xe_173_67, xe_173_70, xe_173_71, xe_173_72, xe_173_73, xe_173_74, xe_173_75, xe_173_78, xe_173_79, xe_173_80, xe_173_81, xe_173_84, xe_173_85, xe_173_86, xe_173_87, xe_173_88, xe_173_89, xe_173_92, xe_173_93, xe_173_94, xe_173_95, xe_173_96, xe_173_97, xe_173_98, xe_173_99, xe_173_100, xe_173_103, xe_173_104, xe_173_105, xe_173_106, xe_173_107, xe_173_108, xe_173_111, xe_173_112, xe_173_113, xe_173_114, xe_173_115, xe_173_116, xe_173_117, xe_173_118, xe_173_119, xe_173_120, xe_173_123, xe_173_126, xe_173_127, xe_173_130, xe_173_131, xe_173_218, ite_self, mm_nL_I, mm_nL_R, mm_nL_0, Option.bind_some, Option.bind_none, bnd_ite, Option.toList_some, Option.toList_none, List.cons_append, List.nil_append, mm_cats_nil, mm_cats_I, mm_cats_L, mm_cats_R, if_true, if_false, true_and, and_true, false_and, and_false, not_true_eq_false, not_false_eq_true, Int.reduceLE, Int.reduceLT, Int.reduceEq, Int.reduceNe, Int.reduceNeg, Int.reduceAdd, Int.reduceSub, Int.reduceMul, Nat.reduceAdd, Nat.reduceLeDiff, true_or, or_true, false_or, or_false, reduceIte, k_149, k_153, l_153, p9, wk, w10, w9, d10, d9, z, r9', q1, q2, q5, q6, v0, v1, v2, v5, v6, ← r0, ← r1, ← r2, ← r5, ← r6, wh, wvv, kb']
      by_cases e : wv c1 r (c1 48) s = -1
      · rw [if_pos e] at O
        have s40 : (s : Int) < 40 := by
          have := hI1.2.2.1
          by_cases zz : (s : Int) = 40
          · exfalso
            unfold wv at e
            rw [if_pos zz] at e
            clear hI hI1 hr1 hm1 T O OA hc pre
            revert e
            (repeat' split) <;> omega
          · omega
        have a23 := acc_23 r (c1 48) src s
        have FR := s_lays4 L (s : Int) (c1 48 3) (c1 48 4) (c1 48 7) (c1 48 8) (acc r (c1 48) src s) (by rw [acc_k _ _ _ _ _ (by omega)]; exact p20) a23 (by omega) s40
        generalize hR2 : lfr (acc r (c1 48) src s) (12 * (s : Int)) (c1 48 3) (c1 48 4) (c1 48 7) (c1 48 8) = R2 at *
        have R29 : ∀ j, R2 149 j = acc r (c1 48) src s 149 j := fun j => by rw [← hR2, lfr_b _ _ _ _ _ _ _ (by omega)]
        have R2b : ∀ b, ¬ b = 149 → ¬ b = 157 → R2 b = r b := fun b h1 h2 => by rw [← hR2, lfr_b _ _ _ _ _ _ _ h2, acc_b _ _ _ _ _ h1 h2]
        have R2lo : ∀ j, 0 ≤ j → j < 12 * (s : Int) → R2 157 j = r 157 j := fun j j0 j1 => by
          rw [← hR2, lfr_k, if_neg (by omega), if_neg (by omega), if_neg (by omega), if_neg (by omega), acc_lo _ _ _ _ _ j1]
        have R2m : ∀ p, ∀ i, 0 ≤ i → i < 12 → mset R2 157 (12 * (s : Int) + 7) p 157 (12 * (s : Int) + i) = mdv2 (c1 48) src p i := fun p i i0 i1 => by rw [← hR2]; exact acc_md r (c1 48) src p s i i0 i1
        have R20 : ∀ i, 0 ≤ i → i < 12 → R2 157 (12 * (s : Int) + i) = mdv2 (c1 48) src 0 i := fun i i0 i1 => by rw [← hR2]; exact acc_m0 r (c1 48) src s i i0 i1
        have hP2 : PM R2 n F := by
          unfold PM YB at *
          rw [R2b 152 (by omega) (by omega), R29, R29, R29, R29, R29, acc_k _ _ _ _ _ (by omega), acc_k _ _ _ _ _ (by omega), acc_k _ _ _ _ _ (by omega), acc_k _ _ _ _ _ (by omega), acc_k _ _ _ _ _ (by omega)]; exact hP
        have ID := s_isDe (L := L) hP2 54 (by omega) (by omega)
        have R220 : R2 149 20 = 157 := by rw [R29, acc_k _ _ _ _ _ (by omega)]; exact p20
        have R223 : R2 149 23 = (s : Int) + 1 := by rw [R29]; exact a23
        have Ap9 : acc r (c1 48) src s 149 9 = 153 := by rw [acc_k _ _ _ _ _ (by omega)]; exact p9
        have A153 : acc r (c1 48) src s 153 = r 153 := acc_b _ _ _ _ _ (by omega) (by omega)
        have y0 : w32 ((s : Int) + 1 - 1) = (s : Int) := by rw [wi32 (by omega) (by omega)]; omega
        have y1 : w32 (12 * (s : Int)) = 12 * (s : Int) := wi32 (by omega) (by omega)
        have y2 : w32 (12 * (s : Int) + 7) = 12 * (s : Int) + 7 := wi32 (by omega) (by omega)
        have y3 : 0 ≤ 12 * (s : Int) + 7 ∧ 12 * (s : Int) + 7 < 480 := by omega
        rw [t0, t1, t2, t5, t6] at O
        rw [O] at pre
        have mid : ev 173 0 [some (vR 149), some (vI k), none, none] [] r (g_1 L) = ev 173 183 [some (vR 149), some (vI k), some (vI (11 * k)), some (vI 1)] [] R2 (g_1 L) := by
          rw [pre]
          rw [t3, t4, t7, t8] at FR
          simp only [xe_173_134 _ _ (some (vI _)) _ _ _ _ _ rfl, xe_173_134 _ _ (some (vR _)) _ _ _ _ _ rfl, xe_173_134 _ _ none _ _ _ _ _ rfl, xe_173_135, xe_173_136, xe_173_139, xe_173_140, xe_173_141, xe_173_144, xe_173_145, xe_173_146, xe_173_147, xe_173_148, xe_173_149, xe_173_150, xe_173_151, xe_173_154, xe_173_155, xe_173_156, xe_173_157, xe_173_158, xe_173_159, xe_173_160, xe_173_161, xe_173_164, xe_173_165, xe_173_166, xe_173_167, xe_173_168, xe_173_169, xe_173_170, xe_173_171, xe_173_174, xe_173_175, xe_173_176, xe_173_177, xe_173_178, xe_173_179, xe_173_180, ite_self, mm_nL_I, mm_nL_R, mm_nL_0, Option.bind_some, Option.bind_none, bnd_ite, Option.toList_some, Option.toList_none, List.cons_append, List.nil_append, mm_cats_nil, mm_cats_I, mm_cats_L, mm_cats_R, if_true, if_false, true_and, and_true, false_and, and_false, not_true_eq_false, not_false_eq_true, Int.reduceLE, Int.reduceLT, Int.reduceEq, Int.reduceNe, Int.reduceNeg, Int.reduceAdd, Int.reduceSub, Int.reduceMul, Nat.reduceAdd, Nat.reduceLeDiff, true_or, or_true, false_or, or_false, reduceIte, k_149, k_153, l_153, Ap9, A153, q1, q3, q4, q5, q7, q8, v3, v4, v7, v8, ← r3, ← r4, ← r7, ← r8, FR]
        by_cases pp : k = 0 ∧ hcl F 54 = true
        · rw [if_pos pp] at hpf
          rw [if_pos pp.2] at ID
          obtain ⟨c', u1, u2, u3⟩ := st_off1 (L := L) hX1 hc hI1 hr1 hm1 src pf s0.1 s0.2 hp e (mset R2 157 (12 * (s : Int) + 7) pf 157) (fun j j0 j1 => by rw [ms_nk _ _ _ _ _ _ (by omega)]; exact R2lo j j0 j1) (fun i i0 i1 => R2m pf i i0 i1)
          have u4 := u3 (mset R2 157 (12 * (s : Int) + 7) pf) (by rw [ms_row _ _ _ _ _ (by omega)]; exact R223) (by rw [ms_row _ _ _ _ _ (by omega), R2b _ (by omega) (by omega)]) rfl
          refine ⟨c1, c', mset R2 157 (12 * (s : Int) + 7) pf, s + 1, T, c16, c45, u1, ?_, ?_, g1.tr u2, ⟨fun a ha => ?_, fun j hj => ?_⟩⟩
          · rw [mid, ← hpf]
            simp only [xe_173_183, xe_173_184, xe_173_187, xe_173_188, xe_173_191, xe_173_192, xe_173_194, xe_173_197, xe_173_200, xe_173_201, xe_173_204, xe_173_206, xe_173_207, xe_173_210, xe_173_211, xe_173_212, xe_173_213, xe_173_215, xe_173_216, xe_173_217, xe_173_218, ite_self, mm_nL_I, mm_nL_R, mm_nL_0, Option.bind_some, Option.bind_none, bnd_ite, Option.toList_some, Option.toList_none, List.cons_append, List.nil_append, mm_cats_nil, mm_cats_I, mm_cats_L, mm_cats_R, if_true, if_false, true_and, and_true, false_and, and_false, not_true_eq_false, not_false_eq_true, Int.reduceLE, Int.reduceLT, Int.reduceEq, Int.reduceNe, Int.reduceNeg, Int.reduceAdd, Int.reduceSub, Int.reduceMul, Nat.reduceAdd, Nat.reduceLeDiff, true_or, or_true, false_or, or_false, reduceIte, k_149, k_157, l_157, pp.1, ID, R220, R223, y0, y1, y2, y3]
          · obtain ⟨x1, x2, x3, x4, x5, x6⟩ := u4
            exact ⟨x1, x2, x3, fun i i0 i1 => by have := x4 i i0 i1; omega, x5, x6⟩
          · rw [ms_row _ _ _ _ _ (by omega), R2b a (by omega) (by omega)]
          · rw [ms_row _ _ _ _ _ (by omega), R29, acc_k _ _ _ _ _ hj]
        · rw [if_neg pp] at hpf
          obtain ⟨c', u1, u2, u3⟩ := st_off1 (L := L) hX1 hc hI1 hr1 hm1 src pf s0.1 s0.2 hp e (R2 157) R2lo (fun i i0 i1 => by rw [R20 i i0 i1, hpf])
          have u4 := u3 R2 R223 (R2b _ (by omega) (by omega)) rfl
          refine ⟨c1, c', R2, s + 1, T, c16, c45, u1, ?_, ?_, g1.tr u2, ⟨fun a ha => R2b a (by omega) (by omega), fun j hj => by rw [R29, acc_k _ _ _ _ _ hj]⟩⟩
          · rw [mid]
            by_cases k00 : k = 0
            · have h54 : ¬ hcl F 54 = true := fun q => pp ⟨k00, q⟩
              rw [if_neg h54] at ID
              simp only [xe_173_183, xe_173_184, xe_173_187, xe_173_188, xe_173_191, xe_173_192, xe_173_194, xe_173_197, xe_173_200, xe_173_201, xe_173_204, xe_173_206, xe_173_207, xe_173_210, xe_173_211, xe_173_212, xe_173_213, xe_173_215, xe_173_216, xe_173_217, xe_173_218, ite_self, mm_nL_I, mm_nL_R, mm_nL_0, Option.bind_some, Option.bind_none, bnd_ite, Option.toList_some, Option.toList_none, List.cons_append, List.nil_append, mm_cats_nil, mm_cats_I, mm_cats_L, mm_cats_R, if_true, if_false, true_and, and_true, false_and, and_false, not_true_eq_false, not_false_eq_true, Int.reduceLE, Int.reduceLT, Int.reduceEq, Int.reduceNe, Int.reduceNeg, Int.reduceAdd, Int.reduceSub, Int.reduceMul, Nat.reduceAdd, Nat.reduceLeDiff, true_or, or_true, false_or, or_false, reduceIte, k_149, k_157, l_157, k00, ID]
            · simp only [xe_173_183, xe_173_184, xe_173_187, xe_173_188, xe_173_191, xe_173_192, xe_173_194, xe_173_197, xe_173_200, xe_173_201, xe_173_204, xe_173_206, xe_173_207, xe_173_210, xe_173_211, xe_173_212, xe_173_213, xe_173_215, xe_173_216, xe_173_217, xe_173_218, ite_self, mm_nL_I, mm_nL_R, mm_nL_0, Option.bind_some, Option.bind_none, bnd_ite, Option.toList_some, Option.toList_none, List.cons_append, List.nil_append, mm_cats_nil, mm_cats_I, mm_cats_L, mm_cats_R, if_true, if_false, true_and, and_true, false_and, and_false, not_true_eq_false, not_false_eq_true, Int.reduceLE, Int.reduceLT, Int.reduceEq, Int.reduceNe, Int.reduceNeg, Int.reduceAdd, Int.reduceSub, Int.reduceMul, Nat.reduceAdd, Nat.reduceLeDiff, true_or, or_true, false_or, or_false, reduceIte, k_149, k_157, l_157, k00]
          · obtain ⟨x1, x2, x3, x4, x5, x6⟩ := u4
            exact ⟨x1, x2, x3, fun i i0 i1 => by have := x4 i i0 i1; omega, x5, x6⟩
      · rw [if_neg e] at O
        obtain ⟨c', u1, u2, u3⟩ := st_off0 (L := L) hX1 hc hI1 hr1 hm1 K5 src pf e
        rw [t0, t1, t2, t5, t6] at O
        rw [O] at pre
        refine ⟨c1, c', mset r 159 (wv c1 r (c1 48) s) (r 159 (wv c1 r (c1 48) s) + 1), s, T, c16, c45, u1, ?_, u2, g1.tr u3, ⟨fun a ha => ms_row _ _ _ _ _ (by omega), fun j hj => by rw [ms_row _ _ _ _ _ (by omega)]⟩⟩
        rw [pre]
        simp only [xe_173_134 _ _ (some (vI _)) _ _ _ _ _ rfl, xe_173_134 _ _ (some (vR _)) _ _ _ _ _ rfl, xe_173_134 _ _ none _ _ _ _ _ rfl, xe_173_135, xe_173_136, xe_173_139, xe_173_140, xe_173_141, xe_173_144, xe_173_145, xe_173_146, xe_173_147, xe_173_148, xe_173_149, xe_173_150, xe_173_151, xe_173_154, xe_173_155, xe_173_156, xe_173_157, xe_173_158, xe_173_159, xe_173_160, xe_173_161, xe_173_164, xe_173_165, xe_173_166, xe_173_167, xe_173_168, xe_173_169, xe_173_170, xe_173_171, xe_173_174, xe_173_175, xe_173_176, xe_173_177, xe_173_178, xe_173_179, xe_173_180, xe_173_183, xe_173_184, xe_173_187, xe_173_188, xe_173_191, xe_173_192, xe_173_194, xe_173_197, xe_173_200, xe_173_201, xe_173_204, xe_173_206, xe_173_207, xe_173_210, xe_173_211, xe_173_212, xe_173_213, xe_173_215, xe_173_216, xe_173_217, xe_173_218, ite_self, mm_nL_I, mm_nL_R, mm_nL_0, Option.bind_some, Option.bind_none, bnd_ite, Option.toList_some, Option.toList_none, List.cons_append, List.nil_append, mm_cats_nil, mm_cats_I, mm_cats_L, mm_cats_R, if_true, if_false, true_and, and_true, false_and, and_false, not_true_eq_false, not_false_eq_true, Int.reduceLE, Int.reduceLT, Int.reduceEq, Int.reduceNe, Int.reduceNeg, Int.reduceAdd, Int.reduceSub, Int.reduceMul, Nat.reduceAdd, Nat.reduceLeDiff, true_or, or_true, false_or, or_false, reduceIte]
end S2
