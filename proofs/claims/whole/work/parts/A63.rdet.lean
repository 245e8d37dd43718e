/-! load: a detailed timing of the reference -/
def rd9 (r : MM) (d i : Int) (F : Int → Int) : MM := fun b j => if b = 153 ∧ d ≤ j ∧ j ≤ d + 9 then tmg F i (j - d) else r b j
theorem rd9_b (r : MM) (d i : Int) (F : Int → Int) (b : Int) (h : ¬ b = 153) : rd9 r d i F b = r b := by funext j; unfold rd9; rw [if_neg (by omega)]
theorem rd9_k (r : MM) (d i : Int) (F : Int → Int) (k : Int) (h0 : 0 ≤ k) (h1 : k ≤ 9) : rd9 r d i F 153 (d + k) = tmg F i k := by
  unfold rd9; rw [if_pos (by omega), show d + k - d = k by omega]
def fin_ (r : MM) (d : Int) (v : Int → Int) : MM := fun b j => if b = 153 ∧ d ≤ j ∧ j ≤ d + 9 then v (j - d) else r b j
theorem fin10 (r : MM) (d : Int) (v : Int → Int) : mset (mset (mset (mset (mset (mset (mset (mset (mset (mset r 153 d (v 0)) 153 (d + 1) (v 1)) 153 (d + 2) (v 2)) 153 (d + 3) (v 3)) 153 (d + 4) (v 4)) 153 (d + 5) (v 5)) 153 (d + 6) (v 6)) 153 (d + 7) (v 7)) 153 (d + 8) (v 8)) 153 (d + 9) (v 9) = fin_ r d v := by
  funext b j
  unfold fin_
  by_cases hb : b = 153 ∧ d ≤ j ∧ j ≤ d + 9
  · rw [if_pos hb]
    obtain ⟨rfl, j0, j9⟩ := hb
    obtain ⟨m, rfl⟩ : ∃ m, j = d + m := ⟨j - d, by omega⟩
    rw [show d + m - d = m by omega]
    have nn : ∀ (μ : MM) (k v : Int), ¬ m = k → mset μ 153 (d + k) v 153 (d + m) = μ 153 (d + m) := fun μ k v hk => ms_nk _ _ _ _ _ _ (by omega)
    have n0 : ∀ (μ : MM) (v : Int), m = 0 → mset μ 153 d v 153 (d + m) = v := fun μ v hk => by rw [hk, Int.add_zero, ms_eq]
    have q : m = 0 ∨ m = 1 ∨ m = 2 ∨ m = 3 ∨ m = 4 ∨ m = 5 ∨ m = 6 ∨ m = 7 ∨ m = 8 ∨ m = 9 := by omega
    rcases q with rfl | rfl | rfl | rfl | rfl | rfl | rfl | rfl | rfl | rfl
    · rw [nn _ _ _ (by omega), nn _ _ _ (by omega), nn _ _ _ (by omega), nn _ _ _ (by omega), nn _ _ _ (by omega), nn _ _ _ (by omega), nn _ _ _ (by omega), nn _ _ _ (by omega), nn _ _ _ (by omega), n0 _ _ rfl]
    · rw [nn _ _ _ (by omega), nn _ _ _ (by omega), nn _ _ _ (by omega), nn _ _ _ (by omega), nn _ _ _ (by omega), nn _ _ _ (by omega), nn _ _ _ (by omega), nn _ _ _ (by omega), ms_eq]
    · rw [nn _ _ _ (by omega), nn _ _ _ (by omega), nn _ _ _ (by omega), nn _ _ _ (by omega), nn _ _ _ (by omega), nn _ _ _ (by omega), nn _ _ _ (by omega), ms_eq]
    · rw [nn _ _ _ (by omega), nn _ _ _ (by omega), nn _ _ _ (by omega), nn _ _ _ (by omega), nn _ _ _ (by omega), nn _ _ _ (by omega), ms_eq]
    · rw [nn _ _ _ (by omega), nn _ _ _ (by omega), nn _ _ _ (by omega), nn _ _ _ (by omega), nn _ _ _ (by omega), ms_eq]
    · rw [nn _ _ _ (by omega), nn _ _ _ (by omega), nn _ _ _ (by omega), nn _ _ _ (by omega), ms_eq]
    · rw [nn _ _ _ (by omega), nn _ _ _ (by omega), nn _ _ _ (by omega), ms_eq]
    · rw [nn _ _ _ (by omega), nn _ _ _ (by omega), ms_eq]
    · rw [nn _ _ _ (by omega), ms_eq]
    · rw [ms_eq]
  · rw [if_neg hb]
    have z : ∀ (μ : MM) (k v : Int), 0 ≤ k → k ≤ 9 → mset μ 153 (d + k) v b j = μ b j := fun μ k v k0 k9 => ms_ne _ _ _ _ _ _ (fun q => hb ⟨q.1, by omega, by omega⟩)
    rw [z _ _ _ (by omega) (by omega), z _ _ _ (by omega) (by omega), z _ _ _ (by omega) (by omega), z _ _ _ (by omega) (by omega), z _ _ _ (by omega) (by omega), z _ _ _ (by omega) (by omega), z _ _ _ (by omega) (by omega), z _ _ _ (by omega) (by omega), z _ _ _ (by omega) (by omega), ms_ne _ _ _ _ _ _ (fun q => hb ⟨q.1, by omega, by omega⟩)]
theorem s_rdet1 (L n k i : Int) (r : MM) (F : Int → Int) (h : YB r n F) (p9 : r 149 9 = 153) (hk : r 149 13 = k) (k0 : 0 ≤ k) (k1 : k ≤ 25) (i0 : 0 ≤ i) (i1 : i + 18 ≤ n) :
    ev 161 0 [some (vR 149), some (vI i), none, none] [] r (g_1 L) = ev 161 305 [some (vR 149), some (vI i), some (vI (11 * k)), some (vI (F (i + 11)))] [] (rd9 r (11 * k) i F) (g_1 L) := by
  have n5 := h.2.1
  have m9 : ∀ (r : MM) k v, mset r 153 k v 149 = r 149 := fun c k v => ms_row _ _ _ _ _ (by omega)
  have m2 : ∀ (r : MM) k v, mset r 153 k v 152 = r 152 := fun c k v => ms_row _ _ _ _ _ (by omega)
  have wk : w32 (11 * k) = 11 * k := wi32 (by omega) (by omega)
  have A0 := yb_at (L := L) (i := i) h (by omega) (by omega)
  have b0 := (h.2.2 (i) (by omega) (by omega)).2
  have A1 := yb_at (L := L) (i := i + 1) h (by omega) (by omega)
  have b1 := (h.2.2 (i + 1) (by omega) (by omega)).2
  have w1 : w32 (i + 1) = i + 1 := wi32 (by omega) (by omega)
  have A2 := yb_at (L := L) (i := i + 2) h (by omega) (by omega)
  have b2 := (h.2.2 (i + 2) (by omega) (by omega)).2
  have w2 : w32 (i + 2) = i + 2 := wi32 (by omega) (by omega)
  have A3 := yb_at (L := L) (i := i + 3) h (by omega) (by omega)
  have b3 := (h.2.2 (i + 3) (by omega) (by omega)).2
  have w3 : w32 (i + 3) = i + 3 := wi32 (by omega) (by omega)
  have A4 := yb_at (L := L) (i := i + 4) h (by omega) (by omega)
  have b4 := (h.2.2 (i + 4) (by omega) (by omega)).2
  have w4 : w32 (i + 4) = i + 4 := wi32 (by omega) (by omega)
  have A5 := yb_at (L := L) (i := i + 5) h (by omega) (by omega)
  have b5 := (h.2.2 (i + 5) (by omega) (by omega)).2
  have w5 : w32 (i + 5) = i + 5 := wi32 (by omega) (by omega)
  have A6 := yb_at (L := L) (i := i + 6) h (by omega) (by omega)
  have b6 := (h.2.2 (i + 6) (by omega) (by omega)).2
  have w6 : w32 (i + 6) = i + 6 := wi32 (by omega) (by omega)
  have A7 := yb_at (L := L) (i := i + 7) h (by omega) (by omega)
  have b7 := (h.2.2 (i + 7) (by omega) (by omega)).2
  have w7 : w32 (i + 7) = i + 7 := wi32 (by omega) (by omega)
  have A8 := yb_at (L := L) (i := i + 8) h (by omega) (by omega)
  have b8 := (h.2.2 (i + 8) (by omega) (by omega)).2
  have w8 : w32 (i + 8) = i + 8 := wi32 (by omega) (by omega)
  have A9 := yb_at (L := L) (i := i + 9) h (by omega) (by omega)
  have b9 := (h.2.2 (i + 9) (by omega) (by omega)).2
  have w9 : w32 (i + 9) = i + 9 := wi32 (by omega) (by omega)
  have A10 := yb_at (L := L) (i := i + 10) h (by omega) (by omega)
  have b10 := (h.2.2 (i + 10) (by omega) (by omega)).2
  have w10 : w32 (i + 10) = i + 10 := wi32 (by omega) (by omega)
  have A11 := yb_at (L := L) (i := i + 11) h (by omega) (by omega)
  have b11 := (h.2.2 (i + 11) (by omega) (by omega)).2
  have w11 : w32 (i + 11) = i + 11 := wi32 (by omega) (by omega)
  have A17 := yb_at (L := L) (i := i + 17) h (by omega) (by omega)
  have b17 := (h.2.2 (i + 17) (by omega) (by omega)).2
  have w17 : w32 (i + 17) = i + 17 := wi32 (by omega) (by omega)
  have t0 : tmg F i 0 = 10 * (256 * F (i + 1) + F (i)) := rfl
  have t1 : tmg F i 1 = F (i + 2) + F (i + 4) / 16 * 256 := rfl
  have t2 : tmg F i 2 = F (i + 3) + F (i + 4) % 16 * 256 := rfl
  have t3 : tmg F i 3 = F (i + 8) + F (i + 11) / 64 * 256 := rfl
  have t4 : tmg F i 4 = F (i + 9) + F (i + 11) / 16 % 4 * 256 := rfl
  have t5 : tmg F i 5 = F (i + 5) + F (i + 7) / 16 * 256 := rfl
  have t6 : tmg F i 6 = F (i + 6) + F (i + 7) % 16 * 256 := rfl
  have t7 : tmg F i 7 = F (i + 10) / 16 + F (i + 11) / 4 % 4 * 16 := rfl
  have t8 : tmg F i 8 = F (i + 10) % 16 + F (i + 11) % 4 * 16 := rfl
  have t9 : tmg F i 9 = F (i + 17) / 128 := rfl
  generalize hf0 : F (i) = f0 at *
  generalize hf1 : F (i + 1) = f1 at *
  generalize hf2 : F (i + 2) = f2 at *
  generalize hf3 : F (i + 3) = f3 at *
  generalize hf4 : F (i + 4) = f4 at *
  generalize hf5 : F (i + 5) = f5 at *
  generalize hf6 : F (i + 6) = f6 at *
  generalize hf7 : F (i + 7) = f7 at *
  generalize hf8 : F (i + 8) = f8 at *
  generalize hf9 : F (i + 9) = f9 at *
  generalize hf10 : F (i + 10) = f10 at *
  generalize hf11 : F (i + 11) = f11 at *
  generalize hf17 : F (i + 17) = f17 at *
  obtain ⟨d, hd⟩ : ∃ d, d = 11 * k := ⟨_, rfl⟩
  rw [← hd]
  rw [← hd] at wk
  have wk : w32 (11 * k) = d := by rw [← hd]; exact wk
  have dk : 0 ≤ d ∧ d ≤ 275 := by omega
  have a_0 : 0 ≤ d := by omega
  have c_0 : d < 286 := by omega
  have a_1 : 0 ≤ d + 1 := by omega
  have c_1 : d + 1 < 286 := by omega
  have a_2 : 0 ≤ d + 2 := by omega
  have c_2 : d + 2 < 286 := by omega
  have a_3 : 0 ≤ d + 3 := by omega
  have c_3 : d + 3 < 286 := by omega
  have a_4 : 0 ≤ d + 4 := by omega
  have c_4 : d + 4 < 286 := by omega
  have a_5 : 0 ≤ d + 5 := by omega
  have c_5 : d + 5 < 286 := by omega
  have a_6 : 0 ≤ d + 6 := by omega
  have c_6 : d + 6 < 286 := by omega
  have a_7 : 0 ≤ d + 7 := by omega
  have c_7 : d + 7 < 286 := by omega
  have a_8 : 0 ≤ d + 8 := by omega
  have c_8 : d + 8 < 286 := by omega
  have a_9 : 0 ≤ d + 9 := by omega
  have c_9 : d + 9 < 286 := by omega
  have x_1 : w32 (d + 1) = d + 1 := wi32 (by omega) (by omega)
  have x_5 : w32 (d + 5) = d + 5 := wi32 (by omega) (by omega)
  have x_9 : w32 (d + 9) = d + 9 := wi32 (by omega) (by omega)
  have x_2 : w32 (d + 1 + 1) = d + 2 := by rw [wi32 (by omega) (by omega)]; omega
  have x_3 : w32 (d + 1 + 2) = d + 3 := by rw [wi32 (by omega) (by omega)]; omega
  have x_4 : w32 (d + 1 + 3) = d + 4 := by rw [wi32 (by omega) (by omega)]; omega
  have x_6 : w32 (d + 5 + 1) = d + 6 := by rw [wi32 (by omega) (by omega)]; omega
  have x_7 : w32 (d + 5 + 2) = d + 7 := by rw [wi32 (by omega) (by omega)]; omega
  have x_8 : w32 (d + 5 + 3) = d + 8 := by rw [wi32 (by omega) (by omega)]; omega
  have v0 : w32 (256 * f1) = 256 * f1 := wi32 (by omega) (by omega)
  have v1 : w32 (256 * f1 + f0) = 256 * f1 + f0 := wi32 (by omega) (by omega)
  have v2 : w32 (10 * (256 * f1 + f0)) = 10 * (256 * f1 + f0) := wi32 (by omega) (by omega)
  have y4 : mm_div f4 16 = f4 / 16 := nu_div b4.1 (by omega) (by omega) (by omega)
  have z4 : mm_rem f4 16 = f4 % 16 := nu_rem b4.1 (by omega) (by omega) (by omega)
  have y7 : mm_div f7 16 = f7 / 16 := nu_div b7.1 (by omega) (by omega) (by omega)
  have z7 : mm_rem f7 16 = f7 % 16 := nu_rem b7.1 (by omega) (by omega) (by omega)
  have y10 : mm_div f10 16 = f10 / 16 := nu_div b10.1 (by omega) (by omega) (by omega)
  have z10 : mm_rem f10 16 = f10 % 16 := nu_rem b10.1 (by omega) (by omega) (by omega)
  have y11 : mm_div f11 64 = f11 / 64 := nu_div b11.1 (by omega) (by omega) (by omega)
  have y11b : mm_div f11 16 = f11 / 16 := nu_div b11.1 (by omega) (by omega) (by omega)
  have y11c : mm_div f11 4 = f11 / 4 := nu_div b11.1 (by omega) (by omega) (by omega)
  have z11 : mm_rem f11 4 = f11 % 4 := nu_rem b11.1 (by omega) (by omega) (by omega)
  have z11b : mm_rem (f11 / 16) 4 = f11 / 16 % 4 := nu_rem (by omega) (by omega) (by omega) (by omega)
  have z11c : mm_rem (f11 / 4) 4 = f11 / 4 % 4 := nu_rem (by omega) (by omega) (by omega) (by omega)
  have y17 : mm_div f17 128 = f17 / 128 := nu_div b17.1 (by omega) (by omega) (by omega)
  have u1 : w32 (f4 / 16 * 256) = f4 / 16 * 256 := wi32 (by omega) (by omega)
  have u1' : w32 (f2 + f4 / 16 * 256) = f2 + f4 / 16 * 256 := wi32 (by omega) (by omega)
  have u2 : w32 (f4 % 16 * 256) = f4 % 16 * 256 := wi32 (by omega) (by omega)
  have u2' : w32 (f3 + f4 % 16 * 256) = f3 + f4 % 16 * 256 := wi32 (by omega) (by omega)
  have u3 : w32 (f11 / 64 * 256) = f11 / 64 * 256 := wi32 (by omega) (by omega)
  have u3' : w32 (f8 + f11 / 64 * 256) = f8 + f11 / 64 * 256 := wi32 (by omega) (by omega)
  have u4 : w32 (f11 / 16 % 4 * 256) = f11 / 16 % 4 * 256 := wi32 (by omega) (by omega)
  have u4' : w32 (f9 + f11 / 16 % 4 * 256) = f9 + f11 / 16 % 4 * 256 := wi32 (by omega) (by omega)
  have u5 : w32 (f7 / 16 * 256) = f7 / 16 * 256 := wi32 (by omega) (by omega)
  have u5' : w32 (f5 + f7 / 16 * 256) = f5 + f7 / 16 * 256 := wi32 (by omega) (by omega)
  have u6 : w32 (f7 % 16 * 256) = f7 % 16 * 256 := wi32 (by omega) (by omega)
  have u6' : w32 (f6 + f7 % 16 * 256) = f6 + f7 % 16 * 256 := wi32 (by omega) (by omega)
  have u7 : w32 (f11 / 4 % 4 * 16) = f11 / 4 % 4 * 16 := wi32 (by omega) (by omega)
  have u7' : w32 (f10 / 16 + f11 / 4 % 4 * 16) = f10 / 16 + f11 / 4 % 4 * 16 := wi32 (by omega) (by omega)
  have u8 : w32 (f11 % 4 * 16) = f11 % 4 * 16 := wi32 (by omega) (by omega)
  have u8' : w32 (f10 % 16 + f11 % 4 * 16) = f10 % 16 + f11 % 4 * 16 := wi32 (by omega) (by omega)
  have fin := fin10 r d (tmg F i)
  rw [t0, t1, t2, t3, t4, t5, t6, t7, t8, t9] at fin
  rw [show rd9 r d i F = fin_ r d (tmg F i) from rfl, ← fin]
  simp only [xe_161_0, xe_161_2, xe_161_3, xe_161_6, xe_161_7 _ (some (vI _)) _ _ _ _ _ _ rfl, xe_161_7 _ (some (vR _)) _ _ _ _ _ _ rfl, xe_161_7 _ none _ _ _ _ _ _ rfl, xe_161_8, xe_161_9, xe_161_10, xe_161_12, xe_161_13, xe_161_16 _ _ (some (vI _)) _ _ _ _ _ rfl, xe_161_16 _ _ (some (vR _)) _ _ _ _ _ rfl, xe_161_16 _ _ none _ _ _ _ _ rfl, xe_161_17, xe_161_18, xe_161_21, xe_161_22, xe_161_24, xe_161_27, xe_161_28, xe_161_29, xe_161_30, xe_161_31, xe_161_34, xe_161_35, xe_161_36, xe_161_37, xe_161_40, xe_161_41, xe_161_42, xe_161_43, xe_161_44, xe_161_47, xe_161_48, xe_161_49, xe_161_50, xe_161_51, xe_161_52, xe_161_53, xe_161_54, xe_161_57, xe_161_58, xe_161_59, xe_161_60, xe_161_61, xe_161_64, xe_161_66, xe_161_67, xe_161_70, xe_161_71, xe_161_72, xe_161_73, xe_161_74, xe_161_77, xe_161_78, xe_161_79, xe_161_80, xe_161_81, xe_161_82, xe_161_83, xe_161_84, xe_161_85, xe_161_86, xe_161_89, xe_161_90, xe_161_91, xe_161_92, xe_161_93, xe_161_96, xe_161_98, xe_161_99, xe_161_102, xe_161_103, xe_161_104, xe_161_105, xe_161_106, xe_161_109, xe_161_110, xe_161_111, xe_161_112, xe_161_113, xe_161_114, xe_161_115, xe_161_116, xe_161_118, xe_161_119, xe_161_122, xe_161_123, xe_161_125, xe_161_126, xe_161_129, xe_161_130, xe_161_131, xe_161_132, xe_161_133, xe_161_136, xe_161_137, xe_161_138, xe_161_139, xe_161_140, xe_161_141, xe_161_142, xe_161_143, xe_161_145, xe_161_146, xe_161_149, xe_161_150, xe_161_152, xe_161_153, xe_161_154, xe_161_155, xe_161_158, xe_161_159, xe_161_160, xe_161_161, xe_161_162, xe_161_165, xe_161_166, xe_161_167, xe_161_168, xe_161_169, xe_161_170, xe_161_171, xe_161_172, xe_161_175, xe_161_176, xe_161_177, xe_161_179, xe_161_180, xe_161_183, xe_161_185, xe_161_186, xe_161_189, xe_161_190, xe_161_191, xe_161_192, xe_161_193, xe_161_196, xe_161_197, xe_161_198, xe_161_199, xe_161_200, xe_161_201, xe_161_202, xe_161_203, xe_161_205, xe_161_206, xe_161_209, xe_161_210, xe_161_211, xe_161_213, xe_161_214, xe_161_217, xe_161_219, xe_161_220, xe_161_223, xe_161_224, xe_161_225, xe_161_226, xe_161_227, xe_161_230, xe_161_231, xe_161_232, xe_161_233, xe_161_234, xe_161_235, xe_161_236, xe_161_237, xe_161_239, xe_161_240, xe_161_243, xe_161_245, xe_161_246, xe_161_247, xe_161_248, xe_161_249, xe_161_250, xe_161_251, xe_161_253, xe_161_254, xe_161_255, xe_161_256, xe_161_257, xe_161_260, xe_161_261, xe_161_262, xe_161_263, xe_161_264, xe_161_265, xe_161_266, xe_161_267, xe_161_269, xe_161_270, xe_161_273, xe_161_275, xe_161_276, xe_161_277, xe_161_278, xe_161_279, xe_161_281, xe_161_282, xe_161_283, xe_161_284, xe_161_285, xe_161_288, xe_161_289, xe_161_291, xe_161_292, xe_161_293, xe_161_294, xe_161_296, xe_161_297, xe_161_300, xe_161_303, xe_161_304, ite_self, mm_nL_I, mm_nL_R, mm_nL_0, Option.bind_some, Option.bind_none, bnd_ite, Option.toList_some, Option.toList_none, List.cons_append, List.nil_append, mm_cats_nil, mm_cats_I, mm_cats_L, mm_cats_R, if_true, if_false, true_and, and_true, false_and, and_false, not_true_eq_false, not_false_eq_true, Int.reduceLE, Int.reduceLT, Int.reduceEq, Int.reduceNe, Int.reduceNeg, Int.reduceAdd, Int.reduceSub, Int.reduceMul, Nat.reduceAdd, Nat.reduceLeDiff, true_or, or_true, false_or, or_false, reduceIte, k_149, k_153, l_153, p9, hk, m9, m2, A0, A1, A2, A3, A4, A5, A6, A7, A8, A9, A10, A11, A17, w1, w2, w3, w4, w5, w6, w7, w8, w9, w10, w11, w17, wk, a_0, c_0, a_1, c_1, a_2, c_2, a_3, c_3, a_4, c_4, a_5, c_5, a_6, c_6, a_7, c_7, a_8, c_8, a_9, c_9, x_1, x_2, x_3, x_4, x_5, x_6, x_7, x_8, x_9, v0, v1, v2, y4, z4, y7, z7, y10, z10, y11, y11b, y11c, z11, z11b, z11c, y17, u1, u1', u2, u2', u3, u3', u4, u4', u5, u5', u6, u6', u7, u7', u8, u8']
theorem s_isBr (L d t1 t2 t3 t4 : Int) (r : MM) (p9 : r 149 9 = 153) (d0 : 0 ≤ d) (d1 : d ≤ 280) (e1 : r 153 d = t1) (e2 : r 153 (d + 1) = t2) (e3 : r 153 (d + 2) = t3) (e4 : r 153 (d + 3) = t4) (b3 : 0 ≤ t3 ∧ t3 ≤ 4095) (b4 : 0 ≤ t4 ∧ t4 ≤ 4095) : ev 162 0 [some (vR 149), some (vI d)] [] r (g_1 L) = some (some (vI (if t1 = 0 ∨ t2 < t3 + t4 then 1 else 0)), r, g_1 L) := by
  have x1 : w32 (d + 1) = d + 1 := wi32 (by omega) (by omega)
  have x2 : w32 (d + 2) = d + 2 := wi32 (by omega) (by omega)
  have x3 : w32 (d + 3) = d + 3 := wi32 (by omega) (by omega)
  have w : w32 (t3 + t4) = t3 + t4 := wi32 (by omega) (by omega)
  have c0 : d < 286 := by omega
  have a1 : 0 ≤ d + 1 := by omega
  have c1 : d + 1 < 286 := by omega
  have a2 : 0 ≤ d + 2 := by omega
  have c2 : d + 2 < 286 := by omega
  have a3 : 0 ≤ d + 3 := by omega
  have c3 : d + 3 < 286 := by omega
  by_cases q1 : t1 = 0
  · simp only [xe_162_0, xe_162_1, xe_162_4, xe_162_5, xe_162_6, xe_162_9, xe_162_10, xe_162_13, xe_162_14, xe_162_15, xe_162_16, xe_162_17, xe_162_18, xe_162_21, xe_162_22, xe_162_23, xe_162_24, xe_162_25, xe_162_26, xe_162_27, xe_162_30, xe_162_31, xe_162_32, xe_162_33, xe_162_34, xe_162_37, xe_162_38, xe_162_41, xe_162_42, ite_self, mm_nL_I, mm_nL_R, mm_nL_0, Option.bind_some, Option.bind_none, bnd_ite, Option.toList_some, Option.toList_none, List.cons_append, List.nil_append, mm_cats_nil, mm_cats_I, mm_cats_L, mm_cats_R, if_true, if_false, true_and, and_true, false_and, and_false, not_true_eq_false, not_false_eq_true, Int.reduceLE, Int.reduceLT, Int.reduceEq, Int.reduceNe, Int.reduceNeg, Int.reduceAdd, Int.reduceSub, Int.reduceMul, Nat.reduceAdd, Nat.reduceLeDiff, true_or, or_true, false_or, or_false, reduceIte, k_149, k_153, l_153, p9, e1, d0, c0, q1]
  · by_cases q2 : t2 < t3 + t4
    · have q2' : ¬ t3 + t4 ≤ t2 := by omega
      simp only [xe_162_0, xe_162_1, xe_162_4, xe_162_5, xe_162_6, xe_162_9, xe_162_10, xe_162_13, xe_162_14, xe_162_15, xe_162_16, xe_162_17, xe_162_18, xe_162_21, xe_162_22, xe_162_23, xe_162_24, xe_162_25, xe_162_26, xe_162_27, xe_162_30, xe_162_31, xe_162_32, xe_162_33, xe_162_34, xe_162_37, xe_162_38, xe_162_41, xe_162_42, ite_self, mm_nL_I, mm_nL_R, mm_nL_0, Option.bind_some, Option.bind_none, bnd_ite, Option.toList_some, Option.toList_none, List.cons_append, List.nil_append, mm_cats_nil, mm_cats_I, mm_cats_L, mm_cats_R, if_true, if_false, true_and, and_true, false_and, and_false, not_true_eq_false, not_false_eq_true, Int.reduceLE, Int.reduceLT, Int.reduceEq, Int.reduceNe, Int.reduceNeg, Int.reduceAdd, Int.reduceSub, Int.reduceMul, Nat.reduceAdd, Nat.reduceLeDiff, true_or, or_true, false_or, or_false, reduceIte, k_149, k_153, l_153, p9, e1, e2, e3, e4, d0, c0, a1, a2, a3, c1, c2, c3, x1, x2, x3, w, q1, q2, q2']
    · have q2' : t3 + t4 ≤ t2 := by omega
      simp only [xe_162_0, xe_162_1, xe_162_4, xe_162_5, xe_162_6, xe_162_9, xe_162_10, xe_162_13, xe_162_14, xe_162_15, xe_162_16, xe_162_17, xe_162_18, xe_162_21, xe_162_22, xe_162_23, xe_162_24, xe_162_25, xe_162_26, xe_162_27, xe_162_30, xe_162_31, xe_162_32, xe_162_33, xe_162_34, xe_162_37, xe_162_38, xe_162_41, xe_162_42, ite_self, mm_nL_I, mm_nL_R, mm_nL_0, Option.bind_some, Option.bind_none, bnd_ite, Option.toList_some, Option.toList_none, List.cons_append, List.nil_append, mm_cats_nil, mm_cats_I, mm_cats_L, mm_cats_R, if_true, if_false, true_and, and_true, false_and, and_false, not_true_eq_false, not_false_eq_true, Int.reduceLE, Int.reduceLT, Int.reduceEq, Int.reduceNe, Int.reduceNeg, Int.reduceAdd, Int.reduceSub, Int.reduceMul, Nat.reduceAdd, Nat.reduceLeDiff, true_or, or_true, false_or, or_false, reduceIte, k_149, k_153, l_153, p9, e1, e2, e3, e4, d0, c0, a1, a2, a3, c1, c2, c3, x1, x2, x3, w, q1, q2, q2']
theorem tmg_ok {n i : Int} {F : Int → Int} (h : ∀ i, 0 ≤ i → i < n → 0 ≤ F i ∧ F i < 256) (i0 : 0 ≤ i) (i1 : i + 18 ≤ n) : tok (tmg F i) := by
  have b0 := h (i) (by omega) (by omega)
  have b1 := h (i + 1) (by omega) (by omega)
  have b2 := h (i + 2) (by omega) (by omega)
  have b3 := h (i + 3) (by omega) (by omega)
  have b4 := h (i + 4) (by omega) (by omega)
  have b5 := h (i + 5) (by omega) (by omega)
  have b6 := h (i + 6) (by omega) (by omega)
  have b7 := h (i + 7) (by omega) (by omega)
  have b8 := h (i + 8) (by omega) (by omega)
  have b9 := h (i + 9) (by omega) (by omega)
  have b10 := h (i + 10) (by omega) (by omega)
  have b11 := h (i + 11) (by omega) (by omega)
  have b17 := h (i + 17) (by omega) (by omega)
  unfold tok tmg
  refine ⟨?_, ?_, fun j j0 j1 => ?_, ?_, ?_, ?_, ?_, ?_⟩
  · show 0 ≤ 10 * (256 * F (i + 1) + F i); omega
  · show 10 * (256 * F (i + 1) + F i) ≤ 655350; omega
  · have q : j = 1 ∨ j = 2 ∨ j = 3 ∨ j = 4 ∨ j = 5 ∨ j = 6 ∨ j = 7 ∨ j = 8 := by omega
    rcases q with rfl | rfl | rfl | rfl | rfl | rfl | rfl | rfl
    · show 0 ≤ F (i + 2) + F (i + 4) / 16 * 256 ∧ F (i + 2) + F (i + 4) / 16 * 256 ≤ 4095; omega
    · show 0 ≤ F (i + 3) + F (i + 4) % 16 * 256 ∧ F (i + 3) + F (i + 4) % 16 * 256 ≤ 4095; omega
    · show 0 ≤ F (i + 8) + F (i + 11) / 64 * 256 ∧ F (i + 8) + F (i + 11) / 64 * 256 ≤ 4095; omega
    · show 0 ≤ F (i + 9) + F (i + 11) / 16 % 4 * 256 ∧ F (i + 9) + F (i + 11) / 16 % 4 * 256 ≤ 4095; omega
    · show 0 ≤ F (i + 5) + F (i + 7) / 16 * 256 ∧ F (i + 5) + F (i + 7) / 16 * 256 ≤ 4095; omega
    · show 0 ≤ F (i + 6) + F (i + 7) % 16 * 256 ∧ F (i + 6) + F (i + 7) % 16 * 256 ≤ 4095; omega
    · show 0 ≤ F (i + 10) / 16 + F (i + 11) / 4 % 4 * 16 ∧ F (i + 10) / 16 + F (i + 11) / 4 % 4 * 16 ≤ 4095; omega
    · show 0 ≤ F (i + 10) % 16 + F (i + 11) % 4 * 16 ∧ F (i + 10) % 16 + F (i + 11) % 4 * 16 ≤ 4095; omega
  · show F (i + 8) + F (i + 11) / 64 * 256 ≤ 1023; omega
  · show F (i + 9) + F (i + 11) / 16 % 4 * 256 ≤ 1023; omega
  · show F (i + 10) / 16 + F (i + 11) / 4 % 4 * 16 ≤ 63; omega
  · show F (i + 10) % 16 + F (i + 11) % 4 * 16 ≤ 63; omega
  · show F (i + 17) / 128 = 0 ∨ F (i + 17) / 128 = 1; omega
def rdt (r : MM) (k i : Int) (F : Int → Int) : MM := mset (mset (rd9 r (11 * k) i F) 153 (11 * k + 10) (if brb (tmg F i) = true then 1 else 0)) 149 13 (k + 1)
theorem s_rdet (L n k i : Int) (r : MM) (F : Int → Int) (h : YB r n F) (p9 : r 149 9 = 153) (hk : r 149 13 = k) (k0 : 0 ≤ k) (k1 : k ≤ 25) (i0 : 0 ≤ i) (i1 : i + 18 ≤ n) :
    ev 161 0 [some (vR 149), some (vI i), none, none] [] r (g_1 L) = some (none, rdt r k i F, g_1 L) := by
  have T := tmg_ok (fun i a b => (h.2.2 i a b).2) i0 i1
  rw [s_rdet1 L n k i r F h p9 hk k0 k1 i0 i1]
  have r9 : rd9 r (11 * k) i F 149 = r 149 := rd9_b _ _ _ _ _ (by omega)
  have rk := fun j j0 j1 => rd9_k r (11 * k) i F j j0 j1
  have t3 := T.2.2.1 3 (by omega) (by omega)
  have t4 := T.2.2.1 4 (by omega) (by omega)
  have t7 := T.2.2.1 7 (by omega) (by omega)
  have t8 := T.2.2.1 8 (by omega) (by omega)
  have B1 := s_isBr L (11 * k + 1) (tmg F i 1) (tmg F i 2) (tmg F i 3) (tmg F i 4) (rd9 r (11 * k) i F) (by rw [r9]; exact p9) (by omega) (by omega) (rk 1 (by omega) (by omega)) (by rw [show 11 * k + 1 + 1 = 11 * k + 2 by omega]; exact rk 2 (by omega) (by omega)) (by rw [show 11 * k + 1 + 2 = 11 * k + 3 by omega]; exact rk 3 (by omega) (by omega)) (by rw [show 11 * k + 1 + 3 = 11 * k + 4 by omega]; exact rk 4 (by omega) (by omega)) t3 t4
  have B2 := s_isBr L (11 * k + 5) (tmg F i 5) (tmg F i 6) (tmg F i 7) (tmg F i 8) (rd9 r (11 * k) i F) (by rw [r9]; exact p9) (by omega) (by omega) (rk 5 (by omega) (by omega)) (by rw [show 11 * k + 5 + 1 = 11 * k + 6 by omega]; exact rk 6 (by omega) (by omega)) (by rw [show 11 * k + 5 + 2 = 11 * k + 7 by omega]; exact rk 7 (by omega) (by omega)) (by rw [show 11 * k + 5 + 3 = 11 * k + 8 by omega]; exact rk 8 (by omega) (by omega)) t7 t8
  unfold rdt brb
  generalize hR : rd9 r (11 * k) i F = R at *
  generalize tmg F i 1 = u1 at *
  generalize tmg F i 2 = u2 at *
  generalize tmg F i 3 = u3 at *
  generalize tmg F i 4 = u4 at *
  generalize tmg F i 5 = u5 at *
  generalize tmg F i 6 = u6 at *
  generalize tmg F i 7 = u7 at *
  generalize tmg F i 8 = u8 at *
  have q9 : R 149 9 = 153 := by rw [r9]; exact p9
  have q13 : R 149 13 = k := by rw [r9]; exact hk
  have d0 : 0 ≤ 11 * k + 10 := by omega
  have d1 : 11 * k + 10 < 286 := by omega
  have x1 : w32 (11 * k + 1) = 11 * k + 1 := wi32 (by omega) (by omega)
  have x5 : w32 (11 * k + 5) = 11 * k + 5 := wi32 (by omega) (by omega)
  have x10 : w32 (11 * k + 10) = 11 * k + 10 := wi32 (by omega) (by omega)
  have w : w32 (k + 1) = k + 1 := wi32 (by omega) (by omega)
  have m9 : ∀ (r : MM) k v, mset r 153 k v 149 = r 149 := fun c k v => ms_row _ _ _ _ _ (by omega)
  by_cases z1 : u1 = 0 ∨ u2 < u3 + u4
  · rw [if_pos z1] at B1
    have z : (u1 = 0 ∨ u5 = 0 ∨ u2 < u3 + u4 ∨ u6 < u7 + u8) := by omega
    simp only [xe_161_305, xe_161_306, xe_161_309, xe_161_310, xe_161_312, xe_161_313, xe_161_314, xe_161_315, xe_161_316, xe_161_317, xe_161_320, xe_161_323, xe_161_324, xe_161_325, xe_161_326, xe_161_327, xe_161_330, xe_161_333, xe_161_334, xe_161_337, xe_161_338, xe_161_339, xe_161_340, xe_161_341, xe_161_344, xe_161_345, xe_161_346, xe_161_349, ite_self, mm_nL_I, mm_nL_R, mm_nL_0, Option.bind_some, Option.bind_none, bnd_ite, Option.toList_some, Option.toList_none, List.cons_append, List.nil_append, mm_cats_nil, mm_cats_I, mm_cats_L, mm_cats_R, if_true, if_false, true_and, and_true, false_and, and_false, not_true_eq_false, not_false_eq_true, Int.reduceLE, Int.reduceLT, Int.reduceEq, Int.reduceNe, Int.reduceNeg, Int.reduceAdd, Int.reduceSub, Int.reduceMul, Nat.reduceAdd, Nat.reduceLeDiff, true_or, or_true, false_or, or_false, reduceIte, k_149, k_153, l_153, q9, q13, B1, d0, d1, x1, x5, x10, w, m9, z, decide_true]
  · rw [if_neg z1] at B1
    by_cases z2 : u5 = 0 ∨ u6 < u7 + u8
    · rw [if_pos z2] at B2
      have z : (u1 = 0 ∨ u5 = 0 ∨ u2 < u3 + u4 ∨ u6 < u7 + u8) := by omega
      simp only [xe_161_305, xe_161_306, xe_161_309, xe_161_310, xe_161_312, xe_161_313, xe_161_314, xe_161_315, xe_161_316, xe_161_317, xe_161_320, xe_161_323, xe_161_324, xe_161_325, xe_161_326, xe_161_327, xe_161_330, xe_161_333, xe_161_334, xe_161_337, xe_161_338, xe_161_339, xe_161_340, xe_161_341, xe_161_344, xe_161_345, xe_161_346, xe_161_349, ite_self, mm_nL_I, mm_nL_R, mm_nL_0, Option.bind_some, Option.bind_none, bnd_ite, Option.toList_some, Option.toList_none, List.cons_append, List.nil_append, mm_cats_nil, mm_cats_I, mm_cats_L, mm_cats_R, if_true, if_false, true_and, and_true, false_and, and_false, not_true_eq_false, not_false_eq_true, Int.reduceLE, Int.reduceLT, Int.reduceEq, Int.reduceNe, Int.reduceNeg, Int.reduceAdd, Int.reduceSub, Int.reduceMul, Nat.reduceAdd, Nat.reduceLeDiff, true_or, or_true, false_or, or_false, reduceIte, k_149, k_153, l_153, q9, q13, B1, B2, d0, d1, x1, x5, x10, w, m9, z, decide_true]
    · rw [if_neg z2] at B2
      have z : ¬ (u1 = 0 ∨ u5 = 0 ∨ u2 < u3 + u4 ∨ u6 < u7 + u8) := by omega
      simp only [xe_161_305, xe_161_306, xe_161_309, xe_161_310, xe_161_312, xe_161_313, xe_161_314, xe_161_315, xe_161_316, xe_161_317, xe_161_320, xe_161_323, xe_161_324, xe_161_325, xe_161_326, xe_161_327, xe_161_330, xe_161_333, xe_161_334, xe_161_337, xe_161_338, xe_161_339, xe_161_340, xe_161_341, xe_161_344, xe_161_345, xe_161_346, xe_161_349, ite_self, mm_nL_I, mm_nL_R, mm_nL_0, Option.bind_some, Option.bind_none, bnd_ite, Option.toList_some, Option.toList_none, List.cons_append, List.nil_append, mm_cats_nil, mm_cats_I, mm_cats_L, mm_cats_R, if_true, if_false, true_and, and_true, false_and, and_false, not_true_eq_false, not_false_eq_true, Int.reduceLE, Int.reduceLT, Int.reduceEq, Int.reduceNe, Int.reduceNeg, Int.reduceAdd, Int.reduceSub, Int.reduceMul, Nat.reduceAdd, Nat.reduceLeDiff, true_or, or_true, false_or, or_false, reduceIte, k_149, k_153, l_153, q9, q13, B1, B2, d0, d1, x1, x5, x10, w, m9, z, decide_false, Bool.false_eq_true]
