theorem or_h {a b : Int} (a0 : 0 ≤ a) (a1 : a < 16) (b0 : 0 ≤ b) (b1 : b < 16) : mm_or (mm_shl a 4) b = a * 16 + b := by
  have e : mm_shl a 4 = a * 16 := nu_shl 4 (by omega) a0 (show a * 16 < 2147483648 by omega)
  rw [e]
  exact (nu_or (a := b) (b := a) 4 b0 (show b < 16 by omega) a0 (show a * 16 + b < 2147483648 by omega)).2
theorem or_q {a b d e : Int} (a0 : 0 ≤ a) (a1 : a < 4) (b0 : 0 ≤ b) (b1 : b < 4) (d0 : 0 ≤ d) (d1 : d < 4) (e0 : 0 ≤ e) (e1 : e < 4) : mm_or (mm_or (mm_or (mm_shl a 6) (mm_shl b 4)) (mm_shl d 2)) e = a * 64 + b * 16 + d * 4 + e := by
  have x1 : mm_shl a 6 = a * 64 := nu_shl 6 (by omega) a0 (show a * 64 < 2147483648 by omega)
  have x2 : mm_shl b 4 = b * 16 := nu_shl 4 (by omega) b0 (show b * 16 < 2147483648 by omega)
  have x3 : mm_shl d 2 = d * 4 := nu_shl 2 (by omega) d0 (show d * 4 < 2147483648 by omega)
  rw [x1, x2, x3]
  have y1 : mm_or (a * 64) (b * 16) = a * 64 + b * 16 := (nu_or (a := b * 16) (b := a) 6 (by omega) (show b * 16 < 64 by omega) a0 (show a * 64 + b * 16 < 2147483648 by omega)).2
  rw [y1]
  have y2 : mm_or ((a * 4 + b) * 16) (d * 4) = (a * 4 + b) * 16 + d * 4 := (nu_or (a := d * 4) (b := a * 4 + b) 4 (by omega) (show d * 4 < 16 by omega) (by omega) (show (a * 4 + b) * 16 + d * 4 < 2147483648 by omega)).2
  rw [show a * 64 + b * 16 = (a * 4 + b) * 16 by omega, y2]
  have y3 : mm_or ((a * 16 + b * 4 + d) * 4) e = (a * 16 + b * 4 + d) * 4 + e := (nu_or (a := e) (b := a * 16 + b * 4 + d) 2 (by omega) (show e < 4 by omega) (by omega) (show (a * 16 + b * 4 + d) * 4 + e < 2147483648 by omega)).2
  rw [show (a * 4 + b) * 16 + d * 4 = (a * 16 + b * 4 + d) * 4 by omega, y3]
/-- a timing's parts as the reference counts them -/
def tg (t : Int → Int) (j : Int) : Int := if j = 8 then t 0 else t (j + 1)
def dbv (g : Int → Int) (k : Int) : Int := if k = 0 then g 8 / 10 % 256 else if k = 1 then g 8 / 10 / 256 % 256 else if k = 2 then g 0 % 256 else if k = 3 then g 1 % 256 else if k = 4 then g 0 / 256 % 16 * 16 + g 1 / 256 % 16 else if k = 5 then g 4 % 256 else if k = 6 then g 5 % 256 else if k = 7 then g 4 / 256 % 16 * 16 + g 5 / 256 % 16 else if k = 8 then g 2 % 256 else if k = 9 then g 3 % 256 else if k = 10 then g 6 % 16 * 16 + g 7 % 16 else if k = 11 then g 2 / 256 % 4 * 64 + g 3 / 256 % 4 * 16 + g 6 / 16 % 4 * 4 + g 7 / 16 % 4 else 0
theorem dbv_ok (g : Int → Int) (k : Int) : 0 ≤ dbv g k ∧ dbv g k < 256 := by
  unfold dbv
  constructor
  · (repeat' split) <;> omega
  · (repeat' split) <;> omega
def fitv (g : Int → Int) : Bool := decide (g 0 ≤ 4095 ∧ g 1 ≤ 4095 ∧ g 4 ≤ 4095 ∧ g 5 ≤ 4095 ∧ g 2 ≤ 1023 ∧ g 3 ≤ 1023 ∧ g 6 ≤ 63 ∧ g 7 ≤ 63 ∧ g 8 ≤ 655359)
def nn (g : Int → Int) : Prop := ∀ j, 0 ≤ j → j ≤ 8 → 0 ≤ g j ∧ g j < 2147483648
theorem s_byteX (a k : Int) (c : MM) (G : MG) (hk : gk G a = 7) (hn : nn (tg (c a))) (h0 : 0 ≤ k) (h1 : k < 18) : ev 61 0 [some (vR a), some (vI k)] [] c G = some (some (vI (dbv (tg (c a)) k)), c, G) := by
  have t0 : tg (c a) 8 = c a 0 := rfl
  have t1 : tg (c a) 0 = c a 1 := rfl
  have t2 : tg (c a) 1 = c a 2 := rfl
  have t3 : tg (c a) 2 = c a 3 := rfl
  have t4 : tg (c a) 3 = c a 4 := rfl
  have t5 : tg (c a) 4 = c a 5 := rfl
  have t6 : tg (c a) 5 = c a 6 := rfl
  have t7 : tg (c a) 6 = c a 7 := rfl
  have t8 : tg (c a) 7 = c a 8 := rfl
  have n0 := hn 8 (by omega) (by omega)
  have n1 := hn 0 (by omega) (by omega)
  have n2 := hn 1 (by omega) (by omega)
  have n3 := hn 2 (by omega) (by omega)
  have n4 := hn 3 (by omega) (by omega)
  have n5 := hn 4 (by omega) (by omega)
  have n6 := hn 5 (by omega) (by omega)
  have n7 := hn 6 (by omega) (by omega)
  have n8 := hn 7 (by omega) (by omega)
  rw [t0] at n0
  rw [t1] at n1
  rw [t2] at n2
  rw [t3] at n3
  rw [t4] at n4
  rw [t5] at n5
  rw [t6] at n6
  rw [t7] at n7
  rw [t8] at n8
  have d0 : mm_div (c a 0) 10 = c a 0 / 10 := nu_div n0.1 n0.2 (by omega) (by omega)
  have s0 : mm_shr (c a 0 / 10) 8 = c a 0 / 10 / 256 := nu_shr (by omega) (by omega) 8 (by omega)
  have s8 : ∀ x : Int, 0 ≤ x → x < 2147483648 → mm_shr x 8 = x / 256 := fun x h0 h1 => nu_shr (by omega) h1 8 (by omega)
  have s4 : ∀ x : Int, 0 ≤ x → x < 2147483648 → mm_shr x 4 = x / 16 := fun x h0 h1 => nu_shr (by omega) h1 4 (by omega)
  have O := fun x y : Int => or_h (a := x % 16) (b := y % 16) (by omega) (by omega) (by omega) (by omega)
  have Q := fun x y z w : Int => or_q (a := x % 4) (b := y % 4) (d := z % 4) (e := w % 4) (by omega) (by omega) (by omega) (by omega) (by omega) (by omega) (by omega) (by omega)
  have q : k = 0 ∨ k = 1 ∨ k = 2 ∨ k = 3 ∨ k = 4 ∨ k = 5 ∨ k = 6 ∨ k = 7 ∨ k = 8 ∨ k = 9 ∨ k = 10 ∨ k = 11 ∨ 12 ≤ k := by omega
  rcases q with rfl | rfl | rfl | rfl | rfl | rfl | rfl | rfl | rfl | rfl | rfl | rfl | q
  all_goals try simp only [xe_61_0, xe_61_1, xe_61_64, xe_61_65, xe_61_68, xe_61_70, xe_61_71, xe_61_74, xe_61_75, xe_61_76, xe_61_77, xe_61_80, xe_61_82, xe_61_83, xe_61_85, xe_61_86, xe_61_89, xe_61_90, xe_61_91, xe_61_92, xe_61_95, xe_61_98, xe_61_99, xe_61_100, xe_61_101, xe_61_104, xe_61_107, xe_61_108, xe_61_109, xe_61_110, xe_61_113, xe_61_115, xe_61_116, xe_61_118, xe_61_119, xe_61_120, xe_61_121, xe_61_122, xe_61_125, xe_61_127, xe_61_128, xe_61_130, xe_61_131, xe_61_132, xe_61_133, xe_61_134, xe_61_137, xe_61_140, xe_61_141, xe_61_142, xe_61_143, xe_61_146, xe_61_149, xe_61_150, xe_61_151, xe_61_152, xe_61_155, xe_61_157, xe_61_158, xe_61_160, xe_61_161, xe_61_162, xe_61_163, xe_61_164, xe_61_167, xe_61_169, xe_61_170, xe_61_172, xe_61_173, xe_61_174, xe_61_175, xe_61_176, xe_61_179, xe_61_182, xe_61_183, xe_61_184, xe_61_185, xe_61_188, xe_61_191, xe_61_192, xe_61_193, xe_61_194, xe_61_197, xe_61_199, xe_61_200, xe_61_201, xe_61_202, xe_61_203, xe_61_206, xe_61_208, xe_61_209, xe_61_210, xe_61_211, xe_61_212, xe_61_215, xe_61_217, xe_61_218, xe_61_219, xe_61_220, xe_61_222, xe_61_223, xe_61_224, xe_61_227, xe_61_229, xe_61_230, xe_61_231, xe_61_232, xe_61_233, xe_61_234, xe_61_235, xe_61_236, xe_61_239, xe_61_240, xe_61_241, xe_61_242, xe_61_243, xe_61_244, xe_61_245, xe_61_246, xe_61_247, xe_61_250, xe_61_251, xe_61_252, xe_61_253, xe_61_254, xe_61_255, xe_61_256, xe_61_257, ite_self, mm_nL_I, mm_nL_R, mm_nL_0, Option.bind_some, Option.bind_none, bnd_ite, Option.toList_some, Option.toList_none, List.cons_append, List.nil_append, mm_cats_nil, mm_cats_I, mm_cats_L, mm_cats_R, if_true, if_false, true_and, and_true, false_and, and_false, not_true_eq_false, not_false_eq_true, Int.reduceLE, Int.reduceLT, Int.reduceEq, Int.reduceNe, Int.reduceNeg, Int.reduceAdd, Int.reduceSub, Int.reduceMul, Nat.reduceAdd, Nat.reduceLeDiff, true_or, or_true, false_or, or_false, reduceIte, hk, dbv, t0, t1, t2, t3, t4, t5, t6, t7, t8, d0, s0, s8 _ n1.1 n1.2, s8 _ n2.1 n2.2, s8 _ n3.1 n3.2, s8 _ n4.1 n4.2, s8 _ n5.1 n5.2, s8 _ n6.1 n6.2, s4 _ n7.1 n7.2, s4 _ n8.1 n8.2, nu_255, nu_15, nu_3, O, Q]
  have g0 : ¬ k = 0 := by omega
  have g1 : ¬ k = 1 := by omega
  have g2 : ¬ k = 2 := by omega
  have g3 : ¬ k = 3 := by omega
  have g4 : ¬ k = 4 := by omega
  have g5 : ¬ k = 5 := by omega
  have g6 : ¬ k = 6 := by omega
  have g7 : ¬ k = 7 := by omega
  have g8 : ¬ k = 8 := by omega
  have g9 : ¬ k = 9 := by omega
  have g10 : ¬ k = 10 := by omega
  have g11 : ¬ k = 11 := by omega
  simp only [xe_61_0, xe_61_1, xe_61_64, xe_61_65, xe_61_68, xe_61_70, xe_61_71, xe_61_74, xe_61_75, xe_61_76, xe_61_77, xe_61_80, xe_61_82, xe_61_83, xe_61_85, xe_61_86, xe_61_89, xe_61_90, xe_61_91, xe_61_92, xe_61_95, xe_61_98, xe_61_99, xe_61_100, xe_61_101, xe_61_104, xe_61_107, xe_61_108, xe_61_109, xe_61_110, xe_61_113, xe_61_115, xe_61_116, xe_61_118, xe_61_119, xe_61_120, xe_61_121, xe_61_122, xe_61_125, xe_61_127, xe_61_128, xe_61_130, xe_61_131, xe_61_132, xe_61_133, xe_61_134, xe_61_137, xe_61_140, xe_61_141, xe_61_142, xe_61_143, xe_61_146, xe_61_149, xe_61_150, xe_61_151, xe_61_152, xe_61_155, xe_61_157, xe_61_158, xe_61_160, xe_61_161, xe_61_162, xe_61_163, xe_61_164, xe_61_167, xe_61_169, xe_61_170, xe_61_172, xe_61_173, xe_61_174, xe_61_175, xe_61_176, xe_61_179, xe_61_182, xe_61_183, xe_61_184, xe_61_185, xe_61_188, xe_61_191, xe_61_192, xe_61_193, xe_61_194, xe_61_197, xe_61_199, xe_61_200, xe_61_201, xe_61_202, xe_61_203, xe_61_206, xe_61_208, xe_61_209, xe_61_210, xe_61_211, xe_61_212, xe_61_215, xe_61_217, xe_61_218, xe_61_219, xe_61_220, xe_61_222, xe_61_223, xe_61_224, xe_61_227, xe_61_229, xe_61_230, xe_61_231, xe_61_232, xe_61_233, xe_61_234, xe_61_235, xe_61_236, xe_61_239, xe_61_240, xe_61_241, xe_61_242, xe_61_243, xe_61_244, xe_61_245, xe_61_246, xe_61_247, xe_61_250, xe_61_251, xe_61_252, xe_61_253, xe_61_254, xe_61_255, xe_61_256, xe_61_257, ite_self, mm_nL_I, mm_nL_R, mm_nL_0, Option.bind_some, Option.bind_none, bnd_ite, Option.toList_some, Option.toList_none, List.cons_append, List.nil_append, mm_cats_nil, mm_cats_I, mm_cats_L, mm_cats_R, if_true, if_false, true_and, and_true, false_and, and_false, not_true_eq_false, not_false_eq_true, Int.reduceLE, Int.reduceLT, Int.reduceEq, Int.reduceNe, Int.reduceNeg, Int.reduceAdd, Int.reduceSub, Int.reduceMul, Nat.reduceAdd, Nat.reduceLeDiff, true_or, or_true, false_or, or_false, reduceIte, dbv, g0, g1, g2, g3, g4, g5, g6, g7, g8, g9, g10, g11]
theorem s_fits (a : Int) (c : MM) (G : MG) (hk : gk G a = 7) : ev 69 0 [some (vR a)] [] c G = some (some (vI (if fitv (tg (c a)) = true then 1 else 0)), c, G) := by
  have t0 : tg (c a) 8 = c a 0 := rfl
  have t1 : tg (c a) 0 = c a 1 := rfl
  have t2 : tg (c a) 1 = c a 2 := rfl
  have t3 : tg (c a) 2 = c a 3 := rfl
  have t4 : tg (c a) 3 = c a 4 := rfl
  have t5 : tg (c a) 4 = c a 5 := rfl
  have t6 : tg (c a) 5 = c a 6 := rfl
  have t7 : tg (c a) 6 = c a 7 := rfl
  have t8 : tg (c a) 7 = c a 8 := rfl
  unfold fitv
  rw [t0, t1, t2, t3, t4, t5, t6, t7, t8]
  simp only [xe_69_0, xe_69_1, xe_69_4, xe_69_7, xe_69_10, xe_69_11, xe_69_14, xe_69_17, xe_69_20, xe_69_21, xe_69_24, xe_69_27, xe_69_30, xe_69_31, xe_69_34, xe_69_37, xe_69_40, xe_69_41, xe_69_44, xe_69_47, xe_69_50, xe_69_51, xe_69_54, xe_69_57, xe_69_60, xe_69_61, xe_69_64, xe_69_66, xe_69_69, xe_69_70, xe_69_73, xe_69_75, xe_69_78, xe_69_79, xe_69_82, xe_69_84, xe_69_87, xe_69_88, xe_69_91, xe_69_92, ite_self, mm_nL_I, mm_nL_R, mm_nL_0, Option.bind_some, Option.bind_none, bnd_ite, Option.toList_some, Option.toList_none, List.cons_append, List.nil_append, mm_cats_nil, mm_cats_I, mm_cats_L, mm_cats_R, if_true, if_false, true_and, and_true, false_and, and_false, not_true_eq_false, not_false_eq_true, Int.reduceLE, Int.reduceLT, Int.reduceEq, Int.reduceNe, Int.reduceNeg, Int.reduceAdd, Int.reduceSub, Int.reduceMul, Nat.reduceAdd, Nat.reduceLeDiff, true_or, or_true, false_or, or_false, reduceIte, hk, decide_eq_true_eq]
  repeat' split
  all_goals first | rfl | omega
theorem s_room (L : Int) (r : MM) (p : r 149 29 = 164) : ev 197 0 [some (vR 149)] [] r (g_1 L) = some (some (vI (if fitv (r 164) = true then 1 else 0)), r, g_1 L) := by
  unfold fitv
  simp only [xe_197_0, xe_197_1, xe_197_4, xe_197_6, xe_197_7, xe_197_10, xe_197_13, xe_197_14, xe_197_17, xe_197_18, xe_197_19, xe_197_22, xe_197_25, xe_197_26, xe_197_29, xe_197_30, xe_197_31, xe_197_34, xe_197_37, xe_197_38, xe_197_41, xe_197_42, xe_197_43, xe_197_46, xe_197_49, xe_197_50, xe_197_53, xe_197_54, xe_197_55, xe_197_58, xe_197_61, xe_197_62, xe_197_65, xe_197_66, xe_197_67, xe_197_70, xe_197_73, xe_197_74, xe_197_77, xe_197_78, xe_197_79, xe_197_82, xe_197_85, xe_197_86, xe_197_89, xe_197_91, xe_197_92, xe_197_94, xe_197_97, xe_197_98, xe_197_101, xe_197_103, xe_197_104, xe_197_106, xe_197_109, xe_197_110, xe_197_113, xe_197_114, ite_self, mm_nL_I, mm_nL_R, mm_nL_0, Option.bind_some, Option.bind_none, bnd_ite, Option.toList_some, Option.toList_none, List.cons_append, List.nil_append, mm_cats_nil, mm_cats_I, mm_cats_L, mm_cats_R, if_true, if_false, true_and, and_true, false_and, and_false, not_true_eq_false, not_false_eq_true, Int.reduceLE, Int.reduceLT, Int.reduceEq, Int.reduceNe, Int.reduceNeg, Int.reduceAdd, Int.reduceSub, Int.reduceMul, Nat.reduceAdd, Nat.reduceLeDiff, true_or, or_true, false_or, or_false, reduceIte, k_149, k_164, l_164, p, decide_eq_true_eq]
  repeat' split
  all_goals first | rfl | omega
theorem s_byteM (L k : Int) (r : MM) (p : r 149 29 = 164) (hn : nn (r 164)) (hf : fitv (r 164) = true) (h0 : 0 ≤ k) (h1 : k < 18) : ev 198 0 [some (vR 149), some (vI k)] [] r (g_1 L) = some (some (vI (dbv (r 164) k)), r, g_1 L) := by
  have f := of_decide_eq_true hf
  have n0 := hn 0 (by omega) (by omega)
  have n1 := hn 1 (by omega) (by omega)
  have n2 := hn 2 (by omega) (by omega)
  have n3 := hn 3 (by omega) (by omega)
  have n4 := hn 4 (by omega) (by omega)
  have n5 := hn 5 (by omega) (by omega)
  have n6 := hn 6 (by omega) (by omega)
  have n7 := hn 7 (by omega) (by omega)
  have n8 := hn 8 (by omega) (by omega)
  have d1 : mm_div (r 164 8) 10 = r 164 8 / 10 := nu_div n8.1 n8.2 (by omega) (by omega)
  have d2 : mm_div (r 164 8) 2560 = r 164 8 / 2560 := nu_div n8.1 n8.2 (by omega) (by omega)
  have d3 : mm_rem (r 164 8 / 10) 256 = r 164 8 / 10 % 256 := nu_rem (by omega) (by omega) (by omega) (by omega)
  have e1 : r 164 8 / 2560 = r 164 8 / 10 / 256 % 256 := by omega
  have m : ∀ x : Int, 0 ≤ x → x < 2147483648 → mm_rem x 256 = x % 256 := fun x h0 h1 => nu_rem h0 h1 (by omega) (by omega)
  have m' : ∀ x : Int, 0 ≤ x → x < 2147483648 → mm_rem x 16 = x % 16 := fun x h0 h1 => nu_rem h0 h1 (by omega) (by omega)
  have v : ∀ x : Int, 0 ≤ x → x < 2147483648 → mm_div x 256 = x / 256 := fun x h0 h1 => nu_div h0 h1 (by omega) (by omega)
  have v' : ∀ x : Int, 0 ≤ x → x < 2147483648 → mm_div x 16 = x / 16 := fun x h0 h1 => nu_div h0 h1 (by omega) (by omega)
  have a4 : w32 (w32 (r 164 0 / 256 * 16) + r 164 1 / 256) = r 164 0 / 256 % 16 * 16 + r 164 1 / 256 % 16 := by rw [wi32 (x := r 164 0 / 256 * 16) (by omega) (by omega), wi32 (by omega) (by omega)]; omega
  have a7 : w32 (w32 (r 164 4 / 256 * 16) + r 164 5 / 256) = r 164 4 / 256 % 16 * 16 + r 164 5 / 256 % 16 := by rw [wi32 (x := r 164 4 / 256 * 16) (by omega) (by omega), wi32 (by omega) (by omega)]; omega
  have a10 : w32 (w32 (r 164 6 % 16 * 16) + r 164 7 % 16) = r 164 6 % 16 * 16 + r 164 7 % 16 := by rw [wi32 (x := r 164 6 % 16 * 16) (by omega) (by omega), wi32 (by omega) (by omega)]
  have b1 : w32 (r 164 2 / 256 * 64) = r 164 2 / 256 * 64 := wi32 (by omega) (by omega)
  have b2 : w32 (r 164 3 / 256 * 16) = r 164 3 / 256 * 16 := wi32 (by omega) (by omega)
  have b3 : w32 (r 164 6 / 16 * 4) = r 164 6 / 16 * 4 := wi32 (by omega) (by omega)
  have b4 : w32 (r 164 2 / 256 * 64 + r 164 3 / 256 * 16) = r 164 2 / 256 * 64 + r 164 3 / 256 * 16 := wi32 (by omega) (by omega)
  have b5 : w32 (r 164 2 / 256 * 64 + r 164 3 / 256 * 16 + r 164 6 / 16 * 4) = r 164 2 / 256 * 64 + r 164 3 / 256 * 16 + r 164 6 / 16 * 4 := wi32 (by omega) (by omega)
  have b6 : w32 (r 164 2 / 256 * 64 + r 164 3 / 256 * 16 + r 164 6 / 16 * 4 + r 164 7 / 16) = r 164 2 / 256 % 4 * 64 + r 164 3 / 256 % 4 * 16 + r 164 6 / 16 % 4 * 4 + r 164 7 / 16 % 4 := by rw [wi32 (by omega) (by omega)]; omega
  have q : k = 0 ∨ k = 1 ∨ k = 2 ∨ k = 3 ∨ k = 4 ∨ k = 5 ∨ k = 6 ∨ k = 7 ∨ k = 8 ∨ k = 9 ∨ k = 10 ∨ k = 11 ∨ 12 ≤ k := by omega
  rcases q with rfl | rfl | rfl | rfl | rfl | rfl | rfl | rfl | rfl | rfl | rfl | rfl | q
  all_goals try simp only [xe_198_0, xe_198_1, xe_198_64, xe_198_65, xe_198_68, xe_198_70, xe_198_71, xe_198_73, xe_198_74, xe_198_77, xe_198_78, xe_198_79, xe_198_80, xe_198_83, xe_198_85, xe_198_86, xe_198_89, xe_198_90, xe_198_91, xe_198_92, xe_198_95, xe_198_96, xe_198_97, xe_198_100, xe_198_101, xe_198_102, xe_198_103, xe_198_106, xe_198_107, xe_198_108, xe_198_111, xe_198_112, xe_198_113, xe_198_114, xe_198_117, xe_198_118, xe_198_119, xe_198_122, xe_198_123, xe_198_125, xe_198_126, xe_198_127, xe_198_130, xe_198_131, xe_198_132, xe_198_135, xe_198_136, xe_198_137, xe_198_138, xe_198_139, xe_198_142, xe_198_143, xe_198_144, xe_198_147, xe_198_148, xe_198_149, xe_198_150, xe_198_153, xe_198_154, xe_198_155, xe_198_158, xe_198_159, xe_198_160, xe_198_161, xe_198_164, xe_198_165, xe_198_166, xe_198_169, xe_198_170, xe_198_172, xe_198_173, xe_198_174, xe_198_177, xe_198_178, xe_198_179, xe_198_182, xe_198_183, xe_198_184, xe_198_185, xe_198_186, xe_198_189, xe_198_190, xe_198_191, xe_198_194, xe_198_195, xe_198_196, xe_198_197, xe_198_200, xe_198_201, xe_198_202, xe_198_205, xe_198_206, xe_198_207, xe_198_208, xe_198_211, xe_198_213, xe_198_214, xe_198_216, xe_198_217, xe_198_219, xe_198_220, xe_198_221, xe_198_224, xe_198_226, xe_198_227, xe_198_229, xe_198_230, xe_198_231, xe_198_232, xe_198_233, xe_198_236, xe_198_237, xe_198_238, xe_198_241, xe_198_242, xe_198_244, xe_198_245, xe_198_246, xe_198_249, xe_198_250, xe_198_251, xe_198_254, xe_198_255, xe_198_257, xe_198_258, xe_198_259, xe_198_260, xe_198_263, xe_198_265, xe_198_266, xe_198_268, xe_198_269, xe_198_270, xe_198_271, xe_198_272, xe_198_273, xe_198_276, xe_198_278, xe_198_279, xe_198_281, xe_198_282, xe_198_283, xe_198_284, xe_198_285, ite_self, mm_nL_I, mm_nL_R, mm_nL_0, Option.bind_some, Option.bind_none, bnd_ite, Option.toList_some, Option.toList_none, List.cons_append, List.nil_append, mm_cats_nil, mm_cats_I, mm_cats_L, mm_cats_R, if_true, if_false, true_and, and_true, false_and, and_false, not_true_eq_false, not_false_eq_true, Int.reduceLE, Int.reduceLT, Int.reduceEq, Int.reduceNe, Int.reduceNeg, Int.reduceAdd, Int.reduceSub, Int.reduceMul, Nat.reduceAdd, Nat.reduceLeDiff, true_or, or_true, false_or, or_false, reduceIte, k_149, k_164, l_164, p, dbv, d1, d2, d3, e1, m _ n0.1 n0.2, m _ n1.1 n1.2, m _ n2.1 n2.2, m _ n3.1 n3.2, m _ n4.1 n4.2, m _ n5.1 n5.2, m' _ n6.1 n6.2, m' _ n7.1 n7.2, v _ n0.1 n0.2, v _ n1.1 n1.2, v _ n2.1 n2.2, v _ n3.1 n3.2, v _ n4.1 n4.2, v _ n5.1 n5.2, v' _ n6.1 n6.2, v' _ n7.1 n7.2, a4, a7, a10, b1, b2, b3, b4, b5, b6]
  have g0 : ¬ k = 0 := by omega
  have g1 : ¬ k = 1 := by omega
  have g2 : ¬ k = 2 := by omega
  have g3 : ¬ k = 3 := by omega
  have g4 : ¬ k = 4 := by omega
  have g5 : ¬ k = 5 := by omega
  have g6 : ¬ k = 6 := by omega
  have g7 : ¬ k = 7 := by omega
  have g8 : ¬ k = 8 := by omega
  have g9 : ¬ k = 9 := by omega
  have g10 : ¬ k = 10 := by omega
  have g11 : ¬ k = 11 := by omega
  simp only [xe_198_0, xe_198_1, xe_198_64, xe_198_65, xe_198_68, xe_198_70, xe_198_71, xe_198_73, xe_198_74, xe_198_77, xe_198_78, xe_198_79, xe_198_80, xe_198_83, xe_198_85, xe_198_86, xe_198_89, xe_198_90, xe_198_91, xe_198_92, xe_198_95, xe_198_96, xe_198_97, xe_198_100, xe_198_101, xe_198_102, xe_198_103, xe_198_106, xe_198_107, xe_198_108, xe_198_111, xe_198_112, xe_198_113, xe_198_114, xe_198_117, xe_198_118, xe_198_119, xe_198_122, xe_198_123, xe_198_125, xe_198_126, xe_198_127, xe_198_130, xe_198_131, xe_198_132, xe_198_135, xe_198_136, xe_198_137, xe_198_138, xe_198_139, xe_198_142, xe_198_143, xe_198_144, xe_198_147, xe_198_148, xe_198_149, xe_198_150, xe_198_153, xe_198_154, xe_198_155, xe_198_158, xe_198_159, xe_198_160, xe_198_161, xe_198_164, xe_198_165, xe_198_166, xe_198_169, xe_198_170, xe_198_172, xe_198_173, xe_198_174, xe_198_177, xe_198_178, xe_198_179, xe_198_182, xe_198_183, xe_198_184, xe_198_185, xe_198_186, xe_198_189, xe_198_190, xe_198_191, xe_198_194, xe_198_195, xe_198_196, xe_198_197, xe_198_200, xe_198_201, xe_198_202, xe_198_205, xe_198_206, xe_198_207, xe_198_208, xe_198_211, xe_198_213, xe_198_214, xe_198_216, xe_198_217, xe_198_219, xe_198_220, xe_198_221, xe_198_224, xe_198_226, xe_198_227, xe_198_229, xe_198_230, xe_198_231, xe_198_232, xe_198_233, xe_198_236, xe_198_237, xe_198_238, xe_198_241, xe_198_242, xe_198_244, xe_198_245, xe_198_246, xe_198_249, xe_198_250, xe_198_251, xe_198_254, xe_198_255, xe_198_257, xe_198_258, xe_198_259, xe_198_260, xe_198_263, xe_198_265, xe_198_266, xe_198_268, xe_198_269, xe_198_270, xe_198_271, xe_198_272, xe_198_273, xe_198_276, xe_198_278, xe_198_279, xe_198_281, xe_198_282, xe_198_283, xe_198_284, xe_198_285, ite_self, mm_nL_I, mm_nL_R, mm_nL_0, Option.bind_some, Option.bind_none, bnd_ite, Option.toList_some, Option.toList_none, List.cons_append, List.nil_append, mm_cats_nil, mm_cats_I, mm_cats_L, mm_cats_R, if_true, if_false, true_and, and_true, false_and, and_false, not_true_eq_false, not_false_eq_true, Int.reduceLE, Int.reduceLT, Int.reduceEq, Int.reduceNe, Int.reduceNeg, Int.reduceAdd, Int.reduceSub, Int.reduceMul, Nat.reduceAdd, Nat.reduceLeDiff, true_or, or_true, false_or, or_false, reduceIte, dbv, g0, g1, g2, g3, g4, g5, g6, g7, g8, g9, g10, g11]
