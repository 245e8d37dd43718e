/-! load: a detailed timing on both sides -/
theorem or_z {a b : Int} (a0 : 0 ≤ a) (a1 : a < 256) (b0 : 0 ≤ b) (b1 : b < 256) : mm_or a b = 0 ↔ a = 0 ∧ b = 0 := by
  have e1 : (a % 4294967296).toNat = a.toNat := by omega
  have e2 : (b % 4294967296).toNat = b.toNat := by omega
  have hbv : ((Int32.ofInt a) ||| (Int32.ofInt b)).toBitVec.toNat = a.toNat ||| b.toNat := by
    rw [Int32.toBitVec_or, BitVec.toNat_or, nu_bv, nu_bv, e1, e2]
  have lt : a.toNat ||| b.toNat < 2 ^ 8 := Nat.or_lt_two_pow (by omega) (by omega)
  unfold mm_or
  rw [nu_nat (by rw [hbv]; omega), hbv]
  constructor
  · intro h
    have h' : a.toNat ||| b.toNat = 0 := by omega
    have := Nat.or_eq_zero_iff.1 h'
    omega
  · rintro ⟨rfl, rfl⟩; rfl
theorem or_8 {a b : Int} (a0 : 0 ≤ a) (a1 : a < 256) (b0 : 0 ≤ b) (b1 : b < 1000) : mm_or a (mm_shl b 8) = a + b * 256 := by
  have e : mm_shl b 8 = b * 256 := nu_shl 8 (by omega) b0 (by omega)
  have o := (nu_or (a := a) (b := b) 8 a0 a1 b0 (by omega)).1
  rw [e]
  have o' : mm_or a (b * 256) = b * 256 + a := o
  rw [o']; omega
theorem or_4 {a b : Int} (a0 : 0 ≤ a) (a1 : a < 16) (b0 : 0 ≤ b) (b1 : b < 1000) : mm_or a (mm_shl b 4) = a + b * 16 := by
  have e : mm_shl b 4 = b * 16 := nu_shl 4 (by omega) b0 (by omega)
  have o := (nu_or (a := a) (b := b) 4 a0 a1 b0 (by omega)).1
  rw [e]
  have o' : mm_or a (b * 16) = b * 16 + a := o
  rw [o']; omega
theorem sh_4 {a : Int} (a0 : 0 ≤ a) (a1 : a < 256) : mm_shr a 4 = a / 16 := nu_shr (by omega) (by omega) 4 (by omega)
theorem sh_6 {a : Int} (a0 : 0 ≤ a) (a1 : a < 256) : mm_shr a 6 = a / 64 := nu_shr (by omega) (by omega) 6 (by omega)
theorem sh_2 {a : Int} (a0 : 0 ≤ a) (a1 : a < 256) : mm_shr a 2 = a / 4 := nu_shr (by omega) (by omega) 2 (by omega)
theorem sh_5 {a : Int} (a0 : 0 ≤ a) (a1 : a < 256) : mm_shr a 5 = a / 32 := nu_shr (by omega) (by omega) 5 (by omega)
def tmg (F : Int → Int) (i j : Int) : Int := if j = 0 then 10 * (256 * F (i + 1) + F i) else if j = 1 then F (i + 2) + F (i + 4) / 16 * 256 else if j = 2 then F (i + 3) + F (i + 4) % 16 * 256 else if j = 3 then F (i + 8) + F (i + 11) / 64 * 256 else if j = 4 then F (i + 9) + F (i + 11) / 16 % 4 * 256 else if j = 5 then F (i + 5) + F (i + 7) / 16 * 256 else if j = 6 then F (i + 6) + F (i + 7) % 16 * 256 else if j = 7 then F (i + 10) / 16 + F (i + 11) / 4 % 4 * 16 else if j = 8 then F (i + 10) % 16 + F (i + 11) % 4 * 16 else F (i + 17) / 128
/-- the screen's bytes of the class are F -/
def XB (c : MM) (n : Int) (F : Int → Int) : Prop := c 17 0 = 18 ∧ c 17 1 = n ∧ n ≤ 512 ∧ ∀ i, 0 ≤ i → i < n → c 18 i = F i ∧ 0 ≤ F i ∧ F i < 256
def YB (r : MM) (n : Int) (F : Int → Int) : Prop := r 149 3 = 152 ∧ n ≤ 512 ∧ ∀ i, 0 ≤ i → i < n → r 152 i = F i ∧ 0 ≤ F i ∧ F i < 256
theorem xb_at {L n i : Int} {c : MM} {F : Int → Int} (h : XB c n F) (i0 : 0 ≤ i) (i1 : i < n) (c' : MM) (e1 : c' 17 = c 17) (e2 : c' 18 = c 18) : ev 3 0 [some (vR 17), some (vI i)] [] c' (g_1 L) = some (some (vI (F i)), c', g_1 L) := by
  have := s_at 17 i c' (g_1 L) (k_17 L) (by rw [e1]; exact h.1) (k_18 L) (l_18 L)
  rw [e1, h.2.1, if_pos ⟨i0, i1, by have := h.2.2.1; omega⟩, show (17 : Int) + 1 = 18 from rfl, e2, (h.2.2.2 i i0 i1).1] at this
  exact this
theorem yb_at {L n i : Int} {r : MM} {F : Int → Int} (h : YB r n F) (i0 : 0 ≤ i) (i1 : i < n) (r' : MM) (e1 : r' 149 3 = r 149 3) (e2 : r' 152 = r 152) : ev 160 0 [some (vR 149), some (vI i)] [] r' (g_1 L) = some (some (vI (F i)), r', g_1 L) := by
  have := s_atM L i r' (by rw [e1]; exact h.1) i0 (by have := h.2.1; omega)
  rw [e2, (h.2.2 i i0 i1).1] at this
  exact this
def trd (c : MM) (a i : Int) (F : Int → Int) : MM := fun b j => if b = a ∧ 0 ≤ j ∧ j ≤ 9 then tmg F i j else c b j
theorem s_tread (L n a i : Int) (c : MM) (F : Int → Int) (h : XB c n F) (ha : 23 ≤ a) (hk : gk (g_1 L) a = 7) (i0 : 0 ≤ i) (i1 : i + 18 ≤ n) : ev 60 0 [some (vR a), some (vR 17), some (vI i), none, none, none, none] [] c (g_1 L) = some (none, trd c a i F, g_1 L) := by
  have n5 := h.2.2.1
  have m7 : ∀ (c : MM) k v, mset c a k v 17 = c 17 := fun c k v => ms_row _ _ _ _ _ (by omega)
  have m8 : ∀ (c : MM) k v, mset c a k v 18 = c 18 := fun c k v => ms_row _ _ _ _ _ (by omega)
  have A0 := xb_at (L := L) (i := i) h (by omega) (by omega)
  have b0 := (h.2.2.2 (i) (by omega) (by omega)).2
  have A1 := xb_at (L := L) (i := i + 1) h (by omega) (by omega)
  have b1 := (h.2.2.2 (i + 1) (by omega) (by omega)).2
  have w1 : w32 (i + 1) = i + 1 := wi32 (by omega) (by omega)
  have A2 := xb_at (L := L) (i := i + 2) h (by omega) (by omega)
  have b2 := (h.2.2.2 (i + 2) (by omega) (by omega)).2
  have w2 : w32 (i + 2) = i + 2 := wi32 (by omega) (by omega)
  have A3 := xb_at (L := L) (i := i + 3) h (by omega) (by omega)
  have b3 := (h.2.2.2 (i + 3) (by omega) (by omega)).2
  have w3 : w32 (i + 3) = i + 3 := wi32 (by omega) (by omega)
  have A4 := xb_at (L := L) (i := i + 4) h (by omega) (by omega)
  have b4 := (h.2.2.2 (i + 4) (by omega) (by omega)).2
  have w4 : w32 (i + 4) = i + 4 := wi32 (by omega) (by omega)
  have A5 := xb_at (L := L) (i := i + 5) h (by omega) (by omega)
  have b5 := (h.2.2.2 (i + 5) (by omega) (by omega)).2
  have w5 : w32 (i + 5) = i + 5 := wi32 (by omega) (by omega)
  have A6 := xb_at (L := L) (i := i + 6) h (by omega) (by omega)
  have b6 := (h.2.2.2 (i + 6) (by omega) (by omega)).2
  have w6 : w32 (i + 6) = i + 6 := wi32 (by omega) (by omega)
  have A7 := xb_at (L := L) (i := i + 7) h (by omega) (by omega)
  have b7 := (h.2.2.2 (i + 7) (by omega) (by omega)).2
  have w7 : w32 (i + 7) = i + 7 := wi32 (by omega) (by omega)
  have A8 := xb_at (L := L) (i := i + 8) h (by omega) (by omega)
  have b8 := (h.2.2.2 (i + 8) (by omega) (by omega)).2
  have w8 : w32 (i + 8) = i + 8 := wi32 (by omega) (by omega)
  have A9 := xb_at (L := L) (i := i + 9) h (by omega) (by omega)
  have b9 := (h.2.2.2 (i + 9) (by omega) (by omega)).2
  have w9 : w32 (i + 9) = i + 9 := wi32 (by omega) (by omega)
  have A10 := xb_at (L := L) (i := i + 10) h (by omega) (by omega)
  have b10 := (h.2.2.2 (i + 10) (by omega) (by omega)).2
  have w10 : w32 (i + 10) = i + 10 := wi32 (by omega) (by omega)
  have A11 := xb_at (L := L) (i := i + 11) h (by omega) (by omega)
  have b11 := (h.2.2.2 (i + 11) (by omega) (by omega)).2
  have w11 : w32 (i + 11) = i + 11 := wi32 (by omega) (by omega)
  have A17 := xb_at (L := L) (i := i + 17) h (by omega) (by omega)
  have b17 := (h.2.2.2 (i + 17) (by omega) (by omega)).2
  have w17 : w32 (i + 17) = i + 17 := wi32 (by omega) (by omega)
  generalize hf0 : F (i) = f0 at *
  generalize hf1 : F (i + 1) = f1 at *
  generalize hf2 : F (i + 2) = f2 at *
  generalize hf3 : F (i + 3) = f3 at *
  generalize hf4 : F (i + 4) = f4 at *
  generalize hf5 : F (i + 5) = f5 at *
  generalize hf6 : F (i + 6) = f6 at *
  generalize hf7 : F (i + 7) = f7 at *
  generalize hf8 : F (i + 8) = f8 at *
  generalize hf9 : F (i + 9) = f9 at *
  generalize hf10 : F (i + 10) = f10 at *
  generalize hf11 : F (i + 11) = f11 at *
  generalize hf17 : F (i + 17) = f17 at *
  have e0 : mm_or (mm_shl f1 8) f0 = 256 * f1 + f0 := mkr_b b1.1 b1.2 b0.1 b0.2
  have q0 : w32 ((256 * f1 + f0) * 10) = 10 * (256 * f1 + f0) := by rw [wi32 (by omega) (by omega)]; omega
  have h4 := sh_4 b4.1 b4.2
  have h7 := sh_4 b7.1 b7.2
  have h10 := sh_4 b10.1 b10.2
  have h11a := sh_6 b11.1 b11.2
  have h11b := sh_4 b11.1 b11.2
  have h11c := sh_2 b11.1 b11.2
  have e1 : mm_or f2 (mm_shl (f4 / 16) 8) = f2 + f4 / 16 * 256 := or_8 b2.1 b2.2 (by omega) (by omega)
  have e2 : mm_or f3 (mm_shl (f4 % 16) 8) = f3 + f4 % 16 * 256 := or_8 b3.1 b3.2 (by omega) (by omega)
  have e5 : mm_or f5 (mm_shl (f7 / 16) 8) = f5 + f7 / 16 * 256 := or_8 b5.1 b5.2 (by omega) (by omega)
  have e6 : mm_or f6 (mm_shl (f7 % 16) 8) = f6 + f7 % 16 * 256 := or_8 b6.1 b6.2 (by omega) (by omega)
  have e3 : mm_or f8 (mm_shl (f11 / 64 % 4) 8) = f8 + f11 / 64 * 256 := by rw [or_8 b8.1 b8.2 (by omega) (by omega)]; omega
  have e4 : mm_or f9 (mm_shl (f11 / 16 % 4) 8) = f9 + f11 / 16 % 4 * 256 := or_8 b9.1 b9.2 (by omega) (by omega)
  have e7 : mm_or (f10 / 16) (mm_shl (f11 / 4 % 4) 4) = f10 / 16 + f11 / 4 % 4 * 16 := or_4 (by omega) (by omega) (by omega) (by omega)
  have e8 : mm_or (f10 % 16) (mm_shl (f11 % 4) 4) = f10 % 16 + f11 % 4 * 16 := or_4 (by omega) (by omega) (by omega) (by omega)
  have fin : ∀ v, (v = f17 / 128) → mset (mset (mset (mset (mset (mset (mset (mset (mset (mset c a 0 (10 * (256 * f1 + f0))) a 1 (f2 + f4 / 16 * 256)) a 2 (f3 + f4 % 16 * 256)) a 5 (f5 + f7 / 16 * 256)) a 6 (f6 + f7 % 16 * 256)) a 3 (f8 + f11 / 64 * 256)) a 4 (f9 + f11 / 16 % 4 * 256)) a 7 (f10 / 16 + f11 / 4 % 4 * 16)) a 8 (f10 % 16 + f11 % 4 * 16)) a 9 v = trd c a i F := fun v hv => by
    funext b j
    unfold trd
    by_cases hb : b = a ∧ 0 ≤ j ∧ j ≤ 9
    · rw [if_pos hb]
      obtain ⟨rfl, j0, j9⟩ := hb
      unfold tmg
      rw [hf0, hf1, hf2, hf3, hf4, hf5, hf6, hf7, hf8, hf9, hf10, hf11, hf17]
      have q : j = 0 ∨ j = 1 ∨ j = 2 ∨ j = 3 ∨ j = 4 ∨ j = 5 ∨ j = 6 ∨ j = 7 ∨ j = 8 ∨ j = 9 := by omega
      rcases q with rfl | rfl | rfl | rfl | rfl | rfl | rfl | rfl | rfl | rfl <;> simp [mset, hv]
    · rw [if_neg hb]
      have z : ∀ (μ : MM) (k v : Int), 0 ≤ k → k ≤ 9 → mset μ a k v b j = μ b j := fun μ k v k0 k9 => ms_ne _ _ _ _ _ _ (fun q => hb ⟨q.1, by omega, by omega⟩)
      rw [z _ _ _ (by omega) (by omega), z _ _ _ (by omega) (by omega), z _ _ _ (by omega) (by omega), z _ _ _ (by omega) (by omega), z _ _ _ (by omega) (by omega), z _ _ _ (by omega) (by omega), z _ _ _ (by omega) (by omega), z _ _ _ (by omega) (by omega), z _ _ _ (by omega) (by omega), z _ _ _ (by omega) (by omega)]
  by_cases p : f17 < 128
  · simp only [xe_60_0, xe_60_1, xe_60_2, xe_60_3, xe_60_4, xe_60_5, xe_60_8, xe_60_10, xe_60_11, xe_60_12, xe_60_13, xe_60_16, xe_60_17, xe_60_19, xe_60_20, xe_60_23, xe_60_24, xe_60_25, xe_60_26, xe_60_27, xe_60_30 _ _ (some (vI _)) _ _ _ _ _ _ _ _ rfl, xe_60_30 _ _ (some (vR _)) _ _ _ _ _ _ _ _ rfl, xe_60_30 _ _ none _ _ _ _ _ _ _ _ rfl, xe_60_31, xe_60_32, xe_60_33, xe_60_34, xe_60_35, xe_60_36, xe_60_39, xe_60_40, xe_60_41, xe_60_42, xe_60_44, xe_60_45, xe_60_46, xe_60_49, xe_60_50, xe_60_51, xe_60_52, xe_60_53, xe_60_54, xe_60_57, xe_60_58, xe_60_60, xe_60_61, xe_60_63, xe_60_64, xe_60_65, xe_60_68, xe_60_69, xe_60_70, xe_60_72, xe_60_73, xe_60_76 _ _ _ (some (vI _)) _ _ _ _ _ _ _ rfl, xe_60_76 _ _ _ (some (vR _)) _ _ _ _ _ _ _ rfl, xe_60_76 _ _ _ none _ _ _ _ _ _ _ rfl, xe_60_78, xe_60_79, xe_60_80, xe_60_81, xe_60_82, xe_60_83, xe_60_86, xe_60_88, xe_60_89, xe_60_90, xe_60_92, xe_60_93, xe_60_94, xe_60_97, xe_60_98, xe_60_99, xe_60_100, xe_60_102, xe_60_103, xe_60_106, xe_60_108, xe_60_110, xe_60_111, xe_60_113, xe_60_114, xe_60_115, xe_60_118, xe_60_119, xe_60_120, xe_60_122, xe_60_123, xe_60_126 _ _ _ _ (some (vI _)) _ _ _ _ _ _ rfl, xe_60_126 _ _ _ _ (some (vR _)) _ _ _ _ _ _ rfl, xe_60_126 _ _ _ _ none _ _ _ _ _ _ rfl, xe_60_128, xe_60_129, xe_60_130, xe_60_132, xe_60_133, xe_60_136 _ _ _ _ _ (some (vI _)) _ _ _ _ _ rfl, xe_60_136 _ _ _ _ _ (some (vR _)) _ _ _ _ _ rfl, xe_60_136 _ _ _ _ _ none _ _ _ _ _ rfl, xe_60_138, xe_60_139, xe_60_140, xe_60_141, xe_60_143, xe_60_144, xe_60_147, xe_60_149, xe_60_151, xe_60_152, xe_60_153, xe_60_154, xe_60_156, xe_60_157, xe_60_158, xe_60_161, xe_60_162, xe_60_163, xe_60_164, xe_60_166, xe_60_167, xe_60_170, xe_60_172, xe_60_173, xe_60_174, xe_60_175, xe_60_176, xe_60_178, xe_60_179, xe_60_180, xe_60_183, xe_60_184, xe_60_186, xe_60_187, xe_60_188, xe_60_190, xe_60_191, xe_60_192, xe_60_193, xe_60_194, xe_60_195, xe_60_196, xe_60_197, xe_60_200, xe_60_201, xe_60_203, xe_60_205, xe_60_206, xe_60_208, xe_60_209, xe_60_210, xe_60_211, xe_60_212, xe_60_213, xe_60_216, xe_60_217, xe_60_218, xe_60_219, xe_60_221, xe_60_222, xe_60_225, xe_60_228, xe_60_231, xe_60_232, xe_60_235, xe_60_236, xe_60_239, ite_self, mm_nL_I, mm_nL_R, mm_nL_0, Option.bind_some, Option.bind_none, bnd_ite, Option.toList_some, Option.toList_none, List.cons_append, List.nil_append, mm_cats_nil, mm_cats_I, mm_cats_L, mm_cats_R, if_true, if_false, true_and, and_true, false_and, and_false, not_true_eq_false, not_false_eq_true, Int.reduceLE, Int.reduceLT, Int.reduceEq, Int.reduceNe, Int.reduceNeg, Int.reduceAdd, Int.reduceSub, Int.reduceMul, Nat.reduceAdd, Nat.reduceLeDiff, true_or, or_true, false_or, or_false, reduceIte, k_17, hk, A0, A1, A2, A3, A4, A5, A6, A7, A8, A9, A10, A11, A17, m7, m8, w1, w2, w3, w4, w5, w6, w7, w8, w9, w10, w11, w17, nu_15, nu_3, h4, h7, h10, h11a, h11b, h11c, e0, e1, e2, e3, e4, e5, e6, e7, e8, q0, p]
    rw [fin 0 (by omega)]
  · simp only [xe_60_0, xe_60_1, xe_60_2, xe_60_3, xe_60_4, xe_60_5, xe_60_8, xe_60_10, xe_60_11, xe_60_12, xe_60_13, xe_60_16, xe_60_17, xe_60_19, xe_60_20, xe_60_23, xe_60_24, xe_60_25, xe_60_26, xe_60_27, xe_60_30 _ _ (some (vI _)) _ _ _ _ _ _ _ _ rfl, xe_60_30 _ _ (some (vR _)) _ _ _ _ _ _ _ _ rfl, xe_60_30 _ _ none _ _ _ _ _ _ _ _ rfl, xe_60_31, xe_60_32, xe_60_33, xe_60_34, xe_60_35, xe_60_36, xe_60_39, xe_60_40, xe_60_41, xe_60_42, xe_60_44, xe_60_45, xe_60_46, xe_60_49, xe_60_50, xe_60_51, xe_60_52, xe_60_53, xe_60_54, xe_60_57, xe_60_58, xe_60_60, xe_60_61, xe_60_63, xe_60_64, xe_60_65, xe_60_68, xe_60_69, xe_60_70, xe_60_72, xe_60_73, xe_60_76 _ _ _ (some (vI _)) _ _ _ _ _ _ _ rfl, xe_60_76 _ _ _ (some (vR _)) _ _ _ _ _ _ _ rfl, xe_60_76 _ _ _ none _ _ _ _ _ _ _ rfl, xe_60_78, xe_60_79, xe_60_80, xe_60_81, xe_60_82, xe_60_83, xe_60_86, xe_60_88, xe_60_89, xe_60_90, xe_60_92, xe_60_93, xe_60_94, xe_60_97, xe_60_98, xe_60_99, xe_60_100, xe_60_102, xe_60_103, xe_60_106, xe_60_108, xe_60_110, xe_60_111, xe_60_113, xe_60_114, xe_60_115, xe_60_118, xe_60_119, xe_60_120, xe_60_122, xe_60_123, xe_60_126 _ _ _ _ (some (vI _)) _ _ _ _ _ _ rfl, xe_60_126 _ _ _ _ (some (vR _)) _ _ _ _ _ _ rfl, xe_60_126 _ _ _ _ none _ _ _ _ _ _ rfl, xe_60_128, xe_60_129, xe_60_130, xe_60_132, xe_60_133, xe_60_136 _ _ _ _ _ (some (vI _)) _ _ _ _ _ rfl, xe_60_136 _ _ _ _ _ (some (vR _)) _ _ _ _ _ rfl, xe_60_136 _ _ _ _ _ none _ _ _ _ _ rfl, xe_60_138, xe_60_139, xe_60_140, xe_60_141, xe_60_143, xe_60_144, xe_60_147, xe_60_149, xe_60_151, xe_60_152, xe_60_153, xe_60_154, xe_60_156, xe_60_157, xe_60_158, xe_60_161, xe_60_162, xe_60_163, xe_60_164, xe_60_166, xe_60_167, xe_60_170, xe_60_172, xe_60_173, xe_60_174, xe_60_175, xe_60_176, xe_60_178, xe_60_179, xe_60_180, xe_60_183, xe_60_184, xe_60_186, xe_60_187, xe_60_188, xe_60_190, xe_60_191, xe_60_192, xe_60_193, xe_60_194, xe_60_195, xe_60_196, xe_60_197, xe_60_200, xe_60_201, xe_60_203, xe_60_205, xe_60_206, xe_60_208, xe_60_209, xe_60_210, xe_60_211, xe_60_212, xe_60_213, xe_60_216, xe_60_217, xe_60_218, xe_60_219, xe_60_221, xe_60_222, xe_60_225, xe_60_228, xe_60_231, xe_60_232, xe_60_235, xe_60_236, xe_60_239, ite_self, mm_nL_I, mm_nL_R, mm_nL_0, Option.bind_some, Option.bind_none, bnd_ite, Option.toList_some, Option.toList_none, List.cons_append, List.nil_append, mm_cats_nil, mm_cats_I, mm_cats_L, mm_cats_R, if_true, if_false, true_and, and_true, false_and, and_false, not_true_eq_false, not_false_eq_true, Int.reduceLE, Int.reduceLT, Int.reduceEq, Int.reduceNe, Int.reduceNeg, Int.reduceAdd, Int.reduceSub, Int.reduceMul, Nat.reduceAdd, Nat.reduceLeDiff, true_or, or_true, false_or, or_false, reduceIte, k_17, hk, A0, A1, A2, A3, A4, A5, A6, A7, A8, A9, A10, A11, A17, m7, m8, w1, w2, w3, w4, w5, w6, w7, w8, w9, w10, w11, w17, nu_15, nu_3, h4, h7, h10, h11a, h11b, h11c, e0, e1, e2, e3, e4, e5, e6, e7, e8, q0, p]
    rw [fin 1 (by omega)]
