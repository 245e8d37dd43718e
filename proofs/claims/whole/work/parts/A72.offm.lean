/-! load: the reference's offer -/
/-- why a mode is left out (-1: it isn't) -/
def wv (c r : MM) (t : Int → Int) (s : Nat) : Int := if ou c (hz t) (t 0 / (t 1 + t 2)) (t 0) = true then 3 else if ¬ c 16 11 = 0 ∧ c 16 11 < t 0 then 4 else if ff (fun i => isL (r 157) (12 * i) (t 1) (t 5) (hz t)) 0 s = -1 then (if (s : Int) = 40 then 6 else -1) else 5
theorem wv_ok (c r : MM) (t : Int → Int) (s : Nat) : wv c r t s = -1 ∨ (3 ≤ wv c r t s ∧ wv c r t s ≤ 6) := by
  unfold wv; (repeat' split) <;> omega
def f12 (r : MM) (m : Int) (v : Int → Int) : MM := fun b j => if b = 157 ∧ m ≤ j ∧ j < m + 12 then v (j - m) else r b j
theorem fin12 (r : MM) (m : Int) (v : Int → Int) : mset (mset (mset (mset (mset (mset (mset (mset (mset (mset (mset (mset r 157 m (v 0)) 157 (m + 1) (v 1)) 157 (m + 2) (v 2)) 157 (m + 3) (v 3)) 157 (m + 4) (v 4)) 157 (m + 5) (v 5)) 157 (m + 6) (v 6)) 157 (m + 7) (v 7)) 157 (m + 8) (v 8)) 157 (m + 9) (v 9)) 157 (m + 10) (v 10)) 157 (m + 11) (v 11) = f12 r m v := by
  funext b j
  unfold f12
  by_cases hb : b = 157 ∧ m ≤ j ∧ j < m + 12
  · rw [if_pos hb]
    obtain ⟨rfl, j0, j9⟩ := hb
    obtain ⟨i, rfl⟩ : ∃ i, j = m + i := ⟨j - m, by omega⟩
    rw [show m + i - m = i by omega]
    have nn : ∀ (μ : MM) (k v : Int), ¬ i = k → mset μ 157 (m + k) v 157 (m + i) = μ 157 (m + i) := fun μ k v hk => ms_nk _ _ _ _ _ _ (by omega)
    have n0 : ∀ (μ : MM) (v : Int), i = 0 → mset μ 157 m v 157 (m + i) = v := fun μ v hk => by rw [hk, Int.add_zero, ms_eq]
    have q : i = 0 ∨ i = 1 ∨ i = 2 ∨ i = 3 ∨ i = 4 ∨ i = 5 ∨ i = 6 ∨ i = 7 ∨ i = 8 ∨ i = 9 ∨ i = 10 ∨ i = 11 := by omega
    rcases q with rfl | rfl | rfl | rfl | rfl | rfl | rfl | rfl | rfl | rfl | rfl | rfl
    · rw [nn _ _ _ (by omega), nn _ _ _ (by omega), nn _ _ _ (by omega), nn _ _ _ (by omega), nn _ _ _ (by omega), nn _ _ _ (by omega), nn _ _ _ (by omega), nn _ _ _ (by omega), nn _ _ _ (by omega), nn _ _ _ (by omega), nn _ _ _ (by omega), n0 _ _ rfl]
    · rw [nn _ _ _ (by omega), nn _ _ _ (by omega), nn _ _ _ (by omega), nn _ _ _ (by omega), nn _ _ _ (by omega), nn _ _ _ (by omega), nn _ _ _ (by omega), nn _ _ _ (by omega), nn _ _ _ (by omega), nn _ _ _ (by omega), ms_eq]
    · rw [nn _ _ _ (by omega), nn _ _ _ (by omega), nn _ _ _ (by omega), nn _ _ _ (by omega), nn _ _ _ (by omega), nn _ _ _ (by omega), nn _ _ _ (by omega), nn _ _ _ (by omega), nn _ _ _ (by omega), ms_eq]
    · rw [nn _ _ _ (by omega), nn _ _ _ (by omega), nn _ _ _ (by omega), nn _ _ _ (by omega), nn _ _ _ (by omega), nn _ _ _ (by omega), nn _ _ _ (by omega), nn _ _ _ (by omega), ms_eq]
    · rw [nn _ _ _ (by omega), nn _ _ _ (by omega), nn _ _ _ (by omega), nn _ _ _ (by omega), nn _ _ _ (by omega), nn _ _ _ (by omega), nn _ _ _ (by omega), ms_eq]
    · rw [nn _ _ _ (by omega), nn _ _ _ (by omega), nn _ _ _ (by omega), nn _ _ _ (by omega), nn _ _ _ (by omega), nn _ _ _ (by omega), ms_eq]
    · rw [nn _ _ _ (by omega), nn _ _ _ (by omega), nn _ _ _ (by omega), nn _ _ _ (by omega), nn _ _ _ (by omega), ms_eq]
    · rw [nn _ _ _ (by omega), nn _ _ _ (by omega), nn _ _ _ (by omega), nn _ _ _ (by omega), ms_eq]
    · rw [nn _ _ _ (by omega), nn _ _ _ (by omega), nn _ _ _ (by omega), ms_eq]
    · rw [nn _ _ _ (by omega), nn _ _ _ (by omega), ms_eq]
    · rw [nn _ _ _ (by omega), ms_eq]
    · rw [ms_eq]
  · rw [if_neg hb]
    have z : ∀ (μ : MM) (k v : Int), 0 ≤ k → k < 12 → mset μ 157 (m + k) v b j = μ b j := fun μ k v k0 k9 => ms_ne _ _ _ _ _ _ (fun q => hb ⟨q.1, by omega, by omega⟩)
    rw [z _ _ _ (by omega) (by omega), z _ _ _ (by omega) (by omega), z _ _ _ (by omega) (by omega), z _ _ _ (by omega) (by omega), z _ _ _ (by omega) (by omega), z _ _ _ (by omega) (by omega), z _ _ _ (by omega) (by omega), z _ _ _ (by omega) (by omega), z _ _ _ (by omega) (by omega), z _ _ _ (by omega) (by omega), z _ _ _ (by omega) (by omega), ms_ne _ _ _ _ _ _ (fun q => hb ⟨q.1, by omega, by omega⟩)]
def ofv (x y k a b src z i : Int) : Int := if i = 0 then x else if i = 1 then y else if i = 2 then z else if i = 3 then k else if i = 4 then a else if i = 5 then b else if i = 6 then src else 0
theorem s_offW (L x y k a b src z s : Int) (r : MM) (p20 : r 149 20 = 157) (hs : r 149 23 = s) (s0 : 0 ≤ s) (s1 : s < 40) : ev 171 78 [some (vR 149), some (vI x), some (vI y), some (vI k), some (vI a), some (vI b), some (vI src), some (vI z), some (vI (-1)), none, none] [] r (g_1 L) = some (some (vI 1), mset (f12 r (12 * s) (ofv x y k a b src z)) 149 23 (s + 1), g_1 L) := by
  obtain ⟨m, hm⟩ : ∃ m, m = 12 * s := ⟨_, rfl⟩
  have wm' : w32 (12 * s) = m := by rw [hm]; exact wi32 (by omega) (by omega)
  have ws : w32 (s + 1) = s + 1 := wi32 (by omega) (by omega)
  have mb : 0 ≤ m ∧ m ≤ 468 := by omega
  rw [← hm]
  have x1 : w32 (m + 1) = m + 1 := wi32 (by omega) (by omega)
  have x2 : w32 (m + 2) = m + 2 := wi32 (by omega) (by omega)
  have x3 : w32 (m + 3) = m + 3 := wi32 (by omega) (by omega)
  have x4 : w32 (m + 4) = m + 4 := wi32 (by omega) (by omega)
  have x5 : w32 (m + 4 + 1) = m + 5 := by rw [wi32 (by omega) (by omega)]; omega
  have x6 : w32 (m + 6) = m + 6 := wi32 (by omega) (by omega)
  have a0 : 0 ≤ m ∧ m < 480 := by omega
  have a1 : 0 ≤ m + 1 ∧ m + 1 < 480 := by omega
  have a2 : 0 ≤ m + 2 ∧ m + 2 < 480 := by omega
  have a3 : 0 ≤ m + 3 ∧ m + 3 < 480 := by omega
  have a4 : 0 ≤ m + 4 ∧ m + 4 < 480 := by omega
  have a5 : 0 ≤ m + 5 ∧ m + 5 < 480 := by omega
  have a6 : 0 ≤ m + 6 ∧ m + 6 < 480 := by omega
  have m9 : ∀ (r : MM) k v, mset r 157 k v 149 = r 149 := fun r k v => ms_row _ _ _ _ _ (by omega)
  have T : ∀ (i : Int) (r' : MM), r' 149 = r 149 → 7 ≤ i → i < 12 → ev 171 185 [some (vR 149), some (vI x), some (vI y), some (vI k), some (vI a), some (vI b), some (vI src), some (vI z), some (vI (-1)), some (vI m), some (vI i)] [] r' (g_1 L) = ev 171 185 [some (vR 149), some (vI x), some (vI y), some (vI k), some (vI a), some (vI b), some (vI src), some (vI z), some (vI (-1)), some (vI m), some (vI (i + 1))] [] (mset r' 157 (m + i) 0) (g_1 L) := fun i r' hr' k0 k1 => by
    have g : ¬ 12 ≤ i := by omega
    have y1 : w32 (m + i) = m + i := wi32 (by omega) (by omega)
    have y2 : w32 (i + 1) = i + 1 := wi32 (by omega) (by omega)
    have y3 : 0 ≤ m + i ∧ m + i < 480 := by omega
    rw [xe_171_185]
    simp only [xe_171_187, xe_171_189, xe_171_192, xe_171_193, xe_171_196, xe_171_198, xe_171_200, xe_171_201, xe_171_202, xe_171_203 _ _ _ _ _ _ _ _ _ (some (vI _)) _ _ _ _ rfl, xe_171_203 _ _ _ _ _ _ _ _ _ (some (vR _)) _ _ _ _ rfl, xe_171_203 _ _ _ _ _ _ _ _ _ none _ _ _ _ rfl, xe_171_206, ite_self, mm_nL_I, mm_nL_R, mm_nL_0, Option.bind_some, Option.bind_none, bnd_ite, Option.toList_some, Option.toList_none, List.cons_append, List.nil_append, mm_cats_nil, mm_cats_I, mm_cats_L, mm_cats_R, if_true, if_false, true_and, and_true, false_and, and_false, not_true_eq_false, not_false_eq_true, Int.reduceLE, Int.reduceLT, Int.reduceEq, Int.reduceNe, Int.reduceNeg, Int.reduceAdd, Int.reduceSub, Int.reduceMul, Nat.reduceAdd, Nat.reduceLeDiff, true_or, or_true, false_or, or_false, reduceIte, k_149, k_157, l_157, hr', p20, g, y1, y2, y3]
  have st2 : ev 171 78 [some (vR 149), some (vI x), some (vI y), some (vI k), some (vI a), some (vI b), some (vI src), some (vI z), some (vI (-1)), none, none] [] r (g_1 L) = ev 171 185 [some (vR 149), some (vI x), some (vI y), some (vI k), some (vI a), some (vI b), some (vI src), some (vI z), some (vI (-1)), some (vI m), some (vI 7)] [] (mset (mset (mset (mset (mset (mset (mset r 157 m x) 157 (m + 1) y) 157 (m + 2) z) 157 (m + 3) k) 157 (m + 4) a) 157 (m + 5) b) 157 (m + 6) src) (g_1 L) := by
    simp only [xe_171_78, xe_171_80, xe_171_81, xe_171_84, xe_171_85, xe_171_88, xe_171_90, xe_171_91, xe_171_92, xe_171_93, xe_171_94, xe_171_95, xe_171_96, xe_171_97, xe_171_99, xe_171_100, xe_171_103, xe_171_104 _ _ _ _ _ _ _ _ (some (vI _)) _ _ _ _ _ _ rfl, xe_171_104 _ _ _ _ _ _ _ _ (some (vR _)) _ _ _ _ _ _ rfl, xe_171_104 _ _ _ _ _ _ _ _ none _ _ _ _ _ _ rfl, xe_171_106, xe_171_107, xe_171_110, xe_171_112, xe_171_113, xe_171_114, xe_171_115, xe_171_118, xe_171_120, xe_171_121, xe_171_122, xe_171_123, xe_171_124, xe_171_125, xe_171_128, xe_171_130, xe_171_131, xe_171_132, xe_171_134, xe_171_135, xe_171_136, xe_171_139, xe_171_141, xe_171_142, xe_171_143, xe_171_144, xe_171_145, xe_171_146, xe_171_149, xe_171_151, xe_171_152, xe_171_153, xe_171_155, xe_171_156, xe_171_157, xe_171_160, xe_171_162, xe_171_163, xe_171_164, xe_171_165, xe_171_166, xe_171_168, xe_171_169, xe_171_170, xe_171_173, xe_171_175, xe_171_177, xe_171_178, xe_171_180, xe_171_181, xe_171_183 _ _ _ _ _ _ _ _ _ (some (vI _)) _ _ _ _ _ rfl, xe_171_183 _ _ _ _ _ _ _ _ _ (some (vR _)) _ _ _ _ _ rfl, xe_171_183 _ _ _ _ _ _ _ _ _ none _ _ _ _ _ rfl, ite_self, mm_nL_I, mm_nL_R, mm_nL_0, Option.bind_some, Option.bind_none, bnd_ite, Option.toList_some, Option.toList_none, List.cons_append, List.nil_append, mm_cats_nil, mm_cats_I, mm_cats_L, mm_cats_R, if_true, if_false, true_and, and_true, false_and, and_false, not_true_eq_false, not_false_eq_true, Int.reduceLE, Int.reduceLT, Int.reduceEq, Int.reduceNe, Int.reduceNeg, Int.reduceAdd, Int.reduceSub, Int.reduceMul, Nat.reduceAdd, Nat.reduceLeDiff, true_or, or_true, false_or, or_false, reduceIte, k_149, k_157, l_157, p20, hs, m9, wm', x1, x2, x3, x4, x5, x6, a0, a1, a2, a3, a4, a5, a6]
  rw [st2, T 7 _ (by rw [m9, m9, m9, m9, m9, m9, m9]) (by omega) (by omega), show (7 : Int) + 1 = 8 from rfl]
  rw [T 8 _ (by rw [m9, m9, m9, m9, m9, m9, m9, m9]) (by omega) (by omega), show (8 : Int) + 1 = 9 from rfl]
  rw [T 9 _ (by rw [m9, m9, m9, m9, m9, m9, m9, m9, m9]) (by omega) (by omega), show (9 : Int) + 1 = 10 from rfl]
  rw [T 10 _ (by rw [m9, m9, m9, m9, m9, m9, m9, m9, m9, m9]) (by omega) (by omega), show (10 : Int) + 1 = 11 from rfl]
  rw [T 11 _ (by rw [m9, m9, m9, m9, m9, m9, m9, m9, m9, m9, m9]) (by omega) (by omega), show (11 : Int) + 1 = 12 from rfl]
  have fin := fin12 r m (ofv x y k a b src z)
  have fin' : mset (mset (mset (mset (mset (mset (mset (mset (mset (mset (mset (mset r 157 m x) 157 (m + 1) y) 157 (m + 2) z) 157 (m + 3) k) 157 (m + 4) a) 157 (m + 5) b) 157 (m + 6) src) 157 (m + 7) 0) 157 (m + 8) 0) 157 (m + 9) 0) 157 (m + 10) 0) 157 (m + 11) 0 = f12 r m (ofv x y k a b src z) := fin
  rw [fin']
  have f9 : f12 r m (ofv x y k a b src z) 149 = r 149 := by funext j; unfold f12; rw [if_neg (by omega)]
  rw [xe_171_185]
  simp only [xe_171_187, xe_171_189, xe_171_192, xe_171_193, xe_171_196, xe_171_198, xe_171_200, xe_171_201, xe_171_202, xe_171_203 _ _ _ _ _ _ _ _ _ (some (vI _)) _ _ _ _ rfl, xe_171_203 _ _ _ _ _ _ _ _ _ (some (vR _)) _ _ _ _ rfl, xe_171_203 _ _ _ _ _ _ _ _ _ none _ _ _ _ rfl, xe_171_206, xe_171_209, xe_171_210, xe_171_211, xe_171_214, xe_171_215, xe_171_216, xe_171_219, xe_171_220, ite_self, mm_nL_I, mm_nL_R, mm_nL_0, Option.bind_some, Option.bind_none, bnd_ite, Option.toList_some, Option.toList_none, List.cons_append, List.nil_append, mm_cats_nil, mm_cats_I, mm_cats_L, mm_cats_R, if_true, if_false, true_and, and_true, false_and, and_false, not_true_eq_false, not_false_eq_true, Int.reduceLE, Int.reduceLT, Int.reduceEq, Int.reduceNe, Int.reduceNeg, Int.reduceAdd, Int.reduceSub, Int.reduceMul, Nat.reduceAdd, Nat.reduceLeDiff, true_or, or_true, false_or, or_false, reduceIte, k_149, f9, hs, ws]
theorem s_offM (L src : Int) (s : Nat) (c r : MM) (t : Int → Int) (hM : SM r) (h : ct t) (hs : r 149 23 = s) (s1 : (s : Int) ≤ 40) (hr : Qr c r) (hm : Qm c r) (hb : ∀ i, 0 ≤ i → i < 7 → 0 ≤ r 159 i ∧ r 159 i ≤ 100000) :
    ev 171 0 [some (vR 149), some (vI (t 1)), some (vI (t 5)), some (vI (t 0)), some (vI (t 1 + t 2)), some (vI (t 5 + t 6)), some (vI src), none, none, none, none] [] r (g_1 L) = if wv c r t s = -1 then some (some (vI 1), mset (f12 r (12 * (s : Int)) (ofv (t 1) (t 5) (t 0) (t 1 + t 2) (t 5 + t 6) src (hz t))) 149 23 ((s : Int) + 1), g_1 L) else some (some (vI 0), mset r 159 (wv c r t s) (r 159 (wv c r t s) + 1), g_1 L) := by
  have W := Wt_ok h
  have Z := hz_ok h
  have h' := h
  unfold ct at h'
  have we : (t 1 + t 2) * (t 5 + t 6) = Wt t := rfl
  have w1 : w32 (Wt t) = Wt t := wi32 (by omega) (by omega)
  have H := s_hzM (t 0) (Wt t) r (g_1 L) (by omega) (by omega) W.1 W.2 Z.2.1
  have H' : ev 167 0 [some (vI (t 0)), some (vI (Wt t))] [] r (g_1 L) = some (some (vI (hz t)), r, g_1 L) := H
  have O := s_isOut L (hz t) (t 0) (t 1 + t 2) c r (sm_149_11 hM) hr (by omega) (by omega) (by omega) (by omega)
  have F := s_isFd L (t 1) (t 5) (hz t) s r (sm_149_20 hM) hs s1 s 0 (by omega) (by omega)
  have F' : ev 170 0 [some (vR 149), some (vI (t 1)), some (vI (t 5)), some (vI (hz t)), none] [] r (g_1 L) = some (some (vI (if ff (fun i => isL (r 157) (12 * i) (t 1) (t 5) (hz t)) 0 s = -1 then 0 else 1)), r, g_1 L) := by
    rw [← F]
    simp only [xe_170_0, xe_170_1 _ _ _ (some (vI _)) _ _ _ _ _ rfl, xe_170_1 _ _ _ (some (vR _)) _ _ _ _ _ rfl, xe_170_1 _ _ _ none _ _ _ _ _ rfl, ite_self, mm_nL_I, mm_nL_R, mm_nL_0, Option.bind_some, Option.bind_none, bnd_ite, Option.toList_some, Option.toList_none, List.cons_append, List.nil_append, mm_cats_nil, mm_cats_I, mm_cats_L, mm_cats_R, if_true, if_false, true_and, and_true, false_and, and_false, not_true_eq_false, not_false_eq_true, Int.reduceLE, Int.reduceLT, Int.reduceEq, Int.reduceNe, Int.reduceNeg, Int.reduceAdd, Int.reduceSub, Int.reduceMul, Nat.reduceAdd, Nat.reduceLeDiff, true_or, or_true, false_or, or_false, reduceIte]
  obtain ⟨m1, m2, m3⟩ := hm
  rw [m1] at m2
  -- to the reason
  have st : ev 171 0 [some (vR 149), some (vI (t 1)), some (vI (t 5)), some (vI (t 0)), some (vI (t 1 + t 2)), some (vI (t 5 + t 6)), some (vI src), none, none, none, none] [] r (g_1 L) = ev 171 78 [some (vR 149), some (vI (t 1)), some (vI (t 5)), some (vI (t 0)), some (vI (t 1 + t 2)), some (vI (t 5 + t 6)), some (vI src), some (vI (hz t)), some (vI (wv c r t s)), none, none] [] r (g_1 L) := by
    unfold wv
    rw [m1]
    by_cases a : ou c (hz t) (t 0 / (t 1 + t 2)) (t 0) = true
    · rw [if_pos a] at O ⊢
      simp only [xe_171_0, xe_171_1, xe_171_3, xe_171_5, xe_171_6, xe_171_9 _ _ _ _ _ _ (some (vI _)) _ _ _ _ _ _ _ _ rfl, xe_171_9 _ _ _ _ _ _ (some (vR _)) _ _ _ _ _ _ _ _ rfl, xe_171_9 _ _ _ _ _ _ none _ _ _ _ _ _ _ _ rfl, xe_171_11, xe_171_12, xe_171_14, xe_171_15, xe_171_17, xe_171_20, xe_171_23, xe_171_24, xe_171_27, xe_171_28, xe_171_31, xe_171_34, xe_171_35, xe_171_36, xe_171_39, xe_171_42, xe_171_43, xe_171_46, xe_171_47, xe_171_48, xe_171_49, xe_171_51, xe_171_54, xe_171_57, xe_171_58, xe_171_61, xe_171_62, xe_171_65, xe_171_67, xe_171_70, xe_171_72, xe_171_75, xe_171_76 _ _ _ _ _ _ _ (some (vI _)) _ _ _ _ _ _ _ rfl, xe_171_76 _ _ _ _ _ _ _ (some (vR _)) _ _ _ _ _ _ _ rfl, xe_171_76 _ _ _ _ _ _ _ none _ _ _ _ _ _ _ rfl, ite_self, mm_nL_I, mm_nL_R, mm_nL_0, Option.bind_some, Option.bind_none, bnd_ite, Option.toList_some, Option.toList_none, List.cons_append, List.nil_append, mm_cats_nil, mm_cats_I, mm_cats_L, mm_cats_R, if_true, if_false, true_and, and_true, false_and, and_false, not_true_eq_false, not_false_eq_true, Int.reduceLE, Int.reduceLT, Int.reduceEq, Int.reduceNe, Int.reduceNeg, Int.reduceAdd, Int.reduceSub, Int.reduceMul, Nat.reduceAdd, Nat.reduceLeDiff, true_or, or_true, false_or, or_false, reduceIte, k_149, we, w1, H', O]
    · rw [if_neg a] at O ⊢
      by_cases b : r 149 15 ≤ 0
      · have b' : ¬ (¬ r 149 15 = 0 ∧ r 149 15 < t 0) := by omega
        rw [if_neg b']
        by_cases d : ff (fun i => isL (r 157) (12 * i) (t 1) (t 5) (hz t)) 0 s = -1
        · rw [if_pos d] at F' ⊢
          by_cases e : (s : Int) = 40
          · simp only [xe_171_0, xe_171_1, xe_171_3, xe_171_5, xe_171_6, xe_171_9 _ _ _ _ _ _ (some (vI _)) _ _ _ _ _ _ _ _ rfl, xe_171_9 _ _ _ _ _ _ (some (vR _)) _ _ _ _ _ _ _ _ rfl, xe_171_9 _ _ _ _ _ _ none _ _ _ _ _ _ _ _ rfl, xe_171_11, xe_171_12, xe_171_14, xe_171_15, xe_171_17, xe_171_20, xe_171_23, xe_171_24, xe_171_27, xe_171_28, xe_171_31, xe_171_34, xe_171_35, xe_171_36, xe_171_39, xe_171_42, xe_171_43, xe_171_46, xe_171_47, xe_171_48, xe_171_49, xe_171_51, xe_171_54, xe_171_57, xe_171_58, xe_171_61, xe_171_62, xe_171_65, xe_171_67, xe_171_70, xe_171_72, xe_171_75, xe_171_76 _ _ _ _ _ _ _ (some (vI _)) _ _ _ _ _ _ _ rfl, xe_171_76 _ _ _ _ _ _ _ (some (vR _)) _ _ _ _ _ _ _ rfl, xe_171_76 _ _ _ _ _ _ _ none _ _ _ _ _ _ _ rfl, ite_self, mm_nL_I, mm_nL_R, mm_nL_0, Option.bind_some, Option.bind_none, bnd_ite, Option.toList_some, Option.toList_none, List.cons_append, List.nil_append, mm_cats_nil, mm_cats_I, mm_cats_L, mm_cats_R, if_true, if_false, true_and, and_true, false_and, and_false, not_true_eq_false, not_false_eq_true, Int.reduceLE, Int.reduceLT, Int.reduceEq, Int.reduceNe, Int.reduceNeg, Int.reduceAdd, Int.reduceSub, Int.reduceMul, Nat.reduceAdd, Nat.reduceLeDiff, true_or, or_true, false_or, or_false, reduceIte, k_149, we, w1, H', O, b, F', hs, eq_true e]
          · simp only [xe_171_0, xe_171_1, xe_171_3, xe_171_5, xe_171_6, xe_171_9 _ _ _ _ _ _ (some (vI _)) _ _ _ _ _ _ _ _ rfl, xe_171_9 _ _ _ _ _ _ (some (vR _)) _ _ _ _ _ _ _ _ rfl, xe_171_9 _ _ _ _ _ _ none _ _ _ _ _ _ _ _ rfl, xe_171_11, xe_171_12, xe_171_14, xe_171_15, xe_171_17, xe_171_20, xe_171_23, xe_171_24, xe_171_27, xe_171_28, xe_171_31, xe_171_34, xe_171_35, xe_171_36, xe_171_39, xe_171_42, xe_171_43, xe_171_46, xe_171_47, xe_171_48, xe_171_49, xe_171_51, xe_171_54, xe_171_57, xe_171_58, xe_171_61, xe_171_62, xe_171_65, xe_171_67, xe_171_70, xe_171_72, xe_171_75, xe_171_76 _ _ _ _ _ _ _ (some (vI _)) _ _ _ _ _ _ _ rfl, xe_171_76 _ _ _ _ _ _ _ (some (vR _)) _ _ _ _ _ _ _ rfl, xe_171_76 _ _ _ _ _ _ _ none _ _ _ _ _ _ _ rfl, ite_self, mm_nL_I, mm_nL_R, mm_nL_0, Option.bind_some, Option.bind_none, bnd_ite, Option.toList_some, Option.toList_none, List.cons_append, List.nil_append, mm_cats_nil, mm_cats_I, mm_cats_L, mm_cats_R, if_true, if_false, true_and, and_true, false_and, and_false, not_true_eq_false, not_false_eq_true, Int.reduceLE, Int.reduceLT, Int.reduceEq, Int.reduceNe, Int.reduceNeg, Int.reduceAdd, Int.reduceSub, Int.reduceMul, Nat.reduceAdd, Nat.reduceLeDiff, true_or, or_true, false_or, or_false, reduceIte, k_149, we, w1, H', O, b, F', hs, e]
        · rw [if_neg d] at F' ⊢
          simp only [xe_171_0, xe_171_1, xe_171_3, xe_171_5, xe_171_6, xe_171_9 _ _ _ _ _ _ (some (vI _)) _ _ _ _ _ _ _ _ rfl, xe_171_9 _ _ _ _ _ _ (some (vR _)) _ _ _ _ _ _ _ _ rfl, xe_171_9 _ _ _ _ _ _ none _ _ _ _ _ _ _ _ rfl, xe_171_11, xe_171_12, xe_171_14, xe_171_15, xe_171_17, xe_171_20, xe_171_23, xe_171_24, xe_171_27, xe_171_28, xe_171_31, xe_171_34, xe_171_35, xe_171_36, xe_171_39, xe_171_42, xe_171_43, xe_171_46, xe_171_47, xe_171_48, xe_171_49, xe_171_51, xe_171_54, xe_171_57, xe_171_58, xe_171_61, xe_171_62, xe_171_65, xe_171_67, xe_171_70, xe_171_72, xe_171_75, xe_171_76 _ _ _ _ _ _ _ (some (vI _)) _ _ _ _ _ _ _ rfl, xe_171_76 _ _ _ _ _ _ _ (some (vR _)) _ _ _ _ _ _ _ rfl, xe_171_76 _ _ _ _ _ _ _ none _ _ _ _ _ _ _ rfl, ite_self, mm_nL_I, mm_nL_R, mm_nL_0, Option.bind_some, Option.bind_none, bnd_ite, Option.toList_some, Option.toList_none, List.cons_append, List.nil_append, mm_cats_nil, mm_cats_I, mm_cats_L, mm_cats_R, if_true, if_false, true_and, and_true, false_and, and_false, not_true_eq_false, not_false_eq_true, Int.reduceLE, Int.reduceLT, Int.reduceEq, Int.reduceNe, Int.reduceNeg, Int.reduceAdd, Int.reduceSub, Int.reduceMul, Nat.reduceAdd, Nat.reduceLeDiff, true_or, or_true, false_or, or_false, reduceIte, k_149, we, w1, H', O, b, F']
      · by_cases g : t 0 ≤ r 149 15
        · have b' : ¬ (¬ r 149 15 = 0 ∧ r 149 15 < t 0) := by omega
          rw [if_neg b']
          by_cases d : ff (fun i => isL (r 157) (12 * i) (t 1) (t 5) (hz t)) 0 s = -1
          · rw [if_pos d] at F' ⊢
            by_cases e : (s : Int) = 40
            · simp only [xe_171_0, xe_171_1, xe_171_3, xe_171_5, xe_171_6, xe_171_9 _ _ _ _ _ _ (some (vI _)) _ _ _ _ _ _ _ _ rfl, xe_171_9 _ _ _ _ _ _ (some (vR _)) _ _ _ _ _ _ _ _ rfl, xe_171_9 _ _ _ _ _ _ none _ _ _ _ _ _ _ _ rfl, xe_171_11, xe_171_12, xe_171_14, xe_171_15, xe_171_17, xe_171_20, xe_171_23, xe_171_24, xe_171_27, xe_171_28, xe_171_31, xe_171_34, xe_171_35, xe_171_36, xe_171_39, xe_171_42, xe_171_43, xe_171_46, xe_171_47, xe_171_48, xe_171_49, xe_171_51, xe_171_54, xe_171_57, xe_171_58, xe_171_61, xe_171_62, xe_171_65, xe_171_67, xe_171_70, xe_171_72, xe_171_75, xe_171_76 _ _ _ _ _ _ _ (some (vI _)) _ _ _ _ _ _ _ rfl, xe_171_76 _ _ _ _ _ _ _ (some (vR _)) _ _ _ _ _ _ _ rfl, xe_171_76 _ _ _ _ _ _ _ none _ _ _ _ _ _ _ rfl, ite_self, mm_nL_I, mm_nL_R, mm_nL_0, Option.bind_some, Option.bind_none, bnd_ite, Option.toList_some, Option.toList_none, List.cons_append, List.nil_append, mm_cats_nil, mm_cats_I, mm_cats_L, mm_cats_R, if_true, if_false, true_and, and_true, false_and, and_false, not_true_eq_false, not_false_eq_true, Int.reduceLE, Int.reduceLT, Int.reduceEq, Int.reduceNe, Int.reduceNeg, Int.reduceAdd, Int.reduceSub, Int.reduceMul, Nat.reduceAdd, Nat.reduceLeDiff, true_or, or_true, false_or, or_false, reduceIte, k_149, we, w1, H', O, b, g, F', hs, eq_true e]
            · simp only [xe_171_0, xe_171_1, xe_171_3, xe_171_5, xe_171_6, xe_171_9 _ _ _ _ _ _ (some (vI _)) _ _ _ _ _ _ _ _ rfl, xe_171_9 _ _ _ _ _ _ (some (vR _)) _ _ _ _ _ _ _ _ rfl, xe_171_9 _ _ _ _ _ _ none _ _ _ _ _ _ _ _ rfl, xe_171_11, xe_171_12, xe_171_14, xe_171_15, xe_171_17, xe_171_20, xe_171_23, xe_171_24, xe_171_27, xe_171_28, xe_171_31, xe_171_34, xe_171_35, xe_171_36, xe_171_39, xe_171_42, xe_171_43, xe_171_46, xe_171_47, xe_171_48, xe_171_49, xe_171_51, xe_171_54, xe_171_57, xe_171_58, xe_171_61, xe_171_62, xe_171_65, xe_171_67, xe_171_70, xe_171_72, xe_171_75, xe_171_76 _ _ _ _ _ _ _ (some (vI _)) _ _ _ _ _ _ _ rfl, xe_171_76 _ _ _ _ _ _ _ (some (vR _)) _ _ _ _ _ _ _ rfl, xe_171_76 _ _ _ _ _ _ _ none _ _ _ _ _ _ _ rfl, ite_self, mm_nL_I, mm_nL_R, mm_nL_0, Option.bind_some, Option.bind_none, bnd_ite, Option.toList_some, Option.toList_none, List.cons_append, List.nil_append, mm_cats_nil, mm_cats_I, mm_cats_L, mm_cats_R, if_true, if_false, true_and, and_true, false_and, and_false, not_true_eq_false, not_false_eq_true, Int.reduceLE, Int.reduceLT, Int.reduceEq, Int.reduceNe, Int.reduceNeg, Int.reduceAdd, Int.reduceSub, Int.reduceMul, Nat.reduceAdd, Nat.reduceLeDiff, true_or, or_true, false_or, or_false, reduceIte, k_149, we, w1, H', O, b, g, F', hs, e]
          · rw [if_neg d] at F' ⊢
            simp only [xe_171_0, xe_171_1, xe_171_3, xe_171_5, xe_171_6, xe_171_9 _ _ _ _ _ _ (some (vI _)) _ _ _ _ _ _ _ _ rfl, xe_171_9 _ _ _ _ _ _ (some (vR _)) _ _ _ _ _ _ _ _ rfl, xe_171_9 _ _ _ _ _ _ none _ _ _ _ _ _ _ _ rfl, xe_171_11, xe_171_12, xe_171_14, xe_171_15, xe_171_17, xe_171_20, xe_171_23, xe_171_24, xe_171_27, xe_171_28, xe_171_31, xe_171_34, xe_171_35, xe_171_36, xe_171_39, xe_171_42, xe_171_43, xe_171_46, xe_171_47, xe_171_48, xe_171_49, xe_171_51, xe_171_54, xe_171_57, xe_171_58, xe_171_61, xe_171_62, xe_171_65, xe_171_67, xe_171_70, xe_171_72, xe_171_75, xe_171_76 _ _ _ _ _ _ _ (some (vI _)) _ _ _ _ _ _ _ rfl, xe_171_76 _ _ _ _ _ _ _ (some (vR _)) _ _ _ _ _ _ _ rfl, xe_171_76 _ _ _ _ _ _ _ none _ _ _ _ _ _ _ rfl, ite_self, mm_nL_I, mm_nL_R, mm_nL_0, Option.bind_some, Option.bind_none, bnd_ite, Option.toList_some, Option.toList_none, List.cons_append, List.nil_append, mm_cats_nil, mm_cats_I, mm_cats_L, mm_cats_R, if_true, if_false, true_and, and_true, false_and, and_false, not_true_eq_false, not_false_eq_true, Int.reduceLE, Int.reduceLT, Int.reduceEq, Int.reduceNe, Int.reduceNeg, Int.reduceAdd, Int.reduceSub, Int.reduceMul, Nat.reduceAdd, Nat.reduceLeDiff, true_or, or_true, false_or, or_false, reduceIte, k_149, we, w1, H', O, b, g, F']
        · have b' : (¬ r 149 15 = 0 ∧ r 149 15 < t 0) := by omega
          rw [if_pos b']
          simp only [xe_171_0, xe_171_1, xe_171_3, xe_171_5, xe_171_6, xe_171_9 _ _ _ _ _ _ (some (vI _)) _ _ _ _ _ _ _ _ rfl, xe_171_9 _ _ _ _ _ _ (some (vR _)) _ _ _ _ _ _ _ _ rfl, xe_171_9 _ _ _ _ _ _ none _ _ _ _ _ _ _ _ rfl, xe_171_11, xe_171_12, xe_171_14, xe_171_15, xe_171_17, xe_171_20, xe_171_23, xe_171_24, xe_171_27, xe_171_28, xe_171_31, xe_171_34, xe_171_35, xe_171_36, xe_171_39, xe_171_42, xe_171_43, xe_171_46, xe_171_47, xe_171_48, xe_171_49, xe_171_51, xe_171_54, xe_171_57, xe_171_58, xe_171_61, xe_171_62, xe_171_65, xe_171_67, xe_171_70, xe_171_72, xe_171_75, xe_171_76 _ _ _ _ _ _ _ (some (vI _)) _ _ _ _ _ _ _ rfl, xe_171_76 _ _ _ _ _ _ _ (some (vR _)) _ _ _ _ _ _ _ rfl, xe_171_76 _ _ _ _ _ _ _ none _ _ _ _ _ _ _ rfl, ite_self, mm_nL_I, mm_nL_R, mm_nL_0, Option.bind_some, Option.bind_none, bnd_ite, Option.toList_some, Option.toList_none, List.cons_append, List.nil_append, mm_cats_nil, mm_cats_I, mm_cats_L, mm_cats_R, if_true, if_false, true_and, and_true, false_and, and_false, not_true_eq_false, not_false_eq_true, Int.reduceLE, Int.reduceLT, Int.reduceEq, Int.reduceNe, Int.reduceNeg, Int.reduceAdd, Int.reduceSub, Int.reduceMul, Nat.reduceAdd, Nat.reduceLeDiff, true_or, or_true, false_or, or_false, reduceIte, k_149, we, w1, H', O, b, g]
  rw [st]
  have wo' := wv_ok c r t s
  have wd : wv c r t s = -1 → (s : Int) < 40 := by
    clear st H H' O F F' Z W h' w1
    intro q
    by_cases e : (s : Int) = 40
    · exfalso
      unfold wv at q
      rw [if_pos e] at q
      revert q
      (repeat' split) <;> omega
    · omega
  clear st H H' O F F' Z W h' w1
  have p20 := sm_149_20 hM
  generalize wv c r t s = w at *
  by_cases e : w = -1
  · rw [if_pos e, e]
    exact s_offW L _ _ _ _ _ src _ (s : Int) r p20 hs (by omega) (wd e)
  · rw [if_neg e]
    have wb := hb w (by omega) (by omega)
    have p22 := sm_149_22 hM
    have w7 : w < 7 := by omega
    have w00 : 0 ≤ w := by omega
    have wi : w32 (r 159 w + 1) = r 159 w + 1 := wi32 (by omega) (by omega)
    simp only [xe_171_78, xe_171_80, xe_171_81, xe_171_84, xe_171_85, xe_171_88, xe_171_90, xe_171_91, xe_171_92, xe_171_93, xe_171_94, xe_171_95, xe_171_96, xe_171_97, xe_171_99, xe_171_100, xe_171_103, xe_171_104 _ _ _ _ _ _ _ _ (some (vI _)) _ _ _ _ _ _ rfl, xe_171_104 _ _ _ _ _ _ _ _ (some (vR _)) _ _ _ _ _ _ rfl, xe_171_104 _ _ _ _ _ _ _ _ none _ _ _ _ _ _ rfl, xe_171_106, xe_171_107, xe_171_110, xe_171_112, xe_171_113, xe_171_114, xe_171_115, xe_171_118, xe_171_120, xe_171_121, xe_171_122, xe_171_123, xe_171_124, xe_171_125, xe_171_128, xe_171_130, xe_171_131, xe_171_132, xe_171_134, xe_171_135, xe_171_136, xe_171_139, xe_171_141, xe_171_142, xe_171_143, xe_171_144, xe_171_145, xe_171_146, xe_171_149, xe_171_151, xe_171_152, xe_171_153, xe_171_155, xe_171_156, xe_171_157, xe_171_160, xe_171_162, xe_171_163, xe_171_164, xe_171_165, xe_171_166, xe_171_168, xe_171_169, xe_171_170, xe_171_173, xe_171_175, xe_171_177, xe_171_178, xe_171_180, xe_171_181, xe_171_183 _ _ _ _ _ _ _ _ _ (some (vI _)) _ _ _ _ _ rfl, xe_171_183 _ _ _ _ _ _ _ _ _ (some (vR _)) _ _ _ _ _ rfl, xe_171_183 _ _ _ _ _ _ _ _ _ none _ _ _ _ _ rfl, ite_self, mm_nL_I, mm_nL_R, mm_nL_0, Option.bind_some, Option.bind_none, bnd_ite, Option.toList_some, Option.toList_none, List.cons_append, List.nil_append, mm_cats_nil, mm_cats_I, mm_cats_L, mm_cats_R, if_true, if_false, true_and, and_true, false_and, and_false, not_true_eq_false, not_false_eq_true, Int.reduceLE, Int.reduceLT, Int.reduceEq, Int.reduceNe, Int.reduceNeg, Int.reduceAdd, Int.reduceSub, Int.reduceMul, Nat.reduceAdd, Nat.reduceLeDiff, true_or, or_true, false_or, or_false, reduceIte, k_149, k_159, l_159, p22, e, w7, w00, wi]
