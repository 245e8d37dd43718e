/-! the reference's TRY of the clock -/
def gA (C : Int → Bool) (l : Int) : Nat → Bool
  | 0 => true
  | m + 1 => C l && gA C (l + 1) m
def gO (C : Int → Bool) (l : Int) : Nat → Bool
  | 0 => false
  | m + 1 => C l || gO C (l + 1) m
def gF (C : Int → Bool) (l fl : Int) : Nat → Int
  | 0 => fl
  | m + 1 => gF C (l + 1) (mm_or fl (if C l = true then mm_shl 1 l else 0)) m
def gT (o : Int) (C : Int → Bool) (l : Int) (t : Int → Int) : Nat → Int → Int
  | 0 => t
  | m + 1 => gT o C (l + 1) (up t (o + l) (be (C l))) m
def hT (W : Int → Bool) (l : Int) (t : Int → Int) : Nat → Int → Int
  | 0 => t
  | m + 1 => hT W (l + 1) (if W l = true then up (up t (8 + l) (t (8 + l) + 1)) 4 0 else t) m
theorem gT_n (o : Int) (C : Int → Bool) : ∀ (m : Nat) (l : Int) (t : Int → Int) (j : Int), (j < o + l ∨ o + l + m ≤ j) → gT o C l t m j = t j
  | 0, _, _, _, _ => rfl
  | m + 1, l, t, j, h => by
    simp only [gT]
    rw [gT_n o C m (l + 1) _ j (by omega)]
    unfold up
    rw [if_neg (by omega)]
/-- the row's bounds while it is trained -/
def mo (t : Int → Int) : Prop := (t 1 = 1 ∨ t 1 = 2 ∨ t 1 = 4) ∧ 0 ≤ t 2 ∧ t 2 ≤ 3 ∧ (∀ l, 0 ≤ l → l < 4 → 0 ≤ t (8 + l) ∧ t (8 + l) ≤ 3 ∧ 0 ≤ t (12 + l) ∧ t (12 + l) ≤ 3) ∧ 0 ≤ t 3 ∧ t 3 ≤ 999 ∧ 0 ≤ t 4 ∧ t 4 ≤ 999 ∧ 0 ≤ t 5 ∧ t 5 ≤ 999 ∧ 0 ≤ t 6 ∧ t 6 ≤ 999 ∧ 0 ≤ t 7 ∧ t 7 ≤ 11
theorem s_clkMl (L fw : Int) (r : MM) (u : Int → Int) (hP : MP r) (hu : mo u) (ho : wo (r 167)) : ∀ (m : Nat) (l fl : Int) (t : Int → Int) (al tp : Bool) (y : Option MV), 0 ≤ l → l + m = u 1 → (∀ j, ¬ (16 ≤ j ∧ j < 20) → t j = u j) →
    ∃ y', ev 221 26 [some (vR 149), some (vI (be al)), some (vI (be tp)), some (vI l), y] [] (rm r t fl fw) (g_1 L) = ev 221 158 [some (vR 149), some (vI (be (al && gA (mC u (r 167) (r 168)) l m))), some (vI (be (tp || gO (mT u (r 167)) l m))), some (vI (u 1)), y'] [] (rm r (gT 16 (mC u (r 167) (r 168)) l t m) (gF (mC u (r 167) (r 168)) l fl m) fw) (g_1 L) := by
  obtain ⟨n1, q0, q3, hl, _⟩ := hu
  intro m
  induction m with
  | zero =>
    intro l fl t al tp y l0 hm ht
    have e : l = u 1 := by omega
    have t1 : t 1 = u 1 := ht 1 (by omega)
    have g : t 1 ≤ l := by omega
    refine ⟨y, ?_⟩
    simp only [xe_221_26, xe_221_27, xe_221_28, xe_221_31, xe_221_32, xe_221_33, ite_self, mm_nL_I, mm_nL_R, mm_nL_0, Option.bind_some, Option.bind_none, bnd_ite, Option.toList_some, Option.toList_none, List.cons_append, List.nil_append, mm_cats_nil, mm_cats_I, mm_cats_L, mm_cats_R, if_true, if_false, true_and, and_true, false_and, and_false, not_true_eq_false, not_false_eq_true, Int.reduceLE, Int.reduceLT, Int.reduceEq, Int.reduceNe, Int.reduceNeg, Int.reduceAdd, Int.reduceSub, Int.reduceMul, Nat.reduceAdd, Nat.reduceLeDiff, true_or, or_true, false_or, or_false, reduceIte, k_149, k_165, l_165, rp_35 hP, rg_0, rw_0, rg_1, rw_1, rg_2, rw_2, rg_3, rw_3, rg_4, rw_4, rg_5, rw_5, rg_6, rw_6, rg_7, rw_7, g, gA, gO, gT, gF, Bool.and_true, Bool.or_false, e]
    rw [t1, if_pos (Int.le_refl _)]
  | succ m ih =>
    intro l fl t al tp y l0 hm ht
    have t1 : t 1 = u 1 := ht 1 (by omega)
    have t2 : t 2 = u 2 := ht 2 (by omega)
    have t3 : t 3 = u 3 := ht 3 (by omega)
    have t8 : t (8 + l) = u (8 + l) := ht _ (by omega)
    have hb := hl l l0 (by omega)
    have hw := ho l l0 (by omega)
    have S := s_clkM1 L l fl fw al tp y r t hP l0 (by omega) (by omega) (by omega) (by omega) (by omega) (by omega) hw.1 hw.2
    have eW : wsm t (r 167) l = wsm u (r 167) l := by unfold wsm; rw [t8, t2]
    have eC : mC t (r 167) (r 168) l = mC u (r 167) (r 168) l := by unfold mC; rw [eW, t3]
    have eT : mT t (r 167) l = mT u (r 167) l := by unfold mT; rw [eW, t8]
    rw [eC, eT] at S
    obtain ⟨y', h⟩ := ih (l + 1) (mm_or fl (if mC u (r 167) (r 168) l = true then mm_shl 1 l else 0)) (up t (16 + l) (be (mC u (r 167) (r 168) l))) (al && mC u (r 167) (r 168) l) (tp || mT u (r 167) l) (some (vI (be (mC u (r 167) (r 168) l)))) (by omega) (by omega) (fun j hj => by unfold up; rw [if_neg (by omega)]; exact ht j hj)
    refine ⟨y', ?_⟩
    rw [S, h]
    simp only [gA, gO, gT, gF, Bool.and_assoc, Bool.or_assoc]
theorem s_clkMr (L fl fw x1 x2 : Int) (y : Option MV) (r : MM) (u : Int → Int) (hP : MP r) (hu : mo u) (ho : wo (r 167)) : ∀ (m : Nat) (l : Int) (t : Int → Int), 0 ≤ l → l + m = u 1 → (∀ j, ¬ (j = 4 ∨ 8 ≤ j ∧ j < 8 + l) → t j = u j) →
    ev 221 233 [some (vR 149), some (vI x1), some (vI x2), some (vI l), y] [] (rm r t fl fw) (g_1 L) = some (none, rm r (hT (wsm u (r 167)) l t m) fl fw, g_1 L) := by
  obtain ⟨n1, q0, q3, hl, _⟩ := hu
  intro m
  induction m with
  | zero =>
    intro l t l0 hm ht
    have t1 : t 1 = u 1 := ht 1 (by omega)
    have g : t 1 ≤ l := by omega
    simp only [xe_221_233, xe_221_234, xe_221_235, xe_221_238, xe_221_239, xe_221_240, xe_221_280, ite_self, mm_nL_I, mm_nL_R, mm_nL_0, Option.bind_some, Option.bind_none, bnd_ite, Option.toList_some, Option.toList_none, List.cons_append, List.nil_append, mm_cats_nil, mm_cats_I, mm_cats_L, mm_cats_R, if_true, if_false, true_and, and_true, false_and, and_false, not_true_eq_false, not_false_eq_true, Int.reduceLE, Int.reduceLT, Int.reduceEq, Int.reduceNe, Int.reduceNeg, Int.reduceAdd, Int.reduceSub, Int.reduceMul, Nat.reduceAdd, Nat.reduceLeDiff, true_or, or_true, false_or, or_false, reduceIte, k_149, k_165, l_165, rp_35 hP, rg_0, rw_0, rg_1, rw_1, rg_2, rw_2, rg_3, rw_3, rg_4, rw_4, rg_5, rw_5, rg_6, rw_6, rg_7, rw_7, g, hT]
  | succ m ih =>
    intro l t l0 hm ht
    have t1 : t 1 = u 1 := ht 1 (by omega)
    have t2 : t 2 = u 2 := ht 2 (by omega)
    have t8 : t (8 + l) = u (8 + l) := ht _ (by omega)
    have hb := hl l l0 (by omega)
    have hw := ho l l0 (by omega)
    have eW : wsm t (r 167) l = wsm u (r 167) l := by unfold wsm; rw [t8, t2]
    have W := s_wSM L l fl fw r t hP l0 (by omega) (by omega) (by omega) (by omega) (by omega) hw.1 hw.2
    rw [eW] at W
    have g : ¬ t 1 ≤ l := by omega
    have w1 : w32 (8 + l) = 8 + l := wi32 (by omega) (by omega)
    have w2 : w32 (l + 1) = l + 1 := wi32 (by omega) (by omega)
    have w3 : w32 (t (8 + l) + 1) = t (8 + l) + 1 := wi32 (by omega) (by omega)
    have k1 : 0 ≤ 8 + l := by omega
    have k2 : 8 + l < 88 := by omega
    have e1 := rm_t r t fl fw (8 + l) ⟨k1, k2⟩
    have e2 := fun v => rm_u r t fl fw (8 + l) v ⟨k1, k2⟩
    rw [xe_221_233]
    simp only [hT]
    cases h : wsm u (r 167) l
    · rw [h] at W
      have W' : ev 218 0 [some (vR 149), some (vI l)] [] (rm r t fl fw) (g_1 L) = some (some (vI 0), rm r t fl fw, g_1 L) := W
      simp only [xe_221_234, xe_221_235, xe_221_238, xe_221_239, xe_221_240, xe_221_243, xe_221_244, xe_221_245, xe_221_248, xe_221_251, xe_221_254, xe_221_255, xe_221_258, xe_221_260, xe_221_261, xe_221_262, xe_221_263, xe_221_264, xe_221_265, xe_221_266, xe_221_267, xe_221_268, xe_221_271, xe_221_272, xe_221_273, xe_221_274 _ _ (some (vI _)) _ _ _ _ _ rfl, xe_221_274 _ _ (some (vR _)) _ _ _ _ _ rfl, xe_221_274 _ _ none _ _ _ _ _ rfl, xe_221_277, xe_221_280, ite_self, mm_nL_I, mm_nL_R, mm_nL_0, Option.bind_some, Option.bind_none, bnd_ite, Option.toList_some, Option.toList_none, List.cons_append, List.nil_append, mm_cats_nil, mm_cats_I, mm_cats_L, mm_cats_R, if_true, if_false, true_and, and_true, false_and, and_false, not_true_eq_false, not_false_eq_true, Int.reduceLE, Int.reduceLT, Int.reduceEq, Int.reduceNe, Int.reduceNeg, Int.reduceAdd, Int.reduceSub, Int.reduceMul, Nat.reduceAdd, Nat.reduceLeDiff, true_or, or_true, false_or, or_false, reduceIte, k_149, k_165, l_165, rp_35 hP, rg_0, rw_0, rg_1, rw_1, rg_2, rw_2, rg_3, rw_3, rg_4, rw_4, rg_5, rw_5, rg_6, rw_6, rg_7, rw_7, g, W', w2, Bool.false_eq_true]
      exact ih (l + 1) t (by omega) (by omega) (fun j hj => ht j (by omega))
    · rw [h] at W
      have W' : ev 218 0 [some (vR 149), some (vI l)] [] (rm r t fl fw) (g_1 L) = some (some (vI 1), rm r t fl fw, g_1 L) := W
      simp only [xe_221_234, xe_221_235, xe_221_238, xe_221_239, xe_221_240, xe_221_243, xe_221_244, xe_221_245, xe_221_248, xe_221_251, xe_221_254, xe_221_255, xe_221_258, xe_221_260, xe_221_261, xe_221_262, xe_221_263, xe_221_264, xe_221_265, xe_221_266, xe_221_267, xe_221_268, xe_221_271, xe_221_272, xe_221_273, xe_221_274 _ _ (some (vI _)) _ _ _ _ _ rfl, xe_221_274 _ _ (some (vR _)) _ _ _ _ _ rfl, xe_221_274 _ _ none _ _ _ _ _ rfl, xe_221_277, xe_221_280, ite_self, mm_nL_I, mm_nL_R, mm_nL_0, Option.bind_some, Option.bind_none, bnd_ite, Option.toList_some, Option.toList_none, List.cons_append, List.nil_append, mm_cats_nil, mm_cats_I, mm_cats_L, mm_cats_R, if_true, if_false, true_and, and_true, false_and, and_false, not_true_eq_false, not_false_eq_true, Int.reduceLE, Int.reduceLT, Int.reduceEq, Int.reduceNe, Int.reduceNeg, Int.reduceAdd, Int.reduceSub, Int.reduceMul, Nat.reduceAdd, Nat.reduceLeDiff, true_or, or_true, false_or, or_false, reduceIte, k_149, k_165, l_165, rp_35 hP, rg_0, rw_0, rg_1, rw_1, rg_2, rw_2, rg_3, rw_3, rg_4, rw_4, rg_5, rw_5, rg_6, rw_6, rg_7, rw_7, g, W', w1, w2, w3, k1, k2, e1, e2]
      exact ih (l + 1) (up (up t (8 + l) (t (8 + l) + 1)) 4 0) (by omega) (by omega) (fun j hj => by unfold up; rw [if_neg (by omega), if_neg (by omega)]; exact ht j (by omega))
def kU (t : Int → Int) : Int → Int := up (up t 3 (t 3 + 1)) 4 (t 4 + 1)
def kV (t ls sl : Int → Int) : Int → Int := gT 16 (mC (kU t) ls sl) 0 (kU t) (t 1).toNat
def kF (t ls sl : Int → Int) (fl : Int) : Int := gF (mC (kU t) ls sl) 0 fl (t 1).toNat
/-- 7 all are clocked, 1 to 3 it falls, 0 it goes on -/
def kO (t ls sl : Int → Int) : Int := if gA (mC (kU t) ls sl) 0 (t 1).toNat = true then 7 else if gO (mT (kU t) ls) 0 (t 1).toNat = true then 1 else if t 3 + 1 = 10 then 2 else if t 4 + 1 = 7 then 3 else 0
def kT (t ls sl : Int → Int) (wr : Int) : Int → Int := if kO t ls sl = 7 then up (kV t ls sl) 0 2 else if kO t ls sl = 0 then hT (wsm (kV t ls sl) ls) 0 (kV t ls sl) (t 1).toNat else fa2 (fa1 (kV t ls sl) (kO t ls sl)) wr
theorem s_clkM (L fl : Int) (r : MM) (t : Int → Int) (hP : MP r) (ht : mo t) (h3 : t 3 ≤ 99) (h4 : t 4 ≤ 99) (ho : wo (r 167)) :
    ev 221 0 [some (vR 149), none, none, none, none] [] (rm r t fl 0) (g_1 L) = some (none, rm r (kT t (r 167) (r 168) (r 149 32)) (kF t (r 167) (r 168) fl) (kO t (r 167) (r 168)), g_1 L) := by
  have ht' := ht
  obtain ⟨n1, q0, q3, hl, f0, f1, s0, s1, x0, x1, y0, y1, z0, z1⟩ := ht
  have w3 : w32 (t 3 + 1) = t 3 + 1 := wi32 (by omega) (by omega)
  have w4 : w32 (t 4 + 1) = t 4 + 1 := wi32 (by omega) (by omega)
  have ku : ∀ k, ¬ k = 3 → ¬ k = 4 → kU t k = t k := fun k h1 h2 => by unfold kU up; rw [if_neg h2, if_neg h1]
  have mu : mo (kU t) := by
    refine ⟨n1, q0, q3, fun l l0 l3 => ?_, ?_⟩
    · rw [ku _ (by omega) (by omega), ku _ (by omega) (by omega)]; exact hl l l0 l3
    · exact ⟨by show 0 ≤ t 3 + 1; omega, by show t 3 + 1 ≤ 999; omega, by show 0 ≤ t 4 + 1; omega, by show t 4 + 1 ≤ 999; omega, x0, x1, y0, y1, z0, z1⟩
  obtain ⟨y', h⟩ := s_clkMl L 0 r (kU t) hP mu ho (t 1).toNat 0 fl (kU t) true false none (by omega) (by have e : kU t 1 = t 1 := ku 1 (by omega) (by omega); omega) (fun _ _ => rfl)
  have hu : up (up t 3 (t 3 + 1)) 4 (t 4 + 1) = kU t := rfl
  have e0 : (0 : Int) = be false := rfl
  have e1 : (1 : Int) = be true := rfl
  have h' : ev 221 26 [some (vR 149), some (vI 1), some (vI 0), some (vI 0), none] [] (rm r (kU t) fl 0) (g_1 L) = ev 221 158 [some (vR 149), some (vI (be (gA (mC (kU t) (r 167) (r 168)) 0 (t 1).toNat))), some (vI (be (gO (mT (kU t) (r 167)) 0 (t 1).toNat))), some (vI (kU t 1)), y'] [] (rm r (kV t (r 167) (r 168)) (kF t (r 167) (r 168) fl) 0) (g_1 L) := by
    rw [Bool.true_and, Bool.false_or] at h; exact h
  have vk : ∀ k, k < 16 → kV t (r 167) (r 168) k = kU t k := fun k hk => by unfold kV; exact gT_n _ _ _ _ _ _ (by omega)
  have v3 : kV t (r 167) (r 168) 3 = t 3 + 1 := vk 3 (by omega)
  have v4 : kV t (r 167) (r 168) 4 = t 4 + 1 := vk 4 (by omega)
  have v1 : kV t (r 167) (r 168) 1 = t 1 := vk 1 (by omega)
  have v2 : kV t (r 167) (r 168) 2 = t 2 := vk 2 (by omega)
  have v7 : kV t (r 167) (r 168) 7 = t 7 := vk 7 (by omega)
  have FA := fun b => s_falls L b (kF t (r 167) (r 168) fl) 0 r (kV t (r 167) (r 168)) hP (by rw [v1]; omega) (by rw [v1]; omega) (by rw [v2]; omega) (by rw [v2]; omega) (by rw [v7]; omega) (by rw [v7]; omega)
  have mv : mo (kV t (r 167) (r 168)) := by
    refine ⟨by rw [v1]; exact n1, by rw [v2]; exact q0, by rw [v2]; exact q3, fun l l0 l3 => ?_, ?_⟩
    · rw [vk _ (by omega), vk _ (by omega), ku _ (by omega) (by omega), ku _ (by omega) (by omega)]; exact hl l l0 l3
    · rw [v3, v4, v7, vk 5 (by omega), vk 6 (by omega), ku 5 (by omega) (by omega), ku 6 (by omega) (by omega)]; omega
  have RR := fun a b y => s_clkMr L (kF t (r 167) (r 168) fl) 0 a b y r (kV t (r 167) (r 168)) hP mv ho (t 1).toNat 0 (kV t (r 167) (r 168)) (by omega) (by rw [v1]; omega) (fun _ _ => rfl)
  have eW : wsm (kV t (r 167) (r 168)) (r 167) = wsm (kU t) (r 167) → True := fun _ => trivial
  have pre : ev 221 0 [some (vR 149), none, none, none, none] [] (rm r t fl 0) (g_1 L) = ev 221 26 [some (vR 149), some (vI 1), some (vI 0), some (vI 0), none] [] (rm r (kU t) fl 0) (g_1 L) := by
    simp only [xe_221_0, xe_221_1, xe_221_4, xe_221_5, xe_221_6, xe_221_7, xe_221_8, xe_221_9, xe_221_10, xe_221_11, xe_221_14, xe_221_15, xe_221_16, xe_221_17, xe_221_18, xe_221_19, xe_221_20, xe_221_21 (some (vI _)) _ _ _ _ _ _ _ _ rfl, xe_221_21 (some (vR _)) _ _ _ _ _ _ _ _ rfl, xe_221_21 none _ _ _ _ _ _ _ _ rfl, xe_221_22, xe_221_23 _ (some (vI _)) _ _ _ _ _ _ _ rfl, xe_221_23 _ (some (vR _)) _ _ _ _ _ _ _ rfl, xe_221_23 _ none _ _ _ _ _ _ _ rfl, xe_221_24, xe_221_25 _ _ (some (vI _)) _ _ _ _ _ _ rfl, xe_221_25 _ _ (some (vR _)) _ _ _ _ _ _ rfl, xe_221_25 _ _ none _ _ _ _ _ _ rfl, ite_self, mm_nL_I, mm_nL_R, mm_nL_0, Option.bind_some, Option.bind_none, bnd_ite, Option.toList_some, Option.toList_none, List.cons_append, List.nil_append, mm_cats_nil, mm_cats_I, mm_cats_L, mm_cats_R, if_true, if_false, true_and, and_true, false_and, and_false, not_true_eq_false, not_false_eq_true, Int.reduceLE, Int.reduceLT, Int.reduceEq, Int.reduceNe, Int.reduceNeg, Int.reduceAdd, Int.reduceSub, Int.reduceMul, Nat.reduceAdd, Nat.reduceLeDiff, true_or, or_true, false_or, or_false, reduceIte, k_149, k_165, l_165, rp_35 hP, rg_0, rw_0, rg_1, rw_1, rg_2, rw_2, rg_3, rw_3, rg_4, rw_4, rg_5, rw_5, rg_6, rw_6, rg_7, rw_7, up_e, w3, w4, hu]
  rw [pre, h']
  unfold kT kO
  cases a1 : gA (mC (kU t) (r 167) (r 168)) 0 (t 1).toNat
  · cases a2 : gO (mT (kU t) (r 167)) 0 (t 1).toNat
    · by_cases a3 : t 3 + 1 = 10
      · simp only [xe_221_158, xe_221_159, xe_221_162, xe_221_163, xe_221_166, xe_221_167, xe_221_168, xe_221_169, xe_221_170, xe_221_172, xe_221_175, xe_221_176, xe_221_177, xe_221_180, xe_221_181, xe_221_184, xe_221_185, xe_221_186, xe_221_188, xe_221_191, xe_221_192, xe_221_195, xe_221_196, xe_221_197, xe_221_199, xe_221_202, xe_221_203, xe_221_204, xe_221_207, xe_221_208, xe_221_211, xe_221_212, xe_221_215, xe_221_216, xe_221_217, xe_221_219, xe_221_222, xe_221_223, xe_221_226, xe_221_227, xe_221_230, xe_221_231, xe_221_232 _ _ (some (vI _)) _ _ _ _ _ _ rfl, xe_221_232 _ _ (some (vR _)) _ _ _ _ _ _ rfl, xe_221_232 _ _ none _ _ _ _ _ _ rfl, ite_self, mm_nL_I, mm_nL_R, mm_nL_0, Option.bind_some, Option.bind_none, bnd_ite, Option.toList_some, Option.toList_none, List.cons_append, List.nil_append, mm_cats_nil, mm_cats_I, mm_cats_L, mm_cats_R, if_true, if_false, true_and, and_true, false_and, and_false, not_true_eq_false, not_false_eq_true, Int.reduceLE, Int.reduceLT, Int.reduceEq, Int.reduceNe, Int.reduceNeg, Int.reduceAdd, Int.reduceSub, Int.reduceMul, Nat.reduceAdd, Nat.reduceLeDiff, true_or, or_true, false_or, or_false, reduceIte, k_149, k_165, l_165, rp_35 hP, rg_0, rw_0, rg_1, rw_1, rg_2, rw_2, rg_3, rw_3, rg_4, rw_4, rg_5, rw_5, rg_6, rw_6, rg_7, rw_7, be, a3, v3, FA, Bool.false_eq_true]
      · by_cases a4 : t 4 + 1 = 7
        · simp only [xe_221_158, xe_221_159, xe_221_162, xe_221_163, xe_221_166, xe_221_167, xe_221_168, xe_221_169, xe_221_170, xe_221_172, xe_221_175, xe_221_176, xe_221_177, xe_221_180, xe_221_181, xe_221_184, xe_221_185, xe_221_186, xe_221_188, xe_221_191, xe_221_192, xe_221_195, xe_221_196, xe_221_197, xe_221_199, xe_221_202, xe_221_203, xe_221_204, xe_221_207, xe_221_208, xe_221_211, xe_221_212, xe_221_215, xe_221_216, xe_221_217, xe_221_219, xe_221_222, xe_221_223, xe_221_226, xe_221_227, xe_221_230, xe_221_231, xe_221_232 _ _ (some (vI _)) _ _ _ _ _ _ rfl, xe_221_232 _ _ (some (vR _)) _ _ _ _ _ _ rfl, xe_221_232 _ _ none _ _ _ _ _ _ rfl, ite_self, mm_nL_I, mm_nL_R, mm_nL_0, Option.bind_some, Option.bind_none, bnd_ite, Option.toList_some, Option.toList_none, List.cons_append, List.nil_append, mm_cats_nil, mm_cats_I, mm_cats_L, mm_cats_R, if_true, if_false, true_and, and_true, false_and, and_false, not_true_eq_false, not_false_eq_true, Int.reduceLE, Int.reduceLT, Int.reduceEq, Int.reduceNe, Int.reduceNeg, Int.reduceAdd, Int.reduceSub, Int.reduceMul, Nat.reduceAdd, Nat.reduceLeDiff, true_or, or_true, false_or, or_false, reduceIte, k_149, k_165, l_165, rp_35 hP, rg_0, rw_0, rg_1, rw_1, rg_2, rw_2, rg_3, rw_3, rg_4, rw_4, rg_5, rw_5, rg_6, rw_6, rg_7, rw_7, be, a3, a4, v3, v4, FA, Bool.false_eq_true]
        · simp only [xe_221_158, xe_221_159, xe_221_162, xe_221_163, xe_221_166, xe_221_167, xe_221_168, xe_221_169, xe_221_170, xe_221_172, xe_221_175, xe_221_176, xe_221_177, xe_221_180, xe_221_181, xe_221_184, xe_221_185, xe_221_186, xe_221_188, xe_221_191, xe_221_192, xe_221_195, xe_221_196, xe_221_197, xe_221_199, xe_221_202, xe_221_203, xe_221_204, xe_221_207, xe_221_208, xe_221_211, xe_221_212, xe_221_215, xe_221_216, xe_221_217, xe_221_219, xe_221_222, xe_221_223, xe_221_226, xe_221_227, xe_221_230, xe_221_231, xe_221_232 _ _ (some (vI _)) _ _ _ _ _ _ rfl, xe_221_232 _ _ (some (vR _)) _ _ _ _ _ _ rfl, xe_221_232 _ _ none _ _ _ _ _ _ rfl, ite_self, mm_nL_I, mm_nL_R, mm_nL_0, Option.bind_some, Option.bind_none, bnd_ite, Option.toList_some, Option.toList_none, List.cons_append, List.nil_append, mm_cats_nil, mm_cats_I, mm_cats_L, mm_cats_R, if_true, if_false, true_and, and_true, false_and, and_false, not_true_eq_false, not_false_eq_true, Int.reduceLE, Int.reduceLT, Int.reduceEq, Int.reduceNe, Int.reduceNeg, Int.reduceAdd, Int.reduceSub, Int.reduceMul, Nat.reduceAdd, Nat.reduceLeDiff, true_or, or_true, false_or, or_false, reduceIte, k_149, k_165, l_165, rp_35 hP, rg_0, rw_0, rg_1, rw_1, rg_2, rw_2, rg_3, rw_3, rg_4, rw_4, rg_5, rw_5, rg_6, rw_6, rg_7, rw_7, be, a3, a4, v3, v4, RR, Bool.false_eq_true]
    · simp only [xe_221_158, xe_221_159, xe_221_162, xe_221_163, xe_221_166, xe_221_167, xe_221_168, xe_221_169, xe_221_170, xe_221_172, xe_221_175, xe_221_176, xe_221_177, xe_221_180, xe_221_181, xe_221_184, xe_221_185, xe_221_186, xe_221_188, xe_221_191, xe_221_192, xe_221_195, xe_221_196, xe_221_197, xe_221_199, xe_221_202, xe_221_203, xe_221_204, xe_221_207, xe_221_208, xe_221_211, xe_221_212, xe_221_215, xe_221_216, xe_221_217, xe_221_219, xe_221_222, xe_221_223, xe_221_226, xe_221_227, xe_221_230, xe_221_231, xe_221_232 _ _ (some (vI _)) _ _ _ _ _ _ rfl, xe_221_232 _ _ (some (vR _)) _ _ _ _ _ _ rfl, xe_221_232 _ _ none _ _ _ _ _ _ rfl, ite_self, mm_nL_I, mm_nL_R, mm_nL_0, Option.bind_some, Option.bind_none, bnd_ite, Option.toList_some, Option.toList_none, List.cons_append, List.nil_append, mm_cats_nil, mm_cats_I, mm_cats_L, mm_cats_R, if_true, if_false, true_and, and_true, false_and, and_false, not_true_eq_false, not_false_eq_true, Int.reduceLE, Int.reduceLT, Int.reduceEq, Int.reduceNe, Int.reduceNeg, Int.reduceAdd, Int.reduceSub, Int.reduceMul, Nat.reduceAdd, Nat.reduceLeDiff, true_or, or_true, false_or, or_false, reduceIte, k_149, k_165, l_165, rp_35 hP, rg_0, rw_0, rg_1, rw_1, rg_2, rw_2, rg_3, rw_3, rg_4, rw_4, rg_5, rw_5, rg_6, rw_6, rg_7, rw_7, be, FA, Bool.false_eq_true]
  · simp only [xe_221_158, xe_221_159, xe_221_162, xe_221_163, xe_221_166, xe_221_167, xe_221_168, xe_221_169, xe_221_170, xe_221_172, xe_221_175, xe_221_176, xe_221_177, xe_221_180, xe_221_181, xe_221_184, xe_221_185, xe_221_186, xe_221_188, xe_221_191, xe_221_192, xe_221_195, xe_221_196, xe_221_197, xe_221_199, xe_221_202, xe_221_203, xe_221_204, xe_221_207, xe_221_208, xe_221_211, xe_221_212, xe_221_215, xe_221_216, xe_221_217, xe_221_219, xe_221_222, xe_221_223, xe_221_226, xe_221_227, xe_221_230, xe_221_231, xe_221_232 _ _ (some (vI _)) _ _ _ _ _ _ rfl, xe_221_232 _ _ (some (vR _)) _ _ _ _ _ _ rfl, xe_221_232 _ _ none _ _ _ _ _ _ rfl, ite_self, mm_nL_I, mm_nL_R, mm_nL_0, Option.bind_some, Option.bind_none, bnd_ite, Option.toList_some, Option.toList_none, List.cons_append, List.nil_append, mm_cats_nil, mm_cats_I, mm_cats_L, mm_cats_R, if_true, if_false, true_and, and_true, false_and, and_false, not_true_eq_false, not_false_eq_true, Int.reduceLE, Int.reduceLT, Int.reduceEq, Int.reduceNe, Int.reduceNeg, Int.reduceAdd, Int.reduceSub, Int.reduceMul, Nat.reduceAdd, Nat.reduceLeDiff, true_or, or_true, false_or, or_false, reduceIte, k_149, k_165, l_165, rp_35 hP, rg_0, rw_0, rg_1, rw_1, rg_2, rw_2, rg_3, rw_3, rg_4, rw_4, rg_5, rw_5, rg_6, rw_6, rg_7, rw_7, ru_44, be]
