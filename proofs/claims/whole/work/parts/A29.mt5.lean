theorem s_evnMl (L fw : Int) (r : MM) (u : Int → Int) (hP : MP r) (hu : mo u) (ho : wo (r 167)) (hs : so2 (r 168)) : ∀ (m : Nat) (l fl : Int) (t : Int → Int) (al tp lo' : Bool) (y : Option MV), 0 ≤ l → l + m = u 1 → (∀ j, ¬ (20 ≤ j ∧ j < 24) → t j = u j) →
    ∃ y', ev 222 19 [some (vR 149), some (vI (be al)), some (vI (be tp)), some (vI (be lo')), some (vI l), y] [] (rm r t fl fw) (g_1 L) = ev 222 179 [some (vR 149), some (vI (be (al && gA (nC u (r 167) (r 168)) l m))), some (vI (be (tp || gO (nT u (r 167)) l m))), some (vI (be (lo' || gO (wsm u (r 167)) l m))), some (vI (u 1)), y'] [] (rm r (gT 20 (nC u (r 167) (r 168)) l t m) (gF (nC u (r 167) (r 168)) l fl m) fw) (g_1 L) := by
  obtain ⟨n1, q0, q3, hl, _⟩ := hu
  intro m
  induction m with
  | zero =>
    intro l fl t al tp lo' y l0 hm ht
    have e : l = u 1 := by omega
    have t1 : t 1 = u 1 := ht 1 (by omega)
    have g : t 1 ≤ l := by omega
    refine ⟨y, ?_⟩
    simp only [xe_222_19, xe_222_21, xe_222_22, xe_222_25, xe_222_26, xe_222_27, ite_self, mm_nL_I, mm_nL_R, mm_nL_0, Option.bind_some, Option.bind_none, bnd_ite, Option.toList_some, Option.toList_none, List.cons_append, List.nil_append, mm_cats_nil, mm_cats_I, mm_cats_L, mm_cats_R, if_true, if_false, true_and, and_true, false_and, and_false, not_true_eq_false, not_false_eq_true, Int.reduceLE, Int.reduceLT, Int.reduceEq, Int.reduceNe, Int.reduceNeg, Int.reduceAdd, Int.reduceSub, Int.reduceMul, Nat.reduceAdd, Nat.reduceLeDiff, true_or, or_true, false_or, or_false, reduceIte, k_149, k_165, l_165, rp_35 hP, rg_0, rw_0, rg_1, rw_1, rg_2, rw_2, rg_3, rw_3, rg_4, rw_4, rg_5, rw_5, rg_6, rw_6, rg_7, rw_7, g, gA, gO, gT, gF, Bool.and_true, Bool.or_false, e]
    rw [t1, if_pos (Int.le_refl _)]
  | succ m ih =>
    intro l fl t al tp lo' y l0 hm ht
    have t1 : t 1 = u 1 := ht 1 (by omega)
    have t2 : t 2 = u 2 := ht 2 (by omega)
    have t5 : t 5 = u 5 := ht 5 (by omega)
    have t8 : t (8 + l) = u (8 + l) := ht _ (by omega)
    have t12 : t (12 + l) = u (12 + l) := ht _ (by omega)
    have hb := hl l l0 (by omega)
    have hw := ho l l0 (by omega)
    have hv := hs l l0 (by omega)
    have S := s_evnM1 L l fl fw al tp lo' y r t hP l0 (by omega) (by omega) (by omega) (by omega) (by omega) (by omega) (by omega) (by omega) hw.1 hw.2 hv.1 hv.2
    have eE : wem t (r 167) l = wem u (r 167) l := by unfold wem; rw [t12, t2]
    have eW : wsm t (r 167) l = wsm u (r 167) l := by unfold wsm; rw [t8, t2]
    have eC : nC t (r 167) (r 168) l = nC u (r 167) (r 168) l := by unfold nC; rw [eE, t5]
    have eT : nT t (r 167) l = nT u (r 167) l := by unfold nT; rw [eE, t12]
    rw [eC, eT, eW] at S
    obtain ⟨y', h⟩ := ih (l + 1) (mm_or fl (if nC u (r 167) (r 168) l = true then mm_shl 1 l else 0)) (up t (20 + l) (be (nC u (r 167) (r 168) l))) (al && nC u (r 167) (r 168) l) (tp || nT u (r 167) l) (lo' || wsm u (r 167) l) (some (vI (be (nC u (r 167) (r 168) l)))) (by omega) (by omega) (fun j hj => by unfold up; rw [if_neg (by omega)]; exact ht j hj)
    refine ⟨y', ?_⟩
    rw [S, h]
    simp only [gA, gO, gT, gF, Bool.and_assoc, Bool.or_assoc]
/-- one lane's emphasis up, its swing down where both are too great -/
def e1 (t : Int → Int) (l : Int) : Int → Int := up t (12 + l) (t (12 + l) + 1)
def e2 (t : Int → Int) (l : Int) : Int → Int := if 3 < t (8 + l) + (t (12 + l) + 1) then up (e1 t l) (8 + l) (t (8 + l) - 1) else e1 t l
def jT (W : Int → Bool) (l : Int) (t : Int → Int) : Nat → Int → Int
  | 0 => t
  | m + 1 => jT W (l + 1) (if W l = true then e2 t l else t) m
theorem s_evnMr (L fl fw x1 x2 x3 : Int) (y : Option MV) (r : MM) (u : Int → Int) (hP : MP r) (hu : mo u) (ho : wo (r 167)) : ∀ (m : Nat) (l : Int) (t : Int → Int), 0 ≤ l → l + m = u 1 → (∀ j, ¬ (8 ≤ j ∧ j < 8 + l ∨ 12 ≤ j ∧ j < 12 + l) → t j = u j) →
    ev 222 252 [some (vR 149), some (vI x1), some (vI x2), some (vI x3), some (vI l), y] [] (rm r t fl fw) (g_1 L) = some (none, rm r (jT (wem u (r 167)) l t m) fl fw, g_1 L) := by
  obtain ⟨n1, q0, q3, hl, _⟩ := hu
  intro m
  induction m with
  | zero =>
    intro l t l0 hm ht
    have t1 : t 1 = u 1 := ht 1 (by omega)
    have g : t 1 ≤ l := by omega
    simp only [xe_222_252, xe_222_254, xe_222_255, xe_222_258, xe_222_259, xe_222_260, xe_222_334, ite_self, mm_nL_I, mm_nL_R, mm_nL_0, Option.bind_some, Option.bind_none, bnd_ite, Option.toList_some, Option.toList_none, List.cons_append, List.nil_append, mm_cats_nil, mm_cats_I, mm_cats_L, mm_cats_R, if_true, if_false, true_and, and_true, false_and, and_false, not_true_eq_false, not_false_eq_true, Int.reduceLE, Int.reduceLT, Int.reduceEq, Int.reduceNe, Int.reduceNeg, Int.reduceAdd, Int.reduceSub, Int.reduceMul, Nat.reduceAdd, Nat.reduceLeDiff, true_or, or_true, false_or, or_false, reduceIte, k_149, k_165, l_165, rp_35 hP, rg_0, rw_0, rg_1, rw_1, rg_2, rw_2, rg_3, rw_3, rg_4, rw_4, rg_5, rw_5, rg_6, rw_6, rg_7, rw_7, g, jT]
  | succ m ih =>
    intro l t l0 hm ht
    have t1 : t 1 = u 1 := ht 1 (by omega)
    have t2 : t 2 = u 2 := ht 2 (by omega)
    have t8 : t (8 + l) = u (8 + l) := ht _ (by omega)
    have t12 : t (12 + l) = u (12 + l) := ht _ (by omega)
    have hb := hl l l0 (by omega)
    have hw := ho l l0 (by omega)
    have eE : wem t (r 167) l = wem u (r 167) l := by unfold wem; rw [t12, t2]
    have W := s_wEM L l fl fw r t hP l0 (by omega) (by omega) (by omega) (by omega) (by omega) hw.1 hw.2
    rw [eE] at W
    have g : ¬ t 1 ≤ l := by omega
    have w0 : w32 (12 + l) = 12 + l := wi32 (by omega) (by omega)
    have w1 : w32 (8 + l) = 8 + l := wi32 (by omega) (by omega)
    have w2 : w32 (l + 1) = l + 1 := wi32 (by omega) (by omega)
    have w3 : w32 (t (12 + l) + 1) = t (12 + l) + 1 := wi32 (by omega) (by omega)
    have w4 : w32 (t (8 + l) + (t (12 + l) + 1)) = t (8 + l) + (t (12 + l) + 1) := wi32 (by omega) (by omega)
    have w5 : w32 (t (8 + l) - 1) = t (8 + l) - 1 := wi32 (by omega) (by omega)
    have k1 : 0 ≤ 8 + l := by omega
    have k2 : 8 + l < 88 := by omega
    have k3 : 0 ≤ 12 + l := by omega
    have k4 : 12 + l < 88 := by omega
    have a1 := fun t => rm_t r t fl fw (8 + l) ⟨k1, k2⟩
    have a2 := fun t => rm_t r t fl fw (12 + l) ⟨k3, k4⟩
    have a3 := fun t v => rm_u r t fl fw (8 + l) v ⟨k1, k2⟩
    have a4 : mset (rm r t fl fw) 165 (12 + l) (t (12 + l) + 1) = rm r (e1 t l) fl fw := rm_u r t fl fw (12 + l) _ ⟨k3, k4⟩
    have a5 : e1 t l (8 + l) = t (8 + l) := by unfold e1 up; rw [if_neg (by omega)]
    have a6 : e1 t l (12 + l) = t (12 + l) + 1 := by unfold e1 up; rw [if_pos rfl]
    rw [xe_222_252]
    simp only [jT]
    cases h : wem u (r 167) l
    · rw [h] at W
      have W' : ev 219 0 [some (vR 149), some (vI l)] [] (rm r t fl fw) (g_1 L) = some (some (vI 0), rm r t fl fw, g_1 L) := W
      simp only [xe_222_254, xe_222_255, xe_222_258, xe_222_259, xe_222_260, xe_222_263, xe_222_264, xe_222_266, xe_222_269, xe_222_272, xe_222_275, xe_222_276, xe_222_279, xe_222_281, xe_222_283, xe_222_284, xe_222_285, xe_222_286, xe_222_287, xe_222_288, xe_222_289, xe_222_290, xe_222_293, xe_222_295, xe_222_297, xe_222_298, xe_222_299, xe_222_300, xe_222_303, xe_222_305, xe_222_307, xe_222_308, xe_222_309, xe_222_310, xe_222_311, xe_222_314, xe_222_315, xe_222_318, xe_222_320, xe_222_322, xe_222_323, xe_222_324, xe_222_325, xe_222_326, xe_222_327, xe_222_328 _ _ _ (some (vI _)) _ _ _ _ _ rfl, xe_222_328 _ _ _ (some (vR _)) _ _ _ _ _ rfl, xe_222_328 _ _ _ none _ _ _ _ _ rfl, xe_222_331, xe_222_334, ite_self, mm_nL_I, mm_nL_R, mm_nL_0, Option.bind_some, Option.bind_none, bnd_ite, Option.toList_some, Option.toList_none, List.cons_append, List.nil_append, mm_cats_nil, mm_cats_I, mm_cats_L, mm_cats_R, if_true, if_false, true_and, and_true, false_and, and_false, not_true_eq_false, not_false_eq_true, Int.reduceLE, Int.reduceLT, Int.reduceEq, Int.reduceNe, Int.reduceNeg, Int.reduceAdd, Int.reduceSub, Int.reduceMul, Nat.reduceAdd, Nat.reduceLeDiff, true_or, or_true, false_or, or_false, reduceIte, k_149, k_165, l_165, rp_35 hP, rg_0, rw_0, rg_1, rw_1, rg_2, rw_2, rg_3, rw_3, rg_4, rw_4, rg_5, rw_5, rg_6, rw_6, rg_7, rw_7, g, W', w2, Bool.false_eq_true]
      exact ih (l + 1) t (by omega) (by omega) (fun j hj => ht j (by omega))
    · rw [h] at W
      have W' : ev 219 0 [some (vR 149), some (vI l)] [] (rm r t fl fw) (g_1 L) = some (some (vI 1), rm r t fl fw, g_1 L) := W
      have en : ∀ j, ¬ (8 ≤ j ∧ j < 8 + (l + 1) ∨ 12 ≤ j ∧ j < 12 + (l + 1)) → e2 t l j = u j := fun j hj => by
        unfold e2 e1 up
        split
        · show (if j = 8 + l then t (8 + l) - 1 else if j = 12 + l then t (12 + l) + 1 else t j) = u j
          rw [if_neg (by omega), if_neg (by omega)]; exact ht j (by omega)
        · show (if j = 12 + l then t (12 + l) + 1 else t j) = u j
          rw [if_neg (by omega)]; exact ht j (by omega)
      by_cases q : 3 < t (8 + l) + (t (12 + l) + 1)
      · have q' : ¬ t (8 + l) + (t (12 + l) + 1) ≤ 3 := by omega
        have ee : e2 t l = up (e1 t l) (8 + l) (t (8 + l) - 1) := by unfold e2; rw [if_pos q]
        have I := ih (l + 1) (e2 t l) (by omega) (by omega) en
        rw [ee] at I ⊢
        simp only [xe_222_254, xe_222_255, xe_222_258, xe_222_259, xe_222_260, xe_222_263, xe_222_264, xe_222_266, xe_222_269, xe_222_272, xe_222_275, xe_222_276, xe_222_279, xe_222_281, xe_222_283, xe_222_284, xe_222_285, xe_222_286, xe_222_287, xe_222_288, xe_222_289, xe_222_290, xe_222_293, xe_222_295, xe_222_297, xe_222_298, xe_222_299, xe_222_300, xe_222_303, xe_222_305, xe_222_307, xe_222_308, xe_222_309, xe_222_310, xe_222_311, xe_222_314, xe_222_315, xe_222_318, xe_222_320, xe_222_322, xe_222_323, xe_222_324, xe_222_325, xe_222_326, xe_222_327, xe_222_328 _ _ _ (some (vI _)) _ _ _ _ _ rfl, xe_222_328 _ _ _ (some (vR _)) _ _ _ _ _ rfl, xe_222_328 _ _ _ none _ _ _ _ _ rfl, xe_222_331, xe_222_334, ite_self, mm_nL_I, mm_nL_R, mm_nL_0, Option.bind_some, Option.bind_none, bnd_ite, Option.toList_some, Option.toList_none, List.cons_append, List.nil_append, mm_cats_nil, mm_cats_I, mm_cats_L, mm_cats_R, if_true, if_false, true_and, and_true, false_and, and_false, not_true_eq_false, not_false_eq_true, Int.reduceLE, Int.reduceLT, Int.reduceEq, Int.reduceNe, Int.reduceNeg, Int.reduceAdd, Int.reduceSub, Int.reduceMul, Nat.reduceAdd, Nat.reduceLeDiff, true_or, or_true, false_or, or_false, reduceIte, k_149, k_165, l_165, rp_35 hP, rg_0, rw_0, rg_1, rw_1, rg_2, rw_2, rg_3, rw_3, rg_4, rw_4, rg_5, rw_5, rg_6, rw_6, rg_7, rw_7, g, W', w0, w1, w2, w3, w4, w5, k1, k2, k3, k4, a1, a2, a3, a4, a5, a6, q']
        exact I
      · have q' : t (8 + l) + (t (12 + l) + 1) ≤ 3 := by omega
        have ee : e2 t l = e1 t l := by unfold e2; rw [if_neg q]
        have I := ih (l + 1) (e2 t l) (by omega) (by omega) en
        rw [ee] at I ⊢
        simp only [xe_222_254, xe_222_255, xe_222_258, xe_222_259, xe_222_260, xe_222_263, xe_222_264, xe_222_266, xe_222_269, xe_222_272, xe_222_275, xe_222_276, xe_222_279, xe_222_281, xe_222_283, xe_222_284, xe_222_285, xe_222_286, xe_222_287, xe_222_288, xe_222_289, xe_222_290, xe_222_293, xe_222_295, xe_222_297, xe_222_298, xe_222_299, xe_222_300, xe_222_303, xe_222_305, xe_222_307, xe_222_308, xe_222_309, xe_222_310, xe_222_311, xe_222_314, xe_222_315, xe_222_318, xe_222_320, xe_222_322, xe_222_323, xe_222_324, xe_222_325, xe_222_326, xe_222_327, xe_222_328 _ _ _ (some (vI _)) _ _ _ _ _ rfl, xe_222_328 _ _ _ (some (vR _)) _ _ _ _ _ rfl, xe_222_328 _ _ _ none _ _ _ _ _ rfl, xe_222_331, xe_222_334, ite_self, mm_nL_I, mm_nL_R, mm_nL_0, Option.bind_some, Option.bind_none, bnd_ite, Option.toList_some, Option.toList_none, List.cons_append, List.nil_append, mm_cats_nil, mm_cats_I, mm_cats_L, mm_cats_R, if_true, if_false, true_and, and_true, false_and, and_false, not_true_eq_false, not_false_eq_true, Int.reduceLE, Int.reduceLT, Int.reduceEq, Int.reduceNe, Int.reduceNeg, Int.reduceAdd, Int.reduceSub, Int.reduceMul, Nat.reduceAdd, Nat.reduceLeDiff, true_or, or_true, false_or, or_false, reduceIte, k_149, k_165, l_165, rp_35 hP, rg_0, rw_0, rg_1, rw_1, rg_2, rw_2, rg_3, rw_3, rg_4, rw_4, rg_5, rw_5, rg_6, rw_6, rg_7, rw_7, g, W', w0, w1, w2, w3, w4, k1, k2, k3, k4, a1, a2, a4, a5, a6, q']
        exact I
def vU (t : Int → Int) : Int → Int := up t 5 (t 5 + 1)
def vV (t ls sl : Int → Int) : Int → Int := gT 20 (nC (vU t) ls sl) 0 (vU t) (t 1).toNat
/-- 4 lost, 8 up, 5 and 6 it falls, 0 it goes on -/
def vO (t ls sl : Int → Int) : Int := if gO (wsm (vU t) ls) 0 (t 1).toNat = true then 4 else if gA (nC (vU t) ls sl) 0 (t 1).toNat = true then 8 else if t 5 + 1 = 6 then 5 else if gO (nT (vU t) ls) 0 (t 1).toNat = true then 6 else 0
def vF (t ls sl : Int → Int) (fl : Int) : Int := if vO t ls sl = 4 then 0 else gF (nC (vU t) ls sl) 0 fl (t 1).toNat
def vT (t ls sl : Int → Int) (wr : Int) : Int → Int := if vO t ls sl = 8 then up (vV t ls sl) 0 3 else if vO t ls sl = 0 then jT (wem (vV t ls sl) ls) 0 (vV t ls sl) (t 1).toNat else fa2 (fa1 (vV t ls sl) (vO t ls sl)) wr
theorem s_evnM (L fl : Int) (r : MM) (t : Int → Int) (hP : MP r) (ht : mo t) (h5 : t 5 ≤ 99) (ho : wo (r 167)) (hs : so2 (r 168)) :
    ev 222 0 [some (vR 149), none, none, none, none, none] [] (rm r t fl 0) (g_1 L) = some (none, rm r (vT t (r 167) (r 168) (r 149 32)) (vF t (r 167) (r 168) fl) (vO t (r 167) (r 168)), g_1 L) := by
  obtain ⟨n1, q0, q3, hl, f0, f1, s0, s1, x0, x1, y0, y1, z0, z1⟩ := ht
  have w5 : w32 (t 5 + 1) = t 5 + 1 := wi32 (by omega) (by omega)
  have ku : ∀ k, ¬ k = 5 → vU t k = t k := fun k h1 => by unfold vU up; rw [if_neg h1]
  have mu : mo (vU t) := by
    refine ⟨n1, q0, q3, fun l l0 l3 => ?_, ?_⟩
    · rw [ku _ (by omega), ku _ (by omega)]; exact hl l l0 l3
    · exact ⟨f0, f1, s0, s1, by show 0 ≤ t 5 + 1; omega, by show t 5 + 1 ≤ 999; omega, y0, y1, z0, z1⟩
  obtain ⟨y', h⟩ := s_evnMl L 0 r (vU t) hP mu ho hs (t 1).toNat 0 fl (vU t) true false false none (by omega) (by have e : vU t 1 = t 1 := ku 1 (by omega); omega) (fun _ _ => rfl)
  have hu : up t 5 (t 5 + 1) = vU t := rfl
  have h' : ev 222 19 [some (vR 149), some (vI 1), some (vI 0), some (vI 0), some (vI 0), none] [] (rm r (vU t) fl 0) (g_1 L) = ev 222 179 [some (vR 149), some (vI (be (gA (nC (vU t) (r 167) (r 168)) 0 (t 1).toNat))), some (vI (be (gO (nT (vU t) (r 167)) 0 (t 1).toNat))), some (vI (be (gO (wsm (vU t) (r 167)) 0 (t 1).toNat))), some (vI (vU t 1)), y'] [] (rm r (vV t (r 167) (r 168)) (gF (nC (vU t) (r 167) (r 168)) 0 fl (t 1).toNat) 0) (g_1 L) := by
    rw [Bool.true_and, Bool.false_or, Bool.false_or] at h; exact h
  have vk : ∀ k, k < 20 → vV t (r 167) (r 168) k = vU t k := fun k hk => by unfold vV; exact gT_n _ _ _ _ _ _ (by omega)
  have v5 : vV t (r 167) (r 168) 5 = t 5 + 1 := vk 5 (by omega)
  have v1 : vV t (r 167) (r 168) 1 = t 1 := vk 1 (by omega)
  have v2 : vV t (r 167) (r 168) 2 = t 2 := vk 2 (by omega)
  have v7 : vV t (r 167) (r 168) 7 = t 7 := vk 7 (by omega)
  have FA := fun b fl' => s_falls L b fl' 0 r (vV t (r 167) (r 168)) hP (by rw [v1]; omega) (by rw [v1]; omega) (by rw [v2]; omega) (by rw [v2]; omega) (by rw [v7]; omega) (by rw [v7]; omega)
  have mv : mo (vV t (r 167) (r 168)) := by
    refine ⟨by rw [v1]; exact n1, by rw [v2]; exact q0, by rw [v2]; exact q3, fun l l0 l3 => ?_, ?_⟩
    · rw [vk _ (by omega), vk _ (by omega), ku _ (by omega), ku _ (by omega)]; exact hl l l0 l3
    · rw [v5, v7, vk 3 (by omega), vk 4 (by omega), vk 6 (by omega), ku 3 (by omega), ku 4 (by omega), ku 6 (by omega)]; omega
  have RR := fun a b d y fl' => s_evnMr L fl' 0 a b d y r (vV t (r 167) (r 168)) hP mv ho (t 1).toNat 0 (vV t (r 167) (r 168)) (by omega) (by rw [v1]; omega) (fun _ _ => rfl)
  have pre : ev 222 0 [some (vR 149), none, none, none, none, none] [] (rm r t fl 0) (g_1 L) = ev 222 19 [some (vR 149), some (vI 1), some (vI 0), some (vI 0), some (vI 0), none] [] (rm r (vU t) fl 0) (g_1 L) := by
    simp only [xe_222_0, xe_222_1, xe_222_4, xe_222_5, xe_222_6, xe_222_7, xe_222_8, xe_222_9, xe_222_10, xe_222_11 (some (vI _)) _ _ _ _ _ _ _ _ _ rfl, xe_222_11 (some (vR _)) _ _ _ _ _ _ _ _ _ rfl, xe_222_11 none _ _ _ _ _ _ _ _ _ rfl, xe_222_12, xe_222_13 _ (some (vI _)) _ _ _ _ _ _ _ _ rfl, xe_222_13 _ (some (vR _)) _ _ _ _ _ _ _ _ rfl, xe_222_13 _ none _ _ _ _ _ _ _ _ rfl, xe_222_14, xe_222_15 _ _ (some (vI _)) _ _ _ _ _ _ _ rfl, xe_222_15 _ _ (some (vR _)) _ _ _ _ _ _ _ rfl, xe_222_15 _ _ none _ _ _ _ _ _ _ rfl, xe_222_16, xe_222_17 _ _ _ (some (vI _)) _ _ _ _ _ _ rfl, xe_222_17 _ _ _ (some (vR _)) _ _ _ _ _ _ rfl, xe_222_17 _ _ _ none _ _ _ _ _ _ rfl, ite_self, mm_nL_I, mm_nL_R, mm_nL_0, Option.bind_some, Option.bind_none, bnd_ite, Option.toList_some, Option.toList_none, List.cons_append, List.nil_append, mm_cats_nil, mm_cats_I, mm_cats_L, mm_cats_R, if_true, if_false, true_and, and_true, false_and, and_false, not_true_eq_false, not_false_eq_true, Int.reduceLE, Int.reduceLT, Int.reduceEq, Int.reduceNe, Int.reduceNeg, Int.reduceAdd, Int.reduceSub, Int.reduceMul, Nat.reduceAdd, Nat.reduceLeDiff, true_or, or_true, false_or, or_false, reduceIte, k_149, k_165, l_165, rp_35 hP, rg_0, rw_0, rg_1, rw_1, rg_2, rw_2, rg_3, rw_3, rg_4, rw_4, rg_5, rw_5, rg_6, rw_6, rg_7, rw_7, up_e, w5, hu]
  rw [pre, h']
  unfold vT vF vO
  cases a0 : gO (wsm (vU t) (r 167)) 0 (t 1).toNat
  · cases a1 : gA (nC (vU t) (r 167) (r 168)) 0 (t 1).toNat
    · by_cases a3 : t 5 + 1 = 6
      · simp only [xe_222_179, xe_222_180, xe_222_183, xe_222_184, xe_222_185, xe_222_188, xe_222_189, xe_222_190, xe_222_193, xe_222_194, xe_222_195, xe_222_198, xe_222_199, xe_222_202, xe_222_203, xe_222_204, xe_222_205, xe_222_206, xe_222_208, xe_222_211, xe_222_212, xe_222_213, xe_222_216, xe_222_217, xe_222_218, xe_222_220, xe_222_223, xe_222_224, xe_222_227, xe_222_228, xe_222_229, xe_222_232, xe_222_233, xe_222_234, xe_222_236, xe_222_239, xe_222_240, xe_222_243, xe_222_245, xe_222_248, xe_222_249, xe_222_250 _ _ _ (some (vI _)) _ _ _ _ _ _ rfl, xe_222_250 _ _ _ (some (vR _)) _ _ _ _ _ _ rfl, xe_222_250 _ _ _ none _ _ _ _ _ _ rfl, ite_self, mm_nL_I, mm_nL_R, mm_nL_0, Option.bind_some, Option.bind_none, bnd_ite, Option.toList_some, Option.toList_none, List.cons_append, List.nil_append, mm_cats_nil, mm_cats_I, mm_cats_L, mm_cats_R, if_true, if_false, true_and, and_true, false_and, and_false, not_true_eq_false, not_false_eq_true, Int.reduceLE, Int.reduceLT, Int.reduceEq, Int.reduceNe, Int.reduceNeg, Int.reduceAdd, Int.reduceSub, Int.reduceMul, Nat.reduceAdd, Nat.reduceLeDiff, true_or, or_true, false_or, or_false, reduceIte, k_149, k_165, l_165, rp_35 hP, rg_0, rw_0, rg_1, rw_1, rg_2, rw_2, rg_3, rw_3, rg_4, rw_4, rg_5, rw_5, rg_6, rw_6, rg_7, rw_7, be, a3, v5, FA, Bool.false_eq_true]
      · cases a2 : gO (nT (vU t) (r 167)) 0 (t 1).toNat
        · simp only [xe_222_179, xe_222_180, xe_222_183, xe_222_184, xe_222_185, xe_222_188, xe_222_189, xe_222_190, xe_222_193, xe_222_194, xe_222_195, xe_222_198, xe_222_199, xe_222_202, xe_222_203, xe_222_204, xe_222_205, xe_222_206, xe_222_208, xe_222_211, xe_222_212, xe_222_213, xe_222_216, xe_222_217, xe_222_218, xe_222_220, xe_222_223, xe_222_224, xe_222_227, xe_222_228, xe_222_229, xe_222_232, xe_222_233, xe_222_234, xe_222_236, xe_222_239, xe_222_240, xe_222_243, xe_222_245, xe_222_248, xe_222_249, xe_222_250 _ _ _ (some (vI _)) _ _ _ _ _ _ rfl, xe_222_250 _ _ _ (some (vR _)) _ _ _ _ _ _ rfl, xe_222_250 _ _ _ none _ _ _ _ _ _ rfl, ite_self, mm_nL_I, mm_nL_R, mm_nL_0, Option.bind_some, Option.bind_none, bnd_ite, Option.toList_some, Option.toList_none, List.cons_append, List.nil_append, mm_cats_nil, mm_cats_I, mm_cats_L, mm_cats_R, if_true, if_false, true_and, and_true, false_and, and_false, not_true_eq_false, not_false_eq_true, Int.reduceLE, Int.reduceLT, Int.reduceEq, Int.reduceNe, Int.reduceNeg, Int.reduceAdd, Int.reduceSub, Int.reduceMul, Nat.reduceAdd, Nat.reduceLeDiff, true_or, or_true, false_or, or_false, reduceIte, k_149, k_165, l_165, rp_35 hP, rg_0, rw_0, rg_1, rw_1, rg_2, rw_2, rg_3, rw_3, rg_4, rw_4, rg_5, rw_5, rg_6, rw_6, rg_7, rw_7, be, a3, v5, RR, Bool.false_eq_true]
        · simp only [xe_222_179, xe_222_180, xe_222_183, xe_222_184, xe_222_185, xe_222_188, xe_222_189, xe_222_190, xe_222_193, xe_222_194, xe_222_195, xe_222_198, xe_222_199, xe_222_202, xe_222_203, xe_222_204, xe_222_205, xe_222_206, xe_222_208, xe_222_211, xe_222_212, xe_222_213, xe_222_216, xe_222_217, xe_222_218, xe_222_220, xe_222_223, xe_222_224, xe_222_227, xe_222_228, xe_222_229, xe_222_232, xe_222_233, xe_222_234, xe_222_236, xe_222_239, xe_222_240, xe_222_243, xe_222_245, xe_222_248, xe_222_249, xe_222_250 _ _ _ (some (vI _)) _ _ _ _ _ _ rfl, xe_222_250 _ _ _ (some (vR _)) _ _ _ _ _ _ rfl, xe_222_250 _ _ _ none _ _ _ _ _ _ rfl, ite_self, mm_nL_I, mm_nL_R, mm_nL_0, Option.bind_some, Option.bind_none, bnd_ite, Option.toList_some, Option.toList_none, List.cons_append, List.nil_append, mm_cats_nil, mm_cats_I, mm_cats_L, mm_cats_R, if_true, if_false, true_and, and_true, false_and, and_false, not_true_eq_false, not_false_eq_true, Int.reduceLE, Int.reduceLT, Int.reduceEq, Int.reduceNe, Int.reduceNeg, Int.reduceAdd, Int.reduceSub, Int.reduceMul, Nat.reduceAdd, Nat.reduceLeDiff, true_or, or_true, false_or, or_false, reduceIte, k_149, k_165, l_165, rp_35 hP, rg_0, rw_0, rg_1, rw_1, rg_2, rw_2, rg_3, rw_3, rg_4, rw_4, rg_5, rw_5, rg_6, rw_6, rg_7, rw_7, be, a3, v5, FA, Bool.false_eq_true]
    · simp only [xe_222_179, xe_222_180, xe_222_183, xe_222_184, xe_222_185, xe_222_188, xe_222_189, xe_222_190, xe_222_193, xe_222_194, xe_222_195, xe_222_198, xe_222_199, xe_222_202, xe_222_203, xe_222_204, xe_222_205, xe_222_206, xe_222_208, xe_222_211, xe_222_212, xe_222_213, xe_222_216, xe_222_217, xe_222_218, xe_222_220, xe_222_223, xe_222_224, xe_222_227, xe_222_228, xe_222_229, xe_222_232, xe_222_233, xe_222_234, xe_222_236, xe_222_239, xe_222_240, xe_222_243, xe_222_245, xe_222_248, xe_222_249, xe_222_250 _ _ _ (some (vI _)) _ _ _ _ _ _ rfl, xe_222_250 _ _ _ (some (vR _)) _ _ _ _ _ _ rfl, xe_222_250 _ _ _ none _ _ _ _ _ _ rfl, ite_self, mm_nL_I, mm_nL_R, mm_nL_0, Option.bind_some, Option.bind_none, bnd_ite, Option.toList_some, Option.toList_none, List.cons_append, List.nil_append, mm_cats_nil, mm_cats_I, mm_cats_L, mm_cats_R, if_true, if_false, true_and, and_true, false_and, and_false, not_true_eq_false, not_false_eq_true, Int.reduceLE, Int.reduceLT, Int.reduceEq, Int.reduceNe, Int.reduceNeg, Int.reduceAdd, Int.reduceSub, Int.reduceMul, Nat.reduceAdd, Nat.reduceLeDiff, true_or, or_true, false_or, or_false, reduceIte, k_149, k_165, l_165, rp_35 hP, rg_0, rw_0, rg_1, rw_1, rg_2, rw_2, rg_3, rw_3, rg_4, rw_4, rg_5, rw_5, rg_6, rw_6, rg_7, rw_7, ru_44, be, Bool.false_eq_true]
  · simp only [xe_222_179, xe_222_180, xe_222_183, xe_222_184, xe_222_185, xe_222_188, xe_222_189, xe_222_190, xe_222_193, xe_222_194, xe_222_195, xe_222_198, xe_222_199, xe_222_202, xe_222_203, xe_222_204, xe_222_205, xe_222_206, xe_222_208, xe_222_211, xe_222_212, xe_222_213, xe_222_216, xe_222_217, xe_222_218, xe_222_220, xe_222_223, xe_222_224, xe_222_227, xe_222_228, xe_222_229, xe_222_232, xe_222_233, xe_222_234, xe_222_236, xe_222_239, xe_222_240, xe_222_243, xe_222_245, xe_222_248, xe_222_249, xe_222_250 _ _ _ (some (vI _)) _ _ _ _ _ _ rfl, xe_222_250 _ _ _ (some (vR _)) _ _ _ _ _ _ rfl, xe_222_250 _ _ _ none _ _ _ _ _ _ rfl, ite_self, mm_nL_I, mm_nL_R, mm_nL_0, Option.bind_some, Option.bind_none, bnd_ite, Option.toList_some, Option.toList_none, List.cons_append, List.nil_append, mm_cats_nil, mm_cats_I, mm_cats_L, mm_cats_R, if_true, if_false, true_and, and_true, false_and, and_false, not_true_eq_false, not_false_eq_true, Int.reduceLE, Int.reduceLT, Int.reduceEq, Int.reduceNe, Int.reduceNeg, Int.reduceAdd, Int.reduceSub, Int.reduceMul, Nat.reduceAdd, Nat.reduceLeDiff, true_or, or_true, false_or, or_false, reduceIte, k_149, k_165, l_165, rp_35 hP, rg_0, rw_0, rg_1, rw_1, rg_2, rw_2, rg_3, rw_3, rg_4, rw_4, rg_5, rw_5, rg_6, rw_6, rg_7, rw_7, ru_43, be, FA]
