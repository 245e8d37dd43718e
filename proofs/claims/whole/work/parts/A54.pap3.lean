/-! enough, margin -/
theorem ms_ms (c : MM) (a k v w : Int) : mset (mset c a k v) a k w = mset c a k w := by
  funext b j; unfold mset; (repeat' split) <;> first | rfl | (exfalso; omega)
theorem ms_id (c : MM) (a k v : Int) (h : c a k = v) : mset c a k v = c := by
  funext b j; unfold mset; split
  · rename_i q; rw [q.1, q.2, h]
  · rfl
theorem ru_k (r : MM) (t : Int → Int) (fl fw k v : Int) (h1 : ¬ k = 43) (h2 : ¬ k = 44) : mset (rm r t fl fw) 149 k v = rm (mset r 149 k v) t fl fw := by
  funext b j
  by_cases hb : b = 149
  · subst hb
    by_cases hj : j = k
    · subst hj; simp [mset, rm, h1, h2]
    · simp [mset, rm, hj]
  · simp [mset, rm, hb]
def ef (f : Int → Int) (now q : Int) : Nat → Int
  | 0 => q
  | n + 1 => if now ≤ f q then q else ef f now (q + 1) n
def mf (f : Int → Int) (now x : Int) : Nat → Int
  | 0 => x
  | n + 1 => if now ≤ f x then x else mf f now (x - 1) n
theorem ef_ok (f : Int → Int) (now : Int) : ∀ (n : Nat) (q : Int), q ≤ ef f now q n ∧ ef f now q n ≤ q + n
  | 0, q => by simp only [ef]; omega
  | n + 1, q => by
    simp only [ef]
    have := ef_ok f now n (q + 1)
    split <;> omega
theorem mf_ok (f : Int → Int) (now : Int) : ∀ (n : Nat) (x : Int), mf f now x n ≤ x ∧ x - n ≤ mf f now x n
  | 0, x => by simp only [mf]; omega
  | n + 1, x => by
    simp only [mf]
    have := mf_ok f now n (x - 1)
    split <;> omega
section CP
variable {L : Int} {c r : MM}
theorem cx_b (x b : Int) (h : ¬ (143 ≤ b ∧ b ≤ 145)) : mset (cpw c) 143 3 x b = c b := by rw [ms_row _ _ _ _ _ (by omega), cpw_b _ _ h]
theorem cx_143 (x k : Int) : mset (cpw c) 143 3 x 143 k = if k = 3 then x else if k = 2 then c 134 2 else c 143 k := by
  rw [ms_sa, cpw_143]
  (repeat' split) <;> first | rfl | (exfalso; omega)
theorem SXx (h : SX c) (x : Int) : SX (mset (cpw c) 143 3 x) := h.cpw.cg fun a k hp => by
  by_cases e : a = 143
  · have := (isP_k hp).2.2.2.2.2.2.2.2.2.2.2.1 e
    rw [e, ms_nk _ _ _ _ _ _ (by omega)]
  · rw [ms_row _ _ _ _ _ e]
theorem en_X (h : RR c r) (now : Int) : ∀ (m : Nat) (q x : Int) (S sw em : Int → Int), 0 ≤ q → q + m = c 134 3 →
    ∃ x' S' sw' em', ev 144 25 [some (vR 10), some (vI now), some (vI q)] [] (tm (mset (cpw c) 143 3 x) 146 S sw em) (g_1 L) = some (some (vI (ef (fun q => pr (c 135) (c 136) (c 134 2) q) now q m)), tm (mset (cpw c) 143 3 x') 146 S' sw' em', g_1 L) := by
  have hX := h.1
  have z := cpw_144 h.2.2.2.2.2.2.2.2.2.1
  obtain ⟨w1, w2, w3, w4, w5, w6⟩ := h.2.2.2.2.2.2.2.2.1
  intro m
  induction m with
  | zero =>
    intro q x S sw em q0 hq
    have g : c 134 3 ≤ q := by omega
    have e : q = c 134 3 := by omega
    refine ⟨x, S, sw, em, ?_⟩
    simp only [xe_144_25, xe_144_26, xe_144_27, xe_144_30, xe_144_33, xe_144_67, xe_144_68, xe_144_71, xe_144_74, ite_self, mm_nL_I, mm_nL_R, mm_nL_0, Option.bind_some, Option.bind_none, bnd_ite, Option.toList_some, Option.toList_none, List.cons_append, List.nil_append, mm_cats_nil, mm_cats_I, mm_cats_L, mm_cats_R, if_true, if_false, true_and, and_true, false_and, and_false, not_true_eq_false, not_false_eq_true, Int.reduceLE, Int.reduceLT, Int.reduceEq, Int.reduceNe, Int.reduceNeg, Int.reduceAdd, Int.reduceSub, Int.reduceMul, Nat.reduceAdd, Nat.reduceLeDiff, true_or, or_true, false_or, or_false, reduceIte, k_10, k_134, tx_10, tx_134, cx_b x 10 (by omega), cx_b x 134 (by omega), sx_10_8 hX, g, ef, e]
    rw [if_pos (Int.le_refl _)]
  | succ m ih =>
    intro q x S sw em q0 hq
    have g : ¬ c 134 3 ≤ q := by omega
    have hx := SXx hX q
    obtain ⟨S', sw', em', F, hR⟩ := s_finT L 143 (c 134 2) q (mset (cpw c) 143 3 q) (c 135) (c 136) S sw em (by unfold Rst; rw [cx_b q 1 (by omega)]; exact h.2.2.1.1) (TPx hx) (WPy hx) (by omega) (by show mset (cpw c) 143 3 q 144 = _; rw [ms_row _ _ _ _ _ (by omega), z.1]) (by show mset (cpw c) 143 3 q 145 = _; rw [ms_row _ _ _ _ _ (by omega), z.2]) (by rw [cx_143]; rfl) (by rw [cx_143]; rfl) (p_wo h).1 w3 q0 (by omega)
    have w : w32 (q + 1) = q + 1 := wi32 (by omega) (by omega)
    have xm : mset (tm (mset (cpw c) 143 3 x) 146 S sw em) 143 3 q = tm (mset (cpw c) 143 3 q) 146 S sw em := by rw [tx_ms _ _ _ _ _ _ _ (by omega), ms_ms]
    by_cases p : now ≤ pr (c 135) (c 136) (c 134 2) q
    · have p' : ¬ pr (c 135) (c 136) (c 134 2) q < now := by omega
      refine ⟨q, S', sw', em', ?_⟩
      rw [xe_144_25]
      simp only [xe_144_26, xe_144_27, xe_144_30, xe_144_33, xe_144_36, xe_144_37, xe_144_40, xe_144_41, xe_144_44, xe_144_45, xe_144_48, xe_144_49, xe_144_52, xe_144_55, xe_144_56, xe_144_59, xe_144_60, xe_144_61 _ (some (vI _)) _ _ _ _ rfl, xe_144_61 _ (some (vR _)) _ _ _ _ rfl, xe_144_61 _ none _ _ _ _ rfl, xe_144_64, xe_144_67, xe_144_68, xe_144_71, xe_144_74, ite_self, mm_nL_I, mm_nL_R, mm_nL_0, Option.bind_some, Option.bind_none, bnd_ite, Option.toList_some, Option.toList_none, List.cons_append, List.nil_append, mm_cats_nil, mm_cats_I, mm_cats_L, mm_cats_R, if_true, if_false, true_and, and_true, false_and, and_false, not_true_eq_false, not_false_eq_true, Int.reduceLE, Int.reduceLT, Int.reduceEq, Int.reduceNe, Int.reduceNeg, Int.reduceAdd, Int.reduceSub, Int.reduceMul, Nat.reduceAdd, Nat.reduceLeDiff, true_or, or_true, false_or, or_false, reduceIte, k_10, k_134, k_143, k_146, tx_10, tx_134, cx_b x 10 (by omega), cx_b x 134 (by omega), cx_b q 10 (by omega), cx_b q 134 (by omega), sx_10_8 hX, sx_10_11 hX, sx_10_12 hX, g, xm, F, p, p', ef]
    · have p' : pr (c 135) (c 136) (c 134 2) q < now := by omega
      obtain ⟨x', S2, sw2, em2, I⟩ := ih (q + 1) q S' sw' em' (by omega) (by omega)
      refine ⟨x', S2, sw2, em2, ?_⟩
      rw [xe_144_25]
      simp only [xe_144_26, xe_144_27, xe_144_30, xe_144_33, xe_144_36, xe_144_37, xe_144_40, xe_144_41, xe_144_44, xe_144_45, xe_144_48, xe_144_49, xe_144_52, xe_144_55, xe_144_56, xe_144_59, xe_144_60, xe_144_61 _ (some (vI _)) _ _ _ _ rfl, xe_144_61 _ (some (vR _)) _ _ _ _ rfl, xe_144_61 _ none _ _ _ _ rfl, xe_144_64, xe_144_67, xe_144_68, xe_144_71, xe_144_74, ite_self, mm_nL_I, mm_nL_R, mm_nL_0, Option.bind_some, Option.bind_none, bnd_ite, Option.toList_some, Option.toList_none, List.cons_append, List.nil_append, mm_cats_nil, mm_cats_I, mm_cats_L, mm_cats_R, if_true, if_false, true_and, and_true, false_and, and_false, not_true_eq_false, not_false_eq_true, Int.reduceLE, Int.reduceLT, Int.reduceEq, Int.reduceNe, Int.reduceNeg, Int.reduceAdd, Int.reduceSub, Int.reduceMul, Nat.reduceAdd, Nat.reduceLeDiff, true_or, or_true, false_or, or_false, reduceIte, k_10, k_134, k_143, k_146, tx_10, tx_134, cx_b x 10 (by omega), cx_b x 134 (by omega), cx_b q 10 (by omega), cx_b q 134 (by omega), sx_10_8 hX, sx_10_11 hX, sx_10_12 hX, g, xm, F, p, p', w, ef]
      exact I
theorem en_M (h : RR c r) (now : Int) (hn : now ≤ pr (c 135) (c 136) (c 134 2) (c 134 3)) : ∀ (m : Nat) (q : Int) (t : Int → Int) (fl fw : Int), 0 ≤ q → q + m = c 134 3 →
    ∃ t' fl' fw', ev 242 24 [some (vR 149), some (vI (c 134 3)), some (vI now), none] [] (rm (mset (ops (mset r 149 0 0)) 149 32 q) t fl fw) (g_1 L) = ev 242 45 [some (vR 149), some (vI (c 134 3)), some (vI now), none] [] (rm (mset (ops (mset r 149 0 0)) 149 32 (ef (fun q => pr (c 135) (c 136) (c 134 2) q) now q m)) t' fl' fw') (g_1 L) := by
  obtain ⟨z1, z2, z3⟩ := h.2.2.2.2.2.2.2.2.2.1
  obtain ⟨w1, w2, w3, w4, w5, w6⟩ := h.2.2.2.2.2.2.2.2.1
  have wv := p_wo h
  have T : ∀ (q : Int) (t : Int → Int) (fl fw : Int), 0 ≤ q → q ≤ 3 → ∃ fl' fw', ev 235 0 [some (vR 149)] [] (rm (mset (ops (mset r 149 0 0)) 149 32 q) t fl fw) (g_1 L) = some (some (vI (pr (c 135) (c 136) (c 134 2) q)), rm (mset (ops (mset r 149 0 0)) 149 32 q) (pt (c 135) (c 136) (c 134 2) q) fl' fw', g_1 L) := fun q t fl fw q0 q3 =>
    p_M h _ t (c 135) (c 136) q fl fw (fun k hk => ms_nk _ _ _ _ _ _ (by omega)) (by rw [ms_row _ _ _ _ _ (by omega), ops_b _ _ (by omega) (by omega) (by omega) (by omega)]; exact z1.symm) (by rw [ms_row _ _ _ _ _ (by omega), ops_b _ _ (by omega) (by omega) (by omega) (by omega)]; exact z2.symm) (ms_eq _ _ _ _) wv.1 wv.2.1 q0 q3
  intro m
  induction m with
  | zero =>
    intro q t fl fw q0 hq
    have e : q = c 134 3 := by omega
    obtain ⟨fl', fw', M⟩ := T q t fl fw q0 (by omega)
    have p : now ≤ pr (c 135) (c 136) (c 134 2) q := by rw [e]; exact hn
    refine ⟨pt (c 135) (c 136) (c 134 2) q, fl', fw', ?_⟩
    rw [xe_242_24]
    simp only [xe_242_25, xe_242_28, xe_242_29, xe_242_32, xe_242_33, xe_242_34, xe_242_37, xe_242_38, xe_242_39, xe_242_42, ite_self, mm_nL_I, mm_nL_R, mm_nL_0, Option.bind_some, Option.bind_none, bnd_ite, Option.toList_some, Option.toList_none, List.cons_append, List.nil_append, mm_cats_nil, mm_cats_I, mm_cats_L, mm_cats_R, if_true, if_false, true_and, and_true, false_and, and_false, not_true_eq_false, not_false_eq_true, Int.reduceLE, Int.reduceLT, Int.reduceEq, Int.reduceNe, Int.reduceNeg, Int.reduceAdd, Int.reduceSub, Int.reduceMul, Nat.reduceAdd, Nat.reduceLeDiff, true_or, or_true, false_or, or_false, reduceIte, k_149, M, p, ef]
  | succ m ih =>
    intro q t fl fw q0 hq
    obtain ⟨fl', fw', M⟩ := T q t fl fw q0 (by omega)
    have w : w32 (q + 1) = q + 1 := wi32 (by omega) (by omega)
    have k32 : ∀ (r : MM) t fl fw, rm r t fl fw 149 32 = r 149 32 := fun r t fl fw => rm_k _ _ _ _ _ (by omega) (by omega)
    have u32 : ∀ (r : MM) t fl fw v, mset (rm r t fl fw) 149 32 v = rm (mset r 149 32 v) t fl fw := fun r t fl fw v => ru_k _ _ _ _ _ _ (by omega) (by omega)
    by_cases p : now ≤ pr (c 135) (c 136) (c 134 2) q
    · refine ⟨pt (c 135) (c 136) (c 134 2) q, fl', fw', ?_⟩
      rw [xe_242_24]
      simp only [xe_242_25, xe_242_28, xe_242_29, xe_242_32, xe_242_33, xe_242_34, xe_242_37, xe_242_38, xe_242_39, xe_242_42, ite_self, mm_nL_I, mm_nL_R, mm_nL_0, Option.bind_some, Option.bind_none, bnd_ite, Option.toList_some, Option.toList_none, List.cons_append, List.nil_append, mm_cats_nil, mm_cats_I, mm_cats_L, mm_cats_R, if_true, if_false, true_and, and_true, false_and, and_false, not_true_eq_false, not_false_eq_true, Int.reduceLE, Int.reduceLT, Int.reduceEq, Int.reduceNe, Int.reduceNeg, Int.reduceAdd, Int.reduceSub, Int.reduceMul, Nat.reduceAdd, Nat.reduceLeDiff, true_or, or_true, false_or, or_false, reduceIte, k_149, M, p, ef]
    · obtain ⟨t2, fl2, fw2, I⟩ := ih (q + 1) (pt (c 135) (c 136) (c 134 2) q) fl' fw' (by omega) (by omega)
      refine ⟨t2, fl2, fw2, ?_⟩
      rw [xe_242_24]
      simp only [xe_242_25, xe_242_28, xe_242_29, xe_242_32, xe_242_33, xe_242_34, xe_242_37, xe_242_38, xe_242_39, xe_242_42, ite_self, mm_nL_I, mm_nL_R, mm_nL_0, Option.bind_some, Option.bind_none, bnd_ite, Option.toList_some, Option.toList_none, List.cons_append, List.nil_append, mm_cats_nil, mm_cats_I, mm_cats_L, mm_cats_R, if_true, if_false, true_and, and_true, false_and, and_false, not_true_eq_false, not_false_eq_true, Int.reduceLE, Int.reduceLT, Int.reduceEq, Int.reduceNe, Int.reduceNeg, Int.reduceAdd, Int.reduceSub, Int.reduceMul, Nat.reduceAdd, Nat.reduceLeDiff, true_or, or_true, false_or, or_false, reduceIte, k_149, M, p, k32, u32, ms_eq, ms_ms, w, ef]
      exact I
theorem c_enough (h : RR c r) : CALL L 144 [some (vR 10), none, none] 242 [some (vR 149), none, none, none] c r := by
  have hX := h.1
  obtain ⟨w1, w2, w3, w4, w5, w6⟩ := h.2.2.2.2.2.2.2.2.1
  obtain ⟨S', sw', em', F, hR⟩ := p_X1 (L := L) h (c 146) (c 147) (c 148)
  rw [txi] at F
  have K := s_cpy L c S' sw' em' hX
  have ci : cpw c = mset (cpw c) 143 3 (c 134 3) := (ms_id _ _ _ _ (by rw [cpw_143]; rfl)).symm
  obtain ⟨x', S2, sw2, em2, A⟩ := en_X (L := L) h (pr (c 135) (c 136) (c 134 2) (c 134 3)) (c 134 3).toNat 0 (c 134 3) S' sw' em' (by omega) (by omega)
  rw [← ci] at A
  obtain ⟨fl, fw, M⟩ := p_M1 (L := L) h
  have O := s_opens L (mset r 149 0 0) (MP.t h.2.1)
  obtain ⟨t3, fl3, fw3, B⟩ := en_M (L := L) h (pr (c 135) (c 136) (c 134 2) (c 134 3)) (Int.le_refl _) (c 134 3).toNat 0 (pt (c 135) (c 136) (c 134 2) (c 134 3)) fl fw (by omega) (by omega)
  have eo := ef_ok (fun q => pr (c 135) (c 136) (c 134 2) q) (pr (c 135) (c 136) (c 134 2) (c 134 3)) (c 134 3).toNat 0
  generalize ef (fun q => pr (c 135) (c 136) (c 134 2) q) (pr (c 135) (c 136) (c 134 2) (c 134 3)) 0 (c 134 3).toNat = V at *
  have rb : mset (ops (mset r 149 0 0)) 149 32 (c 134 3) = ops (mset r 149 0 0) := ms_id _ _ _ _ (by rw [ops_k _ _ (by omega), if_neg (by omega)]; exact w2.symm)
  have C := s_closes L (rm (ops (mset r 149 0 0)) t3 fl3 fw3) ((MP.op h.2.1).rm _ _ _)
  have o32 : ops (mset r 149 0 0) 149 32 = c 134 3 := by rw [ops_k _ _ (by omega), if_neg (by omega)]; exact w2.symm
  have k32 : ∀ (r : MM) t fl fw, rm r t fl fw 149 32 = r 149 32 := fun r t fl fw => rm_k _ _ _ _ _ (by omega) (by omega)
  have u32 : ∀ (r : MM) t fl fw v, mset (rm r t fl fw) 149 32 v = rm (mset r 149 32 v) t fl fw := fun r t fl fw v => ru_k _ _ _ _ _ _ (by omega) (by omega)
  have kc : keC c (tm (mset (cpw c) 143 3 x') 146 S2 sw2 em2) ∧ FX c (tm (mset (cpw c) 143 3 x') 146 S2 sw2 em2) := by
    refine keC.pap (fun b hb => cx_b x' b hb) ⟨by rw [cx_143]; rfl, by rw [cx_143]; rfl⟩ (fun j hj => ?_)
    rw [ms_row _ _ _ _ _ (by omega), ms_row _ _ _ _ _ (by omega)]
    unfold cpw
    rw [if_neg (by omega), if_neg (by omega), if_neg (by omega), if_neg (by omega), if_neg (by omega), if_neg (by omega), if_neg (by omega), if_neg (by omega)]
    exact ⟨rfl, rfl⟩
  refine CALL.tell h V (tm (mset (cpw c) 143 3 x') 146 S2 sw2 em2) (cls (rm (ops (mset r 149 0 0)) t3 fl3 fw3)) ?_ ?_ kc.1 (kr h _ _ _).1 kc.2 (kr h _ _ _).2
  · simp only [xe_144_0, xe_144_1, xe_144_4, xe_144_5, xe_144_8, xe_144_11 (some (vI _)) _ _ _ _ _ _ rfl, xe_144_11 (some (vR _)) _ _ _ _ _ _ rfl, xe_144_11 none _ _ _ _ _ _ rfl, xe_144_12, xe_144_13, xe_144_16, xe_144_17, xe_144_20, xe_144_23, xe_144_24 _ (some (vI _)) _ _ _ _ _ rfl, xe_144_24 _ (some (vR _)) _ _ _ _ _ rfl, xe_144_24 _ none _ _ _ _ _ rfl, ite_self, mm_nL_I, mm_nL_R, mm_nL_0, Option.bind_some, Option.bind_none, bnd_ite, Option.toList_some, Option.toList_none, List.cons_append, List.nil_append, mm_cats_nil, mm_cats_I, mm_cats_L, mm_cats_R, if_true, if_false, true_and, and_true, false_and, and_false, not_true_eq_false, not_false_eq_true, Int.reduceLE, Int.reduceLT, Int.reduceEq, Int.reduceNe, Int.reduceNeg, Int.reduceAdd, Int.reduceSub, Int.reduceMul, Nat.reduceAdd, Nat.reduceLeDiff, true_or, or_true, false_or, or_false, reduceIte, k_10, k_134, k_143, k_146, tx_10, tx_134, sx_10_8 hX, sx_10_11 hX, sx_10_12 hX, F, K]
    exact A
  · have st : ev 242 0 [some (vR 149), none, none, none] [] r (g_1 L) = ev 242 24 [some (vR 149), some (vI (c 134 3)), some (vI (pr (c 135) (c 136) (c 134 2) (c 134 3))), none] [] (rm (mset (ops (mset r 149 0 0)) 149 32 0) (pt (c 135) (c 136) (c 134 2) (c 134 3)) fl fw) (g_1 L) := by
      simp only [xe_242_0, xe_242_1, xe_242_2, xe_242_5, xe_242_6, xe_242_9, xe_242_10, xe_242_13 (some (vI _)) _ _ _ _ _ _ _ rfl, xe_242_13 (some (vR _)) _ _ _ _ _ _ _ rfl, xe_242_13 none _ _ _ _ _ _ _ rfl, xe_242_14, xe_242_15, xe_242_18 _ (some (vI _)) _ _ _ _ _ _ rfl, xe_242_18 _ (some (vR _)) _ _ _ _ _ _ rfl, xe_242_18 _ none _ _ _ _ _ _ rfl, xe_242_19, xe_242_20, xe_242_21, ite_self, mm_nL_I, mm_nL_R, mm_nL_0, Option.bind_some, Option.bind_none, bnd_ite, Option.toList_some, Option.toList_none, List.cons_append, List.nil_append, mm_cats_nil, mm_cats_I, mm_cats_L, mm_cats_R, if_true, if_false, true_and, and_true, false_and, and_false, not_true_eq_false, not_false_eq_true, Int.reduceLE, Int.reduceLT, Int.reduceEq, Int.reduceNe, Int.reduceNeg, Int.reduceAdd, Int.reduceSub, Int.reduceMul, Nat.reduceAdd, Nat.reduceLeDiff, true_or, or_true, false_or, or_false, reduceIte, k_149, O, M, o32, k32, u32]
    rw [st, B]
    simp only [xe_242_45, xe_242_46, xe_242_49 _ _ (some (vI _)) _ _ _ _ _ rfl, xe_242_49 _ _ (some (vR _)) _ _ _ _ _ rfl, xe_242_49 _ _ none _ _ _ _ _ rfl, xe_242_50, xe_242_51, xe_242_52, xe_242_55, xe_242_56, xe_242_59, xe_242_60, ite_self, mm_nL_I, mm_nL_R, mm_nL_0, Option.bind_some, Option.bind_none, bnd_ite, Option.toList_some, Option.toList_none, List.cons_append, List.nil_append, mm_cats_nil, mm_cats_I, mm_cats_L, mm_cats_R, if_true, if_false, true_and, and_true, false_and, and_false, not_true_eq_false, not_false_eq_true, Int.reduceLE, Int.reduceLT, Int.reduceEq, Int.reduceNe, Int.reduceNeg, Int.reduceAdd, Int.reduceSub, Int.reduceMul, Nat.reduceAdd, Nat.reduceLeDiff, true_or, or_true, false_or, or_false, reduceIte, k_149, k32, u32, ms_eq, ms_ms, rb, C]
theorem up_id (ls : Int → Int) (l : Int) : up ls l (ls l) = ls := by
  funext j; unfold up; split
  · rename_i q; rw [q]
  · rfl
theorem wo_up {ls : Int → Int} (h : wo ls) (l x : Int) (x0 : 0 ≤ x) (x1 : x ≤ 30) : wo (up ls l x) := fun j j0 j3 => by
  unfold up; split
  · exact ⟨x0, x1⟩
  · exact h j j0 j3
theorem cy_b (l x b : Int) (h : ¬ (143 ≤ b ∧ b ≤ 145)) : mset (cpw c) 144 l x b = c b := by rw [ms_row _ _ _ _ _ (by omega), cpw_b _ _ h]
theorem SXy (h : SX c) (l x : Int) : SX (mset (cpw c) 144 l x) := h.cpw.cg fun a k hp => by
  have : ¬ a = 144 := by
    intro e
    rcases isP_row hp with q | q
    · simp only [List.mem_cons, List.not_mem_nil, or_false] at q; omega
    · omega
  rw [ms_row _ _ _ _ _ this]
theorem ma_X (h : RR c r) (now l : Int) (l0 : 0 ≤ l) (l3 : l < 4) : ∀ (m : Nat) (x y : Int) (S sw em : Int → Int), x = c 135 l + m → x ≤ 30 →
    ∃ y' S' sw' em', ev 141 36 [some (vR 10), some (vI l), some (vI now), some (vI x)] [] (tm (mset (cpw c) 144 l y) 146 S sw em) (g_1 L) = some (some (vI (mf (fun x => pr (up (c 135) l x) (c 136) (c 134 2) (c 134 3)) now x m)), tm (mset (cpw c) 144 l y') 146 S' sw' em', g_1 L) := by
  have hX := h.1
  have z := cpw_144 h.2.2.2.2.2.2.2.2.2.1
  obtain ⟨w1, w2, w3, w4, w5, w6⟩ := h.2.2.2.2.2.2.2.2.1
  have lb := w6 l l0 l3
  intro m
  induction m with
  | zero =>
    intro x y S sw em hx x30
    have g : x ≤ c 135 l := by omega
    have e : x = c 135 l := by omega
    refine ⟨y, S, sw, em, ?_⟩
    rw [xe_141_36]
    simp only [xe_141_37, xe_141_38, xe_141_41, xe_141_44, xe_141_45, xe_141_46, xe_141_49, xe_141_50, xe_141_53, xe_141_56, xe_141_57, xe_141_58, xe_141_59, xe_141_60, xe_141_63, xe_141_64, xe_141_67, xe_141_70, xe_141_71, xe_141_74, xe_141_75, xe_141_76 _ _ (some (vI _)) _ _ _ _ rfl, xe_141_76 _ _ (some (vR _)) _ _ _ _ rfl, xe_141_76 _ _ none _ _ _ _ rfl, xe_141_79, xe_141_82, xe_141_83, xe_141_86, xe_141_89, xe_141_90, xe_141_91, ite_self, mm_nL_I, mm_nL_R, mm_nL_0, Option.bind_some, Option.bind_none, bnd_ite, Option.toList_some, Option.toList_none, List.cons_append, List.nil_append, mm_cats_nil, mm_cats_I, mm_cats_L, mm_cats_R, if_true, if_false, true_and, and_true, false_and, and_false, not_true_eq_false, not_false_eq_true, Int.reduceLE, Int.reduceLT, Int.reduceEq, Int.reduceNe, Int.reduceNeg, Int.reduceAdd, Int.reduceSub, Int.reduceMul, Nat.reduceAdd, Nat.reduceLeDiff, true_or, or_true, false_or, or_false, reduceIte, k_10, k_134, k_135, l_135, tx_10, tx_134, tx_135, cy_b l y 10 (by omega), cy_b l y 134 (by omega), cy_b l y 135 (by omega), sx_10_8 hX, sx_134_0 hX, g, l0, l3, mf, e]
    rw [if_pos (Int.le_refl _)]
  | succ m ih =>
    intro x y S sw em hx x30
    have g : ¬ x ≤ c 135 l := by omega
    have hy := SXy hX l x
    have z4 : mset (cpw c) 144 l x 144 = up (c 135) l x := by
      funext j; rw [ms_sa, z.1]; rfl
    obtain ⟨S', sw', em', F, hR⟩ := s_finT L 143 (c 134 2) (c 134 3) (mset (cpw c) 144 l x) (up (c 135) l x) (c 136) S sw em (by unfold Rst; rw [cy_b l x 1 (by omega)]; exact h.2.2.1.1) (TPx hy) (WPy hy) (by omega) z4 (by show mset (cpw c) 144 l x 145 = _; rw [ms_row _ _ _ _ _ (by omega), z.2]) (by rw [ms_row _ _ _ _ _ (by omega), cpw_143]; rfl) (by rw [ms_row _ _ _ _ _ (by omega), cpw_143]; rfl) (wo_up (p_wo h).1 _ _ (by omega) x30) w3 w4 w5
    have w : w32 (x + -1) = x - 1 := by rw [wi32 (by omega) (by omega)]; omega
    have xm : mset (tm (mset (cpw c) 144 l y) 146 S sw em) 144 l x = tm (mset (cpw c) 144 l x) 146 S sw em := by rw [tx_ms _ _ _ _ _ _ _ (by omega), ms_ms]
    have c0 : mset (cpw c) 144 l y 143 0 = 144 := sx_143_0 (SXy hX l y)
    by_cases p : now ≤ pr (up (c 135) l x) (c 136) (c 134 2) (c 134 3)
    · have p' : ¬ pr (up (c 135) l x) (c 136) (c 134 2) (c 134 3) < now := by omega
      refine ⟨x, S', sw', em', ?_⟩
      rw [xe_141_36]
      simp only [xe_141_37, xe_141_38, xe_141_41, xe_141_44, xe_141_45, xe_141_46, xe_141_49, xe_141_50, xe_141_53, xe_141_56, xe_141_57, xe_141_58, xe_141_59, xe_141_60, xe_141_63, xe_141_64, xe_141_67, xe_141_70, xe_141_71, xe_141_74, xe_141_75, xe_141_76 _ _ (some (vI _)) _ _ _ _ rfl, xe_141_76 _ _ (some (vR _)) _ _ _ _ rfl, xe_141_76 _ _ none _ _ _ _ rfl, xe_141_79, xe_141_82, xe_141_83, xe_141_86, xe_141_89, xe_141_90, xe_141_91, ite_self, mm_nL_I, mm_nL_R, mm_nL_0, Option.bind_some, Option.bind_none, bnd_ite, Option.toList_some, Option.toList_none, List.cons_append, List.nil_append, mm_cats_nil, mm_cats_I, mm_cats_L, mm_cats_R, if_true, if_false, true_and, and_true, false_and, and_false, not_true_eq_false, not_false_eq_true, Int.reduceLE, Int.reduceLT, Int.reduceEq, Int.reduceNe, Int.reduceNeg, Int.reduceAdd, Int.reduceSub, Int.reduceMul, Nat.reduceAdd, Nat.reduceLeDiff, true_or, or_true, false_or, or_false, reduceIte, k_10, k_134, k_135, l_135, k_143, k_144, l_144, k_146, tx_10, tx_134, tx_135, tx_143, cy_b l y 10 (by omega), cy_b l y 134 (by omega), cy_b l y 135 (by omega), cy_b l x 10 (by omega), sx_10_8 hX, sx_10_11 hX, sx_10_12 hX, sx_134_0 hX, c0, g, l0, l3, xm, F, p, p', mf]
    · have p' : pr (up (c 135) l x) (c 136) (c 134 2) (c 134 3) < now := by omega
      obtain ⟨y', S2, sw2, em2, I⟩ := ih (x - 1) x S' sw' em' (by omega) (by omega)
      refine ⟨y', S2, sw2, em2, ?_⟩
      rw [xe_141_36]
      simp only [xe_141_37, xe_141_38, xe_141_41, xe_141_44, xe_141_45, xe_141_46, xe_141_49, xe_141_50, xe_141_53, xe_141_56, xe_141_57, xe_141_58, xe_141_59, xe_141_60, xe_141_63, xe_141_64, xe_141_67, xe_141_70, xe_141_71, xe_141_74, xe_141_75, xe_141_76 _ _ (some (vI _)) _ _ _ _ rfl, xe_141_76 _ _ (some (vR _)) _ _ _ _ rfl, xe_141_76 _ _ none _ _ _ _ rfl, xe_141_79, xe_141_82, xe_141_83, xe_141_86, xe_141_89, xe_141_90, xe_141_91, ite_self, mm_nL_I, mm_nL_R, mm_nL_0, Option.bind_some, Option.bind_none, bnd_ite, Option.toList_some, Option.toList_none, List.cons_append, List.nil_append, mm_cats_nil, mm_cats_I, mm_cats_L, mm_cats_R, if_true, if_false, true_and, and_true, false_and, and_false, not_true_eq_false, not_false_eq_true, Int.reduceLE, Int.reduceLT, Int.reduceEq, Int.reduceNe, Int.reduceNeg, Int.reduceAdd, Int.reduceSub, Int.reduceMul, Nat.reduceAdd, Nat.reduceLeDiff, true_or, or_true, false_or, or_false, reduceIte, k_10, k_134, k_135, l_135, k_143, k_144, l_144, k_146, tx_10, tx_134, tx_135, tx_143, cy_b l y 10 (by omega), cy_b l y 134 (by omega), cy_b l y 135 (by omega), cy_b l x 10 (by omega), sx_10_8 hX, sx_10_11 hX, sx_10_12 hX, sx_134_0 hX, c0, g, l0, l3, xm, F, p, p', w, mf]
      exact I
theorem ma_M (h : RR c r) (now l : Int) (l0 : 0 ≤ l) (l3 : l < 4) (hn : now ≤ pr (c 135) (c 136) (c 134 2) (c 134 3)) : ∀ (m : Nat) (x : Int) (t : Int → Int) (fl fw : Int), x = c 135 l + m → x ≤ 30 →
    ∃ t' fl' fw', ev 238 32 [some (vR 149), some (vI l), some (vI now), none] [] (rm (mset (ops (mset r 149 0 0)) 167 l x) t fl fw) (g_1 L) = ev 238 53 [some (vR 149), some (vI l), some (vI now), none] [] (rm (mset (ops (mset r 149 0 0)) 167 l (mf (fun x => pr (up (c 135) l x) (c 136) (c 134 2) (c 134 3)) now x m)) t' fl' fw') (g_1 L) := by
  obtain ⟨z1, z2, z3⟩ := h.2.2.2.2.2.2.2.2.2.1
  obtain ⟨w1, w2, w3, w4, w5, w6⟩ := h.2.2.2.2.2.2.2.2.1
  have lb := w6 l l0 l3
  have wv := p_wo h
  have T : ∀ (x : Int) (t : Int → Int) (fl fw : Int), 0 ≤ x → x ≤ 30 → ∃ fl' fw', ev 235 0 [some (vR 149)] [] (rm (mset (ops (mset r 149 0 0)) 167 l x) t fl fw) (g_1 L) = some (some (vI (pr (up (c 135) l x) (c 136) (c 134 2) (c 134 3))), rm (mset (ops (mset r 149 0 0)) 167 l x) (pt (up (c 135) l x) (c 136) (c 134 2) (c 134 3)) fl' fw', g_1 L) := fun x t fl fw x0 x3 =>
    p_M h _ t (up (c 135) l x) (c 136) (c 134 3) fl fw (fun k hk => by rw [ms_row _ _ _ _ _ (by omega)]) (by funext j; rw [ms_sa, ops_b _ _ (by omega) (by omega) (by omega) (by omega), z1]; rfl) (by rw [ms_row _ _ _ _ _ (by omega), ops_b _ _ (by omega) (by omega) (by omega) (by omega)]; exact z2.symm) (by rw [ms_row _ _ _ _ _ (by omega), ops_k _ _ (by omega), if_neg (by omega)]; exact w2.symm) (wo_up wv.1 _ _ x0 x3) wv.2.1 w4 w5
  have P := MP.op h.2.1
  intro m
  induction m with
  | zero =>
    intro x t fl fw hx x30
    have e : x = c 135 l := by omega
    obtain ⟨fl', fw', M⟩ := T x t fl fw (by omega) (by omega)
    have p : now ≤ pr (up (c 135) l x) (c 136) (c 134 2) (c 134 3) := by rw [e, up_id]; exact hn
    refine ⟨pt (up (c 135) l x) (c 136) (c 134 2) (c 134 3), fl', fw', ?_⟩
    rw [xe_238_32]
    simp only [xe_238_33, xe_238_36, xe_238_37, xe_238_40, xe_238_41, xe_238_44, xe_238_45, xe_238_46, xe_238_47, xe_238_48, xe_238_49, xe_238_50, ite_self, mm_nL_I, mm_nL_R, mm_nL_0, Option.bind_some, Option.bind_none, bnd_ite, Option.toList_some, Option.toList_none, List.cons_append, List.nil_append, mm_cats_nil, mm_cats_I, mm_cats_L, mm_cats_R, if_true, if_false, true_and, and_true, false_and, and_false, not_true_eq_false, not_false_eq_true, Int.reduceLE, Int.reduceLT, Int.reduceEq, Int.reduceNe, Int.reduceNeg, Int.reduceAdd, Int.reduceSub, Int.reduceMul, Nat.reduceAdd, Nat.reduceLeDiff, true_or, or_true, false_or, or_false, reduceIte, k_149, M, p, mf]
  | succ m ih =>
    intro x t fl fw hx x30
    obtain ⟨fl', fw', M⟩ := T x t fl fw (by omega) (by omega)
    have w : w32 (x - 1) = x - 1 := wi32 (by omega) (by omega)
    have p37 : ∀ t fl fw, rm (mset (ops (mset r 149 0 0)) 167 l x) t fl fw 149 37 = 167 := fun t fl fw => rp_37 (P.s 167 l x (by omega)) t fl fw
    have g7 : ∀ t fl fw, rm (mset (ops (mset r 149 0 0)) 167 l x) t fl fw 167 l = x := fun t fl fw => by rw [rm_b _ _ _ _ _ (by omega) (by omega), ms_eq]
    have u7 : ∀ (r : MM) t fl fw k v, mset (rm r t fl fw) 167 k v = rm (mset r 167 k v) t fl fw := fun r t fl fw k v => ru_b _ _ _ _ _ _ _ (by omega) (by omega)
    by_cases p : now ≤ pr (up (c 135) l x) (c 136) (c 134 2) (c 134 3)
    · refine ⟨pt (up (c 135) l x) (c 136) (c 134 2) (c 134 3), fl', fw', ?_⟩
      rw [xe_238_32]
      simp only [xe_238_33, xe_238_36, xe_238_37, xe_238_40, xe_238_41, xe_238_44, xe_238_45, xe_238_46, xe_238_47, xe_238_48, xe_238_49, xe_238_50, ite_self, mm_nL_I, mm_nL_R, mm_nL_0, Option.bind_some, Option.bind_none, bnd_ite, Option.toList_some, Option.toList_none, List.cons_append, List.nil_append, mm_cats_nil, mm_cats_I, mm_cats_L, mm_cats_R, if_true, if_false, true_and, and_true, false_and, and_false, not_true_eq_false, not_false_eq_true, Int.reduceLE, Int.reduceLT, Int.reduceEq, Int.reduceNe, Int.reduceNeg, Int.reduceAdd, Int.reduceSub, Int.reduceMul, Nat.reduceAdd, Nat.reduceLeDiff, true_or, or_true, false_or, or_false, reduceIte, k_149, M, p, mf]
    · obtain ⟨t2, fl2, fw2, I⟩ := ih (x - 1) (pt (up (c 135) l x) (c 136) (c 134 2) (c 134 3)) fl' fw' (by omega) (by omega)
      refine ⟨t2, fl2, fw2, ?_⟩
      rw [xe_238_32]
      simp only [xe_238_33, xe_238_36, xe_238_37, xe_238_40, xe_238_41, xe_238_44, xe_238_45, xe_238_46, xe_238_47, xe_238_48, xe_238_49, xe_238_50, ite_self, mm_nL_I, mm_nL_R, mm_nL_0, Option.bind_some, Option.bind_none, bnd_ite, Option.toList_some, Option.toList_none, List.cons_append, List.nil_append, mm_cats_nil, mm_cats_I, mm_cats_L, mm_cats_R, if_true, if_false, true_and, and_true, false_and, and_false, not_true_eq_false, not_false_eq_true, Int.reduceLE, Int.reduceLT, Int.reduceEq, Int.reduceNe, Int.reduceNeg, Int.reduceAdd, Int.reduceSub, Int.reduceMul, Nat.reduceAdd, Nat.reduceLeDiff, true_or, or_true, false_or, or_false, reduceIte, k_149, k_167, l_167, M, p, p37, g7, u7, ms_ms, w, l0, l3, mf]
      exact I
theorem c_margin (l : Int) (h : RR c r) : CALL L 141 [some (vR 10), some (vI l), none, none] 238 [some (vR 149), some (vI l), none, none] c r := by
  have hX := h.1
  by_cases hl : 0 ≤ l ∧ l < 4
  · obtain ⟨l0, l3⟩ := hl
    obtain ⟨w1, w2, w3, w4, w5, w6⟩ := h.2.2.2.2.2.2.2.2.1
    have lb := w6 l l0 l3
    obtain ⟨S', sw', em', F, hR⟩ := p_X1 (L := L) h (c 146) (c 147) (c 148)
    rw [txi] at F
    have K := s_cpy L c S' sw' em' hX
    have z := cpw_144 h.2.2.2.2.2.2.2.2.2.1
    have ci : cpw c = mset (cpw c) 144 l (c 135 l) := (ms_id _ _ _ _ (by rw [z.1])).symm
    obtain ⟨y', S2, sw2, em2, A⟩ := ma_X (L := L) h (pr (c 135) (c 136) (c 134 2) (c 134 3)) l l0 l3 (30 - c 135 l).toNat 30 (c 135 l) S' sw' em' (by omega) (by omega)
    rw [← ci] at A
    obtain ⟨fl, fw, M⟩ := p_M1 (L := L) h
    have O := s_opens L (mset r 149 0 0) (MP.t h.2.1)
    obtain ⟨t3, fl3, fw3, B⟩ := ma_M (L := L) h (pr (c 135) (c 136) (c 134 2) (c 134 3)) l l0 l3 (Int.le_refl _) (30 - c 135 l).toNat 30 (pt (c 135) (c 136) (c 134 2) (c 134 3)) fl fw (by omega) (by omega)
    generalize mf (fun x => pr (up (c 135) l x) (c 136) (c 134 2) (c 134 3)) (pr (c 135) (c 136) (c 134 2) (c 134 3)) 30 (30 - c 135 l).toNat = V at *
    have P := MP.op h.2.1
    have C := s_closes L (rm (mset (ops (mset r 149 0 0)) 167 l V) t3 fl3 fw3) ((P.s 167 l V (by omega)).rm _ _ _)
    have p37 : ∀ x t fl fw, rm (mset (ops (mset r 149 0 0)) 167 l x) t fl fw 149 37 = 167 := fun x t fl fw => rp_37 (P.s 167 l x (by omega)) t fl fw
    have q37 : ∀ t fl fw, rm (ops (mset r 149 0 0)) t fl fw 149 37 = 167 := fun t fl fw => rp_37 P t fl fw
    have g7 : ∀ x t fl fw, rm (mset (ops (mset r 149 0 0)) 167 l x) t fl fw 167 l = x := fun x t fl fw => by rw [rm_b _ _ _ _ _ (by omega) (by omega), ms_eq]
    have u7 : ∀ (r : MM) t fl fw k v, mset (rm r t fl fw) 167 k v = rm (mset r 167 k v) t fl fw := fun r t fl fw k v => ru_b _ _ _ _ _ _ _ (by omega) (by omega)
    have kc : keC c (tm (mset (cpw c) 144 l y') 146 S2 sw2 em2) ∧ FX c (tm (mset (cpw c) 144 l y') 146 S2 sw2 em2) := by
      refine keC.pap (fun b hb => cy_b l y' b hb) ?_ (fun j hj => ?_)
      · rw [ms_row _ _ _ _ _ (by omega), cpw_143, cpw_143]; exact ⟨rfl, rfl⟩
      · rw [ms_nk _ _ _ _ _ _ (by omega), ms_row _ _ _ _ _ (by omega)]
        unfold cpw
        rw [if_neg (by omega), if_neg (by omega), if_neg (by omega), if_neg (by omega), if_neg (by omega), if_neg (by omega), if_neg (by omega), if_neg (by omega)]
        exact ⟨rfl, rfl⟩
    have kq : keR r (cls (rm (mset (ops (mset r 149 0 0)) 167 l V) t3 fl3 fw3)) ∧ FM r (cls (rm (mset (ops (mset r 149 0 0)) 167 l V) t3 fl3 fw3)) := by
      refine keR.pap h.2.2.2.2.2.2.2.2.2.2.2.2.1 (fun b b1 b2 b3 => ms_row _ _ _ _ _ b2) (fun j hj => ?_) (fun k hk => ?_)
      · rw [ms_nk _ _ _ _ _ _ (by omega), ms_row _ _ _ _ _ (by omega), ops_b _ _ (by omega) (by omega) (by omega) (by omega), ops_b _ _ (by omega) (by omega) (by omega) (by omega)]; exact ⟨rfl, rfl⟩
      · rw [ms_row _ _ _ _ _ (by omega), ops_k _ _ (by omega), if_neg (by omega)]
    refine CALL.tell h V (tm (mset (cpw c) 144 l y') 146 S2 sw2 em2) (cls (rm (mset (ops (mset r 149 0 0)) 167 l V) t3 fl3 fw3)) ?_ ?_ kc.1 kq.1 kc.2 kq.2
    · simp only [xe_141_0, xe_141_1, xe_141_4, xe_141_7, xe_141_9, xe_141_10, xe_141_11, xe_141_14, xe_141_15, xe_141_18, xe_141_21 _ (some (vI _)) _ _ _ _ _ _ rfl, xe_141_21 _ (some (vR _)) _ _ _ _ _ _ rfl, xe_141_21 _ none _ _ _ _ _ _ rfl, xe_141_22, xe_141_23, xe_141_26, xe_141_27, xe_141_30, xe_141_33, xe_141_35 _ _ (some (vI _)) _ _ _ _ _ rfl, xe_141_35 _ _ (some (vR _)) _ _ _ _ _ rfl, xe_141_35 _ _ none _ _ _ _ _ rfl, ite_self, mm_nL_I, mm_nL_R, mm_nL_0, Option.bind_some, Option.bind_none, bnd_ite, Option.toList_some, Option.toList_none, List.cons_append, List.nil_append, mm_cats_nil, mm_cats_I, mm_cats_L, mm_cats_R, if_true, if_false, true_and, and_true, false_and, and_false, not_true_eq_false, not_false_eq_true, Int.reduceLE, Int.reduceLT, Int.reduceEq, Int.reduceNe, Int.reduceNeg, Int.reduceAdd, Int.reduceSub, Int.reduceMul, Nat.reduceAdd, Nat.reduceLeDiff, true_or, or_true, false_or, or_false, reduceIte, k_10, k_134, k_143, k_146, tx_10, tx_134, sx_10_8 hX, sx_10_11 hX, sx_10_12 hX, s_isLaneX, bi, l0, l3, F, K]
      exact A
    · have st : ev 238 0 [some (vR 149), some (vI l), none, none] [] r (g_1 L) = ev 238 32 [some (vR 149), some (vI l), some (vI (pr (c 135) (c 136) (c 134 2) (c 134 3))), none] [] (rm (mset (ops (mset r 149 0 0)) 167 l 30) (pt (c 135) (c 136) (c 134 2) (c 134 3)) fl fw) (g_1 L) := by
        simp only [xe_238_0, xe_238_1, xe_238_2, xe_238_5, xe_238_6, xe_238_9, xe_238_12, xe_238_14, xe_238_15, xe_238_16, xe_238_19, xe_238_20, xe_238_23 _ (some (vI _)) _ _ _ _ _ _ rfl, xe_238_23 _ (some (vR _)) _ _ _ _ _ _ rfl, xe_238_23 _ none _ _ _ _ _ _ rfl, xe_238_24, xe_238_25, xe_238_28, xe_238_29, xe_238_31, ite_self, mm_nL_I, mm_nL_R, mm_nL_0, Option.bind_some, Option.bind_none, bnd_ite, Option.toList_some, Option.toList_none, List.cons_append, List.nil_append, mm_cats_nil, mm_cats_I, mm_cats_L, mm_cats_R, if_true, if_false, true_and, and_true, false_and, and_false, not_true_eq_false, not_false_eq_true, Int.reduceLE, Int.reduceLT, Int.reduceEq, Int.reduceNe, Int.reduceNeg, Int.reduceAdd, Int.reduceSub, Int.reduceMul, Nat.reduceAdd, Nat.reduceLeDiff, true_or, or_true, false_or, or_false, reduceIte, k_149, k_167, l_167, s_isLaneM, bi, l0, l3, O, M, q37, u7]
      rw [st, B]
      simp only [xe_238_53, xe_238_54, xe_238_57, xe_238_58, xe_238_59 _ _ (some (vI _)) _ _ _ _ _ rfl, xe_238_59 _ _ (some (vR _)) _ _ _ _ _ rfl, xe_238_59 _ _ none _ _ _ _ _ rfl, xe_238_60, xe_238_61, xe_238_64, xe_238_65, ite_self, mm_nL_I, mm_nL_R, mm_nL_0, Option.bind_some, Option.bind_none, bnd_ite, Option.toList_some, Option.toList_none, List.cons_append, List.nil_append, mm_cats_nil, mm_cats_I, mm_cats_L, mm_cats_R, if_true, if_false, true_and, and_true, false_and, and_false, not_true_eq_false, not_false_eq_true, Int.reduceLE, Int.reduceLT, Int.reduceEq, Int.reduceNe, Int.reduceNeg, Int.reduceAdd, Int.reduceSub, Int.reduceMul, Nat.reduceAdd, Nat.reduceLeDiff, true_or, or_true, false_or, or_false, reduceIte, k_149, k_167, l_167, l0, l3, p37, g7, C]
  · refine CALL.ask h (-2) ?_ ?_
    · simp only [xe_141_0, xe_141_1, xe_141_4, xe_141_7, xe_141_9, xe_141_10, xe_141_11, xe_141_14, xe_141_15, xe_141_18, xe_141_21 _ (some (vI _)) _ _ _ _ _ _ rfl, xe_141_21 _ (some (vR _)) _ _ _ _ _ _ rfl, xe_141_21 _ none _ _ _ _ _ _ rfl, xe_141_22, xe_141_23, xe_141_26, xe_141_27, xe_141_30, xe_141_33, xe_141_35 _ _ (some (vI _)) _ _ _ _ _ rfl, xe_141_35 _ _ (some (vR _)) _ _ _ _ _ rfl, xe_141_35 _ _ none _ _ _ _ _ rfl, ite_self, mm_nL_I, mm_nL_R, mm_nL_0, Option.bind_some, Option.bind_none, bnd_ite, Option.toList_some, Option.toList_none, List.cons_append, List.nil_append, mm_cats_nil, mm_cats_I, mm_cats_L, mm_cats_R, if_true, if_false, true_and, and_true, false_and, and_false, not_true_eq_false, not_false_eq_true, Int.reduceLE, Int.reduceLT, Int.reduceEq, Int.reduceNe, Int.reduceNeg, Int.reduceAdd, Int.reduceSub, Int.reduceMul, Nat.reduceAdd, Nat.reduceLeDiff, true_or, or_true, false_or, or_false, reduceIte, s_isLaneX, bi, hl]
    · simp only [xe_238_0, xe_238_1, xe_238_2, xe_238_5, xe_238_6, xe_238_9, xe_238_12, xe_238_14, xe_238_15, xe_238_16, xe_238_19, xe_238_20, xe_238_23 _ (some (vI _)) _ _ _ _ _ _ rfl, xe_238_23 _ (some (vR _)) _ _ _ _ _ _ rfl, xe_238_23 _ none _ _ _ _ _ _ rfl, xe_238_24, xe_238_25, xe_238_28, xe_238_29, xe_238_31, ite_self, mm_nL_I, mm_nL_R, mm_nL_0, Option.bind_some, Option.bind_none, bnd_ite, Option.toList_some, Option.toList_none, List.cons_append, List.nil_append, mm_cats_nil, mm_cats_I, mm_cats_L, mm_cats_R, if_true, if_false, true_and, and_true, false_and, and_false, not_true_eq_false, not_false_eq_true, Int.reduceLE, Int.reduceLT, Int.reduceEq, Int.reduceNe, Int.reduceNeg, Int.reduceAdd, Int.reduceSub, Int.reduceMul, Nat.reduceAdd, Nat.reduceLeDiff, true_or, or_true, false_or, or_false, reduceIte, k_149, s_isLaneM, bi, hl]
end CP
