/-! wire, begin, tries, shown, feed -/
section CW
variable {L : Int} {c r : MM}
theorem c_wire (l q : Int) (h : RR c r) : CALL L 129 [some (vR 10), some (vI l), some (vI q)] 214 [some (vR 149), some (vI l), some (vI q)] c r := by
  have hX := h.1
  have hM := h.2.1
  have m0 : ∀ j, ¬ j = 0 → mset r 149 0 0 149 j = r 149 j := fun j hj => ms_nk _ _ _ _ _ _ hj
  by_cases g : (l = 1 ∨ l = 2 ∨ l = 4) ∧ 0 ≤ q ∧ q ≤ 3
  · have T := TX.of (L := L) hX
    have k3 : mset (mset c 134 2 l) 134 3 q 134 = fun j => if j = 3 then q else if j = 2 then l else c 134 j := by
      funext j; rw [ms_sa, ms_sa]
    have hc1 : TX L (mset (mset c 134 2 l) 134 3 q) := by
      obtain ⟨T1, W, x8, x9, x10, j0, j1⟩ := T
      have a : ∀ b, ¬ b = 134 → mset (mset c 134 2 l) 134 3 q b = c b := fun b hb => by rw [ms_row _ _ _ _ _ hb, ms_row _ _ _ _ _ hb]
      unfold TX TP WP at *
      rw [a 137 (by omega), a 10 (by omega), a 140 (by omega), k3]
      exact ⟨T1, W, x8, x9, x10, j0, j1⟩
    have E := s_endT L _ hc1
    have f1 : ∀ (c : MM) k v, mset c 134 k v 10 = c 10 := fun c k v => ms_row _ _ _ _ _ (by omega)
    have f2 : ∀ (c : MM) k v, mset c 134 k v 1 = c 1 := fun c k v => ms_row _ _ _ _ _ (by omega)
    have S : Rst (enC (mset (mset c 134 2 l) 134 3 q)) := by
      unfold Rst; rw [enC_b _ _ (by omega), f2, f2]; exact h.2.2.1.1
    have K := s_roomOfX L l q _ S g.1 g.2.1 g.2.2
    have e1 : ev 129 0 [some (vR 10), some (vI l), some (vI q)] [] c (g_1 L) = some (some (vI (rom l q)), enC (mset (mset c 134 2 l) 134 3 q), g_1 L) := by
      simp only [xe_129_0, xe_129_1, xe_129_2, xe_129_5, xe_129_8, xe_129_10, xe_129_11, xe_129_12, xe_129_15, xe_129_16, xe_129_19, xe_129_20, xe_129_23, xe_129_24, xe_129_27, xe_129_28, xe_129_31, xe_129_32, xe_129_33, xe_129_36, ite_self, mm_nL_I, mm_nL_R, mm_nL_0, Option.bind_some, Option.bind_none, bnd_ite, Option.toList_some, Option.toList_none, List.cons_append, List.nil_append, mm_cats_nil, mm_cats_I, mm_cats_L, mm_cats_R, if_true, if_false, true_and, and_true, false_and, and_false, not_true_eq_false, not_false_eq_true, Int.reduceLE, Int.reduceLT, Int.reduceEq, Int.reduceNe, Int.reduceNeg, Int.reduceAdd, Int.reduceSub, Int.reduceMul, Nat.reduceAdd, Nat.reduceLeDiff, true_or, or_true, false_or, or_false, reduceIte, k_10, k_134, sx_10_8 hX, s_isLinkX, bi, g, f1, E, K]
    have P1 : MP (mset (mset (mset r 149 0 0) 149 31 l) 149 32 q) := by
      have := MP.of hM
      have a : ∀ j, ¬ j = 0 → ¬ j = 31 → ¬ j = 32 → mset (mset (mset r 149 0 0) 149 31 l) 149 32 q 149 j = r 149 j := fun j h1 h2 h3 => by rw [ms_nk _ _ _ _ _ _ h3, ms_nk _ _ _ _ _ _ h2, m0 _ h1]
      unfold MP at *
      rw [a _ (by omega) (by omega) (by omega), a _ (by omega) (by omega) (by omega), a _ (by omega) (by omega) (by omega), a _ (by omega) (by omega) (by omega), a _ (by omega) (by omega) (by omega), a _ (by omega) (by omega) (by omega), a _ (by omega) (by omega) (by omega)]; exact this
    have D := s_ends L (mset (mset (mset r 149 0 0) 149 31 l) 149 32 q 149 43) (mset (mset (mset r 149 0 0) 149 31 l) 149 32 q 149 44) _ (mset (mset (mset r 149 0 0) 149 31 l) 149 32 q 165) P1
    rw [rm_id] at D
    have KM := fun μ => s_roomOfM l q μ (g_1 L) g.1 g.2.1 g.2.2
    have e2 := show ev 214 0 [some (vR 149), some (vI l), some (vI q)] [] r (g_1 L) = some (some (vI (rom l q)), _, g_1 L) by
      simp only [xe_214_0, xe_214_1, xe_214_2, xe_214_5, xe_214_6, xe_214_7, xe_214_10, xe_214_13, xe_214_15, xe_214_16, xe_214_17, xe_214_18, xe_214_21, xe_214_22, xe_214_23, xe_214_26, xe_214_27, xe_214_30, xe_214_31, xe_214_32, xe_214_35, ite_self, mm_nL_I, mm_nL_R, mm_nL_0, Option.bind_some, Option.bind_none, bnd_ite, Option.toList_some, Option.toList_none, List.cons_append, List.nil_append, mm_cats_nil, mm_cats_I, mm_cats_L, mm_cats_R, if_true, if_false, true_and, and_true, false_and, and_false, not_true_eq_false, not_false_eq_true, Int.reduceLE, Int.reduceLT, Int.reduceEq, Int.reduceNe, Int.reduceNeg, Int.reduceAdd, Int.reduceSub, Int.reduceMul, Nat.reduceAdd, Nat.reduceLeDiff, true_or, or_true, false_or, or_false, reduceIte, k_149, s_isLinkM, bi, g, D, KM]
      rfl
    have rk : ∀ fl fw k, ¬ k = 0 → ¬ k = 31 → ¬ k = 32 → ¬ k = 43 → ¬ k = 44 → rm (mset (mset (mset r 149 0 0) 149 31 l) 149 32 q) z0 fl fw 149 k = r 149 k := fun fl fw k h1 h2 h3 h4 h5 => by
      rw [rm_k _ _ _ _ _ h4 h5, ms_nk _ _ _ _ _ _ h3, ms_nk _ _ _ _ _ _ h2, m0 _ h1]
    have r31 : ∀ fl fw, rm (mset (mset (mset r 149 0 0) 149 31 l) 149 32 q) z0 fl fw 149 31 = l := fun fl fw => by
      rw [rm_k _ _ _ _ _ (by omega) (by omega), ms_nk _ _ _ _ _ _ (by omega), ms_eq]
    have r32 : ∀ fl fw, rm (mset (mset (mset r 149 0 0) 149 31 l) 149 32 q) z0 fl fw 149 32 = q := fun fl fw => by
      rw [rm_k _ _ _ _ _ (by omega) (by omega), ms_eq]
    have rb : ∀ fl fw b, ¬ b = 149 → ¬ b = 165 → rm (mset (mset (mset r 149 0 0) 149 31 l) 149 32 q) z0 fl fw b = r b := fun fl fw b h1 h2 => by
      rw [rm_b _ _ _ _ _ h2 h1, ms_row _ _ _ _ _ h1, ms_row _ _ _ _ _ h1, ms_row _ _ _ _ _ h1]
    have cb : ∀ b, ¬ (137 ≤ b ∧ b ≤ 140) → ¬ b = 134 → enC (mset (mset c 134 2 l) 134 3 q) b = c b := fun b h1 h2 => by
      rw [enC_b _ _ h1, ms_row _ _ _ _ _ h2, ms_row _ _ _ _ _ h2]
    have c4 : enC (mset (mset c 134 2 l) 134 3 q) 134 = fun j => if j = 3 then q else if j = 2 then l else c 134 j := by rw [enC_b _ _ (by omega), k3]
    obtain ⟨w1, w2, w3, w4, w5, w6⟩ := h.2.2.2.2.2.2.2.2.1
    refine ⟨_, _, _, e1, e2, h.tr (fun a ha => cb a (by omega) (by omega)) (fun k hk => ⟨?_, ?_, ?_⟩) (fun a ha => rb _ _ a (by omega) (by omega)) (fun k hk => rk _ _ k (by omega) (by omega) (by omega) (by omega) (by omega)) ?_ ?_ (Rtr_end _ _ (fun j j0 j1 => ?_)), fun a ha => cb a (by omega) (by omega), fun a ha => rb _ _ a (by omega) (by omega)⟩
    · rw [c4]; rcases hk with rfl | rfl <;> rfl
    · rw [(enC_p _ k hk).1, ms_row _ _ _ _ _ (by omega), ms_row _ _ _ _ _ (by omega)]
    · rw [(enC_p _ k hk).2, ms_row _ _ _ _ _ (by omega), ms_row _ _ _ _ _ (by omega)]
    · unfold Rwi
      rw [c4, r31, r32, cb 135 (by omega) (by omega), cb 136 (by omega) (by omega), rb _ _ 167 (by omega) (by omega), rb _ _ 168 (by omega) (by omega)]
      exact ⟨rfl, rfl, g.1, g.2.1, g.2.2, w6⟩
    · refine h.2.2.2.2.2.2.2.2.2.1.ke (cb _ (by omega) (by omega)) (cb _ (by omega) (by omega)) (fun j _ => ?_) (rb _ _ _ (by omega) (by omega)) (rb _ _ _ (by omega) (by omega))
      rw [cb 144 (by omega) (by omega), cb 145 (by omega) (by omega)]; exact ⟨rfl, rfl⟩
    · rw [rm_t _ _ _ _ _ ⟨j0, j1⟩]; rfl
  · refine CALL.ask h (-3) ?_ ?_
    · simp only [xe_129_0, xe_129_1, xe_129_2, xe_129_5, xe_129_8, xe_129_10, xe_129_11, xe_129_12, xe_129_15, xe_129_16, xe_129_19, xe_129_20, xe_129_23, xe_129_24, xe_129_27, xe_129_28, xe_129_31, xe_129_32, xe_129_33, xe_129_36, ite_self, mm_nL_I, mm_nL_R, mm_nL_0, Option.bind_some, Option.bind_none, bnd_ite, Option.toList_some, Option.toList_none, List.cons_append, List.nil_append, mm_cats_nil, mm_cats_I, mm_cats_L, mm_cats_R, if_true, if_false, true_and, and_true, false_and, and_false, not_true_eq_false, not_false_eq_true, Int.reduceLE, Int.reduceLT, Int.reduceEq, Int.reduceNe, Int.reduceNeg, Int.reduceAdd, Int.reduceSub, Int.reduceMul, Nat.reduceAdd, Nat.reduceLeDiff, true_or, or_true, false_or, or_false, reduceIte, s_isLinkX, bi, g]
    · simp only [xe_214_0, xe_214_1, xe_214_2, xe_214_5, xe_214_6, xe_214_7, xe_214_10, xe_214_13, xe_214_15, xe_214_16, xe_214_17, xe_214_18, xe_214_21, xe_214_22, xe_214_23, xe_214_26, xe_214_27, xe_214_30, xe_214_31, xe_214_32, xe_214_35, ite_self, mm_nL_I, mm_nL_R, mm_nL_0, Option.bind_some, Option.bind_none, bnd_ite, Option.toList_some, Option.toList_none, List.cons_append, List.nil_append, mm_cats_nil, mm_cats_I, mm_cats_L, mm_cats_R, if_true, if_false, true_and, and_true, false_and, and_false, not_true_eq_false, not_false_eq_true, Int.reduceLE, Int.reduceLT, Int.reduceEq, Int.reduceNe, Int.reduceNeg, Int.reduceAdd, Int.reduceSub, Int.reduceMul, Nat.reduceAdd, Nat.reduceLeDiff, true_or, or_true, false_or, or_false, reduceIte, k_149, s_isLinkM, bi, g]
theorem Rt_beg (S : Int → Int) (la ra : Int) : Rt (sta S la ra) z0 z0 (bgt la ra) := by
  have f : ∀ j, 8 ≤ j → j < 24 → bgt la ra j = 0 := fun j h h' => fot_z _ j h h'
  refine ⟨rfl, rfl, rfl, rfl, rfl, rfl, rfl, rfl, fun l l0 l3 => ⟨(f _ (by omega) (by omega)).symm, (f _ (by omega) (by omega)).symm⟩, ?_, ?_, fun l l0 l3 => ⟨Or.inl (f _ (by omega) (by omega)), Or.inl (f _ (by omega) (by omega))⟩, fun l p0 l0 l3 => ⟨f _ (by omega) (by omega), f _ (by omega) (by omega)⟩⟩
  · show (0 : Int) = _
    rw [b4_cg (g := fun _ => false) (fun l l0 l3 => by rw [f (16 + l) (by omega) (by omega)]; rfl)]; rfl
  · show (0 : Int) = _
    rw [b4_cg (g := fun _ => false) (fun l l0 l3 => by rw [f (20 + l) (by omega) (by omega)]; rfl)]; rfl
theorem iv_beg (S : Int → Int) {la ra : Int} (n : la = 1 ∨ la = 2 ∨ la = 4) (q0 : 0 ≤ ra) (q3 : ra ≤ 3) : iv (sta S la ra) z0 z0 := by
  have i := ix_ok la
  have e : sta S la ra = ft (up (up (up (up (up S 2 1) 3 la) 4 ra) 10 0) 11 0) ∨ True := Or.inr trivial
  refine ⟨n, q0, q3, fun l _ _ => ⟨Int.le_refl 0, by show (0 : Int) ≤ 3; omega, Int.le_refl 0, by show (0 : Int) ≤ 3; omega⟩, Int.le_refl 0, by show (0 : Int) ≤ 10; omega, Int.le_refl 0, by show (0 : Int) ≤ 7; omega, Int.le_refl 0, by show (0 : Int) ≤ 6; omega, Int.le_refl 0, by show (0 : Int) ≤ 192; omega, Int.le_refl 0, by show (0 : Int) ≤ 12; omega, Or.inl rfl, fun _ => ⟨?_, ?_⟩, fun _ => ⟨by show (0 : Int) ≤ 9; omega, by show (0 : Int) ≤ 6; omega, rfl⟩, fun h => ?_⟩
  · show 0 + 4 * ix la + ra ≤ 11; omega
  · show (0 : Int) ≤ 16 * 0 + 0 + 0; omega
  · show (0 : Int) ≤ 5; omega
theorem c_begin (h : RR c r) : CALL L 130 [some (vR 10)] 217 [some (vR 149)] c r := by
  have hX := h.1
  have hM := h.2.1
  have m0 : ∀ j, ¬ j = 0 → mset r 149 0 0 149 j = r 149 j := fun j hj => ms_nk _ _ _ _ _ _ hj
  obtain ⟨w1, w2, w3, w4, w5, w6⟩ := h.2.2.2.2.2.2.2.2.1
  obtain ⟨T, W, x8, x9, x10, j0, j1⟩ := TX.of (L := L) hX
  have S := s_start 137 134 c (g_1 L) (c 137) (c 138) (c 139) T W (Or.inl (by omega))
  rw [tmi c] at S
  have t134 : ∀ S sw em, tm c 137 S sw em 134 = c 134 := fun S sw em => tm_b _ _ _ _ _ _ (by omega) (by omega) (by omega)
  have f1 : ∀ (c : MM) k v, mset c 140 k v 10 = c 10 := fun c k v => ms_row _ _ _ _ _ (by omega)
  have f2 : ∀ (c : MM) k v, mset c 140 k v 134 = c 134 := fun c k v => ms_row _ _ _ _ _ (by omega)
  have R1 : Rst (mset (mset (tm c 137 (sta (c 137) (c 134 2) (c 134 3)) z0 z0) 140 2 0) 140 3 0) := by
    unfold Rst; rw [ms_row _ _ _ _ _ (by omega), ms_row _ _ _ _ _ (by omega), tm_b _ _ _ _ _ _ (by omega) (by omega) (by omega)]; exact h.2.2.1.1
  have K := s_roomOfX L (c 134 2) (c 134 3) _ R1 w3 w4 w5
  have e1 : ev 130 0 [some (vR 10)] [] c (g_1 L) = some (some (vI (rom (c 134 2) (c 134 3))), tm (mset (mset c 140 2 0) 140 3 0) 137 (sta (c 137) (c 134 2) (c 134 3)) z0 z0, g_1 L) := by
    rw [tj_140, tj_140] at K
    simp only [xe_130_0, xe_130_1, xe_130_4, xe_130_5, xe_130_8, xe_130_11, xe_130_12, xe_130_15, xe_130_18, xe_130_19, xe_130_22, xe_130_25, xe_130_26, xe_130_29, xe_130_32, xe_130_35, ite_self, mm_nL_I, mm_nL_R, mm_nL_0, Option.bind_some, Option.bind_none, bnd_ite, Option.toList_some, Option.toList_none, List.cons_append, List.nil_append, mm_cats_nil, mm_cats_I, mm_cats_L, mm_cats_R, if_true, if_false, true_and, and_true, false_and, and_false, not_true_eq_false, not_false_eq_true, Int.reduceLE, Int.reduceLT, Int.reduceEq, Int.reduceNe, Int.reduceNeg, Int.reduceAdd, Int.reduceSub, Int.reduceMul, Nat.reduceAdd, Nat.reduceLeDiff, true_or, or_true, false_or, or_false, reduceIte, k_10, k_134, k_137, k_140, x8, x9, x10, S, s_jclr, tr_10, f1, f2, t134, tj_140, K]
    have u : ∀ (c : MM) S sw em, tm c 137 S sw em 134 = c 134 := fun c S sw em => tm_b _ _ _ _ _ _ (by omega) (by omega) (by omega)
    simp only [u, f2, f1, x8, k_134, xe_130_0, xe_130_1, xe_130_4, xe_130_5, xe_130_8, xe_130_11, xe_130_12, xe_130_15, xe_130_18, xe_130_19, xe_130_22, xe_130_25, xe_130_26, xe_130_29, xe_130_32, xe_130_35, ite_self, mm_nL_I, mm_nL_R, mm_nL_0, Option.bind_some, Option.bind_none, bnd_ite, Option.toList_some, Option.toList_none, List.cons_append, List.nil_append, mm_cats_nil, mm_cats_I, mm_cats_L, mm_cats_R, if_true, if_false, true_and, and_true, false_and, and_false, not_true_eq_false, not_false_eq_true, Int.reduceLE, Int.reduceLT, Int.reduceEq, Int.reduceNe, Int.reduceNeg, Int.reduceAdd, Int.reduceSub, Int.reduceMul, Nat.reduceAdd, Nat.reduceLeDiff, true_or, or_true, false_or, or_false, reduceIte, K]
  have P1 : MP (mset r 149 0 0) := by
    have := MP.of hM
    unfold MP at *
    rw [m0 _ (by omega), m0 _ (by omega), m0 _ (by omega), m0 _ (by omega), m0 _ (by omega), m0 _ (by omega), m0 _ (by omega)]; exact this
  have D := s_begins L (mset r 149 0 0 149 43) (mset r 149 0 0 149 44) _ (mset r 149 0 0 165) P1
  rw [rm_id, m0 31 (by omega), m0 32 (by omega), ← w1, ← w2] at D
  have KM := fun μ => s_roomOfM (c 134 2) (c 134 3) μ (g_1 L) w3 w4 w5
  have q31 : ∀ t fl fw, rm (mset r 149 0 0) t fl fw 149 31 = c 134 2 := fun t fl fw => by rw [rm_k _ _ _ _ _ (by omega) (by omega), m0 _ (by omega), w1]
  have q32 : ∀ t fl fw, rm (mset r 149 0 0) t fl fw 149 32 = c 134 3 := fun t fl fw => by rw [rm_k _ _ _ _ _ (by omega) (by omega), m0 _ (by omega), w2]
  have e2 := show ev 217 0 [some (vR 149)] [] r (g_1 L) = some (some (vI (rom (c 134 2) (c 134 3))), _, g_1 L) by
    simp only [xe_217_0, xe_217_1, xe_217_2, xe_217_5, xe_217_6, xe_217_9, xe_217_10, xe_217_13, xe_217_14, xe_217_17, xe_217_20, ite_self, mm_nL_I, mm_nL_R, mm_nL_0, Option.bind_some, Option.bind_none, bnd_ite, Option.toList_some, Option.toList_none, List.cons_append, List.nil_append, mm_cats_nil, mm_cats_I, mm_cats_L, mm_cats_R, if_true, if_false, true_and, and_true, false_and, and_false, not_true_eq_false, not_false_eq_true, Int.reduceLE, Int.reduceLT, Int.reduceEq, Int.reduceNe, Int.reduceNeg, Int.reduceAdd, Int.reduceSub, Int.reduceMul, Nat.reduceAdd, Nat.reduceLeDiff, true_or, or_true, false_or, or_false, reduceIte, k_149, D, q31, q32, KM]
    rfl
  have cb : ∀ S sw em b, ¬ (137 ≤ b ∧ b ≤ 140) → tm (mset (mset c 140 2 0) 140 3 0) 137 S sw em b = c b := fun S sw em b hb => by
    rw [tm_b _ _ _ _ _ _ (by omega) (by omega) (by omega), ms_row _ _ _ _ _ (by omega), ms_row _ _ _ _ _ (by omega)]
  have rb : ∀ t fl fw b, ¬ b = 149 → ¬ b = 165 → rm (mset r 149 0 0) t fl fw b = r b := fun t fl fw b h1 h2 => by
    rw [rm_b _ _ _ _ _ h2 h1, ms_row _ _ _ _ _ h1]
  refine ⟨_, _, _, e1, e2, h.tr (fun a ha => cb _ _ _ a (by omega)) (fun k hk => ⟨?_, ?_, ?_⟩) (fun a ha => rb _ _ _ a (by omega) (by omega)) (fun k hk => ?_) ?_ ?_ (Rtr_of ⟨Rt_beg _ _ _, ?_, ?_, fun k k0 k1 => ?_, fun k k0 k1 => ?_⟩ (iv_beg _ w3 w4 w5)), fun a ha => cb _ _ _ a (by omega), fun a ha => rb _ _ _ a (by omega) (by omega)⟩
  · rw [cb _ _ _ _ (by omega)]
  · rcases hk with rfl | rfl
    · rw [tm_0, ms_row _ _ _ _ _ (by omega), ms_row _ _ _ _ _ (by omega)]
    · rw [tm_1, ms_row _ _ _ _ _ (by omega), ms_row _ _ _ _ _ (by omega)]
  · rw [tm_b _ _ _ _ _ _ (by omega) (by omega) (by omega), ms_nk _ _ _ _ _ _ (by omega), ms_nk _ _ _ _ _ _ (by omega)]
  · rw [rm_k _ _ _ _ _ (by omega) (by omega), m0 _ (by omega)]
  · refine h.2.2.2.2.2.2.2.2.1.ke (cb _ _ _ _ (by omega)) (cb _ _ _ _ (by omega)) (cb _ _ _ _ (by omega)) ?_ ?_ (rb _ _ _ _ (by omega) (by omega)) (rb _ _ _ _ (by omega) (by omega))
    · rw [rm_k _ _ _ _ _ (by omega) (by omega), m0 _ (by omega)]
    · rw [rm_k _ _ _ _ _ (by omega) (by omega), m0 _ (by omega)]
  · refine h.2.2.2.2.2.2.2.2.2.1.ke (cb _ _ _ _ (by omega)) (cb _ _ _ _ (by omega)) (fun j _ => ?_) (rb _ _ _ _ (by omega) (by omega)) (rb _ _ _ _ (by omega) (by omega))
    rw [cb _ _ _ 144 (by omega), cb _ _ _ 145 (by omega)]; exact ⟨rfl, rfl⟩
  · rw [ms_nk _ _ _ _ _ _ (by omega), ms_eq]; rfl
  · rw [ms_eq]; rfl
  · have k1' : k < 0 := k1
    omega
  · have k1' : k < 0 := k1
    omega
theorem c_tries (n : Int) (h : RR c r) : CALL L 131 [some (vR 10), some (vI n), none, none] 227 [some (vR 149), some (vI n), none] c r := by
  have hX := h.1
  have hM := h.2.1
  have m0 : ∀ j, ¬ j = 0 → mset r 149 0 0 149 j = r 149 j := fun j hj => ms_nk _ _ _ _ _ _ hj
  have mr : ∀ b, ¬ b = 149 → mset r 149 0 0 b = r b := fun b hb => ms_row _ _ _ _ _ hb
  obtain ⟨T, W, x8, x9, x10, j0, j1⟩ := TX.of (L := L) hX
  have R := s_run 137 c (g_1 L) (c 137) (c 138) (c 139) T
  rw [tmi c] at R
  have P1 : MP (mset r 149 0 0) := by
    have := MP.of hM
    unfold MP at *
    rw [m0 _ (by omega), m0 _ (by omega), m0 _ (by omega), m0 _ (by omega), m0 _ (by omega), m0 _ (by omega), m0 _ (by omega)]; exact this
  have I := s_isTr L (mset r 149 0 0 149 43) (mset r 149 0 0 149 44) _ (mset r 149 0 0 165) P1
  rw [rm_id, mr 165 (by omega)] at I
  have hT := h.2.2.2.2.2.2.2.2.2.2.1
  have e0 : c 137 2 = r 165 0 := hT.1.1.1
  by_cases g : 1 ≤ n ∧ n ≤ 100
  · have g1 : ¬ n < 1 := by omega
    by_cases p : c 137 2 = 1 ∨ c 137 2 = 2
    · have p' : r 165 0 = 1 ∨ r 165 0 = 2 := by omega
      rw [if_pos p] at R
      rw [if_pos p'] at I
      have hi : iv (c 137) (c 138) (c 139) := by
        rcases hT.2 with hi | hi
        · exact hi
        · omega
      obtain ⟨w1, w2, w3, w4, w5, w6⟩ := h.2.2.2.2.2.2.2.2.1
      obtain ⟨z1, z2, z3⟩ := h.2.2.2.2.2.2.2.2.2.1
      have J0 : Jn c (mset r 149 0 0) (c 137) (c 138) (c 139) (r 165) := by
        unfold Jn; rw [mr 171 (by omega)]; exact hT.1
      obtain ⟨k', c', r', S', sw', em', t', fl', fw', u1, u2, u3, u4, u5, u6, u7, u8⟩ := tries_loop L n (c 134 3) (c 135) (c 136) g.2 (fun l l0 l3 => by have := w6 l l0 l3; omega) (fun l l0 l3 => by have := w6 l l0 l3; omega) w4 w5 n.toNat 0 none c (mset r 149 0 0) (c 137) (c 138) (c 139) (r 165) (mset r 149 0 0 149 43) (mset r 149 0 0 149 44) (by omega) (by omega) J0 hi ⟨T, W, x8, x9, x10, j0, j1⟩ rfl rfl rfl P1 (by rw [m0 _ (by omega)]; exact h.2.2.2.2.2.2.2.2.2.2.2.2.1) (by rw [mr _ (by omega)]; exact z1.symm) (by rw [mr _ (by omega)]; exact z2.symm) (by rw [m0 _ (by omega)]; exact w2.symm)
      rw [tmi c] at u1
      have rid : rm (mset r 149 0 0) (r 165) (mset r 149 0 0 149 43) (mset r 149 0 0 149 44) = mset r 149 0 0 := by
        have := rm_id (mset r 149 0 0)
        rw [mr 165 (by omega)] at this; exact this
      rw [rid] at u2
      have e1 : ev 131 0 [some (vR 10), some (vI n), none, none] [] c (g_1 L) = some (some (vI k'), tm c' 137 S' sw' em', g_1 L) := by
        rw [← u1]
        simp only [xe_131_0, xe_131_1, xe_131_2, xe_131_5, xe_131_6, xe_131_8, xe_131_11, xe_131_13, xe_131_14, xe_131_15, xe_131_18, xe_131_21, xe_131_24, xe_131_26, xe_131_27, xe_131_28 _ (some (vI _)) _ _ _ _ _ _ rfl, xe_131_28 _ (some (vR _)) _ _ _ _ _ _ rfl, xe_131_28 _ none _ _ _ _ _ _ rfl, ite_self, mm_nL_I, mm_nL_R, mm_nL_0, Option.bind_some, Option.bind_none, bnd_ite, Option.toList_some, Option.toList_none, List.cons_append, List.nil_append, mm_cats_nil, mm_cats_I, mm_cats_L, mm_cats_R, if_true, if_false, true_and, and_true, false_and, and_false, not_true_eq_false, not_false_eq_true, Int.reduceLE, Int.reduceLT, Int.reduceEq, Int.reduceNe, Int.reduceNeg, Int.reduceAdd, Int.reduceSub, Int.reduceMul, Nat.reduceAdd, Nat.reduceLeDiff, true_or, or_true, false_or, or_false, reduceIte, k_10, k_137, x9, R, g, g1]
      have e2 : ev 227 0 [some (vR 149), some (vI n), none] [] r (g_1 L) = some (some (vI k'), rm r' t' fl' fw', g_1 L) := by
        rw [← u2]
        simp only [xe_227_0, xe_227_1, xe_227_2, xe_227_5, xe_227_6, xe_227_7, xe_227_8, xe_227_11, xe_227_14, xe_227_17, xe_227_19, xe_227_20, xe_227_21, xe_227_24, xe_227_27, xe_227_29, xe_227_30, xe_227_31 _ (some (vI _)) _ _ _ _ _ rfl, xe_227_31 _ (some (vR _)) _ _ _ _ _ rfl, xe_227_31 _ none _ _ _ _ _ rfl, ite_self, mm_nL_I, mm_nL_R, mm_nL_0, Option.bind_some, Option.bind_none, bnd_ite, Option.toList_some, Option.toList_none, List.cons_append, List.nil_append, mm_cats_nil, mm_cats_I, mm_cats_L, mm_cats_R, if_true, if_false, true_and, and_true, false_and, and_false, not_true_eq_false, not_false_eq_true, Int.reduceLE, Int.reduceLT, Int.reduceEq, Int.reduceNe, Int.reduceNeg, Int.reduceAdd, Int.reduceSub, Int.reduceMul, Nat.reduceAdd, Nat.reduceLeDiff, true_or, or_true, false_or, or_false, reduceIte, k_149, I, s_isIn, bi, g]
      have cb : ∀ b, ¬ (137 ≤ b ∧ b ≤ 142) → tm c' 137 S' sw' em' b = c b := fun b hb => by
        rw [tm_b _ _ _ _ _ _ (by omega) (by omega) (by omega), u5 b (by omega) (by omega) (by omega)]
      have rb : ∀ b, ¬ b = 149 → ¬ b = 165 → ¬ b = 171 → rm r' t' fl' fw' b = r b := fun b h1 h2 h3 => by
        rw [rm_b _ _ _ _ _ h2 h1, u8 b h3, mr b h1]
      have rk : ∀ k, ¬ k = 0 → ¬ k = 43 → ¬ k = 44 → rm r' t' fl' fw' 149 k = r 149 k := fun k h1 h2 h3 => by
        rw [rm_k _ _ _ _ _ h2 h3, u8 149 (by omega), m0 k h1]
      refine ⟨_, _, _, e1, e2, h.tr (fun a ha => cb a (by omega)) (fun k hk => ⟨?_, ?_, ?_⟩) (fun a ha => rb a (by omega) (by omega) (by omega)) (fun k hk => rk k (by omega) (by omega) (by omega)) ?_ ?_ (Rtr_of u3 u4), fun a ha => cb a (by omega), fun a ha => rb a (by omega) (by omega) (by omega)⟩
      · rw [cb 134 (by omega)]
      · rcases hk with rfl | rfl
        · rw [tm_0, u5 _ (by omega) (by omega) (by omega)]
        · rw [tm_1, u5 _ (by omega) (by omega) (by omega)]
      · rw [tm_b _ _ _ _ _ _ (by omega) (by omega) (by omega)]
        rcases hk with rfl | rfl
        · exact u6
        · exact u7
      · exact h.2.2.2.2.2.2.2.2.1.ke (cb _ (by omega)) (cb _ (by omega)) (cb _ (by omega)) (rk _ (by omega) (by omega) (by omega)) (rk _ (by omega) (by omega) (by omega)) (rb _ (by omega) (by omega) (by omega)) (rb _ (by omega) (by omega) (by omega))
      · refine h.2.2.2.2.2.2.2.2.2.1.ke (cb _ (by omega)) (cb _ (by omega)) (fun j _ => ?_) (rb _ (by omega) (by omega) (by omega)) (rb _ (by omega) (by omega) (by omega))
        rw [cb 144 (by omega), cb 145 (by omega)]; exact ⟨rfl, rfl⟩
    · have p' : ¬ (r 165 0 = 1 ∨ r 165 0 = 2) := by omega
      rw [if_neg p] at R
      rw [if_neg p'] at I
      refine CALL.ask h (-5) ?_ ?_
      · simp only [xe_131_0, xe_131_1, xe_131_2, xe_131_5, xe_131_6, xe_131_8, xe_131_11, xe_131_13, xe_131_14, xe_131_15, xe_131_18, xe_131_21, xe_131_24, xe_131_26, xe_131_27, xe_131_28 _ (some (vI _)) _ _ _ _ _ _ rfl, xe_131_28 _ (some (vR _)) _ _ _ _ _ _ rfl, xe_131_28 _ none _ _ _ _ _ _ rfl, ite_self, mm_nL_I, mm_nL_R, mm_nL_0, Option.bind_some, Option.bind_none, bnd_ite, Option.toList_some, Option.toList_none, List.cons_append, List.nil_append, mm_cats_nil, mm_cats_I, mm_cats_L, mm_cats_R, if_true, if_false, true_and, and_true, false_and, and_false, not_true_eq_false, not_false_eq_true, Int.reduceLE, Int.reduceLT, Int.reduceEq, Int.reduceNe, Int.reduceNeg, Int.reduceAdd, Int.reduceSub, Int.reduceMul, Nat.reduceAdd, Nat.reduceLeDiff, true_or, or_true, false_or, or_false, reduceIte, k_10, k_137, x9, R, g, g1]
      · simp only [xe_227_0, xe_227_1, xe_227_2, xe_227_5, xe_227_6, xe_227_7, xe_227_8, xe_227_11, xe_227_14, xe_227_17, xe_227_19, xe_227_20, xe_227_21, xe_227_24, xe_227_27, xe_227_29, xe_227_30, xe_227_31 _ (some (vI _)) _ _ _ _ _ rfl, xe_227_31 _ (some (vR _)) _ _ _ _ _ rfl, xe_227_31 _ none _ _ _ _ _ rfl, ite_self, mm_nL_I, mm_nL_R, mm_nL_0, Option.bind_some, Option.bind_none, bnd_ite, Option.toList_some, Option.toList_none, List.cons_append, List.nil_append, mm_cats_nil, mm_cats_I, mm_cats_L, mm_cats_R, if_true, if_false, true_and, and_true, false_and, and_false, not_true_eq_false, not_false_eq_true, Int.reduceLE, Int.reduceLT, Int.reduceEq, Int.reduceNe, Int.reduceNeg, Int.reduceAdd, Int.reduceSub, Int.reduceMul, Nat.reduceAdd, Nat.reduceLeDiff, true_or, or_true, false_or, or_false, reduceIte, k_149, I, s_isIn, bi, g]
  · refine CALL.ask h (-3) ?_ ?_
    · by_cases g1 : n < 1
      · simp only [xe_131_0, xe_131_1, xe_131_2, xe_131_5, xe_131_6, xe_131_8, xe_131_11, xe_131_13, xe_131_14, xe_131_15, xe_131_18, xe_131_21, xe_131_24, xe_131_26, xe_131_27, xe_131_28 _ (some (vI _)) _ _ _ _ _ _ rfl, xe_131_28 _ (some (vR _)) _ _ _ _ _ _ rfl, xe_131_28 _ none _ _ _ _ _ _ rfl, ite_self, mm_nL_I, mm_nL_R, mm_nL_0, Option.bind_some, Option.bind_none, bnd_ite, Option.toList_some, Option.toList_none, List.cons_append, List.nil_append, mm_cats_nil, mm_cats_I, mm_cats_L, mm_cats_R, if_true, if_false, true_and, and_true, false_and, and_false, not_true_eq_false, not_false_eq_true, Int.reduceLE, Int.reduceLT, Int.reduceEq, Int.reduceNe, Int.reduceNeg, Int.reduceAdd, Int.reduceSub, Int.reduceMul, Nat.reduceAdd, Nat.reduceLeDiff, true_or, or_true, false_or, or_false, reduceIte, g1]
      · have g2 : ¬ n ≤ 100 := by omega
        simp only [xe_131_0, xe_131_1, xe_131_2, xe_131_5, xe_131_6, xe_131_8, xe_131_11, xe_131_13, xe_131_14, xe_131_15, xe_131_18, xe_131_21, xe_131_24, xe_131_26, xe_131_27, xe_131_28 _ (some (vI _)) _ _ _ _ _ _ rfl, xe_131_28 _ (some (vR _)) _ _ _ _ _ _ rfl, xe_131_28 _ none _ _ _ _ _ _ rfl, ite_self, mm_nL_I, mm_nL_R, mm_nL_0, Option.bind_some, Option.bind_none, bnd_ite, Option.toList_some, Option.toList_none, List.cons_append, List.nil_append, mm_cats_nil, mm_cats_I, mm_cats_L, mm_cats_R, if_true, if_false, true_and, and_true, false_and, and_false, not_true_eq_false, not_false_eq_true, Int.reduceLE, Int.reduceLT, Int.reduceEq, Int.reduceNe, Int.reduceNeg, Int.reduceAdd, Int.reduceSub, Int.reduceMul, Nat.reduceAdd, Nat.reduceLeDiff, true_or, or_true, false_or, or_false, reduceIte, g1, g2]
    · simp only [xe_227_0, xe_227_1, xe_227_2, xe_227_5, xe_227_6, xe_227_7, xe_227_8, xe_227_11, xe_227_14, xe_227_17, xe_227_19, xe_227_20, xe_227_21, xe_227_24, xe_227_27, xe_227_29, xe_227_30, xe_227_31 _ (some (vI _)) _ _ _ _ _ rfl, xe_227_31 _ (some (vR _)) _ _ _ _ _ rfl, xe_227_31 _ none _ _ _ _ _ rfl, ite_self, mm_nL_I, mm_nL_R, mm_nL_0, Option.bind_some, Option.bind_none, bnd_ite, Option.toList_some, Option.toList_none, List.cons_append, List.nil_append, mm_cats_nil, mm_cats_I, mm_cats_L, mm_cats_R, if_true, if_false, true_and, and_true, false_and, and_false, not_true_eq_false, not_false_eq_true, Int.reduceLE, Int.reduceLT, Int.reduceEq, Int.reduceNe, Int.reduceNeg, Int.reduceAdd, Int.reduceSub, Int.reduceMul, Nat.reduceAdd, Nat.reduceLeDiff, true_or, or_true, false_or, or_false, reduceIte, k_149, s_isIn, bi, g]
end CW
