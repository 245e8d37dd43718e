/-! calls that change the training -/
theorem RR.tr {c c' r r' : MM} (h : RR c r) (k1 : ∀ a, (0 ≤ a ∧ a < 134 ∨ 143 ≤ a ∧ a < 149) → c' a = c a) (p : ∀ k, (k = 0 ∨ k = 1) → c' 134 k = c 134 k ∧ c' 137 k = c 137 k ∧ c' 140 k = c 140 k) (q1 : ∀ a, (150 ≤ a ∧ a < 162) → r' a = r a) (q2 : ∀ k, ¬ (k = 0 ∨ k = 31 ∨ k = 32 ∨ k = 43 ∨ k = 44) → r' 149 k = r 149 k) (w : Rwi c' r') (z : Rz c' r') (t : Rtr c' r') : RR c' r' := by
  obtain ⟨h1, h2, h3, h4, h5, h6, h7, h8, h9, h10, h11, h12, h13, h14⟩ := h
  refine ⟨h1.cg fun a k hp => ?_, ?_, h3.ke (fun a ha => k1 a (by omega)) (q1 _ (by omega)) (q1 _ (by omega)), h4.ke (k1 _ (by omega)) (k1 _ (by omega)) (q2 _ (by omega)) (q1 _ (by omega)), h5.ke (k1 _ (by omega)) (k1 _ (by omega)) (k1 _ (by omega)) (q2 _ (by omega)) (q1 _ (by omega)) (q2 _ (by omega)) (q2 _ (by omega)), h6.ke (fun a ha => k1 a (by omega)) (fun a ha => q1 a (by omega)) (fun a ha => q2 a (by omega)), h7.ke (fun a ha => k1 a (by omega)) (fun a ha => q1 a (by omega)) (q2 _ (by omega)), h8.ke (by rw [k1 10 (by omega)]) (q2 _ (by omega)), w, z, t, h12.ke h7 (fun a ha => k1 a (by omega)), ?_, ?_⟩
  · have a1 := isP_row hp
    have a2 := isP_k hp
    by_cases ea : 134 ≤ a ∧ a ≤ 142
    · have e : a = 134 ∨ a = 137 ∨ a = 140 := by
        rcases a1 with a1 | a1
        · have := List.mem_cons.1 a1
          simp only [List.mem_cons, List.not_mem_nil, or_false] at a1
          omega
        · omega
      have k0 : 0 ≤ k := by
        rcases hp with ⟨q, hq, rfl, rfl⟩ | rfl | hp
        · revert q; decide
        · omega
        · omega
      rcases e with e | e | e
      · have := a2.2.2.2.2.2.2.2.2.1 e; rw [e]; exact (p k (by omega)).1
      · have := a2.2.2.2.2.2.2.2.2.2.1 e; rw [e]; exact (p k (by omega)).2.1
      · have := a2.2.2.2.2.2.2.2.2.2.2.1 e; rw [e]; exact (p k (by omega)).2.2
    · have : 0 ≤ a ∧ a < 149 := by
        rcases a1 with a1 | a1
        · simp only [List.mem_cons, List.not_mem_nil, or_false] at a1
          omega
        · omega
      rw [k1 a (by omega)]
  · intro q hq
    have t : ∀ q ∈ SMl, q.1 = 149 ∧ ¬ (q.2.1 = 0 ∨ q.2.1 = 31 ∨ q.2.1 = 32 ∨ q.2.1 = 43 ∨ q.2.1 = 44) := by decide
    have t := t q hq
    rw [← h2 q hq, t.1]; exact q2 _ t.2
  · rw [q2 42 (by omega)]; exact h13
  · unfold Rtx Rpl; rw [k1 132 (by omega), k1 46 (by omega)]; exact h14
theorem Rt.cg {S S' sw sw' em em' t t' : Int → Int} (h : Rt S sw em t) (a : ∀ j, 2 ≤ j → j ≤ 12 → S' j = S j) (b : ∀ l, 0 ≤ l → l < 4 → sw' l = sw l ∧ em' l = em l) (d : ∀ j, 0 ≤ j → j < 88 → t' j = t j) : Rt S' sw' em' t' := by
  obtain ⟨h2, h3, h4, h7, h9, h8, h10, h11, hs, h5, h6, hb, hz⟩ := h
  refine ⟨?_, ?_, ?_, ?_, ?_, ?_, ?_, ?_, fun l l0 l3 => ?_, ?_, ?_, fun l l0 l3 => ?_, fun l p0 l0 l3 => ?_⟩
  · rw [a _ (by omega) (by omega), d _ (by omega) (by omega)]; exact h2
  · rw [a _ (by omega) (by omega), d _ (by omega) (by omega)]; exact h3
  · rw [a _ (by omega) (by omega), d _ (by omega) (by omega)]; exact h4
  · rw [a _ (by omega) (by omega), d _ (by omega) (by omega)]; exact h7
  · rw [a _ (by omega) (by omega), d _ (by omega) (by omega)]; exact h9
  · rw [a _ (by omega) (by omega), d _ (by omega) (by omega)]; exact h8
  · rw [a _ (by omega) (by omega), d _ (by omega) (by omega)]; exact h10
  · rw [a _ (by omega) (by omega), d _ (by omega) (by omega)]; exact h11
  · rw [(b l l0 l3).1, (b l l0 l3).2, d _ (by omega) (by omega), d _ (by omega) (by omega)]; exact hs l l0 l3
  · rw [a _ (by omega) (by omega), h5]; exact b4_cg (fun l l0 l3 => by rw [d _ (by omega) (by omega)])
  · rw [a _ (by omega) (by omega), h6]; exact b4_cg (fun l l0 l3 => by rw [d _ (by omega) (by omega)])
  · rw [d _ (by omega) (by omega), d _ (by omega) (by omega)]; exact hb l l0 l3
  · rw [d 1 (by omega) (by omega)] at l0
    rw [d _ (by omega) (by omega), d _ (by omega) (by omega)]; exact hz l p0 l0 l3
theorem iv.cg {S S' sw sw' em em' : Int → Int} (h : iv S sw em) (a : ∀ j, 2 ≤ j → j ≤ 12 → S' j = S j) (b : ∀ l, 0 ≤ l → l < 4 → sw' l = sw l ∧ em' l = em l) : iv S' sw' em' := by
  unfold iv at *
  rw [a 2 (by omega) (by omega), a 3 (by omega) (by omega), a 4 (by omega) (by omega), a 7 (by omega) (by omega), a 8 (by omega) (by omega), a 9 (by omega) (by omega), a 10 (by omega) (by omega), a 11 (by omega) (by omega)]
  refine ⟨h.1, h.2.1, h.2.2.1, fun l l0 l3 => ?_, h.2.2.2.2⟩
  rw [(b l l0 l3).1, (b l l0 l3).2]; exact h.2.2.2.1 l l0 l3
theorem Rtr_of {c r : MM} {S sw em t : Int → Int} {fl fw : Int} (h : Jn c r S sw em t) (i : iv S sw em) : Rtr (tm c 137 S sw em) (rm r t fl fw) := by
  have a : ∀ j, 2 ≤ j → j ≤ 12 → tm c 137 S sw em 137 j = S j := fun j j0 j1 => tm_k _ _ _ _ _ _ ⟨j0, j1⟩
  have b : ∀ l, 0 ≤ l → l < 4 → tm c 137 S sw em 138 l = sw l ∧ tm c 137 S sw em 139 l = em l := fun l l0 l3 => ⟨tm_s c 137 S sw em l l0 l3, tm_m c 137 S sw em l l0 l3⟩
  have d : ∀ j, 0 ≤ j → j < 88 → rm r t fl fw 165 j = t j := fun j j0 j1 => rm_t _ _ _ _ _ ⟨j0, j1⟩
  have i' := i.cg a b
  obtain ⟨n, q0, q3, hl, a0, a1, b0, b1, c0, c1, t0, t1, f0, f1, _⟩ := i
  refine ⟨⟨h.1.cg a b d, ?_, ?_, ?_, ?_⟩, Or.inl i'⟩
  · rw [tm_b _ _ _ _ _ _ (by omega) (by omega) (by omega), d _ (by omega) (by omega)]; exact h.2.1
  · rw [tm_b _ _ _ _ _ _ (by omega) (by omega) (by omega), d _ (by omega) (by omega)]; exact h.2.2.1
  · rw [tm_b _ _ _ _ _ _ (by omega) (by omega) (by omega), d _ (by omega) (by omega), rm_b _ _ _ _ _ (by omega) (by omega)]; exact h.2.2.2.1
  · intro k k0 k1
    have e7 : S 11 = t 7 := h.1.2.2.2.2.2.2.2.1
    rw [d _ (by omega) (by omega)] at k1
    rw [tm_b _ _ _ _ _ _ (by omega) (by omega) (by omega), tm_b _ _ _ _ _ _ (by omega) (by omega) (by omega), d _ (by omega) (by omega), d _ (by omega) (by omega), d _ (by omega) (by omega), d _ (by omega) (by omega), d _ (by omega) (by omega)]
    exact h.2.2.2.2 k k0 k1
theorem Rtr0 {c r : MM} (a : ∀ j, 2 ≤ j → j ≤ 11 → c 137 j = 0) (b : ∀ l, 0 ≤ l → l < 4 → c 138 l = 0 ∧ c 139 l = 0) (e2 : c 140 2 = 0) (e3 : c 140 3 = 0) (d : ∀ j, 0 ≤ j → j < 88 → r 165 j = 0) : Rtr c r := by
  refine ⟨⟨⟨?_, ?_, ?_, ?_, ?_, ?_, ?_, ?_, fun l l0 l3 => ?_, ?_, ?_, fun l l0 l3 => ?_, fun l p0 l0 l3 => ?_⟩, ?_, ?_, ?_, ?_⟩, Or.inr ⟨a 2 (by omega) (by omega), a 10 (by omega) (by omega), a 11 (by omega) (by omega)⟩⟩
  · rw [a _ (by omega) (by omega), d _ (by omega) (by omega)]
  · rw [a _ (by omega) (by omega), d _ (by omega) (by omega)]
  · rw [a _ (by omega) (by omega), d _ (by omega) (by omega)]
  · rw [a _ (by omega) (by omega), d _ (by omega) (by omega)]
  · rw [a _ (by omega) (by omega), d _ (by omega) (by omega)]
  · rw [a _ (by omega) (by omega), d _ (by omega) (by omega)]
  · rw [a _ (by omega) (by omega), d _ (by omega) (by omega)]
  · rw [a _ (by omega) (by omega), d _ (by omega) (by omega)]
  · rw [(b l l0 l3).1, (b l l0 l3).2, d _ (by omega) (by omega), d _ (by omega) (by omega)]; exact ⟨rfl, rfl⟩
  · rw [a _ (by omega) (by omega), b4_cg (g := fun _ => false) (fun l l0 l3 => by rw [d _ (by omega) (by omega)]; rfl)]; rfl
  · rw [a _ (by omega) (by omega), b4_cg (g := fun _ => false) (fun l l0 l3 => by rw [d _ (by omega) (by omega)]; rfl)]; rfl
  · exact ⟨Or.inl (d _ (by omega) (by omega)), Or.inl (d _ (by omega) (by omega))⟩
  · exact ⟨d _ (by omega) (by omega), d _ (by omega) (by omega)⟩
  · rw [e2, d _ (by omega) (by omega)]
  · rw [e3, d _ (by omega) (by omega)]
  · intro k k0 k1; rw [d _ (by omega) (by omega)] at k1; omega
  · intro k k0 k1; rw [d _ (by omega) (by omega)] at k1; omega
theorem MP.of {r : MM} (h : SM r) : MP r := ⟨sm_149_35 h, sm_149_36 h, sm_149_37 h, sm_149_38 h, sm_149_39 h, sm_149_40 h, sm_149_41 h⟩
/-- the end of a training, of the class -/
def enC (c : MM) : MM := mset (mset (tm c 137 (ft (up (up (up (up (up (c 137) 2 0) 3 0) 4 0) 10 0) 11 0)) z0 z0) 140 2 0) 140 3 0
theorem s_jclr (L : Int) (c : MM) : ev 20 0 [some (vR 140)] [] c (g_1 L) = some (none, mset (mset c 140 2 0) 140 3 0, g_1 L) := by
  simp only [xe_20_0, xe_20_1, xe_20_2, xe_20_5, xe_20_6, xe_20_7, xe_20_10, ite_self, mm_nL_I, mm_nL_R, mm_nL_0, Option.bind_some, Option.bind_none, bnd_ite, Option.toList_some, Option.toList_none, List.cons_append, List.nil_append, mm_cats_nil, mm_cats_I, mm_cats_L, mm_cats_R, if_true, if_false, true_and, and_true, false_and, and_false, not_true_eq_false, not_false_eq_true, Int.reduceLE, Int.reduceLT, Int.reduceEq, Int.reduceNe, Int.reduceNeg, Int.reduceAdd, Int.reduceSub, Int.reduceMul, Nat.reduceAdd, Nat.reduceLeDiff, true_or, or_true, false_or, or_false, reduceIte, k_140]
theorem s_endT (L : Int) (c : MM) (hX : TX L c) : ev 139 0 [some (vR 10)] [] c (g_1 L) = some (none, enC c, g_1 L) := by
  obtain ⟨T, W, x8, x9, x10, j0, j1⟩ := hX
  have S := s_stop 137 c (g_1 L) (c 137) (c 138) (c 139) T
  rw [tmi c] at S
  unfold enC
  simp only [xe_139_0, xe_139_1, xe_139_4, xe_139_7, xe_139_8, xe_139_11, xe_139_14, ite_self, mm_nL_I, mm_nL_R, mm_nL_0, Option.bind_some, Option.bind_none, bnd_ite, Option.toList_some, Option.toList_none, List.cons_append, List.nil_append, mm_cats_nil, mm_cats_I, mm_cats_L, mm_cats_R, if_true, if_false, true_and, and_true, false_and, and_false, not_true_eq_false, not_false_eq_true, Int.reduceLE, Int.reduceLT, Int.reduceEq, Int.reduceNe, Int.reduceNeg, Int.reduceAdd, Int.reduceSub, Int.reduceMul, Nat.reduceAdd, Nat.reduceLeDiff, true_or, or_true, false_or, or_false, reduceIte, k_10, k_137, k_140, x9, x10, S, s_jclr, tr_10]
theorem enC_b (c : MM) (b : Int) (h : ¬ (137 ≤ b ∧ b ≤ 140)) : enC c b = c b := by
  unfold enC; rw [ms_row _ _ _ _ _ (by omega), ms_row _ _ _ _ _ (by omega), tm_b _ _ _ _ _ _ (by omega) (by omega) (by omega)]
theorem enC_p (c : MM) (k : Int) (h : k = 0 ∨ k = 1) : enC c 137 k = c 137 k ∧ enC c 140 k = c 140 k := by
  unfold enC
  refine ⟨?_, ?_⟩
  · rw [ms_row _ _ _ _ _ (by omega), ms_row _ _ _ _ _ (by omega)]
    rcases h with rfl | rfl
    · rw [tm_0]
    · rw [tm_1]
  · rw [ms_nk _ _ _ _ _ _ (by omega), ms_nk _ _ _ _ _ _ (by omega), tm_b _ _ _ _ _ _ (by omega) (by omega) (by omega)]
theorem Rtr_end (c r : MM) (d : ∀ j, 0 ≤ j → j < 88 → r 165 j = 0) : Rtr (enC c) r := by
  refine Rtr0 (fun j j0 j1 => ?_) (fun l l0 l3 => ?_) ?_ ?_ d
  · unfold enC
    rw [ms_row _ _ _ _ _ (by omega), ms_row _ _ _ _ _ (by omega), tm_k _ _ _ _ _ _ ⟨j0, by omega⟩]
    have q : j = 2 ∨ j = 3 ∨ j = 4 ∨ j = 5 ∨ j = 6 ∨ j = 7 ∨ j = 8 ∨ j = 9 ∨ j = 10 ∨ j = 11 := by omega
    rcases q with rfl | rfl | rfl | rfl | rfl | rfl | rfl | rfl | rfl | rfl <;> rfl
  · unfold enC
    rw [ms_row _ _ _ _ _ (by omega), ms_row _ _ _ _ _ (by omega), ms_row _ _ _ _ _ (by omega), ms_row _ _ _ _ _ (by omega)]
    exact ⟨tm_s c 137 _ _ _ l l0 l3, tm_m c 137 _ _ _ l l0 l3⟩
  · unfold enC; rw [ms_nk _ _ _ _ _ _ (by omega), ms_eq]
  · unfold enC; rw [ms_eq]
section CT
variable {L : Int} {c r : MM}
theorem c_lane (l x y : Int) (h : RR c r) : CALL L 128 [some (vR 10), some (vI l), some (vI x), some (vI y), none] 213 [some (vR 149), some (vI l), some (vI x), some (vI y), none] c r := by
  have hX := h.1
  have hM := h.2.1
  have m0 : ∀ j, ¬ j = 0 → mset r 149 0 0 149 j = r 149 j := fun j hj => ms_nk _ _ _ _ _ _ hj
  have n37 : mset r 149 0 0 149 37 = 167 := by rw [m0 _ (by omega)]; exact sm_149_37 hM
  have n38 : mset r 149 0 0 149 38 = 168 := by rw [m0 _ (by omega)]; exact sm_149_38 hM
  by_cases hl : 0 ≤ l ∧ l < 4
  · by_cases hx : (0 ≤ x ∧ x ≤ 30) ∧ (0 ≤ y ∧ y ≤ 12)
    · have hc1 : TX L (mset (mset c 135 l x) 136 l y) := (TX.of hX).cg (by rw [ms_row _ _ _ _ _ (by omega), ms_row _ _ _ _ _ (by omega)]) (by rw [ms_row _ _ _ _ _ (by omega), ms_row _ _ _ _ _ (by omega)]) (by rw [ms_row _ _ _ _ _ (by omega), ms_row _ _ _ _ _ (by omega)]) (by rw [ms_row _ _ _ _ _ (by omega), ms_row _ _ _ _ _ (by omega)]) (by rw [ms_row _ _ _ _ _ (by omega), ms_row _ _ _ _ _ (by omega)])
      have E := s_endT L _ hc1
      have f1 : ∀ (c : MM) k v, mset c 135 k v 10 = c 10 := fun c k v => ms_row _ _ _ _ _ (by omega)
      have f2 : ∀ (c : MM) k v, mset c 135 k v 134 = c 134 := fun c k v => ms_row _ _ _ _ _ (by omega)
      have z1 : ¬ x < 0 := by omega
      have z2 : ¬ 30 < x := by omega
      have z3 : ¬ y < 0 := by omega
      have e1 : ev 128 0 [some (vR 10), some (vI l), some (vI x), some (vI y), none] [] c (g_1 L) = some (some (vI (c 135 l)), enC (mset (mset c 135 l x) 136 l y), g_1 L) := by
        simp only [xe_128_0, xe_128_1, xe_128_4, xe_128_7, xe_128_9, xe_128_10, xe_128_11, xe_128_14, xe_128_15, xe_128_17, xe_128_20, xe_128_21, xe_128_24, xe_128_25, xe_128_27, xe_128_30, xe_128_32, xe_128_33, xe_128_34, xe_128_37, xe_128_40, xe_128_41, xe_128_42 _ _ _ (some (vI _)) _ _ _ _ _ rfl, xe_128_42 _ _ _ (some (vR _)) _ _ _ _ _ rfl, xe_128_42 _ _ _ none _ _ _ _ _ rfl, xe_128_44, xe_128_45, xe_128_48, xe_128_51, xe_128_52, xe_128_53, xe_128_54, xe_128_55, xe_128_58, xe_128_61, xe_128_62, xe_128_63, xe_128_64, xe_128_65, xe_128_68, xe_128_70, ite_self, mm_nL_I, mm_nL_R, mm_nL_0, Option.bind_some, Option.bind_none, bnd_ite, Option.toList_some, Option.toList_none, List.cons_append, List.nil_append, mm_cats_nil, mm_cats_I, mm_cats_L, mm_cats_R, if_true, if_false, true_and, and_true, false_and, and_false, not_true_eq_false, not_false_eq_true, Int.reduceLE, Int.reduceLT, Int.reduceEq, Int.reduceNe, Int.reduceNeg, Int.reduceAdd, Int.reduceSub, Int.reduceMul, Nat.reduceAdd, Nat.reduceLeDiff, true_or, or_true, false_or, or_false, reduceIte, k_10, k_134, k_135, l_135, k_136, l_136, sx_10_8 hX, sx_134_0 hX, sx_134_1 hX, s_isLaneX, bi, hl, hx, f1, f2, z1, z2, z3, E]
      have P1 : MP (mset (mset (mset r 149 0 0) 167 l x) 168 l y) := by
        have := MP.of hM
        unfold MP at *
        rw [ms_row _ _ _ _ _ (by omega), ms_row _ _ _ _ _ (by omega), m0 _ (by omega), m0 _ (by omega), m0 _ (by omega), m0 _ (by omega), m0 _ (by omega), m0 _ (by omega), m0 _ (by omega)]; exact this
      have D := s_ends L (mset (mset (mset r 149 0 0) 167 l x) 168 l y 149 43) (mset (mset (mset r 149 0 0) 167 l x) 168 l y 149 44) _ (mset (mset (mset r 149 0 0) 167 l x) 168 l y 165) P1
      rw [rm_id] at D
      have g1 : ∀ (c : MM) k v, mset c 167 k v 149 = c 149 := fun c k v => ms_row _ _ _ _ _ (by omega)
      have g2 : mset r 149 0 0 167 = r 167 := ms_row _ _ _ _ _ (by omega)
      have e2 := show ev 213 0 [some (vR 149), some (vI l), some (vI x), some (vI y), none] [] r (g_1 L) = some (some (vI (r 167 l)), _, g_1 L) by
        simp only [xe_213_0, xe_213_1, xe_213_2, xe_213_5, xe_213_6, xe_213_9, xe_213_12, xe_213_14, xe_213_15, xe_213_16, xe_213_17, xe_213_18, xe_213_21, xe_213_24, xe_213_27, xe_213_28, xe_213_29, xe_213_30, xe_213_33, xe_213_36, xe_213_39, xe_213_41, xe_213_42, xe_213_43, xe_213_46, xe_213_47, xe_213_48 _ _ _ (some (vI _)) _ _ _ _ _ rfl, xe_213_48 _ _ _ (some (vR _)) _ _ _ _ _ rfl, xe_213_48 _ _ _ none _ _ _ _ _ rfl, xe_213_50, xe_213_51, xe_213_54, xe_213_55, xe_213_56, xe_213_57, xe_213_58, xe_213_61, xe_213_62, xe_213_63, xe_213_64, xe_213_65, xe_213_68, xe_213_70, ite_self, mm_nL_I, mm_nL_R, mm_nL_0, Option.bind_some, Option.bind_none, bnd_ite, Option.toList_some, Option.toList_none, List.cons_append, List.nil_append, mm_cats_nil, mm_cats_I, mm_cats_L, mm_cats_R, if_true, if_false, true_and, and_true, false_and, and_false, not_true_eq_false, not_false_eq_true, Int.reduceLE, Int.reduceLT, Int.reduceEq, Int.reduceNe, Int.reduceNeg, Int.reduceAdd, Int.reduceSub, Int.reduceMul, Nat.reduceAdd, Nat.reduceLeDiff, true_or, or_true, false_or, or_false, reduceIte, k_149, k_167, l_167, k_168, l_168, n37, n38, s_isLaneM, s_isIn, bi, hl, hx, g1, g2, D]
        rfl
      rw [← h.2.2.2.2.2.2.2.2.2.1.1] at e2
      have r7 : ∀ fl fw, rm (mset (mset (mset r 149 0 0) 167 l x) 168 l y) z0 fl fw 167 = mset r 167 l x 167 := fun fl fw => by
        rw [rm_b _ _ _ _ _ (by omega) (by omega), ms_row _ _ _ _ _ (by omega)]
        funext j; simp only [mset]; simp
      have r8 : ∀ fl fw, rm (mset (mset (mset r 149 0 0) 167 l x) 168 l y) z0 fl fw 168 = mset r 168 l y 168 := fun fl fw => by
        rw [rm_b _ _ _ _ _ (by omega) (by omega)]
        funext j; simp only [mset]; simp
      have rk : ∀ fl fw k, ¬ k = 0 → ¬ k = 43 → ¬ k = 44 → rm (mset (mset (mset r 149 0 0) 167 l x) 168 l y) z0 fl fw 149 k = r 149 k := fun fl fw k h1 h2 h3 => by
        rw [rm_k _ _ _ _ _ h2 h3, ms_row _ _ _ _ _ (by omega), ms_row _ _ _ _ _ (by omega), m0 _ h1]
      have d5 : enC (mset (mset c 135 l x) 136 l y) 135 = mset c 135 l x 135 := by rw [enC_b _ _ (by omega), ms_row _ _ _ _ _ (by omega)]
      have d6 : enC (mset (mset c 135 l x) 136 l y) 136 = mset c 136 l y 136 := by
        rw [enC_b _ _ (by omega)]
        funext j; simp only [mset]; simp
      obtain ⟨w1, w2, w3, w4, w5, w6⟩ := h.2.2.2.2.2.2.2.2.1
      obtain ⟨z1, z2, z3⟩ := h.2.2.2.2.2.2.2.2.2.1
      have s135 : ∀ j, mset c 135 l x 135 j = if j = l then x else c 135 j := fun j => ms_sa _ _ _ _ _
      have s136 : ∀ j, mset c 136 l y 136 j = if j = l then y else c 136 j := fun j => ms_sa _ _ _ _ _
      have s167 : ∀ j, mset r 167 l x 167 j = if j = l then x else r 167 j := fun j => ms_sa _ _ _ _ _
      have s168 : ∀ j, mset r 168 l y 168 j = if j = l then y else r 168 j := fun j => ms_sa _ _ _ _ _
      refine ⟨_, _, _, e1, e2, h.tr (fun a ha => ?_) (fun k hk => ⟨?_, ?_, ?_⟩) (fun a ha => ?_) (fun k hk => rk _ _ k (by omega) (by omega) (by omega)) ?_ ?_ (Rtr_end _ _ (fun j j0 j1 => ?_)), fun a ha => ?_, fun a ha => ?_⟩
      · rw [enC_b _ _ (by omega), ms_row _ _ _ _ _ (by omega), ms_row _ _ _ _ _ (by omega)]
      · rw [enC_b _ _ (by omega), ms_row _ _ _ _ _ (by omega), ms_row _ _ _ _ _ (by omega)]
      · rw [(enC_p _ k hk).1, ms_row _ _ _ _ _ (by omega), ms_row _ _ _ _ _ (by omega)]
      · rw [(enC_p _ k hk).2, ms_row _ _ _ _ _ (by omega), ms_row _ _ _ _ _ (by omega)]
      · rw [rm_b _ _ _ _ _ (by omega) (by omega), ms_row _ _ _ _ _ (by omega), ms_row _ _ _ _ _ (by omega), ms_row _ _ _ _ _ (by omega)]
      · unfold Rwi
        rw [d5, d6, r7, r8, rk _ _ 31 (by omega) (by omega) (by omega), rk _ _ 32 (by omega) (by omega) (by omega), enC_b _ 134 (by omega), ms_row _ _ _ _ 134 (by omega), ms_row _ _ _ _ 134 (by omega)]
        refine ⟨w1, w2, w3, w4, w5, fun j j0 j1 => ?_⟩
        have w6 := w6 j j0 j1
        rw [s135, s136, s167, s168]
        by_cases e : j = l
        · rw [if_pos e, if_pos e, if_pos e, if_pos e]; omega
        · rw [if_neg e, if_neg e, if_neg e, if_neg e]; exact w6
      · unfold Rz
        rw [d5, d6, r7, r8]
        refine ⟨?_, ?_, fun j hj => ?_⟩
        · funext j; rw [s135, s167, z1]
        · funext j; rw [s136, s168, z2]
        · rw [s135, s136, if_neg (by omega), if_neg (by omega), enC_b _ 144 (by omega), enC_b _ 145 (by omega), ms_row _ _ _ _ 144 (by omega), ms_row _ _ _ _ 144 (by omega), ms_row _ _ _ _ 145 (by omega), ms_row _ _ _ _ 145 (by omega)]
          exact z3 j hj
      · rw [rm_t _ _ _ _ _ ⟨j0, j1⟩]; rfl
      · rw [enC_b _ _ (by omega), ms_row _ _ _ _ _ (by omega), ms_row _ _ _ _ _ (by omega)]
      · rw [rm_b _ _ _ _ _ (by omega) (by omega), ms_row _ _ _ _ _ (by omega), ms_row _ _ _ _ _ (by omega), ms_row _ _ _ _ _ (by omega)]
    · refine CALL.ask h (-3) ?_ ?_
      · by_cases z1 : x < 0
        · simp only [xe_128_0, xe_128_1, xe_128_4, xe_128_7, xe_128_9, xe_128_10, xe_128_11, xe_128_14, xe_128_15, xe_128_17, xe_128_20, xe_128_21, xe_128_24, xe_128_25, xe_128_27, xe_128_30, xe_128_32, xe_128_33, xe_128_34, xe_128_37, xe_128_40, xe_128_41, xe_128_42 _ _ _ (some (vI _)) _ _ _ _ _ rfl, xe_128_42 _ _ _ (some (vR _)) _ _ _ _ _ rfl, xe_128_42 _ _ _ none _ _ _ _ _ rfl, xe_128_44, xe_128_45, xe_128_48, xe_128_51, xe_128_52, xe_128_53, xe_128_54, xe_128_55, xe_128_58, xe_128_61, xe_128_62, xe_128_63, xe_128_64, xe_128_65, xe_128_68, xe_128_70, ite_self, mm_nL_I, mm_nL_R, mm_nL_0, Option.bind_some, Option.bind_none, bnd_ite, Option.toList_some, Option.toList_none, List.cons_append, List.nil_append, mm_cats_nil, mm_cats_I, mm_cats_L, mm_cats_R, if_true, if_false, true_and, and_true, false_and, and_false, not_true_eq_false, not_false_eq_true, Int.reduceLE, Int.reduceLT, Int.reduceEq, Int.reduceNe, Int.reduceNeg, Int.reduceAdd, Int.reduceSub, Int.reduceMul, Nat.reduceAdd, Nat.reduceLeDiff, true_or, or_true, false_or, or_false, reduceIte, s_isLaneX, bi, hl, z1]
        · by_cases z2 : 30 < x
          · simp only [xe_128_0, xe_128_1, xe_128_4, xe_128_7, xe_128_9, xe_128_10, xe_128_11, xe_128_14, xe_128_15, xe_128_17, xe_128_20, xe_128_21, xe_128_24, xe_128_25, xe_128_27, xe_128_30, xe_128_32, xe_128_33, xe_128_34, xe_128_37, xe_128_40, xe_128_41, xe_128_42 _ _ _ (some (vI _)) _ _ _ _ _ rfl, xe_128_42 _ _ _ (some (vR _)) _ _ _ _ _ rfl, xe_128_42 _ _ _ none _ _ _ _ _ rfl, xe_128_44, xe_128_45, xe_128_48, xe_128_51, xe_128_52, xe_128_53, xe_128_54, xe_128_55, xe_128_58, xe_128_61, xe_128_62, xe_128_63, xe_128_64, xe_128_65, xe_128_68, xe_128_70, ite_self, mm_nL_I, mm_nL_R, mm_nL_0, Option.bind_some, Option.bind_none, bnd_ite, Option.toList_some, Option.toList_none, List.cons_append, List.nil_append, mm_cats_nil, mm_cats_I, mm_cats_L, mm_cats_R, if_true, if_false, true_and, and_true, false_and, and_false, not_true_eq_false, not_false_eq_true, Int.reduceLE, Int.reduceLT, Int.reduceEq, Int.reduceNe, Int.reduceNeg, Int.reduceAdd, Int.reduceSub, Int.reduceMul, Nat.reduceAdd, Nat.reduceLeDiff, true_or, or_true, false_or, or_false, reduceIte, s_isLaneX, bi, hl, z1, z2]
          · by_cases z3 : y < 0
            · simp only [xe_128_0, xe_128_1, xe_128_4, xe_128_7, xe_128_9, xe_128_10, xe_128_11, xe_128_14, xe_128_15, xe_128_17, xe_128_20, xe_128_21, xe_128_24, xe_128_25, xe_128_27, xe_128_30, xe_128_32, xe_128_33, xe_128_34, xe_128_37, xe_128_40, xe_128_41, xe_128_42 _ _ _ (some (vI _)) _ _ _ _ _ rfl, xe_128_42 _ _ _ (some (vR _)) _ _ _ _ _ rfl, xe_128_42 _ _ _ none _ _ _ _ _ rfl, xe_128_44, xe_128_45, xe_128_48, xe_128_51, xe_128_52, xe_128_53, xe_128_54, xe_128_55, xe_128_58, xe_128_61, xe_128_62, xe_128_63, xe_128_64, xe_128_65, xe_128_68, xe_128_70, ite_self, mm_nL_I, mm_nL_R, mm_nL_0, Option.bind_some, Option.bind_none, bnd_ite, Option.toList_some, Option.toList_none, List.cons_append, List.nil_append, mm_cats_nil, mm_cats_I, mm_cats_L, mm_cats_R, if_true, if_false, true_and, and_true, false_and, and_false, not_true_eq_false, not_false_eq_true, Int.reduceLE, Int.reduceLT, Int.reduceEq, Int.reduceNe, Int.reduceNeg, Int.reduceAdd, Int.reduceSub, Int.reduceMul, Nat.reduceAdd, Nat.reduceLeDiff, true_or, or_true, false_or, or_false, reduceIte, s_isLaneX, bi, hl, z1, z2, z3]
            · have z4 : ¬ y ≤ 12 := by omega
              simp only [xe_128_0, xe_128_1, xe_128_4, xe_128_7, xe_128_9, xe_128_10, xe_128_11, xe_128_14, xe_128_15, xe_128_17, xe_128_20, xe_128_21, xe_128_24, xe_128_25, xe_128_27, xe_128_30, xe_128_32, xe_128_33, xe_128_34, xe_128_37, xe_128_40, xe_128_41, xe_128_42 _ _ _ (some (vI _)) _ _ _ _ _ rfl, xe_128_42 _ _ _ (some (vR _)) _ _ _ _ _ rfl, xe_128_42 _ _ _ none _ _ _ _ _ rfl, xe_128_44, xe_128_45, xe_128_48, xe_128_51, xe_128_52, xe_128_53, xe_128_54, xe_128_55, xe_128_58, xe_128_61, xe_128_62, xe_128_63, xe_128_64, xe_128_65, xe_128_68, xe_128_70, ite_self, mm_nL_I, mm_nL_R, mm_nL_0, Option.bind_some, Option.bind_none, bnd_ite, Option.toList_some, Option.toList_none, List.cons_append, List.nil_append, mm_cats_nil, mm_cats_I, mm_cats_L, mm_cats_R, if_true, if_false, true_and, and_true, false_and, and_false, not_true_eq_false, not_false_eq_true, Int.reduceLE, Int.reduceLT, Int.reduceEq, Int.reduceNe, Int.reduceNeg, Int.reduceAdd, Int.reduceSub, Int.reduceMul, Nat.reduceAdd, Nat.reduceLeDiff, true_or, or_true, false_or, or_false, reduceIte, s_isLaneX, bi, hl, z1, z2, z3, z4]
      · by_cases z1 : 0 ≤ x ∧ x ≤ 30
        · have z2 : ¬ (0 ≤ y ∧ y ≤ 12) := fun q => hx ⟨z1, q⟩
          simp only [xe_213_0, xe_213_1, xe_213_2, xe_213_5, xe_213_6, xe_213_9, xe_213_12, xe_213_14, xe_213_15, xe_213_16, xe_213_17, xe_213_18, xe_213_21, xe_213_24, xe_213_27, xe_213_28, xe_213_29, xe_213_30, xe_213_33, xe_213_36, xe_213_39, xe_213_41, xe_213_42, xe_213_43, xe_213_46, xe_213_47, xe_213_48 _ _ _ (some (vI _)) _ _ _ _ _ rfl, xe_213_48 _ _ _ (some (vR _)) _ _ _ _ _ rfl, xe_213_48 _ _ _ none _ _ _ _ _ rfl, xe_213_50, xe_213_51, xe_213_54, xe_213_55, xe_213_56, xe_213_57, xe_213_58, xe_213_61, xe_213_62, xe_213_63, xe_213_64, xe_213_65, xe_213_68, xe_213_70, ite_self, mm_nL_I, mm_nL_R, mm_nL_0, Option.bind_some, Option.bind_none, bnd_ite, Option.toList_some, Option.toList_none, List.cons_append, List.nil_append, mm_cats_nil, mm_cats_I, mm_cats_L, mm_cats_R, if_true, if_false, true_and, and_true, false_and, and_false, not_true_eq_false, not_false_eq_true, Int.reduceLE, Int.reduceLT, Int.reduceEq, Int.reduceNe, Int.reduceNeg, Int.reduceAdd, Int.reduceSub, Int.reduceMul, Nat.reduceAdd, Nat.reduceLeDiff, true_or, or_true, false_or, or_false, reduceIte, k_149, s_isLaneM, s_isIn, bi, hl, z1, z2]
        · simp only [xe_213_0, xe_213_1, xe_213_2, xe_213_5, xe_213_6, xe_213_9, xe_213_12, xe_213_14, xe_213_15, xe_213_16, xe_213_17, xe_213_18, xe_213_21, xe_213_24, xe_213_27, xe_213_28, xe_213_29, xe_213_30, xe_213_33, xe_213_36, xe_213_39, xe_213_41, xe_213_42, xe_213_43, xe_213_46, xe_213_47, xe_213_48 _ _ _ (some (vI _)) _ _ _ _ _ rfl, xe_213_48 _ _ _ (some (vR _)) _ _ _ _ _ rfl, xe_213_48 _ _ _ none _ _ _ _ _ rfl, xe_213_50, xe_213_51, xe_213_54, xe_213_55, xe_213_56, xe_213_57, xe_213_58, xe_213_61, xe_213_62, xe_213_63, xe_213_64, xe_213_65, xe_213_68, xe_213_70, ite_self, mm_nL_I, mm_nL_R, mm_nL_0, Option.bind_some, Option.bind_none, bnd_ite, Option.toList_some, Option.toList_none, List.cons_append, List.nil_append, mm_cats_nil, mm_cats_I, mm_cats_L, mm_cats_R, if_true, if_false, true_and, and_true, false_and, and_false, not_true_eq_false, not_false_eq_true, Int.reduceLE, Int.reduceLT, Int.reduceEq, Int.reduceNe, Int.reduceNeg, Int.reduceAdd, Int.reduceSub, Int.reduceMul, Nat.reduceAdd, Nat.reduceLeDiff, true_or, or_true, false_or, or_false, reduceIte, k_149, s_isLaneM, s_isIn, bi, hl, z1]
  · refine CALL.ask h (-2) ?_ ?_
    · simp only [xe_128_0, xe_128_1, xe_128_4, xe_128_7, xe_128_9, xe_128_10, xe_128_11, xe_128_14, xe_128_15, xe_128_17, xe_128_20, xe_128_21, xe_128_24, xe_128_25, xe_128_27, xe_128_30, xe_128_32, xe_128_33, xe_128_34, xe_128_37, xe_128_40, xe_128_41, xe_128_42 _ _ _ (some (vI _)) _ _ _ _ _ rfl, xe_128_42 _ _ _ (some (vR _)) _ _ _ _ _ rfl, xe_128_42 _ _ _ none _ _ _ _ _ rfl, xe_128_44, xe_128_45, xe_128_48, xe_128_51, xe_128_52, xe_128_53, xe_128_54, xe_128_55, xe_128_58, xe_128_61, xe_128_62, xe_128_63, xe_128_64, xe_128_65, xe_128_68, xe_128_70, ite_self, mm_nL_I, mm_nL_R, mm_nL_0, Option.bind_some, Option.bind_none, bnd_ite, Option.toList_some, Option.toList_none, List.cons_append, List.nil_append, mm_cats_nil, mm_cats_I, mm_cats_L, mm_cats_R, if_true, if_false, true_and, and_true, false_and, and_false, not_true_eq_false, not_false_eq_true, Int.reduceLE, Int.reduceLT, Int.reduceEq, Int.reduceNe, Int.reduceNeg, Int.reduceAdd, Int.reduceSub, Int.reduceMul, Nat.reduceAdd, Nat.reduceLeDiff, true_or, or_true, false_or, or_false, reduceIte, s_isLaneX, bi, hl]
    · simp only [xe_213_0, xe_213_1, xe_213_2, xe_213_5, xe_213_6, xe_213_9, xe_213_12, xe_213_14, xe_213_15, xe_213_16, xe_213_17, xe_213_18, xe_213_21, xe_213_24, xe_213_27, xe_213_28, xe_213_29, xe_213_30, xe_213_33, xe_213_36, xe_213_39, xe_213_41, xe_213_42, xe_213_43, xe_213_46, xe_213_47, xe_213_48 _ _ _ (some (vI _)) _ _ _ _ _ rfl, xe_213_48 _ _ _ (some (vR _)) _ _ _ _ _ rfl, xe_213_48 _ _ _ none _ _ _ _ _ rfl, xe_213_50, xe_213_51, xe_213_54, xe_213_55, xe_213_56, xe_213_57, xe_213_58, xe_213_61, xe_213_62, xe_213_63, xe_213_64, xe_213_65, xe_213_68, xe_213_70, ite_self, mm_nL_I, mm_nL_R, mm_nL_0, Option.bind_some, Option.bind_none, bnd_ite, Option.toList_some, Option.toList_none, List.cons_append, List.nil_append, mm_cats_nil, mm_cats_I, mm_cats_L, mm_cats_R, if_true, if_false, true_and, and_true, false_and, and_false, not_true_eq_false, not_false_eq_true, Int.reduceLE, Int.reduceLT, Int.reduceEq, Int.reduceNe, Int.reduceNeg, Int.reduceAdd, Int.reduceSub, Int.reduceMul, Nat.reduceAdd, Nat.reduceLeDiff, true_or, or_true, false_or, or_false, reduceIte, k_149, s_isLaneM, bi, hl]
end CT
