/-! a training to its end, on both sides -/
def yn (ls sl : Int → Int) (wr : Int) : Nat → (Int → Int) → Int → Int
  | 0, t => t
  | n + 1, t => if t 0 = 1 ∨ t 0 = 2 then yn ls sl wr n (yT ls sl wr t) else t
/-- the row behind a training -/
def pt (ls sl : Int → Int) (la ra : Int) : Int → Int := yn ls sl ra 192 (bgt la ra)
def pr (ls sl : Int → Int) (la ra : Int) : Int := if pt ls sl la ra 0 = 3 then rom (pt ls sl la ra 1) (pt ls sl la ra 2) else 0
theorem yn_s (ls sl : Int → Int) (wr : Int) (n : Nat) {t : Int → Int} (h : t 0 = 1 ∨ t 0 = 2) : yn ls sl wr (n + 1) t = yn ls sl wr n (yT ls sl wr t) := by simp only [yn]; rw [if_pos h]
theorem yn_e (ls sl : Int → Int) (wr : Int) (n : Nat) {t : Int → Int} (h : ¬ (t 0 = 1 ∨ t 0 = 2)) : yn ls sl wr n t = t := by
  cases n with
  | zero => rfl
  | succ n => simp only [yn]; rw [if_neg h]
theorem fin_X (L w : Int) (c : MM) (ls sl : Int → Int) (wr : Int) (T : TP c (g_1 L) 146) (W : WP c (g_1 L) w) (hw : w + 3 ≤ 146) (e1 : c (w + 1) = ls) (e2 : c (w + 2) = sl) (e3 : c w 3 = wr) (ho : wo ls) (w0 : 0 ≤ wr) (w3 : wr ≤ 3) : ∀ (m : Nat) (i : Int) (S sw em t : Int → Int), Rt S sw em t → iv S sw em → S 10 = i → i + m = 192 →
    ∃ i' S' sw' em', ev 81 7 [some (vR 146), some (vR w), some (vI i)] [] (tm c 146 S sw em) (g_1 L) = ev 81 33 [some (vR 146), some (vR w), some (vI i')] [] (tm c 146 S' sw' em') (g_1 L) ∧ Rt S' sw' em' (yn ls sl wr m t) ∧ iv S' sw' em' ∧ ¬ (S' 2 = 1 ∨ S' 2 = 2) := by
  intro m
  induction m with
  | zero =>
    intro i S sw em t hR hi hk hm
    have g : 192 ≤ i := by omega
    have np : ¬ (S 2 = 1 ∨ S 2 = 2) := fun p => by have := iv_191 hi p; omega
    refine ⟨i, S, sw, em, ?_, hR, hi, np⟩
    simp only [xe_81_7, xe_81_8, xe_81_11, ite_self, mm_nL_I, mm_nL_R, mm_nL_0, Option.bind_some, Option.bind_none, bnd_ite, Option.toList_some, Option.toList_none, List.cons_append, List.nil_append, mm_cats_nil, mm_cats_I, mm_cats_L, mm_cats_R, if_true, if_false, true_and, and_true, false_and, and_false, not_true_eq_false, not_false_eq_true, Int.reduceLE, Int.reduceLT, Int.reduceEq, Int.reduceNe, Int.reduceNeg, Int.reduceAdd, Int.reduceSub, Int.reduceMul, Nat.reduceAdd, Nat.reduceLeDiff, true_or, or_true, false_or, or_false, reduceIte, g]
  | succ m ih =>
    intro i S sw em t hR hi hk hm
    have g : ¬ 192 ≤ i := by omega
    have R := s_run 146 c (g_1 L) S sw em T
    have x2 : S 2 = t 0 := hR.1
    by_cases p : S 2 = 1 ∨ S 2 = 2
    · have p' : t 0 = 1 ∨ t 0 = 2 := by omega
      rw [if_pos p] at R
      have hi' := iv_step (ls := ls) (sl := sl) (wr := wr) hi p w0 w3
      have hR' := (br_step hR hi p ls sl wr).2.1
      have n191 := iv_191 hi p
      have xk := (xS_k ls sl wr S sw em).1
      obtain ⟨n, q0, q3, hl, a0, a1, b0, b1, c0, c1, t0, t1, f0, f1, _, kk, k1, k2⟩ := hi
      have A := s_attempt 146 w c (g_1 L) S sw em T W (Or.inl hw) ⟨n, q0, q3, a0, by omega, c0, by omega, b0, by omega, t0, by omega, f0, by omega⟩ (by omega) (by omega) (by omega) (by omega) (fun l l0 l3 => by have := hl l l0 l3; omega) (fun l l0 l3 => by have := hl l l0 l3; omega) (by rw [e1]; exact ho)
      rw [e1, e2, e3] at A
      have wi : w32 (i + 1) = i + 1 := wi32 (by omega) (by omega)
      obtain ⟨i', S', sw', em', u1, u2, u3, u4⟩ := ih (i + 1) _ _ _ _ hR' hi' (by omega) (by omega)
      refine ⟨i', S', sw', em', ?_, by rw [yn_s _ _ _ _ p']; exact u2, u3, u4⟩
      rw [← u1, xe_81_7]
      simp only [xe_81_8, xe_81_11, xe_81_14, xe_81_15, xe_81_18, xe_81_21, xe_81_22, xe_81_23, xe_81_26, xe_81_27 _ (some (vI _)) _ _ _ _ rfl, xe_81_27 _ (some (vR _)) _ _ _ _ rfl, xe_81_27 _ none _ _ _ _ rfl, xe_81_30, ite_self, mm_nL_I, mm_nL_R, mm_nL_0, Option.bind_some, Option.bind_none, bnd_ite, Option.toList_some, Option.toList_none, List.cons_append, List.nil_append, mm_cats_nil, mm_cats_I, mm_cats_L, mm_cats_R, if_true, if_false, true_and, and_true, false_and, and_false, not_true_eq_false, not_false_eq_true, Int.reduceLE, Int.reduceLT, Int.reduceEq, Int.reduceNe, Int.reduceNeg, Int.reduceAdd, Int.reduceSub, Int.reduceMul, Nat.reduceAdd, Nat.reduceLeDiff, true_or, or_true, false_or, or_false, reduceIte, k_146, W.2.1, R, A, g, wi]
    · have p' : ¬ (t 0 = 1 ∨ t 0 = 2) := by omega
      rw [if_neg p] at R
      refine ⟨i, S, sw, em, ?_, by rw [yn_e _ _ _ _ p']; exact hR, hi, p⟩
      rw [xe_81_7]
      simp only [xe_81_8, xe_81_11, xe_81_14, xe_81_15, xe_81_18, xe_81_21, xe_81_22, xe_81_23, xe_81_26, xe_81_27 _ (some (vI _)) _ _ _ _ rfl, xe_81_27 _ (some (vR _)) _ _ _ _ rfl, xe_81_27 _ none _ _ _ _ rfl, xe_81_30, ite_self, mm_nL_I, mm_nL_R, mm_nL_0, Option.bind_some, Option.bind_none, bnd_ite, Option.toList_some, Option.toList_none, List.cons_append, List.nil_append, mm_cats_nil, mm_cats_I, mm_cats_L, mm_cats_R, if_true, if_false, true_and, and_true, false_and, and_false, not_true_eq_false, not_false_eq_true, Int.reduceLE, Int.reduceLT, Int.reduceEq, Int.reduceNe, Int.reduceNeg, Int.reduceAdd, Int.reduceSub, Int.reduceMul, Nat.reduceAdd, Nat.reduceLeDiff, true_or, or_true, false_or, or_false, reduceIte, k_146, R, g]
theorem s_finish (L w la ra : Int) (c : MM) (ls sl : Int → Int) (hS : Rst c) (T : TP c (g_1 L) 146) (W : WP c (g_1 L) w) (hw : w + 3 ≤ 146) (e1 : c (w + 1) = ls) (e2 : c (w + 2) = sl) (e3 : c w 2 = la) (e4 : c w 3 = ra) (ho : wo ls) (n : la = 1 ∨ la = 2 ∨ la = 4) (w0 : 0 ≤ ra) (w3 : ra ≤ 3) :
    ∃ S' sw' em', ev 81 0 [some (vR 146), some (vR w), none] [] c (g_1 L) = some (some (vI (pr ls sl la ra)), tm c 146 S' sw' em', g_1 L) ∧ Rt S' sw' em' (pt ls sl la ra) := by
  have S := s_start 146 w c (g_1 L) (c 146) (c 147) (c 148) T W (Or.inl hw)
  rw [show tm c 146 (c 146) (c 147) (c 148) = c from tm_id c 146, e3, e4] at S
  obtain ⟨i', S', sw', em', u1, u2, u3, u4⟩ := fin_X L w c ls sl ra T W hw e1 e2 e4 ho w0 w3 192 0 _ _ _ _ (Rt_beg (c 146) la ra) (iv_beg (c 146) n w0 w3) rfl (by omega)
  refine ⟨S', sw', em', ?_, u2⟩
  have q0 : S' 2 = pt ls sl la ra 0 := u2.1
  have q1 : S' 3 = pt ls sl la ra 1 := u2.2.1
  have q2 : S' 4 = pt ls sl la ra 2 := u2.2.2.1
  have R1 : Rst (tm c 146 S' sw' em') := by unfold Rst; rw [tm_b _ _ _ _ _ _ (by omega) (by omega) (by omega)]; exact hS
  have K := s_roomOfX L (S' 3) (S' 4) _ R1 u3.1 u3.2.1 u3.2.2.1
  rw [q1, q2] at K
  have st : ev 81 0 [some (vR 146), some (vR w), none] [] c (g_1 L) = ev 81 7 [some (vR 146), some (vR w), some (vI 0)] [] (tm c 146 (sta (c 146) la ra) z0 z0) (g_1 L) := by
    simp only [xe_81_0, xe_81_1, xe_81_2, xe_81_5, xe_81_6 _ (some (vI _)) _ _ _ _ _ rfl, xe_81_6 _ (some (vR _)) _ _ _ _ _ rfl, xe_81_6 _ none _ _ _ _ _ rfl, ite_self, mm_nL_I, mm_nL_R, mm_nL_0, Option.bind_some, Option.bind_none, bnd_ite, Option.toList_some, Option.toList_none, List.cons_append, List.nil_append, mm_cats_nil, mm_cats_I, mm_cats_L, mm_cats_R, if_true, if_false, true_and, and_true, false_and, and_false, not_true_eq_false, not_false_eq_true, Int.reduceLE, Int.reduceLT, Int.reduceEq, Int.reduceNe, Int.reduceNeg, Int.reduceAdd, Int.reduceSub, Int.reduceMul, Nat.reduceAdd, Nat.reduceLeDiff, true_or, or_true, false_or, or_false, reduceIte, k_146, W.2.1, S]
  rw [st, u1]
  unfold pr
  by_cases p : pt ls sl la ra 0 = 3
  · simp only [xe_81_33, xe_81_34, xe_81_37, xe_81_38, xe_81_41, xe_81_42, xe_81_45, xe_81_46, xe_81_49, xe_81_52, xe_81_55, xe_81_56, ite_self, mm_nL_I, mm_nL_R, mm_nL_0, Option.bind_some, Option.bind_none, bnd_ite, Option.toList_some, Option.toList_none, List.cons_append, List.nil_append, mm_cats_nil, mm_cats_I, mm_cats_L, mm_cats_R, if_true, if_false, true_and, and_true, false_and, and_false, not_true_eq_false, not_false_eq_true, Int.reduceLE, Int.reduceLT, Int.reduceEq, Int.reduceNe, Int.reduceNeg, Int.reduceAdd, Int.reduceSub, Int.reduceMul, Nat.reduceAdd, Nat.reduceLeDiff, true_or, or_true, false_or, or_false, reduceIte, k_146, tm_0, tm_1, tg_2, tu_2, tg_3, tu_3, tg_4, tu_4, tg_5, tu_5, tg_6, tu_6, tg_7, tu_7, tg_8, tu_8, tg_9, tu_9, tg_10, tu_10, tg_11, tu_11, tg_12, tu_12, up_e, q0, q1, q2, p, K]
  · simp only [xe_81_33, xe_81_34, xe_81_37, xe_81_38, xe_81_41, xe_81_42, xe_81_45, xe_81_46, xe_81_49, xe_81_52, xe_81_55, xe_81_56, ite_self, mm_nL_I, mm_nL_R, mm_nL_0, Option.bind_some, Option.bind_none, bnd_ite, Option.toList_some, Option.toList_none, List.cons_append, List.nil_append, mm_cats_nil, mm_cats_I, mm_cats_L, mm_cats_R, if_true, if_false, true_and, and_true, false_and, and_false, not_true_eq_false, not_false_eq_true, Int.reduceLE, Int.reduceLT, Int.reduceEq, Int.reduceNe, Int.reduceNeg, Int.reduceAdd, Int.reduceSub, Int.reduceMul, Nat.reduceAdd, Nat.reduceLeDiff, true_or, or_true, false_or, or_false, reduceIte, k_146, tm_0, tm_1, tg_2, tu_2, tg_3, tu_3, tg_4, tu_4, tg_5, tu_5, tg_6, tu_6, tg_7, tu_7, tg_8, tu_8, tg_9, tu_9, tg_10, tu_10, tg_11, tu_11, tg_12, tu_12, up_e, q0, q1, q2, p]
theorem fin_M (L : Int) (r : MM) (hP : MP r) (ho : wo (r 167)) (hs : so2 (r 168)) (p0 : r 149 42 = 1) (w0 : 0 ≤ r 149 32) (w3 : r 149 32 ≤ 3) : ∀ (m : Nat) (t : Int → Int) (fl fw : Int), (∃ S sw em, Rt S sw em t ∧ iv S sw em ∧ S 10 + m = 192) →
    ∃ fl' fw', ev 235 4 [some (vR 149)] [] (rm r t fl fw) (g_1 L) = ev 235 18 [some (vR 149)] [] (rm r (yn (r 167) (r 168) (r 149 32) m t) fl' fw') (g_1 L) ∧ ∃ S sw em, Rt S sw em (yn (r 167) (r 168) (r 149 32) m t) ∧ iv S sw em := by
  intro m
  induction m with
  | zero =>
    rintro t fl fw ⟨S, sw, em, hR, hi, hm⟩
    have np : ¬ (S 2 = 1 ∨ S 2 = 2) := fun p => by have := iv_191 hi p; omega
    have x2 : S 2 = t 0 := hR.1
    have I := s_isTr L fl fw r t hP
    rw [if_neg (by omega)] at I
    refine ⟨fl, fw, ?_, S, sw, em, hR, hi⟩
    rw [xe_235_4]
    simp only [xe_235_5, xe_235_8, xe_235_11, xe_235_12, xe_235_15, ite_self, mm_nL_I, mm_nL_R, mm_nL_0, Option.bind_some, Option.bind_none, bnd_ite, Option.toList_some, Option.toList_none, List.cons_append, List.nil_append, mm_cats_nil, mm_cats_I, mm_cats_L, mm_cats_R, if_true, if_false, true_and, and_true, false_and, and_false, not_true_eq_false, not_false_eq_true, Int.reduceLE, Int.reduceLT, Int.reduceEq, Int.reduceNe, Int.reduceNeg, Int.reduceAdd, Int.reduceSub, Int.reduceMul, Nat.reduceAdd, Nat.reduceLeDiff, true_or, or_true, false_or, or_false, reduceIte, k_149, I, yn]
  | succ m ih =>
    rintro t fl fw ⟨S, sw, em, hR, hi, hm⟩
    have x2 : S 2 = t 0 := hR.1
    have I := s_isTr L fl fw r t hP
    by_cases p : S 2 = 1 ∨ S 2 = 2
    · have p' : t 0 = 1 ∨ t 0 = 2 := by omega
      rw [if_pos p'] at I
      have hmo := mo_of hR hi p
      have hi' := iv_step (ls := r 167) (sl := r 168) (wr := r 149 32) hi p w0 w3
      have hR' := (br_step hR hi p (r 167) (r 168) (r 149 32)).2.1
      have n191 := iv_191 hi p
      have xk := (xS_k (r 167) (r 168) (r 149 32) S sw em).1
      have x6 : S 10 = t 6 := hR.2.2.2.2.2.2.1
      have x3 : S 7 = t 3 := hR.2.2.2.1
      have x4 : S 9 = t 4 := hR.2.2.2.2.1
      have x5 : S 8 = t 5 := hR.2.2.2.2.2.1
      obtain ⟨n, q0, q3, hl, a0, a1, b0, b1, c0, c1, t0, t1, f0, f1, _, kk, k1, k2⟩ := hi
      have O := s_onceP L fl fw r t hP hmo (by omega) (by omega) (by omega) (by omega) ho hs p0
      obtain ⟨fl', fw', u1, u2⟩ := ih (yT (r 167) (r 168) (r 149 32) t) (yF (r 167) (r 168) t) (yO (r 167) (r 168) t) ⟨_, _, _, hR', hi', by omega⟩
      refine ⟨fl', fw', ?_, by rw [yn_s _ _ _ _ p']; exact u2⟩
      rw [yn_s _ _ _ _ p', ← u1, xe_235_4]
      simp only [xe_235_5, xe_235_8, xe_235_11, xe_235_12, xe_235_15, ite_self, mm_nL_I, mm_nL_R, mm_nL_0, Option.bind_some, Option.bind_none, bnd_ite, Option.toList_some, Option.toList_none, List.cons_append, List.nil_append, mm_cats_nil, mm_cats_I, mm_cats_L, mm_cats_R, if_true, if_false, true_and, and_true, false_and, and_false, not_true_eq_false, not_false_eq_true, Int.reduceLE, Int.reduceLT, Int.reduceEq, Int.reduceNe, Int.reduceNeg, Int.reduceAdd, Int.reduceSub, Int.reduceMul, Nat.reduceAdd, Nat.reduceLeDiff, true_or, or_true, false_or, or_false, reduceIte, k_149, I, O]
    · have p' : ¬ (t 0 = 1 ∨ t 0 = 2) := by omega
      rw [if_neg p'] at I
      refine ⟨fl, fw, ?_, S, sw, em, by rw [yn_e _ _ _ _ p']; exact hR, hi⟩
      rw [yn_e _ _ _ _ p', xe_235_4]
      simp only [xe_235_5, xe_235_8, xe_235_11, xe_235_12, xe_235_15, ite_self, mm_nL_I, mm_nL_R, mm_nL_0, Option.bind_some, Option.bind_none, bnd_ite, Option.toList_some, Option.toList_none, List.cons_append, List.nil_append, mm_cats_nil, mm_cats_I, mm_cats_L, mm_cats_R, if_true, if_false, true_and, and_true, false_and, and_false, not_true_eq_false, not_false_eq_true, Int.reduceLE, Int.reduceLT, Int.reduceEq, Int.reduceNe, Int.reduceNeg, Int.reduceAdd, Int.reduceSub, Int.reduceMul, Nat.reduceAdd, Nat.reduceLeDiff, true_or, or_true, false_or, or_false, reduceIte, k_149, I]
theorem s_trains (L la ra fl fw : Int) (r : MM) (t ls sl : Int → Int) (hP : MP r) (e1 : r 167 = ls) (e2 : r 168 = sl) (e3 : r 149 31 = la) (e4 : r 149 32 = ra) (ho : wo ls) (hs : so2 sl) (p0 : r 149 42 = 1) (n : la = 1 ∨ la = 2 ∨ la = 4) (w0 : 0 ≤ ra) (w3 : ra ≤ 3) :
    ∃ fl' fw', ev 235 0 [some (vR 149)] [] (rm r t fl fw) (g_1 L) = some (some (vI (pr ls sl la ra)), rm r (pt ls sl la ra) fl' fw', g_1 L) := by
  subst e1 e2 e3 e4
  have B := s_begins L fl fw r t hP
  obtain ⟨fl', fw', u1, S, sw, em, u2, u3⟩ := fin_M L r hP ho hs p0 w0 w3 192 (bgt (r 149 31) (r 149 32)) fl fw ⟨sta z0 (r 149 31) (r 149 32), z0, z0, Rt_beg z0 _ _, iv_beg z0 n w0 w3, rfl⟩
  refine ⟨fl', fw', ?_⟩
  have st : ev 235 0 [some (vR 149)] [] (rm r t fl fw) (g_1 L) = ev 235 4 [some (vR 149)] [] (rm r (bgt (r 149 31) (r 149 32)) fl fw) (g_1 L) := by
    simp only [xe_235_0, xe_235_1, ite_self, mm_nL_I, mm_nL_R, mm_nL_0, Option.bind_some, Option.bind_none, bnd_ite, Option.toList_some, Option.toList_none, List.cons_append, List.nil_append, mm_cats_nil, mm_cats_I, mm_cats_L, mm_cats_R, if_true, if_false, true_and, and_true, false_and, and_false, not_true_eq_false, not_false_eq_true, Int.reduceLE, Int.reduceLT, Int.reduceEq, Int.reduceNe, Int.reduceNeg, Int.reduceAdd, Int.reduceSub, Int.reduceMul, Nat.reduceAdd, Nat.reduceLeDiff, true_or, or_true, false_or, or_false, reduceIte, k_149, B]
  rw [st, u1]
  have f : yn (r 167) (r 168) (r 149 32) 192 (bgt (r 149 31) (r 149 32)) = pt (r 167) (r 168) (r 149 31) (r 149 32) := rfl
  rw [f] at u2 ⊢
  unfold pr
  generalize pt (r 167) (r 168) (r 149 31) (r 149 32) = t' at *
  have K := s_roomOfM (t' 1) (t' 2) (rm r t' fl' fw') (g_1 L) (by rw [← u2.2.1]; exact u3.1) (by rw [← u2.2.2.1]; exact u3.2.1) (by rw [← u2.2.2.1]; exact u3.2.2.1)
  by_cases p : t' 0 = 3
  · simp only [xe_235_18, xe_235_19, xe_235_22, xe_235_23, xe_235_24, xe_235_25, xe_235_28, xe_235_29, xe_235_32, xe_235_33, xe_235_34, xe_235_35, xe_235_38, xe_235_39, xe_235_40, xe_235_43, xe_235_46, xe_235_47, ite_self, mm_nL_I, mm_nL_R, mm_nL_0, Option.bind_some, Option.bind_none, bnd_ite, Option.toList_some, Option.toList_none, List.cons_append, List.nil_append, mm_cats_nil, mm_cats_I, mm_cats_L, mm_cats_R, if_true, if_false, true_and, and_true, false_and, and_false, not_true_eq_false, not_false_eq_true, Int.reduceLE, Int.reduceLT, Int.reduceEq, Int.reduceNe, Int.reduceNeg, Int.reduceAdd, Int.reduceSub, Int.reduceMul, Nat.reduceAdd, Nat.reduceLeDiff, true_or, or_true, false_or, or_false, reduceIte, k_149, k_165, l_165, rp_35 hP, rg_0, rw_0, rg_1, rw_1, rg_2, rw_2, rg_3, rw_3, rg_4, rw_4, rg_5, rw_5, rg_6, rw_6, rg_7, rw_7, p, K]
  · simp only [xe_235_18, xe_235_19, xe_235_22, xe_235_23, xe_235_24, xe_235_25, xe_235_28, xe_235_29, xe_235_32, xe_235_33, xe_235_34, xe_235_35, xe_235_38, xe_235_39, xe_235_40, xe_235_43, xe_235_46, xe_235_47, ite_self, mm_nL_I, mm_nL_R, mm_nL_0, Option.bind_some, Option.bind_none, bnd_ite, Option.toList_some, Option.toList_none, List.cons_append, List.nil_append, mm_cats_nil, mm_cats_I, mm_cats_L, mm_cats_R, if_true, if_false, true_and, and_true, false_and, and_false, not_true_eq_false, not_false_eq_true, Int.reduceLE, Int.reduceLT, Int.reduceEq, Int.reduceNe, Int.reduceNeg, Int.reduceAdd, Int.reduceSub, Int.reduceMul, Nat.reduceAdd, Nat.reduceLeDiff, true_or, or_true, false_or, or_false, reduceIte, k_149, k_165, l_165, rp_35 hP, rg_0, rw_0, rg_1, rw_1, rg_2, rw_2, rg_3, rw_3, rg_4, rw_4, rg_5, rw_5, rg_6, rw_6, rg_7, rw_7, p]
