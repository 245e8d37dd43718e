/-! called, both sides -/
def txt (f : Int → Int) (a b d : Nat) (h v m p : Int) : Int → Int := if p = 1 then up (dgs (up (dgs (up (dgs f 0 a h) (0 + a) 120) (0 + a + 1) b v) (0 + a + 1 + b) 64) (0 + a + 1 + b + 1) d m) (0 + a + 1 + b + 1 + d) 33 else dgs (up (dgs (up (dgs f 0 a h) (0 + a) 120) (0 + a + 1) b v) (0 + a + 1 + b) 64) (0 + a + 1 + b + 1) d m
theorem txt_e (f g : Int → Int) (a b d : Nat) (h v m p k : Int) (k0 : 0 ≤ k) (k1 : k < 0 + a + 1 + b + 1 + d + (if p = 1 then 1 else 0)) : txt f a b d h v m p k = txt g a b d h v m p k ∧ 0 ≤ txt f a b d h v m p k ∧ txt f a b d h v m p k < 128 := by
  have B := fun q x => dgd_b q x
  have core : ∀ j, 0 ≤ j → j < 0 + (a : Int) + 1 + b + 1 + d → dgs (up (dgs (up (dgs f 0 a h) (0 + a) 120) (0 + a + 1) b v) (0 + a + 1 + b) 64) (0 + a + 1 + b + 1) d m j = dgs (up (dgs (up (dgs g 0 a h) (0 + a) 120) (0 + a + 1) b v) (0 + a + 1 + b) 64) (0 + a + 1 + b + 1) d m j ∧ 0 ≤ dgs (up (dgs (up (dgs f 0 a h) (0 + a) 120) (0 + a + 1) b v) (0 + a + 1 + b) 64) (0 + a + 1 + b + 1) d m j ∧ dgs (up (dgs (up (dgs f 0 a h) (0 + a) 120) (0 + a + 1) b v) (0 + a + 1 + b) 64) (0 + a + 1 + b + 1) d m j < 128 := fun j j0 j1 => by
    dsimp only [dgs, up]
    by_cases c1 : 0 + (a : Int) + 1 + b + 1 ≤ j ∧ j < 0 + (a : Int) + 1 + b + 1 + d
    · rw [if_pos c1, if_pos c1]
      have := B (0 + (a : Int) + 1 + b + 1 + d - 1 - j).toNat m
      exact ⟨rfl, by omega, by omega⟩
    · rw [if_neg c1, if_neg c1]
      by_cases c2 : j = 0 + (a : Int) + 1 + b
      · rw [if_pos c2, if_pos c2]; exact ⟨rfl, by omega, by omega⟩
      · rw [if_neg c2, if_neg c2]
        by_cases c3 : 0 + (a : Int) + 1 ≤ j ∧ j < 0 + (a : Int) + 1 + b
        · rw [if_pos c3, if_pos c3]
          have := B (0 + (a : Int) + 1 + b - 1 - j).toNat v
          exact ⟨rfl, by omega, by omega⟩
        · rw [if_neg c3, if_neg c3]
          by_cases c4 : j = 0 + (a : Int)
          · rw [if_pos c4, if_pos c4]; exact ⟨rfl, by omega, by omega⟩
          · rw [if_neg c4, if_neg c4]
            have c5 : 0 ≤ j ∧ j < 0 + (a : Int) := by omega
            rw [if_pos c5, if_pos c5]
            have := B (0 + (a : Int) - 1 - j).toNat h
            exact ⟨rfl, by omega, by omega⟩
  unfold txt
  by_cases p1 : p = 1
  · rw [if_pos p1] at k1
    rw [if_pos p1, if_pos p1, up_e, up_e]
    by_cases e : k = 0 + (a : Int) + 1 + b + 1 + d
    · rw [if_pos e, if_pos e]; exact ⟨rfl, by omega, by omega⟩
    · rw [if_neg e, if_neg e]; exact core k k0 (by omega)
  · rw [if_neg p1] at k1
    rw [if_neg p1, if_neg p1]
    exact core k k0 (by omega)
theorem ty_0 (r : MM) (v : Int) : mset r 149 28 v = ty r v (r 163) := by
  funext b j; unfold mset ty
  by_cases h : b = 149 ∧ j = 28
  · rw [if_pos h, if_neg (by omega)]
  · rw [if_neg h]
    by_cases g : b = 163 ∧ 0 ≤ j ∧ j < 30
    · rw [if_pos g, g.1]
    · rw [if_neg g]
section CC
variable {L : Int} {c r : MM}
theorem c_called (i k : Int) (h : RR c r) : CALL L 109 [some (vR 10), some (vI i), some (vI k), none] 191 [some (vR 149), some (vI i), some (vI k)] c r := by
  have hX := h.1
  have hM := h.2.1
  obtain ⟨m1, m2, m3, m4, m6⟩ := h.2.2.2.2.2.2.1
  have A := s_modesAt L i c hX m3
  have hd : Tdg c := h.2.2.1.2.2.2.1
  have M0 : SM (mset r 149 0 0) := hM.ke (keR.t r)
  have b23 : mset r 149 0 0 149 23 = c 45 4 := by rw [ms_nk _ _ _ _ _ _ (by omega)]; exact m1.symm
  have I := s_isMode L i (mset r 149 0 0) (by rw [b23]; exact m2) (by rw [b23]; exact m3)
  rw [b23] at I
  have p4 := sx_10_4 hX
  have p7 := sx_10_7 hX
  by_cases a : 0 ≤ i ∧ i < c 45 4
  · rw [if_pos a] at A
    obtain ⟨u, o1, u0, u1, o2, o3, o4, o5⟩ := m6 i a.1 a.2
    rw [o1] at A
    have bI : bi (0 ≤ i ∧ i < c 45 4) = 1 := if_pos a
    rw [bI] at I
    have nz : ¬ 49 + 2 * u = 0 := by omega
    have n7 : ¬ 49 + 2 * u = 7 := by omega
    have np : 0 < 49 + 2 * u := by omega
    have km := k_mode L u u0 u1
    have kt := k_mtim L u u0 u1
    have ob := hX.2.2 u u0 u1
    by_cases kn : k < 0
    · have kn' : ¬ 0 ≤ k := by omega
      refine CALL.ask h (-3) ?_ ?_
      · simp only [xe_109_0, xe_109_1, xe_109_4, xe_109_5, xe_109_8 _ _ (some (vI _)) _ _ _ _ _ rfl, xe_109_8 _ _ (some (vR _)) _ _ _ _ _ rfl, xe_109_8 _ _ none _ _ _ _ _ rfl, xe_109_9, xe_109_10, xe_109_13, xe_109_15, xe_109_16, xe_109_17, xe_109_20, xe_109_22, xe_109_23, xe_109_24, xe_109_27, xe_109_28, xe_109_31, xe_109_32, xe_109_35, xe_109_36, xe_109_39, xe_109_42, xe_109_45, xe_109_47, xe_109_50, xe_109_51, xe_109_54, xe_109_57, xe_109_60, xe_109_62, xe_109_65, xe_109_66, xe_109_69, xe_109_72, xe_109_73, xe_109_74, xe_109_77, xe_109_80, xe_109_81, xe_109_84, xe_109_86, xe_109_89, xe_109_90, xe_109_91, xe_109_92, xe_109_95, xe_109_98, xe_109_101, xe_109_102, xe_109_105, xe_109_106, xe_109_109, xe_109_112, xe_109_113, ite_self, mm_nL_I, mm_nL_R, mm_nL_0, Option.bind_some, Option.bind_none, bnd_ite, Option.toList_some, Option.toList_none, List.cons_append, List.nil_append, mm_cats_nil, mm_cats_I, mm_cats_L, mm_cats_R, if_true, if_false, true_and, and_true, false_and, and_false, not_true_eq_false, not_false_eq_true, Int.reduceLE, Int.reduceLT, Int.reduceEq, Int.reduceNe, Int.reduceNeg, Int.reduceAdd, Int.reduceSub, Int.reduceMul, Nat.reduceAdd, Nat.reduceLeDiff, true_or, or_true, false_or, or_false, reduceIte, k_10, k_45, p4, A, nz, n7, np, kn']
      · simp only [xe_191_0, xe_191_1, xe_191_2, xe_191_5, xe_191_6, xe_191_7, xe_191_10, xe_191_13, xe_191_15, xe_191_16, xe_191_17, xe_191_20, xe_191_22, xe_191_23, xe_191_24, xe_191_25, xe_191_28, xe_191_29, xe_191_30, xe_191_31, xe_191_32, xe_191_35, xe_191_38, xe_191_39, xe_191_41, xe_191_44, xe_191_45, xe_191_46, xe_191_47, xe_191_48, xe_191_51, xe_191_54, xe_191_55, xe_191_57, xe_191_60, xe_191_61, xe_191_62, xe_191_63, xe_191_64, xe_191_67, xe_191_70, xe_191_71, xe_191_72, xe_191_74, xe_191_77, xe_191_78, xe_191_81, xe_191_82, xe_191_84, xe_191_87, xe_191_88, xe_191_89, xe_191_92, xe_191_95, xe_191_96, xe_191_99, xe_191_100, xe_191_101, xe_191_104, xe_191_105, ite_self, mm_nL_I, mm_nL_R, mm_nL_0, Option.bind_some, Option.bind_none, bnd_ite, Option.toList_some, Option.toList_none, List.cons_append, List.nil_append, mm_cats_nil, mm_cats_I, mm_cats_L, mm_cats_R, if_true, if_false, true_and, and_true, false_and, and_false, not_true_eq_false, not_false_eq_true, Int.reduceLE, Int.reduceLT, Int.reduceEq, Int.reduceNe, Int.reduceNeg, Int.reduceAdd, Int.reduceSub, Int.reduceMul, Nat.reduceAdd, Nat.reduceLeDiff, true_or, or_true, false_or, or_false, reduceIte, k_149, I, kn']
    · have k0 : 0 ≤ k := by omega
      have mk := o5
      unfold mok at mk
      obtain ⟨x1, x2, x3, x4, x5, x6, x7, x8, x9, x10, _, _, _, _, _, _, _, _, y1, y2, y3, _⟩ := mk
      unfold Rmo at o4
      obtain ⟨q0, q1, q2, _, _, _, _, q7, _⟩ := o4
      generalize hh : c (50 + 2 * u) 1 = hv at *
      generalize hvv : c (50 + 2 * u) 5 = vv at *
      generalize hm : c (49 + 2 * u) 1 = mm at *
      generalize hpp : c (49 + 2 * u) 3 = pp at *
      have pl' : hv * vv ≤ (hv + c (50 + 2 * u) 2) * (vv + c (50 + 2 * u) 6) := Int.mul_le_mul (by omega) (by omega) (by omega) (by omega)
      have p1 : 1 ≤ (hv + c (50 + 2 * u) 2) * (vv + c (50 + 2 * u) 6) := by
        have := Int.mul_le_mul (show 1 ≤ hv by omega) (show 1 ≤ vv by omega) (by omega) (by omega)
        omega
      have hb := hz_b y2 x2 p1 y1
      obtain ⟨a', _, na⟩ := nd_e 3 hv (by omega) (by have : pw (3 + 1) = 10000 := by decide
                                                     omega)
      obtain ⟨b', _, nb'⟩ := nd_e 3 vv (by omega) (by have : pw (3 + 1) = 10000 := by decide
                                                      omega)
      obtain ⟨d', _, nc⟩ := nd_e 8 mm y1 (by have : pw (8 + 1) = 1000000000 := by decide
                                             omega)
      have tot := dg_tot (by omega) x4 (by omega) x6 y1 pl' hb.2 na nb' nc
      have hb1 := hb.1
      clear hb pl' p1 y2
      have t0 : c 132 0 = 133 := sx_132_0 hX
      have t1 : c 132 1 = 0 := h.2.2.2.2.2.2.2.2.2.2.2.2.2.1.1
      have t3 : 0 ≤ c 132 3 := h.2.2.2.2.2.2.2.2.2.2.2.2.2.1.2
      obtain ⟨l', S⟩ := t_setl (L := L) (c := c) (c 132 3) (c 132 2) (c 133) t0 t1 t3
      rw [← tx_i] at S
      have T1 := t_num (L := L) hd 0 l' hv (a' + 1) (c 133) t0 t1 (by omega) na (by omega) (by omega) (by omega)
      have T2 := fun f => t_ch (L := L) (c := c) (0 + ((a' + 1 : Nat) : Int)) l' 120 f t0 t1 (by omega) (by omega) (by omega) (by omega)
      have T3 := fun f => t_num (L := L) hd (0 + ((a' + 1 : Nat) : Int) + 1) l' vv (b' + 1) f t0 t1 (by omega) nb' (by omega) (by omega) (by omega)
      have T4 := fun f => t_ch (L := L) (c := c) (0 + ((a' + 1 : Nat) : Int) + 1 + ((b' + 1 : Nat) : Int)) l' 64 f t0 t1 (by omega) (by omega) (by omega) (by omega)
      have T5 := fun f => t_num (L := L) hd (0 + ((a' + 1 : Nat) : Int) + 1 + ((b' + 1 : Nat) : Int) + 1) l' mm (d' + 1) f t0 t1 (by omega) nc (by omega) (by omega) (by omega)
      have T6 := fun f => t_ch (L := L) (c := c) (0 + ((a' + 1 : Nat) : Int) + 1 + ((b' + 1 : Nat) : Int) + 1 + ((d' + 1 : Nat) : Int)) l' 33 f t0 t1 (by omega) (by omega) (by omega) (by omega)
      have B9 : ∀ n f, tx c n l' f (49 + 2 * u) = c (49 + 2 * u) := fun n f => tx_b _ _ _ _ _ (by omega) (by omega)
      have B5 : ∀ n f, tx c n l' f (50 + 2 * u) = c (50 + 2 * u) := fun n f => tx_b _ _ _ _ _ (by omega) (by omega)
      have B1 : ∀ n f, tx c n l' f 10 = c 10 := fun n f => tx_b _ _ _ _ _ (by omega) (by omega)
      have te := txt_e (c 133) (r 163) (a' + 1) (b' + 1) (d' + 1) hv vv mm pp k k0
      have X90 : ev 109 0 [some (vR 10), some (vI i), some (vI k), none] [] c (g_1 L) = ev 109 90 [some (vR 10), some (vI i), some (vI k), some (vR (49 + 2 * u))] [] (tx c (0 + ((a' + 1 : Nat) : Int) + 1 + ((b' + 1 : Nat) : Int) + 1 + ((d' + 1 : Nat) : Int) + (if pp = 1 then 1 else 0)) l' (txt (c 133) (a' + 1) (b' + 1) (d' + 1) hv vv mm pp)) (g_1 L) := by
        unfold txt
        by_cases pz : pp = 1
        · have pn : ¬ pp = 0 := by omega
          rw [if_pos pz, if_pos pz]
          simp only [xe_109_0, xe_109_1, xe_109_4, xe_109_5, xe_109_8 _ _ (some (vI _)) _ _ _ _ _ rfl, xe_109_8 _ _ (some (vR _)) _ _ _ _ _ rfl, xe_109_8 _ _ none _ _ _ _ _ rfl, xe_109_9, xe_109_10, xe_109_13, xe_109_15, xe_109_16, xe_109_17, xe_109_20, xe_109_22, xe_109_23, xe_109_24, xe_109_27, xe_109_28, xe_109_31, xe_109_32, xe_109_35, xe_109_36, xe_109_39, xe_109_42, xe_109_45, xe_109_47, xe_109_50, xe_109_51, xe_109_54, xe_109_57, xe_109_60, xe_109_62, xe_109_65, xe_109_66, xe_109_69, xe_109_72, xe_109_73, xe_109_74, xe_109_77, xe_109_80, xe_109_81, xe_109_84, xe_109_86, xe_109_89, ite_self, mm_nL_I, mm_nL_R, mm_nL_0, Option.bind_some, Option.bind_none, bnd_ite, Option.toList_some, Option.toList_none, List.cons_append, List.nil_append, mm_cats_nil, mm_cats_I, mm_cats_L, mm_cats_R, if_true, if_false, true_and, and_true, false_and, and_false, not_true_eq_false, not_false_eq_true, Int.reduceLE, Int.reduceLT, Int.reduceEq, Int.reduceNe, Int.reduceNeg, Int.reduceAdd, Int.reduceSub, Int.reduceMul, Nat.reduceAdd, Nat.reduceLeDiff, true_or, or_true, false_or, or_false, reduceIte, k_10, k_45, k_132, p4, p7, A, nz, n7, np, km, kt, k0, S, B1, B9, B5, ob, hh, hvv, hm, hpp, pn, T1, T2, T3, T4, T5, T6]
        · have pn : pp = 0 := by omega
          rw [if_neg pz, if_neg pz, Int.add_zero]
          simp only [xe_109_0, xe_109_1, xe_109_4, xe_109_5, xe_109_8 _ _ (some (vI _)) _ _ _ _ _ rfl, xe_109_8 _ _ (some (vR _)) _ _ _ _ _ rfl, xe_109_8 _ _ none _ _ _ _ _ rfl, xe_109_9, xe_109_10, xe_109_13, xe_109_15, xe_109_16, xe_109_17, xe_109_20, xe_109_22, xe_109_23, xe_109_24, xe_109_27, xe_109_28, xe_109_31, xe_109_32, xe_109_35, xe_109_36, xe_109_39, xe_109_42, xe_109_45, xe_109_47, xe_109_50, xe_109_51, xe_109_54, xe_109_57, xe_109_60, xe_109_62, xe_109_65, xe_109_66, xe_109_69, xe_109_72, xe_109_73, xe_109_74, xe_109_77, xe_109_80, xe_109_81, xe_109_84, xe_109_86, xe_109_89, ite_self, mm_nL_I, mm_nL_R, mm_nL_0, Option.bind_some, Option.bind_none, bnd_ite, Option.toList_some, Option.toList_none, List.cons_append, List.nil_append, mm_cats_nil, mm_cats_I, mm_cats_L, mm_cats_R, if_true, if_false, true_and, and_true, false_and, and_false, not_true_eq_false, not_false_eq_true, Int.reduceLE, Int.reduceLT, Int.reduceEq, Int.reduceNe, Int.reduceNeg, Int.reduceAdd, Int.reduceSub, Int.reduceMul, Nat.reduceAdd, Nat.reduceLeDiff, true_or, or_true, false_or, or_false, reduceIte, k_10, k_45, k_132, p4, p7, A, nz, n7, np, km, kt, k0, S, B1, B9, B5, ob, hh, hvv, hm, hpp, eq_true pn, T1, T2, T3, T4, T5]
      have OF : ∀ (n : Int) (f : Int → Int) (w : Int), 0 ≤ w → w < 12 → ev 168 0 [some (vR 149), some (vI i), some (vI w)] [] (ty (mset r 149 0 0) n f) (g_1 L) = some (some (vI (r 157 (12 * r 158 i + w))), ty (mset r 149 0 0) n f, g_1 L) := fun n f w w0 w1 => by
        have e7 : ty (mset r 149 0 0) n f 157 = r 157 := by rw [ty_b _ _ _ _ (by omega) (by omega), ms_row _ _ _ _ _ (by omega)]
        have e8 : ty (mset r 149 0 0) n f 158 = r 158 := by rw [ty_b _ _ _ _ (by omega) (by omega), ms_row _ _ _ _ _ (by omega)]
        have := s_ofMode L i w (ty (mset r 149 0 0) n f) (by rw [ty_k _ _ _ _ (by omega)]; exact sm_149_20 M0) (by rw [ty_k _ _ _ _ (by omega)]; exact sm_149_21 M0) a.1 (by omega) (by rw [e8]; exact o2) (by rw [e8]; omega) w0 w1
        rw [e7, e8] at this
        exact this
      have F0 := fun n f => OF n f 0 (by omega) (by omega)
      have F1 := fun n f => OF n f 1 (by omega) (by omega)
      have F2 := fun n f => OF n f 2 (by omega) (by omega)
      have F7 := fun n f => OF n f 7 (by omega) (by omega)
      rw [Int.add_zero] at F0
      rw [← q0] at F0
      rw [← q1] at F1
      rw [← q2] at F2
      rw [← q7] at F7
      have z3 : mset r 149 0 0 163 = r 163 := ms_row _ _ _ _ _ (by omega)
      have Z := ty_0 (mset r 149 0 0) 0
      rw [z3] at Z
      have U1 := y_num (L := L) M0 0 hv (a' + 1) (r 163) na (by omega) (by omega) (by omega) (by omega)
      have U2 := fun f => y_ch (L := L) M0 (0 + ((a' + 1 : Nat) : Int)) 120 f (by omega) (by omega)
      have U3 := fun f => y_num (L := L) M0 (0 + ((a' + 1 : Nat) : Int) + 1) vv (b' + 1) f nb' (by omega) (by omega) (by omega) (by omega)
      have U4 := fun f => y_ch (L := L) M0 (0 + ((a' + 1 : Nat) : Int) + 1 + ((b' + 1 : Nat) : Int)) 64 f (by omega) (by omega)
      have U5 := fun f => y_num (L := L) M0 (0 + ((a' + 1 : Nat) : Int) + 1 + ((b' + 1 : Nat) : Int) + 1) mm (d' + 1) f nc (by omega) (by omega) (by omega) (by omega)
      have U6 := fun f => y_ch (L := L) M0 (0 + ((a' + 1 : Nat) : Int) + 1 + ((b' + 1 : Nat) : Int) + 1 + ((d' + 1 : Nat) : Int)) 33 f (by omega) (by omega)
      have X87 : ev 191 0 [some (vR 149), some (vI i), some (vI k)] [] r (g_1 L) = ev 191 87 [some (vR 149), some (vI i), some (vI k)] [] (ty (mset r 149 0 0) (0 + ((a' + 1 : Nat) : Int) + 1 + ((b' + 1 : Nat) : Int) + 1 + ((d' + 1 : Nat) : Int) + (if pp = 1 then 1 else 0)) (txt (r 163) (a' + 1) (b' + 1) (d' + 1) hv vv mm pp)) (g_1 L) := by
        unfold txt
        by_cases pz : pp = 1
        · rw [if_pos pz, if_pos pz]
          simp only [xe_191_0, xe_191_1, xe_191_2, xe_191_5, xe_191_6, xe_191_7, xe_191_10, xe_191_13, xe_191_15, xe_191_16, xe_191_17, xe_191_20, xe_191_22, xe_191_23, xe_191_24, xe_191_25, xe_191_28, xe_191_29, xe_191_30, xe_191_31, xe_191_32, xe_191_35, xe_191_38, xe_191_39, xe_191_41, xe_191_44, xe_191_45, xe_191_46, xe_191_47, xe_191_48, xe_191_51, xe_191_54, xe_191_55, xe_191_57, xe_191_60, xe_191_61, xe_191_62, xe_191_63, xe_191_64, xe_191_67, xe_191_70, xe_191_71, xe_191_72, xe_191_74, xe_191_77, xe_191_78, xe_191_81, xe_191_82, xe_191_84, ite_self, mm_nL_I, mm_nL_R, mm_nL_0, Option.bind_some, Option.bind_none, bnd_ite, Option.toList_some, Option.toList_none, List.cons_append, List.nil_append, mm_cats_nil, mm_cats_I, mm_cats_L, mm_cats_R, if_true, if_false, true_and, and_true, false_and, and_false, not_true_eq_false, not_false_eq_true, Int.reduceLE, Int.reduceLT, Int.reduceEq, Int.reduceNe, Int.reduceNeg, Int.reduceAdd, Int.reduceSub, Int.reduceMul, Nat.reduceAdd, Nat.reduceLeDiff, true_or, or_true, false_or, or_false, reduceIte, k_149, I, k0, Z, F0, F1, F2, F7, eq_true pz, U1, U2, U3, U4, U5, U6]
        · rw [if_neg pz, if_neg pz, Int.add_zero]
          simp only [xe_191_0, xe_191_1, xe_191_2, xe_191_5, xe_191_6, xe_191_7, xe_191_10, xe_191_13, xe_191_15, xe_191_16, xe_191_17, xe_191_20, xe_191_22, xe_191_23, xe_191_24, xe_191_25, xe_191_28, xe_191_29, xe_191_30, xe_191_31, xe_191_32, xe_191_35, xe_191_38, xe_191_39, xe_191_41, xe_191_44, xe_191_45, xe_191_46, xe_191_47, xe_191_48, xe_191_51, xe_191_54, xe_191_55, xe_191_57, xe_191_60, xe_191_61, xe_191_62, xe_191_63, xe_191_64, xe_191_67, xe_191_70, xe_191_71, xe_191_72, xe_191_74, xe_191_77, xe_191_78, xe_191_81, xe_191_82, xe_191_84, ite_self, mm_nL_I, mm_nL_R, mm_nL_0, Option.bind_some, Option.bind_none, bnd_ite, Option.toList_some, Option.toList_none, List.cons_append, List.nil_append, mm_cats_nil, mm_cats_I, mm_cats_L, mm_cats_R, if_true, if_false, true_and, and_true, false_and, and_false, not_true_eq_false, not_false_eq_true, Int.reduceLE, Int.reduceLT, Int.reduceEq, Int.reduceNe, Int.reduceNeg, Int.reduceAdd, Int.reduceSub, Int.reduceMul, Nat.reduceAdd, Nat.reduceLeDiff, true_or, or_true, false_or, or_false, reduceIte, k_149, I, k0, Z, F0, F1, F2, F7, pz, U1, U2, U3, U4, U5]
      have Nb : 0 + ((a' + 1 : Nat) : Int) + 1 + ((b' + 1 : Nat) : Int) + 1 + ((d' + 1 : Nat) : Int) + (if pp = 1 then 1 else 0) ≤ 16 ∧ 0 ≤ 0 + ((a' + 1 : Nat) : Int) + 1 + ((b' + 1 : Nat) : Int) + 1 + ((d' + 1 : Nat) : Int) + (if pp = 1 then 1 else 0) := by split <;> omega
      generalize 0 + ((a' + 1 : Nat) : Int) + 1 + ((b' + 1 : Nat) : Int) + 1 + ((d' + 1 : Nat) : Int) + (if pp = 1 then 1 else 0) = N at *
      generalize (txt (c 133) (a' + 1) (b' + 1) (d' + 1) hv vv mm pp) = g1 at *
      generalize (txt (r 163) (a' + 1) (b' + 1) (d' + 1) hv vv mm pp) = g2 at *
      have kx : keC c (tx c N l' g1) := ⟨fun x hx => tx_b _ _ _ _ _ (by omega) (by omega), ⟨tx_k _ _ _ _ _ (by omega) (by omega), tx_k _ _ _ _ _ (by omega) (by omega), fun _ => by rw [tx_3]; exact Nb.2⟩, ⟨by rw [tx_b _ _ _ _ _ (by omega) (by omega)], by rw [tx_b _ _ _ _ _ (by omega) (by omega)], by rw [tx_b _ _ _ _ _ (by omega) (by omega)], by rw [tx_b _ _ _ _ _ (by omega) (by omega)]⟩, fun j _ => by rw [tx_b _ _ _ _ _ (by omega) (by omega), tx_b _ _ _ _ _ (by omega) (by omega)]; exact ⟨rfl, rfl⟩⟩
      have kr : keR r (ty (mset r 149 0 0) N g2) := ⟨fun x hx => by rw [ty_b _ _ _ _ (by omega) (by omega)]; exact (keR.t r).1 x hx, fun j hj => by rw [ty_k _ _ _ _ (by omega)]; exact (keR.t r).2 j hj⟩
      have fx : FX c (tx c N l' g1) := fun x hx => tx_b _ _ _ _ _ (by omega) (by omega)
      have fr : FM r (ty (mset r 149 0 0) N g2) := fun x hx => by rw [ty_b _ _ _ _ (by omega) (by omega)]; exact FM.t r x hx
      have B10 : tx c N l' g1 10 = c 10 := tx_b _ _ _ _ _ (by omega) (by omega)
      by_cases kl : k < N
      · have kl' : ¬ N ≤ k := by omega
        have te := te kl
        have TA := t_at (L := L) (c := c) N l' k g1 t0 t1 k0 kl Nb.1 te.2.1 te.2.2
        have v := ty_v (mset r 149 0 0) N g2 k k0 (by omega)
        rw [← te.1] at v
        have p27 : ty (mset r 149 0 0) N g2 149 27 = 163 := by rw [ty_k _ _ _ _ (by omega)]; exact sm_149_27 M0
        have k30 : k < 30 := by omega
        refine CALL.tell h (g1 k) _ _ (X90.trans ?_) (X87.trans ?_) kx kr fx fr
        · simp only [xe_109_90, xe_109_91, xe_109_92, xe_109_95, xe_109_98, xe_109_101, xe_109_102, xe_109_105, xe_109_106, xe_109_109, xe_109_112, xe_109_113, ite_self, mm_nL_I, mm_nL_R, mm_nL_0, Option.bind_some, Option.bind_none, bnd_ite, Option.toList_some, Option.toList_none, List.cons_append, List.nil_append, mm_cats_nil, mm_cats_I, mm_cats_L, mm_cats_R, if_true, if_false, true_and, and_true, false_and, and_false, not_true_eq_false, not_false_eq_true, Int.reduceLE, Int.reduceLT, Int.reduceEq, Int.reduceNe, Int.reduceNeg, Int.reduceAdd, Int.reduceSub, Int.reduceMul, Nat.reduceAdd, Nat.reduceLeDiff, true_or, or_true, false_or, or_false, reduceIte, k_10, k_132, B10, p7, t_len, kl', TA]
        · simp only [xe_191_87, xe_191_88, xe_191_89, xe_191_92, xe_191_95, xe_191_96, xe_191_99, xe_191_100, xe_191_101, xe_191_104, xe_191_105, ite_self, mm_nL_I, mm_nL_R, mm_nL_0, Option.bind_some, Option.bind_none, bnd_ite, Option.toList_some, Option.toList_none, List.cons_append, List.nil_append, mm_cats_nil, mm_cats_I, mm_cats_L, mm_cats_R, if_true, if_false, true_and, and_true, false_and, and_false, not_true_eq_false, not_false_eq_true, Int.reduceLE, Int.reduceLT, Int.reduceEq, Int.reduceNe, Int.reduceNeg, Int.reduceAdd, Int.reduceSub, Int.reduceMul, Nat.reduceAdd, Nat.reduceLeDiff, true_or, or_true, false_or, or_false, reduceIte, k_149, k_163, l_163, ty_n, kl', p27, k0, k30, v]
      · have kl' : N ≤ k := by omega
        refine CALL.tell h (-1) _ _ (X90.trans ?_) (X87.trans ?_) kx kr fx fr
        · simp only [xe_109_90, xe_109_91, xe_109_92, xe_109_95, xe_109_98, xe_109_101, xe_109_102, xe_109_105, xe_109_106, xe_109_109, xe_109_112, xe_109_113, ite_self, mm_nL_I, mm_nL_R, mm_nL_0, Option.bind_some, Option.bind_none, bnd_ite, Option.toList_some, Option.toList_none, List.cons_append, List.nil_append, mm_cats_nil, mm_cats_I, mm_cats_L, mm_cats_R, if_true, if_false, true_and, and_true, false_and, and_false, not_true_eq_false, not_false_eq_true, Int.reduceLE, Int.reduceLT, Int.reduceEq, Int.reduceNe, Int.reduceNeg, Int.reduceAdd, Int.reduceSub, Int.reduceMul, Nat.reduceAdd, Nat.reduceLeDiff, true_or, or_true, false_or, or_false, reduceIte, k_10, k_132, B10, p7, t_len, kl']
        · simp only [xe_191_87, xe_191_88, xe_191_89, xe_191_92, xe_191_95, xe_191_96, xe_191_99, xe_191_100, xe_191_101, xe_191_104, xe_191_105, ite_self, mm_nL_I, mm_nL_R, mm_nL_0, Option.bind_some, Option.bind_none, bnd_ite, Option.toList_some, Option.toList_none, List.cons_append, List.nil_append, mm_cats_nil, mm_cats_I, mm_cats_L, mm_cats_R, if_true, if_false, true_and, and_true, false_and, and_false, not_true_eq_false, not_false_eq_true, Int.reduceLE, Int.reduceLT, Int.reduceEq, Int.reduceNe, Int.reduceNeg, Int.reduceAdd, Int.reduceSub, Int.reduceMul, Nat.reduceAdd, Nat.reduceLeDiff, true_or, or_true, false_or, or_false, reduceIte, k_149, k_163, l_163, ty_n, kl']
  · rw [if_neg a] at A
    have bI : bi (0 ≤ i ∧ i < c 45 4) = 0 := if_neg a
    rw [bI] at I
    refine CALL.ask h (-2) ?_ ?_
    · simp only [xe_109_0, xe_109_1, xe_109_4, xe_109_5, xe_109_8 _ _ (some (vI _)) _ _ _ _ _ rfl, xe_109_8 _ _ (some (vR _)) _ _ _ _ _ rfl, xe_109_8 _ _ none _ _ _ _ _ rfl, xe_109_9, xe_109_10, xe_109_13, xe_109_15, xe_109_16, xe_109_17, xe_109_20, xe_109_22, xe_109_23, xe_109_24, xe_109_27, xe_109_28, xe_109_31, xe_109_32, xe_109_35, xe_109_36, xe_109_39, xe_109_42, xe_109_45, xe_109_47, xe_109_50, xe_109_51, xe_109_54, xe_109_57, xe_109_60, xe_109_62, xe_109_65, xe_109_66, xe_109_69, xe_109_72, xe_109_73, xe_109_74, xe_109_77, xe_109_80, xe_109_81, xe_109_84, xe_109_86, xe_109_89, xe_109_90, xe_109_91, xe_109_92, xe_109_95, xe_109_98, xe_109_101, xe_109_102, xe_109_105, xe_109_106, xe_109_109, xe_109_112, xe_109_113, ite_self, mm_nL_I, mm_nL_R, mm_nL_0, Option.bind_some, Option.bind_none, bnd_ite, Option.toList_some, Option.toList_none, List.cons_append, List.nil_append, mm_cats_nil, mm_cats_I, mm_cats_L, mm_cats_R, if_true, if_false, true_and, and_true, false_and, and_false, not_true_eq_false, not_false_eq_true, Int.reduceLE, Int.reduceLT, Int.reduceEq, Int.reduceNe, Int.reduceNeg, Int.reduceAdd, Int.reduceSub, Int.reduceMul, Nat.reduceAdd, Nat.reduceLeDiff, true_or, or_true, false_or, or_false, reduceIte, k_10, k_45, p4, A]
    · simp only [xe_191_0, xe_191_1, xe_191_2, xe_191_5, xe_191_6, xe_191_7, xe_191_10, xe_191_13, xe_191_15, xe_191_16, xe_191_17, xe_191_20, xe_191_22, xe_191_23, xe_191_24, xe_191_25, xe_191_28, xe_191_29, xe_191_30, xe_191_31, xe_191_32, xe_191_35, xe_191_38, xe_191_39, xe_191_41, xe_191_44, xe_191_45, xe_191_46, xe_191_47, xe_191_48, xe_191_51, xe_191_54, xe_191_55, xe_191_57, xe_191_60, xe_191_61, xe_191_62, xe_191_63, xe_191_64, xe_191_67, xe_191_70, xe_191_71, xe_191_72, xe_191_74, xe_191_77, xe_191_78, xe_191_81, xe_191_82, xe_191_84, xe_191_87, xe_191_88, xe_191_89, xe_191_92, xe_191_95, xe_191_96, xe_191_99, xe_191_100, xe_191_101, xe_191_104, xe_191_105, ite_self, mm_nL_I, mm_nL_R, mm_nL_0, Option.bind_some, Option.bind_none, bnd_ite, Option.toList_some, Option.toList_none, List.cons_append, List.nil_append, mm_cats_nil, mm_cats_I, mm_cats_L, mm_cats_R, if_true, if_false, true_and, and_true, false_and, and_false, not_true_eq_false, not_false_eq_true, Int.reduceLE, Int.reduceLT, Int.reduceEq, Int.reduceNe, Int.reduceNeg, Int.reduceAdd, Int.reduceSub, Int.reduceMul, Nat.reduceAdd, Nat.reduceLeDiff, true_or, or_true, false_or, or_false, reduceIte, k_149, I]
end CC
