/-! load: collect beside reads, whole -/
section S7
variable {L n : Int} {F : Int → Int} {c r : MM}
theorem lp_z0 : ∀ (m : Nat) (i : Int) (r : MM) (y2 y3 y4 : Option MV), 0 ≤ i → i + m = 7 → r 149 22 = 159 →
    ∃ r', ev 176 11 [some (vR 149), some (vI i), y2, y3, y4] [] r (g_1 L) = ev 176 32 [some (vR 149), some (vI 0), y2, y3, y4] [] r' (g_1 L) ∧ (∀ b, ¬ b = 159 → r' b = r b) ∧ (∀ j, i ≤ j → j < 7 → r' 159 j = 0) ∧ ∀ j, j < i → r' 159 j = r 159 j := by
  intro m
  induction m with
  | zero =>
    intro i r y2 y3 y4 i0 im p
    refine ⟨r, ?_, fun _ _ => rfl, fun j j0 j1 => by omega, fun _ _ => rfl⟩
    have g : i = 7 := by omega
    subst g
    rw [xe_176_11]
    simp only [xe_176_12, xe_176_14, xe_176_17, xe_176_18, xe_176_21, xe_176_22, xe_176_23, xe_176_24 (some (vI _)) _ _ _ _ _ _ _ rfl, xe_176_24 (some (vR _)) _ _ _ _ _ _ _ rfl, xe_176_24 none _ _ _ _ _ _ _ rfl, xe_176_27, xe_176_30, xe_176_31 (some (vI _)) _ _ _ _ _ _ _ _ rfl, xe_176_31 (some (vR _)) _ _ _ _ _ _ _ _ rfl, xe_176_31 none _ _ _ _ _ _ _ _ rfl, ite_self, mm_nL_I, mm_nL_R, mm_nL_0, Option.bind_some, Option.bind_none, bnd_ite, Option.toList_some, Option.toList_none, List.cons_append, List.nil_append, mm_cats_nil, mm_cats_I, mm_cats_L, mm_cats_R, if_true, if_false, true_and, and_true, false_and, and_false, not_true_eq_false, not_false_eq_true, Int.reduceLE, Int.reduceLT, Int.reduceEq, Int.reduceNe, Int.reduceNeg, Int.reduceAdd, Int.reduceSub, Int.reduceMul, Nat.reduceAdd, Nat.reduceLeDiff, true_or, or_true, false_or, or_false, reduceIte]
  | succ m ih =>
    intro i r y2 y3 y4 i0 im p
    obtain ⟨r', w1, w2, w3, w4⟩ := ih (i + 1) (mset r 159 i 0) y2 y3 y4 (by omega) (by omega) (by rw [ms_row _ _ _ _ _ (by omega)]; exact p)
    refine ⟨r', ?_, fun b hb => by rw [w2 b hb, ms_row _ _ _ _ _ hb], fun j j0 j1 => ?_, fun j j1 => by rw [w4 j (by omega), ms_nk _ _ _ _ _ _ (by omega)]⟩
    · have g : ¬ 7 ≤ i := by omega
      have a : 0 ≤ i ∧ i < 7 := by omega
      have w : w32 (i + 1) = i + 1 := wi32 (by omega) (by omega)
      rw [← w1, xe_176_11]
      simp only [xe_176_12, xe_176_14, xe_176_17, xe_176_18, xe_176_21, xe_176_22, xe_176_23, xe_176_24 (some (vI _)) _ _ _ _ _ _ _ rfl, xe_176_24 (some (vR _)) _ _ _ _ _ _ _ rfl, xe_176_24 none _ _ _ _ _ _ _ rfl, xe_176_27, xe_176_30, xe_176_31 (some (vI _)) _ _ _ _ _ _ _ _ rfl, xe_176_31 (some (vR _)) _ _ _ _ _ _ _ _ rfl, xe_176_31 none _ _ _ _ _ _ _ _ rfl, ite_self, mm_nL_I, mm_nL_R, mm_nL_0, Option.bind_some, Option.bind_none, bnd_ite, Option.toList_some, Option.toList_none, List.cons_append, List.nil_append, mm_cats_nil, mm_cats_I, mm_cats_L, mm_cats_R, if_true, if_false, true_and, and_true, false_and, and_false, not_true_eq_false, not_false_eq_true, Int.reduceLE, Int.reduceLT, Int.reduceEq, Int.reduceNe, Int.reduceNeg, Int.reduceAdd, Int.reduceSub, Int.reduceMul, Nat.reduceAdd, Nat.reduceLeDiff, true_or, or_true, false_or, or_false, reduceIte, k_149, k_159, l_159, p, g, a, w]
    · by_cases e : j = i
      · rw [w4 j (by omega), e, ms_eq]
      · exact w3 j (by omega) j1
theorem st_col (hX : SX c) (hM : SM r) (hP : PX c n F) (hQ : PM r n F) (n1 : 128 ≤ n) (hR : Rq c r) (hT : Rtb c r) (l6 : c 16 6 ≤ 22) (l8 : c 16 8 ≤ 384) (h7 : c 16 7 = r 149 19) (hp : Rpl c) :
    ∃ c' r', ev 34 0 [some (vR 45), some (vR 16), none, none, none] [] c (g_1 L) = some (none, c', g_1 L) ∧ ev 176 4 [some (vR 149), none, none, none, none] [] r (g_1 L) = some (none, r', g_1 L) ∧ Rmod c' r' ∧ Rpl c' ∧ gC c c' ∧ gR r r' := by
  obtain ⟨r0, z1, z2, z3, _⟩ := lp_z0 (L := L) 7 0 (mset r 149 23 0) none none none (by omega) (by omega) (by rw [ms_nk _ _ _ _ _ _ (by omega)]; exact sm_149_22 hM)
  have Fl := s_fill 47 0 7 (mset c 45 4 0) (g_1 L) (by omega) (k_47 L) (l_47 L) (by omega) (by omega)
  have cb : ∀ b, ¬ b = 45 → ¬ b = 47 → (fun (b j : Int) => if b = 47 ∧ 0 ≤ j ∧ j < 7 then 0 else mset c 45 4 0 b j) b = c b := fun b h1 h2 => by
    funext j; show (if b = 47 ∧ 0 ≤ j ∧ j < 7 then 0 else mset c 45 4 0 b j) = c b j
    rw [if_neg (fun q => h2 q.1), ms_row _ _ _ _ _ h1]
  have c45 : ∀ k, (fun (b j : Int) => if b = 47 ∧ 0 ≤ j ∧ j < 7 then 0 else mset c 45 4 0 b j) 45 k = if k = 4 then 0 else c 45 k := fun k => by
    show (if (45 : Int) = 47 ∧ 0 ≤ k ∧ k < 7 then 0 else mset c 45 4 0 45 k) = _
    rw [if_neg (by omega), ms_sa]
  have c47 : ∀ k, 0 ≤ k → k < 7 → (fun (b j : Int) => if b = 47 ∧ 0 ≤ j ∧ j < 7 then 0 else mset c 45 4 0 b j) 47 k = 0 := fun k k0 k1 => by
    show (if (47 : Int) = 47 ∧ 0 ≤ k ∧ k < 7 then 0 else mset c 45 4 0 47 k) = _
    rw [if_pos ⟨rfl, k0, k1⟩]
  generalize (fun (b j : Int) => if b = 47 ∧ 0 ≤ j ∧ j < 7 then 0 else mset c 45 4 0 b j) = c0 at *
  have g0 : gC c c0 := ⟨fun a ha => cb a (by omega) (by omega), fun k hk => by rw [c45, if_neg (by omega)], fun j j0 j1 => by rw [cb _ (by omega) (by omega)]⟩
  have g1 : gR r r0 := ⟨fun a ha => by rw [z2 a (by omega), ms_row _ _ _ _ _ (by omega)], fun k hk => by rw [z2 _ (by omega), ms_nk _ _ _ _ _ _ hk]⟩
  have c46 : c0 46 = c 46 := cb 46 (by omega) (by omega)
  have I0 : INV 0 c0 r0 0 := by
    refine ⟨by rw [c45]; rfl, by rw [z2 _ (by omega), ms_eq]; rfl, by omega, fun i i0 i1 => ?_, fun i i0 i1 => by omega, ?_⟩
    · rw [c47 i i0 i1, z3 i i0 i1]; omega
    · unfold Rpl; rw [c46]; exact hp
  have bx : CX n F 0 c0 r0 0 := by
    have h16 : c0 16 = c 16 := cb 16 (by omega) (by omega)
    refine ⟨hX.g g0, hM.g g1, ?_, ?_, ?_, hT.ke (fun a ha => cb a (by omega) (by omega)) (g1.1 _ (by omega)) (g1.1 _ (by omega)), ⟨by rw [h16]; exact l6, by rw [h16]; exact l8, by rw [h16, g1.2 _ (by omega)]; exact h7⟩, I0⟩
    · unfold PX XB at *
      rw [h16, cb 17 (by omega) (by omega), cb 18 (by omega) (by omega), cb 19 (by omega) (by omega)]; exact hP
    · unfold PM YB at *
      rw [g1.1 152 (by omega), g1.2 3 (by omega), g1.2 9 (by omega), g1.2 10 (by omega), g1.2 11 (by omega), g1.2 12 (by omega)]; exact hQ
    · obtain ⟨q1, q2, q3, q4, q5, q6⟩ := hR
      refine ⟨?_, q2.ke (by rw [h16]) (g0.1 _ (by omega)) (g1.2 _ (by omega)) (g1.1 _ (by omega)), q3.ke (by rw [h16]) (g0.1 _ (by omega)) (g1.2 _ (by omega)) (g1.1 _ (by omega)), q4.ke (by rw [h16]) (g0.1 _ (by omega)) (g1.2 _ (by omega)) (g1.1 _ (by omega)), q5.ke (by rw [h16]) (g1.2 _ (by omega)), q6.ke (by rw [h16]) (g1.2 _ (by omega))⟩
      obtain ⟨d1, d2, d3⟩ := q1
      unfold Qd
      rw [h16, g1.2 13 (by omega), g1.1 153 (by omega)]
      refine ⟨d1, d2, fun k k0 k1 => ?_⟩
      rw [g0.1 (23 + k) (by omega)]
      exact d3 k k0 k1
  have H := s_hasC (L := L) bx.2.2.1 54 (by omega) (by omega)
  have d6 := bx.2.2.2.2.1.1.2.1
  have d6' := bx.2.2.2.2.2.2.1.1
  obtain ⟨ca, ra, sa, va, a1, a2, a3, a4, a5⟩ := lp_dt (L := L) n1 (if hcl F 54 = true then 1 else 0) rfl (c0 16 6).toNat 0 0 c0 r0 0 none none none none (by omega) (by omega) (by omega) bx
  have d8 := a3.2.2.2.2.1.2.2.2.1.2.1
  have d8' := a3.2.2.2.2.2.2.1.2.1
  obtain ⟨cd, rd, sd, b1, b2, b3, b4, b5⟩ := lp_cd (L := L) (ca 16 8).toNat 0 _ ca ra sa none none none va (if hcl F 54 = true then 1 else 0) (by omega) (by omega) (by omega) a3
  obtain ⟨ce, re, se, y2, y3, y4, e1, e2, e3, e4, e5⟩ := lp_sd (L := L) n1 8 38 _ cd rd sd none none none va (if hcl F 54 = true then 1 else 0) (by omega) (by omega) (by omega) b3
  obtain ⟨cf, rf, sf, f1, f2, f3, f4, f5⟩ := lp_es (L := L) n1 6 0 _ ce re se y2 y3 y4 va (if hcl F 54 = true then 1 else 0) (by omega) (by omega) e3
  obtain ⟨i1, i2, i3, i4, i5, i6⟩ := f3.2.2.2.2.2.2.2
  have mb : ∀ i, 0 ≤ i → i < (sf : Int) → mrb (rf 157) i := fun j j0 j1 => by
    obtain ⟨i, k0, k1, k2⟩ := sor_s (rf 157) sf j j0 j1
    obtain ⟨u, o1, o2, o3, o4, o5, o6⟩ := i5 i k0 k1
    rw [k2] at o5
    unfold Rmo at o5
    unfold mok at o6
    unfold mrb
    obtain ⟨p1, p2, _, _, _, _, _, p8, _⟩ := o5
    rw [← p1, ← p2, ← p8]
    obtain ⟨_, _, w1, w2, w3, w4, _, _, _, _, _, _, _, _, _, _, _, _, _, _, w5, _⟩ := o6
    exact ⟨by omega, w2, by omega, w4, w5⟩
  obtain ⟨rg, o1, o2, o3⟩ := lp_or (L := L) (rf 157) sf i3 mb sf 0 rf y2 y3 y4 (by omega) (sm_149_20 f3.2.1) (sm_149_21 f3.2.1) i2 rfl (fun j j0 j1 => by omega)
  refine ⟨cf, rg, ?_, ?_, ?_, i6, g0.tr (a4.tr (b4.tr (e4.tr f4))), g1.tr (a5.tr (b5.tr (e5.tr (f5.tr ⟨fun a ha => o2 a (by omega), fun k hk => by rw [o2 149 (by omega)]⟩))))⟩
  · rw [show (5 * ((0 : Nat) : Int)) = 0 from rfl] at f1
    rw [← f1, ← e1, ← b1, ← a1]
    have x1 : mset c 45 4 0 45 1 = 47 := by rw [ms_nk _ _ _ _ _ _ (by omega)]; exact sx_45_1 hX
    simp only [xe_34_0, xe_34_1, xe_34_2, xe_34_5, xe_34_6, xe_34_9, xe_34_10, xe_34_13, xe_34_14, xe_34_16, xe_34_19 _ (some (vI _)) _ _ _ _ _ _ _ rfl, xe_34_19 _ (some (vR _)) _ _ _ _ _ _ _ rfl, xe_34_19 _ none _ _ _ _ _ _ _ rfl, xe_34_20, xe_34_21 _ _ (some (vI _)) _ _ _ _ _ _ rfl, xe_34_21 _ _ (some (vR _)) _ _ _ _ _ _ rfl, xe_34_21 _ _ none _ _ _ _ _ _ rfl, ite_self, mm_nL_I, mm_nL_R, mm_nL_0, Option.bind_some, Option.bind_none, bnd_ite, Option.toList_some, Option.toList_none, List.cons_append, List.nil_append, mm_cats_nil, mm_cats_I, mm_cats_L, mm_cats_R, if_true, if_false, true_and, and_true, false_and, and_false, not_true_eq_false, not_false_eq_true, Int.reduceLE, Int.reduceLT, Int.reduceEq, Int.reduceNe, Int.reduceNeg, Int.reduceAdd, Int.reduceSub, Int.reduceMul, Nat.reduceAdd, Nat.reduceLeDiff, true_or, or_true, false_or, or_false, reduceIte, k_45, k_47, l_47, k_16, x1, Fl, H]
  · rw [show (5 * ((0 : Nat) : Int)) = 0 from rfl] at f2
    rw [show (((0 : Nat) : Int)) = 0 from rfl] at o1
    rw [← o1, ← f2, ← e2, ← b2, ← a2, ← z1]
    simp only [xe_176_4, xe_176_5, xe_176_6, xe_176_9, xe_176_10 (some (vI _)) _ _ _ _ _ _ _ _ rfl, xe_176_10 (some (vR _)) _ _ _ _ _ _ _ _ rfl, xe_176_10 none _ _ _ _ _ _ _ _ rfl, ite_self, mm_nL_I, mm_nL_R, mm_nL_0, Option.bind_some, Option.bind_none, bnd_ite, Option.toList_some, Option.toList_none, List.cons_append, List.nil_append, mm_cats_nil, mm_cats_I, mm_cats_L, mm_cats_R, if_true, if_false, true_and, and_true, false_and, and_false, not_true_eq_false, not_false_eq_true, Int.reduceLE, Int.reduceLT, Int.reduceEq, Int.reduceNe, Int.reduceNeg, Int.reduceAdd, Int.reduceSub, Int.reduceMul, Nat.reduceAdd, Nat.reduceLeDiff, true_or, or_true, false_or, or_false, reduceIte, k_149]
  · unfold Rmod
    rw [o2 149 (by omega), o2 157 (by omega), o2 159 (by omega), i1]
    refine ⟨i2.symm, by omega, i3, fun i k0 k1 => (i4 i k0 k1).1, fun i k0 k1 => ?_⟩
    obtain ⟨u, p1, u0, u1, x⟩ := i5 i k0 k1
    have o := sor_r (rf 157) sf i k0 k1
    rw [o3 i k0 k1]
    exact ⟨u, p1, u0, u1, o.1, o.2, x.2.1, x.2.2⟩
end S7
