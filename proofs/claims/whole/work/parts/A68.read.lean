/-! load: read beside readsAll -/
section RE
variable {L n : Int} {F : Int → Int}
theorem bs_lp (n1 : 128 ≤ n) : ∀ (m : Nat) (d : Int) (c r : MM), 0 ≤ d → d + m = 4 → PX c n F → PM r n F → Rq c r → c 16 6 ≤ d →
    ∃ c' r', ev 42 59 [some (vR 16), some (vR 13), some (vI d), none] [] c (g_1 L) = ev 42 81 [some (vR 16), some (vR 13), some (vI 4), none] [] c' (g_1 L) ∧ ev 166 33 [some (vR 149), some (vI (54 + 18 * d)), none, none, none] [] r (g_1 L) = ev 166 66 [some (vR 149), some (vI 126), none, none, none] [] r' (g_1 L) ∧ Rq c' r' ∧ fC c c' ∧ fR r r' ∧ c' 16 6 ≤ 4 ∧ (∀ k, ¬ k = 6 → ¬ k = 9 → ¬ k = 12 → c' 16 k = c 16 k) := by
  intro m
  induction m with
  | zero =>
    intro d c r d0 hd hX hM hR h6
    have e : d = 4 := by omega
    subst e
    refine ⟨c, r, ?_, ?_, hR, fC.rf c, fR.rf r, h6, fun _ _ _ _ => rfl⟩
    · simp only [xe_42_59, xe_42_60, xe_42_61, ite_self, mm_nL_I, mm_nL_R, mm_nL_0, Option.bind_some, Option.bind_none, bnd_ite, Option.toList_some, Option.toList_none, List.cons_append, List.nil_append, mm_cats_nil, mm_cats_I, mm_cats_L, mm_cats_R, if_true, if_false, true_and, and_true, false_and, and_false, not_true_eq_false, not_false_eq_true, Int.reduceLE, Int.reduceLT, Int.reduceEq, Int.reduceNe, Int.reduceNeg, Int.reduceAdd, Int.reduceSub, Int.reduceMul, Nat.reduceAdd, Nat.reduceLeDiff, true_or, or_true, false_or, or_false, reduceIte]
    · simp only [xe_166_33, xe_166_34, xe_166_36, ite_self, mm_nL_I, mm_nL_R, mm_nL_0, Option.bind_some, Option.bind_none, bnd_ite, Option.toList_some, Option.toList_none, List.cons_append, List.nil_append, mm_cats_nil, mm_cats_I, mm_cats_L, mm_cats_R, if_true, if_false, true_and, and_true, false_and, and_false, not_true_eq_false, not_false_eq_true, Int.reduceLE, Int.reduceLT, Int.reduceEq, Int.reduceNe, Int.reduceNeg, Int.reduceAdd, Int.reduceSub, Int.reduceMul, Nat.reduceAdd, Nat.reduceLeDiff, true_or, or_true, false_or, or_false, reduceIte]
  | succ m ih =>
    intro d c r d0 hd hX hM hR h6
    have g : ¬ 4 ≤ d := by omega
    have g2 : ¬ 126 ≤ 54 + 18 * d := by omega
    have w1 : w32 (d * 18) = 18 * d := by rw [wi32 (by omega) (by omega)]; omega
    have w2 : w32 (54 + 18 * d) = 54 + 18 * d := wi32 (by omega) (by omega)
    have w3 : w32 (d + 1) = d + 1 := wi32 (by omega) (by omega)
    have w4 : w32 (54 + 18 * d + 18) = 54 + 18 * (d + 1) := by rw [wi32 (by omega) (by omega)]; omega
    have HX := s_hasC (L := L) hX (54 + 18 * d) (by omega) (by omega)
    have HM := s_isDe (L := L) hM (54 + 18 * d) (by omega) (by omega)
    cases hc : hcl F (54 + 18 * d)
    · rw [if_neg (by rw [hc]; decide)] at HX HM
      obtain ⟨c1, r1, u1, u2, u3, u4, u5, u6⟩ := st_oth (L := L) hX hM hR (54 + 18 * d) (by omega) (by omega) hc
      obtain ⟨c2, r2, v1, v2, v3, v4, v5, v6, v7⟩ := ih (d + 1) c1 r1 (by omega) (by omega) (hX.f u4) (hM.f u5) u3 (by rw [u6 6 (by omega) (by omega)]; omega)
      refine ⟨c2, r2, ?_, ?_, v3, u4.tr v4, u5.tr v5, v6, fun k h1 h2 h3 => by rw [v7 k h1 h2 h3, u6 k h2 h3]⟩
      · rw [← v1, xe_42_59]
        simp only [xe_42_60, xe_42_61, xe_42_64, xe_42_65, xe_42_67, xe_42_68, xe_42_70, xe_42_71, xe_42_72, xe_42_75 _ (some (vI _)) _ _ _ _ _ rfl, xe_42_75 _ (some (vR _)) _ _ _ _ _ rfl, xe_42_75 _ none _ _ _ _ _ rfl, xe_42_78, ite_self, mm_nL_I, mm_nL_R, mm_nL_0, Option.bind_some, Option.bind_none, bnd_ite, Option.toList_some, Option.toList_none, List.cons_append, List.nil_append, mm_cats_nil, mm_cats_I, mm_cats_L, mm_cats_R, if_true, if_false, true_and, and_true, false_and, and_false, not_true_eq_false, not_false_eq_true, Int.reduceLE, Int.reduceLT, Int.reduceEq, Int.reduceNe, Int.reduceNeg, Int.reduceAdd, Int.reduceSub, Int.reduceMul, Nat.reduceAdd, Nat.reduceLeDiff, true_or, or_true, false_or, or_false, reduceIte, k_16, u1, w1, w2, w3, g]
      · rw [← v2, xe_166_33]
        simp only [xe_166_34, xe_166_36, xe_166_39, xe_166_40, xe_166_41, xe_166_44, xe_166_47, xe_166_48, xe_166_49, xe_166_52, xe_166_55, xe_166_56, xe_166_57, xe_166_60 (some (vI _)) _ _ _ _ _ _ _ rfl, xe_166_60 (some (vR _)) _ _ _ _ _ _ _ rfl, xe_166_60 none _ _ _ _ _ _ _ rfl, xe_166_63, ite_self, mm_nL_I, mm_nL_R, mm_nL_0, Option.bind_some, Option.bind_none, bnd_ite, Option.toList_some, Option.toList_none, List.cons_append, List.nil_append, mm_cats_nil, mm_cats_I, mm_cats_L, mm_cats_R, if_true, if_false, true_and, and_true, false_and, and_false, not_true_eq_false, not_false_eq_true, Int.reduceLE, Int.reduceLT, Int.reduceEq, Int.reduceNe, Int.reduceNeg, Int.reduceAdd, Int.reduceSub, Int.reduceMul, Nat.reduceAdd, Nat.reduceLeDiff, true_or, or_true, false_or, or_false, reduceIte, k_149, HM, u2, w4, g2]
    · rw [if_pos hc] at HX HM
      obtain ⟨c1, r1, u1, u2, u3, u4, u5, u6, u7⟩ := st_det (L := L) hX hM hR (54 + 18 * d) (by omega) (by omega) (by omega) hc
      obtain ⟨c2, r2, v1, v2, v3, v4, v5, v6, v7⟩ := ih (d + 1) c1 r1 (by omega) (by omega) (hX.f u4) (hM.f u5) u3 (by omega)
      have N : ev 43 0 [some (vR 16), some (vI (54 + 18 * d))] [] c (g_1 L) = some (none, c1, g_1 L) := by
        simp only [xe_43_0, xe_43_1, xe_43_2, xe_43_5, xe_43_8, xe_43_9, xe_43_10, xe_43_13, xe_43_16, xe_43_17, xe_43_20, xe_43_21, xe_43_22, xe_43_23, xe_43_26, xe_43_29, xe_43_32, xe_43_33, xe_43_34, xe_43_35, xe_43_36, xe_43_39, xe_43_42, xe_43_43, xe_43_46, xe_43_47, xe_43_48, xe_43_49, xe_43_52, xe_43_55, xe_43_58, xe_43_59, xe_43_60, xe_43_61, xe_43_62, xe_43_65, ite_self, mm_nL_I, mm_nL_R, mm_nL_0, Option.bind_some, Option.bind_none, bnd_ite, Option.toList_some, Option.toList_none, List.cons_append, List.nil_append, mm_cats_nil, mm_cats_I, mm_cats_L, mm_cats_R, if_true, if_false, true_and, and_true, false_and, and_false, not_true_eq_false, not_false_eq_true, Int.reduceLE, Int.reduceLT, Int.reduceEq, Int.reduceNe, Int.reduceNeg, Int.reduceAdd, Int.reduceSub, Int.reduceMul, Nat.reduceAdd, Nat.reduceLeDiff, true_or, or_true, false_or, or_false, reduceIte, k_16, HX, u1]
      refine ⟨c2, r2, ?_, ?_, v3, u4.tr v4, u5.tr v5, v6, fun k h1 h2 h3 => by rw [v7 k h1 h2 h3, u7 k h1]⟩
      · rw [← v1, xe_42_59]
        simp only [xe_42_60, xe_42_61, xe_42_64, xe_42_65, xe_42_67, xe_42_68, xe_42_70, xe_42_71, xe_42_72, xe_42_75 _ (some (vI _)) _ _ _ _ _ rfl, xe_42_75 _ (some (vR _)) _ _ _ _ _ rfl, xe_42_75 _ none _ _ _ _ _ rfl, xe_42_78, ite_self, mm_nL_I, mm_nL_R, mm_nL_0, Option.bind_some, Option.bind_none, bnd_ite, Option.toList_some, Option.toList_none, List.cons_append, List.nil_append, mm_cats_nil, mm_cats_I, mm_cats_L, mm_cats_R, if_true, if_false, true_and, and_true, false_and, and_false, not_true_eq_false, not_false_eq_true, Int.reduceLE, Int.reduceLT, Int.reduceEq, Int.reduceNe, Int.reduceNeg, Int.reduceAdd, Int.reduceSub, Int.reduceMul, Nat.reduceAdd, Nat.reduceLeDiff, true_or, or_true, false_or, or_false, reduceIte, k_16, N, w1, w2, w3, g]
      · rw [← v2, xe_166_33]
        simp only [xe_166_34, xe_166_36, xe_166_39, xe_166_40, xe_166_41, xe_166_44, xe_166_47, xe_166_48, xe_166_49, xe_166_52, xe_166_55, xe_166_56, xe_166_57, xe_166_60 (some (vI _)) _ _ _ _ _ _ _ rfl, xe_166_60 (some (vR _)) _ _ _ _ _ _ _ rfl, xe_166_60 none _ _ _ _ _ _ _ rfl, xe_166_63, ite_self, mm_nL_I, mm_nL_R, mm_nL_0, Option.bind_some, Option.bind_none, bnd_ite, Option.toList_some, Option.toList_none, List.cons_append, List.nil_append, mm_cats_nil, mm_cats_I, mm_cats_L, mm_cats_R, if_true, if_false, true_and, and_true, false_and, and_false, not_true_eq_false, not_false_eq_true, Int.reduceLE, Int.reduceLT, Int.reduceEq, Int.reduceNe, Int.reduceNeg, Int.reduceAdd, Int.reduceSub, Int.reduceMul, Nat.reduceAdd, Nat.reduceLeDiff, true_or, or_true, false_or, or_false, reduceIte, k_149, HM, u2, w4, g2]
def zC (c : MM) (n : Int) : MM := mset (mset (mset (mset (mset (mset (mset (mcopy (mset c 17 1 n) 18 0 n (fun q => c 14 q)) 16 5 (n / 128)) 16 6 0) 16 8 0) 16 9 0) 16 10 0) 16 11 0) 16 12 0
def zR (r : MM) : MM := mset (mset (mset (mset (mset (mset r 149 13 0) 149 14 0) 149 15 0) 149 16 0) 149 17 0) 149 18 0
theorem zC_b (c : MM) (n b : Int) (h : ¬ (16 ≤ b ∧ b ≤ 18)) : zC c n b = c b := by
  unfold zC
  rw [ms_row _ _ _ _ _ (by omega), ms_row _ _ _ _ _ (by omega), ms_row _ _ _ _ _ (by omega), ms_row _ _ _ _ _ (by omega), ms_row _ _ _ _ _ (by omega), ms_row _ _ _ _ _ (by omega), ms_row _ _ _ _ _ (by omega)]
  funext j; unfold mcopy; rw [if_neg (by omega), ms_row _ _ _ _ _ (by omega)]
theorem zC_16 (c : MM) (n k : Int) : zC c n 16 k = if k = 5 then n / 128 else if k = 6 ∨ 8 ≤ k ∧ k ≤ 12 then 0 else c 16 k := by
  unfold zC
  rw [ms_sa, ms_sa, ms_sa, ms_sa, ms_sa, ms_sa, ms_sa]
  have e : mcopy (mset c 17 1 n) 18 0 n (fun q => c 14 q) 16 k = c 16 k := by unfold mcopy; rw [if_neg (by omega), ms_row _ _ _ _ _ (by omega)]
  rw [e]
  (repeat' split) <;> first | rfl | omega
theorem zC_17 (c : MM) (n k : Int) : zC c n 17 k = if k = 1 then n else c 17 k := by
  unfold zC
  rw [ms_row _ _ _ _ _ (by omega), ms_row _ _ _ _ _ (by omega), ms_row _ _ _ _ _ (by omega), ms_row _ _ _ _ _ (by omega), ms_row _ _ _ _ _ (by omega), ms_row _ _ _ _ _ (by omega), ms_row _ _ _ _ _ (by omega)]
  unfold mcopy; rw [if_neg (by omega), ms_sa]
theorem zC_18 (c : MM) (n k : Int) (h0 : 0 ≤ k) (h1 : k < n) : zC c n 18 k = c 14 k := by
  unfold zC
  rw [ms_row _ _ _ _ _ (by omega), ms_row _ _ _ _ _ (by omega), ms_row _ _ _ _ _ (by omega), ms_row _ _ _ _ _ (by omega), ms_row _ _ _ _ _ (by omega), ms_row _ _ _ _ _ (by omega), ms_row _ _ _ _ _ (by omega)]
  unfold mcopy; rw [if_pos (by omega), show k - 0 = k by omega]
theorem zR_b (r : MM) (b : Int) (h : ¬ b = 149) : zR r b = r b := by
  unfold zR; rw [ms_row _ _ _ _ _ h, ms_row _ _ _ _ _ h, ms_row _ _ _ _ _ h, ms_row _ _ _ _ _ h, ms_row _ _ _ _ _ h, ms_row _ _ _ _ _ h]
theorem zR_k (r : MM) (k : Int) : zR r 149 k = if 13 ≤ k ∧ k ≤ 18 then 0 else r 149 k := by
  unfold zR
  rw [ms_sa, ms_sa, ms_sa, ms_sa, ms_sa, ms_sa]
  (repeat' split) <;> first | rfl | omega
theorem st_read {c r : MM} (hX : SX c) (hM : SM r) (B : Int) (hB : n = 128 * B) (B1 : 1 ≤ B) (B4 : B ≤ 4) (h13 : c 13 1 = n) (hF : ∀ i, 0 ≤ i → i < n → c 14 i = F i ∧ r 152 i = F i ∧ 0 ≤ F i ∧ F i < 256) (h6 : r 149 6 = B) (hE : ∀ x, 1 ≤ x → x < B → EX F (128 * x)) :
    ∃ c' r', ev 42 0 [some (vR 16), some (vR 13), none, none] [] c (g_1 L) = some (none, c', g_1 L) ∧ ev 166 0 [some (vR 149), none, none, none, none] [] r (g_1 L) = some (none, r', g_1 L) ∧ Rq c' r' ∧ c' 16 7 = r' 149 19 ∧ c' 16 6 ≤ 22 ∧ c' 16 8 ≤ 384 ∧ PX c' n F ∧ PM r' n F ∧ c' 16 5 = B ∧ (∀ b, ¬ (16 ≤ b ∧ b ≤ 44) → c' b = c b) ∧ (∀ k, k ≤ 4 → c' 16 k = c 16 k) ∧ c' 17 0 = c 17 0 ∧ c' 19 = c 19 ∧ (∀ b, ¬ (b = 149 ∨ 153 ≤ b ∧ b ≤ 156) → r' b = r b) ∧ (∀ k, ¬ (13 ≤ k ∧ k ≤ 19) → r' 149 k = r 149 k) := by
  have hX0 : PX (zC c n) n F := by
    refine ⟨⟨by rw [zC_17]; exact sx_17_0 hX, by rw [zC_17]; rfl, by omega, fun i i0 i1 => ?_⟩, by rw [zC_16]; exact sx_16_0 hX, by rw [zC_16]; exact sx_16_1 hX, by rw [zC_16]; exact sx_16_2 hX, by rw [zC_16]; exact sx_16_3 hX, by rw [zC_16]; exact sx_16_4 hX, fun k k0 k1 => by rw [zC_b _ _ _ (by omega)]; exact hX.2.1 k k0 k1⟩
    rw [zC_18 _ _ _ i0 i1]
    have := hF i i0 i1
    exact ⟨this.1, this.2.2⟩
  have hM0 : PM (zR r) n F := by
    refine ⟨⟨by rw [zR_k]; exact sm_149_3 hM, by omega, fun i i0 i1 => ?_⟩, by rw [zR_k]; exact sm_149_9 hM, by rw [zR_k]; exact sm_149_10 hM, by rw [zR_k]; exact sm_149_11 hM, by rw [zR_k]; exact sm_149_12 hM⟩
    rw [zR_b _ _ (by omega)]
    have := hF i i0 i1
    exact ⟨this.2.1, this.2.2⟩
  have R0 : Rq (zC c n) (zR r) := by
    refine ⟨⟨?_, ?_, fun k k0 k1 => ?_⟩, ⟨?_, ?_, ?_, fun k k0 k1 => ?_⟩, ⟨?_, ?_, fun q => ?_⟩, ⟨?_, ?_, fun k k0 k1 => ?_⟩, ⟨?_, ?_⟩, ⟨?_, ?_, ?_⟩⟩
    · rw [zC_16, zR_k]; rfl
    · rw [zC_16, if_neg (by omega), if_pos (by omega)]; omega
    · rw [zC_16] at k1; have k1' : k < 0 := k1; omega
    · rw [zC_16, zR_k]; rfl
    · rw [zC_16, if_neg (by omega), if_pos (by omega)]; omega
    · rw [zC_16, if_neg (by omega), if_pos (by omega)]; omega
    · rw [zC_16] at k1; have k1' : k < 0 := k1; omega
    · rw [zC_16, zR_k]; rfl
    · rw [zC_16]; exact Or.inl rfl
    · rw [zC_16] at q; have q' : (0 : Int) = 1 := q; omega
    · rw [zC_16, zR_k]; rfl
    · rw [zC_16, if_neg (by omega), if_pos (by omega)]; omega
    · rw [zC_16] at k1; have k1' : k < 0 := k1; omega
    · rw [zC_16, zR_k]; rfl
    · rw [zC_16, if_neg (by omega), if_pos (by omega)]; omega
    · rw [zC_16, zR_k]; rfl
    · rw [zC_16, if_neg (by omega), if_pos (by omega)]; omega
    · rw [zC_16, if_neg (by omega), if_pos (by omega)]; omega
  obtain ⟨c1, r1, u1, u2, u3, u4, u5, u6, u7⟩ := bs_lp (L := L) (n := n) (F := F) (by omega) 4 0 (zC c n) (zR r) (by omega) (by omega) hX0 hM0 R0 (by rw [zC_16, if_neg (by omega), if_pos (by omega)]; omega)
  have f1 : fC c1 (mset c1 16 7 (c1 16 6)) ∨ True := Or.inr trivial
  have c2b : ∀ b, ¬ b = 16 → mset c1 16 7 (c1 16 6) b = c1 b := fun b hb => ms_row _ _ _ _ _ hb
  have c2k : ∀ k, ¬ k = 7 → mset c1 16 7 (c1 16 6) 16 k = c1 16 k := fun k hk => ms_nk _ _ _ _ _ _ hk
  have r2b : ∀ b, ¬ b = 149 → mset r1 149 19 (r1 149 13) b = r1 b := fun b hb => ms_row _ _ _ _ _ hb
  have r2k : ∀ k, ¬ k = 19 → mset r1 149 19 (r1 149 13) 149 k = r1 149 k := fun k hk => ms_nk _ _ _ _ _ _ hk
  have X2 : PX (mset c1 16 7 (c1 16 6)) n F := by
    have := hX0.f u4
    unfold PX XB at *
    rw [c2b 17 (by omega), c2b 18 (by omega), c2b 19 (by omega), c2k 0 (by omega), c2k 1 (by omega), c2k 2 (by omega), c2k 3 (by omega), c2k 4 (by omega)]; exact this
  have M2 : PM (mset r1 149 19 (r1 149 13)) n F := by
    have := hM0.f u5
    unfold PM YB at *
    rw [r2b 152 (by omega), r2k 3 (by omega), r2k 9 (by omega), r2k 10 (by omega), r2k 11 (by omega), r2k 12 (by omega)]; exact this
  have R2 : Rq (mset c1 16 7 (c1 16 6)) (mset r1 149 19 (r1 149 13)) := by
    obtain ⟨q1, q2, q3, q4, q5, q6⟩ := u3
    exact ⟨q1.ke (c2k _ (by omega)) (fun a ha => c2b a (by omega)) (r2k _ (by omega)) (r2b _ (by omega)), q2.ke (c2k _ (by omega)) (c2b _ (by omega)) (r2k _ (by omega)) (r2b _ (by omega)), q3.ke (c2k _ (by omega)) (c2b _ (by omega)) (r2k _ (by omega)) (r2b _ (by omega)), q4.ke (c2k _ (by omega)) (c2b _ (by omega)) (r2k _ (by omega)) (r2b _ (by omega)), q5.ke (c2k _ (by omega)) (r2k _ (by omega)), q6.ke (c2k _ (by omega)) (r2k _ (by omega))⟩
  have d1 : mm_div n 128 = B := by rw [nu_div (by omega) (by omega) (by omega) (by omega)]; omega
  have c5 : c1 16 5 = B := by rw [u4.2 5 (by omega), zC_16, if_pos rfl]; omega
  have r6 : r1 149 6 = B := by rw [u5.2 6 (by omega), zR_k, if_neg (by omega)]; exact h6
  obtain ⟨c3, r3, v1, v2, v3, v4, v5, v6, v7⟩ := bk_lp (L := L) B hB B4 hE (B - 1).toNat 1 (mset c1 16 7 (c1 16 6)) (mset r1 149 19 (r1 149 13)) none none none none (by omega) (by omega) X2 M2 R2 (by rw [c2k _ (by omega)]; exact c5) (by rw [r2k _ (by omega)]; exact r6) (by rw [c2k _ (by omega)]; omega) (by rw [c2k _ (by omega), u7 8 (by omega) (by omega) (by omega), zC_16, if_neg (by omega), if_pos (by omega)]; omega) (by rw [c2k _ (by omega), u7 10 (by omega) (by omega) (by omega), zC_16, if_neg (by omega), if_pos (by omega)]; omega)
  have T := s_take 17 13 n c (g_1 L) (k_17 L) (sx_17_0 hX) (k_18 L) (l_18 L) (k_13 L) (sx_13_0 hX) (k_14 L) (l_14 L) (by omega) (by omega) (by omega) (by omega) (by omega) (by omega) (by omega)
  have T' : ev 4 0 [some (vR 17), some (vR 13), some (vI n)] [] c (g_1 L) = some (none, mcopy (mset c 17 1 n) 18 0 n (fun q => c 14 q), g_1 L) := T
  have t16 : mcopy (mset c 17 1 n) 18 0 n (fun q => c 14 q) 16 = c 16 := by funext j; unfold mcopy; rw [if_neg (by omega), ms_row _ _ _ _ _ (by omega)]
  have t17 : mcopy (mset c 17 1 n) 18 0 n (fun q => c 14 q) 17 1 = n := by unfold mcopy; rw [if_neg (by omega), ms_eq]
  have dn : n / 128 = B := by omega
  have sx : ev 42 0 [some (vR 16), some (vR 13), none, none] [] c (g_1 L) = ev 42 59 [some (vR 16), some (vR 13), some (vI 0), none] [] (zC c n) (g_1 L) := by
    unfold zC
    rw [dn]
    simp only [xe_42_0, xe_42_1, xe_42_4, xe_42_5, xe_42_6, xe_42_9, xe_42_12, xe_42_13, xe_42_14, xe_42_17, xe_42_20, xe_42_23, xe_42_24, xe_42_27, xe_42_28, xe_42_29, xe_42_32, xe_42_33, xe_42_34, xe_42_37, xe_42_38, xe_42_39, xe_42_42, xe_42_43, xe_42_44, xe_42_47, xe_42_48, xe_42_49, xe_42_52, xe_42_53, xe_42_54, xe_42_57, xe_42_58 _ (some (vI _)) _ _ _ _ _ _ rfl, xe_42_58 _ (some (vR _)) _ _ _ _ _ _ rfl, xe_42_58 _ none _ _ _ _ _ _ rfl, ite_self, mm_nL_I, mm_nL_R, mm_nL_0, Option.bind_some, Option.bind_none, bnd_ite, Option.toList_some, Option.toList_none, List.cons_append, List.nil_append, mm_cats_nil, mm_cats_I, mm_cats_L, mm_cats_R, if_true, if_false, true_and, and_true, false_and, and_false, not_true_eq_false, not_false_eq_true, Int.reduceLE, Int.reduceLT, Int.reduceEq, Int.reduceNe, Int.reduceNeg, Int.reduceAdd, Int.reduceSub, Int.reduceMul, Nat.reduceAdd, Nat.reduceLeDiff, true_or, or_true, false_or, or_false, reduceIte, k_16, k_17, k_13, sx_16_0 hX, h13, T', t16, t17, d1, mm_fits]
  have sm : ev 166 0 [some (vR 149), none, none, none, none] [] r (g_1 L) = ev 166 33 [some (vR 149), some (vI (54 + 18 * 0)), none, none, none] [] (zR r) (g_1 L) := by
    unfold zR
    simp only [xe_166_0, xe_166_1, xe_166_2, xe_166_5, xe_166_6, xe_166_7, xe_166_10, xe_166_11, xe_166_12, xe_166_15, xe_166_16, xe_166_17, xe_166_20, xe_166_21, xe_166_22, xe_166_25, xe_166_26, xe_166_27, xe_166_30, xe_166_32 (some (vI _)) _ _ _ _ _ _ _ _ rfl, xe_166_32 (some (vR _)) _ _ _ _ _ _ _ _ rfl, xe_166_32 none _ _ _ _ _ _ _ _ rfl, ite_self, mm_nL_I, mm_nL_R, mm_nL_0, Option.bind_some, Option.bind_none, bnd_ite, Option.toList_some, Option.toList_none, List.cons_append, List.nil_append, mm_cats_nil, mm_cats_I, mm_cats_L, mm_cats_R, if_true, if_false, true_and, and_true, false_and, and_false, not_true_eq_false, not_false_eq_true, Int.reduceLE, Int.reduceLT, Int.reduceEq, Int.reduceNe, Int.reduceNeg, Int.reduceAdd, Int.reduceSub, Int.reduceMul, Nat.reduceAdd, Nat.reduceLeDiff, true_or, or_true, false_or, or_false, reduceIte, k_149, mm_fits]
  refine ⟨c3, r3, ?_, ?_, v3, ?_, v6, v7, X2.f v4, M2.f v5, ?_, fun b hb => ?_, fun k hk => ?_, ?_, ?_, fun b hb => ?_, fun k hk => ?_⟩
  · rw [sx, u1, ← v1]
    simp only [xe_42_81, xe_42_82, xe_42_83, xe_42_86, xe_42_89, xe_42_90 _ (some (vI _)) _ _ _ _ _ _ rfl, xe_42_90 _ (some (vR _)) _ _ _ _ _ _ rfl, xe_42_90 _ none _ _ _ _ _ _ rfl, ite_self, mm_nL_I, mm_nL_R, mm_nL_0, Option.bind_some, Option.bind_none, bnd_ite, Option.toList_some, Option.toList_none, List.cons_append, List.nil_append, mm_cats_nil, mm_cats_I, mm_cats_L, mm_cats_R, if_true, if_false, true_and, and_true, false_and, and_false, not_true_eq_false, not_false_eq_true, Int.reduceLE, Int.reduceLT, Int.reduceEq, Int.reduceNe, Int.reduceNeg, Int.reduceAdd, Int.reduceSub, Int.reduceMul, Nat.reduceAdd, Nat.reduceLeDiff, true_or, or_true, false_or, or_false, reduceIte, k_16]
  · rw [sm, u2, ← v2]
    simp only [xe_166_66, xe_166_67, xe_166_68, xe_166_71, xe_166_74, xe_166_75 (some (vI _)) _ _ _ _ _ _ _ _ rfl, xe_166_75 (some (vR _)) _ _ _ _ _ _ _ _ rfl, xe_166_75 none _ _ _ _ _ _ _ _ rfl, ite_self, mm_nL_I, mm_nL_R, mm_nL_0, Option.bind_some, Option.bind_none, bnd_ite, Option.toList_some, Option.toList_none, List.cons_append, List.nil_append, mm_cats_nil, mm_cats_I, mm_cats_L, mm_cats_R, if_true, if_false, true_and, and_true, false_and, and_false, not_true_eq_false, not_false_eq_true, Int.reduceLE, Int.reduceLT, Int.reduceEq, Int.reduceNe, Int.reduceNeg, Int.reduceAdd, Int.reduceSub, Int.reduceMul, Nat.reduceAdd, Nat.reduceLeDiff, true_or, or_true, false_or, or_false, reduceIte, k_149]
  · rw [v4.2 7 (by omega), ms_eq, v5.2 19 (by omega), ms_eq, u3.1.1]
  · rw [v4.2 5 (by omega), c2k _ (by omega)]; exact c5
  · rw [v4.1 b (by omega), c2b b (by omega), u4.1 b (by omega), zC_b _ _ _ (by omega)]
  · rw [v4.2 k (by omega), c2k k (by omega), u4.2 k (by omega), zC_16, if_neg (by omega), if_neg (by omega)]
  · rw [v4.1 17 (by omega), c2b 17 (by omega), u4.1 17 (by omega), zC_17, if_neg (by omega)]
  · rw [v4.1 19 (by omega), c2b 19 (by omega), u4.1 19 (by omega), zC_b _ _ _ (by omega)]
  · rw [v5.1 b hb, r2b b (by omega), u5.1 b hb, zR_b _ _ (by omega)]
  · rw [v5.2 k (by omega), r2k k (by omega), u5.2 k (by omega), zR_k, if_neg (by omega)]
end RE
