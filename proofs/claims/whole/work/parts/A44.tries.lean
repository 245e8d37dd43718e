/-! tries, on both sides -/
def TX (L : Int) (c : MM) : Prop := TP c (g_1 L) 137 ∧ WP c (g_1 L) 134 ∧ c 10 8 = 134 ∧ c 10 9 = 137 ∧ c 10 10 = 140 ∧ c 140 0 = 141 ∧ c 140 1 = 142
theorem TX.of {L : Int} {c : MM} (h : SX c) : TX L c := by
  refine ⟨⟨by omega, k_137 L, sx_137_0 h, sx_137_1 h, k_138 L, l_138 L, k_139 L, l_139 L⟩, ⟨by omega, k_134 L, sx_134_0 h, sx_134_1 h, k_135 L, l_135 L, k_136 L, l_136 L⟩, sx_10_8 h, sx_10_9 h, sx_10_10 h, sx_140_0 h, sx_140_1 h⟩
theorem TX.cg {L : Int} {c c' : MM} (h : TX L c) (h1 : c' 137 = c 137) (h2 : c' 134 = c 134) (h3 : c' 10 = c 10) (h4 : c' 140 0 = c 140 0) (h5 : c' 140 1 = c 140 1) : TX L c' := by
  unfold TX TP WP at *
  rw [h1, h2, h3, h4, h5]; exact h
theorem iv_191 {S sw em : Int → Int} (i : iv S sw em) (p : S 2 = 1 ∨ S 2 = 2) : S 10 ≤ 191 := by
  obtain ⟨n, q0, q3, hl, a0, a1, b0, b1, c0, c1, t0, t1, f0, f1, _, kk, k1, k2⟩ := i
  obtain ⟨kk, kk'⟩ := kk p
  have i0 := ix_ok (S 3)
  rcases p with p | p
  · have := k1 p; omega
  · have := k2 p; omega
theorem s_tryX (L N k : Int) (y : Option MV) (c : MM) (S sw em : Int → Int) (hX : TX L c) (i : iv S sw em) (p : S 2 = 1 ∨ S 2 = 2) (h2 : c 140 2 = S 10) (h3 : c 140 3 = S 11) (ho : wo (c 135)) (k0 : 0 ≤ k) (kN : k < N) (N1 : N ≤ 100) :
    ev 131 29 [some (vR 10), some (vI N), some (vI k), y] [] (tm c 137 S sw em) (g_1 L) = ev 131 29 [some (vR 10), some (vI N), some (vI (k + 1)), some (vI (xO (c 135) (c 136) S sw em))] [] (tm (jc (jo c (S 10) S sw em) (S 10) (S 11) (xS (c 135) (c 136) (c 134 3) S sw em 12) (xO (c 135) (c 136) S sw em)) 137 (xS (c 135) (c 136) (c 134 3) S sw em) (xW (c 135) (c 136) S sw em) (xM (c 135) (c 136) S sw em)) (g_1 L) := by
  have n191 := iv_191 i p
  obtain ⟨T, W, x8, x9, x10, j0, j1⟩ := hX
  obtain ⟨n, q0, q3, hl, a0, a1, b0, b1, c0, c1, t0, t1, f0, f1, _, kk, k1, k2⟩ := i
  obtain ⟨kk, kk'⟩ := kk p
  have i0 := ix_ok (S 3)
  have R := s_run 137 c (g_1 L) S sw em T
  rw [if_pos p] at R
  have tp0 : 0 ≤ tph S ∧ tph S ≤ 99 := by unfold tph; (repeat' split) <;> omega
  have O := s_open L (S 10) c S sw em T j0 h2 t0 (by omega) hl tp0.1 tp0.2
  have ob := fun b hb => jo_b c (S 10) S sw em b hb
  have T' : TP (jo c (S 10) S sw em) (g_1 L) 137 := by unfold TP at *; rw [ob 137 (by omega)]; exact T
  have W' : WP (jo c (S 10) S sw em) (g_1 L) 134 := by unfold WP at *; rw [ob 134 (by omega)]; exact W
  have A := s_attempt 137 134 (jo c (S 10) S sw em) (g_1 L) S sw em T' W' (Or.inl (by omega)) ⟨n, q0, q3, a0, by omega, c0, by omega, b0, by omega, t0, by omega, f0, by omega⟩ (by omega) (by omega) (by omega) (by omega) (fun l l0 l3 => by have := hl l l0 l3; omega) (fun l l0 l3 => by have := hl l l0 l3; omega) (by show wo (jo c (S 10) S sw em 135); rw [ob 135 (by omega)]; exact ho)
  simp only [show (134 : Int) + 1 = 135 from rfl, show (134 : Int) + 2 = 136 from rfl, ob 135 (by omega), ob 136 (by omega), ob 134 (by omega)] at A
  have C := s_close L (S 10) (S 11) (xS (c 135) (c 136) (c 134 3) S sw em 12) (xO (c 135) (c 136) S sw em) (jo c (S 10) S sw em) (xS (c 135) (c 136) (c 134 3) S sw em) (xW (c 135) (c 136) S sw em) (xM (c 135) (c 136) S sw em) (by rw [ob 140 (by omega)]; exact j0) (by rw [ob 140 (by omega)]; exact j1) (by rw [ob 140 (by omega)]; exact h2) (by rw [ob 140 (by omega)]; exact h3) t0 (by omega) f0 (by omega)
  have g : ¬ N ≤ k := by omega
  have w : w32 (k + 1) = k + 1 := wi32 (by omega) (by omega)
  have o10 : jo c (S 10) S sw em 10 = c 10 := ob 10 (by omega)
  rw [xe_131_29]
  simp only [xe_131_30, xe_131_31, xe_131_34, xe_131_35, xe_131_38, xe_131_41, xe_131_44, xe_131_45, xe_131_48, xe_131_49, xe_131_52, xe_131_55, xe_131_56, xe_131_59, xe_131_60, xe_131_63, xe_131_66 _ _ (some (vI _)) _ _ _ _ _ rfl, xe_131_66 _ _ (some (vR _)) _ _ _ _ _ rfl, xe_131_66 _ _ none _ _ _ _ _ rfl, xe_131_67, xe_131_68, xe_131_71, xe_131_72, xe_131_75, xe_131_78, xe_131_79, xe_131_82 _ (some (vI _)) _ _ _ _ _ rfl, xe_131_82 _ (some (vR _)) _ _ _ _ _ rfl, xe_131_82 _ none _ _ _ _ _ rfl, xe_131_85, xe_131_88, xe_131_89, ite_self, mm_nL_I, mm_nL_R, mm_nL_0, Option.bind_some, Option.bind_none, bnd_ite, Option.toList_some, Option.toList_none, List.cons_append, List.nil_append, mm_cats_nil, mm_cats_I, mm_cats_L, mm_cats_R, if_true, if_false, true_and, and_true, false_and, and_false, not_true_eq_false, not_false_eq_true, Int.reduceLE, Int.reduceLT, Int.reduceEq, Int.reduceNe, Int.reduceNeg, Int.reduceAdd, Int.reduceSub, Int.reduceMul, Nat.reduceAdd, Nat.reduceLeDiff, true_or, or_true, false_or, or_false, reduceIte, k_10, k_134, k_137, k_140, tr_10, x8, x9, x10, o10, R, O, A, C, g, w, tg_12]
theorem s_isTr (L fl fw : Int) (r : MM) (t : Int → Int) (hP : MP r) : ev 223 0 [some (vR 149)] [] (rm r t fl fw) (g_1 L) = some (some (vI (if t 0 = 1 ∨ t 0 = 2 then 1 else 0)), rm r t fl fw, g_1 L) := by
  by_cases h : t 0 = 1 ∨ t 0 = 2
  · have h' : 1 ≤ t 0 ∧ t 0 ≤ 2 := by omega
    simp only [xe_223_0, xe_223_1, xe_223_4, xe_223_5, xe_223_6, xe_223_7, xe_223_8, xe_223_11, xe_223_14, ite_self, mm_nL_I, mm_nL_R, mm_nL_0, Option.bind_some, Option.bind_none, bnd_ite, Option.toList_some, Option.toList_none, List.cons_append, List.nil_append, mm_cats_nil, mm_cats_I, mm_cats_L, mm_cats_R, if_true, if_false, true_and, and_true, false_and, and_false, not_true_eq_false, not_false_eq_true, Int.reduceLE, Int.reduceLT, Int.reduceEq, Int.reduceNe, Int.reduceNeg, Int.reduceAdd, Int.reduceSub, Int.reduceMul, Nat.reduceAdd, Nat.reduceLeDiff, true_or, or_true, false_or, or_false, reduceIte, k_149, k_165, l_165, rp_35 hP, rg_0, rw_0, rg_1, rw_1, rg_2, rw_2, rg_3, rw_3, rg_4, rw_4, rg_5, rw_5, rg_6, rw_6, rg_7, rw_7, s_isIn, bi, h, h']
  · have h' : ¬ (1 ≤ t 0 ∧ t 0 ≤ 2) := by omega
    simp only [xe_223_0, xe_223_1, xe_223_4, xe_223_5, xe_223_6, xe_223_7, xe_223_8, xe_223_11, xe_223_14, ite_self, mm_nL_I, mm_nL_R, mm_nL_0, Option.bind_some, Option.bind_none, bnd_ite, Option.toList_some, Option.toList_none, List.cons_append, List.nil_append, mm_cats_nil, mm_cats_I, mm_cats_L, mm_cats_R, if_true, if_false, true_and, and_true, false_and, and_false, not_true_eq_false, not_false_eq_true, Int.reduceLE, Int.reduceLT, Int.reduceEq, Int.reduceNe, Int.reduceNeg, Int.reduceAdd, Int.reduceSub, Int.reduceMul, Nat.reduceAdd, Nat.reduceLeDiff, true_or, or_true, false_or, or_false, reduceIte, k_149, k_165, l_165, rp_35 hP, rg_0, rw_0, rg_1, rw_1, rg_2, rw_2, rg_3, rw_3, rg_4, rw_4, rg_5, rw_5, rg_6, rw_6, rg_7, rw_7, s_isIn, bi, h, h']
theorem s_tryM (L N k fl fw : Int) (r : MM) (t : Int → Int) (hP : MP r) (ht : mo t) (p : t 0 = 1 ∨ t 0 = 2) (h6 : t 6 ≤ 191) (h3 : t 3 ≤ 99) (h4 : t 4 ≤ 99) (h5 : t 5 ≤ 99) (ho : wo (r 167)) (hs : so2 (r 168)) (p0 : r 149 42 = 0) (k0 : 0 ≤ k) (kN : k < N) (N1 : N ≤ 100) :
    ev 227 32 [some (vR 149), some (vI N), some (vI k)] [] (rm r t fl fw) (g_1 L) = ev 227 32 [some (vR 149), some (vI N), some (vI (k + 1))] [] (rm (st7 r (r 167) (r 168) t) (yT (r 167) (r 168) (r 149 32) t) (yF (r 167) (r 168) t) (yO (r 167) (r 168) t)) (g_1 L) := by
  have I := s_isTr L fl fw r t hP
  rw [if_pos p] at I
  have O := s_once L fl fw r t hP ht h6 h3 h4 h5 ho hs p0
  have g : ¬ N ≤ k := by omega
  have w : w32 (k + 1) = k + 1 := wi32 (by omega) (by omega)
  rw [xe_227_32]
  simp only [xe_227_33, xe_227_34, xe_227_37, xe_227_38, xe_227_41, xe_227_44, xe_227_45, xe_227_48 _ (some (vI _)) _ _ _ _ rfl, xe_227_48 _ (some (vR _)) _ _ _ _ rfl, xe_227_48 _ none _ _ _ _ rfl, xe_227_51, xe_227_54, xe_227_55, ite_self, mm_nL_I, mm_nL_R, mm_nL_0, Option.bind_some, Option.bind_none, bnd_ite, Option.toList_some, Option.toList_none, List.cons_append, List.nil_append, mm_cats_nil, mm_cats_I, mm_cats_L, mm_cats_R, if_true, if_false, true_and, and_true, false_and, and_false, not_true_eq_false, not_false_eq_true, Int.reduceLE, Int.reduceLT, Int.reduceEq, Int.reduceNe, Int.reduceNeg, Int.reduceAdd, Int.reduceSub, Int.reduceMul, Nat.reduceAdd, Nat.reduceLeDiff, true_or, or_true, false_or, or_false, reduceIte, k_149, I, O, g, w]
theorem tries_loop (L N wr : Int) (ls sl : Int → Int) (N1 : N ≤ 100) (ho : wo ls) (hs : so2 sl) (w0 : 0 ≤ wr) (w3 : wr ≤ 3) : ∀ (m : Nat) (k : Int) (y : Option MV) (c r : MM) (S sw em t : Int → Int) (fl fw : Int), k + m = N → 0 ≤ k → Jn c r S sw em t → iv S sw em → TX L c → c 135 = ls → c 136 = sl → c 134 3 = wr → MP r → r 149 42 = 0 → r 167 = ls → r 168 = sl → r 149 32 = wr →
    ∃ k' c' r' S' sw' em' t' fl' fw', ev 131 29 [some (vR 10), some (vI N), some (vI k), y] [] (tm c 137 S sw em) (g_1 L) = some (some (vI k'), tm c' 137 S' sw' em', g_1 L) ∧ ev 227 32 [some (vR 149), some (vI N), some (vI k)] [] (rm r t fl fw) (g_1 L) = some (some (vI k'), rm r' t' fl' fw', g_1 L) ∧ Jn c' r' S' sw' em' t' ∧ iv S' sw' em' ∧ (∀ b, ¬ b = 140 → ¬ b = 141 → ¬ b = 142 → c' b = c b) ∧ c' 140 0 = c 140 0 ∧ c' 140 1 = c 140 1 ∧ (∀ b, ¬ b = 171 → r' b = r b) := by
  intro m
  induction m with
  | zero =>
    intro k y c r S sw em t fl fw hk k0 hJ hi hX e1 e2 e3 hP p0 e4 e5 e6
    have g : N ≤ k := by omega
    refine ⟨k, c, r, S, sw, em, t, fl, fw, ?_, ?_, hJ, hi, fun _ _ _ _ => rfl, rfl, rfl, fun _ _ => rfl⟩
    · simp only [xe_131_29, xe_131_30, xe_131_31, xe_131_88, xe_131_89, ite_self, mm_nL_I, mm_nL_R, mm_nL_0, Option.bind_some, Option.bind_none, bnd_ite, Option.toList_some, Option.toList_none, List.cons_append, List.nil_append, mm_cats_nil, mm_cats_I, mm_cats_L, mm_cats_R, if_true, if_false, true_and, and_true, false_and, and_false, not_true_eq_false, not_false_eq_true, Int.reduceLE, Int.reduceLT, Int.reduceEq, Int.reduceNe, Int.reduceNeg, Int.reduceAdd, Int.reduceSub, Int.reduceMul, Nat.reduceAdd, Nat.reduceLeDiff, true_or, or_true, false_or, or_false, reduceIte, g]
    · simp only [xe_227_32, xe_227_33, xe_227_34, xe_227_54, xe_227_55, ite_self, mm_nL_I, mm_nL_R, mm_nL_0, Option.bind_some, Option.bind_none, bnd_ite, Option.toList_some, Option.toList_none, List.cons_append, List.nil_append, mm_cats_nil, mm_cats_I, mm_cats_L, mm_cats_R, if_true, if_false, true_and, and_true, false_and, and_false, not_true_eq_false, not_false_eq_true, Int.reduceLE, Int.reduceLT, Int.reduceEq, Int.reduceNe, Int.reduceNeg, Int.reduceAdd, Int.reduceSub, Int.reduceMul, Nat.reduceAdd, Nat.reduceLeDiff, true_or, or_true, false_or, or_false, reduceIte, g]
  | succ m ih =>
    intro k y c r S sw em t fl fw hk k0 hJ hi hX e1 e2 e3 hP p0 e4 e5 e6
    have g : ¬ N ≤ k := by omega
    have hR := hJ.1
    have x2 : S 2 = t 0 := hR.1
    by_cases p : S 2 = 1 ∨ S 2 = 2
    · have p' : t 0 = 1 ∨ t 0 = 2 := by omega
      have hm := mo_of hR hi p
      have x6 : S 10 = t 6 := hR.2.2.2.2.2.2.1
      have x7 : S 11 = t 7 := hR.2.2.2.2.2.2.2.1
      have x3 : S 7 = t 3 := hR.2.2.2.1
      have x4 : S 9 = t 4 := hR.2.2.2.2.1
      have x5 : S 8 = t 5 := hR.2.2.2.2.2.1
      have A := s_tryX L N k y c S sw em hX hi p (by rw [x6]; exact hJ.2.1) (by rw [x7]; exact hJ.2.2.1) (by rw [e1]; exact ho) k0 (by omega) N1
      have n191 : t 6 ≤ 191 := by have := iv_191 hi p; omega
      have hi' := iv_step (ls := ls) (sl := sl) (wr := wr) hi p w0 w3
      have hJ' := jn_step hJ hi p ls sl wr
      obtain ⟨n, q0, q3, hl, a0, a1, b0, b1, c0, c1, t0, t1, f0, f1, _, kk, k1, k2⟩ := hi
      obtain ⟨kk, kk'⟩ := kk p
      have i0 := ix_ok (S 3)
      have B := s_tryM L N k fl fw r t hP hm p' n191 (by omega) (by omega) (by omega) (by rw [e4]; exact ho) (by rw [e5]; exact hs) p0 k0 (by omega) N1
      rw [e1, e2, e3, x6, x7] at A
      rw [e4, e5, e6] at B
      have cb : ∀ b, ¬ b = 140 → ¬ b = 141 → ¬ b = 142 → jc (jo c (t 6) S sw em) (t 6) (t 7) (xS ls sl wr S sw em 12) (xO ls sl S sw em) b = c b := fun b h1 h2 h3 => by
        rw [jc_b _ _ _ _ _ _ h2 h3 h1, jo_b _ _ _ _ _ _ h2]
      have c0' : jc (jo c (t 6) S sw em) (t 6) (t 7) (xS ls sl wr S sw em 12) (xO ls sl S sw em) 140 0 = c 140 0 := by
        rw [(jc_140 _ _ _ _ _).2.2.1, jo_b _ _ _ _ _ _ (by omega)]
      have c1' : jc (jo c (t 6) S sw em) (t 6) (t 7) (xS ls sl wr S sw em 12) (xO ls sl S sw em) 140 1 = c 140 1 := by
        rw [(jc_140 _ _ _ _ _).2.2.2.1, jo_b _ _ _ _ _ _ (by omega)]
      have rb : ∀ b, ¬ b = 171 → st7 r ls sl t b = r b := fun b h => st7_b _ _ _ _ _ h
      obtain ⟨k', c', r', S', sw', em', t', fl', fw', u1, u2, u3, u4, u5, u6, u7, u8⟩ := ih (k + 1) (some (vI (xO ls sl S sw em))) _ _ _ _ _ _ (yF ls sl t) (yO ls sl t) (by omega) (by omega) hJ' hi' (hX.cg (cb 137 (by omega) (by omega) (by omega)) (cb 134 (by omega) (by omega) (by omega)) (cb 10 (by omega) (by omega) (by omega)) c0' c1') (by rw [cb 135 (by omega) (by omega) (by omega)]; exact e1) (by rw [cb 136 (by omega) (by omega) (by omega)]; exact e2) (by rw [cb 134 (by omega) (by omega) (by omega)]; exact e3) (by unfold MP at *; rw [rb 149 (by omega)]; exact hP) (by rw [rb 149 (by omega)]; exact p0) (by rw [rb 167 (by omega)]; exact e4) (by rw [rb 168 (by omega)]; exact e5) (by rw [rb 149 (by omega)]; exact e6)
      refine ⟨k', c', r', S', sw', em', t', fl', fw', by rw [A]; exact u1, by rw [B]; exact u2, u3, u4, fun b h1 h2 h3 => by rw [u5 b h1 h2 h3, cb b h1 h2 h3], by rw [u6, c0'], by rw [u7, c1'], fun b h => by rw [u8 b h, rb b h]⟩
    · have p' : ¬ (t 0 = 1 ∨ t 0 = 2) := by omega
      have R := s_run 137 c (g_1 L) S sw em hX.1
      rw [if_neg p] at R
      have I := s_isTr L fl fw r t hP
      rw [if_neg p'] at I
      obtain ⟨T, W, x8, x9, x10, j0, j1⟩ := hX
      refine ⟨k, c, r, S, sw, em, t, fl, fw, ?_, ?_, hJ, hi, fun _ _ _ _ => rfl, rfl, rfl, fun _ _ => rfl⟩
      · rw [xe_131_29]
        simp only [xe_131_30, xe_131_31, xe_131_34, xe_131_35, xe_131_38, xe_131_41, xe_131_44, xe_131_45, xe_131_48, xe_131_49, xe_131_52, xe_131_55, xe_131_56, xe_131_59, xe_131_60, xe_131_63, xe_131_66 _ _ (some (vI _)) _ _ _ _ _ rfl, xe_131_66 _ _ (some (vR _)) _ _ _ _ _ rfl, xe_131_66 _ _ none _ _ _ _ _ rfl, xe_131_67, xe_131_68, xe_131_71, xe_131_72, xe_131_75, xe_131_78, xe_131_79, xe_131_82 _ (some (vI _)) _ _ _ _ _ rfl, xe_131_82 _ (some (vR _)) _ _ _ _ _ rfl, xe_131_82 _ none _ _ _ _ _ rfl, xe_131_85, xe_131_88, xe_131_89, ite_self, mm_nL_I, mm_nL_R, mm_nL_0, Option.bind_some, Option.bind_none, bnd_ite, Option.toList_some, Option.toList_none, List.cons_append, List.nil_append, mm_cats_nil, mm_cats_I, mm_cats_L, mm_cats_R, if_true, if_false, true_and, and_true, false_and, and_false, not_true_eq_false, not_false_eq_true, Int.reduceLE, Int.reduceLT, Int.reduceEq, Int.reduceNe, Int.reduceNeg, Int.reduceAdd, Int.reduceSub, Int.reduceMul, Nat.reduceAdd, Nat.reduceLeDiff, true_or, or_true, false_or, or_false, reduceIte, k_10, k_137, tr_10, x9, g, R]
      · rw [xe_227_32]
        simp only [xe_227_33, xe_227_34, xe_227_37, xe_227_38, xe_227_41, xe_227_44, xe_227_45, xe_227_48 _ (some (vI _)) _ _ _ _ rfl, xe_227_48 _ (some (vR _)) _ _ _ _ rfl, xe_227_48 _ none _ _ _ _ rfl, xe_227_51, xe_227_54, xe_227_55, ite_self, mm_nL_I, mm_nL_R, mm_nL_0, Option.bind_some, Option.bind_none, bnd_ite, Option.toList_some, Option.toList_none, List.cons_append, List.nil_append, mm_cats_nil, mm_cats_I, mm_cats_L, mm_cats_R, if_true, if_false, true_and, and_true, false_and, and_false, not_true_eq_false, not_false_eq_true, Int.reduceLE, Int.reduceLT, Int.reduceEq, Int.reduceNe, Int.reduceNeg, Int.reduceAdd, Int.reduceSub, Int.reduceMul, Nat.reduceAdd, Nat.reduceLeDiff, true_or, or_true, false_or, or_false, reduceIte, k_149, g, I]
