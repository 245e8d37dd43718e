/-! the class's forge, whole -/
section FQ
variable (b : Int → Int) (n nl hr : Int) (md : Int → Int → Int) (nm rg : Int → Int)
theorem G1_s (i : Int) (i0 : 0 ≤ i) (h : n + 1 < i) : G1 b n nl hr md nm rg i = G1 b n nl hr md nm rg (i + 1) := G1_0 b n nl hr md nm rg i i0 (fun k _ _ => fgd_0 n nl hr md nm rg i k (by omega) (by omega))
theorem G1_fin (n0 : 0 ≤ n) (A B : Int → Int) (hA : A = G1 b n nl hr md nm rg (min n 4)) (hB : B = if n < 4 ∧ 0 < nl then nb (up A (54 + 18 * n + 3) 252) n nl nm 0 else A) : (if n + 1 < 4 ∧ hr = 1 then rb (up B (54 + 18 * (n + 1) + 3) 253) (n + 1) rg 0 5 else B) = fgp b n nl hr md nm rg := by
  rw [← G1_p]
  by_cases n4 : n < 4
  · have e : min n 4 = n := by omega
    rw [e] at hA
    have hB' : B = G1 b n nl hr md nm rg (n + 1) := by
      rw [hB, hA]
      by_cases l : 0 < nl
      · rw [if_pos ⟨n4, l⟩]; exact G1_n b n nl hr md nm rg n0 l
      · rw [if_neg (fun q => l q.2)]; exact G1_0 b n nl hr md nm rg n n0 (fun k _ _ => fgd_n0 n nl hr md nm rg k l)
    rw [hB']
    by_cases n3 : n + 1 < 4
    · have s : (if n + 1 < 4 ∧ hr = 1 then rb (up (G1 b n nl hr md nm rg (n + 1)) (54 + 18 * (n + 1) + 3) 253) (n + 1) rg 0 5 else G1 b n nl hr md nm rg (n + 1)) = G1 b n nl hr md nm rg (n + 1 + 1) := by
        by_cases q : hr = 1
        · rw [if_pos ⟨n3, q⟩]; exact G1_r b n nl hr md nm rg n0 q
        · rw [if_neg (fun p => q p.2)]; exact G1_0 b n nl hr md nm rg (n + 1) (by omega) (fun k _ _ => fgd_0 n nl hr md nm rg (n + 1) k (by omega) (fun p => q p.2))
      rw [s]
      have t : n = 0 ∨ n = 1 ∨ n = 2 := by omega
      rcases t with t | t | t
      · rw [G1_s b n nl hr md nm rg (n + 1 + 1) (by omega) (by omega), G1_s b n nl hr md nm rg (n + 1 + 1 + 1) (by omega) (by omega), show n + 1 + 1 + 1 + 1 = 4 by omega]
      · rw [G1_s b n nl hr md nm rg (n + 1 + 1) (by omega) (by omega), show n + 1 + 1 + 1 = 4 by omega]
      · rw [show n + 1 + 1 = 4 by omega]
    · rw [if_neg (fun p => n3 p.1), show n + 1 = 4 by omega]
  · have e : min n 4 = 4 := by omega
    rw [if_neg (by omega), hB, if_neg (by omega), hA, e]
theorem fgb_e (f : Int → Int) (hf : f = fgp b n nl hr md nm rg) (j : Int) : up f 127 ((256 - sm f 0 128 % 256) % 256) j = fgb b n nl hr md nm rg j := by
  subst hf
  have z : fgp b n nl hr md nm rg (0 + ((127 : Nat) : Int)) = 0 := by
    unfold fgp; rw [if_neg (by omega), if_neg (by omega), if_neg (by omega), if_neg (by omega)]
  have s : sm (fgp b n nl hr md nm rg) 0 128 = sm (fgp b n nl hr md nm rg) 0 127 := by
    show sm (fgp b n nl hr md nm rg) 0 127 + fgp b n nl hr md nm rg (0 + ((127 : Nat) : Int)) = _
    rw [z]; omega
  unfold up fgb
  rw [s]
end FQ
theorem SX.fog {c : MM} (h : SX c) (f : Int → Int) : SX (fog c f) := by
  obtain ⟨h1, h2, h3⟩ := h
  refine ⟨fun q hq => ?_, fun k k0 k1 => ?_, fun j j0 j1 => ?_⟩
  · rw [← h1 q hq]
    have t : ∀ x ∈ SXl, (x.1 = 129 ∧ x.2.1 = 0) ∨ (¬ x.1 = 129 ∧ ¬ x.1 = 130) := by decide
    rcases t q hq with e | e
    · rw [e.1, e.2]; exact fog_0 c f
    · rw [fog_b _ _ _ e.1 e.2]
  · rw [fog_b _ _ _ (by omega) (by omega)]; exact h2 k k0 k1
  · rw [fog_b _ _ _ (by omega) (by omega)]; exact h3 j j0 j1
def h8z (i j : Int) : Int := if 1 ≤ j ∧ j ≤ 6 ∧ j < i then 255 else 0
theorem h8z_s (i : Int) (i0 : 0 ≤ i) (i1 : i < 8) : up (h8z i) i (hb8 i) = h8z (i + 1) := by
  funext j
  unfold up h8z hb8
  by_cases e : j = i
  · rw [if_pos e]
    by_cases q : i = 0 ∨ i = 7
    · rw [if_pos q, if_neg (by omega)]
    · rw [if_neg q, if_pos (by omega)]
  · rw [if_neg e]
    by_cases q : 1 ≤ j ∧ j ≤ 6 ∧ j < i
    · rw [if_pos q, if_pos (by omega)]
    · rw [if_neg q, if_neg (by omega)]
theorem h8z_e (b : Int → Int) : up (up (up (up (up (h8z 8) 8 (b 8)) 9 (b 9)) 18 1) 21 (b 21)) 22 (b 22) = G0 b := by
  funext j
  unfold up h8z G0
  by_cases e1 : j = 22
  · subst e1; rfl
  by_cases e2 : j = 21
  · subst e2; rfl
  by_cases e3 : j = 18
  · subst e3; rfl
  by_cases e4 : j = 9
  · subst e4; rfl
  by_cases e5 : j = 8
  · subst e5; rfl
  rw [if_neg e1, if_neg e2, if_neg e3, if_neg e4, if_neg e5]
  by_cases q : 1 ≤ j ∧ j ≤ 6
  · rw [if_pos (by omega), if_pos q]
  · rw [if_neg (by omega), if_neg q, if_neg (by omega), if_neg e3]
section FH
variable {L n : Int} {c : MM}
theorem lp_mh (hX : SX c) (hB : XB c n (c 18)) (n1 : 128 ≤ n) (y4 : Option MV) : ∀ (m : Nat) (i : Int), 0 ≤ i → i + m = 8 → ev 8 15 [some (vR 129), some (vR 16), some (vR 45), some (vI i), y4] [] (fog c (h8z i)) (g_1 L) = ev 8 111 [some (vR 129), some (vR 16), some (vR 45), some (vI 0), y4] [] (fog c (G0 (c 18))) (g_1 L) := by
  intro m
  induction m with
  | zero =>
    intro i i0 im
    have e : i = 8 := by omega
    subst e
    have A : ∀ f i, 0 ≤ i → i < 128 → ev 3 0 [some (vR 17), some (vI i)] [] (fog c f) (g_1 L) = some (some (vI (c 18 i)), fog c f, g_1 L) := fun f i a b => xb_at hB a (by omega) _ (fog_b _ _ _ (by omega) (by omega)) (fog_b _ _ _ (by omega) (by omega))
    have a8 := fun f => A f 8 (by omega) (by omega)
    have a9 := fun f => A f 9 (by omega) (by omega)
    have a21 := fun f => A f 21 (by omega) (by omega)
    have a22 := fun f => A f 22 (by omega) (by omega)
    have u8 := fun f v => fog_u c f 8 v (by omega) (by omega)
    have u9 := fun f v => fog_u c f 9 v (by omega) (by omega)
    have u18 := fun f v => fog_u c f 18 v (by omega) (by omega)
    have u21 := fun f v => fog_u c f 21 v (by omega) (by omega)
    have u22 := fun f v => fog_u c f 22 v (by omega) (by omega)
    have b16 : ∀ f, fog c f 16 = c 16 := fun f => fog_b c f 16 (by omega) (by omega)
    rw [← h8z_e, xe_8_15]
    simp only [xe_8_16, xe_8_18, xe_8_21, xe_8_22, xe_8_25, xe_8_26, xe_8_27, xe_8_30, xe_8_31 _ _ (some (vI _)) _ _ _ _ _ rfl, xe_8_31 _ _ (some (vR _)) _ _ _ _ _ rfl, xe_8_31 _ _ none _ _ _ _ _ rfl, xe_8_34, xe_8_37, xe_8_38, xe_8_41, xe_8_43, xe_8_44, xe_8_47, xe_8_49, xe_8_52, xe_8_53, xe_8_54, xe_8_57, xe_8_59, xe_8_60, xe_8_63, xe_8_65, xe_8_68, xe_8_69, xe_8_70, xe_8_73, xe_8_75, xe_8_76, xe_8_77, xe_8_78, xe_8_81, xe_8_83, xe_8_84, xe_8_87, xe_8_89, xe_8_92, xe_8_93, xe_8_94, xe_8_97, xe_8_99, xe_8_100, xe_8_103, xe_8_105, xe_8_108, xe_8_109, xe_8_110 _ _ (some (vI _)) _ _ _ _ _ _ rfl, xe_8_110 _ _ (some (vR _)) _ _ _ _ _ _ rfl, xe_8_110 _ _ none _ _ _ _ _ _ rfl, ite_self, mm_nL_I, mm_nL_R, mm_nL_0, Option.bind_some, Option.bind_none, bnd_ite, Option.toList_some, Option.toList_none, List.cons_append, List.nil_append, mm_cats_nil, mm_cats_I, mm_cats_L, mm_cats_R, if_true, if_false, true_and, and_true, false_and, and_false, not_true_eq_false, not_false_eq_true, Int.reduceLE, Int.reduceLT, Int.reduceEq, Int.reduceNe, Int.reduceNeg, Int.reduceAdd, Int.reduceSub, Int.reduceMul, Nat.reduceAdd, Nat.reduceLeDiff, true_or, or_true, false_or, or_false, reduceIte, k_129, k_130, l_130, k_16, k_17, fog_0, sx_129_0 hX, b16, sx_16_0 hX, a8, a9, a21, a22, u8, u9, u18, u21, u22]
  | succ m ih =>
    intro i i0 im
    have I := ih (i + 1) (by omega) (by omega)
    rw [← h8z_s i i0 (by omega)] at I
    have g : ¬ 8 ≤ i := by omega
    have a : 0 ≤ i ∧ i < 128 := by omega
    have w : w32 (i + 1) = i + 1 := wi32 (by omega) (by omega)
    have u := fun f v => fog_u c f i v a.1 a.2
    rw [← I, xe_8_15]
    simp only [xe_8_16, xe_8_18, xe_8_21, xe_8_22, xe_8_25, xe_8_26, xe_8_27, xe_8_30, xe_8_31 _ _ (some (vI _)) _ _ _ _ _ rfl, xe_8_31 _ _ (some (vR _)) _ _ _ _ _ rfl, xe_8_31 _ _ none _ _ _ _ _ rfl, xe_8_34, ite_self, mm_nL_I, mm_nL_R, mm_nL_0, Option.bind_some, Option.bind_none, bnd_ite, Option.toList_some, Option.toList_none, List.cons_append, List.nil_append, mm_cats_nil, mm_cats_I, mm_cats_L, mm_cats_R, if_true, if_false, true_and, and_true, false_and, and_false, not_true_eq_false, not_false_eq_true, Int.reduceLE, Int.reduceLT, Int.reduceEq, Int.reduceNe, Int.reduceNeg, Int.reduceAdd, Int.reduceSub, Int.reduceMul, Nat.reduceAdd, Nat.reduceLeDiff, true_or, or_true, false_or, or_false, reduceIte, k_129, k_130, l_130, fog_0, sx_129_0 hX, g, a, w, s_headB, u]
theorem mok_n {m t : Int → Int} (h : mok m t) : nn (tg t) ∧ fitv (tg t) = true := by
  unfold mok at h
  obtain ⟨a0, a1, b0, b1, d0, d1, e0, e1, f0, f1, g0, g1, h0, h1, i0, i1, j0, j1, _⟩ := h
  refine ⟨fun j k0 k1 => ?_, ?_⟩
  · have q : j = 0 ∨ j = 1 ∨ j = 2 ∨ j = 3 ∨ j = 4 ∨ j = 5 ∨ j = 6 ∨ j = 7 ∨ j = 8 := by omega
    rcases q with rfl | rfl | rfl | rfl | rfl | rfl | rfl | rfl | rfl
    · show 0 ≤ t 1 ∧ t 1 < _; omega
    · show 0 ≤ t 2 ∧ t 2 < _; omega
    · show 0 ≤ t 3 ∧ t 3 < _; omega
    · show 0 ≤ t 4 ∧ t 4 < _; omega
    · show 0 ≤ t 5 ∧ t 5 < _; omega
    · show 0 ≤ t 6 ∧ t 6 < _; omega
    · show 0 ≤ t 7 ∧ t 7 < _; omega
    · show 0 ≤ t 8 ∧ t 8 < _; omega
    · show 0 ≤ t 0 ∧ t 0 < _; omega
  · unfold fitv
    refine decide_eq_true ?_
    show t 1 ≤ 4095 ∧ t 2 ≤ 4095 ∧ t 5 ≤ 4095 ∧ t 6 ≤ 4095 ∧ t 3 ≤ 1023 ∧ t 4 ≤ 1023 ∧ t 7 ≤ 63 ∧ t 8 ≤ 63 ∧ t 0 ≤ 655359
    omega
theorem lp_mt (hX : SX c) (b : Int → Int) (nl hr : Int) (nm rg : Int → Int) (n0 : 0 ≤ c 45 4) (n40 : c 45 4 ≤ 40) (hm : ∀ i, 0 ≤ i → i < c 45 4 → ∃ u, c 46 i = 49 + 2 * u ∧ 0 ≤ u ∧ u < 40 ∧ mok (c (49 + 2 * u)) (c (50 + 2 * u))) : ∀ (m : Nat) (i : Int) (y4 : Option MV), 0 ≤ i → i + m = 4 → ∃ z4, ev 8 111 [some (vR 129), some (vR 16), some (vR 45), some (vI i), y4] [] (fog c (G1 b (c 45 4) nl hr (fun d => tg (c (c 46 d + 1))) nm rg (min (c 45 4) i))) (g_1 L) = ev 8 144 [some (vR 129), some (vR 16), some (vR 45), some (vI 4), z4] [] (fog c (G1 b (c 45 4) nl hr (fun d => tg (c (c 46 d + 1))) nm rg (min (c 45 4) 4))) (g_1 L) := by
  intro m
  induction m with
  | zero =>
    intro i y4 i0 im
    have e : i = 4 := by omega
    subst e
    refine ⟨y4, ?_⟩
    rw [xe_8_111]
    simp only [xe_8_112, xe_8_113, xe_8_116, xe_8_117, xe_8_118, xe_8_121 _ _ _ (some (vI _)) _ _ _ _ _ rfl, xe_8_121 _ _ _ (some (vR _)) _ _ _ _ _ rfl, xe_8_121 _ _ _ none _ _ _ _ _ rfl, xe_8_123, xe_8_125, xe_8_128, xe_8_129, xe_8_130, xe_8_132, xe_8_135, xe_8_138 _ _ (some (vI _)) _ _ _ _ _ rfl, xe_8_138 _ _ (some (vR _)) _ _ _ _ _ rfl, xe_8_138 _ _ none _ _ _ _ _ rfl, xe_8_141, ite_self, mm_nL_I, mm_nL_R, mm_nL_0, Option.bind_some, Option.bind_none, bnd_ite, Option.toList_some, Option.toList_none, List.cons_append, List.nil_append, mm_cats_nil, mm_cats_I, mm_cats_L, mm_cats_R, if_true, if_false, true_and, and_true, false_and, and_false, not_true_eq_false, not_false_eq_true, Int.reduceLE, Int.reduceLT, Int.reduceEq, Int.reduceNe, Int.reduceNeg, Int.reduceAdd, Int.reduceSub, Int.reduceMul, Nat.reduceAdd, Nat.reduceLeDiff, true_or, or_true, false_or, or_false, reduceIte]
  | succ m ih =>
    intro i y4 i0 im
    have g : ¬ 4 ≤ i := by omega
    have w : w32 (i + 1) = i + 1 := wi32 (by omega) (by omega)
    by_cases a : i < c 45 4
    · obtain ⟨u, h1, u0, u1, h2⟩ := hm i i0 a
      obtain ⟨z4, I⟩ := ih (i + 1) (some (vR (49 + 2 * u))) (by omega) (by omega)
      refine ⟨z4, ?_⟩
      rw [show min (c 45 4) (i + 1) = i + 1 by omega] at I
      rw [show min (c 45 4) i = i by omega]
      rw [← I, ← G1_t b (c 45 4) nl hr (fun d => tg (c (c 46 d + 1))) nm rg i i0 a]
      generalize G1 b (c 45 4) nl hr (fun d => tg (c (c 46 d + 1))) nm rg i = f
      have S := s_modesAt L i (fog c f) (hX.fog f) (by rw [fog_b _ _ _ (by omega) (by omega)]; exact n40)
      rw [fog_b _ _ 45 (by omega) (by omega), fog_b _ _ 46 (by omega) (by omega), if_pos ⟨i0, a⟩, h1] at S
      have t := hX.2.2 u u0 u1
      have t' : fog c f (49 + 2 * u) 0 = 50 + 2 * u := by rw [fog_b _ _ _ (by omega) (by omega)]; exact t
      have mk := mok_n h2
      have P := s_pt (L := L) hX f i (50 + 2 * u) i0 (by omega) (k_mtim L u u0 u1) (by omega) (by omega) mk.1 mk.2
      have e : tg (c (c 46 i + 1)) = tg (c (50 + 2 * u)) := by rw [h1, show 49 + 2 * u + 1 = 50 + 2 * u by omega]
      have z : ¬ 49 + 2 * u = 0 := by omega
      have z4' : 0 < 49 + 2 * u := by omega
      have z7 : ¬ 49 + 2 * u = 7 := by omega
      have km := k_mode L u u0 u1
      rw [xe_8_111]
      show _ = ev 8 111 [some (vR 129), some (vR 16), some (vR 45), some (vI (i + 1)), some (vR (49 + 2 * u))] [] (fog c (bk f i (tg (c (c 46 i + 1))) 0)) (g_1 L)
      rw [e]
      simp only [xe_8_112, xe_8_113, xe_8_116, xe_8_117, xe_8_118, xe_8_121 _ _ _ (some (vI _)) _ _ _ _ _ rfl, xe_8_121 _ _ _ (some (vR _)) _ _ _ _ _ rfl, xe_8_121 _ _ _ none _ _ _ _ _ rfl, xe_8_123, xe_8_125, xe_8_128, xe_8_129, xe_8_130, xe_8_132, xe_8_135, xe_8_138 _ _ (some (vI _)) _ _ _ _ _ rfl, xe_8_138 _ _ (some (vR _)) _ _ _ _ _ rfl, xe_8_138 _ _ none _ _ _ _ _ rfl, xe_8_141, ite_self, mm_nL_I, mm_nL_R, mm_nL_0, Option.bind_some, Option.bind_none, bnd_ite, Option.toList_some, Option.toList_none, List.cons_append, List.nil_append, mm_cats_nil, mm_cats_I, mm_cats_L, mm_cats_R, if_true, if_false, true_and, and_true, false_and, and_false, not_true_eq_false, not_false_eq_true, Int.reduceLE, Int.reduceLT, Int.reduceEq, Int.reduceNe, Int.reduceNeg, Int.reduceAdd, Int.reduceSub, Int.reduceMul, Nat.reduceAdd, Nat.reduceLeDiff, true_or, or_true, false_or, or_false, reduceIte, k_129, k_45, g, w, S, z, z4', z7, km, t', P]
    · obtain ⟨z4, I⟩ := ih (i + 1) (some (vR 0)) (by omega) (by omega)
      refine ⟨z4, ?_⟩
      rw [show min (c 45 4) (i + 1) = c 45 4 by omega] at I
      rw [show min (c 45 4) i = c 45 4 by omega]
      rw [← I]
      generalize G1 b (c 45 4) nl hr (fun d => tg (c (c 46 d + 1))) nm rg (c 45 4) = f
      have S := s_modesAt L i (fog c f) (hX.fog f) (by rw [fog_b _ _ _ (by omega) (by omega)]; exact n40)
      rw [fog_b _ _ 45 (by omega) (by omega), if_neg (by omega)] at S
      rw [xe_8_111]
      simp only [xe_8_112, xe_8_113, xe_8_116, xe_8_117, xe_8_118, xe_8_121 _ _ _ (some (vI _)) _ _ _ _ _ rfl, xe_8_121 _ _ _ (some (vR _)) _ _ _ _ _ rfl, xe_8_121 _ _ _ none _ _ _ _ _ rfl, xe_8_123, xe_8_125, xe_8_128, xe_8_129, xe_8_130, xe_8_132, xe_8_135, xe_8_138 _ _ (some (vI _)) _ _ _ _ _ rfl, xe_8_138 _ _ (some (vR _)) _ _ _ _ _ rfl, xe_8_138 _ _ none _ _ _ _ _ rfl, xe_8_141, ite_self, mm_nL_I, mm_nL_R, mm_nL_0, Option.bind_some, Option.bind_none, bnd_ite, Option.toList_some, Option.toList_none, List.cons_append, List.nil_append, mm_cats_nil, mm_cats_I, mm_cats_L, mm_cats_R, if_true, if_false, true_and, and_true, false_and, and_false, not_true_eq_false, not_false_eq_true, Int.reduceLE, Int.reduceLT, Int.reduceEq, Int.reduceNe, Int.reduceNeg, Int.reduceAdd, Int.reduceSub, Int.reduceMul, Nat.reduceAdd, Nat.reduceLeDiff, true_or, or_true, false_or, or_false, reduceIte, k_129, k_45, g, w, S]
theorem s_make (hX : SX c) (hB : XB c n (c 18)) (n1 : 128 ≤ n) (n0 : 0 ≤ c 45 4) (n40 : c 45 4 ≤ 40) (hm : ∀ i, 0 ≤ i → i < c 45 4 → ∃ u, c 46 i = 49 + 2 * u ∧ 0 ≤ u ∧ u < 40 ∧ mok (c (49 + 2 * u)) (c (50 + 2 * u))) (l0 : 0 ≤ c 16 9) (l13 : c 16 9 ≤ 13) (hn : ∀ k, 0 ≤ k → k < c 16 9 → 0 ≤ c 21 k ∧ c 21 k < 256) (hr : c 16 12 = 0 ∨ c 16 12 = 1) (hg : c 16 12 = 1 → ∀ k, 0 ≤ k → k < 5 → 0 ≤ c 22 k ∧ c 22 k < 256) :
    ∃ c', ev 8 0 [some (vR 129), some (vR 16), some (vR 45), none, none] [] c (g_1 L) = some (none, c', g_1 L) ∧ c' 129 1 = 1 ∧ c' 129 0 = c 129 0 ∧ (∀ i, 0 ≤ i → i < 128 → c' 130 i = fgc c i) ∧ ∀ b, ¬ b = 129 → ¬ b = 130 → c' b = c b := by
  have Fl := s_fill 130 0 128 c (g_1 L) (by omega) (k_130 L) (l_130 L) (by omega) (by omega)
  have f0 : mset (fun (b j : Int) => if b = 130 ∧ 0 ≤ j ∧ j < 128 then 0 else c b j) 129 1 1 = fog c (h8z 0) := by
    funext b j
    have : h8z 0 j = 0 := by unfold h8z; rw [if_neg (by omega)]
    by_cases h : b = 129 ∧ j = 1
    · obtain ⟨rfl, rfl⟩ := h
      rw [ms_eq, fog_1]
    · rw [ms_ne _ _ _ _ _ _ h]
      show (if b = 130 ∧ 0 ≤ j ∧ j < 128 then 0 else c b j) = _
      unfold fog
      by_cases e : b = 130 ∧ 0 ≤ j ∧ j < 128
      · rw [if_pos e, if_pos e, this]
      · rw [if_neg e, if_neg e, if_neg h]
  have s1 : ev 8 0 [some (vR 129), some (vR 16), some (vR 45), none, none] [] c (g_1 L) = ev 8 15 [some (vR 129), some (vR 16), some (vR 45), some (vI 0), none] [] (fog c (h8z 0)) (g_1 L) := by
    rw [← f0]
    simp only [xe_8_0, xe_8_1, xe_8_4, xe_8_5, xe_8_8, xe_8_9, xe_8_10, xe_8_13, xe_8_14 _ _ (some (vI _)) _ _ _ _ _ _ rfl, xe_8_14 _ _ (some (vR _)) _ _ _ _ _ _ rfl, xe_8_14 _ _ none _ _ _ _ _ _ rfl, ite_self, mm_nL_I, mm_nL_R, mm_nL_0, Option.bind_some, Option.bind_none, bnd_ite, Option.toList_some, Option.toList_none, List.cons_append, List.nil_append, mm_cats_nil, mm_cats_I, mm_cats_L, mm_cats_R, if_true, if_false, true_and, and_true, false_and, and_false, not_true_eq_false, not_false_eq_true, Int.reduceLE, Int.reduceLT, Int.reduceEq, Int.reduceNe, Int.reduceNeg, Int.reduceAdd, Int.reduceSub, Int.reduceMul, Nat.reduceAdd, Nat.reduceLeDiff, true_or, or_true, false_or, or_false, reduceIte, k_129, k_130, l_130, sx_129_0 hX, Fl, mm_fits]
  have H := lp_mh (L := L) hX hB n1 none 8 0 (by omega) (by omega)
  obtain ⟨z4, T⟩ := lp_mt (L := L) hX (c 18) (c 16 9) (c 16 12) (c 21) (c 22) n0 n40 hm 4 0 none (by omega) (by omega)
  rw [show min (c 45 4) 0 = 0 by omega, G1_00] at T
  have fin := G1_fin (c 18) (c 45 4) (c 16 9) (c 16 12) (fun d => tg (c (c 46 d + 1))) (c 21) (c 22) n0 _ _ rfl rfl
  have fb := fgp_b (c 18) (c 45 4) (c 16 9) (c 16 12) (fun d => tg (c (c 46 d + 1))) (c 21) (c 22) n0 (fun i hi => (hB.2.2.2 i (by omega) (by omega)).2) hn hg
  have fe := fgb_e (c 18) (c 45 4) (c 16 9) (c 16 12) (fun d => tg (c (c 46 d + 1))) (c 21) (c 22) _ rfl
  generalize G1 (c 18) (c 45 4) (c 16 9) (c 16 12) (fun d => tg (c (c 46 d + 1))) (c 21) (c 22) (min (c 45 4) 4) = A at *
  have N := s_pn (L := L) hX A (c 45 4) n0 l0 l13
  generalize (if c 45 4 < 4 ∧ 0 < c 16 9 then nb (up A (54 + 18 * c 45 4 + 3) 252) (c 45 4) (c 16 9) (c 21) 0 else A) = B at *
  have R := s_pr (L := L) hX B (c 45 4 + 1) (by omega) hr
  rw [fin] at R
  have U := s_ps (L := L) hX (fgp (c 18) (c 45 4) (c 16 9) (c 16 12) (fun d => tg (c (c 46 d + 1))) (c 21) (c 22)) (fun j _ _ => fb j)
  refine ⟨fog c (up (fgp (c 18) (c 45 4) (c 16 9) (c 16 12) (fun d => tg (c (c 46 d + 1))) (c 21) (c 22)) 127 ((256 - sm (fgp (c 18) (c 45 4) (c 16 9) (c 16 12) (fun d => tg (c (c 46 d + 1))) (c 21) (c 22)) 0 128 % 256) % 256)), ?_, fog_1 c _, fog_0 c _, fun i i0 i1 => ?_, fun b h1 h2 => fog_b c _ b h1 h2⟩
  · have b45 : ∀ f, fog c f 45 = c 45 := fun f => fog_b c f 45 (by omega) (by omega)
    have w : w32 (c 45 4 + 1) = c 45 4 + 1 := wi32 (by omega) (by omega)
    rw [s1, H, T]
    simp only [xe_8_144, xe_8_145, xe_8_146, xe_8_149, xe_8_150, xe_8_153, xe_8_154, xe_8_155, xe_8_158, xe_8_159, xe_8_160, xe_8_161, xe_8_164, xe_8_165, xe_8_168, ite_self, mm_nL_I, mm_nL_R, mm_nL_0, Option.bind_some, Option.bind_none, bnd_ite, Option.toList_some, Option.toList_none, List.cons_append, List.nil_append, mm_cats_nil, mm_cats_I, mm_cats_L, mm_cats_R, if_true, if_false, true_and, and_true, false_and, and_false, not_true_eq_false, not_false_eq_true, Int.reduceLE, Int.reduceLT, Int.reduceEq, Int.reduceNe, Int.reduceNeg, Int.reduceAdd, Int.reduceSub, Int.reduceMul, Nat.reduceAdd, Nat.reduceLeDiff, true_or, or_true, false_or, or_false, reduceIte, k_129, k_45, b45, N, R, U, w]
  · rw [fog_v c _ i i0 i1]
    exact fe i
end FH
