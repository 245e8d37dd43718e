/-! a TRY and a training to its end, of the class -/
theorem s_run (a : Int) (c : MM) (G : MG) (S sw em : Int → Int) (hT : TP c G a) : ev 79 0 [some (vR a)] [] (tm c a S sw em) G = some (some (vI (if S 2 = 1 ∨ S 2 = 2 then 1 else 0)), tm c a S sw em, G) := by
  by_cases h1 : S 2 = 1
  · simp only [xe_79_0, xe_79_1, xe_79_4, xe_79_5, xe_79_8, xe_79_9, xe_79_12, xe_79_13, xe_79_16, xe_79_17, xe_79_20, xe_79_21, ite_self, mm_nL_I, mm_nL_R, mm_nL_0, Option.bind_some, Option.bind_none, bnd_ite, Option.toList_some, Option.toList_none, List.cons_append, List.nil_append, mm_cats_nil, mm_cats_I, mm_cats_L, mm_cats_R, if_true, if_false, true_and, and_true, false_and, and_false, not_true_eq_false, not_false_eq_true, Int.reduceLE, Int.reduceLT, Int.reduceEq, Int.reduceNe, Int.reduceNeg, Int.reduceAdd, Int.reduceSub, Int.reduceMul, Nat.reduceAdd, Nat.reduceLeDiff, true_or, or_true, false_or, or_false, reduceIte, hT.2.1, tm_0, tm_1, tg_2, tu_2, tg_3, tu_3, tg_4, tu_4, tg_5, tu_5, tg_6, tu_6, tg_7, tu_7, tg_8, tu_8, tg_9, tu_9, tg_10, tu_10, tg_11, tu_11, tg_12, tu_12, up_e, h1]
  · by_cases h2 : S 2 = 2
    · simp only [xe_79_0, xe_79_1, xe_79_4, xe_79_5, xe_79_8, xe_79_9, xe_79_12, xe_79_13, xe_79_16, xe_79_17, xe_79_20, xe_79_21, ite_self, mm_nL_I, mm_nL_R, mm_nL_0, Option.bind_some, Option.bind_none, bnd_ite, Option.toList_some, Option.toList_none, List.cons_append, List.nil_append, mm_cats_nil, mm_cats_I, mm_cats_L, mm_cats_R, if_true, if_false, true_and, and_true, false_and, and_false, not_true_eq_false, not_false_eq_true, Int.reduceLE, Int.reduceLT, Int.reduceEq, Int.reduceNe, Int.reduceNeg, Int.reduceAdd, Int.reduceSub, Int.reduceMul, Nat.reduceAdd, Nat.reduceLeDiff, true_or, or_true, false_or, or_false, reduceIte, hT.2.1, tm_0, tm_1, tg_2, tu_2, tg_3, tu_3, tg_4, tu_4, tg_5, tu_5, tg_6, tu_6, tg_7, tu_7, tg_8, tu_8, tg_9, tu_9, tg_10, tu_10, tg_11, tu_11, tg_12, tu_12, up_e, h1, h2]
    · simp only [xe_79_0, xe_79_1, xe_79_4, xe_79_5, xe_79_8, xe_79_9, xe_79_12, xe_79_13, xe_79_16, xe_79_17, xe_79_20, xe_79_21, ite_self, mm_nL_I, mm_nL_R, mm_nL_0, Option.bind_some, Option.bind_none, bnd_ite, Option.toList_some, Option.toList_none, List.cons_append, List.nil_append, mm_cats_nil, mm_cats_I, mm_cats_L, mm_cats_R, if_true, if_false, true_and, and_true, false_and, and_false, not_true_eq_false, not_false_eq_true, Int.reduceLE, Int.reduceLT, Int.reduceEq, Int.reduceNe, Int.reduceNeg, Int.reduceAdd, Int.reduceSub, Int.reduceMul, Nat.reduceAdd, Nat.reduceLeDiff, true_or, or_true, false_or, or_false, reduceIte, hT.2.1, tm_0, tm_1, tg_2, tu_2, tg_3, tu_3, tg_4, tu_4, tg_5, tu_5, tg_6, tu_6, tg_7, tu_7, tg_8, tu_8, tg_9, tu_9, tg_10, tu_10, tg_11, tu_11, tg_12, tu_12, up_e, h1, h2]
def s10 (S : Int → Int) : Int → Int := up S 10 (S 10 + 1)
def xO (ls sl S sw em : Int → Int) : Int := if S 2 = 1 then cO (s10 S) sw ls sl else eO (s10 S) sw em ls sl
def xS1 (ls sl S sw em : Int → Int) : Int → Int := if S 2 = 1 then cS (s10 S) sw ls sl else eS (s10 S) sw em ls sl
def xW1 (ls sl S sw em : Int → Int) : Int → Int := if S 2 = 1 then cW (s10 S) sw ls sl else eW (s10 S) sw em ls sl
def xM1 (ls sl S sw em : Int → Int) : Int → Int := if S 2 = 1 then em else eM (s10 S) sw em ls sl
def xS (ls sl : Int → Int) (wr : Int) (S sw em : Int → Int) : Int → Int := if 1 ≤ xO ls sl S sw em ∧ xO ls sl S sw em ≤ 6 then dS (xS1 ls sl S sw em) wr else xS1 ls sl S sw em
def xW (ls sl S sw em : Int → Int) : Int → Int := if 1 ≤ xO ls sl S sw em ∧ xO ls sl S sw em ≤ 6 then z0 else xW1 ls sl S sw em
def xM (ls sl S sw em : Int → Int) : Int → Int := if 1 ≤ xO ls sl S sw em ∧ xO ls sl S sw em ≤ 6 then z0 else xM1 ls sl S sw em
theorem so_clk {S sw ls sl : Int → Int} (h : so S) (h7 : S 7 ≤ 999) (h9 : S 9 ≤ 999) : so (cS S sw ls sl) := by
  obtain ⟨n1, q0, q3, s1, s2, s3, s4, s5, s6, s7, s8, s9, s10⟩ := h
  unfold cS cS0
  split
  · exact ⟨n1, q0, q3, by show 0 ≤ S 7 + 1; omega, by show S 7 + 1 ≤ 1000; omega, s3, s4, by show 0 ≤ S 9 + 1; omega, by show S 9 + 1 ≤ 1000; omega, s7, s8, s9, s10⟩
  · split
    · exact ⟨n1, q0, q3, by show 0 ≤ S 7 + 1; omega, by show S 7 + 1 ≤ 1000; omega, s3, s4, by show (0 : Int) ≤ 0; omega, by show (0 : Int) ≤ 1000; omega, s7, s8, s9, s10⟩
    · exact ⟨n1, q0, q3, by show 0 ≤ S 7 + 1; omega, by show S 7 + 1 ≤ 1000; omega, s3, s4, by show 0 ≤ S 9 + 1; omega, by show S 9 + 1 ≤ 1000; omega, s7, s8, s9, s10⟩
theorem so_evn {S sw em ls sl : Int → Int} (h : so S) (h8 : S 8 ≤ 999) : so (eS S sw em ls sl) := by
  obtain ⟨n1, q0, q3, s1, s2, s3, s4, s5, s6, s7, s8, s9, s10⟩ := h
  unfold eS eS2 eS1
  split
  · exact ⟨n1, q0, q3, s1, s2, by show 0 ≤ S 8 + 1; omega, by show S 8 + 1 ≤ 1000; omega, s5, s6, s7, s8, s9, s10⟩
  · split
    · exact ⟨n1, q0, q3, s1, s2, by show 0 ≤ S 8 + 1; omega, by show S 8 + 1 ≤ 1000; omega, s5, s6, s7, s8, s9, s10⟩
    · exact ⟨n1, q0, q3, s1, s2, by show 0 ≤ S 8 + 1; omega, by show S 8 + 1 ≤ 1000; omega, s5, s6, s7, s8, s9, s10⟩
theorem s_attempt (a w : Int) (c : MM) (G : MG) (S sw em : Int → Int) (hT : TP c G a) (hW : WP c G w) (hp : apart a w) (hS : so S) (h7 : S 7 ≤ 999) (h8 : S 8 ≤ 999) (h9 : S 9 ≤ 999) (h10 : S 10 ≤ 999) (hs : lo sw) (hm : lo em) (ho : wo (c (w + 1))) :
    ev 82 0 [some (vR a), some (vR w), none] [] (tm c a S sw em) G = some (some (vI (xO (c (w + 1)) (c (w + 2)) S sw em)), tm c a (xS (c (w + 1)) (c (w + 2)) (c w 3) S sw em) (xW (c (w + 1)) (c (w + 2)) S sw em) (xM (c (w + 1)) (c (w + 2)) S sw em), G) := by
  have hS' : so (s10 S) := by
    obtain ⟨n1, q0, q3, s1, s2, s3, s4, s5, s6, s7, s8, s9, s10⟩ := hS
    exact ⟨n1, q0, q3, s1, s2, s3, s4, s5, s6, by show 0 ≤ S 10 + 1; omega, by show S 10 + 1 ≤ 1000; omega, s9, s10⟩
  have w10 : w32 (S 10 + 1) = S 10 + 1 := wi32 (by have := hS.2.2.2.2.2.2.2.2.2.1; omega) (by omega)
  have a0 : 0 < a := by have := hT.1; omega
  have e10 : up S 10 (S 10 + 1) = s10 S := rfl
  have C := s_clk a w c G (s10 S) sw em hT hW hp hS' hs ho
  have E := s_evn a w c G (s10 S) sw em hT hW hp hS' hs hm ho
  have DC := fun sw' em' => s_drop a w c G (cS (s10 S) sw (c (w + 1)) (c (w + 2))) sw' em' hT hW hp (so_clk hS' h7 h9)
  have DE := fun sw' em' => s_drop a w c G (eS (s10 S) sw em (c (w + 1)) (c (w + 2))) sw' em' hT hW hp (so_evn hS' h8)
  have x2 : s10 S 2 = S 2 := rfl
  unfold xS xW xM xO xS1 xW1 xM1
  by_cases h : S 2 = 1
  · simp only [h, if_true]
    generalize cO (s10 S) sw (c (w + 1)) (c (w + 2)) = o at *
    by_cases h1 : o < 1
    · have h1' : ¬ 1 ≤ o := by omega
      simp only [xe_82_0, xe_82_1, xe_82_2, xe_82_5, xe_82_6, xe_82_7, xe_82_10, xe_82_11, xe_82_14, xe_82_15, xe_82_18, xe_82_19, xe_82_20, xe_82_23, xe_82_26, xe_82_27, xe_82_28, xe_82_31 _ (some (vI _)) _ _ _ _ _ rfl, xe_82_31 _ (some (vR _)) _ _ _ _ _ rfl, xe_82_31 _ none _ _ _ _ _ rfl, xe_82_32, xe_82_33, xe_82_34, xe_82_37, xe_82_38, xe_82_40, xe_82_43, xe_82_44, xe_82_45, xe_82_48, xe_82_49, ite_self, mm_nL_I, mm_nL_R, mm_nL_0, Option.bind_some, Option.bind_none, bnd_ite, Option.toList_some, Option.toList_none, List.cons_append, List.nil_append, mm_cats_nil, mm_cats_I, mm_cats_L, mm_cats_R, if_true, if_false, true_and, and_true, false_and, and_false, not_true_eq_false, not_false_eq_true, Int.reduceLE, Int.reduceLT, Int.reduceEq, Int.reduceNe, Int.reduceNeg, Int.reduceAdd, Int.reduceSub, Int.reduceMul, Nat.reduceAdd, Nat.reduceLeDiff, true_or, or_true, false_or, or_false, reduceIte, hT.2.1, hW.2.1, a0, tm_0, tm_1, tg_2, tu_2, tg_3, tu_3, tg_4, tu_4, tg_5, tu_5, tg_6, tu_6, tg_7, tu_7, tg_8, tu_8, tg_9, tu_9, tg_10, tu_10, tg_11, tu_11, tg_12, tu_12, up_e, w10, e10, x2, h, C, h1, h1']
    · have h1' : 1 ≤ o := by omega
      by_cases h2 : 6 < o
      · have h2' : ¬ o ≤ 6 := by omega
        simp only [xe_82_0, xe_82_1, xe_82_2, xe_82_5, xe_82_6, xe_82_7, xe_82_10, xe_82_11, xe_82_14, xe_82_15, xe_82_18, xe_82_19, xe_82_20, xe_82_23, xe_82_26, xe_82_27, xe_82_28, xe_82_31 _ (some (vI _)) _ _ _ _ _ rfl, xe_82_31 _ (some (vR _)) _ _ _ _ _ rfl, xe_82_31 _ none _ _ _ _ _ rfl, xe_82_32, xe_82_33, xe_82_34, xe_82_37, xe_82_38, xe_82_40, xe_82_43, xe_82_44, xe_82_45, xe_82_48, xe_82_49, ite_self, mm_nL_I, mm_nL_R, mm_nL_0, Option.bind_some, Option.bind_none, bnd_ite, Option.toList_some, Option.toList_none, List.cons_append, List.nil_append, mm_cats_nil, mm_cats_I, mm_cats_L, mm_cats_R, if_true, if_false, true_and, and_true, false_and, and_false, not_true_eq_false, not_false_eq_true, Int.reduceLE, Int.reduceLT, Int.reduceEq, Int.reduceNe, Int.reduceNeg, Int.reduceAdd, Int.reduceSub, Int.reduceMul, Nat.reduceAdd, Nat.reduceLeDiff, true_or, or_true, false_or, or_false, reduceIte, hT.2.1, hW.2.1, a0, tm_0, tm_1, tg_2, tu_2, tg_3, tu_3, tg_4, tu_4, tg_5, tu_5, tg_6, tu_6, tg_7, tu_7, tg_8, tu_8, tg_9, tu_9, tg_10, tu_10, tg_11, tu_11, tg_12, tu_12, up_e, w10, e10, x2, h, C, h1, h1', h2, h2']
      · have h2' : o ≤ 6 := by omega
        simp only [xe_82_0, xe_82_1, xe_82_2, xe_82_5, xe_82_6, xe_82_7, xe_82_10, xe_82_11, xe_82_14, xe_82_15, xe_82_18, xe_82_19, xe_82_20, xe_82_23, xe_82_26, xe_82_27, xe_82_28, xe_82_31 _ (some (vI _)) _ _ _ _ _ rfl, xe_82_31 _ (some (vR _)) _ _ _ _ _ rfl, xe_82_31 _ none _ _ _ _ _ rfl, xe_82_32, xe_82_33, xe_82_34, xe_82_37, xe_82_38, xe_82_40, xe_82_43, xe_82_44, xe_82_45, xe_82_48, xe_82_49, ite_self, mm_nL_I, mm_nL_R, mm_nL_0, Option.bind_some, Option.bind_none, bnd_ite, Option.toList_some, Option.toList_none, List.cons_append, List.nil_append, mm_cats_nil, mm_cats_I, mm_cats_L, mm_cats_R, if_true, if_false, true_and, and_true, false_and, and_false, not_true_eq_false, not_false_eq_true, Int.reduceLE, Int.reduceLT, Int.reduceEq, Int.reduceNe, Int.reduceNeg, Int.reduceAdd, Int.reduceSub, Int.reduceMul, Nat.reduceAdd, Nat.reduceLeDiff, true_or, or_true, false_or, or_false, reduceIte, hT.2.1, hW.2.1, a0, tm_0, tm_1, tg_2, tu_2, tg_3, tu_3, tg_4, tu_4, tg_5, tu_5, tg_6, tu_6, tg_7, tu_7, tg_8, tu_8, tg_9, tu_9, tg_10, tu_10, tg_11, tu_11, tg_12, tu_12, up_e, w10, e10, x2, h, C, h1, h1', h2, h2', DC]
  · simp only [h, if_false]
    generalize eO (s10 S) sw em (c (w + 1)) (c (w + 2)) = o at *
    by_cases h1 : o < 1
    · have h1' : ¬ 1 ≤ o := by omega
      simp only [xe_82_0, xe_82_1, xe_82_2, xe_82_5, xe_82_6, xe_82_7, xe_82_10, xe_82_11, xe_82_14, xe_82_15, xe_82_18, xe_82_19, xe_82_20, xe_82_23, xe_82_26, xe_82_27, xe_82_28, xe_82_31 _ (some (vI _)) _ _ _ _ _ rfl, xe_82_31 _ (some (vR _)) _ _ _ _ _ rfl, xe_82_31 _ none _ _ _ _ _ rfl, xe_82_32, xe_82_33, xe_82_34, xe_82_37, xe_82_38, xe_82_40, xe_82_43, xe_82_44, xe_82_45, xe_82_48, xe_82_49, ite_self, mm_nL_I, mm_nL_R, mm_nL_0, Option.bind_some, Option.bind_none, bnd_ite, Option.toList_some, Option.toList_none, List.cons_append, List.nil_append, mm_cats_nil, mm_cats_I, mm_cats_L, mm_cats_R, if_true, if_false, true_and, and_true, false_and, and_false, not_true_eq_false, not_false_eq_true, Int.reduceLE, Int.reduceLT, Int.reduceEq, Int.reduceNe, Int.reduceNeg, Int.reduceAdd, Int.reduceSub, Int.reduceMul, Nat.reduceAdd, Nat.reduceLeDiff, true_or, or_true, false_or, or_false, reduceIte, hT.2.1, hW.2.1, a0, tm_0, tm_1, tg_2, tu_2, tg_3, tu_3, tg_4, tu_4, tg_5, tu_5, tg_6, tu_6, tg_7, tu_7, tg_8, tu_8, tg_9, tu_9, tg_10, tu_10, tg_11, tu_11, tg_12, tu_12, up_e, w10, e10, x2, h, E, h1, h1']
    · have h1' : 1 ≤ o := by omega
      by_cases h2 : 6 < o
      · have h2' : ¬ o ≤ 6 := by omega
        simp only [xe_82_0, xe_82_1, xe_82_2, xe_82_5, xe_82_6, xe_82_7, xe_82_10, xe_82_11, xe_82_14, xe_82_15, xe_82_18, xe_82_19, xe_82_20, xe_82_23, xe_82_26, xe_82_27, xe_82_28, xe_82_31 _ (some (vI _)) _ _ _ _ _ rfl, xe_82_31 _ (some (vR _)) _ _ _ _ _ rfl, xe_82_31 _ none _ _ _ _ _ rfl, xe_82_32, xe_82_33, xe_82_34, xe_82_37, xe_82_38, xe_82_40, xe_82_43, xe_82_44, xe_82_45, xe_82_48, xe_82_49, ite_self, mm_nL_I, mm_nL_R, mm_nL_0, Option.bind_some, Option.bind_none, bnd_ite, Option.toList_some, Option.toList_none, List.cons_append, List.nil_append, mm_cats_nil, mm_cats_I, mm_cats_L, mm_cats_R, if_true, if_false, true_and, and_true, false_and, and_false, not_true_eq_false, not_false_eq_true, Int.reduceLE, Int.reduceLT, Int.reduceEq, Int.reduceNe, Int.reduceNeg, Int.reduceAdd, Int.reduceSub, Int.reduceMul, Nat.reduceAdd, Nat.reduceLeDiff, true_or, or_true, false_or, or_false, reduceIte, hT.2.1, hW.2.1, a0, tm_0, tm_1, tg_2, tu_2, tg_3, tu_3, tg_4, tu_4, tg_5, tu_5, tg_6, tu_6, tg_7, tu_7, tg_8, tu_8, tg_9, tu_9, tg_10, tu_10, tg_11, tu_11, tg_12, tu_12, up_e, w10, e10, x2, h, E, h1, h1', h2, h2']
      · have h2' : o ≤ 6 := by omega
        simp only [xe_82_0, xe_82_1, xe_82_2, xe_82_5, xe_82_6, xe_82_7, xe_82_10, xe_82_11, xe_82_14, xe_82_15, xe_82_18, xe_82_19, xe_82_20, xe_82_23, xe_82_26, xe_82_27, xe_82_28, xe_82_31 _ (some (vI _)) _ _ _ _ _ rfl, xe_82_31 _ (some (vR _)) _ _ _ _ _ rfl, xe_82_31 _ none _ _ _ _ _ rfl, xe_82_32, xe_82_33, xe_82_34, xe_82_37, xe_82_38, xe_82_40, xe_82_43, xe_82_44, xe_82_45, xe_82_48, xe_82_49, ite_self, mm_nL_I, mm_nL_R, mm_nL_0, Option.bind_some, Option.bind_none, bnd_ite, Option.toList_some, Option.toList_none, List.cons_append, List.nil_append, mm_cats_nil, mm_cats_I, mm_cats_L, mm_cats_R, if_true, if_false, true_and, and_true, false_and, and_false, not_true_eq_false, not_false_eq_true, Int.reduceLE, Int.reduceLT, Int.reduceEq, Int.reduceNe, Int.reduceNeg, Int.reduceAdd, Int.reduceSub, Int.reduceMul, Nat.reduceAdd, Nat.reduceLeDiff, true_or, or_true, false_or, or_false, reduceIte, hT.2.1, hW.2.1, a0, tm_0, tm_1, tg_2, tu_2, tg_3, tu_3, tg_4, tu_4, tg_5, tu_5, tg_6, tu_6, tg_7, tu_7, tg_8, tu_8, tg_9, tu_9, tg_10, tu_10, tg_11, tu_11, tg_12, tu_12, up_e, w10, e10, x2, h, E, h1, h1', h2, h2', DE]
