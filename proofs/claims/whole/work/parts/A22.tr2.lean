theorem b4_cg {f g : Int → Bool} (h : ∀ l, 0 ≤ l → l < 4 → f l = g l) : b4 f = b4 g := by
  unfold b4
  rw [h 0 (by omega) (by omega), h 1 (by omega) (by omega), h 2 (by omega) (by omega), h 3 (by omega) (by omega)]
theorem o4_cg {f g : Int → Bool} (h : ∀ l, 0 ≤ l → l < 4 → f l = g l) : o4 f = o4 g := by
  unfold o4
  rw [h 0 (by omega) (by omega), h 1 (by omega) (by omega), h 2 (by omega) (by omega), h 3 (by omega) (by omega)]
theorem tm_cg (c : MM) (a : Int) (S : Int → Int) {sw sw' em em' : Int → Int} (h : ∀ l, 0 ≤ l → l < 4 → sw l = sw' l) (h' : ∀ l, 0 ≤ l → l < 4 → em l = em' l) : tm c a S sw em = tm c a S sw' em' := by
  funext b j
  simp only [tm]
  split
  · rfl
  · split
    · rename_i q; exact h j q.2.1 q.2.2
    · split
      · rename_i q; exact h' j q.2.1 q.2.2
      · rfl
/-- ladders and wires have their bounds -/
def lo (sw : Int → Int) : Prop := ∀ l, 0 ≤ l → l < 4 → 0 ≤ sw l ∧ sw l ≤ 4
def wo (ls : Int → Int) : Prop := ∀ l, 0 ≤ l → l < 4 → 0 ≤ ls l ∧ ls l ≤ 30
theorem s_wS (a w : Int) (c : MM) (G : MG) (S sw em : Int → Int) (hT : TP c G a) (hW : WP c G w) (hp : apart a w) (q0 : 0 ≤ S 4) (q3 : S 4 ≤ 3) (hs : lo sw) (ho : wo (c (w + 1))) :
    ev 86 0 [some (vR a), some (vR w), none, none] [] (tm c a S sw em) G = some (some (vI (b4 (wsb (S 3) (S 4) sw (c (w + 1))))), tm c a S sw em, G) := by
  have hp' := hp
  unfold apart at hp'
  have e : tm c a S sw em (w + 1) = c (w + 1) := tm_b _ _ _ _ _ _ (by omega) (by omega) (by omega)
  have h := s_wantS a w (tm c a S sw em) G (hT.atm S sw em) (hW.atm hp S sw em) (by rw [tg_4]; exact q0) (by rw [tg_4]; exact q3) (fun l l0 l3 => by rw [tm_s _ _ _ _ _ _ l0 l3]; exact hs l l0 l3) (by rw [e]; exact ho)
  rw [h, e, tg_3, tg_4, b4_cg (g := wsb (S 3) (S 4) sw (c (w + 1))) (fun l l0 l3 => by unfold wsb; rw [tm_s _ _ _ _ _ _ l0 l3])]
theorem s_wE (a w : Int) (c : MM) (G : MG) (S sw em : Int → Int) (hT : TP c G a) (hW : WP c G w) (hp : apart a w) (q0 : 0 ≤ S 4) (q3 : S 4 ≤ 3) (hs : lo em) (ho : wo (c (w + 1))) :
    ev 87 0 [some (vR a), some (vR w), none, none] [] (tm c a S sw em) G = some (some (vI (b4 (web (S 3) (S 4) em (c (w + 1))))), tm c a S sw em, G) := by
  have hp' := hp
  unfold apart at hp'
  have e : tm c a S sw em (w + 1) = c (w + 1) := tm_b _ _ _ _ _ _ (by omega) (by omega) (by omega)
  have h := s_wantE a w (tm c a S sw em) G (hT.atm S sw em) (hW.atm hp S sw em) (by rw [tg_4]; exact q0) (by rw [tg_4]; exact q3) (fun l l0 l3 => by rw [tm_m _ _ _ _ _ _ l0 l3]; exact hs l l0 l3) (by rw [e]; exact ho)
  rw [h, e, tg_3, tg_4, b4_cg (g := web (S 3) (S 4) em (c (w + 1))) (fun l l0 l3 => by unfold web; rw [tm_m _ _ _ _ _ _ l0 l3])]
theorem s_fL (a w t : Int) (c : MM) (G : MG) (S sw em : Int → Int) (hT : TP c G a) (hW : WP c G w) (hp : apart a w) :
    ev 88 0 [some (vR a), some (vR w), some (vI t), none, none] [] (tm c a S sw em) G = some (some (vI (b4 (fab (S 3) t (c (w + 2))))), tm c a S sw em, G) := by
  have hp' := hp
  unfold apart at hp'
  have e : tm c a S sw em (w + 2) = c (w + 2) := tm_b _ _ _ _ _ _ (by omega) (by omega) (by omega)
  have h := s_fastL a w t (tm c a S sw em) G (hT.atm S sw em) (hW.atm hp S sw em)
  rw [h, e, tg_3]
theorem s_tS (a : Int) (f : Int → Bool) (c : MM) (G : MG) (S sw em : Int → Int) (hT : TP c G a) :
    ev 89 0 [some (vR (a + 1)), some (vI (b4 f)), none] [] (tm c a S sw em) G = some (some (vI (be (o4 (tpb f sw)))), tm c a S sw em, G) := by
  have h := s_top (a + 1) f (tm c a S sw em) G hT.2.2.2.2.1 hT.2.2.2.2.2.1
  rw [h, o4_cg (g := tpb f sw) (fun l l0 l3 => by unfold tpb; rw [tm_s _ _ _ _ _ _ l0 l3])]
theorem s_tE (a : Int) (f : Int → Bool) (c : MM) (G : MG) (S sw em : Int → Int) (hT : TP c G a) :
    ev 89 0 [some (vR (a + 2)), some (vI (b4 f)), none] [] (tm c a S sw em) G = some (some (vI (be (o4 (tpb f em)))), tm c a S sw em, G) := by
  have h := s_top (a + 2) f (tm c a S sw em) G hT.2.2.2.2.2.2.1 hT.2.2.2.2.2.2.2
  rw [h, o4_cg (g := tpb f em) (fun l l0 l3 => by unfold tpb; rw [tm_m _ _ _ _ _ _ l0 l3])]
def rai (f : Int → Bool) (d : Int → Int) : Int → Int := fun l => d l + be (f l)
theorem s_rS (a : Int) (f : Int → Bool) (c : MM) (G : MG) (S sw em : Int → Int) (hT : TP c G a) (hs : lo sw) :
    ev 90 0 [some (vR (a + 1)), some (vI (b4 f)), none] [] (tm c a S sw em) G = some (none, tm c a S (rai f sw) em, G) := by
  have h := s_raise (a + 1) f (tm c a S sw em) G (by have := hT.1; omega) hT.2.2.2.2.1 hT.2.2.2.2.2.1 (fun l l0 l3 => by rw [tm_s _ _ _ _ _ _ l0 l3]; exact hs l l0 l3)
  rw [h, tm_r, tm_cg c a S (sw' := rai f sw) (em' := em) (fun l l0 l3 => by simp only [rai]; rw [tm_s _ _ _ _ _ _ l0 l3]) (fun _ _ _ => rfl)]
theorem s_rE (a : Int) (f : Int → Bool) (c : MM) (G : MG) (S sw em : Int → Int) (hT : TP c G a) (hs : lo em) :
    ev 90 0 [some (vR (a + 2)), some (vI (b4 f)), none] [] (tm c a S sw em) G = some (none, tm c a S sw (rai f em), G) := by
  have h := s_raise (a + 2) f (tm c a S sw em) G (by have := hT.1; omega) hT.2.2.2.2.2.2.1 hT.2.2.2.2.2.2.2 (fun l l0 l3 => by rw [tm_m _ _ _ _ _ _ l0 l3]; exact hs l l0 l3)
  rw [h, tm_rm, tm_cg c a S (sw' := sw) (em' := rai f em) (fun _ _ _ => rfl) (fun l l0 l3 => by simp only [rai]; rw [tm_m _ _ _ _ _ _ l0 l3])]
/-- easing -/
def ezb (f : Int → Bool) (sw em : Int → Int) (l : Int) : Bool := f l && decide (3 < sw l + em l)
def ez1 (f : Int → Bool) (em sw : Int → Int) (l : Int) : Int → Int := if ezb f sw em l = true then up sw l (sw l - 1) else sw
def ez (f : Int → Bool) (sw em : Int → Int) : Int → Int := fun l => if ezb f sw em l = true then sw l - 1 else sw l
theorem s_easel (a l : Int) (f : Int → Bool) (c : MM) (G : MG) (S sw em : Int → Int) (hT : TP c G a) (l0 : 0 ≤ l) (l3 : l < 4) (s0 : 0 ≤ sw l) (s1 : sw l ≤ 4) (m0 : 0 ≤ em l) (m1 : em l ≤ 8) :
    ev 91 2 [some (vR a), some (vI (b4 f)), some (vI l)] [] (tm c a S sw em) G = ev 91 2 [some (vR a), some (vI (b4 f)), some (vI (l + 1))] [] (tm c a S (ez1 f em sw l) em) G := by
  obtain ⟨t1, t2, t3, t4, t5, t6, t7, t8⟩ := hT
  have g : ¬ 4 ≤ l := by omega
  have w5 : w32 (l + 1) = l + 1 := wi32 (by omega) (by omega)
  have b := bt_l f l l0 l3
  have w6 : w32 (sw l + em l) = sw l + em l := wi32 (by omega) (by omega)
  have p1 : 10 ≤ a + 1 := by omega
  have us := tm_us c a S sw em l (sw l - 1) l0 l3
  rw [xe_91_2]
  unfold ez1 ezb
  cases e : f l
  · rw [e] at b
    have b' : mm_and (mm_shr (b4 f) l) 1 = 0 := b
    simp only [xe_91_3, xe_91_4, xe_91_7, xe_91_8, xe_91_9, xe_91_10, xe_91_11, xe_91_12, xe_91_15, xe_91_16, xe_91_19, xe_91_20, xe_91_21, xe_91_22, xe_91_25, xe_91_26, xe_91_27, xe_91_28, xe_91_29, xe_91_32, xe_91_33, xe_91_36, xe_91_37, xe_91_38, xe_91_39, xe_91_40, xe_91_41, xe_91_42 _ (some (vI _)) _ _ _ _ rfl, xe_91_42 _ (some (vR _)) _ _ _ _ rfl, xe_91_42 _ none _ _ _ _ rfl, xe_91_45, xe_91_48, ite_self, mm_nL_I, mm_nL_R, mm_nL_0, Option.bind_some, Option.bind_none, bnd_ite, Option.toList_some, Option.toList_none, List.cons_append, List.nil_append, mm_cats_nil, mm_cats_I, mm_cats_L, mm_cats_R, if_true, if_false, true_and, and_true, false_and, and_false, not_true_eq_false, not_false_eq_true, Int.reduceLE, Int.reduceLT, Int.reduceEq, Int.reduceNe, Int.reduceNeg, Int.reduceAdd, Int.reduceSub, Int.reduceMul, Nat.reduceAdd, Nat.reduceLeDiff, true_or, or_true, false_or, or_false, reduceIte, g, b', w5, Bool.false_and, Bool.false_eq_true]
  · rw [e] at b
    have b' : mm_and (mm_shr (b4 f) l) 1 = 1 := b
    by_cases h : 3 < sw l + em l
    · have h' : ¬ sw l + em l ≤ 3 := by omega
      have w7 : w32 (sw l - 1) = sw l - 1 := wi32 (by omega) (by omega)
      simp only [xe_91_3, xe_91_4, xe_91_7, xe_91_8, xe_91_9, xe_91_10, xe_91_11, xe_91_12, xe_91_15, xe_91_16, xe_91_19, xe_91_20, xe_91_21, xe_91_22, xe_91_25, xe_91_26, xe_91_27, xe_91_28, xe_91_29, xe_91_32, xe_91_33, xe_91_36, xe_91_37, xe_91_38, xe_91_39, xe_91_40, xe_91_41, xe_91_42 _ (some (vI _)) _ _ _ _ rfl, xe_91_42 _ (some (vR _)) _ _ _ _ rfl, xe_91_42 _ none _ _ _ _ rfl, xe_91_45, xe_91_48, ite_self, mm_nL_I, mm_nL_R, mm_nL_0, Option.bind_some, Option.bind_none, bnd_ite, Option.toList_some, Option.toList_none, List.cons_append, List.nil_append, mm_cats_nil, mm_cats_I, mm_cats_L, mm_cats_R, if_true, if_false, true_and, and_true, false_and, and_false, not_true_eq_false, not_false_eq_true, Int.reduceLE, Int.reduceLT, Int.reduceEq, Int.reduceNe, Int.reduceNeg, Int.reduceAdd, Int.reduceSub, Int.reduceMul, Nat.reduceAdd, Nat.reduceLeDiff, true_or, or_true, false_or, or_false, reduceIte, t2, t3, t4, t5, t6, t7, t8, tm_0, tm_1, tm_s _ _ _ _ _ _ l0 l3, tm_m _ _ _ _ _ _ l0 l3, g, b', l0, l3, h, h', w5, w6, w7, p1, us, decide_true, Bool.true_and]
    · have h' : sw l + em l ≤ 3 := by omega
      simp only [xe_91_3, xe_91_4, xe_91_7, xe_91_8, xe_91_9, xe_91_10, xe_91_11, xe_91_12, xe_91_15, xe_91_16, xe_91_19, xe_91_20, xe_91_21, xe_91_22, xe_91_25, xe_91_26, xe_91_27, xe_91_28, xe_91_29, xe_91_32, xe_91_33, xe_91_36, xe_91_37, xe_91_38, xe_91_39, xe_91_40, xe_91_41, xe_91_42 _ (some (vI _)) _ _ _ _ rfl, xe_91_42 _ (some (vR _)) _ _ _ _ rfl, xe_91_42 _ none _ _ _ _ rfl, xe_91_45, xe_91_48, ite_self, mm_nL_I, mm_nL_R, mm_nL_0, Option.bind_some, Option.bind_none, bnd_ite, Option.toList_some, Option.toList_none, List.cons_append, List.nil_append, mm_cats_nil, mm_cats_I, mm_cats_L, mm_cats_R, if_true, if_false, true_and, and_true, false_and, and_false, not_true_eq_false, not_false_eq_true, Int.reduceLE, Int.reduceLT, Int.reduceEq, Int.reduceNe, Int.reduceNeg, Int.reduceAdd, Int.reduceSub, Int.reduceMul, Nat.reduceAdd, Nat.reduceLeDiff, true_or, or_true, false_or, or_false, reduceIte, t2, t3, t4, t5, t6, t7, t8, tm_0, tm_1, tm_s _ _ _ _ _ _ l0 l3, tm_m _ _ _ _ _ _ l0 l3, g, b', l0, l3, h, h', w5, w6, decide_false, Bool.true_and, Bool.false_eq_true]
theorem ez1_n (f : Int → Bool) (em sw : Int → Int) (l j : Int) (h : ¬ j = l) : ez1 f em sw l j = sw j := by
  unfold ez1
  split
  · simp [up, h]
  · rfl
theorem ez1_y (f : Int → Bool) (em sw : Int → Int) (l : Int) : ez1 f em sw l l = ez f sw em l := by
  unfold ez1 ez
  split
  · simp [up]
  · rfl
theorem s_ease (a : Int) (f : Int → Bool) (c : MM) (G : MG) (S sw em : Int → Int) (hT : TP c G a) (hs : lo sw) (hm : ∀ l, 0 ≤ l → l < 4 → 0 ≤ em l ∧ em l ≤ 8) :
    ev 91 0 [some (vR a), some (vI (b4 f)), none] [] (tm c a S sw em) G = some (none, tm c a S (ez f sw em) em, G) := by
  simp only [xe_91_0, xe_91_1 _ (some (vI _)) _ _ _ _ _ rfl, xe_91_1 _ (some (vR _)) _ _ _ _ _ rfl, xe_91_1 _ none _ _ _ _ _ rfl]
  have n1 : ez1 f em sw 0 1 = sw 1 := ez1_n _ _ _ _ _ (by omega)
  have n2 : ez1 f em (ez1 f em sw 0) 1 2 = sw 2 := by rw [ez1_n _ _ _ _ _ (by omega), ez1_n _ _ _ _ _ (by omega)]
  have n3 : ez1 f em (ez1 f em (ez1 f em sw 0) 1) 2 3 = sw 3 := by rw [ez1_n _ _ _ _ _ (by omega), ez1_n _ _ _ _ _ (by omega), ez1_n _ _ _ _ _ (by omega)]
  have a0 := s_easel a 0 f c G S sw em hT (by omega) (by omega) (hs 0 (by omega) (by omega)).1 (hs 0 (by omega) (by omega)).2 (hm 0 (by omega) (by omega)).1 (hm 0 (by omega) (by omega)).2
  have a1 := s_easel a 1 f c G S (ez1 f em sw 0) em hT (by omega) (by omega) (by rw [n1]; exact (hs 1 (by omega) (by omega)).1) (by rw [n1]; exact (hs 1 (by omega) (by omega)).2) (hm 1 (by omega) (by omega)).1 (hm 1 (by omega) (by omega)).2
  have a2 := s_easel a 2 f c G S (ez1 f em (ez1 f em sw 0) 1) em hT (by omega) (by omega) (by rw [n2]; exact (hs 2 (by omega) (by omega)).1) (by rw [n2]; exact (hs 2 (by omega) (by omega)).2) (hm 2 (by omega) (by omega)).1 (hm 2 (by omega) (by omega)).2
  have a3 := s_easel a 3 f c G S (ez1 f em (ez1 f em (ez1 f em sw 0) 1) 2) em hT (by omega) (by omega) (by rw [n3]; exact (hs 3 (by omega) (by omega)).1) (by rw [n3]; exact (hs 3 (by omega) (by omega)).2) (hm 3 (by omega) (by omega)).1 (hm 3 (by omega) (by omega)).2
  refine a0.trans (a1.trans (a2.trans (a3.trans ?_)))
  have fin : tm c a S (ez1 f em (ez1 f em (ez1 f em (ez1 f em sw 0) 1) 2) 3) em = tm c a S (ez f sw em) em := by
    refine tm_cg c a S (fun l l0 l3 => ?_) (fun _ _ _ => rfl)
    have q : l = 0 ∨ l = 1 ∨ l = 2 ∨ l = 3 := by omega
    rcases q with rfl | rfl | rfl | rfl
    · rw [ez1_n _ _ _ _ _ (by omega), ez1_n _ _ _ _ _ (by omega), ez1_n _ _ _ _ _ (by omega), ez1_y]
    · rw [ez1_n _ _ _ _ _ (by omega), ez1_n _ _ _ _ _ (by omega), ez1_y]
      unfold ez ezb; rw [n1]
    · rw [ez1_n _ _ _ _ _ (by omega), ez1_y]
      unfold ez ezb; rw [n2]
    · rw [ez1_y]
      unfold ez ezb; rw [n3]
  rw [fin]
  simp only [xe_91_2, xe_91_3, xe_91_4, xe_91_48, ite_self, mm_nL_I, mm_nL_R, mm_nL_0, Option.bind_some, Option.bind_none, bnd_ite, Option.toList_some, Option.toList_none, List.cons_append, List.nil_append, mm_cats_nil, mm_cats_I, mm_cats_L, mm_cats_R, if_true, if_false, true_and, and_true, false_and, and_false, not_true_eq_false, not_false_eq_true, Int.reduceLE, Int.reduceLT, Int.reduceEq, Int.reduceNe, Int.reduceNeg, Int.reduceAdd, Int.reduceSub, Int.reduceMul, Nat.reduceAdd, Nat.reduceLeDiff, true_or, or_true, false_or, or_false, reduceIte]
/-- all lanes -/
def al (n : Int) : Int := if n = 1 then 1 else if n = 2 then 3 else 15
theorem s_all (a : Int) (c : MM) (G : MG) (S sw em : Int → Int) (hT : TP c G a) (hn : S 3 = 1 ∨ S 3 = 2 ∨ S 3 = 4) : ev 83 0 [some (vR a)] [] (tm c a S sw em) G = some (some (vI (al (S 3))), tm c a S sw em, G) := by
  have e1 : w32 (mm_shl 1 1 - 1) = 1 := by decide +kernel
  have e2 : w32 (mm_shl 1 2 - 1) = 3 := by decide +kernel
  have e4 : w32 (mm_shl 1 4 - 1) = 15 := by decide +kernel
  rcases hn with e | e | e <;> simp only [xe_83_0, xe_83_1, xe_83_2, xe_83_5, xe_83_6, xe_83_7, xe_83_8, ite_self, mm_nL_I, mm_nL_R, mm_nL_0, Option.bind_some, Option.bind_none, bnd_ite, Option.toList_some, Option.toList_none, List.cons_append, List.nil_append, mm_cats_nil, mm_cats_I, mm_cats_L, mm_cats_R, if_true, if_false, true_and, and_true, false_and, and_false, not_true_eq_false, not_false_eq_true, Int.reduceLE, Int.reduceLT, Int.reduceEq, Int.reduceNe, Int.reduceNeg, Int.reduceAdd, Int.reduceSub, Int.reduceMul, Nat.reduceAdd, Nat.reduceLeDiff, true_or, or_true, false_or, or_false, reduceIte, hT.2.1, tm_0, tm_1, tg_2, tu_2, tg_3, tu_3, tg_4, tu_4, tg_5, tu_5, tg_6, tu_6, tg_7, tu_7, tg_8, tu_8, tg_9, tu_9, tg_10, tu_10, tg_11, tu_11, tg_12, tu_12, up_e, e, e1, e2, e4, al]
