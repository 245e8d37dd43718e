/-! called: the class's text, whole numbers -/
/-- x has s digits -/
def nd : Nat → Int → Prop
  | 0, _ => False
  | 1, x => 0 ≤ x ∧ x < 10
  | s + 2, x => 10 ≤ x ∧ nd (s + 1) (x / 10)
theorem nd_0 : ∀ (s : Nat) (x : Int), nd s x → 0 ≤ x ∧ 1 ≤ s
  | 0, x, h => h.elim
  | 1, x, h => by have := h.1; omega
  | s + 2, x, h => by have := h.1; omega
theorem dgs_1 (f : Int → Int) (e x : Int) : up f (e - 1) (48 + x % 10) = dgs f (e - ((1 : Nat) : Int)) 1 x := by
  funext j
  unfold up dgs
  by_cases h : j = e - 1
  · rw [if_pos h, if_pos (by omega), show (e - ((1 : Nat) : Int) + ((1 : Nat) : Int) - 1 - j).toNat = 0 by omega]; rfl
  · rw [if_neg h, if_neg (by omega)]
theorem dgs_2 (f : Int → Int) (e x : Int) : up (up f (e - 1) (48 + x % 10)) (e - 2) (48 + x / 10 % 10) = dgs f (e - ((2 : Nat) : Int)) 2 x := by
  funext j
  unfold up dgs
  by_cases h : j = e - 2
  · rw [if_pos h, if_pos (by omega), show (e - ((2 : Nat) : Int) + ((2 : Nat) : Int) - 1 - j).toNat = 1 by omega]; rfl
  · rw [if_neg h]
    by_cases g : j = e - 1
    · rw [if_pos g, if_pos (by omega), show (e - ((2 : Nat) : Int) + ((2 : Nat) : Int) - 1 - j).toNat = 0 by omega]; rfl
    · rw [if_neg g, if_neg (by omega)]
theorem dgs_s (f : Int → Int) (e x : Int) (s : Nat) : dgs (up (up f (e - 1) (48 + x % 10)) (e - 2) (48 + x / 10 % 10)) (e - 2 - (s : Int)) s (x / 100) = dgs f (e - ((s + 2 : Nat) : Int)) (s + 2) x := by
  funext j
  by_cases a : e - 2 - (s : Int) ≤ j ∧ j < e - 2
  · unfold dgs
    rw [if_pos (by omega), if_pos (by omega), show (e - ((s + 2 : Nat) : Int) + ((s + 2 : Nat) : Int) - 1 - j).toNat = (e - 2 - (s : Int) + (s : Int) - 1 - j).toNat + 2 by omega, dgd_2]
  · rw [dgs_2]
    unfold dgs
    rw [if_neg (by omega)]
    by_cases b : e - ((2 : Nat) : Int) ≤ j ∧ j < e - ((2 : Nat) : Int) + ((2 : Nat) : Int)
    · rw [if_pos b, if_pos (by omega), show (e - ((2 : Nat) : Int) + ((2 : Nat) : Int) - 1 - j).toNat = (e - ((s + 2 : Nat) : Int) + ((s + 2 : Nat) : Int) - 1 - j).toNat by omega]
    · rw [if_neg b, if_neg (by omega)]
section TY
variable {L : Int} {c : MM}
theorem gc_all (hd : Tdg c) (n l a : Int) : ∀ (s : Nat) (x e : Int) (f : Int → Int) (y3 y4 : Option MV), (y4 = none ∨ ∃ v, y4 = some (vI v)) → nd s x → x ≤ 2000000000 → (s : Int) ≤ e → e ≤ 16 → ∃ v, ev 259 22 [some (vI (-x)), some (vI a), some (vR 133), y3, y4, some (vI e), some (vI 0)] [] (tx c n l f) (g_1 L) = some (some (vI v), tx c n l (dgs f (e - (s : Int)) s x), g_1 L)
  | 0, _, _, _, _, _, _, h, _, _, _ => h.elim
  | 1, x, e, f, y3, y4, h4, h, x1, e0, e1 => by
    obtain ⟨v, V⟩ := gc_e (L := L) hd n l x e a f y3 y4 h4 h.1 (by have := h.2; omega) (by have := h.2; omega) e1
    rw [if_pos (by have := h.2; omega), dgs_1] at V
    exact ⟨v, V⟩
  | 2, x, e, f, y3, y4, h4, h, x1, e0, e1 => by
    have q := h.2
    have q1 : 0 ≤ x / 10 ∧ x / 10 < 10 := q
    obtain ⟨v, V⟩ := gc_e (L := L) hd n l x e a f y3 y4 h4 (by have := h.1; omega) (by omega) (by omega) e1
    rw [if_neg (by have := h.1; omega), dgs_2] at V
    exact ⟨v, V⟩
  | s + 3, x, e, f, y3, y4, h4, h, x1, e0, e1 => by
    have q : 10 ≤ x ∧ 10 ≤ x / 10 ∧ nd (s + 1) (x / 10 / 10) := h
    rw [show x / 10 / 10 = x / 100 by omega] at q
    have S := gc_2 (L := L) hd n l x e a f y3 y4 (by omega) x1 (by omega) e1
    obtain ⟨v, V⟩ := gc_all hd n l a (s + 1) (x / 100) (e - 2) _ _ _ (Or.inr ⟨_, rfl⟩) q.2.2 (by omega) (by omega) (by omega)
    rw [dgs_s f e x (s + 1)] at V
    exact ⟨v, S.trans V⟩
theorem ss_lp (x : Int) (x1 : x ≤ 2000000000) (μ : MM) (G : MG) : ∀ (s i : Nat), nd s (x / pw i) → s + i ≤ 9 → ev 260 16 [some (vI (-x)), some (vI 0), some (vI (-pw (i + 1))), some (vI ((i : Int) + 1))] [] μ G = some (some (vI ((i : Int) + (s : Int))), μ, G)
  | 0, _, h, _ => h.elim
  | 1, i, h, hi => by
    have p := pw_p i
    have q : x < 10 * pw i := by
      have := Int.lt_mul_of_ediv_lt p h.2
      omega
    have e : pw (i + 1) = 10 * pw i := rfl
    have g : ¬ 10 ≤ (i : Int) + 1 := by omega
    have g2 : ¬ -x ≤ -pw (i + 1) := by omega
    have w : w32 ((i : Int) + 1 + 0) = (i : Int) + 1 := by rw [wi32 (by omega) (by omega)]; omega
    rw [xe_260_16]
    simp only [xe_260_17, xe_260_19, xe_260_22, xe_260_23, xe_260_24, xe_260_27, xe_260_28, xe_260_29, xe_260_30, xe_260_31, xe_260_33, xe_260_34, xe_260_35 _ (some (vI _)) _ _ _ _ _ _ rfl, xe_260_35 _ (some (vR _)) _ _ _ _ _ _ rfl, xe_260_35 _ none _ _ _ _ _ _ rfl, xe_260_36 _ _ (some (vI _)) _ _ _ _ rfl, xe_260_36 _ _ (some (vR _)) _ _ _ _ rfl, xe_260_36 _ _ none _ _ _ _ rfl, xe_260_39, xe_260_42, xe_260_44, xe_260_45, xe_260_46, ite_self, mm_nL_I, mm_nL_R, mm_nL_0, Option.bind_some, Option.bind_none, bnd_ite, Option.toList_some, Option.toList_none, List.cons_append, List.nil_append, mm_cats_nil, mm_cats_I, mm_cats_L, mm_cats_R, if_true, if_false, true_and, and_true, false_and, and_false, not_true_eq_false, not_false_eq_true, Int.reduceLE, Int.reduceLT, Int.reduceEq, Int.reduceNe, Int.reduceNeg, Int.reduceAdd, Int.reduceSub, Int.reduceMul, Nat.reduceAdd, Nat.reduceLeDiff, true_or, or_true, false_or, or_false, reduceIte, g, g2, w]
    rfl
  | s + 2, i, h, hi => by
    have p := pw_p i
    have q : 10 * pw i ≤ x := by
      have := (Int.le_ediv_iff_mul_le p).1 h.1
      omega
    have e : pw (i + 1) = 10 * pw i := rfl
    have e2 : pw (i + 1 + 1) = 10 * pw (i + 1) := rfl
    have n2 : nd (s + 1) (x / pw (i + 1)) := by
      have t : x / pw (i + 1) = x / pw i / 10 := by
        rw [e, Int.mul_comm, Int.ediv_ediv_of_nonneg (by omega)]
      rw [t]; exact h.2
    have I := ss_lp x x1 μ G (s + 1) (i + 1) n2 (by omega)
    have g : ¬ 10 ≤ (i : Int) + 1 := by omega
    have g2 : -x ≤ -pw (i + 1) := by omega
    have b : pw (i + 1) ≤ 100000000 := by
      have : ∀ k : Nat, k ≤ 8 → pw k ≤ 100000000 := by decide
      exact this (i + 1) (by omega)
    have w : w32 (10 * -pw (i + 1)) = -pw (i + 1 + 1) := by rw [wi32 (by omega) (by omega), e2]; omega
    have w1 : w32 ((i : Int) + 1 + 1) = ((i + 1 : Nat) : Int) + 1 := by rw [wi32 (by omega) (by omega)]; omega
    rw [show (i : Int) + ((s + 2 : Nat) : Int) = ((i + 1 : Nat) : Int) + ((s + 1 : Nat) : Int) by omega, ← I, xe_260_16]
    simp only [xe_260_17, xe_260_19, xe_260_22, xe_260_23, xe_260_24, xe_260_27, xe_260_28, xe_260_29, xe_260_30, xe_260_31, xe_260_33, xe_260_34, xe_260_35 _ (some (vI _)) _ _ _ _ _ _ rfl, xe_260_35 _ (some (vR _)) _ _ _ _ _ _ rfl, xe_260_35 _ none _ _ _ _ _ _ rfl, xe_260_36 _ _ (some (vI _)) _ _ _ _ rfl, xe_260_36 _ _ (some (vR _)) _ _ _ _ rfl, xe_260_36 _ _ none _ _ _ _ rfl, xe_260_39, xe_260_42, xe_260_44, xe_260_45, xe_260_46, ite_self, mm_nL_I, mm_nL_R, mm_nL_0, Option.bind_some, Option.bind_none, bnd_ite, Option.toList_some, Option.toList_none, List.cons_append, List.nil_append, mm_cats_nil, mm_cats_I, mm_cats_L, mm_cats_R, if_true, if_false, true_and, and_true, false_and, and_false, not_true_eq_false, not_false_eq_true, Int.reduceLE, Int.reduceLT, Int.reduceEq, Int.reduceNe, Int.reduceNeg, Int.reduceAdd, Int.reduceSub, Int.reduceMul, Nat.reduceAdd, Nat.reduceLeDiff, true_or, or_true, false_or, or_false, reduceIte, g, g2, w, w1]
end TY
