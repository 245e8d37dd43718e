/-! load: the inspection -/
def nt (p : Int × Int) (k x : Int) : Int × Int := if p.1 = 0 then (k, x) else p
def hb8 (k : Int) : Int := if k = 0 ∨ k = 7 then 0 else 255
def h8 (F : Int → Int) : Nat → Int → Int × Int → Int × Int
  | 0, _, p => p
  | m + 1, k, p => h8 F m (k + 1) (if F k = hb8 k then p else nt p 2 k)
def bs1 (F : Int → Int) (b : Int) (p : Int × Int) : Int × Int := if sm F (128 * b) 128 % 256 = 0 then p else nt p 3 (128 * b + 127)
def bh1 (F : Int → Int) (b : Int) (p : Int × Int) : Int × Int := if b ≤ 0 then p else if F (128 * b) = 2 then p else nt p 2 (128 * b)
def blk (F : Int → Int) : Nat → Int → Int × Int → Int × Int
  | 0, _, p => p
  | m + 1, b, p => blk F m (b + 1) (bs1 F b (bh1 F b p))
def xl (F : Int → Int) (s e : Int) : Nat → Int → Int × Int → Int × Int
  | 0, _, p => p
  | m + 1, h, p => if e ≤ h then p else xl F s e m (h + 1 + F (s + h) % 32) (if h + 1 + F (s + h) % 32 ≤ e then p else nt p 7 (s + h))
def ext (F : Int → Int) (s : Int) (p : Int × Int) : Int × Int := if F (s + 2) = 0 ∨ (4 ≤ F (s + 2) ∧ F (s + 2) ≤ 127) then xl F s (F (s + 2)) 128 4 p else nt p 6 (s + 2)
def exs (F : Int → Int) : Nat → Int → Int × Int → Int × Int
  | 0, _, p => p
  | m + 1, b, p => exs F m (b + 1) (ext F (128 * b) p)
def i45 (F : Int → Int) (B : Int) (p : Int × Int) : Int × Int :=
  if F 126 = B - 1 then (if F 18 = 1 then p else nt p 4 18) else nt (if F 18 = 1 then p else nt p 4 18) 5 126
def ins (F : Int → Int) (n : Int) : Int × Int :=
  if n % 128 = 0 ∧ 1 ≤ n / 128 ∧ n / 128 ≤ 4 then exs F (n / 128 - 1).toNat 1 (i45 F (n / 128) (blk F (n / 128).toNat 0 (h8 F 8 0 (0, -1)))) else (1, n)
theorem nt_n {p : Int × Int} (h : ¬ p.1 = 0) (k x : Int) : nt p k x = p := by unfold nt; rw [if_neg h]
theorem xl_n (F : Int → Int) (s e : Int) : ∀ (m : Nat) (h : Int) (p : Int × Int), ¬ p.1 = 0 → xl F s e m h p = p
  | 0, _, _, _ => rfl
  | m + 1, h, p, hp => by
    simp only [xl]
    split
    · rfl
    · rw [nt_n hp, ite_self]; exact xl_n F s e m _ p hp
/-- the class's cells of the inspection -/
def ic (c : MM) (p : Int × Int) : MM := mset (mset c 15 0 p.1) 15 1 p.2
theorem ic_b (c : MM) (p : Int × Int) (b : Int) (h : ¬ b = 15) : ic c p b = c b := by unfold ic; rw [ms_row _ _ _ _ _ h, ms_row _ _ _ _ _ h]
theorem ic_0 (c : MM) (p : Int × Int) : ic c p 15 0 = p.1 := by unfold ic; rw [ms_nk _ _ _ _ _ _ (by omega), ms_eq]
theorem ic_1 (c : MM) (p : Int × Int) : ic c p 15 1 = p.2 := by unfold ic; rw [ms_eq]
theorem ic_u (c : MM) (p : Int × Int) (x y : Int) : mset (mset (ic c p) 15 0 x) 15 1 y = ic c (x, y) := by
  funext b j; unfold ic mset; (repeat' split) <;> first | rfl | (exfalso; omega)
theorem s_note (L k x : Int) (c : MM) (p : Int × Int) : ev 16 0 [some (vR 15), some (vI k), some (vI x)] [] (ic c p) (g_1 L) = some (none, ic c (nt p k x), g_1 L) := by
  unfold nt
  by_cases h : p.1 = 0
  · simp only [xe_16_0, xe_16_1, xe_16_4, xe_16_7, xe_16_8, xe_16_9, xe_16_12, xe_16_13, xe_16_14, xe_16_17, ite_self, mm_nL_I, mm_nL_R, mm_nL_0, Option.bind_some, Option.bind_none, bnd_ite, Option.toList_some, Option.toList_none, List.cons_append, List.nil_append, mm_cats_nil, mm_cats_I, mm_cats_L, mm_cats_R, if_true, if_false, true_and, and_true, false_and, and_false, not_true_eq_false, not_false_eq_true, Int.reduceLE, Int.reduceLT, Int.reduceEq, Int.reduceNe, Int.reduceNeg, Int.reduceAdd, Int.reduceSub, Int.reduceMul, Nat.reduceAdd, Nat.reduceLeDiff, true_or, or_true, false_or, or_false, reduceIte, k_15, ic_0, ic_u, h]
  · simp only [xe_16_0, xe_16_1, xe_16_4, xe_16_7, xe_16_8, xe_16_9, xe_16_12, xe_16_13, xe_16_14, xe_16_17, ite_self, mm_nL_I, mm_nL_R, mm_nL_0, Option.bind_some, Option.bind_none, bnd_ite, Option.toList_some, Option.toList_none, List.cons_append, List.nil_append, mm_cats_nil, mm_cats_I, mm_cats_L, mm_cats_R, if_true, if_false, true_and, and_true, false_and, and_false, not_true_eq_false, not_false_eq_true, Int.reduceLE, Int.reduceLT, Int.reduceEq, Int.reduceNe, Int.reduceNeg, Int.reduceAdd, Int.reduceSub, Int.reduceMul, Nat.reduceAdd, Nat.reduceLeDiff, true_or, or_true, false_or, or_false, reduceIte, k_15, ic_0, h]
section II
variable {L n : Int} {c : MM}
/-- the bytes -/
def IB (c : MM) (n : Int) : Prop := c 13 0 = 14 ∧ c 13 1 = n ∧ n ≤ 520 ∧ ∀ i, 0 ≤ i → i < n → 0 ≤ c 14 i ∧ c 14 i < 256
theorem ib_at (h : IB c n) (p : Int × Int) (i : Int) (i0 : 0 ≤ i) (i1 : i < n) : ev 3 0 [some (vR 13), some (vI i)] [] (ic c p) (g_1 L) = some (some (vI (c 14 i)), ic c p, g_1 L) := by
  have := s_at 13 i (ic c p) (g_1 L) (k_13 L) (by rw [ic_b _ _ _ (by omega)]; exact h.1) (k_14 L) (l_14 L)
  rw [ic_b _ _ 13 (by omega), h.2.1, if_pos ⟨i0, i1, by have := h.2.2.1; omega⟩, show (13 : Int) + 1 = 14 from rfl, ic_b _ _ 14 (by omega)] at this
  exact this
theorem ib_sum (h : IB c n) (p : Int × Int) (b : Int) (b0 : 0 ≤ b) (b1 : 128 * b + 128 ≤ n) : ev 5 0 [some (vR 13), some (vI b), none, none] [] (ic c p) (g_1 L) = some (some (vI (sm (c 14) (128 * b) 128 % 256)), ic c p, g_1 L) := by
  have := s_sumX 13 b (ic c p) (g_1 L) (by omega) (k_13 L) (by rw [ic_b _ _ _ (by omega)]; exact h.1) (k_14 L) (l_14 L) b0 (by rw [ic_b _ _ _ (by omega), h.2.1]; exact b1) (by rw [ic_b _ _ _ (by omega), h.2.1]; exact h.2.2.1) (by rw [ic_b _ _ 13 (by omega), h.2.1, show (13 : Int) + 1 = 14 from rfl, ic_b _ _ 14 (by omega)]; exact h.2.2.2)
  rw [show (13 : Int) + 1 = 14 from rfl, ic_b _ _ 14 (by omega)] at this
  exact this
theorem s_headB (i : Int) (μ : MM) (G : MG) : ev 147 0 [some (vI i)] [] μ G = some (some (vI (hb8 i)), μ, G) := by
  unfold hb8
  by_cases h0 : i = 0
  · simp only [xe_147_0, xe_147_1, xe_147_4, xe_147_5, xe_147_7, xe_147_10, xe_147_11, xe_147_14, xe_147_17, ite_self, mm_nL_I, mm_nL_R, mm_nL_0, Option.bind_some, Option.bind_none, bnd_ite, Option.toList_some, Option.toList_none, List.cons_append, List.nil_append, mm_cats_nil, mm_cats_I, mm_cats_L, mm_cats_R, if_true, if_false, true_and, and_true, false_and, and_false, not_true_eq_false, not_false_eq_true, Int.reduceLE, Int.reduceLT, Int.reduceEq, Int.reduceNe, Int.reduceNeg, Int.reduceAdd, Int.reduceSub, Int.reduceMul, Nat.reduceAdd, Nat.reduceLeDiff, true_or, or_true, false_or, or_false, reduceIte, h0]
  · by_cases h7 : i = 7
    · simp only [xe_147_0, xe_147_1, xe_147_4, xe_147_5, xe_147_7, xe_147_10, xe_147_11, xe_147_14, xe_147_17, ite_self, mm_nL_I, mm_nL_R, mm_nL_0, Option.bind_some, Option.bind_none, bnd_ite, Option.toList_some, Option.toList_none, List.cons_append, List.nil_append, mm_cats_nil, mm_cats_I, mm_cats_L, mm_cats_R, if_true, if_false, true_and, and_true, false_and, and_false, not_true_eq_false, not_false_eq_true, Int.reduceLE, Int.reduceLT, Int.reduceEq, Int.reduceNe, Int.reduceNeg, Int.reduceAdd, Int.reduceSub, Int.reduceMul, Nat.reduceAdd, Nat.reduceLeDiff, true_or, or_true, false_or, or_false, reduceIte, h0, h7]
    · simp only [xe_147_0, xe_147_1, xe_147_4, xe_147_5, xe_147_7, xe_147_10, xe_147_11, xe_147_14, xe_147_17, ite_self, mm_nL_I, mm_nL_R, mm_nL_0, Option.bind_some, Option.bind_none, bnd_ite, Option.toList_some, Option.toList_none, List.cons_append, List.nil_append, mm_cats_nil, mm_cats_I, mm_cats_L, mm_cats_R, if_true, if_false, true_and, and_true, false_and, and_false, not_true_eq_false, not_false_eq_true, Int.reduceLE, Int.reduceLT, Int.reduceEq, Int.reduceNe, Int.reduceNeg, Int.reduceAdd, Int.reduceSub, Int.reduceMul, Nat.reduceAdd, Nat.reduceLeDiff, true_or, or_true, false_or, or_false, reduceIte, h0, h7]
theorem s_hd8 (h : IB c n) (hn : 128 ≤ n) (y : Int) : ∀ (m : Nat) (k : Int) (p : Int × Int), 0 ≤ k → k + m = 8 → ev 17 30 [some (vR 15), some (vR 13), some (vI y), some (vI k)] [] (ic c p) (g_1 L) = some (none, ic c (h8 (c 14) m k p), g_1 L) := by
  intro m
  induction m with
  | zero =>
    intro k p k0 hk
    have g : 8 ≤ k := by omega
    simp only [xe_17_30, xe_17_31, xe_17_33, xe_17_60, ite_self, mm_nL_I, mm_nL_R, mm_nL_0, Option.bind_some, Option.bind_none, bnd_ite, Option.toList_some, Option.toList_none, List.cons_append, List.nil_append, mm_cats_nil, mm_cats_I, mm_cats_L, mm_cats_R, if_true, if_false, true_and, and_true, false_and, and_false, not_true_eq_false, not_false_eq_true, Int.reduceLE, Int.reduceLT, Int.reduceEq, Int.reduceNe, Int.reduceNeg, Int.reduceAdd, Int.reduceSub, Int.reduceMul, Nat.reduceAdd, Nat.reduceLeDiff, true_or, or_true, false_or, or_false, reduceIte, g, h8]
  | succ m ih =>
    intro k p k0 hk
    have g : ¬ 8 ≤ k := by omega
    have w : w32 (k + 1) = k + 1 := wi32 (by omega) (by omega)
    have A := fun p => ib_at (L := L) h p k k0 (by omega)
    have N := fun k x p => s_note L k x c p
    rw [xe_17_30]
    simp only [h8]
    by_cases q : c 14 k = hb8 k
    · have q' := eq_true q
      simp only [xe_17_31, xe_17_33, xe_17_36, xe_17_37, xe_17_38, xe_17_41, xe_17_42, xe_17_45, xe_17_48, xe_17_49, xe_17_50, xe_17_51, xe_17_54 _ _ (some (vI _)) _ _ _ _ rfl, xe_17_54 _ _ (some (vR _)) _ _ _ _ rfl, xe_17_54 _ _ none _ _ _ _ rfl, xe_17_57, xe_17_60, ite_self, mm_nL_I, mm_nL_R, mm_nL_0, Option.bind_some, Option.bind_none, bnd_ite, Option.toList_some, Option.toList_none, List.cons_append, List.nil_append, mm_cats_nil, mm_cats_I, mm_cats_L, mm_cats_R, if_true, if_false, true_and, and_true, false_and, and_false, not_true_eq_false, not_false_eq_true, Int.reduceLE, Int.reduceLT, Int.reduceEq, Int.reduceNe, Int.reduceNeg, Int.reduceAdd, Int.reduceSub, Int.reduceMul, Nat.reduceAdd, Nat.reduceLeDiff, true_or, or_true, false_or, or_false, reduceIte, k_13, k_15, A, s_headB, N, g, w, q']
      exact ih (k + 1) p (by omega) (by omega)
    · simp only [xe_17_31, xe_17_33, xe_17_36, xe_17_37, xe_17_38, xe_17_41, xe_17_42, xe_17_45, xe_17_48, xe_17_49, xe_17_50, xe_17_51, xe_17_54 _ _ (some (vI _)) _ _ _ _ rfl, xe_17_54 _ _ (some (vR _)) _ _ _ _ rfl, xe_17_54 _ _ none _ _ _ _ rfl, xe_17_57, xe_17_60, ite_self, mm_nL_I, mm_nL_R, mm_nL_0, Option.bind_some, Option.bind_none, bnd_ite, Option.toList_some, Option.toList_none, List.cons_append, List.nil_append, mm_cats_nil, mm_cats_I, mm_cats_L, mm_cats_R, if_true, if_false, true_and, and_true, false_and, and_false, not_true_eq_false, not_false_eq_true, Int.reduceLE, Int.reduceLT, Int.reduceEq, Int.reduceNe, Int.reduceNeg, Int.reduceAdd, Int.reduceSub, Int.reduceMul, Nat.reduceAdd, Nat.reduceLeDiff, true_or, or_true, false_or, or_false, reduceIte, k_13, k_15, A, s_headB, N, g, w, q]
      exact ih (k + 1) _ (by omega) (by omega)
theorem s_head (h : IB c n) (hn : 128 ≤ n) (b : Int) (p : Int × Int) (b0 : 0 ≤ b) (b1 : 128 * b + 128 ≤ n) : ev 17 0 [some (vR 15), some (vR 13), some (vI b), none] [] (ic c p) (g_1 L) = some (none, ic c (if b = 0 then h8 (c 14) 8 0 p else bh1 (c 14) b p), g_1 L) := by
  have N := fun k x p => s_note L k x c p
  by_cases e : b = 0
  · have H := s_hd8 (L := L) h hn b 8 0 p (by omega) (by omega)
    have g : b ≤ 0 := by omega
    rw [if_pos e]
    simp only [xe_17_0, xe_17_1, xe_17_28, xe_17_29 _ _ (some (vI _)) _ _ _ _ _ rfl, xe_17_29 _ _ (some (vR _)) _ _ _ _ _ rfl, xe_17_29 _ _ none _ _ _ _ _ rfl, ite_self, mm_nL_I, mm_nL_R, mm_nL_0, Option.bind_some, Option.bind_none, bnd_ite, Option.toList_some, Option.toList_none, List.cons_append, List.nil_append, mm_cats_nil, mm_cats_I, mm_cats_L, mm_cats_R, if_true, if_false, true_and, and_true, false_and, and_false, not_true_eq_false, not_false_eq_true, Int.reduceLE, Int.reduceLT, Int.reduceEq, Int.reduceNe, Int.reduceNeg, Int.reduceAdd, Int.reduceSub, Int.reduceMul, Nat.reduceAdd, Nat.reduceLeDiff, true_or, or_true, false_or, or_false, reduceIte, g]
    exact H
  · have g : ¬ b ≤ 0 := by omega
    have := h.2.2.1
    have w : w32 (b * 128) = 128 * b := by rw [wi32 (by omega) (by omega)]; omega
    have A := fun p => ib_at (L := L) h p (128 * b) (by omega) (by omega)
    rw [if_neg e]
    unfold bh1
    rw [if_neg g]
    by_cases q : c 14 (128 * b) = 2
    · have q' := eq_true q
      simp only [xe_17_0, xe_17_1, xe_17_4, xe_17_5, xe_17_6, xe_17_9, xe_17_10, xe_17_13, xe_17_14, xe_17_17, xe_17_18, xe_17_19, xe_17_20, xe_17_23, xe_17_24, xe_17_27, xe_17_28, xe_17_29 _ _ (some (vI _)) _ _ _ _ _ rfl, xe_17_29 _ _ (some (vR _)) _ _ _ _ _ rfl, xe_17_29 _ _ none _ _ _ _ _ rfl, ite_self, mm_nL_I, mm_nL_R, mm_nL_0, Option.bind_some, Option.bind_none, bnd_ite, Option.toList_some, Option.toList_none, List.cons_append, List.nil_append, mm_cats_nil, mm_cats_I, mm_cats_L, mm_cats_R, if_true, if_false, true_and, and_true, false_and, and_false, not_true_eq_false, not_false_eq_true, Int.reduceLE, Int.reduceLT, Int.reduceEq, Int.reduceNe, Int.reduceNeg, Int.reduceAdd, Int.reduceSub, Int.reduceMul, Nat.reduceAdd, Nat.reduceLeDiff, true_or, or_true, false_or, or_false, reduceIte, k_13, k_15, A, N, g, w, q']
    · simp only [xe_17_0, xe_17_1, xe_17_4, xe_17_5, xe_17_6, xe_17_9, xe_17_10, xe_17_13, xe_17_14, xe_17_17, xe_17_18, xe_17_19, xe_17_20, xe_17_23, xe_17_24, xe_17_27, xe_17_28, xe_17_29 _ _ (some (vI _)) _ _ _ _ _ rfl, xe_17_29 _ _ (some (vR _)) _ _ _ _ _ rfl, xe_17_29 _ _ none _ _ _ _ _ rfl, ite_self, mm_nL_I, mm_nL_R, mm_nL_0, Option.bind_some, Option.bind_none, bnd_ite, Option.toList_some, Option.toList_none, List.cons_append, List.nil_append, mm_cats_nil, mm_cats_I, mm_cats_L, mm_cats_R, if_true, if_false, true_and, and_true, false_and, and_false, not_true_eq_false, not_false_eq_true, Int.reduceLE, Int.reduceLT, Int.reduceEq, Int.reduceNe, Int.reduceNeg, Int.reduceAdd, Int.reduceSub, Int.reduceMul, Nat.reduceAdd, Nat.reduceLeDiff, true_or, or_true, false_or, or_false, reduceIte, k_13, k_15, A, N, g, w, q]
theorem s_blk (h : IB c n) (B : Int) (hB : n = 128 * B) (hB4 : B ≤ 4) : ∀ (m : Nat) (b : Int) (p : Int × Int), 1 ≤ b → b + m = B → ev 15 52 [some (vR 15), some (vR 13), some (vI B), some (vI b)] [] (ic c p) (g_1 L) = ev 15 90 [some (vR 15), some (vR 13), some (vI B), some (vI B)] [] (ic c (blk (c 14) m b p)) (g_1 L) := by
  intro m
  induction m with
  | zero =>
    intro b p b0 hb
    have e : b = B := by omega
    have g : B ≤ b := by omega
    simp only [xe_15_52, xe_15_53, xe_15_54, ite_self, mm_nL_I, mm_nL_R, mm_nL_0, Option.bind_some, Option.bind_none, bnd_ite, Option.toList_some, Option.toList_none, List.cons_append, List.nil_append, mm_cats_nil, mm_cats_I, mm_cats_L, mm_cats_R, if_true, if_false, true_and, and_true, false_and, and_false, not_true_eq_false, not_false_eq_true, Int.reduceLE, Int.reduceLT, Int.reduceEq, Int.reduceNe, Int.reduceNeg, Int.reduceAdd, Int.reduceSub, Int.reduceMul, Nat.reduceAdd, Nat.reduceLeDiff, true_or, or_true, false_or, or_false, reduceIte, g, blk]
    rw [e]
  | succ m ih =>
    intro b p b0 hb
    have g : ¬ B ≤ b := by omega
    have w : w32 (b + 1) = b + 1 := wi32 (by omega) (by omega)
    have w1 : w32 (b * 128) = 128 * b := by rw [wi32 (by omega) (by omega)]; omega
    have w2 : w32 (128 * b + 127) = 128 * b + 127 := wi32 (by omega) (by omega)
    have H := s_head (L := L) h (by omega) b p (by omega) (by omega)
    rw [if_neg (by omega)] at H
    have S := fun p => ib_sum (L := L) h p b (by omega) (by omega)
    have N := fun k x p => s_note L k x c p
    rw [xe_15_52]
    simp only [blk]
    unfold bs1
    by_cases q : sm (c 14) (128 * b) 128 % 256 = 0
    · simp only [xe_15_53, xe_15_54, xe_15_57, xe_15_58, xe_15_59, xe_15_60, xe_15_63, xe_15_64, xe_15_65, xe_15_68, xe_15_71, xe_15_72, xe_15_73, xe_15_74, xe_15_77, xe_15_78, xe_15_80, xe_15_81, xe_15_84 _ _ (some (vI _)) _ _ _ _ rfl, xe_15_84 _ _ (some (vR _)) _ _ _ _ rfl, xe_15_84 _ _ none _ _ _ _ rfl, xe_15_87, ite_self, mm_nL_I, mm_nL_R, mm_nL_0, Option.bind_some, Option.bind_none, bnd_ite, Option.toList_some, Option.toList_none, List.cons_append, List.nil_append, mm_cats_nil, mm_cats_I, mm_cats_L, mm_cats_R, if_true, if_false, true_and, and_true, false_and, and_false, not_true_eq_false, not_false_eq_true, Int.reduceLE, Int.reduceLT, Int.reduceEq, Int.reduceNe, Int.reduceNeg, Int.reduceAdd, Int.reduceSub, Int.reduceMul, Nat.reduceAdd, Nat.reduceLeDiff, true_or, or_true, false_or, or_false, reduceIte, k_13, k_15, H, S, N, g, w, w1, w2, q]
      exact ih (b + 1) _ (by omega) (by omega)
    · simp only [xe_15_53, xe_15_54, xe_15_57, xe_15_58, xe_15_59, xe_15_60, xe_15_63, xe_15_64, xe_15_65, xe_15_68, xe_15_71, xe_15_72, xe_15_73, xe_15_74, xe_15_77, xe_15_78, xe_15_80, xe_15_81, xe_15_84 _ _ (some (vI _)) _ _ _ _ rfl, xe_15_84 _ _ (some (vR _)) _ _ _ _ rfl, xe_15_84 _ _ none _ _ _ _ rfl, xe_15_87, ite_self, mm_nL_I, mm_nL_R, mm_nL_0, Option.bind_some, Option.bind_none, bnd_ite, Option.toList_some, Option.toList_none, List.cons_append, List.nil_append, mm_cats_nil, mm_cats_I, mm_cats_L, mm_cats_R, if_true, if_false, true_and, and_true, false_and, and_false, not_true_eq_false, not_false_eq_true, Int.reduceLE, Int.reduceLT, Int.reduceEq, Int.reduceNe, Int.reduceNeg, Int.reduceAdd, Int.reduceSub, Int.reduceMul, Nat.reduceAdd, Nat.reduceLeDiff, true_or, or_true, false_or, or_false, reduceIte, k_13, k_15, H, S, N, g, w, w1, w2, q]
      exact ih (b + 1) _ (by omega) (by omega)
theorem s_xl (h : IB c n) (s e : Int) (s0 : 0 ≤ s) (s1 : s + 128 ≤ n) (e1 : e ≤ 127) : ∀ (m : Nat) (hd : Int) (p : Int × Int) (y : Option MV), 4 ≤ hd → hd ≤ 200 → e ≤ hd + m → ev 18 36 [some (vR 15), some (vR 13), some (vI s), some (vI e), some (vI hd), y] [] (ic c p) (g_1 L) = some (none, ic c (xl (c 14) s e m hd p), g_1 L) := by
  intro m
  induction m with
  | zero =>
    intro hd p y h0 h1 he
    have g : e ≤ hd := by omega
    simp only [xe_18_36, xe_18_38, xe_18_39, xe_18_83, ite_self, mm_nL_I, mm_nL_R, mm_nL_0, Option.bind_some, Option.bind_none, bnd_ite, Option.toList_some, Option.toList_none, List.cons_append, List.nil_append, mm_cats_nil, mm_cats_I, mm_cats_L, mm_cats_R, if_true, if_false, true_and, and_true, false_and, and_false, not_true_eq_false, not_false_eq_true, Int.reduceLE, Int.reduceLT, Int.reduceEq, Int.reduceNe, Int.reduceNeg, Int.reduceAdd, Int.reduceSub, Int.reduceMul, Nat.reduceAdd, Nat.reduceLeDiff, true_or, or_true, false_or, or_false, reduceIte, g, xl]
  | succ m ih =>
    intro hd p y h0 h1 he
    simp only [xl]
    by_cases g : e ≤ hd
    · simp only [xe_18_36, xe_18_38, xe_18_39, xe_18_83, ite_self, mm_nL_I, mm_nL_R, mm_nL_0, Option.bind_some, Option.bind_none, bnd_ite, Option.toList_some, Option.toList_none, List.cons_append, List.nil_append, mm_cats_nil, mm_cats_I, mm_cats_L, mm_cats_R, if_true, if_false, true_and, and_true, false_and, and_false, not_true_eq_false, not_false_eq_true, Int.reduceLE, Int.reduceLT, Int.reduceEq, Int.reduceNe, Int.reduceNeg, Int.reduceAdd, Int.reduceSub, Int.reduceMul, Nat.reduceAdd, Nat.reduceLeDiff, true_or, or_true, false_or, or_false, reduceIte, g]
    · have l5 := h.2.2.1
      have A := fun p => ib_at (L := L) h p (s + hd) (by omega) (by omega)
      have N := fun k x p => s_note L k x c p
      have bv := h.2.2.2 (s + hd) (by omega) (by omega)
      have w1 : w32 (hd + 1) = hd + 1 := wi32 (by omega) (by omega)
      have w2 : w32 (s + hd) = s + hd := wi32 (by omega) (by omega)
      have w3 : w32 (hd + 1 + c 14 (s + hd) % 32) = hd + 1 + c 14 (s + hd) % 32 := wi32 (by omega) (by omega)
      rw [xe_18_36]
      by_cases q : hd + 1 + c 14 (s + hd) % 32 ≤ e
      · simp only [xe_18_38, xe_18_39, xe_18_42, xe_18_44, xe_18_45, xe_18_46, xe_18_47, xe_18_48, xe_18_50, xe_18_51, xe_18_54, xe_18_56, xe_18_57, xe_18_58 _ _ _ _ (some (vI _)) _ _ _ _ _ rfl, xe_18_58 _ _ _ _ (some (vR _)) _ _ _ _ _ rfl, xe_18_58 _ _ _ _ none _ _ _ _ _ rfl, xe_18_60, xe_18_62, xe_18_63, xe_18_66, xe_18_67, xe_18_69, xe_18_70, xe_18_72, xe_18_73, xe_18_76, xe_18_78 _ _ _ (some (vI _)) _ _ _ _ _ _ rfl, xe_18_78 _ _ _ (some (vR _)) _ _ _ _ _ _ rfl, xe_18_78 _ _ _ none _ _ _ _ _ _ rfl, xe_18_80, xe_18_83, ite_self, mm_nL_I, mm_nL_R, mm_nL_0, Option.bind_some, Option.bind_none, bnd_ite, Option.toList_some, Option.toList_none, List.cons_append, List.nil_append, mm_cats_nil, mm_cats_I, mm_cats_L, mm_cats_R, if_true, if_false, true_and, and_true, false_and, and_false, not_true_eq_false, not_false_eq_true, Int.reduceLE, Int.reduceLT, Int.reduceEq, Int.reduceNe, Int.reduceNeg, Int.reduceAdd, Int.reduceSub, Int.reduceMul, Nat.reduceAdd, Nat.reduceLeDiff, true_or, or_true, false_or, or_false, reduceIte, k_13, k_15, A, N, nu_31, g, w1, w2, w3, q]
        exact ih _ p _ (by omega) (by omega) (by omega)
      · simp only [xe_18_38, xe_18_39, xe_18_42, xe_18_44, xe_18_45, xe_18_46, xe_18_47, xe_18_48, xe_18_50, xe_18_51, xe_18_54, xe_18_56, xe_18_57, xe_18_58 _ _ _ _ (some (vI _)) _ _ _ _ _ rfl, xe_18_58 _ _ _ _ (some (vR _)) _ _ _ _ _ rfl, xe_18_58 _ _ _ _ none _ _ _ _ _ rfl, xe_18_60, xe_18_62, xe_18_63, xe_18_66, xe_18_67, xe_18_69, xe_18_70, xe_18_72, xe_18_73, xe_18_76, xe_18_78 _ _ _ (some (vI _)) _ _ _ _ _ _ rfl, xe_18_78 _ _ _ (some (vR _)) _ _ _ _ _ _ rfl, xe_18_78 _ _ _ none _ _ _ _ _ _ rfl, xe_18_80, xe_18_83, ite_self, mm_nL_I, mm_nL_R, mm_nL_0, Option.bind_some, Option.bind_none, bnd_ite, Option.toList_some, Option.toList_none, List.cons_append, List.nil_append, mm_cats_nil, mm_cats_I, mm_cats_L, mm_cats_R, if_true, if_false, true_and, and_true, false_and, and_false, not_true_eq_false, not_false_eq_true, Int.reduceLE, Int.reduceLT, Int.reduceEq, Int.reduceNe, Int.reduceNeg, Int.reduceAdd, Int.reduceSub, Int.reduceMul, Nat.reduceAdd, Nat.reduceLeDiff, true_or, or_true, false_or, or_false, reduceIte, k_13, k_15, A, N, nu_31, g, w1, w2, w3, q]
        exact ih _ _ _ (by omega) (by omega) (by omega)
theorem s_ext (h : IB c n) (s : Int) (p : Int × Int) (s0 : 0 ≤ s) (s1 : s + 128 ≤ n) : ev 18 0 [some (vR 15), some (vR 13), some (vI s), none, none, none] [] (ic c p) (g_1 L) = some (none, ic c (ext (c 14) s p), g_1 L) := by
  have l5 := h.2.2.1
  have A := fun p => ib_at (L := L) h p (s + 2) (by omega) (by omega)
  have N := fun k x p => s_note L k x c p
  have bv := h.2.2.2 (s + 2) (by omega) (by omega)
  have w2 : w32 (s + 2) = s + 2 := wi32 (by omega) (by omega)
  unfold ext
  by_cases q : c 14 (s + 2) = 0 ∨ (4 ≤ c 14 (s + 2) ∧ c 14 (s + 2) ≤ 127)
  · have X := s_xl (L := L) h s (c 14 (s + 2)) s0 s1 (by omega) 128 4 p none (by omega) (by omega) (by omega)
    rw [if_pos q]
    generalize c 14 (s + 2) = e at *
    by_cases e0 : e = 0
    · simp only [xe_18_0, xe_18_1, xe_18_2, xe_18_3, xe_18_4, xe_18_7 _ _ (some (vI _)) _ _ _ _ _ _ _ rfl, xe_18_7 _ _ (some (vR _)) _ _ _ _ _ _ _ rfl, xe_18_7 _ _ none _ _ _ _ _ _ _ rfl, xe_18_8, xe_18_9, xe_18_12, xe_18_13, xe_18_14, xe_18_17, xe_18_18, xe_18_20, xe_18_23, xe_18_24, xe_18_26, xe_18_27, xe_18_28, xe_18_29, xe_18_32, xe_18_33, xe_18_34 _ _ _ (some (vI _)) _ _ _ _ _ _ rfl, xe_18_34 _ _ _ (some (vR _)) _ _ _ _ _ _ rfl, xe_18_34 _ _ _ none _ _ _ _ _ _ rfl, ite_self, mm_nL_I, mm_nL_R, mm_nL_0, Option.bind_some, Option.bind_none, bnd_ite, Option.toList_some, Option.toList_none, List.cons_append, List.nil_append, mm_cats_nil, mm_cats_I, mm_cats_L, mm_cats_R, if_true, if_false, true_and, and_true, false_and, and_false, not_true_eq_false, not_false_eq_true, Int.reduceLE, Int.reduceLT, Int.reduceEq, Int.reduceNe, Int.reduceNeg, Int.reduceAdd, Int.reduceSub, Int.reduceMul, Nat.reduceAdd, Nat.reduceLeDiff, true_or, or_true, false_or, or_false, reduceIte, k_13, k_15, A, w2, e0]
      rw [e0] at X
      exact X
    · have q1 : ¬ e < 4 := by omega
      have q2 : e ≤ 127 := by omega
      simp only [xe_18_0, xe_18_1, xe_18_2, xe_18_3, xe_18_4, xe_18_7 _ _ (some (vI _)) _ _ _ _ _ _ _ rfl, xe_18_7 _ _ (some (vR _)) _ _ _ _ _ _ _ rfl, xe_18_7 _ _ none _ _ _ _ _ _ _ rfl, xe_18_8, xe_18_9, xe_18_12, xe_18_13, xe_18_14, xe_18_17, xe_18_18, xe_18_20, xe_18_23, xe_18_24, xe_18_26, xe_18_27, xe_18_28, xe_18_29, xe_18_32, xe_18_33, xe_18_34 _ _ _ (some (vI _)) _ _ _ _ _ _ rfl, xe_18_34 _ _ _ (some (vR _)) _ _ _ _ _ _ rfl, xe_18_34 _ _ _ none _ _ _ _ _ _ rfl, ite_self, mm_nL_I, mm_nL_R, mm_nL_0, Option.bind_some, Option.bind_none, bnd_ite, Option.toList_some, Option.toList_none, List.cons_append, List.nil_append, mm_cats_nil, mm_cats_I, mm_cats_L, mm_cats_R, if_true, if_false, true_and, and_true, false_and, and_false, not_true_eq_false, not_false_eq_true, Int.reduceLE, Int.reduceLT, Int.reduceEq, Int.reduceNe, Int.reduceNeg, Int.reduceAdd, Int.reduceSub, Int.reduceMul, Nat.reduceAdd, Nat.reduceLeDiff, true_or, or_true, false_or, or_false, reduceIte, k_13, k_15, A, w2, e0, q1, q2]
      exact X
  · rw [if_neg q]
    generalize c 14 (s + 2) = e at *
    have e0 : ¬ e = 0 := by omega
    by_cases q1 : e < 4
    · simp only [xe_18_0, xe_18_1, xe_18_2, xe_18_3, xe_18_4, xe_18_7 _ _ (some (vI _)) _ _ _ _ _ _ _ rfl, xe_18_7 _ _ (some (vR _)) _ _ _ _ _ _ _ rfl, xe_18_7 _ _ none _ _ _ _ _ _ _ rfl, xe_18_8, xe_18_9, xe_18_12, xe_18_13, xe_18_14, xe_18_17, xe_18_18, xe_18_20, xe_18_23, xe_18_24, xe_18_26, xe_18_27, xe_18_28, xe_18_29, xe_18_32, xe_18_33, xe_18_34 _ _ _ (some (vI _)) _ _ _ _ _ _ rfl, xe_18_34 _ _ _ (some (vR _)) _ _ _ _ _ _ rfl, xe_18_34 _ _ _ none _ _ _ _ _ _ rfl, ite_self, mm_nL_I, mm_nL_R, mm_nL_0, Option.bind_some, Option.bind_none, bnd_ite, Option.toList_some, Option.toList_none, List.cons_append, List.nil_append, mm_cats_nil, mm_cats_I, mm_cats_L, mm_cats_R, if_true, if_false, true_and, and_true, false_and, and_false, not_true_eq_false, not_false_eq_true, Int.reduceLE, Int.reduceLT, Int.reduceEq, Int.reduceNe, Int.reduceNeg, Int.reduceAdd, Int.reduceSub, Int.reduceMul, Nat.reduceAdd, Nat.reduceLeDiff, true_or, or_true, false_or, or_false, reduceIte, k_13, k_15, A, N, w2, e0, q1]
    · have q2 : ¬ e ≤ 127 := by omega
      simp only [xe_18_0, xe_18_1, xe_18_2, xe_18_3, xe_18_4, xe_18_7 _ _ (some (vI _)) _ _ _ _ _ _ _ rfl, xe_18_7 _ _ (some (vR _)) _ _ _ _ _ _ _ rfl, xe_18_7 _ _ none _ _ _ _ _ _ _ rfl, xe_18_8, xe_18_9, xe_18_12, xe_18_13, xe_18_14, xe_18_17, xe_18_18, xe_18_20, xe_18_23, xe_18_24, xe_18_26, xe_18_27, xe_18_28, xe_18_29, xe_18_32, xe_18_33, xe_18_34 _ _ _ (some (vI _)) _ _ _ _ _ _ rfl, xe_18_34 _ _ _ (some (vR _)) _ _ _ _ _ _ rfl, xe_18_34 _ _ _ none _ _ _ _ _ _ rfl, ite_self, mm_nL_I, mm_nL_R, mm_nL_0, Option.bind_some, Option.bind_none, bnd_ite, Option.toList_some, Option.toList_none, List.cons_append, List.nil_append, mm_cats_nil, mm_cats_I, mm_cats_L, mm_cats_R, if_true, if_false, true_and, and_true, false_and, and_false, not_true_eq_false, not_false_eq_true, Int.reduceLE, Int.reduceLT, Int.reduceEq, Int.reduceNe, Int.reduceNeg, Int.reduceAdd, Int.reduceSub, Int.reduceMul, Nat.reduceAdd, Nat.reduceLeDiff, true_or, or_true, false_or, or_false, reduceIte, k_13, k_15, A, N, w2, e0, q1, q2]
theorem s_exs (h : IB c n) (B : Int) (hB : n = 128 * B) (hB4 : B ≤ 4) : ∀ (m : Nat) (b : Int) (p : Int × Int), 1 ≤ b → b + m = B → ev 15 128 [some (vR 15), some (vR 13), some (vI B), some (vI b)] [] (ic c p) (g_1 L) = some (none, ic c (exs (c 14) m b p), g_1 L) := by
  intro m
  induction m with
  | zero =>
    intro b p b0 hb
    have g : B ≤ b := by omega
    simp only [xe_15_128, xe_15_129, xe_15_130, xe_15_149, ite_self, mm_nL_I, mm_nL_R, mm_nL_0, Option.bind_some, Option.bind_none, bnd_ite, Option.toList_some, Option.toList_none, List.cons_append, List.nil_append, mm_cats_nil, mm_cats_I, mm_cats_L, mm_cats_R, if_true, if_false, true_and, and_true, false_and, and_false, not_true_eq_false, not_false_eq_true, Int.reduceLE, Int.reduceLT, Int.reduceEq, Int.reduceNe, Int.reduceNeg, Int.reduceAdd, Int.reduceSub, Int.reduceMul, Nat.reduceAdd, Nat.reduceLeDiff, true_or, or_true, false_or, or_false, reduceIte, g, exs]
  | succ m ih =>
    intro b p b0 hb
    have g : ¬ B ≤ b := by omega
    have w : w32 (b + 1) = b + 1 := wi32 (by omega) (by omega)
    have w1 : w32 (b * 128) = 128 * b := by rw [wi32 (by omega) (by omega)]; omega
    have X := s_ext (L := L) h (128 * b) p (by omega) (by omega)
    rw [xe_15_128]
    simp only [xe_15_129, xe_15_130, xe_15_133, xe_15_134, xe_15_135, xe_15_136, xe_15_139, xe_15_140, xe_15_143 _ _ (some (vI _)) _ _ _ _ rfl, xe_15_143 _ _ (some (vR _)) _ _ _ _ rfl, xe_15_143 _ _ none _ _ _ _ rfl, xe_15_146, xe_15_149, ite_self, mm_nL_I, mm_nL_R, mm_nL_0, Option.bind_some, Option.bind_none, bnd_ite, Option.toList_some, Option.toList_none, List.cons_append, List.nil_append, mm_cats_nil, mm_cats_I, mm_cats_L, mm_cats_R, if_true, if_false, true_and, and_true, false_and, and_false, not_true_eq_false, not_false_eq_true, Int.reduceLE, Int.reduceLT, Int.reduceEq, Int.reduceNe, Int.reduceNeg, Int.reduceAdd, Int.reduceSub, Int.reduceMul, Nat.reduceAdd, Nat.reduceLeDiff, true_or, or_true, false_or, or_false, reduceIte, k_13, k_15, X, g, w, w1, exs]
    exact ih (b + 1) _ (by omega) (by omega)
theorem s_insp (h : IB c n) (n0 : 0 ≤ n) : ev 15 0 [some (vR 15), some (vR 13), none, none] [] c (g_1 L) = some (none, ic c (ins (c 14) n), g_1 L) := by
  obtain ⟨h0, h1, h2, h3⟩ := h
  have N := fun k x p => s_note L k x c p
  have d1 : mm_div n 128 = n / 128 := nu_div n0 (by omega) (by omega) (by omega)
  have d2 : mm_rem n 128 = n % 128 := nu_rem n0 (by omega) (by omega) (by omega)
  have u0 : mset (mset c 15 0 0) 15 1 (-1) = ic c (0, -1) := rfl
  have i13 : ∀ p, ic c p 13 1 = n := fun p => by rw [ic_b _ _ _ (by omega)]; exact h1
  unfold ins
  by_cases q : n % 128 = 0 ∧ 1 ≤ n / 128 ∧ n / 128 ≤ 4
  · have h : IB c n := ⟨h0, h1, h2, h3⟩
    rw [if_pos q]
    have hB : n = 128 * (n / 128) := by omega
    generalize n / 128 = B at *
    have q1 : ¬ B < 1 := by omega
    have S0 := fun p => ib_sum (L := L) h p 0 (by omega) (by omega)
    have H0 := s_head (L := L) h (by omega) 0 (0, -1) (by omega) (by omega)
    rw [if_pos rfl] at H0
    have z : (128 : Int) * 0 = 0 := rfl
    rw [z] at S0
    have BL := fun p => s_blk (L := L) h B hB q.2.2 (B - 1).toNat 1 p (by omega) (by omega)
    have EX := fun p => s_exs (L := L) h B hB q.2.2 (B - 1).toNat 1 p (by omega) (by omega)
    have A1 := fun p => ib_at (L := L) h p 18 (by omega) (by omega)
    have A2 := fun p => ib_at (L := L) h p 126 (by omega) (by omega)
    have w1 : w32 (B - 1) = B - 1 := wi32 (by omega) (by omega)
    have bt : blk (c 14) B.toNat 0 (h8 (c 14) 8 0 (0, -1)) = blk (c 14) (B - 1).toNat 1 (if sm (c 14) 0 128 % 256 = 0 then h8 (c 14) 8 0 (0, -1) else nt (h8 (c 14) 8 0 (0, -1)) 3 127) := by
      have e : B.toNat = (B - 1).toNat + 1 := by omega
      rw [e]; rfl
    rw [bt]
    have g0 : ¬ B ≤ 0 := by omega
    have st : ev 15 0 [some (vR 15), some (vR 13), none, none] [] c (g_1 L) = ev 15 52 [some (vR 15), some (vR 13), some (vI B), some (vI 0)] [] (ic c (0, -1)) (g_1 L) := by
      simp only [xe_15_0, xe_15_1, xe_15_2, xe_15_5, xe_15_6, xe_15_7, xe_15_10, xe_15_11, xe_15_14, xe_15_17, xe_15_18 _ (some (vI _)) _ _ _ _ _ _ rfl, xe_15_18 _ (some (vR _)) _ _ _ _ _ _ rfl, xe_15_18 _ none _ _ _ _ _ _ rfl, xe_15_19, xe_15_20, xe_15_23, xe_15_26, xe_15_27, xe_15_30, xe_15_31, xe_15_32, xe_15_35, xe_15_36, xe_15_37, xe_15_40, xe_15_41, xe_15_42, xe_15_43, xe_15_46, xe_15_49, xe_15_50, xe_15_51 _ _ (some (vI _)) _ _ _ _ _ rfl, xe_15_51 _ _ (some (vR _)) _ _ _ _ _ rfl, xe_15_51 _ _ none _ _ _ _ _ rfl, ite_self, mm_nL_I, mm_nL_R, mm_nL_0, Option.bind_some, Option.bind_none, bnd_ite, Option.toList_some, Option.toList_none, List.cons_append, List.nil_append, mm_cats_nil, mm_cats_I, mm_cats_L, mm_cats_R, if_true, if_false, true_and, and_true, false_and, and_false, not_true_eq_false, not_false_eq_true, Int.reduceLE, Int.reduceLT, Int.reduceEq, Int.reduceNe, Int.reduceNeg, Int.reduceAdd, Int.reduceSub, Int.reduceMul, Nat.reduceAdd, Nat.reduceLeDiff, true_or, or_true, false_or, or_false, reduceIte, k_13, k_15, u0, i13, h1, d1, d2, q.1, q.2.1, q.2.2, q1]
    have w00 : w32 0 = 0 := rfl
    have w01 : w32 127 = 127 := rfl
    have w02 : w32 1 = 1 := rfl
    have t1 : ev 15 52 [some (vR 15), some (vR 13), some (vI B), some (vI 0)] [] (ic c (0, -1)) (g_1 L) = ev 15 52 [some (vR 15), some (vR 13), some (vI B), some (vI 1)] [] (ic c (if sm (c 14) 0 128 % 256 = 0 then h8 (c 14) 8 0 (0, -1) else nt (h8 (c 14) 8 0 (0, -1)) 3 127)) (g_1 L) := by
      rw [xe_15_52]
      by_cases s0 : sm (c 14) 0 128 % 256 = 0
      · simp only [xe_15_53, xe_15_54, xe_15_57, xe_15_58, xe_15_59, xe_15_60, xe_15_63, xe_15_64, xe_15_65, xe_15_68, xe_15_71, xe_15_72, xe_15_73, xe_15_74, xe_15_77, xe_15_78, xe_15_80, xe_15_81, xe_15_84 _ _ (some (vI _)) _ _ _ _ rfl, xe_15_84 _ _ (some (vR _)) _ _ _ _ rfl, xe_15_84 _ _ none _ _ _ _ rfl, xe_15_87, ite_self, mm_nL_I, mm_nL_R, mm_nL_0, Option.bind_some, Option.bind_none, bnd_ite, Option.toList_some, Option.toList_none, List.cons_append, List.nil_append, mm_cats_nil, mm_cats_I, mm_cats_L, mm_cats_R, if_true, if_false, true_and, and_true, false_and, and_false, not_true_eq_false, not_false_eq_true, Int.reduceLE, Int.reduceLT, Int.reduceEq, Int.reduceNe, Int.reduceNeg, Int.reduceAdd, Int.reduceSub, Int.reduceMul, Nat.reduceAdd, Nat.reduceLeDiff, true_or, or_true, false_or, or_false, reduceIte, k_13, k_15, H0, S0, N, g0, w00, w01, w02, s0]
      · simp only [xe_15_53, xe_15_54, xe_15_57, xe_15_58, xe_15_59, xe_15_60, xe_15_63, xe_15_64, xe_15_65, xe_15_68, xe_15_71, xe_15_72, xe_15_73, xe_15_74, xe_15_77, xe_15_78, xe_15_80, xe_15_81, xe_15_84 _ _ (some (vI _)) _ _ _ _ rfl, xe_15_84 _ _ (some (vR _)) _ _ _ _ rfl, xe_15_84 _ _ none _ _ _ _ rfl, xe_15_87, ite_self, mm_nL_I, mm_nL_R, mm_nL_0, Option.bind_some, Option.bind_none, bnd_ite, Option.toList_some, Option.toList_none, List.cons_append, List.nil_append, mm_cats_nil, mm_cats_I, mm_cats_L, mm_cats_R, if_true, if_false, true_and, and_true, false_and, and_false, not_true_eq_false, not_false_eq_true, Int.reduceLE, Int.reduceLT, Int.reduceEq, Int.reduceNe, Int.reduceNeg, Int.reduceAdd, Int.reduceSub, Int.reduceMul, Nat.reduceAdd, Nat.reduceLeDiff, true_or, or_true, false_or, or_false, reduceIte, k_13, k_15, H0, S0, N, g0, w00, w01, w02, s0]
    rw [st, t1, BL]
    unfold i45
    generalize blk (c 14) (B - 1).toNat 1 (if sm (c 14) 0 128 % 256 = 0 then h8 (c 14) 8 0 (0, -1) else nt (h8 (c 14) 8 0 (0, -1)) 3 127) = p1 at *
    by_cases a1 : c 14 18 = 1
    · by_cases a2 : c 14 126 = B - 1
      · have a2' := eq_true a2
        simp only [xe_15_90, xe_15_91, xe_15_93, xe_15_96, xe_15_97, xe_15_100, xe_15_101, xe_15_102, xe_15_104, xe_15_107, xe_15_108, xe_15_110, xe_15_113, xe_15_114, xe_15_115, xe_15_116, xe_15_119, xe_15_120, xe_15_121, xe_15_123, xe_15_126, xe_15_127 _ _ (some (vI _)) _ _ _ _ _ rfl, xe_15_127 _ _ (some (vR _)) _ _ _ _ _ rfl, xe_15_127 _ _ none _ _ _ _ _ rfl, ite_self, mm_nL_I, mm_nL_R, mm_nL_0, Option.bind_some, Option.bind_none, bnd_ite, Option.toList_some, Option.toList_none, List.cons_append, List.nil_append, mm_cats_nil, mm_cats_I, mm_cats_L, mm_cats_R, if_true, if_false, true_and, and_true, false_and, and_false, not_true_eq_false, not_false_eq_true, Int.reduceLE, Int.reduceLT, Int.reduceEq, Int.reduceNe, Int.reduceNeg, Int.reduceAdd, Int.reduceSub, Int.reduceMul, Nat.reduceAdd, Nat.reduceLeDiff, true_or, or_true, false_or, or_false, reduceIte, k_13, k_15, A1, A2, N, w1, a1, a2', EX]
      · simp only [xe_15_90, xe_15_91, xe_15_93, xe_15_96, xe_15_97, xe_15_100, xe_15_101, xe_15_102, xe_15_104, xe_15_107, xe_15_108, xe_15_110, xe_15_113, xe_15_114, xe_15_115, xe_15_116, xe_15_119, xe_15_120, xe_15_121, xe_15_123, xe_15_126, xe_15_127 _ _ (some (vI _)) _ _ _ _ _ rfl, xe_15_127 _ _ (some (vR _)) _ _ _ _ _ rfl, xe_15_127 _ _ none _ _ _ _ _ rfl, ite_self, mm_nL_I, mm_nL_R, mm_nL_0, Option.bind_some, Option.bind_none, bnd_ite, Option.toList_some, Option.toList_none, List.cons_append, List.nil_append, mm_cats_nil, mm_cats_I, mm_cats_L, mm_cats_R, if_true, if_false, true_and, and_true, false_and, and_false, not_true_eq_false, not_false_eq_true, Int.reduceLE, Int.reduceLT, Int.reduceEq, Int.reduceNe, Int.reduceNeg, Int.reduceAdd, Int.reduceSub, Int.reduceMul, Nat.reduceAdd, Nat.reduceLeDiff, true_or, or_true, false_or, or_false, reduceIte, k_13, k_15, A1, A2, N, w1, a1, a2, EX]
    · by_cases a2 : c 14 126 = B - 1
      · have a2' := eq_true a2
        simp only [xe_15_90, xe_15_91, xe_15_93, xe_15_96, xe_15_97, xe_15_100, xe_15_101, xe_15_102, xe_15_104, xe_15_107, xe_15_108, xe_15_110, xe_15_113, xe_15_114, xe_15_115, xe_15_116, xe_15_119, xe_15_120, xe_15_121, xe_15_123, xe_15_126, xe_15_127 _ _ (some (vI _)) _ _ _ _ _ rfl, xe_15_127 _ _ (some (vR _)) _ _ _ _ _ rfl, xe_15_127 _ _ none _ _ _ _ _ rfl, ite_self, mm_nL_I, mm_nL_R, mm_nL_0, Option.bind_some, Option.bind_none, bnd_ite, Option.toList_some, Option.toList_none, List.cons_append, List.nil_append, mm_cats_nil, mm_cats_I, mm_cats_L, mm_cats_R, if_true, if_false, true_and, and_true, false_and, and_false, not_true_eq_false, not_false_eq_true, Int.reduceLE, Int.reduceLT, Int.reduceEq, Int.reduceNe, Int.reduceNeg, Int.reduceAdd, Int.reduceSub, Int.reduceMul, Nat.reduceAdd, Nat.reduceLeDiff, true_or, or_true, false_or, or_false, reduceIte, k_13, k_15, A1, A2, N, w1, a1, a2', EX]
      · simp only [xe_15_90, xe_15_91, xe_15_93, xe_15_96, xe_15_97, xe_15_100, xe_15_101, xe_15_102, xe_15_104, xe_15_107, xe_15_108, xe_15_110, xe_15_113, xe_15_114, xe_15_115, xe_15_116, xe_15_119, xe_15_120, xe_15_121, xe_15_123, xe_15_126, xe_15_127 _ _ (some (vI _)) _ _ _ _ _ rfl, xe_15_127 _ _ (some (vR _)) _ _ _ _ _ rfl, xe_15_127 _ _ none _ _ _ _ _ rfl, ite_self, mm_nL_I, mm_nL_R, mm_nL_0, Option.bind_some, Option.bind_none, bnd_ite, Option.toList_some, Option.toList_none, List.cons_append, List.nil_append, mm_cats_nil, mm_cats_I, mm_cats_L, mm_cats_R, if_true, if_false, true_and, and_true, false_and, and_false, not_true_eq_false, not_false_eq_true, Int.reduceLE, Int.reduceLT, Int.reduceEq, Int.reduceNe, Int.reduceNeg, Int.reduceAdd, Int.reduceSub, Int.reduceMul, Nat.reduceAdd, Nat.reduceLeDiff, true_or, or_true, false_or, or_false, reduceIte, k_13, k_15, A1, A2, N, w1, a1, a2, EX]
  · rw [if_neg q]
    have N0 : ev 16 0 [some (vR 15), some (vI 1), some (vI n)] [] (ic c (0, -1)) (g_1 L) = some (none, ic c (1, n), g_1 L) := N 1 n (0, -1)
    by_cases q1 : n % 128 = 0
    · by_cases q2 : n / 128 < 1
      · simp only [xe_15_0, xe_15_1, xe_15_2, xe_15_5, xe_15_6, xe_15_7, xe_15_10, xe_15_11, xe_15_14, xe_15_17, xe_15_18 _ (some (vI _)) _ _ _ _ _ _ rfl, xe_15_18 _ (some (vR _)) _ _ _ _ _ _ rfl, xe_15_18 _ none _ _ _ _ _ _ rfl, xe_15_19, xe_15_20, xe_15_23, xe_15_26, xe_15_27, xe_15_30, xe_15_31, xe_15_32, xe_15_35, xe_15_36, xe_15_37, xe_15_40, xe_15_41, xe_15_42, xe_15_43, xe_15_46, xe_15_49, xe_15_50, xe_15_51 _ _ (some (vI _)) _ _ _ _ _ rfl, xe_15_51 _ _ (some (vR _)) _ _ _ _ _ rfl, xe_15_51 _ _ none _ _ _ _ _ rfl, ite_self, mm_nL_I, mm_nL_R, mm_nL_0, Option.bind_some, Option.bind_none, bnd_ite, Option.toList_some, Option.toList_none, List.cons_append, List.nil_append, mm_cats_nil, mm_cats_I, mm_cats_L, mm_cats_R, if_true, if_false, true_and, and_true, false_and, and_false, not_true_eq_false, not_false_eq_true, Int.reduceLE, Int.reduceLT, Int.reduceEq, Int.reduceNe, Int.reduceNeg, Int.reduceAdd, Int.reduceSub, Int.reduceMul, Nat.reduceAdd, Nat.reduceLeDiff, true_or, or_true, false_or, or_false, reduceIte, k_13, k_15, u0, i13, h1, d1, d2, q1, q2, N0]
      · have q3 : ¬ n / 128 ≤ 4 := by omega
        simp only [xe_15_0, xe_15_1, xe_15_2, xe_15_5, xe_15_6, xe_15_7, xe_15_10, xe_15_11, xe_15_14, xe_15_17, xe_15_18 _ (some (vI _)) _ _ _ _ _ _ rfl, xe_15_18 _ (some (vR _)) _ _ _ _ _ _ rfl, xe_15_18 _ none _ _ _ _ _ _ rfl, xe_15_19, xe_15_20, xe_15_23, xe_15_26, xe_15_27, xe_15_30, xe_15_31, xe_15_32, xe_15_35, xe_15_36, xe_15_37, xe_15_40, xe_15_41, xe_15_42, xe_15_43, xe_15_46, xe_15_49, xe_15_50, xe_15_51 _ _ (some (vI _)) _ _ _ _ _ rfl, xe_15_51 _ _ (some (vR _)) _ _ _ _ _ rfl, xe_15_51 _ _ none _ _ _ _ _ rfl, ite_self, mm_nL_I, mm_nL_R, mm_nL_0, Option.bind_some, Option.bind_none, bnd_ite, Option.toList_some, Option.toList_none, List.cons_append, List.nil_append, mm_cats_nil, mm_cats_I, mm_cats_L, mm_cats_R, if_true, if_false, true_and, and_true, false_and, and_false, not_true_eq_false, not_false_eq_true, Int.reduceLE, Int.reduceLT, Int.reduceEq, Int.reduceNe, Int.reduceNeg, Int.reduceAdd, Int.reduceSub, Int.reduceMul, Nat.reduceAdd, Nat.reduceLeDiff, true_or, or_true, false_or, or_false, reduceIte, k_13, k_15, u0, i13, h1, d1, d2, q1, q2, q3, N0]
    · simp only [xe_15_0, xe_15_1, xe_15_2, xe_15_5, xe_15_6, xe_15_7, xe_15_10, xe_15_11, xe_15_14, xe_15_17, xe_15_18 _ (some (vI _)) _ _ _ _ _ _ rfl, xe_15_18 _ (some (vR _)) _ _ _ _ _ _ rfl, xe_15_18 _ none _ _ _ _ _ _ rfl, xe_15_19, xe_15_20, xe_15_23, xe_15_26, xe_15_27, xe_15_30, xe_15_31, xe_15_32, xe_15_35, xe_15_36, xe_15_37, xe_15_40, xe_15_41, xe_15_42, xe_15_43, xe_15_46, xe_15_49, xe_15_50, xe_15_51 _ _ (some (vI _)) _ _ _ _ _ rfl, xe_15_51 _ _ (some (vR _)) _ _ _ _ _ rfl, xe_15_51 _ _ none _ _ _ _ _ rfl, ite_self, mm_nL_I, mm_nL_R, mm_nL_0, Option.bind_some, Option.bind_none, bnd_ite, Option.toList_some, Option.toList_none, List.cons_append, List.nil_append, mm_cats_nil, mm_cats_I, mm_cats_L, mm_cats_R, if_true, if_false, true_and, and_true, false_and, and_false, not_true_eq_false, not_false_eq_true, Int.reduceLE, Int.reduceLT, Int.reduceEq, Int.reduceNe, Int.reduceNeg, Int.reduceAdd, Int.reduceSub, Int.reduceMul, Nat.reduceAdd, Nat.reduceLeDiff, true_or, or_true, false_or, or_false, reduceIte, k_13, k_15, u0, i13, h1, d1, d2, q1, N0]
end II
