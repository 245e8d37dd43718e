/-! called: the reference's text; how many digits -/
def ty (r : MM) (n : Int) (f : Int → Int) : MM := fun b j => if b = 163 ∧ 0 ≤ j ∧ j < 30 then f j else if b = 149 ∧ j = 28 then n else r b j
theorem ty_b (r : MM) (n : Int) (f : Int → Int) (b : Int) (h1 : ¬ b = 149) (h2 : ¬ b = 163) : ty r n f b = r b := by
  funext j; unfold ty; rw [if_neg (by omega), if_neg (by omega)]
theorem ty_k (r : MM) (n : Int) (f : Int → Int) (k : Int) (h : ¬ k = 28) : ty r n f 149 k = r 149 k := by unfold ty; rw [if_neg (by omega), if_neg (by omega)]
theorem ty_n (r : MM) (n : Int) (f : Int → Int) : ty r n f 149 28 = n := by unfold ty; rw [if_neg (by omega), if_pos ⟨rfl, rfl⟩]
theorem ty_v (r : MM) (n : Int) (f : Int → Int) (j : Int) (h0 : 0 ≤ j) (h1 : j < 30) : ty r n f 163 j = f j := by unfold ty; rw [if_pos ⟨rfl, h0, h1⟩]
theorem ty_u (r : MM) (n : Int) (f : Int → Int) (p v : Int) (h0 : 0 ≤ p) (h1 : p < 30) : mset (ty r n f) 163 p v = ty r n (up f p v) := by
  funext b j; unfold mset ty up; (repeat' split) <;> first | rfl | (exfalso; omega)
theorem ty_s (r : MM) (n : Int) (f : Int → Int) (v : Int) : mset (ty r n f) 149 28 v = ty r v f := by
  funext b j; unfold mset ty; (repeat' split) <;> first | rfl | (exfalso; omega)
def pdv : Nat → Int
  | 0 => 0
  | k + 1 => pw k
theorem pdv_s : ∀ k : Nat, pdv (k + 1) / 10 = pdv k
  | 0 => rfl
  | k + 1 => by show 10 * pw k / 10 = pw k; omega
theorem dgs_c (f : Int → Int) (n x : Int) (k : Nat) : dgs (up f n (48 + dgd k x)) (n + 1) k x = dgs f n (k + 1) x := by
  funext j
  unfold dgs up
  by_cases a : n + 1 ≤ j ∧ j < n + 1 + (k : Int)
  · rw [if_pos a, if_pos (by omega), show (n + 1 + (k : Int) - 1 - j).toNat = (n + ((k + 1 : Nat) : Int) - 1 - j).toNat by omega]
  · rw [if_neg a]
    by_cases e : j = n
    · rw [if_pos e, if_pos (by omega), show (n + ((k + 1 : Nat) : Int) - 1 - j).toNat = k by omega]
    · rw [if_neg e, if_neg (by omega)]
theorem dgs_0 (f : Int → Int) (n x : Int) : dgs f n 0 x = f := by
  funext j; unfold dgs; rw [if_neg (by omega)]
section YY
variable {L : Int} {r : MM}
theorem y_ch (hM : SM r) (n x : Int) (f : Int → Int) (n0 : 0 ≤ n) (n1 : n < 30) : ev 189 0 [some (vR 149), some (vI x)] [] (ty r n f) (g_1 L) = some (none, ty r (n + 1) (up f n x), g_1 L) := by
  have p : ∀ f, ty r n f 149 27 = 163 := fun f => by rw [ty_k _ _ _ _ (by omega)]; exact sm_149_27 hM
  have q := fun f => ty_n r n f
  have w : w32 (n + 1) = n + 1 := wi32 (by omega) (by omega)
  have a : 0 ≤ n ∧ n < 30 := ⟨n0, n1⟩
  have u := fun v => ty_u r n f n v n0 n1
  have t := fun f v => ty_s r n f v
  simp only [xe_189_0, xe_189_1, xe_189_4, xe_189_5, xe_189_8, xe_189_9, xe_189_10, xe_189_11, xe_189_12, xe_189_15, xe_189_16, xe_189_17, xe_189_20, ite_self, mm_nL_I, mm_nL_R, mm_nL_0, Option.bind_some, Option.bind_none, bnd_ite, Option.toList_some, Option.toList_none, List.cons_append, List.nil_append, mm_cats_nil, mm_cats_I, mm_cats_L, mm_cats_R, if_true, if_false, true_and, and_true, false_and, and_false, not_true_eq_false, not_false_eq_true, Int.reduceLE, Int.reduceLT, Int.reduceEq, Int.reduceNe, Int.reduceNeg, Int.reduceAdd, Int.reduceSub, Int.reduceMul, Nat.reduceAdd, Nat.reduceLeDiff, true_or, or_true, false_or, or_false, reduceIte, k_149, k_163, l_163, p, q, w, a, u, t]
theorem y_18 (hM : SM r) (x : Int) (x0 : 0 ≤ x) (x1 : x ≤ 2000000000) : ∀ (k : Nat) (n : Int) (f : Int → Int), 0 ≤ n → n + k ≤ 30 → k ≤ 10 → ev 190 18 [some (vR 149), some (vI x), some (vI (pdv k))] [] (ty r n f) (g_1 L) = some (none, ty r (n + k) (dgs f n k x), g_1 L) := by
  intro k
  induction k with
  | zero =>
    intro n f n0 n1 k1
    rw [dgs_0, show pdv 0 = 0 from rfl, show n + ((0 : Nat) : Int) = n by omega, xe_190_18]
    simp only [xe_190_19, xe_190_22, xe_190_23, xe_190_25, xe_190_26, xe_190_27, xe_190_28, xe_190_30, xe_190_31, xe_190_32, xe_190_35, xe_190_36, xe_190_38, xe_190_39 _ (some (vI _)) _ _ _ _ _ rfl, xe_190_39 _ (some (vR _)) _ _ _ _ _ rfl, xe_190_39 _ none _ _ _ _ _ rfl, xe_190_40, xe_190_43, ite_self, mm_nL_I, mm_nL_R, mm_nL_0, Option.bind_some, Option.bind_none, bnd_ite, Option.toList_some, Option.toList_none, List.cons_append, List.nil_append, mm_cats_nil, mm_cats_I, mm_cats_L, mm_cats_R, if_true, if_false, true_and, and_true, false_and, and_false, not_true_eq_false, not_false_eq_true, Int.reduceLE, Int.reduceLT, Int.reduceEq, Int.reduceNe, Int.reduceNeg, Int.reduceAdd, Int.reduceSub, Int.reduceMul, Nat.reduceAdd, Nat.reduceLeDiff, true_or, or_true, false_or, or_false, reduceIte]
  | succ k ih =>
    intro n f n0 n1 k1
    have I := ih (n + 1) (up f n (48 + dgd k x)) (by omega) (by omega) (by omega)
    rw [dgs_c, show n + 1 + (k : Int) = n + ((k + 1 : Nat) : Int) by omega] at I
    have p : 0 < pdv (k + 1) := pw_p k
    have b : pdv (k + 1) ≤ 1000000000 := by
      have : ∀ k : Nat, k ≤ 9 → pw k ≤ 1000000000 := by decide
      exact this k (by omega)
    have e : dgd k x = x / pdv (k + 1) % 10 := dgd_p k x
    have s := pdv_s k
    rw [e] at I
    generalize pdv (k + 1) = D at *
    have d1 : mm_div x D = x / D := nu_div x0 (by omega) p (by omega)
    have h1 : 0 ≤ x / D := Int.ediv_nonneg x0 (by omega)
    have h2 : x / D ≤ x := Int.ediv_le_self _ x0
    have d2 : mm_rem (x / D) 10 = x / D % 10 := nu_rem h1 (by omega) (by omega) (by omega)
    have d3 : mm_div D 10 = pdv k := by rw [nu_div (by omega) (by omega) (by omega) (by omega)]; exact s
    have w : w32 (48 + x / D % 10) = 48 + x / D % 10 := wi32 (by omega) (by omega)
    have g : ¬ D ≤ 0 := by omega
    have nz : ¬ D = 0 := by omega
    have C := y_ch (L := L) hM n (48 + x / D % 10) f n0 (by omega)
    rw [← I, xe_190_18]
    simp only [xe_190_19, xe_190_22, xe_190_23, xe_190_25, xe_190_26, xe_190_27, xe_190_28, xe_190_30, xe_190_31, xe_190_32, xe_190_35, xe_190_36, xe_190_38, xe_190_39 _ (some (vI _)) _ _ _ _ _ rfl, xe_190_39 _ (some (vR _)) _ _ _ _ _ rfl, xe_190_39 _ none _ _ _ _ _ rfl, xe_190_40, xe_190_43, ite_self, mm_nL_I, mm_nL_R, mm_nL_0, Option.bind_some, Option.bind_none, bnd_ite, Option.toList_some, Option.toList_none, List.cons_append, List.nil_append, mm_cats_nil, mm_cats_I, mm_cats_L, mm_cats_R, if_true, if_false, true_and, and_true, false_and, and_false, not_true_eq_false, not_false_eq_true, Int.reduceLE, Int.reduceLT, Int.reduceEq, Int.reduceNe, Int.reduceNeg, Int.reduceAdd, Int.reduceSub, Int.reduceMul, Nat.reduceAdd, Nat.reduceLeDiff, true_or, or_true, false_or, or_false, reduceIte, k_149, g, nz, d1, d2, d3, w, C]
end YY
