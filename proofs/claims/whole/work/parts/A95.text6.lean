/-! called: the reference writes a number; how long a text is -/
theorem nd_u : ∀ (s : Nat) (x : Int), nd (s + 1) x → 1 ≤ x → pw s ≤ x
  | 0, x, _, h => h
  | s + 1, x, h, h1 => by
    have a : 10 ≤ x ∧ nd (s + 1) (x / 10) := h
    have := nd_u s (x / 10) a.2 (by omega)
    show 10 * pw s ≤ x
    omega
theorem nd_e : ∀ (k : Nat) (x : Int), 0 ≤ x → x < pw (k + 1) → ∃ s, s ≤ k ∧ nd (s + 1) x
  | 0, x, h0, h1 => ⟨0, by omega, h0, by have : pw (0 + 1) = 10 := rfl; omega⟩
  | k + 1, x, h0, h1 => by
    by_cases a : x < 10
    · exact ⟨0, by omega, h0, a⟩
    · obtain ⟨s, s1, s2⟩ := nd_e k (x / 10) (by omega) (by have : pw (k + 1 + 1) = 10 * pw (k + 1) := rfl; omega)
      exact ⟨s + 1, by omega, by omega, s2⟩
theorem pw_a : ∀ a b : Nat, pw (a + b) = pw a * pw b
  | a, 0 => by show pw a = pw a * 1; omega
  | a, b + 1 => by
    show 10 * pw (a + b) = pw a * (10 * pw b)
    rw [pw_a a b, Int.mul_left_comm]
theorem pw_m (a b : Nat) : pw a ≤ pw (a + b) := by
  rw [pw_a]
  have := Int.mul_le_mul_of_nonneg_left (show 1 ≤ pw b by have := pw_p b; omega) (show 0 ≤ pw a by have := pw_p a; omega)
  omega
theorem hz_b {m t P : Int} (h : 2 * (m * P) ≤ 2000 * t + P) (t1 : t ≤ 655350) (p : 1 ≤ P) (m0 : 0 ≤ m) : m ≤ 655350000 ∧ m * P ≤ 1310700000 := by
  constructor
  · by_cases q : m ≤ 655350000
    · exact q
    · exfalso
      have := Int.mul_le_mul_of_nonneg_right (show 655350001 ≤ m by omega) (show 0 ≤ P by omega)
      generalize m * P = X at *
      omega
  · by_cases q : m = 0
    · rw [q, Int.zero_mul]; omega
    · have := Int.mul_le_mul_of_nonneg_right (show 1 ≤ m by omega) (show 0 ≤ P by omega)
      rw [Int.one_mul] at this
      generalize m * P = X at *
      omega
/-- a text has room: h, v and hertz have at most 12 digits together -/
theorem dg_tot {h v m P : Int} {a b d : Nat} (h1 : 1 ≤ h) (h2 : h ≤ 4095) (v1 : 1 ≤ v) (v2 : v ≤ 4095) (m0 : 0 ≤ m) (hp : h * v ≤ P) (mp : m * P ≤ 1310700000) (na : nd (a + 1) h) (nb' : nd (b + 1) v) (nc : nd (d + 1) m) : a + b + d ≤ 9 := by
  have ua := nd_u a h na h1
  have ub := nd_u b v nb' v1
  have pa := pw_p a
  have pb := pw_p b
  have ab : pw (a + b) ≤ h * v := by rw [pw_a]; exact Int.mul_le_mul ua ub (by omega) (by omega)
  by_cases z : 1 ≤ m
  · have ud := nd_u d m nc z
    have pd := pw_p d
    have t : pw (d + (a + b)) ≤ m * P := by
      rw [pw_a]
      exact Int.mul_le_mul ud (by omega) (by have := pw_p (a + b); omega) (by omega)
    by_cases q : a + b + d ≤ 9
    · exact q
    · exfalso
      have := pw_m 10 (a + b + d - 10)
      rw [show 10 + (a + b + d - 10) = d + (a + b) by omega] at this
      have e : pw 10 = 10000000000 := by decide
      omega
  · have e0 : m = 0 := by omega
    have d0 : d = 0 := by
      cases d with
      | zero => rfl
      | succ d =>
        have : 10 ≤ m ∧ nd (d + 1) (m / 10) := nc
        omega
    by_cases q : a + b + d ≤ 9
    · exact q
    · exfalso
      have := pw_m 10 (a + b - 10)
      rw [show 10 + (a + b - 10) = a + b by omega] at this
      have e : pw 10 = 10000000000 := by decide
      have := (mul_bd (show 0 ≤ h by omega) h2 (show 0 ≤ v by omega) v2).2
      omega
section YZ
variable {L : Int} {r : MM}
theorem y_l2 (x : Int) (x0 : 0 ≤ x) (x1 : x ≤ 2000000000) (μ : MM) : ∀ (s i : Nat), nd s (x / pw i) → s + i ≤ 10 → ev 190 2 [some (vR 149), some (vI x), some (vI (pw i))] [] μ (g_1 L) = ev 190 18 [some (vR 149), some (vI x), some (vI (pdv (i + s)))] [] μ (g_1 L)
  | 0, _, h, _ => h.elim
  | 1, i, h, hi => by
    have p := pw_p i
    have b : pw i ≤ 1000000000 := by
      have : ∀ k : Nat, k ≤ 9 → pw k ≤ 1000000000 := by decide
      exact this i (by omega)
    have d : mm_div x (pw i) = x / pw i := nu_div x0 (by omega) p (by omega)
    have g : x / pw i ≤ 9 := by have := h.2; omega
    have nz : ¬ pw i = 0 := by omega
    rw [show pdv (i + 1) = pw i from rfl, xe_190_2]
    simp only [xe_190_3, xe_190_4, xe_190_5, xe_190_7, xe_190_10, xe_190_11, xe_190_13, xe_190_14 _ (some (vI _)) _ _ _ _ _ rfl, xe_190_14 _ (some (vR _)) _ _ _ _ _ rfl, xe_190_14 _ none _ _ _ _ _ rfl, xe_190_15, ite_self, mm_nL_I, mm_nL_R, mm_nL_0, Option.bind_some, Option.bind_none, bnd_ite, Option.toList_some, Option.toList_none, List.cons_append, List.nil_append, mm_cats_nil, mm_cats_I, mm_cats_L, mm_cats_R, if_true, if_false, true_and, and_true, false_and, and_false, not_true_eq_false, not_false_eq_true, Int.reduceLE, Int.reduceLT, Int.reduceEq, Int.reduceNe, Int.reduceNeg, Int.reduceAdd, Int.reduceSub, Int.reduceMul, Nat.reduceAdd, Nat.reduceLeDiff, true_or, or_true, false_or, or_false, reduceIte, d, g, nz]
  | s + 2, i, h, hi => by
    have p := pw_p i
    have b : pw i ≤ 1000000000 := by
      have : ∀ k : Nat, k ≤ 9 → pw k ≤ 1000000000 := by decide
      exact this i (by omega)
    have d : mm_div x (pw i) = x / pw i := nu_div x0 (by omega) p (by omega)
    have q : 10 * pw i ≤ x := by
      have := (Int.le_ediv_iff_mul_le p).1 h.1
      omega
    have g : ¬ x / pw i ≤ 9 := by have := h.1; omega
    have nz : ¬ pw i = 0 := by omega
    have e : pw (i + 1) = 10 * pw i := rfl
    have n2 : nd (s + 1) (x / pw (i + 1)) := by
      have t : x / pw (i + 1) = x / pw i / 10 := by
        rw [e, Int.mul_comm, Int.ediv_ediv_of_nonneg (by omega)]
      rw [t]; exact h.2
    have I := y_l2 x x0 x1 μ (s + 1) (i + 1) n2 (by omega)
    rw [show i + 1 + (s + 1) = i + (s + 2) by omega] at I
    have w : w32 (pw i * 10) = pw (i + 1) := by rw [wi32 (by omega) (by omega), e]; omega
    rw [← I, xe_190_2]
    simp only [xe_190_3, xe_190_4, xe_190_5, xe_190_7, xe_190_10, xe_190_11, xe_190_13, xe_190_14 _ (some (vI _)) _ _ _ _ _ rfl, xe_190_14 _ (some (vR _)) _ _ _ _ _ rfl, xe_190_14 _ none _ _ _ _ _ rfl, xe_190_15, ite_self, mm_nL_I, mm_nL_R, mm_nL_0, Option.bind_some, Option.bind_none, bnd_ite, Option.toList_some, Option.toList_none, List.cons_append, List.nil_append, mm_cats_nil, mm_cats_I, mm_cats_L, mm_cats_R, if_true, if_false, true_and, and_true, false_and, and_false, not_true_eq_false, not_false_eq_true, Int.reduceLE, Int.reduceLT, Int.reduceEq, Int.reduceNe, Int.reduceNeg, Int.reduceAdd, Int.reduceSub, Int.reduceMul, Nat.reduceAdd, Nat.reduceLeDiff, true_or, or_true, false_or, or_false, reduceIte, d, g, nz, w]
theorem y_num (hM : SM r) (n x : Int) (s : Nat) (f : Int → Int) (hs : nd s x) (x1 : x ≤ 2000000000) (s9 : s ≤ 10) (n0 : 0 ≤ n) (n1 : n + s ≤ 30) : ev 190 0 [some (vR 149), some (vI x), none] [] (ty r n f) (g_1 L) = some (none, ty r (n + s) (dgs f n s x), g_1 L) := by
  have x0 := (nd_0 s x hs).1
  have A := y_l2 (L := L) x x0 x1 (ty r n f) s 0 (by rw [show pw 0 = 1 from rfl, Int.ediv_one]; exact hs) (by omega)
  rw [show pw 0 = 1 from rfl, show 0 + s = s by omega] at A
  have B := y_18 (L := L) hM x x0 x1 s n f n0 n1 s9
  rw [← B, ← A]
  simp only [xe_190_0, xe_190_1 _ (some (vI _)) _ _ _ _ _ rfl, xe_190_1 _ (some (vR _)) _ _ _ _ _ rfl, xe_190_1 _ none _ _ _ _ _ rfl, ite_self, mm_nL_I, mm_nL_R, mm_nL_0, Option.bind_some, Option.bind_none, bnd_ite, Option.toList_some, Option.toList_none, List.cons_append, List.nil_append, mm_cats_nil, mm_cats_I, mm_cats_L, mm_cats_R, if_true, if_false, true_and, and_true, false_and, and_false, not_true_eq_false, not_false_eq_true, Int.reduceLE, Int.reduceLT, Int.reduceEq, Int.reduceNe, Int.reduceNeg, Int.reduceAdd, Int.reduceSub, Int.reduceMul, Nat.reduceAdd, Nat.reduceLeDiff, true_or, or_true, false_or, or_false, reduceIte]
end YZ
