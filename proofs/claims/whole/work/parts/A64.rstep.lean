/-! load: what a descriptor and a head of data tell, on both sides -/
def PX (c : MM) (n : Int) (F : Int → Int) : Prop := XB c n F ∧ c 16 0 = 17 ∧ c 16 1 = 19 ∧ c 16 2 = 20 ∧ c 16 3 = 21 ∧ c 16 4 = 22 ∧ ∀ k, 0 ≤ k → k < 22 → c 19 k = 23 + k
def PM (r : MM) (n : Int) (F : Int → Int) : Prop := YB r n F ∧ r 149 9 = 153 ∧ r 149 10 = 154 ∧ r 149 11 = 155 ∧ r 149 12 = 156
def fC (c c' : MM) : Prop := (∀ a, ¬ (a = 16 ∨ 20 ≤ a ∧ a ≤ 44) → c' a = c a) ∧ ∀ k, (k ≤ 5 ∨ k = 7) → c' 16 k = c 16 k
def fR (r r' : MM) : Prop := (∀ a, ¬ (a = 149 ∨ 153 ≤ a ∧ a ≤ 156) → r' a = r a) ∧ ∀ k, ¬ (13 ≤ k ∧ k ≤ 18) → r' 149 k = r 149 k
theorem fC.rf (c : MM) : fC c c := ⟨fun _ _ => rfl, fun _ _ => rfl⟩
theorem fR.rf (c : MM) : fR c c := ⟨fun _ _ => rfl, fun _ _ => rfl⟩
theorem fC.tr {a b d : MM} (h : fC a b) (h' : fC b d) : fC a d := ⟨fun x hx => by rw [h'.1 x hx, h.1 x hx], fun x hx => by rw [h'.2 x hx, h.2 x hx]⟩
theorem fR.tr {a b d : MM} (h : fR a b) (h' : fR b d) : fR a d := ⟨fun x hx => by rw [h'.1 x hx, h.1 x hx], fun x hx => by rw [h'.2 x hx, h.2 x hx]⟩
theorem PX.f {c c' : MM} {n : Int} {F : Int → Int} (h : PX c n F) (k : fC c c') : PX c' n F := by
  unfold PX XB at *
  rw [k.1 17 (by omega), k.1 18 (by omega), k.1 19 (by omega), k.2 0 (by omega), k.2 1 (by omega), k.2 2 (by omega), k.2 3 (by omega), k.2 4 (by omega)]; exact h
theorem PM.f {r r' : MM} {n : Int} {F : Int → Int} (h : PM r n F) (k : fR r r') : PM r' n F := by
  unfold PM YB at *
  rw [k.1 152 (by omega), k.2 3 (by omega), k.2 9 (by omega), k.2 10 (by omega), k.2 11 (by omega), k.2 12 (by omega)]; exact h
def Qd (c r : MM) : Prop := c 16 6 = r 149 13 ∧ 0 ≤ c 16 6 ∧ ∀ k, 0 ≤ k → k < c 16 6 → (∀ j, 0 ≤ j → j ≤ 9 → c (23 + k) j = r 153 (11 * k + j)) ∧ tok (c (23 + k)) ∧ (r 153 (11 * k + 10) = 0 ∨ r 153 (11 * k + 10) = 1) ∧ (r 153 (11 * k + 10) = 1 ↔ bro (c (23 + k))) ∧ 0 < c (23 + k) 0
def Qn (c r : MM) : Prop := c 16 9 = r 149 14 ∧ 0 ≤ c 16 9 ∧ c 16 9 ≤ 13 ∧ ∀ k, 0 ≤ k → k < c 16 9 → c 21 k = r 154 k ∧ 0 ≤ c 21 k ∧ c 21 k < 256
def Qr (c r : MM) : Prop := c 16 12 = r 149 18 ∧ (c 16 12 = 0 ∨ c 16 12 = 1) ∧ (c 16 12 = 1 → (∀ k, 0 ≤ k → k < 5 → 0 ≤ c 22 k ∧ c 22 k < 256) ∧ (∀ k, 0 ≤ k → k < 4 → c 22 k = r 155 k) ∧ 10000 * c 22 4 = r 155 4)
def Qc (c r : MM) : Prop := c 16 8 = r 149 17 ∧ 0 ≤ c 16 8 ∧ ∀ k, 0 ≤ k → k < c 16 8 → c 20 k = r 156 k ∧ 0 ≤ c 20 k ∧ c 20 k < 128
def Qs (c r : MM) : Prop := c 16 10 = r 149 16 ∧ 0 ≤ c 16 10
def Qm (c r : MM) : Prop := c 16 11 = r 149 15 ∧ 0 ≤ c 16 11 ∧ c 16 11 ≤ 1275000
def Rq (c r : MM) : Prop := Qd c r ∧ Qn c r ∧ Qr c r ∧ Qc c r ∧ Qs c r ∧ Qm c r
theorem Qd.ke {c c' r r' : MM} (h : Qd c r) (k1 : c' 16 6 = c 16 6) (k2 : ∀ a, 23 ≤ a → c' a = c a) (q1 : r' 149 13 = r 149 13) (q2 : r' 153 = r 153) : Qd c' r' := by
  unfold Qd at *
  rw [k1, q1, q2]
  refine ⟨h.1, h.2.1, fun k k0 k1 => ?_⟩
  rw [k2 (23 + k) (by omega)]; exact h.2.2 k k0 k1
theorem Qn.ke {c c' r r' : MM} (h : Qn c r) (k1 : c' 16 9 = c 16 9) (k2 : c' 21 = c 21) (q1 : r' 149 14 = r 149 14) (q2 : r' 154 = r 154) : Qn c' r' := by
  unfold Qn at *; rw [k1, k2, q1, q2]; exact h
theorem Qr.ke {c c' r r' : MM} (h : Qr c r) (k1 : c' 16 12 = c 16 12) (k2 : c' 22 = c 22) (q1 : r' 149 18 = r 149 18) (q2 : r' 155 = r 155) : Qr c' r' := by
  unfold Qr at *; rw [k1, k2, q1, q2]; exact h
theorem Qc.ke {c c' r r' : MM} (h : Qc c r) (k1 : c' 16 8 = c 16 8) (k2 : c' 20 = c 20) (q1 : r' 149 17 = r 149 17) (q2 : r' 156 = r 156) : Qc c' r' := by
  unfold Qc at *; rw [k1, k2, q1, q2]; exact h
theorem Qs.ke {c c' r r' : MM} (h : Qs c r) (k1 : c' 16 10 = c 16 10) (q1 : r' 149 16 = r 149 16) : Qs c' r' := by
  unfold Qs at *; rw [k1, q1]; exact h
theorem Qm.ke {c c' r r' : MM} (h : Qm c r) (k1 : c' 16 11 = c 16 11) (q1 : r' 149 15 = r 149 15) : Qm c' r' := by
  unfold Qm at *; rw [k1, q1]; exact h
section RS
variable {L n : Int} {c r : MM} {F : Int → Int}
theorem px_at (h : PX c n F) (i : Int) (i0 : 0 ≤ i) (i1 : i < n) : ev 3 0 [some (vR 17), some (vI i)] [] c (g_1 L) = some (some (vI (F i)), c, g_1 L) := xb_at h.1 i0 i1 c rfl rfl
theorem pm_at (h : PM r n F) (i : Int) (i0 : 0 ≤ i) (i1 : i < n) : ev 160 0 [some (vR 149), some (vI i)] [] r (g_1 L) = some (some (vI (F i)), r, g_1 L) := yb_at h.1 i0 i1 r rfl rfl
def hcl (F : Int → Int) (i : Int) : Bool := decide (¬ (F i = 0 ∧ F (i + 1) = 0))
theorem s_hasC (h : PX c n F) (i : Int) (i0 : 0 ≤ i) (i1 : i + 1 < n) : ev 45 0 [some (vR 16), some (vI i)] [] c (g_1 L) = some (some (vI (if hcl F i = true then 1 else 0)), c, g_1 L) := by
  have A := px_at (L := L) h i i0 (by omega)
  have B := px_at (L := L) h (i + 1) (by omega) i1
  have b1 := (h.1.2.2.2 i i0 (by omega)).2
  have b2 := (h.1.2.2.2 (i + 1) (by omega) i1).2
  have n5 := h.1.2.2.1
  have w : w32 (i + 1) = i + 1 := wi32 (by omega) (by omega)
  have o := or_z b1.1 b1.2 b2.1 b2.2
  unfold hcl
  by_cases q : F i = 0 ∧ F (i + 1) = 0
  · have q' := o.2 q
    simp only [xe_45_0, xe_45_1, xe_45_4, xe_45_5, xe_45_8, xe_45_9, xe_45_12, xe_45_13, xe_45_14, xe_45_15, xe_45_18, xe_45_19, xe_45_22, xe_45_23, xe_45_26, xe_45_27, ite_self, mm_nL_I, mm_nL_R, mm_nL_0, Option.bind_some, Option.bind_none, bnd_ite, Option.toList_some, Option.toList_none, List.cons_append, List.nil_append, mm_cats_nil, mm_cats_I, mm_cats_L, mm_cats_R, if_true, if_false, true_and, and_true, false_and, and_false, not_true_eq_false, not_false_eq_true, Int.reduceLE, Int.reduceLT, Int.reduceEq, Int.reduceNe, Int.reduceNeg, Int.reduceAdd, Int.reduceSub, Int.reduceMul, Nat.reduceAdd, Nat.reduceLeDiff, true_or, or_true, false_or, or_false, reduceIte, k_16, k_17, h.2.1, A, B, w, q', eq_true q, decide_false, Bool.false_eq_true]
  · have q' : ¬ mm_or (F i) (F (i + 1)) = 0 := fun e => q (o.1 e)
    simp only [xe_45_0, xe_45_1, xe_45_4, xe_45_5, xe_45_8, xe_45_9, xe_45_12, xe_45_13, xe_45_14, xe_45_15, xe_45_18, xe_45_19, xe_45_22, xe_45_23, xe_45_26, xe_45_27, ite_self, mm_nL_I, mm_nL_R, mm_nL_0, Option.bind_some, Option.bind_none, bnd_ite, Option.toList_some, Option.toList_none, List.cons_append, List.nil_append, mm_cats_nil, mm_cats_I, mm_cats_L, mm_cats_R, if_true, if_false, true_and, and_true, false_and, and_false, not_true_eq_false, not_false_eq_true, Int.reduceLE, Int.reduceLT, Int.reduceEq, Int.reduceNe, Int.reduceNeg, Int.reduceAdd, Int.reduceSub, Int.reduceMul, Nat.reduceAdd, Nat.reduceLeDiff, true_or, or_true, false_or, or_false, reduceIte, k_16, k_17, h.2.1, A, B, w, q', q, decide_true]
theorem s_isDe (h : PM r n F) (i : Int) (i0 : 0 ≤ i) (i1 : i + 1 < n) : ev 163 0 [some (vR 149), some (vI i)] [] r (g_1 L) = some (some (vI (if hcl F i = true then 1 else 0)), r, g_1 L) := by
  have A := pm_at (L := L) h i i0 (by omega)
  have B := pm_at (L := L) h (i + 1) (by omega) i1
  have b1 := (h.1.2.2 i i0 (by omega)).2
  have b2 := (h.1.2.2 (i + 1) (by omega) i1).2
  have n5 := h.1.2.1
  have w : w32 (i + 1) = i + 1 := wi32 (by omega) (by omega)
  have w2 : w32 (F i + F (i + 1)) = F i + F (i + 1) := wi32 (by omega) (by omega)
  unfold hcl
  by_cases q : F i = 0 ∧ F (i + 1) = 0
  · have q' : F i + F (i + 1) ≤ 0 := by omega
    simp only [xe_163_0, xe_163_1, xe_163_2, xe_163_5, xe_163_6, xe_163_7, xe_163_8, xe_163_9, xe_163_12, xe_163_13, xe_163_16, xe_163_17, xe_163_20, xe_163_21, ite_self, mm_nL_I, mm_nL_R, mm_nL_0, Option.bind_some, Option.bind_none, bnd_ite, Option.toList_some, Option.toList_none, List.cons_append, List.nil_append, mm_cats_nil, mm_cats_I, mm_cats_L, mm_cats_R, if_true, if_false, true_and, and_true, false_and, and_false, not_true_eq_false, not_false_eq_true, Int.reduceLE, Int.reduceLT, Int.reduceEq, Int.reduceNe, Int.reduceNeg, Int.reduceAdd, Int.reduceSub, Int.reduceMul, Nat.reduceAdd, Nat.reduceLeDiff, true_or, or_true, false_or, or_false, reduceIte, k_149, A, B, w, w2, q', decide_false, Bool.false_eq_true, eq_true q]
  · have q' : ¬ F i + F (i + 1) ≤ 0 := by omega
    simp only [xe_163_0, xe_163_1, xe_163_2, xe_163_5, xe_163_6, xe_163_7, xe_163_8, xe_163_9, xe_163_12, xe_163_13, xe_163_16, xe_163_17, xe_163_20, xe_163_21, ite_self, mm_nL_I, mm_nL_R, mm_nL_0, Option.bind_some, Option.bind_none, bnd_ite, Option.toList_some, Option.toList_none, List.cons_append, List.nil_append, mm_cats_nil, mm_cats_I, mm_cats_L, mm_cats_R, if_true, if_false, true_and, and_true, false_and, and_false, not_true_eq_false, not_false_eq_true, Int.reduceLE, Int.reduceLT, Int.reduceEq, Int.reduceNe, Int.reduceNeg, Int.reduceAdd, Int.reduceSub, Int.reduceMul, Nat.reduceAdd, Nat.reduceLeDiff, true_or, or_true, false_or, or_false, reduceIte, k_149, A, B, w, w2, q', q, decide_true]
theorem s_addD (h : PX c n F) (i k : Int) (hk : c 16 6 = k) (k0 : 0 ≤ k) (k1 : k < 22) (i0 : 0 ≤ i) (i1 : i + 18 ≤ n) : ev 46 0 [some (vR 16), some (vI i)] [] c (g_1 L) = some (none, mset (trd c (23 + k) i F) 16 6 (k + 1), g_1 L) := by
  have kk : gk (g_1 L) (23 + k) = 7 := by
    have : ∀ m : Fin 22, (kd_c (23 + (m.val : Int))).1 = 7 := by decide +kernel
    rw [gk_c L _ (by omega)]
    have t := this ⟨k.toNat, by omega⟩
    rw [show ((k.toNat : Nat) : Int) = k by omega] at t
    exact t
  have T := s_tread L n (23 + k) i c F h.1 (by omega) kk i0 i1
  have g1 : ¬ k < 0 := by omega
  have g2 : ¬ 22 ≤ k := by omega
  have p19 := h.2.2.2.2.2.2 k k0 k1
  have t16 : trd c (23 + k) i F 16 = c 16 := by funext j; unfold trd; rw [if_neg (by omega)]
  have w : w32 (k + 1) = k + 1 := wi32 (by omega) (by omega)
  have a0 : 0 < 23 + k := by omega
  simp only [xe_46_0, xe_46_1, xe_46_4, xe_46_7, xe_46_8, xe_46_11, xe_46_12, xe_46_15, xe_46_16, xe_46_19, xe_46_20, xe_46_23, xe_46_24, xe_46_27, xe_46_28, xe_46_29, xe_46_32, xe_46_33, xe_46_36, xe_46_37, xe_46_38, xe_46_41, xe_46_42, xe_46_43, xe_46_46, ite_self, mm_nL_I, mm_nL_R, mm_nL_0, Option.bind_some, Option.bind_none, bnd_ite, Option.toList_some, Option.toList_none, List.cons_append, List.nil_append, mm_cats_nil, mm_cats_I, mm_cats_L, mm_cats_R, if_true, if_false, true_and, and_true, false_and, and_false, not_true_eq_false, not_false_eq_true, Int.reduceLE, Int.reduceLT, Int.reduceEq, Int.reduceNe, Int.reduceNeg, Int.reduceAdd, Int.reduceSub, Int.reduceMul, Nat.reduceAdd, Nat.reduceLeDiff, true_or, or_true, false_or, or_false, reduceIte, k_16, k_17, k_19, l_19, h.2.1, h.2.2.1, hk, g1, g2, k0, k1, p19, kk, a0, T, t16, w]
/-- a detailed timing more on both sides -/
theorem st_det (hX : PX c n F) (hM : PM r n F) (hR : Rq c r) (i : Int) (k1 : c 16 6 < 22) (i0 : 0 ≤ i) (i1 : i + 18 ≤ n) (hc : hcl F i = true) :
    ∃ c' r', ev 46 0 [some (vR 16), some (vI i)] [] c (g_1 L) = some (none, c', g_1 L) ∧ ev 161 0 [some (vR 149), some (vI i), none, none] [] r (g_1 L) = some (none, r', g_1 L) ∧ Rq c' r' ∧ fC c c' ∧ fR r r' ∧ c' 16 6 = c 16 6 + 1 ∧ (∀ k, ¬ k = 6 → c' 16 k = c 16 k) := by
  obtain ⟨⟨d1, d2, d3⟩, q2, q3, q4, q5, q6⟩ := hR
  have A := s_addD (L := L) hX i (c 16 6) rfl d2 k1 i0 i1
  have B := s_rdet L n (c 16 6) i r F hM.1 hM.2.1 d1.symm d2 (by omega) i0 i1
  generalize hk : c 16 6 = k at *
  have ck : ∀ j, ¬ j = 6 → mset (trd c (23 + k) i F) 16 6 (k + 1) 16 j = c 16 j := fun j hj => by
    rw [ms_nk _ _ _ _ _ _ hj]; unfold trd; rw [if_neg (by omega)]
  have cb : ∀ b, ¬ b = 16 → ¬ b = 23 + k → mset (trd c (23 + k) i F) 16 6 (k + 1) b = c b := fun b h1 h2 => by
    rw [ms_row _ _ _ _ _ h1]; funext j; unfold trd; rw [if_neg (by omega)]
  have rb : ∀ b, ¬ b = 149 → ¬ b = 153 → rdt r k i F b = r b := fun b h1 h2 => by
    unfold rdt; rw [ms_row _ _ _ _ _ h1, ms_row _ _ _ _ _ h2, rd9_b _ _ _ _ _ h2]
  have rk : ∀ j, ¬ j = 13 → rdt r k i F 149 j = r 149 j := fun j hj => by
    unfold rdt; rw [ms_nk _ _ _ _ _ _ hj, ms_row _ _ _ _ _ (by omega), rd9_b _ _ _ _ _ (by omega)]
  have ct : ∀ j, 0 ≤ j → j ≤ 9 → mset (trd c (23 + k) i F) 16 6 (k + 1) (23 + k) j = tmg F i j := fun j j0 j9 => by
    rw [ms_row _ _ _ _ _ (by omega)]; unfold trd; rw [if_pos ⟨rfl, j0, j9⟩]
  have r3 : ∀ j, rdt r k i F 153 j = if j = 11 * k + 10 then (if brb (tmg F i) = true then 1 else 0) else rd9 r (11 * k) i F 153 j := fun j => by
    unfold rdt; rw [ms_row _ _ _ _ _ (by omega), ms_sa]
  have T := tmg_ok (fun i a b => (hX.1.2.2.2 i a b).2) i0 i1
  have bx := (hX.1.2.2.2 i i0 (by omega)).2
  have bx1 := (hX.1.2.2.2 (i + 1) (by omega) (by omega)).2
  have tk : ∀ t : Int → Int, (∀ j, 0 ≤ j → j ≤ 9 → t j = tmg F i j) → tok t ∧ (bro t ↔ brb (tmg F i) = true) := fun t ht => by
    refine ⟨?_, ?_⟩
    · unfold tok at *
      rw [ht 0 (by omega) (by omega), ht 3 (by omega) (by omega), ht 4 (by omega) (by omega), ht 7 (by omega) (by omega), ht 8 (by omega) (by omega), ht 9 (by omega) (by omega)]
      exact ⟨T.1, T.2.1, fun j j0 j1 => by rw [ht j (by omega) (by omega)]; exact T.2.2.1 j j0 j1, T.2.2.2⟩
    · rw [brb_i]
      unfold bro
      rw [ht 1 (by omega) (by omega), ht 2 (by omega) (by omega), ht 3 (by omega) (by omega), ht 4 (by omega) (by omega), ht 5 (by omega) (by omega), ht 6 (by omega) (by omega), ht 7 (by omega) (by omega), ht 8 (by omega) (by omega)]
  refine ⟨_, _, A, B, ⟨⟨?_, ?_, fun m m0 m1 => ?_⟩, ?_, ?_, ?_, ?_, ?_⟩, ⟨fun a ha => cb a (by omega) (by omega), fun j hj => ck j (by omega)⟩, ⟨fun a ha => rb a (by omega) (by omega), fun j hj => rk j (by omega)⟩, ms_eq _ _ _ _, fun j hj => ck j hj⟩
  · rw [ms_eq]; unfold rdt; rw [ms_eq]
  · rw [ms_eq]; omega
  · rw [ms_eq] at m1
    by_cases e : m = k
    · subst e
      have tq := tk _ ct
      refine ⟨fun j j0 j9 => ?_, tq.1, ?_, ?_, ?_⟩
      · rw [ct j j0 j9, r3, if_neg (by omega), rd9_k _ _ _ _ _ j0 j9]
      · rw [r3, if_pos rfl]; split
        · exact Or.inr rfl
        · exact Or.inl rfl
      · rw [r3, if_pos rfl, tq.2]
        constructor
        · intro hq
          by_cases z : brb (tmg F i) = true
          · exact z
          · rw [if_neg z] at hq; omega
        · intro hq; rw [if_pos hq]
      · rw [ct 0 (by omega) (by omega)]
        unfold hcl at hc
        have hc := of_decide_eq_true hc
        show 0 < 10 * (256 * F (i + 1) + F i)
        omega
    · obtain ⟨e1, e2, e3, e4, e5⟩ := d3 m m0 (by omega)
      have c' := cb (23 + m) (by omega) (by omega)
      rw [c']
      have r' : ∀ j, j < 11 * k → rdt r k i F 153 j = r 153 j := fun j hj => by
        rw [r3, if_neg (by omega)]; unfold rd9; rw [if_neg (by omega)]
      refine ⟨fun j j0 j9 => ?_, e2, ?_, ?_, e5⟩
      · rw [r' _ (by omega)]; exact e1 j j0 j9
      · rw [r' _ (by omega)]; exact e3
      · rw [r' _ (by omega)]; exact e4
  · exact q2.ke (ck _ (by omega)) (cb _ (by omega) (by omega)) (rk _ (by omega)) (rb _ (by omega) (by omega))
  · exact q3.ke (ck _ (by omega)) (cb _ (by omega) (by omega)) (rk _ (by omega)) (rb _ (by omega) (by omega))
  · exact q4.ke (ck _ (by omega)) (cb _ (by omega) (by omega)) (rk _ (by omega)) (rb _ (by omega) (by omega))
  · exact q5.ke (ck _ (by omega)) (rk _ (by omega))
  · exact q6.ke (ck _ (by omega)) (rk _ (by omega))
end RS
