/-! load -/
theorem SX.f9 {c c' : MM} (h : SX c) (k0 : c' 129 0 = c 129 0) (k : ∀ b, ¬ b = 129 → ¬ b = 130 → c' b = c b) : SX c' := by
  obtain ⟨h1, h2, h3⟩ := h
  refine ⟨fun q hq => ?_, fun j j0 j1 => ?_, fun j j0 j1 => ?_⟩
  · rw [← h1 q hq]
    have t : ∀ x ∈ SXl, (x.1 = 129 ∧ x.2.1 = 0) ∨ (¬ x.1 = 129 ∧ ¬ x.1 = 130) := by decide
    rcases t q hq with e | e
    · rw [e.1, e.2]; exact k0
    · rw [k _ e.1 e.2]
  · rw [k _ (by omega) (by omega)]; exact h2 j j0 j1
  · rw [k _ (by omega) (by omega)]; exact h3 j j0 j1
theorem SX.rd {c c' : MM} (h : SX c) (k1 : ∀ b, ¬ (16 ≤ b ∧ b ≤ 44) → c' b = c b) (k2 : ∀ k, k ≤ 4 → c' 16 k = c 16 k) (k3 : c' 17 0 = c 17 0) (k4 : c' 19 = c 19) : SX c' := by
  obtain ⟨h1, h2, h3⟩ := h
  refine ⟨fun q hq => ?_, fun j j0 j1 => ?_, fun j j0 j1 => ?_⟩
  · rw [← h1 q hq]
    have t : ∀ x ∈ SXl, (x.1 = 16 ∧ x.2.1 ≤ 4) ∨ (x.1 = 17 ∧ x.2.1 = 0) ∨ ¬ (16 ≤ x.1 ∧ x.1 ≤ 44) := by decide
    rcases t q hq with e | e | e
    · rw [e.1]; exact k2 _ e.2
    · rw [e.1, e.2]; exact k3
    · rw [k1 _ e]
  · rw [k4]; exact h2 j j0 j1
  · rw [k1 _ (by omega)]; exact h3 j j0 j1
theorem SX.l1 {c : MM} (h : SX c) (n : Int) (p : Int × Int) : SX (ic (L1 c n) p) := by
  obtain ⟨h1, h2, h3⟩ := h
  have kb : ∀ b, ¬ b = 11 → ¬ b = 13 → ¬ b = 14 → ¬ b = 15 → ic (L1 c n) p b = c b := fun b a1 a2 a3 a4 => by rw [ic_b _ _ _ a4, L1_b _ _ _ a1 a2 a3]
  refine ⟨fun q hq => ?_, fun j j0 j1 => ?_, fun j j0 j1 => ?_⟩
  · rw [← h1 q hq]
    have t : ∀ x ∈ SXl, (x.1 = 11 ∧ x.2.1 = 0) ∨ (x.1 = 13 ∧ x.2.1 = 0) ∨ (¬ x.1 = 11 ∧ ¬ x.1 = 13 ∧ ¬ x.1 = 14 ∧ ¬ x.1 = 15) := by decide
    rcases t q hq with e | e | e
    · rw [e.1, e.2, ic_b _ _ _ (by omega), L1_11]; rfl
    · rw [e.1, e.2, ic_b _ _ _ (by omega), L1_13]; rfl
    · rw [kb _ e.1 e.2.1 e.2.2.1 e.2.2.2]
  · rw [kb _ (by omega) (by omega) (by omega) (by omega)]; exact h2 j j0 j1
  · rw [kb _ (by omega) (by omega) (by omega) (by omega)]; exact h3 j j0 j1
theorem SM.kk {r r' : MM} (h : SM r) (k : ∀ k, ¬ (k = 0 ∨ 4 ≤ k ∧ k ≤ 8 ∨ 13 ≤ k ∧ k ≤ 19 ∨ k = 23) → r' 149 k = r 149 k) : SM r' := by
  intro q hq
  have t : ∀ q ∈ SMl, q.1 = 149 ∧ ¬ (q.2.1 = 0 ∨ 4 ≤ q.2.1 ∧ q.2.1 ≤ 8 ∨ 13 ≤ q.2.1 ∧ q.2.1 ≤ 19 ∨ q.2.1 = 23) := by decide
  have t := t q hq
  rw [← h q hq, t.1]; exact k _ t.2
/-- what load leaves of the relations -/
theorem RR.ld {c r c' r' : MM} (h : RR c r) (hX : SX c') (k : ∀ b, ¬ (11 ≤ b ∧ b ≤ 130) → c' b = c b) (q : ∀ b, ¬ (b = 149 ∨ 151 ≤ b ∧ b ≤ 159 ∨ b = 164) → r' b = r b) (qk : ∀ k, ¬ (k = 0 ∨ 4 ≤ k ∧ k ≤ 8 ∨ 13 ≤ k ∧ k ≤ 19 ∨ k = 23) → r' 149 k = r 149 k) (h4 : Rtape c' r') (h5 : Rlat c' r') (h6 : Rscr c' r') (h7 : Rmod c' r') (h12 : Rfg c') (hp : Rpl c') : RR c' r' ∧ FX c c' ∧ FM r r' := by
  obtain ⟨_, a2, a3, _, _, _, _, a8, a9, a10, a11, _, a13, a14⟩ := h
  refine ⟨⟨hX, a2.kk qk, a3.ke (fun a ha => k a (by omega)) (q _ (by omega)) (q _ (by omega)), h4, h5, h6, h7, a8.ke (by rw [k 10 (by omega)]) (qk _ (by omega)), a9.ke (k _ (by omega)) (k _ (by omega)) (k _ (by omega)) (qk _ (by omega)) (qk _ (by omega)) (q _ (by omega)) (q _ (by omega)), a10.ke (k _ (by omega)) (k _ (by omega)) (fun j _ => by rw [k 144 (by omega), k 145 (by omega)]; exact ⟨rfl, rfl⟩) (q _ (by omega)) (q _ (by omega)), a11.ke (fun a ha => k a (by omega)) (q _ (by omega)) (q _ (by omega)), h12, by rw [qk 42 (by omega)]; exact a13, ?_⟩, fun a ha => k a (by omega), fun a ha => q a (by omega)⟩
  unfold Rtx
  rw [k 132 (by omega)]
  exact ⟨a14.1, hp⟩
section LE
variable {L : Int} {c r : MM}
theorem ld_no (n : Int) (h : RR c r) (p : Int × Int) (h0 : 0 ≤ n) (h1 : n ≤ c 11 1) : RR (ic (L1 c n) p) (im (M1 r n) p) ∧ FX c (ic (L1 c n) p) ∧ FM r (im (M1 r n) p) := by
  have kb : ∀ b, ¬ b = 11 → ¬ b = 13 → ¬ b = 14 → ¬ b = 15 → ic (L1 c n) p b = c b := fun b a1 a2 a3 a4 => by rw [ic_b _ _ _ a4, L1_b _ _ _ a1 a2 a3]
  have qb : ∀ b, ¬ b = 149 → ¬ b = 151 → im (M1 r n) p b = r b := fun b a1 a2 => by rw [im_b _ _ _ a1, M1_b _ _ _ a1 a2]
  have qk : ∀ k, ¬ (k = 0 ∨ k = 4 ∨ k = 5 ∨ k = 7 ∨ k = 8) → im (M1 r n) p 149 k = r 149 k := fun k hk => by
    rw [im_k _ _ _ (by omega) (by omega), M1_k, if_neg (by omega), if_neg (by omega), if_neg (by omega)]
  have T := h.2.2.2.1
  refine h.ld (h.1.l1 n p) (fun b hb => kb b (by omega) (by omega) (by omega) (by omega)) (fun b hb => qb b (by omega) (by omega)) (fun k hk => qk k (by omega)) ?_ ?_ (h.2.2.2.2.2.1.ke (fun a ha => kb a (by omega) (by omega) (by omega) (by omega)) (fun a ha => qb a (by omega) (by omega)) (fun k hk => qk k (by omega))) (h.2.2.2.2.2.2.1.ke (fun a ha => kb a (by omega) (by omega) (by omega) (by omega)) (fun a ha => qb a (by omega) (by omega)) (qk _ (by omega))) (h.2.2.2.2.2.2.2.2.2.2.2.1.ke h.2.2.2.2.2.2.1 (fun a ha => kb a (by omega) (by omega) (by omega) (by omega))) ?_
  · unfold Rtape
    rw [ic_b _ _ _ (by omega), L1_11, if_pos rfl, im_k _ _ _ (by omega) (by omega), M1_k]
    exact ⟨rfl, by omega, by omega, fun i i0 i1 => by omega⟩
  · unfold Rlat
    rw [ic_b _ _ 13 (by omega), ic_b _ _ 14 (by omega), L1_13, if_pos rfl, im_k _ _ 5 (by omega) (by omega), M1_k, if_pos rfl, im_b _ _ _ (by omega), ic_0, ic_1, im_7, im_8]
    refine ⟨rfl, h0, by have := T.2.2.1; omega, fun i i0 i1 => ?_, rfl, rfl⟩
    rw [L1_14 _ _ _ i0 i1, M1_v _ _ _ i0 i1]
    exact T.2.2.2 i i0 (by omega)
  · unfold Rpl; rw [kb 46 (by omega) (by omega) (by omega) (by omega)]; exact h.2.2.2.2.2.2.2.2.2.2.2.2.2.2
theorem ld_yes (n B : Int) (h : RR c r) (p : Int × Int) (h0 : n = 128 * B) (B1 : 1 ≤ B) (B4 : B ≤ 4) (h1 : n ≤ c 11 1) (hE : ∀ x, 1 ≤ x → x < B → EX (L1 c n 14) (128 * x)) :
    ∃ c' r' v, ev 100 69 [some (vR 10), some (vI n)] [] (ic (L1 c n) p) (g_1 L) = some (some (vI v), c', g_1 L) ∧ ev 157 86 [some (vR 149), some (vI n), some (vI n)] [] (im (M1 r n) p) (g_1 L) = some (some (vI v), r', g_1 L) ∧ RR c' r' ∧ FX c c' ∧ FM r r' := by
  have T := h.2.2.2.1
  obtain ⟨N, NX, NM⟩ := ld_no n h p (by omega) h1
  have cF : ∀ i, 0 ≤ i → i < n → L1 c n 14 i = r 150 i ∧ 0 ≤ L1 c n 14 i ∧ L1 c n 14 i < 256 := fun i i0 i1 => by
    rw [L1_14 _ _ _ i0 i1]; exact T.2.2.2 i i0 (by omega)
  have v151 : ∀ i, 0 ≤ i → i < n → im (M1 r n) p 151 i = L1 c n 14 i := fun i i0 i1 => by
    rw [im_b _ _ _ (by omega), M1_v _ _ _ i0 i1]; exact (cF i i0 i1).1.symm
  have c14 : ic (L1 c n) p 14 = L1 c n 14 := ic_b _ _ _ (by omega)
  have c131 : ic (L1 c n) p 13 1 = n := by rw [ic_b _ _ _ (by omega), L1_13]; rfl
  have kb : ∀ b, ¬ b = 11 → ¬ b = 13 → ¬ b = 14 → ¬ b = 15 → ic (L1 c n) p b = c b := fun b a1 a2 a3 a4 => by rw [ic_b _ _ _ a4, L1_b _ _ _ a1 a2 a3]
  have qb : ∀ b, ¬ b = 149 → ¬ b = 151 → im (M1 r n) p b = r b := fun b a1 a2 => by rw [im_b _ _ _ a1, M1_b _ _ _ a1 a2]
  have qk : ∀ k, ¬ (k = 0 ∨ k = 4 ∨ k = 5 ∨ k = 7 ∨ k = 8) → im (M1 r n) p 149 k = r 149 k := fun k hk => by
    rw [im_k _ _ _ (by omega) (by omega), M1_k, if_neg (by omega), if_neg (by omega), if_neg (by omega)]
  generalize ic (L1 c n) p = c3 at *
  generalize im (M1 r n) p = r3 at *
  generalize L1 c n 14 = F at *
  have X3 := N.1
  have M3 := N.2.1
  have P88 := lp_88 (L := L) n (by omega) r3 (sm_149_2 M3) (sm_149_3 M3) n.toNat 0 (by omega) (by omega)
  rw [crow_0] at P88
  have r4b : ∀ b, ¬ b = 149 → ¬ b = 152 → mset (crow r3 152 151 n) 149 6 B b = r3 b := fun b a1 a2 => by rw [ms_row _ _ _ _ _ a1, crow_b _ _ _ _ _ a2]
  have r4k : ∀ k, ¬ k = 6 → mset (crow r3 152 151 n) 149 6 B 149 k = r3 149 k := fun k hk => by rw [ms_nk _ _ _ _ _ _ hk, crow_b _ _ _ _ _ (by omega)]
  have r46 : mset (crow r3 152 151 n) 149 6 B 149 6 = B := ms_eq _ _ _ _
  have r4v : ∀ i, 0 ≤ i → i < n → mset (crow r3 152 151 n) 149 6 B 152 i = F i := fun i i0 i1 => by rw [ms_row _ _ _ _ _ (by omega), crow_v _ _ _ _ _ i0 i1]; exact v151 i i0 i1
  have d : mm_div n 128 = B := by rw [nu_div (by omega) (by omega) (by omega) (by omega)]; omega
  have sM : ev 157 86 [some (vR 149), some (vI n), some (vI n)] [] r3 (g_1 L) = (ev 176 0 [some (vR 149), none, none, none, none] [] (mset (crow r3 152 151 n) 149 6 B) (g_1 L)).bind (fun q => ev 157 124 [some (vR 149), some (vI n), some (vI n)] (q.1.toList ++ []) q.2.1 q.2.2) := by
    simp only [xe_157_86, xe_157_87 _ (some (vI _)) _ _ _ _ _ rfl, xe_157_87 _ (some (vR _)) _ _ _ _ _ rfl, xe_157_87 _ none _ _ _ _ _ rfl, ite_self, mm_nL_I, mm_nL_R, mm_nL_0, Option.bind_some, Option.bind_none, bnd_ite, Option.toList_some, Option.toList_none, List.cons_append, List.nil_append, mm_cats_nil, mm_cats_I, mm_cats_L, mm_cats_R, if_true, if_false, true_and, and_true, false_and, and_false, not_true_eq_false, not_false_eq_true, Int.reduceLE, Int.reduceLT, Int.reduceEq, Int.reduceNe, Int.reduceNeg, Int.reduceAdd, Int.reduceSub, Int.reduceMul, Nat.reduceAdd, Nat.reduceLeDiff, true_or, or_true, false_or, or_false, reduceIte, P88]
    simp only [xe_157_111, xe_157_112, xe_157_113, xe_157_116, xe_157_117, xe_157_120, xe_157_121, ite_self, mm_nL_I, mm_nL_R, mm_nL_0, Option.bind_some, Option.bind_none, bnd_ite, Option.toList_some, Option.toList_none, List.cons_append, List.nil_append, mm_cats_nil, mm_cats_I, mm_cats_L, mm_cats_R, if_true, if_false, true_and, and_true, false_and, and_false, not_true_eq_false, not_false_eq_true, Int.reduceLE, Int.reduceLT, Int.reduceEq, Int.reduceNe, Int.reduceNeg, Int.reduceAdd, Int.reduceSub, Int.reduceMul, Nat.reduceAdd, Nat.reduceLeDiff, true_or, or_true, false_or, or_false, reduceIte, k_149, d]
  generalize mset (crow r3 152 151 n) 149 6 B = r4 at *
  have M4 : SM r4 := M3.kk (fun k hk => r4k k (by omega))
  obtain ⟨c5, r5, s1, s2, s3, s4, s5, s6, s7, s8, s9, s10, s11, s12, s13, s14, s15⟩ := st_read (L := L) (F := F) X3 M4 B h0 B1 B4 c131 (fun i i0 i1 => ⟨by rw [c14], r4v i i0 i1, (cF i i0 i1).2⟩) r46 hE
  have X5 : SX c5 := X3.rd s10 s11 s12 s13
  have M5 : SM r5 := M4.kk (fun k hk => s15 k (by omega))
  have T5 : Rtb c5 r5 := h.2.2.1.ke (fun a ha => by rw [s10 a (by omega), kb a (by omega) (by omega) (by omega) (by omega)]) (by rw [s14 _ (by omega), r4b _ (by omega) (by omega), qb _ (by omega) (by omega)]) (by rw [s14 _ (by omega), r4b _ (by omega) (by omega), qb _ (by omega) (by omega)])
  have p5 : Rpl c5 := by unfold Rpl; rw [s10 46 (by omega), kb 46 (by omega) (by omega) (by omega) (by omega)]; exact h.2.2.2.2.2.2.2.2.2.2.2.2.2.2
  obtain ⟨c6, r6, t1, t2, t3, t4, t5, t6⟩ := st_col (L := L) X5 M5 s7 s8 (by omega) s3 T5 s5 s6 s4 p5
  have X6 := X5.g t5
  have e16 : c6 16 = c5 16 := t5.1 16 (by omega)
  have e21 : c6 21 = c5 21 := t5.1 21 (by omega)
  have e22 : c6 22 = c5 22 := t5.1 22 (by omega)
  have e18 : c6 18 = c5 18 := t5.1 18 (by omega)
  have e17 : c6 17 = c5 17 := t5.1 17 (by omega)
  have B6 : XB c6 n (c6 18) := by
    obtain ⟨y1, y2, y3, y4⟩ := s7.1
    refine ⟨by rw [e17]; exact y1, by rw [e17]; exact y2, y3, fun i i0 i1 => ⟨rfl, ?_⟩⟩
    rw [e18, (y4 i i0 i1).1]; exact (y4 i i0 i1).2
  obtain ⟨q1, q2, q3, q4, q5, q6⟩ := s3
  obtain ⟨c7, m1, m2, m3, m4, m5⟩ := s_make (L := L) X6 B6 (by omega) t3.2.1 t3.2.2.1 (fun i i0 i1 => by
      obtain ⟨u, o1, u0, u1, _, _, _, o2⟩ := t3.2.2.2.2 i i0 i1
      exact ⟨u, o1, u0, u1, o2⟩) (by rw [e16]; exact q2.2.1) (by rw [e16]; exact q2.2.2.1) (by rw [e16, e21]; exact fun k k0 k1 => (q2.2.2.2 k k0 k1).2) (by rw [e16]; exact q3.2.1) (by rw [e16, e22]; exact fun a k k0 k1 => (q3.2.2 a).1 k k0 k1)
  have X7 := X6.f9 m3 m5
  -- frames
  have K : ∀ b, ¬ (45 ≤ b ∧ b ≤ 130) → c7 b = c5 b := fun b hb => by rw [m5 b (by omega) (by omega), t5.1 b (by omega)]
  have K7 : ∀ b, ¬ (16 ≤ b ∧ b ≤ 130) → c7 b = c3 b := fun b hb => by rw [K b (by omega), s10 b (by omega)]
  have Q6 : ∀ b, ¬ (b = 149 ∨ 152 ≤ b ∧ b ≤ 159 ∨ b = 164) → r6 b = r3 b := fun b hb => by rw [t6.1 b (by omega), s14 b (by omega), r4b b (by omega) (by omega)]
  have Qk : ∀ k, ¬ (k = 6 ∨ 13 ≤ k ∧ k ≤ 19 ∨ k = 23) → r6 149 k = r3 149 k := fun k hk => by rw [t6.2 k (by omega), s15 k (by omega), r4k k (by omega)]
  have R5 : ∀ k, ¬ k = 23 → r6 149 k = r5 149 k := fun k hk => t6.2 k hk
  have Q5 : ∀ b, 150 ≤ b → b ≤ 156 → r6 b = r5 b := fun b b0 b1 => t6.1 b (by omega)
  have Rm7 : Rmod c7 r6 := t3.ke (fun a ha => m5 a (by omega) (by omega)) (fun a ha => rfl) rfl
  refine ⟨c7, r6, c7 45 4, ?_, ?_, h.ld X7 (fun b hb => by rw [K7 b (by omega), kb b (by omega) (by omega) (by omega) (by omega)]) (fun b hb => by rw [Q6 b (by omega), qb b (by omega) (by omega)]) (fun k hk => by rw [Qk k (by omega), qk k (by omega)]) (N.2.2.2.1.ke (K7 _ (by omega)) (K7 _ (by omega)) (Qk _ (by omega)) (Q6 _ (by omega))) (N.2.2.2.2.1.ke (K7 _ (by omega)) (K7 _ (by omega)) (K7 _ (by omega)) (Qk _ (by omega)) (Q6 _ (by omega)) (Qk _ (by omega)) (Qk _ (by omega))) ?_ Rm7 ?_ ?_⟩
  · have g10 : ∀ d : MM, d 10 = c3 10 → d 10 = c3 10 := fun _ q => q
    have a5 : c5 10 = c3 10 := s10 10 (by omega)
    have a6 : c6 10 = c3 10 := by rw [t5.1 10 (by omega)]; exact a5
    have a7 : c7 10 = c3 10 := by rw [m5 10 (by omega) (by omega)]; exact a6
    simp only [xe_100_69, xe_100_70, xe_100_73, xe_100_74, xe_100_77, xe_100_80, xe_100_81, xe_100_84, xe_100_85, xe_100_88, xe_100_91, xe_100_92, xe_100_95, xe_100_96, xe_100_99, xe_100_100, xe_100_103, xe_100_106, xe_100_107, xe_100_110, xe_100_113, ite_self, mm_nL_I, mm_nL_R, mm_nL_0, Option.bind_some, Option.bind_none, bnd_ite, Option.toList_some, Option.toList_none, List.cons_append, List.nil_append, mm_cats_nil, mm_cats_I, mm_cats_L, mm_cats_R, if_true, if_false, true_and, and_true, false_and, and_false, not_true_eq_false, not_false_eq_true, Int.reduceLE, Int.reduceLT, Int.reduceEq, Int.reduceNe, Int.reduceNeg, Int.reduceAdd, Int.reduceSub, Int.reduceMul, Nat.reduceAdd, Nat.reduceLeDiff, true_or, or_true, false_or, or_false, reduceIte, k_10, k_13, k_16, k_45, k_129, sx_10_1 X3, sx_10_3 X3, sx_10_4 X3, sx_10_5 X3, s1, a5, t1, a6, m1, a7]
  · have E : r6 149 23 = c7 45 4 := Rm7.1.symm
    have rd : ev 176 0 [some (vR 149), none, none, none, none] [] r4 (g_1 L) = some (none, r6, g_1 L) := by
      simp only [xe_176_0, xe_176_1, ite_self, mm_nL_I, mm_nL_R, mm_nL_0, Option.bind_some, Option.bind_none, bnd_ite, Option.toList_some, Option.toList_none, List.cons_append, List.nil_append, mm_cats_nil, mm_cats_I, mm_cats_L, mm_cats_R, if_true, if_false, true_and, and_true, false_and, and_false, not_true_eq_false, not_false_eq_true, Int.reduceLE, Int.reduceLT, Int.reduceEq, Int.reduceNe, Int.reduceNeg, Int.reduceAdd, Int.reduceSub, Int.reduceMul, Nat.reduceAdd, Nat.reduceLeDiff, true_or, or_true, false_or, or_false, reduceIte, k_149, s2, t2]
    rw [sM, rd]
    simp only [xe_157_124, xe_157_125, xe_157_128, ite_self, mm_nL_I, mm_nL_R, mm_nL_0, Option.bind_some, Option.bind_none, bnd_ite, Option.toList_some, Option.toList_none, List.cons_append, List.nil_append, mm_cats_nil, mm_cats_I, mm_cats_L, mm_cats_R, if_true, if_false, true_and, and_true, false_and, and_false, not_true_eq_false, not_false_eq_true, Int.reduceLE, Int.reduceLT, Int.reduceEq, Int.reduceNe, Int.reduceNeg, Int.reduceAdd, Int.reduceSub, Int.reduceMul, Nat.reduceAdd, Nat.reduceLeDiff, true_or, or_true, false_or, or_false, reduceIte, k_149, E]
  · have k16 : c7 16 = c5 16 := K 16 (by omega)
    unfold Rscr
    rw [k16, K 17 (by omega), K 18 (by omega), K 21 (by omega), K 22 (by omega), R5 6 (by omega), R5 13 (by omega), R5 14 (by omega), R5 15 (by omega), R5 16 (by omega), R5 17 (by omega), R5 18 (by omega), R5 19 (by omega), Q5 152 (by omega) (by omega), Q5 153 (by omega) (by omega), Q5 154 (by omega) (by omega), Q5 155 (by omega) (by omega)]
    have b6 : r5 149 6 = B := by rw [s15 6 (by omega)]; exact r46
    obtain ⟨y1, y2, y3, y4⟩ := s7.1
    refine ⟨by rw [s9, b6], by omega, by omega, by rw [y2, s9]; exact h0, fun i i0 i1 => ?_, ⟨q1.1, q1.2.1, s5, s4, fun k k0 k1 => ?_⟩, ⟨q2.1, q2.2.1, q2.2.2.1, fun k k0 k1 => (q2.2.2.2 k k0 k1).1⟩, q3, q4.1, q5.1, q6⟩
    · have i2 : i < n := by rw [h0, ← s9]; exact i1
      rw [(y4 i i0 i2).1, (s8.1.2.2 i i0 i2).1]
      exact ⟨rfl, (y4 i i0 i2).2⟩
    · have t := q1.2.2 k k0 k1
      rw [K (23 + k) (by omega)]
      exact ⟨t.1, t.2.1, t.2.2.1, t.2.2.2.1⟩
  · intro _
    refine ⟨m2, fun i i0 i1 => ?_, by rw [K 16 (by omega), K 21 (by omega)]; exact fun k k0 k1 => (q2.2.2.2 k k0 k1).2⟩
    rw [m4 i i0 i1]
    unfold fgc
    rw [m5 18 (by omega) (by omega), m5 45 (by omega) (by omega), m5 16 (by omega) (by omega), m5 21 (by omega) (by omega), m5 22 (by omega) (by omega), m5 46 (by omega) (by omega)]
    refine fgb_cg _ _ _ rfl (fun d d0 d1 d2 => ?_) rfl rfl i
    obtain ⟨u, o1, u0, u3, _⟩ := t3.2.2.2.2 d d0 d1
    rw [m5 _ (by omega) (by omega)]
  · unfold Rpl; rw [m5 46 (by omega) (by omega)]; exact t4
theorem c_load (n : Int) (h : RR c r) : CALL L 100 [some (vR 10), some (vI n)] 157 [some (vR 149), some (vI n), none] c r := by
  have T := h.2.2.2.1
  by_cases a : 0 ≤ n ∧ n ≤ c 11 1
  · have X := ld_X (L := L) n h.1 a.1 a.2 T.2.2.1 (fun i i0 i1 => (T.2.2.2 i i0 i1).2)
    have M := ld_M (L := L) (L1 c n 14) n h.2.1 a.1 (by rw [← T.1]; exact a.2) (by rw [← T.1]; exact T.2.2.1) (fun i i0 i1 => by
      rw [L1_14 _ _ _ i0 i1]; have := T.2.2.2 i i0 (by omega); exact ⟨this.1.symm, this.2⟩)
    by_cases e : (ins (L1 c n 14) n).1 = 0
    · rw [if_pos e] at X M
      have cnd : n % 128 = 0 ∧ 1 ≤ n / 128 ∧ n / 128 ≤ 4 := by
        by_cases q : n % 128 = 0 ∧ 1 ≤ n / 128 ∧ n / 128 ≤ 4
        · exact q
        · unfold ins at e
          rw [if_neg q] at e
          exact absurd e (by show ¬ (1 : Int) = 0; omega)
      have hE : ∀ x, 1 ≤ x → x < n / 128 → EX (L1 c n 14) (128 * x) := by
        have e' := e
        unfold ins at e'
        rw [if_pos cnd] at e'
        have := (exs_0 _ _ _ e').2
        exact fun x x0 x1 => this x x0 (by omega)
      obtain ⟨c', r', v, w1, w2, w3⟩ := ld_yes (L := L) n (n / 128) h (ins (L1 c n 14) n) (by omega) cnd.2.1 cnd.2.2 a.2 hE
      exact ⟨v, c', r', X.trans w1, M.trans w2, w3⟩
    · rw [if_neg e] at X M
      exact ⟨_, _, _, X, M, ld_no n h _ a.1 a.2⟩
  · have b4 : mset r 149 0 0 149 4 = c 11 1 := by rw [ms_nk _ _ _ _ _ _ (by omega)]; exact T.1.symm
    refine CALL.ask h (-3) ?_ ?_
    · by_cases l : n < 0
      · simp only [xe_100_0, xe_100_1, xe_100_4, xe_100_5, xe_100_6, xe_100_9, xe_100_12, xe_100_15, xe_100_17, xe_100_18, xe_100_19, xe_100_22, xe_100_23, xe_100_26, xe_100_27, xe_100_30, xe_100_31, xe_100_34, xe_100_37, xe_100_38, xe_100_41, xe_100_42, xe_100_45, xe_100_48, xe_100_49, xe_100_52, xe_100_55, xe_100_58, xe_100_60, xe_100_61, xe_100_64, xe_100_67, xe_100_68, xe_100_69, xe_100_70, xe_100_73, xe_100_74, xe_100_77, xe_100_80, xe_100_81, xe_100_84, xe_100_85, xe_100_88, xe_100_91, xe_100_92, xe_100_95, xe_100_96, xe_100_99, xe_100_100, xe_100_103, xe_100_106, xe_100_107, xe_100_110, xe_100_113, ite_self, mm_nL_I, mm_nL_R, mm_nL_0, Option.bind_some, Option.bind_none, bnd_ite, Option.toList_some, Option.toList_none, List.cons_append, List.nil_append, mm_cats_nil, mm_cats_I, mm_cats_L, mm_cats_R, if_true, if_false, true_and, and_true, false_and, and_false, not_true_eq_false, not_false_eq_true, Int.reduceLE, Int.reduceLT, Int.reduceEq, Int.reduceNe, Int.reduceNeg, Int.reduceAdd, Int.reduceSub, Int.reduceMul, Nat.reduceAdd, Nat.reduceLeDiff, true_or, or_true, false_or, or_false, reduceIte, k_10, k_11, sx_10_0 h.1, l]
      · have g : ¬ n ≤ c 11 1 := fun q => a ⟨by omega, q⟩
        simp only [xe_100_0, xe_100_1, xe_100_4, xe_100_5, xe_100_6, xe_100_9, xe_100_12, xe_100_15, xe_100_17, xe_100_18, xe_100_19, xe_100_22, xe_100_23, xe_100_26, xe_100_27, xe_100_30, xe_100_31, xe_100_34, xe_100_37, xe_100_38, xe_100_41, xe_100_42, xe_100_45, xe_100_48, xe_100_49, xe_100_52, xe_100_55, xe_100_58, xe_100_60, xe_100_61, xe_100_64, xe_100_67, xe_100_68, xe_100_69, xe_100_70, xe_100_73, xe_100_74, xe_100_77, xe_100_80, xe_100_81, xe_100_84, xe_100_85, xe_100_88, xe_100_91, xe_100_92, xe_100_95, xe_100_96, xe_100_99, xe_100_100, xe_100_103, xe_100_106, xe_100_107, xe_100_110, xe_100_113, ite_self, mm_nL_I, mm_nL_R, mm_nL_0, Option.bind_some, Option.bind_none, bnd_ite, Option.toList_some, Option.toList_none, List.cons_append, List.nil_append, mm_cats_nil, mm_cats_I, mm_cats_L, mm_cats_R, if_true, if_false, true_and, and_true, false_and, and_false, not_true_eq_false, not_false_eq_true, Int.reduceLE, Int.reduceLT, Int.reduceEq, Int.reduceNe, Int.reduceNeg, Int.reduceAdd, Int.reduceSub, Int.reduceMul, Nat.reduceAdd, Nat.reduceLeDiff, true_or, or_true, false_or, or_false, reduceIte, k_10, k_11, sx_10_0 h.1, l, g]
    · simp only [xe_157_0, xe_157_1, xe_157_2, xe_157_5, xe_157_6, xe_157_7, xe_157_8, xe_157_9, xe_157_12, xe_157_13, xe_157_16, xe_157_19, xe_157_21, xe_157_22, xe_157_23, xe_157_24, xe_157_27, xe_157_28, xe_157_29, xe_157_32, xe_157_33 _ (some (vI _)) _ _ _ _ _ rfl, xe_157_33 _ (some (vR _)) _ _ _ _ _ rfl, xe_157_33 _ none _ _ _ _ _ rfl, ite_self, mm_nL_I, mm_nL_R, mm_nL_0, Option.bind_some, Option.bind_none, bnd_ite, Option.toList_some, Option.toList_none, List.cons_append, List.nil_append, mm_cats_nil, mm_cats_I, mm_cats_L, mm_cats_R, if_true, if_false, true_and, and_true, false_and, and_false, not_true_eq_false, not_false_eq_true, Int.reduceLE, Int.reduceLT, Int.reduceEq, Int.reduceNe, Int.reduceNeg, Int.reduceAdd, Int.reduceSub, Int.reduceMul, Nat.reduceAdd, Nat.reduceLeDiff, true_or, or_true, false_or, or_false, reduceIte, k_149, s_isIn, bi, b4, a]
end LE
