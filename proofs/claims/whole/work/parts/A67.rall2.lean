/-! load: all that is read, on both sides -/
section RA
variable {L n : Int} {F : Int → Int}
theorem xl_s {s e : Int} {m : Nat} {h : Int} {p : Int × Int} (hp : p.1 = 0) (H : (xl F s e (m + 1) h p).1 = 0) (g : ¬ e ≤ h) : h + 1 + F (s + h) % 32 ≤ e ∧ (xl F s e m (h + 1 + F (s + h) % 32) p).1 = 0 := by
  simp only [xl] at H
  rw [if_neg g] at H
  by_cases q : h + 1 + F (s + h) % 32 ≤ e
  · rw [if_pos q] at H; exact ⟨q, H⟩
  · rw [if_neg q] at H
    have z : ¬ (nt p 7 (s + h)).1 = 0 := by unfold nt; rw [if_pos hp]; show ¬ (7 : Int) = 0; omega
    rw [xl_n _ _ _ _ _ _ z] at H
    exact absurd H z
theorem dt_lp (s e : Int) (b : Int) (s0 : 0 ≤ s) (s1 : s + 128 ≤ n) (e1 : e ≤ 127) (K J : Int) (K3 : K + 123 ≤ 384) (J0 : J ≤ 10000) : ∀ (m : Nat) (h : Int) (p : Int × Int) (c r : MM) (y4 y5 y6 : Option MV), p.1 = 0 → (xl F s e m h p).1 = 0 → 4 ≤ h → e ≤ h + m → h ≤ 127 → PX c n F → PM r n F → Rq c r → c 16 8 + 4 ≤ K + h → c 16 10 ≤ J + 10 * h →
    ∃ c' r' h', ev 48 2 [some (vR 16), some (vI s), some (vI e), some (vI h), y4, y5, y6] [] c (g_1 L) = some (none, c', g_1 L) ∧ ev 166 101 [some (vR 149), some (vI b), some (vI s), some (vI e), some (vI h)] [] r (g_1 L) = ev 166 147 [some (vR 149), some (vI b), some (vI s), some (vI e), some (vI h')] [] r' (g_1 L) ∧ Rq c' r' ∧ fC c c' ∧ fR r r' ∧ c' 16 6 = c 16 6 ∧ c' 16 8 ≤ K + 127 ∧ c' 16 10 ≤ J + 2000 := by
  intro m
  induction m with
  | zero =>
    intro h p c r y4 y5 y6 hp H h0 he h1 hX hM hR hK hJ
    have g : e ≤ h := by omega
    refine ⟨c, r, h, ?_, ?_, hR, fC.rf c, fR.rf r, rfl, by omega, by omega⟩
    · simp only [xe_48_2, xe_48_3, xe_48_4, xe_48_111, ite_self, mm_nL_I, mm_nL_R, mm_nL_0, Option.bind_some, Option.bind_none, bnd_ite, Option.toList_some, Option.toList_none, List.cons_append, List.nil_append, mm_cats_nil, mm_cats_I, mm_cats_L, mm_cats_R, if_true, if_false, true_and, and_true, false_and, and_false, not_true_eq_false, not_false_eq_true, Int.reduceLE, Int.reduceLT, Int.reduceEq, Int.reduceNe, Int.reduceNeg, Int.reduceAdd, Int.reduceSub, Int.reduceMul, Nat.reduceAdd, Nat.reduceLeDiff, true_or, or_true, false_or, or_false, reduceIte, g]
    · simp only [xe_166_101, xe_166_103, xe_166_104, ite_self, mm_nL_I, mm_nL_R, mm_nL_0, Option.bind_some, Option.bind_none, bnd_ite, Option.toList_some, Option.toList_none, List.cons_append, List.nil_append, mm_cats_nil, mm_cats_I, mm_cats_L, mm_cats_R, if_true, if_false, true_and, and_true, false_and, and_false, not_true_eq_false, not_false_eq_true, Int.reduceLE, Int.reduceLT, Int.reduceEq, Int.reduceNe, Int.reduceNeg, Int.reduceAdd, Int.reduceSub, Int.reduceMul, Nat.reduceAdd, Nat.reduceLeDiff, true_or, or_true, false_or, or_false, reduceIte, g]
  | succ m ih =>
    intro h p c r y4 y5 y6 hp H h0 he h1 hX hM hR hK hJ
    by_cases g : e ≤ h
    · refine ⟨c, r, h, ?_, ?_, hR, fC.rf c, fR.rf r, rfl, by omega, by omega⟩
      · simp only [xe_48_2, xe_48_3, xe_48_4, xe_48_111, ite_self, mm_nL_I, mm_nL_R, mm_nL_0, Option.bind_some, Option.bind_none, bnd_ite, Option.toList_some, Option.toList_none, List.cons_append, List.nil_append, mm_cats_nil, mm_cats_I, mm_cats_L, mm_cats_R, if_true, if_false, true_and, and_true, false_and, and_false, not_true_eq_false, not_false_eq_true, Int.reduceLE, Int.reduceLT, Int.reduceEq, Int.reduceNe, Int.reduceNeg, Int.reduceAdd, Int.reduceSub, Int.reduceMul, Nat.reduceAdd, Nat.reduceLeDiff, true_or, or_true, false_or, or_false, reduceIte, g]
      · simp only [xe_166_101, xe_166_103, xe_166_104, ite_self, mm_nL_I, mm_nL_R, mm_nL_0, Option.bind_some, Option.bind_none, bnd_ite, Option.toList_some, Option.toList_none, List.cons_append, List.nil_append, mm_cats_nil, mm_cats_I, mm_cats_L, mm_cats_R, if_true, if_false, true_and, and_true, false_and, and_false, not_true_eq_false, not_false_eq_true, Int.reduceLE, Int.reduceLT, Int.reduceEq, Int.reduceNe, Int.reduceNeg, Int.reduceAdd, Int.reduceSub, Int.reduceMul, Nat.reduceAdd, Nat.reduceLeDiff, true_or, or_true, false_or, or_false, reduceIte, g]
    · obtain ⟨nx, H'⟩ := xl_s hp H g
      have n5 := hX.1.2.2.1
      have bv := (hX.1.2.2.2 (s + h) (by omega) (by omega)).2
      obtain ⟨c1, r1, z4, z5, z6, u1, u2, u3, u4, u5, u6, u7, u8⟩ := st_data (L := L) hX hM hR s e h y4 y5 y6 s0 s1 h0 (by omega) e1 nx (by omega) (by omega)
      obtain ⟨c2, r2, h', v1, v2, v3, v4, v5, v6, v7, v8⟩ := ih (h + 1 + F (s + h) % 32) p c1 r1 z4 z5 z6 hp H' (by omega) (by omega) (by omega) (hX.f u4) (hM.f u5) u3 (by omega) (by omega)
      refine ⟨c2, r2, h', by rw [u1]; exact v1, ?_, v3, u4.tr v4, u5.tr v5, by rw [v6, u6], v7, v8⟩
      rw [← v2]
      have A := pm_at (L := L) hM (s + h) (by omega) (by omega)
      have A1 := pm_at (L := L) (hM.f u5) (s + h) (by omega) (by omega)
      have w1 : w32 (s + h) = s + h := wi32 (by omega) (by omega)
      have d : mm_rem (F (s + h)) 32 = F (s + h) % 32 := nu_rem bv.1 (by omega) (by omega) (by omega)
      have w2 : w32 (1 + F (s + h) % 32) = 1 + F (s + h) % 32 := wi32 (by omega) (by omega)
      have w3 : w32 (h + (1 + F (s + h) % 32)) = h + 1 + F (s + h) % 32 := by rw [wi32 (by omega) (by omega)]; omega
      rw [xe_166_101]
      simp only [xe_166_103, xe_166_104, xe_166_107, xe_166_108, xe_166_109, xe_166_111, xe_166_112, xe_166_113, xe_166_114, xe_166_116, xe_166_117, xe_166_120, xe_166_122, xe_166_123, xe_166_126, xe_166_128, xe_166_129, xe_166_130, xe_166_131, xe_166_133, xe_166_134, xe_166_137, xe_166_139, xe_166_140, xe_166_141, xe_166_142 _ _ _ (some (vI _)) _ _ _ _ _ rfl, xe_166_142 _ _ _ (some (vR _)) _ _ _ _ _ rfl, xe_166_142 _ _ _ none _ _ _ _ _ rfl, xe_166_144, ite_self, mm_nL_I, mm_nL_R, mm_nL_0, Option.bind_some, Option.bind_none, bnd_ite, Option.toList_some, Option.toList_none, List.cons_append, List.nil_append, mm_cats_nil, mm_cats_I, mm_cats_L, mm_cats_R, if_true, if_false, true_and, and_true, false_and, and_false, not_true_eq_false, not_false_eq_true, Int.reduceLE, Int.reduceLT, Int.reduceEq, Int.reduceNe, Int.reduceNeg, Int.reduceAdd, Int.reduceSub, Int.reduceMul, Nat.reduceAdd, Nat.reduceLeDiff, true_or, or_true, false_or, or_false, reduceIte, k_149, A, A1, u2, d, w1, w2, w3, g]
theorem de_lp (s e : Int) (b : Int) (s0 : 0 ≤ s) (s1 : s + 128 ≤ n) (K : Int) (K3 : K ≤ 16) : ∀ (m : Nat) (a : Int) (c r : MM), 4 ≤ a → 110 ≤ a + 18 * m → a ≤ 127 → PX c n F → PM r n F → Rq c r → 18 * (c 16 6 - K) ≤ a - 4 →
    ∃ c' r' a', ev 51 7 [some (vR 16), some (vI s), some (vI e), some (vI a)] [] c (g_1 L) = some (none, c', g_1 L) ∧ ev 166 157 [some (vR 149), some (vI b), some (vI s), some (vI e), some (vI a)] [] r (g_1 L) = ev 166 192 [some (vR 149), some (vI b), some (vI s), some (vI e), some (vI a')] [] r' (g_1 L) ∧ Rq c' r' ∧ fC c c' ∧ fR r r' ∧ c' 16 6 ≤ K + 6 ∧ (∀ k, ¬ k = 6 → c' 16 k = c 16 k) := by
  intro m
  induction m with
  | zero =>
    intro a c r a0 a1 a2 hX hM hR hK
    have w : w32 (a + 18) = a + 18 := wi32 (by omega) (by omega)
    have g : 127 < a + 18 := by omega
    refine ⟨c, r, a, ?_, ?_, hR, fC.rf c, fR.rf r, by omega, fun _ _ => rfl⟩
    · simp only [xe_51_7, xe_51_8, xe_51_10, xe_51_11, xe_51_13, xe_51_42, ite_self, mm_nL_I, mm_nL_R, mm_nL_0, Option.bind_some, Option.bind_none, bnd_ite, Option.toList_some, Option.toList_none, List.cons_append, List.nil_append, mm_cats_nil, mm_cats_I, mm_cats_L, mm_cats_R, if_true, if_false, true_and, and_true, false_and, and_false, not_true_eq_false, not_false_eq_true, Int.reduceLE, Int.reduceLT, Int.reduceEq, Int.reduceNe, Int.reduceNeg, Int.reduceAdd, Int.reduceSub, Int.reduceMul, Nat.reduceAdd, Nat.reduceLeDiff, true_or, or_true, false_or, or_false, reduceIte, w, g]
    · simp only [xe_166_157, xe_166_159, xe_166_161, xe_166_162, xe_166_164, ite_self, mm_nL_I, mm_nL_R, mm_nL_0, Option.bind_some, Option.bind_none, bnd_ite, Option.toList_some, Option.toList_none, List.cons_append, List.nil_append, mm_cats_nil, mm_cats_I, mm_cats_L, mm_cats_R, if_true, if_false, true_and, and_true, false_and, and_false, not_true_eq_false, not_false_eq_true, Int.reduceLE, Int.reduceLT, Int.reduceEq, Int.reduceNe, Int.reduceNeg, Int.reduceAdd, Int.reduceSub, Int.reduceMul, Nat.reduceAdd, Nat.reduceLeDiff, true_or, or_true, false_or, or_false, reduceIte, w, g]
  | succ m ih =>
    intro a c r a0 a1 a2 hX hM hR hK
    have w : w32 (a + 18) = a + 18 := wi32 (by omega) (by omega)
    by_cases g : 127 < a + 18
    · refine ⟨c, r, a, ?_, ?_, hR, fC.rf c, fR.rf r, by omega, fun _ _ => rfl⟩
      · simp only [xe_51_7, xe_51_8, xe_51_10, xe_51_11, xe_51_13, xe_51_42, ite_self, mm_nL_I, mm_nL_R, mm_nL_0, Option.bind_some, Option.bind_none, bnd_ite, Option.toList_some, Option.toList_none, List.cons_append, List.nil_append, mm_cats_nil, mm_cats_I, mm_cats_L, mm_cats_R, if_true, if_false, true_and, and_true, false_and, and_false, not_true_eq_false, not_false_eq_true, Int.reduceLE, Int.reduceLT, Int.reduceEq, Int.reduceNe, Int.reduceNeg, Int.reduceAdd, Int.reduceSub, Int.reduceMul, Nat.reduceAdd, Nat.reduceLeDiff, true_or, or_true, false_or, or_false, reduceIte, w, g]
      · simp only [xe_166_157, xe_166_159, xe_166_161, xe_166_162, xe_166_164, ite_self, mm_nL_I, mm_nL_R, mm_nL_0, Option.bind_some, Option.bind_none, bnd_ite, Option.toList_some, Option.toList_none, List.cons_append, List.nil_append, mm_cats_nil, mm_cats_I, mm_cats_L, mm_cats_R, if_true, if_false, true_and, and_true, false_and, and_false, not_true_eq_false, not_false_eq_true, Int.reduceLE, Int.reduceLT, Int.reduceEq, Int.reduceNe, Int.reduceNeg, Int.reduceAdd, Int.reduceSub, Int.reduceMul, Nat.reduceAdd, Nat.reduceLeDiff, true_or, or_true, false_or, or_false, reduceIte, w, g]
    · have n5 := hX.1.2.2.1
      have w1 : w32 (s + a) = s + a := wi32 (by omega) (by omega)
      have HX := s_hasC (L := L) hX (s + a) (by omega) (by omega)
      have HM := s_isDe (L := L) hM (s + a) (by omega) (by omega)
      cases hc : hcl F (s + a)
      · rw [if_neg (by rw [hc]; decide)] at HX HM
        refine ⟨c, r, a, ?_, ?_, hR, fC.rf c, fR.rf r, by omega, fun _ _ => rfl⟩
        · rw [xe_51_7]
          simp only [xe_51_8, xe_51_10, xe_51_11, xe_51_13, xe_51_16, xe_51_17, xe_51_18, xe_51_19, xe_51_20, xe_51_23, xe_51_26, xe_51_29, xe_51_30, xe_51_31, xe_51_32, xe_51_33, xe_51_36 _ _ (some (vI _)) _ _ _ _ rfl, xe_51_36 _ _ (some (vR _)) _ _ _ _ rfl, xe_51_36 _ _ none _ _ _ _ rfl, xe_51_39, xe_51_42, ite_self, mm_nL_I, mm_nL_R, mm_nL_0, Option.bind_some, Option.bind_none, bnd_ite, Option.toList_some, Option.toList_none, List.cons_append, List.nil_append, mm_cats_nil, mm_cats_I, mm_cats_L, mm_cats_R, if_true, if_false, true_and, and_true, false_and, and_false, not_true_eq_false, not_false_eq_true, Int.reduceLE, Int.reduceLT, Int.reduceEq, Int.reduceNe, Int.reduceNeg, Int.reduceAdd, Int.reduceSub, Int.reduceMul, Nat.reduceAdd, Nat.reduceLeDiff, true_or, or_true, false_or, or_false, reduceIte, k_16, w, w1, g, HX]
        · rw [xe_166_157]
          simp only [xe_166_159, xe_166_161, xe_166_162, xe_166_164, xe_166_167, xe_166_168, xe_166_169, xe_166_171, xe_166_172, xe_166_175, xe_166_178, xe_166_179, xe_166_180, xe_166_182, xe_166_183, xe_166_186 _ _ _ (some (vI _)) _ _ _ _ rfl, xe_166_186 _ _ _ (some (vR _)) _ _ _ _ rfl, xe_166_186 _ _ _ none _ _ _ _ rfl, xe_166_189, ite_self, mm_nL_I, mm_nL_R, mm_nL_0, Option.bind_some, Option.bind_none, bnd_ite, Option.toList_some, Option.toList_none, List.cons_append, List.nil_append, mm_cats_nil, mm_cats_I, mm_cats_L, mm_cats_R, if_true, if_false, true_and, and_true, false_and, and_false, not_true_eq_false, not_false_eq_true, Int.reduceLE, Int.reduceLT, Int.reduceEq, Int.reduceNe, Int.reduceNeg, Int.reduceAdd, Int.reduceSub, Int.reduceMul, Nat.reduceAdd, Nat.reduceLeDiff, true_or, or_true, false_or, or_false, reduceIte, k_149, w, w1, g, HM]
      · rw [if_pos hc] at HX HM
        obtain ⟨c1, r1, u1, u2, u3, u4, u5, u6, u7⟩ := st_det (L := L) hX hM hR (s + a) (by omega) (by omega) (by omega) hc
        obtain ⟨c2, r2, a', v1, v2, v3, v4, v5, v6, v7⟩ := ih (a + 18) c1 r1 (by omega) (by omega) (by omega) (hX.f u4) (hM.f u5) u3 (by omega)
        refine ⟨c2, r2, a', ?_, ?_, v3, u4.tr v4, u5.tr v5, v6, fun k hk => by rw [v7 k hk, u7 k hk]⟩
        · rw [← v1, xe_51_7]
          simp only [xe_51_8, xe_51_10, xe_51_11, xe_51_13, xe_51_16, xe_51_17, xe_51_18, xe_51_19, xe_51_20, xe_51_23, xe_51_26, xe_51_29, xe_51_30, xe_51_31, xe_51_32, xe_51_33, xe_51_36 _ _ (some (vI _)) _ _ _ _ rfl, xe_51_36 _ _ (some (vR _)) _ _ _ _ rfl, xe_51_36 _ _ none _ _ _ _ rfl, xe_51_39, xe_51_42, ite_self, mm_nL_I, mm_nL_R, mm_nL_0, Option.bind_some, Option.bind_none, bnd_ite, Option.toList_some, Option.toList_none, List.cons_append, List.nil_append, mm_cats_nil, mm_cats_I, mm_cats_L, mm_cats_R, if_true, if_false, true_and, and_true, false_and, and_false, not_true_eq_false, not_false_eq_true, Int.reduceLE, Int.reduceLT, Int.reduceEq, Int.reduceNe, Int.reduceNeg, Int.reduceAdd, Int.reduceSub, Int.reduceMul, Nat.reduceAdd, Nat.reduceLeDiff, true_or, or_true, false_or, or_false, reduceIte, k_16, w, w1, g, HX, u1]
        · rw [← v2, xe_166_157]
          simp only [xe_166_159, xe_166_161, xe_166_162, xe_166_164, xe_166_167, xe_166_168, xe_166_169, xe_166_171, xe_166_172, xe_166_175, xe_166_178, xe_166_179, xe_166_180, xe_166_182, xe_166_183, xe_166_186 _ _ _ (some (vI _)) _ _ _ _ rfl, xe_166_186 _ _ _ (some (vR _)) _ _ _ _ rfl, xe_166_186 _ _ _ none _ _ _ _ rfl, xe_166_189, ite_self, mm_nL_I, mm_nL_R, mm_nL_0, Option.bind_some, Option.bind_none, bnd_ite, Option.toList_some, Option.toList_none, List.cons_append, List.nil_append, mm_cats_nil, mm_cats_I, mm_cats_L, mm_cats_R, if_true, if_false, true_and, and_true, false_and, and_false, not_true_eq_false, not_false_eq_true, Int.reduceLE, Int.reduceLT, Int.reduceEq, Int.reduceNe, Int.reduceNeg, Int.reduceAdd, Int.reduceSub, Int.reduceMul, Nat.reduceAdd, Nat.reduceLeDiff, true_or, or_true, false_or, or_false, reduceIte, k_149, w, w1, g, HM, u2]
/-- what the inspection says of an extension -/
def EX (F : Int → Int) (s : Int) : Prop := (F (s + 2) = 0 ∨ (4 ≤ F (s + 2) ∧ F (s + 2) ≤ 127)) ∧ ∃ p : Int × Int, p.1 = 0 ∧ (xl F s (F (s + 2)) 128 4 p).1 = 0
theorem xl_0 {s e : Int} {p : Int × Int} (m : Nat) (h : Int) (H : (xl F s e m h p).1 = 0) : p.1 = 0 := by
  by_cases z : p.1 = 0
  · exact z
  · rw [xl_n _ _ _ _ _ _ z] at H; exact H
theorem ext_0 {s : Int} {p : Int × Int} (H : (ext F s p).1 = 0) : p.1 = 0 ∧ EX F s := by
  unfold ext at H
  by_cases q : F (s + 2) = 0 ∨ (4 ≤ F (s + 2) ∧ F (s + 2) ≤ 127)
  · rw [if_pos q] at H
    have z := xl_0 _ _ H
    exact ⟨z, q, p, z, H⟩
  · rw [if_neg q] at H
    exfalso
    unfold nt at H
    split at H
    · have H' : (6 : Int) = 0 := H
      omega
    · contradiction
theorem exs_0 : ∀ (m : Nat) (b : Int) (p : Int × Int), (exs F m b p).1 = 0 → p.1 = 0 ∧ ∀ x, b ≤ x → x < b + m → EX F (128 * x)
  | 0, b, p, H => ⟨H, fun x h1 h2 => by omega⟩
  | m + 1, b, p, H => by
    simp only [exs] at H
    obtain ⟨h1, h2⟩ := exs_0 m (b + 1) _ H
    obtain ⟨h3, h4⟩ := ext_0 h1
    refine ⟨h3, fun x x0 x1 => ?_⟩
    by_cases e : x = b
    · rw [e]; exact h4
    · exact h2 x (by omega) (by omega)
/-- the extensions, block by block -/
theorem bk_lp (B : Int) (hB : n = 128 * B) (B4 : B ≤ 4) (hE : ∀ x, 1 ≤ x → x < B → EX F (128 * x)) : ∀ (m : Nat) (b : Int) (c r : MM) (y3 y2' y3' y4' : Option MV), 1 ≤ b → b + m = B → PX c n F → PM r n F → Rq c r → c 16 5 = B → r 149 6 = B → c 16 6 ≤ 4 + 6 * (b - 1) → c 16 8 ≤ 127 * (b - 1) → c 16 10 ≤ 2000 * (b - 1) →
    ∃ c' r', ev 42 91 [some (vR 16), some (vR 13), some (vI b), y3] [] c (g_1 L) = some (none, c', g_1 L) ∧ ev 166 76 [some (vR 149), some (vI b), y2', y3', y4'] [] r (g_1 L) = some (none, r', g_1 L) ∧ Rq c' r' ∧ fC c c' ∧ fR r r' ∧ c' 16 6 ≤ 22 ∧ c' 16 8 ≤ 384 := by
  intro m
  induction m with
  | zero =>
    intro b c r y3 y2' y3' y4' b0 hb hX hM hR h5 h6 hK1 hK2 hK3
    have g : B ≤ b := by omega
    refine ⟨c, r, ?_, ?_, hR, fC.rf c, fR.rf r, by omega, by omega⟩
    · simp only [xe_42_91, xe_42_92, xe_42_93, xe_42_96, xe_42_141, ite_self, mm_nL_I, mm_nL_R, mm_nL_0, Option.bind_some, Option.bind_none, bnd_ite, Option.toList_some, Option.toList_none, List.cons_append, List.nil_append, mm_cats_nil, mm_cats_I, mm_cats_L, mm_cats_R, if_true, if_false, true_and, and_true, false_and, and_false, not_true_eq_false, not_false_eq_true, Int.reduceLE, Int.reduceLT, Int.reduceEq, Int.reduceNe, Int.reduceNeg, Int.reduceAdd, Int.reduceSub, Int.reduceMul, Nat.reduceAdd, Nat.reduceLeDiff, true_or, or_true, false_or, or_false, reduceIte, k_16, h5, g]
    · simp only [xe_166_76, xe_166_77, xe_166_78, xe_166_81, xe_166_198, ite_self, mm_nL_I, mm_nL_R, mm_nL_0, Option.bind_some, Option.bind_none, bnd_ite, Option.toList_some, Option.toList_none, List.cons_append, List.nil_append, mm_cats_nil, mm_cats_I, mm_cats_L, mm_cats_R, if_true, if_false, true_and, and_true, false_and, and_false, not_true_eq_false, not_false_eq_true, Int.reduceLE, Int.reduceLT, Int.reduceEq, Int.reduceNe, Int.reduceNeg, Int.reduceAdd, Int.reduceSub, Int.reduceMul, Nat.reduceAdd, Nat.reduceLeDiff, true_or, or_true, false_or, or_false, reduceIte, k_149, h6, g]
  | succ m ih =>
    intro b c r y3 y2' y3' y4' b0 hb hX hM hR h5 h6 hK1 hK2 hK3
    have g : ¬ B ≤ b := by omega
    obtain ⟨hq, p, hp, hx⟩ := hE b b0 (by omega)
    have w1 : w32 (b * 128) = 128 * b := by rw [wi32 (by omega) (by omega)]; omega
    have w1' : w32 (128 * b) = 128 * b := wi32 (by omega) (by omega)
    have w2 : w32 (128 * b + 2) = 128 * b + 2 := wi32 (by omega) (by omega)
    have w3 : w32 (b + 1) = b + 1 := wi32 (by omega) (by omega)
    have A := px_at (L := L) hX (128 * b + 2) (by omega) (by omega)
    have B' := pm_at (L := L) hM (128 * b + 2) (by omega) (by omega)
    generalize he : F (128 * b + 2) = e at *
    obtain ⟨c1, r1, h1, u1, u2, u3, u4, u5, u6, u7, u8⟩ := dt_lp (L := L) (128 * b) e b (by omega) (by omega) (by omega) (127 * (b - 1)) (2000 * (b - 1)) (by omega) (by omega) 128 4 p c r none none none hp hx (by omega) (by omega) (by omega) hX hM hR (by omega) (by omega)
    have A1 := px_at (L := L) (hX.f u4) (128 * b + 2) (by omega) (by omega)
    rw [he] at A1
    have D : ev 48 0 [some (vR 16), some (vI (128 * b)), some (vI e), none, none, none, none] [] c (g_1 L) = some (none, c1, g_1 L) := by
      rw [← u1]
      simp only [xe_48_0, xe_48_1 _ _ (some (vI _)) _ _ _ _ _ _ _ _ rfl, xe_48_1 _ _ (some (vR _)) _ _ _ _ _ _ _ _ rfl, xe_48_1 _ _ none _ _ _ _ _ _ _ _ rfl, ite_self, mm_nL_I, mm_nL_R, mm_nL_0, Option.bind_some, Option.bind_none, bnd_ite, Option.toList_some, Option.toList_none, List.cons_append, List.nil_append, mm_cats_nil, mm_cats_I, mm_cats_L, mm_cats_R, if_true, if_false, true_and, and_true, false_and, and_false, not_true_eq_false, not_false_eq_true, Int.reduceLE, Int.reduceLT, Int.reduceEq, Int.reduceNe, Int.reduceNeg, Int.reduceAdd, Int.reduceSub, Int.reduceMul, Nat.reduceAdd, Nat.reduceLeDiff, true_or, or_true, false_or, or_false, reduceIte]
    have c15 : c1 16 5 = B := by rw [u4.2 5 (by omega)]; exact h5
    have r16 : r1 149 6 = B := by rw [u5.2 6 (by omega)]; exact h6
    by_cases e0 : e = 0
    · obtain ⟨c2, r2, v1, v2, v3, v4, v5, v6, v7⟩ := ih (b + 1) c1 r1 (some (vI (128 * b))) (some (vI (128 * b))) (some (vI e)) (some (vI h1)) (by omega) (by omega) (hX.f u4) (hM.f u5) u3 c15 r16 (by omega) (by omega) (by omega)
      have Q : ev 51 0 [some (vR 16), some (vI (128 * b)), some (vI e), none] [] c1 (g_1 L) = some (none, c1, g_1 L) := by
        simp only [xe_51_0, xe_51_1, xe_51_4, xe_51_5, xe_51_6 _ _ (some (vI _)) _ _ _ _ _ rfl, xe_51_6 _ _ (some (vR _)) _ _ _ _ _ rfl, xe_51_6 _ _ none _ _ _ _ _ rfl, ite_self, mm_nL_I, mm_nL_R, mm_nL_0, Option.bind_some, Option.bind_none, bnd_ite, Option.toList_some, Option.toList_none, List.cons_append, List.nil_append, mm_cats_nil, mm_cats_I, mm_cats_L, mm_cats_R, if_true, if_false, true_and, and_true, false_and, and_false, not_true_eq_false, not_false_eq_true, Int.reduceLE, Int.reduceLT, Int.reduceEq, Int.reduceNe, Int.reduceNeg, Int.reduceAdd, Int.reduceSub, Int.reduceMul, Nat.reduceAdd, Nat.reduceLeDiff, true_or, or_true, false_or, or_false, reduceIte, e0]
      refine ⟨c2, r2, ?_, ?_, v3, u4.tr v4, u5.tr v5, v6, v7⟩
      · rw [← v1, xe_42_91]
        simp only [xe_42_92, xe_42_93, xe_42_96, xe_42_99, xe_42_100, xe_42_103, xe_42_104 _ _ (some (vI _)) _ _ _ _ _ rfl, xe_42_104 _ _ (some (vR _)) _ _ _ _ _ rfl, xe_42_104 _ _ none _ _ _ _ _ rfl, xe_42_105, xe_42_106, xe_42_107, xe_42_108, xe_42_111, xe_42_112, xe_42_113, xe_42_114, xe_42_117, xe_42_120, xe_42_121, xe_42_122, xe_42_123, xe_42_126, xe_42_127, xe_42_128, xe_42_129, xe_42_132, xe_42_135 _ (some (vI _)) _ _ _ _ _ rfl, xe_42_135 _ (some (vR _)) _ _ _ _ _ rfl, xe_42_135 _ none _ _ _ _ _ rfl, xe_42_138, xe_42_141, ite_self, mm_nL_I, mm_nL_R, mm_nL_0, Option.bind_some, Option.bind_none, bnd_ite, Option.toList_some, Option.toList_none, List.cons_append, List.nil_append, mm_cats_nil, mm_cats_I, mm_cats_L, mm_cats_R, if_true, if_false, true_and, and_true, false_and, and_false, not_true_eq_false, not_false_eq_true, Int.reduceLE, Int.reduceLT, Int.reduceEq, Int.reduceNe, Int.reduceNeg, Int.reduceAdd, Int.reduceSub, Int.reduceMul, Nat.reduceAdd, Nat.reduceLeDiff, true_or, or_true, false_or, or_false, reduceIte, k_16, k_17, hX.2.1, (hX.f u4).2.1, h5, A, A1, D, Q, w1, w2, w3, g]
      · have st : ev 166 76 [some (vR 149), some (vI b), y2', y3', y4'] [] r (g_1 L) = ev 166 101 [some (vR 149), some (vI b), some (vI (128 * b)), some (vI e), some (vI 4)] [] r (g_1 L) := by
          rw [xe_166_76]
          simp only [xe_166_77, xe_166_78, xe_166_81, xe_166_84, xe_166_87, xe_166_88, xe_166_89 _ (some (vI _)) _ _ _ _ _ _ _ rfl, xe_166_89 _ (some (vR _)) _ _ _ _ _ _ _ rfl, xe_166_89 _ none _ _ _ _ _ _ _ rfl, xe_166_90, xe_166_91, xe_166_92, xe_166_93, xe_166_94, xe_166_97 _ _ (some (vI _)) _ _ _ _ _ _ rfl, xe_166_97 _ _ (some (vR _)) _ _ _ _ _ _ rfl, xe_166_97 _ _ none _ _ _ _ _ _ rfl, xe_166_98, xe_166_99 _ _ _ (some (vI _)) _ _ _ _ _ rfl, xe_166_99 _ _ _ (some (vR _)) _ _ _ _ _ rfl, xe_166_99 _ _ _ none _ _ _ _ _ rfl, xe_166_198, ite_self, mm_nL_I, mm_nL_R, mm_nL_0, Option.bind_some, Option.bind_none, bnd_ite, Option.toList_some, Option.toList_none, List.cons_append, List.nil_append, mm_cats_nil, mm_cats_I, mm_cats_L, mm_cats_R, if_true, if_false, true_and, and_true, false_and, and_false, not_true_eq_false, not_false_eq_true, Int.reduceLE, Int.reduceLT, Int.reduceEq, Int.reduceNe, Int.reduceNeg, Int.reduceAdd, Int.reduceSub, Int.reduceMul, Nat.reduceAdd, Nat.reduceLeDiff, true_or, or_true, false_or, or_false, reduceIte, k_149, h6, B', w1', w2, g]
        rw [st, u2, ← v2]
        simp only [xe_166_147, xe_166_148, xe_166_151, xe_166_154, xe_166_155 _ _ _ (some (vI _)) _ _ _ _ _ rfl, xe_166_155 _ _ _ (some (vR _)) _ _ _ _ _ rfl, xe_166_155 _ _ _ none _ _ _ _ _ rfl, xe_166_192 (some (vI _)) _ _ _ _ _ _ _ rfl, xe_166_192 (some (vR _)) _ _ _ _ _ _ _ rfl, xe_166_192 none _ _ _ _ _ _ _ rfl, xe_166_195, ite_self, mm_nL_I, mm_nL_R, mm_nL_0, Option.bind_some, Option.bind_none, bnd_ite, Option.toList_some, Option.toList_none, List.cons_append, List.nil_append, mm_cats_nil, mm_cats_I, mm_cats_L, mm_cats_R, if_true, if_false, true_and, and_true, false_and, and_false, not_true_eq_false, not_false_eq_true, Int.reduceLE, Int.reduceLT, Int.reduceEq, Int.reduceNe, Int.reduceNeg, Int.reduceAdd, Int.reduceSub, Int.reduceMul, Nat.reduceAdd, Nat.reduceLeDiff, true_or, or_true, false_or, or_false, reduceIte, k_149, w3, eq_true e0]
    · obtain ⟨c2, r2, a2, x1, x2, x3, x4, x5, x6, x7⟩ := de_lp (L := L) (128 * b) e b (by omega) (by omega) (4 + 6 * (b - 1)) (by omega) 7 e c1 r1 (by omega) (by omega) (by omega) (hX.f u4) (hM.f u5) u3 (by rw [u6]; omega)
      obtain ⟨c3, r3, v1, v2, v3, v4, v5, v6, v7⟩ := ih (b + 1) c2 r2 (some (vI (128 * b))) (some (vI (128 * b))) (some (vI e)) (some (vI a2)) (by omega) (by omega) ((hX.f u4).f x4) ((hM.f u5).f x5) x3 (by rw [x4.2 5 (by omega)]; exact c15) (by rw [x5.2 6 (by omega)]; exact r16) (by omega) (by rw [x7 8 (by omega)]; omega) (by rw [x7 10 (by omega)]; omega)
      have Q : ev 51 0 [some (vR 16), some (vI (128 * b)), some (vI e), none] [] c1 (g_1 L) = some (none, c2, g_1 L) := by
        rw [← x1]
        simp only [xe_51_0, xe_51_1, xe_51_4, xe_51_5, xe_51_6 _ _ (some (vI _)) _ _ _ _ _ rfl, xe_51_6 _ _ (some (vR _)) _ _ _ _ _ rfl, xe_51_6 _ _ none _ _ _ _ _ rfl, ite_self, mm_nL_I, mm_nL_R, mm_nL_0, Option.bind_some, Option.bind_none, bnd_ite, Option.toList_some, Option.toList_none, List.cons_append, List.nil_append, mm_cats_nil, mm_cats_I, mm_cats_L, mm_cats_R, if_true, if_false, true_and, and_true, false_and, and_false, not_true_eq_false, not_false_eq_true, Int.reduceLE, Int.reduceLT, Int.reduceEq, Int.reduceNe, Int.reduceNeg, Int.reduceAdd, Int.reduceSub, Int.reduceMul, Nat.reduceAdd, Nat.reduceLeDiff, true_or, or_true, false_or, or_false, reduceIte, e0]
      refine ⟨c3, r3, ?_, ?_, v3, (u4.tr x4).tr v4, (u5.tr x5).tr v5, v6, v7⟩
      · rw [← v1, xe_42_91]
        simp only [xe_42_92, xe_42_93, xe_42_96, xe_42_99, xe_42_100, xe_42_103, xe_42_104 _ _ (some (vI _)) _ _ _ _ _ rfl, xe_42_104 _ _ (some (vR _)) _ _ _ _ _ rfl, xe_42_104 _ _ none _ _ _ _ _ rfl, xe_42_105, xe_42_106, xe_42_107, xe_42_108, xe_42_111, xe_42_112, xe_42_113, xe_42_114, xe_42_117, xe_42_120, xe_42_121, xe_42_122, xe_42_123, xe_42_126, xe_42_127, xe_42_128, xe_42_129, xe_42_132, xe_42_135 _ (some (vI _)) _ _ _ _ _ rfl, xe_42_135 _ (some (vR _)) _ _ _ _ _ rfl, xe_42_135 _ none _ _ _ _ _ rfl, xe_42_138, xe_42_141, ite_self, mm_nL_I, mm_nL_R, mm_nL_0, Option.bind_some, Option.bind_none, bnd_ite, Option.toList_some, Option.toList_none, List.cons_append, List.nil_append, mm_cats_nil, mm_cats_I, mm_cats_L, mm_cats_R, if_true, if_false, true_and, and_true, false_and, and_false, not_true_eq_false, not_false_eq_true, Int.reduceLE, Int.reduceLT, Int.reduceEq, Int.reduceNe, Int.reduceNeg, Int.reduceAdd, Int.reduceSub, Int.reduceMul, Nat.reduceAdd, Nat.reduceLeDiff, true_or, or_true, false_or, or_false, reduceIte, k_16, k_17, hX.2.1, (hX.f u4).2.1, h5, A, A1, D, Q, w1, w2, w3, g]
      · have st : ev 166 76 [some (vR 149), some (vI b), y2', y3', y4'] [] r (g_1 L) = ev 166 101 [some (vR 149), some (vI b), some (vI (128 * b)), some (vI e), some (vI 4)] [] r (g_1 L) := by
          rw [xe_166_76]
          simp only [xe_166_77, xe_166_78, xe_166_81, xe_166_84, xe_166_87, xe_166_88, xe_166_89 _ (some (vI _)) _ _ _ _ _ _ _ rfl, xe_166_89 _ (some (vR _)) _ _ _ _ _ _ _ rfl, xe_166_89 _ none _ _ _ _ _ _ _ rfl, xe_166_90, xe_166_91, xe_166_92, xe_166_93, xe_166_94, xe_166_97 _ _ (some (vI _)) _ _ _ _ _ _ rfl, xe_166_97 _ _ (some (vR _)) _ _ _ _ _ _ rfl, xe_166_97 _ _ none _ _ _ _ _ _ rfl, xe_166_98, xe_166_99 _ _ _ (some (vI _)) _ _ _ _ _ rfl, xe_166_99 _ _ _ (some (vR _)) _ _ _ _ _ rfl, xe_166_99 _ _ _ none _ _ _ _ _ rfl, xe_166_198, ite_self, mm_nL_I, mm_nL_R, mm_nL_0, Option.bind_some, Option.bind_none, bnd_ite, Option.toList_some, Option.toList_none, List.cons_append, List.nil_append, mm_cats_nil, mm_cats_I, mm_cats_L, mm_cats_R, if_true, if_false, true_and, and_true, false_and, and_false, not_true_eq_false, not_false_eq_true, Int.reduceLE, Int.reduceLT, Int.reduceEq, Int.reduceNe, Int.reduceNeg, Int.reduceAdd, Int.reduceSub, Int.reduceMul, Nat.reduceAdd, Nat.reduceLeDiff, true_or, or_true, false_or, or_false, reduceIte, k_149, h6, B', w1', w2, g]
        have st2 : ev 166 147 [some (vR 149), some (vI b), some (vI (128 * b)), some (vI e), some (vI h1)] [] r1 (g_1 L) = ev 166 157 [some (vR 149), some (vI b), some (vI (128 * b)), some (vI e), some (vI e)] [] r1 (g_1 L) := by
          simp only [xe_166_147, xe_166_148, xe_166_151, xe_166_154, xe_166_155 _ _ _ (some (vI _)) _ _ _ _ _ rfl, xe_166_155 _ _ _ (some (vR _)) _ _ _ _ _ rfl, xe_166_155 _ _ _ none _ _ _ _ _ rfl, xe_166_192 (some (vI _)) _ _ _ _ _ _ _ rfl, xe_166_192 (some (vR _)) _ _ _ _ _ _ _ rfl, xe_166_192 none _ _ _ _ _ _ _ rfl, xe_166_195, ite_self, mm_nL_I, mm_nL_R, mm_nL_0, Option.bind_some, Option.bind_none, bnd_ite, Option.toList_some, Option.toList_none, List.cons_append, List.nil_append, mm_cats_nil, mm_cats_I, mm_cats_L, mm_cats_R, if_true, if_false, true_and, and_true, false_and, and_false, not_true_eq_false, not_false_eq_true, Int.reduceLE, Int.reduceLT, Int.reduceEq, Int.reduceNe, Int.reduceNeg, Int.reduceAdd, Int.reduceSub, Int.reduceMul, Nat.reduceAdd, Nat.reduceLeDiff, true_or, or_true, false_or, or_false, reduceIte, k_149, e0]
        rw [st, u2, st2, x2, ← v2]
        simp only [xe_166_192 (some (vI _)) _ _ _ _ _ _ _ rfl, xe_166_192 (some (vR _)) _ _ _ _ _ _ _ rfl, xe_166_192 none _ _ _ _ _ _ _ rfl, xe_166_195, ite_self, mm_nL_I, mm_nL_R, mm_nL_0, Option.bind_some, Option.bind_none, bnd_ite, Option.toList_some, Option.toList_none, List.cons_append, List.nil_append, mm_cats_nil, mm_cats_I, mm_cats_L, mm_cats_R, if_true, if_false, true_and, and_true, false_and, and_false, not_true_eq_false, not_false_eq_true, Int.reduceLE, Int.reduceLT, Int.reduceEq, Int.reduceNe, Int.reduceNeg, Int.reduceAdd, Int.reduceSub, Int.reduceMul, Nat.reduceAdd, Nat.reduceLeDiff, true_or, or_true, false_or, or_false, reduceIte, w3]
end RA
