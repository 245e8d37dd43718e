/-! load: detailed timings and drawn ones are offered -/
def lfr (r : MM) (m a b d e : Int) : MM := mset (mset (mset (mset r 157 (m + 8) a) 157 (m + 9) b) 157 (m + 10) d) 157 (m + 11) e
theorem s_lays4 (L s a b d e : Int) (r : MM) (p20 : r 149 20 = 157) (hs : r 149 23 = s + 1) (s0 : 0 ≤ s) (s1 : s < 40) : ev 172 0 [some (vR 149), some (vI a), some (vI b), some (vI d), some (vI e), none] [] r (g_1 L) = some (none, lfr r (12 * s) a b d e, g_1 L) := by
  have w0 : w32 (s + 1 - 1) = s := by rw [wi32 (by omega) (by omega)]; omega
  have w1 : w32 (12 * s) = 12 * s := wi32 (by omega) (by omega)
  have w2 : w32 (12 * s + 8) = 12 * s + 8 := wi32 (by omega) (by omega)
  have w3 : w32 (12 * s + 8 + 1) = 12 * s + 9 := by rw [wi32 (by omega) (by omega)]; omega
  have w4 : w32 (12 * s + 8 + 2) = 12 * s + 10 := by rw [wi32 (by omega) (by omega)]; omega
  have w5 : w32 (12 * s + 8 + 3) = 12 * s + 11 := by rw [wi32 (by omega) (by omega)]; omega
  have a8 : 0 ≤ 12 * s + 8 ∧ 12 * s + 8 < 480 := by omega
  have a9 : 0 ≤ 12 * s + 9 ∧ 12 * s + 9 < 480 := by omega
  have a10 : 0 ≤ 12 * s + 10 ∧ 12 * s + 10 < 480 := by omega
  have a11 : 0 ≤ 12 * s + 11 ∧ 12 * s + 11 < 480 := by omega
  have m9 : ∀ (r : MM) k v, mset r 157 k v 149 = r 149 := fun r k v => ms_row _ _ _ _ _ (by omega)
  unfold lfr
  simp only [xe_172_0, xe_172_2, xe_172_3, xe_172_6, xe_172_7, xe_172_8, xe_172_9, xe_172_11, xe_172_12 _ _ _ _ (some (vI _)) _ _ _ _ _ rfl, xe_172_12 _ _ _ _ (some (vR _)) _ _ _ _ _ rfl, xe_172_12 _ _ _ _ none _ _ _ _ _ rfl, xe_172_14, xe_172_15, xe_172_18, xe_172_20, xe_172_21, xe_172_22, xe_172_23, xe_172_26, xe_172_28, xe_172_29, xe_172_30, xe_172_31, xe_172_32, xe_172_33, xe_172_36, xe_172_38, xe_172_39, xe_172_40, xe_172_41, xe_172_42, xe_172_43, xe_172_46, xe_172_48, xe_172_49, xe_172_50, xe_172_52, xe_172_53, ite_self, mm_nL_I, mm_nL_R, mm_nL_0, Option.bind_some, Option.bind_none, bnd_ite, Option.toList_some, Option.toList_none, List.cons_append, List.nil_append, mm_cats_nil, mm_cats_I, mm_cats_L, mm_cats_R, if_true, if_false, true_and, and_true, false_and, and_false, not_true_eq_false, not_false_eq_true, Int.reduceLE, Int.reduceLT, Int.reduceEq, Int.reduceNe, Int.reduceNeg, Int.reduceAdd, Int.reduceSub, Int.reduceMul, Nat.reduceAdd, Nat.reduceLeDiff, true_or, or_true, false_or, or_false, reduceIte, k_149, k_157, l_157, p20, hs, m9, w0, w1, w2, w3, w4, w5, a8, a9, a10, a11]
/-- the reference's rows with a mode more -/
def acc (r : MM) (t : Int → Int) (src : Int) (s : Nat) : MM := mset (f12 r (12 * (s : Int)) (ofv (t 1) (t 5) (t 0) (t 1 + t 2) (t 5 + t 6) src (hz t))) 149 23 ((s : Int) + 1)
theorem acc_b (r : MM) (t : Int → Int) (src : Int) (s : Nat) (b : Int) (h1 : ¬ b = 149) (h2 : ¬ b = 157) : acc r t src s b = r b := by
  unfold acc; rw [ms_row _ _ _ _ _ h1]; funext j; unfold f12; rw [if_neg (by omega)]
theorem acc_k (r : MM) (t : Int → Int) (src : Int) (s : Nat) (k : Int) (h : ¬ k = 23) : acc r t src s 149 k = r 149 k := by
  unfold acc; rw [ms_nk _ _ _ _ _ _ h]; unfold f12; rw [if_neg (by omega)]
theorem acc_23 (r : MM) (t : Int → Int) (src : Int) (s : Nat) : acc r t src s 149 23 = (s : Int) + 1 := ms_eq _ _ _ _
theorem acc_lo (r : MM) (t : Int → Int) (src : Int) (s : Nat) (j : Int) (h : j < 12 * (s : Int)) : acc r t src s 157 j = r 157 j := by
  unfold acc; rw [ms_row _ _ _ _ _ (by omega)]; unfold f12; rw [if_neg (by omega)]
theorem acc_hi (r : MM) (t : Int → Int) (src : Int) (s : Nat) (k : Int) (h0 : 0 ≤ k) (h1 : k < 12) : acc r t src s 157 (12 * (s : Int) + k) = ofv (t 1) (t 5) (t 0) (t 1 + t 2) (t 5 + t 6) src (hz t) k := by
  unfold acc; rw [ms_row _ _ _ _ _ (by omega)]; unfold f12; rw [if_pos (by omega), show 12 * (s : Int) + k - 12 * (s : Int) = k by omega]
theorem lfr_b (r : MM) (m a b d e x : Int) (h : ¬ x = 157) : lfr r m a b d e x = r x := by
  unfold lfr; rw [ms_row _ _ _ _ _ h, ms_row _ _ _ _ _ h, ms_row _ _ _ _ _ h, ms_row _ _ _ _ _ h]
theorem lfr_k (r : MM) (m a b d e j : Int) : lfr r m a b d e 157 j = if j = m + 11 then e else if j = m + 10 then d else if j = m + 9 then b else if j = m + 8 then a else r 157 j := by
  unfold lfr; rw [ms_sa, ms_sa, ms_sa, ms_sa]
/-- fronts laid, preferred or not: it is the mode -/
theorem acc_md (r : MM) (t : Int → Int) (src pf : Int) (s : Nat) (k : Int) (h0 : 0 ≤ k) (h1 : k < 12) : mset (lfr (acc r t src s) (12 * (s : Int)) (t 3) (t 4) (t 7) (t 8)) 157 (12 * (s : Int) + 7) pf 157 (12 * (s : Int) + k) = mdv2 t src pf k := by
  rw [ms_sa, lfr_k]
  have q : k = 0 ∨ k = 1 ∨ k = 2 ∨ k = 3 ∨ k = 4 ∨ k = 5 ∨ k = 6 ∨ k = 7 ∨ k = 8 ∨ k = 9 ∨ k = 10 ∨ k = 11 := by omega
  have a := acc_hi r t src s k h0 h1
  rcases q with rfl | rfl | rfl | rfl | rfl | rfl | rfl | rfl | rfl | rfl | rfl | rfl
  · rw [if_neg (by omega), if_neg (by omega), if_neg (by omega), if_neg (by omega), if_neg (by omega), a]; rfl
  · rw [if_neg (by omega), if_neg (by omega), if_neg (by omega), if_neg (by omega), if_neg (by omega), a]; rfl
  · rw [if_neg (by omega), if_neg (by omega), if_neg (by omega), if_neg (by omega), if_neg (by omega), a]; rfl
  · rw [if_neg (by omega), if_neg (by omega), if_neg (by omega), if_neg (by omega), if_neg (by omega), a]; rfl
  · rw [if_neg (by omega), if_neg (by omega), if_neg (by omega), if_neg (by omega), if_neg (by omega), a]; rfl
  · rw [if_neg (by omega), if_neg (by omega), if_neg (by omega), if_neg (by omega), if_neg (by omega), a]; rfl
  · rw [if_neg (by omega), if_neg (by omega), if_neg (by omega), if_neg (by omega), if_neg (by omega), a]; rfl
  · rw [if_pos rfl]; rfl
  · rw [if_neg (by omega), if_neg (by omega), if_neg (by omega), if_neg (by omega), if_pos rfl]; rfl
  · rw [if_neg (by omega), if_neg (by omega), if_neg (by omega), if_pos rfl]; rfl
  · rw [if_neg (by omega), if_neg (by omega), if_pos rfl]; rfl
  · rw [if_neg (by omega), if_pos rfl]; rfl
theorem acc_m0 (r : MM) (t : Int → Int) (src : Int) (s : Nat) (k : Int) (h0 : 0 ≤ k) (h1 : k < 12) : lfr (acc r t src s) (12 * (s : Int)) (t 3) (t 4) (t 7) (t 8) 157 (12 * (s : Int) + k) = mdv2 t src 0 k := by
  have a := acc_md r t src 0 s k h0 h1
  rw [ms_sa] at a
  by_cases e : k = 7
  · rw [e, lfr_k, if_neg (by omega), if_neg (by omega), if_neg (by omega), if_neg (by omega), acc_hi _ _ _ _ _ (by omega) (by omega)]; rfl
  · rw [if_neg (by omega)] at a; exact a
section S1
variable {L K : Int} {c r : MM} {s : Nat}
/-- a drawn timing is offered on both sides -/
theorem st_pl (hX : SX c) (hM : SM r) (hI : INV K c r s) (hr : Qr c r) (hm : Qm c r) (K5 : K ≤ 5000) (x y z src : Int) (s0 : 0 ≤ src) (s4 : src ≤ 4) (x0 : 64 ≤ x) (x1 : x ≤ 4095) (y0 : 0 < y) (y1 : y ≤ 4095) (z0 : 0 ≤ z) (z1 : z ≤ 240) (k0 : 0 < drk 0 x y z) (k1 : drk 0 x y z ≤ 655350) :
    ∃ c1 c' r' s', ev 62 0 [some (vR 48), some (vI 0), some (vI x), some (vI y), some (vI z), none] [] c (g_1 L) = some (none, c1, g_1 L) ∧ c1 45 = c 45 ∧ c1 16 = c 16 ∧ ev 38 0 [some (vR 45), some (vR 16), some (vI src), some (vI 0), none] [] c1 (g_1 L) = some (none, c', g_1 L) ∧ ev 175 0 [some (vR 149), some (vI x), some (vI y), some (vI z), some (vI src)] [] r (g_1 L) = some (none, r', g_1 L) ∧ INV (K + 1) c' r' s' ∧ gC c c' ∧ gR r r' := by
  have D := s_draw 48 0 x y z c (g_1 L) (by omega) (k_48 L) (by omega) x1 (by omega) y1 z0 z1
  have Wk := s_works L 0 x y z r (sm_149_29 hM) (by omega) x1 (by omega) y1 z0 z1
  have dk := dr_ok (k := 0) (h := x) (v := y) (z := z) (by omega) x1 (by omega) y1 z0 z1
  have sy := syv_ok (x / 8 * 8) y
  have db : ∀ b, ¬ b = 48 → drm c 48 0 x y z b = c b := fun b hb => drm_a _ _ _ _ _ _ _ hb
  have g1 : gC c (drm c 48 0 x y z) := ⟨fun a ha => db a (by omega), fun k hk => by rw [db _ (by omega)], fun j j0 j1 => by rw [db _ (by omega)]⟩
  have wb : ∀ b, ¬ b = 164 → wkm r 0 x y z b = r b := fun b hb => wkm_a _ _ _ _ _ _ hb
  have g2 : gR r (wkm r 0 x y z) := ⟨fun a ha => wb a (by omega), fun k hk => by rw [wb _ (by omega)]⟩
  have hI1 : INV K (drm c 48 0 x y z) (wkm r 0 x y z) s := hI.ke (by rw [db _ (by omega)]) (db _ (by omega)) (fun i i0 i1 => by rw [db _ (by omega), wb _ (by omega)]; exact hI.2.2.2.1 i i0 i1) (fun a a0 a1 => db a (by omega)) (by rw [wb _ (by omega)]) (wb _ (by omega))
  have hr1 : Qr (drm c 48 0 x y z) (wkm r 0 x y z) := hr.ke (by rw [db _ (by omega)]) (db _ (by omega)) (by rw [wb _ (by omega)]) (wb _ (by omega))
  have hm1 : Qm (drm c 48 0 x y z) (wkm r 0 x y z) := hm.ke (by rw [db _ (by omega)]) (by rw [wb _ (by omega)])
  have hX1 := hX.g g1
  have hM1 := hM.g g2
  have t0 : drm c 48 0 x y z 48 0 = drk 0 x y z := drm_0 _ _ _ _ _ _
  have t9 : drm c 48 0 x y z 48 9 = 0 := drm_9 _ _ _ _ _ _
  have t1 : drm c 48 0 x y z 48 1 = x / 8 * 8 := by rw [drm_j _ _ _ _ _ _ _ (by omega) (by omega)]; rfl
  have t2 : drm c 48 0 x y z 48 2 = 160 := by rw [drm_j _ _ _ _ _ _ _ (by omega) (by omega)]; rfl
  have t3 : drm c 48 0 x y z 48 3 = 48 := by rw [drm_j _ _ _ _ _ _ _ (by omega) (by omega)]; rfl
  have t4 : drm c 48 0 x y z 48 4 = 32 := by rw [drm_j _ _ _ _ _ _ _ (by omega) (by omega)]; rfl
  have t5 : drm c 48 0 x y z 48 5 = y := by rw [drm_j _ _ _ _ _ _ _ (by omega) (by omega)]; rfl
  have t6 : drm c 48 0 x y z 48 6 = drl 0 x y z := by rw [drm_j _ _ _ _ _ _ _ (by omega) (by omega)]; rfl
  have t7 : drm c 48 0 x y z 48 7 = 3 := by rw [drm_j _ _ _ _ _ _ _ (by omega) (by omega)]; rfl
  have t8 : drm c 48 0 x y z 48 8 = syv (x / 8 * 8) y := by rw [drm_j _ _ _ _ _ _ _ (by omega) (by omega)]; rfl
  have lb : syv (x / 8 * 8) y + 9 ≤ drl 0 x y z := by unfold drl; rw [if_pos rfl]; exact Int.le_max_right _ _
  have f0 : wkm r 0 x y z 164 0 = x / 8 * 8 := by rw [wkm_j _ _ _ _ _ _ (by omega) (by omega)]; rfl
  have f1 : wkm r 0 x y z 164 1 = 160 := by rw [wkm_j _ _ _ _ _ _ (by omega) (by omega)]; rfl
  have f2 : wkm r 0 x y z 164 2 = 48 := by rw [wkm_j _ _ _ _ _ _ (by omega) (by omega)]; rfl
  have f3 : wkm r 0 x y z 164 3 = 32 := by rw [wkm_j _ _ _ _ _ _ (by omega) (by omega)]; rfl
  have f4 : wkm r 0 x y z 164 4 = y := by rw [wkm_j _ _ _ _ _ _ (by omega) (by omega)]; rfl
  have f5 : wkm r 0 x y z 164 5 = drl 0 x y z := by rw [wkm_j _ _ _ _ _ _ (by omega) (by omega)]; rfl
  have f6 : wkm r 0 x y z 164 6 = 3 := by rw [wkm_j _ _ _ _ _ _ (by omega) (by omega)]; rfl
  have f7 : wkm r 0 x y z 164 7 = syv (x / 8 * 8) y := by rw [wkm_j _ _ _ _ _ _ (by omega) (by omega)]; rfl
  have f8 : wkm r 0 x y z 164 8 = drk 0 x y z := by rw [wkm_j _ _ _ _ _ _ (by omega) (by omega), dr_8]
  have dl := dk.2.2.2.2.2
  have p29 : wkm r 0 x y z 149 29 = 164 := by rw [wb _ (by omega)]; exact sm_149_29 hM
  have c45 : drm c 48 0 x y z 45 = c 45 := db _ (by omega)
  have c16 : drm c 48 0 x y z 16 = c 16 := db _ (by omega)
  clear dk db wb
  generalize drm c 48 0 x y z = c1 at *
  generalize wkm r 0 x y z = r1 at *
  generalize drk 0 x y z = kk at *
  generalize drl 0 x y z = ll at *
  generalize syv (x / 8 * 8) y = ss at *
  have hc : ct (c1 48) := by
    unfold ct
    rw [t0, t1, t2, t3, t4, t5, t6, t7, t8, t9]
    clear hI hI1 hr hr1 hm hm1 D Wk
    omega
  have w1 : w32 (x / 8 * 8 + 160) = x / 8 * 8 + 160 := wi32 (by omega) (by omega)
  have w2 : w32 (y + ll) = y + ll := wi32 (by omega) (by omega)
  have O := s_offM L src s c1 r1 (c1 48) hM1 hc hI1.2.1 hI1.2.2.1 hr1 hm1 (fun i i0 i1 => by have := hI1.2.2.2.1 i i0 i1; rw [← this.1]; omega)
  have OA : acc r1 (c1 48) src s = mset (f12 r1 (12 * (s : Int)) (ofv (c1 48 1) (c1 48 5) (c1 48 0) (c1 48 1 + c1 48 2) (c1 48 5 + c1 48 6) src (hz (c1 48)))) 149 23 ((s : Int) + 1) := rfl
  rw [← OA] at O
  by_cases e : wv c1 r1 (c1 48) s = -1
  · rw [if_pos e] at O
    have s40 : (s : Int) < 40 := by
      have := hI1.2.2.1
      by_cases zz : (s : Int) = 40
      · exfalso
        unfold wv at e
        rw [if_pos zz] at e
        clear hI hI1 hr hr1 hm hm1 D Wk O OA hc
        revert e
        (repeat' split) <;> omega
      · omega
    have a23 := acc_23 r1 (c1 48) src s
    have FR := s_lays4 L (s : Int) (c1 48 3) (c1 48 4) (c1 48 7) (c1 48 8) (acc r1 (c1 48) src s) (by rw [acc_k _ _ _ _ _ (by omega)]; exact sm_149_20 hM1) a23 (by omega) s40
    have q1 : ∀ j, 0 ≤ j → j < 12 * (s : Int) → lfr (acc r1 (c1 48) src s) (12 * (s : Int)) (c1 48 3) (c1 48 4) (c1 48 7) (c1 48 8) 157 j = r1 157 j := fun j j0 j1 => by
      rw [lfr_k, if_neg (by omega), if_neg (by omega), if_neg (by omega), if_neg (by omega), acc_lo _ _ _ _ _ j1]
    obtain ⟨c', u1, u2, u3⟩ := st_off1 (L := L) hX1 hc hI1 hr1 hm1 src 0 s0 s4 (Or.inl rfl) e _ q1 (fun k a b => acc_m0 r1 (c1 48) src s k a b)
    have u4 := u3 (lfr (acc r1 (c1 48) src s) (12 * (s : Int)) (c1 48 3) (c1 48 4) (c1 48 7) (c1 48 8)) (by rw [lfr_b _ _ _ _ _ _ _ (by omega)]; exact a23) (by rw [lfr_b _ _ _ _ _ _ _ (by omega), acc_b _ _ _ _ _ (by omega) (by omega)]) rfl
    refine ⟨c1, c', lfr (acc r1 (c1 48) src s) (12 * (s : Int)) (c1 48 3) (c1 48 4) (c1 48 7) (c1 48 8), s + 1, D, c45, c16, u1, ?_, ?_, g1.tr u2, g2.tr ⟨fun a ha => ?_, fun k hk => ?_⟩⟩
    · have A164 : acc r1 (c1 48) src s 164 = r1 164 := acc_b _ _ _ _ _ (by omega) (by omega)
      have A29 : acc r1 (c1 48) src s 149 29 = 164 := by rw [acc_k _ _ _ _ _ (by omega)]; exact p29
      rw [t0, t1, t2, t5, t6] at O
      rw [t3, t4, t7, t8] at FR
      rw [t3, t4, t7, t8]
      simp only [xe_175_0, xe_175_1, xe_175_2, xe_175_3, xe_175_4, xe_175_5, xe_175_8, xe_175_9, xe_175_10, xe_175_13, xe_175_14, xe_175_15, xe_175_16, xe_175_19, xe_175_20, xe_175_21, xe_175_22, xe_175_25, xe_175_27, xe_175_28, xe_175_29, xe_175_32, xe_175_33, xe_175_34, xe_175_35, xe_175_38, xe_175_39, xe_175_40, xe_175_41, xe_175_42, xe_175_45, xe_175_46, xe_175_47, xe_175_48, xe_175_51, xe_175_52, xe_175_53, xe_175_54, xe_175_56, xe_175_59, xe_175_62, xe_175_63, xe_175_64, xe_175_67, xe_175_68, xe_175_69, xe_175_70, xe_175_73, xe_175_74, xe_175_75, xe_175_76, xe_175_79, xe_175_81, xe_175_82, xe_175_83, xe_175_86, xe_175_88, xe_175_89, xe_175_92, ite_self, mm_nL_I, mm_nL_R, mm_nL_0, Option.bind_some, Option.bind_none, bnd_ite, Option.toList_some, Option.toList_none, List.cons_append, List.nil_append, mm_cats_nil, mm_cats_I, mm_cats_L, mm_cats_R, if_true, if_false, true_and, and_true, false_and, and_false, not_true_eq_false, not_false_eq_true, Int.reduceLE, Int.reduceLT, Int.reduceEq, Int.reduceNe, Int.reduceNeg, Int.reduceAdd, Int.reduceSub, Int.reduceMul, Nat.reduceAdd, Nat.reduceLeDiff, true_or, or_true, false_or, or_false, reduceIte, k_149, k_164, l_164, Wk, p29, f0, f1, f2, f3, f4, f5, f6, f7, f8, w1, w2, O, A29, A164, FR]
    · obtain ⟨v1, v2, v3, v4, v5, v6⟩ := u4
      exact ⟨v1, v2, v3, fun i i0 i1 => by have := v4 i i0 i1; omega, v5, v6⟩
    · rw [lfr_b _ _ _ _ _ _ _ (by omega), acc_b _ _ _ _ _ (by omega) (by omega)]
    · rw [lfr_b _ _ _ _ _ _ _ (by omega), acc_k _ _ _ _ _ hk]
  · rw [if_neg e] at O
    obtain ⟨c', u1, u2, u3⟩ := st_off0 (L := L) hX1 hc hI1 hr1 hm1 K5 src 0 e
    refine ⟨c1, c', mset r1 159 (wv c1 r1 (c1 48) s) (r1 159 (wv c1 r1 (c1 48) s) + 1), s, D, c45, c16, u1, ?_, u2, g1.tr u3, g2.tr ⟨fun a ha => ?_, fun k hk => ?_⟩⟩
    · rw [t0, t1, t2, t5, t6] at O
      simp only [xe_175_0, xe_175_1, xe_175_2, xe_175_3, xe_175_4, xe_175_5, xe_175_8, xe_175_9, xe_175_10, xe_175_13, xe_175_14, xe_175_15, xe_175_16, xe_175_19, xe_175_20, xe_175_21, xe_175_22, xe_175_25, xe_175_27, xe_175_28, xe_175_29, xe_175_32, xe_175_33, xe_175_34, xe_175_35, xe_175_38, xe_175_39, xe_175_40, xe_175_41, xe_175_42, xe_175_45, xe_175_46, xe_175_47, xe_175_48, xe_175_51, xe_175_52, xe_175_53, xe_175_54, xe_175_56, xe_175_59, xe_175_62, xe_175_63, xe_175_64, xe_175_67, xe_175_68, xe_175_69, xe_175_70, xe_175_73, xe_175_74, xe_175_75, xe_175_76, xe_175_79, xe_175_81, xe_175_82, xe_175_83, xe_175_86, xe_175_88, xe_175_89, xe_175_92, ite_self, mm_nL_I, mm_nL_R, mm_nL_0, Option.bind_some, Option.bind_none, bnd_ite, Option.toList_some, Option.toList_none, List.cons_append, List.nil_append, mm_cats_nil, mm_cats_I, mm_cats_L, mm_cats_R, if_true, if_false, true_and, and_true, false_and, and_false, not_true_eq_false, not_false_eq_true, Int.reduceLE, Int.reduceLT, Int.reduceEq, Int.reduceNe, Int.reduceNeg, Int.reduceAdd, Int.reduceSub, Int.reduceMul, Nat.reduceAdd, Nat.reduceLeDiff, true_or, or_true, false_or, or_false, reduceIte, k_149, k_164, l_164, Wk, p29, f0, f1, f2, f3, f4, f5, f6, f7, f8, w1, w2, O]
    · rw [ms_row _ _ _ _ _ (by omega)]
    · rw [ms_row _ _ _ _ _ (by omega)]
end S1
