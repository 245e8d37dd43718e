/-! trained, would, enough, margin -/
theorem tm_tm (c : MM) (a : Int) (S sw em S' sw' em' : Int → Int) : tm (tm c a S sw em) a S' sw' em' = tm c a S' sw' em' := by
  funext b j
  unfold tm
  (repeat' split) <;> first | rfl | (exfalso; omega)
theorem tx_10 (c : MM) (S sw em : Int → Int) : tm c 146 S sw em 10 = c 10 := tm_b _ _ _ _ _ _ (by omega) (by omega) (by omega)
theorem tx_134 (c : MM) (S sw em : Int → Int) : tm c 146 S sw em 134 = c 134 := tm_b _ _ _ _ _ _ (by omega) (by omega) (by omega)
theorem tx_135 (c : MM) (S sw em : Int → Int) : tm c 146 S sw em 135 = c 135 := tm_b _ _ _ _ _ _ (by omega) (by omega) (by omega)
theorem tx_136 (c : MM) (S sw em : Int → Int) : tm c 146 S sw em 136 = c 136 := tm_b _ _ _ _ _ _ (by omega) (by omega) (by omega)
theorem tx_143 (c : MM) (S sw em : Int → Int) : tm c 146 S sw em 143 = c 143 := tm_b _ _ _ _ _ _ (by omega) (by omega) (by omega)
theorem tx_ms (c : MM) (S sw em : Int → Int) (b k v : Int) (h : b < 146) : mset (tm c 146 S sw em) b k v = tm (mset c b k v) 146 S sw em := tm_ms _ _ _ _ _ _ _ _ (by omega) (by omega) (by omega)
theorem TPx {L : Int} {c : MM} (h : SX c) : TP c (g_1 L) 146 := ⟨by omega, k_146 L, sx_146_0 h, sx_146_1 h, k_147 L, l_147 L, k_148 L, l_148 L⟩
theorem WPx {L : Int} {c : MM} (h : SX c) : WP c (g_1 L) 134 := ⟨by omega, k_134 L, sx_134_0 h, sx_134_1 h, k_135 L, l_135 L, k_136 L, l_136 L⟩
theorem WPy {L : Int} {c : MM} (h : SX c) : WP c (g_1 L) 143 := ⟨by omega, k_143 L, sx_143_0 h, sx_143_1 h, k_144 L, l_144 L, k_145 L, l_145 L⟩
theorem s_finT (L w la ra : Int) (c : MM) (ls sl S sw em : Int → Int) (hS : Rst c) (T : TP c (g_1 L) 146) (W : WP c (g_1 L) w) (hw : w + 3 ≤ 146) (e1 : c (w + 1) = ls) (e2 : c (w + 2) = sl) (e3 : c w 2 = la) (e4 : c w 3 = ra) (ho : wo ls) (n : la = 1 ∨ la = 2 ∨ la = 4) (w0 : 0 ≤ ra) (w3 : ra ≤ 3) :
    ∃ S' sw' em', ev 81 0 [some (vR 146), some (vR w), none] [] (tm c 146 S sw em) (g_1 L) = some (some (vI (pr ls sl la ra)), tm c 146 S' sw' em', g_1 L) ∧ Rt S' sw' em' (pt ls sl la ra) := by
  have b : ∀ b, b < 146 → tm c 146 S sw em b = c b := fun b hb => tm_b _ _ _ _ _ _ (by omega) (by omega) (by omega)
  obtain ⟨S', sw', em', h1, h2⟩ := s_finish L w la ra (tm c 146 S sw em) ls sl (by unfold Rst; rw [b 1 (by omega)]; exact hS) (T.atm S sw em) (W.atm (Or.inl hw) S sw em) hw (by rw [b _ (by omega)]; exact e1) (by rw [b _ (by omega)]; exact e2) (by rw [b _ (by omega)]; exact e3) (by rw [b _ (by omega)]; exact e4) ho n w0 w3
  rw [tm_tm] at h1
  exact ⟨S', sw', em', h1, h2⟩
def cpw (c : MM) : MM := fun b j => if b = 144 ∧ 0 ≤ j ∧ j < 4 then c 135 j else if b = 145 ∧ 0 ≤ j ∧ j < 4 then c 136 j else if b = 143 ∧ j = 2 then c 134 2 else if b = 143 ∧ j = 3 then c 134 3 else c b j
theorem s_cpy (L : Int) (c : MM) (S sw em : Int → Int) (hX : SX c) : ev 97 0 [some (vR 143), some (vR 134)] [] (tm c 146 S sw em) (g_1 L) = some (none, tm (cpw c) 146 S sw em, g_1 L) := by
  have m1 : ∀ (c : MM) f b, ¬ b = 144 → mcopy c 144 0 4 f b = c b := fun c f b hb => by funext j; unfold mcopy; rw [if_neg (by omega)]
  have m2 : ∀ (c : MM) f b, ¬ b = 145 → mcopy c 145 0 4 f b = c b := fun c f b hb => by funext j; unfold mcopy; rw [if_neg (by omega)]
  have k2 : ∀ (c : MM) v, mset c 143 2 v 134 = c 134 := fun c v => ms_row _ _ _ _ _ (by omega)
  simp only [xe_97_0, xe_97_1, xe_97_4, xe_97_5, xe_97_6, xe_97_9, xe_97_10, xe_97_11, xe_97_14, xe_97_15, xe_97_18, xe_97_19, xe_97_20, xe_97_23, xe_97_24, xe_97_25, xe_97_28, xe_97_29, xe_97_30, xe_97_33, xe_97_36, xe_97_37, xe_97_38, xe_97_41, xe_97_44, ite_self, mm_nL_I, mm_nL_R, mm_nL_0, Option.bind_some, Option.bind_none, bnd_ite, Option.toList_some, Option.toList_none, List.cons_append, List.nil_append, mm_cats_nil, mm_cats_I, mm_cats_L, mm_cats_R, if_true, if_false, true_and, and_true, false_and, and_false, not_true_eq_false, not_false_eq_true, Int.reduceLE, Int.reduceLT, Int.reduceEq, Int.reduceNe, Int.reduceNeg, Int.reduceAdd, Int.reduceSub, Int.reduceMul, Nat.reduceAdd, Nat.reduceLeDiff, true_or, or_true, false_or, or_false, reduceIte, k_134, k_135, l_135, k_136, l_136, k_143, k_144, l_144, k_145, l_145, tx_134, tx_143, tx_135, sx_134_0 hX, sx_134_1 hX, sx_143_0 hX, sx_143_1 hX, m1 _ _ 134 (by omega), m1 _ _ 143 (by omega), m1 _ _ 136 (by omega), m2 _ _ 134 (by omega), m2 _ _ 143 (by omega), k2]
  congr 3
  funext b j
  simp only [mset, mcopy, cpw, tm]
  (repeat' split) <;> first | rfl | (exfalso; omega) | (congr 1; omega)
theorem cpw_b (c : MM) (b : Int) (h : ¬ (143 ≤ b ∧ b ≤ 145)) : cpw c b = c b := by
  funext j; unfold cpw; rw [if_neg (by omega), if_neg (by omega), if_neg (by omega), if_neg (by omega)]
theorem cpw_143 (c : MM) (k : Int) : cpw c 143 k = if k = 2 then c 134 2 else if k = 3 then c 134 3 else c 143 k := by
  unfold cpw
  rw [if_neg (by omega), if_neg (by omega)]
  (repeat' split) <;> first | rfl | (exfalso; omega)
theorem cpw_144 {c r : MM} (h : Rz c r) : cpw c 144 = c 135 ∧ cpw c 145 = c 136 := by
  refine ⟨?_, ?_⟩
  · funext j
    unfold cpw
    by_cases e : 0 ≤ j ∧ j < 4
    · rw [if_pos ⟨rfl, e⟩]
    · have := h.2.2 j e
      rw [if_neg (fun q => e q.2), if_neg (by omega), if_neg (by omega), if_neg (by omega), this.2.2.1, this.1]
  · funext j
    unfold cpw
    rw [if_neg (by omega)]
    by_cases e : 0 ≤ j ∧ j < 4
    · rw [if_pos ⟨rfl, e⟩]
    · have := h.2.2 j e
      rw [if_neg (fun q => e q.2), if_neg (by omega), if_neg (by omega), this.2.2.2, this.2.1]
theorem SX.cpw {c : MM} (h : SX c) : SX (cpw c) := h.cg fun a k hp => by
  have := isP_k hp
  by_cases e : 143 ≤ a ∧ a ≤ 145
  · by_cases e1 : a = 143
    · have := this.2.2.2.2.2.2.2.2.2.2.2.1 e1
      rw [e1, cpw_143, if_neg (by omega), if_neg (by omega)]
    · exfalso
      rcases isP_row hp with q | q
      · simp only [List.mem_cons, List.not_mem_nil, or_false] at q; omega
      · omega
  · rw [cpw_b _ _ e]
section CP
variable {L : Int} {c r : MM}
theorem p_X1 (h : RR c r) (S sw em : Int → Int) : ∃ S' sw' em', ev 81 0 [some (vR 146), some (vR 134), none] [] (tm c 146 S sw em) (g_1 L) = some (some (vI (pr (c 135) (c 136) (c 134 2) (c 134 3))), tm c 146 S' sw' em', g_1 L) ∧ Rt S' sw' em' (pt (c 135) (c 136) (c 134 2) (c 134 3)) := by
  obtain ⟨w1, w2, w3, w4, w5, w6⟩ := h.2.2.2.2.2.2.2.2.1
  exact s_finT L 134 _ _ c _ _ S sw em h.2.2.1.1 (TPx h.1) (WPx h.1) (by omega) rfl rfl rfl rfl (fun l l0 l3 => by have := w6 l l0 l3; omega) w3 w4 w5
theorem txi (c : MM) : tm c 146 (c 146) (c 147) (c 148) = c := tm_id c 146
/-- the reference's training where only rows 167, 168 and the rate may be others -/
theorem p_M (h : RR c r) (r2 : MM) (t ls sl : Int → Int) (ra fl fw : Int) (h1 : ∀ k, ¬ (k = 0 ∨ k = 32 ∨ 45 ≤ k ∧ k ≤ 46) → r2 149 k = ops (mset r 149 0 0) 149 k) (e1 : r2 167 = ls) (e2 : r2 168 = sl) (e4 : r2 149 32 = ra) (ho : wo ls) (hs : so2 sl) (w0 : 0 ≤ ra) (w3' : ra ≤ 3) :
    ∃ fl' fw', ev 235 0 [some (vR 149)] [] (rm r2 t fl fw) (g_1 L) = some (some (vI (pr ls sl (c 134 2) ra)), rm r2 (pt ls sl (c 134 2) ra) fl' fw', g_1 L) := by
  obtain ⟨w1, w2, w3, w4, w5, w6⟩ := h.2.2.2.2.2.2.2.2.1
  have P := MP.op h.2.1
  refine s_trains L (c 134 2) ra fl fw r2 t ls sl ?_ e1 e2 ?_ e4 ho hs ?_ w3 w0 w3'
  · unfold MP at *
    rw [h1 _ (by omega), h1 _ (by omega), h1 _ (by omega), h1 _ (by omega), h1 _ (by omega), h1 _ (by omega), h1 _ (by omega)]; exact P
  · rw [h1 _ (by omega), ops_k _ _ (by omega), if_neg (by omega), w1]
  · rw [h1 _ (by omega), ops_k _ _ (by omega), if_pos rfl]
theorem p_wo (h : RR c r) : wo (c 135) ∧ so2 (c 136) ∧ wo (r 167) ∧ so2 (r 168) := by
  obtain ⟨w1, w2, w3, w4, w5, w6⟩ := h.2.2.2.2.2.2.2.2.1
  obtain ⟨z1, z2, z3⟩ := h.2.2.2.2.2.2.2.2.2.1
  rw [← z1, ← z2]
  exact ⟨fun l l0 l3 => by have := w6 l l0 l3; omega, fun l l0 l3 => by have := w6 l l0 l3; omega, fun l l0 l3 => by have := w6 l l0 l3; omega, fun l l0 l3 => by have := w6 l l0 l3; omega⟩
theorem p_M1 (h : RR c r) : ∃ fl' fw', ev 235 0 [some (vR 149)] [] (ops (mset r 149 0 0)) (g_1 L) = some (some (vI (pr (c 135) (c 136) (c 134 2) (c 134 3))), rm (ops (mset r 149 0 0)) (pt (c 135) (c 136) (c 134 2) (c 134 3)) fl' fw', g_1 L) := by
  obtain ⟨z1, z2, z3⟩ := h.2.2.2.2.2.2.2.2.2.1
  obtain ⟨w1, w2, w3, w4, w5, w6⟩ := h.2.2.2.2.2.2.2.2.1
  have wv := p_wo h
  have := p_M (L := L) h (ops (mset r 149 0 0)) (ops (mset r 149 0 0) 165) (c 135) (c 136) (c 134 3) (ops (mset r 149 0 0) 149 43) (ops (mset r 149 0 0) 149 44) (fun k hk => rfl) (by rw [ops_b _ _ (by omega) (by omega) (by omega) (by omega)]; exact z1.symm) (by rw [ops_b _ _ (by omega) (by omega) (by omega) (by omega)]; exact z2.symm) (by rw [ops_k _ _ (by omega), if_neg (by omega)]; exact w2.symm) wv.1 wv.2.1 w4 w5
  rw [rm_id] at this
  exact this
theorem kx (S sw em : Int → Int) : keC c (tm c 146 S sw em) ∧ FX c (tm c 146 S sw em) := keC.pap (fun _ _ => rfl) ⟨rfl, rfl⟩ (fun _ _ => ⟨rfl, rfl⟩)
theorem kr (h : RR c r) (t : Int → Int) (fl fw : Int) : keR r (cls (rm (ops (mset r 149 0 0)) t fl fw)) ∧ FM r (cls (rm (ops (mset r 149 0 0)) t fl fw)) := by
  refine keR.pap h.2.2.2.2.2.2.2.2.2.2.2.2.1 (fun _ _ _ _ => rfl) (fun j hj => ?_) (fun k hk => ?_)
  · rw [ops_b _ _ (by omega) (by omega) (by omega) (by omega), ops_b _ _ (by omega) (by omega) (by omega) (by omega)]; exact ⟨rfl, rfl⟩
  · rw [ops_k _ _ (by omega), if_neg (by omega)]
theorem c_trained (w : Int) (h : RR c r) : CALL L 140 [some (vR 10), some (vI w), none] 237 [some (vR 149), some (vI w), none] c r := by
  have hX := h.1
  by_cases g : 0 ≤ w ∧ w ≤ 5
  · have g1 : ¬ w < 0 := by omega
    obtain ⟨S', sw', em', F, hR⟩ := p_X1 (L := L) h (c 146) (c 147) (c 148)
    rw [txi] at F
    obtain ⟨fl, fw, M⟩ := p_M1 (L := L) h
    have O := s_opens L (mset r 149 0 0) (MP.t h.2.1)
    have C := s_closes L (rm (ops (mset r 149 0 0)) (pt (c 135) (c 136) (c 134 2) (c 134 3)) fl fw) ((MP.op h.2.1).rm _ _ _)
    obtain ⟨h2, h3, h4, h7, h9, h8, h10, h11, _⟩ := hR
    have P := MP.op h.2.1
    generalize pr (c 135) (c 136) (c 134 2) (c 134 3) = R at *
    generalize pt (c 135) (c 136) (c 134 2) (c 134 3) = t at *
    refine CALL.tell h (if w = 0 then t 0 else if w = 1 then t 1 else if w = 2 then t 2 else if w = 3 then t 6 else if w = 4 then t 7 else R) (tm c 146 S' sw' em') (cls (rm (ops (mset r 149 0 0)) t fl fw)) ?_ ?_ (kx _ _ _).1 (kr h _ _ _).1 (kx _ _ _).2 (kr h _ _ _).2
    · have q : w = 0 ∨ w = 1 ∨ w = 2 ∨ w = 3 ∨ w = 4 ∨ w = 5 := by omega
      rcases q with rfl | rfl | rfl | rfl | rfl | rfl <;>
      simp only [xe_140_0, xe_140_1, xe_140_4, xe_140_5, xe_140_6, xe_140_9, xe_140_11, xe_140_12, xe_140_13, xe_140_16, xe_140_17, xe_140_20, xe_140_23 _ (some (vI _)) _ _ _ _ _ rfl, xe_140_23 _ (some (vR _)) _ _ _ _ _ rfl, xe_140_23 _ none _ _ _ _ _ rfl, xe_140_24, xe_140_25, xe_140_60, xe_140_61, xe_140_64, xe_140_67, xe_140_68, xe_140_69, xe_140_72, xe_140_75, xe_140_76, xe_140_77, xe_140_80, xe_140_83, xe_140_84, xe_140_85, xe_140_88, xe_140_91, xe_140_92, xe_140_93, xe_140_96, xe_140_99, xe_140_100, xe_140_101, ite_self, mm_nL_I, mm_nL_R, mm_nL_0, Option.bind_some, Option.bind_none, bnd_ite, Option.toList_some, Option.toList_none, List.cons_append, List.nil_append, mm_cats_nil, mm_cats_I, mm_cats_L, mm_cats_R, if_true, if_false, true_and, and_true, false_and, and_false, not_true_eq_false, not_false_eq_true, Int.reduceLE, Int.reduceLT, Int.reduceEq, Int.reduceNe, Int.reduceNeg, Int.reduceAdd, Int.reduceSub, Int.reduceMul, Nat.reduceAdd, Nat.reduceLeDiff, true_or, or_true, false_or, or_false, reduceIte, k_10, k_134, k_146, sx_10_8 hX, sx_10_12 hX, tx_10, tm_0, tm_1, tg_2, tu_2, tg_3, tu_3, tg_4, tu_4, tg_5, tu_5, tg_6, tu_6, tg_7, tu_7, tg_8, tu_8, tg_9, tu_9, tg_10, tu_10, tg_11, tu_11, tg_12, tu_12, up_e, F, h2, h3, h4, h10, h11]
    · have q : w = 0 ∨ w = 1 ∨ w = 2 ∨ w = 3 ∨ w = 4 ∨ w = 5 := by omega
      rcases q with rfl | rfl | rfl | rfl | rfl | rfl <;>
      simp only [xe_237_0, xe_237_1, xe_237_2, xe_237_5, xe_237_6, xe_237_7, xe_237_8, xe_237_11, xe_237_14, xe_237_17, xe_237_19, xe_237_20, xe_237_21, xe_237_24, xe_237_25, xe_237_26, xe_237_27, xe_237_30, xe_237_33 _ (some (vI _)) _ _ _ _ _ rfl, xe_237_33 _ (some (vR _)) _ _ _ _ _ rfl, xe_237_33 _ none _ _ _ _ _ rfl, xe_237_34, xe_237_35, xe_237_38, xe_237_39, xe_236_0, xe_236_1, xe_236_36, xe_236_37, xe_236_40, xe_236_41, xe_236_42, xe_236_43, xe_236_44, xe_236_47, xe_236_48, xe_236_49, xe_236_50, xe_236_51, xe_236_54, xe_236_55, xe_236_56, xe_236_57, xe_236_58, xe_236_61, xe_236_63, xe_236_64, xe_236_65, xe_236_66, xe_236_69, xe_236_71, xe_236_72, xe_236_73, xe_236_74, ite_self, mm_nL_I, mm_nL_R, mm_nL_0, Option.bind_some, Option.bind_none, bnd_ite, Option.toList_some, Option.toList_none, List.cons_append, List.nil_append, mm_cats_nil, mm_cats_I, mm_cats_L, mm_cats_R, if_true, if_false, true_and, and_true, false_and, and_false, not_true_eq_false, not_false_eq_true, Int.reduceLE, Int.reduceLT, Int.reduceEq, Int.reduceNe, Int.reduceNeg, Int.reduceAdd, Int.reduceSub, Int.reduceMul, Nat.reduceAdd, Nat.reduceLeDiff, true_or, or_true, false_or, or_false, reduceIte, k_149, k_165, l_165, s_isIn, bi, O, M, C, rp_35 P, rg_0, rw_0, rg_1, rw_1, rg_2, rw_2, rg_3, rw_3, rg_4, rw_4, rg_5, rw_5, rg_6, rw_6, rg_7, rw_7]
  · refine CALL.ask h (-2) ?_ ?_
    · by_cases g1 : w < 0
      · simp only [xe_140_0, xe_140_1, xe_140_4, xe_140_5, xe_140_6, xe_140_9, xe_140_11, xe_140_12, xe_140_13, xe_140_16, xe_140_17, xe_140_20, xe_140_23 _ (some (vI _)) _ _ _ _ _ rfl, xe_140_23 _ (some (vR _)) _ _ _ _ _ rfl, xe_140_23 _ none _ _ _ _ _ rfl, xe_140_24, xe_140_25, xe_140_60, xe_140_61, xe_140_64, xe_140_67, xe_140_68, xe_140_69, xe_140_72, xe_140_75, xe_140_76, xe_140_77, xe_140_80, xe_140_83, xe_140_84, xe_140_85, xe_140_88, xe_140_91, xe_140_92, xe_140_93, xe_140_96, xe_140_99, xe_140_100, xe_140_101, ite_self, mm_nL_I, mm_nL_R, mm_nL_0, Option.bind_some, Option.bind_none, bnd_ite, Option.toList_some, Option.toList_none, List.cons_append, List.nil_append, mm_cats_nil, mm_cats_I, mm_cats_L, mm_cats_R, if_true, if_false, true_and, and_true, false_and, and_false, not_true_eq_false, not_false_eq_true, Int.reduceLE, Int.reduceLT, Int.reduceEq, Int.reduceNe, Int.reduceNeg, Int.reduceAdd, Int.reduceSub, Int.reduceMul, Nat.reduceAdd, Nat.reduceLeDiff, true_or, or_true, false_or, or_false, reduceIte, g1]
      · have g2 : ¬ w ≤ 5 := by omega
        simp only [xe_140_0, xe_140_1, xe_140_4, xe_140_5, xe_140_6, xe_140_9, xe_140_11, xe_140_12, xe_140_13, xe_140_16, xe_140_17, xe_140_20, xe_140_23 _ (some (vI _)) _ _ _ _ _ rfl, xe_140_23 _ (some (vR _)) _ _ _ _ _ rfl, xe_140_23 _ none _ _ _ _ _ rfl, xe_140_24, xe_140_25, xe_140_60, xe_140_61, xe_140_64, xe_140_67, xe_140_68, xe_140_69, xe_140_72, xe_140_75, xe_140_76, xe_140_77, xe_140_80, xe_140_83, xe_140_84, xe_140_85, xe_140_88, xe_140_91, xe_140_92, xe_140_93, xe_140_96, xe_140_99, xe_140_100, xe_140_101, ite_self, mm_nL_I, mm_nL_R, mm_nL_0, Option.bind_some, Option.bind_none, bnd_ite, Option.toList_some, Option.toList_none, List.cons_append, List.nil_append, mm_cats_nil, mm_cats_I, mm_cats_L, mm_cats_R, if_true, if_false, true_and, and_true, false_and, and_false, not_true_eq_false, not_false_eq_true, Int.reduceLE, Int.reduceLT, Int.reduceEq, Int.reduceNe, Int.reduceNeg, Int.reduceAdd, Int.reduceSub, Int.reduceMul, Nat.reduceAdd, Nat.reduceLeDiff, true_or, or_true, false_or, or_false, reduceIte, g1, g2]
    · simp only [xe_237_0, xe_237_1, xe_237_2, xe_237_5, xe_237_6, xe_237_7, xe_237_8, xe_237_11, xe_237_14, xe_237_17, xe_237_19, xe_237_20, xe_237_21, xe_237_24, xe_237_25, xe_237_26, xe_237_27, xe_237_30, xe_237_33 _ (some (vI _)) _ _ _ _ _ rfl, xe_237_33 _ (some (vR _)) _ _ _ _ _ rfl, xe_237_33 _ none _ _ _ _ _ rfl, xe_237_34, xe_237_35, xe_237_38, xe_237_39, ite_self, mm_nL_I, mm_nL_R, mm_nL_0, Option.bind_some, Option.bind_none, bnd_ite, Option.toList_some, Option.toList_none, List.cons_append, List.nil_append, mm_cats_nil, mm_cats_I, mm_cats_L, mm_cats_R, if_true, if_false, true_and, and_true, false_and, and_false, not_true_eq_false, not_false_eq_true, Int.reduceLE, Int.reduceLT, Int.reduceEq, Int.reduceNe, Int.reduceNeg, Int.reduceAdd, Int.reduceSub, Int.reduceMul, Nat.reduceAdd, Nat.reduceLeDiff, true_or, or_true, false_or, or_false, reduceIte, k_149, s_isIn, bi, g]
theorem pr_ok (h : RR c r) : pr (c 135) (c 136) (c 134 2) (c 134 3) = 0 ∨ (0 < pr (c 135) (c 136) (c 134 2) (c 134 3) ∧ pr (c 135) (c 136) (c 134 2) (c 134 3) ≤ 25920000) := by
  obtain ⟨w1, w2, w3, w4, w5, w6⟩ := h.2.2.2.2.2.2.2.2.1
  obtain ⟨i', S', sw', em', u1, u2, u3, u4⟩ := fin_X 0 134 c (c 135) (c 136) (c 134 3) (TPx h.1) (WPx h.1) (by omega) rfl rfl rfl (p_wo h).1 w4 w5 192 0 _ _ _ _ (Rt_beg (c 146) (c 134 2) (c 134 3)) (iv_beg (c 146) w3 w4 w5) rfl (by omega)
  unfold pr
  split
  · right
    have q1 : S' 3 = pt (c 135) (c 136) (c 134 2) (c 134 3) 1 := u2.2.1
    rw [← q1]
    exact rom_ok _ u3.1
  · left; rfl
theorem dwf_0 (k : Int) (hk : 0 < k) : ∀ (n : Nat) (d : Int), dwf k 0 d n = 0
  | 0, _ => rfl
  | n + 1, d => by
    simp only [dwf]
    split
    · rfl
    · rename_i q
      have : 0 < k * 3 * d := Int.mul_pos (by omega) (by omega)
      rw [if_neg (by omega)]
      exact dwf_0 k hk n (d - 2)
theorem bwf_0 (ck : Int → Int) (d : Int) : ∀ (n : Nat) (i : Int), (∀ j, i ≤ j → j < i + n → 0 < ck j) → bwf ck 0 d i n = (-1, -1)
  | 0, _, _ => rfl
  | n + 1, i, h => by
    simp only [bwf]
    rw [if_pos (dwf_0 _ (h i (by omega) (by omega)) 4 d)]
    exact bwf_0 ck d n (i + 1) (fun j j0 j1 => h j (by omega) (by omega))
theorem c_would (w : Int) (h : RR c r) : CALL L 145 [some (vR 10), some (vI w)] 243 [some (vR 149), some (vI w), none] c r := by
  have hX := h.1
  have hM := h.2.1
  have hR := h.2.2.2.2.2.2.1
  have hW := h.2.2.2.2.2.2.2.1
  by_cases g : 0 ≤ w ∧ w ≤ 1
  · have g1 : ¬ w < 0 := by omega
    obtain ⟨S', sw', em', F, hRt⟩ := p_X1 (L := L) h (c 146) (c 147) (c 148)
    rw [txi] at F
    obtain ⟨fl, fw, M⟩ := p_M1 (L := L) h
    have O := s_opens L (mset r 149 0 0) (MP.t h.2.1)
    have C := s_closes L (rm (ops (mset r 149 0 0)) (pt (c 135) (c 136) (c 134 2) (c 134 3)) fl fw) ((MP.op h.2.1).rm _ _ _)
    have kc := kx (c := c) S' sw' em'
    have kq := kr h (pt (c 135) (c 136) (c 134 2) (c 134 3)) fl fw
    have h' := h.ke kc.1 kq.1
    have po := pr_ok h
    have ho := mod_ho hR
    generalize hr1 : cls (rm (ops (mset r 149 0 0)) (pt (c 135) (c 136) (c 134 2) (c 134 3)) fl fw) = r1 at *
    have c1 : ckr r1 = ckr r := by funext i; unfold ckr; rw [kq.1.1 157 (by omega), kq.1.1 158 (by omega)]
    have e45 : tm c 146 S' sw' em' 45 4 = c 45 4 := by rw [kc.1.1 45 (by omega)]
    have e13 : tm c 146 S' sw' em' 10 13 = c 10 13 := by rw [kc.1.1 10 (by omega)]
    generalize pr (c 135) (c 136) (c 134 2) (c 134 3) = R at *
    have B := s_bestWithin L R w (c 10 13) (tm c 146 S' sw' em') r1 h'.1 h'.2.2.2.2.2.2.1 e13 hW.2 (by omega) (by omega)
    rw [c1, e45] at B
    have BM := s_lays L R (c 10 13) (c 45 4) r1 (sm_149_20 h'.2.1) (sm_149_21 h'.2.1) (by rw [← e45]; exact h'.2.2.2.2.2.2.1.1.symm) (by rw [← e13]; exact h'.2.2.2.2.2.2.2.1.1.symm) hW.2 hR.2.1 hR.2.2.1 (by rw [c1]; exact fun i h0 h1 => by rw [kq.1.1 158 (by omega)]; have := ho i h0 h1; exact ⟨this.1, this.2.1, by omega, this.2.2.2⟩)
    rw [c1] at BM
    generalize hp : bwf (ckr r) R (c 10 13) 0 (c 45 4).toNat = pp at *
    have e1 : ev 145 0 [some (vR 10), some (vI w)] [] c (g_1 L) = some (some (vI (bwv (ckr r) R w pp)), tm c 146 S' sw' em', g_1 L) := by
      simp only [xe_145_0, xe_145_1, xe_145_4, xe_145_5, xe_145_6, xe_145_9, xe_145_11, xe_145_12, xe_145_13, xe_145_14, xe_145_17, xe_145_18, xe_145_21, xe_145_24, xe_145_25, xe_145_28, ite_self, mm_nL_I, mm_nL_R, mm_nL_0, Option.bind_some, Option.bind_none, bnd_ite, Option.toList_some, Option.toList_none, List.cons_append, List.nil_append, mm_cats_nil, mm_cats_I, mm_cats_L, mm_cats_R, if_true, if_false, true_and, and_true, false_and, and_false, not_true_eq_false, not_false_eq_true, Int.reduceLE, Int.reduceLT, Int.reduceEq, Int.reduceNe, Int.reduceNeg, Int.reduceAdd, Int.reduceSub, Int.reduceMul, Nat.reduceAdd, Nat.reduceLeDiff, true_or, or_true, false_or, or_false, reduceIte, k_10, k_134, k_146, sx_10_8 hX, sx_10_12 hX, g, g1, F, B]
    by_cases z : R = 0
    · have pz : pp = (-1, -1) := by rw [← hp, z]; exact bwf_0 _ _ _ _ (fun j j0 j1 => (ho j (by omega) (by have := hR.2.1; omega)).2.2.1)
      have v : bwv (ckr r) R w pp = -1 := by
        rw [pz]; unfold bwv
        (repeat' split) <;> first | rfl | omega
      rw [v] at e1
      refine CALL.tell h _ _ r1 e1 ?_ kc.1 kq.1 kc.2 kq.2
      simp only [xe_243_0, xe_243_1, xe_243_2, xe_243_5, xe_243_6, xe_243_7, xe_243_8, xe_243_9, xe_243_12, xe_243_15, xe_243_17, xe_243_18, xe_243_19, xe_243_22, xe_243_23, xe_243_26 _ (some (vI _)) _ _ _ _ _ rfl, xe_243_26 _ (some (vR _)) _ _ _ _ _ rfl, xe_243_26 _ none _ _ _ _ _ rfl, xe_243_27, xe_243_28, xe_243_31, xe_243_32, xe_243_35, xe_243_36, xe_243_37, xe_243_38, xe_243_39, xe_243_42, xe_243_43, xe_243_46, xe_243_47, xe_243_50, xe_243_53, xe_243_54, xe_243_57, ite_self, mm_nL_I, mm_nL_R, mm_nL_0, Option.bind_some, Option.bind_none, bnd_ite, Option.toList_some, Option.toList_none, List.cons_append, List.nil_append, mm_cats_nil, mm_cats_I, mm_cats_L, mm_cats_R, if_true, if_false, true_and, and_true, false_and, and_false, not_true_eq_false, not_false_eq_true, Int.reduceLE, Int.reduceLT, Int.reduceEq, Int.reduceNe, Int.reduceNeg, Int.reduceAdd, Int.reduceSub, Int.reduceMul, Nat.reduceAdd, Nat.reduceLeDiff, true_or, or_true, false_or, or_false, reduceIte, k_149, s_isIn, bi, g, O, M, C, z]
    · refine CALL.tell h _ _ (bm r1 pp.1 pp.2) e1 ?_ kc.1 ?_ kc.2 ?_
      · unfold bwv
        by_cases w0 : w = 0
        · simp only [xe_243_0, xe_243_1, xe_243_2, xe_243_5, xe_243_6, xe_243_7, xe_243_8, xe_243_9, xe_243_12, xe_243_15, xe_243_17, xe_243_18, xe_243_19, xe_243_22, xe_243_23, xe_243_26 _ (some (vI _)) _ _ _ _ _ rfl, xe_243_26 _ (some (vR _)) _ _ _ _ _ rfl, xe_243_26 _ none _ _ _ _ _ rfl, xe_243_27, xe_243_28, xe_243_31, xe_243_32, xe_243_35, xe_243_36, xe_243_37, xe_243_38, xe_243_39, xe_243_42, xe_243_43, xe_243_46, xe_243_47, xe_243_50, xe_243_53, xe_243_54, xe_243_57, ite_self, mm_nL_I, mm_nL_R, mm_nL_0, Option.bind_some, Option.bind_none, bnd_ite, Option.toList_some, Option.toList_none, List.cons_append, List.nil_append, mm_cats_nil, mm_cats_I, mm_cats_L, mm_cats_R, if_true, if_false, true_and, and_true, false_and, and_false, not_true_eq_false, not_false_eq_true, Int.reduceLE, Int.reduceLT, Int.reduceEq, Int.reduceNe, Int.reduceNeg, Int.reduceAdd, Int.reduceSub, Int.reduceMul, Nat.reduceAdd, Nat.reduceLeDiff, true_or, or_true, false_or, or_false, reduceIte, k_149, s_isIn, bi, g, O, M, C, z, BM, w0, bm_33]
        · have w1 : w = 1 := by omega
          simp only [xe_243_0, xe_243_1, xe_243_2, xe_243_5, xe_243_6, xe_243_7, xe_243_8, xe_243_9, xe_243_12, xe_243_15, xe_243_17, xe_243_18, xe_243_19, xe_243_22, xe_243_23, xe_243_26 _ (some (vI _)) _ _ _ _ _ rfl, xe_243_26 _ (some (vR _)) _ _ _ _ _ rfl, xe_243_26 _ none _ _ _ _ _ rfl, xe_243_27, xe_243_28, xe_243_31, xe_243_32, xe_243_35, xe_243_36, xe_243_37, xe_243_38, xe_243_39, xe_243_42, xe_243_43, xe_243_46, xe_243_47, xe_243_50, xe_243_53, xe_243_54, xe_243_57, ite_self, mm_nL_I, mm_nL_R, mm_nL_0, Option.bind_some, Option.bind_none, bnd_ite, Option.toList_some, Option.toList_none, List.cons_append, List.nil_append, mm_cats_nil, mm_cats_I, mm_cats_L, mm_cats_R, if_true, if_false, true_and, and_true, false_and, and_false, not_true_eq_false, not_false_eq_true, Int.reduceLE, Int.reduceLT, Int.reduceEq, Int.reduceNe, Int.reduceNeg, Int.reduceAdd, Int.reduceSub, Int.reduceMul, Nat.reduceAdd, Nat.reduceLeDiff, true_or, or_true, false_or, or_false, reduceIte, k_149, s_isIn, bi, g, O, M, C, z, BM, w0, w1, bm_34]
      · refine ⟨fun a ha => ?_, fun k hk => ?_⟩
        · rw [bm_r _ _ _ _ (by omega)]; exact kq.1.1 a ha
        · rw [bm_k _ _ _ _ (by omega) (by omega)]; exact kq.1.2 k hk
      · intro a ha
        rw [bm_r _ _ _ _ (by omega)]; exact kq.2 a ha
  · refine CALL.ask h (-2) ?_ ?_
    · by_cases g1 : w < 0
      · simp only [xe_145_0, xe_145_1, xe_145_4, xe_145_5, xe_145_6, xe_145_9, xe_145_11, xe_145_12, xe_145_13, xe_145_14, xe_145_17, xe_145_18, xe_145_21, xe_145_24, xe_145_25, xe_145_28, ite_self, mm_nL_I, mm_nL_R, mm_nL_0, Option.bind_some, Option.bind_none, bnd_ite, Option.toList_some, Option.toList_none, List.cons_append, List.nil_append, mm_cats_nil, mm_cats_I, mm_cats_L, mm_cats_R, if_true, if_false, true_and, and_true, false_and, and_false, not_true_eq_false, not_false_eq_true, Int.reduceLE, Int.reduceLT, Int.reduceEq, Int.reduceNe, Int.reduceNeg, Int.reduceAdd, Int.reduceSub, Int.reduceMul, Nat.reduceAdd, Nat.reduceLeDiff, true_or, or_true, false_or, or_false, reduceIte, g1]
      · have g2 : ¬ w ≤ 1 := by omega
        simp only [xe_145_0, xe_145_1, xe_145_4, xe_145_5, xe_145_6, xe_145_9, xe_145_11, xe_145_12, xe_145_13, xe_145_14, xe_145_17, xe_145_18, xe_145_21, xe_145_24, xe_145_25, xe_145_28, ite_self, mm_nL_I, mm_nL_R, mm_nL_0, Option.bind_some, Option.bind_none, bnd_ite, Option.toList_some, Option.toList_none, List.cons_append, List.nil_append, mm_cats_nil, mm_cats_I, mm_cats_L, mm_cats_R, if_true, if_false, true_and, and_true, false_and, and_false, not_true_eq_false, not_false_eq_true, Int.reduceLE, Int.reduceLT, Int.reduceEq, Int.reduceNe, Int.reduceNeg, Int.reduceAdd, Int.reduceSub, Int.reduceMul, Nat.reduceAdd, Nat.reduceLeDiff, true_or, or_true, false_or, or_false, reduceIte, g1, g2]
    · simp only [xe_243_0, xe_243_1, xe_243_2, xe_243_5, xe_243_6, xe_243_7, xe_243_8, xe_243_9, xe_243_12, xe_243_15, xe_243_17, xe_243_18, xe_243_19, xe_243_22, xe_243_23, xe_243_26 _ (some (vI _)) _ _ _ _ _ rfl, xe_243_26 _ (some (vR _)) _ _ _ _ _ rfl, xe_243_26 _ none _ _ _ _ _ rfl, xe_243_27, xe_243_28, xe_243_31, xe_243_32, xe_243_35, xe_243_36, xe_243_37, xe_243_38, xe_243_39, xe_243_42, xe_243_43, xe_243_46, xe_243_47, xe_243_50, xe_243_53, xe_243_54, xe_243_57, ite_self, mm_nL_I, mm_nL_R, mm_nL_0, Option.bind_some, Option.bind_none, bnd_ite, Option.toList_some, Option.toList_none, List.cons_append, List.nil_append, mm_cats_nil, mm_cats_I, mm_cats_L, mm_cats_R, if_true, if_false, true_and, and_true, false_and, and_false, not_true_eq_false, not_false_eq_true, Int.reduceLE, Int.reduceLT, Int.reduceEq, Int.reduceNe, Int.reduceNeg, Int.reduceAdd, Int.reduceSub, Int.reduceMul, Nat.reduceAdd, Nat.reduceLeDiff, true_or, or_true, false_or, or_false, reduceIte, k_149, s_isIn, bi, g]
end CP
