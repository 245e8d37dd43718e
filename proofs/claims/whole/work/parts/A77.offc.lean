/-! load: codes of the table -/
def stb (c : MM) (x y a b k : Int) : MM := fun z j => if z = 48 ∧ 0 ≤ j ∧ j ≤ 9 then (if j = 0 then k else if j = 1 then x else if j = 2 then a - x else if j = 5 then y else if j = 6 then b - y else 0) else c z j
theorem s_setT (L row x y a b k : Int) (c : MM) (r0 : 0 ≤ row) (r1 : row + 6 ≤ 78) (e1 : c 2 (row + 1) = x) (e2 : c 2 (row + 2) = y) (e3 : c 2 (row + 3) = a) (e4 : c 2 (row + 4) = b) (e5 : c 2 (row + 5) = k) (bx : 0 ≤ x ∧ x ≤ 10000) (by' : 0 ≤ y ∧ y ≤ 10000) (ba : 0 ≤ a ∧ a ≤ 10000) (bb : 0 ≤ b ∧ b ≤ 10000) : ev 66 0 [some (vR 48), some (vI row)] [] c (g_1 L) = some (none, stb c x y a b k, g_1 L) := by
  have g0 : ¬ row < 0 := by omega
  have w6 : w32 (row + 6) = row + 6 := wi32 (by omega) (by omega)
  have w1 : w32 (row + 1) = row + 1 := wi32 (by omega) (by omega)
  have w2 : w32 (row + 2) = row + 2 := wi32 (by omega) (by omega)
  have w3 : w32 (row + 3) = row + 3 := wi32 (by omega) (by omega)
  have w4 : w32 (row + 4) = row + 4 := wi32 (by omega) (by omega)
  have w5 : w32 (row + 5) = row + 5 := wi32 (by omega) (by omega)
  have a1 : 0 ≤ row + 1 ∧ row + 1 < 78 := by omega
  have a2 : 0 ≤ row + 2 ∧ row + 2 < 78 := by omega
  have a3 : 0 ≤ row + 3 ∧ row + 3 < 78 := by omega
  have a4 : 0 ≤ row + 4 ∧ row + 4 < 78 := by omega
  have a5 : 0 ≤ row + 5 ∧ row + 5 < 78 := by omega
  have v1 : w32 (a - x) = a - x := wi32 (by omega) (by omega)
  have v2 : w32 (b - y) = b - y := wi32 (by omega) (by omega)
  have m2 : ∀ (c : MM) k v, mset c 48 k v 2 = c 2 := fun c k v => ms_row _ _ _ _ _ (by omega)
  have n1 : mset (mset c 48 1 x) 48 5 y 48 1 = x := by rw [ms_nk _ _ _ _ _ _ (by omega), ms_eq]
  have n5 : mset (mset (mset c 48 1 x) 48 5 y) 48 2 (a - x) 48 5 = y := by rw [ms_nk _ _ _ _ _ _ (by omega), ms_eq]
  have fin : mset (mset (mset (mset (mset (mset (mset (mset (mset (mset c 48 1 x) 48 5 y) 48 2 (a - x)) 48 6 (b - y)) 48 0 k) 48 3 0) 48 4 0) 48 7 0) 48 8 0) 48 9 0 = stb c x y a b k := by
    funext z j
    unfold stb
    by_cases hz : z = 48 ∧ 0 ≤ j ∧ j ≤ 9
    · rw [if_pos hz]
      obtain ⟨rfl, j0, j9⟩ := hz
      have q : j = 0 ∨ j = 1 ∨ j = 2 ∨ j = 3 ∨ j = 4 ∨ j = 5 ∨ j = 6 ∨ j = 7 ∨ j = 8 ∨ j = 9 := by omega
      rcases q with rfl | rfl | rfl | rfl | rfl | rfl | rfl | rfl | rfl | rfl <;> simp [mset]
    · rw [if_neg hz]
      have zz : ∀ (μ : MM) (k v : Int), 0 ≤ k → k ≤ 9 → mset μ 48 k v z j = μ z j := fun μ k v k0 k9 => ms_ne _ _ _ _ _ _ (fun q => hz ⟨q.1, by omega, by omega⟩)
      rw [zz _ _ _ (by omega) (by omega), zz _ _ _ (by omega) (by omega), zz _ _ _ (by omega) (by omega), zz _ _ _ (by omega) (by omega), zz _ _ _ (by omega) (by omega), zz _ _ _ (by omega) (by omega), zz _ _ _ (by omega) (by omega), zz _ _ _ (by omega) (by omega), zz _ _ _ (by omega) (by omega), zz _ _ _ (by omega) (by omega)]
  rw [← fin]
  simp only [xe_66_0, xe_66_1, xe_66_4, xe_66_5, xe_66_7, xe_66_8, xe_66_11, xe_66_12, xe_66_15, xe_66_16, xe_66_17, xe_66_20, xe_66_21, xe_66_22, xe_66_23, xe_66_24, xe_66_27, xe_66_28, xe_66_31, xe_66_32, xe_66_33, xe_66_34, xe_66_35, xe_66_38, xe_66_39, xe_66_42, xe_66_43, xe_66_44, xe_66_45, xe_66_46, xe_66_47, xe_66_50, xe_66_51, xe_66_54, xe_66_55, xe_66_58, xe_66_59, xe_66_60, xe_66_61, xe_66_62, xe_66_63, xe_66_66, xe_66_67, xe_66_70, xe_66_71, xe_66_74, xe_66_75, xe_66_76, xe_66_77, xe_66_78, xe_66_81, xe_66_82, xe_66_83, xe_66_86, xe_66_87, xe_66_88, xe_66_91, xe_66_92, xe_66_93, xe_66_96, xe_66_97, xe_66_98, xe_66_101, xe_66_102, xe_66_103, xe_66_106, ite_self, mm_nL_I, mm_nL_R, mm_nL_0, Option.bind_some, Option.bind_none, bnd_ite, Option.toList_some, Option.toList_none, List.cons_append, List.nil_append, mm_cats_nil, mm_cats_I, mm_cats_L, mm_cats_R, if_true, if_false, true_and, and_true, false_and, and_false, not_true_eq_false, not_false_eq_true, Int.reduceLE, Int.reduceLT, Int.reduceEq, Int.reduceNe, Int.reduceNeg, Int.reduceAdd, Int.reduceSub, Int.reduceMul, Nat.reduceAdd, Nat.reduceLeDiff, true_or, or_true, false_or, or_false, reduceIte, k_2, l_2, k_48, g0, w6, w1, w2, w3, w4, w5, a1, a2, a3, a4, a5, m2, e1, e2, e3, e4, e5, n1, n5, v1, v2, r1]
theorem acc_z (r : MM) (t : Int → Int) (src : Int) (s : Nat) (t3 : t 3 = 0) (t4 : t 4 = 0) (t7 : t 7 = 0) (t8 : t 8 = 0) (k : Int) (h0 : 0 ≤ k) (h1 : k < 12) : acc r t src s 157 (12 * (s : Int) + k) = mdv2 t src 0 k := by
  rw [acc_hi _ _ _ _ _ h0 h1]
  have q : k = 0 ∨ k = 1 ∨ k = 2 ∨ k = 3 ∨ k = 4 ∨ k = 5 ∨ k = 6 ∨ k = 7 ∨ k = 8 ∨ k = 9 ∨ k = 10 ∨ k = 11 := by omega
  rcases q with rfl | rfl | rfl | rfl | rfl | rfl | rfl | rfl | rfl | rfl | rfl | rfl
  · rfl
  · rfl
  · rfl
  · rfl
  · rfl
  · rfl
  · rfl
  · rfl
  · exact t3.symm
  · exact t4.symm
  · exact t7.symm
  · exact t8.symm
section S3
variable {L K : Int} {c r : MM} {s : Nat}
/-- the rows of both tables that a code leads to -/
theorem cd_go (hC : onT (c 2) cod_l) (code : Int) : ∀ i : Nat, i ≤ 13 → (∀ k, k < i → ¬ cod_l.getD (6 * k) 0 = code) → ev 35 2 [some (vR 45), some (vR 16), some (vI code), some (vI 0)] [] c (g_1 L) = ev 35 2 [some (vR 45), some (vR 16), some (vI code), some (vI (6 * (i : Int)))] [] c (g_1 L) := by
  intro i
  induction i with
  | zero => intro _ _; rfl
  | succ i ih =>
    intro hi hk
    rw [ih (by omega) (fun k hk' => hk k (by omega))]
    have e := hC (6 * i) (by show 6 * i < 78; omega)
    have n := hk i (by omega)
    have e' : c 2 (6 * (i : Int)) = cod_l.getD (6 * i) 0 := by rw [← e]; congr 1
    have g : ¬ 78 < 6 * (i : Int) + 6 := by omega
    have w : w32 (6 * (i : Int) + 6) = 6 * (i : Int) + 6 := wi32 (by omega) (by omega)
    have a : 0 ≤ 6 * (i : Int) ∧ 6 * (i : Int) < 78 := by omega
    have w2 : 6 * ((i + 1 : Nat) : Int) = 6 * (i : Int) + 6 := by omega
    rw [w2, xe_35_2]
    simp only [xe_35_3, xe_35_5, xe_35_6, xe_35_9, xe_35_10, xe_35_13, xe_35_16, xe_35_17, xe_35_18, xe_35_19, xe_35_22, xe_35_23, xe_35_26, xe_35_27, xe_35_30, xe_35_31, xe_35_32, xe_35_33, xe_35_34, xe_35_37, xe_35_38 _ _ (some (vI _)) _ _ _ _ rfl, xe_35_38 _ _ (some (vR _)) _ _ _ _ rfl, xe_35_38 _ _ none _ _ _ _ rfl, xe_35_41, xe_35_44, xe_35_45, xe_35_48, xe_35_49, xe_35_50, xe_35_51, xe_35_52, xe_35_53, xe_35_54, ite_self, mm_nL_I, mm_nL_R, mm_nL_0, Option.bind_some, Option.bind_none, bnd_ite, Option.toList_some, Option.toList_none, List.cons_append, List.nil_append, mm_cats_nil, mm_cats_I, mm_cats_L, mm_cats_R, if_true, if_false, true_and, and_true, false_and, and_false, not_true_eq_false, not_false_eq_true, Int.reduceLE, Int.reduceLT, Int.reduceEq, Int.reduceNe, Int.reduceNeg, Int.reduceAdd, Int.reduceSub, Int.reduceMul, Nat.reduceAdd, Nat.reduceLeDiff, true_or, or_true, false_or, or_false, reduceIte, k_2, l_2, g, w, a, e', n]
theorem cd_goM (hC : onT (r 160) tab_l) (p24 : r 149 24 = 160) (code : Int) : ∀ i : Nat, i ≤ 11 → (∀ k, k < i → ¬ (tab_l.getD (7 * k) 0 ≤ code ∧ code ≤ tab_l.getD (7 * k + 1) 0)) → ev 174 2 [some (vR 149), some (vI code), some (vI 0), none] [] r (g_1 L) = ev 174 2 [some (vR 149), some (vI code), some (vI (7 * (i : Int))), none] [] r (g_1 L) := by
  intro i
  induction i with
  | zero => intro _ _; rfl
  | succ i ih =>
    intro hi hk
    rw [ih (by omega) (fun k hk' => hk k (by omega))]
    have e := hC (7 * i) (by show 7 * i < 77; omega)
    have f := hC (7 * i + 1) (by show 7 * i + 1 < 77; omega)
    have n := hk i (by omega)
    have e' : r 160 (7 * (i : Int)) = tab_l.getD (7 * i) 0 := by rw [← e]; congr 1
    have f' : r 160 (7 * (i : Int) + 1) = tab_l.getD (7 * i + 1) 0 := by rw [← f]; congr 1
    have g : ¬ 77 ≤ 7 * (i : Int) := by omega
    have w : w32 (7 * (i : Int) + 7) = 7 * (i : Int) + 7 := wi32 (by omega) (by omega)
    have w1 : w32 (7 * (i : Int) + 1) = 7 * (i : Int) + 1 := wi32 (by omega) (by omega)
    have a : 0 ≤ 7 * (i : Int) ∧ 7 * (i : Int) < 77 := by omega
    have a1 : 0 ≤ 7 * (i : Int) + 1 ∧ 7 * (i : Int) + 1 < 77 := by omega
    have w2 : 7 * ((i + 1 : Nat) : Int) = 7 * (i : Int) + 7 := by omega
    rw [w2, xe_174_2]
    simp only [xe_174_3, xe_174_4, xe_174_7, xe_174_8, xe_174_11, xe_174_12, xe_174_13, xe_174_14, xe_174_17, xe_174_18, xe_174_19, xe_174_20, xe_174_21, xe_174_24, xe_174_25, xe_174_26, xe_174_27, xe_174_28, xe_174_29, xe_174_32, xe_174_35, xe_174_38, xe_174_39, xe_174_40, xe_174_43, xe_174_44, xe_174_45, xe_174_46, xe_174_47, xe_174_48, xe_174_51, xe_174_52, xe_174_53, xe_174_54, xe_174_55, xe_174_56, xe_174_59, xe_174_60, xe_174_62, xe_174_63, xe_174_64, xe_174_65, xe_174_68, xe_174_69, xe_174_70, xe_174_71, xe_174_72, xe_174_73, xe_174_76, xe_174_77, xe_174_78, xe_174_79, xe_174_80, xe_174_81, xe_174_84 _ _ (some (vI _)) _ _ _ _ _ rfl, xe_174_84 _ _ (some (vR _)) _ _ _ _ _ rfl, xe_174_84 _ _ none _ _ _ _ _ rfl, xe_174_85, xe_174_86 _ (some (vI _)) _ _ _ _ _ rfl, xe_174_86 _ (some (vR _)) _ _ _ _ _ rfl, xe_174_86 _ none _ _ _ _ _ rfl, xe_174_89, xe_174_92, xe_174_93, xe_174_96, xe_174_97, xe_174_98, xe_174_99, xe_174_100, xe_174_101, xe_174_102, ite_self, mm_nL_I, mm_nL_R, mm_nL_0, Option.bind_some, Option.bind_none, bnd_ite, Option.toList_some, Option.toList_none, List.cons_append, List.nil_append, mm_cats_nil, mm_cats_I, mm_cats_L, mm_cats_R, if_true, if_false, true_and, and_true, false_and, and_false, not_true_eq_false, not_false_eq_true, Int.reduceLE, Int.reduceLT, Int.reduceEq, Int.reduceNe, Int.reduceNeg, Int.reduceAdd, Int.reduceSub, Int.reduceMul, Nat.reduceAdd, Nat.reduceLeDiff, true_or, or_true, false_or, or_false, reduceIte, k_149, k_160, l_160, p24, g, w, w1, a, a1, e', f', s_isIn, bi, n]
theorem st_c1 (hX : SX c) (hM : SM r) (hI : INV K c r s) (hr : Qr c r) (hm : Qm c r) (K5 : K ≤ 5000) (hT : Rtb c r) (code : Int) (i j : Nat) (hi : i < 13) (hj : j < 11) (ni : ∀ k, k < i → ¬ cod_l.getD (6 * k) 0 = code) (nj : ∀ k, k < j → ¬ (tab_l.getD (7 * k) 0 ≤ code ∧ code ≤ tab_l.getD (7 * k + 1) 0)) (yi : cod_l.getD (6 * i) 0 = code) (yj : tab_l.getD (7 * j) 0 ≤ code ∧ code ≤ tab_l.getD (7 * j + 1) 0) (x y a b k : Int) (b1 : 0 < x ∧ x ≤ 4095) (b2 : 0 < y ∧ y ≤ 4095) (b3 : x ≤ a ∧ a ≤ 8000) (b4 : y ≤ b ∧ b ≤ 6000) (b5 : 0 < k ∧ k ≤ 655350)
    (v1 : cod_l.getD (6 * i + 1) 0 = x) (v2 : cod_l.getD (6 * i + 2) 0 = y) (v3 : cod_l.getD (6 * i + 3) 0 = a) (v4 : cod_l.getD (6 * i + 4) 0 = b) (v5 : cod_l.getD (6 * i + 5) 0 = k) (u1 : tab_l.getD (7 * j + 2) 0 = x) (u2 : tab_l.getD (7 * j + 3) 0 = y) (u3 : tab_l.getD (7 * j + 4) 0 = a) (u4 : tab_l.getD (7 * j + 5) 0 = b) (u5 : tab_l.getD (7 * j + 6) 0 = k) (ba : a - x ≤ 4095) (bb : b - y ≤ 4095) :
    ∃ c' r' s', ev 35 0 [some (vR 45), some (vR 16), some (vI code), none] [] c (g_1 L) = some (none, c', g_1 L) ∧ ev 174 0 [some (vR 149), some (vI code), none, none] [] r (g_1 L) = some (none, r', g_1 L) ∧ INV (K + 1) c' r' s' ∧ gC c c' ∧ gR r r' := by
  obtain ⟨_, tC, _, _, tM, _⟩ := hT
  have p24 := sm_149_24 hM
  have gx := cd_go (L := L) tC code i (by omega) ni
  have gm := cd_goM (L := L) tM p24 code j (by omega) nj
  have tc : ∀ n : Nat, n < 6 → c 2 (6 * (i : Int) + (n : Int)) = cod_l.getD (6 * i + n) 0 := fun n hn => by
    rw [← tC (6 * i + n) (by show 6 * i + n < 78; omega)]; congr 1
  have tm' : ∀ n : Nat, n < 7 → r 160 (7 * (j : Int) + (n : Int)) = tab_l.getD (7 * j + n) 0 := fun n hn => by
    rw [← tM (7 * j + n) (by show 7 * j + n < 77; omega)]; congr 1
  have c0 : c 2 (6 * (i : Int)) = code := by have := tc 0 (by omega); rw [show ((0 : Nat) : Int) = 0 from rfl, Int.add_zero] at this; rw [this]; exact yi
  have c1' : c 2 (6 * (i : Int) + 1) = x := (tc 1 (by omega)).trans v1
  have c2 : c 2 (6 * (i : Int) + 2) = y := (tc 2 (by omega)).trans v2
  have c3 : c 2 (6 * (i : Int) + 3) = a := (tc 3 (by omega)).trans v3
  have c4 : c 2 (6 * (i : Int) + 4) = b := (tc 4 (by omega)).trans v4
  have c5 : c 2 (6 * (i : Int) + 5) = k := (tc 5 (by omega)).trans v5
  have m0 : r 160 (7 * (j : Int)) = tab_l.getD (7 * j) 0 := by have := tm' 0 (by omega); rw [show ((0 : Nat) : Int) = 0 from rfl, Int.add_zero] at this; exact this
  have m1 : r 160 (7 * (j : Int) + 1) = tab_l.getD (7 * j + 1) 0 := tm' 1 (by omega)
  have m2 : r 160 (7 * (j : Int) + 2) = x := (tm' 2 (by omega)).trans u1
  have m3 : r 160 (7 * (j : Int) + 3) = y := (tm' 3 (by omega)).trans u2
  have m4 : r 160 (7 * (j : Int) + 4) = a := (tm' 4 (by omega)).trans u3
  have m5 : r 160 (7 * (j : Int) + 5) = b := (tm' 5 (by omega)).trans u4
  have m6 : r 160 (7 * (j : Int) + 6) = k := (tm' 6 (by omega)).trans u5
  have T := s_setT L (6 * (i : Int)) x y a b k c (by omega) (by omega) c1' c2 c3 c4 c5 (by omega) (by omega) (by omega) (by omega)
  have sb : ∀ z, ¬ z = 48 → stb c x y a b k z = c z := fun z hz => by funext q; unfold stb; rw [if_neg (by omega)]
  have t0 : stb c x y a b k 48 0 = k := rfl
  have t1 : stb c x y a b k 48 1 = x := rfl
  have t2 : stb c x y a b k 48 2 = a - x := rfl
  have t3 : stb c x y a b k 48 3 = 0 := rfl
  have t4 : stb c x y a b k 48 4 = 0 := rfl
  have t5 : stb c x y a b k 48 5 = y := rfl
  have t6 : stb c x y a b k 48 6 = b - y := rfl
  have t7 : stb c x y a b k 48 7 = 0 := rfl
  have t8 : stb c x y a b k 48 8 = 0 := rfl
  have t9 : stb c x y a b k 48 9 = 0 := rfl
  have g1 : gC c (stb c x y a b k) := ⟨fun a ha => sb a (by omega), fun k hk => by rw [sb _ (by omega)], fun j j0 j1 => by rw [sb _ (by omega)]⟩
  have hI1 : INV K (stb c x y a b k) r s := hI.ke (by rw [sb _ (by omega)]) (sb _ (by omega)) (fun i i0 i1 => by rw [sb _ (by omega)]; exact hI.2.2.2.1 i i0 i1) (fun a a0 a1 => sb a (by omega)) rfl rfl
  have hr1 : Qr (stb c x y a b k) r := hr.ke (by rw [sb _ (by omega)]) (sb _ (by omega)) rfl rfl
  have hm1 : Qm (stb c x y a b k) r := hm.ke (by rw [sb _ (by omega)]) rfl
  have hX1 := hX.g g1
  have s45 : stb c x y a b k 45 = c 45 := sb _ (by omega)
  have hc : ct (stb c x y a b k 48) := by
    unfold ct
    rw [t0, t1, t2, t3, t4, t5, t6, t7, t8, t9]
    clear hI hI1 hr hr1 hm hm1 T gx gm tc tm'
    omega
  generalize stb c x y a b k = c1 at *
  have O := s_offM L 2 s c1 r (c1 48) hM hc hI1.2.1 hI1.2.2.1 hr1 hm1 (fun i i0 i1 => by have := hI1.2.2.2.1 i i0 i1; rw [← this.1]; omega)
  have OA : acc r (c1 48) 2 s = mset (f12 r (12 * (s : Int)) (ofv (c1 48 1) (c1 48 5) (c1 48 0) (c1 48 1 + c1 48 2) (c1 48 5 + c1 48 6) 2 (hz (c1 48)))) 149 23 ((s : Int) + 1) := rfl
  rw [← OA] at O
  have ea : x + (a - x) = a := by omega
  have eb : y + (b - y) = b := by omega
  rw [t0, t1, t2, t5, t6, ea, eb] at O
  have g78 : ¬ 78 < 6 * (i : Int) + 6 := by omega
  have w : w32 (6 * (i : Int) + 6) = 6 * (i : Int) + 6 := wi32 (by omega) (by omega)
  have aa : 0 ≤ 6 * (i : Int) ∧ 6 * (i : Int) < 78 := by omega
  have g77 : ¬ 77 ≤ 7 * (j : Int) := by omega
  have z1 : w32 (7 * (j : Int) + 1) = 7 * (j : Int) + 1 := wi32 (by omega) (by omega)
  have z2 : w32 (7 * (j : Int) + 2) = 7 * (j : Int) + 2 := wi32 (by omega) (by omega)
  have z3 : w32 (7 * (j : Int) + 3) = 7 * (j : Int) + 3 := wi32 (by omega) (by omega)
  have z4 : w32 (7 * (j : Int) + 4) = 7 * (j : Int) + 4 := wi32 (by omega) (by omega)
  have z5 : w32 (7 * (j : Int) + 5) = 7 * (j : Int) + 5 := wi32 (by omega) (by omega)
  have z6 : w32 (7 * (j : Int) + 6) = 7 * (j : Int) + 6 := wi32 (by omega) (by omega)
  have y0 : 0 ≤ 7 * (j : Int) ∧ 7 * (j : Int) < 77 := by omega
  have y1 : 0 ≤ 7 * (j : Int) + 1 ∧ 7 * (j : Int) + 1 < 77 := by omega
  have y2 : 0 ≤ 7 * (j : Int) + 2 ∧ 7 * (j : Int) + 2 < 77 := by omega
  have y3 : 0 ≤ 7 * (j : Int) + 3 ∧ 7 * (j : Int) + 3 < 77 := by omega
  have y4 : 0 ≤ 7 * (j : Int) + 4 ∧ 7 * (j : Int) + 4 < 77 := by omega
  have y5 : 0 ≤ 7 * (j : Int) + 5 ∧ 7 * (j : Int) + 5 < 77 := by omega
  have y6 : 0 ≤ 7 * (j : Int) + 6 ∧ 7 * (j : Int) + 6 < 77 := by omega
  have preX : ev 35 0 [some (vR 45), some (vR 16), some (vI code), none] [] c (g_1 L) = ev 38 0 [some (vR 45), some (vR 16), some (vI 2), some (vI 0), none] [] c1 (g_1 L) ∨ True := Or.inr trivial
  have FX' : ∀ c', ev 38 0 [some (vR 45), some (vR 16), some (vI 2), some (vI 0), none] [] c1 (g_1 L) = some (none, c', g_1 L) → ev 35 0 [some (vR 45), some (vR 16), some (vI code), none] [] c (g_1 L) = some (none, c', g_1 L) := fun c' h => by
    have st : ev 35 0 [some (vR 45), some (vR 16), some (vI code), none] [] c (g_1 L) = ev 35 2 [some (vR 45), some (vR 16), some (vI code), some (vI 0)] [] c (g_1 L) := by
      simp only [xe_35_0, xe_35_1 _ _ (some (vI _)) _ _ _ _ _ rfl, xe_35_1 _ _ (some (vR _)) _ _ _ _ _ rfl, xe_35_1 _ _ none _ _ _ _ _ rfl, ite_self, mm_nL_I, mm_nL_R, mm_nL_0, Option.bind_some, Option.bind_none, bnd_ite, Option.toList_some, Option.toList_none, List.cons_append, List.nil_append, mm_cats_nil, mm_cats_I, mm_cats_L, mm_cats_R, if_true, if_false, true_and, and_true, false_and, and_false, not_true_eq_false, not_false_eq_true, Int.reduceLE, Int.reduceLT, Int.reduceEq, Int.reduceNe, Int.reduceNeg, Int.reduceAdd, Int.reduceSub, Int.reduceMul, Nat.reduceAdd, Nat.reduceLeDiff, true_or, or_true, false_or, or_false, reduceIte]
    rw [st, gx, xe_35_2]
    simp only [xe_35_3, xe_35_5, xe_35_6, xe_35_9, xe_35_10, xe_35_13, xe_35_16, xe_35_17, xe_35_18, xe_35_19, xe_35_22, xe_35_23, xe_35_26, xe_35_27, xe_35_30, xe_35_31, xe_35_32, xe_35_33, xe_35_34, xe_35_37, xe_35_38 _ _ (some (vI _)) _ _ _ _ rfl, xe_35_38 _ _ (some (vR _)) _ _ _ _ rfl, xe_35_38 _ _ none _ _ _ _ rfl, xe_35_41, xe_35_44, xe_35_45, xe_35_48, xe_35_49, xe_35_50, xe_35_51, xe_35_52, xe_35_53, xe_35_54, ite_self, mm_nL_I, mm_nL_R, mm_nL_0, Option.bind_some, Option.bind_none, bnd_ite, Option.toList_some, Option.toList_none, List.cons_append, List.nil_append, mm_cats_nil, mm_cats_I, mm_cats_L, mm_cats_R, if_true, if_false, true_and, and_true, false_and, and_false, not_true_eq_false, not_false_eq_true, Int.reduceLE, Int.reduceLT, Int.reduceEq, Int.reduceNe, Int.reduceNeg, Int.reduceAdd, Int.reduceSub, Int.reduceMul, Nat.reduceAdd, Nat.reduceLeDiff, true_or, or_true, false_or, or_false, reduceIte, k_2, l_2, k_45, k_48, k_16, sx_45_2 hX, g78, w, aa, c0, T, h]
  have FM' : ∀ v r', ev 171 0 [some (vR 149), some (vI x), some (vI y), some (vI k), some (vI a), some (vI b), some (vI 2), none, none, none, none] [] r (g_1 L) = some (some (vI v), r', g_1 L) → ev 174 0 [some (vR 149), some (vI code), none, none] [] r (g_1 L) = some (none, r', g_1 L) := fun v r' h => by
    have st : ev 174 0 [some (vR 149), some (vI code), none, none] [] r (g_1 L) = ev 174 2 [some (vR 149), some (vI code), some (vI 0), none] [] r (g_1 L) := by
      simp only [xe_174_0, xe_174_1 _ (some (vI _)) _ _ _ _ _ _ rfl, xe_174_1 _ (some (vR _)) _ _ _ _ _ _ rfl, xe_174_1 _ none _ _ _ _ _ _ rfl, ite_self, mm_nL_I, mm_nL_R, mm_nL_0, Option.bind_some, Option.bind_none, bnd_ite, Option.toList_some, Option.toList_none, List.cons_append, List.nil_append, mm_cats_nil, mm_cats_I, mm_cats_L, mm_cats_R, if_true, if_false, true_and, and_true, false_and, and_false, not_true_eq_false, not_false_eq_true, Int.reduceLE, Int.reduceLT, Int.reduceEq, Int.reduceNe, Int.reduceNeg, Int.reduceAdd, Int.reduceSub, Int.reduceMul, Nat.reduceAdd, Nat.reduceLeDiff, true_or, or_true, false_or, or_false, reduceIte]
    rw [st, gm, xe_174_2]
    simp only [xe_174_3, xe_174_4, xe_174_7, xe_174_8, xe_174_11, xe_174_12, xe_174_13, xe_174_14, xe_174_17, xe_174_18, xe_174_19, xe_174_20, xe_174_21, xe_174_24, xe_174_25, xe_174_26, xe_174_27, xe_174_28, xe_174_29, xe_174_32, xe_174_35, xe_174_38, xe_174_39, xe_174_40, xe_174_43, xe_174_44, xe_174_45, xe_174_46, xe_174_47, xe_174_48, xe_174_51, xe_174_52, xe_174_53, xe_174_54, xe_174_55, xe_174_56, xe_174_59, xe_174_60, xe_174_62, xe_174_63, xe_174_64, xe_174_65, xe_174_68, xe_174_69, xe_174_70, xe_174_71, xe_174_72, xe_174_73, xe_174_76, xe_174_77, xe_174_78, xe_174_79, xe_174_80, xe_174_81, xe_174_84 _ _ (some (vI _)) _ _ _ _ _ rfl, xe_174_84 _ _ (some (vR _)) _ _ _ _ _ rfl, xe_174_84 _ _ none _ _ _ _ _ rfl, xe_174_85, xe_174_86 _ (some (vI _)) _ _ _ _ _ rfl, xe_174_86 _ (some (vR _)) _ _ _ _ _ rfl, xe_174_86 _ none _ _ _ _ _ rfl, xe_174_89, xe_174_92, xe_174_93, xe_174_96, xe_174_97, xe_174_98, xe_174_99, xe_174_100, xe_174_101, xe_174_102, ite_self, mm_nL_I, mm_nL_R, mm_nL_0, Option.bind_some, Option.bind_none, bnd_ite, Option.toList_some, Option.toList_none, List.cons_append, List.nil_append, mm_cats_nil, mm_cats_I, mm_cats_L, mm_cats_R, if_true, if_false, true_and, and_true, false_and, and_false, not_true_eq_false, not_false_eq_true, Int.reduceLE, Int.reduceLT, Int.reduceEq, Int.reduceNe, Int.reduceNeg, Int.reduceAdd, Int.reduceSub, Int.reduceMul, Nat.reduceAdd, Nat.reduceLeDiff, true_or, or_true, false_or, or_false, reduceIte, k_149, k_160, l_160, p24, g77, y0, y1, y2, y3, y4, y5, y6, z1, z2, z3, z4, z5, z6, m0, m1, m2, m3, m4, m5, m6, s_isIn, bi, yj, h]
  by_cases e : wv c1 r (c1 48) s = -1
  · rw [if_pos e] at O
    have q2 : ∀ q, 0 ≤ q → q < 12 → acc r (c1 48) 2 s 157 (12 * (s : Int) + q) = mdv2 (c1 48) 2 0 q := fun q q0 q1 => acc_z r (c1 48) 2 s t3 t4 t7 t8 q q0 q1
    obtain ⟨c', w1, w2, w3⟩ := st_off1 (L := L) hX1 hc hI1 hr1 hm1 2 0 (by omega) (by omega) (Or.inl rfl) e _ (fun q q0 q1 => acc_lo _ _ _ _ _ q1) q2
    have w4 := w3 (acc r (c1 48) 2 s) (acc_23 _ _ _ _) (acc_b _ _ _ _ _ (by omega) (by omega)) rfl
    obtain ⟨n1, n2, n3, n4, n5, n6⟩ := w4
    exact ⟨c', _, s + 1, FX' c' w1, FM' _ _ O, ⟨n1, n2, n3, fun i i0 i1 => by have := n4 i i0 i1; omega, n5, n6⟩, g1.tr w2, ⟨fun a ha => acc_b _ _ _ _ _ (by omega) (by omega), fun q hq => acc_k _ _ _ _ _ hq⟩⟩
  · rw [if_neg e] at O
    obtain ⟨c', w1, w2, w3⟩ := st_off0 (L := L) hX1 hc hI1 hr1 hm1 K5 2 0 e
    exact ⟨c', _, s, FX' c' w1, FM' _ _ O, w2, g1.tr w3, ⟨fun a ha => ms_row _ _ _ _ _ (by omega), fun q hq => by rw [ms_row _ _ _ _ _ (by omega)]⟩⟩
theorem st_cd (hX : SX c) (hM : SM r) (hI : INV K c r s) (hr : Qr c r) (hm : Qm c r) (K5 : K ≤ 5000) (hT : Rtb c r) (code : Int) :
    ∃ c' r' s', ev 35 0 [some (vR 45), some (vR 16), some (vI code), none] [] c (g_1 L) = some (none, c', g_1 L) ∧ ev 174 0 [some (vR 149), some (vI code), none, none] [] r (g_1 L) = some (none, r', g_1 L) ∧ INV (K + 1) c' r' s' ∧ gC c c' ∧ gR r r' := by
  by_cases h1 : code = 1
  · subst h1; exact st_c1 hX hM hI hr hm K5 hT 1 0 0 (by decide) (by decide) (by decide) (by decide) (by decide) (by decide) 640 480 800 525 25175 (by decide) (by decide) (by decide) (by decide) (by decide) rfl rfl rfl rfl rfl rfl rfl rfl rfl rfl (by decide) (by decide)
  by_cases h2 : code = 2
  · subst h2; exact st_c1 hX hM hI hr hm K5 hT 2 1 1 (by decide) (by decide) (by decide) (by decide) (by decide) (by decide) 720 480 858 525 27000 (by decide) (by decide) (by decide) (by decide) (by decide) rfl rfl rfl rfl rfl rfl rfl rfl rfl rfl (by decide) (by decide)
  by_cases h3 : code = 3
  · subst h3; exact st_c1 hX hM hI hr hm K5 hT 3 2 1 (by decide) (by decide) (by decide) (by decide) (by decide) (by decide) 720 480 858 525 27000 (by decide) (by decide) (by decide) (by decide) (by decide) rfl rfl rfl rfl rfl rfl rfl rfl rfl rfl (by decide) (by decide)
  by_cases h4 : code = 4
  · subst h4; exact st_c1 hX hM hI hr hm K5 hT 4 3 2 (by decide) (by decide) (by decide) (by decide) (by decide) (by decide) 1280 720 1650 750 74250 (by decide) (by decide) (by decide) (by decide) (by decide) rfl rfl rfl rfl rfl rfl rfl rfl rfl rfl (by decide) (by decide)
  by_cases h5 : code = 16
  · subst h5; exact st_c1 hX hM hI hr hm K5 hT 16 4 3 (by decide) (by decide) (by decide) (by decide) (by decide) (by decide) 1920 1080 2200 1125 148500 (by decide) (by decide) (by decide) (by decide) (by decide) rfl rfl rfl rfl rfl rfl rfl rfl rfl rfl (by decide) (by decide)
  by_cases h6 : code = 17
  · subst h6; exact st_c1 hX hM hI hr hm K5 hT 17 5 4 (by decide) (by decide) (by decide) (by decide) (by decide) (by decide) 720 576 864 625 27000 (by decide) (by decide) (by decide) (by decide) (by decide) rfl rfl rfl rfl rfl rfl rfl rfl rfl rfl (by decide) (by decide)
  by_cases h7 : code = 18
  · subst h7; exact st_c1 hX hM hI hr hm K5 hT 18 6 4 (by decide) (by decide) (by decide) (by decide) (by decide) (by decide) 720 576 864 625 27000 (by decide) (by decide) (by decide) (by decide) (by decide) rfl rfl rfl rfl rfl rfl rfl rfl rfl rfl (by decide) (by decide)
  by_cases h8 : code = 19
  · subst h8; exact st_c1 hX hM hI hr hm K5 hT 19 7 5 (by decide) (by decide) (by decide) (by decide) (by decide) (by decide) 1280 720 1980 750 74250 (by decide) (by decide) (by decide) (by decide) (by decide) rfl rfl rfl rfl rfl rfl rfl rfl rfl rfl (by decide) (by decide)
  by_cases h9 : code = 31
  · subst h9; exact st_c1 hX hM hI hr hm K5 hT 31 8 6 (by decide) (by decide) (by decide) (by decide) (by decide) (by decide) 1920 1080 2640 1125 148500 (by decide) (by decide) (by decide) (by decide) (by decide) rfl rfl rfl rfl rfl rfl rfl rfl rfl rfl (by decide) (by decide)
  by_cases h10 : code = 32
  · subst h10; exact st_c1 hX hM hI hr hm K5 hT 32 9 7 (by decide) (by decide) (by decide) (by decide) (by decide) (by decide) 1920 1080 2750 1125 74250 (by decide) (by decide) (by decide) (by decide) (by decide) rfl rfl rfl rfl rfl rfl rfl rfl rfl rfl (by decide) (by decide)
  by_cases h11 : code = 63
  · subst h11; exact st_c1 hX hM hI hr hm K5 hT 63 10 8 (by decide) (by decide) (by decide) (by decide) (by decide) (by decide) 1920 1080 2200 1125 297000 (by decide) (by decide) (by decide) (by decide) (by decide) rfl rfl rfl rfl rfl rfl rfl rfl rfl rfl (by decide) (by decide)
  by_cases h12 : code = 95
  · subst h12; exact st_c1 hX hM hI hr hm K5 hT 95 11 9 (by decide) (by decide) (by decide) (by decide) (by decide) (by decide) 3840 2160 4400 2250 297000 (by decide) (by decide) (by decide) (by decide) (by decide) rfl rfl rfl rfl rfl rfl rfl rfl rfl rfl (by decide) (by decide)
  by_cases h13 : code = 97
  · subst h13; exact st_c1 hX hM hI hr hm K5 hT 97 12 10 (by decide) (by decide) (by decide) (by decide) (by decide) (by decide) 3840 2160 4400 2250 594000 (by decide) (by decide) (by decide) (by decide) (by decide) rfl rfl rfl rfl rfl rfl rfl rfl rfl rfl (by decide) (by decide)
  obtain ⟨_, tC, _, _, tM, _⟩ := hT
  have p24 := sm_149_24 hM
  have gx := cd_go (L := L) tC code 13 (by omega) (fun k hk => by
    rcases (by omega : k = 0 ∨ k = 1 ∨ k = 2 ∨ k = 3 ∨ k = 4 ∨ k = 5 ∨ k = 6 ∨ k = 7 ∨ k = 8 ∨ k = 9 ∨ k = 10 ∨ k = 11 ∨ k = 12) with rfl | rfl | rfl | rfl | rfl | rfl | rfl | rfl | rfl | rfl | rfl | rfl | rfl
    · show ¬ (1 : Int) = code; omega
    · show ¬ (2 : Int) = code; omega
    · show ¬ (3 : Int) = code; omega
    · show ¬ (4 : Int) = code; omega
    · show ¬ (16 : Int) = code; omega
    · show ¬ (17 : Int) = code; omega
    · show ¬ (18 : Int) = code; omega
    · show ¬ (19 : Int) = code; omega
    · show ¬ (31 : Int) = code; omega
    · show ¬ (32 : Int) = code; omega
    · show ¬ (63 : Int) = code; omega
    · show ¬ (95 : Int) = code; omega
    · show ¬ (97 : Int) = code; omega)
  have gm := cd_goM (L := L) tM p24 code 11 (by omega) (fun k hk => by
    rcases (by omega : k = 0 ∨ k = 1 ∨ k = 2 ∨ k = 3 ∨ k = 4 ∨ k = 5 ∨ k = 6 ∨ k = 7 ∨ k = 8 ∨ k = 9 ∨ k = 10) with rfl | rfl | rfl | rfl | rfl | rfl | rfl | rfl | rfl | rfl | rfl
    · show ¬ ((1 : Int) ≤ code ∧ code ≤ 1); omega
    · show ¬ ((2 : Int) ≤ code ∧ code ≤ 3); omega
    · show ¬ ((4 : Int) ≤ code ∧ code ≤ 4); omega
    · show ¬ ((16 : Int) ≤ code ∧ code ≤ 16); omega
    · show ¬ ((17 : Int) ≤ code ∧ code ≤ 18); omega
    · show ¬ ((19 : Int) ≤ code ∧ code ≤ 19); omega
    · show ¬ ((31 : Int) ≤ code ∧ code ≤ 31); omega
    · show ¬ ((32 : Int) ≤ code ∧ code ≤ 32); omega
    · show ¬ ((63 : Int) ≤ code ∧ code ≤ 63); omega
    · show ¬ ((95 : Int) ≤ code ∧ code ≤ 95); omega
    · show ¬ ((97 : Int) ≤ code ∧ code ≤ 97); omega)
  have b1 := hI.2.2.2.1 1 (by omega) (by omega)
  have wx : w32 (c 47 1 + 1) = c 47 1 + 1 := wi32 (by omega) (by omega)
  have wm : w32 (r 159 1 + 1) = r 159 1 + 1 := wi32 (by omega) (by omega)
  have st : ev 35 0 [some (vR 45), some (vR 16), some (vI code), none] [] c (g_1 L) = ev 35 2 [some (vR 45), some (vR 16), some (vI code), some (vI 0)] [] c (g_1 L) := by
    simp only [xe_35_0, xe_35_1 _ _ (some (vI _)) _ _ _ _ _ rfl, xe_35_1 _ _ (some (vR _)) _ _ _ _ _ rfl, xe_35_1 _ _ none _ _ _ _ _ rfl, ite_self, mm_nL_I, mm_nL_R, mm_nL_0, Option.bind_some, Option.bind_none, bnd_ite, Option.toList_some, Option.toList_none, List.cons_append, List.nil_append, mm_cats_nil, mm_cats_I, mm_cats_L, mm_cats_R, if_true, if_false, true_and, and_true, false_and, and_false, not_true_eq_false, not_false_eq_true, Int.reduceLE, Int.reduceLT, Int.reduceEq, Int.reduceNe, Int.reduceNeg, Int.reduceAdd, Int.reduceSub, Int.reduceMul, Nat.reduceAdd, Nat.reduceLeDiff, true_or, or_true, false_or, or_false, reduceIte]
  have sm' : ev 174 0 [some (vR 149), some (vI code), none, none] [] r (g_1 L) = ev 174 2 [some (vR 149), some (vI code), some (vI 0), none] [] r (g_1 L) := by
    simp only [xe_174_0, xe_174_1 _ (some (vI _)) _ _ _ _ _ _ rfl, xe_174_1 _ (some (vR _)) _ _ _ _ _ _ rfl, xe_174_1 _ none _ _ _ _ _ _ rfl, ite_self, mm_nL_I, mm_nL_R, mm_nL_0, Option.bind_some, Option.bind_none, bnd_ite, Option.toList_some, Option.toList_none, List.cons_append, List.nil_append, mm_cats_nil, mm_cats_I, mm_cats_L, mm_cats_R, if_true, if_false, true_and, and_true, false_and, and_false, not_true_eq_false, not_false_eq_true, Int.reduceLE, Int.reduceLT, Int.reduceEq, Int.reduceNe, Int.reduceNeg, Int.reduceAdd, Int.reduceSub, Int.reduceMul, Nat.reduceAdd, Nat.reduceLeDiff, true_or, or_true, false_or, or_false, reduceIte]
  have e78 : (6 : Int) * ((13 : Nat) : Int) = 78 := rfl
  have e77 : (7 : Int) * ((11 : Nat) : Int) = 77 := rfl
  rw [e78] at gx
  rw [e77] at gm
  have w84 : w32 84 = 84 := rfl
  refine ⟨mset c 47 1 (c 47 1 + 1), mset r 159 1 (r 159 1 + 1), s, ?_, ?_, st_out hI K5 c 1 (by omega) (by omega) rfl rfl rfl (fun _ _ _ => rfl), ⟨fun a ha => ms_row _ _ _ _ _ (by omega), fun k hk => by rw [ms_row _ _ _ _ _ (by omega)], fun j j0 j1 => by rw [ms_row _ _ _ _ _ (by omega)]⟩, ⟨fun a ha => ms_row _ _ _ _ _ (by omega), fun k hk => by rw [ms_row _ _ _ _ _ (by omega)]⟩⟩
  · rw [st, gx, xe_35_2]
    simp only [xe_35_3, xe_35_5, xe_35_6, xe_35_9, xe_35_10, xe_35_13, xe_35_16, xe_35_17, xe_35_18, xe_35_19, xe_35_22, xe_35_23, xe_35_26, xe_35_27, xe_35_30, xe_35_31, xe_35_32, xe_35_33, xe_35_34, xe_35_37, xe_35_38 _ _ (some (vI _)) _ _ _ _ rfl, xe_35_38 _ _ (some (vR _)) _ _ _ _ rfl, xe_35_38 _ _ none _ _ _ _ rfl, xe_35_41, xe_35_44, xe_35_45, xe_35_48, xe_35_49, xe_35_50, xe_35_51, xe_35_52, xe_35_53, xe_35_54, ite_self, mm_nL_I, mm_nL_R, mm_nL_0, Option.bind_some, Option.bind_none, bnd_ite, Option.toList_some, Option.toList_none, List.cons_append, List.nil_append, mm_cats_nil, mm_cats_I, mm_cats_L, mm_cats_R, if_true, if_false, true_and, and_true, false_and, and_false, not_true_eq_false, not_false_eq_true, Int.reduceLE, Int.reduceLT, Int.reduceEq, Int.reduceNe, Int.reduceNeg, Int.reduceAdd, Int.reduceSub, Int.reduceMul, Nat.reduceAdd, Nat.reduceLeDiff, true_or, or_true, false_or, or_false, reduceIte, k_2, l_2, k_45, k_47, l_47, w84, sx_45_1 hX, wx]
  · rw [sm', gm, xe_174_2]
    simp only [xe_174_3, xe_174_4, xe_174_7, xe_174_8, xe_174_11, xe_174_12, xe_174_13, xe_174_14, xe_174_17, xe_174_18, xe_174_19, xe_174_20, xe_174_21, xe_174_24, xe_174_25, xe_174_26, xe_174_27, xe_174_28, xe_174_29, xe_174_32, xe_174_35, xe_174_38, xe_174_39, xe_174_40, xe_174_43, xe_174_44, xe_174_45, xe_174_46, xe_174_47, xe_174_48, xe_174_51, xe_174_52, xe_174_53, xe_174_54, xe_174_55, xe_174_56, xe_174_59, xe_174_60, xe_174_62, xe_174_63, xe_174_64, xe_174_65, xe_174_68, xe_174_69, xe_174_70, xe_174_71, xe_174_72, xe_174_73, xe_174_76, xe_174_77, xe_174_78, xe_174_79, xe_174_80, xe_174_81, xe_174_84 _ _ (some (vI _)) _ _ _ _ _ rfl, xe_174_84 _ _ (some (vR _)) _ _ _ _ _ rfl, xe_174_84 _ _ none _ _ _ _ _ rfl, xe_174_85, xe_174_86 _ (some (vI _)) _ _ _ _ _ rfl, xe_174_86 _ (some (vR _)) _ _ _ _ _ rfl, xe_174_86 _ none _ _ _ _ _ rfl, xe_174_89, xe_174_92, xe_174_93, xe_174_96, xe_174_97, xe_174_98, xe_174_99, xe_174_100, xe_174_101, xe_174_102, ite_self, mm_nL_I, mm_nL_R, mm_nL_0, Option.bind_some, Option.bind_none, bnd_ite, Option.toList_some, Option.toList_none, List.cons_append, List.nil_append, mm_cats_nil, mm_cats_I, mm_cats_L, mm_cats_R, if_true, if_false, true_and, and_true, false_and, and_false, not_true_eq_false, not_false_eq_true, Int.reduceLE, Int.reduceLT, Int.reduceEq, Int.reduceNe, Int.reduceNeg, Int.reduceAdd, Int.reduceSub, Int.reduceMul, Nat.reduceAdd, Nat.reduceLeDiff, true_or, or_true, false_or, or_false, reduceIte, k_149, k_159, l_159, k_160, l_160, p24, sm_149_22 hM, wm]
end S3
