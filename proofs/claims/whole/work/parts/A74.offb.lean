/-! load: an offer on both sides -/
/-- parts of a mode as the reference has them -/
def mdv2 (t : Int → Int) (src pf k : Int) : Int := if k = 0 then t 1 else if k = 1 then t 5 else if k = 2 then hz t else if k = 3 then t 0 else if k = 4 then t 1 + t 2 else if k = 5 then t 5 + t 6 else if k = 6 then src else if k = 7 then pf else if k = 8 then t 3 else if k = 9 then t 4 else if k = 10 then t 7 else t 8
def sg (s P j : Int) : Int := if j < P then j else if j = P then s else if j ≤ s then j - 1 else j
theorem sg_ok {s P j : Int} (P0 : 0 ≤ P) (P1 : P ≤ s) (s1 : s < 40) (j0 : 0 ≤ j) (j1 : j < 40) : 0 ≤ sg s P j ∧ sg s P j < 40 := by unfold sg; (repeat' split) <;> omega
theorem sg_in {s P i j : Int} (P0 : 0 ≤ P) (P1 : P ≤ s) (h : sg s P i = sg s P j) : i = j := by
  unfold sg at h
  revert h
  (repeat' split) <;> omega
theorem mok_c {t m : Int → Int} (h : ct t) (h1 : m 1 = hz t) (h3 : m 3 = 0 ∨ m 3 = 1) (h2 : 0 ≤ m 2) (h2' : m 2 ≤ 4) : mok m t := by
  have Z := hz_ok h
  unfold ct at h
  unfold mok
  have w : (t 1 + t 2) * (t 5 + t 6) = Wt t := rfl
  rw [h1, w]
  refine ⟨h.1, h.2.1, h.2.2.1, h.2.2.2.1, h.2.2.2.2.1, h.2.2.2.2.2.1, h.2.2.2.2.2.2.1, h.2.2.2.2.2.2.2.1, h.2.2.2.2.2.2.2.2.1, h.2.2.2.2.2.2.2.2.2.1, h.2.2.2.2.2.2.2.2.2.2.1, h.2.2.2.2.2.2.2.2.2.2.2.1, h.2.2.2.2.2.2.2.2.2.2.2.2.1, h.2.2.2.2.2.2.2.2.2.2.2.2.2.1, h.2.2.2.2.2.2.2.2.2.2.2.2.2.2.1, h.2.2.2.2.2.2.2.2.2.2.2.2.2.2.2.1, h.2.2.2.2.2.2.2.2.2.2.2.2.2.2.2.2.1, h.2.2.2.2.2.2.2.2.2.2.2.2.2.2.2.2.2.1, Z.1, Z.2.2, h3, h2, h2'⟩
section OB
variable {L K : Int} {c r : MM} {s : Nat}
theorem INV.ke {K' : Int} {c' r' : MM} (h : INV K c r s) (k1 : c' 45 4 = c 45 4) (k2 : c' 46 = c 46) (k3 : ∀ i, 0 ≤ i → i < 7 → c' 47 i = r' 159 i ∧ 0 ≤ c' 47 i ∧ c' 47 i ≤ K') (k4 : ∀ a, 49 ≤ a → a ≤ 128 → c' a = c a) (q1 : r' 149 23 = r 149 23) (q2 : r' 157 = r 157) : INV K' c' r' s := by
  obtain ⟨h1, h2, h3, h4, h5, h6⟩ := h
  refine ⟨by rw [k1]; exact h1, by rw [q1]; exact h2, h3, k3, fun i i0 i1 => ?_, by unfold Rpl; rw [k2]; exact h6⟩
  obtain ⟨u, o1, u0, u1, x⟩ := h5 i i0 i1
  refine ⟨u, by rw [k2]; exact o1, u0, u1, ?_⟩
  rw [q2]
  unfold xm at *
  rw [k4 _ (by omega) (by omega), k4 _ (by omega) (by omega)]; exact x
theorem st_off0 (hX : SX c) (h : ct (c 48)) (hI : INV K c r s) (hr : Qr c r) (hm : Qm c r) (K5 : K ≤ 5000) (src pf : Int) (e : ¬ wv c r (c 48) s = -1) :
    ∃ c', ev 38 0 [some (vR 45), some (vR 16), some (vI src), some (vI pf), none] [] c (g_1 L) = some (none, c', g_1 L) ∧ INV (K + 1) c' (mset r 159 (wv c r (c 48) s) (r 159 (wv c r (c 48) s) + 1)) s ∧ gC c c' := by
  have hzz := s_hzX L 48 c (by omega) (k_48 L) h
  have g1 : gC c (mset c 45 3 (hz (c 48))) := ⟨fun a ha => ms_row _ _ _ _ _ (by omega), fun k hk => ms_nk _ _ _ _ _ _ (by omega), fun j j0 j1 => by rw [ms_row _ _ _ _ _ (by omega)]⟩
  have m8 : mset c 45 3 (hz (c 48)) 48 = c 48 := ms_row _ _ _ _ _ (by omega)
  have hI1 : INV K (mset c 45 3 (hz (c 48))) r s := hI.ke (ms_nk _ _ _ _ _ _ (by omega)) (ms_row _ _ _ _ _ (by omega)) (fun i i0 i1 => by rw [ms_row _ _ _ _ _ (by omega)]; exact hI.2.2.2.1 i i0 i1) (fun a a0 a1 => ms_row _ _ _ _ _ (by omega)) rfl rfl
  have hr1 : Qr (mset c 45 3 (hz (c 48))) r := hr.ke (by rw [ms_row _ _ _ _ _ (by omega)]) (ms_row _ _ _ _ _ (by omega)) rfl rfl
  have hm1 : Qm (mset c 45 3 (hz (c 48))) r := hm.ke (by rw [ms_row _ _ _ _ _ (by omega)]) rfl
  have Wy := s_why (L := L) (hX.g g1) (by rw [m8]; exact h) (by rw [ms_eq, m8]) hI1 hr1 hm1
  have we : wv (mset c 45 3 (hz (c 48))) r (mset c 45 3 (hz (c 48)) 48) s = wv c r (c 48) s := by
    rw [m8]; unfold wv ou; rw [ms_row _ _ _ _ 16 (by omega), ms_row _ _ _ _ 22 (by omega)]
  rw [we] at Wy
  have wo' := wv_ok c r (c 48) s
  generalize wv c r (c 48) s = w at *
  have wb := hI.2.2.2.1 w (by omega) (by omega)
  have x2 := sx_45_2 hX
  have x1 := sx_45_1 hX
  have hINV : INV (K + 1) (mset (mset c 45 3 (hz (c 48))) 47 w (c 47 w + 1)) (mset r 159 w (r 159 w + 1)) s := by
    refine hI.ke ?_ ?_ (fun i i0 i1 => ?_) (fun a a0 a1 => ?_) ?_ ?_
    · rw [ms_row _ _ _ _ _ (by omega), ms_nk _ _ _ _ _ _ (by omega)]
    · rw [ms_row _ _ _ _ _ (by omega), ms_row _ _ _ _ _ (by omega)]
    · have b := hI.2.2.2.1 i i0 i1
      rw [ms_sa, ms_sa, ms_row _ _ _ _ _ (by omega)]
      split
      · omega
      · omega
    · rw [ms_row _ _ _ _ _ (by omega), ms_row _ _ _ _ _ (by omega)]
    · rw [ms_row _ _ _ _ _ (by omega)]
    · rw [ms_row _ _ _ _ _ (by omega)]
  clear h hI hr hm hI1 hr1 hm1 we
  generalize hz (c 48) = z at *
  have wl : ¬ w < 0 := by omega
  have w7 : ¬ 7 ≤ w := by omega
  have w7' : w < 7 := by omega
  have w0 : 0 ≤ w := by omega
  have wi : w32 (c 47 w + 1) = c 47 w + 1 := wi32 (by omega) (by omega)
  have m45 : mset c 45 3 z 45 1 = 47 := by rw [ms_nk _ _ _ _ _ _ (by omega)]; exact x1
  have m47 : mset c 45 3 z 47 = c 47 := ms_row _ _ _ _ _ (by omega)
  refine ⟨mset (mset c 45 3 z) 47 w (c 47 w + 1), ?_, ?_, ?_⟩
  · simp only [xe_38_0, xe_38_1, xe_38_2, xe_38_5, xe_38_8, xe_38_11, xe_38_12, xe_38_13, xe_38_16 _ _ _ (some (vI _)) _ _ _ _ _ rfl, xe_38_16 _ _ _ (some (vR _)) _ _ _ _ _ rfl, xe_38_16 _ _ _ none _ _ _ _ _ rfl, xe_38_18, xe_38_20, xe_38_23, xe_38_25, xe_38_26, xe_38_29, xe_38_30, xe_38_33, xe_38_34, xe_38_37, xe_38_39, xe_38_40, xe_38_41, xe_38_42, xe_38_43, xe_38_44, xe_38_47, xe_38_48, xe_38_51, xe_38_54, xe_38_55, xe_38_58, xe_38_59, xe_38_62, xe_38_63, xe_38_66, xe_38_67, xe_38_68, xe_38_69, xe_38_72, ite_self, mm_nL_I, mm_nL_R, mm_nL_0, Option.bind_some, Option.bind_none, bnd_ite, Option.toList_some, Option.toList_none, List.cons_append, List.nil_append, mm_cats_nil, mm_cats_I, mm_cats_L, mm_cats_R, if_true, if_false, true_and, and_true, false_and, and_false, not_true_eq_false, not_false_eq_true, Int.reduceLE, Int.reduceLT, Int.reduceEq, Int.reduceNe, Int.reduceNeg, Int.reduceAdd, Int.reduceSub, Int.reduceMul, Nat.reduceAdd, Nat.reduceLeDiff, true_or, or_true, false_or, or_false, reduceIte, k_45, k_47, l_47, k_48, k_16, x2, hzz, Wy, m45, m47, wl, w7, w7', w0, wi]
  · exact hINV
  · exact ⟨fun a ha => by rw [ms_row _ _ _ _ _ (by omega), ms_row _ _ _ _ _ (by omega)], fun k hk => by rw [ms_row _ _ _ _ _ (by omega), ms_nk _ _ _ _ _ _ (by omega)], fun j j0 j1 => by rw [ms_row _ _ _ _ _ (by omega), ms_row _ _ _ _ _ (by omega)]⟩
theorem st_off1 (hX : SX c) (h : ct (c 48)) (hI : INV K c r s) (hr : Qr c r) (hm : Qm c r) (src pf : Int) (s0 : 0 ≤ src) (s4 : src ≤ 4) (hp : pf = 0 ∨ pf = 1) (e : wv c r (c 48) s = -1) (q : Int → Int) (q1 : ∀ j, 0 ≤ j → j < 12 * (s : Int) → q j = r 157 j) (q2 : ∀ k, 0 ≤ k → k < 12 → q (12 * (s : Int) + k) = mdv2 (c 48) src pf k) :
    ∃ c', ev 38 0 [some (vR 45), some (vR 16), some (vI src), some (vI pf), none] [] c (g_1 L) = some (none, c', g_1 L) ∧ gC c c' ∧ ∀ r', r' 149 23 = (s : Int) + 1 → r' 159 = r 159 → r' 157 = q → INV K c' r' (s + 1) := by
  have s40 : (s : Int) < 40 := by
    have := hI.2.2.1
    by_cases z : (s : Int) = 40
    · exfalso
      unfold wv at e
      rw [if_pos z] at e
      clear hI hr hm h
      revert e
      (repeat' split) <;> omega
    · omega
  have hzz := s_hzX L 48 c (by omega) (k_48 L) h
  have g1 : gC c (mset c 45 3 (hz (c 48))) := ⟨fun a ha => ms_row _ _ _ _ _ (by omega), fun k hk => ms_nk _ _ _ _ _ _ (by omega), fun j j0 j1 => by rw [ms_row _ _ _ _ _ (by omega)]⟩
  have m8 : mset c 45 3 (hz (c 48)) 48 = c 48 := ms_row _ _ _ _ _ (by omega)
  have hI1 : INV K (mset c 45 3 (hz (c 48))) r s := hI.ke (ms_nk _ _ _ _ _ _ (by omega)) (ms_row _ _ _ _ _ (by omega)) (fun i i0 i1 => by rw [ms_row _ _ _ _ _ (by omega)]; exact hI.2.2.2.1 i i0 i1) (fun a a0 a1 => ms_row _ _ _ _ _ (by omega)) rfl rfl
  have hr1 : Qr (mset c 45 3 (hz (c 48))) r := hr.ke (by rw [ms_row _ _ _ _ _ (by omega)]) (ms_row _ _ _ _ _ (by omega)) rfl rfl
  have hm1 : Qm (mset c 45 3 (hz (c 48))) r := hm.ke (by rw [ms_row _ _ _ _ _ (by omega)]) rfl
  have Wy := s_why (L := L) (hX.g g1) (by rw [m8]; exact h) (by rw [ms_eq, m8]) hI1 hr1 hm1
  have we : wv (mset c 45 3 (hz (c 48))) r (mset c 45 3 (hz (c 48)) 48) s = wv c r (c 48) s := by
    rw [m8]; unfold wv ou; rw [ms_row _ _ _ _ 16 (by omega), ms_row _ _ _ _ 22 (by omega)]
  rw [we, e] at Wy
  clear hr hm hr1 hm1 we
  have c13 : mset c 45 3 (hz (c 48)) 45 3 = hz (c 48) := ms_eq _ _ _ _
  have hX1 := hX.g g1
  generalize hc1 : mset c 45 3 (hz (c 48)) = c1 at *
  obtain ⟨i1, i2, i3, i4, i5, ⟨p1, p2⟩⟩ := hI1
  obtain ⟨uf, uf0, uf1, hu⟩ := p1 (s : Int) (by omega) s40
  have qc : sor q s = sor (r 157) s := sor_cg s q1
  have fr0 : ∀ u, 0 ≤ u → u < 40 → ¬ u = uf → fre c1 uf src pf (49 + 2 * u) = c1 (49 + 2 * u) ∧ fre c1 uf src pf (50 + 2 * u) = c1 (50 + 2 * u) := fun u u0 u1 hu => by
    refine ⟨?_, ?_⟩
    · funext j; unfold fre; rw [if_neg (by omega), if_neg (by omega), if_neg (by omega), if_neg (by omega)]
    · funext j; unfold fre; rw [if_neg (by omega), if_neg (by omega), if_neg (by omega), if_neg (by omega)]
  have ptr : c1 (49 + 2 * uf) 0 = 50 + 2 * uf := hX1.2.2 uf uf0 uf1
  have fA : ∀ j, 0 ≤ j → j ≤ 9 → fre c1 uf src pf (50 + 2 * uf) j = c 48 j := fun j j0 j9 => by
    unfold fre; rw [if_pos ⟨rfl, j0, j9⟩, m8]
  have fB0 : fre c1 uf src pf (49 + 2 * uf) 0 = 50 + 2 * uf := by
    unfold fre; rw [if_neg (by omega), if_neg (by omega), if_neg (by omega), if_neg (by omega)]; exact ptr
  have fB1 : fre c1 uf src pf (49 + 2 * uf) 1 = hz (c 48) := by
    unfold fre; rw [if_neg (by omega), if_pos ⟨rfl, rfl⟩]; exact c13
  have fB2 : fre c1 uf src pf (49 + 2 * uf) 2 = src := by
    unfold fre; rw [if_neg (by omega), if_neg (by omega), if_pos ⟨rfl, rfl⟩]
  have fB3 : fre c1 uf src pf (49 + 2 * uf) 3 = pf := by
    unfold fre; rw [if_neg (by omega), if_neg (by omega), if_neg (by omega), if_pos ⟨rfl, rfl⟩]
  have ctf : ct (fre c1 uf src pf (50 + 2 * uf)) := by
    unfold ct at *
    rw [fA 0 (by omega) (by omega), fA 1 (by omega) (by omega), fA 2 (by omega) (by omega), fA 3 (by omega) (by omega), fA 4 (by omega) (by omega), fA 5 (by omega) (by omega), fA 6 (by omega) (by omega), fA 7 (by omega) (by omega), fA 8 (by omega) (by omega), fA 9 (by omega) (by omega)]; exact h
  have hzf : hz (fre c1 uf src pf (50 + 2 * uf)) = hz (c 48) := by
    unfold hz Wt
    rw [fA 0 (by omega) (by omega), fA 1 (by omega) (by omega), fA 2 (by omega) (by omega), fA 5 (by omega) (by omega), fA 6 (by omega) (by omega)]
  have hF : xm (fre c1 uf src pf) uf q (s : Int) := by
    refine ⟨fB0, ⟨?_, ?_, ?_, ?_, ?_, ?_, ?_, ?_, ?_, ?_, ?_, ?_⟩, mok_c ctf (by rw [fB1, hzf]) (by rw [fB3]; exact hp) (by rw [fB2]; exact s0) (by rw [fB2]; exact s4)⟩
    · rw [fA 1 (by omega) (by omega), ← Int.add_zero (12 * (s : Int)), q2 0 (by omega) (by omega)]; rfl
    · rw [fA 5 (by omega) (by omega), q2 1 (by omega) (by omega)]; rfl
    · rw [fB1, q2 2 (by omega) (by omega)]; rfl
    · rw [fA 0 (by omega) (by omega), q2 3 (by omega) (by omega)]; rfl
    · rw [fA 1 (by omega) (by omega), fA 2 (by omega) (by omega), q2 4 (by omega) (by omega)]; rfl
    · rw [fA 5 (by omega) (by omega), fA 6 (by omega) (by omega), q2 5 (by omega) (by omega)]; rfl
    · rw [fB2, q2 6 (by omega) (by omega)]; rfl
    · rw [fB3, q2 7 (by omega) (by omega)]; rfl
    · rw [fA 3 (by omega) (by omega), q2 8 (by omega) (by omega)]; rfl
    · rw [fA 4 (by omega) (by omega), q2 9 (by omega) (by omega)]; rfl
    · rw [fA 7 (by omega) (by omega), q2 10 (by omega) (by omega)]; rfl
    · rw [fA 8 (by omega) (by omega), q2 11 (by omega) (by omega)]; rfl
  have h48 : c 48 9 = 0 := by unfold ct at h; omega
  have hl' : ∀ i, 0 ≤ i → i < (s : Int) → ∃ u, c1 46 i = 49 + 2 * u ∧ 0 ≤ u ∧ u < 40 ∧ xm (fre c1 uf src pf) u q (sor q s i) := fun i i0 i1' => by
    obtain ⟨u, o1, u0, u1, x⟩ := i5 i i0 i1'
    have ne : ¬ u = uf := fun z => by
      have := p2 i (s : Int) i0 (by omega) (by omega) s40 (by rw [o1, hu, z])
      omega
    refine ⟨u, o1, u0, u1, ?_⟩
    have so := sor_r (r 157) s i i0 i1'
    unfold xm at *
    rw [(fr0 u u0 u1 ne).1, (fr0 u u0 u1 ne).2, qc]
    refine ⟨x.1, ?_, x.2.2⟩
    have xx := x.2.1
    unfold Rmo at *
    have o12 : ∀ k, 0 ≤ k → k < 12 → q (12 * sor (r 157) s i + k) = r 157 (12 * sor (r 157) s i + k) := fun k k0 k1 => q1 _ (by omega) (by omega)
    have o0 := o12 0 (by omega) (by omega)
    rw [Int.add_zero] at o0
    rw [o0, o12 1 (by omega) (by omega), o12 2 (by omega) (by omega), o12 3 (by omega) (by omega), o12 4 (by omega) (by omega), o12 5 (by omega) (by omega), o12 6 (by omega) (by omega), o12 7 (by omega) (by omega), o12 8 (by omega) (by omega), o12 9 (by omega) (by omega), o12 10 (by omega) (by omega), o12 11 (by omega) (by omega)]
    exact xx
  have I := s_ins L (s : Int) src pf uf c1 q (sor q s) i1 (sx_45_0 hX1) (sx_45_2 hX1) (by omega) s40 hu uf0 uf1 ptr (by rw [m8]; exact Or.inl h48) hp hF hl'
  have po := pl_ok q (sor q s) (s : Int) s
  rw [show ((s : Int)).toNat = s from rfl] at I
  have sn : sor q (s + 1) = insO (sor q s) (s : Int) (pl q (sor q s) (s : Int) s) := rfl
  generalize pl q (sor q s) (s : Int) s = P at *
  have x2 := sx_45_2 hX
  have x01 := sx_45_0 hX1
  have x11 := sx_45_1 hX1
  clear h ctf hzf hX hI
  have c246 : ∀ j, 0 ≤ j → j < 40 → mset (mset (lis (fre c1 uf src pf) (s : Int) P) 46 P (49 + 2 * uf)) 45 4 ((s : Int) + 1) 46 j = c1 46 (sg (s : Int) P j) := fun j j0 j1 => by
    have f46 : fre c1 uf src pf 46 = c1 46 := by funext j; unfold fre; rw [if_neg (by omega), if_neg (by omega), if_neg (by omega), if_neg (by omega)]
    rw [ms_row _ _ _ _ _ (by omega), ms_sa]
    unfold lis sg
    rw [f46]
    by_cases a : j = P
    · rw [if_pos a, if_neg (by omega), if_pos a, hu]
    · rw [if_neg a]
      by_cases b : j < P
      · rw [if_neg (by omega), if_pos b]
      · rw [if_neg b, if_neg a]
        by_cases d : j ≤ (s : Int)
        · rw [if_pos ⟨rfl, by omega, d⟩, if_pos d]
        · rw [if_neg (by omega), if_neg d]
  have c2b : ∀ b, ¬ b = 45 → ¬ b = 46 → mset (mset (lis (fre c1 uf src pf) (s : Int) P) 46 P (49 + 2 * uf)) 45 4 ((s : Int) + 1) b = fre c1 uf src pf b := fun b h1 h2 => by
    rw [ms_row _ _ _ _ _ h1, ms_row _ _ _ _ _ h2, lis_b _ _ _ _ h2]
  have c245 : ∀ k, ¬ k = 4 → mset (mset (lis (fre c1 uf src pf) (s : Int) P) 46 P (49 + 2 * uf)) 45 4 ((s : Int) + 1) 45 k = c1 45 k := fun k hk => by
    rw [ms_nk _ _ _ _ _ _ hk, ms_row _ _ _ _ _ (by omega), lis_b _ _ _ _ (by omega)]
    unfold fre; rw [if_neg (by omega), if_neg (by omega), if_neg (by omega), if_neg (by omega)]
  have frb : ∀ b, ¬ (49 ≤ b ∧ b ≤ 128) → fre c1 uf src pf b = c1 b := fun b hb => by
    funext j; unfold fre; rw [if_neg (by omega), if_neg (by omega), if_neg (by omega), if_neg (by omega)]
  refine ⟨mset (mset (lis (fre c1 uf src pf) (s : Int) P) 46 P (49 + 2 * uf)) 45 4 ((s : Int) + 1), ?_, ?_, fun r' ra rb rc => ?_⟩
  · have l1 : ¬ (s : Int) < 0 := by omega
    have l2 : ¬ 40 ≤ (s : Int) := by omega
    have lt : (-1 : Int) < 0 := by omega
    simp only [xe_38_0, xe_38_1, xe_38_2, xe_38_5, xe_38_8, xe_38_11, xe_38_12, xe_38_13, xe_38_16 _ _ _ (some (vI _)) _ _ _ _ _ rfl, xe_38_16 _ _ _ (some (vR _)) _ _ _ _ _ rfl, xe_38_16 _ _ _ none _ _ _ _ _ rfl, xe_38_18, xe_38_20, xe_38_23, xe_38_25, xe_38_26, xe_38_29, xe_38_30, xe_38_33, xe_38_34, xe_38_37, xe_38_39, xe_38_40, xe_38_41, xe_38_42, xe_38_43, xe_38_44, xe_38_47, xe_38_48, xe_38_51, xe_38_54, xe_38_55, xe_38_58, xe_38_59, xe_38_62, xe_38_63, xe_38_66, xe_38_67, xe_38_68, xe_38_69, xe_38_72, ite_self, mm_nL_I, mm_nL_R, mm_nL_0, Option.bind_some, Option.bind_none, bnd_ite, Option.toList_some, Option.toList_none, List.cons_append, List.nil_append, mm_cats_nil, mm_cats_I, mm_cats_L, mm_cats_R, if_true, if_false, true_and, and_true, false_and, and_false, not_true_eq_false, not_false_eq_true, Int.reduceLE, Int.reduceLT, Int.reduceEq, Int.reduceNe, Int.reduceNeg, Int.reduceAdd, Int.reduceSub, Int.reduceMul, Nat.reduceAdd, Nat.reduceLeDiff, true_or, or_true, false_or, or_false, reduceIte, k_45, k_46, l_46, k_48, k_16, x2, hzz, hc1, Wy, i1, x01, l1, l2, I]
  · refine gC.tr (b := c1) g1 ⟨fun a ha => ?_, fun k hk => ?_, fun j j0 j1 => ?_⟩
    · rw [c2b a (by omega) (by omega), frb a (by omega)]
    · exact c245 k (by omega)
    · rw [c2b _ (by omega) (by omega)]
      by_cases z : j = uf
      · rw [z, fB0, ptr]
      · rw [(fr0 j j0 j1 z).1]
  · refine ⟨ms_eq _ _ _ _, ?_, by omega, fun i i0 i7 => ?_, fun i i0 i7 => ?_, fun i i0 i7 => ?_, fun i j a0 a1 b0 b1 z => ?_⟩
    · rw [ra]; rfl
    · rw [c2b _ (by omega) (by omega), frb _ (by omega), rb]; exact i4 i i0 i7
    · have i7' : i < (s : Int) + 1 := i7
      rw [c246 i i0 (by omega), rc, sn]
      have xmc : ∀ u k, 0 ≤ u → u < 40 → xm (fre c1 uf src pf) u q k → xm (mset (mset (lis (fre c1 uf src pf) (s : Int) P) 46 P (49 + 2 * uf)) 45 4 ((s : Int) + 1)) u q k := fun u k u0 u1 hx => by
        unfold xm at *
        rw [c2b _ (by omega) (by omega), c2b _ (by omega) (by omega)]; exact hx
      by_cases a : i = P
      · have e1 : sg (s : Int) P i = (s : Int) := by unfold sg; rw [if_neg (by omega), if_pos a]
        have e2 : insO (sor q s) (s : Int) P i = (s : Int) := by unfold insO; rw [if_neg (by omega), if_pos a]
        rw [e1, e2]
        exact ⟨uf, hu, uf0, uf1, xmc _ _ uf0 uf1 hF⟩
      · have e1 : 0 ≤ sg (s : Int) P i ∧ sg (s : Int) P i < (s : Int) := by unfold sg; rw [if_neg a]; (repeat' split) <;> omega
        have e2 : insO (sor q s) (s : Int) P i = sor q s (sg (s : Int) P i) := by
          unfold insO sg
          by_cases b : i < P
          · rw [if_pos b, if_pos b]
          · rw [if_neg b, if_neg b, if_neg a, if_neg a, if_pos (by omega), if_pos (by omega)]
        obtain ⟨u, o1, u0, u1, hx⟩ := hl' _ e1.1 e1.2
        rw [e2]
        exact ⟨u, o1, u0, u1, xmc _ _ u0 u1 hx⟩
    · rw [c246 i i0 i7]
      have := sg_ok po.1 po.2 s40 i0 i7
      exact p1 _ this.1 this.2
    · rw [c246 i a0 a1, c246 j b0 b1] at z
      have x := sg_ok po.1 po.2 s40 a0 a1
      have y := sg_ok po.1 po.2 s40 b0 b1
      exact sg_in po.1 po.2 (p2 _ _ x.1 x.2 y.1 y.2 z)
end OB
