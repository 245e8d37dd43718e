/-! THE START: what the Statement gives, as the small machine's first memory -/
def ws_L : List Cond := flatC (Jvm.Cond.and given_1 narrow_1)
def rat_l : List Int := [162000, 270000, 540000, 810000]
theorem ws_tab {args : Array Value} {s : State} {tm : Term} {ty : FieldType} {N : Nat} {f : Nat → Int32} (hN : N < 2 ^ 31) (harr : (Cond.arrayOf tm ty).before args s = true) (hlen : (Cond.eq (.length tm) (.int (Int32.ofNat N))).before args s = true) (hel : ∀ j : Nat, j < N → (Cond.eq (.elem tm (.int (Int32.ofNat j))) (.int (f j))).before args s = true) : ∃ (t : Nat) (cell : Cell), tm.eval args s none [] s = some (.ref t) ∧ s.heap[t]? = some cell ∧ s.isArrayOf cell ty ∧ cell.vm ≠ .unknown ∧ cell.slots.size = N ∧ ∀ j : Nat, j < N → cell.slots[j]? = some (.int (f j)) := by
  have hl := va_eqt hlen
  obtain ⟨t, ht, cell, hcell, hof, hkn, h4, h5, h6, -⟩ := va_Tof (A := fun _ => False) (f := fun j => .int (f j)) hN harr hl (fun j hj => va_eqt (hel j hj)) (fun _ _ => id)
  refine ⟨t, cell, ht, hcell, hof, hkn, ?_, h6⟩
  have hsz : cell.slots.size < 2 ^ 31 := by
    obtain ⟨t', cell', ht', hat, -⟩ := Term.length_spec hl
    cases ht.symm.trans ht'
    obtain ⟨hc', -, -, -⟩ := State.arrayAt?_spec hat
    cases hcell.symm.trans hc'
    simp only [Term.eval, ht, hat, Option.bind_eq_bind, Option.bind_some] at hl
    by_cases hlt : cell.slots.size < 2147483648
    · exact hlt
    · simp [hlt] at hl
  have e : (Int32.ofNat cell.slots.size).toInt = (Int32.ofNat N).toInt := congrArg _ h5
  rw [Int32.toInt_ofNat_small hsz, Int32.toInt_ofNat_small hN] at e
  exact Int.ofNat.inj e
theorem ws_1 : ∀ j : Nat, j < 4 → ws_L[332 + j]? = some (Cond.eq (.elem (.static "ScreenTalk" "RATES" "[I") (.int (Int32.ofNat j))) (.int (Int32.ofInt (rat_l.getD j 0)))) := by decide +kernel
theorem ws_2 : ∀ j : Nat, j < 78 → ws_L[8 + j]? = some (Cond.eq (.elem (.static "ScreenTalk" "CODE_ROWS" "[I") (.int (Int32.ofNat j))) (.int (Int32.ofInt (cod_l.getD j 0)))) := by decide +kernel
theorem ws_3 : ∀ j : Nat, j < 30 → ws_L[89 + j]? = some (Cond.eq (.elem (.static "ScreenTalk" "ESTABLISHED_ROWS" "[I") (.int (Int32.ofNat j))) (.int (Int32.ofInt (est_l.getD j 0)))) := by decide +kernel
theorem ws_4 : ∀ j : Nat, j < 100 → ws_L[122 + j]? = some (Cond.eq (.elem (.static "java/lang/Integer" "DigitOnes" "[B") (.int (Int32.ofNat j))) (.int (Int32.ofInt (48 + (j : Int) % 10)))) := by decide +kernel
theorem ws_5 : ∀ j : Nat, j < 100 → ws_L[225 + j]? = some (Cond.eq (.elem (.static "java/lang/Integer" "DigitTens" "[B") (.int (Int32.ofNat j))) (.int (Int32.ofInt (48 + (j : Int) / 10)))) := by decide +kernel
theorem ws_tb {b : Nat} {s : State} (hts : ∀ w ∈ lw_tbl, w.before #[Value.ref b] s = true) : mm_TB s := by
  intro w hw hg a'
  have h := hts w hw
  cases hgw : goodWord w with
  | true => exact word_at (State.WarmedH.refl s) (good_of_word hgw) h
  | false =>
    have hn : mm_nest w = true := by
      unfold mm_gw at hg
      rw [hgw, Bool.false_or] at hg
      exact hg
    cases w
    case arrayOver ty => exact h
    case privateMethod y => exact h
    case fieldLinkNest => exact h
    case methodLinkNest => exact h
    all_goals (exact absurd hn (by simp [mm_nest]))
theorem ws_ins {c : Nat} {r : vw_C} (h : mm_cl[c]? = some r) : ∃ n, Cond.instantiable r.1 n ∈ lw_tbl := by
  match c, h with
  | 0, h => cases h; exact ⟨2, List.mem_of_getElem? (i := 123) (by decide +kernel)⟩
  | 1, h => cases h; exact ⟨2, List.mem_of_getElem? (i := 321) (by decide +kernel)⟩
  | 2, h => cases h; exact ⟨2, List.mem_of_getElem? (i := 140) (by decide +kernel)⟩
  | 3, h => cases h; exact ⟨4, List.mem_of_getElem? (i := 457) (by decide +kernel)⟩
  | 4, h => cases h; exact ⟨4, List.mem_of_getElem? (i := 274) (by decide +kernel)⟩
  | 5, h => cases h; exact ⟨5, List.mem_of_getElem? (i := 265) (by decide +kernel)⟩
  | 6, h => cases h; exact ⟨13, List.mem_of_getElem? (i := 155) (by decide +kernel)⟩
  | 7, h => cases h; exact ⟨10, List.mem_of_getElem? (i := 164) (by decide +kernel)⟩
  | 8, h => cases h; exact ⟨13, List.mem_of_getElem? (i := 396) (by decide +kernel)⟩
  | 9, h => cases h; exact ⟨4, List.mem_of_getElem? (i := 369) (by decide +kernel)⟩
  | 10, h => cases h; exact ⟨14, List.mem_of_getElem? (i := 115) (by decide +kernel)⟩
  | 11, h => cases h; exact ⟨47, List.mem_of_getElem? (i := 1279) (by decide +kernel)⟩
  | 12, h => cases h; exact ⟨4, List.mem_of_getElem? (i := 337) (by decide +kernel)⟩
  | n + 13, h => simp [mm_cl] at h
theorem ws_K {b : Nat} {s : State} (hts : ∀ w ∈ lw_tbl, w.before #[Value.ref b] s = true) : ∃ D : va_G, va_K D mm_cl [] s := by
  have key : ∀ c : Nat, ∃ q : ClassId × (Nat → Nat), ∀ r : vw_C, mm_cl[c]? = some r → u_Kn s r.1 r.2.1 r.2.2 q.1 q.2 := by
    intro c
    cases hc : mm_cl[c]? with
    | none => exact ⟨(0, fun _ => 0), fun r h => by cases h⟩
    | some r =>
      obtain ⟨n, hn⟩ := ws_ins hc
      obtain ⟨cC, iS, hk⟩ := u_known (C := r.1) (T := r.2.1) (N := r.2.2) (n := n) hts (fun w hw => (mm_cin hc w hw).1) (hts _ hn)
      exact ⟨(cC, iS), fun r' h => by cases h; exact hk⟩
  exact ⟨(fun c => (Classical.choose (key c)).1, fun c => (Classical.choose (key c)).2), fun c q hq => Classical.choose_spec (key c) q hq, fun k q h => by simp at h⟩
theorem ws_cell {Z : MZ} {D : va_G} {s : State} {G : MG} {f : Int → Int} {kd : Int} {N : Nat} {cell : Cell} (hk : kd = 100 ∨ kd = 101) (ho : s.isArrayOf cell (mm_at kd)) (hu : cell.vm ≠ .unknown) (hz : cell.slots.size = N) (hv : ∀ j : Nat, j < N → cell.slots[j]? = some (.int (Int32.ofInt (f j)))) (hr : ∀ j : Nat, j < N → mm_ran G (mm_et kd) (f j)) : mm_cell Z D s G f kd N cell := by
  obtain ⟨h1, k, h2, comp, h3⟩ := ho
  refine Or.inr ⟨by omega, by omega, ⟨h1, k, comp, h2, h3, fun C hC => ?_⟩, hu, by rw [hz], fun j hj => ⟨?_, hr j (by omega)⟩⟩
  · rcases hk with rfl | rfl
    · have e : mm_at 100 = .int := rfl
      rw [e] at hC; cases hC
    · have e : mm_at 101 = .byte := rfl
      rw [e] at hC; cases hC
  · rw [hv j (by omega)]
    rcases hk with rfl | rfl
    · rfl
    · rfl
def ws_m (xs : Nat → Int32) : MM := fun a j => if a = 1 then rat_l.getD j.toNat 0 else if a = 2 then cod_l.getD j.toNat 0 else if a = 3 then est_l.getD j.toNat 0 else if a = 4 then 48 + j % 10 else if a = 5 then 48 + j / 10 else if a = 6 then (xs j.toNat).toInt else 0
def ws_z (t1 t2 t3 t4 t5 b : Nat) (v : Value) (n : Nat) : MZ := (fun a => if a = 1 then t1 else if a = 2 then t2 else if a = 3 then t3 else if a = 4 then t4 else if a = 5 then t5 else b, v, n)
theorem kz_0 (L : Int) : gk (gp L 10 0) 0 = 50 ∧ gl (gp L 10 0) 0 = 0 := ⟨(gp_k (by decide) (by decide)).trans (by decide +kernel), (gp_l (by decide) (by decide)).trans (by decide +kernel)⟩
theorem kz_1 (L : Int) : gk (gp L 10 0) 1 = 100 ∧ gl (gp L 10 0) 1 = 4 := ⟨(gp_k (by decide) (by decide)).trans (by decide +kernel), (gp_l (by decide) (by decide)).trans (by decide +kernel)⟩
theorem kz_2 (L : Int) : gk (gp L 10 0) 2 = 100 ∧ gl (gp L 10 0) 2 = 78 := ⟨(gp_k (by decide) (by decide)).trans (by decide +kernel), (gp_l (by decide) (by decide)).trans (by decide +kernel)⟩
theorem kz_3 (L : Int) : gk (gp L 10 0) 3 = 100 ∧ gl (gp L 10 0) 3 = 30 := ⟨(gp_k (by decide) (by decide)).trans (by decide +kernel), (gp_l (by decide) (by decide)).trans (by decide +kernel)⟩
theorem kz_4 (L : Int) : gk (gp L 10 0) 4 = 101 ∧ gl (gp L 10 0) 4 = 100 := ⟨(gp_k (by decide) (by decide)).trans (by decide +kernel), (gp_l (by decide) (by decide)).trans (by decide +kernel)⟩
theorem kz_5 (L : Int) : gk (gp L 10 0) 5 = 101 ∧ gl (gp L 10 0) 5 = 100 := ⟨(gp_k (by decide) (by decide)).trans (by decide +kernel), (gp_l (by decide) (by decide)).trans (by decide +kernel)⟩
theorem kz_7 (L : Int) : gk (gp L 10 0) 7 = 50 ∧ gl (gp L 10 0) 7 = 0 := ⟨(gp_k (by decide) (by decide)).trans (by decide +kernel), (gp_l (by decide) (by decide)).trans (by decide +kernel)⟩
theorem kz_8 (L : Int) : gk (gp L 10 0) 8 = 50 ∧ gl (gp L 10 0) 8 = 0 := ⟨(gp_k (by decide) (by decide)).trans (by decide +kernel), (gp_l (by decide) (by decide)).trans (by decide +kernel)⟩
theorem kz_9 (L : Int) : gk (gp L 10 0) 9 = 50 ∧ gl (gp L 10 0) 9 = 0 := ⟨(gp_k (by decide) (by decide)).trans (by decide +kernel), (gp_l (by decide) (by decide)).trans (by decide +kernel)⟩
theorem kz_6 (L : Int) : gk (gp L 10 0) 6 = 100 ∧ gl (gp L 10 0) 6 = L := ⟨rfl, rfl⟩
theorem ws_10 {a : Int} (h0 : 0 ≤ a) (h1 : a < 10) : a = 0 ∨ a = 1 ∨ a = 2 ∨ a = 3 ∨ a = 4 ∨ a = 5 ∨ a = 6 ∨ a = 7 ∨ a = 8 ∨ a = 9 := by omega
theorem ws_gk {L a : Int} (h0 : 0 ≤ a) (h1 : a < 10) : 50 ≤ gk (gp L 10 0) a := by
  rcases ws_10 h0 h1 with rfl | rfl | rfl | rfl | rfl | rfl | rfl | rfl | rfl | rfl
  · rw [(kz_0 L).1]; decide
  · rw [(kz_1 L).1]; decide
  · rw [(kz_2 L).1]; decide
  · rw [(kz_3 L).1]; decide
  · rw [(kz_4 L).1]; decide
  · rw [(kz_5 L).1]; decide
  · rw [(kz_6 L).1]; decide
  · rw [(kz_7 L).1]; decide
  · rw [(kz_8 L).1]; decide
  · rw [(kz_9 L).1]; decide
theorem ws_gl {L : Int} (hL : L ≤ 3584) (a : Int) : gl (gp L 10 0) a < 2147483648 := by
  by_cases h0 : 0 ≤ a
  · by_cases h1 : a < 10
    · rcases ws_10 h0 h1 with rfl | rfl | rfl | rfl | rfl | rfl | rfl | rfl | rfl | rfl
      · rw [(kz_0 L).2]; decide
      · rw [(kz_1 L).2]; decide
      · rw [(kz_2 L).2]; decide
      · rw [(kz_3 L).2]; decide
      · rw [(kz_4 L).2]; decide
      · rw [(kz_5 L).2]; decide
      · rw [(kz_6 L).2]; omega
      · rw [(kz_7 L).2]; decide
      · rw [(kz_8 L).2]; decide
      · rw [(kz_9 L).2]; decide
    · have e : gl (gp L 10 0) a = 0 := by
        unfold gl gp
        show (if a = 6 then (100, L) else if a < 10 then kd_c a else (50, 0)).2 = 0
        rw [if_neg (by omega), if_neg h1]
      omega
  · have e : gl (gp L 10 0) a = 0 := by
      unfold gl gp
      show (if a = 6 then (100, L) else if a < 10 then kd_c a else (50, 0)).2 = 0
      rw [if_neg (by omega), if_pos (by omega)]
      unfold kd_c
      rw [if_pos (by omega)]
    omega
theorem ws_r1 {G : MG} {xs : Nat → Int32} : ∀ j : Nat, j < 4 → mm_ran G 0 (ws_m xs 1 j) := by
  intro j hj
  have h : ∀ j : Nat, j < 4 → -2147483648 ≤ rat_l.getD j 0 ∧ rat_l.getD j 0 < 2147483648 := by decide +kernel
  exact h j hj
theorem ws_r2 {G : MG} {xs : Nat → Int32} : ∀ j : Nat, j < 78 → mm_ran G 0 (ws_m xs 2 j) := by
  intro j hj
  have h : ∀ j : Nat, j < 78 → -2147483648 ≤ cod_l.getD j 0 ∧ cod_l.getD j 0 < 2147483648 := by decide +kernel
  exact h j hj
theorem ws_r3 {G : MG} {xs : Nat → Int32} : ∀ j : Nat, j < 30 → mm_ran G 0 (ws_m xs 3 j) := by
  intro j hj
  have h : ∀ j : Nat, j < 30 → -2147483648 ≤ est_l.getD j 0 ∧ est_l.getD j 0 < 2147483648 := by decide +kernel
  exact h j hj
theorem ws_r4 {G : MG} {xs : Nat → Int32} : ∀ j : Nat, j < 100 → mm_ran G 3 (ws_m xs 4 j) := by
  intro j hj
  have h : -128 ≤ 48 + (j : Int) % 10 ∧ 48 + (j : Int) % 10 < 128 := by omega
  exact h
theorem ws_r5 {G : MG} {xs : Nat → Int32} : ∀ j : Nat, j < 100 → mm_ran G 3 (ws_m xs 5 j) := by
  intro j hj
  have h : -128 ≤ 48 + (j : Int) / 10 ∧ 48 + (j : Int) / 10 < 128 := by omega
  exact h
theorem ws_HR {s : State} {b L : Nat} {xs : Nat → Int32} (D : va_G) (hX : va_X b L xs s s.heap) (hbl : b < s.heap.size) (hL : L ≤ 3584) (hts : ∀ w ∈ lw_tbl, w.before #[Value.ref b] s = true) (hgv : (Jvm.Cond.and given_1 narrow_1).before #[Value.ref b] s = true) : ∃ (t1 t2 t3 t4 t5 : Nat) (v : Value), mm_HR (ws_z t1 t2 t3 t4 t5 b v s.heap.size) D s (ws_m xs) (gp L 10 0) s.heap := by
  have hs := flat_of_before _ hgv
  have hA : ∀ a : Nat, a < s.heap.size → ¬ (fun x : Nat => s.heap.size ≤ x) a := fun a h => Nat.not_le.mpr h
  obtain ⟨t1, c1, a1, b1, d1, e1, f1, g1⟩ := ws_tab (tm := .static "ScreenTalk" "RATES" "[I") (ty := .int) (N := 4) (f := fun j => Int32.ofInt (rat_l.getD j 0)) (by decide) (hs _ (List.mem_of_getElem? (l := ws_L) (i := 330) (by decide +kernel))) (hs _ (List.mem_of_getElem? (l := ws_L) (i := 331) (by decide +kernel))) (fun j hj => hs _ (List.mem_of_getElem? (ws_1 j hj)))
  have z1 := va_Zof (A := fun x : Nat => s.heap.size ≤ x) (hts (.laysStatic "ScreenTalk" "RATES" "[I") (List.mem_of_getElem? (i := 1055) (by decide +kernel))) (hts (.initialized "ScreenTalk") (List.mem_of_getElem? (i := 90) (by decide +kernel))) a1 hA
  obtain ⟨t2, c2, a2, b2, d2, e2, f2, g2⟩ := ws_tab (tm := .static "ScreenTalk" "CODE_ROWS" "[I") (ty := .int) (N := 78) (f := fun j => Int32.ofInt (cod_l.getD j 0)) (by decide) (hs _ (List.mem_of_getElem? (l := ws_L) (i := 6) (by decide +kernel))) (hs _ (List.mem_of_getElem? (l := ws_L) (i := 7) (by decide +kernel))) (fun j hj => hs _ (List.mem_of_getElem? (ws_2 j hj)))
  have z2 := va_Zof (A := fun x : Nat => s.heap.size ≤ x) (hts (.laysStatic "ScreenTalk" "CODE_ROWS" "[I") (List.mem_of_getElem? (i := 699) (by decide +kernel))) (hts (.initialized "ScreenTalk") (List.mem_of_getElem? (i := 90) (by decide +kernel))) a2 hA
  obtain ⟨t3, c3, a3, b3, d3, e3, f3, g3⟩ := ws_tab (tm := .static "ScreenTalk" "ESTABLISHED_ROWS" "[I") (ty := .int) (N := 30) (f := fun j => Int32.ofInt (est_l.getD j 0)) (by decide) (hs _ (List.mem_of_getElem? (l := ws_L) (i := 87) (by decide +kernel))) (hs _ (List.mem_of_getElem? (l := ws_L) (i := 88) (by decide +kernel))) (fun j hj => hs _ (List.mem_of_getElem? (ws_3 j hj)))
  have z3 := va_Zof (A := fun x : Nat => s.heap.size ≤ x) (hts (.laysStatic "ScreenTalk" "ESTABLISHED_ROWS" "[I") (List.mem_of_getElem? (i := 729) (by decide +kernel))) (hts (.initialized "ScreenTalk") (List.mem_of_getElem? (i := 90) (by decide +kernel))) a3 hA
  obtain ⟨t4, c4, a4, b4, d4, e4, f4, g4⟩ := ws_tab (tm := .static "java/lang/Integer" "DigitOnes" "[B") (ty := .byte) (N := 100) (f := fun j => Int32.ofInt (48 + (j : Int) % 10)) (by decide) (hs _ (List.mem_of_getElem? (l := ws_L) (i := 120) (by decide +kernel))) (hs _ (List.mem_of_getElem? (l := ws_L) (i := 121) (by decide +kernel))) (fun j hj => hs _ (List.mem_of_getElem? (ws_4 j hj)))
  have z4 := va_Zof (A := fun x : Nat => s.heap.size ≤ x) (hts (.laysStatic "java/lang/Integer" "DigitOnes" "[B") (List.mem_of_getElem? (i := 922) (by decide +kernel))) (hts (.initialized "java/lang/Integer") (List.mem_of_getElem? (i := 112) (by decide +kernel))) a4 hA
  obtain ⟨t5, c5, a5, b5, d5, e5, f5, g5⟩ := ws_tab (tm := .static "java/lang/Integer" "DigitTens" "[B") (ty := .byte) (N := 100) (f := fun j => Int32.ofInt (48 + (j : Int) / 10)) (by decide) (hs _ (List.mem_of_getElem? (l := ws_L) (i := 223) (by decide +kernel))) (hs _ (List.mem_of_getElem? (l := ws_L) (i := 224) (by decide +kernel))) (fun j hj => hs _ (List.mem_of_getElem? (ws_5 j hj)))
  have z5 := va_Zof (A := fun x : Nat => s.heap.size ≤ x) (hts (.laysStatic "java/lang/Integer" "DigitTens" "[B") (List.mem_of_getElem? (i := 924) (by decide +kernel))) (hts (.initialized "java/lang/Integer") (List.mem_of_getElem? (i := 112) (by decide +kernel))) a5 hA
  have z6 := va_Zof (A := fun x : Nat => s.heap.size ≤ x) (hts (.laysStatic "java/lang/String" "COMPACT_STRINGS" "Z") (List.mem_of_getElem? (i := 346) (by decide +kernel))) (hts (.initialized "java/lang/String") (List.mem_of_getElem? (i := 100) (by decide +kernel))) (va_eqi (z := 1) (hs _ (List.mem_of_getElem? (l := ws_L) (i := 4) (by decide +kernel)))) hA
  have z7 : ∃ v, mm_isr v ∧ va_Z "jdk/internal/util/Preconditions" "SIOOBE_FORMATTER" "Ljava/util/function/BiFunction;" v (fun x : Nat => s.heap.size ≤ x) s s.heap := by
    rcases va_Zqof (A := fun x : Nat => s.heap.size ≤ x) (hts (.laysStatic "jdk/internal/util/Preconditions" "SIOOBE_FORMATTER" "Ljava/util/function/BiFunction;") (List.mem_of_getElem? (i := 938) (by decide +kernel))) (hts (.initialized "jdk/internal/util/Preconditions") (List.mem_of_getElem? (i := 113) (by decide +kernel))) (hs _ (List.mem_of_getElem? (l := ws_L) (i := 325) (by decide +kernel))) hA with h | ⟨t, h⟩
    · exact ⟨.null, Or.inl rfl, h⟩
    · exact ⟨.ref t, Or.inr ⟨t, rfl⟩, h⟩
  obtain ⟨v, v1, v2⟩ := z7
  obtain ⟨scr, x1, x2, x3, x4, x5⟩ := hX
  have l1 := (Array.getElem?_eq_some_iff.mp b1).1
  have l2 := (Array.getElem?_eq_some_iff.mp b2).1
  have l3 := (Array.getElem?_eq_some_iff.mp b3).1
  have l4 := (Array.getElem?_eq_some_iff.mp b4).1
  have l5 := (Array.getElem?_eq_some_iff.mp b5).1
  refine ⟨t1, t2, t3, t4, t5, v, Int.le_refl 10, rfl, ?_, v1, ⟨(kz_0 L).1, (kz_7 L).1, fun a h0 h1 => ws_gk h0 h1, fun a => ws_gl (by omega) a⟩, ?_, ?_⟩
  · intro a _
    show (if a = 1 then t1 else if a = 2 then t2 else if a = 3 then t3 else if a = 4 then t4 else if a = 5 then t5 else b) < s.heap.size
    split
    · exact l1
    · split
      · exact l2
      · split
        · exact l3
        · split
          · exact l4
          · split
            · exact l5
            · exact hbl
  · unfold mm_Zs mm_stats
    refine List.forall_mem_cons.mpr ⟨z1, List.forall_mem_cons.mpr ⟨z2, List.forall_mem_cons.mpr ⟨z3, List.forall_mem_cons.mpr ⟨z4, List.forall_mem_cons.mpr ⟨z5, List.forall_mem_cons.mpr ⟨z6, List.forall_mem_cons.mpr ⟨v2, fun _ h => absurd h List.not_mem_nil⟩⟩⟩⟩⟩⟩⟩
  · intro a h0 h1
    rcases ws_10 h0 h1 with rfl | rfl | rfl | rfl | rfl | rfl | rfl | rfl | rfl | rfl
    · exact Or.inl (kz_0 L).1
    · refine Or.inr ⟨c1, b1, ?_⟩
      rw [(kz_1 L).1, (kz_1 L).2]
      exact ws_cell (N := 4) (Or.inl rfl) d1 e1 f1 g1 (fun j hj => ws_r1 j hj)
    · refine Or.inr ⟨c2, b2, ?_⟩
      rw [(kz_2 L).1, (kz_2 L).2]
      exact ws_cell (N := 78) (Or.inl rfl) d2 e2 f2 g2 (fun j hj => ws_r2 j hj)
    · refine Or.inr ⟨c3, b3, ?_⟩
      rw [(kz_3 L).1, (kz_3 L).2]
      exact ws_cell (N := 30) (Or.inl rfl) d3 e3 f3 g3 (fun j hj => ws_r3 j hj)
    · refine Or.inr ⟨c4, b4, ?_⟩
      rw [(kz_4 L).1, (kz_4 L).2]
      exact ws_cell (N := 100) (Or.inr rfl) d4 e4 f4 g4 (fun j hj => ws_r4 j hj)
    · refine Or.inr ⟨c5, b5, ?_⟩
      rw [(kz_5 L).1, (kz_5 L).2]
      exact ws_cell (N := 100) (Or.inr rfl) d5 e5 f5 g5 (fun j hj => ws_r5 j hj)
    · refine Or.inr ⟨scr, x1, ?_⟩
      rw [(kz_6 L).1, (kz_6 L).2]
      refine ws_cell (N := L) (Or.inl rfl) x2 x3 x4 (fun j hj => ?_) (fun j hj => ?_)
      · show scr.slots[j]? = some (.int (Int32.ofInt ((xs ((j : Int).toNat)).toInt)))
        rw [Int32.ofInt_toInt, Int.toNat_natCast]; exact x5 j hj
      · exact mm_tok (xs ((j : Int).toNat))
    · exact Or.inl (kz_7 L).1
    · exact Or.inl (kz_8 L).1
    · exact Or.inl (kz_9 L).1
