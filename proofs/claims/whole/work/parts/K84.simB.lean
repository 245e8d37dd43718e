section SIMB
variable {Z : MZ} {D : va_G} {l : Launch} {m pc pc' nx : Nat} {ls ls' : ML} {st st' : List MV} {μ μ' : MM} {G G' : MG} {r : MR}
theorem mm_k_aload {i : Nat} {x : Int} (hd : decode (mm_code m) pc = .ok (.aload i, 2)) (hi : ls[i]? = some (some (vR x))) : mm_K Z D l m pc ls st (pc + 2) ls (vR x :: st) μ G := by
  intro p e R s mi args below meth c H locs cells slots Q rl hC hH hL hS hl k
  exact mm_aload hC.1 hC.2.1 (mm_rvf hH.2.2.2.1 x) hd (hL.2.2.2 i _ hi).1 (k rl hL (hS.cons (hL.2.2.2 i _ hi).2))
theorem mm_k_aload_n {i : Fin 4} {x : Int} (hd : decode (mm_code m) pc = .ok (.aload_n i, 1)) (hi : ls[(i : Nat)]? = some (some (vR x))) : mm_K Z D l m pc ls st (pc + 1) ls (vR x :: st) μ G := by
  intro p e R s mi args below meth c H locs cells slots Q rl hC hH hL hS hl k
  exact mm_aload_n hC.1 hC.2.1 (mm_rvf hH.2.2.2.1 x) hd (hL.2.2.2 i _ hi).1 (k rl hL (hS.cons (hL.2.2.2 i _ hi).2))
-- stores
theorem mm_k_istore {i : Nat} {x : Int} (hd : decode (mm_code m) pc = .ok (.istore i, 2)) (hn : mm_nl ls i = true) (hi : i < ls.length) : mm_K Z D l m pc ls (vI x :: st) (pc + 2) (ls.set i (some (vI x))) st μ G := by
  intro p e R s mi args below meth c H locs cells slots Q rl hC hH hL hS hl k
  exact lv_istore hC.1 hC.2.1 hd hL.has (by rw [← hL.1]; exact hi) rfl (fun rl' h' => k rl' (hL.set1 (v := vI x) hH.2.2.2.1 hS.hd hn hi h') hS.tl)
theorem mm_k_istore_n {i : Fin 4} {x : Int} (hd : decode (mm_code m) pc = .ok (.istore_n i, 1)) (hn : mm_nl ls i = true) (hi : (i : Nat) < ls.length) : mm_K Z D l m pc ls (vI x :: st) (pc + 1) (ls.set i (some (vI x))) st μ G := by
  intro p e R s mi args below meth c H locs cells slots Q rl hC hH hL hS hl k
  exact lv_istore_n hC.1 hC.2.1 hd rfl hL.has (by rw [← hL.1]; exact hi) rfl (fun rl' h' => k rl' (hL.set1 (v := vI x) hH.2.2.2.1 hS.hd hn hi h') hS.tl)
theorem mm_k_astore {i : Nat} {x : Int} (hd : decode (mm_code m) pc = .ok (.astore i, 2)) (hn : mm_nl ls i = true) (hi : i < ls.length) : mm_K Z D l m pc ls (vR x :: st) (pc + 2) (ls.set i (some (vR x))) st μ G := by
  intro p e R s mi args below meth c H locs cells slots Q rl hC hH hL hS hl k
  exact mm_astore hC.1 hC.2.1 (mm_rvf hH.2.2.2.1 x) hd hL.has (by rw [← hL.1]; exact hi) rfl (fun rl' h' => k rl' (hL.set1 (v := vR x) hH.2.2.2.1 hS.hd hn hi h') hS.tl)
theorem mm_k_astore_n {i : Fin 4} {x : Int} (hd : decode (mm_code m) pc = .ok (.astore_n i, 1)) (hn : mm_nl ls i = true) (hi : (i : Nat) < ls.length) : mm_K Z D l m pc ls (vR x :: st) (pc + 1) (ls.set i (some (vR x))) st μ G := by
  intro p e R s mi args below meth c H locs cells slots Q rl hC hH hL hS hl k
  exact mm_astore_n hC.1 hC.2.1 (mm_rvf hH.2.2.2.1 x) hd hL.has (by rw [← hL.1]; exact hi) rfl (fun rl' h' => k rl' (hL.set1 (v := vR x) hH.2.2.2.1 hS.hd hn hi h') hS.tl)
theorem mm_k_lstore {i : Nat} {x : Int} (hd : decode (mm_code m) pc = .ok (.lstore i, 2)) (hn : mm_nl ls i = true) (hi : i + 1 < ls.length) : mm_K Z D l m pc ls (vL x :: st) (pc + 2) ((ls.set i (some (vL x))).set (i + 1) none) st μ G := by
  intro p e R s mi args below meth c H locs cells slots Q rl hC hH hL hS hl k
  exact lv_lstore hC.1 hC.2.1 hd hL.has (by rw [← hL.1]; exact hi) rfl (fun rl' h' => k rl' (hL.set2 (v := vL x) hH.2.2.2.1 hS.hd hn hi h') hS.tl)
theorem mm_k_lstore_n {i : Fin 4} {x : Int} (hd : decode (mm_code m) pc = .ok (.lstore_n i, 1)) (hn : mm_nl ls i = true) (hi : (i : Nat) + 1 < ls.length) : mm_K Z D l m pc ls (vL x :: st) (pc + 1) ((ls.set i (some (vL x))).set ((i : Nat) + 1) none) st μ G := by
  intro p e R s mi args below meth c H locs cells slots Q rl hC hH hL hS hl k
  exact lv_lstore_n hC.1 hC.2.1 hd rfl hL.has (by rw [← hL.1]; exact hi) rfl (fun rl' h' => k rl' (hL.set2 (v := vL x) hH.2.2.2.1 hS.hd hn hi h') hS.tl)
theorem mm_prs_at {i : Nat} {v : MV} (h : ls[i]? = some (some v)) : ∃ k : Nat, (mm_prs Z 0 ls)[k]? = some (i, mm_tr Z v) := by
  have := mm_in_prs (Z := Z) ls 0 i v h
  rw [Nat.zero_add] at this
  exact List.getElem?_of_mem this
theorem mm_k_iinc {i : Nat} {n x : Int} (hd : decode (mm_code m) pc = .ok (.iinc i n, 3)) (hx : ls[i]? = some (some (vI x))) (hn : mm_nl ls i = true) (hi : i < ls.length) : mm_K Z D l m pc ls st (pc + 3) (ls.set i (some (vI (w32 (x + n))))) st μ G := by
  intro p e R s mi args below meth c H locs cells slots Q rl hC hH hL hS hl k
  obtain ⟨q, hq⟩ := mm_prs_at (Z := Z) hx
  exact lv_iinc hC.1 hC.2.1 hd hL.has hq (v := Int32.ofInt (w32 (x + n))) (by rw [mm_ow, Int32.ofInt_add]) (by rw [← hL.1]; exact hi) rfl (fun rl' h' => k rl' (hL.set1 (v := vI (w32 (x + n))) hH.2.2.2.1 (mm_wok _) hn hi h') hS)
-- numbers
theorem mm_k_iadd {a b : Int} (hd : decode (mm_code m) pc = .ok (.iadd, 1)) : mm_K Z D l m pc ls (vI b :: vI a :: st) (pc + 1) ls (vI (w32 (a + b)) :: st) μ G := by
  intro p e R s mi args below meth c H locs cells slots Q rl hC hH hL hS hl k
  refine lv_iadd hC.1 hC.2.1 hd ?_
  have := k rl hL (hS.tl.tl.cons (v := vI (w32 (a + b))) (mm_wok _))
  rw [← Int32.ofInt_add, ← mm_ow]; exact this
theorem mm_k_isub {a b : Int} (hd : decode (mm_code m) pc = .ok (.isub, 1)) : mm_K Z D l m pc ls (vI b :: vI a :: st) (pc + 1) ls (vI (w32 (a - b)) :: st) μ G := by
  intro p e R s mi args below meth c H locs cells slots Q rl hC hH hL hS hl k
  refine lv_isub hC.1 hC.2.1 hd ?_
  have := k rl hL (hS.tl.tl.cons (v := vI (w32 (a - b))) (mm_wok _))
  rw [← Int32.ofInt_sub, ← mm_ow]; exact this
theorem mm_k_imul {a b : Int} (hd : decode (mm_code m) pc = .ok (.imul, 1)) : mm_K Z D l m pc ls (vI b :: vI a :: st) (pc + 1) ls (vI (w32 (a * b)) :: st) μ G := by
  intro p e R s mi args below meth c H locs cells slots Q rl hC hH hL hS hl k
  refine lv_imul hC.1 hC.2.1 hd ?_
  have := k rl hL (hS.tl.tl.cons (v := vI (w32 (a * b))) (mm_wok _))
  rw [← Int32.ofInt_mul, ← mm_ow]; exact this
theorem mm_k_ineg {a : Int} (hd : decode (mm_code m) pc = .ok (.ineg, 1)) : mm_K Z D l m pc ls (vI a :: st) (pc + 1) ls (vI (w32 (-a)) :: st) μ G := by
  intro p e R s mi args below meth c H locs cells slots Q rl hC hH hL hS hl k
  refine lv_ineg hC.1 hC.2.1 hd ?_
  have := k rl hL (hS.tl.cons (v := vI (w32 (-a))) (mm_wok _))
  rw [← Int32.ofInt_neg, ← mm_ow]; exact this
theorem mm_k_iand {a b : Int} (hd : decode (mm_code m) pc = .ok (.iand, 1)) : mm_K Z D l m pc ls (vI b :: vI a :: st) (pc + 1) ls (vI (mm_and a b) :: st) μ G := by
  intro p e R s mi args below meth c H locs cells slots Q rl hC hH hL hS hl k
  refine lv_iand hC.1 hC.2.1 hd ?_
  have := k rl hL (hS.tl.tl.cons (v := vI (mm_and a b)) (mm_tok _))
  simp only [List.map_cons, mm_tr, mm_and, Int32.ofInt_toInt] at this; exact this
theorem mm_k_ior {a b : Int} (hd : decode (mm_code m) pc = .ok (.ior, 1)) : mm_K Z D l m pc ls (vI b :: vI a :: st) (pc + 1) ls (vI (mm_or a b) :: st) μ G := by
  intro p e R s mi args below meth c H locs cells slots Q rl hC hH hL hS hl k
  refine lv_ior hC.1 hC.2.1 hd ?_
  have := k rl hL (hS.tl.tl.cons (v := vI (mm_or a b)) (mm_tok _))
  simp only [List.map_cons, mm_tr, mm_or, Int32.ofInt_toInt] at this; exact this
theorem mm_k_ixor {a b : Int} (hd : decode (mm_code m) pc = .ok (.ixor, 1)) : mm_K Z D l m pc ls (vI b :: vI a :: st) (pc + 1) ls (vI (mm_xor a b) :: st) μ G := by
  intro p e R s mi args below meth c H locs cells slots Q rl hC hH hL hS hl k
  refine lv_ixor hC.1 hC.2.1 hd ?_
  have := k rl hL (hS.tl.tl.cons (v := vI (mm_xor a b)) (mm_tok _))
  simp only [List.map_cons, mm_tr, mm_xor, Int32.ofInt_toInt] at this; exact this
theorem mm_k_ishl {a b : Int} (hd : decode (mm_code m) pc = .ok (.ishl, 1)) : mm_K Z D l m pc ls (vI b :: vI a :: st) (pc + 1) ls (vI (mm_shl a b) :: st) μ G := by
  intro p e R s mi args below meth c H locs cells slots Q rl hC hH hL hS hl k
  refine lv_ishl hC.1 hC.2.1 hd ?_
  have := k rl hL (hS.tl.tl.cons (v := vI (mm_shl a b)) (mm_tok _))
  simp only [List.map_cons, mm_tr, mm_shl, Int32.ofInt_toInt] at this; exact this
theorem mm_k_ishr {a b : Int} (hd : decode (mm_code m) pc = .ok (.ishr, 1)) : mm_K Z D l m pc ls (vI b :: vI a :: st) (pc + 1) ls (vI (mm_shr a b) :: st) μ G := by
  intro p e R s mi args below meth c H locs cells slots Q rl hC hH hL hS hl k
  refine lv_ishr hC.1 hC.2.1 hd ?_
  have := k rl hL (hS.tl.tl.cons (v := vI (mm_shr a b)) (mm_tok _))
  simp only [List.map_cons, mm_tr, mm_shr, Int32.ofInt_toInt] at this; exact this
theorem mm_ne0 {b : Int} (h : -2147483648 ≤ b ∧ b < 2147483648) (hb : ¬ b = 0) : ¬ Int32.ofInt b = 0 := by
  intro h0
  rw [← mm_0, mm_inj h (by omega)] at h0
  exact hb h0
theorem mm_k_idiv {a b : Int} (hd : decode (mm_code m) pc = .ok (.idiv, 1)) (hb : ¬ b = 0) : mm_K Z D l m pc ls (vI b :: vI a :: st) (pc + 1) ls (vI (mm_div a b) :: st) μ G := by
  intro p e R s mi args below meth c H locs cells slots Q rl hC hH hL hS hl k
  refine lv_idiv hC.1 hC.2.1 hd (mm_ne0 hS.hd hb) ?_
  have := k rl hL (hS.tl.tl.cons (v := vI (mm_div a b)) (mm_tok _))
  simp only [List.map_cons, mm_tr, mm_div, Int32.ofInt_toInt] at this; exact this
theorem mm_k_irem {a b : Int} (hd : decode (mm_code m) pc = .ok (.irem, 1)) (hb : ¬ b = 0) : mm_K Z D l m pc ls (vI b :: vI a :: st) (pc + 1) ls (vI (mm_rem a b) :: st) μ G := by
  intro p e R s mi args below meth c H locs cells slots Q rl hC hH hL hS hl k
  refine lv_irem hC.1 hC.2.1 hd (mm_ne0 hS.hd hb) ?_
  have := k rl hL (hS.tl.tl.cons (v := vI (mm_rem a b)) (mm_tok _))
  simp only [List.map_cons, mm_tr, mm_rem, Int32.ofInt_toInt] at this; exact this
theorem mm_k_i2b {a : Int} (hd : decode (mm_code m) pc = .ok (.i2b, 1)) : mm_K Z D l m pc ls (vI a :: st) (pc + 1) ls (vI (mm_i2b a) :: st) μ G := by
  intro p e R s mi args below meth c H locs cells slots Q rl hC hH hL hS hl k
  refine lv_i2b hC.1 hC.2.1 hd rfl ?_
  have := k rl hL (hS.tl.cons (v := vI (mm_i2b a)) (mm_tok _))
  simp only [List.map_cons, mm_tr, mm_i2b, Int32.ofInt_toInt] at this; exact this
theorem mm_k_i2c {a : Int} (hd : decode (mm_code m) pc = .ok (.i2c, 1)) : mm_K Z D l m pc ls (vI a :: st) (pc + 1) ls (vI (mm_i2c a) :: st) μ G := by
  intro p e R s mi args below meth c H locs cells slots Q rl hC hH hL hS hl k
  refine lv_i2c hC.1 hC.2.1 hd (lg_i2c_nf _) ?_
  have := k rl hL (hS.tl.cons (v := vI (mm_i2c a)) (mm_tok _))
  simp only [List.map_cons, mm_tr, mm_i2c, Int32.ofInt_toInt] at this; exact this
theorem mm_k_ladd {a b : Int} (hd : decode (mm_code m) pc = .ok (.ladd, 1)) : mm_K Z D l m pc ls (vL b :: vL a :: st) (pc + 1) ls (vL (w64 (a + b)) :: st) μ G := by
  intro p e R s mi args below meth c H locs cells slots Q rl hC hH hL hS hl k
  refine lv_ladd hC.1 hC.2.1 hd ?_
  have := k rl hL (hS.tl.tl.cons (v := vL (w64 (a + b))) (mm_wok64 _))
  rw [← Int64.ofInt_add, ← mm_ow64]; exact this
theorem mm_k_lsub {a b : Int} (hd : decode (mm_code m) pc = .ok (.lsub, 1)) : mm_K Z D l m pc ls (vL b :: vL a :: st) (pc + 1) ls (vL (w64 (a - b)) :: st) μ G := by
  intro p e R s mi args below meth c H locs cells slots Q rl hC hH hL hS hl k
  refine lv_lsub hC.1 hC.2.1 hd ?_
  have := k rl hL (hS.tl.tl.cons (v := vL (w64 (a - b))) (mm_wok64 _))
  rw [← Int64.ofInt_sub, ← mm_ow64]; exact this
theorem mm_k_lmul {a b : Int} (hd : decode (mm_code m) pc = .ok (.lmul, 1)) : mm_K Z D l m pc ls (vL b :: vL a :: st) (pc + 1) ls (vL (w64 (a * b)) :: st) μ G := by
  intro p e R s mi args below meth c H locs cells slots Q rl hC hH hL hS hl k
  refine lv_lmul hC.1 hC.2.1 hd ?_
  have := k rl hL (hS.tl.tl.cons (v := vL (w64 (a * b))) (mm_wok64 _))
  rw [← Int64.ofInt_mul, ← mm_ow64]; exact this
theorem mm_k_ldiv {a b : Int} (hd : decode (mm_code m) pc = .ok (.ldiv, 1)) (hb : ¬ b = 0) : mm_K Z D l m pc ls (vL b :: vL a :: st) (pc + 1) ls (vL (mm_ldiv a b) :: st) μ G := by
  intro p e R s mi args below meth c H locs cells slots Q rl hC hH hL hS hl k
  refine lv_ldiv hC.1 hC.2.1 hd (fun h0 => hb ?_) ?_
  · have h1 := congrArg Int64.toInt h0
    rw [mm_ti64 hS.hd] at h1
    exact h1
  · have := k rl hL (hS.tl.tl.cons (v := vL (mm_ldiv a b)) (mm_tok64 _))
    simp only [List.map_cons, mm_tr, mm_ldiv, Int64.ofInt_toInt] at this; exact this
theorem mm_k_i2l {a : Int} (hd : decode (mm_code m) pc = .ok (.i2l, 1)) : mm_K Z D l m pc ls (vI a :: st) (pc + 1) ls (vL a :: st) μ G := by
  intro p e R s mi args below meth c H locs cells slots Q rl hC hH hL hS hl k
  have ha : -2147483648 ≤ a ∧ a < 2147483648 := hS.hd
  refine lv_i2l hC.1 hC.2.1 hd (v := Int64.ofInt a) ?_ (k rl hL (hS.tl.cons (v := vL a) ⟨by omega, by omega⟩))
  rw [← Int64.toInt_inj, Int32.toInt_toInt64, mm_ti ha, mm_ti64 (by omega)]
theorem mm_k_l2i {a : Int} (hd : decode (mm_code m) pc = .ok (.l2i, 1)) : mm_K Z D l m pc ls (vL a :: st) (pc + 1) ls (vI (w32 a) :: st) μ G := by
  intro p e R s mi args below meth c H locs cells slots Q rl hC hH hL hS hl k
  have ha : -9223372036854775808 ≤ a ∧ a < 9223372036854775808 := hS.hd
  refine lv_l2i hC.1 hC.2.1 hd (v := Int32.ofInt (w32 a)) ?_ (k rl hL (hS.tl.cons (v := vI (w32 a)) (mm_wok _)))
  rw [← Int32.toInt_inj, Int64.toInt_toInt32, mm_ti64 ha, mm_ti (mm_wok _), mm_bm]
theorem mm_k_lcmp {a b : Int} (hd : decode (mm_code m) pc = .ok (.lcmp, 1)) : mm_K Z D l m pc ls (vL b :: vL a :: st) (pc + 1) ls (vI (mm_cmp a b) :: st) μ G := by
  intro p e R s mi args below meth c H locs cells slots Q rl hC hH hL hS hl k
  have hb : -9223372036854775808 ≤ b ∧ b < 9223372036854775808 := hS.hd
  have ha : -9223372036854775808 ≤ a ∧ a < 9223372036854775808 := hS.tl.hd
  refine W.lcmp hC.1 hC.2.1 hd ?_
  have h1 : (mm_cmp a b = -1 ∨ mm_cmp a b = 0) ∨ mm_cmp a b = 1 := by
    unfold mm_cmp; split
    · exact Or.inl (Or.inl rfl)
    · split
      · exact Or.inl (Or.inr rfl)
      · exact Or.inr rfl
  have := k rl hL (hS.tl.tl.cons (v := vI (mm_cmp a b)) (by show -2147483648 ≤ mm_cmp a b ∧ mm_cmp a b < 2147483648; omega))
  have e1 : lg_cmp (Int64.ofInt a) (Int64.ofInt b) = Int32.ofInt (mm_cmp a b) := by
    unfold lg_cmp mm_cmp
    have g1 : (Int64.ofInt a > Int64.ofInt b) ↔ b < a := by
      show Int64.ofInt b < Int64.ofInt a ↔ _
      rw [Int64.lt_iff_toInt_lt, mm_ti64 ha, mm_ti64 hb]
    have g2 : (Int64.ofInt a = Int64.ofInt b) ↔ a = b := by
      rw [← Int64.toInt_inj, mm_ti64 ha, mm_ti64 hb]
    by_cases q1 : b < a
    · rw [if_pos (g1.mpr q1), if_neg (by omega), if_neg (by omega)]; rfl
    · rw [if_neg (fun z => q1 (g1.mp z))]
      by_cases q2 : a = b
      · rw [if_pos (g2.mpr q2), if_neg (by omega), if_pos q2]; rfl
      · rw [if_neg (fun z => q2 (g2.mp z)), if_pos (by omega)]; rfl
  rw [e1]; exact this
-- the stack
theorem mm_k_dup {v : MV} (hz : mm_cat v = 1) (hd : decode (mm_code m) pc = .ok (.dup, 1)) : mm_K Z D l m pc ls (v :: st) (pc + 1) ls (v :: v :: st) μ G := by
  intro p e R s mi args below meth c H locs cells slots Q rl hC hH hL hS hl k
  exact lv_dup hC.1 hC.2.1 hd (by rw [mm_cat_eq hH.2.2.2.1]; exact hz) (k rl hL (hS.cons hS.hd))
theorem mm_k_pop {v : MV} (hz : mm_cat v = 1) (hd : decode (mm_code m) pc = .ok (.pop, 1)) : mm_K Z D l m pc ls (v :: st) (pc + 1) ls st μ G := by
  intro p e R s mi args below meth c H locs cells slots Q rl hC hH hL hS hl k
  exact lv_pop hC.1 hC.2.1 hd (by rw [mm_cat_eq hH.2.2.2.1]; exact hz) (k rl hL hS.tl)
theorem mm_k_dup_x1 {v w : MV} (hz : mm_cat v = 1) (hw : mm_cat w = 1) (hd : decode (mm_code m) pc = .ok (.dup_x1, 1)) : mm_K Z D l m pc ls (v :: w :: st) (pc + 1) ls (v :: w :: v :: st) μ G := by
  intro p e R s mi args below meth c H locs cells slots Q rl hC hH hL hS hl k
  exact lv_dup_x1 hC.1 hC.2.1 hd (by rw [mm_cat_eq hH.2.2.2.1]; exact hz) (by rw [mm_cat_eq hH.2.2.2.1]; exact hw) (k rl hL (((hS.tl.tl.cons hS.hd).cons hS.tl.hd).cons hS.hd))
theorem mm_k_dup2 {v w : MV} (hz : mm_cat v = 1) (hw : mm_cat w = 1) (hd : decode (mm_code m) pc = .ok (.dup2, 1)) : mm_K Z D l m pc ls (v :: w :: st) (pc + 1) ls (v :: w :: v :: w :: st) μ G := by
  intro p e R s mi args below meth c H locs cells slots Q rl hC hH hL hS hl k
  exact lv_dup2_11 hC.1 hC.2.1 hd (by rw [mm_cat_eq hH.2.2.2.1]; exact hz) (by rw [mm_cat_eq hH.2.2.2.1]; exact hw) (k rl hL ((hS.cons hS.tl.hd).cons hS.hd))
-- branches
theorem mm_k_goto {off : Int} (hd : decode (mm_code m) pc = .ok (.goto off, 3)) (ho : 0 ≤ (pc : Int) + off) : mm_K Z D l m pc ls st (((pc : Int) + off).toNat) ls st μ G := by
  intro p e R s mi args below meth c H locs cells slots Q rl hC hH hL hS hl k
  exact lv_goto hC.1 hC.2.1 hd (by omega) (k rl hL hS)
theorem mm_k_icmp {cd : ClassFile.Cond} {a b off : Int} (hd : decode (mm_code m) pc = .ok (.if_icmp cd off, 3)) (ho : 0 ≤ (pc : Int) + off) : mm_K Z D l m pc ls (vI b :: vI a :: st) (if mm_cnd cd a b = true then ((pc : Int) + off).toNat else pc + 3) ls st μ G := by
  intro p e R s mi args below meth c H locs cells slots Q rl hC hH hL hS hl k
  have hb : -2147483648 ≤ b ∧ b < 2147483648 := hS.hd
  have ha : -2147483648 ≤ a ∧ a < 2147483648 := hS.tl.hd
  have k := k rl hL hS.tl.tl
  cases cd with
  | eq => exact lv_icmp_eq (tgt := ((pc : Int) + off).toNat) hC.1 hC.2.1 hd (by omega) (fun h => by rw [if_pos ((mm_cnd_eq a b).mpr ((mm_inj ha hb).mp h))] at k; exact k) (fun h => by rw [if_neg (fun z => h ((mm_inj ha hb).mpr ((mm_cnd_eq a b).mp z)))] at k; exact k)
  | ne => exact lv_icmp_ne (tgt := ((pc : Int) + off).toNat) hC.1 hC.2.1 hd (by omega) (fun h => by rw [if_pos ((mm_cnd_ne a b).mpr (fun z => h ((mm_inj ha hb).mpr z)))] at k; exact k) (fun h => by rw [if_neg (fun z => (mm_cnd_ne a b).mp z ((mm_inj ha hb).mp h))] at k; exact k)
  | lt => exact lv_icmp_lt (tgt := ((pc : Int) + off).toNat) hC.1 hC.2.1 hd (by omega) (fun h => by rw [if_pos ((mm_cnd_lt a b).mpr ((mm_ltI ha hb).mp h))] at k; exact k) (fun h => by rw [if_neg (fun z => h ((mm_ltI ha hb).mpr ((mm_cnd_lt a b).mp z)))] at k; exact k)
  | ge => exact lv_icmp_ge (tgt := ((pc : Int) + off).toNat) hC.1 hC.2.1 hd (by omega) (fun h => by rw [if_pos ((mm_cnd_ge a b).mpr ((mm_leI hb ha).mp h))] at k; exact k) (fun h => by rw [if_neg (fun z => h ((mm_leI hb ha).mpr ((mm_cnd_ge a b).mp z)))] at k; exact k)
  | gt => exact lv_icmp_gt (tgt := ((pc : Int) + off).toNat) hC.1 hC.2.1 hd (by omega) (fun h => by rw [if_pos ((mm_cnd_gt a b).mpr ((mm_ltI hb ha).mp h))] at k; exact k) (fun h => by rw [if_neg (fun z => h ((mm_ltI hb ha).mpr ((mm_cnd_gt a b).mp z)))] at k; exact k)
  | le => exact lv_icmp_le (tgt := ((pc : Int) + off).toNat) hC.1 hC.2.1 hd (by omega) (fun h => by rw [if_pos ((mm_cnd_le a b).mpr ((mm_leI ha hb).mp h))] at k; exact k) (fun h => by rw [if_neg (fun z => h ((mm_leI ha hb).mpr ((mm_cnd_le a b).mp z)))] at k; exact k)
theorem mm_k_if {cd : ClassFile.Cond} {a off : Int} (hd : decode (mm_code m) pc = .ok (.ifCond cd off, 3)) (ho : 0 ≤ (pc : Int) + off) : mm_K Z D l m pc ls (vI a :: st) (if mm_cnd cd a 0 = true then ((pc : Int) + off).toNat else pc + 3) ls st μ G := by
  intro p e R s mi args below meth c H locs cells slots Q rl hC hH hL hS hl k
  have ha : -2147483648 ≤ a ∧ a < 2147483648 := hS.hd
  have hb : -2147483648 ≤ (0 : Int) ∧ (0 : Int) < 2147483648 := by omega
  have k := k rl hL hS.tl
  have g1 : Int32.ofInt a = 0 ↔ a = 0 := by rw [← mm_0]; exact mm_inj ha hb
  have g2 : Int32.ofInt a < 0 ↔ a < 0 := by rw [← mm_0]; exact mm_ltI ha hb
  have g3 : 0 < Int32.ofInt a ↔ 0 < a := by rw [← mm_0]; exact mm_ltI hb ha
  have g4 : 0 ≤ Int32.ofInt a ↔ 0 ≤ a := by rw [← mm_0]; exact mm_leI hb ha
  have g5 : Int32.ofInt a ≤ 0 ↔ a ≤ 0 := by rw [← mm_0]; exact mm_leI ha hb
  cases cd with
  | eq => exact lv_if_eq (tgt := ((pc : Int) + off).toNat) hC.1 hC.2.1 hd (by omega) (fun h => by rw [if_pos ((mm_cnd_eq a 0).mpr (g1.mp h))] at k; exact k) (fun h => by rw [if_neg (fun z => h (g1.mpr ((mm_cnd_eq a 0).mp z)))] at k; exact k)
  | ne => exact lv_if_ne (tgt := ((pc : Int) + off).toNat) hC.1 hC.2.1 hd (by omega) (fun h => by rw [if_pos ((mm_cnd_ne a 0).mpr (fun z => h (g1.mpr z)))] at k; exact k) (fun h => by rw [if_neg (fun z => (mm_cnd_ne a 0).mp z (g1.mp h))] at k; exact k)
  | lt => exact lv_if_lt (tgt := ((pc : Int) + off).toNat) hC.1 hC.2.1 hd (by omega) (fun h => by rw [if_pos ((mm_cnd_lt a 0).mpr (g2.mp h))] at k; exact k) (fun h => by rw [if_neg (fun z => h (g2.mpr ((mm_cnd_lt a 0).mp z)))] at k; exact k)
  | ge => exact lv_if_ge (tgt := ((pc : Int) + off).toNat) hC.1 hC.2.1 hd (by omega) (fun h => by rw [if_pos ((mm_cnd_ge a 0).mpr (g4.mp h))] at k; exact k) (fun h => by rw [if_neg (fun z => h (g4.mpr ((mm_cnd_ge a 0).mp z)))] at k; exact k)
  | gt => exact lv_if_gt (tgt := ((pc : Int) + off).toNat) hC.1 hC.2.1 hd (by omega) (fun h => by rw [if_pos ((mm_cnd_gt a 0).mpr (g3.mp h))] at k; exact k) (fun h => by rw [if_neg (fun z => h (g3.mpr ((mm_cnd_gt a 0).mp z)))] at k; exact k)
  | le => exact lv_if_le (tgt := ((pc : Int) + off).toNat) hC.1 hC.2.1 hd (by omega) (fun h => by rw [if_pos ((mm_cnd_le a 0).mpr (g5.mp h))] at k; exact k) (fun h => by rw [if_neg (fun z => h (g5.mpr ((mm_cnd_le a 0).mp z)))] at k; exact k)
theorem mm_k_ifnull {a off : Int} (hd : decode (mm_code m) pc = .ok (.ifnull off, 3)) (ho : 0 ≤ (pc : Int) + off) (h7 : ¬ a = 7) : mm_K Z D l m pc ls (vR a :: st) (if a = 0 then ((pc : Int) + off).toNat else pc + 3) ls st μ G := by
  intro p e R s mi args below meth c H locs cells slots Q rl hC hH hL hS hl k
  have k := k rl hL hS.tl
  show W p l e R s mi args below meth c H locs cells slots Q (F0 mi pc rl (mm_rv Z a :: st.map (mm_tr Z)))
  by_cases h0 : a = 0
  · subst h0
    exact lv_ifnullN (tgt := ((pc : Int) + off).toNat) hC.1 hC.2.1 hd (by omega) k
  · rw [mm_rvr h0 h7]
    rw [if_neg h0] at k
    exact lv_ifnull hC.1 hC.2.1 hd k
theorem mm_k_ifnonnull {a off : Int} (hd : decode (mm_code m) pc = .ok (.ifnonnull off, 3)) (ho : 0 ≤ (pc : Int) + off) (h7 : ¬ a = 7) : mm_K Z D l m pc ls (vR a :: st) (if a = 0 then pc + 3 else ((pc : Int) + off).toNat) ls st μ G := by
  intro p e R s mi args below meth c H locs cells slots Q rl hC hH hL hS hl k
  have k := k rl hL hS.tl
  show W p l e R s mi args below meth c H locs cells slots Q (F0 mi pc rl (mm_rv Z a :: st.map (mm_tr Z)))
  by_cases h0 : a = 0
  · subst h0
    exact lv_ifnonnullN hC.1 hC.2.1 hd k
  · rw [mm_rvr h0 h7]
    rw [if_neg h0] at k
    exact lv_ifnonnull (tgt := ((pc : Int) + off).toNat) hC.1 hC.2.1 hd (by omega) k
end SIMB
