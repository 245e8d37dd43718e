-- X11_isIn
theorem pg_148_0 : mm_prog 148 0 = some (0, .lload_n 0, 1, []) := by decide +kernel
theorem xe_148_0 (a1 a2 a3 a4 a5 : Option MV) (x : Int) (st : List MV) (μ : MM) (G : MG) : ev 148 0 [some (vL x), a1, a2, a3, a4, a5] st μ G = ev 148 1 [some (vL x), a1, a2, a3, a4, a5] (vL x :: st) μ G := ev_stp pg_148_0 rfl
theorem pg_148_1 : mm_prog 148 1 = some (0, .lload_n 2, 2, []) := by decide +kernel
theorem xe_148_1 (a0 a1 a3 a4 a5 : Option MV) (x : Int) (st : List MV) (μ : MM) (G : MG) : ev 148 1 [a0, a1, some (vL x), a3, a4, a5] st μ G = ev 148 2 [a0, a1, some (vL x), a3, a4, a5] (vL x :: st) μ G := ev_stp pg_148_1 rfl
theorem pg_148_2 : mm_prog 148 2 = some (0, .lcmp, 3, []) := by decide +kernel
theorem xe_148_2 (a0 a1 a2 a3 a4 a5 : Option MV) (x y : Int) (st : List MV) (μ : MM) (G : MG) : ev 148 2 [a0, a1, a2, a3, a4, a5] (vL y :: vL x :: st) μ G = ev 148 3 [a0, a1, a2, a3, a4, a5] (vI (mm_cmp x y) :: st) μ G := ev_stp pg_148_2 rfl
theorem pg_148_3 : mm_prog 148 3 = some (0, .ifCond .lt 14, 6, []) := by decide +kernel
theorem xe_148_3 (a0 a1 a2 a3 a4 a5 : Option MV) (x : Int) (st : List MV) (μ : MM) (G : MG) : ev 148 3 [a0, a1, a2, a3, a4, a5] (vI x :: st) μ G = if x < 0 then ev 148 17 [a0, a1, a2, a3, a4, a5] st μ G else ev 148 6 [a0, a1, a2, a3, a4, a5] st μ G := ev_br (mm_cnd_lt x 0) pg_148_3 rfl
theorem pg_148_6 : mm_prog 148 6 = some (0, .lload_n 0, 7, []) := by decide +kernel
theorem xe_148_6 (a1 a2 a3 a4 a5 : Option MV) (x : Int) (st : List MV) (μ : MM) (G : MG) : ev 148 6 [some (vL x), a1, a2, a3, a4, a5] st μ G = ev 148 7 [some (vL x), a1, a2, a3, a4, a5] (vL x :: st) μ G := ev_stp pg_148_6 rfl
theorem pg_148_7 : mm_prog 148 7 = some (0, .lload 4, 9, []) := by decide +kernel
theorem xe_148_7 (a0 a1 a2 a3 a5 : Option MV) (x : Int) (st : List MV) (μ : MM) (G : MG) : ev 148 7 [a0, a1, a2, a3, some (vL x), a5] st μ G = ev 148 9 [a0, a1, a2, a3, some (vL x), a5] (vL x :: st) μ G := ev_stp pg_148_7 rfl
theorem pg_148_9 : mm_prog 148 9 = some (0, .lcmp, 10, []) := by decide +kernel
theorem xe_148_9 (a0 a1 a2 a3 a4 a5 : Option MV) (x y : Int) (st : List MV) (μ : MM) (G : MG) : ev 148 9 [a0, a1, a2, a3, a4, a5] (vL y :: vL x :: st) μ G = ev 148 10 [a0, a1, a2, a3, a4, a5] (vI (mm_cmp x y) :: st) μ G := ev_stp pg_148_9 rfl
theorem pg_148_10 : mm_prog 148 10 = some (0, .ifCond .gt 7, 13, []) := by decide +kernel
theorem xe_148_10 (a0 a1 a2 a3 a4 a5 : Option MV) (x : Int) (st : List MV) (μ : MM) (G : MG) : ev 148 10 [a0, a1, a2, a3, a4, a5] (vI x :: st) μ G = if 0 < x then ev 148 17 [a0, a1, a2, a3, a4, a5] st μ G else ev 148 13 [a0, a1, a2, a3, a4, a5] st μ G := ev_br (mm_cnd_gt x 0) pg_148_10 rfl
theorem pg_148_13 : mm_prog 148 13 = some (0, .iconst 1, 14, []) := by decide +kernel
theorem xe_148_13 (a0 a1 a2 a3 a4 a5 : Option MV) (st : List MV) (μ : MM) (G : MG) : ev 148 13 [a0, a1, a2, a3, a4, a5] st μ G = ev 148 14 [a0, a1, a2, a3, a4, a5] (vI (1) :: st) μ G := ev_stp pg_148_13 rfl
theorem pg_148_14 : mm_prog 148 14 = some (0, .goto 4, 17, []) := by decide +kernel
theorem xe_148_14 (a0 a1 a2 a3 a4 a5 : Option MV) (st : List MV) (μ : MM) (G : MG) : ev 148 14 [a0, a1, a2, a3, a4, a5] st μ G = ev 148 18 [a0, a1, a2, a3, a4, a5] st μ G := ev_stp pg_148_14 rfl
theorem pg_148_17 : mm_prog 148 17 = some (0, .iconst 0, 18, []) := by decide +kernel
theorem xe_148_17 (a0 a1 a2 a3 a4 a5 : Option MV) (st : List MV) (μ : MM) (G : MG) : ev 148 17 [a0, a1, a2, a3, a4, a5] st μ G = ev 148 18 [a0, a1, a2, a3, a4, a5] (vI (0) :: st) μ G := ev_stp pg_148_17 rfl
theorem pg_148_18 : mm_prog 148 18 = some (2, .ireturn, 19, [1]) := by decide +kernel
theorem xe_148_18 (a0 a1 a2 a3 a4 a5 : Option MV) (x : Int) (μ : MM) (G : MG) : ev 148 18 [a0, a1, a2, a3, a4, a5] [vI x] μ G = if x = 0 ∨ x = 1 then some (some (vI x), μ, G) else none := ev_retB pg_148_18
-- X11_has
theorem pg_149_0 : mm_prog 149 0 = some (0, .iload_n 0, 1, []) := by decide +kernel
theorem xe_149_0 (a1 : Option MV) (x : Int) (st : List MV) (μ : MM) (G : MG) : ev 149 0 [some (vI x), a1] st μ G = ev 149 1 [some (vI x), a1] (vI x :: st) μ G := ev_stp pg_149_0 rfl
theorem pg_149_1 : mm_prog 149 1 = some (0, .iload_n 1, 2, []) := by decide +kernel
theorem xe_149_1 (a0 : Option MV) (x : Int) (st : List MV) (μ : MM) (G : MG) : ev 149 1 [a0, some (vI x)] st μ G = ev 149 2 [a0, some (vI x)] (vI x :: st) μ G := ev_stp pg_149_1 rfl
theorem pg_149_2 : mm_prog 149 2 = some (0, .ishr, 3, []) := by decide +kernel
theorem xe_149_2 (a0 a1 : Option MV) (x y : Int) (st : List MV) (μ : MM) (G : MG) : ev 149 2 [a0, a1] (vI y :: vI x :: st) μ G = ev 149 3 [a0, a1] (vI (mm_shr x y) :: st) μ G := ev_stp pg_149_2 rfl
theorem pg_149_3 : mm_prog 149 3 = some (0, .iconst 1, 4, []) := by decide +kernel
theorem xe_149_3 (a0 a1 : Option MV) (st : List MV) (μ : MM) (G : MG) : ev 149 3 [a0, a1] st μ G = ev 149 4 [a0, a1] (vI (1) :: st) μ G := ev_stp pg_149_3 rfl
theorem pg_149_4 : mm_prog 149 4 = some (0, .iand, 5, []) := by decide +kernel
theorem xe_149_4 (a0 a1 : Option MV) (x y : Int) (st : List MV) (μ : MM) (G : MG) : ev 149 4 [a0, a1] (vI y :: vI x :: st) μ G = ev 149 5 [a0, a1] (vI (mm_and x y) :: st) μ G := ev_stp pg_149_4 rfl
theorem pg_149_5 : mm_prog 149 5 = some (0, .iconst 1, 6, []) := by decide +kernel
theorem xe_149_5 (a0 a1 : Option MV) (st : List MV) (μ : MM) (G : MG) : ev 149 5 [a0, a1] st μ G = ev 149 6 [a0, a1] (vI (1) :: st) μ G := ev_stp pg_149_5 rfl
theorem pg_149_6 : mm_prog 149 6 = some (0, .if_icmp .ne 7, 9, []) := by decide +kernel
theorem xe_149_6 (a0 a1 : Option MV) (x y : Int) (st : List MV) (μ : MM) (G : MG) : ev 149 6 [a0, a1] (vI y :: vI x :: st) μ G = if ¬ x = y then ev 149 13 [a0, a1] st μ G else ev 149 9 [a0, a1] st μ G := ev_br (mm_cnd_ne x y) pg_149_6 rfl
theorem pg_149_9 : mm_prog 149 9 = some (0, .iconst 1, 10, []) := by decide +kernel
theorem xe_149_9 (a0 a1 : Option MV) (st : List MV) (μ : MM) (G : MG) : ev 149 9 [a0, a1] st μ G = ev 149 10 [a0, a1] (vI (1) :: st) μ G := ev_stp pg_149_9 rfl
theorem pg_149_10 : mm_prog 149 10 = some (0, .goto 4, 13, []) := by decide +kernel
theorem xe_149_10 (a0 a1 : Option MV) (st : List MV) (μ : MM) (G : MG) : ev 149 10 [a0, a1] st μ G = ev 149 14 [a0, a1] st μ G := ev_stp pg_149_10 rfl
theorem pg_149_13 : mm_prog 149 13 = some (0, .iconst 0, 14, []) := by decide +kernel
theorem xe_149_13 (a0 a1 : Option MV) (st : List MV) (μ : MM) (G : MG) : ev 149 13 [a0, a1] st μ G = ev 149 14 [a0, a1] (vI (0) :: st) μ G := ev_stp pg_149_13 rfl
theorem pg_149_14 : mm_prog 149 14 = some (2, .ireturn, 15, [1]) := by decide +kernel
theorem xe_149_14 (a0 a1 : Option MV) (x : Int) (μ : MM) (G : MG) : ev 149 14 [a0, a1] [vI x] μ G = if x = 0 ∨ x = 1 then some (some (vI x), μ, G) else none := ev_retB pg_149_14
-- X11_greater
theorem pg_150_0 : mm_prog 150 0 = some (0, .iload_n 0, 1, []) := by decide +kernel
theorem xe_150_0 (a1 : Option MV) (x : Int) (st : List MV) (μ : MM) (G : MG) : ev 150 0 [some (vI x), a1] st μ G = ev 150 1 [some (vI x), a1] (vI x :: st) μ G := ev_stp pg_150_0 rfl
theorem pg_150_1 : mm_prog 150 1 = some (0, .iload_n 1, 2, []) := by decide +kernel
theorem xe_150_1 (a0 : Option MV) (x : Int) (st : List MV) (μ : MM) (G : MG) : ev 150 1 [a0, some (vI x)] st μ G = ev 150 2 [a0, some (vI x)] (vI x :: st) μ G := ev_stp pg_150_1 rfl
theorem pg_150_2 : mm_prog 150 2 = some (0, .if_icmp .le 7, 5, []) := by decide +kernel
theorem xe_150_2 (a0 a1 : Option MV) (x y : Int) (st : List MV) (μ : MM) (G : MG) : ev 150 2 [a0, a1] (vI y :: vI x :: st) μ G = if x ≤ y then ev 150 9 [a0, a1] st μ G else ev 150 5 [a0, a1] st μ G := ev_br (mm_cnd_le x y) pg_150_2 rfl
theorem pg_150_5 : mm_prog 150 5 = some (0, .iload_n 0, 6, []) := by decide +kernel
theorem xe_150_5 (a1 : Option MV) (x : Int) (st : List MV) (μ : MM) (G : MG) : ev 150 5 [some (vI x), a1] st μ G = ev 150 6 [some (vI x), a1] (vI x :: st) μ G := ev_stp pg_150_5 rfl
theorem pg_150_6 : mm_prog 150 6 = some (0, .goto 4, 9, []) := by decide +kernel
theorem xe_150_6 (a0 a1 : Option MV) (st : List MV) (μ : MM) (G : MG) : ev 150 6 [a0, a1] st μ G = ev 150 10 [a0, a1] st μ G := ev_stp pg_150_6 rfl
theorem pg_150_9 : mm_prog 150 9 = some (0, .iload_n 1, 10, []) := by decide +kernel
theorem xe_150_9 (a0 : Option MV) (x : Int) (st : List MV) (μ : MM) (G : MG) : ev 150 9 [a0, some (vI x)] st μ G = ev 150 10 [a0, some (vI x)] (vI x :: st) μ G := ev_stp pg_150_9 rfl
theorem pg_150_10 : mm_prog 150 10 = some (2, .ireturn, 11, [0]) := by decide +kernel
theorem xe_150_10 (a0 a1 : Option MV) (x : Int) (μ : MM) (G : MG) : ev 150 10 [a0, a1] [vI x] μ G = some (some (vI x), μ, G) := ev_ret pg_150_10 rfl
-- X11_init
theorem pg_151_0 : mm_prog 151 0 = some (0, .aload_n 0, 1, []) := by decide +kernel
theorem xe_151_0 (x : Int) (st : List MV) (μ : MM) (G : MG) : ev 151 0 [some (vR x)] st μ G = ev 151 1 [some (vR x)] (vR x :: st) μ G := ev_stp pg_151_0 rfl
theorem pg_151_1 : mm_prog 151 1 = some (0, .invokespecial 7, 4, []) := by decide +kernel
theorem xe_151_1 (a0 : Option MV) (x : Int) (st : List MV) (μ : MM) (G : MG) : ev 151 1 [a0] (vR x :: st) μ G = if 10 ≤ x ∧ mm_cats st ≤ 8 then ev 151 4 [a0] st μ G else none := ev_if pg_151_1 rfl
theorem pg_151_4 : mm_prog 151 4 = some (0, .aload_n 0, 5, []) := by decide +kernel
theorem xe_151_4 (x : Int) (st : List MV) (μ : MM) (G : MG) : ev 151 4 [some (vR x)] st μ G = ev 151 5 [some (vR x)] (vR x :: st) μ G := ev_stp pg_151_4 rfl
theorem pg_151_5 : mm_prog 151 5 = some (0, .sipush 520, 8, []) := by decide +kernel
theorem xe_151_5 (a0 : Option MV) (st : List MV) (μ : MM) (G : MG) : ev 151 5 [a0] st μ G = ev 151 8 [a0] (vI (520) :: st) μ G := ev_stp pg_151_5 rfl
theorem pg_151_8 : mm_prog 151 8 = some (0, .newarray .int, 10, [100]) := by decide +kernel
theorem xe_151_8 (a0 : Option MV) (x : Int) (st : List MV) (μ : MM) (G : MG) : ev 151 8 [a0] (vI x :: st) μ G = if 0 ≤ x ∧ x ≤ 100000 then ev 151 10 [a0] (vR G.2.1 :: st) (mzero μ G.2.1) (gnew G 100 x x) else none := ev_if pg_151_8 rfl
theorem pg_151_10 : mm_prog 151 10 = some (0, .putfield 13, 13, [11, 1, 2]) := by decide +kernel
theorem xe_151_10 (a0 : Option MV) (x y : Int) (st : List MV) (μ : MM) (G : MG) : ev 151 10 [a0] (vR x :: vR y :: st) μ G = if gk G y = 11 then ev 151 13 [a0] st (mset μ y 1 x) G else none := ev_put2 pg_151_10
theorem pg_151_13 : mm_prog 151 13 = some (0, .aload_n 0, 14, []) := by decide +kernel
theorem xe_151_13 (x : Int) (st : List MV) (μ : MM) (G : MG) : ev 151 13 [some (vR x)] st μ G = ev 151 14 [some (vR x)] (vR x :: st) μ G := ev_stp pg_151_13 rfl
theorem pg_151_14 : mm_prog 151 14 = some (0, .sipush 520, 17, []) := by decide +kernel
theorem xe_151_14 (a0 : Option MV) (st : List MV) (μ : MM) (G : MG) : ev 151 14 [a0] st μ G = ev 151 17 [a0] (vI (520) :: st) μ G := ev_stp pg_151_14 rfl
theorem pg_151_17 : mm_prog 151 17 = some (0, .newarray .int, 19, [100]) := by decide +kernel
theorem xe_151_17 (a0 : Option MV) (x : Int) (st : List MV) (μ : MM) (G : MG) : ev 151 17 [a0] (vI x :: st) μ G = if 0 ≤ x ∧ x ≤ 100000 then ev 151 19 [a0] (vR G.2.1 :: st) (mzero μ G.2.1) (gnew G 100 x x) else none := ev_if pg_151_17 rfl
theorem pg_151_19 : mm_prog 151 19 = some (0, .putfield 17, 22, [11, 2, 2]) := by decide +kernel
theorem xe_151_19 (a0 : Option MV) (x y : Int) (st : List MV) (μ : MM) (G : MG) : ev 151 19 [a0] (vR x :: vR y :: st) μ G = if gk G y = 11 then ev 151 22 [a0] st (mset μ y 2 x) G else none := ev_put2 pg_151_19
theorem pg_151_22 : mm_prog 151 22 = some (0, .aload_n 0, 23, []) := by decide +kernel
theorem xe_151_22 (x : Int) (st : List MV) (μ : MM) (G : MG) : ev 151 22 [some (vR x)] st μ G = ev 151 23 [some (vR x)] (vR x :: st) μ G := ev_stp pg_151_22 rfl
theorem pg_151_23 : mm_prog 151 23 = some (0, .sipush 512, 26, []) := by decide +kernel
theorem xe_151_23 (a0 : Option MV) (st : List MV) (μ : MM) (G : MG) : ev 151 23 [a0] st μ G = ev 151 26 [a0] (vI (512) :: st) μ G := ev_stp pg_151_23 rfl
theorem pg_151_26 : mm_prog 151 26 = some (0, .newarray .int, 28, [100]) := by decide +kernel
theorem xe_151_26 (a0 : Option MV) (x : Int) (st : List MV) (μ : MM) (G : MG) : ev 151 26 [a0] (vI x :: st) μ G = if 0 ≤ x ∧ x ≤ 100000 then ev 151 28 [a0] (vR G.2.1 :: st) (mzero μ G.2.1) (gnew G 100 x x) else none := ev_if pg_151_26 rfl
theorem pg_151_28 : mm_prog 151 28 = some (0, .putfield 20, 31, [11, 3, 2]) := by decide +kernel
theorem xe_151_28 (a0 : Option MV) (x y : Int) (st : List MV) (μ : MM) (G : MG) : ev 151 28 [a0] (vR x :: vR y :: st) μ G = if gk G y = 11 then ev 151 31 [a0] st (mset μ y 3 x) G else none := ev_put2 pg_151_28
theorem pg_151_31 : mm_prog 151 31 = some (0, .aload_n 0, 32, []) := by decide +kernel
theorem xe_151_31 (x : Int) (st : List MV) (μ : MM) (G : MG) : ev 151 31 [some (vR x)] st μ G = ev 151 32 [some (vR x)] (vR x :: st) μ G := ev_stp pg_151_31 rfl
theorem pg_151_32 : mm_prog 151 32 = some (0, .iconst (-1), 33, []) := by decide +kernel
theorem xe_151_32 (a0 : Option MV) (st : List MV) (μ : MM) (G : MG) : ev 151 32 [a0] st μ G = ev 151 33 [a0] (vI (-1) :: st) μ G := ev_stp pg_151_32 rfl
theorem pg_151_33 : mm_prog 151 33 = some (0, .putfield 23, 36, [11, 8, 0]) := by decide +kernel
theorem xe_151_33 (a0 : Option MV) (x y : Int) (st : List MV) (μ : MM) (G : MG) : ev 151 33 [a0] (vI x :: vR y :: st) μ G = if gk G y = 11 then ev 151 36 [a0] st (mset μ y 8 x) G else none := ev_put0 pg_151_33
theorem pg_151_36 : mm_prog 151 36 = some (0, .aload_n 0, 37, []) := by decide +kernel
theorem xe_151_36 (x : Int) (st : List MV) (μ : MM) (G : MG) : ev 151 36 [some (vR x)] st μ G = ev 151 37 [some (vR x)] (vR x :: st) μ G := ev_stp pg_151_36 rfl
theorem pg_151_37 : mm_prog 151 37 = some (0, .sipush 286, 40, []) := by decide +kernel
theorem xe_151_37 (a0 : Option MV) (st : List MV) (μ : MM) (G : MG) : ev 151 37 [a0] st μ G = ev 151 40 [a0] (vI (286) :: st) μ G := ev_stp pg_151_37 rfl
theorem pg_151_40 : mm_prog 151 40 = some (0, .newarray .int, 42, [100]) := by decide +kernel
theorem xe_151_40 (a0 : Option MV) (x : Int) (st : List MV) (μ : MM) (G : MG) : ev 151 40 [a0] (vI x :: st) μ G = if 0 ≤ x ∧ x ≤ 100000 then ev 151 42 [a0] (vR G.2.1 :: st) (mzero μ G.2.1) (gnew G 100 x x) else none := ev_if pg_151_40 rfl
theorem pg_151_42 : mm_prog 151 42 = some (0, .putfield 26, 45, [11, 9, 2]) := by decide +kernel
theorem xe_151_42 (a0 : Option MV) (x y : Int) (st : List MV) (μ : MM) (G : MG) : ev 151 42 [a0] (vR x :: vR y :: st) μ G = if gk G y = 11 then ev 151 45 [a0] st (mset μ y 9 x) G else none := ev_put2 pg_151_42
theorem pg_151_45 : mm_prog 151 45 = some (0, .aload_n 0, 46, []) := by decide +kernel
theorem xe_151_45 (x : Int) (st : List MV) (μ : MM) (G : MG) : ev 151 45 [some (vR x)] st μ G = ev 151 46 [some (vR x)] (vR x :: st) μ G := ev_stp pg_151_45 rfl
theorem pg_151_46 : mm_prog 151 46 = some (0, .bipush 13, 48, []) := by decide +kernel
theorem xe_151_46 (a0 : Option MV) (st : List MV) (μ : MM) (G : MG) : ev 151 46 [a0] st μ G = ev 151 48 [a0] (vI (13) :: st) μ G := ev_stp pg_151_46 rfl
theorem pg_151_48 : mm_prog 151 48 = some (0, .newarray .int, 50, [100]) := by decide +kernel
theorem xe_151_48 (a0 : Option MV) (x : Int) (st : List MV) (μ : MM) (G : MG) : ev 151 48 [a0] (vI x :: st) μ G = if 0 ≤ x ∧ x ≤ 100000 then ev 151 50 [a0] (vR G.2.1 :: st) (mzero μ G.2.1) (gnew G 100 x x) else none := ev_if pg_151_48 rfl
theorem pg_151_50 : mm_prog 151 50 = some (0, .putfield 29, 53, [11, 10, 2]) := by decide +kernel
theorem xe_151_50 (a0 : Option MV) (x y : Int) (st : List MV) (μ : MM) (G : MG) : ev 151 50 [a0] (vR x :: vR y :: st) μ G = if gk G y = 11 then ev 151 53 [a0] st (mset μ y 10 x) G else none := ev_put2 pg_151_50
theorem pg_151_53 : mm_prog 151 53 = some (0, .aload_n 0, 54, []) := by decide +kernel
theorem xe_151_53 (x : Int) (st : List MV) (μ : MM) (G : MG) : ev 151 53 [some (vR x)] st μ G = ev 151 54 [some (vR x)] (vR x :: st) μ G := ev_stp pg_151_53 rfl
theorem pg_151_54 : mm_prog 151 54 = some (0, .iconst 5, 55, []) := by decide +kernel
theorem xe_151_54 (a0 : Option MV) (st : List MV) (μ : MM) (G : MG) : ev 151 54 [a0] st μ G = ev 151 55 [a0] (vI (5) :: st) μ G := ev_stp pg_151_54 rfl
theorem pg_151_55 : mm_prog 151 55 = some (0, .newarray .int, 57, [100]) := by decide +kernel
theorem xe_151_55 (a0 : Option MV) (x : Int) (st : List MV) (μ : MM) (G : MG) : ev 151 55 [a0] (vI x :: st) μ G = if 0 ≤ x ∧ x ≤ 100000 then ev 151 57 [a0] (vR G.2.1 :: st) (mzero μ G.2.1) (gnew G 100 x x) else none := ev_if pg_151_55 rfl
theorem pg_151_57 : mm_prog 151 57 = some (0, .putfield 32, 60, [11, 11, 2]) := by decide +kernel
theorem xe_151_57 (a0 : Option MV) (x y : Int) (st : List MV) (μ : MM) (G : MG) : ev 151 57 [a0] (vR x :: vR y :: st) μ G = if gk G y = 11 then ev 151 60 [a0] st (mset μ y 11 x) G else none := ev_put2 pg_151_57
theorem pg_151_60 : mm_prog 151 60 = some (0, .aload_n 0, 61, []) := by decide +kernel
theorem xe_151_60 (x : Int) (st : List MV) (μ : MM) (G : MG) : ev 151 60 [some (vR x)] st μ G = ev 151 61 [some (vR x)] (vR x :: st) μ G := ev_stp pg_151_60 rfl
theorem pg_151_61 : mm_prog 151 61 = some (0, .sipush 512, 64, []) := by decide +kernel
theorem xe_151_61 (a0 : Option MV) (st : List MV) (μ : MM) (G : MG) : ev 151 61 [a0] st μ G = ev 151 64 [a0] (vI (512) :: st) μ G := ev_stp pg_151_61 rfl
theorem pg_151_64 : mm_prog 151 64 = some (0, .newarray .int, 66, [100]) := by decide +kernel
theorem xe_151_64 (a0 : Option MV) (x : Int) (st : List MV) (μ : MM) (G : MG) : ev 151 64 [a0] (vI x :: st) μ G = if 0 ≤ x ∧ x ≤ 100000 then ev 151 66 [a0] (vR G.2.1 :: st) (mzero μ G.2.1) (gnew G 100 x x) else none := ev_if pg_151_64 rfl
theorem pg_151_66 : mm_prog 151 66 = some (0, .putfield 35, 69, [11, 12, 2]) := by decide +kernel
theorem xe_151_66 (a0 : Option MV) (x y : Int) (st : List MV) (μ : MM) (G : MG) : ev 151 66 [a0] (vR x :: vR y :: st) μ G = if gk G y = 11 then ev 151 69 [a0] st (mset μ y 12 x) G else none := ev_put2 pg_151_66
theorem pg_151_69 : mm_prog 151 69 = some (0, .aload_n 0, 70, []) := by decide +kernel
theorem xe_151_69 (x : Int) (st : List MV) (μ : MM) (G : MG) : ev 151 69 [some (vR x)] st μ G = ev 151 70 [some (vR x)] (vR x :: st) μ G := ev_stp pg_151_69 rfl
theorem pg_151_70 : mm_prog 151 70 = some (0, .sipush 480, 73, []) := by decide +kernel
theorem xe_151_70 (a0 : Option MV) (st : List MV) (μ : MM) (G : MG) : ev 151 70 [a0] st μ G = ev 151 73 [a0] (vI (480) :: st) μ G := ev_stp pg_151_70 rfl
theorem pg_151_73 : mm_prog 151 73 = some (0, .newarray .int, 75, [100]) := by decide +kernel
theorem xe_151_73 (a0 : Option MV) (x : Int) (st : List MV) (μ : MM) (G : MG) : ev 151 73 [a0] (vI x :: st) μ G = if 0 ≤ x ∧ x ≤ 100000 then ev 151 75 [a0] (vR G.2.1 :: st) (mzero μ G.2.1) (gnew G 100 x x) else none := ev_if pg_151_73 rfl
theorem pg_151_75 : mm_prog 151 75 = some (0, .putfield 38, 78, [11, 20, 2]) := by decide +kernel
theorem xe_151_75 (a0 : Option MV) (x y : Int) (st : List MV) (μ : MM) (G : MG) : ev 151 75 [a0] (vR x :: vR y :: st) μ G = if gk G y = 11 then ev 151 78 [a0] st (mset μ y 20 x) G else none := ev_put2 pg_151_75
theorem pg_151_78 : mm_prog 151 78 = some (0, .aload_n 0, 79, []) := by decide +kernel
theorem xe_151_78 (x : Int) (st : List MV) (μ : MM) (G : MG) : ev 151 78 [some (vR x)] st μ G = ev 151 79 [some (vR x)] (vR x :: st) μ G := ev_stp pg_151_78 rfl
theorem pg_151_79 : mm_prog 151 79 = some (0, .bipush 40, 81, []) := by decide +kernel
theorem xe_151_79 (a0 : Option MV) (st : List MV) (μ : MM) (G : MG) : ev 151 79 [a0] st μ G = ev 151 81 [a0] (vI (40) :: st) μ G := ev_stp pg_151_79 rfl
theorem pg_151_81 : mm_prog 151 81 = some (0, .newarray .int, 83, [100]) := by decide +kernel
theorem xe_151_81 (a0 : Option MV) (x : Int) (st : List MV) (μ : MM) (G : MG) : ev 151 81 [a0] (vI x :: st) μ G = if 0 ≤ x ∧ x ≤ 100000 then ev 151 83 [a0] (vR G.2.1 :: st) (mzero μ G.2.1) (gnew G 100 x x) else none := ev_if pg_151_81 rfl
theorem pg_151_83 : mm_prog 151 83 = some (0, .putfield 41, 86, [11, 21, 2]) := by decide +kernel
theorem xe_151_83 (a0 : Option MV) (x y : Int) (st : List MV) (μ : MM) (G : MG) : ev 151 83 [a0] (vR x :: vR y :: st) μ G = if gk G y = 11 then ev 151 86 [a0] st (mset μ y 21 x) G else none := ev_put2 pg_151_83
theorem pg_151_86 : mm_prog 151 86 = some (0, .aload_n 0, 87, []) := by decide +kernel
theorem xe_151_86 (x : Int) (st : List MV) (μ : MM) (G : MG) : ev 151 86 [some (vR x)] st μ G = ev 151 87 [some (vR x)] (vR x :: st) μ G := ev_stp pg_151_86 rfl
theorem pg_151_87 : mm_prog 151 87 = some (0, .bipush 7, 89, []) := by decide +kernel
theorem xe_151_87 (a0 : Option MV) (st : List MV) (μ : MM) (G : MG) : ev 151 87 [a0] st μ G = ev 151 89 [a0] (vI (7) :: st) μ G := ev_stp pg_151_87 rfl
theorem pg_151_89 : mm_prog 151 89 = some (0, .newarray .int, 91, [100]) := by decide +kernel
theorem xe_151_89 (a0 : Option MV) (x : Int) (st : List MV) (μ : MM) (G : MG) : ev 151 89 [a0] (vI x :: st) μ G = if 0 ≤ x ∧ x ≤ 100000 then ev 151 91 [a0] (vR G.2.1 :: st) (mzero μ G.2.1) (gnew G 100 x x) else none := ev_if pg_151_89 rfl
theorem pg_151_91 : mm_prog 151 91 = some (0, .putfield 44, 94, [11, 22, 2]) := by decide +kernel
theorem xe_151_91 (a0 : Option MV) (x y : Int) (st : List MV) (μ : MM) (G : MG) : ev 151 91 [a0] (vR x :: vR y :: st) μ G = if gk G y = 11 then ev 151 94 [a0] st (mset μ y 22 x) G else none := ev_put2 pg_151_91
theorem pg_151_94 : mm_prog 151 94 = some (0, .aload_n 0, 95, []) := by decide +kernel
theorem xe_151_94 (x : Int) (st : List MV) (μ : MM) (G : MG) : ev 151 94 [some (vR x)] st μ G = ev 151 95 [some (vR x)] (vR x :: st) μ G := ev_stp pg_151_94 rfl
theorem pg_151_95 : mm_prog 151 95 = some (0, .bipush 77, 97, []) := by decide +kernel
theorem xe_151_95 (a0 : Option MV) (st : List MV) (μ : MM) (G : MG) : ev 151 95 [a0] st μ G = ev 151 97 [a0] (vI (77) :: st) μ G := ev_stp pg_151_95 rfl
theorem pg_151_97 : mm_prog 151 97 = some (0, .newarray .int, 99, [100]) := by decide +kernel
theorem xe_151_97 (a0 : Option MV) (x : Int) (st : List MV) (μ : MM) (G : MG) : ev 151 97 [a0] (vI x :: st) μ G = if 0 ≤ x ∧ x ≤ 100000 then ev 151 99 [a0] (vR G.2.1 :: st) (mzero μ G.2.1) (gnew G 100 x x) else none := ev_if pg_151_97 rfl
theorem pg_151_99 : mm_prog 151 99 = some (0, .dup, 100, []) := by decide +kernel
theorem xe_151_99 (a0 : Option MV) (x : Int) (st : List MV) (μ : MM) (G : MG) : ev 151 99 [a0] (vR x :: st) μ G = ev 151 100 [a0] (vR x :: vR x :: st) μ G := ev_stp pg_151_99 rfl
theorem pg_151_100 : mm_prog 151 100 = some (0, .iconst 0, 101, []) := by decide +kernel
theorem xe_151_100 (a0 : Option MV) (st : List MV) (μ : MM) (G : MG) : ev 151 100 [a0] st μ G = ev 151 101 [a0] (vI (0) :: st) μ G := ev_stp pg_151_100 rfl
theorem pg_151_101 : mm_prog 151 101 = some (0, .iconst 1, 102, []) := by decide +kernel
theorem xe_151_101 (a0 : Option MV) (st : List MV) (μ : MM) (G : MG) : ev 151 101 [a0] st μ G = ev 151 102 [a0] (vI (1) :: st) μ G := ev_stp pg_151_101 rfl
theorem pg_151_102 : mm_prog 151 102 = some (0, .iastore, 103, []) := by decide +kernel
theorem xe_151_102 (a0 : Option MV) (x y z : Int) (st : List MV) (μ : MM) (G : MG) : ev 151 102 [a0] (vI x :: vI y :: vR z :: st) μ G = if gk G z = 100 ∧ 0 ≤ y ∧ y < gl G z ∧ 10 ≤ z then ev 151 103 [a0] st (mset μ z y x) G else none := ev_if pg_151_102 rfl
theorem pg_151_103 : mm_prog 151 103 = some (0, .dup, 104, []) := by decide +kernel
theorem xe_151_103 (a0 : Option MV) (x : Int) (st : List MV) (μ : MM) (G : MG) : ev 151 103 [a0] (vR x :: st) μ G = ev 151 104 [a0] (vR x :: vR x :: st) μ G := ev_stp pg_151_103 rfl
theorem pg_151_104 : mm_prog 151 104 = some (0, .iconst 1, 105, []) := by decide +kernel
theorem xe_151_104 (a0 : Option MV) (st : List MV) (μ : MM) (G : MG) : ev 151 104 [a0] st μ G = ev 151 105 [a0] (vI (1) :: st) μ G := ev_stp pg_151_104 rfl
theorem pg_151_105 : mm_prog 151 105 = some (0, .iconst 1, 106, []) := by decide +kernel
theorem xe_151_105 (a0 : Option MV) (st : List MV) (μ : MM) (G : MG) : ev 151 105 [a0] st μ G = ev 151 106 [a0] (vI (1) :: st) μ G := ev_stp pg_151_105 rfl
theorem pg_151_106 : mm_prog 151 106 = some (0, .iastore, 107, []) := by decide +kernel
theorem xe_151_106 (a0 : Option MV) (x y z : Int) (st : List MV) (μ : MM) (G : MG) : ev 151 106 [a0] (vI x :: vI y :: vR z :: st) μ G = if gk G z = 100 ∧ 0 ≤ y ∧ y < gl G z ∧ 10 ≤ z then ev 151 107 [a0] st (mset μ z y x) G else none := ev_if pg_151_106 rfl
theorem pg_151_107 : mm_prog 151 107 = some (0, .dup, 108, []) := by decide +kernel
theorem xe_151_107 (a0 : Option MV) (x : Int) (st : List MV) (μ : MM) (G : MG) : ev 151 107 [a0] (vR x :: st) μ G = ev 151 108 [a0] (vR x :: vR x :: st) μ G := ev_stp pg_151_107 rfl
theorem pg_151_108 : mm_prog 151 108 = some (0, .iconst 2, 109, []) := by decide +kernel
theorem xe_151_108 (a0 : Option MV) (st : List MV) (μ : MM) (G : MG) : ev 151 108 [a0] st μ G = ev 151 109 [a0] (vI (2) :: st) μ G := ev_stp pg_151_108 rfl
theorem pg_151_109 : mm_prog 151 109 = some (0, .sipush 640, 112, []) := by decide +kernel
theorem xe_151_109 (a0 : Option MV) (st : List MV) (μ : MM) (G : MG) : ev 151 109 [a0] st μ G = ev 151 112 [a0] (vI (640) :: st) μ G := ev_stp pg_151_109 rfl
theorem pg_151_112 : mm_prog 151 112 = some (0, .iastore, 113, []) := by decide +kernel
theorem xe_151_112 (a0 : Option MV) (x y z : Int) (st : List MV) (μ : MM) (G : MG) : ev 151 112 [a0] (vI x :: vI y :: vR z :: st) μ G = if gk G z = 100 ∧ 0 ≤ y ∧ y < gl G z ∧ 10 ≤ z then ev 151 113 [a0] st (mset μ z y x) G else none := ev_if pg_151_112 rfl
theorem pg_151_113 : mm_prog 151 113 = some (0, .dup, 114, []) := by decide +kernel
theorem xe_151_113 (a0 : Option MV) (x : Int) (st : List MV) (μ : MM) (G : MG) : ev 151 113 [a0] (vR x :: st) μ G = ev 151 114 [a0] (vR x :: vR x :: st) μ G := ev_stp pg_151_113 rfl
theorem pg_151_114 : mm_prog 151 114 = some (0, .iconst 3, 115, []) := by decide +kernel
theorem xe_151_114 (a0 : Option MV) (st : List MV) (μ : MM) (G : MG) : ev 151 114 [a0] st μ G = ev 151 115 [a0] (vI (3) :: st) μ G := ev_stp pg_151_114 rfl
theorem pg_151_115 : mm_prog 151 115 = some (0, .sipush 480, 118, []) := by decide +kernel
theorem xe_151_115 (a0 : Option MV) (st : List MV) (μ : MM) (G : MG) : ev 151 115 [a0] st μ G = ev 151 118 [a0] (vI (480) :: st) μ G := ev_stp pg_151_115 rfl
theorem pg_151_118 : mm_prog 151 118 = some (0, .iastore, 119, []) := by decide +kernel
theorem xe_151_118 (a0 : Option MV) (x y z : Int) (st : List MV) (μ : MM) (G : MG) : ev 151 118 [a0] (vI x :: vI y :: vR z :: st) μ G = if gk G z = 100 ∧ 0 ≤ y ∧ y < gl G z ∧ 10 ≤ z then ev 151 119 [a0] st (mset μ z y x) G else none := ev_if pg_151_118 rfl
theorem pg_151_119 : mm_prog 151 119 = some (0, .dup, 120, []) := by decide +kernel
theorem xe_151_119 (a0 : Option MV) (x : Int) (st : List MV) (μ : MM) (G : MG) : ev 151 119 [a0] (vR x :: st) μ G = ev 151 120 [a0] (vR x :: vR x :: st) μ G := ev_stp pg_151_119 rfl
theorem pg_151_120 : mm_prog 151 120 = some (0, .iconst 4, 121, []) := by decide +kernel
theorem xe_151_120 (a0 : Option MV) (st : List MV) (μ : MM) (G : MG) : ev 151 120 [a0] st μ G = ev 151 121 [a0] (vI (4) :: st) μ G := ev_stp pg_151_120 rfl
theorem pg_151_121 : mm_prog 151 121 = some (0, .sipush 800, 124, []) := by decide +kernel
theorem xe_151_121 (a0 : Option MV) (st : List MV) (μ : MM) (G : MG) : ev 151 121 [a0] st μ G = ev 151 124 [a0] (vI (800) :: st) μ G := ev_stp pg_151_121 rfl
theorem pg_151_124 : mm_prog 151 124 = some (0, .iastore, 125, []) := by decide +kernel
theorem xe_151_124 (a0 : Option MV) (x y z : Int) (st : List MV) (μ : MM) (G : MG) : ev 151 124 [a0] (vI x :: vI y :: vR z :: st) μ G = if gk G z = 100 ∧ 0 ≤ y ∧ y < gl G z ∧ 10 ≤ z then ev 151 125 [a0] st (mset μ z y x) G else none := ev_if pg_151_124 rfl
theorem pg_151_125 : mm_prog 151 125 = some (0, .dup, 126, []) := by decide +kernel
theorem xe_151_125 (a0 : Option MV) (x : Int) (st : List MV) (μ : MM) (G : MG) : ev 151 125 [a0] (vR x :: st) μ G = ev 151 126 [a0] (vR x :: vR x :: st) μ G := ev_stp pg_151_125 rfl
theorem pg_151_126 : mm_prog 151 126 = some (0, .iconst 5, 127, []) := by decide +kernel
theorem xe_151_126 (a0 : Option MV) (st : List MV) (μ : MM) (G : MG) : ev 151 126 [a0] st μ G = ev 151 127 [a0] (vI (5) :: st) μ G := ev_stp pg_151_126 rfl
theorem pg_151_127 : mm_prog 151 127 = some (0, .sipush 525, 130, []) := by decide +kernel
theorem xe_151_127 (a0 : Option MV) (st : List MV) (μ : MM) (G : MG) : ev 151 127 [a0] st μ G = ev 151 130 [a0] (vI (525) :: st) μ G := ev_stp pg_151_127 rfl
theorem pg_151_130 : mm_prog 151 130 = some (0, .iastore, 131, []) := by decide +kernel
theorem xe_151_130 (a0 : Option MV) (x y z : Int) (st : List MV) (μ : MM) (G : MG) : ev 151 130 [a0] (vI x :: vI y :: vR z :: st) μ G = if gk G z = 100 ∧ 0 ≤ y ∧ y < gl G z ∧ 10 ≤ z then ev 151 131 [a0] st (mset μ z y x) G else none := ev_if pg_151_130 rfl
theorem pg_151_131 : mm_prog 151 131 = some (0, .dup, 132, []) := by decide +kernel
theorem xe_151_131 (a0 : Option MV) (x : Int) (st : List MV) (μ : MM) (G : MG) : ev 151 131 [a0] (vR x :: st) μ G = ev 151 132 [a0] (vR x :: vR x :: st) μ G := ev_stp pg_151_131 rfl
theorem pg_151_132 : mm_prog 151 132 = some (0, .bipush 6, 134, []) := by decide +kernel
theorem xe_151_132 (a0 : Option MV) (st : List MV) (μ : MM) (G : MG) : ev 151 132 [a0] st μ G = ev 151 134 [a0] (vI (6) :: st) μ G := ev_stp pg_151_132 rfl
theorem pg_151_134 : mm_prog 151 134 = some (0, .sipush 25175, 137, []) := by decide +kernel
theorem xe_151_134 (a0 : Option MV) (st : List MV) (μ : MM) (G : MG) : ev 151 134 [a0] st μ G = ev 151 137 [a0] (vI (25175) :: st) μ G := ev_stp pg_151_134 rfl
theorem pg_151_137 : mm_prog 151 137 = some (0, .iastore, 138, []) := by decide +kernel
theorem xe_151_137 (a0 : Option MV) (x y z : Int) (st : List MV) (μ : MM) (G : MG) : ev 151 137 [a0] (vI x :: vI y :: vR z :: st) μ G = if gk G z = 100 ∧ 0 ≤ y ∧ y < gl G z ∧ 10 ≤ z then ev 151 138 [a0] st (mset μ z y x) G else none := ev_if pg_151_137 rfl
theorem pg_151_138 : mm_prog 151 138 = some (0, .dup, 139, []) := by decide +kernel
theorem xe_151_138 (a0 : Option MV) (x : Int) (st : List MV) (μ : MM) (G : MG) : ev 151 138 [a0] (vR x :: st) μ G = ev 151 139 [a0] (vR x :: vR x :: st) μ G := ev_stp pg_151_138 rfl
theorem pg_151_139 : mm_prog 151 139 = some (0, .bipush 7, 141, []) := by decide +kernel
theorem xe_151_139 (a0 : Option MV) (st : List MV) (μ : MM) (G : MG) : ev 151 139 [a0] st μ G = ev 151 141 [a0] (vI (7) :: st) μ G := ev_stp pg_151_139 rfl
theorem pg_151_141 : mm_prog 151 141 = some (0, .iconst 2, 142, []) := by decide +kernel
theorem xe_151_141 (a0 : Option MV) (st : List MV) (μ : MM) (G : MG) : ev 151 141 [a0] st μ G = ev 151 142 [a0] (vI (2) :: st) μ G := ev_stp pg_151_141 rfl
theorem pg_151_142 : mm_prog 151 142 = some (0, .iastore, 143, []) := by decide +kernel
theorem xe_151_142 (a0 : Option MV) (x y z : Int) (st : List MV) (μ : MM) (G : MG) : ev 151 142 [a0] (vI x :: vI y :: vR z :: st) μ G = if gk G z = 100 ∧ 0 ≤ y ∧ y < gl G z ∧ 10 ≤ z then ev 151 143 [a0] st (mset μ z y x) G else none := ev_if pg_151_142 rfl
theorem pg_151_143 : mm_prog 151 143 = some (0, .dup, 144, []) := by decide +kernel
theorem xe_151_143 (a0 : Option MV) (x : Int) (st : List MV) (μ : MM) (G : MG) : ev 151 143 [a0] (vR x :: st) μ G = ev 151 144 [a0] (vR x :: vR x :: st) μ G := ev_stp pg_151_143 rfl
theorem pg_151_144 : mm_prog 151 144 = some (0, .bipush 8, 146, []) := by decide +kernel
theorem xe_151_144 (a0 : Option MV) (st : List MV) (μ : MM) (G : MG) : ev 151 144 [a0] st μ G = ev 151 146 [a0] (vI (8) :: st) μ G := ev_stp pg_151_144 rfl
theorem pg_151_146 : mm_prog 151 146 = some (0, .iconst 3, 147, []) := by decide +kernel
theorem xe_151_146 (a0 : Option MV) (st : List MV) (μ : MM) (G : MG) : ev 151 146 [a0] st μ G = ev 151 147 [a0] (vI (3) :: st) μ G := ev_stp pg_151_146 rfl
theorem pg_151_147 : mm_prog 151 147 = some (0, .iastore, 148, []) := by decide +kernel
theorem xe_151_147 (a0 : Option MV) (x y z : Int) (st : List MV) (μ : MM) (G : MG) : ev 151 147 [a0] (vI x :: vI y :: vR z :: st) μ G = if gk G z = 100 ∧ 0 ≤ y ∧ y < gl G z ∧ 10 ≤ z then ev 151 148 [a0] st (mset μ z y x) G else none := ev_if pg_151_147 rfl
theorem pg_151_148 : mm_prog 151 148 = some (0, .dup, 149, []) := by decide +kernel
theorem xe_151_148 (a0 : Option MV) (x : Int) (st : List MV) (μ : MM) (G : MG) : ev 151 148 [a0] (vR x :: st) μ G = ev 151 149 [a0] (vR x :: vR x :: st) μ G := ev_stp pg_151_148 rfl
theorem pg_151_149 : mm_prog 151 149 = some (0, .bipush 9, 151, []) := by decide +kernel
theorem xe_151_149 (a0 : Option MV) (st : List MV) (μ : MM) (G : MG) : ev 151 149 [a0] st μ G = ev 151 151 [a0] (vI (9) :: st) μ G := ev_stp pg_151_149 rfl
theorem pg_151_151 : mm_prog 151 151 = some (0, .sipush 720, 154, []) := by decide +kernel
theorem xe_151_151 (a0 : Option MV) (st : List MV) (μ : MM) (G : MG) : ev 151 151 [a0] st μ G = ev 151 154 [a0] (vI (720) :: st) μ G := ev_stp pg_151_151 rfl
theorem pg_151_154 : mm_prog 151 154 = some (0, .iastore, 155, []) := by decide +kernel
theorem xe_151_154 (a0 : Option MV) (x y z : Int) (st : List MV) (μ : MM) (G : MG) : ev 151 154 [a0] (vI x :: vI y :: vR z :: st) μ G = if gk G z = 100 ∧ 0 ≤ y ∧ y < gl G z ∧ 10 ≤ z then ev 151 155 [a0] st (mset μ z y x) G else none := ev_if pg_151_154 rfl
theorem pg_151_155 : mm_prog 151 155 = some (0, .dup, 156, []) := by decide +kernel
theorem xe_151_155 (a0 : Option MV) (x : Int) (st : List MV) (μ : MM) (G : MG) : ev 151 155 [a0] (vR x :: st) μ G = ev 151 156 [a0] (vR x :: vR x :: st) μ G := ev_stp pg_151_155 rfl
theorem pg_151_156 : mm_prog 151 156 = some (0, .bipush 10, 158, []) := by decide +kernel
theorem xe_151_156 (a0 : Option MV) (st : List MV) (μ : MM) (G : MG) : ev 151 156 [a0] st μ G = ev 151 158 [a0] (vI (10) :: st) μ G := ev_stp pg_151_156 rfl
theorem pg_151_158 : mm_prog 151 158 = some (0, .sipush 480, 161, []) := by decide +kernel
theorem xe_151_158 (a0 : Option MV) (st : List MV) (μ : MM) (G : MG) : ev 151 158 [a0] st μ G = ev 151 161 [a0] (vI (480) :: st) μ G := ev_stp pg_151_158 rfl
theorem pg_151_161 : mm_prog 151 161 = some (0, .iastore, 162, []) := by decide +kernel
theorem xe_151_161 (a0 : Option MV) (x y z : Int) (st : List MV) (μ : MM) (G : MG) : ev 151 161 [a0] (vI x :: vI y :: vR z :: st) μ G = if gk G z = 100 ∧ 0 ≤ y ∧ y < gl G z ∧ 10 ≤ z then ev 151 162 [a0] st (mset μ z y x) G else none := ev_if pg_151_161 rfl
theorem pg_151_162 : mm_prog 151 162 = some (0, .dup, 163, []) := by decide +kernel
theorem xe_151_162 (a0 : Option MV) (x : Int) (st : List MV) (μ : MM) (G : MG) : ev 151 162 [a0] (vR x :: st) μ G = ev 151 163 [a0] (vR x :: vR x :: st) μ G := ev_stp pg_151_162 rfl
theorem pg_151_163 : mm_prog 151 163 = some (0, .bipush 11, 165, []) := by decide +kernel
theorem xe_151_163 (a0 : Option MV) (st : List MV) (μ : MM) (G : MG) : ev 151 163 [a0] st μ G = ev 151 165 [a0] (vI (11) :: st) μ G := ev_stp pg_151_163 rfl
theorem pg_151_165 : mm_prog 151 165 = some (0, .sipush 858, 168, []) := by decide +kernel
theorem xe_151_165 (a0 : Option MV) (st : List MV) (μ : MM) (G : MG) : ev 151 165 [a0] st μ G = ev 151 168 [a0] (vI (858) :: st) μ G := ev_stp pg_151_165 rfl
theorem pg_151_168 : mm_prog 151 168 = some (0, .iastore, 169, []) := by decide +kernel
theorem xe_151_168 (a0 : Option MV) (x y z : Int) (st : List MV) (μ : MM) (G : MG) : ev 151 168 [a0] (vI x :: vI y :: vR z :: st) μ G = if gk G z = 100 ∧ 0 ≤ y ∧ y < gl G z ∧ 10 ≤ z then ev 151 169 [a0] st (mset μ z y x) G else none := ev_if pg_151_168 rfl
theorem pg_151_169 : mm_prog 151 169 = some (0, .dup, 170, []) := by decide +kernel
theorem xe_151_169 (a0 : Option MV) (x : Int) (st : List MV) (μ : MM) (G : MG) : ev 151 169 [a0] (vR x :: st) μ G = ev 151 170 [a0] (vR x :: vR x :: st) μ G := ev_stp pg_151_169 rfl
theorem pg_151_170 : mm_prog 151 170 = some (0, .bipush 12, 172, []) := by decide +kernel
theorem xe_151_170 (a0 : Option MV) (st : List MV) (μ : MM) (G : MG) : ev 151 170 [a0] st μ G = ev 151 172 [a0] (vI (12) :: st) μ G := ev_stp pg_151_170 rfl
theorem pg_151_172 : mm_prog 151 172 = some (0, .sipush 525, 175, []) := by decide +kernel
theorem xe_151_172 (a0 : Option MV) (st : List MV) (μ : MM) (G : MG) : ev 151 172 [a0] st μ G = ev 151 175 [a0] (vI (525) :: st) μ G := ev_stp pg_151_172 rfl
theorem pg_151_175 : mm_prog 151 175 = some (0, .iastore, 176, []) := by decide +kernel
theorem xe_151_175 (a0 : Option MV) (x y z : Int) (st : List MV) (μ : MM) (G : MG) : ev 151 175 [a0] (vI x :: vI y :: vR z :: st) μ G = if gk G z = 100 ∧ 0 ≤ y ∧ y < gl G z ∧ 10 ≤ z then ev 151 176 [a0] st (mset μ z y x) G else none := ev_if pg_151_175 rfl
theorem pg_151_176 : mm_prog 151 176 = some (0, .dup, 177, []) := by decide +kernel
theorem xe_151_176 (a0 : Option MV) (x : Int) (st : List MV) (μ : MM) (G : MG) : ev 151 176 [a0] (vR x :: st) μ G = ev 151 177 [a0] (vR x :: vR x :: st) μ G := ev_stp pg_151_176 rfl
theorem pg_151_177 : mm_prog 151 177 = some (0, .bipush 13, 179, []) := by decide +kernel
theorem xe_151_177 (a0 : Option MV) (st : List MV) (μ : MM) (G : MG) : ev 151 177 [a0] st μ G = ev 151 179 [a0] (vI (13) :: st) μ G := ev_stp pg_151_177 rfl
theorem pg_151_179 : mm_prog 151 179 = some (0, .sipush 27000, 182, []) := by decide +kernel
theorem xe_151_179 (a0 : Option MV) (st : List MV) (μ : MM) (G : MG) : ev 151 179 [a0] st μ G = ev 151 182 [a0] (vI (27000) :: st) μ G := ev_stp pg_151_179 rfl
theorem pg_151_182 : mm_prog 151 182 = some (0, .iastore, 183, []) := by decide +kernel
theorem xe_151_182 (a0 : Option MV) (x y z : Int) (st : List MV) (μ : MM) (G : MG) : ev 151 182 [a0] (vI x :: vI y :: vR z :: st) μ G = if gk G z = 100 ∧ 0 ≤ y ∧ y < gl G z ∧ 10 ≤ z then ev 151 183 [a0] st (mset μ z y x) G else none := ev_if pg_151_182 rfl
theorem pg_151_183 : mm_prog 151 183 = some (0, .dup, 184, []) := by decide +kernel
theorem xe_151_183 (a0 : Option MV) (x : Int) (st : List MV) (μ : MM) (G : MG) : ev 151 183 [a0] (vR x :: st) μ G = ev 151 184 [a0] (vR x :: vR x :: st) μ G := ev_stp pg_151_183 rfl
theorem pg_151_184 : mm_prog 151 184 = some (0, .bipush 14, 186, []) := by decide +kernel
theorem xe_151_184 (a0 : Option MV) (st : List MV) (μ : MM) (G : MG) : ev 151 184 [a0] st μ G = ev 151 186 [a0] (vI (14) :: st) μ G := ev_stp pg_151_184 rfl
theorem pg_151_186 : mm_prog 151 186 = some (0, .iconst 4, 187, []) := by decide +kernel
theorem xe_151_186 (a0 : Option MV) (st : List MV) (μ : MM) (G : MG) : ev 151 186 [a0] st μ G = ev 151 187 [a0] (vI (4) :: st) μ G := ev_stp pg_151_186 rfl
theorem pg_151_187 : mm_prog 151 187 = some (0, .iastore, 188, []) := by decide +kernel
theorem xe_151_187 (a0 : Option MV) (x y z : Int) (st : List MV) (μ : MM) (G : MG) : ev 151 187 [a0] (vI x :: vI y :: vR z :: st) μ G = if gk G z = 100 ∧ 0 ≤ y ∧ y < gl G z ∧ 10 ≤ z then ev 151 188 [a0] st (mset μ z y x) G else none := ev_if pg_151_187 rfl
theorem pg_151_188 : mm_prog 151 188 = some (0, .dup, 189, []) := by decide +kernel
theorem xe_151_188 (a0 : Option MV) (x : Int) (st : List MV) (μ : MM) (G : MG) : ev 151 188 [a0] (vR x :: st) μ G = ev 151 189 [a0] (vR x :: vR x :: st) μ G := ev_stp pg_151_188 rfl
theorem pg_151_189 : mm_prog 151 189 = some (0, .bipush 15, 191, []) := by decide +kernel
theorem xe_151_189 (a0 : Option MV) (st : List MV) (μ : MM) (G : MG) : ev 151 189 [a0] st μ G = ev 151 191 [a0] (vI (15) :: st) μ G := ev_stp pg_151_189 rfl
theorem pg_151_191 : mm_prog 151 191 = some (0, .iconst 4, 192, []) := by decide +kernel
theorem xe_151_191 (a0 : Option MV) (st : List MV) (μ : MM) (G : MG) : ev 151 191 [a0] st μ G = ev 151 192 [a0] (vI (4) :: st) μ G := ev_stp pg_151_191 rfl
theorem pg_151_192 : mm_prog 151 192 = some (0, .iastore, 193, []) := by decide +kernel
theorem xe_151_192 (a0 : Option MV) (x y z : Int) (st : List MV) (μ : MM) (G : MG) : ev 151 192 [a0] (vI x :: vI y :: vR z :: st) μ G = if gk G z = 100 ∧ 0 ≤ y ∧ y < gl G z ∧ 10 ≤ z then ev 151 193 [a0] st (mset μ z y x) G else none := ev_if pg_151_192 rfl
theorem pg_151_193 : mm_prog 151 193 = some (0, .dup, 194, []) := by decide +kernel
theorem xe_151_193 (a0 : Option MV) (x : Int) (st : List MV) (μ : MM) (G : MG) : ev 151 193 [a0] (vR x :: st) μ G = ev 151 194 [a0] (vR x :: vR x :: st) μ G := ev_stp pg_151_193 rfl
theorem pg_151_194 : mm_prog 151 194 = some (0, .bipush 16, 196, []) := by decide +kernel
theorem xe_151_194 (a0 : Option MV) (st : List MV) (μ : MM) (G : MG) : ev 151 194 [a0] st μ G = ev 151 196 [a0] (vI (16) :: st) μ G := ev_stp pg_151_194 rfl
theorem pg_151_196 : mm_prog 151 196 = some (0, .sipush 1280, 199, []) := by decide +kernel
theorem xe_151_196 (a0 : Option MV) (st : List MV) (μ : MM) (G : MG) : ev 151 196 [a0] st μ G = ev 151 199 [a0] (vI (1280) :: st) μ G := ev_stp pg_151_196 rfl
theorem pg_151_199 : mm_prog 151 199 = some (0, .iastore, 200, []) := by decide +kernel
theorem xe_151_199 (a0 : Option MV) (x y z : Int) (st : List MV) (μ : MM) (G : MG) : ev 151 199 [a0] (vI x :: vI y :: vR z :: st) μ G = if gk G z = 100 ∧ 0 ≤ y ∧ y < gl G z ∧ 10 ≤ z then ev 151 200 [a0] st (mset μ z y x) G else none := ev_if pg_151_199 rfl
theorem pg_151_200 : mm_prog 151 200 = some (0, .dup, 201, []) := by decide +kernel
theorem xe_151_200 (a0 : Option MV) (x : Int) (st : List MV) (μ : MM) (G : MG) : ev 151 200 [a0] (vR x :: st) μ G = ev 151 201 [a0] (vR x :: vR x :: st) μ G := ev_stp pg_151_200 rfl
theorem pg_151_201 : mm_prog 151 201 = some (0, .bipush 17, 203, []) := by decide +kernel
theorem xe_151_201 (a0 : Option MV) (st : List MV) (μ : MM) (G : MG) : ev 151 201 [a0] st μ G = ev 151 203 [a0] (vI (17) :: st) μ G := ev_stp pg_151_201 rfl
theorem pg_151_203 : mm_prog 151 203 = some (0, .sipush 720, 206, []) := by decide +kernel
theorem xe_151_203 (a0 : Option MV) (st : List MV) (μ : MM) (G : MG) : ev 151 203 [a0] st μ G = ev 151 206 [a0] (vI (720) :: st) μ G := ev_stp pg_151_203 rfl
theorem pg_151_206 : mm_prog 151 206 = some (0, .iastore, 207, []) := by decide +kernel
theorem xe_151_206 (a0 : Option MV) (x y z : Int) (st : List MV) (μ : MM) (G : MG) : ev 151 206 [a0] (vI x :: vI y :: vR z :: st) μ G = if gk G z = 100 ∧ 0 ≤ y ∧ y < gl G z ∧ 10 ≤ z then ev 151 207 [a0] st (mset μ z y x) G else none := ev_if pg_151_206 rfl
theorem pg_151_207 : mm_prog 151 207 = some (0, .dup, 208, []) := by decide +kernel
theorem xe_151_207 (a0 : Option MV) (x : Int) (st : List MV) (μ : MM) (G : MG) : ev 151 207 [a0] (vR x :: st) μ G = ev 151 208 [a0] (vR x :: vR x :: st) μ G := ev_stp pg_151_207 rfl
theorem pg_151_208 : mm_prog 151 208 = some (0, .bipush 18, 210, []) := by decide +kernel
theorem xe_151_208 (a0 : Option MV) (st : List MV) (μ : MM) (G : MG) : ev 151 208 [a0] st μ G = ev 151 210 [a0] (vI (18) :: st) μ G := ev_stp pg_151_208 rfl
theorem pg_151_210 : mm_prog 151 210 = some (0, .sipush 1650, 213, []) := by decide +kernel
theorem xe_151_210 (a0 : Option MV) (st : List MV) (μ : MM) (G : MG) : ev 151 210 [a0] st μ G = ev 151 213 [a0] (vI (1650) :: st) μ G := ev_stp pg_151_210 rfl
theorem pg_151_213 : mm_prog 151 213 = some (0, .iastore, 214, []) := by decide +kernel
theorem xe_151_213 (a0 : Option MV) (x y z : Int) (st : List MV) (μ : MM) (G : MG) : ev 151 213 [a0] (vI x :: vI y :: vR z :: st) μ G = if gk G z = 100 ∧ 0 ≤ y ∧ y < gl G z ∧ 10 ≤ z then ev 151 214 [a0] st (mset μ z y x) G else none := ev_if pg_151_213 rfl
theorem pg_151_214 : mm_prog 151 214 = some (0, .dup, 215, []) := by decide +kernel
theorem xe_151_214 (a0 : Option MV) (x : Int) (st : List MV) (μ : MM) (G : MG) : ev 151 214 [a0] (vR x :: st) μ G = ev 151 215 [a0] (vR x :: vR x :: st) μ G := ev_stp pg_151_214 rfl
theorem pg_151_215 : mm_prog 151 215 = some (0, .bipush 19, 217, []) := by decide +kernel
theorem xe_151_215 (a0 : Option MV) (st : List MV) (μ : MM) (G : MG) : ev 151 215 [a0] st μ G = ev 151 217 [a0] (vI (19) :: st) μ G := ev_stp pg_151_215 rfl
theorem pg_151_217 : mm_prog 151 217 = some (0, .sipush 750, 220, []) := by decide +kernel
theorem xe_151_217 (a0 : Option MV) (st : List MV) (μ : MM) (G : MG) : ev 151 217 [a0] st μ G = ev 151 220 [a0] (vI (750) :: st) μ G := ev_stp pg_151_217 rfl
theorem pg_151_220 : mm_prog 151 220 = some (0, .iastore, 221, []) := by decide +kernel
theorem xe_151_220 (a0 : Option MV) (x y z : Int) (st : List MV) (μ : MM) (G : MG) : ev 151 220 [a0] (vI x :: vI y :: vR z :: st) μ G = if gk G z = 100 ∧ 0 ≤ y ∧ y < gl G z ∧ 10 ≤ z then ev 151 221 [a0] st (mset μ z y x) G else none := ev_if pg_151_220 rfl
theorem pg_151_221 : mm_prog 151 221 = some (0, .dup, 222, []) := by decide +kernel
theorem xe_151_221 (a0 : Option MV) (x : Int) (st : List MV) (μ : MM) (G : MG) : ev 151 221 [a0] (vR x :: st) μ G = ev 151 222 [a0] (vR x :: vR x :: st) μ G := ev_stp pg_151_221 rfl
theorem pg_151_222 : mm_prog 151 222 = some (0, .bipush 20, 224, []) := by decide +kernel
theorem xe_151_222 (a0 : Option MV) (st : List MV) (μ : MM) (G : MG) : ev 151 222 [a0] st μ G = ev 151 224 [a0] (vI (20) :: st) μ G := ev_stp pg_151_222 rfl
theorem pg_151_224 : mm_prog 151 224 = some (0, .ldc 47, 226, [74250]) := by decide +kernel
theorem xe_151_224 (a0 : Option MV) (st : List MV) (μ : MM) (G : MG) : ev 151 224 [a0] st μ G = ev 151 226 [a0] (vI (74250) :: st) μ G := ev_stp pg_151_224 rfl
theorem pg_151_226 : mm_prog 151 226 = some (0, .iastore, 227, []) := by decide +kernel
theorem xe_151_226 (a0 : Option MV) (x y z : Int) (st : List MV) (μ : MM) (G : MG) : ev 151 226 [a0] (vI x :: vI y :: vR z :: st) μ G = if gk G z = 100 ∧ 0 ≤ y ∧ y < gl G z ∧ 10 ≤ z then ev 151 227 [a0] st (mset μ z y x) G else none := ev_if pg_151_226 rfl
theorem pg_151_227 : mm_prog 151 227 = some (0, .dup, 228, []) := by decide +kernel
theorem xe_151_227 (a0 : Option MV) (x : Int) (st : List MV) (μ : MM) (G : MG) : ev 151 227 [a0] (vR x :: st) μ G = ev 151 228 [a0] (vR x :: vR x :: st) μ G := ev_stp pg_151_227 rfl
theorem pg_151_228 : mm_prog 151 228 = some (0, .bipush 21, 230, []) := by decide +kernel
theorem xe_151_228 (a0 : Option MV) (st : List MV) (μ : MM) (G : MG) : ev 151 228 [a0] st μ G = ev 151 230 [a0] (vI (21) :: st) μ G := ev_stp pg_151_228 rfl
theorem pg_151_230 : mm_prog 151 230 = some (0, .bipush 16, 232, []) := by decide +kernel
theorem xe_151_230 (a0 : Option MV) (st : List MV) (μ : MM) (G : MG) : ev 151 230 [a0] st μ G = ev 151 232 [a0] (vI (16) :: st) μ G := ev_stp pg_151_230 rfl
theorem pg_151_232 : mm_prog 151 232 = some (0, .iastore, 233, []) := by decide +kernel
theorem xe_151_232 (a0 : Option MV) (x y z : Int) (st : List MV) (μ : MM) (G : MG) : ev 151 232 [a0] (vI x :: vI y :: vR z :: st) μ G = if gk G z = 100 ∧ 0 ≤ y ∧ y < gl G z ∧ 10 ≤ z then ev 151 233 [a0] st (mset μ z y x) G else none := ev_if pg_151_232 rfl
theorem pg_151_233 : mm_prog 151 233 = some (0, .dup, 234, []) := by decide +kernel
theorem xe_151_233 (a0 : Option MV) (x : Int) (st : List MV) (μ : MM) (G : MG) : ev 151 233 [a0] (vR x :: st) μ G = ev 151 234 [a0] (vR x :: vR x :: st) μ G := ev_stp pg_151_233 rfl
theorem pg_151_234 : mm_prog 151 234 = some (0, .bipush 22, 236, []) := by decide +kernel
theorem xe_151_234 (a0 : Option MV) (st : List MV) (μ : MM) (G : MG) : ev 151 234 [a0] st μ G = ev 151 236 [a0] (vI (22) :: st) μ G := ev_stp pg_151_234 rfl
theorem pg_151_236 : mm_prog 151 236 = some (0, .bipush 16, 238, []) := by decide +kernel
theorem xe_151_236 (a0 : Option MV) (st : List MV) (μ : MM) (G : MG) : ev 151 236 [a0] st μ G = ev 151 238 [a0] (vI (16) :: st) μ G := ev_stp pg_151_236 rfl
theorem pg_151_238 : mm_prog 151 238 = some (0, .iastore, 239, []) := by decide +kernel
theorem xe_151_238 (a0 : Option MV) (x y z : Int) (st : List MV) (μ : MM) (G : MG) : ev 151 238 [a0] (vI x :: vI y :: vR z :: st) μ G = if gk G z = 100 ∧ 0 ≤ y ∧ y < gl G z ∧ 10 ≤ z then ev 151 239 [a0] st (mset μ z y x) G else none := ev_if pg_151_238 rfl
theorem pg_151_239 : mm_prog 151 239 = some (0, .dup, 240, []) := by decide +kernel
theorem xe_151_239 (a0 : Option MV) (x : Int) (st : List MV) (μ : MM) (G : MG) : ev 151 239 [a0] (vR x :: st) μ G = ev 151 240 [a0] (vR x :: vR x :: st) μ G := ev_stp pg_151_239 rfl
theorem pg_151_240 : mm_prog 151 240 = some (0, .bipush 23, 242, []) := by decide +kernel
theorem xe_151_240 (a0 : Option MV) (st : List MV) (μ : MM) (G : MG) : ev 151 240 [a0] st μ G = ev 151 242 [a0] (vI (23) :: st) μ G := ev_stp pg_151_240 rfl
theorem pg_151_242 : mm_prog 151 242 = some (0, .sipush 1920, 245, []) := by decide +kernel
theorem xe_151_242 (a0 : Option MV) (st : List MV) (μ : MM) (G : MG) : ev 151 242 [a0] st μ G = ev 151 245 [a0] (vI (1920) :: st) μ G := ev_stp pg_151_242 rfl
theorem pg_151_245 : mm_prog 151 245 = some (0, .iastore, 246, []) := by decide +kernel
theorem xe_151_245 (a0 : Option MV) (x y z : Int) (st : List MV) (μ : MM) (G : MG) : ev 151 245 [a0] (vI x :: vI y :: vR z :: st) μ G = if gk G z = 100 ∧ 0 ≤ y ∧ y < gl G z ∧ 10 ≤ z then ev 151 246 [a0] st (mset μ z y x) G else none := ev_if pg_151_245 rfl
theorem pg_151_246 : mm_prog 151 246 = some (0, .dup, 247, []) := by decide +kernel
theorem xe_151_246 (a0 : Option MV) (x : Int) (st : List MV) (μ : MM) (G : MG) : ev 151 246 [a0] (vR x :: st) μ G = ev 151 247 [a0] (vR x :: vR x :: st) μ G := ev_stp pg_151_246 rfl
theorem pg_151_247 : mm_prog 151 247 = some (0, .bipush 24, 249, []) := by decide +kernel
theorem xe_151_247 (a0 : Option MV) (st : List MV) (μ : MM) (G : MG) : ev 151 247 [a0] st μ G = ev 151 249 [a0] (vI (24) :: st) μ G := ev_stp pg_151_247 rfl
theorem pg_151_249 : mm_prog 151 249 = some (0, .sipush 1080, 252, []) := by decide +kernel
theorem xe_151_249 (a0 : Option MV) (st : List MV) (μ : MM) (G : MG) : ev 151 249 [a0] st μ G = ev 151 252 [a0] (vI (1080) :: st) μ G := ev_stp pg_151_249 rfl
theorem pg_151_252 : mm_prog 151 252 = some (0, .iastore, 253, []) := by decide +kernel
theorem xe_151_252 (a0 : Option MV) (x y z : Int) (st : List MV) (μ : MM) (G : MG) : ev 151 252 [a0] (vI x :: vI y :: vR z :: st) μ G = if gk G z = 100 ∧ 0 ≤ y ∧ y < gl G z ∧ 10 ≤ z then ev 151 253 [a0] st (mset μ z y x) G else none := ev_if pg_151_252 rfl
theorem pg_151_253 : mm_prog 151 253 = some (0, .dup, 254, []) := by decide +kernel
theorem xe_151_253 (a0 : Option MV) (x : Int) (st : List MV) (μ : MM) (G : MG) : ev 151 253 [a0] (vR x :: st) μ G = ev 151 254 [a0] (vR x :: vR x :: st) μ G := ev_stp pg_151_253 rfl
theorem pg_151_254 : mm_prog 151 254 = some (0, .bipush 25, 256, []) := by decide +kernel
theorem xe_151_254 (a0 : Option MV) (st : List MV) (μ : MM) (G : MG) : ev 151 254 [a0] st μ G = ev 151 256 [a0] (vI (25) :: st) μ G := ev_stp pg_151_254 rfl
theorem pg_151_256 : mm_prog 151 256 = some (0, .sipush 2200, 259, []) := by decide +kernel
theorem xe_151_256 (a0 : Option MV) (st : List MV) (μ : MM) (G : MG) : ev 151 256 [a0] st μ G = ev 151 259 [a0] (vI (2200) :: st) μ G := ev_stp pg_151_256 rfl
theorem pg_151_259 : mm_prog 151 259 = some (0, .iastore, 260, []) := by decide +kernel
theorem xe_151_259 (a0 : Option MV) (x y z : Int) (st : List MV) (μ : MM) (G : MG) : ev 151 259 [a0] (vI x :: vI y :: vR z :: st) μ G = if gk G z = 100 ∧ 0 ≤ y ∧ y < gl G z ∧ 10 ≤ z then ev 151 260 [a0] st (mset μ z y x) G else none := ev_if pg_151_259 rfl
theorem pg_151_260 : mm_prog 151 260 = some (0, .dup, 261, []) := by decide +kernel
theorem xe_151_260 (a0 : Option MV) (x : Int) (st : List MV) (μ : MM) (G : MG) : ev 151 260 [a0] (vR x :: st) μ G = ev 151 261 [a0] (vR x :: vR x :: st) μ G := ev_stp pg_151_260 rfl
theorem pg_151_261 : mm_prog 151 261 = some (0, .bipush 26, 263, []) := by decide +kernel
theorem xe_151_261 (a0 : Option MV) (st : List MV) (μ : MM) (G : MG) : ev 151 261 [a0] st μ G = ev 151 263 [a0] (vI (26) :: st) μ G := ev_stp pg_151_261 rfl
theorem pg_151_263 : mm_prog 151 263 = some (0, .sipush 1125, 266, []) := by decide +kernel
theorem xe_151_263 (a0 : Option MV) (st : List MV) (μ : MM) (G : MG) : ev 151 263 [a0] st μ G = ev 151 266 [a0] (vI (1125) :: st) μ G := ev_stp pg_151_263 rfl
theorem pg_151_266 : mm_prog 151 266 = some (0, .iastore, 267, []) := by decide +kernel
theorem xe_151_266 (a0 : Option MV) (x y z : Int) (st : List MV) (μ : MM) (G : MG) : ev 151 266 [a0] (vI x :: vI y :: vR z :: st) μ G = if gk G z = 100 ∧ 0 ≤ y ∧ y < gl G z ∧ 10 ≤ z then ev 151 267 [a0] st (mset μ z y x) G else none := ev_if pg_151_266 rfl
theorem pg_151_267 : mm_prog 151 267 = some (0, .dup, 268, []) := by decide +kernel
theorem xe_151_267 (a0 : Option MV) (x : Int) (st : List MV) (μ : MM) (G : MG) : ev 151 267 [a0] (vR x :: st) μ G = ev 151 268 [a0] (vR x :: vR x :: st) μ G := ev_stp pg_151_267 rfl
theorem pg_151_268 : mm_prog 151 268 = some (0, .bipush 27, 270, []) := by decide +kernel
theorem xe_151_268 (a0 : Option MV) (st : List MV) (μ : MM) (G : MG) : ev 151 268 [a0] st μ G = ev 151 270 [a0] (vI (27) :: st) μ G := ev_stp pg_151_268 rfl
theorem pg_151_270 : mm_prog 151 270 = some (0, .ldc 48, 272, [148500]) := by decide +kernel
theorem xe_151_270 (a0 : Option MV) (st : List MV) (μ : MM) (G : MG) : ev 151 270 [a0] st μ G = ev 151 272 [a0] (vI (148500) :: st) μ G := ev_stp pg_151_270 rfl
theorem pg_151_272 : mm_prog 151 272 = some (0, .iastore, 273, []) := by decide +kernel
theorem xe_151_272 (a0 : Option MV) (x y z : Int) (st : List MV) (μ : MM) (G : MG) : ev 151 272 [a0] (vI x :: vI y :: vR z :: st) μ G = if gk G z = 100 ∧ 0 ≤ y ∧ y < gl G z ∧ 10 ≤ z then ev 151 273 [a0] st (mset μ z y x) G else none := ev_if pg_151_272 rfl
theorem pg_151_273 : mm_prog 151 273 = some (0, .dup, 274, []) := by decide +kernel
theorem xe_151_273 (a0 : Option MV) (x : Int) (st : List MV) (μ : MM) (G : MG) : ev 151 273 [a0] (vR x :: st) μ G = ev 151 274 [a0] (vR x :: vR x :: st) μ G := ev_stp pg_151_273 rfl
theorem pg_151_274 : mm_prog 151 274 = some (0, .bipush 28, 276, []) := by decide +kernel
theorem xe_151_274 (a0 : Option MV) (st : List MV) (μ : MM) (G : MG) : ev 151 274 [a0] st μ G = ev 151 276 [a0] (vI (28) :: st) μ G := ev_stp pg_151_274 rfl
theorem pg_151_276 : mm_prog 151 276 = some (0, .bipush 17, 278, []) := by decide +kernel
theorem xe_151_276 (a0 : Option MV) (st : List MV) (μ : MM) (G : MG) : ev 151 276 [a0] st μ G = ev 151 278 [a0] (vI (17) :: st) μ G := ev_stp pg_151_276 rfl
theorem pg_151_278 : mm_prog 151 278 = some (0, .iastore, 279, []) := by decide +kernel
theorem xe_151_278 (a0 : Option MV) (x y z : Int) (st : List MV) (μ : MM) (G : MG) : ev 151 278 [a0] (vI x :: vI y :: vR z :: st) μ G = if gk G z = 100 ∧ 0 ≤ y ∧ y < gl G z ∧ 10 ≤ z then ev 151 279 [a0] st (mset μ z y x) G else none := ev_if pg_151_278 rfl
theorem pg_151_279 : mm_prog 151 279 = some (0, .dup, 280, []) := by decide +kernel
theorem xe_151_279 (a0 : Option MV) (x : Int) (st : List MV) (μ : MM) (G : MG) : ev 151 279 [a0] (vR x :: st) μ G = ev 151 280 [a0] (vR x :: vR x :: st) μ G := ev_stp pg_151_279 rfl
theorem pg_151_280 : mm_prog 151 280 = some (0, .bipush 29, 282, []) := by decide +kernel
theorem xe_151_280 (a0 : Option MV) (st : List MV) (μ : MM) (G : MG) : ev 151 280 [a0] st μ G = ev 151 282 [a0] (vI (29) :: st) μ G := ev_stp pg_151_280 rfl
theorem pg_151_282 : mm_prog 151 282 = some (0, .bipush 18, 284, []) := by decide +kernel
theorem xe_151_282 (a0 : Option MV) (st : List MV) (μ : MM) (G : MG) : ev 151 282 [a0] st μ G = ev 151 284 [a0] (vI (18) :: st) μ G := ev_stp pg_151_282 rfl
theorem pg_151_284 : mm_prog 151 284 = some (0, .iastore, 285, []) := by decide +kernel
theorem xe_151_284 (a0 : Option MV) (x y z : Int) (st : List MV) (μ : MM) (G : MG) : ev 151 284 [a0] (vI x :: vI y :: vR z :: st) μ G = if gk G z = 100 ∧ 0 ≤ y ∧ y < gl G z ∧ 10 ≤ z then ev 151 285 [a0] st (mset μ z y x) G else none := ev_if pg_151_284 rfl
theorem pg_151_285 : mm_prog 151 285 = some (0, .dup, 286, []) := by decide +kernel
theorem xe_151_285 (a0 : Option MV) (x : Int) (st : List MV) (μ : MM) (G : MG) : ev 151 285 [a0] (vR x :: st) μ G = ev 151 286 [a0] (vR x :: vR x :: st) μ G := ev_stp pg_151_285 rfl
theorem pg_151_286 : mm_prog 151 286 = some (0, .bipush 30, 288, []) := by decide +kernel
theorem xe_151_286 (a0 : Option MV) (st : List MV) (μ : MM) (G : MG) : ev 151 286 [a0] st μ G = ev 151 288 [a0] (vI (30) :: st) μ G := ev_stp pg_151_286 rfl
theorem pg_151_288 : mm_prog 151 288 = some (0, .sipush 720, 291, []) := by decide +kernel
theorem xe_151_288 (a0 : Option MV) (st : List MV) (μ : MM) (G : MG) : ev 151 288 [a0] st μ G = ev 151 291 [a0] (vI (720) :: st) μ G := ev_stp pg_151_288 rfl
theorem pg_151_291 : mm_prog 151 291 = some (0, .iastore, 292, []) := by decide +kernel
theorem xe_151_291 (a0 : Option MV) (x y z : Int) (st : List MV) (μ : MM) (G : MG) : ev 151 291 [a0] (vI x :: vI y :: vR z :: st) μ G = if gk G z = 100 ∧ 0 ≤ y ∧ y < gl G z ∧ 10 ≤ z then ev 151 292 [a0] st (mset μ z y x) G else none := ev_if pg_151_291 rfl
theorem pg_151_292 : mm_prog 151 292 = some (0, .dup, 293, []) := by decide +kernel
theorem xe_151_292 (a0 : Option MV) (x : Int) (st : List MV) (μ : MM) (G : MG) : ev 151 292 [a0] (vR x :: st) μ G = ev 151 293 [a0] (vR x :: vR x :: st) μ G := ev_stp pg_151_292 rfl
theorem pg_151_293 : mm_prog 151 293 = some (0, .bipush 31, 295, []) := by decide +kernel
theorem xe_151_293 (a0 : Option MV) (st : List MV) (μ : MM) (G : MG) : ev 151 293 [a0] st μ G = ev 151 295 [a0] (vI (31) :: st) μ G := ev_stp pg_151_293 rfl
theorem pg_151_295 : mm_prog 151 295 = some (0, .sipush 576, 298, []) := by decide +kernel
theorem xe_151_295 (a0 : Option MV) (st : List MV) (μ : MM) (G : MG) : ev 151 295 [a0] st μ G = ev 151 298 [a0] (vI (576) :: st) μ G := ev_stp pg_151_295 rfl
theorem pg_151_298 : mm_prog 151 298 = some (0, .iastore, 299, []) := by decide +kernel
theorem xe_151_298 (a0 : Option MV) (x y z : Int) (st : List MV) (μ : MM) (G : MG) : ev 151 298 [a0] (vI x :: vI y :: vR z :: st) μ G = if gk G z = 100 ∧ 0 ≤ y ∧ y < gl G z ∧ 10 ≤ z then ev 151 299 [a0] st (mset μ z y x) G else none := ev_if pg_151_298 rfl
theorem pg_151_299 : mm_prog 151 299 = some (0, .dup, 300, []) := by decide +kernel
theorem xe_151_299 (a0 : Option MV) (x : Int) (st : List MV) (μ : MM) (G : MG) : ev 151 299 [a0] (vR x :: st) μ G = ev 151 300 [a0] (vR x :: vR x :: st) μ G := ev_stp pg_151_299 rfl
theorem pg_151_300 : mm_prog 151 300 = some (0, .bipush 32, 302, []) := by decide +kernel
theorem xe_151_300 (a0 : Option MV) (st : List MV) (μ : MM) (G : MG) : ev 151 300 [a0] st μ G = ev 151 302 [a0] (vI (32) :: st) μ G := ev_stp pg_151_300 rfl
theorem pg_151_302 : mm_prog 151 302 = some (0, .sipush 864, 305, []) := by decide +kernel
theorem xe_151_302 (a0 : Option MV) (st : List MV) (μ : MM) (G : MG) : ev 151 302 [a0] st μ G = ev 151 305 [a0] (vI (864) :: st) μ G := ev_stp pg_151_302 rfl
theorem pg_151_305 : mm_prog 151 305 = some (0, .iastore, 306, []) := by decide +kernel
theorem xe_151_305 (a0 : Option MV) (x y z : Int) (st : List MV) (μ : MM) (G : MG) : ev 151 305 [a0] (vI x :: vI y :: vR z :: st) μ G = if gk G z = 100 ∧ 0 ≤ y ∧ y < gl G z ∧ 10 ≤ z then ev 151 306 [a0] st (mset μ z y x) G else none := ev_if pg_151_305 rfl
theorem pg_151_306 : mm_prog 151 306 = some (0, .dup, 307, []) := by decide +kernel
theorem xe_151_306 (a0 : Option MV) (x : Int) (st : List MV) (μ : MM) (G : MG) : ev 151 306 [a0] (vR x :: st) μ G = ev 151 307 [a0] (vR x :: vR x :: st) μ G := ev_stp pg_151_306 rfl
theorem pg_151_307 : mm_prog 151 307 = some (0, .bipush 33, 309, []) := by decide +kernel
theorem xe_151_307 (a0 : Option MV) (st : List MV) (μ : MM) (G : MG) : ev 151 307 [a0] st μ G = ev 151 309 [a0] (vI (33) :: st) μ G := ev_stp pg_151_307 rfl
theorem pg_151_309 : mm_prog 151 309 = some (0, .sipush 625, 312, []) := by decide +kernel
theorem xe_151_309 (a0 : Option MV) (st : List MV) (μ : MM) (G : MG) : ev 151 309 [a0] st μ G = ev 151 312 [a0] (vI (625) :: st) μ G := ev_stp pg_151_309 rfl
theorem pg_151_312 : mm_prog 151 312 = some (0, .iastore, 313, []) := by decide +kernel
theorem xe_151_312 (a0 : Option MV) (x y z : Int) (st : List MV) (μ : MM) (G : MG) : ev 151 312 [a0] (vI x :: vI y :: vR z :: st) μ G = if gk G z = 100 ∧ 0 ≤ y ∧ y < gl G z ∧ 10 ≤ z then ev 151 313 [a0] st (mset μ z y x) G else none := ev_if pg_151_312 rfl
theorem pg_151_313 : mm_prog 151 313 = some (0, .dup, 314, []) := by decide +kernel
theorem xe_151_313 (a0 : Option MV) (x : Int) (st : List MV) (μ : MM) (G : MG) : ev 151 313 [a0] (vR x :: st) μ G = ev 151 314 [a0] (vR x :: vR x :: st) μ G := ev_stp pg_151_313 rfl
theorem pg_151_314 : mm_prog 151 314 = some (0, .bipush 34, 316, []) := by decide +kernel
theorem xe_151_314 (a0 : Option MV) (st : List MV) (μ : MM) (G : MG) : ev 151 314 [a0] st μ G = ev 151 316 [a0] (vI (34) :: st) μ G := ev_stp pg_151_314 rfl
theorem pg_151_316 : mm_prog 151 316 = some (0, .sipush 27000, 319, []) := by decide +kernel
theorem xe_151_316 (a0 : Option MV) (st : List MV) (μ : MM) (G : MG) : ev 151 316 [a0] st μ G = ev 151 319 [a0] (vI (27000) :: st) μ G := ev_stp pg_151_316 rfl
theorem pg_151_319 : mm_prog 151 319 = some (0, .iastore, 320, []) := by decide +kernel
theorem xe_151_319 (a0 : Option MV) (x y z : Int) (st : List MV) (μ : MM) (G : MG) : ev 151 319 [a0] (vI x :: vI y :: vR z :: st) μ G = if gk G z = 100 ∧ 0 ≤ y ∧ y < gl G z ∧ 10 ≤ z then ev 151 320 [a0] st (mset μ z y x) G else none := ev_if pg_151_319 rfl
theorem pg_151_320 : mm_prog 151 320 = some (0, .dup, 321, []) := by decide +kernel
theorem xe_151_320 (a0 : Option MV) (x : Int) (st : List MV) (μ : MM) (G : MG) : ev 151 320 [a0] (vR x :: st) μ G = ev 151 321 [a0] (vR x :: vR x :: st) μ G := ev_stp pg_151_320 rfl
theorem pg_151_321 : mm_prog 151 321 = some (0, .bipush 35, 323, []) := by decide +kernel
theorem xe_151_321 (a0 : Option MV) (st : List MV) (μ : MM) (G : MG) : ev 151 321 [a0] st μ G = ev 151 323 [a0] (vI (35) :: st) μ G := ev_stp pg_151_321 rfl
theorem pg_151_323 : mm_prog 151 323 = some (0, .bipush 19, 325, []) := by decide +kernel
theorem xe_151_323 (a0 : Option MV) (st : List MV) (μ : MM) (G : MG) : ev 151 323 [a0] st μ G = ev 151 325 [a0] (vI (19) :: st) μ G := ev_stp pg_151_323 rfl
theorem pg_151_325 : mm_prog 151 325 = some (0, .iastore, 326, []) := by decide +kernel
theorem xe_151_325 (a0 : Option MV) (x y z : Int) (st : List MV) (μ : MM) (G : MG) : ev 151 325 [a0] (vI x :: vI y :: vR z :: st) μ G = if gk G z = 100 ∧ 0 ≤ y ∧ y < gl G z ∧ 10 ≤ z then ev 151 326 [a0] st (mset μ z y x) G else none := ev_if pg_151_325 rfl
theorem pg_151_326 : mm_prog 151 326 = some (0, .dup, 327, []) := by decide +kernel
theorem xe_151_326 (a0 : Option MV) (x : Int) (st : List MV) (μ : MM) (G : MG) : ev 151 326 [a0] (vR x :: st) μ G = ev 151 327 [a0] (vR x :: vR x :: st) μ G := ev_stp pg_151_326 rfl
theorem pg_151_327 : mm_prog 151 327 = some (0, .bipush 36, 329, []) := by decide +kernel
theorem xe_151_327 (a0 : Option MV) (st : List MV) (μ : MM) (G : MG) : ev 151 327 [a0] st μ G = ev 151 329 [a0] (vI (36) :: st) μ G := ev_stp pg_151_327 rfl
theorem pg_151_329 : mm_prog 151 329 = some (0, .bipush 19, 331, []) := by decide +kernel
theorem xe_151_329 (a0 : Option MV) (st : List MV) (μ : MM) (G : MG) : ev 151 329 [a0] st μ G = ev 151 331 [a0] (vI (19) :: st) μ G := ev_stp pg_151_329 rfl
theorem pg_151_331 : mm_prog 151 331 = some (0, .iastore, 332, []) := by decide +kernel
theorem xe_151_331 (a0 : Option MV) (x y z : Int) (st : List MV) (μ : MM) (G : MG) : ev 151 331 [a0] (vI x :: vI y :: vR z :: st) μ G = if gk G z = 100 ∧ 0 ≤ y ∧ y < gl G z ∧ 10 ≤ z then ev 151 332 [a0] st (mset μ z y x) G else none := ev_if pg_151_331 rfl
theorem pg_151_332 : mm_prog 151 332 = some (0, .dup, 333, []) := by decide +kernel
theorem xe_151_332 (a0 : Option MV) (x : Int) (st : List MV) (μ : MM) (G : MG) : ev 151 332 [a0] (vR x :: st) μ G = ev 151 333 [a0] (vR x :: vR x :: st) μ G := ev_stp pg_151_332 rfl
theorem pg_151_333 : mm_prog 151 333 = some (0, .bipush 37, 335, []) := by decide +kernel
theorem xe_151_333 (a0 : Option MV) (st : List MV) (μ : MM) (G : MG) : ev 151 333 [a0] st μ G = ev 151 335 [a0] (vI (37) :: st) μ G := ev_stp pg_151_333 rfl
theorem pg_151_335 : mm_prog 151 335 = some (0, .sipush 1280, 338, []) := by decide +kernel
theorem xe_151_335 (a0 : Option MV) (st : List MV) (μ : MM) (G : MG) : ev 151 335 [a0] st μ G = ev 151 338 [a0] (vI (1280) :: st) μ G := ev_stp pg_151_335 rfl
theorem pg_151_338 : mm_prog 151 338 = some (0, .iastore, 339, []) := by decide +kernel
theorem xe_151_338 (a0 : Option MV) (x y z : Int) (st : List MV) (μ : MM) (G : MG) : ev 151 338 [a0] (vI x :: vI y :: vR z :: st) μ G = if gk G z = 100 ∧ 0 ≤ y ∧ y < gl G z ∧ 10 ≤ z then ev 151 339 [a0] st (mset μ z y x) G else none := ev_if pg_151_338 rfl
theorem pg_151_339 : mm_prog 151 339 = some (0, .dup, 340, []) := by decide +kernel
theorem xe_151_339 (a0 : Option MV) (x : Int) (st : List MV) (μ : MM) (G : MG) : ev 151 339 [a0] (vR x :: st) μ G = ev 151 340 [a0] (vR x :: vR x :: st) μ G := ev_stp pg_151_339 rfl
theorem pg_151_340 : mm_prog 151 340 = some (0, .bipush 38, 342, []) := by decide +kernel
theorem xe_151_340 (a0 : Option MV) (st : List MV) (μ : MM) (G : MG) : ev 151 340 [a0] st μ G = ev 151 342 [a0] (vI (38) :: st) μ G := ev_stp pg_151_340 rfl
theorem pg_151_342 : mm_prog 151 342 = some (0, .sipush 720, 345, []) := by decide +kernel
theorem xe_151_342 (a0 : Option MV) (st : List MV) (μ : MM) (G : MG) : ev 151 342 [a0] st μ G = ev 151 345 [a0] (vI (720) :: st) μ G := ev_stp pg_151_342 rfl
theorem pg_151_345 : mm_prog 151 345 = some (0, .iastore, 346, []) := by decide +kernel
theorem xe_151_345 (a0 : Option MV) (x y z : Int) (st : List MV) (μ : MM) (G : MG) : ev 151 345 [a0] (vI x :: vI y :: vR z :: st) μ G = if gk G z = 100 ∧ 0 ≤ y ∧ y < gl G z ∧ 10 ≤ z then ev 151 346 [a0] st (mset μ z y x) G else none := ev_if pg_151_345 rfl
theorem pg_151_346 : mm_prog 151 346 = some (0, .dup, 347, []) := by decide +kernel
theorem xe_151_346 (a0 : Option MV) (x : Int) (st : List MV) (μ : MM) (G : MG) : ev 151 346 [a0] (vR x :: st) μ G = ev 151 347 [a0] (vR x :: vR x :: st) μ G := ev_stp pg_151_346 rfl
theorem pg_151_347 : mm_prog 151 347 = some (0, .bipush 39, 349, []) := by decide +kernel
theorem xe_151_347 (a0 : Option MV) (st : List MV) (μ : MM) (G : MG) : ev 151 347 [a0] st μ G = ev 151 349 [a0] (vI (39) :: st) μ G := ev_stp pg_151_347 rfl
theorem pg_151_349 : mm_prog 151 349 = some (0, .sipush 1980, 352, []) := by decide +kernel
theorem xe_151_349 (a0 : Option MV) (st : List MV) (μ : MM) (G : MG) : ev 151 349 [a0] st μ G = ev 151 352 [a0] (vI (1980) :: st) μ G := ev_stp pg_151_349 rfl
theorem pg_151_352 : mm_prog 151 352 = some (0, .iastore, 353, []) := by decide +kernel
theorem xe_151_352 (a0 : Option MV) (x y z : Int) (st : List MV) (μ : MM) (G : MG) : ev 151 352 [a0] (vI x :: vI y :: vR z :: st) μ G = if gk G z = 100 ∧ 0 ≤ y ∧ y < gl G z ∧ 10 ≤ z then ev 151 353 [a0] st (mset μ z y x) G else none := ev_if pg_151_352 rfl
theorem pg_151_353 : mm_prog 151 353 = some (0, .dup, 354, []) := by decide +kernel
theorem xe_151_353 (a0 : Option MV) (x : Int) (st : List MV) (μ : MM) (G : MG) : ev 151 353 [a0] (vR x :: st) μ G = ev 151 354 [a0] (vR x :: vR x :: st) μ G := ev_stp pg_151_353 rfl
theorem pg_151_354 : mm_prog 151 354 = some (0, .bipush 40, 356, []) := by decide +kernel
theorem xe_151_354 (a0 : Option MV) (st : List MV) (μ : MM) (G : MG) : ev 151 354 [a0] st μ G = ev 151 356 [a0] (vI (40) :: st) μ G := ev_stp pg_151_354 rfl
theorem pg_151_356 : mm_prog 151 356 = some (0, .sipush 750, 359, []) := by decide +kernel
theorem xe_151_356 (a0 : Option MV) (st : List MV) (μ : MM) (G : MG) : ev 151 356 [a0] st μ G = ev 151 359 [a0] (vI (750) :: st) μ G := ev_stp pg_151_356 rfl
theorem pg_151_359 : mm_prog 151 359 = some (0, .iastore, 360, []) := by decide +kernel
theorem xe_151_359 (a0 : Option MV) (x y z : Int) (st : List MV) (μ : MM) (G : MG) : ev 151 359 [a0] (vI x :: vI y :: vR z :: st) μ G = if gk G z = 100 ∧ 0 ≤ y ∧ y < gl G z ∧ 10 ≤ z then ev 151 360 [a0] st (mset μ z y x) G else none := ev_if pg_151_359 rfl
theorem pg_151_360 : mm_prog 151 360 = some (0, .dup, 361, []) := by decide +kernel
theorem xe_151_360 (a0 : Option MV) (x : Int) (st : List MV) (μ : MM) (G : MG) : ev 151 360 [a0] (vR x :: st) μ G = ev 151 361 [a0] (vR x :: vR x :: st) μ G := ev_stp pg_151_360 rfl
theorem pg_151_361 : mm_prog 151 361 = some (0, .bipush 41, 363, []) := by decide +kernel
theorem xe_151_361 (a0 : Option MV) (st : List MV) (μ : MM) (G : MG) : ev 151 361 [a0] st μ G = ev 151 363 [a0] (vI (41) :: st) μ G := ev_stp pg_151_361 rfl
theorem pg_151_363 : mm_prog 151 363 = some (0, .ldc 47, 365, [74250]) := by decide +kernel
theorem xe_151_363 (a0 : Option MV) (st : List MV) (μ : MM) (G : MG) : ev 151 363 [a0] st μ G = ev 151 365 [a0] (vI (74250) :: st) μ G := ev_stp pg_151_363 rfl
theorem pg_151_365 : mm_prog 151 365 = some (0, .iastore, 366, []) := by decide +kernel
theorem xe_151_365 (a0 : Option MV) (x y z : Int) (st : List MV) (μ : MM) (G : MG) : ev 151 365 [a0] (vI x :: vI y :: vR z :: st) μ G = if gk G z = 100 ∧ 0 ≤ y ∧ y < gl G z ∧ 10 ≤ z then ev 151 366 [a0] st (mset μ z y x) G else none := ev_if pg_151_365 rfl
theorem pg_151_366 : mm_prog 151 366 = some (0, .dup, 367, []) := by decide +kernel
theorem xe_151_366 (a0 : Option MV) (x : Int) (st : List MV) (μ : MM) (G : MG) : ev 151 366 [a0] (vR x :: st) μ G = ev 151 367 [a0] (vR x :: vR x :: st) μ G := ev_stp pg_151_366 rfl
theorem pg_151_367 : mm_prog 151 367 = some (0, .bipush 42, 369, []) := by decide +kernel
theorem xe_151_367 (a0 : Option MV) (st : List MV) (μ : MM) (G : MG) : ev 151 367 [a0] st μ G = ev 151 369 [a0] (vI (42) :: st) μ G := ev_stp pg_151_367 rfl
theorem pg_151_369 : mm_prog 151 369 = some (0, .bipush 31, 371, []) := by decide +kernel
theorem xe_151_369 (a0 : Option MV) (st : List MV) (μ : MM) (G : MG) : ev 151 369 [a0] st μ G = ev 151 371 [a0] (vI (31) :: st) μ G := ev_stp pg_151_369 rfl
theorem pg_151_371 : mm_prog 151 371 = some (0, .iastore, 372, []) := by decide +kernel
theorem xe_151_371 (a0 : Option MV) (x y z : Int) (st : List MV) (μ : MM) (G : MG) : ev 151 371 [a0] (vI x :: vI y :: vR z :: st) μ G = if gk G z = 100 ∧ 0 ≤ y ∧ y < gl G z ∧ 10 ≤ z then ev 151 372 [a0] st (mset μ z y x) G else none := ev_if pg_151_371 rfl
theorem pg_151_372 : mm_prog 151 372 = some (0, .dup, 373, []) := by decide +kernel
theorem xe_151_372 (a0 : Option MV) (x : Int) (st : List MV) (μ : MM) (G : MG) : ev 151 372 [a0] (vR x :: st) μ G = ev 151 373 [a0] (vR x :: vR x :: st) μ G := ev_stp pg_151_372 rfl
theorem pg_151_373 : mm_prog 151 373 = some (0, .bipush 43, 375, []) := by decide +kernel
theorem xe_151_373 (a0 : Option MV) (st : List MV) (μ : MM) (G : MG) : ev 151 373 [a0] st μ G = ev 151 375 [a0] (vI (43) :: st) μ G := ev_stp pg_151_373 rfl
theorem pg_151_375 : mm_prog 151 375 = some (0, .bipush 31, 377, []) := by decide +kernel
theorem xe_151_375 (a0 : Option MV) (st : List MV) (μ : MM) (G : MG) : ev 151 375 [a0] st μ G = ev 151 377 [a0] (vI (31) :: st) μ G := ev_stp pg_151_375 rfl
theorem pg_151_377 : mm_prog 151 377 = some (0, .iastore, 378, []) := by decide +kernel
theorem xe_151_377 (a0 : Option MV) (x y z : Int) (st : List MV) (μ : MM) (G : MG) : ev 151 377 [a0] (vI x :: vI y :: vR z :: st) μ G = if gk G z = 100 ∧ 0 ≤ y ∧ y < gl G z ∧ 10 ≤ z then ev 151 378 [a0] st (mset μ z y x) G else none := ev_if pg_151_377 rfl
theorem pg_151_378 : mm_prog 151 378 = some (0, .dup, 379, []) := by decide +kernel
theorem xe_151_378 (a0 : Option MV) (x : Int) (st : List MV) (μ : MM) (G : MG) : ev 151 378 [a0] (vR x :: st) μ G = ev 151 379 [a0] (vR x :: vR x :: st) μ G := ev_stp pg_151_378 rfl
theorem pg_151_379 : mm_prog 151 379 = some (0, .bipush 44, 381, []) := by decide +kernel
theorem xe_151_379 (a0 : Option MV) (st : List MV) (μ : MM) (G : MG) : ev 151 379 [a0] st μ G = ev 151 381 [a0] (vI (44) :: st) μ G := ev_stp pg_151_379 rfl
theorem pg_151_381 : mm_prog 151 381 = some (0, .sipush 1920, 384, []) := by decide +kernel
theorem xe_151_381 (a0 : Option MV) (st : List MV) (μ : MM) (G : MG) : ev 151 381 [a0] st μ G = ev 151 384 [a0] (vI (1920) :: st) μ G := ev_stp pg_151_381 rfl
theorem pg_151_384 : mm_prog 151 384 = some (0, .iastore, 385, []) := by decide +kernel
theorem xe_151_384 (a0 : Option MV) (x y z : Int) (st : List MV) (μ : MM) (G : MG) : ev 151 384 [a0] (vI x :: vI y :: vR z :: st) μ G = if gk G z = 100 ∧ 0 ≤ y ∧ y < gl G z ∧ 10 ≤ z then ev 151 385 [a0] st (mset μ z y x) G else none := ev_if pg_151_384 rfl
theorem pg_151_385 : mm_prog 151 385 = some (0, .dup, 386, []) := by decide +kernel
theorem xe_151_385 (a0 : Option MV) (x : Int) (st : List MV) (μ : MM) (G : MG) : ev 151 385 [a0] (vR x :: st) μ G = ev 151 386 [a0] (vR x :: vR x :: st) μ G := ev_stp pg_151_385 rfl
theorem pg_151_386 : mm_prog 151 386 = some (0, .bipush 45, 388, []) := by decide +kernel
theorem xe_151_386 (a0 : Option MV) (st : List MV) (μ : MM) (G : MG) : ev 151 386 [a0] st μ G = ev 151 388 [a0] (vI (45) :: st) μ G := ev_stp pg_151_386 rfl
theorem pg_151_388 : mm_prog 151 388 = some (0, .sipush 1080, 391, []) := by decide +kernel
theorem xe_151_388 (a0 : Option MV) (st : List MV) (μ : MM) (G : MG) : ev 151 388 [a0] st μ G = ev 151 391 [a0] (vI (1080) :: st) μ G := ev_stp pg_151_388 rfl
theorem pg_151_391 : mm_prog 151 391 = some (0, .iastore, 392, []) := by decide +kernel
theorem xe_151_391 (a0 : Option MV) (x y z : Int) (st : List MV) (μ : MM) (G : MG) : ev 151 391 [a0] (vI x :: vI y :: vR z :: st) μ G = if gk G z = 100 ∧ 0 ≤ y ∧ y < gl G z ∧ 10 ≤ z then ev 151 392 [a0] st (mset μ z y x) G else none := ev_if pg_151_391 rfl
theorem pg_151_392 : mm_prog 151 392 = some (0, .dup, 393, []) := by decide +kernel
theorem xe_151_392 (a0 : Option MV) (x : Int) (st : List MV) (μ : MM) (G : MG) : ev 151 392 [a0] (vR x :: st) μ G = ev 151 393 [a0] (vR x :: vR x :: st) μ G := ev_stp pg_151_392 rfl
theorem pg_151_393 : mm_prog 151 393 = some (0, .bipush 46, 395, []) := by decide +kernel
theorem xe_151_393 (a0 : Option MV) (st : List MV) (μ : MM) (G : MG) : ev 151 393 [a0] st μ G = ev 151 395 [a0] (vI (46) :: st) μ G := ev_stp pg_151_393 rfl
theorem pg_151_395 : mm_prog 151 395 = some (0, .sipush 2640, 398, []) := by decide +kernel
theorem xe_151_395 (a0 : Option MV) (st : List MV) (μ : MM) (G : MG) : ev 151 395 [a0] st μ G = ev 151 398 [a0] (vI (2640) :: st) μ G := ev_stp pg_151_395 rfl
theorem pg_151_398 : mm_prog 151 398 = some (0, .iastore, 399, []) := by decide +kernel
theorem xe_151_398 (a0 : Option MV) (x y z : Int) (st : List MV) (μ : MM) (G : MG) : ev 151 398 [a0] (vI x :: vI y :: vR z :: st) μ G = if gk G z = 100 ∧ 0 ≤ y ∧ y < gl G z ∧ 10 ≤ z then ev 151 399 [a0] st (mset μ z y x) G else none := ev_if pg_151_398 rfl
theorem pg_151_399 : mm_prog 151 399 = some (0, .dup, 400, []) := by decide +kernel
theorem xe_151_399 (a0 : Option MV) (x : Int) (st : List MV) (μ : MM) (G : MG) : ev 151 399 [a0] (vR x :: st) μ G = ev 151 400 [a0] (vR x :: vR x :: st) μ G := ev_stp pg_151_399 rfl
theorem pg_151_400 : mm_prog 151 400 = some (0, .bipush 47, 402, []) := by decide +kernel
theorem xe_151_400 (a0 : Option MV) (st : List MV) (μ : MM) (G : MG) : ev 151 400 [a0] st μ G = ev 151 402 [a0] (vI (47) :: st) μ G := ev_stp pg_151_400 rfl
theorem pg_151_402 : mm_prog 151 402 = some (0, .sipush 1125, 405, []) := by decide +kernel
theorem xe_151_402 (a0 : Option MV) (st : List MV) (μ : MM) (G : MG) : ev 151 402 [a0] st μ G = ev 151 405 [a0] (vI (1125) :: st) μ G := ev_stp pg_151_402 rfl
theorem pg_151_405 : mm_prog 151 405 = some (0, .iastore, 406, []) := by decide +kernel
theorem xe_151_405 (a0 : Option MV) (x y z : Int) (st : List MV) (μ : MM) (G : MG) : ev 151 405 [a0] (vI x :: vI y :: vR z :: st) μ G = if gk G z = 100 ∧ 0 ≤ y ∧ y < gl G z ∧ 10 ≤ z then ev 151 406 [a0] st (mset μ z y x) G else none := ev_if pg_151_405 rfl
theorem pg_151_406 : mm_prog 151 406 = some (0, .dup, 407, []) := by decide +kernel
theorem xe_151_406 (a0 : Option MV) (x : Int) (st : List MV) (μ : MM) (G : MG) : ev 151 406 [a0] (vR x :: st) μ G = ev 151 407 [a0] (vR x :: vR x :: st) μ G := ev_stp pg_151_406 rfl
theorem pg_151_407 : mm_prog 151 407 = some (0, .bipush 48, 409, []) := by decide +kernel
theorem xe_151_407 (a0 : Option MV) (st : List MV) (μ : MM) (G : MG) : ev 151 407 [a0] st μ G = ev 151 409 [a0] (vI (48) :: st) μ G := ev_stp pg_151_407 rfl
theorem pg_151_409 : mm_prog 151 409 = some (0, .ldc 48, 411, [148500]) := by decide +kernel
theorem xe_151_409 (a0 : Option MV) (st : List MV) (μ : MM) (G : MG) : ev 151 409 [a0] st μ G = ev 151 411 [a0] (vI (148500) :: st) μ G := ev_stp pg_151_409 rfl
theorem pg_151_411 : mm_prog 151 411 = some (0, .iastore, 412, []) := by decide +kernel
theorem xe_151_411 (a0 : Option MV) (x y z : Int) (st : List MV) (μ : MM) (G : MG) : ev 151 411 [a0] (vI x :: vI y :: vR z :: st) μ G = if gk G z = 100 ∧ 0 ≤ y ∧ y < gl G z ∧ 10 ≤ z then ev 151 412 [a0] st (mset μ z y x) G else none := ev_if pg_151_411 rfl
theorem pg_151_412 : mm_prog 151 412 = some (0, .dup, 413, []) := by decide +kernel
theorem xe_151_412 (a0 : Option MV) (x : Int) (st : List MV) (μ : MM) (G : MG) : ev 151 412 [a0] (vR x :: st) μ G = ev 151 413 [a0] (vR x :: vR x :: st) μ G := ev_stp pg_151_412 rfl
theorem pg_151_413 : mm_prog 151 413 = some (0, .bipush 49, 415, []) := by decide +kernel
theorem xe_151_413 (a0 : Option MV) (st : List MV) (μ : MM) (G : MG) : ev 151 413 [a0] st μ G = ev 151 415 [a0] (vI (49) :: st) μ G := ev_stp pg_151_413 rfl
theorem pg_151_415 : mm_prog 151 415 = some (0, .bipush 32, 417, []) := by decide +kernel
theorem xe_151_415 (a0 : Option MV) (st : List MV) (μ : MM) (G : MG) : ev 151 415 [a0] st μ G = ev 151 417 [a0] (vI (32) :: st) μ G := ev_stp pg_151_415 rfl
theorem pg_151_417 : mm_prog 151 417 = some (0, .iastore, 418, []) := by decide +kernel
theorem xe_151_417 (a0 : Option MV) (x y z : Int) (st : List MV) (μ : MM) (G : MG) : ev 151 417 [a0] (vI x :: vI y :: vR z :: st) μ G = if gk G z = 100 ∧ 0 ≤ y ∧ y < gl G z ∧ 10 ≤ z then ev 151 418 [a0] st (mset μ z y x) G else none := ev_if pg_151_417 rfl
theorem pg_151_418 : mm_prog 151 418 = some (0, .dup, 419, []) := by decide +kernel
theorem xe_151_418 (a0 : Option MV) (x : Int) (st : List MV) (μ : MM) (G : MG) : ev 151 418 [a0] (vR x :: st) μ G = ev 151 419 [a0] (vR x :: vR x :: st) μ G := ev_stp pg_151_418 rfl
theorem pg_151_419 : mm_prog 151 419 = some (0, .bipush 50, 421, []) := by decide +kernel
theorem xe_151_419 (a0 : Option MV) (st : List MV) (μ : MM) (G : MG) : ev 151 419 [a0] st μ G = ev 151 421 [a0] (vI (50) :: st) μ G := ev_stp pg_151_419 rfl
theorem pg_151_421 : mm_prog 151 421 = some (0, .bipush 32, 423, []) := by decide +kernel
theorem xe_151_421 (a0 : Option MV) (st : List MV) (μ : MM) (G : MG) : ev 151 421 [a0] st μ G = ev 151 423 [a0] (vI (32) :: st) μ G := ev_stp pg_151_421 rfl
theorem pg_151_423 : mm_prog 151 423 = some (0, .iastore, 424, []) := by decide +kernel
theorem xe_151_423 (a0 : Option MV) (x y z : Int) (st : List MV) (μ : MM) (G : MG) : ev 151 423 [a0] (vI x :: vI y :: vR z :: st) μ G = if gk G z = 100 ∧ 0 ≤ y ∧ y < gl G z ∧ 10 ≤ z then ev 151 424 [a0] st (mset μ z y x) G else none := ev_if pg_151_423 rfl
theorem pg_151_424 : mm_prog 151 424 = some (0, .dup, 425, []) := by decide +kernel
theorem xe_151_424 (a0 : Option MV) (x : Int) (st : List MV) (μ : MM) (G : MG) : ev 151 424 [a0] (vR x :: st) μ G = ev 151 425 [a0] (vR x :: vR x :: st) μ G := ev_stp pg_151_424 rfl
theorem pg_151_425 : mm_prog 151 425 = some (0, .bipush 51, 427, []) := by decide +kernel
theorem xe_151_425 (a0 : Option MV) (st : List MV) (μ : MM) (G : MG) : ev 151 425 [a0] st μ G = ev 151 427 [a0] (vI (51) :: st) μ G := ev_stp pg_151_425 rfl
theorem pg_151_427 : mm_prog 151 427 = some (0, .sipush 1920, 430, []) := by decide +kernel
theorem xe_151_427 (a0 : Option MV) (st : List MV) (μ : MM) (G : MG) : ev 151 427 [a0] st μ G = ev 151 430 [a0] (vI (1920) :: st) μ G := ev_stp pg_151_427 rfl
theorem pg_151_430 : mm_prog 151 430 = some (0, .iastore, 431, []) := by decide +kernel
theorem xe_151_430 (a0 : Option MV) (x y z : Int) (st : List MV) (μ : MM) (G : MG) : ev 151 430 [a0] (vI x :: vI y :: vR z :: st) μ G = if gk G z = 100 ∧ 0 ≤ y ∧ y < gl G z ∧ 10 ≤ z then ev 151 431 [a0] st (mset μ z y x) G else none := ev_if pg_151_430 rfl
theorem pg_151_431 : mm_prog 151 431 = some (0, .dup, 432, []) := by decide +kernel
theorem xe_151_431 (a0 : Option MV) (x : Int) (st : List MV) (μ : MM) (G : MG) : ev 151 431 [a0] (vR x :: st) μ G = ev 151 432 [a0] (vR x :: vR x :: st) μ G := ev_stp pg_151_431 rfl
theorem pg_151_432 : mm_prog 151 432 = some (0, .bipush 52, 434, []) := by decide +kernel
theorem xe_151_432 (a0 : Option MV) (st : List MV) (μ : MM) (G : MG) : ev 151 432 [a0] st μ G = ev 151 434 [a0] (vI (52) :: st) μ G := ev_stp pg_151_432 rfl
theorem pg_151_434 : mm_prog 151 434 = some (0, .sipush 1080, 437, []) := by decide +kernel
theorem xe_151_434 (a0 : Option MV) (st : List MV) (μ : MM) (G : MG) : ev 151 434 [a0] st μ G = ev 151 437 [a0] (vI (1080) :: st) μ G := ev_stp pg_151_434 rfl
theorem pg_151_437 : mm_prog 151 437 = some (0, .iastore, 438, []) := by decide +kernel
theorem xe_151_437 (a0 : Option MV) (x y z : Int) (st : List MV) (μ : MM) (G : MG) : ev 151 437 [a0] (vI x :: vI y :: vR z :: st) μ G = if gk G z = 100 ∧ 0 ≤ y ∧ y < gl G z ∧ 10 ≤ z then ev 151 438 [a0] st (mset μ z y x) G else none := ev_if pg_151_437 rfl
theorem pg_151_438 : mm_prog 151 438 = some (0, .dup, 439, []) := by decide +kernel
theorem xe_151_438 (a0 : Option MV) (x : Int) (st : List MV) (μ : MM) (G : MG) : ev 151 438 [a0] (vR x :: st) μ G = ev 151 439 [a0] (vR x :: vR x :: st) μ G := ev_stp pg_151_438 rfl
theorem pg_151_439 : mm_prog 151 439 = some (0, .bipush 53, 441, []) := by decide +kernel
theorem xe_151_439 (a0 : Option MV) (st : List MV) (μ : MM) (G : MG) : ev 151 439 [a0] st μ G = ev 151 441 [a0] (vI (53) :: st) μ G := ev_stp pg_151_439 rfl
theorem pg_151_441 : mm_prog 151 441 = some (0, .sipush 2750, 444, []) := by decide +kernel
theorem xe_151_441 (a0 : Option MV) (st : List MV) (μ : MM) (G : MG) : ev 151 441 [a0] st μ G = ev 151 444 [a0] (vI (2750) :: st) μ G := ev_stp pg_151_441 rfl
theorem pg_151_444 : mm_prog 151 444 = some (0, .iastore, 445, []) := by decide +kernel
theorem xe_151_444 (a0 : Option MV) (x y z : Int) (st : List MV) (μ : MM) (G : MG) : ev 151 444 [a0] (vI x :: vI y :: vR z :: st) μ G = if gk G z = 100 ∧ 0 ≤ y ∧ y < gl G z ∧ 10 ≤ z then ev 151 445 [a0] st (mset μ z y x) G else none := ev_if pg_151_444 rfl
theorem pg_151_445 : mm_prog 151 445 = some (0, .dup, 446, []) := by decide +kernel
theorem xe_151_445 (a0 : Option MV) (x : Int) (st : List MV) (μ : MM) (G : MG) : ev 151 445 [a0] (vR x :: st) μ G = ev 151 446 [a0] (vR x :: vR x :: st) μ G := ev_stp pg_151_445 rfl
theorem pg_151_446 : mm_prog 151 446 = some (0, .bipush 54, 448, []) := by decide +kernel
theorem xe_151_446 (a0 : Option MV) (st : List MV) (μ : MM) (G : MG) : ev 151 446 [a0] st μ G = ev 151 448 [a0] (vI (54) :: st) μ G := ev_stp pg_151_446 rfl
theorem pg_151_448 : mm_prog 151 448 = some (0, .sipush 1125, 451, []) := by decide +kernel
theorem xe_151_448 (a0 : Option MV) (st : List MV) (μ : MM) (G : MG) : ev 151 448 [a0] st μ G = ev 151 451 [a0] (vI (1125) :: st) μ G := ev_stp pg_151_448 rfl
theorem pg_151_451 : mm_prog 151 451 = some (0, .iastore, 452, []) := by decide +kernel
theorem xe_151_451 (a0 : Option MV) (x y z : Int) (st : List MV) (μ : MM) (G : MG) : ev 151 451 [a0] (vI x :: vI y :: vR z :: st) μ G = if gk G z = 100 ∧ 0 ≤ y ∧ y < gl G z ∧ 10 ≤ z then ev 151 452 [a0] st (mset μ z y x) G else none := ev_if pg_151_451 rfl
theorem pg_151_452 : mm_prog 151 452 = some (0, .dup, 453, []) := by decide +kernel
theorem xe_151_452 (a0 : Option MV) (x : Int) (st : List MV) (μ : MM) (G : MG) : ev 151 452 [a0] (vR x :: st) μ G = ev 151 453 [a0] (vR x :: vR x :: st) μ G := ev_stp pg_151_452 rfl
theorem pg_151_453 : mm_prog 151 453 = some (0, .bipush 55, 455, []) := by decide +kernel
theorem xe_151_453 (a0 : Option MV) (st : List MV) (μ : MM) (G : MG) : ev 151 453 [a0] st μ G = ev 151 455 [a0] (vI (55) :: st) μ G := ev_stp pg_151_453 rfl
theorem pg_151_455 : mm_prog 151 455 = some (0, .ldc 47, 457, [74250]) := by decide +kernel
theorem xe_151_455 (a0 : Option MV) (st : List MV) (μ : MM) (G : MG) : ev 151 455 [a0] st μ G = ev 151 457 [a0] (vI (74250) :: st) μ G := ev_stp pg_151_455 rfl
theorem pg_151_457 : mm_prog 151 457 = some (0, .iastore, 458, []) := by decide +kernel
theorem xe_151_457 (a0 : Option MV) (x y z : Int) (st : List MV) (μ : MM) (G : MG) : ev 151 457 [a0] (vI x :: vI y :: vR z :: st) μ G = if gk G z = 100 ∧ 0 ≤ y ∧ y < gl G z ∧ 10 ≤ z then ev 151 458 [a0] st (mset μ z y x) G else none := ev_if pg_151_457 rfl
theorem pg_151_458 : mm_prog 151 458 = some (0, .dup, 459, []) := by decide +kernel
theorem xe_151_458 (a0 : Option MV) (x : Int) (st : List MV) (μ : MM) (G : MG) : ev 151 458 [a0] (vR x :: st) μ G = ev 151 459 [a0] (vR x :: vR x :: st) μ G := ev_stp pg_151_458 rfl
theorem pg_151_459 : mm_prog 151 459 = some (0, .bipush 56, 461, []) := by decide +kernel
theorem xe_151_459 (a0 : Option MV) (st : List MV) (μ : MM) (G : MG) : ev 151 459 [a0] st μ G = ev 151 461 [a0] (vI (56) :: st) μ G := ev_stp pg_151_459 rfl
theorem pg_151_461 : mm_prog 151 461 = some (0, .bipush 63, 463, []) := by decide +kernel
theorem xe_151_461 (a0 : Option MV) (st : List MV) (μ : MM) (G : MG) : ev 151 461 [a0] st μ G = ev 151 463 [a0] (vI (63) :: st) μ G := ev_stp pg_151_461 rfl
theorem pg_151_463 : mm_prog 151 463 = some (0, .iastore, 464, []) := by decide +kernel
theorem xe_151_463 (a0 : Option MV) (x y z : Int) (st : List MV) (μ : MM) (G : MG) : ev 151 463 [a0] (vI x :: vI y :: vR z :: st) μ G = if gk G z = 100 ∧ 0 ≤ y ∧ y < gl G z ∧ 10 ≤ z then ev 151 464 [a0] st (mset μ z y x) G else none := ev_if pg_151_463 rfl
theorem pg_151_464 : mm_prog 151 464 = some (0, .dup, 465, []) := by decide +kernel
theorem xe_151_464 (a0 : Option MV) (x : Int) (st : List MV) (μ : MM) (G : MG) : ev 151 464 [a0] (vR x :: st) μ G = ev 151 465 [a0] (vR x :: vR x :: st) μ G := ev_stp pg_151_464 rfl
theorem pg_151_465 : mm_prog 151 465 = some (0, .bipush 57, 467, []) := by decide +kernel
theorem xe_151_465 (a0 : Option MV) (st : List MV) (μ : MM) (G : MG) : ev 151 465 [a0] st μ G = ev 151 467 [a0] (vI (57) :: st) μ G := ev_stp pg_151_465 rfl
theorem pg_151_467 : mm_prog 151 467 = some (0, .bipush 63, 469, []) := by decide +kernel
theorem xe_151_467 (a0 : Option MV) (st : List MV) (μ : MM) (G : MG) : ev 151 467 [a0] st μ G = ev 151 469 [a0] (vI (63) :: st) μ G := ev_stp pg_151_467 rfl
theorem pg_151_469 : mm_prog 151 469 = some (0, .iastore, 470, []) := by decide +kernel
theorem xe_151_469 (a0 : Option MV) (x y z : Int) (st : List MV) (μ : MM) (G : MG) : ev 151 469 [a0] (vI x :: vI y :: vR z :: st) μ G = if gk G z = 100 ∧ 0 ≤ y ∧ y < gl G z ∧ 10 ≤ z then ev 151 470 [a0] st (mset μ z y x) G else none := ev_if pg_151_469 rfl
theorem pg_151_470 : mm_prog 151 470 = some (0, .dup, 471, []) := by decide +kernel
theorem xe_151_470 (a0 : Option MV) (x : Int) (st : List MV) (μ : MM) (G : MG) : ev 151 470 [a0] (vR x :: st) μ G = ev 151 471 [a0] (vR x :: vR x :: st) μ G := ev_stp pg_151_470 rfl
theorem pg_151_471 : mm_prog 151 471 = some (0, .bipush 58, 473, []) := by decide +kernel
theorem xe_151_471 (a0 : Option MV) (st : List MV) (μ : MM) (G : MG) : ev 151 471 [a0] st μ G = ev 151 473 [a0] (vI (58) :: st) μ G := ev_stp pg_151_471 rfl
theorem pg_151_473 : mm_prog 151 473 = some (0, .sipush 1920, 476, []) := by decide +kernel
theorem xe_151_473 (a0 : Option MV) (st : List MV) (μ : MM) (G : MG) : ev 151 473 [a0] st μ G = ev 151 476 [a0] (vI (1920) :: st) μ G := ev_stp pg_151_473 rfl
theorem pg_151_476 : mm_prog 151 476 = some (0, .iastore, 477, []) := by decide +kernel
theorem xe_151_476 (a0 : Option MV) (x y z : Int) (st : List MV) (μ : MM) (G : MG) : ev 151 476 [a0] (vI x :: vI y :: vR z :: st) μ G = if gk G z = 100 ∧ 0 ≤ y ∧ y < gl G z ∧ 10 ≤ z then ev 151 477 [a0] st (mset μ z y x) G else none := ev_if pg_151_476 rfl
theorem pg_151_477 : mm_prog 151 477 = some (0, .dup, 478, []) := by decide +kernel
theorem xe_151_477 (a0 : Option MV) (x : Int) (st : List MV) (μ : MM) (G : MG) : ev 151 477 [a0] (vR x :: st) μ G = ev 151 478 [a0] (vR x :: vR x :: st) μ G := ev_stp pg_151_477 rfl
theorem pg_151_478 : mm_prog 151 478 = some (0, .bipush 59, 480, []) := by decide +kernel
theorem xe_151_478 (a0 : Option MV) (st : List MV) (μ : MM) (G : MG) : ev 151 478 [a0] st μ G = ev 151 480 [a0] (vI (59) :: st) μ G := ev_stp pg_151_478 rfl
theorem pg_151_480 : mm_prog 151 480 = some (0, .sipush 1080, 483, []) := by decide +kernel
theorem xe_151_480 (a0 : Option MV) (st : List MV) (μ : MM) (G : MG) : ev 151 480 [a0] st μ G = ev 151 483 [a0] (vI (1080) :: st) μ G := ev_stp pg_151_480 rfl
theorem pg_151_483 : mm_prog 151 483 = some (0, .iastore, 484, []) := by decide +kernel
theorem xe_151_483 (a0 : Option MV) (x y z : Int) (st : List MV) (μ : MM) (G : MG) : ev 151 483 [a0] (vI x :: vI y :: vR z :: st) μ G = if gk G z = 100 ∧ 0 ≤ y ∧ y < gl G z ∧ 10 ≤ z then ev 151 484 [a0] st (mset μ z y x) G else none := ev_if pg_151_483 rfl
theorem pg_151_484 : mm_prog 151 484 = some (0, .dup, 485, []) := by decide +kernel
theorem xe_151_484 (a0 : Option MV) (x : Int) (st : List MV) (μ : MM) (G : MG) : ev 151 484 [a0] (vR x :: st) μ G = ev 151 485 [a0] (vR x :: vR x :: st) μ G := ev_stp pg_151_484 rfl
theorem pg_151_485 : mm_prog 151 485 = some (0, .bipush 60, 487, []) := by decide +kernel
theorem xe_151_485 (a0 : Option MV) (st : List MV) (μ : MM) (G : MG) : ev 151 485 [a0] st μ G = ev 151 487 [a0] (vI (60) :: st) μ G := ev_stp pg_151_485 rfl
theorem pg_151_487 : mm_prog 151 487 = some (0, .sipush 2200, 490, []) := by decide +kernel
theorem xe_151_487 (a0 : Option MV) (st : List MV) (μ : MM) (G : MG) : ev 151 487 [a0] st μ G = ev 151 490 [a0] (vI (2200) :: st) μ G := ev_stp pg_151_487 rfl
theorem pg_151_490 : mm_prog 151 490 = some (0, .iastore, 491, []) := by decide +kernel
theorem xe_151_490 (a0 : Option MV) (x y z : Int) (st : List MV) (μ : MM) (G : MG) : ev 151 490 [a0] (vI x :: vI y :: vR z :: st) μ G = if gk G z = 100 ∧ 0 ≤ y ∧ y < gl G z ∧ 10 ≤ z then ev 151 491 [a0] st (mset μ z y x) G else none := ev_if pg_151_490 rfl
theorem pg_151_491 : mm_prog 151 491 = some (0, .dup, 492, []) := by decide +kernel
theorem xe_151_491 (a0 : Option MV) (x : Int) (st : List MV) (μ : MM) (G : MG) : ev 151 491 [a0] (vR x :: st) μ G = ev 151 492 [a0] (vR x :: vR x :: st) μ G := ev_stp pg_151_491 rfl
theorem pg_151_492 : mm_prog 151 492 = some (0, .bipush 61, 494, []) := by decide +kernel
theorem xe_151_492 (a0 : Option MV) (st : List MV) (μ : MM) (G : MG) : ev 151 492 [a0] st μ G = ev 151 494 [a0] (vI (61) :: st) μ G := ev_stp pg_151_492 rfl
theorem pg_151_494 : mm_prog 151 494 = some (0, .sipush 1125, 497, []) := by decide +kernel
theorem xe_151_494 (a0 : Option MV) (st : List MV) (μ : MM) (G : MG) : ev 151 494 [a0] st μ G = ev 151 497 [a0] (vI (1125) :: st) μ G := ev_stp pg_151_494 rfl
theorem pg_151_497 : mm_prog 151 497 = some (0, .iastore, 498, []) := by decide +kernel
theorem xe_151_497 (a0 : Option MV) (x y z : Int) (st : List MV) (μ : MM) (G : MG) : ev 151 497 [a0] (vI x :: vI y :: vR z :: st) μ G = if gk G z = 100 ∧ 0 ≤ y ∧ y < gl G z ∧ 10 ≤ z then ev 151 498 [a0] st (mset μ z y x) G else none := ev_if pg_151_497 rfl
theorem pg_151_498 : mm_prog 151 498 = some (0, .dup, 499, []) := by decide +kernel
theorem xe_151_498 (a0 : Option MV) (x : Int) (st : List MV) (μ : MM) (G : MG) : ev 151 498 [a0] (vR x :: st) μ G = ev 151 499 [a0] (vR x :: vR x :: st) μ G := ev_stp pg_151_498 rfl
theorem pg_151_499 : mm_prog 151 499 = some (0, .bipush 62, 501, []) := by decide +kernel
theorem xe_151_499 (a0 : Option MV) (st : List MV) (μ : MM) (G : MG) : ev 151 499 [a0] st μ G = ev 151 501 [a0] (vI (62) :: st) μ G := ev_stp pg_151_499 rfl
theorem pg_151_501 : mm_prog 151 501 = some (0, .ldc 49, 503, [297000]) := by decide +kernel
theorem xe_151_501 (a0 : Option MV) (st : List MV) (μ : MM) (G : MG) : ev 151 501 [a0] st μ G = ev 151 503 [a0] (vI (297000) :: st) μ G := ev_stp pg_151_501 rfl
theorem pg_151_503 : mm_prog 151 503 = some (0, .iastore, 504, []) := by decide +kernel
theorem xe_151_503 (a0 : Option MV) (x y z : Int) (st : List MV) (μ : MM) (G : MG) : ev 151 503 [a0] (vI x :: vI y :: vR z :: st) μ G = if gk G z = 100 ∧ 0 ≤ y ∧ y < gl G z ∧ 10 ≤ z then ev 151 504 [a0] st (mset μ z y x) G else none := ev_if pg_151_503 rfl
theorem pg_151_504 : mm_prog 151 504 = some (0, .dup, 505, []) := by decide +kernel
theorem xe_151_504 (a0 : Option MV) (x : Int) (st : List MV) (μ : MM) (G : MG) : ev 151 504 [a0] (vR x :: st) μ G = ev 151 505 [a0] (vR x :: vR x :: st) μ G := ev_stp pg_151_504 rfl
theorem pg_151_505 : mm_prog 151 505 = some (0, .bipush 63, 507, []) := by decide +kernel
theorem xe_151_505 (a0 : Option MV) (st : List MV) (μ : MM) (G : MG) : ev 151 505 [a0] st μ G = ev 151 507 [a0] (vI (63) :: st) μ G := ev_stp pg_151_505 rfl
theorem pg_151_507 : mm_prog 151 507 = some (0, .bipush 95, 509, []) := by decide +kernel
theorem xe_151_507 (a0 : Option MV) (st : List MV) (μ : MM) (G : MG) : ev 151 507 [a0] st μ G = ev 151 509 [a0] (vI (95) :: st) μ G := ev_stp pg_151_507 rfl
theorem pg_151_509 : mm_prog 151 509 = some (0, .iastore, 510, []) := by decide +kernel
theorem xe_151_509 (a0 : Option MV) (x y z : Int) (st : List MV) (μ : MM) (G : MG) : ev 151 509 [a0] (vI x :: vI y :: vR z :: st) μ G = if gk G z = 100 ∧ 0 ≤ y ∧ y < gl G z ∧ 10 ≤ z then ev 151 510 [a0] st (mset μ z y x) G else none := ev_if pg_151_509 rfl
theorem pg_151_510 : mm_prog 151 510 = some (0, .dup, 511, []) := by decide +kernel
theorem xe_151_510 (a0 : Option MV) (x : Int) (st : List MV) (μ : MM) (G : MG) : ev 151 510 [a0] (vR x :: st) μ G = ev 151 511 [a0] (vR x :: vR x :: st) μ G := ev_stp pg_151_510 rfl
theorem pg_151_511 : mm_prog 151 511 = some (0, .bipush 64, 513, []) := by decide +kernel
theorem xe_151_511 (a0 : Option MV) (st : List MV) (μ : MM) (G : MG) : ev 151 511 [a0] st μ G = ev 151 513 [a0] (vI (64) :: st) μ G := ev_stp pg_151_511 rfl
theorem pg_151_513 : mm_prog 151 513 = some (0, .bipush 95, 515, []) := by decide +kernel
theorem xe_151_513 (a0 : Option MV) (st : List MV) (μ : MM) (G : MG) : ev 151 513 [a0] st μ G = ev 151 515 [a0] (vI (95) :: st) μ G := ev_stp pg_151_513 rfl
theorem pg_151_515 : mm_prog 151 515 = some (0, .iastore, 516, []) := by decide +kernel
theorem xe_151_515 (a0 : Option MV) (x y z : Int) (st : List MV) (μ : MM) (G : MG) : ev 151 515 [a0] (vI x :: vI y :: vR z :: st) μ G = if gk G z = 100 ∧ 0 ≤ y ∧ y < gl G z ∧ 10 ≤ z then ev 151 516 [a0] st (mset μ z y x) G else none := ev_if pg_151_515 rfl
theorem pg_151_516 : mm_prog 151 516 = some (0, .dup, 517, []) := by decide +kernel
theorem xe_151_516 (a0 : Option MV) (x : Int) (st : List MV) (μ : MM) (G : MG) : ev 151 516 [a0] (vR x :: st) μ G = ev 151 517 [a0] (vR x :: vR x :: st) μ G := ev_stp pg_151_516 rfl
theorem pg_151_517 : mm_prog 151 517 = some (0, .bipush 65, 519, []) := by decide +kernel
theorem xe_151_517 (a0 : Option MV) (st : List MV) (μ : MM) (G : MG) : ev 151 517 [a0] st μ G = ev 151 519 [a0] (vI (65) :: st) μ G := ev_stp pg_151_517 rfl
theorem pg_151_519 : mm_prog 151 519 = some (0, .sipush 3840, 522, []) := by decide +kernel
theorem xe_151_519 (a0 : Option MV) (st : List MV) (μ : MM) (G : MG) : ev 151 519 [a0] st μ G = ev 151 522 [a0] (vI (3840) :: st) μ G := ev_stp pg_151_519 rfl
theorem pg_151_522 : mm_prog 151 522 = some (0, .iastore, 523, []) := by decide +kernel
theorem xe_151_522 (a0 : Option MV) (x y z : Int) (st : List MV) (μ : MM) (G : MG) : ev 151 522 [a0] (vI x :: vI y :: vR z :: st) μ G = if gk G z = 100 ∧ 0 ≤ y ∧ y < gl G z ∧ 10 ≤ z then ev 151 523 [a0] st (mset μ z y x) G else none := ev_if pg_151_522 rfl
theorem pg_151_523 : mm_prog 151 523 = some (0, .dup, 524, []) := by decide +kernel
theorem xe_151_523 (a0 : Option MV) (x : Int) (st : List MV) (μ : MM) (G : MG) : ev 151 523 [a0] (vR x :: st) μ G = ev 151 524 [a0] (vR x :: vR x :: st) μ G := ev_stp pg_151_523 rfl
theorem pg_151_524 : mm_prog 151 524 = some (0, .bipush 66, 526, []) := by decide +kernel
theorem xe_151_524 (a0 : Option MV) (st : List MV) (μ : MM) (G : MG) : ev 151 524 [a0] st μ G = ev 151 526 [a0] (vI (66) :: st) μ G := ev_stp pg_151_524 rfl
theorem pg_151_526 : mm_prog 151 526 = some (0, .sipush 2160, 529, []) := by decide +kernel
theorem xe_151_526 (a0 : Option MV) (st : List MV) (μ : MM) (G : MG) : ev 151 526 [a0] st μ G = ev 151 529 [a0] (vI (2160) :: st) μ G := ev_stp pg_151_526 rfl
theorem pg_151_529 : mm_prog 151 529 = some (0, .iastore, 530, []) := by decide +kernel
theorem xe_151_529 (a0 : Option MV) (x y z : Int) (st : List MV) (μ : MM) (G : MG) : ev 151 529 [a0] (vI x :: vI y :: vR z :: st) μ G = if gk G z = 100 ∧ 0 ≤ y ∧ y < gl G z ∧ 10 ≤ z then ev 151 530 [a0] st (mset μ z y x) G else none := ev_if pg_151_529 rfl
theorem pg_151_530 : mm_prog 151 530 = some (0, .dup, 531, []) := by decide +kernel
theorem xe_151_530 (a0 : Option MV) (x : Int) (st : List MV) (μ : MM) (G : MG) : ev 151 530 [a0] (vR x :: st) μ G = ev 151 531 [a0] (vR x :: vR x :: st) μ G := ev_stp pg_151_530 rfl
theorem pg_151_531 : mm_prog 151 531 = some (0, .bipush 67, 533, []) := by decide +kernel
theorem xe_151_531 (a0 : Option MV) (st : List MV) (μ : MM) (G : MG) : ev 151 531 [a0] st μ G = ev 151 533 [a0] (vI (67) :: st) μ G := ev_stp pg_151_531 rfl
theorem pg_151_533 : mm_prog 151 533 = some (0, .sipush 4400, 536, []) := by decide +kernel
theorem xe_151_533 (a0 : Option MV) (st : List MV) (μ : MM) (G : MG) : ev 151 533 [a0] st μ G = ev 151 536 [a0] (vI (4400) :: st) μ G := ev_stp pg_151_533 rfl
theorem pg_151_536 : mm_prog 151 536 = some (0, .iastore, 537, []) := by decide +kernel
theorem xe_151_536 (a0 : Option MV) (x y z : Int) (st : List MV) (μ : MM) (G : MG) : ev 151 536 [a0] (vI x :: vI y :: vR z :: st) μ G = if gk G z = 100 ∧ 0 ≤ y ∧ y < gl G z ∧ 10 ≤ z then ev 151 537 [a0] st (mset μ z y x) G else none := ev_if pg_151_536 rfl
theorem pg_151_537 : mm_prog 151 537 = some (0, .dup, 538, []) := by decide +kernel
theorem xe_151_537 (a0 : Option MV) (x : Int) (st : List MV) (μ : MM) (G : MG) : ev 151 537 [a0] (vR x :: st) μ G = ev 151 538 [a0] (vR x :: vR x :: st) μ G := ev_stp pg_151_537 rfl
theorem pg_151_538 : mm_prog 151 538 = some (0, .bipush 68, 540, []) := by decide +kernel
theorem xe_151_538 (a0 : Option MV) (st : List MV) (μ : MM) (G : MG) : ev 151 538 [a0] st μ G = ev 151 540 [a0] (vI (68) :: st) μ G := ev_stp pg_151_538 rfl
theorem pg_151_540 : mm_prog 151 540 = some (0, .sipush 2250, 543, []) := by decide +kernel
theorem xe_151_540 (a0 : Option MV) (st : List MV) (μ : MM) (G : MG) : ev 151 540 [a0] st μ G = ev 151 543 [a0] (vI (2250) :: st) μ G := ev_stp pg_151_540 rfl
theorem pg_151_543 : mm_prog 151 543 = some (0, .iastore, 544, []) := by decide +kernel
theorem xe_151_543 (a0 : Option MV) (x y z : Int) (st : List MV) (μ : MM) (G : MG) : ev 151 543 [a0] (vI x :: vI y :: vR z :: st) μ G = if gk G z = 100 ∧ 0 ≤ y ∧ y < gl G z ∧ 10 ≤ z then ev 151 544 [a0] st (mset μ z y x) G else none := ev_if pg_151_543 rfl
theorem pg_151_544 : mm_prog 151 544 = some (0, .dup, 545, []) := by decide +kernel
theorem xe_151_544 (a0 : Option MV) (x : Int) (st : List MV) (μ : MM) (G : MG) : ev 151 544 [a0] (vR x :: st) μ G = ev 151 545 [a0] (vR x :: vR x :: st) μ G := ev_stp pg_151_544 rfl
theorem pg_151_545 : mm_prog 151 545 = some (0, .bipush 69, 547, []) := by decide +kernel
theorem xe_151_545 (a0 : Option MV) (st : List MV) (μ : MM) (G : MG) : ev 151 545 [a0] st μ G = ev 151 547 [a0] (vI (69) :: st) μ G := ev_stp pg_151_545 rfl
theorem pg_151_547 : mm_prog 151 547 = some (0, .ldc 49, 549, [297000]) := by decide +kernel
theorem xe_151_547 (a0 : Option MV) (st : List MV) (μ : MM) (G : MG) : ev 151 547 [a0] st μ G = ev 151 549 [a0] (vI (297000) :: st) μ G := ev_stp pg_151_547 rfl
theorem pg_151_549 : mm_prog 151 549 = some (0, .iastore, 550, []) := by decide +kernel
theorem xe_151_549 (a0 : Option MV) (x y z : Int) (st : List MV) (μ : MM) (G : MG) : ev 151 549 [a0] (vI x :: vI y :: vR z :: st) μ G = if gk G z = 100 ∧ 0 ≤ y ∧ y < gl G z ∧ 10 ≤ z then ev 151 550 [a0] st (mset μ z y x) G else none := ev_if pg_151_549 rfl
theorem pg_151_550 : mm_prog 151 550 = some (0, .dup, 551, []) := by decide +kernel
theorem xe_151_550 (a0 : Option MV) (x : Int) (st : List MV) (μ : MM) (G : MG) : ev 151 550 [a0] (vR x :: st) μ G = ev 151 551 [a0] (vR x :: vR x :: st) μ G := ev_stp pg_151_550 rfl
theorem pg_151_551 : mm_prog 151 551 = some (0, .bipush 70, 553, []) := by decide +kernel
theorem xe_151_551 (a0 : Option MV) (st : List MV) (μ : MM) (G : MG) : ev 151 551 [a0] st μ G = ev 151 553 [a0] (vI (70) :: st) μ G := ev_stp pg_151_551 rfl
theorem pg_151_553 : mm_prog 151 553 = some (0, .bipush 97, 555, []) := by decide +kernel
theorem xe_151_553 (a0 : Option MV) (st : List MV) (μ : MM) (G : MG) : ev 151 553 [a0] st μ G = ev 151 555 [a0] (vI (97) :: st) μ G := ev_stp pg_151_553 rfl
theorem pg_151_555 : mm_prog 151 555 = some (0, .iastore, 556, []) := by decide +kernel
theorem xe_151_555 (a0 : Option MV) (x y z : Int) (st : List MV) (μ : MM) (G : MG) : ev 151 555 [a0] (vI x :: vI y :: vR z :: st) μ G = if gk G z = 100 ∧ 0 ≤ y ∧ y < gl G z ∧ 10 ≤ z then ev 151 556 [a0] st (mset μ z y x) G else none := ev_if pg_151_555 rfl
theorem pg_151_556 : mm_prog 151 556 = some (0, .dup, 557, []) := by decide +kernel
theorem xe_151_556 (a0 : Option MV) (x : Int) (st : List MV) (μ : MM) (G : MG) : ev 151 556 [a0] (vR x :: st) μ G = ev 151 557 [a0] (vR x :: vR x :: st) μ G := ev_stp pg_151_556 rfl
theorem pg_151_557 : mm_prog 151 557 = some (0, .bipush 71, 559, []) := by decide +kernel
theorem xe_151_557 (a0 : Option MV) (st : List MV) (μ : MM) (G : MG) : ev 151 557 [a0] st μ G = ev 151 559 [a0] (vI (71) :: st) μ G := ev_stp pg_151_557 rfl
theorem pg_151_559 : mm_prog 151 559 = some (0, .bipush 97, 561, []) := by decide +kernel
theorem xe_151_559 (a0 : Option MV) (st : List MV) (μ : MM) (G : MG) : ev 151 559 [a0] st μ G = ev 151 561 [a0] (vI (97) :: st) μ G := ev_stp pg_151_559 rfl
theorem pg_151_561 : mm_prog 151 561 = some (0, .iastore, 562, []) := by decide +kernel
theorem xe_151_561 (a0 : Option MV) (x y z : Int) (st : List MV) (μ : MM) (G : MG) : ev 151 561 [a0] (vI x :: vI y :: vR z :: st) μ G = if gk G z = 100 ∧ 0 ≤ y ∧ y < gl G z ∧ 10 ≤ z then ev 151 562 [a0] st (mset μ z y x) G else none := ev_if pg_151_561 rfl
theorem pg_151_562 : mm_prog 151 562 = some (0, .dup, 563, []) := by decide +kernel
theorem xe_151_562 (a0 : Option MV) (x : Int) (st : List MV) (μ : MM) (G : MG) : ev 151 562 [a0] (vR x :: st) μ G = ev 151 563 [a0] (vR x :: vR x :: st) μ G := ev_stp pg_151_562 rfl
theorem pg_151_563 : mm_prog 151 563 = some (0, .bipush 72, 565, []) := by decide +kernel
theorem xe_151_563 (a0 : Option MV) (st : List MV) (μ : MM) (G : MG) : ev 151 563 [a0] st μ G = ev 151 565 [a0] (vI (72) :: st) μ G := ev_stp pg_151_563 rfl
theorem pg_151_565 : mm_prog 151 565 = some (0, .sipush 3840, 568, []) := by decide +kernel
theorem xe_151_565 (a0 : Option MV) (st : List MV) (μ : MM) (G : MG) : ev 151 565 [a0] st μ G = ev 151 568 [a0] (vI (3840) :: st) μ G := ev_stp pg_151_565 rfl
theorem pg_151_568 : mm_prog 151 568 = some (0, .iastore, 569, []) := by decide +kernel
theorem xe_151_568 (a0 : Option MV) (x y z : Int) (st : List MV) (μ : MM) (G : MG) : ev 151 568 [a0] (vI x :: vI y :: vR z :: st) μ G = if gk G z = 100 ∧ 0 ≤ y ∧ y < gl G z ∧ 10 ≤ z then ev 151 569 [a0] st (mset μ z y x) G else none := ev_if pg_151_568 rfl
theorem pg_151_569 : mm_prog 151 569 = some (0, .dup, 570, []) := by decide +kernel
theorem xe_151_569 (a0 : Option MV) (x : Int) (st : List MV) (μ : MM) (G : MG) : ev 151 569 [a0] (vR x :: st) μ G = ev 151 570 [a0] (vR x :: vR x :: st) μ G := ev_stp pg_151_569 rfl
theorem pg_151_570 : mm_prog 151 570 = some (0, .bipush 73, 572, []) := by decide +kernel
theorem xe_151_570 (a0 : Option MV) (st : List MV) (μ : MM) (G : MG) : ev 151 570 [a0] st μ G = ev 151 572 [a0] (vI (73) :: st) μ G := ev_stp pg_151_570 rfl
theorem pg_151_572 : mm_prog 151 572 = some (0, .sipush 2160, 575, []) := by decide +kernel
theorem xe_151_572 (a0 : Option MV) (st : List MV) (μ : MM) (G : MG) : ev 151 572 [a0] st μ G = ev 151 575 [a0] (vI (2160) :: st) μ G := ev_stp pg_151_572 rfl
theorem pg_151_575 : mm_prog 151 575 = some (0, .iastore, 576, []) := by decide +kernel
theorem xe_151_575 (a0 : Option MV) (x y z : Int) (st : List MV) (μ : MM) (G : MG) : ev 151 575 [a0] (vI x :: vI y :: vR z :: st) μ G = if gk G z = 100 ∧ 0 ≤ y ∧ y < gl G z ∧ 10 ≤ z then ev 151 576 [a0] st (mset μ z y x) G else none := ev_if pg_151_575 rfl
theorem pg_151_576 : mm_prog 151 576 = some (0, .dup, 577, []) := by decide +kernel
theorem xe_151_576 (a0 : Option MV) (x : Int) (st : List MV) (μ : MM) (G : MG) : ev 151 576 [a0] (vR x :: st) μ G = ev 151 577 [a0] (vR x :: vR x :: st) μ G := ev_stp pg_151_576 rfl
theorem pg_151_577 : mm_prog 151 577 = some (0, .bipush 74, 579, []) := by decide +kernel
theorem xe_151_577 (a0 : Option MV) (st : List MV) (μ : MM) (G : MG) : ev 151 577 [a0] st μ G = ev 151 579 [a0] (vI (74) :: st) μ G := ev_stp pg_151_577 rfl
theorem pg_151_579 : mm_prog 151 579 = some (0, .sipush 4400, 582, []) := by decide +kernel
theorem xe_151_579 (a0 : Option MV) (st : List MV) (μ : MM) (G : MG) : ev 151 579 [a0] st μ G = ev 151 582 [a0] (vI (4400) :: st) μ G := ev_stp pg_151_579 rfl
theorem pg_151_582 : mm_prog 151 582 = some (0, .iastore, 583, []) := by decide +kernel
theorem xe_151_582 (a0 : Option MV) (x y z : Int) (st : List MV) (μ : MM) (G : MG) : ev 151 582 [a0] (vI x :: vI y :: vR z :: st) μ G = if gk G z = 100 ∧ 0 ≤ y ∧ y < gl G z ∧ 10 ≤ z then ev 151 583 [a0] st (mset μ z y x) G else none := ev_if pg_151_582 rfl
theorem pg_151_583 : mm_prog 151 583 = some (0, .dup, 584, []) := by decide +kernel
theorem xe_151_583 (a0 : Option MV) (x : Int) (st : List MV) (μ : MM) (G : MG) : ev 151 583 [a0] (vR x :: st) μ G = ev 151 584 [a0] (vR x :: vR x :: st) μ G := ev_stp pg_151_583 rfl
theorem pg_151_584 : mm_prog 151 584 = some (0, .bipush 75, 586, []) := by decide +kernel
theorem xe_151_584 (a0 : Option MV) (st : List MV) (μ : MM) (G : MG) : ev 151 584 [a0] st μ G = ev 151 586 [a0] (vI (75) :: st) μ G := ev_stp pg_151_584 rfl
theorem pg_151_586 : mm_prog 151 586 = some (0, .sipush 2250, 589, []) := by decide +kernel
theorem xe_151_586 (a0 : Option MV) (st : List MV) (μ : MM) (G : MG) : ev 151 586 [a0] st μ G = ev 151 589 [a0] (vI (2250) :: st) μ G := ev_stp pg_151_586 rfl
theorem pg_151_589 : mm_prog 151 589 = some (0, .iastore, 590, []) := by decide +kernel
theorem xe_151_589 (a0 : Option MV) (x y z : Int) (st : List MV) (μ : MM) (G : MG) : ev 151 589 [a0] (vI x :: vI y :: vR z :: st) μ G = if gk G z = 100 ∧ 0 ≤ y ∧ y < gl G z ∧ 10 ≤ z then ev 151 590 [a0] st (mset μ z y x) G else none := ev_if pg_151_589 rfl
theorem pg_151_590 : mm_prog 151 590 = some (0, .dup, 591, []) := by decide +kernel
theorem xe_151_590 (a0 : Option MV) (x : Int) (st : List MV) (μ : MM) (G : MG) : ev 151 590 [a0] (vR x :: st) μ G = ev 151 591 [a0] (vR x :: vR x :: st) μ G := ev_stp pg_151_590 rfl
theorem pg_151_591 : mm_prog 151 591 = some (0, .bipush 76, 593, []) := by decide +kernel
theorem xe_151_591 (a0 : Option MV) (st : List MV) (μ : MM) (G : MG) : ev 151 591 [a0] st μ G = ev 151 593 [a0] (vI (76) :: st) μ G := ev_stp pg_151_591 rfl
theorem pg_151_593 : mm_prog 151 593 = some (0, .ldc 50, 595, [594000]) := by decide +kernel
theorem xe_151_593 (a0 : Option MV) (st : List MV) (μ : MM) (G : MG) : ev 151 593 [a0] st μ G = ev 151 595 [a0] (vI (594000) :: st) μ G := ev_stp pg_151_593 rfl
theorem pg_151_595 : mm_prog 151 595 = some (0, .iastore, 596, []) := by decide +kernel
theorem xe_151_595 (a0 : Option MV) (x y z : Int) (st : List MV) (μ : MM) (G : MG) : ev 151 595 [a0] (vI x :: vI y :: vR z :: st) μ G = if gk G z = 100 ∧ 0 ≤ y ∧ y < gl G z ∧ 10 ≤ z then ev 151 596 [a0] st (mset μ z y x) G else none := ev_if pg_151_595 rfl
theorem pg_151_596 : mm_prog 151 596 = some (0, .putfield 51, 599, [11, 24, 2]) := by decide +kernel
theorem xe_151_596 (a0 : Option MV) (x y : Int) (st : List MV) (μ : MM) (G : MG) : ev 151 596 [a0] (vR x :: vR y :: st) μ G = if gk G y = 11 then ev 151 599 [a0] st (mset μ y 24 x) G else none := ev_put2 pg_151_596
theorem pg_151_599 : mm_prog 151 599 = some (0, .aload_n 0, 600, []) := by decide +kernel
theorem xe_151_599 (x : Int) (st : List MV) (μ : MM) (G : MG) : ev 151 599 [some (vR x)] st μ G = ev 151 600 [some (vR x)] (vR x :: st) μ G := ev_stp pg_151_599 rfl
theorem pg_151_600 : mm_prog 151 600 = some (0, .bipush 30, 602, []) := by decide +kernel
theorem xe_151_600 (a0 : Option MV) (st : List MV) (μ : MM) (G : MG) : ev 151 600 [a0] st μ G = ev 151 602 [a0] (vI (30) :: st) μ G := ev_stp pg_151_600 rfl
theorem pg_151_602 : mm_prog 151 602 = some (0, .newarray .int, 604, [100]) := by decide +kernel
theorem xe_151_602 (a0 : Option MV) (x : Int) (st : List MV) (μ : MM) (G : MG) : ev 151 602 [a0] (vI x :: st) μ G = if 0 ≤ x ∧ x ≤ 100000 then ev 151 604 [a0] (vR G.2.1 :: st) (mzero μ G.2.1) (gnew G 100 x x) else none := ev_if pg_151_602 rfl
theorem pg_151_604 : mm_prog 151 604 = some (0, .dup, 605, []) := by decide +kernel
theorem xe_151_604 (a0 : Option MV) (x : Int) (st : List MV) (μ : MM) (G : MG) : ev 151 604 [a0] (vR x :: st) μ G = ev 151 605 [a0] (vR x :: vR x :: st) μ G := ev_stp pg_151_604 rfl
theorem pg_151_605 : mm_prog 151 605 = some (0, .iconst 0, 606, []) := by decide +kernel
theorem xe_151_605 (a0 : Option MV) (st : List MV) (μ : MM) (G : MG) : ev 151 605 [a0] st μ G = ev 151 606 [a0] (vI (0) :: st) μ G := ev_stp pg_151_605 rfl
theorem pg_151_606 : mm_prog 151 606 = some (0, .bipush 35, 608, []) := by decide +kernel
theorem xe_151_606 (a0 : Option MV) (st : List MV) (μ : MM) (G : MG) : ev 151 606 [a0] st μ G = ev 151 608 [a0] (vI (35) :: st) μ G := ev_stp pg_151_606 rfl
theorem pg_151_608 : mm_prog 151 608 = some (0, .iastore, 609, []) := by decide +kernel
theorem xe_151_608 (a0 : Option MV) (x y z : Int) (st : List MV) (μ : MM) (G : MG) : ev 151 608 [a0] (vI x :: vI y :: vR z :: st) μ G = if gk G z = 100 ∧ 0 ≤ y ∧ y < gl G z ∧ 10 ≤ z then ev 151 609 [a0] st (mset μ z y x) G else none := ev_if pg_151_608 rfl
theorem pg_151_609 : mm_prog 151 609 = some (0, .dup, 610, []) := by decide +kernel
theorem xe_151_609 (a0 : Option MV) (x : Int) (st : List MV) (μ : MM) (G : MG) : ev 151 609 [a0] (vR x :: st) μ G = ev 151 610 [a0] (vR x :: vR x :: st) μ G := ev_stp pg_151_609 rfl
theorem pg_151_610 : mm_prog 151 610 = some (0, .iconst 1, 611, []) := by decide +kernel
theorem xe_151_610 (a0 : Option MV) (st : List MV) (μ : MM) (G : MG) : ev 151 610 [a0] st μ G = ev 151 611 [a0] (vI (1) :: st) μ G := ev_stp pg_151_610 rfl
theorem pg_151_611 : mm_prog 151 611 = some (0, .iconst 5, 612, []) := by decide +kernel
theorem xe_151_611 (a0 : Option MV) (st : List MV) (μ : MM) (G : MG) : ev 151 611 [a0] st μ G = ev 151 612 [a0] (vI (5) :: st) μ G := ev_stp pg_151_611 rfl
theorem pg_151_612 : mm_prog 151 612 = some (0, .iastore, 613, []) := by decide +kernel
theorem xe_151_612 (a0 : Option MV) (x y z : Int) (st : List MV) (μ : MM) (G : MG) : ev 151 612 [a0] (vI x :: vI y :: vR z :: st) μ G = if gk G z = 100 ∧ 0 ≤ y ∧ y < gl G z ∧ 10 ≤ z then ev 151 613 [a0] st (mset μ z y x) G else none := ev_if pg_151_612 rfl
theorem pg_151_613 : mm_prog 151 613 = some (0, .dup, 614, []) := by decide +kernel
theorem xe_151_613 (a0 : Option MV) (x : Int) (st : List MV) (μ : MM) (G : MG) : ev 151 613 [a0] (vR x :: st) μ G = ev 151 614 [a0] (vR x :: vR x :: st) μ G := ev_stp pg_151_613 rfl
theorem pg_151_614 : mm_prog 151 614 = some (0, .iconst 2, 615, []) := by decide +kernel
theorem xe_151_614 (a0 : Option MV) (st : List MV) (μ : MM) (G : MG) : ev 151 614 [a0] st μ G = ev 151 615 [a0] (vI (2) :: st) μ G := ev_stp pg_151_614 rfl
theorem pg_151_615 : mm_prog 151 615 = some (0, .sipush 640, 618, []) := by decide +kernel
theorem xe_151_615 (a0 : Option MV) (st : List MV) (μ : MM) (G : MG) : ev 151 615 [a0] st μ G = ev 151 618 [a0] (vI (640) :: st) μ G := ev_stp pg_151_615 rfl
theorem pg_151_618 : mm_prog 151 618 = some (0, .iastore, 619, []) := by decide +kernel
theorem xe_151_618 (a0 : Option MV) (x y z : Int) (st : List MV) (μ : MM) (G : MG) : ev 151 618 [a0] (vI x :: vI y :: vR z :: st) μ G = if gk G z = 100 ∧ 0 ≤ y ∧ y < gl G z ∧ 10 ≤ z then ev 151 619 [a0] st (mset μ z y x) G else none := ev_if pg_151_618 rfl
theorem pg_151_619 : mm_prog 151 619 = some (0, .dup, 620, []) := by decide +kernel
theorem xe_151_619 (a0 : Option MV) (x : Int) (st : List MV) (μ : MM) (G : MG) : ev 151 619 [a0] (vR x :: st) μ G = ev 151 620 [a0] (vR x :: vR x :: st) μ G := ev_stp pg_151_619 rfl
theorem pg_151_620 : mm_prog 151 620 = some (0, .iconst 3, 621, []) := by decide +kernel
theorem xe_151_620 (a0 : Option MV) (st : List MV) (μ : MM) (G : MG) : ev 151 620 [a0] st μ G = ev 151 621 [a0] (vI (3) :: st) μ G := ev_stp pg_151_620 rfl
theorem pg_151_621 : mm_prog 151 621 = some (0, .sipush 480, 624, []) := by decide +kernel
theorem xe_151_621 (a0 : Option MV) (st : List MV) (μ : MM) (G : MG) : ev 151 621 [a0] st μ G = ev 151 624 [a0] (vI (480) :: st) μ G := ev_stp pg_151_621 rfl
theorem pg_151_624 : mm_prog 151 624 = some (0, .iastore, 625, []) := by decide +kernel
theorem xe_151_624 (a0 : Option MV) (x y z : Int) (st : List MV) (μ : MM) (G : MG) : ev 151 624 [a0] (vI x :: vI y :: vR z :: st) μ G = if gk G z = 100 ∧ 0 ≤ y ∧ y < gl G z ∧ 10 ≤ z then ev 151 625 [a0] st (mset μ z y x) G else none := ev_if pg_151_624 rfl
theorem pg_151_625 : mm_prog 151 625 = some (0, .dup, 626, []) := by decide +kernel
theorem xe_151_625 (a0 : Option MV) (x : Int) (st : List MV) (μ : MM) (G : MG) : ev 151 625 [a0] (vR x :: st) μ G = ev 151 626 [a0] (vR x :: vR x :: st) μ G := ev_stp pg_151_625 rfl
theorem pg_151_626 : mm_prog 151 626 = some (0, .iconst 4, 627, []) := by decide +kernel
theorem xe_151_626 (a0 : Option MV) (st : List MV) (μ : MM) (G : MG) : ev 151 626 [a0] st μ G = ev 151 627 [a0] (vI (4) :: st) μ G := ev_stp pg_151_626 rfl
theorem pg_151_627 : mm_prog 151 627 = some (0, .bipush 60, 629, []) := by decide +kernel
theorem xe_151_627 (a0 : Option MV) (st : List MV) (μ : MM) (G : MG) : ev 151 627 [a0] st μ G = ev 151 629 [a0] (vI (60) :: st) μ G := ev_stp pg_151_627 rfl
theorem pg_151_629 : mm_prog 151 629 = some (0, .iastore, 630, []) := by decide +kernel
theorem xe_151_629 (a0 : Option MV) (x y z : Int) (st : List MV) (μ : MM) (G : MG) : ev 151 629 [a0] (vI x :: vI y :: vR z :: st) μ G = if gk G z = 100 ∧ 0 ≤ y ∧ y < gl G z ∧ 10 ≤ z then ev 151 630 [a0] st (mset μ z y x) G else none := ev_if pg_151_629 rfl
theorem pg_151_630 : mm_prog 151 630 = some (0, .dup, 631, []) := by decide +kernel
theorem xe_151_630 (a0 : Option MV) (x : Int) (st : List MV) (μ : MM) (G : MG) : ev 151 630 [a0] (vR x :: st) μ G = ev 151 631 [a0] (vR x :: vR x :: st) μ G := ev_stp pg_151_630 rfl
theorem pg_151_631 : mm_prog 151 631 = some (0, .iconst 5, 632, []) := by decide +kernel
theorem xe_151_631 (a0 : Option MV) (st : List MV) (μ : MM) (G : MG) : ev 151 631 [a0] st μ G = ev 151 632 [a0] (vI (5) :: st) μ G := ev_stp pg_151_631 rfl
theorem pg_151_632 : mm_prog 151 632 = some (0, .bipush 35, 634, []) := by decide +kernel
theorem xe_151_632 (a0 : Option MV) (st : List MV) (μ : MM) (G : MG) : ev 151 632 [a0] st μ G = ev 151 634 [a0] (vI (35) :: st) μ G := ev_stp pg_151_632 rfl
theorem pg_151_634 : mm_prog 151 634 = some (0, .iastore, 635, []) := by decide +kernel
theorem xe_151_634 (a0 : Option MV) (x y z : Int) (st : List MV) (μ : MM) (G : MG) : ev 151 634 [a0] (vI x :: vI y :: vR z :: st) μ G = if gk G z = 100 ∧ 0 ≤ y ∧ y < gl G z ∧ 10 ≤ z then ev 151 635 [a0] st (mset μ z y x) G else none := ev_if pg_151_634 rfl
theorem pg_151_635 : mm_prog 151 635 = some (0, .dup, 636, []) := by decide +kernel
theorem xe_151_635 (a0 : Option MV) (x : Int) (st : List MV) (μ : MM) (G : MG) : ev 151 635 [a0] (vR x :: st) μ G = ev 151 636 [a0] (vR x :: vR x :: st) μ G := ev_stp pg_151_635 rfl
theorem pg_151_636 : mm_prog 151 636 = some (0, .bipush 6, 638, []) := by decide +kernel
theorem xe_151_636 (a0 : Option MV) (st : List MV) (μ : MM) (G : MG) : ev 151 636 [a0] st μ G = ev 151 638 [a0] (vI (6) :: st) μ G := ev_stp pg_151_636 rfl
theorem pg_151_638 : mm_prog 151 638 = some (0, .iconst 2, 639, []) := by decide +kernel
theorem xe_151_638 (a0 : Option MV) (st : List MV) (μ : MM) (G : MG) : ev 151 638 [a0] st μ G = ev 151 639 [a0] (vI (2) :: st) μ G := ev_stp pg_151_638 rfl
theorem pg_151_639 : mm_prog 151 639 = some (0, .iastore, 640, []) := by decide +kernel
theorem xe_151_639 (a0 : Option MV) (x y z : Int) (st : List MV) (μ : MM) (G : MG) : ev 151 639 [a0] (vI x :: vI y :: vR z :: st) μ G = if gk G z = 100 ∧ 0 ≤ y ∧ y < gl G z ∧ 10 ≤ z then ev 151 640 [a0] st (mset μ z y x) G else none := ev_if pg_151_639 rfl
theorem pg_151_640 : mm_prog 151 640 = some (0, .dup, 641, []) := by decide +kernel
theorem xe_151_640 (a0 : Option MV) (x : Int) (st : List MV) (μ : MM) (G : MG) : ev 151 640 [a0] (vR x :: st) μ G = ev 151 641 [a0] (vR x :: vR x :: st) μ G := ev_stp pg_151_640 rfl
theorem pg_151_641 : mm_prog 151 641 = some (0, .bipush 7, 643, []) := by decide +kernel
theorem xe_151_641 (a0 : Option MV) (st : List MV) (μ : MM) (G : MG) : ev 151 641 [a0] st μ G = ev 151 643 [a0] (vI (7) :: st) μ G := ev_stp pg_151_641 rfl
theorem pg_151_643 : mm_prog 151 643 = some (0, .sipush 640, 646, []) := by decide +kernel
theorem xe_151_643 (a0 : Option MV) (st : List MV) (μ : MM) (G : MG) : ev 151 643 [a0] st μ G = ev 151 646 [a0] (vI (640) :: st) μ G := ev_stp pg_151_643 rfl
theorem pg_151_646 : mm_prog 151 646 = some (0, .iastore, 647, []) := by decide +kernel
theorem xe_151_646 (a0 : Option MV) (x y z : Int) (st : List MV) (μ : MM) (G : MG) : ev 151 646 [a0] (vI x :: vI y :: vR z :: st) μ G = if gk G z = 100 ∧ 0 ≤ y ∧ y < gl G z ∧ 10 ≤ z then ev 151 647 [a0] st (mset μ z y x) G else none := ev_if pg_151_646 rfl
theorem pg_151_647 : mm_prog 151 647 = some (0, .dup, 648, []) := by decide +kernel
theorem xe_151_647 (a0 : Option MV) (x : Int) (st : List MV) (μ : MM) (G : MG) : ev 151 647 [a0] (vR x :: st) μ G = ev 151 648 [a0] (vR x :: vR x :: st) μ G := ev_stp pg_151_647 rfl
theorem pg_151_648 : mm_prog 151 648 = some (0, .bipush 8, 650, []) := by decide +kernel
theorem xe_151_648 (a0 : Option MV) (st : List MV) (μ : MM) (G : MG) : ev 151 648 [a0] st μ G = ev 151 650 [a0] (vI (8) :: st) μ G := ev_stp pg_151_648 rfl
theorem pg_151_650 : mm_prog 151 650 = some (0, .sipush 480, 653, []) := by decide +kernel
theorem xe_151_650 (a0 : Option MV) (st : List MV) (μ : MM) (G : MG) : ev 151 650 [a0] st μ G = ev 151 653 [a0] (vI (480) :: st) μ G := ev_stp pg_151_650 rfl
theorem pg_151_653 : mm_prog 151 653 = some (0, .iastore, 654, []) := by decide +kernel
theorem xe_151_653 (a0 : Option MV) (x y z : Int) (st : List MV) (μ : MM) (G : MG) : ev 151 653 [a0] (vI x :: vI y :: vR z :: st) μ G = if gk G z = 100 ∧ 0 ≤ y ∧ y < gl G z ∧ 10 ≤ z then ev 151 654 [a0] st (mset μ z y x) G else none := ev_if pg_151_653 rfl
theorem pg_151_654 : mm_prog 151 654 = some (0, .dup, 655, []) := by decide +kernel
theorem xe_151_654 (a0 : Option MV) (x : Int) (st : List MV) (μ : MM) (G : MG) : ev 151 654 [a0] (vR x :: st) μ G = ev 151 655 [a0] (vR x :: vR x :: st) μ G := ev_stp pg_151_654 rfl
theorem pg_151_655 : mm_prog 151 655 = some (0, .bipush 9, 657, []) := by decide +kernel
theorem xe_151_655 (a0 : Option MV) (st : List MV) (μ : MM) (G : MG) : ev 151 655 [a0] st μ G = ev 151 657 [a0] (vI (9) :: st) μ G := ev_stp pg_151_655 rfl
theorem pg_151_657 : mm_prog 151 657 = some (0, .bipush 75, 659, []) := by decide +kernel
theorem xe_151_657 (a0 : Option MV) (st : List MV) (μ : MM) (G : MG) : ev 151 657 [a0] st μ G = ev 151 659 [a0] (vI (75) :: st) μ G := ev_stp pg_151_657 rfl
theorem pg_151_659 : mm_prog 151 659 = some (0, .iastore, 660, []) := by decide +kernel
theorem xe_151_659 (a0 : Option MV) (x y z : Int) (st : List MV) (μ : MM) (G : MG) : ev 151 659 [a0] (vI x :: vI y :: vR z :: st) μ G = if gk G z = 100 ∧ 0 ≤ y ∧ y < gl G z ∧ 10 ≤ z then ev 151 660 [a0] st (mset μ z y x) G else none := ev_if pg_151_659 rfl
theorem pg_151_660 : mm_prog 151 660 = some (0, .dup, 661, []) := by decide +kernel
theorem xe_151_660 (a0 : Option MV) (x : Int) (st : List MV) (μ : MM) (G : MG) : ev 151 660 [a0] (vR x :: st) μ G = ev 151 661 [a0] (vR x :: vR x :: st) μ G := ev_stp pg_151_660 rfl
theorem pg_151_661 : mm_prog 151 661 = some (0, .bipush 10, 663, []) := by decide +kernel
theorem xe_151_661 (a0 : Option MV) (st : List MV) (μ : MM) (G : MG) : ev 151 661 [a0] st μ G = ev 151 663 [a0] (vI (10) :: st) μ G := ev_stp pg_151_661 rfl
theorem pg_151_663 : mm_prog 151 663 = some (0, .bipush 35, 665, []) := by decide +kernel
theorem xe_151_663 (a0 : Option MV) (st : List MV) (μ : MM) (G : MG) : ev 151 663 [a0] st μ G = ev 151 665 [a0] (vI (35) :: st) μ G := ev_stp pg_151_663 rfl
theorem pg_151_665 : mm_prog 151 665 = some (0, .iastore, 666, []) := by decide +kernel
theorem xe_151_665 (a0 : Option MV) (x y z : Int) (st : List MV) (μ : MM) (G : MG) : ev 151 665 [a0] (vI x :: vI y :: vR z :: st) μ G = if gk G z = 100 ∧ 0 ≤ y ∧ y < gl G z ∧ 10 ≤ z then ev 151 666 [a0] st (mset μ z y x) G else none := ev_if pg_151_665 rfl
theorem pg_151_666 : mm_prog 151 666 = some (0, .dup, 667, []) := by decide +kernel
theorem xe_151_666 (a0 : Option MV) (x : Int) (st : List MV) (μ : MM) (G : MG) : ev 151 666 [a0] (vR x :: st) μ G = ev 151 667 [a0] (vR x :: vR x :: st) μ G := ev_stp pg_151_666 rfl
theorem pg_151_667 : mm_prog 151 667 = some (0, .bipush 11, 669, []) := by decide +kernel
theorem xe_151_667 (a0 : Option MV) (st : List MV) (μ : MM) (G : MG) : ev 151 667 [a0] st μ G = ev 151 669 [a0] (vI (11) :: st) μ G := ev_stp pg_151_667 rfl
theorem pg_151_669 : mm_prog 151 669 = some (0, .iconst 0, 670, []) := by decide +kernel
theorem xe_151_669 (a0 : Option MV) (st : List MV) (μ : MM) (G : MG) : ev 151 669 [a0] st μ G = ev 151 670 [a0] (vI (0) :: st) μ G := ev_stp pg_151_669 rfl
theorem pg_151_670 : mm_prog 151 670 = some (0, .iastore, 671, []) := by decide +kernel
theorem xe_151_670 (a0 : Option MV) (x y z : Int) (st : List MV) (μ : MM) (G : MG) : ev 151 670 [a0] (vI x :: vI y :: vR z :: st) μ G = if gk G z = 100 ∧ 0 ≤ y ∧ y < gl G z ∧ 10 ≤ z then ev 151 671 [a0] st (mset μ z y x) G else none := ev_if pg_151_670 rfl
theorem pg_151_671 : mm_prog 151 671 = some (0, .dup, 672, []) := by decide +kernel
theorem xe_151_671 (a0 : Option MV) (x : Int) (st : List MV) (μ : MM) (G : MG) : ev 151 671 [a0] (vR x :: st) μ G = ev 151 672 [a0] (vR x :: vR x :: st) μ G := ev_stp pg_151_671 rfl
theorem pg_151_672 : mm_prog 151 672 = some (0, .bipush 12, 674, []) := by decide +kernel
theorem xe_151_672 (a0 : Option MV) (st : List MV) (μ : MM) (G : MG) : ev 151 672 [a0] st μ G = ev 151 674 [a0] (vI (12) :: st) μ G := ev_stp pg_151_672 rfl
theorem pg_151_674 : mm_prog 151 674 = some (0, .sipush 800, 677, []) := by decide +kernel
theorem xe_151_674 (a0 : Option MV) (st : List MV) (μ : MM) (G : MG) : ev 151 674 [a0] st μ G = ev 151 677 [a0] (vI (800) :: st) μ G := ev_stp pg_151_674 rfl
theorem pg_151_677 : mm_prog 151 677 = some (0, .iastore, 678, []) := by decide +kernel
theorem xe_151_677 (a0 : Option MV) (x y z : Int) (st : List MV) (μ : MM) (G : MG) : ev 151 677 [a0] (vI x :: vI y :: vR z :: st) μ G = if gk G z = 100 ∧ 0 ≤ y ∧ y < gl G z ∧ 10 ≤ z then ev 151 678 [a0] st (mset μ z y x) G else none := ev_if pg_151_677 rfl
theorem pg_151_678 : mm_prog 151 678 = some (0, .dup, 679, []) := by decide +kernel
theorem xe_151_678 (a0 : Option MV) (x : Int) (st : List MV) (μ : MM) (G : MG) : ev 151 678 [a0] (vR x :: st) μ G = ev 151 679 [a0] (vR x :: vR x :: st) μ G := ev_stp pg_151_678 rfl
theorem pg_151_679 : mm_prog 151 679 = some (0, .bipush 13, 681, []) := by decide +kernel
theorem xe_151_679 (a0 : Option MV) (st : List MV) (μ : MM) (G : MG) : ev 151 679 [a0] st μ G = ev 151 681 [a0] (vI (13) :: st) μ G := ev_stp pg_151_679 rfl
theorem pg_151_681 : mm_prog 151 681 = some (0, .sipush 600, 684, []) := by decide +kernel
theorem xe_151_681 (a0 : Option MV) (st : List MV) (μ : MM) (G : MG) : ev 151 681 [a0] st μ G = ev 151 684 [a0] (vI (600) :: st) μ G := ev_stp pg_151_681 rfl
theorem pg_151_684 : mm_prog 151 684 = some (0, .iastore, 685, []) := by decide +kernel
theorem xe_151_684 (a0 : Option MV) (x y z : Int) (st : List MV) (μ : MM) (G : MG) : ev 151 684 [a0] (vI x :: vI y :: vR z :: st) μ G = if gk G z = 100 ∧ 0 ≤ y ∧ y < gl G z ∧ 10 ≤ z then ev 151 685 [a0] st (mset μ z y x) G else none := ev_if pg_151_684 rfl
theorem pg_151_685 : mm_prog 151 685 = some (0, .dup, 686, []) := by decide +kernel
theorem xe_151_685 (a0 : Option MV) (x : Int) (st : List MV) (μ : MM) (G : MG) : ev 151 685 [a0] (vR x :: st) μ G = ev 151 686 [a0] (vR x :: vR x :: st) μ G := ev_stp pg_151_685 rfl
theorem pg_151_686 : mm_prog 151 686 = some (0, .bipush 14, 688, []) := by decide +kernel
theorem xe_151_686 (a0 : Option MV) (st : List MV) (μ : MM) (G : MG) : ev 151 686 [a0] st μ G = ev 151 688 [a0] (vI (14) :: st) μ G := ev_stp pg_151_686 rfl
theorem pg_151_688 : mm_prog 151 688 = some (0, .bipush 60, 690, []) := by decide +kernel
theorem xe_151_688 (a0 : Option MV) (st : List MV) (μ : MM) (G : MG) : ev 151 688 [a0] st μ G = ev 151 690 [a0] (vI (60) :: st) μ G := ev_stp pg_151_688 rfl
theorem pg_151_690 : mm_prog 151 690 = some (0, .iastore, 691, []) := by decide +kernel
theorem xe_151_690 (a0 : Option MV) (x y z : Int) (st : List MV) (μ : MM) (G : MG) : ev 151 690 [a0] (vI x :: vI y :: vR z :: st) μ G = if gk G z = 100 ∧ 0 ≤ y ∧ y < gl G z ∧ 10 ≤ z then ev 151 691 [a0] st (mset μ z y x) G else none := ev_if pg_151_690 rfl
theorem pg_151_691 : mm_prog 151 691 = some (0, .dup, 692, []) := by decide +kernel
theorem xe_151_691 (a0 : Option MV) (x : Int) (st : List MV) (μ : MM) (G : MG) : ev 151 691 [a0] (vR x :: st) μ G = ev 151 692 [a0] (vR x :: vR x :: st) μ G := ev_stp pg_151_691 rfl
theorem pg_151_692 : mm_prog 151 692 = some (0, .bipush 15, 694, []) := by decide +kernel
theorem xe_151_692 (a0 : Option MV) (st : List MV) (μ : MM) (G : MG) : ev 151 692 [a0] st μ G = ev 151 694 [a0] (vI (15) :: st) μ G := ev_stp pg_151_692 rfl
theorem pg_151_694 : mm_prog 151 694 = some (0, .bipush 36, 696, []) := by decide +kernel
theorem xe_151_694 (a0 : Option MV) (st : List MV) (μ : MM) (G : MG) : ev 151 694 [a0] st μ G = ev 151 696 [a0] (vI (36) :: st) μ G := ev_stp pg_151_694 rfl
theorem pg_151_696 : mm_prog 151 696 = some (0, .iastore, 697, []) := by decide +kernel
theorem xe_151_696 (a0 : Option MV) (x y z : Int) (st : List MV) (μ : MM) (G : MG) : ev 151 696 [a0] (vI x :: vI y :: vR z :: st) μ G = if gk G z = 100 ∧ 0 ≤ y ∧ y < gl G z ∧ 10 ≤ z then ev 151 697 [a0] st (mset μ z y x) G else none := ev_if pg_151_696 rfl
theorem pg_151_697 : mm_prog 151 697 = some (0, .dup, 698, []) := by decide +kernel
theorem xe_151_697 (a0 : Option MV) (x : Int) (st : List MV) (μ : MM) (G : MG) : ev 151 697 [a0] (vR x :: st) μ G = ev 151 698 [a0] (vR x :: vR x :: st) μ G := ev_stp pg_151_697 rfl
theorem pg_151_698 : mm_prog 151 698 = some (0, .bipush 16, 700, []) := by decide +kernel
theorem xe_151_698 (a0 : Option MV) (st : List MV) (μ : MM) (G : MG) : ev 151 698 [a0] st μ G = ev 151 700 [a0] (vI (16) :: st) μ G := ev_stp pg_151_698 rfl
theorem pg_151_700 : mm_prog 151 700 = some (0, .iconst 3, 701, []) := by decide +kernel
theorem xe_151_700 (a0 : Option MV) (st : List MV) (μ : MM) (G : MG) : ev 151 700 [a0] st μ G = ev 151 701 [a0] (vI (3) :: st) μ G := ev_stp pg_151_700 rfl
theorem pg_151_701 : mm_prog 151 701 = some (0, .iastore, 702, []) := by decide +kernel
theorem xe_151_701 (a0 : Option MV) (x y z : Int) (st : List MV) (μ : MM) (G : MG) : ev 151 701 [a0] (vI x :: vI y :: vR z :: st) μ G = if gk G z = 100 ∧ 0 ≤ y ∧ y < gl G z ∧ 10 ≤ z then ev 151 702 [a0] st (mset μ z y x) G else none := ev_if pg_151_701 rfl
theorem pg_151_702 : mm_prog 151 702 = some (0, .dup, 703, []) := by decide +kernel
theorem xe_151_702 (a0 : Option MV) (x : Int) (st : List MV) (μ : MM) (G : MG) : ev 151 702 [a0] (vR x :: st) μ G = ev 151 703 [a0] (vR x :: vR x :: st) μ G := ev_stp pg_151_702 rfl
theorem pg_151_703 : mm_prog 151 703 = some (0, .bipush 17, 705, []) := by decide +kernel
theorem xe_151_703 (a0 : Option MV) (st : List MV) (μ : MM) (G : MG) : ev 151 703 [a0] st μ G = ev 151 705 [a0] (vI (17) :: st) μ G := ev_stp pg_151_703 rfl
theorem pg_151_705 : mm_prog 151 705 = some (0, .sipush 1024, 708, []) := by decide +kernel
theorem xe_151_705 (a0 : Option MV) (st : List MV) (μ : MM) (G : MG) : ev 151 705 [a0] st μ G = ev 151 708 [a0] (vI (1024) :: st) μ G := ev_stp pg_151_705 rfl
theorem pg_151_708 : mm_prog 151 708 = some (0, .iastore, 709, []) := by decide +kernel
theorem xe_151_708 (a0 : Option MV) (x y z : Int) (st : List MV) (μ : MM) (G : MG) : ev 151 708 [a0] (vI x :: vI y :: vR z :: st) μ G = if gk G z = 100 ∧ 0 ≤ y ∧ y < gl G z ∧ 10 ≤ z then ev 151 709 [a0] st (mset μ z y x) G else none := ev_if pg_151_708 rfl
theorem pg_151_709 : mm_prog 151 709 = some (0, .dup, 710, []) := by decide +kernel
theorem xe_151_709 (a0 : Option MV) (x : Int) (st : List MV) (μ : MM) (G : MG) : ev 151 709 [a0] (vR x :: st) μ G = ev 151 710 [a0] (vR x :: vR x :: st) μ G := ev_stp pg_151_709 rfl
theorem pg_151_710 : mm_prog 151 710 = some (0, .bipush 18, 712, []) := by decide +kernel
theorem xe_151_710 (a0 : Option MV) (st : List MV) (μ : MM) (G : MG) : ev 151 710 [a0] st μ G = ev 151 712 [a0] (vI (18) :: st) μ G := ev_stp pg_151_710 rfl
theorem pg_151_712 : mm_prog 151 712 = some (0, .sipush 768, 715, []) := by decide +kernel
theorem xe_151_712 (a0 : Option MV) (st : List MV) (μ : MM) (G : MG) : ev 151 712 [a0] st μ G = ev 151 715 [a0] (vI (768) :: st) μ G := ev_stp pg_151_712 rfl
theorem pg_151_715 : mm_prog 151 715 = some (0, .iastore, 716, []) := by decide +kernel
theorem xe_151_715 (a0 : Option MV) (x y z : Int) (st : List MV) (μ : MM) (G : MG) : ev 151 715 [a0] (vI x :: vI y :: vR z :: st) μ G = if gk G z = 100 ∧ 0 ≤ y ∧ y < gl G z ∧ 10 ≤ z then ev 151 716 [a0] st (mset μ z y x) G else none := ev_if pg_151_715 rfl
theorem pg_151_716 : mm_prog 151 716 = some (0, .dup, 717, []) := by decide +kernel
theorem xe_151_716 (a0 : Option MV) (x : Int) (st : List MV) (μ : MM) (G : MG) : ev 151 716 [a0] (vR x :: st) μ G = ev 151 717 [a0] (vR x :: vR x :: st) μ G := ev_stp pg_151_716 rfl
theorem pg_151_717 : mm_prog 151 717 = some (0, .bipush 19, 719, []) := by decide +kernel
theorem xe_151_717 (a0 : Option MV) (st : List MV) (μ : MM) (G : MG) : ev 151 717 [a0] st μ G = ev 151 719 [a0] (vI (19) :: st) μ G := ev_stp pg_151_717 rfl
theorem pg_151_719 : mm_prog 151 719 = some (0, .bipush 60, 721, []) := by decide +kernel
theorem xe_151_719 (a0 : Option MV) (st : List MV) (μ : MM) (G : MG) : ev 151 719 [a0] st μ G = ev 151 721 [a0] (vI (60) :: st) μ G := ev_stp pg_151_719 rfl
theorem pg_151_721 : mm_prog 151 721 = some (0, .iastore, 722, []) := by decide +kernel
theorem xe_151_721 (a0 : Option MV) (x y z : Int) (st : List MV) (μ : MM) (G : MG) : ev 151 721 [a0] (vI x :: vI y :: vR z :: st) μ G = if gk G z = 100 ∧ 0 ≤ y ∧ y < gl G z ∧ 10 ≤ z then ev 151 722 [a0] st (mset μ z y x) G else none := ev_if pg_151_721 rfl
theorem pg_151_722 : mm_prog 151 722 = some (0, .dup, 723, []) := by decide +kernel
theorem xe_151_722 (a0 : Option MV) (x : Int) (st : List MV) (μ : MM) (G : MG) : ev 151 722 [a0] (vR x :: st) μ G = ev 151 723 [a0] (vR x :: vR x :: st) μ G := ev_stp pg_151_722 rfl
theorem pg_151_723 : mm_prog 151 723 = some (0, .bipush 20, 725, []) := by decide +kernel
theorem xe_151_723 (a0 : Option MV) (st : List MV) (μ : MM) (G : MG) : ev 151 723 [a0] st μ G = ev 151 725 [a0] (vI (20) :: st) μ G := ev_stp pg_151_723 rfl
theorem pg_151_725 : mm_prog 151 725 = some (0, .bipush 36, 727, []) := by decide +kernel
theorem xe_151_725 (a0 : Option MV) (st : List MV) (μ : MM) (G : MG) : ev 151 725 [a0] st μ G = ev 151 727 [a0] (vI (36) :: st) μ G := ev_stp pg_151_725 rfl
theorem pg_151_727 : mm_prog 151 727 = some (0, .iastore, 728, []) := by decide +kernel
theorem xe_151_727 (a0 : Option MV) (x y z : Int) (st : List MV) (μ : MM) (G : MG) : ev 151 727 [a0] (vI x :: vI y :: vR z :: st) μ G = if gk G z = 100 ∧ 0 ≤ y ∧ y < gl G z ∧ 10 ≤ z then ev 151 728 [a0] st (mset μ z y x) G else none := ev_if pg_151_727 rfl
theorem pg_151_728 : mm_prog 151 728 = some (0, .dup, 729, []) := by decide +kernel
theorem xe_151_728 (a0 : Option MV) (x : Int) (st : List MV) (μ : MM) (G : MG) : ev 151 728 [a0] (vR x :: st) μ G = ev 151 729 [a0] (vR x :: vR x :: st) μ G := ev_stp pg_151_728 rfl
theorem pg_151_729 : mm_prog 151 729 = some (0, .bipush 21, 731, []) := by decide +kernel
theorem xe_151_729 (a0 : Option MV) (st : List MV) (μ : MM) (G : MG) : ev 151 729 [a0] st μ G = ev 151 731 [a0] (vI (21) :: st) μ G := ev_stp pg_151_729 rfl
theorem pg_151_731 : mm_prog 151 731 = some (0, .iconst 1, 732, []) := by decide +kernel
theorem xe_151_731 (a0 : Option MV) (st : List MV) (μ : MM) (G : MG) : ev 151 731 [a0] st μ G = ev 151 732 [a0] (vI (1) :: st) μ G := ev_stp pg_151_731 rfl
theorem pg_151_732 : mm_prog 151 732 = some (0, .iastore, 733, []) := by decide +kernel
theorem xe_151_732 (a0 : Option MV) (x y z : Int) (st : List MV) (μ : MM) (G : MG) : ev 151 732 [a0] (vI x :: vI y :: vR z :: st) μ G = if gk G z = 100 ∧ 0 ≤ y ∧ y < gl G z ∧ 10 ≤ z then ev 151 733 [a0] st (mset μ z y x) G else none := ev_if pg_151_732 rfl
theorem pg_151_733 : mm_prog 151 733 = some (0, .dup, 734, []) := by decide +kernel
theorem xe_151_733 (a0 : Option MV) (x : Int) (st : List MV) (μ : MM) (G : MG) : ev 151 733 [a0] (vR x :: st) μ G = ev 151 734 [a0] (vR x :: vR x :: st) μ G := ev_stp pg_151_733 rfl
theorem pg_151_734 : mm_prog 151 734 = some (0, .bipush 22, 736, []) := by decide +kernel
theorem xe_151_734 (a0 : Option MV) (st : List MV) (μ : MM) (G : MG) : ev 151 734 [a0] st μ G = ev 151 736 [a0] (vI (22) :: st) μ G := ev_stp pg_151_734 rfl
theorem pg_151_736 : mm_prog 151 736 = some (0, .sipush 1024, 739, []) := by decide +kernel
theorem xe_151_736 (a0 : Option MV) (st : List MV) (μ : MM) (G : MG) : ev 151 736 [a0] st μ G = ev 151 739 [a0] (vI (1024) :: st) μ G := ev_stp pg_151_736 rfl
theorem pg_151_739 : mm_prog 151 739 = some (0, .iastore, 740, []) := by decide +kernel
theorem xe_151_739 (a0 : Option MV) (x y z : Int) (st : List MV) (μ : MM) (G : MG) : ev 151 739 [a0] (vI x :: vI y :: vR z :: st) μ G = if gk G z = 100 ∧ 0 ≤ y ∧ y < gl G z ∧ 10 ≤ z then ev 151 740 [a0] st (mset μ z y x) G else none := ev_if pg_151_739 rfl
theorem pg_151_740 : mm_prog 151 740 = some (0, .dup, 741, []) := by decide +kernel
theorem xe_151_740 (a0 : Option MV) (x : Int) (st : List MV) (μ : MM) (G : MG) : ev 151 740 [a0] (vR x :: st) μ G = ev 151 741 [a0] (vR x :: vR x :: st) μ G := ev_stp pg_151_740 rfl
theorem pg_151_741 : mm_prog 151 741 = some (0, .bipush 23, 743, []) := by decide +kernel
theorem xe_151_741 (a0 : Option MV) (st : List MV) (μ : MM) (G : MG) : ev 151 741 [a0] st μ G = ev 151 743 [a0] (vI (23) :: st) μ G := ev_stp pg_151_741 rfl
theorem pg_151_743 : mm_prog 151 743 = some (0, .sipush 768, 746, []) := by decide +kernel
theorem xe_151_743 (a0 : Option MV) (st : List MV) (μ : MM) (G : MG) : ev 151 743 [a0] st μ G = ev 151 746 [a0] (vI (768) :: st) μ G := ev_stp pg_151_743 rfl
theorem pg_151_746 : mm_prog 151 746 = some (0, .iastore, 747, []) := by decide +kernel
theorem xe_151_746 (a0 : Option MV) (x y z : Int) (st : List MV) (μ : MM) (G : MG) : ev 151 746 [a0] (vI x :: vI y :: vR z :: st) μ G = if gk G z = 100 ∧ 0 ≤ y ∧ y < gl G z ∧ 10 ≤ z then ev 151 747 [a0] st (mset μ z y x) G else none := ev_if pg_151_746 rfl
theorem pg_151_747 : mm_prog 151 747 = some (0, .dup, 748, []) := by decide +kernel
theorem xe_151_747 (a0 : Option MV) (x : Int) (st : List MV) (μ : MM) (G : MG) : ev 151 747 [a0] (vR x :: st) μ G = ev 151 748 [a0] (vR x :: vR x :: st) μ G := ev_stp pg_151_747 rfl
theorem pg_151_748 : mm_prog 151 748 = some (0, .bipush 24, 750, []) := by decide +kernel
theorem xe_151_748 (a0 : Option MV) (st : List MV) (μ : MM) (G : MG) : ev 151 748 [a0] st μ G = ev 151 750 [a0] (vI (24) :: st) μ G := ev_stp pg_151_748 rfl
theorem pg_151_750 : mm_prog 151 750 = some (0, .bipush 75, 752, []) := by decide +kernel
theorem xe_151_750 (a0 : Option MV) (st : List MV) (μ : MM) (G : MG) : ev 151 750 [a0] st μ G = ev 151 752 [a0] (vI (75) :: st) μ G := ev_stp pg_151_750 rfl
theorem pg_151_752 : mm_prog 151 752 = some (0, .iastore, 753, []) := by decide +kernel
theorem xe_151_752 (a0 : Option MV) (x y z : Int) (st : List MV) (μ : MM) (G : MG) : ev 151 752 [a0] (vI x :: vI y :: vR z :: st) μ G = if gk G z = 100 ∧ 0 ≤ y ∧ y < gl G z ∧ 10 ≤ z then ev 151 753 [a0] st (mset μ z y x) G else none := ev_if pg_151_752 rfl
theorem pg_151_753 : mm_prog 151 753 = some (0, .dup, 754, []) := by decide +kernel
theorem xe_151_753 (a0 : Option MV) (x : Int) (st : List MV) (μ : MM) (G : MG) : ev 151 753 [a0] (vR x :: st) μ G = ev 151 754 [a0] (vR x :: vR x :: st) μ G := ev_stp pg_151_753 rfl
theorem pg_151_754 : mm_prog 151 754 = some (0, .bipush 25, 756, []) := by decide +kernel
theorem xe_151_754 (a0 : Option MV) (st : List MV) (μ : MM) (G : MG) : ev 151 754 [a0] st μ G = ev 151 756 [a0] (vI (25) :: st) μ G := ev_stp pg_151_754 rfl
theorem pg_151_756 : mm_prog 151 756 = some (0, .bipush 36, 758, []) := by decide +kernel
theorem xe_151_756 (a0 : Option MV) (st : List MV) (μ : MM) (G : MG) : ev 151 756 [a0] st μ G = ev 151 758 [a0] (vI (36) :: st) μ G := ev_stp pg_151_756 rfl
theorem pg_151_758 : mm_prog 151 758 = some (0, .iastore, 759, []) := by decide +kernel
theorem xe_151_758 (a0 : Option MV) (x y z : Int) (st : List MV) (μ : MM) (G : MG) : ev 151 758 [a0] (vI x :: vI y :: vR z :: st) μ G = if gk G z = 100 ∧ 0 ≤ y ∧ y < gl G z ∧ 10 ≤ z then ev 151 759 [a0] st (mset μ z y x) G else none := ev_if pg_151_758 rfl
theorem pg_151_759 : mm_prog 151 759 = some (0, .dup, 760, []) := by decide +kernel
theorem xe_151_759 (a0 : Option MV) (x : Int) (st : List MV) (μ : MM) (G : MG) : ev 151 759 [a0] (vR x :: st) μ G = ev 151 760 [a0] (vR x :: vR x :: st) μ G := ev_stp pg_151_759 rfl
theorem pg_151_760 : mm_prog 151 760 = some (0, .bipush 26, 762, []) := by decide +kernel
theorem xe_151_760 (a0 : Option MV) (st : List MV) (μ : MM) (G : MG) : ev 151 760 [a0] st μ G = ev 151 762 [a0] (vI (26) :: st) μ G := ev_stp pg_151_760 rfl
theorem pg_151_762 : mm_prog 151 762 = some (0, .iconst 0, 763, []) := by decide +kernel
theorem xe_151_762 (a0 : Option MV) (st : List MV) (μ : MM) (G : MG) : ev 151 762 [a0] st μ G = ev 151 763 [a0] (vI (0) :: st) μ G := ev_stp pg_151_762 rfl
theorem pg_151_763 : mm_prog 151 763 = some (0, .iastore, 764, []) := by decide +kernel
theorem xe_151_763 (a0 : Option MV) (x y z : Int) (st : List MV) (μ : MM) (G : MG) : ev 151 763 [a0] (vI x :: vI y :: vR z :: st) μ G = if gk G z = 100 ∧ 0 ≤ y ∧ y < gl G z ∧ 10 ≤ z then ev 151 764 [a0] st (mset μ z y x) G else none := ev_if pg_151_763 rfl
theorem pg_151_764 : mm_prog 151 764 = some (0, .dup, 765, []) := by decide +kernel
theorem xe_151_764 (a0 : Option MV) (x : Int) (st : List MV) (μ : MM) (G : MG) : ev 151 764 [a0] (vR x :: st) μ G = ev 151 765 [a0] (vR x :: vR x :: st) μ G := ev_stp pg_151_764 rfl
theorem pg_151_765 : mm_prog 151 765 = some (0, .bipush 27, 767, []) := by decide +kernel
theorem xe_151_765 (a0 : Option MV) (st : List MV) (μ : MM) (G : MG) : ev 151 765 [a0] st μ G = ev 151 767 [a0] (vI (27) :: st) μ G := ev_stp pg_151_765 rfl
theorem pg_151_767 : mm_prog 151 767 = some (0, .sipush 1280, 770, []) := by decide +kernel
theorem xe_151_767 (a0 : Option MV) (st : List MV) (μ : MM) (G : MG) : ev 151 767 [a0] st μ G = ev 151 770 [a0] (vI (1280) :: st) μ G := ev_stp pg_151_767 rfl
theorem pg_151_770 : mm_prog 151 770 = some (0, .iastore, 771, []) := by decide +kernel
theorem xe_151_770 (a0 : Option MV) (x y z : Int) (st : List MV) (μ : MM) (G : MG) : ev 151 770 [a0] (vI x :: vI y :: vR z :: st) μ G = if gk G z = 100 ∧ 0 ≤ y ∧ y < gl G z ∧ 10 ≤ z then ev 151 771 [a0] st (mset μ z y x) G else none := ev_if pg_151_770 rfl
theorem pg_151_771 : mm_prog 151 771 = some (0, .dup, 772, []) := by decide +kernel
theorem xe_151_771 (a0 : Option MV) (x : Int) (st : List MV) (μ : MM) (G : MG) : ev 151 771 [a0] (vR x :: st) μ G = ev 151 772 [a0] (vR x :: vR x :: st) μ G := ev_stp pg_151_771 rfl
theorem pg_151_772 : mm_prog 151 772 = some (0, .bipush 28, 774, []) := by decide +kernel
theorem xe_151_772 (a0 : Option MV) (st : List MV) (μ : MM) (G : MG) : ev 151 772 [a0] st μ G = ev 151 774 [a0] (vI (28) :: st) μ G := ev_stp pg_151_772 rfl
theorem pg_151_774 : mm_prog 151 774 = some (0, .sipush 1024, 777, []) := by decide +kernel
theorem xe_151_774 (a0 : Option MV) (st : List MV) (μ : MM) (G : MG) : ev 151 774 [a0] st μ G = ev 151 777 [a0] (vI (1024) :: st) μ G := ev_stp pg_151_774 rfl
theorem pg_151_777 : mm_prog 151 777 = some (0, .iastore, 778, []) := by decide +kernel
theorem xe_151_777 (a0 : Option MV) (x y z : Int) (st : List MV) (μ : MM) (G : MG) : ev 151 777 [a0] (vI x :: vI y :: vR z :: st) μ G = if gk G z = 100 ∧ 0 ≤ y ∧ y < gl G z ∧ 10 ≤ z then ev 151 778 [a0] st (mset μ z y x) G else none := ev_if pg_151_777 rfl
theorem pg_151_778 : mm_prog 151 778 = some (0, .dup, 779, []) := by decide +kernel
theorem xe_151_778 (a0 : Option MV) (x : Int) (st : List MV) (μ : MM) (G : MG) : ev 151 778 [a0] (vR x :: st) μ G = ev 151 779 [a0] (vR x :: vR x :: st) μ G := ev_stp pg_151_778 rfl
theorem pg_151_779 : mm_prog 151 779 = some (0, .bipush 29, 781, []) := by decide +kernel
theorem xe_151_779 (a0 : Option MV) (st : List MV) (μ : MM) (G : MG) : ev 151 779 [a0] st μ G = ev 151 781 [a0] (vI (29) :: st) μ G := ev_stp pg_151_779 rfl
theorem pg_151_781 : mm_prog 151 781 = some (0, .bipush 75, 783, []) := by decide +kernel
theorem xe_151_781 (a0 : Option MV) (st : List MV) (μ : MM) (G : MG) : ev 151 781 [a0] st μ G = ev 151 783 [a0] (vI (75) :: st) μ G := ev_stp pg_151_781 rfl
theorem pg_151_783 : mm_prog 151 783 = some (0, .iastore, 784, []) := by decide +kernel
theorem xe_151_783 (a0 : Option MV) (x y z : Int) (st : List MV) (μ : MM) (G : MG) : ev 151 783 [a0] (vI x :: vI y :: vR z :: st) μ G = if gk G z = 100 ∧ 0 ≤ y ∧ y < gl G z ∧ 10 ≤ z then ev 151 784 [a0] st (mset μ z y x) G else none := ev_if pg_151_783 rfl
theorem pg_151_784 : mm_prog 151 784 = some (0, .putfield 54, 787, [11, 25, 2]) := by decide +kernel
theorem xe_151_784 (a0 : Option MV) (x y : Int) (st : List MV) (μ : MM) (G : MG) : ev 151 784 [a0] (vR x :: vR y :: st) μ G = if gk G y = 11 then ev 151 787 [a0] st (mset μ y 25 x) G else none := ev_put2 pg_151_784
theorem pg_151_787 : mm_prog 151 787 = some (0, .aload_n 0, 788, []) := by decide +kernel
theorem xe_151_787 (x : Int) (st : List MV) (μ : MM) (G : MG) : ev 151 787 [some (vR x)] st μ G = ev 151 788 [some (vR x)] (vR x :: st) μ G := ev_stp pg_151_787 rfl
theorem pg_151_788 : mm_prog 151 788 = some (0, .sipush 128, 791, []) := by decide +kernel
theorem xe_151_788 (a0 : Option MV) (st : List MV) (μ : MM) (G : MG) : ev 151 788 [a0] st μ G = ev 151 791 [a0] (vI (128) :: st) μ G := ev_stp pg_151_788 rfl
theorem pg_151_791 : mm_prog 151 791 = some (0, .newarray .int, 793, [100]) := by decide +kernel
theorem xe_151_791 (a0 : Option MV) (x : Int) (st : List MV) (μ : MM) (G : MG) : ev 151 791 [a0] (vI x :: st) μ G = if 0 ≤ x ∧ x ≤ 100000 then ev 151 793 [a0] (vR G.2.1 :: st) (mzero μ G.2.1) (gnew G 100 x x) else none := ev_if pg_151_791 rfl
theorem pg_151_793 : mm_prog 151 793 = some (0, .putfield 57, 796, [11, 26, 2]) := by decide +kernel
theorem xe_151_793 (a0 : Option MV) (x y : Int) (st : List MV) (μ : MM) (G : MG) : ev 151 793 [a0] (vR x :: vR y :: st) μ G = if gk G y = 11 then ev 151 796 [a0] st (mset μ y 26 x) G else none := ev_put2 pg_151_793
theorem pg_151_796 : mm_prog 151 796 = some (0, .aload_n 0, 797, []) := by decide +kernel
theorem xe_151_796 (x : Int) (st : List MV) (μ : MM) (G : MG) : ev 151 796 [some (vR x)] st μ G = ev 151 797 [some (vR x)] (vR x :: st) μ G := ev_stp pg_151_796 rfl
theorem pg_151_797 : mm_prog 151 797 = some (0, .bipush 30, 799, []) := by decide +kernel
theorem xe_151_797 (a0 : Option MV) (st : List MV) (μ : MM) (G : MG) : ev 151 797 [a0] st μ G = ev 151 799 [a0] (vI (30) :: st) μ G := ev_stp pg_151_797 rfl
theorem pg_151_799 : mm_prog 151 799 = some (0, .newarray .int, 801, [100]) := by decide +kernel
theorem xe_151_799 (a0 : Option MV) (x : Int) (st : List MV) (μ : MM) (G : MG) : ev 151 799 [a0] (vI x :: st) μ G = if 0 ≤ x ∧ x ≤ 100000 then ev 151 801 [a0] (vR G.2.1 :: st) (mzero μ G.2.1) (gnew G 100 x x) else none := ev_if pg_151_799 rfl
theorem pg_151_801 : mm_prog 151 801 = some (0, .putfield 60, 804, [11, 27, 2]) := by decide +kernel
theorem xe_151_801 (a0 : Option MV) (x y : Int) (st : List MV) (μ : MM) (G : MG) : ev 151 801 [a0] (vR x :: vR y :: st) μ G = if gk G y = 11 then ev 151 804 [a0] st (mset μ y 27 x) G else none := ev_put2 pg_151_801
theorem pg_151_804 : mm_prog 151 804 = some (0, .aload_n 0, 805, []) := by decide +kernel
theorem xe_151_804 (x : Int) (st : List MV) (μ : MM) (G : MG) : ev 151 804 [some (vR x)] st μ G = ev 151 805 [some (vR x)] (vR x :: st) μ G := ev_stp pg_151_804 rfl
theorem pg_151_805 : mm_prog 151 805 = some (0, .bipush 9, 807, []) := by decide +kernel
theorem xe_151_805 (a0 : Option MV) (st : List MV) (μ : MM) (G : MG) : ev 151 805 [a0] st μ G = ev 151 807 [a0] (vI (9) :: st) μ G := ev_stp pg_151_805 rfl
theorem pg_151_807 : mm_prog 151 807 = some (0, .newarray .int, 809, [100]) := by decide +kernel
theorem xe_151_807 (a0 : Option MV) (x : Int) (st : List MV) (μ : MM) (G : MG) : ev 151 807 [a0] (vI x :: st) μ G = if 0 ≤ x ∧ x ≤ 100000 then ev 151 809 [a0] (vR G.2.1 :: st) (mzero μ G.2.1) (gnew G 100 x x) else none := ev_if pg_151_807 rfl
theorem pg_151_809 : mm_prog 151 809 = some (0, .putfield 63, 812, [11, 29, 2]) := by decide +kernel
theorem xe_151_809 (a0 : Option MV) (x y : Int) (st : List MV) (μ : MM) (G : MG) : ev 151 809 [a0] (vR x :: vR y :: st) μ G = if gk G y = 11 then ev 151 812 [a0] st (mset μ y 29 x) G else none := ev_put2 pg_151_809
theorem pg_151_812 : mm_prog 151 812 = some (0, .aload_n 0, 813, []) := by decide +kernel
theorem xe_151_812 (x : Int) (st : List MV) (μ : MM) (G : MG) : ev 151 812 [some (vR x)] st μ G = ev 151 813 [some (vR x)] (vR x :: st) μ G := ev_stp pg_151_812 rfl
theorem pg_151_813 : mm_prog 151 813 = some (0, .bipush 8, 815, []) := by decide +kernel
theorem xe_151_813 (a0 : Option MV) (st : List MV) (μ : MM) (G : MG) : ev 151 813 [a0] st μ G = ev 151 815 [a0] (vI (8) :: st) μ G := ev_stp pg_151_813 rfl
theorem pg_151_815 : mm_prog 151 815 = some (0, .putfield 66, 818, [11, 30, 0]) := by decide +kernel
theorem xe_151_815 (a0 : Option MV) (x y : Int) (st : List MV) (μ : MM) (G : MG) : ev 151 815 [a0] (vI x :: vR y :: st) μ G = if gk G y = 11 then ev 151 818 [a0] st (mset μ y 30 x) G else none := ev_put0 pg_151_815
theorem pg_151_818 : mm_prog 151 818 = some (0, .aload_n 0, 819, []) := by decide +kernel
theorem xe_151_818 (x : Int) (st : List MV) (μ : MM) (G : MG) : ev 151 818 [some (vR x)] st μ G = ev 151 819 [some (vR x)] (vR x :: st) μ G := ev_stp pg_151_818 rfl
theorem pg_151_819 : mm_prog 151 819 = some (0, .iconst 4, 820, []) := by decide +kernel
theorem xe_151_819 (a0 : Option MV) (st : List MV) (μ : MM) (G : MG) : ev 151 819 [a0] st μ G = ev 151 820 [a0] (vI (4) :: st) μ G := ev_stp pg_151_819 rfl
theorem pg_151_820 : mm_prog 151 820 = some (0, .putfield 69, 823, [11, 31, 0]) := by decide +kernel
theorem xe_151_820 (a0 : Option MV) (x y : Int) (st : List MV) (μ : MM) (G : MG) : ev 151 820 [a0] (vI x :: vR y :: st) μ G = if gk G y = 11 then ev 151 823 [a0] st (mset μ y 31 x) G else none := ev_put0 pg_151_820
theorem pg_151_823 : mm_prog 151 823 = some (0, .aload_n 0, 824, []) := by decide +kernel
theorem xe_151_823 (x : Int) (st : List MV) (μ : MM) (G : MG) : ev 151 823 [some (vR x)] st μ G = ev 151 824 [some (vR x)] (vR x :: st) μ G := ev_stp pg_151_823 rfl
theorem pg_151_824 : mm_prog 151 824 = some (0, .iconst 2, 825, []) := by decide +kernel
theorem xe_151_824 (a0 : Option MV) (st : List MV) (μ : MM) (G : MG) : ev 151 824 [a0] st μ G = ev 151 825 [a0] (vI (2) :: st) μ G := ev_stp pg_151_824 rfl
theorem pg_151_825 : mm_prog 151 825 = some (0, .putfield 72, 828, [11, 32, 0]) := by decide +kernel
theorem xe_151_825 (a0 : Option MV) (x y : Int) (st : List MV) (μ : MM) (G : MG) : ev 151 825 [a0] (vI x :: vR y :: st) μ G = if gk G y = 11 then ev 151 828 [a0] st (mset μ y 32 x) G else none := ev_put0 pg_151_825
theorem pg_151_828 : mm_prog 151 828 = some (0, .aload_n 0, 829, []) := by decide +kernel
theorem xe_151_828 (x : Int) (st : List MV) (μ : MM) (G : MG) : ev 151 828 [some (vR x)] st μ G = ev 151 829 [some (vR x)] (vR x :: st) μ G := ev_stp pg_151_828 rfl
theorem pg_151_829 : mm_prog 151 829 = some (0, .bipush 88, 831, []) := by decide +kernel
theorem xe_151_829 (a0 : Option MV) (st : List MV) (μ : MM) (G : MG) : ev 151 829 [a0] st μ G = ev 151 831 [a0] (vI (88) :: st) μ G := ev_stp pg_151_829 rfl
theorem pg_151_831 : mm_prog 151 831 = some (0, .newarray .int, 833, [100]) := by decide +kernel
theorem xe_151_831 (a0 : Option MV) (x : Int) (st : List MV) (μ : MM) (G : MG) : ev 151 831 [a0] (vI x :: st) μ G = if 0 ≤ x ∧ x ≤ 100000 then ev 151 833 [a0] (vR G.2.1 :: st) (mzero μ G.2.1) (gnew G 100 x x) else none := ev_if pg_151_831 rfl
theorem pg_151_833 : mm_prog 151 833 = some (0, .putfield 75, 836, [11, 35, 2]) := by decide +kernel
theorem xe_151_833 (a0 : Option MV) (x y : Int) (st : List MV) (μ : MM) (G : MG) : ev 151 833 [a0] (vR x :: vR y :: st) μ G = if gk G y = 11 then ev 151 836 [a0] st (mset μ y 35 x) G else none := ev_put2 pg_151_833
theorem pg_151_836 : mm_prog 151 836 = some (0, .aload_n 0, 837, []) := by decide +kernel
theorem xe_151_836 (x : Int) (st : List MV) (μ : MM) (G : MG) : ev 151 836 [some (vR x)] st μ G = ev 151 837 [some (vR x)] (vR x :: st) μ G := ev_stp pg_151_836 rfl
theorem pg_151_837 : mm_prog 151 837 = some (0, .bipush 88, 839, []) := by decide +kernel
theorem xe_151_837 (a0 : Option MV) (st : List MV) (μ : MM) (G : MG) : ev 151 837 [a0] st μ G = ev 151 839 [a0] (vI (88) :: st) μ G := ev_stp pg_151_837 rfl
theorem pg_151_839 : mm_prog 151 839 = some (0, .newarray .int, 841, [100]) := by decide +kernel
theorem xe_151_839 (a0 : Option MV) (x : Int) (st : List MV) (μ : MM) (G : MG) : ev 151 839 [a0] (vI x :: st) μ G = if 0 ≤ x ∧ x ≤ 100000 then ev 151 841 [a0] (vR G.2.1 :: st) (mzero μ G.2.1) (gnew G 100 x x) else none := ev_if pg_151_839 rfl
theorem pg_151_841 : mm_prog 151 841 = some (0, .putfield 78, 844, [11, 36, 2]) := by decide +kernel
theorem xe_151_841 (a0 : Option MV) (x y : Int) (st : List MV) (μ : MM) (G : MG) : ev 151 841 [a0] (vR x :: vR y :: st) μ G = if gk G y = 11 then ev 151 844 [a0] st (mset μ y 36 x) G else none := ev_put2 pg_151_841
theorem pg_151_844 : mm_prog 151 844 = some (0, .aload_n 0, 845, []) := by decide +kernel
theorem xe_151_844 (x : Int) (st : List MV) (μ : MM) (G : MG) : ev 151 844 [some (vR x)] st μ G = ev 151 845 [some (vR x)] (vR x :: st) μ G := ev_stp pg_151_844 rfl
theorem pg_151_845 : mm_prog 151 845 = some (0, .iconst 4, 846, []) := by decide +kernel
theorem xe_151_845 (a0 : Option MV) (st : List MV) (μ : MM) (G : MG) : ev 151 845 [a0] st μ G = ev 151 846 [a0] (vI (4) :: st) μ G := ev_stp pg_151_845 rfl
theorem pg_151_846 : mm_prog 151 846 = some (0, .newarray .int, 848, [100]) := by decide +kernel
theorem xe_151_846 (a0 : Option MV) (x : Int) (st : List MV) (μ : MM) (G : MG) : ev 151 846 [a0] (vI x :: st) μ G = if 0 ≤ x ∧ x ≤ 100000 then ev 151 848 [a0] (vR G.2.1 :: st) (mzero μ G.2.1) (gnew G 100 x x) else none := ev_if pg_151_846 rfl
theorem pg_151_848 : mm_prog 151 848 = some (0, .putfield 81, 851, [11, 37, 2]) := by decide +kernel
theorem xe_151_848 (a0 : Option MV) (x y : Int) (st : List MV) (μ : MM) (G : MG) : ev 151 848 [a0] (vR x :: vR y :: st) μ G = if gk G y = 11 then ev 151 851 [a0] st (mset μ y 37 x) G else none := ev_put2 pg_151_848
theorem pg_151_851 : mm_prog 151 851 = some (0, .aload_n 0, 852, []) := by decide +kernel
theorem xe_151_851 (x : Int) (st : List MV) (μ : MM) (G : MG) : ev 151 851 [some (vR x)] st μ G = ev 151 852 [some (vR x)] (vR x :: st) μ G := ev_stp pg_151_851 rfl
theorem pg_151_852 : mm_prog 151 852 = some (0, .iconst 4, 853, []) := by decide +kernel
theorem xe_151_852 (a0 : Option MV) (st : List MV) (μ : MM) (G : MG) : ev 151 852 [a0] st μ G = ev 151 853 [a0] (vI (4) :: st) μ G := ev_stp pg_151_852 rfl
theorem pg_151_853 : mm_prog 151 853 = some (0, .newarray .int, 855, [100]) := by decide +kernel
theorem xe_151_853 (a0 : Option MV) (x : Int) (st : List MV) (μ : MM) (G : MG) : ev 151 853 [a0] (vI x :: st) μ G = if 0 ≤ x ∧ x ≤ 100000 then ev 151 855 [a0] (vR G.2.1 :: st) (mzero μ G.2.1) (gnew G 100 x x) else none := ev_if pg_151_853 rfl
theorem pg_151_855 : mm_prog 151 855 = some (0, .putfield 84, 858, [11, 38, 2]) := by decide +kernel
theorem xe_151_855 (a0 : Option MV) (x y : Int) (st : List MV) (μ : MM) (G : MG) : ev 151 855 [a0] (vR x :: vR y :: st) μ G = if gk G y = 11 then ev 151 858 [a0] st (mset μ y 38 x) G else none := ev_put2 pg_151_855
theorem pg_151_858 : mm_prog 151 858 = some (0, .aload_n 0, 859, []) := by decide +kernel
theorem xe_151_858 (x : Int) (st : List MV) (μ : MM) (G : MG) : ev 151 858 [some (vR x)] st μ G = ev 151 859 [some (vR x)] (vR x :: st) μ G := ev_stp pg_151_858 rfl
theorem pg_151_859 : mm_prog 151 859 = some (0, .iconst 4, 860, []) := by decide +kernel
theorem xe_151_859 (a0 : Option MV) (st : List MV) (μ : MM) (G : MG) : ev 151 859 [a0] st μ G = ev 151 860 [a0] (vI (4) :: st) μ G := ev_stp pg_151_859 rfl
theorem pg_151_860 : mm_prog 151 860 = some (0, .newarray .int, 862, [100]) := by decide +kernel
theorem xe_151_860 (a0 : Option MV) (x : Int) (st : List MV) (μ : MM) (G : MG) : ev 151 860 [a0] (vI x :: st) μ G = if 0 ≤ x ∧ x ≤ 100000 then ev 151 862 [a0] (vR G.2.1 :: st) (mzero μ G.2.1) (gnew G 100 x x) else none := ev_if pg_151_860 rfl
theorem pg_151_862 : mm_prog 151 862 = some (0, .putfield 87, 865, [11, 39, 2]) := by decide +kernel
theorem xe_151_862 (a0 : Option MV) (x y : Int) (st : List MV) (μ : MM) (G : MG) : ev 151 862 [a0] (vR x :: vR y :: st) μ G = if gk G y = 11 then ev 151 865 [a0] st (mset μ y 39 x) G else none := ev_put2 pg_151_862
theorem pg_151_865 : mm_prog 151 865 = some (0, .aload_n 0, 866, []) := by decide +kernel
theorem xe_151_865 (x : Int) (st : List MV) (μ : MM) (G : MG) : ev 151 865 [some (vR x)] st μ G = ev 151 866 [some (vR x)] (vR x :: st) μ G := ev_stp pg_151_865 rfl
theorem pg_151_866 : mm_prog 151 866 = some (0, .iconst 4, 867, []) := by decide +kernel
theorem xe_151_866 (a0 : Option MV) (st : List MV) (μ : MM) (G : MG) : ev 151 866 [a0] st μ G = ev 151 867 [a0] (vI (4) :: st) μ G := ev_stp pg_151_866 rfl
theorem pg_151_867 : mm_prog 151 867 = some (0, .newarray .int, 869, [100]) := by decide +kernel
theorem xe_151_867 (a0 : Option MV) (x : Int) (st : List MV) (μ : MM) (G : MG) : ev 151 867 [a0] (vI x :: st) μ G = if 0 ≤ x ∧ x ≤ 100000 then ev 151 869 [a0] (vR G.2.1 :: st) (mzero μ G.2.1) (gnew G 100 x x) else none := ev_if pg_151_867 rfl
theorem pg_151_869 : mm_prog 151 869 = some (0, .putfield 90, 872, [11, 40, 2]) := by decide +kernel
theorem xe_151_869 (a0 : Option MV) (x y : Int) (st : List MV) (μ : MM) (G : MG) : ev 151 869 [a0] (vR x :: vR y :: st) μ G = if gk G y = 11 then ev 151 872 [a0] st (mset μ y 40 x) G else none := ev_put2 pg_151_869
theorem pg_151_872 : mm_prog 151 872 = some (0, .aload_n 0, 873, []) := by decide +kernel
theorem xe_151_872 (x : Int) (st : List MV) (μ : MM) (G : MG) : ev 151 872 [some (vR x)] st μ G = ev 151 873 [some (vR x)] (vR x :: st) μ G := ev_stp pg_151_872 rfl
theorem pg_151_873 : mm_prog 151 873 = some (0, .sipush 1750, 876, []) := by decide +kernel
theorem xe_151_873 (a0 : Option MV) (st : List MV) (μ : MM) (G : MG) : ev 151 873 [a0] st μ G = ev 151 876 [a0] (vI (1750) :: st) μ G := ev_stp pg_151_873 rfl
theorem pg_151_876 : mm_prog 151 876 = some (0, .newarray .int, 878, [100]) := by decide +kernel
theorem xe_151_876 (a0 : Option MV) (x : Int) (st : List MV) (μ : MM) (G : MG) : ev 151 876 [a0] (vI x :: st) μ G = if 0 ≤ x ∧ x ≤ 100000 then ev 151 878 [a0] (vR G.2.1 :: st) (mzero μ G.2.1) (gnew G 100 x x) else none := ev_if pg_151_876 rfl
theorem pg_151_878 : mm_prog 151 878 = some (0, .putfield 93, 881, [11, 41, 2]) := by decide +kernel
theorem xe_151_878 (a0 : Option MV) (x y : Int) (st : List MV) (μ : MM) (G : MG) : ev 151 878 [a0] (vR x :: vR y :: st) μ G = if gk G y = 11 then ev 151 881 [a0] st (mset μ y 41 x) G else none := ev_put2 pg_151_878
theorem pg_151_881 : mm_prog 151 881 = some (2, .return_, 882, []) := by decide +kernel
theorem xe_151_881 (a0 : Option MV) (μ : MM) (G : MG) : ev 151 881 [a0] [] μ G = some (none, μ, G) := ev_ret pg_151_881 rfl
-- X11_feed
theorem pg_152_0 : mm_prog 152 0 = some (0, .aload_n 0, 1, []) := by decide +kernel
theorem xe_152_0 (a1 a2 a3 a4 a5 a6 a7 : Option MV) (x : Int) (st : List MV) (μ : MM) (G : MG) : ev 152 0 [some (vR x), a1, a2, a3, a4, a5, a6, a7] st μ G = ev 152 1 [some (vR x), a1, a2, a3, a4, a5, a6, a7] (vR x :: st) μ G := ev_stp pg_152_0 rfl
theorem pg_152_1 : mm_prog 152 1 = some (0, .iconst 0, 2, []) := by decide +kernel
theorem xe_152_1 (a0 a1 a2 a3 a4 a5 a6 a7 : Option MV) (st : List MV) (μ : MM) (G : MG) : ev 152 1 [a0, a1, a2, a3, a4, a5, a6, a7] st μ G = ev 152 2 [a0, a1, a2, a3, a4, a5, a6, a7] (vI (0) :: st) μ G := ev_stp pg_152_1 rfl
theorem pg_152_2 : mm_prog 152 2 = some (0, .putfield 1, 5, [11, 0, 0]) := by decide +kernel
theorem xe_152_2 (a0 a1 a2 a3 a4 a5 a6 a7 : Option MV) (x y : Int) (st : List MV) (μ : MM) (G : MG) : ev 152 2 [a0, a1, a2, a3, a4, a5, a6, a7] (vI x :: vR y :: st) μ G = if gk G y = 11 then ev 152 5 [a0, a1, a2, a3, a4, a5, a6, a7] st (mset μ y 0 x) G else none := ev_put0 pg_152_2
theorem pg_152_5 : mm_prog 152 5 = some (0, .aload_n 0, 6, []) := by decide +kernel
theorem xe_152_5 (a1 a2 a3 a4 a5 a6 a7 : Option MV) (x : Int) (st : List MV) (μ : MM) (G : MG) : ev 152 5 [some (vR x), a1, a2, a3, a4, a5, a6, a7] st μ G = ev 152 6 [some (vR x), a1, a2, a3, a4, a5, a6, a7] (vR x :: st) μ G := ev_stp pg_152_5 rfl
theorem pg_152_6 : mm_prog 152 6 = some (0, .getfield 96, 9, [11, 4, 0]) := by decide +kernel
theorem xe_152_6 (a0 a1 a2 a3 a4 a5 a6 a7 : Option MV) (x : Int) (st : List MV) (μ : MM) (G : MG) : ev 152 6 [a0, a1, a2, a3, a4, a5, a6, a7] (vR x :: st) μ G = if gk G x = 11 then ev 152 9 [a0, a1, a2, a3, a4, a5, a6, a7] (vI (μ x 4) :: st) μ G else none := ev_if pg_152_6 rfl
theorem pg_152_9 : mm_prog 152 9 = some (0, .bipush 20, 11, []) := by decide +kernel
theorem xe_152_9 (a0 a1 a2 a3 a4 a5 a6 a7 : Option MV) (st : List MV) (μ : MM) (G : MG) : ev 152 9 [a0, a1, a2, a3, a4, a5, a6, a7] st μ G = ev 152 11 [a0, a1, a2, a3, a4, a5, a6, a7] (vI (20) :: st) μ G := ev_stp pg_152_9 rfl
theorem pg_152_11 : mm_prog 152 11 = some (0, .iadd, 12, []) := by decide +kernel
theorem xe_152_11 (a0 a1 a2 a3 a4 a5 a6 a7 : Option MV) (x y : Int) (st : List MV) (μ : MM) (G : MG) : ev 152 11 [a0, a1, a2, a3, a4, a5, a6, a7] (vI y :: vI x :: st) μ G = ev 152 12 [a0, a1, a2, a3, a4, a5, a6, a7] (vI (w32 (x + y)) :: st) μ G := ev_stp pg_152_11 rfl
theorem pg_152_12 : mm_prog 152 12 = some (0, .sipush 520, 15, []) := by decide +kernel
theorem xe_152_12 (a0 a1 a2 a3 a4 a5 a6 a7 : Option MV) (st : List MV) (μ : MM) (G : MG) : ev 152 12 [a0, a1, a2, a3, a4, a5, a6, a7] st μ G = ev 152 15 [a0, a1, a2, a3, a4, a5, a6, a7] (vI (520) :: st) μ G := ev_stp pg_152_12 rfl
theorem pg_152_15 : mm_prog 152 15 = some (0, .if_icmp .le 6, 18, []) := by decide +kernel
theorem xe_152_15 (a0 a1 a2 a3 a4 a5 a6 a7 : Option MV) (x y : Int) (st : List MV) (μ : MM) (G : MG) : ev 152 15 [a0, a1, a2, a3, a4, a5, a6, a7] (vI y :: vI x :: st) μ G = if x ≤ y then ev 152 21 [a0, a1, a2, a3, a4, a5, a6, a7] st μ G else ev 152 18 [a0, a1, a2, a3, a4, a5, a6, a7] st μ G := ev_br (mm_cnd_le x y) pg_152_15 rfl
theorem pg_152_18 : mm_prog 152 18 = some (0, .bipush (-4), 20, []) := by decide +kernel
theorem xe_152_18 (a0 a1 a2 a3 a4 a5 a6 a7 : Option MV) (st : List MV) (μ : MM) (G : MG) : ev 152 18 [a0, a1, a2, a3, a4, a5, a6, a7] st μ G = ev 152 20 [a0, a1, a2, a3, a4, a5, a6, a7] (vI (-4) :: st) μ G := ev_stp pg_152_18 rfl
theorem pg_152_20 : mm_prog 152 20 = some (2, .ireturn, 21, [0]) := by decide +kernel
theorem xe_152_20 (a0 a1 a2 a3 a4 a5 a6 a7 : Option MV) (x : Int) (μ : MM) (G : MG) : ev 152 20 [a0, a1, a2, a3, a4, a5, a6, a7] [vI x] μ G = some (some (vI x), μ, G) := ev_ret pg_152_20 rfl
theorem pg_152_21 : mm_prog 152 21 = some (0, .iconst 0, 22, []) := by decide +kernel
theorem xe_152_21 (a0 a1 a2 a3 a4 a5 a6 a7 : Option MV) (st : List MV) (μ : MM) (G : MG) : ev 152 21 [a0, a1, a2, a3, a4, a5, a6, a7] st μ G = ev 152 22 [a0, a1, a2, a3, a4, a5, a6, a7] (vI (0) :: st) μ G := ev_stp pg_152_21 rfl
theorem pg_152_22 : mm_prog 152 22 = some (0, .istore 6, 24, []) := by decide +kernel
theorem xe_152_22 (a0 a1 a2 a3 a4 a5 a6 a7 : Option MV) (x : Int) (st : List MV) (μ : MM) (G : MG) (h : mm_nL a5 = true) : ev 152 22 [a0, a1, a2, a3, a4, a5, a6, a7] (vI x :: st) μ G = ev 152 24 [a0, a1, a2, a3, a4, a5, some (vI x), a7] st μ G := ev_st pg_152_22 rfl (mm_nl_of h) (Nat.le_of_ble_eq_true rfl)
theorem pg_152_24 : mm_prog 152 24 = some (0, .iload 6, 26, []) := by decide +kernel
theorem xe_152_24 (a0 a1 a2 a3 a4 a5 a7 : Option MV) (x : Int) (st : List MV) (μ : MM) (G : MG) : ev 152 24 [a0, a1, a2, a3, a4, a5, some (vI x), a7] st μ G = ev 152 26 [a0, a1, a2, a3, a4, a5, some (vI x), a7] (vI x :: st) μ G := ev_stp pg_152_24 rfl
theorem pg_152_26 : mm_prog 152 26 = some (0, .bipush 20, 28, []) := by decide +kernel
theorem xe_152_26 (a0 a1 a2 a3 a4 a5 a6 a7 : Option MV) (st : List MV) (μ : MM) (G : MG) : ev 152 26 [a0, a1, a2, a3, a4, a5, a6, a7] st μ G = ev 152 28 [a0, a1, a2, a3, a4, a5, a6, a7] (vI (20) :: st) μ G := ev_stp pg_152_26 rfl
theorem pg_152_28 : mm_prog 152 28 = some (0, .if_icmp .ge 93, 31, []) := by decide +kernel
theorem xe_152_28 (a0 a1 a2 a3 a4 a5 a6 a7 : Option MV) (x y : Int) (st : List MV) (μ : MM) (G : MG) : ev 152 28 [a0, a1, a2, a3, a4, a5, a6, a7] (vI y :: vI x :: st) μ G = if y ≤ x then ev 152 121 [a0, a1, a2, a3, a4, a5, a6, a7] st μ G else ev 152 31 [a0, a1, a2, a3, a4, a5, a6, a7] st μ G := ev_br (mm_cnd_ge x y) pg_152_28 rfl
theorem pg_152_31 : mm_prog 152 31 = some (0, .iload 6, 33, []) := by decide +kernel
theorem xe_152_31 (a0 a1 a2 a3 a4 a5 a7 : Option MV) (x : Int) (st : List MV) (μ : MM) (G : MG) : ev 152 31 [a0, a1, a2, a3, a4, a5, some (vI x), a7] st μ G = ev 152 33 [a0, a1, a2, a3, a4, a5, some (vI x), a7] (vI x :: st) μ G := ev_stp pg_152_31 rfl
theorem pg_152_33 : mm_prog 152 33 = some (0, .iconst 4, 34, []) := by decide +kernel
theorem xe_152_33 (a0 a1 a2 a3 a4 a5 a6 a7 : Option MV) (st : List MV) (μ : MM) (G : MG) : ev 152 33 [a0, a1, a2, a3, a4, a5, a6, a7] st μ G = ev 152 34 [a0, a1, a2, a3, a4, a5, a6, a7] (vI (4) :: st) μ G := ev_stp pg_152_33 rfl
theorem pg_152_34 : mm_prog 152 34 = some (0, .if_icmp .ge 7, 37, []) := by decide +kernel
theorem xe_152_34 (a0 a1 a2 a3 a4 a5 a6 a7 : Option MV) (x y : Int) (st : List MV) (μ : MM) (G : MG) : ev 152 34 [a0, a1, a2, a3, a4, a5, a6, a7] (vI y :: vI x :: st) μ G = if y ≤ x then ev 152 41 [a0, a1, a2, a3, a4, a5, a6, a7] st μ G else ev 152 37 [a0, a1, a2, a3, a4, a5, a6, a7] st μ G := ev_br (mm_cnd_ge x y) pg_152_34 rfl
theorem pg_152_37 : mm_prog 152 37 = some (0, .iload_n 1, 38, []) := by decide +kernel
theorem xe_152_37 (a0 a2 a3 a4 a5 a6 a7 : Option MV) (x : Int) (st : List MV) (μ : MM) (G : MG) : ev 152 37 [a0, some (vI x), a2, a3, a4, a5, a6, a7] st μ G = ev 152 38 [a0, some (vI x), a2, a3, a4, a5, a6, a7] (vI x :: st) μ G := ev_stp pg_152_37 rfl
theorem pg_152_38 : mm_prog 152 38 = some (0, .goto 39, 41, []) := by decide +kernel
theorem xe_152_38 (a0 a1 a2 a3 a4 a5 a6 a7 : Option MV) (st : List MV) (μ : MM) (G : MG) : ev 152 38 [a0, a1, a2, a3, a4, a5, a6, a7] st μ G = ev 152 77 [a0, a1, a2, a3, a4, a5, a6, a7] st μ G := ev_stp pg_152_38 rfl
theorem pg_152_41 : mm_prog 152 41 = some (0, .iload 6, 43, []) := by decide +kernel
theorem xe_152_41 (a0 a1 a2 a3 a4 a5 a7 : Option MV) (x : Int) (st : List MV) (μ : MM) (G : MG) : ev 152 41 [a0, a1, a2, a3, a4, a5, some (vI x), a7] st μ G = ev 152 43 [a0, a1, a2, a3, a4, a5, some (vI x), a7] (vI x :: st) μ G := ev_stp pg_152_41 rfl
theorem pg_152_43 : mm_prog 152 43 = some (0, .bipush 8, 45, []) := by decide +kernel
theorem xe_152_43 (a0 a1 a2 a3 a4 a5 a6 a7 : Option MV) (st : List MV) (μ : MM) (G : MG) : ev 152 43 [a0, a1, a2, a3, a4, a5, a6, a7] st μ G = ev 152 45 [a0, a1, a2, a3, a4, a5, a6, a7] (vI (8) :: st) μ G := ev_stp pg_152_43 rfl
theorem pg_152_45 : mm_prog 152 45 = some (0, .if_icmp .ge 7, 48, []) := by decide +kernel
theorem xe_152_45 (a0 a1 a2 a3 a4 a5 a6 a7 : Option MV) (x y : Int) (st : List MV) (μ : MM) (G : MG) : ev 152 45 [a0, a1, a2, a3, a4, a5, a6, a7] (vI y :: vI x :: st) μ G = if y ≤ x then ev 152 52 [a0, a1, a2, a3, a4, a5, a6, a7] st μ G else ev 152 48 [a0, a1, a2, a3, a4, a5, a6, a7] st μ G := ev_br (mm_cnd_ge x y) pg_152_45 rfl
theorem pg_152_48 : mm_prog 152 48 = some (0, .iload_n 2, 49, []) := by decide +kernel
theorem xe_152_48 (a0 a1 a3 a4 a5 a6 a7 : Option MV) (x : Int) (st : List MV) (μ : MM) (G : MG) : ev 152 48 [a0, a1, some (vI x), a3, a4, a5, a6, a7] st μ G = ev 152 49 [a0, a1, some (vI x), a3, a4, a5, a6, a7] (vI x :: st) μ G := ev_stp pg_152_48 rfl
theorem pg_152_49 : mm_prog 152 49 = some (0, .goto 28, 52, []) := by decide +kernel
theorem xe_152_49 (a0 a1 a2 a3 a4 a5 a6 a7 : Option MV) (st : List MV) (μ : MM) (G : MG) : ev 152 49 [a0, a1, a2, a3, a4, a5, a6, a7] st μ G = ev 152 77 [a0, a1, a2, a3, a4, a5, a6, a7] st μ G := ev_stp pg_152_49 rfl
theorem pg_152_52 : mm_prog 152 52 = some (0, .iload 6, 54, []) := by decide +kernel
theorem xe_152_52 (a0 a1 a2 a3 a4 a5 a7 : Option MV) (x : Int) (st : List MV) (μ : MM) (G : MG) : ev 152 52 [a0, a1, a2, a3, a4, a5, some (vI x), a7] st μ G = ev 152 54 [a0, a1, a2, a3, a4, a5, some (vI x), a7] (vI x :: st) μ G := ev_stp pg_152_52 rfl
theorem pg_152_54 : mm_prog 152 54 = some (0, .bipush 12, 56, []) := by decide +kernel
theorem xe_152_54 (a0 a1 a2 a3 a4 a5 a6 a7 : Option MV) (st : List MV) (μ : MM) (G : MG) : ev 152 54 [a0, a1, a2, a3, a4, a5, a6, a7] st μ G = ev 152 56 [a0, a1, a2, a3, a4, a5, a6, a7] (vI (12) :: st) μ G := ev_stp pg_152_54 rfl
theorem pg_152_56 : mm_prog 152 56 = some (0, .if_icmp .ge 7, 59, []) := by decide +kernel
theorem xe_152_56 (a0 a1 a2 a3 a4 a5 a6 a7 : Option MV) (x y : Int) (st : List MV) (μ : MM) (G : MG) : ev 152 56 [a0, a1, a2, a3, a4, a5, a6, a7] (vI y :: vI x :: st) μ G = if y ≤ x then ev 152 63 [a0, a1, a2, a3, a4, a5, a6, a7] st μ G else ev 152 59 [a0, a1, a2, a3, a4, a5, a6, a7] st μ G := ev_br (mm_cnd_ge x y) pg_152_56 rfl
theorem pg_152_59 : mm_prog 152 59 = some (0, .iload_n 3, 60, []) := by decide +kernel
theorem xe_152_59 (a0 a1 a2 a4 a5 a6 a7 : Option MV) (x : Int) (st : List MV) (μ : MM) (G : MG) : ev 152 59 [a0, a1, a2, some (vI x), a4, a5, a6, a7] st μ G = ev 152 60 [a0, a1, a2, some (vI x), a4, a5, a6, a7] (vI x :: st) μ G := ev_stp pg_152_59 rfl
theorem pg_152_60 : mm_prog 152 60 = some (0, .goto 17, 63, []) := by decide +kernel
theorem xe_152_60 (a0 a1 a2 a3 a4 a5 a6 a7 : Option MV) (st : List MV) (μ : MM) (G : MG) : ev 152 60 [a0, a1, a2, a3, a4, a5, a6, a7] st μ G = ev 152 77 [a0, a1, a2, a3, a4, a5, a6, a7] st μ G := ev_stp pg_152_60 rfl
theorem pg_152_63 : mm_prog 152 63 = some (0, .iload 6, 65, []) := by decide +kernel
theorem xe_152_63 (a0 a1 a2 a3 a4 a5 a7 : Option MV) (x : Int) (st : List MV) (μ : MM) (G : MG) : ev 152 63 [a0, a1, a2, a3, a4, a5, some (vI x), a7] st μ G = ev 152 65 [a0, a1, a2, a3, a4, a5, some (vI x), a7] (vI x :: st) μ G := ev_stp pg_152_63 rfl
theorem pg_152_65 : mm_prog 152 65 = some (0, .bipush 16, 67, []) := by decide +kernel
theorem xe_152_65 (a0 a1 a2 a3 a4 a5 a6 a7 : Option MV) (st : List MV) (μ : MM) (G : MG) : ev 152 65 [a0, a1, a2, a3, a4, a5, a6, a7] st μ G = ev 152 67 [a0, a1, a2, a3, a4, a5, a6, a7] (vI (16) :: st) μ G := ev_stp pg_152_65 rfl
theorem pg_152_67 : mm_prog 152 67 = some (0, .if_icmp .ge 8, 70, []) := by decide +kernel
theorem xe_152_67 (a0 a1 a2 a3 a4 a5 a6 a7 : Option MV) (x y : Int) (st : List MV) (μ : MM) (G : MG) : ev 152 67 [a0, a1, a2, a3, a4, a5, a6, a7] (vI y :: vI x :: st) μ G = if y ≤ x then ev 152 75 [a0, a1, a2, a3, a4, a5, a6, a7] st μ G else ev 152 70 [a0, a1, a2, a3, a4, a5, a6, a7] st μ G := ev_br (mm_cnd_ge x y) pg_152_67 rfl
theorem pg_152_70 : mm_prog 152 70 = some (0, .iload 4, 72, []) := by decide +kernel
theorem xe_152_70 (a0 a1 a2 a3 a5 a6 a7 : Option MV) (x : Int) (st : List MV) (μ : MM) (G : MG) : ev 152 70 [a0, a1, a2, a3, some (vI x), a5, a6, a7] st μ G = ev 152 72 [a0, a1, a2, a3, some (vI x), a5, a6, a7] (vI x :: st) μ G := ev_stp pg_152_70 rfl
theorem pg_152_72 : mm_prog 152 72 = some (0, .goto 5, 75, []) := by decide +kernel
theorem xe_152_72 (a0 a1 a2 a3 a4 a5 a6 a7 : Option MV) (st : List MV) (μ : MM) (G : MG) : ev 152 72 [a0, a1, a2, a3, a4, a5, a6, a7] st μ G = ev 152 77 [a0, a1, a2, a3, a4, a5, a6, a7] st μ G := ev_stp pg_152_72 rfl
theorem pg_152_75 : mm_prog 152 75 = some (0, .iload 5, 77, []) := by decide +kernel
theorem xe_152_75 (a0 a1 a2 a3 a4 a6 a7 : Option MV) (x : Int) (st : List MV) (μ : MM) (G : MG) : ev 152 75 [a0, a1, a2, a3, a4, some (vI x), a6, a7] st μ G = ev 152 77 [a0, a1, a2, a3, a4, some (vI x), a6, a7] (vI x :: st) μ G := ev_stp pg_152_75 rfl
theorem pg_152_77 : mm_prog 152 77 = some (0, .istore 7, 79, []) := by decide +kernel
theorem xe_152_77 (a0 a1 a2 a3 a4 a5 a6 a7 : Option MV) (x : Int) (st : List MV) (μ : MM) (G : MG) (h : mm_nL a6 = true) : ev 152 77 [a0, a1, a2, a3, a4, a5, a6, a7] (vI x :: st) μ G = ev 152 79 [a0, a1, a2, a3, a4, a5, a6, some (vI x)] st μ G := ev_st pg_152_77 rfl (mm_nl_of h) (Nat.le_of_ble_eq_true rfl)
theorem pg_152_79 : mm_prog 152 79 = some (0, .aload_n 0, 80, []) := by decide +kernel
theorem xe_152_79 (a1 a2 a3 a4 a5 a6 a7 : Option MV) (x : Int) (st : List MV) (μ : MM) (G : MG) : ev 152 79 [some (vR x), a1, a2, a3, a4, a5, a6, a7] st μ G = ev 152 80 [some (vR x), a1, a2, a3, a4, a5, a6, a7] (vR x :: st) μ G := ev_stp pg_152_79 rfl
theorem pg_152_80 : mm_prog 152 80 = some (0, .getfield 13, 83, [11, 1, 2]) := by decide +kernel
theorem xe_152_80 (a0 a1 a2 a3 a4 a5 a6 a7 : Option MV) (x : Int) (st : List MV) (μ : MM) (G : MG) : ev 152 80 [a0, a1, a2, a3, a4, a5, a6, a7] (vR x :: st) μ G = if gk G x = 11 then ev 152 83 [a0, a1, a2, a3, a4, a5, a6, a7] (vR (μ x 1) :: st) μ G else none := ev_if pg_152_80 rfl
theorem pg_152_83 : mm_prog 152 83 = some (0, .aload_n 0, 84, []) := by decide +kernel
theorem xe_152_83 (a1 a2 a3 a4 a5 a6 a7 : Option MV) (x : Int) (st : List MV) (μ : MM) (G : MG) : ev 152 83 [some (vR x), a1, a2, a3, a4, a5, a6, a7] st μ G = ev 152 84 [some (vR x), a1, a2, a3, a4, a5, a6, a7] (vR x :: st) μ G := ev_stp pg_152_83 rfl
theorem pg_152_84 : mm_prog 152 84 = some (0, .getfield 96, 87, [11, 4, 0]) := by decide +kernel
theorem xe_152_84 (a0 a1 a2 a3 a4 a5 a6 a7 : Option MV) (x : Int) (st : List MV) (μ : MM) (G : MG) : ev 152 84 [a0, a1, a2, a3, a4, a5, a6, a7] (vR x :: st) μ G = if gk G x = 11 then ev 152 87 [a0, a1, a2, a3, a4, a5, a6, a7] (vI (μ x 4) :: st) μ G else none := ev_if pg_152_84 rfl
theorem pg_152_87 : mm_prog 152 87 = some (0, .iload 7, 89, []) := by decide +kernel
theorem xe_152_87 (a0 a1 a2 a3 a4 a5 a6 : Option MV) (x : Int) (st : List MV) (μ : MM) (G : MG) : ev 152 87 [a0, a1, a2, a3, a4, a5, a6, some (vI x)] st μ G = ev 152 89 [a0, a1, a2, a3, a4, a5, a6, some (vI x)] (vI x :: st) μ G := ev_stp pg_152_87 rfl
theorem pg_152_89 : mm_prog 152 89 = some (0, .bipush 24, 91, []) := by decide +kernel
theorem xe_152_89 (a0 a1 a2 a3 a4 a5 a6 a7 : Option MV) (st : List MV) (μ : MM) (G : MG) : ev 152 89 [a0, a1, a2, a3, a4, a5, a6, a7] st μ G = ev 152 91 [a0, a1, a2, a3, a4, a5, a6, a7] (vI (24) :: st) μ G := ev_stp pg_152_89 rfl
theorem pg_152_91 : mm_prog 152 91 = some (0, .bipush 8, 93, []) := by decide +kernel
theorem xe_152_91 (a0 a1 a2 a3 a4 a5 a6 a7 : Option MV) (st : List MV) (μ : MM) (G : MG) : ev 152 91 [a0, a1, a2, a3, a4, a5, a6, a7] st μ G = ev 152 93 [a0, a1, a2, a3, a4, a5, a6, a7] (vI (8) :: st) μ G := ev_stp pg_152_91 rfl
theorem pg_152_93 : mm_prog 152 93 = some (0, .iload 6, 95, []) := by decide +kernel
theorem xe_152_93 (a0 a1 a2 a3 a4 a5 a7 : Option MV) (x : Int) (st : List MV) (μ : MM) (G : MG) : ev 152 93 [a0, a1, a2, a3, a4, a5, some (vI x), a7] st μ G = ev 152 95 [a0, a1, a2, a3, a4, a5, some (vI x), a7] (vI x :: st) μ G := ev_stp pg_152_93 rfl
theorem pg_152_95 : mm_prog 152 95 = some (0, .iconst 4, 96, []) := by decide +kernel
theorem xe_152_95 (a0 a1 a2 a3 a4 a5 a6 a7 : Option MV) (st : List MV) (μ : MM) (G : MG) : ev 152 95 [a0, a1, a2, a3, a4, a5, a6, a7] st μ G = ev 152 96 [a0, a1, a2, a3, a4, a5, a6, a7] (vI (4) :: st) μ G := ev_stp pg_152_95 rfl
theorem pg_152_96 : mm_prog 152 96 = some (0, .irem, 97, []) := by decide +kernel
theorem xe_152_96 (a0 a1 a2 a3 a4 a5 a6 a7 : Option MV) (x y : Int) (st : List MV) (μ : MM) (G : MG) : ev 152 96 [a0, a1, a2, a3, a4, a5, a6, a7] (vI y :: vI x :: st) μ G = if y = 0 then none else ev 152 97 [a0, a1, a2, a3, a4, a5, a6, a7] (vI (mm_rem x y) :: st) μ G := ev_no pg_152_96 rfl
theorem pg_152_97 : mm_prog 152 97 = some (0, .imul, 98, []) := by decide +kernel
theorem xe_152_97 (a0 a1 a2 a3 a4 a5 a6 a7 : Option MV) (x y : Int) (st : List MV) (μ : MM) (G : MG) : ev 152 97 [a0, a1, a2, a3, a4, a5, a6, a7] (vI y :: vI x :: st) μ G = ev 152 98 [a0, a1, a2, a3, a4, a5, a6, a7] (vI (w32 (x * y)) :: st) μ G := ev_stp pg_152_97 rfl
theorem pg_152_98 : mm_prog 152 98 = some (0, .isub, 99, []) := by decide +kernel
theorem xe_152_98 (a0 a1 a2 a3 a4 a5 a6 a7 : Option MV) (x y : Int) (st : List MV) (μ : MM) (G : MG) : ev 152 98 [a0, a1, a2, a3, a4, a5, a6, a7] (vI y :: vI x :: st) μ G = ev 152 99 [a0, a1, a2, a3, a4, a5, a6, a7] (vI (w32 (x - y)) :: st) μ G := ev_stp pg_152_98 rfl
theorem pg_152_99 : mm_prog 152 99 = some (0, .ishr, 100, []) := by decide +kernel
theorem xe_152_99 (a0 a1 a2 a3 a4 a5 a6 a7 : Option MV) (x y : Int) (st : List MV) (μ : MM) (G : MG) : ev 152 99 [a0, a1, a2, a3, a4, a5, a6, a7] (vI y :: vI x :: st) μ G = ev 152 100 [a0, a1, a2, a3, a4, a5, a6, a7] (vI (mm_shr x y) :: st) μ G := ev_stp pg_152_99 rfl
theorem pg_152_100 : mm_prog 152 100 = some (0, .sipush 255, 103, []) := by decide +kernel
theorem xe_152_100 (a0 a1 a2 a3 a4 a5 a6 a7 : Option MV) (st : List MV) (μ : MM) (G : MG) : ev 152 100 [a0, a1, a2, a3, a4, a5, a6, a7] st μ G = ev 152 103 [a0, a1, a2, a3, a4, a5, a6, a7] (vI (255) :: st) μ G := ev_stp pg_152_100 rfl
theorem pg_152_103 : mm_prog 152 103 = some (0, .iand, 104, []) := by decide +kernel
theorem xe_152_103 (a0 a1 a2 a3 a4 a5 a6 a7 : Option MV) (x y : Int) (st : List MV) (μ : MM) (G : MG) : ev 152 103 [a0, a1, a2, a3, a4, a5, a6, a7] (vI y :: vI x :: st) μ G = ev 152 104 [a0, a1, a2, a3, a4, a5, a6, a7] (vI (mm_and x y) :: st) μ G := ev_stp pg_152_103 rfl
theorem pg_152_104 : mm_prog 152 104 = some (0, .iastore, 105, []) := by decide +kernel
theorem xe_152_104 (a0 a1 a2 a3 a4 a5 a6 a7 : Option MV) (x y z : Int) (st : List MV) (μ : MM) (G : MG) : ev 152 104 [a0, a1, a2, a3, a4, a5, a6, a7] (vI x :: vI y :: vR z :: st) μ G = if gk G z = 100 ∧ 0 ≤ y ∧ y < gl G z ∧ 10 ≤ z then ev 152 105 [a0, a1, a2, a3, a4, a5, a6, a7] st (mset μ z y x) G else none := ev_if pg_152_104 rfl
theorem pg_152_105 : mm_prog 152 105 = some (0, .aload_n 0, 106, []) := by decide +kernel
theorem xe_152_105 (a1 a2 a3 a4 a5 a6 a7 : Option MV) (x : Int) (st : List MV) (μ : MM) (G : MG) : ev 152 105 [some (vR x), a1, a2, a3, a4, a5, a6, a7] st μ G = ev 152 106 [some (vR x), a1, a2, a3, a4, a5, a6, a7] (vR x :: st) μ G := ev_stp pg_152_105 rfl
theorem pg_152_106 : mm_prog 152 106 = some (0, .dup, 107, []) := by decide +kernel
theorem xe_152_106 (a0 a1 a2 a3 a4 a5 a6 a7 : Option MV) (x : Int) (st : List MV) (μ : MM) (G : MG) : ev 152 106 [a0, a1, a2, a3, a4, a5, a6, a7] (vR x :: st) μ G = ev 152 107 [a0, a1, a2, a3, a4, a5, a6, a7] (vR x :: vR x :: st) μ G := ev_stp pg_152_106 rfl
theorem pg_152_107 : mm_prog 152 107 = some (0, .getfield 96, 110, [11, 4, 0]) := by decide +kernel
theorem xe_152_107 (a0 a1 a2 a3 a4 a5 a6 a7 : Option MV) (x : Int) (st : List MV) (μ : MM) (G : MG) : ev 152 107 [a0, a1, a2, a3, a4, a5, a6, a7] (vR x :: st) μ G = if gk G x = 11 then ev 152 110 [a0, a1, a2, a3, a4, a5, a6, a7] (vI (μ x 4) :: st) μ G else none := ev_if pg_152_107 rfl
theorem pg_152_110 : mm_prog 152 110 = some (0, .iconst 1, 111, []) := by decide +kernel
theorem xe_152_110 (a0 a1 a2 a3 a4 a5 a6 a7 : Option MV) (st : List MV) (μ : MM) (G : MG) : ev 152 110 [a0, a1, a2, a3, a4, a5, a6, a7] st μ G = ev 152 111 [a0, a1, a2, a3, a4, a5, a6, a7] (vI (1) :: st) μ G := ev_stp pg_152_110 rfl
theorem pg_152_111 : mm_prog 152 111 = some (0, .iadd, 112, []) := by decide +kernel
theorem xe_152_111 (a0 a1 a2 a3 a4 a5 a6 a7 : Option MV) (x y : Int) (st : List MV) (μ : MM) (G : MG) : ev 152 111 [a0, a1, a2, a3, a4, a5, a6, a7] (vI y :: vI x :: st) μ G = ev 152 112 [a0, a1, a2, a3, a4, a5, a6, a7] (vI (w32 (x + y)) :: st) μ G := ev_stp pg_152_111 rfl
theorem pg_152_112 : mm_prog 152 112 = some (0, .putfield 96, 115, [11, 4, 0]) := by decide +kernel
theorem xe_152_112 (a0 a1 a2 a3 a4 a5 a6 a7 : Option MV) (x y : Int) (st : List MV) (μ : MM) (G : MG) : ev 152 112 [a0, a1, a2, a3, a4, a5, a6, a7] (vI x :: vR y :: st) μ G = if gk G y = 11 then ev 152 115 [a0, a1, a2, a3, a4, a5, a6, a7] st (mset μ y 4 x) G else none := ev_put0 pg_152_112
theorem pg_152_115 : mm_prog 152 115 = some (0, .iinc 6 1, 118, []) := by decide +kernel
theorem xe_152_115 (a0 a1 a2 a3 a4 a5 a7 : Option MV) (x : Int) (st : List MV) (μ : MM) (G : MG) (h : mm_nL a5 = true) : ev 152 115 [a0, a1, a2, a3, a4, a5, some (vI x), a7] st μ G = ev 152 118 [a0, a1, a2, a3, a4, a5, some (vI (w32 (x + (1)))), a7] st μ G := ev_st pg_152_115 rfl (mm_nl_of h) (Nat.le_of_ble_eq_true rfl)
theorem pg_152_118 : mm_prog 152 118 = some (0, .goto (-94), 121, []) := by decide +kernel
theorem xe_152_118 (a0 a1 a2 a3 a4 a5 a6 a7 : Option MV) (st : List MV) (μ : MM) (G : MG) : ev 152 118 [a0, a1, a2, a3, a4, a5, a6, a7] st μ G = ev 152 24 [a0, a1, a2, a3, a4, a5, a6, a7] st μ G := ev_stp pg_152_118 rfl
theorem pg_152_121 : mm_prog 152 121 = some (0, .aload_n 0, 122, []) := by decide +kernel
theorem xe_152_121 (a1 a2 a3 a4 a5 a6 a7 : Option MV) (x : Int) (st : List MV) (μ : MM) (G : MG) : ev 152 121 [some (vR x), a1, a2, a3, a4, a5, a6, a7] st μ G = ev 152 122 [some (vR x), a1, a2, a3, a4, a5, a6, a7] (vR x :: st) μ G := ev_stp pg_152_121 rfl
theorem pg_152_122 : mm_prog 152 122 = some (0, .getfield 96, 125, [11, 4, 0]) := by decide +kernel
theorem xe_152_122 (a0 a1 a2 a3 a4 a5 a6 a7 : Option MV) (x : Int) (st : List MV) (μ : MM) (G : MG) : ev 152 122 [a0, a1, a2, a3, a4, a5, a6, a7] (vR x :: st) μ G = if gk G x = 11 then ev 152 125 [a0, a1, a2, a3, a4, a5, a6, a7] (vI (μ x 4) :: st) μ G else none := ev_if pg_152_122 rfl
theorem pg_152_125 : mm_prog 152 125 = some (2, .ireturn, 126, [0]) := by decide +kernel
theorem xe_152_125 (a0 a1 a2 a3 a4 a5 a6 a7 : Option MV) (x : Int) (μ : MM) (G : MG) : ev 152 125 [a0, a1, a2, a3, a4, a5, a6, a7] [vI x] μ G = some (some (vI x), μ, G) := ev_ret pg_152_125 rfl
-- X11_fails
theorem pg_153_0 : mm_prog 153 0 = some (0, .aload_n 0, 1, []) := by decide +kernel
theorem xe_153_0 (a1 a2 : Option MV) (x : Int) (st : List MV) (μ : MM) (G : MG) : ev 153 0 [some (vR x), a1, a2] st μ G = ev 153 1 [some (vR x), a1, a2] (vR x :: st) μ G := ev_stp pg_153_0 rfl
theorem pg_153_1 : mm_prog 153 1 = some (0, .getfield 99, 4, [11, 7, 0]) := by decide +kernel
theorem xe_153_1 (a0 a1 a2 : Option MV) (x : Int) (st : List MV) (μ : MM) (G : MG) : ev 153 1 [a0, a1, a2] (vR x :: st) μ G = if gk G x = 11 then ev 153 4 [a0, a1, a2] (vI (μ x 7) :: st) μ G else none := ev_if pg_153_1 rfl
theorem pg_153_4 : mm_prog 153 4 = some (0, .ifCond .eq 4, 7, []) := by decide +kernel
theorem xe_153_4 (a0 a1 a2 : Option MV) (x : Int) (st : List MV) (μ : MM) (G : MG) : ev 153 4 [a0, a1, a2] (vI x :: st) μ G = if x = 0 then ev 153 8 [a0, a1, a2] st μ G else ev 153 7 [a0, a1, a2] st μ G := ev_br (mm_cnd_eq x 0) pg_153_4 rfl
theorem pg_153_7 : mm_prog 153 7 = some (2, .return_, 8, []) := by decide +kernel
theorem xe_153_7 (a0 a1 a2 : Option MV) (μ : MM) (G : MG) : ev 153 7 [a0, a1, a2] [] μ G = some (none, μ, G) := ev_ret pg_153_7 rfl
theorem pg_153_8 : mm_prog 153 8 = some (0, .aload_n 0, 9, []) := by decide +kernel
theorem xe_153_8 (a1 a2 : Option MV) (x : Int) (st : List MV) (μ : MM) (G : MG) : ev 153 8 [some (vR x), a1, a2] st μ G = ev 153 9 [some (vR x), a1, a2] (vR x :: st) μ G := ev_stp pg_153_8 rfl
theorem pg_153_9 : mm_prog 153 9 = some (0, .iload_n 1, 10, []) := by decide +kernel
theorem xe_153_9 (a0 a2 : Option MV) (x : Int) (st : List MV) (μ : MM) (G : MG) : ev 153 9 [a0, some (vI x), a2] st μ G = ev 153 10 [a0, some (vI x), a2] (vI x :: st) μ G := ev_stp pg_153_9 rfl
theorem pg_153_10 : mm_prog 153 10 = some (0, .putfield 99, 13, [11, 7, 0]) := by decide +kernel
theorem xe_153_10 (a0 a1 a2 : Option MV) (x y : Int) (st : List MV) (μ : MM) (G : MG) : ev 153 10 [a0, a1, a2] (vI x :: vR y :: st) μ G = if gk G y = 11 then ev 153 13 [a0, a1, a2] st (mset μ y 7 x) G else none := ev_put0 pg_153_10
theorem pg_153_13 : mm_prog 153 13 = some (0, .aload_n 0, 14, []) := by decide +kernel
theorem xe_153_13 (a1 a2 : Option MV) (x : Int) (st : List MV) (μ : MM) (G : MG) : ev 153 13 [some (vR x), a1, a2] st μ G = ev 153 14 [some (vR x), a1, a2] (vR x :: st) μ G := ev_stp pg_153_13 rfl
theorem pg_153_14 : mm_prog 153 14 = some (0, .iload_n 2, 15, []) := by decide +kernel
theorem xe_153_14 (a0 a1 : Option MV) (x : Int) (st : List MV) (μ : MM) (G : MG) : ev 153 14 [a0, a1, some (vI x)] st μ G = ev 153 15 [a0, a1, some (vI x)] (vI x :: st) μ G := ev_stp pg_153_14 rfl
theorem pg_153_15 : mm_prog 153 15 = some (0, .putfield 23, 18, [11, 8, 0]) := by decide +kernel
theorem xe_153_15 (a0 a1 a2 : Option MV) (x y : Int) (st : List MV) (μ : MM) (G : MG) : ev 153 15 [a0, a1, a2] (vI x :: vR y :: st) μ G = if gk G y = 11 then ev 153 18 [a0, a1, a2] st (mset μ y 8 x) G else none := ev_put0 pg_153_15
theorem pg_153_18 : mm_prog 153 18 = some (2, .return_, 19, []) := by decide +kernel
theorem xe_153_18 (a0 a1 a2 : Option MV) (μ : MM) (G : MG) : ev 153 18 [a0, a1, a2] [] μ G = some (none, μ, G) := ev_ret pg_153_18 rfl
-- X11_sumOf
theorem pg_154_0 : mm_prog 154 0 = some (0, .iconst 0, 1, []) := by decide +kernel
theorem xe_154_0 (a0 a1 a2 a3 : Option MV) (st : List MV) (μ : MM) (G : MG) : ev 154 0 [a0, a1, a2, a3] st μ G = ev 154 1 [a0, a1, a2, a3] (vI (0) :: st) μ G := ev_stp pg_154_0 rfl
theorem pg_154_1 : mm_prog 154 1 = some (0, .istore_n 2, 2, []) := by decide +kernel
theorem xe_154_1 (a0 a1 a2 a3 : Option MV) (x : Int) (st : List MV) (μ : MM) (G : MG) (h : mm_nL a1 = true) : ev 154 1 [a0, a1, a2, a3] (vI x :: st) μ G = ev 154 2 [a0, a1, some (vI x), a3] st μ G := ev_st pg_154_1 rfl (mm_nl_of h) (Nat.le_of_ble_eq_true rfl)
theorem pg_154_2 : mm_prog 154 2 = some (0, .iconst 0, 3, []) := by decide +kernel
theorem xe_154_2 (a0 a1 a2 a3 : Option MV) (st : List MV) (μ : MM) (G : MG) : ev 154 2 [a0, a1, a2, a3] st μ G = ev 154 3 [a0, a1, a2, a3] (vI (0) :: st) μ G := ev_stp pg_154_2 rfl
theorem pg_154_3 : mm_prog 154 3 = some (0, .istore_n 3, 4, []) := by decide +kernel
theorem xe_154_3 (a0 a1 a2 a3 : Option MV) (x : Int) (st : List MV) (μ : MM) (G : MG) (h : mm_nL a2 = true) : ev 154 3 [a0, a1, a2, a3] (vI x :: st) μ G = ev 154 4 [a0, a1, a2, some (vI x)] st μ G := ev_st pg_154_3 rfl (mm_nl_of h) (Nat.le_of_ble_eq_true rfl)
theorem pg_154_4 : mm_prog 154 4 = some (0, .iload_n 3, 5, []) := by decide +kernel
theorem xe_154_4 (a0 a1 a2 : Option MV) (x : Int) (st : List MV) (μ : MM) (G : MG) : ev 154 4 [a0, a1, a2, some (vI x)] st μ G = ev 154 5 [a0, a1, a2, some (vI x)] (vI x :: st) μ G := ev_stp pg_154_4 rfl
theorem pg_154_5 : mm_prog 154 5 = some (0, .sipush 128, 8, []) := by decide +kernel
theorem xe_154_5 (a0 a1 a2 a3 : Option MV) (st : List MV) (μ : MM) (G : MG) : ev 154 5 [a0, a1, a2, a3] st μ G = ev 154 8 [a0, a1, a2, a3] (vI (128) :: st) μ G := ev_stp pg_154_5 rfl
theorem pg_154_8 : mm_prog 154 8 = some (0, .if_icmp .ge 24, 11, []) := by decide +kernel
theorem xe_154_8 (a0 a1 a2 a3 : Option MV) (x y : Int) (st : List MV) (μ : MM) (G : MG) : ev 154 8 [a0, a1, a2, a3] (vI y :: vI x :: st) μ G = if y ≤ x then ev 154 32 [a0, a1, a2, a3] st μ G else ev 154 11 [a0, a1, a2, a3] st μ G := ev_br (mm_cnd_ge x y) pg_154_8 rfl
theorem pg_154_11 : mm_prog 154 11 = some (0, .iload_n 2, 12, []) := by decide +kernel
theorem xe_154_11 (a0 a1 a3 : Option MV) (x : Int) (st : List MV) (μ : MM) (G : MG) : ev 154 11 [a0, a1, some (vI x), a3] st μ G = ev 154 12 [a0, a1, some (vI x), a3] (vI x :: st) μ G := ev_stp pg_154_11 rfl
theorem pg_154_12 : mm_prog 154 12 = some (0, .aload_n 0, 13, []) := by decide +kernel
theorem xe_154_12 (a1 a2 a3 : Option MV) (x : Int) (st : List MV) (μ : MM) (G : MG) : ev 154 12 [some (vR x), a1, a2, a3] st μ G = ev 154 13 [some (vR x), a1, a2, a3] (vR x :: st) μ G := ev_stp pg_154_12 rfl
theorem pg_154_13 : mm_prog 154 13 = some (0, .getfield 17, 16, [11, 2, 2]) := by decide +kernel
theorem xe_154_13 (a0 a1 a2 a3 : Option MV) (x : Int) (st : List MV) (μ : MM) (G : MG) : ev 154 13 [a0, a1, a2, a3] (vR x :: st) μ G = if gk G x = 11 then ev 154 16 [a0, a1, a2, a3] (vR (μ x 2) :: st) μ G else none := ev_if pg_154_13 rfl
theorem pg_154_16 : mm_prog 154 16 = some (0, .sipush 128, 19, []) := by decide +kernel
theorem xe_154_16 (a0 a1 a2 a3 : Option MV) (st : List MV) (μ : MM) (G : MG) : ev 154 16 [a0, a1, a2, a3] st μ G = ev 154 19 [a0, a1, a2, a3] (vI (128) :: st) μ G := ev_stp pg_154_16 rfl
theorem pg_154_19 : mm_prog 154 19 = some (0, .iload_n 1, 20, []) := by decide +kernel
theorem xe_154_19 (a0 a2 a3 : Option MV) (x : Int) (st : List MV) (μ : MM) (G : MG) : ev 154 19 [a0, some (vI x), a2, a3] st μ G = ev 154 20 [a0, some (vI x), a2, a3] (vI x :: st) μ G := ev_stp pg_154_19 rfl
theorem pg_154_20 : mm_prog 154 20 = some (0, .imul, 21, []) := by decide +kernel
theorem xe_154_20 (a0 a1 a2 a3 : Option MV) (x y : Int) (st : List MV) (μ : MM) (G : MG) : ev 154 20 [a0, a1, a2, a3] (vI y :: vI x :: st) μ G = ev 154 21 [a0, a1, a2, a3] (vI (w32 (x * y)) :: st) μ G := ev_stp pg_154_20 rfl
theorem pg_154_21 : mm_prog 154 21 = some (0, .iload_n 3, 22, []) := by decide +kernel
theorem xe_154_21 (a0 a1 a2 : Option MV) (x : Int) (st : List MV) (μ : MM) (G : MG) : ev 154 21 [a0, a1, a2, some (vI x)] st μ G = ev 154 22 [a0, a1, a2, some (vI x)] (vI x :: st) μ G := ev_stp pg_154_21 rfl
theorem pg_154_22 : mm_prog 154 22 = some (0, .iadd, 23, []) := by decide +kernel
theorem xe_154_22 (a0 a1 a2 a3 : Option MV) (x y : Int) (st : List MV) (μ : MM) (G : MG) : ev 154 22 [a0, a1, a2, a3] (vI y :: vI x :: st) μ G = ev 154 23 [a0, a1, a2, a3] (vI (w32 (x + y)) :: st) μ G := ev_stp pg_154_22 rfl
theorem pg_154_23 : mm_prog 154 23 = some (0, .iaload, 24, []) := by decide +kernel
theorem xe_154_23 (a0 a1 a2 a3 : Option MV) (x y : Int) (st : List MV) (μ : MM) (G : MG) : ev 154 23 [a0, a1, a2, a3] (vI x :: vR y :: st) μ G = if gk G y = 100 ∧ 0 ≤ x ∧ x < gl G y then ev 154 24 [a0, a1, a2, a3] (vI (μ y x) :: st) μ G else none := ev_if pg_154_23 rfl
theorem pg_154_24 : mm_prog 154 24 = some (0, .iadd, 25, []) := by decide +kernel
theorem xe_154_24 (a0 a1 a2 a3 : Option MV) (x y : Int) (st : List MV) (μ : MM) (G : MG) : ev 154 24 [a0, a1, a2, a3] (vI y :: vI x :: st) μ G = ev 154 25 [a0, a1, a2, a3] (vI (w32 (x + y)) :: st) μ G := ev_stp pg_154_24 rfl
theorem pg_154_25 : mm_prog 154 25 = some (0, .istore_n 2, 26, []) := by decide +kernel
theorem xe_154_25 (a0 a1 a2 a3 : Option MV) (x : Int) (st : List MV) (μ : MM) (G : MG) (h : mm_nL a1 = true) : ev 154 25 [a0, a1, a2, a3] (vI x :: st) μ G = ev 154 26 [a0, a1, some (vI x), a3] st μ G := ev_st pg_154_25 rfl (mm_nl_of h) (Nat.le_of_ble_eq_true rfl)
theorem pg_154_26 : mm_prog 154 26 = some (0, .iinc 3 1, 29, []) := by decide +kernel
theorem xe_154_26 (a0 a1 a2 : Option MV) (x : Int) (st : List MV) (μ : MM) (G : MG) (h : mm_nL a2 = true) : ev 154 26 [a0, a1, a2, some (vI x)] st μ G = ev 154 29 [a0, a1, a2, some (vI (w32 (x + (1))))] st μ G := ev_st pg_154_26 rfl (mm_nl_of h) (Nat.le_of_ble_eq_true rfl)
theorem pg_154_29 : mm_prog 154 29 = some (0, .goto (-25), 32, []) := by decide +kernel
theorem xe_154_29 (a0 a1 a2 a3 : Option MV) (st : List MV) (μ : MM) (G : MG) : ev 154 29 [a0, a1, a2, a3] st μ G = ev 154 4 [a0, a1, a2, a3] st μ G := ev_stp pg_154_29 rfl
theorem pg_154_32 : mm_prog 154 32 = some (0, .iload_n 2, 33, []) := by decide +kernel
theorem xe_154_32 (a0 a1 a3 : Option MV) (x : Int) (st : List MV) (μ : MM) (G : MG) : ev 154 32 [a0, a1, some (vI x), a3] st μ G = ev 154 33 [a0, a1, some (vI x), a3] (vI x :: st) μ G := ev_stp pg_154_32 rfl
theorem pg_154_33 : mm_prog 154 33 = some (2, .ireturn, 34, [0]) := by decide +kernel
theorem xe_154_33 (a0 a1 a2 a3 : Option MV) (x : Int) (μ : MM) (G : MG) : ev 154 33 [a0, a1, a2, a3] [vI x] μ G = some (some (vI x), μ, G) := ev_ret pg_154_33 rfl
-- X11_checks
theorem pg_155_0 : mm_prog 155 0 = some (0, .aload_n 0, 1, []) := by decide +kernel
theorem xe_155_0 (a1 a2 : Option MV) (x : Int) (st : List MV) (μ : MM) (G : MG) : ev 155 0 [some (vR x), a1, a2] st μ G = ev 155 1 [some (vR x), a1, a2] (vR x :: st) μ G := ev_stp pg_155_0 rfl
theorem pg_155_1 : mm_prog 155 1 = some (0, .getfield 102, 4, [11, 5, 0]) := by decide +kernel
theorem xe_155_1 (a0 a1 a2 : Option MV) (x : Int) (st : List MV) (μ : MM) (G : MG) : ev 155 1 [a0, a1, a2] (vR x :: st) μ G = if gk G x = 11 then ev 155 4 [a0, a1, a2] (vI (μ x 5) :: st) μ G else none := ev_if pg_155_1 rfl
theorem pg_155_4 : mm_prog 155 4 = some (0, .sipush 128, 7, []) := by decide +kernel
theorem xe_155_4 (a0 a1 a2 : Option MV) (st : List MV) (μ : MM) (G : MG) : ev 155 4 [a0, a1, a2] st μ G = ev 155 7 [a0, a1, a2] (vI (128) :: st) μ G := ev_stp pg_155_4 rfl
theorem pg_155_7 : mm_prog 155 7 = some (0, .idiv, 8, []) := by decide +kernel
theorem xe_155_7 (a0 a1 a2 : Option MV) (x y : Int) (st : List MV) (μ : MM) (G : MG) : ev 155 7 [a0, a1, a2] (vI y :: vI x :: st) μ G = if y = 0 then none else ev 155 8 [a0, a1, a2] (vI (mm_div x y) :: st) μ G := ev_no pg_155_7 rfl
theorem pg_155_8 : mm_prog 155 8 = some (0, .istore_n 1, 9, []) := by decide +kernel
theorem xe_155_8 (a0 a1 a2 : Option MV) (x : Int) (st : List MV) (μ : MM) (G : MG) (h : mm_nL a0 = true) : ev 155 8 [a0, a1, a2] (vI x :: st) μ G = ev 155 9 [a0, some (vI x), a2] st μ G := ev_st pg_155_8 rfl (mm_nl_of h) (Nat.le_of_ble_eq_true rfl)
theorem pg_155_9 : mm_prog 155 9 = some (0, .aload_n 0, 10, []) := by decide +kernel
theorem xe_155_9 (a1 a2 : Option MV) (x : Int) (st : List MV) (μ : MM) (G : MG) : ev 155 9 [some (vR x), a1, a2] st μ G = ev 155 10 [some (vR x), a1, a2] (vR x :: st) μ G := ev_stp pg_155_9 rfl
theorem pg_155_10 : mm_prog 155 10 = some (0, .getfield 102, 13, [11, 5, 0]) := by decide +kernel
theorem xe_155_10 (a0 a1 a2 : Option MV) (x : Int) (st : List MV) (μ : MM) (G : MG) : ev 155 10 [a0, a1, a2] (vR x :: st) μ G = if gk G x = 11 then ev 155 13 [a0, a1, a2] (vI (μ x 5) :: st) μ G else none := ev_if pg_155_10 rfl
theorem pg_155_13 : mm_prog 155 13 = some (0, .sipush 128, 16, []) := by decide +kernel
theorem xe_155_13 (a0 a1 a2 : Option MV) (st : List MV) (μ : MM) (G : MG) : ev 155 13 [a0, a1, a2] st μ G = ev 155 16 [a0, a1, a2] (vI (128) :: st) μ G := ev_stp pg_155_13 rfl
theorem pg_155_16 : mm_prog 155 16 = some (0, .irem, 17, []) := by decide +kernel
theorem xe_155_16 (a0 a1 a2 : Option MV) (x y : Int) (st : List MV) (μ : MM) (G : MG) : ev 155 16 [a0, a1, a2] (vI y :: vI x :: st) μ G = if y = 0 then none else ev 155 17 [a0, a1, a2] (vI (mm_rem x y) :: st) μ G := ev_no pg_155_16 rfl
theorem pg_155_17 : mm_prog 155 17 = some (0, .ifCond .ne 15, 20, []) := by decide +kernel
theorem xe_155_17 (a0 a1 a2 : Option MV) (x : Int) (st : List MV) (μ : MM) (G : MG) : ev 155 17 [a0, a1, a2] (vI x :: st) μ G = if ¬ x = 0 then ev 155 32 [a0, a1, a2] st μ G else ev 155 20 [a0, a1, a2] st μ G := ev_br (mm_cnd_ne x 0) pg_155_17 rfl
theorem pg_155_20 : mm_prog 155 20 = some (0, .iload_n 1, 21, []) := by decide +kernel
theorem xe_155_20 (a0 a2 : Option MV) (x : Int) (st : List MV) (μ : MM) (G : MG) : ev 155 20 [a0, some (vI x), a2] st μ G = ev 155 21 [a0, some (vI x), a2] (vI x :: st) μ G := ev_stp pg_155_20 rfl
theorem pg_155_21 : mm_prog 155 21 = some (0, .i2l, 22, []) := by decide +kernel
theorem xe_155_21 (a0 a1 a2 : Option MV) (x : Int) (st : List MV) (μ : MM) (G : MG) : ev 155 21 [a0, a1, a2] (vI x :: st) μ G = ev 155 22 [a0, a1, a2] (vL x :: st) μ G := ev_stp pg_155_21 rfl
theorem pg_155_22 : mm_prog 155 22 = some (0, .lconst 1, 23, []) := by decide +kernel
theorem xe_155_22 (a0 a1 a2 : Option MV) (st : List MV) (μ : MM) (G : MG) : ev 155 22 [a0, a1, a2] st μ G = ev 155 23 [a0, a1, a2] (vL 1 :: st) μ G := ev_stp pg_155_22 rfl
theorem pg_155_23 : mm_prog 155 23 = some (0, .ldc2_w 105, 26, [4]) := by decide +kernel
theorem xe_155_23 (a0 a1 a2 : Option MV) (st : List MV) (μ : MM) (G : MG) : ev 155 23 [a0, a1, a2] st μ G = ev 155 26 [a0, a1, a2] (vL (4) :: st) μ G := ev_stp pg_155_23 rfl
theorem pg_155_26 : mm_prog 155 26 = some (1, .invokestatic 107, 29, [0, 148, 3, 0]) := by decide +kernel
theorem xe_155_26 (a0 a1 a2 : Option MV) (x0 x1 x2 : Int) (μ : MM) (G : MG) : ev 155 26 [a0, a1, a2] (vL x2 :: vL x1 :: vL x0 :: []) μ G = (ev 148 0 [some (vL x0), none, some (vL x1), none, some (vL x2), none] [] μ G).bind (fun q => ev 155 29 [a0, a1, a2] (q.1.toList ++ []) q.2.1 q.2.2) := ev_calS (as := [vL x0, vL x1, vL x2]) (r := []) mx_148 pg_155_26 rfl rfl (Nat.le_of_ble_eq_true rfl) (Nat.le_of_ble_eq_true rfl)
theorem pg_155_29 : mm_prog 155 29 = some (0, .ifCond .ne 13, 32, []) := by decide +kernel
theorem xe_155_29 (a0 a1 a2 : Option MV) (x : Int) (st : List MV) (μ : MM) (G : MG) : ev 155 29 [a0, a1, a2] (vI x :: st) μ G = if ¬ x = 0 then ev 155 42 [a0, a1, a2] st μ G else ev 155 32 [a0, a1, a2] st μ G := ev_br (mm_cnd_ne x 0) pg_155_29 rfl
theorem pg_155_32 : mm_prog 155 32 = some (0, .aload_n 0, 33, []) := by decide +kernel
theorem xe_155_32 (a1 a2 : Option MV) (x : Int) (st : List MV) (μ : MM) (G : MG) : ev 155 32 [some (vR x), a1, a2] st μ G = ev 155 33 [some (vR x), a1, a2] (vR x :: st) μ G := ev_stp pg_155_32 rfl
theorem pg_155_33 : mm_prog 155 33 = some (0, .iconst 1, 34, []) := by decide +kernel
theorem xe_155_33 (a0 a1 a2 : Option MV) (st : List MV) (μ : MM) (G : MG) : ev 155 33 [a0, a1, a2] st μ G = ev 155 34 [a0, a1, a2] (vI (1) :: st) μ G := ev_stp pg_155_33 rfl
theorem pg_155_34 : mm_prog 155 34 = some (0, .aload_n 0, 35, []) := by decide +kernel
theorem xe_155_34 (a1 a2 : Option MV) (x : Int) (st : List MV) (μ : MM) (G : MG) : ev 155 34 [some (vR x), a1, a2] st μ G = ev 155 35 [some (vR x), a1, a2] (vR x :: st) μ G := ev_stp pg_155_34 rfl
theorem pg_155_35 : mm_prog 155 35 = some (0, .getfield 102, 38, [11, 5, 0]) := by decide +kernel
theorem xe_155_35 (a0 a1 a2 : Option MV) (x : Int) (st : List MV) (μ : MM) (G : MG) : ev 155 35 [a0, a1, a2] (vR x :: st) μ G = if gk G x = 11 then ev 155 38 [a0, a1, a2] (vI (μ x 5) :: st) μ G else none := ev_if pg_155_35 rfl
theorem pg_155_38 : mm_prog 155 38 = some (1, .invokevirtual 111, 41, [1, 153, 2, 11]) := by decide +kernel
theorem xe_155_38 (a0 a1 a2 : Option MV) (x0 x1 z : Int) (μ : MM) (G : MG) : ev 155 38 [a0, a1, a2] (vI x1 :: vI x0 :: vR z :: []) μ G = if gk G z = 11 ∧ 0 < z then (ev 153 0 [some (vR z), some (vI x0), some (vI x1)] [] μ G).bind (fun q => ev 155 41 [a0, a1, a2] (q.1.toList ++ []) q.2.1 q.2.2) else none := ev_calV (as := [vR z, vI x0, vI x1]) (r := []) mx_153 pg_155_38 rfl rfl (Nat.le_of_ble_eq_true rfl) (Nat.le_of_ble_eq_true rfl)
theorem pg_155_41 : mm_prog 155 41 = some (2, .return_, 42, []) := by decide +kernel
theorem xe_155_41 (a0 a1 a2 : Option MV) (μ : MM) (G : MG) : ev 155 41 [a0, a1, a2] [] μ G = some (none, μ, G) := ev_ret pg_155_41 rfl
theorem pg_155_42 : mm_prog 155 42 = some (0, .iconst 0, 43, []) := by decide +kernel
theorem xe_155_42 (a0 a1 a2 : Option MV) (st : List MV) (μ : MM) (G : MG) : ev 155 42 [a0, a1, a2] st μ G = ev 155 43 [a0, a1, a2] (vI (0) :: st) μ G := ev_stp pg_155_42 rfl
theorem pg_155_43 : mm_prog 155 43 = some (0, .istore_n 2, 44, []) := by decide +kernel
theorem xe_155_43 (a0 a1 a2 : Option MV) (x : Int) (st : List MV) (μ : MM) (G : MG) (h : mm_nL a1 = true) : ev 155 43 [a0, a1, a2] (vI x :: st) μ G = ev 155 44 [a0, a1, some (vI x)] st μ G := ev_st pg_155_43 rfl (mm_nl_of h) (Nat.le_of_ble_eq_true rfl)
theorem pg_155_44 : mm_prog 155 44 = some (0, .iload_n 2, 45, []) := by decide +kernel
theorem xe_155_44 (a0 a1 : Option MV) (x : Int) (st : List MV) (μ : MM) (G : MG) : ev 155 44 [a0, a1, some (vI x)] st μ G = ev 155 45 [a0, a1, some (vI x)] (vI x :: st) μ G := ev_stp pg_155_44 rfl
theorem pg_155_45 : mm_prog 155 45 = some (0, .bipush 8, 47, []) := by decide +kernel
theorem xe_155_45 (a0 a1 a2 : Option MV) (st : List MV) (μ : MM) (G : MG) : ev 155 45 [a0, a1, a2] st μ G = ev 155 47 [a0, a1, a2] (vI (8) :: st) μ G := ev_stp pg_155_45 rfl
theorem pg_155_47 : mm_prog 155 47 = some (0, .if_icmp .ge 41, 50, []) := by decide +kernel
theorem xe_155_47 (a0 a1 a2 : Option MV) (x y : Int) (st : List MV) (μ : MM) (G : MG) : ev 155 47 [a0, a1, a2] (vI y :: vI x :: st) μ G = if y ≤ x then ev 155 88 [a0, a1, a2] st μ G else ev 155 50 [a0, a1, a2] st μ G := ev_br (mm_cnd_ge x y) pg_155_47 rfl
theorem pg_155_50 : mm_prog 155 50 = some (0, .aload_n 0, 51, []) := by decide +kernel
theorem xe_155_50 (a1 a2 : Option MV) (x : Int) (st : List MV) (μ : MM) (G : MG) : ev 155 50 [some (vR x), a1, a2] st μ G = ev 155 51 [some (vR x), a1, a2] (vR x :: st) μ G := ev_stp pg_155_50 rfl
theorem pg_155_51 : mm_prog 155 51 = some (0, .getfield 17, 54, [11, 2, 2]) := by decide +kernel
theorem xe_155_51 (a0 a1 a2 : Option MV) (x : Int) (st : List MV) (μ : MM) (G : MG) : ev 155 51 [a0, a1, a2] (vR x :: st) μ G = if gk G x = 11 then ev 155 54 [a0, a1, a2] (vR (μ x 2) :: st) μ G else none := ev_if pg_155_51 rfl
theorem pg_155_54 : mm_prog 155 54 = some (0, .iload_n 2, 55, []) := by decide +kernel
theorem xe_155_54 (a0 a1 : Option MV) (x : Int) (st : List MV) (μ : MM) (G : MG) : ev 155 54 [a0, a1, some (vI x)] st μ G = ev 155 55 [a0, a1, some (vI x)] (vI x :: st) μ G := ev_stp pg_155_54 rfl
theorem pg_155_55 : mm_prog 155 55 = some (0, .iaload, 56, []) := by decide +kernel
theorem xe_155_55 (a0 a1 a2 : Option MV) (x y : Int) (st : List MV) (μ : MM) (G : MG) : ev 155 55 [a0, a1, a2] (vI x :: vR y :: st) μ G = if gk G y = 100 ∧ 0 ≤ x ∧ x < gl G y then ev 155 56 [a0, a1, a2] (vI (μ y x) :: st) μ G else none := ev_if pg_155_55 rfl
theorem pg_155_56 : mm_prog 155 56 = some (0, .iload_n 2, 57, []) := by decide +kernel
theorem xe_155_56 (a0 a1 : Option MV) (x : Int) (st : List MV) (μ : MM) (G : MG) : ev 155 56 [a0, a1, some (vI x)] st μ G = ev 155 57 [a0, a1, some (vI x)] (vI x :: st) μ G := ev_stp pg_155_56 rfl
theorem pg_155_57 : mm_prog 155 57 = some (0, .ifCond .eq 9, 60, []) := by decide +kernel
theorem xe_155_57 (a0 a1 a2 : Option MV) (x : Int) (st : List MV) (μ : MM) (G : MG) : ev 155 57 [a0, a1, a2] (vI x :: st) μ G = if x = 0 then ev 155 66 [a0, a1, a2] st μ G else ev 155 60 [a0, a1, a2] st μ G := ev_br (mm_cnd_eq x 0) pg_155_57 rfl
theorem pg_155_60 : mm_prog 155 60 = some (0, .iload_n 2, 61, []) := by decide +kernel
theorem xe_155_60 (a0 a1 : Option MV) (x : Int) (st : List MV) (μ : MM) (G : MG) : ev 155 60 [a0, a1, some (vI x)] st μ G = ev 155 61 [a0, a1, some (vI x)] (vI x :: st) μ G := ev_stp pg_155_60 rfl
theorem pg_155_61 : mm_prog 155 61 = some (0, .bipush 7, 63, []) := by decide +kernel
theorem xe_155_61 (a0 a1 a2 : Option MV) (st : List MV) (μ : MM) (G : MG) : ev 155 61 [a0, a1, a2] st μ G = ev 155 63 [a0, a1, a2] (vI (7) :: st) μ G := ev_stp pg_155_61 rfl
theorem pg_155_63 : mm_prog 155 63 = some (0, .if_icmp .ne 7, 66, []) := by decide +kernel
theorem xe_155_63 (a0 a1 a2 : Option MV) (x y : Int) (st : List MV) (μ : MM) (G : MG) : ev 155 63 [a0, a1, a2] (vI y :: vI x :: st) μ G = if ¬ x = y then ev 155 70 [a0, a1, a2] st μ G else ev 155 66 [a0, a1, a2] st μ G := ev_br (mm_cnd_ne x y) pg_155_63 rfl
theorem pg_155_66 : mm_prog 155 66 = some (0, .iconst 0, 67, []) := by decide +kernel
theorem xe_155_66 (a0 a1 a2 : Option MV) (st : List MV) (μ : MM) (G : MG) : ev 155 66 [a0, a1, a2] st μ G = ev 155 67 [a0, a1, a2] (vI (0) :: st) μ G := ev_stp pg_155_66 rfl
theorem pg_155_67 : mm_prog 155 67 = some (0, .goto 6, 70, []) := by decide +kernel
theorem xe_155_67 (a0 a1 a2 : Option MV) (st : List MV) (μ : MM) (G : MG) : ev 155 67 [a0, a1, a2] st μ G = ev 155 73 [a0, a1, a2] st μ G := ev_stp pg_155_67 rfl
theorem pg_155_70 : mm_prog 155 70 = some (0, .sipush 255, 73, []) := by decide +kernel
theorem xe_155_70 (a0 a1 a2 : Option MV) (st : List MV) (μ : MM) (G : MG) : ev 155 70 [a0, a1, a2] st μ G = ev 155 73 [a0, a1, a2] (vI (255) :: st) μ G := ev_stp pg_155_70 rfl
theorem pg_155_73 : mm_prog 155 73 = some (0, .if_icmp .eq 9, 76, []) := by decide +kernel
theorem xe_155_73 (a0 a1 a2 : Option MV) (x y : Int) (st : List MV) (μ : MM) (G : MG) : ev 155 73 [a0, a1, a2] (vI y :: vI x :: st) μ G = if x = y then ev 155 82 [a0, a1, a2] st μ G else ev 155 76 [a0, a1, a2] st μ G := ev_br (mm_cnd_eq x y) pg_155_73 rfl
theorem pg_155_76 : mm_prog 155 76 = some (0, .aload_n 0, 77, []) := by decide +kernel
theorem xe_155_76 (a1 a2 : Option MV) (x : Int) (st : List MV) (μ : MM) (G : MG) : ev 155 76 [some (vR x), a1, a2] st μ G = ev 155 77 [some (vR x), a1, a2] (vR x :: st) μ G := ev_stp pg_155_76 rfl
theorem pg_155_77 : mm_prog 155 77 = some (0, .iconst 2, 78, []) := by decide +kernel
theorem xe_155_77 (a0 a1 a2 : Option MV) (st : List MV) (μ : MM) (G : MG) : ev 155 77 [a0, a1, a2] st μ G = ev 155 78 [a0, a1, a2] (vI (2) :: st) μ G := ev_stp pg_155_77 rfl
theorem pg_155_78 : mm_prog 155 78 = some (0, .iload_n 2, 79, []) := by decide +kernel
theorem xe_155_78 (a0 a1 : Option MV) (x : Int) (st : List MV) (μ : MM) (G : MG) : ev 155 78 [a0, a1, some (vI x)] st μ G = ev 155 79 [a0, a1, some (vI x)] (vI x :: st) μ G := ev_stp pg_155_78 rfl
theorem pg_155_79 : mm_prog 155 79 = some (1, .invokevirtual 111, 82, [1, 153, 2, 11]) := by decide +kernel
theorem xe_155_79 (a0 a1 a2 : Option MV) (x0 x1 z : Int) (μ : MM) (G : MG) : ev 155 79 [a0, a1, a2] (vI x1 :: vI x0 :: vR z :: []) μ G = if gk G z = 11 ∧ 0 < z then (ev 153 0 [some (vR z), some (vI x0), some (vI x1)] [] μ G).bind (fun q => ev 155 82 [a0, a1, a2] (q.1.toList ++ []) q.2.1 q.2.2) else none := ev_calV (as := [vR z, vI x0, vI x1]) (r := []) mx_153 pg_155_79 rfl rfl (Nat.le_of_ble_eq_true rfl) (Nat.le_of_ble_eq_true rfl)
theorem pg_155_82 : mm_prog 155 82 = some (0, .iinc 2 1, 85, []) := by decide +kernel
theorem xe_155_82 (a0 a1 : Option MV) (x : Int) (st : List MV) (μ : MM) (G : MG) (h : mm_nL a1 = true) : ev 155 82 [a0, a1, some (vI x)] st μ G = ev 155 85 [a0, a1, some (vI (w32 (x + (1))))] st μ G := ev_st pg_155_82 rfl (mm_nl_of h) (Nat.le_of_ble_eq_true rfl)
theorem pg_155_85 : mm_prog 155 85 = some (0, .goto (-41), 88, []) := by decide +kernel
theorem xe_155_85 (a0 a1 a2 : Option MV) (st : List MV) (μ : MM) (G : MG) : ev 155 85 [a0, a1, a2] st μ G = ev 155 44 [a0, a1, a2] st μ G := ev_stp pg_155_85 rfl
theorem pg_155_88 : mm_prog 155 88 = some (0, .iconst 0, 89, []) := by decide +kernel
theorem xe_155_88 (a0 a1 a2 : Option MV) (st : List MV) (μ : MM) (G : MG) : ev 155 88 [a0, a1, a2] st μ G = ev 155 89 [a0, a1, a2] (vI (0) :: st) μ G := ev_stp pg_155_88 rfl
theorem pg_155_89 : mm_prog 155 89 = some (0, .istore_n 2, 90, []) := by decide +kernel
theorem xe_155_89 (a0 a1 a2 : Option MV) (x : Int) (st : List MV) (μ : MM) (G : MG) (h : mm_nL a1 = true) : ev 155 89 [a0, a1, a2] (vI x :: st) μ G = ev 155 90 [a0, a1, some (vI x)] st μ G := ev_st pg_155_89 rfl (mm_nl_of h) (Nat.le_of_ble_eq_true rfl)
theorem pg_155_90 : mm_prog 155 90 = some (0, .iload_n 2, 91, []) := by decide +kernel
theorem xe_155_90 (a0 a1 : Option MV) (x : Int) (st : List MV) (μ : MM) (G : MG) : ev 155 90 [a0, a1, some (vI x)] st μ G = ev 155 91 [a0, a1, some (vI x)] (vI x :: st) μ G := ev_stp pg_155_90 rfl
theorem pg_155_91 : mm_prog 155 91 = some (0, .iload_n 1, 92, []) := by decide +kernel
theorem xe_155_91 (a0 a2 : Option MV) (x : Int) (st : List MV) (μ : MM) (G : MG) : ev 155 91 [a0, some (vI x), a2] st μ G = ev 155 92 [a0, some (vI x), a2] (vI x :: st) μ G := ev_stp pg_155_91 rfl
theorem pg_155_92 : mm_prog 155 92 = some (0, .if_icmp .ge 62, 95, []) := by decide +kernel
theorem xe_155_92 (a0 a1 a2 : Option MV) (x y : Int) (st : List MV) (μ : MM) (G : MG) : ev 155 92 [a0, a1, a2] (vI y :: vI x :: st) μ G = if y ≤ x then ev 155 154 [a0, a1, a2] st μ G else ev 155 95 [a0, a1, a2] st μ G := ev_br (mm_cnd_ge x y) pg_155_92 rfl
theorem pg_155_95 : mm_prog 155 95 = some (0, .iload_n 2, 96, []) := by decide +kernel
theorem xe_155_95 (a0 a1 : Option MV) (x : Int) (st : List MV) (μ : MM) (G : MG) : ev 155 95 [a0, a1, some (vI x)] st μ G = ev 155 96 [a0, a1, some (vI x)] (vI x :: st) μ G := ev_stp pg_155_95 rfl
theorem pg_155_96 : mm_prog 155 96 = some (0, .ifCond .le 27, 99, []) := by decide +kernel
theorem xe_155_96 (a0 a1 a2 : Option MV) (x : Int) (st : List MV) (μ : MM) (G : MG) : ev 155 96 [a0, a1, a2] (vI x :: st) μ G = if x ≤ 0 then ev 155 123 [a0, a1, a2] st μ G else ev 155 99 [a0, a1, a2] st μ G := ev_br (mm_cnd_le x 0) pg_155_96 rfl
theorem pg_155_99 : mm_prog 155 99 = some (0, .aload_n 0, 100, []) := by decide +kernel
theorem xe_155_99 (a1 a2 : Option MV) (x : Int) (st : List MV) (μ : MM) (G : MG) : ev 155 99 [some (vR x), a1, a2] st μ G = ev 155 100 [some (vR x), a1, a2] (vR x :: st) μ G := ev_stp pg_155_99 rfl
theorem pg_155_100 : mm_prog 155 100 = some (0, .getfield 17, 103, [11, 2, 2]) := by decide +kernel
theorem xe_155_100 (a0 a1 a2 : Option MV) (x : Int) (st : List MV) (μ : MM) (G : MG) : ev 155 100 [a0, a1, a2] (vR x :: st) μ G = if gk G x = 11 then ev 155 103 [a0, a1, a2] (vR (μ x 2) :: st) μ G else none := ev_if pg_155_100 rfl
theorem pg_155_103 : mm_prog 155 103 = some (0, .sipush 128, 106, []) := by decide +kernel
theorem xe_155_103 (a0 a1 a2 : Option MV) (st : List MV) (μ : MM) (G : MG) : ev 155 103 [a0, a1, a2] st μ G = ev 155 106 [a0, a1, a2] (vI (128) :: st) μ G := ev_stp pg_155_103 rfl
theorem pg_155_106 : mm_prog 155 106 = some (0, .iload_n 2, 107, []) := by decide +kernel
theorem xe_155_106 (a0 a1 : Option MV) (x : Int) (st : List MV) (μ : MM) (G : MG) : ev 155 106 [a0, a1, some (vI x)] st μ G = ev 155 107 [a0, a1, some (vI x)] (vI x :: st) μ G := ev_stp pg_155_106 rfl
theorem pg_155_107 : mm_prog 155 107 = some (0, .imul, 108, []) := by decide +kernel
theorem xe_155_107 (a0 a1 a2 : Option MV) (x y : Int) (st : List MV) (μ : MM) (G : MG) : ev 155 107 [a0, a1, a2] (vI y :: vI x :: st) μ G = ev 155 108 [a0, a1, a2] (vI (w32 (x * y)) :: st) μ G := ev_stp pg_155_107 rfl
theorem pg_155_108 : mm_prog 155 108 = some (0, .iaload, 109, []) := by decide +kernel
theorem xe_155_108 (a0 a1 a2 : Option MV) (x y : Int) (st : List MV) (μ : MM) (G : MG) : ev 155 108 [a0, a1, a2] (vI x :: vR y :: st) μ G = if gk G y = 100 ∧ 0 ≤ x ∧ x < gl G y then ev 155 109 [a0, a1, a2] (vI (μ y x) :: st) μ G else none := ev_if pg_155_108 rfl
theorem pg_155_109 : mm_prog 155 109 = some (0, .iconst 2, 110, []) := by decide +kernel
theorem xe_155_109 (a0 a1 a2 : Option MV) (st : List MV) (μ : MM) (G : MG) : ev 155 109 [a0, a1, a2] st μ G = ev 155 110 [a0, a1, a2] (vI (2) :: st) μ G := ev_stp pg_155_109 rfl
theorem pg_155_110 : mm_prog 155 110 = some (0, .if_icmp .eq 13, 113, []) := by decide +kernel
theorem xe_155_110 (a0 a1 a2 : Option MV) (x y : Int) (st : List MV) (μ : MM) (G : MG) : ev 155 110 [a0, a1, a2] (vI y :: vI x :: st) μ G = if x = y then ev 155 123 [a0, a1, a2] st μ G else ev 155 113 [a0, a1, a2] st μ G := ev_br (mm_cnd_eq x y) pg_155_110 rfl
theorem pg_155_113 : mm_prog 155 113 = some (0, .aload_n 0, 114, []) := by decide +kernel
theorem xe_155_113 (a1 a2 : Option MV) (x : Int) (st : List MV) (μ : MM) (G : MG) : ev 155 113 [some (vR x), a1, a2] st μ G = ev 155 114 [some (vR x), a1, a2] (vR x :: st) μ G := ev_stp pg_155_113 rfl
theorem pg_155_114 : mm_prog 155 114 = some (0, .iconst 2, 115, []) := by decide +kernel
theorem xe_155_114 (a0 a1 a2 : Option MV) (st : List MV) (μ : MM) (G : MG) : ev 155 114 [a0, a1, a2] st μ G = ev 155 115 [a0, a1, a2] (vI (2) :: st) μ G := ev_stp pg_155_114 rfl
theorem pg_155_115 : mm_prog 155 115 = some (0, .sipush 128, 118, []) := by decide +kernel
theorem xe_155_115 (a0 a1 a2 : Option MV) (st : List MV) (μ : MM) (G : MG) : ev 155 115 [a0, a1, a2] st μ G = ev 155 118 [a0, a1, a2] (vI (128) :: st) μ G := ev_stp pg_155_115 rfl
theorem pg_155_118 : mm_prog 155 118 = some (0, .iload_n 2, 119, []) := by decide +kernel
theorem xe_155_118 (a0 a1 : Option MV) (x : Int) (st : List MV) (μ : MM) (G : MG) : ev 155 118 [a0, a1, some (vI x)] st μ G = ev 155 119 [a0, a1, some (vI x)] (vI x :: st) μ G := ev_stp pg_155_118 rfl
theorem pg_155_119 : mm_prog 155 119 = some (0, .imul, 120, []) := by decide +kernel
theorem xe_155_119 (a0 a1 a2 : Option MV) (x y : Int) (st : List MV) (μ : MM) (G : MG) : ev 155 119 [a0, a1, a2] (vI y :: vI x :: st) μ G = ev 155 120 [a0, a1, a2] (vI (w32 (x * y)) :: st) μ G := ev_stp pg_155_119 rfl
theorem pg_155_120 : mm_prog 155 120 = some (1, .invokevirtual 111, 123, [1, 153, 2, 11]) := by decide +kernel
theorem xe_155_120 (a0 a1 a2 : Option MV) (x0 x1 z : Int) (μ : MM) (G : MG) : ev 155 120 [a0, a1, a2] (vI x1 :: vI x0 :: vR z :: []) μ G = if gk G z = 11 ∧ 0 < z then (ev 153 0 [some (vR z), some (vI x0), some (vI x1)] [] μ G).bind (fun q => ev 155 123 [a0, a1, a2] (q.1.toList ++ []) q.2.1 q.2.2) else none := ev_calV (as := [vR z, vI x0, vI x1]) (r := []) mx_153 pg_155_120 rfl rfl (Nat.le_of_ble_eq_true rfl) (Nat.le_of_ble_eq_true rfl)
theorem pg_155_123 : mm_prog 155 123 = some (0, .aload_n 0, 124, []) := by decide +kernel
theorem xe_155_123 (a1 a2 : Option MV) (x : Int) (st : List MV) (μ : MM) (G : MG) : ev 155 123 [some (vR x), a1, a2] st μ G = ev 155 124 [some (vR x), a1, a2] (vR x :: st) μ G := ev_stp pg_155_123 rfl
theorem pg_155_124 : mm_prog 155 124 = some (0, .iload_n 2, 125, []) := by decide +kernel
theorem xe_155_124 (a0 a1 : Option MV) (x : Int) (st : List MV) (μ : MM) (G : MG) : ev 155 124 [a0, a1, some (vI x)] st μ G = ev 155 125 [a0, a1, some (vI x)] (vI x :: st) μ G := ev_stp pg_155_124 rfl
theorem pg_155_125 : mm_prog 155 125 = some (1, .invokevirtual 115, 128, [1, 154, 1, 11]) := by decide +kernel
theorem xe_155_125 (a0 a1 a2 : Option MV) (x0 z : Int) (μ : MM) (G : MG) : ev 155 125 [a0, a1, a2] (vI x0 :: vR z :: []) μ G = if gk G z = 11 ∧ 0 < z then (ev 154 0 [some (vR z), some (vI x0), none, none] [] μ G).bind (fun q => ev 155 128 [a0, a1, a2] (q.1.toList ++ []) q.2.1 q.2.2) else none := ev_calV (as := [vR z, vI x0]) (r := []) mx_154 pg_155_125 rfl rfl (Nat.le_of_ble_eq_true rfl) (Nat.le_of_ble_eq_true rfl)
theorem pg_155_128 : mm_prog 155 128 = some (0, .sipush 256, 131, []) := by decide +kernel
theorem xe_155_128 (a0 a1 a2 : Option MV) (st : List MV) (μ : MM) (G : MG) : ev 155 128 [a0, a1, a2] st μ G = ev 155 131 [a0, a1, a2] (vI (256) :: st) μ G := ev_stp pg_155_128 rfl
theorem pg_155_131 : mm_prog 155 131 = some (0, .irem, 132, []) := by decide +kernel
theorem xe_155_131 (a0 a1 a2 : Option MV) (x y : Int) (st : List MV) (μ : MM) (G : MG) : ev 155 131 [a0, a1, a2] (vI y :: vI x :: st) μ G = if y = 0 then none else ev 155 132 [a0, a1, a2] (vI (mm_rem x y) :: st) μ G := ev_no pg_155_131 rfl
theorem pg_155_132 : mm_prog 155 132 = some (0, .ifCond .eq 16, 135, []) := by decide +kernel
theorem xe_155_132 (a0 a1 a2 : Option MV) (x : Int) (st : List MV) (μ : MM) (G : MG) : ev 155 132 [a0, a1, a2] (vI x :: st) μ G = if x = 0 then ev 155 148 [a0, a1, a2] st μ G else ev 155 135 [a0, a1, a2] st μ G := ev_br (mm_cnd_eq x 0) pg_155_132 rfl
theorem pg_155_135 : mm_prog 155 135 = some (0, .aload_n 0, 136, []) := by decide +kernel
theorem xe_155_135 (a1 a2 : Option MV) (x : Int) (st : List MV) (μ : MM) (G : MG) : ev 155 135 [some (vR x), a1, a2] st μ G = ev 155 136 [some (vR x), a1, a2] (vR x :: st) μ G := ev_stp pg_155_135 rfl
theorem pg_155_136 : mm_prog 155 136 = some (0, .iconst 3, 137, []) := by decide +kernel
theorem xe_155_136 (a0 a1 a2 : Option MV) (st : List MV) (μ : MM) (G : MG) : ev 155 136 [a0, a1, a2] st μ G = ev 155 137 [a0, a1, a2] (vI (3) :: st) μ G := ev_stp pg_155_136 rfl
theorem pg_155_137 : mm_prog 155 137 = some (0, .sipush 128, 140, []) := by decide +kernel
theorem xe_155_137 (a0 a1 a2 : Option MV) (st : List MV) (μ : MM) (G : MG) : ev 155 137 [a0, a1, a2] st μ G = ev 155 140 [a0, a1, a2] (vI (128) :: st) μ G := ev_stp pg_155_137 rfl
theorem pg_155_140 : mm_prog 155 140 = some (0, .iload_n 2, 141, []) := by decide +kernel
theorem xe_155_140 (a0 a1 : Option MV) (x : Int) (st : List MV) (μ : MM) (G : MG) : ev 155 140 [a0, a1, some (vI x)] st μ G = ev 155 141 [a0, a1, some (vI x)] (vI x :: st) μ G := ev_stp pg_155_140 rfl
theorem pg_155_141 : mm_prog 155 141 = some (0, .imul, 142, []) := by decide +kernel
theorem xe_155_141 (a0 a1 a2 : Option MV) (x y : Int) (st : List MV) (μ : MM) (G : MG) : ev 155 141 [a0, a1, a2] (vI y :: vI x :: st) μ G = ev 155 142 [a0, a1, a2] (vI (w32 (x * y)) :: st) μ G := ev_stp pg_155_141 rfl
theorem pg_155_142 : mm_prog 155 142 = some (0, .bipush 127, 144, []) := by decide +kernel
theorem xe_155_142 (a0 a1 a2 : Option MV) (st : List MV) (μ : MM) (G : MG) : ev 155 142 [a0, a1, a2] st μ G = ev 155 144 [a0, a1, a2] (vI (127) :: st) μ G := ev_stp pg_155_142 rfl
theorem pg_155_144 : mm_prog 155 144 = some (0, .iadd, 145, []) := by decide +kernel
theorem xe_155_144 (a0 a1 a2 : Option MV) (x y : Int) (st : List MV) (μ : MM) (G : MG) : ev 155 144 [a0, a1, a2] (vI y :: vI x :: st) μ G = ev 155 145 [a0, a1, a2] (vI (w32 (x + y)) :: st) μ G := ev_stp pg_155_144 rfl
theorem pg_155_145 : mm_prog 155 145 = some (1, .invokevirtual 111, 148, [1, 153, 2, 11]) := by decide +kernel
theorem xe_155_145 (a0 a1 a2 : Option MV) (x0 x1 z : Int) (μ : MM) (G : MG) : ev 155 145 [a0, a1, a2] (vI x1 :: vI x0 :: vR z :: []) μ G = if gk G z = 11 ∧ 0 < z then (ev 153 0 [some (vR z), some (vI x0), some (vI x1)] [] μ G).bind (fun q => ev 155 148 [a0, a1, a2] (q.1.toList ++ []) q.2.1 q.2.2) else none := ev_calV (as := [vR z, vI x0, vI x1]) (r := []) mx_153 pg_155_145 rfl rfl (Nat.le_of_ble_eq_true rfl) (Nat.le_of_ble_eq_true rfl)
theorem pg_155_148 : mm_prog 155 148 = some (0, .iinc 2 1, 151, []) := by decide +kernel
theorem xe_155_148 (a0 a1 : Option MV) (x : Int) (st : List MV) (μ : MM) (G : MG) (h : mm_nL a1 = true) : ev 155 148 [a0, a1, some (vI x)] st μ G = ev 155 151 [a0, a1, some (vI (w32 (x + (1))))] st μ G := ev_st pg_155_148 rfl (mm_nl_of h) (Nat.le_of_ble_eq_true rfl)
theorem pg_155_151 : mm_prog 155 151 = some (0, .goto (-61), 154, []) := by decide +kernel
theorem xe_155_151 (a0 a1 a2 : Option MV) (st : List MV) (μ : MM) (G : MG) : ev 155 151 [a0, a1, a2] st μ G = ev 155 90 [a0, a1, a2] st μ G := ev_stp pg_155_151 rfl
theorem pg_155_154 : mm_prog 155 154 = some (0, .aload_n 0, 155, []) := by decide +kernel
theorem xe_155_154 (a1 a2 : Option MV) (x : Int) (st : List MV) (μ : MM) (G : MG) : ev 155 154 [some (vR x), a1, a2] st μ G = ev 155 155 [some (vR x), a1, a2] (vR x :: st) μ G := ev_stp pg_155_154 rfl
theorem pg_155_155 : mm_prog 155 155 = some (0, .getfield 17, 158, [11, 2, 2]) := by decide +kernel
theorem xe_155_155 (a0 a1 a2 : Option MV) (x : Int) (st : List MV) (μ : MM) (G : MG) : ev 155 155 [a0, a1, a2] (vR x :: st) μ G = if gk G x = 11 then ev 155 158 [a0, a1, a2] (vR (μ x 2) :: st) μ G else none := ev_if pg_155_155 rfl
theorem pg_155_158 : mm_prog 155 158 = some (0, .bipush 18, 160, []) := by decide +kernel
theorem xe_155_158 (a0 a1 a2 : Option MV) (st : List MV) (μ : MM) (G : MG) : ev 155 158 [a0, a1, a2] st μ G = ev 155 160 [a0, a1, a2] (vI (18) :: st) μ G := ev_stp pg_155_158 rfl
theorem pg_155_160 : mm_prog 155 160 = some (0, .iaload, 161, []) := by decide +kernel
theorem xe_155_160 (a0 a1 a2 : Option MV) (x y : Int) (st : List MV) (μ : MM) (G : MG) : ev 155 160 [a0, a1, a2] (vI x :: vR y :: st) μ G = if gk G y = 100 ∧ 0 ≤ x ∧ x < gl G y then ev 155 161 [a0, a1, a2] (vI (μ y x) :: st) μ G else none := ev_if pg_155_160 rfl
theorem pg_155_161 : mm_prog 155 161 = some (0, .iconst 1, 162, []) := by decide +kernel
theorem xe_155_161 (a0 a1 a2 : Option MV) (st : List MV) (μ : MM) (G : MG) : ev 155 161 [a0, a1, a2] st μ G = ev 155 162 [a0, a1, a2] (vI (1) :: st) μ G := ev_stp pg_155_161 rfl
theorem pg_155_162 : mm_prog 155 162 = some (0, .if_icmp .eq 10, 165, []) := by decide +kernel
theorem xe_155_162 (a0 a1 a2 : Option MV) (x y : Int) (st : List MV) (μ : MM) (G : MG) : ev 155 162 [a0, a1, a2] (vI y :: vI x :: st) μ G = if x = y then ev 155 172 [a0, a1, a2] st μ G else ev 155 165 [a0, a1, a2] st μ G := ev_br (mm_cnd_eq x y) pg_155_162 rfl
theorem pg_155_165 : mm_prog 155 165 = some (0, .aload_n 0, 166, []) := by decide +kernel
theorem xe_155_165 (a1 a2 : Option MV) (x : Int) (st : List MV) (μ : MM) (G : MG) : ev 155 165 [some (vR x), a1, a2] st μ G = ev 155 166 [some (vR x), a1, a2] (vR x :: st) μ G := ev_stp pg_155_165 rfl
theorem pg_155_166 : mm_prog 155 166 = some (0, .iconst 4, 167, []) := by decide +kernel
theorem xe_155_166 (a0 a1 a2 : Option MV) (st : List MV) (μ : MM) (G : MG) : ev 155 166 [a0, a1, a2] st μ G = ev 155 167 [a0, a1, a2] (vI (4) :: st) μ G := ev_stp pg_155_166 rfl
theorem pg_155_167 : mm_prog 155 167 = some (0, .bipush 18, 169, []) := by decide +kernel
theorem xe_155_167 (a0 a1 a2 : Option MV) (st : List MV) (μ : MM) (G : MG) : ev 155 167 [a0, a1, a2] st μ G = ev 155 169 [a0, a1, a2] (vI (18) :: st) μ G := ev_stp pg_155_167 rfl
theorem pg_155_169 : mm_prog 155 169 = some (1, .invokevirtual 111, 172, [1, 153, 2, 11]) := by decide +kernel
theorem xe_155_169 (a0 a1 a2 : Option MV) (x0 x1 z : Int) (μ : MM) (G : MG) : ev 155 169 [a0, a1, a2] (vI x1 :: vI x0 :: vR z :: []) μ G = if gk G z = 11 ∧ 0 < z then (ev 153 0 [some (vR z), some (vI x0), some (vI x1)] [] μ G).bind (fun q => ev 155 172 [a0, a1, a2] (q.1.toList ++ []) q.2.1 q.2.2) else none := ev_calV (as := [vR z, vI x0, vI x1]) (r := []) mx_153 pg_155_169 rfl rfl (Nat.le_of_ble_eq_true rfl) (Nat.le_of_ble_eq_true rfl)
theorem pg_155_172 : mm_prog 155 172 = some (0, .aload_n 0, 173, []) := by decide +kernel
theorem xe_155_172 (a1 a2 : Option MV) (x : Int) (st : List MV) (μ : MM) (G : MG) : ev 155 172 [some (vR x), a1, a2] st μ G = ev 155 173 [some (vR x), a1, a2] (vR x :: st) μ G := ev_stp pg_155_172 rfl
theorem pg_155_173 : mm_prog 155 173 = some (0, .getfield 17, 176, [11, 2, 2]) := by decide +kernel
theorem xe_155_173 (a0 a1 a2 : Option MV) (x : Int) (st : List MV) (μ : MM) (G : MG) : ev 155 173 [a0, a1, a2] (vR x :: st) μ G = if gk G x = 11 then ev 155 176 [a0, a1, a2] (vR (μ x 2) :: st) μ G else none := ev_if pg_155_173 rfl
theorem pg_155_176 : mm_prog 155 176 = some (0, .bipush 126, 178, []) := by decide +kernel
theorem xe_155_176 (a0 a1 a2 : Option MV) (st : List MV) (μ : MM) (G : MG) : ev 155 176 [a0, a1, a2] st μ G = ev 155 178 [a0, a1, a2] (vI (126) :: st) μ G := ev_stp pg_155_176 rfl
theorem pg_155_178 : mm_prog 155 178 = some (0, .iaload, 179, []) := by decide +kernel
theorem xe_155_178 (a0 a1 a2 : Option MV) (x y : Int) (st : List MV) (μ : MM) (G : MG) : ev 155 178 [a0, a1, a2] (vI x :: vR y :: st) μ G = if gk G y = 100 ∧ 0 ≤ x ∧ x < gl G y then ev 155 179 [a0, a1, a2] (vI (μ y x) :: st) μ G else none := ev_if pg_155_178 rfl
theorem pg_155_179 : mm_prog 155 179 = some (0, .iload_n 1, 180, []) := by decide +kernel
theorem xe_155_179 (a0 a2 : Option MV) (x : Int) (st : List MV) (μ : MM) (G : MG) : ev 155 179 [a0, some (vI x), a2] st μ G = ev 155 180 [a0, some (vI x), a2] (vI x :: st) μ G := ev_stp pg_155_179 rfl
theorem pg_155_180 : mm_prog 155 180 = some (0, .iconst 1, 181, []) := by decide +kernel
theorem xe_155_180 (a0 a1 a2 : Option MV) (st : List MV) (μ : MM) (G : MG) : ev 155 180 [a0, a1, a2] st μ G = ev 155 181 [a0, a1, a2] (vI (1) :: st) μ G := ev_stp pg_155_180 rfl
theorem pg_155_181 : mm_prog 155 181 = some (0, .isub, 182, []) := by decide +kernel
theorem xe_155_181 (a0 a1 a2 : Option MV) (x y : Int) (st : List MV) (μ : MM) (G : MG) : ev 155 181 [a0, a1, a2] (vI y :: vI x :: st) μ G = ev 155 182 [a0, a1, a2] (vI (w32 (x - y)) :: st) μ G := ev_stp pg_155_181 rfl
theorem pg_155_182 : mm_prog 155 182 = some (0, .if_icmp .eq 10, 185, []) := by decide +kernel
theorem xe_155_182 (a0 a1 a2 : Option MV) (x y : Int) (st : List MV) (μ : MM) (G : MG) : ev 155 182 [a0, a1, a2] (vI y :: vI x :: st) μ G = if x = y then ev 155 192 [a0, a1, a2] st μ G else ev 155 185 [a0, a1, a2] st μ G := ev_br (mm_cnd_eq x y) pg_155_182 rfl
theorem pg_155_185 : mm_prog 155 185 = some (0, .aload_n 0, 186, []) := by decide +kernel
theorem xe_155_185 (a1 a2 : Option MV) (x : Int) (st : List MV) (μ : MM) (G : MG) : ev 155 185 [some (vR x), a1, a2] st μ G = ev 155 186 [some (vR x), a1, a2] (vR x :: st) μ G := ev_stp pg_155_185 rfl
theorem pg_155_186 : mm_prog 155 186 = some (0, .iconst 5, 187, []) := by decide +kernel
theorem xe_155_186 (a0 a1 a2 : Option MV) (st : List MV) (μ : MM) (G : MG) : ev 155 186 [a0, a1, a2] st μ G = ev 155 187 [a0, a1, a2] (vI (5) :: st) μ G := ev_stp pg_155_186 rfl
theorem pg_155_187 : mm_prog 155 187 = some (0, .bipush 126, 189, []) := by decide +kernel
theorem xe_155_187 (a0 a1 a2 : Option MV) (st : List MV) (μ : MM) (G : MG) : ev 155 187 [a0, a1, a2] st μ G = ev 155 189 [a0, a1, a2] (vI (126) :: st) μ G := ev_stp pg_155_187 rfl
theorem pg_155_189 : mm_prog 155 189 = some (1, .invokevirtual 111, 192, [1, 153, 2, 11]) := by decide +kernel
theorem xe_155_189 (a0 a1 a2 : Option MV) (x0 x1 z : Int) (μ : MM) (G : MG) : ev 155 189 [a0, a1, a2] (vI x1 :: vI x0 :: vR z :: []) μ G = if gk G z = 11 ∧ 0 < z then (ev 153 0 [some (vR z), some (vI x0), some (vI x1)] [] μ G).bind (fun q => ev 155 192 [a0, a1, a2] (q.1.toList ++ []) q.2.1 q.2.2) else none := ev_calV (as := [vR z, vI x0, vI x1]) (r := []) mx_153 pg_155_189 rfl rfl (Nat.le_of_ble_eq_true rfl) (Nat.le_of_ble_eq_true rfl)
theorem pg_155_192 : mm_prog 155 192 = some (0, .iconst 1, 193, []) := by decide +kernel
theorem xe_155_192 (a0 a1 a2 : Option MV) (st : List MV) (μ : MM) (G : MG) : ev 155 192 [a0, a1, a2] st μ G = ev 155 193 [a0, a1, a2] (vI (1) :: st) μ G := ev_stp pg_155_192 rfl
theorem pg_155_193 : mm_prog 155 193 = some (0, .istore_n 2, 194, []) := by decide +kernel
theorem xe_155_193 (a0 a1 a2 : Option MV) (x : Int) (st : List MV) (μ : MM) (G : MG) (h : mm_nL a1 = true) : ev 155 193 [a0, a1, a2] (vI x :: st) μ G = ev 155 194 [a0, a1, some (vI x)] st μ G := ev_st pg_155_193 rfl (mm_nl_of h) (Nat.le_of_ble_eq_true rfl)
theorem pg_155_194 : mm_prog 155 194 = some (0, .iload_n 2, 195, []) := by decide +kernel
theorem xe_155_194 (a0 a1 : Option MV) (x : Int) (st : List MV) (μ : MM) (G : MG) : ev 155 194 [a0, a1, some (vI x)] st μ G = ev 155 195 [a0, a1, some (vI x)] (vI x :: st) μ G := ev_stp pg_155_194 rfl
theorem pg_155_195 : mm_prog 155 195 = some (0, .iload_n 1, 196, []) := by decide +kernel
theorem xe_155_195 (a0 a2 : Option MV) (x : Int) (st : List MV) (μ : MM) (G : MG) : ev 155 195 [a0, some (vI x), a2] st μ G = ev 155 196 [a0, some (vI x), a2] (vI x :: st) μ G := ev_stp pg_155_195 rfl
theorem pg_155_196 : mm_prog 155 196 = some (0, .if_icmp .ge 18, 199, []) := by decide +kernel
theorem xe_155_196 (a0 a1 a2 : Option MV) (x y : Int) (st : List MV) (μ : MM) (G : MG) : ev 155 196 [a0, a1, a2] (vI y :: vI x :: st) μ G = if y ≤ x then ev 155 214 [a0, a1, a2] st μ G else ev 155 199 [a0, a1, a2] st μ G := ev_br (mm_cnd_ge x y) pg_155_196 rfl
theorem pg_155_199 : mm_prog 155 199 = some (0, .aload_n 0, 200, []) := by decide +kernel
theorem xe_155_199 (a1 a2 : Option MV) (x : Int) (st : List MV) (μ : MM) (G : MG) : ev 155 199 [some (vR x), a1, a2] st μ G = ev 155 200 [some (vR x), a1, a2] (vR x :: st) μ G := ev_stp pg_155_199 rfl
theorem pg_155_200 : mm_prog 155 200 = some (0, .sipush 128, 203, []) := by decide +kernel
theorem xe_155_200 (a0 a1 a2 : Option MV) (st : List MV) (μ : MM) (G : MG) : ev 155 200 [a0, a1, a2] st μ G = ev 155 203 [a0, a1, a2] (vI (128) :: st) μ G := ev_stp pg_155_200 rfl
theorem pg_155_203 : mm_prog 155 203 = some (0, .iload_n 2, 204, []) := by decide +kernel
theorem xe_155_203 (a0 a1 : Option MV) (x : Int) (st : List MV) (μ : MM) (G : MG) : ev 155 203 [a0, a1, some (vI x)] st μ G = ev 155 204 [a0, a1, some (vI x)] (vI x :: st) μ G := ev_stp pg_155_203 rfl
theorem pg_155_204 : mm_prog 155 204 = some (0, .imul, 205, []) := by decide +kernel
theorem xe_155_204 (a0 a1 a2 : Option MV) (x y : Int) (st : List MV) (μ : MM) (G : MG) : ev 155 204 [a0, a1, a2] (vI y :: vI x :: st) μ G = ev 155 205 [a0, a1, a2] (vI (w32 (x * y)) :: st) μ G := ev_stp pg_155_204 rfl
theorem pg_155_205 : mm_prog 155 205 = some (1, .invokevirtual 119, 208, [1, 156, 1, 11]) := by decide +kernel
theorem xe_155_205 (a0 a1 a2 : Option MV) (x0 z : Int) (μ : MM) (G : MG) : ev 155 205 [a0, a1, a2] (vI x0 :: vR z :: []) μ G = if gk G z = 11 ∧ 0 < z then (ev 156 0 [some (vR z), some (vI x0), none, none, none] [] μ G).bind (fun q => ev 155 208 [a0, a1, a2] (q.1.toList ++ []) q.2.1 q.2.2) else none := ev_calV (as := [vR z, vI x0]) (r := []) mx_156 pg_155_205 rfl rfl (Nat.le_of_ble_eq_true rfl) (Nat.le_of_ble_eq_true rfl)
theorem pg_155_208 : mm_prog 155 208 = some (0, .iinc 2 1, 211, []) := by decide +kernel
theorem xe_155_208 (a0 a1 : Option MV) (x : Int) (st : List MV) (μ : MM) (G : MG) (h : mm_nL a1 = true) : ev 155 208 [a0, a1, some (vI x)] st μ G = ev 155 211 [a0, a1, some (vI (w32 (x + (1))))] st μ G := ev_st pg_155_208 rfl (mm_nl_of h) (Nat.le_of_ble_eq_true rfl)
theorem pg_155_211 : mm_prog 155 211 = some (0, .goto (-17), 214, []) := by decide +kernel
theorem xe_155_211 (a0 a1 a2 : Option MV) (st : List MV) (μ : MM) (G : MG) : ev 155 211 [a0, a1, a2] st μ G = ev 155 194 [a0, a1, a2] st μ G := ev_stp pg_155_211 rfl
theorem pg_155_214 : mm_prog 155 214 = some (2, .return_, 215, []) := by decide +kernel
theorem xe_155_214 (a0 a1 a2 : Option MV) (μ : MM) (G : MG) : ev 155 214 [a0, a1, a2] [] μ G = some (none, μ, G) := ev_ret pg_155_214 rfl
-- X11_checksExtension
theorem pg_156_0 : mm_prog 156 0 = some (0, .aload_n 0, 1, []) := by decide +kernel
theorem xe_156_0 (a1 a2 a3 a4 : Option MV) (x : Int) (st : List MV) (μ : MM) (G : MG) : ev 156 0 [some (vR x), a1, a2, a3, a4] st μ G = ev 156 1 [some (vR x), a1, a2, a3, a4] (vR x :: st) μ G := ev_stp pg_156_0 rfl
theorem pg_156_1 : mm_prog 156 1 = some (0, .getfield 17, 4, [11, 2, 2]) := by decide +kernel
theorem xe_156_1 (a0 a1 a2 a3 a4 : Option MV) (x : Int) (st : List MV) (μ : MM) (G : MG) : ev 156 1 [a0, a1, a2, a3, a4] (vR x :: st) μ G = if gk G x = 11 then ev 156 4 [a0, a1, a2, a3, a4] (vR (μ x 2) :: st) μ G else none := ev_if pg_156_1 rfl
theorem pg_156_4 : mm_prog 156 4 = some (0, .iload_n 1, 5, []) := by decide +kernel
theorem xe_156_4 (a0 a2 a3 a4 : Option MV) (x : Int) (st : List MV) (μ : MM) (G : MG) : ev 156 4 [a0, some (vI x), a2, a3, a4] st μ G = ev 156 5 [a0, some (vI x), a2, a3, a4] (vI x :: st) μ G := ev_stp pg_156_4 rfl
theorem pg_156_5 : mm_prog 156 5 = some (0, .iconst 2, 6, []) := by decide +kernel
theorem xe_156_5 (a0 a1 a2 a3 a4 : Option MV) (st : List MV) (μ : MM) (G : MG) : ev 156 5 [a0, a1, a2, a3, a4] st μ G = ev 156 6 [a0, a1, a2, a3, a4] (vI (2) :: st) μ G := ev_stp pg_156_5 rfl
theorem pg_156_6 : mm_prog 156 6 = some (0, .iadd, 7, []) := by decide +kernel
theorem xe_156_6 (a0 a1 a2 a3 a4 : Option MV) (x y : Int) (st : List MV) (μ : MM) (G : MG) : ev 156 6 [a0, a1, a2, a3, a4] (vI y :: vI x :: st) μ G = ev 156 7 [a0, a1, a2, a3, a4] (vI (w32 (x + y)) :: st) μ G := ev_stp pg_156_6 rfl
theorem pg_156_7 : mm_prog 156 7 = some (0, .iaload, 8, []) := by decide +kernel
theorem xe_156_7 (a0 a1 a2 a3 a4 : Option MV) (x y : Int) (st : List MV) (μ : MM) (G : MG) : ev 156 7 [a0, a1, a2, a3, a4] (vI x :: vR y :: st) μ G = if gk G y = 100 ∧ 0 ≤ x ∧ x < gl G y then ev 156 8 [a0, a1, a2, a3, a4] (vI (μ y x) :: st) μ G else none := ev_if pg_156_7 rfl
theorem pg_156_8 : mm_prog 156 8 = some (0, .istore_n 2, 9, []) := by decide +kernel
theorem xe_156_8 (a0 a1 a2 a3 a4 : Option MV) (x : Int) (st : List MV) (μ : MM) (G : MG) (h : mm_nL a1 = true) : ev 156 8 [a0, a1, a2, a3, a4] (vI x :: st) μ G = ev 156 9 [a0, a1, some (vI x), a3, a4] st μ G := ev_st pg_156_8 rfl (mm_nl_of h) (Nat.le_of_ble_eq_true rfl)
theorem pg_156_9 : mm_prog 156 9 = some (0, .iload_n 2, 10, []) := by decide +kernel
theorem xe_156_9 (a0 a1 a3 a4 : Option MV) (x : Int) (st : List MV) (μ : MM) (G : MG) : ev 156 9 [a0, a1, some (vI x), a3, a4] st μ G = ev 156 10 [a0, a1, some (vI x), a3, a4] (vI x :: st) μ G := ev_stp pg_156_9 rfl
theorem pg_156_10 : mm_prog 156 10 = some (0, .ifCond .eq 26, 13, []) := by decide +kernel
theorem xe_156_10 (a0 a1 a2 a3 a4 : Option MV) (x : Int) (st : List MV) (μ : MM) (G : MG) : ev 156 10 [a0, a1, a2, a3, a4] (vI x :: st) μ G = if x = 0 then ev 156 36 [a0, a1, a2, a3, a4] st μ G else ev 156 13 [a0, a1, a2, a3, a4] st μ G := ev_br (mm_cnd_eq x 0) pg_156_10 rfl
theorem pg_156_13 : mm_prog 156 13 = some (0, .iload_n 2, 14, []) := by decide +kernel
theorem xe_156_13 (a0 a1 a3 a4 : Option MV) (x : Int) (st : List MV) (μ : MM) (G : MG) : ev 156 13 [a0, a1, some (vI x), a3, a4] st μ G = ev 156 14 [a0, a1, some (vI x), a3, a4] (vI x :: st) μ G := ev_stp pg_156_13 rfl
theorem pg_156_14 : mm_prog 156 14 = some (0, .i2l, 15, []) := by decide +kernel
theorem xe_156_14 (a0 a1 a2 a3 a4 : Option MV) (x : Int) (st : List MV) (μ : MM) (G : MG) : ev 156 14 [a0, a1, a2, a3, a4] (vI x :: st) μ G = ev 156 15 [a0, a1, a2, a3, a4] (vL x :: st) μ G := ev_stp pg_156_14 rfl
theorem pg_156_15 : mm_prog 156 15 = some (0, .ldc2_w 105, 18, [4]) := by decide +kernel
theorem xe_156_15 (a0 a1 a2 a3 a4 : Option MV) (st : List MV) (μ : MM) (G : MG) : ev 156 15 [a0, a1, a2, a3, a4] st μ G = ev 156 18 [a0, a1, a2, a3, a4] (vL (4) :: st) μ G := ev_stp pg_156_15 rfl
theorem pg_156_18 : mm_prog 156 18 = some (0, .ldc2_w 123, 21, [127]) := by decide +kernel
theorem xe_156_18 (a0 a1 a2 a3 a4 : Option MV) (st : List MV) (μ : MM) (G : MG) : ev 156 18 [a0, a1, a2, a3, a4] st μ G = ev 156 21 [a0, a1, a2, a3, a4] (vL (127) :: st) μ G := ev_stp pg_156_18 rfl
theorem pg_156_21 : mm_prog 156 21 = some (1, .invokestatic 107, 24, [0, 148, 3, 0]) := by decide +kernel
theorem xe_156_21 (a0 a1 a2 a3 a4 : Option MV) (x0 x1 x2 : Int) (μ : MM) (G : MG) : ev 156 21 [a0, a1, a2, a3, a4] (vL x2 :: vL x1 :: vL x0 :: []) μ G = (ev 148 0 [some (vL x0), none, some (vL x1), none, some (vL x2), none] [] μ G).bind (fun q => ev 156 24 [a0, a1, a2, a3, a4] (q.1.toList ++ []) q.2.1 q.2.2) := ev_calS (as := [vL x0, vL x1, vL x2]) (r := []) mx_148 pg_156_21 rfl rfl (Nat.le_of_ble_eq_true rfl) (Nat.le_of_ble_eq_true rfl)
theorem pg_156_24 : mm_prog 156 24 = some (0, .ifCond .ne 12, 27, []) := by decide +kernel
theorem xe_156_24 (a0 a1 a2 a3 a4 : Option MV) (x : Int) (st : List MV) (μ : MM) (G : MG) : ev 156 24 [a0, a1, a2, a3, a4] (vI x :: st) μ G = if ¬ x = 0 then ev 156 36 [a0, a1, a2, a3, a4] st μ G else ev 156 27 [a0, a1, a2, a3, a4] st μ G := ev_br (mm_cnd_ne x 0) pg_156_24 rfl
theorem pg_156_27 : mm_prog 156 27 = some (0, .aload_n 0, 28, []) := by decide +kernel
theorem xe_156_27 (a1 a2 a3 a4 : Option MV) (x : Int) (st : List MV) (μ : MM) (G : MG) : ev 156 27 [some (vR x), a1, a2, a3, a4] st μ G = ev 156 28 [some (vR x), a1, a2, a3, a4] (vR x :: st) μ G := ev_stp pg_156_27 rfl
theorem pg_156_28 : mm_prog 156 28 = some (0, .bipush 6, 30, []) := by decide +kernel
theorem xe_156_28 (a0 a1 a2 a3 a4 : Option MV) (st : List MV) (μ : MM) (G : MG) : ev 156 28 [a0, a1, a2, a3, a4] st μ G = ev 156 30 [a0, a1, a2, a3, a4] (vI (6) :: st) μ G := ev_stp pg_156_28 rfl
theorem pg_156_30 : mm_prog 156 30 = some (0, .iload_n 1, 31, []) := by decide +kernel
theorem xe_156_30 (a0 a2 a3 a4 : Option MV) (x : Int) (st : List MV) (μ : MM) (G : MG) : ev 156 30 [a0, some (vI x), a2, a3, a4] st μ G = ev 156 31 [a0, some (vI x), a2, a3, a4] (vI x :: st) μ G := ev_stp pg_156_30 rfl
theorem pg_156_31 : mm_prog 156 31 = some (0, .iconst 2, 32, []) := by decide +kernel
theorem xe_156_31 (a0 a1 a2 a3 a4 : Option MV) (st : List MV) (μ : MM) (G : MG) : ev 156 31 [a0, a1, a2, a3, a4] st μ G = ev 156 32 [a0, a1, a2, a3, a4] (vI (2) :: st) μ G := ev_stp pg_156_31 rfl
theorem pg_156_32 : mm_prog 156 32 = some (0, .iadd, 33, []) := by decide +kernel
theorem xe_156_32 (a0 a1 a2 a3 a4 : Option MV) (x y : Int) (st : List MV) (μ : MM) (G : MG) : ev 156 32 [a0, a1, a2, a3, a4] (vI y :: vI x :: st) μ G = ev 156 33 [a0, a1, a2, a3, a4] (vI (w32 (x + y)) :: st) μ G := ev_stp pg_156_32 rfl
theorem pg_156_33 : mm_prog 156 33 = some (1, .invokevirtual 111, 36, [1, 153, 2, 11]) := by decide +kernel
theorem xe_156_33 (a0 a1 a2 a3 a4 : Option MV) (x0 x1 z : Int) (μ : MM) (G : MG) : ev 156 33 [a0, a1, a2, a3, a4] (vI x1 :: vI x0 :: vR z :: []) μ G = if gk G z = 11 ∧ 0 < z then (ev 153 0 [some (vR z), some (vI x0), some (vI x1)] [] μ G).bind (fun q => ev 156 36 [a0, a1, a2, a3, a4] (q.1.toList ++ []) q.2.1 q.2.2) else none := ev_calV (as := [vR z, vI x0, vI x1]) (r := []) mx_153 pg_156_33 rfl rfl (Nat.le_of_ble_eq_true rfl) (Nat.le_of_ble_eq_true rfl)
theorem pg_156_36 : mm_prog 156 36 = some (0, .iconst 4, 37, []) := by decide +kernel
theorem xe_156_36 (a0 a1 a2 a3 a4 : Option MV) (st : List MV) (μ : MM) (G : MG) : ev 156 36 [a0, a1, a2, a3, a4] st μ G = ev 156 37 [a0, a1, a2, a3, a4] (vI (4) :: st) μ G := ev_stp pg_156_36 rfl
theorem pg_156_37 : mm_prog 156 37 = some (0, .istore_n 3, 38, []) := by decide +kernel
theorem xe_156_37 (a0 a1 a2 a3 a4 : Option MV) (x : Int) (st : List MV) (μ : MM) (G : MG) (h : mm_nL a2 = true) : ev 156 37 [a0, a1, a2, a3, a4] (vI x :: st) μ G = ev 156 38 [a0, a1, a2, some (vI x), a4] st μ G := ev_st pg_156_37 rfl (mm_nl_of h) (Nat.le_of_ble_eq_true rfl)
theorem pg_156_38 : mm_prog 156 38 = some (0, .aload_n 0, 39, []) := by decide +kernel
theorem xe_156_38 (a1 a2 a3 a4 : Option MV) (x : Int) (st : List MV) (μ : MM) (G : MG) : ev 156 38 [some (vR x), a1, a2, a3, a4] st μ G = ev 156 39 [some (vR x), a1, a2, a3, a4] (vR x :: st) μ G := ev_stp pg_156_38 rfl
theorem pg_156_39 : mm_prog 156 39 = some (0, .getfield 99, 42, [11, 7, 0]) := by decide +kernel
theorem xe_156_39 (a0 a1 a2 a3 a4 : Option MV) (x : Int) (st : List MV) (μ : MM) (G : MG) : ev 156 39 [a0, a1, a2, a3, a4] (vR x :: st) μ G = if gk G x = 11 then ev 156 42 [a0, a1, a2, a3, a4] (vI (μ x 7) :: st) μ G else none := ev_if pg_156_39 rfl
theorem pg_156_42 : mm_prog 156 42 = some (0, .ifCond .ne 46, 45, []) := by decide +kernel
theorem xe_156_42 (a0 a1 a2 a3 a4 : Option MV) (x : Int) (st : List MV) (μ : MM) (G : MG) : ev 156 42 [a0, a1, a2, a3, a4] (vI x :: st) μ G = if ¬ x = 0 then ev 156 88 [a0, a1, a2, a3, a4] st μ G else ev 156 45 [a0, a1, a2, a3, a4] st μ G := ev_br (mm_cnd_ne x 0) pg_156_42 rfl
theorem pg_156_45 : mm_prog 156 45 = some (0, .iload_n 3, 46, []) := by decide +kernel
theorem xe_156_45 (a0 a1 a2 a4 : Option MV) (x : Int) (st : List MV) (μ : MM) (G : MG) : ev 156 45 [a0, a1, a2, some (vI x), a4] st μ G = ev 156 46 [a0, a1, a2, some (vI x), a4] (vI x :: st) μ G := ev_stp pg_156_45 rfl
theorem pg_156_46 : mm_prog 156 46 = some (0, .iload_n 2, 47, []) := by decide +kernel
theorem xe_156_46 (a0 a1 a3 a4 : Option MV) (x : Int) (st : List MV) (μ : MM) (G : MG) : ev 156 46 [a0, a1, some (vI x), a3, a4] st μ G = ev 156 47 [a0, a1, some (vI x), a3, a4] (vI x :: st) μ G := ev_stp pg_156_46 rfl
theorem pg_156_47 : mm_prog 156 47 = some (0, .if_icmp .ge 41, 50, []) := by decide +kernel
theorem xe_156_47 (a0 a1 a2 a3 a4 : Option MV) (x y : Int) (st : List MV) (μ : MM) (G : MG) : ev 156 47 [a0, a1, a2, a3, a4] (vI y :: vI x :: st) μ G = if y ≤ x then ev 156 88 [a0, a1, a2, a3, a4] st μ G else ev 156 50 [a0, a1, a2, a3, a4] st μ G := ev_br (mm_cnd_ge x y) pg_156_47 rfl
theorem pg_156_50 : mm_prog 156 50 = some (0, .iload_n 3, 51, []) := by decide +kernel
theorem xe_156_50 (a0 a1 a2 a4 : Option MV) (x : Int) (st : List MV) (μ : MM) (G : MG) : ev 156 50 [a0, a1, a2, some (vI x), a4] st μ G = ev 156 51 [a0, a1, a2, some (vI x), a4] (vI x :: st) μ G := ev_stp pg_156_50 rfl
theorem pg_156_51 : mm_prog 156 51 = some (0, .iconst 1, 52, []) := by decide +kernel
theorem xe_156_51 (a0 a1 a2 a3 a4 : Option MV) (st : List MV) (μ : MM) (G : MG) : ev 156 51 [a0, a1, a2, a3, a4] st μ G = ev 156 52 [a0, a1, a2, a3, a4] (vI (1) :: st) μ G := ev_stp pg_156_51 rfl
theorem pg_156_52 : mm_prog 156 52 = some (0, .iadd, 53, []) := by decide +kernel
theorem xe_156_52 (a0 a1 a2 a3 a4 : Option MV) (x y : Int) (st : List MV) (μ : MM) (G : MG) : ev 156 52 [a0, a1, a2, a3, a4] (vI y :: vI x :: st) μ G = ev 156 53 [a0, a1, a2, a3, a4] (vI (w32 (x + y)) :: st) μ G := ev_stp pg_156_52 rfl
theorem pg_156_53 : mm_prog 156 53 = some (0, .aload_n 0, 54, []) := by decide +kernel
theorem xe_156_53 (a1 a2 a3 a4 : Option MV) (x : Int) (st : List MV) (μ : MM) (G : MG) : ev 156 53 [some (vR x), a1, a2, a3, a4] st μ G = ev 156 54 [some (vR x), a1, a2, a3, a4] (vR x :: st) μ G := ev_stp pg_156_53 rfl
theorem pg_156_54 : mm_prog 156 54 = some (0, .getfield 17, 57, [11, 2, 2]) := by decide +kernel
theorem xe_156_54 (a0 a1 a2 a3 a4 : Option MV) (x : Int) (st : List MV) (μ : MM) (G : MG) : ev 156 54 [a0, a1, a2, a3, a4] (vR x :: st) μ G = if gk G x = 11 then ev 156 57 [a0, a1, a2, a3, a4] (vR (μ x 2) :: st) μ G else none := ev_if pg_156_54 rfl
theorem pg_156_57 : mm_prog 156 57 = some (0, .iload_n 1, 58, []) := by decide +kernel
theorem xe_156_57 (a0 a2 a3 a4 : Option MV) (x : Int) (st : List MV) (μ : MM) (G : MG) : ev 156 57 [a0, some (vI x), a2, a3, a4] st μ G = ev 156 58 [a0, some (vI x), a2, a3, a4] (vI x :: st) μ G := ev_stp pg_156_57 rfl
theorem pg_156_58 : mm_prog 156 58 = some (0, .iload_n 3, 59, []) := by decide +kernel
theorem xe_156_58 (a0 a1 a2 a4 : Option MV) (x : Int) (st : List MV) (μ : MM) (G : MG) : ev 156 58 [a0, a1, a2, some (vI x), a4] st μ G = ev 156 59 [a0, a1, a2, some (vI x), a4] (vI x :: st) μ G := ev_stp pg_156_58 rfl
theorem pg_156_59 : mm_prog 156 59 = some (0, .iadd, 60, []) := by decide +kernel
theorem xe_156_59 (a0 a1 a2 a3 a4 : Option MV) (x y : Int) (st : List MV) (μ : MM) (G : MG) : ev 156 59 [a0, a1, a2, a3, a4] (vI y :: vI x :: st) μ G = ev 156 60 [a0, a1, a2, a3, a4] (vI (w32 (x + y)) :: st) μ G := ev_stp pg_156_59 rfl
theorem pg_156_60 : mm_prog 156 60 = some (0, .iaload, 61, []) := by decide +kernel
theorem xe_156_60 (a0 a1 a2 a3 a4 : Option MV) (x y : Int) (st : List MV) (μ : MM) (G : MG) : ev 156 60 [a0, a1, a2, a3, a4] (vI x :: vR y :: st) μ G = if gk G y = 100 ∧ 0 ≤ x ∧ x < gl G y then ev 156 61 [a0, a1, a2, a3, a4] (vI (μ y x) :: st) μ G else none := ev_if pg_156_60 rfl
theorem pg_156_61 : mm_prog 156 61 = some (0, .bipush 32, 63, []) := by decide +kernel
theorem xe_156_61 (a0 a1 a2 a3 a4 : Option MV) (st : List MV) (μ : MM) (G : MG) : ev 156 61 [a0, a1, a2, a3, a4] st μ G = ev 156 63 [a0, a1, a2, a3, a4] (vI (32) :: st) μ G := ev_stp pg_156_61 rfl
theorem pg_156_63 : mm_prog 156 63 = some (0, .irem, 64, []) := by decide +kernel
theorem xe_156_63 (a0 a1 a2 a3 a4 : Option MV) (x y : Int) (st : List MV) (μ : MM) (G : MG) : ev 156 63 [a0, a1, a2, a3, a4] (vI y :: vI x :: st) μ G = if y = 0 then none else ev 156 64 [a0, a1, a2, a3, a4] (vI (mm_rem x y) :: st) μ G := ev_no pg_156_63 rfl
theorem pg_156_64 : mm_prog 156 64 = some (0, .iadd, 65, []) := by decide +kernel
theorem xe_156_64 (a0 a1 a2 a3 a4 : Option MV) (x y : Int) (st : List MV) (μ : MM) (G : MG) : ev 156 64 [a0, a1, a2, a3, a4] (vI y :: vI x :: st) μ G = ev 156 65 [a0, a1, a2, a3, a4] (vI (w32 (x + y)) :: st) μ G := ev_stp pg_156_64 rfl
theorem pg_156_65 : mm_prog 156 65 = some (0, .istore 4, 67, []) := by decide +kernel
theorem xe_156_65 (a0 a1 a2 a3 a4 : Option MV) (x : Int) (st : List MV) (μ : MM) (G : MG) (h : mm_nL a3 = true) : ev 156 65 [a0, a1, a2, a3, a4] (vI x :: st) μ G = ev 156 67 [a0, a1, a2, a3, some (vI x)] st μ G := ev_st pg_156_65 rfl (mm_nl_of h) (Nat.le_of_ble_eq_true rfl)
theorem pg_156_67 : mm_prog 156 67 = some (0, .iload 4, 69, []) := by decide +kernel
theorem xe_156_67 (a0 a1 a2 a3 : Option MV) (x : Int) (st : List MV) (μ : MM) (G : MG) : ev 156 67 [a0, a1, a2, a3, some (vI x)] st μ G = ev 156 69 [a0, a1, a2, a3, some (vI x)] (vI x :: st) μ G := ev_stp pg_156_67 rfl
theorem pg_156_69 : mm_prog 156 69 = some (0, .iload_n 2, 70, []) := by decide +kernel
theorem xe_156_69 (a0 a1 a3 a4 : Option MV) (x : Int) (st : List MV) (μ : MM) (G : MG) : ev 156 69 [a0, a1, some (vI x), a3, a4] st μ G = ev 156 70 [a0, a1, some (vI x), a3, a4] (vI x :: st) μ G := ev_stp pg_156_69 rfl
theorem pg_156_70 : mm_prog 156 70 = some (0, .if_icmp .le 12, 73, []) := by decide +kernel
theorem xe_156_70 (a0 a1 a2 a3 a4 : Option MV) (x y : Int) (st : List MV) (μ : MM) (G : MG) : ev 156 70 [a0, a1, a2, a3, a4] (vI y :: vI x :: st) μ G = if x ≤ y then ev 156 82 [a0, a1, a2, a3, a4] st μ G else ev 156 73 [a0, a1, a2, a3, a4] st μ G := ev_br (mm_cnd_le x y) pg_156_70 rfl
theorem pg_156_73 : mm_prog 156 73 = some (0, .aload_n 0, 74, []) := by decide +kernel
theorem xe_156_73 (a1 a2 a3 a4 : Option MV) (x : Int) (st : List MV) (μ : MM) (G : MG) : ev 156 73 [some (vR x), a1, a2, a3, a4] st μ G = ev 156 74 [some (vR x), a1, a2, a3, a4] (vR x :: st) μ G := ev_stp pg_156_73 rfl
theorem pg_156_74 : mm_prog 156 74 = some (0, .bipush 7, 76, []) := by decide +kernel
theorem xe_156_74 (a0 a1 a2 a3 a4 : Option MV) (st : List MV) (μ : MM) (G : MG) : ev 156 74 [a0, a1, a2, a3, a4] st μ G = ev 156 76 [a0, a1, a2, a3, a4] (vI (7) :: st) μ G := ev_stp pg_156_74 rfl
theorem pg_156_76 : mm_prog 156 76 = some (0, .iload_n 1, 77, []) := by decide +kernel
theorem xe_156_76 (a0 a2 a3 a4 : Option MV) (x : Int) (st : List MV) (μ : MM) (G : MG) : ev 156 76 [a0, some (vI x), a2, a3, a4] st μ G = ev 156 77 [a0, some (vI x), a2, a3, a4] (vI x :: st) μ G := ev_stp pg_156_76 rfl
theorem pg_156_77 : mm_prog 156 77 = some (0, .iload_n 3, 78, []) := by decide +kernel
theorem xe_156_77 (a0 a1 a2 a4 : Option MV) (x : Int) (st : List MV) (μ : MM) (G : MG) : ev 156 77 [a0, a1, a2, some (vI x), a4] st μ G = ev 156 78 [a0, a1, a2, some (vI x), a4] (vI x :: st) μ G := ev_stp pg_156_77 rfl
theorem pg_156_78 : mm_prog 156 78 = some (0, .iadd, 79, []) := by decide +kernel
theorem xe_156_78 (a0 a1 a2 a3 a4 : Option MV) (x y : Int) (st : List MV) (μ : MM) (G : MG) : ev 156 78 [a0, a1, a2, a3, a4] (vI y :: vI x :: st) μ G = ev 156 79 [a0, a1, a2, a3, a4] (vI (w32 (x + y)) :: st) μ G := ev_stp pg_156_78 rfl
theorem pg_156_79 : mm_prog 156 79 = some (1, .invokevirtual 111, 82, [1, 153, 2, 11]) := by decide +kernel
theorem xe_156_79 (a0 a1 a2 a3 a4 : Option MV) (x0 x1 z : Int) (μ : MM) (G : MG) : ev 156 79 [a0, a1, a2, a3, a4] (vI x1 :: vI x0 :: vR z :: []) μ G = if gk G z = 11 ∧ 0 < z then (ev 153 0 [some (vR z), some (vI x0), some (vI x1)] [] μ G).bind (fun q => ev 156 82 [a0, a1, a2, a3, a4] (q.1.toList ++ []) q.2.1 q.2.2) else none := ev_calV (as := [vR z, vI x0, vI x1]) (r := []) mx_153 pg_156_79 rfl rfl (Nat.le_of_ble_eq_true rfl) (Nat.le_of_ble_eq_true rfl)
theorem pg_156_82 : mm_prog 156 82 = some (0, .iload 4, 84, []) := by decide +kernel
theorem xe_156_82 (a0 a1 a2 a3 : Option MV) (x : Int) (st : List MV) (μ : MM) (G : MG) : ev 156 82 [a0, a1, a2, a3, some (vI x)] st μ G = ev 156 84 [a0, a1, a2, a3, some (vI x)] (vI x :: st) μ G := ev_stp pg_156_82 rfl
theorem pg_156_84 : mm_prog 156 84 = some (0, .istore_n 3, 85, []) := by decide +kernel
theorem xe_156_84 (a0 a1 a2 a3 a4 : Option MV) (x : Int) (st : List MV) (μ : MM) (G : MG) (h : mm_nL a2 = true) : ev 156 84 [a0, a1, a2, a3, a4] (vI x :: st) μ G = ev 156 85 [a0, a1, a2, some (vI x), a4] st μ G := ev_st pg_156_84 rfl (mm_nl_of h) (Nat.le_of_ble_eq_true rfl)
theorem pg_156_85 : mm_prog 156 85 = some (0, .goto (-47), 88, []) := by decide +kernel
theorem xe_156_85 (a0 a1 a2 a3 a4 : Option MV) (st : List MV) (μ : MM) (G : MG) : ev 156 85 [a0, a1, a2, a3, a4] st μ G = ev 156 38 [a0, a1, a2, a3, a4] st μ G := ev_stp pg_156_85 rfl
theorem pg_156_88 : mm_prog 156 88 = some (2, .return_, 89, []) := by decide +kernel
theorem xe_156_88 (a0 a1 a2 a3 a4 : Option MV) (μ : MM) (G : MG) : ev 156 88 [a0, a1, a2, a3, a4] [] μ G = some (none, μ, G) := ev_ret pg_156_88 rfl
-- X11_load
theorem pg_157_0 : mm_prog 157 0 = some (0, .aload_n 0, 1, []) := by decide +kernel
theorem xe_157_0 (a1 a2 : Option MV) (x : Int) (st : List MV) (μ : MM) (G : MG) : ev 157 0 [some (vR x), a1, a2] st μ G = ev 157 1 [some (vR x), a1, a2] (vR x :: st) μ G := ev_stp pg_157_0 rfl
theorem pg_157_1 : mm_prog 157 1 = some (0, .iconst 0, 2, []) := by decide +kernel
theorem xe_157_1 (a0 a1 a2 : Option MV) (st : List MV) (μ : MM) (G : MG) : ev 157 1 [a0, a1, a2] st μ G = ev 157 2 [a0, a1, a2] (vI (0) :: st) μ G := ev_stp pg_157_1 rfl
theorem pg_157_2 : mm_prog 157 2 = some (0, .putfield 1, 5, [11, 0, 0]) := by decide +kernel
theorem xe_157_2 (a0 a1 a2 : Option MV) (x y : Int) (st : List MV) (μ : MM) (G : MG) : ev 157 2 [a0, a1, a2] (vI x :: vR y :: st) μ G = if gk G y = 11 then ev 157 5 [a0, a1, a2] st (mset μ y 0 x) G else none := ev_put0 pg_157_2
theorem pg_157_5 : mm_prog 157 5 = some (0, .iload_n 1, 6, []) := by decide +kernel
theorem xe_157_5 (a0 a2 : Option MV) (x : Int) (st : List MV) (μ : MM) (G : MG) : ev 157 5 [a0, some (vI x), a2] st μ G = ev 157 6 [a0, some (vI x), a2] (vI x :: st) μ G := ev_stp pg_157_5 rfl
theorem pg_157_6 : mm_prog 157 6 = some (0, .i2l, 7, []) := by decide +kernel
theorem xe_157_6 (a0 a1 a2 : Option MV) (x : Int) (st : List MV) (μ : MM) (G : MG) : ev 157 6 [a0, a1, a2] (vI x :: st) μ G = ev 157 7 [a0, a1, a2] (vL x :: st) μ G := ev_stp pg_157_6 rfl
theorem pg_157_7 : mm_prog 157 7 = some (0, .lconst 0, 8, []) := by decide +kernel
theorem xe_157_7 (a0 a1 a2 : Option MV) (st : List MV) (μ : MM) (G : MG) : ev 157 7 [a0, a1, a2] st μ G = ev 157 8 [a0, a1, a2] (vL 0 :: st) μ G := ev_stp pg_157_7 rfl
theorem pg_157_8 : mm_prog 157 8 = some (0, .aload_n 0, 9, []) := by decide +kernel
theorem xe_157_8 (a1 a2 : Option MV) (x : Int) (st : List MV) (μ : MM) (G : MG) : ev 157 8 [some (vR x), a1, a2] st μ G = ev 157 9 [some (vR x), a1, a2] (vR x :: st) μ G := ev_stp pg_157_8 rfl
theorem pg_157_9 : mm_prog 157 9 = some (0, .getfield 96, 12, [11, 4, 0]) := by decide +kernel
theorem xe_157_9 (a0 a1 a2 : Option MV) (x : Int) (st : List MV) (μ : MM) (G : MG) : ev 157 9 [a0, a1, a2] (vR x :: st) μ G = if gk G x = 11 then ev 157 12 [a0, a1, a2] (vI (μ x 4) :: st) μ G else none := ev_if pg_157_9 rfl
theorem pg_157_12 : mm_prog 157 12 = some (0, .i2l, 13, []) := by decide +kernel
theorem xe_157_12 (a0 a1 a2 : Option MV) (x : Int) (st : List MV) (μ : MM) (G : MG) : ev 157 12 [a0, a1, a2] (vI x :: st) μ G = ev 157 13 [a0, a1, a2] (vL x :: st) μ G := ev_stp pg_157_12 rfl
theorem pg_157_13 : mm_prog 157 13 = some (1, .invokestatic 107, 16, [0, 148, 3, 0]) := by decide +kernel
theorem xe_157_13 (a0 a1 a2 : Option MV) (x0 x1 x2 : Int) (μ : MM) (G : MG) : ev 157 13 [a0, a1, a2] (vL x2 :: vL x1 :: vL x0 :: []) μ G = (ev 148 0 [some (vL x0), none, some (vL x1), none, some (vL x2), none] [] μ G).bind (fun q => ev 157 16 [a0, a1, a2] (q.1.toList ++ []) q.2.1 q.2.2) := ev_calS (as := [vL x0, vL x1, vL x2]) (r := []) mx_148 pg_157_13 rfl rfl (Nat.le_of_ble_eq_true rfl) (Nat.le_of_ble_eq_true rfl)
theorem pg_157_16 : mm_prog 157 16 = some (0, .ifCond .ne 6, 19, []) := by decide +kernel
theorem xe_157_16 (a0 a1 a2 : Option MV) (x : Int) (st : List MV) (μ : MM) (G : MG) : ev 157 16 [a0, a1, a2] (vI x :: st) μ G = if ¬ x = 0 then ev 157 22 [a0, a1, a2] st μ G else ev 157 19 [a0, a1, a2] st μ G := ev_br (mm_cnd_ne x 0) pg_157_16 rfl
theorem pg_157_19 : mm_prog 157 19 = some (0, .bipush (-3), 21, []) := by decide +kernel
theorem xe_157_19 (a0 a1 a2 : Option MV) (st : List MV) (μ : MM) (G : MG) : ev 157 19 [a0, a1, a2] st μ G = ev 157 21 [a0, a1, a2] (vI (-3) :: st) μ G := ev_stp pg_157_19 rfl
theorem pg_157_21 : mm_prog 157 21 = some (2, .ireturn, 22, [0]) := by decide +kernel
theorem xe_157_21 (a0 a1 a2 : Option MV) (x : Int) (μ : MM) (G : MG) : ev 157 21 [a0, a1, a2] [vI x] μ G = some (some (vI x), μ, G) := ev_ret pg_157_21 rfl
theorem pg_157_22 : mm_prog 157 22 = some (0, .aload_n 0, 23, []) := by decide +kernel
theorem xe_157_22 (a1 a2 : Option MV) (x : Int) (st : List MV) (μ : MM) (G : MG) : ev 157 22 [some (vR x), a1, a2] st μ G = ev 157 23 [some (vR x), a1, a2] (vR x :: st) μ G := ev_stp pg_157_22 rfl
theorem pg_157_23 : mm_prog 157 23 = some (0, .iconst 0, 24, []) := by decide +kernel
theorem xe_157_23 (a0 a1 a2 : Option MV) (st : List MV) (μ : MM) (G : MG) : ev 157 23 [a0, a1, a2] st μ G = ev 157 24 [a0, a1, a2] (vI (0) :: st) μ G := ev_stp pg_157_23 rfl
theorem pg_157_24 : mm_prog 157 24 = some (0, .putfield 96, 27, [11, 4, 0]) := by decide +kernel
theorem xe_157_24 (a0 a1 a2 : Option MV) (x y : Int) (st : List MV) (μ : MM) (G : MG) : ev 157 24 [a0, a1, a2] (vI x :: vR y :: st) μ G = if gk G y = 11 then ev 157 27 [a0, a1, a2] st (mset μ y 4 x) G else none := ev_put0 pg_157_24
theorem pg_157_27 : mm_prog 157 27 = some (0, .aload_n 0, 28, []) := by decide +kernel
theorem xe_157_27 (a1 a2 : Option MV) (x : Int) (st : List MV) (μ : MM) (G : MG) : ev 157 27 [some (vR x), a1, a2] st μ G = ev 157 28 [some (vR x), a1, a2] (vR x :: st) μ G := ev_stp pg_157_27 rfl
theorem pg_157_28 : mm_prog 157 28 = some (0, .iload_n 1, 29, []) := by decide +kernel
theorem xe_157_28 (a0 a2 : Option MV) (x : Int) (st : List MV) (μ : MM) (G : MG) : ev 157 28 [a0, some (vI x), a2] st μ G = ev 157 29 [a0, some (vI x), a2] (vI x :: st) μ G := ev_stp pg_157_28 rfl
theorem pg_157_29 : mm_prog 157 29 = some (0, .putfield 102, 32, [11, 5, 0]) := by decide +kernel
theorem xe_157_29 (a0 a1 a2 : Option MV) (x y : Int) (st : List MV) (μ : MM) (G : MG) : ev 157 29 [a0, a1, a2] (vI x :: vR y :: st) μ G = if gk G y = 11 then ev 157 32 [a0, a1, a2] st (mset μ y 5 x) G else none := ev_put0 pg_157_29
theorem pg_157_32 : mm_prog 157 32 = some (0, .iconst 0, 33, []) := by decide +kernel
theorem xe_157_32 (a0 a1 a2 : Option MV) (st : List MV) (μ : MM) (G : MG) : ev 157 32 [a0, a1, a2] st μ G = ev 157 33 [a0, a1, a2] (vI (0) :: st) μ G := ev_stp pg_157_32 rfl
theorem pg_157_33 : mm_prog 157 33 = some (0, .istore_n 2, 34, []) := by decide +kernel
theorem xe_157_33 (a0 a1 a2 : Option MV) (x : Int) (st : List MV) (μ : MM) (G : MG) (h : mm_nL a1 = true) : ev 157 33 [a0, a1, a2] (vI x :: st) μ G = ev 157 34 [a0, a1, some (vI x)] st μ G := ev_st pg_157_33 rfl (mm_nl_of h) (Nat.le_of_ble_eq_true rfl)
theorem pg_157_34 : mm_prog 157 34 = some (0, .iload_n 2, 35, []) := by decide +kernel
theorem xe_157_34 (a0 a1 : Option MV) (x : Int) (st : List MV) (μ : MM) (G : MG) : ev 157 34 [a0, a1, some (vI x)] st μ G = ev 157 35 [a0, a1, some (vI x)] (vI x :: st) μ G := ev_stp pg_157_34 rfl
theorem pg_157_35 : mm_prog 157 35 = some (0, .iload_n 1, 36, []) := by decide +kernel
theorem xe_157_35 (a0 a2 : Option MV) (x : Int) (st : List MV) (μ : MM) (G : MG) : ev 157 35 [a0, some (vI x), a2] st μ G = ev 157 36 [a0, some (vI x), a2] (vI x :: st) μ G := ev_stp pg_157_35 rfl
theorem pg_157_36 : mm_prog 157 36 = some (0, .if_icmp .ge 21, 39, []) := by decide +kernel
theorem xe_157_36 (a0 a1 a2 : Option MV) (x y : Int) (st : List MV) (μ : MM) (G : MG) : ev 157 36 [a0, a1, a2] (vI y :: vI x :: st) μ G = if y ≤ x then ev 157 57 [a0, a1, a2] st μ G else ev 157 39 [a0, a1, a2] st μ G := ev_br (mm_cnd_ge x y) pg_157_36 rfl
theorem pg_157_39 : mm_prog 157 39 = some (0, .aload_n 0, 40, []) := by decide +kernel
theorem xe_157_39 (a1 a2 : Option MV) (x : Int) (st : List MV) (μ : MM) (G : MG) : ev 157 39 [some (vR x), a1, a2] st μ G = ev 157 40 [some (vR x), a1, a2] (vR x :: st) μ G := ev_stp pg_157_39 rfl
theorem pg_157_40 : mm_prog 157 40 = some (0, .getfield 17, 43, [11, 2, 2]) := by decide +kernel
theorem xe_157_40 (a0 a1 a2 : Option MV) (x : Int) (st : List MV) (μ : MM) (G : MG) : ev 157 40 [a0, a1, a2] (vR x :: st) μ G = if gk G x = 11 then ev 157 43 [a0, a1, a2] (vR (μ x 2) :: st) μ G else none := ev_if pg_157_40 rfl
theorem pg_157_43 : mm_prog 157 43 = some (0, .iload_n 2, 44, []) := by decide +kernel
theorem xe_157_43 (a0 a1 : Option MV) (x : Int) (st : List MV) (μ : MM) (G : MG) : ev 157 43 [a0, a1, some (vI x)] st μ G = ev 157 44 [a0, a1, some (vI x)] (vI x :: st) μ G := ev_stp pg_157_43 rfl
theorem pg_157_44 : mm_prog 157 44 = some (0, .aload_n 0, 45, []) := by decide +kernel
theorem xe_157_44 (a1 a2 : Option MV) (x : Int) (st : List MV) (μ : MM) (G : MG) : ev 157 44 [some (vR x), a1, a2] st μ G = ev 157 45 [some (vR x), a1, a2] (vR x :: st) μ G := ev_stp pg_157_44 rfl
theorem pg_157_45 : mm_prog 157 45 = some (0, .getfield 13, 48, [11, 1, 2]) := by decide +kernel
theorem xe_157_45 (a0 a1 a2 : Option MV) (x : Int) (st : List MV) (μ : MM) (G : MG) : ev 157 45 [a0, a1, a2] (vR x :: st) μ G = if gk G x = 11 then ev 157 48 [a0, a1, a2] (vR (μ x 1) :: st) μ G else none := ev_if pg_157_45 rfl
theorem pg_157_48 : mm_prog 157 48 = some (0, .iload_n 2, 49, []) := by decide +kernel
theorem xe_157_48 (a0 a1 : Option MV) (x : Int) (st : List MV) (μ : MM) (G : MG) : ev 157 48 [a0, a1, some (vI x)] st μ G = ev 157 49 [a0, a1, some (vI x)] (vI x :: st) μ G := ev_stp pg_157_48 rfl
theorem pg_157_49 : mm_prog 157 49 = some (0, .iaload, 50, []) := by decide +kernel
theorem xe_157_49 (a0 a1 a2 : Option MV) (x y : Int) (st : List MV) (μ : MM) (G : MG) : ev 157 49 [a0, a1, a2] (vI x :: vR y :: st) μ G = if gk G y = 100 ∧ 0 ≤ x ∧ x < gl G y then ev 157 50 [a0, a1, a2] (vI (μ y x) :: st) μ G else none := ev_if pg_157_49 rfl
theorem pg_157_50 : mm_prog 157 50 = some (0, .iastore, 51, []) := by decide +kernel
theorem xe_157_50 (a0 a1 a2 : Option MV) (x y z : Int) (st : List MV) (μ : MM) (G : MG) : ev 157 50 [a0, a1, a2] (vI x :: vI y :: vR z :: st) μ G = if gk G z = 100 ∧ 0 ≤ y ∧ y < gl G z ∧ 10 ≤ z then ev 157 51 [a0, a1, a2] st (mset μ z y x) G else none := ev_if pg_157_50 rfl
theorem pg_157_51 : mm_prog 157 51 = some (0, .iinc 2 1, 54, []) := by decide +kernel
theorem xe_157_51 (a0 a1 : Option MV) (x : Int) (st : List MV) (μ : MM) (G : MG) (h : mm_nL a1 = true) : ev 157 51 [a0, a1, some (vI x)] st μ G = ev 157 54 [a0, a1, some (vI (w32 (x + (1))))] st μ G := ev_st pg_157_51 rfl (mm_nl_of h) (Nat.le_of_ble_eq_true rfl)
theorem pg_157_54 : mm_prog 157 54 = some (0, .goto (-20), 57, []) := by decide +kernel
theorem xe_157_54 (a0 a1 a2 : Option MV) (st : List MV) (μ : MM) (G : MG) : ev 157 54 [a0, a1, a2] st μ G = ev 157 34 [a0, a1, a2] st μ G := ev_stp pg_157_54 rfl
theorem pg_157_57 : mm_prog 157 57 = some (0, .aload_n 0, 58, []) := by decide +kernel
theorem xe_157_57 (a1 a2 : Option MV) (x : Int) (st : List MV) (μ : MM) (G : MG) : ev 157 57 [some (vR x), a1, a2] st μ G = ev 157 58 [some (vR x), a1, a2] (vR x :: st) μ G := ev_stp pg_157_57 rfl
theorem pg_157_58 : mm_prog 157 58 = some (0, .iconst 0, 59, []) := by decide +kernel
theorem xe_157_58 (a0 a1 a2 : Option MV) (st : List MV) (μ : MM) (G : MG) : ev 157 58 [a0, a1, a2] st μ G = ev 157 59 [a0, a1, a2] (vI (0) :: st) μ G := ev_stp pg_157_58 rfl
theorem pg_157_59 : mm_prog 157 59 = some (0, .putfield 99, 62, [11, 7, 0]) := by decide +kernel
theorem xe_157_59 (a0 a1 a2 : Option MV) (x y : Int) (st : List MV) (μ : MM) (G : MG) : ev 157 59 [a0, a1, a2] (vI x :: vR y :: st) μ G = if gk G y = 11 then ev 157 62 [a0, a1, a2] st (mset μ y 7 x) G else none := ev_put0 pg_157_59
theorem pg_157_62 : mm_prog 157 62 = some (0, .aload_n 0, 63, []) := by decide +kernel
theorem xe_157_62 (a1 a2 : Option MV) (x : Int) (st : List MV) (μ : MM) (G : MG) : ev 157 62 [some (vR x), a1, a2] st μ G = ev 157 63 [some (vR x), a1, a2] (vR x :: st) μ G := ev_stp pg_157_62 rfl
theorem pg_157_63 : mm_prog 157 63 = some (0, .iconst (-1), 64, []) := by decide +kernel
theorem xe_157_63 (a0 a1 a2 : Option MV) (st : List MV) (μ : MM) (G : MG) : ev 157 63 [a0, a1, a2] st μ G = ev 157 64 [a0, a1, a2] (vI (-1) :: st) μ G := ev_stp pg_157_63 rfl
theorem pg_157_64 : mm_prog 157 64 = some (0, .putfield 23, 67, [11, 8, 0]) := by decide +kernel
theorem xe_157_64 (a0 a1 a2 : Option MV) (x y : Int) (st : List MV) (μ : MM) (G : MG) : ev 157 64 [a0, a1, a2] (vI x :: vR y :: st) μ G = if gk G y = 11 then ev 157 67 [a0, a1, a2] st (mset μ y 8 x) G else none := ev_put0 pg_157_64
theorem pg_157_67 : mm_prog 157 67 = some (0, .aload_n 0, 68, []) := by decide +kernel
theorem xe_157_67 (a1 a2 : Option MV) (x : Int) (st : List MV) (μ : MM) (G : MG) : ev 157 67 [some (vR x), a1, a2] st μ G = ev 157 68 [some (vR x), a1, a2] (vR x :: st) μ G := ev_stp pg_157_67 rfl
theorem pg_157_68 : mm_prog 157 68 = some (1, .invokevirtual 125, 71, [1, 155, 0, 11]) := by decide +kernel
theorem xe_157_68 (a0 a1 a2 : Option MV) (z : Int) (μ : MM) (G : MG) : ev 157 68 [a0, a1, a2] (vR z :: []) μ G = if gk G z = 11 ∧ 0 < z then (ev 155 0 [some (vR z), none, none] [] μ G).bind (fun q => ev 157 71 [a0, a1, a2] (q.1.toList ++ []) q.2.1 q.2.2) else none := ev_calV (as := [vR z]) (r := []) mx_155 pg_157_68 rfl rfl (Nat.le_of_ble_eq_true rfl) (Nat.le_of_ble_eq_true rfl)
theorem pg_157_71 : mm_prog 157 71 = some (0, .aload_n 0, 72, []) := by decide +kernel
theorem xe_157_71 (a1 a2 : Option MV) (x : Int) (st : List MV) (μ : MM) (G : MG) : ev 157 71 [some (vR x), a1, a2] st μ G = ev 157 72 [some (vR x), a1, a2] (vR x :: st) μ G := ev_stp pg_157_71 rfl
theorem pg_157_72 : mm_prog 157 72 = some (0, .getfield 99, 75, [11, 7, 0]) := by decide +kernel
theorem xe_157_72 (a0 a1 a2 : Option MV) (x : Int) (st : List MV) (μ : MM) (G : MG) : ev 157 72 [a0, a1, a2] (vR x :: st) μ G = if gk G x = 11 then ev 157 75 [a0, a1, a2] (vI (μ x 7) :: st) μ G else none := ev_if pg_157_72 rfl
theorem pg_157_75 : mm_prog 157 75 = some (0, .ifCond .eq 11, 78, []) := by decide +kernel
theorem xe_157_75 (a0 a1 a2 : Option MV) (x : Int) (st : List MV) (μ : MM) (G : MG) : ev 157 75 [a0, a1, a2] (vI x :: st) μ G = if x = 0 then ev 157 86 [a0, a1, a2] st μ G else ev 157 78 [a0, a1, a2] st μ G := ev_br (mm_cnd_eq x 0) pg_157_75 rfl
theorem pg_157_78 : mm_prog 157 78 = some (0, .bipush (-30), 80, []) := by decide +kernel
theorem xe_157_78 (a0 a1 a2 : Option MV) (st : List MV) (μ : MM) (G : MG) : ev 157 78 [a0, a1, a2] st μ G = ev 157 80 [a0, a1, a2] (vI (-30) :: st) μ G := ev_stp pg_157_78 rfl
theorem pg_157_80 : mm_prog 157 80 = some (0, .aload_n 0, 81, []) := by decide +kernel
theorem xe_157_80 (a1 a2 : Option MV) (x : Int) (st : List MV) (μ : MM) (G : MG) : ev 157 80 [some (vR x), a1, a2] st μ G = ev 157 81 [some (vR x), a1, a2] (vR x :: st) μ G := ev_stp pg_157_80 rfl
theorem pg_157_81 : mm_prog 157 81 = some (0, .getfield 99, 84, [11, 7, 0]) := by decide +kernel
theorem xe_157_81 (a0 a1 a2 : Option MV) (x : Int) (st : List MV) (μ : MM) (G : MG) : ev 157 81 [a0, a1, a2] (vR x :: st) μ G = if gk G x = 11 then ev 157 84 [a0, a1, a2] (vI (μ x 7) :: st) μ G else none := ev_if pg_157_81 rfl
theorem pg_157_84 : mm_prog 157 84 = some (0, .isub, 85, []) := by decide +kernel
theorem xe_157_84 (a0 a1 a2 : Option MV) (x y : Int) (st : List MV) (μ : MM) (G : MG) : ev 157 84 [a0, a1, a2] (vI y :: vI x :: st) μ G = ev 157 85 [a0, a1, a2] (vI (w32 (x - y)) :: st) μ G := ev_stp pg_157_84 rfl
theorem pg_157_85 : mm_prog 157 85 = some (2, .ireturn, 86, [0]) := by decide +kernel
theorem xe_157_85 (a0 a1 a2 : Option MV) (x : Int) (μ : MM) (G : MG) : ev 157 85 [a0, a1, a2] [vI x] μ G = some (some (vI x), μ, G) := ev_ret pg_157_85 rfl
theorem pg_157_86 : mm_prog 157 86 = some (0, .iconst 0, 87, []) := by decide +kernel
theorem xe_157_86 (a0 a1 a2 : Option MV) (st : List MV) (μ : MM) (G : MG) : ev 157 86 [a0, a1, a2] st μ G = ev 157 87 [a0, a1, a2] (vI (0) :: st) μ G := ev_stp pg_157_86 rfl
theorem pg_157_87 : mm_prog 157 87 = some (0, .istore_n 2, 88, []) := by decide +kernel
theorem xe_157_87 (a0 a1 a2 : Option MV) (x : Int) (st : List MV) (μ : MM) (G : MG) (h : mm_nL a1 = true) : ev 157 87 [a0, a1, a2] (vI x :: st) μ G = ev 157 88 [a0, a1, some (vI x)] st μ G := ev_st pg_157_87 rfl (mm_nl_of h) (Nat.le_of_ble_eq_true rfl)
theorem pg_157_88 : mm_prog 157 88 = some (0, .iload_n 2, 89, []) := by decide +kernel
theorem xe_157_88 (a0 a1 : Option MV) (x : Int) (st : List MV) (μ : MM) (G : MG) : ev 157 88 [a0, a1, some (vI x)] st μ G = ev 157 89 [a0, a1, some (vI x)] (vI x :: st) μ G := ev_stp pg_157_88 rfl
theorem pg_157_89 : mm_prog 157 89 = some (0, .iload_n 1, 90, []) := by decide +kernel
theorem xe_157_89 (a0 a2 : Option MV) (x : Int) (st : List MV) (μ : MM) (G : MG) : ev 157 89 [a0, some (vI x), a2] st μ G = ev 157 90 [a0, some (vI x), a2] (vI x :: st) μ G := ev_stp pg_157_89 rfl
theorem pg_157_90 : mm_prog 157 90 = some (0, .if_icmp .ge 21, 93, []) := by decide +kernel
theorem xe_157_90 (a0 a1 a2 : Option MV) (x y : Int) (st : List MV) (μ : MM) (G : MG) : ev 157 90 [a0, a1, a2] (vI y :: vI x :: st) μ G = if y ≤ x then ev 157 111 [a0, a1, a2] st μ G else ev 157 93 [a0, a1, a2] st μ G := ev_br (mm_cnd_ge x y) pg_157_90 rfl
theorem pg_157_93 : mm_prog 157 93 = some (0, .aload_n 0, 94, []) := by decide +kernel
theorem xe_157_93 (a1 a2 : Option MV) (x : Int) (st : List MV) (μ : MM) (G : MG) : ev 157 93 [some (vR x), a1, a2] st μ G = ev 157 94 [some (vR x), a1, a2] (vR x :: st) μ G := ev_stp pg_157_93 rfl
theorem pg_157_94 : mm_prog 157 94 = some (0, .getfield 20, 97, [11, 3, 2]) := by decide +kernel
theorem xe_157_94 (a0 a1 a2 : Option MV) (x : Int) (st : List MV) (μ : MM) (G : MG) : ev 157 94 [a0, a1, a2] (vR x :: st) μ G = if gk G x = 11 then ev 157 97 [a0, a1, a2] (vR (μ x 3) :: st) μ G else none := ev_if pg_157_94 rfl
theorem pg_157_97 : mm_prog 157 97 = some (0, .iload_n 2, 98, []) := by decide +kernel
theorem xe_157_97 (a0 a1 : Option MV) (x : Int) (st : List MV) (μ : MM) (G : MG) : ev 157 97 [a0, a1, some (vI x)] st μ G = ev 157 98 [a0, a1, some (vI x)] (vI x :: st) μ G := ev_stp pg_157_97 rfl
theorem pg_157_98 : mm_prog 157 98 = some (0, .aload_n 0, 99, []) := by decide +kernel
theorem xe_157_98 (a1 a2 : Option MV) (x : Int) (st : List MV) (μ : MM) (G : MG) : ev 157 98 [some (vR x), a1, a2] st μ G = ev 157 99 [some (vR x), a1, a2] (vR x :: st) μ G := ev_stp pg_157_98 rfl
theorem pg_157_99 : mm_prog 157 99 = some (0, .getfield 17, 102, [11, 2, 2]) := by decide +kernel
theorem xe_157_99 (a0 a1 a2 : Option MV) (x : Int) (st : List MV) (μ : MM) (G : MG) : ev 157 99 [a0, a1, a2] (vR x :: st) μ G = if gk G x = 11 then ev 157 102 [a0, a1, a2] (vR (μ x 2) :: st) μ G else none := ev_if pg_157_99 rfl
theorem pg_157_102 : mm_prog 157 102 = some (0, .iload_n 2, 103, []) := by decide +kernel
theorem xe_157_102 (a0 a1 : Option MV) (x : Int) (st : List MV) (μ : MM) (G : MG) : ev 157 102 [a0, a1, some (vI x)] st μ G = ev 157 103 [a0, a1, some (vI x)] (vI x :: st) μ G := ev_stp pg_157_102 rfl
theorem pg_157_103 : mm_prog 157 103 = some (0, .iaload, 104, []) := by decide +kernel
theorem xe_157_103 (a0 a1 a2 : Option MV) (x y : Int) (st : List MV) (μ : MM) (G : MG) : ev 157 103 [a0, a1, a2] (vI x :: vR y :: st) μ G = if gk G y = 100 ∧ 0 ≤ x ∧ x < gl G y then ev 157 104 [a0, a1, a2] (vI (μ y x) :: st) μ G else none := ev_if pg_157_103 rfl
theorem pg_157_104 : mm_prog 157 104 = some (0, .iastore, 105, []) := by decide +kernel
theorem xe_157_104 (a0 a1 a2 : Option MV) (x y z : Int) (st : List MV) (μ : MM) (G : MG) : ev 157 104 [a0, a1, a2] (vI x :: vI y :: vR z :: st) μ G = if gk G z = 100 ∧ 0 ≤ y ∧ y < gl G z ∧ 10 ≤ z then ev 157 105 [a0, a1, a2] st (mset μ z y x) G else none := ev_if pg_157_104 rfl
theorem pg_157_105 : mm_prog 157 105 = some (0, .iinc 2 1, 108, []) := by decide +kernel
theorem xe_157_105 (a0 a1 : Option MV) (x : Int) (st : List MV) (μ : MM) (G : MG) (h : mm_nL a1 = true) : ev 157 105 [a0, a1, some (vI x)] st μ G = ev 157 108 [a0, a1, some (vI (w32 (x + (1))))] st μ G := ev_st pg_157_105 rfl (mm_nl_of h) (Nat.le_of_ble_eq_true rfl)
theorem pg_157_108 : mm_prog 157 108 = some (0, .goto (-20), 111, []) := by decide +kernel
theorem xe_157_108 (a0 a1 a2 : Option MV) (st : List MV) (μ : MM) (G : MG) : ev 157 108 [a0, a1, a2] st μ G = ev 157 88 [a0, a1, a2] st μ G := ev_stp pg_157_108 rfl
theorem pg_157_111 : mm_prog 157 111 = some (0, .aload_n 0, 112, []) := by decide +kernel
theorem xe_157_111 (a1 a2 : Option MV) (x : Int) (st : List MV) (μ : MM) (G : MG) : ev 157 111 [some (vR x), a1, a2] st μ G = ev 157 112 [some (vR x), a1, a2] (vR x :: st) μ G := ev_stp pg_157_111 rfl
theorem pg_157_112 : mm_prog 157 112 = some (0, .iload_n 1, 113, []) := by decide +kernel
theorem xe_157_112 (a0 a2 : Option MV) (x : Int) (st : List MV) (μ : MM) (G : MG) : ev 157 112 [a0, some (vI x), a2] st μ G = ev 157 113 [a0, some (vI x), a2] (vI x :: st) μ G := ev_stp pg_157_112 rfl
theorem pg_157_113 : mm_prog 157 113 = some (0, .sipush 128, 116, []) := by decide +kernel
theorem xe_157_113 (a0 a1 a2 : Option MV) (st : List MV) (μ : MM) (G : MG) : ev 157 113 [a0, a1, a2] st μ G = ev 157 116 [a0, a1, a2] (vI (128) :: st) μ G := ev_stp pg_157_113 rfl
theorem pg_157_116 : mm_prog 157 116 = some (0, .idiv, 117, []) := by decide +kernel
theorem xe_157_116 (a0 a1 a2 : Option MV) (x y : Int) (st : List MV) (μ : MM) (G : MG) : ev 157 116 [a0, a1, a2] (vI y :: vI x :: st) μ G = if y = 0 then none else ev 157 117 [a0, a1, a2] (vI (mm_div x y) :: st) μ G := ev_no pg_157_116 rfl
theorem pg_157_117 : mm_prog 157 117 = some (0, .putfield 128, 120, [11, 6, 0]) := by decide +kernel
theorem xe_157_117 (a0 a1 a2 : Option MV) (x y : Int) (st : List MV) (μ : MM) (G : MG) : ev 157 117 [a0, a1, a2] (vI x :: vR y :: st) μ G = if gk G y = 11 then ev 157 120 [a0, a1, a2] st (mset μ y 6 x) G else none := ev_put0 pg_157_117
theorem pg_157_120 : mm_prog 157 120 = some (0, .aload_n 0, 121, []) := by decide +kernel
theorem xe_157_120 (a1 a2 : Option MV) (x : Int) (st : List MV) (μ : MM) (G : MG) : ev 157 120 [some (vR x), a1, a2] st μ G = ev 157 121 [some (vR x), a1, a2] (vR x :: st) μ G := ev_stp pg_157_120 rfl
theorem pg_157_121 : mm_prog 157 121 = some (1, .invokevirtual 131, 124, [1, 176, 0, 11]) := by decide +kernel
theorem xe_157_121 (a0 a1 a2 : Option MV) (z : Int) (μ : MM) (G : MG) : ev 157 121 [a0, a1, a2] (vR z :: []) μ G = if gk G z = 11 ∧ 0 < z then (ev 176 0 [some (vR z), none, none, none, none] [] μ G).bind (fun q => ev 157 124 [a0, a1, a2] (q.1.toList ++ []) q.2.1 q.2.2) else none := ev_calV (as := [vR z]) (r := []) mx_176 pg_157_121 rfl rfl (Nat.le_of_ble_eq_true rfl) (Nat.le_of_ble_eq_true rfl)
theorem pg_157_124 : mm_prog 157 124 = some (0, .aload_n 0, 125, []) := by decide +kernel
theorem xe_157_124 (a1 a2 : Option MV) (x : Int) (st : List MV) (μ : MM) (G : MG) : ev 157 124 [some (vR x), a1, a2] st μ G = ev 157 125 [some (vR x), a1, a2] (vR x :: st) μ G := ev_stp pg_157_124 rfl
theorem pg_157_125 : mm_prog 157 125 = some (0, .getfield 134, 128, [11, 23, 0]) := by decide +kernel
theorem xe_157_125 (a0 a1 a2 : Option MV) (x : Int) (st : List MV) (μ : MM) (G : MG) : ev 157 125 [a0, a1, a2] (vR x :: st) μ G = if gk G x = 11 then ev 157 128 [a0, a1, a2] (vI (μ x 23) :: st) μ G else none := ev_if pg_157_125 rfl
theorem pg_157_128 : mm_prog 157 128 = some (2, .ireturn, 129, [0]) := by decide +kernel
theorem xe_157_128 (a0 a1 a2 : Option MV) (x : Int) (μ : MM) (G : MG) : ev 157 128 [a0, a1, a2] [vI x] μ G = some (some (vI x), μ, G) := ev_ret pg_157_128 rfl
-- X11_fault
theorem pg_158_0 : mm_prog 158 0 = some (0, .aload_n 0, 1, []) := by decide +kernel
theorem xe_158_0 (a1 : Option MV) (x : Int) (st : List MV) (μ : MM) (G : MG) : ev 158 0 [some (vR x), a1] st μ G = ev 158 1 [some (vR x), a1] (vR x :: st) μ G := ev_stp pg_158_0 rfl
theorem pg_158_1 : mm_prog 158 1 = some (0, .iconst 0, 2, []) := by decide +kernel
theorem xe_158_1 (a0 a1 : Option MV) (st : List MV) (μ : MM) (G : MG) : ev 158 1 [a0, a1] st μ G = ev 158 2 [a0, a1] (vI (0) :: st) μ G := ev_stp pg_158_1 rfl
theorem pg_158_2 : mm_prog 158 2 = some (0, .putfield 1, 5, [11, 0, 0]) := by decide +kernel
theorem xe_158_2 (a0 a1 : Option MV) (x y : Int) (st : List MV) (μ : MM) (G : MG) : ev 158 2 [a0, a1] (vI x :: vR y :: st) μ G = if gk G y = 11 then ev 158 5 [a0, a1] st (mset μ y 0 x) G else none := ev_put0 pg_158_2
theorem pg_158_5 : mm_prog 158 5 = some (0, .iload_n 1, 6, []) := by decide +kernel
theorem xe_158_5 (a0 : Option MV) (x : Int) (st : List MV) (μ : MM) (G : MG) : ev 158 5 [a0, some (vI x)] st μ G = ev 158 6 [a0, some (vI x)] (vI x :: st) μ G := ev_stp pg_158_5 rfl
theorem pg_158_6 : mm_prog 158 6 = some (0, .ifCond .ne 10, 9, []) := by decide +kernel
theorem xe_158_6 (a0 a1 : Option MV) (x : Int) (st : List MV) (μ : MM) (G : MG) : ev 158 6 [a0, a1] (vI x :: st) μ G = if ¬ x = 0 then ev 158 16 [a0, a1] st μ G else ev 158 9 [a0, a1] st μ G := ev_br (mm_cnd_ne x 0) pg_158_6 rfl
theorem pg_158_9 : mm_prog 158 9 = some (0, .aload_n 0, 10, []) := by decide +kernel
theorem xe_158_9 (a1 : Option MV) (x : Int) (st : List MV) (μ : MM) (G : MG) : ev 158 9 [some (vR x), a1] st μ G = ev 158 10 [some (vR x), a1] (vR x :: st) μ G := ev_stp pg_158_9 rfl
theorem pg_158_10 : mm_prog 158 10 = some (0, .getfield 99, 13, [11, 7, 0]) := by decide +kernel
theorem xe_158_10 (a0 a1 : Option MV) (x : Int) (st : List MV) (μ : MM) (G : MG) : ev 158 10 [a0, a1] (vR x :: st) μ G = if gk G x = 11 then ev 158 13 [a0, a1] (vI (μ x 7) :: st) μ G else none := ev_if pg_158_10 rfl
theorem pg_158_13 : mm_prog 158 13 = some (0, .goto 16, 16, []) := by decide +kernel
theorem xe_158_13 (a0 a1 : Option MV) (st : List MV) (μ : MM) (G : MG) : ev 158 13 [a0, a1] st μ G = ev 158 29 [a0, a1] st μ G := ev_stp pg_158_13 rfl
theorem pg_158_16 : mm_prog 158 16 = some (0, .iload_n 1, 17, []) := by decide +kernel
theorem xe_158_16 (a0 : Option MV) (x : Int) (st : List MV) (μ : MM) (G : MG) : ev 158 16 [a0, some (vI x)] st μ G = ev 158 17 [a0, some (vI x)] (vI x :: st) μ G := ev_stp pg_158_16 rfl
theorem pg_158_17 : mm_prog 158 17 = some (0, .iconst 1, 18, []) := by decide +kernel
theorem xe_158_17 (a0 a1 : Option MV) (st : List MV) (μ : MM) (G : MG) : ev 158 17 [a0, a1] st μ G = ev 158 18 [a0, a1] (vI (1) :: st) μ G := ev_stp pg_158_17 rfl
theorem pg_158_18 : mm_prog 158 18 = some (0, .if_icmp .ne 10, 21, []) := by decide +kernel
theorem xe_158_18 (a0 a1 : Option MV) (x y : Int) (st : List MV) (μ : MM) (G : MG) : ev 158 18 [a0, a1] (vI y :: vI x :: st) μ G = if ¬ x = y then ev 158 28 [a0, a1] st μ G else ev 158 21 [a0, a1] st μ G := ev_br (mm_cnd_ne x y) pg_158_18 rfl
theorem pg_158_21 : mm_prog 158 21 = some (0, .aload_n 0, 22, []) := by decide +kernel
theorem xe_158_21 (a1 : Option MV) (x : Int) (st : List MV) (μ : MM) (G : MG) : ev 158 21 [some (vR x), a1] st μ G = ev 158 22 [some (vR x), a1] (vR x :: st) μ G := ev_stp pg_158_21 rfl
theorem pg_158_22 : mm_prog 158 22 = some (0, .getfield 23, 25, [11, 8, 0]) := by decide +kernel
theorem xe_158_22 (a0 a1 : Option MV) (x : Int) (st : List MV) (μ : MM) (G : MG) : ev 158 22 [a0, a1] (vR x :: st) μ G = if gk G x = 11 then ev 158 25 [a0, a1] (vI (μ x 8) :: st) μ G else none := ev_if pg_158_22 rfl
theorem pg_158_25 : mm_prog 158 25 = some (0, .goto 4, 28, []) := by decide +kernel
theorem xe_158_25 (a0 a1 : Option MV) (st : List MV) (μ : MM) (G : MG) : ev 158 25 [a0, a1] st μ G = ev 158 29 [a0, a1] st μ G := ev_stp pg_158_25 rfl
theorem pg_158_28 : mm_prog 158 28 = some (0, .iconst (-1), 29, []) := by decide +kernel
theorem xe_158_28 (a0 a1 : Option MV) (st : List MV) (μ : MM) (G : MG) : ev 158 28 [a0, a1] st μ G = ev 158 29 [a0, a1] (vI (-1) :: st) μ G := ev_stp pg_158_28 rfl
theorem pg_158_29 : mm_prog 158 29 = some (2, .ireturn, 30, [0]) := by decide +kernel
theorem xe_158_29 (a0 a1 : Option MV) (x : Int) (μ : MM) (G : MG) : ev 158 29 [a0, a1] [vI x] μ G = some (some (vI x), μ, G) := ev_ret pg_158_29 rfl
-- X11_mend
theorem pg_159_0 : mm_prog 159 0 = some (0, .aload_n 0, 1, []) := by decide +kernel
theorem xe_159_0 (a1 a2 : Option MV) (x : Int) (st : List MV) (μ : MM) (G : MG) : ev 159 0 [some (vR x), a1, a2] st μ G = ev 159 1 [some (vR x), a1, a2] (vR x :: st) μ G := ev_stp pg_159_0 rfl
theorem pg_159_1 : mm_prog 159 1 = some (0, .iconst 0, 2, []) := by decide +kernel
theorem xe_159_1 (a0 a1 a2 : Option MV) (st : List MV) (μ : MM) (G : MG) : ev 159 1 [a0, a1, a2] st μ G = ev 159 2 [a0, a1, a2] (vI (0) :: st) μ G := ev_stp pg_159_1 rfl
theorem pg_159_2 : mm_prog 159 2 = some (0, .putfield 1, 5, [11, 0, 0]) := by decide +kernel
theorem xe_159_2 (a0 a1 a2 : Option MV) (x y : Int) (st : List MV) (μ : MM) (G : MG) : ev 159 2 [a0, a1, a2] (vI x :: vR y :: st) μ G = if gk G y = 11 then ev 159 5 [a0, a1, a2] st (mset μ y 0 x) G else none := ev_put0 pg_159_2
theorem pg_159_5 : mm_prog 159 5 = some (0, .iload_n 1, 6, []) := by decide +kernel
theorem xe_159_5 (a0 a2 : Option MV) (x : Int) (st : List MV) (μ : MM) (G : MG) : ev 159 5 [a0, some (vI x), a2] st μ G = ev 159 6 [a0, some (vI x), a2] (vI x :: st) μ G := ev_stp pg_159_5 rfl
theorem pg_159_6 : mm_prog 159 6 = some (0, .ifCond .ge 6, 9, []) := by decide +kernel
theorem xe_159_6 (a0 a1 a2 : Option MV) (x : Int) (st : List MV) (μ : MM) (G : MG) : ev 159 6 [a0, a1, a2] (vI x :: st) μ G = if 0 ≤ x then ev 159 12 [a0, a1, a2] st μ G else ev 159 9 [a0, a1, a2] st μ G := ev_br (mm_cnd_ge x 0) pg_159_6 rfl
theorem pg_159_9 : mm_prog 159 9 = some (0, .bipush (-3), 11, []) := by decide +kernel
theorem xe_159_9 (a0 a1 a2 : Option MV) (st : List MV) (μ : MM) (G : MG) : ev 159 9 [a0, a1, a2] st μ G = ev 159 11 [a0, a1, a2] (vI (-3) :: st) μ G := ev_stp pg_159_9 rfl
theorem pg_159_11 : mm_prog 159 11 = some (2, .ireturn, 12, [0]) := by decide +kernel
theorem xe_159_11 (a0 a1 a2 : Option MV) (x : Int) (μ : MM) (G : MG) : ev 159 11 [a0, a1, a2] [vI x] μ G = some (some (vI x), μ, G) := ev_ret pg_159_11 rfl
theorem pg_159_12 : mm_prog 159 12 = some (0, .iload_n 1, 13, []) := by decide +kernel
theorem xe_159_12 (a0 a2 : Option MV) (x : Int) (st : List MV) (μ : MM) (G : MG) : ev 159 12 [a0, some (vI x), a2] st μ G = ev 159 13 [a0, some (vI x), a2] (vI x :: st) μ G := ev_stp pg_159_12 rfl
theorem pg_159_13 : mm_prog 159 13 = some (0, .aload_n 0, 14, []) := by decide +kernel
theorem xe_159_13 (a1 a2 : Option MV) (x : Int) (st : List MV) (μ : MM) (G : MG) : ev 159 13 [some (vR x), a1, a2] st μ G = ev 159 14 [some (vR x), a1, a2] (vR x :: st) μ G := ev_stp pg_159_13 rfl
theorem pg_159_14 : mm_prog 159 14 = some (0, .getfield 102, 17, [11, 5, 0]) := by decide +kernel
theorem xe_159_14 (a0 a1 a2 : Option MV) (x : Int) (st : List MV) (μ : MM) (G : MG) : ev 159 14 [a0, a1, a2] (vR x :: st) μ G = if gk G x = 11 then ev 159 17 [a0, a1, a2] (vI (μ x 5) :: st) μ G else none := ev_if pg_159_14 rfl
theorem pg_159_17 : mm_prog 159 17 = some (0, .aload_n 0, 18, []) := by decide +kernel
theorem xe_159_17 (a1 a2 : Option MV) (x : Int) (st : List MV) (μ : MM) (G : MG) : ev 159 17 [some (vR x), a1, a2] st μ G = ev 159 18 [some (vR x), a1, a2] (vR x :: st) μ G := ev_stp pg_159_17 rfl
theorem pg_159_18 : mm_prog 159 18 = some (0, .getfield 102, 21, [11, 5, 0]) := by decide +kernel
theorem xe_159_18 (a0 a1 a2 : Option MV) (x : Int) (st : List MV) (μ : MM) (G : MG) : ev 159 18 [a0, a1, a2] (vR x :: st) μ G = if gk G x = 11 then ev 159 21 [a0, a1, a2] (vI (μ x 5) :: st) μ G else none := ev_if pg_159_18 rfl
theorem pg_159_21 : mm_prog 159 21 = some (0, .sipush 128, 24, []) := by decide +kernel
theorem xe_159_21 (a0 a1 a2 : Option MV) (st : List MV) (μ : MM) (G : MG) : ev 159 21 [a0, a1, a2] st μ G = ev 159 24 [a0, a1, a2] (vI (128) :: st) μ G := ev_stp pg_159_21 rfl
theorem pg_159_24 : mm_prog 159 24 = some (0, .irem, 25, []) := by decide +kernel
theorem xe_159_24 (a0 a1 a2 : Option MV) (x y : Int) (st : List MV) (μ : MM) (G : MG) : ev 159 24 [a0, a1, a2] (vI y :: vI x :: st) μ G = if y = 0 then none else ev 159 25 [a0, a1, a2] (vI (mm_rem x y) :: st) μ G := ev_no pg_159_24 rfl
theorem pg_159_25 : mm_prog 159 25 = some (0, .isub, 26, []) := by decide +kernel
theorem xe_159_25 (a0 a1 a2 : Option MV) (x y : Int) (st : List MV) (μ : MM) (G : MG) : ev 159 25 [a0, a1, a2] (vI y :: vI x :: st) μ G = ev 159 26 [a0, a1, a2] (vI (w32 (x - y)) :: st) μ G := ev_stp pg_159_25 rfl
theorem pg_159_26 : mm_prog 159 26 = some (0, .if_icmp .lt 5, 29, []) := by decide +kernel
theorem xe_159_26 (a0 a1 a2 : Option MV) (x y : Int) (st : List MV) (μ : MM) (G : MG) : ev 159 26 [a0, a1, a2] (vI y :: vI x :: st) μ G = if x < y then ev 159 31 [a0, a1, a2] st μ G else ev 159 29 [a0, a1, a2] st μ G := ev_br (mm_cnd_lt x y) pg_159_26 rfl
theorem pg_159_29 : mm_prog 159 29 = some (0, .iconst (-1), 30, []) := by decide +kernel
theorem xe_159_29 (a0 a1 a2 : Option MV) (st : List MV) (μ : MM) (G : MG) : ev 159 29 [a0, a1, a2] st μ G = ev 159 30 [a0, a1, a2] (vI (-1) :: st) μ G := ev_stp pg_159_29 rfl
theorem pg_159_30 : mm_prog 159 30 = some (2, .ireturn, 31, [0]) := by decide +kernel
theorem xe_159_30 (a0 a1 a2 : Option MV) (x : Int) (μ : MM) (G : MG) : ev 159 30 [a0, a1, a2] [vI x] μ G = some (some (vI x), μ, G) := ev_ret pg_159_30 rfl
theorem pg_159_31 : mm_prog 159 31 = some (0, .aload_n 0, 32, []) := by decide +kernel
theorem xe_159_31 (a1 a2 : Option MV) (x : Int) (st : List MV) (μ : MM) (G : MG) : ev 159 31 [some (vR x), a1, a2] st μ G = ev 159 32 [some (vR x), a1, a2] (vR x :: st) μ G := ev_stp pg_159_31 rfl
theorem pg_159_32 : mm_prog 159 32 = some (0, .iload_n 1, 33, []) := by decide +kernel
theorem xe_159_32 (a0 a2 : Option MV) (x : Int) (st : List MV) (μ : MM) (G : MG) : ev 159 32 [a0, some (vI x), a2] st μ G = ev 159 33 [a0, some (vI x), a2] (vI x :: st) μ G := ev_stp pg_159_32 rfl
theorem pg_159_33 : mm_prog 159 33 = some (0, .sipush 128, 36, []) := by decide +kernel
theorem xe_159_33 (a0 a1 a2 : Option MV) (st : List MV) (μ : MM) (G : MG) : ev 159 33 [a0, a1, a2] st μ G = ev 159 36 [a0, a1, a2] (vI (128) :: st) μ G := ev_stp pg_159_33 rfl
theorem pg_159_36 : mm_prog 159 36 = some (0, .idiv, 37, []) := by decide +kernel
theorem xe_159_36 (a0 a1 a2 : Option MV) (x y : Int) (st : List MV) (μ : MM) (G : MG) : ev 159 36 [a0, a1, a2] (vI y :: vI x :: st) μ G = if y = 0 then none else ev 159 37 [a0, a1, a2] (vI (mm_div x y) :: st) μ G := ev_no pg_159_36 rfl
theorem pg_159_37 : mm_prog 159 37 = some (1, .invokevirtual 115, 40, [1, 154, 1, 11]) := by decide +kernel
theorem xe_159_37 (a0 a1 a2 : Option MV) (x0 z : Int) (μ : MM) (G : MG) : ev 159 37 [a0, a1, a2] (vI x0 :: vR z :: []) μ G = if gk G z = 11 ∧ 0 < z then (ev 154 0 [some (vR z), some (vI x0), none, none] [] μ G).bind (fun q => ev 159 40 [a0, a1, a2] (q.1.toList ++ []) q.2.1 q.2.2) else none := ev_calV (as := [vR z, vI x0]) (r := []) mx_154 pg_159_37 rfl rfl (Nat.le_of_ble_eq_true rfl) (Nat.le_of_ble_eq_true rfl)
theorem pg_159_40 : mm_prog 159 40 = some (0, .aload_n 0, 41, []) := by decide +kernel
theorem xe_159_40 (a1 a2 : Option MV) (x : Int) (st : List MV) (μ : MM) (G : MG) : ev 159 40 [some (vR x), a1, a2] st μ G = ev 159 41 [some (vR x), a1, a2] (vR x :: st) μ G := ev_stp pg_159_40 rfl
theorem pg_159_41 : mm_prog 159 41 = some (0, .getfield 17, 44, [11, 2, 2]) := by decide +kernel
theorem xe_159_41 (a0 a1 a2 : Option MV) (x : Int) (st : List MV) (μ : MM) (G : MG) : ev 159 41 [a0, a1, a2] (vR x :: st) μ G = if gk G x = 11 then ev 159 44 [a0, a1, a2] (vR (μ x 2) :: st) μ G else none := ev_if pg_159_41 rfl
theorem pg_159_44 : mm_prog 159 44 = some (0, .iload_n 1, 45, []) := by decide +kernel
theorem xe_159_44 (a0 a2 : Option MV) (x : Int) (st : List MV) (μ : MM) (G : MG) : ev 159 44 [a0, some (vI x), a2] st μ G = ev 159 45 [a0, some (vI x), a2] (vI x :: st) μ G := ev_stp pg_159_44 rfl
theorem pg_159_45 : mm_prog 159 45 = some (0, .iaload, 46, []) := by decide +kernel
theorem xe_159_45 (a0 a1 a2 : Option MV) (x y : Int) (st : List MV) (μ : MM) (G : MG) : ev 159 45 [a0, a1, a2] (vI x :: vR y :: st) μ G = if gk G y = 100 ∧ 0 ≤ x ∧ x < gl G y then ev 159 46 [a0, a1, a2] (vI (μ y x) :: st) μ G else none := ev_if pg_159_45 rfl
theorem pg_159_46 : mm_prog 159 46 = some (0, .isub, 47, []) := by decide +kernel
theorem xe_159_46 (a0 a1 a2 : Option MV) (x y : Int) (st : List MV) (μ : MM) (G : MG) : ev 159 46 [a0, a1, a2] (vI y :: vI x :: st) μ G = ev 159 47 [a0, a1, a2] (vI (w32 (x - y)) :: st) μ G := ev_stp pg_159_46 rfl
theorem pg_159_47 : mm_prog 159 47 = some (0, .istore_n 2, 48, []) := by decide +kernel
theorem xe_159_47 (a0 a1 a2 : Option MV) (x : Int) (st : List MV) (μ : MM) (G : MG) (h : mm_nL a1 = true) : ev 159 47 [a0, a1, a2] (vI x :: st) μ G = ev 159 48 [a0, a1, some (vI x)] st μ G := ev_st pg_159_47 rfl (mm_nl_of h) (Nat.le_of_ble_eq_true rfl)
theorem pg_159_48 : mm_prog 159 48 = some (0, .sipush 256, 51, []) := by decide +kernel
theorem xe_159_48 (a0 a1 a2 : Option MV) (st : List MV) (μ : MM) (G : MG) : ev 159 48 [a0, a1, a2] st μ G = ev 159 51 [a0, a1, a2] (vI (256) :: st) μ G := ev_stp pg_159_48 rfl
theorem pg_159_51 : mm_prog 159 51 = some (0, .iload_n 2, 52, []) := by decide +kernel
theorem xe_159_51 (a0 a1 : Option MV) (x : Int) (st : List MV) (μ : MM) (G : MG) : ev 159 51 [a0, a1, some (vI x)] st μ G = ev 159 52 [a0, a1, some (vI x)] (vI x :: st) μ G := ev_stp pg_159_51 rfl
theorem pg_159_52 : mm_prog 159 52 = some (0, .sipush 256, 55, []) := by decide +kernel
theorem xe_159_52 (a0 a1 a2 : Option MV) (st : List MV) (μ : MM) (G : MG) : ev 159 52 [a0, a1, a2] st μ G = ev 159 55 [a0, a1, a2] (vI (256) :: st) μ G := ev_stp pg_159_52 rfl
theorem pg_159_55 : mm_prog 159 55 = some (0, .irem, 56, []) := by decide +kernel
theorem xe_159_55 (a0 a1 a2 : Option MV) (x y : Int) (st : List MV) (μ : MM) (G : MG) : ev 159 55 [a0, a1, a2] (vI y :: vI x :: st) μ G = if y = 0 then none else ev 159 56 [a0, a1, a2] (vI (mm_rem x y) :: st) μ G := ev_no pg_159_55 rfl
theorem pg_159_56 : mm_prog 159 56 = some (0, .isub, 57, []) := by decide +kernel
theorem xe_159_56 (a0 a1 a2 : Option MV) (x y : Int) (st : List MV) (μ : MM) (G : MG) : ev 159 56 [a0, a1, a2] (vI y :: vI x :: st) μ G = ev 159 57 [a0, a1, a2] (vI (w32 (x - y)) :: st) μ G := ev_stp pg_159_56 rfl
theorem pg_159_57 : mm_prog 159 57 = some (0, .sipush 256, 60, []) := by decide +kernel
theorem xe_159_57 (a0 a1 a2 : Option MV) (st : List MV) (μ : MM) (G : MG) : ev 159 57 [a0, a1, a2] st μ G = ev 159 60 [a0, a1, a2] (vI (256) :: st) μ G := ev_stp pg_159_57 rfl
theorem pg_159_60 : mm_prog 159 60 = some (0, .irem, 61, []) := by decide +kernel
theorem xe_159_60 (a0 a1 a2 : Option MV) (x y : Int) (st : List MV) (μ : MM) (G : MG) : ev 159 60 [a0, a1, a2] (vI y :: vI x :: st) μ G = if y = 0 then none else ev 159 61 [a0, a1, a2] (vI (mm_rem x y) :: st) μ G := ev_no pg_159_60 rfl
theorem pg_159_61 : mm_prog 159 61 = some (2, .ireturn, 62, [0]) := by decide +kernel
theorem xe_159_61 (a0 a1 a2 : Option MV) (x : Int) (μ : MM) (G : MG) : ev 159 61 [a0, a1, a2] [vI x] μ G = some (some (vI x), μ, G) := ev_ret pg_159_61 rfl
-- X11_at
theorem pg_160_0 : mm_prog 160 0 = some (0, .aload_n 0, 1, []) := by decide +kernel
theorem xe_160_0 (a1 : Option MV) (x : Int) (st : List MV) (μ : MM) (G : MG) : ev 160 0 [some (vR x), a1] st μ G = ev 160 1 [some (vR x), a1] (vR x :: st) μ G := ev_stp pg_160_0 rfl
theorem pg_160_1 : mm_prog 160 1 = some (0, .getfield 20, 4, [11, 3, 2]) := by decide +kernel
theorem xe_160_1 (a0 a1 : Option MV) (x : Int) (st : List MV) (μ : MM) (G : MG) : ev 160 1 [a0, a1] (vR x :: st) μ G = if gk G x = 11 then ev 160 4 [a0, a1] (vR (μ x 3) :: st) μ G else none := ev_if pg_160_1 rfl
theorem pg_160_4 : mm_prog 160 4 = some (0, .iload_n 1, 5, []) := by decide +kernel
theorem xe_160_4 (a0 : Option MV) (x : Int) (st : List MV) (μ : MM) (G : MG) : ev 160 4 [a0, some (vI x)] st μ G = ev 160 5 [a0, some (vI x)] (vI x :: st) μ G := ev_stp pg_160_4 rfl
theorem pg_160_5 : mm_prog 160 5 = some (0, .iaload, 6, []) := by decide +kernel
theorem xe_160_5 (a0 a1 : Option MV) (x y : Int) (st : List MV) (μ : MM) (G : MG) : ev 160 5 [a0, a1] (vI x :: vR y :: st) μ G = if gk G y = 100 ∧ 0 ≤ x ∧ x < gl G y then ev 160 6 [a0, a1] (vI (μ y x) :: st) μ G else none := ev_if pg_160_5 rfl
theorem pg_160_6 : mm_prog 160 6 = some (2, .ireturn, 7, [0]) := by decide +kernel
theorem xe_160_6 (a0 a1 : Option MV) (x : Int) (μ : MM) (G : MG) : ev 160 6 [a0, a1] [vI x] μ G = some (some (vI x), μ, G) := ev_ret pg_160_6 rfl
-- X11_readsDetailed
theorem pg_161_0 : mm_prog 161 0 = some (0, .bipush 11, 2, []) := by decide +kernel
theorem xe_161_0 (a0 a1 a2 a3 : Option MV) (st : List MV) (μ : MM) (G : MG) : ev 161 0 [a0, a1, a2, a3] st μ G = ev 161 2 [a0, a1, a2, a3] (vI (11) :: st) μ G := ev_stp pg_161_0 rfl
theorem pg_161_2 : mm_prog 161 2 = some (0, .aload_n 0, 3, []) := by decide +kernel
theorem xe_161_2 (a1 a2 a3 : Option MV) (x : Int) (st : List MV) (μ : MM) (G : MG) : ev 161 2 [some (vR x), a1, a2, a3] st μ G = ev 161 3 [some (vR x), a1, a2, a3] (vR x :: st) μ G := ev_stp pg_161_2 rfl
theorem pg_161_3 : mm_prog 161 3 = some (0, .getfield 137, 6, [11, 13, 0]) := by decide +kernel
theorem xe_161_3 (a0 a1 a2 a3 : Option MV) (x : Int) (st : List MV) (μ : MM) (G : MG) : ev 161 3 [a0, a1, a2, a3] (vR x :: st) μ G = if gk G x = 11 then ev 161 6 [a0, a1, a2, a3] (vI (μ x 13) :: st) μ G else none := ev_if pg_161_3 rfl
theorem pg_161_6 : mm_prog 161 6 = some (0, .imul, 7, []) := by decide +kernel
theorem xe_161_6 (a0 a1 a2 a3 : Option MV) (x y : Int) (st : List MV) (μ : MM) (G : MG) : ev 161 6 [a0, a1, a2, a3] (vI y :: vI x :: st) μ G = ev 161 7 [a0, a1, a2, a3] (vI (w32 (x * y)) :: st) μ G := ev_stp pg_161_6 rfl
theorem pg_161_7 : mm_prog 161 7 = some (0, .istore_n 2, 8, []) := by decide +kernel
theorem xe_161_7 (a0 a1 a2 a3 : Option MV) (x : Int) (st : List MV) (μ : MM) (G : MG) (h : mm_nL a1 = true) : ev 161 7 [a0, a1, a2, a3] (vI x :: st) μ G = ev 161 8 [a0, a1, some (vI x), a3] st μ G := ev_st pg_161_7 rfl (mm_nl_of h) (Nat.le_of_ble_eq_true rfl)
theorem pg_161_8 : mm_prog 161 8 = some (0, .aload_n 0, 9, []) := by decide +kernel
theorem xe_161_8 (a1 a2 a3 : Option MV) (x : Int) (st : List MV) (μ : MM) (G : MG) : ev 161 8 [some (vR x), a1, a2, a3] st μ G = ev 161 9 [some (vR x), a1, a2, a3] (vR x :: st) μ G := ev_stp pg_161_8 rfl
theorem pg_161_9 : mm_prog 161 9 = some (0, .iload_n 1, 10, []) := by decide +kernel
theorem xe_161_9 (a0 a2 a3 : Option MV) (x : Int) (st : List MV) (μ : MM) (G : MG) : ev 161 9 [a0, some (vI x), a2, a3] st μ G = ev 161 10 [a0, some (vI x), a2, a3] (vI x :: st) μ G := ev_stp pg_161_9 rfl
theorem pg_161_10 : mm_prog 161 10 = some (0, .bipush 11, 12, []) := by decide +kernel
theorem xe_161_10 (a0 a1 a2 a3 : Option MV) (st : List MV) (μ : MM) (G : MG) : ev 161 10 [a0, a1, a2, a3] st μ G = ev 161 12 [a0, a1, a2, a3] (vI (11) :: st) μ G := ev_stp pg_161_10 rfl
theorem pg_161_12 : mm_prog 161 12 = some (0, .iadd, 13, []) := by decide +kernel
theorem xe_161_12 (a0 a1 a2 a3 : Option MV) (x y : Int) (st : List MV) (μ : MM) (G : MG) : ev 161 12 [a0, a1, a2, a3] (vI y :: vI x :: st) μ G = ev 161 13 [a0, a1, a2, a3] (vI (w32 (x + y)) :: st) μ G := ev_stp pg_161_12 rfl
theorem pg_161_13 : mm_prog 161 13 = some (1, .invokevirtual 140, 16, [1, 160, 1, 11]) := by decide +kernel
theorem xe_161_13 (a0 a1 a2 a3 : Option MV) (x0 z : Int) (μ : MM) (G : MG) : ev 161 13 [a0, a1, a2, a3] (vI x0 :: vR z :: []) μ G = if gk G z = 11 ∧ 0 < z then (ev 160 0 [some (vR z), some (vI x0)] [] μ G).bind (fun q => ev 161 16 [a0, a1, a2, a3] (q.1.toList ++ []) q.2.1 q.2.2) else none := ev_calV (as := [vR z, vI x0]) (r := []) mx_160 pg_161_13 rfl rfl (Nat.le_of_ble_eq_true rfl) (Nat.le_of_ble_eq_true rfl)
theorem pg_161_16 : mm_prog 161 16 = some (0, .istore_n 3, 17, []) := by decide +kernel
theorem xe_161_16 (a0 a1 a2 a3 : Option MV) (x : Int) (st : List MV) (μ : MM) (G : MG) (h : mm_nL a2 = true) : ev 161 16 [a0, a1, a2, a3] (vI x :: st) μ G = ev 161 17 [a0, a1, a2, some (vI x)] st μ G := ev_st pg_161_16 rfl (mm_nl_of h) (Nat.le_of_ble_eq_true rfl)
theorem pg_161_17 : mm_prog 161 17 = some (0, .aload_n 0, 18, []) := by decide +kernel
theorem xe_161_17 (a1 a2 a3 : Option MV) (x : Int) (st : List MV) (μ : MM) (G : MG) : ev 161 17 [some (vR x), a1, a2, a3] st μ G = ev 161 18 [some (vR x), a1, a2, a3] (vR x :: st) μ G := ev_stp pg_161_17 rfl
theorem pg_161_18 : mm_prog 161 18 = some (0, .getfield 26, 21, [11, 9, 2]) := by decide +kernel
theorem xe_161_18 (a0 a1 a2 a3 : Option MV) (x : Int) (st : List MV) (μ : MM) (G : MG) : ev 161 18 [a0, a1, a2, a3] (vR x :: st) μ G = if gk G x = 11 then ev 161 21 [a0, a1, a2, a3] (vR (μ x 9) :: st) μ G else none := ev_if pg_161_18 rfl
theorem pg_161_21 : mm_prog 161 21 = some (0, .iload_n 2, 22, []) := by decide +kernel
theorem xe_161_21 (a0 a1 a3 : Option MV) (x : Int) (st : List MV) (μ : MM) (G : MG) : ev 161 21 [a0, a1, some (vI x), a3] st μ G = ev 161 22 [a0, a1, some (vI x), a3] (vI x :: st) μ G := ev_stp pg_161_21 rfl
theorem pg_161_22 : mm_prog 161 22 = some (0, .bipush 10, 24, []) := by decide +kernel
theorem xe_161_22 (a0 a1 a2 a3 : Option MV) (st : List MV) (μ : MM) (G : MG) : ev 161 22 [a0, a1, a2, a3] st μ G = ev 161 24 [a0, a1, a2, a3] (vI (10) :: st) μ G := ev_stp pg_161_22 rfl
theorem pg_161_24 : mm_prog 161 24 = some (0, .sipush 256, 27, []) := by decide +kernel
theorem xe_161_24 (a0 a1 a2 a3 : Option MV) (st : List MV) (μ : MM) (G : MG) : ev 161 24 [a0, a1, a2, a3] st μ G = ev 161 27 [a0, a1, a2, a3] (vI (256) :: st) μ G := ev_stp pg_161_24 rfl
theorem pg_161_27 : mm_prog 161 27 = some (0, .aload_n 0, 28, []) := by decide +kernel
theorem xe_161_27 (a1 a2 a3 : Option MV) (x : Int) (st : List MV) (μ : MM) (G : MG) : ev 161 27 [some (vR x), a1, a2, a3] st μ G = ev 161 28 [some (vR x), a1, a2, a3] (vR x :: st) μ G := ev_stp pg_161_27 rfl
theorem pg_161_28 : mm_prog 161 28 = some (0, .iload_n 1, 29, []) := by decide +kernel
theorem xe_161_28 (a0 a2 a3 : Option MV) (x : Int) (st : List MV) (μ : MM) (G : MG) : ev 161 28 [a0, some (vI x), a2, a3] st μ G = ev 161 29 [a0, some (vI x), a2, a3] (vI x :: st) μ G := ev_stp pg_161_28 rfl
theorem pg_161_29 : mm_prog 161 29 = some (0, .iconst 1, 30, []) := by decide +kernel
theorem xe_161_29 (a0 a1 a2 a3 : Option MV) (st : List MV) (μ : MM) (G : MG) : ev 161 29 [a0, a1, a2, a3] st μ G = ev 161 30 [a0, a1, a2, a3] (vI (1) :: st) μ G := ev_stp pg_161_29 rfl
theorem pg_161_30 : mm_prog 161 30 = some (0, .iadd, 31, []) := by decide +kernel
theorem xe_161_30 (a0 a1 a2 a3 : Option MV) (x y : Int) (st : List MV) (μ : MM) (G : MG) : ev 161 30 [a0, a1, a2, a3] (vI y :: vI x :: st) μ G = ev 161 31 [a0, a1, a2, a3] (vI (w32 (x + y)) :: st) μ G := ev_stp pg_161_30 rfl
theorem pg_161_31 : mm_prog 161 31 = some (1, .invokevirtual 140, 34, [1, 160, 1, 11]) := by decide +kernel
theorem xe_161_31 (a0 a1 a2 a3 : Option MV) (x0 z r0 r1 r2 r3 : Int) (μ : MM) (G : MG) : ev 161 31 [a0, a1, a2, a3] (vI x0 :: vR z :: [vI r0, vI r1, vI r2, vR r3]) μ G = if gk G z = 11 ∧ 0 < z then (ev 160 0 [some (vR z), some (vI x0)] [] μ G).bind (fun q => ev 161 34 [a0, a1, a2, a3] (q.1.toList ++ [vI r0, vI r1, vI r2, vR r3]) q.2.1 q.2.2) else none := ev_calV (as := [vR z, vI x0]) (r := [vI r0, vI r1, vI r2, vR r3]) mx_160 pg_161_31 rfl rfl (Nat.le_of_ble_eq_true rfl) (Nat.le_of_ble_eq_true rfl)
theorem pg_161_34 : mm_prog 161 34 = some (0, .imul, 35, []) := by decide +kernel
theorem xe_161_34 (a0 a1 a2 a3 : Option MV) (x y : Int) (st : List MV) (μ : MM) (G : MG) : ev 161 34 [a0, a1, a2, a3] (vI y :: vI x :: st) μ G = ev 161 35 [a0, a1, a2, a3] (vI (w32 (x * y)) :: st) μ G := ev_stp pg_161_34 rfl
theorem pg_161_35 : mm_prog 161 35 = some (0, .aload_n 0, 36, []) := by decide +kernel
theorem xe_161_35 (a1 a2 a3 : Option MV) (x : Int) (st : List MV) (μ : MM) (G : MG) : ev 161 35 [some (vR x), a1, a2, a3] st μ G = ev 161 36 [some (vR x), a1, a2, a3] (vR x :: st) μ G := ev_stp pg_161_35 rfl
theorem pg_161_36 : mm_prog 161 36 = some (0, .iload_n 1, 37, []) := by decide +kernel
theorem xe_161_36 (a0 a2 a3 : Option MV) (x : Int) (st : List MV) (μ : MM) (G : MG) : ev 161 36 [a0, some (vI x), a2, a3] st μ G = ev 161 37 [a0, some (vI x), a2, a3] (vI x :: st) μ G := ev_stp pg_161_36 rfl
theorem pg_161_37 : mm_prog 161 37 = some (1, .invokevirtual 140, 40, [1, 160, 1, 11]) := by decide +kernel
theorem xe_161_37 (a0 a1 a2 a3 : Option MV) (x0 z r0 r1 r2 r3 : Int) (μ : MM) (G : MG) : ev 161 37 [a0, a1, a2, a3] (vI x0 :: vR z :: [vI r0, vI r1, vI r2, vR r3]) μ G = if gk G z = 11 ∧ 0 < z then (ev 160 0 [some (vR z), some (vI x0)] [] μ G).bind (fun q => ev 161 40 [a0, a1, a2, a3] (q.1.toList ++ [vI r0, vI r1, vI r2, vR r3]) q.2.1 q.2.2) else none := ev_calV (as := [vR z, vI x0]) (r := [vI r0, vI r1, vI r2, vR r3]) mx_160 pg_161_37 rfl rfl (Nat.le_of_ble_eq_true rfl) (Nat.le_of_ble_eq_true rfl)
theorem pg_161_40 : mm_prog 161 40 = some (0, .iadd, 41, []) := by decide +kernel
theorem xe_161_40 (a0 a1 a2 a3 : Option MV) (x y : Int) (st : List MV) (μ : MM) (G : MG) : ev 161 40 [a0, a1, a2, a3] (vI y :: vI x :: st) μ G = ev 161 41 [a0, a1, a2, a3] (vI (w32 (x + y)) :: st) μ G := ev_stp pg_161_40 rfl
theorem pg_161_41 : mm_prog 161 41 = some (0, .imul, 42, []) := by decide +kernel
theorem xe_161_41 (a0 a1 a2 a3 : Option MV) (x y : Int) (st : List MV) (μ : MM) (G : MG) : ev 161 41 [a0, a1, a2, a3] (vI y :: vI x :: st) μ G = ev 161 42 [a0, a1, a2, a3] (vI (w32 (x * y)) :: st) μ G := ev_stp pg_161_41 rfl
theorem pg_161_42 : mm_prog 161 42 = some (0, .iastore, 43, []) := by decide +kernel
theorem xe_161_42 (a0 a1 a2 a3 : Option MV) (x y z : Int) (st : List MV) (μ : MM) (G : MG) : ev 161 42 [a0, a1, a2, a3] (vI x :: vI y :: vR z :: st) μ G = if gk G z = 100 ∧ 0 ≤ y ∧ y < gl G z ∧ 10 ≤ z then ev 161 43 [a0, a1, a2, a3] st (mset μ z y x) G else none := ev_if pg_161_42 rfl
theorem pg_161_43 : mm_prog 161 43 = some (0, .aload_n 0, 44, []) := by decide +kernel
theorem xe_161_43 (a1 a2 a3 : Option MV) (x : Int) (st : List MV) (μ : MM) (G : MG) : ev 161 43 [some (vR x), a1, a2, a3] st μ G = ev 161 44 [some (vR x), a1, a2, a3] (vR x :: st) μ G := ev_stp pg_161_43 rfl
theorem pg_161_44 : mm_prog 161 44 = some (0, .getfield 26, 47, [11, 9, 2]) := by decide +kernel
theorem xe_161_44 (a0 a1 a2 a3 : Option MV) (x : Int) (st : List MV) (μ : MM) (G : MG) : ev 161 44 [a0, a1, a2, a3] (vR x :: st) μ G = if gk G x = 11 then ev 161 47 [a0, a1, a2, a3] (vR (μ x 9) :: st) μ G else none := ev_if pg_161_44 rfl
theorem pg_161_47 : mm_prog 161 47 = some (0, .iload_n 2, 48, []) := by decide +kernel
theorem xe_161_47 (a0 a1 a3 : Option MV) (x : Int) (st : List MV) (μ : MM) (G : MG) : ev 161 47 [a0, a1, some (vI x), a3] st μ G = ev 161 48 [a0, a1, some (vI x), a3] (vI x :: st) μ G := ev_stp pg_161_47 rfl
theorem pg_161_48 : mm_prog 161 48 = some (0, .iconst 1, 49, []) := by decide +kernel
theorem xe_161_48 (a0 a1 a2 a3 : Option MV) (st : List MV) (μ : MM) (G : MG) : ev 161 48 [a0, a1, a2, a3] st μ G = ev 161 49 [a0, a1, a2, a3] (vI (1) :: st) μ G := ev_stp pg_161_48 rfl
theorem pg_161_49 : mm_prog 161 49 = some (0, .iadd, 50, []) := by decide +kernel
theorem xe_161_49 (a0 a1 a2 a3 : Option MV) (x y : Int) (st : List MV) (μ : MM) (G : MG) : ev 161 49 [a0, a1, a2, a3] (vI y :: vI x :: st) μ G = ev 161 50 [a0, a1, a2, a3] (vI (w32 (x + y)) :: st) μ G := ev_stp pg_161_49 rfl
theorem pg_161_50 : mm_prog 161 50 = some (0, .aload_n 0, 51, []) := by decide +kernel
theorem xe_161_50 (a1 a2 a3 : Option MV) (x : Int) (st : List MV) (μ : MM) (G : MG) : ev 161 50 [some (vR x), a1, a2, a3] st μ G = ev 161 51 [some (vR x), a1, a2, a3] (vR x :: st) μ G := ev_stp pg_161_50 rfl
theorem pg_161_51 : mm_prog 161 51 = some (0, .iload_n 1, 52, []) := by decide +kernel
theorem xe_161_51 (a0 a2 a3 : Option MV) (x : Int) (st : List MV) (μ : MM) (G : MG) : ev 161 51 [a0, some (vI x), a2, a3] st μ G = ev 161 52 [a0, some (vI x), a2, a3] (vI x :: st) μ G := ev_stp pg_161_51 rfl
theorem pg_161_52 : mm_prog 161 52 = some (0, .iconst 2, 53, []) := by decide +kernel
theorem xe_161_52 (a0 a1 a2 a3 : Option MV) (st : List MV) (μ : MM) (G : MG) : ev 161 52 [a0, a1, a2, a3] st μ G = ev 161 53 [a0, a1, a2, a3] (vI (2) :: st) μ G := ev_stp pg_161_52 rfl
theorem pg_161_53 : mm_prog 161 53 = some (0, .iadd, 54, []) := by decide +kernel
theorem xe_161_53 (a0 a1 a2 a3 : Option MV) (x y : Int) (st : List MV) (μ : MM) (G : MG) : ev 161 53 [a0, a1, a2, a3] (vI y :: vI x :: st) μ G = ev 161 54 [a0, a1, a2, a3] (vI (w32 (x + y)) :: st) μ G := ev_stp pg_161_53 rfl
theorem pg_161_54 : mm_prog 161 54 = some (1, .invokevirtual 140, 57, [1, 160, 1, 11]) := by decide +kernel
theorem xe_161_54 (a0 a1 a2 a3 : Option MV) (x0 z r0 r1 : Int) (μ : MM) (G : MG) : ev 161 54 [a0, a1, a2, a3] (vI x0 :: vR z :: [vI r0, vR r1]) μ G = if gk G z = 11 ∧ 0 < z then (ev 160 0 [some (vR z), some (vI x0)] [] μ G).bind (fun q => ev 161 57 [a0, a1, a2, a3] (q.1.toList ++ [vI r0, vR r1]) q.2.1 q.2.2) else none := ev_calV (as := [vR z, vI x0]) (r := [vI r0, vR r1]) mx_160 pg_161_54 rfl rfl (Nat.le_of_ble_eq_true rfl) (Nat.le_of_ble_eq_true rfl)
theorem pg_161_57 : mm_prog 161 57 = some (0, .aload_n 0, 58, []) := by decide +kernel
theorem xe_161_57 (a1 a2 a3 : Option MV) (x : Int) (st : List MV) (μ : MM) (G : MG) : ev 161 57 [some (vR x), a1, a2, a3] st μ G = ev 161 58 [some (vR x), a1, a2, a3] (vR x :: st) μ G := ev_stp pg_161_57 rfl
theorem pg_161_58 : mm_prog 161 58 = some (0, .iload_n 1, 59, []) := by decide +kernel
theorem xe_161_58 (a0 a2 a3 : Option MV) (x : Int) (st : List MV) (μ : MM) (G : MG) : ev 161 58 [a0, some (vI x), a2, a3] st μ G = ev 161 59 [a0, some (vI x), a2, a3] (vI x :: st) μ G := ev_stp pg_161_58 rfl
theorem pg_161_59 : mm_prog 161 59 = some (0, .iconst 4, 60, []) := by decide +kernel
theorem xe_161_59 (a0 a1 a2 a3 : Option MV) (st : List MV) (μ : MM) (G : MG) : ev 161 59 [a0, a1, a2, a3] st μ G = ev 161 60 [a0, a1, a2, a3] (vI (4) :: st) μ G := ev_stp pg_161_59 rfl
theorem pg_161_60 : mm_prog 161 60 = some (0, .iadd, 61, []) := by decide +kernel
theorem xe_161_60 (a0 a1 a2 a3 : Option MV) (x y : Int) (st : List MV) (μ : MM) (G : MG) : ev 161 60 [a0, a1, a2, a3] (vI y :: vI x :: st) μ G = ev 161 61 [a0, a1, a2, a3] (vI (w32 (x + y)) :: st) μ G := ev_stp pg_161_60 rfl
theorem pg_161_61 : mm_prog 161 61 = some (1, .invokevirtual 140, 64, [1, 160, 1, 11]) := by decide +kernel
theorem xe_161_61 (a0 a1 a2 a3 : Option MV) (x0 z r0 r1 r2 : Int) (μ : MM) (G : MG) : ev 161 61 [a0, a1, a2, a3] (vI x0 :: vR z :: [vI r0, vI r1, vR r2]) μ G = if gk G z = 11 ∧ 0 < z then (ev 160 0 [some (vR z), some (vI x0)] [] μ G).bind (fun q => ev 161 64 [a0, a1, a2, a3] (q.1.toList ++ [vI r0, vI r1, vR r2]) q.2.1 q.2.2) else none := ev_calV (as := [vR z, vI x0]) (r := [vI r0, vI r1, vR r2]) mx_160 pg_161_61 rfl rfl (Nat.le_of_ble_eq_true rfl) (Nat.le_of_ble_eq_true rfl)
theorem pg_161_64 : mm_prog 161 64 = some (0, .bipush 16, 66, []) := by decide +kernel
theorem xe_161_64 (a0 a1 a2 a3 : Option MV) (st : List MV) (μ : MM) (G : MG) : ev 161 64 [a0, a1, a2, a3] st μ G = ev 161 66 [a0, a1, a2, a3] (vI (16) :: st) μ G := ev_stp pg_161_64 rfl
theorem pg_161_66 : mm_prog 161 66 = some (0, .idiv, 67, []) := by decide +kernel
theorem xe_161_66 (a0 a1 a2 a3 : Option MV) (x y : Int) (st : List MV) (μ : MM) (G : MG) : ev 161 66 [a0, a1, a2, a3] (vI y :: vI x :: st) μ G = if y = 0 then none else ev 161 67 [a0, a1, a2, a3] (vI (mm_div x y) :: st) μ G := ev_no pg_161_66 rfl
theorem pg_161_67 : mm_prog 161 67 = some (0, .sipush 256, 70, []) := by decide +kernel
theorem xe_161_67 (a0 a1 a2 a3 : Option MV) (st : List MV) (μ : MM) (G : MG) : ev 161 67 [a0, a1, a2, a3] st μ G = ev 161 70 [a0, a1, a2, a3] (vI (256) :: st) μ G := ev_stp pg_161_67 rfl
theorem pg_161_70 : mm_prog 161 70 = some (0, .imul, 71, []) := by decide +kernel
theorem xe_161_70 (a0 a1 a2 a3 : Option MV) (x y : Int) (st : List MV) (μ : MM) (G : MG) : ev 161 70 [a0, a1, a2, a3] (vI y :: vI x :: st) μ G = ev 161 71 [a0, a1, a2, a3] (vI (w32 (x * y)) :: st) μ G := ev_stp pg_161_70 rfl
theorem pg_161_71 : mm_prog 161 71 = some (0, .iadd, 72, []) := by decide +kernel
theorem xe_161_71 (a0 a1 a2 a3 : Option MV) (x y : Int) (st : List MV) (μ : MM) (G : MG) : ev 161 71 [a0, a1, a2, a3] (vI y :: vI x :: st) μ G = ev 161 72 [a0, a1, a2, a3] (vI (w32 (x + y)) :: st) μ G := ev_stp pg_161_71 rfl
theorem pg_161_72 : mm_prog 161 72 = some (0, .iastore, 73, []) := by decide +kernel
theorem xe_161_72 (a0 a1 a2 a3 : Option MV) (x y z : Int) (st : List MV) (μ : MM) (G : MG) : ev 161 72 [a0, a1, a2, a3] (vI x :: vI y :: vR z :: st) μ G = if gk G z = 100 ∧ 0 ≤ y ∧ y < gl G z ∧ 10 ≤ z then ev 161 73 [a0, a1, a2, a3] st (mset μ z y x) G else none := ev_if pg_161_72 rfl
theorem pg_161_73 : mm_prog 161 73 = some (0, .aload_n 0, 74, []) := by decide +kernel
theorem xe_161_73 (a1 a2 a3 : Option MV) (x : Int) (st : List MV) (μ : MM) (G : MG) : ev 161 73 [some (vR x), a1, a2, a3] st μ G = ev 161 74 [some (vR x), a1, a2, a3] (vR x :: st) μ G := ev_stp pg_161_73 rfl
theorem pg_161_74 : mm_prog 161 74 = some (0, .getfield 26, 77, [11, 9, 2]) := by decide +kernel
theorem xe_161_74 (a0 a1 a2 a3 : Option MV) (x : Int) (st : List MV) (μ : MM) (G : MG) : ev 161 74 [a0, a1, a2, a3] (vR x :: st) μ G = if gk G x = 11 then ev 161 77 [a0, a1, a2, a3] (vR (μ x 9) :: st) μ G else none := ev_if pg_161_74 rfl
theorem pg_161_77 : mm_prog 161 77 = some (0, .iload_n 2, 78, []) := by decide +kernel
theorem xe_161_77 (a0 a1 a3 : Option MV) (x : Int) (st : List MV) (μ : MM) (G : MG) : ev 161 77 [a0, a1, some (vI x), a3] st μ G = ev 161 78 [a0, a1, some (vI x), a3] (vI x :: st) μ G := ev_stp pg_161_77 rfl
theorem pg_161_78 : mm_prog 161 78 = some (0, .iconst 1, 79, []) := by decide +kernel
theorem xe_161_78 (a0 a1 a2 a3 : Option MV) (st : List MV) (μ : MM) (G : MG) : ev 161 78 [a0, a1, a2, a3] st μ G = ev 161 79 [a0, a1, a2, a3] (vI (1) :: st) μ G := ev_stp pg_161_78 rfl
theorem pg_161_79 : mm_prog 161 79 = some (0, .iadd, 80, []) := by decide +kernel
theorem xe_161_79 (a0 a1 a2 a3 : Option MV) (x y : Int) (st : List MV) (μ : MM) (G : MG) : ev 161 79 [a0, a1, a2, a3] (vI y :: vI x :: st) μ G = ev 161 80 [a0, a1, a2, a3] (vI (w32 (x + y)) :: st) μ G := ev_stp pg_161_79 rfl
theorem pg_161_80 : mm_prog 161 80 = some (0, .iconst 1, 81, []) := by decide +kernel
theorem xe_161_80 (a0 a1 a2 a3 : Option MV) (st : List MV) (μ : MM) (G : MG) : ev 161 80 [a0, a1, a2, a3] st μ G = ev 161 81 [a0, a1, a2, a3] (vI (1) :: st) μ G := ev_stp pg_161_80 rfl
theorem pg_161_81 : mm_prog 161 81 = some (0, .iadd, 82, []) := by decide +kernel
theorem xe_161_81 (a0 a1 a2 a3 : Option MV) (x y : Int) (st : List MV) (μ : MM) (G : MG) : ev 161 81 [a0, a1, a2, a3] (vI y :: vI x :: st) μ G = ev 161 82 [a0, a1, a2, a3] (vI (w32 (x + y)) :: st) μ G := ev_stp pg_161_81 rfl
theorem pg_161_82 : mm_prog 161 82 = some (0, .aload_n 0, 83, []) := by decide +kernel
theorem xe_161_82 (a1 a2 a3 : Option MV) (x : Int) (st : List MV) (μ : MM) (G : MG) : ev 161 82 [some (vR x), a1, a2, a3] st μ G = ev 161 83 [some (vR x), a1, a2, a3] (vR x :: st) μ G := ev_stp pg_161_82 rfl
theorem pg_161_83 : mm_prog 161 83 = some (0, .iload_n 1, 84, []) := by decide +kernel
theorem xe_161_83 (a0 a2 a3 : Option MV) (x : Int) (st : List MV) (μ : MM) (G : MG) : ev 161 83 [a0, some (vI x), a2, a3] st μ G = ev 161 84 [a0, some (vI x), a2, a3] (vI x :: st) μ G := ev_stp pg_161_83 rfl
theorem pg_161_84 : mm_prog 161 84 = some (0, .iconst 3, 85, []) := by decide +kernel
theorem xe_161_84 (a0 a1 a2 a3 : Option MV) (st : List MV) (μ : MM) (G : MG) : ev 161 84 [a0, a1, a2, a3] st μ G = ev 161 85 [a0, a1, a2, a3] (vI (3) :: st) μ G := ev_stp pg_161_84 rfl
theorem pg_161_85 : mm_prog 161 85 = some (0, .iadd, 86, []) := by decide +kernel
theorem xe_161_85 (a0 a1 a2 a3 : Option MV) (x y : Int) (st : List MV) (μ : MM) (G : MG) : ev 161 85 [a0, a1, a2, a3] (vI y :: vI x :: st) μ G = ev 161 86 [a0, a1, a2, a3] (vI (w32 (x + y)) :: st) μ G := ev_stp pg_161_85 rfl
theorem pg_161_86 : mm_prog 161 86 = some (1, .invokevirtual 140, 89, [1, 160, 1, 11]) := by decide +kernel
theorem xe_161_86 (a0 a1 a2 a3 : Option MV) (x0 z r0 r1 : Int) (μ : MM) (G : MG) : ev 161 86 [a0, a1, a2, a3] (vI x0 :: vR z :: [vI r0, vR r1]) μ G = if gk G z = 11 ∧ 0 < z then (ev 160 0 [some (vR z), some (vI x0)] [] μ G).bind (fun q => ev 161 89 [a0, a1, a2, a3] (q.1.toList ++ [vI r0, vR r1]) q.2.1 q.2.2) else none := ev_calV (as := [vR z, vI x0]) (r := [vI r0, vR r1]) mx_160 pg_161_86 rfl rfl (Nat.le_of_ble_eq_true rfl) (Nat.le_of_ble_eq_true rfl)
theorem pg_161_89 : mm_prog 161 89 = some (0, .aload_n 0, 90, []) := by decide +kernel
theorem xe_161_89 (a1 a2 a3 : Option MV) (x : Int) (st : List MV) (μ : MM) (G : MG) : ev 161 89 [some (vR x), a1, a2, a3] st μ G = ev 161 90 [some (vR x), a1, a2, a3] (vR x :: st) μ G := ev_stp pg_161_89 rfl
theorem pg_161_90 : mm_prog 161 90 = some (0, .iload_n 1, 91, []) := by decide +kernel
theorem xe_161_90 (a0 a2 a3 : Option MV) (x : Int) (st : List MV) (μ : MM) (G : MG) : ev 161 90 [a0, some (vI x), a2, a3] st μ G = ev 161 91 [a0, some (vI x), a2, a3] (vI x :: st) μ G := ev_stp pg_161_90 rfl
theorem pg_161_91 : mm_prog 161 91 = some (0, .iconst 4, 92, []) := by decide +kernel
theorem xe_161_91 (a0 a1 a2 a3 : Option MV) (st : List MV) (μ : MM) (G : MG) : ev 161 91 [a0, a1, a2, a3] st μ G = ev 161 92 [a0, a1, a2, a3] (vI (4) :: st) μ G := ev_stp pg_161_91 rfl
theorem pg_161_92 : mm_prog 161 92 = some (0, .iadd, 93, []) := by decide +kernel
theorem xe_161_92 (a0 a1 a2 a3 : Option MV) (x y : Int) (st : List MV) (μ : MM) (G : MG) : ev 161 92 [a0, a1, a2, a3] (vI y :: vI x :: st) μ G = ev 161 93 [a0, a1, a2, a3] (vI (w32 (x + y)) :: st) μ G := ev_stp pg_161_92 rfl
theorem pg_161_93 : mm_prog 161 93 = some (1, .invokevirtual 140, 96, [1, 160, 1, 11]) := by decide +kernel
theorem xe_161_93 (a0 a1 a2 a3 : Option MV) (x0 z r0 r1 r2 : Int) (μ : MM) (G : MG) : ev 161 93 [a0, a1, a2, a3] (vI x0 :: vR z :: [vI r0, vI r1, vR r2]) μ G = if gk G z = 11 ∧ 0 < z then (ev 160 0 [some (vR z), some (vI x0)] [] μ G).bind (fun q => ev 161 96 [a0, a1, a2, a3] (q.1.toList ++ [vI r0, vI r1, vR r2]) q.2.1 q.2.2) else none := ev_calV (as := [vR z, vI x0]) (r := [vI r0, vI r1, vR r2]) mx_160 pg_161_93 rfl rfl (Nat.le_of_ble_eq_true rfl) (Nat.le_of_ble_eq_true rfl)
theorem pg_161_96 : mm_prog 161 96 = some (0, .bipush 16, 98, []) := by decide +kernel
theorem xe_161_96 (a0 a1 a2 a3 : Option MV) (st : List MV) (μ : MM) (G : MG) : ev 161 96 [a0, a1, a2, a3] st μ G = ev 161 98 [a0, a1, a2, a3] (vI (16) :: st) μ G := ev_stp pg_161_96 rfl
theorem pg_161_98 : mm_prog 161 98 = some (0, .irem, 99, []) := by decide +kernel
theorem xe_161_98 (a0 a1 a2 a3 : Option MV) (x y : Int) (st : List MV) (μ : MM) (G : MG) : ev 161 98 [a0, a1, a2, a3] (vI y :: vI x :: st) μ G = if y = 0 then none else ev 161 99 [a0, a1, a2, a3] (vI (mm_rem x y) :: st) μ G := ev_no pg_161_98 rfl
theorem pg_161_99 : mm_prog 161 99 = some (0, .sipush 256, 102, []) := by decide +kernel
theorem xe_161_99 (a0 a1 a2 a3 : Option MV) (st : List MV) (μ : MM) (G : MG) : ev 161 99 [a0, a1, a2, a3] st μ G = ev 161 102 [a0, a1, a2, a3] (vI (256) :: st) μ G := ev_stp pg_161_99 rfl
theorem pg_161_102 : mm_prog 161 102 = some (0, .imul, 103, []) := by decide +kernel
theorem xe_161_102 (a0 a1 a2 a3 : Option MV) (x y : Int) (st : List MV) (μ : MM) (G : MG) : ev 161 102 [a0, a1, a2, a3] (vI y :: vI x :: st) μ G = ev 161 103 [a0, a1, a2, a3] (vI (w32 (x * y)) :: st) μ G := ev_stp pg_161_102 rfl
theorem pg_161_103 : mm_prog 161 103 = some (0, .iadd, 104, []) := by decide +kernel
theorem xe_161_103 (a0 a1 a2 a3 : Option MV) (x y : Int) (st : List MV) (μ : MM) (G : MG) : ev 161 103 [a0, a1, a2, a3] (vI y :: vI x :: st) μ G = ev 161 104 [a0, a1, a2, a3] (vI (w32 (x + y)) :: st) μ G := ev_stp pg_161_103 rfl
theorem pg_161_104 : mm_prog 161 104 = some (0, .iastore, 105, []) := by decide +kernel
theorem xe_161_104 (a0 a1 a2 a3 : Option MV) (x y z : Int) (st : List MV) (μ : MM) (G : MG) : ev 161 104 [a0, a1, a2, a3] (vI x :: vI y :: vR z :: st) μ G = if gk G z = 100 ∧ 0 ≤ y ∧ y < gl G z ∧ 10 ≤ z then ev 161 105 [a0, a1, a2, a3] st (mset μ z y x) G else none := ev_if pg_161_104 rfl
theorem pg_161_105 : mm_prog 161 105 = some (0, .aload_n 0, 106, []) := by decide +kernel
theorem xe_161_105 (a1 a2 a3 : Option MV) (x : Int) (st : List MV) (μ : MM) (G : MG) : ev 161 105 [some (vR x), a1, a2, a3] st μ G = ev 161 106 [some (vR x), a1, a2, a3] (vR x :: st) μ G := ev_stp pg_161_105 rfl
theorem pg_161_106 : mm_prog 161 106 = some (0, .getfield 26, 109, [11, 9, 2]) := by decide +kernel
theorem xe_161_106 (a0 a1 a2 a3 : Option MV) (x : Int) (st : List MV) (μ : MM) (G : MG) : ev 161 106 [a0, a1, a2, a3] (vR x :: st) μ G = if gk G x = 11 then ev 161 109 [a0, a1, a2, a3] (vR (μ x 9) :: st) μ G else none := ev_if pg_161_106 rfl
theorem pg_161_109 : mm_prog 161 109 = some (0, .iload_n 2, 110, []) := by decide +kernel
theorem xe_161_109 (a0 a1 a3 : Option MV) (x : Int) (st : List MV) (μ : MM) (G : MG) : ev 161 109 [a0, a1, some (vI x), a3] st μ G = ev 161 110 [a0, a1, some (vI x), a3] (vI x :: st) μ G := ev_stp pg_161_109 rfl
theorem pg_161_110 : mm_prog 161 110 = some (0, .iconst 1, 111, []) := by decide +kernel
theorem xe_161_110 (a0 a1 a2 a3 : Option MV) (st : List MV) (μ : MM) (G : MG) : ev 161 110 [a0, a1, a2, a3] st μ G = ev 161 111 [a0, a1, a2, a3] (vI (1) :: st) μ G := ev_stp pg_161_110 rfl
theorem pg_161_111 : mm_prog 161 111 = some (0, .iadd, 112, []) := by decide +kernel
theorem xe_161_111 (a0 a1 a2 a3 : Option MV) (x y : Int) (st : List MV) (μ : MM) (G : MG) : ev 161 111 [a0, a1, a2, a3] (vI y :: vI x :: st) μ G = ev 161 112 [a0, a1, a2, a3] (vI (w32 (x + y)) :: st) μ G := ev_stp pg_161_111 rfl
theorem pg_161_112 : mm_prog 161 112 = some (0, .iconst 2, 113, []) := by decide +kernel
theorem xe_161_112 (a0 a1 a2 a3 : Option MV) (st : List MV) (μ : MM) (G : MG) : ev 161 112 [a0, a1, a2, a3] st μ G = ev 161 113 [a0, a1, a2, a3] (vI (2) :: st) μ G := ev_stp pg_161_112 rfl
theorem pg_161_113 : mm_prog 161 113 = some (0, .iadd, 114, []) := by decide +kernel
theorem xe_161_113 (a0 a1 a2 a3 : Option MV) (x y : Int) (st : List MV) (μ : MM) (G : MG) : ev 161 113 [a0, a1, a2, a3] (vI y :: vI x :: st) μ G = ev 161 114 [a0, a1, a2, a3] (vI (w32 (x + y)) :: st) μ G := ev_stp pg_161_113 rfl
theorem pg_161_114 : mm_prog 161 114 = some (0, .aload_n 0, 115, []) := by decide +kernel
theorem xe_161_114 (a1 a2 a3 : Option MV) (x : Int) (st : List MV) (μ : MM) (G : MG) : ev 161 114 [some (vR x), a1, a2, a3] st μ G = ev 161 115 [some (vR x), a1, a2, a3] (vR x :: st) μ G := ev_stp pg_161_114 rfl
theorem pg_161_115 : mm_prog 161 115 = some (0, .iload_n 1, 116, []) := by decide +kernel
theorem xe_161_115 (a0 a2 a3 : Option MV) (x : Int) (st : List MV) (μ : MM) (G : MG) : ev 161 115 [a0, some (vI x), a2, a3] st μ G = ev 161 116 [a0, some (vI x), a2, a3] (vI x :: st) μ G := ev_stp pg_161_115 rfl
theorem pg_161_116 : mm_prog 161 116 = some (0, .bipush 8, 118, []) := by decide +kernel
theorem xe_161_116 (a0 a1 a2 a3 : Option MV) (st : List MV) (μ : MM) (G : MG) : ev 161 116 [a0, a1, a2, a3] st μ G = ev 161 118 [a0, a1, a2, a3] (vI (8) :: st) μ G := ev_stp pg_161_116 rfl
theorem pg_161_118 : mm_prog 161 118 = some (0, .iadd, 119, []) := by decide +kernel
theorem xe_161_118 (a0 a1 a2 a3 : Option MV) (x y : Int) (st : List MV) (μ : MM) (G : MG) : ev 161 118 [a0, a1, a2, a3] (vI y :: vI x :: st) μ G = ev 161 119 [a0, a1, a2, a3] (vI (w32 (x + y)) :: st) μ G := ev_stp pg_161_118 rfl
theorem pg_161_119 : mm_prog 161 119 = some (1, .invokevirtual 140, 122, [1, 160, 1, 11]) := by decide +kernel
theorem xe_161_119 (a0 a1 a2 a3 : Option MV) (x0 z r0 r1 : Int) (μ : MM) (G : MG) : ev 161 119 [a0, a1, a2, a3] (vI x0 :: vR z :: [vI r0, vR r1]) μ G = if gk G z = 11 ∧ 0 < z then (ev 160 0 [some (vR z), some (vI x0)] [] μ G).bind (fun q => ev 161 122 [a0, a1, a2, a3] (q.1.toList ++ [vI r0, vR r1]) q.2.1 q.2.2) else none := ev_calV (as := [vR z, vI x0]) (r := [vI r0, vR r1]) mx_160 pg_161_119 rfl rfl (Nat.le_of_ble_eq_true rfl) (Nat.le_of_ble_eq_true rfl)
theorem pg_161_122 : mm_prog 161 122 = some (0, .iload_n 3, 123, []) := by decide +kernel
theorem xe_161_122 (a0 a1 a2 : Option MV) (x : Int) (st : List MV) (μ : MM) (G : MG) : ev 161 122 [a0, a1, a2, some (vI x)] st μ G = ev 161 123 [a0, a1, a2, some (vI x)] (vI x :: st) μ G := ev_stp pg_161_122 rfl
theorem pg_161_123 : mm_prog 161 123 = some (0, .bipush 64, 125, []) := by decide +kernel
theorem xe_161_123 (a0 a1 a2 a3 : Option MV) (st : List MV) (μ : MM) (G : MG) : ev 161 123 [a0, a1, a2, a3] st μ G = ev 161 125 [a0, a1, a2, a3] (vI (64) :: st) μ G := ev_stp pg_161_123 rfl
theorem pg_161_125 : mm_prog 161 125 = some (0, .idiv, 126, []) := by decide +kernel
theorem xe_161_125 (a0 a1 a2 a3 : Option MV) (x y : Int) (st : List MV) (μ : MM) (G : MG) : ev 161 125 [a0, a1, a2, a3] (vI y :: vI x :: st) μ G = if y = 0 then none else ev 161 126 [a0, a1, a2, a3] (vI (mm_div x y) :: st) μ G := ev_no pg_161_125 rfl
theorem pg_161_126 : mm_prog 161 126 = some (0, .sipush 256, 129, []) := by decide +kernel
theorem xe_161_126 (a0 a1 a2 a3 : Option MV) (st : List MV) (μ : MM) (G : MG) : ev 161 126 [a0, a1, a2, a3] st μ G = ev 161 129 [a0, a1, a2, a3] (vI (256) :: st) μ G := ev_stp pg_161_126 rfl
theorem pg_161_129 : mm_prog 161 129 = some (0, .imul, 130, []) := by decide +kernel
theorem xe_161_129 (a0 a1 a2 a3 : Option MV) (x y : Int) (st : List MV) (μ : MM) (G : MG) : ev 161 129 [a0, a1, a2, a3] (vI y :: vI x :: st) μ G = ev 161 130 [a0, a1, a2, a3] (vI (w32 (x * y)) :: st) μ G := ev_stp pg_161_129 rfl
theorem pg_161_130 : mm_prog 161 130 = some (0, .iadd, 131, []) := by decide +kernel
theorem xe_161_130 (a0 a1 a2 a3 : Option MV) (x y : Int) (st : List MV) (μ : MM) (G : MG) : ev 161 130 [a0, a1, a2, a3] (vI y :: vI x :: st) μ G = ev 161 131 [a0, a1, a2, a3] (vI (w32 (x + y)) :: st) μ G := ev_stp pg_161_130 rfl
theorem pg_161_131 : mm_prog 161 131 = some (0, .iastore, 132, []) := by decide +kernel
theorem xe_161_131 (a0 a1 a2 a3 : Option MV) (x y z : Int) (st : List MV) (μ : MM) (G : MG) : ev 161 131 [a0, a1, a2, a3] (vI x :: vI y :: vR z :: st) μ G = if gk G z = 100 ∧ 0 ≤ y ∧ y < gl G z ∧ 10 ≤ z then ev 161 132 [a0, a1, a2, a3] st (mset μ z y x) G else none := ev_if pg_161_131 rfl
theorem pg_161_132 : mm_prog 161 132 = some (0, .aload_n 0, 133, []) := by decide +kernel
theorem xe_161_132 (a1 a2 a3 : Option MV) (x : Int) (st : List MV) (μ : MM) (G : MG) : ev 161 132 [some (vR x), a1, a2, a3] st μ G = ev 161 133 [some (vR x), a1, a2, a3] (vR x :: st) μ G := ev_stp pg_161_132 rfl
theorem pg_161_133 : mm_prog 161 133 = some (0, .getfield 26, 136, [11, 9, 2]) := by decide +kernel
theorem xe_161_133 (a0 a1 a2 a3 : Option MV) (x : Int) (st : List MV) (μ : MM) (G : MG) : ev 161 133 [a0, a1, a2, a3] (vR x :: st) μ G = if gk G x = 11 then ev 161 136 [a0, a1, a2, a3] (vR (μ x 9) :: st) μ G else none := ev_if pg_161_133 rfl
theorem pg_161_136 : mm_prog 161 136 = some (0, .iload_n 2, 137, []) := by decide +kernel
theorem xe_161_136 (a0 a1 a3 : Option MV) (x : Int) (st : List MV) (μ : MM) (G : MG) : ev 161 136 [a0, a1, some (vI x), a3] st μ G = ev 161 137 [a0, a1, some (vI x), a3] (vI x :: st) μ G := ev_stp pg_161_136 rfl
theorem pg_161_137 : mm_prog 161 137 = some (0, .iconst 1, 138, []) := by decide +kernel
theorem xe_161_137 (a0 a1 a2 a3 : Option MV) (st : List MV) (μ : MM) (G : MG) : ev 161 137 [a0, a1, a2, a3] st μ G = ev 161 138 [a0, a1, a2, a3] (vI (1) :: st) μ G := ev_stp pg_161_137 rfl
theorem pg_161_138 : mm_prog 161 138 = some (0, .iadd, 139, []) := by decide +kernel
theorem xe_161_138 (a0 a1 a2 a3 : Option MV) (x y : Int) (st : List MV) (μ : MM) (G : MG) : ev 161 138 [a0, a1, a2, a3] (vI y :: vI x :: st) μ G = ev 161 139 [a0, a1, a2, a3] (vI (w32 (x + y)) :: st) μ G := ev_stp pg_161_138 rfl
theorem pg_161_139 : mm_prog 161 139 = some (0, .iconst 3, 140, []) := by decide +kernel
theorem xe_161_139 (a0 a1 a2 a3 : Option MV) (st : List MV) (μ : MM) (G : MG) : ev 161 139 [a0, a1, a2, a3] st μ G = ev 161 140 [a0, a1, a2, a3] (vI (3) :: st) μ G := ev_stp pg_161_139 rfl
theorem pg_161_140 : mm_prog 161 140 = some (0, .iadd, 141, []) := by decide +kernel
theorem xe_161_140 (a0 a1 a2 a3 : Option MV) (x y : Int) (st : List MV) (μ : MM) (G : MG) : ev 161 140 [a0, a1, a2, a3] (vI y :: vI x :: st) μ G = ev 161 141 [a0, a1, a2, a3] (vI (w32 (x + y)) :: st) μ G := ev_stp pg_161_140 rfl
theorem pg_161_141 : mm_prog 161 141 = some (0, .aload_n 0, 142, []) := by decide +kernel
theorem xe_161_141 (a1 a2 a3 : Option MV) (x : Int) (st : List MV) (μ : MM) (G : MG) : ev 161 141 [some (vR x), a1, a2, a3] st μ G = ev 161 142 [some (vR x), a1, a2, a3] (vR x :: st) μ G := ev_stp pg_161_141 rfl
theorem pg_161_142 : mm_prog 161 142 = some (0, .iload_n 1, 143, []) := by decide +kernel
theorem xe_161_142 (a0 a2 a3 : Option MV) (x : Int) (st : List MV) (μ : MM) (G : MG) : ev 161 142 [a0, some (vI x), a2, a3] st μ G = ev 161 143 [a0, some (vI x), a2, a3] (vI x :: st) μ G := ev_stp pg_161_142 rfl
theorem pg_161_143 : mm_prog 161 143 = some (0, .bipush 9, 145, []) := by decide +kernel
theorem xe_161_143 (a0 a1 a2 a3 : Option MV) (st : List MV) (μ : MM) (G : MG) : ev 161 143 [a0, a1, a2, a3] st μ G = ev 161 145 [a0, a1, a2, a3] (vI (9) :: st) μ G := ev_stp pg_161_143 rfl
theorem pg_161_145 : mm_prog 161 145 = some (0, .iadd, 146, []) := by decide +kernel
theorem xe_161_145 (a0 a1 a2 a3 : Option MV) (x y : Int) (st : List MV) (μ : MM) (G : MG) : ev 161 145 [a0, a1, a2, a3] (vI y :: vI x :: st) μ G = ev 161 146 [a0, a1, a2, a3] (vI (w32 (x + y)) :: st) μ G := ev_stp pg_161_145 rfl
theorem pg_161_146 : mm_prog 161 146 = some (1, .invokevirtual 140, 149, [1, 160, 1, 11]) := by decide +kernel
theorem xe_161_146 (a0 a1 a2 a3 : Option MV) (x0 z r0 r1 : Int) (μ : MM) (G : MG) : ev 161 146 [a0, a1, a2, a3] (vI x0 :: vR z :: [vI r0, vR r1]) μ G = if gk G z = 11 ∧ 0 < z then (ev 160 0 [some (vR z), some (vI x0)] [] μ G).bind (fun q => ev 161 149 [a0, a1, a2, a3] (q.1.toList ++ [vI r0, vR r1]) q.2.1 q.2.2) else none := ev_calV (as := [vR z, vI x0]) (r := [vI r0, vR r1]) mx_160 pg_161_146 rfl rfl (Nat.le_of_ble_eq_true rfl) (Nat.le_of_ble_eq_true rfl)
theorem pg_161_149 : mm_prog 161 149 = some (0, .iload_n 3, 150, []) := by decide +kernel
theorem xe_161_149 (a0 a1 a2 : Option MV) (x : Int) (st : List MV) (μ : MM) (G : MG) : ev 161 149 [a0, a1, a2, some (vI x)] st μ G = ev 161 150 [a0, a1, a2, some (vI x)] (vI x :: st) μ G := ev_stp pg_161_149 rfl
theorem pg_161_150 : mm_prog 161 150 = some (0, .bipush 16, 152, []) := by decide +kernel
theorem xe_161_150 (a0 a1 a2 a3 : Option MV) (st : List MV) (μ : MM) (G : MG) : ev 161 150 [a0, a1, a2, a3] st μ G = ev 161 152 [a0, a1, a2, a3] (vI (16) :: st) μ G := ev_stp pg_161_150 rfl
theorem pg_161_152 : mm_prog 161 152 = some (0, .idiv, 153, []) := by decide +kernel
theorem xe_161_152 (a0 a1 a2 a3 : Option MV) (x y : Int) (st : List MV) (μ : MM) (G : MG) : ev 161 152 [a0, a1, a2, a3] (vI y :: vI x :: st) μ G = if y = 0 then none else ev 161 153 [a0, a1, a2, a3] (vI (mm_div x y) :: st) μ G := ev_no pg_161_152 rfl
theorem pg_161_153 : mm_prog 161 153 = some (0, .iconst 4, 154, []) := by decide +kernel
theorem xe_161_153 (a0 a1 a2 a3 : Option MV) (st : List MV) (μ : MM) (G : MG) : ev 161 153 [a0, a1, a2, a3] st μ G = ev 161 154 [a0, a1, a2, a3] (vI (4) :: st) μ G := ev_stp pg_161_153 rfl
theorem pg_161_154 : mm_prog 161 154 = some (0, .irem, 155, []) := by decide +kernel
theorem xe_161_154 (a0 a1 a2 a3 : Option MV) (x y : Int) (st : List MV) (μ : MM) (G : MG) : ev 161 154 [a0, a1, a2, a3] (vI y :: vI x :: st) μ G = if y = 0 then none else ev 161 155 [a0, a1, a2, a3] (vI (mm_rem x y) :: st) μ G := ev_no pg_161_154 rfl
theorem pg_161_155 : mm_prog 161 155 = some (0, .sipush 256, 158, []) := by decide +kernel
theorem xe_161_155 (a0 a1 a2 a3 : Option MV) (st : List MV) (μ : MM) (G : MG) : ev 161 155 [a0, a1, a2, a3] st μ G = ev 161 158 [a0, a1, a2, a3] (vI (256) :: st) μ G := ev_stp pg_161_155 rfl
theorem pg_161_158 : mm_prog 161 158 = some (0, .imul, 159, []) := by decide +kernel
theorem xe_161_158 (a0 a1 a2 a3 : Option MV) (x y : Int) (st : List MV) (μ : MM) (G : MG) : ev 161 158 [a0, a1, a2, a3] (vI y :: vI x :: st) μ G = ev 161 159 [a0, a1, a2, a3] (vI (w32 (x * y)) :: st) μ G := ev_stp pg_161_158 rfl
theorem pg_161_159 : mm_prog 161 159 = some (0, .iadd, 160, []) := by decide +kernel
theorem xe_161_159 (a0 a1 a2 a3 : Option MV) (x y : Int) (st : List MV) (μ : MM) (G : MG) : ev 161 159 [a0, a1, a2, a3] (vI y :: vI x :: st) μ G = ev 161 160 [a0, a1, a2, a3] (vI (w32 (x + y)) :: st) μ G := ev_stp pg_161_159 rfl
theorem pg_161_160 : mm_prog 161 160 = some (0, .iastore, 161, []) := by decide +kernel
theorem xe_161_160 (a0 a1 a2 a3 : Option MV) (x y z : Int) (st : List MV) (μ : MM) (G : MG) : ev 161 160 [a0, a1, a2, a3] (vI x :: vI y :: vR z :: st) μ G = if gk G z = 100 ∧ 0 ≤ y ∧ y < gl G z ∧ 10 ≤ z then ev 161 161 [a0, a1, a2, a3] st (mset μ z y x) G else none := ev_if pg_161_160 rfl
theorem pg_161_161 : mm_prog 161 161 = some (0, .aload_n 0, 162, []) := by decide +kernel
theorem xe_161_161 (a1 a2 a3 : Option MV) (x : Int) (st : List MV) (μ : MM) (G : MG) : ev 161 161 [some (vR x), a1, a2, a3] st μ G = ev 161 162 [some (vR x), a1, a2, a3] (vR x :: st) μ G := ev_stp pg_161_161 rfl
theorem pg_161_162 : mm_prog 161 162 = some (0, .getfield 26, 165, [11, 9, 2]) := by decide +kernel
theorem xe_161_162 (a0 a1 a2 a3 : Option MV) (x : Int) (st : List MV) (μ : MM) (G : MG) : ev 161 162 [a0, a1, a2, a3] (vR x :: st) μ G = if gk G x = 11 then ev 161 165 [a0, a1, a2, a3] (vR (μ x 9) :: st) μ G else none := ev_if pg_161_162 rfl
theorem pg_161_165 : mm_prog 161 165 = some (0, .iload_n 2, 166, []) := by decide +kernel
theorem xe_161_165 (a0 a1 a3 : Option MV) (x : Int) (st : List MV) (μ : MM) (G : MG) : ev 161 165 [a0, a1, some (vI x), a3] st μ G = ev 161 166 [a0, a1, some (vI x), a3] (vI x :: st) μ G := ev_stp pg_161_165 rfl
theorem pg_161_166 : mm_prog 161 166 = some (0, .iconst 5, 167, []) := by decide +kernel
theorem xe_161_166 (a0 a1 a2 a3 : Option MV) (st : List MV) (μ : MM) (G : MG) : ev 161 166 [a0, a1, a2, a3] st μ G = ev 161 167 [a0, a1, a2, a3] (vI (5) :: st) μ G := ev_stp pg_161_166 rfl
theorem pg_161_167 : mm_prog 161 167 = some (0, .iadd, 168, []) := by decide +kernel
theorem xe_161_167 (a0 a1 a2 a3 : Option MV) (x y : Int) (st : List MV) (μ : MM) (G : MG) : ev 161 167 [a0, a1, a2, a3] (vI y :: vI x :: st) μ G = ev 161 168 [a0, a1, a2, a3] (vI (w32 (x + y)) :: st) μ G := ev_stp pg_161_167 rfl
theorem pg_161_168 : mm_prog 161 168 = some (0, .aload_n 0, 169, []) := by decide +kernel
theorem xe_161_168 (a1 a2 a3 : Option MV) (x : Int) (st : List MV) (μ : MM) (G : MG) : ev 161 168 [some (vR x), a1, a2, a3] st μ G = ev 161 169 [some (vR x), a1, a2, a3] (vR x :: st) μ G := ev_stp pg_161_168 rfl
theorem pg_161_169 : mm_prog 161 169 = some (0, .iload_n 1, 170, []) := by decide +kernel
theorem xe_161_169 (a0 a2 a3 : Option MV) (x : Int) (st : List MV) (μ : MM) (G : MG) : ev 161 169 [a0, some (vI x), a2, a3] st μ G = ev 161 170 [a0, some (vI x), a2, a3] (vI x :: st) μ G := ev_stp pg_161_169 rfl
theorem pg_161_170 : mm_prog 161 170 = some (0, .iconst 5, 171, []) := by decide +kernel
theorem xe_161_170 (a0 a1 a2 a3 : Option MV) (st : List MV) (μ : MM) (G : MG) : ev 161 170 [a0, a1, a2, a3] st μ G = ev 161 171 [a0, a1, a2, a3] (vI (5) :: st) μ G := ev_stp pg_161_170 rfl
theorem pg_161_171 : mm_prog 161 171 = some (0, .iadd, 172, []) := by decide +kernel
theorem xe_161_171 (a0 a1 a2 a3 : Option MV) (x y : Int) (st : List MV) (μ : MM) (G : MG) : ev 161 171 [a0, a1, a2, a3] (vI y :: vI x :: st) μ G = ev 161 172 [a0, a1, a2, a3] (vI (w32 (x + y)) :: st) μ G := ev_stp pg_161_171 rfl
theorem pg_161_172 : mm_prog 161 172 = some (1, .invokevirtual 140, 175, [1, 160, 1, 11]) := by decide +kernel
theorem xe_161_172 (a0 a1 a2 a3 : Option MV) (x0 z r0 r1 : Int) (μ : MM) (G : MG) : ev 161 172 [a0, a1, a2, a3] (vI x0 :: vR z :: [vI r0, vR r1]) μ G = if gk G z = 11 ∧ 0 < z then (ev 160 0 [some (vR z), some (vI x0)] [] μ G).bind (fun q => ev 161 175 [a0, a1, a2, a3] (q.1.toList ++ [vI r0, vR r1]) q.2.1 q.2.2) else none := ev_calV (as := [vR z, vI x0]) (r := [vI r0, vR r1]) mx_160 pg_161_172 rfl rfl (Nat.le_of_ble_eq_true rfl) (Nat.le_of_ble_eq_true rfl)
theorem pg_161_175 : mm_prog 161 175 = some (0, .aload_n 0, 176, []) := by decide +kernel
theorem xe_161_175 (a1 a2 a3 : Option MV) (x : Int) (st : List MV) (μ : MM) (G : MG) : ev 161 175 [some (vR x), a1, a2, a3] st μ G = ev 161 176 [some (vR x), a1, a2, a3] (vR x :: st) μ G := ev_stp pg_161_175 rfl
theorem pg_161_176 : mm_prog 161 176 = some (0, .iload_n 1, 177, []) := by decide +kernel
theorem xe_161_176 (a0 a2 a3 : Option MV) (x : Int) (st : List MV) (μ : MM) (G : MG) : ev 161 176 [a0, some (vI x), a2, a3] st μ G = ev 161 177 [a0, some (vI x), a2, a3] (vI x :: st) μ G := ev_stp pg_161_176 rfl
theorem pg_161_177 : mm_prog 161 177 = some (0, .bipush 7, 179, []) := by decide +kernel
theorem xe_161_177 (a0 a1 a2 a3 : Option MV) (st : List MV) (μ : MM) (G : MG) : ev 161 177 [a0, a1, a2, a3] st μ G = ev 161 179 [a0, a1, a2, a3] (vI (7) :: st) μ G := ev_stp pg_161_177 rfl
theorem pg_161_179 : mm_prog 161 179 = some (0, .iadd, 180, []) := by decide +kernel
theorem xe_161_179 (a0 a1 a2 a3 : Option MV) (x y : Int) (st : List MV) (μ : MM) (G : MG) : ev 161 179 [a0, a1, a2, a3] (vI y :: vI x :: st) μ G = ev 161 180 [a0, a1, a2, a3] (vI (w32 (x + y)) :: st) μ G := ev_stp pg_161_179 rfl
theorem pg_161_180 : mm_prog 161 180 = some (1, .invokevirtual 140, 183, [1, 160, 1, 11]) := by decide +kernel
theorem xe_161_180 (a0 a1 a2 a3 : Option MV) (x0 z r0 r1 r2 : Int) (μ : MM) (G : MG) : ev 161 180 [a0, a1, a2, a3] (vI x0 :: vR z :: [vI r0, vI r1, vR r2]) μ G = if gk G z = 11 ∧ 0 < z then (ev 160 0 [some (vR z), some (vI x0)] [] μ G).bind (fun q => ev 161 183 [a0, a1, a2, a3] (q.1.toList ++ [vI r0, vI r1, vR r2]) q.2.1 q.2.2) else none := ev_calV (as := [vR z, vI x0]) (r := [vI r0, vI r1, vR r2]) mx_160 pg_161_180 rfl rfl (Nat.le_of_ble_eq_true rfl) (Nat.le_of_ble_eq_true rfl)
theorem pg_161_183 : mm_prog 161 183 = some (0, .bipush 16, 185, []) := by decide +kernel
theorem xe_161_183 (a0 a1 a2 a3 : Option MV) (st : List MV) (μ : MM) (G : MG) : ev 161 183 [a0, a1, a2, a3] st μ G = ev 161 185 [a0, a1, a2, a3] (vI (16) :: st) μ G := ev_stp pg_161_183 rfl
theorem pg_161_185 : mm_prog 161 185 = some (0, .idiv, 186, []) := by decide +kernel
theorem xe_161_185 (a0 a1 a2 a3 : Option MV) (x y : Int) (st : List MV) (μ : MM) (G : MG) : ev 161 185 [a0, a1, a2, a3] (vI y :: vI x :: st) μ G = if y = 0 then none else ev 161 186 [a0, a1, a2, a3] (vI (mm_div x y) :: st) μ G := ev_no pg_161_185 rfl
theorem pg_161_186 : mm_prog 161 186 = some (0, .sipush 256, 189, []) := by decide +kernel
theorem xe_161_186 (a0 a1 a2 a3 : Option MV) (st : List MV) (μ : MM) (G : MG) : ev 161 186 [a0, a1, a2, a3] st μ G = ev 161 189 [a0, a1, a2, a3] (vI (256) :: st) μ G := ev_stp pg_161_186 rfl
theorem pg_161_189 : mm_prog 161 189 = some (0, .imul, 190, []) := by decide +kernel
theorem xe_161_189 (a0 a1 a2 a3 : Option MV) (x y : Int) (st : List MV) (μ : MM) (G : MG) : ev 161 189 [a0, a1, a2, a3] (vI y :: vI x :: st) μ G = ev 161 190 [a0, a1, a2, a3] (vI (w32 (x * y)) :: st) μ G := ev_stp pg_161_189 rfl
theorem pg_161_190 : mm_prog 161 190 = some (0, .iadd, 191, []) := by decide +kernel
theorem xe_161_190 (a0 a1 a2 a3 : Option MV) (x y : Int) (st : List MV) (μ : MM) (G : MG) : ev 161 190 [a0, a1, a2, a3] (vI y :: vI x :: st) μ G = ev 161 191 [a0, a1, a2, a3] (vI (w32 (x + y)) :: st) μ G := ev_stp pg_161_190 rfl
theorem pg_161_191 : mm_prog 161 191 = some (0, .iastore, 192, []) := by decide +kernel
theorem xe_161_191 (a0 a1 a2 a3 : Option MV) (x y z : Int) (st : List MV) (μ : MM) (G : MG) : ev 161 191 [a0, a1, a2, a3] (vI x :: vI y :: vR z :: st) μ G = if gk G z = 100 ∧ 0 ≤ y ∧ y < gl G z ∧ 10 ≤ z then ev 161 192 [a0, a1, a2, a3] st (mset μ z y x) G else none := ev_if pg_161_191 rfl
theorem pg_161_192 : mm_prog 161 192 = some (0, .aload_n 0, 193, []) := by decide +kernel
theorem xe_161_192 (a1 a2 a3 : Option MV) (x : Int) (st : List MV) (μ : MM) (G : MG) : ev 161 192 [some (vR x), a1, a2, a3] st μ G = ev 161 193 [some (vR x), a1, a2, a3] (vR x :: st) μ G := ev_stp pg_161_192 rfl
theorem pg_161_193 : mm_prog 161 193 = some (0, .getfield 26, 196, [11, 9, 2]) := by decide +kernel
theorem xe_161_193 (a0 a1 a2 a3 : Option MV) (x : Int) (st : List MV) (μ : MM) (G : MG) : ev 161 193 [a0, a1, a2, a3] (vR x :: st) μ G = if gk G x = 11 then ev 161 196 [a0, a1, a2, a3] (vR (μ x 9) :: st) μ G else none := ev_if pg_161_193 rfl
theorem pg_161_196 : mm_prog 161 196 = some (0, .iload_n 2, 197, []) := by decide +kernel
theorem xe_161_196 (a0 a1 a3 : Option MV) (x : Int) (st : List MV) (μ : MM) (G : MG) : ev 161 196 [a0, a1, some (vI x), a3] st μ G = ev 161 197 [a0, a1, some (vI x), a3] (vI x :: st) μ G := ev_stp pg_161_196 rfl
theorem pg_161_197 : mm_prog 161 197 = some (0, .iconst 5, 198, []) := by decide +kernel
theorem xe_161_197 (a0 a1 a2 a3 : Option MV) (st : List MV) (μ : MM) (G : MG) : ev 161 197 [a0, a1, a2, a3] st μ G = ev 161 198 [a0, a1, a2, a3] (vI (5) :: st) μ G := ev_stp pg_161_197 rfl
theorem pg_161_198 : mm_prog 161 198 = some (0, .iadd, 199, []) := by decide +kernel
theorem xe_161_198 (a0 a1 a2 a3 : Option MV) (x y : Int) (st : List MV) (μ : MM) (G : MG) : ev 161 198 [a0, a1, a2, a3] (vI y :: vI x :: st) μ G = ev 161 199 [a0, a1, a2, a3] (vI (w32 (x + y)) :: st) μ G := ev_stp pg_161_198 rfl
theorem pg_161_199 : mm_prog 161 199 = some (0, .iconst 1, 200, []) := by decide +kernel
theorem xe_161_199 (a0 a1 a2 a3 : Option MV) (st : List MV) (μ : MM) (G : MG) : ev 161 199 [a0, a1, a2, a3] st μ G = ev 161 200 [a0, a1, a2, a3] (vI (1) :: st) μ G := ev_stp pg_161_199 rfl
theorem pg_161_200 : mm_prog 161 200 = some (0, .iadd, 201, []) := by decide +kernel
theorem xe_161_200 (a0 a1 a2 a3 : Option MV) (x y : Int) (st : List MV) (μ : MM) (G : MG) : ev 161 200 [a0, a1, a2, a3] (vI y :: vI x :: st) μ G = ev 161 201 [a0, a1, a2, a3] (vI (w32 (x + y)) :: st) μ G := ev_stp pg_161_200 rfl
theorem pg_161_201 : mm_prog 161 201 = some (0, .aload_n 0, 202, []) := by decide +kernel
theorem xe_161_201 (a1 a2 a3 : Option MV) (x : Int) (st : List MV) (μ : MM) (G : MG) : ev 161 201 [some (vR x), a1, a2, a3] st μ G = ev 161 202 [some (vR x), a1, a2, a3] (vR x :: st) μ G := ev_stp pg_161_201 rfl
theorem pg_161_202 : mm_prog 161 202 = some (0, .iload_n 1, 203, []) := by decide +kernel
theorem xe_161_202 (a0 a2 a3 : Option MV) (x : Int) (st : List MV) (μ : MM) (G : MG) : ev 161 202 [a0, some (vI x), a2, a3] st μ G = ev 161 203 [a0, some (vI x), a2, a3] (vI x :: st) μ G := ev_stp pg_161_202 rfl
theorem pg_161_203 : mm_prog 161 203 = some (0, .bipush 6, 205, []) := by decide +kernel
theorem xe_161_203 (a0 a1 a2 a3 : Option MV) (st : List MV) (μ : MM) (G : MG) : ev 161 203 [a0, a1, a2, a3] st μ G = ev 161 205 [a0, a1, a2, a3] (vI (6) :: st) μ G := ev_stp pg_161_203 rfl
theorem pg_161_205 : mm_prog 161 205 = some (0, .iadd, 206, []) := by decide +kernel
theorem xe_161_205 (a0 a1 a2 a3 : Option MV) (x y : Int) (st : List MV) (μ : MM) (G : MG) : ev 161 205 [a0, a1, a2, a3] (vI y :: vI x :: st) μ G = ev 161 206 [a0, a1, a2, a3] (vI (w32 (x + y)) :: st) μ G := ev_stp pg_161_205 rfl
theorem pg_161_206 : mm_prog 161 206 = some (1, .invokevirtual 140, 209, [1, 160, 1, 11]) := by decide +kernel
theorem xe_161_206 (a0 a1 a2 a3 : Option MV) (x0 z r0 r1 : Int) (μ : MM) (G : MG) : ev 161 206 [a0, a1, a2, a3] (vI x0 :: vR z :: [vI r0, vR r1]) μ G = if gk G z = 11 ∧ 0 < z then (ev 160 0 [some (vR z), some (vI x0)] [] μ G).bind (fun q => ev 161 209 [a0, a1, a2, a3] (q.1.toList ++ [vI r0, vR r1]) q.2.1 q.2.2) else none := ev_calV (as := [vR z, vI x0]) (r := [vI r0, vR r1]) mx_160 pg_161_206 rfl rfl (Nat.le_of_ble_eq_true rfl) (Nat.le_of_ble_eq_true rfl)
theorem pg_161_209 : mm_prog 161 209 = some (0, .aload_n 0, 210, []) := by decide +kernel
theorem xe_161_209 (a1 a2 a3 : Option MV) (x : Int) (st : List MV) (μ : MM) (G : MG) : ev 161 209 [some (vR x), a1, a2, a3] st μ G = ev 161 210 [some (vR x), a1, a2, a3] (vR x :: st) μ G := ev_stp pg_161_209 rfl
theorem pg_161_210 : mm_prog 161 210 = some (0, .iload_n 1, 211, []) := by decide +kernel
theorem xe_161_210 (a0 a2 a3 : Option MV) (x : Int) (st : List MV) (μ : MM) (G : MG) : ev 161 210 [a0, some (vI x), a2, a3] st μ G = ev 161 211 [a0, some (vI x), a2, a3] (vI x :: st) μ G := ev_stp pg_161_210 rfl
theorem pg_161_211 : mm_prog 161 211 = some (0, .bipush 7, 213, []) := by decide +kernel
theorem xe_161_211 (a0 a1 a2 a3 : Option MV) (st : List MV) (μ : MM) (G : MG) : ev 161 211 [a0, a1, a2, a3] st μ G = ev 161 213 [a0, a1, a2, a3] (vI (7) :: st) μ G := ev_stp pg_161_211 rfl
theorem pg_161_213 : mm_prog 161 213 = some (0, .iadd, 214, []) := by decide +kernel
theorem xe_161_213 (a0 a1 a2 a3 : Option MV) (x y : Int) (st : List MV) (μ : MM) (G : MG) : ev 161 213 [a0, a1, a2, a3] (vI y :: vI x :: st) μ G = ev 161 214 [a0, a1, a2, a3] (vI (w32 (x + y)) :: st) μ G := ev_stp pg_161_213 rfl
theorem pg_161_214 : mm_prog 161 214 = some (1, .invokevirtual 140, 217, [1, 160, 1, 11]) := by decide +kernel
theorem xe_161_214 (a0 a1 a2 a3 : Option MV) (x0 z r0 r1 r2 : Int) (μ : MM) (G : MG) : ev 161 214 [a0, a1, a2, a3] (vI x0 :: vR z :: [vI r0, vI r1, vR r2]) μ G = if gk G z = 11 ∧ 0 < z then (ev 160 0 [some (vR z), some (vI x0)] [] μ G).bind (fun q => ev 161 217 [a0, a1, a2, a3] (q.1.toList ++ [vI r0, vI r1, vR r2]) q.2.1 q.2.2) else none := ev_calV (as := [vR z, vI x0]) (r := [vI r0, vI r1, vR r2]) mx_160 pg_161_214 rfl rfl (Nat.le_of_ble_eq_true rfl) (Nat.le_of_ble_eq_true rfl)
theorem pg_161_217 : mm_prog 161 217 = some (0, .bipush 16, 219, []) := by decide +kernel
theorem xe_161_217 (a0 a1 a2 a3 : Option MV) (st : List MV) (μ : MM) (G : MG) : ev 161 217 [a0, a1, a2, a3] st μ G = ev 161 219 [a0, a1, a2, a3] (vI (16) :: st) μ G := ev_stp pg_161_217 rfl
theorem pg_161_219 : mm_prog 161 219 = some (0, .irem, 220, []) := by decide +kernel
theorem xe_161_219 (a0 a1 a2 a3 : Option MV) (x y : Int) (st : List MV) (μ : MM) (G : MG) : ev 161 219 [a0, a1, a2, a3] (vI y :: vI x :: st) μ G = if y = 0 then none else ev 161 220 [a0, a1, a2, a3] (vI (mm_rem x y) :: st) μ G := ev_no pg_161_219 rfl
theorem pg_161_220 : mm_prog 161 220 = some (0, .sipush 256, 223, []) := by decide +kernel
theorem xe_161_220 (a0 a1 a2 a3 : Option MV) (st : List MV) (μ : MM) (G : MG) : ev 161 220 [a0, a1, a2, a3] st μ G = ev 161 223 [a0, a1, a2, a3] (vI (256) :: st) μ G := ev_stp pg_161_220 rfl
theorem pg_161_223 : mm_prog 161 223 = some (0, .imul, 224, []) := by decide +kernel
theorem xe_161_223 (a0 a1 a2 a3 : Option MV) (x y : Int) (st : List MV) (μ : MM) (G : MG) : ev 161 223 [a0, a1, a2, a3] (vI y :: vI x :: st) μ G = ev 161 224 [a0, a1, a2, a3] (vI (w32 (x * y)) :: st) μ G := ev_stp pg_161_223 rfl
theorem pg_161_224 : mm_prog 161 224 = some (0, .iadd, 225, []) := by decide +kernel
theorem xe_161_224 (a0 a1 a2 a3 : Option MV) (x y : Int) (st : List MV) (μ : MM) (G : MG) : ev 161 224 [a0, a1, a2, a3] (vI y :: vI x :: st) μ G = ev 161 225 [a0, a1, a2, a3] (vI (w32 (x + y)) :: st) μ G := ev_stp pg_161_224 rfl
theorem pg_161_225 : mm_prog 161 225 = some (0, .iastore, 226, []) := by decide +kernel
theorem xe_161_225 (a0 a1 a2 a3 : Option MV) (x y z : Int) (st : List MV) (μ : MM) (G : MG) : ev 161 225 [a0, a1, a2, a3] (vI x :: vI y :: vR z :: st) μ G = if gk G z = 100 ∧ 0 ≤ y ∧ y < gl G z ∧ 10 ≤ z then ev 161 226 [a0, a1, a2, a3] st (mset μ z y x) G else none := ev_if pg_161_225 rfl
theorem pg_161_226 : mm_prog 161 226 = some (0, .aload_n 0, 227, []) := by decide +kernel
theorem xe_161_226 (a1 a2 a3 : Option MV) (x : Int) (st : List MV) (μ : MM) (G : MG) : ev 161 226 [some (vR x), a1, a2, a3] st μ G = ev 161 227 [some (vR x), a1, a2, a3] (vR x :: st) μ G := ev_stp pg_161_226 rfl
theorem pg_161_227 : mm_prog 161 227 = some (0, .getfield 26, 230, [11, 9, 2]) := by decide +kernel
theorem xe_161_227 (a0 a1 a2 a3 : Option MV) (x : Int) (st : List MV) (μ : MM) (G : MG) : ev 161 227 [a0, a1, a2, a3] (vR x :: st) μ G = if gk G x = 11 then ev 161 230 [a0, a1, a2, a3] (vR (μ x 9) :: st) μ G else none := ev_if pg_161_227 rfl
theorem pg_161_230 : mm_prog 161 230 = some (0, .iload_n 2, 231, []) := by decide +kernel
theorem xe_161_230 (a0 a1 a3 : Option MV) (x : Int) (st : List MV) (μ : MM) (G : MG) : ev 161 230 [a0, a1, some (vI x), a3] st μ G = ev 161 231 [a0, a1, some (vI x), a3] (vI x :: st) μ G := ev_stp pg_161_230 rfl
theorem pg_161_231 : mm_prog 161 231 = some (0, .iconst 5, 232, []) := by decide +kernel
theorem xe_161_231 (a0 a1 a2 a3 : Option MV) (st : List MV) (μ : MM) (G : MG) : ev 161 231 [a0, a1, a2, a3] st μ G = ev 161 232 [a0, a1, a2, a3] (vI (5) :: st) μ G := ev_stp pg_161_231 rfl
theorem pg_161_232 : mm_prog 161 232 = some (0, .iadd, 233, []) := by decide +kernel
theorem xe_161_232 (a0 a1 a2 a3 : Option MV) (x y : Int) (st : List MV) (μ : MM) (G : MG) : ev 161 232 [a0, a1, a2, a3] (vI y :: vI x :: st) μ G = ev 161 233 [a0, a1, a2, a3] (vI (w32 (x + y)) :: st) μ G := ev_stp pg_161_232 rfl
theorem pg_161_233 : mm_prog 161 233 = some (0, .iconst 2, 234, []) := by decide +kernel
theorem xe_161_233 (a0 a1 a2 a3 : Option MV) (st : List MV) (μ : MM) (G : MG) : ev 161 233 [a0, a1, a2, a3] st μ G = ev 161 234 [a0, a1, a2, a3] (vI (2) :: st) μ G := ev_stp pg_161_233 rfl
theorem pg_161_234 : mm_prog 161 234 = some (0, .iadd, 235, []) := by decide +kernel
theorem xe_161_234 (a0 a1 a2 a3 : Option MV) (x y : Int) (st : List MV) (μ : MM) (G : MG) : ev 161 234 [a0, a1, a2, a3] (vI y :: vI x :: st) μ G = ev 161 235 [a0, a1, a2, a3] (vI (w32 (x + y)) :: st) μ G := ev_stp pg_161_234 rfl
theorem pg_161_235 : mm_prog 161 235 = some (0, .aload_n 0, 236, []) := by decide +kernel
theorem xe_161_235 (a1 a2 a3 : Option MV) (x : Int) (st : List MV) (μ : MM) (G : MG) : ev 161 235 [some (vR x), a1, a2, a3] st μ G = ev 161 236 [some (vR x), a1, a2, a3] (vR x :: st) μ G := ev_stp pg_161_235 rfl
theorem pg_161_236 : mm_prog 161 236 = some (0, .iload_n 1, 237, []) := by decide +kernel
theorem xe_161_236 (a0 a2 a3 : Option MV) (x : Int) (st : List MV) (μ : MM) (G : MG) : ev 161 236 [a0, some (vI x), a2, a3] st μ G = ev 161 237 [a0, some (vI x), a2, a3] (vI x :: st) μ G := ev_stp pg_161_236 rfl
theorem pg_161_237 : mm_prog 161 237 = some (0, .bipush 10, 239, []) := by decide +kernel
theorem xe_161_237 (a0 a1 a2 a3 : Option MV) (st : List MV) (μ : MM) (G : MG) : ev 161 237 [a0, a1, a2, a3] st μ G = ev 161 239 [a0, a1, a2, a3] (vI (10) :: st) μ G := ev_stp pg_161_237 rfl
theorem pg_161_239 : mm_prog 161 239 = some (0, .iadd, 240, []) := by decide +kernel
theorem xe_161_239 (a0 a1 a2 a3 : Option MV) (x y : Int) (st : List MV) (μ : MM) (G : MG) : ev 161 239 [a0, a1, a2, a3] (vI y :: vI x :: st) μ G = ev 161 240 [a0, a1, a2, a3] (vI (w32 (x + y)) :: st) μ G := ev_stp pg_161_239 rfl
theorem pg_161_240 : mm_prog 161 240 = some (1, .invokevirtual 140, 243, [1, 160, 1, 11]) := by decide +kernel
theorem xe_161_240 (a0 a1 a2 a3 : Option MV) (x0 z r0 r1 : Int) (μ : MM) (G : MG) : ev 161 240 [a0, a1, a2, a3] (vI x0 :: vR z :: [vI r0, vR r1]) μ G = if gk G z = 11 ∧ 0 < z then (ev 160 0 [some (vR z), some (vI x0)] [] μ G).bind (fun q => ev 161 243 [a0, a1, a2, a3] (q.1.toList ++ [vI r0, vR r1]) q.2.1 q.2.2) else none := ev_calV (as := [vR z, vI x0]) (r := [vI r0, vR r1]) mx_160 pg_161_240 rfl rfl (Nat.le_of_ble_eq_true rfl) (Nat.le_of_ble_eq_true rfl)
theorem pg_161_243 : mm_prog 161 243 = some (0, .bipush 16, 245, []) := by decide +kernel
theorem xe_161_243 (a0 a1 a2 a3 : Option MV) (st : List MV) (μ : MM) (G : MG) : ev 161 243 [a0, a1, a2, a3] st μ G = ev 161 245 [a0, a1, a2, a3] (vI (16) :: st) μ G := ev_stp pg_161_243 rfl
theorem pg_161_245 : mm_prog 161 245 = some (0, .idiv, 246, []) := by decide +kernel
theorem xe_161_245 (a0 a1 a2 a3 : Option MV) (x y : Int) (st : List MV) (μ : MM) (G : MG) : ev 161 245 [a0, a1, a2, a3] (vI y :: vI x :: st) μ G = if y = 0 then none else ev 161 246 [a0, a1, a2, a3] (vI (mm_div x y) :: st) μ G := ev_no pg_161_245 rfl
theorem pg_161_246 : mm_prog 161 246 = some (0, .iload_n 3, 247, []) := by decide +kernel
theorem xe_161_246 (a0 a1 a2 : Option MV) (x : Int) (st : List MV) (μ : MM) (G : MG) : ev 161 246 [a0, a1, a2, some (vI x)] st μ G = ev 161 247 [a0, a1, a2, some (vI x)] (vI x :: st) μ G := ev_stp pg_161_246 rfl
theorem pg_161_247 : mm_prog 161 247 = some (0, .iconst 4, 248, []) := by decide +kernel
theorem xe_161_247 (a0 a1 a2 a3 : Option MV) (st : List MV) (μ : MM) (G : MG) : ev 161 247 [a0, a1, a2, a3] st μ G = ev 161 248 [a0, a1, a2, a3] (vI (4) :: st) μ G := ev_stp pg_161_247 rfl
theorem pg_161_248 : mm_prog 161 248 = some (0, .idiv, 249, []) := by decide +kernel
theorem xe_161_248 (a0 a1 a2 a3 : Option MV) (x y : Int) (st : List MV) (μ : MM) (G : MG) : ev 161 248 [a0, a1, a2, a3] (vI y :: vI x :: st) μ G = if y = 0 then none else ev 161 249 [a0, a1, a2, a3] (vI (mm_div x y) :: st) μ G := ev_no pg_161_248 rfl
theorem pg_161_249 : mm_prog 161 249 = some (0, .iconst 4, 250, []) := by decide +kernel
theorem xe_161_249 (a0 a1 a2 a3 : Option MV) (st : List MV) (μ : MM) (G : MG) : ev 161 249 [a0, a1, a2, a3] st μ G = ev 161 250 [a0, a1, a2, a3] (vI (4) :: st) μ G := ev_stp pg_161_249 rfl
theorem pg_161_250 : mm_prog 161 250 = some (0, .irem, 251, []) := by decide +kernel
theorem xe_161_250 (a0 a1 a2 a3 : Option MV) (x y : Int) (st : List MV) (μ : MM) (G : MG) : ev 161 250 [a0, a1, a2, a3] (vI y :: vI x :: st) μ G = if y = 0 then none else ev 161 251 [a0, a1, a2, a3] (vI (mm_rem x y) :: st) μ G := ev_no pg_161_250 rfl
theorem pg_161_251 : mm_prog 161 251 = some (0, .bipush 16, 253, []) := by decide +kernel
theorem xe_161_251 (a0 a1 a2 a3 : Option MV) (st : List MV) (μ : MM) (G : MG) : ev 161 251 [a0, a1, a2, a3] st μ G = ev 161 253 [a0, a1, a2, a3] (vI (16) :: st) μ G := ev_stp pg_161_251 rfl
theorem pg_161_253 : mm_prog 161 253 = some (0, .imul, 254, []) := by decide +kernel
theorem xe_161_253 (a0 a1 a2 a3 : Option MV) (x y : Int) (st : List MV) (μ : MM) (G : MG) : ev 161 253 [a0, a1, a2, a3] (vI y :: vI x :: st) μ G = ev 161 254 [a0, a1, a2, a3] (vI (w32 (x * y)) :: st) μ G := ev_stp pg_161_253 rfl
theorem pg_161_254 : mm_prog 161 254 = some (0, .iadd, 255, []) := by decide +kernel
theorem xe_161_254 (a0 a1 a2 a3 : Option MV) (x y : Int) (st : List MV) (μ : MM) (G : MG) : ev 161 254 [a0, a1, a2, a3] (vI y :: vI x :: st) μ G = ev 161 255 [a0, a1, a2, a3] (vI (w32 (x + y)) :: st) μ G := ev_stp pg_161_254 rfl
theorem pg_161_255 : mm_prog 161 255 = some (0, .iastore, 256, []) := by decide +kernel
theorem xe_161_255 (a0 a1 a2 a3 : Option MV) (x y z : Int) (st : List MV) (μ : MM) (G : MG) : ev 161 255 [a0, a1, a2, a3] (vI x :: vI y :: vR z :: st) μ G = if gk G z = 100 ∧ 0 ≤ y ∧ y < gl G z ∧ 10 ≤ z then ev 161 256 [a0, a1, a2, a3] st (mset μ z y x) G else none := ev_if pg_161_255 rfl
theorem pg_161_256 : mm_prog 161 256 = some (0, .aload_n 0, 257, []) := by decide +kernel
theorem xe_161_256 (a1 a2 a3 : Option MV) (x : Int) (st : List MV) (μ : MM) (G : MG) : ev 161 256 [some (vR x), a1, a2, a3] st μ G = ev 161 257 [some (vR x), a1, a2, a3] (vR x :: st) μ G := ev_stp pg_161_256 rfl
theorem pg_161_257 : mm_prog 161 257 = some (0, .getfield 26, 260, [11, 9, 2]) := by decide +kernel
theorem xe_161_257 (a0 a1 a2 a3 : Option MV) (x : Int) (st : List MV) (μ : MM) (G : MG) : ev 161 257 [a0, a1, a2, a3] (vR x :: st) μ G = if gk G x = 11 then ev 161 260 [a0, a1, a2, a3] (vR (μ x 9) :: st) μ G else none := ev_if pg_161_257 rfl
theorem pg_161_260 : mm_prog 161 260 = some (0, .iload_n 2, 261, []) := by decide +kernel
theorem xe_161_260 (a0 a1 a3 : Option MV) (x : Int) (st : List MV) (μ : MM) (G : MG) : ev 161 260 [a0, a1, some (vI x), a3] st μ G = ev 161 261 [a0, a1, some (vI x), a3] (vI x :: st) μ G := ev_stp pg_161_260 rfl
theorem pg_161_261 : mm_prog 161 261 = some (0, .iconst 5, 262, []) := by decide +kernel
theorem xe_161_261 (a0 a1 a2 a3 : Option MV) (st : List MV) (μ : MM) (G : MG) : ev 161 261 [a0, a1, a2, a3] st μ G = ev 161 262 [a0, a1, a2, a3] (vI (5) :: st) μ G := ev_stp pg_161_261 rfl
theorem pg_161_262 : mm_prog 161 262 = some (0, .iadd, 263, []) := by decide +kernel
theorem xe_161_262 (a0 a1 a2 a3 : Option MV) (x y : Int) (st : List MV) (μ : MM) (G : MG) : ev 161 262 [a0, a1, a2, a3] (vI y :: vI x :: st) μ G = ev 161 263 [a0, a1, a2, a3] (vI (w32 (x + y)) :: st) μ G := ev_stp pg_161_262 rfl
theorem pg_161_263 : mm_prog 161 263 = some (0, .iconst 3, 264, []) := by decide +kernel
theorem xe_161_263 (a0 a1 a2 a3 : Option MV) (st : List MV) (μ : MM) (G : MG) : ev 161 263 [a0, a1, a2, a3] st μ G = ev 161 264 [a0, a1, a2, a3] (vI (3) :: st) μ G := ev_stp pg_161_263 rfl
theorem pg_161_264 : mm_prog 161 264 = some (0, .iadd, 265, []) := by decide +kernel
theorem xe_161_264 (a0 a1 a2 a3 : Option MV) (x y : Int) (st : List MV) (μ : MM) (G : MG) : ev 161 264 [a0, a1, a2, a3] (vI y :: vI x :: st) μ G = ev 161 265 [a0, a1, a2, a3] (vI (w32 (x + y)) :: st) μ G := ev_stp pg_161_264 rfl
theorem pg_161_265 : mm_prog 161 265 = some (0, .aload_n 0, 266, []) := by decide +kernel
theorem xe_161_265 (a1 a2 a3 : Option MV) (x : Int) (st : List MV) (μ : MM) (G : MG) : ev 161 265 [some (vR x), a1, a2, a3] st μ G = ev 161 266 [some (vR x), a1, a2, a3] (vR x :: st) μ G := ev_stp pg_161_265 rfl
theorem pg_161_266 : mm_prog 161 266 = some (0, .iload_n 1, 267, []) := by decide +kernel
theorem xe_161_266 (a0 a2 a3 : Option MV) (x : Int) (st : List MV) (μ : MM) (G : MG) : ev 161 266 [a0, some (vI x), a2, a3] st μ G = ev 161 267 [a0, some (vI x), a2, a3] (vI x :: st) μ G := ev_stp pg_161_266 rfl
theorem pg_161_267 : mm_prog 161 267 = some (0, .bipush 10, 269, []) := by decide +kernel
theorem xe_161_267 (a0 a1 a2 a3 : Option MV) (st : List MV) (μ : MM) (G : MG) : ev 161 267 [a0, a1, a2, a3] st μ G = ev 161 269 [a0, a1, a2, a3] (vI (10) :: st) μ G := ev_stp pg_161_267 rfl
theorem pg_161_269 : mm_prog 161 269 = some (0, .iadd, 270, []) := by decide +kernel
theorem xe_161_269 (a0 a1 a2 a3 : Option MV) (x y : Int) (st : List MV) (μ : MM) (G : MG) : ev 161 269 [a0, a1, a2, a3] (vI y :: vI x :: st) μ G = ev 161 270 [a0, a1, a2, a3] (vI (w32 (x + y)) :: st) μ G := ev_stp pg_161_269 rfl
theorem pg_161_270 : mm_prog 161 270 = some (1, .invokevirtual 140, 273, [1, 160, 1, 11]) := by decide +kernel
theorem xe_161_270 (a0 a1 a2 a3 : Option MV) (x0 z r0 r1 : Int) (μ : MM) (G : MG) : ev 161 270 [a0, a1, a2, a3] (vI x0 :: vR z :: [vI r0, vR r1]) μ G = if gk G z = 11 ∧ 0 < z then (ev 160 0 [some (vR z), some (vI x0)] [] μ G).bind (fun q => ev 161 273 [a0, a1, a2, a3] (q.1.toList ++ [vI r0, vR r1]) q.2.1 q.2.2) else none := ev_calV (as := [vR z, vI x0]) (r := [vI r0, vR r1]) mx_160 pg_161_270 rfl rfl (Nat.le_of_ble_eq_true rfl) (Nat.le_of_ble_eq_true rfl)
theorem pg_161_273 : mm_prog 161 273 = some (0, .bipush 16, 275, []) := by decide +kernel
theorem xe_161_273 (a0 a1 a2 a3 : Option MV) (st : List MV) (μ : MM) (G : MG) : ev 161 273 [a0, a1, a2, a3] st μ G = ev 161 275 [a0, a1, a2, a3] (vI (16) :: st) μ G := ev_stp pg_161_273 rfl
theorem pg_161_275 : mm_prog 161 275 = some (0, .irem, 276, []) := by decide +kernel
theorem xe_161_275 (a0 a1 a2 a3 : Option MV) (x y : Int) (st : List MV) (μ : MM) (G : MG) : ev 161 275 [a0, a1, a2, a3] (vI y :: vI x :: st) μ G = if y = 0 then none else ev 161 276 [a0, a1, a2, a3] (vI (mm_rem x y) :: st) μ G := ev_no pg_161_275 rfl
theorem pg_161_276 : mm_prog 161 276 = some (0, .iload_n 3, 277, []) := by decide +kernel
theorem xe_161_276 (a0 a1 a2 : Option MV) (x : Int) (st : List MV) (μ : MM) (G : MG) : ev 161 276 [a0, a1, a2, some (vI x)] st μ G = ev 161 277 [a0, a1, a2, some (vI x)] (vI x :: st) μ G := ev_stp pg_161_276 rfl
theorem pg_161_277 : mm_prog 161 277 = some (0, .iconst 4, 278, []) := by decide +kernel
theorem xe_161_277 (a0 a1 a2 a3 : Option MV) (st : List MV) (μ : MM) (G : MG) : ev 161 277 [a0, a1, a2, a3] st μ G = ev 161 278 [a0, a1, a2, a3] (vI (4) :: st) μ G := ev_stp pg_161_277 rfl
theorem pg_161_278 : mm_prog 161 278 = some (0, .irem, 279, []) := by decide +kernel
theorem xe_161_278 (a0 a1 a2 a3 : Option MV) (x y : Int) (st : List MV) (μ : MM) (G : MG) : ev 161 278 [a0, a1, a2, a3] (vI y :: vI x :: st) μ G = if y = 0 then none else ev 161 279 [a0, a1, a2, a3] (vI (mm_rem x y) :: st) μ G := ev_no pg_161_278 rfl
theorem pg_161_279 : mm_prog 161 279 = some (0, .bipush 16, 281, []) := by decide +kernel
theorem xe_161_279 (a0 a1 a2 a3 : Option MV) (st : List MV) (μ : MM) (G : MG) : ev 161 279 [a0, a1, a2, a3] st μ G = ev 161 281 [a0, a1, a2, a3] (vI (16) :: st) μ G := ev_stp pg_161_279 rfl
theorem pg_161_281 : mm_prog 161 281 = some (0, .imul, 282, []) := by decide +kernel
theorem xe_161_281 (a0 a1 a2 a3 : Option MV) (x y : Int) (st : List MV) (μ : MM) (G : MG) : ev 161 281 [a0, a1, a2, a3] (vI y :: vI x :: st) μ G = ev 161 282 [a0, a1, a2, a3] (vI (w32 (x * y)) :: st) μ G := ev_stp pg_161_281 rfl
theorem pg_161_282 : mm_prog 161 282 = some (0, .iadd, 283, []) := by decide +kernel
theorem xe_161_282 (a0 a1 a2 a3 : Option MV) (x y : Int) (st : List MV) (μ : MM) (G : MG) : ev 161 282 [a0, a1, a2, a3] (vI y :: vI x :: st) μ G = ev 161 283 [a0, a1, a2, a3] (vI (w32 (x + y)) :: st) μ G := ev_stp pg_161_282 rfl
theorem pg_161_283 : mm_prog 161 283 = some (0, .iastore, 284, []) := by decide +kernel
theorem xe_161_283 (a0 a1 a2 a3 : Option MV) (x y z : Int) (st : List MV) (μ : MM) (G : MG) : ev 161 283 [a0, a1, a2, a3] (vI x :: vI y :: vR z :: st) μ G = if gk G z = 100 ∧ 0 ≤ y ∧ y < gl G z ∧ 10 ≤ z then ev 161 284 [a0, a1, a2, a3] st (mset μ z y x) G else none := ev_if pg_161_283 rfl
theorem pg_161_284 : mm_prog 161 284 = some (0, .aload_n 0, 285, []) := by decide +kernel
theorem xe_161_284 (a1 a2 a3 : Option MV) (x : Int) (st : List MV) (μ : MM) (G : MG) : ev 161 284 [some (vR x), a1, a2, a3] st μ G = ev 161 285 [some (vR x), a1, a2, a3] (vR x :: st) μ G := ev_stp pg_161_284 rfl
theorem pg_161_285 : mm_prog 161 285 = some (0, .getfield 26, 288, [11, 9, 2]) := by decide +kernel
theorem xe_161_285 (a0 a1 a2 a3 : Option MV) (x : Int) (st : List MV) (μ : MM) (G : MG) : ev 161 285 [a0, a1, a2, a3] (vR x :: st) μ G = if gk G x = 11 then ev 161 288 [a0, a1, a2, a3] (vR (μ x 9) :: st) μ G else none := ev_if pg_161_285 rfl
theorem pg_161_288 : mm_prog 161 288 = some (0, .iload_n 2, 289, []) := by decide +kernel
theorem xe_161_288 (a0 a1 a3 : Option MV) (x : Int) (st : List MV) (μ : MM) (G : MG) : ev 161 288 [a0, a1, some (vI x), a3] st μ G = ev 161 289 [a0, a1, some (vI x), a3] (vI x :: st) μ G := ev_stp pg_161_288 rfl
theorem pg_161_289 : mm_prog 161 289 = some (0, .bipush 9, 291, []) := by decide +kernel
theorem xe_161_289 (a0 a1 a2 a3 : Option MV) (st : List MV) (μ : MM) (G : MG) : ev 161 289 [a0, a1, a2, a3] st μ G = ev 161 291 [a0, a1, a2, a3] (vI (9) :: st) μ G := ev_stp pg_161_289 rfl
theorem pg_161_291 : mm_prog 161 291 = some (0, .iadd, 292, []) := by decide +kernel
theorem xe_161_291 (a0 a1 a2 a3 : Option MV) (x y : Int) (st : List MV) (μ : MM) (G : MG) : ev 161 291 [a0, a1, a2, a3] (vI y :: vI x :: st) μ G = ev 161 292 [a0, a1, a2, a3] (vI (w32 (x + y)) :: st) μ G := ev_stp pg_161_291 rfl
theorem pg_161_292 : mm_prog 161 292 = some (0, .aload_n 0, 293, []) := by decide +kernel
theorem xe_161_292 (a1 a2 a3 : Option MV) (x : Int) (st : List MV) (μ : MM) (G : MG) : ev 161 292 [some (vR x), a1, a2, a3] st μ G = ev 161 293 [some (vR x), a1, a2, a3] (vR x :: st) μ G := ev_stp pg_161_292 rfl
theorem pg_161_293 : mm_prog 161 293 = some (0, .iload_n 1, 294, []) := by decide +kernel
theorem xe_161_293 (a0 a2 a3 : Option MV) (x : Int) (st : List MV) (μ : MM) (G : MG) : ev 161 293 [a0, some (vI x), a2, a3] st μ G = ev 161 294 [a0, some (vI x), a2, a3] (vI x :: st) μ G := ev_stp pg_161_293 rfl
theorem pg_161_294 : mm_prog 161 294 = some (0, .bipush 17, 296, []) := by decide +kernel
theorem xe_161_294 (a0 a1 a2 a3 : Option MV) (st : List MV) (μ : MM) (G : MG) : ev 161 294 [a0, a1, a2, a3] st μ G = ev 161 296 [a0, a1, a2, a3] (vI (17) :: st) μ G := ev_stp pg_161_294 rfl
theorem pg_161_296 : mm_prog 161 296 = some (0, .iadd, 297, []) := by decide +kernel
theorem xe_161_296 (a0 a1 a2 a3 : Option MV) (x y : Int) (st : List MV) (μ : MM) (G : MG) : ev 161 296 [a0, a1, a2, a3] (vI y :: vI x :: st) μ G = ev 161 297 [a0, a1, a2, a3] (vI (w32 (x + y)) :: st) μ G := ev_stp pg_161_296 rfl
theorem pg_161_297 : mm_prog 161 297 = some (1, .invokevirtual 140, 300, [1, 160, 1, 11]) := by decide +kernel
theorem xe_161_297 (a0 a1 a2 a3 : Option MV) (x0 z r0 r1 : Int) (μ : MM) (G : MG) : ev 161 297 [a0, a1, a2, a3] (vI x0 :: vR z :: [vI r0, vR r1]) μ G = if gk G z = 11 ∧ 0 < z then (ev 160 0 [some (vR z), some (vI x0)] [] μ G).bind (fun q => ev 161 300 [a0, a1, a2, a3] (q.1.toList ++ [vI r0, vR r1]) q.2.1 q.2.2) else none := ev_calV (as := [vR z, vI x0]) (r := [vI r0, vR r1]) mx_160 pg_161_297 rfl rfl (Nat.le_of_ble_eq_true rfl) (Nat.le_of_ble_eq_true rfl)
theorem pg_161_300 : mm_prog 161 300 = some (0, .sipush 128, 303, []) := by decide +kernel
theorem xe_161_300 (a0 a1 a2 a3 : Option MV) (st : List MV) (μ : MM) (G : MG) : ev 161 300 [a0, a1, a2, a3] st μ G = ev 161 303 [a0, a1, a2, a3] (vI (128) :: st) μ G := ev_stp pg_161_300 rfl
theorem pg_161_303 : mm_prog 161 303 = some (0, .idiv, 304, []) := by decide +kernel
theorem xe_161_303 (a0 a1 a2 a3 : Option MV) (x y : Int) (st : List MV) (μ : MM) (G : MG) : ev 161 303 [a0, a1, a2, a3] (vI y :: vI x :: st) μ G = if y = 0 then none else ev 161 304 [a0, a1, a2, a3] (vI (mm_div x y) :: st) μ G := ev_no pg_161_303 rfl
theorem pg_161_304 : mm_prog 161 304 = some (0, .iastore, 305, []) := by decide +kernel
theorem xe_161_304 (a0 a1 a2 a3 : Option MV) (x y z : Int) (st : List MV) (μ : MM) (G : MG) : ev 161 304 [a0, a1, a2, a3] (vI x :: vI y :: vR z :: st) μ G = if gk G z = 100 ∧ 0 ≤ y ∧ y < gl G z ∧ 10 ≤ z then ev 161 305 [a0, a1, a2, a3] st (mset μ z y x) G else none := ev_if pg_161_304 rfl
theorem pg_161_305 : mm_prog 161 305 = some (0, .aload_n 0, 306, []) := by decide +kernel
theorem xe_161_305 (a1 a2 a3 : Option MV) (x : Int) (st : List MV) (μ : MM) (G : MG) : ev 161 305 [some (vR x), a1, a2, a3] st μ G = ev 161 306 [some (vR x), a1, a2, a3] (vR x :: st) μ G := ev_stp pg_161_305 rfl
theorem pg_161_306 : mm_prog 161 306 = some (0, .getfield 26, 309, [11, 9, 2]) := by decide +kernel
theorem xe_161_306 (a0 a1 a2 a3 : Option MV) (x : Int) (st : List MV) (μ : MM) (G : MG) : ev 161 306 [a0, a1, a2, a3] (vR x :: st) μ G = if gk G x = 11 then ev 161 309 [a0, a1, a2, a3] (vR (μ x 9) :: st) μ G else none := ev_if pg_161_306 rfl
theorem pg_161_309 : mm_prog 161 309 = some (0, .iload_n 2, 310, []) := by decide +kernel
theorem xe_161_309 (a0 a1 a3 : Option MV) (x : Int) (st : List MV) (μ : MM) (G : MG) : ev 161 309 [a0, a1, some (vI x), a3] st μ G = ev 161 310 [a0, a1, some (vI x), a3] (vI x :: st) μ G := ev_stp pg_161_309 rfl
theorem pg_161_310 : mm_prog 161 310 = some (0, .bipush 10, 312, []) := by decide +kernel
theorem xe_161_310 (a0 a1 a2 a3 : Option MV) (st : List MV) (μ : MM) (G : MG) : ev 161 310 [a0, a1, a2, a3] st μ G = ev 161 312 [a0, a1, a2, a3] (vI (10) :: st) μ G := ev_stp pg_161_310 rfl
theorem pg_161_312 : mm_prog 161 312 = some (0, .iadd, 313, []) := by decide +kernel
theorem xe_161_312 (a0 a1 a2 a3 : Option MV) (x y : Int) (st : List MV) (μ : MM) (G : MG) : ev 161 312 [a0, a1, a2, a3] (vI y :: vI x :: st) μ G = ev 161 313 [a0, a1, a2, a3] (vI (w32 (x + y)) :: st) μ G := ev_stp pg_161_312 rfl
theorem pg_161_313 : mm_prog 161 313 = some (0, .aload_n 0, 314, []) := by decide +kernel
theorem xe_161_313 (a1 a2 a3 : Option MV) (x : Int) (st : List MV) (μ : MM) (G : MG) : ev 161 313 [some (vR x), a1, a2, a3] st μ G = ev 161 314 [some (vR x), a1, a2, a3] (vR x :: st) μ G := ev_stp pg_161_313 rfl
theorem pg_161_314 : mm_prog 161 314 = some (0, .iload_n 2, 315, []) := by decide +kernel
theorem xe_161_314 (a0 a1 a3 : Option MV) (x : Int) (st : List MV) (μ : MM) (G : MG) : ev 161 314 [a0, a1, some (vI x), a3] st μ G = ev 161 315 [a0, a1, some (vI x), a3] (vI x :: st) μ G := ev_stp pg_161_314 rfl
theorem pg_161_315 : mm_prog 161 315 = some (0, .iconst 1, 316, []) := by decide +kernel
theorem xe_161_315 (a0 a1 a2 a3 : Option MV) (st : List MV) (μ : MM) (G : MG) : ev 161 315 [a0, a1, a2, a3] st μ G = ev 161 316 [a0, a1, a2, a3] (vI (1) :: st) μ G := ev_stp pg_161_315 rfl
theorem pg_161_316 : mm_prog 161 316 = some (0, .iadd, 317, []) := by decide +kernel
theorem xe_161_316 (a0 a1 a2 a3 : Option MV) (x y : Int) (st : List MV) (μ : MM) (G : MG) : ev 161 316 [a0, a1, a2, a3] (vI y :: vI x :: st) μ G = ev 161 317 [a0, a1, a2, a3] (vI (w32 (x + y)) :: st) μ G := ev_stp pg_161_316 rfl
theorem pg_161_317 : mm_prog 161 317 = some (1, .invokevirtual 143, 320, [1, 162, 1, 11]) := by decide +kernel
theorem xe_161_317 (a0 a1 a2 a3 : Option MV) (x0 z r0 r1 : Int) (μ : MM) (G : MG) : ev 161 317 [a0, a1, a2, a3] (vI x0 :: vR z :: [vI r0, vR r1]) μ G = if gk G z = 11 ∧ 0 < z then (ev 162 0 [some (vR z), some (vI x0)] [] μ G).bind (fun q => ev 161 320 [a0, a1, a2, a3] (q.1.toList ++ [vI r0, vR r1]) q.2.1 q.2.2) else none := ev_calV (as := [vR z, vI x0]) (r := [vI r0, vR r1]) mx_162 pg_161_317 rfl rfl (Nat.le_of_ble_eq_true rfl) (Nat.le_of_ble_eq_true rfl)
theorem pg_161_320 : mm_prog 161 320 = some (0, .ifCond .ne 13, 323, []) := by decide +kernel
theorem xe_161_320 (a0 a1 a2 a3 : Option MV) (x : Int) (st : List MV) (μ : MM) (G : MG) : ev 161 320 [a0, a1, a2, a3] (vI x :: st) μ G = if ¬ x = 0 then ev 161 333 [a0, a1, a2, a3] st μ G else ev 161 323 [a0, a1, a2, a3] st μ G := ev_br (mm_cnd_ne x 0) pg_161_320 rfl
theorem pg_161_323 : mm_prog 161 323 = some (0, .aload_n 0, 324, []) := by decide +kernel
theorem xe_161_323 (a1 a2 a3 : Option MV) (x : Int) (st : List MV) (μ : MM) (G : MG) : ev 161 323 [some (vR x), a1, a2, a3] st μ G = ev 161 324 [some (vR x), a1, a2, a3] (vR x :: st) μ G := ev_stp pg_161_323 rfl
theorem pg_161_324 : mm_prog 161 324 = some (0, .iload_n 2, 325, []) := by decide +kernel
theorem xe_161_324 (a0 a1 a3 : Option MV) (x : Int) (st : List MV) (μ : MM) (G : MG) : ev 161 324 [a0, a1, some (vI x), a3] st μ G = ev 161 325 [a0, a1, some (vI x), a3] (vI x :: st) μ G := ev_stp pg_161_324 rfl
theorem pg_161_325 : mm_prog 161 325 = some (0, .iconst 5, 326, []) := by decide +kernel
theorem xe_161_325 (a0 a1 a2 a3 : Option MV) (st : List MV) (μ : MM) (G : MG) : ev 161 325 [a0, a1, a2, a3] st μ G = ev 161 326 [a0, a1, a2, a3] (vI (5) :: st) μ G := ev_stp pg_161_325 rfl
theorem pg_161_326 : mm_prog 161 326 = some (0, .iadd, 327, []) := by decide +kernel
theorem xe_161_326 (a0 a1 a2 a3 : Option MV) (x y : Int) (st : List MV) (μ : MM) (G : MG) : ev 161 326 [a0, a1, a2, a3] (vI y :: vI x :: st) μ G = ev 161 327 [a0, a1, a2, a3] (vI (w32 (x + y)) :: st) μ G := ev_stp pg_161_326 rfl
theorem pg_161_327 : mm_prog 161 327 = some (1, .invokevirtual 143, 330, [1, 162, 1, 11]) := by decide +kernel
theorem xe_161_327 (a0 a1 a2 a3 : Option MV) (x0 z r0 r1 : Int) (μ : MM) (G : MG) : ev 161 327 [a0, a1, a2, a3] (vI x0 :: vR z :: [vI r0, vR r1]) μ G = if gk G z = 11 ∧ 0 < z then (ev 162 0 [some (vR z), some (vI x0)] [] μ G).bind (fun q => ev 161 330 [a0, a1, a2, a3] (q.1.toList ++ [vI r0, vR r1]) q.2.1 q.2.2) else none := ev_calV (as := [vR z, vI x0]) (r := [vI r0, vR r1]) mx_162 pg_161_327 rfl rfl (Nat.le_of_ble_eq_true rfl) (Nat.le_of_ble_eq_true rfl)
theorem pg_161_330 : mm_prog 161 330 = some (0, .ifCond .eq 7, 333, []) := by decide +kernel
theorem xe_161_330 (a0 a1 a2 a3 : Option MV) (x : Int) (st : List MV) (μ : MM) (G : MG) : ev 161 330 [a0, a1, a2, a3] (vI x :: st) μ G = if x = 0 then ev 161 337 [a0, a1, a2, a3] st μ G else ev 161 333 [a0, a1, a2, a3] st μ G := ev_br (mm_cnd_eq x 0) pg_161_330 rfl
theorem pg_161_333 : mm_prog 161 333 = some (0, .iconst 1, 334, []) := by decide +kernel
theorem xe_161_333 (a0 a1 a2 a3 : Option MV) (st : List MV) (μ : MM) (G : MG) : ev 161 333 [a0, a1, a2, a3] st μ G = ev 161 334 [a0, a1, a2, a3] (vI (1) :: st) μ G := ev_stp pg_161_333 rfl
theorem pg_161_334 : mm_prog 161 334 = some (0, .goto 4, 337, []) := by decide +kernel
theorem xe_161_334 (a0 a1 a2 a3 : Option MV) (st : List MV) (μ : MM) (G : MG) : ev 161 334 [a0, a1, a2, a3] st μ G = ev 161 338 [a0, a1, a2, a3] st μ G := ev_stp pg_161_334 rfl
theorem pg_161_337 : mm_prog 161 337 = some (0, .iconst 0, 338, []) := by decide +kernel
theorem xe_161_337 (a0 a1 a2 a3 : Option MV) (st : List MV) (μ : MM) (G : MG) : ev 161 337 [a0, a1, a2, a3] st μ G = ev 161 338 [a0, a1, a2, a3] (vI (0) :: st) μ G := ev_stp pg_161_337 rfl
theorem pg_161_338 : mm_prog 161 338 = some (0, .iastore, 339, []) := by decide +kernel
theorem xe_161_338 (a0 a1 a2 a3 : Option MV) (x y z : Int) (st : List MV) (μ : MM) (G : MG) : ev 161 338 [a0, a1, a2, a3] (vI x :: vI y :: vR z :: st) μ G = if gk G z = 100 ∧ 0 ≤ y ∧ y < gl G z ∧ 10 ≤ z then ev 161 339 [a0, a1, a2, a3] st (mset μ z y x) G else none := ev_if pg_161_338 rfl
theorem pg_161_339 : mm_prog 161 339 = some (0, .aload_n 0, 340, []) := by decide +kernel
theorem xe_161_339 (a1 a2 a3 : Option MV) (x : Int) (st : List MV) (μ : MM) (G : MG) : ev 161 339 [some (vR x), a1, a2, a3] st μ G = ev 161 340 [some (vR x), a1, a2, a3] (vR x :: st) μ G := ev_stp pg_161_339 rfl
theorem pg_161_340 : mm_prog 161 340 = some (0, .dup, 341, []) := by decide +kernel
theorem xe_161_340 (a0 a1 a2 a3 : Option MV) (x : Int) (st : List MV) (μ : MM) (G : MG) : ev 161 340 [a0, a1, a2, a3] (vR x :: st) μ G = ev 161 341 [a0, a1, a2, a3] (vR x :: vR x :: st) μ G := ev_stp pg_161_340 rfl
theorem pg_161_341 : mm_prog 161 341 = some (0, .getfield 137, 344, [11, 13, 0]) := by decide +kernel
theorem xe_161_341 (a0 a1 a2 a3 : Option MV) (x : Int) (st : List MV) (μ : MM) (G : MG) : ev 161 341 [a0, a1, a2, a3] (vR x :: st) μ G = if gk G x = 11 then ev 161 344 [a0, a1, a2, a3] (vI (μ x 13) :: st) μ G else none := ev_if pg_161_341 rfl
theorem pg_161_344 : mm_prog 161 344 = some (0, .iconst 1, 345, []) := by decide +kernel
theorem xe_161_344 (a0 a1 a2 a3 : Option MV) (st : List MV) (μ : MM) (G : MG) : ev 161 344 [a0, a1, a2, a3] st μ G = ev 161 345 [a0, a1, a2, a3] (vI (1) :: st) μ G := ev_stp pg_161_344 rfl
theorem pg_161_345 : mm_prog 161 345 = some (0, .iadd, 346, []) := by decide +kernel
theorem xe_161_345 (a0 a1 a2 a3 : Option MV) (x y : Int) (st : List MV) (μ : MM) (G : MG) : ev 161 345 [a0, a1, a2, a3] (vI y :: vI x :: st) μ G = ev 161 346 [a0, a1, a2, a3] (vI (w32 (x + y)) :: st) μ G := ev_stp pg_161_345 rfl
theorem pg_161_346 : mm_prog 161 346 = some (0, .putfield 137, 349, [11, 13, 0]) := by decide +kernel
theorem xe_161_346 (a0 a1 a2 a3 : Option MV) (x y : Int) (st : List MV) (μ : MM) (G : MG) : ev 161 346 [a0, a1, a2, a3] (vI x :: vR y :: st) μ G = if gk G y = 11 then ev 161 349 [a0, a1, a2, a3] st (mset μ y 13 x) G else none := ev_put0 pg_161_346
theorem pg_161_349 : mm_prog 161 349 = some (2, .return_, 350, []) := by decide +kernel
theorem xe_161_349 (a0 a1 a2 a3 : Option MV) (μ : MM) (G : MG) : ev 161 349 [a0, a1, a2, a3] [] μ G = some (none, μ, G) := ev_ret pg_161_349 rfl
-- X11_isBroken
theorem pg_162_0 : mm_prog 162 0 = some (0, .aload_n 0, 1, []) := by decide +kernel
theorem xe_162_0 (a1 : Option MV) (x : Int) (st : List MV) (μ : MM) (G : MG) : ev 162 0 [some (vR x), a1] st μ G = ev 162 1 [some (vR x), a1] (vR x :: st) μ G := ev_stp pg_162_0 rfl
theorem pg_162_1 : mm_prog 162 1 = some (0, .getfield 26, 4, [11, 9, 2]) := by decide +kernel
theorem xe_162_1 (a0 a1 : Option MV) (x : Int) (st : List MV) (μ : MM) (G : MG) : ev 162 1 [a0, a1] (vR x :: st) μ G = if gk G x = 11 then ev 162 4 [a0, a1] (vR (μ x 9) :: st) μ G else none := ev_if pg_162_1 rfl
theorem pg_162_4 : mm_prog 162 4 = some (0, .iload_n 1, 5, []) := by decide +kernel
theorem xe_162_4 (a0 : Option MV) (x : Int) (st : List MV) (μ : MM) (G : MG) : ev 162 4 [a0, some (vI x)] st μ G = ev 162 5 [a0, some (vI x)] (vI x :: st) μ G := ev_stp pg_162_4 rfl
theorem pg_162_5 : mm_prog 162 5 = some (0, .iaload, 6, []) := by decide +kernel
theorem xe_162_5 (a0 a1 : Option MV) (x y : Int) (st : List MV) (μ : MM) (G : MG) : ev 162 5 [a0, a1] (vI x :: vR y :: st) μ G = if gk G y = 100 ∧ 0 ≤ x ∧ x < gl G y then ev 162 6 [a0, a1] (vI (μ y x) :: st) μ G else none := ev_if pg_162_5 rfl
theorem pg_162_6 : mm_prog 162 6 = some (0, .ifCond .eq 31, 9, []) := by decide +kernel
theorem xe_162_6 (a0 a1 : Option MV) (x : Int) (st : List MV) (μ : MM) (G : MG) : ev 162 6 [a0, a1] (vI x :: st) μ G = if x = 0 then ev 162 37 [a0, a1] st μ G else ev 162 9 [a0, a1] st μ G := ev_br (mm_cnd_eq x 0) pg_162_6 rfl
theorem pg_162_9 : mm_prog 162 9 = some (0, .aload_n 0, 10, []) := by decide +kernel
theorem xe_162_9 (a1 : Option MV) (x : Int) (st : List MV) (μ : MM) (G : MG) : ev 162 9 [some (vR x), a1] st μ G = ev 162 10 [some (vR x), a1] (vR x :: st) μ G := ev_stp pg_162_9 rfl
theorem pg_162_10 : mm_prog 162 10 = some (0, .getfield 26, 13, [11, 9, 2]) := by decide +kernel
theorem xe_162_10 (a0 a1 : Option MV) (x : Int) (st : List MV) (μ : MM) (G : MG) : ev 162 10 [a0, a1] (vR x :: st) μ G = if gk G x = 11 then ev 162 13 [a0, a1] (vR (μ x 9) :: st) μ G else none := ev_if pg_162_10 rfl
theorem pg_162_13 : mm_prog 162 13 = some (0, .iload_n 1, 14, []) := by decide +kernel
theorem xe_162_13 (a0 : Option MV) (x : Int) (st : List MV) (μ : MM) (G : MG) : ev 162 13 [a0, some (vI x)] st μ G = ev 162 14 [a0, some (vI x)] (vI x :: st) μ G := ev_stp pg_162_13 rfl
theorem pg_162_14 : mm_prog 162 14 = some (0, .iconst 2, 15, []) := by decide +kernel
theorem xe_162_14 (a0 a1 : Option MV) (st : List MV) (μ : MM) (G : MG) : ev 162 14 [a0, a1] st μ G = ev 162 15 [a0, a1] (vI (2) :: st) μ G := ev_stp pg_162_14 rfl
theorem pg_162_15 : mm_prog 162 15 = some (0, .iadd, 16, []) := by decide +kernel
theorem xe_162_15 (a0 a1 : Option MV) (x y : Int) (st : List MV) (μ : MM) (G : MG) : ev 162 15 [a0, a1] (vI y :: vI x :: st) μ G = ev 162 16 [a0, a1] (vI (w32 (x + y)) :: st) μ G := ev_stp pg_162_15 rfl
theorem pg_162_16 : mm_prog 162 16 = some (0, .iaload, 17, []) := by decide +kernel
theorem xe_162_16 (a0 a1 : Option MV) (x y : Int) (st : List MV) (μ : MM) (G : MG) : ev 162 16 [a0, a1] (vI x :: vR y :: st) μ G = if gk G y = 100 ∧ 0 ≤ x ∧ x < gl G y then ev 162 17 [a0, a1] (vI (μ y x) :: st) μ G else none := ev_if pg_162_16 rfl
theorem pg_162_17 : mm_prog 162 17 = some (0, .aload_n 0, 18, []) := by decide +kernel
theorem xe_162_17 (a1 : Option MV) (x : Int) (st : List MV) (μ : MM) (G : MG) : ev 162 17 [some (vR x), a1] st μ G = ev 162 18 [some (vR x), a1] (vR x :: st) μ G := ev_stp pg_162_17 rfl
theorem pg_162_18 : mm_prog 162 18 = some (0, .getfield 26, 21, [11, 9, 2]) := by decide +kernel
theorem xe_162_18 (a0 a1 : Option MV) (x : Int) (st : List MV) (μ : MM) (G : MG) : ev 162 18 [a0, a1] (vR x :: st) μ G = if gk G x = 11 then ev 162 21 [a0, a1] (vR (μ x 9) :: st) μ G else none := ev_if pg_162_18 rfl
theorem pg_162_21 : mm_prog 162 21 = some (0, .iload_n 1, 22, []) := by decide +kernel
theorem xe_162_21 (a0 : Option MV) (x : Int) (st : List MV) (μ : MM) (G : MG) : ev 162 21 [a0, some (vI x)] st μ G = ev 162 22 [a0, some (vI x)] (vI x :: st) μ G := ev_stp pg_162_21 rfl
theorem pg_162_22 : mm_prog 162 22 = some (0, .iconst 3, 23, []) := by decide +kernel
theorem xe_162_22 (a0 a1 : Option MV) (st : List MV) (μ : MM) (G : MG) : ev 162 22 [a0, a1] st μ G = ev 162 23 [a0, a1] (vI (3) :: st) μ G := ev_stp pg_162_22 rfl
theorem pg_162_23 : mm_prog 162 23 = some (0, .iadd, 24, []) := by decide +kernel
theorem xe_162_23 (a0 a1 : Option MV) (x y : Int) (st : List MV) (μ : MM) (G : MG) : ev 162 23 [a0, a1] (vI y :: vI x :: st) μ G = ev 162 24 [a0, a1] (vI (w32 (x + y)) :: st) μ G := ev_stp pg_162_23 rfl
theorem pg_162_24 : mm_prog 162 24 = some (0, .iaload, 25, []) := by decide +kernel
theorem xe_162_24 (a0 a1 : Option MV) (x y : Int) (st : List MV) (μ : MM) (G : MG) : ev 162 24 [a0, a1] (vI x :: vR y :: st) μ G = if gk G y = 100 ∧ 0 ≤ x ∧ x < gl G y then ev 162 25 [a0, a1] (vI (μ y x) :: st) μ G else none := ev_if pg_162_24 rfl
theorem pg_162_25 : mm_prog 162 25 = some (0, .iadd, 26, []) := by decide +kernel
theorem xe_162_25 (a0 a1 : Option MV) (x y : Int) (st : List MV) (μ : MM) (G : MG) : ev 162 25 [a0, a1] (vI y :: vI x :: st) μ G = ev 162 26 [a0, a1] (vI (w32 (x + y)) :: st) μ G := ev_stp pg_162_25 rfl
theorem pg_162_26 : mm_prog 162 26 = some (0, .aload_n 0, 27, []) := by decide +kernel
theorem xe_162_26 (a1 : Option MV) (x : Int) (st : List MV) (μ : MM) (G : MG) : ev 162 26 [some (vR x), a1] st μ G = ev 162 27 [some (vR x), a1] (vR x :: st) μ G := ev_stp pg_162_26 rfl
theorem pg_162_27 : mm_prog 162 27 = some (0, .getfield 26, 30, [11, 9, 2]) := by decide +kernel
theorem xe_162_27 (a0 a1 : Option MV) (x : Int) (st : List MV) (μ : MM) (G : MG) : ev 162 27 [a0, a1] (vR x :: st) μ G = if gk G x = 11 then ev 162 30 [a0, a1] (vR (μ x 9) :: st) μ G else none := ev_if pg_162_27 rfl
theorem pg_162_30 : mm_prog 162 30 = some (0, .iload_n 1, 31, []) := by decide +kernel
theorem xe_162_30 (a0 : Option MV) (x : Int) (st : List MV) (μ : MM) (G : MG) : ev 162 30 [a0, some (vI x)] st μ G = ev 162 31 [a0, some (vI x)] (vI x :: st) μ G := ev_stp pg_162_30 rfl
theorem pg_162_31 : mm_prog 162 31 = some (0, .iconst 1, 32, []) := by decide +kernel
theorem xe_162_31 (a0 a1 : Option MV) (st : List MV) (μ : MM) (G : MG) : ev 162 31 [a0, a1] st μ G = ev 162 32 [a0, a1] (vI (1) :: st) μ G := ev_stp pg_162_31 rfl
theorem pg_162_32 : mm_prog 162 32 = some (0, .iadd, 33, []) := by decide +kernel
theorem xe_162_32 (a0 a1 : Option MV) (x y : Int) (st : List MV) (μ : MM) (G : MG) : ev 162 32 [a0, a1] (vI y :: vI x :: st) μ G = ev 162 33 [a0, a1] (vI (w32 (x + y)) :: st) μ G := ev_stp pg_162_32 rfl
theorem pg_162_33 : mm_prog 162 33 = some (0, .iaload, 34, []) := by decide +kernel
theorem xe_162_33 (a0 a1 : Option MV) (x y : Int) (st : List MV) (μ : MM) (G : MG) : ev 162 33 [a0, a1] (vI x :: vR y :: st) μ G = if gk G y = 100 ∧ 0 ≤ x ∧ x < gl G y then ev 162 34 [a0, a1] (vI (μ y x) :: st) μ G else none := ev_if pg_162_33 rfl
theorem pg_162_34 : mm_prog 162 34 = some (0, .if_icmp .le 7, 37, []) := by decide +kernel
theorem xe_162_34 (a0 a1 : Option MV) (x y : Int) (st : List MV) (μ : MM) (G : MG) : ev 162 34 [a0, a1] (vI y :: vI x :: st) μ G = if x ≤ y then ev 162 41 [a0, a1] st μ G else ev 162 37 [a0, a1] st μ G := ev_br (mm_cnd_le x y) pg_162_34 rfl
theorem pg_162_37 : mm_prog 162 37 = some (0, .iconst 1, 38, []) := by decide +kernel
theorem xe_162_37 (a0 a1 : Option MV) (st : List MV) (μ : MM) (G : MG) : ev 162 37 [a0, a1] st μ G = ev 162 38 [a0, a1] (vI (1) :: st) μ G := ev_stp pg_162_37 rfl
theorem pg_162_38 : mm_prog 162 38 = some (0, .goto 4, 41, []) := by decide +kernel
theorem xe_162_38 (a0 a1 : Option MV) (st : List MV) (μ : MM) (G : MG) : ev 162 38 [a0, a1] st μ G = ev 162 42 [a0, a1] st μ G := ev_stp pg_162_38 rfl
theorem pg_162_41 : mm_prog 162 41 = some (0, .iconst 0, 42, []) := by decide +kernel
theorem xe_162_41 (a0 a1 : Option MV) (st : List MV) (μ : MM) (G : MG) : ev 162 41 [a0, a1] st μ G = ev 162 42 [a0, a1] (vI (0) :: st) μ G := ev_stp pg_162_41 rfl
theorem pg_162_42 : mm_prog 162 42 = some (2, .ireturn, 43, [1]) := by decide +kernel
theorem xe_162_42 (a0 a1 : Option MV) (x : Int) (μ : MM) (G : MG) : ev 162 42 [a0, a1] [vI x] μ G = if x = 0 ∨ x = 1 then some (some (vI x), μ, G) else none := ev_retB pg_162_42
-- X11_isDetailed
theorem pg_163_0 : mm_prog 163 0 = some (0, .aload_n 0, 1, []) := by decide +kernel
theorem xe_163_0 (a1 : Option MV) (x : Int) (st : List MV) (μ : MM) (G : MG) : ev 163 0 [some (vR x), a1] st μ G = ev 163 1 [some (vR x), a1] (vR x :: st) μ G := ev_stp pg_163_0 rfl
theorem pg_163_1 : mm_prog 163 1 = some (0, .iload_n 1, 2, []) := by decide +kernel
theorem xe_163_1 (a0 : Option MV) (x : Int) (st : List MV) (μ : MM) (G : MG) : ev 163 1 [a0, some (vI x)] st μ G = ev 163 2 [a0, some (vI x)] (vI x :: st) μ G := ev_stp pg_163_1 rfl
theorem pg_163_2 : mm_prog 163 2 = some (1, .invokevirtual 140, 5, [1, 160, 1, 11]) := by decide +kernel
theorem xe_163_2 (a0 a1 : Option MV) (x0 z : Int) (μ : MM) (G : MG) : ev 163 2 [a0, a1] (vI x0 :: vR z :: []) μ G = if gk G z = 11 ∧ 0 < z then (ev 160 0 [some (vR z), some (vI x0)] [] μ G).bind (fun q => ev 163 5 [a0, a1] (q.1.toList ++ []) q.2.1 q.2.2) else none := ev_calV (as := [vR z, vI x0]) (r := []) mx_160 pg_163_2 rfl rfl (Nat.le_of_ble_eq_true rfl) (Nat.le_of_ble_eq_true rfl)
theorem pg_163_5 : mm_prog 163 5 = some (0, .aload_n 0, 6, []) := by decide +kernel
theorem xe_163_5 (a1 : Option MV) (x : Int) (st : List MV) (μ : MM) (G : MG) : ev 163 5 [some (vR x), a1] st μ G = ev 163 6 [some (vR x), a1] (vR x :: st) μ G := ev_stp pg_163_5 rfl
theorem pg_163_6 : mm_prog 163 6 = some (0, .iload_n 1, 7, []) := by decide +kernel
theorem xe_163_6 (a0 : Option MV) (x : Int) (st : List MV) (μ : MM) (G : MG) : ev 163 6 [a0, some (vI x)] st μ G = ev 163 7 [a0, some (vI x)] (vI x :: st) μ G := ev_stp pg_163_6 rfl
theorem pg_163_7 : mm_prog 163 7 = some (0, .iconst 1, 8, []) := by decide +kernel
theorem xe_163_7 (a0 a1 : Option MV) (st : List MV) (μ : MM) (G : MG) : ev 163 7 [a0, a1] st μ G = ev 163 8 [a0, a1] (vI (1) :: st) μ G := ev_stp pg_163_7 rfl
theorem pg_163_8 : mm_prog 163 8 = some (0, .iadd, 9, []) := by decide +kernel
theorem xe_163_8 (a0 a1 : Option MV) (x y : Int) (st : List MV) (μ : MM) (G : MG) : ev 163 8 [a0, a1] (vI y :: vI x :: st) μ G = ev 163 9 [a0, a1] (vI (w32 (x + y)) :: st) μ G := ev_stp pg_163_8 rfl
theorem pg_163_9 : mm_prog 163 9 = some (1, .invokevirtual 140, 12, [1, 160, 1, 11]) := by decide +kernel
theorem xe_163_9 (a0 a1 : Option MV) (x0 z r0 : Int) (μ : MM) (G : MG) : ev 163 9 [a0, a1] (vI x0 :: vR z :: [vI r0]) μ G = if gk G z = 11 ∧ 0 < z then (ev 160 0 [some (vR z), some (vI x0)] [] μ G).bind (fun q => ev 163 12 [a0, a1] (q.1.toList ++ [vI r0]) q.2.1 q.2.2) else none := ev_calV (as := [vR z, vI x0]) (r := [vI r0]) mx_160 pg_163_9 rfl rfl (Nat.le_of_ble_eq_true rfl) (Nat.le_of_ble_eq_true rfl)
theorem pg_163_12 : mm_prog 163 12 = some (0, .iadd, 13, []) := by decide +kernel
theorem xe_163_12 (a0 a1 : Option MV) (x y : Int) (st : List MV) (μ : MM) (G : MG) : ev 163 12 [a0, a1] (vI y :: vI x :: st) μ G = ev 163 13 [a0, a1] (vI (w32 (x + y)) :: st) μ G := ev_stp pg_163_12 rfl
theorem pg_163_13 : mm_prog 163 13 = some (0, .ifCond .le 7, 16, []) := by decide +kernel
theorem xe_163_13 (a0 a1 : Option MV) (x : Int) (st : List MV) (μ : MM) (G : MG) : ev 163 13 [a0, a1] (vI x :: st) μ G = if x ≤ 0 then ev 163 20 [a0, a1] st μ G else ev 163 16 [a0, a1] st μ G := ev_br (mm_cnd_le x 0) pg_163_13 rfl
theorem pg_163_16 : mm_prog 163 16 = some (0, .iconst 1, 17, []) := by decide +kernel
theorem xe_163_16 (a0 a1 : Option MV) (st : List MV) (μ : MM) (G : MG) : ev 163 16 [a0, a1] st μ G = ev 163 17 [a0, a1] (vI (1) :: st) μ G := ev_stp pg_163_16 rfl
theorem pg_163_17 : mm_prog 163 17 = some (0, .goto 4, 20, []) := by decide +kernel
theorem xe_163_17 (a0 a1 : Option MV) (st : List MV) (μ : MM) (G : MG) : ev 163 17 [a0, a1] st μ G = ev 163 21 [a0, a1] st μ G := ev_stp pg_163_17 rfl
theorem pg_163_20 : mm_prog 163 20 = some (0, .iconst 0, 21, []) := by decide +kernel
theorem xe_163_20 (a0 a1 : Option MV) (st : List MV) (μ : MM) (G : MG) : ev 163 20 [a0, a1] st μ G = ev 163 21 [a0, a1] (vI (0) :: st) μ G := ev_stp pg_163_20 rfl
theorem pg_163_21 : mm_prog 163 21 = some (2, .ireturn, 22, [1]) := by decide +kernel
theorem xe_163_21 (a0 a1 : Option MV) (x : Int) (μ : MM) (G : MG) : ev 163 21 [a0, a1] [vI x] μ G = if x = 0 ∨ x = 1 then some (some (vI x), μ, G) else none := ev_retB pg_163_21
-- X11_readsOther
theorem pg_164_0 : mm_prog 164 0 = some (0, .aload_n 0, 1, []) := by decide +kernel
theorem xe_164_0 (a1 a2 : Option MV) (x : Int) (st : List MV) (μ : MM) (G : MG) : ev 164 0 [some (vR x), a1, a2] st μ G = ev 164 1 [some (vR x), a1, a2] (vR x :: st) μ G := ev_stp pg_164_0 rfl
theorem pg_164_1 : mm_prog 164 1 = some (0, .iload_n 1, 2, []) := by decide +kernel
theorem xe_164_1 (a0 a2 : Option MV) (x : Int) (st : List MV) (μ : MM) (G : MG) : ev 164 1 [a0, some (vI x), a2] st μ G = ev 164 2 [a0, some (vI x), a2] (vI x :: st) μ G := ev_stp pg_164_1 rfl
theorem pg_164_2 : mm_prog 164 2 = some (0, .iconst 3, 3, []) := by decide +kernel
theorem xe_164_2 (a0 a1 a2 : Option MV) (st : List MV) (μ : MM) (G : MG) : ev 164 2 [a0, a1, a2] st μ G = ev 164 3 [a0, a1, a2] (vI (3) :: st) μ G := ev_stp pg_164_2 rfl
theorem pg_164_3 : mm_prog 164 3 = some (0, .iadd, 4, []) := by decide +kernel
theorem xe_164_3 (a0 a1 a2 : Option MV) (x y : Int) (st : List MV) (μ : MM) (G : MG) : ev 164 3 [a0, a1, a2] (vI y :: vI x :: st) μ G = ev 164 4 [a0, a1, a2] (vI (w32 (x + y)) :: st) μ G := ev_stp pg_164_3 rfl
theorem pg_164_4 : mm_prog 164 4 = some (1, .invokevirtual 140, 7, [1, 160, 1, 11]) := by decide +kernel
theorem xe_164_4 (a0 a1 a2 : Option MV) (x0 z : Int) (μ : MM) (G : MG) : ev 164 4 [a0, a1, a2] (vI x0 :: vR z :: []) μ G = if gk G z = 11 ∧ 0 < z then (ev 160 0 [some (vR z), some (vI x0)] [] μ G).bind (fun q => ev 164 7 [a0, a1, a2] (q.1.toList ++ []) q.2.1 q.2.2) else none := ev_calV (as := [vR z, vI x0]) (r := []) mx_160 pg_164_4 rfl rfl (Nat.le_of_ble_eq_true rfl) (Nat.le_of_ble_eq_true rfl)
theorem pg_164_7 : mm_prog 164 7 = some (0, .sipush 252, 10, []) := by decide +kernel
theorem xe_164_7 (a0 a1 a2 : Option MV) (st : List MV) (μ : MM) (G : MG) : ev 164 7 [a0, a1, a2] st μ G = ev 164 10 [a0, a1, a2] (vI (252) :: st) μ G := ev_stp pg_164_7 rfl
theorem pg_164_10 : mm_prog 164 10 = some (0, .if_icmp .ne 95, 13, []) := by decide +kernel
theorem xe_164_10 (a0 a1 a2 : Option MV) (x y : Int) (st : List MV) (μ : MM) (G : MG) : ev 164 10 [a0, a1, a2] (vI y :: vI x :: st) μ G = if ¬ x = y then ev 164 105 [a0, a1, a2] st μ G else ev 164 13 [a0, a1, a2] st μ G := ev_br (mm_cnd_ne x y) pg_164_10 rfl
theorem pg_164_13 : mm_prog 164 13 = some (0, .aload_n 0, 14, []) := by decide +kernel
theorem xe_164_13 (a1 a2 : Option MV) (x : Int) (st : List MV) (μ : MM) (G : MG) : ev 164 13 [some (vR x), a1, a2] st μ G = ev 164 14 [some (vR x), a1, a2] (vR x :: st) μ G := ev_stp pg_164_13 rfl
theorem pg_164_14 : mm_prog 164 14 = some (0, .iconst 0, 15, []) := by decide +kernel
theorem xe_164_14 (a0 a1 a2 : Option MV) (st : List MV) (μ : MM) (G : MG) : ev 164 14 [a0, a1, a2] st μ G = ev 164 15 [a0, a1, a2] (vI (0) :: st) μ G := ev_stp pg_164_14 rfl
theorem pg_164_15 : mm_prog 164 15 = some (0, .putfield 147, 18, [11, 14, 0]) := by decide +kernel
theorem xe_164_15 (a0 a1 a2 : Option MV) (x y : Int) (st : List MV) (μ : MM) (G : MG) : ev 164 15 [a0, a1, a2] (vI x :: vR y :: st) μ G = if gk G y = 11 then ev 164 18 [a0, a1, a2] st (mset μ y 14 x) G else none := ev_put0 pg_164_15
theorem pg_164_18 : mm_prog 164 18 = some (0, .iconst 5, 19, []) := by decide +kernel
theorem xe_164_18 (a0 a1 a2 : Option MV) (st : List MV) (μ : MM) (G : MG) : ev 164 18 [a0, a1, a2] st μ G = ev 164 19 [a0, a1, a2] (vI (5) :: st) μ G := ev_stp pg_164_18 rfl
theorem pg_164_19 : mm_prog 164 19 = some (0, .istore_n 2, 20, []) := by decide +kernel
theorem xe_164_19 (a0 a1 a2 : Option MV) (x : Int) (st : List MV) (μ : MM) (G : MG) (h : mm_nL a1 = true) : ev 164 19 [a0, a1, a2] (vI x :: st) μ G = ev 164 20 [a0, a1, some (vI x)] st μ G := ev_st pg_164_19 rfl (mm_nl_of h) (Nat.le_of_ble_eq_true rfl)
theorem pg_164_20 : mm_prog 164 20 = some (0, .iload_n 2, 21, []) := by decide +kernel
theorem xe_164_20 (a0 a1 : Option MV) (x : Int) (st : List MV) (μ : MM) (G : MG) : ev 164 20 [a0, a1, some (vI x)] st μ G = ev 164 21 [a0, a1, some (vI x)] (vI x :: st) μ G := ev_stp pg_164_20 rfl
theorem pg_164_21 : mm_prog 164 21 = some (0, .bipush 18, 23, []) := by decide +kernel
theorem xe_164_21 (a0 a1 a2 : Option MV) (st : List MV) (μ : MM) (G : MG) : ev 164 21 [a0, a1, a2] st μ G = ev 164 23 [a0, a1, a2] (vI (18) :: st) μ G := ev_stp pg_164_21 rfl
theorem pg_164_23 : mm_prog 164 23 = some (0, .if_icmp .ge 82, 26, []) := by decide +kernel
theorem xe_164_23 (a0 a1 a2 : Option MV) (x y : Int) (st : List MV) (μ : MM) (G : MG) : ev 164 23 [a0, a1, a2] (vI y :: vI x :: st) μ G = if y ≤ x then ev 164 105 [a0, a1, a2] st μ G else ev 164 26 [a0, a1, a2] st μ G := ev_br (mm_cnd_ge x y) pg_164_23 rfl
theorem pg_164_26 : mm_prog 164 26 = some (0, .aload_n 0, 27, []) := by decide +kernel
theorem xe_164_26 (a1 a2 : Option MV) (x : Int) (st : List MV) (μ : MM) (G : MG) : ev 164 26 [some (vR x), a1, a2] st μ G = ev 164 27 [some (vR x), a1, a2] (vR x :: st) μ G := ev_stp pg_164_26 rfl
theorem pg_164_27 : mm_prog 164 27 = some (0, .iload_n 1, 28, []) := by decide +kernel
theorem xe_164_27 (a0 a2 : Option MV) (x : Int) (st : List MV) (μ : MM) (G : MG) : ev 164 27 [a0, some (vI x), a2] st μ G = ev 164 28 [a0, some (vI x), a2] (vI x :: st) μ G := ev_stp pg_164_27 rfl
theorem pg_164_28 : mm_prog 164 28 = some (0, .iload_n 2, 29, []) := by decide +kernel
theorem xe_164_28 (a0 a1 : Option MV) (x : Int) (st : List MV) (μ : MM) (G : MG) : ev 164 28 [a0, a1, some (vI x)] st μ G = ev 164 29 [a0, a1, some (vI x)] (vI x :: st) μ G := ev_stp pg_164_28 rfl
theorem pg_164_29 : mm_prog 164 29 = some (0, .iadd, 30, []) := by decide +kernel
theorem xe_164_29 (a0 a1 a2 : Option MV) (x y : Int) (st : List MV) (μ : MM) (G : MG) : ev 164 29 [a0, a1, a2] (vI y :: vI x :: st) μ G = ev 164 30 [a0, a1, a2] (vI (w32 (x + y)) :: st) μ G := ev_stp pg_164_29 rfl
theorem pg_164_30 : mm_prog 164 30 = some (1, .invokevirtual 140, 33, [1, 160, 1, 11]) := by decide +kernel
theorem xe_164_30 (a0 a1 a2 : Option MV) (x0 z : Int) (μ : MM) (G : MG) : ev 164 30 [a0, a1, a2] (vI x0 :: vR z :: []) μ G = if gk G z = 11 ∧ 0 < z then (ev 160 0 [some (vR z), some (vI x0)] [] μ G).bind (fun q => ev 164 33 [a0, a1, a2] (q.1.toList ++ []) q.2.1 q.2.2) else none := ev_calV (as := [vR z, vI x0]) (r := []) mx_160 pg_164_30 rfl rfl (Nat.le_of_ble_eq_true rfl) (Nat.le_of_ble_eq_true rfl)
theorem pg_164_33 : mm_prog 164 33 = some (0, .bipush 10, 35, []) := by decide +kernel
theorem xe_164_33 (a0 a1 a2 : Option MV) (st : List MV) (μ : MM) (G : MG) : ev 164 33 [a0, a1, a2] st μ G = ev 164 35 [a0, a1, a2] (vI (10) :: st) μ G := ev_stp pg_164_33 rfl
theorem pg_164_35 : mm_prog 164 35 = some (0, .if_icmp .eq 70, 38, []) := by decide +kernel
theorem xe_164_35 (a0 a1 a2 : Option MV) (x y : Int) (st : List MV) (μ : MM) (G : MG) : ev 164 35 [a0, a1, a2] (vI y :: vI x :: st) μ G = if x = y then ev 164 105 [a0, a1, a2] st μ G else ev 164 38 [a0, a1, a2] st μ G := ev_br (mm_cnd_eq x y) pg_164_35 rfl
theorem pg_164_38 : mm_prog 164 38 = some (0, .aload_n 0, 39, []) := by decide +kernel
theorem xe_164_38 (a1 a2 : Option MV) (x : Int) (st : List MV) (μ : MM) (G : MG) : ev 164 38 [some (vR x), a1, a2] st μ G = ev 164 39 [some (vR x), a1, a2] (vR x :: st) μ G := ev_stp pg_164_38 rfl
theorem pg_164_39 : mm_prog 164 39 = some (0, .iload_n 1, 40, []) := by decide +kernel
theorem xe_164_39 (a0 a2 : Option MV) (x : Int) (st : List MV) (μ : MM) (G : MG) : ev 164 39 [a0, some (vI x), a2] st μ G = ev 164 40 [a0, some (vI x), a2] (vI x :: st) μ G := ev_stp pg_164_39 rfl
theorem pg_164_40 : mm_prog 164 40 = some (0, .iload_n 2, 41, []) := by decide +kernel
theorem xe_164_40 (a0 a1 : Option MV) (x : Int) (st : List MV) (μ : MM) (G : MG) : ev 164 40 [a0, a1, some (vI x)] st μ G = ev 164 41 [a0, a1, some (vI x)] (vI x :: st) μ G := ev_stp pg_164_40 rfl
theorem pg_164_41 : mm_prog 164 41 = some (0, .iadd, 42, []) := by decide +kernel
theorem xe_164_41 (a0 a1 a2 : Option MV) (x y : Int) (st : List MV) (μ : MM) (G : MG) : ev 164 41 [a0, a1, a2] (vI y :: vI x :: st) μ G = ev 164 42 [a0, a1, a2] (vI (w32 (x + y)) :: st) μ G := ev_stp pg_164_41 rfl
theorem pg_164_42 : mm_prog 164 42 = some (1, .invokevirtual 140, 45, [1, 160, 1, 11]) := by decide +kernel
theorem xe_164_42 (a0 a1 a2 : Option MV) (x0 z : Int) (μ : MM) (G : MG) : ev 164 42 [a0, a1, a2] (vI x0 :: vR z :: []) μ G = if gk G z = 11 ∧ 0 < z then (ev 160 0 [some (vR z), some (vI x0)] [] μ G).bind (fun q => ev 164 45 [a0, a1, a2] (q.1.toList ++ []) q.2.1 q.2.2) else none := ev_calV (as := [vR z, vI x0]) (r := []) mx_160 pg_164_42 rfl rfl (Nat.le_of_ble_eq_true rfl) (Nat.le_of_ble_eq_true rfl)
theorem pg_164_45 : mm_prog 164 45 = some (0, .ifCond .eq 60, 48, []) := by decide +kernel
theorem xe_164_45 (a0 a1 a2 : Option MV) (x : Int) (st : List MV) (μ : MM) (G : MG) : ev 164 45 [a0, a1, a2] (vI x :: st) μ G = if x = 0 then ev 164 105 [a0, a1, a2] st μ G else ev 164 48 [a0, a1, a2] st μ G := ev_br (mm_cnd_eq x 0) pg_164_45 rfl
theorem pg_164_48 : mm_prog 164 48 = some (0, .aload_n 0, 49, []) := by decide +kernel
theorem xe_164_48 (a1 a2 : Option MV) (x : Int) (st : List MV) (μ : MM) (G : MG) : ev 164 48 [some (vR x), a1, a2] st μ G = ev 164 49 [some (vR x), a1, a2] (vR x :: st) μ G := ev_stp pg_164_48 rfl
theorem pg_164_49 : mm_prog 164 49 = some (0, .getfield 29, 52, [11, 10, 2]) := by decide +kernel
theorem xe_164_49 (a0 a1 a2 : Option MV) (x : Int) (st : List MV) (μ : MM) (G : MG) : ev 164 49 [a0, a1, a2] (vR x :: st) μ G = if gk G x = 11 then ev 164 52 [a0, a1, a2] (vR (μ x 10) :: st) μ G else none := ev_if pg_164_49 rfl
theorem pg_164_52 : mm_prog 164 52 = some (0, .aload_n 0, 53, []) := by decide +kernel
theorem xe_164_52 (a1 a2 : Option MV) (x : Int) (st : List MV) (μ : MM) (G : MG) : ev 164 52 [some (vR x), a1, a2] st μ G = ev 164 53 [some (vR x), a1, a2] (vR x :: st) μ G := ev_stp pg_164_52 rfl
theorem pg_164_53 : mm_prog 164 53 = some (0, .getfield 147, 56, [11, 14, 0]) := by decide +kernel
theorem xe_164_53 (a0 a1 a2 : Option MV) (x : Int) (st : List MV) (μ : MM) (G : MG) : ev 164 53 [a0, a1, a2] (vR x :: st) μ G = if gk G x = 11 then ev 164 56 [a0, a1, a2] (vI (μ x 14) :: st) μ G else none := ev_if pg_164_53 rfl
theorem pg_164_56 : mm_prog 164 56 = some (0, .aload_n 0, 57, []) := by decide +kernel
theorem xe_164_56 (a1 a2 : Option MV) (x : Int) (st : List MV) (μ : MM) (G : MG) : ev 164 56 [some (vR x), a1, a2] st μ G = ev 164 57 [some (vR x), a1, a2] (vR x :: st) μ G := ev_stp pg_164_56 rfl
theorem pg_164_57 : mm_prog 164 57 = some (0, .iload_n 1, 58, []) := by decide +kernel
theorem xe_164_57 (a0 a2 : Option MV) (x : Int) (st : List MV) (μ : MM) (G : MG) : ev 164 57 [a0, some (vI x), a2] st μ G = ev 164 58 [a0, some (vI x), a2] (vI x :: st) μ G := ev_stp pg_164_57 rfl
theorem pg_164_58 : mm_prog 164 58 = some (0, .iload_n 2, 59, []) := by decide +kernel
theorem xe_164_58 (a0 a1 : Option MV) (x : Int) (st : List MV) (μ : MM) (G : MG) : ev 164 58 [a0, a1, some (vI x)] st μ G = ev 164 59 [a0, a1, some (vI x)] (vI x :: st) μ G := ev_stp pg_164_58 rfl
theorem pg_164_59 : mm_prog 164 59 = some (0, .iadd, 60, []) := by decide +kernel
theorem xe_164_59 (a0 a1 a2 : Option MV) (x y : Int) (st : List MV) (μ : MM) (G : MG) : ev 164 59 [a0, a1, a2] (vI y :: vI x :: st) μ G = ev 164 60 [a0, a1, a2] (vI (w32 (x + y)) :: st) μ G := ev_stp pg_164_59 rfl
theorem pg_164_60 : mm_prog 164 60 = some (1, .invokevirtual 140, 63, [1, 160, 1, 11]) := by decide +kernel
theorem xe_164_60 (a0 a1 a2 : Option MV) (x0 z r0 r1 : Int) (μ : MM) (G : MG) : ev 164 60 [a0, a1, a2] (vI x0 :: vR z :: [vI r0, vR r1]) μ G = if gk G z = 11 ∧ 0 < z then (ev 160 0 [some (vR z), some (vI x0)] [] μ G).bind (fun q => ev 164 63 [a0, a1, a2] (q.1.toList ++ [vI r0, vR r1]) q.2.1 q.2.2) else none := ev_calV (as := [vR z, vI x0]) (r := [vI r0, vR r1]) mx_160 pg_164_60 rfl rfl (Nat.le_of_ble_eq_true rfl) (Nat.le_of_ble_eq_true rfl)
theorem pg_164_63 : mm_prog 164 63 = some (0, .i2l, 64, []) := by decide +kernel
theorem xe_164_63 (a0 a1 a2 : Option MV) (x : Int) (st : List MV) (μ : MM) (G : MG) : ev 164 63 [a0, a1, a2] (vI x :: st) μ G = ev 164 64 [a0, a1, a2] (vL x :: st) μ G := ev_stp pg_164_63 rfl
theorem pg_164_64 : mm_prog 164 64 = some (0, .ldc2_w 150, 67, [32]) := by decide +kernel
theorem xe_164_64 (a0 a1 a2 : Option MV) (st : List MV) (μ : MM) (G : MG) : ev 164 64 [a0, a1, a2] st μ G = ev 164 67 [a0, a1, a2] (vL (32) :: st) μ G := ev_stp pg_164_64 rfl
theorem pg_164_67 : mm_prog 164 67 = some (0, .ldc2_w 152, 70, [126]) := by decide +kernel
theorem xe_164_67 (a0 a1 a2 : Option MV) (st : List MV) (μ : MM) (G : MG) : ev 164 67 [a0, a1, a2] st μ G = ev 164 70 [a0, a1, a2] (vL (126) :: st) μ G := ev_stp pg_164_67 rfl
theorem pg_164_70 : mm_prog 164 70 = some (1, .invokestatic 107, 73, [0, 148, 3, 0]) := by decide +kernel
theorem xe_164_70 (a0 a1 a2 : Option MV) (x0 x1 x2 r0 r1 : Int) (μ : MM) (G : MG) : ev 164 70 [a0, a1, a2] (vL x2 :: vL x1 :: vL x0 :: [vI r0, vR r1]) μ G = (ev 148 0 [some (vL x0), none, some (vL x1), none, some (vL x2), none] [] μ G).bind (fun q => ev 164 73 [a0, a1, a2] (q.1.toList ++ [vI r0, vR r1]) q.2.1 q.2.2) := ev_calS (as := [vL x0, vL x1, vL x2]) (r := [vI r0, vR r1]) mx_148 pg_164_70 rfl rfl (Nat.le_of_ble_eq_true rfl) (Nat.le_of_ble_eq_true rfl)
theorem pg_164_73 : mm_prog 164 73 = some (0, .ifCond .eq 13, 76, []) := by decide +kernel
theorem xe_164_73 (a0 a1 a2 : Option MV) (x : Int) (st : List MV) (μ : MM) (G : MG) : ev 164 73 [a0, a1, a2] (vI x :: st) μ G = if x = 0 then ev 164 86 [a0, a1, a2] st μ G else ev 164 76 [a0, a1, a2] st μ G := ev_br (mm_cnd_eq x 0) pg_164_73 rfl
theorem pg_164_76 : mm_prog 164 76 = some (0, .aload_n 0, 77, []) := by decide +kernel
theorem xe_164_76 (a1 a2 : Option MV) (x : Int) (st : List MV) (μ : MM) (G : MG) : ev 164 76 [some (vR x), a1, a2] st μ G = ev 164 77 [some (vR x), a1, a2] (vR x :: st) μ G := ev_stp pg_164_76 rfl
theorem pg_164_77 : mm_prog 164 77 = some (0, .iload_n 1, 78, []) := by decide +kernel
theorem xe_164_77 (a0 a2 : Option MV) (x : Int) (st : List MV) (μ : MM) (G : MG) : ev 164 77 [a0, some (vI x), a2] st μ G = ev 164 78 [a0, some (vI x), a2] (vI x :: st) μ G := ev_stp pg_164_77 rfl
theorem pg_164_78 : mm_prog 164 78 = some (0, .iload_n 2, 79, []) := by decide +kernel
theorem xe_164_78 (a0 a1 : Option MV) (x : Int) (st : List MV) (μ : MM) (G : MG) : ev 164 78 [a0, a1, some (vI x)] st μ G = ev 164 79 [a0, a1, some (vI x)] (vI x :: st) μ G := ev_stp pg_164_78 rfl
theorem pg_164_79 : mm_prog 164 79 = some (0, .iadd, 80, []) := by decide +kernel
theorem xe_164_79 (a0 a1 a2 : Option MV) (x y : Int) (st : List MV) (μ : MM) (G : MG) : ev 164 79 [a0, a1, a2] (vI y :: vI x :: st) μ G = ev 164 80 [a0, a1, a2] (vI (w32 (x + y)) :: st) μ G := ev_stp pg_164_79 rfl
theorem pg_164_80 : mm_prog 164 80 = some (1, .invokevirtual 140, 83, [1, 160, 1, 11]) := by decide +kernel
theorem xe_164_80 (a0 a1 a2 : Option MV) (x0 z r0 r1 : Int) (μ : MM) (G : MG) : ev 164 80 [a0, a1, a2] (vI x0 :: vR z :: [vI r0, vR r1]) μ G = if gk G z = 11 ∧ 0 < z then (ev 160 0 [some (vR z), some (vI x0)] [] μ G).bind (fun q => ev 164 83 [a0, a1, a2] (q.1.toList ++ [vI r0, vR r1]) q.2.1 q.2.2) else none := ev_calV (as := [vR z, vI x0]) (r := [vI r0, vR r1]) mx_160 pg_164_80 rfl rfl (Nat.le_of_ble_eq_true rfl) (Nat.le_of_ble_eq_true rfl)
theorem pg_164_83 : mm_prog 164 83 = some (0, .goto 5, 86, []) := by decide +kernel
theorem xe_164_83 (a0 a1 a2 : Option MV) (st : List MV) (μ : MM) (G : MG) : ev 164 83 [a0, a1, a2] st μ G = ev 164 88 [a0, a1, a2] st μ G := ev_stp pg_164_83 rfl
theorem pg_164_86 : mm_prog 164 86 = some (0, .bipush 63, 88, []) := by decide +kernel
theorem xe_164_86 (a0 a1 a2 : Option MV) (st : List MV) (μ : MM) (G : MG) : ev 164 86 [a0, a1, a2] st μ G = ev 164 88 [a0, a1, a2] (vI (63) :: st) μ G := ev_stp pg_164_86 rfl
theorem pg_164_88 : mm_prog 164 88 = some (0, .iastore, 89, []) := by decide +kernel
theorem xe_164_88 (a0 a1 a2 : Option MV) (x y z : Int) (st : List MV) (μ : MM) (G : MG) : ev 164 88 [a0, a1, a2] (vI x :: vI y :: vR z :: st) μ G = if gk G z = 100 ∧ 0 ≤ y ∧ y < gl G z ∧ 10 ≤ z then ev 164 89 [a0, a1, a2] st (mset μ z y x) G else none := ev_if pg_164_88 rfl
theorem pg_164_89 : mm_prog 164 89 = some (0, .aload_n 0, 90, []) := by decide +kernel
theorem xe_164_89 (a1 a2 : Option MV) (x : Int) (st : List MV) (μ : MM) (G : MG) : ev 164 89 [some (vR x), a1, a2] st μ G = ev 164 90 [some (vR x), a1, a2] (vR x :: st) μ G := ev_stp pg_164_89 rfl
theorem pg_164_90 : mm_prog 164 90 = some (0, .dup, 91, []) := by decide +kernel
theorem xe_164_90 (a0 a1 a2 : Option MV) (x : Int) (st : List MV) (μ : MM) (G : MG) : ev 164 90 [a0, a1, a2] (vR x :: st) μ G = ev 164 91 [a0, a1, a2] (vR x :: vR x :: st) μ G := ev_stp pg_164_90 rfl
theorem pg_164_91 : mm_prog 164 91 = some (0, .getfield 147, 94, [11, 14, 0]) := by decide +kernel
theorem xe_164_91 (a0 a1 a2 : Option MV) (x : Int) (st : List MV) (μ : MM) (G : MG) : ev 164 91 [a0, a1, a2] (vR x :: st) μ G = if gk G x = 11 then ev 164 94 [a0, a1, a2] (vI (μ x 14) :: st) μ G else none := ev_if pg_164_91 rfl
theorem pg_164_94 : mm_prog 164 94 = some (0, .iconst 1, 95, []) := by decide +kernel
theorem xe_164_94 (a0 a1 a2 : Option MV) (st : List MV) (μ : MM) (G : MG) : ev 164 94 [a0, a1, a2] st μ G = ev 164 95 [a0, a1, a2] (vI (1) :: st) μ G := ev_stp pg_164_94 rfl
theorem pg_164_95 : mm_prog 164 95 = some (0, .iadd, 96, []) := by decide +kernel
theorem xe_164_95 (a0 a1 a2 : Option MV) (x y : Int) (st : List MV) (μ : MM) (G : MG) : ev 164 95 [a0, a1, a2] (vI y :: vI x :: st) μ G = ev 164 96 [a0, a1, a2] (vI (w32 (x + y)) :: st) μ G := ev_stp pg_164_95 rfl
theorem pg_164_96 : mm_prog 164 96 = some (0, .putfield 147, 99, [11, 14, 0]) := by decide +kernel
theorem xe_164_96 (a0 a1 a2 : Option MV) (x y : Int) (st : List MV) (μ : MM) (G : MG) : ev 164 96 [a0, a1, a2] (vI x :: vR y :: st) μ G = if gk G y = 11 then ev 164 99 [a0, a1, a2] st (mset μ y 14 x) G else none := ev_put0 pg_164_96
theorem pg_164_99 : mm_prog 164 99 = some (0, .iinc 2 1, 102, []) := by decide +kernel
theorem xe_164_99 (a0 a1 : Option MV) (x : Int) (st : List MV) (μ : MM) (G : MG) (h : mm_nL a1 = true) : ev 164 99 [a0, a1, some (vI x)] st μ G = ev 164 102 [a0, a1, some (vI (w32 (x + (1))))] st μ G := ev_st pg_164_99 rfl (mm_nl_of h) (Nat.le_of_ble_eq_true rfl)
theorem pg_164_102 : mm_prog 164 102 = some (0, .goto (-82), 105, []) := by decide +kernel
theorem xe_164_102 (a0 a1 a2 : Option MV) (st : List MV) (μ : MM) (G : MG) : ev 164 102 [a0, a1, a2] st μ G = ev 164 20 [a0, a1, a2] st μ G := ev_stp pg_164_102 rfl
theorem pg_164_105 : mm_prog 164 105 = some (0, .aload_n 0, 106, []) := by decide +kernel
theorem xe_164_105 (a1 a2 : Option MV) (x : Int) (st : List MV) (μ : MM) (G : MG) : ev 164 105 [some (vR x), a1, a2] st μ G = ev 164 106 [some (vR x), a1, a2] (vR x :: st) μ G := ev_stp pg_164_105 rfl
theorem pg_164_106 : mm_prog 164 106 = some (0, .iload_n 1, 107, []) := by decide +kernel
theorem xe_164_106 (a0 a2 : Option MV) (x : Int) (st : List MV) (μ : MM) (G : MG) : ev 164 106 [a0, some (vI x), a2] st μ G = ev 164 107 [a0, some (vI x), a2] (vI x :: st) μ G := ev_stp pg_164_106 rfl
theorem pg_164_107 : mm_prog 164 107 = some (0, .iconst 3, 108, []) := by decide +kernel
theorem xe_164_107 (a0 a1 a2 : Option MV) (st : List MV) (μ : MM) (G : MG) : ev 164 107 [a0, a1, a2] st μ G = ev 164 108 [a0, a1, a2] (vI (3) :: st) μ G := ev_stp pg_164_107 rfl
theorem pg_164_108 : mm_prog 164 108 = some (0, .iadd, 109, []) := by decide +kernel
theorem xe_164_108 (a0 a1 a2 : Option MV) (x y : Int) (st : List MV) (μ : MM) (G : MG) : ev 164 108 [a0, a1, a2] (vI y :: vI x :: st) μ G = ev 164 109 [a0, a1, a2] (vI (w32 (x + y)) :: st) μ G := ev_stp pg_164_108 rfl
theorem pg_164_109 : mm_prog 164 109 = some (1, .invokevirtual 140, 112, [1, 160, 1, 11]) := by decide +kernel
theorem xe_164_109 (a0 a1 a2 : Option MV) (x0 z : Int) (μ : MM) (G : MG) : ev 164 109 [a0, a1, a2] (vI x0 :: vR z :: []) μ G = if gk G z = 11 ∧ 0 < z then (ev 160 0 [some (vR z), some (vI x0)] [] μ G).bind (fun q => ev 164 112 [a0, a1, a2] (q.1.toList ++ []) q.2.1 q.2.2) else none := ev_calV (as := [vR z, vI x0]) (r := []) mx_160 pg_164_109 rfl rfl (Nat.le_of_ble_eq_true rfl) (Nat.le_of_ble_eq_true rfl)
theorem pg_164_112 : mm_prog 164 112 = some (0, .sipush 253, 115, []) := by decide +kernel
theorem xe_164_112 (a0 a1 a2 : Option MV) (st : List MV) (μ : MM) (G : MG) : ev 164 112 [a0, a1, a2] st μ G = ev 164 115 [a0, a1, a2] (vI (253) :: st) μ G := ev_stp pg_164_112 rfl
theorem pg_164_115 : mm_prog 164 115 = some (0, .if_icmp .ne 54, 118, []) := by decide +kernel
theorem xe_164_115 (a0 a1 a2 : Option MV) (x y : Int) (st : List MV) (μ : MM) (G : MG) : ev 164 115 [a0, a1, a2] (vI y :: vI x :: st) μ G = if ¬ x = y then ev 164 169 [a0, a1, a2] st μ G else ev 164 118 [a0, a1, a2] st μ G := ev_br (mm_cnd_ne x y) pg_164_115 rfl
theorem pg_164_118 : mm_prog 164 118 = some (0, .aload_n 0, 119, []) := by decide +kernel
theorem xe_164_118 (a1 a2 : Option MV) (x : Int) (st : List MV) (μ : MM) (G : MG) : ev 164 118 [some (vR x), a1, a2] st μ G = ev 164 119 [some (vR x), a1, a2] (vR x :: st) μ G := ev_stp pg_164_118 rfl
theorem pg_164_119 : mm_prog 164 119 = some (0, .iconst 1, 120, []) := by decide +kernel
theorem xe_164_119 (a0 a1 a2 : Option MV) (st : List MV) (μ : MM) (G : MG) : ev 164 119 [a0, a1, a2] st μ G = ev 164 120 [a0, a1, a2] (vI (1) :: st) μ G := ev_stp pg_164_119 rfl
theorem pg_164_120 : mm_prog 164 120 = some (0, .putfield 154, 123, [11, 18, 1]) := by decide +kernel
theorem xe_164_120 (a0 a1 a2 : Option MV) (x y : Int) (st : List MV) (μ : MM) (G : MG) : ev 164 120 [a0, a1, a2] (vI x :: vR y :: st) μ G = if gk G y = 11 ∧ (x = 0 ∨ x = 1) then ev 164 123 [a0, a1, a2] st (mset μ y 18 x) G else none := ev_put1 pg_164_120
theorem pg_164_123 : mm_prog 164 123 = some (0, .iconst 0, 124, []) := by decide +kernel
theorem xe_164_123 (a0 a1 a2 : Option MV) (st : List MV) (μ : MM) (G : MG) : ev 164 123 [a0, a1, a2] st μ G = ev 164 124 [a0, a1, a2] (vI (0) :: st) μ G := ev_stp pg_164_123 rfl
theorem pg_164_124 : mm_prog 164 124 = some (0, .istore_n 2, 125, []) := by decide +kernel
theorem xe_164_124 (a0 a1 a2 : Option MV) (x : Int) (st : List MV) (μ : MM) (G : MG) (h : mm_nL a1 = true) : ev 164 124 [a0, a1, a2] (vI x :: st) μ G = ev 164 125 [a0, a1, some (vI x)] st μ G := ev_st pg_164_124 rfl (mm_nl_of h) (Nat.le_of_ble_eq_true rfl)
theorem pg_164_125 : mm_prog 164 125 = some (0, .iload_n 2, 126, []) := by decide +kernel
theorem xe_164_125 (a0 a1 : Option MV) (x : Int) (st : List MV) (μ : MM) (G : MG) : ev 164 125 [a0, a1, some (vI x)] st μ G = ev 164 126 [a0, a1, some (vI x)] (vI x :: st) μ G := ev_stp pg_164_125 rfl
theorem pg_164_126 : mm_prog 164 126 = some (0, .iconst 4, 127, []) := by decide +kernel
theorem xe_164_126 (a0 a1 a2 : Option MV) (st : List MV) (μ : MM) (G : MG) : ev 164 126 [a0, a1, a2] st μ G = ev 164 127 [a0, a1, a2] (vI (4) :: st) μ G := ev_stp pg_164_126 rfl
theorem pg_164_127 : mm_prog 164 127 = some (0, .if_icmp .ge 24, 130, []) := by decide +kernel
theorem xe_164_127 (a0 a1 a2 : Option MV) (x y : Int) (st : List MV) (μ : MM) (G : MG) : ev 164 127 [a0, a1, a2] (vI y :: vI x :: st) μ G = if y ≤ x then ev 164 151 [a0, a1, a2] st μ G else ev 164 130 [a0, a1, a2] st μ G := ev_br (mm_cnd_ge x y) pg_164_127 rfl
theorem pg_164_130 : mm_prog 164 130 = some (0, .aload_n 0, 131, []) := by decide +kernel
theorem xe_164_130 (a1 a2 : Option MV) (x : Int) (st : List MV) (μ : MM) (G : MG) : ev 164 130 [some (vR x), a1, a2] st μ G = ev 164 131 [some (vR x), a1, a2] (vR x :: st) μ G := ev_stp pg_164_130 rfl
theorem pg_164_131 : mm_prog 164 131 = some (0, .getfield 32, 134, [11, 11, 2]) := by decide +kernel
theorem xe_164_131 (a0 a1 a2 : Option MV) (x : Int) (st : List MV) (μ : MM) (G : MG) : ev 164 131 [a0, a1, a2] (vR x :: st) μ G = if gk G x = 11 then ev 164 134 [a0, a1, a2] (vR (μ x 11) :: st) μ G else none := ev_if pg_164_131 rfl
theorem pg_164_134 : mm_prog 164 134 = some (0, .iload_n 2, 135, []) := by decide +kernel
theorem xe_164_134 (a0 a1 : Option MV) (x : Int) (st : List MV) (μ : MM) (G : MG) : ev 164 134 [a0, a1, some (vI x)] st μ G = ev 164 135 [a0, a1, some (vI x)] (vI x :: st) μ G := ev_stp pg_164_134 rfl
theorem pg_164_135 : mm_prog 164 135 = some (0, .aload_n 0, 136, []) := by decide +kernel
theorem xe_164_135 (a1 a2 : Option MV) (x : Int) (st : List MV) (μ : MM) (G : MG) : ev 164 135 [some (vR x), a1, a2] st μ G = ev 164 136 [some (vR x), a1, a2] (vR x :: st) μ G := ev_stp pg_164_135 rfl
theorem pg_164_136 : mm_prog 164 136 = some (0, .iload_n 1, 137, []) := by decide +kernel
theorem xe_164_136 (a0 a2 : Option MV) (x : Int) (st : List MV) (μ : MM) (G : MG) : ev 164 136 [a0, some (vI x), a2] st μ G = ev 164 137 [a0, some (vI x), a2] (vI x :: st) μ G := ev_stp pg_164_136 rfl
theorem pg_164_137 : mm_prog 164 137 = some (0, .iconst 5, 138, []) := by decide +kernel
theorem xe_164_137 (a0 a1 a2 : Option MV) (st : List MV) (μ : MM) (G : MG) : ev 164 137 [a0, a1, a2] st μ G = ev 164 138 [a0, a1, a2] (vI (5) :: st) μ G := ev_stp pg_164_137 rfl
theorem pg_164_138 : mm_prog 164 138 = some (0, .iadd, 139, []) := by decide +kernel
theorem xe_164_138 (a0 a1 a2 : Option MV) (x y : Int) (st : List MV) (μ : MM) (G : MG) : ev 164 138 [a0, a1, a2] (vI y :: vI x :: st) μ G = ev 164 139 [a0, a1, a2] (vI (w32 (x + y)) :: st) μ G := ev_stp pg_164_138 rfl
theorem pg_164_139 : mm_prog 164 139 = some (0, .iload_n 2, 140, []) := by decide +kernel
theorem xe_164_139 (a0 a1 : Option MV) (x : Int) (st : List MV) (μ : MM) (G : MG) : ev 164 139 [a0, a1, some (vI x)] st μ G = ev 164 140 [a0, a1, some (vI x)] (vI x :: st) μ G := ev_stp pg_164_139 rfl
theorem pg_164_140 : mm_prog 164 140 = some (0, .iadd, 141, []) := by decide +kernel
theorem xe_164_140 (a0 a1 a2 : Option MV) (x y : Int) (st : List MV) (μ : MM) (G : MG) : ev 164 140 [a0, a1, a2] (vI y :: vI x :: st) μ G = ev 164 141 [a0, a1, a2] (vI (w32 (x + y)) :: st) μ G := ev_stp pg_164_140 rfl
theorem pg_164_141 : mm_prog 164 141 = some (1, .invokevirtual 140, 144, [1, 160, 1, 11]) := by decide +kernel
theorem xe_164_141 (a0 a1 a2 : Option MV) (x0 z r0 r1 : Int) (μ : MM) (G : MG) : ev 164 141 [a0, a1, a2] (vI x0 :: vR z :: [vI r0, vR r1]) μ G = if gk G z = 11 ∧ 0 < z then (ev 160 0 [some (vR z), some (vI x0)] [] μ G).bind (fun q => ev 164 144 [a0, a1, a2] (q.1.toList ++ [vI r0, vR r1]) q.2.1 q.2.2) else none := ev_calV (as := [vR z, vI x0]) (r := [vI r0, vR r1]) mx_160 pg_164_141 rfl rfl (Nat.le_of_ble_eq_true rfl) (Nat.le_of_ble_eq_true rfl)
theorem pg_164_144 : mm_prog 164 144 = some (0, .iastore, 145, []) := by decide +kernel
theorem xe_164_144 (a0 a1 a2 : Option MV) (x y z : Int) (st : List MV) (μ : MM) (G : MG) : ev 164 144 [a0, a1, a2] (vI x :: vI y :: vR z :: st) μ G = if gk G z = 100 ∧ 0 ≤ y ∧ y < gl G z ∧ 10 ≤ z then ev 164 145 [a0, a1, a2] st (mset μ z y x) G else none := ev_if pg_164_144 rfl
theorem pg_164_145 : mm_prog 164 145 = some (0, .iinc 2 1, 148, []) := by decide +kernel
theorem xe_164_145 (a0 a1 : Option MV) (x : Int) (st : List MV) (μ : MM) (G : MG) (h : mm_nL a1 = true) : ev 164 145 [a0, a1, some (vI x)] st μ G = ev 164 148 [a0, a1, some (vI (w32 (x + (1))))] st μ G := ev_st pg_164_145 rfl (mm_nl_of h) (Nat.le_of_ble_eq_true rfl)
theorem pg_164_148 : mm_prog 164 148 = some (0, .goto (-23), 151, []) := by decide +kernel
theorem xe_164_148 (a0 a1 a2 : Option MV) (st : List MV) (μ : MM) (G : MG) : ev 164 148 [a0, a1, a2] st μ G = ev 164 125 [a0, a1, a2] st μ G := ev_stp pg_164_148 rfl
theorem pg_164_151 : mm_prog 164 151 = some (0, .aload_n 0, 152, []) := by decide +kernel
theorem xe_164_151 (a1 a2 : Option MV) (x : Int) (st : List MV) (μ : MM) (G : MG) : ev 164 151 [some (vR x), a1, a2] st μ G = ev 164 152 [some (vR x), a1, a2] (vR x :: st) μ G := ev_stp pg_164_151 rfl
theorem pg_164_152 : mm_prog 164 152 = some (0, .getfield 32, 155, [11, 11, 2]) := by decide +kernel
theorem xe_164_152 (a0 a1 a2 : Option MV) (x : Int) (st : List MV) (μ : MM) (G : MG) : ev 164 152 [a0, a1, a2] (vR x :: st) μ G = if gk G x = 11 then ev 164 155 [a0, a1, a2] (vR (μ x 11) :: st) μ G else none := ev_if pg_164_152 rfl
theorem pg_164_155 : mm_prog 164 155 = some (0, .iconst 4, 156, []) := by decide +kernel
theorem xe_164_155 (a0 a1 a2 : Option MV) (st : List MV) (μ : MM) (G : MG) : ev 164 155 [a0, a1, a2] st μ G = ev 164 156 [a0, a1, a2] (vI (4) :: st) μ G := ev_stp pg_164_155 rfl
theorem pg_164_156 : mm_prog 164 156 = some (0, .sipush 10000, 159, []) := by decide +kernel
theorem xe_164_156 (a0 a1 a2 : Option MV) (st : List MV) (μ : MM) (G : MG) : ev 164 156 [a0, a1, a2] st μ G = ev 164 159 [a0, a1, a2] (vI (10000) :: st) μ G := ev_stp pg_164_156 rfl
theorem pg_164_159 : mm_prog 164 159 = some (0, .aload_n 0, 160, []) := by decide +kernel
theorem xe_164_159 (a1 a2 : Option MV) (x : Int) (st : List MV) (μ : MM) (G : MG) : ev 164 159 [some (vR x), a1, a2] st μ G = ev 164 160 [some (vR x), a1, a2] (vR x :: st) μ G := ev_stp pg_164_159 rfl
theorem pg_164_160 : mm_prog 164 160 = some (0, .iload_n 1, 161, []) := by decide +kernel
theorem xe_164_160 (a0 a2 : Option MV) (x : Int) (st : List MV) (μ : MM) (G : MG) : ev 164 160 [a0, some (vI x), a2] st μ G = ev 164 161 [a0, some (vI x), a2] (vI x :: st) μ G := ev_stp pg_164_160 rfl
theorem pg_164_161 : mm_prog 164 161 = some (0, .bipush 9, 163, []) := by decide +kernel
theorem xe_164_161 (a0 a1 a2 : Option MV) (st : List MV) (μ : MM) (G : MG) : ev 164 161 [a0, a1, a2] st μ G = ev 164 163 [a0, a1, a2] (vI (9) :: st) μ G := ev_stp pg_164_161 rfl
theorem pg_164_163 : mm_prog 164 163 = some (0, .iadd, 164, []) := by decide +kernel
theorem xe_164_163 (a0 a1 a2 : Option MV) (x y : Int) (st : List MV) (μ : MM) (G : MG) : ev 164 163 [a0, a1, a2] (vI y :: vI x :: st) μ G = ev 164 164 [a0, a1, a2] (vI (w32 (x + y)) :: st) μ G := ev_stp pg_164_163 rfl
theorem pg_164_164 : mm_prog 164 164 = some (1, .invokevirtual 140, 167, [1, 160, 1, 11]) := by decide +kernel
theorem xe_164_164 (a0 a1 a2 : Option MV) (x0 z r0 r1 r2 : Int) (μ : MM) (G : MG) : ev 164 164 [a0, a1, a2] (vI x0 :: vR z :: [vI r0, vI r1, vR r2]) μ G = if gk G z = 11 ∧ 0 < z then (ev 160 0 [some (vR z), some (vI x0)] [] μ G).bind (fun q => ev 164 167 [a0, a1, a2] (q.1.toList ++ [vI r0, vI r1, vR r2]) q.2.1 q.2.2) else none := ev_calV (as := [vR z, vI x0]) (r := [vI r0, vI r1, vR r2]) mx_160 pg_164_164 rfl rfl (Nat.le_of_ble_eq_true rfl) (Nat.le_of_ble_eq_true rfl)
theorem pg_164_167 : mm_prog 164 167 = some (0, .imul, 168, []) := by decide +kernel
theorem xe_164_167 (a0 a1 a2 : Option MV) (x y : Int) (st : List MV) (μ : MM) (G : MG) : ev 164 167 [a0, a1, a2] (vI y :: vI x :: st) μ G = ev 164 168 [a0, a1, a2] (vI (w32 (x * y)) :: st) μ G := ev_stp pg_164_167 rfl
theorem pg_164_168 : mm_prog 164 168 = some (0, .iastore, 169, []) := by decide +kernel
theorem xe_164_168 (a0 a1 a2 : Option MV) (x y z : Int) (st : List MV) (μ : MM) (G : MG) : ev 164 168 [a0, a1, a2] (vI x :: vI y :: vR z :: st) μ G = if gk G z = 100 ∧ 0 ≤ y ∧ y < gl G z ∧ 10 ≤ z then ev 164 169 [a0, a1, a2] st (mset μ z y x) G else none := ev_if pg_164_168 rfl
theorem pg_164_169 : mm_prog 164 169 = some (2, .return_, 170, []) := by decide +kernel
theorem xe_164_169 (a0 a1 a2 : Option MV) (μ : MM) (G : MG) : ev 164 169 [a0, a1, a2] [] μ G = some (none, μ, G) := ev_ret pg_164_169 rfl
-- X11_readsData
theorem pg_165_0 : mm_prog 165 0 = some (0, .aload_n 0, 1, []) := by decide +kernel
theorem xe_165_0 (a1 a2 a3 a4 : Option MV) (x : Int) (st : List MV) (μ : MM) (G : MG) : ev 165 0 [some (vR x), a1, a2, a3, a4] st μ G = ev 165 1 [some (vR x), a1, a2, a3, a4] (vR x :: st) μ G := ev_stp pg_165_0 rfl
theorem pg_165_1 : mm_prog 165 1 = some (0, .iload_n 1, 2, []) := by decide +kernel
theorem xe_165_1 (a0 a2 a3 a4 : Option MV) (x : Int) (st : List MV) (μ : MM) (G : MG) : ev 165 1 [a0, some (vI x), a2, a3, a4] st μ G = ev 165 2 [a0, some (vI x), a2, a3, a4] (vI x :: st) μ G := ev_stp pg_165_1 rfl
theorem pg_165_2 : mm_prog 165 2 = some (1, .invokevirtual 140, 5, [1, 160, 1, 11]) := by decide +kernel
theorem xe_165_2 (a0 a1 a2 a3 a4 : Option MV) (x0 z : Int) (μ : MM) (G : MG) : ev 165 2 [a0, a1, a2, a3, a4] (vI x0 :: vR z :: []) μ G = if gk G z = 11 ∧ 0 < z then (ev 160 0 [some (vR z), some (vI x0)] [] μ G).bind (fun q => ev 165 5 [a0, a1, a2, a3, a4] (q.1.toList ++ []) q.2.1 q.2.2) else none := ev_calV (as := [vR z, vI x0]) (r := []) mx_160 pg_165_2 rfl rfl (Nat.le_of_ble_eq_true rfl) (Nat.le_of_ble_eq_true rfl)
theorem pg_165_5 : mm_prog 165 5 = some (0, .bipush 32, 7, []) := by decide +kernel
theorem xe_165_5 (a0 a1 a2 a3 a4 : Option MV) (st : List MV) (μ : MM) (G : MG) : ev 165 5 [a0, a1, a2, a3, a4] st μ G = ev 165 7 [a0, a1, a2, a3, a4] (vI (32) :: st) μ G := ev_stp pg_165_5 rfl
theorem pg_165_7 : mm_prog 165 7 = some (0, .idiv, 8, []) := by decide +kernel
theorem xe_165_7 (a0 a1 a2 a3 a4 : Option MV) (x y : Int) (st : List MV) (μ : MM) (G : MG) : ev 165 7 [a0, a1, a2, a3, a4] (vI y :: vI x :: st) μ G = if y = 0 then none else ev 165 8 [a0, a1, a2, a3, a4] (vI (mm_div x y) :: st) μ G := ev_no pg_165_7 rfl
theorem pg_165_8 : mm_prog 165 8 = some (0, .istore_n 3, 9, []) := by decide +kernel
theorem xe_165_8 (a0 a1 a2 a3 a4 : Option MV) (x : Int) (st : List MV) (μ : MM) (G : MG) (h : mm_nL a2 = true) : ev 165 8 [a0, a1, a2, a3, a4] (vI x :: st) μ G = ev 165 9 [a0, a1, a2, some (vI x), a4] st μ G := ev_st pg_165_8 rfl (mm_nl_of h) (Nat.le_of_ble_eq_true rfl)
theorem pg_165_9 : mm_prog 165 9 = some (0, .iload_n 3, 10, []) := by decide +kernel
theorem xe_165_9 (a0 a1 a2 a4 : Option MV) (x : Int) (st : List MV) (μ : MM) (G : MG) : ev 165 9 [a0, a1, a2, some (vI x), a4] st μ G = ev 165 10 [a0, a1, a2, some (vI x), a4] (vI x :: st) μ G := ev_stp pg_165_9 rfl
theorem pg_165_10 : mm_prog 165 10 = some (0, .iconst 1, 11, []) := by decide +kernel
theorem xe_165_10 (a0 a1 a2 a3 a4 : Option MV) (st : List MV) (μ : MM) (G : MG) : ev 165 10 [a0, a1, a2, a3, a4] st μ G = ev 165 11 [a0, a1, a2, a3, a4] (vI (1) :: st) μ G := ev_stp pg_165_10 rfl
theorem pg_165_11 : mm_prog 165 11 = some (0, .if_icmp .ne 15, 14, []) := by decide +kernel
theorem xe_165_11 (a0 a1 a2 a3 a4 : Option MV) (x y : Int) (st : List MV) (μ : MM) (G : MG) : ev 165 11 [a0, a1, a2, a3, a4] (vI y :: vI x :: st) μ G = if ¬ x = y then ev 165 26 [a0, a1, a2, a3, a4] st μ G else ev 165 14 [a0, a1, a2, a3, a4] st μ G := ev_br (mm_cnd_ne x y) pg_165_11 rfl
theorem pg_165_14 : mm_prog 165 14 = some (0, .aload_n 0, 15, []) := by decide +kernel
theorem xe_165_14 (a1 a2 a3 a4 : Option MV) (x : Int) (st : List MV) (μ : MM) (G : MG) : ev 165 14 [some (vR x), a1, a2, a3, a4] st μ G = ev 165 15 [some (vR x), a1, a2, a3, a4] (vR x :: st) μ G := ev_stp pg_165_14 rfl
theorem pg_165_15 : mm_prog 165 15 = some (0, .dup, 16, []) := by decide +kernel
theorem xe_165_15 (a0 a1 a2 a3 a4 : Option MV) (x : Int) (st : List MV) (μ : MM) (G : MG) : ev 165 15 [a0, a1, a2, a3, a4] (vR x :: st) μ G = ev 165 16 [a0, a1, a2, a3, a4] (vR x :: vR x :: st) μ G := ev_stp pg_165_15 rfl
theorem pg_165_16 : mm_prog 165 16 = some (0, .getfield 158, 19, [11, 16, 0]) := by decide +kernel
theorem xe_165_16 (a0 a1 a2 a3 a4 : Option MV) (x : Int) (st : List MV) (μ : MM) (G : MG) : ev 165 16 [a0, a1, a2, a3, a4] (vR x :: st) μ G = if gk G x = 11 then ev 165 19 [a0, a1, a2, a3, a4] (vI (μ x 16) :: st) μ G else none := ev_if pg_165_16 rfl
theorem pg_165_19 : mm_prog 165 19 = some (0, .iload_n 2, 20, []) := by decide +kernel
theorem xe_165_19 (a0 a1 a3 a4 : Option MV) (x : Int) (st : List MV) (μ : MM) (G : MG) : ev 165 19 [a0, a1, some (vI x), a3, a4] st μ G = ev 165 20 [a0, a1, some (vI x), a3, a4] (vI x :: st) μ G := ev_stp pg_165_19 rfl
theorem pg_165_20 : mm_prog 165 20 = some (0, .iconst 3, 21, []) := by decide +kernel
theorem xe_165_20 (a0 a1 a2 a3 a4 : Option MV) (st : List MV) (μ : MM) (G : MG) : ev 165 20 [a0, a1, a2, a3, a4] st μ G = ev 165 21 [a0, a1, a2, a3, a4] (vI (3) :: st) μ G := ev_stp pg_165_20 rfl
theorem pg_165_21 : mm_prog 165 21 = some (0, .idiv, 22, []) := by decide +kernel
theorem xe_165_21 (a0 a1 a2 a3 a4 : Option MV) (x y : Int) (st : List MV) (μ : MM) (G : MG) : ev 165 21 [a0, a1, a2, a3, a4] (vI y :: vI x :: st) μ G = if y = 0 then none else ev 165 22 [a0, a1, a2, a3, a4] (vI (mm_div x y) :: st) μ G := ev_no pg_165_21 rfl
theorem pg_165_22 : mm_prog 165 22 = some (0, .iadd, 23, []) := by decide +kernel
theorem xe_165_22 (a0 a1 a2 a3 a4 : Option MV) (x y : Int) (st : List MV) (μ : MM) (G : MG) : ev 165 22 [a0, a1, a2, a3, a4] (vI y :: vI x :: st) μ G = ev 165 23 [a0, a1, a2, a3, a4] (vI (w32 (x + y)) :: st) μ G := ev_stp pg_165_22 rfl
theorem pg_165_23 : mm_prog 165 23 = some (0, .putfield 158, 26, [11, 16, 0]) := by decide +kernel
theorem xe_165_23 (a0 a1 a2 a3 a4 : Option MV) (x y : Int) (st : List MV) (μ : MM) (G : MG) : ev 165 23 [a0, a1, a2, a3, a4] (vI x :: vR y :: st) μ G = if gk G y = 11 then ev 165 26 [a0, a1, a2, a3, a4] st (mset μ y 16 x) G else none := ev_put0 pg_165_23
theorem pg_165_26 : mm_prog 165 26 = some (0, .iconst 1, 27, []) := by decide +kernel
theorem xe_165_26 (a0 a1 a2 a3 a4 : Option MV) (st : List MV) (μ : MM) (G : MG) : ev 165 26 [a0, a1, a2, a3, a4] st μ G = ev 165 27 [a0, a1, a2, a3, a4] (vI (1) :: st) μ G := ev_stp pg_165_26 rfl
theorem pg_165_27 : mm_prog 165 27 = some (0, .istore 4, 29, []) := by decide +kernel
theorem xe_165_27 (a0 a1 a2 a3 a4 : Option MV) (x : Int) (st : List MV) (μ : MM) (G : MG) (h : mm_nL a3 = true) : ev 165 27 [a0, a1, a2, a3, a4] (vI x :: st) μ G = ev 165 29 [a0, a1, a2, a3, some (vI x)] st μ G := ev_st pg_165_27 rfl (mm_nl_of h) (Nat.le_of_ble_eq_true rfl)
theorem pg_165_29 : mm_prog 165 29 = some (0, .iload 4, 31, []) := by decide +kernel
theorem xe_165_29 (a0 a1 a2 a3 : Option MV) (x : Int) (st : List MV) (μ : MM) (G : MG) : ev 165 29 [a0, a1, a2, a3, some (vI x)] st μ G = ev 165 31 [a0, a1, a2, a3, some (vI x)] (vI x :: st) μ G := ev_stp pg_165_29 rfl
theorem pg_165_31 : mm_prog 165 31 = some (0, .iload_n 2, 32, []) := by decide +kernel
theorem xe_165_31 (a0 a1 a3 a4 : Option MV) (x : Int) (st : List MV) (μ : MM) (G : MG) : ev 165 31 [a0, a1, some (vI x), a3, a4] st μ G = ev 165 32 [a0, a1, some (vI x), a3, a4] (vI x :: st) μ G := ev_stp pg_165_31 rfl
theorem pg_165_32 : mm_prog 165 32 = some (0, .if_icmp .gt 45, 35, []) := by decide +kernel
theorem xe_165_32 (a0 a1 a2 a3 a4 : Option MV) (x y : Int) (st : List MV) (μ : MM) (G : MG) : ev 165 32 [a0, a1, a2, a3, a4] (vI y :: vI x :: st) μ G = if y < x then ev 165 77 [a0, a1, a2, a3, a4] st μ G else ev 165 35 [a0, a1, a2, a3, a4] st μ G := ev_br (mm_cnd_gt x y) pg_165_32 rfl
theorem pg_165_35 : mm_prog 165 35 = some (0, .iload_n 3, 36, []) := by decide +kernel
theorem xe_165_35 (a0 a1 a2 a4 : Option MV) (x : Int) (st : List MV) (μ : MM) (G : MG) : ev 165 35 [a0, a1, a2, some (vI x), a4] st μ G = ev 165 36 [a0, a1, a2, some (vI x), a4] (vI x :: st) μ G := ev_stp pg_165_35 rfl
theorem pg_165_36 : mm_prog 165 36 = some (0, .iconst 2, 37, []) := by decide +kernel
theorem xe_165_36 (a0 a1 a2 a3 a4 : Option MV) (st : List MV) (μ : MM) (G : MG) : ev 165 36 [a0, a1, a2, a3, a4] st μ G = ev 165 37 [a0, a1, a2, a3, a4] (vI (2) :: st) μ G := ev_stp pg_165_36 rfl
theorem pg_165_37 : mm_prog 165 37 = some (0, .if_icmp .ne 40, 40, []) := by decide +kernel
theorem xe_165_37 (a0 a1 a2 a3 a4 : Option MV) (x y : Int) (st : List MV) (μ : MM) (G : MG) : ev 165 37 [a0, a1, a2, a3, a4] (vI y :: vI x :: st) μ G = if ¬ x = y then ev 165 77 [a0, a1, a2, a3, a4] st μ G else ev 165 40 [a0, a1, a2, a3, a4] st μ G := ev_br (mm_cnd_ne x y) pg_165_37 rfl
theorem pg_165_40 : mm_prog 165 40 = some (0, .aload_n 0, 41, []) := by decide +kernel
theorem xe_165_40 (a1 a2 a3 a4 : Option MV) (x : Int) (st : List MV) (μ : MM) (G : MG) : ev 165 40 [some (vR x), a1, a2, a3, a4] st μ G = ev 165 41 [some (vR x), a1, a2, a3, a4] (vR x :: st) μ G := ev_stp pg_165_40 rfl
theorem pg_165_41 : mm_prog 165 41 = some (0, .getfield 35, 44, [11, 12, 2]) := by decide +kernel
theorem xe_165_41 (a0 a1 a2 a3 a4 : Option MV) (x : Int) (st : List MV) (μ : MM) (G : MG) : ev 165 41 [a0, a1, a2, a3, a4] (vR x :: st) μ G = if gk G x = 11 then ev 165 44 [a0, a1, a2, a3, a4] (vR (μ x 12) :: st) μ G else none := ev_if pg_165_41 rfl
theorem pg_165_44 : mm_prog 165 44 = some (0, .aload_n 0, 45, []) := by decide +kernel
theorem xe_165_44 (a1 a2 a3 a4 : Option MV) (x : Int) (st : List MV) (μ : MM) (G : MG) : ev 165 44 [some (vR x), a1, a2, a3, a4] st μ G = ev 165 45 [some (vR x), a1, a2, a3, a4] (vR x :: st) μ G := ev_stp pg_165_44 rfl
theorem pg_165_45 : mm_prog 165 45 = some (0, .getfield 161, 48, [11, 17, 0]) := by decide +kernel
theorem xe_165_45 (a0 a1 a2 a3 a4 : Option MV) (x : Int) (st : List MV) (μ : MM) (G : MG) : ev 165 45 [a0, a1, a2, a3, a4] (vR x :: st) μ G = if gk G x = 11 then ev 165 48 [a0, a1, a2, a3, a4] (vI (μ x 17) :: st) μ G else none := ev_if pg_165_45 rfl
theorem pg_165_48 : mm_prog 165 48 = some (0, .aload_n 0, 49, []) := by decide +kernel
theorem xe_165_48 (a1 a2 a3 a4 : Option MV) (x : Int) (st : List MV) (μ : MM) (G : MG) : ev 165 48 [some (vR x), a1, a2, a3, a4] st μ G = ev 165 49 [some (vR x), a1, a2, a3, a4] (vR x :: st) μ G := ev_stp pg_165_48 rfl
theorem pg_165_49 : mm_prog 165 49 = some (0, .iload_n 1, 50, []) := by decide +kernel
theorem xe_165_49 (a0 a2 a3 a4 : Option MV) (x : Int) (st : List MV) (μ : MM) (G : MG) : ev 165 49 [a0, some (vI x), a2, a3, a4] st μ G = ev 165 50 [a0, some (vI x), a2, a3, a4] (vI x :: st) μ G := ev_stp pg_165_49 rfl
theorem pg_165_50 : mm_prog 165 50 = some (0, .iload 4, 52, []) := by decide +kernel
theorem xe_165_50 (a0 a1 a2 a3 : Option MV) (x : Int) (st : List MV) (μ : MM) (G : MG) : ev 165 50 [a0, a1, a2, a3, some (vI x)] st μ G = ev 165 52 [a0, a1, a2, a3, some (vI x)] (vI x :: st) μ G := ev_stp pg_165_50 rfl
theorem pg_165_52 : mm_prog 165 52 = some (0, .iadd, 53, []) := by decide +kernel
theorem xe_165_52 (a0 a1 a2 a3 a4 : Option MV) (x y : Int) (st : List MV) (μ : MM) (G : MG) : ev 165 52 [a0, a1, a2, a3, a4] (vI y :: vI x :: st) μ G = ev 165 53 [a0, a1, a2, a3, a4] (vI (w32 (x + y)) :: st) μ G := ev_stp pg_165_52 rfl
theorem pg_165_53 : mm_prog 165 53 = some (1, .invokevirtual 140, 56, [1, 160, 1, 11]) := by decide +kernel
theorem xe_165_53 (a0 a1 a2 a3 a4 : Option MV) (x0 z r0 r1 : Int) (μ : MM) (G : MG) : ev 165 53 [a0, a1, a2, a3, a4] (vI x0 :: vR z :: [vI r0, vR r1]) μ G = if gk G z = 11 ∧ 0 < z then (ev 160 0 [some (vR z), some (vI x0)] [] μ G).bind (fun q => ev 165 56 [a0, a1, a2, a3, a4] (q.1.toList ++ [vI r0, vR r1]) q.2.1 q.2.2) else none := ev_calV (as := [vR z, vI x0]) (r := [vI r0, vR r1]) mx_160 pg_165_53 rfl rfl (Nat.le_of_ble_eq_true rfl) (Nat.le_of_ble_eq_true rfl)
theorem pg_165_56 : mm_prog 165 56 = some (0, .sipush 128, 59, []) := by decide +kernel
theorem xe_165_56 (a0 a1 a2 a3 a4 : Option MV) (st : List MV) (μ : MM) (G : MG) : ev 165 56 [a0, a1, a2, a3, a4] st μ G = ev 165 59 [a0, a1, a2, a3, a4] (vI (128) :: st) μ G := ev_stp pg_165_56 rfl
theorem pg_165_59 : mm_prog 165 59 = some (0, .irem, 60, []) := by decide +kernel
theorem xe_165_59 (a0 a1 a2 a3 a4 : Option MV) (x y : Int) (st : List MV) (μ : MM) (G : MG) : ev 165 59 [a0, a1, a2, a3, a4] (vI y :: vI x :: st) μ G = if y = 0 then none else ev 165 60 [a0, a1, a2, a3, a4] (vI (mm_rem x y) :: st) μ G := ev_no pg_165_59 rfl
theorem pg_165_60 : mm_prog 165 60 = some (0, .iastore, 61, []) := by decide +kernel
theorem xe_165_60 (a0 a1 a2 a3 a4 : Option MV) (x y z : Int) (st : List MV) (μ : MM) (G : MG) : ev 165 60 [a0, a1, a2, a3, a4] (vI x :: vI y :: vR z :: st) μ G = if gk G z = 100 ∧ 0 ≤ y ∧ y < gl G z ∧ 10 ≤ z then ev 165 61 [a0, a1, a2, a3, a4] st (mset μ z y x) G else none := ev_if pg_165_60 rfl
theorem pg_165_61 : mm_prog 165 61 = some (0, .aload_n 0, 62, []) := by decide +kernel
theorem xe_165_61 (a1 a2 a3 a4 : Option MV) (x : Int) (st : List MV) (μ : MM) (G : MG) : ev 165 61 [some (vR x), a1, a2, a3, a4] st μ G = ev 165 62 [some (vR x), a1, a2, a3, a4] (vR x :: st) μ G := ev_stp pg_165_61 rfl
theorem pg_165_62 : mm_prog 165 62 = some (0, .dup, 63, []) := by decide +kernel
theorem xe_165_62 (a0 a1 a2 a3 a4 : Option MV) (x : Int) (st : List MV) (μ : MM) (G : MG) : ev 165 62 [a0, a1, a2, a3, a4] (vR x :: st) μ G = ev 165 63 [a0, a1, a2, a3, a4] (vR x :: vR x :: st) μ G := ev_stp pg_165_62 rfl
theorem pg_165_63 : mm_prog 165 63 = some (0, .getfield 161, 66, [11, 17, 0]) := by decide +kernel
theorem xe_165_63 (a0 a1 a2 a3 a4 : Option MV) (x : Int) (st : List MV) (μ : MM) (G : MG) : ev 165 63 [a0, a1, a2, a3, a4] (vR x :: st) μ G = if gk G x = 11 then ev 165 66 [a0, a1, a2, a3, a4] (vI (μ x 17) :: st) μ G else none := ev_if pg_165_63 rfl
theorem pg_165_66 : mm_prog 165 66 = some (0, .iconst 1, 67, []) := by decide +kernel
theorem xe_165_66 (a0 a1 a2 a3 a4 : Option MV) (st : List MV) (μ : MM) (G : MG) : ev 165 66 [a0, a1, a2, a3, a4] st μ G = ev 165 67 [a0, a1, a2, a3, a4] (vI (1) :: st) μ G := ev_stp pg_165_66 rfl
theorem pg_165_67 : mm_prog 165 67 = some (0, .iadd, 68, []) := by decide +kernel
theorem xe_165_67 (a0 a1 a2 a3 a4 : Option MV) (x y : Int) (st : List MV) (μ : MM) (G : MG) : ev 165 67 [a0, a1, a2, a3, a4] (vI y :: vI x :: st) μ G = ev 165 68 [a0, a1, a2, a3, a4] (vI (w32 (x + y)) :: st) μ G := ev_stp pg_165_67 rfl
theorem pg_165_68 : mm_prog 165 68 = some (0, .putfield 161, 71, [11, 17, 0]) := by decide +kernel
theorem xe_165_68 (a0 a1 a2 a3 a4 : Option MV) (x y : Int) (st : List MV) (μ : MM) (G : MG) : ev 165 68 [a0, a1, a2, a3, a4] (vI x :: vR y :: st) μ G = if gk G y = 11 then ev 165 71 [a0, a1, a2, a3, a4] st (mset μ y 17 x) G else none := ev_put0 pg_165_68
theorem pg_165_71 : mm_prog 165 71 = some (0, .iinc 4 1, 74, []) := by decide +kernel
theorem xe_165_71 (a0 a1 a2 a3 : Option MV) (x : Int) (st : List MV) (μ : MM) (G : MG) (h : mm_nL a3 = true) : ev 165 71 [a0, a1, a2, a3, some (vI x)] st μ G = ev 165 74 [a0, a1, a2, a3, some (vI (w32 (x + (1))))] st μ G := ev_st pg_165_71 rfl (mm_nl_of h) (Nat.le_of_ble_eq_true rfl)
theorem pg_165_74 : mm_prog 165 74 = some (0, .goto (-45), 77, []) := by decide +kernel
theorem xe_165_74 (a0 a1 a2 a3 a4 : Option MV) (st : List MV) (μ : MM) (G : MG) : ev 165 74 [a0, a1, a2, a3, a4] st μ G = ev 165 29 [a0, a1, a2, a3, a4] st μ G := ev_stp pg_165_74 rfl
theorem pg_165_77 : mm_prog 165 77 = some (0, .iload_n 3, 78, []) := by decide +kernel
theorem xe_165_77 (a0 a1 a2 a4 : Option MV) (x : Int) (st : List MV) (μ : MM) (G : MG) : ev 165 77 [a0, a1, a2, some (vI x), a4] st μ G = ev 165 78 [a0, a1, a2, some (vI x), a4] (vI x :: st) μ G := ev_stp pg_165_77 rfl
theorem pg_165_78 : mm_prog 165 78 = some (0, .iconst 3, 79, []) := by decide +kernel
theorem xe_165_78 (a0 a1 a2 a3 a4 : Option MV) (st : List MV) (μ : MM) (G : MG) : ev 165 78 [a0, a1, a2, a3, a4] st μ G = ev 165 79 [a0, a1, a2, a3, a4] (vI (3) :: st) μ G := ev_stp pg_165_78 rfl
theorem pg_165_79 : mm_prog 165 79 = some (0, .if_icmp .ne 58, 82, []) := by decide +kernel
theorem xe_165_79 (a0 a1 a2 a3 a4 : Option MV) (x y : Int) (st : List MV) (μ : MM) (G : MG) : ev 165 79 [a0, a1, a2, a3, a4] (vI y :: vI x :: st) μ G = if ¬ x = y then ev 165 137 [a0, a1, a2, a3, a4] st μ G else ev 165 82 [a0, a1, a2, a3, a4] st μ G := ev_br (mm_cnd_ne x y) pg_165_79 rfl
theorem pg_165_82 : mm_prog 165 82 = some (0, .iload_n 2, 83, []) := by decide +kernel
theorem xe_165_82 (a0 a1 a3 a4 : Option MV) (x : Int) (st : List MV) (μ : MM) (G : MG) : ev 165 82 [a0, a1, some (vI x), a3, a4] st μ G = ev 165 83 [a0, a1, some (vI x), a3, a4] (vI x :: st) μ G := ev_stp pg_165_82 rfl
theorem pg_165_83 : mm_prog 165 83 = some (0, .bipush 7, 85, []) := by decide +kernel
theorem xe_165_83 (a0 a1 a2 a3 a4 : Option MV) (st : List MV) (μ : MM) (G : MG) : ev 165 83 [a0, a1, a2, a3, a4] st μ G = ev 165 85 [a0, a1, a2, a3, a4] (vI (7) :: st) μ G := ev_stp pg_165_83 rfl
theorem pg_165_85 : mm_prog 165 85 = some (0, .if_icmp .lt 52, 88, []) := by decide +kernel
theorem xe_165_85 (a0 a1 a2 a3 a4 : Option MV) (x y : Int) (st : List MV) (μ : MM) (G : MG) : ev 165 85 [a0, a1, a2, a3, a4] (vI y :: vI x :: st) μ G = if x < y then ev 165 137 [a0, a1, a2, a3, a4] st μ G else ev 165 88 [a0, a1, a2, a3, a4] st μ G := ev_br (mm_cnd_lt x y) pg_165_85 rfl
theorem pg_165_88 : mm_prog 165 88 = some (0, .aload_n 0, 89, []) := by decide +kernel
theorem xe_165_88 (a1 a2 a3 a4 : Option MV) (x : Int) (st : List MV) (μ : MM) (G : MG) : ev 165 88 [some (vR x), a1, a2, a3, a4] st μ G = ev 165 89 [some (vR x), a1, a2, a3, a4] (vR x :: st) μ G := ev_stp pg_165_88 rfl
theorem pg_165_89 : mm_prog 165 89 = some (0, .iload_n 1, 90, []) := by decide +kernel
theorem xe_165_89 (a0 a2 a3 a4 : Option MV) (x : Int) (st : List MV) (μ : MM) (G : MG) : ev 165 89 [a0, some (vI x), a2, a3, a4] st μ G = ev 165 90 [a0, some (vI x), a2, a3, a4] (vI x :: st) μ G := ev_stp pg_165_89 rfl
theorem pg_165_90 : mm_prog 165 90 = some (0, .iconst 1, 91, []) := by decide +kernel
theorem xe_165_90 (a0 a1 a2 a3 a4 : Option MV) (st : List MV) (μ : MM) (G : MG) : ev 165 90 [a0, a1, a2, a3, a4] st μ G = ev 165 91 [a0, a1, a2, a3, a4] (vI (1) :: st) μ G := ev_stp pg_165_90 rfl
theorem pg_165_91 : mm_prog 165 91 = some (0, .iadd, 92, []) := by decide +kernel
theorem xe_165_91 (a0 a1 a2 a3 a4 : Option MV) (x y : Int) (st : List MV) (μ : MM) (G : MG) : ev 165 91 [a0, a1, a2, a3, a4] (vI y :: vI x :: st) μ G = ev 165 92 [a0, a1, a2, a3, a4] (vI (w32 (x + y)) :: st) μ G := ev_stp pg_165_91 rfl
theorem pg_165_92 : mm_prog 165 92 = some (1, .invokevirtual 140, 95, [1, 160, 1, 11]) := by decide +kernel
theorem xe_165_92 (a0 a1 a2 a3 a4 : Option MV) (x0 z : Int) (μ : MM) (G : MG) : ev 165 92 [a0, a1, a2, a3, a4] (vI x0 :: vR z :: []) μ G = if gk G z = 11 ∧ 0 < z then (ev 160 0 [some (vR z), some (vI x0)] [] μ G).bind (fun q => ev 165 95 [a0, a1, a2, a3, a4] (q.1.toList ++ []) q.2.1 q.2.2) else none := ev_calV (as := [vR z, vI x0]) (r := []) mx_160 pg_165_92 rfl rfl (Nat.le_of_ble_eq_true rfl) (Nat.le_of_ble_eq_true rfl)
theorem pg_165_95 : mm_prog 165 95 = some (0, .iconst 3, 96, []) := by decide +kernel
theorem xe_165_95 (a0 a1 a2 a3 a4 : Option MV) (st : List MV) (μ : MM) (G : MG) : ev 165 95 [a0, a1, a2, a3, a4] st μ G = ev 165 96 [a0, a1, a2, a3, a4] (vI (3) :: st) μ G := ev_stp pg_165_95 rfl
theorem pg_165_96 : mm_prog 165 96 = some (0, .if_icmp .ne 41, 99, []) := by decide +kernel
theorem xe_165_96 (a0 a1 a2 a3 a4 : Option MV) (x y : Int) (st : List MV) (μ : MM) (G : MG) : ev 165 96 [a0, a1, a2, a3, a4] (vI y :: vI x :: st) μ G = if ¬ x = y then ev 165 137 [a0, a1, a2, a3, a4] st μ G else ev 165 99 [a0, a1, a2, a3, a4] st μ G := ev_br (mm_cnd_ne x y) pg_165_96 rfl
theorem pg_165_99 : mm_prog 165 99 = some (0, .aload_n 0, 100, []) := by decide +kernel
theorem xe_165_99 (a1 a2 a3 a4 : Option MV) (x : Int) (st : List MV) (μ : MM) (G : MG) : ev 165 99 [some (vR x), a1, a2, a3, a4] st μ G = ev 165 100 [some (vR x), a1, a2, a3, a4] (vR x :: st) μ G := ev_stp pg_165_99 rfl
theorem pg_165_100 : mm_prog 165 100 = some (0, .iload_n 1, 101, []) := by decide +kernel
theorem xe_165_100 (a0 a2 a3 a4 : Option MV) (x : Int) (st : List MV) (μ : MM) (G : MG) : ev 165 100 [a0, some (vI x), a2, a3, a4] st μ G = ev 165 101 [a0, some (vI x), a2, a3, a4] (vI x :: st) μ G := ev_stp pg_165_100 rfl
theorem pg_165_101 : mm_prog 165 101 = some (0, .iconst 2, 102, []) := by decide +kernel
theorem xe_165_101 (a0 a1 a2 a3 a4 : Option MV) (st : List MV) (μ : MM) (G : MG) : ev 165 101 [a0, a1, a2, a3, a4] st μ G = ev 165 102 [a0, a1, a2, a3, a4] (vI (2) :: st) μ G := ev_stp pg_165_101 rfl
theorem pg_165_102 : mm_prog 165 102 = some (0, .iadd, 103, []) := by decide +kernel
theorem xe_165_102 (a0 a1 a2 a3 a4 : Option MV) (x y : Int) (st : List MV) (μ : MM) (G : MG) : ev 165 102 [a0, a1, a2, a3, a4] (vI y :: vI x :: st) μ G = ev 165 103 [a0, a1, a2, a3, a4] (vI (w32 (x + y)) :: st) μ G := ev_stp pg_165_102 rfl
theorem pg_165_103 : mm_prog 165 103 = some (1, .invokevirtual 140, 106, [1, 160, 1, 11]) := by decide +kernel
theorem xe_165_103 (a0 a1 a2 a3 a4 : Option MV) (x0 z : Int) (μ : MM) (G : MG) : ev 165 103 [a0, a1, a2, a3, a4] (vI x0 :: vR z :: []) μ G = if gk G z = 11 ∧ 0 < z then (ev 160 0 [some (vR z), some (vI x0)] [] μ G).bind (fun q => ev 165 106 [a0, a1, a2, a3, a4] (q.1.toList ++ []) q.2.1 q.2.2) else none := ev_calV (as := [vR z, vI x0]) (r := []) mx_160 pg_165_103 rfl rfl (Nat.le_of_ble_eq_true rfl) (Nat.le_of_ble_eq_true rfl)
theorem pg_165_106 : mm_prog 165 106 = some (0, .bipush 12, 108, []) := by decide +kernel
theorem xe_165_106 (a0 a1 a2 a3 a4 : Option MV) (st : List MV) (μ : MM) (G : MG) : ev 165 106 [a0, a1, a2, a3, a4] st μ G = ev 165 108 [a0, a1, a2, a3, a4] (vI (12) :: st) μ G := ev_stp pg_165_106 rfl
theorem pg_165_108 : mm_prog 165 108 = some (0, .if_icmp .ne 29, 111, []) := by decide +kernel
theorem xe_165_108 (a0 a1 a2 a3 a4 : Option MV) (x y : Int) (st : List MV) (μ : MM) (G : MG) : ev 165 108 [a0, a1, a2, a3, a4] (vI y :: vI x :: st) μ G = if ¬ x = y then ev 165 137 [a0, a1, a2, a3, a4] st μ G else ev 165 111 [a0, a1, a2, a3, a4] st μ G := ev_br (mm_cnd_ne x y) pg_165_108 rfl
theorem pg_165_111 : mm_prog 165 111 = some (0, .aload_n 0, 112, []) := by decide +kernel
theorem xe_165_111 (a1 a2 a3 a4 : Option MV) (x : Int) (st : List MV) (μ : MM) (G : MG) : ev 165 111 [some (vR x), a1, a2, a3, a4] st μ G = ev 165 112 [some (vR x), a1, a2, a3, a4] (vR x :: st) μ G := ev_stp pg_165_111 rfl
theorem pg_165_112 : mm_prog 165 112 = some (0, .iload_n 1, 113, []) := by decide +kernel
theorem xe_165_112 (a0 a2 a3 a4 : Option MV) (x : Int) (st : List MV) (μ : MM) (G : MG) : ev 165 112 [a0, some (vI x), a2, a3, a4] st μ G = ev 165 113 [a0, some (vI x), a2, a3, a4] (vI x :: st) μ G := ev_stp pg_165_112 rfl
theorem pg_165_113 : mm_prog 165 113 = some (0, .iconst 3, 114, []) := by decide +kernel
theorem xe_165_113 (a0 a1 a2 a3 a4 : Option MV) (st : List MV) (μ : MM) (G : MG) : ev 165 113 [a0, a1, a2, a3, a4] st μ G = ev 165 114 [a0, a1, a2, a3, a4] (vI (3) :: st) μ G := ev_stp pg_165_113 rfl
theorem pg_165_114 : mm_prog 165 114 = some (0, .iadd, 115, []) := by decide +kernel
theorem xe_165_114 (a0 a1 a2 a3 a4 : Option MV) (x y : Int) (st : List MV) (μ : MM) (G : MG) : ev 165 114 [a0, a1, a2, a3, a4] (vI y :: vI x :: st) μ G = ev 165 115 [a0, a1, a2, a3, a4] (vI (w32 (x + y)) :: st) μ G := ev_stp pg_165_114 rfl
theorem pg_165_115 : mm_prog 165 115 = some (1, .invokevirtual 140, 118, [1, 160, 1, 11]) := by decide +kernel
theorem xe_165_115 (a0 a1 a2 a3 a4 : Option MV) (x0 z : Int) (μ : MM) (G : MG) : ev 165 115 [a0, a1, a2, a3, a4] (vI x0 :: vR z :: []) μ G = if gk G z = 11 ∧ 0 < z then (ev 160 0 [some (vR z), some (vI x0)] [] μ G).bind (fun q => ev 165 118 [a0, a1, a2, a3, a4] (q.1.toList ++ []) q.2.1 q.2.2) else none := ev_calV (as := [vR z, vI x0]) (r := []) mx_160 pg_165_115 rfl rfl (Nat.le_of_ble_eq_true rfl) (Nat.le_of_ble_eq_true rfl)
theorem pg_165_118 : mm_prog 165 118 = some (0, .ifCond .ne 19, 121, []) := by decide +kernel
theorem xe_165_118 (a0 a1 a2 a3 a4 : Option MV) (x : Int) (st : List MV) (μ : MM) (G : MG) : ev 165 118 [a0, a1, a2, a3, a4] (vI x :: st) μ G = if ¬ x = 0 then ev 165 137 [a0, a1, a2, a3, a4] st μ G else ev 165 121 [a0, a1, a2, a3, a4] st μ G := ev_br (mm_cnd_ne x 0) pg_165_118 rfl
theorem pg_165_121 : mm_prog 165 121 = some (0, .aload_n 0, 122, []) := by decide +kernel
theorem xe_165_121 (a1 a2 a3 a4 : Option MV) (x : Int) (st : List MV) (μ : MM) (G : MG) : ev 165 121 [some (vR x), a1, a2, a3, a4] st μ G = ev 165 122 [some (vR x), a1, a2, a3, a4] (vR x :: st) μ G := ev_stp pg_165_121 rfl
theorem pg_165_122 : mm_prog 165 122 = some (0, .sipush 5000, 125, []) := by decide +kernel
theorem xe_165_122 (a0 a1 a2 a3 a4 : Option MV) (st : List MV) (μ : MM) (G : MG) : ev 165 122 [a0, a1, a2, a3, a4] st μ G = ev 165 125 [a0, a1, a2, a3, a4] (vI (5000) :: st) μ G := ev_stp pg_165_122 rfl
theorem pg_165_125 : mm_prog 165 125 = some (0, .aload_n 0, 126, []) := by decide +kernel
theorem xe_165_125 (a1 a2 a3 a4 : Option MV) (x : Int) (st : List MV) (μ : MM) (G : MG) : ev 165 125 [some (vR x), a1, a2, a3, a4] st μ G = ev 165 126 [some (vR x), a1, a2, a3, a4] (vR x :: st) μ G := ev_stp pg_165_125 rfl
theorem pg_165_126 : mm_prog 165 126 = some (0, .iload_n 1, 127, []) := by decide +kernel
theorem xe_165_126 (a0 a2 a3 a4 : Option MV) (x : Int) (st : List MV) (μ : MM) (G : MG) : ev 165 126 [a0, some (vI x), a2, a3, a4] st μ G = ev 165 127 [a0, some (vI x), a2, a3, a4] (vI x :: st) μ G := ev_stp pg_165_126 rfl
theorem pg_165_127 : mm_prog 165 127 = some (0, .bipush 7, 129, []) := by decide +kernel
theorem xe_165_127 (a0 a1 a2 a3 a4 : Option MV) (st : List MV) (μ : MM) (G : MG) : ev 165 127 [a0, a1, a2, a3, a4] st μ G = ev 165 129 [a0, a1, a2, a3, a4] (vI (7) :: st) μ G := ev_stp pg_165_127 rfl
theorem pg_165_129 : mm_prog 165 129 = some (0, .iadd, 130, []) := by decide +kernel
theorem xe_165_129 (a0 a1 a2 a3 a4 : Option MV) (x y : Int) (st : List MV) (μ : MM) (G : MG) : ev 165 129 [a0, a1, a2, a3, a4] (vI y :: vI x :: st) μ G = ev 165 130 [a0, a1, a2, a3, a4] (vI (w32 (x + y)) :: st) μ G := ev_stp pg_165_129 rfl
theorem pg_165_130 : mm_prog 165 130 = some (1, .invokevirtual 140, 133, [1, 160, 1, 11]) := by decide +kernel
theorem xe_165_130 (a0 a1 a2 a3 a4 : Option MV) (x0 z r0 r1 : Int) (μ : MM) (G : MG) : ev 165 130 [a0, a1, a2, a3, a4] (vI x0 :: vR z :: [vI r0, vR r1]) μ G = if gk G z = 11 ∧ 0 < z then (ev 160 0 [some (vR z), some (vI x0)] [] μ G).bind (fun q => ev 165 133 [a0, a1, a2, a3, a4] (q.1.toList ++ [vI r0, vR r1]) q.2.1 q.2.2) else none := ev_calV (as := [vR z, vI x0]) (r := [vI r0, vR r1]) mx_160 pg_165_130 rfl rfl (Nat.le_of_ble_eq_true rfl) (Nat.le_of_ble_eq_true rfl)
theorem pg_165_133 : mm_prog 165 133 = some (0, .imul, 134, []) := by decide +kernel
theorem xe_165_133 (a0 a1 a2 a3 a4 : Option MV) (x y : Int) (st : List MV) (μ : MM) (G : MG) : ev 165 133 [a0, a1, a2, a3, a4] (vI y :: vI x :: st) μ G = ev 165 134 [a0, a1, a2, a3, a4] (vI (w32 (x * y)) :: st) μ G := ev_stp pg_165_133 rfl
theorem pg_165_134 : mm_prog 165 134 = some (0, .putfield 164, 137, [11, 15, 0]) := by decide +kernel
theorem xe_165_134 (a0 a1 a2 a3 a4 : Option MV) (x y : Int) (st : List MV) (μ : MM) (G : MG) : ev 165 134 [a0, a1, a2, a3, a4] (vI x :: vR y :: st) μ G = if gk G y = 11 then ev 165 137 [a0, a1, a2, a3, a4] st (mset μ y 15 x) G else none := ev_put0 pg_165_134
theorem pg_165_137 : mm_prog 165 137 = some (2, .return_, 138, []) := by decide +kernel
theorem xe_165_137 (a0 a1 a2 a3 a4 : Option MV) (μ : MM) (G : MG) : ev 165 137 [a0, a1, a2, a3, a4] [] μ G = some (none, μ, G) := ev_ret pg_165_137 rfl
-- X11_readsAll
theorem pg_166_0 : mm_prog 166 0 = some (0, .aload_n 0, 1, []) := by decide +kernel
theorem xe_166_0 (a1 a2 a3 a4 : Option MV) (x : Int) (st : List MV) (μ : MM) (G : MG) : ev 166 0 [some (vR x), a1, a2, a3, a4] st μ G = ev 166 1 [some (vR x), a1, a2, a3, a4] (vR x :: st) μ G := ev_stp pg_166_0 rfl
theorem pg_166_1 : mm_prog 166 1 = some (0, .iconst 0, 2, []) := by decide +kernel
theorem xe_166_1 (a0 a1 a2 a3 a4 : Option MV) (st : List MV) (μ : MM) (G : MG) : ev 166 1 [a0, a1, a2, a3, a4] st μ G = ev 166 2 [a0, a1, a2, a3, a4] (vI (0) :: st) μ G := ev_stp pg_166_1 rfl
theorem pg_166_2 : mm_prog 166 2 = some (0, .putfield 137, 5, [11, 13, 0]) := by decide +kernel
theorem xe_166_2 (a0 a1 a2 a3 a4 : Option MV) (x y : Int) (st : List MV) (μ : MM) (G : MG) : ev 166 2 [a0, a1, a2, a3, a4] (vI x :: vR y :: st) μ G = if gk G y = 11 then ev 166 5 [a0, a1, a2, a3, a4] st (mset μ y 13 x) G else none := ev_put0 pg_166_2
theorem pg_166_5 : mm_prog 166 5 = some (0, .aload_n 0, 6, []) := by decide +kernel
theorem xe_166_5 (a1 a2 a3 a4 : Option MV) (x : Int) (st : List MV) (μ : MM) (G : MG) : ev 166 5 [some (vR x), a1, a2, a3, a4] st μ G = ev 166 6 [some (vR x), a1, a2, a3, a4] (vR x :: st) μ G := ev_stp pg_166_5 rfl
theorem pg_166_6 : mm_prog 166 6 = some (0, .iconst 0, 7, []) := by decide +kernel
theorem xe_166_6 (a0 a1 a2 a3 a4 : Option MV) (st : List MV) (μ : MM) (G : MG) : ev 166 6 [a0, a1, a2, a3, a4] st μ G = ev 166 7 [a0, a1, a2, a3, a4] (vI (0) :: st) μ G := ev_stp pg_166_6 rfl
theorem pg_166_7 : mm_prog 166 7 = some (0, .putfield 147, 10, [11, 14, 0]) := by decide +kernel
theorem xe_166_7 (a0 a1 a2 a3 a4 : Option MV) (x y : Int) (st : List MV) (μ : MM) (G : MG) : ev 166 7 [a0, a1, a2, a3, a4] (vI x :: vR y :: st) μ G = if gk G y = 11 then ev 166 10 [a0, a1, a2, a3, a4] st (mset μ y 14 x) G else none := ev_put0 pg_166_7
theorem pg_166_10 : mm_prog 166 10 = some (0, .aload_n 0, 11, []) := by decide +kernel
theorem xe_166_10 (a1 a2 a3 a4 : Option MV) (x : Int) (st : List MV) (μ : MM) (G : MG) : ev 166 10 [some (vR x), a1, a2, a3, a4] st μ G = ev 166 11 [some (vR x), a1, a2, a3, a4] (vR x :: st) μ G := ev_stp pg_166_10 rfl
theorem pg_166_11 : mm_prog 166 11 = some (0, .iconst 0, 12, []) := by decide +kernel
theorem xe_166_11 (a0 a1 a2 a3 a4 : Option MV) (st : List MV) (μ : MM) (G : MG) : ev 166 11 [a0, a1, a2, a3, a4] st μ G = ev 166 12 [a0, a1, a2, a3, a4] (vI (0) :: st) μ G := ev_stp pg_166_11 rfl
theorem pg_166_12 : mm_prog 166 12 = some (0, .putfield 164, 15, [11, 15, 0]) := by decide +kernel
theorem xe_166_12 (a0 a1 a2 a3 a4 : Option MV) (x y : Int) (st : List MV) (μ : MM) (G : MG) : ev 166 12 [a0, a1, a2, a3, a4] (vI x :: vR y :: st) μ G = if gk G y = 11 then ev 166 15 [a0, a1, a2, a3, a4] st (mset μ y 15 x) G else none := ev_put0 pg_166_12
theorem pg_166_15 : mm_prog 166 15 = some (0, .aload_n 0, 16, []) := by decide +kernel
theorem xe_166_15 (a1 a2 a3 a4 : Option MV) (x : Int) (st : List MV) (μ : MM) (G : MG) : ev 166 15 [some (vR x), a1, a2, a3, a4] st μ G = ev 166 16 [some (vR x), a1, a2, a3, a4] (vR x :: st) μ G := ev_stp pg_166_15 rfl
theorem pg_166_16 : mm_prog 166 16 = some (0, .iconst 0, 17, []) := by decide +kernel
theorem xe_166_16 (a0 a1 a2 a3 a4 : Option MV) (st : List MV) (μ : MM) (G : MG) : ev 166 16 [a0, a1, a2, a3, a4] st μ G = ev 166 17 [a0, a1, a2, a3, a4] (vI (0) :: st) μ G := ev_stp pg_166_16 rfl
theorem pg_166_17 : mm_prog 166 17 = some (0, .putfield 158, 20, [11, 16, 0]) := by decide +kernel
theorem xe_166_17 (a0 a1 a2 a3 a4 : Option MV) (x y : Int) (st : List MV) (μ : MM) (G : MG) : ev 166 17 [a0, a1, a2, a3, a4] (vI x :: vR y :: st) μ G = if gk G y = 11 then ev 166 20 [a0, a1, a2, a3, a4] st (mset μ y 16 x) G else none := ev_put0 pg_166_17
theorem pg_166_20 : mm_prog 166 20 = some (0, .aload_n 0, 21, []) := by decide +kernel
theorem xe_166_20 (a1 a2 a3 a4 : Option MV) (x : Int) (st : List MV) (μ : MM) (G : MG) : ev 166 20 [some (vR x), a1, a2, a3, a4] st μ G = ev 166 21 [some (vR x), a1, a2, a3, a4] (vR x :: st) μ G := ev_stp pg_166_20 rfl
theorem pg_166_21 : mm_prog 166 21 = some (0, .iconst 0, 22, []) := by decide +kernel
theorem xe_166_21 (a0 a1 a2 a3 a4 : Option MV) (st : List MV) (μ : MM) (G : MG) : ev 166 21 [a0, a1, a2, a3, a4] st μ G = ev 166 22 [a0, a1, a2, a3, a4] (vI (0) :: st) μ G := ev_stp pg_166_21 rfl
theorem pg_166_22 : mm_prog 166 22 = some (0, .putfield 161, 25, [11, 17, 0]) := by decide +kernel
theorem xe_166_22 (a0 a1 a2 a3 a4 : Option MV) (x y : Int) (st : List MV) (μ : MM) (G : MG) : ev 166 22 [a0, a1, a2, a3, a4] (vI x :: vR y :: st) μ G = if gk G y = 11 then ev 166 25 [a0, a1, a2, a3, a4] st (mset μ y 17 x) G else none := ev_put0 pg_166_22
theorem pg_166_25 : mm_prog 166 25 = some (0, .aload_n 0, 26, []) := by decide +kernel
theorem xe_166_25 (a1 a2 a3 a4 : Option MV) (x : Int) (st : List MV) (μ : MM) (G : MG) : ev 166 25 [some (vR x), a1, a2, a3, a4] st μ G = ev 166 26 [some (vR x), a1, a2, a3, a4] (vR x :: st) μ G := ev_stp pg_166_25 rfl
theorem pg_166_26 : mm_prog 166 26 = some (0, .iconst 0, 27, []) := by decide +kernel
theorem xe_166_26 (a0 a1 a2 a3 a4 : Option MV) (st : List MV) (μ : MM) (G : MG) : ev 166 26 [a0, a1, a2, a3, a4] st μ G = ev 166 27 [a0, a1, a2, a3, a4] (vI (0) :: st) μ G := ev_stp pg_166_26 rfl
theorem pg_166_27 : mm_prog 166 27 = some (0, .putfield 154, 30, [11, 18, 1]) := by decide +kernel
theorem xe_166_27 (a0 a1 a2 a3 a4 : Option MV) (x y : Int) (st : List MV) (μ : MM) (G : MG) : ev 166 27 [a0, a1, a2, a3, a4] (vI x :: vR y :: st) μ G = if gk G y = 11 ∧ (x = 0 ∨ x = 1) then ev 166 30 [a0, a1, a2, a3, a4] st (mset μ y 18 x) G else none := ev_put1 pg_166_27
theorem pg_166_30 : mm_prog 166 30 = some (0, .bipush 54, 32, []) := by decide +kernel
theorem xe_166_30 (a0 a1 a2 a3 a4 : Option MV) (st : List MV) (μ : MM) (G : MG) : ev 166 30 [a0, a1, a2, a3, a4] st μ G = ev 166 32 [a0, a1, a2, a3, a4] (vI (54) :: st) μ G := ev_stp pg_166_30 rfl
theorem pg_166_32 : mm_prog 166 32 = some (0, .istore_n 1, 33, []) := by decide +kernel
theorem xe_166_32 (a0 a1 a2 a3 a4 : Option MV) (x : Int) (st : List MV) (μ : MM) (G : MG) (h : mm_nL a0 = true) : ev 166 32 [a0, a1, a2, a3, a4] (vI x :: st) μ G = ev 166 33 [a0, some (vI x), a2, a3, a4] st μ G := ev_st pg_166_32 rfl (mm_nl_of h) (Nat.le_of_ble_eq_true rfl)
theorem pg_166_33 : mm_prog 166 33 = some (0, .iload_n 1, 34, []) := by decide +kernel
theorem xe_166_33 (a0 a2 a3 a4 : Option MV) (x : Int) (st : List MV) (μ : MM) (G : MG) : ev 166 33 [a0, some (vI x), a2, a3, a4] st μ G = ev 166 34 [a0, some (vI x), a2, a3, a4] (vI x :: st) μ G := ev_stp pg_166_33 rfl
theorem pg_166_34 : mm_prog 166 34 = some (0, .bipush 126, 36, []) := by decide +kernel
theorem xe_166_34 (a0 a1 a2 a3 a4 : Option MV) (st : List MV) (μ : MM) (G : MG) : ev 166 34 [a0, a1, a2, a3, a4] st μ G = ev 166 36 [a0, a1, a2, a3, a4] (vI (126) :: st) μ G := ev_stp pg_166_34 rfl
theorem pg_166_36 : mm_prog 166 36 = some (0, .if_icmp .ge 30, 39, []) := by decide +kernel
theorem xe_166_36 (a0 a1 a2 a3 a4 : Option MV) (x y : Int) (st : List MV) (μ : MM) (G : MG) : ev 166 36 [a0, a1, a2, a3, a4] (vI y :: vI x :: st) μ G = if y ≤ x then ev 166 66 [a0, a1, a2, a3, a4] st μ G else ev 166 39 [a0, a1, a2, a3, a4] st μ G := ev_br (mm_cnd_ge x y) pg_166_36 rfl
theorem pg_166_39 : mm_prog 166 39 = some (0, .aload_n 0, 40, []) := by decide +kernel
theorem xe_166_39 (a1 a2 a3 a4 : Option MV) (x : Int) (st : List MV) (μ : MM) (G : MG) : ev 166 39 [some (vR x), a1, a2, a3, a4] st μ G = ev 166 40 [some (vR x), a1, a2, a3, a4] (vR x :: st) μ G := ev_stp pg_166_39 rfl
theorem pg_166_40 : mm_prog 166 40 = some (0, .iload_n 1, 41, []) := by decide +kernel
theorem xe_166_40 (a0 a2 a3 a4 : Option MV) (x : Int) (st : List MV) (μ : MM) (G : MG) : ev 166 40 [a0, some (vI x), a2, a3, a4] st μ G = ev 166 41 [a0, some (vI x), a2, a3, a4] (vI x :: st) μ G := ev_stp pg_166_40 rfl
theorem pg_166_41 : mm_prog 166 41 = some (1, .invokevirtual 167, 44, [1, 163, 1, 11]) := by decide +kernel
theorem xe_166_41 (a0 a1 a2 a3 a4 : Option MV) (x0 z : Int) (μ : MM) (G : MG) : ev 166 41 [a0, a1, a2, a3, a4] (vI x0 :: vR z :: []) μ G = if gk G z = 11 ∧ 0 < z then (ev 163 0 [some (vR z), some (vI x0)] [] μ G).bind (fun q => ev 166 44 [a0, a1, a2, a3, a4] (q.1.toList ++ []) q.2.1 q.2.2) else none := ev_calV (as := [vR z, vI x0]) (r := []) mx_163 pg_166_41 rfl rfl (Nat.le_of_ble_eq_true rfl) (Nat.le_of_ble_eq_true rfl)
theorem pg_166_44 : mm_prog 166 44 = some (0, .ifCond .eq 11, 47, []) := by decide +kernel
theorem xe_166_44 (a0 a1 a2 a3 a4 : Option MV) (x : Int) (st : List MV) (μ : MM) (G : MG) : ev 166 44 [a0, a1, a2, a3, a4] (vI x :: st) μ G = if x = 0 then ev 166 55 [a0, a1, a2, a3, a4] st μ G else ev 166 47 [a0, a1, a2, a3, a4] st μ G := ev_br (mm_cnd_eq x 0) pg_166_44 rfl
theorem pg_166_47 : mm_prog 166 47 = some (0, .aload_n 0, 48, []) := by decide +kernel
theorem xe_166_47 (a1 a2 a3 a4 : Option MV) (x : Int) (st : List MV) (μ : MM) (G : MG) : ev 166 47 [some (vR x), a1, a2, a3, a4] st μ G = ev 166 48 [some (vR x), a1, a2, a3, a4] (vR x :: st) μ G := ev_stp pg_166_47 rfl
theorem pg_166_48 : mm_prog 166 48 = some (0, .iload_n 1, 49, []) := by decide +kernel
theorem xe_166_48 (a0 a2 a3 a4 : Option MV) (x : Int) (st : List MV) (μ : MM) (G : MG) : ev 166 48 [a0, some (vI x), a2, a3, a4] st μ G = ev 166 49 [a0, some (vI x), a2, a3, a4] (vI x :: st) μ G := ev_stp pg_166_48 rfl
theorem pg_166_49 : mm_prog 166 49 = some (1, .invokevirtual 170, 52, [1, 161, 1, 11]) := by decide +kernel
theorem xe_166_49 (a0 a1 a2 a3 a4 : Option MV) (x0 z : Int) (μ : MM) (G : MG) : ev 166 49 [a0, a1, a2, a3, a4] (vI x0 :: vR z :: []) μ G = if gk G z = 11 ∧ 0 < z then (ev 161 0 [some (vR z), some (vI x0), none, none] [] μ G).bind (fun q => ev 166 52 [a0, a1, a2, a3, a4] (q.1.toList ++ []) q.2.1 q.2.2) else none := ev_calV (as := [vR z, vI x0]) (r := []) mx_161 pg_166_49 rfl rfl (Nat.le_of_ble_eq_true rfl) (Nat.le_of_ble_eq_true rfl)
theorem pg_166_52 : mm_prog 166 52 = some (0, .goto 8, 55, []) := by decide +kernel
theorem xe_166_52 (a0 a1 a2 a3 a4 : Option MV) (st : List MV) (μ : MM) (G : MG) : ev 166 52 [a0, a1, a2, a3, a4] st μ G = ev 166 60 [a0, a1, a2, a3, a4] st μ G := ev_stp pg_166_52 rfl
theorem pg_166_55 : mm_prog 166 55 = some (0, .aload_n 0, 56, []) := by decide +kernel
theorem xe_166_55 (a1 a2 a3 a4 : Option MV) (x : Int) (st : List MV) (μ : MM) (G : MG) : ev 166 55 [some (vR x), a1, a2, a3, a4] st μ G = ev 166 56 [some (vR x), a1, a2, a3, a4] (vR x :: st) μ G := ev_stp pg_166_55 rfl
theorem pg_166_56 : mm_prog 166 56 = some (0, .iload_n 1, 57, []) := by decide +kernel
theorem xe_166_56 (a0 a2 a3 a4 : Option MV) (x : Int) (st : List MV) (μ : MM) (G : MG) : ev 166 56 [a0, some (vI x), a2, a3, a4] st μ G = ev 166 57 [a0, some (vI x), a2, a3, a4] (vI x :: st) μ G := ev_stp pg_166_56 rfl
theorem pg_166_57 : mm_prog 166 57 = some (1, .invokevirtual 173, 60, [1, 164, 1, 11]) := by decide +kernel
theorem xe_166_57 (a0 a1 a2 a3 a4 : Option MV) (x0 z : Int) (μ : MM) (G : MG) : ev 166 57 [a0, a1, a2, a3, a4] (vI x0 :: vR z :: []) μ G = if gk G z = 11 ∧ 0 < z then (ev 164 0 [some (vR z), some (vI x0), none] [] μ G).bind (fun q => ev 166 60 [a0, a1, a2, a3, a4] (q.1.toList ++ []) q.2.1 q.2.2) else none := ev_calV (as := [vR z, vI x0]) (r := []) mx_164 pg_166_57 rfl rfl (Nat.le_of_ble_eq_true rfl) (Nat.le_of_ble_eq_true rfl)
theorem pg_166_60 : mm_prog 166 60 = some (0, .iinc 1 18, 63, []) := by decide +kernel
theorem xe_166_60 (a0 a2 a3 a4 : Option MV) (x : Int) (st : List MV) (μ : MM) (G : MG) (h : mm_nL a0 = true) : ev 166 60 [a0, some (vI x), a2, a3, a4] st μ G = ev 166 63 [a0, some (vI (w32 (x + (18)))), a2, a3, a4] st μ G := ev_st pg_166_60 rfl (mm_nl_of h) (Nat.le_of_ble_eq_true rfl)
theorem pg_166_63 : mm_prog 166 63 = some (0, .goto (-30), 66, []) := by decide +kernel
theorem xe_166_63 (a0 a1 a2 a3 a4 : Option MV) (st : List MV) (μ : MM) (G : MG) : ev 166 63 [a0, a1, a2, a3, a4] st μ G = ev 166 33 [a0, a1, a2, a3, a4] st μ G := ev_stp pg_166_63 rfl
theorem pg_166_66 : mm_prog 166 66 = some (0, .aload_n 0, 67, []) := by decide +kernel
theorem xe_166_66 (a1 a2 a3 a4 : Option MV) (x : Int) (st : List MV) (μ : MM) (G : MG) : ev 166 66 [some (vR x), a1, a2, a3, a4] st μ G = ev 166 67 [some (vR x), a1, a2, a3, a4] (vR x :: st) μ G := ev_stp pg_166_66 rfl
theorem pg_166_67 : mm_prog 166 67 = some (0, .aload_n 0, 68, []) := by decide +kernel
theorem xe_166_67 (a1 a2 a3 a4 : Option MV) (x : Int) (st : List MV) (μ : MM) (G : MG) : ev 166 67 [some (vR x), a1, a2, a3, a4] st μ G = ev 166 68 [some (vR x), a1, a2, a3, a4] (vR x :: st) μ G := ev_stp pg_166_67 rfl
theorem pg_166_68 : mm_prog 166 68 = some (0, .getfield 137, 71, [11, 13, 0]) := by decide +kernel
theorem xe_166_68 (a0 a1 a2 a3 a4 : Option MV) (x : Int) (st : List MV) (μ : MM) (G : MG) : ev 166 68 [a0, a1, a2, a3, a4] (vR x :: st) μ G = if gk G x = 11 then ev 166 71 [a0, a1, a2, a3, a4] (vI (μ x 13) :: st) μ G else none := ev_if pg_166_68 rfl
theorem pg_166_71 : mm_prog 166 71 = some (0, .putfield 176, 74, [11, 19, 0]) := by decide +kernel
theorem xe_166_71 (a0 a1 a2 a3 a4 : Option MV) (x y : Int) (st : List MV) (μ : MM) (G : MG) : ev 166 71 [a0, a1, a2, a3, a4] (vI x :: vR y :: st) μ G = if gk G y = 11 then ev 166 74 [a0, a1, a2, a3, a4] st (mset μ y 19 x) G else none := ev_put0 pg_166_71
theorem pg_166_74 : mm_prog 166 74 = some (0, .iconst 1, 75, []) := by decide +kernel
theorem xe_166_74 (a0 a1 a2 a3 a4 : Option MV) (st : List MV) (μ : MM) (G : MG) : ev 166 74 [a0, a1, a2, a3, a4] st μ G = ev 166 75 [a0, a1, a2, a3, a4] (vI (1) :: st) μ G := ev_stp pg_166_74 rfl
theorem pg_166_75 : mm_prog 166 75 = some (0, .istore_n 1, 76, []) := by decide +kernel
theorem xe_166_75 (a0 a1 a2 a3 a4 : Option MV) (x : Int) (st : List MV) (μ : MM) (G : MG) (h : mm_nL a0 = true) : ev 166 75 [a0, a1, a2, a3, a4] (vI x :: st) μ G = ev 166 76 [a0, some (vI x), a2, a3, a4] st μ G := ev_st pg_166_75 rfl (mm_nl_of h) (Nat.le_of_ble_eq_true rfl)
theorem pg_166_76 : mm_prog 166 76 = some (0, .iload_n 1, 77, []) := by decide +kernel
theorem xe_166_76 (a0 a2 a3 a4 : Option MV) (x : Int) (st : List MV) (μ : MM) (G : MG) : ev 166 76 [a0, some (vI x), a2, a3, a4] st μ G = ev 166 77 [a0, some (vI x), a2, a3, a4] (vI x :: st) μ G := ev_stp pg_166_76 rfl
theorem pg_166_77 : mm_prog 166 77 = some (0, .aload_n 0, 78, []) := by decide +kernel
theorem xe_166_77 (a1 a2 a3 a4 : Option MV) (x : Int) (st : List MV) (μ : MM) (G : MG) : ev 166 77 [some (vR x), a1, a2, a3, a4] st μ G = ev 166 78 [some (vR x), a1, a2, a3, a4] (vR x :: st) μ G := ev_stp pg_166_77 rfl
theorem pg_166_78 : mm_prog 166 78 = some (0, .getfield 128, 81, [11, 6, 0]) := by decide +kernel
theorem xe_166_78 (a0 a1 a2 a3 a4 : Option MV) (x : Int) (st : List MV) (μ : MM) (G : MG) : ev 166 78 [a0, a1, a2, a3, a4] (vR x :: st) μ G = if gk G x = 11 then ev 166 81 [a0, a1, a2, a3, a4] (vI (μ x 6) :: st) μ G else none := ev_if pg_166_78 rfl
theorem pg_166_81 : mm_prog 166 81 = some (0, .if_icmp .ge 117, 84, []) := by decide +kernel
theorem xe_166_81 (a0 a1 a2 a3 a4 : Option MV) (x y : Int) (st : List MV) (μ : MM) (G : MG) : ev 166 81 [a0, a1, a2, a3, a4] (vI y :: vI x :: st) μ G = if y ≤ x then ev 166 198 [a0, a1, a2, a3, a4] st μ G else ev 166 84 [a0, a1, a2, a3, a4] st μ G := ev_br (mm_cnd_ge x y) pg_166_81 rfl
theorem pg_166_84 : mm_prog 166 84 = some (0, .sipush 128, 87, []) := by decide +kernel
theorem xe_166_84 (a0 a1 a2 a3 a4 : Option MV) (st : List MV) (μ : MM) (G : MG) : ev 166 84 [a0, a1, a2, a3, a4] st μ G = ev 166 87 [a0, a1, a2, a3, a4] (vI (128) :: st) μ G := ev_stp pg_166_84 rfl
theorem pg_166_87 : mm_prog 166 87 = some (0, .iload_n 1, 88, []) := by decide +kernel
theorem xe_166_87 (a0 a2 a3 a4 : Option MV) (x : Int) (st : List MV) (μ : MM) (G : MG) : ev 166 87 [a0, some (vI x), a2, a3, a4] st μ G = ev 166 88 [a0, some (vI x), a2, a3, a4] (vI x :: st) μ G := ev_stp pg_166_87 rfl
theorem pg_166_88 : mm_prog 166 88 = some (0, .imul, 89, []) := by decide +kernel
theorem xe_166_88 (a0 a1 a2 a3 a4 : Option MV) (x y : Int) (st : List MV) (μ : MM) (G : MG) : ev 166 88 [a0, a1, a2, a3, a4] (vI y :: vI x :: st) μ G = ev 166 89 [a0, a1, a2, a3, a4] (vI (w32 (x * y)) :: st) μ G := ev_stp pg_166_88 rfl
theorem pg_166_89 : mm_prog 166 89 = some (0, .istore_n 2, 90, []) := by decide +kernel
theorem xe_166_89 (a0 a1 a2 a3 a4 : Option MV) (x : Int) (st : List MV) (μ : MM) (G : MG) (h : mm_nL a1 = true) : ev 166 89 [a0, a1, a2, a3, a4] (vI x :: st) μ G = ev 166 90 [a0, a1, some (vI x), a3, a4] st μ G := ev_st pg_166_89 rfl (mm_nl_of h) (Nat.le_of_ble_eq_true rfl)
theorem pg_166_90 : mm_prog 166 90 = some (0, .aload_n 0, 91, []) := by decide +kernel
theorem xe_166_90 (a1 a2 a3 a4 : Option MV) (x : Int) (st : List MV) (μ : MM) (G : MG) : ev 166 90 [some (vR x), a1, a2, a3, a4] st μ G = ev 166 91 [some (vR x), a1, a2, a3, a4] (vR x :: st) μ G := ev_stp pg_166_90 rfl
theorem pg_166_91 : mm_prog 166 91 = some (0, .iload_n 2, 92, []) := by decide +kernel
theorem xe_166_91 (a0 a1 a3 a4 : Option MV) (x : Int) (st : List MV) (μ : MM) (G : MG) : ev 166 91 [a0, a1, some (vI x), a3, a4] st μ G = ev 166 92 [a0, a1, some (vI x), a3, a4] (vI x :: st) μ G := ev_stp pg_166_91 rfl
theorem pg_166_92 : mm_prog 166 92 = some (0, .iconst 2, 93, []) := by decide +kernel
theorem xe_166_92 (a0 a1 a2 a3 a4 : Option MV) (st : List MV) (μ : MM) (G : MG) : ev 166 92 [a0, a1, a2, a3, a4] st μ G = ev 166 93 [a0, a1, a2, a3, a4] (vI (2) :: st) μ G := ev_stp pg_166_92 rfl
theorem pg_166_93 : mm_prog 166 93 = some (0, .iadd, 94, []) := by decide +kernel
theorem xe_166_93 (a0 a1 a2 a3 a4 : Option MV) (x y : Int) (st : List MV) (μ : MM) (G : MG) : ev 166 93 [a0, a1, a2, a3, a4] (vI y :: vI x :: st) μ G = ev 166 94 [a0, a1, a2, a3, a4] (vI (w32 (x + y)) :: st) μ G := ev_stp pg_166_93 rfl
theorem pg_166_94 : mm_prog 166 94 = some (1, .invokevirtual 140, 97, [1, 160, 1, 11]) := by decide +kernel
theorem xe_166_94 (a0 a1 a2 a3 a4 : Option MV) (x0 z : Int) (μ : MM) (G : MG) : ev 166 94 [a0, a1, a2, a3, a4] (vI x0 :: vR z :: []) μ G = if gk G z = 11 ∧ 0 < z then (ev 160 0 [some (vR z), some (vI x0)] [] μ G).bind (fun q => ev 166 97 [a0, a1, a2, a3, a4] (q.1.toList ++ []) q.2.1 q.2.2) else none := ev_calV (as := [vR z, vI x0]) (r := []) mx_160 pg_166_94 rfl rfl (Nat.le_of_ble_eq_true rfl) (Nat.le_of_ble_eq_true rfl)
theorem pg_166_97 : mm_prog 166 97 = some (0, .istore_n 3, 98, []) := by decide +kernel
theorem xe_166_97 (a0 a1 a2 a3 a4 : Option MV) (x : Int) (st : List MV) (μ : MM) (G : MG) (h : mm_nL a2 = true) : ev 166 97 [a0, a1, a2, a3, a4] (vI x :: st) μ G = ev 166 98 [a0, a1, a2, some (vI x), a4] st μ G := ev_st pg_166_97 rfl (mm_nl_of h) (Nat.le_of_ble_eq_true rfl)
theorem pg_166_98 : mm_prog 166 98 = some (0, .iconst 4, 99, []) := by decide +kernel
theorem xe_166_98 (a0 a1 a2 a3 a4 : Option MV) (st : List MV) (μ : MM) (G : MG) : ev 166 98 [a0, a1, a2, a3, a4] st μ G = ev 166 99 [a0, a1, a2, a3, a4] (vI (4) :: st) μ G := ev_stp pg_166_98 rfl
theorem pg_166_99 : mm_prog 166 99 = some (0, .istore 4, 101, []) := by decide +kernel
theorem xe_166_99 (a0 a1 a2 a3 a4 : Option MV) (x : Int) (st : List MV) (μ : MM) (G : MG) (h : mm_nL a3 = true) : ev 166 99 [a0, a1, a2, a3, a4] (vI x :: st) μ G = ev 166 101 [a0, a1, a2, a3, some (vI x)] st μ G := ev_st pg_166_99 rfl (mm_nl_of h) (Nat.le_of_ble_eq_true rfl)
theorem pg_166_101 : mm_prog 166 101 = some (0, .iload 4, 103, []) := by decide +kernel
theorem xe_166_101 (a0 a1 a2 a3 : Option MV) (x : Int) (st : List MV) (μ : MM) (G : MG) : ev 166 101 [a0, a1, a2, a3, some (vI x)] st μ G = ev 166 103 [a0, a1, a2, a3, some (vI x)] (vI x :: st) μ G := ev_stp pg_166_101 rfl
theorem pg_166_103 : mm_prog 166 103 = some (0, .iload_n 3, 104, []) := by decide +kernel
theorem xe_166_103 (a0 a1 a2 a4 : Option MV) (x : Int) (st : List MV) (μ : MM) (G : MG) : ev 166 103 [a0, a1, a2, some (vI x), a4] st μ G = ev 166 104 [a0, a1, a2, some (vI x), a4] (vI x :: st) μ G := ev_stp pg_166_103 rfl
theorem pg_166_104 : mm_prog 166 104 = some (0, .if_icmp .ge 43, 107, []) := by decide +kernel
theorem xe_166_104 (a0 a1 a2 a3 a4 : Option MV) (x y : Int) (st : List MV) (μ : MM) (G : MG) : ev 166 104 [a0, a1, a2, a3, a4] (vI y :: vI x :: st) μ G = if y ≤ x then ev 166 147 [a0, a1, a2, a3, a4] st μ G else ev 166 107 [a0, a1, a2, a3, a4] st μ G := ev_br (mm_cnd_ge x y) pg_166_104 rfl
theorem pg_166_107 : mm_prog 166 107 = some (0, .aload_n 0, 108, []) := by decide +kernel
theorem xe_166_107 (a1 a2 a3 a4 : Option MV) (x : Int) (st : List MV) (μ : MM) (G : MG) : ev 166 107 [some (vR x), a1, a2, a3, a4] st μ G = ev 166 108 [some (vR x), a1, a2, a3, a4] (vR x :: st) μ G := ev_stp pg_166_107 rfl
theorem pg_166_108 : mm_prog 166 108 = some (0, .iload_n 2, 109, []) := by decide +kernel
theorem xe_166_108 (a0 a1 a3 a4 : Option MV) (x : Int) (st : List MV) (μ : MM) (G : MG) : ev 166 108 [a0, a1, some (vI x), a3, a4] st μ G = ev 166 109 [a0, a1, some (vI x), a3, a4] (vI x :: st) μ G := ev_stp pg_166_108 rfl
theorem pg_166_109 : mm_prog 166 109 = some (0, .iload 4, 111, []) := by decide +kernel
theorem xe_166_109 (a0 a1 a2 a3 : Option MV) (x : Int) (st : List MV) (μ : MM) (G : MG) : ev 166 109 [a0, a1, a2, a3, some (vI x)] st μ G = ev 166 111 [a0, a1, a2, a3, some (vI x)] (vI x :: st) μ G := ev_stp pg_166_109 rfl
theorem pg_166_111 : mm_prog 166 111 = some (0, .iadd, 112, []) := by decide +kernel
theorem xe_166_111 (a0 a1 a2 a3 a4 : Option MV) (x y : Int) (st : List MV) (μ : MM) (G : MG) : ev 166 111 [a0, a1, a2, a3, a4] (vI y :: vI x :: st) μ G = ev 166 112 [a0, a1, a2, a3, a4] (vI (w32 (x + y)) :: st) μ G := ev_stp pg_166_111 rfl
theorem pg_166_112 : mm_prog 166 112 = some (0, .aload_n 0, 113, []) := by decide +kernel
theorem xe_166_112 (a1 a2 a3 a4 : Option MV) (x : Int) (st : List MV) (μ : MM) (G : MG) : ev 166 112 [some (vR x), a1, a2, a3, a4] st μ G = ev 166 113 [some (vR x), a1, a2, a3, a4] (vR x :: st) μ G := ev_stp pg_166_112 rfl
theorem pg_166_113 : mm_prog 166 113 = some (0, .iload_n 2, 114, []) := by decide +kernel
theorem xe_166_113 (a0 a1 a3 a4 : Option MV) (x : Int) (st : List MV) (μ : MM) (G : MG) : ev 166 113 [a0, a1, some (vI x), a3, a4] st μ G = ev 166 114 [a0, a1, some (vI x), a3, a4] (vI x :: st) μ G := ev_stp pg_166_113 rfl
theorem pg_166_114 : mm_prog 166 114 = some (0, .iload 4, 116, []) := by decide +kernel
theorem xe_166_114 (a0 a1 a2 a3 : Option MV) (x : Int) (st : List MV) (μ : MM) (G : MG) : ev 166 114 [a0, a1, a2, a3, some (vI x)] st μ G = ev 166 116 [a0, a1, a2, a3, some (vI x)] (vI x :: st) μ G := ev_stp pg_166_114 rfl
theorem pg_166_116 : mm_prog 166 116 = some (0, .iadd, 117, []) := by decide +kernel
theorem xe_166_116 (a0 a1 a2 a3 a4 : Option MV) (x y : Int) (st : List MV) (μ : MM) (G : MG) : ev 166 116 [a0, a1, a2, a3, a4] (vI y :: vI x :: st) μ G = ev 166 117 [a0, a1, a2, a3, a4] (vI (w32 (x + y)) :: st) μ G := ev_stp pg_166_116 rfl
theorem pg_166_117 : mm_prog 166 117 = some (1, .invokevirtual 140, 120, [1, 160, 1, 11]) := by decide +kernel
theorem xe_166_117 (a0 a1 a2 a3 a4 : Option MV) (x0 z r0 r1 : Int) (μ : MM) (G : MG) : ev 166 117 [a0, a1, a2, a3, a4] (vI x0 :: vR z :: [vI r0, vR r1]) μ G = if gk G z = 11 ∧ 0 < z then (ev 160 0 [some (vR z), some (vI x0)] [] μ G).bind (fun q => ev 166 120 [a0, a1, a2, a3, a4] (q.1.toList ++ [vI r0, vR r1]) q.2.1 q.2.2) else none := ev_calV (as := [vR z, vI x0]) (r := [vI r0, vR r1]) mx_160 pg_166_117 rfl rfl (Nat.le_of_ble_eq_true rfl) (Nat.le_of_ble_eq_true rfl)
theorem pg_166_120 : mm_prog 166 120 = some (0, .bipush 32, 122, []) := by decide +kernel
theorem xe_166_120 (a0 a1 a2 a3 a4 : Option MV) (st : List MV) (μ : MM) (G : MG) : ev 166 120 [a0, a1, a2, a3, a4] st μ G = ev 166 122 [a0, a1, a2, a3, a4] (vI (32) :: st) μ G := ev_stp pg_166_120 rfl
theorem pg_166_122 : mm_prog 166 122 = some (0, .irem, 123, []) := by decide +kernel
theorem xe_166_122 (a0 a1 a2 a3 a4 : Option MV) (x y : Int) (st : List MV) (μ : MM) (G : MG) : ev 166 122 [a0, a1, a2, a3, a4] (vI y :: vI x :: st) μ G = if y = 0 then none else ev 166 123 [a0, a1, a2, a3, a4] (vI (mm_rem x y) :: st) μ G := ev_no pg_166_122 rfl
theorem pg_166_123 : mm_prog 166 123 = some (1, .invokevirtual 179, 126, [1, 165, 2, 11]) := by decide +kernel
theorem xe_166_123 (a0 a1 a2 a3 a4 : Option MV) (x0 x1 z : Int) (μ : MM) (G : MG) : ev 166 123 [a0, a1, a2, a3, a4] (vI x1 :: vI x0 :: vR z :: []) μ G = if gk G z = 11 ∧ 0 < z then (ev 165 0 [some (vR z), some (vI x0), some (vI x1), none, none] [] μ G).bind (fun q => ev 166 126 [a0, a1, a2, a3, a4] (q.1.toList ++ []) q.2.1 q.2.2) else none := ev_calV (as := [vR z, vI x0, vI x1]) (r := []) mx_165 pg_166_123 rfl rfl (Nat.le_of_ble_eq_true rfl) (Nat.le_of_ble_eq_true rfl)
theorem pg_166_126 : mm_prog 166 126 = some (0, .iload 4, 128, []) := by decide +kernel
theorem xe_166_126 (a0 a1 a2 a3 : Option MV) (x : Int) (st : List MV) (μ : MM) (G : MG) : ev 166 126 [a0, a1, a2, a3, some (vI x)] st μ G = ev 166 128 [a0, a1, a2, a3, some (vI x)] (vI x :: st) μ G := ev_stp pg_166_126 rfl
theorem pg_166_128 : mm_prog 166 128 = some (0, .iconst 1, 129, []) := by decide +kernel
theorem xe_166_128 (a0 a1 a2 a3 a4 : Option MV) (st : List MV) (μ : MM) (G : MG) : ev 166 128 [a0, a1, a2, a3, a4] st μ G = ev 166 129 [a0, a1, a2, a3, a4] (vI (1) :: st) μ G := ev_stp pg_166_128 rfl
theorem pg_166_129 : mm_prog 166 129 = some (0, .aload_n 0, 130, []) := by decide +kernel
theorem xe_166_129 (a1 a2 a3 a4 : Option MV) (x : Int) (st : List MV) (μ : MM) (G : MG) : ev 166 129 [some (vR x), a1, a2, a3, a4] st μ G = ev 166 130 [some (vR x), a1, a2, a3, a4] (vR x :: st) μ G := ev_stp pg_166_129 rfl
theorem pg_166_130 : mm_prog 166 130 = some (0, .iload_n 2, 131, []) := by decide +kernel
theorem xe_166_130 (a0 a1 a3 a4 : Option MV) (x : Int) (st : List MV) (μ : MM) (G : MG) : ev 166 130 [a0, a1, some (vI x), a3, a4] st μ G = ev 166 131 [a0, a1, some (vI x), a3, a4] (vI x :: st) μ G := ev_stp pg_166_130 rfl
theorem pg_166_131 : mm_prog 166 131 = some (0, .iload 4, 133, []) := by decide +kernel
theorem xe_166_131 (a0 a1 a2 a3 : Option MV) (x : Int) (st : List MV) (μ : MM) (G : MG) : ev 166 131 [a0, a1, a2, a3, some (vI x)] st μ G = ev 166 133 [a0, a1, a2, a3, some (vI x)] (vI x :: st) μ G := ev_stp pg_166_131 rfl
theorem pg_166_133 : mm_prog 166 133 = some (0, .iadd, 134, []) := by decide +kernel
theorem xe_166_133 (a0 a1 a2 a3 a4 : Option MV) (x y : Int) (st : List MV) (μ : MM) (G : MG) : ev 166 133 [a0, a1, a2, a3, a4] (vI y :: vI x :: st) μ G = ev 166 134 [a0, a1, a2, a3, a4] (vI (w32 (x + y)) :: st) μ G := ev_stp pg_166_133 rfl
theorem pg_166_134 : mm_prog 166 134 = some (1, .invokevirtual 140, 137, [1, 160, 1, 11]) := by decide +kernel
theorem xe_166_134 (a0 a1 a2 a3 a4 : Option MV) (x0 z r0 r1 : Int) (μ : MM) (G : MG) : ev 166 134 [a0, a1, a2, a3, a4] (vI x0 :: vR z :: [vI r0, vI r1]) μ G = if gk G z = 11 ∧ 0 < z then (ev 160 0 [some (vR z), some (vI x0)] [] μ G).bind (fun q => ev 166 137 [a0, a1, a2, a3, a4] (q.1.toList ++ [vI r0, vI r1]) q.2.1 q.2.2) else none := ev_calV (as := [vR z, vI x0]) (r := [vI r0, vI r1]) mx_160 pg_166_134 rfl rfl (Nat.le_of_ble_eq_true rfl) (Nat.le_of_ble_eq_true rfl)
theorem pg_166_137 : mm_prog 166 137 = some (0, .bipush 32, 139, []) := by decide +kernel
theorem xe_166_137 (a0 a1 a2 a3 a4 : Option MV) (st : List MV) (μ : MM) (G : MG) : ev 166 137 [a0, a1, a2, a3, a4] st μ G = ev 166 139 [a0, a1, a2, a3, a4] (vI (32) :: st) μ G := ev_stp pg_166_137 rfl
theorem pg_166_139 : mm_prog 166 139 = some (0, .irem, 140, []) := by decide +kernel
theorem xe_166_139 (a0 a1 a2 a3 a4 : Option MV) (x y : Int) (st : List MV) (μ : MM) (G : MG) : ev 166 139 [a0, a1, a2, a3, a4] (vI y :: vI x :: st) μ G = if y = 0 then none else ev 166 140 [a0, a1, a2, a3, a4] (vI (mm_rem x y) :: st) μ G := ev_no pg_166_139 rfl
theorem pg_166_140 : mm_prog 166 140 = some (0, .iadd, 141, []) := by decide +kernel
theorem xe_166_140 (a0 a1 a2 a3 a4 : Option MV) (x y : Int) (st : List MV) (μ : MM) (G : MG) : ev 166 140 [a0, a1, a2, a3, a4] (vI y :: vI x :: st) μ G = ev 166 141 [a0, a1, a2, a3, a4] (vI (w32 (x + y)) :: st) μ G := ev_stp pg_166_140 rfl
theorem pg_166_141 : mm_prog 166 141 = some (0, .iadd, 142, []) := by decide +kernel
theorem xe_166_141 (a0 a1 a2 a3 a4 : Option MV) (x y : Int) (st : List MV) (μ : MM) (G : MG) : ev 166 141 [a0, a1, a2, a3, a4] (vI y :: vI x :: st) μ G = ev 166 142 [a0, a1, a2, a3, a4] (vI (w32 (x + y)) :: st) μ G := ev_stp pg_166_141 rfl
theorem pg_166_142 : mm_prog 166 142 = some (0, .istore 4, 144, []) := by decide +kernel
theorem xe_166_142 (a0 a1 a2 a3 a4 : Option MV) (x : Int) (st : List MV) (μ : MM) (G : MG) (h : mm_nL a3 = true) : ev 166 142 [a0, a1, a2, a3, a4] (vI x :: st) μ G = ev 166 144 [a0, a1, a2, a3, some (vI x)] st μ G := ev_st pg_166_142 rfl (mm_nl_of h) (Nat.le_of_ble_eq_true rfl)
theorem pg_166_144 : mm_prog 166 144 = some (0, .goto (-43), 147, []) := by decide +kernel
theorem xe_166_144 (a0 a1 a2 a3 a4 : Option MV) (st : List MV) (μ : MM) (G : MG) : ev 166 144 [a0, a1, a2, a3, a4] st μ G = ev 166 101 [a0, a1, a2, a3, a4] st μ G := ev_stp pg_166_144 rfl
theorem pg_166_147 : mm_prog 166 147 = some (0, .iload_n 3, 148, []) := by decide +kernel
theorem xe_166_147 (a0 a1 a2 a4 : Option MV) (x : Int) (st : List MV) (μ : MM) (G : MG) : ev 166 147 [a0, a1, a2, some (vI x), a4] st μ G = ev 166 148 [a0, a1, a2, some (vI x), a4] (vI x :: st) μ G := ev_stp pg_166_147 rfl
theorem pg_166_148 : mm_prog 166 148 = some (0, .ifCond .ne 6, 151, []) := by decide +kernel
theorem xe_166_148 (a0 a1 a2 a3 a4 : Option MV) (x : Int) (st : List MV) (μ : MM) (G : MG) : ev 166 148 [a0, a1, a2, a3, a4] (vI x :: st) μ G = if ¬ x = 0 then ev 166 154 [a0, a1, a2, a3, a4] st μ G else ev 166 151 [a0, a1, a2, a3, a4] st μ G := ev_br (mm_cnd_ne x 0) pg_166_148 rfl
theorem pg_166_151 : mm_prog 166 151 = some (0, .goto 41, 154, []) := by decide +kernel
theorem xe_166_151 (a0 a1 a2 a3 a4 : Option MV) (st : List MV) (μ : MM) (G : MG) : ev 166 151 [a0, a1, a2, a3, a4] st μ G = ev 166 192 [a0, a1, a2, a3, a4] st μ G := ev_stp pg_166_151 rfl
theorem pg_166_154 : mm_prog 166 154 = some (0, .iload_n 3, 155, []) := by decide +kernel
theorem xe_166_154 (a0 a1 a2 a4 : Option MV) (x : Int) (st : List MV) (μ : MM) (G : MG) : ev 166 154 [a0, a1, a2, some (vI x), a4] st μ G = ev 166 155 [a0, a1, a2, some (vI x), a4] (vI x :: st) μ G := ev_stp pg_166_154 rfl
theorem pg_166_155 : mm_prog 166 155 = some (0, .istore 4, 157, []) := by decide +kernel
theorem xe_166_155 (a0 a1 a2 a3 a4 : Option MV) (x : Int) (st : List MV) (μ : MM) (G : MG) (h : mm_nL a3 = true) : ev 166 155 [a0, a1, a2, a3, a4] (vI x :: st) μ G = ev 166 157 [a0, a1, a2, a3, some (vI x)] st μ G := ev_st pg_166_155 rfl (mm_nl_of h) (Nat.le_of_ble_eq_true rfl)
theorem pg_166_157 : mm_prog 166 157 = some (0, .iload 4, 159, []) := by decide +kernel
theorem xe_166_157 (a0 a1 a2 a3 : Option MV) (x : Int) (st : List MV) (μ : MM) (G : MG) : ev 166 157 [a0, a1, a2, a3, some (vI x)] st μ G = ev 166 159 [a0, a1, a2, a3, some (vI x)] (vI x :: st) μ G := ev_stp pg_166_157 rfl
theorem pg_166_159 : mm_prog 166 159 = some (0, .bipush 18, 161, []) := by decide +kernel
theorem xe_166_159 (a0 a1 a2 a3 a4 : Option MV) (st : List MV) (μ : MM) (G : MG) : ev 166 159 [a0, a1, a2, a3, a4] st μ G = ev 166 161 [a0, a1, a2, a3, a4] (vI (18) :: st) μ G := ev_stp pg_166_159 rfl
theorem pg_166_161 : mm_prog 166 161 = some (0, .iadd, 162, []) := by decide +kernel
theorem xe_166_161 (a0 a1 a2 a3 a4 : Option MV) (x y : Int) (st : List MV) (μ : MM) (G : MG) : ev 166 161 [a0, a1, a2, a3, a4] (vI y :: vI x :: st) μ G = ev 166 162 [a0, a1, a2, a3, a4] (vI (w32 (x + y)) :: st) μ G := ev_stp pg_166_161 rfl
theorem pg_166_162 : mm_prog 166 162 = some (0, .bipush 127, 164, []) := by decide +kernel
theorem xe_166_162 (a0 a1 a2 a3 a4 : Option MV) (st : List MV) (μ : MM) (G : MG) : ev 166 162 [a0, a1, a2, a3, a4] st μ G = ev 166 164 [a0, a1, a2, a3, a4] (vI (127) :: st) μ G := ev_stp pg_166_162 rfl
theorem pg_166_164 : mm_prog 166 164 = some (0, .if_icmp .gt 28, 167, []) := by decide +kernel
theorem xe_166_164 (a0 a1 a2 a3 a4 : Option MV) (x y : Int) (st : List MV) (μ : MM) (G : MG) : ev 166 164 [a0, a1, a2, a3, a4] (vI y :: vI x :: st) μ G = if y < x then ev 166 192 [a0, a1, a2, a3, a4] st μ G else ev 166 167 [a0, a1, a2, a3, a4] st μ G := ev_br (mm_cnd_gt x y) pg_166_164 rfl
theorem pg_166_167 : mm_prog 166 167 = some (0, .aload_n 0, 168, []) := by decide +kernel
theorem xe_166_167 (a1 a2 a3 a4 : Option MV) (x : Int) (st : List MV) (μ : MM) (G : MG) : ev 166 167 [some (vR x), a1, a2, a3, a4] st μ G = ev 166 168 [some (vR x), a1, a2, a3, a4] (vR x :: st) μ G := ev_stp pg_166_167 rfl
theorem pg_166_168 : mm_prog 166 168 = some (0, .iload_n 2, 169, []) := by decide +kernel
theorem xe_166_168 (a0 a1 a3 a4 : Option MV) (x : Int) (st : List MV) (μ : MM) (G : MG) : ev 166 168 [a0, a1, some (vI x), a3, a4] st μ G = ev 166 169 [a0, a1, some (vI x), a3, a4] (vI x :: st) μ G := ev_stp pg_166_168 rfl
theorem pg_166_169 : mm_prog 166 169 = some (0, .iload 4, 171, []) := by decide +kernel
theorem xe_166_169 (a0 a1 a2 a3 : Option MV) (x : Int) (st : List MV) (μ : MM) (G : MG) : ev 166 169 [a0, a1, a2, a3, some (vI x)] st μ G = ev 166 171 [a0, a1, a2, a3, some (vI x)] (vI x :: st) μ G := ev_stp pg_166_169 rfl
theorem pg_166_171 : mm_prog 166 171 = some (0, .iadd, 172, []) := by decide +kernel
theorem xe_166_171 (a0 a1 a2 a3 a4 : Option MV) (x y : Int) (st : List MV) (μ : MM) (G : MG) : ev 166 171 [a0, a1, a2, a3, a4] (vI y :: vI x :: st) μ G = ev 166 172 [a0, a1, a2, a3, a4] (vI (w32 (x + y)) :: st) μ G := ev_stp pg_166_171 rfl
theorem pg_166_172 : mm_prog 166 172 = some (1, .invokevirtual 167, 175, [1, 163, 1, 11]) := by decide +kernel
theorem xe_166_172 (a0 a1 a2 a3 a4 : Option MV) (x0 z : Int) (μ : MM) (G : MG) : ev 166 172 [a0, a1, a2, a3, a4] (vI x0 :: vR z :: []) μ G = if gk G z = 11 ∧ 0 < z then (ev 163 0 [some (vR z), some (vI x0)] [] μ G).bind (fun q => ev 166 175 [a0, a1, a2, a3, a4] (q.1.toList ++ []) q.2.1 q.2.2) else none := ev_calV (as := [vR z, vI x0]) (r := []) mx_163 pg_166_172 rfl rfl (Nat.le_of_ble_eq_true rfl) (Nat.le_of_ble_eq_true rfl)
theorem pg_166_175 : mm_prog 166 175 = some (0, .ifCond .eq 17, 178, []) := by decide +kernel
theorem xe_166_175 (a0 a1 a2 a3 a4 : Option MV) (x : Int) (st : List MV) (μ : MM) (G : MG) : ev 166 175 [a0, a1, a2, a3, a4] (vI x :: st) μ G = if x = 0 then ev 166 192 [a0, a1, a2, a3, a4] st μ G else ev 166 178 [a0, a1, a2, a3, a4] st μ G := ev_br (mm_cnd_eq x 0) pg_166_175 rfl
theorem pg_166_178 : mm_prog 166 178 = some (0, .aload_n 0, 179, []) := by decide +kernel
theorem xe_166_178 (a1 a2 a3 a4 : Option MV) (x : Int) (st : List MV) (μ : MM) (G : MG) : ev 166 178 [some (vR x), a1, a2, a3, a4] st μ G = ev 166 179 [some (vR x), a1, a2, a3, a4] (vR x :: st) μ G := ev_stp pg_166_178 rfl
theorem pg_166_179 : mm_prog 166 179 = some (0, .iload_n 2, 180, []) := by decide +kernel
theorem xe_166_179 (a0 a1 a3 a4 : Option MV) (x : Int) (st : List MV) (μ : MM) (G : MG) : ev 166 179 [a0, a1, some (vI x), a3, a4] st μ G = ev 166 180 [a0, a1, some (vI x), a3, a4] (vI x :: st) μ G := ev_stp pg_166_179 rfl
theorem pg_166_180 : mm_prog 166 180 = some (0, .iload 4, 182, []) := by decide +kernel
theorem xe_166_180 (a0 a1 a2 a3 : Option MV) (x : Int) (st : List MV) (μ : MM) (G : MG) : ev 166 180 [a0, a1, a2, a3, some (vI x)] st μ G = ev 166 182 [a0, a1, a2, a3, some (vI x)] (vI x :: st) μ G := ev_stp pg_166_180 rfl
theorem pg_166_182 : mm_prog 166 182 = some (0, .iadd, 183, []) := by decide +kernel
theorem xe_166_182 (a0 a1 a2 a3 a4 : Option MV) (x y : Int) (st : List MV) (μ : MM) (G : MG) : ev 166 182 [a0, a1, a2, a3, a4] (vI y :: vI x :: st) μ G = ev 166 183 [a0, a1, a2, a3, a4] (vI (w32 (x + y)) :: st) μ G := ev_stp pg_166_182 rfl
theorem pg_166_183 : mm_prog 166 183 = some (1, .invokevirtual 170, 186, [1, 161, 1, 11]) := by decide +kernel
theorem xe_166_183 (a0 a1 a2 a3 a4 : Option MV) (x0 z : Int) (μ : MM) (G : MG) : ev 166 183 [a0, a1, a2, a3, a4] (vI x0 :: vR z :: []) μ G = if gk G z = 11 ∧ 0 < z then (ev 161 0 [some (vR z), some (vI x0), none, none] [] μ G).bind (fun q => ev 166 186 [a0, a1, a2, a3, a4] (q.1.toList ++ []) q.2.1 q.2.2) else none := ev_calV (as := [vR z, vI x0]) (r := []) mx_161 pg_166_183 rfl rfl (Nat.le_of_ble_eq_true rfl) (Nat.le_of_ble_eq_true rfl)
theorem pg_166_186 : mm_prog 166 186 = some (0, .iinc 4 18, 189, []) := by decide +kernel
theorem xe_166_186 (a0 a1 a2 a3 : Option MV) (x : Int) (st : List MV) (μ : MM) (G : MG) (h : mm_nL a3 = true) : ev 166 186 [a0, a1, a2, a3, some (vI x)] st μ G = ev 166 189 [a0, a1, a2, a3, some (vI (w32 (x + (18))))] st μ G := ev_st pg_166_186 rfl (mm_nl_of h) (Nat.le_of_ble_eq_true rfl)
theorem pg_166_189 : mm_prog 166 189 = some (0, .goto (-32), 192, []) := by decide +kernel
theorem xe_166_189 (a0 a1 a2 a3 a4 : Option MV) (st : List MV) (μ : MM) (G : MG) : ev 166 189 [a0, a1, a2, a3, a4] st μ G = ev 166 157 [a0, a1, a2, a3, a4] st μ G := ev_stp pg_166_189 rfl
theorem pg_166_192 : mm_prog 166 192 = some (0, .iinc 1 1, 195, []) := by decide +kernel
theorem xe_166_192 (a0 a2 a3 a4 : Option MV) (x : Int) (st : List MV) (μ : MM) (G : MG) (h : mm_nL a0 = true) : ev 166 192 [a0, some (vI x), a2, a3, a4] st μ G = ev 166 195 [a0, some (vI (w32 (x + (1)))), a2, a3, a4] st μ G := ev_st pg_166_192 rfl (mm_nl_of h) (Nat.le_of_ble_eq_true rfl)
theorem pg_166_195 : mm_prog 166 195 = some (0, .goto (-119), 198, []) := by decide +kernel
theorem xe_166_195 (a0 a1 a2 a3 a4 : Option MV) (st : List MV) (μ : MM) (G : MG) : ev 166 195 [a0, a1, a2, a3, a4] st μ G = ev 166 76 [a0, a1, a2, a3, a4] st μ G := ev_stp pg_166_195 rfl
theorem pg_166_198 : mm_prog 166 198 = some (2, .return_, 199, []) := by decide +kernel
theorem xe_166_198 (a0 a1 a2 a3 a4 : Option MV) (μ : MM) (G : MG) : ev 166 198 [a0, a1, a2, a3, a4] [] μ G = some (none, μ, G) := ev_ret pg_166_198 rfl
-- X11_hertzOf
theorem pg_167_0 : mm_prog 167 0 = some (0, .ldc2_w 182, 3, [2000]) := by decide +kernel
theorem xe_167_0 (a0 a1 : Option MV) (st : List MV) (μ : MM) (G : MG) : ev 167 0 [a0, a1] st μ G = ev 167 3 [a0, a1] (vL (2000) :: st) μ G := ev_stp pg_167_0 rfl
theorem pg_167_3 : mm_prog 167 3 = some (0, .iload_n 0, 4, []) := by decide +kernel
theorem xe_167_3 (a1 : Option MV) (x : Int) (st : List MV) (μ : MM) (G : MG) : ev 167 3 [some (vI x), a1] st μ G = ev 167 4 [some (vI x), a1] (vI x :: st) μ G := ev_stp pg_167_3 rfl
theorem pg_167_4 : mm_prog 167 4 = some (0, .i2l, 5, []) := by decide +kernel
theorem xe_167_4 (a0 a1 : Option MV) (x : Int) (st : List MV) (μ : MM) (G : MG) : ev 167 4 [a0, a1] (vI x :: st) μ G = ev 167 5 [a0, a1] (vL x :: st) μ G := ev_stp pg_167_4 rfl
theorem pg_167_5 : mm_prog 167 5 = some (0, .lmul, 6, []) := by decide +kernel
theorem xe_167_5 (a0 a1 : Option MV) (x y : Int) (st : List MV) (μ : MM) (G : MG) : ev 167 5 [a0, a1] (vL y :: vL x :: st) μ G = ev 167 6 [a0, a1] (vL (w64 (x * y)) :: st) μ G := ev_stp pg_167_5 rfl
theorem pg_167_6 : mm_prog 167 6 = some (0, .iload_n 1, 7, []) := by decide +kernel
theorem xe_167_6 (a0 : Option MV) (x : Int) (st : List MV) (μ : MM) (G : MG) : ev 167 6 [a0, some (vI x)] st μ G = ev 167 7 [a0, some (vI x)] (vI x :: st) μ G := ev_stp pg_167_6 rfl
theorem pg_167_7 : mm_prog 167 7 = some (0, .i2l, 8, []) := by decide +kernel
theorem xe_167_7 (a0 a1 : Option MV) (x : Int) (st : List MV) (μ : MM) (G : MG) : ev 167 7 [a0, a1] (vI x :: st) μ G = ev 167 8 [a0, a1] (vL x :: st) μ G := ev_stp pg_167_7 rfl
theorem pg_167_8 : mm_prog 167 8 = some (0, .ladd, 9, []) := by decide +kernel
theorem xe_167_8 (a0 a1 : Option MV) (x y : Int) (st : List MV) (μ : MM) (G : MG) : ev 167 8 [a0, a1] (vL y :: vL x :: st) μ G = ev 167 9 [a0, a1] (vL (w64 (x + y)) :: st) μ G := ev_stp pg_167_8 rfl
theorem pg_167_9 : mm_prog 167 9 = some (0, .ldc2_w 184, 12, [2]) := by decide +kernel
theorem xe_167_9 (a0 a1 : Option MV) (st : List MV) (μ : MM) (G : MG) : ev 167 9 [a0, a1] st μ G = ev 167 12 [a0, a1] (vL (2) :: st) μ G := ev_stp pg_167_9 rfl
theorem pg_167_12 : mm_prog 167 12 = some (0, .iload_n 1, 13, []) := by decide +kernel
theorem xe_167_12 (a0 : Option MV) (x : Int) (st : List MV) (μ : MM) (G : MG) : ev 167 12 [a0, some (vI x)] st μ G = ev 167 13 [a0, some (vI x)] (vI x :: st) μ G := ev_stp pg_167_12 rfl
theorem pg_167_13 : mm_prog 167 13 = some (0, .i2l, 14, []) := by decide +kernel
theorem xe_167_13 (a0 a1 : Option MV) (x : Int) (st : List MV) (μ : MM) (G : MG) : ev 167 13 [a0, a1] (vI x :: st) μ G = ev 167 14 [a0, a1] (vL x :: st) μ G := ev_stp pg_167_13 rfl
theorem pg_167_14 : mm_prog 167 14 = some (0, .lmul, 15, []) := by decide +kernel
theorem xe_167_14 (a0 a1 : Option MV) (x y : Int) (st : List MV) (μ : MM) (G : MG) : ev 167 14 [a0, a1] (vL y :: vL x :: st) μ G = ev 167 15 [a0, a1] (vL (w64 (x * y)) :: st) μ G := ev_stp pg_167_14 rfl
theorem pg_167_15 : mm_prog 167 15 = some (0, .ldiv, 16, []) := by decide +kernel
theorem xe_167_15 (a0 a1 : Option MV) (x y : Int) (st : List MV) (μ : MM) (G : MG) : ev 167 15 [a0, a1] (vL y :: vL x :: st) μ G = if y = 0 then none else ev 167 16 [a0, a1] (vL (mm_ldiv x y) :: st) μ G := ev_no pg_167_15 rfl
theorem pg_167_16 : mm_prog 167 16 = some (0, .l2i, 17, []) := by decide +kernel
theorem xe_167_16 (a0 a1 : Option MV) (x : Int) (st : List MV) (μ : MM) (G : MG) : ev 167 16 [a0, a1] (vL x :: st) μ G = ev 167 17 [a0, a1] (vI (w32 x) :: st) μ G := ev_stp pg_167_16 rfl
theorem pg_167_17 : mm_prog 167 17 = some (2, .ireturn, 18, [0]) := by decide +kernel
theorem xe_167_17 (a0 a1 : Option MV) (x : Int) (μ : MM) (G : MG) : ev 167 17 [a0, a1] [vI x] μ G = some (some (vI x), μ, G) := ev_ret pg_167_17 rfl
-- X11_ofMode
theorem pg_168_0 : mm_prog 168 0 = some (0, .aload_n 0, 1, []) := by decide +kernel
theorem xe_168_0 (a1 a2 : Option MV) (x : Int) (st : List MV) (μ : MM) (G : MG) : ev 168 0 [some (vR x), a1, a2] st μ G = ev 168 1 [some (vR x), a1, a2] (vR x :: st) μ G := ev_stp pg_168_0 rfl
theorem pg_168_1 : mm_prog 168 1 = some (0, .getfield 38, 4, [11, 20, 2]) := by decide +kernel
theorem xe_168_1 (a0 a1 a2 : Option MV) (x : Int) (st : List MV) (μ : MM) (G : MG) : ev 168 1 [a0, a1, a2] (vR x :: st) μ G = if gk G x = 11 then ev 168 4 [a0, a1, a2] (vR (μ x 20) :: st) μ G else none := ev_if pg_168_1 rfl
theorem pg_168_4 : mm_prog 168 4 = some (0, .bipush 12, 6, []) := by decide +kernel
theorem xe_168_4 (a0 a1 a2 : Option MV) (st : List MV) (μ : MM) (G : MG) : ev 168 4 [a0, a1, a2] st μ G = ev 168 6 [a0, a1, a2] (vI (12) :: st) μ G := ev_stp pg_168_4 rfl
theorem pg_168_6 : mm_prog 168 6 = some (0, .aload_n 0, 7, []) := by decide +kernel
theorem xe_168_6 (a1 a2 : Option MV) (x : Int) (st : List MV) (μ : MM) (G : MG) : ev 168 6 [some (vR x), a1, a2] st μ G = ev 168 7 [some (vR x), a1, a2] (vR x :: st) μ G := ev_stp pg_168_6 rfl
theorem pg_168_7 : mm_prog 168 7 = some (0, .getfield 41, 10, [11, 21, 2]) := by decide +kernel
theorem xe_168_7 (a0 a1 a2 : Option MV) (x : Int) (st : List MV) (μ : MM) (G : MG) : ev 168 7 [a0, a1, a2] (vR x :: st) μ G = if gk G x = 11 then ev 168 10 [a0, a1, a2] (vR (μ x 21) :: st) μ G else none := ev_if pg_168_7 rfl
theorem pg_168_10 : mm_prog 168 10 = some (0, .iload_n 1, 11, []) := by decide +kernel
theorem xe_168_10 (a0 a2 : Option MV) (x : Int) (st : List MV) (μ : MM) (G : MG) : ev 168 10 [a0, some (vI x), a2] st μ G = ev 168 11 [a0, some (vI x), a2] (vI x :: st) μ G := ev_stp pg_168_10 rfl
theorem pg_168_11 : mm_prog 168 11 = some (0, .iaload, 12, []) := by decide +kernel
theorem xe_168_11 (a0 a1 a2 : Option MV) (x y : Int) (st : List MV) (μ : MM) (G : MG) : ev 168 11 [a0, a1, a2] (vI x :: vR y :: st) μ G = if gk G y = 100 ∧ 0 ≤ x ∧ x < gl G y then ev 168 12 [a0, a1, a2] (vI (μ y x) :: st) μ G else none := ev_if pg_168_11 rfl
theorem pg_168_12 : mm_prog 168 12 = some (0, .imul, 13, []) := by decide +kernel
theorem xe_168_12 (a0 a1 a2 : Option MV) (x y : Int) (st : List MV) (μ : MM) (G : MG) : ev 168 12 [a0, a1, a2] (vI y :: vI x :: st) μ G = ev 168 13 [a0, a1, a2] (vI (w32 (x * y)) :: st) μ G := ev_stp pg_168_12 rfl
theorem pg_168_13 : mm_prog 168 13 = some (0, .iload_n 2, 14, []) := by decide +kernel
theorem xe_168_13 (a0 a1 : Option MV) (x : Int) (st : List MV) (μ : MM) (G : MG) : ev 168 13 [a0, a1, some (vI x)] st μ G = ev 168 14 [a0, a1, some (vI x)] (vI x :: st) μ G := ev_stp pg_168_13 rfl
theorem pg_168_14 : mm_prog 168 14 = some (0, .iadd, 15, []) := by decide +kernel
theorem xe_168_14 (a0 a1 a2 : Option MV) (x y : Int) (st : List MV) (μ : MM) (G : MG) : ev 168 14 [a0, a1, a2] (vI y :: vI x :: st) μ G = ev 168 15 [a0, a1, a2] (vI (w32 (x + y)) :: st) μ G := ev_stp pg_168_14 rfl
theorem pg_168_15 : mm_prog 168 15 = some (0, .iaload, 16, []) := by decide +kernel
theorem xe_168_15 (a0 a1 a2 : Option MV) (x y : Int) (st : List MV) (μ : MM) (G : MG) : ev 168 15 [a0, a1, a2] (vI x :: vR y :: st) μ G = if gk G y = 100 ∧ 0 ≤ x ∧ x < gl G y then ev 168 16 [a0, a1, a2] (vI (μ y x) :: st) μ G else none := ev_if pg_168_15 rfl
theorem pg_168_16 : mm_prog 168 16 = some (2, .ireturn, 17, [0]) := by decide +kernel
theorem xe_168_16 (a0 a1 a2 : Option MV) (x : Int) (μ : MM) (G : MG) : ev 168 16 [a0, a1, a2] [vI x] μ G = some (some (vI x), μ, G) := ev_ret pg_168_16 rfl
-- X11_isOut
theorem pg_169_0 : mm_prog 169 0 = some (0, .aload_n 0, 1, []) := by decide +kernel
theorem xe_169_0 (a1 a2 a3 : Option MV) (x : Int) (st : List MV) (μ : MM) (G : MG) : ev 169 0 [some (vR x), a1, a2, a3] st μ G = ev 169 1 [some (vR x), a1, a2, a3] (vR x :: st) μ G := ev_stp pg_169_0 rfl
theorem pg_169_1 : mm_prog 169 1 = some (0, .getfield 154, 4, [11, 18, 1]) := by decide +kernel
theorem xe_169_1 (a0 a1 a2 a3 : Option MV) (x : Int) (st : List MV) (μ : MM) (G : MG) : ev 169 1 [a0, a1, a2, a3] (vR x :: st) μ G = if gk G x = 11 then ev 169 4 [a0, a1, a2, a3] (vI (μ x 18) :: st) μ G else none := ev_if pg_169_1 rfl
theorem pg_169_4 : mm_prog 169 4 = some (0, .ifCond .ne 5, 7, []) := by decide +kernel
theorem xe_169_4 (a0 a1 a2 a3 : Option MV) (x : Int) (st : List MV) (μ : MM) (G : MG) : ev 169 4 [a0, a1, a2, a3] (vI x :: st) μ G = if ¬ x = 0 then ev 169 9 [a0, a1, a2, a3] st μ G else ev 169 7 [a0, a1, a2, a3] st μ G := ev_br (mm_cnd_ne x 0) pg_169_4 rfl
theorem pg_169_7 : mm_prog 169 7 = some (0, .iconst 0, 8, []) := by decide +kernel
theorem xe_169_7 (a0 a1 a2 a3 : Option MV) (st : List MV) (μ : MM) (G : MG) : ev 169 7 [a0, a1, a2, a3] st μ G = ev 169 8 [a0, a1, a2, a3] (vI (0) :: st) μ G := ev_stp pg_169_7 rfl
theorem pg_169_8 : mm_prog 169 8 = some (2, .ireturn, 9, [1]) := by decide +kernel
theorem xe_169_8 (a0 a1 a2 a3 : Option MV) (x : Int) (μ : MM) (G : MG) : ev 169 8 [a0, a1, a2, a3] [vI x] μ G = if x = 0 ∨ x = 1 then some (some (vI x), μ, G) else none := ev_retB pg_169_8
theorem pg_169_9 : mm_prog 169 9 = some (0, .iload_n 1, 10, []) := by decide +kernel
theorem xe_169_9 (a0 a2 a3 : Option MV) (x : Int) (st : List MV) (μ : MM) (G : MG) : ev 169 9 [a0, some (vI x), a2, a3] st μ G = ev 169 10 [a0, some (vI x), a2, a3] (vI x :: st) μ G := ev_stp pg_169_9 rfl
theorem pg_169_10 : mm_prog 169 10 = some (0, .i2l, 11, []) := by decide +kernel
theorem xe_169_10 (a0 a1 a2 a3 : Option MV) (x : Int) (st : List MV) (μ : MM) (G : MG) : ev 169 10 [a0, a1, a2, a3] (vI x :: st) μ G = ev 169 11 [a0, a1, a2, a3] (vL x :: st) μ G := ev_stp pg_169_10 rfl
theorem pg_169_11 : mm_prog 169 11 = some (0, .aload_n 0, 12, []) := by decide +kernel
theorem xe_169_11 (a1 a2 a3 : Option MV) (x : Int) (st : List MV) (μ : MM) (G : MG) : ev 169 11 [some (vR x), a1, a2, a3] st μ G = ev 169 12 [some (vR x), a1, a2, a3] (vR x :: st) μ G := ev_stp pg_169_11 rfl
theorem pg_169_12 : mm_prog 169 12 = some (0, .getfield 32, 15, [11, 11, 2]) := by decide +kernel
theorem xe_169_12 (a0 a1 a2 a3 : Option MV) (x : Int) (st : List MV) (μ : MM) (G : MG) : ev 169 12 [a0, a1, a2, a3] (vR x :: st) μ G = if gk G x = 11 then ev 169 15 [a0, a1, a2, a3] (vR (μ x 11) :: st) μ G else none := ev_if pg_169_12 rfl
theorem pg_169_15 : mm_prog 169 15 = some (0, .iconst 0, 16, []) := by decide +kernel
theorem xe_169_15 (a0 a1 a2 a3 : Option MV) (st : List MV) (μ : MM) (G : MG) : ev 169 15 [a0, a1, a2, a3] st μ G = ev 169 16 [a0, a1, a2, a3] (vI (0) :: st) μ G := ev_stp pg_169_15 rfl
theorem pg_169_16 : mm_prog 169 16 = some (0, .iaload, 17, []) := by decide +kernel
theorem xe_169_16 (a0 a1 a2 a3 : Option MV) (x y : Int) (st : List MV) (μ : MM) (G : MG) : ev 169 16 [a0, a1, a2, a3] (vI x :: vR y :: st) μ G = if gk G y = 100 ∧ 0 ≤ x ∧ x < gl G y then ev 169 17 [a0, a1, a2, a3] (vI (μ y x) :: st) μ G else none := ev_if pg_169_16 rfl
theorem pg_169_17 : mm_prog 169 17 = some (0, .i2l, 18, []) := by decide +kernel
theorem xe_169_17 (a0 a1 a2 a3 : Option MV) (x : Int) (st : List MV) (μ : MM) (G : MG) : ev 169 17 [a0, a1, a2, a3] (vI x :: st) μ G = ev 169 18 [a0, a1, a2, a3] (vL x :: st) μ G := ev_stp pg_169_17 rfl
theorem pg_169_18 : mm_prog 169 18 = some (0, .aload_n 0, 19, []) := by decide +kernel
theorem xe_169_18 (a1 a2 a3 : Option MV) (x : Int) (st : List MV) (μ : MM) (G : MG) : ev 169 18 [some (vR x), a1, a2, a3] st μ G = ev 169 19 [some (vR x), a1, a2, a3] (vR x :: st) μ G := ev_stp pg_169_18 rfl
theorem pg_169_19 : mm_prog 169 19 = some (0, .getfield 32, 22, [11, 11, 2]) := by decide +kernel
theorem xe_169_19 (a0 a1 a2 a3 : Option MV) (x : Int) (st : List MV) (μ : MM) (G : MG) : ev 169 19 [a0, a1, a2, a3] (vR x :: st) μ G = if gk G x = 11 then ev 169 22 [a0, a1, a2, a3] (vR (μ x 11) :: st) μ G else none := ev_if pg_169_19 rfl
theorem pg_169_22 : mm_prog 169 22 = some (0, .iconst 1, 23, []) := by decide +kernel
theorem xe_169_22 (a0 a1 a2 a3 : Option MV) (st : List MV) (μ : MM) (G : MG) : ev 169 22 [a0, a1, a2, a3] st μ G = ev 169 23 [a0, a1, a2, a3] (vI (1) :: st) μ G := ev_stp pg_169_22 rfl
theorem pg_169_23 : mm_prog 169 23 = some (0, .iaload, 24, []) := by decide +kernel
theorem xe_169_23 (a0 a1 a2 a3 : Option MV) (x y : Int) (st : List MV) (μ : MM) (G : MG) : ev 169 23 [a0, a1, a2, a3] (vI x :: vR y :: st) μ G = if gk G y = 100 ∧ 0 ≤ x ∧ x < gl G y then ev 169 24 [a0, a1, a2, a3] (vI (μ y x) :: st) μ G else none := ev_if pg_169_23 rfl
theorem pg_169_24 : mm_prog 169 24 = some (0, .i2l, 25, []) := by decide +kernel
theorem xe_169_24 (a0 a1 a2 a3 : Option MV) (x : Int) (st : List MV) (μ : MM) (G : MG) : ev 169 24 [a0, a1, a2, a3] (vI x :: st) μ G = ev 169 25 [a0, a1, a2, a3] (vL x :: st) μ G := ev_stp pg_169_24 rfl
theorem pg_169_25 : mm_prog 169 25 = some (1, .invokestatic 107, 28, [0, 148, 3, 0]) := by decide +kernel
theorem xe_169_25 (a0 a1 a2 a3 : Option MV) (x0 x1 x2 : Int) (μ : MM) (G : MG) : ev 169 25 [a0, a1, a2, a3] (vL x2 :: vL x1 :: vL x0 :: []) μ G = (ev 148 0 [some (vL x0), none, some (vL x1), none, some (vL x2), none] [] μ G).bind (fun q => ev 169 28 [a0, a1, a2, a3] (q.1.toList ++ []) q.2.1 q.2.2) := ev_calS (as := [vL x0, vL x1, vL x2]) (r := []) mx_148 pg_169_25 rfl rfl (Nat.le_of_ble_eq_true rfl) (Nat.le_of_ble_eq_true rfl)
theorem pg_169_28 : mm_prog 169 28 = some (0, .ifCond .eq 37, 31, []) := by decide +kernel
theorem xe_169_28 (a0 a1 a2 a3 : Option MV) (x : Int) (st : List MV) (μ : MM) (G : MG) : ev 169 28 [a0, a1, a2, a3] (vI x :: st) μ G = if x = 0 then ev 169 65 [a0, a1, a2, a3] st μ G else ev 169 31 [a0, a1, a2, a3] st μ G := ev_br (mm_cnd_eq x 0) pg_169_28 rfl
theorem pg_169_31 : mm_prog 169 31 = some (0, .iload_n 2, 32, []) := by decide +kernel
theorem xe_169_31 (a0 a1 a3 : Option MV) (x : Int) (st : List MV) (μ : MM) (G : MG) : ev 169 31 [a0, a1, some (vI x), a3] st μ G = ev 169 32 [a0, a1, some (vI x), a3] (vI x :: st) μ G := ev_stp pg_169_31 rfl
theorem pg_169_32 : mm_prog 169 32 = some (0, .iload_n 3, 33, []) := by decide +kernel
theorem xe_169_32 (a0 a1 a2 : Option MV) (x : Int) (st : List MV) (μ : MM) (G : MG) : ev 169 32 [a0, a1, a2, some (vI x)] st μ G = ev 169 33 [a0, a1, a2, some (vI x)] (vI x :: st) μ G := ev_stp pg_169_32 rfl
theorem pg_169_33 : mm_prog 169 33 = some (0, .idiv, 34, []) := by decide +kernel
theorem xe_169_33 (a0 a1 a2 a3 : Option MV) (x y : Int) (st : List MV) (μ : MM) (G : MG) : ev 169 33 [a0, a1, a2, a3] (vI y :: vI x :: st) μ G = if y = 0 then none else ev 169 34 [a0, a1, a2, a3] (vI (mm_div x y) :: st) μ G := ev_no pg_169_33 rfl
theorem pg_169_34 : mm_prog 169 34 = some (0, .i2l, 35, []) := by decide +kernel
theorem xe_169_34 (a0 a1 a2 a3 : Option MV) (x : Int) (st : List MV) (μ : MM) (G : MG) : ev 169 34 [a0, a1, a2, a3] (vI x :: st) μ G = ev 169 35 [a0, a1, a2, a3] (vL x :: st) μ G := ev_stp pg_169_34 rfl
theorem pg_169_35 : mm_prog 169 35 = some (0, .aload_n 0, 36, []) := by decide +kernel
theorem xe_169_35 (a1 a2 a3 : Option MV) (x : Int) (st : List MV) (μ : MM) (G : MG) : ev 169 35 [some (vR x), a1, a2, a3] st μ G = ev 169 36 [some (vR x), a1, a2, a3] (vR x :: st) μ G := ev_stp pg_169_35 rfl
theorem pg_169_36 : mm_prog 169 36 = some (0, .getfield 32, 39, [11, 11, 2]) := by decide +kernel
theorem xe_169_36 (a0 a1 a2 a3 : Option MV) (x : Int) (st : List MV) (μ : MM) (G : MG) : ev 169 36 [a0, a1, a2, a3] (vR x :: st) μ G = if gk G x = 11 then ev 169 39 [a0, a1, a2, a3] (vR (μ x 11) :: st) μ G else none := ev_if pg_169_36 rfl
theorem pg_169_39 : mm_prog 169 39 = some (0, .iconst 2, 40, []) := by decide +kernel
theorem xe_169_39 (a0 a1 a2 a3 : Option MV) (st : List MV) (μ : MM) (G : MG) : ev 169 39 [a0, a1, a2, a3] st μ G = ev 169 40 [a0, a1, a2, a3] (vI (2) :: st) μ G := ev_stp pg_169_39 rfl
theorem pg_169_40 : mm_prog 169 40 = some (0, .iaload, 41, []) := by decide +kernel
theorem xe_169_40 (a0 a1 a2 a3 : Option MV) (x y : Int) (st : List MV) (μ : MM) (G : MG) : ev 169 40 [a0, a1, a2, a3] (vI x :: vR y :: st) μ G = if gk G y = 100 ∧ 0 ≤ x ∧ x < gl G y then ev 169 41 [a0, a1, a2, a3] (vI (μ y x) :: st) μ G else none := ev_if pg_169_40 rfl
theorem pg_169_41 : mm_prog 169 41 = some (0, .i2l, 42, []) := by decide +kernel
theorem xe_169_41 (a0 a1 a2 a3 : Option MV) (x : Int) (st : List MV) (μ : MM) (G : MG) : ev 169 41 [a0, a1, a2, a3] (vI x :: st) μ G = ev 169 42 [a0, a1, a2, a3] (vL x :: st) μ G := ev_stp pg_169_41 rfl
theorem pg_169_42 : mm_prog 169 42 = some (0, .aload_n 0, 43, []) := by decide +kernel
theorem xe_169_42 (a1 a2 a3 : Option MV) (x : Int) (st : List MV) (μ : MM) (G : MG) : ev 169 42 [some (vR x), a1, a2, a3] st μ G = ev 169 43 [some (vR x), a1, a2, a3] (vR x :: st) μ G := ev_stp pg_169_42 rfl
theorem pg_169_43 : mm_prog 169 43 = some (0, .getfield 32, 46, [11, 11, 2]) := by decide +kernel
theorem xe_169_43 (a0 a1 a2 a3 : Option MV) (x : Int) (st : List MV) (μ : MM) (G : MG) : ev 169 43 [a0, a1, a2, a3] (vR x :: st) μ G = if gk G x = 11 then ev 169 46 [a0, a1, a2, a3] (vR (μ x 11) :: st) μ G else none := ev_if pg_169_43 rfl
theorem pg_169_46 : mm_prog 169 46 = some (0, .iconst 3, 47, []) := by decide +kernel
theorem xe_169_46 (a0 a1 a2 a3 : Option MV) (st : List MV) (μ : MM) (G : MG) : ev 169 46 [a0, a1, a2, a3] st μ G = ev 169 47 [a0, a1, a2, a3] (vI (3) :: st) μ G := ev_stp pg_169_46 rfl
theorem pg_169_47 : mm_prog 169 47 = some (0, .iaload, 48, []) := by decide +kernel
theorem xe_169_47 (a0 a1 a2 a3 : Option MV) (x y : Int) (st : List MV) (μ : MM) (G : MG) : ev 169 47 [a0, a1, a2, a3] (vI x :: vR y :: st) μ G = if gk G y = 100 ∧ 0 ≤ x ∧ x < gl G y then ev 169 48 [a0, a1, a2, a3] (vI (μ y x) :: st) μ G else none := ev_if pg_169_47 rfl
theorem pg_169_48 : mm_prog 169 48 = some (0, .i2l, 49, []) := by decide +kernel
theorem xe_169_48 (a0 a1 a2 a3 : Option MV) (x : Int) (st : List MV) (μ : MM) (G : MG) : ev 169 48 [a0, a1, a2, a3] (vI x :: st) μ G = ev 169 49 [a0, a1, a2, a3] (vL x :: st) μ G := ev_stp pg_169_48 rfl
theorem pg_169_49 : mm_prog 169 49 = some (1, .invokestatic 107, 52, [0, 148, 3, 0]) := by decide +kernel
theorem xe_169_49 (a0 a1 a2 a3 : Option MV) (x0 x1 x2 : Int) (μ : MM) (G : MG) : ev 169 49 [a0, a1, a2, a3] (vL x2 :: vL x1 :: vL x0 :: []) μ G = (ev 148 0 [some (vL x0), none, some (vL x1), none, some (vL x2), none] [] μ G).bind (fun q => ev 169 52 [a0, a1, a2, a3] (q.1.toList ++ []) q.2.1 q.2.2) := ev_calS (as := [vL x0, vL x1, vL x2]) (r := []) mx_148 pg_169_49 rfl rfl (Nat.le_of_ble_eq_true rfl) (Nat.le_of_ble_eq_true rfl)
theorem pg_169_52 : mm_prog 169 52 = some (0, .ifCond .eq 13, 55, []) := by decide +kernel
theorem xe_169_52 (a0 a1 a2 a3 : Option MV) (x : Int) (st : List MV) (μ : MM) (G : MG) : ev 169 52 [a0, a1, a2, a3] (vI x :: st) μ G = if x = 0 then ev 169 65 [a0, a1, a2, a3] st μ G else ev 169 55 [a0, a1, a2, a3] st μ G := ev_br (mm_cnd_eq x 0) pg_169_52 rfl
theorem pg_169_55 : mm_prog 169 55 = some (0, .iload_n 2, 56, []) := by decide +kernel
theorem xe_169_55 (a0 a1 a3 : Option MV) (x : Int) (st : List MV) (μ : MM) (G : MG) : ev 169 55 [a0, a1, some (vI x), a3] st μ G = ev 169 56 [a0, a1, some (vI x), a3] (vI x :: st) μ G := ev_stp pg_169_55 rfl
theorem pg_169_56 : mm_prog 169 56 = some (0, .aload_n 0, 57, []) := by decide +kernel
theorem xe_169_56 (a1 a2 a3 : Option MV) (x : Int) (st : List MV) (μ : MM) (G : MG) : ev 169 56 [some (vR x), a1, a2, a3] st μ G = ev 169 57 [some (vR x), a1, a2, a3] (vR x :: st) μ G := ev_stp pg_169_56 rfl
theorem pg_169_57 : mm_prog 169 57 = some (0, .getfield 32, 60, [11, 11, 2]) := by decide +kernel
theorem xe_169_57 (a0 a1 a2 a3 : Option MV) (x : Int) (st : List MV) (μ : MM) (G : MG) : ev 169 57 [a0, a1, a2, a3] (vR x :: st) μ G = if gk G x = 11 then ev 169 60 [a0, a1, a2, a3] (vR (μ x 11) :: st) μ G else none := ev_if pg_169_57 rfl
theorem pg_169_60 : mm_prog 169 60 = some (0, .iconst 4, 61, []) := by decide +kernel
theorem xe_169_60 (a0 a1 a2 a3 : Option MV) (st : List MV) (μ : MM) (G : MG) : ev 169 60 [a0, a1, a2, a3] st μ G = ev 169 61 [a0, a1, a2, a3] (vI (4) :: st) μ G := ev_stp pg_169_60 rfl
theorem pg_169_61 : mm_prog 169 61 = some (0, .iaload, 62, []) := by decide +kernel
theorem xe_169_61 (a0 a1 a2 a3 : Option MV) (x y : Int) (st : List MV) (μ : MM) (G : MG) : ev 169 61 [a0, a1, a2, a3] (vI x :: vR y :: st) μ G = if gk G y = 100 ∧ 0 ≤ x ∧ x < gl G y then ev 169 62 [a0, a1, a2, a3] (vI (μ y x) :: st) μ G else none := ev_if pg_169_61 rfl
theorem pg_169_62 : mm_prog 169 62 = some (0, .if_icmp .le 7, 65, []) := by decide +kernel
theorem xe_169_62 (a0 a1 a2 a3 : Option MV) (x y : Int) (st : List MV) (μ : MM) (G : MG) : ev 169 62 [a0, a1, a2, a3] (vI y :: vI x :: st) μ G = if x ≤ y then ev 169 69 [a0, a1, a2, a3] st μ G else ev 169 65 [a0, a1, a2, a3] st μ G := ev_br (mm_cnd_le x y) pg_169_62 rfl
theorem pg_169_65 : mm_prog 169 65 = some (0, .iconst 1, 66, []) := by decide +kernel
theorem xe_169_65 (a0 a1 a2 a3 : Option MV) (st : List MV) (μ : MM) (G : MG) : ev 169 65 [a0, a1, a2, a3] st μ G = ev 169 66 [a0, a1, a2, a3] (vI (1) :: st) μ G := ev_stp pg_169_65 rfl
theorem pg_169_66 : mm_prog 169 66 = some (0, .goto 4, 69, []) := by decide +kernel
theorem xe_169_66 (a0 a1 a2 a3 : Option MV) (st : List MV) (μ : MM) (G : MG) : ev 169 66 [a0, a1, a2, a3] st μ G = ev 169 70 [a0, a1, a2, a3] st μ G := ev_stp pg_169_66 rfl
theorem pg_169_69 : mm_prog 169 69 = some (0, .iconst 0, 70, []) := by decide +kernel
theorem xe_169_69 (a0 a1 a2 a3 : Option MV) (st : List MV) (μ : MM) (G : MG) : ev 169 69 [a0, a1, a2, a3] st μ G = ev 169 70 [a0, a1, a2, a3] (vI (0) :: st) μ G := ev_stp pg_169_69 rfl
theorem pg_169_70 : mm_prog 169 70 = some (2, .ireturn, 71, [1]) := by decide +kernel
theorem xe_169_70 (a0 a1 a2 a3 : Option MV) (x : Int) (μ : MM) (G : MG) : ev 169 70 [a0, a1, a2, a3] [vI x] μ G = if x = 0 ∨ x = 1 then some (some (vI x), μ, G) else none := ev_retB pg_169_70
-- X11_isFound
theorem pg_170_0 : mm_prog 170 0 = some (0, .iconst 0, 1, []) := by decide +kernel
theorem xe_170_0 (a0 a1 a2 a3 a4 : Option MV) (st : List MV) (μ : MM) (G : MG) : ev 170 0 [a0, a1, a2, a3, a4] st μ G = ev 170 1 [a0, a1, a2, a3, a4] (vI (0) :: st) μ G := ev_stp pg_170_0 rfl
theorem pg_170_1 : mm_prog 170 1 = some (0, .istore 4, 3, []) := by decide +kernel
theorem xe_170_1 (a0 a1 a2 a3 a4 : Option MV) (x : Int) (st : List MV) (μ : MM) (G : MG) (h : mm_nL a3 = true) : ev 170 1 [a0, a1, a2, a3, a4] (vI x :: st) μ G = ev 170 3 [a0, a1, a2, a3, some (vI x)] st μ G := ev_st pg_170_1 rfl (mm_nl_of h) (Nat.le_of_ble_eq_true rfl)
theorem pg_170_3 : mm_prog 170 3 = some (0, .iload 4, 5, []) := by decide +kernel
theorem xe_170_3 (a0 a1 a2 a3 : Option MV) (x : Int) (st : List MV) (μ : MM) (G : MG) : ev 170 3 [a0, a1, a2, a3, some (vI x)] st μ G = ev 170 5 [a0, a1, a2, a3, some (vI x)] (vI x :: st) μ G := ev_stp pg_170_3 rfl
theorem pg_170_5 : mm_prog 170 5 = some (0, .aload_n 0, 6, []) := by decide +kernel
theorem xe_170_5 (a1 a2 a3 a4 : Option MV) (x : Int) (st : List MV) (μ : MM) (G : MG) : ev 170 5 [some (vR x), a1, a2, a3, a4] st μ G = ev 170 6 [some (vR x), a1, a2, a3, a4] (vR x :: st) μ G := ev_stp pg_170_5 rfl
theorem pg_170_6 : mm_prog 170 6 = some (0, .getfield 134, 9, [11, 23, 0]) := by decide +kernel
theorem xe_170_6 (a0 a1 a2 a3 a4 : Option MV) (x : Int) (st : List MV) (μ : MM) (G : MG) : ev 170 6 [a0, a1, a2, a3, a4] (vR x :: st) μ G = if gk G x = 11 then ev 170 9 [a0, a1, a2, a3, a4] (vI (μ x 23) :: st) μ G else none := ev_if pg_170_6 rfl
theorem pg_170_9 : mm_prog 170 9 = some (0, .if_icmp .ge 57, 12, []) := by decide +kernel
theorem xe_170_9 (a0 a1 a2 a3 a4 : Option MV) (x y : Int) (st : List MV) (μ : MM) (G : MG) : ev 170 9 [a0, a1, a2, a3, a4] (vI y :: vI x :: st) μ G = if y ≤ x then ev 170 66 [a0, a1, a2, a3, a4] st μ G else ev 170 12 [a0, a1, a2, a3, a4] st μ G := ev_br (mm_cnd_ge x y) pg_170_9 rfl
theorem pg_170_12 : mm_prog 170 12 = some (0, .aload_n 0, 13, []) := by decide +kernel
theorem xe_170_12 (a1 a2 a3 a4 : Option MV) (x : Int) (st : List MV) (μ : MM) (G : MG) : ev 170 12 [some (vR x), a1, a2, a3, a4] st μ G = ev 170 13 [some (vR x), a1, a2, a3, a4] (vR x :: st) μ G := ev_stp pg_170_12 rfl
theorem pg_170_13 : mm_prog 170 13 = some (0, .getfield 38, 16, [11, 20, 2]) := by decide +kernel
theorem xe_170_13 (a0 a1 a2 a3 a4 : Option MV) (x : Int) (st : List MV) (μ : MM) (G : MG) : ev 170 13 [a0, a1, a2, a3, a4] (vR x :: st) μ G = if gk G x = 11 then ev 170 16 [a0, a1, a2, a3, a4] (vR (μ x 20) :: st) μ G else none := ev_if pg_170_13 rfl
theorem pg_170_16 : mm_prog 170 16 = some (0, .bipush 12, 18, []) := by decide +kernel
theorem xe_170_16 (a0 a1 a2 a3 a4 : Option MV) (st : List MV) (μ : MM) (G : MG) : ev 170 16 [a0, a1, a2, a3, a4] st μ G = ev 170 18 [a0, a1, a2, a3, a4] (vI (12) :: st) μ G := ev_stp pg_170_16 rfl
theorem pg_170_18 : mm_prog 170 18 = some (0, .iload 4, 20, []) := by decide +kernel
theorem xe_170_18 (a0 a1 a2 a3 : Option MV) (x : Int) (st : List MV) (μ : MM) (G : MG) : ev 170 18 [a0, a1, a2, a3, some (vI x)] st μ G = ev 170 20 [a0, a1, a2, a3, some (vI x)] (vI x :: st) μ G := ev_stp pg_170_18 rfl
theorem pg_170_20 : mm_prog 170 20 = some (0, .imul, 21, []) := by decide +kernel
theorem xe_170_20 (a0 a1 a2 a3 a4 : Option MV) (x y : Int) (st : List MV) (μ : MM) (G : MG) : ev 170 20 [a0, a1, a2, a3, a4] (vI y :: vI x :: st) μ G = ev 170 21 [a0, a1, a2, a3, a4] (vI (w32 (x * y)) :: st) μ G := ev_stp pg_170_20 rfl
theorem pg_170_21 : mm_prog 170 21 = some (0, .iaload, 22, []) := by decide +kernel
theorem xe_170_21 (a0 a1 a2 a3 a4 : Option MV) (x y : Int) (st : List MV) (μ : MM) (G : MG) : ev 170 21 [a0, a1, a2, a3, a4] (vI x :: vR y :: st) μ G = if gk G y = 100 ∧ 0 ≤ x ∧ x < gl G y then ev 170 22 [a0, a1, a2, a3, a4] (vI (μ y x) :: st) μ G else none := ev_if pg_170_21 rfl
theorem pg_170_22 : mm_prog 170 22 = some (0, .iload_n 1, 23, []) := by decide +kernel
theorem xe_170_22 (a0 a2 a3 a4 : Option MV) (x : Int) (st : List MV) (μ : MM) (G : MG) : ev 170 22 [a0, some (vI x), a2, a3, a4] st μ G = ev 170 23 [a0, some (vI x), a2, a3, a4] (vI x :: st) μ G := ev_stp pg_170_22 rfl
theorem pg_170_23 : mm_prog 170 23 = some (0, .if_icmp .ne 37, 26, []) := by decide +kernel
theorem xe_170_23 (a0 a1 a2 a3 a4 : Option MV) (x y : Int) (st : List MV) (μ : MM) (G : MG) : ev 170 23 [a0, a1, a2, a3, a4] (vI y :: vI x :: st) μ G = if ¬ x = y then ev 170 60 [a0, a1, a2, a3, a4] st μ G else ev 170 26 [a0, a1, a2, a3, a4] st μ G := ev_br (mm_cnd_ne x y) pg_170_23 rfl
theorem pg_170_26 : mm_prog 170 26 = some (0, .aload_n 0, 27, []) := by decide +kernel
theorem xe_170_26 (a1 a2 a3 a4 : Option MV) (x : Int) (st : List MV) (μ : MM) (G : MG) : ev 170 26 [some (vR x), a1, a2, a3, a4] st μ G = ev 170 27 [some (vR x), a1, a2, a3, a4] (vR x :: st) μ G := ev_stp pg_170_26 rfl
theorem pg_170_27 : mm_prog 170 27 = some (0, .getfield 38, 30, [11, 20, 2]) := by decide +kernel
theorem xe_170_27 (a0 a1 a2 a3 a4 : Option MV) (x : Int) (st : List MV) (μ : MM) (G : MG) : ev 170 27 [a0, a1, a2, a3, a4] (vR x :: st) μ G = if gk G x = 11 then ev 170 30 [a0, a1, a2, a3, a4] (vR (μ x 20) :: st) μ G else none := ev_if pg_170_27 rfl
theorem pg_170_30 : mm_prog 170 30 = some (0, .bipush 12, 32, []) := by decide +kernel
theorem xe_170_30 (a0 a1 a2 a3 a4 : Option MV) (st : List MV) (μ : MM) (G : MG) : ev 170 30 [a0, a1, a2, a3, a4] st μ G = ev 170 32 [a0, a1, a2, a3, a4] (vI (12) :: st) μ G := ev_stp pg_170_30 rfl
theorem pg_170_32 : mm_prog 170 32 = some (0, .iload 4, 34, []) := by decide +kernel
theorem xe_170_32 (a0 a1 a2 a3 : Option MV) (x : Int) (st : List MV) (μ : MM) (G : MG) : ev 170 32 [a0, a1, a2, a3, some (vI x)] st μ G = ev 170 34 [a0, a1, a2, a3, some (vI x)] (vI x :: st) μ G := ev_stp pg_170_32 rfl
theorem pg_170_34 : mm_prog 170 34 = some (0, .imul, 35, []) := by decide +kernel
theorem xe_170_34 (a0 a1 a2 a3 a4 : Option MV) (x y : Int) (st : List MV) (μ : MM) (G : MG) : ev 170 34 [a0, a1, a2, a3, a4] (vI y :: vI x :: st) μ G = ev 170 35 [a0, a1, a2, a3, a4] (vI (w32 (x * y)) :: st) μ G := ev_stp pg_170_34 rfl
theorem pg_170_35 : mm_prog 170 35 = some (0, .iconst 1, 36, []) := by decide +kernel
theorem xe_170_35 (a0 a1 a2 a3 a4 : Option MV) (st : List MV) (μ : MM) (G : MG) : ev 170 35 [a0, a1, a2, a3, a4] st μ G = ev 170 36 [a0, a1, a2, a3, a4] (vI (1) :: st) μ G := ev_stp pg_170_35 rfl
theorem pg_170_36 : mm_prog 170 36 = some (0, .iadd, 37, []) := by decide +kernel
theorem xe_170_36 (a0 a1 a2 a3 a4 : Option MV) (x y : Int) (st : List MV) (μ : MM) (G : MG) : ev 170 36 [a0, a1, a2, a3, a4] (vI y :: vI x :: st) μ G = ev 170 37 [a0, a1, a2, a3, a4] (vI (w32 (x + y)) :: st) μ G := ev_stp pg_170_36 rfl
theorem pg_170_37 : mm_prog 170 37 = some (0, .iaload, 38, []) := by decide +kernel
theorem xe_170_37 (a0 a1 a2 a3 a4 : Option MV) (x y : Int) (st : List MV) (μ : MM) (G : MG) : ev 170 37 [a0, a1, a2, a3, a4] (vI x :: vR y :: st) μ G = if gk G y = 100 ∧ 0 ≤ x ∧ x < gl G y then ev 170 38 [a0, a1, a2, a3, a4] (vI (μ y x) :: st) μ G else none := ev_if pg_170_37 rfl
theorem pg_170_38 : mm_prog 170 38 = some (0, .iload_n 2, 39, []) := by decide +kernel
theorem xe_170_38 (a0 a1 a3 a4 : Option MV) (x : Int) (st : List MV) (μ : MM) (G : MG) : ev 170 38 [a0, a1, some (vI x), a3, a4] st μ G = ev 170 39 [a0, a1, some (vI x), a3, a4] (vI x :: st) μ G := ev_stp pg_170_38 rfl
theorem pg_170_39 : mm_prog 170 39 = some (0, .if_icmp .ne 21, 42, []) := by decide +kernel
theorem xe_170_39 (a0 a1 a2 a3 a4 : Option MV) (x y : Int) (st : List MV) (μ : MM) (G : MG) : ev 170 39 [a0, a1, a2, a3, a4] (vI y :: vI x :: st) μ G = if ¬ x = y then ev 170 60 [a0, a1, a2, a3, a4] st μ G else ev 170 42 [a0, a1, a2, a3, a4] st μ G := ev_br (mm_cnd_ne x y) pg_170_39 rfl
theorem pg_170_42 : mm_prog 170 42 = some (0, .aload_n 0, 43, []) := by decide +kernel
theorem xe_170_42 (a1 a2 a3 a4 : Option MV) (x : Int) (st : List MV) (μ : MM) (G : MG) : ev 170 42 [some (vR x), a1, a2, a3, a4] st μ G = ev 170 43 [some (vR x), a1, a2, a3, a4] (vR x :: st) μ G := ev_stp pg_170_42 rfl
theorem pg_170_43 : mm_prog 170 43 = some (0, .getfield 38, 46, [11, 20, 2]) := by decide +kernel
theorem xe_170_43 (a0 a1 a2 a3 a4 : Option MV) (x : Int) (st : List MV) (μ : MM) (G : MG) : ev 170 43 [a0, a1, a2, a3, a4] (vR x :: st) μ G = if gk G x = 11 then ev 170 46 [a0, a1, a2, a3, a4] (vR (μ x 20) :: st) μ G else none := ev_if pg_170_43 rfl
theorem pg_170_46 : mm_prog 170 46 = some (0, .bipush 12, 48, []) := by decide +kernel
theorem xe_170_46 (a0 a1 a2 a3 a4 : Option MV) (st : List MV) (μ : MM) (G : MG) : ev 170 46 [a0, a1, a2, a3, a4] st μ G = ev 170 48 [a0, a1, a2, a3, a4] (vI (12) :: st) μ G := ev_stp pg_170_46 rfl
theorem pg_170_48 : mm_prog 170 48 = some (0, .iload 4, 50, []) := by decide +kernel
theorem xe_170_48 (a0 a1 a2 a3 : Option MV) (x : Int) (st : List MV) (μ : MM) (G : MG) : ev 170 48 [a0, a1, a2, a3, some (vI x)] st μ G = ev 170 50 [a0, a1, a2, a3, some (vI x)] (vI x :: st) μ G := ev_stp pg_170_48 rfl
theorem pg_170_50 : mm_prog 170 50 = some (0, .imul, 51, []) := by decide +kernel
theorem xe_170_50 (a0 a1 a2 a3 a4 : Option MV) (x y : Int) (st : List MV) (μ : MM) (G : MG) : ev 170 50 [a0, a1, a2, a3, a4] (vI y :: vI x :: st) μ G = ev 170 51 [a0, a1, a2, a3, a4] (vI (w32 (x * y)) :: st) μ G := ev_stp pg_170_50 rfl
theorem pg_170_51 : mm_prog 170 51 = some (0, .iconst 2, 52, []) := by decide +kernel
theorem xe_170_51 (a0 a1 a2 a3 a4 : Option MV) (st : List MV) (μ : MM) (G : MG) : ev 170 51 [a0, a1, a2, a3, a4] st μ G = ev 170 52 [a0, a1, a2, a3, a4] (vI (2) :: st) μ G := ev_stp pg_170_51 rfl
theorem pg_170_52 : mm_prog 170 52 = some (0, .iadd, 53, []) := by decide +kernel
theorem xe_170_52 (a0 a1 a2 a3 a4 : Option MV) (x y : Int) (st : List MV) (μ : MM) (G : MG) : ev 170 52 [a0, a1, a2, a3, a4] (vI y :: vI x :: st) μ G = ev 170 53 [a0, a1, a2, a3, a4] (vI (w32 (x + y)) :: st) μ G := ev_stp pg_170_52 rfl
theorem pg_170_53 : mm_prog 170 53 = some (0, .iaload, 54, []) := by decide +kernel
theorem xe_170_53 (a0 a1 a2 a3 a4 : Option MV) (x y : Int) (st : List MV) (μ : MM) (G : MG) : ev 170 53 [a0, a1, a2, a3, a4] (vI x :: vR y :: st) μ G = if gk G y = 100 ∧ 0 ≤ x ∧ x < gl G y then ev 170 54 [a0, a1, a2, a3, a4] (vI (μ y x) :: st) μ G else none := ev_if pg_170_53 rfl
theorem pg_170_54 : mm_prog 170 54 = some (0, .iload_n 3, 55, []) := by decide +kernel
theorem xe_170_54 (a0 a1 a2 a4 : Option MV) (x : Int) (st : List MV) (μ : MM) (G : MG) : ev 170 54 [a0, a1, a2, some (vI x), a4] st μ G = ev 170 55 [a0, a1, a2, some (vI x), a4] (vI x :: st) μ G := ev_stp pg_170_54 rfl
theorem pg_170_55 : mm_prog 170 55 = some (0, .if_icmp .ne 5, 58, []) := by decide +kernel
theorem xe_170_55 (a0 a1 a2 a3 a4 : Option MV) (x y : Int) (st : List MV) (μ : MM) (G : MG) : ev 170 55 [a0, a1, a2, a3, a4] (vI y :: vI x :: st) μ G = if ¬ x = y then ev 170 60 [a0, a1, a2, a3, a4] st μ G else ev 170 58 [a0, a1, a2, a3, a4] st μ G := ev_br (mm_cnd_ne x y) pg_170_55 rfl
theorem pg_170_58 : mm_prog 170 58 = some (0, .iconst 1, 59, []) := by decide +kernel
theorem xe_170_58 (a0 a1 a2 a3 a4 : Option MV) (st : List MV) (μ : MM) (G : MG) : ev 170 58 [a0, a1, a2, a3, a4] st μ G = ev 170 59 [a0, a1, a2, a3, a4] (vI (1) :: st) μ G := ev_stp pg_170_58 rfl
theorem pg_170_59 : mm_prog 170 59 = some (2, .ireturn, 60, [1]) := by decide +kernel
theorem xe_170_59 (a0 a1 a2 a3 a4 : Option MV) (x : Int) (μ : MM) (G : MG) : ev 170 59 [a0, a1, a2, a3, a4] [vI x] μ G = if x = 0 ∨ x = 1 then some (some (vI x), μ, G) else none := ev_retB pg_170_59
theorem pg_170_60 : mm_prog 170 60 = some (0, .iinc 4 1, 63, []) := by decide +kernel
theorem xe_170_60 (a0 a1 a2 a3 : Option MV) (x : Int) (st : List MV) (μ : MM) (G : MG) (h : mm_nL a3 = true) : ev 170 60 [a0, a1, a2, a3, some (vI x)] st μ G = ev 170 63 [a0, a1, a2, a3, some (vI (w32 (x + (1))))] st μ G := ev_st pg_170_60 rfl (mm_nl_of h) (Nat.le_of_ble_eq_true rfl)
theorem pg_170_63 : mm_prog 170 63 = some (0, .goto (-60), 66, []) := by decide +kernel
theorem xe_170_63 (a0 a1 a2 a3 a4 : Option MV) (st : List MV) (μ : MM) (G : MG) : ev 170 63 [a0, a1, a2, a3, a4] st μ G = ev 170 3 [a0, a1, a2, a3, a4] st μ G := ev_stp pg_170_63 rfl
theorem pg_170_66 : mm_prog 170 66 = some (0, .iconst 0, 67, []) := by decide +kernel
theorem xe_170_66 (a0 a1 a2 a3 a4 : Option MV) (st : List MV) (μ : MM) (G : MG) : ev 170 66 [a0, a1, a2, a3, a4] st μ G = ev 170 67 [a0, a1, a2, a3, a4] (vI (0) :: st) μ G := ev_stp pg_170_66 rfl
theorem pg_170_67 : mm_prog 170 67 = some (2, .ireturn, 68, [1]) := by decide +kernel
theorem xe_170_67 (a0 a1 a2 a3 a4 : Option MV) (x : Int) (μ : MM) (G : MG) : ev 170 67 [a0, a1, a2, a3, a4] [vI x] μ G = if x = 0 ∨ x = 1 then some (some (vI x), μ, G) else none := ev_retB pg_170_67
-- X11_offers
theorem pg_171_0 : mm_prog 171 0 = some (0, .iload_n 3, 1, []) := by decide +kernel
theorem xe_171_0 (a0 a1 a2 a4 a5 a6 a7 a8 a9 a10 : Option MV) (x : Int) (st : List MV) (μ : MM) (G : MG) : ev 171 0 [a0, a1, a2, some (vI x), a4, a5, a6, a7, a8, a9, a10] st μ G = ev 171 1 [a0, a1, a2, some (vI x), a4, a5, a6, a7, a8, a9, a10] (vI x :: st) μ G := ev_stp pg_171_0 rfl
theorem pg_171_1 : mm_prog 171 1 = some (0, .iload 4, 3, []) := by decide +kernel
theorem xe_171_1 (a0 a1 a2 a3 a5 a6 a7 a8 a9 a10 : Option MV) (x : Int) (st : List MV) (μ : MM) (G : MG) : ev 171 1 [a0, a1, a2, a3, some (vI x), a5, a6, a7, a8, a9, a10] st μ G = ev 171 3 [a0, a1, a2, a3, some (vI x), a5, a6, a7, a8, a9, a10] (vI x :: st) μ G := ev_stp pg_171_1 rfl
theorem pg_171_3 : mm_prog 171 3 = some (0, .iload 5, 5, []) := by decide +kernel
theorem xe_171_3 (a0 a1 a2 a3 a4 a6 a7 a8 a9 a10 : Option MV) (x : Int) (st : List MV) (μ : MM) (G : MG) : ev 171 3 [a0, a1, a2, a3, a4, some (vI x), a6, a7, a8, a9, a10] st μ G = ev 171 5 [a0, a1, a2, a3, a4, some (vI x), a6, a7, a8, a9, a10] (vI x :: st) μ G := ev_stp pg_171_3 rfl
theorem pg_171_5 : mm_prog 171 5 = some (0, .imul, 6, []) := by decide +kernel
theorem xe_171_5 (a0 a1 a2 a3 a4 a5 a6 a7 a8 a9 a10 : Option MV) (x y : Int) (st : List MV) (μ : MM) (G : MG) : ev 171 5 [a0, a1, a2, a3, a4, a5, a6, a7, a8, a9, a10] (vI y :: vI x :: st) μ G = ev 171 6 [a0, a1, a2, a3, a4, a5, a6, a7, a8, a9, a10] (vI (w32 (x * y)) :: st) μ G := ev_stp pg_171_5 rfl
theorem pg_171_6 : mm_prog 171 6 = some (1, .invokestatic 186, 9, [0, 167, 2, 0]) := by decide +kernel
theorem xe_171_6 (a0 a1 a2 a3 a4 a5 a6 a7 a8 a9 a10 : Option MV) (x0 x1 : Int) (μ : MM) (G : MG) : ev 171 6 [a0, a1, a2, a3, a4, a5, a6, a7, a8, a9, a10] (vI x1 :: vI x0 :: []) μ G = (ev 167 0 [some (vI x0), some (vI x1)] [] μ G).bind (fun q => ev 171 9 [a0, a1, a2, a3, a4, a5, a6, a7, a8, a9, a10] (q.1.toList ++ []) q.2.1 q.2.2) := ev_calS (as := [vI x0, vI x1]) (r := []) mx_167 pg_171_6 rfl rfl (Nat.le_of_ble_eq_true rfl) (Nat.le_of_ble_eq_true rfl)
theorem pg_171_9 : mm_prog 171 9 = some (0, .istore 7, 11, []) := by decide +kernel
theorem xe_171_9 (a0 a1 a2 a3 a4 a5 a6 a7 a8 a9 a10 : Option MV) (x : Int) (st : List MV) (μ : MM) (G : MG) (h : mm_nL a6 = true) : ev 171 9 [a0, a1, a2, a3, a4, a5, a6, a7, a8, a9, a10] (vI x :: st) μ G = ev 171 11 [a0, a1, a2, a3, a4, a5, a6, some (vI x), a8, a9, a10] st μ G := ev_st pg_171_9 rfl (mm_nl_of h) (Nat.le_of_ble_eq_true rfl)
theorem pg_171_11 : mm_prog 171 11 = some (0, .aload_n 0, 12, []) := by decide +kernel
theorem xe_171_11 (a1 a2 a3 a4 a5 a6 a7 a8 a9 a10 : Option MV) (x : Int) (st : List MV) (μ : MM) (G : MG) : ev 171 11 [some (vR x), a1, a2, a3, a4, a5, a6, a7, a8, a9, a10] st μ G = ev 171 12 [some (vR x), a1, a2, a3, a4, a5, a6, a7, a8, a9, a10] (vR x :: st) μ G := ev_stp pg_171_11 rfl
theorem pg_171_12 : mm_prog 171 12 = some (0, .iload 7, 14, []) := by decide +kernel
theorem xe_171_12 (a0 a1 a2 a3 a4 a5 a6 a8 a9 a10 : Option MV) (x : Int) (st : List MV) (μ : MM) (G : MG) : ev 171 12 [a0, a1, a2, a3, a4, a5, a6, some (vI x), a8, a9, a10] st μ G = ev 171 14 [a0, a1, a2, a3, a4, a5, a6, some (vI x), a8, a9, a10] (vI x :: st) μ G := ev_stp pg_171_12 rfl
theorem pg_171_14 : mm_prog 171 14 = some (0, .iload_n 3, 15, []) := by decide +kernel
theorem xe_171_14 (a0 a1 a2 a4 a5 a6 a7 a8 a9 a10 : Option MV) (x : Int) (st : List MV) (μ : MM) (G : MG) : ev 171 14 [a0, a1, a2, some (vI x), a4, a5, a6, a7, a8, a9, a10] st μ G = ev 171 15 [a0, a1, a2, some (vI x), a4, a5, a6, a7, a8, a9, a10] (vI x :: st) μ G := ev_stp pg_171_14 rfl
theorem pg_171_15 : mm_prog 171 15 = some (0, .iload 4, 17, []) := by decide +kernel
theorem xe_171_15 (a0 a1 a2 a3 a5 a6 a7 a8 a9 a10 : Option MV) (x : Int) (st : List MV) (μ : MM) (G : MG) : ev 171 15 [a0, a1, a2, a3, some (vI x), a5, a6, a7, a8, a9, a10] st μ G = ev 171 17 [a0, a1, a2, a3, some (vI x), a5, a6, a7, a8, a9, a10] (vI x :: st) μ G := ev_stp pg_171_15 rfl
theorem pg_171_17 : mm_prog 171 17 = some (1, .invokevirtual 190, 20, [1, 169, 3, 11]) := by decide +kernel
theorem xe_171_17 (a0 a1 a2 a3 a4 a5 a6 a7 a8 a9 a10 : Option MV) (x0 x1 x2 z : Int) (μ : MM) (G : MG) : ev 171 17 [a0, a1, a2, a3, a4, a5, a6, a7, a8, a9, a10] (vI x2 :: vI x1 :: vI x0 :: vR z :: []) μ G = if gk G z = 11 ∧ 0 < z then (ev 169 0 [some (vR z), some (vI x0), some (vI x1), some (vI x2)] [] μ G).bind (fun q => ev 171 20 [a0, a1, a2, a3, a4, a5, a6, a7, a8, a9, a10] (q.1.toList ++ []) q.2.1 q.2.2) else none := ev_calV (as := [vR z, vI x0, vI x1, vI x2]) (r := []) mx_169 pg_171_17 rfl rfl (Nat.le_of_ble_eq_true rfl) (Nat.le_of_ble_eq_true rfl)
theorem pg_171_20 : mm_prog 171 20 = some (0, .ifCond .eq 7, 23, []) := by decide +kernel
theorem xe_171_20 (a0 a1 a2 a3 a4 a5 a6 a7 a8 a9 a10 : Option MV) (x : Int) (st : List MV) (μ : MM) (G : MG) : ev 171 20 [a0, a1, a2, a3, a4, a5, a6, a7, a8, a9, a10] (vI x :: st) μ G = if x = 0 then ev 171 27 [a0, a1, a2, a3, a4, a5, a6, a7, a8, a9, a10] st μ G else ev 171 23 [a0, a1, a2, a3, a4, a5, a6, a7, a8, a9, a10] st μ G := ev_br (mm_cnd_eq x 0) pg_171_20 rfl
theorem pg_171_23 : mm_prog 171 23 = some (0, .iconst 3, 24, []) := by decide +kernel
theorem xe_171_23 (a0 a1 a2 a3 a4 a5 a6 a7 a8 a9 a10 : Option MV) (st : List MV) (μ : MM) (G : MG) : ev 171 23 [a0, a1, a2, a3, a4, a5, a6, a7, a8, a9, a10] st μ G = ev 171 24 [a0, a1, a2, a3, a4, a5, a6, a7, a8, a9, a10] (vI (3) :: st) μ G := ev_stp pg_171_23 rfl
theorem pg_171_24 : mm_prog 171 24 = some (0, .goto 52, 27, []) := by decide +kernel
theorem xe_171_24 (a0 a1 a2 a3 a4 a5 a6 a7 a8 a9 a10 : Option MV) (st : List MV) (μ : MM) (G : MG) : ev 171 24 [a0, a1, a2, a3, a4, a5, a6, a7, a8, a9, a10] st μ G = ev 171 76 [a0, a1, a2, a3, a4, a5, a6, a7, a8, a9, a10] st μ G := ev_stp pg_171_24 rfl
theorem pg_171_27 : mm_prog 171 27 = some (0, .aload_n 0, 28, []) := by decide +kernel
theorem xe_171_27 (a1 a2 a3 a4 a5 a6 a7 a8 a9 a10 : Option MV) (x : Int) (st : List MV) (μ : MM) (G : MG) : ev 171 27 [some (vR x), a1, a2, a3, a4, a5, a6, a7, a8, a9, a10] st μ G = ev 171 28 [some (vR x), a1, a2, a3, a4, a5, a6, a7, a8, a9, a10] (vR x :: st) μ G := ev_stp pg_171_27 rfl
theorem pg_171_28 : mm_prog 171 28 = some (0, .getfield 164, 31, [11, 15, 0]) := by decide +kernel
theorem xe_171_28 (a0 a1 a2 a3 a4 a5 a6 a7 a8 a9 a10 : Option MV) (x : Int) (st : List MV) (μ : MM) (G : MG) : ev 171 28 [a0, a1, a2, a3, a4, a5, a6, a7, a8, a9, a10] (vR x :: st) μ G = if gk G x = 11 then ev 171 31 [a0, a1, a2, a3, a4, a5, a6, a7, a8, a9, a10] (vI (μ x 15) :: st) μ G else none := ev_if pg_171_28 rfl
theorem pg_171_31 : mm_prog 171 31 = some (0, .ifCond .le 15, 34, []) := by decide +kernel
theorem xe_171_31 (a0 a1 a2 a3 a4 a5 a6 a7 a8 a9 a10 : Option MV) (x : Int) (st : List MV) (μ : MM) (G : MG) : ev 171 31 [a0, a1, a2, a3, a4, a5, a6, a7, a8, a9, a10] (vI x :: st) μ G = if x ≤ 0 then ev 171 46 [a0, a1, a2, a3, a4, a5, a6, a7, a8, a9, a10] st μ G else ev 171 34 [a0, a1, a2, a3, a4, a5, a6, a7, a8, a9, a10] st μ G := ev_br (mm_cnd_le x 0) pg_171_31 rfl
theorem pg_171_34 : mm_prog 171 34 = some (0, .iload_n 3, 35, []) := by decide +kernel
theorem xe_171_34 (a0 a1 a2 a4 a5 a6 a7 a8 a9 a10 : Option MV) (x : Int) (st : List MV) (μ : MM) (G : MG) : ev 171 34 [a0, a1, a2, some (vI x), a4, a5, a6, a7, a8, a9, a10] st μ G = ev 171 35 [a0, a1, a2, some (vI x), a4, a5, a6, a7, a8, a9, a10] (vI x :: st) μ G := ev_stp pg_171_34 rfl
theorem pg_171_35 : mm_prog 171 35 = some (0, .aload_n 0, 36, []) := by decide +kernel
theorem xe_171_35 (a1 a2 a3 a4 a5 a6 a7 a8 a9 a10 : Option MV) (x : Int) (st : List MV) (μ : MM) (G : MG) : ev 171 35 [some (vR x), a1, a2, a3, a4, a5, a6, a7, a8, a9, a10] st μ G = ev 171 36 [some (vR x), a1, a2, a3, a4, a5, a6, a7, a8, a9, a10] (vR x :: st) μ G := ev_stp pg_171_35 rfl
theorem pg_171_36 : mm_prog 171 36 = some (0, .getfield 164, 39, [11, 15, 0]) := by decide +kernel
theorem xe_171_36 (a0 a1 a2 a3 a4 a5 a6 a7 a8 a9 a10 : Option MV) (x : Int) (st : List MV) (μ : MM) (G : MG) : ev 171 36 [a0, a1, a2, a3, a4, a5, a6, a7, a8, a9, a10] (vR x :: st) μ G = if gk G x = 11 then ev 171 39 [a0, a1, a2, a3, a4, a5, a6, a7, a8, a9, a10] (vI (μ x 15) :: st) μ G else none := ev_if pg_171_36 rfl
theorem pg_171_39 : mm_prog 171 39 = some (0, .if_icmp .le 7, 42, []) := by decide +kernel
theorem xe_171_39 (a0 a1 a2 a3 a4 a5 a6 a7 a8 a9 a10 : Option MV) (x y : Int) (st : List MV) (μ : MM) (G : MG) : ev 171 39 [a0, a1, a2, a3, a4, a5, a6, a7, a8, a9, a10] (vI y :: vI x :: st) μ G = if x ≤ y then ev 171 46 [a0, a1, a2, a3, a4, a5, a6, a7, a8, a9, a10] st μ G else ev 171 42 [a0, a1, a2, a3, a4, a5, a6, a7, a8, a9, a10] st μ G := ev_br (mm_cnd_le x y) pg_171_39 rfl
theorem pg_171_42 : mm_prog 171 42 = some (0, .iconst 4, 43, []) := by decide +kernel
theorem xe_171_42 (a0 a1 a2 a3 a4 a5 a6 a7 a8 a9 a10 : Option MV) (st : List MV) (μ : MM) (G : MG) : ev 171 42 [a0, a1, a2, a3, a4, a5, a6, a7, a8, a9, a10] st μ G = ev 171 43 [a0, a1, a2, a3, a4, a5, a6, a7, a8, a9, a10] (vI (4) :: st) μ G := ev_stp pg_171_42 rfl
theorem pg_171_43 : mm_prog 171 43 = some (0, .goto 33, 46, []) := by decide +kernel
theorem xe_171_43 (a0 a1 a2 a3 a4 a5 a6 a7 a8 a9 a10 : Option MV) (st : List MV) (μ : MM) (G : MG) : ev 171 43 [a0, a1, a2, a3, a4, a5, a6, a7, a8, a9, a10] st μ G = ev 171 76 [a0, a1, a2, a3, a4, a5, a6, a7, a8, a9, a10] st μ G := ev_stp pg_171_43 rfl
theorem pg_171_46 : mm_prog 171 46 = some (0, .aload_n 0, 47, []) := by decide +kernel
theorem xe_171_46 (a1 a2 a3 a4 a5 a6 a7 a8 a9 a10 : Option MV) (x : Int) (st : List MV) (μ : MM) (G : MG) : ev 171 46 [some (vR x), a1, a2, a3, a4, a5, a6, a7, a8, a9, a10] st μ G = ev 171 47 [some (vR x), a1, a2, a3, a4, a5, a6, a7, a8, a9, a10] (vR x :: st) μ G := ev_stp pg_171_46 rfl
theorem pg_171_47 : mm_prog 171 47 = some (0, .iload_n 1, 48, []) := by decide +kernel
theorem xe_171_47 (a0 a2 a3 a4 a5 a6 a7 a8 a9 a10 : Option MV) (x : Int) (st : List MV) (μ : MM) (G : MG) : ev 171 47 [a0, some (vI x), a2, a3, a4, a5, a6, a7, a8, a9, a10] st μ G = ev 171 48 [a0, some (vI x), a2, a3, a4, a5, a6, a7, a8, a9, a10] (vI x :: st) μ G := ev_stp pg_171_47 rfl
theorem pg_171_48 : mm_prog 171 48 = some (0, .iload_n 2, 49, []) := by decide +kernel
theorem xe_171_48 (a0 a1 a3 a4 a5 a6 a7 a8 a9 a10 : Option MV) (x : Int) (st : List MV) (μ : MM) (G : MG) : ev 171 48 [a0, a1, some (vI x), a3, a4, a5, a6, a7, a8, a9, a10] st μ G = ev 171 49 [a0, a1, some (vI x), a3, a4, a5, a6, a7, a8, a9, a10] (vI x :: st) μ G := ev_stp pg_171_48 rfl
theorem pg_171_49 : mm_prog 171 49 = some (0, .iload 7, 51, []) := by decide +kernel
theorem xe_171_49 (a0 a1 a2 a3 a4 a5 a6 a8 a9 a10 : Option MV) (x : Int) (st : List MV) (μ : MM) (G : MG) : ev 171 49 [a0, a1, a2, a3, a4, a5, a6, some (vI x), a8, a9, a10] st μ G = ev 171 51 [a0, a1, a2, a3, a4, a5, a6, some (vI x), a8, a9, a10] (vI x :: st) μ G := ev_stp pg_171_49 rfl
theorem pg_171_51 : mm_prog 171 51 = some (1, .invokevirtual 194, 54, [1, 170, 3, 11]) := by decide +kernel
theorem xe_171_51 (a0 a1 a2 a3 a4 a5 a6 a7 a8 a9 a10 : Option MV) (x0 x1 x2 z : Int) (μ : MM) (G : MG) : ev 171 51 [a0, a1, a2, a3, a4, a5, a6, a7, a8, a9, a10] (vI x2 :: vI x1 :: vI x0 :: vR z :: []) μ G = if gk G z = 11 ∧ 0 < z then (ev 170 0 [some (vR z), some (vI x0), some (vI x1), some (vI x2), none] [] μ G).bind (fun q => ev 171 54 [a0, a1, a2, a3, a4, a5, a6, a7, a8, a9, a10] (q.1.toList ++ []) q.2.1 q.2.2) else none := ev_calV (as := [vR z, vI x0, vI x1, vI x2]) (r := []) mx_170 pg_171_51 rfl rfl (Nat.le_of_ble_eq_true rfl) (Nat.le_of_ble_eq_true rfl)
theorem pg_171_54 : mm_prog 171 54 = some (0, .ifCond .eq 7, 57, []) := by decide +kernel
theorem xe_171_54 (a0 a1 a2 a3 a4 a5 a6 a7 a8 a9 a10 : Option MV) (x : Int) (st : List MV) (μ : MM) (G : MG) : ev 171 54 [a0, a1, a2, a3, a4, a5, a6, a7, a8, a9, a10] (vI x :: st) μ G = if x = 0 then ev 171 61 [a0, a1, a2, a3, a4, a5, a6, a7, a8, a9, a10] st μ G else ev 171 57 [a0, a1, a2, a3, a4, a5, a6, a7, a8, a9, a10] st μ G := ev_br (mm_cnd_eq x 0) pg_171_54 rfl
theorem pg_171_57 : mm_prog 171 57 = some (0, .iconst 5, 58, []) := by decide +kernel
theorem xe_171_57 (a0 a1 a2 a3 a4 a5 a6 a7 a8 a9 a10 : Option MV) (st : List MV) (μ : MM) (G : MG) : ev 171 57 [a0, a1, a2, a3, a4, a5, a6, a7, a8, a9, a10] st μ G = ev 171 58 [a0, a1, a2, a3, a4, a5, a6, a7, a8, a9, a10] (vI (5) :: st) μ G := ev_stp pg_171_57 rfl
theorem pg_171_58 : mm_prog 171 58 = some (0, .goto 18, 61, []) := by decide +kernel
theorem xe_171_58 (a0 a1 a2 a3 a4 a5 a6 a7 a8 a9 a10 : Option MV) (st : List MV) (μ : MM) (G : MG) : ev 171 58 [a0, a1, a2, a3, a4, a5, a6, a7, a8, a9, a10] st μ G = ev 171 76 [a0, a1, a2, a3, a4, a5, a6, a7, a8, a9, a10] st μ G := ev_stp pg_171_58 rfl
theorem pg_171_61 : mm_prog 171 61 = some (0, .aload_n 0, 62, []) := by decide +kernel
theorem xe_171_61 (a1 a2 a3 a4 a5 a6 a7 a8 a9 a10 : Option MV) (x : Int) (st : List MV) (μ : MM) (G : MG) : ev 171 61 [some (vR x), a1, a2, a3, a4, a5, a6, a7, a8, a9, a10] st μ G = ev 171 62 [some (vR x), a1, a2, a3, a4, a5, a6, a7, a8, a9, a10] (vR x :: st) μ G := ev_stp pg_171_61 rfl
theorem pg_171_62 : mm_prog 171 62 = some (0, .getfield 134, 65, [11, 23, 0]) := by decide +kernel
theorem xe_171_62 (a0 a1 a2 a3 a4 a5 a6 a7 a8 a9 a10 : Option MV) (x : Int) (st : List MV) (μ : MM) (G : MG) : ev 171 62 [a0, a1, a2, a3, a4, a5, a6, a7, a8, a9, a10] (vR x :: st) μ G = if gk G x = 11 then ev 171 65 [a0, a1, a2, a3, a4, a5, a6, a7, a8, a9, a10] (vI (μ x 23) :: st) μ G else none := ev_if pg_171_62 rfl
theorem pg_171_65 : mm_prog 171 65 = some (0, .bipush 40, 67, []) := by decide +kernel
theorem xe_171_65 (a0 a1 a2 a3 a4 a5 a6 a7 a8 a9 a10 : Option MV) (st : List MV) (μ : MM) (G : MG) : ev 171 65 [a0, a1, a2, a3, a4, a5, a6, a7, a8, a9, a10] st μ G = ev 171 67 [a0, a1, a2, a3, a4, a5, a6, a7, a8, a9, a10] (vI (40) :: st) μ G := ev_stp pg_171_65 rfl
theorem pg_171_67 : mm_prog 171 67 = some (0, .if_icmp .ne 8, 70, []) := by decide +kernel
theorem xe_171_67 (a0 a1 a2 a3 a4 a5 a6 a7 a8 a9 a10 : Option MV) (x y : Int) (st : List MV) (μ : MM) (G : MG) : ev 171 67 [a0, a1, a2, a3, a4, a5, a6, a7, a8, a9, a10] (vI y :: vI x :: st) μ G = if ¬ x = y then ev 171 75 [a0, a1, a2, a3, a4, a5, a6, a7, a8, a9, a10] st μ G else ev 171 70 [a0, a1, a2, a3, a4, a5, a6, a7, a8, a9, a10] st μ G := ev_br (mm_cnd_ne x y) pg_171_67 rfl
theorem pg_171_70 : mm_prog 171 70 = some (0, .bipush 6, 72, []) := by decide +kernel
theorem xe_171_70 (a0 a1 a2 a3 a4 a5 a6 a7 a8 a9 a10 : Option MV) (st : List MV) (μ : MM) (G : MG) : ev 171 70 [a0, a1, a2, a3, a4, a5, a6, a7, a8, a9, a10] st μ G = ev 171 72 [a0, a1, a2, a3, a4, a5, a6, a7, a8, a9, a10] (vI (6) :: st) μ G := ev_stp pg_171_70 rfl
theorem pg_171_72 : mm_prog 171 72 = some (0, .goto 4, 75, []) := by decide +kernel
theorem xe_171_72 (a0 a1 a2 a3 a4 a5 a6 a7 a8 a9 a10 : Option MV) (st : List MV) (μ : MM) (G : MG) : ev 171 72 [a0, a1, a2, a3, a4, a5, a6, a7, a8, a9, a10] st μ G = ev 171 76 [a0, a1, a2, a3, a4, a5, a6, a7, a8, a9, a10] st μ G := ev_stp pg_171_72 rfl
theorem pg_171_75 : mm_prog 171 75 = some (0, .iconst (-1), 76, []) := by decide +kernel
theorem xe_171_75 (a0 a1 a2 a3 a4 a5 a6 a7 a8 a9 a10 : Option MV) (st : List MV) (μ : MM) (G : MG) : ev 171 75 [a0, a1, a2, a3, a4, a5, a6, a7, a8, a9, a10] st μ G = ev 171 76 [a0, a1, a2, a3, a4, a5, a6, a7, a8, a9, a10] (vI (-1) :: st) μ G := ev_stp pg_171_75 rfl
theorem pg_171_76 : mm_prog 171 76 = some (0, .istore 8, 78, []) := by decide +kernel
theorem xe_171_76 (a0 a1 a2 a3 a4 a5 a6 a7 a8 a9 a10 : Option MV) (x : Int) (st : List MV) (μ : MM) (G : MG) (h : mm_nL a7 = true) : ev 171 76 [a0, a1, a2, a3, a4, a5, a6, a7, a8, a9, a10] (vI x :: st) μ G = ev 171 78 [a0, a1, a2, a3, a4, a5, a6, a7, some (vI x), a9, a10] st μ G := ev_st pg_171_76 rfl (mm_nl_of h) (Nat.le_of_ble_eq_true rfl)
theorem pg_171_78 : mm_prog 171 78 = some (0, .iload 8, 80, []) := by decide +kernel
theorem xe_171_78 (a0 a1 a2 a3 a4 a5 a6 a7 a9 a10 : Option MV) (x : Int) (st : List MV) (μ : MM) (G : MG) : ev 171 78 [a0, a1, a2, a3, a4, a5, a6, a7, some (vI x), a9, a10] st μ G = ev 171 80 [a0, a1, a2, a3, a4, a5, a6, a7, some (vI x), a9, a10] (vI x :: st) μ G := ev_stp pg_171_78 rfl
theorem pg_171_80 : mm_prog 171 80 = some (0, .iconst (-1), 81, []) := by decide +kernel
theorem xe_171_80 (a0 a1 a2 a3 a4 a5 a6 a7 a8 a9 a10 : Option MV) (st : List MV) (μ : MM) (G : MG) : ev 171 80 [a0, a1, a2, a3, a4, a5, a6, a7, a8, a9, a10] st μ G = ev 171 81 [a0, a1, a2, a3, a4, a5, a6, a7, a8, a9, a10] (vI (-1) :: st) μ G := ev_stp pg_171_80 rfl
theorem pg_171_81 : mm_prog 171 81 = some (0, .if_icmp .eq 16, 84, []) := by decide +kernel
theorem xe_171_81 (a0 a1 a2 a3 a4 a5 a6 a7 a8 a9 a10 : Option MV) (x y : Int) (st : List MV) (μ : MM) (G : MG) : ev 171 81 [a0, a1, a2, a3, a4, a5, a6, a7, a8, a9, a10] (vI y :: vI x :: st) μ G = if x = y then ev 171 97 [a0, a1, a2, a3, a4, a5, a6, a7, a8, a9, a10] st μ G else ev 171 84 [a0, a1, a2, a3, a4, a5, a6, a7, a8, a9, a10] st μ G := ev_br (mm_cnd_eq x y) pg_171_81 rfl
theorem pg_171_84 : mm_prog 171 84 = some (0, .aload_n 0, 85, []) := by decide +kernel
theorem xe_171_84 (a1 a2 a3 a4 a5 a6 a7 a8 a9 a10 : Option MV) (x : Int) (st : List MV) (μ : MM) (G : MG) : ev 171 84 [some (vR x), a1, a2, a3, a4, a5, a6, a7, a8, a9, a10] st μ G = ev 171 85 [some (vR x), a1, a2, a3, a4, a5, a6, a7, a8, a9, a10] (vR x :: st) μ G := ev_stp pg_171_84 rfl
theorem pg_171_85 : mm_prog 171 85 = some (0, .getfield 44, 88, [11, 22, 2]) := by decide +kernel
theorem xe_171_85 (a0 a1 a2 a3 a4 a5 a6 a7 a8 a9 a10 : Option MV) (x : Int) (st : List MV) (μ : MM) (G : MG) : ev 171 85 [a0, a1, a2, a3, a4, a5, a6, a7, a8, a9, a10] (vR x :: st) μ G = if gk G x = 11 then ev 171 88 [a0, a1, a2, a3, a4, a5, a6, a7, a8, a9, a10] (vR (μ x 22) :: st) μ G else none := ev_if pg_171_85 rfl
theorem pg_171_88 : mm_prog 171 88 = some (0, .iload 8, 90, []) := by decide +kernel
theorem xe_171_88 (a0 a1 a2 a3 a4 a5 a6 a7 a9 a10 : Option MV) (x : Int) (st : List MV) (μ : MM) (G : MG) : ev 171 88 [a0, a1, a2, a3, a4, a5, a6, a7, some (vI x), a9, a10] st μ G = ev 171 90 [a0, a1, a2, a3, a4, a5, a6, a7, some (vI x), a9, a10] (vI x :: st) μ G := ev_stp pg_171_88 rfl
theorem pg_171_90 : mm_prog 171 90 = some (0, .dup2, 91, []) := by decide +kernel
theorem xe_171_90 (a0 a1 a2 a3 a4 a5 a6 a7 a8 a9 a10 : Option MV) (x y : Int) (st : List MV) (μ : MM) (G : MG) : ev 171 90 [a0, a1, a2, a3, a4, a5, a6, a7, a8, a9, a10] (vI x :: vR y :: st) μ G = ev 171 91 [a0, a1, a2, a3, a4, a5, a6, a7, a8, a9, a10] (vI x :: vR y :: vI x :: vR y :: st) μ G := ev_stp pg_171_90 rfl
theorem pg_171_91 : mm_prog 171 91 = some (0, .iaload, 92, []) := by decide +kernel
theorem xe_171_91 (a0 a1 a2 a3 a4 a5 a6 a7 a8 a9 a10 : Option MV) (x y : Int) (st : List MV) (μ : MM) (G : MG) : ev 171 91 [a0, a1, a2, a3, a4, a5, a6, a7, a8, a9, a10] (vI x :: vR y :: st) μ G = if gk G y = 100 ∧ 0 ≤ x ∧ x < gl G y then ev 171 92 [a0, a1, a2, a3, a4, a5, a6, a7, a8, a9, a10] (vI (μ y x) :: st) μ G else none := ev_if pg_171_91 rfl
theorem pg_171_92 : mm_prog 171 92 = some (0, .iconst 1, 93, []) := by decide +kernel
theorem xe_171_92 (a0 a1 a2 a3 a4 a5 a6 a7 a8 a9 a10 : Option MV) (st : List MV) (μ : MM) (G : MG) : ev 171 92 [a0, a1, a2, a3, a4, a5, a6, a7, a8, a9, a10] st μ G = ev 171 93 [a0, a1, a2, a3, a4, a5, a6, a7, a8, a9, a10] (vI (1) :: st) μ G := ev_stp pg_171_92 rfl
theorem pg_171_93 : mm_prog 171 93 = some (0, .iadd, 94, []) := by decide +kernel
theorem xe_171_93 (a0 a1 a2 a3 a4 a5 a6 a7 a8 a9 a10 : Option MV) (x y : Int) (st : List MV) (μ : MM) (G : MG) : ev 171 93 [a0, a1, a2, a3, a4, a5, a6, a7, a8, a9, a10] (vI y :: vI x :: st) μ G = ev 171 94 [a0, a1, a2, a3, a4, a5, a6, a7, a8, a9, a10] (vI (w32 (x + y)) :: st) μ G := ev_stp pg_171_93 rfl
theorem pg_171_94 : mm_prog 171 94 = some (0, .iastore, 95, []) := by decide +kernel
theorem xe_171_94 (a0 a1 a2 a3 a4 a5 a6 a7 a8 a9 a10 : Option MV) (x y z : Int) (st : List MV) (μ : MM) (G : MG) : ev 171 94 [a0, a1, a2, a3, a4, a5, a6, a7, a8, a9, a10] (vI x :: vI y :: vR z :: st) μ G = if gk G z = 100 ∧ 0 ≤ y ∧ y < gl G z ∧ 10 ≤ z then ev 171 95 [a0, a1, a2, a3, a4, a5, a6, a7, a8, a9, a10] st (mset μ z y x) G else none := ev_if pg_171_94 rfl
theorem pg_171_95 : mm_prog 171 95 = some (0, .iconst 0, 96, []) := by decide +kernel
theorem xe_171_95 (a0 a1 a2 a3 a4 a5 a6 a7 a8 a9 a10 : Option MV) (st : List MV) (μ : MM) (G : MG) : ev 171 95 [a0, a1, a2, a3, a4, a5, a6, a7, a8, a9, a10] st μ G = ev 171 96 [a0, a1, a2, a3, a4, a5, a6, a7, a8, a9, a10] (vI (0) :: st) μ G := ev_stp pg_171_95 rfl
theorem pg_171_96 : mm_prog 171 96 = some (2, .ireturn, 97, [1]) := by decide +kernel
theorem xe_171_96 (a0 a1 a2 a3 a4 a5 a6 a7 a8 a9 a10 : Option MV) (x : Int) (μ : MM) (G : MG) : ev 171 96 [a0, a1, a2, a3, a4, a5, a6, a7, a8, a9, a10] [vI x] μ G = if x = 0 ∨ x = 1 then some (some (vI x), μ, G) else none := ev_retB pg_171_96
theorem pg_171_97 : mm_prog 171 97 = some (0, .bipush 12, 99, []) := by decide +kernel
theorem xe_171_97 (a0 a1 a2 a3 a4 a5 a6 a7 a8 a9 a10 : Option MV) (st : List MV) (μ : MM) (G : MG) : ev 171 97 [a0, a1, a2, a3, a4, a5, a6, a7, a8, a9, a10] st μ G = ev 171 99 [a0, a1, a2, a3, a4, a5, a6, a7, a8, a9, a10] (vI (12) :: st) μ G := ev_stp pg_171_97 rfl
theorem pg_171_99 : mm_prog 171 99 = some (0, .aload_n 0, 100, []) := by decide +kernel
theorem xe_171_99 (a1 a2 a3 a4 a5 a6 a7 a8 a9 a10 : Option MV) (x : Int) (st : List MV) (μ : MM) (G : MG) : ev 171 99 [some (vR x), a1, a2, a3, a4, a5, a6, a7, a8, a9, a10] st μ G = ev 171 100 [some (vR x), a1, a2, a3, a4, a5, a6, a7, a8, a9, a10] (vR x :: st) μ G := ev_stp pg_171_99 rfl
theorem pg_171_100 : mm_prog 171 100 = some (0, .getfield 134, 103, [11, 23, 0]) := by decide +kernel
theorem xe_171_100 (a0 a1 a2 a3 a4 a5 a6 a7 a8 a9 a10 : Option MV) (x : Int) (st : List MV) (μ : MM) (G : MG) : ev 171 100 [a0, a1, a2, a3, a4, a5, a6, a7, a8, a9, a10] (vR x :: st) μ G = if gk G x = 11 then ev 171 103 [a0, a1, a2, a3, a4, a5, a6, a7, a8, a9, a10] (vI (μ x 23) :: st) μ G else none := ev_if pg_171_100 rfl
theorem pg_171_103 : mm_prog 171 103 = some (0, .imul, 104, []) := by decide +kernel
theorem xe_171_103 (a0 a1 a2 a3 a4 a5 a6 a7 a8 a9 a10 : Option MV) (x y : Int) (st : List MV) (μ : MM) (G : MG) : ev 171 103 [a0, a1, a2, a3, a4, a5, a6, a7, a8, a9, a10] (vI y :: vI x :: st) μ G = ev 171 104 [a0, a1, a2, a3, a4, a5, a6, a7, a8, a9, a10] (vI (w32 (x * y)) :: st) μ G := ev_stp pg_171_103 rfl
theorem pg_171_104 : mm_prog 171 104 = some (0, .istore 9, 106, []) := by decide +kernel
theorem xe_171_104 (a0 a1 a2 a3 a4 a5 a6 a7 a8 a9 a10 : Option MV) (x : Int) (st : List MV) (μ : MM) (G : MG) (h : mm_nL a8 = true) : ev 171 104 [a0, a1, a2, a3, a4, a5, a6, a7, a8, a9, a10] (vI x :: st) μ G = ev 171 106 [a0, a1, a2, a3, a4, a5, a6, a7, a8, some (vI x), a10] st μ G := ev_st pg_171_104 rfl (mm_nl_of h) (Nat.le_of_ble_eq_true rfl)
theorem pg_171_106 : mm_prog 171 106 = some (0, .aload_n 0, 107, []) := by decide +kernel
theorem xe_171_106 (a1 a2 a3 a4 a5 a6 a7 a8 a9 a10 : Option MV) (x : Int) (st : List MV) (μ : MM) (G : MG) : ev 171 106 [some (vR x), a1, a2, a3, a4, a5, a6, a7, a8, a9, a10] st μ G = ev 171 107 [some (vR x), a1, a2, a3, a4, a5, a6, a7, a8, a9, a10] (vR x :: st) μ G := ev_stp pg_171_106 rfl
theorem pg_171_107 : mm_prog 171 107 = some (0, .getfield 38, 110, [11, 20, 2]) := by decide +kernel
theorem xe_171_107 (a0 a1 a2 a3 a4 a5 a6 a7 a8 a9 a10 : Option MV) (x : Int) (st : List MV) (μ : MM) (G : MG) : ev 171 107 [a0, a1, a2, a3, a4, a5, a6, a7, a8, a9, a10] (vR x :: st) μ G = if gk G x = 11 then ev 171 110 [a0, a1, a2, a3, a4, a5, a6, a7, a8, a9, a10] (vR (μ x 20) :: st) μ G else none := ev_if pg_171_107 rfl
theorem pg_171_110 : mm_prog 171 110 = some (0, .iload 9, 112, []) := by decide +kernel
theorem xe_171_110 (a0 a1 a2 a3 a4 a5 a6 a7 a8 a10 : Option MV) (x : Int) (st : List MV) (μ : MM) (G : MG) : ev 171 110 [a0, a1, a2, a3, a4, a5, a6, a7, a8, some (vI x), a10] st μ G = ev 171 112 [a0, a1, a2, a3, a4, a5, a6, a7, a8, some (vI x), a10] (vI x :: st) μ G := ev_stp pg_171_110 rfl
theorem pg_171_112 : mm_prog 171 112 = some (0, .iload_n 1, 113, []) := by decide +kernel
theorem xe_171_112 (a0 a2 a3 a4 a5 a6 a7 a8 a9 a10 : Option MV) (x : Int) (st : List MV) (μ : MM) (G : MG) : ev 171 112 [a0, some (vI x), a2, a3, a4, a5, a6, a7, a8, a9, a10] st μ G = ev 171 113 [a0, some (vI x), a2, a3, a4, a5, a6, a7, a8, a9, a10] (vI x :: st) μ G := ev_stp pg_171_112 rfl
theorem pg_171_113 : mm_prog 171 113 = some (0, .iastore, 114, []) := by decide +kernel
theorem xe_171_113 (a0 a1 a2 a3 a4 a5 a6 a7 a8 a9 a10 : Option MV) (x y z : Int) (st : List MV) (μ : MM) (G : MG) : ev 171 113 [a0, a1, a2, a3, a4, a5, a6, a7, a8, a9, a10] (vI x :: vI y :: vR z :: st) μ G = if gk G z = 100 ∧ 0 ≤ y ∧ y < gl G z ∧ 10 ≤ z then ev 171 114 [a0, a1, a2, a3, a4, a5, a6, a7, a8, a9, a10] st (mset μ z y x) G else none := ev_if pg_171_113 rfl
theorem pg_171_114 : mm_prog 171 114 = some (0, .aload_n 0, 115, []) := by decide +kernel
theorem xe_171_114 (a1 a2 a3 a4 a5 a6 a7 a8 a9 a10 : Option MV) (x : Int) (st : List MV) (μ : MM) (G : MG) : ev 171 114 [some (vR x), a1, a2, a3, a4, a5, a6, a7, a8, a9, a10] st μ G = ev 171 115 [some (vR x), a1, a2, a3, a4, a5, a6, a7, a8, a9, a10] (vR x :: st) μ G := ev_stp pg_171_114 rfl
theorem pg_171_115 : mm_prog 171 115 = some (0, .getfield 38, 118, [11, 20, 2]) := by decide +kernel
theorem xe_171_115 (a0 a1 a2 a3 a4 a5 a6 a7 a8 a9 a10 : Option MV) (x : Int) (st : List MV) (μ : MM) (G : MG) : ev 171 115 [a0, a1, a2, a3, a4, a5, a6, a7, a8, a9, a10] (vR x :: st) μ G = if gk G x = 11 then ev 171 118 [a0, a1, a2, a3, a4, a5, a6, a7, a8, a9, a10] (vR (μ x 20) :: st) μ G else none := ev_if pg_171_115 rfl
theorem pg_171_118 : mm_prog 171 118 = some (0, .iload 9, 120, []) := by decide +kernel
theorem xe_171_118 (a0 a1 a2 a3 a4 a5 a6 a7 a8 a10 : Option MV) (x : Int) (st : List MV) (μ : MM) (G : MG) : ev 171 118 [a0, a1, a2, a3, a4, a5, a6, a7, a8, some (vI x), a10] st μ G = ev 171 120 [a0, a1, a2, a3, a4, a5, a6, a7, a8, some (vI x), a10] (vI x :: st) μ G := ev_stp pg_171_118 rfl
theorem pg_171_120 : mm_prog 171 120 = some (0, .iconst 1, 121, []) := by decide +kernel
theorem xe_171_120 (a0 a1 a2 a3 a4 a5 a6 a7 a8 a9 a10 : Option MV) (st : List MV) (μ : MM) (G : MG) : ev 171 120 [a0, a1, a2, a3, a4, a5, a6, a7, a8, a9, a10] st μ G = ev 171 121 [a0, a1, a2, a3, a4, a5, a6, a7, a8, a9, a10] (vI (1) :: st) μ G := ev_stp pg_171_120 rfl
theorem pg_171_121 : mm_prog 171 121 = some (0, .iadd, 122, []) := by decide +kernel
theorem xe_171_121 (a0 a1 a2 a3 a4 a5 a6 a7 a8 a9 a10 : Option MV) (x y : Int) (st : List MV) (μ : MM) (G : MG) : ev 171 121 [a0, a1, a2, a3, a4, a5, a6, a7, a8, a9, a10] (vI y :: vI x :: st) μ G = ev 171 122 [a0, a1, a2, a3, a4, a5, a6, a7, a8, a9, a10] (vI (w32 (x + y)) :: st) μ G := ev_stp pg_171_121 rfl
theorem pg_171_122 : mm_prog 171 122 = some (0, .iload_n 2, 123, []) := by decide +kernel
theorem xe_171_122 (a0 a1 a3 a4 a5 a6 a7 a8 a9 a10 : Option MV) (x : Int) (st : List MV) (μ : MM) (G : MG) : ev 171 122 [a0, a1, some (vI x), a3, a4, a5, a6, a7, a8, a9, a10] st μ G = ev 171 123 [a0, a1, some (vI x), a3, a4, a5, a6, a7, a8, a9, a10] (vI x :: st) μ G := ev_stp pg_171_122 rfl
theorem pg_171_123 : mm_prog 171 123 = some (0, .iastore, 124, []) := by decide +kernel
theorem xe_171_123 (a0 a1 a2 a3 a4 a5 a6 a7 a8 a9 a10 : Option MV) (x y z : Int) (st : List MV) (μ : MM) (G : MG) : ev 171 123 [a0, a1, a2, a3, a4, a5, a6, a7, a8, a9, a10] (vI x :: vI y :: vR z :: st) μ G = if gk G z = 100 ∧ 0 ≤ y ∧ y < gl G z ∧ 10 ≤ z then ev 171 124 [a0, a1, a2, a3, a4, a5, a6, a7, a8, a9, a10] st (mset μ z y x) G else none := ev_if pg_171_123 rfl
theorem pg_171_124 : mm_prog 171 124 = some (0, .aload_n 0, 125, []) := by decide +kernel
theorem xe_171_124 (a1 a2 a3 a4 a5 a6 a7 a8 a9 a10 : Option MV) (x : Int) (st : List MV) (μ : MM) (G : MG) : ev 171 124 [some (vR x), a1, a2, a3, a4, a5, a6, a7, a8, a9, a10] st μ G = ev 171 125 [some (vR x), a1, a2, a3, a4, a5, a6, a7, a8, a9, a10] (vR x :: st) μ G := ev_stp pg_171_124 rfl
theorem pg_171_125 : mm_prog 171 125 = some (0, .getfield 38, 128, [11, 20, 2]) := by decide +kernel
theorem xe_171_125 (a0 a1 a2 a3 a4 a5 a6 a7 a8 a9 a10 : Option MV) (x : Int) (st : List MV) (μ : MM) (G : MG) : ev 171 125 [a0, a1, a2, a3, a4, a5, a6, a7, a8, a9, a10] (vR x :: st) μ G = if gk G x = 11 then ev 171 128 [a0, a1, a2, a3, a4, a5, a6, a7, a8, a9, a10] (vR (μ x 20) :: st) μ G else none := ev_if pg_171_125 rfl
theorem pg_171_128 : mm_prog 171 128 = some (0, .iload 9, 130, []) := by decide +kernel
theorem xe_171_128 (a0 a1 a2 a3 a4 a5 a6 a7 a8 a10 : Option MV) (x : Int) (st : List MV) (μ : MM) (G : MG) : ev 171 128 [a0, a1, a2, a3, a4, a5, a6, a7, a8, some (vI x), a10] st μ G = ev 171 130 [a0, a1, a2, a3, a4, a5, a6, a7, a8, some (vI x), a10] (vI x :: st) μ G := ev_stp pg_171_128 rfl
theorem pg_171_130 : mm_prog 171 130 = some (0, .iconst 2, 131, []) := by decide +kernel
theorem xe_171_130 (a0 a1 a2 a3 a4 a5 a6 a7 a8 a9 a10 : Option MV) (st : List MV) (μ : MM) (G : MG) : ev 171 130 [a0, a1, a2, a3, a4, a5, a6, a7, a8, a9, a10] st μ G = ev 171 131 [a0, a1, a2, a3, a4, a5, a6, a7, a8, a9, a10] (vI (2) :: st) μ G := ev_stp pg_171_130 rfl
theorem pg_171_131 : mm_prog 171 131 = some (0, .iadd, 132, []) := by decide +kernel
theorem xe_171_131 (a0 a1 a2 a3 a4 a5 a6 a7 a8 a9 a10 : Option MV) (x y : Int) (st : List MV) (μ : MM) (G : MG) : ev 171 131 [a0, a1, a2, a3, a4, a5, a6, a7, a8, a9, a10] (vI y :: vI x :: st) μ G = ev 171 132 [a0, a1, a2, a3, a4, a5, a6, a7, a8, a9, a10] (vI (w32 (x + y)) :: st) μ G := ev_stp pg_171_131 rfl
theorem pg_171_132 : mm_prog 171 132 = some (0, .iload 7, 134, []) := by decide +kernel
theorem xe_171_132 (a0 a1 a2 a3 a4 a5 a6 a8 a9 a10 : Option MV) (x : Int) (st : List MV) (μ : MM) (G : MG) : ev 171 132 [a0, a1, a2, a3, a4, a5, a6, some (vI x), a8, a9, a10] st μ G = ev 171 134 [a0, a1, a2, a3, a4, a5, a6, some (vI x), a8, a9, a10] (vI x :: st) μ G := ev_stp pg_171_132 rfl
theorem pg_171_134 : mm_prog 171 134 = some (0, .iastore, 135, []) := by decide +kernel
theorem xe_171_134 (a0 a1 a2 a3 a4 a5 a6 a7 a8 a9 a10 : Option MV) (x y z : Int) (st : List MV) (μ : MM) (G : MG) : ev 171 134 [a0, a1, a2, a3, a4, a5, a6, a7, a8, a9, a10] (vI x :: vI y :: vR z :: st) μ G = if gk G z = 100 ∧ 0 ≤ y ∧ y < gl G z ∧ 10 ≤ z then ev 171 135 [a0, a1, a2, a3, a4, a5, a6, a7, a8, a9, a10] st (mset μ z y x) G else none := ev_if pg_171_134 rfl
theorem pg_171_135 : mm_prog 171 135 = some (0, .aload_n 0, 136, []) := by decide +kernel
theorem xe_171_135 (a1 a2 a3 a4 a5 a6 a7 a8 a9 a10 : Option MV) (x : Int) (st : List MV) (μ : MM) (G : MG) : ev 171 135 [some (vR x), a1, a2, a3, a4, a5, a6, a7, a8, a9, a10] st μ G = ev 171 136 [some (vR x), a1, a2, a3, a4, a5, a6, a7, a8, a9, a10] (vR x :: st) μ G := ev_stp pg_171_135 rfl
theorem pg_171_136 : mm_prog 171 136 = some (0, .getfield 38, 139, [11, 20, 2]) := by decide +kernel
theorem xe_171_136 (a0 a1 a2 a3 a4 a5 a6 a7 a8 a9 a10 : Option MV) (x : Int) (st : List MV) (μ : MM) (G : MG) : ev 171 136 [a0, a1, a2, a3, a4, a5, a6, a7, a8, a9, a10] (vR x :: st) μ G = if gk G x = 11 then ev 171 139 [a0, a1, a2, a3, a4, a5, a6, a7, a8, a9, a10] (vR (μ x 20) :: st) μ G else none := ev_if pg_171_136 rfl
theorem pg_171_139 : mm_prog 171 139 = some (0, .iload 9, 141, []) := by decide +kernel
theorem xe_171_139 (a0 a1 a2 a3 a4 a5 a6 a7 a8 a10 : Option MV) (x : Int) (st : List MV) (μ : MM) (G : MG) : ev 171 139 [a0, a1, a2, a3, a4, a5, a6, a7, a8, some (vI x), a10] st μ G = ev 171 141 [a0, a1, a2, a3, a4, a5, a6, a7, a8, some (vI x), a10] (vI x :: st) μ G := ev_stp pg_171_139 rfl
theorem pg_171_141 : mm_prog 171 141 = some (0, .iconst 3, 142, []) := by decide +kernel
theorem xe_171_141 (a0 a1 a2 a3 a4 a5 a6 a7 a8 a9 a10 : Option MV) (st : List MV) (μ : MM) (G : MG) : ev 171 141 [a0, a1, a2, a3, a4, a5, a6, a7, a8, a9, a10] st μ G = ev 171 142 [a0, a1, a2, a3, a4, a5, a6, a7, a8, a9, a10] (vI (3) :: st) μ G := ev_stp pg_171_141 rfl
theorem pg_171_142 : mm_prog 171 142 = some (0, .iadd, 143, []) := by decide +kernel
theorem xe_171_142 (a0 a1 a2 a3 a4 a5 a6 a7 a8 a9 a10 : Option MV) (x y : Int) (st : List MV) (μ : MM) (G : MG) : ev 171 142 [a0, a1, a2, a3, a4, a5, a6, a7, a8, a9, a10] (vI y :: vI x :: st) μ G = ev 171 143 [a0, a1, a2, a3, a4, a5, a6, a7, a8, a9, a10] (vI (w32 (x + y)) :: st) μ G := ev_stp pg_171_142 rfl
theorem pg_171_143 : mm_prog 171 143 = some (0, .iload_n 3, 144, []) := by decide +kernel
theorem xe_171_143 (a0 a1 a2 a4 a5 a6 a7 a8 a9 a10 : Option MV) (x : Int) (st : List MV) (μ : MM) (G : MG) : ev 171 143 [a0, a1, a2, some (vI x), a4, a5, a6, a7, a8, a9, a10] st μ G = ev 171 144 [a0, a1, a2, some (vI x), a4, a5, a6, a7, a8, a9, a10] (vI x :: st) μ G := ev_stp pg_171_143 rfl
theorem pg_171_144 : mm_prog 171 144 = some (0, .iastore, 145, []) := by decide +kernel
theorem xe_171_144 (a0 a1 a2 a3 a4 a5 a6 a7 a8 a9 a10 : Option MV) (x y z : Int) (st : List MV) (μ : MM) (G : MG) : ev 171 144 [a0, a1, a2, a3, a4, a5, a6, a7, a8, a9, a10] (vI x :: vI y :: vR z :: st) μ G = if gk G z = 100 ∧ 0 ≤ y ∧ y < gl G z ∧ 10 ≤ z then ev 171 145 [a0, a1, a2, a3, a4, a5, a6, a7, a8, a9, a10] st (mset μ z y x) G else none := ev_if pg_171_144 rfl
theorem pg_171_145 : mm_prog 171 145 = some (0, .aload_n 0, 146, []) := by decide +kernel
theorem xe_171_145 (a1 a2 a3 a4 a5 a6 a7 a8 a9 a10 : Option MV) (x : Int) (st : List MV) (μ : MM) (G : MG) : ev 171 145 [some (vR x), a1, a2, a3, a4, a5, a6, a7, a8, a9, a10] st μ G = ev 171 146 [some (vR x), a1, a2, a3, a4, a5, a6, a7, a8, a9, a10] (vR x :: st) μ G := ev_stp pg_171_145 rfl
theorem pg_171_146 : mm_prog 171 146 = some (0, .getfield 38, 149, [11, 20, 2]) := by decide +kernel
theorem xe_171_146 (a0 a1 a2 a3 a4 a5 a6 a7 a8 a9 a10 : Option MV) (x : Int) (st : List MV) (μ : MM) (G : MG) : ev 171 146 [a0, a1, a2, a3, a4, a5, a6, a7, a8, a9, a10] (vR x :: st) μ G = if gk G x = 11 then ev 171 149 [a0, a1, a2, a3, a4, a5, a6, a7, a8, a9, a10] (vR (μ x 20) :: st) μ G else none := ev_if pg_171_146 rfl
theorem pg_171_149 : mm_prog 171 149 = some (0, .iload 9, 151, []) := by decide +kernel
theorem xe_171_149 (a0 a1 a2 a3 a4 a5 a6 a7 a8 a10 : Option MV) (x : Int) (st : List MV) (μ : MM) (G : MG) : ev 171 149 [a0, a1, a2, a3, a4, a5, a6, a7, a8, some (vI x), a10] st μ G = ev 171 151 [a0, a1, a2, a3, a4, a5, a6, a7, a8, some (vI x), a10] (vI x :: st) μ G := ev_stp pg_171_149 rfl
theorem pg_171_151 : mm_prog 171 151 = some (0, .iconst 4, 152, []) := by decide +kernel
theorem xe_171_151 (a0 a1 a2 a3 a4 a5 a6 a7 a8 a9 a10 : Option MV) (st : List MV) (μ : MM) (G : MG) : ev 171 151 [a0, a1, a2, a3, a4, a5, a6, a7, a8, a9, a10] st μ G = ev 171 152 [a0, a1, a2, a3, a4, a5, a6, a7, a8, a9, a10] (vI (4) :: st) μ G := ev_stp pg_171_151 rfl
theorem pg_171_152 : mm_prog 171 152 = some (0, .iadd, 153, []) := by decide +kernel
theorem xe_171_152 (a0 a1 a2 a3 a4 a5 a6 a7 a8 a9 a10 : Option MV) (x y : Int) (st : List MV) (μ : MM) (G : MG) : ev 171 152 [a0, a1, a2, a3, a4, a5, a6, a7, a8, a9, a10] (vI y :: vI x :: st) μ G = ev 171 153 [a0, a1, a2, a3, a4, a5, a6, a7, a8, a9, a10] (vI (w32 (x + y)) :: st) μ G := ev_stp pg_171_152 rfl
theorem pg_171_153 : mm_prog 171 153 = some (0, .iload 4, 155, []) := by decide +kernel
theorem xe_171_153 (a0 a1 a2 a3 a5 a6 a7 a8 a9 a10 : Option MV) (x : Int) (st : List MV) (μ : MM) (G : MG) : ev 171 153 [a0, a1, a2, a3, some (vI x), a5, a6, a7, a8, a9, a10] st μ G = ev 171 155 [a0, a1, a2, a3, some (vI x), a5, a6, a7, a8, a9, a10] (vI x :: st) μ G := ev_stp pg_171_153 rfl
theorem pg_171_155 : mm_prog 171 155 = some (0, .iastore, 156, []) := by decide +kernel
theorem xe_171_155 (a0 a1 a2 a3 a4 a5 a6 a7 a8 a9 a10 : Option MV) (x y z : Int) (st : List MV) (μ : MM) (G : MG) : ev 171 155 [a0, a1, a2, a3, a4, a5, a6, a7, a8, a9, a10] (vI x :: vI y :: vR z :: st) μ G = if gk G z = 100 ∧ 0 ≤ y ∧ y < gl G z ∧ 10 ≤ z then ev 171 156 [a0, a1, a2, a3, a4, a5, a6, a7, a8, a9, a10] st (mset μ z y x) G else none := ev_if pg_171_155 rfl
theorem pg_171_156 : mm_prog 171 156 = some (0, .aload_n 0, 157, []) := by decide +kernel
theorem xe_171_156 (a1 a2 a3 a4 a5 a6 a7 a8 a9 a10 : Option MV) (x : Int) (st : List MV) (μ : MM) (G : MG) : ev 171 156 [some (vR x), a1, a2, a3, a4, a5, a6, a7, a8, a9, a10] st μ G = ev 171 157 [some (vR x), a1, a2, a3, a4, a5, a6, a7, a8, a9, a10] (vR x :: st) μ G := ev_stp pg_171_156 rfl
theorem pg_171_157 : mm_prog 171 157 = some (0, .getfield 38, 160, [11, 20, 2]) := by decide +kernel
theorem xe_171_157 (a0 a1 a2 a3 a4 a5 a6 a7 a8 a9 a10 : Option MV) (x : Int) (st : List MV) (μ : MM) (G : MG) : ev 171 157 [a0, a1, a2, a3, a4, a5, a6, a7, a8, a9, a10] (vR x :: st) μ G = if gk G x = 11 then ev 171 160 [a0, a1, a2, a3, a4, a5, a6, a7, a8, a9, a10] (vR (μ x 20) :: st) μ G else none := ev_if pg_171_157 rfl
theorem pg_171_160 : mm_prog 171 160 = some (0, .iload 9, 162, []) := by decide +kernel
theorem xe_171_160 (a0 a1 a2 a3 a4 a5 a6 a7 a8 a10 : Option MV) (x : Int) (st : List MV) (μ : MM) (G : MG) : ev 171 160 [a0, a1, a2, a3, a4, a5, a6, a7, a8, some (vI x), a10] st μ G = ev 171 162 [a0, a1, a2, a3, a4, a5, a6, a7, a8, some (vI x), a10] (vI x :: st) μ G := ev_stp pg_171_160 rfl
theorem pg_171_162 : mm_prog 171 162 = some (0, .iconst 4, 163, []) := by decide +kernel
theorem xe_171_162 (a0 a1 a2 a3 a4 a5 a6 a7 a8 a9 a10 : Option MV) (st : List MV) (μ : MM) (G : MG) : ev 171 162 [a0, a1, a2, a3, a4, a5, a6, a7, a8, a9, a10] st μ G = ev 171 163 [a0, a1, a2, a3, a4, a5, a6, a7, a8, a9, a10] (vI (4) :: st) μ G := ev_stp pg_171_162 rfl
theorem pg_171_163 : mm_prog 171 163 = some (0, .iadd, 164, []) := by decide +kernel
theorem xe_171_163 (a0 a1 a2 a3 a4 a5 a6 a7 a8 a9 a10 : Option MV) (x y : Int) (st : List MV) (μ : MM) (G : MG) : ev 171 163 [a0, a1, a2, a3, a4, a5, a6, a7, a8, a9, a10] (vI y :: vI x :: st) μ G = ev 171 164 [a0, a1, a2, a3, a4, a5, a6, a7, a8, a9, a10] (vI (w32 (x + y)) :: st) μ G := ev_stp pg_171_163 rfl
theorem pg_171_164 : mm_prog 171 164 = some (0, .iconst 1, 165, []) := by decide +kernel
theorem xe_171_164 (a0 a1 a2 a3 a4 a5 a6 a7 a8 a9 a10 : Option MV) (st : List MV) (μ : MM) (G : MG) : ev 171 164 [a0, a1, a2, a3, a4, a5, a6, a7, a8, a9, a10] st μ G = ev 171 165 [a0, a1, a2, a3, a4, a5, a6, a7, a8, a9, a10] (vI (1) :: st) μ G := ev_stp pg_171_164 rfl
theorem pg_171_165 : mm_prog 171 165 = some (0, .iadd, 166, []) := by decide +kernel
theorem xe_171_165 (a0 a1 a2 a3 a4 a5 a6 a7 a8 a9 a10 : Option MV) (x y : Int) (st : List MV) (μ : MM) (G : MG) : ev 171 165 [a0, a1, a2, a3, a4, a5, a6, a7, a8, a9, a10] (vI y :: vI x :: st) μ G = ev 171 166 [a0, a1, a2, a3, a4, a5, a6, a7, a8, a9, a10] (vI (w32 (x + y)) :: st) μ G := ev_stp pg_171_165 rfl
theorem pg_171_166 : mm_prog 171 166 = some (0, .iload 5, 168, []) := by decide +kernel
theorem xe_171_166 (a0 a1 a2 a3 a4 a6 a7 a8 a9 a10 : Option MV) (x : Int) (st : List MV) (μ : MM) (G : MG) : ev 171 166 [a0, a1, a2, a3, a4, some (vI x), a6, a7, a8, a9, a10] st μ G = ev 171 168 [a0, a1, a2, a3, a4, some (vI x), a6, a7, a8, a9, a10] (vI x :: st) μ G := ev_stp pg_171_166 rfl
theorem pg_171_168 : mm_prog 171 168 = some (0, .iastore, 169, []) := by decide +kernel
theorem xe_171_168 (a0 a1 a2 a3 a4 a5 a6 a7 a8 a9 a10 : Option MV) (x y z : Int) (st : List MV) (μ : MM) (G : MG) : ev 171 168 [a0, a1, a2, a3, a4, a5, a6, a7, a8, a9, a10] (vI x :: vI y :: vR z :: st) μ G = if gk G z = 100 ∧ 0 ≤ y ∧ y < gl G z ∧ 10 ≤ z then ev 171 169 [a0, a1, a2, a3, a4, a5, a6, a7, a8, a9, a10] st (mset μ z y x) G else none := ev_if pg_171_168 rfl
theorem pg_171_169 : mm_prog 171 169 = some (0, .aload_n 0, 170, []) := by decide +kernel
theorem xe_171_169 (a1 a2 a3 a4 a5 a6 a7 a8 a9 a10 : Option MV) (x : Int) (st : List MV) (μ : MM) (G : MG) : ev 171 169 [some (vR x), a1, a2, a3, a4, a5, a6, a7, a8, a9, a10] st μ G = ev 171 170 [some (vR x), a1, a2, a3, a4, a5, a6, a7, a8, a9, a10] (vR x :: st) μ G := ev_stp pg_171_169 rfl
theorem pg_171_170 : mm_prog 171 170 = some (0, .getfield 38, 173, [11, 20, 2]) := by decide +kernel
theorem xe_171_170 (a0 a1 a2 a3 a4 a5 a6 a7 a8 a9 a10 : Option MV) (x : Int) (st : List MV) (μ : MM) (G : MG) : ev 171 170 [a0, a1, a2, a3, a4, a5, a6, a7, a8, a9, a10] (vR x :: st) μ G = if gk G x = 11 then ev 171 173 [a0, a1, a2, a3, a4, a5, a6, a7, a8, a9, a10] (vR (μ x 20) :: st) μ G else none := ev_if pg_171_170 rfl
theorem pg_171_173 : mm_prog 171 173 = some (0, .iload 9, 175, []) := by decide +kernel
theorem xe_171_173 (a0 a1 a2 a3 a4 a5 a6 a7 a8 a10 : Option MV) (x : Int) (st : List MV) (μ : MM) (G : MG) : ev 171 173 [a0, a1, a2, a3, a4, a5, a6, a7, a8, some (vI x), a10] st μ G = ev 171 175 [a0, a1, a2, a3, a4, a5, a6, a7, a8, some (vI x), a10] (vI x :: st) μ G := ev_stp pg_171_173 rfl
theorem pg_171_175 : mm_prog 171 175 = some (0, .bipush 6, 177, []) := by decide +kernel
theorem xe_171_175 (a0 a1 a2 a3 a4 a5 a6 a7 a8 a9 a10 : Option MV) (st : List MV) (μ : MM) (G : MG) : ev 171 175 [a0, a1, a2, a3, a4, a5, a6, a7, a8, a9, a10] st μ G = ev 171 177 [a0, a1, a2, a3, a4, a5, a6, a7, a8, a9, a10] (vI (6) :: st) μ G := ev_stp pg_171_175 rfl
theorem pg_171_177 : mm_prog 171 177 = some (0, .iadd, 178, []) := by decide +kernel
theorem xe_171_177 (a0 a1 a2 a3 a4 a5 a6 a7 a8 a9 a10 : Option MV) (x y : Int) (st : List MV) (μ : MM) (G : MG) : ev 171 177 [a0, a1, a2, a3, a4, a5, a6, a7, a8, a9, a10] (vI y :: vI x :: st) μ G = ev 171 178 [a0, a1, a2, a3, a4, a5, a6, a7, a8, a9, a10] (vI (w32 (x + y)) :: st) μ G := ev_stp pg_171_177 rfl
theorem pg_171_178 : mm_prog 171 178 = some (0, .iload 6, 180, []) := by decide +kernel
theorem xe_171_178 (a0 a1 a2 a3 a4 a5 a7 a8 a9 a10 : Option MV) (x : Int) (st : List MV) (μ : MM) (G : MG) : ev 171 178 [a0, a1, a2, a3, a4, a5, some (vI x), a7, a8, a9, a10] st μ G = ev 171 180 [a0, a1, a2, a3, a4, a5, some (vI x), a7, a8, a9, a10] (vI x :: st) μ G := ev_stp pg_171_178 rfl
theorem pg_171_180 : mm_prog 171 180 = some (0, .iastore, 181, []) := by decide +kernel
theorem xe_171_180 (a0 a1 a2 a3 a4 a5 a6 a7 a8 a9 a10 : Option MV) (x y z : Int) (st : List MV) (μ : MM) (G : MG) : ev 171 180 [a0, a1, a2, a3, a4, a5, a6, a7, a8, a9, a10] (vI x :: vI y :: vR z :: st) μ G = if gk G z = 100 ∧ 0 ≤ y ∧ y < gl G z ∧ 10 ≤ z then ev 171 181 [a0, a1, a2, a3, a4, a5, a6, a7, a8, a9, a10] st (mset μ z y x) G else none := ev_if pg_171_180 rfl
theorem pg_171_181 : mm_prog 171 181 = some (0, .bipush 7, 183, []) := by decide +kernel
theorem xe_171_181 (a0 a1 a2 a3 a4 a5 a6 a7 a8 a9 a10 : Option MV) (st : List MV) (μ : MM) (G : MG) : ev 171 181 [a0, a1, a2, a3, a4, a5, a6, a7, a8, a9, a10] st μ G = ev 171 183 [a0, a1, a2, a3, a4, a5, a6, a7, a8, a9, a10] (vI (7) :: st) μ G := ev_stp pg_171_181 rfl
theorem pg_171_183 : mm_prog 171 183 = some (0, .istore 10, 185, []) := by decide +kernel
theorem xe_171_183 (a0 a1 a2 a3 a4 a5 a6 a7 a8 a9 a10 : Option MV) (x : Int) (st : List MV) (μ : MM) (G : MG) (h : mm_nL a9 = true) : ev 171 183 [a0, a1, a2, a3, a4, a5, a6, a7, a8, a9, a10] (vI x :: st) μ G = ev 171 185 [a0, a1, a2, a3, a4, a5, a6, a7, a8, a9, some (vI x)] st μ G := ev_st pg_171_183 rfl (mm_nl_of h) (Nat.le_of_ble_eq_true rfl)
theorem pg_171_185 : mm_prog 171 185 = some (0, .iload 10, 187, []) := by decide +kernel
theorem xe_171_185 (a0 a1 a2 a3 a4 a5 a6 a7 a8 a9 : Option MV) (x : Int) (st : List MV) (μ : MM) (G : MG) : ev 171 185 [a0, a1, a2, a3, a4, a5, a6, a7, a8, a9, some (vI x)] st μ G = ev 171 187 [a0, a1, a2, a3, a4, a5, a6, a7, a8, a9, some (vI x)] (vI x :: st) μ G := ev_stp pg_171_185 rfl
theorem pg_171_187 : mm_prog 171 187 = some (0, .bipush 12, 189, []) := by decide +kernel
theorem xe_171_187 (a0 a1 a2 a3 a4 a5 a6 a7 a8 a9 a10 : Option MV) (st : List MV) (μ : MM) (G : MG) : ev 171 187 [a0, a1, a2, a3, a4, a5, a6, a7, a8, a9, a10] st μ G = ev 171 189 [a0, a1, a2, a3, a4, a5, a6, a7, a8, a9, a10] (vI (12) :: st) μ G := ev_stp pg_171_187 rfl
theorem pg_171_189 : mm_prog 171 189 = some (0, .if_icmp .ge 20, 192, []) := by decide +kernel
theorem xe_171_189 (a0 a1 a2 a3 a4 a5 a6 a7 a8 a9 a10 : Option MV) (x y : Int) (st : List MV) (μ : MM) (G : MG) : ev 171 189 [a0, a1, a2, a3, a4, a5, a6, a7, a8, a9, a10] (vI y :: vI x :: st) μ G = if y ≤ x then ev 171 209 [a0, a1, a2, a3, a4, a5, a6, a7, a8, a9, a10] st μ G else ev 171 192 [a0, a1, a2, a3, a4, a5, a6, a7, a8, a9, a10] st μ G := ev_br (mm_cnd_ge x y) pg_171_189 rfl
theorem pg_171_192 : mm_prog 171 192 = some (0, .aload_n 0, 193, []) := by decide +kernel
theorem xe_171_192 (a1 a2 a3 a4 a5 a6 a7 a8 a9 a10 : Option MV) (x : Int) (st : List MV) (μ : MM) (G : MG) : ev 171 192 [some (vR x), a1, a2, a3, a4, a5, a6, a7, a8, a9, a10] st μ G = ev 171 193 [some (vR x), a1, a2, a3, a4, a5, a6, a7, a8, a9, a10] (vR x :: st) μ G := ev_stp pg_171_192 rfl
theorem pg_171_193 : mm_prog 171 193 = some (0, .getfield 38, 196, [11, 20, 2]) := by decide +kernel
theorem xe_171_193 (a0 a1 a2 a3 a4 a5 a6 a7 a8 a9 a10 : Option MV) (x : Int) (st : List MV) (μ : MM) (G : MG) : ev 171 193 [a0, a1, a2, a3, a4, a5, a6, a7, a8, a9, a10] (vR x :: st) μ G = if gk G x = 11 then ev 171 196 [a0, a1, a2, a3, a4, a5, a6, a7, a8, a9, a10] (vR (μ x 20) :: st) μ G else none := ev_if pg_171_193 rfl
theorem pg_171_196 : mm_prog 171 196 = some (0, .iload 9, 198, []) := by decide +kernel
theorem xe_171_196 (a0 a1 a2 a3 a4 a5 a6 a7 a8 a10 : Option MV) (x : Int) (st : List MV) (μ : MM) (G : MG) : ev 171 196 [a0, a1, a2, a3, a4, a5, a6, a7, a8, some (vI x), a10] st μ G = ev 171 198 [a0, a1, a2, a3, a4, a5, a6, a7, a8, some (vI x), a10] (vI x :: st) μ G := ev_stp pg_171_196 rfl
theorem pg_171_198 : mm_prog 171 198 = some (0, .iload 10, 200, []) := by decide +kernel
theorem xe_171_198 (a0 a1 a2 a3 a4 a5 a6 a7 a8 a9 : Option MV) (x : Int) (st : List MV) (μ : MM) (G : MG) : ev 171 198 [a0, a1, a2, a3, a4, a5, a6, a7, a8, a9, some (vI x)] st μ G = ev 171 200 [a0, a1, a2, a3, a4, a5, a6, a7, a8, a9, some (vI x)] (vI x :: st) μ G := ev_stp pg_171_198 rfl
theorem pg_171_200 : mm_prog 171 200 = some (0, .iadd, 201, []) := by decide +kernel
theorem xe_171_200 (a0 a1 a2 a3 a4 a5 a6 a7 a8 a9 a10 : Option MV) (x y : Int) (st : List MV) (μ : MM) (G : MG) : ev 171 200 [a0, a1, a2, a3, a4, a5, a6, a7, a8, a9, a10] (vI y :: vI x :: st) μ G = ev 171 201 [a0, a1, a2, a3, a4, a5, a6, a7, a8, a9, a10] (vI (w32 (x + y)) :: st) μ G := ev_stp pg_171_200 rfl
theorem pg_171_201 : mm_prog 171 201 = some (0, .iconst 0, 202, []) := by decide +kernel
theorem xe_171_201 (a0 a1 a2 a3 a4 a5 a6 a7 a8 a9 a10 : Option MV) (st : List MV) (μ : MM) (G : MG) : ev 171 201 [a0, a1, a2, a3, a4, a5, a6, a7, a8, a9, a10] st μ G = ev 171 202 [a0, a1, a2, a3, a4, a5, a6, a7, a8, a9, a10] (vI (0) :: st) μ G := ev_stp pg_171_201 rfl
theorem pg_171_202 : mm_prog 171 202 = some (0, .iastore, 203, []) := by decide +kernel
theorem xe_171_202 (a0 a1 a2 a3 a4 a5 a6 a7 a8 a9 a10 : Option MV) (x y z : Int) (st : List MV) (μ : MM) (G : MG) : ev 171 202 [a0, a1, a2, a3, a4, a5, a6, a7, a8, a9, a10] (vI x :: vI y :: vR z :: st) μ G = if gk G z = 100 ∧ 0 ≤ y ∧ y < gl G z ∧ 10 ≤ z then ev 171 203 [a0, a1, a2, a3, a4, a5, a6, a7, a8, a9, a10] st (mset μ z y x) G else none := ev_if pg_171_202 rfl
theorem pg_171_203 : mm_prog 171 203 = some (0, .iinc 10 1, 206, []) := by decide +kernel
theorem xe_171_203 (a0 a1 a2 a3 a4 a5 a6 a7 a8 a9 : Option MV) (x : Int) (st : List MV) (μ : MM) (G : MG) (h : mm_nL a9 = true) : ev 171 203 [a0, a1, a2, a3, a4, a5, a6, a7, a8, a9, some (vI x)] st μ G = ev 171 206 [a0, a1, a2, a3, a4, a5, a6, a7, a8, a9, some (vI (w32 (x + (1))))] st μ G := ev_st pg_171_203 rfl (mm_nl_of h) (Nat.le_of_ble_eq_true rfl)
theorem pg_171_206 : mm_prog 171 206 = some (0, .goto (-21), 209, []) := by decide +kernel
theorem xe_171_206 (a0 a1 a2 a3 a4 a5 a6 a7 a8 a9 a10 : Option MV) (st : List MV) (μ : MM) (G : MG) : ev 171 206 [a0, a1, a2, a3, a4, a5, a6, a7, a8, a9, a10] st μ G = ev 171 185 [a0, a1, a2, a3, a4, a5, a6, a7, a8, a9, a10] st μ G := ev_stp pg_171_206 rfl
theorem pg_171_209 : mm_prog 171 209 = some (0, .aload_n 0, 210, []) := by decide +kernel
theorem xe_171_209 (a1 a2 a3 a4 a5 a6 a7 a8 a9 a10 : Option MV) (x : Int) (st : List MV) (μ : MM) (G : MG) : ev 171 209 [some (vR x), a1, a2, a3, a4, a5, a6, a7, a8, a9, a10] st μ G = ev 171 210 [some (vR x), a1, a2, a3, a4, a5, a6, a7, a8, a9, a10] (vR x :: st) μ G := ev_stp pg_171_209 rfl
theorem pg_171_210 : mm_prog 171 210 = some (0, .dup, 211, []) := by decide +kernel
theorem xe_171_210 (a0 a1 a2 a3 a4 a5 a6 a7 a8 a9 a10 : Option MV) (x : Int) (st : List MV) (μ : MM) (G : MG) : ev 171 210 [a0, a1, a2, a3, a4, a5, a6, a7, a8, a9, a10] (vR x :: st) μ G = ev 171 211 [a0, a1, a2, a3, a4, a5, a6, a7, a8, a9, a10] (vR x :: vR x :: st) μ G := ev_stp pg_171_210 rfl
theorem pg_171_211 : mm_prog 171 211 = some (0, .getfield 134, 214, [11, 23, 0]) := by decide +kernel
theorem xe_171_211 (a0 a1 a2 a3 a4 a5 a6 a7 a8 a9 a10 : Option MV) (x : Int) (st : List MV) (μ : MM) (G : MG) : ev 171 211 [a0, a1, a2, a3, a4, a5, a6, a7, a8, a9, a10] (vR x :: st) μ G = if gk G x = 11 then ev 171 214 [a0, a1, a2, a3, a4, a5, a6, a7, a8, a9, a10] (vI (μ x 23) :: st) μ G else none := ev_if pg_171_211 rfl
theorem pg_171_214 : mm_prog 171 214 = some (0, .iconst 1, 215, []) := by decide +kernel
theorem xe_171_214 (a0 a1 a2 a3 a4 a5 a6 a7 a8 a9 a10 : Option MV) (st : List MV) (μ : MM) (G : MG) : ev 171 214 [a0, a1, a2, a3, a4, a5, a6, a7, a8, a9, a10] st μ G = ev 171 215 [a0, a1, a2, a3, a4, a5, a6, a7, a8, a9, a10] (vI (1) :: st) μ G := ev_stp pg_171_214 rfl
theorem pg_171_215 : mm_prog 171 215 = some (0, .iadd, 216, []) := by decide +kernel
theorem xe_171_215 (a0 a1 a2 a3 a4 a5 a6 a7 a8 a9 a10 : Option MV) (x y : Int) (st : List MV) (μ : MM) (G : MG) : ev 171 215 [a0, a1, a2, a3, a4, a5, a6, a7, a8, a9, a10] (vI y :: vI x :: st) μ G = ev 171 216 [a0, a1, a2, a3, a4, a5, a6, a7, a8, a9, a10] (vI (w32 (x + y)) :: st) μ G := ev_stp pg_171_215 rfl
theorem pg_171_216 : mm_prog 171 216 = some (0, .putfield 134, 219, [11, 23, 0]) := by decide +kernel
theorem xe_171_216 (a0 a1 a2 a3 a4 a5 a6 a7 a8 a9 a10 : Option MV) (x y : Int) (st : List MV) (μ : MM) (G : MG) : ev 171 216 [a0, a1, a2, a3, a4, a5, a6, a7, a8, a9, a10] (vI x :: vR y :: st) μ G = if gk G y = 11 then ev 171 219 [a0, a1, a2, a3, a4, a5, a6, a7, a8, a9, a10] st (mset μ y 23 x) G else none := ev_put0 pg_171_216
theorem pg_171_219 : mm_prog 171 219 = some (0, .iconst 1, 220, []) := by decide +kernel
theorem xe_171_219 (a0 a1 a2 a3 a4 a5 a6 a7 a8 a9 a10 : Option MV) (st : List MV) (μ : MM) (G : MG) : ev 171 219 [a0, a1, a2, a3, a4, a5, a6, a7, a8, a9, a10] st μ G = ev 171 220 [a0, a1, a2, a3, a4, a5, a6, a7, a8, a9, a10] (vI (1) :: st) μ G := ev_stp pg_171_219 rfl
theorem pg_171_220 : mm_prog 171 220 = some (2, .ireturn, 221, [1]) := by decide +kernel
theorem xe_171_220 (a0 a1 a2 a3 a4 a5 a6 a7 a8 a9 a10 : Option MV) (x : Int) (μ : MM) (G : MG) : ev 171 220 [a0, a1, a2, a3, a4, a5, a6, a7, a8, a9, a10] [vI x] μ G = if x = 0 ∨ x = 1 then some (some (vI x), μ, G) else none := ev_retB pg_171_220
-- X11_laysFronts
theorem pg_172_0 : mm_prog 172 0 = some (0, .bipush 12, 2, []) := by decide +kernel
theorem xe_172_0 (a0 a1 a2 a3 a4 a5 : Option MV) (st : List MV) (μ : MM) (G : MG) : ev 172 0 [a0, a1, a2, a3, a4, a5] st μ G = ev 172 2 [a0, a1, a2, a3, a4, a5] (vI (12) :: st) μ G := ev_stp pg_172_0 rfl
theorem pg_172_2 : mm_prog 172 2 = some (0, .aload_n 0, 3, []) := by decide +kernel
theorem xe_172_2 (a1 a2 a3 a4 a5 : Option MV) (x : Int) (st : List MV) (μ : MM) (G : MG) : ev 172 2 [some (vR x), a1, a2, a3, a4, a5] st μ G = ev 172 3 [some (vR x), a1, a2, a3, a4, a5] (vR x :: st) μ G := ev_stp pg_172_2 rfl
theorem pg_172_3 : mm_prog 172 3 = some (0, .getfield 134, 6, [11, 23, 0]) := by decide +kernel
theorem xe_172_3 (a0 a1 a2 a3 a4 a5 : Option MV) (x : Int) (st : List MV) (μ : MM) (G : MG) : ev 172 3 [a0, a1, a2, a3, a4, a5] (vR x :: st) μ G = if gk G x = 11 then ev 172 6 [a0, a1, a2, a3, a4, a5] (vI (μ x 23) :: st) μ G else none := ev_if pg_172_3 rfl
theorem pg_172_6 : mm_prog 172 6 = some (0, .iconst 1, 7, []) := by decide +kernel
theorem xe_172_6 (a0 a1 a2 a3 a4 a5 : Option MV) (st : List MV) (μ : MM) (G : MG) : ev 172 6 [a0, a1, a2, a3, a4, a5] st μ G = ev 172 7 [a0, a1, a2, a3, a4, a5] (vI (1) :: st) μ G := ev_stp pg_172_6 rfl
theorem pg_172_7 : mm_prog 172 7 = some (0, .isub, 8, []) := by decide +kernel
theorem xe_172_7 (a0 a1 a2 a3 a4 a5 : Option MV) (x y : Int) (st : List MV) (μ : MM) (G : MG) : ev 172 7 [a0, a1, a2, a3, a4, a5] (vI y :: vI x :: st) μ G = ev 172 8 [a0, a1, a2, a3, a4, a5] (vI (w32 (x - y)) :: st) μ G := ev_stp pg_172_7 rfl
theorem pg_172_8 : mm_prog 172 8 = some (0, .imul, 9, []) := by decide +kernel
theorem xe_172_8 (a0 a1 a2 a3 a4 a5 : Option MV) (x y : Int) (st : List MV) (μ : MM) (G : MG) : ev 172 8 [a0, a1, a2, a3, a4, a5] (vI y :: vI x :: st) μ G = ev 172 9 [a0, a1, a2, a3, a4, a5] (vI (w32 (x * y)) :: st) μ G := ev_stp pg_172_8 rfl
theorem pg_172_9 : mm_prog 172 9 = some (0, .bipush 8, 11, []) := by decide +kernel
theorem xe_172_9 (a0 a1 a2 a3 a4 a5 : Option MV) (st : List MV) (μ : MM) (G : MG) : ev 172 9 [a0, a1, a2, a3, a4, a5] st μ G = ev 172 11 [a0, a1, a2, a3, a4, a5] (vI (8) :: st) μ G := ev_stp pg_172_9 rfl
theorem pg_172_11 : mm_prog 172 11 = some (0, .iadd, 12, []) := by decide +kernel
theorem xe_172_11 (a0 a1 a2 a3 a4 a5 : Option MV) (x y : Int) (st : List MV) (μ : MM) (G : MG) : ev 172 11 [a0, a1, a2, a3, a4, a5] (vI y :: vI x :: st) μ G = ev 172 12 [a0, a1, a2, a3, a4, a5] (vI (w32 (x + y)) :: st) μ G := ev_stp pg_172_11 rfl
theorem pg_172_12 : mm_prog 172 12 = some (0, .istore 5, 14, []) := by decide +kernel
theorem xe_172_12 (a0 a1 a2 a3 a4 a5 : Option MV) (x : Int) (st : List MV) (μ : MM) (G : MG) (h : mm_nL a4 = true) : ev 172 12 [a0, a1, a2, a3, a4, a5] (vI x :: st) μ G = ev 172 14 [a0, a1, a2, a3, a4, some (vI x)] st μ G := ev_st pg_172_12 rfl (mm_nl_of h) (Nat.le_of_ble_eq_true rfl)
theorem pg_172_14 : mm_prog 172 14 = some (0, .aload_n 0, 15, []) := by decide +kernel
theorem xe_172_14 (a1 a2 a3 a4 a5 : Option MV) (x : Int) (st : List MV) (μ : MM) (G : MG) : ev 172 14 [some (vR x), a1, a2, a3, a4, a5] st μ G = ev 172 15 [some (vR x), a1, a2, a3, a4, a5] (vR x :: st) μ G := ev_stp pg_172_14 rfl
theorem pg_172_15 : mm_prog 172 15 = some (0, .getfield 38, 18, [11, 20, 2]) := by decide +kernel
theorem xe_172_15 (a0 a1 a2 a3 a4 a5 : Option MV) (x : Int) (st : List MV) (μ : MM) (G : MG) : ev 172 15 [a0, a1, a2, a3, a4, a5] (vR x :: st) μ G = if gk G x = 11 then ev 172 18 [a0, a1, a2, a3, a4, a5] (vR (μ x 20) :: st) μ G else none := ev_if pg_172_15 rfl
theorem pg_172_18 : mm_prog 172 18 = some (0, .iload 5, 20, []) := by decide +kernel
theorem xe_172_18 (a0 a1 a2 a3 a4 : Option MV) (x : Int) (st : List MV) (μ : MM) (G : MG) : ev 172 18 [a0, a1, a2, a3, a4, some (vI x)] st μ G = ev 172 20 [a0, a1, a2, a3, a4, some (vI x)] (vI x :: st) μ G := ev_stp pg_172_18 rfl
theorem pg_172_20 : mm_prog 172 20 = some (0, .iload_n 1, 21, []) := by decide +kernel
theorem xe_172_20 (a0 a2 a3 a4 a5 : Option MV) (x : Int) (st : List MV) (μ : MM) (G : MG) : ev 172 20 [a0, some (vI x), a2, a3, a4, a5] st μ G = ev 172 21 [a0, some (vI x), a2, a3, a4, a5] (vI x :: st) μ G := ev_stp pg_172_20 rfl
theorem pg_172_21 : mm_prog 172 21 = some (0, .iastore, 22, []) := by decide +kernel
theorem xe_172_21 (a0 a1 a2 a3 a4 a5 : Option MV) (x y z : Int) (st : List MV) (μ : MM) (G : MG) : ev 172 21 [a0, a1, a2, a3, a4, a5] (vI x :: vI y :: vR z :: st) μ G = if gk G z = 100 ∧ 0 ≤ y ∧ y < gl G z ∧ 10 ≤ z then ev 172 22 [a0, a1, a2, a3, a4, a5] st (mset μ z y x) G else none := ev_if pg_172_21 rfl
theorem pg_172_22 : mm_prog 172 22 = some (0, .aload_n 0, 23, []) := by decide +kernel
theorem xe_172_22 (a1 a2 a3 a4 a5 : Option MV) (x : Int) (st : List MV) (μ : MM) (G : MG) : ev 172 22 [some (vR x), a1, a2, a3, a4, a5] st μ G = ev 172 23 [some (vR x), a1, a2, a3, a4, a5] (vR x :: st) μ G := ev_stp pg_172_22 rfl
theorem pg_172_23 : mm_prog 172 23 = some (0, .getfield 38, 26, [11, 20, 2]) := by decide +kernel
theorem xe_172_23 (a0 a1 a2 a3 a4 a5 : Option MV) (x : Int) (st : List MV) (μ : MM) (G : MG) : ev 172 23 [a0, a1, a2, a3, a4, a5] (vR x :: st) μ G = if gk G x = 11 then ev 172 26 [a0, a1, a2, a3, a4, a5] (vR (μ x 20) :: st) μ G else none := ev_if pg_172_23 rfl
theorem pg_172_26 : mm_prog 172 26 = some (0, .iload 5, 28, []) := by decide +kernel
theorem xe_172_26 (a0 a1 a2 a3 a4 : Option MV) (x : Int) (st : List MV) (μ : MM) (G : MG) : ev 172 26 [a0, a1, a2, a3, a4, some (vI x)] st μ G = ev 172 28 [a0, a1, a2, a3, a4, some (vI x)] (vI x :: st) μ G := ev_stp pg_172_26 rfl
theorem pg_172_28 : mm_prog 172 28 = some (0, .iconst 1, 29, []) := by decide +kernel
theorem xe_172_28 (a0 a1 a2 a3 a4 a5 : Option MV) (st : List MV) (μ : MM) (G : MG) : ev 172 28 [a0, a1, a2, a3, a4, a5] st μ G = ev 172 29 [a0, a1, a2, a3, a4, a5] (vI (1) :: st) μ G := ev_stp pg_172_28 rfl
theorem pg_172_29 : mm_prog 172 29 = some (0, .iadd, 30, []) := by decide +kernel
theorem xe_172_29 (a0 a1 a2 a3 a4 a5 : Option MV) (x y : Int) (st : List MV) (μ : MM) (G : MG) : ev 172 29 [a0, a1, a2, a3, a4, a5] (vI y :: vI x :: st) μ G = ev 172 30 [a0, a1, a2, a3, a4, a5] (vI (w32 (x + y)) :: st) μ G := ev_stp pg_172_29 rfl
theorem pg_172_30 : mm_prog 172 30 = some (0, .iload_n 2, 31, []) := by decide +kernel
theorem xe_172_30 (a0 a1 a3 a4 a5 : Option MV) (x : Int) (st : List MV) (μ : MM) (G : MG) : ev 172 30 [a0, a1, some (vI x), a3, a4, a5] st μ G = ev 172 31 [a0, a1, some (vI x), a3, a4, a5] (vI x :: st) μ G := ev_stp pg_172_30 rfl
theorem pg_172_31 : mm_prog 172 31 = some (0, .iastore, 32, []) := by decide +kernel
theorem xe_172_31 (a0 a1 a2 a3 a4 a5 : Option MV) (x y z : Int) (st : List MV) (μ : MM) (G : MG) : ev 172 31 [a0, a1, a2, a3, a4, a5] (vI x :: vI y :: vR z :: st) μ G = if gk G z = 100 ∧ 0 ≤ y ∧ y < gl G z ∧ 10 ≤ z then ev 172 32 [a0, a1, a2, a3, a4, a5] st (mset μ z y x) G else none := ev_if pg_172_31 rfl
theorem pg_172_32 : mm_prog 172 32 = some (0, .aload_n 0, 33, []) := by decide +kernel
theorem xe_172_32 (a1 a2 a3 a4 a5 : Option MV) (x : Int) (st : List MV) (μ : MM) (G : MG) : ev 172 32 [some (vR x), a1, a2, a3, a4, a5] st μ G = ev 172 33 [some (vR x), a1, a2, a3, a4, a5] (vR x :: st) μ G := ev_stp pg_172_32 rfl
theorem pg_172_33 : mm_prog 172 33 = some (0, .getfield 38, 36, [11, 20, 2]) := by decide +kernel
theorem xe_172_33 (a0 a1 a2 a3 a4 a5 : Option MV) (x : Int) (st : List MV) (μ : MM) (G : MG) : ev 172 33 [a0, a1, a2, a3, a4, a5] (vR x :: st) μ G = if gk G x = 11 then ev 172 36 [a0, a1, a2, a3, a4, a5] (vR (μ x 20) :: st) μ G else none := ev_if pg_172_33 rfl
theorem pg_172_36 : mm_prog 172 36 = some (0, .iload 5, 38, []) := by decide +kernel
theorem xe_172_36 (a0 a1 a2 a3 a4 : Option MV) (x : Int) (st : List MV) (μ : MM) (G : MG) : ev 172 36 [a0, a1, a2, a3, a4, some (vI x)] st μ G = ev 172 38 [a0, a1, a2, a3, a4, some (vI x)] (vI x :: st) μ G := ev_stp pg_172_36 rfl
theorem pg_172_38 : mm_prog 172 38 = some (0, .iconst 2, 39, []) := by decide +kernel
theorem xe_172_38 (a0 a1 a2 a3 a4 a5 : Option MV) (st : List MV) (μ : MM) (G : MG) : ev 172 38 [a0, a1, a2, a3, a4, a5] st μ G = ev 172 39 [a0, a1, a2, a3, a4, a5] (vI (2) :: st) μ G := ev_stp pg_172_38 rfl
theorem pg_172_39 : mm_prog 172 39 = some (0, .iadd, 40, []) := by decide +kernel
theorem xe_172_39 (a0 a1 a2 a3 a4 a5 : Option MV) (x y : Int) (st : List MV) (μ : MM) (G : MG) : ev 172 39 [a0, a1, a2, a3, a4, a5] (vI y :: vI x :: st) μ G = ev 172 40 [a0, a1, a2, a3, a4, a5] (vI (w32 (x + y)) :: st) μ G := ev_stp pg_172_39 rfl
theorem pg_172_40 : mm_prog 172 40 = some (0, .iload_n 3, 41, []) := by decide +kernel
theorem xe_172_40 (a0 a1 a2 a4 a5 : Option MV) (x : Int) (st : List MV) (μ : MM) (G : MG) : ev 172 40 [a0, a1, a2, some (vI x), a4, a5] st μ G = ev 172 41 [a0, a1, a2, some (vI x), a4, a5] (vI x :: st) μ G := ev_stp pg_172_40 rfl
theorem pg_172_41 : mm_prog 172 41 = some (0, .iastore, 42, []) := by decide +kernel
theorem xe_172_41 (a0 a1 a2 a3 a4 a5 : Option MV) (x y z : Int) (st : List MV) (μ : MM) (G : MG) : ev 172 41 [a0, a1, a2, a3, a4, a5] (vI x :: vI y :: vR z :: st) μ G = if gk G z = 100 ∧ 0 ≤ y ∧ y < gl G z ∧ 10 ≤ z then ev 172 42 [a0, a1, a2, a3, a4, a5] st (mset μ z y x) G else none := ev_if pg_172_41 rfl
theorem pg_172_42 : mm_prog 172 42 = some (0, .aload_n 0, 43, []) := by decide +kernel
theorem xe_172_42 (a1 a2 a3 a4 a5 : Option MV) (x : Int) (st : List MV) (μ : MM) (G : MG) : ev 172 42 [some (vR x), a1, a2, a3, a4, a5] st μ G = ev 172 43 [some (vR x), a1, a2, a3, a4, a5] (vR x :: st) μ G := ev_stp pg_172_42 rfl
theorem pg_172_43 : mm_prog 172 43 = some (0, .getfield 38, 46, [11, 20, 2]) := by decide +kernel
theorem xe_172_43 (a0 a1 a2 a3 a4 a5 : Option MV) (x : Int) (st : List MV) (μ : MM) (G : MG) : ev 172 43 [a0, a1, a2, a3, a4, a5] (vR x :: st) μ G = if gk G x = 11 then ev 172 46 [a0, a1, a2, a3, a4, a5] (vR (μ x 20) :: st) μ G else none := ev_if pg_172_43 rfl
theorem pg_172_46 : mm_prog 172 46 = some (0, .iload 5, 48, []) := by decide +kernel
theorem xe_172_46 (a0 a1 a2 a3 a4 : Option MV) (x : Int) (st : List MV) (μ : MM) (G : MG) : ev 172 46 [a0, a1, a2, a3, a4, some (vI x)] st μ G = ev 172 48 [a0, a1, a2, a3, a4, some (vI x)] (vI x :: st) μ G := ev_stp pg_172_46 rfl
theorem pg_172_48 : mm_prog 172 48 = some (0, .iconst 3, 49, []) := by decide +kernel
theorem xe_172_48 (a0 a1 a2 a3 a4 a5 : Option MV) (st : List MV) (μ : MM) (G : MG) : ev 172 48 [a0, a1, a2, a3, a4, a5] st μ G = ev 172 49 [a0, a1, a2, a3, a4, a5] (vI (3) :: st) μ G := ev_stp pg_172_48 rfl
theorem pg_172_49 : mm_prog 172 49 = some (0, .iadd, 50, []) := by decide +kernel
theorem xe_172_49 (a0 a1 a2 a3 a4 a5 : Option MV) (x y : Int) (st : List MV) (μ : MM) (G : MG) : ev 172 49 [a0, a1, a2, a3, a4, a5] (vI y :: vI x :: st) μ G = ev 172 50 [a0, a1, a2, a3, a4, a5] (vI (w32 (x + y)) :: st) μ G := ev_stp pg_172_49 rfl
theorem pg_172_50 : mm_prog 172 50 = some (0, .iload 4, 52, []) := by decide +kernel
theorem xe_172_50 (a0 a1 a2 a3 a5 : Option MV) (x : Int) (st : List MV) (μ : MM) (G : MG) : ev 172 50 [a0, a1, a2, a3, some (vI x), a5] st μ G = ev 172 52 [a0, a1, a2, a3, some (vI x), a5] (vI x :: st) μ G := ev_stp pg_172_50 rfl
theorem pg_172_52 : mm_prog 172 52 = some (0, .iastore, 53, []) := by decide +kernel
theorem xe_172_52 (a0 a1 a2 a3 a4 a5 : Option MV) (x y z : Int) (st : List MV) (μ : MM) (G : MG) : ev 172 52 [a0, a1, a2, a3, a4, a5] (vI x :: vI y :: vR z :: st) μ G = if gk G z = 100 ∧ 0 ≤ y ∧ y < gl G z ∧ 10 ≤ z then ev 172 53 [a0, a1, a2, a3, a4, a5] st (mset μ z y x) G else none := ev_if pg_172_52 rfl
theorem pg_172_53 : mm_prog 172 53 = some (2, .return_, 54, []) := by decide +kernel
theorem xe_172_53 (a0 a1 a2 a3 a4 a5 : Option MV) (μ : MM) (G : MG) : ev 172 53 [a0, a1, a2, a3, a4, a5] [] μ G = some (none, μ, G) := ev_ret pg_172_53 rfl
-- X11_offersDetailed
theorem pg_173_0 : mm_prog 173 0 = some (0, .bipush 11, 2, []) := by decide +kernel
theorem xe_173_0 (a0 a1 a2 a3 : Option MV) (st : List MV) (μ : MM) (G : MG) : ev 173 0 [a0, a1, a2, a3] st μ G = ev 173 2 [a0, a1, a2, a3] (vI (11) :: st) μ G := ev_stp pg_173_0 rfl
theorem pg_173_2 : mm_prog 173 2 = some (0, .iload_n 1, 3, []) := by decide +kernel
theorem xe_173_2 (a0 a2 a3 : Option MV) (x : Int) (st : List MV) (μ : MM) (G : MG) : ev 173 2 [a0, some (vI x), a2, a3] st μ G = ev 173 3 [a0, some (vI x), a2, a3] (vI x :: st) μ G := ev_stp pg_173_2 rfl
theorem pg_173_3 : mm_prog 173 3 = some (0, .imul, 4, []) := by decide +kernel
theorem xe_173_3 (a0 a1 a2 a3 : Option MV) (x y : Int) (st : List MV) (μ : MM) (G : MG) : ev 173 3 [a0, a1, a2, a3] (vI y :: vI x :: st) μ G = ev 173 4 [a0, a1, a2, a3] (vI (w32 (x * y)) :: st) μ G := ev_stp pg_173_3 rfl
theorem pg_173_4 : mm_prog 173 4 = some (0, .istore_n 2, 5, []) := by decide +kernel
theorem xe_173_4 (a0 a1 a2 a3 : Option MV) (x : Int) (st : List MV) (μ : MM) (G : MG) (h : mm_nL a1 = true) : ev 173 4 [a0, a1, a2, a3] (vI x :: st) μ G = ev 173 5 [a0, a1, some (vI x), a3] st μ G := ev_st pg_173_4 rfl (mm_nl_of h) (Nat.le_of_ble_eq_true rfl)
theorem pg_173_5 : mm_prog 173 5 = some (0, .aload_n 0, 6, []) := by decide +kernel
theorem xe_173_5 (a1 a2 a3 : Option MV) (x : Int) (st : List MV) (μ : MM) (G : MG) : ev 173 5 [some (vR x), a1, a2, a3] st μ G = ev 173 6 [some (vR x), a1, a2, a3] (vR x :: st) μ G := ev_stp pg_173_5 rfl
theorem pg_173_6 : mm_prog 173 6 = some (0, .getfield 26, 9, [11, 9, 2]) := by decide +kernel
theorem xe_173_6 (a0 a1 a2 a3 : Option MV) (x : Int) (st : List MV) (μ : MM) (G : MG) : ev 173 6 [a0, a1, a2, a3] (vR x :: st) μ G = if gk G x = 11 then ev 173 9 [a0, a1, a2, a3] (vR (μ x 9) :: st) μ G else none := ev_if pg_173_6 rfl
theorem pg_173_9 : mm_prog 173 9 = some (0, .iload_n 2, 10, []) := by decide +kernel
theorem xe_173_9 (a0 a1 a3 : Option MV) (x : Int) (st : List MV) (μ : MM) (G : MG) : ev 173 9 [a0, a1, some (vI x), a3] st μ G = ev 173 10 [a0, a1, some (vI x), a3] (vI x :: st) μ G := ev_stp pg_173_9 rfl
theorem pg_173_10 : mm_prog 173 10 = some (0, .bipush 10, 12, []) := by decide +kernel
theorem xe_173_10 (a0 a1 a2 a3 : Option MV) (st : List MV) (μ : MM) (G : MG) : ev 173 10 [a0, a1, a2, a3] st μ G = ev 173 12 [a0, a1, a2, a3] (vI (10) :: st) μ G := ev_stp pg_173_10 rfl
theorem pg_173_12 : mm_prog 173 12 = some (0, .iadd, 13, []) := by decide +kernel
theorem xe_173_12 (a0 a1 a2 a3 : Option MV) (x y : Int) (st : List MV) (μ : MM) (G : MG) : ev 173 12 [a0, a1, a2, a3] (vI y :: vI x :: st) μ G = ev 173 13 [a0, a1, a2, a3] (vI (w32 (x + y)) :: st) μ G := ev_stp pg_173_12 rfl
theorem pg_173_13 : mm_prog 173 13 = some (0, .iaload, 14, []) := by decide +kernel
theorem xe_173_13 (a0 a1 a2 a3 : Option MV) (x y : Int) (st : List MV) (μ : MM) (G : MG) : ev 173 13 [a0, a1, a2, a3] (vI x :: vR y :: st) μ G = if gk G y = 100 ∧ 0 ≤ x ∧ x < gl G y then ev 173 14 [a0, a1, a2, a3] (vI (μ y x) :: st) μ G else none := ev_if pg_173_13 rfl
theorem pg_173_14 : mm_prog 173 14 = some (0, .iconst 1, 15, []) := by decide +kernel
theorem xe_173_14 (a0 a1 a2 a3 : Option MV) (st : List MV) (μ : MM) (G : MG) : ev 173 14 [a0, a1, a2, a3] st μ G = ev 173 15 [a0, a1, a2, a3] (vI (1) :: st) μ G := ev_stp pg_173_14 rfl
theorem pg_173_15 : mm_prog 173 15 = some (0, .if_icmp .ne 16, 18, []) := by decide +kernel
theorem xe_173_15 (a0 a1 a2 a3 : Option MV) (x y : Int) (st : List MV) (μ : MM) (G : MG) : ev 173 15 [a0, a1, a2, a3] (vI y :: vI x :: st) μ G = if ¬ x = y then ev 173 31 [a0, a1, a2, a3] st μ G else ev 173 18 [a0, a1, a2, a3] st μ G := ev_br (mm_cnd_ne x y) pg_173_15 rfl
theorem pg_173_18 : mm_prog 173 18 = some (0, .aload_n 0, 19, []) := by decide +kernel
theorem xe_173_18 (a1 a2 a3 : Option MV) (x : Int) (st : List MV) (μ : MM) (G : MG) : ev 173 18 [some (vR x), a1, a2, a3] st μ G = ev 173 19 [some (vR x), a1, a2, a3] (vR x :: st) μ G := ev_stp pg_173_18 rfl
theorem pg_173_19 : mm_prog 173 19 = some (0, .getfield 44, 22, [11, 22, 2]) := by decide +kernel
theorem xe_173_19 (a0 a1 a2 a3 : Option MV) (x : Int) (st : List MV) (μ : MM) (G : MG) : ev 173 19 [a0, a1, a2, a3] (vR x :: st) μ G = if gk G x = 11 then ev 173 22 [a0, a1, a2, a3] (vR (μ x 22) :: st) μ G else none := ev_if pg_173_19 rfl
theorem pg_173_22 : mm_prog 173 22 = some (0, .iconst 0, 23, []) := by decide +kernel
theorem xe_173_22 (a0 a1 a2 a3 : Option MV) (st : List MV) (μ : MM) (G : MG) : ev 173 22 [a0, a1, a2, a3] st μ G = ev 173 23 [a0, a1, a2, a3] (vI (0) :: st) μ G := ev_stp pg_173_22 rfl
theorem pg_173_23 : mm_prog 173 23 = some (0, .dup2, 24, []) := by decide +kernel
theorem xe_173_23 (a0 a1 a2 a3 : Option MV) (x y : Int) (st : List MV) (μ : MM) (G : MG) : ev 173 23 [a0, a1, a2, a3] (vI x :: vR y :: st) μ G = ev 173 24 [a0, a1, a2, a3] (vI x :: vR y :: vI x :: vR y :: st) μ G := ev_stp pg_173_23 rfl
theorem pg_173_24 : mm_prog 173 24 = some (0, .iaload, 25, []) := by decide +kernel
theorem xe_173_24 (a0 a1 a2 a3 : Option MV) (x y : Int) (st : List MV) (μ : MM) (G : MG) : ev 173 24 [a0, a1, a2, a3] (vI x :: vR y :: st) μ G = if gk G y = 100 ∧ 0 ≤ x ∧ x < gl G y then ev 173 25 [a0, a1, a2, a3] (vI (μ y x) :: st) μ G else none := ev_if pg_173_24 rfl
theorem pg_173_25 : mm_prog 173 25 = some (0, .iconst 1, 26, []) := by decide +kernel
theorem xe_173_25 (a0 a1 a2 a3 : Option MV) (st : List MV) (μ : MM) (G : MG) : ev 173 25 [a0, a1, a2, a3] st μ G = ev 173 26 [a0, a1, a2, a3] (vI (1) :: st) μ G := ev_stp pg_173_25 rfl
theorem pg_173_26 : mm_prog 173 26 = some (0, .iadd, 27, []) := by decide +kernel
theorem xe_173_26 (a0 a1 a2 a3 : Option MV) (x y : Int) (st : List MV) (μ : MM) (G : MG) : ev 173 26 [a0, a1, a2, a3] (vI y :: vI x :: st) μ G = ev 173 27 [a0, a1, a2, a3] (vI (w32 (x + y)) :: st) μ G := ev_stp pg_173_26 rfl
theorem pg_173_27 : mm_prog 173 27 = some (0, .iastore, 28, []) := by decide +kernel
theorem xe_173_27 (a0 a1 a2 a3 : Option MV) (x y z : Int) (st : List MV) (μ : MM) (G : MG) : ev 173 27 [a0, a1, a2, a3] (vI x :: vI y :: vR z :: st) μ G = if gk G z = 100 ∧ 0 ≤ y ∧ y < gl G z ∧ 10 ≤ z then ev 173 28 [a0, a1, a2, a3] st (mset μ z y x) G else none := ev_if pg_173_27 rfl
theorem pg_173_28 : mm_prog 173 28 = some (0, .goto 190, 31, []) := by decide +kernel
theorem xe_173_28 (a0 a1 a2 a3 : Option MV) (st : List MV) (μ : MM) (G : MG) : ev 173 28 [a0, a1, a2, a3] st μ G = ev 173 218 [a0, a1, a2, a3] st μ G := ev_stp pg_173_28 rfl
theorem pg_173_31 : mm_prog 173 31 = some (0, .aload_n 0, 32, []) := by decide +kernel
theorem xe_173_31 (a1 a2 a3 : Option MV) (x : Int) (st : List MV) (μ : MM) (G : MG) : ev 173 31 [some (vR x), a1, a2, a3] st μ G = ev 173 32 [some (vR x), a1, a2, a3] (vR x :: st) μ G := ev_stp pg_173_31 rfl
theorem pg_173_32 : mm_prog 173 32 = some (0, .getfield 26, 35, [11, 9, 2]) := by decide +kernel
theorem xe_173_32 (a0 a1 a2 a3 : Option MV) (x : Int) (st : List MV) (μ : MM) (G : MG) : ev 173 32 [a0, a1, a2, a3] (vR x :: st) μ G = if gk G x = 11 then ev 173 35 [a0, a1, a2, a3] (vR (μ x 9) :: st) μ G else none := ev_if pg_173_32 rfl
theorem pg_173_35 : mm_prog 173 35 = some (0, .iload_n 2, 36, []) := by decide +kernel
theorem xe_173_35 (a0 a1 a3 : Option MV) (x : Int) (st : List MV) (μ : MM) (G : MG) : ev 173 35 [a0, a1, some (vI x), a3] st μ G = ev 173 36 [a0, a1, some (vI x), a3] (vI x :: st) μ G := ev_stp pg_173_35 rfl
theorem pg_173_36 : mm_prog 173 36 = some (0, .bipush 9, 38, []) := by decide +kernel
theorem xe_173_36 (a0 a1 a2 a3 : Option MV) (st : List MV) (μ : MM) (G : MG) : ev 173 36 [a0, a1, a2, a3] st μ G = ev 173 38 [a0, a1, a2, a3] (vI (9) :: st) μ G := ev_stp pg_173_36 rfl
theorem pg_173_38 : mm_prog 173 38 = some (0, .iadd, 39, []) := by decide +kernel
theorem xe_173_38 (a0 a1 a2 a3 : Option MV) (x y : Int) (st : List MV) (μ : MM) (G : MG) : ev 173 38 [a0, a1, a2, a3] (vI y :: vI x :: st) μ G = ev 173 39 [a0, a1, a2, a3] (vI (w32 (x + y)) :: st) μ G := ev_stp pg_173_38 rfl
theorem pg_173_39 : mm_prog 173 39 = some (0, .iaload, 40, []) := by decide +kernel
theorem xe_173_39 (a0 a1 a2 a3 : Option MV) (x y : Int) (st : List MV) (μ : MM) (G : MG) : ev 173 39 [a0, a1, a2, a3] (vI x :: vR y :: st) μ G = if gk G y = 100 ∧ 0 ≤ x ∧ x < gl G y then ev 173 40 [a0, a1, a2, a3] (vI (μ y x) :: st) μ G else none := ev_if pg_173_39 rfl
theorem pg_173_40 : mm_prog 173 40 = some (0, .iconst 1, 41, []) := by decide +kernel
theorem xe_173_40 (a0 a1 a2 a3 : Option MV) (st : List MV) (μ : MM) (G : MG) : ev 173 40 [a0, a1, a2, a3] st μ G = ev 173 41 [a0, a1, a2, a3] (vI (1) :: st) μ G := ev_stp pg_173_40 rfl
theorem pg_173_41 : mm_prog 173 41 = some (0, .if_icmp .ne 16, 44, []) := by decide +kernel
theorem xe_173_41 (a0 a1 a2 a3 : Option MV) (x y : Int) (st : List MV) (μ : MM) (G : MG) : ev 173 41 [a0, a1, a2, a3] (vI y :: vI x :: st) μ G = if ¬ x = y then ev 173 57 [a0, a1, a2, a3] st μ G else ev 173 44 [a0, a1, a2, a3] st μ G := ev_br (mm_cnd_ne x y) pg_173_41 rfl
theorem pg_173_44 : mm_prog 173 44 = some (0, .aload_n 0, 45, []) := by decide +kernel
theorem xe_173_44 (a1 a2 a3 : Option MV) (x : Int) (st : List MV) (μ : MM) (G : MG) : ev 173 44 [some (vR x), a1, a2, a3] st μ G = ev 173 45 [some (vR x), a1, a2, a3] (vR x :: st) μ G := ev_stp pg_173_44 rfl
theorem pg_173_45 : mm_prog 173 45 = some (0, .getfield 44, 48, [11, 22, 2]) := by decide +kernel
theorem xe_173_45 (a0 a1 a2 a3 : Option MV) (x : Int) (st : List MV) (μ : MM) (G : MG) : ev 173 45 [a0, a1, a2, a3] (vR x :: st) μ G = if gk G x = 11 then ev 173 48 [a0, a1, a2, a3] (vR (μ x 22) :: st) μ G else none := ev_if pg_173_45 rfl
theorem pg_173_48 : mm_prog 173 48 = some (0, .iconst 2, 49, []) := by decide +kernel
theorem xe_173_48 (a0 a1 a2 a3 : Option MV) (st : List MV) (μ : MM) (G : MG) : ev 173 48 [a0, a1, a2, a3] st μ G = ev 173 49 [a0, a1, a2, a3] (vI (2) :: st) μ G := ev_stp pg_173_48 rfl
theorem pg_173_49 : mm_prog 173 49 = some (0, .dup2, 50, []) := by decide +kernel
theorem xe_173_49 (a0 a1 a2 a3 : Option MV) (x y : Int) (st : List MV) (μ : MM) (G : MG) : ev 173 49 [a0, a1, a2, a3] (vI x :: vR y :: st) μ G = ev 173 50 [a0, a1, a2, a3] (vI x :: vR y :: vI x :: vR y :: st) μ G := ev_stp pg_173_49 rfl
theorem pg_173_50 : mm_prog 173 50 = some (0, .iaload, 51, []) := by decide +kernel
theorem xe_173_50 (a0 a1 a2 a3 : Option MV) (x y : Int) (st : List MV) (μ : MM) (G : MG) : ev 173 50 [a0, a1, a2, a3] (vI x :: vR y :: st) μ G = if gk G y = 100 ∧ 0 ≤ x ∧ x < gl G y then ev 173 51 [a0, a1, a2, a3] (vI (μ y x) :: st) μ G else none := ev_if pg_173_50 rfl
theorem pg_173_51 : mm_prog 173 51 = some (0, .iconst 1, 52, []) := by decide +kernel
theorem xe_173_51 (a0 a1 a2 a3 : Option MV) (st : List MV) (μ : MM) (G : MG) : ev 173 51 [a0, a1, a2, a3] st μ G = ev 173 52 [a0, a1, a2, a3] (vI (1) :: st) μ G := ev_stp pg_173_51 rfl
theorem pg_173_52 : mm_prog 173 52 = some (0, .iadd, 53, []) := by decide +kernel
theorem xe_173_52 (a0 a1 a2 a3 : Option MV) (x y : Int) (st : List MV) (μ : MM) (G : MG) : ev 173 52 [a0, a1, a2, a3] (vI y :: vI x :: st) μ G = ev 173 53 [a0, a1, a2, a3] (vI (w32 (x + y)) :: st) μ G := ev_stp pg_173_52 rfl
theorem pg_173_53 : mm_prog 173 53 = some (0, .iastore, 54, []) := by decide +kernel
theorem xe_173_53 (a0 a1 a2 a3 : Option MV) (x y z : Int) (st : List MV) (μ : MM) (G : MG) : ev 173 53 [a0, a1, a2, a3] (vI x :: vI y :: vR z :: st) μ G = if gk G z = 100 ∧ 0 ≤ y ∧ y < gl G z ∧ 10 ≤ z then ev 173 54 [a0, a1, a2, a3] st (mset μ z y x) G else none := ev_if pg_173_53 rfl
theorem pg_173_54 : mm_prog 173 54 = some (0, .goto 164, 57, []) := by decide +kernel
theorem xe_173_54 (a0 a1 a2 a3 : Option MV) (st : List MV) (μ : MM) (G : MG) : ev 173 54 [a0, a1, a2, a3] st μ G = ev 173 218 [a0, a1, a2, a3] st μ G := ev_stp pg_173_54 rfl
theorem pg_173_57 : mm_prog 173 57 = some (0, .aload_n 0, 58, []) := by decide +kernel
theorem xe_173_57 (a1 a2 a3 : Option MV) (x : Int) (st : List MV) (μ : MM) (G : MG) : ev 173 57 [some (vR x), a1, a2, a3] st μ G = ev 173 58 [some (vR x), a1, a2, a3] (vR x :: st) μ G := ev_stp pg_173_57 rfl
theorem pg_173_58 : mm_prog 173 58 = some (0, .aload_n 0, 59, []) := by decide +kernel
theorem xe_173_58 (a1 a2 a3 : Option MV) (x : Int) (st : List MV) (μ : MM) (G : MG) : ev 173 58 [some (vR x), a1, a2, a3] st μ G = ev 173 59 [some (vR x), a1, a2, a3] (vR x :: st) μ G := ev_stp pg_173_58 rfl
theorem pg_173_59 : mm_prog 173 59 = some (0, .getfield 26, 62, [11, 9, 2]) := by decide +kernel
theorem xe_173_59 (a0 a1 a2 a3 : Option MV) (x : Int) (st : List MV) (μ : MM) (G : MG) : ev 173 59 [a0, a1, a2, a3] (vR x :: st) μ G = if gk G x = 11 then ev 173 62 [a0, a1, a2, a3] (vR (μ x 9) :: st) μ G else none := ev_if pg_173_59 rfl
theorem pg_173_62 : mm_prog 173 62 = some (0, .iload_n 2, 63, []) := by decide +kernel
theorem xe_173_62 (a0 a1 a3 : Option MV) (x : Int) (st : List MV) (μ : MM) (G : MG) : ev 173 62 [a0, a1, some (vI x), a3] st μ G = ev 173 63 [a0, a1, some (vI x), a3] (vI x :: st) μ G := ev_stp pg_173_62 rfl
theorem pg_173_63 : mm_prog 173 63 = some (0, .iconst 1, 64, []) := by decide +kernel
theorem xe_173_63 (a0 a1 a2 a3 : Option MV) (st : List MV) (μ : MM) (G : MG) : ev 173 63 [a0, a1, a2, a3] st μ G = ev 173 64 [a0, a1, a2, a3] (vI (1) :: st) μ G := ev_stp pg_173_63 rfl
theorem pg_173_64 : mm_prog 173 64 = some (0, .iadd, 65, []) := by decide +kernel
theorem xe_173_64 (a0 a1 a2 a3 : Option MV) (x y : Int) (st : List MV) (μ : MM) (G : MG) : ev 173 64 [a0, a1, a2, a3] (vI y :: vI x :: st) μ G = ev 173 65 [a0, a1, a2, a3] (vI (w32 (x + y)) :: st) μ G := ev_stp pg_173_64 rfl
theorem pg_173_65 : mm_prog 173 65 = some (0, .iaload, 66, []) := by decide +kernel
theorem xe_173_65 (a0 a1 a2 a3 : Option MV) (x y : Int) (st : List MV) (μ : MM) (G : MG) : ev 173 65 [a0, a1, a2, a3] (vI x :: vR y :: st) μ G = if gk G y = 100 ∧ 0 ≤ x ∧ x < gl G y then ev 173 66 [a0, a1, a2, a3] (vI (μ y x) :: st) μ G else none := ev_if pg_173_65 rfl
theorem pg_173_66 : mm_prog 173 66 = some (0, .aload_n 0, 67, []) := by decide +kernel
theorem xe_173_66 (a1 a2 a3 : Option MV) (x : Int) (st : List MV) (μ : MM) (G : MG) : ev 173 66 [some (vR x), a1, a2, a3] st μ G = ev 173 67 [some (vR x), a1, a2, a3] (vR x :: st) μ G := ev_stp pg_173_66 rfl
theorem pg_173_67 : mm_prog 173 67 = some (0, .getfield 26, 70, [11, 9, 2]) := by decide +kernel
theorem xe_173_67 (a0 a1 a2 a3 : Option MV) (x : Int) (st : List MV) (μ : MM) (G : MG) : ev 173 67 [a0, a1, a2, a3] (vR x :: st) μ G = if gk G x = 11 then ev 173 70 [a0, a1, a2, a3] (vR (μ x 9) :: st) μ G else none := ev_if pg_173_67 rfl
theorem pg_173_70 : mm_prog 173 70 = some (0, .iload_n 2, 71, []) := by decide +kernel
theorem xe_173_70 (a0 a1 a3 : Option MV) (x : Int) (st : List MV) (μ : MM) (G : MG) : ev 173 70 [a0, a1, some (vI x), a3] st μ G = ev 173 71 [a0, a1, some (vI x), a3] (vI x :: st) μ G := ev_stp pg_173_70 rfl
theorem pg_173_71 : mm_prog 173 71 = some (0, .iconst 5, 72, []) := by decide +kernel
theorem xe_173_71 (a0 a1 a2 a3 : Option MV) (st : List MV) (μ : MM) (G : MG) : ev 173 71 [a0, a1, a2, a3] st μ G = ev 173 72 [a0, a1, a2, a3] (vI (5) :: st) μ G := ev_stp pg_173_71 rfl
theorem pg_173_72 : mm_prog 173 72 = some (0, .iadd, 73, []) := by decide +kernel
theorem xe_173_72 (a0 a1 a2 a3 : Option MV) (x y : Int) (st : List MV) (μ : MM) (G : MG) : ev 173 72 [a0, a1, a2, a3] (vI y :: vI x :: st) μ G = ev 173 73 [a0, a1, a2, a3] (vI (w32 (x + y)) :: st) μ G := ev_stp pg_173_72 rfl
theorem pg_173_73 : mm_prog 173 73 = some (0, .iaload, 74, []) := by decide +kernel
theorem xe_173_73 (a0 a1 a2 a3 : Option MV) (x y : Int) (st : List MV) (μ : MM) (G : MG) : ev 173 73 [a0, a1, a2, a3] (vI x :: vR y :: st) μ G = if gk G y = 100 ∧ 0 ≤ x ∧ x < gl G y then ev 173 74 [a0, a1, a2, a3] (vI (μ y x) :: st) μ G else none := ev_if pg_173_73 rfl
theorem pg_173_74 : mm_prog 173 74 = some (0, .aload_n 0, 75, []) := by decide +kernel
theorem xe_173_74 (a1 a2 a3 : Option MV) (x : Int) (st : List MV) (μ : MM) (G : MG) : ev 173 74 [some (vR x), a1, a2, a3] st μ G = ev 173 75 [some (vR x), a1, a2, a3] (vR x :: st) μ G := ev_stp pg_173_74 rfl
theorem pg_173_75 : mm_prog 173 75 = some (0, .getfield 26, 78, [11, 9, 2]) := by decide +kernel
theorem xe_173_75 (a0 a1 a2 a3 : Option MV) (x : Int) (st : List MV) (μ : MM) (G : MG) : ev 173 75 [a0, a1, a2, a3] (vR x :: st) μ G = if gk G x = 11 then ev 173 78 [a0, a1, a2, a3] (vR (μ x 9) :: st) μ G else none := ev_if pg_173_75 rfl
theorem pg_173_78 : mm_prog 173 78 = some (0, .iload_n 2, 79, []) := by decide +kernel
theorem xe_173_78 (a0 a1 a3 : Option MV) (x : Int) (st : List MV) (μ : MM) (G : MG) : ev 173 78 [a0, a1, some (vI x), a3] st μ G = ev 173 79 [a0, a1, some (vI x), a3] (vI x :: st) μ G := ev_stp pg_173_78 rfl
theorem pg_173_79 : mm_prog 173 79 = some (0, .iaload, 80, []) := by decide +kernel
theorem xe_173_79 (a0 a1 a2 a3 : Option MV) (x y : Int) (st : List MV) (μ : MM) (G : MG) : ev 173 79 [a0, a1, a2, a3] (vI x :: vR y :: st) μ G = if gk G y = 100 ∧ 0 ≤ x ∧ x < gl G y then ev 173 80 [a0, a1, a2, a3] (vI (μ y x) :: st) μ G else none := ev_if pg_173_79 rfl
theorem pg_173_80 : mm_prog 173 80 = some (0, .aload_n 0, 81, []) := by decide +kernel
theorem xe_173_80 (a1 a2 a3 : Option MV) (x : Int) (st : List MV) (μ : MM) (G : MG) : ev 173 80 [some (vR x), a1, a2, a3] st μ G = ev 173 81 [some (vR x), a1, a2, a3] (vR x :: st) μ G := ev_stp pg_173_80 rfl
theorem pg_173_81 : mm_prog 173 81 = some (0, .getfield 26, 84, [11, 9, 2]) := by decide +kernel
theorem xe_173_81 (a0 a1 a2 a3 : Option MV) (x : Int) (st : List MV) (μ : MM) (G : MG) : ev 173 81 [a0, a1, a2, a3] (vR x :: st) μ G = if gk G x = 11 then ev 173 84 [a0, a1, a2, a3] (vR (μ x 9) :: st) μ G else none := ev_if pg_173_81 rfl
theorem pg_173_84 : mm_prog 173 84 = some (0, .iload_n 2, 85, []) := by decide +kernel
theorem xe_173_84 (a0 a1 a3 : Option MV) (x : Int) (st : List MV) (μ : MM) (G : MG) : ev 173 84 [a0, a1, some (vI x), a3] st μ G = ev 173 85 [a0, a1, some (vI x), a3] (vI x :: st) μ G := ev_stp pg_173_84 rfl
theorem pg_173_85 : mm_prog 173 85 = some (0, .iconst 1, 86, []) := by decide +kernel
theorem xe_173_85 (a0 a1 a2 a3 : Option MV) (st : List MV) (μ : MM) (G : MG) : ev 173 85 [a0, a1, a2, a3] st μ G = ev 173 86 [a0, a1, a2, a3] (vI (1) :: st) μ G := ev_stp pg_173_85 rfl
theorem pg_173_86 : mm_prog 173 86 = some (0, .iadd, 87, []) := by decide +kernel
theorem xe_173_86 (a0 a1 a2 a3 : Option MV) (x y : Int) (st : List MV) (μ : MM) (G : MG) : ev 173 86 [a0, a1, a2, a3] (vI y :: vI x :: st) μ G = ev 173 87 [a0, a1, a2, a3] (vI (w32 (x + y)) :: st) μ G := ev_stp pg_173_86 rfl
theorem pg_173_87 : mm_prog 173 87 = some (0, .iaload, 88, []) := by decide +kernel
theorem xe_173_87 (a0 a1 a2 a3 : Option MV) (x y : Int) (st : List MV) (μ : MM) (G : MG) : ev 173 87 [a0, a1, a2, a3] (vI x :: vR y :: st) μ G = if gk G y = 100 ∧ 0 ≤ x ∧ x < gl G y then ev 173 88 [a0, a1, a2, a3] (vI (μ y x) :: st) μ G else none := ev_if pg_173_87 rfl
theorem pg_173_88 : mm_prog 173 88 = some (0, .aload_n 0, 89, []) := by decide +kernel
theorem xe_173_88 (a1 a2 a3 : Option MV) (x : Int) (st : List MV) (μ : MM) (G : MG) : ev 173 88 [some (vR x), a1, a2, a3] st μ G = ev 173 89 [some (vR x), a1, a2, a3] (vR x :: st) μ G := ev_stp pg_173_88 rfl
theorem pg_173_89 : mm_prog 173 89 = some (0, .getfield 26, 92, [11, 9, 2]) := by decide +kernel
theorem xe_173_89 (a0 a1 a2 a3 : Option MV) (x : Int) (st : List MV) (μ : MM) (G : MG) : ev 173 89 [a0, a1, a2, a3] (vR x :: st) μ G = if gk G x = 11 then ev 173 92 [a0, a1, a2, a3] (vR (μ x 9) :: st) μ G else none := ev_if pg_173_89 rfl
theorem pg_173_92 : mm_prog 173 92 = some (0, .iload_n 2, 93, []) := by decide +kernel
theorem xe_173_92 (a0 a1 a3 : Option MV) (x : Int) (st : List MV) (μ : MM) (G : MG) : ev 173 92 [a0, a1, some (vI x), a3] st μ G = ev 173 93 [a0, a1, some (vI x), a3] (vI x :: st) μ G := ev_stp pg_173_92 rfl
theorem pg_173_93 : mm_prog 173 93 = some (0, .iconst 1, 94, []) := by decide +kernel
theorem xe_173_93 (a0 a1 a2 a3 : Option MV) (st : List MV) (μ : MM) (G : MG) : ev 173 93 [a0, a1, a2, a3] st μ G = ev 173 94 [a0, a1, a2, a3] (vI (1) :: st) μ G := ev_stp pg_173_93 rfl
theorem pg_173_94 : mm_prog 173 94 = some (0, .iadd, 95, []) := by decide +kernel
theorem xe_173_94 (a0 a1 a2 a3 : Option MV) (x y : Int) (st : List MV) (μ : MM) (G : MG) : ev 173 94 [a0, a1, a2, a3] (vI y :: vI x :: st) μ G = ev 173 95 [a0, a1, a2, a3] (vI (w32 (x + y)) :: st) μ G := ev_stp pg_173_94 rfl
theorem pg_173_95 : mm_prog 173 95 = some (0, .iconst 1, 96, []) := by decide +kernel
theorem xe_173_95 (a0 a1 a2 a3 : Option MV) (st : List MV) (μ : MM) (G : MG) : ev 173 95 [a0, a1, a2, a3] st μ G = ev 173 96 [a0, a1, a2, a3] (vI (1) :: st) μ G := ev_stp pg_173_95 rfl
theorem pg_173_96 : mm_prog 173 96 = some (0, .iadd, 97, []) := by decide +kernel
theorem xe_173_96 (a0 a1 a2 a3 : Option MV) (x y : Int) (st : List MV) (μ : MM) (G : MG) : ev 173 96 [a0, a1, a2, a3] (vI y :: vI x :: st) μ G = ev 173 97 [a0, a1, a2, a3] (vI (w32 (x + y)) :: st) μ G := ev_stp pg_173_96 rfl
theorem pg_173_97 : mm_prog 173 97 = some (0, .iaload, 98, []) := by decide +kernel
theorem xe_173_97 (a0 a1 a2 a3 : Option MV) (x y : Int) (st : List MV) (μ : MM) (G : MG) : ev 173 97 [a0, a1, a2, a3] (vI x :: vR y :: st) μ G = if gk G y = 100 ∧ 0 ≤ x ∧ x < gl G y then ev 173 98 [a0, a1, a2, a3] (vI (μ y x) :: st) μ G else none := ev_if pg_173_97 rfl
theorem pg_173_98 : mm_prog 173 98 = some (0, .iadd, 99, []) := by decide +kernel
theorem xe_173_98 (a0 a1 a2 a3 : Option MV) (x y : Int) (st : List MV) (μ : MM) (G : MG) : ev 173 98 [a0, a1, a2, a3] (vI y :: vI x :: st) μ G = ev 173 99 [a0, a1, a2, a3] (vI (w32 (x + y)) :: st) μ G := ev_stp pg_173_98 rfl
theorem pg_173_99 : mm_prog 173 99 = some (0, .aload_n 0, 100, []) := by decide +kernel
theorem xe_173_99 (a1 a2 a3 : Option MV) (x : Int) (st : List MV) (μ : MM) (G : MG) : ev 173 99 [some (vR x), a1, a2, a3] st μ G = ev 173 100 [some (vR x), a1, a2, a3] (vR x :: st) μ G := ev_stp pg_173_99 rfl
theorem pg_173_100 : mm_prog 173 100 = some (0, .getfield 26, 103, [11, 9, 2]) := by decide +kernel
theorem xe_173_100 (a0 a1 a2 a3 : Option MV) (x : Int) (st : List MV) (μ : MM) (G : MG) : ev 173 100 [a0, a1, a2, a3] (vR x :: st) μ G = if gk G x = 11 then ev 173 103 [a0, a1, a2, a3] (vR (μ x 9) :: st) μ G else none := ev_if pg_173_100 rfl
theorem pg_173_103 : mm_prog 173 103 = some (0, .iload_n 2, 104, []) := by decide +kernel
theorem xe_173_103 (a0 a1 a3 : Option MV) (x : Int) (st : List MV) (μ : MM) (G : MG) : ev 173 103 [a0, a1, some (vI x), a3] st μ G = ev 173 104 [a0, a1, some (vI x), a3] (vI x :: st) μ G := ev_stp pg_173_103 rfl
theorem pg_173_104 : mm_prog 173 104 = some (0, .iconst 5, 105, []) := by decide +kernel
theorem xe_173_104 (a0 a1 a2 a3 : Option MV) (st : List MV) (μ : MM) (G : MG) : ev 173 104 [a0, a1, a2, a3] st μ G = ev 173 105 [a0, a1, a2, a3] (vI (5) :: st) μ G := ev_stp pg_173_104 rfl
theorem pg_173_105 : mm_prog 173 105 = some (0, .iadd, 106, []) := by decide +kernel
theorem xe_173_105 (a0 a1 a2 a3 : Option MV) (x y : Int) (st : List MV) (μ : MM) (G : MG) : ev 173 105 [a0, a1, a2, a3] (vI y :: vI x :: st) μ G = ev 173 106 [a0, a1, a2, a3] (vI (w32 (x + y)) :: st) μ G := ev_stp pg_173_105 rfl
theorem pg_173_106 : mm_prog 173 106 = some (0, .iaload, 107, []) := by decide +kernel
theorem xe_173_106 (a0 a1 a2 a3 : Option MV) (x y : Int) (st : List MV) (μ : MM) (G : MG) : ev 173 106 [a0, a1, a2, a3] (vI x :: vR y :: st) μ G = if gk G y = 100 ∧ 0 ≤ x ∧ x < gl G y then ev 173 107 [a0, a1, a2, a3] (vI (μ y x) :: st) μ G else none := ev_if pg_173_106 rfl
theorem pg_173_107 : mm_prog 173 107 = some (0, .aload_n 0, 108, []) := by decide +kernel
theorem xe_173_107 (a1 a2 a3 : Option MV) (x : Int) (st : List MV) (μ : MM) (G : MG) : ev 173 107 [some (vR x), a1, a2, a3] st μ G = ev 173 108 [some (vR x), a1, a2, a3] (vR x :: st) μ G := ev_stp pg_173_107 rfl
theorem pg_173_108 : mm_prog 173 108 = some (0, .getfield 26, 111, [11, 9, 2]) := by decide +kernel
theorem xe_173_108 (a0 a1 a2 a3 : Option MV) (x : Int) (st : List MV) (μ : MM) (G : MG) : ev 173 108 [a0, a1, a2, a3] (vR x :: st) μ G = if gk G x = 11 then ev 173 111 [a0, a1, a2, a3] (vR (μ x 9) :: st) μ G else none := ev_if pg_173_108 rfl
theorem pg_173_111 : mm_prog 173 111 = some (0, .iload_n 2, 112, []) := by decide +kernel
theorem xe_173_111 (a0 a1 a3 : Option MV) (x : Int) (st : List MV) (μ : MM) (G : MG) : ev 173 111 [a0, a1, some (vI x), a3] st μ G = ev 173 112 [a0, a1, some (vI x), a3] (vI x :: st) μ G := ev_stp pg_173_111 rfl
theorem pg_173_112 : mm_prog 173 112 = some (0, .iconst 5, 113, []) := by decide +kernel
theorem xe_173_112 (a0 a1 a2 a3 : Option MV) (st : List MV) (μ : MM) (G : MG) : ev 173 112 [a0, a1, a2, a3] st μ G = ev 173 113 [a0, a1, a2, a3] (vI (5) :: st) μ G := ev_stp pg_173_112 rfl
theorem pg_173_113 : mm_prog 173 113 = some (0, .iadd, 114, []) := by decide +kernel
theorem xe_173_113 (a0 a1 a2 a3 : Option MV) (x y : Int) (st : List MV) (μ : MM) (G : MG) : ev 173 113 [a0, a1, a2, a3] (vI y :: vI x :: st) μ G = ev 173 114 [a0, a1, a2, a3] (vI (w32 (x + y)) :: st) μ G := ev_stp pg_173_113 rfl
theorem pg_173_114 : mm_prog 173 114 = some (0, .iconst 1, 115, []) := by decide +kernel
theorem xe_173_114 (a0 a1 a2 a3 : Option MV) (st : List MV) (μ : MM) (G : MG) : ev 173 114 [a0, a1, a2, a3] st μ G = ev 173 115 [a0, a1, a2, a3] (vI (1) :: st) μ G := ev_stp pg_173_114 rfl
theorem pg_173_115 : mm_prog 173 115 = some (0, .iadd, 116, []) := by decide +kernel
theorem xe_173_115 (a0 a1 a2 a3 : Option MV) (x y : Int) (st : List MV) (μ : MM) (G : MG) : ev 173 115 [a0, a1, a2, a3] (vI y :: vI x :: st) μ G = ev 173 116 [a0, a1, a2, a3] (vI (w32 (x + y)) :: st) μ G := ev_stp pg_173_115 rfl
theorem pg_173_116 : mm_prog 173 116 = some (0, .iaload, 117, []) := by decide +kernel
theorem xe_173_116 (a0 a1 a2 a3 : Option MV) (x y : Int) (st : List MV) (μ : MM) (G : MG) : ev 173 116 [a0, a1, a2, a3] (vI x :: vR y :: st) μ G = if gk G y = 100 ∧ 0 ≤ x ∧ x < gl G y then ev 173 117 [a0, a1, a2, a3] (vI (μ y x) :: st) μ G else none := ev_if pg_173_116 rfl
theorem pg_173_117 : mm_prog 173 117 = some (0, .iadd, 118, []) := by decide +kernel
theorem xe_173_117 (a0 a1 a2 a3 : Option MV) (x y : Int) (st : List MV) (μ : MM) (G : MG) : ev 173 117 [a0, a1, a2, a3] (vI y :: vI x :: st) μ G = ev 173 118 [a0, a1, a2, a3] (vI (w32 (x + y)) :: st) μ G := ev_stp pg_173_117 rfl
theorem pg_173_118 : mm_prog 173 118 = some (0, .iload_n 1, 119, []) := by decide +kernel
theorem xe_173_118 (a0 a2 a3 : Option MV) (x : Int) (st : List MV) (μ : MM) (G : MG) : ev 173 118 [a0, some (vI x), a2, a3] st μ G = ev 173 119 [a0, some (vI x), a2, a3] (vI x :: st) μ G := ev_stp pg_173_118 rfl
theorem pg_173_119 : mm_prog 173 119 = some (0, .aload_n 0, 120, []) := by decide +kernel
theorem xe_173_119 (a1 a2 a3 : Option MV) (x : Int) (st : List MV) (μ : MM) (G : MG) : ev 173 119 [some (vR x), a1, a2, a3] st μ G = ev 173 120 [some (vR x), a1, a2, a3] (vR x :: st) μ G := ev_stp pg_173_119 rfl
theorem pg_173_120 : mm_prog 173 120 = some (0, .getfield 176, 123, [11, 19, 0]) := by decide +kernel
theorem xe_173_120 (a0 a1 a2 a3 : Option MV) (x : Int) (st : List MV) (μ : MM) (G : MG) : ev 173 120 [a0, a1, a2, a3] (vR x :: st) μ G = if gk G x = 11 then ev 173 123 [a0, a1, a2, a3] (vI (μ x 19) :: st) μ G else none := ev_if pg_173_120 rfl
theorem pg_173_123 : mm_prog 173 123 = some (0, .if_icmp .ge 7, 126, []) := by decide +kernel
theorem xe_173_123 (a0 a1 a2 a3 : Option MV) (x y : Int) (st : List MV) (μ : MM) (G : MG) : ev 173 123 [a0, a1, a2, a3] (vI y :: vI x :: st) μ G = if y ≤ x then ev 173 130 [a0, a1, a2, a3] st μ G else ev 173 126 [a0, a1, a2, a3] st μ G := ev_br (mm_cnd_ge x y) pg_173_123 rfl
theorem pg_173_126 : mm_prog 173 126 = some (0, .iconst 0, 127, []) := by decide +kernel
theorem xe_173_126 (a0 a1 a2 a3 : Option MV) (st : List MV) (μ : MM) (G : MG) : ev 173 126 [a0, a1, a2, a3] st μ G = ev 173 127 [a0, a1, a2, a3] (vI (0) :: st) μ G := ev_stp pg_173_126 rfl
theorem pg_173_127 : mm_prog 173 127 = some (0, .goto 4, 130, []) := by decide +kernel
theorem xe_173_127 (a0 a1 a2 a3 : Option MV) (st : List MV) (μ : MM) (G : MG) : ev 173 127 [a0, a1, a2, a3] st μ G = ev 173 131 [a0, a1, a2, a3] st μ G := ev_stp pg_173_127 rfl
theorem pg_173_130 : mm_prog 173 130 = some (0, .iconst 1, 131, []) := by decide +kernel
theorem xe_173_130 (a0 a1 a2 a3 : Option MV) (st : List MV) (μ : MM) (G : MG) : ev 173 130 [a0, a1, a2, a3] st μ G = ev 173 131 [a0, a1, a2, a3] (vI (1) :: st) μ G := ev_stp pg_173_130 rfl
theorem pg_173_131 : mm_prog 173 131 = some (1, .invokevirtual 197, 134, [1, 171, 6, 11]) := by decide +kernel
theorem xe_173_131 (a0 a1 a2 a3 : Option MV) (x0 x1 x2 x3 x4 x5 z : Int) (μ : MM) (G : MG) : ev 173 131 [a0, a1, a2, a3] (vI x5 :: vI x4 :: vI x3 :: vI x2 :: vI x1 :: vI x0 :: vR z :: []) μ G = if gk G z = 11 ∧ 0 < z then (ev 171 0 [some (vR z), some (vI x0), some (vI x1), some (vI x2), some (vI x3), some (vI x4), some (vI x5), none, none, none, none] [] μ G).bind (fun q => ev 173 134 [a0, a1, a2, a3] (q.1.toList ++ []) q.2.1 q.2.2) else none := ev_calV (as := [vR z, vI x0, vI x1, vI x2, vI x3, vI x4, vI x5]) (r := []) mx_171 pg_173_131 rfl rfl (Nat.le_of_ble_eq_true rfl) (Nat.le_of_ble_eq_true rfl)
theorem pg_173_134 : mm_prog 173 134 = some (0, .istore_n 3, 135, []) := by decide +kernel
theorem xe_173_134 (a0 a1 a2 a3 : Option MV) (x : Int) (st : List MV) (μ : MM) (G : MG) (h : mm_nL a2 = true) : ev 173 134 [a0, a1, a2, a3] (vI x :: st) μ G = ev 173 135 [a0, a1, a2, some (vI x)] st μ G := ev_st pg_173_134 rfl (mm_nl_of h) (Nat.le_of_ble_eq_true rfl)
theorem pg_173_135 : mm_prog 173 135 = some (0, .iload_n 3, 136, []) := by decide +kernel
theorem xe_173_135 (a0 a1 a2 : Option MV) (x : Int) (st : List MV) (μ : MM) (G : MG) : ev 173 135 [a0, a1, a2, some (vI x)] st μ G = ev 173 136 [a0, a1, a2, some (vI x)] (vI x :: st) μ G := ev_stp pg_173_135 rfl
theorem pg_173_136 : mm_prog 173 136 = some (0, .ifCond .eq 47, 139, []) := by decide +kernel
theorem xe_173_136 (a0 a1 a2 a3 : Option MV) (x : Int) (st : List MV) (μ : MM) (G : MG) : ev 173 136 [a0, a1, a2, a3] (vI x :: st) μ G = if x = 0 then ev 173 183 [a0, a1, a2, a3] st μ G else ev 173 139 [a0, a1, a2, a3] st μ G := ev_br (mm_cnd_eq x 0) pg_173_136 rfl
theorem pg_173_139 : mm_prog 173 139 = some (0, .aload_n 0, 140, []) := by decide +kernel
theorem xe_173_139 (a1 a2 a3 : Option MV) (x : Int) (st : List MV) (μ : MM) (G : MG) : ev 173 139 [some (vR x), a1, a2, a3] st μ G = ev 173 140 [some (vR x), a1, a2, a3] (vR x :: st) μ G := ev_stp pg_173_139 rfl
theorem pg_173_140 : mm_prog 173 140 = some (0, .aload_n 0, 141, []) := by decide +kernel
theorem xe_173_140 (a1 a2 a3 : Option MV) (x : Int) (st : List MV) (μ : MM) (G : MG) : ev 173 140 [some (vR x), a1, a2, a3] st μ G = ev 173 141 [some (vR x), a1, a2, a3] (vR x :: st) μ G := ev_stp pg_173_140 rfl
theorem pg_173_141 : mm_prog 173 141 = some (0, .getfield 26, 144, [11, 9, 2]) := by decide +kernel
theorem xe_173_141 (a0 a1 a2 a3 : Option MV) (x : Int) (st : List MV) (μ : MM) (G : MG) : ev 173 141 [a0, a1, a2, a3] (vR x :: st) μ G = if gk G x = 11 then ev 173 144 [a0, a1, a2, a3] (vR (μ x 9) :: st) μ G else none := ev_if pg_173_141 rfl
theorem pg_173_144 : mm_prog 173 144 = some (0, .iload_n 2, 145, []) := by decide +kernel
theorem xe_173_144 (a0 a1 a3 : Option MV) (x : Int) (st : List MV) (μ : MM) (G : MG) : ev 173 144 [a0, a1, some (vI x), a3] st μ G = ev 173 145 [a0, a1, some (vI x), a3] (vI x :: st) μ G := ev_stp pg_173_144 rfl
theorem pg_173_145 : mm_prog 173 145 = some (0, .iconst 1, 146, []) := by decide +kernel
theorem xe_173_145 (a0 a1 a2 a3 : Option MV) (st : List MV) (μ : MM) (G : MG) : ev 173 145 [a0, a1, a2, a3] st μ G = ev 173 146 [a0, a1, a2, a3] (vI (1) :: st) μ G := ev_stp pg_173_145 rfl
theorem pg_173_146 : mm_prog 173 146 = some (0, .iadd, 147, []) := by decide +kernel
theorem xe_173_146 (a0 a1 a2 a3 : Option MV) (x y : Int) (st : List MV) (μ : MM) (G : MG) : ev 173 146 [a0, a1, a2, a3] (vI y :: vI x :: st) μ G = ev 173 147 [a0, a1, a2, a3] (vI (w32 (x + y)) :: st) μ G := ev_stp pg_173_146 rfl
theorem pg_173_147 : mm_prog 173 147 = some (0, .iconst 2, 148, []) := by decide +kernel
theorem xe_173_147 (a0 a1 a2 a3 : Option MV) (st : List MV) (μ : MM) (G : MG) : ev 173 147 [a0, a1, a2, a3] st μ G = ev 173 148 [a0, a1, a2, a3] (vI (2) :: st) μ G := ev_stp pg_173_147 rfl
theorem pg_173_148 : mm_prog 173 148 = some (0, .iadd, 149, []) := by decide +kernel
theorem xe_173_148 (a0 a1 a2 a3 : Option MV) (x y : Int) (st : List MV) (μ : MM) (G : MG) : ev 173 148 [a0, a1, a2, a3] (vI y :: vI x :: st) μ G = ev 173 149 [a0, a1, a2, a3] (vI (w32 (x + y)) :: st) μ G := ev_stp pg_173_148 rfl
theorem pg_173_149 : mm_prog 173 149 = some (0, .iaload, 150, []) := by decide +kernel
theorem xe_173_149 (a0 a1 a2 a3 : Option MV) (x y : Int) (st : List MV) (μ : MM) (G : MG) : ev 173 149 [a0, a1, a2, a3] (vI x :: vR y :: st) μ G = if gk G y = 100 ∧ 0 ≤ x ∧ x < gl G y then ev 173 150 [a0, a1, a2, a3] (vI (μ y x) :: st) μ G else none := ev_if pg_173_149 rfl
theorem pg_173_150 : mm_prog 173 150 = some (0, .aload_n 0, 151, []) := by decide +kernel
theorem xe_173_150 (a1 a2 a3 : Option MV) (x : Int) (st : List MV) (μ : MM) (G : MG) : ev 173 150 [some (vR x), a1, a2, a3] st μ G = ev 173 151 [some (vR x), a1, a2, a3] (vR x :: st) μ G := ev_stp pg_173_150 rfl
theorem pg_173_151 : mm_prog 173 151 = some (0, .getfield 26, 154, [11, 9, 2]) := by decide +kernel
theorem xe_173_151 (a0 a1 a2 a3 : Option MV) (x : Int) (st : List MV) (μ : MM) (G : MG) : ev 173 151 [a0, a1, a2, a3] (vR x :: st) μ G = if gk G x = 11 then ev 173 154 [a0, a1, a2, a3] (vR (μ x 9) :: st) μ G else none := ev_if pg_173_151 rfl
theorem pg_173_154 : mm_prog 173 154 = some (0, .iload_n 2, 155, []) := by decide +kernel
theorem xe_173_154 (a0 a1 a3 : Option MV) (x : Int) (st : List MV) (μ : MM) (G : MG) : ev 173 154 [a0, a1, some (vI x), a3] st μ G = ev 173 155 [a0, a1, some (vI x), a3] (vI x :: st) μ G := ev_stp pg_173_154 rfl
theorem pg_173_155 : mm_prog 173 155 = some (0, .iconst 1, 156, []) := by decide +kernel
theorem xe_173_155 (a0 a1 a2 a3 : Option MV) (st : List MV) (μ : MM) (G : MG) : ev 173 155 [a0, a1, a2, a3] st μ G = ev 173 156 [a0, a1, a2, a3] (vI (1) :: st) μ G := ev_stp pg_173_155 rfl
theorem pg_173_156 : mm_prog 173 156 = some (0, .iadd, 157, []) := by decide +kernel
theorem xe_173_156 (a0 a1 a2 a3 : Option MV) (x y : Int) (st : List MV) (μ : MM) (G : MG) : ev 173 156 [a0, a1, a2, a3] (vI y :: vI x :: st) μ G = ev 173 157 [a0, a1, a2, a3] (vI (w32 (x + y)) :: st) μ G := ev_stp pg_173_156 rfl
theorem pg_173_157 : mm_prog 173 157 = some (0, .iconst 3, 158, []) := by decide +kernel
theorem xe_173_157 (a0 a1 a2 a3 : Option MV) (st : List MV) (μ : MM) (G : MG) : ev 173 157 [a0, a1, a2, a3] st μ G = ev 173 158 [a0, a1, a2, a3] (vI (3) :: st) μ G := ev_stp pg_173_157 rfl
theorem pg_173_158 : mm_prog 173 158 = some (0, .iadd, 159, []) := by decide +kernel
theorem xe_173_158 (a0 a1 a2 a3 : Option MV) (x y : Int) (st : List MV) (μ : MM) (G : MG) : ev 173 158 [a0, a1, a2, a3] (vI y :: vI x :: st) μ G = ev 173 159 [a0, a1, a2, a3] (vI (w32 (x + y)) :: st) μ G := ev_stp pg_173_158 rfl
theorem pg_173_159 : mm_prog 173 159 = some (0, .iaload, 160, []) := by decide +kernel
theorem xe_173_159 (a0 a1 a2 a3 : Option MV) (x y : Int) (st : List MV) (μ : MM) (G : MG) : ev 173 159 [a0, a1, a2, a3] (vI x :: vR y :: st) μ G = if gk G y = 100 ∧ 0 ≤ x ∧ x < gl G y then ev 173 160 [a0, a1, a2, a3] (vI (μ y x) :: st) μ G else none := ev_if pg_173_159 rfl
theorem pg_173_160 : mm_prog 173 160 = some (0, .aload_n 0, 161, []) := by decide +kernel
theorem xe_173_160 (a1 a2 a3 : Option MV) (x : Int) (st : List MV) (μ : MM) (G : MG) : ev 173 160 [some (vR x), a1, a2, a3] st μ G = ev 173 161 [some (vR x), a1, a2, a3] (vR x :: st) μ G := ev_stp pg_173_160 rfl
theorem pg_173_161 : mm_prog 173 161 = some (0, .getfield 26, 164, [11, 9, 2]) := by decide +kernel
theorem xe_173_161 (a0 a1 a2 a3 : Option MV) (x : Int) (st : List MV) (μ : MM) (G : MG) : ev 173 161 [a0, a1, a2, a3] (vR x :: st) μ G = if gk G x = 11 then ev 173 164 [a0, a1, a2, a3] (vR (μ x 9) :: st) μ G else none := ev_if pg_173_161 rfl
theorem pg_173_164 : mm_prog 173 164 = some (0, .iload_n 2, 165, []) := by decide +kernel
theorem xe_173_164 (a0 a1 a3 : Option MV) (x : Int) (st : List MV) (μ : MM) (G : MG) : ev 173 164 [a0, a1, some (vI x), a3] st μ G = ev 173 165 [a0, a1, some (vI x), a3] (vI x :: st) μ G := ev_stp pg_173_164 rfl
theorem pg_173_165 : mm_prog 173 165 = some (0, .iconst 5, 166, []) := by decide +kernel
theorem xe_173_165 (a0 a1 a2 a3 : Option MV) (st : List MV) (μ : MM) (G : MG) : ev 173 165 [a0, a1, a2, a3] st μ G = ev 173 166 [a0, a1, a2, a3] (vI (5) :: st) μ G := ev_stp pg_173_165 rfl
theorem pg_173_166 : mm_prog 173 166 = some (0, .iadd, 167, []) := by decide +kernel
theorem xe_173_166 (a0 a1 a2 a3 : Option MV) (x y : Int) (st : List MV) (μ : MM) (G : MG) : ev 173 166 [a0, a1, a2, a3] (vI y :: vI x :: st) μ G = ev 173 167 [a0, a1, a2, a3] (vI (w32 (x + y)) :: st) μ G := ev_stp pg_173_166 rfl
theorem pg_173_167 : mm_prog 173 167 = some (0, .iconst 2, 168, []) := by decide +kernel
theorem xe_173_167 (a0 a1 a2 a3 : Option MV) (st : List MV) (μ : MM) (G : MG) : ev 173 167 [a0, a1, a2, a3] st μ G = ev 173 168 [a0, a1, a2, a3] (vI (2) :: st) μ G := ev_stp pg_173_167 rfl
theorem pg_173_168 : mm_prog 173 168 = some (0, .iadd, 169, []) := by decide +kernel
theorem xe_173_168 (a0 a1 a2 a3 : Option MV) (x y : Int) (st : List MV) (μ : MM) (G : MG) : ev 173 168 [a0, a1, a2, a3] (vI y :: vI x :: st) μ G = ev 173 169 [a0, a1, a2, a3] (vI (w32 (x + y)) :: st) μ G := ev_stp pg_173_168 rfl
theorem pg_173_169 : mm_prog 173 169 = some (0, .iaload, 170, []) := by decide +kernel
theorem xe_173_169 (a0 a1 a2 a3 : Option MV) (x y : Int) (st : List MV) (μ : MM) (G : MG) : ev 173 169 [a0, a1, a2, a3] (vI x :: vR y :: st) μ G = if gk G y = 100 ∧ 0 ≤ x ∧ x < gl G y then ev 173 170 [a0, a1, a2, a3] (vI (μ y x) :: st) μ G else none := ev_if pg_173_169 rfl
theorem pg_173_170 : mm_prog 173 170 = some (0, .aload_n 0, 171, []) := by decide +kernel
theorem xe_173_170 (a1 a2 a3 : Option MV) (x : Int) (st : List MV) (μ : MM) (G : MG) : ev 173 170 [some (vR x), a1, a2, a3] st μ G = ev 173 171 [some (vR x), a1, a2, a3] (vR x :: st) μ G := ev_stp pg_173_170 rfl
theorem pg_173_171 : mm_prog 173 171 = some (0, .getfield 26, 174, [11, 9, 2]) := by decide +kernel
theorem xe_173_171 (a0 a1 a2 a3 : Option MV) (x : Int) (st : List MV) (μ : MM) (G : MG) : ev 173 171 [a0, a1, a2, a3] (vR x :: st) μ G = if gk G x = 11 then ev 173 174 [a0, a1, a2, a3] (vR (μ x 9) :: st) μ G else none := ev_if pg_173_171 rfl
theorem pg_173_174 : mm_prog 173 174 = some (0, .iload_n 2, 175, []) := by decide +kernel
theorem xe_173_174 (a0 a1 a3 : Option MV) (x : Int) (st : List MV) (μ : MM) (G : MG) : ev 173 174 [a0, a1, some (vI x), a3] st μ G = ev 173 175 [a0, a1, some (vI x), a3] (vI x :: st) μ G := ev_stp pg_173_174 rfl
theorem pg_173_175 : mm_prog 173 175 = some (0, .iconst 5, 176, []) := by decide +kernel
theorem xe_173_175 (a0 a1 a2 a3 : Option MV) (st : List MV) (μ : MM) (G : MG) : ev 173 175 [a0, a1, a2, a3] st μ G = ev 173 176 [a0, a1, a2, a3] (vI (5) :: st) μ G := ev_stp pg_173_175 rfl
theorem pg_173_176 : mm_prog 173 176 = some (0, .iadd, 177, []) := by decide +kernel
theorem xe_173_176 (a0 a1 a2 a3 : Option MV) (x y : Int) (st : List MV) (μ : MM) (G : MG) : ev 173 176 [a0, a1, a2, a3] (vI y :: vI x :: st) μ G = ev 173 177 [a0, a1, a2, a3] (vI (w32 (x + y)) :: st) μ G := ev_stp pg_173_176 rfl
theorem pg_173_177 : mm_prog 173 177 = some (0, .iconst 3, 178, []) := by decide +kernel
theorem xe_173_177 (a0 a1 a2 a3 : Option MV) (st : List MV) (μ : MM) (G : MG) : ev 173 177 [a0, a1, a2, a3] st μ G = ev 173 178 [a0, a1, a2, a3] (vI (3) :: st) μ G := ev_stp pg_173_177 rfl
theorem pg_173_178 : mm_prog 173 178 = some (0, .iadd, 179, []) := by decide +kernel
theorem xe_173_178 (a0 a1 a2 a3 : Option MV) (x y : Int) (st : List MV) (μ : MM) (G : MG) : ev 173 178 [a0, a1, a2, a3] (vI y :: vI x :: st) μ G = ev 173 179 [a0, a1, a2, a3] (vI (w32 (x + y)) :: st) μ G := ev_stp pg_173_178 rfl
theorem pg_173_179 : mm_prog 173 179 = some (0, .iaload, 180, []) := by decide +kernel
theorem xe_173_179 (a0 a1 a2 a3 : Option MV) (x y : Int) (st : List MV) (μ : MM) (G : MG) : ev 173 179 [a0, a1, a2, a3] (vI x :: vR y :: st) μ G = if gk G y = 100 ∧ 0 ≤ x ∧ x < gl G y then ev 173 180 [a0, a1, a2, a3] (vI (μ y x) :: st) μ G else none := ev_if pg_173_179 rfl
theorem pg_173_180 : mm_prog 173 180 = some (1, .invokevirtual 201, 183, [1, 172, 4, 11]) := by decide +kernel
theorem xe_173_180 (a0 a1 a2 a3 : Option MV) (x0 x1 x2 x3 z : Int) (μ : MM) (G : MG) : ev 173 180 [a0, a1, a2, a3] (vI x3 :: vI x2 :: vI x1 :: vI x0 :: vR z :: []) μ G = if gk G z = 11 ∧ 0 < z then (ev 172 0 [some (vR z), some (vI x0), some (vI x1), some (vI x2), some (vI x3), none] [] μ G).bind (fun q => ev 173 183 [a0, a1, a2, a3] (q.1.toList ++ []) q.2.1 q.2.2) else none := ev_calV (as := [vR z, vI x0, vI x1, vI x2, vI x3]) (r := []) mx_172 pg_173_180 rfl rfl (Nat.le_of_ble_eq_true rfl) (Nat.le_of_ble_eq_true rfl)
theorem pg_173_183 : mm_prog 173 183 = some (0, .iload_n 3, 184, []) := by decide +kernel
theorem xe_173_183 (a0 a1 a2 : Option MV) (x : Int) (st : List MV) (μ : MM) (G : MG) : ev 173 183 [a0, a1, a2, some (vI x)] st μ G = ev 173 184 [a0, a1, a2, some (vI x)] (vI x :: st) μ G := ev_stp pg_173_183 rfl
theorem pg_173_184 : mm_prog 173 184 = some (0, .ifCond .eq 34, 187, []) := by decide +kernel
theorem xe_173_184 (a0 a1 a2 a3 : Option MV) (x : Int) (st : List MV) (μ : MM) (G : MG) : ev 173 184 [a0, a1, a2, a3] (vI x :: st) μ G = if x = 0 then ev 173 218 [a0, a1, a2, a3] st μ G else ev 173 187 [a0, a1, a2, a3] st μ G := ev_br (mm_cnd_eq x 0) pg_173_184 rfl
theorem pg_173_187 : mm_prog 173 187 = some (0, .iload_n 1, 188, []) := by decide +kernel
theorem xe_173_187 (a0 a2 a3 : Option MV) (x : Int) (st : List MV) (μ : MM) (G : MG) : ev 173 187 [a0, some (vI x), a2, a3] st μ G = ev 173 188 [a0, some (vI x), a2, a3] (vI x :: st) μ G := ev_stp pg_173_187 rfl
theorem pg_173_188 : mm_prog 173 188 = some (0, .ifCond .ne 30, 191, []) := by decide +kernel
theorem xe_173_188 (a0 a1 a2 a3 : Option MV) (x : Int) (st : List MV) (μ : MM) (G : MG) : ev 173 188 [a0, a1, a2, a3] (vI x :: st) μ G = if ¬ x = 0 then ev 173 218 [a0, a1, a2, a3] st μ G else ev 173 191 [a0, a1, a2, a3] st μ G := ev_br (mm_cnd_ne x 0) pg_173_188 rfl
theorem pg_173_191 : mm_prog 173 191 = some (0, .aload_n 0, 192, []) := by decide +kernel
theorem xe_173_191 (a1 a2 a3 : Option MV) (x : Int) (st : List MV) (μ : MM) (G : MG) : ev 173 191 [some (vR x), a1, a2, a3] st μ G = ev 173 192 [some (vR x), a1, a2, a3] (vR x :: st) μ G := ev_stp pg_173_191 rfl
theorem pg_173_192 : mm_prog 173 192 = some (0, .bipush 54, 194, []) := by decide +kernel
theorem xe_173_192 (a0 a1 a2 a3 : Option MV) (st : List MV) (μ : MM) (G : MG) : ev 173 192 [a0, a1, a2, a3] st μ G = ev 173 194 [a0, a1, a2, a3] (vI (54) :: st) μ G := ev_stp pg_173_192 rfl
theorem pg_173_194 : mm_prog 173 194 = some (1, .invokevirtual 167, 197, [1, 163, 1, 11]) := by decide +kernel
theorem xe_173_194 (a0 a1 a2 a3 : Option MV) (x0 z : Int) (μ : MM) (G : MG) : ev 173 194 [a0, a1, a2, a3] (vI x0 :: vR z :: []) μ G = if gk G z = 11 ∧ 0 < z then (ev 163 0 [some (vR z), some (vI x0)] [] μ G).bind (fun q => ev 173 197 [a0, a1, a2, a3] (q.1.toList ++ []) q.2.1 q.2.2) else none := ev_calV (as := [vR z, vI x0]) (r := []) mx_163 pg_173_194 rfl rfl (Nat.le_of_ble_eq_true rfl) (Nat.le_of_ble_eq_true rfl)
theorem pg_173_197 : mm_prog 173 197 = some (0, .ifCond .eq 21, 200, []) := by decide +kernel
theorem xe_173_197 (a0 a1 a2 a3 : Option MV) (x : Int) (st : List MV) (μ : MM) (G : MG) : ev 173 197 [a0, a1, a2, a3] (vI x :: st) μ G = if x = 0 then ev 173 218 [a0, a1, a2, a3] st μ G else ev 173 200 [a0, a1, a2, a3] st μ G := ev_br (mm_cnd_eq x 0) pg_173_197 rfl
theorem pg_173_200 : mm_prog 173 200 = some (0, .aload_n 0, 201, []) := by decide +kernel
theorem xe_173_200 (a1 a2 a3 : Option MV) (x : Int) (st : List MV) (μ : MM) (G : MG) : ev 173 200 [some (vR x), a1, a2, a3] st μ G = ev 173 201 [some (vR x), a1, a2, a3] (vR x :: st) μ G := ev_stp pg_173_200 rfl
theorem pg_173_201 : mm_prog 173 201 = some (0, .getfield 38, 204, [11, 20, 2]) := by decide +kernel
theorem xe_173_201 (a0 a1 a2 a3 : Option MV) (x : Int) (st : List MV) (μ : MM) (G : MG) : ev 173 201 [a0, a1, a2, a3] (vR x :: st) μ G = if gk G x = 11 then ev 173 204 [a0, a1, a2, a3] (vR (μ x 20) :: st) μ G else none := ev_if pg_173_201 rfl
theorem pg_173_204 : mm_prog 173 204 = some (0, .bipush 12, 206, []) := by decide +kernel
theorem xe_173_204 (a0 a1 a2 a3 : Option MV) (st : List MV) (μ : MM) (G : MG) : ev 173 204 [a0, a1, a2, a3] st μ G = ev 173 206 [a0, a1, a2, a3] (vI (12) :: st) μ G := ev_stp pg_173_204 rfl
theorem pg_173_206 : mm_prog 173 206 = some (0, .aload_n 0, 207, []) := by decide +kernel
theorem xe_173_206 (a1 a2 a3 : Option MV) (x : Int) (st : List MV) (μ : MM) (G : MG) : ev 173 206 [some (vR x), a1, a2, a3] st μ G = ev 173 207 [some (vR x), a1, a2, a3] (vR x :: st) μ G := ev_stp pg_173_206 rfl
theorem pg_173_207 : mm_prog 173 207 = some (0, .getfield 134, 210, [11, 23, 0]) := by decide +kernel
theorem xe_173_207 (a0 a1 a2 a3 : Option MV) (x : Int) (st : List MV) (μ : MM) (G : MG) : ev 173 207 [a0, a1, a2, a3] (vR x :: st) μ G = if gk G x = 11 then ev 173 210 [a0, a1, a2, a3] (vI (μ x 23) :: st) μ G else none := ev_if pg_173_207 rfl
theorem pg_173_210 : mm_prog 173 210 = some (0, .iconst 1, 211, []) := by decide +kernel
theorem xe_173_210 (a0 a1 a2 a3 : Option MV) (st : List MV) (μ : MM) (G : MG) : ev 173 210 [a0, a1, a2, a3] st μ G = ev 173 211 [a0, a1, a2, a3] (vI (1) :: st) μ G := ev_stp pg_173_210 rfl
theorem pg_173_211 : mm_prog 173 211 = some (0, .isub, 212, []) := by decide +kernel
theorem xe_173_211 (a0 a1 a2 a3 : Option MV) (x y : Int) (st : List MV) (μ : MM) (G : MG) : ev 173 211 [a0, a1, a2, a3] (vI y :: vI x :: st) μ G = ev 173 212 [a0, a1, a2, a3] (vI (w32 (x - y)) :: st) μ G := ev_stp pg_173_211 rfl
theorem pg_173_212 : mm_prog 173 212 = some (0, .imul, 213, []) := by decide +kernel
theorem xe_173_212 (a0 a1 a2 a3 : Option MV) (x y : Int) (st : List MV) (μ : MM) (G : MG) : ev 173 212 [a0, a1, a2, a3] (vI y :: vI x :: st) μ G = ev 173 213 [a0, a1, a2, a3] (vI (w32 (x * y)) :: st) μ G := ev_stp pg_173_212 rfl
theorem pg_173_213 : mm_prog 173 213 = some (0, .bipush 7, 215, []) := by decide +kernel
theorem xe_173_213 (a0 a1 a2 a3 : Option MV) (st : List MV) (μ : MM) (G : MG) : ev 173 213 [a0, a1, a2, a3] st μ G = ev 173 215 [a0, a1, a2, a3] (vI (7) :: st) μ G := ev_stp pg_173_213 rfl
theorem pg_173_215 : mm_prog 173 215 = some (0, .iadd, 216, []) := by decide +kernel
theorem xe_173_215 (a0 a1 a2 a3 : Option MV) (x y : Int) (st : List MV) (μ : MM) (G : MG) : ev 173 215 [a0, a1, a2, a3] (vI y :: vI x :: st) μ G = ev 173 216 [a0, a1, a2, a3] (vI (w32 (x + y)) :: st) μ G := ev_stp pg_173_215 rfl
theorem pg_173_216 : mm_prog 173 216 = some (0, .iconst 1, 217, []) := by decide +kernel
theorem xe_173_216 (a0 a1 a2 a3 : Option MV) (st : List MV) (μ : MM) (G : MG) : ev 173 216 [a0, a1, a2, a3] st μ G = ev 173 217 [a0, a1, a2, a3] (vI (1) :: st) μ G := ev_stp pg_173_216 rfl
theorem pg_173_217 : mm_prog 173 217 = some (0, .iastore, 218, []) := by decide +kernel
theorem xe_173_217 (a0 a1 a2 a3 : Option MV) (x y z : Int) (st : List MV) (μ : MM) (G : MG) : ev 173 217 [a0, a1, a2, a3] (vI x :: vI y :: vR z :: st) μ G = if gk G z = 100 ∧ 0 ≤ y ∧ y < gl G z ∧ 10 ≤ z then ev 173 218 [a0, a1, a2, a3] st (mset μ z y x) G else none := ev_if pg_173_217 rfl
theorem pg_173_218 : mm_prog 173 218 = some (2, .return_, 219, []) := by decide +kernel
theorem xe_173_218 (a0 a1 a2 a3 : Option MV) (μ : MM) (G : MG) : ev 173 218 [a0, a1, a2, a3] [] μ G = some (none, μ, G) := ev_ret pg_173_218 rfl
-- X11_offersCode
theorem pg_174_0 : mm_prog 174 0 = some (0, .iconst 0, 1, []) := by decide +kernel
theorem xe_174_0 (a0 a1 a2 a3 : Option MV) (st : List MV) (μ : MM) (G : MG) : ev 174 0 [a0, a1, a2, a3] st μ G = ev 174 1 [a0, a1, a2, a3] (vI (0) :: st) μ G := ev_stp pg_174_0 rfl
theorem pg_174_1 : mm_prog 174 1 = some (0, .istore_n 2, 2, []) := by decide +kernel
theorem xe_174_1 (a0 a1 a2 a3 : Option MV) (x : Int) (st : List MV) (μ : MM) (G : MG) (h : mm_nL a1 = true) : ev 174 1 [a0, a1, a2, a3] (vI x :: st) μ G = ev 174 2 [a0, a1, some (vI x), a3] st μ G := ev_st pg_174_1 rfl (mm_nl_of h) (Nat.le_of_ble_eq_true rfl)
theorem pg_174_2 : mm_prog 174 2 = some (0, .iload_n 2, 3, []) := by decide +kernel
theorem xe_174_2 (a0 a1 a3 : Option MV) (x : Int) (st : List MV) (μ : MM) (G : MG) : ev 174 2 [a0, a1, some (vI x), a3] st μ G = ev 174 3 [a0, a1, some (vI x), a3] (vI x :: st) μ G := ev_stp pg_174_2 rfl
theorem pg_174_3 : mm_prog 174 3 = some (0, .aload_n 0, 4, []) := by decide +kernel
theorem xe_174_3 (a1 a2 a3 : Option MV) (x : Int) (st : List MV) (μ : MM) (G : MG) : ev 174 3 [some (vR x), a1, a2, a3] st μ G = ev 174 4 [some (vR x), a1, a2, a3] (vR x :: st) μ G := ev_stp pg_174_3 rfl
theorem pg_174_4 : mm_prog 174 4 = some (0, .getfield 51, 7, [11, 24, 2]) := by decide +kernel
theorem xe_174_4 (a0 a1 a2 a3 : Option MV) (x : Int) (st : List MV) (μ : MM) (G : MG) : ev 174 4 [a0, a1, a2, a3] (vR x :: st) μ G = if gk G x = 11 then ev 174 7 [a0, a1, a2, a3] (vR (μ x 24) :: st) μ G else none := ev_if pg_174_4 rfl
theorem pg_174_7 : mm_prog 174 7 = some (0, .arraylength, 8, []) := by decide +kernel
theorem xe_174_7 (a0 a1 a2 a3 : Option MV) (x : Int) (st : List MV) (μ : MM) (G : MG) : ev 174 7 [a0, a1, a2, a3] (vR x :: st) μ G = if 100 ≤ gk G x then ev 174 8 [a0, a1, a2, a3] (vI (gl G x) :: st) μ G else none := ev_if pg_174_7 rfl
theorem pg_174_8 : mm_prog 174 8 = some (0, .if_icmp .ge 84, 11, []) := by decide +kernel
theorem xe_174_8 (a0 a1 a2 a3 : Option MV) (x y : Int) (st : List MV) (μ : MM) (G : MG) : ev 174 8 [a0, a1, a2, a3] (vI y :: vI x :: st) μ G = if y ≤ x then ev 174 92 [a0, a1, a2, a3] st μ G else ev 174 11 [a0, a1, a2, a3] st μ G := ev_br (mm_cnd_ge x y) pg_174_8 rfl
theorem pg_174_11 : mm_prog 174 11 = some (0, .iload_n 1, 12, []) := by decide +kernel
theorem xe_174_11 (a0 a2 a3 : Option MV) (x : Int) (st : List MV) (μ : MM) (G : MG) : ev 174 11 [a0, some (vI x), a2, a3] st μ G = ev 174 12 [a0, some (vI x), a2, a3] (vI x :: st) μ G := ev_stp pg_174_11 rfl
theorem pg_174_12 : mm_prog 174 12 = some (0, .i2l, 13, []) := by decide +kernel
theorem xe_174_12 (a0 a1 a2 a3 : Option MV) (x : Int) (st : List MV) (μ : MM) (G : MG) : ev 174 12 [a0, a1, a2, a3] (vI x :: st) μ G = ev 174 13 [a0, a1, a2, a3] (vL x :: st) μ G := ev_stp pg_174_12 rfl
theorem pg_174_13 : mm_prog 174 13 = some (0, .aload_n 0, 14, []) := by decide +kernel
theorem xe_174_13 (a1 a2 a3 : Option MV) (x : Int) (st : List MV) (μ : MM) (G : MG) : ev 174 13 [some (vR x), a1, a2, a3] st μ G = ev 174 14 [some (vR x), a1, a2, a3] (vR x :: st) μ G := ev_stp pg_174_13 rfl
theorem pg_174_14 : mm_prog 174 14 = some (0, .getfield 51, 17, [11, 24, 2]) := by decide +kernel
theorem xe_174_14 (a0 a1 a2 a3 : Option MV) (x : Int) (st : List MV) (μ : MM) (G : MG) : ev 174 14 [a0, a1, a2, a3] (vR x :: st) μ G = if gk G x = 11 then ev 174 17 [a0, a1, a2, a3] (vR (μ x 24) :: st) μ G else none := ev_if pg_174_14 rfl
theorem pg_174_17 : mm_prog 174 17 = some (0, .iload_n 2, 18, []) := by decide +kernel
theorem xe_174_17 (a0 a1 a3 : Option MV) (x : Int) (st : List MV) (μ : MM) (G : MG) : ev 174 17 [a0, a1, some (vI x), a3] st μ G = ev 174 18 [a0, a1, some (vI x), a3] (vI x :: st) μ G := ev_stp pg_174_17 rfl
theorem pg_174_18 : mm_prog 174 18 = some (0, .iaload, 19, []) := by decide +kernel
theorem xe_174_18 (a0 a1 a2 a3 : Option MV) (x y : Int) (st : List MV) (μ : MM) (G : MG) : ev 174 18 [a0, a1, a2, a3] (vI x :: vR y :: st) μ G = if gk G y = 100 ∧ 0 ≤ x ∧ x < gl G y then ev 174 19 [a0, a1, a2, a3] (vI (μ y x) :: st) μ G else none := ev_if pg_174_18 rfl
theorem pg_174_19 : mm_prog 174 19 = some (0, .i2l, 20, []) := by decide +kernel
theorem xe_174_19 (a0 a1 a2 a3 : Option MV) (x : Int) (st : List MV) (μ : MM) (G : MG) : ev 174 19 [a0, a1, a2, a3] (vI x :: st) μ G = ev 174 20 [a0, a1, a2, a3] (vL x :: st) μ G := ev_stp pg_174_19 rfl
theorem pg_174_20 : mm_prog 174 20 = some (0, .aload_n 0, 21, []) := by decide +kernel
theorem xe_174_20 (a1 a2 a3 : Option MV) (x : Int) (st : List MV) (μ : MM) (G : MG) : ev 174 20 [some (vR x), a1, a2, a3] st μ G = ev 174 21 [some (vR x), a1, a2, a3] (vR x :: st) μ G := ev_stp pg_174_20 rfl
theorem pg_174_21 : mm_prog 174 21 = some (0, .getfield 51, 24, [11, 24, 2]) := by decide +kernel
theorem xe_174_21 (a0 a1 a2 a3 : Option MV) (x : Int) (st : List MV) (μ : MM) (G : MG) : ev 174 21 [a0, a1, a2, a3] (vR x :: st) μ G = if gk G x = 11 then ev 174 24 [a0, a1, a2, a3] (vR (μ x 24) :: st) μ G else none := ev_if pg_174_21 rfl
theorem pg_174_24 : mm_prog 174 24 = some (0, .iload_n 2, 25, []) := by decide +kernel
theorem xe_174_24 (a0 a1 a3 : Option MV) (x : Int) (st : List MV) (μ : MM) (G : MG) : ev 174 24 [a0, a1, some (vI x), a3] st μ G = ev 174 25 [a0, a1, some (vI x), a3] (vI x :: st) μ G := ev_stp pg_174_24 rfl
theorem pg_174_25 : mm_prog 174 25 = some (0, .iconst 1, 26, []) := by decide +kernel
theorem xe_174_25 (a0 a1 a2 a3 : Option MV) (st : List MV) (μ : MM) (G : MG) : ev 174 25 [a0, a1, a2, a3] st μ G = ev 174 26 [a0, a1, a2, a3] (vI (1) :: st) μ G := ev_stp pg_174_25 rfl
theorem pg_174_26 : mm_prog 174 26 = some (0, .iadd, 27, []) := by decide +kernel
theorem xe_174_26 (a0 a1 a2 a3 : Option MV) (x y : Int) (st : List MV) (μ : MM) (G : MG) : ev 174 26 [a0, a1, a2, a3] (vI y :: vI x :: st) μ G = ev 174 27 [a0, a1, a2, a3] (vI (w32 (x + y)) :: st) μ G := ev_stp pg_174_26 rfl
theorem pg_174_27 : mm_prog 174 27 = some (0, .iaload, 28, []) := by decide +kernel
theorem xe_174_27 (a0 a1 a2 a3 : Option MV) (x y : Int) (st : List MV) (μ : MM) (G : MG) : ev 174 27 [a0, a1, a2, a3] (vI x :: vR y :: st) μ G = if gk G y = 100 ∧ 0 ≤ x ∧ x < gl G y then ev 174 28 [a0, a1, a2, a3] (vI (μ y x) :: st) μ G else none := ev_if pg_174_27 rfl
theorem pg_174_28 : mm_prog 174 28 = some (0, .i2l, 29, []) := by decide +kernel
theorem xe_174_28 (a0 a1 a2 a3 : Option MV) (x : Int) (st : List MV) (μ : MM) (G : MG) : ev 174 28 [a0, a1, a2, a3] (vI x :: st) μ G = ev 174 29 [a0, a1, a2, a3] (vL x :: st) μ G := ev_stp pg_174_28 rfl
theorem pg_174_29 : mm_prog 174 29 = some (1, .invokestatic 107, 32, [0, 148, 3, 0]) := by decide +kernel
theorem xe_174_29 (a0 a1 a2 a3 : Option MV) (x0 x1 x2 : Int) (μ : MM) (G : MG) : ev 174 29 [a0, a1, a2, a3] (vL x2 :: vL x1 :: vL x0 :: []) μ G = (ev 148 0 [some (vL x0), none, some (vL x1), none, some (vL x2), none] [] μ G).bind (fun q => ev 174 32 [a0, a1, a2, a3] (q.1.toList ++ []) q.2.1 q.2.2) := ev_calS (as := [vL x0, vL x1, vL x2]) (r := []) mx_148 pg_174_29 rfl rfl (Nat.le_of_ble_eq_true rfl) (Nat.le_of_ble_eq_true rfl)
theorem pg_174_32 : mm_prog 174 32 = some (0, .ifCond .ne 6, 35, []) := by decide +kernel
theorem xe_174_32 (a0 a1 a2 a3 : Option MV) (x : Int) (st : List MV) (μ : MM) (G : MG) : ev 174 32 [a0, a1, a2, a3] (vI x :: st) μ G = if ¬ x = 0 then ev 174 38 [a0, a1, a2, a3] st μ G else ev 174 35 [a0, a1, a2, a3] st μ G := ev_br (mm_cnd_ne x 0) pg_174_32 rfl
theorem pg_174_35 : mm_prog 174 35 = some (0, .goto 51, 38, []) := by decide +kernel
theorem xe_174_35 (a0 a1 a2 a3 : Option MV) (st : List MV) (μ : MM) (G : MG) : ev 174 35 [a0, a1, a2, a3] st μ G = ev 174 86 [a0, a1, a2, a3] st μ G := ev_stp pg_174_35 rfl
theorem pg_174_38 : mm_prog 174 38 = some (0, .aload_n 0, 39, []) := by decide +kernel
theorem xe_174_38 (a1 a2 a3 : Option MV) (x : Int) (st : List MV) (μ : MM) (G : MG) : ev 174 38 [some (vR x), a1, a2, a3] st μ G = ev 174 39 [some (vR x), a1, a2, a3] (vR x :: st) μ G := ev_stp pg_174_38 rfl
theorem pg_174_39 : mm_prog 174 39 = some (0, .aload_n 0, 40, []) := by decide +kernel
theorem xe_174_39 (a1 a2 a3 : Option MV) (x : Int) (st : List MV) (μ : MM) (G : MG) : ev 174 39 [some (vR x), a1, a2, a3] st μ G = ev 174 40 [some (vR x), a1, a2, a3] (vR x :: st) μ G := ev_stp pg_174_39 rfl
theorem pg_174_40 : mm_prog 174 40 = some (0, .getfield 51, 43, [11, 24, 2]) := by decide +kernel
theorem xe_174_40 (a0 a1 a2 a3 : Option MV) (x : Int) (st : List MV) (μ : MM) (G : MG) : ev 174 40 [a0, a1, a2, a3] (vR x :: st) μ G = if gk G x = 11 then ev 174 43 [a0, a1, a2, a3] (vR (μ x 24) :: st) μ G else none := ev_if pg_174_40 rfl
theorem pg_174_43 : mm_prog 174 43 = some (0, .iload_n 2, 44, []) := by decide +kernel
theorem xe_174_43 (a0 a1 a3 : Option MV) (x : Int) (st : List MV) (μ : MM) (G : MG) : ev 174 43 [a0, a1, some (vI x), a3] st μ G = ev 174 44 [a0, a1, some (vI x), a3] (vI x :: st) μ G := ev_stp pg_174_43 rfl
theorem pg_174_44 : mm_prog 174 44 = some (0, .iconst 2, 45, []) := by decide +kernel
theorem xe_174_44 (a0 a1 a2 a3 : Option MV) (st : List MV) (μ : MM) (G : MG) : ev 174 44 [a0, a1, a2, a3] st μ G = ev 174 45 [a0, a1, a2, a3] (vI (2) :: st) μ G := ev_stp pg_174_44 rfl
theorem pg_174_45 : mm_prog 174 45 = some (0, .iadd, 46, []) := by decide +kernel
theorem xe_174_45 (a0 a1 a2 a3 : Option MV) (x y : Int) (st : List MV) (μ : MM) (G : MG) : ev 174 45 [a0, a1, a2, a3] (vI y :: vI x :: st) μ G = ev 174 46 [a0, a1, a2, a3] (vI (w32 (x + y)) :: st) μ G := ev_stp pg_174_45 rfl
theorem pg_174_46 : mm_prog 174 46 = some (0, .iaload, 47, []) := by decide +kernel
theorem xe_174_46 (a0 a1 a2 a3 : Option MV) (x y : Int) (st : List MV) (μ : MM) (G : MG) : ev 174 46 [a0, a1, a2, a3] (vI x :: vR y :: st) μ G = if gk G y = 100 ∧ 0 ≤ x ∧ x < gl G y then ev 174 47 [a0, a1, a2, a3] (vI (μ y x) :: st) μ G else none := ev_if pg_174_46 rfl
theorem pg_174_47 : mm_prog 174 47 = some (0, .aload_n 0, 48, []) := by decide +kernel
theorem xe_174_47 (a1 a2 a3 : Option MV) (x : Int) (st : List MV) (μ : MM) (G : MG) : ev 174 47 [some (vR x), a1, a2, a3] st μ G = ev 174 48 [some (vR x), a1, a2, a3] (vR x :: st) μ G := ev_stp pg_174_47 rfl
theorem pg_174_48 : mm_prog 174 48 = some (0, .getfield 51, 51, [11, 24, 2]) := by decide +kernel
theorem xe_174_48 (a0 a1 a2 a3 : Option MV) (x : Int) (st : List MV) (μ : MM) (G : MG) : ev 174 48 [a0, a1, a2, a3] (vR x :: st) μ G = if gk G x = 11 then ev 174 51 [a0, a1, a2, a3] (vR (μ x 24) :: st) μ G else none := ev_if pg_174_48 rfl
theorem pg_174_51 : mm_prog 174 51 = some (0, .iload_n 2, 52, []) := by decide +kernel
theorem xe_174_51 (a0 a1 a3 : Option MV) (x : Int) (st : List MV) (μ : MM) (G : MG) : ev 174 51 [a0, a1, some (vI x), a3] st μ G = ev 174 52 [a0, a1, some (vI x), a3] (vI x :: st) μ G := ev_stp pg_174_51 rfl
theorem pg_174_52 : mm_prog 174 52 = some (0, .iconst 3, 53, []) := by decide +kernel
theorem xe_174_52 (a0 a1 a2 a3 : Option MV) (st : List MV) (μ : MM) (G : MG) : ev 174 52 [a0, a1, a2, a3] st μ G = ev 174 53 [a0, a1, a2, a3] (vI (3) :: st) μ G := ev_stp pg_174_52 rfl
theorem pg_174_53 : mm_prog 174 53 = some (0, .iadd, 54, []) := by decide +kernel
theorem xe_174_53 (a0 a1 a2 a3 : Option MV) (x y : Int) (st : List MV) (μ : MM) (G : MG) : ev 174 53 [a0, a1, a2, a3] (vI y :: vI x :: st) μ G = ev 174 54 [a0, a1, a2, a3] (vI (w32 (x + y)) :: st) μ G := ev_stp pg_174_53 rfl
theorem pg_174_54 : mm_prog 174 54 = some (0, .iaload, 55, []) := by decide +kernel
theorem xe_174_54 (a0 a1 a2 a3 : Option MV) (x y : Int) (st : List MV) (μ : MM) (G : MG) : ev 174 54 [a0, a1, a2, a3] (vI x :: vR y :: st) μ G = if gk G y = 100 ∧ 0 ≤ x ∧ x < gl G y then ev 174 55 [a0, a1, a2, a3] (vI (μ y x) :: st) μ G else none := ev_if pg_174_54 rfl
theorem pg_174_55 : mm_prog 174 55 = some (0, .aload_n 0, 56, []) := by decide +kernel
theorem xe_174_55 (a1 a2 a3 : Option MV) (x : Int) (st : List MV) (μ : MM) (G : MG) : ev 174 55 [some (vR x), a1, a2, a3] st μ G = ev 174 56 [some (vR x), a1, a2, a3] (vR x :: st) μ G := ev_stp pg_174_55 rfl
theorem pg_174_56 : mm_prog 174 56 = some (0, .getfield 51, 59, [11, 24, 2]) := by decide +kernel
theorem xe_174_56 (a0 a1 a2 a3 : Option MV) (x : Int) (st : List MV) (μ : MM) (G : MG) : ev 174 56 [a0, a1, a2, a3] (vR x :: st) μ G = if gk G x = 11 then ev 174 59 [a0, a1, a2, a3] (vR (μ x 24) :: st) μ G else none := ev_if pg_174_56 rfl
theorem pg_174_59 : mm_prog 174 59 = some (0, .iload_n 2, 60, []) := by decide +kernel
theorem xe_174_59 (a0 a1 a3 : Option MV) (x : Int) (st : List MV) (μ : MM) (G : MG) : ev 174 59 [a0, a1, some (vI x), a3] st μ G = ev 174 60 [a0, a1, some (vI x), a3] (vI x :: st) μ G := ev_stp pg_174_59 rfl
theorem pg_174_60 : mm_prog 174 60 = some (0, .bipush 6, 62, []) := by decide +kernel
theorem xe_174_60 (a0 a1 a2 a3 : Option MV) (st : List MV) (μ : MM) (G : MG) : ev 174 60 [a0, a1, a2, a3] st μ G = ev 174 62 [a0, a1, a2, a3] (vI (6) :: st) μ G := ev_stp pg_174_60 rfl
theorem pg_174_62 : mm_prog 174 62 = some (0, .iadd, 63, []) := by decide +kernel
theorem xe_174_62 (a0 a1 a2 a3 : Option MV) (x y : Int) (st : List MV) (μ : MM) (G : MG) : ev 174 62 [a0, a1, a2, a3] (vI y :: vI x :: st) μ G = ev 174 63 [a0, a1, a2, a3] (vI (w32 (x + y)) :: st) μ G := ev_stp pg_174_62 rfl
theorem pg_174_63 : mm_prog 174 63 = some (0, .iaload, 64, []) := by decide +kernel
theorem xe_174_63 (a0 a1 a2 a3 : Option MV) (x y : Int) (st : List MV) (μ : MM) (G : MG) : ev 174 63 [a0, a1, a2, a3] (vI x :: vR y :: st) μ G = if gk G y = 100 ∧ 0 ≤ x ∧ x < gl G y then ev 174 64 [a0, a1, a2, a3] (vI (μ y x) :: st) μ G else none := ev_if pg_174_63 rfl
theorem pg_174_64 : mm_prog 174 64 = some (0, .aload_n 0, 65, []) := by decide +kernel
theorem xe_174_64 (a1 a2 a3 : Option MV) (x : Int) (st : List MV) (μ : MM) (G : MG) : ev 174 64 [some (vR x), a1, a2, a3] st μ G = ev 174 65 [some (vR x), a1, a2, a3] (vR x :: st) μ G := ev_stp pg_174_64 rfl
theorem pg_174_65 : mm_prog 174 65 = some (0, .getfield 51, 68, [11, 24, 2]) := by decide +kernel
theorem xe_174_65 (a0 a1 a2 a3 : Option MV) (x : Int) (st : List MV) (μ : MM) (G : MG) : ev 174 65 [a0, a1, a2, a3] (vR x :: st) μ G = if gk G x = 11 then ev 174 68 [a0, a1, a2, a3] (vR (μ x 24) :: st) μ G else none := ev_if pg_174_65 rfl
theorem pg_174_68 : mm_prog 174 68 = some (0, .iload_n 2, 69, []) := by decide +kernel
theorem xe_174_68 (a0 a1 a3 : Option MV) (x : Int) (st : List MV) (μ : MM) (G : MG) : ev 174 68 [a0, a1, some (vI x), a3] st μ G = ev 174 69 [a0, a1, some (vI x), a3] (vI x :: st) μ G := ev_stp pg_174_68 rfl
theorem pg_174_69 : mm_prog 174 69 = some (0, .iconst 4, 70, []) := by decide +kernel
theorem xe_174_69 (a0 a1 a2 a3 : Option MV) (st : List MV) (μ : MM) (G : MG) : ev 174 69 [a0, a1, a2, a3] st μ G = ev 174 70 [a0, a1, a2, a3] (vI (4) :: st) μ G := ev_stp pg_174_69 rfl
theorem pg_174_70 : mm_prog 174 70 = some (0, .iadd, 71, []) := by decide +kernel
theorem xe_174_70 (a0 a1 a2 a3 : Option MV) (x y : Int) (st : List MV) (μ : MM) (G : MG) : ev 174 70 [a0, a1, a2, a3] (vI y :: vI x :: st) μ G = ev 174 71 [a0, a1, a2, a3] (vI (w32 (x + y)) :: st) μ G := ev_stp pg_174_70 rfl
theorem pg_174_71 : mm_prog 174 71 = some (0, .iaload, 72, []) := by decide +kernel
theorem xe_174_71 (a0 a1 a2 a3 : Option MV) (x y : Int) (st : List MV) (μ : MM) (G : MG) : ev 174 71 [a0, a1, a2, a3] (vI x :: vR y :: st) μ G = if gk G y = 100 ∧ 0 ≤ x ∧ x < gl G y then ev 174 72 [a0, a1, a2, a3] (vI (μ y x) :: st) μ G else none := ev_if pg_174_71 rfl
theorem pg_174_72 : mm_prog 174 72 = some (0, .aload_n 0, 73, []) := by decide +kernel
theorem xe_174_72 (a1 a2 a3 : Option MV) (x : Int) (st : List MV) (μ : MM) (G : MG) : ev 174 72 [some (vR x), a1, a2, a3] st μ G = ev 174 73 [some (vR x), a1, a2, a3] (vR x :: st) μ G := ev_stp pg_174_72 rfl
theorem pg_174_73 : mm_prog 174 73 = some (0, .getfield 51, 76, [11, 24, 2]) := by decide +kernel
theorem xe_174_73 (a0 a1 a2 a3 : Option MV) (x : Int) (st : List MV) (μ : MM) (G : MG) : ev 174 73 [a0, a1, a2, a3] (vR x :: st) μ G = if gk G x = 11 then ev 174 76 [a0, a1, a2, a3] (vR (μ x 24) :: st) μ G else none := ev_if pg_174_73 rfl
theorem pg_174_76 : mm_prog 174 76 = some (0, .iload_n 2, 77, []) := by decide +kernel
theorem xe_174_76 (a0 a1 a3 : Option MV) (x : Int) (st : List MV) (μ : MM) (G : MG) : ev 174 76 [a0, a1, some (vI x), a3] st μ G = ev 174 77 [a0, a1, some (vI x), a3] (vI x :: st) μ G := ev_stp pg_174_76 rfl
theorem pg_174_77 : mm_prog 174 77 = some (0, .iconst 5, 78, []) := by decide +kernel
theorem xe_174_77 (a0 a1 a2 a3 : Option MV) (st : List MV) (μ : MM) (G : MG) : ev 174 77 [a0, a1, a2, a3] st μ G = ev 174 78 [a0, a1, a2, a3] (vI (5) :: st) μ G := ev_stp pg_174_77 rfl
theorem pg_174_78 : mm_prog 174 78 = some (0, .iadd, 79, []) := by decide +kernel
theorem xe_174_78 (a0 a1 a2 a3 : Option MV) (x y : Int) (st : List MV) (μ : MM) (G : MG) : ev 174 78 [a0, a1, a2, a3] (vI y :: vI x :: st) μ G = ev 174 79 [a0, a1, a2, a3] (vI (w32 (x + y)) :: st) μ G := ev_stp pg_174_78 rfl
theorem pg_174_79 : mm_prog 174 79 = some (0, .iaload, 80, []) := by decide +kernel
theorem xe_174_79 (a0 a1 a2 a3 : Option MV) (x y : Int) (st : List MV) (μ : MM) (G : MG) : ev 174 79 [a0, a1, a2, a3] (vI x :: vR y :: st) μ G = if gk G y = 100 ∧ 0 ≤ x ∧ x < gl G y then ev 174 80 [a0, a1, a2, a3] (vI (μ y x) :: st) μ G else none := ev_if pg_174_79 rfl
theorem pg_174_80 : mm_prog 174 80 = some (0, .iconst 2, 81, []) := by decide +kernel
theorem xe_174_80 (a0 a1 a2 a3 : Option MV) (st : List MV) (μ : MM) (G : MG) : ev 174 80 [a0, a1, a2, a3] st μ G = ev 174 81 [a0, a1, a2, a3] (vI (2) :: st) μ G := ev_stp pg_174_80 rfl
theorem pg_174_81 : mm_prog 174 81 = some (1, .invokevirtual 197, 84, [1, 171, 6, 11]) := by decide +kernel
theorem xe_174_81 (a0 a1 a2 a3 : Option MV) (x0 x1 x2 x3 x4 x5 z : Int) (μ : MM) (G : MG) : ev 174 81 [a0, a1, a2, a3] (vI x5 :: vI x4 :: vI x3 :: vI x2 :: vI x1 :: vI x0 :: vR z :: []) μ G = if gk G z = 11 ∧ 0 < z then (ev 171 0 [some (vR z), some (vI x0), some (vI x1), some (vI x2), some (vI x3), some (vI x4), some (vI x5), none, none, none, none] [] μ G).bind (fun q => ev 174 84 [a0, a1, a2, a3] (q.1.toList ++ []) q.2.1 q.2.2) else none := ev_calV (as := [vR z, vI x0, vI x1, vI x2, vI x3, vI x4, vI x5]) (r := []) mx_171 pg_174_81 rfl rfl (Nat.le_of_ble_eq_true rfl) (Nat.le_of_ble_eq_true rfl)
theorem pg_174_84 : mm_prog 174 84 = some (0, .istore_n 3, 85, []) := by decide +kernel
theorem xe_174_84 (a0 a1 a2 a3 : Option MV) (x : Int) (st : List MV) (μ : MM) (G : MG) (h : mm_nL a2 = true) : ev 174 84 [a0, a1, a2, a3] (vI x :: st) μ G = ev 174 85 [a0, a1, a2, some (vI x)] st μ G := ev_st pg_174_84 rfl (mm_nl_of h) (Nat.le_of_ble_eq_true rfl)
theorem pg_174_85 : mm_prog 174 85 = some (2, .return_, 86, []) := by decide +kernel
theorem xe_174_85 (a0 a1 a2 a3 : Option MV) (μ : MM) (G : MG) : ev 174 85 [a0, a1, a2, a3] [] μ G = some (none, μ, G) := ev_ret pg_174_85 rfl
theorem pg_174_86 : mm_prog 174 86 = some (0, .iinc 2 7, 89, []) := by decide +kernel
theorem xe_174_86 (a0 a1 a3 : Option MV) (x : Int) (st : List MV) (μ : MM) (G : MG) (h : mm_nL a1 = true) : ev 174 86 [a0, a1, some (vI x), a3] st μ G = ev 174 89 [a0, a1, some (vI (w32 (x + (7)))), a3] st μ G := ev_st pg_174_86 rfl (mm_nl_of h) (Nat.le_of_ble_eq_true rfl)
theorem pg_174_89 : mm_prog 174 89 = some (0, .goto (-87), 92, []) := by decide +kernel
theorem xe_174_89 (a0 a1 a2 a3 : Option MV) (st : List MV) (μ : MM) (G : MG) : ev 174 89 [a0, a1, a2, a3] st μ G = ev 174 2 [a0, a1, a2, a3] st μ G := ev_stp pg_174_89 rfl
theorem pg_174_92 : mm_prog 174 92 = some (0, .aload_n 0, 93, []) := by decide +kernel
theorem xe_174_92 (a1 a2 a3 : Option MV) (x : Int) (st : List MV) (μ : MM) (G : MG) : ev 174 92 [some (vR x), a1, a2, a3] st μ G = ev 174 93 [some (vR x), a1, a2, a3] (vR x :: st) μ G := ev_stp pg_174_92 rfl
theorem pg_174_93 : mm_prog 174 93 = some (0, .getfield 44, 96, [11, 22, 2]) := by decide +kernel
theorem xe_174_93 (a0 a1 a2 a3 : Option MV) (x : Int) (st : List MV) (μ : MM) (G : MG) : ev 174 93 [a0, a1, a2, a3] (vR x :: st) μ G = if gk G x = 11 then ev 174 96 [a0, a1, a2, a3] (vR (μ x 22) :: st) μ G else none := ev_if pg_174_93 rfl
theorem pg_174_96 : mm_prog 174 96 = some (0, .iconst 1, 97, []) := by decide +kernel
theorem xe_174_96 (a0 a1 a2 a3 : Option MV) (st : List MV) (μ : MM) (G : MG) : ev 174 96 [a0, a1, a2, a3] st μ G = ev 174 97 [a0, a1, a2, a3] (vI (1) :: st) μ G := ev_stp pg_174_96 rfl
theorem pg_174_97 : mm_prog 174 97 = some (0, .dup2, 98, []) := by decide +kernel
theorem xe_174_97 (a0 a1 a2 a3 : Option MV) (x y : Int) (st : List MV) (μ : MM) (G : MG) : ev 174 97 [a0, a1, a2, a3] (vI x :: vR y :: st) μ G = ev 174 98 [a0, a1, a2, a3] (vI x :: vR y :: vI x :: vR y :: st) μ G := ev_stp pg_174_97 rfl
theorem pg_174_98 : mm_prog 174 98 = some (0, .iaload, 99, []) := by decide +kernel
theorem xe_174_98 (a0 a1 a2 a3 : Option MV) (x y : Int) (st : List MV) (μ : MM) (G : MG) : ev 174 98 [a0, a1, a2, a3] (vI x :: vR y :: st) μ G = if gk G y = 100 ∧ 0 ≤ x ∧ x < gl G y then ev 174 99 [a0, a1, a2, a3] (vI (μ y x) :: st) μ G else none := ev_if pg_174_98 rfl
theorem pg_174_99 : mm_prog 174 99 = some (0, .iconst 1, 100, []) := by decide +kernel
theorem xe_174_99 (a0 a1 a2 a3 : Option MV) (st : List MV) (μ : MM) (G : MG) : ev 174 99 [a0, a1, a2, a3] st μ G = ev 174 100 [a0, a1, a2, a3] (vI (1) :: st) μ G := ev_stp pg_174_99 rfl
theorem pg_174_100 : mm_prog 174 100 = some (0, .iadd, 101, []) := by decide +kernel
theorem xe_174_100 (a0 a1 a2 a3 : Option MV) (x y : Int) (st : List MV) (μ : MM) (G : MG) : ev 174 100 [a0, a1, a2, a3] (vI y :: vI x :: st) μ G = ev 174 101 [a0, a1, a2, a3] (vI (w32 (x + y)) :: st) μ G := ev_stp pg_174_100 rfl
theorem pg_174_101 : mm_prog 174 101 = some (0, .iastore, 102, []) := by decide +kernel
theorem xe_174_101 (a0 a1 a2 a3 : Option MV) (x y z : Int) (st : List MV) (μ : MM) (G : MG) : ev 174 101 [a0, a1, a2, a3] (vI x :: vI y :: vR z :: st) μ G = if gk G z = 100 ∧ 0 ≤ y ∧ y < gl G z ∧ 10 ≤ z then ev 174 102 [a0, a1, a2, a3] st (mset μ z y x) G else none := ev_if pg_174_101 rfl
theorem pg_174_102 : mm_prog 174 102 = some (2, .return_, 103, []) := by decide +kernel
theorem xe_174_102 (a0 a1 a2 a3 : Option MV) (μ : MM) (G : MG) : ev 174 102 [a0, a1, a2, a3] [] μ G = some (none, μ, G) := ev_ret pg_174_102 rfl
-- X11_offersPlain
theorem pg_175_0 : mm_prog 175 0 = some (0, .aload_n 0, 1, []) := by decide +kernel
theorem xe_175_0 (a1 a2 a3 a4 : Option MV) (x : Int) (st : List MV) (μ : MM) (G : MG) : ev 175 0 [some (vR x), a1, a2, a3, a4] st μ G = ev 175 1 [some (vR x), a1, a2, a3, a4] (vR x :: st) μ G := ev_stp pg_175_0 rfl
theorem pg_175_1 : mm_prog 175 1 = some (0, .iconst 0, 2, []) := by decide +kernel
theorem xe_175_1 (a0 a1 a2 a3 a4 : Option MV) (st : List MV) (μ : MM) (G : MG) : ev 175 1 [a0, a1, a2, a3, a4] st μ G = ev 175 2 [a0, a1, a2, a3, a4] (vI (0) :: st) μ G := ev_stp pg_175_1 rfl
theorem pg_175_2 : mm_prog 175 2 = some (0, .iload_n 1, 3, []) := by decide +kernel
theorem xe_175_2 (a0 a2 a3 a4 : Option MV) (x : Int) (st : List MV) (μ : MM) (G : MG) : ev 175 2 [a0, some (vI x), a2, a3, a4] st μ G = ev 175 3 [a0, some (vI x), a2, a3, a4] (vI x :: st) μ G := ev_stp pg_175_2 rfl
theorem pg_175_3 : mm_prog 175 3 = some (0, .iload_n 2, 4, []) := by decide +kernel
theorem xe_175_3 (a0 a1 a3 a4 : Option MV) (x : Int) (st : List MV) (μ : MM) (G : MG) : ev 175 3 [a0, a1, some (vI x), a3, a4] st μ G = ev 175 4 [a0, a1, some (vI x), a3, a4] (vI x :: st) μ G := ev_stp pg_175_3 rfl
theorem pg_175_4 : mm_prog 175 4 = some (0, .iload_n 3, 5, []) := by decide +kernel
theorem xe_175_4 (a0 a1 a2 a4 : Option MV) (x : Int) (st : List MV) (μ : MM) (G : MG) : ev 175 4 [a0, a1, a2, some (vI x), a4] st μ G = ev 175 5 [a0, a1, a2, some (vI x), a4] (vI x :: st) μ G := ev_stp pg_175_4 rfl
theorem pg_175_5 : mm_prog 175 5 = some (1, .invokevirtual 205, 8, [1, 194, 4, 11]) := by decide +kernel
theorem xe_175_5 (a0 a1 a2 a3 a4 : Option MV) (x0 x1 x2 x3 z : Int) (μ : MM) (G : MG) : ev 175 5 [a0, a1, a2, a3, a4] (vI x3 :: vI x2 :: vI x1 :: vI x0 :: vR z :: []) μ G = if gk G z = 11 ∧ 0 < z then (ev 194 0 [some (vR z), some (vI x0), some (vI x1), some (vI x2), some (vI x3), none, none, none, none] [] μ G).bind (fun q => ev 175 8 [a0, a1, a2, a3, a4] (q.1.toList ++ []) q.2.1 q.2.2) else none := ev_calV (as := [vR z, vI x0, vI x1, vI x2, vI x3]) (r := []) mx_194 pg_175_5 rfl rfl (Nat.le_of_ble_eq_true rfl) (Nat.le_of_ble_eq_true rfl)
theorem pg_175_8 : mm_prog 175 8 = some (0, .aload_n 0, 9, []) := by decide +kernel
theorem xe_175_8 (a1 a2 a3 a4 : Option MV) (x : Int) (st : List MV) (μ : MM) (G : MG) : ev 175 8 [some (vR x), a1, a2, a3, a4] st μ G = ev 175 9 [some (vR x), a1, a2, a3, a4] (vR x :: st) μ G := ev_stp pg_175_8 rfl
theorem pg_175_9 : mm_prog 175 9 = some (0, .aload_n 0, 10, []) := by decide +kernel
theorem xe_175_9 (a1 a2 a3 a4 : Option MV) (x : Int) (st : List MV) (μ : MM) (G : MG) : ev 175 9 [some (vR x), a1, a2, a3, a4] st μ G = ev 175 10 [some (vR x), a1, a2, a3, a4] (vR x :: st) μ G := ev_stp pg_175_9 rfl
theorem pg_175_10 : mm_prog 175 10 = some (0, .getfield 63, 13, [11, 29, 2]) := by decide +kernel
theorem xe_175_10 (a0 a1 a2 a3 a4 : Option MV) (x : Int) (st : List MV) (μ : MM) (G : MG) : ev 175 10 [a0, a1, a2, a3, a4] (vR x :: st) μ G = if gk G x = 11 then ev 175 13 [a0, a1, a2, a3, a4] (vR (μ x 29) :: st) μ G else none := ev_if pg_175_10 rfl
theorem pg_175_13 : mm_prog 175 13 = some (0, .iconst 0, 14, []) := by decide +kernel
theorem xe_175_13 (a0 a1 a2 a3 a4 : Option MV) (st : List MV) (μ : MM) (G : MG) : ev 175 13 [a0, a1, a2, a3, a4] st μ G = ev 175 14 [a0, a1, a2, a3, a4] (vI (0) :: st) μ G := ev_stp pg_175_13 rfl
theorem pg_175_14 : mm_prog 175 14 = some (0, .iaload, 15, []) := by decide +kernel
theorem xe_175_14 (a0 a1 a2 a3 a4 : Option MV) (x y : Int) (st : List MV) (μ : MM) (G : MG) : ev 175 14 [a0, a1, a2, a3, a4] (vI x :: vR y :: st) μ G = if gk G y = 100 ∧ 0 ≤ x ∧ x < gl G y then ev 175 15 [a0, a1, a2, a3, a4] (vI (μ y x) :: st) μ G else none := ev_if pg_175_14 rfl
theorem pg_175_15 : mm_prog 175 15 = some (0, .aload_n 0, 16, []) := by decide +kernel
theorem xe_175_15 (a1 a2 a3 a4 : Option MV) (x : Int) (st : List MV) (μ : MM) (G : MG) : ev 175 15 [some (vR x), a1, a2, a3, a4] st μ G = ev 175 16 [some (vR x), a1, a2, a3, a4] (vR x :: st) μ G := ev_stp pg_175_15 rfl
theorem pg_175_16 : mm_prog 175 16 = some (0, .getfield 63, 19, [11, 29, 2]) := by decide +kernel
theorem xe_175_16 (a0 a1 a2 a3 a4 : Option MV) (x : Int) (st : List MV) (μ : MM) (G : MG) : ev 175 16 [a0, a1, a2, a3, a4] (vR x :: st) μ G = if gk G x = 11 then ev 175 19 [a0, a1, a2, a3, a4] (vR (μ x 29) :: st) μ G else none := ev_if pg_175_16 rfl
theorem pg_175_19 : mm_prog 175 19 = some (0, .iconst 4, 20, []) := by decide +kernel
theorem xe_175_19 (a0 a1 a2 a3 a4 : Option MV) (st : List MV) (μ : MM) (G : MG) : ev 175 19 [a0, a1, a2, a3, a4] st μ G = ev 175 20 [a0, a1, a2, a3, a4] (vI (4) :: st) μ G := ev_stp pg_175_19 rfl
theorem pg_175_20 : mm_prog 175 20 = some (0, .iaload, 21, []) := by decide +kernel
theorem xe_175_20 (a0 a1 a2 a3 a4 : Option MV) (x y : Int) (st : List MV) (μ : MM) (G : MG) : ev 175 20 [a0, a1, a2, a3, a4] (vI x :: vR y :: st) μ G = if gk G y = 100 ∧ 0 ≤ x ∧ x < gl G y then ev 175 21 [a0, a1, a2, a3, a4] (vI (μ y x) :: st) μ G else none := ev_if pg_175_20 rfl
theorem pg_175_21 : mm_prog 175 21 = some (0, .aload_n 0, 22, []) := by decide +kernel
theorem xe_175_21 (a1 a2 a3 a4 : Option MV) (x : Int) (st : List MV) (μ : MM) (G : MG) : ev 175 21 [some (vR x), a1, a2, a3, a4] st μ G = ev 175 22 [some (vR x), a1, a2, a3, a4] (vR x :: st) μ G := ev_stp pg_175_21 rfl
theorem pg_175_22 : mm_prog 175 22 = some (0, .getfield 63, 25, [11, 29, 2]) := by decide +kernel
theorem xe_175_22 (a0 a1 a2 a3 a4 : Option MV) (x : Int) (st : List MV) (μ : MM) (G : MG) : ev 175 22 [a0, a1, a2, a3, a4] (vR x :: st) μ G = if gk G x = 11 then ev 175 25 [a0, a1, a2, a3, a4] (vR (μ x 29) :: st) μ G else none := ev_if pg_175_22 rfl
theorem pg_175_25 : mm_prog 175 25 = some (0, .bipush 8, 27, []) := by decide +kernel
theorem xe_175_25 (a0 a1 a2 a3 a4 : Option MV) (st : List MV) (μ : MM) (G : MG) : ev 175 25 [a0, a1, a2, a3, a4] st μ G = ev 175 27 [a0, a1, a2, a3, a4] (vI (8) :: st) μ G := ev_stp pg_175_25 rfl
theorem pg_175_27 : mm_prog 175 27 = some (0, .iaload, 28, []) := by decide +kernel
theorem xe_175_27 (a0 a1 a2 a3 a4 : Option MV) (x y : Int) (st : List MV) (μ : MM) (G : MG) : ev 175 27 [a0, a1, a2, a3, a4] (vI x :: vR y :: st) μ G = if gk G y = 100 ∧ 0 ≤ x ∧ x < gl G y then ev 175 28 [a0, a1, a2, a3, a4] (vI (μ y x) :: st) μ G else none := ev_if pg_175_27 rfl
theorem pg_175_28 : mm_prog 175 28 = some (0, .aload_n 0, 29, []) := by decide +kernel
theorem xe_175_28 (a1 a2 a3 a4 : Option MV) (x : Int) (st : List MV) (μ : MM) (G : MG) : ev 175 28 [some (vR x), a1, a2, a3, a4] st μ G = ev 175 29 [some (vR x), a1, a2, a3, a4] (vR x :: st) μ G := ev_stp pg_175_28 rfl
theorem pg_175_29 : mm_prog 175 29 = some (0, .getfield 63, 32, [11, 29, 2]) := by decide +kernel
theorem xe_175_29 (a0 a1 a2 a3 a4 : Option MV) (x : Int) (st : List MV) (μ : MM) (G : MG) : ev 175 29 [a0, a1, a2, a3, a4] (vR x :: st) μ G = if gk G x = 11 then ev 175 32 [a0, a1, a2, a3, a4] (vR (μ x 29) :: st) μ G else none := ev_if pg_175_29 rfl
theorem pg_175_32 : mm_prog 175 32 = some (0, .iconst 0, 33, []) := by decide +kernel
theorem xe_175_32 (a0 a1 a2 a3 a4 : Option MV) (st : List MV) (μ : MM) (G : MG) : ev 175 32 [a0, a1, a2, a3, a4] st μ G = ev 175 33 [a0, a1, a2, a3, a4] (vI (0) :: st) μ G := ev_stp pg_175_32 rfl
theorem pg_175_33 : mm_prog 175 33 = some (0, .iaload, 34, []) := by decide +kernel
theorem xe_175_33 (a0 a1 a2 a3 a4 : Option MV) (x y : Int) (st : List MV) (μ : MM) (G : MG) : ev 175 33 [a0, a1, a2, a3, a4] (vI x :: vR y :: st) μ G = if gk G y = 100 ∧ 0 ≤ x ∧ x < gl G y then ev 175 34 [a0, a1, a2, a3, a4] (vI (μ y x) :: st) μ G else none := ev_if pg_175_33 rfl
theorem pg_175_34 : mm_prog 175 34 = some (0, .aload_n 0, 35, []) := by decide +kernel
theorem xe_175_34 (a1 a2 a3 a4 : Option MV) (x : Int) (st : List MV) (μ : MM) (G : MG) : ev 175 34 [some (vR x), a1, a2, a3, a4] st μ G = ev 175 35 [some (vR x), a1, a2, a3, a4] (vR x :: st) μ G := ev_stp pg_175_34 rfl
theorem pg_175_35 : mm_prog 175 35 = some (0, .getfield 63, 38, [11, 29, 2]) := by decide +kernel
theorem xe_175_35 (a0 a1 a2 a3 a4 : Option MV) (x : Int) (st : List MV) (μ : MM) (G : MG) : ev 175 35 [a0, a1, a2, a3, a4] (vR x :: st) μ G = if gk G x = 11 then ev 175 38 [a0, a1, a2, a3, a4] (vR (μ x 29) :: st) μ G else none := ev_if pg_175_35 rfl
theorem pg_175_38 : mm_prog 175 38 = some (0, .iconst 1, 39, []) := by decide +kernel
theorem xe_175_38 (a0 a1 a2 a3 a4 : Option MV) (st : List MV) (μ : MM) (G : MG) : ev 175 38 [a0, a1, a2, a3, a4] st μ G = ev 175 39 [a0, a1, a2, a3, a4] (vI (1) :: st) μ G := ev_stp pg_175_38 rfl
theorem pg_175_39 : mm_prog 175 39 = some (0, .iaload, 40, []) := by decide +kernel
theorem xe_175_39 (a0 a1 a2 a3 a4 : Option MV) (x y : Int) (st : List MV) (μ : MM) (G : MG) : ev 175 39 [a0, a1, a2, a3, a4] (vI x :: vR y :: st) μ G = if gk G y = 100 ∧ 0 ≤ x ∧ x < gl G y then ev 175 40 [a0, a1, a2, a3, a4] (vI (μ y x) :: st) μ G else none := ev_if pg_175_39 rfl
theorem pg_175_40 : mm_prog 175 40 = some (0, .iadd, 41, []) := by decide +kernel
theorem xe_175_40 (a0 a1 a2 a3 a4 : Option MV) (x y : Int) (st : List MV) (μ : MM) (G : MG) : ev 175 40 [a0, a1, a2, a3, a4] (vI y :: vI x :: st) μ G = ev 175 41 [a0, a1, a2, a3, a4] (vI (w32 (x + y)) :: st) μ G := ev_stp pg_175_40 rfl
theorem pg_175_41 : mm_prog 175 41 = some (0, .aload_n 0, 42, []) := by decide +kernel
theorem xe_175_41 (a1 a2 a3 a4 : Option MV) (x : Int) (st : List MV) (μ : MM) (G : MG) : ev 175 41 [some (vR x), a1, a2, a3, a4] st μ G = ev 175 42 [some (vR x), a1, a2, a3, a4] (vR x :: st) μ G := ev_stp pg_175_41 rfl
theorem pg_175_42 : mm_prog 175 42 = some (0, .getfield 63, 45, [11, 29, 2]) := by decide +kernel
theorem xe_175_42 (a0 a1 a2 a3 a4 : Option MV) (x : Int) (st : List MV) (μ : MM) (G : MG) : ev 175 42 [a0, a1, a2, a3, a4] (vR x :: st) μ G = if gk G x = 11 then ev 175 45 [a0, a1, a2, a3, a4] (vR (μ x 29) :: st) μ G else none := ev_if pg_175_42 rfl
theorem pg_175_45 : mm_prog 175 45 = some (0, .iconst 4, 46, []) := by decide +kernel
theorem xe_175_45 (a0 a1 a2 a3 a4 : Option MV) (st : List MV) (μ : MM) (G : MG) : ev 175 45 [a0, a1, a2, a3, a4] st μ G = ev 175 46 [a0, a1, a2, a3, a4] (vI (4) :: st) μ G := ev_stp pg_175_45 rfl
theorem pg_175_46 : mm_prog 175 46 = some (0, .iaload, 47, []) := by decide +kernel
theorem xe_175_46 (a0 a1 a2 a3 a4 : Option MV) (x y : Int) (st : List MV) (μ : MM) (G : MG) : ev 175 46 [a0, a1, a2, a3, a4] (vI x :: vR y :: st) μ G = if gk G y = 100 ∧ 0 ≤ x ∧ x < gl G y then ev 175 47 [a0, a1, a2, a3, a4] (vI (μ y x) :: st) μ G else none := ev_if pg_175_46 rfl
theorem pg_175_47 : mm_prog 175 47 = some (0, .aload_n 0, 48, []) := by decide +kernel
theorem xe_175_47 (a1 a2 a3 a4 : Option MV) (x : Int) (st : List MV) (μ : MM) (G : MG) : ev 175 47 [some (vR x), a1, a2, a3, a4] st μ G = ev 175 48 [some (vR x), a1, a2, a3, a4] (vR x :: st) μ G := ev_stp pg_175_47 rfl
theorem pg_175_48 : mm_prog 175 48 = some (0, .getfield 63, 51, [11, 29, 2]) := by decide +kernel
theorem xe_175_48 (a0 a1 a2 a3 a4 : Option MV) (x : Int) (st : List MV) (μ : MM) (G : MG) : ev 175 48 [a0, a1, a2, a3, a4] (vR x :: st) μ G = if gk G x = 11 then ev 175 51 [a0, a1, a2, a3, a4] (vR (μ x 29) :: st) μ G else none := ev_if pg_175_48 rfl
theorem pg_175_51 : mm_prog 175 51 = some (0, .iconst 5, 52, []) := by decide +kernel
theorem xe_175_51 (a0 a1 a2 a3 a4 : Option MV) (st : List MV) (μ : MM) (G : MG) : ev 175 51 [a0, a1, a2, a3, a4] st μ G = ev 175 52 [a0, a1, a2, a3, a4] (vI (5) :: st) μ G := ev_stp pg_175_51 rfl
theorem pg_175_52 : mm_prog 175 52 = some (0, .iaload, 53, []) := by decide +kernel
theorem xe_175_52 (a0 a1 a2 a3 a4 : Option MV) (x y : Int) (st : List MV) (μ : MM) (G : MG) : ev 175 52 [a0, a1, a2, a3, a4] (vI x :: vR y :: st) μ G = if gk G y = 100 ∧ 0 ≤ x ∧ x < gl G y then ev 175 53 [a0, a1, a2, a3, a4] (vI (μ y x) :: st) μ G else none := ev_if pg_175_52 rfl
theorem pg_175_53 : mm_prog 175 53 = some (0, .iadd, 54, []) := by decide +kernel
theorem xe_175_53 (a0 a1 a2 a3 a4 : Option MV) (x y : Int) (st : List MV) (μ : MM) (G : MG) : ev 175 53 [a0, a1, a2, a3, a4] (vI y :: vI x :: st) μ G = ev 175 54 [a0, a1, a2, a3, a4] (vI (w32 (x + y)) :: st) μ G := ev_stp pg_175_53 rfl
theorem pg_175_54 : mm_prog 175 54 = some (0, .iload 4, 56, []) := by decide +kernel
theorem xe_175_54 (a0 a1 a2 a3 : Option MV) (x : Int) (st : List MV) (μ : MM) (G : MG) : ev 175 54 [a0, a1, a2, a3, some (vI x)] st μ G = ev 175 56 [a0, a1, a2, a3, some (vI x)] (vI x :: st) μ G := ev_stp pg_175_54 rfl
theorem pg_175_56 : mm_prog 175 56 = some (1, .invokevirtual 197, 59, [1, 171, 6, 11]) := by decide +kernel
theorem xe_175_56 (a0 a1 a2 a3 a4 : Option MV) (x0 x1 x2 x3 x4 x5 z : Int) (μ : MM) (G : MG) : ev 175 56 [a0, a1, a2, a3, a4] (vI x5 :: vI x4 :: vI x3 :: vI x2 :: vI x1 :: vI x0 :: vR z :: []) μ G = if gk G z = 11 ∧ 0 < z then (ev 171 0 [some (vR z), some (vI x0), some (vI x1), some (vI x2), some (vI x3), some (vI x4), some (vI x5), none, none, none, none] [] μ G).bind (fun q => ev 175 59 [a0, a1, a2, a3, a4] (q.1.toList ++ []) q.2.1 q.2.2) else none := ev_calV (as := [vR z, vI x0, vI x1, vI x2, vI x3, vI x4, vI x5]) (r := []) mx_171 pg_175_56 rfl rfl (Nat.le_of_ble_eq_true rfl) (Nat.le_of_ble_eq_true rfl)
theorem pg_175_59 : mm_prog 175 59 = some (0, .ifCond .eq 33, 62, []) := by decide +kernel
theorem xe_175_59 (a0 a1 a2 a3 a4 : Option MV) (x : Int) (st : List MV) (μ : MM) (G : MG) : ev 175 59 [a0, a1, a2, a3, a4] (vI x :: st) μ G = if x = 0 then ev 175 92 [a0, a1, a2, a3, a4] st μ G else ev 175 62 [a0, a1, a2, a3, a4] st μ G := ev_br (mm_cnd_eq x 0) pg_175_59 rfl
theorem pg_175_62 : mm_prog 175 62 = some (0, .aload_n 0, 63, []) := by decide +kernel
theorem xe_175_62 (a1 a2 a3 a4 : Option MV) (x : Int) (st : List MV) (μ : MM) (G : MG) : ev 175 62 [some (vR x), a1, a2, a3, a4] st μ G = ev 175 63 [some (vR x), a1, a2, a3, a4] (vR x :: st) μ G := ev_stp pg_175_62 rfl
theorem pg_175_63 : mm_prog 175 63 = some (0, .aload_n 0, 64, []) := by decide +kernel
theorem xe_175_63 (a1 a2 a3 a4 : Option MV) (x : Int) (st : List MV) (μ : MM) (G : MG) : ev 175 63 [some (vR x), a1, a2, a3, a4] st μ G = ev 175 64 [some (vR x), a1, a2, a3, a4] (vR x :: st) μ G := ev_stp pg_175_63 rfl
theorem pg_175_64 : mm_prog 175 64 = some (0, .getfield 63, 67, [11, 29, 2]) := by decide +kernel
theorem xe_175_64 (a0 a1 a2 a3 a4 : Option MV) (x : Int) (st : List MV) (μ : MM) (G : MG) : ev 175 64 [a0, a1, a2, a3, a4] (vR x :: st) μ G = if gk G x = 11 then ev 175 67 [a0, a1, a2, a3, a4] (vR (μ x 29) :: st) μ G else none := ev_if pg_175_64 rfl
theorem pg_175_67 : mm_prog 175 67 = some (0, .iconst 2, 68, []) := by decide +kernel
theorem xe_175_67 (a0 a1 a2 a3 a4 : Option MV) (st : List MV) (μ : MM) (G : MG) : ev 175 67 [a0, a1, a2, a3, a4] st μ G = ev 175 68 [a0, a1, a2, a3, a4] (vI (2) :: st) μ G := ev_stp pg_175_67 rfl
theorem pg_175_68 : mm_prog 175 68 = some (0, .iaload, 69, []) := by decide +kernel
theorem xe_175_68 (a0 a1 a2 a3 a4 : Option MV) (x y : Int) (st : List MV) (μ : MM) (G : MG) : ev 175 68 [a0, a1, a2, a3, a4] (vI x :: vR y :: st) μ G = if gk G y = 100 ∧ 0 ≤ x ∧ x < gl G y then ev 175 69 [a0, a1, a2, a3, a4] (vI (μ y x) :: st) μ G else none := ev_if pg_175_68 rfl
theorem pg_175_69 : mm_prog 175 69 = some (0, .aload_n 0, 70, []) := by decide +kernel
theorem xe_175_69 (a1 a2 a3 a4 : Option MV) (x : Int) (st : List MV) (μ : MM) (G : MG) : ev 175 69 [some (vR x), a1, a2, a3, a4] st μ G = ev 175 70 [some (vR x), a1, a2, a3, a4] (vR x :: st) μ G := ev_stp pg_175_69 rfl
theorem pg_175_70 : mm_prog 175 70 = some (0, .getfield 63, 73, [11, 29, 2]) := by decide +kernel
theorem xe_175_70 (a0 a1 a2 a3 a4 : Option MV) (x : Int) (st : List MV) (μ : MM) (G : MG) : ev 175 70 [a0, a1, a2, a3, a4] (vR x :: st) μ G = if gk G x = 11 then ev 175 73 [a0, a1, a2, a3, a4] (vR (μ x 29) :: st) μ G else none := ev_if pg_175_70 rfl
theorem pg_175_73 : mm_prog 175 73 = some (0, .iconst 3, 74, []) := by decide +kernel
theorem xe_175_73 (a0 a1 a2 a3 a4 : Option MV) (st : List MV) (μ : MM) (G : MG) : ev 175 73 [a0, a1, a2, a3, a4] st μ G = ev 175 74 [a0, a1, a2, a3, a4] (vI (3) :: st) μ G := ev_stp pg_175_73 rfl
theorem pg_175_74 : mm_prog 175 74 = some (0, .iaload, 75, []) := by decide +kernel
theorem xe_175_74 (a0 a1 a2 a3 a4 : Option MV) (x y : Int) (st : List MV) (μ : MM) (G : MG) : ev 175 74 [a0, a1, a2, a3, a4] (vI x :: vR y :: st) μ G = if gk G y = 100 ∧ 0 ≤ x ∧ x < gl G y then ev 175 75 [a0, a1, a2, a3, a4] (vI (μ y x) :: st) μ G else none := ev_if pg_175_74 rfl
theorem pg_175_75 : mm_prog 175 75 = some (0, .aload_n 0, 76, []) := by decide +kernel
theorem xe_175_75 (a1 a2 a3 a4 : Option MV) (x : Int) (st : List MV) (μ : MM) (G : MG) : ev 175 75 [some (vR x), a1, a2, a3, a4] st μ G = ev 175 76 [some (vR x), a1, a2, a3, a4] (vR x :: st) μ G := ev_stp pg_175_75 rfl
theorem pg_175_76 : mm_prog 175 76 = some (0, .getfield 63, 79, [11, 29, 2]) := by decide +kernel
theorem xe_175_76 (a0 a1 a2 a3 a4 : Option MV) (x : Int) (st : List MV) (μ : MM) (G : MG) : ev 175 76 [a0, a1, a2, a3, a4] (vR x :: st) μ G = if gk G x = 11 then ev 175 79 [a0, a1, a2, a3, a4] (vR (μ x 29) :: st) μ G else none := ev_if pg_175_76 rfl
theorem pg_175_79 : mm_prog 175 79 = some (0, .bipush 6, 81, []) := by decide +kernel
theorem xe_175_79 (a0 a1 a2 a3 a4 : Option MV) (st : List MV) (μ : MM) (G : MG) : ev 175 79 [a0, a1, a2, a3, a4] st μ G = ev 175 81 [a0, a1, a2, a3, a4] (vI (6) :: st) μ G := ev_stp pg_175_79 rfl
theorem pg_175_81 : mm_prog 175 81 = some (0, .iaload, 82, []) := by decide +kernel
theorem xe_175_81 (a0 a1 a2 a3 a4 : Option MV) (x y : Int) (st : List MV) (μ : MM) (G : MG) : ev 175 81 [a0, a1, a2, a3, a4] (vI x :: vR y :: st) μ G = if gk G y = 100 ∧ 0 ≤ x ∧ x < gl G y then ev 175 82 [a0, a1, a2, a3, a4] (vI (μ y x) :: st) μ G else none := ev_if pg_175_81 rfl
theorem pg_175_82 : mm_prog 175 82 = some (0, .aload_n 0, 83, []) := by decide +kernel
theorem xe_175_82 (a1 a2 a3 a4 : Option MV) (x : Int) (st : List MV) (μ : MM) (G : MG) : ev 175 82 [some (vR x), a1, a2, a3, a4] st μ G = ev 175 83 [some (vR x), a1, a2, a3, a4] (vR x :: st) μ G := ev_stp pg_175_82 rfl
theorem pg_175_83 : mm_prog 175 83 = some (0, .getfield 63, 86, [11, 29, 2]) := by decide +kernel
theorem xe_175_83 (a0 a1 a2 a3 a4 : Option MV) (x : Int) (st : List MV) (μ : MM) (G : MG) : ev 175 83 [a0, a1, a2, a3, a4] (vR x :: st) μ G = if gk G x = 11 then ev 175 86 [a0, a1, a2, a3, a4] (vR (μ x 29) :: st) μ G else none := ev_if pg_175_83 rfl
theorem pg_175_86 : mm_prog 175 86 = some (0, .bipush 7, 88, []) := by decide +kernel
theorem xe_175_86 (a0 a1 a2 a3 a4 : Option MV) (st : List MV) (μ : MM) (G : MG) : ev 175 86 [a0, a1, a2, a3, a4] st μ G = ev 175 88 [a0, a1, a2, a3, a4] (vI (7) :: st) μ G := ev_stp pg_175_86 rfl
theorem pg_175_88 : mm_prog 175 88 = some (0, .iaload, 89, []) := by decide +kernel
theorem xe_175_88 (a0 a1 a2 a3 a4 : Option MV) (x y : Int) (st : List MV) (μ : MM) (G : MG) : ev 175 88 [a0, a1, a2, a3, a4] (vI x :: vR y :: st) μ G = if gk G y = 100 ∧ 0 ≤ x ∧ x < gl G y then ev 175 89 [a0, a1, a2, a3, a4] (vI (μ y x) :: st) μ G else none := ev_if pg_175_88 rfl
theorem pg_175_89 : mm_prog 175 89 = some (1, .invokevirtual 201, 92, [1, 172, 4, 11]) := by decide +kernel
theorem xe_175_89 (a0 a1 a2 a3 a4 : Option MV) (x0 x1 x2 x3 z : Int) (μ : MM) (G : MG) : ev 175 89 [a0, a1, a2, a3, a4] (vI x3 :: vI x2 :: vI x1 :: vI x0 :: vR z :: []) μ G = if gk G z = 11 ∧ 0 < z then (ev 172 0 [some (vR z), some (vI x0), some (vI x1), some (vI x2), some (vI x3), none] [] μ G).bind (fun q => ev 175 92 [a0, a1, a2, a3, a4] (q.1.toList ++ []) q.2.1 q.2.2) else none := ev_calV (as := [vR z, vI x0, vI x1, vI x2, vI x3]) (r := []) mx_172 pg_175_89 rfl rfl (Nat.le_of_ble_eq_true rfl) (Nat.le_of_ble_eq_true rfl)
theorem pg_175_92 : mm_prog 175 92 = some (2, .return_, 93, []) := by decide +kernel
theorem xe_175_92 (a0 a1 a2 a3 a4 : Option MV) (μ : MM) (G : MG) : ev 175 92 [a0, a1, a2, a3, a4] [] μ G = some (none, μ, G) := ev_ret pg_175_92 rfl
-- X11_reads
theorem pg_176_0 : mm_prog 176 0 = some (0, .aload_n 0, 1, []) := by decide +kernel
theorem xe_176_0 (a1 a2 a3 a4 : Option MV) (x : Int) (st : List MV) (μ : MM) (G : MG) : ev 176 0 [some (vR x), a1, a2, a3, a4] st μ G = ev 176 1 [some (vR x), a1, a2, a3, a4] (vR x :: st) μ G := ev_stp pg_176_0 rfl
theorem pg_176_1 : mm_prog 176 1 = some (1, .invokevirtual 208, 4, [1, 166, 0, 11]) := by decide +kernel
theorem xe_176_1 (a0 a1 a2 a3 a4 : Option MV) (z : Int) (μ : MM) (G : MG) : ev 176 1 [a0, a1, a2, a3, a4] (vR z :: []) μ G = if gk G z = 11 ∧ 0 < z then (ev 166 0 [some (vR z), none, none, none, none] [] μ G).bind (fun q => ev 176 4 [a0, a1, a2, a3, a4] (q.1.toList ++ []) q.2.1 q.2.2) else none := ev_calV (as := [vR z]) (r := []) mx_166 pg_176_1 rfl rfl (Nat.le_of_ble_eq_true rfl) (Nat.le_of_ble_eq_true rfl)
theorem pg_176_4 : mm_prog 176 4 = some (0, .aload_n 0, 5, []) := by decide +kernel
theorem xe_176_4 (a1 a2 a3 a4 : Option MV) (x : Int) (st : List MV) (μ : MM) (G : MG) : ev 176 4 [some (vR x), a1, a2, a3, a4] st μ G = ev 176 5 [some (vR x), a1, a2, a3, a4] (vR x :: st) μ G := ev_stp pg_176_4 rfl
theorem pg_176_5 : mm_prog 176 5 = some (0, .iconst 0, 6, []) := by decide +kernel
theorem xe_176_5 (a0 a1 a2 a3 a4 : Option MV) (st : List MV) (μ : MM) (G : MG) : ev 176 5 [a0, a1, a2, a3, a4] st μ G = ev 176 6 [a0, a1, a2, a3, a4] (vI (0) :: st) μ G := ev_stp pg_176_5 rfl
theorem pg_176_6 : mm_prog 176 6 = some (0, .putfield 134, 9, [11, 23, 0]) := by decide +kernel
theorem xe_176_6 (a0 a1 a2 a3 a4 : Option MV) (x y : Int) (st : List MV) (μ : MM) (G : MG) : ev 176 6 [a0, a1, a2, a3, a4] (vI x :: vR y :: st) μ G = if gk G y = 11 then ev 176 9 [a0, a1, a2, a3, a4] st (mset μ y 23 x) G else none := ev_put0 pg_176_6
theorem pg_176_9 : mm_prog 176 9 = some (0, .iconst 0, 10, []) := by decide +kernel
theorem xe_176_9 (a0 a1 a2 a3 a4 : Option MV) (st : List MV) (μ : MM) (G : MG) : ev 176 9 [a0, a1, a2, a3, a4] st μ G = ev 176 10 [a0, a1, a2, a3, a4] (vI (0) :: st) μ G := ev_stp pg_176_9 rfl
theorem pg_176_10 : mm_prog 176 10 = some (0, .istore_n 1, 11, []) := by decide +kernel
theorem xe_176_10 (a0 a1 a2 a3 a4 : Option MV) (x : Int) (st : List MV) (μ : MM) (G : MG) (h : mm_nL a0 = true) : ev 176 10 [a0, a1, a2, a3, a4] (vI x :: st) μ G = ev 176 11 [a0, some (vI x), a2, a3, a4] st μ G := ev_st pg_176_10 rfl (mm_nl_of h) (Nat.le_of_ble_eq_true rfl)
theorem pg_176_11 : mm_prog 176 11 = some (0, .iload_n 1, 12, []) := by decide +kernel
theorem xe_176_11 (a0 a2 a3 a4 : Option MV) (x : Int) (st : List MV) (μ : MM) (G : MG) : ev 176 11 [a0, some (vI x), a2, a3, a4] st μ G = ev 176 12 [a0, some (vI x), a2, a3, a4] (vI x :: st) μ G := ev_stp pg_176_11 rfl
theorem pg_176_12 : mm_prog 176 12 = some (0, .bipush 7, 14, []) := by decide +kernel
theorem xe_176_12 (a0 a1 a2 a3 a4 : Option MV) (st : List MV) (μ : MM) (G : MG) : ev 176 12 [a0, a1, a2, a3, a4] st μ G = ev 176 14 [a0, a1, a2, a3, a4] (vI (7) :: st) μ G := ev_stp pg_176_12 rfl
theorem pg_176_14 : mm_prog 176 14 = some (0, .if_icmp .ge 16, 17, []) := by decide +kernel
theorem xe_176_14 (a0 a1 a2 a3 a4 : Option MV) (x y : Int) (st : List MV) (μ : MM) (G : MG) : ev 176 14 [a0, a1, a2, a3, a4] (vI y :: vI x :: st) μ G = if y ≤ x then ev 176 30 [a0, a1, a2, a3, a4] st μ G else ev 176 17 [a0, a1, a2, a3, a4] st μ G := ev_br (mm_cnd_ge x y) pg_176_14 rfl
theorem pg_176_17 : mm_prog 176 17 = some (0, .aload_n 0, 18, []) := by decide +kernel
theorem xe_176_17 (a1 a2 a3 a4 : Option MV) (x : Int) (st : List MV) (μ : MM) (G : MG) : ev 176 17 [some (vR x), a1, a2, a3, a4] st μ G = ev 176 18 [some (vR x), a1, a2, a3, a4] (vR x :: st) μ G := ev_stp pg_176_17 rfl
theorem pg_176_18 : mm_prog 176 18 = some (0, .getfield 44, 21, [11, 22, 2]) := by decide +kernel
theorem xe_176_18 (a0 a1 a2 a3 a4 : Option MV) (x : Int) (st : List MV) (μ : MM) (G : MG) : ev 176 18 [a0, a1, a2, a3, a4] (vR x :: st) μ G = if gk G x = 11 then ev 176 21 [a0, a1, a2, a3, a4] (vR (μ x 22) :: st) μ G else none := ev_if pg_176_18 rfl
theorem pg_176_21 : mm_prog 176 21 = some (0, .iload_n 1, 22, []) := by decide +kernel
theorem xe_176_21 (a0 a2 a3 a4 : Option MV) (x : Int) (st : List MV) (μ : MM) (G : MG) : ev 176 21 [a0, some (vI x), a2, a3, a4] st μ G = ev 176 22 [a0, some (vI x), a2, a3, a4] (vI x :: st) μ G := ev_stp pg_176_21 rfl
theorem pg_176_22 : mm_prog 176 22 = some (0, .iconst 0, 23, []) := by decide +kernel
theorem xe_176_22 (a0 a1 a2 a3 a4 : Option MV) (st : List MV) (μ : MM) (G : MG) : ev 176 22 [a0, a1, a2, a3, a4] st μ G = ev 176 23 [a0, a1, a2, a3, a4] (vI (0) :: st) μ G := ev_stp pg_176_22 rfl
theorem pg_176_23 : mm_prog 176 23 = some (0, .iastore, 24, []) := by decide +kernel
theorem xe_176_23 (a0 a1 a2 a3 a4 : Option MV) (x y z : Int) (st : List MV) (μ : MM) (G : MG) : ev 176 23 [a0, a1, a2, a3, a4] (vI x :: vI y :: vR z :: st) μ G = if gk G z = 100 ∧ 0 ≤ y ∧ y < gl G z ∧ 10 ≤ z then ev 176 24 [a0, a1, a2, a3, a4] st (mset μ z y x) G else none := ev_if pg_176_23 rfl
theorem pg_176_24 : mm_prog 176 24 = some (0, .iinc 1 1, 27, []) := by decide +kernel
theorem xe_176_24 (a0 a2 a3 a4 : Option MV) (x : Int) (st : List MV) (μ : MM) (G : MG) (h : mm_nL a0 = true) : ev 176 24 [a0, some (vI x), a2, a3, a4] st μ G = ev 176 27 [a0, some (vI (w32 (x + (1)))), a2, a3, a4] st μ G := ev_st pg_176_24 rfl (mm_nl_of h) (Nat.le_of_ble_eq_true rfl)
theorem pg_176_27 : mm_prog 176 27 = some (0, .goto (-16), 30, []) := by decide +kernel
theorem xe_176_27 (a0 a1 a2 a3 a4 : Option MV) (st : List MV) (μ : MM) (G : MG) : ev 176 27 [a0, a1, a2, a3, a4] st μ G = ev 176 11 [a0, a1, a2, a3, a4] st μ G := ev_stp pg_176_27 rfl
theorem pg_176_30 : mm_prog 176 30 = some (0, .iconst 0, 31, []) := by decide +kernel
theorem xe_176_30 (a0 a1 a2 a3 a4 : Option MV) (st : List MV) (μ : MM) (G : MG) : ev 176 30 [a0, a1, a2, a3, a4] st μ G = ev 176 31 [a0, a1, a2, a3, a4] (vI (0) :: st) μ G := ev_stp pg_176_30 rfl
theorem pg_176_31 : mm_prog 176 31 = some (0, .istore_n 1, 32, []) := by decide +kernel
theorem xe_176_31 (a0 a1 a2 a3 a4 : Option MV) (x : Int) (st : List MV) (μ : MM) (G : MG) (h : mm_nL a0 = true) : ev 176 31 [a0, a1, a2, a3, a4] (vI x :: st) μ G = ev 176 32 [a0, some (vI x), a2, a3, a4] st μ G := ev_st pg_176_31 rfl (mm_nl_of h) (Nat.le_of_ble_eq_true rfl)
theorem pg_176_32 : mm_prog 176 32 = some (0, .iload_n 1, 33, []) := by decide +kernel
theorem xe_176_32 (a0 a2 a3 a4 : Option MV) (x : Int) (st : List MV) (μ : MM) (G : MG) : ev 176 32 [a0, some (vI x), a2, a3, a4] st μ G = ev 176 33 [a0, some (vI x), a2, a3, a4] (vI x :: st) μ G := ev_stp pg_176_32 rfl
theorem pg_176_33 : mm_prog 176 33 = some (0, .aload_n 0, 34, []) := by decide +kernel
theorem xe_176_33 (a1 a2 a3 a4 : Option MV) (x : Int) (st : List MV) (μ : MM) (G : MG) : ev 176 33 [some (vR x), a1, a2, a3, a4] st μ G = ev 176 34 [some (vR x), a1, a2, a3, a4] (vR x :: st) μ G := ev_stp pg_176_33 rfl
theorem pg_176_34 : mm_prog 176 34 = some (0, .getfield 137, 37, [11, 13, 0]) := by decide +kernel
theorem xe_176_34 (a0 a1 a2 a3 a4 : Option MV) (x : Int) (st : List MV) (μ : MM) (G : MG) : ev 176 34 [a0, a1, a2, a3, a4] (vR x :: st) μ G = if gk G x = 11 then ev 176 37 [a0, a1, a2, a3, a4] (vI (μ x 13) :: st) μ G else none := ev_if pg_176_34 rfl
theorem pg_176_37 : mm_prog 176 37 = some (0, .if_icmp .ge 14, 40, []) := by decide +kernel
theorem xe_176_37 (a0 a1 a2 a3 a4 : Option MV) (x y : Int) (st : List MV) (μ : MM) (G : MG) : ev 176 37 [a0, a1, a2, a3, a4] (vI y :: vI x :: st) μ G = if y ≤ x then ev 176 51 [a0, a1, a2, a3, a4] st μ G else ev 176 40 [a0, a1, a2, a3, a4] st μ G := ev_br (mm_cnd_ge x y) pg_176_37 rfl
theorem pg_176_40 : mm_prog 176 40 = some (0, .aload_n 0, 41, []) := by decide +kernel
theorem xe_176_40 (a1 a2 a3 a4 : Option MV) (x : Int) (st : List MV) (μ : MM) (G : MG) : ev 176 40 [some (vR x), a1, a2, a3, a4] st μ G = ev 176 41 [some (vR x), a1, a2, a3, a4] (vR x :: st) μ G := ev_stp pg_176_40 rfl
theorem pg_176_41 : mm_prog 176 41 = some (0, .iload_n 1, 42, []) := by decide +kernel
theorem xe_176_41 (a0 a2 a3 a4 : Option MV) (x : Int) (st : List MV) (μ : MM) (G : MG) : ev 176 41 [a0, some (vI x), a2, a3, a4] st μ G = ev 176 42 [a0, some (vI x), a2, a3, a4] (vI x :: st) μ G := ev_stp pg_176_41 rfl
theorem pg_176_42 : mm_prog 176 42 = some (1, .invokevirtual 211, 45, [1, 173, 1, 11]) := by decide +kernel
theorem xe_176_42 (a0 a1 a2 a3 a4 : Option MV) (x0 z : Int) (μ : MM) (G : MG) : ev 176 42 [a0, a1, a2, a3, a4] (vI x0 :: vR z :: []) μ G = if gk G z = 11 ∧ 0 < z then (ev 173 0 [some (vR z), some (vI x0), none, none] [] μ G).bind (fun q => ev 176 45 [a0, a1, a2, a3, a4] (q.1.toList ++ []) q.2.1 q.2.2) else none := ev_calV (as := [vR z, vI x0]) (r := []) mx_173 pg_176_42 rfl rfl (Nat.le_of_ble_eq_true rfl) (Nat.le_of_ble_eq_true rfl)
theorem pg_176_45 : mm_prog 176 45 = some (0, .iinc 1 1, 48, []) := by decide +kernel
theorem xe_176_45 (a0 a2 a3 a4 : Option MV) (x : Int) (st : List MV) (μ : MM) (G : MG) (h : mm_nL a0 = true) : ev 176 45 [a0, some (vI x), a2, a3, a4] st μ G = ev 176 48 [a0, some (vI (w32 (x + (1)))), a2, a3, a4] st μ G := ev_st pg_176_45 rfl (mm_nl_of h) (Nat.le_of_ble_eq_true rfl)
theorem pg_176_48 : mm_prog 176 48 = some (0, .goto (-16), 51, []) := by decide +kernel
theorem xe_176_48 (a0 a1 a2 a3 a4 : Option MV) (st : List MV) (μ : MM) (G : MG) : ev 176 48 [a0, a1, a2, a3, a4] st μ G = ev 176 32 [a0, a1, a2, a3, a4] st μ G := ev_stp pg_176_48 rfl
theorem pg_176_51 : mm_prog 176 51 = some (0, .iconst 0, 52, []) := by decide +kernel
theorem xe_176_51 (a0 a1 a2 a3 a4 : Option MV) (st : List MV) (μ : MM) (G : MG) : ev 176 51 [a0, a1, a2, a3, a4] st μ G = ev 176 52 [a0, a1, a2, a3, a4] (vI (0) :: st) μ G := ev_stp pg_176_51 rfl
theorem pg_176_52 : mm_prog 176 52 = some (0, .istore_n 1, 53, []) := by decide +kernel
theorem xe_176_52 (a0 a1 a2 a3 a4 : Option MV) (x : Int) (st : List MV) (μ : MM) (G : MG) (h : mm_nL a0 = true) : ev 176 52 [a0, a1, a2, a3, a4] (vI x :: st) μ G = ev 176 53 [a0, some (vI x), a2, a3, a4] st μ G := ev_st pg_176_52 rfl (mm_nl_of h) (Nat.le_of_ble_eq_true rfl)
theorem pg_176_53 : mm_prog 176 53 = some (0, .iload_n 1, 54, []) := by decide +kernel
theorem xe_176_53 (a0 a2 a3 a4 : Option MV) (x : Int) (st : List MV) (μ : MM) (G : MG) : ev 176 53 [a0, some (vI x), a2, a3, a4] st μ G = ev 176 54 [a0, some (vI x), a2, a3, a4] (vI x :: st) μ G := ev_stp pg_176_53 rfl
theorem pg_176_54 : mm_prog 176 54 = some (0, .aload_n 0, 55, []) := by decide +kernel
theorem xe_176_54 (a1 a2 a3 a4 : Option MV) (x : Int) (st : List MV) (μ : MM) (G : MG) : ev 176 54 [some (vR x), a1, a2, a3, a4] st μ G = ev 176 55 [some (vR x), a1, a2, a3, a4] (vR x :: st) μ G := ev_stp pg_176_54 rfl
theorem pg_176_55 : mm_prog 176 55 = some (0, .getfield 161, 58, [11, 17, 0]) := by decide +kernel
theorem xe_176_55 (a0 a1 a2 a3 a4 : Option MV) (x : Int) (st : List MV) (μ : MM) (G : MG) : ev 176 55 [a0, a1, a2, a3, a4] (vR x :: st) μ G = if gk G x = 11 then ev 176 58 [a0, a1, a2, a3, a4] (vI (μ x 17) :: st) μ G else none := ev_if pg_176_55 rfl
theorem pg_176_58 : mm_prog 176 58 = some (0, .if_icmp .ge 19, 61, []) := by decide +kernel
theorem xe_176_58 (a0 a1 a2 a3 a4 : Option MV) (x y : Int) (st : List MV) (μ : MM) (G : MG) : ev 176 58 [a0, a1, a2, a3, a4] (vI y :: vI x :: st) μ G = if y ≤ x then ev 176 77 [a0, a1, a2, a3, a4] st μ G else ev 176 61 [a0, a1, a2, a3, a4] st μ G := ev_br (mm_cnd_ge x y) pg_176_58 rfl
theorem pg_176_61 : mm_prog 176 61 = some (0, .aload_n 0, 62, []) := by decide +kernel
theorem xe_176_61 (a1 a2 a3 a4 : Option MV) (x : Int) (st : List MV) (μ : MM) (G : MG) : ev 176 61 [some (vR x), a1, a2, a3, a4] st μ G = ev 176 62 [some (vR x), a1, a2, a3, a4] (vR x :: st) μ G := ev_stp pg_176_61 rfl
theorem pg_176_62 : mm_prog 176 62 = some (0, .aload_n 0, 63, []) := by decide +kernel
theorem xe_176_62 (a1 a2 a3 a4 : Option MV) (x : Int) (st : List MV) (μ : MM) (G : MG) : ev 176 62 [some (vR x), a1, a2, a3, a4] st μ G = ev 176 63 [some (vR x), a1, a2, a3, a4] (vR x :: st) μ G := ev_stp pg_176_62 rfl
theorem pg_176_63 : mm_prog 176 63 = some (0, .getfield 35, 66, [11, 12, 2]) := by decide +kernel
theorem xe_176_63 (a0 a1 a2 a3 a4 : Option MV) (x : Int) (st : List MV) (μ : MM) (G : MG) : ev 176 63 [a0, a1, a2, a3, a4] (vR x :: st) μ G = if gk G x = 11 then ev 176 66 [a0, a1, a2, a3, a4] (vR (μ x 12) :: st) μ G else none := ev_if pg_176_63 rfl
theorem pg_176_66 : mm_prog 176 66 = some (0, .iload_n 1, 67, []) := by decide +kernel
theorem xe_176_66 (a0 a2 a3 a4 : Option MV) (x : Int) (st : List MV) (μ : MM) (G : MG) : ev 176 66 [a0, some (vI x), a2, a3, a4] st μ G = ev 176 67 [a0, some (vI x), a2, a3, a4] (vI x :: st) μ G := ev_stp pg_176_66 rfl
theorem pg_176_67 : mm_prog 176 67 = some (0, .iaload, 68, []) := by decide +kernel
theorem xe_176_67 (a0 a1 a2 a3 a4 : Option MV) (x y : Int) (st : List MV) (μ : MM) (G : MG) : ev 176 67 [a0, a1, a2, a3, a4] (vI x :: vR y :: st) μ G = if gk G y = 100 ∧ 0 ≤ x ∧ x < gl G y then ev 176 68 [a0, a1, a2, a3, a4] (vI (μ y x) :: st) μ G else none := ev_if pg_176_67 rfl
theorem pg_176_68 : mm_prog 176 68 = some (1, .invokevirtual 214, 71, [1, 174, 1, 11]) := by decide +kernel
theorem xe_176_68 (a0 a1 a2 a3 a4 : Option MV) (x0 z : Int) (μ : MM) (G : MG) : ev 176 68 [a0, a1, a2, a3, a4] (vI x0 :: vR z :: []) μ G = if gk G z = 11 ∧ 0 < z then (ev 174 0 [some (vR z), some (vI x0), none, none] [] μ G).bind (fun q => ev 176 71 [a0, a1, a2, a3, a4] (q.1.toList ++ []) q.2.1 q.2.2) else none := ev_calV (as := [vR z, vI x0]) (r := []) mx_174 pg_176_68 rfl rfl (Nat.le_of_ble_eq_true rfl) (Nat.le_of_ble_eq_true rfl)
theorem pg_176_71 : mm_prog 176 71 = some (0, .iinc 1 1, 74, []) := by decide +kernel
theorem xe_176_71 (a0 a2 a3 a4 : Option MV) (x : Int) (st : List MV) (μ : MM) (G : MG) (h : mm_nL a0 = true) : ev 176 71 [a0, some (vI x), a2, a3, a4] st μ G = ev 176 74 [a0, some (vI (w32 (x + (1)))), a2, a3, a4] st μ G := ev_st pg_176_71 rfl (mm_nl_of h) (Nat.le_of_ble_eq_true rfl)
theorem pg_176_74 : mm_prog 176 74 = some (0, .goto (-21), 77, []) := by decide +kernel
theorem xe_176_74 (a0 a1 a2 a3 a4 : Option MV) (st : List MV) (μ : MM) (G : MG) : ev 176 74 [a0, a1, a2, a3, a4] st μ G = ev 176 53 [a0, a1, a2, a3, a4] st μ G := ev_stp pg_176_74 rfl
theorem pg_176_77 : mm_prog 176 77 = some (0, .bipush 38, 79, []) := by decide +kernel
theorem xe_176_77 (a0 a1 a2 a3 a4 : Option MV) (st : List MV) (μ : MM) (G : MG) : ev 176 77 [a0, a1, a2, a3, a4] st μ G = ev 176 79 [a0, a1, a2, a3, a4] (vI (38) :: st) μ G := ev_stp pg_176_77 rfl
theorem pg_176_79 : mm_prog 176 79 = some (0, .istore_n 1, 80, []) := by decide +kernel
theorem xe_176_79 (a0 a1 a2 a3 a4 : Option MV) (x : Int) (st : List MV) (μ : MM) (G : MG) (h : mm_nL a0 = true) : ev 176 79 [a0, a1, a2, a3, a4] (vI x :: st) μ G = ev 176 80 [a0, some (vI x), a2, a3, a4] st μ G := ev_st pg_176_79 rfl (mm_nl_of h) (Nat.le_of_ble_eq_true rfl)
theorem pg_176_80 : mm_prog 176 80 = some (0, .iload_n 1, 81, []) := by decide +kernel
theorem xe_176_80 (a0 a2 a3 a4 : Option MV) (x : Int) (st : List MV) (μ : MM) (G : MG) : ev 176 80 [a0, some (vI x), a2, a3, a4] st μ G = ev 176 81 [a0, some (vI x), a2, a3, a4] (vI x :: st) μ G := ev_stp pg_176_80 rfl
theorem pg_176_81 : mm_prog 176 81 = some (0, .bipush 54, 83, []) := by decide +kernel
theorem xe_176_81 (a0 a1 a2 a3 a4 : Option MV) (st : List MV) (μ : MM) (G : MG) : ev 176 81 [a0, a1, a2, a3, a4] st μ G = ev 176 83 [a0, a1, a2, a3, a4] (vI (54) :: st) μ G := ev_stp pg_176_81 rfl
theorem pg_176_83 : mm_prog 176 83 = some (0, .if_icmp .ge 133, 86, []) := by decide +kernel
theorem xe_176_83 (a0 a1 a2 a3 a4 : Option MV) (x y : Int) (st : List MV) (μ : MM) (G : MG) : ev 176 83 [a0, a1, a2, a3, a4] (vI y :: vI x :: st) μ G = if y ≤ x then ev 176 216 [a0, a1, a2, a3, a4] st μ G else ev 176 86 [a0, a1, a2, a3, a4] st μ G := ev_br (mm_cnd_ge x y) pg_176_83 rfl
theorem pg_176_86 : mm_prog 176 86 = some (0, .aload_n 0, 87, []) := by decide +kernel
theorem xe_176_86 (a1 a2 a3 a4 : Option MV) (x : Int) (st : List MV) (μ : MM) (G : MG) : ev 176 86 [some (vR x), a1, a2, a3, a4] st μ G = ev 176 87 [some (vR x), a1, a2, a3, a4] (vR x :: st) μ G := ev_stp pg_176_86 rfl
theorem pg_176_87 : mm_prog 176 87 = some (0, .iload_n 1, 88, []) := by decide +kernel
theorem xe_176_87 (a0 a2 a3 a4 : Option MV) (x : Int) (st : List MV) (μ : MM) (G : MG) : ev 176 87 [a0, some (vI x), a2, a3, a4] st μ G = ev 176 88 [a0, some (vI x), a2, a3, a4] (vI x :: st) μ G := ev_stp pg_176_87 rfl
theorem pg_176_88 : mm_prog 176 88 = some (1, .invokevirtual 140, 91, [1, 160, 1, 11]) := by decide +kernel
theorem xe_176_88 (a0 a1 a2 a3 a4 : Option MV) (x0 z : Int) (μ : MM) (G : MG) : ev 176 88 [a0, a1, a2, a3, a4] (vI x0 :: vR z :: []) μ G = if gk G z = 11 ∧ 0 < z then (ev 160 0 [some (vR z), some (vI x0)] [] μ G).bind (fun q => ev 176 91 [a0, a1, a2, a3, a4] (q.1.toList ++ []) q.2.1 q.2.2) else none := ev_calV (as := [vR z, vI x0]) (r := []) mx_160 pg_176_88 rfl rfl (Nat.le_of_ble_eq_true rfl) (Nat.le_of_ble_eq_true rfl)
theorem pg_176_91 : mm_prog 176 91 = some (0, .ifCond .eq 119, 94, []) := by decide +kernel
theorem xe_176_91 (a0 a1 a2 a3 a4 : Option MV) (x : Int) (st : List MV) (μ : MM) (G : MG) : ev 176 91 [a0, a1, a2, a3, a4] (vI x :: st) μ G = if x = 0 then ev 176 210 [a0, a1, a2, a3, a4] st μ G else ev 176 94 [a0, a1, a2, a3, a4] st μ G := ev_br (mm_cnd_eq x 0) pg_176_91 rfl
theorem pg_176_94 : mm_prog 176 94 = some (0, .aload_n 0, 95, []) := by decide +kernel
theorem xe_176_94 (a1 a2 a3 a4 : Option MV) (x : Int) (st : List MV) (μ : MM) (G : MG) : ev 176 94 [some (vR x), a1, a2, a3, a4] st μ G = ev 176 95 [some (vR x), a1, a2, a3, a4] (vR x :: st) μ G := ev_stp pg_176_94 rfl
theorem pg_176_95 : mm_prog 176 95 = some (0, .iload_n 1, 96, []) := by decide +kernel
theorem xe_176_95 (a0 a2 a3 a4 : Option MV) (x : Int) (st : List MV) (μ : MM) (G : MG) : ev 176 95 [a0, some (vI x), a2, a3, a4] st μ G = ev 176 96 [a0, some (vI x), a2, a3, a4] (vI x :: st) μ G := ev_stp pg_176_95 rfl
theorem pg_176_96 : mm_prog 176 96 = some (1, .invokevirtual 140, 99, [1, 160, 1, 11]) := by decide +kernel
theorem xe_176_96 (a0 a1 a2 a3 a4 : Option MV) (x0 z : Int) (μ : MM) (G : MG) : ev 176 96 [a0, a1, a2, a3, a4] (vI x0 :: vR z :: []) μ G = if gk G z = 11 ∧ 0 < z then (ev 160 0 [some (vR z), some (vI x0)] [] μ G).bind (fun q => ev 176 99 [a0, a1, a2, a3, a4] (q.1.toList ++ []) q.2.1 q.2.2) else none := ev_calV (as := [vR z, vI x0]) (r := []) mx_160 pg_176_96 rfl rfl (Nat.le_of_ble_eq_true rfl) (Nat.le_of_ble_eq_true rfl)
theorem pg_176_99 : mm_prog 176 99 = some (0, .iconst 1, 100, []) := by decide +kernel
theorem xe_176_99 (a0 a1 a2 a3 a4 : Option MV) (st : List MV) (μ : MM) (G : MG) : ev 176 99 [a0, a1, a2, a3, a4] st μ G = ev 176 100 [a0, a1, a2, a3, a4] (vI (1) :: st) μ G := ev_stp pg_176_99 rfl
theorem pg_176_100 : mm_prog 176 100 = some (0, .if_icmp .ne 17, 103, []) := by decide +kernel
theorem xe_176_100 (a0 a1 a2 a3 a4 : Option MV) (x y : Int) (st : List MV) (μ : MM) (G : MG) : ev 176 100 [a0, a1, a2, a3, a4] (vI y :: vI x :: st) μ G = if ¬ x = y then ev 176 117 [a0, a1, a2, a3, a4] st μ G else ev 176 103 [a0, a1, a2, a3, a4] st μ G := ev_br (mm_cnd_ne x y) pg_176_100 rfl
theorem pg_176_103 : mm_prog 176 103 = some (0, .aload_n 0, 104, []) := by decide +kernel
theorem xe_176_103 (a1 a2 a3 a4 : Option MV) (x : Int) (st : List MV) (μ : MM) (G : MG) : ev 176 103 [some (vR x), a1, a2, a3, a4] st μ G = ev 176 104 [some (vR x), a1, a2, a3, a4] (vR x :: st) μ G := ev_stp pg_176_103 rfl
theorem pg_176_104 : mm_prog 176 104 = some (0, .iload_n 1, 105, []) := by decide +kernel
theorem xe_176_104 (a0 a2 a3 a4 : Option MV) (x : Int) (st : List MV) (μ : MM) (G : MG) : ev 176 104 [a0, some (vI x), a2, a3, a4] st μ G = ev 176 105 [a0, some (vI x), a2, a3, a4] (vI x :: st) μ G := ev_stp pg_176_104 rfl
theorem pg_176_105 : mm_prog 176 105 = some (0, .iconst 1, 106, []) := by decide +kernel
theorem xe_176_105 (a0 a1 a2 a3 a4 : Option MV) (st : List MV) (μ : MM) (G : MG) : ev 176 105 [a0, a1, a2, a3, a4] st μ G = ev 176 106 [a0, a1, a2, a3, a4] (vI (1) :: st) μ G := ev_stp pg_176_105 rfl
theorem pg_176_106 : mm_prog 176 106 = some (0, .iadd, 107, []) := by decide +kernel
theorem xe_176_106 (a0 a1 a2 a3 a4 : Option MV) (x y : Int) (st : List MV) (μ : MM) (G : MG) : ev 176 106 [a0, a1, a2, a3, a4] (vI y :: vI x :: st) μ G = ev 176 107 [a0, a1, a2, a3, a4] (vI (w32 (x + y)) :: st) μ G := ev_stp pg_176_106 rfl
theorem pg_176_107 : mm_prog 176 107 = some (1, .invokevirtual 140, 110, [1, 160, 1, 11]) := by decide +kernel
theorem xe_176_107 (a0 a1 a2 a3 a4 : Option MV) (x0 z : Int) (μ : MM) (G : MG) : ev 176 107 [a0, a1, a2, a3, a4] (vI x0 :: vR z :: []) μ G = if gk G z = 11 ∧ 0 < z then (ev 160 0 [some (vR z), some (vI x0)] [] μ G).bind (fun q => ev 176 110 [a0, a1, a2, a3, a4] (q.1.toList ++ []) q.2.1 q.2.2) else none := ev_calV (as := [vR z, vI x0]) (r := []) mx_160 pg_176_107 rfl rfl (Nat.le_of_ble_eq_true rfl) (Nat.le_of_ble_eq_true rfl)
theorem pg_176_110 : mm_prog 176 110 = some (0, .iconst 1, 111, []) := by decide +kernel
theorem xe_176_110 (a0 a1 a2 a3 a4 : Option MV) (st : List MV) (μ : MM) (G : MG) : ev 176 110 [a0, a1, a2, a3, a4] st μ G = ev 176 111 [a0, a1, a2, a3, a4] (vI (1) :: st) μ G := ev_stp pg_176_110 rfl
theorem pg_176_111 : mm_prog 176 111 = some (0, .if_icmp .ne 6, 114, []) := by decide +kernel
theorem xe_176_111 (a0 a1 a2 a3 a4 : Option MV) (x y : Int) (st : List MV) (μ : MM) (G : MG) : ev 176 111 [a0, a1, a2, a3, a4] (vI y :: vI x :: st) μ G = if ¬ x = y then ev 176 117 [a0, a1, a2, a3, a4] st μ G else ev 176 114 [a0, a1, a2, a3, a4] st μ G := ev_br (mm_cnd_ne x y) pg_176_111 rfl
theorem pg_176_114 : mm_prog 176 114 = some (0, .goto 96, 117, []) := by decide +kernel
theorem xe_176_114 (a0 a1 a2 a3 a4 : Option MV) (st : List MV) (μ : MM) (G : MG) : ev 176 114 [a0, a1, a2, a3, a4] st μ G = ev 176 210 [a0, a1, a2, a3, a4] st μ G := ev_stp pg_176_114 rfl
theorem pg_176_117 : mm_prog 176 117 = some (0, .bipush 8, 119, []) := by decide +kernel
theorem xe_176_117 (a0 a1 a2 a3 a4 : Option MV) (st : List MV) (μ : MM) (G : MG) : ev 176 117 [a0, a1, a2, a3, a4] st μ G = ev 176 119 [a0, a1, a2, a3, a4] (vI (8) :: st) μ G := ev_stp pg_176_117 rfl
theorem pg_176_119 : mm_prog 176 119 = some (0, .aload_n 0, 120, []) := by decide +kernel
theorem xe_176_119 (a1 a2 a3 a4 : Option MV) (x : Int) (st : List MV) (μ : MM) (G : MG) : ev 176 119 [some (vR x), a1, a2, a3, a4] st μ G = ev 176 120 [some (vR x), a1, a2, a3, a4] (vR x :: st) μ G := ev_stp pg_176_119 rfl
theorem pg_176_120 : mm_prog 176 120 = some (0, .iload_n 1, 121, []) := by decide +kernel
theorem xe_176_120 (a0 a2 a3 a4 : Option MV) (x : Int) (st : List MV) (μ : MM) (G : MG) : ev 176 120 [a0, some (vI x), a2, a3, a4] st μ G = ev 176 121 [a0, some (vI x), a2, a3, a4] (vI x :: st) μ G := ev_stp pg_176_120 rfl
theorem pg_176_121 : mm_prog 176 121 = some (1, .invokevirtual 140, 124, [1, 160, 1, 11]) := by decide +kernel
theorem xe_176_121 (a0 a1 a2 a3 a4 : Option MV) (x0 z r0 : Int) (μ : MM) (G : MG) : ev 176 121 [a0, a1, a2, a3, a4] (vI x0 :: vR z :: [vI r0]) μ G = if gk G z = 11 ∧ 0 < z then (ev 160 0 [some (vR z), some (vI x0)] [] μ G).bind (fun q => ev 176 124 [a0, a1, a2, a3, a4] (q.1.toList ++ [vI r0]) q.2.1 q.2.2) else none := ev_calV (as := [vR z, vI x0]) (r := [vI r0]) mx_160 pg_176_121 rfl rfl (Nat.le_of_ble_eq_true rfl) (Nat.le_of_ble_eq_true rfl)
theorem pg_176_124 : mm_prog 176 124 = some (0, .bipush 31, 126, []) := by decide +kernel
theorem xe_176_124 (a0 a1 a2 a3 a4 : Option MV) (st : List MV) (μ : MM) (G : MG) : ev 176 124 [a0, a1, a2, a3, a4] st μ G = ev 176 126 [a0, a1, a2, a3, a4] (vI (31) :: st) μ G := ev_stp pg_176_124 rfl
theorem pg_176_126 : mm_prog 176 126 = some (0, .iadd, 127, []) := by decide +kernel
theorem xe_176_126 (a0 a1 a2 a3 a4 : Option MV) (x y : Int) (st : List MV) (μ : MM) (G : MG) : ev 176 126 [a0, a1, a2, a3, a4] (vI y :: vI x :: st) μ G = ev 176 127 [a0, a1, a2, a3, a4] (vI (w32 (x + y)) :: st) μ G := ev_stp pg_176_126 rfl
theorem pg_176_127 : mm_prog 176 127 = some (0, .imul, 128, []) := by decide +kernel
theorem xe_176_127 (a0 a1 a2 a3 a4 : Option MV) (x y : Int) (st : List MV) (μ : MM) (G : MG) : ev 176 127 [a0, a1, a2, a3, a4] (vI y :: vI x :: st) μ G = ev 176 128 [a0, a1, a2, a3, a4] (vI (w32 (x * y)) :: st) μ G := ev_stp pg_176_127 rfl
theorem pg_176_128 : mm_prog 176 128 = some (0, .istore_n 2, 129, []) := by decide +kernel
theorem xe_176_128 (a0 a1 a2 a3 a4 : Option MV) (x : Int) (st : List MV) (μ : MM) (G : MG) (h : mm_nL a1 = true) : ev 176 128 [a0, a1, a2, a3, a4] (vI x :: st) μ G = ev 176 129 [a0, a1, some (vI x), a3, a4] st μ G := ev_st pg_176_128 rfl (mm_nl_of h) (Nat.le_of_ble_eq_true rfl)
theorem pg_176_129 : mm_prog 176 129 = some (0, .aload_n 0, 130, []) := by decide +kernel
theorem xe_176_129 (a1 a2 a3 a4 : Option MV) (x : Int) (st : List MV) (μ : MM) (G : MG) : ev 176 129 [some (vR x), a1, a2, a3, a4] st μ G = ev 176 130 [some (vR x), a1, a2, a3, a4] (vR x :: st) μ G := ev_stp pg_176_129 rfl
theorem pg_176_130 : mm_prog 176 130 = some (0, .iload_n 1, 131, []) := by decide +kernel
theorem xe_176_130 (a0 a2 a3 a4 : Option MV) (x : Int) (st : List MV) (μ : MM) (G : MG) : ev 176 130 [a0, some (vI x), a2, a3, a4] st μ G = ev 176 131 [a0, some (vI x), a2, a3, a4] (vI x :: st) μ G := ev_stp pg_176_130 rfl
theorem pg_176_131 : mm_prog 176 131 = some (0, .iconst 1, 132, []) := by decide +kernel
theorem xe_176_131 (a0 a1 a2 a3 a4 : Option MV) (st : List MV) (μ : MM) (G : MG) : ev 176 131 [a0, a1, a2, a3, a4] st μ G = ev 176 132 [a0, a1, a2, a3, a4] (vI (1) :: st) μ G := ev_stp pg_176_131 rfl
theorem pg_176_132 : mm_prog 176 132 = some (0, .iadd, 133, []) := by decide +kernel
theorem xe_176_132 (a0 a1 a2 a3 a4 : Option MV) (x y : Int) (st : List MV) (μ : MM) (G : MG) : ev 176 132 [a0, a1, a2, a3, a4] (vI y :: vI x :: st) μ G = ev 176 133 [a0, a1, a2, a3, a4] (vI (w32 (x + y)) :: st) μ G := ev_stp pg_176_132 rfl
theorem pg_176_133 : mm_prog 176 133 = some (1, .invokevirtual 140, 136, [1, 160, 1, 11]) := by decide +kernel
theorem xe_176_133 (a0 a1 a2 a3 a4 : Option MV) (x0 z : Int) (μ : MM) (G : MG) : ev 176 133 [a0, a1, a2, a3, a4] (vI x0 :: vR z :: []) μ G = if gk G z = 11 ∧ 0 < z then (ev 160 0 [some (vR z), some (vI x0)] [] μ G).bind (fun q => ev 176 136 [a0, a1, a2, a3, a4] (q.1.toList ++ []) q.2.1 q.2.2) else none := ev_calV (as := [vR z, vI x0]) (r := []) mx_160 pg_176_133 rfl rfl (Nat.le_of_ble_eq_true rfl) (Nat.le_of_ble_eq_true rfl)
theorem pg_176_136 : mm_prog 176 136 = some (0, .bipush 64, 138, []) := by decide +kernel
theorem xe_176_136 (a0 a1 a2 a3 a4 : Option MV) (st : List MV) (μ : MM) (G : MG) : ev 176 136 [a0, a1, a2, a3, a4] st μ G = ev 176 138 [a0, a1, a2, a3, a4] (vI (64) :: st) μ G := ev_stp pg_176_136 rfl
theorem pg_176_138 : mm_prog 176 138 = some (0, .idiv, 139, []) := by decide +kernel
theorem xe_176_138 (a0 a1 a2 a3 a4 : Option MV) (x y : Int) (st : List MV) (μ : MM) (G : MG) : ev 176 138 [a0, a1, a2, a3, a4] (vI y :: vI x :: st) μ G = if y = 0 then none else ev 176 139 [a0, a1, a2, a3, a4] (vI (mm_div x y) :: st) μ G := ev_no pg_176_138 rfl
theorem pg_176_139 : mm_prog 176 139 = some (0, .istore_n 3, 140, []) := by decide +kernel
theorem xe_176_139 (a0 a1 a2 a3 a4 : Option MV) (x : Int) (st : List MV) (μ : MM) (G : MG) (h : mm_nL a2 = true) : ev 176 139 [a0, a1, a2, a3, a4] (vI x :: st) μ G = ev 176 140 [a0, a1, a2, some (vI x), a4] st μ G := ev_st pg_176_139 rfl (mm_nl_of h) (Nat.le_of_ble_eq_true rfl)
theorem pg_176_140 : mm_prog 176 140 = some (0, .iload_n 3, 141, []) := by decide +kernel
theorem xe_176_140 (a0 a1 a2 a4 : Option MV) (x : Int) (st : List MV) (μ : MM) (G : MG) : ev 176 140 [a0, a1, a2, some (vI x), a4] st μ G = ev 176 141 [a0, a1, a2, some (vI x), a4] (vI x :: st) μ G := ev_stp pg_176_140 rfl
theorem pg_176_141 : mm_prog 176 141 = some (0, .ifCond .ne 13, 144, []) := by decide +kernel
theorem xe_176_141 (a0 a1 a2 a3 a4 : Option MV) (x : Int) (st : List MV) (μ : MM) (G : MG) : ev 176 141 [a0, a1, a2, a3, a4] (vI x :: st) μ G = if ¬ x = 0 then ev 176 154 [a0, a1, a2, a3, a4] st μ G else ev 176 144 [a0, a1, a2, a3, a4] st μ G := ev_br (mm_cnd_ne x 0) pg_176_141 rfl
theorem pg_176_144 : mm_prog 176 144 = some (0, .iload_n 2, 145, []) := by decide +kernel
theorem xe_176_144 (a0 a1 a3 a4 : Option MV) (x : Int) (st : List MV) (μ : MM) (G : MG) : ev 176 144 [a0, a1, some (vI x), a3, a4] st μ G = ev 176 145 [a0, a1, some (vI x), a3, a4] (vI x :: st) μ G := ev_stp pg_176_144 rfl
theorem pg_176_145 : mm_prog 176 145 = some (0, .bipush 10, 147, []) := by decide +kernel
theorem xe_176_145 (a0 a1 a2 a3 a4 : Option MV) (st : List MV) (μ : MM) (G : MG) : ev 176 145 [a0, a1, a2, a3, a4] st μ G = ev 176 147 [a0, a1, a2, a3, a4] (vI (10) :: st) μ G := ev_stp pg_176_145 rfl
theorem pg_176_147 : mm_prog 176 147 = some (0, .imul, 148, []) := by decide +kernel
theorem xe_176_147 (a0 a1 a2 a3 a4 : Option MV) (x y : Int) (st : List MV) (μ : MM) (G : MG) : ev 176 147 [a0, a1, a2, a3, a4] (vI y :: vI x :: st) μ G = ev 176 148 [a0, a1, a2, a3, a4] (vI (w32 (x * y)) :: st) μ G := ev_stp pg_176_147 rfl
theorem pg_176_148 : mm_prog 176 148 = some (0, .bipush 16, 150, []) := by decide +kernel
theorem xe_176_148 (a0 a1 a2 a3 a4 : Option MV) (st : List MV) (μ : MM) (G : MG) : ev 176 148 [a0, a1, a2, a3, a4] st μ G = ev 176 150 [a0, a1, a2, a3, a4] (vI (16) :: st) μ G := ev_stp pg_176_148 rfl
theorem pg_176_150 : mm_prog 176 150 = some (0, .idiv, 151, []) := by decide +kernel
theorem xe_176_150 (a0 a1 a2 a3 a4 : Option MV) (x y : Int) (st : List MV) (μ : MM) (G : MG) : ev 176 150 [a0, a1, a2, a3, a4] (vI y :: vI x :: st) μ G = if y = 0 then none else ev 176 151 [a0, a1, a2, a3, a4] (vI (mm_div x y) :: st) μ G := ev_no pg_176_150 rfl
theorem pg_176_151 : mm_prog 176 151 = some (0, .goto 36, 154, []) := by decide +kernel
theorem xe_176_151 (a0 a1 a2 a3 a4 : Option MV) (st : List MV) (μ : MM) (G : MG) : ev 176 151 [a0, a1, a2, a3, a4] st μ G = ev 176 187 [a0, a1, a2, a3, a4] st μ G := ev_stp pg_176_151 rfl
theorem pg_176_154 : mm_prog 176 154 = some (0, .iload_n 3, 155, []) := by decide +kernel
theorem xe_176_154 (a0 a1 a2 a4 : Option MV) (x : Int) (st : List MV) (μ : MM) (G : MG) : ev 176 154 [a0, a1, a2, some (vI x), a4] st μ G = ev 176 155 [a0, a1, a2, some (vI x), a4] (vI x :: st) μ G := ev_stp pg_176_154 rfl
theorem pg_176_155 : mm_prog 176 155 = some (0, .iconst 1, 156, []) := by decide +kernel
theorem xe_176_155 (a0 a1 a2 a3 a4 : Option MV) (st : List MV) (μ : MM) (G : MG) : ev 176 155 [a0, a1, a2, a3, a4] st μ G = ev 176 156 [a0, a1, a2, a3, a4] (vI (1) :: st) μ G := ev_stp pg_176_155 rfl
theorem pg_176_156 : mm_prog 176 156 = some (0, .if_icmp .ne 11, 159, []) := by decide +kernel
theorem xe_176_156 (a0 a1 a2 a3 a4 : Option MV) (x y : Int) (st : List MV) (μ : MM) (G : MG) : ev 176 156 [a0, a1, a2, a3, a4] (vI y :: vI x :: st) μ G = if ¬ x = y then ev 176 167 [a0, a1, a2, a3, a4] st μ G else ev 176 159 [a0, a1, a2, a3, a4] st μ G := ev_br (mm_cnd_ne x y) pg_176_156 rfl
theorem pg_176_159 : mm_prog 176 159 = some (0, .iload_n 2, 160, []) := by decide +kernel
theorem xe_176_159 (a0 a1 a3 a4 : Option MV) (x : Int) (st : List MV) (μ : MM) (G : MG) : ev 176 159 [a0, a1, some (vI x), a3, a4] st μ G = ev 176 160 [a0, a1, some (vI x), a3, a4] (vI x :: st) μ G := ev_stp pg_176_159 rfl
theorem pg_176_160 : mm_prog 176 160 = some (0, .iconst 3, 161, []) := by decide +kernel
theorem xe_176_160 (a0 a1 a2 a3 a4 : Option MV) (st : List MV) (μ : MM) (G : MG) : ev 176 160 [a0, a1, a2, a3, a4] st μ G = ev 176 161 [a0, a1, a2, a3, a4] (vI (3) :: st) μ G := ev_stp pg_176_160 rfl
theorem pg_176_161 : mm_prog 176 161 = some (0, .imul, 162, []) := by decide +kernel
theorem xe_176_161 (a0 a1 a2 a3 a4 : Option MV) (x y : Int) (st : List MV) (μ : MM) (G : MG) : ev 176 161 [a0, a1, a2, a3, a4] (vI y :: vI x :: st) μ G = ev 176 162 [a0, a1, a2, a3, a4] (vI (w32 (x * y)) :: st) μ G := ev_stp pg_176_161 rfl
theorem pg_176_162 : mm_prog 176 162 = some (0, .iconst 4, 163, []) := by decide +kernel
theorem xe_176_162 (a0 a1 a2 a3 a4 : Option MV) (st : List MV) (μ : MM) (G : MG) : ev 176 162 [a0, a1, a2, a3, a4] st μ G = ev 176 163 [a0, a1, a2, a3, a4] (vI (4) :: st) μ G := ev_stp pg_176_162 rfl
theorem pg_176_163 : mm_prog 176 163 = some (0, .idiv, 164, []) := by decide +kernel
theorem xe_176_163 (a0 a1 a2 a3 a4 : Option MV) (x y : Int) (st : List MV) (μ : MM) (G : MG) : ev 176 163 [a0, a1, a2, a3, a4] (vI y :: vI x :: st) μ G = if y = 0 then none else ev 176 164 [a0, a1, a2, a3, a4] (vI (mm_div x y) :: st) μ G := ev_no pg_176_163 rfl
theorem pg_176_164 : mm_prog 176 164 = some (0, .goto 23, 167, []) := by decide +kernel
theorem xe_176_164 (a0 a1 a2 a3 a4 : Option MV) (st : List MV) (μ : MM) (G : MG) : ev 176 164 [a0, a1, a2, a3, a4] st μ G = ev 176 187 [a0, a1, a2, a3, a4] st μ G := ev_stp pg_176_164 rfl
theorem pg_176_167 : mm_prog 176 167 = some (0, .iload_n 3, 168, []) := by decide +kernel
theorem xe_176_167 (a0 a1 a2 a4 : Option MV) (x : Int) (st : List MV) (μ : MM) (G : MG) : ev 176 167 [a0, a1, a2, some (vI x), a4] st μ G = ev 176 168 [a0, a1, a2, some (vI x), a4] (vI x :: st) μ G := ev_stp pg_176_167 rfl
theorem pg_176_168 : mm_prog 176 168 = some (0, .iconst 2, 169, []) := by decide +kernel
theorem xe_176_168 (a0 a1 a2 a3 a4 : Option MV) (st : List MV) (μ : MM) (G : MG) : ev 176 168 [a0, a1, a2, a3, a4] st μ G = ev 176 169 [a0, a1, a2, a3, a4] (vI (2) :: st) μ G := ev_stp pg_176_168 rfl
theorem pg_176_169 : mm_prog 176 169 = some (0, .if_icmp .ne 11, 172, []) := by decide +kernel
theorem xe_176_169 (a0 a1 a2 a3 a4 : Option MV) (x y : Int) (st : List MV) (μ : MM) (G : MG) : ev 176 169 [a0, a1, a2, a3, a4] (vI y :: vI x :: st) μ G = if ¬ x = y then ev 176 180 [a0, a1, a2, a3, a4] st μ G else ev 176 172 [a0, a1, a2, a3, a4] st μ G := ev_br (mm_cnd_ne x y) pg_176_169 rfl
theorem pg_176_172 : mm_prog 176 172 = some (0, .iload_n 2, 173, []) := by decide +kernel
theorem xe_176_172 (a0 a1 a3 a4 : Option MV) (x : Int) (st : List MV) (μ : MM) (G : MG) : ev 176 172 [a0, a1, some (vI x), a3, a4] st μ G = ev 176 173 [a0, a1, some (vI x), a3, a4] (vI x :: st) μ G := ev_stp pg_176_172 rfl
theorem pg_176_173 : mm_prog 176 173 = some (0, .iconst 4, 174, []) := by decide +kernel
theorem xe_176_173 (a0 a1 a2 a3 a4 : Option MV) (st : List MV) (μ : MM) (G : MG) : ev 176 173 [a0, a1, a2, a3, a4] st μ G = ev 176 174 [a0, a1, a2, a3, a4] (vI (4) :: st) μ G := ev_stp pg_176_173 rfl
theorem pg_176_174 : mm_prog 176 174 = some (0, .imul, 175, []) := by decide +kernel
theorem xe_176_174 (a0 a1 a2 a3 a4 : Option MV) (x y : Int) (st : List MV) (μ : MM) (G : MG) : ev 176 174 [a0, a1, a2, a3, a4] (vI y :: vI x :: st) μ G = ev 176 175 [a0, a1, a2, a3, a4] (vI (w32 (x * y)) :: st) μ G := ev_stp pg_176_174 rfl
theorem pg_176_175 : mm_prog 176 175 = some (0, .iconst 5, 176, []) := by decide +kernel
theorem xe_176_175 (a0 a1 a2 a3 a4 : Option MV) (st : List MV) (μ : MM) (G : MG) : ev 176 175 [a0, a1, a2, a3, a4] st μ G = ev 176 176 [a0, a1, a2, a3, a4] (vI (5) :: st) μ G := ev_stp pg_176_175 rfl
theorem pg_176_176 : mm_prog 176 176 = some (0, .idiv, 177, []) := by decide +kernel
theorem xe_176_176 (a0 a1 a2 a3 a4 : Option MV) (x y : Int) (st : List MV) (μ : MM) (G : MG) : ev 176 176 [a0, a1, a2, a3, a4] (vI y :: vI x :: st) μ G = if y = 0 then none else ev 176 177 [a0, a1, a2, a3, a4] (vI (mm_div x y) :: st) μ G := ev_no pg_176_176 rfl
theorem pg_176_177 : mm_prog 176 177 = some (0, .goto 10, 180, []) := by decide +kernel
theorem xe_176_177 (a0 a1 a2 a3 a4 : Option MV) (st : List MV) (μ : MM) (G : MG) : ev 176 177 [a0, a1, a2, a3, a4] st μ G = ev 176 187 [a0, a1, a2, a3, a4] st μ G := ev_stp pg_176_177 rfl
theorem pg_176_180 : mm_prog 176 180 = some (0, .iload_n 2, 181, []) := by decide +kernel
theorem xe_176_180 (a0 a1 a3 a4 : Option MV) (x : Int) (st : List MV) (μ : MM) (G : MG) : ev 176 180 [a0, a1, some (vI x), a3, a4] st μ G = ev 176 181 [a0, a1, some (vI x), a3, a4] (vI x :: st) μ G := ev_stp pg_176_180 rfl
theorem pg_176_181 : mm_prog 176 181 = some (0, .bipush 9, 183, []) := by decide +kernel
theorem xe_176_181 (a0 a1 a2 a3 a4 : Option MV) (st : List MV) (μ : MM) (G : MG) : ev 176 181 [a0, a1, a2, a3, a4] st μ G = ev 176 183 [a0, a1, a2, a3, a4] (vI (9) :: st) μ G := ev_stp pg_176_181 rfl
theorem pg_176_183 : mm_prog 176 183 = some (0, .imul, 184, []) := by decide +kernel
theorem xe_176_183 (a0 a1 a2 a3 a4 : Option MV) (x y : Int) (st : List MV) (μ : MM) (G : MG) : ev 176 183 [a0, a1, a2, a3, a4] (vI y :: vI x :: st) μ G = ev 176 184 [a0, a1, a2, a3, a4] (vI (w32 (x * y)) :: st) μ G := ev_stp pg_176_183 rfl
theorem pg_176_184 : mm_prog 176 184 = some (0, .bipush 16, 186, []) := by decide +kernel
theorem xe_176_184 (a0 a1 a2 a3 a4 : Option MV) (st : List MV) (μ : MM) (G : MG) : ev 176 184 [a0, a1, a2, a3, a4] st μ G = ev 176 186 [a0, a1, a2, a3, a4] (vI (16) :: st) μ G := ev_stp pg_176_184 rfl
theorem pg_176_186 : mm_prog 176 186 = some (0, .idiv, 187, []) := by decide +kernel
theorem xe_176_186 (a0 a1 a2 a3 a4 : Option MV) (x y : Int) (st : List MV) (μ : MM) (G : MG) : ev 176 186 [a0, a1, a2, a3, a4] (vI y :: vI x :: st) μ G = if y = 0 then none else ev 176 187 [a0, a1, a2, a3, a4] (vI (mm_div x y) :: st) μ G := ev_no pg_176_186 rfl
theorem pg_176_187 : mm_prog 176 187 = some (0, .istore 4, 189, []) := by decide +kernel
theorem xe_176_187 (a0 a1 a2 a3 a4 : Option MV) (x : Int) (st : List MV) (μ : MM) (G : MG) (h : mm_nL a3 = true) : ev 176 187 [a0, a1, a2, a3, a4] (vI x :: st) μ G = ev 176 189 [a0, a1, a2, a3, some (vI x)] st μ G := ev_st pg_176_187 rfl (mm_nl_of h) (Nat.le_of_ble_eq_true rfl)
theorem pg_176_189 : mm_prog 176 189 = some (0, .aload_n 0, 190, []) := by decide +kernel
theorem xe_176_189 (a1 a2 a3 a4 : Option MV) (x : Int) (st : List MV) (μ : MM) (G : MG) : ev 176 189 [some (vR x), a1, a2, a3, a4] st μ G = ev 176 190 [some (vR x), a1, a2, a3, a4] (vR x :: st) μ G := ev_stp pg_176_189 rfl
theorem pg_176_190 : mm_prog 176 190 = some (0, .iload_n 2, 191, []) := by decide +kernel
theorem xe_176_190 (a0 a1 a3 a4 : Option MV) (x : Int) (st : List MV) (μ : MM) (G : MG) : ev 176 190 [a0, a1, some (vI x), a3, a4] st μ G = ev 176 191 [a0, a1, some (vI x), a3, a4] (vI x :: st) μ G := ev_stp pg_176_190 rfl
theorem pg_176_191 : mm_prog 176 191 = some (0, .iload 4, 193, []) := by decide +kernel
theorem xe_176_191 (a0 a1 a2 a3 : Option MV) (x : Int) (st : List MV) (μ : MM) (G : MG) : ev 176 191 [a0, a1, a2, a3, some (vI x)] st μ G = ev 176 193 [a0, a1, a2, a3, some (vI x)] (vI x :: st) μ G := ev_stp pg_176_191 rfl
theorem pg_176_193 : mm_prog 176 193 = some (0, .bipush 60, 195, []) := by decide +kernel
theorem xe_176_193 (a0 a1 a2 a3 a4 : Option MV) (st : List MV) (μ : MM) (G : MG) : ev 176 193 [a0, a1, a2, a3, a4] st μ G = ev 176 195 [a0, a1, a2, a3, a4] (vI (60) :: st) μ G := ev_stp pg_176_193 rfl
theorem pg_176_195 : mm_prog 176 195 = some (0, .aload_n 0, 196, []) := by decide +kernel
theorem xe_176_195 (a1 a2 a3 a4 : Option MV) (x : Int) (st : List MV) (μ : MM) (G : MG) : ev 176 195 [some (vR x), a1, a2, a3, a4] st μ G = ev 176 196 [some (vR x), a1, a2, a3, a4] (vR x :: st) μ G := ev_stp pg_176_195 rfl
theorem pg_176_196 : mm_prog 176 196 = some (0, .iload_n 1, 197, []) := by decide +kernel
theorem xe_176_196 (a0 a2 a3 a4 : Option MV) (x : Int) (st : List MV) (μ : MM) (G : MG) : ev 176 196 [a0, some (vI x), a2, a3, a4] st μ G = ev 176 197 [a0, some (vI x), a2, a3, a4] (vI x :: st) μ G := ev_stp pg_176_196 rfl
theorem pg_176_197 : mm_prog 176 197 = some (0, .iconst 1, 198, []) := by decide +kernel
theorem xe_176_197 (a0 a1 a2 a3 a4 : Option MV) (st : List MV) (μ : MM) (G : MG) : ev 176 197 [a0, a1, a2, a3, a4] st μ G = ev 176 198 [a0, a1, a2, a3, a4] (vI (1) :: st) μ G := ev_stp pg_176_197 rfl
theorem pg_176_198 : mm_prog 176 198 = some (0, .iadd, 199, []) := by decide +kernel
theorem xe_176_198 (a0 a1 a2 a3 a4 : Option MV) (x y : Int) (st : List MV) (μ : MM) (G : MG) : ev 176 198 [a0, a1, a2, a3, a4] (vI y :: vI x :: st) μ G = ev 176 199 [a0, a1, a2, a3, a4] (vI (w32 (x + y)) :: st) μ G := ev_stp pg_176_198 rfl
theorem pg_176_199 : mm_prog 176 199 = some (1, .invokevirtual 140, 202, [1, 160, 1, 11]) := by decide +kernel
theorem xe_176_199 (a0 a1 a2 a3 a4 : Option MV) (x0 z r0 r1 r2 r3 : Int) (μ : MM) (G : MG) : ev 176 199 [a0, a1, a2, a3, a4] (vI x0 :: vR z :: [vI r0, vI r1, vI r2, vR r3]) μ G = if gk G z = 11 ∧ 0 < z then (ev 160 0 [some (vR z), some (vI x0)] [] μ G).bind (fun q => ev 176 202 [a0, a1, a2, a3, a4] (q.1.toList ++ [vI r0, vI r1, vI r2, vR r3]) q.2.1 q.2.2) else none := ev_calV (as := [vR z, vI x0]) (r := [vI r0, vI r1, vI r2, vR r3]) mx_160 pg_176_199 rfl rfl (Nat.le_of_ble_eq_true rfl) (Nat.le_of_ble_eq_true rfl)
theorem pg_176_202 : mm_prog 176 202 = some (0, .bipush 64, 204, []) := by decide +kernel
theorem xe_176_202 (a0 a1 a2 a3 a4 : Option MV) (st : List MV) (μ : MM) (G : MG) : ev 176 202 [a0, a1, a2, a3, a4] st μ G = ev 176 204 [a0, a1, a2, a3, a4] (vI (64) :: st) μ G := ev_stp pg_176_202 rfl
theorem pg_176_204 : mm_prog 176 204 = some (0, .irem, 205, []) := by decide +kernel
theorem xe_176_204 (a0 a1 a2 a3 a4 : Option MV) (x y : Int) (st : List MV) (μ : MM) (G : MG) : ev 176 204 [a0, a1, a2, a3, a4] (vI y :: vI x :: st) μ G = if y = 0 then none else ev 176 205 [a0, a1, a2, a3, a4] (vI (mm_rem x y) :: st) μ G := ev_no pg_176_204 rfl
theorem pg_176_205 : mm_prog 176 205 = some (0, .iadd, 206, []) := by decide +kernel
theorem xe_176_205 (a0 a1 a2 a3 a4 : Option MV) (x y : Int) (st : List MV) (μ : MM) (G : MG) : ev 176 205 [a0, a1, a2, a3, a4] (vI y :: vI x :: st) μ G = ev 176 206 [a0, a1, a2, a3, a4] (vI (w32 (x + y)) :: st) μ G := ev_stp pg_176_205 rfl
theorem pg_176_206 : mm_prog 176 206 = some (0, .iconst 3, 207, []) := by decide +kernel
theorem xe_176_206 (a0 a1 a2 a3 a4 : Option MV) (st : List MV) (μ : MM) (G : MG) : ev 176 206 [a0, a1, a2, a3, a4] st μ G = ev 176 207 [a0, a1, a2, a3, a4] (vI (3) :: st) μ G := ev_stp pg_176_206 rfl
theorem pg_176_207 : mm_prog 176 207 = some (1, .invokevirtual 217, 210, [1, 175, 4, 11]) := by decide +kernel
theorem xe_176_207 (a0 a1 a2 a3 a4 : Option MV) (x0 x1 x2 x3 z : Int) (μ : MM) (G : MG) : ev 176 207 [a0, a1, a2, a3, a4] (vI x3 :: vI x2 :: vI x1 :: vI x0 :: vR z :: []) μ G = if gk G z = 11 ∧ 0 < z then (ev 175 0 [some (vR z), some (vI x0), some (vI x1), some (vI x2), some (vI x3)] [] μ G).bind (fun q => ev 176 210 [a0, a1, a2, a3, a4] (q.1.toList ++ []) q.2.1 q.2.2) else none := ev_calV (as := [vR z, vI x0, vI x1, vI x2, vI x3]) (r := []) mx_175 pg_176_207 rfl rfl (Nat.le_of_ble_eq_true rfl) (Nat.le_of_ble_eq_true rfl)
theorem pg_176_210 : mm_prog 176 210 = some (0, .iinc 1 2, 213, []) := by decide +kernel
theorem xe_176_210 (a0 a2 a3 a4 : Option MV) (x : Int) (st : List MV) (μ : MM) (G : MG) (h : mm_nL a0 = true) : ev 176 210 [a0, some (vI x), a2, a3, a4] st μ G = ev 176 213 [a0, some (vI (w32 (x + (2)))), a2, a3, a4] st μ G := ev_st pg_176_210 rfl (mm_nl_of h) (Nat.le_of_ble_eq_true rfl)
theorem pg_176_213 : mm_prog 176 213 = some (0, .goto (-133), 216, []) := by decide +kernel
theorem xe_176_213 (a0 a1 a2 a3 a4 : Option MV) (st : List MV) (μ : MM) (G : MG) : ev 176 213 [a0, a1, a2, a3, a4] st μ G = ev 176 80 [a0, a1, a2, a3, a4] st μ G := ev_stp pg_176_213 rfl
theorem pg_176_216 : mm_prog 176 216 = some (0, .iconst 0, 217, []) := by decide +kernel
theorem xe_176_216 (a0 a1 a2 a3 a4 : Option MV) (st : List MV) (μ : MM) (G : MG) : ev 176 216 [a0, a1, a2, a3, a4] st μ G = ev 176 217 [a0, a1, a2, a3, a4] (vI (0) :: st) μ G := ev_stp pg_176_216 rfl
theorem pg_176_217 : mm_prog 176 217 = some (0, .istore_n 1, 218, []) := by decide +kernel
theorem xe_176_217 (a0 a1 a2 a3 a4 : Option MV) (x : Int) (st : List MV) (μ : MM) (G : MG) (h : mm_nL a0 = true) : ev 176 217 [a0, a1, a2, a3, a4] (vI x :: st) μ G = ev 176 218 [a0, some (vI x), a2, a3, a4] st μ G := ev_st pg_176_217 rfl (mm_nl_of h) (Nat.le_of_ble_eq_true rfl)
theorem pg_176_218 : mm_prog 176 218 = some (0, .iload_n 1, 219, []) := by decide +kernel
theorem xe_176_218 (a0 a2 a3 a4 : Option MV) (x : Int) (st : List MV) (μ : MM) (G : MG) : ev 176 218 [a0, some (vI x), a2, a3, a4] st μ G = ev 176 219 [a0, some (vI x), a2, a3, a4] (vI x :: st) μ G := ev_stp pg_176_218 rfl
theorem pg_176_219 : mm_prog 176 219 = some (0, .aload_n 0, 220, []) := by decide +kernel
theorem xe_176_219 (a1 a2 a3 a4 : Option MV) (x : Int) (st : List MV) (μ : MM) (G : MG) : ev 176 219 [some (vR x), a1, a2, a3, a4] st μ G = ev 176 220 [some (vR x), a1, a2, a3, a4] (vR x :: st) μ G := ev_stp pg_176_219 rfl
theorem pg_176_220 : mm_prog 176 220 = some (0, .getfield 54, 223, [11, 25, 2]) := by decide +kernel
theorem xe_176_220 (a0 a1 a2 a3 a4 : Option MV) (x : Int) (st : List MV) (μ : MM) (G : MG) : ev 176 220 [a0, a1, a2, a3, a4] (vR x :: st) μ G = if gk G x = 11 then ev 176 223 [a0, a1, a2, a3, a4] (vR (μ x 25) :: st) μ G else none := ev_if pg_176_220 rfl
theorem pg_176_223 : mm_prog 176 223 = some (0, .arraylength, 224, []) := by decide +kernel
theorem xe_176_223 (a0 a1 a2 a3 a4 : Option MV) (x : Int) (st : List MV) (μ : MM) (G : MG) : ev 176 223 [a0, a1, a2, a3, a4] (vR x :: st) μ G = if 100 ≤ gk G x then ev 176 224 [a0, a1, a2, a3, a4] (vI (gl G x) :: st) μ G else none := ev_if pg_176_223 rfl
theorem pg_176_224 : mm_prog 176 224 = some (0, .if_icmp .ge 62, 227, []) := by decide +kernel
theorem xe_176_224 (a0 a1 a2 a3 a4 : Option MV) (x y : Int) (st : List MV) (μ : MM) (G : MG) : ev 176 224 [a0, a1, a2, a3, a4] (vI y :: vI x :: st) μ G = if y ≤ x then ev 176 286 [a0, a1, a2, a3, a4] st μ G else ev 176 227 [a0, a1, a2, a3, a4] st μ G := ev_br (mm_cnd_ge x y) pg_176_224 rfl
theorem pg_176_227 : mm_prog 176 227 = some (0, .aload_n 0, 228, []) := by decide +kernel
theorem xe_176_227 (a1 a2 a3 a4 : Option MV) (x : Int) (st : List MV) (μ : MM) (G : MG) : ev 176 227 [some (vR x), a1, a2, a3, a4] st μ G = ev 176 228 [some (vR x), a1, a2, a3, a4] (vR x :: st) μ G := ev_stp pg_176_227 rfl
theorem pg_176_228 : mm_prog 176 228 = some (0, .aload_n 0, 229, []) := by decide +kernel
theorem xe_176_228 (a1 a2 a3 a4 : Option MV) (x : Int) (st : List MV) (μ : MM) (G : MG) : ev 176 228 [some (vR x), a1, a2, a3, a4] st μ G = ev 176 229 [some (vR x), a1, a2, a3, a4] (vR x :: st) μ G := ev_stp pg_176_228 rfl
theorem pg_176_229 : mm_prog 176 229 = some (0, .getfield 54, 232, [11, 25, 2]) := by decide +kernel
theorem xe_176_229 (a0 a1 a2 a3 a4 : Option MV) (x : Int) (st : List MV) (μ : MM) (G : MG) : ev 176 229 [a0, a1, a2, a3, a4] (vR x :: st) μ G = if gk G x = 11 then ev 176 232 [a0, a1, a2, a3, a4] (vR (μ x 25) :: st) μ G else none := ev_if pg_176_229 rfl
theorem pg_176_232 : mm_prog 176 232 = some (0, .iload_n 1, 233, []) := by decide +kernel
theorem xe_176_232 (a0 a2 a3 a4 : Option MV) (x : Int) (st : List MV) (μ : MM) (G : MG) : ev 176 232 [a0, some (vI x), a2, a3, a4] st μ G = ev 176 233 [a0, some (vI x), a2, a3, a4] (vI x :: st) μ G := ev_stp pg_176_232 rfl
theorem pg_176_233 : mm_prog 176 233 = some (0, .iaload, 234, []) := by decide +kernel
theorem xe_176_233 (a0 a1 a2 a3 a4 : Option MV) (x y : Int) (st : List MV) (μ : MM) (G : MG) : ev 176 233 [a0, a1, a2, a3, a4] (vI x :: vR y :: st) μ G = if gk G y = 100 ∧ 0 ≤ x ∧ x < gl G y then ev 176 234 [a0, a1, a2, a3, a4] (vI (μ y x) :: st) μ G else none := ev_if pg_176_233 rfl
theorem pg_176_234 : mm_prog 176 234 = some (1, .invokevirtual 140, 237, [1, 160, 1, 11]) := by decide +kernel
theorem xe_176_234 (a0 a1 a2 a3 a4 : Option MV) (x0 z : Int) (μ : MM) (G : MG) : ev 176 234 [a0, a1, a2, a3, a4] (vI x0 :: vR z :: []) μ G = if gk G z = 11 ∧ 0 < z then (ev 160 0 [some (vR z), some (vI x0)] [] μ G).bind (fun q => ev 176 237 [a0, a1, a2, a3, a4] (q.1.toList ++ []) q.2.1 q.2.2) else none := ev_calV (as := [vR z, vI x0]) (r := []) mx_160 pg_176_234 rfl rfl (Nat.le_of_ble_eq_true rfl) (Nat.le_of_ble_eq_true rfl)
theorem pg_176_237 : mm_prog 176 237 = some (0, .aload_n 0, 238, []) := by decide +kernel
theorem xe_176_237 (a1 a2 a3 a4 : Option MV) (x : Int) (st : List MV) (μ : MM) (G : MG) : ev 176 237 [some (vR x), a1, a2, a3, a4] st μ G = ev 176 238 [some (vR x), a1, a2, a3, a4] (vR x :: st) μ G := ev_stp pg_176_237 rfl
theorem pg_176_238 : mm_prog 176 238 = some (0, .getfield 54, 241, [11, 25, 2]) := by decide +kernel
theorem xe_176_238 (a0 a1 a2 a3 a4 : Option MV) (x : Int) (st : List MV) (μ : MM) (G : MG) : ev 176 238 [a0, a1, a2, a3, a4] (vR x :: st) μ G = if gk G x = 11 then ev 176 241 [a0, a1, a2, a3, a4] (vR (μ x 25) :: st) μ G else none := ev_if pg_176_238 rfl
theorem pg_176_241 : mm_prog 176 241 = some (0, .iload_n 1, 242, []) := by decide +kernel
theorem xe_176_241 (a0 a2 a3 a4 : Option MV) (x : Int) (st : List MV) (μ : MM) (G : MG) : ev 176 241 [a0, some (vI x), a2, a3, a4] st μ G = ev 176 242 [a0, some (vI x), a2, a3, a4] (vI x :: st) μ G := ev_stp pg_176_241 rfl
theorem pg_176_242 : mm_prog 176 242 = some (0, .iconst 1, 243, []) := by decide +kernel
theorem xe_176_242 (a0 a1 a2 a3 a4 : Option MV) (st : List MV) (μ : MM) (G : MG) : ev 176 242 [a0, a1, a2, a3, a4] st μ G = ev 176 243 [a0, a1, a2, a3, a4] (vI (1) :: st) μ G := ev_stp pg_176_242 rfl
theorem pg_176_243 : mm_prog 176 243 = some (0, .iadd, 244, []) := by decide +kernel
theorem xe_176_243 (a0 a1 a2 a3 a4 : Option MV) (x y : Int) (st : List MV) (μ : MM) (G : MG) : ev 176 243 [a0, a1, a2, a3, a4] (vI y :: vI x :: st) μ G = ev 176 244 [a0, a1, a2, a3, a4] (vI (w32 (x + y)) :: st) μ G := ev_stp pg_176_243 rfl
theorem pg_176_244 : mm_prog 176 244 = some (0, .iaload, 245, []) := by decide +kernel
theorem xe_176_244 (a0 a1 a2 a3 a4 : Option MV) (x y : Int) (st : List MV) (μ : MM) (G : MG) : ev 176 244 [a0, a1, a2, a3, a4] (vI x :: vR y :: st) μ G = if gk G y = 100 ∧ 0 ≤ x ∧ x < gl G y then ev 176 245 [a0, a1, a2, a3, a4] (vI (μ y x) :: st) μ G else none := ev_if pg_176_244 rfl
theorem pg_176_245 : mm_prog 176 245 = some (1, .invokestatic 220, 248, [0, 149, 2, 0]) := by decide +kernel
theorem xe_176_245 (a0 a1 a2 a3 a4 : Option MV) (x0 x1 : Int) (μ : MM) (G : MG) : ev 176 245 [a0, a1, a2, a3, a4] (vI x1 :: vI x0 :: []) μ G = (ev 149 0 [some (vI x0), some (vI x1)] [] μ G).bind (fun q => ev 176 248 [a0, a1, a2, a3, a4] (q.1.toList ++ []) q.2.1 q.2.2) := ev_calS (as := [vI x0, vI x1]) (r := []) mx_149 pg_176_245 rfl rfl (Nat.le_of_ble_eq_true rfl) (Nat.le_of_ble_eq_true rfl)
theorem pg_176_248 : mm_prog 176 248 = some (0, .ifCond .eq 32, 251, []) := by decide +kernel
theorem xe_176_248 (a0 a1 a2 a3 a4 : Option MV) (x : Int) (st : List MV) (μ : MM) (G : MG) : ev 176 248 [a0, a1, a2, a3, a4] (vI x :: st) μ G = if x = 0 then ev 176 280 [a0, a1, a2, a3, a4] st μ G else ev 176 251 [a0, a1, a2, a3, a4] st μ G := ev_br (mm_cnd_eq x 0) pg_176_248 rfl
theorem pg_176_251 : mm_prog 176 251 = some (0, .aload_n 0, 252, []) := by decide +kernel
theorem xe_176_251 (a1 a2 a3 a4 : Option MV) (x : Int) (st : List MV) (μ : MM) (G : MG) : ev 176 251 [some (vR x), a1, a2, a3, a4] st μ G = ev 176 252 [some (vR x), a1, a2, a3, a4] (vR x :: st) μ G := ev_stp pg_176_251 rfl
theorem pg_176_252 : mm_prog 176 252 = some (0, .aload_n 0, 253, []) := by decide +kernel
theorem xe_176_252 (a1 a2 a3 a4 : Option MV) (x : Int) (st : List MV) (μ : MM) (G : MG) : ev 176 252 [some (vR x), a1, a2, a3, a4] st μ G = ev 176 253 [some (vR x), a1, a2, a3, a4] (vR x :: st) μ G := ev_stp pg_176_252 rfl
theorem pg_176_253 : mm_prog 176 253 = some (0, .getfield 54, 256, [11, 25, 2]) := by decide +kernel
theorem xe_176_253 (a0 a1 a2 a3 a4 : Option MV) (x : Int) (st : List MV) (μ : MM) (G : MG) : ev 176 253 [a0, a1, a2, a3, a4] (vR x :: st) μ G = if gk G x = 11 then ev 176 256 [a0, a1, a2, a3, a4] (vR (μ x 25) :: st) μ G else none := ev_if pg_176_253 rfl
theorem pg_176_256 : mm_prog 176 256 = some (0, .iload_n 1, 257, []) := by decide +kernel
theorem xe_176_256 (a0 a2 a3 a4 : Option MV) (x : Int) (st : List MV) (μ : MM) (G : MG) : ev 176 256 [a0, some (vI x), a2, a3, a4] st μ G = ev 176 257 [a0, some (vI x), a2, a3, a4] (vI x :: st) μ G := ev_stp pg_176_256 rfl
theorem pg_176_257 : mm_prog 176 257 = some (0, .iconst 2, 258, []) := by decide +kernel
theorem xe_176_257 (a0 a1 a2 a3 a4 : Option MV) (st : List MV) (μ : MM) (G : MG) : ev 176 257 [a0, a1, a2, a3, a4] st μ G = ev 176 258 [a0, a1, a2, a3, a4] (vI (2) :: st) μ G := ev_stp pg_176_257 rfl
theorem pg_176_258 : mm_prog 176 258 = some (0, .iadd, 259, []) := by decide +kernel
theorem xe_176_258 (a0 a1 a2 a3 a4 : Option MV) (x y : Int) (st : List MV) (μ : MM) (G : MG) : ev 176 258 [a0, a1, a2, a3, a4] (vI y :: vI x :: st) μ G = ev 176 259 [a0, a1, a2, a3, a4] (vI (w32 (x + y)) :: st) μ G := ev_stp pg_176_258 rfl
theorem pg_176_259 : mm_prog 176 259 = some (0, .iaload, 260, []) := by decide +kernel
theorem xe_176_259 (a0 a1 a2 a3 a4 : Option MV) (x y : Int) (st : List MV) (μ : MM) (G : MG) : ev 176 259 [a0, a1, a2, a3, a4] (vI x :: vR y :: st) μ G = if gk G y = 100 ∧ 0 ≤ x ∧ x < gl G y then ev 176 260 [a0, a1, a2, a3, a4] (vI (μ y x) :: st) μ G else none := ev_if pg_176_259 rfl
theorem pg_176_260 : mm_prog 176 260 = some (0, .aload_n 0, 261, []) := by decide +kernel
theorem xe_176_260 (a1 a2 a3 a4 : Option MV) (x : Int) (st : List MV) (μ : MM) (G : MG) : ev 176 260 [some (vR x), a1, a2, a3, a4] st μ G = ev 176 261 [some (vR x), a1, a2, a3, a4] (vR x :: st) μ G := ev_stp pg_176_260 rfl
theorem pg_176_261 : mm_prog 176 261 = some (0, .getfield 54, 264, [11, 25, 2]) := by decide +kernel
theorem xe_176_261 (a0 a1 a2 a3 a4 : Option MV) (x : Int) (st : List MV) (μ : MM) (G : MG) : ev 176 261 [a0, a1, a2, a3, a4] (vR x :: st) μ G = if gk G x = 11 then ev 176 264 [a0, a1, a2, a3, a4] (vR (μ x 25) :: st) μ G else none := ev_if pg_176_261 rfl
theorem pg_176_264 : mm_prog 176 264 = some (0, .iload_n 1, 265, []) := by decide +kernel
theorem xe_176_264 (a0 a2 a3 a4 : Option MV) (x : Int) (st : List MV) (μ : MM) (G : MG) : ev 176 264 [a0, some (vI x), a2, a3, a4] st μ G = ev 176 265 [a0, some (vI x), a2, a3, a4] (vI x :: st) μ G := ev_stp pg_176_264 rfl
theorem pg_176_265 : mm_prog 176 265 = some (0, .iconst 3, 266, []) := by decide +kernel
theorem xe_176_265 (a0 a1 a2 a3 a4 : Option MV) (st : List MV) (μ : MM) (G : MG) : ev 176 265 [a0, a1, a2, a3, a4] st μ G = ev 176 266 [a0, a1, a2, a3, a4] (vI (3) :: st) μ G := ev_stp pg_176_265 rfl
theorem pg_176_266 : mm_prog 176 266 = some (0, .iadd, 267, []) := by decide +kernel
theorem xe_176_266 (a0 a1 a2 a3 a4 : Option MV) (x y : Int) (st : List MV) (μ : MM) (G : MG) : ev 176 266 [a0, a1, a2, a3, a4] (vI y :: vI x :: st) μ G = ev 176 267 [a0, a1, a2, a3, a4] (vI (w32 (x + y)) :: st) μ G := ev_stp pg_176_266 rfl
theorem pg_176_267 : mm_prog 176 267 = some (0, .iaload, 268, []) := by decide +kernel
theorem xe_176_267 (a0 a1 a2 a3 a4 : Option MV) (x y : Int) (st : List MV) (μ : MM) (G : MG) : ev 176 267 [a0, a1, a2, a3, a4] (vI x :: vR y :: st) μ G = if gk G y = 100 ∧ 0 ≤ x ∧ x < gl G y then ev 176 268 [a0, a1, a2, a3, a4] (vI (μ y x) :: st) μ G else none := ev_if pg_176_267 rfl
theorem pg_176_268 : mm_prog 176 268 = some (0, .aload_n 0, 269, []) := by decide +kernel
theorem xe_176_268 (a1 a2 a3 a4 : Option MV) (x : Int) (st : List MV) (μ : MM) (G : MG) : ev 176 268 [some (vR x), a1, a2, a3, a4] st μ G = ev 176 269 [some (vR x), a1, a2, a3, a4] (vR x :: st) μ G := ev_stp pg_176_268 rfl
theorem pg_176_269 : mm_prog 176 269 = some (0, .getfield 54, 272, [11, 25, 2]) := by decide +kernel
theorem xe_176_269 (a0 a1 a2 a3 a4 : Option MV) (x : Int) (st : List MV) (μ : MM) (G : MG) : ev 176 269 [a0, a1, a2, a3, a4] (vR x :: st) μ G = if gk G x = 11 then ev 176 272 [a0, a1, a2, a3, a4] (vR (μ x 25) :: st) μ G else none := ev_if pg_176_269 rfl
theorem pg_176_272 : mm_prog 176 272 = some (0, .iload_n 1, 273, []) := by decide +kernel
theorem xe_176_272 (a0 a2 a3 a4 : Option MV) (x : Int) (st : List MV) (μ : MM) (G : MG) : ev 176 272 [a0, some (vI x), a2, a3, a4] st μ G = ev 176 273 [a0, some (vI x), a2, a3, a4] (vI x :: st) μ G := ev_stp pg_176_272 rfl
theorem pg_176_273 : mm_prog 176 273 = some (0, .iconst 4, 274, []) := by decide +kernel
theorem xe_176_273 (a0 a1 a2 a3 a4 : Option MV) (st : List MV) (μ : MM) (G : MG) : ev 176 273 [a0, a1, a2, a3, a4] st μ G = ev 176 274 [a0, a1, a2, a3, a4] (vI (4) :: st) μ G := ev_stp pg_176_273 rfl
theorem pg_176_274 : mm_prog 176 274 = some (0, .iadd, 275, []) := by decide +kernel
theorem xe_176_274 (a0 a1 a2 a3 a4 : Option MV) (x y : Int) (st : List MV) (μ : MM) (G : MG) : ev 176 274 [a0, a1, a2, a3, a4] (vI y :: vI x :: st) μ G = ev 176 275 [a0, a1, a2, a3, a4] (vI (w32 (x + y)) :: st) μ G := ev_stp pg_176_274 rfl
theorem pg_176_275 : mm_prog 176 275 = some (0, .iaload, 276, []) := by decide +kernel
theorem xe_176_275 (a0 a1 a2 a3 a4 : Option MV) (x y : Int) (st : List MV) (μ : MM) (G : MG) : ev 176 275 [a0, a1, a2, a3, a4] (vI x :: vR y :: st) μ G = if gk G y = 100 ∧ 0 ≤ x ∧ x < gl G y then ev 176 276 [a0, a1, a2, a3, a4] (vI (μ y x) :: st) μ G else none := ev_if pg_176_275 rfl
theorem pg_176_276 : mm_prog 176 276 = some (0, .iconst 4, 277, []) := by decide +kernel
theorem xe_176_276 (a0 a1 a2 a3 a4 : Option MV) (st : List MV) (μ : MM) (G : MG) : ev 176 276 [a0, a1, a2, a3, a4] st μ G = ev 176 277 [a0, a1, a2, a3, a4] (vI (4) :: st) μ G := ev_stp pg_176_276 rfl
theorem pg_176_277 : mm_prog 176 277 = some (1, .invokevirtual 217, 280, [1, 175, 4, 11]) := by decide +kernel
theorem xe_176_277 (a0 a1 a2 a3 a4 : Option MV) (x0 x1 x2 x3 z : Int) (μ : MM) (G : MG) : ev 176 277 [a0, a1, a2, a3, a4] (vI x3 :: vI x2 :: vI x1 :: vI x0 :: vR z :: []) μ G = if gk G z = 11 ∧ 0 < z then (ev 175 0 [some (vR z), some (vI x0), some (vI x1), some (vI x2), some (vI x3)] [] μ G).bind (fun q => ev 176 280 [a0, a1, a2, a3, a4] (q.1.toList ++ []) q.2.1 q.2.2) else none := ev_calV (as := [vR z, vI x0, vI x1, vI x2, vI x3]) (r := []) mx_175 pg_176_277 rfl rfl (Nat.le_of_ble_eq_true rfl) (Nat.le_of_ble_eq_true rfl)
theorem pg_176_280 : mm_prog 176 280 = some (0, .iinc 1 5, 283, []) := by decide +kernel
theorem xe_176_280 (a0 a2 a3 a4 : Option MV) (x : Int) (st : List MV) (μ : MM) (G : MG) (h : mm_nL a0 = true) : ev 176 280 [a0, some (vI x), a2, a3, a4] st μ G = ev 176 283 [a0, some (vI (w32 (x + (5)))), a2, a3, a4] st μ G := ev_st pg_176_280 rfl (mm_nl_of h) (Nat.le_of_ble_eq_true rfl)
theorem pg_176_283 : mm_prog 176 283 = some (0, .goto (-65), 286, []) := by decide +kernel
theorem xe_176_283 (a0 a1 a2 a3 a4 : Option MV) (st : List MV) (μ : MM) (G : MG) : ev 176 283 [a0, a1, a2, a3, a4] st μ G = ev 176 218 [a0, a1, a2, a3, a4] st μ G := ev_stp pg_176_283 rfl
theorem pg_176_286 : mm_prog 176 286 = some (0, .iconst 0, 287, []) := by decide +kernel
theorem xe_176_286 (a0 a1 a2 a3 a4 : Option MV) (st : List MV) (μ : MM) (G : MG) : ev 176 286 [a0, a1, a2, a3, a4] st μ G = ev 176 287 [a0, a1, a2, a3, a4] (vI (0) :: st) μ G := ev_stp pg_176_286 rfl
theorem pg_176_287 : mm_prog 176 287 = some (0, .istore_n 1, 288, []) := by decide +kernel
theorem xe_176_287 (a0 a1 a2 a3 a4 : Option MV) (x : Int) (st : List MV) (μ : MM) (G : MG) (h : mm_nL a0 = true) : ev 176 287 [a0, a1, a2, a3, a4] (vI x :: st) μ G = ev 176 288 [a0, some (vI x), a2, a3, a4] st μ G := ev_st pg_176_287 rfl (mm_nl_of h) (Nat.le_of_ble_eq_true rfl)
theorem pg_176_288 : mm_prog 176 288 = some (0, .iload_n 1, 289, []) := by decide +kernel
theorem xe_176_288 (a0 a2 a3 a4 : Option MV) (x : Int) (st : List MV) (μ : MM) (G : MG) : ev 176 288 [a0, some (vI x), a2, a3, a4] st μ G = ev 176 289 [a0, some (vI x), a2, a3, a4] (vI x :: st) μ G := ev_stp pg_176_288 rfl
theorem pg_176_289 : mm_prog 176 289 = some (0, .aload_n 0, 290, []) := by decide +kernel
theorem xe_176_289 (a1 a2 a3 a4 : Option MV) (x : Int) (st : List MV) (μ : MM) (G : MG) : ev 176 289 [some (vR x), a1, a2, a3, a4] st μ G = ev 176 290 [some (vR x), a1, a2, a3, a4] (vR x :: st) μ G := ev_stp pg_176_289 rfl
theorem pg_176_290 : mm_prog 176 290 = some (0, .getfield 134, 293, [11, 23, 0]) := by decide +kernel
theorem xe_176_290 (a0 a1 a2 a3 a4 : Option MV) (x : Int) (st : List MV) (μ : MM) (G : MG) : ev 176 290 [a0, a1, a2, a3, a4] (vR x :: st) μ G = if gk G x = 11 then ev 176 293 [a0, a1, a2, a3, a4] (vI (μ x 23) :: st) μ G else none := ev_if pg_176_290 rfl
theorem pg_176_293 : mm_prog 176 293 = some (0, .if_icmp .ge 58, 296, []) := by decide +kernel
theorem xe_176_293 (a0 a1 a2 a3 a4 : Option MV) (x y : Int) (st : List MV) (μ : MM) (G : MG) : ev 176 293 [a0, a1, a2, a3, a4] (vI y :: vI x :: st) μ G = if y ≤ x then ev 176 351 [a0, a1, a2, a3, a4] st μ G else ev 176 296 [a0, a1, a2, a3, a4] st μ G := ev_br (mm_cnd_ge x y) pg_176_293 rfl
theorem pg_176_296 : mm_prog 176 296 = some (0, .iload_n 1, 297, []) := by decide +kernel
theorem xe_176_296 (a0 a2 a3 a4 : Option MV) (x : Int) (st : List MV) (μ : MM) (G : MG) : ev 176 296 [a0, some (vI x), a2, a3, a4] st μ G = ev 176 297 [a0, some (vI x), a2, a3, a4] (vI x :: st) μ G := ev_stp pg_176_296 rfl
theorem pg_176_297 : mm_prog 176 297 = some (0, .istore_n 2, 298, []) := by decide +kernel
theorem xe_176_297 (a0 a1 a2 a3 a4 : Option MV) (x : Int) (st : List MV) (μ : MM) (G : MG) (h : mm_nL a1 = true) : ev 176 297 [a0, a1, a2, a3, a4] (vI x :: st) μ G = ev 176 298 [a0, a1, some (vI x), a3, a4] st μ G := ev_st pg_176_297 rfl (mm_nl_of h) (Nat.le_of_ble_eq_true rfl)
theorem pg_176_298 : mm_prog 176 298 = some (0, .iload_n 2, 299, []) := by decide +kernel
theorem xe_176_298 (a0 a1 a3 a4 : Option MV) (x : Int) (st : List MV) (μ : MM) (G : MG) : ev 176 298 [a0, a1, some (vI x), a3, a4] st μ G = ev 176 299 [a0, a1, some (vI x), a3, a4] (vI x :: st) μ G := ev_stp pg_176_298 rfl
theorem pg_176_299 : mm_prog 176 299 = some (0, .ifCond .le 39, 302, []) := by decide +kernel
theorem xe_176_299 (a0 a1 a2 a3 a4 : Option MV) (x : Int) (st : List MV) (μ : MM) (G : MG) : ev 176 299 [a0, a1, a2, a3, a4] (vI x :: st) μ G = if x ≤ 0 then ev 176 338 [a0, a1, a2, a3, a4] st μ G else ev 176 302 [a0, a1, a2, a3, a4] st μ G := ev_br (mm_cnd_le x 0) pg_176_299 rfl
theorem pg_176_302 : mm_prog 176 302 = some (0, .aload_n 0, 303, []) := by decide +kernel
theorem xe_176_302 (a1 a2 a3 a4 : Option MV) (x : Int) (st : List MV) (μ : MM) (G : MG) : ev 176 302 [some (vR x), a1, a2, a3, a4] st μ G = ev 176 303 [some (vR x), a1, a2, a3, a4] (vR x :: st) μ G := ev_stp pg_176_302 rfl
theorem pg_176_303 : mm_prog 176 303 = some (0, .iload_n 1, 304, []) := by decide +kernel
theorem xe_176_303 (a0 a2 a3 a4 : Option MV) (x : Int) (st : List MV) (μ : MM) (G : MG) : ev 176 303 [a0, some (vI x), a2, a3, a4] st μ G = ev 176 304 [a0, some (vI x), a2, a3, a4] (vI x :: st) μ G := ev_stp pg_176_303 rfl
theorem pg_176_304 : mm_prog 176 304 = some (0, .aload_n 0, 305, []) := by decide +kernel
theorem xe_176_304 (a1 a2 a3 a4 : Option MV) (x : Int) (st : List MV) (μ : MM) (G : MG) : ev 176 304 [some (vR x), a1, a2, a3, a4] st μ G = ev 176 305 [some (vR x), a1, a2, a3, a4] (vR x :: st) μ G := ev_stp pg_176_304 rfl
theorem pg_176_305 : mm_prog 176 305 = some (0, .getfield 41, 308, [11, 21, 2]) := by decide +kernel
theorem xe_176_305 (a0 a1 a2 a3 a4 : Option MV) (x : Int) (st : List MV) (μ : MM) (G : MG) : ev 176 305 [a0, a1, a2, a3, a4] (vR x :: st) μ G = if gk G x = 11 then ev 176 308 [a0, a1, a2, a3, a4] (vR (μ x 21) :: st) μ G else none := ev_if pg_176_305 rfl
theorem pg_176_308 : mm_prog 176 308 = some (0, .iload_n 2, 309, []) := by decide +kernel
theorem xe_176_308 (a0 a1 a3 a4 : Option MV) (x : Int) (st : List MV) (μ : MM) (G : MG) : ev 176 308 [a0, a1, some (vI x), a3, a4] st μ G = ev 176 309 [a0, a1, some (vI x), a3, a4] (vI x :: st) μ G := ev_stp pg_176_308 rfl
theorem pg_176_309 : mm_prog 176 309 = some (0, .iconst 1, 310, []) := by decide +kernel
theorem xe_176_309 (a0 a1 a2 a3 a4 : Option MV) (st : List MV) (μ : MM) (G : MG) : ev 176 309 [a0, a1, a2, a3, a4] st μ G = ev 176 310 [a0, a1, a2, a3, a4] (vI (1) :: st) μ G := ev_stp pg_176_309 rfl
theorem pg_176_310 : mm_prog 176 310 = some (0, .isub, 311, []) := by decide +kernel
theorem xe_176_310 (a0 a1 a2 a3 a4 : Option MV) (x y : Int) (st : List MV) (μ : MM) (G : MG) : ev 176 310 [a0, a1, a2, a3, a4] (vI y :: vI x :: st) μ G = ev 176 311 [a0, a1, a2, a3, a4] (vI (w32 (x - y)) :: st) μ G := ev_stp pg_176_310 rfl
theorem pg_176_311 : mm_prog 176 311 = some (0, .iaload, 312, []) := by decide +kernel
theorem xe_176_311 (a0 a1 a2 a3 a4 : Option MV) (x y : Int) (st : List MV) (μ : MM) (G : MG) : ev 176 311 [a0, a1, a2, a3, a4] (vI x :: vR y :: st) μ G = if gk G y = 100 ∧ 0 ≤ x ∧ x < gl G y then ev 176 312 [a0, a1, a2, a3, a4] (vI (μ y x) :: st) μ G else none := ev_if pg_176_311 rfl
theorem pg_176_312 : mm_prog 176 312 = some (1, .invokevirtual 224, 315, [1, 177, 2, 11]) := by decide +kernel
theorem xe_176_312 (a0 a1 a2 a3 a4 : Option MV) (x0 x1 z : Int) (μ : MM) (G : MG) : ev 176 312 [a0, a1, a2, a3, a4] (vI x1 :: vI x0 :: vR z :: []) μ G = if gk G z = 11 ∧ 0 < z then (ev 177 0 [some (vR z), some (vI x0), some (vI x1), none, none, none] [] μ G).bind (fun q => ev 176 315 [a0, a1, a2, a3, a4] (q.1.toList ++ []) q.2.1 q.2.2) else none := ev_calV (as := [vR z, vI x0, vI x1]) (r := []) mx_177 pg_176_312 rfl rfl (Nat.le_of_ble_eq_true rfl) (Nat.le_of_ble_eq_true rfl)
theorem pg_176_315 : mm_prog 176 315 = some (0, .ifCond .eq 23, 318, []) := by decide +kernel
theorem xe_176_315 (a0 a1 a2 a3 a4 : Option MV) (x : Int) (st : List MV) (μ : MM) (G : MG) : ev 176 315 [a0, a1, a2, a3, a4] (vI x :: st) μ G = if x = 0 then ev 176 338 [a0, a1, a2, a3, a4] st μ G else ev 176 318 [a0, a1, a2, a3, a4] st μ G := ev_br (mm_cnd_eq x 0) pg_176_315 rfl
theorem pg_176_318 : mm_prog 176 318 = some (0, .aload_n 0, 319, []) := by decide +kernel
theorem xe_176_318 (a1 a2 a3 a4 : Option MV) (x : Int) (st : List MV) (μ : MM) (G : MG) : ev 176 318 [some (vR x), a1, a2, a3, a4] st μ G = ev 176 319 [some (vR x), a1, a2, a3, a4] (vR x :: st) μ G := ev_stp pg_176_318 rfl
theorem pg_176_319 : mm_prog 176 319 = some (0, .getfield 41, 322, [11, 21, 2]) := by decide +kernel
theorem xe_176_319 (a0 a1 a2 a3 a4 : Option MV) (x : Int) (st : List MV) (μ : MM) (G : MG) : ev 176 319 [a0, a1, a2, a3, a4] (vR x :: st) μ G = if gk G x = 11 then ev 176 322 [a0, a1, a2, a3, a4] (vR (μ x 21) :: st) μ G else none := ev_if pg_176_319 rfl
theorem pg_176_322 : mm_prog 176 322 = some (0, .iload_n 2, 323, []) := by decide +kernel
theorem xe_176_322 (a0 a1 a3 a4 : Option MV) (x : Int) (st : List MV) (μ : MM) (G : MG) : ev 176 322 [a0, a1, some (vI x), a3, a4] st μ G = ev 176 323 [a0, a1, some (vI x), a3, a4] (vI x :: st) μ G := ev_stp pg_176_322 rfl
theorem pg_176_323 : mm_prog 176 323 = some (0, .aload_n 0, 324, []) := by decide +kernel
theorem xe_176_323 (a1 a2 a3 a4 : Option MV) (x : Int) (st : List MV) (μ : MM) (G : MG) : ev 176 323 [some (vR x), a1, a2, a3, a4] st μ G = ev 176 324 [some (vR x), a1, a2, a3, a4] (vR x :: st) μ G := ev_stp pg_176_323 rfl
theorem pg_176_324 : mm_prog 176 324 = some (0, .getfield 41, 327, [11, 21, 2]) := by decide +kernel
theorem xe_176_324 (a0 a1 a2 a3 a4 : Option MV) (x : Int) (st : List MV) (μ : MM) (G : MG) : ev 176 324 [a0, a1, a2, a3, a4] (vR x :: st) μ G = if gk G x = 11 then ev 176 327 [a0, a1, a2, a3, a4] (vR (μ x 21) :: st) μ G else none := ev_if pg_176_324 rfl
theorem pg_176_327 : mm_prog 176 327 = some (0, .iload_n 2, 328, []) := by decide +kernel
theorem xe_176_327 (a0 a1 a3 a4 : Option MV) (x : Int) (st : List MV) (μ : MM) (G : MG) : ev 176 327 [a0, a1, some (vI x), a3, a4] st μ G = ev 176 328 [a0, a1, some (vI x), a3, a4] (vI x :: st) μ G := ev_stp pg_176_327 rfl
theorem pg_176_328 : mm_prog 176 328 = some (0, .iconst 1, 329, []) := by decide +kernel
theorem xe_176_328 (a0 a1 a2 a3 a4 : Option MV) (st : List MV) (μ : MM) (G : MG) : ev 176 328 [a0, a1, a2, a3, a4] st μ G = ev 176 329 [a0, a1, a2, a3, a4] (vI (1) :: st) μ G := ev_stp pg_176_328 rfl
theorem pg_176_329 : mm_prog 176 329 = some (0, .isub, 330, []) := by decide +kernel
theorem xe_176_329 (a0 a1 a2 a3 a4 : Option MV) (x y : Int) (st : List MV) (μ : MM) (G : MG) : ev 176 329 [a0, a1, a2, a3, a4] (vI y :: vI x :: st) μ G = ev 176 330 [a0, a1, a2, a3, a4] (vI (w32 (x - y)) :: st) μ G := ev_stp pg_176_329 rfl
theorem pg_176_330 : mm_prog 176 330 = some (0, .iaload, 331, []) := by decide +kernel
theorem xe_176_330 (a0 a1 a2 a3 a4 : Option MV) (x y : Int) (st : List MV) (μ : MM) (G : MG) : ev 176 330 [a0, a1, a2, a3, a4] (vI x :: vR y :: st) μ G = if gk G y = 100 ∧ 0 ≤ x ∧ x < gl G y then ev 176 331 [a0, a1, a2, a3, a4] (vI (μ y x) :: st) μ G else none := ev_if pg_176_330 rfl
theorem pg_176_331 : mm_prog 176 331 = some (0, .iastore, 332, []) := by decide +kernel
theorem xe_176_331 (a0 a1 a2 a3 a4 : Option MV) (x y z : Int) (st : List MV) (μ : MM) (G : MG) : ev 176 331 [a0, a1, a2, a3, a4] (vI x :: vI y :: vR z :: st) μ G = if gk G z = 100 ∧ 0 ≤ y ∧ y < gl G z ∧ 10 ≤ z then ev 176 332 [a0, a1, a2, a3, a4] st (mset μ z y x) G else none := ev_if pg_176_331 rfl
theorem pg_176_332 : mm_prog 176 332 = some (0, .iinc 2 (-1), 335, []) := by decide +kernel
theorem xe_176_332 (a0 a1 a3 a4 : Option MV) (x : Int) (st : List MV) (μ : MM) (G : MG) (h : mm_nL a1 = true) : ev 176 332 [a0, a1, some (vI x), a3, a4] st μ G = ev 176 335 [a0, a1, some (vI (w32 (x + (-1)))), a3, a4] st μ G := ev_st pg_176_332 rfl (mm_nl_of h) (Nat.le_of_ble_eq_true rfl)
theorem pg_176_335 : mm_prog 176 335 = some (0, .goto (-37), 338, []) := by decide +kernel
theorem xe_176_335 (a0 a1 a2 a3 a4 : Option MV) (st : List MV) (μ : MM) (G : MG) : ev 176 335 [a0, a1, a2, a3, a4] st μ G = ev 176 298 [a0, a1, a2, a3, a4] st μ G := ev_stp pg_176_335 rfl
theorem pg_176_338 : mm_prog 176 338 = some (0, .aload_n 0, 339, []) := by decide +kernel
theorem xe_176_338 (a1 a2 a3 a4 : Option MV) (x : Int) (st : List MV) (μ : MM) (G : MG) : ev 176 338 [some (vR x), a1, a2, a3, a4] st μ G = ev 176 339 [some (vR x), a1, a2, a3, a4] (vR x :: st) μ G := ev_stp pg_176_338 rfl
theorem pg_176_339 : mm_prog 176 339 = some (0, .getfield 41, 342, [11, 21, 2]) := by decide +kernel
theorem xe_176_339 (a0 a1 a2 a3 a4 : Option MV) (x : Int) (st : List MV) (μ : MM) (G : MG) : ev 176 339 [a0, a1, a2, a3, a4] (vR x :: st) μ G = if gk G x = 11 then ev 176 342 [a0, a1, a2, a3, a4] (vR (μ x 21) :: st) μ G else none := ev_if pg_176_339 rfl
theorem pg_176_342 : mm_prog 176 342 = some (0, .iload_n 2, 343, []) := by decide +kernel
theorem xe_176_342 (a0 a1 a3 a4 : Option MV) (x : Int) (st : List MV) (μ : MM) (G : MG) : ev 176 342 [a0, a1, some (vI x), a3, a4] st μ G = ev 176 343 [a0, a1, some (vI x), a3, a4] (vI x :: st) μ G := ev_stp pg_176_342 rfl
theorem pg_176_343 : mm_prog 176 343 = some (0, .iload_n 1, 344, []) := by decide +kernel
theorem xe_176_343 (a0 a2 a3 a4 : Option MV) (x : Int) (st : List MV) (μ : MM) (G : MG) : ev 176 343 [a0, some (vI x), a2, a3, a4] st μ G = ev 176 344 [a0, some (vI x), a2, a3, a4] (vI x :: st) μ G := ev_stp pg_176_343 rfl
theorem pg_176_344 : mm_prog 176 344 = some (0, .iastore, 345, []) := by decide +kernel
theorem xe_176_344 (a0 a1 a2 a3 a4 : Option MV) (x y z : Int) (st : List MV) (μ : MM) (G : MG) : ev 176 344 [a0, a1, a2, a3, a4] (vI x :: vI y :: vR z :: st) μ G = if gk G z = 100 ∧ 0 ≤ y ∧ y < gl G z ∧ 10 ≤ z then ev 176 345 [a0, a1, a2, a3, a4] st (mset μ z y x) G else none := ev_if pg_176_344 rfl
theorem pg_176_345 : mm_prog 176 345 = some (0, .iinc 1 1, 348, []) := by decide +kernel
theorem xe_176_345 (a0 a2 a3 a4 : Option MV) (x : Int) (st : List MV) (μ : MM) (G : MG) (h : mm_nL a0 = true) : ev 176 345 [a0, some (vI x), a2, a3, a4] st μ G = ev 176 348 [a0, some (vI (w32 (x + (1)))), a2, a3, a4] st μ G := ev_st pg_176_345 rfl (mm_nl_of h) (Nat.le_of_ble_eq_true rfl)
theorem pg_176_348 : mm_prog 176 348 = some (0, .goto (-60), 351, []) := by decide +kernel
theorem xe_176_348 (a0 a1 a2 a3 a4 : Option MV) (st : List MV) (μ : MM) (G : MG) : ev 176 348 [a0, a1, a2, a3, a4] st μ G = ev 176 288 [a0, a1, a2, a3, a4] st μ G := ev_stp pg_176_348 rfl
theorem pg_176_351 : mm_prog 176 351 = some (2, .return_, 352, []) := by decide +kernel
theorem xe_176_351 (a0 a1 a2 a3 a4 : Option MV) (μ : MM) (G : MG) : ev 176 351 [a0, a1, a2, a3, a4] [] μ G = some (none, μ, G) := ev_ret pg_176_351 rfl
-- X11_isAhead
theorem pg_177_0 : mm_prog 177 0 = some (0, .bipush 12, 2, []) := by decide +kernel
theorem xe_177_0 (a0 a1 a2 a3 a4 a5 : Option MV) (st : List MV) (μ : MM) (G : MG) : ev 177 0 [a0, a1, a2, a3, a4, a5] st μ G = ev 177 2 [a0, a1, a2, a3, a4, a5] (vI (12) :: st) μ G := ev_stp pg_177_0 rfl
theorem pg_177_2 : mm_prog 177 2 = some (0, .iload_n 1, 3, []) := by decide +kernel
theorem xe_177_2 (a0 a2 a3 a4 a5 : Option MV) (x : Int) (st : List MV) (μ : MM) (G : MG) : ev 177 2 [a0, some (vI x), a2, a3, a4, a5] st μ G = ev 177 3 [a0, some (vI x), a2, a3, a4, a5] (vI x :: st) μ G := ev_stp pg_177_2 rfl
theorem pg_177_3 : mm_prog 177 3 = some (0, .imul, 4, []) := by decide +kernel
theorem xe_177_3 (a0 a1 a2 a3 a4 a5 : Option MV) (x y : Int) (st : List MV) (μ : MM) (G : MG) : ev 177 3 [a0, a1, a2, a3, a4, a5] (vI y :: vI x :: st) μ G = ev 177 4 [a0, a1, a2, a3, a4, a5] (vI (w32 (x * y)) :: st) μ G := ev_stp pg_177_3 rfl
theorem pg_177_4 : mm_prog 177 4 = some (0, .istore_n 3, 5, []) := by decide +kernel
theorem xe_177_4 (a0 a1 a2 a3 a4 a5 : Option MV) (x : Int) (st : List MV) (μ : MM) (G : MG) (h : mm_nL a2 = true) : ev 177 4 [a0, a1, a2, a3, a4, a5] (vI x :: st) μ G = ev 177 5 [a0, a1, a2, some (vI x), a4, a5] st μ G := ev_st pg_177_4 rfl (mm_nl_of h) (Nat.le_of_ble_eq_true rfl)
theorem pg_177_5 : mm_prog 177 5 = some (0, .bipush 12, 7, []) := by decide +kernel
theorem xe_177_5 (a0 a1 a2 a3 a4 a5 : Option MV) (st : List MV) (μ : MM) (G : MG) : ev 177 5 [a0, a1, a2, a3, a4, a5] st μ G = ev 177 7 [a0, a1, a2, a3, a4, a5] (vI (12) :: st) μ G := ev_stp pg_177_5 rfl
theorem pg_177_7 : mm_prog 177 7 = some (0, .iload_n 2, 8, []) := by decide +kernel
theorem xe_177_7 (a0 a1 a3 a4 a5 : Option MV) (x : Int) (st : List MV) (μ : MM) (G : MG) : ev 177 7 [a0, a1, some (vI x), a3, a4, a5] st μ G = ev 177 8 [a0, a1, some (vI x), a3, a4, a5] (vI x :: st) μ G := ev_stp pg_177_7 rfl
theorem pg_177_8 : mm_prog 177 8 = some (0, .imul, 9, []) := by decide +kernel
theorem xe_177_8 (a0 a1 a2 a3 a4 a5 : Option MV) (x y : Int) (st : List MV) (μ : MM) (G : MG) : ev 177 8 [a0, a1, a2, a3, a4, a5] (vI y :: vI x :: st) μ G = ev 177 9 [a0, a1, a2, a3, a4, a5] (vI (w32 (x * y)) :: st) μ G := ev_stp pg_177_8 rfl
theorem pg_177_9 : mm_prog 177 9 = some (0, .istore 4, 11, []) := by decide +kernel
theorem xe_177_9 (a0 a1 a2 a3 a4 a5 : Option MV) (x : Int) (st : List MV) (μ : MM) (G : MG) (h : mm_nL a3 = true) : ev 177 9 [a0, a1, a2, a3, a4, a5] (vI x :: st) μ G = ev 177 11 [a0, a1, a2, a3, some (vI x), a5] st μ G := ev_st pg_177_9 rfl (mm_nl_of h) (Nat.le_of_ble_eq_true rfl)
theorem pg_177_11 : mm_prog 177 11 = some (0, .aload_n 0, 12, []) := by decide +kernel
theorem xe_177_11 (a1 a2 a3 a4 a5 : Option MV) (x : Int) (st : List MV) (μ : MM) (G : MG) : ev 177 11 [some (vR x), a1, a2, a3, a4, a5] st μ G = ev 177 12 [some (vR x), a1, a2, a3, a4, a5] (vR x :: st) μ G := ev_stp pg_177_11 rfl
theorem pg_177_12 : mm_prog 177 12 = some (0, .getfield 38, 15, [11, 20, 2]) := by decide +kernel
theorem xe_177_12 (a0 a1 a2 a3 a4 a5 : Option MV) (x : Int) (st : List MV) (μ : MM) (G : MG) : ev 177 12 [a0, a1, a2, a3, a4, a5] (vR x :: st) μ G = if gk G x = 11 then ev 177 15 [a0, a1, a2, a3, a4, a5] (vR (μ x 20) :: st) μ G else none := ev_if pg_177_12 rfl
theorem pg_177_15 : mm_prog 177 15 = some (0, .iload_n 3, 16, []) := by decide +kernel
theorem xe_177_15 (a0 a1 a2 a4 a5 : Option MV) (x : Int) (st : List MV) (μ : MM) (G : MG) : ev 177 15 [a0, a1, a2, some (vI x), a4, a5] st μ G = ev 177 16 [a0, a1, a2, some (vI x), a4, a5] (vI x :: st) μ G := ev_stp pg_177_15 rfl
theorem pg_177_16 : mm_prog 177 16 = some (0, .bipush 7, 18, []) := by decide +kernel
theorem xe_177_16 (a0 a1 a2 a3 a4 a5 : Option MV) (st : List MV) (μ : MM) (G : MG) : ev 177 16 [a0, a1, a2, a3, a4, a5] st μ G = ev 177 18 [a0, a1, a2, a3, a4, a5] (vI (7) :: st) μ G := ev_stp pg_177_16 rfl
theorem pg_177_18 : mm_prog 177 18 = some (0, .iadd, 19, []) := by decide +kernel
theorem xe_177_18 (a0 a1 a2 a3 a4 a5 : Option MV) (x y : Int) (st : List MV) (μ : MM) (G : MG) : ev 177 18 [a0, a1, a2, a3, a4, a5] (vI y :: vI x :: st) μ G = ev 177 19 [a0, a1, a2, a3, a4, a5] (vI (w32 (x + y)) :: st) μ G := ev_stp pg_177_18 rfl
theorem pg_177_19 : mm_prog 177 19 = some (0, .iaload, 20, []) := by decide +kernel
theorem xe_177_19 (a0 a1 a2 a3 a4 a5 : Option MV) (x y : Int) (st : List MV) (μ : MM) (G : MG) : ev 177 19 [a0, a1, a2, a3, a4, a5] (vI x :: vR y :: st) μ G = if gk G y = 100 ∧ 0 ≤ x ∧ x < gl G y then ev 177 20 [a0, a1, a2, a3, a4, a5] (vI (μ y x) :: st) μ G else none := ev_if pg_177_19 rfl
theorem pg_177_20 : mm_prog 177 20 = some (0, .aload_n 0, 21, []) := by decide +kernel
theorem xe_177_20 (a1 a2 a3 a4 a5 : Option MV) (x : Int) (st : List MV) (μ : MM) (G : MG) : ev 177 20 [some (vR x), a1, a2, a3, a4, a5] st μ G = ev 177 21 [some (vR x), a1, a2, a3, a4, a5] (vR x :: st) μ G := ev_stp pg_177_20 rfl
theorem pg_177_21 : mm_prog 177 21 = some (0, .getfield 38, 24, [11, 20, 2]) := by decide +kernel
theorem xe_177_21 (a0 a1 a2 a3 a4 a5 : Option MV) (x : Int) (st : List MV) (μ : MM) (G : MG) : ev 177 21 [a0, a1, a2, a3, a4, a5] (vR x :: st) μ G = if gk G x = 11 then ev 177 24 [a0, a1, a2, a3, a4, a5] (vR (μ x 20) :: st) μ G else none := ev_if pg_177_21 rfl
theorem pg_177_24 : mm_prog 177 24 = some (0, .iload 4, 26, []) := by decide +kernel
theorem xe_177_24 (a0 a1 a2 a3 a5 : Option MV) (x : Int) (st : List MV) (μ : MM) (G : MG) : ev 177 24 [a0, a1, a2, a3, some (vI x), a5] st μ G = ev 177 26 [a0, a1, a2, a3, some (vI x), a5] (vI x :: st) μ G := ev_stp pg_177_24 rfl
theorem pg_177_26 : mm_prog 177 26 = some (0, .bipush 7, 28, []) := by decide +kernel
theorem xe_177_26 (a0 a1 a2 a3 a4 a5 : Option MV) (st : List MV) (μ : MM) (G : MG) : ev 177 26 [a0, a1, a2, a3, a4, a5] st μ G = ev 177 28 [a0, a1, a2, a3, a4, a5] (vI (7) :: st) μ G := ev_stp pg_177_26 rfl
theorem pg_177_28 : mm_prog 177 28 = some (0, .iadd, 29, []) := by decide +kernel
theorem xe_177_28 (a0 a1 a2 a3 a4 a5 : Option MV) (x y : Int) (st : List MV) (μ : MM) (G : MG) : ev 177 28 [a0, a1, a2, a3, a4, a5] (vI y :: vI x :: st) μ G = ev 177 29 [a0, a1, a2, a3, a4, a5] (vI (w32 (x + y)) :: st) μ G := ev_stp pg_177_28 rfl
theorem pg_177_29 : mm_prog 177 29 = some (0, .iaload, 30, []) := by decide +kernel
theorem xe_177_29 (a0 a1 a2 a3 a4 a5 : Option MV) (x y : Int) (st : List MV) (μ : MM) (G : MG) : ev 177 29 [a0, a1, a2, a3, a4, a5] (vI x :: vR y :: st) μ G = if gk G y = 100 ∧ 0 ≤ x ∧ x < gl G y then ev 177 30 [a0, a1, a2, a3, a4, a5] (vI (μ y x) :: st) μ G else none := ev_if pg_177_29 rfl
theorem pg_177_30 : mm_prog 177 30 = some (0, .if_icmp .eq 22, 33, []) := by decide +kernel
theorem xe_177_30 (a0 a1 a2 a3 a4 a5 : Option MV) (x y : Int) (st : List MV) (μ : MM) (G : MG) : ev 177 30 [a0, a1, a2, a3, a4, a5] (vI y :: vI x :: st) μ G = if x = y then ev 177 52 [a0, a1, a2, a3, a4, a5] st μ G else ev 177 33 [a0, a1, a2, a3, a4, a5] st μ G := ev_br (mm_cnd_eq x y) pg_177_30 rfl
theorem pg_177_33 : mm_prog 177 33 = some (0, .aload_n 0, 34, []) := by decide +kernel
theorem xe_177_33 (a1 a2 a3 a4 a5 : Option MV) (x : Int) (st : List MV) (μ : MM) (G : MG) : ev 177 33 [some (vR x), a1, a2, a3, a4, a5] st μ G = ev 177 34 [some (vR x), a1, a2, a3, a4, a5] (vR x :: st) μ G := ev_stp pg_177_33 rfl
theorem pg_177_34 : mm_prog 177 34 = some (0, .getfield 38, 37, [11, 20, 2]) := by decide +kernel
theorem xe_177_34 (a0 a1 a2 a3 a4 a5 : Option MV) (x : Int) (st : List MV) (μ : MM) (G : MG) : ev 177 34 [a0, a1, a2, a3, a4, a5] (vR x :: st) μ G = if gk G x = 11 then ev 177 37 [a0, a1, a2, a3, a4, a5] (vR (μ x 20) :: st) μ G else none := ev_if pg_177_34 rfl
theorem pg_177_37 : mm_prog 177 37 = some (0, .iload_n 3, 38, []) := by decide +kernel
theorem xe_177_37 (a0 a1 a2 a4 a5 : Option MV) (x : Int) (st : List MV) (μ : MM) (G : MG) : ev 177 37 [a0, a1, a2, some (vI x), a4, a5] st μ G = ev 177 38 [a0, a1, a2, some (vI x), a4, a5] (vI x :: st) μ G := ev_stp pg_177_37 rfl
theorem pg_177_38 : mm_prog 177 38 = some (0, .bipush 7, 40, []) := by decide +kernel
theorem xe_177_38 (a0 a1 a2 a3 a4 a5 : Option MV) (st : List MV) (μ : MM) (G : MG) : ev 177 38 [a0, a1, a2, a3, a4, a5] st μ G = ev 177 40 [a0, a1, a2, a3, a4, a5] (vI (7) :: st) μ G := ev_stp pg_177_38 rfl
theorem pg_177_40 : mm_prog 177 40 = some (0, .iadd, 41, []) := by decide +kernel
theorem xe_177_40 (a0 a1 a2 a3 a4 a5 : Option MV) (x y : Int) (st : List MV) (μ : MM) (G : MG) : ev 177 40 [a0, a1, a2, a3, a4, a5] (vI y :: vI x :: st) μ G = ev 177 41 [a0, a1, a2, a3, a4, a5] (vI (w32 (x + y)) :: st) μ G := ev_stp pg_177_40 rfl
theorem pg_177_41 : mm_prog 177 41 = some (0, .iaload, 42, []) := by decide +kernel
theorem xe_177_41 (a0 a1 a2 a3 a4 a5 : Option MV) (x y : Int) (st : List MV) (μ : MM) (G : MG) : ev 177 41 [a0, a1, a2, a3, a4, a5] (vI x :: vR y :: st) μ G = if gk G y = 100 ∧ 0 ≤ x ∧ x < gl G y then ev 177 42 [a0, a1, a2, a3, a4, a5] (vI (μ y x) :: st) μ G else none := ev_if pg_177_41 rfl
theorem pg_177_42 : mm_prog 177 42 = some (0, .iconst 1, 43, []) := by decide +kernel
theorem xe_177_42 (a0 a1 a2 a3 a4 a5 : Option MV) (st : List MV) (μ : MM) (G : MG) : ev 177 42 [a0, a1, a2, a3, a4, a5] st μ G = ev 177 43 [a0, a1, a2, a3, a4, a5] (vI (1) :: st) μ G := ev_stp pg_177_42 rfl
theorem pg_177_43 : mm_prog 177 43 = some (0, .if_icmp .ne 7, 46, []) := by decide +kernel
theorem xe_177_43 (a0 a1 a2 a3 a4 a5 : Option MV) (x y : Int) (st : List MV) (μ : MM) (G : MG) : ev 177 43 [a0, a1, a2, a3, a4, a5] (vI y :: vI x :: st) μ G = if ¬ x = y then ev 177 50 [a0, a1, a2, a3, a4, a5] st μ G else ev 177 46 [a0, a1, a2, a3, a4, a5] st μ G := ev_br (mm_cnd_ne x y) pg_177_43 rfl
theorem pg_177_46 : mm_prog 177 46 = some (0, .iconst 1, 47, []) := by decide +kernel
theorem xe_177_46 (a0 a1 a2 a3 a4 a5 : Option MV) (st : List MV) (μ : MM) (G : MG) : ev 177 46 [a0, a1, a2, a3, a4, a5] st μ G = ev 177 47 [a0, a1, a2, a3, a4, a5] (vI (1) :: st) μ G := ev_stp pg_177_46 rfl
theorem pg_177_47 : mm_prog 177 47 = some (0, .goto 4, 50, []) := by decide +kernel
theorem xe_177_47 (a0 a1 a2 a3 a4 a5 : Option MV) (st : List MV) (μ : MM) (G : MG) : ev 177 47 [a0, a1, a2, a3, a4, a5] st μ G = ev 177 51 [a0, a1, a2, a3, a4, a5] st μ G := ev_stp pg_177_47 rfl
theorem pg_177_50 : mm_prog 177 50 = some (0, .iconst 0, 51, []) := by decide +kernel
theorem xe_177_50 (a0 a1 a2 a3 a4 a5 : Option MV) (st : List MV) (μ : MM) (G : MG) : ev 177 50 [a0, a1, a2, a3, a4, a5] st μ G = ev 177 51 [a0, a1, a2, a3, a4, a5] (vI (0) :: st) μ G := ev_stp pg_177_50 rfl
theorem pg_177_51 : mm_prog 177 51 = some (2, .ireturn, 52, [1]) := by decide +kernel
theorem xe_177_51 (a0 a1 a2 a3 a4 a5 : Option MV) (x : Int) (μ : MM) (G : MG) : ev 177 51 [a0, a1, a2, a3, a4, a5] [vI x] μ G = if x = 0 ∨ x = 1 then some (some (vI x), μ, G) else none := ev_retB pg_177_51
theorem pg_177_52 : mm_prog 177 52 = some (0, .aload_n 0, 53, []) := by decide +kernel
theorem xe_177_52 (a1 a2 a3 a4 a5 : Option MV) (x : Int) (st : List MV) (μ : MM) (G : MG) : ev 177 52 [some (vR x), a1, a2, a3, a4, a5] st μ G = ev 177 53 [some (vR x), a1, a2, a3, a4, a5] (vR x :: st) μ G := ev_stp pg_177_52 rfl
theorem pg_177_53 : mm_prog 177 53 = some (0, .getfield 38, 56, [11, 20, 2]) := by decide +kernel
theorem xe_177_53 (a0 a1 a2 a3 a4 a5 : Option MV) (x : Int) (st : List MV) (μ : MM) (G : MG) : ev 177 53 [a0, a1, a2, a3, a4, a5] (vR x :: st) μ G = if gk G x = 11 then ev 177 56 [a0, a1, a2, a3, a4, a5] (vR (μ x 20) :: st) μ G else none := ev_if pg_177_53 rfl
theorem pg_177_56 : mm_prog 177 56 = some (0, .iload_n 3, 57, []) := by decide +kernel
theorem xe_177_56 (a0 a1 a2 a4 a5 : Option MV) (x : Int) (st : List MV) (μ : MM) (G : MG) : ev 177 56 [a0, a1, a2, some (vI x), a4, a5] st μ G = ev 177 57 [a0, a1, a2, some (vI x), a4, a5] (vI x :: st) μ G := ev_stp pg_177_56 rfl
theorem pg_177_57 : mm_prog 177 57 = some (0, .iaload, 58, []) := by decide +kernel
theorem xe_177_57 (a0 a1 a2 a3 a4 a5 : Option MV) (x y : Int) (st : List MV) (μ : MM) (G : MG) : ev 177 57 [a0, a1, a2, a3, a4, a5] (vI x :: vR y :: st) μ G = if gk G y = 100 ∧ 0 ≤ x ∧ x < gl G y then ev 177 58 [a0, a1, a2, a3, a4, a5] (vI (μ y x) :: st) μ G else none := ev_if pg_177_57 rfl
theorem pg_177_58 : mm_prog 177 58 = some (0, .aload_n 0, 59, []) := by decide +kernel
theorem xe_177_58 (a1 a2 a3 a4 a5 : Option MV) (x : Int) (st : List MV) (μ : MM) (G : MG) : ev 177 58 [some (vR x), a1, a2, a3, a4, a5] st μ G = ev 177 59 [some (vR x), a1, a2, a3, a4, a5] (vR x :: st) μ G := ev_stp pg_177_58 rfl
theorem pg_177_59 : mm_prog 177 59 = some (0, .getfield 38, 62, [11, 20, 2]) := by decide +kernel
theorem xe_177_59 (a0 a1 a2 a3 a4 a5 : Option MV) (x : Int) (st : List MV) (μ : MM) (G : MG) : ev 177 59 [a0, a1, a2, a3, a4, a5] (vR x :: st) μ G = if gk G x = 11 then ev 177 62 [a0, a1, a2, a3, a4, a5] (vR (μ x 20) :: st) μ G else none := ev_if pg_177_59 rfl
theorem pg_177_62 : mm_prog 177 62 = some (0, .iload_n 3, 63, []) := by decide +kernel
theorem xe_177_62 (a0 a1 a2 a4 a5 : Option MV) (x : Int) (st : List MV) (μ : MM) (G : MG) : ev 177 62 [a0, a1, a2, some (vI x), a4, a5] st μ G = ev 177 63 [a0, a1, a2, some (vI x), a4, a5] (vI x :: st) μ G := ev_stp pg_177_62 rfl
theorem pg_177_63 : mm_prog 177 63 = some (0, .iconst 1, 64, []) := by decide +kernel
theorem xe_177_63 (a0 a1 a2 a3 a4 a5 : Option MV) (st : List MV) (μ : MM) (G : MG) : ev 177 63 [a0, a1, a2, a3, a4, a5] st μ G = ev 177 64 [a0, a1, a2, a3, a4, a5] (vI (1) :: st) μ G := ev_stp pg_177_63 rfl
theorem pg_177_64 : mm_prog 177 64 = some (0, .iadd, 65, []) := by decide +kernel
theorem xe_177_64 (a0 a1 a2 a3 a4 a5 : Option MV) (x y : Int) (st : List MV) (μ : MM) (G : MG) : ev 177 64 [a0, a1, a2, a3, a4, a5] (vI y :: vI x :: st) μ G = ev 177 65 [a0, a1, a2, a3, a4, a5] (vI (w32 (x + y)) :: st) μ G := ev_stp pg_177_64 rfl
theorem pg_177_65 : mm_prog 177 65 = some (0, .iaload, 66, []) := by decide +kernel
theorem xe_177_65 (a0 a1 a2 a3 a4 a5 : Option MV) (x y : Int) (st : List MV) (μ : MM) (G : MG) : ev 177 65 [a0, a1, a2, a3, a4, a5] (vI x :: vR y :: st) μ G = if gk G y = 100 ∧ 0 ≤ x ∧ x < gl G y then ev 177 66 [a0, a1, a2, a3, a4, a5] (vI (μ y x) :: st) μ G else none := ev_if pg_177_65 rfl
theorem pg_177_66 : mm_prog 177 66 = some (0, .imul, 67, []) := by decide +kernel
theorem xe_177_66 (a0 a1 a2 a3 a4 a5 : Option MV) (x y : Int) (st : List MV) (μ : MM) (G : MG) : ev 177 66 [a0, a1, a2, a3, a4, a5] (vI y :: vI x :: st) μ G = ev 177 67 [a0, a1, a2, a3, a4, a5] (vI (w32 (x * y)) :: st) μ G := ev_stp pg_177_66 rfl
theorem pg_177_67 : mm_prog 177 67 = some (0, .aload_n 0, 68, []) := by decide +kernel
theorem xe_177_67 (a1 a2 a3 a4 a5 : Option MV) (x : Int) (st : List MV) (μ : MM) (G : MG) : ev 177 67 [some (vR x), a1, a2, a3, a4, a5] st μ G = ev 177 68 [some (vR x), a1, a2, a3, a4, a5] (vR x :: st) μ G := ev_stp pg_177_67 rfl
theorem pg_177_68 : mm_prog 177 68 = some (0, .getfield 38, 71, [11, 20, 2]) := by decide +kernel
theorem xe_177_68 (a0 a1 a2 a3 a4 a5 : Option MV) (x : Int) (st : List MV) (μ : MM) (G : MG) : ev 177 68 [a0, a1, a2, a3, a4, a5] (vR x :: st) μ G = if gk G x = 11 then ev 177 71 [a0, a1, a2, a3, a4, a5] (vR (μ x 20) :: st) μ G else none := ev_if pg_177_68 rfl
theorem pg_177_71 : mm_prog 177 71 = some (0, .iload 4, 73, []) := by decide +kernel
theorem xe_177_71 (a0 a1 a2 a3 a5 : Option MV) (x : Int) (st : List MV) (μ : MM) (G : MG) : ev 177 71 [a0, a1, a2, a3, some (vI x), a5] st μ G = ev 177 73 [a0, a1, a2, a3, some (vI x), a5] (vI x :: st) μ G := ev_stp pg_177_71 rfl
theorem pg_177_73 : mm_prog 177 73 = some (0, .iaload, 74, []) := by decide +kernel
theorem xe_177_73 (a0 a1 a2 a3 a4 a5 : Option MV) (x y : Int) (st : List MV) (μ : MM) (G : MG) : ev 177 73 [a0, a1, a2, a3, a4, a5] (vI x :: vR y :: st) μ G = if gk G y = 100 ∧ 0 ≤ x ∧ x < gl G y then ev 177 74 [a0, a1, a2, a3, a4, a5] (vI (μ y x) :: st) μ G else none := ev_if pg_177_73 rfl
theorem pg_177_74 : mm_prog 177 74 = some (0, .aload_n 0, 75, []) := by decide +kernel
theorem xe_177_74 (a1 a2 a3 a4 a5 : Option MV) (x : Int) (st : List MV) (μ : MM) (G : MG) : ev 177 74 [some (vR x), a1, a2, a3, a4, a5] st μ G = ev 177 75 [some (vR x), a1, a2, a3, a4, a5] (vR x :: st) μ G := ev_stp pg_177_74 rfl
theorem pg_177_75 : mm_prog 177 75 = some (0, .getfield 38, 78, [11, 20, 2]) := by decide +kernel
theorem xe_177_75 (a0 a1 a2 a3 a4 a5 : Option MV) (x : Int) (st : List MV) (μ : MM) (G : MG) : ev 177 75 [a0, a1, a2, a3, a4, a5] (vR x :: st) μ G = if gk G x = 11 then ev 177 78 [a0, a1, a2, a3, a4, a5] (vR (μ x 20) :: st) μ G else none := ev_if pg_177_75 rfl
theorem pg_177_78 : mm_prog 177 78 = some (0, .iload 4, 80, []) := by decide +kernel
theorem xe_177_78 (a0 a1 a2 a3 a5 : Option MV) (x : Int) (st : List MV) (μ : MM) (G : MG) : ev 177 78 [a0, a1, a2, a3, some (vI x), a5] st μ G = ev 177 80 [a0, a1, a2, a3, some (vI x), a5] (vI x :: st) μ G := ev_stp pg_177_78 rfl
theorem pg_177_80 : mm_prog 177 80 = some (0, .iconst 1, 81, []) := by decide +kernel
theorem xe_177_80 (a0 a1 a2 a3 a4 a5 : Option MV) (st : List MV) (μ : MM) (G : MG) : ev 177 80 [a0, a1, a2, a3, a4, a5] st μ G = ev 177 81 [a0, a1, a2, a3, a4, a5] (vI (1) :: st) μ G := ev_stp pg_177_80 rfl
theorem pg_177_81 : mm_prog 177 81 = some (0, .iadd, 82, []) := by decide +kernel
theorem xe_177_81 (a0 a1 a2 a3 a4 a5 : Option MV) (x y : Int) (st : List MV) (μ : MM) (G : MG) : ev 177 81 [a0, a1, a2, a3, a4, a5] (vI y :: vI x :: st) μ G = ev 177 82 [a0, a1, a2, a3, a4, a5] (vI (w32 (x + y)) :: st) μ G := ev_stp pg_177_81 rfl
theorem pg_177_82 : mm_prog 177 82 = some (0, .iaload, 83, []) := by decide +kernel
theorem xe_177_82 (a0 a1 a2 a3 a4 a5 : Option MV) (x y : Int) (st : List MV) (μ : MM) (G : MG) : ev 177 82 [a0, a1, a2, a3, a4, a5] (vI x :: vR y :: st) μ G = if gk G y = 100 ∧ 0 ≤ x ∧ x < gl G y then ev 177 83 [a0, a1, a2, a3, a4, a5] (vI (μ y x) :: st) μ G else none := ev_if pg_177_82 rfl
theorem pg_177_83 : mm_prog 177 83 = some (0, .imul, 84, []) := by decide +kernel
theorem xe_177_83 (a0 a1 a2 a3 a4 a5 : Option MV) (x y : Int) (st : List MV) (μ : MM) (G : MG) : ev 177 83 [a0, a1, a2, a3, a4, a5] (vI y :: vI x :: st) μ G = ev 177 84 [a0, a1, a2, a3, a4, a5] (vI (w32 (x * y)) :: st) μ G := ev_stp pg_177_83 rfl
theorem pg_177_84 : mm_prog 177 84 = some (0, .isub, 85, []) := by decide +kernel
theorem xe_177_84 (a0 a1 a2 a3 a4 a5 : Option MV) (x y : Int) (st : List MV) (μ : MM) (G : MG) : ev 177 84 [a0, a1, a2, a3, a4, a5] (vI y :: vI x :: st) μ G = ev 177 85 [a0, a1, a2, a3, a4, a5] (vI (w32 (x - y)) :: st) μ G := ev_stp pg_177_84 rfl
theorem pg_177_85 : mm_prog 177 85 = some (0, .istore 5, 87, []) := by decide +kernel
theorem xe_177_85 (a0 a1 a2 a3 a4 a5 : Option MV) (x : Int) (st : List MV) (μ : MM) (G : MG) (h : mm_nL a4 = true) : ev 177 85 [a0, a1, a2, a3, a4, a5] (vI x :: st) μ G = ev 177 87 [a0, a1, a2, a3, a4, some (vI x)] st μ G := ev_st pg_177_85 rfl (mm_nl_of h) (Nat.le_of_ble_eq_true rfl)
theorem pg_177_87 : mm_prog 177 87 = some (0, .iload 5, 89, []) := by decide +kernel
theorem xe_177_87 (a0 a1 a2 a3 a4 : Option MV) (x : Int) (st : List MV) (μ : MM) (G : MG) : ev 177 87 [a0, a1, a2, a3, a4, some (vI x)] st μ G = ev 177 89 [a0, a1, a2, a3, a4, some (vI x)] (vI x :: st) μ G := ev_stp pg_177_87 rfl
theorem pg_177_89 : mm_prog 177 89 = some (0, .ifCond .eq 16, 92, []) := by decide +kernel
theorem xe_177_89 (a0 a1 a2 a3 a4 a5 : Option MV) (x : Int) (st : List MV) (μ : MM) (G : MG) : ev 177 89 [a0, a1, a2, a3, a4, a5] (vI x :: st) μ G = if x = 0 then ev 177 105 [a0, a1, a2, a3, a4, a5] st μ G else ev 177 92 [a0, a1, a2, a3, a4, a5] st μ G := ev_br (mm_cnd_eq x 0) pg_177_89 rfl
theorem pg_177_92 : mm_prog 177 92 = some (0, .iload 5, 94, []) := by decide +kernel
theorem xe_177_92 (a0 a1 a2 a3 a4 : Option MV) (x : Int) (st : List MV) (μ : MM) (G : MG) : ev 177 92 [a0, a1, a2, a3, a4, some (vI x)] st μ G = ev 177 94 [a0, a1, a2, a3, a4, some (vI x)] (vI x :: st) μ G := ev_stp pg_177_92 rfl
theorem pg_177_94 : mm_prog 177 94 = some (0, .ifCond .le 7, 97, []) := by decide +kernel
theorem xe_177_94 (a0 a1 a2 a3 a4 a5 : Option MV) (x : Int) (st : List MV) (μ : MM) (G : MG) : ev 177 94 [a0, a1, a2, a3, a4, a5] (vI x :: st) μ G = if x ≤ 0 then ev 177 101 [a0, a1, a2, a3, a4, a5] st μ G else ev 177 97 [a0, a1, a2, a3, a4, a5] st μ G := ev_br (mm_cnd_le x 0) pg_177_94 rfl
theorem pg_177_97 : mm_prog 177 97 = some (0, .iconst 1, 98, []) := by decide +kernel
theorem xe_177_97 (a0 a1 a2 a3 a4 a5 : Option MV) (st : List MV) (μ : MM) (G : MG) : ev 177 97 [a0, a1, a2, a3, a4, a5] st μ G = ev 177 98 [a0, a1, a2, a3, a4, a5] (vI (1) :: st) μ G := ev_stp pg_177_97 rfl
theorem pg_177_98 : mm_prog 177 98 = some (0, .goto 32, 101, []) := by decide +kernel
theorem xe_177_98 (a0 a1 a2 a3 a4 a5 : Option MV) (st : List MV) (μ : MM) (G : MG) : ev 177 98 [a0, a1, a2, a3, a4, a5] st μ G = ev 177 130 [a0, a1, a2, a3, a4, a5] st μ G := ev_stp pg_177_98 rfl
theorem pg_177_101 : mm_prog 177 101 = some (0, .iconst 0, 102, []) := by decide +kernel
theorem xe_177_101 (a0 a1 a2 a3 a4 a5 : Option MV) (st : List MV) (μ : MM) (G : MG) : ev 177 101 [a0, a1, a2, a3, a4, a5] st μ G = ev 177 102 [a0, a1, a2, a3, a4, a5] (vI (0) :: st) μ G := ev_stp pg_177_101 rfl
theorem pg_177_102 : mm_prog 177 102 = some (0, .goto 28, 105, []) := by decide +kernel
theorem xe_177_102 (a0 a1 a2 a3 a4 a5 : Option MV) (st : List MV) (μ : MM) (G : MG) : ev 177 102 [a0, a1, a2, a3, a4, a5] st μ G = ev 177 130 [a0, a1, a2, a3, a4, a5] st μ G := ev_stp pg_177_102 rfl
theorem pg_177_105 : mm_prog 177 105 = some (0, .aload_n 0, 106, []) := by decide +kernel
theorem xe_177_105 (a1 a2 a3 a4 a5 : Option MV) (x : Int) (st : List MV) (μ : MM) (G : MG) : ev 177 105 [some (vR x), a1, a2, a3, a4, a5] st μ G = ev 177 106 [some (vR x), a1, a2, a3, a4, a5] (vR x :: st) μ G := ev_stp pg_177_105 rfl
theorem pg_177_106 : mm_prog 177 106 = some (0, .getfield 38, 109, [11, 20, 2]) := by decide +kernel
theorem xe_177_106 (a0 a1 a2 a3 a4 a5 : Option MV) (x : Int) (st : List MV) (μ : MM) (G : MG) : ev 177 106 [a0, a1, a2, a3, a4, a5] (vR x :: st) μ G = if gk G x = 11 then ev 177 109 [a0, a1, a2, a3, a4, a5] (vR (μ x 20) :: st) μ G else none := ev_if pg_177_106 rfl
theorem pg_177_109 : mm_prog 177 109 = some (0, .iload_n 3, 110, []) := by decide +kernel
theorem xe_177_109 (a0 a1 a2 a4 a5 : Option MV) (x : Int) (st : List MV) (μ : MM) (G : MG) : ev 177 109 [a0, a1, a2, some (vI x), a4, a5] st μ G = ev 177 110 [a0, a1, a2, some (vI x), a4, a5] (vI x :: st) μ G := ev_stp pg_177_109 rfl
theorem pg_177_110 : mm_prog 177 110 = some (0, .iconst 2, 111, []) := by decide +kernel
theorem xe_177_110 (a0 a1 a2 a3 a4 a5 : Option MV) (st : List MV) (μ : MM) (G : MG) : ev 177 110 [a0, a1, a2, a3, a4, a5] st μ G = ev 177 111 [a0, a1, a2, a3, a4, a5] (vI (2) :: st) μ G := ev_stp pg_177_110 rfl
theorem pg_177_111 : mm_prog 177 111 = some (0, .iadd, 112, []) := by decide +kernel
theorem xe_177_111 (a0 a1 a2 a3 a4 a5 : Option MV) (x y : Int) (st : List MV) (μ : MM) (G : MG) : ev 177 111 [a0, a1, a2, a3, a4, a5] (vI y :: vI x :: st) μ G = ev 177 112 [a0, a1, a2, a3, a4, a5] (vI (w32 (x + y)) :: st) μ G := ev_stp pg_177_111 rfl
theorem pg_177_112 : mm_prog 177 112 = some (0, .iaload, 113, []) := by decide +kernel
theorem xe_177_112 (a0 a1 a2 a3 a4 a5 : Option MV) (x y : Int) (st : List MV) (μ : MM) (G : MG) : ev 177 112 [a0, a1, a2, a3, a4, a5] (vI x :: vR y :: st) μ G = if gk G y = 100 ∧ 0 ≤ x ∧ x < gl G y then ev 177 113 [a0, a1, a2, a3, a4, a5] (vI (μ y x) :: st) μ G else none := ev_if pg_177_112 rfl
theorem pg_177_113 : mm_prog 177 113 = some (0, .aload_n 0, 114, []) := by decide +kernel
theorem xe_177_113 (a1 a2 a3 a4 a5 : Option MV) (x : Int) (st : List MV) (μ : MM) (G : MG) : ev 177 113 [some (vR x), a1, a2, a3, a4, a5] st μ G = ev 177 114 [some (vR x), a1, a2, a3, a4, a5] (vR x :: st) μ G := ev_stp pg_177_113 rfl
theorem pg_177_114 : mm_prog 177 114 = some (0, .getfield 38, 117, [11, 20, 2]) := by decide +kernel
theorem xe_177_114 (a0 a1 a2 a3 a4 a5 : Option MV) (x : Int) (st : List MV) (μ : MM) (G : MG) : ev 177 114 [a0, a1, a2, a3, a4, a5] (vR x :: st) μ G = if gk G x = 11 then ev 177 117 [a0, a1, a2, a3, a4, a5] (vR (μ x 20) :: st) μ G else none := ev_if pg_177_114 rfl
theorem pg_177_117 : mm_prog 177 117 = some (0, .iload 4, 119, []) := by decide +kernel
theorem xe_177_117 (a0 a1 a2 a3 a5 : Option MV) (x : Int) (st : List MV) (μ : MM) (G : MG) : ev 177 117 [a0, a1, a2, a3, some (vI x), a5] st μ G = ev 177 119 [a0, a1, a2, a3, some (vI x), a5] (vI x :: st) μ G := ev_stp pg_177_117 rfl
theorem pg_177_119 : mm_prog 177 119 = some (0, .iconst 2, 120, []) := by decide +kernel
theorem xe_177_119 (a0 a1 a2 a3 a4 a5 : Option MV) (st : List MV) (μ : MM) (G : MG) : ev 177 119 [a0, a1, a2, a3, a4, a5] st μ G = ev 177 120 [a0, a1, a2, a3, a4, a5] (vI (2) :: st) μ G := ev_stp pg_177_119 rfl
theorem pg_177_120 : mm_prog 177 120 = some (0, .iadd, 121, []) := by decide +kernel
theorem xe_177_120 (a0 a1 a2 a3 a4 a5 : Option MV) (x y : Int) (st : List MV) (μ : MM) (G : MG) : ev 177 120 [a0, a1, a2, a3, a4, a5] (vI y :: vI x :: st) μ G = ev 177 121 [a0, a1, a2, a3, a4, a5] (vI (w32 (x + y)) :: st) μ G := ev_stp pg_177_120 rfl
theorem pg_177_121 : mm_prog 177 121 = some (0, .iaload, 122, []) := by decide +kernel
theorem xe_177_121 (a0 a1 a2 a3 a4 a5 : Option MV) (x y : Int) (st : List MV) (μ : MM) (G : MG) : ev 177 121 [a0, a1, a2, a3, a4, a5] (vI x :: vR y :: st) μ G = if gk G y = 100 ∧ 0 ≤ x ∧ x < gl G y then ev 177 122 [a0, a1, a2, a3, a4, a5] (vI (μ y x) :: st) μ G else none := ev_if pg_177_121 rfl
theorem pg_177_122 : mm_prog 177 122 = some (0, .if_icmp .le 7, 125, []) := by decide +kernel
theorem xe_177_122 (a0 a1 a2 a3 a4 a5 : Option MV) (x y : Int) (st : List MV) (μ : MM) (G : MG) : ev 177 122 [a0, a1, a2, a3, a4, a5] (vI y :: vI x :: st) μ G = if x ≤ y then ev 177 129 [a0, a1, a2, a3, a4, a5] st μ G else ev 177 125 [a0, a1, a2, a3, a4, a5] st μ G := ev_br (mm_cnd_le x y) pg_177_122 rfl
theorem pg_177_125 : mm_prog 177 125 = some (0, .iconst 1, 126, []) := by decide +kernel
theorem xe_177_125 (a0 a1 a2 a3 a4 a5 : Option MV) (st : List MV) (μ : MM) (G : MG) : ev 177 125 [a0, a1, a2, a3, a4, a5] st μ G = ev 177 126 [a0, a1, a2, a3, a4, a5] (vI (1) :: st) μ G := ev_stp pg_177_125 rfl
theorem pg_177_126 : mm_prog 177 126 = some (0, .goto 4, 129, []) := by decide +kernel
theorem xe_177_126 (a0 a1 a2 a3 a4 a5 : Option MV) (st : List MV) (μ : MM) (G : MG) : ev 177 126 [a0, a1, a2, a3, a4, a5] st μ G = ev 177 130 [a0, a1, a2, a3, a4, a5] st μ G := ev_stp pg_177_126 rfl
theorem pg_177_129 : mm_prog 177 129 = some (0, .iconst 0, 130, []) := by decide +kernel
theorem xe_177_129 (a0 a1 a2 a3 a4 a5 : Option MV) (st : List MV) (μ : MM) (G : MG) : ev 177 129 [a0, a1, a2, a3, a4, a5] st μ G = ev 177 130 [a0, a1, a2, a3, a4, a5] (vI (0) :: st) μ G := ev_stp pg_177_129 rfl
theorem pg_177_130 : mm_prog 177 130 = some (2, .ireturn, 131, [1]) := by decide +kernel
theorem xe_177_130 (a0 a1 a2 a3 a4 a5 : Option MV) (x : Int) (μ : MM) (G : MG) : ev 177 130 [a0, a1, a2, a3, a4, a5] [vI x] μ G = if x = 0 ∨ x = 1 then some (some (vI x), μ, G) else none := ev_retB pg_177_130
-- X11_told
theorem pg_178_0 : mm_prog 178 0 = some (0, .aload_n 0, 1, []) := by decide +kernel
theorem xe_178_0 (a1 a2 : Option MV) (x : Int) (st : List MV) (μ : MM) (G : MG) : ev 178 0 [some (vR x), a1, a2] st μ G = ev 178 1 [some (vR x), a1, a2] (vR x :: st) μ G := ev_stp pg_178_0 rfl
theorem pg_178_1 : mm_prog 178 1 = some (0, .iconst 0, 2, []) := by decide +kernel
theorem xe_178_1 (a0 a1 a2 : Option MV) (st : List MV) (μ : MM) (G : MG) : ev 178 1 [a0, a1, a2] st μ G = ev 178 2 [a0, a1, a2] (vI (0) :: st) μ G := ev_stp pg_178_1 rfl
theorem pg_178_2 : mm_prog 178 2 = some (0, .putfield 1, 5, [11, 0, 0]) := by decide +kernel
theorem xe_178_2 (a0 a1 a2 : Option MV) (x y : Int) (st : List MV) (μ : MM) (G : MG) : ev 178 2 [a0, a1, a2] (vI x :: vR y :: st) μ G = if gk G y = 11 then ev 178 5 [a0, a1, a2] st (mset μ y 0 x) G else none := ev_put0 pg_178_2
theorem pg_178_5 : mm_prog 178 5 = some (0, .iload_n 1, 6, []) := by decide +kernel
theorem xe_178_5 (a0 a2 : Option MV) (x : Int) (st : List MV) (μ : MM) (G : MG) : ev 178 5 [a0, some (vI x), a2] st μ G = ev 178 6 [a0, some (vI x), a2] (vI x :: st) μ G := ev_stp pg_178_5 rfl
theorem pg_178_6 : mm_prog 178 6 = some (0, .i2l, 7, []) := by decide +kernel
theorem xe_178_6 (a0 a1 a2 : Option MV) (x : Int) (st : List MV) (μ : MM) (G : MG) : ev 178 6 [a0, a1, a2] (vI x :: st) μ G = ev 178 7 [a0, a1, a2] (vL x :: st) μ G := ev_stp pg_178_6 rfl
theorem pg_178_7 : mm_prog 178 7 = some (0, .lconst 0, 8, []) := by decide +kernel
theorem xe_178_7 (a0 a1 a2 : Option MV) (st : List MV) (μ : MM) (G : MG) : ev 178 7 [a0, a1, a2] st μ G = ev 178 8 [a0, a1, a2] (vL 0 :: st) μ G := ev_stp pg_178_7 rfl
theorem pg_178_8 : mm_prog 178 8 = some (0, .ldc2_w 227, 11, [16]) := by decide +kernel
theorem xe_178_8 (a0 a1 a2 : Option MV) (st : List MV) (μ : MM) (G : MG) : ev 178 8 [a0, a1, a2] st μ G = ev 178 11 [a0, a1, a2] (vL (16) :: st) μ G := ev_stp pg_178_8 rfl
theorem pg_178_11 : mm_prog 178 11 = some (1, .invokestatic 107, 14, [0, 148, 3, 0]) := by decide +kernel
theorem xe_178_11 (a0 a1 a2 : Option MV) (x0 x1 x2 : Int) (μ : MM) (G : MG) : ev 178 11 [a0, a1, a2] (vL x2 :: vL x1 :: vL x0 :: []) μ G = (ev 148 0 [some (vL x0), none, some (vL x1), none, some (vL x2), none] [] μ G).bind (fun q => ev 178 14 [a0, a1, a2] (q.1.toList ++ []) q.2.1 q.2.2) := ev_calS (as := [vL x0, vL x1, vL x2]) (r := []) mx_148 pg_178_11 rfl rfl (Nat.le_of_ble_eq_true rfl) (Nat.le_of_ble_eq_true rfl)
theorem pg_178_14 : mm_prog 178 14 = some (0, .ifCond .ne 20, 17, []) := by decide +kernel
theorem xe_178_14 (a0 a1 a2 : Option MV) (x : Int) (st : List MV) (μ : MM) (G : MG) : ev 178 14 [a0, a1, a2] (vI x :: st) μ G = if ¬ x = 0 then ev 178 34 [a0, a1, a2] st μ G else ev 178 17 [a0, a1, a2] st μ G := ev_br (mm_cnd_ne x 0) pg_178_14 rfl
theorem pg_178_17 : mm_prog 178 17 = some (0, .iload_n 1, 18, []) := by decide +kernel
theorem xe_178_17 (a0 a2 : Option MV) (x : Int) (st : List MV) (μ : MM) (G : MG) : ev 178 17 [a0, some (vI x), a2] st μ G = ev 178 18 [a0, some (vI x), a2] (vI x :: st) μ G := ev_stp pg_178_17 rfl
theorem pg_178_18 : mm_prog 178 18 = some (0, .i2l, 19, []) := by decide +kernel
theorem xe_178_18 (a0 a1 a2 : Option MV) (x : Int) (st : List MV) (μ : MM) (G : MG) : ev 178 18 [a0, a1, a2] (vI x :: st) μ G = ev 178 19 [a0, a1, a2] (vL x :: st) μ G := ev_stp pg_178_18 rfl
theorem pg_178_19 : mm_prog 178 19 = some (0, .ldc2_w 229, 22, [20]) := by decide +kernel
theorem xe_178_19 (a0 a1 a2 : Option MV) (st : List MV) (μ : MM) (G : MG) : ev 178 19 [a0, a1, a2] st μ G = ev 178 22 [a0, a1, a2] (vL (20) :: st) μ G := ev_stp pg_178_19 rfl
theorem pg_178_22 : mm_prog 178 22 = some (0, .ldc2_w 231, 25, [26]) := by decide +kernel
theorem xe_178_22 (a0 a1 a2 : Option MV) (st : List MV) (μ : MM) (G : MG) : ev 178 22 [a0, a1, a2] st μ G = ev 178 25 [a0, a1, a2] (vL (26) :: st) μ G := ev_stp pg_178_22 rfl
theorem pg_178_25 : mm_prog 178 25 = some (1, .invokestatic 107, 28, [0, 148, 3, 0]) := by decide +kernel
theorem xe_178_25 (a0 a1 a2 : Option MV) (x0 x1 x2 : Int) (μ : MM) (G : MG) : ev 178 25 [a0, a1, a2] (vL x2 :: vL x1 :: vL x0 :: []) μ G = (ev 148 0 [some (vL x0), none, some (vL x1), none, some (vL x2), none] [] μ G).bind (fun q => ev 178 28 [a0, a1, a2] (q.1.toList ++ []) q.2.1 q.2.2) := ev_calS (as := [vL x0, vL x1, vL x2]) (r := []) mx_148 pg_178_25 rfl rfl (Nat.le_of_ble_eq_true rfl) (Nat.le_of_ble_eq_true rfl)
theorem pg_178_28 : mm_prog 178 28 = some (0, .ifCond .ne 6, 31, []) := by decide +kernel
theorem xe_178_28 (a0 a1 a2 : Option MV) (x : Int) (st : List MV) (μ : MM) (G : MG) : ev 178 28 [a0, a1, a2] (vI x :: st) μ G = if ¬ x = 0 then ev 178 34 [a0, a1, a2] st μ G else ev 178 31 [a0, a1, a2] st μ G := ev_br (mm_cnd_ne x 0) pg_178_28 rfl
theorem pg_178_31 : mm_prog 178 31 = some (0, .bipush (-2), 33, []) := by decide +kernel
theorem xe_178_31 (a0 a1 a2 : Option MV) (st : List MV) (μ : MM) (G : MG) : ev 178 31 [a0, a1, a2] st μ G = ev 178 33 [a0, a1, a2] (vI (-2) :: st) μ G := ev_stp pg_178_31 rfl
theorem pg_178_33 : mm_prog 178 33 = some (2, .ireturn, 34, [0]) := by decide +kernel
theorem xe_178_33 (a0 a1 a2 : Option MV) (x : Int) (μ : MM) (G : MG) : ev 178 33 [a0, a1, a2] [vI x] μ G = some (some (vI x), μ, G) := ev_ret pg_178_33 rfl
theorem pg_178_34 : mm_prog 178 34 = some (0, .aload_n 0, 35, []) := by decide +kernel
theorem xe_178_34 (a1 a2 : Option MV) (x : Int) (st : List MV) (μ : MM) (G : MG) : ev 178 34 [some (vR x), a1, a2] st μ G = ev 178 35 [some (vR x), a1, a2] (vR x :: st) μ G := ev_stp pg_178_34 rfl
theorem pg_178_35 : mm_prog 178 35 = some (0, .getfield 128, 38, [11, 6, 0]) := by decide +kernel
theorem xe_178_35 (a0 a1 a2 : Option MV) (x : Int) (st : List MV) (μ : MM) (G : MG) : ev 178 35 [a0, a1, a2] (vR x :: st) μ G = if gk G x = 11 then ev 178 38 [a0, a1, a2] (vI (μ x 6) :: st) μ G else none := ev_if pg_178_35 rfl
theorem pg_178_38 : mm_prog 178 38 = some (0, .ifCond .ne 6, 41, []) := by decide +kernel
theorem xe_178_38 (a0 a1 a2 : Option MV) (x : Int) (st : List MV) (μ : MM) (G : MG) : ev 178 38 [a0, a1, a2] (vI x :: st) μ G = if ¬ x = 0 then ev 178 44 [a0, a1, a2] st μ G else ev 178 41 [a0, a1, a2] st μ G := ev_br (mm_cnd_ne x 0) pg_178_38 rfl
theorem pg_178_41 : mm_prog 178 41 = some (0, .bipush (-5), 43, []) := by decide +kernel
theorem xe_178_41 (a0 a1 a2 : Option MV) (st : List MV) (μ : MM) (G : MG) : ev 178 41 [a0, a1, a2] st μ G = ev 178 43 [a0, a1, a2] (vI (-5) :: st) μ G := ev_stp pg_178_41 rfl
theorem pg_178_43 : mm_prog 178 43 = some (2, .ireturn, 44, [0]) := by decide +kernel
theorem xe_178_43 (a0 a1 a2 : Option MV) (x : Int) (μ : MM) (G : MG) : ev 178 43 [a0, a1, a2] [vI x] μ G = some (some (vI x), μ, G) := ev_ret pg_178_43 rfl
theorem pg_178_44 : mm_prog 178 44 = some (0, .iload_n 1, 45, []) := by decide +kernel
theorem xe_178_44 (a0 a2 : Option MV) (x : Int) (st : List MV) (μ : MM) (G : MG) : ev 178 44 [a0, some (vI x), a2] st μ G = ev 178 45 [a0, some (vI x), a2] (vI x :: st) μ G := ev_stp pg_178_44 rfl
theorem pg_178_45 : mm_prog 178 45 = some (0, .bipush 20, 47, []) := by decide +kernel
theorem xe_178_45 (a0 a1 a2 : Option MV) (st : List MV) (μ : MM) (G : MG) : ev 178 45 [a0, a1, a2] st μ G = ev 178 47 [a0, a1, a2] (vI (20) :: st) μ G := ev_stp pg_178_45 rfl
theorem pg_178_47 : mm_prog 178 47 = some (0, .if_icmp .lt 13, 50, []) := by decide +kernel
theorem xe_178_47 (a0 a1 a2 : Option MV) (x y : Int) (st : List MV) (μ : MM) (G : MG) : ev 178 47 [a0, a1, a2] (vI y :: vI x :: st) μ G = if x < y then ev 178 60 [a0, a1, a2] st μ G else ev 178 50 [a0, a1, a2] st μ G := ev_br (mm_cnd_lt x y) pg_178_47 rfl
theorem pg_178_50 : mm_prog 178 50 = some (0, .aload_n 0, 51, []) := by decide +kernel
theorem xe_178_50 (a1 a2 : Option MV) (x : Int) (st : List MV) (μ : MM) (G : MG) : ev 178 50 [some (vR x), a1, a2] st μ G = ev 178 51 [some (vR x), a1, a2] (vR x :: st) μ G := ev_stp pg_178_50 rfl
theorem pg_178_51 : mm_prog 178 51 = some (0, .getfield 44, 54, [11, 22, 2]) := by decide +kernel
theorem xe_178_51 (a0 a1 a2 : Option MV) (x : Int) (st : List MV) (μ : MM) (G : MG) : ev 178 51 [a0, a1, a2] (vR x :: st) μ G = if gk G x = 11 then ev 178 54 [a0, a1, a2] (vR (μ x 22) :: st) μ G else none := ev_if pg_178_51 rfl
theorem pg_178_54 : mm_prog 178 54 = some (0, .iload_n 1, 55, []) := by decide +kernel
theorem xe_178_54 (a0 a2 : Option MV) (x : Int) (st : List MV) (μ : MM) (G : MG) : ev 178 54 [a0, some (vI x), a2] st μ G = ev 178 55 [a0, some (vI x), a2] (vI x :: st) μ G := ev_stp pg_178_54 rfl
theorem pg_178_55 : mm_prog 178 55 = some (0, .bipush 20, 57, []) := by decide +kernel
theorem xe_178_55 (a0 a1 a2 : Option MV) (st : List MV) (μ : MM) (G : MG) : ev 178 55 [a0, a1, a2] st μ G = ev 178 57 [a0, a1, a2] (vI (20) :: st) μ G := ev_stp pg_178_55 rfl
theorem pg_178_57 : mm_prog 178 57 = some (0, .isub, 58, []) := by decide +kernel
theorem xe_178_57 (a0 a1 a2 : Option MV) (x y : Int) (st : List MV) (μ : MM) (G : MG) : ev 178 57 [a0, a1, a2] (vI y :: vI x :: st) μ G = ev 178 58 [a0, a1, a2] (vI (w32 (x - y)) :: st) μ G := ev_stp pg_178_57 rfl
theorem pg_178_58 : mm_prog 178 58 = some (0, .iaload, 59, []) := by decide +kernel
theorem xe_178_58 (a0 a1 a2 : Option MV) (x y : Int) (st : List MV) (μ : MM) (G : MG) : ev 178 58 [a0, a1, a2] (vI x :: vR y :: st) μ G = if gk G y = 100 ∧ 0 ≤ x ∧ x < gl G y then ev 178 59 [a0, a1, a2] (vI (μ y x) :: st) μ G else none := ev_if pg_178_58 rfl
theorem pg_178_59 : mm_prog 178 59 = some (2, .ireturn, 60, [0]) := by decide +kernel
theorem xe_178_59 (a0 a1 a2 : Option MV) (x : Int) (μ : MM) (G : MG) : ev 178 59 [a0, a1, a2] [vI x] μ G = some (some (vI x), μ, G) := ev_ret pg_178_59 rfl
theorem pg_178_60 : mm_prog 178 60 = some (0, .iload_n 1, 61, []) := by decide +kernel
theorem xe_178_60 (a0 a2 : Option MV) (x : Int) (st : List MV) (μ : MM) (G : MG) : ev 178 60 [a0, some (vI x), a2] st μ G = ev 178 61 [a0, some (vI x), a2] (vI x :: st) μ G := ev_stp pg_178_60 rfl
theorem pg_178_61 : mm_prog 178 61 = some (0, .i2l, 62, []) := by decide +kernel
theorem xe_178_61 (a0 a1 a2 : Option MV) (x : Int) (st : List MV) (μ : MM) (G : MG) : ev 178 61 [a0, a1, a2] (vI x :: st) μ G = ev 178 62 [a0, a1, a2] (vL x :: st) μ G := ev_stp pg_178_61 rfl
theorem pg_178_62 : mm_prog 178 62 = some (0, .ldc2_w 233, 65, [9]) := by decide +kernel
theorem xe_178_62 (a0 a1 a2 : Option MV) (st : List MV) (μ : MM) (G : MG) : ev 178 62 [a0, a1, a2] st μ G = ev 178 65 [a0, a1, a2] (vL (9) :: st) μ G := ev_stp pg_178_62 rfl
theorem pg_178_65 : mm_prog 178 65 = some (0, .ldc2_w 235, 68, [13]) := by decide +kernel
theorem xe_178_65 (a0 a1 a2 : Option MV) (st : List MV) (μ : MM) (G : MG) : ev 178 65 [a0, a1, a2] st μ G = ev 178 68 [a0, a1, a2] (vL (13) :: st) μ G := ev_stp pg_178_65 rfl
theorem pg_178_68 : mm_prog 178 68 = some (1, .invokestatic 107, 71, [0, 148, 3, 0]) := by decide +kernel
theorem xe_178_68 (a0 a1 a2 : Option MV) (x0 x1 x2 : Int) (μ : MM) (G : MG) : ev 178 68 [a0, a1, a2] (vL x2 :: vL x1 :: vL x0 :: []) μ G = (ev 148 0 [some (vL x0), none, some (vL x1), none, some (vL x2), none] [] μ G).bind (fun q => ev 178 71 [a0, a1, a2] (q.1.toList ++ []) q.2.1 q.2.2) := ev_calS (as := [vL x0, vL x1, vL x2]) (r := []) mx_148 pg_178_68 rfl rfl (Nat.le_of_ble_eq_true rfl) (Nat.le_of_ble_eq_true rfl)
theorem pg_178_71 : mm_prog 178 71 = some (0, .ifCond .eq 24, 74, []) := by decide +kernel
theorem xe_178_71 (a0 a1 a2 : Option MV) (x : Int) (st : List MV) (μ : MM) (G : MG) : ev 178 71 [a0, a1, a2] (vI x :: st) μ G = if x = 0 then ev 178 95 [a0, a1, a2] st μ G else ev 178 74 [a0, a1, a2] st μ G := ev_br (mm_cnd_eq x 0) pg_178_71 rfl
theorem pg_178_74 : mm_prog 178 74 = some (0, .aload_n 0, 75, []) := by decide +kernel
theorem xe_178_74 (a1 a2 : Option MV) (x : Int) (st : List MV) (μ : MM) (G : MG) : ev 178 74 [some (vR x), a1, a2] st μ G = ev 178 75 [some (vR x), a1, a2] (vR x :: st) μ G := ev_stp pg_178_74 rfl
theorem pg_178_75 : mm_prog 178 75 = some (0, .getfield 154, 78, [11, 18, 1]) := by decide +kernel
theorem xe_178_75 (a0 a1 a2 : Option MV) (x : Int) (st : List MV) (μ : MM) (G : MG) : ev 178 75 [a0, a1, a2] (vR x :: st) μ G = if gk G x = 11 then ev 178 78 [a0, a1, a2] (vI (μ x 18) :: st) μ G else none := ev_if pg_178_75 rfl
theorem pg_178_78 : mm_prog 178 78 = some (0, .ifCond .eq 15, 81, []) := by decide +kernel
theorem xe_178_78 (a0 a1 a2 : Option MV) (x : Int) (st : List MV) (μ : MM) (G : MG) : ev 178 78 [a0, a1, a2] (vI x :: st) μ G = if x = 0 then ev 178 93 [a0, a1, a2] st μ G else ev 178 81 [a0, a1, a2] st μ G := ev_br (mm_cnd_eq x 0) pg_178_78 rfl
theorem pg_178_81 : mm_prog 178 81 = some (0, .aload_n 0, 82, []) := by decide +kernel
theorem xe_178_81 (a1 a2 : Option MV) (x : Int) (st : List MV) (μ : MM) (G : MG) : ev 178 81 [some (vR x), a1, a2] st μ G = ev 178 82 [some (vR x), a1, a2] (vR x :: st) μ G := ev_stp pg_178_81 rfl
theorem pg_178_82 : mm_prog 178 82 = some (0, .getfield 32, 85, [11, 11, 2]) := by decide +kernel
theorem xe_178_82 (a0 a1 a2 : Option MV) (x : Int) (st : List MV) (μ : MM) (G : MG) : ev 178 82 [a0, a1, a2] (vR x :: st) μ G = if gk G x = 11 then ev 178 85 [a0, a1, a2] (vR (μ x 11) :: st) μ G else none := ev_if pg_178_82 rfl
theorem pg_178_85 : mm_prog 178 85 = some (0, .iload_n 1, 86, []) := by decide +kernel
theorem xe_178_85 (a0 a2 : Option MV) (x : Int) (st : List MV) (μ : MM) (G : MG) : ev 178 85 [a0, some (vI x), a2] st μ G = ev 178 86 [a0, some (vI x), a2] (vI x :: st) μ G := ev_stp pg_178_85 rfl
theorem pg_178_86 : mm_prog 178 86 = some (0, .bipush 9, 88, []) := by decide +kernel
theorem xe_178_86 (a0 a1 a2 : Option MV) (st : List MV) (μ : MM) (G : MG) : ev 178 86 [a0, a1, a2] st μ G = ev 178 88 [a0, a1, a2] (vI (9) :: st) μ G := ev_stp pg_178_86 rfl
theorem pg_178_88 : mm_prog 178 88 = some (0, .isub, 89, []) := by decide +kernel
theorem xe_178_88 (a0 a1 a2 : Option MV) (x y : Int) (st : List MV) (μ : MM) (G : MG) : ev 178 88 [a0, a1, a2] (vI y :: vI x :: st) μ G = ev 178 89 [a0, a1, a2] (vI (w32 (x - y)) :: st) μ G := ev_stp pg_178_88 rfl
theorem pg_178_89 : mm_prog 178 89 = some (0, .iaload, 90, []) := by decide +kernel
theorem xe_178_89 (a0 a1 a2 : Option MV) (x y : Int) (st : List MV) (μ : MM) (G : MG) : ev 178 89 [a0, a1, a2] (vI x :: vR y :: st) μ G = if gk G y = 100 ∧ 0 ≤ x ∧ x < gl G y then ev 178 90 [a0, a1, a2] (vI (μ y x) :: st) μ G else none := ev_if pg_178_89 rfl
theorem pg_178_90 : mm_prog 178 90 = some (0, .goto 4, 93, []) := by decide +kernel
theorem xe_178_90 (a0 a1 a2 : Option MV) (st : List MV) (μ : MM) (G : MG) : ev 178 90 [a0, a1, a2] st μ G = ev 178 94 [a0, a1, a2] st μ G := ev_stp pg_178_90 rfl
theorem pg_178_93 : mm_prog 178 93 = some (0, .iconst (-1), 94, []) := by decide +kernel
theorem xe_178_93 (a0 a1 a2 : Option MV) (st : List MV) (μ : MM) (G : MG) : ev 178 93 [a0, a1, a2] st μ G = ev 178 94 [a0, a1, a2] (vI (-1) :: st) μ G := ev_stp pg_178_93 rfl
theorem pg_178_94 : mm_prog 178 94 = some (2, .ireturn, 95, [0]) := by decide +kernel
theorem xe_178_94 (a0 a1 a2 : Option MV) (x : Int) (μ : MM) (G : MG) : ev 178 94 [a0, a1, a2] [vI x] μ G = some (some (vI x), μ, G) := ev_ret pg_178_94 rfl
theorem pg_178_95 : mm_prog 178 95 = some (0, .sipush 256, 98, []) := by decide +kernel
theorem xe_178_95 (a0 a1 a2 : Option MV) (st : List MV) (μ : MM) (G : MG) : ev 178 95 [a0, a1, a2] st μ G = ev 178 98 [a0, a1, a2] (vI (256) :: st) μ G := ev_stp pg_178_95 rfl
theorem pg_178_98 : mm_prog 178 98 = some (0, .aload_n 0, 99, []) := by decide +kernel
theorem xe_178_98 (a1 a2 : Option MV) (x : Int) (st : List MV) (μ : MM) (G : MG) : ev 178 98 [some (vR x), a1, a2] st μ G = ev 178 99 [some (vR x), a1, a2] (vR x :: st) μ G := ev_stp pg_178_98 rfl
theorem pg_178_99 : mm_prog 178 99 = some (0, .bipush 8, 101, []) := by decide +kernel
theorem xe_178_99 (a0 a1 a2 : Option MV) (st : List MV) (μ : MM) (G : MG) : ev 178 99 [a0, a1, a2] st μ G = ev 178 101 [a0, a1, a2] (vI (8) :: st) μ G := ev_stp pg_178_99 rfl
theorem pg_178_101 : mm_prog 178 101 = some (1, .invokevirtual 140, 104, [1, 160, 1, 11]) := by decide +kernel
theorem xe_178_101 (a0 a1 a2 : Option MV) (x0 z r0 : Int) (μ : MM) (G : MG) : ev 178 101 [a0, a1, a2] (vI x0 :: vR z :: [vI r0]) μ G = if gk G z = 11 ∧ 0 < z then (ev 160 0 [some (vR z), some (vI x0)] [] μ G).bind (fun q => ev 178 104 [a0, a1, a2] (q.1.toList ++ [vI r0]) q.2.1 q.2.2) else none := ev_calV (as := [vR z, vI x0]) (r := [vI r0]) mx_160 pg_178_101 rfl rfl (Nat.le_of_ble_eq_true rfl) (Nat.le_of_ble_eq_true rfl)
theorem pg_178_104 : mm_prog 178 104 = some (0, .imul, 105, []) := by decide +kernel
theorem xe_178_104 (a0 a1 a2 : Option MV) (x y : Int) (st : List MV) (μ : MM) (G : MG) : ev 178 104 [a0, a1, a2] (vI y :: vI x :: st) μ G = ev 178 105 [a0, a1, a2] (vI (w32 (x * y)) :: st) μ G := ev_stp pg_178_104 rfl
theorem pg_178_105 : mm_prog 178 105 = some (0, .aload_n 0, 106, []) := by decide +kernel
theorem xe_178_105 (a1 a2 : Option MV) (x : Int) (st : List MV) (μ : MM) (G : MG) : ev 178 105 [some (vR x), a1, a2] st μ G = ev 178 106 [some (vR x), a1, a2] (vR x :: st) μ G := ev_stp pg_178_105 rfl
theorem pg_178_106 : mm_prog 178 106 = some (0, .bipush 9, 108, []) := by decide +kernel
theorem xe_178_106 (a0 a1 a2 : Option MV) (st : List MV) (μ : MM) (G : MG) : ev 178 106 [a0, a1, a2] st μ G = ev 178 108 [a0, a1, a2] (vI (9) :: st) μ G := ev_stp pg_178_106 rfl
theorem pg_178_108 : mm_prog 178 108 = some (1, .invokevirtual 140, 111, [1, 160, 1, 11]) := by decide +kernel
theorem xe_178_108 (a0 a1 a2 : Option MV) (x0 z r0 : Int) (μ : MM) (G : MG) : ev 178 108 [a0, a1, a2] (vI x0 :: vR z :: [vI r0]) μ G = if gk G z = 11 ∧ 0 < z then (ev 160 0 [some (vR z), some (vI x0)] [] μ G).bind (fun q => ev 178 111 [a0, a1, a2] (q.1.toList ++ [vI r0]) q.2.1 q.2.2) else none := ev_calV (as := [vR z, vI x0]) (r := [vI r0]) mx_160 pg_178_108 rfl rfl (Nat.le_of_ble_eq_true rfl) (Nat.le_of_ble_eq_true rfl)
theorem pg_178_111 : mm_prog 178 111 = some (0, .iadd, 112, []) := by decide +kernel
theorem xe_178_111 (a0 a1 a2 : Option MV) (x y : Int) (st : List MV) (μ : MM) (G : MG) : ev 178 111 [a0, a1, a2] (vI y :: vI x :: st) μ G = ev 178 112 [a0, a1, a2] (vI (w32 (x + y)) :: st) μ G := ev_stp pg_178_111 rfl
theorem pg_178_112 : mm_prog 178 112 = some (0, .istore_n 2, 113, []) := by decide +kernel
theorem xe_178_112 (a0 a1 a2 : Option MV) (x : Int) (st : List MV) (μ : MM) (G : MG) (h : mm_nL a1 = true) : ev 178 112 [a0, a1, a2] (vI x :: st) μ G = ev 178 113 [a0, a1, some (vI x)] st μ G := ev_st pg_178_112 rfl (mm_nl_of h) (Nat.le_of_ble_eq_true rfl)
theorem pg_178_113 : mm_prog 178 113 = some (0, .iload_n 1, 114, []) := by decide +kernel
theorem xe_178_113 (a0 a2 : Option MV) (x : Int) (st : List MV) (μ : MM) (G : MG) : ev 178 113 [a0, some (vI x), a2] st μ G = ev 178 114 [a0, some (vI x), a2] (vI x :: st) μ G := ev_stp pg_178_113 rfl
theorem pg_178_114 : mm_prog 178 114 = some (0, .tableswitch 155 0 15 #[78, 90, 101, 109, 116, 123, 130, 135, 140, 155, 155, 155, 155, 155, 145, 150], 192, [269, 0, 192, 1, 204, 2, 215, 3, 223, 4, 230, 5, 237, 6, 244, 7, 249, 8, 254, 9, 269, 10, 269, 11, 269, 12, 269, 13, 269, 14, 259, 15, 264]) := by decide +kernel
theorem xe_178_114 (a0 a1 a2 : Option MV) (x : Int) (st : List MV) (μ : MM) (G : MG) : ev 178 114 [a0, a1, a2] (vI x :: st) μ G = if x = 0 then ev 178 192 [a0, a1, a2] st μ G else if x = 1 then ev 178 204 [a0, a1, a2] st μ G else if x = 2 then ev 178 215 [a0, a1, a2] st μ G else if x = 3 then ev 178 223 [a0, a1, a2] st μ G else if x = 4 then ev 178 230 [a0, a1, a2] st μ G else if x = 5 then ev 178 237 [a0, a1, a2] st μ G else if x = 6 then ev 178 244 [a0, a1, a2] st μ G else if x = 7 then ev 178 249 [a0, a1, a2] st μ G else if x = 8 then ev 178 254 [a0, a1, a2] st μ G else if x = 9 then ev 178 269 [a0, a1, a2] st μ G else if x = 10 then ev 178 269 [a0, a1, a2] st μ G else if x = 11 then ev 178 269 [a0, a1, a2] st μ G else if x = 12 then ev 178 269 [a0, a1, a2] st μ G else if x = 13 then ev 178 269 [a0, a1, a2] st μ G else if x = 14 then ev 178 259 [a0, a1, a2] st μ G else if x = 15 then ev 178 264 [a0, a1, a2] st μ G else ev 178 269 [a0, a1, a2] st μ G := ev_sw (x := x) (d := 269) (l := [0, 192, 1, 204, 2, 215, 3, 223, 4, 230, 5, 237, 6, 244, 7, 249, 8, 254, 9, 269, 10, 269, 11, 269, 12, 269, 13, 269, 14, 259, 15, 264]) (st' := st) pg_178_114 rfl
theorem pg_178_192 : mm_prog 178 192 = some (0, .bipush 64, 194, []) := by decide +kernel
theorem xe_178_192 (a0 a1 a2 : Option MV) (st : List MV) (μ : MM) (G : MG) : ev 178 192 [a0, a1, a2] st μ G = ev 178 194 [a0, a1, a2] (vI (64) :: st) μ G := ev_stp pg_178_192 rfl
theorem pg_178_194 : mm_prog 178 194 = some (0, .iload_n 2, 195, []) := by decide +kernel
theorem xe_178_194 (a0 a1 : Option MV) (x : Int) (st : List MV) (μ : MM) (G : MG) : ev 178 194 [a0, a1, some (vI x)] st μ G = ev 178 195 [a0, a1, some (vI x)] (vI x :: st) μ G := ev_stp pg_178_194 rfl
theorem pg_178_195 : mm_prog 178 195 = some (0, .sipush 1024, 198, []) := by decide +kernel
theorem xe_178_195 (a0 a1 a2 : Option MV) (st : List MV) (μ : MM) (G : MG) : ev 178 195 [a0, a1, a2] st μ G = ev 178 198 [a0, a1, a2] (vI (1024) :: st) μ G := ev_stp pg_178_195 rfl
theorem pg_178_198 : mm_prog 178 198 = some (0, .idiv, 199, []) := by decide +kernel
theorem xe_178_198 (a0 a1 a2 : Option MV) (x y : Int) (st : List MV) (μ : MM) (G : MG) : ev 178 198 [a0, a1, a2] (vI y :: vI x :: st) μ G = if y = 0 then none else ev 178 199 [a0, a1, a2] (vI (mm_div x y) :: st) μ G := ev_no pg_178_198 rfl
theorem pg_178_199 : mm_prog 178 199 = some (0, .bipush 32, 201, []) := by decide +kernel
theorem xe_178_199 (a0 a1 a2 : Option MV) (st : List MV) (μ : MM) (G : MG) : ev 178 199 [a0, a1, a2] st μ G = ev 178 201 [a0, a1, a2] (vI (32) :: st) μ G := ev_stp pg_178_199 rfl
theorem pg_178_201 : mm_prog 178 201 = some (0, .irem, 202, []) := by decide +kernel
theorem xe_178_201 (a0 a1 a2 : Option MV) (x y : Int) (st : List MV) (μ : MM) (G : MG) : ev 178 201 [a0, a1, a2] (vI y :: vI x :: st) μ G = if y = 0 then none else ev 178 202 [a0, a1, a2] (vI (mm_rem x y) :: st) μ G := ev_no pg_178_201 rfl
theorem pg_178_202 : mm_prog 178 202 = some (0, .iadd, 203, []) := by decide +kernel
theorem xe_178_202 (a0 a1 a2 : Option MV) (x y : Int) (st : List MV) (μ : MM) (G : MG) : ev 178 202 [a0, a1, a2] (vI y :: vI x :: st) μ G = ev 178 203 [a0, a1, a2] (vI (w32 (x + y)) :: st) μ G := ev_stp pg_178_202 rfl
theorem pg_178_203 : mm_prog 178 203 = some (2, .ireturn, 204, [0]) := by decide +kernel
theorem xe_178_203 (a0 a1 a2 : Option MV) (x : Int) (μ : MM) (G : MG) : ev 178 203 [a0, a1, a2] [vI x] μ G = some (some (vI x), μ, G) := ev_ret pg_178_203 rfl
theorem pg_178_204 : mm_prog 178 204 = some (0, .bipush 64, 206, []) := by decide +kernel
theorem xe_178_204 (a0 a1 a2 : Option MV) (st : List MV) (μ : MM) (G : MG) : ev 178 204 [a0, a1, a2] st μ G = ev 178 206 [a0, a1, a2] (vI (64) :: st) μ G := ev_stp pg_178_204 rfl
theorem pg_178_206 : mm_prog 178 206 = some (0, .iload_n 2, 207, []) := by decide +kernel
theorem xe_178_206 (a0 a1 : Option MV) (x : Int) (st : List MV) (μ : MM) (G : MG) : ev 178 206 [a0, a1, some (vI x)] st μ G = ev 178 207 [a0, a1, some (vI x)] (vI x :: st) μ G := ev_stp pg_178_206 rfl
theorem pg_178_207 : mm_prog 178 207 = some (0, .bipush 32, 209, []) := by decide +kernel
theorem xe_178_207 (a0 a1 a2 : Option MV) (st : List MV) (μ : MM) (G : MG) : ev 178 207 [a0, a1, a2] st μ G = ev 178 209 [a0, a1, a2] (vI (32) :: st) μ G := ev_stp pg_178_207 rfl
theorem pg_178_209 : mm_prog 178 209 = some (0, .idiv, 210, []) := by decide +kernel
theorem xe_178_209 (a0 a1 a2 : Option MV) (x y : Int) (st : List MV) (μ : MM) (G : MG) : ev 178 209 [a0, a1, a2] (vI y :: vI x :: st) μ G = if y = 0 then none else ev 178 210 [a0, a1, a2] (vI (mm_div x y) :: st) μ G := ev_no pg_178_209 rfl
theorem pg_178_210 : mm_prog 178 210 = some (0, .bipush 32, 212, []) := by decide +kernel
theorem xe_178_210 (a0 a1 a2 : Option MV) (st : List MV) (μ : MM) (G : MG) : ev 178 210 [a0, a1, a2] st μ G = ev 178 212 [a0, a1, a2] (vI (32) :: st) μ G := ev_stp pg_178_210 rfl
theorem pg_178_212 : mm_prog 178 212 = some (0, .irem, 213, []) := by decide +kernel
theorem xe_178_212 (a0 a1 a2 : Option MV) (x y : Int) (st : List MV) (μ : MM) (G : MG) : ev 178 212 [a0, a1, a2] (vI y :: vI x :: st) μ G = if y = 0 then none else ev 178 213 [a0, a1, a2] (vI (mm_rem x y) :: st) μ G := ev_no pg_178_212 rfl
theorem pg_178_213 : mm_prog 178 213 = some (0, .iadd, 214, []) := by decide +kernel
theorem xe_178_213 (a0 a1 a2 : Option MV) (x y : Int) (st : List MV) (μ : MM) (G : MG) : ev 178 213 [a0, a1, a2] (vI y :: vI x :: st) μ G = ev 178 214 [a0, a1, a2] (vI (w32 (x + y)) :: st) μ G := ev_stp pg_178_213 rfl
theorem pg_178_214 : mm_prog 178 214 = some (2, .ireturn, 215, [0]) := by decide +kernel
theorem xe_178_214 (a0 a1 a2 : Option MV) (x : Int) (μ : MM) (G : MG) : ev 178 214 [a0, a1, a2] [vI x] μ G = some (some (vI x), μ, G) := ev_ret pg_178_214 rfl
theorem pg_178_215 : mm_prog 178 215 = some (0, .bipush 64, 217, []) := by decide +kernel
theorem xe_178_215 (a0 a1 a2 : Option MV) (st : List MV) (μ : MM) (G : MG) : ev 178 215 [a0, a1, a2] st μ G = ev 178 217 [a0, a1, a2] (vI (64) :: st) μ G := ev_stp pg_178_215 rfl
theorem pg_178_217 : mm_prog 178 217 = some (0, .iload_n 2, 218, []) := by decide +kernel
theorem xe_178_217 (a0 a1 : Option MV) (x : Int) (st : List MV) (μ : MM) (G : MG) : ev 178 217 [a0, a1, some (vI x)] st μ G = ev 178 218 [a0, a1, some (vI x)] (vI x :: st) μ G := ev_stp pg_178_217 rfl
theorem pg_178_218 : mm_prog 178 218 = some (0, .bipush 32, 220, []) := by decide +kernel
theorem xe_178_218 (a0 a1 a2 : Option MV) (st : List MV) (μ : MM) (G : MG) : ev 178 218 [a0, a1, a2] st μ G = ev 178 220 [a0, a1, a2] (vI (32) :: st) μ G := ev_stp pg_178_218 rfl
theorem pg_178_220 : mm_prog 178 220 = some (0, .irem, 221, []) := by decide +kernel
theorem xe_178_220 (a0 a1 a2 : Option MV) (x y : Int) (st : List MV) (μ : MM) (G : MG) : ev 178 220 [a0, a1, a2] (vI y :: vI x :: st) μ G = if y = 0 then none else ev 178 221 [a0, a1, a2] (vI (mm_rem x y) :: st) μ G := ev_no pg_178_220 rfl
theorem pg_178_221 : mm_prog 178 221 = some (0, .iadd, 222, []) := by decide +kernel
theorem xe_178_221 (a0 a1 a2 : Option MV) (x y : Int) (st : List MV) (μ : MM) (G : MG) : ev 178 221 [a0, a1, a2] (vI y :: vI x :: st) μ G = ev 178 222 [a0, a1, a2] (vI (w32 (x + y)) :: st) μ G := ev_stp pg_178_221 rfl
theorem pg_178_222 : mm_prog 178 222 = some (2, .ireturn, 223, [0]) := by decide +kernel
theorem xe_178_222 (a0 a1 a2 : Option MV) (x : Int) (μ : MM) (G : MG) : ev 178 222 [a0, a1, a2] [vI x] μ G = some (some (vI x), μ, G) := ev_ret pg_178_222 rfl
theorem pg_178_223 : mm_prog 178 223 = some (0, .aload_n 0, 224, []) := by decide +kernel
theorem xe_178_223 (a1 a2 : Option MV) (x : Int) (st : List MV) (μ : MM) (G : MG) : ev 178 223 [some (vR x), a1, a2] st μ G = ev 178 224 [some (vR x), a1, a2] (vR x :: st) μ G := ev_stp pg_178_223 rfl
theorem pg_178_224 : mm_prog 178 224 = some (0, .bipush 21, 226, []) := by decide +kernel
theorem xe_178_224 (a0 a1 a2 : Option MV) (st : List MV) (μ : MM) (G : MG) : ev 178 224 [a0, a1, a2] st μ G = ev 178 226 [a0, a1, a2] (vI (21) :: st) μ G := ev_stp pg_178_224 rfl
theorem pg_178_226 : mm_prog 178 226 = some (1, .invokevirtual 140, 229, [1, 160, 1, 11]) := by decide +kernel
theorem xe_178_226 (a0 a1 a2 : Option MV) (x0 z : Int) (μ : MM) (G : MG) : ev 178 226 [a0, a1, a2] (vI x0 :: vR z :: []) μ G = if gk G z = 11 ∧ 0 < z then (ev 160 0 [some (vR z), some (vI x0)] [] μ G).bind (fun q => ev 178 229 [a0, a1, a2] (q.1.toList ++ []) q.2.1 q.2.2) else none := ev_calV (as := [vR z, vI x0]) (r := []) mx_160 pg_178_226 rfl rfl (Nat.le_of_ble_eq_true rfl) (Nat.le_of_ble_eq_true rfl)
theorem pg_178_229 : mm_prog 178 229 = some (2, .ireturn, 230, [0]) := by decide +kernel
theorem xe_178_229 (a0 a1 a2 : Option MV) (x : Int) (μ : MM) (G : MG) : ev 178 229 [a0, a1, a2] [vI x] μ G = some (some (vI x), μ, G) := ev_ret pg_178_229 rfl
theorem pg_178_230 : mm_prog 178 230 = some (0, .aload_n 0, 231, []) := by decide +kernel
theorem xe_178_230 (a1 a2 : Option MV) (x : Int) (st : List MV) (μ : MM) (G : MG) : ev 178 230 [some (vR x), a1, a2] st μ G = ev 178 231 [some (vR x), a1, a2] (vR x :: st) μ G := ev_stp pg_178_230 rfl
theorem pg_178_231 : mm_prog 178 231 = some (0, .bipush 22, 233, []) := by decide +kernel
theorem xe_178_231 (a0 a1 a2 : Option MV) (st : List MV) (μ : MM) (G : MG) : ev 178 231 [a0, a1, a2] st μ G = ev 178 233 [a0, a1, a2] (vI (22) :: st) μ G := ev_stp pg_178_231 rfl
theorem pg_178_233 : mm_prog 178 233 = some (1, .invokevirtual 140, 236, [1, 160, 1, 11]) := by decide +kernel
theorem xe_178_233 (a0 a1 a2 : Option MV) (x0 z : Int) (μ : MM) (G : MG) : ev 178 233 [a0, a1, a2] (vI x0 :: vR z :: []) μ G = if gk G z = 11 ∧ 0 < z then (ev 160 0 [some (vR z), some (vI x0)] [] μ G).bind (fun q => ev 178 236 [a0, a1, a2] (q.1.toList ++ []) q.2.1 q.2.2) else none := ev_calV (as := [vR z, vI x0]) (r := []) mx_160 pg_178_233 rfl rfl (Nat.le_of_ble_eq_true rfl) (Nat.le_of_ble_eq_true rfl)
theorem pg_178_236 : mm_prog 178 236 = some (2, .ireturn, 237, [0]) := by decide +kernel
theorem xe_178_236 (a0 a1 a2 : Option MV) (x : Int) (μ : MM) (G : MG) : ev 178 236 [a0, a1, a2] [vI x] μ G = some (some (vI x), μ, G) := ev_ret pg_178_236 rfl
theorem pg_178_237 : mm_prog 178 237 = some (0, .aload_n 0, 238, []) := by decide +kernel
theorem xe_178_237 (a1 a2 : Option MV) (x : Int) (st : List MV) (μ : MM) (G : MG) : ev 178 237 [some (vR x), a1, a2] st μ G = ev 178 238 [some (vR x), a1, a2] (vR x :: st) μ G := ev_stp pg_178_237 rfl
theorem pg_178_238 : mm_prog 178 238 = some (0, .getfield 128, 241, [11, 6, 0]) := by decide +kernel
theorem xe_178_238 (a0 a1 a2 : Option MV) (x : Int) (st : List MV) (μ : MM) (G : MG) : ev 178 238 [a0, a1, a2] (vR x :: st) μ G = if gk G x = 11 then ev 178 241 [a0, a1, a2] (vI (μ x 6) :: st) μ G else none := ev_if pg_178_238 rfl
theorem pg_178_241 : mm_prog 178 241 = some (0, .iconst 1, 242, []) := by decide +kernel
theorem xe_178_241 (a0 a1 a2 : Option MV) (st : List MV) (μ : MM) (G : MG) : ev 178 241 [a0, a1, a2] st μ G = ev 178 242 [a0, a1, a2] (vI (1) :: st) μ G := ev_stp pg_178_241 rfl
theorem pg_178_242 : mm_prog 178 242 = some (0, .isub, 243, []) := by decide +kernel
theorem xe_178_242 (a0 a1 a2 : Option MV) (x y : Int) (st : List MV) (μ : MM) (G : MG) : ev 178 242 [a0, a1, a2] (vI y :: vI x :: st) μ G = ev 178 243 [a0, a1, a2] (vI (w32 (x - y)) :: st) μ G := ev_stp pg_178_242 rfl
theorem pg_178_243 : mm_prog 178 243 = some (2, .ireturn, 244, [0]) := by decide +kernel
theorem xe_178_243 (a0 a1 a2 : Option MV) (x : Int) (μ : MM) (G : MG) : ev 178 243 [a0, a1, a2] [vI x] μ G = some (some (vI x), μ, G) := ev_ret pg_178_243 rfl
theorem pg_178_244 : mm_prog 178 244 = some (0, .aload_n 0, 245, []) := by decide +kernel
theorem xe_178_244 (a1 a2 : Option MV) (x : Int) (st : List MV) (μ : MM) (G : MG) : ev 178 244 [some (vR x), a1, a2] st μ G = ev 178 245 [some (vR x), a1, a2] (vR x :: st) μ G := ev_stp pg_178_244 rfl
theorem pg_178_245 : mm_prog 178 245 = some (0, .getfield 137, 248, [11, 13, 0]) := by decide +kernel
theorem xe_178_245 (a0 a1 a2 : Option MV) (x : Int) (st : List MV) (μ : MM) (G : MG) : ev 178 245 [a0, a1, a2] (vR x :: st) μ G = if gk G x = 11 then ev 178 248 [a0, a1, a2] (vI (μ x 13) :: st) μ G else none := ev_if pg_178_245 rfl
theorem pg_178_248 : mm_prog 178 248 = some (2, .ireturn, 249, [0]) := by decide +kernel
theorem xe_178_248 (a0 a1 a2 : Option MV) (x : Int) (μ : MM) (G : MG) : ev 178 248 [a0, a1, a2] [vI x] μ G = some (some (vI x), μ, G) := ev_ret pg_178_248 rfl
theorem pg_178_249 : mm_prog 178 249 = some (0, .aload_n 0, 250, []) := by decide +kernel
theorem xe_178_249 (a1 a2 : Option MV) (x : Int) (st : List MV) (μ : MM) (G : MG) : ev 178 249 [some (vR x), a1, a2] st μ G = ev 178 250 [some (vR x), a1, a2] (vR x :: st) μ G := ev_stp pg_178_249 rfl
theorem pg_178_250 : mm_prog 178 250 = some (0, .getfield 158, 253, [11, 16, 0]) := by decide +kernel
theorem xe_178_250 (a0 a1 a2 : Option MV) (x : Int) (st : List MV) (μ : MM) (G : MG) : ev 178 250 [a0, a1, a2] (vR x :: st) μ G = if gk G x = 11 then ev 178 253 [a0, a1, a2] (vI (μ x 16) :: st) μ G else none := ev_if pg_178_250 rfl
theorem pg_178_253 : mm_prog 178 253 = some (2, .ireturn, 254, [0]) := by decide +kernel
theorem xe_178_253 (a0 a1 a2 : Option MV) (x : Int) (μ : MM) (G : MG) : ev 178 253 [a0, a1, a2] [vI x] μ G = some (some (vI x), μ, G) := ev_ret pg_178_253 rfl
theorem pg_178_254 : mm_prog 178 254 = some (0, .aload_n 0, 255, []) := by decide +kernel
theorem xe_178_254 (a1 a2 : Option MV) (x : Int) (st : List MV) (μ : MM) (G : MG) : ev 178 254 [some (vR x), a1, a2] st μ G = ev 178 255 [some (vR x), a1, a2] (vR x :: st) μ G := ev_stp pg_178_254 rfl
theorem pg_178_255 : mm_prog 178 255 = some (0, .getfield 161, 258, [11, 17, 0]) := by decide +kernel
theorem xe_178_255 (a0 a1 a2 : Option MV) (x : Int) (st : List MV) (μ : MM) (G : MG) : ev 178 255 [a0, a1, a2] (vR x :: st) μ G = if gk G x = 11 then ev 178 258 [a0, a1, a2] (vI (μ x 17) :: st) μ G else none := ev_if pg_178_255 rfl
theorem pg_178_258 : mm_prog 178 258 = some (2, .ireturn, 259, [0]) := by decide +kernel
theorem xe_178_258 (a0 a1 a2 : Option MV) (x : Int) (μ : MM) (G : MG) : ev 178 258 [a0, a1, a2] [vI x] μ G = some (some (vI x), μ, G) := ev_ret pg_178_258 rfl
theorem pg_178_259 : mm_prog 178 259 = some (0, .aload_n 0, 260, []) := by decide +kernel
theorem xe_178_259 (a1 a2 : Option MV) (x : Int) (st : List MV) (μ : MM) (G : MG) : ev 178 259 [some (vR x), a1, a2] st μ G = ev 178 260 [some (vR x), a1, a2] (vR x :: st) μ G := ev_stp pg_178_259 rfl
theorem pg_178_260 : mm_prog 178 260 = some (0, .getfield 164, 263, [11, 15, 0]) := by decide +kernel
theorem xe_178_260 (a0 a1 a2 : Option MV) (x : Int) (st : List MV) (μ : MM) (G : MG) : ev 178 260 [a0, a1, a2] (vR x :: st) μ G = if gk G x = 11 then ev 178 263 [a0, a1, a2] (vI (μ x 15) :: st) μ G else none := ev_if pg_178_260 rfl
theorem pg_178_263 : mm_prog 178 263 = some (2, .ireturn, 264, [0]) := by decide +kernel
theorem xe_178_263 (a0 a1 a2 : Option MV) (x : Int) (μ : MM) (G : MG) : ev 178 263 [a0, a1, a2] [vI x] μ G = some (some (vI x), μ, G) := ev_ret pg_178_263 rfl
theorem pg_178_264 : mm_prog 178 264 = some (0, .aload_n 0, 265, []) := by decide +kernel
theorem xe_178_264 (a1 a2 : Option MV) (x : Int) (st : List MV) (μ : MM) (G : MG) : ev 178 264 [some (vR x), a1, a2] st μ G = ev 178 265 [some (vR x), a1, a2] (vR x :: st) μ G := ev_stp pg_178_264 rfl
theorem pg_178_265 : mm_prog 178 265 = some (0, .getfield 147, 268, [11, 14, 0]) := by decide +kernel
theorem xe_178_265 (a0 a1 a2 : Option MV) (x : Int) (st : List MV) (μ : MM) (G : MG) : ev 178 265 [a0, a1, a2] (vR x :: st) μ G = if gk G x = 11 then ev 178 268 [a0, a1, a2] (vI (μ x 14) :: st) μ G else none := ev_if pg_178_265 rfl
theorem pg_178_268 : mm_prog 178 268 = some (2, .ireturn, 269, [0]) := by decide +kernel
theorem xe_178_268 (a0 a1 a2 : Option MV) (x : Int) (μ : MM) (G : MG) : ev 178 268 [a0, a1, a2] [vI x] μ G = some (some (vI x), μ, G) := ev_ret pg_178_268 rfl
theorem pg_178_269 : mm_prog 178 269 = some (0, .aload_n 0, 270, []) := by decide +kernel
theorem xe_178_269 (a1 a2 : Option MV) (x : Int) (st : List MV) (μ : MM) (G : MG) : ev 178 269 [some (vR x), a1, a2] st μ G = ev 178 270 [some (vR x), a1, a2] (vR x :: st) μ G := ev_stp pg_178_269 rfl
theorem pg_178_270 : mm_prog 178 270 = some (0, .getfield 134, 273, [11, 23, 0]) := by decide +kernel
theorem xe_178_270 (a0 a1 a2 : Option MV) (x : Int) (st : List MV) (μ : MM) (G : MG) : ev 178 270 [a0, a1, a2] (vR x :: st) μ G = if gk G x = 11 then ev 178 273 [a0, a1, a2] (vI (μ x 23) :: st) μ G else none := ev_if pg_178_270 rfl
theorem pg_178_273 : mm_prog 178 273 = some (2, .ireturn, 274, [0]) := by decide +kernel
theorem xe_178_273 (a0 a1 a2 : Option MV) (x : Int) (μ : MM) (G : MG) : ev 178 273 [a0, a1, a2] [vI x] μ G = some (some (vI x), μ, G) := ev_ret pg_178_273 rfl
-- X11_name
theorem pg_179_0 : mm_prog 179 0 = some (0, .aload_n 0, 1, []) := by decide +kernel
theorem xe_179_0 (a1 : Option MV) (x : Int) (st : List MV) (μ : MM) (G : MG) : ev 179 0 [some (vR x), a1] st μ G = ev 179 1 [some (vR x), a1] (vR x :: st) μ G := ev_stp pg_179_0 rfl
theorem pg_179_1 : mm_prog 179 1 = some (0, .iconst 0, 2, []) := by decide +kernel
theorem xe_179_1 (a0 a1 : Option MV) (st : List MV) (μ : MM) (G : MG) : ev 179 1 [a0, a1] st μ G = ev 179 2 [a0, a1] (vI (0) :: st) μ G := ev_stp pg_179_1 rfl
theorem pg_179_2 : mm_prog 179 2 = some (0, .putfield 1, 5, [11, 0, 0]) := by decide +kernel
theorem xe_179_2 (a0 a1 : Option MV) (x y : Int) (st : List MV) (μ : MM) (G : MG) : ev 179 2 [a0, a1] (vI x :: vR y :: st) μ G = if gk G y = 11 then ev 179 5 [a0, a1] st (mset μ y 0 x) G else none := ev_put0 pg_179_2
theorem pg_179_5 : mm_prog 179 5 = some (0, .iload_n 1, 6, []) := by decide +kernel
theorem xe_179_5 (a0 : Option MV) (x : Int) (st : List MV) (μ : MM) (G : MG) : ev 179 5 [a0, some (vI x)] st μ G = ev 179 6 [a0, some (vI x)] (vI x :: st) μ G := ev_stp pg_179_5 rfl
theorem pg_179_6 : mm_prog 179 6 = some (0, .ifCond .ge 6, 9, []) := by decide +kernel
theorem xe_179_6 (a0 a1 : Option MV) (x : Int) (st : List MV) (μ : MM) (G : MG) : ev 179 6 [a0, a1] (vI x :: st) μ G = if 0 ≤ x then ev 179 12 [a0, a1] st μ G else ev 179 9 [a0, a1] st μ G := ev_br (mm_cnd_ge x 0) pg_179_6 rfl
theorem pg_179_9 : mm_prog 179 9 = some (0, .bipush (-3), 11, []) := by decide +kernel
theorem xe_179_9 (a0 a1 : Option MV) (st : List MV) (μ : MM) (G : MG) : ev 179 9 [a0, a1] st μ G = ev 179 11 [a0, a1] (vI (-3) :: st) μ G := ev_stp pg_179_9 rfl
theorem pg_179_11 : mm_prog 179 11 = some (2, .ireturn, 12, [0]) := by decide +kernel
theorem xe_179_11 (a0 a1 : Option MV) (x : Int) (μ : MM) (G : MG) : ev 179 11 [a0, a1] [vI x] μ G = some (some (vI x), μ, G) := ev_ret pg_179_11 rfl
theorem pg_179_12 : mm_prog 179 12 = some (0, .iload_n 1, 13, []) := by decide +kernel
theorem xe_179_12 (a0 : Option MV) (x : Int) (st : List MV) (μ : MM) (G : MG) : ev 179 12 [a0, some (vI x)] st μ G = ev 179 13 [a0, some (vI x)] (vI x :: st) μ G := ev_stp pg_179_12 rfl
theorem pg_179_13 : mm_prog 179 13 = some (0, .aload_n 0, 14, []) := by decide +kernel
theorem xe_179_13 (a1 : Option MV) (x : Int) (st : List MV) (μ : MM) (G : MG) : ev 179 13 [some (vR x), a1] st μ G = ev 179 14 [some (vR x), a1] (vR x :: st) μ G := ev_stp pg_179_13 rfl
theorem pg_179_14 : mm_prog 179 14 = some (0, .getfield 147, 17, [11, 14, 0]) := by decide +kernel
theorem xe_179_14 (a0 a1 : Option MV) (x : Int) (st : List MV) (μ : MM) (G : MG) : ev 179 14 [a0, a1] (vR x :: st) μ G = if gk G x = 11 then ev 179 17 [a0, a1] (vI (μ x 14) :: st) μ G else none := ev_if pg_179_14 rfl
theorem pg_179_17 : mm_prog 179 17 = some (0, .if_icmp .ge 12, 20, []) := by decide +kernel
theorem xe_179_17 (a0 a1 : Option MV) (x y : Int) (st : List MV) (μ : MM) (G : MG) : ev 179 17 [a0, a1] (vI y :: vI x :: st) μ G = if y ≤ x then ev 179 29 [a0, a1] st μ G else ev 179 20 [a0, a1] st μ G := ev_br (mm_cnd_ge x y) pg_179_17 rfl
theorem pg_179_20 : mm_prog 179 20 = some (0, .aload_n 0, 21, []) := by decide +kernel
theorem xe_179_20 (a1 : Option MV) (x : Int) (st : List MV) (μ : MM) (G : MG) : ev 179 20 [some (vR x), a1] st μ G = ev 179 21 [some (vR x), a1] (vR x :: st) μ G := ev_stp pg_179_20 rfl
theorem pg_179_21 : mm_prog 179 21 = some (0, .getfield 29, 24, [11, 10, 2]) := by decide +kernel
theorem xe_179_21 (a0 a1 : Option MV) (x : Int) (st : List MV) (μ : MM) (G : MG) : ev 179 21 [a0, a1] (vR x :: st) μ G = if gk G x = 11 then ev 179 24 [a0, a1] (vR (μ x 10) :: st) μ G else none := ev_if pg_179_21 rfl
theorem pg_179_24 : mm_prog 179 24 = some (0, .iload_n 1, 25, []) := by decide +kernel
theorem xe_179_24 (a0 : Option MV) (x : Int) (st : List MV) (μ : MM) (G : MG) : ev 179 24 [a0, some (vI x)] st μ G = ev 179 25 [a0, some (vI x)] (vI x :: st) μ G := ev_stp pg_179_24 rfl
theorem pg_179_25 : mm_prog 179 25 = some (0, .iaload, 26, []) := by decide +kernel
theorem xe_179_25 (a0 a1 : Option MV) (x y : Int) (st : List MV) (μ : MM) (G : MG) : ev 179 25 [a0, a1] (vI x :: vR y :: st) μ G = if gk G y = 100 ∧ 0 ≤ x ∧ x < gl G y then ev 179 26 [a0, a1] (vI (μ y x) :: st) μ G else none := ev_if pg_179_25 rfl
theorem pg_179_26 : mm_prog 179 26 = some (0, .goto 4, 29, []) := by decide +kernel
theorem xe_179_26 (a0 a1 : Option MV) (st : List MV) (μ : MM) (G : MG) : ev 179 26 [a0, a1] st μ G = ev 179 30 [a0, a1] st μ G := ev_stp pg_179_26 rfl
theorem pg_179_29 : mm_prog 179 29 = some (0, .iconst (-1), 30, []) := by decide +kernel
theorem xe_179_29 (a0 a1 : Option MV) (st : List MV) (μ : MM) (G : MG) : ev 179 29 [a0, a1] st μ G = ev 179 30 [a0, a1] (vI (-1) :: st) μ G := ev_stp pg_179_29 rfl
theorem pg_179_30 : mm_prog 179 30 = some (2, .ireturn, 31, [0]) := by decide +kernel
theorem xe_179_30 (a0 a1 : Option MV) (x : Int) (μ : MM) (G : MG) : ev 179 30 [a0, a1] [vI x] μ G = some (some (vI x), μ, G) := ev_ret pg_179_30 rfl
-- X11_detailed
theorem pg_180_0 : mm_prog 180 0 = some (0, .aload_n 0, 1, []) := by decide +kernel
theorem xe_180_0 (a1 a2 : Option MV) (x : Int) (st : List MV) (μ : MM) (G : MG) : ev 180 0 [some (vR x), a1, a2] st μ G = ev 180 1 [some (vR x), a1, a2] (vR x :: st) μ G := ev_stp pg_180_0 rfl
theorem pg_180_1 : mm_prog 180 1 = some (0, .iconst 0, 2, []) := by decide +kernel
theorem xe_180_1 (a0 a1 a2 : Option MV) (st : List MV) (μ : MM) (G : MG) : ev 180 1 [a0, a1, a2] st μ G = ev 180 2 [a0, a1, a2] (vI (0) :: st) μ G := ev_stp pg_180_1 rfl
theorem pg_180_2 : mm_prog 180 2 = some (0, .putfield 1, 5, [11, 0, 0]) := by decide +kernel
theorem xe_180_2 (a0 a1 a2 : Option MV) (x y : Int) (st : List MV) (μ : MM) (G : MG) : ev 180 2 [a0, a1, a2] (vI x :: vR y :: st) μ G = if gk G y = 11 then ev 180 5 [a0, a1, a2] st (mset μ y 0 x) G else none := ev_put0 pg_180_2
theorem pg_180_5 : mm_prog 180 5 = some (0, .iload_n 1, 6, []) := by decide +kernel
theorem xe_180_5 (a0 a2 : Option MV) (x : Int) (st : List MV) (μ : MM) (G : MG) : ev 180 5 [a0, some (vI x), a2] st μ G = ev 180 6 [a0, some (vI x), a2] (vI x :: st) μ G := ev_stp pg_180_5 rfl
theorem pg_180_6 : mm_prog 180 6 = some (0, .i2l, 7, []) := by decide +kernel
theorem xe_180_6 (a0 a1 a2 : Option MV) (x : Int) (st : List MV) (μ : MM) (G : MG) : ev 180 6 [a0, a1, a2] (vI x :: st) μ G = ev 180 7 [a0, a1, a2] (vL x :: st) μ G := ev_stp pg_180_6 rfl
theorem pg_180_7 : mm_prog 180 7 = some (0, .lconst 0, 8, []) := by decide +kernel
theorem xe_180_7 (a0 a1 a2 : Option MV) (st : List MV) (μ : MM) (G : MG) : ev 180 7 [a0, a1, a2] st μ G = ev 180 8 [a0, a1, a2] (vL 0 :: st) μ G := ev_stp pg_180_7 rfl
theorem pg_180_8 : mm_prog 180 8 = some (0, .aload_n 0, 9, []) := by decide +kernel
theorem xe_180_8 (a1 a2 : Option MV) (x : Int) (st : List MV) (μ : MM) (G : MG) : ev 180 8 [some (vR x), a1, a2] st μ G = ev 180 9 [some (vR x), a1, a2] (vR x :: st) μ G := ev_stp pg_180_8 rfl
theorem pg_180_9 : mm_prog 180 9 = some (0, .getfield 137, 12, [11, 13, 0]) := by decide +kernel
theorem xe_180_9 (a0 a1 a2 : Option MV) (x : Int) (st : List MV) (μ : MM) (G : MG) : ev 180 9 [a0, a1, a2] (vR x :: st) μ G = if gk G x = 11 then ev 180 12 [a0, a1, a2] (vI (μ x 13) :: st) μ G else none := ev_if pg_180_9 rfl
theorem pg_180_12 : mm_prog 180 12 = some (0, .iconst 1, 13, []) := by decide +kernel
theorem xe_180_12 (a0 a1 a2 : Option MV) (st : List MV) (μ : MM) (G : MG) : ev 180 12 [a0, a1, a2] st μ G = ev 180 13 [a0, a1, a2] (vI (1) :: st) μ G := ev_stp pg_180_12 rfl
theorem pg_180_13 : mm_prog 180 13 = some (0, .isub, 14, []) := by decide +kernel
theorem xe_180_13 (a0 a1 a2 : Option MV) (x y : Int) (st : List MV) (μ : MM) (G : MG) : ev 180 13 [a0, a1, a2] (vI y :: vI x :: st) μ G = ev 180 14 [a0, a1, a2] (vI (w32 (x - y)) :: st) μ G := ev_stp pg_180_13 rfl
theorem pg_180_14 : mm_prog 180 14 = some (0, .i2l, 15, []) := by decide +kernel
theorem xe_180_14 (a0 a1 a2 : Option MV) (x : Int) (st : List MV) (μ : MM) (G : MG) : ev 180 14 [a0, a1, a2] (vI x :: st) μ G = ev 180 15 [a0, a1, a2] (vL x :: st) μ G := ev_stp pg_180_14 rfl
theorem pg_180_15 : mm_prog 180 15 = some (1, .invokestatic 107, 18, [0, 148, 3, 0]) := by decide +kernel
theorem xe_180_15 (a0 a1 a2 : Option MV) (x0 x1 x2 : Int) (μ : MM) (G : MG) : ev 180 15 [a0, a1, a2] (vL x2 :: vL x1 :: vL x0 :: []) μ G = (ev 148 0 [some (vL x0), none, some (vL x1), none, some (vL x2), none] [] μ G).bind (fun q => ev 180 18 [a0, a1, a2] (q.1.toList ++ []) q.2.1 q.2.2) := ev_calS (as := [vL x0, vL x1, vL x2]) (r := []) mx_148 pg_180_15 rfl rfl (Nat.le_of_ble_eq_true rfl) (Nat.le_of_ble_eq_true rfl)
theorem pg_180_18 : mm_prog 180 18 = some (0, .ifCond .eq 29, 21, []) := by decide +kernel
theorem xe_180_18 (a0 a1 a2 : Option MV) (x : Int) (st : List MV) (μ : MM) (G : MG) : ev 180 18 [a0, a1, a2] (vI x :: st) μ G = if x = 0 then ev 180 47 [a0, a1, a2] st μ G else ev 180 21 [a0, a1, a2] st μ G := ev_br (mm_cnd_eq x 0) pg_180_18 rfl
theorem pg_180_21 : mm_prog 180 21 = some (0, .iload_n 2, 22, []) := by decide +kernel
theorem xe_180_21 (a0 a1 : Option MV) (x : Int) (st : List MV) (μ : MM) (G : MG) : ev 180 21 [a0, a1, some (vI x)] st μ G = ev 180 22 [a0, a1, some (vI x)] (vI x :: st) μ G := ev_stp pg_180_21 rfl
theorem pg_180_22 : mm_prog 180 22 = some (0, .i2l, 23, []) := by decide +kernel
theorem xe_180_22 (a0 a1 a2 : Option MV) (x : Int) (st : List MV) (μ : MM) (G : MG) : ev 180 22 [a0, a1, a2] (vI x :: st) μ G = ev 180 23 [a0, a1, a2] (vL x :: st) μ G := ev_stp pg_180_22 rfl
theorem pg_180_23 : mm_prog 180 23 = some (0, .lconst 0, 24, []) := by decide +kernel
theorem xe_180_23 (a0 a1 a2 : Option MV) (st : List MV) (μ : MM) (G : MG) : ev 180 23 [a0, a1, a2] st μ G = ev 180 24 [a0, a1, a2] (vL 0 :: st) μ G := ev_stp pg_180_23 rfl
theorem pg_180_24 : mm_prog 180 24 = some (0, .ldc2_w 237, 27, [10]) := by decide +kernel
theorem xe_180_24 (a0 a1 a2 : Option MV) (st : List MV) (μ : MM) (G : MG) : ev 180 24 [a0, a1, a2] st μ G = ev 180 27 [a0, a1, a2] (vL (10) :: st) μ G := ev_stp pg_180_24 rfl
theorem pg_180_27 : mm_prog 180 27 = some (1, .invokestatic 107, 30, [0, 148, 3, 0]) := by decide +kernel
theorem xe_180_27 (a0 a1 a2 : Option MV) (x0 x1 x2 : Int) (μ : MM) (G : MG) : ev 180 27 [a0, a1, a2] (vL x2 :: vL x1 :: vL x0 :: []) μ G = (ev 148 0 [some (vL x0), none, some (vL x1), none, some (vL x2), none] [] μ G).bind (fun q => ev 180 30 [a0, a1, a2] (q.1.toList ++ []) q.2.1 q.2.2) := ev_calS (as := [vL x0, vL x1, vL x2]) (r := []) mx_148 pg_180_27 rfl rfl (Nat.le_of_ble_eq_true rfl) (Nat.le_of_ble_eq_true rfl)
theorem pg_180_30 : mm_prog 180 30 = some (0, .ifCond .eq 17, 33, []) := by decide +kernel
theorem xe_180_30 (a0 a1 a2 : Option MV) (x : Int) (st : List MV) (μ : MM) (G : MG) : ev 180 30 [a0, a1, a2] (vI x :: st) μ G = if x = 0 then ev 180 47 [a0, a1, a2] st μ G else ev 180 33 [a0, a1, a2] st μ G := ev_br (mm_cnd_eq x 0) pg_180_30 rfl
theorem pg_180_33 : mm_prog 180 33 = some (0, .aload_n 0, 34, []) := by decide +kernel
theorem xe_180_33 (a1 a2 : Option MV) (x : Int) (st : List MV) (μ : MM) (G : MG) : ev 180 33 [some (vR x), a1, a2] st μ G = ev 180 34 [some (vR x), a1, a2] (vR x :: st) μ G := ev_stp pg_180_33 rfl
theorem pg_180_34 : mm_prog 180 34 = some (0, .getfield 26, 37, [11, 9, 2]) := by decide +kernel
theorem xe_180_34 (a0 a1 a2 : Option MV) (x : Int) (st : List MV) (μ : MM) (G : MG) : ev 180 34 [a0, a1, a2] (vR x :: st) μ G = if gk G x = 11 then ev 180 37 [a0, a1, a2] (vR (μ x 9) :: st) μ G else none := ev_if pg_180_34 rfl
theorem pg_180_37 : mm_prog 180 37 = some (0, .bipush 11, 39, []) := by decide +kernel
theorem xe_180_37 (a0 a1 a2 : Option MV) (st : List MV) (μ : MM) (G : MG) : ev 180 37 [a0, a1, a2] st μ G = ev 180 39 [a0, a1, a2] (vI (11) :: st) μ G := ev_stp pg_180_37 rfl
theorem pg_180_39 : mm_prog 180 39 = some (0, .iload_n 1, 40, []) := by decide +kernel
theorem xe_180_39 (a0 a2 : Option MV) (x : Int) (st : List MV) (μ : MM) (G : MG) : ev 180 39 [a0, some (vI x), a2] st μ G = ev 180 40 [a0, some (vI x), a2] (vI x :: st) μ G := ev_stp pg_180_39 rfl
theorem pg_180_40 : mm_prog 180 40 = some (0, .imul, 41, []) := by decide +kernel
theorem xe_180_40 (a0 a1 a2 : Option MV) (x y : Int) (st : List MV) (μ : MM) (G : MG) : ev 180 40 [a0, a1, a2] (vI y :: vI x :: st) μ G = ev 180 41 [a0, a1, a2] (vI (w32 (x * y)) :: st) μ G := ev_stp pg_180_40 rfl
theorem pg_180_41 : mm_prog 180 41 = some (0, .iload_n 2, 42, []) := by decide +kernel
theorem xe_180_41 (a0 a1 : Option MV) (x : Int) (st : List MV) (μ : MM) (G : MG) : ev 180 41 [a0, a1, some (vI x)] st μ G = ev 180 42 [a0, a1, some (vI x)] (vI x :: st) μ G := ev_stp pg_180_41 rfl
theorem pg_180_42 : mm_prog 180 42 = some (0, .iadd, 43, []) := by decide +kernel
theorem xe_180_42 (a0 a1 a2 : Option MV) (x y : Int) (st : List MV) (μ : MM) (G : MG) : ev 180 42 [a0, a1, a2] (vI y :: vI x :: st) μ G = ev 180 43 [a0, a1, a2] (vI (w32 (x + y)) :: st) μ G := ev_stp pg_180_42 rfl
theorem pg_180_43 : mm_prog 180 43 = some (0, .iaload, 44, []) := by decide +kernel
theorem xe_180_43 (a0 a1 a2 : Option MV) (x y : Int) (st : List MV) (μ : MM) (G : MG) : ev 180 43 [a0, a1, a2] (vI x :: vR y :: st) μ G = if gk G y = 100 ∧ 0 ≤ x ∧ x < gl G y then ev 180 44 [a0, a1, a2] (vI (μ y x) :: st) μ G else none := ev_if pg_180_43 rfl
theorem pg_180_44 : mm_prog 180 44 = some (0, .goto 5, 47, []) := by decide +kernel
theorem xe_180_44 (a0 a1 a2 : Option MV) (st : List MV) (μ : MM) (G : MG) : ev 180 44 [a0, a1, a2] st μ G = ev 180 49 [a0, a1, a2] st μ G := ev_stp pg_180_44 rfl
theorem pg_180_47 : mm_prog 180 47 = some (0, .bipush (-2), 49, []) := by decide +kernel
theorem xe_180_47 (a0 a1 a2 : Option MV) (st : List MV) (μ : MM) (G : MG) : ev 180 47 [a0, a1, a2] st μ G = ev 180 49 [a0, a1, a2] (vI (-2) :: st) μ G := ev_stp pg_180_47 rfl
theorem pg_180_49 : mm_prog 180 49 = some (2, .ireturn, 50, [0]) := by decide +kernel
theorem xe_180_49 (a0 a1 a2 : Option MV) (x : Int) (μ : MM) (G : MG) : ev 180 49 [a0, a1, a2] [vI x] μ G = some (some (vI x), μ, G) := ev_ret pg_180_49 rfl
-- X11_isMode
theorem pg_181_0 : mm_prog 181 0 = some (0, .iload_n 1, 1, []) := by decide +kernel
theorem xe_181_0 (a0 : Option MV) (x : Int) (st : List MV) (μ : MM) (G : MG) : ev 181 0 [a0, some (vI x)] st μ G = ev 181 1 [a0, some (vI x)] (vI x :: st) μ G := ev_stp pg_181_0 rfl
theorem pg_181_1 : mm_prog 181 1 = some (0, .i2l, 2, []) := by decide +kernel
theorem xe_181_1 (a0 a1 : Option MV) (x : Int) (st : List MV) (μ : MM) (G : MG) : ev 181 1 [a0, a1] (vI x :: st) μ G = ev 181 2 [a0, a1] (vL x :: st) μ G := ev_stp pg_181_1 rfl
theorem pg_181_2 : mm_prog 181 2 = some (0, .lconst 0, 3, []) := by decide +kernel
theorem xe_181_2 (a0 a1 : Option MV) (st : List MV) (μ : MM) (G : MG) : ev 181 2 [a0, a1] st μ G = ev 181 3 [a0, a1] (vL 0 :: st) μ G := ev_stp pg_181_2 rfl
theorem pg_181_3 : mm_prog 181 3 = some (0, .aload_n 0, 4, []) := by decide +kernel
theorem xe_181_3 (a1 : Option MV) (x : Int) (st : List MV) (μ : MM) (G : MG) : ev 181 3 [some (vR x), a1] st μ G = ev 181 4 [some (vR x), a1] (vR x :: st) μ G := ev_stp pg_181_3 rfl
theorem pg_181_4 : mm_prog 181 4 = some (0, .getfield 134, 7, [11, 23, 0]) := by decide +kernel
theorem xe_181_4 (a0 a1 : Option MV) (x : Int) (st : List MV) (μ : MM) (G : MG) : ev 181 4 [a0, a1] (vR x :: st) μ G = if gk G x = 11 then ev 181 7 [a0, a1] (vI (μ x 23) :: st) μ G else none := ev_if pg_181_4 rfl
theorem pg_181_7 : mm_prog 181 7 = some (0, .iconst 1, 8, []) := by decide +kernel
theorem xe_181_7 (a0 a1 : Option MV) (st : List MV) (μ : MM) (G : MG) : ev 181 7 [a0, a1] st μ G = ev 181 8 [a0, a1] (vI (1) :: st) μ G := ev_stp pg_181_7 rfl
theorem pg_181_8 : mm_prog 181 8 = some (0, .isub, 9, []) := by decide +kernel
theorem xe_181_8 (a0 a1 : Option MV) (x y : Int) (st : List MV) (μ : MM) (G : MG) : ev 181 8 [a0, a1] (vI y :: vI x :: st) μ G = ev 181 9 [a0, a1] (vI (w32 (x - y)) :: st) μ G := ev_stp pg_181_8 rfl
theorem pg_181_9 : mm_prog 181 9 = some (0, .i2l, 10, []) := by decide +kernel
theorem xe_181_9 (a0 a1 : Option MV) (x : Int) (st : List MV) (μ : MM) (G : MG) : ev 181 9 [a0, a1] (vI x :: st) μ G = ev 181 10 [a0, a1] (vL x :: st) μ G := ev_stp pg_181_9 rfl
theorem pg_181_10 : mm_prog 181 10 = some (1, .invokestatic 107, 13, [0, 148, 3, 0]) := by decide +kernel
theorem xe_181_10 (a0 a1 : Option MV) (x0 x1 x2 : Int) (μ : MM) (G : MG) : ev 181 10 [a0, a1] (vL x2 :: vL x1 :: vL x0 :: []) μ G = (ev 148 0 [some (vL x0), none, some (vL x1), none, some (vL x2), none] [] μ G).bind (fun q => ev 181 13 [a0, a1] (q.1.toList ++ []) q.2.1 q.2.2) := ev_calS (as := [vL x0, vL x1, vL x2]) (r := []) mx_148 pg_181_10 rfl rfl (Nat.le_of_ble_eq_true rfl) (Nat.le_of_ble_eq_true rfl)
theorem pg_181_13 : mm_prog 181 13 = some (2, .ireturn, 14, [1]) := by decide +kernel
theorem xe_181_13 (a0 a1 : Option MV) (x : Int) (μ : MM) (G : MG) : ev 181 13 [a0, a1] [vI x] μ G = if x = 0 ∨ x = 1 then some (some (vI x), μ, G) else none := ev_retB pg_181_13
-- X11_mode
theorem pg_182_0 : mm_prog 182 0 = some (0, .aload_n 0, 1, []) := by decide +kernel
theorem xe_182_0 (a1 a2 : Option MV) (x : Int) (st : List MV) (μ : MM) (G : MG) : ev 182 0 [some (vR x), a1, a2] st μ G = ev 182 1 [some (vR x), a1, a2] (vR x :: st) μ G := ev_stp pg_182_0 rfl
theorem pg_182_1 : mm_prog 182 1 = some (0, .iconst 0, 2, []) := by decide +kernel
theorem xe_182_1 (a0 a1 a2 : Option MV) (st : List MV) (μ : MM) (G : MG) : ev 182 1 [a0, a1, a2] st μ G = ev 182 2 [a0, a1, a2] (vI (0) :: st) μ G := ev_stp pg_182_1 rfl
theorem pg_182_2 : mm_prog 182 2 = some (0, .putfield 1, 5, [11, 0, 0]) := by decide +kernel
theorem xe_182_2 (a0 a1 a2 : Option MV) (x y : Int) (st : List MV) (μ : MM) (G : MG) : ev 182 2 [a0, a1, a2] (vI x :: vR y :: st) μ G = if gk G y = 11 then ev 182 5 [a0, a1, a2] st (mset μ y 0 x) G else none := ev_put0 pg_182_2
theorem pg_182_5 : mm_prog 182 5 = some (0, .aload_n 0, 6, []) := by decide +kernel
theorem xe_182_5 (a1 a2 : Option MV) (x : Int) (st : List MV) (μ : MM) (G : MG) : ev 182 5 [some (vR x), a1, a2] st μ G = ev 182 6 [some (vR x), a1, a2] (vR x :: st) μ G := ev_stp pg_182_5 rfl
theorem pg_182_6 : mm_prog 182 6 = some (0, .iload_n 1, 7, []) := by decide +kernel
theorem xe_182_6 (a0 a2 : Option MV) (x : Int) (st : List MV) (μ : MM) (G : MG) : ev 182 6 [a0, some (vI x), a2] st μ G = ev 182 7 [a0, some (vI x), a2] (vI x :: st) μ G := ev_stp pg_182_6 rfl
theorem pg_182_7 : mm_prog 182 7 = some (1, .invokevirtual 239, 10, [1, 181, 1, 11]) := by decide +kernel
theorem xe_182_7 (a0 a1 a2 : Option MV) (x0 z : Int) (μ : MM) (G : MG) : ev 182 7 [a0, a1, a2] (vI x0 :: vR z :: []) μ G = if gk G z = 11 ∧ 0 < z then (ev 181 0 [some (vR z), some (vI x0)] [] μ G).bind (fun q => ev 182 10 [a0, a1, a2] (q.1.toList ++ []) q.2.1 q.2.2) else none := ev_calV (as := [vR z, vI x0]) (r := []) mx_181 pg_182_7 rfl rfl (Nat.le_of_ble_eq_true rfl) (Nat.le_of_ble_eq_true rfl)
theorem pg_182_10 : mm_prog 182 10 = some (0, .ifCond .eq 15, 13, []) := by decide +kernel
theorem xe_182_10 (a0 a1 a2 : Option MV) (x : Int) (st : List MV) (μ : MM) (G : MG) : ev 182 10 [a0, a1, a2] (vI x :: st) μ G = if x = 0 then ev 182 25 [a0, a1, a2] st μ G else ev 182 13 [a0, a1, a2] st μ G := ev_br (mm_cnd_eq x 0) pg_182_10 rfl
theorem pg_182_13 : mm_prog 182 13 = some (0, .iload_n 2, 14, []) := by decide +kernel
theorem xe_182_13 (a0 a1 : Option MV) (x : Int) (st : List MV) (μ : MM) (G : MG) : ev 182 13 [a0, a1, some (vI x)] st μ G = ev 182 14 [a0, a1, some (vI x)] (vI x :: st) μ G := ev_stp pg_182_13 rfl
theorem pg_182_14 : mm_prog 182 14 = some (0, .i2l, 15, []) := by decide +kernel
theorem xe_182_14 (a0 a1 a2 : Option MV) (x : Int) (st : List MV) (μ : MM) (G : MG) : ev 182 14 [a0, a1, a2] (vI x :: st) μ G = ev 182 15 [a0, a1, a2] (vL x :: st) μ G := ev_stp pg_182_14 rfl
theorem pg_182_15 : mm_prog 182 15 = some (0, .lconst 0, 16, []) := by decide +kernel
theorem xe_182_15 (a0 a1 a2 : Option MV) (st : List MV) (μ : MM) (G : MG) : ev 182 15 [a0, a1, a2] st μ G = ev 182 16 [a0, a1, a2] (vL 0 :: st) μ G := ev_stp pg_182_15 rfl
theorem pg_182_16 : mm_prog 182 16 = some (0, .ldc2_w 242, 19, [8]) := by decide +kernel
theorem xe_182_16 (a0 a1 a2 : Option MV) (st : List MV) (μ : MM) (G : MG) : ev 182 16 [a0, a1, a2] st μ G = ev 182 19 [a0, a1, a2] (vL (8) :: st) μ G := ev_stp pg_182_16 rfl
theorem pg_182_19 : mm_prog 182 19 = some (1, .invokestatic 107, 22, [0, 148, 3, 0]) := by decide +kernel
theorem xe_182_19 (a0 a1 a2 : Option MV) (x0 x1 x2 : Int) (μ : MM) (G : MG) : ev 182 19 [a0, a1, a2] (vL x2 :: vL x1 :: vL x0 :: []) μ G = (ev 148 0 [some (vL x0), none, some (vL x1), none, some (vL x2), none] [] μ G).bind (fun q => ev 182 22 [a0, a1, a2] (q.1.toList ++ []) q.2.1 q.2.2) := ev_calS (as := [vL x0, vL x1, vL x2]) (r := []) mx_148 pg_182_19 rfl rfl (Nat.le_of_ble_eq_true rfl) (Nat.le_of_ble_eq_true rfl)
theorem pg_182_22 : mm_prog 182 22 = some (0, .ifCond .ne 6, 25, []) := by decide +kernel
theorem xe_182_22 (a0 a1 a2 : Option MV) (x : Int) (st : List MV) (μ : MM) (G : MG) : ev 182 22 [a0, a1, a2] (vI x :: st) μ G = if ¬ x = 0 then ev 182 28 [a0, a1, a2] st μ G else ev 182 25 [a0, a1, a2] st μ G := ev_br (mm_cnd_ne x 0) pg_182_22 rfl
theorem pg_182_25 : mm_prog 182 25 = some (0, .bipush (-2), 27, []) := by decide +kernel
theorem xe_182_25 (a0 a1 a2 : Option MV) (st : List MV) (μ : MM) (G : MG) : ev 182 25 [a0, a1, a2] st μ G = ev 182 27 [a0, a1, a2] (vI (-2) :: st) μ G := ev_stp pg_182_25 rfl
theorem pg_182_27 : mm_prog 182 27 = some (2, .ireturn, 28, [0]) := by decide +kernel
theorem xe_182_27 (a0 a1 a2 : Option MV) (x : Int) (μ : MM) (G : MG) : ev 182 27 [a0, a1, a2] [vI x] μ G = some (some (vI x), μ, G) := ev_ret pg_182_27 rfl
theorem pg_182_28 : mm_prog 182 28 = some (0, .iload_n 2, 29, []) := by decide +kernel
theorem xe_182_28 (a0 a1 : Option MV) (x : Int) (st : List MV) (μ : MM) (G : MG) : ev 182 28 [a0, a1, some (vI x)] st μ G = ev 182 29 [a0, a1, some (vI x)] (vI x :: st) μ G := ev_stp pg_182_28 rfl
theorem pg_182_29 : mm_prog 182 29 = some (0, .bipush 8, 31, []) := by decide +kernel
theorem xe_182_29 (a0 a1 a2 : Option MV) (st : List MV) (μ : MM) (G : MG) : ev 182 29 [a0, a1, a2] st μ G = ev 182 31 [a0, a1, a2] (vI (8) :: st) μ G := ev_stp pg_182_29 rfl
theorem pg_182_31 : mm_prog 182 31 = some (0, .if_icmp .ge 12, 34, []) := by decide +kernel
theorem xe_182_31 (a0 a1 a2 : Option MV) (x y : Int) (st : List MV) (μ : MM) (G : MG) : ev 182 31 [a0, a1, a2] (vI y :: vI x :: st) μ G = if y ≤ x then ev 182 43 [a0, a1, a2] st μ G else ev 182 34 [a0, a1, a2] st μ G := ev_br (mm_cnd_ge x y) pg_182_31 rfl
theorem pg_182_34 : mm_prog 182 34 = some (0, .aload_n 0, 35, []) := by decide +kernel
theorem xe_182_34 (a1 a2 : Option MV) (x : Int) (st : List MV) (μ : MM) (G : MG) : ev 182 34 [some (vR x), a1, a2] st μ G = ev 182 35 [some (vR x), a1, a2] (vR x :: st) μ G := ev_stp pg_182_34 rfl
theorem pg_182_35 : mm_prog 182 35 = some (0, .iload_n 1, 36, []) := by decide +kernel
theorem xe_182_35 (a0 a2 : Option MV) (x : Int) (st : List MV) (μ : MM) (G : MG) : ev 182 35 [a0, some (vI x), a2] st μ G = ev 182 36 [a0, some (vI x), a2] (vI x :: st) μ G := ev_stp pg_182_35 rfl
theorem pg_182_36 : mm_prog 182 36 = some (0, .iload_n 2, 37, []) := by decide +kernel
theorem xe_182_36 (a0 a1 : Option MV) (x : Int) (st : List MV) (μ : MM) (G : MG) : ev 182 36 [a0, a1, some (vI x)] st μ G = ev 182 37 [a0, a1, some (vI x)] (vI x :: st) μ G := ev_stp pg_182_36 rfl
theorem pg_182_37 : mm_prog 182 37 = some (1, .invokevirtual 244, 40, [1, 168, 2, 11]) := by decide +kernel
theorem xe_182_37 (a0 a1 a2 : Option MV) (x0 x1 z : Int) (μ : MM) (G : MG) : ev 182 37 [a0, a1, a2] (vI x1 :: vI x0 :: vR z :: []) μ G = if gk G z = 11 ∧ 0 < z then (ev 168 0 [some (vR z), some (vI x0), some (vI x1)] [] μ G).bind (fun q => ev 182 40 [a0, a1, a2] (q.1.toList ++ []) q.2.1 q.2.2) else none := ev_calV (as := [vR z, vI x0, vI x1]) (r := []) mx_168 pg_182_37 rfl rfl (Nat.le_of_ble_eq_true rfl) (Nat.le_of_ble_eq_true rfl)
theorem pg_182_40 : mm_prog 182 40 = some (0, .goto 25, 43, []) := by decide +kernel
theorem xe_182_40 (a0 a1 a2 : Option MV) (st : List MV) (μ : MM) (G : MG) : ev 182 40 [a0, a1, a2] st μ G = ev 182 65 [a0, a1, a2] st μ G := ev_stp pg_182_40 rfl
theorem pg_182_43 : mm_prog 182 43 = some (0, .aload_n 0, 44, []) := by decide +kernel
theorem xe_182_43 (a1 a2 : Option MV) (x : Int) (st : List MV) (μ : MM) (G : MG) : ev 182 43 [some (vR x), a1, a2] st μ G = ev 182 44 [some (vR x), a1, a2] (vR x :: st) μ G := ev_stp pg_182_43 rfl
theorem pg_182_44 : mm_prog 182 44 = some (0, .iload_n 1, 45, []) := by decide +kernel
theorem xe_182_44 (a0 a2 : Option MV) (x : Int) (st : List MV) (μ : MM) (G : MG) : ev 182 44 [a0, some (vI x), a2] st μ G = ev 182 45 [a0, some (vI x), a2] (vI x :: st) μ G := ev_stp pg_182_44 rfl
theorem pg_182_45 : mm_prog 182 45 = some (0, .iconst 3, 46, []) := by decide +kernel
theorem xe_182_45 (a0 a1 a2 : Option MV) (st : List MV) (μ : MM) (G : MG) : ev 182 45 [a0, a1, a2] st μ G = ev 182 46 [a0, a1, a2] (vI (3) :: st) μ G := ev_stp pg_182_45 rfl
theorem pg_182_46 : mm_prog 182 46 = some (1, .invokevirtual 244, 49, [1, 168, 2, 11]) := by decide +kernel
theorem xe_182_46 (a0 a1 a2 : Option MV) (x0 x1 z : Int) (μ : MM) (G : MG) : ev 182 46 [a0, a1, a2] (vI x1 :: vI x0 :: vR z :: []) μ G = if gk G z = 11 ∧ 0 < z then (ev 168 0 [some (vR z), some (vI x0), some (vI x1)] [] μ G).bind (fun q => ev 182 49 [a0, a1, a2] (q.1.toList ++ []) q.2.1 q.2.2) else none := ev_calV (as := [vR z, vI x0, vI x1]) (r := []) mx_168 pg_182_46 rfl rfl (Nat.le_of_ble_eq_true rfl) (Nat.le_of_ble_eq_true rfl)
theorem pg_182_49 : mm_prog 182 49 = some (0, .aload_n 0, 50, []) := by decide +kernel
theorem xe_182_49 (a1 a2 : Option MV) (x : Int) (st : List MV) (μ : MM) (G : MG) : ev 182 49 [some (vR x), a1, a2] st μ G = ev 182 50 [some (vR x), a1, a2] (vR x :: st) μ G := ev_stp pg_182_49 rfl
theorem pg_182_50 : mm_prog 182 50 = some (0, .iload_n 1, 51, []) := by decide +kernel
theorem xe_182_50 (a0 a2 : Option MV) (x : Int) (st : List MV) (μ : MM) (G : MG) : ev 182 50 [a0, some (vI x), a2] st μ G = ev 182 51 [a0, some (vI x), a2] (vI x :: st) μ G := ev_stp pg_182_50 rfl
theorem pg_182_51 : mm_prog 182 51 = some (0, .iconst 4, 52, []) := by decide +kernel
theorem xe_182_51 (a0 a1 a2 : Option MV) (st : List MV) (μ : MM) (G : MG) : ev 182 51 [a0, a1, a2] st μ G = ev 182 52 [a0, a1, a2] (vI (4) :: st) μ G := ev_stp pg_182_51 rfl
theorem pg_182_52 : mm_prog 182 52 = some (1, .invokevirtual 244, 55, [1, 168, 2, 11]) := by decide +kernel
theorem xe_182_52 (a0 a1 a2 : Option MV) (x0 x1 z r0 : Int) (μ : MM) (G : MG) : ev 182 52 [a0, a1, a2] (vI x1 :: vI x0 :: vR z :: [vI r0]) μ G = if gk G z = 11 ∧ 0 < z then (ev 168 0 [some (vR z), some (vI x0), some (vI x1)] [] μ G).bind (fun q => ev 182 55 [a0, a1, a2] (q.1.toList ++ [vI r0]) q.2.1 q.2.2) else none := ev_calV (as := [vR z, vI x0, vI x1]) (r := [vI r0]) mx_168 pg_182_52 rfl rfl (Nat.le_of_ble_eq_true rfl) (Nat.le_of_ble_eq_true rfl)
theorem pg_182_55 : mm_prog 182 55 = some (0, .aload_n 0, 56, []) := by decide +kernel
theorem xe_182_55 (a1 a2 : Option MV) (x : Int) (st : List MV) (μ : MM) (G : MG) : ev 182 55 [some (vR x), a1, a2] st μ G = ev 182 56 [some (vR x), a1, a2] (vR x :: st) μ G := ev_stp pg_182_55 rfl
theorem pg_182_56 : mm_prog 182 56 = some (0, .iload_n 1, 57, []) := by decide +kernel
theorem xe_182_56 (a0 a2 : Option MV) (x : Int) (st : List MV) (μ : MM) (G : MG) : ev 182 56 [a0, some (vI x), a2] st μ G = ev 182 57 [a0, some (vI x), a2] (vI x :: st) μ G := ev_stp pg_182_56 rfl
theorem pg_182_57 : mm_prog 182 57 = some (0, .iconst 5, 58, []) := by decide +kernel
theorem xe_182_57 (a0 a1 a2 : Option MV) (st : List MV) (μ : MM) (G : MG) : ev 182 57 [a0, a1, a2] st μ G = ev 182 58 [a0, a1, a2] (vI (5) :: st) μ G := ev_stp pg_182_57 rfl
theorem pg_182_58 : mm_prog 182 58 = some (1, .invokevirtual 244, 61, [1, 168, 2, 11]) := by decide +kernel
theorem xe_182_58 (a0 a1 a2 : Option MV) (x0 x1 z r0 r1 : Int) (μ : MM) (G : MG) : ev 182 58 [a0, a1, a2] (vI x1 :: vI x0 :: vR z :: [vI r0, vI r1]) μ G = if gk G z = 11 ∧ 0 < z then (ev 168 0 [some (vR z), some (vI x0), some (vI x1)] [] μ G).bind (fun q => ev 182 61 [a0, a1, a2] (q.1.toList ++ [vI r0, vI r1]) q.2.1 q.2.2) else none := ev_calV (as := [vR z, vI x0, vI x1]) (r := [vI r0, vI r1]) mx_168 pg_182_58 rfl rfl (Nat.le_of_ble_eq_true rfl) (Nat.le_of_ble_eq_true rfl)
theorem pg_182_61 : mm_prog 182 61 = some (0, .imul, 62, []) := by decide +kernel
theorem xe_182_61 (a0 a1 a2 : Option MV) (x y : Int) (st : List MV) (μ : MM) (G : MG) : ev 182 61 [a0, a1, a2] (vI y :: vI x :: st) μ G = ev 182 62 [a0, a1, a2] (vI (w32 (x * y)) :: st) μ G := ev_stp pg_182_61 rfl
theorem pg_182_62 : mm_prog 182 62 = some (1, .invokestatic 247, 65, [0, 183, 2, 0]) := by decide +kernel
theorem xe_182_62 (a0 a1 a2 : Option MV) (x0 x1 : Int) (μ : MM) (G : MG) : ev 182 62 [a0, a1, a2] (vI x1 :: vI x0 :: []) μ G = (ev 183 0 [some (vI x0), some (vI x1), none, none] [] μ G).bind (fun q => ev 182 65 [a0, a1, a2] (q.1.toList ++ []) q.2.1 q.2.2) := ev_calS (as := [vI x0, vI x1]) (r := []) mx_183 pg_182_62 rfl rfl (Nat.le_of_ble_eq_true rfl) (Nat.le_of_ble_eq_true rfl)
theorem pg_182_65 : mm_prog 182 65 = some (2, .ireturn, 66, [0]) := by decide +kernel
theorem xe_182_65 (a0 a1 a2 : Option MV) (x : Int) (μ : MM) (G : MG) : ev 182 65 [a0, a1, a2] [vI x] μ G = some (some (vI x), μ, G) := ev_ret pg_182_65 rfl
-- X11_thousandths
theorem pg_183_0 : mm_prog 183 0 = some (0, .ldc2_w 250, 3, [1000000]) := by decide +kernel
theorem xe_183_0 (a0 a1 a2 a3 : Option MV) (st : List MV) (μ : MM) (G : MG) : ev 183 0 [a0, a1, a2, a3] st μ G = ev 183 3 [a0, a1, a2, a3] (vL (1000000) :: st) μ G := ev_stp pg_183_0 rfl
theorem pg_183_3 : mm_prog 183 3 = some (0, .iload_n 0, 4, []) := by decide +kernel
theorem xe_183_3 (a1 a2 a3 : Option MV) (x : Int) (st : List MV) (μ : MM) (G : MG) : ev 183 3 [some (vI x), a1, a2, a3] st μ G = ev 183 4 [some (vI x), a1, a2, a3] (vI x :: st) μ G := ev_stp pg_183_3 rfl
theorem pg_183_4 : mm_prog 183 4 = some (0, .i2l, 5, []) := by decide +kernel
theorem xe_183_4 (a0 a1 a2 a3 : Option MV) (x : Int) (st : List MV) (μ : MM) (G : MG) : ev 183 4 [a0, a1, a2, a3] (vI x :: st) μ G = ev 183 5 [a0, a1, a2, a3] (vL x :: st) μ G := ev_stp pg_183_4 rfl
theorem pg_183_5 : mm_prog 183 5 = some (0, .lmul, 6, []) := by decide +kernel
theorem xe_183_5 (a0 a1 a2 a3 : Option MV) (x y : Int) (st : List MV) (μ : MM) (G : MG) : ev 183 5 [a0, a1, a2, a3] (vL y :: vL x :: st) μ G = ev 183 6 [a0, a1, a2, a3] (vL (w64 (x * y)) :: st) μ G := ev_stp pg_183_5 rfl
theorem pg_183_6 : mm_prog 183 6 = some (0, .iload_n 1, 7, []) := by decide +kernel
theorem xe_183_6 (a0 a2 a3 : Option MV) (x : Int) (st : List MV) (μ : MM) (G : MG) : ev 183 6 [a0, some (vI x), a2, a3] st μ G = ev 183 7 [a0, some (vI x), a2, a3] (vI x :: st) μ G := ev_stp pg_183_6 rfl
theorem pg_183_7 : mm_prog 183 7 = some (0, .i2l, 8, []) := by decide +kernel
theorem xe_183_7 (a0 a1 a2 a3 : Option MV) (x : Int) (st : List MV) (μ : MM) (G : MG) : ev 183 7 [a0, a1, a2, a3] (vI x :: st) μ G = ev 183 8 [a0, a1, a2, a3] (vL x :: st) μ G := ev_stp pg_183_7 rfl
theorem pg_183_8 : mm_prog 183 8 = some (0, .ldiv, 9, []) := by decide +kernel
theorem xe_183_8 (a0 a1 a2 a3 : Option MV) (x y : Int) (st : List MV) (μ : MM) (G : MG) : ev 183 8 [a0, a1, a2, a3] (vL y :: vL x :: st) μ G = if y = 0 then none else ev 183 9 [a0, a1, a2, a3] (vL (mm_ldiv x y) :: st) μ G := ev_no pg_183_8 rfl
theorem pg_183_9 : mm_prog 183 9 = some (0, .lstore_n 2, 10, []) := by decide +kernel
theorem xe_183_9 (a0 a1 a2 a3 : Option MV) (x : Int) (st : List MV) (μ : MM) (G : MG) (h : mm_nL a1 = true) : ev 183 9 [a0, a1, a2, a3] (vL x :: st) μ G = ev 183 10 [a0, a1, some (vL x), none] st μ G := ev_st pg_183_9 rfl (mm_nl_of h) (Nat.le_of_ble_eq_true rfl)
theorem pg_183_10 : mm_prog 183 10 = some (0, .lload_n 2, 11, []) := by decide +kernel
theorem xe_183_10 (a0 a1 a3 : Option MV) (x : Int) (st : List MV) (μ : MM) (G : MG) : ev 183 10 [a0, a1, some (vL x), a3] st μ G = ev 183 11 [a0, a1, some (vL x), a3] (vL x :: st) μ G := ev_stp pg_183_10 rfl
theorem pg_183_11 : mm_prog 183 11 = some (0, .ldc2_w 254, 14, [2147483647]) := by decide +kernel
theorem xe_183_11 (a0 a1 a2 a3 : Option MV) (st : List MV) (μ : MM) (G : MG) : ev 183 11 [a0, a1, a2, a3] st μ G = ev 183 14 [a0, a1, a2, a3] (vL (2147483647) :: st) μ G := ev_stp pg_183_11 rfl
theorem pg_183_14 : mm_prog 183 14 = some (0, .lcmp, 15, []) := by decide +kernel
theorem xe_183_14 (a0 a1 a2 a3 : Option MV) (x y : Int) (st : List MV) (μ : MM) (G : MG) : ev 183 14 [a0, a1, a2, a3] (vL y :: vL x :: st) μ G = ev 183 15 [a0, a1, a2, a3] (vI (mm_cmp x y) :: st) μ G := ev_stp pg_183_14 rfl
theorem pg_183_15 : mm_prog 183 15 = some (0, .ifCond .le 9, 18, []) := by decide +kernel
theorem xe_183_15 (a0 a1 a2 a3 : Option MV) (x : Int) (st : List MV) (μ : MM) (G : MG) : ev 183 15 [a0, a1, a2, a3] (vI x :: st) μ G = if x ≤ 0 then ev 183 24 [a0, a1, a2, a3] st μ G else ev 183 18 [a0, a1, a2, a3] st μ G := ev_br (mm_cnd_le x 0) pg_183_15 rfl
theorem pg_183_18 : mm_prog 183 18 = some (0, .ldc_w 256, 21, [2147483647]) := by decide +kernel
theorem xe_183_18 (a0 a1 a2 a3 : Option MV) (st : List MV) (μ : MM) (G : MG) : ev 183 18 [a0, a1, a2, a3] st μ G = ev 183 21 [a0, a1, a2, a3] (vI (2147483647) :: st) μ G := ev_stp pg_183_18 rfl
theorem pg_183_21 : mm_prog 183 21 = some (0, .goto 5, 24, []) := by decide +kernel
theorem xe_183_21 (a0 a1 a2 a3 : Option MV) (st : List MV) (μ : MM) (G : MG) : ev 183 21 [a0, a1, a2, a3] st μ G = ev 183 26 [a0, a1, a2, a3] st μ G := ev_stp pg_183_21 rfl
theorem pg_183_24 : mm_prog 183 24 = some (0, .lload_n 2, 25, []) := by decide +kernel
theorem xe_183_24 (a0 a1 a3 : Option MV) (x : Int) (st : List MV) (μ : MM) (G : MG) : ev 183 24 [a0, a1, some (vL x), a3] st μ G = ev 183 25 [a0, a1, some (vL x), a3] (vL x :: st) μ G := ev_stp pg_183_24 rfl
theorem pg_183_25 : mm_prog 183 25 = some (0, .l2i, 26, []) := by decide +kernel
theorem xe_183_25 (a0 a1 a2 a3 : Option MV) (x : Int) (st : List MV) (μ : MM) (G : MG) : ev 183 25 [a0, a1, a2, a3] (vL x :: st) μ G = ev 183 26 [a0, a1, a2, a3] (vI (w32 x) :: st) μ G := ev_stp pg_183_25 rfl
theorem pg_183_26 : mm_prog 183 26 = some (2, .ireturn, 27, [0]) := by decide +kernel
theorem xe_183_26 (a0 a1 a2 a3 : Option MV) (x : Int) (μ : MM) (G : MG) : ev 183 26 [a0, a1, a2, a3] [vI x] μ G = some (some (vI x), μ, G) := ev_ret pg_183_26 rfl
-- X11_laysMode
theorem pg_184_0 : mm_prog 184 0 = some (0, .aload_n 0, 1, []) := by decide +kernel
theorem xe_184_0 (a1 : Option MV) (x : Int) (st : List MV) (μ : MM) (G : MG) : ev 184 0 [some (vR x), a1] st μ G = ev 184 1 [some (vR x), a1] (vR x :: st) μ G := ev_stp pg_184_0 rfl
theorem pg_184_1 : mm_prog 184 1 = some (0, .getfield 63, 4, [11, 29, 2]) := by decide +kernel
theorem xe_184_1 (a0 a1 : Option MV) (x : Int) (st : List MV) (μ : MM) (G : MG) : ev 184 1 [a0, a1] (vR x :: st) μ G = if gk G x = 11 then ev 184 4 [a0, a1] (vR (μ x 29) :: st) μ G else none := ev_if pg_184_1 rfl
theorem pg_184_4 : mm_prog 184 4 = some (0, .iconst 0, 5, []) := by decide +kernel
theorem xe_184_4 (a0 a1 : Option MV) (st : List MV) (μ : MM) (G : MG) : ev 184 4 [a0, a1] st μ G = ev 184 5 [a0, a1] (vI (0) :: st) μ G := ev_stp pg_184_4 rfl
theorem pg_184_5 : mm_prog 184 5 = some (0, .aload_n 0, 6, []) := by decide +kernel
theorem xe_184_5 (a1 : Option MV) (x : Int) (st : List MV) (μ : MM) (G : MG) : ev 184 5 [some (vR x), a1] st μ G = ev 184 6 [some (vR x), a1] (vR x :: st) μ G := ev_stp pg_184_5 rfl
theorem pg_184_6 : mm_prog 184 6 = some (0, .iload_n 1, 7, []) := by decide +kernel
theorem xe_184_6 (a0 : Option MV) (x : Int) (st : List MV) (μ : MM) (G : MG) : ev 184 6 [a0, some (vI x)] st μ G = ev 184 7 [a0, some (vI x)] (vI x :: st) μ G := ev_stp pg_184_6 rfl
theorem pg_184_7 : mm_prog 184 7 = some (0, .iconst 0, 8, []) := by decide +kernel
theorem xe_184_7 (a0 a1 : Option MV) (st : List MV) (μ : MM) (G : MG) : ev 184 7 [a0, a1] st μ G = ev 184 8 [a0, a1] (vI (0) :: st) μ G := ev_stp pg_184_7 rfl
theorem pg_184_8 : mm_prog 184 8 = some (1, .invokevirtual 244, 11, [1, 168, 2, 11]) := by decide +kernel
theorem xe_184_8 (a0 a1 : Option MV) (x0 x1 z r0 r1 : Int) (μ : MM) (G : MG) : ev 184 8 [a0, a1] (vI x1 :: vI x0 :: vR z :: [vI r0, vR r1]) μ G = if gk G z = 11 ∧ 0 < z then (ev 168 0 [some (vR z), some (vI x0), some (vI x1)] [] μ G).bind (fun q => ev 184 11 [a0, a1] (q.1.toList ++ [vI r0, vR r1]) q.2.1 q.2.2) else none := ev_calV (as := [vR z, vI x0, vI x1]) (r := [vI r0, vR r1]) mx_168 pg_184_8 rfl rfl (Nat.le_of_ble_eq_true rfl) (Nat.le_of_ble_eq_true rfl)
theorem pg_184_11 : mm_prog 184 11 = some (0, .iastore, 12, []) := by decide +kernel
theorem xe_184_11 (a0 a1 : Option MV) (x y z : Int) (st : List MV) (μ : MM) (G : MG) : ev 184 11 [a0, a1] (vI x :: vI y :: vR z :: st) μ G = if gk G z = 100 ∧ 0 ≤ y ∧ y < gl G z ∧ 10 ≤ z then ev 184 12 [a0, a1] st (mset μ z y x) G else none := ev_if pg_184_11 rfl
theorem pg_184_12 : mm_prog 184 12 = some (0, .aload_n 0, 13, []) := by decide +kernel
theorem xe_184_12 (a1 : Option MV) (x : Int) (st : List MV) (μ : MM) (G : MG) : ev 184 12 [some (vR x), a1] st μ G = ev 184 13 [some (vR x), a1] (vR x :: st) μ G := ev_stp pg_184_12 rfl
theorem pg_184_13 : mm_prog 184 13 = some (0, .getfield 63, 16, [11, 29, 2]) := by decide +kernel
theorem xe_184_13 (a0 a1 : Option MV) (x : Int) (st : List MV) (μ : MM) (G : MG) : ev 184 13 [a0, a1] (vR x :: st) μ G = if gk G x = 11 then ev 184 16 [a0, a1] (vR (μ x 29) :: st) μ G else none := ev_if pg_184_13 rfl
theorem pg_184_16 : mm_prog 184 16 = some (0, .iconst 1, 17, []) := by decide +kernel
theorem xe_184_16 (a0 a1 : Option MV) (st : List MV) (μ : MM) (G : MG) : ev 184 16 [a0, a1] st μ G = ev 184 17 [a0, a1] (vI (1) :: st) μ G := ev_stp pg_184_16 rfl
theorem pg_184_17 : mm_prog 184 17 = some (0, .aload_n 0, 18, []) := by decide +kernel
theorem xe_184_17 (a1 : Option MV) (x : Int) (st : List MV) (μ : MM) (G : MG) : ev 184 17 [some (vR x), a1] st μ G = ev 184 18 [some (vR x), a1] (vR x :: st) μ G := ev_stp pg_184_17 rfl
theorem pg_184_18 : mm_prog 184 18 = some (0, .iload_n 1, 19, []) := by decide +kernel
theorem xe_184_18 (a0 : Option MV) (x : Int) (st : List MV) (μ : MM) (G : MG) : ev 184 18 [a0, some (vI x)] st μ G = ev 184 19 [a0, some (vI x)] (vI x :: st) μ G := ev_stp pg_184_18 rfl
theorem pg_184_19 : mm_prog 184 19 = some (0, .iconst 4, 20, []) := by decide +kernel
theorem xe_184_19 (a0 a1 : Option MV) (st : List MV) (μ : MM) (G : MG) : ev 184 19 [a0, a1] st μ G = ev 184 20 [a0, a1] (vI (4) :: st) μ G := ev_stp pg_184_19 rfl
theorem pg_184_20 : mm_prog 184 20 = some (1, .invokevirtual 244, 23, [1, 168, 2, 11]) := by decide +kernel
theorem xe_184_20 (a0 a1 : Option MV) (x0 x1 z r0 r1 : Int) (μ : MM) (G : MG) : ev 184 20 [a0, a1] (vI x1 :: vI x0 :: vR z :: [vI r0, vR r1]) μ G = if gk G z = 11 ∧ 0 < z then (ev 168 0 [some (vR z), some (vI x0), some (vI x1)] [] μ G).bind (fun q => ev 184 23 [a0, a1] (q.1.toList ++ [vI r0, vR r1]) q.2.1 q.2.2) else none := ev_calV (as := [vR z, vI x0, vI x1]) (r := [vI r0, vR r1]) mx_168 pg_184_20 rfl rfl (Nat.le_of_ble_eq_true rfl) (Nat.le_of_ble_eq_true rfl)
theorem pg_184_23 : mm_prog 184 23 = some (0, .aload_n 0, 24, []) := by decide +kernel
theorem xe_184_23 (a1 : Option MV) (x : Int) (st : List MV) (μ : MM) (G : MG) : ev 184 23 [some (vR x), a1] st μ G = ev 184 24 [some (vR x), a1] (vR x :: st) μ G := ev_stp pg_184_23 rfl
theorem pg_184_24 : mm_prog 184 24 = some (0, .getfield 63, 27, [11, 29, 2]) := by decide +kernel
theorem xe_184_24 (a0 a1 : Option MV) (x : Int) (st : List MV) (μ : MM) (G : MG) : ev 184 24 [a0, a1] (vR x :: st) μ G = if gk G x = 11 then ev 184 27 [a0, a1] (vR (μ x 29) :: st) μ G else none := ev_if pg_184_24 rfl
theorem pg_184_27 : mm_prog 184 27 = some (0, .iconst 0, 28, []) := by decide +kernel
theorem xe_184_27 (a0 a1 : Option MV) (st : List MV) (μ : MM) (G : MG) : ev 184 27 [a0, a1] st μ G = ev 184 28 [a0, a1] (vI (0) :: st) μ G := ev_stp pg_184_27 rfl
theorem pg_184_28 : mm_prog 184 28 = some (0, .iaload, 29, []) := by decide +kernel
theorem xe_184_28 (a0 a1 : Option MV) (x y : Int) (st : List MV) (μ : MM) (G : MG) : ev 184 28 [a0, a1] (vI x :: vR y :: st) μ G = if gk G y = 100 ∧ 0 ≤ x ∧ x < gl G y then ev 184 29 [a0, a1] (vI (μ y x) :: st) μ G else none := ev_if pg_184_28 rfl
theorem pg_184_29 : mm_prog 184 29 = some (0, .isub, 30, []) := by decide +kernel
theorem xe_184_29 (a0 a1 : Option MV) (x y : Int) (st : List MV) (μ : MM) (G : MG) : ev 184 29 [a0, a1] (vI y :: vI x :: st) μ G = ev 184 30 [a0, a1] (vI (w32 (x - y)) :: st) μ G := ev_stp pg_184_29 rfl
theorem pg_184_30 : mm_prog 184 30 = some (0, .iastore, 31, []) := by decide +kernel
theorem xe_184_30 (a0 a1 : Option MV) (x y z : Int) (st : List MV) (μ : MM) (G : MG) : ev 184 30 [a0, a1] (vI x :: vI y :: vR z :: st) μ G = if gk G z = 100 ∧ 0 ≤ y ∧ y < gl G z ∧ 10 ≤ z then ev 184 31 [a0, a1] st (mset μ z y x) G else none := ev_if pg_184_30 rfl
theorem pg_184_31 : mm_prog 184 31 = some (0, .aload_n 0, 32, []) := by decide +kernel
theorem xe_184_31 (a1 : Option MV) (x : Int) (st : List MV) (μ : MM) (G : MG) : ev 184 31 [some (vR x), a1] st μ G = ev 184 32 [some (vR x), a1] (vR x :: st) μ G := ev_stp pg_184_31 rfl
theorem pg_184_32 : mm_prog 184 32 = some (0, .getfield 63, 35, [11, 29, 2]) := by decide +kernel
theorem xe_184_32 (a0 a1 : Option MV) (x : Int) (st : List MV) (μ : MM) (G : MG) : ev 184 32 [a0, a1] (vR x :: st) μ G = if gk G x = 11 then ev 184 35 [a0, a1] (vR (μ x 29) :: st) μ G else none := ev_if pg_184_32 rfl
theorem pg_184_35 : mm_prog 184 35 = some (0, .iconst 4, 36, []) := by decide +kernel
theorem xe_184_35 (a0 a1 : Option MV) (st : List MV) (μ : MM) (G : MG) : ev 184 35 [a0, a1] st μ G = ev 184 36 [a0, a1] (vI (4) :: st) μ G := ev_stp pg_184_35 rfl
theorem pg_184_36 : mm_prog 184 36 = some (0, .aload_n 0, 37, []) := by decide +kernel
theorem xe_184_36 (a1 : Option MV) (x : Int) (st : List MV) (μ : MM) (G : MG) : ev 184 36 [some (vR x), a1] st μ G = ev 184 37 [some (vR x), a1] (vR x :: st) μ G := ev_stp pg_184_36 rfl
theorem pg_184_37 : mm_prog 184 37 = some (0, .iload_n 1, 38, []) := by decide +kernel
theorem xe_184_37 (a0 : Option MV) (x : Int) (st : List MV) (μ : MM) (G : MG) : ev 184 37 [a0, some (vI x)] st μ G = ev 184 38 [a0, some (vI x)] (vI x :: st) μ G := ev_stp pg_184_37 rfl
theorem pg_184_38 : mm_prog 184 38 = some (0, .iconst 1, 39, []) := by decide +kernel
theorem xe_184_38 (a0 a1 : Option MV) (st : List MV) (μ : MM) (G : MG) : ev 184 38 [a0, a1] st μ G = ev 184 39 [a0, a1] (vI (1) :: st) μ G := ev_stp pg_184_38 rfl
theorem pg_184_39 : mm_prog 184 39 = some (1, .invokevirtual 244, 42, [1, 168, 2, 11]) := by decide +kernel
theorem xe_184_39 (a0 a1 : Option MV) (x0 x1 z r0 r1 : Int) (μ : MM) (G : MG) : ev 184 39 [a0, a1] (vI x1 :: vI x0 :: vR z :: [vI r0, vR r1]) μ G = if gk G z = 11 ∧ 0 < z then (ev 168 0 [some (vR z), some (vI x0), some (vI x1)] [] μ G).bind (fun q => ev 184 42 [a0, a1] (q.1.toList ++ [vI r0, vR r1]) q.2.1 q.2.2) else none := ev_calV (as := [vR z, vI x0, vI x1]) (r := [vI r0, vR r1]) mx_168 pg_184_39 rfl rfl (Nat.le_of_ble_eq_true rfl) (Nat.le_of_ble_eq_true rfl)
theorem pg_184_42 : mm_prog 184 42 = some (0, .iastore, 43, []) := by decide +kernel
theorem xe_184_42 (a0 a1 : Option MV) (x y z : Int) (st : List MV) (μ : MM) (G : MG) : ev 184 42 [a0, a1] (vI x :: vI y :: vR z :: st) μ G = if gk G z = 100 ∧ 0 ≤ y ∧ y < gl G z ∧ 10 ≤ z then ev 184 43 [a0, a1] st (mset μ z y x) G else none := ev_if pg_184_42 rfl
theorem pg_184_43 : mm_prog 184 43 = some (0, .aload_n 0, 44, []) := by decide +kernel
theorem xe_184_43 (a1 : Option MV) (x : Int) (st : List MV) (μ : MM) (G : MG) : ev 184 43 [some (vR x), a1] st μ G = ev 184 44 [some (vR x), a1] (vR x :: st) μ G := ev_stp pg_184_43 rfl
theorem pg_184_44 : mm_prog 184 44 = some (0, .getfield 63, 47, [11, 29, 2]) := by decide +kernel
theorem xe_184_44 (a0 a1 : Option MV) (x : Int) (st : List MV) (μ : MM) (G : MG) : ev 184 44 [a0, a1] (vR x :: st) μ G = if gk G x = 11 then ev 184 47 [a0, a1] (vR (μ x 29) :: st) μ G else none := ev_if pg_184_44 rfl
theorem pg_184_47 : mm_prog 184 47 = some (0, .iconst 5, 48, []) := by decide +kernel
theorem xe_184_47 (a0 a1 : Option MV) (st : List MV) (μ : MM) (G : MG) : ev 184 47 [a0, a1] st μ G = ev 184 48 [a0, a1] (vI (5) :: st) μ G := ev_stp pg_184_47 rfl
theorem pg_184_48 : mm_prog 184 48 = some (0, .aload_n 0, 49, []) := by decide +kernel
theorem xe_184_48 (a1 : Option MV) (x : Int) (st : List MV) (μ : MM) (G : MG) : ev 184 48 [some (vR x), a1] st μ G = ev 184 49 [some (vR x), a1] (vR x :: st) μ G := ev_stp pg_184_48 rfl
theorem pg_184_49 : mm_prog 184 49 = some (0, .iload_n 1, 50, []) := by decide +kernel
theorem xe_184_49 (a0 : Option MV) (x : Int) (st : List MV) (μ : MM) (G : MG) : ev 184 49 [a0, some (vI x)] st μ G = ev 184 50 [a0, some (vI x)] (vI x :: st) μ G := ev_stp pg_184_49 rfl
theorem pg_184_50 : mm_prog 184 50 = some (0, .iconst 5, 51, []) := by decide +kernel
theorem xe_184_50 (a0 a1 : Option MV) (st : List MV) (μ : MM) (G : MG) : ev 184 50 [a0, a1] st μ G = ev 184 51 [a0, a1] (vI (5) :: st) μ G := ev_stp pg_184_50 rfl
theorem pg_184_51 : mm_prog 184 51 = some (1, .invokevirtual 244, 54, [1, 168, 2, 11]) := by decide +kernel
theorem xe_184_51 (a0 a1 : Option MV) (x0 x1 z r0 r1 : Int) (μ : MM) (G : MG) : ev 184 51 [a0, a1] (vI x1 :: vI x0 :: vR z :: [vI r0, vR r1]) μ G = if gk G z = 11 ∧ 0 < z then (ev 168 0 [some (vR z), some (vI x0), some (vI x1)] [] μ G).bind (fun q => ev 184 54 [a0, a1] (q.1.toList ++ [vI r0, vR r1]) q.2.1 q.2.2) else none := ev_calV (as := [vR z, vI x0, vI x1]) (r := [vI r0, vR r1]) mx_168 pg_184_51 rfl rfl (Nat.le_of_ble_eq_true rfl) (Nat.le_of_ble_eq_true rfl)
theorem pg_184_54 : mm_prog 184 54 = some (0, .aload_n 0, 55, []) := by decide +kernel
theorem xe_184_54 (a1 : Option MV) (x : Int) (st : List MV) (μ : MM) (G : MG) : ev 184 54 [some (vR x), a1] st μ G = ev 184 55 [some (vR x), a1] (vR x :: st) μ G := ev_stp pg_184_54 rfl
theorem pg_184_55 : mm_prog 184 55 = some (0, .getfield 63, 58, [11, 29, 2]) := by decide +kernel
theorem xe_184_55 (a0 a1 : Option MV) (x : Int) (st : List MV) (μ : MM) (G : MG) : ev 184 55 [a0, a1] (vR x :: st) μ G = if gk G x = 11 then ev 184 58 [a0, a1] (vR (μ x 29) :: st) μ G else none := ev_if pg_184_55 rfl
theorem pg_184_58 : mm_prog 184 58 = some (0, .iconst 4, 59, []) := by decide +kernel
theorem xe_184_58 (a0 a1 : Option MV) (st : List MV) (μ : MM) (G : MG) : ev 184 58 [a0, a1] st μ G = ev 184 59 [a0, a1] (vI (4) :: st) μ G := ev_stp pg_184_58 rfl
theorem pg_184_59 : mm_prog 184 59 = some (0, .iaload, 60, []) := by decide +kernel
theorem xe_184_59 (a0 a1 : Option MV) (x y : Int) (st : List MV) (μ : MM) (G : MG) : ev 184 59 [a0, a1] (vI x :: vR y :: st) μ G = if gk G y = 100 ∧ 0 ≤ x ∧ x < gl G y then ev 184 60 [a0, a1] (vI (μ y x) :: st) μ G else none := ev_if pg_184_59 rfl
theorem pg_184_60 : mm_prog 184 60 = some (0, .isub, 61, []) := by decide +kernel
theorem xe_184_60 (a0 a1 : Option MV) (x y : Int) (st : List MV) (μ : MM) (G : MG) : ev 184 60 [a0, a1] (vI y :: vI x :: st) μ G = ev 184 61 [a0, a1] (vI (w32 (x - y)) :: st) μ G := ev_stp pg_184_60 rfl
theorem pg_184_61 : mm_prog 184 61 = some (0, .iastore, 62, []) := by decide +kernel
theorem xe_184_61 (a0 a1 : Option MV) (x y z : Int) (st : List MV) (μ : MM) (G : MG) : ev 184 61 [a0, a1] (vI x :: vI y :: vR z :: st) μ G = if gk G z = 100 ∧ 0 ≤ y ∧ y < gl G z ∧ 10 ≤ z then ev 184 62 [a0, a1] st (mset μ z y x) G else none := ev_if pg_184_61 rfl
theorem pg_184_62 : mm_prog 184 62 = some (0, .aload_n 0, 63, []) := by decide +kernel
theorem xe_184_62 (a1 : Option MV) (x : Int) (st : List MV) (μ : MM) (G : MG) : ev 184 62 [some (vR x), a1] st μ G = ev 184 63 [some (vR x), a1] (vR x :: st) μ G := ev_stp pg_184_62 rfl
theorem pg_184_63 : mm_prog 184 63 = some (0, .getfield 63, 66, [11, 29, 2]) := by decide +kernel
theorem xe_184_63 (a0 a1 : Option MV) (x : Int) (st : List MV) (μ : MM) (G : MG) : ev 184 63 [a0, a1] (vR x :: st) μ G = if gk G x = 11 then ev 184 66 [a0, a1] (vR (μ x 29) :: st) μ G else none := ev_if pg_184_63 rfl
theorem pg_184_66 : mm_prog 184 66 = some (0, .iconst 2, 67, []) := by decide +kernel
theorem xe_184_66 (a0 a1 : Option MV) (st : List MV) (μ : MM) (G : MG) : ev 184 66 [a0, a1] st μ G = ev 184 67 [a0, a1] (vI (2) :: st) μ G := ev_stp pg_184_66 rfl
theorem pg_184_67 : mm_prog 184 67 = some (0, .aload_n 0, 68, []) := by decide +kernel
theorem xe_184_67 (a1 : Option MV) (x : Int) (st : List MV) (μ : MM) (G : MG) : ev 184 67 [some (vR x), a1] st μ G = ev 184 68 [some (vR x), a1] (vR x :: st) μ G := ev_stp pg_184_67 rfl
theorem pg_184_68 : mm_prog 184 68 = some (0, .iload_n 1, 69, []) := by decide +kernel
theorem xe_184_68 (a0 : Option MV) (x : Int) (st : List MV) (μ : MM) (G : MG) : ev 184 68 [a0, some (vI x)] st μ G = ev 184 69 [a0, some (vI x)] (vI x :: st) μ G := ev_stp pg_184_68 rfl
theorem pg_184_69 : mm_prog 184 69 = some (0, .bipush 8, 71, []) := by decide +kernel
theorem xe_184_69 (a0 a1 : Option MV) (st : List MV) (μ : MM) (G : MG) : ev 184 69 [a0, a1] st μ G = ev 184 71 [a0, a1] (vI (8) :: st) μ G := ev_stp pg_184_69 rfl
theorem pg_184_71 : mm_prog 184 71 = some (1, .invokevirtual 244, 74, [1, 168, 2, 11]) := by decide +kernel
theorem xe_184_71 (a0 a1 : Option MV) (x0 x1 z r0 r1 : Int) (μ : MM) (G : MG) : ev 184 71 [a0, a1] (vI x1 :: vI x0 :: vR z :: [vI r0, vR r1]) μ G = if gk G z = 11 ∧ 0 < z then (ev 168 0 [some (vR z), some (vI x0), some (vI x1)] [] μ G).bind (fun q => ev 184 74 [a0, a1] (q.1.toList ++ [vI r0, vR r1]) q.2.1 q.2.2) else none := ev_calV (as := [vR z, vI x0, vI x1]) (r := [vI r0, vR r1]) mx_168 pg_184_71 rfl rfl (Nat.le_of_ble_eq_true rfl) (Nat.le_of_ble_eq_true rfl)
theorem pg_184_74 : mm_prog 184 74 = some (0, .iastore, 75, []) := by decide +kernel
theorem xe_184_74 (a0 a1 : Option MV) (x y z : Int) (st : List MV) (μ : MM) (G : MG) : ev 184 74 [a0, a1] (vI x :: vI y :: vR z :: st) μ G = if gk G z = 100 ∧ 0 ≤ y ∧ y < gl G z ∧ 10 ≤ z then ev 184 75 [a0, a1] st (mset μ z y x) G else none := ev_if pg_184_74 rfl
theorem pg_184_75 : mm_prog 184 75 = some (0, .aload_n 0, 76, []) := by decide +kernel
theorem xe_184_75 (a1 : Option MV) (x : Int) (st : List MV) (μ : MM) (G : MG) : ev 184 75 [some (vR x), a1] st μ G = ev 184 76 [some (vR x), a1] (vR x :: st) μ G := ev_stp pg_184_75 rfl
theorem pg_184_76 : mm_prog 184 76 = some (0, .getfield 63, 79, [11, 29, 2]) := by decide +kernel
theorem xe_184_76 (a0 a1 : Option MV) (x : Int) (st : List MV) (μ : MM) (G : MG) : ev 184 76 [a0, a1] (vR x :: st) μ G = if gk G x = 11 then ev 184 79 [a0, a1] (vR (μ x 29) :: st) μ G else none := ev_if pg_184_76 rfl
theorem pg_184_79 : mm_prog 184 79 = some (0, .iconst 3, 80, []) := by decide +kernel
theorem xe_184_79 (a0 a1 : Option MV) (st : List MV) (μ : MM) (G : MG) : ev 184 79 [a0, a1] st μ G = ev 184 80 [a0, a1] (vI (3) :: st) μ G := ev_stp pg_184_79 rfl
theorem pg_184_80 : mm_prog 184 80 = some (0, .aload_n 0, 81, []) := by decide +kernel
theorem xe_184_80 (a1 : Option MV) (x : Int) (st : List MV) (μ : MM) (G : MG) : ev 184 80 [some (vR x), a1] st μ G = ev 184 81 [some (vR x), a1] (vR x :: st) μ G := ev_stp pg_184_80 rfl
theorem pg_184_81 : mm_prog 184 81 = some (0, .iload_n 1, 82, []) := by decide +kernel
theorem xe_184_81 (a0 : Option MV) (x : Int) (st : List MV) (μ : MM) (G : MG) : ev 184 81 [a0, some (vI x)] st μ G = ev 184 82 [a0, some (vI x)] (vI x :: st) μ G := ev_stp pg_184_81 rfl
theorem pg_184_82 : mm_prog 184 82 = some (0, .bipush 9, 84, []) := by decide +kernel
theorem xe_184_82 (a0 a1 : Option MV) (st : List MV) (μ : MM) (G : MG) : ev 184 82 [a0, a1] st μ G = ev 184 84 [a0, a1] (vI (9) :: st) μ G := ev_stp pg_184_82 rfl
theorem pg_184_84 : mm_prog 184 84 = some (1, .invokevirtual 244, 87, [1, 168, 2, 11]) := by decide +kernel
theorem xe_184_84 (a0 a1 : Option MV) (x0 x1 z r0 r1 : Int) (μ : MM) (G : MG) : ev 184 84 [a0, a1] (vI x1 :: vI x0 :: vR z :: [vI r0, vR r1]) μ G = if gk G z = 11 ∧ 0 < z then (ev 168 0 [some (vR z), some (vI x0), some (vI x1)] [] μ G).bind (fun q => ev 184 87 [a0, a1] (q.1.toList ++ [vI r0, vR r1]) q.2.1 q.2.2) else none := ev_calV (as := [vR z, vI x0, vI x1]) (r := [vI r0, vR r1]) mx_168 pg_184_84 rfl rfl (Nat.le_of_ble_eq_true rfl) (Nat.le_of_ble_eq_true rfl)
theorem pg_184_87 : mm_prog 184 87 = some (0, .iastore, 88, []) := by decide +kernel
theorem xe_184_87 (a0 a1 : Option MV) (x y z : Int) (st : List MV) (μ : MM) (G : MG) : ev 184 87 [a0, a1] (vI x :: vI y :: vR z :: st) μ G = if gk G z = 100 ∧ 0 ≤ y ∧ y < gl G z ∧ 10 ≤ z then ev 184 88 [a0, a1] st (mset μ z y x) G else none := ev_if pg_184_87 rfl
theorem pg_184_88 : mm_prog 184 88 = some (0, .aload_n 0, 89, []) := by decide +kernel
theorem xe_184_88 (a1 : Option MV) (x : Int) (st : List MV) (μ : MM) (G : MG) : ev 184 88 [some (vR x), a1] st μ G = ev 184 89 [some (vR x), a1] (vR x :: st) μ G := ev_stp pg_184_88 rfl
theorem pg_184_89 : mm_prog 184 89 = some (0, .getfield 63, 92, [11, 29, 2]) := by decide +kernel
theorem xe_184_89 (a0 a1 : Option MV) (x : Int) (st : List MV) (μ : MM) (G : MG) : ev 184 89 [a0, a1] (vR x :: st) μ G = if gk G x = 11 then ev 184 92 [a0, a1] (vR (μ x 29) :: st) μ G else none := ev_if pg_184_89 rfl
theorem pg_184_92 : mm_prog 184 92 = some (0, .bipush 6, 94, []) := by decide +kernel
theorem xe_184_92 (a0 a1 : Option MV) (st : List MV) (μ : MM) (G : MG) : ev 184 92 [a0, a1] st μ G = ev 184 94 [a0, a1] (vI (6) :: st) μ G := ev_stp pg_184_92 rfl
theorem pg_184_94 : mm_prog 184 94 = some (0, .aload_n 0, 95, []) := by decide +kernel
theorem xe_184_94 (a1 : Option MV) (x : Int) (st : List MV) (μ : MM) (G : MG) : ev 184 94 [some (vR x), a1] st μ G = ev 184 95 [some (vR x), a1] (vR x :: st) μ G := ev_stp pg_184_94 rfl
theorem pg_184_95 : mm_prog 184 95 = some (0, .iload_n 1, 96, []) := by decide +kernel
theorem xe_184_95 (a0 : Option MV) (x : Int) (st : List MV) (μ : MM) (G : MG) : ev 184 95 [a0, some (vI x)] st μ G = ev 184 96 [a0, some (vI x)] (vI x :: st) μ G := ev_stp pg_184_95 rfl
theorem pg_184_96 : mm_prog 184 96 = some (0, .bipush 10, 98, []) := by decide +kernel
theorem xe_184_96 (a0 a1 : Option MV) (st : List MV) (μ : MM) (G : MG) : ev 184 96 [a0, a1] st μ G = ev 184 98 [a0, a1] (vI (10) :: st) μ G := ev_stp pg_184_96 rfl
theorem pg_184_98 : mm_prog 184 98 = some (1, .invokevirtual 244, 101, [1, 168, 2, 11]) := by decide +kernel
theorem xe_184_98 (a0 a1 : Option MV) (x0 x1 z r0 r1 : Int) (μ : MM) (G : MG) : ev 184 98 [a0, a1] (vI x1 :: vI x0 :: vR z :: [vI r0, vR r1]) μ G = if gk G z = 11 ∧ 0 < z then (ev 168 0 [some (vR z), some (vI x0), some (vI x1)] [] μ G).bind (fun q => ev 184 101 [a0, a1] (q.1.toList ++ [vI r0, vR r1]) q.2.1 q.2.2) else none := ev_calV (as := [vR z, vI x0, vI x1]) (r := [vI r0, vR r1]) mx_168 pg_184_98 rfl rfl (Nat.le_of_ble_eq_true rfl) (Nat.le_of_ble_eq_true rfl)
theorem pg_184_101 : mm_prog 184 101 = some (0, .iastore, 102, []) := by decide +kernel
theorem xe_184_101 (a0 a1 : Option MV) (x y z : Int) (st : List MV) (μ : MM) (G : MG) : ev 184 101 [a0, a1] (vI x :: vI y :: vR z :: st) μ G = if gk G z = 100 ∧ 0 ≤ y ∧ y < gl G z ∧ 10 ≤ z then ev 184 102 [a0, a1] st (mset μ z y x) G else none := ev_if pg_184_101 rfl
theorem pg_184_102 : mm_prog 184 102 = some (0, .aload_n 0, 103, []) := by decide +kernel
theorem xe_184_102 (a1 : Option MV) (x : Int) (st : List MV) (μ : MM) (G : MG) : ev 184 102 [some (vR x), a1] st μ G = ev 184 103 [some (vR x), a1] (vR x :: st) μ G := ev_stp pg_184_102 rfl
theorem pg_184_103 : mm_prog 184 103 = some (0, .getfield 63, 106, [11, 29, 2]) := by decide +kernel
theorem xe_184_103 (a0 a1 : Option MV) (x : Int) (st : List MV) (μ : MM) (G : MG) : ev 184 103 [a0, a1] (vR x :: st) μ G = if gk G x = 11 then ev 184 106 [a0, a1] (vR (μ x 29) :: st) μ G else none := ev_if pg_184_103 rfl
theorem pg_184_106 : mm_prog 184 106 = some (0, .bipush 7, 108, []) := by decide +kernel
theorem xe_184_106 (a0 a1 : Option MV) (st : List MV) (μ : MM) (G : MG) : ev 184 106 [a0, a1] st μ G = ev 184 108 [a0, a1] (vI (7) :: st) μ G := ev_stp pg_184_106 rfl
theorem pg_184_108 : mm_prog 184 108 = some (0, .aload_n 0, 109, []) := by decide +kernel
theorem xe_184_108 (a1 : Option MV) (x : Int) (st : List MV) (μ : MM) (G : MG) : ev 184 108 [some (vR x), a1] st μ G = ev 184 109 [some (vR x), a1] (vR x :: st) μ G := ev_stp pg_184_108 rfl
theorem pg_184_109 : mm_prog 184 109 = some (0, .iload_n 1, 110, []) := by decide +kernel
theorem xe_184_109 (a0 : Option MV) (x : Int) (st : List MV) (μ : MM) (G : MG) : ev 184 109 [a0, some (vI x)] st μ G = ev 184 110 [a0, some (vI x)] (vI x :: st) μ G := ev_stp pg_184_109 rfl
theorem pg_184_110 : mm_prog 184 110 = some (0, .bipush 11, 112, []) := by decide +kernel
theorem xe_184_110 (a0 a1 : Option MV) (st : List MV) (μ : MM) (G : MG) : ev 184 110 [a0, a1] st μ G = ev 184 112 [a0, a1] (vI (11) :: st) μ G := ev_stp pg_184_110 rfl
theorem pg_184_112 : mm_prog 184 112 = some (1, .invokevirtual 244, 115, [1, 168, 2, 11]) := by decide +kernel
theorem xe_184_112 (a0 a1 : Option MV) (x0 x1 z r0 r1 : Int) (μ : MM) (G : MG) : ev 184 112 [a0, a1] (vI x1 :: vI x0 :: vR z :: [vI r0, vR r1]) μ G = if gk G z = 11 ∧ 0 < z then (ev 168 0 [some (vR z), some (vI x0), some (vI x1)] [] μ G).bind (fun q => ev 184 115 [a0, a1] (q.1.toList ++ [vI r0, vR r1]) q.2.1 q.2.2) else none := ev_calV (as := [vR z, vI x0, vI x1]) (r := [vI r0, vR r1]) mx_168 pg_184_112 rfl rfl (Nat.le_of_ble_eq_true rfl) (Nat.le_of_ble_eq_true rfl)
theorem pg_184_115 : mm_prog 184 115 = some (0, .iastore, 116, []) := by decide +kernel
theorem xe_184_115 (a0 a1 : Option MV) (x y z : Int) (st : List MV) (μ : MM) (G : MG) : ev 184 115 [a0, a1] (vI x :: vI y :: vR z :: st) μ G = if gk G z = 100 ∧ 0 ≤ y ∧ y < gl G z ∧ 10 ≤ z then ev 184 116 [a0, a1] st (mset μ z y x) G else none := ev_if pg_184_115 rfl
theorem pg_184_116 : mm_prog 184 116 = some (0, .aload_n 0, 117, []) := by decide +kernel
theorem xe_184_116 (a1 : Option MV) (x : Int) (st : List MV) (μ : MM) (G : MG) : ev 184 116 [some (vR x), a1] st μ G = ev 184 117 [some (vR x), a1] (vR x :: st) μ G := ev_stp pg_184_116 rfl
theorem pg_184_117 : mm_prog 184 117 = some (0, .getfield 63, 120, [11, 29, 2]) := by decide +kernel
theorem xe_184_117 (a0 a1 : Option MV) (x : Int) (st : List MV) (μ : MM) (G : MG) : ev 184 117 [a0, a1] (vR x :: st) μ G = if gk G x = 11 then ev 184 120 [a0, a1] (vR (μ x 29) :: st) μ G else none := ev_if pg_184_117 rfl
theorem pg_184_120 : mm_prog 184 120 = some (0, .bipush 8, 122, []) := by decide +kernel
theorem xe_184_120 (a0 a1 : Option MV) (st : List MV) (μ : MM) (G : MG) : ev 184 120 [a0, a1] st μ G = ev 184 122 [a0, a1] (vI (8) :: st) μ G := ev_stp pg_184_120 rfl
theorem pg_184_122 : mm_prog 184 122 = some (0, .aload_n 0, 123, []) := by decide +kernel
theorem xe_184_122 (a1 : Option MV) (x : Int) (st : List MV) (μ : MM) (G : MG) : ev 184 122 [some (vR x), a1] st μ G = ev 184 123 [some (vR x), a1] (vR x :: st) μ G := ev_stp pg_184_122 rfl
theorem pg_184_123 : mm_prog 184 123 = some (0, .iload_n 1, 124, []) := by decide +kernel
theorem xe_184_123 (a0 : Option MV) (x : Int) (st : List MV) (μ : MM) (G : MG) : ev 184 123 [a0, some (vI x)] st μ G = ev 184 124 [a0, some (vI x)] (vI x :: st) μ G := ev_stp pg_184_123 rfl
theorem pg_184_124 : mm_prog 184 124 = some (0, .iconst 3, 125, []) := by decide +kernel
theorem xe_184_124 (a0 a1 : Option MV) (st : List MV) (μ : MM) (G : MG) : ev 184 124 [a0, a1] st μ G = ev 184 125 [a0, a1] (vI (3) :: st) μ G := ev_stp pg_184_124 rfl
theorem pg_184_125 : mm_prog 184 125 = some (1, .invokevirtual 244, 128, [1, 168, 2, 11]) := by decide +kernel
theorem xe_184_125 (a0 a1 : Option MV) (x0 x1 z r0 r1 : Int) (μ : MM) (G : MG) : ev 184 125 [a0, a1] (vI x1 :: vI x0 :: vR z :: [vI r0, vR r1]) μ G = if gk G z = 11 ∧ 0 < z then (ev 168 0 [some (vR z), some (vI x0), some (vI x1)] [] μ G).bind (fun q => ev 184 128 [a0, a1] (q.1.toList ++ [vI r0, vR r1]) q.2.1 q.2.2) else none := ev_calV (as := [vR z, vI x0, vI x1]) (r := [vI r0, vR r1]) mx_168 pg_184_125 rfl rfl (Nat.le_of_ble_eq_true rfl) (Nat.le_of_ble_eq_true rfl)
theorem pg_184_128 : mm_prog 184 128 = some (0, .iastore, 129, []) := by decide +kernel
theorem xe_184_128 (a0 a1 : Option MV) (x y z : Int) (st : List MV) (μ : MM) (G : MG) : ev 184 128 [a0, a1] (vI x :: vI y :: vR z :: st) μ G = if gk G z = 100 ∧ 0 ≤ y ∧ y < gl G z ∧ 10 ≤ z then ev 184 129 [a0, a1] st (mset μ z y x) G else none := ev_if pg_184_128 rfl
theorem pg_184_129 : mm_prog 184 129 = some (2, .return_, 130, []) := by decide +kernel
theorem xe_184_129 (a0 a1 : Option MV) (μ : MM) (G : MG) : ev 184 129 [a0, a1] [] μ G = some (none, μ, G) := ev_ret pg_184_129 rfl
-- X11_forgesName
theorem pg_185_0 : mm_prog 185 0 = some (0, .aload_n 0, 1, []) := by decide +kernel
theorem xe_185_0 (a1 a2 : Option MV) (x : Int) (st : List MV) (μ : MM) (G : MG) : ev 185 0 [some (vR x), a1, a2] st μ G = ev 185 1 [some (vR x), a1, a2] (vR x :: st) μ G := ev_stp pg_185_0 rfl
theorem pg_185_1 : mm_prog 185 1 = some (0, .getfield 57, 4, [11, 26, 2]) := by decide +kernel
theorem xe_185_1 (a0 a1 a2 : Option MV) (x : Int) (st : List MV) (μ : MM) (G : MG) : ev 185 1 [a0, a1, a2] (vR x :: st) μ G = if gk G x = 11 then ev 185 4 [a0, a1, a2] (vR (μ x 26) :: st) μ G else none := ev_if pg_185_1 rfl
theorem pg_185_4 : mm_prog 185 4 = some (0, .iload_n 1, 5, []) := by decide +kernel
theorem xe_185_4 (a0 a2 : Option MV) (x : Int) (st : List MV) (μ : MM) (G : MG) : ev 185 4 [a0, some (vI x), a2] st μ G = ev 185 5 [a0, some (vI x), a2] (vI x :: st) μ G := ev_stp pg_185_4 rfl
theorem pg_185_5 : mm_prog 185 5 = some (0, .iconst 3, 6, []) := by decide +kernel
theorem xe_185_5 (a0 a1 a2 : Option MV) (st : List MV) (μ : MM) (G : MG) : ev 185 5 [a0, a1, a2] st μ G = ev 185 6 [a0, a1, a2] (vI (3) :: st) μ G := ev_stp pg_185_5 rfl
theorem pg_185_6 : mm_prog 185 6 = some (0, .iadd, 7, []) := by decide +kernel
theorem xe_185_6 (a0 a1 a2 : Option MV) (x y : Int) (st : List MV) (μ : MM) (G : MG) : ev 185 6 [a0, a1, a2] (vI y :: vI x :: st) μ G = ev 185 7 [a0, a1, a2] (vI (w32 (x + y)) :: st) μ G := ev_stp pg_185_6 rfl
theorem pg_185_7 : mm_prog 185 7 = some (0, .sipush 252, 10, []) := by decide +kernel
theorem xe_185_7 (a0 a1 a2 : Option MV) (st : List MV) (μ : MM) (G : MG) : ev 185 7 [a0, a1, a2] st μ G = ev 185 10 [a0, a1, a2] (vI (252) :: st) μ G := ev_stp pg_185_7 rfl
theorem pg_185_10 : mm_prog 185 10 = some (0, .iastore, 11, []) := by decide +kernel
theorem xe_185_10 (a0 a1 a2 : Option MV) (x y z : Int) (st : List MV) (μ : MM) (G : MG) : ev 185 10 [a0, a1, a2] (vI x :: vI y :: vR z :: st) μ G = if gk G z = 100 ∧ 0 ≤ y ∧ y < gl G z ∧ 10 ≤ z then ev 185 11 [a0, a1, a2] st (mset μ z y x) G else none := ev_if pg_185_10 rfl
theorem pg_185_11 : mm_prog 185 11 = some (0, .iconst 0, 12, []) := by decide +kernel
theorem xe_185_11 (a0 a1 a2 : Option MV) (st : List MV) (μ : MM) (G : MG) : ev 185 11 [a0, a1, a2] st μ G = ev 185 12 [a0, a1, a2] (vI (0) :: st) μ G := ev_stp pg_185_11 rfl
theorem pg_185_12 : mm_prog 185 12 = some (0, .istore_n 2, 13, []) := by decide +kernel
theorem xe_185_12 (a0 a1 a2 : Option MV) (x : Int) (st : List MV) (μ : MM) (G : MG) (h : mm_nL a1 = true) : ev 185 12 [a0, a1, a2] (vI x :: st) μ G = ev 185 13 [a0, a1, some (vI x)] st μ G := ev_st pg_185_12 rfl (mm_nl_of h) (Nat.le_of_ble_eq_true rfl)
theorem pg_185_13 : mm_prog 185 13 = some (0, .iload_n 2, 14, []) := by decide +kernel
theorem xe_185_13 (a0 a1 : Option MV) (x : Int) (st : List MV) (μ : MM) (G : MG) : ev 185 13 [a0, a1, some (vI x)] st μ G = ev 185 14 [a0, a1, some (vI x)] (vI x :: st) μ G := ev_stp pg_185_13 rfl
theorem pg_185_14 : mm_prog 185 14 = some (0, .bipush 13, 16, []) := by decide +kernel
theorem xe_185_14 (a0 a1 a2 : Option MV) (st : List MV) (μ : MM) (G : MG) : ev 185 14 [a0, a1, a2] st μ G = ev 185 16 [a0, a1, a2] (vI (13) :: st) μ G := ev_stp pg_185_14 rfl
theorem pg_185_16 : mm_prog 185 16 = some (0, .if_icmp .ge 51, 19, []) := by decide +kernel
theorem xe_185_16 (a0 a1 a2 : Option MV) (x y : Int) (st : List MV) (μ : MM) (G : MG) : ev 185 16 [a0, a1, a2] (vI y :: vI x :: st) μ G = if y ≤ x then ev 185 67 [a0, a1, a2] st μ G else ev 185 19 [a0, a1, a2] st μ G := ev_br (mm_cnd_ge x y) pg_185_16 rfl
theorem pg_185_19 : mm_prog 185 19 = some (0, .aload_n 0, 20, []) := by decide +kernel
theorem xe_185_19 (a1 a2 : Option MV) (x : Int) (st : List MV) (μ : MM) (G : MG) : ev 185 19 [some (vR x), a1, a2] st μ G = ev 185 20 [some (vR x), a1, a2] (vR x :: st) μ G := ev_stp pg_185_19 rfl
theorem pg_185_20 : mm_prog 185 20 = some (0, .getfield 57, 23, [11, 26, 2]) := by decide +kernel
theorem xe_185_20 (a0 a1 a2 : Option MV) (x : Int) (st : List MV) (μ : MM) (G : MG) : ev 185 20 [a0, a1, a2] (vR x :: st) μ G = if gk G x = 11 then ev 185 23 [a0, a1, a2] (vR (μ x 26) :: st) μ G else none := ev_if pg_185_20 rfl
theorem pg_185_23 : mm_prog 185 23 = some (0, .iload_n 1, 24, []) := by decide +kernel
theorem xe_185_23 (a0 a2 : Option MV) (x : Int) (st : List MV) (μ : MM) (G : MG) : ev 185 23 [a0, some (vI x), a2] st μ G = ev 185 24 [a0, some (vI x), a2] (vI x :: st) μ G := ev_stp pg_185_23 rfl
theorem pg_185_24 : mm_prog 185 24 = some (0, .iconst 5, 25, []) := by decide +kernel
theorem xe_185_24 (a0 a1 a2 : Option MV) (st : List MV) (μ : MM) (G : MG) : ev 185 24 [a0, a1, a2] st μ G = ev 185 25 [a0, a1, a2] (vI (5) :: st) μ G := ev_stp pg_185_24 rfl
theorem pg_185_25 : mm_prog 185 25 = some (0, .iadd, 26, []) := by decide +kernel
theorem xe_185_25 (a0 a1 a2 : Option MV) (x y : Int) (st : List MV) (μ : MM) (G : MG) : ev 185 25 [a0, a1, a2] (vI y :: vI x :: st) μ G = ev 185 26 [a0, a1, a2] (vI (w32 (x + y)) :: st) μ G := ev_stp pg_185_25 rfl
theorem pg_185_26 : mm_prog 185 26 = some (0, .iload_n 2, 27, []) := by decide +kernel
theorem xe_185_26 (a0 a1 : Option MV) (x : Int) (st : List MV) (μ : MM) (G : MG) : ev 185 26 [a0, a1, some (vI x)] st μ G = ev 185 27 [a0, a1, some (vI x)] (vI x :: st) μ G := ev_stp pg_185_26 rfl
theorem pg_185_27 : mm_prog 185 27 = some (0, .iadd, 28, []) := by decide +kernel
theorem xe_185_27 (a0 a1 a2 : Option MV) (x y : Int) (st : List MV) (μ : MM) (G : MG) : ev 185 27 [a0, a1, a2] (vI y :: vI x :: st) μ G = ev 185 28 [a0, a1, a2] (vI (w32 (x + y)) :: st) μ G := ev_stp pg_185_27 rfl
theorem pg_185_28 : mm_prog 185 28 = some (0, .iload_n 2, 29, []) := by decide +kernel
theorem xe_185_28 (a0 a1 : Option MV) (x : Int) (st : List MV) (μ : MM) (G : MG) : ev 185 28 [a0, a1, some (vI x)] st μ G = ev 185 29 [a0, a1, some (vI x)] (vI x :: st) μ G := ev_stp pg_185_28 rfl
theorem pg_185_29 : mm_prog 185 29 = some (0, .aload_n 0, 30, []) := by decide +kernel
theorem xe_185_29 (a1 a2 : Option MV) (x : Int) (st : List MV) (μ : MM) (G : MG) : ev 185 29 [some (vR x), a1, a2] st μ G = ev 185 30 [some (vR x), a1, a2] (vR x :: st) μ G := ev_stp pg_185_29 rfl
theorem pg_185_30 : mm_prog 185 30 = some (0, .getfield 147, 33, [11, 14, 0]) := by decide +kernel
theorem xe_185_30 (a0 a1 a2 : Option MV) (x : Int) (st : List MV) (μ : MM) (G : MG) : ev 185 30 [a0, a1, a2] (vR x :: st) μ G = if gk G x = 11 then ev 185 33 [a0, a1, a2] (vI (μ x 14) :: st) μ G else none := ev_if pg_185_30 rfl
theorem pg_185_33 : mm_prog 185 33 = some (0, .if_icmp .ge 12, 36, []) := by decide +kernel
theorem xe_185_33 (a0 a1 a2 : Option MV) (x y : Int) (st : List MV) (μ : MM) (G : MG) : ev 185 33 [a0, a1, a2] (vI y :: vI x :: st) μ G = if y ≤ x then ev 185 45 [a0, a1, a2] st μ G else ev 185 36 [a0, a1, a2] st μ G := ev_br (mm_cnd_ge x y) pg_185_33 rfl
theorem pg_185_36 : mm_prog 185 36 = some (0, .aload_n 0, 37, []) := by decide +kernel
theorem xe_185_36 (a1 a2 : Option MV) (x : Int) (st : List MV) (μ : MM) (G : MG) : ev 185 36 [some (vR x), a1, a2] st μ G = ev 185 37 [some (vR x), a1, a2] (vR x :: st) μ G := ev_stp pg_185_36 rfl
theorem pg_185_37 : mm_prog 185 37 = some (0, .getfield 29, 40, [11, 10, 2]) := by decide +kernel
theorem xe_185_37 (a0 a1 a2 : Option MV) (x : Int) (st : List MV) (μ : MM) (G : MG) : ev 185 37 [a0, a1, a2] (vR x :: st) μ G = if gk G x = 11 then ev 185 40 [a0, a1, a2] (vR (μ x 10) :: st) μ G else none := ev_if pg_185_37 rfl
theorem pg_185_40 : mm_prog 185 40 = some (0, .iload_n 2, 41, []) := by decide +kernel
theorem xe_185_40 (a0 a1 : Option MV) (x : Int) (st : List MV) (μ : MM) (G : MG) : ev 185 40 [a0, a1, some (vI x)] st μ G = ev 185 41 [a0, a1, some (vI x)] (vI x :: st) μ G := ev_stp pg_185_40 rfl
theorem pg_185_41 : mm_prog 185 41 = some (0, .iaload, 42, []) := by decide +kernel
theorem xe_185_41 (a0 a1 a2 : Option MV) (x y : Int) (st : List MV) (μ : MM) (G : MG) : ev 185 41 [a0, a1, a2] (vI x :: vR y :: st) μ G = if gk G y = 100 ∧ 0 ≤ x ∧ x < gl G y then ev 185 42 [a0, a1, a2] (vI (μ y x) :: st) μ G else none := ev_if pg_185_41 rfl
theorem pg_185_42 : mm_prog 185 42 = some (0, .goto 18, 45, []) := by decide +kernel
theorem xe_185_42 (a0 a1 a2 : Option MV) (st : List MV) (μ : MM) (G : MG) : ev 185 42 [a0, a1, a2] st μ G = ev 185 60 [a0, a1, a2] st μ G := ev_stp pg_185_42 rfl
theorem pg_185_45 : mm_prog 185 45 = some (0, .iload_n 2, 46, []) := by decide +kernel
theorem xe_185_45 (a0 a1 : Option MV) (x : Int) (st : List MV) (μ : MM) (G : MG) : ev 185 45 [a0, a1, some (vI x)] st μ G = ev 185 46 [a0, a1, some (vI x)] (vI x :: st) μ G := ev_stp pg_185_45 rfl
theorem pg_185_46 : mm_prog 185 46 = some (0, .aload_n 0, 47, []) := by decide +kernel
theorem xe_185_46 (a1 a2 : Option MV) (x : Int) (st : List MV) (μ : MM) (G : MG) : ev 185 46 [some (vR x), a1, a2] st μ G = ev 185 47 [some (vR x), a1, a2] (vR x :: st) μ G := ev_stp pg_185_46 rfl
theorem pg_185_47 : mm_prog 185 47 = some (0, .getfield 147, 50, [11, 14, 0]) := by decide +kernel
theorem xe_185_47 (a0 a1 a2 : Option MV) (x : Int) (st : List MV) (μ : MM) (G : MG) : ev 185 47 [a0, a1, a2] (vR x :: st) μ G = if gk G x = 11 then ev 185 50 [a0, a1, a2] (vI (μ x 14) :: st) μ G else none := ev_if pg_185_47 rfl
theorem pg_185_50 : mm_prog 185 50 = some (0, .if_icmp .ne 8, 53, []) := by decide +kernel
theorem xe_185_50 (a0 a1 a2 : Option MV) (x y : Int) (st : List MV) (μ : MM) (G : MG) : ev 185 50 [a0, a1, a2] (vI y :: vI x :: st) μ G = if ¬ x = y then ev 185 58 [a0, a1, a2] st μ G else ev 185 53 [a0, a1, a2] st μ G := ev_br (mm_cnd_ne x y) pg_185_50 rfl
theorem pg_185_53 : mm_prog 185 53 = some (0, .bipush 10, 55, []) := by decide +kernel
theorem xe_185_53 (a0 a1 a2 : Option MV) (st : List MV) (μ : MM) (G : MG) : ev 185 53 [a0, a1, a2] st μ G = ev 185 55 [a0, a1, a2] (vI (10) :: st) μ G := ev_stp pg_185_53 rfl
theorem pg_185_55 : mm_prog 185 55 = some (0, .goto 5, 58, []) := by decide +kernel
theorem xe_185_55 (a0 a1 a2 : Option MV) (st : List MV) (μ : MM) (G : MG) : ev 185 55 [a0, a1, a2] st μ G = ev 185 60 [a0, a1, a2] st μ G := ev_stp pg_185_55 rfl
theorem pg_185_58 : mm_prog 185 58 = some (0, .bipush 32, 60, []) := by decide +kernel
theorem xe_185_58 (a0 a1 a2 : Option MV) (st : List MV) (μ : MM) (G : MG) : ev 185 58 [a0, a1, a2] st μ G = ev 185 60 [a0, a1, a2] (vI (32) :: st) μ G := ev_stp pg_185_58 rfl
theorem pg_185_60 : mm_prog 185 60 = some (0, .iastore, 61, []) := by decide +kernel
theorem xe_185_60 (a0 a1 a2 : Option MV) (x y z : Int) (st : List MV) (μ : MM) (G : MG) : ev 185 60 [a0, a1, a2] (vI x :: vI y :: vR z :: st) μ G = if gk G z = 100 ∧ 0 ≤ y ∧ y < gl G z ∧ 10 ≤ z then ev 185 61 [a0, a1, a2] st (mset μ z y x) G else none := ev_if pg_185_60 rfl
theorem pg_185_61 : mm_prog 185 61 = some (0, .iinc 2 1, 64, []) := by decide +kernel
theorem xe_185_61 (a0 a1 : Option MV) (x : Int) (st : List MV) (μ : MM) (G : MG) (h : mm_nL a1 = true) : ev 185 61 [a0, a1, some (vI x)] st μ G = ev 185 64 [a0, a1, some (vI (w32 (x + (1))))] st μ G := ev_st pg_185_61 rfl (mm_nl_of h) (Nat.le_of_ble_eq_true rfl)
theorem pg_185_64 : mm_prog 185 64 = some (0, .goto (-51), 67, []) := by decide +kernel
theorem xe_185_64 (a0 a1 a2 : Option MV) (st : List MV) (μ : MM) (G : MG) : ev 185 64 [a0, a1, a2] st μ G = ev 185 13 [a0, a1, a2] st μ G := ev_stp pg_185_64 rfl
theorem pg_185_67 : mm_prog 185 67 = some (2, .return_, 68, []) := by decide +kernel
theorem xe_185_67 (a0 a1 a2 : Option MV) (μ : MM) (G : MG) : ev 185 67 [a0, a1, a2] [] μ G = some (none, μ, G) := ev_ret pg_185_67 rfl
-- X11_forgesRange
theorem pg_186_0 : mm_prog 186 0 = some (0, .aload_n 0, 1, []) := by decide +kernel
theorem xe_186_0 (a1 a2 : Option MV) (x : Int) (st : List MV) (μ : MM) (G : MG) : ev 186 0 [some (vR x), a1, a2] st μ G = ev 186 1 [some (vR x), a1, a2] (vR x :: st) μ G := ev_stp pg_186_0 rfl
theorem pg_186_1 : mm_prog 186 1 = some (0, .getfield 57, 4, [11, 26, 2]) := by decide +kernel
theorem xe_186_1 (a0 a1 a2 : Option MV) (x : Int) (st : List MV) (μ : MM) (G : MG) : ev 186 1 [a0, a1, a2] (vR x :: st) μ G = if gk G x = 11 then ev 186 4 [a0, a1, a2] (vR (μ x 26) :: st) μ G else none := ev_if pg_186_1 rfl
theorem pg_186_4 : mm_prog 186 4 = some (0, .iload_n 1, 5, []) := by decide +kernel
theorem xe_186_4 (a0 a2 : Option MV) (x : Int) (st : List MV) (μ : MM) (G : MG) : ev 186 4 [a0, some (vI x), a2] st μ G = ev 186 5 [a0, some (vI x), a2] (vI x :: st) μ G := ev_stp pg_186_4 rfl
theorem pg_186_5 : mm_prog 186 5 = some (0, .iconst 3, 6, []) := by decide +kernel
theorem xe_186_5 (a0 a1 a2 : Option MV) (st : List MV) (μ : MM) (G : MG) : ev 186 5 [a0, a1, a2] st μ G = ev 186 6 [a0, a1, a2] (vI (3) :: st) μ G := ev_stp pg_186_5 rfl
theorem pg_186_6 : mm_prog 186 6 = some (0, .iadd, 7, []) := by decide +kernel
theorem xe_186_6 (a0 a1 a2 : Option MV) (x y : Int) (st : List MV) (μ : MM) (G : MG) : ev 186 6 [a0, a1, a2] (vI y :: vI x :: st) μ G = ev 186 7 [a0, a1, a2] (vI (w32 (x + y)) :: st) μ G := ev_stp pg_186_6 rfl
theorem pg_186_7 : mm_prog 186 7 = some (0, .sipush 253, 10, []) := by decide +kernel
theorem xe_186_7 (a0 a1 a2 : Option MV) (st : List MV) (μ : MM) (G : MG) : ev 186 7 [a0, a1, a2] st μ G = ev 186 10 [a0, a1, a2] (vI (253) :: st) μ G := ev_stp pg_186_7 rfl
theorem pg_186_10 : mm_prog 186 10 = some (0, .iastore, 11, []) := by decide +kernel
theorem xe_186_10 (a0 a1 a2 : Option MV) (x y z : Int) (st : List MV) (μ : MM) (G : MG) : ev 186 10 [a0, a1, a2] (vI x :: vI y :: vR z :: st) μ G = if gk G z = 100 ∧ 0 ≤ y ∧ y < gl G z ∧ 10 ≤ z then ev 186 11 [a0, a1, a2] st (mset μ z y x) G else none := ev_if pg_186_10 rfl
theorem pg_186_11 : mm_prog 186 11 = some (0, .iconst 0, 12, []) := by decide +kernel
theorem xe_186_11 (a0 a1 a2 : Option MV) (st : List MV) (μ : MM) (G : MG) : ev 186 11 [a0, a1, a2] st μ G = ev 186 12 [a0, a1, a2] (vI (0) :: st) μ G := ev_stp pg_186_11 rfl
theorem pg_186_12 : mm_prog 186 12 = some (0, .istore_n 2, 13, []) := by decide +kernel
theorem xe_186_12 (a0 a1 a2 : Option MV) (x : Int) (st : List MV) (μ : MM) (G : MG) (h : mm_nL a1 = true) : ev 186 12 [a0, a1, a2] (vI x :: st) μ G = ev 186 13 [a0, a1, some (vI x)] st μ G := ev_st pg_186_12 rfl (mm_nl_of h) (Nat.le_of_ble_eq_true rfl)
theorem pg_186_13 : mm_prog 186 13 = some (0, .iload_n 2, 14, []) := by decide +kernel
theorem xe_186_13 (a0 a1 : Option MV) (x : Int) (st : List MV) (μ : MM) (G : MG) : ev 186 13 [a0, a1, some (vI x)] st μ G = ev 186 14 [a0, a1, some (vI x)] (vI x :: st) μ G := ev_stp pg_186_13 rfl
theorem pg_186_14 : mm_prog 186 14 = some (0, .iconst 4, 15, []) := by decide +kernel
theorem xe_186_14 (a0 a1 a2 : Option MV) (st : List MV) (μ : MM) (G : MG) : ev 186 14 [a0, a1, a2] st μ G = ev 186 15 [a0, a1, a2] (vI (4) :: st) μ G := ev_stp pg_186_14 rfl
theorem pg_186_15 : mm_prog 186 15 = some (0, .if_icmp .ge 25, 18, []) := by decide +kernel
theorem xe_186_15 (a0 a1 a2 : Option MV) (x y : Int) (st : List MV) (μ : MM) (G : MG) : ev 186 15 [a0, a1, a2] (vI y :: vI x :: st) μ G = if y ≤ x then ev 186 40 [a0, a1, a2] st μ G else ev 186 18 [a0, a1, a2] st μ G := ev_br (mm_cnd_ge x y) pg_186_15 rfl
theorem pg_186_18 : mm_prog 186 18 = some (0, .aload_n 0, 19, []) := by decide +kernel
theorem xe_186_18 (a1 a2 : Option MV) (x : Int) (st : List MV) (μ : MM) (G : MG) : ev 186 18 [some (vR x), a1, a2] st μ G = ev 186 19 [some (vR x), a1, a2] (vR x :: st) μ G := ev_stp pg_186_18 rfl
theorem pg_186_19 : mm_prog 186 19 = some (0, .getfield 57, 22, [11, 26, 2]) := by decide +kernel
theorem xe_186_19 (a0 a1 a2 : Option MV) (x : Int) (st : List MV) (μ : MM) (G : MG) : ev 186 19 [a0, a1, a2] (vR x :: st) μ G = if gk G x = 11 then ev 186 22 [a0, a1, a2] (vR (μ x 26) :: st) μ G else none := ev_if pg_186_19 rfl
theorem pg_186_22 : mm_prog 186 22 = some (0, .iload_n 1, 23, []) := by decide +kernel
theorem xe_186_22 (a0 a2 : Option MV) (x : Int) (st : List MV) (μ : MM) (G : MG) : ev 186 22 [a0, some (vI x), a2] st μ G = ev 186 23 [a0, some (vI x), a2] (vI x :: st) μ G := ev_stp pg_186_22 rfl
theorem pg_186_23 : mm_prog 186 23 = some (0, .iconst 5, 24, []) := by decide +kernel
theorem xe_186_23 (a0 a1 a2 : Option MV) (st : List MV) (μ : MM) (G : MG) : ev 186 23 [a0, a1, a2] st μ G = ev 186 24 [a0, a1, a2] (vI (5) :: st) μ G := ev_stp pg_186_23 rfl
theorem pg_186_24 : mm_prog 186 24 = some (0, .iadd, 25, []) := by decide +kernel
theorem xe_186_24 (a0 a1 a2 : Option MV) (x y : Int) (st : List MV) (μ : MM) (G : MG) : ev 186 24 [a0, a1, a2] (vI y :: vI x :: st) μ G = ev 186 25 [a0, a1, a2] (vI (w32 (x + y)) :: st) μ G := ev_stp pg_186_24 rfl
theorem pg_186_25 : mm_prog 186 25 = some (0, .iload_n 2, 26, []) := by decide +kernel
theorem xe_186_25 (a0 a1 : Option MV) (x : Int) (st : List MV) (μ : MM) (G : MG) : ev 186 25 [a0, a1, some (vI x)] st μ G = ev 186 26 [a0, a1, some (vI x)] (vI x :: st) μ G := ev_stp pg_186_25 rfl
theorem pg_186_26 : mm_prog 186 26 = some (0, .iadd, 27, []) := by decide +kernel
theorem xe_186_26 (a0 a1 a2 : Option MV) (x y : Int) (st : List MV) (μ : MM) (G : MG) : ev 186 26 [a0, a1, a2] (vI y :: vI x :: st) μ G = ev 186 27 [a0, a1, a2] (vI (w32 (x + y)) :: st) μ G := ev_stp pg_186_26 rfl
theorem pg_186_27 : mm_prog 186 27 = some (0, .aload_n 0, 28, []) := by decide +kernel
theorem xe_186_27 (a1 a2 : Option MV) (x : Int) (st : List MV) (μ : MM) (G : MG) : ev 186 27 [some (vR x), a1, a2] st μ G = ev 186 28 [some (vR x), a1, a2] (vR x :: st) μ G := ev_stp pg_186_27 rfl
theorem pg_186_28 : mm_prog 186 28 = some (0, .getfield 32, 31, [11, 11, 2]) := by decide +kernel
theorem xe_186_28 (a0 a1 a2 : Option MV) (x : Int) (st : List MV) (μ : MM) (G : MG) : ev 186 28 [a0, a1, a2] (vR x :: st) μ G = if gk G x = 11 then ev 186 31 [a0, a1, a2] (vR (μ x 11) :: st) μ G else none := ev_if pg_186_28 rfl
theorem pg_186_31 : mm_prog 186 31 = some (0, .iload_n 2, 32, []) := by decide +kernel
theorem xe_186_31 (a0 a1 : Option MV) (x : Int) (st : List MV) (μ : MM) (G : MG) : ev 186 31 [a0, a1, some (vI x)] st μ G = ev 186 32 [a0, a1, some (vI x)] (vI x :: st) μ G := ev_stp pg_186_31 rfl
theorem pg_186_32 : mm_prog 186 32 = some (0, .iaload, 33, []) := by decide +kernel
theorem xe_186_32 (a0 a1 a2 : Option MV) (x y : Int) (st : List MV) (μ : MM) (G : MG) : ev 186 32 [a0, a1, a2] (vI x :: vR y :: st) μ G = if gk G y = 100 ∧ 0 ≤ x ∧ x < gl G y then ev 186 33 [a0, a1, a2] (vI (μ y x) :: st) μ G else none := ev_if pg_186_32 rfl
theorem pg_186_33 : mm_prog 186 33 = some (0, .iastore, 34, []) := by decide +kernel
theorem xe_186_33 (a0 a1 a2 : Option MV) (x y z : Int) (st : List MV) (μ : MM) (G : MG) : ev 186 33 [a0, a1, a2] (vI x :: vI y :: vR z :: st) μ G = if gk G z = 100 ∧ 0 ≤ y ∧ y < gl G z ∧ 10 ≤ z then ev 186 34 [a0, a1, a2] st (mset μ z y x) G else none := ev_if pg_186_33 rfl
theorem pg_186_34 : mm_prog 186 34 = some (0, .iinc 2 1, 37, []) := by decide +kernel
theorem xe_186_34 (a0 a1 : Option MV) (x : Int) (st : List MV) (μ : MM) (G : MG) (h : mm_nL a1 = true) : ev 186 34 [a0, a1, some (vI x)] st μ G = ev 186 37 [a0, a1, some (vI (w32 (x + (1))))] st μ G := ev_st pg_186_34 rfl (mm_nl_of h) (Nat.le_of_ble_eq_true rfl)
theorem pg_186_37 : mm_prog 186 37 = some (0, .goto (-24), 40, []) := by decide +kernel
theorem xe_186_37 (a0 a1 a2 : Option MV) (st : List MV) (μ : MM) (G : MG) : ev 186 37 [a0, a1, a2] st μ G = ev 186 13 [a0, a1, a2] st μ G := ev_stp pg_186_37 rfl
theorem pg_186_40 : mm_prog 186 40 = some (0, .aload_n 0, 41, []) := by decide +kernel
theorem xe_186_40 (a1 a2 : Option MV) (x : Int) (st : List MV) (μ : MM) (G : MG) : ev 186 40 [some (vR x), a1, a2] st μ G = ev 186 41 [some (vR x), a1, a2] (vR x :: st) μ G := ev_stp pg_186_40 rfl
theorem pg_186_41 : mm_prog 186 41 = some (0, .getfield 57, 44, [11, 26, 2]) := by decide +kernel
theorem xe_186_41 (a0 a1 a2 : Option MV) (x : Int) (st : List MV) (μ : MM) (G : MG) : ev 186 41 [a0, a1, a2] (vR x :: st) μ G = if gk G x = 11 then ev 186 44 [a0, a1, a2] (vR (μ x 26) :: st) μ G else none := ev_if pg_186_41 rfl
theorem pg_186_44 : mm_prog 186 44 = some (0, .iload_n 1, 45, []) := by decide +kernel
theorem xe_186_44 (a0 a2 : Option MV) (x : Int) (st : List MV) (μ : MM) (G : MG) : ev 186 44 [a0, some (vI x), a2] st μ G = ev 186 45 [a0, some (vI x), a2] (vI x :: st) μ G := ev_stp pg_186_44 rfl
theorem pg_186_45 : mm_prog 186 45 = some (0, .bipush 9, 47, []) := by decide +kernel
theorem xe_186_45 (a0 a1 a2 : Option MV) (st : List MV) (μ : MM) (G : MG) : ev 186 45 [a0, a1, a2] st μ G = ev 186 47 [a0, a1, a2] (vI (9) :: st) μ G := ev_stp pg_186_45 rfl
theorem pg_186_47 : mm_prog 186 47 = some (0, .iadd, 48, []) := by decide +kernel
theorem xe_186_47 (a0 a1 a2 : Option MV) (x y : Int) (st : List MV) (μ : MM) (G : MG) : ev 186 47 [a0, a1, a2] (vI y :: vI x :: st) μ G = ev 186 48 [a0, a1, a2] (vI (w32 (x + y)) :: st) μ G := ev_stp pg_186_47 rfl
theorem pg_186_48 : mm_prog 186 48 = some (0, .aload_n 0, 49, []) := by decide +kernel
theorem xe_186_48 (a1 a2 : Option MV) (x : Int) (st : List MV) (μ : MM) (G : MG) : ev 186 48 [some (vR x), a1, a2] st μ G = ev 186 49 [some (vR x), a1, a2] (vR x :: st) μ G := ev_stp pg_186_48 rfl
theorem pg_186_49 : mm_prog 186 49 = some (0, .getfield 32, 52, [11, 11, 2]) := by decide +kernel
theorem xe_186_49 (a0 a1 a2 : Option MV) (x : Int) (st : List MV) (μ : MM) (G : MG) : ev 186 49 [a0, a1, a2] (vR x :: st) μ G = if gk G x = 11 then ev 186 52 [a0, a1, a2] (vR (μ x 11) :: st) μ G else none := ev_if pg_186_49 rfl
theorem pg_186_52 : mm_prog 186 52 = some (0, .iconst 4, 53, []) := by decide +kernel
theorem xe_186_52 (a0 a1 a2 : Option MV) (st : List MV) (μ : MM) (G : MG) : ev 186 52 [a0, a1, a2] st μ G = ev 186 53 [a0, a1, a2] (vI (4) :: st) μ G := ev_stp pg_186_52 rfl
theorem pg_186_53 : mm_prog 186 53 = some (0, .iaload, 54, []) := by decide +kernel
theorem xe_186_53 (a0 a1 a2 : Option MV) (x y : Int) (st : List MV) (μ : MM) (G : MG) : ev 186 53 [a0, a1, a2] (vI x :: vR y :: st) μ G = if gk G y = 100 ∧ 0 ≤ x ∧ x < gl G y then ev 186 54 [a0, a1, a2] (vI (μ y x) :: st) μ G else none := ev_if pg_186_53 rfl
theorem pg_186_54 : mm_prog 186 54 = some (0, .sipush 10000, 57, []) := by decide +kernel
theorem xe_186_54 (a0 a1 a2 : Option MV) (st : List MV) (μ : MM) (G : MG) : ev 186 54 [a0, a1, a2] st μ G = ev 186 57 [a0, a1, a2] (vI (10000) :: st) μ G := ev_stp pg_186_54 rfl
theorem pg_186_57 : mm_prog 186 57 = some (0, .idiv, 58, []) := by decide +kernel
theorem xe_186_57 (a0 a1 a2 : Option MV) (x y : Int) (st : List MV) (μ : MM) (G : MG) : ev 186 57 [a0, a1, a2] (vI y :: vI x :: st) μ G = if y = 0 then none else ev 186 58 [a0, a1, a2] (vI (mm_div x y) :: st) μ G := ev_no pg_186_57 rfl
theorem pg_186_58 : mm_prog 186 58 = some (0, .iastore, 59, []) := by decide +kernel
theorem xe_186_58 (a0 a1 a2 : Option MV) (x y z : Int) (st : List MV) (μ : MM) (G : MG) : ev 186 58 [a0, a1, a2] (vI x :: vI y :: vR z :: st) μ G = if gk G z = 100 ∧ 0 ≤ y ∧ y < gl G z ∧ 10 ≤ z then ev 186 59 [a0, a1, a2] st (mset μ z y x) G else none := ev_if pg_186_58 rfl
theorem pg_186_59 : mm_prog 186 59 = some (2, .return_, 60, []) := by decide +kernel
theorem xe_186_59 (a0 a1 a2 : Option MV) (μ : MM) (G : MG) : ev 186 59 [a0, a1, a2] [] μ G = some (none, μ, G) := ev_ret pg_186_59 rfl
-- X11_forges
theorem pg_187_0 : mm_prog 187 0 = some (0, .iconst 0, 1, []) := by decide +kernel
theorem xe_187_0 (a0 a1 a2 a3 : Option MV) (st : List MV) (μ : MM) (G : MG) : ev 187 0 [a0, a1, a2, a3] st μ G = ev 187 1 [a0, a1, a2, a3] (vI (0) :: st) μ G := ev_stp pg_187_0 rfl
theorem pg_187_1 : mm_prog 187 1 = some (0, .istore_n 1, 2, []) := by decide +kernel
theorem xe_187_1 (a0 a1 a2 a3 : Option MV) (x : Int) (st : List MV) (μ : MM) (G : MG) (h : mm_nL a0 = true) : ev 187 1 [a0, a1, a2, a3] (vI x :: st) μ G = ev 187 2 [a0, some (vI x), a2, a3] st μ G := ev_st pg_187_1 rfl (mm_nl_of h) (Nat.le_of_ble_eq_true rfl)
theorem pg_187_2 : mm_prog 187 2 = some (0, .iload_n 1, 3, []) := by decide +kernel
theorem xe_187_2 (a0 a2 a3 : Option MV) (x : Int) (st : List MV) (μ : MM) (G : MG) : ev 187 2 [a0, some (vI x), a2, a3] st μ G = ev 187 3 [a0, some (vI x), a2, a3] (vI x :: st) μ G := ev_stp pg_187_2 rfl
theorem pg_187_3 : mm_prog 187 3 = some (0, .sipush 128, 6, []) := by decide +kernel
theorem xe_187_3 (a0 a1 a2 a3 : Option MV) (st : List MV) (μ : MM) (G : MG) : ev 187 3 [a0, a1, a2, a3] st μ G = ev 187 6 [a0, a1, a2, a3] (vI (128) :: st) μ G := ev_stp pg_187_3 rfl
theorem pg_187_6 : mm_prog 187 6 = some (0, .if_icmp .ge 32, 9, []) := by decide +kernel
theorem xe_187_6 (a0 a1 a2 a3 : Option MV) (x y : Int) (st : List MV) (μ : MM) (G : MG) : ev 187 6 [a0, a1, a2, a3] (vI y :: vI x :: st) μ G = if y ≤ x then ev 187 38 [a0, a1, a2, a3] st μ G else ev 187 9 [a0, a1, a2, a3] st μ G := ev_br (mm_cnd_ge x y) pg_187_6 rfl
theorem pg_187_9 : mm_prog 187 9 = some (0, .aload_n 0, 10, []) := by decide +kernel
theorem xe_187_9 (a1 a2 a3 : Option MV) (x : Int) (st : List MV) (μ : MM) (G : MG) : ev 187 9 [some (vR x), a1, a2, a3] st μ G = ev 187 10 [some (vR x), a1, a2, a3] (vR x :: st) μ G := ev_stp pg_187_9 rfl
theorem pg_187_10 : mm_prog 187 10 = some (0, .getfield 57, 13, [11, 26, 2]) := by decide +kernel
theorem xe_187_10 (a0 a1 a2 a3 : Option MV) (x : Int) (st : List MV) (μ : MM) (G : MG) : ev 187 10 [a0, a1, a2, a3] (vR x :: st) μ G = if gk G x = 11 then ev 187 13 [a0, a1, a2, a3] (vR (μ x 26) :: st) μ G else none := ev_if pg_187_10 rfl
theorem pg_187_13 : mm_prog 187 13 = some (0, .iload_n 1, 14, []) := by decide +kernel
theorem xe_187_13 (a0 a2 a3 : Option MV) (x : Int) (st : List MV) (μ : MM) (G : MG) : ev 187 13 [a0, some (vI x), a2, a3] st μ G = ev 187 14 [a0, some (vI x), a2, a3] (vI x :: st) μ G := ev_stp pg_187_13 rfl
theorem pg_187_14 : mm_prog 187 14 = some (0, .iload_n 1, 15, []) := by decide +kernel
theorem xe_187_14 (a0 a2 a3 : Option MV) (x : Int) (st : List MV) (μ : MM) (G : MG) : ev 187 14 [a0, some (vI x), a2, a3] st μ G = ev 187 15 [a0, some (vI x), a2, a3] (vI x :: st) μ G := ev_stp pg_187_14 rfl
theorem pg_187_15 : mm_prog 187 15 = some (0, .ifCond .le 15, 18, []) := by decide +kernel
theorem xe_187_15 (a0 a1 a2 a3 : Option MV) (x : Int) (st : List MV) (μ : MM) (G : MG) : ev 187 15 [a0, a1, a2, a3] (vI x :: st) μ G = if x ≤ 0 then ev 187 30 [a0, a1, a2, a3] st μ G else ev 187 18 [a0, a1, a2, a3] st μ G := ev_br (mm_cnd_le x 0) pg_187_15 rfl
theorem pg_187_18 : mm_prog 187 18 = some (0, .iload_n 1, 19, []) := by decide +kernel
theorem xe_187_18 (a0 a2 a3 : Option MV) (x : Int) (st : List MV) (μ : MM) (G : MG) : ev 187 18 [a0, some (vI x), a2, a3] st μ G = ev 187 19 [a0, some (vI x), a2, a3] (vI x :: st) μ G := ev_stp pg_187_18 rfl
theorem pg_187_19 : mm_prog 187 19 = some (0, .bipush 7, 21, []) := by decide +kernel
theorem xe_187_19 (a0 a1 a2 a3 : Option MV) (st : List MV) (μ : MM) (G : MG) : ev 187 19 [a0, a1, a2, a3] st μ G = ev 187 21 [a0, a1, a2, a3] (vI (7) :: st) μ G := ev_stp pg_187_19 rfl
theorem pg_187_21 : mm_prog 187 21 = some (0, .if_icmp .ge 9, 24, []) := by decide +kernel
theorem xe_187_21 (a0 a1 a2 a3 : Option MV) (x y : Int) (st : List MV) (μ : MM) (G : MG) : ev 187 21 [a0, a1, a2, a3] (vI y :: vI x :: st) μ G = if y ≤ x then ev 187 30 [a0, a1, a2, a3] st μ G else ev 187 24 [a0, a1, a2, a3] st μ G := ev_br (mm_cnd_ge x y) pg_187_21 rfl
theorem pg_187_24 : mm_prog 187 24 = some (0, .sipush 255, 27, []) := by decide +kernel
theorem xe_187_24 (a0 a1 a2 a3 : Option MV) (st : List MV) (μ : MM) (G : MG) : ev 187 24 [a0, a1, a2, a3] st μ G = ev 187 27 [a0, a1, a2, a3] (vI (255) :: st) μ G := ev_stp pg_187_24 rfl
theorem pg_187_27 : mm_prog 187 27 = some (0, .goto 4, 30, []) := by decide +kernel
theorem xe_187_27 (a0 a1 a2 a3 : Option MV) (st : List MV) (μ : MM) (G : MG) : ev 187 27 [a0, a1, a2, a3] st μ G = ev 187 31 [a0, a1, a2, a3] st μ G := ev_stp pg_187_27 rfl
theorem pg_187_30 : mm_prog 187 30 = some (0, .iconst 0, 31, []) := by decide +kernel
theorem xe_187_30 (a0 a1 a2 a3 : Option MV) (st : List MV) (μ : MM) (G : MG) : ev 187 30 [a0, a1, a2, a3] st μ G = ev 187 31 [a0, a1, a2, a3] (vI (0) :: st) μ G := ev_stp pg_187_30 rfl
theorem pg_187_31 : mm_prog 187 31 = some (0, .iastore, 32, []) := by decide +kernel
theorem xe_187_31 (a0 a1 a2 a3 : Option MV) (x y z : Int) (st : List MV) (μ : MM) (G : MG) : ev 187 31 [a0, a1, a2, a3] (vI x :: vI y :: vR z :: st) μ G = if gk G z = 100 ∧ 0 ≤ y ∧ y < gl G z ∧ 10 ≤ z then ev 187 32 [a0, a1, a2, a3] st (mset μ z y x) G else none := ev_if pg_187_31 rfl
theorem pg_187_32 : mm_prog 187 32 = some (0, .iinc 1 1, 35, []) := by decide +kernel
theorem xe_187_32 (a0 a2 a3 : Option MV) (x : Int) (st : List MV) (μ : MM) (G : MG) (h : mm_nL a0 = true) : ev 187 32 [a0, some (vI x), a2, a3] st μ G = ev 187 35 [a0, some (vI (w32 (x + (1)))), a2, a3] st μ G := ev_st pg_187_32 rfl (mm_nl_of h) (Nat.le_of_ble_eq_true rfl)
theorem pg_187_35 : mm_prog 187 35 = some (0, .goto (-33), 38, []) := by decide +kernel
theorem xe_187_35 (a0 a1 a2 a3 : Option MV) (st : List MV) (μ : MM) (G : MG) : ev 187 35 [a0, a1, a2, a3] st μ G = ev 187 2 [a0, a1, a2, a3] st μ G := ev_stp pg_187_35 rfl
theorem pg_187_38 : mm_prog 187 38 = some (0, .aload_n 0, 39, []) := by decide +kernel
theorem xe_187_38 (a1 a2 a3 : Option MV) (x : Int) (st : List MV) (μ : MM) (G : MG) : ev 187 38 [some (vR x), a1, a2, a3] st μ G = ev 187 39 [some (vR x), a1, a2, a3] (vR x :: st) μ G := ev_stp pg_187_38 rfl
theorem pg_187_39 : mm_prog 187 39 = some (0, .getfield 57, 42, [11, 26, 2]) := by decide +kernel
theorem xe_187_39 (a0 a1 a2 a3 : Option MV) (x : Int) (st : List MV) (μ : MM) (G : MG) : ev 187 39 [a0, a1, a2, a3] (vR x :: st) μ G = if gk G x = 11 then ev 187 42 [a0, a1, a2, a3] (vR (μ x 26) :: st) μ G else none := ev_if pg_187_39 rfl
theorem pg_187_42 : mm_prog 187 42 = some (0, .bipush 8, 44, []) := by decide +kernel
theorem xe_187_42 (a0 a1 a2 a3 : Option MV) (st : List MV) (μ : MM) (G : MG) : ev 187 42 [a0, a1, a2, a3] st μ G = ev 187 44 [a0, a1, a2, a3] (vI (8) :: st) μ G := ev_stp pg_187_42 rfl
theorem pg_187_44 : mm_prog 187 44 = some (0, .aload_n 0, 45, []) := by decide +kernel
theorem xe_187_44 (a1 a2 a3 : Option MV) (x : Int) (st : List MV) (μ : MM) (G : MG) : ev 187 44 [some (vR x), a1, a2, a3] st μ G = ev 187 45 [some (vR x), a1, a2, a3] (vR x :: st) μ G := ev_stp pg_187_44 rfl
theorem pg_187_45 : mm_prog 187 45 = some (0, .bipush 8, 47, []) := by decide +kernel
theorem xe_187_45 (a0 a1 a2 a3 : Option MV) (st : List MV) (μ : MM) (G : MG) : ev 187 45 [a0, a1, a2, a3] st μ G = ev 187 47 [a0, a1, a2, a3] (vI (8) :: st) μ G := ev_stp pg_187_45 rfl
theorem pg_187_47 : mm_prog 187 47 = some (1, .invokevirtual 140, 50, [1, 160, 1, 11]) := by decide +kernel
theorem xe_187_47 (a0 a1 a2 a3 : Option MV) (x0 z r0 r1 : Int) (μ : MM) (G : MG) : ev 187 47 [a0, a1, a2, a3] (vI x0 :: vR z :: [vI r0, vR r1]) μ G = if gk G z = 11 ∧ 0 < z then (ev 160 0 [some (vR z), some (vI x0)] [] μ G).bind (fun q => ev 187 50 [a0, a1, a2, a3] (q.1.toList ++ [vI r0, vR r1]) q.2.1 q.2.2) else none := ev_calV (as := [vR z, vI x0]) (r := [vI r0, vR r1]) mx_160 pg_187_47 rfl rfl (Nat.le_of_ble_eq_true rfl) (Nat.le_of_ble_eq_true rfl)
theorem pg_187_50 : mm_prog 187 50 = some (0, .iastore, 51, []) := by decide +kernel
theorem xe_187_50 (a0 a1 a2 a3 : Option MV) (x y z : Int) (st : List MV) (μ : MM) (G : MG) : ev 187 50 [a0, a1, a2, a3] (vI x :: vI y :: vR z :: st) μ G = if gk G z = 100 ∧ 0 ≤ y ∧ y < gl G z ∧ 10 ≤ z then ev 187 51 [a0, a1, a2, a3] st (mset μ z y x) G else none := ev_if pg_187_50 rfl
theorem pg_187_51 : mm_prog 187 51 = some (0, .aload_n 0, 52, []) := by decide +kernel
theorem xe_187_51 (a1 a2 a3 : Option MV) (x : Int) (st : List MV) (μ : MM) (G : MG) : ev 187 51 [some (vR x), a1, a2, a3] st μ G = ev 187 52 [some (vR x), a1, a2, a3] (vR x :: st) μ G := ev_stp pg_187_51 rfl
theorem pg_187_52 : mm_prog 187 52 = some (0, .getfield 57, 55, [11, 26, 2]) := by decide +kernel
theorem xe_187_52 (a0 a1 a2 a3 : Option MV) (x : Int) (st : List MV) (μ : MM) (G : MG) : ev 187 52 [a0, a1, a2, a3] (vR x :: st) μ G = if gk G x = 11 then ev 187 55 [a0, a1, a2, a3] (vR (μ x 26) :: st) μ G else none := ev_if pg_187_52 rfl
theorem pg_187_55 : mm_prog 187 55 = some (0, .bipush 9, 57, []) := by decide +kernel
theorem xe_187_55 (a0 a1 a2 a3 : Option MV) (st : List MV) (μ : MM) (G : MG) : ev 187 55 [a0, a1, a2, a3] st μ G = ev 187 57 [a0, a1, a2, a3] (vI (9) :: st) μ G := ev_stp pg_187_55 rfl
theorem pg_187_57 : mm_prog 187 57 = some (0, .aload_n 0, 58, []) := by decide +kernel
theorem xe_187_57 (a1 a2 a3 : Option MV) (x : Int) (st : List MV) (μ : MM) (G : MG) : ev 187 57 [some (vR x), a1, a2, a3] st μ G = ev 187 58 [some (vR x), a1, a2, a3] (vR x :: st) μ G := ev_stp pg_187_57 rfl
theorem pg_187_58 : mm_prog 187 58 = some (0, .bipush 9, 60, []) := by decide +kernel
theorem xe_187_58 (a0 a1 a2 a3 : Option MV) (st : List MV) (μ : MM) (G : MG) : ev 187 58 [a0, a1, a2, a3] st μ G = ev 187 60 [a0, a1, a2, a3] (vI (9) :: st) μ G := ev_stp pg_187_58 rfl
theorem pg_187_60 : mm_prog 187 60 = some (1, .invokevirtual 140, 63, [1, 160, 1, 11]) := by decide +kernel
theorem xe_187_60 (a0 a1 a2 a3 : Option MV) (x0 z r0 r1 : Int) (μ : MM) (G : MG) : ev 187 60 [a0, a1, a2, a3] (vI x0 :: vR z :: [vI r0, vR r1]) μ G = if gk G z = 11 ∧ 0 < z then (ev 160 0 [some (vR z), some (vI x0)] [] μ G).bind (fun q => ev 187 63 [a0, a1, a2, a3] (q.1.toList ++ [vI r0, vR r1]) q.2.1 q.2.2) else none := ev_calV (as := [vR z, vI x0]) (r := [vI r0, vR r1]) mx_160 pg_187_60 rfl rfl (Nat.le_of_ble_eq_true rfl) (Nat.le_of_ble_eq_true rfl)
theorem pg_187_63 : mm_prog 187 63 = some (0, .iastore, 64, []) := by decide +kernel
theorem xe_187_63 (a0 a1 a2 a3 : Option MV) (x y z : Int) (st : List MV) (μ : MM) (G : MG) : ev 187 63 [a0, a1, a2, a3] (vI x :: vI y :: vR z :: st) μ G = if gk G z = 100 ∧ 0 ≤ y ∧ y < gl G z ∧ 10 ≤ z then ev 187 64 [a0, a1, a2, a3] st (mset μ z y x) G else none := ev_if pg_187_63 rfl
theorem pg_187_64 : mm_prog 187 64 = some (0, .aload_n 0, 65, []) := by decide +kernel
theorem xe_187_64 (a1 a2 a3 : Option MV) (x : Int) (st : List MV) (μ : MM) (G : MG) : ev 187 64 [some (vR x), a1, a2, a3] st μ G = ev 187 65 [some (vR x), a1, a2, a3] (vR x :: st) μ G := ev_stp pg_187_64 rfl
theorem pg_187_65 : mm_prog 187 65 = some (0, .getfield 57, 68, [11, 26, 2]) := by decide +kernel
theorem xe_187_65 (a0 a1 a2 a3 : Option MV) (x : Int) (st : List MV) (μ : MM) (G : MG) : ev 187 65 [a0, a1, a2, a3] (vR x :: st) μ G = if gk G x = 11 then ev 187 68 [a0, a1, a2, a3] (vR (μ x 26) :: st) μ G else none := ev_if pg_187_65 rfl
theorem pg_187_68 : mm_prog 187 68 = some (0, .bipush 18, 70, []) := by decide +kernel
theorem xe_187_68 (a0 a1 a2 a3 : Option MV) (st : List MV) (μ : MM) (G : MG) : ev 187 68 [a0, a1, a2, a3] st μ G = ev 187 70 [a0, a1, a2, a3] (vI (18) :: st) μ G := ev_stp pg_187_68 rfl
theorem pg_187_70 : mm_prog 187 70 = some (0, .iconst 1, 71, []) := by decide +kernel
theorem xe_187_70 (a0 a1 a2 a3 : Option MV) (st : List MV) (μ : MM) (G : MG) : ev 187 70 [a0, a1, a2, a3] st μ G = ev 187 71 [a0, a1, a2, a3] (vI (1) :: st) μ G := ev_stp pg_187_70 rfl
theorem pg_187_71 : mm_prog 187 71 = some (0, .iastore, 72, []) := by decide +kernel
theorem xe_187_71 (a0 a1 a2 a3 : Option MV) (x y z : Int) (st : List MV) (μ : MM) (G : MG) : ev 187 71 [a0, a1, a2, a3] (vI x :: vI y :: vR z :: st) μ G = if gk G z = 100 ∧ 0 ≤ y ∧ y < gl G z ∧ 10 ≤ z then ev 187 72 [a0, a1, a2, a3] st (mset μ z y x) G else none := ev_if pg_187_71 rfl
theorem pg_187_72 : mm_prog 187 72 = some (0, .aload_n 0, 73, []) := by decide +kernel
theorem xe_187_72 (a1 a2 a3 : Option MV) (x : Int) (st : List MV) (μ : MM) (G : MG) : ev 187 72 [some (vR x), a1, a2, a3] st μ G = ev 187 73 [some (vR x), a1, a2, a3] (vR x :: st) μ G := ev_stp pg_187_72 rfl
theorem pg_187_73 : mm_prog 187 73 = some (0, .getfield 57, 76, [11, 26, 2]) := by decide +kernel
theorem xe_187_73 (a0 a1 a2 a3 : Option MV) (x : Int) (st : List MV) (μ : MM) (G : MG) : ev 187 73 [a0, a1, a2, a3] (vR x :: st) μ G = if gk G x = 11 then ev 187 76 [a0, a1, a2, a3] (vR (μ x 26) :: st) μ G else none := ev_if pg_187_73 rfl
theorem pg_187_76 : mm_prog 187 76 = some (0, .bipush 21, 78, []) := by decide +kernel
theorem xe_187_76 (a0 a1 a2 a3 : Option MV) (st : List MV) (μ : MM) (G : MG) : ev 187 76 [a0, a1, a2, a3] st μ G = ev 187 78 [a0, a1, a2, a3] (vI (21) :: st) μ G := ev_stp pg_187_76 rfl
theorem pg_187_78 : mm_prog 187 78 = some (0, .aload_n 0, 79, []) := by decide +kernel
theorem xe_187_78 (a1 a2 a3 : Option MV) (x : Int) (st : List MV) (μ : MM) (G : MG) : ev 187 78 [some (vR x), a1, a2, a3] st μ G = ev 187 79 [some (vR x), a1, a2, a3] (vR x :: st) μ G := ev_stp pg_187_78 rfl
theorem pg_187_79 : mm_prog 187 79 = some (0, .bipush 21, 81, []) := by decide +kernel
theorem xe_187_79 (a0 a1 a2 a3 : Option MV) (st : List MV) (μ : MM) (G : MG) : ev 187 79 [a0, a1, a2, a3] st μ G = ev 187 81 [a0, a1, a2, a3] (vI (21) :: st) μ G := ev_stp pg_187_79 rfl
theorem pg_187_81 : mm_prog 187 81 = some (1, .invokevirtual 140, 84, [1, 160, 1, 11]) := by decide +kernel
theorem xe_187_81 (a0 a1 a2 a3 : Option MV) (x0 z r0 r1 : Int) (μ : MM) (G : MG) : ev 187 81 [a0, a1, a2, a3] (vI x0 :: vR z :: [vI r0, vR r1]) μ G = if gk G z = 11 ∧ 0 < z then (ev 160 0 [some (vR z), some (vI x0)] [] μ G).bind (fun q => ev 187 84 [a0, a1, a2, a3] (q.1.toList ++ [vI r0, vR r1]) q.2.1 q.2.2) else none := ev_calV (as := [vR z, vI x0]) (r := [vI r0, vR r1]) mx_160 pg_187_81 rfl rfl (Nat.le_of_ble_eq_true rfl) (Nat.le_of_ble_eq_true rfl)
theorem pg_187_84 : mm_prog 187 84 = some (0, .iastore, 85, []) := by decide +kernel
theorem xe_187_84 (a0 a1 a2 a3 : Option MV) (x y z : Int) (st : List MV) (μ : MM) (G : MG) : ev 187 84 [a0, a1, a2, a3] (vI x :: vI y :: vR z :: st) μ G = if gk G z = 100 ∧ 0 ≤ y ∧ y < gl G z ∧ 10 ≤ z then ev 187 85 [a0, a1, a2, a3] st (mset μ z y x) G else none := ev_if pg_187_84 rfl
theorem pg_187_85 : mm_prog 187 85 = some (0, .aload_n 0, 86, []) := by decide +kernel
theorem xe_187_85 (a1 a2 a3 : Option MV) (x : Int) (st : List MV) (μ : MM) (G : MG) : ev 187 85 [some (vR x), a1, a2, a3] st μ G = ev 187 86 [some (vR x), a1, a2, a3] (vR x :: st) μ G := ev_stp pg_187_85 rfl
theorem pg_187_86 : mm_prog 187 86 = some (0, .getfield 57, 89, [11, 26, 2]) := by decide +kernel
theorem xe_187_86 (a0 a1 a2 a3 : Option MV) (x : Int) (st : List MV) (μ : MM) (G : MG) : ev 187 86 [a0, a1, a2, a3] (vR x :: st) μ G = if gk G x = 11 then ev 187 89 [a0, a1, a2, a3] (vR (μ x 26) :: st) μ G else none := ev_if pg_187_86 rfl
theorem pg_187_89 : mm_prog 187 89 = some (0, .bipush 22, 91, []) := by decide +kernel
theorem xe_187_89 (a0 a1 a2 a3 : Option MV) (st : List MV) (μ : MM) (G : MG) : ev 187 89 [a0, a1, a2, a3] st μ G = ev 187 91 [a0, a1, a2, a3] (vI (22) :: st) μ G := ev_stp pg_187_89 rfl
theorem pg_187_91 : mm_prog 187 91 = some (0, .aload_n 0, 92, []) := by decide +kernel
theorem xe_187_91 (a1 a2 a3 : Option MV) (x : Int) (st : List MV) (μ : MM) (G : MG) : ev 187 91 [some (vR x), a1, a2, a3] st μ G = ev 187 92 [some (vR x), a1, a2, a3] (vR x :: st) μ G := ev_stp pg_187_91 rfl
theorem pg_187_92 : mm_prog 187 92 = some (0, .bipush 22, 94, []) := by decide +kernel
theorem xe_187_92 (a0 a1 a2 a3 : Option MV) (st : List MV) (μ : MM) (G : MG) : ev 187 92 [a0, a1, a2, a3] st μ G = ev 187 94 [a0, a1, a2, a3] (vI (22) :: st) μ G := ev_stp pg_187_92 rfl
theorem pg_187_94 : mm_prog 187 94 = some (1, .invokevirtual 140, 97, [1, 160, 1, 11]) := by decide +kernel
theorem xe_187_94 (a0 a1 a2 a3 : Option MV) (x0 z r0 r1 : Int) (μ : MM) (G : MG) : ev 187 94 [a0, a1, a2, a3] (vI x0 :: vR z :: [vI r0, vR r1]) μ G = if gk G z = 11 ∧ 0 < z then (ev 160 0 [some (vR z), some (vI x0)] [] μ G).bind (fun q => ev 187 97 [a0, a1, a2, a3] (q.1.toList ++ [vI r0, vR r1]) q.2.1 q.2.2) else none := ev_calV (as := [vR z, vI x0]) (r := [vI r0, vR r1]) mx_160 pg_187_94 rfl rfl (Nat.le_of_ble_eq_true rfl) (Nat.le_of_ble_eq_true rfl)
theorem pg_187_97 : mm_prog 187 97 = some (0, .iastore, 98, []) := by decide +kernel
theorem xe_187_97 (a0 a1 a2 a3 : Option MV) (x y z : Int) (st : List MV) (μ : MM) (G : MG) : ev 187 97 [a0, a1, a2, a3] (vI x :: vI y :: vR z :: st) μ G = if gk G z = 100 ∧ 0 ≤ y ∧ y < gl G z ∧ 10 ≤ z then ev 187 98 [a0, a1, a2, a3] st (mset μ z y x) G else none := ev_if pg_187_97 rfl
theorem pg_187_98 : mm_prog 187 98 = some (0, .iconst 0, 99, []) := by decide +kernel
theorem xe_187_98 (a0 a1 a2 a3 : Option MV) (st : List MV) (μ : MM) (G : MG) : ev 187 98 [a0, a1, a2, a3] st μ G = ev 187 99 [a0, a1, a2, a3] (vI (0) :: st) μ G := ev_stp pg_187_98 rfl
theorem pg_187_99 : mm_prog 187 99 = some (0, .istore_n 1, 100, []) := by decide +kernel
theorem xe_187_99 (a0 a1 a2 a3 : Option MV) (x : Int) (st : List MV) (μ : MM) (G : MG) (h : mm_nL a0 = true) : ev 187 99 [a0, a1, a2, a3] (vI x :: st) μ G = ev 187 100 [a0, some (vI x), a2, a3] st μ G := ev_st pg_187_99 rfl (mm_nl_of h) (Nat.le_of_ble_eq_true rfl)
theorem pg_187_100 : mm_prog 187 100 = some (0, .iload_n 1, 101, []) := by decide +kernel
theorem xe_187_100 (a0 a2 a3 : Option MV) (x : Int) (st : List MV) (μ : MM) (G : MG) : ev 187 100 [a0, some (vI x), a2, a3] st μ G = ev 187 101 [a0, some (vI x), a2, a3] (vI x :: st) μ G := ev_stp pg_187_100 rfl
theorem pg_187_101 : mm_prog 187 101 = some (0, .iconst 4, 102, []) := by decide +kernel
theorem xe_187_101 (a0 a1 a2 a3 : Option MV) (st : List MV) (μ : MM) (G : MG) : ev 187 101 [a0, a1, a2, a3] st μ G = ev 187 102 [a0, a1, a2, a3] (vI (4) :: st) μ G := ev_stp pg_187_101 rfl
theorem pg_187_102 : mm_prog 187 102 = some (0, .if_icmp .ge 114, 105, []) := by decide +kernel
theorem xe_187_102 (a0 a1 a2 a3 : Option MV) (x y : Int) (st : List MV) (μ : MM) (G : MG) : ev 187 102 [a0, a1, a2, a3] (vI y :: vI x :: st) μ G = if y ≤ x then ev 187 216 [a0, a1, a2, a3] st μ G else ev 187 105 [a0, a1, a2, a3] st μ G := ev_br (mm_cnd_ge x y) pg_187_102 rfl
theorem pg_187_105 : mm_prog 187 105 = some (0, .bipush 54, 107, []) := by decide +kernel
theorem xe_187_105 (a0 a1 a2 a3 : Option MV) (st : List MV) (μ : MM) (G : MG) : ev 187 105 [a0, a1, a2, a3] st μ G = ev 187 107 [a0, a1, a2, a3] (vI (54) :: st) μ G := ev_stp pg_187_105 rfl
theorem pg_187_107 : mm_prog 187 107 = some (0, .bipush 18, 109, []) := by decide +kernel
theorem xe_187_107 (a0 a1 a2 a3 : Option MV) (st : List MV) (μ : MM) (G : MG) : ev 187 107 [a0, a1, a2, a3] st μ G = ev 187 109 [a0, a1, a2, a3] (vI (18) :: st) μ G := ev_stp pg_187_107 rfl
theorem pg_187_109 : mm_prog 187 109 = some (0, .iload_n 1, 110, []) := by decide +kernel
theorem xe_187_109 (a0 a2 a3 : Option MV) (x : Int) (st : List MV) (μ : MM) (G : MG) : ev 187 109 [a0, some (vI x), a2, a3] st μ G = ev 187 110 [a0, some (vI x), a2, a3] (vI x :: st) μ G := ev_stp pg_187_109 rfl
theorem pg_187_110 : mm_prog 187 110 = some (0, .imul, 111, []) := by decide +kernel
theorem xe_187_110 (a0 a1 a2 a3 : Option MV) (x y : Int) (st : List MV) (μ : MM) (G : MG) : ev 187 110 [a0, a1, a2, a3] (vI y :: vI x :: st) μ G = ev 187 111 [a0, a1, a2, a3] (vI (w32 (x * y)) :: st) μ G := ev_stp pg_187_110 rfl
theorem pg_187_111 : mm_prog 187 111 = some (0, .iadd, 112, []) := by decide +kernel
theorem xe_187_111 (a0 a1 a2 a3 : Option MV) (x y : Int) (st : List MV) (μ : MM) (G : MG) : ev 187 111 [a0, a1, a2, a3] (vI y :: vI x :: st) μ G = ev 187 112 [a0, a1, a2, a3] (vI (w32 (x + y)) :: st) μ G := ev_stp pg_187_111 rfl
theorem pg_187_112 : mm_prog 187 112 = some (0, .istore_n 2, 113, []) := by decide +kernel
theorem xe_187_112 (a0 a1 a2 a3 : Option MV) (x : Int) (st : List MV) (μ : MM) (G : MG) (h : mm_nL a1 = true) : ev 187 112 [a0, a1, a2, a3] (vI x :: st) μ G = ev 187 113 [a0, a1, some (vI x), a3] st μ G := ev_st pg_187_112 rfl (mm_nl_of h) (Nat.le_of_ble_eq_true rfl)
theorem pg_187_113 : mm_prog 187 113 = some (0, .iload_n 1, 114, []) := by decide +kernel
theorem xe_187_113 (a0 a2 a3 : Option MV) (x : Int) (st : List MV) (μ : MM) (G : MG) : ev 187 113 [a0, some (vI x), a2, a3] st μ G = ev 187 114 [a0, some (vI x), a2, a3] (vI x :: st) μ G := ev_stp pg_187_113 rfl
theorem pg_187_114 : mm_prog 187 114 = some (0, .aload_n 0, 115, []) := by decide +kernel
theorem xe_187_114 (a1 a2 a3 : Option MV) (x : Int) (st : List MV) (μ : MM) (G : MG) : ev 187 114 [some (vR x), a1, a2, a3] st μ G = ev 187 115 [some (vR x), a1, a2, a3] (vR x :: st) μ G := ev_stp pg_187_114 rfl
theorem pg_187_115 : mm_prog 187 115 = some (0, .getfield 134, 118, [11, 23, 0]) := by decide +kernel
theorem xe_187_115 (a0 a1 a2 a3 : Option MV) (x : Int) (st : List MV) (μ : MM) (G : MG) : ev 187 115 [a0, a1, a2, a3] (vR x :: st) μ G = if gk G x = 11 then ev 187 118 [a0, a1, a2, a3] (vI (μ x 23) :: st) μ G else none := ev_if pg_187_115 rfl
theorem pg_187_118 : mm_prog 187 118 = some (0, .if_icmp .ge 47, 121, []) := by decide +kernel
theorem xe_187_118 (a0 a1 a2 a3 : Option MV) (x y : Int) (st : List MV) (μ : MM) (G : MG) : ev 187 118 [a0, a1, a2, a3] (vI y :: vI x :: st) μ G = if y ≤ x then ev 187 165 [a0, a1, a2, a3] st μ G else ev 187 121 [a0, a1, a2, a3] st μ G := ev_br (mm_cnd_ge x y) pg_187_118 rfl
theorem pg_187_121 : mm_prog 187 121 = some (0, .aload_n 0, 122, []) := by decide +kernel
theorem xe_187_121 (a1 a2 a3 : Option MV) (x : Int) (st : List MV) (μ : MM) (G : MG) : ev 187 121 [some (vR x), a1, a2, a3] st μ G = ev 187 122 [some (vR x), a1, a2, a3] (vR x :: st) μ G := ev_stp pg_187_121 rfl
theorem pg_187_122 : mm_prog 187 122 = some (0, .iload_n 1, 123, []) := by decide +kernel
theorem xe_187_122 (a0 a2 a3 : Option MV) (x : Int) (st : List MV) (μ : MM) (G : MG) : ev 187 122 [a0, some (vI x), a2, a3] st μ G = ev 187 123 [a0, some (vI x), a2, a3] (vI x :: st) μ G := ev_stp pg_187_122 rfl
theorem pg_187_123 : mm_prog 187 123 = some (1, .invokevirtual 257, 126, [1, 184, 1, 11]) := by decide +kernel
theorem xe_187_123 (a0 a1 a2 a3 : Option MV) (x0 z : Int) (μ : MM) (G : MG) : ev 187 123 [a0, a1, a2, a3] (vI x0 :: vR z :: []) μ G = if gk G z = 11 ∧ 0 < z then (ev 184 0 [some (vR z), some (vI x0)] [] μ G).bind (fun q => ev 187 126 [a0, a1, a2, a3] (q.1.toList ++ []) q.2.1 q.2.2) else none := ev_calV (as := [vR z, vI x0]) (r := []) mx_184 pg_187_123 rfl rfl (Nat.le_of_ble_eq_true rfl) (Nat.le_of_ble_eq_true rfl)
theorem pg_187_126 : mm_prog 187 126 = some (0, .aload_n 0, 127, []) := by decide +kernel
theorem xe_187_126 (a1 a2 a3 : Option MV) (x : Int) (st : List MV) (μ : MM) (G : MG) : ev 187 126 [some (vR x), a1, a2, a3] st μ G = ev 187 127 [some (vR x), a1, a2, a3] (vR x :: st) μ G := ev_stp pg_187_126 rfl
theorem pg_187_127 : mm_prog 187 127 = some (1, .invokevirtual 260, 130, [1, 197, 0, 11]) := by decide +kernel
theorem xe_187_127 (a0 a1 a2 a3 : Option MV) (z : Int) (μ : MM) (G : MG) : ev 187 127 [a0, a1, a2, a3] (vR z :: []) μ G = if gk G z = 11 ∧ 0 < z then (ev 197 0 [some (vR z)] [] μ G).bind (fun q => ev 187 130 [a0, a1, a2, a3] (q.1.toList ++ []) q.2.1 q.2.2) else none := ev_calV (as := [vR z]) (r := []) mx_197 pg_187_127 rfl rfl (Nat.le_of_ble_eq_true rfl) (Nat.le_of_ble_eq_true rfl)
theorem pg_187_130 : mm_prog 187 130 = some (0, .ifCond .ne 5, 133, []) := by decide +kernel
theorem xe_187_130 (a0 a1 a2 a3 : Option MV) (x : Int) (st : List MV) (μ : MM) (G : MG) : ev 187 130 [a0, a1, a2, a3] (vI x :: st) μ G = if ¬ x = 0 then ev 187 135 [a0, a1, a2, a3] st μ G else ev 187 133 [a0, a1, a2, a3] st μ G := ev_br (mm_cnd_ne x 0) pg_187_130 rfl
theorem pg_187_133 : mm_prog 187 133 = some (0, .iconst 0, 134, []) := by decide +kernel
theorem xe_187_133 (a0 a1 a2 a3 : Option MV) (st : List MV) (μ : MM) (G : MG) : ev 187 133 [a0, a1, a2, a3] st μ G = ev 187 134 [a0, a1, a2, a3] (vI (0) :: st) μ G := ev_stp pg_187_133 rfl
theorem pg_187_134 : mm_prog 187 134 = some (2, .ireturn, 135, [1]) := by decide +kernel
theorem xe_187_134 (a0 a1 a2 a3 : Option MV) (x : Int) (μ : MM) (G : MG) : ev 187 134 [a0, a1, a2, a3] [vI x] μ G = if x = 0 ∨ x = 1 then some (some (vI x), μ, G) else none := ev_retB pg_187_134
theorem pg_187_135 : mm_prog 187 135 = some (0, .iconst 0, 136, []) := by decide +kernel
theorem xe_187_135 (a0 a1 a2 a3 : Option MV) (st : List MV) (μ : MM) (G : MG) : ev 187 135 [a0, a1, a2, a3] st μ G = ev 187 136 [a0, a1, a2, a3] (vI (0) :: st) μ G := ev_stp pg_187_135 rfl
theorem pg_187_136 : mm_prog 187 136 = some (0, .istore_n 3, 137, []) := by decide +kernel
theorem xe_187_136 (a0 a1 a2 a3 : Option MV) (x : Int) (st : List MV) (μ : MM) (G : MG) (h : mm_nL a2 = true) : ev 187 136 [a0, a1, a2, a3] (vI x :: st) μ G = ev 187 137 [a0, a1, a2, some (vI x)] st μ G := ev_st pg_187_136 rfl (mm_nl_of h) (Nat.le_of_ble_eq_true rfl)
theorem pg_187_137 : mm_prog 187 137 = some (0, .iload_n 3, 138, []) := by decide +kernel
theorem xe_187_137 (a0 a1 a2 : Option MV) (x : Int) (st : List MV) (μ : MM) (G : MG) : ev 187 137 [a0, a1, a2, some (vI x)] st μ G = ev 187 138 [a0, a1, a2, some (vI x)] (vI x :: st) μ G := ev_stp pg_187_137 rfl
theorem pg_187_138 : mm_prog 187 138 = some (0, .bipush 18, 140, []) := by decide +kernel
theorem xe_187_138 (a0 a1 a2 a3 : Option MV) (st : List MV) (μ : MM) (G : MG) : ev 187 138 [a0, a1, a2, a3] st μ G = ev 187 140 [a0, a1, a2, a3] (vI (18) :: st) μ G := ev_stp pg_187_138 rfl
theorem pg_187_140 : mm_prog 187 140 = some (0, .if_icmp .ge 22, 143, []) := by decide +kernel
theorem xe_187_140 (a0 a1 a2 a3 : Option MV) (x y : Int) (st : List MV) (μ : MM) (G : MG) : ev 187 140 [a0, a1, a2, a3] (vI y :: vI x :: st) μ G = if y ≤ x then ev 187 162 [a0, a1, a2, a3] st μ G else ev 187 143 [a0, a1, a2, a3] st μ G := ev_br (mm_cnd_ge x y) pg_187_140 rfl
theorem pg_187_143 : mm_prog 187 143 = some (0, .aload_n 0, 144, []) := by decide +kernel
theorem xe_187_143 (a1 a2 a3 : Option MV) (x : Int) (st : List MV) (μ : MM) (G : MG) : ev 187 143 [some (vR x), a1, a2, a3] st μ G = ev 187 144 [some (vR x), a1, a2, a3] (vR x :: st) μ G := ev_stp pg_187_143 rfl
theorem pg_187_144 : mm_prog 187 144 = some (0, .getfield 57, 147, [11, 26, 2]) := by decide +kernel
theorem xe_187_144 (a0 a1 a2 a3 : Option MV) (x : Int) (st : List MV) (μ : MM) (G : MG) : ev 187 144 [a0, a1, a2, a3] (vR x :: st) μ G = if gk G x = 11 then ev 187 147 [a0, a1, a2, a3] (vR (μ x 26) :: st) μ G else none := ev_if pg_187_144 rfl
theorem pg_187_147 : mm_prog 187 147 = some (0, .iload_n 2, 148, []) := by decide +kernel
theorem xe_187_147 (a0 a1 a3 : Option MV) (x : Int) (st : List MV) (μ : MM) (G : MG) : ev 187 147 [a0, a1, some (vI x), a3] st μ G = ev 187 148 [a0, a1, some (vI x), a3] (vI x :: st) μ G := ev_stp pg_187_147 rfl
theorem pg_187_148 : mm_prog 187 148 = some (0, .iload_n 3, 149, []) := by decide +kernel
theorem xe_187_148 (a0 a1 a2 : Option MV) (x : Int) (st : List MV) (μ : MM) (G : MG) : ev 187 148 [a0, a1, a2, some (vI x)] st μ G = ev 187 149 [a0, a1, a2, some (vI x)] (vI x :: st) μ G := ev_stp pg_187_148 rfl
theorem pg_187_149 : mm_prog 187 149 = some (0, .iadd, 150, []) := by decide +kernel
theorem xe_187_149 (a0 a1 a2 a3 : Option MV) (x y : Int) (st : List MV) (μ : MM) (G : MG) : ev 187 149 [a0, a1, a2, a3] (vI y :: vI x :: st) μ G = ev 187 150 [a0, a1, a2, a3] (vI (w32 (x + y)) :: st) μ G := ev_stp pg_187_149 rfl
theorem pg_187_150 : mm_prog 187 150 = some (0, .aload_n 0, 151, []) := by decide +kernel
theorem xe_187_150 (a1 a2 a3 : Option MV) (x : Int) (st : List MV) (μ : MM) (G : MG) : ev 187 150 [some (vR x), a1, a2, a3] st μ G = ev 187 151 [some (vR x), a1, a2, a3] (vR x :: st) μ G := ev_stp pg_187_150 rfl
theorem pg_187_151 : mm_prog 187 151 = some (0, .iload_n 3, 152, []) := by decide +kernel
theorem xe_187_151 (a0 a1 a2 : Option MV) (x : Int) (st : List MV) (μ : MM) (G : MG) : ev 187 151 [a0, a1, a2, some (vI x)] st μ G = ev 187 152 [a0, a1, a2, some (vI x)] (vI x :: st) μ G := ev_stp pg_187_151 rfl
theorem pg_187_152 : mm_prog 187 152 = some (1, .invokevirtual 264, 155, [1, 198, 1, 11]) := by decide +kernel
theorem xe_187_152 (a0 a1 a2 a3 : Option MV) (x0 z r0 r1 : Int) (μ : MM) (G : MG) : ev 187 152 [a0, a1, a2, a3] (vI x0 :: vR z :: [vI r0, vR r1]) μ G = if gk G z = 11 ∧ 0 < z then (ev 198 0 [some (vR z), some (vI x0)] [] μ G).bind (fun q => ev 187 155 [a0, a1, a2, a3] (q.1.toList ++ [vI r0, vR r1]) q.2.1 q.2.2) else none := ev_calV (as := [vR z, vI x0]) (r := [vI r0, vR r1]) mx_198 pg_187_152 rfl rfl (Nat.le_of_ble_eq_true rfl) (Nat.le_of_ble_eq_true rfl)
theorem pg_187_155 : mm_prog 187 155 = some (0, .iastore, 156, []) := by decide +kernel
theorem xe_187_155 (a0 a1 a2 a3 : Option MV) (x y z : Int) (st : List MV) (μ : MM) (G : MG) : ev 187 155 [a0, a1, a2, a3] (vI x :: vI y :: vR z :: st) μ G = if gk G z = 100 ∧ 0 ≤ y ∧ y < gl G z ∧ 10 ≤ z then ev 187 156 [a0, a1, a2, a3] st (mset μ z y x) G else none := ev_if pg_187_155 rfl
theorem pg_187_156 : mm_prog 187 156 = some (0, .iinc 3 1, 159, []) := by decide +kernel
theorem xe_187_156 (a0 a1 a2 : Option MV) (x : Int) (st : List MV) (μ : MM) (G : MG) (h : mm_nL a2 = true) : ev 187 156 [a0, a1, a2, some (vI x)] st μ G = ev 187 159 [a0, a1, a2, some (vI (w32 (x + (1))))] st μ G := ev_st pg_187_156 rfl (mm_nl_of h) (Nat.le_of_ble_eq_true rfl)
theorem pg_187_159 : mm_prog 187 159 = some (0, .goto (-22), 162, []) := by decide +kernel
theorem xe_187_159 (a0 a1 a2 a3 : Option MV) (st : List MV) (μ : MM) (G : MG) : ev 187 159 [a0, a1, a2, a3] st μ G = ev 187 137 [a0, a1, a2, a3] st μ G := ev_stp pg_187_159 rfl
theorem pg_187_162 : mm_prog 187 162 = some (0, .goto 48, 165, []) := by decide +kernel
theorem xe_187_162 (a0 a1 a2 a3 : Option MV) (st : List MV) (μ : MM) (G : MG) : ev 187 162 [a0, a1, a2, a3] st μ G = ev 187 210 [a0, a1, a2, a3] st μ G := ev_stp pg_187_162 rfl
theorem pg_187_165 : mm_prog 187 165 = some (0, .iload_n 1, 166, []) := by decide +kernel
theorem xe_187_165 (a0 a2 a3 : Option MV) (x : Int) (st : List MV) (μ : MM) (G : MG) : ev 187 165 [a0, some (vI x), a2, a3] st μ G = ev 187 166 [a0, some (vI x), a2, a3] (vI x :: st) μ G := ev_stp pg_187_165 rfl
theorem pg_187_166 : mm_prog 187 166 = some (0, .aload_n 0, 167, []) := by decide +kernel
theorem xe_187_166 (a1 a2 a3 : Option MV) (x : Int) (st : List MV) (μ : MM) (G : MG) : ev 187 166 [some (vR x), a1, a2, a3] st μ G = ev 187 167 [some (vR x), a1, a2, a3] (vR x :: st) μ G := ev_stp pg_187_166 rfl
theorem pg_187_167 : mm_prog 187 167 = some (0, .getfield 134, 170, [11, 23, 0]) := by decide +kernel
theorem xe_187_167 (a0 a1 a2 a3 : Option MV) (x : Int) (st : List MV) (μ : MM) (G : MG) : ev 187 167 [a0, a1, a2, a3] (vR x :: st) μ G = if gk G x = 11 then ev 187 170 [a0, a1, a2, a3] (vI (μ x 23) :: st) μ G else none := ev_if pg_187_167 rfl
theorem pg_187_170 : mm_prog 187 170 = some (0, .if_icmp .ne 18, 173, []) := by decide +kernel
theorem xe_187_170 (a0 a1 a2 a3 : Option MV) (x y : Int) (st : List MV) (μ : MM) (G : MG) : ev 187 170 [a0, a1, a2, a3] (vI y :: vI x :: st) μ G = if ¬ x = y then ev 187 188 [a0, a1, a2, a3] st μ G else ev 187 173 [a0, a1, a2, a3] st μ G := ev_br (mm_cnd_ne x y) pg_187_170 rfl
theorem pg_187_173 : mm_prog 187 173 = some (0, .aload_n 0, 174, []) := by decide +kernel
theorem xe_187_173 (a1 a2 a3 : Option MV) (x : Int) (st : List MV) (μ : MM) (G : MG) : ev 187 173 [some (vR x), a1, a2, a3] st μ G = ev 187 174 [some (vR x), a1, a2, a3] (vR x :: st) μ G := ev_stp pg_187_173 rfl
theorem pg_187_174 : mm_prog 187 174 = some (0, .getfield 147, 177, [11, 14, 0]) := by decide +kernel
theorem xe_187_174 (a0 a1 a2 a3 : Option MV) (x : Int) (st : List MV) (μ : MM) (G : MG) : ev 187 174 [a0, a1, a2, a3] (vR x :: st) μ G = if gk G x = 11 then ev 187 177 [a0, a1, a2, a3] (vI (μ x 14) :: st) μ G else none := ev_if pg_187_174 rfl
theorem pg_187_177 : mm_prog 187 177 = some (0, .ifCond .le 33, 180, []) := by decide +kernel
theorem xe_187_177 (a0 a1 a2 a3 : Option MV) (x : Int) (st : List MV) (μ : MM) (G : MG) : ev 187 177 [a0, a1, a2, a3] (vI x :: st) μ G = if x ≤ 0 then ev 187 210 [a0, a1, a2, a3] st μ G else ev 187 180 [a0, a1, a2, a3] st μ G := ev_br (mm_cnd_le x 0) pg_187_177 rfl
theorem pg_187_180 : mm_prog 187 180 = some (0, .aload_n 0, 181, []) := by decide +kernel
theorem xe_187_180 (a1 a2 a3 : Option MV) (x : Int) (st : List MV) (μ : MM) (G : MG) : ev 187 180 [some (vR x), a1, a2, a3] st μ G = ev 187 181 [some (vR x), a1, a2, a3] (vR x :: st) μ G := ev_stp pg_187_180 rfl
theorem pg_187_181 : mm_prog 187 181 = some (0, .iload_n 2, 182, []) := by decide +kernel
theorem xe_187_181 (a0 a1 a3 : Option MV) (x : Int) (st : List MV) (μ : MM) (G : MG) : ev 187 181 [a0, a1, some (vI x), a3] st μ G = ev 187 182 [a0, a1, some (vI x), a3] (vI x :: st) μ G := ev_stp pg_187_181 rfl
theorem pg_187_182 : mm_prog 187 182 = some (1, .invokevirtual 267, 185, [1, 185, 1, 11]) := by decide +kernel
theorem xe_187_182 (a0 a1 a2 a3 : Option MV) (x0 z : Int) (μ : MM) (G : MG) : ev 187 182 [a0, a1, a2, a3] (vI x0 :: vR z :: []) μ G = if gk G z = 11 ∧ 0 < z then (ev 185 0 [some (vR z), some (vI x0), none] [] μ G).bind (fun q => ev 187 185 [a0, a1, a2, a3] (q.1.toList ++ []) q.2.1 q.2.2) else none := ev_calV (as := [vR z, vI x0]) (r := []) mx_185 pg_187_182 rfl rfl (Nat.le_of_ble_eq_true rfl) (Nat.le_of_ble_eq_true rfl)
theorem pg_187_185 : mm_prog 187 185 = some (0, .goto 25, 188, []) := by decide +kernel
theorem xe_187_185 (a0 a1 a2 a3 : Option MV) (st : List MV) (μ : MM) (G : MG) : ev 187 185 [a0, a1, a2, a3] st μ G = ev 187 210 [a0, a1, a2, a3] st μ G := ev_stp pg_187_185 rfl
theorem pg_187_188 : mm_prog 187 188 = some (0, .iload_n 1, 189, []) := by decide +kernel
theorem xe_187_188 (a0 a2 a3 : Option MV) (x : Int) (st : List MV) (μ : MM) (G : MG) : ev 187 188 [a0, some (vI x), a2, a3] st μ G = ev 187 189 [a0, some (vI x), a2, a3] (vI x :: st) μ G := ev_stp pg_187_188 rfl
theorem pg_187_189 : mm_prog 187 189 = some (0, .aload_n 0, 190, []) := by decide +kernel
theorem xe_187_189 (a1 a2 a3 : Option MV) (x : Int) (st : List MV) (μ : MM) (G : MG) : ev 187 189 [some (vR x), a1, a2, a3] st μ G = ev 187 190 [some (vR x), a1, a2, a3] (vR x :: st) μ G := ev_stp pg_187_189 rfl
theorem pg_187_190 : mm_prog 187 190 = some (0, .getfield 134, 193, [11, 23, 0]) := by decide +kernel
theorem xe_187_190 (a0 a1 a2 a3 : Option MV) (x : Int) (st : List MV) (μ : MM) (G : MG) : ev 187 190 [a0, a1, a2, a3] (vR x :: st) μ G = if gk G x = 11 then ev 187 193 [a0, a1, a2, a3] (vI (μ x 23) :: st) μ G else none := ev_if pg_187_190 rfl
theorem pg_187_193 : mm_prog 187 193 = some (0, .iconst 1, 194, []) := by decide +kernel
theorem xe_187_193 (a0 a1 a2 a3 : Option MV) (st : List MV) (μ : MM) (G : MG) : ev 187 193 [a0, a1, a2, a3] st μ G = ev 187 194 [a0, a1, a2, a3] (vI (1) :: st) μ G := ev_stp pg_187_193 rfl
theorem pg_187_194 : mm_prog 187 194 = some (0, .iadd, 195, []) := by decide +kernel
theorem xe_187_194 (a0 a1 a2 a3 : Option MV) (x y : Int) (st : List MV) (μ : MM) (G : MG) : ev 187 194 [a0, a1, a2, a3] (vI y :: vI x :: st) μ G = ev 187 195 [a0, a1, a2, a3] (vI (w32 (x + y)) :: st) μ G := ev_stp pg_187_194 rfl
theorem pg_187_195 : mm_prog 187 195 = some (0, .if_icmp .ne 15, 198, []) := by decide +kernel
theorem xe_187_195 (a0 a1 a2 a3 : Option MV) (x y : Int) (st : List MV) (μ : MM) (G : MG) : ev 187 195 [a0, a1, a2, a3] (vI y :: vI x :: st) μ G = if ¬ x = y then ev 187 210 [a0, a1, a2, a3] st μ G else ev 187 198 [a0, a1, a2, a3] st μ G := ev_br (mm_cnd_ne x y) pg_187_195 rfl
theorem pg_187_198 : mm_prog 187 198 = some (0, .aload_n 0, 199, []) := by decide +kernel
theorem xe_187_198 (a1 a2 a3 : Option MV) (x : Int) (st : List MV) (μ : MM) (G : MG) : ev 187 198 [some (vR x), a1, a2, a3] st μ G = ev 187 199 [some (vR x), a1, a2, a3] (vR x :: st) μ G := ev_stp pg_187_198 rfl
theorem pg_187_199 : mm_prog 187 199 = some (0, .getfield 154, 202, [11, 18, 1]) := by decide +kernel
theorem xe_187_199 (a0 a1 a2 a3 : Option MV) (x : Int) (st : List MV) (μ : MM) (G : MG) : ev 187 199 [a0, a1, a2, a3] (vR x :: st) μ G = if gk G x = 11 then ev 187 202 [a0, a1, a2, a3] (vI (μ x 18) :: st) μ G else none := ev_if pg_187_199 rfl
theorem pg_187_202 : mm_prog 187 202 = some (0, .ifCond .eq 8, 205, []) := by decide +kernel
theorem xe_187_202 (a0 a1 a2 a3 : Option MV) (x : Int) (st : List MV) (μ : MM) (G : MG) : ev 187 202 [a0, a1, a2, a3] (vI x :: st) μ G = if x = 0 then ev 187 210 [a0, a1, a2, a3] st μ G else ev 187 205 [a0, a1, a2, a3] st μ G := ev_br (mm_cnd_eq x 0) pg_187_202 rfl
theorem pg_187_205 : mm_prog 187 205 = some (0, .aload_n 0, 206, []) := by decide +kernel
theorem xe_187_205 (a1 a2 a3 : Option MV) (x : Int) (st : List MV) (μ : MM) (G : MG) : ev 187 205 [some (vR x), a1, a2, a3] st μ G = ev 187 206 [some (vR x), a1, a2, a3] (vR x :: st) μ G := ev_stp pg_187_205 rfl
theorem pg_187_206 : mm_prog 187 206 = some (0, .iload_n 2, 207, []) := by decide +kernel
theorem xe_187_206 (a0 a1 a3 : Option MV) (x : Int) (st : List MV) (μ : MM) (G : MG) : ev 187 206 [a0, a1, some (vI x), a3] st μ G = ev 187 207 [a0, a1, some (vI x), a3] (vI x :: st) μ G := ev_stp pg_187_206 rfl
theorem pg_187_207 : mm_prog 187 207 = some (1, .invokevirtual 270, 210, [1, 186, 1, 11]) := by decide +kernel
theorem xe_187_207 (a0 a1 a2 a3 : Option MV) (x0 z : Int) (μ : MM) (G : MG) : ev 187 207 [a0, a1, a2, a3] (vI x0 :: vR z :: []) μ G = if gk G z = 11 ∧ 0 < z then (ev 186 0 [some (vR z), some (vI x0), none] [] μ G).bind (fun q => ev 187 210 [a0, a1, a2, a3] (q.1.toList ++ []) q.2.1 q.2.2) else none := ev_calV (as := [vR z, vI x0]) (r := []) mx_186 pg_187_207 rfl rfl (Nat.le_of_ble_eq_true rfl) (Nat.le_of_ble_eq_true rfl)
theorem pg_187_210 : mm_prog 187 210 = some (0, .iinc 1 1, 213, []) := by decide +kernel
theorem xe_187_210 (a0 a2 a3 : Option MV) (x : Int) (st : List MV) (μ : MM) (G : MG) (h : mm_nL a0 = true) : ev 187 210 [a0, some (vI x), a2, a3] st μ G = ev 187 213 [a0, some (vI (w32 (x + (1)))), a2, a3] st μ G := ev_st pg_187_210 rfl (mm_nl_of h) (Nat.le_of_ble_eq_true rfl)
theorem pg_187_213 : mm_prog 187 213 = some (0, .goto (-113), 216, []) := by decide +kernel
theorem xe_187_213 (a0 a1 a2 a3 : Option MV) (st : List MV) (μ : MM) (G : MG) : ev 187 213 [a0, a1, a2, a3] st μ G = ev 187 100 [a0, a1, a2, a3] st μ G := ev_stp pg_187_213 rfl
theorem pg_187_216 : mm_prog 187 216 = some (0, .iconst 0, 217, []) := by decide +kernel
theorem xe_187_216 (a0 a1 a2 a3 : Option MV) (st : List MV) (μ : MM) (G : MG) : ev 187 216 [a0, a1, a2, a3] st μ G = ev 187 217 [a0, a1, a2, a3] (vI (0) :: st) μ G := ev_stp pg_187_216 rfl
theorem pg_187_217 : mm_prog 187 217 = some (0, .istore_n 1, 218, []) := by decide +kernel
theorem xe_187_217 (a0 a1 a2 a3 : Option MV) (x : Int) (st : List MV) (μ : MM) (G : MG) (h : mm_nL a0 = true) : ev 187 217 [a0, a1, a2, a3] (vI x :: st) μ G = ev 187 218 [a0, some (vI x), a2, a3] st μ G := ev_st pg_187_217 rfl (mm_nl_of h) (Nat.le_of_ble_eq_true rfl)
theorem pg_187_218 : mm_prog 187 218 = some (0, .iconst 0, 219, []) := by decide +kernel
theorem xe_187_218 (a0 a1 a2 a3 : Option MV) (st : List MV) (μ : MM) (G : MG) : ev 187 218 [a0, a1, a2, a3] st μ G = ev 187 219 [a0, a1, a2, a3] (vI (0) :: st) μ G := ev_stp pg_187_218 rfl
theorem pg_187_219 : mm_prog 187 219 = some (0, .istore_n 2, 220, []) := by decide +kernel
theorem xe_187_219 (a0 a1 a2 a3 : Option MV) (x : Int) (st : List MV) (μ : MM) (G : MG) (h : mm_nL a1 = true) : ev 187 219 [a0, a1, a2, a3] (vI x :: st) μ G = ev 187 220 [a0, a1, some (vI x), a3] st μ G := ev_st pg_187_219 rfl (mm_nl_of h) (Nat.le_of_ble_eq_true rfl)
theorem pg_187_220 : mm_prog 187 220 = some (0, .iload_n 2, 221, []) := by decide +kernel
theorem xe_187_220 (a0 a1 a3 : Option MV) (x : Int) (st : List MV) (μ : MM) (G : MG) : ev 187 220 [a0, a1, some (vI x), a3] st μ G = ev 187 221 [a0, a1, some (vI x), a3] (vI x :: st) μ G := ev_stp pg_187_220 rfl
theorem pg_187_221 : mm_prog 187 221 = some (0, .bipush 127, 223, []) := by decide +kernel
theorem xe_187_221 (a0 a1 a2 a3 : Option MV) (st : List MV) (μ : MM) (G : MG) : ev 187 221 [a0, a1, a2, a3] st μ G = ev 187 223 [a0, a1, a2, a3] (vI (127) :: st) μ G := ev_stp pg_187_221 rfl
theorem pg_187_223 : mm_prog 187 223 = some (0, .if_icmp .ge 18, 226, []) := by decide +kernel
theorem xe_187_223 (a0 a1 a2 a3 : Option MV) (x y : Int) (st : List MV) (μ : MM) (G : MG) : ev 187 223 [a0, a1, a2, a3] (vI y :: vI x :: st) μ G = if y ≤ x then ev 187 241 [a0, a1, a2, a3] st μ G else ev 187 226 [a0, a1, a2, a3] st μ G := ev_br (mm_cnd_ge x y) pg_187_223 rfl
theorem pg_187_226 : mm_prog 187 226 = some (0, .iload_n 1, 227, []) := by decide +kernel
theorem xe_187_226 (a0 a2 a3 : Option MV) (x : Int) (st : List MV) (μ : MM) (G : MG) : ev 187 226 [a0, some (vI x), a2, a3] st μ G = ev 187 227 [a0, some (vI x), a2, a3] (vI x :: st) μ G := ev_stp pg_187_226 rfl
theorem pg_187_227 : mm_prog 187 227 = some (0, .aload_n 0, 228, []) := by decide +kernel
theorem xe_187_227 (a1 a2 a3 : Option MV) (x : Int) (st : List MV) (μ : MM) (G : MG) : ev 187 227 [some (vR x), a1, a2, a3] st μ G = ev 187 228 [some (vR x), a1, a2, a3] (vR x :: st) μ G := ev_stp pg_187_227 rfl
theorem pg_187_228 : mm_prog 187 228 = some (0, .getfield 57, 231, [11, 26, 2]) := by decide +kernel
theorem xe_187_228 (a0 a1 a2 a3 : Option MV) (x : Int) (st : List MV) (μ : MM) (G : MG) : ev 187 228 [a0, a1, a2, a3] (vR x :: st) μ G = if gk G x = 11 then ev 187 231 [a0, a1, a2, a3] (vR (μ x 26) :: st) μ G else none := ev_if pg_187_228 rfl
theorem pg_187_231 : mm_prog 187 231 = some (0, .iload_n 2, 232, []) := by decide +kernel
theorem xe_187_231 (a0 a1 a3 : Option MV) (x : Int) (st : List MV) (μ : MM) (G : MG) : ev 187 231 [a0, a1, some (vI x), a3] st μ G = ev 187 232 [a0, a1, some (vI x), a3] (vI x :: st) μ G := ev_stp pg_187_231 rfl
theorem pg_187_232 : mm_prog 187 232 = some (0, .iaload, 233, []) := by decide +kernel
theorem xe_187_232 (a0 a1 a2 a3 : Option MV) (x y : Int) (st : List MV) (μ : MM) (G : MG) : ev 187 232 [a0, a1, a2, a3] (vI x :: vR y :: st) μ G = if gk G y = 100 ∧ 0 ≤ x ∧ x < gl G y then ev 187 233 [a0, a1, a2, a3] (vI (μ y x) :: st) μ G else none := ev_if pg_187_232 rfl
theorem pg_187_233 : mm_prog 187 233 = some (0, .iadd, 234, []) := by decide +kernel
theorem xe_187_233 (a0 a1 a2 a3 : Option MV) (x y : Int) (st : List MV) (μ : MM) (G : MG) : ev 187 233 [a0, a1, a2, a3] (vI y :: vI x :: st) μ G = ev 187 234 [a0, a1, a2, a3] (vI (w32 (x + y)) :: st) μ G := ev_stp pg_187_233 rfl
theorem pg_187_234 : mm_prog 187 234 = some (0, .istore_n 1, 235, []) := by decide +kernel
theorem xe_187_234 (a0 a1 a2 a3 : Option MV) (x : Int) (st : List MV) (μ : MM) (G : MG) (h : mm_nL a0 = true) : ev 187 234 [a0, a1, a2, a3] (vI x :: st) μ G = ev 187 235 [a0, some (vI x), a2, a3] st μ G := ev_st pg_187_234 rfl (mm_nl_of h) (Nat.le_of_ble_eq_true rfl)
theorem pg_187_235 : mm_prog 187 235 = some (0, .iinc 2 1, 238, []) := by decide +kernel
theorem xe_187_235 (a0 a1 a3 : Option MV) (x : Int) (st : List MV) (μ : MM) (G : MG) (h : mm_nL a1 = true) : ev 187 235 [a0, a1, some (vI x), a3] st μ G = ev 187 238 [a0, a1, some (vI (w32 (x + (1)))), a3] st μ G := ev_st pg_187_235 rfl (mm_nl_of h) (Nat.le_of_ble_eq_true rfl)
theorem pg_187_238 : mm_prog 187 238 = some (0, .goto (-18), 241, []) := by decide +kernel
theorem xe_187_238 (a0 a1 a2 a3 : Option MV) (st : List MV) (μ : MM) (G : MG) : ev 187 238 [a0, a1, a2, a3] st μ G = ev 187 220 [a0, a1, a2, a3] st μ G := ev_stp pg_187_238 rfl
theorem pg_187_241 : mm_prog 187 241 = some (0, .aload_n 0, 242, []) := by decide +kernel
theorem xe_187_241 (a1 a2 a3 : Option MV) (x : Int) (st : List MV) (μ : MM) (G : MG) : ev 187 241 [some (vR x), a1, a2, a3] st μ G = ev 187 242 [some (vR x), a1, a2, a3] (vR x :: st) μ G := ev_stp pg_187_241 rfl
theorem pg_187_242 : mm_prog 187 242 = some (0, .getfield 57, 245, [11, 26, 2]) := by decide +kernel
theorem xe_187_242 (a0 a1 a2 a3 : Option MV) (x : Int) (st : List MV) (μ : MM) (G : MG) : ev 187 242 [a0, a1, a2, a3] (vR x :: st) μ G = if gk G x = 11 then ev 187 245 [a0, a1, a2, a3] (vR (μ x 26) :: st) μ G else none := ev_if pg_187_242 rfl
theorem pg_187_245 : mm_prog 187 245 = some (0, .bipush 127, 247, []) := by decide +kernel
theorem xe_187_245 (a0 a1 a2 a3 : Option MV) (st : List MV) (μ : MM) (G : MG) : ev 187 245 [a0, a1, a2, a3] st μ G = ev 187 247 [a0, a1, a2, a3] (vI (127) :: st) μ G := ev_stp pg_187_245 rfl
theorem pg_187_247 : mm_prog 187 247 = some (0, .sipush 256, 250, []) := by decide +kernel
theorem xe_187_247 (a0 a1 a2 a3 : Option MV) (st : List MV) (μ : MM) (G : MG) : ev 187 247 [a0, a1, a2, a3] st μ G = ev 187 250 [a0, a1, a2, a3] (vI (256) :: st) μ G := ev_stp pg_187_247 rfl
theorem pg_187_250 : mm_prog 187 250 = some (0, .iload_n 1, 251, []) := by decide +kernel
theorem xe_187_250 (a0 a2 a3 : Option MV) (x : Int) (st : List MV) (μ : MM) (G : MG) : ev 187 250 [a0, some (vI x), a2, a3] st μ G = ev 187 251 [a0, some (vI x), a2, a3] (vI x :: st) μ G := ev_stp pg_187_250 rfl
theorem pg_187_251 : mm_prog 187 251 = some (0, .sipush 256, 254, []) := by decide +kernel
theorem xe_187_251 (a0 a1 a2 a3 : Option MV) (st : List MV) (μ : MM) (G : MG) : ev 187 251 [a0, a1, a2, a3] st μ G = ev 187 254 [a0, a1, a2, a3] (vI (256) :: st) μ G := ev_stp pg_187_251 rfl
theorem pg_187_254 : mm_prog 187 254 = some (0, .irem, 255, []) := by decide +kernel
theorem xe_187_254 (a0 a1 a2 a3 : Option MV) (x y : Int) (st : List MV) (μ : MM) (G : MG) : ev 187 254 [a0, a1, a2, a3] (vI y :: vI x :: st) μ G = if y = 0 then none else ev 187 255 [a0, a1, a2, a3] (vI (mm_rem x y) :: st) μ G := ev_no pg_187_254 rfl
theorem pg_187_255 : mm_prog 187 255 = some (0, .isub, 256, []) := by decide +kernel
theorem xe_187_255 (a0 a1 a2 a3 : Option MV) (x y : Int) (st : List MV) (μ : MM) (G : MG) : ev 187 255 [a0, a1, a2, a3] (vI y :: vI x :: st) μ G = ev 187 256 [a0, a1, a2, a3] (vI (w32 (x - y)) :: st) μ G := ev_stp pg_187_255 rfl
theorem pg_187_256 : mm_prog 187 256 = some (0, .sipush 256, 259, []) := by decide +kernel
theorem xe_187_256 (a0 a1 a2 a3 : Option MV) (st : List MV) (μ : MM) (G : MG) : ev 187 256 [a0, a1, a2, a3] st μ G = ev 187 259 [a0, a1, a2, a3] (vI (256) :: st) μ G := ev_stp pg_187_256 rfl
theorem pg_187_259 : mm_prog 187 259 = some (0, .irem, 260, []) := by decide +kernel
theorem xe_187_259 (a0 a1 a2 a3 : Option MV) (x y : Int) (st : List MV) (μ : MM) (G : MG) : ev 187 259 [a0, a1, a2, a3] (vI y :: vI x :: st) μ G = if y = 0 then none else ev 187 260 [a0, a1, a2, a3] (vI (mm_rem x y) :: st) μ G := ev_no pg_187_259 rfl
theorem pg_187_260 : mm_prog 187 260 = some (0, .iastore, 261, []) := by decide +kernel
theorem xe_187_260 (a0 a1 a2 a3 : Option MV) (x y z : Int) (st : List MV) (μ : MM) (G : MG) : ev 187 260 [a0, a1, a2, a3] (vI x :: vI y :: vR z :: st) μ G = if gk G z = 100 ∧ 0 ≤ y ∧ y < gl G z ∧ 10 ≤ z then ev 187 261 [a0, a1, a2, a3] st (mset μ z y x) G else none := ev_if pg_187_260 rfl
theorem pg_187_261 : mm_prog 187 261 = some (0, .iconst 1, 262, []) := by decide +kernel
theorem xe_187_261 (a0 a1 a2 a3 : Option MV) (st : List MV) (μ : MM) (G : MG) : ev 187 261 [a0, a1, a2, a3] st μ G = ev 187 262 [a0, a1, a2, a3] (vI (1) :: st) μ G := ev_stp pg_187_261 rfl
theorem pg_187_262 : mm_prog 187 262 = some (2, .ireturn, 263, [1]) := by decide +kernel
theorem xe_187_262 (a0 a1 a2 a3 : Option MV) (x : Int) (μ : MM) (G : MG) : ev 187 262 [a0, a1, a2, a3] [vI x] μ G = if x = 0 ∨ x = 1 then some (some (vI x), μ, G) else none := ev_retB pg_187_262
-- X11_forged
theorem pg_188_0 : mm_prog 188 0 = some (0, .aload_n 0, 1, []) := by decide +kernel
theorem xe_188_0 (a1 : Option MV) (x : Int) (st : List MV) (μ : MM) (G : MG) : ev 188 0 [some (vR x), a1] st μ G = ev 188 1 [some (vR x), a1] (vR x :: st) μ G := ev_stp pg_188_0 rfl
theorem pg_188_1 : mm_prog 188 1 = some (0, .iconst 0, 2, []) := by decide +kernel
theorem xe_188_1 (a0 a1 : Option MV) (st : List MV) (μ : MM) (G : MG) : ev 188 1 [a0, a1] st μ G = ev 188 2 [a0, a1] (vI (0) :: st) μ G := ev_stp pg_188_1 rfl
theorem pg_188_2 : mm_prog 188 2 = some (0, .putfield 1, 5, [11, 0, 0]) := by decide +kernel
theorem xe_188_2 (a0 a1 : Option MV) (x y : Int) (st : List MV) (μ : MM) (G : MG) : ev 188 2 [a0, a1] (vI x :: vR y :: st) μ G = if gk G y = 11 then ev 188 5 [a0, a1] st (mset μ y 0 x) G else none := ev_put0 pg_188_2
theorem pg_188_5 : mm_prog 188 5 = some (0, .iload_n 1, 6, []) := by decide +kernel
theorem xe_188_5 (a0 : Option MV) (x : Int) (st : List MV) (μ : MM) (G : MG) : ev 188 5 [a0, some (vI x)] st μ G = ev 188 6 [a0, some (vI x)] (vI x :: st) μ G := ev_stp pg_188_5 rfl
theorem pg_188_6 : mm_prog 188 6 = some (0, .i2l, 7, []) := by decide +kernel
theorem xe_188_6 (a0 a1 : Option MV) (x : Int) (st : List MV) (μ : MM) (G : MG) : ev 188 6 [a0, a1] (vI x :: st) μ G = ev 188 7 [a0, a1] (vL x :: st) μ G := ev_stp pg_188_6 rfl
theorem pg_188_7 : mm_prog 188 7 = some (0, .lconst 0, 8, []) := by decide +kernel
theorem xe_188_7 (a0 a1 : Option MV) (st : List MV) (μ : MM) (G : MG) : ev 188 7 [a0, a1] st μ G = ev 188 8 [a0, a1] (vL 0 :: st) μ G := ev_stp pg_188_7 rfl
theorem pg_188_8 : mm_prog 188 8 = some (0, .ldc2_w 123, 11, [127]) := by decide +kernel
theorem xe_188_8 (a0 a1 : Option MV) (st : List MV) (μ : MM) (G : MG) : ev 188 8 [a0, a1] st μ G = ev 188 11 [a0, a1] (vL (127) :: st) μ G := ev_stp pg_188_8 rfl
theorem pg_188_11 : mm_prog 188 11 = some (1, .invokestatic 107, 14, [0, 148, 3, 0]) := by decide +kernel
theorem xe_188_11 (a0 a1 : Option MV) (x0 x1 x2 : Int) (μ : MM) (G : MG) : ev 188 11 [a0, a1] (vL x2 :: vL x1 :: vL x0 :: []) μ G = (ev 148 0 [some (vL x0), none, some (vL x1), none, some (vL x2), none] [] μ G).bind (fun q => ev 188 14 [a0, a1] (q.1.toList ++ []) q.2.1 q.2.2) := ev_calS (as := [vL x0, vL x1, vL x2]) (r := []) mx_148 pg_188_11 rfl rfl (Nat.le_of_ble_eq_true rfl) (Nat.le_of_ble_eq_true rfl)
theorem pg_188_14 : mm_prog 188 14 = some (0, .ifCond .ne 6, 17, []) := by decide +kernel
theorem xe_188_14 (a0 a1 : Option MV) (x : Int) (st : List MV) (μ : MM) (G : MG) : ev 188 14 [a0, a1] (vI x :: st) μ G = if ¬ x = 0 then ev 188 20 [a0, a1] st μ G else ev 188 17 [a0, a1] st μ G := ev_br (mm_cnd_ne x 0) pg_188_14 rfl
theorem pg_188_17 : mm_prog 188 17 = some (0, .bipush (-2), 19, []) := by decide +kernel
theorem xe_188_17 (a0 a1 : Option MV) (st : List MV) (μ : MM) (G : MG) : ev 188 17 [a0, a1] st μ G = ev 188 19 [a0, a1] (vI (-2) :: st) μ G := ev_stp pg_188_17 rfl
theorem pg_188_19 : mm_prog 188 19 = some (2, .ireturn, 20, [0]) := by decide +kernel
theorem xe_188_19 (a0 a1 : Option MV) (x : Int) (μ : MM) (G : MG) : ev 188 19 [a0, a1] [vI x] μ G = some (some (vI x), μ, G) := ev_ret pg_188_19 rfl
theorem pg_188_20 : mm_prog 188 20 = some (0, .aload_n 0, 21, []) := by decide +kernel
theorem xe_188_20 (a1 : Option MV) (x : Int) (st : List MV) (μ : MM) (G : MG) : ev 188 20 [some (vR x), a1] st μ G = ev 188 21 [some (vR x), a1] (vR x :: st) μ G := ev_stp pg_188_20 rfl
theorem pg_188_21 : mm_prog 188 21 = some (0, .getfield 128, 24, [11, 6, 0]) := by decide +kernel
theorem xe_188_21 (a0 a1 : Option MV) (x : Int) (st : List MV) (μ : MM) (G : MG) : ev 188 21 [a0, a1] (vR x :: st) μ G = if gk G x = 11 then ev 188 24 [a0, a1] (vI (μ x 6) :: st) μ G else none := ev_if pg_188_21 rfl
theorem pg_188_24 : mm_prog 188 24 = some (0, .ifCond .ne 6, 27, []) := by decide +kernel
theorem xe_188_24 (a0 a1 : Option MV) (x : Int) (st : List MV) (μ : MM) (G : MG) : ev 188 24 [a0, a1] (vI x :: st) μ G = if ¬ x = 0 then ev 188 30 [a0, a1] st μ G else ev 188 27 [a0, a1] st μ G := ev_br (mm_cnd_ne x 0) pg_188_24 rfl
theorem pg_188_27 : mm_prog 188 27 = some (0, .bipush (-5), 29, []) := by decide +kernel
theorem xe_188_27 (a0 a1 : Option MV) (st : List MV) (μ : MM) (G : MG) : ev 188 27 [a0, a1] st μ G = ev 188 29 [a0, a1] (vI (-5) :: st) μ G := ev_stp pg_188_27 rfl
theorem pg_188_29 : mm_prog 188 29 = some (2, .ireturn, 30, [0]) := by decide +kernel
theorem xe_188_29 (a0 a1 : Option MV) (x : Int) (μ : MM) (G : MG) : ev 188 29 [a0, a1] [vI x] μ G = some (some (vI x), μ, G) := ev_ret pg_188_29 rfl
theorem pg_188_30 : mm_prog 188 30 = some (0, .aload_n 0, 31, []) := by decide +kernel
theorem xe_188_30 (a1 : Option MV) (x : Int) (st : List MV) (μ : MM) (G : MG) : ev 188 30 [some (vR x), a1] st μ G = ev 188 31 [some (vR x), a1] (vR x :: st) μ G := ev_stp pg_188_30 rfl
theorem pg_188_31 : mm_prog 188 31 = some (1, .invokevirtual 273, 34, [1, 187, 0, 11]) := by decide +kernel
theorem xe_188_31 (a0 a1 : Option MV) (z : Int) (μ : MM) (G : MG) : ev 188 31 [a0, a1] (vR z :: []) μ G = if gk G z = 11 ∧ 0 < z then (ev 187 0 [some (vR z), none, none, none] [] μ G).bind (fun q => ev 188 34 [a0, a1] (q.1.toList ++ []) q.2.1 q.2.2) else none := ev_calV (as := [vR z]) (r := []) mx_187 pg_188_31 rfl rfl (Nat.le_of_ble_eq_true rfl) (Nat.le_of_ble_eq_true rfl)
theorem pg_188_34 : mm_prog 188 34 = some (0, .ifCond .eq 12, 37, []) := by decide +kernel
theorem xe_188_34 (a0 a1 : Option MV) (x : Int) (st : List MV) (μ : MM) (G : MG) : ev 188 34 [a0, a1] (vI x :: st) μ G = if x = 0 then ev 188 46 [a0, a1] st μ G else ev 188 37 [a0, a1] st μ G := ev_br (mm_cnd_eq x 0) pg_188_34 rfl
theorem pg_188_37 : mm_prog 188 37 = some (0, .aload_n 0, 38, []) := by decide +kernel
theorem xe_188_37 (a1 : Option MV) (x : Int) (st : List MV) (μ : MM) (G : MG) : ev 188 37 [some (vR x), a1] st μ G = ev 188 38 [some (vR x), a1] (vR x :: st) μ G := ev_stp pg_188_37 rfl
theorem pg_188_38 : mm_prog 188 38 = some (0, .getfield 57, 41, [11, 26, 2]) := by decide +kernel
theorem xe_188_38 (a0 a1 : Option MV) (x : Int) (st : List MV) (μ : MM) (G : MG) : ev 188 38 [a0, a1] (vR x :: st) μ G = if gk G x = 11 then ev 188 41 [a0, a1] (vR (μ x 26) :: st) μ G else none := ev_if pg_188_38 rfl
theorem pg_188_41 : mm_prog 188 41 = some (0, .iload_n 1, 42, []) := by decide +kernel
theorem xe_188_41 (a0 : Option MV) (x : Int) (st : List MV) (μ : MM) (G : MG) : ev 188 41 [a0, some (vI x)] st μ G = ev 188 42 [a0, some (vI x)] (vI x :: st) μ G := ev_stp pg_188_41 rfl
theorem pg_188_42 : mm_prog 188 42 = some (0, .iaload, 43, []) := by decide +kernel
theorem xe_188_42 (a0 a1 : Option MV) (x y : Int) (st : List MV) (μ : MM) (G : MG) : ev 188 42 [a0, a1] (vI x :: vR y :: st) μ G = if gk G y = 100 ∧ 0 ≤ x ∧ x < gl G y then ev 188 43 [a0, a1] (vI (μ y x) :: st) μ G else none := ev_if pg_188_42 rfl
theorem pg_188_43 : mm_prog 188 43 = some (0, .goto 4, 46, []) := by decide +kernel
theorem xe_188_43 (a0 a1 : Option MV) (st : List MV) (μ : MM) (G : MG) : ev 188 43 [a0, a1] st μ G = ev 188 47 [a0, a1] st μ G := ev_stp pg_188_43 rfl
theorem pg_188_46 : mm_prog 188 46 = some (0, .iconst (-1), 47, []) := by decide +kernel
theorem xe_188_46 (a0 a1 : Option MV) (st : List MV) (μ : MM) (G : MG) : ev 188 46 [a0, a1] st μ G = ev 188 47 [a0, a1] (vI (-1) :: st) μ G := ev_stp pg_188_46 rfl
theorem pg_188_47 : mm_prog 188 47 = some (2, .ireturn, 48, [0]) := by decide +kernel
theorem xe_188_47 (a0 a1 : Option MV) (x : Int) (μ : MM) (G : MG) : ev 188 47 [a0, a1] [vI x] μ G = some (some (vI x), μ, G) := ev_ret pg_188_47 rfl
-- X11_calls
theorem pg_189_0 : mm_prog 189 0 = some (0, .aload_n 0, 1, []) := by decide +kernel
theorem xe_189_0 (a1 : Option MV) (x : Int) (st : List MV) (μ : MM) (G : MG) : ev 189 0 [some (vR x), a1] st μ G = ev 189 1 [some (vR x), a1] (vR x :: st) μ G := ev_stp pg_189_0 rfl
theorem pg_189_1 : mm_prog 189 1 = some (0, .getfield 60, 4, [11, 27, 2]) := by decide +kernel
theorem xe_189_1 (a0 a1 : Option MV) (x : Int) (st : List MV) (μ : MM) (G : MG) : ev 189 1 [a0, a1] (vR x :: st) μ G = if gk G x = 11 then ev 189 4 [a0, a1] (vR (μ x 27) :: st) μ G else none := ev_if pg_189_1 rfl
theorem pg_189_4 : mm_prog 189 4 = some (0, .aload_n 0, 5, []) := by decide +kernel
theorem xe_189_4 (a1 : Option MV) (x : Int) (st : List MV) (μ : MM) (G : MG) : ev 189 4 [some (vR x), a1] st μ G = ev 189 5 [some (vR x), a1] (vR x :: st) μ G := ev_stp pg_189_4 rfl
theorem pg_189_5 : mm_prog 189 5 = some (0, .getfield 276, 8, [11, 28, 0]) := by decide +kernel
theorem xe_189_5 (a0 a1 : Option MV) (x : Int) (st : List MV) (μ : MM) (G : MG) : ev 189 5 [a0, a1] (vR x :: st) μ G = if gk G x = 11 then ev 189 8 [a0, a1] (vI (μ x 28) :: st) μ G else none := ev_if pg_189_5 rfl
theorem pg_189_8 : mm_prog 189 8 = some (0, .iload_n 1, 9, []) := by decide +kernel
theorem xe_189_8 (a0 : Option MV) (x : Int) (st : List MV) (μ : MM) (G : MG) : ev 189 8 [a0, some (vI x)] st μ G = ev 189 9 [a0, some (vI x)] (vI x :: st) μ G := ev_stp pg_189_8 rfl
theorem pg_189_9 : mm_prog 189 9 = some (0, .iastore, 10, []) := by decide +kernel
theorem xe_189_9 (a0 a1 : Option MV) (x y z : Int) (st : List MV) (μ : MM) (G : MG) : ev 189 9 [a0, a1] (vI x :: vI y :: vR z :: st) μ G = if gk G z = 100 ∧ 0 ≤ y ∧ y < gl G z ∧ 10 ≤ z then ev 189 10 [a0, a1] st (mset μ z y x) G else none := ev_if pg_189_9 rfl
theorem pg_189_10 : mm_prog 189 10 = some (0, .aload_n 0, 11, []) := by decide +kernel
theorem xe_189_10 (a1 : Option MV) (x : Int) (st : List MV) (μ : MM) (G : MG) : ev 189 10 [some (vR x), a1] st μ G = ev 189 11 [some (vR x), a1] (vR x :: st) μ G := ev_stp pg_189_10 rfl
theorem pg_189_11 : mm_prog 189 11 = some (0, .dup, 12, []) := by decide +kernel
theorem xe_189_11 (a0 a1 : Option MV) (x : Int) (st : List MV) (μ : MM) (G : MG) : ev 189 11 [a0, a1] (vR x :: st) μ G = ev 189 12 [a0, a1] (vR x :: vR x :: st) μ G := ev_stp pg_189_11 rfl
theorem pg_189_12 : mm_prog 189 12 = some (0, .getfield 276, 15, [11, 28, 0]) := by decide +kernel
theorem xe_189_12 (a0 a1 : Option MV) (x : Int) (st : List MV) (μ : MM) (G : MG) : ev 189 12 [a0, a1] (vR x :: st) μ G = if gk G x = 11 then ev 189 15 [a0, a1] (vI (μ x 28) :: st) μ G else none := ev_if pg_189_12 rfl
theorem pg_189_15 : mm_prog 189 15 = some (0, .iconst 1, 16, []) := by decide +kernel
theorem xe_189_15 (a0 a1 : Option MV) (st : List MV) (μ : MM) (G : MG) : ev 189 15 [a0, a1] st μ G = ev 189 16 [a0, a1] (vI (1) :: st) μ G := ev_stp pg_189_15 rfl
theorem pg_189_16 : mm_prog 189 16 = some (0, .iadd, 17, []) := by decide +kernel
theorem xe_189_16 (a0 a1 : Option MV) (x y : Int) (st : List MV) (μ : MM) (G : MG) : ev 189 16 [a0, a1] (vI y :: vI x :: st) μ G = ev 189 17 [a0, a1] (vI (w32 (x + y)) :: st) μ G := ev_stp pg_189_16 rfl
theorem pg_189_17 : mm_prog 189 17 = some (0, .putfield 276, 20, [11, 28, 0]) := by decide +kernel
theorem xe_189_17 (a0 a1 : Option MV) (x y : Int) (st : List MV) (μ : MM) (G : MG) : ev 189 17 [a0, a1] (vI x :: vR y :: st) μ G = if gk G y = 11 then ev 189 20 [a0, a1] st (mset μ y 28 x) G else none := ev_put0 pg_189_17
theorem pg_189_20 : mm_prog 189 20 = some (2, .return_, 21, []) := by decide +kernel
theorem xe_189_20 (a0 a1 : Option MV) (μ : MM) (G : MG) : ev 189 20 [a0, a1] [] μ G = some (none, μ, G) := ev_ret pg_189_20 rfl
-- X11_callsNumber
theorem pg_190_0 : mm_prog 190 0 = some (0, .iconst 1, 1, []) := by decide +kernel
theorem xe_190_0 (a0 a1 a2 : Option MV) (st : List MV) (μ : MM) (G : MG) : ev 190 0 [a0, a1, a2] st μ G = ev 190 1 [a0, a1, a2] (vI (1) :: st) μ G := ev_stp pg_190_0 rfl
theorem pg_190_1 : mm_prog 190 1 = some (0, .istore_n 2, 2, []) := by decide +kernel
theorem xe_190_1 (a0 a1 a2 : Option MV) (x : Int) (st : List MV) (μ : MM) (G : MG) (h : mm_nL a1 = true) : ev 190 1 [a0, a1, a2] (vI x :: st) μ G = ev 190 2 [a0, a1, some (vI x)] st μ G := ev_st pg_190_1 rfl (mm_nl_of h) (Nat.le_of_ble_eq_true rfl)
theorem pg_190_2 : mm_prog 190 2 = some (0, .iload_n 1, 3, []) := by decide +kernel
theorem xe_190_2 (a0 a2 : Option MV) (x : Int) (st : List MV) (μ : MM) (G : MG) : ev 190 2 [a0, some (vI x), a2] st μ G = ev 190 3 [a0, some (vI x), a2] (vI x :: st) μ G := ev_stp pg_190_2 rfl
theorem pg_190_3 : mm_prog 190 3 = some (0, .iload_n 2, 4, []) := by decide +kernel
theorem xe_190_3 (a0 a1 : Option MV) (x : Int) (st : List MV) (μ : MM) (G : MG) : ev 190 3 [a0, a1, some (vI x)] st μ G = ev 190 4 [a0, a1, some (vI x)] (vI x :: st) μ G := ev_stp pg_190_3 rfl
theorem pg_190_4 : mm_prog 190 4 = some (0, .idiv, 5, []) := by decide +kernel
theorem xe_190_4 (a0 a1 a2 : Option MV) (x y : Int) (st : List MV) (μ : MM) (G : MG) : ev 190 4 [a0, a1, a2] (vI y :: vI x :: st) μ G = if y = 0 then none else ev 190 5 [a0, a1, a2] (vI (mm_div x y) :: st) μ G := ev_no pg_190_4 rfl
theorem pg_190_5 : mm_prog 190 5 = some (0, .bipush 9, 7, []) := by decide +kernel
theorem xe_190_5 (a0 a1 a2 : Option MV) (st : List MV) (μ : MM) (G : MG) : ev 190 5 [a0, a1, a2] st μ G = ev 190 7 [a0, a1, a2] (vI (9) :: st) μ G := ev_stp pg_190_5 rfl
theorem pg_190_7 : mm_prog 190 7 = some (0, .if_icmp .le 11, 10, []) := by decide +kernel
theorem xe_190_7 (a0 a1 a2 : Option MV) (x y : Int) (st : List MV) (μ : MM) (G : MG) : ev 190 7 [a0, a1, a2] (vI y :: vI x :: st) μ G = if x ≤ y then ev 190 18 [a0, a1, a2] st μ G else ev 190 10 [a0, a1, a2] st μ G := ev_br (mm_cnd_le x y) pg_190_7 rfl
theorem pg_190_10 : mm_prog 190 10 = some (0, .iload_n 2, 11, []) := by decide +kernel
theorem xe_190_10 (a0 a1 : Option MV) (x : Int) (st : List MV) (μ : MM) (G : MG) : ev 190 10 [a0, a1, some (vI x)] st μ G = ev 190 11 [a0, a1, some (vI x)] (vI x :: st) μ G := ev_stp pg_190_10 rfl
theorem pg_190_11 : mm_prog 190 11 = some (0, .bipush 10, 13, []) := by decide +kernel
theorem xe_190_11 (a0 a1 a2 : Option MV) (st : List MV) (μ : MM) (G : MG) : ev 190 11 [a0, a1, a2] st μ G = ev 190 13 [a0, a1, a2] (vI (10) :: st) μ G := ev_stp pg_190_11 rfl
theorem pg_190_13 : mm_prog 190 13 = some (0, .imul, 14, []) := by decide +kernel
theorem xe_190_13 (a0 a1 a2 : Option MV) (x y : Int) (st : List MV) (μ : MM) (G : MG) : ev 190 13 [a0, a1, a2] (vI y :: vI x :: st) μ G = ev 190 14 [a0, a1, a2] (vI (w32 (x * y)) :: st) μ G := ev_stp pg_190_13 rfl
theorem pg_190_14 : mm_prog 190 14 = some (0, .istore_n 2, 15, []) := by decide +kernel
theorem xe_190_14 (a0 a1 a2 : Option MV) (x : Int) (st : List MV) (μ : MM) (G : MG) (h : mm_nL a1 = true) : ev 190 14 [a0, a1, a2] (vI x :: st) μ G = ev 190 15 [a0, a1, some (vI x)] st μ G := ev_st pg_190_14 rfl (mm_nl_of h) (Nat.le_of_ble_eq_true rfl)
theorem pg_190_15 : mm_prog 190 15 = some (0, .goto (-13), 18, []) := by decide +kernel
theorem xe_190_15 (a0 a1 a2 : Option MV) (st : List MV) (μ : MM) (G : MG) : ev 190 15 [a0, a1, a2] st μ G = ev 190 2 [a0, a1, a2] st μ G := ev_stp pg_190_15 rfl
theorem pg_190_18 : mm_prog 190 18 = some (0, .iload_n 2, 19, []) := by decide +kernel
theorem xe_190_18 (a0 a1 : Option MV) (x : Int) (st : List MV) (μ : MM) (G : MG) : ev 190 18 [a0, a1, some (vI x)] st μ G = ev 190 19 [a0, a1, some (vI x)] (vI x :: st) μ G := ev_stp pg_190_18 rfl
theorem pg_190_19 : mm_prog 190 19 = some (0, .ifCond .le 24, 22, []) := by decide +kernel
theorem xe_190_19 (a0 a1 a2 : Option MV) (x : Int) (st : List MV) (μ : MM) (G : MG) : ev 190 19 [a0, a1, a2] (vI x :: st) μ G = if x ≤ 0 then ev 190 43 [a0, a1, a2] st μ G else ev 190 22 [a0, a1, a2] st μ G := ev_br (mm_cnd_le x 0) pg_190_19 rfl
theorem pg_190_22 : mm_prog 190 22 = some (0, .aload_n 0, 23, []) := by decide +kernel
theorem xe_190_22 (a1 a2 : Option MV) (x : Int) (st : List MV) (μ : MM) (G : MG) : ev 190 22 [some (vR x), a1, a2] st μ G = ev 190 23 [some (vR x), a1, a2] (vR x :: st) μ G := ev_stp pg_190_22 rfl
theorem pg_190_23 : mm_prog 190 23 = some (0, .bipush 48, 25, []) := by decide +kernel
theorem xe_190_23 (a0 a1 a2 : Option MV) (st : List MV) (μ : MM) (G : MG) : ev 190 23 [a0, a1, a2] st μ G = ev 190 25 [a0, a1, a2] (vI (48) :: st) μ G := ev_stp pg_190_23 rfl
theorem pg_190_25 : mm_prog 190 25 = some (0, .iload_n 1, 26, []) := by decide +kernel
theorem xe_190_25 (a0 a2 : Option MV) (x : Int) (st : List MV) (μ : MM) (G : MG) : ev 190 25 [a0, some (vI x), a2] st μ G = ev 190 26 [a0, some (vI x), a2] (vI x :: st) μ G := ev_stp pg_190_25 rfl
theorem pg_190_26 : mm_prog 190 26 = some (0, .iload_n 2, 27, []) := by decide +kernel
theorem xe_190_26 (a0 a1 : Option MV) (x : Int) (st : List MV) (μ : MM) (G : MG) : ev 190 26 [a0, a1, some (vI x)] st μ G = ev 190 27 [a0, a1, some (vI x)] (vI x :: st) μ G := ev_stp pg_190_26 rfl
theorem pg_190_27 : mm_prog 190 27 = some (0, .idiv, 28, []) := by decide +kernel
theorem xe_190_27 (a0 a1 a2 : Option MV) (x y : Int) (st : List MV) (μ : MM) (G : MG) : ev 190 27 [a0, a1, a2] (vI y :: vI x :: st) μ G = if y = 0 then none else ev 190 28 [a0, a1, a2] (vI (mm_div x y) :: st) μ G := ev_no pg_190_27 rfl
theorem pg_190_28 : mm_prog 190 28 = some (0, .bipush 10, 30, []) := by decide +kernel
theorem xe_190_28 (a0 a1 a2 : Option MV) (st : List MV) (μ : MM) (G : MG) : ev 190 28 [a0, a1, a2] st μ G = ev 190 30 [a0, a1, a2] (vI (10) :: st) μ G := ev_stp pg_190_28 rfl
theorem pg_190_30 : mm_prog 190 30 = some (0, .irem, 31, []) := by decide +kernel
theorem xe_190_30 (a0 a1 a2 : Option MV) (x y : Int) (st : List MV) (μ : MM) (G : MG) : ev 190 30 [a0, a1, a2] (vI y :: vI x :: st) μ G = if y = 0 then none else ev 190 31 [a0, a1, a2] (vI (mm_rem x y) :: st) μ G := ev_no pg_190_30 rfl
theorem pg_190_31 : mm_prog 190 31 = some (0, .iadd, 32, []) := by decide +kernel
theorem xe_190_31 (a0 a1 a2 : Option MV) (x y : Int) (st : List MV) (μ : MM) (G : MG) : ev 190 31 [a0, a1, a2] (vI y :: vI x :: st) μ G = ev 190 32 [a0, a1, a2] (vI (w32 (x + y)) :: st) μ G := ev_stp pg_190_31 rfl
theorem pg_190_32 : mm_prog 190 32 = some (1, .invokevirtual 279, 35, [1, 189, 1, 11]) := by decide +kernel
theorem xe_190_32 (a0 a1 a2 : Option MV) (x0 z : Int) (μ : MM) (G : MG) : ev 190 32 [a0, a1, a2] (vI x0 :: vR z :: []) μ G = if gk G z = 11 ∧ 0 < z then (ev 189 0 [some (vR z), some (vI x0)] [] μ G).bind (fun q => ev 190 35 [a0, a1, a2] (q.1.toList ++ []) q.2.1 q.2.2) else none := ev_calV (as := [vR z, vI x0]) (r := []) mx_189 pg_190_32 rfl rfl (Nat.le_of_ble_eq_true rfl) (Nat.le_of_ble_eq_true rfl)
theorem pg_190_35 : mm_prog 190 35 = some (0, .iload_n 2, 36, []) := by decide +kernel
theorem xe_190_35 (a0 a1 : Option MV) (x : Int) (st : List MV) (μ : MM) (G : MG) : ev 190 35 [a0, a1, some (vI x)] st μ G = ev 190 36 [a0, a1, some (vI x)] (vI x :: st) μ G := ev_stp pg_190_35 rfl
theorem pg_190_36 : mm_prog 190 36 = some (0, .bipush 10, 38, []) := by decide +kernel
theorem xe_190_36 (a0 a1 a2 : Option MV) (st : List MV) (μ : MM) (G : MG) : ev 190 36 [a0, a1, a2] st μ G = ev 190 38 [a0, a1, a2] (vI (10) :: st) μ G := ev_stp pg_190_36 rfl
theorem pg_190_38 : mm_prog 190 38 = some (0, .idiv, 39, []) := by decide +kernel
theorem xe_190_38 (a0 a1 a2 : Option MV) (x y : Int) (st : List MV) (μ : MM) (G : MG) : ev 190 38 [a0, a1, a2] (vI y :: vI x :: st) μ G = if y = 0 then none else ev 190 39 [a0, a1, a2] (vI (mm_div x y) :: st) μ G := ev_no pg_190_38 rfl
theorem pg_190_39 : mm_prog 190 39 = some (0, .istore_n 2, 40, []) := by decide +kernel
theorem xe_190_39 (a0 a1 a2 : Option MV) (x : Int) (st : List MV) (μ : MM) (G : MG) (h : mm_nL a1 = true) : ev 190 39 [a0, a1, a2] (vI x :: st) μ G = ev 190 40 [a0, a1, some (vI x)] st μ G := ev_st pg_190_39 rfl (mm_nl_of h) (Nat.le_of_ble_eq_true rfl)
theorem pg_190_40 : mm_prog 190 40 = some (0, .goto (-22), 43, []) := by decide +kernel
theorem xe_190_40 (a0 a1 a2 : Option MV) (st : List MV) (μ : MM) (G : MG) : ev 190 40 [a0, a1, a2] st μ G = ev 190 18 [a0, a1, a2] st μ G := ev_stp pg_190_40 rfl
theorem pg_190_43 : mm_prog 190 43 = some (2, .return_, 44, []) := by decide +kernel
theorem xe_190_43 (a0 a1 a2 : Option MV) (μ : MM) (G : MG) : ev 190 43 [a0, a1, a2] [] μ G = some (none, μ, G) := ev_ret pg_190_43 rfl
-- X11_called
theorem pg_191_0 : mm_prog 191 0 = some (0, .aload_n 0, 1, []) := by decide +kernel
theorem xe_191_0 (a1 a2 : Option MV) (x : Int) (st : List MV) (μ : MM) (G : MG) : ev 191 0 [some (vR x), a1, a2] st μ G = ev 191 1 [some (vR x), a1, a2] (vR x :: st) μ G := ev_stp pg_191_0 rfl
theorem pg_191_1 : mm_prog 191 1 = some (0, .iconst 0, 2, []) := by decide +kernel
theorem xe_191_1 (a0 a1 a2 : Option MV) (st : List MV) (μ : MM) (G : MG) : ev 191 1 [a0, a1, a2] st μ G = ev 191 2 [a0, a1, a2] (vI (0) :: st) μ G := ev_stp pg_191_1 rfl
theorem pg_191_2 : mm_prog 191 2 = some (0, .putfield 1, 5, [11, 0, 0]) := by decide +kernel
theorem xe_191_2 (a0 a1 a2 : Option MV) (x y : Int) (st : List MV) (μ : MM) (G : MG) : ev 191 2 [a0, a1, a2] (vI x :: vR y :: st) μ G = if gk G y = 11 then ev 191 5 [a0, a1, a2] st (mset μ y 0 x) G else none := ev_put0 pg_191_2
theorem pg_191_5 : mm_prog 191 5 = some (0, .aload_n 0, 6, []) := by decide +kernel
theorem xe_191_5 (a1 a2 : Option MV) (x : Int) (st : List MV) (μ : MM) (G : MG) : ev 191 5 [some (vR x), a1, a2] st μ G = ev 191 6 [some (vR x), a1, a2] (vR x :: st) μ G := ev_stp pg_191_5 rfl
theorem pg_191_6 : mm_prog 191 6 = some (0, .iload_n 1, 7, []) := by decide +kernel
theorem xe_191_6 (a0 a2 : Option MV) (x : Int) (st : List MV) (μ : MM) (G : MG) : ev 191 6 [a0, some (vI x), a2] st μ G = ev 191 7 [a0, some (vI x), a2] (vI x :: st) μ G := ev_stp pg_191_6 rfl
theorem pg_191_7 : mm_prog 191 7 = some (1, .invokevirtual 239, 10, [1, 181, 1, 11]) := by decide +kernel
theorem xe_191_7 (a0 a1 a2 : Option MV) (x0 z : Int) (μ : MM) (G : MG) : ev 191 7 [a0, a1, a2] (vI x0 :: vR z :: []) μ G = if gk G z = 11 ∧ 0 < z then (ev 181 0 [some (vR z), some (vI x0)] [] μ G).bind (fun q => ev 191 10 [a0, a1, a2] (q.1.toList ++ []) q.2.1 q.2.2) else none := ev_calV (as := [vR z, vI x0]) (r := []) mx_181 pg_191_7 rfl rfl (Nat.le_of_ble_eq_true rfl) (Nat.le_of_ble_eq_true rfl)
theorem pg_191_10 : mm_prog 191 10 = some (0, .ifCond .ne 6, 13, []) := by decide +kernel
theorem xe_191_10 (a0 a1 a2 : Option MV) (x : Int) (st : List MV) (μ : MM) (G : MG) : ev 191 10 [a0, a1, a2] (vI x :: st) μ G = if ¬ x = 0 then ev 191 16 [a0, a1, a2] st μ G else ev 191 13 [a0, a1, a2] st μ G := ev_br (mm_cnd_ne x 0) pg_191_10 rfl
theorem pg_191_13 : mm_prog 191 13 = some (0, .bipush (-2), 15, []) := by decide +kernel
theorem xe_191_13 (a0 a1 a2 : Option MV) (st : List MV) (μ : MM) (G : MG) : ev 191 13 [a0, a1, a2] st μ G = ev 191 15 [a0, a1, a2] (vI (-2) :: st) μ G := ev_stp pg_191_13 rfl
theorem pg_191_15 : mm_prog 191 15 = some (2, .ireturn, 16, [0]) := by decide +kernel
theorem xe_191_15 (a0 a1 a2 : Option MV) (x : Int) (μ : MM) (G : MG) : ev 191 15 [a0, a1, a2] [vI x] μ G = some (some (vI x), μ, G) := ev_ret pg_191_15 rfl
theorem pg_191_16 : mm_prog 191 16 = some (0, .iload_n 2, 17, []) := by decide +kernel
theorem xe_191_16 (a0 a1 : Option MV) (x : Int) (st : List MV) (μ : MM) (G : MG) : ev 191 16 [a0, a1, some (vI x)] st μ G = ev 191 17 [a0, a1, some (vI x)] (vI x :: st) μ G := ev_stp pg_191_16 rfl
theorem pg_191_17 : mm_prog 191 17 = some (0, .ifCond .ge 6, 20, []) := by decide +kernel
theorem xe_191_17 (a0 a1 a2 : Option MV) (x : Int) (st : List MV) (μ : MM) (G : MG) : ev 191 17 [a0, a1, a2] (vI x :: st) μ G = if 0 ≤ x then ev 191 23 [a0, a1, a2] st μ G else ev 191 20 [a0, a1, a2] st μ G := ev_br (mm_cnd_ge x 0) pg_191_17 rfl
theorem pg_191_20 : mm_prog 191 20 = some (0, .bipush (-3), 22, []) := by decide +kernel
theorem xe_191_20 (a0 a1 a2 : Option MV) (st : List MV) (μ : MM) (G : MG) : ev 191 20 [a0, a1, a2] st μ G = ev 191 22 [a0, a1, a2] (vI (-3) :: st) μ G := ev_stp pg_191_20 rfl
theorem pg_191_22 : mm_prog 191 22 = some (2, .ireturn, 23, [0]) := by decide +kernel
theorem xe_191_22 (a0 a1 a2 : Option MV) (x : Int) (μ : MM) (G : MG) : ev 191 22 [a0, a1, a2] [vI x] μ G = some (some (vI x), μ, G) := ev_ret pg_191_22 rfl
theorem pg_191_23 : mm_prog 191 23 = some (0, .aload_n 0, 24, []) := by decide +kernel
theorem xe_191_23 (a1 a2 : Option MV) (x : Int) (st : List MV) (μ : MM) (G : MG) : ev 191 23 [some (vR x), a1, a2] st μ G = ev 191 24 [some (vR x), a1, a2] (vR x :: st) μ G := ev_stp pg_191_23 rfl
theorem pg_191_24 : mm_prog 191 24 = some (0, .iconst 0, 25, []) := by decide +kernel
theorem xe_191_24 (a0 a1 a2 : Option MV) (st : List MV) (μ : MM) (G : MG) : ev 191 24 [a0, a1, a2] st μ G = ev 191 25 [a0, a1, a2] (vI (0) :: st) μ G := ev_stp pg_191_24 rfl
theorem pg_191_25 : mm_prog 191 25 = some (0, .putfield 276, 28, [11, 28, 0]) := by decide +kernel
theorem xe_191_25 (a0 a1 a2 : Option MV) (x y : Int) (st : List MV) (μ : MM) (G : MG) : ev 191 25 [a0, a1, a2] (vI x :: vR y :: st) μ G = if gk G y = 11 then ev 191 28 [a0, a1, a2] st (mset μ y 28 x) G else none := ev_put0 pg_191_25
theorem pg_191_28 : mm_prog 191 28 = some (0, .aload_n 0, 29, []) := by decide +kernel
theorem xe_191_28 (a1 a2 : Option MV) (x : Int) (st : List MV) (μ : MM) (G : MG) : ev 191 28 [some (vR x), a1, a2] st μ G = ev 191 29 [some (vR x), a1, a2] (vR x :: st) μ G := ev_stp pg_191_28 rfl
theorem pg_191_29 : mm_prog 191 29 = some (0, .aload_n 0, 30, []) := by decide +kernel
theorem xe_191_29 (a1 a2 : Option MV) (x : Int) (st : List MV) (μ : MM) (G : MG) : ev 191 29 [some (vR x), a1, a2] st μ G = ev 191 30 [some (vR x), a1, a2] (vR x :: st) μ G := ev_stp pg_191_29 rfl
theorem pg_191_30 : mm_prog 191 30 = some (0, .iload_n 1, 31, []) := by decide +kernel
theorem xe_191_30 (a0 a2 : Option MV) (x : Int) (st : List MV) (μ : MM) (G : MG) : ev 191 30 [a0, some (vI x), a2] st μ G = ev 191 31 [a0, some (vI x), a2] (vI x :: st) μ G := ev_stp pg_191_30 rfl
theorem pg_191_31 : mm_prog 191 31 = some (0, .iconst 0, 32, []) := by decide +kernel
theorem xe_191_31 (a0 a1 a2 : Option MV) (st : List MV) (μ : MM) (G : MG) : ev 191 31 [a0, a1, a2] st μ G = ev 191 32 [a0, a1, a2] (vI (0) :: st) μ G := ev_stp pg_191_31 rfl
theorem pg_191_32 : mm_prog 191 32 = some (1, .invokevirtual 244, 35, [1, 168, 2, 11]) := by decide +kernel
theorem xe_191_32 (a0 a1 a2 : Option MV) (x0 x1 z r0 : Int) (μ : MM) (G : MG) : ev 191 32 [a0, a1, a2] (vI x1 :: vI x0 :: vR z :: [vR r0]) μ G = if gk G z = 11 ∧ 0 < z then (ev 168 0 [some (vR z), some (vI x0), some (vI x1)] [] μ G).bind (fun q => ev 191 35 [a0, a1, a2] (q.1.toList ++ [vR r0]) q.2.1 q.2.2) else none := ev_calV (as := [vR z, vI x0, vI x1]) (r := [vR r0]) mx_168 pg_191_32 rfl rfl (Nat.le_of_ble_eq_true rfl) (Nat.le_of_ble_eq_true rfl)
theorem pg_191_35 : mm_prog 191 35 = some (1, .invokevirtual 282, 38, [1, 190, 1, 11]) := by decide +kernel
theorem xe_191_35 (a0 a1 a2 : Option MV) (x0 z : Int) (μ : MM) (G : MG) : ev 191 35 [a0, a1, a2] (vI x0 :: vR z :: []) μ G = if gk G z = 11 ∧ 0 < z then (ev 190 0 [some (vR z), some (vI x0), none] [] μ G).bind (fun q => ev 191 38 [a0, a1, a2] (q.1.toList ++ []) q.2.1 q.2.2) else none := ev_calV (as := [vR z, vI x0]) (r := []) mx_190 pg_191_35 rfl rfl (Nat.le_of_ble_eq_true rfl) (Nat.le_of_ble_eq_true rfl)
theorem pg_191_38 : mm_prog 191 38 = some (0, .aload_n 0, 39, []) := by decide +kernel
theorem xe_191_38 (a1 a2 : Option MV) (x : Int) (st : List MV) (μ : MM) (G : MG) : ev 191 38 [some (vR x), a1, a2] st μ G = ev 191 39 [some (vR x), a1, a2] (vR x :: st) μ G := ev_stp pg_191_38 rfl
theorem pg_191_39 : mm_prog 191 39 = some (0, .bipush 120, 41, []) := by decide +kernel
theorem xe_191_39 (a0 a1 a2 : Option MV) (st : List MV) (μ : MM) (G : MG) : ev 191 39 [a0, a1, a2] st μ G = ev 191 41 [a0, a1, a2] (vI (120) :: st) μ G := ev_stp pg_191_39 rfl
theorem pg_191_41 : mm_prog 191 41 = some (1, .invokevirtual 279, 44, [1, 189, 1, 11]) := by decide +kernel
theorem xe_191_41 (a0 a1 a2 : Option MV) (x0 z : Int) (μ : MM) (G : MG) : ev 191 41 [a0, a1, a2] (vI x0 :: vR z :: []) μ G = if gk G z = 11 ∧ 0 < z then (ev 189 0 [some (vR z), some (vI x0)] [] μ G).bind (fun q => ev 191 44 [a0, a1, a2] (q.1.toList ++ []) q.2.1 q.2.2) else none := ev_calV (as := [vR z, vI x0]) (r := []) mx_189 pg_191_41 rfl rfl (Nat.le_of_ble_eq_true rfl) (Nat.le_of_ble_eq_true rfl)
theorem pg_191_44 : mm_prog 191 44 = some (0, .aload_n 0, 45, []) := by decide +kernel
theorem xe_191_44 (a1 a2 : Option MV) (x : Int) (st : List MV) (μ : MM) (G : MG) : ev 191 44 [some (vR x), a1, a2] st μ G = ev 191 45 [some (vR x), a1, a2] (vR x :: st) μ G := ev_stp pg_191_44 rfl
theorem pg_191_45 : mm_prog 191 45 = some (0, .aload_n 0, 46, []) := by decide +kernel
theorem xe_191_45 (a1 a2 : Option MV) (x : Int) (st : List MV) (μ : MM) (G : MG) : ev 191 45 [some (vR x), a1, a2] st μ G = ev 191 46 [some (vR x), a1, a2] (vR x :: st) μ G := ev_stp pg_191_45 rfl
theorem pg_191_46 : mm_prog 191 46 = some (0, .iload_n 1, 47, []) := by decide +kernel
theorem xe_191_46 (a0 a2 : Option MV) (x : Int) (st : List MV) (μ : MM) (G : MG) : ev 191 46 [a0, some (vI x), a2] st μ G = ev 191 47 [a0, some (vI x), a2] (vI x :: st) μ G := ev_stp pg_191_46 rfl
theorem pg_191_47 : mm_prog 191 47 = some (0, .iconst 1, 48, []) := by decide +kernel
theorem xe_191_47 (a0 a1 a2 : Option MV) (st : List MV) (μ : MM) (G : MG) : ev 191 47 [a0, a1, a2] st μ G = ev 191 48 [a0, a1, a2] (vI (1) :: st) μ G := ev_stp pg_191_47 rfl
theorem pg_191_48 : mm_prog 191 48 = some (1, .invokevirtual 244, 51, [1, 168, 2, 11]) := by decide +kernel
theorem xe_191_48 (a0 a1 a2 : Option MV) (x0 x1 z r0 : Int) (μ : MM) (G : MG) : ev 191 48 [a0, a1, a2] (vI x1 :: vI x0 :: vR z :: [vR r0]) μ G = if gk G z = 11 ∧ 0 < z then (ev 168 0 [some (vR z), some (vI x0), some (vI x1)] [] μ G).bind (fun q => ev 191 51 [a0, a1, a2] (q.1.toList ++ [vR r0]) q.2.1 q.2.2) else none := ev_calV (as := [vR z, vI x0, vI x1]) (r := [vR r0]) mx_168 pg_191_48 rfl rfl (Nat.le_of_ble_eq_true rfl) (Nat.le_of_ble_eq_true rfl)
theorem pg_191_51 : mm_prog 191 51 = some (1, .invokevirtual 282, 54, [1, 190, 1, 11]) := by decide +kernel
theorem xe_191_51 (a0 a1 a2 : Option MV) (x0 z : Int) (μ : MM) (G : MG) : ev 191 51 [a0, a1, a2] (vI x0 :: vR z :: []) μ G = if gk G z = 11 ∧ 0 < z then (ev 190 0 [some (vR z), some (vI x0), none] [] μ G).bind (fun q => ev 191 54 [a0, a1, a2] (q.1.toList ++ []) q.2.1 q.2.2) else none := ev_calV (as := [vR z, vI x0]) (r := []) mx_190 pg_191_51 rfl rfl (Nat.le_of_ble_eq_true rfl) (Nat.le_of_ble_eq_true rfl)
theorem pg_191_54 : mm_prog 191 54 = some (0, .aload_n 0, 55, []) := by decide +kernel
theorem xe_191_54 (a1 a2 : Option MV) (x : Int) (st : List MV) (μ : MM) (G : MG) : ev 191 54 [some (vR x), a1, a2] st μ G = ev 191 55 [some (vR x), a1, a2] (vR x :: st) μ G := ev_stp pg_191_54 rfl
theorem pg_191_55 : mm_prog 191 55 = some (0, .bipush 64, 57, []) := by decide +kernel
theorem xe_191_55 (a0 a1 a2 : Option MV) (st : List MV) (μ : MM) (G : MG) : ev 191 55 [a0, a1, a2] st μ G = ev 191 57 [a0, a1, a2] (vI (64) :: st) μ G := ev_stp pg_191_55 rfl
theorem pg_191_57 : mm_prog 191 57 = some (1, .invokevirtual 279, 60, [1, 189, 1, 11]) := by decide +kernel
theorem xe_191_57 (a0 a1 a2 : Option MV) (x0 z : Int) (μ : MM) (G : MG) : ev 191 57 [a0, a1, a2] (vI x0 :: vR z :: []) μ G = if gk G z = 11 ∧ 0 < z then (ev 189 0 [some (vR z), some (vI x0)] [] μ G).bind (fun q => ev 191 60 [a0, a1, a2] (q.1.toList ++ []) q.2.1 q.2.2) else none := ev_calV (as := [vR z, vI x0]) (r := []) mx_189 pg_191_57 rfl rfl (Nat.le_of_ble_eq_true rfl) (Nat.le_of_ble_eq_true rfl)
theorem pg_191_60 : mm_prog 191 60 = some (0, .aload_n 0, 61, []) := by decide +kernel
theorem xe_191_60 (a1 a2 : Option MV) (x : Int) (st : List MV) (μ : MM) (G : MG) : ev 191 60 [some (vR x), a1, a2] st μ G = ev 191 61 [some (vR x), a1, a2] (vR x :: st) μ G := ev_stp pg_191_60 rfl
theorem pg_191_61 : mm_prog 191 61 = some (0, .aload_n 0, 62, []) := by decide +kernel
theorem xe_191_61 (a1 a2 : Option MV) (x : Int) (st : List MV) (μ : MM) (G : MG) : ev 191 61 [some (vR x), a1, a2] st μ G = ev 191 62 [some (vR x), a1, a2] (vR x :: st) μ G := ev_stp pg_191_61 rfl
theorem pg_191_62 : mm_prog 191 62 = some (0, .iload_n 1, 63, []) := by decide +kernel
theorem xe_191_62 (a0 a2 : Option MV) (x : Int) (st : List MV) (μ : MM) (G : MG) : ev 191 62 [a0, some (vI x), a2] st μ G = ev 191 63 [a0, some (vI x), a2] (vI x :: st) μ G := ev_stp pg_191_62 rfl
theorem pg_191_63 : mm_prog 191 63 = some (0, .iconst 2, 64, []) := by decide +kernel
theorem xe_191_63 (a0 a1 a2 : Option MV) (st : List MV) (μ : MM) (G : MG) : ev 191 63 [a0, a1, a2] st μ G = ev 191 64 [a0, a1, a2] (vI (2) :: st) μ G := ev_stp pg_191_63 rfl
theorem pg_191_64 : mm_prog 191 64 = some (1, .invokevirtual 244, 67, [1, 168, 2, 11]) := by decide +kernel
theorem xe_191_64 (a0 a1 a2 : Option MV) (x0 x1 z r0 : Int) (μ : MM) (G : MG) : ev 191 64 [a0, a1, a2] (vI x1 :: vI x0 :: vR z :: [vR r0]) μ G = if gk G z = 11 ∧ 0 < z then (ev 168 0 [some (vR z), some (vI x0), some (vI x1)] [] μ G).bind (fun q => ev 191 67 [a0, a1, a2] (q.1.toList ++ [vR r0]) q.2.1 q.2.2) else none := ev_calV (as := [vR z, vI x0, vI x1]) (r := [vR r0]) mx_168 pg_191_64 rfl rfl (Nat.le_of_ble_eq_true rfl) (Nat.le_of_ble_eq_true rfl)
theorem pg_191_67 : mm_prog 191 67 = some (1, .invokevirtual 282, 70, [1, 190, 1, 11]) := by decide +kernel
theorem xe_191_67 (a0 a1 a2 : Option MV) (x0 z : Int) (μ : MM) (G : MG) : ev 191 67 [a0, a1, a2] (vI x0 :: vR z :: []) μ G = if gk G z = 11 ∧ 0 < z then (ev 190 0 [some (vR z), some (vI x0), none] [] μ G).bind (fun q => ev 191 70 [a0, a1, a2] (q.1.toList ++ []) q.2.1 q.2.2) else none := ev_calV (as := [vR z, vI x0]) (r := []) mx_190 pg_191_67 rfl rfl (Nat.le_of_ble_eq_true rfl) (Nat.le_of_ble_eq_true rfl)
theorem pg_191_70 : mm_prog 191 70 = some (0, .aload_n 0, 71, []) := by decide +kernel
theorem xe_191_70 (a1 a2 : Option MV) (x : Int) (st : List MV) (μ : MM) (G : MG) : ev 191 70 [some (vR x), a1, a2] st μ G = ev 191 71 [some (vR x), a1, a2] (vR x :: st) μ G := ev_stp pg_191_70 rfl
theorem pg_191_71 : mm_prog 191 71 = some (0, .iload_n 1, 72, []) := by decide +kernel
theorem xe_191_71 (a0 a2 : Option MV) (x : Int) (st : List MV) (μ : MM) (G : MG) : ev 191 71 [a0, some (vI x), a2] st μ G = ev 191 72 [a0, some (vI x), a2] (vI x :: st) μ G := ev_stp pg_191_71 rfl
theorem pg_191_72 : mm_prog 191 72 = some (0, .bipush 7, 74, []) := by decide +kernel
theorem xe_191_72 (a0 a1 a2 : Option MV) (st : List MV) (μ : MM) (G : MG) : ev 191 72 [a0, a1, a2] st μ G = ev 191 74 [a0, a1, a2] (vI (7) :: st) μ G := ev_stp pg_191_72 rfl
theorem pg_191_74 : mm_prog 191 74 = some (1, .invokevirtual 244, 77, [1, 168, 2, 11]) := by decide +kernel
theorem xe_191_74 (a0 a1 a2 : Option MV) (x0 x1 z : Int) (μ : MM) (G : MG) : ev 191 74 [a0, a1, a2] (vI x1 :: vI x0 :: vR z :: []) μ G = if gk G z = 11 ∧ 0 < z then (ev 168 0 [some (vR z), some (vI x0), some (vI x1)] [] μ G).bind (fun q => ev 191 77 [a0, a1, a2] (q.1.toList ++ []) q.2.1 q.2.2) else none := ev_calV (as := [vR z, vI x0, vI x1]) (r := []) mx_168 pg_191_74 rfl rfl (Nat.le_of_ble_eq_true rfl) (Nat.le_of_ble_eq_true rfl)
theorem pg_191_77 : mm_prog 191 77 = some (0, .iconst 1, 78, []) := by decide +kernel
theorem xe_191_77 (a0 a1 a2 : Option MV) (st : List MV) (μ : MM) (G : MG) : ev 191 77 [a0, a1, a2] st μ G = ev 191 78 [a0, a1, a2] (vI (1) :: st) μ G := ev_stp pg_191_77 rfl
theorem pg_191_78 : mm_prog 191 78 = some (0, .if_icmp .ne 9, 81, []) := by decide +kernel
theorem xe_191_78 (a0 a1 a2 : Option MV) (x y : Int) (st : List MV) (μ : MM) (G : MG) : ev 191 78 [a0, a1, a2] (vI y :: vI x :: st) μ G = if ¬ x = y then ev 191 87 [a0, a1, a2] st μ G else ev 191 81 [a0, a1, a2] st μ G := ev_br (mm_cnd_ne x y) pg_191_78 rfl
theorem pg_191_81 : mm_prog 191 81 = some (0, .aload_n 0, 82, []) := by decide +kernel
theorem xe_191_81 (a1 a2 : Option MV) (x : Int) (st : List MV) (μ : MM) (G : MG) : ev 191 81 [some (vR x), a1, a2] st μ G = ev 191 82 [some (vR x), a1, a2] (vR x :: st) μ G := ev_stp pg_191_81 rfl
theorem pg_191_82 : mm_prog 191 82 = some (0, .bipush 33, 84, []) := by decide +kernel
theorem xe_191_82 (a0 a1 a2 : Option MV) (st : List MV) (μ : MM) (G : MG) : ev 191 82 [a0, a1, a2] st μ G = ev 191 84 [a0, a1, a2] (vI (33) :: st) μ G := ev_stp pg_191_82 rfl
theorem pg_191_84 : mm_prog 191 84 = some (1, .invokevirtual 279, 87, [1, 189, 1, 11]) := by decide +kernel
theorem xe_191_84 (a0 a1 a2 : Option MV) (x0 z : Int) (μ : MM) (G : MG) : ev 191 84 [a0, a1, a2] (vI x0 :: vR z :: []) μ G = if gk G z = 11 ∧ 0 < z then (ev 189 0 [some (vR z), some (vI x0)] [] μ G).bind (fun q => ev 191 87 [a0, a1, a2] (q.1.toList ++ []) q.2.1 q.2.2) else none := ev_calV (as := [vR z, vI x0]) (r := []) mx_189 pg_191_84 rfl rfl (Nat.le_of_ble_eq_true rfl) (Nat.le_of_ble_eq_true rfl)
theorem pg_191_87 : mm_prog 191 87 = some (0, .iload_n 2, 88, []) := by decide +kernel
theorem xe_191_87 (a0 a1 : Option MV) (x : Int) (st : List MV) (μ : MM) (G : MG) : ev 191 87 [a0, a1, some (vI x)] st μ G = ev 191 88 [a0, a1, some (vI x)] (vI x :: st) μ G := ev_stp pg_191_87 rfl
theorem pg_191_88 : mm_prog 191 88 = some (0, .aload_n 0, 89, []) := by decide +kernel
theorem xe_191_88 (a1 a2 : Option MV) (x : Int) (st : List MV) (μ : MM) (G : MG) : ev 191 88 [some (vR x), a1, a2] st μ G = ev 191 89 [some (vR x), a1, a2] (vR x :: st) μ G := ev_stp pg_191_88 rfl
theorem pg_191_89 : mm_prog 191 89 = some (0, .getfield 276, 92, [11, 28, 0]) := by decide +kernel
theorem xe_191_89 (a0 a1 a2 : Option MV) (x : Int) (st : List MV) (μ : MM) (G : MG) : ev 191 89 [a0, a1, a2] (vR x :: st) μ G = if gk G x = 11 then ev 191 92 [a0, a1, a2] (vI (μ x 28) :: st) μ G else none := ev_if pg_191_89 rfl
theorem pg_191_92 : mm_prog 191 92 = some (0, .if_icmp .ge 12, 95, []) := by decide +kernel
theorem xe_191_92 (a0 a1 a2 : Option MV) (x y : Int) (st : List MV) (μ : MM) (G : MG) : ev 191 92 [a0, a1, a2] (vI y :: vI x :: st) μ G = if y ≤ x then ev 191 104 [a0, a1, a2] st μ G else ev 191 95 [a0, a1, a2] st μ G := ev_br (mm_cnd_ge x y) pg_191_92 rfl
theorem pg_191_95 : mm_prog 191 95 = some (0, .aload_n 0, 96, []) := by decide +kernel
theorem xe_191_95 (a1 a2 : Option MV) (x : Int) (st : List MV) (μ : MM) (G : MG) : ev 191 95 [some (vR x), a1, a2] st μ G = ev 191 96 [some (vR x), a1, a2] (vR x :: st) μ G := ev_stp pg_191_95 rfl
theorem pg_191_96 : mm_prog 191 96 = some (0, .getfield 60, 99, [11, 27, 2]) := by decide +kernel
theorem xe_191_96 (a0 a1 a2 : Option MV) (x : Int) (st : List MV) (μ : MM) (G : MG) : ev 191 96 [a0, a1, a2] (vR x :: st) μ G = if gk G x = 11 then ev 191 99 [a0, a1, a2] (vR (μ x 27) :: st) μ G else none := ev_if pg_191_96 rfl
theorem pg_191_99 : mm_prog 191 99 = some (0, .iload_n 2, 100, []) := by decide +kernel
theorem xe_191_99 (a0 a1 : Option MV) (x : Int) (st : List MV) (μ : MM) (G : MG) : ev 191 99 [a0, a1, some (vI x)] st μ G = ev 191 100 [a0, a1, some (vI x)] (vI x :: st) μ G := ev_stp pg_191_99 rfl
theorem pg_191_100 : mm_prog 191 100 = some (0, .iaload, 101, []) := by decide +kernel
theorem xe_191_100 (a0 a1 a2 : Option MV) (x y : Int) (st : List MV) (μ : MM) (G : MG) : ev 191 100 [a0, a1, a2] (vI x :: vR y :: st) μ G = if gk G y = 100 ∧ 0 ≤ x ∧ x < gl G y then ev 191 101 [a0, a1, a2] (vI (μ y x) :: st) μ G else none := ev_if pg_191_100 rfl
theorem pg_191_101 : mm_prog 191 101 = some (0, .goto 4, 104, []) := by decide +kernel
theorem xe_191_101 (a0 a1 a2 : Option MV) (st : List MV) (μ : MM) (G : MG) : ev 191 101 [a0, a1, a2] st μ G = ev 191 105 [a0, a1, a2] st μ G := ev_stp pg_191_101 rfl
theorem pg_191_104 : mm_prog 191 104 = some (0, .iconst (-1), 105, []) := by decide +kernel
theorem xe_191_104 (a0 a1 a2 : Option MV) (st : List MV) (μ : MM) (G : MG) : ev 191 104 [a0, a1, a2] st μ G = ev 191 105 [a0, a1, a2] (vI (-1) :: st) μ G := ev_stp pg_191_104 rfl
theorem pg_191_105 : mm_prog 191 105 = some (2, .ireturn, 106, [0]) := by decide +kernel
theorem xe_191_105 (a0 a1 a2 : Option MV) (x : Int) (μ : MM) (G : MG) : ev 191 105 [a0, a1, a2] [vI x] μ G = some (some (vI x), μ, G) := ev_ret pg_191_105 rfl
-- X11_find
theorem pg_192_0 : mm_prog 192 0 = some (0, .aload_n 0, 1, []) := by decide +kernel
theorem xe_192_0 (a1 a2 a3 a4 : Option MV) (x : Int) (st : List MV) (μ : MM) (G : MG) : ev 192 0 [some (vR x), a1, a2, a3, a4] st μ G = ev 192 1 [some (vR x), a1, a2, a3, a4] (vR x :: st) μ G := ev_stp pg_192_0 rfl
theorem pg_192_1 : mm_prog 192 1 = some (0, .iconst 0, 2, []) := by decide +kernel
theorem xe_192_1 (a0 a1 a2 a3 a4 : Option MV) (st : List MV) (μ : MM) (G : MG) : ev 192 1 [a0, a1, a2, a3, a4] st μ G = ev 192 2 [a0, a1, a2, a3, a4] (vI (0) :: st) μ G := ev_stp pg_192_1 rfl
theorem pg_192_2 : mm_prog 192 2 = some (0, .putfield 1, 5, [11, 0, 0]) := by decide +kernel
theorem xe_192_2 (a0 a1 a2 a3 a4 : Option MV) (x y : Int) (st : List MV) (μ : MM) (G : MG) : ev 192 2 [a0, a1, a2, a3, a4] (vI x :: vR y :: st) μ G = if gk G y = 11 then ev 192 5 [a0, a1, a2, a3, a4] st (mset μ y 0 x) G else none := ev_put0 pg_192_2
theorem pg_192_5 : mm_prog 192 5 = some (0, .iconst 0, 6, []) := by decide +kernel
theorem xe_192_5 (a0 a1 a2 a3 a4 : Option MV) (st : List MV) (μ : MM) (G : MG) : ev 192 5 [a0, a1, a2, a3, a4] st μ G = ev 192 6 [a0, a1, a2, a3, a4] (vI (0) :: st) μ G := ev_stp pg_192_5 rfl
theorem pg_192_6 : mm_prog 192 6 = some (0, .istore 4, 8, []) := by decide +kernel
theorem xe_192_6 (a0 a1 a2 a3 a4 : Option MV) (x : Int) (st : List MV) (μ : MM) (G : MG) (h : mm_nL a3 = true) : ev 192 6 [a0, a1, a2, a3, a4] (vI x :: st) μ G = ev 192 8 [a0, a1, a2, a3, some (vI x)] st μ G := ev_st pg_192_6 rfl (mm_nl_of h) (Nat.le_of_ble_eq_true rfl)
theorem pg_192_8 : mm_prog 192 8 = some (0, .iload 4, 10, []) := by decide +kernel
theorem xe_192_8 (a0 a1 a2 a3 : Option MV) (x : Int) (st : List MV) (μ : MM) (G : MG) : ev 192 8 [a0, a1, a2, a3, some (vI x)] st μ G = ev 192 10 [a0, a1, a2, a3, some (vI x)] (vI x :: st) μ G := ev_stp pg_192_8 rfl
theorem pg_192_10 : mm_prog 192 10 = some (0, .aload_n 0, 11, []) := by decide +kernel
theorem xe_192_10 (a1 a2 a3 a4 : Option MV) (x : Int) (st : List MV) (μ : MM) (G : MG) : ev 192 10 [some (vR x), a1, a2, a3, a4] st μ G = ev 192 11 [some (vR x), a1, a2, a3, a4] (vR x :: st) μ G := ev_stp pg_192_10 rfl
theorem pg_192_11 : mm_prog 192 11 = some (0, .getfield 134, 14, [11, 23, 0]) := by decide +kernel
theorem xe_192_11 (a0 a1 a2 a3 a4 : Option MV) (x : Int) (st : List MV) (μ : MM) (G : MG) : ev 192 11 [a0, a1, a2, a3, a4] (vR x :: st) μ G = if gk G x = 11 then ev 192 14 [a0, a1, a2, a3, a4] (vI (μ x 23) :: st) μ G else none := ev_if pg_192_11 rfl
theorem pg_192_14 : mm_prog 192 14 = some (0, .if_icmp .ge 45, 17, []) := by decide +kernel
theorem xe_192_14 (a0 a1 a2 a3 a4 : Option MV) (x y : Int) (st : List MV) (μ : MM) (G : MG) : ev 192 14 [a0, a1, a2, a3, a4] (vI y :: vI x :: st) μ G = if y ≤ x then ev 192 59 [a0, a1, a2, a3, a4] st μ G else ev 192 17 [a0, a1, a2, a3, a4] st μ G := ev_br (mm_cnd_ge x y) pg_192_14 rfl
theorem pg_192_17 : mm_prog 192 17 = some (0, .aload_n 0, 18, []) := by decide +kernel
theorem xe_192_17 (a1 a2 a3 a4 : Option MV) (x : Int) (st : List MV) (μ : MM) (G : MG) : ev 192 17 [some (vR x), a1, a2, a3, a4] st μ G = ev 192 18 [some (vR x), a1, a2, a3, a4] (vR x :: st) μ G := ev_stp pg_192_17 rfl
theorem pg_192_18 : mm_prog 192 18 = some (0, .iload 4, 20, []) := by decide +kernel
theorem xe_192_18 (a0 a1 a2 a3 : Option MV) (x : Int) (st : List MV) (μ : MM) (G : MG) : ev 192 18 [a0, a1, a2, a3, some (vI x)] st μ G = ev 192 20 [a0, a1, a2, a3, some (vI x)] (vI x :: st) μ G := ev_stp pg_192_18 rfl
theorem pg_192_20 : mm_prog 192 20 = some (0, .iconst 0, 21, []) := by decide +kernel
theorem xe_192_20 (a0 a1 a2 a3 a4 : Option MV) (st : List MV) (μ : MM) (G : MG) : ev 192 20 [a0, a1, a2, a3, a4] st μ G = ev 192 21 [a0, a1, a2, a3, a4] (vI (0) :: st) μ G := ev_stp pg_192_20 rfl
theorem pg_192_21 : mm_prog 192 21 = some (1, .invokevirtual 244, 24, [1, 168, 2, 11]) := by decide +kernel
theorem xe_192_21 (a0 a1 a2 a3 a4 : Option MV) (x0 x1 z : Int) (μ : MM) (G : MG) : ev 192 21 [a0, a1, a2, a3, a4] (vI x1 :: vI x0 :: vR z :: []) μ G = if gk G z = 11 ∧ 0 < z then (ev 168 0 [some (vR z), some (vI x0), some (vI x1)] [] μ G).bind (fun q => ev 192 24 [a0, a1, a2, a3, a4] (q.1.toList ++ []) q.2.1 q.2.2) else none := ev_calV (as := [vR z, vI x0, vI x1]) (r := []) mx_168 pg_192_21 rfl rfl (Nat.le_of_ble_eq_true rfl) (Nat.le_of_ble_eq_true rfl)
theorem pg_192_24 : mm_prog 192 24 = some (0, .iload_n 1, 25, []) := by decide +kernel
theorem xe_192_24 (a0 a2 a3 a4 : Option MV) (x : Int) (st : List MV) (μ : MM) (G : MG) : ev 192 24 [a0, some (vI x), a2, a3, a4] st μ G = ev 192 25 [a0, some (vI x), a2, a3, a4] (vI x :: st) μ G := ev_stp pg_192_24 rfl
theorem pg_192_25 : mm_prog 192 25 = some (0, .if_icmp .ne 28, 28, []) := by decide +kernel
theorem xe_192_25 (a0 a1 a2 a3 a4 : Option MV) (x y : Int) (st : List MV) (μ : MM) (G : MG) : ev 192 25 [a0, a1, a2, a3, a4] (vI y :: vI x :: st) μ G = if ¬ x = y then ev 192 53 [a0, a1, a2, a3, a4] st μ G else ev 192 28 [a0, a1, a2, a3, a4] st μ G := ev_br (mm_cnd_ne x y) pg_192_25 rfl
theorem pg_192_28 : mm_prog 192 28 = some (0, .aload_n 0, 29, []) := by decide +kernel
theorem xe_192_28 (a1 a2 a3 a4 : Option MV) (x : Int) (st : List MV) (μ : MM) (G : MG) : ev 192 28 [some (vR x), a1, a2, a3, a4] st μ G = ev 192 29 [some (vR x), a1, a2, a3, a4] (vR x :: st) μ G := ev_stp pg_192_28 rfl
theorem pg_192_29 : mm_prog 192 29 = some (0, .iload 4, 31, []) := by decide +kernel
theorem xe_192_29 (a0 a1 a2 a3 : Option MV) (x : Int) (st : List MV) (μ : MM) (G : MG) : ev 192 29 [a0, a1, a2, a3, some (vI x)] st μ G = ev 192 31 [a0, a1, a2, a3, some (vI x)] (vI x :: st) μ G := ev_stp pg_192_29 rfl
theorem pg_192_31 : mm_prog 192 31 = some (0, .iconst 1, 32, []) := by decide +kernel
theorem xe_192_31 (a0 a1 a2 a3 a4 : Option MV) (st : List MV) (μ : MM) (G : MG) : ev 192 31 [a0, a1, a2, a3, a4] st μ G = ev 192 32 [a0, a1, a2, a3, a4] (vI (1) :: st) μ G := ev_stp pg_192_31 rfl
theorem pg_192_32 : mm_prog 192 32 = some (1, .invokevirtual 244, 35, [1, 168, 2, 11]) := by decide +kernel
theorem xe_192_32 (a0 a1 a2 a3 a4 : Option MV) (x0 x1 z : Int) (μ : MM) (G : MG) : ev 192 32 [a0, a1, a2, a3, a4] (vI x1 :: vI x0 :: vR z :: []) μ G = if gk G z = 11 ∧ 0 < z then (ev 168 0 [some (vR z), some (vI x0), some (vI x1)] [] μ G).bind (fun q => ev 192 35 [a0, a1, a2, a3, a4] (q.1.toList ++ []) q.2.1 q.2.2) else none := ev_calV (as := [vR z, vI x0, vI x1]) (r := []) mx_168 pg_192_32 rfl rfl (Nat.le_of_ble_eq_true rfl) (Nat.le_of_ble_eq_true rfl)
theorem pg_192_35 : mm_prog 192 35 = some (0, .iload_n 2, 36, []) := by decide +kernel
theorem xe_192_35 (a0 a1 a3 a4 : Option MV) (x : Int) (st : List MV) (μ : MM) (G : MG) : ev 192 35 [a0, a1, some (vI x), a3, a4] st μ G = ev 192 36 [a0, a1, some (vI x), a3, a4] (vI x :: st) μ G := ev_stp pg_192_35 rfl
theorem pg_192_36 : mm_prog 192 36 = some (0, .if_icmp .ne 17, 39, []) := by decide +kernel
theorem xe_192_36 (a0 a1 a2 a3 a4 : Option MV) (x y : Int) (st : List MV) (μ : MM) (G : MG) : ev 192 36 [a0, a1, a2, a3, a4] (vI y :: vI x :: st) μ G = if ¬ x = y then ev 192 53 [a0, a1, a2, a3, a4] st μ G else ev 192 39 [a0, a1, a2, a3, a4] st μ G := ev_br (mm_cnd_ne x y) pg_192_36 rfl
theorem pg_192_39 : mm_prog 192 39 = some (0, .aload_n 0, 40, []) := by decide +kernel
theorem xe_192_39 (a1 a2 a3 a4 : Option MV) (x : Int) (st : List MV) (μ : MM) (G : MG) : ev 192 39 [some (vR x), a1, a2, a3, a4] st μ G = ev 192 40 [some (vR x), a1, a2, a3, a4] (vR x :: st) μ G := ev_stp pg_192_39 rfl
theorem pg_192_40 : mm_prog 192 40 = some (0, .iload 4, 42, []) := by decide +kernel
theorem xe_192_40 (a0 a1 a2 a3 : Option MV) (x : Int) (st : List MV) (μ : MM) (G : MG) : ev 192 40 [a0, a1, a2, a3, some (vI x)] st μ G = ev 192 42 [a0, a1, a2, a3, some (vI x)] (vI x :: st) μ G := ev_stp pg_192_40 rfl
theorem pg_192_42 : mm_prog 192 42 = some (0, .iconst 2, 43, []) := by decide +kernel
theorem xe_192_42 (a0 a1 a2 a3 a4 : Option MV) (st : List MV) (μ : MM) (G : MG) : ev 192 42 [a0, a1, a2, a3, a4] st μ G = ev 192 43 [a0, a1, a2, a3, a4] (vI (2) :: st) μ G := ev_stp pg_192_42 rfl
theorem pg_192_43 : mm_prog 192 43 = some (1, .invokevirtual 244, 46, [1, 168, 2, 11]) := by decide +kernel
theorem xe_192_43 (a0 a1 a2 a3 a4 : Option MV) (x0 x1 z : Int) (μ : MM) (G : MG) : ev 192 43 [a0, a1, a2, a3, a4] (vI x1 :: vI x0 :: vR z :: []) μ G = if gk G z = 11 ∧ 0 < z then (ev 168 0 [some (vR z), some (vI x0), some (vI x1)] [] μ G).bind (fun q => ev 192 46 [a0, a1, a2, a3, a4] (q.1.toList ++ []) q.2.1 q.2.2) else none := ev_calV (as := [vR z, vI x0, vI x1]) (r := []) mx_168 pg_192_43 rfl rfl (Nat.le_of_ble_eq_true rfl) (Nat.le_of_ble_eq_true rfl)
theorem pg_192_46 : mm_prog 192 46 = some (0, .iload_n 3, 47, []) := by decide +kernel
theorem xe_192_46 (a0 a1 a2 a4 : Option MV) (x : Int) (st : List MV) (μ : MM) (G : MG) : ev 192 46 [a0, a1, a2, some (vI x), a4] st μ G = ev 192 47 [a0, a1, a2, some (vI x), a4] (vI x :: st) μ G := ev_stp pg_192_46 rfl
theorem pg_192_47 : mm_prog 192 47 = some (0, .if_icmp .ne 6, 50, []) := by decide +kernel
theorem xe_192_47 (a0 a1 a2 a3 a4 : Option MV) (x y : Int) (st : List MV) (μ : MM) (G : MG) : ev 192 47 [a0, a1, a2, a3, a4] (vI y :: vI x :: st) μ G = if ¬ x = y then ev 192 53 [a0, a1, a2, a3, a4] st μ G else ev 192 50 [a0, a1, a2, a3, a4] st μ G := ev_br (mm_cnd_ne x y) pg_192_47 rfl
theorem pg_192_50 : mm_prog 192 50 = some (0, .iload 4, 52, []) := by decide +kernel
theorem xe_192_50 (a0 a1 a2 a3 : Option MV) (x : Int) (st : List MV) (μ : MM) (G : MG) : ev 192 50 [a0, a1, a2, a3, some (vI x)] st μ G = ev 192 52 [a0, a1, a2, a3, some (vI x)] (vI x :: st) μ G := ev_stp pg_192_50 rfl
theorem pg_192_52 : mm_prog 192 52 = some (2, .ireturn, 53, [0]) := by decide +kernel
theorem xe_192_52 (a0 a1 a2 a3 a4 : Option MV) (x : Int) (μ : MM) (G : MG) : ev 192 52 [a0, a1, a2, a3, a4] [vI x] μ G = some (some (vI x), μ, G) := ev_ret pg_192_52 rfl
theorem pg_192_53 : mm_prog 192 53 = some (0, .iinc 4 1, 56, []) := by decide +kernel
theorem xe_192_53 (a0 a1 a2 a3 : Option MV) (x : Int) (st : List MV) (μ : MM) (G : MG) (h : mm_nL a3 = true) : ev 192 53 [a0, a1, a2, a3, some (vI x)] st μ G = ev 192 56 [a0, a1, a2, a3, some (vI (w32 (x + (1))))] st μ G := ev_st pg_192_53 rfl (mm_nl_of h) (Nat.le_of_ble_eq_true rfl)
theorem pg_192_56 : mm_prog 192 56 = some (0, .goto (-48), 59, []) := by decide +kernel
theorem xe_192_56 (a0 a1 a2 a3 a4 : Option MV) (st : List MV) (μ : MM) (G : MG) : ev 192 56 [a0, a1, a2, a3, a4] st μ G = ev 192 8 [a0, a1, a2, a3, a4] st μ G := ev_stp pg_192_56 rfl
theorem pg_192_59 : mm_prog 192 59 = some (0, .iconst (-1), 60, []) := by decide +kernel
theorem xe_192_59 (a0 a1 a2 a3 a4 : Option MV) (st : List MV) (μ : MM) (G : MG) : ev 192 59 [a0, a1, a2, a3, a4] st μ G = ev 192 60 [a0, a1, a2, a3, a4] (vI (-1) :: st) μ G := ev_stp pg_192_59 rfl
theorem pg_192_60 : mm_prog 192 60 = some (2, .ireturn, 61, [0]) := by decide +kernel
theorem xe_192_60 (a0 a1 a2 a3 a4 : Option MV) (x : Int) (μ : MM) (G : MG) : ev 192 60 [a0, a1, a2, a3, a4] [vI x] μ G = some (some (vI x), μ, G) := ev_ret pg_192_60 rfl
-- X11_syncOf
theorem pg_193_0 : mm_prog 193 0 = some (0, .iload_n 0, 1, []) := by decide +kernel
theorem xe_193_0 (a1 : Option MV) (x : Int) (st : List MV) (μ : MM) (G : MG) : ev 193 0 [some (vI x), a1] st μ G = ev 193 1 [some (vI x), a1] (vI x :: st) μ G := ev_stp pg_193_0 rfl
theorem pg_193_1 : mm_prog 193 1 = some (0, .iload_n 1, 2, []) := by decide +kernel
theorem xe_193_1 (a0 : Option MV) (x : Int) (st : List MV) (μ : MM) (G : MG) : ev 193 1 [a0, some (vI x)] st μ G = ev 193 2 [a0, some (vI x)] (vI x :: st) μ G := ev_stp pg_193_1 rfl
theorem pg_193_2 : mm_prog 193 2 = some (0, .iconst 4, 3, []) := by decide +kernel
theorem xe_193_2 (a0 a1 : Option MV) (st : List MV) (μ : MM) (G : MG) : ev 193 2 [a0, a1] st μ G = ev 193 3 [a0, a1] (vI (4) :: st) μ G := ev_stp pg_193_2 rfl
theorem pg_193_3 : mm_prog 193 3 = some (0, .imul, 4, []) := by decide +kernel
theorem xe_193_3 (a0 a1 : Option MV) (x y : Int) (st : List MV) (μ : MM) (G : MG) : ev 193 3 [a0, a1] (vI y :: vI x :: st) μ G = ev 193 4 [a0, a1] (vI (w32 (x * y)) :: st) μ G := ev_stp pg_193_3 rfl
theorem pg_193_4 : mm_prog 193 4 = some (0, .bipush 24, 6, []) := by decide +kernel
theorem xe_193_4 (a0 a1 : Option MV) (st : List MV) (μ : MM) (G : MG) : ev 193 4 [a0, a1] st μ G = ev 193 6 [a0, a1] (vI (24) :: st) μ G := ev_stp pg_193_4 rfl
theorem pg_193_6 : mm_prog 193 6 = some (0, .idiv, 7, []) := by decide +kernel
theorem xe_193_6 (a0 a1 : Option MV) (x y : Int) (st : List MV) (μ : MM) (G : MG) : ev 193 6 [a0, a1] (vI y :: vI x :: st) μ G = if y = 0 then none else ev 193 7 [a0, a1] (vI (mm_div x y) :: st) μ G := ev_no pg_193_6 rfl
theorem pg_193_7 : mm_prog 193 7 = some (0, .bipush 8, 9, []) := by decide +kernel
theorem xe_193_7 (a0 a1 : Option MV) (st : List MV) (μ : MM) (G : MG) : ev 193 7 [a0, a1] st μ G = ev 193 9 [a0, a1] (vI (8) :: st) μ G := ev_stp pg_193_7 rfl
theorem pg_193_9 : mm_prog 193 9 = some (0, .imul, 10, []) := by decide +kernel
theorem xe_193_9 (a0 a1 : Option MV) (x y : Int) (st : List MV) (μ : MM) (G : MG) : ev 193 9 [a0, a1] (vI y :: vI x :: st) μ G = ev 193 10 [a0, a1] (vI (w32 (x * y)) :: st) μ G := ev_stp pg_193_9 rfl
theorem pg_193_10 : mm_prog 193 10 = some (0, .if_icmp .ne 5, 13, []) := by decide +kernel
theorem xe_193_10 (a0 a1 : Option MV) (x y : Int) (st : List MV) (μ : MM) (G : MG) : ev 193 10 [a0, a1] (vI y :: vI x :: st) μ G = if ¬ x = y then ev 193 15 [a0, a1] st μ G else ev 193 13 [a0, a1] st μ G := ev_br (mm_cnd_ne x y) pg_193_10 rfl
theorem pg_193_13 : mm_prog 193 13 = some (0, .iconst 4, 14, []) := by decide +kernel
theorem xe_193_13 (a0 a1 : Option MV) (st : List MV) (μ : MM) (G : MG) : ev 193 13 [a0, a1] st μ G = ev 193 14 [a0, a1] (vI (4) :: st) μ G := ev_stp pg_193_13 rfl
theorem pg_193_14 : mm_prog 193 14 = some (2, .ireturn, 15, [0]) := by decide +kernel
theorem xe_193_14 (a0 a1 : Option MV) (x : Int) (μ : MM) (G : MG) : ev 193 14 [a0, a1] [vI x] μ G = some (some (vI x), μ, G) := ev_ret pg_193_14 rfl
theorem pg_193_15 : mm_prog 193 15 = some (0, .iload_n 0, 16, []) := by decide +kernel
theorem xe_193_15 (a1 : Option MV) (x : Int) (st : List MV) (μ : MM) (G : MG) : ev 193 15 [some (vI x), a1] st μ G = ev 193 16 [some (vI x), a1] (vI x :: st) μ G := ev_stp pg_193_15 rfl
theorem pg_193_16 : mm_prog 193 16 = some (0, .iload_n 1, 17, []) := by decide +kernel
theorem xe_193_16 (a0 : Option MV) (x : Int) (st : List MV) (μ : MM) (G : MG) : ev 193 16 [a0, some (vI x)] st μ G = ev 193 17 [a0, some (vI x)] (vI x :: st) μ G := ev_stp pg_193_16 rfl
theorem pg_193_17 : mm_prog 193 17 = some (0, .bipush 16, 19, []) := by decide +kernel
theorem xe_193_17 (a0 a1 : Option MV) (st : List MV) (μ : MM) (G : MG) : ev 193 17 [a0, a1] st μ G = ev 193 19 [a0, a1] (vI (16) :: st) μ G := ev_stp pg_193_17 rfl
theorem pg_193_19 : mm_prog 193 19 = some (0, .imul, 20, []) := by decide +kernel
theorem xe_193_19 (a0 a1 : Option MV) (x y : Int) (st : List MV) (μ : MM) (G : MG) : ev 193 19 [a0, a1] (vI y :: vI x :: st) μ G = ev 193 20 [a0, a1] (vI (w32 (x * y)) :: st) μ G := ev_stp pg_193_19 rfl
theorem pg_193_20 : mm_prog 193 20 = some (0, .bipush 72, 22, []) := by decide +kernel
theorem xe_193_20 (a0 a1 : Option MV) (st : List MV) (μ : MM) (G : MG) : ev 193 20 [a0, a1] st μ G = ev 193 22 [a0, a1] (vI (72) :: st) μ G := ev_stp pg_193_20 rfl
theorem pg_193_22 : mm_prog 193 22 = some (0, .idiv, 23, []) := by decide +kernel
theorem xe_193_22 (a0 a1 : Option MV) (x y : Int) (st : List MV) (μ : MM) (G : MG) : ev 193 22 [a0, a1] (vI y :: vI x :: st) μ G = if y = 0 then none else ev 193 23 [a0, a1] (vI (mm_div x y) :: st) μ G := ev_no pg_193_22 rfl
theorem pg_193_23 : mm_prog 193 23 = some (0, .bipush 8, 25, []) := by decide +kernel
theorem xe_193_23 (a0 a1 : Option MV) (st : List MV) (μ : MM) (G : MG) : ev 193 23 [a0, a1] st μ G = ev 193 25 [a0, a1] (vI (8) :: st) μ G := ev_stp pg_193_23 rfl
theorem pg_193_25 : mm_prog 193 25 = some (0, .imul, 26, []) := by decide +kernel
theorem xe_193_25 (a0 a1 : Option MV) (x y : Int) (st : List MV) (μ : MM) (G : MG) : ev 193 25 [a0, a1] (vI y :: vI x :: st) μ G = ev 193 26 [a0, a1] (vI (w32 (x * y)) :: st) μ G := ev_stp pg_193_25 rfl
theorem pg_193_26 : mm_prog 193 26 = some (0, .if_icmp .ne 5, 29, []) := by decide +kernel
theorem xe_193_26 (a0 a1 : Option MV) (x y : Int) (st : List MV) (μ : MM) (G : MG) : ev 193 26 [a0, a1] (vI y :: vI x :: st) μ G = if ¬ x = y then ev 193 31 [a0, a1] st μ G else ev 193 29 [a0, a1] st μ G := ev_br (mm_cnd_ne x y) pg_193_26 rfl
theorem pg_193_29 : mm_prog 193 29 = some (0, .iconst 5, 30, []) := by decide +kernel
theorem xe_193_29 (a0 a1 : Option MV) (st : List MV) (μ : MM) (G : MG) : ev 193 29 [a0, a1] st μ G = ev 193 30 [a0, a1] (vI (5) :: st) μ G := ev_stp pg_193_29 rfl
theorem pg_193_30 : mm_prog 193 30 = some (2, .ireturn, 31, [0]) := by decide +kernel
theorem xe_193_30 (a0 a1 : Option MV) (x : Int) (μ : MM) (G : MG) : ev 193 30 [a0, a1] [vI x] μ G = some (some (vI x), μ, G) := ev_ret pg_193_30 rfl
theorem pg_193_31 : mm_prog 193 31 = some (0, .iload_n 0, 32, []) := by decide +kernel
theorem xe_193_31 (a1 : Option MV) (x : Int) (st : List MV) (μ : MM) (G : MG) : ev 193 31 [some (vI x), a1] st μ G = ev 193 32 [some (vI x), a1] (vI x :: st) μ G := ev_stp pg_193_31 rfl
theorem pg_193_32 : mm_prog 193 32 = some (0, .iload_n 1, 33, []) := by decide +kernel
theorem xe_193_32 (a0 : Option MV) (x : Int) (st : List MV) (μ : MM) (G : MG) : ev 193 32 [a0, some (vI x)] st μ G = ev 193 33 [a0, some (vI x)] (vI x :: st) μ G := ev_stp pg_193_32 rfl
theorem pg_193_33 : mm_prog 193 33 = some (0, .bipush 16, 35, []) := by decide +kernel
theorem xe_193_33 (a0 a1 : Option MV) (st : List MV) (μ : MM) (G : MG) : ev 193 33 [a0, a1] st μ G = ev 193 35 [a0, a1] (vI (16) :: st) μ G := ev_stp pg_193_33 rfl
theorem pg_193_35 : mm_prog 193 35 = some (0, .imul, 36, []) := by decide +kernel
theorem xe_193_35 (a0 a1 : Option MV) (x y : Int) (st : List MV) (μ : MM) (G : MG) : ev 193 35 [a0, a1] (vI y :: vI x :: st) μ G = ev 193 36 [a0, a1] (vI (w32 (x * y)) :: st) μ G := ev_stp pg_193_35 rfl
theorem pg_193_36 : mm_prog 193 36 = some (0, .bipush 80, 38, []) := by decide +kernel
theorem xe_193_36 (a0 a1 : Option MV) (st : List MV) (μ : MM) (G : MG) : ev 193 36 [a0, a1] st μ G = ev 193 38 [a0, a1] (vI (80) :: st) μ G := ev_stp pg_193_36 rfl
theorem pg_193_38 : mm_prog 193 38 = some (0, .idiv, 39, []) := by decide +kernel
theorem xe_193_38 (a0 a1 : Option MV) (x y : Int) (st : List MV) (μ : MM) (G : MG) : ev 193 38 [a0, a1] (vI y :: vI x :: st) μ G = if y = 0 then none else ev 193 39 [a0, a1] (vI (mm_div x y) :: st) μ G := ev_no pg_193_38 rfl
theorem pg_193_39 : mm_prog 193 39 = some (0, .bipush 8, 41, []) := by decide +kernel
theorem xe_193_39 (a0 a1 : Option MV) (st : List MV) (μ : MM) (G : MG) : ev 193 39 [a0, a1] st μ G = ev 193 41 [a0, a1] (vI (8) :: st) μ G := ev_stp pg_193_39 rfl
theorem pg_193_41 : mm_prog 193 41 = some (0, .imul, 42, []) := by decide +kernel
theorem xe_193_41 (a0 a1 : Option MV) (x y : Int) (st : List MV) (μ : MM) (G : MG) : ev 193 41 [a0, a1] (vI y :: vI x :: st) μ G = ev 193 42 [a0, a1] (vI (w32 (x * y)) :: st) μ G := ev_stp pg_193_41 rfl
theorem pg_193_42 : mm_prog 193 42 = some (0, .if_icmp .ne 6, 45, []) := by decide +kernel
theorem xe_193_42 (a0 a1 : Option MV) (x y : Int) (st : List MV) (μ : MM) (G : MG) : ev 193 42 [a0, a1] (vI y :: vI x :: st) μ G = if ¬ x = y then ev 193 48 [a0, a1] st μ G else ev 193 45 [a0, a1] st μ G := ev_br (mm_cnd_ne x y) pg_193_42 rfl
theorem pg_193_45 : mm_prog 193 45 = some (0, .bipush 6, 47, []) := by decide +kernel
theorem xe_193_45 (a0 a1 : Option MV) (st : List MV) (μ : MM) (G : MG) : ev 193 45 [a0, a1] st μ G = ev 193 47 [a0, a1] (vI (6) :: st) μ G := ev_stp pg_193_45 rfl
theorem pg_193_47 : mm_prog 193 47 = some (2, .ireturn, 48, [0]) := by decide +kernel
theorem xe_193_47 (a0 a1 : Option MV) (x : Int) (μ : MM) (G : MG) : ev 193 47 [a0, a1] [vI x] μ G = some (some (vI x), μ, G) := ev_ret pg_193_47 rfl
theorem pg_193_48 : mm_prog 193 48 = some (0, .iload_n 0, 49, []) := by decide +kernel
theorem xe_193_48 (a1 : Option MV) (x : Int) (st : List MV) (μ : MM) (G : MG) : ev 193 48 [some (vI x), a1] st μ G = ev 193 49 [some (vI x), a1] (vI x :: st) μ G := ev_stp pg_193_48 rfl
theorem pg_193_49 : mm_prog 193 49 = some (0, .iload_n 1, 50, []) := by decide +kernel
theorem xe_193_49 (a0 : Option MV) (x : Int) (st : List MV) (μ : MM) (G : MG) : ev 193 49 [a0, some (vI x)] st μ G = ev 193 50 [a0, some (vI x)] (vI x :: st) μ G := ev_stp pg_193_49 rfl
theorem pg_193_50 : mm_prog 193 50 = some (0, .iconst 5, 51, []) := by decide +kernel
theorem xe_193_50 (a0 a1 : Option MV) (st : List MV) (μ : MM) (G : MG) : ev 193 50 [a0, a1] st μ G = ev 193 51 [a0, a1] (vI (5) :: st) μ G := ev_stp pg_193_50 rfl
theorem pg_193_51 : mm_prog 193 51 = some (0, .imul, 52, []) := by decide +kernel
theorem xe_193_51 (a0 a1 : Option MV) (x y : Int) (st : List MV) (μ : MM) (G : MG) : ev 193 51 [a0, a1] (vI y :: vI x :: st) μ G = ev 193 52 [a0, a1] (vI (w32 (x * y)) :: st) μ G := ev_stp pg_193_51 rfl
theorem pg_193_52 : mm_prog 193 52 = some (0, .bipush 32, 54, []) := by decide +kernel
theorem xe_193_52 (a0 a1 : Option MV) (st : List MV) (μ : MM) (G : MG) : ev 193 52 [a0, a1] st μ G = ev 193 54 [a0, a1] (vI (32) :: st) μ G := ev_stp pg_193_52 rfl
theorem pg_193_54 : mm_prog 193 54 = some (0, .idiv, 55, []) := by decide +kernel
theorem xe_193_54 (a0 a1 : Option MV) (x y : Int) (st : List MV) (μ : MM) (G : MG) : ev 193 54 [a0, a1] (vI y :: vI x :: st) μ G = if y = 0 then none else ev 193 55 [a0, a1] (vI (mm_div x y) :: st) μ G := ev_no pg_193_54 rfl
theorem pg_193_55 : mm_prog 193 55 = some (0, .bipush 8, 57, []) := by decide +kernel
theorem xe_193_55 (a0 a1 : Option MV) (st : List MV) (μ : MM) (G : MG) : ev 193 55 [a0, a1] st μ G = ev 193 57 [a0, a1] (vI (8) :: st) μ G := ev_stp pg_193_55 rfl
theorem pg_193_57 : mm_prog 193 57 = some (0, .imul, 58, []) := by decide +kernel
theorem xe_193_57 (a0 a1 : Option MV) (x y : Int) (st : List MV) (μ : MM) (G : MG) : ev 193 57 [a0, a1] (vI y :: vI x :: st) μ G = ev 193 58 [a0, a1] (vI (w32 (x * y)) :: st) μ G := ev_stp pg_193_57 rfl
theorem pg_193_58 : mm_prog 193 58 = some (0, .if_icmp .eq 17, 61, []) := by decide +kernel
theorem xe_193_58 (a0 a1 : Option MV) (x y : Int) (st : List MV) (μ : MM) (G : MG) : ev 193 58 [a0, a1] (vI y :: vI x :: st) μ G = if x = y then ev 193 75 [a0, a1] st μ G else ev 193 61 [a0, a1] st μ G := ev_br (mm_cnd_eq x y) pg_193_58 rfl
theorem pg_193_61 : mm_prog 193 61 = some (0, .iload_n 0, 62, []) := by decide +kernel
theorem xe_193_61 (a1 : Option MV) (x : Int) (st : List MV) (μ : MM) (G : MG) : ev 193 61 [some (vI x), a1] st μ G = ev 193 62 [some (vI x), a1] (vI x :: st) μ G := ev_stp pg_193_61 rfl
theorem pg_193_62 : mm_prog 193 62 = some (0, .iload_n 1, 63, []) := by decide +kernel
theorem xe_193_62 (a0 : Option MV) (x : Int) (st : List MV) (μ : MM) (G : MG) : ev 193 62 [a0, some (vI x)] st μ G = ev 193 63 [a0, some (vI x)] (vI x :: st) μ G := ev_stp pg_193_62 rfl
theorem pg_193_63 : mm_prog 193 63 = some (0, .bipush 15, 65, []) := by decide +kernel
theorem xe_193_63 (a0 a1 : Option MV) (st : List MV) (μ : MM) (G : MG) : ev 193 63 [a0, a1] st μ G = ev 193 65 [a0, a1] (vI (15) :: st) μ G := ev_stp pg_193_63 rfl
theorem pg_193_65 : mm_prog 193 65 = some (0, .imul, 66, []) := by decide +kernel
theorem xe_193_65 (a0 a1 : Option MV) (x y : Int) (st : List MV) (μ : MM) (G : MG) : ev 193 65 [a0, a1] (vI y :: vI x :: st) μ G = ev 193 66 [a0, a1] (vI (w32 (x * y)) :: st) μ G := ev_stp pg_193_65 rfl
theorem pg_193_66 : mm_prog 193 66 = some (0, .bipush 72, 68, []) := by decide +kernel
theorem xe_193_66 (a0 a1 : Option MV) (st : List MV) (μ : MM) (G : MG) : ev 193 66 [a0, a1] st μ G = ev 193 68 [a0, a1] (vI (72) :: st) μ G := ev_stp pg_193_66 rfl
theorem pg_193_68 : mm_prog 193 68 = some (0, .idiv, 69, []) := by decide +kernel
theorem xe_193_68 (a0 a1 : Option MV) (x y : Int) (st : List MV) (μ : MM) (G : MG) : ev 193 68 [a0, a1] (vI y :: vI x :: st) μ G = if y = 0 then none else ev 193 69 [a0, a1] (vI (mm_div x y) :: st) μ G := ev_no pg_193_68 rfl
theorem pg_193_69 : mm_prog 193 69 = some (0, .bipush 8, 71, []) := by decide +kernel
theorem xe_193_69 (a0 a1 : Option MV) (st : List MV) (μ : MM) (G : MG) : ev 193 69 [a0, a1] st μ G = ev 193 71 [a0, a1] (vI (8) :: st) μ G := ev_stp pg_193_69 rfl
theorem pg_193_71 : mm_prog 193 71 = some (0, .imul, 72, []) := by decide +kernel
theorem xe_193_71 (a0 a1 : Option MV) (x y : Int) (st : List MV) (μ : MM) (G : MG) : ev 193 71 [a0, a1] (vI y :: vI x :: st) μ G = ev 193 72 [a0, a1] (vI (w32 (x * y)) :: st) μ G := ev_stp pg_193_71 rfl
theorem pg_193_72 : mm_prog 193 72 = some (0, .if_icmp .ne 8, 75, []) := by decide +kernel
theorem xe_193_72 (a0 a1 : Option MV) (x y : Int) (st : List MV) (μ : MM) (G : MG) : ev 193 72 [a0, a1] (vI y :: vI x :: st) μ G = if ¬ x = y then ev 193 80 [a0, a1] st μ G else ev 193 75 [a0, a1] st μ G := ev_br (mm_cnd_ne x y) pg_193_72 rfl
theorem pg_193_75 : mm_prog 193 75 = some (0, .bipush 7, 77, []) := by decide +kernel
theorem xe_193_75 (a0 a1 : Option MV) (st : List MV) (μ : MM) (G : MG) : ev 193 75 [a0, a1] st μ G = ev 193 77 [a0, a1] (vI (7) :: st) μ G := ev_stp pg_193_75 rfl
theorem pg_193_77 : mm_prog 193 77 = some (0, .goto 5, 80, []) := by decide +kernel
theorem xe_193_77 (a0 a1 : Option MV) (st : List MV) (μ : MM) (G : MG) : ev 193 77 [a0, a1] st μ G = ev 193 82 [a0, a1] st μ G := ev_stp pg_193_77 rfl
theorem pg_193_80 : mm_prog 193 80 = some (0, .bipush 10, 82, []) := by decide +kernel
theorem xe_193_80 (a0 a1 : Option MV) (st : List MV) (μ : MM) (G : MG) : ev 193 80 [a0, a1] st μ G = ev 193 82 [a0, a1] (vI (10) :: st) μ G := ev_stp pg_193_80 rfl
theorem pg_193_82 : mm_prog 193 82 = some (2, .ireturn, 83, [0]) := by decide +kernel
theorem xe_193_82 (a0 a1 : Option MV) (x : Int) (μ : MM) (G : MG) : ev 193 82 [a0, a1] [vI x] μ G = some (some (vI x), μ, G) := ev_ret pg_193_82 rfl
