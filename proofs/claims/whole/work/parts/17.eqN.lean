-- X11_works
theorem pg_194_0 : mm_prog 194 0 = some (0, .sipush 460, 3, []) := by decide +kernel
theorem xe_194_0 (a0 a1 a2 a3 a4 a5 a6 a7 a8 : Option MV) (st : List MV) (μ : MM) (G : MG) : ev 194 0 [a0, a1, a2, a3, a4, a5, a6, a7, a8] st μ G = ev 194 3 [a0, a1, a2, a3, a4, a5, a6, a7, a8] (vI (460) :: st) μ G := ev_stp pg_194_0 rfl
theorem pg_194_3 : mm_prog 194 3 = some (0, .iload_n 3, 4, []) := by decide +kernel
theorem xe_194_3 (a0 a1 a2 a4 a5 a6 a7 a8 : Option MV) (x : Int) (st : List MV) (μ : MM) (G : MG) : ev 194 3 [a0, a1, a2, some (vI x), a4, a5, a6, a7, a8] st μ G = ev 194 4 [a0, a1, a2, some (vI x), a4, a5, a6, a7, a8] (vI x :: st) μ G := ev_stp pg_194_3 rfl
theorem pg_194_4 : mm_prog 194 4 = some (0, .imul, 5, []) := by decide +kernel
theorem xe_194_4 (a0 a1 a2 a3 a4 a5 a6 a7 a8 : Option MV) (x y : Int) (st : List MV) (μ : MM) (G : MG) : ev 194 4 [a0, a1, a2, a3, a4, a5, a6, a7, a8] (vI y :: vI x :: st) μ G = ev 194 5 [a0, a1, a2, a3, a4, a5, a6, a7, a8] (vI (w32 (x * y)) :: st) μ G := ev_stp pg_194_4 rfl
theorem pg_194_5 : mm_prog 194 5 = some (0, .iload 4, 7, []) := by decide +kernel
theorem xe_194_5 (a0 a1 a2 a3 a5 a6 a7 a8 : Option MV) (x : Int) (st : List MV) (μ : MM) (G : MG) : ev 194 5 [a0, a1, a2, a3, some (vI x), a5, a6, a7, a8] st μ G = ev 194 7 [a0, a1, a2, a3, some (vI x), a5, a6, a7, a8] (vI x :: st) μ G := ev_stp pg_194_5 rfl
theorem pg_194_7 : mm_prog 194 7 = some (0, .imul, 8, []) := by decide +kernel
theorem xe_194_7 (a0 a1 a2 a3 a4 a5 a6 a7 a8 : Option MV) (x y : Int) (st : List MV) (μ : MM) (G : MG) : ev 194 7 [a0, a1, a2, a3, a4, a5, a6, a7, a8] (vI y :: vI x :: st) μ G = ev 194 8 [a0, a1, a2, a3, a4, a5, a6, a7, a8] (vI (w32 (x * y)) :: st) μ G := ev_stp pg_194_7 rfl
theorem pg_194_8 : mm_prog 194 8 = some (0, .ldc_w 285, 11, [1000000]) := by decide +kernel
theorem xe_194_8 (a0 a1 a2 a3 a4 a5 a6 a7 a8 : Option MV) (st : List MV) (μ : MM) (G : MG) : ev 194 8 [a0, a1, a2, a3, a4, a5, a6, a7, a8] st μ G = ev 194 11 [a0, a1, a2, a3, a4, a5, a6, a7, a8] (vI (1000000) :: st) μ G := ev_stp pg_194_8 rfl
theorem pg_194_11 : mm_prog 194 11 = some (0, .sipush 460, 14, []) := by decide +kernel
theorem xe_194_11 (a0 a1 a2 a3 a4 a5 a6 a7 a8 : Option MV) (st : List MV) (μ : MM) (G : MG) : ev 194 11 [a0, a1, a2, a3, a4, a5, a6, a7, a8] st μ G = ev 194 14 [a0, a1, a2, a3, a4, a5, a6, a7, a8] (vI (460) :: st) μ G := ev_stp pg_194_11 rfl
theorem pg_194_14 : mm_prog 194 14 = some (0, .iload 4, 16, []) := by decide +kernel
theorem xe_194_14 (a0 a1 a2 a3 a5 a6 a7 a8 : Option MV) (x : Int) (st : List MV) (μ : MM) (G : MG) : ev 194 14 [a0, a1, a2, a3, some (vI x), a5, a6, a7, a8] st μ G = ev 194 16 [a0, a1, a2, a3, some (vI x), a5, a6, a7, a8] (vI x :: st) μ G := ev_stp pg_194_14 rfl
theorem pg_194_16 : mm_prog 194 16 = some (0, .imul, 17, []) := by decide +kernel
theorem xe_194_16 (a0 a1 a2 a3 a4 a5 a6 a7 a8 : Option MV) (x y : Int) (st : List MV) (μ : MM) (G : MG) : ev 194 16 [a0, a1, a2, a3, a4, a5, a6, a7, a8] (vI y :: vI x :: st) μ G = ev 194 17 [a0, a1, a2, a3, a4, a5, a6, a7, a8] (vI (w32 (x * y)) :: st) μ G := ev_stp pg_194_16 rfl
theorem pg_194_17 : mm_prog 194 17 = some (0, .isub, 18, []) := by decide +kernel
theorem xe_194_17 (a0 a1 a2 a3 a4 a5 a6 a7 a8 : Option MV) (x y : Int) (st : List MV) (μ : MM) (G : MG) : ev 194 17 [a0, a1, a2, a3, a4, a5, a6, a7, a8] (vI y :: vI x :: st) μ G = ev 194 18 [a0, a1, a2, a3, a4, a5, a6, a7, a8] (vI (w32 (x - y)) :: st) μ G := ev_stp pg_194_17 rfl
theorem pg_194_18 : mm_prog 194 18 = some (0, .idiv, 19, []) := by decide +kernel
theorem xe_194_18 (a0 a1 a2 a3 a4 a5 a6 a7 a8 : Option MV) (x y : Int) (st : List MV) (μ : MM) (G : MG) : ev 194 18 [a0, a1, a2, a3, a4, a5, a6, a7, a8] (vI y :: vI x :: st) μ G = if y = 0 then none else ev 194 19 [a0, a1, a2, a3, a4, a5, a6, a7, a8] (vI (mm_div x y) :: st) μ G := ev_no pg_194_18 rfl
theorem pg_194_19 : mm_prog 194 19 = some (0, .iconst 1, 20, []) := by decide +kernel
theorem xe_194_19 (a0 a1 a2 a3 a4 a5 a6 a7 a8 : Option MV) (st : List MV) (μ : MM) (G : MG) : ev 194 19 [a0, a1, a2, a3, a4, a5, a6, a7, a8] st μ G = ev 194 20 [a0, a1, a2, a3, a4, a5, a6, a7, a8] (vI (1) :: st) μ G := ev_stp pg_194_19 rfl
theorem pg_194_20 : mm_prog 194 20 = some (0, .iadd, 21, []) := by decide +kernel
theorem xe_194_20 (a0 a1 a2 a3 a4 a5 a6 a7 a8 : Option MV) (x y : Int) (st : List MV) (μ : MM) (G : MG) : ev 194 20 [a0, a1, a2, a3, a4, a5, a6, a7, a8] (vI y :: vI x :: st) μ G = ev 194 21 [a0, a1, a2, a3, a4, a5, a6, a7, a8] (vI (w32 (x + y)) :: st) μ G := ev_stp pg_194_20 rfl
theorem pg_194_21 : mm_prog 194 21 = some (0, .istore 5, 23, []) := by decide +kernel
theorem xe_194_21 (a0 a1 a2 a3 a4 a5 a6 a7 a8 : Option MV) (x : Int) (st : List MV) (μ : MM) (G : MG) (h : mm_nL a4 = true) : ev 194 21 [a0, a1, a2, a3, a4, a5, a6, a7, a8] (vI x :: st) μ G = ev 194 23 [a0, a1, a2, a3, a4, some (vI x), a6, a7, a8] st μ G := ev_st pg_194_21 rfl (mm_nl_of h) (Nat.le_of_ble_eq_true rfl)
theorem pg_194_23 : mm_prog 194 23 = some (0, .iload_n 1, 24, []) := by decide +kernel
theorem xe_194_23 (a0 a2 a3 a4 a5 a6 a7 a8 : Option MV) (x : Int) (st : List MV) (μ : MM) (G : MG) : ev 194 23 [a0, some (vI x), a2, a3, a4, a5, a6, a7, a8] st μ G = ev 194 24 [a0, some (vI x), a2, a3, a4, a5, a6, a7, a8] (vI x :: st) μ G := ev_stp pg_194_23 rfl
theorem pg_194_24 : mm_prog 194 24 = some (0, .ifCond .ne 7, 27, []) := by decide +kernel
theorem xe_194_24 (a0 a1 a2 a3 a4 a5 a6 a7 a8 : Option MV) (x : Int) (st : List MV) (μ : MM) (G : MG) : ev 194 24 [a0, a1, a2, a3, a4, a5, a6, a7, a8] (vI x :: st) μ G = if ¬ x = 0 then ev 194 31 [a0, a1, a2, a3, a4, a5, a6, a7, a8] st μ G else ev 194 27 [a0, a1, a2, a3, a4, a5, a6, a7, a8] st μ G := ev_br (mm_cnd_ne x 0) pg_194_24 rfl
theorem pg_194_27 : mm_prog 194 27 = some (0, .iconst 1, 28, []) := by decide +kernel
theorem xe_194_27 (a0 a1 a2 a3 a4 a5 a6 a7 a8 : Option MV) (st : List MV) (μ : MM) (G : MG) : ev 194 27 [a0, a1, a2, a3, a4, a5, a6, a7, a8] st μ G = ev 194 28 [a0, a1, a2, a3, a4, a5, a6, a7, a8] (vI (1) :: st) μ G := ev_stp pg_194_27 rfl
theorem pg_194_28 : mm_prog 194 28 = some (0, .goto 4, 31, []) := by decide +kernel
theorem xe_194_28 (a0 a1 a2 a3 a4 a5 a6 a7 a8 : Option MV) (st : List MV) (μ : MM) (G : MG) : ev 194 28 [a0, a1, a2, a3, a4, a5, a6, a7, a8] st μ G = ev 194 32 [a0, a1, a2, a3, a4, a5, a6, a7, a8] st μ G := ev_stp pg_194_28 rfl
theorem pg_194_31 : mm_prog 194 31 = some (0, .iconst 0, 32, []) := by decide +kernel
theorem xe_194_31 (a0 a1 a2 a3 a4 a5 a6 a7 a8 : Option MV) (st : List MV) (μ : MM) (G : MG) : ev 194 31 [a0, a1, a2, a3, a4, a5, a6, a7, a8] st μ G = ev 194 32 [a0, a1, a2, a3, a4, a5, a6, a7, a8] (vI (0) :: st) μ G := ev_stp pg_194_31 rfl
theorem pg_194_32 : mm_prog 194 32 = some (0, .istore 6, 34, []) := by decide +kernel
theorem xe_194_32 (a0 a1 a2 a3 a4 a5 a6 a7 a8 : Option MV) (x : Int) (st : List MV) (μ : MM) (G : MG) (h : mm_nL a5 = true) : ev 194 32 [a0, a1, a2, a3, a4, a5, a6, a7, a8] (vI x :: st) μ G = ev 194 34 [a0, a1, a2, a3, a4, a5, some (vI x), a7, a8] st μ G := ev_st pg_194_32 rfl (mm_nl_of h) (Nat.le_of_ble_eq_true rfl)
theorem pg_194_34 : mm_prog 194 34 = some (0, .aload_n 0, 35, []) := by decide +kernel
theorem xe_194_34 (a1 a2 a3 a4 a5 a6 a7 a8 : Option MV) (x : Int) (st : List MV) (μ : MM) (G : MG) : ev 194 34 [some (vR x), a1, a2, a3, a4, a5, a6, a7, a8] st μ G = ev 194 35 [some (vR x), a1, a2, a3, a4, a5, a6, a7, a8] (vR x :: st) μ G := ev_stp pg_194_34 rfl
theorem pg_194_35 : mm_prog 194 35 = some (0, .getfield 63, 38, [11, 29, 2]) := by decide +kernel
theorem xe_194_35 (a0 a1 a2 a3 a4 a5 a6 a7 a8 : Option MV) (x : Int) (st : List MV) (μ : MM) (G : MG) : ev 194 35 [a0, a1, a2, a3, a4, a5, a6, a7, a8] (vR x :: st) μ G = if gk G x = 11 then ev 194 38 [a0, a1, a2, a3, a4, a5, a6, a7, a8] (vR (μ x 29) :: st) μ G else none := ev_if pg_194_35 rfl
theorem pg_194_38 : mm_prog 194 38 = some (0, .iconst 0, 39, []) := by decide +kernel
theorem xe_194_38 (a0 a1 a2 a3 a4 a5 a6 a7 a8 : Option MV) (st : List MV) (μ : MM) (G : MG) : ev 194 38 [a0, a1, a2, a3, a4, a5, a6, a7, a8] st μ G = ev 194 39 [a0, a1, a2, a3, a4, a5, a6, a7, a8] (vI (0) :: st) μ G := ev_stp pg_194_38 rfl
theorem pg_194_39 : mm_prog 194 39 = some (0, .iload 6, 41, []) := by decide +kernel
theorem xe_194_39 (a0 a1 a2 a3 a4 a5 a7 a8 : Option MV) (x : Int) (st : List MV) (μ : MM) (G : MG) : ev 194 39 [a0, a1, a2, a3, a4, a5, some (vI x), a7, a8] st μ G = ev 194 41 [a0, a1, a2, a3, a4, a5, some (vI x), a7, a8] (vI x :: st) μ G := ev_stp pg_194_39 rfl
theorem pg_194_41 : mm_prog 194 41 = some (0, .ifCond .eq 13, 44, []) := by decide +kernel
theorem xe_194_41 (a0 a1 a2 a3 a4 a5 a6 a7 a8 : Option MV) (x : Int) (st : List MV) (μ : MM) (G : MG) : ev 194 41 [a0, a1, a2, a3, a4, a5, a6, a7, a8] (vI x :: st) μ G = if x = 0 then ev 194 54 [a0, a1, a2, a3, a4, a5, a6, a7, a8] st μ G else ev 194 44 [a0, a1, a2, a3, a4, a5, a6, a7, a8] st μ G := ev_br (mm_cnd_eq x 0) pg_194_41 rfl
theorem pg_194_44 : mm_prog 194 44 = some (0, .iload_n 2, 45, []) := by decide +kernel
theorem xe_194_44 (a0 a1 a3 a4 a5 a6 a7 a8 : Option MV) (x : Int) (st : List MV) (μ : MM) (G : MG) : ev 194 44 [a0, a1, some (vI x), a3, a4, a5, a6, a7, a8] st μ G = ev 194 45 [a0, a1, some (vI x), a3, a4, a5, a6, a7, a8] (vI x :: st) μ G := ev_stp pg_194_44 rfl
theorem pg_194_45 : mm_prog 194 45 = some (0, .bipush 8, 47, []) := by decide +kernel
theorem xe_194_45 (a0 a1 a2 a3 a4 a5 a6 a7 a8 : Option MV) (st : List MV) (μ : MM) (G : MG) : ev 194 45 [a0, a1, a2, a3, a4, a5, a6, a7, a8] st μ G = ev 194 47 [a0, a1, a2, a3, a4, a5, a6, a7, a8] (vI (8) :: st) μ G := ev_stp pg_194_45 rfl
theorem pg_194_47 : mm_prog 194 47 = some (0, .idiv, 48, []) := by decide +kernel
theorem xe_194_47 (a0 a1 a2 a3 a4 a5 a6 a7 a8 : Option MV) (x y : Int) (st : List MV) (μ : MM) (G : MG) : ev 194 47 [a0, a1, a2, a3, a4, a5, a6, a7, a8] (vI y :: vI x :: st) μ G = if y = 0 then none else ev 194 48 [a0, a1, a2, a3, a4, a5, a6, a7, a8] (vI (mm_div x y) :: st) μ G := ev_no pg_194_47 rfl
theorem pg_194_48 : mm_prog 194 48 = some (0, .bipush 8, 50, []) := by decide +kernel
theorem xe_194_48 (a0 a1 a2 a3 a4 a5 a6 a7 a8 : Option MV) (st : List MV) (μ : MM) (G : MG) : ev 194 48 [a0, a1, a2, a3, a4, a5, a6, a7, a8] st μ G = ev 194 50 [a0, a1, a2, a3, a4, a5, a6, a7, a8] (vI (8) :: st) μ G := ev_stp pg_194_48 rfl
theorem pg_194_50 : mm_prog 194 50 = some (0, .imul, 51, []) := by decide +kernel
theorem xe_194_50 (a0 a1 a2 a3 a4 a5 a6 a7 a8 : Option MV) (x y : Int) (st : List MV) (μ : MM) (G : MG) : ev 194 50 [a0, a1, a2, a3, a4, a5, a6, a7, a8] (vI y :: vI x :: st) μ G = ev 194 51 [a0, a1, a2, a3, a4, a5, a6, a7, a8] (vI (w32 (x * y)) :: st) μ G := ev_stp pg_194_50 rfl
theorem pg_194_51 : mm_prog 194 51 = some (0, .goto 4, 54, []) := by decide +kernel
theorem xe_194_51 (a0 a1 a2 a3 a4 a5 a6 a7 a8 : Option MV) (st : List MV) (μ : MM) (G : MG) : ev 194 51 [a0, a1, a2, a3, a4, a5, a6, a7, a8] st μ G = ev 194 55 [a0, a1, a2, a3, a4, a5, a6, a7, a8] st μ G := ev_stp pg_194_51 rfl
theorem pg_194_54 : mm_prog 194 54 = some (0, .iload_n 2, 55, []) := by decide +kernel
theorem xe_194_54 (a0 a1 a3 a4 a5 a6 a7 a8 : Option MV) (x : Int) (st : List MV) (μ : MM) (G : MG) : ev 194 54 [a0, a1, some (vI x), a3, a4, a5, a6, a7, a8] st μ G = ev 194 55 [a0, a1, some (vI x), a3, a4, a5, a6, a7, a8] (vI x :: st) μ G := ev_stp pg_194_54 rfl
theorem pg_194_55 : mm_prog 194 55 = some (0, .iastore, 56, []) := by decide +kernel
theorem xe_194_55 (a0 a1 a2 a3 a4 a5 a6 a7 a8 : Option MV) (x y z : Int) (st : List MV) (μ : MM) (G : MG) : ev 194 55 [a0, a1, a2, a3, a4, a5, a6, a7, a8] (vI x :: vI y :: vR z :: st) μ G = if gk G z = 100 ∧ 0 ≤ y ∧ y < gl G z ∧ 10 ≤ z then ev 194 56 [a0, a1, a2, a3, a4, a5, a6, a7, a8] st (mset μ z y x) G else none := ev_if pg_194_55 rfl
theorem pg_194_56 : mm_prog 194 56 = some (0, .aload_n 0, 57, []) := by decide +kernel
theorem xe_194_56 (a1 a2 a3 a4 a5 a6 a7 a8 : Option MV) (x : Int) (st : List MV) (μ : MM) (G : MG) : ev 194 56 [some (vR x), a1, a2, a3, a4, a5, a6, a7, a8] st μ G = ev 194 57 [some (vR x), a1, a2, a3, a4, a5, a6, a7, a8] (vR x :: st) μ G := ev_stp pg_194_56 rfl
theorem pg_194_57 : mm_prog 194 57 = some (0, .getfield 63, 60, [11, 29, 2]) := by decide +kernel
theorem xe_194_57 (a0 a1 a2 a3 a4 a5 a6 a7 a8 : Option MV) (x : Int) (st : List MV) (μ : MM) (G : MG) : ev 194 57 [a0, a1, a2, a3, a4, a5, a6, a7, a8] (vR x :: st) μ G = if gk G x = 11 then ev 194 60 [a0, a1, a2, a3, a4, a5, a6, a7, a8] (vR (μ x 29) :: st) μ G else none := ev_if pg_194_57 rfl
theorem pg_194_60 : mm_prog 194 60 = some (0, .iconst 1, 61, []) := by decide +kernel
theorem xe_194_60 (a0 a1 a2 a3 a4 a5 a6 a7 a8 : Option MV) (st : List MV) (μ : MM) (G : MG) : ev 194 60 [a0, a1, a2, a3, a4, a5, a6, a7, a8] st μ G = ev 194 61 [a0, a1, a2, a3, a4, a5, a6, a7, a8] (vI (1) :: st) μ G := ev_stp pg_194_60 rfl
theorem pg_194_61 : mm_prog 194 61 = some (0, .iload 6, 63, []) := by decide +kernel
theorem xe_194_61 (a0 a1 a2 a3 a4 a5 a7 a8 : Option MV) (x : Int) (st : List MV) (μ : MM) (G : MG) : ev 194 61 [a0, a1, a2, a3, a4, a5, some (vI x), a7, a8] st μ G = ev 194 63 [a0, a1, a2, a3, a4, a5, some (vI x), a7, a8] (vI x :: st) μ G := ev_stp pg_194_61 rfl
theorem pg_194_63 : mm_prog 194 63 = some (0, .ifCond .eq 9, 66, []) := by decide +kernel
theorem xe_194_63 (a0 a1 a2 a3 a4 a5 a6 a7 a8 : Option MV) (x : Int) (st : List MV) (μ : MM) (G : MG) : ev 194 63 [a0, a1, a2, a3, a4, a5, a6, a7, a8] (vI x :: st) μ G = if x = 0 then ev 194 72 [a0, a1, a2, a3, a4, a5, a6, a7, a8] st μ G else ev 194 66 [a0, a1, a2, a3, a4, a5, a6, a7, a8] st μ G := ev_br (mm_cnd_eq x 0) pg_194_63 rfl
theorem pg_194_66 : mm_prog 194 66 = some (0, .sipush 160, 69, []) := by decide +kernel
theorem xe_194_66 (a0 a1 a2 a3 a4 a5 a6 a7 a8 : Option MV) (st : List MV) (μ : MM) (G : MG) : ev 194 66 [a0, a1, a2, a3, a4, a5, a6, a7, a8] st μ G = ev 194 69 [a0, a1, a2, a3, a4, a5, a6, a7, a8] (vI (160) :: st) μ G := ev_stp pg_194_66 rfl
theorem pg_194_69 : mm_prog 194 69 = some (0, .goto 5, 72, []) := by decide +kernel
theorem xe_194_69 (a0 a1 a2 a3 a4 a5 a6 a7 a8 : Option MV) (st : List MV) (μ : MM) (G : MG) : ev 194 69 [a0, a1, a2, a3, a4, a5, a6, a7, a8] st μ G = ev 194 74 [a0, a1, a2, a3, a4, a5, a6, a7, a8] st μ G := ev_stp pg_194_69 rfl
theorem pg_194_72 : mm_prog 194 72 = some (0, .bipush 80, 74, []) := by decide +kernel
theorem xe_194_72 (a0 a1 a2 a3 a4 a5 a6 a7 a8 : Option MV) (st : List MV) (μ : MM) (G : MG) : ev 194 72 [a0, a1, a2, a3, a4, a5, a6, a7, a8] st μ G = ev 194 74 [a0, a1, a2, a3, a4, a5, a6, a7, a8] (vI (80) :: st) μ G := ev_stp pg_194_72 rfl
theorem pg_194_74 : mm_prog 194 74 = some (0, .iastore, 75, []) := by decide +kernel
theorem xe_194_74 (a0 a1 a2 a3 a4 a5 a6 a7 a8 : Option MV) (x y z : Int) (st : List MV) (μ : MM) (G : MG) : ev 194 74 [a0, a1, a2, a3, a4, a5, a6, a7, a8] (vI x :: vI y :: vR z :: st) μ G = if gk G z = 100 ∧ 0 ≤ y ∧ y < gl G z ∧ 10 ≤ z then ev 194 75 [a0, a1, a2, a3, a4, a5, a6, a7, a8] st (mset μ z y x) G else none := ev_if pg_194_74 rfl
theorem pg_194_75 : mm_prog 194 75 = some (0, .aload_n 0, 76, []) := by decide +kernel
theorem xe_194_75 (a1 a2 a3 a4 a5 a6 a7 a8 : Option MV) (x : Int) (st : List MV) (μ : MM) (G : MG) : ev 194 75 [some (vR x), a1, a2, a3, a4, a5, a6, a7, a8] st μ G = ev 194 76 [some (vR x), a1, a2, a3, a4, a5, a6, a7, a8] (vR x :: st) μ G := ev_stp pg_194_75 rfl
theorem pg_194_76 : mm_prog 194 76 = some (0, .getfield 63, 79, [11, 29, 2]) := by decide +kernel
theorem xe_194_76 (a0 a1 a2 a3 a4 a5 a6 a7 a8 : Option MV) (x : Int) (st : List MV) (μ : MM) (G : MG) : ev 194 76 [a0, a1, a2, a3, a4, a5, a6, a7, a8] (vR x :: st) μ G = if gk G x = 11 then ev 194 79 [a0, a1, a2, a3, a4, a5, a6, a7, a8] (vR (μ x 29) :: st) μ G else none := ev_if pg_194_76 rfl
theorem pg_194_79 : mm_prog 194 79 = some (0, .iconst 2, 80, []) := by decide +kernel
theorem xe_194_79 (a0 a1 a2 a3 a4 a5 a6 a7 a8 : Option MV) (st : List MV) (μ : MM) (G : MG) : ev 194 79 [a0, a1, a2, a3, a4, a5, a6, a7, a8] st μ G = ev 194 80 [a0, a1, a2, a3, a4, a5, a6, a7, a8] (vI (2) :: st) μ G := ev_stp pg_194_79 rfl
theorem pg_194_80 : mm_prog 194 80 = some (0, .iload 6, 82, []) := by decide +kernel
theorem xe_194_80 (a0 a1 a2 a3 a4 a5 a7 a8 : Option MV) (x : Int) (st : List MV) (μ : MM) (G : MG) : ev 194 80 [a0, a1, a2, a3, a4, a5, some (vI x), a7, a8] st μ G = ev 194 82 [a0, a1, a2, a3, a4, a5, some (vI x), a7, a8] (vI x :: st) μ G := ev_stp pg_194_80 rfl
theorem pg_194_82 : mm_prog 194 82 = some (0, .ifCond .eq 8, 85, []) := by decide +kernel
theorem xe_194_82 (a0 a1 a2 a3 a4 a5 a6 a7 a8 : Option MV) (x : Int) (st : List MV) (μ : MM) (G : MG) : ev 194 82 [a0, a1, a2, a3, a4, a5, a6, a7, a8] (vI x :: st) μ G = if x = 0 then ev 194 90 [a0, a1, a2, a3, a4, a5, a6, a7, a8] st μ G else ev 194 85 [a0, a1, a2, a3, a4, a5, a6, a7, a8] st μ G := ev_br (mm_cnd_eq x 0) pg_194_82 rfl
theorem pg_194_85 : mm_prog 194 85 = some (0, .bipush 48, 87, []) := by decide +kernel
theorem xe_194_85 (a0 a1 a2 a3 a4 a5 a6 a7 a8 : Option MV) (st : List MV) (μ : MM) (G : MG) : ev 194 85 [a0, a1, a2, a3, a4, a5, a6, a7, a8] st μ G = ev 194 87 [a0, a1, a2, a3, a4, a5, a6, a7, a8] (vI (48) :: st) μ G := ev_stp pg_194_85 rfl
theorem pg_194_87 : mm_prog 194 87 = some (0, .goto 5, 90, []) := by decide +kernel
theorem xe_194_87 (a0 a1 a2 a3 a4 a5 a6 a7 a8 : Option MV) (st : List MV) (μ : MM) (G : MG) : ev 194 87 [a0, a1, a2, a3, a4, a5, a6, a7, a8] st μ G = ev 194 92 [a0, a1, a2, a3, a4, a5, a6, a7, a8] st μ G := ev_stp pg_194_87 rfl
theorem pg_194_90 : mm_prog 194 90 = some (0, .bipush 8, 92, []) := by decide +kernel
theorem xe_194_90 (a0 a1 a2 a3 a4 a5 a6 a7 a8 : Option MV) (st : List MV) (μ : MM) (G : MG) : ev 194 90 [a0, a1, a2, a3, a4, a5, a6, a7, a8] st μ G = ev 194 92 [a0, a1, a2, a3, a4, a5, a6, a7, a8] (vI (8) :: st) μ G := ev_stp pg_194_90 rfl
theorem pg_194_92 : mm_prog 194 92 = some (0, .iastore, 93, []) := by decide +kernel
theorem xe_194_92 (a0 a1 a2 a3 a4 a5 a6 a7 a8 : Option MV) (x y z : Int) (st : List MV) (μ : MM) (G : MG) : ev 194 92 [a0, a1, a2, a3, a4, a5, a6, a7, a8] (vI x :: vI y :: vR z :: st) μ G = if gk G z = 100 ∧ 0 ≤ y ∧ y < gl G z ∧ 10 ≤ z then ev 194 93 [a0, a1, a2, a3, a4, a5, a6, a7, a8] st (mset μ z y x) G else none := ev_if pg_194_92 rfl
theorem pg_194_93 : mm_prog 194 93 = some (0, .aload_n 0, 94, []) := by decide +kernel
theorem xe_194_93 (a1 a2 a3 a4 a5 a6 a7 a8 : Option MV) (x : Int) (st : List MV) (μ : MM) (G : MG) : ev 194 93 [some (vR x), a1, a2, a3, a4, a5, a6, a7, a8] st μ G = ev 194 94 [some (vR x), a1, a2, a3, a4, a5, a6, a7, a8] (vR x :: st) μ G := ev_stp pg_194_93 rfl
theorem pg_194_94 : mm_prog 194 94 = some (0, .getfield 63, 97, [11, 29, 2]) := by decide +kernel
theorem xe_194_94 (a0 a1 a2 a3 a4 a5 a6 a7 a8 : Option MV) (x : Int) (st : List MV) (μ : MM) (G : MG) : ev 194 94 [a0, a1, a2, a3, a4, a5, a6, a7, a8] (vR x :: st) μ G = if gk G x = 11 then ev 194 97 [a0, a1, a2, a3, a4, a5, a6, a7, a8] (vR (μ x 29) :: st) μ G else none := ev_if pg_194_94 rfl
theorem pg_194_97 : mm_prog 194 97 = some (0, .iconst 3, 98, []) := by decide +kernel
theorem xe_194_97 (a0 a1 a2 a3 a4 a5 a6 a7 a8 : Option MV) (st : List MV) (μ : MM) (G : MG) : ev 194 97 [a0, a1, a2, a3, a4, a5, a6, a7, a8] st μ G = ev 194 98 [a0, a1, a2, a3, a4, a5, a6, a7, a8] (vI (3) :: st) μ G := ev_stp pg_194_97 rfl
theorem pg_194_98 : mm_prog 194 98 = some (0, .bipush 32, 100, []) := by decide +kernel
theorem xe_194_98 (a0 a1 a2 a3 a4 a5 a6 a7 a8 : Option MV) (st : List MV) (μ : MM) (G : MG) : ev 194 98 [a0, a1, a2, a3, a4, a5, a6, a7, a8] st μ G = ev 194 100 [a0, a1, a2, a3, a4, a5, a6, a7, a8] (vI (32) :: st) μ G := ev_stp pg_194_98 rfl
theorem pg_194_100 : mm_prog 194 100 = some (0, .iastore, 101, []) := by decide +kernel
theorem xe_194_100 (a0 a1 a2 a3 a4 a5 a6 a7 a8 : Option MV) (x y z : Int) (st : List MV) (μ : MM) (G : MG) : ev 194 100 [a0, a1, a2, a3, a4, a5, a6, a7, a8] (vI x :: vI y :: vR z :: st) μ G = if gk G z = 100 ∧ 0 ≤ y ∧ y < gl G z ∧ 10 ≤ z then ev 194 101 [a0, a1, a2, a3, a4, a5, a6, a7, a8] st (mset μ z y x) G else none := ev_if pg_194_100 rfl
theorem pg_194_101 : mm_prog 194 101 = some (0, .aload_n 0, 102, []) := by decide +kernel
theorem xe_194_101 (a1 a2 a3 a4 a5 a6 a7 a8 : Option MV) (x : Int) (st : List MV) (μ : MM) (G : MG) : ev 194 101 [some (vR x), a1, a2, a3, a4, a5, a6, a7, a8] st μ G = ev 194 102 [some (vR x), a1, a2, a3, a4, a5, a6, a7, a8] (vR x :: st) μ G := ev_stp pg_194_101 rfl
theorem pg_194_102 : mm_prog 194 102 = some (0, .getfield 63, 105, [11, 29, 2]) := by decide +kernel
theorem xe_194_102 (a0 a1 a2 a3 a4 a5 a6 a7 a8 : Option MV) (x : Int) (st : List MV) (μ : MM) (G : MG) : ev 194 102 [a0, a1, a2, a3, a4, a5, a6, a7, a8] (vR x :: st) μ G = if gk G x = 11 then ev 194 105 [a0, a1, a2, a3, a4, a5, a6, a7, a8] (vR (μ x 29) :: st) μ G else none := ev_if pg_194_102 rfl
theorem pg_194_105 : mm_prog 194 105 = some (0, .iconst 4, 106, []) := by decide +kernel
theorem xe_194_105 (a0 a1 a2 a3 a4 a5 a6 a7 a8 : Option MV) (st : List MV) (μ : MM) (G : MG) : ev 194 105 [a0, a1, a2, a3, a4, a5, a6, a7, a8] st μ G = ev 194 106 [a0, a1, a2, a3, a4, a5, a6, a7, a8] (vI (4) :: st) μ G := ev_stp pg_194_105 rfl
theorem pg_194_106 : mm_prog 194 106 = some (0, .iload_n 3, 107, []) := by decide +kernel
theorem xe_194_106 (a0 a1 a2 a4 a5 a6 a7 a8 : Option MV) (x : Int) (st : List MV) (μ : MM) (G : MG) : ev 194 106 [a0, a1, a2, some (vI x), a4, a5, a6, a7, a8] st μ G = ev 194 107 [a0, a1, a2, some (vI x), a4, a5, a6, a7, a8] (vI x :: st) μ G := ev_stp pg_194_106 rfl
theorem pg_194_107 : mm_prog 194 107 = some (0, .iastore, 108, []) := by decide +kernel
theorem xe_194_107 (a0 a1 a2 a3 a4 a5 a6 a7 a8 : Option MV) (x y z : Int) (st : List MV) (μ : MM) (G : MG) : ev 194 107 [a0, a1, a2, a3, a4, a5, a6, a7, a8] (vI x :: vI y :: vR z :: st) μ G = if gk G z = 100 ∧ 0 ≤ y ∧ y < gl G z ∧ 10 ≤ z then ev 194 108 [a0, a1, a2, a3, a4, a5, a6, a7, a8] st (mset μ z y x) G else none := ev_if pg_194_107 rfl
theorem pg_194_108 : mm_prog 194 108 = some (0, .aload_n 0, 109, []) := by decide +kernel
theorem xe_194_108 (a1 a2 a3 a4 a5 a6 a7 a8 : Option MV) (x : Int) (st : List MV) (μ : MM) (G : MG) : ev 194 108 [some (vR x), a1, a2, a3, a4, a5, a6, a7, a8] st μ G = ev 194 109 [some (vR x), a1, a2, a3, a4, a5, a6, a7, a8] (vR x :: st) μ G := ev_stp pg_194_108 rfl
theorem pg_194_109 : mm_prog 194 109 = some (0, .getfield 63, 112, [11, 29, 2]) := by decide +kernel
theorem xe_194_109 (a0 a1 a2 a3 a4 a5 a6 a7 a8 : Option MV) (x : Int) (st : List MV) (μ : MM) (G : MG) : ev 194 109 [a0, a1, a2, a3, a4, a5, a6, a7, a8] (vR x :: st) μ G = if gk G x = 11 then ev 194 112 [a0, a1, a2, a3, a4, a5, a6, a7, a8] (vR (μ x 29) :: st) μ G else none := ev_if pg_194_109 rfl
theorem pg_194_112 : mm_prog 194 112 = some (0, .bipush 7, 114, []) := by decide +kernel
theorem xe_194_112 (a0 a1 a2 a3 a4 a5 a6 a7 a8 : Option MV) (st : List MV) (μ : MM) (G : MG) : ev 194 112 [a0, a1, a2, a3, a4, a5, a6, a7, a8] st μ G = ev 194 114 [a0, a1, a2, a3, a4, a5, a6, a7, a8] (vI (7) :: st) μ G := ev_stp pg_194_112 rfl
theorem pg_194_114 : mm_prog 194 114 = some (0, .iload 6, 116, []) := by decide +kernel
theorem xe_194_114 (a0 a1 a2 a3 a4 a5 a7 a8 : Option MV) (x : Int) (st : List MV) (μ : MM) (G : MG) : ev 194 114 [a0, a1, a2, a3, a4, a5, some (vI x), a7, a8] st μ G = ev 194 116 [a0, a1, a2, a3, a4, a5, some (vI x), a7, a8] (vI x :: st) μ G := ev_stp pg_194_114 rfl
theorem pg_194_116 : mm_prog 194 116 = some (0, .ifCond .eq 16, 119, []) := by decide +kernel
theorem xe_194_116 (a0 a1 a2 a3 a4 a5 a6 a7 a8 : Option MV) (x : Int) (st : List MV) (μ : MM) (G : MG) : ev 194 116 [a0, a1, a2, a3, a4, a5, a6, a7, a8] (vI x :: st) μ G = if x = 0 then ev 194 132 [a0, a1, a2, a3, a4, a5, a6, a7, a8] st μ G else ev 194 119 [a0, a1, a2, a3, a4, a5, a6, a7, a8] st μ G := ev_br (mm_cnd_eq x 0) pg_194_116 rfl
theorem pg_194_119 : mm_prog 194 119 = some (0, .aload_n 0, 120, []) := by decide +kernel
theorem xe_194_119 (a1 a2 a3 a4 a5 a6 a7 a8 : Option MV) (x : Int) (st : List MV) (μ : MM) (G : MG) : ev 194 119 [some (vR x), a1, a2, a3, a4, a5, a6, a7, a8] st μ G = ev 194 120 [some (vR x), a1, a2, a3, a4, a5, a6, a7, a8] (vR x :: st) μ G := ev_stp pg_194_119 rfl
theorem pg_194_120 : mm_prog 194 120 = some (0, .getfield 63, 123, [11, 29, 2]) := by decide +kernel
theorem xe_194_120 (a0 a1 a2 a3 a4 a5 a6 a7 a8 : Option MV) (x : Int) (st : List MV) (μ : MM) (G : MG) : ev 194 120 [a0, a1, a2, a3, a4, a5, a6, a7, a8] (vR x :: st) μ G = if gk G x = 11 then ev 194 123 [a0, a1, a2, a3, a4, a5, a6, a7, a8] (vR (μ x 29) :: st) μ G else none := ev_if pg_194_120 rfl
theorem pg_194_123 : mm_prog 194 123 = some (0, .iconst 0, 124, []) := by decide +kernel
theorem xe_194_123 (a0 a1 a2 a3 a4 a5 a6 a7 a8 : Option MV) (st : List MV) (μ : MM) (G : MG) : ev 194 123 [a0, a1, a2, a3, a4, a5, a6, a7, a8] st μ G = ev 194 124 [a0, a1, a2, a3, a4, a5, a6, a7, a8] (vI (0) :: st) μ G := ev_stp pg_194_123 rfl
theorem pg_194_124 : mm_prog 194 124 = some (0, .iaload, 125, []) := by decide +kernel
theorem xe_194_124 (a0 a1 a2 a3 a4 a5 a6 a7 a8 : Option MV) (x y : Int) (st : List MV) (μ : MM) (G : MG) : ev 194 124 [a0, a1, a2, a3, a4, a5, a6, a7, a8] (vI x :: vR y :: st) μ G = if gk G y = 100 ∧ 0 ≤ x ∧ x < gl G y then ev 194 125 [a0, a1, a2, a3, a4, a5, a6, a7, a8] (vI (μ y x) :: st) μ G else none := ev_if pg_194_124 rfl
theorem pg_194_125 : mm_prog 194 125 = some (0, .iload_n 3, 126, []) := by decide +kernel
theorem xe_194_125 (a0 a1 a2 a4 a5 a6 a7 a8 : Option MV) (x : Int) (st : List MV) (μ : MM) (G : MG) : ev 194 125 [a0, a1, a2, some (vI x), a4, a5, a6, a7, a8] st μ G = ev 194 126 [a0, a1, a2, some (vI x), a4, a5, a6, a7, a8] (vI x :: st) μ G := ev_stp pg_194_125 rfl
theorem pg_194_126 : mm_prog 194 126 = some (1, .invokestatic 286, 129, [0, 193, 2, 0]) := by decide +kernel
theorem xe_194_126 (a0 a1 a2 a3 a4 a5 a6 a7 a8 : Option MV) (x0 x1 r0 r1 : Int) (μ : MM) (G : MG) : ev 194 126 [a0, a1, a2, a3, a4, a5, a6, a7, a8] (vI x1 :: vI x0 :: [vI r0, vR r1]) μ G = (ev 193 0 [some (vI x0), some (vI x1)] [] μ G).bind (fun q => ev 194 129 [a0, a1, a2, a3, a4, a5, a6, a7, a8] (q.1.toList ++ [vI r0, vR r1]) q.2.1 q.2.2) := ev_calS (as := [vI x0, vI x1]) (r := [vI r0, vR r1]) mx_193 pg_194_126 rfl rfl (Nat.le_of_ble_eq_true rfl) (Nat.le_of_ble_eq_true rfl)
theorem pg_194_129 : mm_prog 194 129 = some (0, .goto 5, 132, []) := by decide +kernel
theorem xe_194_129 (a0 a1 a2 a3 a4 a5 a6 a7 a8 : Option MV) (st : List MV) (μ : MM) (G : MG) : ev 194 129 [a0, a1, a2, a3, a4, a5, a6, a7, a8] st μ G = ev 194 134 [a0, a1, a2, a3, a4, a5, a6, a7, a8] st μ G := ev_stp pg_194_129 rfl
theorem pg_194_132 : mm_prog 194 132 = some (0, .bipush 8, 134, []) := by decide +kernel
theorem xe_194_132 (a0 a1 a2 a3 a4 a5 a6 a7 a8 : Option MV) (st : List MV) (μ : MM) (G : MG) : ev 194 132 [a0, a1, a2, a3, a4, a5, a6, a7, a8] st μ G = ev 194 134 [a0, a1, a2, a3, a4, a5, a6, a7, a8] (vI (8) :: st) μ G := ev_stp pg_194_132 rfl
theorem pg_194_134 : mm_prog 194 134 = some (0, .iastore, 135, []) := by decide +kernel
theorem xe_194_134 (a0 a1 a2 a3 a4 a5 a6 a7 a8 : Option MV) (x y z : Int) (st : List MV) (μ : MM) (G : MG) : ev 194 134 [a0, a1, a2, a3, a4, a5, a6, a7, a8] (vI x :: vI y :: vR z :: st) μ G = if gk G z = 100 ∧ 0 ≤ y ∧ y < gl G z ∧ 10 ≤ z then ev 194 135 [a0, a1, a2, a3, a4, a5, a6, a7, a8] st (mset μ z y x) G else none := ev_if pg_194_134 rfl
theorem pg_194_135 : mm_prog 194 135 = some (0, .aload_n 0, 136, []) := by decide +kernel
theorem xe_194_135 (a1 a2 a3 a4 a5 a6 a7 a8 : Option MV) (x : Int) (st : List MV) (μ : MM) (G : MG) : ev 194 135 [some (vR x), a1, a2, a3, a4, a5, a6, a7, a8] st μ G = ev 194 136 [some (vR x), a1, a2, a3, a4, a5, a6, a7, a8] (vR x :: st) μ G := ev_stp pg_194_135 rfl
theorem pg_194_136 : mm_prog 194 136 = some (0, .getfield 63, 139, [11, 29, 2]) := by decide +kernel
theorem xe_194_136 (a0 a1 a2 a3 a4 a5 a6 a7 a8 : Option MV) (x : Int) (st : List MV) (μ : MM) (G : MG) : ev 194 136 [a0, a1, a2, a3, a4, a5, a6, a7, a8] (vR x :: st) μ G = if gk G x = 11 then ev 194 139 [a0, a1, a2, a3, a4, a5, a6, a7, a8] (vR (μ x 29) :: st) μ G else none := ev_if pg_194_136 rfl
theorem pg_194_139 : mm_prog 194 139 = some (0, .iconst 5, 140, []) := by decide +kernel
theorem xe_194_139 (a0 a1 a2 a3 a4 a5 a6 a7 a8 : Option MV) (st : List MV) (μ : MM) (G : MG) : ev 194 139 [a0, a1, a2, a3, a4, a5, a6, a7, a8] st μ G = ev 194 140 [a0, a1, a2, a3, a4, a5, a6, a7, a8] (vI (5) :: st) μ G := ev_stp pg_194_139 rfl
theorem pg_194_140 : mm_prog 194 140 = some (0, .iload 5, 142, []) := by decide +kernel
theorem xe_194_140 (a0 a1 a2 a3 a4 a6 a7 a8 : Option MV) (x : Int) (st : List MV) (μ : MM) (G : MG) : ev 194 140 [a0, a1, a2, a3, a4, some (vI x), a6, a7, a8] st μ G = ev 194 142 [a0, a1, a2, a3, a4, some (vI x), a6, a7, a8] (vI x :: st) μ G := ev_stp pg_194_140 rfl
theorem pg_194_142 : mm_prog 194 142 = some (0, .iload 6, 144, []) := by decide +kernel
theorem xe_194_142 (a0 a1 a2 a3 a4 a5 a7 a8 : Option MV) (x : Int) (st : List MV) (μ : MM) (G : MG) : ev 194 142 [a0, a1, a2, a3, a4, a5, some (vI x), a7, a8] st μ G = ev 194 144 [a0, a1, a2, a3, a4, a5, some (vI x), a7, a8] (vI x :: st) μ G := ev_stp pg_194_142 rfl
theorem pg_194_144 : mm_prog 194 144 = some (0, .ifCond .eq 16, 147, []) := by decide +kernel
theorem xe_194_144 (a0 a1 a2 a3 a4 a5 a6 a7 a8 : Option MV) (x : Int) (st : List MV) (μ : MM) (G : MG) : ev 194 144 [a0, a1, a2, a3, a4, a5, a6, a7, a8] (vI x :: st) μ G = if x = 0 then ev 194 160 [a0, a1, a2, a3, a4, a5, a6, a7, a8] st μ G else ev 194 147 [a0, a1, a2, a3, a4, a5, a6, a7, a8] st μ G := ev_br (mm_cnd_eq x 0) pg_194_144 rfl
theorem pg_194_147 : mm_prog 194 147 = some (0, .aload_n 0, 148, []) := by decide +kernel
theorem xe_194_147 (a1 a2 a3 a4 a5 a6 a7 a8 : Option MV) (x : Int) (st : List MV) (μ : MM) (G : MG) : ev 194 147 [some (vR x), a1, a2, a3, a4, a5, a6, a7, a8] st μ G = ev 194 148 [some (vR x), a1, a2, a3, a4, a5, a6, a7, a8] (vR x :: st) μ G := ev_stp pg_194_147 rfl
theorem pg_194_148 : mm_prog 194 148 = some (0, .getfield 63, 151, [11, 29, 2]) := by decide +kernel
theorem xe_194_148 (a0 a1 a2 a3 a4 a5 a6 a7 a8 : Option MV) (x : Int) (st : List MV) (μ : MM) (G : MG) : ev 194 148 [a0, a1, a2, a3, a4, a5, a6, a7, a8] (vR x :: st) μ G = if gk G x = 11 then ev 194 151 [a0, a1, a2, a3, a4, a5, a6, a7, a8] (vR (μ x 29) :: st) μ G else none := ev_if pg_194_148 rfl
theorem pg_194_151 : mm_prog 194 151 = some (0, .bipush 7, 153, []) := by decide +kernel
theorem xe_194_151 (a0 a1 a2 a3 a4 a5 a6 a7 a8 : Option MV) (st : List MV) (μ : MM) (G : MG) : ev 194 151 [a0, a1, a2, a3, a4, a5, a6, a7, a8] st μ G = ev 194 153 [a0, a1, a2, a3, a4, a5, a6, a7, a8] (vI (7) :: st) μ G := ev_stp pg_194_151 rfl
theorem pg_194_153 : mm_prog 194 153 = some (0, .iaload, 154, []) := by decide +kernel
theorem xe_194_153 (a0 a1 a2 a3 a4 a5 a6 a7 a8 : Option MV) (x y : Int) (st : List MV) (μ : MM) (G : MG) : ev 194 153 [a0, a1, a2, a3, a4, a5, a6, a7, a8] (vI x :: vR y :: st) μ G = if gk G y = 100 ∧ 0 ≤ x ∧ x < gl G y then ev 194 154 [a0, a1, a2, a3, a4, a5, a6, a7, a8] (vI (μ y x) :: st) μ G else none := ev_if pg_194_153 rfl
theorem pg_194_154 : mm_prog 194 154 = some (0, .bipush 9, 156, []) := by decide +kernel
theorem xe_194_154 (a0 a1 a2 a3 a4 a5 a6 a7 a8 : Option MV) (st : List MV) (μ : MM) (G : MG) : ev 194 154 [a0, a1, a2, a3, a4, a5, a6, a7, a8] st μ G = ev 194 156 [a0, a1, a2, a3, a4, a5, a6, a7, a8] (vI (9) :: st) μ G := ev_stp pg_194_154 rfl
theorem pg_194_156 : mm_prog 194 156 = some (0, .iadd, 157, []) := by decide +kernel
theorem xe_194_156 (a0 a1 a2 a3 a4 a5 a6 a7 a8 : Option MV) (x y : Int) (st : List MV) (μ : MM) (G : MG) : ev 194 156 [a0, a1, a2, a3, a4, a5, a6, a7, a8] (vI y :: vI x :: st) μ G = ev 194 157 [a0, a1, a2, a3, a4, a5, a6, a7, a8] (vI (w32 (x + y)) :: st) μ G := ev_stp pg_194_156 rfl
theorem pg_194_157 : mm_prog 194 157 = some (0, .goto 5, 160, []) := by decide +kernel
theorem xe_194_157 (a0 a1 a2 a3 a4 a5 a6 a7 a8 : Option MV) (st : List MV) (μ : MM) (G : MG) : ev 194 157 [a0, a1, a2, a3, a4, a5, a6, a7, a8] st μ G = ev 194 162 [a0, a1, a2, a3, a4, a5, a6, a7, a8] st μ G := ev_stp pg_194_157 rfl
theorem pg_194_160 : mm_prog 194 160 = some (0, .bipush 15, 162, []) := by decide +kernel
theorem xe_194_160 (a0 a1 a2 a3 a4 a5 a6 a7 a8 : Option MV) (st : List MV) (μ : MM) (G : MG) : ev 194 160 [a0, a1, a2, a3, a4, a5, a6, a7, a8] st μ G = ev 194 162 [a0, a1, a2, a3, a4, a5, a6, a7, a8] (vI (15) :: st) μ G := ev_stp pg_194_160 rfl
theorem pg_194_162 : mm_prog 194 162 = some (1, .invokestatic 289, 165, [0, 150, 2, 0]) := by decide +kernel
theorem xe_194_162 (a0 a1 a2 a3 a4 a5 a6 a7 a8 : Option MV) (x0 x1 r0 r1 : Int) (μ : MM) (G : MG) : ev 194 162 [a0, a1, a2, a3, a4, a5, a6, a7, a8] (vI x1 :: vI x0 :: [vI r0, vR r1]) μ G = (ev 150 0 [some (vI x0), some (vI x1)] [] μ G).bind (fun q => ev 194 165 [a0, a1, a2, a3, a4, a5, a6, a7, a8] (q.1.toList ++ [vI r0, vR r1]) q.2.1 q.2.2) := ev_calS (as := [vI x0, vI x1]) (r := [vI r0, vR r1]) mx_150 pg_194_162 rfl rfl (Nat.le_of_ble_eq_true rfl) (Nat.le_of_ble_eq_true rfl)
theorem pg_194_165 : mm_prog 194 165 = some (0, .iastore, 166, []) := by decide +kernel
theorem xe_194_165 (a0 a1 a2 a3 a4 a5 a6 a7 a8 : Option MV) (x y z : Int) (st : List MV) (μ : MM) (G : MG) : ev 194 165 [a0, a1, a2, a3, a4, a5, a6, a7, a8] (vI x :: vI y :: vR z :: st) μ G = if gk G z = 100 ∧ 0 ≤ y ∧ y < gl G z ∧ 10 ≤ z then ev 194 166 [a0, a1, a2, a3, a4, a5, a6, a7, a8] st (mset μ z y x) G else none := ev_if pg_194_165 rfl
theorem pg_194_166 : mm_prog 194 166 = some (0, .aload_n 0, 167, []) := by decide +kernel
theorem xe_194_166 (a1 a2 a3 a4 a5 a6 a7 a8 : Option MV) (x : Int) (st : List MV) (μ : MM) (G : MG) : ev 194 166 [some (vR x), a1, a2, a3, a4, a5, a6, a7, a8] st μ G = ev 194 167 [some (vR x), a1, a2, a3, a4, a5, a6, a7, a8] (vR x :: st) μ G := ev_stp pg_194_166 rfl
theorem pg_194_167 : mm_prog 194 167 = some (0, .getfield 63, 170, [11, 29, 2]) := by decide +kernel
theorem xe_194_167 (a0 a1 a2 a3 a4 a5 a6 a7 a8 : Option MV) (x : Int) (st : List MV) (μ : MM) (G : MG) : ev 194 167 [a0, a1, a2, a3, a4, a5, a6, a7, a8] (vR x :: st) μ G = if gk G x = 11 then ev 194 170 [a0, a1, a2, a3, a4, a5, a6, a7, a8] (vR (μ x 29) :: st) μ G else none := ev_if pg_194_167 rfl
theorem pg_194_170 : mm_prog 194 170 = some (0, .bipush 6, 172, []) := by decide +kernel
theorem xe_194_170 (a0 a1 a2 a3 a4 a5 a6 a7 a8 : Option MV) (st : List MV) (μ : MM) (G : MG) : ev 194 170 [a0, a1, a2, a3, a4, a5, a6, a7, a8] st μ G = ev 194 172 [a0, a1, a2, a3, a4, a5, a6, a7, a8] (vI (6) :: st) μ G := ev_stp pg_194_170 rfl
theorem pg_194_172 : mm_prog 194 172 = some (0, .iload 6, 174, []) := by decide +kernel
theorem xe_194_172 (a0 a1 a2 a3 a4 a5 a7 a8 : Option MV) (x : Int) (st : List MV) (μ : MM) (G : MG) : ev 194 172 [a0, a1, a2, a3, a4, a5, some (vI x), a7, a8] st μ G = ev 194 174 [a0, a1, a2, a3, a4, a5, some (vI x), a7, a8] (vI x :: st) μ G := ev_stp pg_194_172 rfl
theorem pg_194_174 : mm_prog 194 174 = some (0, .ifCond .eq 7, 177, []) := by decide +kernel
theorem xe_194_174 (a0 a1 a2 a3 a4 a5 a6 a7 a8 : Option MV) (x : Int) (st : List MV) (μ : MM) (G : MG) : ev 194 174 [a0, a1, a2, a3, a4, a5, a6, a7, a8] (vI x :: st) μ G = if x = 0 then ev 194 181 [a0, a1, a2, a3, a4, a5, a6, a7, a8] st μ G else ev 194 177 [a0, a1, a2, a3, a4, a5, a6, a7, a8] st μ G := ev_br (mm_cnd_eq x 0) pg_194_174 rfl
theorem pg_194_177 : mm_prog 194 177 = some (0, .iconst 3, 178, []) := by decide +kernel
theorem xe_194_177 (a0 a1 a2 a3 a4 a5 a6 a7 a8 : Option MV) (st : List MV) (μ : MM) (G : MG) : ev 194 177 [a0, a1, a2, a3, a4, a5, a6, a7, a8] st μ G = ev 194 178 [a0, a1, a2, a3, a4, a5, a6, a7, a8] (vI (3) :: st) μ G := ev_stp pg_194_177 rfl
theorem pg_194_178 : mm_prog 194 178 = some (0, .goto 12, 181, []) := by decide +kernel
theorem xe_194_178 (a0 a1 a2 a3 a4 a5 a6 a7 a8 : Option MV) (st : List MV) (μ : MM) (G : MG) : ev 194 178 [a0, a1, a2, a3, a4, a5, a6, a7, a8] st μ G = ev 194 190 [a0, a1, a2, a3, a4, a5, a6, a7, a8] st μ G := ev_stp pg_194_178 rfl
theorem pg_194_181 : mm_prog 194 181 = some (0, .aload_n 0, 182, []) := by decide +kernel
theorem xe_194_181 (a1 a2 a3 a4 a5 a6 a7 a8 : Option MV) (x : Int) (st : List MV) (μ : MM) (G : MG) : ev 194 181 [some (vR x), a1, a2, a3, a4, a5, a6, a7, a8] st μ G = ev 194 182 [some (vR x), a1, a2, a3, a4, a5, a6, a7, a8] (vR x :: st) μ G := ev_stp pg_194_181 rfl
theorem pg_194_182 : mm_prog 194 182 = some (0, .getfield 63, 185, [11, 29, 2]) := by decide +kernel
theorem xe_194_182 (a0 a1 a2 a3 a4 a5 a6 a7 a8 : Option MV) (x : Int) (st : List MV) (μ : MM) (G : MG) : ev 194 182 [a0, a1, a2, a3, a4, a5, a6, a7, a8] (vR x :: st) μ G = if gk G x = 11 then ev 194 185 [a0, a1, a2, a3, a4, a5, a6, a7, a8] (vR (μ x 29) :: st) μ G else none := ev_if pg_194_182 rfl
theorem pg_194_185 : mm_prog 194 185 = some (0, .iconst 5, 186, []) := by decide +kernel
theorem xe_194_185 (a0 a1 a2 a3 a4 a5 a6 a7 a8 : Option MV) (st : List MV) (μ : MM) (G : MG) : ev 194 185 [a0, a1, a2, a3, a4, a5, a6, a7, a8] st μ G = ev 194 186 [a0, a1, a2, a3, a4, a5, a6, a7, a8] (vI (5) :: st) μ G := ev_stp pg_194_185 rfl
theorem pg_194_186 : mm_prog 194 186 = some (0, .iaload, 187, []) := by decide +kernel
theorem xe_194_186 (a0 a1 a2 a3 a4 a5 a6 a7 a8 : Option MV) (x y : Int) (st : List MV) (μ : MM) (G : MG) : ev 194 186 [a0, a1, a2, a3, a4, a5, a6, a7, a8] (vI x :: vR y :: st) μ G = if gk G y = 100 ∧ 0 ≤ x ∧ x < gl G y then ev 194 187 [a0, a1, a2, a3, a4, a5, a6, a7, a8] (vI (μ y x) :: st) μ G else none := ev_if pg_194_186 rfl
theorem pg_194_187 : mm_prog 194 187 = some (0, .bipush 14, 189, []) := by decide +kernel
theorem xe_194_187 (a0 a1 a2 a3 a4 a5 a6 a7 a8 : Option MV) (st : List MV) (μ : MM) (G : MG) : ev 194 187 [a0, a1, a2, a3, a4, a5, a6, a7, a8] st μ G = ev 194 189 [a0, a1, a2, a3, a4, a5, a6, a7, a8] (vI (14) :: st) μ G := ev_stp pg_194_187 rfl
theorem pg_194_189 : mm_prog 194 189 = some (0, .isub, 190, []) := by decide +kernel
theorem xe_194_189 (a0 a1 a2 a3 a4 a5 a6 a7 a8 : Option MV) (x y : Int) (st : List MV) (μ : MM) (G : MG) : ev 194 189 [a0, a1, a2, a3, a4, a5, a6, a7, a8] (vI y :: vI x :: st) μ G = ev 194 190 [a0, a1, a2, a3, a4, a5, a6, a7, a8] (vI (w32 (x - y)) :: st) μ G := ev_stp pg_194_189 rfl
theorem pg_194_190 : mm_prog 194 190 = some (0, .iastore, 191, []) := by decide +kernel
theorem xe_194_190 (a0 a1 a2 a3 a4 a5 a6 a7 a8 : Option MV) (x y z : Int) (st : List MV) (μ : MM) (G : MG) : ev 194 190 [a0, a1, a2, a3, a4, a5, a6, a7, a8] (vI x :: vI y :: vR z :: st) μ G = if gk G z = 100 ∧ 0 ≤ y ∧ y < gl G z ∧ 10 ≤ z then ev 194 191 [a0, a1, a2, a3, a4, a5, a6, a7, a8] st (mset μ z y x) G else none := ev_if pg_194_190 rfl
theorem pg_194_191 : mm_prog 194 191 = some (0, .iload 4, 193, []) := by decide +kernel
theorem xe_194_191 (a0 a1 a2 a3 a5 a6 a7 a8 : Option MV) (x : Int) (st : List MV) (μ : MM) (G : MG) : ev 194 191 [a0, a1, a2, a3, some (vI x), a5, a6, a7, a8] st μ G = ev 194 193 [a0, a1, a2, a3, some (vI x), a5, a6, a7, a8] (vI x :: st) μ G := ev_stp pg_194_191 rfl
theorem pg_194_193 : mm_prog 194 193 = some (0, .i2l, 194, []) := by decide +kernel
theorem xe_194_193 (a0 a1 a2 a3 a4 a5 a6 a7 a8 : Option MV) (x : Int) (st : List MV) (μ : MM) (G : MG) : ev 194 193 [a0, a1, a2, a3, a4, a5, a6, a7, a8] (vI x :: st) μ G = ev 194 194 [a0, a1, a2, a3, a4, a5, a6, a7, a8] (vL x :: st) μ G := ev_stp pg_194_193 rfl
theorem pg_194_194 : mm_prog 194 194 = some (0, .aload_n 0, 195, []) := by decide +kernel
theorem xe_194_194 (a1 a2 a3 a4 a5 a6 a7 a8 : Option MV) (x : Int) (st : List MV) (μ : MM) (G : MG) : ev 194 194 [some (vR x), a1, a2, a3, a4, a5, a6, a7, a8] st μ G = ev 194 195 [some (vR x), a1, a2, a3, a4, a5, a6, a7, a8] (vR x :: st) μ G := ev_stp pg_194_194 rfl
theorem pg_194_195 : mm_prog 194 195 = some (0, .getfield 63, 198, [11, 29, 2]) := by decide +kernel
theorem xe_194_195 (a0 a1 a2 a3 a4 a5 a6 a7 a8 : Option MV) (x : Int) (st : List MV) (μ : MM) (G : MG) : ev 194 195 [a0, a1, a2, a3, a4, a5, a6, a7, a8] (vR x :: st) μ G = if gk G x = 11 then ev 194 198 [a0, a1, a2, a3, a4, a5, a6, a7, a8] (vR (μ x 29) :: st) μ G else none := ev_if pg_194_195 rfl
theorem pg_194_198 : mm_prog 194 198 = some (0, .iconst 0, 199, []) := by decide +kernel
theorem xe_194_198 (a0 a1 a2 a3 a4 a5 a6 a7 a8 : Option MV) (st : List MV) (μ : MM) (G : MG) : ev 194 198 [a0, a1, a2, a3, a4, a5, a6, a7, a8] st μ G = ev 194 199 [a0, a1, a2, a3, a4, a5, a6, a7, a8] (vI (0) :: st) μ G := ev_stp pg_194_198 rfl
theorem pg_194_199 : mm_prog 194 199 = some (0, .iaload, 200, []) := by decide +kernel
theorem xe_194_199 (a0 a1 a2 a3 a4 a5 a6 a7 a8 : Option MV) (x y : Int) (st : List MV) (μ : MM) (G : MG) : ev 194 199 [a0, a1, a2, a3, a4, a5, a6, a7, a8] (vI x :: vR y :: st) μ G = if gk G y = 100 ∧ 0 ≤ x ∧ x < gl G y then ev 194 200 [a0, a1, a2, a3, a4, a5, a6, a7, a8] (vI (μ y x) :: st) μ G else none := ev_if pg_194_199 rfl
theorem pg_194_200 : mm_prog 194 200 = some (0, .aload_n 0, 201, []) := by decide +kernel
theorem xe_194_200 (a1 a2 a3 a4 a5 a6 a7 a8 : Option MV) (x : Int) (st : List MV) (μ : MM) (G : MG) : ev 194 200 [some (vR x), a1, a2, a3, a4, a5, a6, a7, a8] st μ G = ev 194 201 [some (vR x), a1, a2, a3, a4, a5, a6, a7, a8] (vR x :: st) μ G := ev_stp pg_194_200 rfl
theorem pg_194_201 : mm_prog 194 201 = some (0, .getfield 63, 204, [11, 29, 2]) := by decide +kernel
theorem xe_194_201 (a0 a1 a2 a3 a4 a5 a6 a7 a8 : Option MV) (x : Int) (st : List MV) (μ : MM) (G : MG) : ev 194 201 [a0, a1, a2, a3, a4, a5, a6, a7, a8] (vR x :: st) μ G = if gk G x = 11 then ev 194 204 [a0, a1, a2, a3, a4, a5, a6, a7, a8] (vR (μ x 29) :: st) μ G else none := ev_if pg_194_201 rfl
theorem pg_194_204 : mm_prog 194 204 = some (0, .iconst 1, 205, []) := by decide +kernel
theorem xe_194_204 (a0 a1 a2 a3 a4 a5 a6 a7 a8 : Option MV) (st : List MV) (μ : MM) (G : MG) : ev 194 204 [a0, a1, a2, a3, a4, a5, a6, a7, a8] st μ G = ev 194 205 [a0, a1, a2, a3, a4, a5, a6, a7, a8] (vI (1) :: st) μ G := ev_stp pg_194_204 rfl
theorem pg_194_205 : mm_prog 194 205 = some (0, .iaload, 206, []) := by decide +kernel
theorem xe_194_205 (a0 a1 a2 a3 a4 a5 a6 a7 a8 : Option MV) (x y : Int) (st : List MV) (μ : MM) (G : MG) : ev 194 205 [a0, a1, a2, a3, a4, a5, a6, a7, a8] (vI x :: vR y :: st) μ G = if gk G y = 100 ∧ 0 ≤ x ∧ x < gl G y then ev 194 206 [a0, a1, a2, a3, a4, a5, a6, a7, a8] (vI (μ y x) :: st) μ G else none := ev_if pg_194_205 rfl
theorem pg_194_206 : mm_prog 194 206 = some (0, .iadd, 207, []) := by decide +kernel
theorem xe_194_206 (a0 a1 a2 a3 a4 a5 a6 a7 a8 : Option MV) (x y : Int) (st : List MV) (μ : MM) (G : MG) : ev 194 206 [a0, a1, a2, a3, a4, a5, a6, a7, a8] (vI y :: vI x :: st) μ G = ev 194 207 [a0, a1, a2, a3, a4, a5, a6, a7, a8] (vI (w32 (x + y)) :: st) μ G := ev_stp pg_194_206 rfl
theorem pg_194_207 : mm_prog 194 207 = some (0, .i2l, 208, []) := by decide +kernel
theorem xe_194_207 (a0 a1 a2 a3 a4 a5 a6 a7 a8 : Option MV) (x : Int) (st : List MV) (μ : MM) (G : MG) : ev 194 207 [a0, a1, a2, a3, a4, a5, a6, a7, a8] (vI x :: st) μ G = ev 194 208 [a0, a1, a2, a3, a4, a5, a6, a7, a8] (vL x :: st) μ G := ev_stp pg_194_207 rfl
theorem pg_194_208 : mm_prog 194 208 = some (0, .lmul, 209, []) := by decide +kernel
theorem xe_194_208 (a0 a1 a2 a3 a4 a5 a6 a7 a8 : Option MV) (x y : Int) (st : List MV) (μ : MM) (G : MG) : ev 194 208 [a0, a1, a2, a3, a4, a5, a6, a7, a8] (vL y :: vL x :: st) μ G = ev 194 209 [a0, a1, a2, a3, a4, a5, a6, a7, a8] (vL (w64 (x * y)) :: st) μ G := ev_stp pg_194_208 rfl
theorem pg_194_209 : mm_prog 194 209 = some (0, .aload_n 0, 210, []) := by decide +kernel
theorem xe_194_209 (a1 a2 a3 a4 a5 a6 a7 a8 : Option MV) (x : Int) (st : List MV) (μ : MM) (G : MG) : ev 194 209 [some (vR x), a1, a2, a3, a4, a5, a6, a7, a8] st μ G = ev 194 210 [some (vR x), a1, a2, a3, a4, a5, a6, a7, a8] (vR x :: st) μ G := ev_stp pg_194_209 rfl
theorem pg_194_210 : mm_prog 194 210 = some (0, .getfield 63, 213, [11, 29, 2]) := by decide +kernel
theorem xe_194_210 (a0 a1 a2 a3 a4 a5 a6 a7 a8 : Option MV) (x : Int) (st : List MV) (μ : MM) (G : MG) : ev 194 210 [a0, a1, a2, a3, a4, a5, a6, a7, a8] (vR x :: st) μ G = if gk G x = 11 then ev 194 213 [a0, a1, a2, a3, a4, a5, a6, a7, a8] (vR (μ x 29) :: st) μ G else none := ev_if pg_194_210 rfl
theorem pg_194_213 : mm_prog 194 213 = some (0, .iconst 4, 214, []) := by decide +kernel
theorem xe_194_213 (a0 a1 a2 a3 a4 a5 a6 a7 a8 : Option MV) (st : List MV) (μ : MM) (G : MG) : ev 194 213 [a0, a1, a2, a3, a4, a5, a6, a7, a8] st μ G = ev 194 214 [a0, a1, a2, a3, a4, a5, a6, a7, a8] (vI (4) :: st) μ G := ev_stp pg_194_213 rfl
theorem pg_194_214 : mm_prog 194 214 = some (0, .iaload, 215, []) := by decide +kernel
theorem xe_194_214 (a0 a1 a2 a3 a4 a5 a6 a7 a8 : Option MV) (x y : Int) (st : List MV) (μ : MM) (G : MG) : ev 194 214 [a0, a1, a2, a3, a4, a5, a6, a7, a8] (vI x :: vR y :: st) μ G = if gk G y = 100 ∧ 0 ≤ x ∧ x < gl G y then ev 194 215 [a0, a1, a2, a3, a4, a5, a6, a7, a8] (vI (μ y x) :: st) μ G else none := ev_if pg_194_214 rfl
theorem pg_194_215 : mm_prog 194 215 = some (0, .aload_n 0, 216, []) := by decide +kernel
theorem xe_194_215 (a1 a2 a3 a4 a5 a6 a7 a8 : Option MV) (x : Int) (st : List MV) (μ : MM) (G : MG) : ev 194 215 [some (vR x), a1, a2, a3, a4, a5, a6, a7, a8] st μ G = ev 194 216 [some (vR x), a1, a2, a3, a4, a5, a6, a7, a8] (vR x :: st) μ G := ev_stp pg_194_215 rfl
theorem pg_194_216 : mm_prog 194 216 = some (0, .getfield 63, 219, [11, 29, 2]) := by decide +kernel
theorem xe_194_216 (a0 a1 a2 a3 a4 a5 a6 a7 a8 : Option MV) (x : Int) (st : List MV) (μ : MM) (G : MG) : ev 194 216 [a0, a1, a2, a3, a4, a5, a6, a7, a8] (vR x :: st) μ G = if gk G x = 11 then ev 194 219 [a0, a1, a2, a3, a4, a5, a6, a7, a8] (vR (μ x 29) :: st) μ G else none := ev_if pg_194_216 rfl
theorem pg_194_219 : mm_prog 194 219 = some (0, .iconst 5, 220, []) := by decide +kernel
theorem xe_194_219 (a0 a1 a2 a3 a4 a5 a6 a7 a8 : Option MV) (st : List MV) (μ : MM) (G : MG) : ev 194 219 [a0, a1, a2, a3, a4, a5, a6, a7, a8] st μ G = ev 194 220 [a0, a1, a2, a3, a4, a5, a6, a7, a8] (vI (5) :: st) μ G := ev_stp pg_194_219 rfl
theorem pg_194_220 : mm_prog 194 220 = some (0, .iaload, 221, []) := by decide +kernel
theorem xe_194_220 (a0 a1 a2 a3 a4 a5 a6 a7 a8 : Option MV) (x y : Int) (st : List MV) (μ : MM) (G : MG) : ev 194 220 [a0, a1, a2, a3, a4, a5, a6, a7, a8] (vI x :: vR y :: st) μ G = if gk G y = 100 ∧ 0 ≤ x ∧ x < gl G y then ev 194 221 [a0, a1, a2, a3, a4, a5, a6, a7, a8] (vI (μ y x) :: st) μ G else none := ev_if pg_194_220 rfl
theorem pg_194_221 : mm_prog 194 221 = some (0, .iadd, 222, []) := by decide +kernel
theorem xe_194_221 (a0 a1 a2 a3 a4 a5 a6 a7 a8 : Option MV) (x y : Int) (st : List MV) (μ : MM) (G : MG) : ev 194 221 [a0, a1, a2, a3, a4, a5, a6, a7, a8] (vI y :: vI x :: st) μ G = ev 194 222 [a0, a1, a2, a3, a4, a5, a6, a7, a8] (vI (w32 (x + y)) :: st) μ G := ev_stp pg_194_221 rfl
theorem pg_194_222 : mm_prog 194 222 = some (0, .i2l, 223, []) := by decide +kernel
theorem xe_194_222 (a0 a1 a2 a3 a4 a5 a6 a7 a8 : Option MV) (x : Int) (st : List MV) (μ : MM) (G : MG) : ev 194 222 [a0, a1, a2, a3, a4, a5, a6, a7, a8] (vI x :: st) μ G = ev 194 223 [a0, a1, a2, a3, a4, a5, a6, a7, a8] (vL x :: st) μ G := ev_stp pg_194_222 rfl
theorem pg_194_223 : mm_prog 194 223 = some (0, .lmul, 224, []) := by decide +kernel
theorem xe_194_223 (a0 a1 a2 a3 a4 a5 a6 a7 a8 : Option MV) (x y : Int) (st : List MV) (μ : MM) (G : MG) : ev 194 223 [a0, a1, a2, a3, a4, a5, a6, a7, a8] (vL y :: vL x :: st) μ G = ev 194 224 [a0, a1, a2, a3, a4, a5, a6, a7, a8] (vL (w64 (x * y)) :: st) μ G := ev_stp pg_194_223 rfl
theorem pg_194_224 : mm_prog 194 224 = some (0, .lstore 7, 226, []) := by decide +kernel
theorem xe_194_224 (a0 a1 a2 a3 a4 a5 a6 a7 a8 : Option MV) (x : Int) (st : List MV) (μ : MM) (G : MG) (h : mm_nL a6 = true) : ev 194 224 [a0, a1, a2, a3, a4, a5, a6, a7, a8] (vL x :: st) μ G = ev 194 226 [a0, a1, a2, a3, a4, a5, a6, some (vL x), none] st μ G := ev_st pg_194_224 rfl (mm_nl_of h) (Nat.le_of_ble_eq_true rfl)
theorem pg_194_226 : mm_prog 194 226 = some (0, .aload_n 0, 227, []) := by decide +kernel
theorem xe_194_226 (a1 a2 a3 a4 a5 a6 a7 a8 : Option MV) (x : Int) (st : List MV) (μ : MM) (G : MG) : ev 194 226 [some (vR x), a1, a2, a3, a4, a5, a6, a7, a8] st μ G = ev 194 227 [some (vR x), a1, a2, a3, a4, a5, a6, a7, a8] (vR x :: st) μ G := ev_stp pg_194_226 rfl
theorem pg_194_227 : mm_prog 194 227 = some (0, .getfield 63, 230, [11, 29, 2]) := by decide +kernel
theorem xe_194_227 (a0 a1 a2 a3 a4 a5 a6 a7 a8 : Option MV) (x : Int) (st : List MV) (μ : MM) (G : MG) : ev 194 227 [a0, a1, a2, a3, a4, a5, a6, a7, a8] (vR x :: st) μ G = if gk G x = 11 then ev 194 230 [a0, a1, a2, a3, a4, a5, a6, a7, a8] (vR (μ x 29) :: st) μ G else none := ev_if pg_194_227 rfl
theorem pg_194_230 : mm_prog 194 230 = some (0, .bipush 8, 232, []) := by decide +kernel
theorem xe_194_230 (a0 a1 a2 a3 a4 a5 a6 a7 a8 : Option MV) (st : List MV) (μ : MM) (G : MG) : ev 194 230 [a0, a1, a2, a3, a4, a5, a6, a7, a8] st μ G = ev 194 232 [a0, a1, a2, a3, a4, a5, a6, a7, a8] (vI (8) :: st) μ G := ev_stp pg_194_230 rfl
theorem pg_194_232 : mm_prog 194 232 = some (0, .iload 6, 234, []) := by decide +kernel
theorem xe_194_232 (a0 a1 a2 a3 a4 a5 a7 a8 : Option MV) (x : Int) (st : List MV) (μ : MM) (G : MG) : ev 194 232 [a0, a1, a2, a3, a4, a5, some (vI x), a7, a8] st μ G = ev 194 234 [a0, a1, a2, a3, a4, a5, some (vI x), a7, a8] (vI x :: st) μ G := ev_stp pg_194_232 rfl
theorem pg_194_234 : mm_prog 194 234 = some (0, .ifCond .eq 17, 237, []) := by decide +kernel
theorem xe_194_234 (a0 a1 a2 a3 a4 a5 a6 a7 a8 : Option MV) (x : Int) (st : List MV) (μ : MM) (G : MG) : ev 194 234 [a0, a1, a2, a3, a4, a5, a6, a7, a8] (vI x :: st) μ G = if x = 0 then ev 194 251 [a0, a1, a2, a3, a4, a5, a6, a7, a8] st μ G else ev 194 237 [a0, a1, a2, a3, a4, a5, a6, a7, a8] st μ G := ev_br (mm_cnd_eq x 0) pg_194_234 rfl
theorem pg_194_237 : mm_prog 194 237 = some (0, .lload 7, 239, []) := by decide +kernel
theorem xe_194_237 (a0 a1 a2 a3 a4 a5 a6 a8 : Option MV) (x : Int) (st : List MV) (μ : MM) (G : MG) : ev 194 237 [a0, a1, a2, a3, a4, a5, a6, some (vL x), a8] st μ G = ev 194 239 [a0, a1, a2, a3, a4, a5, a6, some (vL x), a8] (vL x :: st) μ G := ev_stp pg_194_237 rfl
theorem pg_194_239 : mm_prog 194 239 = some (0, .ldc2_w 292, 242, [250000]) := by decide +kernel
theorem xe_194_239 (a0 a1 a2 a3 a4 a5 a6 a7 a8 : Option MV) (st : List MV) (μ : MM) (G : MG) : ev 194 239 [a0, a1, a2, a3, a4, a5, a6, a7, a8] st μ G = ev 194 242 [a0, a1, a2, a3, a4, a5, a6, a7, a8] (vL (250000) :: st) μ G := ev_stp pg_194_239 rfl
theorem pg_194_242 : mm_prog 194 242 = some (0, .ldiv, 243, []) := by decide +kernel
theorem xe_194_242 (a0 a1 a2 a3 a4 a5 a6 a7 a8 : Option MV) (x y : Int) (st : List MV) (μ : MM) (G : MG) : ev 194 242 [a0, a1, a2, a3, a4, a5, a6, a7, a8] (vL y :: vL x :: st) μ G = if y = 0 then none else ev 194 243 [a0, a1, a2, a3, a4, a5, a6, a7, a8] (vL (mm_ldiv x y) :: st) μ G := ev_no pg_194_242 rfl
theorem pg_194_243 : mm_prog 194 243 = some (0, .l2i, 244, []) := by decide +kernel
theorem xe_194_243 (a0 a1 a2 a3 a4 a5 a6 a7 a8 : Option MV) (x : Int) (st : List MV) (μ : MM) (G : MG) : ev 194 243 [a0, a1, a2, a3, a4, a5, a6, a7, a8] (vL x :: st) μ G = ev 194 244 [a0, a1, a2, a3, a4, a5, a6, a7, a8] (vI (w32 x) :: st) μ G := ev_stp pg_194_243 rfl
theorem pg_194_244 : mm_prog 194 244 = some (0, .sipush 250, 247, []) := by decide +kernel
theorem xe_194_244 (a0 a1 a2 a3 a4 a5 a6 a7 a8 : Option MV) (st : List MV) (μ : MM) (G : MG) : ev 194 244 [a0, a1, a2, a3, a4, a5, a6, a7, a8] st μ G = ev 194 247 [a0, a1, a2, a3, a4, a5, a6, a7, a8] (vI (250) :: st) μ G := ev_stp pg_194_244 rfl
theorem pg_194_247 : mm_prog 194 247 = some (0, .imul, 248, []) := by decide +kernel
theorem xe_194_247 (a0 a1 a2 a3 a4 a5 a6 a7 a8 : Option MV) (x y : Int) (st : List MV) (μ : MM) (G : MG) : ev 194 247 [a0, a1, a2, a3, a4, a5, a6, a7, a8] (vI y :: vI x :: st) μ G = ev 194 248 [a0, a1, a2, a3, a4, a5, a6, a7, a8] (vI (w32 (x * y)) :: st) μ G := ev_stp pg_194_247 rfl
theorem pg_194_248 : mm_prog 194 248 = some (0, .goto 10, 251, []) := by decide +kernel
theorem xe_194_248 (a0 a1 a2 a3 a4 a5 a6 a7 a8 : Option MV) (st : List MV) (μ : MM) (G : MG) : ev 194 248 [a0, a1, a2, a3, a4, a5, a6, a7, a8] st μ G = ev 194 258 [a0, a1, a2, a3, a4, a5, a6, a7, a8] st μ G := ev_stp pg_194_248 rfl
theorem pg_194_251 : mm_prog 194 251 = some (0, .lload 7, 253, []) := by decide +kernel
theorem xe_194_251 (a0 a1 a2 a3 a4 a5 a6 a8 : Option MV) (x : Int) (st : List MV) (μ : MM) (G : MG) : ev 194 251 [a0, a1, a2, a3, a4, a5, a6, some (vL x), a8] st μ G = ev 194 253 [a0, a1, a2, a3, a4, a5, a6, some (vL x), a8] (vL x :: st) μ G := ev_stp pg_194_251 rfl
theorem pg_194_253 : mm_prog 194 253 = some (0, .ldc2_w 294, 256, [1000]) := by decide +kernel
theorem xe_194_253 (a0 a1 a2 a3 a4 a5 a6 a7 a8 : Option MV) (st : List MV) (μ : MM) (G : MG) : ev 194 253 [a0, a1, a2, a3, a4, a5, a6, a7, a8] st μ G = ev 194 256 [a0, a1, a2, a3, a4, a5, a6, a7, a8] (vL (1000) :: st) μ G := ev_stp pg_194_253 rfl
theorem pg_194_256 : mm_prog 194 256 = some (0, .ldiv, 257, []) := by decide +kernel
theorem xe_194_256 (a0 a1 a2 a3 a4 a5 a6 a7 a8 : Option MV) (x y : Int) (st : List MV) (μ : MM) (G : MG) : ev 194 256 [a0, a1, a2, a3, a4, a5, a6, a7, a8] (vL y :: vL x :: st) μ G = if y = 0 then none else ev 194 257 [a0, a1, a2, a3, a4, a5, a6, a7, a8] (vL (mm_ldiv x y) :: st) μ G := ev_no pg_194_256 rfl
theorem pg_194_257 : mm_prog 194 257 = some (0, .l2i, 258, []) := by decide +kernel
theorem xe_194_257 (a0 a1 a2 a3 a4 a5 a6 a7 a8 : Option MV) (x : Int) (st : List MV) (μ : MM) (G : MG) : ev 194 257 [a0, a1, a2, a3, a4, a5, a6, a7, a8] (vL x :: st) μ G = ev 194 258 [a0, a1, a2, a3, a4, a5, a6, a7, a8] (vI (w32 x) :: st) μ G := ev_stp pg_194_257 rfl
theorem pg_194_258 : mm_prog 194 258 = some (0, .iastore, 259, []) := by decide +kernel
theorem xe_194_258 (a0 a1 a2 a3 a4 a5 a6 a7 a8 : Option MV) (x y z : Int) (st : List MV) (μ : MM) (G : MG) : ev 194 258 [a0, a1, a2, a3, a4, a5, a6, a7, a8] (vI x :: vI y :: vR z :: st) μ G = if gk G z = 100 ∧ 0 ≤ y ∧ y < gl G z ∧ 10 ≤ z then ev 194 259 [a0, a1, a2, a3, a4, a5, a6, a7, a8] st (mset μ z y x) G else none := ev_if pg_194_258 rfl
theorem pg_194_259 : mm_prog 194 259 = some (2, .return_, 260, []) := by decide +kernel
theorem xe_194_259 (a0 a1 a2 a3 a4 a5 a6 a7 a8 : Option MV) (μ : MM) (G : MG) : ev 194 259 [a0, a1, a2, a3, a4, a5, a6, a7, a8] [] μ G = some (none, μ, G) := ev_ret pg_194_259 rfl
-- X11_refuses
theorem pg_195_0 : mm_prog 195 0 = some (0, .iload_n 0, 1, []) := by decide +kernel
theorem xe_195_0 (a1 a2 : Option MV) (x : Int) (st : List MV) (μ : MM) (G : MG) : ev 195 0 [some (vI x), a1, a2] st μ G = ev 195 1 [some (vI x), a1, a2] (vI x :: st) μ G := ev_stp pg_195_0 rfl
theorem pg_195_1 : mm_prog 195 1 = some (0, .i2l, 2, []) := by decide +kernel
theorem xe_195_1 (a0 a1 a2 : Option MV) (x : Int) (st : List MV) (μ : MM) (G : MG) : ev 195 1 [a0, a1, a2] (vI x :: st) μ G = ev 195 2 [a0, a1, a2] (vL x :: st) μ G := ev_stp pg_195_1 rfl
theorem pg_195_2 : mm_prog 195 2 = some (0, .ldc2_w 296, 5, [64]) := by decide +kernel
theorem xe_195_2 (a0 a1 a2 : Option MV) (st : List MV) (μ : MM) (G : MG) : ev 195 2 [a0, a1, a2] st μ G = ev 195 5 [a0, a1, a2] (vL (64) :: st) μ G := ev_stp pg_195_2 rfl
theorem pg_195_5 : mm_prog 195 5 = some (0, .ldc2_w 298, 8, [4095]) := by decide +kernel
theorem xe_195_5 (a0 a1 a2 : Option MV) (st : List MV) (μ : MM) (G : MG) : ev 195 5 [a0, a1, a2] st μ G = ev 195 8 [a0, a1, a2] (vL (4095) :: st) μ G := ev_stp pg_195_5 rfl
theorem pg_195_8 : mm_prog 195 8 = some (1, .invokestatic 107, 11, [0, 148, 3, 0]) := by decide +kernel
theorem xe_195_8 (a0 a1 a2 : Option MV) (x0 x1 x2 : Int) (μ : MM) (G : MG) : ev 195 8 [a0, a1, a2] (vL x2 :: vL x1 :: vL x0 :: []) μ G = (ev 148 0 [some (vL x0), none, some (vL x1), none, some (vL x2), none] [] μ G).bind (fun q => ev 195 11 [a0, a1, a2] (q.1.toList ++ []) q.2.1 q.2.2) := ev_calS (as := [vL x0, vL x1, vL x2]) (r := []) mx_148 pg_195_8 rfl rfl (Nat.le_of_ble_eq_true rfl) (Nat.le_of_ble_eq_true rfl)
theorem pg_195_11 : mm_prog 195 11 = some (0, .ifCond .eq 35, 14, []) := by decide +kernel
theorem xe_195_11 (a0 a1 a2 : Option MV) (x : Int) (st : List MV) (μ : MM) (G : MG) : ev 195 11 [a0, a1, a2] (vI x :: st) μ G = if x = 0 then ev 195 46 [a0, a1, a2] st μ G else ev 195 14 [a0, a1, a2] st μ G := ev_br (mm_cnd_eq x 0) pg_195_11 rfl
theorem pg_195_14 : mm_prog 195 14 = some (0, .iload_n 1, 15, []) := by decide +kernel
theorem xe_195_14 (a0 a2 : Option MV) (x : Int) (st : List MV) (μ : MM) (G : MG) : ev 195 14 [a0, some (vI x), a2] st μ G = ev 195 15 [a0, some (vI x), a2] (vI x :: st) μ G := ev_stp pg_195_14 rfl
theorem pg_195_15 : mm_prog 195 15 = some (0, .i2l, 16, []) := by decide +kernel
theorem xe_195_15 (a0 a1 a2 : Option MV) (x : Int) (st : List MV) (μ : MM) (G : MG) : ev 195 15 [a0, a1, a2] (vI x :: st) μ G = ev 195 16 [a0, a1, a2] (vL x :: st) μ G := ev_stp pg_195_15 rfl
theorem pg_195_16 : mm_prog 195 16 = some (0, .ldc2_w 300, 19, [48]) := by decide +kernel
theorem xe_195_16 (a0 a1 a2 : Option MV) (st : List MV) (μ : MM) (G : MG) : ev 195 16 [a0, a1, a2] st μ G = ev 195 19 [a0, a1, a2] (vL (48) :: st) μ G := ev_stp pg_195_16 rfl
theorem pg_195_19 : mm_prog 195 19 = some (0, .ldc2_w 298, 22, [4095]) := by decide +kernel
theorem xe_195_19 (a0 a1 a2 : Option MV) (st : List MV) (μ : MM) (G : MG) : ev 195 19 [a0, a1, a2] st μ G = ev 195 22 [a0, a1, a2] (vL (4095) :: st) μ G := ev_stp pg_195_19 rfl
theorem pg_195_22 : mm_prog 195 22 = some (1, .invokestatic 107, 25, [0, 148, 3, 0]) := by decide +kernel
theorem xe_195_22 (a0 a1 a2 : Option MV) (x0 x1 x2 : Int) (μ : MM) (G : MG) : ev 195 22 [a0, a1, a2] (vL x2 :: vL x1 :: vL x0 :: []) μ G = (ev 148 0 [some (vL x0), none, some (vL x1), none, some (vL x2), none] [] μ G).bind (fun q => ev 195 25 [a0, a1, a2] (q.1.toList ++ []) q.2.1 q.2.2) := ev_calS (as := [vL x0, vL x1, vL x2]) (r := []) mx_148 pg_195_22 rfl rfl (Nat.le_of_ble_eq_true rfl) (Nat.le_of_ble_eq_true rfl)
theorem pg_195_25 : mm_prog 195 25 = some (0, .ifCond .eq 21, 28, []) := by decide +kernel
theorem xe_195_25 (a0 a1 a2 : Option MV) (x : Int) (st : List MV) (μ : MM) (G : MG) : ev 195 25 [a0, a1, a2] (vI x :: st) μ G = if x = 0 then ev 195 46 [a0, a1, a2] st μ G else ev 195 28 [a0, a1, a2] st μ G := ev_br (mm_cnd_eq x 0) pg_195_25 rfl
theorem pg_195_28 : mm_prog 195 28 = some (0, .iload_n 2, 29, []) := by decide +kernel
theorem xe_195_28 (a0 a1 : Option MV) (x : Int) (st : List MV) (μ : MM) (G : MG) : ev 195 28 [a0, a1, some (vI x)] st μ G = ev 195 29 [a0, a1, some (vI x)] (vI x :: st) μ G := ev_stp pg_195_28 rfl
theorem pg_195_29 : mm_prog 195 29 = some (0, .i2l, 30, []) := by decide +kernel
theorem xe_195_29 (a0 a1 a2 : Option MV) (x : Int) (st : List MV) (μ : MM) (G : MG) : ev 195 29 [a0, a1, a2] (vI x :: st) μ G = ev 195 30 [a0, a1, a2] (vL x :: st) μ G := ev_stp pg_195_29 rfl
theorem pg_195_30 : mm_prog 195 30 = some (0, .ldc2_w 229, 33, [20]) := by decide +kernel
theorem xe_195_30 (a0 a1 a2 : Option MV) (st : List MV) (μ : MM) (G : MG) : ev 195 30 [a0, a1, a2] st μ G = ev 195 33 [a0, a1, a2] (vL (20) :: st) μ G := ev_stp pg_195_30 rfl
theorem pg_195_33 : mm_prog 195 33 = some (0, .ldc2_w 302, 36, [240]) := by decide +kernel
theorem xe_195_33 (a0 a1 a2 : Option MV) (st : List MV) (μ : MM) (G : MG) : ev 195 33 [a0, a1, a2] st μ G = ev 195 36 [a0, a1, a2] (vL (240) :: st) μ G := ev_stp pg_195_33 rfl
theorem pg_195_36 : mm_prog 195 36 = some (1, .invokestatic 107, 39, [0, 148, 3, 0]) := by decide +kernel
theorem xe_195_36 (a0 a1 a2 : Option MV) (x0 x1 x2 : Int) (μ : MM) (G : MG) : ev 195 36 [a0, a1, a2] (vL x2 :: vL x1 :: vL x0 :: []) μ G = (ev 148 0 [some (vL x0), none, some (vL x1), none, some (vL x2), none] [] μ G).bind (fun q => ev 195 39 [a0, a1, a2] (q.1.toList ++ []) q.2.1 q.2.2) := ev_calS (as := [vL x0, vL x1, vL x2]) (r := []) mx_148 pg_195_36 rfl rfl (Nat.le_of_ble_eq_true rfl) (Nat.le_of_ble_eq_true rfl)
theorem pg_195_39 : mm_prog 195 39 = some (0, .ifCond .eq 7, 42, []) := by decide +kernel
theorem xe_195_39 (a0 a1 a2 : Option MV) (x : Int) (st : List MV) (μ : MM) (G : MG) : ev 195 39 [a0, a1, a2] (vI x :: st) μ G = if x = 0 then ev 195 46 [a0, a1, a2] st μ G else ev 195 42 [a0, a1, a2] st μ G := ev_br (mm_cnd_eq x 0) pg_195_39 rfl
theorem pg_195_42 : mm_prog 195 42 = some (0, .iconst 0, 43, []) := by decide +kernel
theorem xe_195_42 (a0 a1 a2 : Option MV) (st : List MV) (μ : MM) (G : MG) : ev 195 42 [a0, a1, a2] st μ G = ev 195 43 [a0, a1, a2] (vI (0) :: st) μ G := ev_stp pg_195_42 rfl
theorem pg_195_43 : mm_prog 195 43 = some (0, .goto 5, 46, []) := by decide +kernel
theorem xe_195_43 (a0 a1 a2 : Option MV) (st : List MV) (μ : MM) (G : MG) : ev 195 43 [a0, a1, a2] st μ G = ev 195 48 [a0, a1, a2] st μ G := ev_stp pg_195_43 rfl
theorem pg_195_46 : mm_prog 195 46 = some (0, .bipush (-3), 48, []) := by decide +kernel
theorem xe_195_46 (a0 a1 a2 : Option MV) (st : List MV) (μ : MM) (G : MG) : ev 195 46 [a0, a1, a2] st μ G = ev 195 48 [a0, a1, a2] (vI (-3) :: st) μ G := ev_stp pg_195_46 rfl
theorem pg_195_48 : mm_prog 195 48 = some (2, .ireturn, 49, [0]) := by decide +kernel
theorem xe_195_48 (a0 a1 a2 : Option MV) (x : Int) (μ : MM) (G : MG) : ev 195 48 [a0, a1, a2] [vI x] μ G = some (some (vI x), μ, G) := ev_ret pg_195_48 rfl
-- X11_formula
theorem pg_196_0 : mm_prog 196 0 = some (0, .aload_n 0, 1, []) := by decide +kernel
theorem xe_196_0 (a1 a2 a3 a4 a5 : Option MV) (x : Int) (st : List MV) (μ : MM) (G : MG) : ev 196 0 [some (vR x), a1, a2, a3, a4, a5] st μ G = ev 196 1 [some (vR x), a1, a2, a3, a4, a5] (vR x :: st) μ G := ev_stp pg_196_0 rfl
theorem pg_196_1 : mm_prog 196 1 = some (0, .iconst 0, 2, []) := by decide +kernel
theorem xe_196_1 (a0 a1 a2 a3 a4 a5 : Option MV) (st : List MV) (μ : MM) (G : MG) : ev 196 1 [a0, a1, a2, a3, a4, a5] st μ G = ev 196 2 [a0, a1, a2, a3, a4, a5] (vI (0) :: st) μ G := ev_stp pg_196_1 rfl
theorem pg_196_2 : mm_prog 196 2 = some (0, .putfield 1, 5, [11, 0, 0]) := by decide +kernel
theorem xe_196_2 (a0 a1 a2 a3 a4 a5 : Option MV) (x y : Int) (st : List MV) (μ : MM) (G : MG) : ev 196 2 [a0, a1, a2, a3, a4, a5] (vI x :: vR y :: st) μ G = if gk G y = 11 then ev 196 5 [a0, a1, a2, a3, a4, a5] st (mset μ y 0 x) G else none := ev_put0 pg_196_2
theorem pg_196_5 : mm_prog 196 5 = some (0, .iload_n 1, 6, []) := by decide +kernel
theorem xe_196_5 (a0 a2 a3 a4 a5 : Option MV) (x : Int) (st : List MV) (μ : MM) (G : MG) : ev 196 5 [a0, some (vI x), a2, a3, a4, a5] st μ G = ev 196 6 [a0, some (vI x), a2, a3, a4, a5] (vI x :: st) μ G := ev_stp pg_196_5 rfl
theorem pg_196_6 : mm_prog 196 6 = some (0, .i2l, 7, []) := by decide +kernel
theorem xe_196_6 (a0 a1 a2 a3 a4 a5 : Option MV) (x : Int) (st : List MV) (μ : MM) (G : MG) : ev 196 6 [a0, a1, a2, a3, a4, a5] (vI x :: st) μ G = ev 196 7 [a0, a1, a2, a3, a4, a5] (vL x :: st) μ G := ev_stp pg_196_6 rfl
theorem pg_196_7 : mm_prog 196 7 = some (0, .lconst 0, 8, []) := by decide +kernel
theorem xe_196_7 (a0 a1 a2 a3 a4 a5 : Option MV) (st : List MV) (μ : MM) (G : MG) : ev 196 7 [a0, a1, a2, a3, a4, a5] st μ G = ev 196 8 [a0, a1, a2, a3, a4, a5] (vL 0 :: st) μ G := ev_stp pg_196_7 rfl
theorem pg_196_8 : mm_prog 196 8 = some (0, .lconst 1, 9, []) := by decide +kernel
theorem xe_196_8 (a0 a1 a2 a3 a4 a5 : Option MV) (st : List MV) (μ : MM) (G : MG) : ev 196 8 [a0, a1, a2, a3, a4, a5] st μ G = ev 196 9 [a0, a1, a2, a3, a4, a5] (vL 1 :: st) μ G := ev_stp pg_196_8 rfl
theorem pg_196_9 : mm_prog 196 9 = some (1, .invokestatic 107, 12, [0, 148, 3, 0]) := by decide +kernel
theorem xe_196_9 (a0 a1 a2 a3 a4 a5 : Option MV) (x0 x1 x2 : Int) (μ : MM) (G : MG) : ev 196 9 [a0, a1, a2, a3, a4, a5] (vL x2 :: vL x1 :: vL x0 :: []) μ G = (ev 148 0 [some (vL x0), none, some (vL x1), none, some (vL x2), none] [] μ G).bind (fun q => ev 196 12 [a0, a1, a2, a3, a4, a5] (q.1.toList ++ []) q.2.1 q.2.2) := ev_calS (as := [vL x0, vL x1, vL x2]) (r := []) mx_148 pg_196_9 rfl rfl (Nat.le_of_ble_eq_true rfl) (Nat.le_of_ble_eq_true rfl)
theorem pg_196_12 : mm_prog 196 12 = some (0, .ifCond .eq 16, 15, []) := by decide +kernel
theorem xe_196_12 (a0 a1 a2 a3 a4 a5 : Option MV) (x : Int) (st : List MV) (μ : MM) (G : MG) : ev 196 12 [a0, a1, a2, a3, a4, a5] (vI x :: st) μ G = if x = 0 then ev 196 28 [a0, a1, a2, a3, a4, a5] st μ G else ev 196 15 [a0, a1, a2, a3, a4, a5] st μ G := ev_br (mm_cnd_eq x 0) pg_196_12 rfl
theorem pg_196_15 : mm_prog 196 15 = some (0, .iload 5, 17, []) := by decide +kernel
theorem xe_196_15 (a0 a1 a2 a3 a4 : Option MV) (x : Int) (st : List MV) (μ : MM) (G : MG) : ev 196 15 [a0, a1, a2, a3, a4, some (vI x)] st μ G = ev 196 17 [a0, a1, a2, a3, a4, some (vI x)] (vI x :: st) μ G := ev_stp pg_196_15 rfl
theorem pg_196_17 : mm_prog 196 17 = some (0, .i2l, 18, []) := by decide +kernel
theorem xe_196_17 (a0 a1 a2 a3 a4 a5 : Option MV) (x : Int) (st : List MV) (μ : MM) (G : MG) : ev 196 17 [a0, a1, a2, a3, a4, a5] (vI x :: st) μ G = ev 196 18 [a0, a1, a2, a3, a4, a5] (vL x :: st) μ G := ev_stp pg_196_17 rfl
theorem pg_196_18 : mm_prog 196 18 = some (0, .lconst 0, 19, []) := by decide +kernel
theorem xe_196_18 (a0 a1 a2 a3 a4 a5 : Option MV) (st : List MV) (μ : MM) (G : MG) : ev 196 18 [a0, a1, a2, a3, a4, a5] st μ G = ev 196 19 [a0, a1, a2, a3, a4, a5] (vL 0 :: st) μ G := ev_stp pg_196_18 rfl
theorem pg_196_19 : mm_prog 196 19 = some (0, .ldc2_w 233, 22, [9]) := by decide +kernel
theorem xe_196_19 (a0 a1 a2 a3 a4 a5 : Option MV) (st : List MV) (μ : MM) (G : MG) : ev 196 19 [a0, a1, a2, a3, a4, a5] st μ G = ev 196 22 [a0, a1, a2, a3, a4, a5] (vL (9) :: st) μ G := ev_stp pg_196_19 rfl
theorem pg_196_22 : mm_prog 196 22 = some (1, .invokestatic 107, 25, [0, 148, 3, 0]) := by decide +kernel
theorem xe_196_22 (a0 a1 a2 a3 a4 a5 : Option MV) (x0 x1 x2 : Int) (μ : MM) (G : MG) : ev 196 22 [a0, a1, a2, a3, a4, a5] (vL x2 :: vL x1 :: vL x0 :: []) μ G = (ev 148 0 [some (vL x0), none, some (vL x1), none, some (vL x2), none] [] μ G).bind (fun q => ev 196 25 [a0, a1, a2, a3, a4, a5] (q.1.toList ++ []) q.2.1 q.2.2) := ev_calS (as := [vL x0, vL x1, vL x2]) (r := []) mx_148 pg_196_22 rfl rfl (Nat.le_of_ble_eq_true rfl) (Nat.le_of_ble_eq_true rfl)
theorem pg_196_25 : mm_prog 196 25 = some (0, .ifCond .ne 6, 28, []) := by decide +kernel
theorem xe_196_25 (a0 a1 a2 a3 a4 a5 : Option MV) (x : Int) (st : List MV) (μ : MM) (G : MG) : ev 196 25 [a0, a1, a2, a3, a4, a5] (vI x :: st) μ G = if ¬ x = 0 then ev 196 31 [a0, a1, a2, a3, a4, a5] st μ G else ev 196 28 [a0, a1, a2, a3, a4, a5] st μ G := ev_br (mm_cnd_ne x 0) pg_196_25 rfl
theorem pg_196_28 : mm_prog 196 28 = some (0, .bipush (-2), 30, []) := by decide +kernel
theorem xe_196_28 (a0 a1 a2 a3 a4 a5 : Option MV) (st : List MV) (μ : MM) (G : MG) : ev 196 28 [a0, a1, a2, a3, a4, a5] st μ G = ev 196 30 [a0, a1, a2, a3, a4, a5] (vI (-2) :: st) μ G := ev_stp pg_196_28 rfl
theorem pg_196_30 : mm_prog 196 30 = some (2, .ireturn, 31, [0]) := by decide +kernel
theorem xe_196_30 (a0 a1 a2 a3 a4 a5 : Option MV) (x : Int) (μ : MM) (G : MG) : ev 196 30 [a0, a1, a2, a3, a4, a5] [vI x] μ G = some (some (vI x), μ, G) := ev_ret pg_196_30 rfl
theorem pg_196_31 : mm_prog 196 31 = some (0, .iload_n 2, 32, []) := by decide +kernel
theorem xe_196_31 (a0 a1 a3 a4 a5 : Option MV) (x : Int) (st : List MV) (μ : MM) (G : MG) : ev 196 31 [a0, a1, some (vI x), a3, a4, a5] st μ G = ev 196 32 [a0, a1, some (vI x), a3, a4, a5] (vI x :: st) μ G := ev_stp pg_196_31 rfl
theorem pg_196_32 : mm_prog 196 32 = some (0, .iload_n 3, 33, []) := by decide +kernel
theorem xe_196_32 (a0 a1 a2 a4 a5 : Option MV) (x : Int) (st : List MV) (μ : MM) (G : MG) : ev 196 32 [a0, a1, a2, some (vI x), a4, a5] st μ G = ev 196 33 [a0, a1, a2, some (vI x), a4, a5] (vI x :: st) μ G := ev_stp pg_196_32 rfl
theorem pg_196_33 : mm_prog 196 33 = some (0, .iload 4, 35, []) := by decide +kernel
theorem xe_196_33 (a0 a1 a2 a3 a5 : Option MV) (x : Int) (st : List MV) (μ : MM) (G : MG) : ev 196 33 [a0, a1, a2, a3, some (vI x), a5] st μ G = ev 196 35 [a0, a1, a2, a3, some (vI x), a5] (vI x :: st) μ G := ev_stp pg_196_33 rfl
theorem pg_196_35 : mm_prog 196 35 = some (1, .invokestatic 304, 38, [0, 195, 3, 0]) := by decide +kernel
theorem xe_196_35 (a0 a1 a2 a3 a4 a5 : Option MV) (x0 x1 x2 : Int) (μ : MM) (G : MG) : ev 196 35 [a0, a1, a2, a3, a4, a5] (vI x2 :: vI x1 :: vI x0 :: []) μ G = (ev 195 0 [some (vI x0), some (vI x1), some (vI x2)] [] μ G).bind (fun q => ev 196 38 [a0, a1, a2, a3, a4, a5] (q.1.toList ++ []) q.2.1 q.2.2) := ev_calS (as := [vI x0, vI x1, vI x2]) (r := []) mx_195 pg_196_35 rfl rfl (Nat.le_of_ble_eq_true rfl) (Nat.le_of_ble_eq_true rfl)
theorem pg_196_38 : mm_prog 196 38 = some (0, .ifCond .eq 6, 41, []) := by decide +kernel
theorem xe_196_38 (a0 a1 a2 a3 a4 a5 : Option MV) (x : Int) (st : List MV) (μ : MM) (G : MG) : ev 196 38 [a0, a1, a2, a3, a4, a5] (vI x :: st) μ G = if x = 0 then ev 196 44 [a0, a1, a2, a3, a4, a5] st μ G else ev 196 41 [a0, a1, a2, a3, a4, a5] st μ G := ev_br (mm_cnd_eq x 0) pg_196_38 rfl
theorem pg_196_41 : mm_prog 196 41 = some (0, .bipush (-3), 43, []) := by decide +kernel
theorem xe_196_41 (a0 a1 a2 a3 a4 a5 : Option MV) (st : List MV) (μ : MM) (G : MG) : ev 196 41 [a0, a1, a2, a3, a4, a5] st μ G = ev 196 43 [a0, a1, a2, a3, a4, a5] (vI (-3) :: st) μ G := ev_stp pg_196_41 rfl
theorem pg_196_43 : mm_prog 196 43 = some (2, .ireturn, 44, [0]) := by decide +kernel
theorem xe_196_43 (a0 a1 a2 a3 a4 a5 : Option MV) (x : Int) (μ : MM) (G : MG) : ev 196 43 [a0, a1, a2, a3, a4, a5] [vI x] μ G = some (some (vI x), μ, G) := ev_ret pg_196_43 rfl
theorem pg_196_44 : mm_prog 196 44 = some (0, .aload_n 0, 45, []) := by decide +kernel
theorem xe_196_44 (a1 a2 a3 a4 a5 : Option MV) (x : Int) (st : List MV) (μ : MM) (G : MG) : ev 196 44 [some (vR x), a1, a2, a3, a4, a5] st μ G = ev 196 45 [some (vR x), a1, a2, a3, a4, a5] (vR x :: st) μ G := ev_stp pg_196_44 rfl
theorem pg_196_45 : mm_prog 196 45 = some (0, .iload_n 1, 46, []) := by decide +kernel
theorem xe_196_45 (a0 a2 a3 a4 a5 : Option MV) (x : Int) (st : List MV) (μ : MM) (G : MG) : ev 196 45 [a0, some (vI x), a2, a3, a4, a5] st μ G = ev 196 46 [a0, some (vI x), a2, a3, a4, a5] (vI x :: st) μ G := ev_stp pg_196_45 rfl
theorem pg_196_46 : mm_prog 196 46 = some (0, .iload_n 2, 47, []) := by decide +kernel
theorem xe_196_46 (a0 a1 a3 a4 a5 : Option MV) (x : Int) (st : List MV) (μ : MM) (G : MG) : ev 196 46 [a0, a1, some (vI x), a3, a4, a5] st μ G = ev 196 47 [a0, a1, some (vI x), a3, a4, a5] (vI x :: st) μ G := ev_stp pg_196_46 rfl
theorem pg_196_47 : mm_prog 196 47 = some (0, .iload_n 3, 48, []) := by decide +kernel
theorem xe_196_47 (a0 a1 a2 a4 a5 : Option MV) (x : Int) (st : List MV) (μ : MM) (G : MG) : ev 196 47 [a0, a1, a2, some (vI x), a4, a5] st μ G = ev 196 48 [a0, a1, a2, some (vI x), a4, a5] (vI x :: st) μ G := ev_stp pg_196_47 rfl
theorem pg_196_48 : mm_prog 196 48 = some (0, .iload 4, 50, []) := by decide +kernel
theorem xe_196_48 (a0 a1 a2 a3 a5 : Option MV) (x : Int) (st : List MV) (μ : MM) (G : MG) : ev 196 48 [a0, a1, a2, a3, some (vI x), a5] st μ G = ev 196 50 [a0, a1, a2, a3, some (vI x), a5] (vI x :: st) μ G := ev_stp pg_196_48 rfl
theorem pg_196_50 : mm_prog 196 50 = some (1, .invokevirtual 205, 53, [1, 194, 4, 11]) := by decide +kernel
theorem xe_196_50 (a0 a1 a2 a3 a4 a5 : Option MV) (x0 x1 x2 x3 z : Int) (μ : MM) (G : MG) : ev 196 50 [a0, a1, a2, a3, a4, a5] (vI x3 :: vI x2 :: vI x1 :: vI x0 :: vR z :: []) μ G = if gk G z = 11 ∧ 0 < z then (ev 194 0 [some (vR z), some (vI x0), some (vI x1), some (vI x2), some (vI x3), none, none, none, none] [] μ G).bind (fun q => ev 196 53 [a0, a1, a2, a3, a4, a5] (q.1.toList ++ []) q.2.1 q.2.2) else none := ev_calV (as := [vR z, vI x0, vI x1, vI x2, vI x3]) (r := []) mx_194 pg_196_50 rfl rfl (Nat.le_of_ble_eq_true rfl) (Nat.le_of_ble_eq_true rfl)
theorem pg_196_53 : mm_prog 196 53 = some (0, .iload 5, 55, []) := by decide +kernel
theorem xe_196_53 (a0 a1 a2 a3 a4 : Option MV) (x : Int) (st : List MV) (μ : MM) (G : MG) : ev 196 53 [a0, a1, a2, a3, a4, some (vI x)] st μ G = ev 196 55 [a0, a1, a2, a3, a4, some (vI x)] (vI x :: st) μ G := ev_stp pg_196_53 rfl
theorem pg_196_55 : mm_prog 196 55 = some (0, .bipush 9, 57, []) := by decide +kernel
theorem xe_196_55 (a0 a1 a2 a3 a4 a5 : Option MV) (st : List MV) (μ : MM) (G : MG) : ev 196 55 [a0, a1, a2, a3, a4, a5] st μ G = ev 196 57 [a0, a1, a2, a3, a4, a5] (vI (9) :: st) μ G := ev_stp pg_196_55 rfl
theorem pg_196_57 : mm_prog 196 57 = some (0, .if_icmp .ge 13, 60, []) := by decide +kernel
theorem xe_196_57 (a0 a1 a2 a3 a4 a5 : Option MV) (x y : Int) (st : List MV) (μ : MM) (G : MG) : ev 196 57 [a0, a1, a2, a3, a4, a5] (vI y :: vI x :: st) μ G = if y ≤ x then ev 196 70 [a0, a1, a2, a3, a4, a5] st μ G else ev 196 60 [a0, a1, a2, a3, a4, a5] st μ G := ev_br (mm_cnd_ge x y) pg_196_57 rfl
theorem pg_196_60 : mm_prog 196 60 = some (0, .aload_n 0, 61, []) := by decide +kernel
theorem xe_196_60 (a1 a2 a3 a4 a5 : Option MV) (x : Int) (st : List MV) (μ : MM) (G : MG) : ev 196 60 [some (vR x), a1, a2, a3, a4, a5] st μ G = ev 196 61 [some (vR x), a1, a2, a3, a4, a5] (vR x :: st) μ G := ev_stp pg_196_60 rfl
theorem pg_196_61 : mm_prog 196 61 = some (0, .getfield 63, 64, [11, 29, 2]) := by decide +kernel
theorem xe_196_61 (a0 a1 a2 a3 a4 a5 : Option MV) (x : Int) (st : List MV) (μ : MM) (G : MG) : ev 196 61 [a0, a1, a2, a3, a4, a5] (vR x :: st) μ G = if gk G x = 11 then ev 196 64 [a0, a1, a2, a3, a4, a5] (vR (μ x 29) :: st) μ G else none := ev_if pg_196_61 rfl
theorem pg_196_64 : mm_prog 196 64 = some (0, .iload 5, 66, []) := by decide +kernel
theorem xe_196_64 (a0 a1 a2 a3 a4 : Option MV) (x : Int) (st : List MV) (μ : MM) (G : MG) : ev 196 64 [a0, a1, a2, a3, a4, some (vI x)] st μ G = ev 196 66 [a0, a1, a2, a3, a4, some (vI x)] (vI x :: st) μ G := ev_stp pg_196_64 rfl
theorem pg_196_66 : mm_prog 196 66 = some (0, .iaload, 67, []) := by decide +kernel
theorem xe_196_66 (a0 a1 a2 a3 a4 a5 : Option MV) (x y : Int) (st : List MV) (μ : MM) (G : MG) : ev 196 66 [a0, a1, a2, a3, a4, a5] (vI x :: vR y :: st) μ G = if gk G y = 100 ∧ 0 ≤ x ∧ x < gl G y then ev 196 67 [a0, a1, a2, a3, a4, a5] (vI (μ y x) :: st) μ G else none := ev_if pg_196_66 rfl
theorem pg_196_67 : mm_prog 196 67 = some (0, .goto 40, 70, []) := by decide +kernel
theorem xe_196_67 (a0 a1 a2 a3 a4 a5 : Option MV) (st : List MV) (μ : MM) (G : MG) : ev 196 67 [a0, a1, a2, a3, a4, a5] st μ G = ev 196 107 [a0, a1, a2, a3, a4, a5] st μ G := ev_stp pg_196_67 rfl
theorem pg_196_70 : mm_prog 196 70 = some (0, .aload_n 0, 71, []) := by decide +kernel
theorem xe_196_70 (a1 a2 a3 a4 a5 : Option MV) (x : Int) (st : List MV) (μ : MM) (G : MG) : ev 196 70 [some (vR x), a1, a2, a3, a4, a5] st μ G = ev 196 71 [some (vR x), a1, a2, a3, a4, a5] (vR x :: st) μ G := ev_stp pg_196_70 rfl
theorem pg_196_71 : mm_prog 196 71 = some (0, .getfield 63, 74, [11, 29, 2]) := by decide +kernel
theorem xe_196_71 (a0 a1 a2 a3 a4 a5 : Option MV) (x : Int) (st : List MV) (μ : MM) (G : MG) : ev 196 71 [a0, a1, a2, a3, a4, a5] (vR x :: st) μ G = if gk G x = 11 then ev 196 74 [a0, a1, a2, a3, a4, a5] (vR (μ x 29) :: st) μ G else none := ev_if pg_196_71 rfl
theorem pg_196_74 : mm_prog 196 74 = some (0, .bipush 8, 76, []) := by decide +kernel
theorem xe_196_74 (a0 a1 a2 a3 a4 a5 : Option MV) (st : List MV) (μ : MM) (G : MG) : ev 196 74 [a0, a1, a2, a3, a4, a5] st μ G = ev 196 76 [a0, a1, a2, a3, a4, a5] (vI (8) :: st) μ G := ev_stp pg_196_74 rfl
theorem pg_196_76 : mm_prog 196 76 = some (0, .iaload, 77, []) := by decide +kernel
theorem xe_196_76 (a0 a1 a2 a3 a4 a5 : Option MV) (x y : Int) (st : List MV) (μ : MM) (G : MG) : ev 196 76 [a0, a1, a2, a3, a4, a5] (vI x :: vR y :: st) μ G = if gk G y = 100 ∧ 0 ≤ x ∧ x < gl G y then ev 196 77 [a0, a1, a2, a3, a4, a5] (vI (μ y x) :: st) μ G else none := ev_if pg_196_76 rfl
theorem pg_196_77 : mm_prog 196 77 = some (0, .aload_n 0, 78, []) := by decide +kernel
theorem xe_196_77 (a1 a2 a3 a4 a5 : Option MV) (x : Int) (st : List MV) (μ : MM) (G : MG) : ev 196 77 [some (vR x), a1, a2, a3, a4, a5] st μ G = ev 196 78 [some (vR x), a1, a2, a3, a4, a5] (vR x :: st) μ G := ev_stp pg_196_77 rfl
theorem pg_196_78 : mm_prog 196 78 = some (0, .getfield 63, 81, [11, 29, 2]) := by decide +kernel
theorem xe_196_78 (a0 a1 a2 a3 a4 a5 : Option MV) (x : Int) (st : List MV) (μ : MM) (G : MG) : ev 196 78 [a0, a1, a2, a3, a4, a5] (vR x :: st) μ G = if gk G x = 11 then ev 196 81 [a0, a1, a2, a3, a4, a5] (vR (μ x 29) :: st) μ G else none := ev_if pg_196_78 rfl
theorem pg_196_81 : mm_prog 196 81 = some (0, .iconst 0, 82, []) := by decide +kernel
theorem xe_196_81 (a0 a1 a2 a3 a4 a5 : Option MV) (st : List MV) (μ : MM) (G : MG) : ev 196 81 [a0, a1, a2, a3, a4, a5] st μ G = ev 196 82 [a0, a1, a2, a3, a4, a5] (vI (0) :: st) μ G := ev_stp pg_196_81 rfl
theorem pg_196_82 : mm_prog 196 82 = some (0, .iaload, 83, []) := by decide +kernel
theorem xe_196_82 (a0 a1 a2 a3 a4 a5 : Option MV) (x y : Int) (st : List MV) (μ : MM) (G : MG) : ev 196 82 [a0, a1, a2, a3, a4, a5] (vI x :: vR y :: st) μ G = if gk G y = 100 ∧ 0 ≤ x ∧ x < gl G y then ev 196 83 [a0, a1, a2, a3, a4, a5] (vI (μ y x) :: st) μ G else none := ev_if pg_196_82 rfl
theorem pg_196_83 : mm_prog 196 83 = some (0, .aload_n 0, 84, []) := by decide +kernel
theorem xe_196_83 (a1 a2 a3 a4 a5 : Option MV) (x : Int) (st : List MV) (μ : MM) (G : MG) : ev 196 83 [some (vR x), a1, a2, a3, a4, a5] st μ G = ev 196 84 [some (vR x), a1, a2, a3, a4, a5] (vR x :: st) μ G := ev_stp pg_196_83 rfl
theorem pg_196_84 : mm_prog 196 84 = some (0, .getfield 63, 87, [11, 29, 2]) := by decide +kernel
theorem xe_196_84 (a0 a1 a2 a3 a4 a5 : Option MV) (x : Int) (st : List MV) (μ : MM) (G : MG) : ev 196 84 [a0, a1, a2, a3, a4, a5] (vR x :: st) μ G = if gk G x = 11 then ev 196 87 [a0, a1, a2, a3, a4, a5] (vR (μ x 29) :: st) μ G else none := ev_if pg_196_84 rfl
theorem pg_196_87 : mm_prog 196 87 = some (0, .iconst 1, 88, []) := by decide +kernel
theorem xe_196_87 (a0 a1 a2 a3 a4 a5 : Option MV) (st : List MV) (μ : MM) (G : MG) : ev 196 87 [a0, a1, a2, a3, a4, a5] st μ G = ev 196 88 [a0, a1, a2, a3, a4, a5] (vI (1) :: st) μ G := ev_stp pg_196_87 rfl
theorem pg_196_88 : mm_prog 196 88 = some (0, .iaload, 89, []) := by decide +kernel
theorem xe_196_88 (a0 a1 a2 a3 a4 a5 : Option MV) (x y : Int) (st : List MV) (μ : MM) (G : MG) : ev 196 88 [a0, a1, a2, a3, a4, a5] (vI x :: vR y :: st) μ G = if gk G y = 100 ∧ 0 ≤ x ∧ x < gl G y then ev 196 89 [a0, a1, a2, a3, a4, a5] (vI (μ y x) :: st) μ G else none := ev_if pg_196_88 rfl
theorem pg_196_89 : mm_prog 196 89 = some (0, .iadd, 90, []) := by decide +kernel
theorem xe_196_89 (a0 a1 a2 a3 a4 a5 : Option MV) (x y : Int) (st : List MV) (μ : MM) (G : MG) : ev 196 89 [a0, a1, a2, a3, a4, a5] (vI y :: vI x :: st) μ G = ev 196 90 [a0, a1, a2, a3, a4, a5] (vI (w32 (x + y)) :: st) μ G := ev_stp pg_196_89 rfl
theorem pg_196_90 : mm_prog 196 90 = some (0, .aload_n 0, 91, []) := by decide +kernel
theorem xe_196_90 (a1 a2 a3 a4 a5 : Option MV) (x : Int) (st : List MV) (μ : MM) (G : MG) : ev 196 90 [some (vR x), a1, a2, a3, a4, a5] st μ G = ev 196 91 [some (vR x), a1, a2, a3, a4, a5] (vR x :: st) μ G := ev_stp pg_196_90 rfl
theorem pg_196_91 : mm_prog 196 91 = some (0, .getfield 63, 94, [11, 29, 2]) := by decide +kernel
theorem xe_196_91 (a0 a1 a2 a3 a4 a5 : Option MV) (x : Int) (st : List MV) (μ : MM) (G : MG) : ev 196 91 [a0, a1, a2, a3, a4, a5] (vR x :: st) μ G = if gk G x = 11 then ev 196 94 [a0, a1, a2, a3, a4, a5] (vR (μ x 29) :: st) μ G else none := ev_if pg_196_91 rfl
theorem pg_196_94 : mm_prog 196 94 = some (0, .iconst 4, 95, []) := by decide +kernel
theorem xe_196_94 (a0 a1 a2 a3 a4 a5 : Option MV) (st : List MV) (μ : MM) (G : MG) : ev 196 94 [a0, a1, a2, a3, a4, a5] st μ G = ev 196 95 [a0, a1, a2, a3, a4, a5] (vI (4) :: st) μ G := ev_stp pg_196_94 rfl
theorem pg_196_95 : mm_prog 196 95 = some (0, .iaload, 96, []) := by decide +kernel
theorem xe_196_95 (a0 a1 a2 a3 a4 a5 : Option MV) (x y : Int) (st : List MV) (μ : MM) (G : MG) : ev 196 95 [a0, a1, a2, a3, a4, a5] (vI x :: vR y :: st) μ G = if gk G y = 100 ∧ 0 ≤ x ∧ x < gl G y then ev 196 96 [a0, a1, a2, a3, a4, a5] (vI (μ y x) :: st) μ G else none := ev_if pg_196_95 rfl
theorem pg_196_96 : mm_prog 196 96 = some (0, .aload_n 0, 97, []) := by decide +kernel
theorem xe_196_96 (a1 a2 a3 a4 a5 : Option MV) (x : Int) (st : List MV) (μ : MM) (G : MG) : ev 196 96 [some (vR x), a1, a2, a3, a4, a5] st μ G = ev 196 97 [some (vR x), a1, a2, a3, a4, a5] (vR x :: st) μ G := ev_stp pg_196_96 rfl
theorem pg_196_97 : mm_prog 196 97 = some (0, .getfield 63, 100, [11, 29, 2]) := by decide +kernel
theorem xe_196_97 (a0 a1 a2 a3 a4 a5 : Option MV) (x : Int) (st : List MV) (μ : MM) (G : MG) : ev 196 97 [a0, a1, a2, a3, a4, a5] (vR x :: st) μ G = if gk G x = 11 then ev 196 100 [a0, a1, a2, a3, a4, a5] (vR (μ x 29) :: st) μ G else none := ev_if pg_196_97 rfl
theorem pg_196_100 : mm_prog 196 100 = some (0, .iconst 5, 101, []) := by decide +kernel
theorem xe_196_100 (a0 a1 a2 a3 a4 a5 : Option MV) (st : List MV) (μ : MM) (G : MG) : ev 196 100 [a0, a1, a2, a3, a4, a5] st μ G = ev 196 101 [a0, a1, a2, a3, a4, a5] (vI (5) :: st) μ G := ev_stp pg_196_100 rfl
theorem pg_196_101 : mm_prog 196 101 = some (0, .iaload, 102, []) := by decide +kernel
theorem xe_196_101 (a0 a1 a2 a3 a4 a5 : Option MV) (x y : Int) (st : List MV) (μ : MM) (G : MG) : ev 196 101 [a0, a1, a2, a3, a4, a5] (vI x :: vR y :: st) μ G = if gk G y = 100 ∧ 0 ≤ x ∧ x < gl G y then ev 196 102 [a0, a1, a2, a3, a4, a5] (vI (μ y x) :: st) μ G else none := ev_if pg_196_101 rfl
theorem pg_196_102 : mm_prog 196 102 = some (0, .iadd, 103, []) := by decide +kernel
theorem xe_196_102 (a0 a1 a2 a3 a4 a5 : Option MV) (x y : Int) (st : List MV) (μ : MM) (G : MG) : ev 196 102 [a0, a1, a2, a3, a4, a5] (vI y :: vI x :: st) μ G = ev 196 103 [a0, a1, a2, a3, a4, a5] (vI (w32 (x + y)) :: st) μ G := ev_stp pg_196_102 rfl
theorem pg_196_103 : mm_prog 196 103 = some (0, .imul, 104, []) := by decide +kernel
theorem xe_196_103 (a0 a1 a2 a3 a4 a5 : Option MV) (x y : Int) (st : List MV) (μ : MM) (G : MG) : ev 196 103 [a0, a1, a2, a3, a4, a5] (vI y :: vI x :: st) μ G = ev 196 104 [a0, a1, a2, a3, a4, a5] (vI (w32 (x * y)) :: st) μ G := ev_stp pg_196_103 rfl
theorem pg_196_104 : mm_prog 196 104 = some (1, .invokestatic 247, 107, [0, 183, 2, 0]) := by decide +kernel
theorem xe_196_104 (a0 a1 a2 a3 a4 a5 : Option MV) (x0 x1 : Int) (μ : MM) (G : MG) : ev 196 104 [a0, a1, a2, a3, a4, a5] (vI x1 :: vI x0 :: []) μ G = (ev 183 0 [some (vI x0), some (vI x1), none, none] [] μ G).bind (fun q => ev 196 107 [a0, a1, a2, a3, a4, a5] (q.1.toList ++ []) q.2.1 q.2.2) := ev_calS (as := [vI x0, vI x1]) (r := []) mx_183 pg_196_104 rfl rfl (Nat.le_of_ble_eq_true rfl) (Nat.le_of_ble_eq_true rfl)
theorem pg_196_107 : mm_prog 196 107 = some (2, .ireturn, 108, [0]) := by decide +kernel
theorem xe_196_107 (a0 a1 a2 a3 a4 a5 : Option MV) (x : Int) (μ : MM) (G : MG) : ev 196 107 [a0, a1, a2, a3, a4, a5] [vI x] μ G = some (some (vI x), μ, G) := ev_ret pg_196_107 rfl
-- X11_hasRoom
theorem pg_197_0 : mm_prog 197 0 = some (0, .aload_n 0, 1, []) := by decide +kernel
theorem xe_197_0 (x : Int) (st : List MV) (μ : MM) (G : MG) : ev 197 0 [some (vR x)] st μ G = ev 197 1 [some (vR x)] (vR x :: st) μ G := ev_stp pg_197_0 rfl
theorem pg_197_1 : mm_prog 197 1 = some (0, .getfield 63, 4, [11, 29, 2]) := by decide +kernel
theorem xe_197_1 (a0 : Option MV) (x : Int) (st : List MV) (μ : MM) (G : MG) : ev 197 1 [a0] (vR x :: st) μ G = if gk G x = 11 then ev 197 4 [a0] (vR (μ x 29) :: st) μ G else none := ev_if pg_197_1 rfl
theorem pg_197_4 : mm_prog 197 4 = some (0, .bipush 8, 6, []) := by decide +kernel
theorem xe_197_4 (a0 : Option MV) (st : List MV) (μ : MM) (G : MG) : ev 197 4 [a0] st μ G = ev 197 6 [a0] (vI (8) :: st) μ G := ev_stp pg_197_4 rfl
theorem pg_197_6 : mm_prog 197 6 = some (0, .iaload, 7, []) := by decide +kernel
theorem xe_197_6 (a0 : Option MV) (x y : Int) (st : List MV) (μ : MM) (G : MG) : ev 197 6 [a0] (vI x :: vR y :: st) μ G = if gk G y = 100 ∧ 0 ≤ x ∧ x < gl G y then ev 197 7 [a0] (vI (μ y x) :: st) μ G else none := ev_if pg_197_6 rfl
theorem pg_197_7 : mm_prog 197 7 = some (0, .ldc_w 308, 10, [655359]) := by decide +kernel
theorem xe_197_7 (a0 : Option MV) (st : List MV) (μ : MM) (G : MG) : ev 197 7 [a0] st μ G = ev 197 10 [a0] (vI (655359) :: st) μ G := ev_stp pg_197_7 rfl
theorem pg_197_10 : mm_prog 197 10 = some (0, .if_icmp .gt 103, 13, []) := by decide +kernel
theorem xe_197_10 (a0 : Option MV) (x y : Int) (st : List MV) (μ : MM) (G : MG) : ev 197 10 [a0] (vI y :: vI x :: st) μ G = if y < x then ev 197 113 [a0] st μ G else ev 197 13 [a0] st μ G := ev_br (mm_cnd_gt x y) pg_197_10 rfl
theorem pg_197_13 : mm_prog 197 13 = some (0, .aload_n 0, 14, []) := by decide +kernel
theorem xe_197_13 (x : Int) (st : List MV) (μ : MM) (G : MG) : ev 197 13 [some (vR x)] st μ G = ev 197 14 [some (vR x)] (vR x :: st) μ G := ev_stp pg_197_13 rfl
theorem pg_197_14 : mm_prog 197 14 = some (0, .getfield 63, 17, [11, 29, 2]) := by decide +kernel
theorem xe_197_14 (a0 : Option MV) (x : Int) (st : List MV) (μ : MM) (G : MG) : ev 197 14 [a0] (vR x :: st) μ G = if gk G x = 11 then ev 197 17 [a0] (vR (μ x 29) :: st) μ G else none := ev_if pg_197_14 rfl
theorem pg_197_17 : mm_prog 197 17 = some (0, .iconst 0, 18, []) := by decide +kernel
theorem xe_197_17 (a0 : Option MV) (st : List MV) (μ : MM) (G : MG) : ev 197 17 [a0] st μ G = ev 197 18 [a0] (vI (0) :: st) μ G := ev_stp pg_197_17 rfl
theorem pg_197_18 : mm_prog 197 18 = some (0, .iaload, 19, []) := by decide +kernel
theorem xe_197_18 (a0 : Option MV) (x y : Int) (st : List MV) (μ : MM) (G : MG) : ev 197 18 [a0] (vI x :: vR y :: st) μ G = if gk G y = 100 ∧ 0 ≤ x ∧ x < gl G y then ev 197 19 [a0] (vI (μ y x) :: st) μ G else none := ev_if pg_197_18 rfl
theorem pg_197_19 : mm_prog 197 19 = some (0, .sipush 4095, 22, []) := by decide +kernel
theorem xe_197_19 (a0 : Option MV) (st : List MV) (μ : MM) (G : MG) : ev 197 19 [a0] st μ G = ev 197 22 [a0] (vI (4095) :: st) μ G := ev_stp pg_197_19 rfl
theorem pg_197_22 : mm_prog 197 22 = some (0, .if_icmp .gt 91, 25, []) := by decide +kernel
theorem xe_197_22 (a0 : Option MV) (x y : Int) (st : List MV) (μ : MM) (G : MG) : ev 197 22 [a0] (vI y :: vI x :: st) μ G = if y < x then ev 197 113 [a0] st μ G else ev 197 25 [a0] st μ G := ev_br (mm_cnd_gt x y) pg_197_22 rfl
theorem pg_197_25 : mm_prog 197 25 = some (0, .aload_n 0, 26, []) := by decide +kernel
theorem xe_197_25 (x : Int) (st : List MV) (μ : MM) (G : MG) : ev 197 25 [some (vR x)] st μ G = ev 197 26 [some (vR x)] (vR x :: st) μ G := ev_stp pg_197_25 rfl
theorem pg_197_26 : mm_prog 197 26 = some (0, .getfield 63, 29, [11, 29, 2]) := by decide +kernel
theorem xe_197_26 (a0 : Option MV) (x : Int) (st : List MV) (μ : MM) (G : MG) : ev 197 26 [a0] (vR x :: st) μ G = if gk G x = 11 then ev 197 29 [a0] (vR (μ x 29) :: st) μ G else none := ev_if pg_197_26 rfl
theorem pg_197_29 : mm_prog 197 29 = some (0, .iconst 4, 30, []) := by decide +kernel
theorem xe_197_29 (a0 : Option MV) (st : List MV) (μ : MM) (G : MG) : ev 197 29 [a0] st μ G = ev 197 30 [a0] (vI (4) :: st) μ G := ev_stp pg_197_29 rfl
theorem pg_197_30 : mm_prog 197 30 = some (0, .iaload, 31, []) := by decide +kernel
theorem xe_197_30 (a0 : Option MV) (x y : Int) (st : List MV) (μ : MM) (G : MG) : ev 197 30 [a0] (vI x :: vR y :: st) μ G = if gk G y = 100 ∧ 0 ≤ x ∧ x < gl G y then ev 197 31 [a0] (vI (μ y x) :: st) μ G else none := ev_if pg_197_30 rfl
theorem pg_197_31 : mm_prog 197 31 = some (0, .sipush 4095, 34, []) := by decide +kernel
theorem xe_197_31 (a0 : Option MV) (st : List MV) (μ : MM) (G : MG) : ev 197 31 [a0] st μ G = ev 197 34 [a0] (vI (4095) :: st) μ G := ev_stp pg_197_31 rfl
theorem pg_197_34 : mm_prog 197 34 = some (0, .if_icmp .gt 79, 37, []) := by decide +kernel
theorem xe_197_34 (a0 : Option MV) (x y : Int) (st : List MV) (μ : MM) (G : MG) : ev 197 34 [a0] (vI y :: vI x :: st) μ G = if y < x then ev 197 113 [a0] st μ G else ev 197 37 [a0] st μ G := ev_br (mm_cnd_gt x y) pg_197_34 rfl
theorem pg_197_37 : mm_prog 197 37 = some (0, .aload_n 0, 38, []) := by decide +kernel
theorem xe_197_37 (x : Int) (st : List MV) (μ : MM) (G : MG) : ev 197 37 [some (vR x)] st μ G = ev 197 38 [some (vR x)] (vR x :: st) μ G := ev_stp pg_197_37 rfl
theorem pg_197_38 : mm_prog 197 38 = some (0, .getfield 63, 41, [11, 29, 2]) := by decide +kernel
theorem xe_197_38 (a0 : Option MV) (x : Int) (st : List MV) (μ : MM) (G : MG) : ev 197 38 [a0] (vR x :: st) μ G = if gk G x = 11 then ev 197 41 [a0] (vR (μ x 29) :: st) μ G else none := ev_if pg_197_38 rfl
theorem pg_197_41 : mm_prog 197 41 = some (0, .iconst 1, 42, []) := by decide +kernel
theorem xe_197_41 (a0 : Option MV) (st : List MV) (μ : MM) (G : MG) : ev 197 41 [a0] st μ G = ev 197 42 [a0] (vI (1) :: st) μ G := ev_stp pg_197_41 rfl
theorem pg_197_42 : mm_prog 197 42 = some (0, .iaload, 43, []) := by decide +kernel
theorem xe_197_42 (a0 : Option MV) (x y : Int) (st : List MV) (μ : MM) (G : MG) : ev 197 42 [a0] (vI x :: vR y :: st) μ G = if gk G y = 100 ∧ 0 ≤ x ∧ x < gl G y then ev 197 43 [a0] (vI (μ y x) :: st) μ G else none := ev_if pg_197_42 rfl
theorem pg_197_43 : mm_prog 197 43 = some (0, .sipush 4095, 46, []) := by decide +kernel
theorem xe_197_43 (a0 : Option MV) (st : List MV) (μ : MM) (G : MG) : ev 197 43 [a0] st μ G = ev 197 46 [a0] (vI (4095) :: st) μ G := ev_stp pg_197_43 rfl
theorem pg_197_46 : mm_prog 197 46 = some (0, .if_icmp .gt 67, 49, []) := by decide +kernel
theorem xe_197_46 (a0 : Option MV) (x y : Int) (st : List MV) (μ : MM) (G : MG) : ev 197 46 [a0] (vI y :: vI x :: st) μ G = if y < x then ev 197 113 [a0] st μ G else ev 197 49 [a0] st μ G := ev_br (mm_cnd_gt x y) pg_197_46 rfl
theorem pg_197_49 : mm_prog 197 49 = some (0, .aload_n 0, 50, []) := by decide +kernel
theorem xe_197_49 (x : Int) (st : List MV) (μ : MM) (G : MG) : ev 197 49 [some (vR x)] st μ G = ev 197 50 [some (vR x)] (vR x :: st) μ G := ev_stp pg_197_49 rfl
theorem pg_197_50 : mm_prog 197 50 = some (0, .getfield 63, 53, [11, 29, 2]) := by decide +kernel
theorem xe_197_50 (a0 : Option MV) (x : Int) (st : List MV) (μ : MM) (G : MG) : ev 197 50 [a0] (vR x :: st) μ G = if gk G x = 11 then ev 197 53 [a0] (vR (μ x 29) :: st) μ G else none := ev_if pg_197_50 rfl
theorem pg_197_53 : mm_prog 197 53 = some (0, .iconst 5, 54, []) := by decide +kernel
theorem xe_197_53 (a0 : Option MV) (st : List MV) (μ : MM) (G : MG) : ev 197 53 [a0] st μ G = ev 197 54 [a0] (vI (5) :: st) μ G := ev_stp pg_197_53 rfl
theorem pg_197_54 : mm_prog 197 54 = some (0, .iaload, 55, []) := by decide +kernel
theorem xe_197_54 (a0 : Option MV) (x y : Int) (st : List MV) (μ : MM) (G : MG) : ev 197 54 [a0] (vI x :: vR y :: st) μ G = if gk G y = 100 ∧ 0 ≤ x ∧ x < gl G y then ev 197 55 [a0] (vI (μ y x) :: st) μ G else none := ev_if pg_197_54 rfl
theorem pg_197_55 : mm_prog 197 55 = some (0, .sipush 4095, 58, []) := by decide +kernel
theorem xe_197_55 (a0 : Option MV) (st : List MV) (μ : MM) (G : MG) : ev 197 55 [a0] st μ G = ev 197 58 [a0] (vI (4095) :: st) μ G := ev_stp pg_197_55 rfl
theorem pg_197_58 : mm_prog 197 58 = some (0, .if_icmp .gt 55, 61, []) := by decide +kernel
theorem xe_197_58 (a0 : Option MV) (x y : Int) (st : List MV) (μ : MM) (G : MG) : ev 197 58 [a0] (vI y :: vI x :: st) μ G = if y < x then ev 197 113 [a0] st μ G else ev 197 61 [a0] st μ G := ev_br (mm_cnd_gt x y) pg_197_58 rfl
theorem pg_197_61 : mm_prog 197 61 = some (0, .aload_n 0, 62, []) := by decide +kernel
theorem xe_197_61 (x : Int) (st : List MV) (μ : MM) (G : MG) : ev 197 61 [some (vR x)] st μ G = ev 197 62 [some (vR x)] (vR x :: st) μ G := ev_stp pg_197_61 rfl
theorem pg_197_62 : mm_prog 197 62 = some (0, .getfield 63, 65, [11, 29, 2]) := by decide +kernel
theorem xe_197_62 (a0 : Option MV) (x : Int) (st : List MV) (μ : MM) (G : MG) : ev 197 62 [a0] (vR x :: st) μ G = if gk G x = 11 then ev 197 65 [a0] (vR (μ x 29) :: st) μ G else none := ev_if pg_197_62 rfl
theorem pg_197_65 : mm_prog 197 65 = some (0, .iconst 2, 66, []) := by decide +kernel
theorem xe_197_65 (a0 : Option MV) (st : List MV) (μ : MM) (G : MG) : ev 197 65 [a0] st μ G = ev 197 66 [a0] (vI (2) :: st) μ G := ev_stp pg_197_65 rfl
theorem pg_197_66 : mm_prog 197 66 = some (0, .iaload, 67, []) := by decide +kernel
theorem xe_197_66 (a0 : Option MV) (x y : Int) (st : List MV) (μ : MM) (G : MG) : ev 197 66 [a0] (vI x :: vR y :: st) μ G = if gk G y = 100 ∧ 0 ≤ x ∧ x < gl G y then ev 197 67 [a0] (vI (μ y x) :: st) μ G else none := ev_if pg_197_66 rfl
theorem pg_197_67 : mm_prog 197 67 = some (0, .sipush 1023, 70, []) := by decide +kernel
theorem xe_197_67 (a0 : Option MV) (st : List MV) (μ : MM) (G : MG) : ev 197 67 [a0] st μ G = ev 197 70 [a0] (vI (1023) :: st) μ G := ev_stp pg_197_67 rfl
theorem pg_197_70 : mm_prog 197 70 = some (0, .if_icmp .gt 43, 73, []) := by decide +kernel
theorem xe_197_70 (a0 : Option MV) (x y : Int) (st : List MV) (μ : MM) (G : MG) : ev 197 70 [a0] (vI y :: vI x :: st) μ G = if y < x then ev 197 113 [a0] st μ G else ev 197 73 [a0] st μ G := ev_br (mm_cnd_gt x y) pg_197_70 rfl
theorem pg_197_73 : mm_prog 197 73 = some (0, .aload_n 0, 74, []) := by decide +kernel
theorem xe_197_73 (x : Int) (st : List MV) (μ : MM) (G : MG) : ev 197 73 [some (vR x)] st μ G = ev 197 74 [some (vR x)] (vR x :: st) μ G := ev_stp pg_197_73 rfl
theorem pg_197_74 : mm_prog 197 74 = some (0, .getfield 63, 77, [11, 29, 2]) := by decide +kernel
theorem xe_197_74 (a0 : Option MV) (x : Int) (st : List MV) (μ : MM) (G : MG) : ev 197 74 [a0] (vR x :: st) μ G = if gk G x = 11 then ev 197 77 [a0] (vR (μ x 29) :: st) μ G else none := ev_if pg_197_74 rfl
theorem pg_197_77 : mm_prog 197 77 = some (0, .iconst 3, 78, []) := by decide +kernel
theorem xe_197_77 (a0 : Option MV) (st : List MV) (μ : MM) (G : MG) : ev 197 77 [a0] st μ G = ev 197 78 [a0] (vI (3) :: st) μ G := ev_stp pg_197_77 rfl
theorem pg_197_78 : mm_prog 197 78 = some (0, .iaload, 79, []) := by decide +kernel
theorem xe_197_78 (a0 : Option MV) (x y : Int) (st : List MV) (μ : MM) (G : MG) : ev 197 78 [a0] (vI x :: vR y :: st) μ G = if gk G y = 100 ∧ 0 ≤ x ∧ x < gl G y then ev 197 79 [a0] (vI (μ y x) :: st) μ G else none := ev_if pg_197_78 rfl
theorem pg_197_79 : mm_prog 197 79 = some (0, .sipush 1023, 82, []) := by decide +kernel
theorem xe_197_79 (a0 : Option MV) (st : List MV) (μ : MM) (G : MG) : ev 197 79 [a0] st μ G = ev 197 82 [a0] (vI (1023) :: st) μ G := ev_stp pg_197_79 rfl
theorem pg_197_82 : mm_prog 197 82 = some (0, .if_icmp .gt 31, 85, []) := by decide +kernel
theorem xe_197_82 (a0 : Option MV) (x y : Int) (st : List MV) (μ : MM) (G : MG) : ev 197 82 [a0] (vI y :: vI x :: st) μ G = if y < x then ev 197 113 [a0] st μ G else ev 197 85 [a0] st μ G := ev_br (mm_cnd_gt x y) pg_197_82 rfl
theorem pg_197_85 : mm_prog 197 85 = some (0, .aload_n 0, 86, []) := by decide +kernel
theorem xe_197_85 (x : Int) (st : List MV) (μ : MM) (G : MG) : ev 197 85 [some (vR x)] st μ G = ev 197 86 [some (vR x)] (vR x :: st) μ G := ev_stp pg_197_85 rfl
theorem pg_197_86 : mm_prog 197 86 = some (0, .getfield 63, 89, [11, 29, 2]) := by decide +kernel
theorem xe_197_86 (a0 : Option MV) (x : Int) (st : List MV) (μ : MM) (G : MG) : ev 197 86 [a0] (vR x :: st) μ G = if gk G x = 11 then ev 197 89 [a0] (vR (μ x 29) :: st) μ G else none := ev_if pg_197_86 rfl
theorem pg_197_89 : mm_prog 197 89 = some (0, .bipush 6, 91, []) := by decide +kernel
theorem xe_197_89 (a0 : Option MV) (st : List MV) (μ : MM) (G : MG) : ev 197 89 [a0] st μ G = ev 197 91 [a0] (vI (6) :: st) μ G := ev_stp pg_197_89 rfl
theorem pg_197_91 : mm_prog 197 91 = some (0, .iaload, 92, []) := by decide +kernel
theorem xe_197_91 (a0 : Option MV) (x y : Int) (st : List MV) (μ : MM) (G : MG) : ev 197 91 [a0] (vI x :: vR y :: st) μ G = if gk G y = 100 ∧ 0 ≤ x ∧ x < gl G y then ev 197 92 [a0] (vI (μ y x) :: st) μ G else none := ev_if pg_197_91 rfl
theorem pg_197_92 : mm_prog 197 92 = some (0, .bipush 63, 94, []) := by decide +kernel
theorem xe_197_92 (a0 : Option MV) (st : List MV) (μ : MM) (G : MG) : ev 197 92 [a0] st μ G = ev 197 94 [a0] (vI (63) :: st) μ G := ev_stp pg_197_92 rfl
theorem pg_197_94 : mm_prog 197 94 = some (0, .if_icmp .gt 19, 97, []) := by decide +kernel
theorem xe_197_94 (a0 : Option MV) (x y : Int) (st : List MV) (μ : MM) (G : MG) : ev 197 94 [a0] (vI y :: vI x :: st) μ G = if y < x then ev 197 113 [a0] st μ G else ev 197 97 [a0] st μ G := ev_br (mm_cnd_gt x y) pg_197_94 rfl
theorem pg_197_97 : mm_prog 197 97 = some (0, .aload_n 0, 98, []) := by decide +kernel
theorem xe_197_97 (x : Int) (st : List MV) (μ : MM) (G : MG) : ev 197 97 [some (vR x)] st μ G = ev 197 98 [some (vR x)] (vR x :: st) μ G := ev_stp pg_197_97 rfl
theorem pg_197_98 : mm_prog 197 98 = some (0, .getfield 63, 101, [11, 29, 2]) := by decide +kernel
theorem xe_197_98 (a0 : Option MV) (x : Int) (st : List MV) (μ : MM) (G : MG) : ev 197 98 [a0] (vR x :: st) μ G = if gk G x = 11 then ev 197 101 [a0] (vR (μ x 29) :: st) μ G else none := ev_if pg_197_98 rfl
theorem pg_197_101 : mm_prog 197 101 = some (0, .bipush 7, 103, []) := by decide +kernel
theorem xe_197_101 (a0 : Option MV) (st : List MV) (μ : MM) (G : MG) : ev 197 101 [a0] st μ G = ev 197 103 [a0] (vI (7) :: st) μ G := ev_stp pg_197_101 rfl
theorem pg_197_103 : mm_prog 197 103 = some (0, .iaload, 104, []) := by decide +kernel
theorem xe_197_103 (a0 : Option MV) (x y : Int) (st : List MV) (μ : MM) (G : MG) : ev 197 103 [a0] (vI x :: vR y :: st) μ G = if gk G y = 100 ∧ 0 ≤ x ∧ x < gl G y then ev 197 104 [a0] (vI (μ y x) :: st) μ G else none := ev_if pg_197_103 rfl
theorem pg_197_104 : mm_prog 197 104 = some (0, .bipush 63, 106, []) := by decide +kernel
theorem xe_197_104 (a0 : Option MV) (st : List MV) (μ : MM) (G : MG) : ev 197 104 [a0] st μ G = ev 197 106 [a0] (vI (63) :: st) μ G := ev_stp pg_197_104 rfl
theorem pg_197_106 : mm_prog 197 106 = some (0, .if_icmp .gt 7, 109, []) := by decide +kernel
theorem xe_197_106 (a0 : Option MV) (x y : Int) (st : List MV) (μ : MM) (G : MG) : ev 197 106 [a0] (vI y :: vI x :: st) μ G = if y < x then ev 197 113 [a0] st μ G else ev 197 109 [a0] st μ G := ev_br (mm_cnd_gt x y) pg_197_106 rfl
theorem pg_197_109 : mm_prog 197 109 = some (0, .iconst 1, 110, []) := by decide +kernel
theorem xe_197_109 (a0 : Option MV) (st : List MV) (μ : MM) (G : MG) : ev 197 109 [a0] st μ G = ev 197 110 [a0] (vI (1) :: st) μ G := ev_stp pg_197_109 rfl
theorem pg_197_110 : mm_prog 197 110 = some (0, .goto 4, 113, []) := by decide +kernel
theorem xe_197_110 (a0 : Option MV) (st : List MV) (μ : MM) (G : MG) : ev 197 110 [a0] st μ G = ev 197 114 [a0] st μ G := ev_stp pg_197_110 rfl
theorem pg_197_113 : mm_prog 197 113 = some (0, .iconst 0, 114, []) := by decide +kernel
theorem xe_197_113 (a0 : Option MV) (st : List MV) (μ : MM) (G : MG) : ev 197 113 [a0] st μ G = ev 197 114 [a0] (vI (0) :: st) μ G := ev_stp pg_197_113 rfl
theorem pg_197_114 : mm_prog 197 114 = some (2, .ireturn, 115, [1]) := by decide +kernel
theorem xe_197_114 (a0 : Option MV) (x : Int) (μ : MM) (G : MG) : ev 197 114 [a0] [vI x] μ G = if x = 0 ∨ x = 1 then some (some (vI x), μ, G) else none := ev_retB pg_197_114
-- X11_descriptorByte
theorem pg_198_0 : mm_prog 198 0 = some (0, .iload_n 1, 1, []) := by decide +kernel
theorem xe_198_0 (a0 : Option MV) (x : Int) (st : List MV) (μ : MM) (G : MG) : ev 198 0 [a0, some (vI x)] st μ G = ev 198 1 [a0, some (vI x)] (vI x :: st) μ G := ev_stp pg_198_0 rfl
theorem pg_198_1 : mm_prog 198 1 = some (0, .tableswitch 283 0 11 #[63, 78, 90, 101, 112, 137, 148, 159, 184, 195, 206, 231], 64, [284, 0, 64, 1, 79, 2, 91, 3, 102, 4, 113, 5, 138, 6, 149, 7, 160, 8, 185, 9, 196, 10, 207, 11, 232]) := by decide +kernel
theorem xe_198_1 (a0 a1 : Option MV) (x : Int) (st : List MV) (μ : MM) (G : MG) : ev 198 1 [a0, a1] (vI x :: st) μ G = if x = 0 then ev 198 64 [a0, a1] st μ G else if x = 1 then ev 198 79 [a0, a1] st μ G else if x = 2 then ev 198 91 [a0, a1] st μ G else if x = 3 then ev 198 102 [a0, a1] st μ G else if x = 4 then ev 198 113 [a0, a1] st μ G else if x = 5 then ev 198 138 [a0, a1] st μ G else if x = 6 then ev 198 149 [a0, a1] st μ G else if x = 7 then ev 198 160 [a0, a1] st μ G else if x = 8 then ev 198 185 [a0, a1] st μ G else if x = 9 then ev 198 196 [a0, a1] st μ G else if x = 10 then ev 198 207 [a0, a1] st μ G else if x = 11 then ev 198 232 [a0, a1] st μ G else ev 198 284 [a0, a1] st μ G := ev_sw (x := x) (d := 284) (l := [0, 64, 1, 79, 2, 91, 3, 102, 4, 113, 5, 138, 6, 149, 7, 160, 8, 185, 9, 196, 10, 207, 11, 232]) (st' := st) pg_198_1 rfl
theorem pg_198_64 : mm_prog 198 64 = some (0, .aload_n 0, 65, []) := by decide +kernel
theorem xe_198_64 (a1 : Option MV) (x : Int) (st : List MV) (μ : MM) (G : MG) : ev 198 64 [some (vR x), a1] st μ G = ev 198 65 [some (vR x), a1] (vR x :: st) μ G := ev_stp pg_198_64 rfl
theorem pg_198_65 : mm_prog 198 65 = some (0, .getfield 63, 68, [11, 29, 2]) := by decide +kernel
theorem xe_198_65 (a0 a1 : Option MV) (x : Int) (st : List MV) (μ : MM) (G : MG) : ev 198 65 [a0, a1] (vR x :: st) μ G = if gk G x = 11 then ev 198 68 [a0, a1] (vR (μ x 29) :: st) μ G else none := ev_if pg_198_65 rfl
theorem pg_198_68 : mm_prog 198 68 = some (0, .bipush 8, 70, []) := by decide +kernel
theorem xe_198_68 (a0 a1 : Option MV) (st : List MV) (μ : MM) (G : MG) : ev 198 68 [a0, a1] st μ G = ev 198 70 [a0, a1] (vI (8) :: st) μ G := ev_stp pg_198_68 rfl
theorem pg_198_70 : mm_prog 198 70 = some (0, .iaload, 71, []) := by decide +kernel
theorem xe_198_70 (a0 a1 : Option MV) (x y : Int) (st : List MV) (μ : MM) (G : MG) : ev 198 70 [a0, a1] (vI x :: vR y :: st) μ G = if gk G y = 100 ∧ 0 ≤ x ∧ x < gl G y then ev 198 71 [a0, a1] (vI (μ y x) :: st) μ G else none := ev_if pg_198_70 rfl
theorem pg_198_71 : mm_prog 198 71 = some (0, .bipush 10, 73, []) := by decide +kernel
theorem xe_198_71 (a0 a1 : Option MV) (st : List MV) (μ : MM) (G : MG) : ev 198 71 [a0, a1] st μ G = ev 198 73 [a0, a1] (vI (10) :: st) μ G := ev_stp pg_198_71 rfl
theorem pg_198_73 : mm_prog 198 73 = some (0, .idiv, 74, []) := by decide +kernel
theorem xe_198_73 (a0 a1 : Option MV) (x y : Int) (st : List MV) (μ : MM) (G : MG) : ev 198 73 [a0, a1] (vI y :: vI x :: st) μ G = if y = 0 then none else ev 198 74 [a0, a1] (vI (mm_div x y) :: st) μ G := ev_no pg_198_73 rfl
theorem pg_198_74 : mm_prog 198 74 = some (0, .sipush 256, 77, []) := by decide +kernel
theorem xe_198_74 (a0 a1 : Option MV) (st : List MV) (μ : MM) (G : MG) : ev 198 74 [a0, a1] st μ G = ev 198 77 [a0, a1] (vI (256) :: st) μ G := ev_stp pg_198_74 rfl
theorem pg_198_77 : mm_prog 198 77 = some (0, .irem, 78, []) := by decide +kernel
theorem xe_198_77 (a0 a1 : Option MV) (x y : Int) (st : List MV) (μ : MM) (G : MG) : ev 198 77 [a0, a1] (vI y :: vI x :: st) μ G = if y = 0 then none else ev 198 78 [a0, a1] (vI (mm_rem x y) :: st) μ G := ev_no pg_198_77 rfl
theorem pg_198_78 : mm_prog 198 78 = some (2, .ireturn, 79, [0]) := by decide +kernel
theorem xe_198_78 (a0 a1 : Option MV) (x : Int) (μ : MM) (G : MG) : ev 198 78 [a0, a1] [vI x] μ G = some (some (vI x), μ, G) := ev_ret pg_198_78 rfl
theorem pg_198_79 : mm_prog 198 79 = some (0, .aload_n 0, 80, []) := by decide +kernel
theorem xe_198_79 (a1 : Option MV) (x : Int) (st : List MV) (μ : MM) (G : MG) : ev 198 79 [some (vR x), a1] st μ G = ev 198 80 [some (vR x), a1] (vR x :: st) μ G := ev_stp pg_198_79 rfl
theorem pg_198_80 : mm_prog 198 80 = some (0, .getfield 63, 83, [11, 29, 2]) := by decide +kernel
theorem xe_198_80 (a0 a1 : Option MV) (x : Int) (st : List MV) (μ : MM) (G : MG) : ev 198 80 [a0, a1] (vR x :: st) μ G = if gk G x = 11 then ev 198 83 [a0, a1] (vR (μ x 29) :: st) μ G else none := ev_if pg_198_80 rfl
theorem pg_198_83 : mm_prog 198 83 = some (0, .bipush 8, 85, []) := by decide +kernel
theorem xe_198_83 (a0 a1 : Option MV) (st : List MV) (μ : MM) (G : MG) : ev 198 83 [a0, a1] st μ G = ev 198 85 [a0, a1] (vI (8) :: st) μ G := ev_stp pg_198_83 rfl
theorem pg_198_85 : mm_prog 198 85 = some (0, .iaload, 86, []) := by decide +kernel
theorem xe_198_85 (a0 a1 : Option MV) (x y : Int) (st : List MV) (μ : MM) (G : MG) : ev 198 85 [a0, a1] (vI x :: vR y :: st) μ G = if gk G y = 100 ∧ 0 ≤ x ∧ x < gl G y then ev 198 86 [a0, a1] (vI (μ y x) :: st) μ G else none := ev_if pg_198_85 rfl
theorem pg_198_86 : mm_prog 198 86 = some (0, .sipush 2560, 89, []) := by decide +kernel
theorem xe_198_86 (a0 a1 : Option MV) (st : List MV) (μ : MM) (G : MG) : ev 198 86 [a0, a1] st μ G = ev 198 89 [a0, a1] (vI (2560) :: st) μ G := ev_stp pg_198_86 rfl
theorem pg_198_89 : mm_prog 198 89 = some (0, .idiv, 90, []) := by decide +kernel
theorem xe_198_89 (a0 a1 : Option MV) (x y : Int) (st : List MV) (μ : MM) (G : MG) : ev 198 89 [a0, a1] (vI y :: vI x :: st) μ G = if y = 0 then none else ev 198 90 [a0, a1] (vI (mm_div x y) :: st) μ G := ev_no pg_198_89 rfl
theorem pg_198_90 : mm_prog 198 90 = some (2, .ireturn, 91, [0]) := by decide +kernel
theorem xe_198_90 (a0 a1 : Option MV) (x : Int) (μ : MM) (G : MG) : ev 198 90 [a0, a1] [vI x] μ G = some (some (vI x), μ, G) := ev_ret pg_198_90 rfl
theorem pg_198_91 : mm_prog 198 91 = some (0, .aload_n 0, 92, []) := by decide +kernel
theorem xe_198_91 (a1 : Option MV) (x : Int) (st : List MV) (μ : MM) (G : MG) : ev 198 91 [some (vR x), a1] st μ G = ev 198 92 [some (vR x), a1] (vR x :: st) μ G := ev_stp pg_198_91 rfl
theorem pg_198_92 : mm_prog 198 92 = some (0, .getfield 63, 95, [11, 29, 2]) := by decide +kernel
theorem xe_198_92 (a0 a1 : Option MV) (x : Int) (st : List MV) (μ : MM) (G : MG) : ev 198 92 [a0, a1] (vR x :: st) μ G = if gk G x = 11 then ev 198 95 [a0, a1] (vR (μ x 29) :: st) μ G else none := ev_if pg_198_92 rfl
theorem pg_198_95 : mm_prog 198 95 = some (0, .iconst 0, 96, []) := by decide +kernel
theorem xe_198_95 (a0 a1 : Option MV) (st : List MV) (μ : MM) (G : MG) : ev 198 95 [a0, a1] st μ G = ev 198 96 [a0, a1] (vI (0) :: st) μ G := ev_stp pg_198_95 rfl
theorem pg_198_96 : mm_prog 198 96 = some (0, .iaload, 97, []) := by decide +kernel
theorem xe_198_96 (a0 a1 : Option MV) (x y : Int) (st : List MV) (μ : MM) (G : MG) : ev 198 96 [a0, a1] (vI x :: vR y :: st) μ G = if gk G y = 100 ∧ 0 ≤ x ∧ x < gl G y then ev 198 97 [a0, a1] (vI (μ y x) :: st) μ G else none := ev_if pg_198_96 rfl
theorem pg_198_97 : mm_prog 198 97 = some (0, .sipush 256, 100, []) := by decide +kernel
theorem xe_198_97 (a0 a1 : Option MV) (st : List MV) (μ : MM) (G : MG) : ev 198 97 [a0, a1] st μ G = ev 198 100 [a0, a1] (vI (256) :: st) μ G := ev_stp pg_198_97 rfl
theorem pg_198_100 : mm_prog 198 100 = some (0, .irem, 101, []) := by decide +kernel
theorem xe_198_100 (a0 a1 : Option MV) (x y : Int) (st : List MV) (μ : MM) (G : MG) : ev 198 100 [a0, a1] (vI y :: vI x :: st) μ G = if y = 0 then none else ev 198 101 [a0, a1] (vI (mm_rem x y) :: st) μ G := ev_no pg_198_100 rfl
theorem pg_198_101 : mm_prog 198 101 = some (2, .ireturn, 102, [0]) := by decide +kernel
theorem xe_198_101 (a0 a1 : Option MV) (x : Int) (μ : MM) (G : MG) : ev 198 101 [a0, a1] [vI x] μ G = some (some (vI x), μ, G) := ev_ret pg_198_101 rfl
theorem pg_198_102 : mm_prog 198 102 = some (0, .aload_n 0, 103, []) := by decide +kernel
theorem xe_198_102 (a1 : Option MV) (x : Int) (st : List MV) (μ : MM) (G : MG) : ev 198 102 [some (vR x), a1] st μ G = ev 198 103 [some (vR x), a1] (vR x :: st) μ G := ev_stp pg_198_102 rfl
theorem pg_198_103 : mm_prog 198 103 = some (0, .getfield 63, 106, [11, 29, 2]) := by decide +kernel
theorem xe_198_103 (a0 a1 : Option MV) (x : Int) (st : List MV) (μ : MM) (G : MG) : ev 198 103 [a0, a1] (vR x :: st) μ G = if gk G x = 11 then ev 198 106 [a0, a1] (vR (μ x 29) :: st) μ G else none := ev_if pg_198_103 rfl
theorem pg_198_106 : mm_prog 198 106 = some (0, .iconst 1, 107, []) := by decide +kernel
theorem xe_198_106 (a0 a1 : Option MV) (st : List MV) (μ : MM) (G : MG) : ev 198 106 [a0, a1] st μ G = ev 198 107 [a0, a1] (vI (1) :: st) μ G := ev_stp pg_198_106 rfl
theorem pg_198_107 : mm_prog 198 107 = some (0, .iaload, 108, []) := by decide +kernel
theorem xe_198_107 (a0 a1 : Option MV) (x y : Int) (st : List MV) (μ : MM) (G : MG) : ev 198 107 [a0, a1] (vI x :: vR y :: st) μ G = if gk G y = 100 ∧ 0 ≤ x ∧ x < gl G y then ev 198 108 [a0, a1] (vI (μ y x) :: st) μ G else none := ev_if pg_198_107 rfl
theorem pg_198_108 : mm_prog 198 108 = some (0, .sipush 256, 111, []) := by decide +kernel
theorem xe_198_108 (a0 a1 : Option MV) (st : List MV) (μ : MM) (G : MG) : ev 198 108 [a0, a1] st μ G = ev 198 111 [a0, a1] (vI (256) :: st) μ G := ev_stp pg_198_108 rfl
theorem pg_198_111 : mm_prog 198 111 = some (0, .irem, 112, []) := by decide +kernel
theorem xe_198_111 (a0 a1 : Option MV) (x y : Int) (st : List MV) (μ : MM) (G : MG) : ev 198 111 [a0, a1] (vI y :: vI x :: st) μ G = if y = 0 then none else ev 198 112 [a0, a1] (vI (mm_rem x y) :: st) μ G := ev_no pg_198_111 rfl
theorem pg_198_112 : mm_prog 198 112 = some (2, .ireturn, 113, [0]) := by decide +kernel
theorem xe_198_112 (a0 a1 : Option MV) (x : Int) (μ : MM) (G : MG) : ev 198 112 [a0, a1] [vI x] μ G = some (some (vI x), μ, G) := ev_ret pg_198_112 rfl
theorem pg_198_113 : mm_prog 198 113 = some (0, .aload_n 0, 114, []) := by decide +kernel
theorem xe_198_113 (a1 : Option MV) (x : Int) (st : List MV) (μ : MM) (G : MG) : ev 198 113 [some (vR x), a1] st μ G = ev 198 114 [some (vR x), a1] (vR x :: st) μ G := ev_stp pg_198_113 rfl
theorem pg_198_114 : mm_prog 198 114 = some (0, .getfield 63, 117, [11, 29, 2]) := by decide +kernel
theorem xe_198_114 (a0 a1 : Option MV) (x : Int) (st : List MV) (μ : MM) (G : MG) : ev 198 114 [a0, a1] (vR x :: st) μ G = if gk G x = 11 then ev 198 117 [a0, a1] (vR (μ x 29) :: st) μ G else none := ev_if pg_198_114 rfl
theorem pg_198_117 : mm_prog 198 117 = some (0, .iconst 0, 118, []) := by decide +kernel
theorem xe_198_117 (a0 a1 : Option MV) (st : List MV) (μ : MM) (G : MG) : ev 198 117 [a0, a1] st μ G = ev 198 118 [a0, a1] (vI (0) :: st) μ G := ev_stp pg_198_117 rfl
theorem pg_198_118 : mm_prog 198 118 = some (0, .iaload, 119, []) := by decide +kernel
theorem xe_198_118 (a0 a1 : Option MV) (x y : Int) (st : List MV) (μ : MM) (G : MG) : ev 198 118 [a0, a1] (vI x :: vR y :: st) μ G = if gk G y = 100 ∧ 0 ≤ x ∧ x < gl G y then ev 198 119 [a0, a1] (vI (μ y x) :: st) μ G else none := ev_if pg_198_118 rfl
theorem pg_198_119 : mm_prog 198 119 = some (0, .sipush 256, 122, []) := by decide +kernel
theorem xe_198_119 (a0 a1 : Option MV) (st : List MV) (μ : MM) (G : MG) : ev 198 119 [a0, a1] st μ G = ev 198 122 [a0, a1] (vI (256) :: st) μ G := ev_stp pg_198_119 rfl
theorem pg_198_122 : mm_prog 198 122 = some (0, .idiv, 123, []) := by decide +kernel
theorem xe_198_122 (a0 a1 : Option MV) (x y : Int) (st : List MV) (μ : MM) (G : MG) : ev 198 122 [a0, a1] (vI y :: vI x :: st) μ G = if y = 0 then none else ev 198 123 [a0, a1] (vI (mm_div x y) :: st) μ G := ev_no pg_198_122 rfl
theorem pg_198_123 : mm_prog 198 123 = some (0, .bipush 16, 125, []) := by decide +kernel
theorem xe_198_123 (a0 a1 : Option MV) (st : List MV) (μ : MM) (G : MG) : ev 198 123 [a0, a1] st μ G = ev 198 125 [a0, a1] (vI (16) :: st) μ G := ev_stp pg_198_123 rfl
theorem pg_198_125 : mm_prog 198 125 = some (0, .imul, 126, []) := by decide +kernel
theorem xe_198_125 (a0 a1 : Option MV) (x y : Int) (st : List MV) (μ : MM) (G : MG) : ev 198 125 [a0, a1] (vI y :: vI x :: st) μ G = ev 198 126 [a0, a1] (vI (w32 (x * y)) :: st) μ G := ev_stp pg_198_125 rfl
theorem pg_198_126 : mm_prog 198 126 = some (0, .aload_n 0, 127, []) := by decide +kernel
theorem xe_198_126 (a1 : Option MV) (x : Int) (st : List MV) (μ : MM) (G : MG) : ev 198 126 [some (vR x), a1] st μ G = ev 198 127 [some (vR x), a1] (vR x :: st) μ G := ev_stp pg_198_126 rfl
theorem pg_198_127 : mm_prog 198 127 = some (0, .getfield 63, 130, [11, 29, 2]) := by decide +kernel
theorem xe_198_127 (a0 a1 : Option MV) (x : Int) (st : List MV) (μ : MM) (G : MG) : ev 198 127 [a0, a1] (vR x :: st) μ G = if gk G x = 11 then ev 198 130 [a0, a1] (vR (μ x 29) :: st) μ G else none := ev_if pg_198_127 rfl
theorem pg_198_130 : mm_prog 198 130 = some (0, .iconst 1, 131, []) := by decide +kernel
theorem xe_198_130 (a0 a1 : Option MV) (st : List MV) (μ : MM) (G : MG) : ev 198 130 [a0, a1] st μ G = ev 198 131 [a0, a1] (vI (1) :: st) μ G := ev_stp pg_198_130 rfl
theorem pg_198_131 : mm_prog 198 131 = some (0, .iaload, 132, []) := by decide +kernel
theorem xe_198_131 (a0 a1 : Option MV) (x y : Int) (st : List MV) (μ : MM) (G : MG) : ev 198 131 [a0, a1] (vI x :: vR y :: st) μ G = if gk G y = 100 ∧ 0 ≤ x ∧ x < gl G y then ev 198 132 [a0, a1] (vI (μ y x) :: st) μ G else none := ev_if pg_198_131 rfl
theorem pg_198_132 : mm_prog 198 132 = some (0, .sipush 256, 135, []) := by decide +kernel
theorem xe_198_132 (a0 a1 : Option MV) (st : List MV) (μ : MM) (G : MG) : ev 198 132 [a0, a1] st μ G = ev 198 135 [a0, a1] (vI (256) :: st) μ G := ev_stp pg_198_132 rfl
theorem pg_198_135 : mm_prog 198 135 = some (0, .idiv, 136, []) := by decide +kernel
theorem xe_198_135 (a0 a1 : Option MV) (x y : Int) (st : List MV) (μ : MM) (G : MG) : ev 198 135 [a0, a1] (vI y :: vI x :: st) μ G = if y = 0 then none else ev 198 136 [a0, a1] (vI (mm_div x y) :: st) μ G := ev_no pg_198_135 rfl
theorem pg_198_136 : mm_prog 198 136 = some (0, .iadd, 137, []) := by decide +kernel
theorem xe_198_136 (a0 a1 : Option MV) (x y : Int) (st : List MV) (μ : MM) (G : MG) : ev 198 136 [a0, a1] (vI y :: vI x :: st) μ G = ev 198 137 [a0, a1] (vI (w32 (x + y)) :: st) μ G := ev_stp pg_198_136 rfl
theorem pg_198_137 : mm_prog 198 137 = some (2, .ireturn, 138, [0]) := by decide +kernel
theorem xe_198_137 (a0 a1 : Option MV) (x : Int) (μ : MM) (G : MG) : ev 198 137 [a0, a1] [vI x] μ G = some (some (vI x), μ, G) := ev_ret pg_198_137 rfl
theorem pg_198_138 : mm_prog 198 138 = some (0, .aload_n 0, 139, []) := by decide +kernel
theorem xe_198_138 (a1 : Option MV) (x : Int) (st : List MV) (μ : MM) (G : MG) : ev 198 138 [some (vR x), a1] st μ G = ev 198 139 [some (vR x), a1] (vR x :: st) μ G := ev_stp pg_198_138 rfl
theorem pg_198_139 : mm_prog 198 139 = some (0, .getfield 63, 142, [11, 29, 2]) := by decide +kernel
theorem xe_198_139 (a0 a1 : Option MV) (x : Int) (st : List MV) (μ : MM) (G : MG) : ev 198 139 [a0, a1] (vR x :: st) μ G = if gk G x = 11 then ev 198 142 [a0, a1] (vR (μ x 29) :: st) μ G else none := ev_if pg_198_139 rfl
theorem pg_198_142 : mm_prog 198 142 = some (0, .iconst 4, 143, []) := by decide +kernel
theorem xe_198_142 (a0 a1 : Option MV) (st : List MV) (μ : MM) (G : MG) : ev 198 142 [a0, a1] st μ G = ev 198 143 [a0, a1] (vI (4) :: st) μ G := ev_stp pg_198_142 rfl
theorem pg_198_143 : mm_prog 198 143 = some (0, .iaload, 144, []) := by decide +kernel
theorem xe_198_143 (a0 a1 : Option MV) (x y : Int) (st : List MV) (μ : MM) (G : MG) : ev 198 143 [a0, a1] (vI x :: vR y :: st) μ G = if gk G y = 100 ∧ 0 ≤ x ∧ x < gl G y then ev 198 144 [a0, a1] (vI (μ y x) :: st) μ G else none := ev_if pg_198_143 rfl
theorem pg_198_144 : mm_prog 198 144 = some (0, .sipush 256, 147, []) := by decide +kernel
theorem xe_198_144 (a0 a1 : Option MV) (st : List MV) (μ : MM) (G : MG) : ev 198 144 [a0, a1] st μ G = ev 198 147 [a0, a1] (vI (256) :: st) μ G := ev_stp pg_198_144 rfl
theorem pg_198_147 : mm_prog 198 147 = some (0, .irem, 148, []) := by decide +kernel
theorem xe_198_147 (a0 a1 : Option MV) (x y : Int) (st : List MV) (μ : MM) (G : MG) : ev 198 147 [a0, a1] (vI y :: vI x :: st) μ G = if y = 0 then none else ev 198 148 [a0, a1] (vI (mm_rem x y) :: st) μ G := ev_no pg_198_147 rfl
theorem pg_198_148 : mm_prog 198 148 = some (2, .ireturn, 149, [0]) := by decide +kernel
theorem xe_198_148 (a0 a1 : Option MV) (x : Int) (μ : MM) (G : MG) : ev 198 148 [a0, a1] [vI x] μ G = some (some (vI x), μ, G) := ev_ret pg_198_148 rfl
theorem pg_198_149 : mm_prog 198 149 = some (0, .aload_n 0, 150, []) := by decide +kernel
theorem xe_198_149 (a1 : Option MV) (x : Int) (st : List MV) (μ : MM) (G : MG) : ev 198 149 [some (vR x), a1] st μ G = ev 198 150 [some (vR x), a1] (vR x :: st) μ G := ev_stp pg_198_149 rfl
theorem pg_198_150 : mm_prog 198 150 = some (0, .getfield 63, 153, [11, 29, 2]) := by decide +kernel
theorem xe_198_150 (a0 a1 : Option MV) (x : Int) (st : List MV) (μ : MM) (G : MG) : ev 198 150 [a0, a1] (vR x :: st) μ G = if gk G x = 11 then ev 198 153 [a0, a1] (vR (μ x 29) :: st) μ G else none := ev_if pg_198_150 rfl
theorem pg_198_153 : mm_prog 198 153 = some (0, .iconst 5, 154, []) := by decide +kernel
theorem xe_198_153 (a0 a1 : Option MV) (st : List MV) (μ : MM) (G : MG) : ev 198 153 [a0, a1] st μ G = ev 198 154 [a0, a1] (vI (5) :: st) μ G := ev_stp pg_198_153 rfl
theorem pg_198_154 : mm_prog 198 154 = some (0, .iaload, 155, []) := by decide +kernel
theorem xe_198_154 (a0 a1 : Option MV) (x y : Int) (st : List MV) (μ : MM) (G : MG) : ev 198 154 [a0, a1] (vI x :: vR y :: st) μ G = if gk G y = 100 ∧ 0 ≤ x ∧ x < gl G y then ev 198 155 [a0, a1] (vI (μ y x) :: st) μ G else none := ev_if pg_198_154 rfl
theorem pg_198_155 : mm_prog 198 155 = some (0, .sipush 256, 158, []) := by decide +kernel
theorem xe_198_155 (a0 a1 : Option MV) (st : List MV) (μ : MM) (G : MG) : ev 198 155 [a0, a1] st μ G = ev 198 158 [a0, a1] (vI (256) :: st) μ G := ev_stp pg_198_155 rfl
theorem pg_198_158 : mm_prog 198 158 = some (0, .irem, 159, []) := by decide +kernel
theorem xe_198_158 (a0 a1 : Option MV) (x y : Int) (st : List MV) (μ : MM) (G : MG) : ev 198 158 [a0, a1] (vI y :: vI x :: st) μ G = if y = 0 then none else ev 198 159 [a0, a1] (vI (mm_rem x y) :: st) μ G := ev_no pg_198_158 rfl
theorem pg_198_159 : mm_prog 198 159 = some (2, .ireturn, 160, [0]) := by decide +kernel
theorem xe_198_159 (a0 a1 : Option MV) (x : Int) (μ : MM) (G : MG) : ev 198 159 [a0, a1] [vI x] μ G = some (some (vI x), μ, G) := ev_ret pg_198_159 rfl
theorem pg_198_160 : mm_prog 198 160 = some (0, .aload_n 0, 161, []) := by decide +kernel
theorem xe_198_160 (a1 : Option MV) (x : Int) (st : List MV) (μ : MM) (G : MG) : ev 198 160 [some (vR x), a1] st μ G = ev 198 161 [some (vR x), a1] (vR x :: st) μ G := ev_stp pg_198_160 rfl
theorem pg_198_161 : mm_prog 198 161 = some (0, .getfield 63, 164, [11, 29, 2]) := by decide +kernel
theorem xe_198_161 (a0 a1 : Option MV) (x : Int) (st : List MV) (μ : MM) (G : MG) : ev 198 161 [a0, a1] (vR x :: st) μ G = if gk G x = 11 then ev 198 164 [a0, a1] (vR (μ x 29) :: st) μ G else none := ev_if pg_198_161 rfl
theorem pg_198_164 : mm_prog 198 164 = some (0, .iconst 4, 165, []) := by decide +kernel
theorem xe_198_164 (a0 a1 : Option MV) (st : List MV) (μ : MM) (G : MG) : ev 198 164 [a0, a1] st μ G = ev 198 165 [a0, a1] (vI (4) :: st) μ G := ev_stp pg_198_164 rfl
theorem pg_198_165 : mm_prog 198 165 = some (0, .iaload, 166, []) := by decide +kernel
theorem xe_198_165 (a0 a1 : Option MV) (x y : Int) (st : List MV) (μ : MM) (G : MG) : ev 198 165 [a0, a1] (vI x :: vR y :: st) μ G = if gk G y = 100 ∧ 0 ≤ x ∧ x < gl G y then ev 198 166 [a0, a1] (vI (μ y x) :: st) μ G else none := ev_if pg_198_165 rfl
theorem pg_198_166 : mm_prog 198 166 = some (0, .sipush 256, 169, []) := by decide +kernel
theorem xe_198_166 (a0 a1 : Option MV) (st : List MV) (μ : MM) (G : MG) : ev 198 166 [a0, a1] st μ G = ev 198 169 [a0, a1] (vI (256) :: st) μ G := ev_stp pg_198_166 rfl
theorem pg_198_169 : mm_prog 198 169 = some (0, .idiv, 170, []) := by decide +kernel
theorem xe_198_169 (a0 a1 : Option MV) (x y : Int) (st : List MV) (μ : MM) (G : MG) : ev 198 169 [a0, a1] (vI y :: vI x :: st) μ G = if y = 0 then none else ev 198 170 [a0, a1] (vI (mm_div x y) :: st) μ G := ev_no pg_198_169 rfl
theorem pg_198_170 : mm_prog 198 170 = some (0, .bipush 16, 172, []) := by decide +kernel
theorem xe_198_170 (a0 a1 : Option MV) (st : List MV) (μ : MM) (G : MG) : ev 198 170 [a0, a1] st μ G = ev 198 172 [a0, a1] (vI (16) :: st) μ G := ev_stp pg_198_170 rfl
theorem pg_198_172 : mm_prog 198 172 = some (0, .imul, 173, []) := by decide +kernel
theorem xe_198_172 (a0 a1 : Option MV) (x y : Int) (st : List MV) (μ : MM) (G : MG) : ev 198 172 [a0, a1] (vI y :: vI x :: st) μ G = ev 198 173 [a0, a1] (vI (w32 (x * y)) :: st) μ G := ev_stp pg_198_172 rfl
theorem pg_198_173 : mm_prog 198 173 = some (0, .aload_n 0, 174, []) := by decide +kernel
theorem xe_198_173 (a1 : Option MV) (x : Int) (st : List MV) (μ : MM) (G : MG) : ev 198 173 [some (vR x), a1] st μ G = ev 198 174 [some (vR x), a1] (vR x :: st) μ G := ev_stp pg_198_173 rfl
theorem pg_198_174 : mm_prog 198 174 = some (0, .getfield 63, 177, [11, 29, 2]) := by decide +kernel
theorem xe_198_174 (a0 a1 : Option MV) (x : Int) (st : List MV) (μ : MM) (G : MG) : ev 198 174 [a0, a1] (vR x :: st) μ G = if gk G x = 11 then ev 198 177 [a0, a1] (vR (μ x 29) :: st) μ G else none := ev_if pg_198_174 rfl
theorem pg_198_177 : mm_prog 198 177 = some (0, .iconst 5, 178, []) := by decide +kernel
theorem xe_198_177 (a0 a1 : Option MV) (st : List MV) (μ : MM) (G : MG) : ev 198 177 [a0, a1] st μ G = ev 198 178 [a0, a1] (vI (5) :: st) μ G := ev_stp pg_198_177 rfl
theorem pg_198_178 : mm_prog 198 178 = some (0, .iaload, 179, []) := by decide +kernel
theorem xe_198_178 (a0 a1 : Option MV) (x y : Int) (st : List MV) (μ : MM) (G : MG) : ev 198 178 [a0, a1] (vI x :: vR y :: st) μ G = if gk G y = 100 ∧ 0 ≤ x ∧ x < gl G y then ev 198 179 [a0, a1] (vI (μ y x) :: st) μ G else none := ev_if pg_198_178 rfl
theorem pg_198_179 : mm_prog 198 179 = some (0, .sipush 256, 182, []) := by decide +kernel
theorem xe_198_179 (a0 a1 : Option MV) (st : List MV) (μ : MM) (G : MG) : ev 198 179 [a0, a1] st μ G = ev 198 182 [a0, a1] (vI (256) :: st) μ G := ev_stp pg_198_179 rfl
theorem pg_198_182 : mm_prog 198 182 = some (0, .idiv, 183, []) := by decide +kernel
theorem xe_198_182 (a0 a1 : Option MV) (x y : Int) (st : List MV) (μ : MM) (G : MG) : ev 198 182 [a0, a1] (vI y :: vI x :: st) μ G = if y = 0 then none else ev 198 183 [a0, a1] (vI (mm_div x y) :: st) μ G := ev_no pg_198_182 rfl
theorem pg_198_183 : mm_prog 198 183 = some (0, .iadd, 184, []) := by decide +kernel
theorem xe_198_183 (a0 a1 : Option MV) (x y : Int) (st : List MV) (μ : MM) (G : MG) : ev 198 183 [a0, a1] (vI y :: vI x :: st) μ G = ev 198 184 [a0, a1] (vI (w32 (x + y)) :: st) μ G := ev_stp pg_198_183 rfl
theorem pg_198_184 : mm_prog 198 184 = some (2, .ireturn, 185, [0]) := by decide +kernel
theorem xe_198_184 (a0 a1 : Option MV) (x : Int) (μ : MM) (G : MG) : ev 198 184 [a0, a1] [vI x] μ G = some (some (vI x), μ, G) := ev_ret pg_198_184 rfl
theorem pg_198_185 : mm_prog 198 185 = some (0, .aload_n 0, 186, []) := by decide +kernel
theorem xe_198_185 (a1 : Option MV) (x : Int) (st : List MV) (μ : MM) (G : MG) : ev 198 185 [some (vR x), a1] st μ G = ev 198 186 [some (vR x), a1] (vR x :: st) μ G := ev_stp pg_198_185 rfl
theorem pg_198_186 : mm_prog 198 186 = some (0, .getfield 63, 189, [11, 29, 2]) := by decide +kernel
theorem xe_198_186 (a0 a1 : Option MV) (x : Int) (st : List MV) (μ : MM) (G : MG) : ev 198 186 [a0, a1] (vR x :: st) μ G = if gk G x = 11 then ev 198 189 [a0, a1] (vR (μ x 29) :: st) μ G else none := ev_if pg_198_186 rfl
theorem pg_198_189 : mm_prog 198 189 = some (0, .iconst 2, 190, []) := by decide +kernel
theorem xe_198_189 (a0 a1 : Option MV) (st : List MV) (μ : MM) (G : MG) : ev 198 189 [a0, a1] st μ G = ev 198 190 [a0, a1] (vI (2) :: st) μ G := ev_stp pg_198_189 rfl
theorem pg_198_190 : mm_prog 198 190 = some (0, .iaload, 191, []) := by decide +kernel
theorem xe_198_190 (a0 a1 : Option MV) (x y : Int) (st : List MV) (μ : MM) (G : MG) : ev 198 190 [a0, a1] (vI x :: vR y :: st) μ G = if gk G y = 100 ∧ 0 ≤ x ∧ x < gl G y then ev 198 191 [a0, a1] (vI (μ y x) :: st) μ G else none := ev_if pg_198_190 rfl
theorem pg_198_191 : mm_prog 198 191 = some (0, .sipush 256, 194, []) := by decide +kernel
theorem xe_198_191 (a0 a1 : Option MV) (st : List MV) (μ : MM) (G : MG) : ev 198 191 [a0, a1] st μ G = ev 198 194 [a0, a1] (vI (256) :: st) μ G := ev_stp pg_198_191 rfl
theorem pg_198_194 : mm_prog 198 194 = some (0, .irem, 195, []) := by decide +kernel
theorem xe_198_194 (a0 a1 : Option MV) (x y : Int) (st : List MV) (μ : MM) (G : MG) : ev 198 194 [a0, a1] (vI y :: vI x :: st) μ G = if y = 0 then none else ev 198 195 [a0, a1] (vI (mm_rem x y) :: st) μ G := ev_no pg_198_194 rfl
theorem pg_198_195 : mm_prog 198 195 = some (2, .ireturn, 196, [0]) := by decide +kernel
theorem xe_198_195 (a0 a1 : Option MV) (x : Int) (μ : MM) (G : MG) : ev 198 195 [a0, a1] [vI x] μ G = some (some (vI x), μ, G) := ev_ret pg_198_195 rfl
theorem pg_198_196 : mm_prog 198 196 = some (0, .aload_n 0, 197, []) := by decide +kernel
theorem xe_198_196 (a1 : Option MV) (x : Int) (st : List MV) (μ : MM) (G : MG) : ev 198 196 [some (vR x), a1] st μ G = ev 198 197 [some (vR x), a1] (vR x :: st) μ G := ev_stp pg_198_196 rfl
theorem pg_198_197 : mm_prog 198 197 = some (0, .getfield 63, 200, [11, 29, 2]) := by decide +kernel
theorem xe_198_197 (a0 a1 : Option MV) (x : Int) (st : List MV) (μ : MM) (G : MG) : ev 198 197 [a0, a1] (vR x :: st) μ G = if gk G x = 11 then ev 198 200 [a0, a1] (vR (μ x 29) :: st) μ G else none := ev_if pg_198_197 rfl
theorem pg_198_200 : mm_prog 198 200 = some (0, .iconst 3, 201, []) := by decide +kernel
theorem xe_198_200 (a0 a1 : Option MV) (st : List MV) (μ : MM) (G : MG) : ev 198 200 [a0, a1] st μ G = ev 198 201 [a0, a1] (vI (3) :: st) μ G := ev_stp pg_198_200 rfl
theorem pg_198_201 : mm_prog 198 201 = some (0, .iaload, 202, []) := by decide +kernel
theorem xe_198_201 (a0 a1 : Option MV) (x y : Int) (st : List MV) (μ : MM) (G : MG) : ev 198 201 [a0, a1] (vI x :: vR y :: st) μ G = if gk G y = 100 ∧ 0 ≤ x ∧ x < gl G y then ev 198 202 [a0, a1] (vI (μ y x) :: st) μ G else none := ev_if pg_198_201 rfl
theorem pg_198_202 : mm_prog 198 202 = some (0, .sipush 256, 205, []) := by decide +kernel
theorem xe_198_202 (a0 a1 : Option MV) (st : List MV) (μ : MM) (G : MG) : ev 198 202 [a0, a1] st μ G = ev 198 205 [a0, a1] (vI (256) :: st) μ G := ev_stp pg_198_202 rfl
theorem pg_198_205 : mm_prog 198 205 = some (0, .irem, 206, []) := by decide +kernel
theorem xe_198_205 (a0 a1 : Option MV) (x y : Int) (st : List MV) (μ : MM) (G : MG) : ev 198 205 [a0, a1] (vI y :: vI x :: st) μ G = if y = 0 then none else ev 198 206 [a0, a1] (vI (mm_rem x y) :: st) μ G := ev_no pg_198_205 rfl
theorem pg_198_206 : mm_prog 198 206 = some (2, .ireturn, 207, [0]) := by decide +kernel
theorem xe_198_206 (a0 a1 : Option MV) (x : Int) (μ : MM) (G : MG) : ev 198 206 [a0, a1] [vI x] μ G = some (some (vI x), μ, G) := ev_ret pg_198_206 rfl
theorem pg_198_207 : mm_prog 198 207 = some (0, .aload_n 0, 208, []) := by decide +kernel
theorem xe_198_207 (a1 : Option MV) (x : Int) (st : List MV) (μ : MM) (G : MG) : ev 198 207 [some (vR x), a1] st μ G = ev 198 208 [some (vR x), a1] (vR x :: st) μ G := ev_stp pg_198_207 rfl
theorem pg_198_208 : mm_prog 198 208 = some (0, .getfield 63, 211, [11, 29, 2]) := by decide +kernel
theorem xe_198_208 (a0 a1 : Option MV) (x : Int) (st : List MV) (μ : MM) (G : MG) : ev 198 208 [a0, a1] (vR x :: st) μ G = if gk G x = 11 then ev 198 211 [a0, a1] (vR (μ x 29) :: st) μ G else none := ev_if pg_198_208 rfl
theorem pg_198_211 : mm_prog 198 211 = some (0, .bipush 6, 213, []) := by decide +kernel
theorem xe_198_211 (a0 a1 : Option MV) (st : List MV) (μ : MM) (G : MG) : ev 198 211 [a0, a1] st μ G = ev 198 213 [a0, a1] (vI (6) :: st) μ G := ev_stp pg_198_211 rfl
theorem pg_198_213 : mm_prog 198 213 = some (0, .iaload, 214, []) := by decide +kernel
theorem xe_198_213 (a0 a1 : Option MV) (x y : Int) (st : List MV) (μ : MM) (G : MG) : ev 198 213 [a0, a1] (vI x :: vR y :: st) μ G = if gk G y = 100 ∧ 0 ≤ x ∧ x < gl G y then ev 198 214 [a0, a1] (vI (μ y x) :: st) μ G else none := ev_if pg_198_213 rfl
theorem pg_198_214 : mm_prog 198 214 = some (0, .bipush 16, 216, []) := by decide +kernel
theorem xe_198_214 (a0 a1 : Option MV) (st : List MV) (μ : MM) (G : MG) : ev 198 214 [a0, a1] st μ G = ev 198 216 [a0, a1] (vI (16) :: st) μ G := ev_stp pg_198_214 rfl
theorem pg_198_216 : mm_prog 198 216 = some (0, .irem, 217, []) := by decide +kernel
theorem xe_198_216 (a0 a1 : Option MV) (x y : Int) (st : List MV) (μ : MM) (G : MG) : ev 198 216 [a0, a1] (vI y :: vI x :: st) μ G = if y = 0 then none else ev 198 217 [a0, a1] (vI (mm_rem x y) :: st) μ G := ev_no pg_198_216 rfl
theorem pg_198_217 : mm_prog 198 217 = some (0, .bipush 16, 219, []) := by decide +kernel
theorem xe_198_217 (a0 a1 : Option MV) (st : List MV) (μ : MM) (G : MG) : ev 198 217 [a0, a1] st μ G = ev 198 219 [a0, a1] (vI (16) :: st) μ G := ev_stp pg_198_217 rfl
theorem pg_198_219 : mm_prog 198 219 = some (0, .imul, 220, []) := by decide +kernel
theorem xe_198_219 (a0 a1 : Option MV) (x y : Int) (st : List MV) (μ : MM) (G : MG) : ev 198 219 [a0, a1] (vI y :: vI x :: st) μ G = ev 198 220 [a0, a1] (vI (w32 (x * y)) :: st) μ G := ev_stp pg_198_219 rfl
theorem pg_198_220 : mm_prog 198 220 = some (0, .aload_n 0, 221, []) := by decide +kernel
theorem xe_198_220 (a1 : Option MV) (x : Int) (st : List MV) (μ : MM) (G : MG) : ev 198 220 [some (vR x), a1] st μ G = ev 198 221 [some (vR x), a1] (vR x :: st) μ G := ev_stp pg_198_220 rfl
theorem pg_198_221 : mm_prog 198 221 = some (0, .getfield 63, 224, [11, 29, 2]) := by decide +kernel
theorem xe_198_221 (a0 a1 : Option MV) (x : Int) (st : List MV) (μ : MM) (G : MG) : ev 198 221 [a0, a1] (vR x :: st) μ G = if gk G x = 11 then ev 198 224 [a0, a1] (vR (μ x 29) :: st) μ G else none := ev_if pg_198_221 rfl
theorem pg_198_224 : mm_prog 198 224 = some (0, .bipush 7, 226, []) := by decide +kernel
theorem xe_198_224 (a0 a1 : Option MV) (st : List MV) (μ : MM) (G : MG) : ev 198 224 [a0, a1] st μ G = ev 198 226 [a0, a1] (vI (7) :: st) μ G := ev_stp pg_198_224 rfl
theorem pg_198_226 : mm_prog 198 226 = some (0, .iaload, 227, []) := by decide +kernel
theorem xe_198_226 (a0 a1 : Option MV) (x y : Int) (st : List MV) (μ : MM) (G : MG) : ev 198 226 [a0, a1] (vI x :: vR y :: st) μ G = if gk G y = 100 ∧ 0 ≤ x ∧ x < gl G y then ev 198 227 [a0, a1] (vI (μ y x) :: st) μ G else none := ev_if pg_198_226 rfl
theorem pg_198_227 : mm_prog 198 227 = some (0, .bipush 16, 229, []) := by decide +kernel
theorem xe_198_227 (a0 a1 : Option MV) (st : List MV) (μ : MM) (G : MG) : ev 198 227 [a0, a1] st μ G = ev 198 229 [a0, a1] (vI (16) :: st) μ G := ev_stp pg_198_227 rfl
theorem pg_198_229 : mm_prog 198 229 = some (0, .irem, 230, []) := by decide +kernel
theorem xe_198_229 (a0 a1 : Option MV) (x y : Int) (st : List MV) (μ : MM) (G : MG) : ev 198 229 [a0, a1] (vI y :: vI x :: st) μ G = if y = 0 then none else ev 198 230 [a0, a1] (vI (mm_rem x y) :: st) μ G := ev_no pg_198_229 rfl
theorem pg_198_230 : mm_prog 198 230 = some (0, .iadd, 231, []) := by decide +kernel
theorem xe_198_230 (a0 a1 : Option MV) (x y : Int) (st : List MV) (μ : MM) (G : MG) : ev 198 230 [a0, a1] (vI y :: vI x :: st) μ G = ev 198 231 [a0, a1] (vI (w32 (x + y)) :: st) μ G := ev_stp pg_198_230 rfl
theorem pg_198_231 : mm_prog 198 231 = some (2, .ireturn, 232, [0]) := by decide +kernel
theorem xe_198_231 (a0 a1 : Option MV) (x : Int) (μ : MM) (G : MG) : ev 198 231 [a0, a1] [vI x] μ G = some (some (vI x), μ, G) := ev_ret pg_198_231 rfl
theorem pg_198_232 : mm_prog 198 232 = some (0, .aload_n 0, 233, []) := by decide +kernel
theorem xe_198_232 (a1 : Option MV) (x : Int) (st : List MV) (μ : MM) (G : MG) : ev 198 232 [some (vR x), a1] st μ G = ev 198 233 [some (vR x), a1] (vR x :: st) μ G := ev_stp pg_198_232 rfl
theorem pg_198_233 : mm_prog 198 233 = some (0, .getfield 63, 236, [11, 29, 2]) := by decide +kernel
theorem xe_198_233 (a0 a1 : Option MV) (x : Int) (st : List MV) (μ : MM) (G : MG) : ev 198 233 [a0, a1] (vR x :: st) μ G = if gk G x = 11 then ev 198 236 [a0, a1] (vR (μ x 29) :: st) μ G else none := ev_if pg_198_233 rfl
theorem pg_198_236 : mm_prog 198 236 = some (0, .iconst 2, 237, []) := by decide +kernel
theorem xe_198_236 (a0 a1 : Option MV) (st : List MV) (μ : MM) (G : MG) : ev 198 236 [a0, a1] st μ G = ev 198 237 [a0, a1] (vI (2) :: st) μ G := ev_stp pg_198_236 rfl
theorem pg_198_237 : mm_prog 198 237 = some (0, .iaload, 238, []) := by decide +kernel
theorem xe_198_237 (a0 a1 : Option MV) (x y : Int) (st : List MV) (μ : MM) (G : MG) : ev 198 237 [a0, a1] (vI x :: vR y :: st) μ G = if gk G y = 100 ∧ 0 ≤ x ∧ x < gl G y then ev 198 238 [a0, a1] (vI (μ y x) :: st) μ G else none := ev_if pg_198_237 rfl
theorem pg_198_238 : mm_prog 198 238 = some (0, .sipush 256, 241, []) := by decide +kernel
theorem xe_198_238 (a0 a1 : Option MV) (st : List MV) (μ : MM) (G : MG) : ev 198 238 [a0, a1] st μ G = ev 198 241 [a0, a1] (vI (256) :: st) μ G := ev_stp pg_198_238 rfl
theorem pg_198_241 : mm_prog 198 241 = some (0, .idiv, 242, []) := by decide +kernel
theorem xe_198_241 (a0 a1 : Option MV) (x y : Int) (st : List MV) (μ : MM) (G : MG) : ev 198 241 [a0, a1] (vI y :: vI x :: st) μ G = if y = 0 then none else ev 198 242 [a0, a1] (vI (mm_div x y) :: st) μ G := ev_no pg_198_241 rfl
theorem pg_198_242 : mm_prog 198 242 = some (0, .bipush 64, 244, []) := by decide +kernel
theorem xe_198_242 (a0 a1 : Option MV) (st : List MV) (μ : MM) (G : MG) : ev 198 242 [a0, a1] st μ G = ev 198 244 [a0, a1] (vI (64) :: st) μ G := ev_stp pg_198_242 rfl
theorem pg_198_244 : mm_prog 198 244 = some (0, .imul, 245, []) := by decide +kernel
theorem xe_198_244 (a0 a1 : Option MV) (x y : Int) (st : List MV) (μ : MM) (G : MG) : ev 198 244 [a0, a1] (vI y :: vI x :: st) μ G = ev 198 245 [a0, a1] (vI (w32 (x * y)) :: st) μ G := ev_stp pg_198_244 rfl
theorem pg_198_245 : mm_prog 198 245 = some (0, .aload_n 0, 246, []) := by decide +kernel
theorem xe_198_245 (a1 : Option MV) (x : Int) (st : List MV) (μ : MM) (G : MG) : ev 198 245 [some (vR x), a1] st μ G = ev 198 246 [some (vR x), a1] (vR x :: st) μ G := ev_stp pg_198_245 rfl
theorem pg_198_246 : mm_prog 198 246 = some (0, .getfield 63, 249, [11, 29, 2]) := by decide +kernel
theorem xe_198_246 (a0 a1 : Option MV) (x : Int) (st : List MV) (μ : MM) (G : MG) : ev 198 246 [a0, a1] (vR x :: st) μ G = if gk G x = 11 then ev 198 249 [a0, a1] (vR (μ x 29) :: st) μ G else none := ev_if pg_198_246 rfl
theorem pg_198_249 : mm_prog 198 249 = some (0, .iconst 3, 250, []) := by decide +kernel
theorem xe_198_249 (a0 a1 : Option MV) (st : List MV) (μ : MM) (G : MG) : ev 198 249 [a0, a1] st μ G = ev 198 250 [a0, a1] (vI (3) :: st) μ G := ev_stp pg_198_249 rfl
theorem pg_198_250 : mm_prog 198 250 = some (0, .iaload, 251, []) := by decide +kernel
theorem xe_198_250 (a0 a1 : Option MV) (x y : Int) (st : List MV) (μ : MM) (G : MG) : ev 198 250 [a0, a1] (vI x :: vR y :: st) μ G = if gk G y = 100 ∧ 0 ≤ x ∧ x < gl G y then ev 198 251 [a0, a1] (vI (μ y x) :: st) μ G else none := ev_if pg_198_250 rfl
theorem pg_198_251 : mm_prog 198 251 = some (0, .sipush 256, 254, []) := by decide +kernel
theorem xe_198_251 (a0 a1 : Option MV) (st : List MV) (μ : MM) (G : MG) : ev 198 251 [a0, a1] st μ G = ev 198 254 [a0, a1] (vI (256) :: st) μ G := ev_stp pg_198_251 rfl
theorem pg_198_254 : mm_prog 198 254 = some (0, .idiv, 255, []) := by decide +kernel
theorem xe_198_254 (a0 a1 : Option MV) (x y : Int) (st : List MV) (μ : MM) (G : MG) : ev 198 254 [a0, a1] (vI y :: vI x :: st) μ G = if y = 0 then none else ev 198 255 [a0, a1] (vI (mm_div x y) :: st) μ G := ev_no pg_198_254 rfl
theorem pg_198_255 : mm_prog 198 255 = some (0, .bipush 16, 257, []) := by decide +kernel
theorem xe_198_255 (a0 a1 : Option MV) (st : List MV) (μ : MM) (G : MG) : ev 198 255 [a0, a1] st μ G = ev 198 257 [a0, a1] (vI (16) :: st) μ G := ev_stp pg_198_255 rfl
theorem pg_198_257 : mm_prog 198 257 = some (0, .imul, 258, []) := by decide +kernel
theorem xe_198_257 (a0 a1 : Option MV) (x y : Int) (st : List MV) (μ : MM) (G : MG) : ev 198 257 [a0, a1] (vI y :: vI x :: st) μ G = ev 198 258 [a0, a1] (vI (w32 (x * y)) :: st) μ G := ev_stp pg_198_257 rfl
theorem pg_198_258 : mm_prog 198 258 = some (0, .iadd, 259, []) := by decide +kernel
theorem xe_198_258 (a0 a1 : Option MV) (x y : Int) (st : List MV) (μ : MM) (G : MG) : ev 198 258 [a0, a1] (vI y :: vI x :: st) μ G = ev 198 259 [a0, a1] (vI (w32 (x + y)) :: st) μ G := ev_stp pg_198_258 rfl
theorem pg_198_259 : mm_prog 198 259 = some (0, .aload_n 0, 260, []) := by decide +kernel
theorem xe_198_259 (a1 : Option MV) (x : Int) (st : List MV) (μ : MM) (G : MG) : ev 198 259 [some (vR x), a1] st μ G = ev 198 260 [some (vR x), a1] (vR x :: st) μ G := ev_stp pg_198_259 rfl
theorem pg_198_260 : mm_prog 198 260 = some (0, .getfield 63, 263, [11, 29, 2]) := by decide +kernel
theorem xe_198_260 (a0 a1 : Option MV) (x : Int) (st : List MV) (μ : MM) (G : MG) : ev 198 260 [a0, a1] (vR x :: st) μ G = if gk G x = 11 then ev 198 263 [a0, a1] (vR (μ x 29) :: st) μ G else none := ev_if pg_198_260 rfl
theorem pg_198_263 : mm_prog 198 263 = some (0, .bipush 6, 265, []) := by decide +kernel
theorem xe_198_263 (a0 a1 : Option MV) (st : List MV) (μ : MM) (G : MG) : ev 198 263 [a0, a1] st μ G = ev 198 265 [a0, a1] (vI (6) :: st) μ G := ev_stp pg_198_263 rfl
theorem pg_198_265 : mm_prog 198 265 = some (0, .iaload, 266, []) := by decide +kernel
theorem xe_198_265 (a0 a1 : Option MV) (x y : Int) (st : List MV) (μ : MM) (G : MG) : ev 198 265 [a0, a1] (vI x :: vR y :: st) μ G = if gk G y = 100 ∧ 0 ≤ x ∧ x < gl G y then ev 198 266 [a0, a1] (vI (μ y x) :: st) μ G else none := ev_if pg_198_265 rfl
theorem pg_198_266 : mm_prog 198 266 = some (0, .bipush 16, 268, []) := by decide +kernel
theorem xe_198_266 (a0 a1 : Option MV) (st : List MV) (μ : MM) (G : MG) : ev 198 266 [a0, a1] st μ G = ev 198 268 [a0, a1] (vI (16) :: st) μ G := ev_stp pg_198_266 rfl
theorem pg_198_268 : mm_prog 198 268 = some (0, .idiv, 269, []) := by decide +kernel
theorem xe_198_268 (a0 a1 : Option MV) (x y : Int) (st : List MV) (μ : MM) (G : MG) : ev 198 268 [a0, a1] (vI y :: vI x :: st) μ G = if y = 0 then none else ev 198 269 [a0, a1] (vI (mm_div x y) :: st) μ G := ev_no pg_198_268 rfl
theorem pg_198_269 : mm_prog 198 269 = some (0, .iconst 4, 270, []) := by decide +kernel
theorem xe_198_269 (a0 a1 : Option MV) (st : List MV) (μ : MM) (G : MG) : ev 198 269 [a0, a1] st μ G = ev 198 270 [a0, a1] (vI (4) :: st) μ G := ev_stp pg_198_269 rfl
theorem pg_198_270 : mm_prog 198 270 = some (0, .imul, 271, []) := by decide +kernel
theorem xe_198_270 (a0 a1 : Option MV) (x y : Int) (st : List MV) (μ : MM) (G : MG) : ev 198 270 [a0, a1] (vI y :: vI x :: st) μ G = ev 198 271 [a0, a1] (vI (w32 (x * y)) :: st) μ G := ev_stp pg_198_270 rfl
theorem pg_198_271 : mm_prog 198 271 = some (0, .iadd, 272, []) := by decide +kernel
theorem xe_198_271 (a0 a1 : Option MV) (x y : Int) (st : List MV) (μ : MM) (G : MG) : ev 198 271 [a0, a1] (vI y :: vI x :: st) μ G = ev 198 272 [a0, a1] (vI (w32 (x + y)) :: st) μ G := ev_stp pg_198_271 rfl
theorem pg_198_272 : mm_prog 198 272 = some (0, .aload_n 0, 273, []) := by decide +kernel
theorem xe_198_272 (a1 : Option MV) (x : Int) (st : List MV) (μ : MM) (G : MG) : ev 198 272 [some (vR x), a1] st μ G = ev 198 273 [some (vR x), a1] (vR x :: st) μ G := ev_stp pg_198_272 rfl
theorem pg_198_273 : mm_prog 198 273 = some (0, .getfield 63, 276, [11, 29, 2]) := by decide +kernel
theorem xe_198_273 (a0 a1 : Option MV) (x : Int) (st : List MV) (μ : MM) (G : MG) : ev 198 273 [a0, a1] (vR x :: st) μ G = if gk G x = 11 then ev 198 276 [a0, a1] (vR (μ x 29) :: st) μ G else none := ev_if pg_198_273 rfl
theorem pg_198_276 : mm_prog 198 276 = some (0, .bipush 7, 278, []) := by decide +kernel
theorem xe_198_276 (a0 a1 : Option MV) (st : List MV) (μ : MM) (G : MG) : ev 198 276 [a0, a1] st μ G = ev 198 278 [a0, a1] (vI (7) :: st) μ G := ev_stp pg_198_276 rfl
theorem pg_198_278 : mm_prog 198 278 = some (0, .iaload, 279, []) := by decide +kernel
theorem xe_198_278 (a0 a1 : Option MV) (x y : Int) (st : List MV) (μ : MM) (G : MG) : ev 198 278 [a0, a1] (vI x :: vR y :: st) μ G = if gk G y = 100 ∧ 0 ≤ x ∧ x < gl G y then ev 198 279 [a0, a1] (vI (μ y x) :: st) μ G else none := ev_if pg_198_278 rfl
theorem pg_198_279 : mm_prog 198 279 = some (0, .bipush 16, 281, []) := by decide +kernel
theorem xe_198_279 (a0 a1 : Option MV) (st : List MV) (μ : MM) (G : MG) : ev 198 279 [a0, a1] st μ G = ev 198 281 [a0, a1] (vI (16) :: st) μ G := ev_stp pg_198_279 rfl
theorem pg_198_281 : mm_prog 198 281 = some (0, .idiv, 282, []) := by decide +kernel
theorem xe_198_281 (a0 a1 : Option MV) (x y : Int) (st : List MV) (μ : MM) (G : MG) : ev 198 281 [a0, a1] (vI y :: vI x :: st) μ G = if y = 0 then none else ev 198 282 [a0, a1] (vI (mm_div x y) :: st) μ G := ev_no pg_198_281 rfl
theorem pg_198_282 : mm_prog 198 282 = some (0, .iadd, 283, []) := by decide +kernel
theorem xe_198_282 (a0 a1 : Option MV) (x y : Int) (st : List MV) (μ : MM) (G : MG) : ev 198 282 [a0, a1] (vI y :: vI x :: st) μ G = ev 198 283 [a0, a1] (vI (w32 (x + y)) :: st) μ G := ev_stp pg_198_282 rfl
theorem pg_198_283 : mm_prog 198 283 = some (2, .ireturn, 284, [0]) := by decide +kernel
theorem xe_198_283 (a0 a1 : Option MV) (x : Int) (μ : MM) (G : MG) : ev 198 283 [a0, a1] [vI x] μ G = some (some (vI x), μ, G) := ev_ret pg_198_283 rfl
theorem pg_198_284 : mm_prog 198 284 = some (0, .iconst 0, 285, []) := by decide +kernel
theorem xe_198_284 (a0 a1 : Option MV) (st : List MV) (μ : MM) (G : MG) : ev 198 284 [a0, a1] st μ G = ev 198 285 [a0, a1] (vI (0) :: st) μ G := ev_stp pg_198_284 rfl
theorem pg_198_285 : mm_prog 198 285 = some (2, .ireturn, 286, [0]) := by decide +kernel
theorem xe_198_285 (a0 a1 : Option MV) (x : Int) (μ : MM) (G : MG) : ev 198 285 [a0, a1] [vI x] μ G = some (some (vI x), μ, G) := ev_ret pg_198_285 rfl
-- X11_descriptor
theorem pg_199_0 : mm_prog 199 0 = some (0, .aload_n 0, 1, []) := by decide +kernel
theorem xe_199_0 (a1 a2 a3 a4 a5 : Option MV) (x : Int) (st : List MV) (μ : MM) (G : MG) : ev 199 0 [some (vR x), a1, a2, a3, a4, a5] st μ G = ev 199 1 [some (vR x), a1, a2, a3, a4, a5] (vR x :: st) μ G := ev_stp pg_199_0 rfl
theorem pg_199_1 : mm_prog 199 1 = some (0, .iconst 0, 2, []) := by decide +kernel
theorem xe_199_1 (a0 a1 a2 a3 a4 a5 : Option MV) (st : List MV) (μ : MM) (G : MG) : ev 199 1 [a0, a1, a2, a3, a4, a5] st μ G = ev 199 2 [a0, a1, a2, a3, a4, a5] (vI (0) :: st) μ G := ev_stp pg_199_1 rfl
theorem pg_199_2 : mm_prog 199 2 = some (0, .putfield 1, 5, [11, 0, 0]) := by decide +kernel
theorem xe_199_2 (a0 a1 a2 a3 a4 a5 : Option MV) (x y : Int) (st : List MV) (μ : MM) (G : MG) : ev 199 2 [a0, a1, a2, a3, a4, a5] (vI x :: vR y :: st) μ G = if gk G y = 11 then ev 199 5 [a0, a1, a2, a3, a4, a5] st (mset μ y 0 x) G else none := ev_put0 pg_199_2
theorem pg_199_5 : mm_prog 199 5 = some (0, .iload_n 1, 6, []) := by decide +kernel
theorem xe_199_5 (a0 a2 a3 a4 a5 : Option MV) (x : Int) (st : List MV) (μ : MM) (G : MG) : ev 199 5 [a0, some (vI x), a2, a3, a4, a5] st μ G = ev 199 6 [a0, some (vI x), a2, a3, a4, a5] (vI x :: st) μ G := ev_stp pg_199_5 rfl
theorem pg_199_6 : mm_prog 199 6 = some (0, .i2l, 7, []) := by decide +kernel
theorem xe_199_6 (a0 a1 a2 a3 a4 a5 : Option MV) (x : Int) (st : List MV) (μ : MM) (G : MG) : ev 199 6 [a0, a1, a2, a3, a4, a5] (vI x :: st) μ G = ev 199 7 [a0, a1, a2, a3, a4, a5] (vL x :: st) μ G := ev_stp pg_199_6 rfl
theorem pg_199_7 : mm_prog 199 7 = some (0, .lconst 0, 8, []) := by decide +kernel
theorem xe_199_7 (a0 a1 a2 a3 a4 a5 : Option MV) (st : List MV) (μ : MM) (G : MG) : ev 199 7 [a0, a1, a2, a3, a4, a5] st μ G = ev 199 8 [a0, a1, a2, a3, a4, a5] (vL 0 :: st) μ G := ev_stp pg_199_7 rfl
theorem pg_199_8 : mm_prog 199 8 = some (0, .lconst 1, 9, []) := by decide +kernel
theorem xe_199_8 (a0 a1 a2 a3 a4 a5 : Option MV) (st : List MV) (μ : MM) (G : MG) : ev 199 8 [a0, a1, a2, a3, a4, a5] st μ G = ev 199 9 [a0, a1, a2, a3, a4, a5] (vL 1 :: st) μ G := ev_stp pg_199_8 rfl
theorem pg_199_9 : mm_prog 199 9 = some (1, .invokestatic 107, 12, [0, 148, 3, 0]) := by decide +kernel
theorem xe_199_9 (a0 a1 a2 a3 a4 a5 : Option MV) (x0 x1 x2 : Int) (μ : MM) (G : MG) : ev 199 9 [a0, a1, a2, a3, a4, a5] (vL x2 :: vL x1 :: vL x0 :: []) μ G = (ev 148 0 [some (vL x0), none, some (vL x1), none, some (vL x2), none] [] μ G).bind (fun q => ev 199 12 [a0, a1, a2, a3, a4, a5] (q.1.toList ++ []) q.2.1 q.2.2) := ev_calS (as := [vL x0, vL x1, vL x2]) (r := []) mx_148 pg_199_9 rfl rfl (Nat.le_of_ble_eq_true rfl) (Nat.le_of_ble_eq_true rfl)
theorem pg_199_12 : mm_prog 199 12 = some (0, .ifCond .eq 16, 15, []) := by decide +kernel
theorem xe_199_12 (a0 a1 a2 a3 a4 a5 : Option MV) (x : Int) (st : List MV) (μ : MM) (G : MG) : ev 199 12 [a0, a1, a2, a3, a4, a5] (vI x :: st) μ G = if x = 0 then ev 199 28 [a0, a1, a2, a3, a4, a5] st μ G else ev 199 15 [a0, a1, a2, a3, a4, a5] st μ G := ev_br (mm_cnd_eq x 0) pg_199_12 rfl
theorem pg_199_15 : mm_prog 199 15 = some (0, .iload 5, 17, []) := by decide +kernel
theorem xe_199_15 (a0 a1 a2 a3 a4 : Option MV) (x : Int) (st : List MV) (μ : MM) (G : MG) : ev 199 15 [a0, a1, a2, a3, a4, some (vI x)] st μ G = ev 199 17 [a0, a1, a2, a3, a4, some (vI x)] (vI x :: st) μ G := ev_stp pg_199_15 rfl
theorem pg_199_17 : mm_prog 199 17 = some (0, .i2l, 18, []) := by decide +kernel
theorem xe_199_17 (a0 a1 a2 a3 a4 a5 : Option MV) (x : Int) (st : List MV) (μ : MM) (G : MG) : ev 199 17 [a0, a1, a2, a3, a4, a5] (vI x :: st) μ G = ev 199 18 [a0, a1, a2, a3, a4, a5] (vL x :: st) μ G := ev_stp pg_199_17 rfl
theorem pg_199_18 : mm_prog 199 18 = some (0, .lconst 0, 19, []) := by decide +kernel
theorem xe_199_18 (a0 a1 a2 a3 a4 a5 : Option MV) (st : List MV) (μ : MM) (G : MG) : ev 199 18 [a0, a1, a2, a3, a4, a5] st μ G = ev 199 19 [a0, a1, a2, a3, a4, a5] (vL 0 :: st) μ G := ev_stp pg_199_18 rfl
theorem pg_199_19 : mm_prog 199 19 = some (0, .ldc2_w 309, 22, [17]) := by decide +kernel
theorem xe_199_19 (a0 a1 a2 a3 a4 a5 : Option MV) (st : List MV) (μ : MM) (G : MG) : ev 199 19 [a0, a1, a2, a3, a4, a5] st μ G = ev 199 22 [a0, a1, a2, a3, a4, a5] (vL (17) :: st) μ G := ev_stp pg_199_19 rfl
theorem pg_199_22 : mm_prog 199 22 = some (1, .invokestatic 107, 25, [0, 148, 3, 0]) := by decide +kernel
theorem xe_199_22 (a0 a1 a2 a3 a4 a5 : Option MV) (x0 x1 x2 : Int) (μ : MM) (G : MG) : ev 199 22 [a0, a1, a2, a3, a4, a5] (vL x2 :: vL x1 :: vL x0 :: []) μ G = (ev 148 0 [some (vL x0), none, some (vL x1), none, some (vL x2), none] [] μ G).bind (fun q => ev 199 25 [a0, a1, a2, a3, a4, a5] (q.1.toList ++ []) q.2.1 q.2.2) := ev_calS (as := [vL x0, vL x1, vL x2]) (r := []) mx_148 pg_199_22 rfl rfl (Nat.le_of_ble_eq_true rfl) (Nat.le_of_ble_eq_true rfl)
theorem pg_199_25 : mm_prog 199 25 = some (0, .ifCond .ne 6, 28, []) := by decide +kernel
theorem xe_199_25 (a0 a1 a2 a3 a4 a5 : Option MV) (x : Int) (st : List MV) (μ : MM) (G : MG) : ev 199 25 [a0, a1, a2, a3, a4, a5] (vI x :: st) μ G = if ¬ x = 0 then ev 199 31 [a0, a1, a2, a3, a4, a5] st μ G else ev 199 28 [a0, a1, a2, a3, a4, a5] st μ G := ev_br (mm_cnd_ne x 0) pg_199_25 rfl
theorem pg_199_28 : mm_prog 199 28 = some (0, .bipush (-2), 30, []) := by decide +kernel
theorem xe_199_28 (a0 a1 a2 a3 a4 a5 : Option MV) (st : List MV) (μ : MM) (G : MG) : ev 199 28 [a0, a1, a2, a3, a4, a5] st μ G = ev 199 30 [a0, a1, a2, a3, a4, a5] (vI (-2) :: st) μ G := ev_stp pg_199_28 rfl
theorem pg_199_30 : mm_prog 199 30 = some (2, .ireturn, 31, [0]) := by decide +kernel
theorem xe_199_30 (a0 a1 a2 a3 a4 a5 : Option MV) (x : Int) (μ : MM) (G : MG) : ev 199 30 [a0, a1, a2, a3, a4, a5] [vI x] μ G = some (some (vI x), μ, G) := ev_ret pg_199_30 rfl
theorem pg_199_31 : mm_prog 199 31 = some (0, .iload_n 2, 32, []) := by decide +kernel
theorem xe_199_31 (a0 a1 a3 a4 a5 : Option MV) (x : Int) (st : List MV) (μ : MM) (G : MG) : ev 199 31 [a0, a1, some (vI x), a3, a4, a5] st μ G = ev 199 32 [a0, a1, some (vI x), a3, a4, a5] (vI x :: st) μ G := ev_stp pg_199_31 rfl
theorem pg_199_32 : mm_prog 199 32 = some (0, .iload_n 3, 33, []) := by decide +kernel
theorem xe_199_32 (a0 a1 a2 a4 a5 : Option MV) (x : Int) (st : List MV) (μ : MM) (G : MG) : ev 199 32 [a0, a1, a2, some (vI x), a4, a5] st μ G = ev 199 33 [a0, a1, a2, some (vI x), a4, a5] (vI x :: st) μ G := ev_stp pg_199_32 rfl
theorem pg_199_33 : mm_prog 199 33 = some (0, .iload 4, 35, []) := by decide +kernel
theorem xe_199_33 (a0 a1 a2 a3 a5 : Option MV) (x : Int) (st : List MV) (μ : MM) (G : MG) : ev 199 33 [a0, a1, a2, a3, some (vI x), a5] st μ G = ev 199 35 [a0, a1, a2, a3, some (vI x), a5] (vI x :: st) μ G := ev_stp pg_199_33 rfl
theorem pg_199_35 : mm_prog 199 35 = some (1, .invokestatic 304, 38, [0, 195, 3, 0]) := by decide +kernel
theorem xe_199_35 (a0 a1 a2 a3 a4 a5 : Option MV) (x0 x1 x2 : Int) (μ : MM) (G : MG) : ev 199 35 [a0, a1, a2, a3, a4, a5] (vI x2 :: vI x1 :: vI x0 :: []) μ G = (ev 195 0 [some (vI x0), some (vI x1), some (vI x2)] [] μ G).bind (fun q => ev 199 38 [a0, a1, a2, a3, a4, a5] (q.1.toList ++ []) q.2.1 q.2.2) := ev_calS (as := [vI x0, vI x1, vI x2]) (r := []) mx_195 pg_199_35 rfl rfl (Nat.le_of_ble_eq_true rfl) (Nat.le_of_ble_eq_true rfl)
theorem pg_199_38 : mm_prog 199 38 = some (0, .ifCond .eq 6, 41, []) := by decide +kernel
theorem xe_199_38 (a0 a1 a2 a3 a4 a5 : Option MV) (x : Int) (st : List MV) (μ : MM) (G : MG) : ev 199 38 [a0, a1, a2, a3, a4, a5] (vI x :: st) μ G = if x = 0 then ev 199 44 [a0, a1, a2, a3, a4, a5] st μ G else ev 199 41 [a0, a1, a2, a3, a4, a5] st μ G := ev_br (mm_cnd_eq x 0) pg_199_38 rfl
theorem pg_199_41 : mm_prog 199 41 = some (0, .bipush (-3), 43, []) := by decide +kernel
theorem xe_199_41 (a0 a1 a2 a3 a4 a5 : Option MV) (st : List MV) (μ : MM) (G : MG) : ev 199 41 [a0, a1, a2, a3, a4, a5] st μ G = ev 199 43 [a0, a1, a2, a3, a4, a5] (vI (-3) :: st) μ G := ev_stp pg_199_41 rfl
theorem pg_199_43 : mm_prog 199 43 = some (2, .ireturn, 44, [0]) := by decide +kernel
theorem xe_199_43 (a0 a1 a2 a3 a4 a5 : Option MV) (x : Int) (μ : MM) (G : MG) : ev 199 43 [a0, a1, a2, a3, a4, a5] [vI x] μ G = some (some (vI x), μ, G) := ev_ret pg_199_43 rfl
theorem pg_199_44 : mm_prog 199 44 = some (0, .aload_n 0, 45, []) := by decide +kernel
theorem xe_199_44 (a1 a2 a3 a4 a5 : Option MV) (x : Int) (st : List MV) (μ : MM) (G : MG) : ev 199 44 [some (vR x), a1, a2, a3, a4, a5] st μ G = ev 199 45 [some (vR x), a1, a2, a3, a4, a5] (vR x :: st) μ G := ev_stp pg_199_44 rfl
theorem pg_199_45 : mm_prog 199 45 = some (0, .iload_n 1, 46, []) := by decide +kernel
theorem xe_199_45 (a0 a2 a3 a4 a5 : Option MV) (x : Int) (st : List MV) (μ : MM) (G : MG) : ev 199 45 [a0, some (vI x), a2, a3, a4, a5] st μ G = ev 199 46 [a0, some (vI x), a2, a3, a4, a5] (vI x :: st) μ G := ev_stp pg_199_45 rfl
theorem pg_199_46 : mm_prog 199 46 = some (0, .iload_n 2, 47, []) := by decide +kernel
theorem xe_199_46 (a0 a1 a3 a4 a5 : Option MV) (x : Int) (st : List MV) (μ : MM) (G : MG) : ev 199 46 [a0, a1, some (vI x), a3, a4, a5] st μ G = ev 199 47 [a0, a1, some (vI x), a3, a4, a5] (vI x :: st) μ G := ev_stp pg_199_46 rfl
theorem pg_199_47 : mm_prog 199 47 = some (0, .iload_n 3, 48, []) := by decide +kernel
theorem xe_199_47 (a0 a1 a2 a4 a5 : Option MV) (x : Int) (st : List MV) (μ : MM) (G : MG) : ev 199 47 [a0, a1, a2, some (vI x), a4, a5] st μ G = ev 199 48 [a0, a1, a2, some (vI x), a4, a5] (vI x :: st) μ G := ev_stp pg_199_47 rfl
theorem pg_199_48 : mm_prog 199 48 = some (0, .iload 4, 50, []) := by decide +kernel
theorem xe_199_48 (a0 a1 a2 a3 a5 : Option MV) (x : Int) (st : List MV) (μ : MM) (G : MG) : ev 199 48 [a0, a1, a2, a3, some (vI x), a5] st μ G = ev 199 50 [a0, a1, a2, a3, some (vI x), a5] (vI x :: st) μ G := ev_stp pg_199_48 rfl
theorem pg_199_50 : mm_prog 199 50 = some (1, .invokevirtual 205, 53, [1, 194, 4, 11]) := by decide +kernel
theorem xe_199_50 (a0 a1 a2 a3 a4 a5 : Option MV) (x0 x1 x2 x3 z : Int) (μ : MM) (G : MG) : ev 199 50 [a0, a1, a2, a3, a4, a5] (vI x3 :: vI x2 :: vI x1 :: vI x0 :: vR z :: []) μ G = if gk G z = 11 ∧ 0 < z then (ev 194 0 [some (vR z), some (vI x0), some (vI x1), some (vI x2), some (vI x3), none, none, none, none] [] μ G).bind (fun q => ev 199 53 [a0, a1, a2, a3, a4, a5] (q.1.toList ++ []) q.2.1 q.2.2) else none := ev_calV (as := [vR z, vI x0, vI x1, vI x2, vI x3]) (r := []) mx_194 pg_199_50 rfl rfl (Nat.le_of_ble_eq_true rfl) (Nat.le_of_ble_eq_true rfl)
theorem pg_199_53 : mm_prog 199 53 = some (0, .aload_n 0, 54, []) := by decide +kernel
theorem xe_199_53 (a1 a2 a3 a4 a5 : Option MV) (x : Int) (st : List MV) (μ : MM) (G : MG) : ev 199 53 [some (vR x), a1, a2, a3, a4, a5] st μ G = ev 199 54 [some (vR x), a1, a2, a3, a4, a5] (vR x :: st) μ G := ev_stp pg_199_53 rfl
theorem pg_199_54 : mm_prog 199 54 = some (1, .invokevirtual 260, 57, [1, 197, 0, 11]) := by decide +kernel
theorem xe_199_54 (a0 a1 a2 a3 a4 a5 : Option MV) (z : Int) (μ : MM) (G : MG) : ev 199 54 [a0, a1, a2, a3, a4, a5] (vR z :: []) μ G = if gk G z = 11 ∧ 0 < z then (ev 197 0 [some (vR z)] [] μ G).bind (fun q => ev 199 57 [a0, a1, a2, a3, a4, a5] (q.1.toList ++ []) q.2.1 q.2.2) else none := ev_calV (as := [vR z]) (r := []) mx_197 pg_199_54 rfl rfl (Nat.le_of_ble_eq_true rfl) (Nat.le_of_ble_eq_true rfl)
theorem pg_199_57 : mm_prog 199 57 = some (0, .ifCond .eq 12, 60, []) := by decide +kernel
theorem xe_199_57 (a0 a1 a2 a3 a4 a5 : Option MV) (x : Int) (st : List MV) (μ : MM) (G : MG) : ev 199 57 [a0, a1, a2, a3, a4, a5] (vI x :: st) μ G = if x = 0 then ev 199 69 [a0, a1, a2, a3, a4, a5] st μ G else ev 199 60 [a0, a1, a2, a3, a4, a5] st μ G := ev_br (mm_cnd_eq x 0) pg_199_57 rfl
theorem pg_199_60 : mm_prog 199 60 = some (0, .aload_n 0, 61, []) := by decide +kernel
theorem xe_199_60 (a1 a2 a3 a4 a5 : Option MV) (x : Int) (st : List MV) (μ : MM) (G : MG) : ev 199 60 [some (vR x), a1, a2, a3, a4, a5] st μ G = ev 199 61 [some (vR x), a1, a2, a3, a4, a5] (vR x :: st) μ G := ev_stp pg_199_60 rfl
theorem pg_199_61 : mm_prog 199 61 = some (0, .iload 5, 63, []) := by decide +kernel
theorem xe_199_61 (a0 a1 a2 a3 a4 : Option MV) (x : Int) (st : List MV) (μ : MM) (G : MG) : ev 199 61 [a0, a1, a2, a3, a4, some (vI x)] st μ G = ev 199 63 [a0, a1, a2, a3, a4, some (vI x)] (vI x :: st) μ G := ev_stp pg_199_61 rfl
theorem pg_199_63 : mm_prog 199 63 = some (1, .invokevirtual 264, 66, [1, 198, 1, 11]) := by decide +kernel
theorem xe_199_63 (a0 a1 a2 a3 a4 a5 : Option MV) (x0 z : Int) (μ : MM) (G : MG) : ev 199 63 [a0, a1, a2, a3, a4, a5] (vI x0 :: vR z :: []) μ G = if gk G z = 11 ∧ 0 < z then (ev 198 0 [some (vR z), some (vI x0)] [] μ G).bind (fun q => ev 199 66 [a0, a1, a2, a3, a4, a5] (q.1.toList ++ []) q.2.1 q.2.2) else none := ev_calV (as := [vR z, vI x0]) (r := []) mx_198 pg_199_63 rfl rfl (Nat.le_of_ble_eq_true rfl) (Nat.le_of_ble_eq_true rfl)
theorem pg_199_66 : mm_prog 199 66 = some (0, .goto 5, 69, []) := by decide +kernel
theorem xe_199_66 (a0 a1 a2 a3 a4 a5 : Option MV) (st : List MV) (μ : MM) (G : MG) : ev 199 66 [a0, a1, a2, a3, a4, a5] st μ G = ev 199 71 [a0, a1, a2, a3, a4, a5] st μ G := ev_stp pg_199_66 rfl
theorem pg_199_69 : mm_prog 199 69 = some (0, .bipush (-5), 71, []) := by decide +kernel
theorem xe_199_69 (a0 a1 a2 a3 a4 a5 : Option MV) (st : List MV) (μ : MM) (G : MG) : ev 199 69 [a0, a1, a2, a3, a4, a5] st μ G = ev 199 71 [a0, a1, a2, a3, a4, a5] (vI (-5) :: st) μ G := ev_stp pg_199_69 rfl
theorem pg_199_71 : mm_prog 199 71 = some (2, .ireturn, 72, [0]) := by decide +kernel
theorem xe_199_71 (a0 a1 a2 a3 a4 a5 : Option MV) (x : Int) (μ : MM) (G : MG) : ev 199 71 [a0, a1, a2, a3, a4, a5] [vI x] μ G = some (some (vI x), μ, G) := ev_ret pg_199_71 rfl
-- X11_isDepth
theorem pg_200_0 : mm_prog 200 0 = some (0, .iload_n 0, 1, []) := by decide +kernel
theorem xe_200_0 (x : Int) (st : List MV) (μ : MM) (G : MG) : ev 200 0 [some (vI x)] st μ G = ev 200 1 [some (vI x)] (vI x :: st) μ G := ev_stp pg_200_0 rfl
theorem pg_200_1 : mm_prog 200 1 = some (0, .i2l, 2, []) := by decide +kernel
theorem xe_200_1 (a0 : Option MV) (x : Int) (st : List MV) (μ : MM) (G : MG) : ev 200 1 [a0] (vI x :: st) μ G = ev 200 2 [a0] (vL x :: st) μ G := ev_stp pg_200_1 rfl
theorem pg_200_2 : mm_prog 200 2 = some (0, .ldc2_w 311, 5, [6]) := by decide +kernel
theorem xe_200_2 (a0 : Option MV) (st : List MV) (μ : MM) (G : MG) : ev 200 2 [a0] st μ G = ev 200 5 [a0] (vL (6) :: st) μ G := ev_stp pg_200_2 rfl
theorem pg_200_5 : mm_prog 200 5 = some (0, .ldc2_w 313, 8, [12]) := by decide +kernel
theorem xe_200_5 (a0 : Option MV) (st : List MV) (μ : MM) (G : MG) : ev 200 5 [a0] st μ G = ev 200 8 [a0] (vL (12) :: st) μ G := ev_stp pg_200_5 rfl
theorem pg_200_8 : mm_prog 200 8 = some (1, .invokestatic 107, 11, [0, 148, 3, 0]) := by decide +kernel
theorem xe_200_8 (a0 : Option MV) (x0 x1 x2 : Int) (μ : MM) (G : MG) : ev 200 8 [a0] (vL x2 :: vL x1 :: vL x0 :: []) μ G = (ev 148 0 [some (vL x0), none, some (vL x1), none, some (vL x2), none] [] μ G).bind (fun q => ev 200 11 [a0] (q.1.toList ++ []) q.2.1 q.2.2) := ev_calS (as := [vL x0, vL x1, vL x2]) (r := []) mx_148 pg_200_8 rfl rfl (Nat.le_of_ble_eq_true rfl) (Nat.le_of_ble_eq_true rfl)
theorem pg_200_11 : mm_prog 200 11 = some (0, .ifCond .eq 13, 14, []) := by decide +kernel
theorem xe_200_11 (a0 : Option MV) (x : Int) (st : List MV) (μ : MM) (G : MG) : ev 200 11 [a0] (vI x :: st) μ G = if x = 0 then ev 200 24 [a0] st μ G else ev 200 14 [a0] st μ G := ev_br (mm_cnd_eq x 0) pg_200_11 rfl
theorem pg_200_14 : mm_prog 200 14 = some (0, .iload_n 0, 15, []) := by decide +kernel
theorem xe_200_14 (x : Int) (st : List MV) (μ : MM) (G : MG) : ev 200 14 [some (vI x)] st μ G = ev 200 15 [some (vI x)] (vI x :: st) μ G := ev_stp pg_200_14 rfl
theorem pg_200_15 : mm_prog 200 15 = some (0, .iconst 2, 16, []) := by decide +kernel
theorem xe_200_15 (a0 : Option MV) (st : List MV) (μ : MM) (G : MG) : ev 200 15 [a0] st μ G = ev 200 16 [a0] (vI (2) :: st) μ G := ev_stp pg_200_15 rfl
theorem pg_200_16 : mm_prog 200 16 = some (0, .irem, 17, []) := by decide +kernel
theorem xe_200_16 (a0 : Option MV) (x y : Int) (st : List MV) (μ : MM) (G : MG) : ev 200 16 [a0] (vI y :: vI x :: st) μ G = if y = 0 then none else ev 200 17 [a0] (vI (mm_rem x y) :: st) μ G := ev_no pg_200_16 rfl
theorem pg_200_17 : mm_prog 200 17 = some (0, .ifCond .ne 7, 20, []) := by decide +kernel
theorem xe_200_17 (a0 : Option MV) (x : Int) (st : List MV) (μ : MM) (G : MG) : ev 200 17 [a0] (vI x :: st) μ G = if ¬ x = 0 then ev 200 24 [a0] st μ G else ev 200 20 [a0] st μ G := ev_br (mm_cnd_ne x 0) pg_200_17 rfl
theorem pg_200_20 : mm_prog 200 20 = some (0, .iconst 1, 21, []) := by decide +kernel
theorem xe_200_20 (a0 : Option MV) (st : List MV) (μ : MM) (G : MG) : ev 200 20 [a0] st μ G = ev 200 21 [a0] (vI (1) :: st) μ G := ev_stp pg_200_20 rfl
theorem pg_200_21 : mm_prog 200 21 = some (0, .goto 4, 24, []) := by decide +kernel
theorem xe_200_21 (a0 : Option MV) (st : List MV) (μ : MM) (G : MG) : ev 200 21 [a0] st μ G = ev 200 25 [a0] st μ G := ev_stp pg_200_21 rfl
theorem pg_200_24 : mm_prog 200 24 = some (0, .iconst 0, 25, []) := by decide +kernel
theorem xe_200_24 (a0 : Option MV) (st : List MV) (μ : MM) (G : MG) : ev 200 24 [a0] st μ G = ev 200 25 [a0] (vI (0) :: st) μ G := ev_stp pg_200_24 rfl
theorem pg_200_25 : mm_prog 200 25 = some (2, .ireturn, 26, [1]) := by decide +kernel
theorem xe_200_25 (a0 : Option MV) (x : Int) (μ : MM) (G : MG) : ev 200 25 [a0] [vI x] μ G = if x = 0 ∨ x = 1 then some (some (vI x), μ, G) else none := ev_retB pg_200_25
-- X11_isLink
theorem pg_201_0 : mm_prog 201 0 = some (0, .iload_n 0, 1, []) := by decide +kernel
theorem xe_201_0 (a1 : Option MV) (x : Int) (st : List MV) (μ : MM) (G : MG) : ev 201 0 [some (vI x), a1] st μ G = ev 201 1 [some (vI x), a1] (vI x :: st) μ G := ev_stp pg_201_0 rfl
theorem pg_201_1 : mm_prog 201 1 = some (0, .iconst 1, 2, []) := by decide +kernel
theorem xe_201_1 (a0 a1 : Option MV) (st : List MV) (μ : MM) (G : MG) : ev 201 1 [a0, a1] st μ G = ev 201 2 [a0, a1] (vI (1) :: st) μ G := ev_stp pg_201_1 rfl
theorem pg_201_2 : mm_prog 201 2 = some (0, .if_icmp .eq 13, 5, []) := by decide +kernel
theorem xe_201_2 (a0 a1 : Option MV) (x y : Int) (st : List MV) (μ : MM) (G : MG) : ev 201 2 [a0, a1] (vI y :: vI x :: st) μ G = if x = y then ev 201 15 [a0, a1] st μ G else ev 201 5 [a0, a1] st μ G := ev_br (mm_cnd_eq x y) pg_201_2 rfl
theorem pg_201_5 : mm_prog 201 5 = some (0, .iload_n 0, 6, []) := by decide +kernel
theorem xe_201_5 (a1 : Option MV) (x : Int) (st : List MV) (μ : MM) (G : MG) : ev 201 5 [some (vI x), a1] st μ G = ev 201 6 [some (vI x), a1] (vI x :: st) μ G := ev_stp pg_201_5 rfl
theorem pg_201_6 : mm_prog 201 6 = some (0, .iconst 2, 7, []) := by decide +kernel
theorem xe_201_6 (a0 a1 : Option MV) (st : List MV) (μ : MM) (G : MG) : ev 201 6 [a0, a1] st μ G = ev 201 7 [a0, a1] (vI (2) :: st) μ G := ev_stp pg_201_6 rfl
theorem pg_201_7 : mm_prog 201 7 = some (0, .if_icmp .eq 8, 10, []) := by decide +kernel
theorem xe_201_7 (a0 a1 : Option MV) (x y : Int) (st : List MV) (μ : MM) (G : MG) : ev 201 7 [a0, a1] (vI y :: vI x :: st) μ G = if x = y then ev 201 15 [a0, a1] st μ G else ev 201 10 [a0, a1] st μ G := ev_br (mm_cnd_eq x y) pg_201_7 rfl
theorem pg_201_10 : mm_prog 201 10 = some (0, .iload_n 0, 11, []) := by decide +kernel
theorem xe_201_10 (a1 : Option MV) (x : Int) (st : List MV) (μ : MM) (G : MG) : ev 201 10 [some (vI x), a1] st μ G = ev 201 11 [some (vI x), a1] (vI x :: st) μ G := ev_stp pg_201_10 rfl
theorem pg_201_11 : mm_prog 201 11 = some (0, .iconst 4, 12, []) := by decide +kernel
theorem xe_201_11 (a0 a1 : Option MV) (st : List MV) (μ : MM) (G : MG) : ev 201 11 [a0, a1] st μ G = ev 201 12 [a0, a1] (vI (4) :: st) μ G := ev_stp pg_201_11 rfl
theorem pg_201_12 : mm_prog 201 12 = some (0, .if_icmp .ne 19, 15, []) := by decide +kernel
theorem xe_201_12 (a0 a1 : Option MV) (x y : Int) (st : List MV) (μ : MM) (G : MG) : ev 201 12 [a0, a1] (vI y :: vI x :: st) μ G = if ¬ x = y then ev 201 31 [a0, a1] st μ G else ev 201 15 [a0, a1] st μ G := ev_br (mm_cnd_ne x y) pg_201_12 rfl
theorem pg_201_15 : mm_prog 201 15 = some (0, .iload_n 1, 16, []) := by decide +kernel
theorem xe_201_15 (a0 : Option MV) (x : Int) (st : List MV) (μ : MM) (G : MG) : ev 201 15 [a0, some (vI x)] st μ G = ev 201 16 [a0, some (vI x)] (vI x :: st) μ G := ev_stp pg_201_15 rfl
theorem pg_201_16 : mm_prog 201 16 = some (0, .i2l, 17, []) := by decide +kernel
theorem xe_201_16 (a0 a1 : Option MV) (x : Int) (st : List MV) (μ : MM) (G : MG) : ev 201 16 [a0, a1] (vI x :: st) μ G = ev 201 17 [a0, a1] (vL x :: st) μ G := ev_stp pg_201_16 rfl
theorem pg_201_17 : mm_prog 201 17 = some (0, .lconst 0, 18, []) := by decide +kernel
theorem xe_201_17 (a0 a1 : Option MV) (st : List MV) (μ : MM) (G : MG) : ev 201 17 [a0, a1] st μ G = ev 201 18 [a0, a1] (vL 0 :: st) μ G := ev_stp pg_201_17 rfl
theorem pg_201_18 : mm_prog 201 18 = some (0, .ldc2_w 315, 21, [3]) := by decide +kernel
theorem xe_201_18 (a0 a1 : Option MV) (st : List MV) (μ : MM) (G : MG) : ev 201 18 [a0, a1] st μ G = ev 201 21 [a0, a1] (vL (3) :: st) μ G := ev_stp pg_201_18 rfl
theorem pg_201_21 : mm_prog 201 21 = some (1, .invokestatic 107, 24, [0, 148, 3, 0]) := by decide +kernel
theorem xe_201_21 (a0 a1 : Option MV) (x0 x1 x2 : Int) (μ : MM) (G : MG) : ev 201 21 [a0, a1] (vL x2 :: vL x1 :: vL x0 :: []) μ G = (ev 148 0 [some (vL x0), none, some (vL x1), none, some (vL x2), none] [] μ G).bind (fun q => ev 201 24 [a0, a1] (q.1.toList ++ []) q.2.1 q.2.2) := ev_calS (as := [vL x0, vL x1, vL x2]) (r := []) mx_148 pg_201_21 rfl rfl (Nat.le_of_ble_eq_true rfl) (Nat.le_of_ble_eq_true rfl)
theorem pg_201_24 : mm_prog 201 24 = some (0, .ifCond .eq 7, 27, []) := by decide +kernel
theorem xe_201_24 (a0 a1 : Option MV) (x : Int) (st : List MV) (μ : MM) (G : MG) : ev 201 24 [a0, a1] (vI x :: st) μ G = if x = 0 then ev 201 31 [a0, a1] st μ G else ev 201 27 [a0, a1] st μ G := ev_br (mm_cnd_eq x 0) pg_201_24 rfl
theorem pg_201_27 : mm_prog 201 27 = some (0, .iconst 1, 28, []) := by decide +kernel
theorem xe_201_27 (a0 a1 : Option MV) (st : List MV) (μ : MM) (G : MG) : ev 201 27 [a0, a1] st μ G = ev 201 28 [a0, a1] (vI (1) :: st) μ G := ev_stp pg_201_27 rfl
theorem pg_201_28 : mm_prog 201 28 = some (0, .goto 4, 31, []) := by decide +kernel
theorem xe_201_28 (a0 a1 : Option MV) (st : List MV) (μ : MM) (G : MG) : ev 201 28 [a0, a1] st μ G = ev 201 32 [a0, a1] st μ G := ev_stp pg_201_28 rfl
theorem pg_201_31 : mm_prog 201 31 = some (0, .iconst 0, 32, []) := by decide +kernel
theorem xe_201_31 (a0 a1 : Option MV) (st : List MV) (μ : MM) (G : MG) : ev 201 31 [a0, a1] st μ G = ev 201 32 [a0, a1] (vI (0) :: st) μ G := ev_stp pg_201_31 rfl
theorem pg_201_32 : mm_prog 201 32 = some (2, .ireturn, 33, [1]) := by decide +kernel
theorem xe_201_32 (a0 a1 : Option MV) (x : Int) (μ : MM) (G : MG) : ev 201 32 [a0, a1] [vI x] μ G = if x = 0 ∨ x = 1 then some (some (vI x), μ, G) else none := ev_retB pg_201_32
-- X11_roomOf
theorem pg_202_0 : mm_prog 202 0 = some (0, .iload_n 1, 1, []) := by decide +kernel
theorem xe_202_0 (a0 a2 : Option MV) (x : Int) (st : List MV) (μ : MM) (G : MG) : ev 202 0 [a0, some (vI x), a2] st μ G = ev 202 1 [a0, some (vI x), a2] (vI x :: st) μ G := ev_stp pg_202_0 rfl
theorem pg_202_1 : mm_prog 202 1 = some (0, .ifCond .ne 9, 4, []) := by decide +kernel
theorem xe_202_1 (a0 a1 a2 : Option MV) (x : Int) (st : List MV) (μ : MM) (G : MG) : ev 202 1 [a0, a1, a2] (vI x :: st) μ G = if ¬ x = 0 then ev 202 10 [a0, a1, a2] st μ G else ev 202 4 [a0, a1, a2] st μ G := ev_br (mm_cnd_ne x 0) pg_202_1 rfl
theorem pg_202_4 : mm_prog 202 4 = some (0, .ldc_w 317, 7, [162000]) := by decide +kernel
theorem xe_202_4 (a0 a1 a2 : Option MV) (st : List MV) (μ : MM) (G : MG) : ev 202 4 [a0, a1, a2] st μ G = ev 202 7 [a0, a1, a2] (vI (162000) :: st) μ G := ev_stp pg_202_4 rfl
theorem pg_202_7 : mm_prog 202 7 = some (0, .goto 28, 10, []) := by decide +kernel
theorem xe_202_7 (a0 a1 a2 : Option MV) (st : List MV) (μ : MM) (G : MG) : ev 202 7 [a0, a1, a2] st μ G = ev 202 35 [a0, a1, a2] st μ G := ev_stp pg_202_7 rfl
theorem pg_202_10 : mm_prog 202 10 = some (0, .iload_n 1, 11, []) := by decide +kernel
theorem xe_202_10 (a0 a2 : Option MV) (x : Int) (st : List MV) (μ : MM) (G : MG) : ev 202 10 [a0, some (vI x), a2] st μ G = ev 202 11 [a0, some (vI x), a2] (vI x :: st) μ G := ev_stp pg_202_10 rfl
theorem pg_202_11 : mm_prog 202 11 = some (0, .iconst 1, 12, []) := by decide +kernel
theorem xe_202_11 (a0 a1 a2 : Option MV) (st : List MV) (μ : MM) (G : MG) : ev 202 11 [a0, a1, a2] st μ G = ev 202 12 [a0, a1, a2] (vI (1) :: st) μ G := ev_stp pg_202_11 rfl
theorem pg_202_12 : mm_prog 202 12 = some (0, .if_icmp .ne 9, 15, []) := by decide +kernel
theorem xe_202_12 (a0 a1 a2 : Option MV) (x y : Int) (st : List MV) (μ : MM) (G : MG) : ev 202 12 [a0, a1, a2] (vI y :: vI x :: st) μ G = if ¬ x = y then ev 202 21 [a0, a1, a2] st μ G else ev 202 15 [a0, a1, a2] st μ G := ev_br (mm_cnd_ne x y) pg_202_12 rfl
theorem pg_202_15 : mm_prog 202 15 = some (0, .ldc_w 318, 18, [270000]) := by decide +kernel
theorem xe_202_15 (a0 a1 a2 : Option MV) (st : List MV) (μ : MM) (G : MG) : ev 202 15 [a0, a1, a2] st μ G = ev 202 18 [a0, a1, a2] (vI (270000) :: st) μ G := ev_stp pg_202_15 rfl
theorem pg_202_18 : mm_prog 202 18 = some (0, .goto 17, 21, []) := by decide +kernel
theorem xe_202_18 (a0 a1 a2 : Option MV) (st : List MV) (μ : MM) (G : MG) : ev 202 18 [a0, a1, a2] st μ G = ev 202 35 [a0, a1, a2] st μ G := ev_stp pg_202_18 rfl
theorem pg_202_21 : mm_prog 202 21 = some (0, .iload_n 1, 22, []) := by decide +kernel
theorem xe_202_21 (a0 a2 : Option MV) (x : Int) (st : List MV) (μ : MM) (G : MG) : ev 202 21 [a0, some (vI x), a2] st μ G = ev 202 22 [a0, some (vI x), a2] (vI x :: st) μ G := ev_stp pg_202_21 rfl
theorem pg_202_22 : mm_prog 202 22 = some (0, .iconst 2, 23, []) := by decide +kernel
theorem xe_202_22 (a0 a1 a2 : Option MV) (st : List MV) (μ : MM) (G : MG) : ev 202 22 [a0, a1, a2] st μ G = ev 202 23 [a0, a1, a2] (vI (2) :: st) μ G := ev_stp pg_202_22 rfl
theorem pg_202_23 : mm_prog 202 23 = some (0, .if_icmp .ne 9, 26, []) := by decide +kernel
theorem xe_202_23 (a0 a1 a2 : Option MV) (x y : Int) (st : List MV) (μ : MM) (G : MG) : ev 202 23 [a0, a1, a2] (vI y :: vI x :: st) μ G = if ¬ x = y then ev 202 32 [a0, a1, a2] st μ G else ev 202 26 [a0, a1, a2] st μ G := ev_br (mm_cnd_ne x y) pg_202_23 rfl
theorem pg_202_26 : mm_prog 202 26 = some (0, .ldc_w 319, 29, [540000]) := by decide +kernel
theorem xe_202_26 (a0 a1 a2 : Option MV) (st : List MV) (μ : MM) (G : MG) : ev 202 26 [a0, a1, a2] st μ G = ev 202 29 [a0, a1, a2] (vI (540000) :: st) μ G := ev_stp pg_202_26 rfl
theorem pg_202_29 : mm_prog 202 29 = some (0, .goto 6, 32, []) := by decide +kernel
theorem xe_202_29 (a0 a1 a2 : Option MV) (st : List MV) (μ : MM) (G : MG) : ev 202 29 [a0, a1, a2] st μ G = ev 202 35 [a0, a1, a2] st μ G := ev_stp pg_202_29 rfl
theorem pg_202_32 : mm_prog 202 32 = some (0, .ldc_w 320, 35, [810000]) := by decide +kernel
theorem xe_202_32 (a0 a1 a2 : Option MV) (st : List MV) (μ : MM) (G : MG) : ev 202 32 [a0, a1, a2] st μ G = ev 202 35 [a0, a1, a2] (vI (810000) :: st) μ G := ev_stp pg_202_32 rfl
theorem pg_202_35 : mm_prog 202 35 = some (0, .istore_n 2, 36, []) := by decide +kernel
theorem xe_202_35 (a0 a1 a2 : Option MV) (x : Int) (st : List MV) (μ : MM) (G : MG) (h : mm_nL a1 = true) : ev 202 35 [a0, a1, a2] (vI x :: st) μ G = ev 202 36 [a0, a1, some (vI x)] st μ G := ev_st pg_202_35 rfl (mm_nl_of h) (Nat.le_of_ble_eq_true rfl)
theorem pg_202_36 : mm_prog 202 36 = some (0, .bipush 8, 38, []) := by decide +kernel
theorem xe_202_36 (a0 a1 a2 : Option MV) (st : List MV) (μ : MM) (G : MG) : ev 202 36 [a0, a1, a2] st μ G = ev 202 38 [a0, a1, a2] (vI (8) :: st) μ G := ev_stp pg_202_36 rfl
theorem pg_202_38 : mm_prog 202 38 = some (0, .iload_n 0, 39, []) := by decide +kernel
theorem xe_202_38 (a1 a2 : Option MV) (x : Int) (st : List MV) (μ : MM) (G : MG) : ev 202 38 [some (vI x), a1, a2] st μ G = ev 202 39 [some (vI x), a1, a2] (vI x :: st) μ G := ev_stp pg_202_38 rfl
theorem pg_202_39 : mm_prog 202 39 = some (0, .imul, 40, []) := by decide +kernel
theorem xe_202_39 (a0 a1 a2 : Option MV) (x y : Int) (st : List MV) (μ : MM) (G : MG) : ev 202 39 [a0, a1, a2] (vI y :: vI x :: st) μ G = ev 202 40 [a0, a1, a2] (vI (w32 (x * y)) :: st) μ G := ev_stp pg_202_39 rfl
theorem pg_202_40 : mm_prog 202 40 = some (0, .iload_n 2, 41, []) := by decide +kernel
theorem xe_202_40 (a0 a1 : Option MV) (x : Int) (st : List MV) (μ : MM) (G : MG) : ev 202 40 [a0, a1, some (vI x)] st μ G = ev 202 41 [a0, a1, some (vI x)] (vI x :: st) μ G := ev_stp pg_202_40 rfl
theorem pg_202_41 : mm_prog 202 41 = some (0, .imul, 42, []) := by decide +kernel
theorem xe_202_41 (a0 a1 a2 : Option MV) (x y : Int) (st : List MV) (μ : MM) (G : MG) : ev 202 41 [a0, a1, a2] (vI y :: vI x :: st) μ G = ev 202 42 [a0, a1, a2] (vI (w32 (x * y)) :: st) μ G := ev_stp pg_202_41 rfl
theorem pg_202_42 : mm_prog 202 42 = some (2, .ireturn, 43, [0]) := by decide +kernel
theorem xe_202_42 (a0 a1 a2 : Option MV) (x : Int) (μ : MM) (G : MG) : ev 202 42 [a0, a1, a2] [vI x] μ G = some (some (vI x), μ, G) := ev_ret pg_202_42 rfl
-- X11_needOf
theorem pg_203_0 : mm_prog 203 0 = some (0, .iconst 3, 1, []) := by decide +kernel
theorem xe_203_0 (a0 a1 a2 : Option MV) (st : List MV) (μ : MM) (G : MG) : ev 203 0 [a0, a1, a2] st μ G = ev 203 1 [a0, a1, a2] (vI (3) :: st) μ G := ev_stp pg_203_0 rfl
theorem pg_203_1 : mm_prog 203 1 = some (0, .iload_n 2, 2, []) := by decide +kernel
theorem xe_203_1 (a0 a1 : Option MV) (x : Int) (st : List MV) (μ : MM) (G : MG) : ev 203 1 [a0, a1, some (vI x)] st μ G = ev 203 2 [a0, a1, some (vI x)] (vI x :: st) μ G := ev_stp pg_203_1 rfl
theorem pg_203_2 : mm_prog 203 2 = some (0, .imul, 3, []) := by decide +kernel
theorem xe_203_2 (a0 a1 a2 : Option MV) (x y : Int) (st : List MV) (μ : MM) (G : MG) : ev 203 2 [a0, a1, a2] (vI y :: vI x :: st) μ G = ev 203 3 [a0, a1, a2] (vI (w32 (x * y)) :: st) μ G := ev_stp pg_203_2 rfl
theorem pg_203_3 : mm_prog 203 3 = some (0, .aload_n 0, 4, []) := by decide +kernel
theorem xe_203_3 (a1 a2 : Option MV) (x : Int) (st : List MV) (μ : MM) (G : MG) : ev 203 3 [some (vR x), a1, a2] st μ G = ev 203 4 [some (vR x), a1, a2] (vR x :: st) μ G := ev_stp pg_203_3 rfl
theorem pg_203_4 : mm_prog 203 4 = some (0, .iload_n 1, 5, []) := by decide +kernel
theorem xe_203_4 (a0 a2 : Option MV) (x : Int) (st : List MV) (μ : MM) (G : MG) : ev 203 4 [a0, some (vI x), a2] st μ G = ev 203 5 [a0, some (vI x), a2] (vI x :: st) μ G := ev_stp pg_203_4 rfl
theorem pg_203_5 : mm_prog 203 5 = some (0, .iconst 3, 6, []) := by decide +kernel
theorem xe_203_5 (a0 a1 a2 : Option MV) (st : List MV) (μ : MM) (G : MG) : ev 203 5 [a0, a1, a2] st μ G = ev 203 6 [a0, a1, a2] (vI (3) :: st) μ G := ev_stp pg_203_5 rfl
theorem pg_203_6 : mm_prog 203 6 = some (1, .invokevirtual 244, 9, [1, 168, 2, 11]) := by decide +kernel
theorem xe_203_6 (a0 a1 a2 : Option MV) (x0 x1 z r0 : Int) (μ : MM) (G : MG) : ev 203 6 [a0, a1, a2] (vI x1 :: vI x0 :: vR z :: [vI r0]) μ G = if gk G z = 11 ∧ 0 < z then (ev 168 0 [some (vR z), some (vI x0), some (vI x1)] [] μ G).bind (fun q => ev 203 9 [a0, a1, a2] (q.1.toList ++ [vI r0]) q.2.1 q.2.2) else none := ev_calV (as := [vR z, vI x0, vI x1]) (r := [vI r0]) mx_168 pg_203_6 rfl rfl (Nat.le_of_ble_eq_true rfl) (Nat.le_of_ble_eq_true rfl)
theorem pg_203_9 : mm_prog 203 9 = some (0, .imul, 10, []) := by decide +kernel
theorem xe_203_9 (a0 a1 a2 : Option MV) (x y : Int) (st : List MV) (μ : MM) (G : MG) : ev 203 9 [a0, a1, a2] (vI y :: vI x :: st) μ G = ev 203 10 [a0, a1, a2] (vI (w32 (x * y)) :: st) μ G := ev_stp pg_203_9 rfl
theorem pg_203_10 : mm_prog 203 10 = some (2, .ireturn, 11, [0]) := by decide +kernel
theorem xe_203_10 (a0 a1 a2 : Option MV) (x : Int) (μ : MM) (G : MG) : ev 203 10 [a0, a1, a2] [vI x] μ G = some (some (vI x), μ, G) := ev_ret pg_203_10 rfl
-- X11_wish
theorem pg_204_0 : mm_prog 204 0 = some (0, .aload_n 0, 1, []) := by decide +kernel
theorem xe_204_0 (a1 a2 : Option MV) (x : Int) (st : List MV) (μ : MM) (G : MG) : ev 204 0 [some (vR x), a1, a2] st μ G = ev 204 1 [some (vR x), a1, a2] (vR x :: st) μ G := ev_stp pg_204_0 rfl
theorem pg_204_1 : mm_prog 204 1 = some (0, .iconst 0, 2, []) := by decide +kernel
theorem xe_204_1 (a0 a1 a2 : Option MV) (st : List MV) (μ : MM) (G : MG) : ev 204 1 [a0, a1, a2] st μ G = ev 204 2 [a0, a1, a2] (vI (0) :: st) μ G := ev_stp pg_204_1 rfl
theorem pg_204_2 : mm_prog 204 2 = some (0, .putfield 1, 5, [11, 0, 0]) := by decide +kernel
theorem xe_204_2 (a0 a1 a2 : Option MV) (x y : Int) (st : List MV) (μ : MM) (G : MG) : ev 204 2 [a0, a1, a2] (vI x :: vR y :: st) μ G = if gk G y = 11 then ev 204 5 [a0, a1, a2] st (mset μ y 0 x) G else none := ev_put0 pg_204_2
theorem pg_204_5 : mm_prog 204 5 = some (0, .iload_n 1, 6, []) := by decide +kernel
theorem xe_204_5 (a0 a2 : Option MV) (x : Int) (st : List MV) (μ : MM) (G : MG) : ev 204 5 [a0, some (vI x), a2] st μ G = ev 204 6 [a0, some (vI x), a2] (vI x :: st) μ G := ev_stp pg_204_5 rfl
theorem pg_204_6 : mm_prog 204 6 = some (1, .invokestatic 321, 9, [0, 200, 1, 0]) := by decide +kernel
theorem xe_204_6 (a0 a1 a2 : Option MV) (x0 : Int) (μ : MM) (G : MG) : ev 204 6 [a0, a1, a2] (vI x0 :: []) μ G = (ev 200 0 [some (vI x0)] [] μ G).bind (fun q => ev 204 9 [a0, a1, a2] (q.1.toList ++ []) q.2.1 q.2.2) := ev_calS (as := [vI x0]) (r := []) mx_200 pg_204_6 rfl rfl (Nat.le_of_ble_eq_true rfl) (Nat.le_of_ble_eq_true rfl)
theorem pg_204_9 : mm_prog 204 9 = some (0, .ifCond .ne 6, 12, []) := by decide +kernel
theorem xe_204_9 (a0 a1 a2 : Option MV) (x : Int) (st : List MV) (μ : MM) (G : MG) : ev 204 9 [a0, a1, a2] (vI x :: st) μ G = if ¬ x = 0 then ev 204 15 [a0, a1, a2] st μ G else ev 204 12 [a0, a1, a2] st μ G := ev_br (mm_cnd_ne x 0) pg_204_9 rfl
theorem pg_204_12 : mm_prog 204 12 = some (0, .bipush (-3), 14, []) := by decide +kernel
theorem xe_204_12 (a0 a1 a2 : Option MV) (st : List MV) (μ : MM) (G : MG) : ev 204 12 [a0, a1, a2] st μ G = ev 204 14 [a0, a1, a2] (vI (-3) :: st) μ G := ev_stp pg_204_12 rfl
theorem pg_204_14 : mm_prog 204 14 = some (2, .ireturn, 15, [0]) := by decide +kernel
theorem xe_204_14 (a0 a1 a2 : Option MV) (x : Int) (μ : MM) (G : MG) : ev 204 14 [a0, a1, a2] [vI x] μ G = some (some (vI x), μ, G) := ev_ret pg_204_14 rfl
theorem pg_204_15 : mm_prog 204 15 = some (0, .aload_n 0, 16, []) := by decide +kernel
theorem xe_204_15 (a1 a2 : Option MV) (x : Int) (st : List MV) (μ : MM) (G : MG) : ev 204 15 [some (vR x), a1, a2] st μ G = ev 204 16 [some (vR x), a1, a2] (vR x :: st) μ G := ev_stp pg_204_15 rfl
theorem pg_204_16 : mm_prog 204 16 = some (0, .getfield 66, 19, [11, 30, 0]) := by decide +kernel
theorem xe_204_16 (a0 a1 a2 : Option MV) (x : Int) (st : List MV) (μ : MM) (G : MG) : ev 204 16 [a0, a1, a2] (vR x :: st) μ G = if gk G x = 11 then ev 204 19 [a0, a1, a2] (vI (μ x 30) :: st) μ G else none := ev_if pg_204_16 rfl
theorem pg_204_19 : mm_prog 204 19 = some (0, .istore_n 2, 20, []) := by decide +kernel
theorem xe_204_19 (a0 a1 a2 : Option MV) (x : Int) (st : List MV) (μ : MM) (G : MG) (h : mm_nL a1 = true) : ev 204 19 [a0, a1, a2] (vI x :: st) μ G = ev 204 20 [a0, a1, some (vI x)] st μ G := ev_st pg_204_19 rfl (mm_nl_of h) (Nat.le_of_ble_eq_true rfl)
theorem pg_204_20 : mm_prog 204 20 = some (0, .aload_n 0, 21, []) := by decide +kernel
theorem xe_204_20 (a1 a2 : Option MV) (x : Int) (st : List MV) (μ : MM) (G : MG) : ev 204 20 [some (vR x), a1, a2] st μ G = ev 204 21 [some (vR x), a1, a2] (vR x :: st) μ G := ev_stp pg_204_20 rfl
theorem pg_204_21 : mm_prog 204 21 = some (0, .iload_n 1, 22, []) := by decide +kernel
theorem xe_204_21 (a0 a2 : Option MV) (x : Int) (st : List MV) (μ : MM) (G : MG) : ev 204 21 [a0, some (vI x), a2] st μ G = ev 204 22 [a0, some (vI x), a2] (vI x :: st) μ G := ev_stp pg_204_21 rfl
theorem pg_204_22 : mm_prog 204 22 = some (0, .putfield 66, 25, [11, 30, 0]) := by decide +kernel
theorem xe_204_22 (a0 a1 a2 : Option MV) (x y : Int) (st : List MV) (μ : MM) (G : MG) : ev 204 22 [a0, a1, a2] (vI x :: vR y :: st) μ G = if gk G y = 11 then ev 204 25 [a0, a1, a2] st (mset μ y 30 x) G else none := ev_put0 pg_204_22
theorem pg_204_25 : mm_prog 204 25 = some (0, .iload_n 2, 26, []) := by decide +kernel
theorem xe_204_25 (a0 a1 : Option MV) (x : Int) (st : List MV) (μ : MM) (G : MG) : ev 204 25 [a0, a1, some (vI x)] st μ G = ev 204 26 [a0, a1, some (vI x)] (vI x :: st) μ G := ev_stp pg_204_25 rfl
theorem pg_204_26 : mm_prog 204 26 = some (2, .ireturn, 27, [0]) := by decide +kernel
theorem xe_204_26 (a0 a1 a2 : Option MV) (x : Int) (μ : MM) (G : MG) : ev 204 26 [a0, a1, a2] [vI x] μ G = some (some (vI x), μ, G) := ev_ret pg_204_26 rfl
-- X11_room
theorem pg_205_0 : mm_prog 205 0 = some (0, .aload_n 0, 1, []) := by decide +kernel
theorem xe_205_0 (a1 a2 : Option MV) (x : Int) (st : List MV) (μ : MM) (G : MG) : ev 205 0 [some (vR x), a1, a2] st μ G = ev 205 1 [some (vR x), a1, a2] (vR x :: st) μ G := ev_stp pg_205_0 rfl
theorem pg_205_1 : mm_prog 205 1 = some (0, .iconst 0, 2, []) := by decide +kernel
theorem xe_205_1 (a0 a1 a2 : Option MV) (st : List MV) (μ : MM) (G : MG) : ev 205 1 [a0, a1, a2] st μ G = ev 205 2 [a0, a1, a2] (vI (0) :: st) μ G := ev_stp pg_205_1 rfl
theorem pg_205_2 : mm_prog 205 2 = some (0, .putfield 1, 5, [11, 0, 0]) := by decide +kernel
theorem xe_205_2 (a0 a1 a2 : Option MV) (x y : Int) (st : List MV) (μ : MM) (G : MG) : ev 205 2 [a0, a1, a2] (vI x :: vR y :: st) μ G = if gk G y = 11 then ev 205 5 [a0, a1, a2] st (mset μ y 0 x) G else none := ev_put0 pg_205_2
theorem pg_205_5 : mm_prog 205 5 = some (0, .iload_n 1, 6, []) := by decide +kernel
theorem xe_205_5 (a0 a2 : Option MV) (x : Int) (st : List MV) (μ : MM) (G : MG) : ev 205 5 [a0, some (vI x), a2] st μ G = ev 205 6 [a0, some (vI x), a2] (vI x :: st) μ G := ev_stp pg_205_5 rfl
theorem pg_205_6 : mm_prog 205 6 = some (0, .iload_n 2, 7, []) := by decide +kernel
theorem xe_205_6 (a0 a1 : Option MV) (x : Int) (st : List MV) (μ : MM) (G : MG) : ev 205 6 [a0, a1, some (vI x)] st μ G = ev 205 7 [a0, a1, some (vI x)] (vI x :: st) μ G := ev_stp pg_205_6 rfl
theorem pg_205_7 : mm_prog 205 7 = some (1, .invokestatic 324, 10, [0, 201, 2, 0]) := by decide +kernel
theorem xe_205_7 (a0 a1 a2 : Option MV) (x0 x1 : Int) (μ : MM) (G : MG) : ev 205 7 [a0, a1, a2] (vI x1 :: vI x0 :: []) μ G = (ev 201 0 [some (vI x0), some (vI x1)] [] μ G).bind (fun q => ev 205 10 [a0, a1, a2] (q.1.toList ++ []) q.2.1 q.2.2) := ev_calS (as := [vI x0, vI x1]) (r := []) mx_201 pg_205_7 rfl rfl (Nat.le_of_ble_eq_true rfl) (Nat.le_of_ble_eq_true rfl)
theorem pg_205_10 : mm_prog 205 10 = some (0, .ifCond .eq 11, 13, []) := by decide +kernel
theorem xe_205_10 (a0 a1 a2 : Option MV) (x : Int) (st : List MV) (μ : MM) (G : MG) : ev 205 10 [a0, a1, a2] (vI x :: st) μ G = if x = 0 then ev 205 21 [a0, a1, a2] st μ G else ev 205 13 [a0, a1, a2] st μ G := ev_br (mm_cnd_eq x 0) pg_205_10 rfl
theorem pg_205_13 : mm_prog 205 13 = some (0, .iload_n 1, 14, []) := by decide +kernel
theorem xe_205_13 (a0 a2 : Option MV) (x : Int) (st : List MV) (μ : MM) (G : MG) : ev 205 13 [a0, some (vI x), a2] st μ G = ev 205 14 [a0, some (vI x), a2] (vI x :: st) μ G := ev_stp pg_205_13 rfl
theorem pg_205_14 : mm_prog 205 14 = some (0, .iload_n 2, 15, []) := by decide +kernel
theorem xe_205_14 (a0 a1 : Option MV) (x : Int) (st : List MV) (μ : MM) (G : MG) : ev 205 14 [a0, a1, some (vI x)] st μ G = ev 205 15 [a0, a1, some (vI x)] (vI x :: st) μ G := ev_stp pg_205_14 rfl
theorem pg_205_15 : mm_prog 205 15 = some (1, .invokestatic 327, 18, [0, 202, 2, 0]) := by decide +kernel
theorem xe_205_15 (a0 a1 a2 : Option MV) (x0 x1 : Int) (μ : MM) (G : MG) : ev 205 15 [a0, a1, a2] (vI x1 :: vI x0 :: []) μ G = (ev 202 0 [some (vI x0), some (vI x1), none] [] μ G).bind (fun q => ev 205 18 [a0, a1, a2] (q.1.toList ++ []) q.2.1 q.2.2) := ev_calS (as := [vI x0, vI x1]) (r := []) mx_202 pg_205_15 rfl rfl (Nat.le_of_ble_eq_true rfl) (Nat.le_of_ble_eq_true rfl)
theorem pg_205_18 : mm_prog 205 18 = some (0, .goto 5, 21, []) := by decide +kernel
theorem xe_205_18 (a0 a1 a2 : Option MV) (st : List MV) (μ : MM) (G : MG) : ev 205 18 [a0, a1, a2] st μ G = ev 205 23 [a0, a1, a2] st μ G := ev_stp pg_205_18 rfl
theorem pg_205_21 : mm_prog 205 21 = some (0, .bipush (-3), 23, []) := by decide +kernel
theorem xe_205_21 (a0 a1 a2 : Option MV) (st : List MV) (μ : MM) (G : MG) : ev 205 21 [a0, a1, a2] st μ G = ev 205 23 [a0, a1, a2] (vI (-3) :: st) μ G := ev_stp pg_205_21 rfl
theorem pg_205_23 : mm_prog 205 23 = some (2, .ireturn, 24, [0]) := by decide +kernel
theorem xe_205_23 (a0 a1 a2 : Option MV) (x : Int) (μ : MM) (G : MG) : ev 205 23 [a0, a1, a2] [vI x] μ G = some (some (vI x), μ, G) := ev_ret pg_205_23 rfl
-- X11_need
theorem pg_206_0 : mm_prog 206 0 = some (0, .aload_n 0, 1, []) := by decide +kernel
theorem xe_206_0 (a1 a2 : Option MV) (x : Int) (st : List MV) (μ : MM) (G : MG) : ev 206 0 [some (vR x), a1, a2] st μ G = ev 206 1 [some (vR x), a1, a2] (vR x :: st) μ G := ev_stp pg_206_0 rfl
theorem pg_206_1 : mm_prog 206 1 = some (0, .iconst 0, 2, []) := by decide +kernel
theorem xe_206_1 (a0 a1 a2 : Option MV) (st : List MV) (μ : MM) (G : MG) : ev 206 1 [a0, a1, a2] st μ G = ev 206 2 [a0, a1, a2] (vI (0) :: st) μ G := ev_stp pg_206_1 rfl
theorem pg_206_2 : mm_prog 206 2 = some (0, .putfield 1, 5, [11, 0, 0]) := by decide +kernel
theorem xe_206_2 (a0 a1 a2 : Option MV) (x y : Int) (st : List MV) (μ : MM) (G : MG) : ev 206 2 [a0, a1, a2] (vI x :: vR y :: st) μ G = if gk G y = 11 then ev 206 5 [a0, a1, a2] st (mset μ y 0 x) G else none := ev_put0 pg_206_2
theorem pg_206_5 : mm_prog 206 5 = some (0, .aload_n 0, 6, []) := by decide +kernel
theorem xe_206_5 (a1 a2 : Option MV) (x : Int) (st : List MV) (μ : MM) (G : MG) : ev 206 5 [some (vR x), a1, a2] st μ G = ev 206 6 [some (vR x), a1, a2] (vR x :: st) μ G := ev_stp pg_206_5 rfl
theorem pg_206_6 : mm_prog 206 6 = some (0, .iload_n 1, 7, []) := by decide +kernel
theorem xe_206_6 (a0 a2 : Option MV) (x : Int) (st : List MV) (μ : MM) (G : MG) : ev 206 6 [a0, some (vI x), a2] st μ G = ev 206 7 [a0, some (vI x), a2] (vI x :: st) μ G := ev_stp pg_206_6 rfl
theorem pg_206_7 : mm_prog 206 7 = some (1, .invokevirtual 239, 10, [1, 181, 1, 11]) := by decide +kernel
theorem xe_206_7 (a0 a1 a2 : Option MV) (x0 z : Int) (μ : MM) (G : MG) : ev 206 7 [a0, a1, a2] (vI x0 :: vR z :: []) μ G = if gk G z = 11 ∧ 0 < z then (ev 181 0 [some (vR z), some (vI x0)] [] μ G).bind (fun q => ev 206 10 [a0, a1, a2] (q.1.toList ++ []) q.2.1 q.2.2) else none := ev_calV (as := [vR z, vI x0]) (r := []) mx_181 pg_206_7 rfl rfl (Nat.le_of_ble_eq_true rfl) (Nat.le_of_ble_eq_true rfl)
theorem pg_206_10 : mm_prog 206 10 = some (0, .ifCond .ne 6, 13, []) := by decide +kernel
theorem xe_206_10 (a0 a1 a2 : Option MV) (x : Int) (st : List MV) (μ : MM) (G : MG) : ev 206 10 [a0, a1, a2] (vI x :: st) μ G = if ¬ x = 0 then ev 206 16 [a0, a1, a2] st μ G else ev 206 13 [a0, a1, a2] st μ G := ev_br (mm_cnd_ne x 0) pg_206_10 rfl
theorem pg_206_13 : mm_prog 206 13 = some (0, .bipush (-2), 15, []) := by decide +kernel
theorem xe_206_13 (a0 a1 a2 : Option MV) (st : List MV) (μ : MM) (G : MG) : ev 206 13 [a0, a1, a2] st μ G = ev 206 15 [a0, a1, a2] (vI (-2) :: st) μ G := ev_stp pg_206_13 rfl
theorem pg_206_15 : mm_prog 206 15 = some (2, .ireturn, 16, [0]) := by decide +kernel
theorem xe_206_15 (a0 a1 a2 : Option MV) (x : Int) (μ : MM) (G : MG) : ev 206 15 [a0, a1, a2] [vI x] μ G = some (some (vI x), μ, G) := ev_ret pg_206_15 rfl
theorem pg_206_16 : mm_prog 206 16 = some (0, .iload_n 2, 17, []) := by decide +kernel
theorem xe_206_16 (a0 a1 : Option MV) (x : Int) (st : List MV) (μ : MM) (G : MG) : ev 206 16 [a0, a1, some (vI x)] st μ G = ev 206 17 [a0, a1, some (vI x)] (vI x :: st) μ G := ev_stp pg_206_16 rfl
theorem pg_206_17 : mm_prog 206 17 = some (1, .invokestatic 321, 20, [0, 200, 1, 0]) := by decide +kernel
theorem xe_206_17 (a0 a1 a2 : Option MV) (x0 : Int) (μ : MM) (G : MG) : ev 206 17 [a0, a1, a2] (vI x0 :: []) μ G = (ev 200 0 [some (vI x0)] [] μ G).bind (fun q => ev 206 20 [a0, a1, a2] (q.1.toList ++ []) q.2.1 q.2.2) := ev_calS (as := [vI x0]) (r := []) mx_200 pg_206_17 rfl rfl (Nat.le_of_ble_eq_true rfl) (Nat.le_of_ble_eq_true rfl)
theorem pg_206_20 : mm_prog 206 20 = some (0, .ifCond .eq 12, 23, []) := by decide +kernel
theorem xe_206_20 (a0 a1 a2 : Option MV) (x : Int) (st : List MV) (μ : MM) (G : MG) : ev 206 20 [a0, a1, a2] (vI x :: st) μ G = if x = 0 then ev 206 32 [a0, a1, a2] st μ G else ev 206 23 [a0, a1, a2] st μ G := ev_br (mm_cnd_eq x 0) pg_206_20 rfl
theorem pg_206_23 : mm_prog 206 23 = some (0, .aload_n 0, 24, []) := by decide +kernel
theorem xe_206_23 (a1 a2 : Option MV) (x : Int) (st : List MV) (μ : MM) (G : MG) : ev 206 23 [some (vR x), a1, a2] st μ G = ev 206 24 [some (vR x), a1, a2] (vR x :: st) μ G := ev_stp pg_206_23 rfl
theorem pg_206_24 : mm_prog 206 24 = some (0, .iload_n 1, 25, []) := by decide +kernel
theorem xe_206_24 (a0 a2 : Option MV) (x : Int) (st : List MV) (μ : MM) (G : MG) : ev 206 24 [a0, some (vI x), a2] st μ G = ev 206 25 [a0, some (vI x), a2] (vI x :: st) μ G := ev_stp pg_206_24 rfl
theorem pg_206_25 : mm_prog 206 25 = some (0, .iload_n 2, 26, []) := by decide +kernel
theorem xe_206_25 (a0 a1 : Option MV) (x : Int) (st : List MV) (μ : MM) (G : MG) : ev 206 25 [a0, a1, some (vI x)] st μ G = ev 206 26 [a0, a1, some (vI x)] (vI x :: st) μ G := ev_stp pg_206_25 rfl
theorem pg_206_26 : mm_prog 206 26 = some (1, .invokevirtual 330, 29, [1, 203, 2, 11]) := by decide +kernel
theorem xe_206_26 (a0 a1 a2 : Option MV) (x0 x1 z : Int) (μ : MM) (G : MG) : ev 206 26 [a0, a1, a2] (vI x1 :: vI x0 :: vR z :: []) μ G = if gk G z = 11 ∧ 0 < z then (ev 203 0 [some (vR z), some (vI x0), some (vI x1)] [] μ G).bind (fun q => ev 206 29 [a0, a1, a2] (q.1.toList ++ []) q.2.1 q.2.2) else none := ev_calV (as := [vR z, vI x0, vI x1]) (r := []) mx_203 pg_206_26 rfl rfl (Nat.le_of_ble_eq_true rfl) (Nat.le_of_ble_eq_true rfl)
theorem pg_206_29 : mm_prog 206 29 = some (0, .goto 5, 32, []) := by decide +kernel
theorem xe_206_29 (a0 a1 a2 : Option MV) (st : List MV) (μ : MM) (G : MG) : ev 206 29 [a0, a1, a2] st μ G = ev 206 34 [a0, a1, a2] st μ G := ev_stp pg_206_29 rfl
theorem pg_206_32 : mm_prog 206 32 = some (0, .bipush (-3), 34, []) := by decide +kernel
theorem xe_206_32 (a0 a1 a2 : Option MV) (st : List MV) (μ : MM) (G : MG) : ev 206 32 [a0, a1, a2] st μ G = ev 206 34 [a0, a1, a2] (vI (-3) :: st) μ G := ev_stp pg_206_32 rfl
theorem pg_206_34 : mm_prog 206 34 = some (2, .ireturn, 35, [0]) := by decide +kernel
theorem xe_206_34 (a0 a1 a2 : Option MV) (x : Int) (μ : MM) (G : MG) : ev 206 34 [a0, a1, a2] [vI x] μ G = some (some (vI x), μ, G) := ev_ret pg_206_34 rfl
-- X11_laysBest
theorem pg_207_0 : mm_prog 207 0 = some (0, .aload_n 0, 1, []) := by decide +kernel
theorem xe_207_0 (a1 a2 a3 : Option MV) (x : Int) (st : List MV) (μ : MM) (G : MG) : ev 207 0 [some (vR x), a1, a2, a3] st μ G = ev 207 1 [some (vR x), a1, a2, a3] (vR x :: st) μ G := ev_stp pg_207_0 rfl
theorem pg_207_1 : mm_prog 207 1 = some (0, .iconst (-1), 2, []) := by decide +kernel
theorem xe_207_1 (a0 a1 a2 a3 : Option MV) (st : List MV) (μ : MM) (G : MG) : ev 207 1 [a0, a1, a2, a3] st μ G = ev 207 2 [a0, a1, a2, a3] (vI (-1) :: st) μ G := ev_stp pg_207_1 rfl
theorem pg_207_2 : mm_prog 207 2 = some (0, .putfield 333, 5, [11, 33, 0]) := by decide +kernel
theorem xe_207_2 (a0 a1 a2 a3 : Option MV) (x y : Int) (st : List MV) (μ : MM) (G : MG) : ev 207 2 [a0, a1, a2, a3] (vI x :: vR y :: st) μ G = if gk G y = 11 then ev 207 5 [a0, a1, a2, a3] st (mset μ y 33 x) G else none := ev_put0 pg_207_2
theorem pg_207_5 : mm_prog 207 5 = some (0, .aload_n 0, 6, []) := by decide +kernel
theorem xe_207_5 (a1 a2 a3 : Option MV) (x : Int) (st : List MV) (μ : MM) (G : MG) : ev 207 5 [some (vR x), a1, a2, a3] st μ G = ev 207 6 [some (vR x), a1, a2, a3] (vR x :: st) μ G := ev_stp pg_207_5 rfl
theorem pg_207_6 : mm_prog 207 6 = some (0, .iconst (-1), 7, []) := by decide +kernel
theorem xe_207_6 (a0 a1 a2 a3 : Option MV) (st : List MV) (μ : MM) (G : MG) : ev 207 6 [a0, a1, a2, a3] st μ G = ev 207 7 [a0, a1, a2, a3] (vI (-1) :: st) μ G := ev_stp pg_207_6 rfl
theorem pg_207_7 : mm_prog 207 7 = some (0, .putfield 336, 10, [11, 34, 0]) := by decide +kernel
theorem xe_207_7 (a0 a1 a2 a3 : Option MV) (x y : Int) (st : List MV) (μ : MM) (G : MG) : ev 207 7 [a0, a1, a2, a3] (vI x :: vR y :: st) μ G = if gk G y = 11 then ev 207 10 [a0, a1, a2, a3] st (mset μ y 34 x) G else none := ev_put0 pg_207_7
theorem pg_207_10 : mm_prog 207 10 = some (0, .iconst 0, 11, []) := by decide +kernel
theorem xe_207_10 (a0 a1 a2 a3 : Option MV) (st : List MV) (μ : MM) (G : MG) : ev 207 10 [a0, a1, a2, a3] st μ G = ev 207 11 [a0, a1, a2, a3] (vI (0) :: st) μ G := ev_stp pg_207_10 rfl
theorem pg_207_11 : mm_prog 207 11 = some (0, .istore_n 2, 12, []) := by decide +kernel
theorem xe_207_11 (a0 a1 a2 a3 : Option MV) (x : Int) (st : List MV) (μ : MM) (G : MG) (h : mm_nL a1 = true) : ev 207 11 [a0, a1, a2, a3] (vI x :: st) μ G = ev 207 12 [a0, a1, some (vI x), a3] st μ G := ev_st pg_207_11 rfl (mm_nl_of h) (Nat.le_of_ble_eq_true rfl)
theorem pg_207_12 : mm_prog 207 12 = some (0, .iload_n 2, 13, []) := by decide +kernel
theorem xe_207_12 (a0 a1 a3 : Option MV) (x : Int) (st : List MV) (μ : MM) (G : MG) : ev 207 12 [a0, a1, some (vI x), a3] st μ G = ev 207 13 [a0, a1, some (vI x), a3] (vI x :: st) μ G := ev_stp pg_207_12 rfl
theorem pg_207_13 : mm_prog 207 13 = some (0, .aload_n 0, 14, []) := by decide +kernel
theorem xe_207_13 (a1 a2 a3 : Option MV) (x : Int) (st : List MV) (μ : MM) (G : MG) : ev 207 13 [some (vR x), a1, a2, a3] st μ G = ev 207 14 [some (vR x), a1, a2, a3] (vR x :: st) μ G := ev_stp pg_207_13 rfl
theorem pg_207_14 : mm_prog 207 14 = some (0, .getfield 134, 17, [11, 23, 0]) := by decide +kernel
theorem xe_207_14 (a0 a1 a2 a3 : Option MV) (x : Int) (st : List MV) (μ : MM) (G : MG) : ev 207 14 [a0, a1, a2, a3] (vR x :: st) μ G = if gk G x = 11 then ev 207 17 [a0, a1, a2, a3] (vI (μ x 23) :: st) μ G else none := ev_if pg_207_14 rfl
theorem pg_207_17 : mm_prog 207 17 = some (0, .if_icmp .ge 65, 20, []) := by decide +kernel
theorem xe_207_17 (a0 a1 a2 a3 : Option MV) (x y : Int) (st : List MV) (μ : MM) (G : MG) : ev 207 17 [a0, a1, a2, a3] (vI y :: vI x :: st) μ G = if y ≤ x then ev 207 82 [a0, a1, a2, a3] st μ G else ev 207 20 [a0, a1, a2, a3] st μ G := ev_br (mm_cnd_ge x y) pg_207_17 rfl
theorem pg_207_20 : mm_prog 207 20 = some (0, .aload_n 0, 21, []) := by decide +kernel
theorem xe_207_20 (a1 a2 a3 : Option MV) (x : Int) (st : List MV) (μ : MM) (G : MG) : ev 207 20 [some (vR x), a1, a2, a3] st μ G = ev 207 21 [some (vR x), a1, a2, a3] (vR x :: st) μ G := ev_stp pg_207_20 rfl
theorem pg_207_21 : mm_prog 207 21 = some (0, .getfield 333, 24, [11, 33, 0]) := by decide +kernel
theorem xe_207_21 (a0 a1 a2 a3 : Option MV) (x : Int) (st : List MV) (μ : MM) (G : MG) : ev 207 21 [a0, a1, a2, a3] (vR x :: st) μ G = if gk G x = 11 then ev 207 24 [a0, a1, a2, a3] (vI (μ x 33) :: st) μ G else none := ev_if pg_207_21 rfl
theorem pg_207_24 : mm_prog 207 24 = some (0, .iconst (-1), 25, []) := by decide +kernel
theorem xe_207_24 (a0 a1 a2 a3 : Option MV) (st : List MV) (μ : MM) (G : MG) : ev 207 24 [a0, a1, a2, a3] st μ G = ev 207 25 [a0, a1, a2, a3] (vI (-1) :: st) μ G := ev_stp pg_207_24 rfl
theorem pg_207_25 : mm_prog 207 25 = some (0, .if_icmp .ne 57, 28, []) := by decide +kernel
theorem xe_207_25 (a0 a1 a2 a3 : Option MV) (x y : Int) (st : List MV) (μ : MM) (G : MG) : ev 207 25 [a0, a1, a2, a3] (vI y :: vI x :: st) μ G = if ¬ x = y then ev 207 82 [a0, a1, a2, a3] st μ G else ev 207 28 [a0, a1, a2, a3] st μ G := ev_br (mm_cnd_ne x y) pg_207_25 rfl
theorem pg_207_28 : mm_prog 207 28 = some (0, .aload_n 0, 29, []) := by decide +kernel
theorem xe_207_28 (a1 a2 a3 : Option MV) (x : Int) (st : List MV) (μ : MM) (G : MG) : ev 207 28 [some (vR x), a1, a2, a3] st μ G = ev 207 29 [some (vR x), a1, a2, a3] (vR x :: st) μ G := ev_stp pg_207_28 rfl
theorem pg_207_29 : mm_prog 207 29 = some (0, .getfield 66, 32, [11, 30, 0]) := by decide +kernel
theorem xe_207_29 (a0 a1 a2 a3 : Option MV) (x : Int) (st : List MV) (μ : MM) (G : MG) : ev 207 29 [a0, a1, a2, a3] (vR x :: st) μ G = if gk G x = 11 then ev 207 32 [a0, a1, a2, a3] (vI (μ x 30) :: st) μ G else none := ev_if pg_207_29 rfl
theorem pg_207_32 : mm_prog 207 32 = some (0, .istore_n 3, 33, []) := by decide +kernel
theorem xe_207_32 (a0 a1 a2 a3 : Option MV) (x : Int) (st : List MV) (μ : MM) (G : MG) (h : mm_nL a2 = true) : ev 207 32 [a0, a1, a2, a3] (vI x :: st) μ G = ev 207 33 [a0, a1, a2, some (vI x)] st μ G := ev_st pg_207_32 rfl (mm_nl_of h) (Nat.le_of_ble_eq_true rfl)
theorem pg_207_33 : mm_prog 207 33 = some (0, .iload_n 3, 34, []) := by decide +kernel
theorem xe_207_33 (a0 a1 a2 : Option MV) (x : Int) (st : List MV) (μ : MM) (G : MG) : ev 207 33 [a0, a1, a2, some (vI x)] st μ G = ev 207 34 [a0, a1, a2, some (vI x)] (vI x :: st) μ G := ev_stp pg_207_33 rfl
theorem pg_207_34 : mm_prog 207 34 = some (0, .bipush 6, 36, []) := by decide +kernel
theorem xe_207_34 (a0 a1 a2 a3 : Option MV) (st : List MV) (μ : MM) (G : MG) : ev 207 34 [a0, a1, a2, a3] st μ G = ev 207 36 [a0, a1, a2, a3] (vI (6) :: st) μ G := ev_stp pg_207_34 rfl
theorem pg_207_36 : mm_prog 207 36 = some (0, .if_icmp .lt 40, 39, []) := by decide +kernel
theorem xe_207_36 (a0 a1 a2 a3 : Option MV) (x y : Int) (st : List MV) (μ : MM) (G : MG) : ev 207 36 [a0, a1, a2, a3] (vI y :: vI x :: st) μ G = if x < y then ev 207 76 [a0, a1, a2, a3] st μ G else ev 207 39 [a0, a1, a2, a3] st μ G := ev_br (mm_cnd_lt x y) pg_207_36 rfl
theorem pg_207_39 : mm_prog 207 39 = some (0, .aload_n 0, 40, []) := by decide +kernel
theorem xe_207_39 (a1 a2 a3 : Option MV) (x : Int) (st : List MV) (μ : MM) (G : MG) : ev 207 39 [some (vR x), a1, a2, a3] st μ G = ev 207 40 [some (vR x), a1, a2, a3] (vR x :: st) μ G := ev_stp pg_207_39 rfl
theorem pg_207_40 : mm_prog 207 40 = some (0, .getfield 333, 43, [11, 33, 0]) := by decide +kernel
theorem xe_207_40 (a0 a1 a2 a3 : Option MV) (x : Int) (st : List MV) (μ : MM) (G : MG) : ev 207 40 [a0, a1, a2, a3] (vR x :: st) μ G = if gk G x = 11 then ev 207 43 [a0, a1, a2, a3] (vI (μ x 33) :: st) μ G else none := ev_if pg_207_40 rfl
theorem pg_207_43 : mm_prog 207 43 = some (0, .iconst (-1), 44, []) := by decide +kernel
theorem xe_207_43 (a0 a1 a2 a3 : Option MV) (st : List MV) (μ : MM) (G : MG) : ev 207 43 [a0, a1, a2, a3] st μ G = ev 207 44 [a0, a1, a2, a3] (vI (-1) :: st) μ G := ev_stp pg_207_43 rfl
theorem pg_207_44 : mm_prog 207 44 = some (0, .if_icmp .ne 32, 47, []) := by decide +kernel
theorem xe_207_44 (a0 a1 a2 a3 : Option MV) (x y : Int) (st : List MV) (μ : MM) (G : MG) : ev 207 44 [a0, a1, a2, a3] (vI y :: vI x :: st) μ G = if ¬ x = y then ev 207 76 [a0, a1, a2, a3] st μ G else ev 207 47 [a0, a1, a2, a3] st μ G := ev_br (mm_cnd_ne x y) pg_207_44 rfl
theorem pg_207_47 : mm_prog 207 47 = some (0, .aload_n 0, 48, []) := by decide +kernel
theorem xe_207_47 (a1 a2 a3 : Option MV) (x : Int) (st : List MV) (μ : MM) (G : MG) : ev 207 47 [some (vR x), a1, a2, a3] st μ G = ev 207 48 [some (vR x), a1, a2, a3] (vR x :: st) μ G := ev_stp pg_207_47 rfl
theorem pg_207_48 : mm_prog 207 48 = some (0, .iload_n 2, 49, []) := by decide +kernel
theorem xe_207_48 (a0 a1 a3 : Option MV) (x : Int) (st : List MV) (μ : MM) (G : MG) : ev 207 48 [a0, a1, some (vI x), a3] st μ G = ev 207 49 [a0, a1, some (vI x), a3] (vI x :: st) μ G := ev_stp pg_207_48 rfl
theorem pg_207_49 : mm_prog 207 49 = some (0, .iload_n 3, 50, []) := by decide +kernel
theorem xe_207_49 (a0 a1 a2 : Option MV) (x : Int) (st : List MV) (μ : MM) (G : MG) : ev 207 49 [a0, a1, a2, some (vI x)] st μ G = ev 207 50 [a0, a1, a2, some (vI x)] (vI x :: st) μ G := ev_stp pg_207_49 rfl
theorem pg_207_50 : mm_prog 207 50 = some (1, .invokevirtual 330, 53, [1, 203, 2, 11]) := by decide +kernel
theorem xe_207_50 (a0 a1 a2 a3 : Option MV) (x0 x1 z : Int) (μ : MM) (G : MG) : ev 207 50 [a0, a1, a2, a3] (vI x1 :: vI x0 :: vR z :: []) μ G = if gk G z = 11 ∧ 0 < z then (ev 203 0 [some (vR z), some (vI x0), some (vI x1)] [] μ G).bind (fun q => ev 207 53 [a0, a1, a2, a3] (q.1.toList ++ []) q.2.1 q.2.2) else none := ev_calV (as := [vR z, vI x0, vI x1]) (r := []) mx_203 pg_207_50 rfl rfl (Nat.le_of_ble_eq_true rfl) (Nat.le_of_ble_eq_true rfl)
theorem pg_207_53 : mm_prog 207 53 = some (0, .iload_n 1, 54, []) := by decide +kernel
theorem xe_207_53 (a0 a2 a3 : Option MV) (x : Int) (st : List MV) (μ : MM) (G : MG) : ev 207 53 [a0, some (vI x), a2, a3] st μ G = ev 207 54 [a0, some (vI x), a2, a3] (vI x :: st) μ G := ev_stp pg_207_53 rfl
theorem pg_207_54 : mm_prog 207 54 = some (0, .if_icmp .le 6, 57, []) := by decide +kernel
theorem xe_207_54 (a0 a1 a2 a3 : Option MV) (x y : Int) (st : List MV) (μ : MM) (G : MG) : ev 207 54 [a0, a1, a2, a3] (vI y :: vI x :: st) μ G = if x ≤ y then ev 207 60 [a0, a1, a2, a3] st μ G else ev 207 57 [a0, a1, a2, a3] st μ G := ev_br (mm_cnd_le x y) pg_207_54 rfl
theorem pg_207_57 : mm_prog 207 57 = some (0, .goto 13, 60, []) := by decide +kernel
theorem xe_207_57 (a0 a1 a2 a3 : Option MV) (st : List MV) (μ : MM) (G : MG) : ev 207 57 [a0, a1, a2, a3] st μ G = ev 207 70 [a0, a1, a2, a3] st μ G := ev_stp pg_207_57 rfl
theorem pg_207_60 : mm_prog 207 60 = some (0, .aload_n 0, 61, []) := by decide +kernel
theorem xe_207_60 (a1 a2 a3 : Option MV) (x : Int) (st : List MV) (μ : MM) (G : MG) : ev 207 60 [some (vR x), a1, a2, a3] st μ G = ev 207 61 [some (vR x), a1, a2, a3] (vR x :: st) μ G := ev_stp pg_207_60 rfl
theorem pg_207_61 : mm_prog 207 61 = some (0, .iload_n 2, 62, []) := by decide +kernel
theorem xe_207_61 (a0 a1 a3 : Option MV) (x : Int) (st : List MV) (μ : MM) (G : MG) : ev 207 61 [a0, a1, some (vI x), a3] st μ G = ev 207 62 [a0, a1, some (vI x), a3] (vI x :: st) μ G := ev_stp pg_207_61 rfl
theorem pg_207_62 : mm_prog 207 62 = some (0, .putfield 333, 65, [11, 33, 0]) := by decide +kernel
theorem xe_207_62 (a0 a1 a2 a3 : Option MV) (x y : Int) (st : List MV) (μ : MM) (G : MG) : ev 207 62 [a0, a1, a2, a3] (vI x :: vR y :: st) μ G = if gk G y = 11 then ev 207 65 [a0, a1, a2, a3] st (mset μ y 33 x) G else none := ev_put0 pg_207_62
theorem pg_207_65 : mm_prog 207 65 = some (0, .aload_n 0, 66, []) := by decide +kernel
theorem xe_207_65 (a1 a2 a3 : Option MV) (x : Int) (st : List MV) (μ : MM) (G : MG) : ev 207 65 [some (vR x), a1, a2, a3] st μ G = ev 207 66 [some (vR x), a1, a2, a3] (vR x :: st) μ G := ev_stp pg_207_65 rfl
theorem pg_207_66 : mm_prog 207 66 = some (0, .iload_n 3, 67, []) := by decide +kernel
theorem xe_207_66 (a0 a1 a2 : Option MV) (x : Int) (st : List MV) (μ : MM) (G : MG) : ev 207 66 [a0, a1, a2, some (vI x)] st μ G = ev 207 67 [a0, a1, a2, some (vI x)] (vI x :: st) μ G := ev_stp pg_207_66 rfl
theorem pg_207_67 : mm_prog 207 67 = some (0, .putfield 336, 70, [11, 34, 0]) := by decide +kernel
theorem xe_207_67 (a0 a1 a2 a3 : Option MV) (x y : Int) (st : List MV) (μ : MM) (G : MG) : ev 207 67 [a0, a1, a2, a3] (vI x :: vR y :: st) μ G = if gk G y = 11 then ev 207 70 [a0, a1, a2, a3] st (mset μ y 34 x) G else none := ev_put0 pg_207_67
theorem pg_207_70 : mm_prog 207 70 = some (0, .iinc 3 (-2), 73, []) := by decide +kernel
theorem xe_207_70 (a0 a1 a2 : Option MV) (x : Int) (st : List MV) (μ : MM) (G : MG) (h : mm_nL a2 = true) : ev 207 70 [a0, a1, a2, some (vI x)] st μ G = ev 207 73 [a0, a1, a2, some (vI (w32 (x + (-2))))] st μ G := ev_st pg_207_70 rfl (mm_nl_of h) (Nat.le_of_ble_eq_true rfl)
theorem pg_207_73 : mm_prog 207 73 = some (0, .goto (-40), 76, []) := by decide +kernel
theorem xe_207_73 (a0 a1 a2 a3 : Option MV) (st : List MV) (μ : MM) (G : MG) : ev 207 73 [a0, a1, a2, a3] st μ G = ev 207 33 [a0, a1, a2, a3] st μ G := ev_stp pg_207_73 rfl
theorem pg_207_76 : mm_prog 207 76 = some (0, .iinc 2 1, 79, []) := by decide +kernel
theorem xe_207_76 (a0 a1 a3 : Option MV) (x : Int) (st : List MV) (μ : MM) (G : MG) (h : mm_nL a1 = true) : ev 207 76 [a0, a1, some (vI x), a3] st μ G = ev 207 79 [a0, a1, some (vI (w32 (x + (1)))), a3] st μ G := ev_st pg_207_76 rfl (mm_nl_of h) (Nat.le_of_ble_eq_true rfl)
theorem pg_207_79 : mm_prog 207 79 = some (0, .goto (-67), 82, []) := by decide +kernel
theorem xe_207_79 (a0 a1 a2 a3 : Option MV) (st : List MV) (μ : MM) (G : MG) : ev 207 79 [a0, a1, a2, a3] st μ G = ev 207 12 [a0, a1, a2, a3] st μ G := ev_stp pg_207_79 rfl
theorem pg_207_82 : mm_prog 207 82 = some (2, .return_, 83, []) := by decide +kernel
theorem xe_207_82 (a0 a1 a2 a3 : Option MV) (μ : MM) (G : MG) : ev 207 82 [a0, a1, a2, a3] [] μ G = some (none, μ, G) := ev_ret pg_207_82 rfl
-- X11_best
theorem pg_208_0 : mm_prog 208 0 = some (0, .aload_n 0, 1, []) := by decide +kernel
theorem xe_208_0 (a1 a2 a3 : Option MV) (x : Int) (st : List MV) (μ : MM) (G : MG) : ev 208 0 [some (vR x), a1, a2, a3] st μ G = ev 208 1 [some (vR x), a1, a2, a3] (vR x :: st) μ G := ev_stp pg_208_0 rfl
theorem pg_208_1 : mm_prog 208 1 = some (0, .iconst 0, 2, []) := by decide +kernel
theorem xe_208_1 (a0 a1 a2 a3 : Option MV) (st : List MV) (μ : MM) (G : MG) : ev 208 1 [a0, a1, a2, a3] st μ G = ev 208 2 [a0, a1, a2, a3] (vI (0) :: st) μ G := ev_stp pg_208_1 rfl
theorem pg_208_2 : mm_prog 208 2 = some (0, .putfield 1, 5, [11, 0, 0]) := by decide +kernel
theorem xe_208_2 (a0 a1 a2 a3 : Option MV) (x y : Int) (st : List MV) (μ : MM) (G : MG) : ev 208 2 [a0, a1, a2, a3] (vI x :: vR y :: st) μ G = if gk G y = 11 then ev 208 5 [a0, a1, a2, a3] st (mset μ y 0 x) G else none := ev_put0 pg_208_2
theorem pg_208_5 : mm_prog 208 5 = some (0, .iload_n 3, 6, []) := by decide +kernel
theorem xe_208_5 (a0 a1 a2 : Option MV) (x : Int) (st : List MV) (μ : MM) (G : MG) : ev 208 5 [a0, a1, a2, some (vI x)] st μ G = ev 208 6 [a0, a1, a2, some (vI x)] (vI x :: st) μ G := ev_stp pg_208_5 rfl
theorem pg_208_6 : mm_prog 208 6 = some (0, .i2l, 7, []) := by decide +kernel
theorem xe_208_6 (a0 a1 a2 a3 : Option MV) (x : Int) (st : List MV) (μ : MM) (G : MG) : ev 208 6 [a0, a1, a2, a3] (vI x :: st) μ G = ev 208 7 [a0, a1, a2, a3] (vL x :: st) μ G := ev_stp pg_208_6 rfl
theorem pg_208_7 : mm_prog 208 7 = some (0, .lconst 0, 8, []) := by decide +kernel
theorem xe_208_7 (a0 a1 a2 a3 : Option MV) (st : List MV) (μ : MM) (G : MG) : ev 208 7 [a0, a1, a2, a3] st μ G = ev 208 8 [a0, a1, a2, a3] (vL 0 :: st) μ G := ev_stp pg_208_7 rfl
theorem pg_208_8 : mm_prog 208 8 = some (0, .lconst 1, 9, []) := by decide +kernel
theorem xe_208_8 (a0 a1 a2 a3 : Option MV) (st : List MV) (μ : MM) (G : MG) : ev 208 8 [a0, a1, a2, a3] st μ G = ev 208 9 [a0, a1, a2, a3] (vL 1 :: st) μ G := ev_stp pg_208_8 rfl
theorem pg_208_9 : mm_prog 208 9 = some (1, .invokestatic 107, 12, [0, 148, 3, 0]) := by decide +kernel
theorem xe_208_9 (a0 a1 a2 a3 : Option MV) (x0 x1 x2 : Int) (μ : MM) (G : MG) : ev 208 9 [a0, a1, a2, a3] (vL x2 :: vL x1 :: vL x0 :: []) μ G = (ev 148 0 [some (vL x0), none, some (vL x1), none, some (vL x2), none] [] μ G).bind (fun q => ev 208 12 [a0, a1, a2, a3] (q.1.toList ++ []) q.2.1 q.2.2) := ev_calS (as := [vL x0, vL x1, vL x2]) (r := []) mx_148 pg_208_9 rfl rfl (Nat.le_of_ble_eq_true rfl) (Nat.le_of_ble_eq_true rfl)
theorem pg_208_12 : mm_prog 208 12 = some (0, .ifCond .ne 6, 15, []) := by decide +kernel
theorem xe_208_12 (a0 a1 a2 a3 : Option MV) (x : Int) (st : List MV) (μ : MM) (G : MG) : ev 208 12 [a0, a1, a2, a3] (vI x :: st) μ G = if ¬ x = 0 then ev 208 18 [a0, a1, a2, a3] st μ G else ev 208 15 [a0, a1, a2, a3] st μ G := ev_br (mm_cnd_ne x 0) pg_208_12 rfl
theorem pg_208_15 : mm_prog 208 15 = some (0, .bipush (-2), 17, []) := by decide +kernel
theorem xe_208_15 (a0 a1 a2 a3 : Option MV) (st : List MV) (μ : MM) (G : MG) : ev 208 15 [a0, a1, a2, a3] st μ G = ev 208 17 [a0, a1, a2, a3] (vI (-2) :: st) μ G := ev_stp pg_208_15 rfl
theorem pg_208_17 : mm_prog 208 17 = some (2, .ireturn, 18, [0]) := by decide +kernel
theorem xe_208_17 (a0 a1 a2 a3 : Option MV) (x : Int) (μ : MM) (G : MG) : ev 208 17 [a0, a1, a2, a3] [vI x] μ G = some (some (vI x), μ, G) := ev_ret pg_208_17 rfl
theorem pg_208_18 : mm_prog 208 18 = some (0, .iload_n 1, 19, []) := by decide +kernel
theorem xe_208_18 (a0 a2 a3 : Option MV) (x : Int) (st : List MV) (μ : MM) (G : MG) : ev 208 18 [a0, some (vI x), a2, a3] st μ G = ev 208 19 [a0, some (vI x), a2, a3] (vI x :: st) μ G := ev_stp pg_208_18 rfl
theorem pg_208_19 : mm_prog 208 19 = some (0, .iload_n 2, 20, []) := by decide +kernel
theorem xe_208_19 (a0 a1 a3 : Option MV) (x : Int) (st : List MV) (μ : MM) (G : MG) : ev 208 19 [a0, a1, some (vI x), a3] st μ G = ev 208 20 [a0, a1, some (vI x), a3] (vI x :: st) μ G := ev_stp pg_208_19 rfl
theorem pg_208_20 : mm_prog 208 20 = some (1, .invokestatic 324, 23, [0, 201, 2, 0]) := by decide +kernel
theorem xe_208_20 (a0 a1 a2 a3 : Option MV) (x0 x1 : Int) (μ : MM) (G : MG) : ev 208 20 [a0, a1, a2, a3] (vI x1 :: vI x0 :: []) μ G = (ev 201 0 [some (vI x0), some (vI x1)] [] μ G).bind (fun q => ev 208 23 [a0, a1, a2, a3] (q.1.toList ++ []) q.2.1 q.2.2) := ev_calS (as := [vI x0, vI x1]) (r := []) mx_201 pg_208_20 rfl rfl (Nat.le_of_ble_eq_true rfl) (Nat.le_of_ble_eq_true rfl)
theorem pg_208_23 : mm_prog 208 23 = some (0, .ifCond .ne 6, 26, []) := by decide +kernel
theorem xe_208_23 (a0 a1 a2 a3 : Option MV) (x : Int) (st : List MV) (μ : MM) (G : MG) : ev 208 23 [a0, a1, a2, a3] (vI x :: st) μ G = if ¬ x = 0 then ev 208 29 [a0, a1, a2, a3] st μ G else ev 208 26 [a0, a1, a2, a3] st μ G := ev_br (mm_cnd_ne x 0) pg_208_23 rfl
theorem pg_208_26 : mm_prog 208 26 = some (0, .bipush (-3), 28, []) := by decide +kernel
theorem xe_208_26 (a0 a1 a2 a3 : Option MV) (st : List MV) (μ : MM) (G : MG) : ev 208 26 [a0, a1, a2, a3] st μ G = ev 208 28 [a0, a1, a2, a3] (vI (-3) :: st) μ G := ev_stp pg_208_26 rfl
theorem pg_208_28 : mm_prog 208 28 = some (2, .ireturn, 29, [0]) := by decide +kernel
theorem xe_208_28 (a0 a1 a2 a3 : Option MV) (x : Int) (μ : MM) (G : MG) : ev 208 28 [a0, a1, a2, a3] [vI x] μ G = some (some (vI x), μ, G) := ev_ret pg_208_28 rfl
theorem pg_208_29 : mm_prog 208 29 = some (0, .aload_n 0, 30, []) := by decide +kernel
theorem xe_208_29 (a1 a2 a3 : Option MV) (x : Int) (st : List MV) (μ : MM) (G : MG) : ev 208 29 [some (vR x), a1, a2, a3] st μ G = ev 208 30 [some (vR x), a1, a2, a3] (vR x :: st) μ G := ev_stp pg_208_29 rfl
theorem pg_208_30 : mm_prog 208 30 = some (0, .iload_n 1, 31, []) := by decide +kernel
theorem xe_208_30 (a0 a2 a3 : Option MV) (x : Int) (st : List MV) (μ : MM) (G : MG) : ev 208 30 [a0, some (vI x), a2, a3] st μ G = ev 208 31 [a0, some (vI x), a2, a3] (vI x :: st) μ G := ev_stp pg_208_30 rfl
theorem pg_208_31 : mm_prog 208 31 = some (0, .iload_n 2, 32, []) := by decide +kernel
theorem xe_208_31 (a0 a1 a3 : Option MV) (x : Int) (st : List MV) (μ : MM) (G : MG) : ev 208 31 [a0, a1, some (vI x), a3] st μ G = ev 208 32 [a0, a1, some (vI x), a3] (vI x :: st) μ G := ev_stp pg_208_31 rfl
theorem pg_208_32 : mm_prog 208 32 = some (1, .invokestatic 327, 35, [0, 202, 2, 0]) := by decide +kernel
theorem xe_208_32 (a0 a1 a2 a3 : Option MV) (x0 x1 r0 : Int) (μ : MM) (G : MG) : ev 208 32 [a0, a1, a2, a3] (vI x1 :: vI x0 :: [vR r0]) μ G = (ev 202 0 [some (vI x0), some (vI x1), none] [] μ G).bind (fun q => ev 208 35 [a0, a1, a2, a3] (q.1.toList ++ [vR r0]) q.2.1 q.2.2) := ev_calS (as := [vI x0, vI x1]) (r := [vR r0]) mx_202 pg_208_32 rfl rfl (Nat.le_of_ble_eq_true rfl) (Nat.le_of_ble_eq_true rfl)
theorem pg_208_35 : mm_prog 208 35 = some (1, .invokevirtual 339, 38, [1, 207, 1, 11]) := by decide +kernel
theorem xe_208_35 (a0 a1 a2 a3 : Option MV) (x0 z : Int) (μ : MM) (G : MG) : ev 208 35 [a0, a1, a2, a3] (vI x0 :: vR z :: []) μ G = if gk G z = 11 ∧ 0 < z then (ev 207 0 [some (vR z), some (vI x0), none, none] [] μ G).bind (fun q => ev 208 38 [a0, a1, a2, a3] (q.1.toList ++ []) q.2.1 q.2.2) else none := ev_calV (as := [vR z, vI x0]) (r := []) mx_207 pg_208_35 rfl rfl (Nat.le_of_ble_eq_true rfl) (Nat.le_of_ble_eq_true rfl)
theorem pg_208_38 : mm_prog 208 38 = some (0, .iload_n 3, 39, []) := by decide +kernel
theorem xe_208_38 (a0 a1 a2 : Option MV) (x : Int) (st : List MV) (μ : MM) (G : MG) : ev 208 38 [a0, a1, a2, some (vI x)] st μ G = ev 208 39 [a0, a1, a2, some (vI x)] (vI x :: st) μ G := ev_stp pg_208_38 rfl
theorem pg_208_39 : mm_prog 208 39 = some (0, .ifCond .ne 10, 42, []) := by decide +kernel
theorem xe_208_39 (a0 a1 a2 a3 : Option MV) (x : Int) (st : List MV) (μ : MM) (G : MG) : ev 208 39 [a0, a1, a2, a3] (vI x :: st) μ G = if ¬ x = 0 then ev 208 49 [a0, a1, a2, a3] st μ G else ev 208 42 [a0, a1, a2, a3] st μ G := ev_br (mm_cnd_ne x 0) pg_208_39 rfl
theorem pg_208_42 : mm_prog 208 42 = some (0, .aload_n 0, 43, []) := by decide +kernel
theorem xe_208_42 (a1 a2 a3 : Option MV) (x : Int) (st : List MV) (μ : MM) (G : MG) : ev 208 42 [some (vR x), a1, a2, a3] st μ G = ev 208 43 [some (vR x), a1, a2, a3] (vR x :: st) μ G := ev_stp pg_208_42 rfl
theorem pg_208_43 : mm_prog 208 43 = some (0, .getfield 333, 46, [11, 33, 0]) := by decide +kernel
theorem xe_208_43 (a0 a1 a2 a3 : Option MV) (x : Int) (st : List MV) (μ : MM) (G : MG) : ev 208 43 [a0, a1, a2, a3] (vR x :: st) μ G = if gk G x = 11 then ev 208 46 [a0, a1, a2, a3] (vI (μ x 33) :: st) μ G else none := ev_if pg_208_43 rfl
theorem pg_208_46 : mm_prog 208 46 = some (0, .goto 7, 49, []) := by decide +kernel
theorem xe_208_46 (a0 a1 a2 a3 : Option MV) (st : List MV) (μ : MM) (G : MG) : ev 208 46 [a0, a1, a2, a3] st μ G = ev 208 53 [a0, a1, a2, a3] st μ G := ev_stp pg_208_46 rfl
theorem pg_208_49 : mm_prog 208 49 = some (0, .aload_n 0, 50, []) := by decide +kernel
theorem xe_208_49 (a1 a2 a3 : Option MV) (x : Int) (st : List MV) (μ : MM) (G : MG) : ev 208 49 [some (vR x), a1, a2, a3] st μ G = ev 208 50 [some (vR x), a1, a2, a3] (vR x :: st) μ G := ev_stp pg_208_49 rfl
theorem pg_208_50 : mm_prog 208 50 = some (0, .getfield 336, 53, [11, 34, 0]) := by decide +kernel
theorem xe_208_50 (a0 a1 a2 a3 : Option MV) (x : Int) (st : List MV) (μ : MM) (G : MG) : ev 208 50 [a0, a1, a2, a3] (vR x :: st) μ G = if gk G x = 11 then ev 208 53 [a0, a1, a2, a3] (vI (μ x 34) :: st) μ G else none := ev_if pg_208_50 rfl
theorem pg_208_53 : mm_prog 208 53 = some (2, .ireturn, 54, [0]) := by decide +kernel
theorem xe_208_53 (a0 a1 a2 a3 : Option MV) (x : Int) (μ : MM) (G : MG) : ev 208 53 [a0, a1, a2, a3] [vI x] μ G = some (some (vI x), μ, G) := ev_ret pg_208_53 rfl
-- X11_cheapest
theorem pg_209_0 : mm_prog 209 0 = some (0, .aload_n 0, 1, []) := by decide +kernel
theorem xe_209_0 (a1 a2 a3 a4 a5 a6 a7 : Option MV) (x : Int) (st : List MV) (μ : MM) (G : MG) : ev 209 0 [some (vR x), a1, a2, a3, a4, a5, a6, a7] st μ G = ev 209 1 [some (vR x), a1, a2, a3, a4, a5, a6, a7] (vR x :: st) μ G := ev_stp pg_209_0 rfl
theorem pg_209_1 : mm_prog 209 1 = some (0, .iconst 0, 2, []) := by decide +kernel
theorem xe_209_1 (a0 a1 a2 a3 a4 a5 a6 a7 : Option MV) (st : List MV) (μ : MM) (G : MG) : ev 209 1 [a0, a1, a2, a3, a4, a5, a6, a7] st μ G = ev 209 2 [a0, a1, a2, a3, a4, a5, a6, a7] (vI (0) :: st) μ G := ev_stp pg_209_1 rfl
theorem pg_209_2 : mm_prog 209 2 = some (0, .putfield 1, 5, [11, 0, 0]) := by decide +kernel
theorem xe_209_2 (a0 a1 a2 a3 a4 a5 a6 a7 : Option MV) (x y : Int) (st : List MV) (μ : MM) (G : MG) : ev 209 2 [a0, a1, a2, a3, a4, a5, a6, a7] (vI x :: vR y :: st) μ G = if gk G y = 11 then ev 209 5 [a0, a1, a2, a3, a4, a5, a6, a7] st (mset μ y 0 x) G else none := ev_put0 pg_209_2
theorem pg_209_5 : mm_prog 209 5 = some (0, .aload_n 0, 6, []) := by decide +kernel
theorem xe_209_5 (a1 a2 a3 a4 a5 a6 a7 : Option MV) (x : Int) (st : List MV) (μ : MM) (G : MG) : ev 209 5 [some (vR x), a1, a2, a3, a4, a5, a6, a7] st μ G = ev 209 6 [some (vR x), a1, a2, a3, a4, a5, a6, a7] (vR x :: st) μ G := ev_stp pg_209_5 rfl
theorem pg_209_6 : mm_prog 209 6 = some (0, .iload_n 1, 7, []) := by decide +kernel
theorem xe_209_6 (a0 a2 a3 a4 a5 a6 a7 : Option MV) (x : Int) (st : List MV) (μ : MM) (G : MG) : ev 209 6 [a0, some (vI x), a2, a3, a4, a5, a6, a7] st μ G = ev 209 7 [a0, some (vI x), a2, a3, a4, a5, a6, a7] (vI x :: st) μ G := ev_stp pg_209_6 rfl
theorem pg_209_7 : mm_prog 209 7 = some (1, .invokevirtual 239, 10, [1, 181, 1, 11]) := by decide +kernel
theorem xe_209_7 (a0 a1 a2 a3 a4 a5 a6 a7 : Option MV) (x0 z : Int) (μ : MM) (G : MG) : ev 209 7 [a0, a1, a2, a3, a4, a5, a6, a7] (vI x0 :: vR z :: []) μ G = if gk G z = 11 ∧ 0 < z then (ev 181 0 [some (vR z), some (vI x0)] [] μ G).bind (fun q => ev 209 10 [a0, a1, a2, a3, a4, a5, a6, a7] (q.1.toList ++ []) q.2.1 q.2.2) else none := ev_calV (as := [vR z, vI x0]) (r := []) mx_181 pg_209_7 rfl rfl (Nat.le_of_ble_eq_true rfl) (Nat.le_of_ble_eq_true rfl)
theorem pg_209_10 : mm_prog 209 10 = some (0, .ifCond .ne 6, 13, []) := by decide +kernel
theorem xe_209_10 (a0 a1 a2 a3 a4 a5 a6 a7 : Option MV) (x : Int) (st : List MV) (μ : MM) (G : MG) : ev 209 10 [a0, a1, a2, a3, a4, a5, a6, a7] (vI x :: st) μ G = if ¬ x = 0 then ev 209 16 [a0, a1, a2, a3, a4, a5, a6, a7] st μ G else ev 209 13 [a0, a1, a2, a3, a4, a5, a6, a7] st μ G := ev_br (mm_cnd_ne x 0) pg_209_10 rfl
theorem pg_209_13 : mm_prog 209 13 = some (0, .bipush (-2), 15, []) := by decide +kernel
theorem xe_209_13 (a0 a1 a2 a3 a4 a5 a6 a7 : Option MV) (st : List MV) (μ : MM) (G : MG) : ev 209 13 [a0, a1, a2, a3, a4, a5, a6, a7] st μ G = ev 209 15 [a0, a1, a2, a3, a4, a5, a6, a7] (vI (-2) :: st) μ G := ev_stp pg_209_13 rfl
theorem pg_209_15 : mm_prog 209 15 = some (2, .ireturn, 16, [0]) := by decide +kernel
theorem xe_209_15 (a0 a1 a2 a3 a4 a5 a6 a7 : Option MV) (x : Int) (μ : MM) (G : MG) : ev 209 15 [a0, a1, a2, a3, a4, a5, a6, a7] [vI x] μ G = some (some (vI x), μ, G) := ev_ret pg_209_15 rfl
theorem pg_209_16 : mm_prog 209 16 = some (0, .iload_n 2, 17, []) := by decide +kernel
theorem xe_209_16 (a0 a1 a3 a4 a5 a6 a7 : Option MV) (x : Int) (st : List MV) (μ : MM) (G : MG) : ev 209 16 [a0, a1, some (vI x), a3, a4, a5, a6, a7] st μ G = ev 209 17 [a0, a1, some (vI x), a3, a4, a5, a6, a7] (vI x :: st) μ G := ev_stp pg_209_16 rfl
theorem pg_209_17 : mm_prog 209 17 = some (1, .invokestatic 321, 20, [0, 200, 1, 0]) := by decide +kernel
theorem xe_209_17 (a0 a1 a2 a3 a4 a5 a6 a7 : Option MV) (x0 : Int) (μ : MM) (G : MG) : ev 209 17 [a0, a1, a2, a3, a4, a5, a6, a7] (vI x0 :: []) μ G = (ev 200 0 [some (vI x0)] [] μ G).bind (fun q => ev 209 20 [a0, a1, a2, a3, a4, a5, a6, a7] (q.1.toList ++ []) q.2.1 q.2.2) := ev_calS (as := [vI x0]) (r := []) mx_200 pg_209_17 rfl rfl (Nat.le_of_ble_eq_true rfl) (Nat.le_of_ble_eq_true rfl)
theorem pg_209_20 : mm_prog 209 20 = some (0, .ifCond .ne 6, 23, []) := by decide +kernel
theorem xe_209_20 (a0 a1 a2 a3 a4 a5 a6 a7 : Option MV) (x : Int) (st : List MV) (μ : MM) (G : MG) : ev 209 20 [a0, a1, a2, a3, a4, a5, a6, a7] (vI x :: st) μ G = if ¬ x = 0 then ev 209 26 [a0, a1, a2, a3, a4, a5, a6, a7] st μ G else ev 209 23 [a0, a1, a2, a3, a4, a5, a6, a7] st μ G := ev_br (mm_cnd_ne x 0) pg_209_20 rfl
theorem pg_209_23 : mm_prog 209 23 = some (0, .bipush (-3), 25, []) := by decide +kernel
theorem xe_209_23 (a0 a1 a2 a3 a4 a5 a6 a7 : Option MV) (st : List MV) (μ : MM) (G : MG) : ev 209 23 [a0, a1, a2, a3, a4, a5, a6, a7] st μ G = ev 209 25 [a0, a1, a2, a3, a4, a5, a6, a7] (vI (-3) :: st) μ G := ev_stp pg_209_23 rfl
theorem pg_209_25 : mm_prog 209 25 = some (2, .ireturn, 26, [0]) := by decide +kernel
theorem xe_209_25 (a0 a1 a2 a3 a4 a5 a6 a7 : Option MV) (x : Int) (μ : MM) (G : MG) : ev 209 25 [a0, a1, a2, a3, a4, a5, a6, a7] [vI x] μ G = some (some (vI x), μ, G) := ev_ret pg_209_25 rfl
theorem pg_209_26 : mm_prog 209 26 = some (0, .iconst (-1), 27, []) := by decide +kernel
theorem xe_209_26 (a0 a1 a2 a3 a4 a5 a6 a7 : Option MV) (st : List MV) (μ : MM) (G : MG) : ev 209 26 [a0, a1, a2, a3, a4, a5, a6, a7] st μ G = ev 209 27 [a0, a1, a2, a3, a4, a5, a6, a7] (vI (-1) :: st) μ G := ev_stp pg_209_26 rfl
theorem pg_209_27 : mm_prog 209 27 = some (0, .istore_n 3, 28, []) := by decide +kernel
theorem xe_209_27 (a0 a1 a2 a3 a4 a5 a6 a7 : Option MV) (x : Int) (st : List MV) (μ : MM) (G : MG) (h : mm_nL a2 = true) : ev 209 27 [a0, a1, a2, a3, a4, a5, a6, a7] (vI x :: st) μ G = ev 209 28 [a0, a1, a2, some (vI x), a4, a5, a6, a7] st μ G := ev_st pg_209_27 rfl (mm_nl_of h) (Nat.le_of_ble_eq_true rfl)
theorem pg_209_28 : mm_prog 209 28 = some (0, .iconst 0, 29, []) := by decide +kernel
theorem xe_209_28 (a0 a1 a2 a3 a4 a5 a6 a7 : Option MV) (st : List MV) (μ : MM) (G : MG) : ev 209 28 [a0, a1, a2, a3, a4, a5, a6, a7] st μ G = ev 209 29 [a0, a1, a2, a3, a4, a5, a6, a7] (vI (0) :: st) μ G := ev_stp pg_209_28 rfl
theorem pg_209_29 : mm_prog 209 29 = some (0, .istore 4, 31, []) := by decide +kernel
theorem xe_209_29 (a0 a1 a2 a3 a4 a5 a6 a7 : Option MV) (x : Int) (st : List MV) (μ : MM) (G : MG) (h : mm_nL a3 = true) : ev 209 29 [a0, a1, a2, a3, a4, a5, a6, a7] (vI x :: st) μ G = ev 209 31 [a0, a1, a2, a3, some (vI x), a5, a6, a7] st μ G := ev_st pg_209_29 rfl (mm_nl_of h) (Nat.le_of_ble_eq_true rfl)
theorem pg_209_31 : mm_prog 209 31 = some (0, .iconst 1, 32, []) := by decide +kernel
theorem xe_209_31 (a0 a1 a2 a3 a4 a5 a6 a7 : Option MV) (st : List MV) (μ : MM) (G : MG) : ev 209 31 [a0, a1, a2, a3, a4, a5, a6, a7] st μ G = ev 209 32 [a0, a1, a2, a3, a4, a5, a6, a7] (vI (1) :: st) μ G := ev_stp pg_209_31 rfl
theorem pg_209_32 : mm_prog 209 32 = some (0, .istore 5, 34, []) := by decide +kernel
theorem xe_209_32 (a0 a1 a2 a3 a4 a5 a6 a7 : Option MV) (x : Int) (st : List MV) (μ : MM) (G : MG) (h : mm_nL a4 = true) : ev 209 32 [a0, a1, a2, a3, a4, a5, a6, a7] (vI x :: st) μ G = ev 209 34 [a0, a1, a2, a3, a4, some (vI x), a6, a7] st μ G := ev_st pg_209_32 rfl (mm_nl_of h) (Nat.le_of_ble_eq_true rfl)
theorem pg_209_34 : mm_prog 209 34 = some (0, .iload 5, 36, []) := by decide +kernel
theorem xe_209_34 (a0 a1 a2 a3 a4 a6 a7 : Option MV) (x : Int) (st : List MV) (μ : MM) (G : MG) : ev 209 34 [a0, a1, a2, a3, a4, some (vI x), a6, a7] st μ G = ev 209 36 [a0, a1, a2, a3, a4, some (vI x), a6, a7] (vI x :: st) μ G := ev_stp pg_209_34 rfl
theorem pg_209_36 : mm_prog 209 36 = some (0, .iconst 4, 37, []) := by decide +kernel
theorem xe_209_36 (a0 a1 a2 a3 a4 a5 a6 a7 : Option MV) (st : List MV) (μ : MM) (G : MG) : ev 209 36 [a0, a1, a2, a3, a4, a5, a6, a7] st μ G = ev 209 37 [a0, a1, a2, a3, a4, a5, a6, a7] (vI (4) :: st) μ G := ev_stp pg_209_36 rfl
theorem pg_209_37 : mm_prog 209 37 = some (0, .if_icmp .gt 75, 40, []) := by decide +kernel
theorem xe_209_37 (a0 a1 a2 a3 a4 a5 a6 a7 : Option MV) (x y : Int) (st : List MV) (μ : MM) (G : MG) : ev 209 37 [a0, a1, a2, a3, a4, a5, a6, a7] (vI y :: vI x :: st) μ G = if y < x then ev 209 112 [a0, a1, a2, a3, a4, a5, a6, a7] st μ G else ev 209 40 [a0, a1, a2, a3, a4, a5, a6, a7] st μ G := ev_br (mm_cnd_gt x y) pg_209_37 rfl
theorem pg_209_40 : mm_prog 209 40 = some (0, .iconst 0, 41, []) := by decide +kernel
theorem xe_209_40 (a0 a1 a2 a3 a4 a5 a6 a7 : Option MV) (st : List MV) (μ : MM) (G : MG) : ev 209 40 [a0, a1, a2, a3, a4, a5, a6, a7] st μ G = ev 209 41 [a0, a1, a2, a3, a4, a5, a6, a7] (vI (0) :: st) μ G := ev_stp pg_209_40 rfl
theorem pg_209_41 : mm_prog 209 41 = some (0, .istore 6, 43, []) := by decide +kernel
theorem xe_209_41 (a0 a1 a2 a3 a4 a5 a6 a7 : Option MV) (x : Int) (st : List MV) (μ : MM) (G : MG) (h : mm_nL a5 = true) : ev 209 41 [a0, a1, a2, a3, a4, a5, a6, a7] (vI x :: st) μ G = ev 209 43 [a0, a1, a2, a3, a4, a5, some (vI x), a7] st μ G := ev_st pg_209_41 rfl (mm_nl_of h) (Nat.le_of_ble_eq_true rfl)
theorem pg_209_43 : mm_prog 209 43 = some (0, .iload 6, 45, []) := by decide +kernel
theorem xe_209_43 (a0 a1 a2 a3 a4 a5 a7 : Option MV) (x : Int) (st : List MV) (μ : MM) (G : MG) : ev 209 43 [a0, a1, a2, a3, a4, a5, some (vI x), a7] st μ G = ev 209 45 [a0, a1, a2, a3, a4, a5, some (vI x), a7] (vI x :: st) μ G := ev_stp pg_209_43 rfl
theorem pg_209_45 : mm_prog 209 45 = some (0, .iconst 4, 46, []) := by decide +kernel
theorem xe_209_45 (a0 a1 a2 a3 a4 a5 a6 a7 : Option MV) (st : List MV) (μ : MM) (G : MG) : ev 209 45 [a0, a1, a2, a3, a4, a5, a6, a7] st μ G = ev 209 46 [a0, a1, a2, a3, a4, a5, a6, a7] (vI (4) :: st) μ G := ev_stp pg_209_45 rfl
theorem pg_209_46 : mm_prog 209 46 = some (0, .if_icmp .ge 57, 49, []) := by decide +kernel
theorem xe_209_46 (a0 a1 a2 a3 a4 a5 a6 a7 : Option MV) (x y : Int) (st : List MV) (μ : MM) (G : MG) : ev 209 46 [a0, a1, a2, a3, a4, a5, a6, a7] (vI y :: vI x :: st) μ G = if y ≤ x then ev 209 103 [a0, a1, a2, a3, a4, a5, a6, a7] st μ G else ev 209 49 [a0, a1, a2, a3, a4, a5, a6, a7] st μ G := ev_br (mm_cnd_ge x y) pg_209_46 rfl
theorem pg_209_49 : mm_prog 209 49 = some (0, .iload 5, 51, []) := by decide +kernel
theorem xe_209_49 (a0 a1 a2 a3 a4 a6 a7 : Option MV) (x : Int) (st : List MV) (μ : MM) (G : MG) : ev 209 49 [a0, a1, a2, a3, a4, some (vI x), a6, a7] st μ G = ev 209 51 [a0, a1, a2, a3, a4, some (vI x), a6, a7] (vI x :: st) μ G := ev_stp pg_209_49 rfl
theorem pg_209_51 : mm_prog 209 51 = some (0, .iload 6, 53, []) := by decide +kernel
theorem xe_209_51 (a0 a1 a2 a3 a4 a5 a7 : Option MV) (x : Int) (st : List MV) (μ : MM) (G : MG) : ev 209 51 [a0, a1, a2, a3, a4, a5, some (vI x), a7] st μ G = ev 209 53 [a0, a1, a2, a3, a4, a5, some (vI x), a7] (vI x :: st) μ G := ev_stp pg_209_51 rfl
theorem pg_209_53 : mm_prog 209 53 = some (1, .invokestatic 327, 56, [0, 202, 2, 0]) := by decide +kernel
theorem xe_209_53 (a0 a1 a2 a3 a4 a5 a6 a7 : Option MV) (x0 x1 : Int) (μ : MM) (G : MG) : ev 209 53 [a0, a1, a2, a3, a4, a5, a6, a7] (vI x1 :: vI x0 :: []) μ G = (ev 202 0 [some (vI x0), some (vI x1), none] [] μ G).bind (fun q => ev 209 56 [a0, a1, a2, a3, a4, a5, a6, a7] (q.1.toList ++ []) q.2.1 q.2.2) := ev_calS (as := [vI x0, vI x1]) (r := []) mx_202 pg_209_53 rfl rfl (Nat.le_of_ble_eq_true rfl) (Nat.le_of_ble_eq_true rfl)
theorem pg_209_56 : mm_prog 209 56 = some (0, .istore 7, 58, []) := by decide +kernel
theorem xe_209_56 (a0 a1 a2 a3 a4 a5 a6 a7 : Option MV) (x : Int) (st : List MV) (μ : MM) (G : MG) (h : mm_nL a6 = true) : ev 209 56 [a0, a1, a2, a3, a4, a5, a6, a7] (vI x :: st) μ G = ev 209 58 [a0, a1, a2, a3, a4, a5, a6, some (vI x)] st μ G := ev_st pg_209_56 rfl (mm_nl_of h) (Nat.le_of_ble_eq_true rfl)
theorem pg_209_58 : mm_prog 209 58 = some (0, .iload 7, 60, []) := by decide +kernel
theorem xe_209_58 (a0 a1 a2 a3 a4 a5 a6 : Option MV) (x : Int) (st : List MV) (μ : MM) (G : MG) : ev 209 58 [a0, a1, a2, a3, a4, a5, a6, some (vI x)] st μ G = ev 209 60 [a0, a1, a2, a3, a4, a5, a6, some (vI x)] (vI x :: st) μ G := ev_stp pg_209_58 rfl
theorem pg_209_60 : mm_prog 209 60 = some (0, .aload_n 0, 61, []) := by decide +kernel
theorem xe_209_60 (a1 a2 a3 a4 a5 a6 a7 : Option MV) (x : Int) (st : List MV) (μ : MM) (G : MG) : ev 209 60 [some (vR x), a1, a2, a3, a4, a5, a6, a7] st μ G = ev 209 61 [some (vR x), a1, a2, a3, a4, a5, a6, a7] (vR x :: st) μ G := ev_stp pg_209_60 rfl
theorem pg_209_61 : mm_prog 209 61 = some (0, .iload_n 1, 62, []) := by decide +kernel
theorem xe_209_61 (a0 a2 a3 a4 a5 a6 a7 : Option MV) (x : Int) (st : List MV) (μ : MM) (G : MG) : ev 209 61 [a0, some (vI x), a2, a3, a4, a5, a6, a7] st μ G = ev 209 62 [a0, some (vI x), a2, a3, a4, a5, a6, a7] (vI x :: st) μ G := ev_stp pg_209_61 rfl
theorem pg_209_62 : mm_prog 209 62 = some (0, .iload_n 2, 63, []) := by decide +kernel
theorem xe_209_62 (a0 a1 a3 a4 a5 a6 a7 : Option MV) (x : Int) (st : List MV) (μ : MM) (G : MG) : ev 209 62 [a0, a1, some (vI x), a3, a4, a5, a6, a7] st μ G = ev 209 63 [a0, a1, some (vI x), a3, a4, a5, a6, a7] (vI x :: st) μ G := ev_stp pg_209_62 rfl
theorem pg_209_63 : mm_prog 209 63 = some (1, .invokevirtual 330, 66, [1, 203, 2, 11]) := by decide +kernel
theorem xe_209_63 (a0 a1 a2 a3 a4 a5 a6 a7 : Option MV) (x0 x1 z r0 : Int) (μ : MM) (G : MG) : ev 209 63 [a0, a1, a2, a3, a4, a5, a6, a7] (vI x1 :: vI x0 :: vR z :: [vI r0]) μ G = if gk G z = 11 ∧ 0 < z then (ev 203 0 [some (vR z), some (vI x0), some (vI x1)] [] μ G).bind (fun q => ev 209 66 [a0, a1, a2, a3, a4, a5, a6, a7] (q.1.toList ++ [vI r0]) q.2.1 q.2.2) else none := ev_calV (as := [vR z, vI x0, vI x1]) (r := [vI r0]) mx_203 pg_209_63 rfl rfl (Nat.le_of_ble_eq_true rfl) (Nat.le_of_ble_eq_true rfl)
theorem pg_209_66 : mm_prog 209 66 = some (0, .if_icmp .lt 31, 69, []) := by decide +kernel
theorem xe_209_66 (a0 a1 a2 a3 a4 a5 a6 a7 : Option MV) (x y : Int) (st : List MV) (μ : MM) (G : MG) : ev 209 66 [a0, a1, a2, a3, a4, a5, a6, a7] (vI y :: vI x :: st) μ G = if x < y then ev 209 97 [a0, a1, a2, a3, a4, a5, a6, a7] st μ G else ev 209 69 [a0, a1, a2, a3, a4, a5, a6, a7] st μ G := ev_br (mm_cnd_lt x y) pg_209_66 rfl
theorem pg_209_69 : mm_prog 209 69 = some (0, .iload_n 3, 70, []) := by decide +kernel
theorem xe_209_69 (a0 a1 a2 a4 a5 a6 a7 : Option MV) (x : Int) (st : List MV) (μ : MM) (G : MG) : ev 209 69 [a0, a1, a2, some (vI x), a4, a5, a6, a7] st μ G = ev 209 70 [a0, a1, a2, some (vI x), a4, a5, a6, a7] (vI x :: st) μ G := ev_stp pg_209_69 rfl
theorem pg_209_70 : mm_prog 209 70 = some (0, .iconst (-1), 71, []) := by decide +kernel
theorem xe_209_70 (a0 a1 a2 a3 a4 a5 a6 a7 : Option MV) (st : List MV) (μ : MM) (G : MG) : ev 209 70 [a0, a1, a2, a3, a4, a5, a6, a7] st μ G = ev 209 71 [a0, a1, a2, a3, a4, a5, a6, a7] (vI (-1) :: st) μ G := ev_stp pg_209_70 rfl
theorem pg_209_71 : mm_prog 209 71 = some (0, .if_icmp .eq 13, 74, []) := by decide +kernel
theorem xe_209_71 (a0 a1 a2 a3 a4 a5 a6 a7 : Option MV) (x y : Int) (st : List MV) (μ : MM) (G : MG) : ev 209 71 [a0, a1, a2, a3, a4, a5, a6, a7] (vI y :: vI x :: st) μ G = if x = y then ev 209 84 [a0, a1, a2, a3, a4, a5, a6, a7] st μ G else ev 209 74 [a0, a1, a2, a3, a4, a5, a6, a7] st μ G := ev_br (mm_cnd_eq x y) pg_209_71 rfl
theorem pg_209_74 : mm_prog 209 74 = some (0, .iload 7, 76, []) := by decide +kernel
theorem xe_209_74 (a0 a1 a2 a3 a4 a5 a6 : Option MV) (x : Int) (st : List MV) (μ : MM) (G : MG) : ev 209 74 [a0, a1, a2, a3, a4, a5, a6, some (vI x)] st μ G = ev 209 76 [a0, a1, a2, a3, a4, a5, a6, some (vI x)] (vI x :: st) μ G := ev_stp pg_209_74 rfl
theorem pg_209_76 : mm_prog 209 76 = some (0, .iload 4, 78, []) := by decide +kernel
theorem xe_209_76 (a0 a1 a2 a3 a5 a6 a7 : Option MV) (x : Int) (st : List MV) (μ : MM) (G : MG) : ev 209 76 [a0, a1, a2, a3, some (vI x), a5, a6, a7] st μ G = ev 209 78 [a0, a1, a2, a3, some (vI x), a5, a6, a7] (vI x :: st) μ G := ev_stp pg_209_76 rfl
theorem pg_209_78 : mm_prog 209 78 = some (0, .if_icmp .lt 6, 81, []) := by decide +kernel
theorem xe_209_78 (a0 a1 a2 a3 a4 a5 a6 a7 : Option MV) (x y : Int) (st : List MV) (μ : MM) (G : MG) : ev 209 78 [a0, a1, a2, a3, a4, a5, a6, a7] (vI y :: vI x :: st) μ G = if x < y then ev 209 84 [a0, a1, a2, a3, a4, a5, a6, a7] st μ G else ev 209 81 [a0, a1, a2, a3, a4, a5, a6, a7] st μ G := ev_br (mm_cnd_lt x y) pg_209_78 rfl
theorem pg_209_81 : mm_prog 209 81 = some (0, .goto 16, 84, []) := by decide +kernel
theorem xe_209_81 (a0 a1 a2 a3 a4 a5 a6 a7 : Option MV) (st : List MV) (μ : MM) (G : MG) : ev 209 81 [a0, a1, a2, a3, a4, a5, a6, a7] st μ G = ev 209 97 [a0, a1, a2, a3, a4, a5, a6, a7] st μ G := ev_stp pg_209_81 rfl
theorem pg_209_84 : mm_prog 209 84 = some (0, .bipush 10, 86, []) := by decide +kernel
theorem xe_209_84 (a0 a1 a2 a3 a4 a5 a6 a7 : Option MV) (st : List MV) (μ : MM) (G : MG) : ev 209 84 [a0, a1, a2, a3, a4, a5, a6, a7] st μ G = ev 209 86 [a0, a1, a2, a3, a4, a5, a6, a7] (vI (10) :: st) μ G := ev_stp pg_209_84 rfl
theorem pg_209_86 : mm_prog 209 86 = some (0, .iload 5, 88, []) := by decide +kernel
theorem xe_209_86 (a0 a1 a2 a3 a4 a6 a7 : Option MV) (x : Int) (st : List MV) (μ : MM) (G : MG) : ev 209 86 [a0, a1, a2, a3, a4, some (vI x), a6, a7] st μ G = ev 209 88 [a0, a1, a2, a3, a4, some (vI x), a6, a7] (vI x :: st) μ G := ev_stp pg_209_86 rfl
theorem pg_209_88 : mm_prog 209 88 = some (0, .imul, 89, []) := by decide +kernel
theorem xe_209_88 (a0 a1 a2 a3 a4 a5 a6 a7 : Option MV) (x y : Int) (st : List MV) (μ : MM) (G : MG) : ev 209 88 [a0, a1, a2, a3, a4, a5, a6, a7] (vI y :: vI x :: st) μ G = ev 209 89 [a0, a1, a2, a3, a4, a5, a6, a7] (vI (w32 (x * y)) :: st) μ G := ev_stp pg_209_88 rfl
theorem pg_209_89 : mm_prog 209 89 = some (0, .iload 6, 91, []) := by decide +kernel
theorem xe_209_89 (a0 a1 a2 a3 a4 a5 a7 : Option MV) (x : Int) (st : List MV) (μ : MM) (G : MG) : ev 209 89 [a0, a1, a2, a3, a4, a5, some (vI x), a7] st μ G = ev 209 91 [a0, a1, a2, a3, a4, a5, some (vI x), a7] (vI x :: st) μ G := ev_stp pg_209_89 rfl
theorem pg_209_91 : mm_prog 209 91 = some (0, .iadd, 92, []) := by decide +kernel
theorem xe_209_91 (a0 a1 a2 a3 a4 a5 a6 a7 : Option MV) (x y : Int) (st : List MV) (μ : MM) (G : MG) : ev 209 91 [a0, a1, a2, a3, a4, a5, a6, a7] (vI y :: vI x :: st) μ G = ev 209 92 [a0, a1, a2, a3, a4, a5, a6, a7] (vI (w32 (x + y)) :: st) μ G := ev_stp pg_209_91 rfl
theorem pg_209_92 : mm_prog 209 92 = some (0, .istore_n 3, 93, []) := by decide +kernel
theorem xe_209_92 (a0 a1 a2 a3 a4 a5 a6 a7 : Option MV) (x : Int) (st : List MV) (μ : MM) (G : MG) (h : mm_nL a2 = true) : ev 209 92 [a0, a1, a2, a3, a4, a5, a6, a7] (vI x :: st) μ G = ev 209 93 [a0, a1, a2, some (vI x), a4, a5, a6, a7] st μ G := ev_st pg_209_92 rfl (mm_nl_of h) (Nat.le_of_ble_eq_true rfl)
theorem pg_209_93 : mm_prog 209 93 = some (0, .iload 7, 95, []) := by decide +kernel
theorem xe_209_93 (a0 a1 a2 a3 a4 a5 a6 : Option MV) (x : Int) (st : List MV) (μ : MM) (G : MG) : ev 209 93 [a0, a1, a2, a3, a4, a5, a6, some (vI x)] st μ G = ev 209 95 [a0, a1, a2, a3, a4, a5, a6, some (vI x)] (vI x :: st) μ G := ev_stp pg_209_93 rfl
theorem pg_209_95 : mm_prog 209 95 = some (0, .istore 4, 97, []) := by decide +kernel
theorem xe_209_95 (a0 a1 a2 a3 a4 a5 a6 a7 : Option MV) (x : Int) (st : List MV) (μ : MM) (G : MG) (h : mm_nL a3 = true) : ev 209 95 [a0, a1, a2, a3, a4, a5, a6, a7] (vI x :: st) μ G = ev 209 97 [a0, a1, a2, a3, some (vI x), a5, a6, a7] st μ G := ev_st pg_209_95 rfl (mm_nl_of h) (Nat.le_of_ble_eq_true rfl)
theorem pg_209_97 : mm_prog 209 97 = some (0, .iinc 6 1, 100, []) := by decide +kernel
theorem xe_209_97 (a0 a1 a2 a3 a4 a5 a7 : Option MV) (x : Int) (st : List MV) (μ : MM) (G : MG) (h : mm_nL a5 = true) : ev 209 97 [a0, a1, a2, a3, a4, a5, some (vI x), a7] st μ G = ev 209 100 [a0, a1, a2, a3, a4, a5, some (vI (w32 (x + (1)))), a7] st μ G := ev_st pg_209_97 rfl (mm_nl_of h) (Nat.le_of_ble_eq_true rfl)
theorem pg_209_100 : mm_prog 209 100 = some (0, .goto (-57), 103, []) := by decide +kernel
theorem xe_209_100 (a0 a1 a2 a3 a4 a5 a6 a7 : Option MV) (st : List MV) (μ : MM) (G : MG) : ev 209 100 [a0, a1, a2, a3, a4, a5, a6, a7] st μ G = ev 209 43 [a0, a1, a2, a3, a4, a5, a6, a7] st μ G := ev_stp pg_209_100 rfl
theorem pg_209_103 : mm_prog 209 103 = some (0, .iload 5, 105, []) := by decide +kernel
theorem xe_209_103 (a0 a1 a2 a3 a4 a6 a7 : Option MV) (x : Int) (st : List MV) (μ : MM) (G : MG) : ev 209 103 [a0, a1, a2, a3, a4, some (vI x), a6, a7] st μ G = ev 209 105 [a0, a1, a2, a3, a4, some (vI x), a6, a7] (vI x :: st) μ G := ev_stp pg_209_103 rfl
theorem pg_209_105 : mm_prog 209 105 = some (0, .iconst 2, 106, []) := by decide +kernel
theorem xe_209_105 (a0 a1 a2 a3 a4 a5 a6 a7 : Option MV) (st : List MV) (μ : MM) (G : MG) : ev 209 105 [a0, a1, a2, a3, a4, a5, a6, a7] st μ G = ev 209 106 [a0, a1, a2, a3, a4, a5, a6, a7] (vI (2) :: st) μ G := ev_stp pg_209_105 rfl
theorem pg_209_106 : mm_prog 209 106 = some (0, .imul, 107, []) := by decide +kernel
theorem xe_209_106 (a0 a1 a2 a3 a4 a5 a6 a7 : Option MV) (x y : Int) (st : List MV) (μ : MM) (G : MG) : ev 209 106 [a0, a1, a2, a3, a4, a5, a6, a7] (vI y :: vI x :: st) μ G = ev 209 107 [a0, a1, a2, a3, a4, a5, a6, a7] (vI (w32 (x * y)) :: st) μ G := ev_stp pg_209_106 rfl
theorem pg_209_107 : mm_prog 209 107 = some (0, .istore 5, 109, []) := by decide +kernel
theorem xe_209_107 (a0 a1 a2 a3 a4 a5 a6 a7 : Option MV) (x : Int) (st : List MV) (μ : MM) (G : MG) (h : mm_nL a4 = true) : ev 209 107 [a0, a1, a2, a3, a4, a5, a6, a7] (vI x :: st) μ G = ev 209 109 [a0, a1, a2, a3, a4, some (vI x), a6, a7] st μ G := ev_st pg_209_107 rfl (mm_nl_of h) (Nat.le_of_ble_eq_true rfl)
theorem pg_209_109 : mm_prog 209 109 = some (0, .goto (-75), 112, []) := by decide +kernel
theorem xe_209_109 (a0 a1 a2 a3 a4 a5 a6 a7 : Option MV) (st : List MV) (μ : MM) (G : MG) : ev 209 109 [a0, a1, a2, a3, a4, a5, a6, a7] st μ G = ev 209 34 [a0, a1, a2, a3, a4, a5, a6, a7] st μ G := ev_stp pg_209_109 rfl
theorem pg_209_112 : mm_prog 209 112 = some (0, .iload_n 3, 113, []) := by decide +kernel
theorem xe_209_112 (a0 a1 a2 a4 a5 a6 a7 : Option MV) (x : Int) (st : List MV) (μ : MM) (G : MG) : ev 209 112 [a0, a1, a2, some (vI x), a4, a5, a6, a7] st μ G = ev 209 113 [a0, a1, a2, some (vI x), a4, a5, a6, a7] (vI x :: st) μ G := ev_stp pg_209_112 rfl
theorem pg_209_113 : mm_prog 209 113 = some (2, .ireturn, 114, [0]) := by decide +kernel
theorem xe_209_113 (a0 a1 a2 a3 a4 a5 a6 a7 : Option MV) (x : Int) (μ : MM) (G : MG) : ev 209 113 [a0, a1, a2, a3, a4, a5, a6, a7] [vI x] μ G = some (some (vI x), μ, G) := ev_ret pg_209_113 rfl
-- X11_fastest
theorem pg_210_0 : mm_prog 210 0 = some (0, .aload_n 0, 1, []) := by decide +kernel
theorem xe_210_0 (a1 a2 a3 a4 a5 a6 a7 : Option MV) (x : Int) (st : List MV) (μ : MM) (G : MG) : ev 210 0 [some (vR x), a1, a2, a3, a4, a5, a6, a7] st μ G = ev 210 1 [some (vR x), a1, a2, a3, a4, a5, a6, a7] (vR x :: st) μ G := ev_stp pg_210_0 rfl
theorem pg_210_1 : mm_prog 210 1 = some (0, .iconst 0, 2, []) := by decide +kernel
theorem xe_210_1 (a0 a1 a2 a3 a4 a5 a6 a7 : Option MV) (st : List MV) (μ : MM) (G : MG) : ev 210 1 [a0, a1, a2, a3, a4, a5, a6, a7] st μ G = ev 210 2 [a0, a1, a2, a3, a4, a5, a6, a7] (vI (0) :: st) μ G := ev_stp pg_210_1 rfl
theorem pg_210_2 : mm_prog 210 2 = some (0, .putfield 1, 5, [11, 0, 0]) := by decide +kernel
theorem xe_210_2 (a0 a1 a2 a3 a4 a5 a6 a7 : Option MV) (x y : Int) (st : List MV) (μ : MM) (G : MG) : ev 210 2 [a0, a1, a2, a3, a4, a5, a6, a7] (vI x :: vR y :: st) μ G = if gk G y = 11 then ev 210 5 [a0, a1, a2, a3, a4, a5, a6, a7] st (mset μ y 0 x) G else none := ev_put0 pg_210_2
theorem pg_210_5 : mm_prog 210 5 = some (0, .iload_n 1, 6, []) := by decide +kernel
theorem xe_210_5 (a0 a2 a3 a4 a5 a6 a7 : Option MV) (x : Int) (st : List MV) (μ : MM) (G : MG) : ev 210 5 [a0, some (vI x), a2, a3, a4, a5, a6, a7] st μ G = ev 210 6 [a0, some (vI x), a2, a3, a4, a5, a6, a7] (vI x :: st) μ G := ev_stp pg_210_5 rfl
theorem pg_210_6 : mm_prog 210 6 = some (0, .i2l, 7, []) := by decide +kernel
theorem xe_210_6 (a0 a1 a2 a3 a4 a5 a6 a7 : Option MV) (x : Int) (st : List MV) (μ : MM) (G : MG) : ev 210 6 [a0, a1, a2, a3, a4, a5, a6, a7] (vI x :: st) μ G = ev 210 7 [a0, a1, a2, a3, a4, a5, a6, a7] (vL x :: st) μ G := ev_stp pg_210_6 rfl
theorem pg_210_7 : mm_prog 210 7 = some (0, .lconst 0, 8, []) := by decide +kernel
theorem xe_210_7 (a0 a1 a2 a3 a4 a5 a6 a7 : Option MV) (st : List MV) (μ : MM) (G : MG) : ev 210 7 [a0, a1, a2, a3, a4, a5, a6, a7] st μ G = ev 210 8 [a0, a1, a2, a3, a4, a5, a6, a7] (vL 0 :: st) μ G := ev_stp pg_210_7 rfl
theorem pg_210_8 : mm_prog 210 8 = some (0, .lconst 1, 9, []) := by decide +kernel
theorem xe_210_8 (a0 a1 a2 a3 a4 a5 a6 a7 : Option MV) (st : List MV) (μ : MM) (G : MG) : ev 210 8 [a0, a1, a2, a3, a4, a5, a6, a7] st μ G = ev 210 9 [a0, a1, a2, a3, a4, a5, a6, a7] (vL 1 :: st) μ G := ev_stp pg_210_8 rfl
theorem pg_210_9 : mm_prog 210 9 = some (1, .invokestatic 107, 12, [0, 148, 3, 0]) := by decide +kernel
theorem xe_210_9 (a0 a1 a2 a3 a4 a5 a6 a7 : Option MV) (x0 x1 x2 : Int) (μ : MM) (G : MG) : ev 210 9 [a0, a1, a2, a3, a4, a5, a6, a7] (vL x2 :: vL x1 :: vL x0 :: []) μ G = (ev 148 0 [some (vL x0), none, some (vL x1), none, some (vL x2), none] [] μ G).bind (fun q => ev 210 12 [a0, a1, a2, a3, a4, a5, a6, a7] (q.1.toList ++ []) q.2.1 q.2.2) := ev_calS (as := [vL x0, vL x1, vL x2]) (r := []) mx_148 pg_210_9 rfl rfl (Nat.le_of_ble_eq_true rfl) (Nat.le_of_ble_eq_true rfl)
theorem pg_210_12 : mm_prog 210 12 = some (0, .ifCond .ne 6, 15, []) := by decide +kernel
theorem xe_210_12 (a0 a1 a2 a3 a4 a5 a6 a7 : Option MV) (x : Int) (st : List MV) (μ : MM) (G : MG) : ev 210 12 [a0, a1, a2, a3, a4, a5, a6, a7] (vI x :: st) μ G = if ¬ x = 0 then ev 210 18 [a0, a1, a2, a3, a4, a5, a6, a7] st μ G else ev 210 15 [a0, a1, a2, a3, a4, a5, a6, a7] st μ G := ev_br (mm_cnd_ne x 0) pg_210_12 rfl
theorem pg_210_15 : mm_prog 210 15 = some (0, .bipush (-2), 17, []) := by decide +kernel
theorem xe_210_15 (a0 a1 a2 a3 a4 a5 a6 a7 : Option MV) (st : List MV) (μ : MM) (G : MG) : ev 210 15 [a0, a1, a2, a3, a4, a5, a6, a7] st μ G = ev 210 17 [a0, a1, a2, a3, a4, a5, a6, a7] (vI (-2) :: st) μ G := ev_stp pg_210_15 rfl
theorem pg_210_17 : mm_prog 210 17 = some (2, .ireturn, 18, [0]) := by decide +kernel
theorem xe_210_17 (a0 a1 a2 a3 a4 a5 a6 a7 : Option MV) (x : Int) (μ : MM) (G : MG) : ev 210 17 [a0, a1, a2, a3, a4, a5, a6, a7] [vI x] μ G = some (some (vI x), μ, G) := ev_ret pg_210_17 rfl
theorem pg_210_18 : mm_prog 210 18 = some (0, .iload_n 2, 19, []) := by decide +kernel
theorem xe_210_18 (a0 a1 a3 a4 a5 a6 a7 : Option MV) (x : Int) (st : List MV) (μ : MM) (G : MG) : ev 210 18 [a0, a1, some (vI x), a3, a4, a5, a6, a7] st μ G = ev 210 19 [a0, a1, some (vI x), a3, a4, a5, a6, a7] (vI x :: st) μ G := ev_stp pg_210_18 rfl
theorem pg_210_19 : mm_prog 210 19 = some (0, .iload_n 3, 20, []) := by decide +kernel
theorem xe_210_19 (a0 a1 a2 a4 a5 a6 a7 : Option MV) (x : Int) (st : List MV) (μ : MM) (G : MG) : ev 210 19 [a0, a1, a2, some (vI x), a4, a5, a6, a7] st μ G = ev 210 20 [a0, a1, a2, some (vI x), a4, a5, a6, a7] (vI x :: st) μ G := ev_stp pg_210_19 rfl
theorem pg_210_20 : mm_prog 210 20 = some (0, .bipush 20, 22, []) := by decide +kernel
theorem xe_210_20 (a0 a1 a2 a3 a4 a5 a6 a7 : Option MV) (st : List MV) (μ : MM) (G : MG) : ev 210 20 [a0, a1, a2, a3, a4, a5, a6, a7] st μ G = ev 210 22 [a0, a1, a2, a3, a4, a5, a6, a7] (vI (20) :: st) μ G := ev_stp pg_210_20 rfl
theorem pg_210_22 : mm_prog 210 22 = some (1, .invokestatic 304, 25, [0, 195, 3, 0]) := by decide +kernel
theorem xe_210_22 (a0 a1 a2 a3 a4 a5 a6 a7 : Option MV) (x0 x1 x2 : Int) (μ : MM) (G : MG) : ev 210 22 [a0, a1, a2, a3, a4, a5, a6, a7] (vI x2 :: vI x1 :: vI x0 :: []) μ G = (ev 195 0 [some (vI x0), some (vI x1), some (vI x2)] [] μ G).bind (fun q => ev 210 25 [a0, a1, a2, a3, a4, a5, a6, a7] (q.1.toList ++ []) q.2.1 q.2.2) := ev_calS (as := [vI x0, vI x1, vI x2]) (r := []) mx_195 pg_210_22 rfl rfl (Nat.le_of_ble_eq_true rfl) (Nat.le_of_ble_eq_true rfl)
theorem pg_210_25 : mm_prog 210 25 = some (0, .ifCond .ne 21, 28, []) := by decide +kernel
theorem xe_210_25 (a0 a1 a2 a3 a4 a5 a6 a7 : Option MV) (x : Int) (st : List MV) (μ : MM) (G : MG) : ev 210 25 [a0, a1, a2, a3, a4, a5, a6, a7] (vI x :: st) μ G = if ¬ x = 0 then ev 210 46 [a0, a1, a2, a3, a4, a5, a6, a7] st μ G else ev 210 28 [a0, a1, a2, a3, a4, a5, a6, a7] st μ G := ev_br (mm_cnd_ne x 0) pg_210_25 rfl
theorem pg_210_28 : mm_prog 210 28 = some (0, .iload 4, 30, []) := by decide +kernel
theorem xe_210_28 (a0 a1 a2 a3 a5 a6 a7 : Option MV) (x : Int) (st : List MV) (μ : MM) (G : MG) : ev 210 28 [a0, a1, a2, a3, some (vI x), a5, a6, a7] st μ G = ev 210 30 [a0, a1, a2, a3, some (vI x), a5, a6, a7] (vI x :: st) μ G := ev_stp pg_210_28 rfl
theorem pg_210_30 : mm_prog 210 30 = some (0, .iload 5, 32, []) := by decide +kernel
theorem xe_210_30 (a0 a1 a2 a3 a4 a6 a7 : Option MV) (x : Int) (st : List MV) (μ : MM) (G : MG) : ev 210 30 [a0, a1, a2, a3, a4, some (vI x), a6, a7] st μ G = ev 210 32 [a0, a1, a2, a3, a4, some (vI x), a6, a7] (vI x :: st) μ G := ev_stp pg_210_30 rfl
theorem pg_210_32 : mm_prog 210 32 = some (1, .invokestatic 324, 35, [0, 201, 2, 0]) := by decide +kernel
theorem xe_210_32 (a0 a1 a2 a3 a4 a5 a6 a7 : Option MV) (x0 x1 : Int) (μ : MM) (G : MG) : ev 210 32 [a0, a1, a2, a3, a4, a5, a6, a7] (vI x1 :: vI x0 :: []) μ G = (ev 201 0 [some (vI x0), some (vI x1)] [] μ G).bind (fun q => ev 210 35 [a0, a1, a2, a3, a4, a5, a6, a7] (q.1.toList ++ []) q.2.1 q.2.2) := ev_calS (as := [vI x0, vI x1]) (r := []) mx_201 pg_210_32 rfl rfl (Nat.le_of_ble_eq_true rfl) (Nat.le_of_ble_eq_true rfl)
theorem pg_210_35 : mm_prog 210 35 = some (0, .ifCond .eq 11, 38, []) := by decide +kernel
theorem xe_210_35 (a0 a1 a2 a3 a4 a5 a6 a7 : Option MV) (x : Int) (st : List MV) (μ : MM) (G : MG) : ev 210 35 [a0, a1, a2, a3, a4, a5, a6, a7] (vI x :: st) μ G = if x = 0 then ev 210 46 [a0, a1, a2, a3, a4, a5, a6, a7] st μ G else ev 210 38 [a0, a1, a2, a3, a4, a5, a6, a7] st μ G := ev_br (mm_cnd_eq x 0) pg_210_35 rfl
theorem pg_210_38 : mm_prog 210 38 = some (0, .iload 6, 40, []) := by decide +kernel
theorem xe_210_38 (a0 a1 a2 a3 a4 a5 a7 : Option MV) (x : Int) (st : List MV) (μ : MM) (G : MG) : ev 210 38 [a0, a1, a2, a3, a4, a5, some (vI x), a7] st μ G = ev 210 40 [a0, a1, a2, a3, a4, a5, some (vI x), a7] (vI x :: st) μ G := ev_stp pg_210_38 rfl
theorem pg_210_40 : mm_prog 210 40 = some (1, .invokestatic 321, 43, [0, 200, 1, 0]) := by decide +kernel
theorem xe_210_40 (a0 a1 a2 a3 a4 a5 a6 a7 : Option MV) (x0 : Int) (μ : MM) (G : MG) : ev 210 40 [a0, a1, a2, a3, a4, a5, a6, a7] (vI x0 :: []) μ G = (ev 200 0 [some (vI x0)] [] μ G).bind (fun q => ev 210 43 [a0, a1, a2, a3, a4, a5, a6, a7] (q.1.toList ++ []) q.2.1 q.2.2) := ev_calS (as := [vI x0]) (r := []) mx_200 pg_210_40 rfl rfl (Nat.le_of_ble_eq_true rfl) (Nat.le_of_ble_eq_true rfl)
theorem pg_210_43 : mm_prog 210 43 = some (0, .ifCond .ne 6, 46, []) := by decide +kernel
theorem xe_210_43 (a0 a1 a2 a3 a4 a5 a6 a7 : Option MV) (x : Int) (st : List MV) (μ : MM) (G : MG) : ev 210 43 [a0, a1, a2, a3, a4, a5, a6, a7] (vI x :: st) μ G = if ¬ x = 0 then ev 210 49 [a0, a1, a2, a3, a4, a5, a6, a7] st μ G else ev 210 46 [a0, a1, a2, a3, a4, a5, a6, a7] st μ G := ev_br (mm_cnd_ne x 0) pg_210_43 rfl
theorem pg_210_46 : mm_prog 210 46 = some (0, .bipush (-3), 48, []) := by decide +kernel
theorem xe_210_46 (a0 a1 a2 a3 a4 a5 a6 a7 : Option MV) (st : List MV) (μ : MM) (G : MG) : ev 210 46 [a0, a1, a2, a3, a4, a5, a6, a7] st μ G = ev 210 48 [a0, a1, a2, a3, a4, a5, a6, a7] (vI (-3) :: st) μ G := ev_stp pg_210_46 rfl
theorem pg_210_48 : mm_prog 210 48 = some (2, .ireturn, 49, [0]) := by decide +kernel
theorem xe_210_48 (a0 a1 a2 a3 a4 a5 a6 a7 : Option MV) (x : Int) (μ : MM) (G : MG) : ev 210 48 [a0, a1, a2, a3, a4, a5, a6, a7] [vI x] μ G = some (some (vI x), μ, G) := ev_ret pg_210_48 rfl
theorem pg_210_49 : mm_prog 210 49 = some (0, .sipush 240, 52, []) := by decide +kernel
theorem xe_210_49 (a0 a1 a2 a3 a4 a5 a6 a7 : Option MV) (st : List MV) (μ : MM) (G : MG) : ev 210 49 [a0, a1, a2, a3, a4, a5, a6, a7] st μ G = ev 210 52 [a0, a1, a2, a3, a4, a5, a6, a7] (vI (240) :: st) μ G := ev_stp pg_210_49 rfl
theorem pg_210_52 : mm_prog 210 52 = some (0, .istore 7, 54, []) := by decide +kernel
theorem xe_210_52 (a0 a1 a2 a3 a4 a5 a6 a7 : Option MV) (x : Int) (st : List MV) (μ : MM) (G : MG) (h : mm_nL a6 = true) : ev 210 52 [a0, a1, a2, a3, a4, a5, a6, a7] (vI x :: st) μ G = ev 210 54 [a0, a1, a2, a3, a4, a5, a6, some (vI x)] st μ G := ev_st pg_210_52 rfl (mm_nl_of h) (Nat.le_of_ble_eq_true rfl)
theorem pg_210_54 : mm_prog 210 54 = some (0, .iload 7, 56, []) := by decide +kernel
theorem xe_210_54 (a0 a1 a2 a3 a4 a5 a6 : Option MV) (x : Int) (st : List MV) (μ : MM) (G : MG) : ev 210 54 [a0, a1, a2, a3, a4, a5, a6, some (vI x)] st μ G = ev 210 56 [a0, a1, a2, a3, a4, a5, a6, some (vI x)] (vI x :: st) μ G := ev_stp pg_210_54 rfl
theorem pg_210_56 : mm_prog 210 56 = some (0, .bipush 20, 58, []) := by decide +kernel
theorem xe_210_56 (a0 a1 a2 a3 a4 a5 a6 a7 : Option MV) (st : List MV) (μ : MM) (G : MG) : ev 210 56 [a0, a1, a2, a3, a4, a5, a6, a7] st μ G = ev 210 58 [a0, a1, a2, a3, a4, a5, a6, a7] (vI (20) :: st) μ G := ev_stp pg_210_56 rfl
theorem pg_210_58 : mm_prog 210 58 = some (0, .if_icmp .lt 49, 61, []) := by decide +kernel
theorem xe_210_58 (a0 a1 a2 a3 a4 a5 a6 a7 : Option MV) (x y : Int) (st : List MV) (μ : MM) (G : MG) : ev 210 58 [a0, a1, a2, a3, a4, a5, a6, a7] (vI y :: vI x :: st) μ G = if x < y then ev 210 107 [a0, a1, a2, a3, a4, a5, a6, a7] st μ G else ev 210 61 [a0, a1, a2, a3, a4, a5, a6, a7] st μ G := ev_br (mm_cnd_lt x y) pg_210_58 rfl
theorem pg_210_61 : mm_prog 210 61 = some (0, .aload_n 0, 62, []) := by decide +kernel
theorem xe_210_61 (a1 a2 a3 a4 a5 a6 a7 : Option MV) (x : Int) (st : List MV) (μ : MM) (G : MG) : ev 210 61 [some (vR x), a1, a2, a3, a4, a5, a6, a7] st μ G = ev 210 62 [some (vR x), a1, a2, a3, a4, a5, a6, a7] (vR x :: st) μ G := ev_stp pg_210_61 rfl
theorem pg_210_62 : mm_prog 210 62 = some (0, .iload_n 1, 63, []) := by decide +kernel
theorem xe_210_62 (a0 a2 a3 a4 a5 a6 a7 : Option MV) (x : Int) (st : List MV) (μ : MM) (G : MG) : ev 210 62 [a0, some (vI x), a2, a3, a4, a5, a6, a7] st μ G = ev 210 63 [a0, some (vI x), a2, a3, a4, a5, a6, a7] (vI x :: st) μ G := ev_stp pg_210_62 rfl
theorem pg_210_63 : mm_prog 210 63 = some (0, .iload_n 2, 64, []) := by decide +kernel
theorem xe_210_63 (a0 a1 a3 a4 a5 a6 a7 : Option MV) (x : Int) (st : List MV) (μ : MM) (G : MG) : ev 210 63 [a0, a1, some (vI x), a3, a4, a5, a6, a7] st μ G = ev 210 64 [a0, a1, some (vI x), a3, a4, a5, a6, a7] (vI x :: st) μ G := ev_stp pg_210_63 rfl
theorem pg_210_64 : mm_prog 210 64 = some (0, .iload_n 3, 65, []) := by decide +kernel
theorem xe_210_64 (a0 a1 a2 a4 a5 a6 a7 : Option MV) (x : Int) (st : List MV) (μ : MM) (G : MG) : ev 210 64 [a0, a1, a2, some (vI x), a4, a5, a6, a7] st μ G = ev 210 65 [a0, a1, a2, some (vI x), a4, a5, a6, a7] (vI x :: st) μ G := ev_stp pg_210_64 rfl
theorem pg_210_65 : mm_prog 210 65 = some (0, .iload 7, 67, []) := by decide +kernel
theorem xe_210_65 (a0 a1 a2 a3 a4 a5 a6 : Option MV) (x : Int) (st : List MV) (μ : MM) (G : MG) : ev 210 65 [a0, a1, a2, a3, a4, a5, a6, some (vI x)] st μ G = ev 210 67 [a0, a1, a2, a3, a4, a5, a6, some (vI x)] (vI x :: st) μ G := ev_stp pg_210_65 rfl
theorem pg_210_67 : mm_prog 210 67 = some (1, .invokevirtual 205, 70, [1, 194, 4, 11]) := by decide +kernel
theorem xe_210_67 (a0 a1 a2 a3 a4 a5 a6 a7 : Option MV) (x0 x1 x2 x3 z : Int) (μ : MM) (G : MG) : ev 210 67 [a0, a1, a2, a3, a4, a5, a6, a7] (vI x3 :: vI x2 :: vI x1 :: vI x0 :: vR z :: []) μ G = if gk G z = 11 ∧ 0 < z then (ev 194 0 [some (vR z), some (vI x0), some (vI x1), some (vI x2), some (vI x3), none, none, none, none] [] μ G).bind (fun q => ev 210 70 [a0, a1, a2, a3, a4, a5, a6, a7] (q.1.toList ++ []) q.2.1 q.2.2) else none := ev_calV (as := [vR z, vI x0, vI x1, vI x2, vI x3]) (r := []) mx_194 pg_210_67 rfl rfl (Nat.le_of_ble_eq_true rfl) (Nat.le_of_ble_eq_true rfl)
theorem pg_210_70 : mm_prog 210 70 = some (0, .ldc2_w 315, 73, [3]) := by decide +kernel
theorem xe_210_70 (a0 a1 a2 a3 a4 a5 a6 a7 : Option MV) (st : List MV) (μ : MM) (G : MG) : ev 210 70 [a0, a1, a2, a3, a4, a5, a6, a7] st μ G = ev 210 73 [a0, a1, a2, a3, a4, a5, a6, a7] (vL (3) :: st) μ G := ev_stp pg_210_70 rfl
theorem pg_210_73 : mm_prog 210 73 = some (0, .iload 6, 75, []) := by decide +kernel
theorem xe_210_73 (a0 a1 a2 a3 a4 a5 a7 : Option MV) (x : Int) (st : List MV) (μ : MM) (G : MG) : ev 210 73 [a0, a1, a2, a3, a4, a5, some (vI x), a7] st μ G = ev 210 75 [a0, a1, a2, a3, a4, a5, some (vI x), a7] (vI x :: st) μ G := ev_stp pg_210_73 rfl
theorem pg_210_75 : mm_prog 210 75 = some (0, .i2l, 76, []) := by decide +kernel
theorem xe_210_75 (a0 a1 a2 a3 a4 a5 a6 a7 : Option MV) (x : Int) (st : List MV) (μ : MM) (G : MG) : ev 210 75 [a0, a1, a2, a3, a4, a5, a6, a7] (vI x :: st) μ G = ev 210 76 [a0, a1, a2, a3, a4, a5, a6, a7] (vL x :: st) μ G := ev_stp pg_210_75 rfl
theorem pg_210_76 : mm_prog 210 76 = some (0, .lmul, 77, []) := by decide +kernel
theorem xe_210_76 (a0 a1 a2 a3 a4 a5 a6 a7 : Option MV) (x y : Int) (st : List MV) (μ : MM) (G : MG) : ev 210 76 [a0, a1, a2, a3, a4, a5, a6, a7] (vL y :: vL x :: st) μ G = ev 210 77 [a0, a1, a2, a3, a4, a5, a6, a7] (vL (w64 (x * y)) :: st) μ G := ev_stp pg_210_76 rfl
theorem pg_210_77 : mm_prog 210 77 = some (0, .aload_n 0, 78, []) := by decide +kernel
theorem xe_210_77 (a1 a2 a3 a4 a5 a6 a7 : Option MV) (x : Int) (st : List MV) (μ : MM) (G : MG) : ev 210 77 [some (vR x), a1, a2, a3, a4, a5, a6, a7] st μ G = ev 210 78 [some (vR x), a1, a2, a3, a4, a5, a6, a7] (vR x :: st) μ G := ev_stp pg_210_77 rfl
theorem pg_210_78 : mm_prog 210 78 = some (0, .getfield 63, 81, [11, 29, 2]) := by decide +kernel
theorem xe_210_78 (a0 a1 a2 a3 a4 a5 a6 a7 : Option MV) (x : Int) (st : List MV) (μ : MM) (G : MG) : ev 210 78 [a0, a1, a2, a3, a4, a5, a6, a7] (vR x :: st) μ G = if gk G x = 11 then ev 210 81 [a0, a1, a2, a3, a4, a5, a6, a7] (vR (μ x 29) :: st) μ G else none := ev_if pg_210_78 rfl
theorem pg_210_81 : mm_prog 210 81 = some (0, .bipush 8, 83, []) := by decide +kernel
theorem xe_210_81 (a0 a1 a2 a3 a4 a5 a6 a7 : Option MV) (st : List MV) (μ : MM) (G : MG) : ev 210 81 [a0, a1, a2, a3, a4, a5, a6, a7] st μ G = ev 210 83 [a0, a1, a2, a3, a4, a5, a6, a7] (vI (8) :: st) μ G := ev_stp pg_210_81 rfl
theorem pg_210_83 : mm_prog 210 83 = some (0, .iaload, 84, []) := by decide +kernel
theorem xe_210_83 (a0 a1 a2 a3 a4 a5 a6 a7 : Option MV) (x y : Int) (st : List MV) (μ : MM) (G : MG) : ev 210 83 [a0, a1, a2, a3, a4, a5, a6, a7] (vI x :: vR y :: st) μ G = if gk G y = 100 ∧ 0 ≤ x ∧ x < gl G y then ev 210 84 [a0, a1, a2, a3, a4, a5, a6, a7] (vI (μ y x) :: st) μ G else none := ev_if pg_210_83 rfl
theorem pg_210_84 : mm_prog 210 84 = some (0, .i2l, 85, []) := by decide +kernel
theorem xe_210_84 (a0 a1 a2 a3 a4 a5 a6 a7 : Option MV) (x : Int) (st : List MV) (μ : MM) (G : MG) : ev 210 84 [a0, a1, a2, a3, a4, a5, a6, a7] (vI x :: st) μ G = ev 210 85 [a0, a1, a2, a3, a4, a5, a6, a7] (vL x :: st) μ G := ev_stp pg_210_84 rfl
theorem pg_210_85 : mm_prog 210 85 = some (0, .lmul, 86, []) := by decide +kernel
theorem xe_210_85 (a0 a1 a2 a3 a4 a5 a6 a7 : Option MV) (x y : Int) (st : List MV) (μ : MM) (G : MG) : ev 210 85 [a0, a1, a2, a3, a4, a5, a6, a7] (vL y :: vL x :: st) μ G = ev 210 86 [a0, a1, a2, a3, a4, a5, a6, a7] (vL (w64 (x * y)) :: st) μ G := ev_stp pg_210_85 rfl
theorem pg_210_86 : mm_prog 210 86 = some (0, .iload 4, 88, []) := by decide +kernel
theorem xe_210_86 (a0 a1 a2 a3 a5 a6 a7 : Option MV) (x : Int) (st : List MV) (μ : MM) (G : MG) : ev 210 86 [a0, a1, a2, a3, some (vI x), a5, a6, a7] st μ G = ev 210 88 [a0, a1, a2, a3, some (vI x), a5, a6, a7] (vI x :: st) μ G := ev_stp pg_210_86 rfl
theorem pg_210_88 : mm_prog 210 88 = some (0, .iload 5, 90, []) := by decide +kernel
theorem xe_210_88 (a0 a1 a2 a3 a4 a6 a7 : Option MV) (x : Int) (st : List MV) (μ : MM) (G : MG) : ev 210 88 [a0, a1, a2, a3, a4, some (vI x), a6, a7] st μ G = ev 210 90 [a0, a1, a2, a3, a4, some (vI x), a6, a7] (vI x :: st) μ G := ev_stp pg_210_88 rfl
theorem pg_210_90 : mm_prog 210 90 = some (1, .invokestatic 327, 93, [0, 202, 2, 0]) := by decide +kernel
theorem xe_210_90 (a0 a1 a2 a3 a4 a5 a6 a7 : Option MV) (x0 x1 r0 : Int) (μ : MM) (G : MG) : ev 210 90 [a0, a1, a2, a3, a4, a5, a6, a7] (vI x1 :: vI x0 :: [vL r0]) μ G = (ev 202 0 [some (vI x0), some (vI x1), none] [] μ G).bind (fun q => ev 210 93 [a0, a1, a2, a3, a4, a5, a6, a7] (q.1.toList ++ [vL r0]) q.2.1 q.2.2) := ev_calS (as := [vI x0, vI x1]) (r := [vL r0]) mx_202 pg_210_90 rfl rfl (Nat.le_of_ble_eq_true rfl) (Nat.le_of_ble_eq_true rfl)
theorem pg_210_93 : mm_prog 210 93 = some (0, .i2l, 94, []) := by decide +kernel
theorem xe_210_93 (a0 a1 a2 a3 a4 a5 a6 a7 : Option MV) (x : Int) (st : List MV) (μ : MM) (G : MG) : ev 210 93 [a0, a1, a2, a3, a4, a5, a6, a7] (vI x :: st) μ G = ev 210 94 [a0, a1, a2, a3, a4, a5, a6, a7] (vL x :: st) μ G := ev_stp pg_210_93 rfl
theorem pg_210_94 : mm_prog 210 94 = some (0, .lcmp, 95, []) := by decide +kernel
theorem xe_210_94 (a0 a1 a2 a3 a4 a5 a6 a7 : Option MV) (x y : Int) (st : List MV) (μ : MM) (G : MG) : ev 210 94 [a0, a1, a2, a3, a4, a5, a6, a7] (vL y :: vL x :: st) μ G = ev 210 95 [a0, a1, a2, a3, a4, a5, a6, a7] (vI (mm_cmp x y) :: st) μ G := ev_stp pg_210_94 rfl
theorem pg_210_95 : mm_prog 210 95 = some (0, .ifCond .gt 6, 98, []) := by decide +kernel
theorem xe_210_95 (a0 a1 a2 a3 a4 a5 a6 a7 : Option MV) (x : Int) (st : List MV) (μ : MM) (G : MG) : ev 210 95 [a0, a1, a2, a3, a4, a5, a6, a7] (vI x :: st) μ G = if 0 < x then ev 210 101 [a0, a1, a2, a3, a4, a5, a6, a7] st μ G else ev 210 98 [a0, a1, a2, a3, a4, a5, a6, a7] st μ G := ev_br (mm_cnd_gt x 0) pg_210_95 rfl
theorem pg_210_98 : mm_prog 210 98 = some (0, .iload 7, 100, []) := by decide +kernel
theorem xe_210_98 (a0 a1 a2 a3 a4 a5 a6 : Option MV) (x : Int) (st : List MV) (μ : MM) (G : MG) : ev 210 98 [a0, a1, a2, a3, a4, a5, a6, some (vI x)] st μ G = ev 210 100 [a0, a1, a2, a3, a4, a5, a6, some (vI x)] (vI x :: st) μ G := ev_stp pg_210_98 rfl
theorem pg_210_100 : mm_prog 210 100 = some (2, .ireturn, 101, [0]) := by decide +kernel
theorem xe_210_100 (a0 a1 a2 a3 a4 a5 a6 a7 : Option MV) (x : Int) (μ : MM) (G : MG) : ev 210 100 [a0, a1, a2, a3, a4, a5, a6, a7] [vI x] μ G = some (some (vI x), μ, G) := ev_ret pg_210_100 rfl
theorem pg_210_101 : mm_prog 210 101 = some (0, .iinc 7 (-1), 104, []) := by decide +kernel
theorem xe_210_101 (a0 a1 a2 a3 a4 a5 a6 : Option MV) (x : Int) (st : List MV) (μ : MM) (G : MG) (h : mm_nL a6 = true) : ev 210 101 [a0, a1, a2, a3, a4, a5, a6, some (vI x)] st μ G = ev 210 104 [a0, a1, a2, a3, a4, a5, a6, some (vI (w32 (x + (-1))))] st μ G := ev_st pg_210_101 rfl (mm_nl_of h) (Nat.le_of_ble_eq_true rfl)
theorem pg_210_104 : mm_prog 210 104 = some (0, .goto (-50), 107, []) := by decide +kernel
theorem xe_210_104 (a0 a1 a2 a3 a4 a5 a6 a7 : Option MV) (st : List MV) (μ : MM) (G : MG) : ev 210 104 [a0, a1, a2, a3, a4, a5, a6, a7] st μ G = ev 210 54 [a0, a1, a2, a3, a4, a5, a6, a7] st μ G := ev_stp pg_210_104 rfl
theorem pg_210_107 : mm_prog 210 107 = some (0, .iconst (-1), 108, []) := by decide +kernel
theorem xe_210_107 (a0 a1 a2 a3 a4 a5 a6 a7 : Option MV) (st : List MV) (μ : MM) (G : MG) : ev 210 107 [a0, a1, a2, a3, a4, a5, a6, a7] st μ G = ev 210 108 [a0, a1, a2, a3, a4, a5, a6, a7] (vI (-1) :: st) μ G := ev_stp pg_210_107 rfl
theorem pg_210_108 : mm_prog 210 108 = some (2, .ireturn, 109, [0]) := by decide +kernel
theorem xe_210_108 (a0 a1 a2 a3 a4 a5 a6 a7 : Option MV) (x : Int) (μ : MM) (G : MG) : ev 210 108 [a0, a1, a2, a3, a4, a5, a6, a7] [vI x] μ G = some (some (vI x), μ, G) := ev_ret pg_210_108 rfl
-- X11_isLane
theorem pg_211_0 : mm_prog 211 0 = some (0, .iload_n 0, 1, []) := by decide +kernel
theorem xe_211_0 (x : Int) (st : List MV) (μ : MM) (G : MG) : ev 211 0 [some (vI x)] st μ G = ev 211 1 [some (vI x)] (vI x :: st) μ G := ev_stp pg_211_0 rfl
theorem pg_211_1 : mm_prog 211 1 = some (0, .i2l, 2, []) := by decide +kernel
theorem xe_211_1 (a0 : Option MV) (x : Int) (st : List MV) (μ : MM) (G : MG) : ev 211 1 [a0] (vI x :: st) μ G = ev 211 2 [a0] (vL x :: st) μ G := ev_stp pg_211_1 rfl
theorem pg_211_2 : mm_prog 211 2 = some (0, .lconst 0, 3, []) := by decide +kernel
theorem xe_211_2 (a0 : Option MV) (st : List MV) (μ : MM) (G : MG) : ev 211 2 [a0] st μ G = ev 211 3 [a0] (vL 0 :: st) μ G := ev_stp pg_211_2 rfl
theorem pg_211_3 : mm_prog 211 3 = some (0, .ldc2_w 315, 6, [3]) := by decide +kernel
theorem xe_211_3 (a0 : Option MV) (st : List MV) (μ : MM) (G : MG) : ev 211 3 [a0] st μ G = ev 211 6 [a0] (vL (3) :: st) μ G := ev_stp pg_211_3 rfl
theorem pg_211_6 : mm_prog 211 6 = some (1, .invokestatic 107, 9, [0, 148, 3, 0]) := by decide +kernel
theorem xe_211_6 (a0 : Option MV) (x0 x1 x2 : Int) (μ : MM) (G : MG) : ev 211 6 [a0] (vL x2 :: vL x1 :: vL x0 :: []) μ G = (ev 148 0 [some (vL x0), none, some (vL x1), none, some (vL x2), none] [] μ G).bind (fun q => ev 211 9 [a0] (q.1.toList ++ []) q.2.1 q.2.2) := ev_calS (as := [vL x0, vL x1, vL x2]) (r := []) mx_148 pg_211_6 rfl rfl (Nat.le_of_ble_eq_true rfl) (Nat.le_of_ble_eq_true rfl)
theorem pg_211_9 : mm_prog 211 9 = some (2, .ireturn, 10, [1]) := by decide +kernel
theorem xe_211_9 (a0 : Option MV) (x : Int) (μ : MM) (G : MG) : ev 211 9 [a0] [vI x] μ G = if x = 0 ∨ x = 1 then some (some (vI x), μ, G) else none := ev_retB pg_211_9
-- X11_ends
theorem pg_212_0 : mm_prog 212 0 = some (0, .iconst 0, 1, []) := by decide +kernel
theorem xe_212_0 (a0 a1 : Option MV) (st : List MV) (μ : MM) (G : MG) : ev 212 0 [a0, a1] st μ G = ev 212 1 [a0, a1] (vI (0) :: st) μ G := ev_stp pg_212_0 rfl
theorem pg_212_1 : mm_prog 212 1 = some (0, .istore_n 1, 2, []) := by decide +kernel
theorem xe_212_1 (a0 a1 : Option MV) (x : Int) (st : List MV) (μ : MM) (G : MG) (h : mm_nL a0 = true) : ev 212 1 [a0, a1] (vI x :: st) μ G = ev 212 2 [a0, some (vI x)] st μ G := ev_st pg_212_1 rfl (mm_nl_of h) (Nat.le_of_ble_eq_true rfl)
theorem pg_212_2 : mm_prog 212 2 = some (0, .iload_n 1, 3, []) := by decide +kernel
theorem xe_212_2 (a0 : Option MV) (x : Int) (st : List MV) (μ : MM) (G : MG) : ev 212 2 [a0, some (vI x)] st μ G = ev 212 3 [a0, some (vI x)] (vI x :: st) μ G := ev_stp pg_212_2 rfl
theorem pg_212_3 : mm_prog 212 3 = some (0, .bipush 88, 5, []) := by decide +kernel
theorem xe_212_3 (a0 a1 : Option MV) (st : List MV) (μ : MM) (G : MG) : ev 212 3 [a0, a1] st μ G = ev 212 5 [a0, a1] (vI (88) :: st) μ G := ev_stp pg_212_3 rfl
theorem pg_212_5 : mm_prog 212 5 = some (0, .if_icmp .ge 16, 8, []) := by decide +kernel
theorem xe_212_5 (a0 a1 : Option MV) (x y : Int) (st : List MV) (μ : MM) (G : MG) : ev 212 5 [a0, a1] (vI y :: vI x :: st) μ G = if y ≤ x then ev 212 21 [a0, a1] st μ G else ev 212 8 [a0, a1] st μ G := ev_br (mm_cnd_ge x y) pg_212_5 rfl
theorem pg_212_8 : mm_prog 212 8 = some (0, .aload_n 0, 9, []) := by decide +kernel
theorem xe_212_8 (a1 : Option MV) (x : Int) (st : List MV) (μ : MM) (G : MG) : ev 212 8 [some (vR x), a1] st μ G = ev 212 9 [some (vR x), a1] (vR x :: st) μ G := ev_stp pg_212_8 rfl
theorem pg_212_9 : mm_prog 212 9 = some (0, .getfield 75, 12, [11, 35, 2]) := by decide +kernel
theorem xe_212_9 (a0 a1 : Option MV) (x : Int) (st : List MV) (μ : MM) (G : MG) : ev 212 9 [a0, a1] (vR x :: st) μ G = if gk G x = 11 then ev 212 12 [a0, a1] (vR (μ x 35) :: st) μ G else none := ev_if pg_212_9 rfl
theorem pg_212_12 : mm_prog 212 12 = some (0, .iload_n 1, 13, []) := by decide +kernel
theorem xe_212_12 (a0 : Option MV) (x : Int) (st : List MV) (μ : MM) (G : MG) : ev 212 12 [a0, some (vI x)] st μ G = ev 212 13 [a0, some (vI x)] (vI x :: st) μ G := ev_stp pg_212_12 rfl
theorem pg_212_13 : mm_prog 212 13 = some (0, .iconst 0, 14, []) := by decide +kernel
theorem xe_212_13 (a0 a1 : Option MV) (st : List MV) (μ : MM) (G : MG) : ev 212 13 [a0, a1] st μ G = ev 212 14 [a0, a1] (vI (0) :: st) μ G := ev_stp pg_212_13 rfl
theorem pg_212_14 : mm_prog 212 14 = some (0, .iastore, 15, []) := by decide +kernel
theorem xe_212_14 (a0 a1 : Option MV) (x y z : Int) (st : List MV) (μ : MM) (G : MG) : ev 212 14 [a0, a1] (vI x :: vI y :: vR z :: st) μ G = if gk G z = 100 ∧ 0 ≤ y ∧ y < gl G z ∧ 10 ≤ z then ev 212 15 [a0, a1] st (mset μ z y x) G else none := ev_if pg_212_14 rfl
theorem pg_212_15 : mm_prog 212 15 = some (0, .iinc 1 1, 18, []) := by decide +kernel
theorem xe_212_15 (a0 : Option MV) (x : Int) (st : List MV) (μ : MM) (G : MG) (h : mm_nL a0 = true) : ev 212 15 [a0, some (vI x)] st μ G = ev 212 18 [a0, some (vI (w32 (x + (1))))] st μ G := ev_st pg_212_15 rfl (mm_nl_of h) (Nat.le_of_ble_eq_true rfl)
theorem pg_212_18 : mm_prog 212 18 = some (0, .goto (-16), 21, []) := by decide +kernel
theorem xe_212_18 (a0 a1 : Option MV) (st : List MV) (μ : MM) (G : MG) : ev 212 18 [a0, a1] st μ G = ev 212 2 [a0, a1] st μ G := ev_stp pg_212_18 rfl
theorem pg_212_21 : mm_prog 212 21 = some (2, .return_, 22, []) := by decide +kernel
theorem xe_212_21 (a0 a1 : Option MV) (μ : MM) (G : MG) : ev 212 21 [a0, a1] [] μ G = some (none, μ, G) := ev_ret pg_212_21 rfl
-- X11_lane
theorem pg_213_0 : mm_prog 213 0 = some (0, .aload_n 0, 1, []) := by decide +kernel
theorem xe_213_0 (a1 a2 a3 a4 : Option MV) (x : Int) (st : List MV) (μ : MM) (G : MG) : ev 213 0 [some (vR x), a1, a2, a3, a4] st μ G = ev 213 1 [some (vR x), a1, a2, a3, a4] (vR x :: st) μ G := ev_stp pg_213_0 rfl
theorem pg_213_1 : mm_prog 213 1 = some (0, .iconst 0, 2, []) := by decide +kernel
theorem xe_213_1 (a0 a1 a2 a3 a4 : Option MV) (st : List MV) (μ : MM) (G : MG) : ev 213 1 [a0, a1, a2, a3, a4] st μ G = ev 213 2 [a0, a1, a2, a3, a4] (vI (0) :: st) μ G := ev_stp pg_213_1 rfl
theorem pg_213_2 : mm_prog 213 2 = some (0, .putfield 1, 5, [11, 0, 0]) := by decide +kernel
theorem xe_213_2 (a0 a1 a2 a3 a4 : Option MV) (x y : Int) (st : List MV) (μ : MM) (G : MG) : ev 213 2 [a0, a1, a2, a3, a4] (vI x :: vR y :: st) μ G = if gk G y = 11 then ev 213 5 [a0, a1, a2, a3, a4] st (mset μ y 0 x) G else none := ev_put0 pg_213_2
theorem pg_213_5 : mm_prog 213 5 = some (0, .iload_n 1, 6, []) := by decide +kernel
theorem xe_213_5 (a0 a2 a3 a4 : Option MV) (x : Int) (st : List MV) (μ : MM) (G : MG) : ev 213 5 [a0, some (vI x), a2, a3, a4] st μ G = ev 213 6 [a0, some (vI x), a2, a3, a4] (vI x :: st) μ G := ev_stp pg_213_5 rfl
theorem pg_213_6 : mm_prog 213 6 = some (1, .invokestatic 342, 9, [0, 211, 1, 0]) := by decide +kernel
theorem xe_213_6 (a0 a1 a2 a3 a4 : Option MV) (x0 : Int) (μ : MM) (G : MG) : ev 213 6 [a0, a1, a2, a3, a4] (vI x0 :: []) μ G = (ev 211 0 [some (vI x0)] [] μ G).bind (fun q => ev 213 9 [a0, a1, a2, a3, a4] (q.1.toList ++ []) q.2.1 q.2.2) := ev_calS (as := [vI x0]) (r := []) mx_211 pg_213_6 rfl rfl (Nat.le_of_ble_eq_true rfl) (Nat.le_of_ble_eq_true rfl)
theorem pg_213_9 : mm_prog 213 9 = some (0, .ifCond .ne 6, 12, []) := by decide +kernel
theorem xe_213_9 (a0 a1 a2 a3 a4 : Option MV) (x : Int) (st : List MV) (μ : MM) (G : MG) : ev 213 9 [a0, a1, a2, a3, a4] (vI x :: st) μ G = if ¬ x = 0 then ev 213 15 [a0, a1, a2, a3, a4] st μ G else ev 213 12 [a0, a1, a2, a3, a4] st μ G := ev_br (mm_cnd_ne x 0) pg_213_9 rfl
theorem pg_213_12 : mm_prog 213 12 = some (0, .bipush (-2), 14, []) := by decide +kernel
theorem xe_213_12 (a0 a1 a2 a3 a4 : Option MV) (st : List MV) (μ : MM) (G : MG) : ev 213 12 [a0, a1, a2, a3, a4] st μ G = ev 213 14 [a0, a1, a2, a3, a4] (vI (-2) :: st) μ G := ev_stp pg_213_12 rfl
theorem pg_213_14 : mm_prog 213 14 = some (2, .ireturn, 15, [0]) := by decide +kernel
theorem xe_213_14 (a0 a1 a2 a3 a4 : Option MV) (x : Int) (μ : MM) (G : MG) : ev 213 14 [a0, a1, a2, a3, a4] [vI x] μ G = some (some (vI x), μ, G) := ev_ret pg_213_14 rfl
theorem pg_213_15 : mm_prog 213 15 = some (0, .iload_n 2, 16, []) := by decide +kernel
theorem xe_213_15 (a0 a1 a3 a4 : Option MV) (x : Int) (st : List MV) (μ : MM) (G : MG) : ev 213 15 [a0, a1, some (vI x), a3, a4] st μ G = ev 213 16 [a0, a1, some (vI x), a3, a4] (vI x :: st) μ G := ev_stp pg_213_15 rfl
theorem pg_213_16 : mm_prog 213 16 = some (0, .i2l, 17, []) := by decide +kernel
theorem xe_213_16 (a0 a1 a2 a3 a4 : Option MV) (x : Int) (st : List MV) (μ : MM) (G : MG) : ev 213 16 [a0, a1, a2, a3, a4] (vI x :: st) μ G = ev 213 17 [a0, a1, a2, a3, a4] (vL x :: st) μ G := ev_stp pg_213_16 rfl
theorem pg_213_17 : mm_prog 213 17 = some (0, .lconst 0, 18, []) := by decide +kernel
theorem xe_213_17 (a0 a1 a2 a3 a4 : Option MV) (st : List MV) (μ : MM) (G : MG) : ev 213 17 [a0, a1, a2, a3, a4] st μ G = ev 213 18 [a0, a1, a2, a3, a4] (vL 0 :: st) μ G := ev_stp pg_213_17 rfl
theorem pg_213_18 : mm_prog 213 18 = some (0, .ldc2_w 345, 21, [30]) := by decide +kernel
theorem xe_213_18 (a0 a1 a2 a3 a4 : Option MV) (st : List MV) (μ : MM) (G : MG) : ev 213 18 [a0, a1, a2, a3, a4] st μ G = ev 213 21 [a0, a1, a2, a3, a4] (vL (30) :: st) μ G := ev_stp pg_213_18 rfl
theorem pg_213_21 : mm_prog 213 21 = some (1, .invokestatic 107, 24, [0, 148, 3, 0]) := by decide +kernel
theorem xe_213_21 (a0 a1 a2 a3 a4 : Option MV) (x0 x1 x2 : Int) (μ : MM) (G : MG) : ev 213 21 [a0, a1, a2, a3, a4] (vL x2 :: vL x1 :: vL x0 :: []) μ G = (ev 148 0 [some (vL x0), none, some (vL x1), none, some (vL x2), none] [] μ G).bind (fun q => ev 213 24 [a0, a1, a2, a3, a4] (q.1.toList ++ []) q.2.1 q.2.2) := ev_calS (as := [vL x0, vL x1, vL x2]) (r := []) mx_148 pg_213_21 rfl rfl (Nat.le_of_ble_eq_true rfl) (Nat.le_of_ble_eq_true rfl)
theorem pg_213_24 : mm_prog 213 24 = some (0, .ifCond .eq 15, 27, []) := by decide +kernel
theorem xe_213_24 (a0 a1 a2 a3 a4 : Option MV) (x : Int) (st : List MV) (μ : MM) (G : MG) : ev 213 24 [a0, a1, a2, a3, a4] (vI x :: st) μ G = if x = 0 then ev 213 39 [a0, a1, a2, a3, a4] st μ G else ev 213 27 [a0, a1, a2, a3, a4] st μ G := ev_br (mm_cnd_eq x 0) pg_213_24 rfl
theorem pg_213_27 : mm_prog 213 27 = some (0, .iload_n 3, 28, []) := by decide +kernel
theorem xe_213_27 (a0 a1 a2 a4 : Option MV) (x : Int) (st : List MV) (μ : MM) (G : MG) : ev 213 27 [a0, a1, a2, some (vI x), a4] st μ G = ev 213 28 [a0, a1, a2, some (vI x), a4] (vI x :: st) μ G := ev_stp pg_213_27 rfl
theorem pg_213_28 : mm_prog 213 28 = some (0, .i2l, 29, []) := by decide +kernel
theorem xe_213_28 (a0 a1 a2 a3 a4 : Option MV) (x : Int) (st : List MV) (μ : MM) (G : MG) : ev 213 28 [a0, a1, a2, a3, a4] (vI x :: st) μ G = ev 213 29 [a0, a1, a2, a3, a4] (vL x :: st) μ G := ev_stp pg_213_28 rfl
theorem pg_213_29 : mm_prog 213 29 = some (0, .lconst 0, 30, []) := by decide +kernel
theorem xe_213_29 (a0 a1 a2 a3 a4 : Option MV) (st : List MV) (μ : MM) (G : MG) : ev 213 29 [a0, a1, a2, a3, a4] st μ G = ev 213 30 [a0, a1, a2, a3, a4] (vL 0 :: st) μ G := ev_stp pg_213_29 rfl
theorem pg_213_30 : mm_prog 213 30 = some (0, .ldc2_w 313, 33, [12]) := by decide +kernel
theorem xe_213_30 (a0 a1 a2 a3 a4 : Option MV) (st : List MV) (μ : MM) (G : MG) : ev 213 30 [a0, a1, a2, a3, a4] st μ G = ev 213 33 [a0, a1, a2, a3, a4] (vL (12) :: st) μ G := ev_stp pg_213_30 rfl
theorem pg_213_33 : mm_prog 213 33 = some (1, .invokestatic 107, 36, [0, 148, 3, 0]) := by decide +kernel
theorem xe_213_33 (a0 a1 a2 a3 a4 : Option MV) (x0 x1 x2 : Int) (μ : MM) (G : MG) : ev 213 33 [a0, a1, a2, a3, a4] (vL x2 :: vL x1 :: vL x0 :: []) μ G = (ev 148 0 [some (vL x0), none, some (vL x1), none, some (vL x2), none] [] μ G).bind (fun q => ev 213 36 [a0, a1, a2, a3, a4] (q.1.toList ++ []) q.2.1 q.2.2) := ev_calS (as := [vL x0, vL x1, vL x2]) (r := []) mx_148 pg_213_33 rfl rfl (Nat.le_of_ble_eq_true rfl) (Nat.le_of_ble_eq_true rfl)
theorem pg_213_36 : mm_prog 213 36 = some (0, .ifCond .ne 6, 39, []) := by decide +kernel
theorem xe_213_36 (a0 a1 a2 a3 a4 : Option MV) (x : Int) (st : List MV) (μ : MM) (G : MG) : ev 213 36 [a0, a1, a2, a3, a4] (vI x :: st) μ G = if ¬ x = 0 then ev 213 42 [a0, a1, a2, a3, a4] st μ G else ev 213 39 [a0, a1, a2, a3, a4] st μ G := ev_br (mm_cnd_ne x 0) pg_213_36 rfl
theorem pg_213_39 : mm_prog 213 39 = some (0, .bipush (-3), 41, []) := by decide +kernel
theorem xe_213_39 (a0 a1 a2 a3 a4 : Option MV) (st : List MV) (μ : MM) (G : MG) : ev 213 39 [a0, a1, a2, a3, a4] st μ G = ev 213 41 [a0, a1, a2, a3, a4] (vI (-3) :: st) μ G := ev_stp pg_213_39 rfl
theorem pg_213_41 : mm_prog 213 41 = some (2, .ireturn, 42, [0]) := by decide +kernel
theorem xe_213_41 (a0 a1 a2 a3 a4 : Option MV) (x : Int) (μ : MM) (G : MG) : ev 213 41 [a0, a1, a2, a3, a4] [vI x] μ G = some (some (vI x), μ, G) := ev_ret pg_213_41 rfl
theorem pg_213_42 : mm_prog 213 42 = some (0, .aload_n 0, 43, []) := by decide +kernel
theorem xe_213_42 (a1 a2 a3 a4 : Option MV) (x : Int) (st : List MV) (μ : MM) (G : MG) : ev 213 42 [some (vR x), a1, a2, a3, a4] st μ G = ev 213 43 [some (vR x), a1, a2, a3, a4] (vR x :: st) μ G := ev_stp pg_213_42 rfl
theorem pg_213_43 : mm_prog 213 43 = some (0, .getfield 81, 46, [11, 37, 2]) := by decide +kernel
theorem xe_213_43 (a0 a1 a2 a3 a4 : Option MV) (x : Int) (st : List MV) (μ : MM) (G : MG) : ev 213 43 [a0, a1, a2, a3, a4] (vR x :: st) μ G = if gk G x = 11 then ev 213 46 [a0, a1, a2, a3, a4] (vR (μ x 37) :: st) μ G else none := ev_if pg_213_43 rfl
theorem pg_213_46 : mm_prog 213 46 = some (0, .iload_n 1, 47, []) := by decide +kernel
theorem xe_213_46 (a0 a2 a3 a4 : Option MV) (x : Int) (st : List MV) (μ : MM) (G : MG) : ev 213 46 [a0, some (vI x), a2, a3, a4] st μ G = ev 213 47 [a0, some (vI x), a2, a3, a4] (vI x :: st) μ G := ev_stp pg_213_46 rfl
theorem pg_213_47 : mm_prog 213 47 = some (0, .iaload, 48, []) := by decide +kernel
theorem xe_213_47 (a0 a1 a2 a3 a4 : Option MV) (x y : Int) (st : List MV) (μ : MM) (G : MG) : ev 213 47 [a0, a1, a2, a3, a4] (vI x :: vR y :: st) μ G = if gk G y = 100 ∧ 0 ≤ x ∧ x < gl G y then ev 213 48 [a0, a1, a2, a3, a4] (vI (μ y x) :: st) μ G else none := ev_if pg_213_47 rfl
theorem pg_213_48 : mm_prog 213 48 = some (0, .istore 4, 50, []) := by decide +kernel
theorem xe_213_48 (a0 a1 a2 a3 a4 : Option MV) (x : Int) (st : List MV) (μ : MM) (G : MG) (h : mm_nL a3 = true) : ev 213 48 [a0, a1, a2, a3, a4] (vI x :: st) μ G = ev 213 50 [a0, a1, a2, a3, some (vI x)] st μ G := ev_st pg_213_48 rfl (mm_nl_of h) (Nat.le_of_ble_eq_true rfl)
theorem pg_213_50 : mm_prog 213 50 = some (0, .aload_n 0, 51, []) := by decide +kernel
theorem xe_213_50 (a1 a2 a3 a4 : Option MV) (x : Int) (st : List MV) (μ : MM) (G : MG) : ev 213 50 [some (vR x), a1, a2, a3, a4] st μ G = ev 213 51 [some (vR x), a1, a2, a3, a4] (vR x :: st) μ G := ev_stp pg_213_50 rfl
theorem pg_213_51 : mm_prog 213 51 = some (0, .getfield 81, 54, [11, 37, 2]) := by decide +kernel
theorem xe_213_51 (a0 a1 a2 a3 a4 : Option MV) (x : Int) (st : List MV) (μ : MM) (G : MG) : ev 213 51 [a0, a1, a2, a3, a4] (vR x :: st) μ G = if gk G x = 11 then ev 213 54 [a0, a1, a2, a3, a4] (vR (μ x 37) :: st) μ G else none := ev_if pg_213_51 rfl
theorem pg_213_54 : mm_prog 213 54 = some (0, .iload_n 1, 55, []) := by decide +kernel
theorem xe_213_54 (a0 a2 a3 a4 : Option MV) (x : Int) (st : List MV) (μ : MM) (G : MG) : ev 213 54 [a0, some (vI x), a2, a3, a4] st μ G = ev 213 55 [a0, some (vI x), a2, a3, a4] (vI x :: st) μ G := ev_stp pg_213_54 rfl
theorem pg_213_55 : mm_prog 213 55 = some (0, .iload_n 2, 56, []) := by decide +kernel
theorem xe_213_55 (a0 a1 a3 a4 : Option MV) (x : Int) (st : List MV) (μ : MM) (G : MG) : ev 213 55 [a0, a1, some (vI x), a3, a4] st μ G = ev 213 56 [a0, a1, some (vI x), a3, a4] (vI x :: st) μ G := ev_stp pg_213_55 rfl
theorem pg_213_56 : mm_prog 213 56 = some (0, .iastore, 57, []) := by decide +kernel
theorem xe_213_56 (a0 a1 a2 a3 a4 : Option MV) (x y z : Int) (st : List MV) (μ : MM) (G : MG) : ev 213 56 [a0, a1, a2, a3, a4] (vI x :: vI y :: vR z :: st) μ G = if gk G z = 100 ∧ 0 ≤ y ∧ y < gl G z ∧ 10 ≤ z then ev 213 57 [a0, a1, a2, a3, a4] st (mset μ z y x) G else none := ev_if pg_213_56 rfl
theorem pg_213_57 : mm_prog 213 57 = some (0, .aload_n 0, 58, []) := by decide +kernel
theorem xe_213_57 (a1 a2 a3 a4 : Option MV) (x : Int) (st : List MV) (μ : MM) (G : MG) : ev 213 57 [some (vR x), a1, a2, a3, a4] st μ G = ev 213 58 [some (vR x), a1, a2, a3, a4] (vR x :: st) μ G := ev_stp pg_213_57 rfl
theorem pg_213_58 : mm_prog 213 58 = some (0, .getfield 84, 61, [11, 38, 2]) := by decide +kernel
theorem xe_213_58 (a0 a1 a2 a3 a4 : Option MV) (x : Int) (st : List MV) (μ : MM) (G : MG) : ev 213 58 [a0, a1, a2, a3, a4] (vR x :: st) μ G = if gk G x = 11 then ev 213 61 [a0, a1, a2, a3, a4] (vR (μ x 38) :: st) μ G else none := ev_if pg_213_58 rfl
theorem pg_213_61 : mm_prog 213 61 = some (0, .iload_n 1, 62, []) := by decide +kernel
theorem xe_213_61 (a0 a2 a3 a4 : Option MV) (x : Int) (st : List MV) (μ : MM) (G : MG) : ev 213 61 [a0, some (vI x), a2, a3, a4] st μ G = ev 213 62 [a0, some (vI x), a2, a3, a4] (vI x :: st) μ G := ev_stp pg_213_61 rfl
theorem pg_213_62 : mm_prog 213 62 = some (0, .iload_n 3, 63, []) := by decide +kernel
theorem xe_213_62 (a0 a1 a2 a4 : Option MV) (x : Int) (st : List MV) (μ : MM) (G : MG) : ev 213 62 [a0, a1, a2, some (vI x), a4] st μ G = ev 213 63 [a0, a1, a2, some (vI x), a4] (vI x :: st) μ G := ev_stp pg_213_62 rfl
theorem pg_213_63 : mm_prog 213 63 = some (0, .iastore, 64, []) := by decide +kernel
theorem xe_213_63 (a0 a1 a2 a3 a4 : Option MV) (x y z : Int) (st : List MV) (μ : MM) (G : MG) : ev 213 63 [a0, a1, a2, a3, a4] (vI x :: vI y :: vR z :: st) μ G = if gk G z = 100 ∧ 0 ≤ y ∧ y < gl G z ∧ 10 ≤ z then ev 213 64 [a0, a1, a2, a3, a4] st (mset μ z y x) G else none := ev_if pg_213_63 rfl
theorem pg_213_64 : mm_prog 213 64 = some (0, .aload_n 0, 65, []) := by decide +kernel
theorem xe_213_64 (a1 a2 a3 a4 : Option MV) (x : Int) (st : List MV) (μ : MM) (G : MG) : ev 213 64 [some (vR x), a1, a2, a3, a4] st μ G = ev 213 65 [some (vR x), a1, a2, a3, a4] (vR x :: st) μ G := ev_stp pg_213_64 rfl
theorem pg_213_65 : mm_prog 213 65 = some (1, .invokevirtual 347, 68, [1, 212, 0, 11]) := by decide +kernel
theorem xe_213_65 (a0 a1 a2 a3 a4 : Option MV) (z : Int) (μ : MM) (G : MG) : ev 213 65 [a0, a1, a2, a3, a4] (vR z :: []) μ G = if gk G z = 11 ∧ 0 < z then (ev 212 0 [some (vR z), none] [] μ G).bind (fun q => ev 213 68 [a0, a1, a2, a3, a4] (q.1.toList ++ []) q.2.1 q.2.2) else none := ev_calV (as := [vR z]) (r := []) mx_212 pg_213_65 rfl rfl (Nat.le_of_ble_eq_true rfl) (Nat.le_of_ble_eq_true rfl)
theorem pg_213_68 : mm_prog 213 68 = some (0, .iload 4, 70, []) := by decide +kernel
theorem xe_213_68 (a0 a1 a2 a3 : Option MV) (x : Int) (st : List MV) (μ : MM) (G : MG) : ev 213 68 [a0, a1, a2, a3, some (vI x)] st μ G = ev 213 70 [a0, a1, a2, a3, some (vI x)] (vI x :: st) μ G := ev_stp pg_213_68 rfl
theorem pg_213_70 : mm_prog 213 70 = some (2, .ireturn, 71, [0]) := by decide +kernel
theorem xe_213_70 (a0 a1 a2 a3 a4 : Option MV) (x : Int) (μ : MM) (G : MG) : ev 213 70 [a0, a1, a2, a3, a4] [vI x] μ G = some (some (vI x), μ, G) := ev_ret pg_213_70 rfl
-- X11_wire
theorem pg_214_0 : mm_prog 214 0 = some (0, .aload_n 0, 1, []) := by decide +kernel
theorem xe_214_0 (a1 a2 : Option MV) (x : Int) (st : List MV) (μ : MM) (G : MG) : ev 214 0 [some (vR x), a1, a2] st μ G = ev 214 1 [some (vR x), a1, a2] (vR x :: st) μ G := ev_stp pg_214_0 rfl
theorem pg_214_1 : mm_prog 214 1 = some (0, .iconst 0, 2, []) := by decide +kernel
theorem xe_214_1 (a0 a1 a2 : Option MV) (st : List MV) (μ : MM) (G : MG) : ev 214 1 [a0, a1, a2] st μ G = ev 214 2 [a0, a1, a2] (vI (0) :: st) μ G := ev_stp pg_214_1 rfl
theorem pg_214_2 : mm_prog 214 2 = some (0, .putfield 1, 5, [11, 0, 0]) := by decide +kernel
theorem xe_214_2 (a0 a1 a2 : Option MV) (x y : Int) (st : List MV) (μ : MM) (G : MG) : ev 214 2 [a0, a1, a2] (vI x :: vR y :: st) μ G = if gk G y = 11 then ev 214 5 [a0, a1, a2] st (mset μ y 0 x) G else none := ev_put0 pg_214_2
theorem pg_214_5 : mm_prog 214 5 = some (0, .iload_n 1, 6, []) := by decide +kernel
theorem xe_214_5 (a0 a2 : Option MV) (x : Int) (st : List MV) (μ : MM) (G : MG) : ev 214 5 [a0, some (vI x), a2] st μ G = ev 214 6 [a0, some (vI x), a2] (vI x :: st) μ G := ev_stp pg_214_5 rfl
theorem pg_214_6 : mm_prog 214 6 = some (0, .iload_n 2, 7, []) := by decide +kernel
theorem xe_214_6 (a0 a1 : Option MV) (x : Int) (st : List MV) (μ : MM) (G : MG) : ev 214 6 [a0, a1, some (vI x)] st μ G = ev 214 7 [a0, a1, some (vI x)] (vI x :: st) μ G := ev_stp pg_214_6 rfl
theorem pg_214_7 : mm_prog 214 7 = some (1, .invokestatic 324, 10, [0, 201, 2, 0]) := by decide +kernel
theorem xe_214_7 (a0 a1 a2 : Option MV) (x0 x1 : Int) (μ : MM) (G : MG) : ev 214 7 [a0, a1, a2] (vI x1 :: vI x0 :: []) μ G = (ev 201 0 [some (vI x0), some (vI x1)] [] μ G).bind (fun q => ev 214 10 [a0, a1, a2] (q.1.toList ++ []) q.2.1 q.2.2) := ev_calS (as := [vI x0, vI x1]) (r := []) mx_201 pg_214_7 rfl rfl (Nat.le_of_ble_eq_true rfl) (Nat.le_of_ble_eq_true rfl)
theorem pg_214_10 : mm_prog 214 10 = some (0, .ifCond .ne 6, 13, []) := by decide +kernel
theorem xe_214_10 (a0 a1 a2 : Option MV) (x : Int) (st : List MV) (μ : MM) (G : MG) : ev 214 10 [a0, a1, a2] (vI x :: st) μ G = if ¬ x = 0 then ev 214 16 [a0, a1, a2] st μ G else ev 214 13 [a0, a1, a2] st μ G := ev_br (mm_cnd_ne x 0) pg_214_10 rfl
theorem pg_214_13 : mm_prog 214 13 = some (0, .bipush (-3), 15, []) := by decide +kernel
theorem xe_214_13 (a0 a1 a2 : Option MV) (st : List MV) (μ : MM) (G : MG) : ev 214 13 [a0, a1, a2] st μ G = ev 214 15 [a0, a1, a2] (vI (-3) :: st) μ G := ev_stp pg_214_13 rfl
theorem pg_214_15 : mm_prog 214 15 = some (2, .ireturn, 16, [0]) := by decide +kernel
theorem xe_214_15 (a0 a1 a2 : Option MV) (x : Int) (μ : MM) (G : MG) : ev 214 15 [a0, a1, a2] [vI x] μ G = some (some (vI x), μ, G) := ev_ret pg_214_15 rfl
theorem pg_214_16 : mm_prog 214 16 = some (0, .aload_n 0, 17, []) := by decide +kernel
theorem xe_214_16 (a1 a2 : Option MV) (x : Int) (st : List MV) (μ : MM) (G : MG) : ev 214 16 [some (vR x), a1, a2] st μ G = ev 214 17 [some (vR x), a1, a2] (vR x :: st) μ G := ev_stp pg_214_16 rfl
theorem pg_214_17 : mm_prog 214 17 = some (0, .iload_n 1, 18, []) := by decide +kernel
theorem xe_214_17 (a0 a2 : Option MV) (x : Int) (st : List MV) (μ : MM) (G : MG) : ev 214 17 [a0, some (vI x), a2] st μ G = ev 214 18 [a0, some (vI x), a2] (vI x :: st) μ G := ev_stp pg_214_17 rfl
theorem pg_214_18 : mm_prog 214 18 = some (0, .putfield 69, 21, [11, 31, 0]) := by decide +kernel
theorem xe_214_18 (a0 a1 a2 : Option MV) (x y : Int) (st : List MV) (μ : MM) (G : MG) : ev 214 18 [a0, a1, a2] (vI x :: vR y :: st) μ G = if gk G y = 11 then ev 214 21 [a0, a1, a2] st (mset μ y 31 x) G else none := ev_put0 pg_214_18
theorem pg_214_21 : mm_prog 214 21 = some (0, .aload_n 0, 22, []) := by decide +kernel
theorem xe_214_21 (a1 a2 : Option MV) (x : Int) (st : List MV) (μ : MM) (G : MG) : ev 214 21 [some (vR x), a1, a2] st μ G = ev 214 22 [some (vR x), a1, a2] (vR x :: st) μ G := ev_stp pg_214_21 rfl
theorem pg_214_22 : mm_prog 214 22 = some (0, .iload_n 2, 23, []) := by decide +kernel
theorem xe_214_22 (a0 a1 : Option MV) (x : Int) (st : List MV) (μ : MM) (G : MG) : ev 214 22 [a0, a1, some (vI x)] st μ G = ev 214 23 [a0, a1, some (vI x)] (vI x :: st) μ G := ev_stp pg_214_22 rfl
theorem pg_214_23 : mm_prog 214 23 = some (0, .putfield 72, 26, [11, 32, 0]) := by decide +kernel
theorem xe_214_23 (a0 a1 a2 : Option MV) (x y : Int) (st : List MV) (μ : MM) (G : MG) : ev 214 23 [a0, a1, a2] (vI x :: vR y :: st) μ G = if gk G y = 11 then ev 214 26 [a0, a1, a2] st (mset μ y 32 x) G else none := ev_put0 pg_214_23
theorem pg_214_26 : mm_prog 214 26 = some (0, .aload_n 0, 27, []) := by decide +kernel
theorem xe_214_26 (a1 a2 : Option MV) (x : Int) (st : List MV) (μ : MM) (G : MG) : ev 214 26 [some (vR x), a1, a2] st μ G = ev 214 27 [some (vR x), a1, a2] (vR x :: st) μ G := ev_stp pg_214_26 rfl
theorem pg_214_27 : mm_prog 214 27 = some (1, .invokevirtual 347, 30, [1, 212, 0, 11]) := by decide +kernel
theorem xe_214_27 (a0 a1 a2 : Option MV) (z : Int) (μ : MM) (G : MG) : ev 214 27 [a0, a1, a2] (vR z :: []) μ G = if gk G z = 11 ∧ 0 < z then (ev 212 0 [some (vR z), none] [] μ G).bind (fun q => ev 214 30 [a0, a1, a2] (q.1.toList ++ []) q.2.1 q.2.2) else none := ev_calV (as := [vR z]) (r := []) mx_212 pg_214_27 rfl rfl (Nat.le_of_ble_eq_true rfl) (Nat.le_of_ble_eq_true rfl)
theorem pg_214_30 : mm_prog 214 30 = some (0, .iload_n 1, 31, []) := by decide +kernel
theorem xe_214_30 (a0 a2 : Option MV) (x : Int) (st : List MV) (μ : MM) (G : MG) : ev 214 30 [a0, some (vI x), a2] st μ G = ev 214 31 [a0, some (vI x), a2] (vI x :: st) μ G := ev_stp pg_214_30 rfl
theorem pg_214_31 : mm_prog 214 31 = some (0, .iload_n 2, 32, []) := by decide +kernel
theorem xe_214_31 (a0 a1 : Option MV) (x : Int) (st : List MV) (μ : MM) (G : MG) : ev 214 31 [a0, a1, some (vI x)] st μ G = ev 214 32 [a0, a1, some (vI x)] (vI x :: st) μ G := ev_stp pg_214_31 rfl
theorem pg_214_32 : mm_prog 214 32 = some (1, .invokestatic 327, 35, [0, 202, 2, 0]) := by decide +kernel
theorem xe_214_32 (a0 a1 a2 : Option MV) (x0 x1 : Int) (μ : MM) (G : MG) : ev 214 32 [a0, a1, a2] (vI x1 :: vI x0 :: []) μ G = (ev 202 0 [some (vI x0), some (vI x1), none] [] μ G).bind (fun q => ev 214 35 [a0, a1, a2] (q.1.toList ++ []) q.2.1 q.2.2) := ev_calS (as := [vI x0, vI x1]) (r := []) mx_202 pg_214_32 rfl rfl (Nat.le_of_ble_eq_true rfl) (Nat.le_of_ble_eq_true rfl)
theorem pg_214_35 : mm_prog 214 35 = some (2, .ireturn, 36, [0]) := by decide +kernel
theorem xe_214_35 (a0 a1 a2 : Option MV) (x : Int) (μ : MM) (G : MG) : ev 214 35 [a0, a1, a2] [vI x] μ G = some (some (vI x), μ, G) := ev_ret pg_214_35 rfl
-- X11_foots
theorem pg_215_0 : mm_prog 215 0 = some (0, .aload_n 0, 1, []) := by decide +kernel
theorem xe_215_0 (a1 : Option MV) (x : Int) (st : List MV) (μ : MM) (G : MG) : ev 215 0 [some (vR x), a1] st μ G = ev 215 1 [some (vR x), a1] (vR x :: st) μ G := ev_stp pg_215_0 rfl
theorem pg_215_1 : mm_prog 215 1 = some (0, .getfield 75, 4, [11, 35, 2]) := by decide +kernel
theorem xe_215_1 (a0 a1 : Option MV) (x : Int) (st : List MV) (μ : MM) (G : MG) : ev 215 1 [a0, a1] (vR x :: st) μ G = if gk G x = 11 then ev 215 4 [a0, a1] (vR (μ x 35) :: st) μ G else none := ev_if pg_215_1 rfl
theorem pg_215_4 : mm_prog 215 4 = some (0, .iconst 0, 5, []) := by decide +kernel
theorem xe_215_4 (a0 a1 : Option MV) (st : List MV) (μ : MM) (G : MG) : ev 215 4 [a0, a1] st μ G = ev 215 5 [a0, a1] (vI (0) :: st) μ G := ev_stp pg_215_4 rfl
theorem pg_215_5 : mm_prog 215 5 = some (0, .iconst 1, 6, []) := by decide +kernel
theorem xe_215_5 (a0 a1 : Option MV) (st : List MV) (μ : MM) (G : MG) : ev 215 5 [a0, a1] st μ G = ev 215 6 [a0, a1] (vI (1) :: st) μ G := ev_stp pg_215_5 rfl
theorem pg_215_6 : mm_prog 215 6 = some (0, .iastore, 7, []) := by decide +kernel
theorem xe_215_6 (a0 a1 : Option MV) (x y z : Int) (st : List MV) (μ : MM) (G : MG) : ev 215 6 [a0, a1] (vI x :: vI y :: vR z :: st) μ G = if gk G z = 100 ∧ 0 ≤ y ∧ y < gl G z ∧ 10 ≤ z then ev 215 7 [a0, a1] st (mset μ z y x) G else none := ev_if pg_215_6 rfl
theorem pg_215_7 : mm_prog 215 7 = some (0, .aload_n 0, 8, []) := by decide +kernel
theorem xe_215_7 (a1 : Option MV) (x : Int) (st : List MV) (μ : MM) (G : MG) : ev 215 7 [some (vR x), a1] st μ G = ev 215 8 [some (vR x), a1] (vR x :: st) μ G := ev_stp pg_215_7 rfl
theorem pg_215_8 : mm_prog 215 8 = some (0, .getfield 75, 11, [11, 35, 2]) := by decide +kernel
theorem xe_215_8 (a0 a1 : Option MV) (x : Int) (st : List MV) (μ : MM) (G : MG) : ev 215 8 [a0, a1] (vR x :: st) μ G = if gk G x = 11 then ev 215 11 [a0, a1] (vR (μ x 35) :: st) μ G else none := ev_if pg_215_8 rfl
theorem pg_215_11 : mm_prog 215 11 = some (0, .iconst 3, 12, []) := by decide +kernel
theorem xe_215_11 (a0 a1 : Option MV) (st : List MV) (μ : MM) (G : MG) : ev 215 11 [a0, a1] st μ G = ev 215 12 [a0, a1] (vI (3) :: st) μ G := ev_stp pg_215_11 rfl
theorem pg_215_12 : mm_prog 215 12 = some (0, .iconst 0, 13, []) := by decide +kernel
theorem xe_215_12 (a0 a1 : Option MV) (st : List MV) (μ : MM) (G : MG) : ev 215 12 [a0, a1] st μ G = ev 215 13 [a0, a1] (vI (0) :: st) μ G := ev_stp pg_215_12 rfl
theorem pg_215_13 : mm_prog 215 13 = some (0, .iastore, 14, []) := by decide +kernel
theorem xe_215_13 (a0 a1 : Option MV) (x y z : Int) (st : List MV) (μ : MM) (G : MG) : ev 215 13 [a0, a1] (vI x :: vI y :: vR z :: st) μ G = if gk G z = 100 ∧ 0 ≤ y ∧ y < gl G z ∧ 10 ≤ z then ev 215 14 [a0, a1] st (mset μ z y x) G else none := ev_if pg_215_13 rfl
theorem pg_215_14 : mm_prog 215 14 = some (0, .aload_n 0, 15, []) := by decide +kernel
theorem xe_215_14 (a1 : Option MV) (x : Int) (st : List MV) (μ : MM) (G : MG) : ev 215 14 [some (vR x), a1] st μ G = ev 215 15 [some (vR x), a1] (vR x :: st) μ G := ev_stp pg_215_14 rfl
theorem pg_215_15 : mm_prog 215 15 = some (0, .getfield 75, 18, [11, 35, 2]) := by decide +kernel
theorem xe_215_15 (a0 a1 : Option MV) (x : Int) (st : List MV) (μ : MM) (G : MG) : ev 215 15 [a0, a1] (vR x :: st) μ G = if gk G x = 11 then ev 215 18 [a0, a1] (vR (μ x 35) :: st) μ G else none := ev_if pg_215_15 rfl
theorem pg_215_18 : mm_prog 215 18 = some (0, .iconst 4, 19, []) := by decide +kernel
theorem xe_215_18 (a0 a1 : Option MV) (st : List MV) (μ : MM) (G : MG) : ev 215 18 [a0, a1] st μ G = ev 215 19 [a0, a1] (vI (4) :: st) μ G := ev_stp pg_215_18 rfl
theorem pg_215_19 : mm_prog 215 19 = some (0, .iconst 0, 20, []) := by decide +kernel
theorem xe_215_19 (a0 a1 : Option MV) (st : List MV) (μ : MM) (G : MG) : ev 215 19 [a0, a1] st μ G = ev 215 20 [a0, a1] (vI (0) :: st) μ G := ev_stp pg_215_19 rfl
theorem pg_215_20 : mm_prog 215 20 = some (0, .iastore, 21, []) := by decide +kernel
theorem xe_215_20 (a0 a1 : Option MV) (x y z : Int) (st : List MV) (μ : MM) (G : MG) : ev 215 20 [a0, a1] (vI x :: vI y :: vR z :: st) μ G = if gk G z = 100 ∧ 0 ≤ y ∧ y < gl G z ∧ 10 ≤ z then ev 215 21 [a0, a1] st (mset μ z y x) G else none := ev_if pg_215_20 rfl
theorem pg_215_21 : mm_prog 215 21 = some (0, .aload_n 0, 22, []) := by decide +kernel
theorem xe_215_21 (a1 : Option MV) (x : Int) (st : List MV) (μ : MM) (G : MG) : ev 215 21 [some (vR x), a1] st μ G = ev 215 22 [some (vR x), a1] (vR x :: st) μ G := ev_stp pg_215_21 rfl
theorem pg_215_22 : mm_prog 215 22 = some (0, .getfield 75, 25, [11, 35, 2]) := by decide +kernel
theorem xe_215_22 (a0 a1 : Option MV) (x : Int) (st : List MV) (μ : MM) (G : MG) : ev 215 22 [a0, a1] (vR x :: st) μ G = if gk G x = 11 then ev 215 25 [a0, a1] (vR (μ x 35) :: st) μ G else none := ev_if pg_215_22 rfl
theorem pg_215_25 : mm_prog 215 25 = some (0, .iconst 5, 26, []) := by decide +kernel
theorem xe_215_25 (a0 a1 : Option MV) (st : List MV) (μ : MM) (G : MG) : ev 215 25 [a0, a1] st μ G = ev 215 26 [a0, a1] (vI (5) :: st) μ G := ev_stp pg_215_25 rfl
theorem pg_215_26 : mm_prog 215 26 = some (0, .iconst 0, 27, []) := by decide +kernel
theorem xe_215_26 (a0 a1 : Option MV) (st : List MV) (μ : MM) (G : MG) : ev 215 26 [a0, a1] st μ G = ev 215 27 [a0, a1] (vI (0) :: st) μ G := ev_stp pg_215_26 rfl
theorem pg_215_27 : mm_prog 215 27 = some (0, .iastore, 28, []) := by decide +kernel
theorem xe_215_27 (a0 a1 : Option MV) (x y z : Int) (st : List MV) (μ : MM) (G : MG) : ev 215 27 [a0, a1] (vI x :: vI y :: vR z :: st) μ G = if gk G z = 100 ∧ 0 ≤ y ∧ y < gl G z ∧ 10 ≤ z then ev 215 28 [a0, a1] st (mset μ z y x) G else none := ev_if pg_215_27 rfl
theorem pg_215_28 : mm_prog 215 28 = some (0, .bipush 8, 30, []) := by decide +kernel
theorem xe_215_28 (a0 a1 : Option MV) (st : List MV) (μ : MM) (G : MG) : ev 215 28 [a0, a1] st μ G = ev 215 30 [a0, a1] (vI (8) :: st) μ G := ev_stp pg_215_28 rfl
theorem pg_215_30 : mm_prog 215 30 = some (0, .istore_n 1, 31, []) := by decide +kernel
theorem xe_215_30 (a0 a1 : Option MV) (x : Int) (st : List MV) (μ : MM) (G : MG) (h : mm_nL a0 = true) : ev 215 30 [a0, a1] (vI x :: st) μ G = ev 215 31 [a0, some (vI x)] st μ G := ev_st pg_215_30 rfl (mm_nl_of h) (Nat.le_of_ble_eq_true rfl)
theorem pg_215_31 : mm_prog 215 31 = some (0, .iload_n 1, 32, []) := by decide +kernel
theorem xe_215_31 (a0 : Option MV) (x : Int) (st : List MV) (μ : MM) (G : MG) : ev 215 31 [a0, some (vI x)] st μ G = ev 215 32 [a0, some (vI x)] (vI x :: st) μ G := ev_stp pg_215_31 rfl
theorem pg_215_32 : mm_prog 215 32 = some (0, .bipush 24, 34, []) := by decide +kernel
theorem xe_215_32 (a0 a1 : Option MV) (st : List MV) (μ : MM) (G : MG) : ev 215 32 [a0, a1] st μ G = ev 215 34 [a0, a1] (vI (24) :: st) μ G := ev_stp pg_215_32 rfl
theorem pg_215_34 : mm_prog 215 34 = some (0, .if_icmp .ge 16, 37, []) := by decide +kernel
theorem xe_215_34 (a0 a1 : Option MV) (x y : Int) (st : List MV) (μ : MM) (G : MG) : ev 215 34 [a0, a1] (vI y :: vI x :: st) μ G = if y ≤ x then ev 215 50 [a0, a1] st μ G else ev 215 37 [a0, a1] st μ G := ev_br (mm_cnd_ge x y) pg_215_34 rfl
theorem pg_215_37 : mm_prog 215 37 = some (0, .aload_n 0, 38, []) := by decide +kernel
theorem xe_215_37 (a1 : Option MV) (x : Int) (st : List MV) (μ : MM) (G : MG) : ev 215 37 [some (vR x), a1] st μ G = ev 215 38 [some (vR x), a1] (vR x :: st) μ G := ev_stp pg_215_37 rfl
theorem pg_215_38 : mm_prog 215 38 = some (0, .getfield 75, 41, [11, 35, 2]) := by decide +kernel
theorem xe_215_38 (a0 a1 : Option MV) (x : Int) (st : List MV) (μ : MM) (G : MG) : ev 215 38 [a0, a1] (vR x :: st) μ G = if gk G x = 11 then ev 215 41 [a0, a1] (vR (μ x 35) :: st) μ G else none := ev_if pg_215_38 rfl
theorem pg_215_41 : mm_prog 215 41 = some (0, .iload_n 1, 42, []) := by decide +kernel
theorem xe_215_41 (a0 : Option MV) (x : Int) (st : List MV) (μ : MM) (G : MG) : ev 215 41 [a0, some (vI x)] st μ G = ev 215 42 [a0, some (vI x)] (vI x :: st) μ G := ev_stp pg_215_41 rfl
theorem pg_215_42 : mm_prog 215 42 = some (0, .iconst 0, 43, []) := by decide +kernel
theorem xe_215_42 (a0 a1 : Option MV) (st : List MV) (μ : MM) (G : MG) : ev 215 42 [a0, a1] st μ G = ev 215 43 [a0, a1] (vI (0) :: st) μ G := ev_stp pg_215_42 rfl
theorem pg_215_43 : mm_prog 215 43 = some (0, .iastore, 44, []) := by decide +kernel
theorem xe_215_43 (a0 a1 : Option MV) (x y z : Int) (st : List MV) (μ : MM) (G : MG) : ev 215 43 [a0, a1] (vI x :: vI y :: vR z :: st) μ G = if gk G z = 100 ∧ 0 ≤ y ∧ y < gl G z ∧ 10 ≤ z then ev 215 44 [a0, a1] st (mset μ z y x) G else none := ev_if pg_215_43 rfl
theorem pg_215_44 : mm_prog 215 44 = some (0, .iinc 1 1, 47, []) := by decide +kernel
theorem xe_215_44 (a0 : Option MV) (x : Int) (st : List MV) (μ : MM) (G : MG) (h : mm_nL a0 = true) : ev 215 44 [a0, some (vI x)] st μ G = ev 215 47 [a0, some (vI (w32 (x + (1))))] st μ G := ev_st pg_215_44 rfl (mm_nl_of h) (Nat.le_of_ble_eq_true rfl)
theorem pg_215_47 : mm_prog 215 47 = some (0, .goto (-16), 50, []) := by decide +kernel
theorem xe_215_47 (a0 a1 : Option MV) (st : List MV) (μ : MM) (G : MG) : ev 215 47 [a0, a1] st μ G = ev 215 31 [a0, a1] st μ G := ev_stp pg_215_47 rfl
theorem pg_215_50 : mm_prog 215 50 = some (2, .return_, 51, []) := by decide +kernel
theorem xe_215_50 (a0 a1 : Option MV) (μ : MM) (G : MG) : ev 215 50 [a0, a1] [] μ G = some (none, μ, G) := ev_ret pg_215_50 rfl
-- X11_begins
theorem pg_216_0 : mm_prog 216 0 = some (0, .aload_n 0, 1, []) := by decide +kernel
theorem xe_216_0 (x : Int) (st : List MV) (μ : MM) (G : MG) : ev 216 0 [some (vR x)] st μ G = ev 216 1 [some (vR x)] (vR x :: st) μ G := ev_stp pg_216_0 rfl
theorem pg_216_1 : mm_prog 216 1 = some (1, .invokevirtual 347, 4, [1, 212, 0, 11]) := by decide +kernel
theorem xe_216_1 (a0 : Option MV) (z : Int) (μ : MM) (G : MG) : ev 216 1 [a0] (vR z :: []) μ G = if gk G z = 11 ∧ 0 < z then (ev 212 0 [some (vR z), none] [] μ G).bind (fun q => ev 216 4 [a0] (q.1.toList ++ []) q.2.1 q.2.2) else none := ev_calV (as := [vR z]) (r := []) mx_212 pg_216_1 rfl rfl (Nat.le_of_ble_eq_true rfl) (Nat.le_of_ble_eq_true rfl)
theorem pg_216_4 : mm_prog 216 4 = some (0, .aload_n 0, 5, []) := by decide +kernel
theorem xe_216_4 (x : Int) (st : List MV) (μ : MM) (G : MG) : ev 216 4 [some (vR x)] st μ G = ev 216 5 [some (vR x)] (vR x :: st) μ G := ev_stp pg_216_4 rfl
theorem pg_216_5 : mm_prog 216 5 = some (0, .getfield 75, 8, [11, 35, 2]) := by decide +kernel
theorem xe_216_5 (a0 : Option MV) (x : Int) (st : List MV) (μ : MM) (G : MG) : ev 216 5 [a0] (vR x :: st) μ G = if gk G x = 11 then ev 216 8 [a0] (vR (μ x 35) :: st) μ G else none := ev_if pg_216_5 rfl
theorem pg_216_8 : mm_prog 216 8 = some (0, .iconst 1, 9, []) := by decide +kernel
theorem xe_216_8 (a0 : Option MV) (st : List MV) (μ : MM) (G : MG) : ev 216 8 [a0] st μ G = ev 216 9 [a0] (vI (1) :: st) μ G := ev_stp pg_216_8 rfl
theorem pg_216_9 : mm_prog 216 9 = some (0, .aload_n 0, 10, []) := by decide +kernel
theorem xe_216_9 (x : Int) (st : List MV) (μ : MM) (G : MG) : ev 216 9 [some (vR x)] st μ G = ev 216 10 [some (vR x)] (vR x :: st) μ G := ev_stp pg_216_9 rfl
theorem pg_216_10 : mm_prog 216 10 = some (0, .getfield 69, 13, [11, 31, 0]) := by decide +kernel
theorem xe_216_10 (a0 : Option MV) (x : Int) (st : List MV) (μ : MM) (G : MG) : ev 216 10 [a0] (vR x :: st) μ G = if gk G x = 11 then ev 216 13 [a0] (vI (μ x 31) :: st) μ G else none := ev_if pg_216_10 rfl
theorem pg_216_13 : mm_prog 216 13 = some (0, .iastore, 14, []) := by decide +kernel
theorem xe_216_13 (a0 : Option MV) (x y z : Int) (st : List MV) (μ : MM) (G : MG) : ev 216 13 [a0] (vI x :: vI y :: vR z :: st) μ G = if gk G z = 100 ∧ 0 ≤ y ∧ y < gl G z ∧ 10 ≤ z then ev 216 14 [a0] st (mset μ z y x) G else none := ev_if pg_216_13 rfl
theorem pg_216_14 : mm_prog 216 14 = some (0, .aload_n 0, 15, []) := by decide +kernel
theorem xe_216_14 (x : Int) (st : List MV) (μ : MM) (G : MG) : ev 216 14 [some (vR x)] st μ G = ev 216 15 [some (vR x)] (vR x :: st) μ G := ev_stp pg_216_14 rfl
theorem pg_216_15 : mm_prog 216 15 = some (0, .getfield 75, 18, [11, 35, 2]) := by decide +kernel
theorem xe_216_15 (a0 : Option MV) (x : Int) (st : List MV) (μ : MM) (G : MG) : ev 216 15 [a0] (vR x :: st) μ G = if gk G x = 11 then ev 216 18 [a0] (vR (μ x 35) :: st) μ G else none := ev_if pg_216_15 rfl
theorem pg_216_18 : mm_prog 216 18 = some (0, .iconst 2, 19, []) := by decide +kernel
theorem xe_216_18 (a0 : Option MV) (st : List MV) (μ : MM) (G : MG) : ev 216 18 [a0] st μ G = ev 216 19 [a0] (vI (2) :: st) μ G := ev_stp pg_216_18 rfl
theorem pg_216_19 : mm_prog 216 19 = some (0, .aload_n 0, 20, []) := by decide +kernel
theorem xe_216_19 (x : Int) (st : List MV) (μ : MM) (G : MG) : ev 216 19 [some (vR x)] st μ G = ev 216 20 [some (vR x)] (vR x :: st) μ G := ev_stp pg_216_19 rfl
theorem pg_216_20 : mm_prog 216 20 = some (0, .getfield 72, 23, [11, 32, 0]) := by decide +kernel
theorem xe_216_20 (a0 : Option MV) (x : Int) (st : List MV) (μ : MM) (G : MG) : ev 216 20 [a0] (vR x :: st) μ G = if gk G x = 11 then ev 216 23 [a0] (vI (μ x 32) :: st) μ G else none := ev_if pg_216_20 rfl
theorem pg_216_23 : mm_prog 216 23 = some (0, .iastore, 24, []) := by decide +kernel
theorem xe_216_23 (a0 : Option MV) (x y z : Int) (st : List MV) (μ : MM) (G : MG) : ev 216 23 [a0] (vI x :: vI y :: vR z :: st) μ G = if gk G z = 100 ∧ 0 ≤ y ∧ y < gl G z ∧ 10 ≤ z then ev 216 24 [a0] st (mset μ z y x) G else none := ev_if pg_216_23 rfl
theorem pg_216_24 : mm_prog 216 24 = some (0, .aload_n 0, 25, []) := by decide +kernel
theorem xe_216_24 (x : Int) (st : List MV) (μ : MM) (G : MG) : ev 216 24 [some (vR x)] st μ G = ev 216 25 [some (vR x)] (vR x :: st) μ G := ev_stp pg_216_24 rfl
theorem pg_216_25 : mm_prog 216 25 = some (1, .invokevirtual 350, 28, [1, 215, 0, 11]) := by decide +kernel
theorem xe_216_25 (a0 : Option MV) (z : Int) (μ : MM) (G : MG) : ev 216 25 [a0] (vR z :: []) μ G = if gk G z = 11 ∧ 0 < z then (ev 215 0 [some (vR z), none] [] μ G).bind (fun q => ev 216 28 [a0] (q.1.toList ++ []) q.2.1 q.2.2) else none := ev_calV (as := [vR z]) (r := []) mx_215 pg_216_25 rfl rfl (Nat.le_of_ble_eq_true rfl) (Nat.le_of_ble_eq_true rfl)
theorem pg_216_28 : mm_prog 216 28 = some (2, .return_, 29, []) := by decide +kernel
theorem xe_216_28 (a0 : Option MV) (μ : MM) (G : MG) : ev 216 28 [a0] [] μ G = some (none, μ, G) := ev_ret pg_216_28 rfl
-- X11_begin
theorem pg_217_0 : mm_prog 217 0 = some (0, .aload_n 0, 1, []) := by decide +kernel
theorem xe_217_0 (x : Int) (st : List MV) (μ : MM) (G : MG) : ev 217 0 [some (vR x)] st μ G = ev 217 1 [some (vR x)] (vR x :: st) μ G := ev_stp pg_217_0 rfl
theorem pg_217_1 : mm_prog 217 1 = some (0, .iconst 0, 2, []) := by decide +kernel
theorem xe_217_1 (a0 : Option MV) (st : List MV) (μ : MM) (G : MG) : ev 217 1 [a0] st μ G = ev 217 2 [a0] (vI (0) :: st) μ G := ev_stp pg_217_1 rfl
theorem pg_217_2 : mm_prog 217 2 = some (0, .putfield 1, 5, [11, 0, 0]) := by decide +kernel
theorem xe_217_2 (a0 : Option MV) (x y : Int) (st : List MV) (μ : MM) (G : MG) : ev 217 2 [a0] (vI x :: vR y :: st) μ G = if gk G y = 11 then ev 217 5 [a0] st (mset μ y 0 x) G else none := ev_put0 pg_217_2
theorem pg_217_5 : mm_prog 217 5 = some (0, .aload_n 0, 6, []) := by decide +kernel
theorem xe_217_5 (x : Int) (st : List MV) (μ : MM) (G : MG) : ev 217 5 [some (vR x)] st μ G = ev 217 6 [some (vR x)] (vR x :: st) μ G := ev_stp pg_217_5 rfl
theorem pg_217_6 : mm_prog 217 6 = some (1, .invokevirtual 353, 9, [1, 216, 0, 11]) := by decide +kernel
theorem xe_217_6 (a0 : Option MV) (z : Int) (μ : MM) (G : MG) : ev 217 6 [a0] (vR z :: []) μ G = if gk G z = 11 ∧ 0 < z then (ev 216 0 [some (vR z)] [] μ G).bind (fun q => ev 217 9 [a0] (q.1.toList ++ []) q.2.1 q.2.2) else none := ev_calV (as := [vR z]) (r := []) mx_216 pg_217_6 rfl rfl (Nat.le_of_ble_eq_true rfl) (Nat.le_of_ble_eq_true rfl)
theorem pg_217_9 : mm_prog 217 9 = some (0, .aload_n 0, 10, []) := by decide +kernel
theorem xe_217_9 (x : Int) (st : List MV) (μ : MM) (G : MG) : ev 217 9 [some (vR x)] st μ G = ev 217 10 [some (vR x)] (vR x :: st) μ G := ev_stp pg_217_9 rfl
theorem pg_217_10 : mm_prog 217 10 = some (0, .getfield 69, 13, [11, 31, 0]) := by decide +kernel
theorem xe_217_10 (a0 : Option MV) (x : Int) (st : List MV) (μ : MM) (G : MG) : ev 217 10 [a0] (vR x :: st) μ G = if gk G x = 11 then ev 217 13 [a0] (vI (μ x 31) :: st) μ G else none := ev_if pg_217_10 rfl
theorem pg_217_13 : mm_prog 217 13 = some (0, .aload_n 0, 14, []) := by decide +kernel
theorem xe_217_13 (x : Int) (st : List MV) (μ : MM) (G : MG) : ev 217 13 [some (vR x)] st μ G = ev 217 14 [some (vR x)] (vR x :: st) μ G := ev_stp pg_217_13 rfl
theorem pg_217_14 : mm_prog 217 14 = some (0, .getfield 72, 17, [11, 32, 0]) := by decide +kernel
theorem xe_217_14 (a0 : Option MV) (x : Int) (st : List MV) (μ : MM) (G : MG) : ev 217 14 [a0] (vR x :: st) μ G = if gk G x = 11 then ev 217 17 [a0] (vI (μ x 32) :: st) μ G else none := ev_if pg_217_14 rfl
theorem pg_217_17 : mm_prog 217 17 = some (1, .invokestatic 327, 20, [0, 202, 2, 0]) := by decide +kernel
theorem xe_217_17 (a0 : Option MV) (x0 x1 : Int) (μ : MM) (G : MG) : ev 217 17 [a0] (vI x1 :: vI x0 :: []) μ G = (ev 202 0 [some (vI x0), some (vI x1), none] [] μ G).bind (fun q => ev 217 20 [a0] (q.1.toList ++ []) q.2.1 q.2.2) := ev_calS (as := [vI x0, vI x1]) (r := []) mx_202 pg_217_17 rfl rfl (Nat.le_of_ble_eq_true rfl) (Nat.le_of_ble_eq_true rfl)
theorem pg_217_20 : mm_prog 217 20 = some (2, .ireturn, 21, [0]) := by decide +kernel
theorem xe_217_20 (a0 : Option MV) (x : Int) (μ : MM) (G : MG) : ev 217 20 [a0] [vI x] μ G = some (some (vI x), μ, G) := ev_ret pg_217_20 rfl
-- X11_wantsSwing
theorem pg_218_0 : mm_prog 218 0 = some (0, .iconst 5, 1, []) := by decide +kernel
theorem xe_218_0 (a0 a1 : Option MV) (st : List MV) (μ : MM) (G : MG) : ev 218 0 [a0, a1] st μ G = ev 218 1 [a0, a1] (vI (5) :: st) μ G := ev_stp pg_218_0 rfl
theorem pg_218_1 : mm_prog 218 1 = some (0, .aload_n 0, 2, []) := by decide +kernel
theorem xe_218_1 (a1 : Option MV) (x : Int) (st : List MV) (μ : MM) (G : MG) : ev 218 1 [some (vR x), a1] st μ G = ev 218 2 [some (vR x), a1] (vR x :: st) μ G := ev_stp pg_218_1 rfl
theorem pg_218_2 : mm_prog 218 2 = some (0, .getfield 75, 5, [11, 35, 2]) := by decide +kernel
theorem xe_218_2 (a0 a1 : Option MV) (x : Int) (st : List MV) (μ : MM) (G : MG) : ev 218 2 [a0, a1] (vR x :: st) μ G = if gk G x = 11 then ev 218 5 [a0, a1] (vR (μ x 35) :: st) μ G else none := ev_if pg_218_2 rfl
theorem pg_218_5 : mm_prog 218 5 = some (0, .bipush 8, 7, []) := by decide +kernel
theorem xe_218_5 (a0 a1 : Option MV) (st : List MV) (μ : MM) (G : MG) : ev 218 5 [a0, a1] st μ G = ev 218 7 [a0, a1] (vI (8) :: st) μ G := ev_stp pg_218_5 rfl
theorem pg_218_7 : mm_prog 218 7 = some (0, .iload_n 1, 8, []) := by decide +kernel
theorem xe_218_7 (a0 : Option MV) (x : Int) (st : List MV) (μ : MM) (G : MG) : ev 218 7 [a0, some (vI x)] st μ G = ev 218 8 [a0, some (vI x)] (vI x :: st) μ G := ev_stp pg_218_7 rfl
theorem pg_218_8 : mm_prog 218 8 = some (0, .iadd, 9, []) := by decide +kernel
theorem xe_218_8 (a0 a1 : Option MV) (x y : Int) (st : List MV) (μ : MM) (G : MG) : ev 218 8 [a0, a1] (vI y :: vI x :: st) μ G = ev 218 9 [a0, a1] (vI (w32 (x + y)) :: st) μ G := ev_stp pg_218_8 rfl
theorem pg_218_9 : mm_prog 218 9 = some (0, .iaload, 10, []) := by decide +kernel
theorem xe_218_9 (a0 a1 : Option MV) (x y : Int) (st : List MV) (μ : MM) (G : MG) : ev 218 9 [a0, a1] (vI x :: vR y :: st) μ G = if gk G y = 100 ∧ 0 ≤ x ∧ x < gl G y then ev 218 10 [a0, a1] (vI (μ y x) :: st) μ G else none := ev_if pg_218_9 rfl
theorem pg_218_10 : mm_prog 218 10 = some (0, .imul, 11, []) := by decide +kernel
theorem xe_218_10 (a0 a1 : Option MV) (x y : Int) (st : List MV) (μ : MM) (G : MG) : ev 218 10 [a0, a1] (vI y :: vI x :: st) μ G = ev 218 11 [a0, a1] (vI (w32 (x * y)) :: st) μ G := ev_stp pg_218_10 rfl
theorem pg_218_11 : mm_prog 218 11 = some (0, .bipush 14, 13, []) := by decide +kernel
theorem xe_218_11 (a0 a1 : Option MV) (st : List MV) (μ : MM) (G : MG) : ev 218 11 [a0, a1] st μ G = ev 218 13 [a0, a1] (vI (14) :: st) μ G := ev_stp pg_218_11 rfl
theorem pg_218_13 : mm_prog 218 13 = some (0, .iadd, 14, []) := by decide +kernel
theorem xe_218_13 (a0 a1 : Option MV) (x y : Int) (st : List MV) (μ : MM) (G : MG) : ev 218 13 [a0, a1] (vI y :: vI x :: st) μ G = ev 218 14 [a0, a1] (vI (w32 (x + y)) :: st) μ G := ev_stp pg_218_13 rfl
theorem pg_218_14 : mm_prog 218 14 = some (0, .aload_n 0, 15, []) := by decide +kernel
theorem xe_218_14 (a1 : Option MV) (x : Int) (st : List MV) (μ : MM) (G : MG) : ev 218 14 [some (vR x), a1] st μ G = ev 218 15 [some (vR x), a1] (vR x :: st) μ G := ev_stp pg_218_14 rfl
theorem pg_218_15 : mm_prog 218 15 = some (0, .getfield 81, 18, [11, 37, 2]) := by decide +kernel
theorem xe_218_15 (a0 a1 : Option MV) (x : Int) (st : List MV) (μ : MM) (G : MG) : ev 218 15 [a0, a1] (vR x :: st) μ G = if gk G x = 11 then ev 218 18 [a0, a1] (vR (μ x 37) :: st) μ G else none := ev_if pg_218_15 rfl
theorem pg_218_18 : mm_prog 218 18 = some (0, .iload_n 1, 19, []) := by decide +kernel
theorem xe_218_18 (a0 : Option MV) (x : Int) (st : List MV) (μ : MM) (G : MG) : ev 218 18 [a0, some (vI x)] st μ G = ev 218 19 [a0, some (vI x)] (vI x :: st) μ G := ev_stp pg_218_18 rfl
theorem pg_218_19 : mm_prog 218 19 = some (0, .iaload, 20, []) := by decide +kernel
theorem xe_218_19 (a0 a1 : Option MV) (x y : Int) (st : List MV) (μ : MM) (G : MG) : ev 218 19 [a0, a1] (vI x :: vR y :: st) μ G = if gk G y = 100 ∧ 0 ≤ x ∧ x < gl G y then ev 218 20 [a0, a1] (vI (μ y x) :: st) μ G else none := ev_if pg_218_19 rfl
theorem pg_218_20 : mm_prog 218 20 = some (0, .iconst 2, 21, []) := by decide +kernel
theorem xe_218_20 (a0 a1 : Option MV) (st : List MV) (μ : MM) (G : MG) : ev 218 20 [a0, a1] st μ G = ev 218 21 [a0, a1] (vI (2) :: st) μ G := ev_stp pg_218_20 rfl
theorem pg_218_21 : mm_prog 218 21 = some (0, .aload_n 0, 22, []) := by decide +kernel
theorem xe_218_21 (a1 : Option MV) (x : Int) (st : List MV) (μ : MM) (G : MG) : ev 218 21 [some (vR x), a1] st μ G = ev 218 22 [some (vR x), a1] (vR x :: st) μ G := ev_stp pg_218_21 rfl
theorem pg_218_22 : mm_prog 218 22 = some (0, .getfield 75, 25, [11, 35, 2]) := by decide +kernel
theorem xe_218_22 (a0 a1 : Option MV) (x : Int) (st : List MV) (μ : MM) (G : MG) : ev 218 22 [a0, a1] (vR x :: st) μ G = if gk G x = 11 then ev 218 25 [a0, a1] (vR (μ x 35) :: st) μ G else none := ev_if pg_218_22 rfl
theorem pg_218_25 : mm_prog 218 25 = some (0, .iconst 2, 26, []) := by decide +kernel
theorem xe_218_25 (a0 a1 : Option MV) (st : List MV) (μ : MM) (G : MG) : ev 218 25 [a0, a1] st μ G = ev 218 26 [a0, a1] (vI (2) :: st) μ G := ev_stp pg_218_25 rfl
theorem pg_218_26 : mm_prog 218 26 = some (0, .iaload, 27, []) := by decide +kernel
theorem xe_218_26 (a0 a1 : Option MV) (x y : Int) (st : List MV) (μ : MM) (G : MG) : ev 218 26 [a0, a1] (vI x :: vR y :: st) μ G = if gk G y = 100 ∧ 0 ≤ x ∧ x < gl G y then ev 218 27 [a0, a1] (vI (μ y x) :: st) μ G else none := ev_if pg_218_26 rfl
theorem pg_218_27 : mm_prog 218 27 = some (0, .imul, 28, []) := by decide +kernel
theorem xe_218_27 (a0 a1 : Option MV) (x y : Int) (st : List MV) (μ : MM) (G : MG) : ev 218 27 [a0, a1] (vI y :: vI x :: st) μ G = ev 218 28 [a0, a1] (vI (w32 (x * y)) :: st) μ G := ev_stp pg_218_27 rfl
theorem pg_218_28 : mm_prog 218 28 = some (0, .iadd, 29, []) := by decide +kernel
theorem xe_218_28 (a0 a1 : Option MV) (x y : Int) (st : List MV) (μ : MM) (G : MG) : ev 218 28 [a0, a1] (vI y :: vI x :: st) μ G = ev 218 29 [a0, a1] (vI (w32 (x + y)) :: st) μ G := ev_stp pg_218_28 rfl
theorem pg_218_29 : mm_prog 218 29 = some (0, .if_icmp .ge 7, 32, []) := by decide +kernel
theorem xe_218_29 (a0 a1 : Option MV) (x y : Int) (st : List MV) (μ : MM) (G : MG) : ev 218 29 [a0, a1] (vI y :: vI x :: st) μ G = if y ≤ x then ev 218 36 [a0, a1] st μ G else ev 218 32 [a0, a1] st μ G := ev_br (mm_cnd_ge x y) pg_218_29 rfl
theorem pg_218_32 : mm_prog 218 32 = some (0, .iconst 1, 33, []) := by decide +kernel
theorem xe_218_32 (a0 a1 : Option MV) (st : List MV) (μ : MM) (G : MG) : ev 218 32 [a0, a1] st μ G = ev 218 33 [a0, a1] (vI (1) :: st) μ G := ev_stp pg_218_32 rfl
theorem pg_218_33 : mm_prog 218 33 = some (0, .goto 4, 36, []) := by decide +kernel
theorem xe_218_33 (a0 a1 : Option MV) (st : List MV) (μ : MM) (G : MG) : ev 218 33 [a0, a1] st μ G = ev 218 37 [a0, a1] st μ G := ev_stp pg_218_33 rfl
theorem pg_218_36 : mm_prog 218 36 = some (0, .iconst 0, 37, []) := by decide +kernel
theorem xe_218_36 (a0 a1 : Option MV) (st : List MV) (μ : MM) (G : MG) : ev 218 36 [a0, a1] st μ G = ev 218 37 [a0, a1] (vI (0) :: st) μ G := ev_stp pg_218_36 rfl
theorem pg_218_37 : mm_prog 218 37 = some (2, .ireturn, 38, [1]) := by decide +kernel
theorem xe_218_37 (a0 a1 : Option MV) (x : Int) (μ : MM) (G : MG) : ev 218 37 [a0, a1] [vI x] μ G = if x = 0 ∨ x = 1 then some (some (vI x), μ, G) else none := ev_retB pg_218_37
-- X11_wantsEmphasis
theorem pg_219_0 : mm_prog 219 0 = some (0, .iconst 3, 1, []) := by decide +kernel
theorem xe_219_0 (a0 a1 : Option MV) (st : List MV) (μ : MM) (G : MG) : ev 219 0 [a0, a1] st μ G = ev 219 1 [a0, a1] (vI (3) :: st) μ G := ev_stp pg_219_0 rfl
theorem pg_219_1 : mm_prog 219 1 = some (0, .aload_n 0, 2, []) := by decide +kernel
theorem xe_219_1 (a1 : Option MV) (x : Int) (st : List MV) (μ : MM) (G : MG) : ev 219 1 [some (vR x), a1] st μ G = ev 219 2 [some (vR x), a1] (vR x :: st) μ G := ev_stp pg_219_1 rfl
theorem pg_219_2 : mm_prog 219 2 = some (0, .getfield 75, 5, [11, 35, 2]) := by decide +kernel
theorem xe_219_2 (a0 a1 : Option MV) (x : Int) (st : List MV) (μ : MM) (G : MG) : ev 219 2 [a0, a1] (vR x :: st) μ G = if gk G x = 11 then ev 219 5 [a0, a1] (vR (μ x 35) :: st) μ G else none := ev_if pg_219_2 rfl
theorem pg_219_5 : mm_prog 219 5 = some (0, .bipush 12, 7, []) := by decide +kernel
theorem xe_219_5 (a0 a1 : Option MV) (st : List MV) (μ : MM) (G : MG) : ev 219 5 [a0, a1] st μ G = ev 219 7 [a0, a1] (vI (12) :: st) μ G := ev_stp pg_219_5 rfl
theorem pg_219_7 : mm_prog 219 7 = some (0, .iload_n 1, 8, []) := by decide +kernel
theorem xe_219_7 (a0 : Option MV) (x : Int) (st : List MV) (μ : MM) (G : MG) : ev 219 7 [a0, some (vI x)] st μ G = ev 219 8 [a0, some (vI x)] (vI x :: st) μ G := ev_stp pg_219_7 rfl
theorem pg_219_8 : mm_prog 219 8 = some (0, .iadd, 9, []) := by decide +kernel
theorem xe_219_8 (a0 a1 : Option MV) (x y : Int) (st : List MV) (μ : MM) (G : MG) : ev 219 8 [a0, a1] (vI y :: vI x :: st) μ G = ev 219 9 [a0, a1] (vI (w32 (x + y)) :: st) μ G := ev_stp pg_219_8 rfl
theorem pg_219_9 : mm_prog 219 9 = some (0, .iaload, 10, []) := by decide +kernel
theorem xe_219_9 (a0 a1 : Option MV) (x y : Int) (st : List MV) (μ : MM) (G : MG) : ev 219 9 [a0, a1] (vI x :: vR y :: st) μ G = if gk G y = 100 ∧ 0 ≤ x ∧ x < gl G y then ev 219 10 [a0, a1] (vI (μ y x) :: st) μ G else none := ev_if pg_219_9 rfl
theorem pg_219_10 : mm_prog 219 10 = some (0, .imul, 11, []) := by decide +kernel
theorem xe_219_10 (a0 a1 : Option MV) (x y : Int) (st : List MV) (μ : MM) (G : MG) : ev 219 10 [a0, a1] (vI y :: vI x :: st) μ G = ev 219 11 [a0, a1] (vI (w32 (x * y)) :: st) μ G := ev_stp pg_219_10 rfl
theorem pg_219_11 : mm_prog 219 11 = some (0, .bipush 8, 13, []) := by decide +kernel
theorem xe_219_11 (a0 a1 : Option MV) (st : List MV) (μ : MM) (G : MG) : ev 219 11 [a0, a1] st μ G = ev 219 13 [a0, a1] (vI (8) :: st) μ G := ev_stp pg_219_11 rfl
theorem pg_219_13 : mm_prog 219 13 = some (0, .iadd, 14, []) := by decide +kernel
theorem xe_219_13 (a0 a1 : Option MV) (x y : Int) (st : List MV) (μ : MM) (G : MG) : ev 219 13 [a0, a1] (vI y :: vI x :: st) μ G = ev 219 14 [a0, a1] (vI (w32 (x + y)) :: st) μ G := ev_stp pg_219_13 rfl
theorem pg_219_14 : mm_prog 219 14 = some (0, .aload_n 0, 15, []) := by decide +kernel
theorem xe_219_14 (a1 : Option MV) (x : Int) (st : List MV) (μ : MM) (G : MG) : ev 219 14 [some (vR x), a1] st μ G = ev 219 15 [some (vR x), a1] (vR x :: st) μ G := ev_stp pg_219_14 rfl
theorem pg_219_15 : mm_prog 219 15 = some (0, .getfield 81, 18, [11, 37, 2]) := by decide +kernel
theorem xe_219_15 (a0 a1 : Option MV) (x : Int) (st : List MV) (μ : MM) (G : MG) : ev 219 15 [a0, a1] (vR x :: st) μ G = if gk G x = 11 then ev 219 18 [a0, a1] (vR (μ x 37) :: st) μ G else none := ev_if pg_219_15 rfl
theorem pg_219_18 : mm_prog 219 18 = some (0, .iload_n 1, 19, []) := by decide +kernel
theorem xe_219_18 (a0 : Option MV) (x : Int) (st : List MV) (μ : MM) (G : MG) : ev 219 18 [a0, some (vI x)] st μ G = ev 219 19 [a0, some (vI x)] (vI x :: st) μ G := ev_stp pg_219_18 rfl
theorem pg_219_19 : mm_prog 219 19 = some (0, .iaload, 20, []) := by decide +kernel
theorem xe_219_19 (a0 a1 : Option MV) (x y : Int) (st : List MV) (μ : MM) (G : MG) : ev 219 19 [a0, a1] (vI x :: vR y :: st) μ G = if gk G y = 100 ∧ 0 ≤ x ∧ x < gl G y then ev 219 20 [a0, a1] (vI (μ y x) :: st) μ G else none := ev_if pg_219_19 rfl
theorem pg_219_20 : mm_prog 219 20 = some (0, .iconst 2, 21, []) := by decide +kernel
theorem xe_219_20 (a0 a1 : Option MV) (st : List MV) (μ : MM) (G : MG) : ev 219 20 [a0, a1] st μ G = ev 219 21 [a0, a1] (vI (2) :: st) μ G := ev_stp pg_219_20 rfl
theorem pg_219_21 : mm_prog 219 21 = some (0, .idiv, 22, []) := by decide +kernel
theorem xe_219_21 (a0 a1 : Option MV) (x y : Int) (st : List MV) (μ : MM) (G : MG) : ev 219 21 [a0, a1] (vI y :: vI x :: st) μ G = if y = 0 then none else ev 219 22 [a0, a1] (vI (mm_div x y) :: st) μ G := ev_no pg_219_21 rfl
theorem pg_219_22 : mm_prog 219 22 = some (0, .iconst 5, 23, []) := by decide +kernel
theorem xe_219_22 (a0 a1 : Option MV) (st : List MV) (μ : MM) (G : MG) : ev 219 22 [a0, a1] st μ G = ev 219 23 [a0, a1] (vI (5) :: st) μ G := ev_stp pg_219_22 rfl
theorem pg_219_23 : mm_prog 219 23 = some (0, .aload_n 0, 24, []) := by decide +kernel
theorem xe_219_23 (a1 : Option MV) (x : Int) (st : List MV) (μ : MM) (G : MG) : ev 219 23 [some (vR x), a1] st μ G = ev 219 24 [some (vR x), a1] (vR x :: st) μ G := ev_stp pg_219_23 rfl
theorem pg_219_24 : mm_prog 219 24 = some (0, .getfield 75, 27, [11, 35, 2]) := by decide +kernel
theorem xe_219_24 (a0 a1 : Option MV) (x : Int) (st : List MV) (μ : MM) (G : MG) : ev 219 24 [a0, a1] (vR x :: st) μ G = if gk G x = 11 then ev 219 27 [a0, a1] (vR (μ x 35) :: st) μ G else none := ev_if pg_219_24 rfl
theorem pg_219_27 : mm_prog 219 27 = some (0, .iconst 2, 28, []) := by decide +kernel
theorem xe_219_27 (a0 a1 : Option MV) (st : List MV) (μ : MM) (G : MG) : ev 219 27 [a0, a1] st μ G = ev 219 28 [a0, a1] (vI (2) :: st) μ G := ev_stp pg_219_27 rfl
theorem pg_219_28 : mm_prog 219 28 = some (0, .iaload, 29, []) := by decide +kernel
theorem xe_219_28 (a0 a1 : Option MV) (x y : Int) (st : List MV) (μ : MM) (G : MG) : ev 219 28 [a0, a1] (vI x :: vR y :: st) μ G = if gk G y = 100 ∧ 0 ≤ x ∧ x < gl G y then ev 219 29 [a0, a1] (vI (μ y x) :: st) μ G else none := ev_if pg_219_28 rfl
theorem pg_219_29 : mm_prog 219 29 = some (0, .imul, 30, []) := by decide +kernel
theorem xe_219_29 (a0 a1 : Option MV) (x y : Int) (st : List MV) (μ : MM) (G : MG) : ev 219 29 [a0, a1] (vI y :: vI x :: st) μ G = ev 219 30 [a0, a1] (vI (w32 (x * y)) :: st) μ G := ev_stp pg_219_29 rfl
theorem pg_219_30 : mm_prog 219 30 = some (0, .iadd, 31, []) := by decide +kernel
theorem xe_219_30 (a0 a1 : Option MV) (x y : Int) (st : List MV) (μ : MM) (G : MG) : ev 219 30 [a0, a1] (vI y :: vI x :: st) μ G = ev 219 31 [a0, a1] (vI (w32 (x + y)) :: st) μ G := ev_stp pg_219_30 rfl
theorem pg_219_31 : mm_prog 219 31 = some (0, .if_icmp .ge 7, 34, []) := by decide +kernel
theorem xe_219_31 (a0 a1 : Option MV) (x y : Int) (st : List MV) (μ : MM) (G : MG) : ev 219 31 [a0, a1] (vI y :: vI x :: st) μ G = if y ≤ x then ev 219 38 [a0, a1] st μ G else ev 219 34 [a0, a1] st μ G := ev_br (mm_cnd_ge x y) pg_219_31 rfl
theorem pg_219_34 : mm_prog 219 34 = some (0, .iconst 1, 35, []) := by decide +kernel
theorem xe_219_34 (a0 a1 : Option MV) (st : List MV) (μ : MM) (G : MG) : ev 219 34 [a0, a1] st μ G = ev 219 35 [a0, a1] (vI (1) :: st) μ G := ev_stp pg_219_34 rfl
theorem pg_219_35 : mm_prog 219 35 = some (0, .goto 4, 38, []) := by decide +kernel
theorem xe_219_35 (a0 a1 : Option MV) (st : List MV) (μ : MM) (G : MG) : ev 219 35 [a0, a1] st μ G = ev 219 39 [a0, a1] st μ G := ev_stp pg_219_35 rfl
theorem pg_219_38 : mm_prog 219 38 = some (0, .iconst 0, 39, []) := by decide +kernel
theorem xe_219_38 (a0 a1 : Option MV) (st : List MV) (μ : MM) (G : MG) : ev 219 38 [a0, a1] st μ G = ev 219 39 [a0, a1] (vI (0) :: st) μ G := ev_stp pg_219_38 rfl
theorem pg_219_39 : mm_prog 219 39 = some (2, .ireturn, 40, [1]) := by decide +kernel
theorem xe_219_39 (a0 a1 : Option MV) (x : Int) (μ : MM) (G : MG) : ev 219 39 [a0, a1] [vI x] μ G = if x = 0 ∨ x = 1 then some (some (vI x), μ, G) else none := ev_retB pg_219_39
-- X11_falls
theorem pg_220_0 : mm_prog 220 0 = some (0, .bipush 24, 2, []) := by decide +kernel
theorem xe_220_0 (a0 a1 a2 a3 a4 : Option MV) (st : List MV) (μ : MM) (G : MG) : ev 220 0 [a0, a1, a2, a3, a4] st μ G = ev 220 2 [a0, a1, a2, a3, a4] (vI (24) :: st) μ G := ev_stp pg_220_0 rfl
theorem pg_220_2 : mm_prog 220 2 = some (0, .iconst 4, 3, []) := by decide +kernel
theorem xe_220_2 (a0 a1 a2 a3 a4 : Option MV) (st : List MV) (μ : MM) (G : MG) : ev 220 2 [a0, a1, a2, a3, a4] st μ G = ev 220 3 [a0, a1, a2, a3, a4] (vI (4) :: st) μ G := ev_stp pg_220_2 rfl
theorem pg_220_3 : mm_prog 220 3 = some (0, .aload_n 0, 4, []) := by decide +kernel
theorem xe_220_3 (a1 a2 a3 a4 : Option MV) (x : Int) (st : List MV) (μ : MM) (G : MG) : ev 220 3 [some (vR x), a1, a2, a3, a4] st μ G = ev 220 4 [some (vR x), a1, a2, a3, a4] (vR x :: st) μ G := ev_stp pg_220_3 rfl
theorem pg_220_4 : mm_prog 220 4 = some (0, .getfield 75, 7, [11, 35, 2]) := by decide +kernel
theorem xe_220_4 (a0 a1 a2 a3 a4 : Option MV) (x : Int) (st : List MV) (μ : MM) (G : MG) : ev 220 4 [a0, a1, a2, a3, a4] (vR x :: st) μ G = if gk G x = 11 then ev 220 7 [a0, a1, a2, a3, a4] (vR (μ x 35) :: st) μ G else none := ev_if pg_220_4 rfl
theorem pg_220_7 : mm_prog 220 7 = some (0, .bipush 7, 9, []) := by decide +kernel
theorem xe_220_7 (a0 a1 a2 a3 a4 : Option MV) (st : List MV) (μ : MM) (G : MG) : ev 220 7 [a0, a1, a2, a3, a4] st μ G = ev 220 9 [a0, a1, a2, a3, a4] (vI (7) :: st) μ G := ev_stp pg_220_7 rfl
theorem pg_220_9 : mm_prog 220 9 = some (0, .iaload, 10, []) := by decide +kernel
theorem xe_220_9 (a0 a1 a2 a3 a4 : Option MV) (x y : Int) (st : List MV) (μ : MM) (G : MG) : ev 220 9 [a0, a1, a2, a3, a4] (vI x :: vR y :: st) μ G = if gk G y = 100 ∧ 0 ≤ x ∧ x < gl G y then ev 220 10 [a0, a1, a2, a3, a4] (vI (μ y x) :: st) μ G else none := ev_if pg_220_9 rfl
theorem pg_220_10 : mm_prog 220 10 = some (0, .imul, 11, []) := by decide +kernel
theorem xe_220_10 (a0 a1 a2 a3 a4 : Option MV) (x y : Int) (st : List MV) (μ : MM) (G : MG) : ev 220 10 [a0, a1, a2, a3, a4] (vI y :: vI x :: st) μ G = ev 220 11 [a0, a1, a2, a3, a4] (vI (w32 (x * y)) :: st) μ G := ev_stp pg_220_10 rfl
theorem pg_220_11 : mm_prog 220 11 = some (0, .iadd, 12, []) := by decide +kernel
theorem xe_220_11 (a0 a1 a2 a3 a4 : Option MV) (x y : Int) (st : List MV) (μ : MM) (G : MG) : ev 220 11 [a0, a1, a2, a3, a4] (vI y :: vI x :: st) μ G = ev 220 12 [a0, a1, a2, a3, a4] (vI (w32 (x + y)) :: st) μ G := ev_stp pg_220_11 rfl
theorem pg_220_12 : mm_prog 220 12 = some (0, .istore_n 2, 13, []) := by decide +kernel
theorem xe_220_12 (a0 a1 a2 a3 a4 : Option MV) (x : Int) (st : List MV) (μ : MM) (G : MG) (h : mm_nL a1 = true) : ev 220 12 [a0, a1, a2, a3, a4] (vI x :: st) μ G = ev 220 13 [a0, a1, some (vI x), a3, a4] st μ G := ev_st pg_220_12 rfl (mm_nl_of h) (Nat.le_of_ble_eq_true rfl)
theorem pg_220_13 : mm_prog 220 13 = some (0, .aload_n 0, 14, []) := by decide +kernel
theorem xe_220_13 (a1 a2 a3 a4 : Option MV) (x : Int) (st : List MV) (μ : MM) (G : MG) : ev 220 13 [some (vR x), a1, a2, a3, a4] st μ G = ev 220 14 [some (vR x), a1, a2, a3, a4] (vR x :: st) μ G := ev_stp pg_220_13 rfl
theorem pg_220_14 : mm_prog 220 14 = some (0, .iload_n 1, 15, []) := by decide +kernel
theorem xe_220_14 (a0 a2 a3 a4 : Option MV) (x : Int) (st : List MV) (μ : MM) (G : MG) : ev 220 14 [a0, some (vI x), a2, a3, a4] st μ G = ev 220 15 [a0, some (vI x), a2, a3, a4] (vI x :: st) μ G := ev_stp pg_220_14 rfl
theorem pg_220_15 : mm_prog 220 15 = some (0, .putfield 356, 18, [11, 44, 0]) := by decide +kernel
theorem xe_220_15 (a0 a1 a2 a3 a4 : Option MV) (x y : Int) (st : List MV) (μ : MM) (G : MG) : ev 220 15 [a0, a1, a2, a3, a4] (vI x :: vR y :: st) μ G = if gk G y = 11 then ev 220 18 [a0, a1, a2, a3, a4] st (mset μ y 44 x) G else none := ev_put0 pg_220_15
theorem pg_220_18 : mm_prog 220 18 = some (0, .aload_n 0, 19, []) := by decide +kernel
theorem xe_220_18 (a1 a2 a3 a4 : Option MV) (x : Int) (st : List MV) (μ : MM) (G : MG) : ev 220 18 [some (vR x), a1, a2, a3, a4] st μ G = ev 220 19 [some (vR x), a1, a2, a3, a4] (vR x :: st) μ G := ev_stp pg_220_18 rfl
theorem pg_220_19 : mm_prog 220 19 = some (0, .getfield 75, 22, [11, 35, 2]) := by decide +kernel
theorem xe_220_19 (a0 a1 a2 a3 a4 : Option MV) (x : Int) (st : List MV) (μ : MM) (G : MG) : ev 220 19 [a0, a1, a2, a3, a4] (vR x :: st) μ G = if gk G x = 11 then ev 220 22 [a0, a1, a2, a3, a4] (vR (μ x 35) :: st) μ G else none := ev_if pg_220_19 rfl
theorem pg_220_22 : mm_prog 220 22 = some (0, .iload_n 2, 23, []) := by decide +kernel
theorem xe_220_22 (a0 a1 a3 a4 : Option MV) (x : Int) (st : List MV) (μ : MM) (G : MG) : ev 220 22 [a0, a1, some (vI x), a3, a4] st μ G = ev 220 23 [a0, a1, some (vI x), a3, a4] (vI x :: st) μ G := ev_stp pg_220_22 rfl
theorem pg_220_23 : mm_prog 220 23 = some (0, .iload_n 1, 24, []) := by decide +kernel
theorem xe_220_23 (a0 a2 a3 a4 : Option MV) (x : Int) (st : List MV) (μ : MM) (G : MG) : ev 220 23 [a0, some (vI x), a2, a3, a4] st μ G = ev 220 24 [a0, some (vI x), a2, a3, a4] (vI x :: st) μ G := ev_stp pg_220_23 rfl
theorem pg_220_24 : mm_prog 220 24 = some (0, .iastore, 25, []) := by decide +kernel
theorem xe_220_24 (a0 a1 a2 a3 a4 : Option MV) (x y z : Int) (st : List MV) (μ : MM) (G : MG) : ev 220 24 [a0, a1, a2, a3, a4] (vI x :: vI y :: vR z :: st) μ G = if gk G z = 100 ∧ 0 ≤ y ∧ y < gl G z ∧ 10 ≤ z then ev 220 25 [a0, a1, a2, a3, a4] st (mset μ z y x) G else none := ev_if pg_220_24 rfl
theorem pg_220_25 : mm_prog 220 25 = some (0, .aload_n 0, 26, []) := by decide +kernel
theorem xe_220_25 (a1 a2 a3 a4 : Option MV) (x : Int) (st : List MV) (μ : MM) (G : MG) : ev 220 25 [some (vR x), a1, a2, a3, a4] st μ G = ev 220 26 [some (vR x), a1, a2, a3, a4] (vR x :: st) μ G := ev_stp pg_220_25 rfl
theorem pg_220_26 : mm_prog 220 26 = some (0, .getfield 75, 29, [11, 35, 2]) := by decide +kernel
theorem xe_220_26 (a0 a1 a2 a3 a4 : Option MV) (x : Int) (st : List MV) (μ : MM) (G : MG) : ev 220 26 [a0, a1, a2, a3, a4] (vR x :: st) μ G = if gk G x = 11 then ev 220 29 [a0, a1, a2, a3, a4] (vR (μ x 35) :: st) μ G else none := ev_if pg_220_26 rfl
theorem pg_220_29 : mm_prog 220 29 = some (0, .iload_n 2, 30, []) := by decide +kernel
theorem xe_220_29 (a0 a1 a3 a4 : Option MV) (x : Int) (st : List MV) (μ : MM) (G : MG) : ev 220 29 [a0, a1, some (vI x), a3, a4] st μ G = ev 220 30 [a0, a1, some (vI x), a3, a4] (vI x :: st) μ G := ev_stp pg_220_29 rfl
theorem pg_220_30 : mm_prog 220 30 = some (0, .iconst 1, 31, []) := by decide +kernel
theorem xe_220_30 (a0 a1 a2 a3 a4 : Option MV) (st : List MV) (μ : MM) (G : MG) : ev 220 30 [a0, a1, a2, a3, a4] st μ G = ev 220 31 [a0, a1, a2, a3, a4] (vI (1) :: st) μ G := ev_stp pg_220_30 rfl
theorem pg_220_31 : mm_prog 220 31 = some (0, .iadd, 32, []) := by decide +kernel
theorem xe_220_31 (a0 a1 a2 a3 a4 : Option MV) (x y : Int) (st : List MV) (μ : MM) (G : MG) : ev 220 31 [a0, a1, a2, a3, a4] (vI y :: vI x :: st) μ G = ev 220 32 [a0, a1, a2, a3, a4] (vI (w32 (x + y)) :: st) μ G := ev_stp pg_220_31 rfl
theorem pg_220_32 : mm_prog 220 32 = some (0, .aload_n 0, 33, []) := by decide +kernel
theorem xe_220_32 (a1 a2 a3 a4 : Option MV) (x : Int) (st : List MV) (μ : MM) (G : MG) : ev 220 32 [some (vR x), a1, a2, a3, a4] st μ G = ev 220 33 [some (vR x), a1, a2, a3, a4] (vR x :: st) μ G := ev_stp pg_220_32 rfl
theorem pg_220_33 : mm_prog 220 33 = some (0, .getfield 75, 36, [11, 35, 2]) := by decide +kernel
theorem xe_220_33 (a0 a1 a2 a3 a4 : Option MV) (x : Int) (st : List MV) (μ : MM) (G : MG) : ev 220 33 [a0, a1, a2, a3, a4] (vR x :: st) μ G = if gk G x = 11 then ev 220 36 [a0, a1, a2, a3, a4] (vR (μ x 35) :: st) μ G else none := ev_if pg_220_33 rfl
theorem pg_220_36 : mm_prog 220 36 = some (0, .iconst 1, 37, []) := by decide +kernel
theorem xe_220_36 (a0 a1 a2 a3 a4 : Option MV) (st : List MV) (μ : MM) (G : MG) : ev 220 36 [a0, a1, a2, a3, a4] st μ G = ev 220 37 [a0, a1, a2, a3, a4] (vI (1) :: st) μ G := ev_stp pg_220_36 rfl
theorem pg_220_37 : mm_prog 220 37 = some (0, .iaload, 38, []) := by decide +kernel
theorem xe_220_37 (a0 a1 a2 a3 a4 : Option MV) (x y : Int) (st : List MV) (μ : MM) (G : MG) : ev 220 37 [a0, a1, a2, a3, a4] (vI x :: vR y :: st) μ G = if gk G y = 100 ∧ 0 ≤ x ∧ x < gl G y then ev 220 38 [a0, a1, a2, a3, a4] (vI (μ y x) :: st) μ G else none := ev_if pg_220_37 rfl
theorem pg_220_38 : mm_prog 220 38 = some (0, .iastore, 39, []) := by decide +kernel
theorem xe_220_38 (a0 a1 a2 a3 a4 : Option MV) (x y z : Int) (st : List MV) (μ : MM) (G : MG) : ev 220 38 [a0, a1, a2, a3, a4] (vI x :: vI y :: vR z :: st) μ G = if gk G z = 100 ∧ 0 ≤ y ∧ y < gl G z ∧ 10 ≤ z then ev 220 39 [a0, a1, a2, a3, a4] st (mset μ z y x) G else none := ev_if pg_220_38 rfl
theorem pg_220_39 : mm_prog 220 39 = some (0, .aload_n 0, 40, []) := by decide +kernel
theorem xe_220_39 (a1 a2 a3 a4 : Option MV) (x : Int) (st : List MV) (μ : MM) (G : MG) : ev 220 39 [some (vR x), a1, a2, a3, a4] st μ G = ev 220 40 [some (vR x), a1, a2, a3, a4] (vR x :: st) μ G := ev_stp pg_220_39 rfl
theorem pg_220_40 : mm_prog 220 40 = some (0, .getfield 75, 43, [11, 35, 2]) := by decide +kernel
theorem xe_220_40 (a0 a1 a2 a3 a4 : Option MV) (x : Int) (st : List MV) (μ : MM) (G : MG) : ev 220 40 [a0, a1, a2, a3, a4] (vR x :: st) μ G = if gk G x = 11 then ev 220 43 [a0, a1, a2, a3, a4] (vR (μ x 35) :: st) μ G else none := ev_if pg_220_40 rfl
theorem pg_220_43 : mm_prog 220 43 = some (0, .iload_n 2, 44, []) := by decide +kernel
theorem xe_220_43 (a0 a1 a3 a4 : Option MV) (x : Int) (st : List MV) (μ : MM) (G : MG) : ev 220 43 [a0, a1, some (vI x), a3, a4] st μ G = ev 220 44 [a0, a1, some (vI x), a3, a4] (vI x :: st) μ G := ev_stp pg_220_43 rfl
theorem pg_220_44 : mm_prog 220 44 = some (0, .iconst 2, 45, []) := by decide +kernel
theorem xe_220_44 (a0 a1 a2 a3 a4 : Option MV) (st : List MV) (μ : MM) (G : MG) : ev 220 44 [a0, a1, a2, a3, a4] st μ G = ev 220 45 [a0, a1, a2, a3, a4] (vI (2) :: st) μ G := ev_stp pg_220_44 rfl
theorem pg_220_45 : mm_prog 220 45 = some (0, .iadd, 46, []) := by decide +kernel
theorem xe_220_45 (a0 a1 a2 a3 a4 : Option MV) (x y : Int) (st : List MV) (μ : MM) (G : MG) : ev 220 45 [a0, a1, a2, a3, a4] (vI y :: vI x :: st) μ G = ev 220 46 [a0, a1, a2, a3, a4] (vI (w32 (x + y)) :: st) μ G := ev_stp pg_220_45 rfl
theorem pg_220_46 : mm_prog 220 46 = some (0, .aload_n 0, 47, []) := by decide +kernel
theorem xe_220_46 (a1 a2 a3 a4 : Option MV) (x : Int) (st : List MV) (μ : MM) (G : MG) : ev 220 46 [some (vR x), a1, a2, a3, a4] st μ G = ev 220 47 [some (vR x), a1, a2, a3, a4] (vR x :: st) μ G := ev_stp pg_220_46 rfl
theorem pg_220_47 : mm_prog 220 47 = some (0, .getfield 75, 50, [11, 35, 2]) := by decide +kernel
theorem xe_220_47 (a0 a1 a2 a3 a4 : Option MV) (x : Int) (st : List MV) (μ : MM) (G : MG) : ev 220 47 [a0, a1, a2, a3, a4] (vR x :: st) μ G = if gk G x = 11 then ev 220 50 [a0, a1, a2, a3, a4] (vR (μ x 35) :: st) μ G else none := ev_if pg_220_47 rfl
theorem pg_220_50 : mm_prog 220 50 = some (0, .iconst 2, 51, []) := by decide +kernel
theorem xe_220_50 (a0 a1 a2 a3 a4 : Option MV) (st : List MV) (μ : MM) (G : MG) : ev 220 50 [a0, a1, a2, a3, a4] st μ G = ev 220 51 [a0, a1, a2, a3, a4] (vI (2) :: st) μ G := ev_stp pg_220_50 rfl
theorem pg_220_51 : mm_prog 220 51 = some (0, .iaload, 52, []) := by decide +kernel
theorem xe_220_51 (a0 a1 a2 a3 a4 : Option MV) (x y : Int) (st : List MV) (μ : MM) (G : MG) : ev 220 51 [a0, a1, a2, a3, a4] (vI x :: vR y :: st) μ G = if gk G y = 100 ∧ 0 ≤ x ∧ x < gl G y then ev 220 52 [a0, a1, a2, a3, a4] (vI (μ y x) :: st) μ G else none := ev_if pg_220_51 rfl
theorem pg_220_52 : mm_prog 220 52 = some (0, .iastore, 53, []) := by decide +kernel
theorem xe_220_52 (a0 a1 a2 a3 a4 : Option MV) (x y z : Int) (st : List MV) (μ : MM) (G : MG) : ev 220 52 [a0, a1, a2, a3, a4] (vI x :: vI y :: vR z :: st) μ G = if gk G z = 100 ∧ 0 ≤ y ∧ y < gl G z ∧ 10 ≤ z then ev 220 53 [a0, a1, a2, a3, a4] st (mset μ z y x) G else none := ev_if pg_220_52 rfl
theorem pg_220_53 : mm_prog 220 53 = some (0, .aload_n 0, 54, []) := by decide +kernel
theorem xe_220_53 (a1 a2 a3 a4 : Option MV) (x : Int) (st : List MV) (μ : MM) (G : MG) : ev 220 53 [some (vR x), a1, a2, a3, a4] st μ G = ev 220 54 [some (vR x), a1, a2, a3, a4] (vR x :: st) μ G := ev_stp pg_220_53 rfl
theorem pg_220_54 : mm_prog 220 54 = some (0, .getfield 75, 57, [11, 35, 2]) := by decide +kernel
theorem xe_220_54 (a0 a1 a2 a3 a4 : Option MV) (x : Int) (st : List MV) (μ : MM) (G : MG) : ev 220 54 [a0, a1, a2, a3, a4] (vR x :: st) μ G = if gk G x = 11 then ev 220 57 [a0, a1, a2, a3, a4] (vR (μ x 35) :: st) μ G else none := ev_if pg_220_54 rfl
theorem pg_220_57 : mm_prog 220 57 = some (0, .iload_n 2, 58, []) := by decide +kernel
theorem xe_220_57 (a0 a1 a3 a4 : Option MV) (x : Int) (st : List MV) (μ : MM) (G : MG) : ev 220 57 [a0, a1, some (vI x), a3, a4] st μ G = ev 220 58 [a0, a1, some (vI x), a3, a4] (vI x :: st) μ G := ev_stp pg_220_57 rfl
theorem pg_220_58 : mm_prog 220 58 = some (0, .iconst 3, 59, []) := by decide +kernel
theorem xe_220_58 (a0 a1 a2 a3 a4 : Option MV) (st : List MV) (μ : MM) (G : MG) : ev 220 58 [a0, a1, a2, a3, a4] st μ G = ev 220 59 [a0, a1, a2, a3, a4] (vI (3) :: st) μ G := ev_stp pg_220_58 rfl
theorem pg_220_59 : mm_prog 220 59 = some (0, .iadd, 60, []) := by decide +kernel
theorem xe_220_59 (a0 a1 a2 a3 a4 : Option MV) (x y : Int) (st : List MV) (μ : MM) (G : MG) : ev 220 59 [a0, a1, a2, a3, a4] (vI y :: vI x :: st) μ G = ev 220 60 [a0, a1, a2, a3, a4] (vI (w32 (x + y)) :: st) μ G := ev_stp pg_220_59 rfl
theorem pg_220_60 : mm_prog 220 60 = some (0, .aload_n 0, 61, []) := by decide +kernel
theorem xe_220_60 (a1 a2 a3 a4 : Option MV) (x : Int) (st : List MV) (μ : MM) (G : MG) : ev 220 60 [some (vR x), a1, a2, a3, a4] st μ G = ev 220 61 [some (vR x), a1, a2, a3, a4] (vR x :: st) μ G := ev_stp pg_220_60 rfl
theorem pg_220_61 : mm_prog 220 61 = some (0, .getfield 75, 64, [11, 35, 2]) := by decide +kernel
theorem xe_220_61 (a0 a1 a2 a3 a4 : Option MV) (x : Int) (st : List MV) (μ : MM) (G : MG) : ev 220 61 [a0, a1, a2, a3, a4] (vR x :: st) μ G = if gk G x = 11 then ev 220 64 [a0, a1, a2, a3, a4] (vR (μ x 35) :: st) μ G else none := ev_if pg_220_61 rfl
theorem pg_220_64 : mm_prog 220 64 = some (0, .iconst 0, 65, []) := by decide +kernel
theorem xe_220_64 (a0 a1 a2 a3 a4 : Option MV) (st : List MV) (μ : MM) (G : MG) : ev 220 64 [a0, a1, a2, a3, a4] st μ G = ev 220 65 [a0, a1, a2, a3, a4] (vI (0) :: st) μ G := ev_stp pg_220_64 rfl
theorem pg_220_65 : mm_prog 220 65 = some (0, .iaload, 66, []) := by decide +kernel
theorem xe_220_65 (a0 a1 a2 a3 a4 : Option MV) (x y : Int) (st : List MV) (μ : MM) (G : MG) : ev 220 65 [a0, a1, a2, a3, a4] (vI x :: vR y :: st) μ G = if gk G y = 100 ∧ 0 ≤ x ∧ x < gl G y then ev 220 66 [a0, a1, a2, a3, a4] (vI (μ y x) :: st) μ G else none := ev_if pg_220_65 rfl
theorem pg_220_66 : mm_prog 220 66 = some (0, .iconst 1, 67, []) := by decide +kernel
theorem xe_220_66 (a0 a1 a2 a3 a4 : Option MV) (st : List MV) (μ : MM) (G : MG) : ev 220 66 [a0, a1, a2, a3, a4] st μ G = ev 220 67 [a0, a1, a2, a3, a4] (vI (1) :: st) μ G := ev_stp pg_220_66 rfl
theorem pg_220_67 : mm_prog 220 67 = some (0, .if_icmp .ne 12, 70, []) := by decide +kernel
theorem xe_220_67 (a0 a1 a2 a3 a4 : Option MV) (x y : Int) (st : List MV) (μ : MM) (G : MG) : ev 220 67 [a0, a1, a2, a3, a4] (vI y :: vI x :: st) μ G = if ¬ x = y then ev 220 79 [a0, a1, a2, a3, a4] st μ G else ev 220 70 [a0, a1, a2, a3, a4] st μ G := ev_br (mm_cnd_ne x y) pg_220_67 rfl
theorem pg_220_70 : mm_prog 220 70 = some (0, .aload_n 0, 71, []) := by decide +kernel
theorem xe_220_70 (a1 a2 a3 a4 : Option MV) (x : Int) (st : List MV) (μ : MM) (G : MG) : ev 220 70 [some (vR x), a1, a2, a3, a4] st μ G = ev 220 71 [some (vR x), a1, a2, a3, a4] (vR x :: st) μ G := ev_stp pg_220_70 rfl
theorem pg_220_71 : mm_prog 220 71 = some (0, .getfield 75, 74, [11, 35, 2]) := by decide +kernel
theorem xe_220_71 (a0 a1 a2 a3 a4 : Option MV) (x : Int) (st : List MV) (μ : MM) (G : MG) : ev 220 71 [a0, a1, a2, a3, a4] (vR x :: st) μ G = if gk G x = 11 then ev 220 74 [a0, a1, a2, a3, a4] (vR (μ x 35) :: st) μ G else none := ev_if pg_220_71 rfl
theorem pg_220_74 : mm_prog 220 74 = some (0, .iconst 3, 75, []) := by decide +kernel
theorem xe_220_74 (a0 a1 a2 a3 a4 : Option MV) (st : List MV) (μ : MM) (G : MG) : ev 220 74 [a0, a1, a2, a3, a4] st μ G = ev 220 75 [a0, a1, a2, a3, a4] (vI (3) :: st) μ G := ev_stp pg_220_74 rfl
theorem pg_220_75 : mm_prog 220 75 = some (0, .iaload, 76, []) := by decide +kernel
theorem xe_220_75 (a0 a1 a2 a3 a4 : Option MV) (x y : Int) (st : List MV) (μ : MM) (G : MG) : ev 220 75 [a0, a1, a2, a3, a4] (vI x :: vR y :: st) μ G = if gk G y = 100 ∧ 0 ≤ x ∧ x < gl G y then ev 220 76 [a0, a1, a2, a3, a4] (vI (μ y x) :: st) μ G else none := ev_if pg_220_75 rfl
theorem pg_220_76 : mm_prog 220 76 = some (0, .goto 9, 79, []) := by decide +kernel
theorem xe_220_76 (a0 a1 a2 a3 a4 : Option MV) (st : List MV) (μ : MM) (G : MG) : ev 220 76 [a0, a1, a2, a3, a4] st μ G = ev 220 85 [a0, a1, a2, a3, a4] st μ G := ev_stp pg_220_76 rfl
theorem pg_220_79 : mm_prog 220 79 = some (0, .aload_n 0, 80, []) := by decide +kernel
theorem xe_220_79 (a1 a2 a3 a4 : Option MV) (x : Int) (st : List MV) (μ : MM) (G : MG) : ev 220 79 [some (vR x), a1, a2, a3, a4] st μ G = ev 220 80 [some (vR x), a1, a2, a3, a4] (vR x :: st) μ G := ev_stp pg_220_79 rfl
theorem pg_220_80 : mm_prog 220 80 = some (0, .getfield 75, 83, [11, 35, 2]) := by decide +kernel
theorem xe_220_80 (a0 a1 a2 a3 a4 : Option MV) (x : Int) (st : List MV) (μ : MM) (G : MG) : ev 220 80 [a0, a1, a2, a3, a4] (vR x :: st) μ G = if gk G x = 11 then ev 220 83 [a0, a1, a2, a3, a4] (vR (μ x 35) :: st) μ G else none := ev_if pg_220_80 rfl
theorem pg_220_83 : mm_prog 220 83 = some (0, .iconst 5, 84, []) := by decide +kernel
theorem xe_220_83 (a0 a1 a2 a3 a4 : Option MV) (st : List MV) (μ : MM) (G : MG) : ev 220 83 [a0, a1, a2, a3, a4] st μ G = ev 220 84 [a0, a1, a2, a3, a4] (vI (5) :: st) μ G := ev_stp pg_220_83 rfl
theorem pg_220_84 : mm_prog 220 84 = some (0, .iaload, 85, []) := by decide +kernel
theorem xe_220_84 (a0 a1 a2 a3 a4 : Option MV) (x y : Int) (st : List MV) (μ : MM) (G : MG) : ev 220 84 [a0, a1, a2, a3, a4] (vI x :: vR y :: st) μ G = if gk G y = 100 ∧ 0 ≤ x ∧ x < gl G y then ev 220 85 [a0, a1, a2, a3, a4] (vI (μ y x) :: st) μ G else none := ev_if pg_220_84 rfl
theorem pg_220_85 : mm_prog 220 85 = some (0, .iastore, 86, []) := by decide +kernel
theorem xe_220_85 (a0 a1 a2 a3 a4 : Option MV) (x y z : Int) (st : List MV) (μ : MM) (G : MG) : ev 220 85 [a0, a1, a2, a3, a4] (vI x :: vI y :: vR z :: st) μ G = if gk G z = 100 ∧ 0 ≤ y ∧ y < gl G z ∧ 10 ≤ z then ev 220 86 [a0, a1, a2, a3, a4] st (mset μ z y x) G else none := ev_if pg_220_85 rfl
theorem pg_220_86 : mm_prog 220 86 = some (0, .aload_n 0, 87, []) := by decide +kernel
theorem xe_220_86 (a1 a2 a3 a4 : Option MV) (x : Int) (st : List MV) (μ : MM) (G : MG) : ev 220 86 [some (vR x), a1, a2, a3, a4] st μ G = ev 220 87 [some (vR x), a1, a2, a3, a4] (vR x :: st) μ G := ev_stp pg_220_86 rfl
theorem pg_220_87 : mm_prog 220 87 = some (0, .getfield 75, 90, [11, 35, 2]) := by decide +kernel
theorem xe_220_87 (a0 a1 a2 a3 a4 : Option MV) (x : Int) (st : List MV) (μ : MM) (G : MG) : ev 220 87 [a0, a1, a2, a3, a4] (vR x :: st) μ G = if gk G x = 11 then ev 220 90 [a0, a1, a2, a3, a4] (vR (μ x 35) :: st) μ G else none := ev_if pg_220_87 rfl
theorem pg_220_90 : mm_prog 220 90 = some (0, .bipush 7, 92, []) := by decide +kernel
theorem xe_220_90 (a0 a1 a2 a3 a4 : Option MV) (st : List MV) (μ : MM) (G : MG) : ev 220 90 [a0, a1, a2, a3, a4] st μ G = ev 220 92 [a0, a1, a2, a3, a4] (vI (7) :: st) μ G := ev_stp pg_220_90 rfl
theorem pg_220_92 : mm_prog 220 92 = some (0, .dup2, 93, []) := by decide +kernel
theorem xe_220_92 (a0 a1 a2 a3 a4 : Option MV) (x y : Int) (st : List MV) (μ : MM) (G : MG) : ev 220 92 [a0, a1, a2, a3, a4] (vI x :: vR y :: st) μ G = ev 220 93 [a0, a1, a2, a3, a4] (vI x :: vR y :: vI x :: vR y :: st) μ G := ev_stp pg_220_92 rfl
theorem pg_220_93 : mm_prog 220 93 = some (0, .iaload, 94, []) := by decide +kernel
theorem xe_220_93 (a0 a1 a2 a3 a4 : Option MV) (x y : Int) (st : List MV) (μ : MM) (G : MG) : ev 220 93 [a0, a1, a2, a3, a4] (vI x :: vR y :: st) μ G = if gk G y = 100 ∧ 0 ≤ x ∧ x < gl G y then ev 220 94 [a0, a1, a2, a3, a4] (vI (μ y x) :: st) μ G else none := ev_if pg_220_93 rfl
theorem pg_220_94 : mm_prog 220 94 = some (0, .iconst 1, 95, []) := by decide +kernel
theorem xe_220_94 (a0 a1 a2 a3 a4 : Option MV) (st : List MV) (μ : MM) (G : MG) : ev 220 94 [a0, a1, a2, a3, a4] st μ G = ev 220 95 [a0, a1, a2, a3, a4] (vI (1) :: st) μ G := ev_stp pg_220_94 rfl
theorem pg_220_95 : mm_prog 220 95 = some (0, .iadd, 96, []) := by decide +kernel
theorem xe_220_95 (a0 a1 a2 a3 a4 : Option MV) (x y : Int) (st : List MV) (μ : MM) (G : MG) : ev 220 95 [a0, a1, a2, a3, a4] (vI y :: vI x :: st) μ G = ev 220 96 [a0, a1, a2, a3, a4] (vI (w32 (x + y)) :: st) μ G := ev_stp pg_220_95 rfl
theorem pg_220_96 : mm_prog 220 96 = some (0, .iastore, 97, []) := by decide +kernel
theorem xe_220_96 (a0 a1 a2 a3 a4 : Option MV) (x y z : Int) (st : List MV) (μ : MM) (G : MG) : ev 220 96 [a0, a1, a2, a3, a4] (vI x :: vI y :: vR z :: st) μ G = if gk G z = 100 ∧ 0 ≤ y ∧ y < gl G z ∧ 10 ≤ z then ev 220 97 [a0, a1, a2, a3, a4] st (mset μ z y x) G else none := ev_if pg_220_96 rfl
theorem pg_220_97 : mm_prog 220 97 = some (0, .aload_n 0, 98, []) := by decide +kernel
theorem xe_220_97 (a1 a2 a3 a4 : Option MV) (x : Int) (st : List MV) (μ : MM) (G : MG) : ev 220 97 [some (vR x), a1, a2, a3, a4] st μ G = ev 220 98 [some (vR x), a1, a2, a3, a4] (vR x :: st) μ G := ev_stp pg_220_97 rfl
theorem pg_220_98 : mm_prog 220 98 = some (0, .getfield 75, 101, [11, 35, 2]) := by decide +kernel
theorem xe_220_98 (a0 a1 a2 a3 a4 : Option MV) (x : Int) (st : List MV) (μ : MM) (G : MG) : ev 220 98 [a0, a1, a2, a3, a4] (vR x :: st) μ G = if gk G x = 11 then ev 220 101 [a0, a1, a2, a3, a4] (vR (μ x 35) :: st) μ G else none := ev_if pg_220_98 rfl
theorem pg_220_101 : mm_prog 220 101 = some (0, .iconst 0, 102, []) := by decide +kernel
theorem xe_220_101 (a0 a1 a2 a3 a4 : Option MV) (st : List MV) (μ : MM) (G : MG) : ev 220 101 [a0, a1, a2, a3, a4] st μ G = ev 220 102 [a0, a1, a2, a3, a4] (vI (0) :: st) μ G := ev_stp pg_220_101 rfl
theorem pg_220_102 : mm_prog 220 102 = some (0, .iaload, 103, []) := by decide +kernel
theorem xe_220_102 (a0 a1 a2 a3 a4 : Option MV) (x y : Int) (st : List MV) (μ : MM) (G : MG) : ev 220 102 [a0, a1, a2, a3, a4] (vI x :: vR y :: st) μ G = if gk G y = 100 ∧ 0 ≤ x ∧ x < gl G y then ev 220 103 [a0, a1, a2, a3, a4] (vI (μ y x) :: st) μ G else none := ev_if pg_220_102 rfl
theorem pg_220_103 : mm_prog 220 103 = some (0, .iconst 1, 104, []) := by decide +kernel
theorem xe_220_103 (a0 a1 a2 a3 a4 : Option MV) (st : List MV) (μ : MM) (G : MG) : ev 220 103 [a0, a1, a2, a3, a4] st μ G = ev 220 104 [a0, a1, a2, a3, a4] (vI (1) :: st) μ G := ev_stp pg_220_103 rfl
theorem pg_220_104 : mm_prog 220 104 = some (0, .if_icmp .ne 7, 107, []) := by decide +kernel
theorem xe_220_104 (a0 a1 a2 a3 a4 : Option MV) (x y : Int) (st : List MV) (μ : MM) (G : MG) : ev 220 104 [a0, a1, a2, a3, a4] (vI y :: vI x :: st) μ G = if ¬ x = y then ev 220 111 [a0, a1, a2, a3, a4] st μ G else ev 220 107 [a0, a1, a2, a3, a4] st μ G := ev_br (mm_cnd_ne x y) pg_220_104 rfl
theorem pg_220_107 : mm_prog 220 107 = some (0, .iconst 1, 108, []) := by decide +kernel
theorem xe_220_107 (a0 a1 a2 a3 a4 : Option MV) (st : List MV) (μ : MM) (G : MG) : ev 220 107 [a0, a1, a2, a3, a4] st μ G = ev 220 108 [a0, a1, a2, a3, a4] (vI (1) :: st) μ G := ev_stp pg_220_107 rfl
theorem pg_220_108 : mm_prog 220 108 = some (0, .goto 4, 111, []) := by decide +kernel
theorem xe_220_108 (a0 a1 a2 a3 a4 : Option MV) (st : List MV) (μ : MM) (G : MG) : ev 220 108 [a0, a1, a2, a3, a4] st μ G = ev 220 112 [a0, a1, a2, a3, a4] st μ G := ev_stp pg_220_108 rfl
theorem pg_220_111 : mm_prog 220 111 = some (0, .iconst 0, 112, []) := by decide +kernel
theorem xe_220_111 (a0 a1 a2 a3 a4 : Option MV) (st : List MV) (μ : MM) (G : MG) : ev 220 111 [a0, a1, a2, a3, a4] st μ G = ev 220 112 [a0, a1, a2, a3, a4] (vI (0) :: st) μ G := ev_stp pg_220_111 rfl
theorem pg_220_112 : mm_prog 220 112 = some (0, .istore_n 3, 113, []) := by decide +kernel
theorem xe_220_112 (a0 a1 a2 a3 a4 : Option MV) (x : Int) (st : List MV) (μ : MM) (G : MG) (h : mm_nL a2 = true) : ev 220 112 [a0, a1, a2, a3, a4] (vI x :: st) μ G = ev 220 113 [a0, a1, a2, some (vI x), a4] st μ G := ev_st pg_220_112 rfl (mm_nl_of h) (Nat.le_of_ble_eq_true rfl)
theorem pg_220_113 : mm_prog 220 113 = some (0, .aload_n 0, 114, []) := by decide +kernel
theorem xe_220_113 (a1 a2 a3 a4 : Option MV) (x : Int) (st : List MV) (μ : MM) (G : MG) : ev 220 113 [some (vR x), a1, a2, a3, a4] st μ G = ev 220 114 [some (vR x), a1, a2, a3, a4] (vR x :: st) μ G := ev_stp pg_220_113 rfl
theorem pg_220_114 : mm_prog 220 114 = some (0, .getfield 75, 117, [11, 35, 2]) := by decide +kernel
theorem xe_220_114 (a0 a1 a2 a3 a4 : Option MV) (x : Int) (st : List MV) (μ : MM) (G : MG) : ev 220 114 [a0, a1, a2, a3, a4] (vR x :: st) μ G = if gk G x = 11 then ev 220 117 [a0, a1, a2, a3, a4] (vR (μ x 35) :: st) μ G else none := ev_if pg_220_114 rfl
theorem pg_220_117 : mm_prog 220 117 = some (0, .iconst 1, 118, []) := by decide +kernel
theorem xe_220_117 (a0 a1 a2 a3 a4 : Option MV) (st : List MV) (μ : MM) (G : MG) : ev 220 117 [a0, a1, a2, a3, a4] st μ G = ev 220 118 [a0, a1, a2, a3, a4] (vI (1) :: st) μ G := ev_stp pg_220_117 rfl
theorem pg_220_118 : mm_prog 220 118 = some (0, .iaload, 119, []) := by decide +kernel
theorem xe_220_118 (a0 a1 a2 a3 a4 : Option MV) (x y : Int) (st : List MV) (μ : MM) (G : MG) : ev 220 118 [a0, a1, a2, a3, a4] (vI x :: vR y :: st) μ G = if gk G y = 100 ∧ 0 ≤ x ∧ x < gl G y then ev 220 119 [a0, a1, a2, a3, a4] (vI (μ y x) :: st) μ G else none := ev_if pg_220_118 rfl
theorem pg_220_119 : mm_prog 220 119 = some (0, .iconst 1, 120, []) := by decide +kernel
theorem xe_220_119 (a0 a1 a2 a3 a4 : Option MV) (st : List MV) (μ : MM) (G : MG) : ev 220 119 [a0, a1, a2, a3, a4] st μ G = ev 220 120 [a0, a1, a2, a3, a4] (vI (1) :: st) μ G := ev_stp pg_220_119 rfl
theorem pg_220_120 : mm_prog 220 120 = some (0, .if_icmp .ne 24, 123, []) := by decide +kernel
theorem xe_220_120 (a0 a1 a2 a3 a4 : Option MV) (x y : Int) (st : List MV) (μ : MM) (G : MG) : ev 220 120 [a0, a1, a2, a3, a4] (vI y :: vI x :: st) μ G = if ¬ x = y then ev 220 144 [a0, a1, a2, a3, a4] st μ G else ev 220 123 [a0, a1, a2, a3, a4] st μ G := ev_br (mm_cnd_ne x y) pg_220_120 rfl
theorem pg_220_123 : mm_prog 220 123 = some (0, .aload_n 0, 124, []) := by decide +kernel
theorem xe_220_123 (a1 a2 a3 a4 : Option MV) (x : Int) (st : List MV) (μ : MM) (G : MG) : ev 220 123 [some (vR x), a1, a2, a3, a4] st μ G = ev 220 124 [some (vR x), a1, a2, a3, a4] (vR x :: st) μ G := ev_stp pg_220_123 rfl
theorem pg_220_124 : mm_prog 220 124 = some (0, .getfield 75, 127, [11, 35, 2]) := by decide +kernel
theorem xe_220_124 (a0 a1 a2 a3 a4 : Option MV) (x : Int) (st : List MV) (μ : MM) (G : MG) : ev 220 124 [a0, a1, a2, a3, a4] (vR x :: st) μ G = if gk G x = 11 then ev 220 127 [a0, a1, a2, a3, a4] (vR (μ x 35) :: st) μ G else none := ev_if pg_220_124 rfl
theorem pg_220_127 : mm_prog 220 127 = some (0, .iconst 2, 128, []) := by decide +kernel
theorem xe_220_127 (a0 a1 a2 a3 a4 : Option MV) (st : List MV) (μ : MM) (G : MG) : ev 220 127 [a0, a1, a2, a3, a4] st μ G = ev 220 128 [a0, a1, a2, a3, a4] (vI (2) :: st) μ G := ev_stp pg_220_127 rfl
theorem pg_220_128 : mm_prog 220 128 = some (0, .iaload, 129, []) := by decide +kernel
theorem xe_220_128 (a0 a1 a2 a3 a4 : Option MV) (x y : Int) (st : List MV) (μ : MM) (G : MG) : ev 220 128 [a0, a1, a2, a3, a4] (vI x :: vR y :: st) μ G = if gk G y = 100 ∧ 0 ≤ x ∧ x < gl G y then ev 220 129 [a0, a1, a2, a3, a4] (vI (μ y x) :: st) μ G else none := ev_if pg_220_128 rfl
theorem pg_220_129 : mm_prog 220 129 = some (0, .ifCond .ne 15, 132, []) := by decide +kernel
theorem xe_220_129 (a0 a1 a2 a3 a4 : Option MV) (x : Int) (st : List MV) (μ : MM) (G : MG) : ev 220 129 [a0, a1, a2, a3, a4] (vI x :: st) μ G = if ¬ x = 0 then ev 220 144 [a0, a1, a2, a3, a4] st μ G else ev 220 132 [a0, a1, a2, a3, a4] st μ G := ev_br (mm_cnd_ne x 0) pg_220_129 rfl
theorem pg_220_132 : mm_prog 220 132 = some (0, .aload_n 0, 133, []) := by decide +kernel
theorem xe_220_132 (a1 a2 a3 a4 : Option MV) (x : Int) (st : List MV) (μ : MM) (G : MG) : ev 220 132 [some (vR x), a1, a2, a3, a4] st μ G = ev 220 133 [some (vR x), a1, a2, a3, a4] (vR x :: st) μ G := ev_stp pg_220_132 rfl
theorem pg_220_133 : mm_prog 220 133 = some (1, .invokevirtual 350, 136, [1, 215, 0, 11]) := by decide +kernel
theorem xe_220_133 (a0 a1 a2 a3 a4 : Option MV) (z : Int) (μ : MM) (G : MG) : ev 220 133 [a0, a1, a2, a3, a4] (vR z :: []) μ G = if gk G z = 11 ∧ 0 < z then (ev 215 0 [some (vR z), none] [] μ G).bind (fun q => ev 220 136 [a0, a1, a2, a3, a4] (q.1.toList ++ []) q.2.1 q.2.2) else none := ev_calV (as := [vR z]) (r := []) mx_215 pg_220_133 rfl rfl (Nat.le_of_ble_eq_true rfl) (Nat.le_of_ble_eq_true rfl)
theorem pg_220_136 : mm_prog 220 136 = some (0, .aload_n 0, 137, []) := by decide +kernel
theorem xe_220_136 (a1 a2 a3 a4 : Option MV) (x : Int) (st : List MV) (μ : MM) (G : MG) : ev 220 136 [some (vR x), a1, a2, a3, a4] st μ G = ev 220 137 [some (vR x), a1, a2, a3, a4] (vR x :: st) μ G := ev_stp pg_220_136 rfl
theorem pg_220_137 : mm_prog 220 137 = some (0, .getfield 75, 140, [11, 35, 2]) := by decide +kernel
theorem xe_220_137 (a0 a1 a2 a3 a4 : Option MV) (x : Int) (st : List MV) (μ : MM) (G : MG) : ev 220 137 [a0, a1, a2, a3, a4] (vR x :: st) μ G = if gk G x = 11 then ev 220 140 [a0, a1, a2, a3, a4] (vR (μ x 35) :: st) μ G else none := ev_if pg_220_137 rfl
theorem pg_220_140 : mm_prog 220 140 = some (0, .iconst 0, 141, []) := by decide +kernel
theorem xe_220_140 (a0 a1 a2 a3 a4 : Option MV) (st : List MV) (μ : MM) (G : MG) : ev 220 140 [a0, a1, a2, a3, a4] st μ G = ev 220 141 [a0, a1, a2, a3, a4] (vI (0) :: st) μ G := ev_stp pg_220_140 rfl
theorem pg_220_141 : mm_prog 220 141 = some (0, .iconst 4, 142, []) := by decide +kernel
theorem xe_220_141 (a0 a1 a2 a3 a4 : Option MV) (st : List MV) (μ : MM) (G : MG) : ev 220 141 [a0, a1, a2, a3, a4] st μ G = ev 220 142 [a0, a1, a2, a3, a4] (vI (4) :: st) μ G := ev_stp pg_220_141 rfl
theorem pg_220_142 : mm_prog 220 142 = some (0, .iastore, 143, []) := by decide +kernel
theorem xe_220_142 (a0 a1 a2 a3 a4 : Option MV) (x y z : Int) (st : List MV) (μ : MM) (G : MG) : ev 220 142 [a0, a1, a2, a3, a4] (vI x :: vI y :: vR z :: st) μ G = if gk G z = 100 ∧ 0 ≤ y ∧ y < gl G z ∧ 10 ≤ z then ev 220 143 [a0, a1, a2, a3, a4] st (mset μ z y x) G else none := ev_if pg_220_142 rfl
theorem pg_220_143 : mm_prog 220 143 = some (2, .return_, 144, []) := by decide +kernel
theorem xe_220_143 (a0 a1 a2 a3 a4 : Option MV) (μ : MM) (G : MG) : ev 220 143 [a0, a1, a2, a3, a4] [] μ G = some (none, μ, G) := ev_ret pg_220_143 rfl
theorem pg_220_144 : mm_prog 220 144 = some (0, .iload_n 3, 145, []) := by decide +kernel
theorem xe_220_144 (a0 a1 a2 a4 : Option MV) (x : Int) (st : List MV) (μ : MM) (G : MG) : ev 220 144 [a0, a1, a2, some (vI x), a4] st μ G = ev 220 145 [a0, a1, a2, some (vI x), a4] (vI x :: st) μ G := ev_stp pg_220_144 rfl
theorem pg_220_145 : mm_prog 220 145 = some (0, .ifCond .eq 20, 148, []) := by decide +kernel
theorem xe_220_145 (a0 a1 a2 a3 a4 : Option MV) (x : Int) (st : List MV) (μ : MM) (G : MG) : ev 220 145 [a0, a1, a2, a3, a4] (vI x :: st) μ G = if x = 0 then ev 220 165 [a0, a1, a2, a3, a4] st μ G else ev 220 148 [a0, a1, a2, a3, a4] st μ G := ev_br (mm_cnd_eq x 0) pg_220_145 rfl
theorem pg_220_148 : mm_prog 220 148 = some (0, .aload_n 0, 149, []) := by decide +kernel
theorem xe_220_148 (a1 a2 a3 a4 : Option MV) (x : Int) (st : List MV) (μ : MM) (G : MG) : ev 220 148 [some (vR x), a1, a2, a3, a4] st μ G = ev 220 149 [some (vR x), a1, a2, a3, a4] (vR x :: st) μ G := ev_stp pg_220_148 rfl
theorem pg_220_149 : mm_prog 220 149 = some (0, .getfield 75, 152, [11, 35, 2]) := by decide +kernel
theorem xe_220_149 (a0 a1 a2 a3 a4 : Option MV) (x : Int) (st : List MV) (μ : MM) (G : MG) : ev 220 149 [a0, a1, a2, a3, a4] (vR x :: st) μ G = if gk G x = 11 then ev 220 152 [a0, a1, a2, a3, a4] (vR (μ x 35) :: st) μ G else none := ev_if pg_220_149 rfl
theorem pg_220_152 : mm_prog 220 152 = some (0, .iconst 2, 153, []) := by decide +kernel
theorem xe_220_152 (a0 a1 a2 a3 a4 : Option MV) (st : List MV) (μ : MM) (G : MG) : ev 220 152 [a0, a1, a2, a3, a4] st μ G = ev 220 153 [a0, a1, a2, a3, a4] (vI (2) :: st) μ G := ev_stp pg_220_152 rfl
theorem pg_220_153 : mm_prog 220 153 = some (0, .iaload, 154, []) := by decide +kernel
theorem xe_220_153 (a0 a1 a2 a3 a4 : Option MV) (x y : Int) (st : List MV) (μ : MM) (G : MG) : ev 220 153 [a0, a1, a2, a3, a4] (vI x :: vR y :: st) μ G = if gk G y = 100 ∧ 0 ≤ x ∧ x < gl G y then ev 220 154 [a0, a1, a2, a3, a4] (vI (μ y x) :: st) μ G else none := ev_if pg_220_153 rfl
theorem pg_220_154 : mm_prog 220 154 = some (0, .ifCond .le 7, 157, []) := by decide +kernel
theorem xe_220_154 (a0 a1 a2 a3 a4 : Option MV) (x : Int) (st : List MV) (μ : MM) (G : MG) : ev 220 154 [a0, a1, a2, a3, a4] (vI x :: st) μ G = if x ≤ 0 then ev 220 161 [a0, a1, a2, a3, a4] st μ G else ev 220 157 [a0, a1, a2, a3, a4] st μ G := ev_br (mm_cnd_le x 0) pg_220_154 rfl
theorem pg_220_157 : mm_prog 220 157 = some (0, .iconst 1, 158, []) := by decide +kernel
theorem xe_220_157 (a0 a1 a2 a3 a4 : Option MV) (st : List MV) (μ : MM) (G : MG) : ev 220 157 [a0, a1, a2, a3, a4] st μ G = ev 220 158 [a0, a1, a2, a3, a4] (vI (1) :: st) μ G := ev_stp pg_220_157 rfl
theorem pg_220_158 : mm_prog 220 158 = some (0, .goto 22, 161, []) := by decide +kernel
theorem xe_220_158 (a0 a1 a2 a3 a4 : Option MV) (st : List MV) (μ : MM) (G : MG) : ev 220 158 [a0, a1, a2, a3, a4] st μ G = ev 220 180 [a0, a1, a2, a3, a4] st μ G := ev_stp pg_220_158 rfl
theorem pg_220_161 : mm_prog 220 161 = some (0, .iconst 0, 162, []) := by decide +kernel
theorem xe_220_161 (a0 a1 a2 a3 a4 : Option MV) (st : List MV) (μ : MM) (G : MG) : ev 220 161 [a0, a1, a2, a3, a4] st μ G = ev 220 162 [a0, a1, a2, a3, a4] (vI (0) :: st) μ G := ev_stp pg_220_161 rfl
theorem pg_220_162 : mm_prog 220 162 = some (0, .goto 18, 165, []) := by decide +kernel
theorem xe_220_162 (a0 a1 a2 a3 a4 : Option MV) (st : List MV) (μ : MM) (G : MG) : ev 220 162 [a0, a1, a2, a3, a4] st μ G = ev 220 180 [a0, a1, a2, a3, a4] st μ G := ev_stp pg_220_162 rfl
theorem pg_220_165 : mm_prog 220 165 = some (0, .aload_n 0, 166, []) := by decide +kernel
theorem xe_220_165 (a1 a2 a3 a4 : Option MV) (x : Int) (st : List MV) (μ : MM) (G : MG) : ev 220 165 [some (vR x), a1, a2, a3, a4] st μ G = ev 220 166 [some (vR x), a1, a2, a3, a4] (vR x :: st) μ G := ev_stp pg_220_165 rfl
theorem pg_220_166 : mm_prog 220 166 = some (0, .getfield 75, 169, [11, 35, 2]) := by decide +kernel
theorem xe_220_166 (a0 a1 a2 a3 a4 : Option MV) (x : Int) (st : List MV) (μ : MM) (G : MG) : ev 220 166 [a0, a1, a2, a3, a4] (vR x :: st) μ G = if gk G x = 11 then ev 220 169 [a0, a1, a2, a3, a4] (vR (μ x 35) :: st) μ G else none := ev_if pg_220_166 rfl
theorem pg_220_169 : mm_prog 220 169 = some (0, .iconst 1, 170, []) := by decide +kernel
theorem xe_220_169 (a0 a1 a2 a3 a4 : Option MV) (st : List MV) (μ : MM) (G : MG) : ev 220 169 [a0, a1, a2, a3, a4] st μ G = ev 220 170 [a0, a1, a2, a3, a4] (vI (1) :: st) μ G := ev_stp pg_220_169 rfl
theorem pg_220_170 : mm_prog 220 170 = some (0, .iaload, 171, []) := by decide +kernel
theorem xe_220_170 (a0 a1 a2 a3 a4 : Option MV) (x y : Int) (st : List MV) (μ : MM) (G : MG) : ev 220 170 [a0, a1, a2, a3, a4] (vI x :: vR y :: st) μ G = if gk G y = 100 ∧ 0 ≤ x ∧ x < gl G y then ev 220 171 [a0, a1, a2, a3, a4] (vI (μ y x) :: st) μ G else none := ev_if pg_220_170 rfl
theorem pg_220_171 : mm_prog 220 171 = some (0, .iconst 1, 172, []) := by decide +kernel
theorem xe_220_171 (a0 a1 a2 a3 a4 : Option MV) (st : List MV) (μ : MM) (G : MG) : ev 220 171 [a0, a1, a2, a3, a4] st μ G = ev 220 172 [a0, a1, a2, a3, a4] (vI (1) :: st) μ G := ev_stp pg_220_171 rfl
theorem pg_220_172 : mm_prog 220 172 = some (0, .if_icmp .ne 7, 175, []) := by decide +kernel
theorem xe_220_172 (a0 a1 a2 a3 a4 : Option MV) (x y : Int) (st : List MV) (μ : MM) (G : MG) : ev 220 172 [a0, a1, a2, a3, a4] (vI y :: vI x :: st) μ G = if ¬ x = y then ev 220 179 [a0, a1, a2, a3, a4] st μ G else ev 220 175 [a0, a1, a2, a3, a4] st μ G := ev_br (mm_cnd_ne x y) pg_220_172 rfl
theorem pg_220_175 : mm_prog 220 175 = some (0, .iconst 1, 176, []) := by decide +kernel
theorem xe_220_175 (a0 a1 a2 a3 a4 : Option MV) (st : List MV) (μ : MM) (G : MG) : ev 220 175 [a0, a1, a2, a3, a4] st μ G = ev 220 176 [a0, a1, a2, a3, a4] (vI (1) :: st) μ G := ev_stp pg_220_175 rfl
theorem pg_220_176 : mm_prog 220 176 = some (0, .goto 4, 179, []) := by decide +kernel
theorem xe_220_176 (a0 a1 a2 a3 a4 : Option MV) (st : List MV) (μ : MM) (G : MG) : ev 220 176 [a0, a1, a2, a3, a4] st μ G = ev 220 180 [a0, a1, a2, a3, a4] st μ G := ev_stp pg_220_176 rfl
theorem pg_220_179 : mm_prog 220 179 = some (0, .iconst 0, 180, []) := by decide +kernel
theorem xe_220_179 (a0 a1 a2 a3 a4 : Option MV) (st : List MV) (μ : MM) (G : MG) : ev 220 179 [a0, a1, a2, a3, a4] st μ G = ev 220 180 [a0, a1, a2, a3, a4] (vI (0) :: st) μ G := ev_stp pg_220_179 rfl
theorem pg_220_180 : mm_prog 220 180 = some (0, .istore 4, 182, []) := by decide +kernel
theorem xe_220_180 (a0 a1 a2 a3 a4 : Option MV) (x : Int) (st : List MV) (μ : MM) (G : MG) (h : mm_nL a3 = true) : ev 220 180 [a0, a1, a2, a3, a4] (vI x :: st) μ G = ev 220 182 [a0, a1, a2, a3, some (vI x)] st μ G := ev_st pg_220_180 rfl (mm_nl_of h) (Nat.le_of_ble_eq_true rfl)
theorem pg_220_182 : mm_prog 220 182 = some (0, .iload 4, 184, []) := by decide +kernel
theorem xe_220_182 (a0 a1 a2 a3 : Option MV) (x : Int) (st : List MV) (μ : MM) (G : MG) : ev 220 182 [a0, a1, a2, a3, some (vI x)] st μ G = ev 220 184 [a0, a1, a2, a3, some (vI x)] (vI x :: st) μ G := ev_stp pg_220_182 rfl
theorem pg_220_184 : mm_prog 220 184 = some (0, .ifCond .eq 16, 187, []) := by decide +kernel
theorem xe_220_184 (a0 a1 a2 a3 a4 : Option MV) (x : Int) (st : List MV) (μ : MM) (G : MG) : ev 220 184 [a0, a1, a2, a3, a4] (vI x :: st) μ G = if x = 0 then ev 220 200 [a0, a1, a2, a3, a4] st μ G else ev 220 187 [a0, a1, a2, a3, a4] st μ G := ev_br (mm_cnd_eq x 0) pg_220_184 rfl
theorem pg_220_187 : mm_prog 220 187 = some (0, .aload_n 0, 188, []) := by decide +kernel
theorem xe_220_187 (a1 a2 a3 a4 : Option MV) (x : Int) (st : List MV) (μ : MM) (G : MG) : ev 220 187 [some (vR x), a1, a2, a3, a4] st μ G = ev 220 188 [some (vR x), a1, a2, a3, a4] (vR x :: st) μ G := ev_stp pg_220_187 rfl
theorem pg_220_188 : mm_prog 220 188 = some (0, .getfield 75, 191, [11, 35, 2]) := by decide +kernel
theorem xe_220_188 (a0 a1 a2 a3 a4 : Option MV) (x : Int) (st : List MV) (μ : MM) (G : MG) : ev 220 188 [a0, a1, a2, a3, a4] (vR x :: st) μ G = if gk G x = 11 then ev 220 191 [a0, a1, a2, a3, a4] (vR (μ x 35) :: st) μ G else none := ev_if pg_220_188 rfl
theorem pg_220_191 : mm_prog 220 191 = some (0, .iconst 2, 192, []) := by decide +kernel
theorem xe_220_191 (a0 a1 a2 a3 a4 : Option MV) (st : List MV) (μ : MM) (G : MG) : ev 220 191 [a0, a1, a2, a3, a4] st μ G = ev 220 192 [a0, a1, a2, a3, a4] (vI (2) :: st) μ G := ev_stp pg_220_191 rfl
theorem pg_220_192 : mm_prog 220 192 = some (0, .dup2, 193, []) := by decide +kernel
theorem xe_220_192 (a0 a1 a2 a3 a4 : Option MV) (x y : Int) (st : List MV) (μ : MM) (G : MG) : ev 220 192 [a0, a1, a2, a3, a4] (vI x :: vR y :: st) μ G = ev 220 193 [a0, a1, a2, a3, a4] (vI x :: vR y :: vI x :: vR y :: st) μ G := ev_stp pg_220_192 rfl
theorem pg_220_193 : mm_prog 220 193 = some (0, .iaload, 194, []) := by decide +kernel
theorem xe_220_193 (a0 a1 a2 a3 a4 : Option MV) (x y : Int) (st : List MV) (μ : MM) (G : MG) : ev 220 193 [a0, a1, a2, a3, a4] (vI x :: vR y :: st) μ G = if gk G y = 100 ∧ 0 ≤ x ∧ x < gl G y then ev 220 194 [a0, a1, a2, a3, a4] (vI (μ y x) :: st) μ G else none := ev_if pg_220_193 rfl
theorem pg_220_194 : mm_prog 220 194 = some (0, .iconst 1, 195, []) := by decide +kernel
theorem xe_220_194 (a0 a1 a2 a3 a4 : Option MV) (st : List MV) (μ : MM) (G : MG) : ev 220 194 [a0, a1, a2, a3, a4] st μ G = ev 220 195 [a0, a1, a2, a3, a4] (vI (1) :: st) μ G := ev_stp pg_220_194 rfl
theorem pg_220_195 : mm_prog 220 195 = some (0, .isub, 196, []) := by decide +kernel
theorem xe_220_195 (a0 a1 a2 a3 a4 : Option MV) (x y : Int) (st : List MV) (μ : MM) (G : MG) : ev 220 195 [a0, a1, a2, a3, a4] (vI y :: vI x :: st) μ G = ev 220 196 [a0, a1, a2, a3, a4] (vI (w32 (x - y)) :: st) μ G := ev_stp pg_220_195 rfl
theorem pg_220_196 : mm_prog 220 196 = some (0, .iastore, 197, []) := by decide +kernel
theorem xe_220_196 (a0 a1 a2 a3 a4 : Option MV) (x y z : Int) (st : List MV) (μ : MM) (G : MG) : ev 220 196 [a0, a1, a2, a3, a4] (vI x :: vI y :: vR z :: st) μ G = if gk G z = 100 ∧ 0 ≤ y ∧ y < gl G z ∧ 10 ≤ z then ev 220 197 [a0, a1, a2, a3, a4] st (mset μ z y x) G else none := ev_if pg_220_196 rfl
theorem pg_220_197 : mm_prog 220 197 = some (0, .goto 27, 200, []) := by decide +kernel
theorem xe_220_197 (a0 a1 a2 a3 a4 : Option MV) (st : List MV) (μ : MM) (G : MG) : ev 220 197 [a0, a1, a2, a3, a4] st μ G = ev 220 224 [a0, a1, a2, a3, a4] st μ G := ev_stp pg_220_197 rfl
theorem pg_220_200 : mm_prog 220 200 = some (0, .aload_n 0, 201, []) := by decide +kernel
theorem xe_220_200 (a1 a2 a3 a4 : Option MV) (x : Int) (st : List MV) (μ : MM) (G : MG) : ev 220 200 [some (vR x), a1, a2, a3, a4] st μ G = ev 220 201 [some (vR x), a1, a2, a3, a4] (vR x :: st) μ G := ev_stp pg_220_200 rfl
theorem pg_220_201 : mm_prog 220 201 = some (0, .getfield 75, 204, [11, 35, 2]) := by decide +kernel
theorem xe_220_201 (a0 a1 a2 a3 a4 : Option MV) (x : Int) (st : List MV) (μ : MM) (G : MG) : ev 220 201 [a0, a1, a2, a3, a4] (vR x :: st) μ G = if gk G x = 11 then ev 220 204 [a0, a1, a2, a3, a4] (vR (μ x 35) :: st) μ G else none := ev_if pg_220_201 rfl
theorem pg_220_204 : mm_prog 220 204 = some (0, .iconst 1, 205, []) := by decide +kernel
theorem xe_220_204 (a0 a1 a2 a3 a4 : Option MV) (st : List MV) (μ : MM) (G : MG) : ev 220 204 [a0, a1, a2, a3, a4] st μ G = ev 220 205 [a0, a1, a2, a3, a4] (vI (1) :: st) μ G := ev_stp pg_220_204 rfl
theorem pg_220_205 : mm_prog 220 205 = some (0, .dup2, 206, []) := by decide +kernel
theorem xe_220_205 (a0 a1 a2 a3 a4 : Option MV) (x y : Int) (st : List MV) (μ : MM) (G : MG) : ev 220 205 [a0, a1, a2, a3, a4] (vI x :: vR y :: st) μ G = ev 220 206 [a0, a1, a2, a3, a4] (vI x :: vR y :: vI x :: vR y :: st) μ G := ev_stp pg_220_205 rfl
theorem pg_220_206 : mm_prog 220 206 = some (0, .iaload, 207, []) := by decide +kernel
theorem xe_220_206 (a0 a1 a2 a3 a4 : Option MV) (x y : Int) (st : List MV) (μ : MM) (G : MG) : ev 220 206 [a0, a1, a2, a3, a4] (vI x :: vR y :: st) μ G = if gk G y = 100 ∧ 0 ≤ x ∧ x < gl G y then ev 220 207 [a0, a1, a2, a3, a4] (vI (μ y x) :: st) μ G else none := ev_if pg_220_206 rfl
theorem pg_220_207 : mm_prog 220 207 = some (0, .iconst 2, 208, []) := by decide +kernel
theorem xe_220_207 (a0 a1 a2 a3 a4 : Option MV) (st : List MV) (μ : MM) (G : MG) : ev 220 207 [a0, a1, a2, a3, a4] st μ G = ev 220 208 [a0, a1, a2, a3, a4] (vI (2) :: st) μ G := ev_stp pg_220_207 rfl
theorem pg_220_208 : mm_prog 220 208 = some (0, .idiv, 209, []) := by decide +kernel
theorem xe_220_208 (a0 a1 a2 a3 a4 : Option MV) (x y : Int) (st : List MV) (μ : MM) (G : MG) : ev 220 208 [a0, a1, a2, a3, a4] (vI y :: vI x :: st) μ G = if y = 0 then none else ev 220 209 [a0, a1, a2, a3, a4] (vI (mm_div x y) :: st) μ G := ev_no pg_220_208 rfl
theorem pg_220_209 : mm_prog 220 209 = some (0, .iastore, 210, []) := by decide +kernel
theorem xe_220_209 (a0 a1 a2 a3 a4 : Option MV) (x y z : Int) (st : List MV) (μ : MM) (G : MG) : ev 220 209 [a0, a1, a2, a3, a4] (vI x :: vI y :: vR z :: st) μ G = if gk G z = 100 ∧ 0 ≤ y ∧ y < gl G z ∧ 10 ≤ z then ev 220 210 [a0, a1, a2, a3, a4] st (mset μ z y x) G else none := ev_if pg_220_209 rfl
theorem pg_220_210 : mm_prog 220 210 = some (0, .iload_n 3, 211, []) := by decide +kernel
theorem xe_220_210 (a0 a1 a2 a4 : Option MV) (x : Int) (st : List MV) (μ : MM) (G : MG) : ev 220 210 [a0, a1, a2, some (vI x), a4] st μ G = ev 220 211 [a0, a1, a2, some (vI x), a4] (vI x :: st) μ G := ev_stp pg_220_210 rfl
theorem pg_220_211 : mm_prog 220 211 = some (0, .ifCond .eq 13, 214, []) := by decide +kernel
theorem xe_220_211 (a0 a1 a2 a3 a4 : Option MV) (x : Int) (st : List MV) (μ : MM) (G : MG) : ev 220 211 [a0, a1, a2, a3, a4] (vI x :: st) μ G = if x = 0 then ev 220 224 [a0, a1, a2, a3, a4] st μ G else ev 220 214 [a0, a1, a2, a3, a4] st μ G := ev_br (mm_cnd_eq x 0) pg_220_211 rfl
theorem pg_220_214 : mm_prog 220 214 = some (0, .aload_n 0, 215, []) := by decide +kernel
theorem xe_220_214 (a1 a2 a3 a4 : Option MV) (x : Int) (st : List MV) (μ : MM) (G : MG) : ev 220 214 [some (vR x), a1, a2, a3, a4] st μ G = ev 220 215 [some (vR x), a1, a2, a3, a4] (vR x :: st) μ G := ev_stp pg_220_214 rfl
theorem pg_220_215 : mm_prog 220 215 = some (0, .getfield 75, 218, [11, 35, 2]) := by decide +kernel
theorem xe_220_215 (a0 a1 a2 a3 a4 : Option MV) (x : Int) (st : List MV) (μ : MM) (G : MG) : ev 220 215 [a0, a1, a2, a3, a4] (vR x :: st) μ G = if gk G x = 11 then ev 220 218 [a0, a1, a2, a3, a4] (vR (μ x 35) :: st) μ G else none := ev_if pg_220_215 rfl
theorem pg_220_218 : mm_prog 220 218 = some (0, .iconst 2, 219, []) := by decide +kernel
theorem xe_220_218 (a0 a1 a2 a3 a4 : Option MV) (st : List MV) (μ : MM) (G : MG) : ev 220 218 [a0, a1, a2, a3, a4] st μ G = ev 220 219 [a0, a1, a2, a3, a4] (vI (2) :: st) μ G := ev_stp pg_220_218 rfl
theorem pg_220_219 : mm_prog 220 219 = some (0, .aload_n 0, 220, []) := by decide +kernel
theorem xe_220_219 (a1 a2 a3 a4 : Option MV) (x : Int) (st : List MV) (μ : MM) (G : MG) : ev 220 219 [some (vR x), a1, a2, a3, a4] st μ G = ev 220 220 [some (vR x), a1, a2, a3, a4] (vR x :: st) μ G := ev_stp pg_220_219 rfl
theorem pg_220_220 : mm_prog 220 220 = some (0, .getfield 72, 223, [11, 32, 0]) := by decide +kernel
theorem xe_220_220 (a0 a1 a2 a3 a4 : Option MV) (x : Int) (st : List MV) (μ : MM) (G : MG) : ev 220 220 [a0, a1, a2, a3, a4] (vR x :: st) μ G = if gk G x = 11 then ev 220 223 [a0, a1, a2, a3, a4] (vI (μ x 32) :: st) μ G else none := ev_if pg_220_220 rfl
theorem pg_220_223 : mm_prog 220 223 = some (0, .iastore, 224, []) := by decide +kernel
theorem xe_220_223 (a0 a1 a2 a3 a4 : Option MV) (x y z : Int) (st : List MV) (μ : MM) (G : MG) : ev 220 223 [a0, a1, a2, a3, a4] (vI x :: vI y :: vR z :: st) μ G = if gk G z = 100 ∧ 0 ≤ y ∧ y < gl G z ∧ 10 ≤ z then ev 220 224 [a0, a1, a2, a3, a4] st (mset μ z y x) G else none := ev_if pg_220_223 rfl
theorem pg_220_224 : mm_prog 220 224 = some (0, .aload_n 0, 225, []) := by decide +kernel
theorem xe_220_224 (a1 a2 a3 a4 : Option MV) (x : Int) (st : List MV) (μ : MM) (G : MG) : ev 220 224 [some (vR x), a1, a2, a3, a4] st μ G = ev 220 225 [some (vR x), a1, a2, a3, a4] (vR x :: st) μ G := ev_stp pg_220_224 rfl
theorem pg_220_225 : mm_prog 220 225 = some (1, .invokevirtual 350, 228, [1, 215, 0, 11]) := by decide +kernel
theorem xe_220_225 (a0 a1 a2 a3 a4 : Option MV) (z : Int) (μ : MM) (G : MG) : ev 220 225 [a0, a1, a2, a3, a4] (vR z :: []) μ G = if gk G z = 11 ∧ 0 < z then (ev 215 0 [some (vR z), none] [] μ G).bind (fun q => ev 220 228 [a0, a1, a2, a3, a4] (q.1.toList ++ []) q.2.1 q.2.2) else none := ev_calV (as := [vR z]) (r := []) mx_215 pg_220_225 rfl rfl (Nat.le_of_ble_eq_true rfl) (Nat.le_of_ble_eq_true rfl)
theorem pg_220_228 : mm_prog 220 228 = some (2, .return_, 229, []) := by decide +kernel
theorem xe_220_228 (a0 a1 a2 a3 a4 : Option MV) (μ : MM) (G : MG) : ev 220 228 [a0, a1, a2, a3, a4] [] μ G = some (none, μ, G) := ev_ret pg_220_228 rfl
-- X11_triesClock
theorem pg_221_0 : mm_prog 221 0 = some (0, .aload_n 0, 1, []) := by decide +kernel
theorem xe_221_0 (a1 a2 a3 a4 : Option MV) (x : Int) (st : List MV) (μ : MM) (G : MG) : ev 221 0 [some (vR x), a1, a2, a3, a4] st μ G = ev 221 1 [some (vR x), a1, a2, a3, a4] (vR x :: st) μ G := ev_stp pg_221_0 rfl
theorem pg_221_1 : mm_prog 221 1 = some (0, .getfield 75, 4, [11, 35, 2]) := by decide +kernel
theorem xe_221_1 (a0 a1 a2 a3 a4 : Option MV) (x : Int) (st : List MV) (μ : MM) (G : MG) : ev 221 1 [a0, a1, a2, a3, a4] (vR x :: st) μ G = if gk G x = 11 then ev 221 4 [a0, a1, a2, a3, a4] (vR (μ x 35) :: st) μ G else none := ev_if pg_221_1 rfl
theorem pg_221_4 : mm_prog 221 4 = some (0, .iconst 3, 5, []) := by decide +kernel
theorem xe_221_4 (a0 a1 a2 a3 a4 : Option MV) (st : List MV) (μ : MM) (G : MG) : ev 221 4 [a0, a1, a2, a3, a4] st μ G = ev 221 5 [a0, a1, a2, a3, a4] (vI (3) :: st) μ G := ev_stp pg_221_4 rfl
theorem pg_221_5 : mm_prog 221 5 = some (0, .dup2, 6, []) := by decide +kernel
theorem xe_221_5 (a0 a1 a2 a3 a4 : Option MV) (x y : Int) (st : List MV) (μ : MM) (G : MG) : ev 221 5 [a0, a1, a2, a3, a4] (vI x :: vR y :: st) μ G = ev 221 6 [a0, a1, a2, a3, a4] (vI x :: vR y :: vI x :: vR y :: st) μ G := ev_stp pg_221_5 rfl
theorem pg_221_6 : mm_prog 221 6 = some (0, .iaload, 7, []) := by decide +kernel
theorem xe_221_6 (a0 a1 a2 a3 a4 : Option MV) (x y : Int) (st : List MV) (μ : MM) (G : MG) : ev 221 6 [a0, a1, a2, a3, a4] (vI x :: vR y :: st) μ G = if gk G y = 100 ∧ 0 ≤ x ∧ x < gl G y then ev 221 7 [a0, a1, a2, a3, a4] (vI (μ y x) :: st) μ G else none := ev_if pg_221_6 rfl
theorem pg_221_7 : mm_prog 221 7 = some (0, .iconst 1, 8, []) := by decide +kernel
theorem xe_221_7 (a0 a1 a2 a3 a4 : Option MV) (st : List MV) (μ : MM) (G : MG) : ev 221 7 [a0, a1, a2, a3, a4] st μ G = ev 221 8 [a0, a1, a2, a3, a4] (vI (1) :: st) μ G := ev_stp pg_221_7 rfl
theorem pg_221_8 : mm_prog 221 8 = some (0, .iadd, 9, []) := by decide +kernel
theorem xe_221_8 (a0 a1 a2 a3 a4 : Option MV) (x y : Int) (st : List MV) (μ : MM) (G : MG) : ev 221 8 [a0, a1, a2, a3, a4] (vI y :: vI x :: st) μ G = ev 221 9 [a0, a1, a2, a3, a4] (vI (w32 (x + y)) :: st) μ G := ev_stp pg_221_8 rfl
theorem pg_221_9 : mm_prog 221 9 = some (0, .iastore, 10, []) := by decide +kernel
theorem xe_221_9 (a0 a1 a2 a3 a4 : Option MV) (x y z : Int) (st : List MV) (μ : MM) (G : MG) : ev 221 9 [a0, a1, a2, a3, a4] (vI x :: vI y :: vR z :: st) μ G = if gk G z = 100 ∧ 0 ≤ y ∧ y < gl G z ∧ 10 ≤ z then ev 221 10 [a0, a1, a2, a3, a4] st (mset μ z y x) G else none := ev_if pg_221_9 rfl
theorem pg_221_10 : mm_prog 221 10 = some (0, .aload_n 0, 11, []) := by decide +kernel
theorem xe_221_10 (a1 a2 a3 a4 : Option MV) (x : Int) (st : List MV) (μ : MM) (G : MG) : ev 221 10 [some (vR x), a1, a2, a3, a4] st μ G = ev 221 11 [some (vR x), a1, a2, a3, a4] (vR x :: st) μ G := ev_stp pg_221_10 rfl
theorem pg_221_11 : mm_prog 221 11 = some (0, .getfield 75, 14, [11, 35, 2]) := by decide +kernel
theorem xe_221_11 (a0 a1 a2 a3 a4 : Option MV) (x : Int) (st : List MV) (μ : MM) (G : MG) : ev 221 11 [a0, a1, a2, a3, a4] (vR x :: st) μ G = if gk G x = 11 then ev 221 14 [a0, a1, a2, a3, a4] (vR (μ x 35) :: st) μ G else none := ev_if pg_221_11 rfl
theorem pg_221_14 : mm_prog 221 14 = some (0, .iconst 4, 15, []) := by decide +kernel
theorem xe_221_14 (a0 a1 a2 a3 a4 : Option MV) (st : List MV) (μ : MM) (G : MG) : ev 221 14 [a0, a1, a2, a3, a4] st μ G = ev 221 15 [a0, a1, a2, a3, a4] (vI (4) :: st) μ G := ev_stp pg_221_14 rfl
theorem pg_221_15 : mm_prog 221 15 = some (0, .dup2, 16, []) := by decide +kernel
theorem xe_221_15 (a0 a1 a2 a3 a4 : Option MV) (x y : Int) (st : List MV) (μ : MM) (G : MG) : ev 221 15 [a0, a1, a2, a3, a4] (vI x :: vR y :: st) μ G = ev 221 16 [a0, a1, a2, a3, a4] (vI x :: vR y :: vI x :: vR y :: st) μ G := ev_stp pg_221_15 rfl
theorem pg_221_16 : mm_prog 221 16 = some (0, .iaload, 17, []) := by decide +kernel
theorem xe_221_16 (a0 a1 a2 a3 a4 : Option MV) (x y : Int) (st : List MV) (μ : MM) (G : MG) : ev 221 16 [a0, a1, a2, a3, a4] (vI x :: vR y :: st) μ G = if gk G y = 100 ∧ 0 ≤ x ∧ x < gl G y then ev 221 17 [a0, a1, a2, a3, a4] (vI (μ y x) :: st) μ G else none := ev_if pg_221_16 rfl
theorem pg_221_17 : mm_prog 221 17 = some (0, .iconst 1, 18, []) := by decide +kernel
theorem xe_221_17 (a0 a1 a2 a3 a4 : Option MV) (st : List MV) (μ : MM) (G : MG) : ev 221 17 [a0, a1, a2, a3, a4] st μ G = ev 221 18 [a0, a1, a2, a3, a4] (vI (1) :: st) μ G := ev_stp pg_221_17 rfl
theorem pg_221_18 : mm_prog 221 18 = some (0, .iadd, 19, []) := by decide +kernel
theorem xe_221_18 (a0 a1 a2 a3 a4 : Option MV) (x y : Int) (st : List MV) (μ : MM) (G : MG) : ev 221 18 [a0, a1, a2, a3, a4] (vI y :: vI x :: st) μ G = ev 221 19 [a0, a1, a2, a3, a4] (vI (w32 (x + y)) :: st) μ G := ev_stp pg_221_18 rfl
theorem pg_221_19 : mm_prog 221 19 = some (0, .iastore, 20, []) := by decide +kernel
theorem xe_221_19 (a0 a1 a2 a3 a4 : Option MV) (x y z : Int) (st : List MV) (μ : MM) (G : MG) : ev 221 19 [a0, a1, a2, a3, a4] (vI x :: vI y :: vR z :: st) μ G = if gk G z = 100 ∧ 0 ≤ y ∧ y < gl G z ∧ 10 ≤ z then ev 221 20 [a0, a1, a2, a3, a4] st (mset μ z y x) G else none := ev_if pg_221_19 rfl
theorem pg_221_20 : mm_prog 221 20 = some (0, .iconst 1, 21, []) := by decide +kernel
theorem xe_221_20 (a0 a1 a2 a3 a4 : Option MV) (st : List MV) (μ : MM) (G : MG) : ev 221 20 [a0, a1, a2, a3, a4] st μ G = ev 221 21 [a0, a1, a2, a3, a4] (vI (1) :: st) μ G := ev_stp pg_221_20 rfl
theorem pg_221_21 : mm_prog 221 21 = some (0, .istore_n 1, 22, []) := by decide +kernel
theorem xe_221_21 (a0 a1 a2 a3 a4 : Option MV) (x : Int) (st : List MV) (μ : MM) (G : MG) (h : mm_nL a0 = true) : ev 221 21 [a0, a1, a2, a3, a4] (vI x :: st) μ G = ev 221 22 [a0, some (vI x), a2, a3, a4] st μ G := ev_st pg_221_21 rfl (mm_nl_of h) (Nat.le_of_ble_eq_true rfl)
theorem pg_221_22 : mm_prog 221 22 = some (0, .iconst 0, 23, []) := by decide +kernel
theorem xe_221_22 (a0 a1 a2 a3 a4 : Option MV) (st : List MV) (μ : MM) (G : MG) : ev 221 22 [a0, a1, a2, a3, a4] st μ G = ev 221 23 [a0, a1, a2, a3, a4] (vI (0) :: st) μ G := ev_stp pg_221_22 rfl
theorem pg_221_23 : mm_prog 221 23 = some (0, .istore_n 2, 24, []) := by decide +kernel
theorem xe_221_23 (a0 a1 a2 a3 a4 : Option MV) (x : Int) (st : List MV) (μ : MM) (G : MG) (h : mm_nL a1 = true) : ev 221 23 [a0, a1, a2, a3, a4] (vI x :: st) μ G = ev 221 24 [a0, a1, some (vI x), a3, a4] st μ G := ev_st pg_221_23 rfl (mm_nl_of h) (Nat.le_of_ble_eq_true rfl)
theorem pg_221_24 : mm_prog 221 24 = some (0, .iconst 0, 25, []) := by decide +kernel
theorem xe_221_24 (a0 a1 a2 a3 a4 : Option MV) (st : List MV) (μ : MM) (G : MG) : ev 221 24 [a0, a1, a2, a3, a4] st μ G = ev 221 25 [a0, a1, a2, a3, a4] (vI (0) :: st) μ G := ev_stp pg_221_24 rfl
theorem pg_221_25 : mm_prog 221 25 = some (0, .istore_n 3, 26, []) := by decide +kernel
theorem xe_221_25 (a0 a1 a2 a3 a4 : Option MV) (x : Int) (st : List MV) (μ : MM) (G : MG) (h : mm_nL a2 = true) : ev 221 25 [a0, a1, a2, a3, a4] (vI x :: st) μ G = ev 221 26 [a0, a1, a2, some (vI x), a4] st μ G := ev_st pg_221_25 rfl (mm_nl_of h) (Nat.le_of_ble_eq_true rfl)
theorem pg_221_26 : mm_prog 221 26 = some (0, .iload_n 3, 27, []) := by decide +kernel
theorem xe_221_26 (a0 a1 a2 a4 : Option MV) (x : Int) (st : List MV) (μ : MM) (G : MG) : ev 221 26 [a0, a1, a2, some (vI x), a4] st μ G = ev 221 27 [a0, a1, a2, some (vI x), a4] (vI x :: st) μ G := ev_stp pg_221_26 rfl
theorem pg_221_27 : mm_prog 221 27 = some (0, .aload_n 0, 28, []) := by decide +kernel
theorem xe_221_27 (a1 a2 a3 a4 : Option MV) (x : Int) (st : List MV) (μ : MM) (G : MG) : ev 221 27 [some (vR x), a1, a2, a3, a4] st μ G = ev 221 28 [some (vR x), a1, a2, a3, a4] (vR x :: st) μ G := ev_stp pg_221_27 rfl
theorem pg_221_28 : mm_prog 221 28 = some (0, .getfield 75, 31, [11, 35, 2]) := by decide +kernel
theorem xe_221_28 (a0 a1 a2 a3 a4 : Option MV) (x : Int) (st : List MV) (μ : MM) (G : MG) : ev 221 28 [a0, a1, a2, a3, a4] (vR x :: st) μ G = if gk G x = 11 then ev 221 31 [a0, a1, a2, a3, a4] (vR (μ x 35) :: st) μ G else none := ev_if pg_221_28 rfl
theorem pg_221_31 : mm_prog 221 31 = some (0, .iconst 1, 32, []) := by decide +kernel
theorem xe_221_31 (a0 a1 a2 a3 a4 : Option MV) (st : List MV) (μ : MM) (G : MG) : ev 221 31 [a0, a1, a2, a3, a4] st μ G = ev 221 32 [a0, a1, a2, a3, a4] (vI (1) :: st) μ G := ev_stp pg_221_31 rfl
theorem pg_221_32 : mm_prog 221 32 = some (0, .iaload, 33, []) := by decide +kernel
theorem xe_221_32 (a0 a1 a2 a3 a4 : Option MV) (x y : Int) (st : List MV) (μ : MM) (G : MG) : ev 221 32 [a0, a1, a2, a3, a4] (vI x :: vR y :: st) μ G = if gk G y = 100 ∧ 0 ≤ x ∧ x < gl G y then ev 221 33 [a0, a1, a2, a3, a4] (vI (μ y x) :: st) μ G else none := ev_if pg_221_32 rfl
theorem pg_221_33 : mm_prog 221 33 = some (0, .if_icmp .ge 125, 36, []) := by decide +kernel
theorem xe_221_33 (a0 a1 a2 a3 a4 : Option MV) (x y : Int) (st : List MV) (μ : MM) (G : MG) : ev 221 33 [a0, a1, a2, a3, a4] (vI y :: vI x :: st) μ G = if y ≤ x then ev 221 158 [a0, a1, a2, a3, a4] st μ G else ev 221 36 [a0, a1, a2, a3, a4] st μ G := ev_br (mm_cnd_ge x y) pg_221_33 rfl
theorem pg_221_36 : mm_prog 221 36 = some (0, .aload_n 0, 37, []) := by decide +kernel
theorem xe_221_36 (a1 a2 a3 a4 : Option MV) (x : Int) (st : List MV) (μ : MM) (G : MG) : ev 221 36 [some (vR x), a1, a2, a3, a4] st μ G = ev 221 37 [some (vR x), a1, a2, a3, a4] (vR x :: st) μ G := ev_stp pg_221_36 rfl
theorem pg_221_37 : mm_prog 221 37 = some (0, .iload_n 3, 38, []) := by decide +kernel
theorem xe_221_37 (a0 a1 a2 a4 : Option MV) (x : Int) (st : List MV) (μ : MM) (G : MG) : ev 221 37 [a0, a1, a2, some (vI x), a4] st μ G = ev 221 38 [a0, a1, a2, some (vI x), a4] (vI x :: st) μ G := ev_stp pg_221_37 rfl
theorem pg_221_38 : mm_prog 221 38 = some (1, .invokevirtual 359, 41, [1, 218, 1, 11]) := by decide +kernel
theorem xe_221_38 (a0 a1 a2 a3 a4 : Option MV) (x0 z : Int) (μ : MM) (G : MG) : ev 221 38 [a0, a1, a2, a3, a4] (vI x0 :: vR z :: []) μ G = if gk G z = 11 ∧ 0 < z then (ev 218 0 [some (vR z), some (vI x0)] [] μ G).bind (fun q => ev 221 41 [a0, a1, a2, a3, a4] (q.1.toList ++ []) q.2.1 q.2.2) else none := ev_calV (as := [vR z, vI x0]) (r := []) mx_218 pg_221_38 rfl rfl (Nat.le_of_ble_eq_true rfl) (Nat.le_of_ble_eq_true rfl)
theorem pg_221_41 : mm_prog 221 41 = some (0, .ifCond .ne 22, 44, []) := by decide +kernel
theorem xe_221_41 (a0 a1 a2 a3 a4 : Option MV) (x : Int) (st : List MV) (μ : MM) (G : MG) : ev 221 41 [a0, a1, a2, a3, a4] (vI x :: st) μ G = if ¬ x = 0 then ev 221 63 [a0, a1, a2, a3, a4] st μ G else ev 221 44 [a0, a1, a2, a3, a4] st μ G := ev_br (mm_cnd_ne x 0) pg_221_41 rfl
theorem pg_221_44 : mm_prog 221 44 = some (0, .aload_n 0, 45, []) := by decide +kernel
theorem xe_221_44 (a1 a2 a3 a4 : Option MV) (x : Int) (st : List MV) (μ : MM) (G : MG) : ev 221 44 [some (vR x), a1, a2, a3, a4] st μ G = ev 221 45 [some (vR x), a1, a2, a3, a4] (vR x :: st) μ G := ev_stp pg_221_44 rfl
theorem pg_221_45 : mm_prog 221 45 = some (0, .getfield 75, 48, [11, 35, 2]) := by decide +kernel
theorem xe_221_45 (a0 a1 a2 a3 a4 : Option MV) (x : Int) (st : List MV) (μ : MM) (G : MG) : ev 221 45 [a0, a1, a2, a3, a4] (vR x :: st) μ G = if gk G x = 11 then ev 221 48 [a0, a1, a2, a3, a4] (vR (μ x 35) :: st) μ G else none := ev_if pg_221_45 rfl
theorem pg_221_48 : mm_prog 221 48 = some (0, .iconst 3, 49, []) := by decide +kernel
theorem xe_221_48 (a0 a1 a2 a3 a4 : Option MV) (st : List MV) (μ : MM) (G : MG) : ev 221 48 [a0, a1, a2, a3, a4] st μ G = ev 221 49 [a0, a1, a2, a3, a4] (vI (3) :: st) μ G := ev_stp pg_221_48 rfl
theorem pg_221_49 : mm_prog 221 49 = some (0, .iaload, 50, []) := by decide +kernel
theorem xe_221_49 (a0 a1 a2 a3 a4 : Option MV) (x y : Int) (st : List MV) (μ : MM) (G : MG) : ev 221 49 [a0, a1, a2, a3, a4] (vI x :: vR y :: st) μ G = if gk G y = 100 ∧ 0 ≤ x ∧ x < gl G y then ev 221 50 [a0, a1, a2, a3, a4] (vI (μ y x) :: st) μ G else none := ev_if pg_221_49 rfl
theorem pg_221_50 : mm_prog 221 50 = some (0, .aload_n 0, 51, []) := by decide +kernel
theorem xe_221_50 (a1 a2 a3 a4 : Option MV) (x : Int) (st : List MV) (μ : MM) (G : MG) : ev 221 50 [some (vR x), a1, a2, a3, a4] st μ G = ev 221 51 [some (vR x), a1, a2, a3, a4] (vR x :: st) μ G := ev_stp pg_221_50 rfl
theorem pg_221_51 : mm_prog 221 51 = some (0, .getfield 84, 54, [11, 38, 2]) := by decide +kernel
theorem xe_221_51 (a0 a1 a2 a3 a4 : Option MV) (x : Int) (st : List MV) (μ : MM) (G : MG) : ev 221 51 [a0, a1, a2, a3, a4] (vR x :: st) μ G = if gk G x = 11 then ev 221 54 [a0, a1, a2, a3, a4] (vR (μ x 38) :: st) μ G else none := ev_if pg_221_51 rfl
theorem pg_221_54 : mm_prog 221 54 = some (0, .iload_n 3, 55, []) := by decide +kernel
theorem xe_221_54 (a0 a1 a2 a4 : Option MV) (x : Int) (st : List MV) (μ : MM) (G : MG) : ev 221 54 [a0, a1, a2, some (vI x), a4] st μ G = ev 221 55 [a0, a1, a2, some (vI x), a4] (vI x :: st) μ G := ev_stp pg_221_54 rfl
theorem pg_221_55 : mm_prog 221 55 = some (0, .iaload, 56, []) := by decide +kernel
theorem xe_221_55 (a0 a1 a2 a3 a4 : Option MV) (x y : Int) (st : List MV) (μ : MM) (G : MG) : ev 221 55 [a0, a1, a2, a3, a4] (vI x :: vR y :: st) μ G = if gk G y = 100 ∧ 0 ≤ x ∧ x < gl G y then ev 221 56 [a0, a1, a2, a3, a4] (vI (μ y x) :: st) μ G else none := ev_if pg_221_55 rfl
theorem pg_221_56 : mm_prog 221 56 = some (0, .if_icmp .le 7, 59, []) := by decide +kernel
theorem xe_221_56 (a0 a1 a2 a3 a4 : Option MV) (x y : Int) (st : List MV) (μ : MM) (G : MG) : ev 221 56 [a0, a1, a2, a3, a4] (vI y :: vI x :: st) μ G = if x ≤ y then ev 221 63 [a0, a1, a2, a3, a4] st μ G else ev 221 59 [a0, a1, a2, a3, a4] st μ G := ev_br (mm_cnd_le x y) pg_221_56 rfl
theorem pg_221_59 : mm_prog 221 59 = some (0, .iconst 1, 60, []) := by decide +kernel
theorem xe_221_59 (a0 a1 a2 a3 a4 : Option MV) (st : List MV) (μ : MM) (G : MG) : ev 221 59 [a0, a1, a2, a3, a4] st μ G = ev 221 60 [a0, a1, a2, a3, a4] (vI (1) :: st) μ G := ev_stp pg_221_59 rfl
theorem pg_221_60 : mm_prog 221 60 = some (0, .goto 4, 63, []) := by decide +kernel
theorem xe_221_60 (a0 a1 a2 a3 a4 : Option MV) (st : List MV) (μ : MM) (G : MG) : ev 221 60 [a0, a1, a2, a3, a4] st μ G = ev 221 64 [a0, a1, a2, a3, a4] st μ G := ev_stp pg_221_60 rfl
theorem pg_221_63 : mm_prog 221 63 = some (0, .iconst 0, 64, []) := by decide +kernel
theorem xe_221_63 (a0 a1 a2 a3 a4 : Option MV) (st : List MV) (μ : MM) (G : MG) : ev 221 63 [a0, a1, a2, a3, a4] st μ G = ev 221 64 [a0, a1, a2, a3, a4] (vI (0) :: st) μ G := ev_stp pg_221_63 rfl
theorem pg_221_64 : mm_prog 221 64 = some (0, .istore 4, 66, []) := by decide +kernel
theorem xe_221_64 (a0 a1 a2 a3 a4 : Option MV) (x : Int) (st : List MV) (μ : MM) (G : MG) (h : mm_nL a3 = true) : ev 221 64 [a0, a1, a2, a3, a4] (vI x :: st) μ G = ev 221 66 [a0, a1, a2, a3, some (vI x)] st μ G := ev_st pg_221_64 rfl (mm_nl_of h) (Nat.le_of_ble_eq_true rfl)
theorem pg_221_66 : mm_prog 221 66 = some (0, .aload_n 0, 67, []) := by decide +kernel
theorem xe_221_66 (a1 a2 a3 a4 : Option MV) (x : Int) (st : List MV) (μ : MM) (G : MG) : ev 221 66 [some (vR x), a1, a2, a3, a4] st μ G = ev 221 67 [some (vR x), a1, a2, a3, a4] (vR x :: st) μ G := ev_stp pg_221_66 rfl
theorem pg_221_67 : mm_prog 221 67 = some (0, .getfield 75, 70, [11, 35, 2]) := by decide +kernel
theorem xe_221_67 (a0 a1 a2 a3 a4 : Option MV) (x : Int) (st : List MV) (μ : MM) (G : MG) : ev 221 67 [a0, a1, a2, a3, a4] (vR x :: st) μ G = if gk G x = 11 then ev 221 70 [a0, a1, a2, a3, a4] (vR (μ x 35) :: st) μ G else none := ev_if pg_221_67 rfl
theorem pg_221_70 : mm_prog 221 70 = some (0, .bipush 16, 72, []) := by decide +kernel
theorem xe_221_70 (a0 a1 a2 a3 a4 : Option MV) (st : List MV) (μ : MM) (G : MG) : ev 221 70 [a0, a1, a2, a3, a4] st μ G = ev 221 72 [a0, a1, a2, a3, a4] (vI (16) :: st) μ G := ev_stp pg_221_70 rfl
theorem pg_221_72 : mm_prog 221 72 = some (0, .iload_n 3, 73, []) := by decide +kernel
theorem xe_221_72 (a0 a1 a2 a4 : Option MV) (x : Int) (st : List MV) (μ : MM) (G : MG) : ev 221 72 [a0, a1, a2, some (vI x), a4] st μ G = ev 221 73 [a0, a1, a2, some (vI x), a4] (vI x :: st) μ G := ev_stp pg_221_72 rfl
theorem pg_221_73 : mm_prog 221 73 = some (0, .iadd, 74, []) := by decide +kernel
theorem xe_221_73 (a0 a1 a2 a3 a4 : Option MV) (x y : Int) (st : List MV) (μ : MM) (G : MG) : ev 221 73 [a0, a1, a2, a3, a4] (vI y :: vI x :: st) μ G = ev 221 74 [a0, a1, a2, a3, a4] (vI (w32 (x + y)) :: st) μ G := ev_stp pg_221_73 rfl
theorem pg_221_74 : mm_prog 221 74 = some (0, .iload 4, 76, []) := by decide +kernel
theorem xe_221_74 (a0 a1 a2 a3 : Option MV) (x : Int) (st : List MV) (μ : MM) (G : MG) : ev 221 74 [a0, a1, a2, a3, some (vI x)] st μ G = ev 221 76 [a0, a1, a2, a3, some (vI x)] (vI x :: st) μ G := ev_stp pg_221_74 rfl
theorem pg_221_76 : mm_prog 221 76 = some (0, .ifCond .eq 7, 79, []) := by decide +kernel
theorem xe_221_76 (a0 a1 a2 a3 a4 : Option MV) (x : Int) (st : List MV) (μ : MM) (G : MG) : ev 221 76 [a0, a1, a2, a3, a4] (vI x :: st) μ G = if x = 0 then ev 221 83 [a0, a1, a2, a3, a4] st μ G else ev 221 79 [a0, a1, a2, a3, a4] st μ G := ev_br (mm_cnd_eq x 0) pg_221_76 rfl
theorem pg_221_79 : mm_prog 221 79 = some (0, .iconst 1, 80, []) := by decide +kernel
theorem xe_221_79 (a0 a1 a2 a3 a4 : Option MV) (st : List MV) (μ : MM) (G : MG) : ev 221 79 [a0, a1, a2, a3, a4] st μ G = ev 221 80 [a0, a1, a2, a3, a4] (vI (1) :: st) μ G := ev_stp pg_221_79 rfl
theorem pg_221_80 : mm_prog 221 80 = some (0, .goto 4, 83, []) := by decide +kernel
theorem xe_221_80 (a0 a1 a2 a3 a4 : Option MV) (st : List MV) (μ : MM) (G : MG) : ev 221 80 [a0, a1, a2, a3, a4] st μ G = ev 221 84 [a0, a1, a2, a3, a4] st μ G := ev_stp pg_221_80 rfl
theorem pg_221_83 : mm_prog 221 83 = some (0, .iconst 0, 84, []) := by decide +kernel
theorem xe_221_83 (a0 a1 a2 a3 a4 : Option MV) (st : List MV) (μ : MM) (G : MG) : ev 221 83 [a0, a1, a2, a3, a4] st μ G = ev 221 84 [a0, a1, a2, a3, a4] (vI (0) :: st) μ G := ev_stp pg_221_83 rfl
theorem pg_221_84 : mm_prog 221 84 = some (0, .iastore, 85, []) := by decide +kernel
theorem xe_221_84 (a0 a1 a2 a3 a4 : Option MV) (x y z : Int) (st : List MV) (μ : MM) (G : MG) : ev 221 84 [a0, a1, a2, a3, a4] (vI x :: vI y :: vR z :: st) μ G = if gk G z = 100 ∧ 0 ≤ y ∧ y < gl G z ∧ 10 ≤ z then ev 221 85 [a0, a1, a2, a3, a4] st (mset μ z y x) G else none := ev_if pg_221_84 rfl
theorem pg_221_85 : mm_prog 221 85 = some (0, .aload_n 0, 86, []) := by decide +kernel
theorem xe_221_85 (a1 a2 a3 a4 : Option MV) (x : Int) (st : List MV) (μ : MM) (G : MG) : ev 221 85 [some (vR x), a1, a2, a3, a4] st μ G = ev 221 86 [some (vR x), a1, a2, a3, a4] (vR x :: st) μ G := ev_stp pg_221_85 rfl
theorem pg_221_86 : mm_prog 221 86 = some (0, .dup, 87, []) := by decide +kernel
theorem xe_221_86 (a0 a1 a2 a3 a4 : Option MV) (x : Int) (st : List MV) (μ : MM) (G : MG) : ev 221 86 [a0, a1, a2, a3, a4] (vR x :: st) μ G = ev 221 87 [a0, a1, a2, a3, a4] (vR x :: vR x :: st) μ G := ev_stp pg_221_86 rfl
theorem pg_221_87 : mm_prog 221 87 = some (0, .getfield 362, 90, [11, 43, 0]) := by decide +kernel
theorem xe_221_87 (a0 a1 a2 a3 a4 : Option MV) (x : Int) (st : List MV) (μ : MM) (G : MG) : ev 221 87 [a0, a1, a2, a3, a4] (vR x :: st) μ G = if gk G x = 11 then ev 221 90 [a0, a1, a2, a3, a4] (vI (μ x 43) :: st) μ G else none := ev_if pg_221_87 rfl
theorem pg_221_90 : mm_prog 221 90 = some (0, .iload 4, 92, []) := by decide +kernel
theorem xe_221_90 (a0 a1 a2 a3 : Option MV) (x : Int) (st : List MV) (μ : MM) (G : MG) : ev 221 90 [a0, a1, a2, a3, some (vI x)] st μ G = ev 221 92 [a0, a1, a2, a3, some (vI x)] (vI x :: st) μ G := ev_stp pg_221_90 rfl
theorem pg_221_92 : mm_prog 221 92 = some (0, .ifCond .eq 9, 95, []) := by decide +kernel
theorem xe_221_92 (a0 a1 a2 a3 a4 : Option MV) (x : Int) (st : List MV) (μ : MM) (G : MG) : ev 221 92 [a0, a1, a2, a3, a4] (vI x :: st) μ G = if x = 0 then ev 221 101 [a0, a1, a2, a3, a4] st μ G else ev 221 95 [a0, a1, a2, a3, a4] st μ G := ev_br (mm_cnd_eq x 0) pg_221_92 rfl
theorem pg_221_95 : mm_prog 221 95 = some (0, .iconst 1, 96, []) := by decide +kernel
theorem xe_221_95 (a0 a1 a2 a3 a4 : Option MV) (st : List MV) (μ : MM) (G : MG) : ev 221 95 [a0, a1, a2, a3, a4] st μ G = ev 221 96 [a0, a1, a2, a3, a4] (vI (1) :: st) μ G := ev_stp pg_221_95 rfl
theorem pg_221_96 : mm_prog 221 96 = some (0, .iload_n 3, 97, []) := by decide +kernel
theorem xe_221_96 (a0 a1 a2 a4 : Option MV) (x : Int) (st : List MV) (μ : MM) (G : MG) : ev 221 96 [a0, a1, a2, some (vI x), a4] st μ G = ev 221 97 [a0, a1, a2, some (vI x), a4] (vI x :: st) μ G := ev_stp pg_221_96 rfl
theorem pg_221_97 : mm_prog 221 97 = some (0, .ishl, 98, []) := by decide +kernel
theorem xe_221_97 (a0 a1 a2 a3 a4 : Option MV) (x y : Int) (st : List MV) (μ : MM) (G : MG) : ev 221 97 [a0, a1, a2, a3, a4] (vI y :: vI x :: st) μ G = ev 221 98 [a0, a1, a2, a3, a4] (vI (mm_shl x y) :: st) μ G := ev_stp pg_221_97 rfl
theorem pg_221_98 : mm_prog 221 98 = some (0, .goto 4, 101, []) := by decide +kernel
theorem xe_221_98 (a0 a1 a2 a3 a4 : Option MV) (st : List MV) (μ : MM) (G : MG) : ev 221 98 [a0, a1, a2, a3, a4] st μ G = ev 221 102 [a0, a1, a2, a3, a4] st μ G := ev_stp pg_221_98 rfl
theorem pg_221_101 : mm_prog 221 101 = some (0, .iconst 0, 102, []) := by decide +kernel
theorem xe_221_101 (a0 a1 a2 a3 a4 : Option MV) (st : List MV) (μ : MM) (G : MG) : ev 221 101 [a0, a1, a2, a3, a4] st μ G = ev 221 102 [a0, a1, a2, a3, a4] (vI (0) :: st) μ G := ev_stp pg_221_101 rfl
theorem pg_221_102 : mm_prog 221 102 = some (0, .ior, 103, []) := by decide +kernel
theorem xe_221_102 (a0 a1 a2 a3 a4 : Option MV) (x y : Int) (st : List MV) (μ : MM) (G : MG) : ev 221 102 [a0, a1, a2, a3, a4] (vI y :: vI x :: st) μ G = ev 221 103 [a0, a1, a2, a3, a4] (vI (mm_or x y) :: st) μ G := ev_stp pg_221_102 rfl
theorem pg_221_103 : mm_prog 221 103 = some (0, .putfield 362, 106, [11, 43, 0]) := by decide +kernel
theorem xe_221_103 (a0 a1 a2 a3 a4 : Option MV) (x y : Int) (st : List MV) (μ : MM) (G : MG) : ev 221 103 [a0, a1, a2, a3, a4] (vI x :: vR y :: st) μ G = if gk G y = 11 then ev 221 106 [a0, a1, a2, a3, a4] st (mset μ y 43 x) G else none := ev_put0 pg_221_103
theorem pg_221_106 : mm_prog 221 106 = some (0, .iload_n 1, 107, []) := by decide +kernel
theorem xe_221_106 (a0 a2 a3 a4 : Option MV) (x : Int) (st : List MV) (μ : MM) (G : MG) : ev 221 106 [a0, some (vI x), a2, a3, a4] st μ G = ev 221 107 [a0, some (vI x), a2, a3, a4] (vI x :: st) μ G := ev_stp pg_221_106 rfl
theorem pg_221_107 : mm_prog 221 107 = some (0, .ifCond .eq 12, 110, []) := by decide +kernel
theorem xe_221_107 (a0 a1 a2 a3 a4 : Option MV) (x : Int) (st : List MV) (μ : MM) (G : MG) : ev 221 107 [a0, a1, a2, a3, a4] (vI x :: st) μ G = if x = 0 then ev 221 119 [a0, a1, a2, a3, a4] st μ G else ev 221 110 [a0, a1, a2, a3, a4] st μ G := ev_br (mm_cnd_eq x 0) pg_221_107 rfl
theorem pg_221_110 : mm_prog 221 110 = some (0, .iload 4, 112, []) := by decide +kernel
theorem xe_221_110 (a0 a1 a2 a3 : Option MV) (x : Int) (st : List MV) (μ : MM) (G : MG) : ev 221 110 [a0, a1, a2, a3, some (vI x)] st μ G = ev 221 112 [a0, a1, a2, a3, some (vI x)] (vI x :: st) μ G := ev_stp pg_221_110 rfl
theorem pg_221_112 : mm_prog 221 112 = some (0, .ifCond .eq 7, 115, []) := by decide +kernel
theorem xe_221_112 (a0 a1 a2 a3 a4 : Option MV) (x : Int) (st : List MV) (μ : MM) (G : MG) : ev 221 112 [a0, a1, a2, a3, a4] (vI x :: st) μ G = if x = 0 then ev 221 119 [a0, a1, a2, a3, a4] st μ G else ev 221 115 [a0, a1, a2, a3, a4] st μ G := ev_br (mm_cnd_eq x 0) pg_221_112 rfl
theorem pg_221_115 : mm_prog 221 115 = some (0, .iconst 1, 116, []) := by decide +kernel
theorem xe_221_115 (a0 a1 a2 a3 a4 : Option MV) (st : List MV) (μ : MM) (G : MG) : ev 221 115 [a0, a1, a2, a3, a4] st μ G = ev 221 116 [a0, a1, a2, a3, a4] (vI (1) :: st) μ G := ev_stp pg_221_115 rfl
theorem pg_221_116 : mm_prog 221 116 = some (0, .goto 4, 119, []) := by decide +kernel
theorem xe_221_116 (a0 a1 a2 a3 a4 : Option MV) (st : List MV) (μ : MM) (G : MG) : ev 221 116 [a0, a1, a2, a3, a4] st μ G = ev 221 120 [a0, a1, a2, a3, a4] st μ G := ev_stp pg_221_116 rfl
theorem pg_221_119 : mm_prog 221 119 = some (0, .iconst 0, 120, []) := by decide +kernel
theorem xe_221_119 (a0 a1 a2 a3 a4 : Option MV) (st : List MV) (μ : MM) (G : MG) : ev 221 119 [a0, a1, a2, a3, a4] st μ G = ev 221 120 [a0, a1, a2, a3, a4] (vI (0) :: st) μ G := ev_stp pg_221_119 rfl
theorem pg_221_120 : mm_prog 221 120 = some (0, .istore_n 1, 121, []) := by decide +kernel
theorem xe_221_120 (a0 a1 a2 a3 a4 : Option MV) (x : Int) (st : List MV) (μ : MM) (G : MG) (h : mm_nL a0 = true) : ev 221 120 [a0, a1, a2, a3, a4] (vI x :: st) μ G = ev 221 121 [a0, some (vI x), a2, a3, a4] st μ G := ev_st pg_221_120 rfl (mm_nl_of h) (Nat.le_of_ble_eq_true rfl)
theorem pg_221_121 : mm_prog 221 121 = some (0, .iload_n 2, 122, []) := by decide +kernel
theorem xe_221_121 (a0 a1 a3 a4 : Option MV) (x : Int) (st : List MV) (μ : MM) (G : MG) : ev 221 121 [a0, a1, some (vI x), a3, a4] st μ G = ev 221 122 [a0, a1, some (vI x), a3, a4] (vI x :: st) μ G := ev_stp pg_221_121 rfl
theorem pg_221_122 : mm_prog 221 122 = some (0, .ifCond .ne 24, 125, []) := by decide +kernel
theorem xe_221_122 (a0 a1 a2 a3 a4 : Option MV) (x : Int) (st : List MV) (μ : MM) (G : MG) : ev 221 122 [a0, a1, a2, a3, a4] (vI x :: st) μ G = if ¬ x = 0 then ev 221 146 [a0, a1, a2, a3, a4] st μ G else ev 221 125 [a0, a1, a2, a3, a4] st μ G := ev_br (mm_cnd_ne x 0) pg_221_122 rfl
theorem pg_221_125 : mm_prog 221 125 = some (0, .aload_n 0, 126, []) := by decide +kernel
theorem xe_221_125 (a1 a2 a3 a4 : Option MV) (x : Int) (st : List MV) (μ : MM) (G : MG) : ev 221 125 [some (vR x), a1, a2, a3, a4] st μ G = ev 221 126 [some (vR x), a1, a2, a3, a4] (vR x :: st) μ G := ev_stp pg_221_125 rfl
theorem pg_221_126 : mm_prog 221 126 = some (0, .iload_n 3, 127, []) := by decide +kernel
theorem xe_221_126 (a0 a1 a2 a4 : Option MV) (x : Int) (st : List MV) (μ : MM) (G : MG) : ev 221 126 [a0, a1, a2, some (vI x), a4] st μ G = ev 221 127 [a0, a1, a2, some (vI x), a4] (vI x :: st) μ G := ev_stp pg_221_126 rfl
theorem pg_221_127 : mm_prog 221 127 = some (1, .invokevirtual 359, 130, [1, 218, 1, 11]) := by decide +kernel
theorem xe_221_127 (a0 a1 a2 a3 a4 : Option MV) (x0 z : Int) (μ : MM) (G : MG) : ev 221 127 [a0, a1, a2, a3, a4] (vI x0 :: vR z :: []) μ G = if gk G z = 11 ∧ 0 < z then (ev 218 0 [some (vR z), some (vI x0)] [] μ G).bind (fun q => ev 221 130 [a0, a1, a2, a3, a4] (q.1.toList ++ []) q.2.1 q.2.2) else none := ev_calV (as := [vR z, vI x0]) (r := []) mx_218 pg_221_127 rfl rfl (Nat.le_of_ble_eq_true rfl) (Nat.le_of_ble_eq_true rfl)
theorem pg_221_130 : mm_prog 221 130 = some (0, .ifCond .eq 20, 133, []) := by decide +kernel
theorem xe_221_130 (a0 a1 a2 a3 a4 : Option MV) (x : Int) (st : List MV) (μ : MM) (G : MG) : ev 221 130 [a0, a1, a2, a3, a4] (vI x :: st) μ G = if x = 0 then ev 221 150 [a0, a1, a2, a3, a4] st μ G else ev 221 133 [a0, a1, a2, a3, a4] st μ G := ev_br (mm_cnd_eq x 0) pg_221_130 rfl
theorem pg_221_133 : mm_prog 221 133 = some (0, .aload_n 0, 134, []) := by decide +kernel
theorem xe_221_133 (a1 a2 a3 a4 : Option MV) (x : Int) (st : List MV) (μ : MM) (G : MG) : ev 221 133 [some (vR x), a1, a2, a3, a4] st μ G = ev 221 134 [some (vR x), a1, a2, a3, a4] (vR x :: st) μ G := ev_stp pg_221_133 rfl
theorem pg_221_134 : mm_prog 221 134 = some (0, .getfield 75, 137, [11, 35, 2]) := by decide +kernel
theorem xe_221_134 (a0 a1 a2 a3 a4 : Option MV) (x : Int) (st : List MV) (μ : MM) (G : MG) : ev 221 134 [a0, a1, a2, a3, a4] (vR x :: st) μ G = if gk G x = 11 then ev 221 137 [a0, a1, a2, a3, a4] (vR (μ x 35) :: st) μ G else none := ev_if pg_221_134 rfl
theorem pg_221_137 : mm_prog 221 137 = some (0, .bipush 8, 139, []) := by decide +kernel
theorem xe_221_137 (a0 a1 a2 a3 a4 : Option MV) (st : List MV) (μ : MM) (G : MG) : ev 221 137 [a0, a1, a2, a3, a4] st μ G = ev 221 139 [a0, a1, a2, a3, a4] (vI (8) :: st) μ G := ev_stp pg_221_137 rfl
theorem pg_221_139 : mm_prog 221 139 = some (0, .iload_n 3, 140, []) := by decide +kernel
theorem xe_221_139 (a0 a1 a2 a4 : Option MV) (x : Int) (st : List MV) (μ : MM) (G : MG) : ev 221 139 [a0, a1, a2, some (vI x), a4] st μ G = ev 221 140 [a0, a1, a2, some (vI x), a4] (vI x :: st) μ G := ev_stp pg_221_139 rfl
theorem pg_221_140 : mm_prog 221 140 = some (0, .iadd, 141, []) := by decide +kernel
theorem xe_221_140 (a0 a1 a2 a3 a4 : Option MV) (x y : Int) (st : List MV) (μ : MM) (G : MG) : ev 221 140 [a0, a1, a2, a3, a4] (vI y :: vI x :: st) μ G = ev 221 141 [a0, a1, a2, a3, a4] (vI (w32 (x + y)) :: st) μ G := ev_stp pg_221_140 rfl
theorem pg_221_141 : mm_prog 221 141 = some (0, .iaload, 142, []) := by decide +kernel
theorem xe_221_141 (a0 a1 a2 a3 a4 : Option MV) (x y : Int) (st : List MV) (μ : MM) (G : MG) : ev 221 141 [a0, a1, a2, a3, a4] (vI x :: vR y :: st) μ G = if gk G y = 100 ∧ 0 ≤ x ∧ x < gl G y then ev 221 142 [a0, a1, a2, a3, a4] (vI (μ y x) :: st) μ G else none := ev_if pg_221_141 rfl
theorem pg_221_142 : mm_prog 221 142 = some (0, .iconst 3, 143, []) := by decide +kernel
theorem xe_221_142 (a0 a1 a2 a3 a4 : Option MV) (st : List MV) (μ : MM) (G : MG) : ev 221 142 [a0, a1, a2, a3, a4] st μ G = ev 221 143 [a0, a1, a2, a3, a4] (vI (3) :: st) μ G := ev_stp pg_221_142 rfl
theorem pg_221_143 : mm_prog 221 143 = some (0, .if_icmp .ne 7, 146, []) := by decide +kernel
theorem xe_221_143 (a0 a1 a2 a3 a4 : Option MV) (x y : Int) (st : List MV) (μ : MM) (G : MG) : ev 221 143 [a0, a1, a2, a3, a4] (vI y :: vI x :: st) μ G = if ¬ x = y then ev 221 150 [a0, a1, a2, a3, a4] st μ G else ev 221 146 [a0, a1, a2, a3, a4] st μ G := ev_br (mm_cnd_ne x y) pg_221_143 rfl
theorem pg_221_146 : mm_prog 221 146 = some (0, .iconst 1, 147, []) := by decide +kernel
theorem xe_221_146 (a0 a1 a2 a3 a4 : Option MV) (st : List MV) (μ : MM) (G : MG) : ev 221 146 [a0, a1, a2, a3, a4] st μ G = ev 221 147 [a0, a1, a2, a3, a4] (vI (1) :: st) μ G := ev_stp pg_221_146 rfl
theorem pg_221_147 : mm_prog 221 147 = some (0, .goto 4, 150, []) := by decide +kernel
theorem xe_221_147 (a0 a1 a2 a3 a4 : Option MV) (st : List MV) (μ : MM) (G : MG) : ev 221 147 [a0, a1, a2, a3, a4] st μ G = ev 221 151 [a0, a1, a2, a3, a4] st μ G := ev_stp pg_221_147 rfl
theorem pg_221_150 : mm_prog 221 150 = some (0, .iconst 0, 151, []) := by decide +kernel
theorem xe_221_150 (a0 a1 a2 a3 a4 : Option MV) (st : List MV) (μ : MM) (G : MG) : ev 221 150 [a0, a1, a2, a3, a4] st μ G = ev 221 151 [a0, a1, a2, a3, a4] (vI (0) :: st) μ G := ev_stp pg_221_150 rfl
theorem pg_221_151 : mm_prog 221 151 = some (0, .istore_n 2, 152, []) := by decide +kernel
theorem xe_221_151 (a0 a1 a2 a3 a4 : Option MV) (x : Int) (st : List MV) (μ : MM) (G : MG) (h : mm_nL a1 = true) : ev 221 151 [a0, a1, a2, a3, a4] (vI x :: st) μ G = ev 221 152 [a0, a1, some (vI x), a3, a4] st μ G := ev_st pg_221_151 rfl (mm_nl_of h) (Nat.le_of_ble_eq_true rfl)
theorem pg_221_152 : mm_prog 221 152 = some (0, .iinc 3 1, 155, []) := by decide +kernel
theorem xe_221_152 (a0 a1 a2 a4 : Option MV) (x : Int) (st : List MV) (μ : MM) (G : MG) (h : mm_nL a2 = true) : ev 221 152 [a0, a1, a2, some (vI x), a4] st μ G = ev 221 155 [a0, a1, a2, some (vI (w32 (x + (1)))), a4] st μ G := ev_st pg_221_152 rfl (mm_nl_of h) (Nat.le_of_ble_eq_true rfl)
theorem pg_221_155 : mm_prog 221 155 = some (0, .goto (-129), 158, []) := by decide +kernel
theorem xe_221_155 (a0 a1 a2 a3 a4 : Option MV) (st : List MV) (μ : MM) (G : MG) : ev 221 155 [a0, a1, a2, a3, a4] st μ G = ev 221 26 [a0, a1, a2, a3, a4] st μ G := ev_stp pg_221_155 rfl
theorem pg_221_158 : mm_prog 221 158 = some (0, .iload_n 1, 159, []) := by decide +kernel
theorem xe_221_158 (a0 a2 a3 a4 : Option MV) (x : Int) (st : List MV) (μ : MM) (G : MG) : ev 221 158 [a0, some (vI x), a2, a3, a4] st μ G = ev 221 159 [a0, some (vI x), a2, a3, a4] (vI x :: st) μ G := ev_stp pg_221_158 rfl
theorem pg_221_159 : mm_prog 221 159 = some (0, .ifCond .eq 17, 162, []) := by decide +kernel
theorem xe_221_159 (a0 a1 a2 a3 a4 : Option MV) (x : Int) (st : List MV) (μ : MM) (G : MG) : ev 221 159 [a0, a1, a2, a3, a4] (vI x :: st) μ G = if x = 0 then ev 221 176 [a0, a1, a2, a3, a4] st μ G else ev 221 162 [a0, a1, a2, a3, a4] st μ G := ev_br (mm_cnd_eq x 0) pg_221_159 rfl
theorem pg_221_162 : mm_prog 221 162 = some (0, .aload_n 0, 163, []) := by decide +kernel
theorem xe_221_162 (a1 a2 a3 a4 : Option MV) (x : Int) (st : List MV) (μ : MM) (G : MG) : ev 221 162 [some (vR x), a1, a2, a3, a4] st μ G = ev 221 163 [some (vR x), a1, a2, a3, a4] (vR x :: st) μ G := ev_stp pg_221_162 rfl
theorem pg_221_163 : mm_prog 221 163 = some (0, .getfield 75, 166, [11, 35, 2]) := by decide +kernel
theorem xe_221_163 (a0 a1 a2 a3 a4 : Option MV) (x : Int) (st : List MV) (μ : MM) (G : MG) : ev 221 163 [a0, a1, a2, a3, a4] (vR x :: st) μ G = if gk G x = 11 then ev 221 166 [a0, a1, a2, a3, a4] (vR (μ x 35) :: st) μ G else none := ev_if pg_221_163 rfl
theorem pg_221_166 : mm_prog 221 166 = some (0, .iconst 0, 167, []) := by decide +kernel
theorem xe_221_166 (a0 a1 a2 a3 a4 : Option MV) (st : List MV) (μ : MM) (G : MG) : ev 221 166 [a0, a1, a2, a3, a4] st μ G = ev 221 167 [a0, a1, a2, a3, a4] (vI (0) :: st) μ G := ev_stp pg_221_166 rfl
theorem pg_221_167 : mm_prog 221 167 = some (0, .iconst 2, 168, []) := by decide +kernel
theorem xe_221_167 (a0 a1 a2 a3 a4 : Option MV) (st : List MV) (μ : MM) (G : MG) : ev 221 167 [a0, a1, a2, a3, a4] st μ G = ev 221 168 [a0, a1, a2, a3, a4] (vI (2) :: st) μ G := ev_stp pg_221_167 rfl
theorem pg_221_168 : mm_prog 221 168 = some (0, .iastore, 169, []) := by decide +kernel
theorem xe_221_168 (a0 a1 a2 a3 a4 : Option MV) (x y z : Int) (st : List MV) (μ : MM) (G : MG) : ev 221 168 [a0, a1, a2, a3, a4] (vI x :: vI y :: vR z :: st) μ G = if gk G z = 100 ∧ 0 ≤ y ∧ y < gl G z ∧ 10 ≤ z then ev 221 169 [a0, a1, a2, a3, a4] st (mset μ z y x) G else none := ev_if pg_221_168 rfl
theorem pg_221_169 : mm_prog 221 169 = some (0, .aload_n 0, 170, []) := by decide +kernel
theorem xe_221_169 (a1 a2 a3 a4 : Option MV) (x : Int) (st : List MV) (μ : MM) (G : MG) : ev 221 169 [some (vR x), a1, a2, a3, a4] st μ G = ev 221 170 [some (vR x), a1, a2, a3, a4] (vR x :: st) μ G := ev_stp pg_221_169 rfl
theorem pg_221_170 : mm_prog 221 170 = some (0, .bipush 7, 172, []) := by decide +kernel
theorem xe_221_170 (a0 a1 a2 a3 a4 : Option MV) (st : List MV) (μ : MM) (G : MG) : ev 221 170 [a0, a1, a2, a3, a4] st μ G = ev 221 172 [a0, a1, a2, a3, a4] (vI (7) :: st) μ G := ev_stp pg_221_170 rfl
theorem pg_221_172 : mm_prog 221 172 = some (0, .putfield 356, 175, [11, 44, 0]) := by decide +kernel
theorem xe_221_172 (a0 a1 a2 a3 a4 : Option MV) (x y : Int) (st : List MV) (μ : MM) (G : MG) : ev 221 172 [a0, a1, a2, a3, a4] (vI x :: vR y :: st) μ G = if gk G y = 11 then ev 221 175 [a0, a1, a2, a3, a4] st (mset μ y 44 x) G else none := ev_put0 pg_221_172
theorem pg_221_175 : mm_prog 221 175 = some (2, .return_, 176, []) := by decide +kernel
theorem xe_221_175 (a0 a1 a2 a3 a4 : Option MV) (μ : MM) (G : MG) : ev 221 175 [a0, a1, a2, a3, a4] [] μ G = some (none, μ, G) := ev_ret pg_221_175 rfl
theorem pg_221_176 : mm_prog 221 176 = some (0, .iload_n 2, 177, []) := by decide +kernel
theorem xe_221_176 (a0 a1 a3 a4 : Option MV) (x : Int) (st : List MV) (μ : MM) (G : MG) : ev 221 176 [a0, a1, some (vI x), a3, a4] st μ G = ev 221 177 [a0, a1, some (vI x), a3, a4] (vI x :: st) μ G := ev_stp pg_221_176 rfl
theorem pg_221_177 : mm_prog 221 177 = some (0, .ifCond .ne 25, 180, []) := by decide +kernel
theorem xe_221_177 (a0 a1 a2 a3 a4 : Option MV) (x : Int) (st : List MV) (μ : MM) (G : MG) : ev 221 177 [a0, a1, a2, a3, a4] (vI x :: st) μ G = if ¬ x = 0 then ev 221 202 [a0, a1, a2, a3, a4] st μ G else ev 221 180 [a0, a1, a2, a3, a4] st μ G := ev_br (mm_cnd_ne x 0) pg_221_177 rfl
theorem pg_221_180 : mm_prog 221 180 = some (0, .aload_n 0, 181, []) := by decide +kernel
theorem xe_221_180 (a1 a2 a3 a4 : Option MV) (x : Int) (st : List MV) (μ : MM) (G : MG) : ev 221 180 [some (vR x), a1, a2, a3, a4] st μ G = ev 221 181 [some (vR x), a1, a2, a3, a4] (vR x :: st) μ G := ev_stp pg_221_180 rfl
theorem pg_221_181 : mm_prog 221 181 = some (0, .getfield 75, 184, [11, 35, 2]) := by decide +kernel
theorem xe_221_181 (a0 a1 a2 a3 a4 : Option MV) (x : Int) (st : List MV) (μ : MM) (G : MG) : ev 221 181 [a0, a1, a2, a3, a4] (vR x :: st) μ G = if gk G x = 11 then ev 221 184 [a0, a1, a2, a3, a4] (vR (μ x 35) :: st) μ G else none := ev_if pg_221_181 rfl
theorem pg_221_184 : mm_prog 221 184 = some (0, .iconst 3, 185, []) := by decide +kernel
theorem xe_221_184 (a0 a1 a2 a3 a4 : Option MV) (st : List MV) (μ : MM) (G : MG) : ev 221 184 [a0, a1, a2, a3, a4] st μ G = ev 221 185 [a0, a1, a2, a3, a4] (vI (3) :: st) μ G := ev_stp pg_221_184 rfl
theorem pg_221_185 : mm_prog 221 185 = some (0, .iaload, 186, []) := by decide +kernel
theorem xe_221_185 (a0 a1 a2 a3 a4 : Option MV) (x y : Int) (st : List MV) (μ : MM) (G : MG) : ev 221 185 [a0, a1, a2, a3, a4] (vI x :: vR y :: st) μ G = if gk G y = 100 ∧ 0 ≤ x ∧ x < gl G y then ev 221 186 [a0, a1, a2, a3, a4] (vI (μ y x) :: st) μ G else none := ev_if pg_221_185 rfl
theorem pg_221_186 : mm_prog 221 186 = some (0, .bipush 10, 188, []) := by decide +kernel
theorem xe_221_186 (a0 a1 a2 a3 a4 : Option MV) (st : List MV) (μ : MM) (G : MG) : ev 221 186 [a0, a1, a2, a3, a4] st μ G = ev 221 188 [a0, a1, a2, a3, a4] (vI (10) :: st) μ G := ev_stp pg_221_186 rfl
theorem pg_221_188 : mm_prog 221 188 = some (0, .if_icmp .eq 14, 191, []) := by decide +kernel
theorem xe_221_188 (a0 a1 a2 a3 a4 : Option MV) (x y : Int) (st : List MV) (μ : MM) (G : MG) : ev 221 188 [a0, a1, a2, a3, a4] (vI y :: vI x :: st) μ G = if x = y then ev 221 202 [a0, a1, a2, a3, a4] st μ G else ev 221 191 [a0, a1, a2, a3, a4] st μ G := ev_br (mm_cnd_eq x y) pg_221_188 rfl
theorem pg_221_191 : mm_prog 221 191 = some (0, .aload_n 0, 192, []) := by decide +kernel
theorem xe_221_191 (a1 a2 a3 a4 : Option MV) (x : Int) (st : List MV) (μ : MM) (G : MG) : ev 221 191 [some (vR x), a1, a2, a3, a4] st μ G = ev 221 192 [some (vR x), a1, a2, a3, a4] (vR x :: st) μ G := ev_stp pg_221_191 rfl
theorem pg_221_192 : mm_prog 221 192 = some (0, .getfield 75, 195, [11, 35, 2]) := by decide +kernel
theorem xe_221_192 (a0 a1 a2 a3 a4 : Option MV) (x : Int) (st : List MV) (μ : MM) (G : MG) : ev 221 192 [a0, a1, a2, a3, a4] (vR x :: st) μ G = if gk G x = 11 then ev 221 195 [a0, a1, a2, a3, a4] (vR (μ x 35) :: st) μ G else none := ev_if pg_221_192 rfl
theorem pg_221_195 : mm_prog 221 195 = some (0, .iconst 4, 196, []) := by decide +kernel
theorem xe_221_195 (a0 a1 a2 a3 a4 : Option MV) (st : List MV) (μ : MM) (G : MG) : ev 221 195 [a0, a1, a2, a3, a4] st μ G = ev 221 196 [a0, a1, a2, a3, a4] (vI (4) :: st) μ G := ev_stp pg_221_195 rfl
theorem pg_221_196 : mm_prog 221 196 = some (0, .iaload, 197, []) := by decide +kernel
theorem xe_221_196 (a0 a1 a2 a3 a4 : Option MV) (x y : Int) (st : List MV) (μ : MM) (G : MG) : ev 221 196 [a0, a1, a2, a3, a4] (vI x :: vR y :: st) μ G = if gk G y = 100 ∧ 0 ≤ x ∧ x < gl G y then ev 221 197 [a0, a1, a2, a3, a4] (vI (μ y x) :: st) μ G else none := ev_if pg_221_196 rfl
theorem pg_221_197 : mm_prog 221 197 = some (0, .bipush 7, 199, []) := by decide +kernel
theorem xe_221_197 (a0 a1 a2 a3 a4 : Option MV) (st : List MV) (μ : MM) (G : MG) : ev 221 197 [a0, a1, a2, a3, a4] st μ G = ev 221 199 [a0, a1, a2, a3, a4] (vI (7) :: st) μ G := ev_stp pg_221_197 rfl
theorem pg_221_199 : mm_prog 221 199 = some (0, .if_icmp .ne 32, 202, []) := by decide +kernel
theorem xe_221_199 (a0 a1 a2 a3 a4 : Option MV) (x y : Int) (st : List MV) (μ : MM) (G : MG) : ev 221 199 [a0, a1, a2, a3, a4] (vI y :: vI x :: st) μ G = if ¬ x = y then ev 221 231 [a0, a1, a2, a3, a4] st μ G else ev 221 202 [a0, a1, a2, a3, a4] st μ G := ev_br (mm_cnd_ne x y) pg_221_199 rfl
theorem pg_221_202 : mm_prog 221 202 = some (0, .aload_n 0, 203, []) := by decide +kernel
theorem xe_221_202 (a1 a2 a3 a4 : Option MV) (x : Int) (st : List MV) (μ : MM) (G : MG) : ev 221 202 [some (vR x), a1, a2, a3, a4] st μ G = ev 221 203 [some (vR x), a1, a2, a3, a4] (vR x :: st) μ G := ev_stp pg_221_202 rfl
theorem pg_221_203 : mm_prog 221 203 = some (0, .iload_n 2, 204, []) := by decide +kernel
theorem xe_221_203 (a0 a1 a3 a4 : Option MV) (x : Int) (st : List MV) (μ : MM) (G : MG) : ev 221 203 [a0, a1, some (vI x), a3, a4] st μ G = ev 221 204 [a0, a1, some (vI x), a3, a4] (vI x :: st) μ G := ev_stp pg_221_203 rfl
theorem pg_221_204 : mm_prog 221 204 = some (0, .ifCond .eq 7, 207, []) := by decide +kernel
theorem xe_221_204 (a0 a1 a2 a3 a4 : Option MV) (x : Int) (st : List MV) (μ : MM) (G : MG) : ev 221 204 [a0, a1, a2, a3, a4] (vI x :: st) μ G = if x = 0 then ev 221 211 [a0, a1, a2, a3, a4] st μ G else ev 221 207 [a0, a1, a2, a3, a4] st μ G := ev_br (mm_cnd_eq x 0) pg_221_204 rfl
theorem pg_221_207 : mm_prog 221 207 = some (0, .iconst 1, 208, []) := by decide +kernel
theorem xe_221_207 (a0 a1 a2 a3 a4 : Option MV) (st : List MV) (μ : MM) (G : MG) : ev 221 207 [a0, a1, a2, a3, a4] st μ G = ev 221 208 [a0, a1, a2, a3, a4] (vI (1) :: st) μ G := ev_stp pg_221_207 rfl
theorem pg_221_208 : mm_prog 221 208 = some (0, .goto 19, 211, []) := by decide +kernel
theorem xe_221_208 (a0 a1 a2 a3 a4 : Option MV) (st : List MV) (μ : MM) (G : MG) : ev 221 208 [a0, a1, a2, a3, a4] st μ G = ev 221 227 [a0, a1, a2, a3, a4] st μ G := ev_stp pg_221_208 rfl
theorem pg_221_211 : mm_prog 221 211 = some (0, .aload_n 0, 212, []) := by decide +kernel
theorem xe_221_211 (a1 a2 a3 a4 : Option MV) (x : Int) (st : List MV) (μ : MM) (G : MG) : ev 221 211 [some (vR x), a1, a2, a3, a4] st μ G = ev 221 212 [some (vR x), a1, a2, a3, a4] (vR x :: st) μ G := ev_stp pg_221_211 rfl
theorem pg_221_212 : mm_prog 221 212 = some (0, .getfield 75, 215, [11, 35, 2]) := by decide +kernel
theorem xe_221_212 (a0 a1 a2 a3 a4 : Option MV) (x : Int) (st : List MV) (μ : MM) (G : MG) : ev 221 212 [a0, a1, a2, a3, a4] (vR x :: st) μ G = if gk G x = 11 then ev 221 215 [a0, a1, a2, a3, a4] (vR (μ x 35) :: st) μ G else none := ev_if pg_221_212 rfl
theorem pg_221_215 : mm_prog 221 215 = some (0, .iconst 3, 216, []) := by decide +kernel
theorem xe_221_215 (a0 a1 a2 a3 a4 : Option MV) (st : List MV) (μ : MM) (G : MG) : ev 221 215 [a0, a1, a2, a3, a4] st μ G = ev 221 216 [a0, a1, a2, a3, a4] (vI (3) :: st) μ G := ev_stp pg_221_215 rfl
theorem pg_221_216 : mm_prog 221 216 = some (0, .iaload, 217, []) := by decide +kernel
theorem xe_221_216 (a0 a1 a2 a3 a4 : Option MV) (x y : Int) (st : List MV) (μ : MM) (G : MG) : ev 221 216 [a0, a1, a2, a3, a4] (vI x :: vR y :: st) μ G = if gk G y = 100 ∧ 0 ≤ x ∧ x < gl G y then ev 221 217 [a0, a1, a2, a3, a4] (vI (μ y x) :: st) μ G else none := ev_if pg_221_216 rfl
theorem pg_221_217 : mm_prog 221 217 = some (0, .bipush 10, 219, []) := by decide +kernel
theorem xe_221_217 (a0 a1 a2 a3 a4 : Option MV) (st : List MV) (μ : MM) (G : MG) : ev 221 217 [a0, a1, a2, a3, a4] st μ G = ev 221 219 [a0, a1, a2, a3, a4] (vI (10) :: st) μ G := ev_stp pg_221_217 rfl
theorem pg_221_219 : mm_prog 221 219 = some (0, .if_icmp .ne 7, 222, []) := by decide +kernel
theorem xe_221_219 (a0 a1 a2 a3 a4 : Option MV) (x y : Int) (st : List MV) (μ : MM) (G : MG) : ev 221 219 [a0, a1, a2, a3, a4] (vI y :: vI x :: st) μ G = if ¬ x = y then ev 221 226 [a0, a1, a2, a3, a4] st μ G else ev 221 222 [a0, a1, a2, a3, a4] st μ G := ev_br (mm_cnd_ne x y) pg_221_219 rfl
theorem pg_221_222 : mm_prog 221 222 = some (0, .iconst 2, 223, []) := by decide +kernel
theorem xe_221_222 (a0 a1 a2 a3 a4 : Option MV) (st : List MV) (μ : MM) (G : MG) : ev 221 222 [a0, a1, a2, a3, a4] st μ G = ev 221 223 [a0, a1, a2, a3, a4] (vI (2) :: st) μ G := ev_stp pg_221_222 rfl
theorem pg_221_223 : mm_prog 221 223 = some (0, .goto 4, 226, []) := by decide +kernel
theorem xe_221_223 (a0 a1 a2 a3 a4 : Option MV) (st : List MV) (μ : MM) (G : MG) : ev 221 223 [a0, a1, a2, a3, a4] st μ G = ev 221 227 [a0, a1, a2, a3, a4] st μ G := ev_stp pg_221_223 rfl
theorem pg_221_226 : mm_prog 221 226 = some (0, .iconst 3, 227, []) := by decide +kernel
theorem xe_221_226 (a0 a1 a2 a3 a4 : Option MV) (st : List MV) (μ : MM) (G : MG) : ev 221 226 [a0, a1, a2, a3, a4] st μ G = ev 221 227 [a0, a1, a2, a3, a4] (vI (3) :: st) μ G := ev_stp pg_221_226 rfl
theorem pg_221_227 : mm_prog 221 227 = some (1, .invokevirtual 365, 230, [1, 220, 1, 11]) := by decide +kernel
theorem xe_221_227 (a0 a1 a2 a3 a4 : Option MV) (x0 z : Int) (μ : MM) (G : MG) : ev 221 227 [a0, a1, a2, a3, a4] (vI x0 :: vR z :: []) μ G = if gk G z = 11 ∧ 0 < z then (ev 220 0 [some (vR z), some (vI x0), none, none, none] [] μ G).bind (fun q => ev 221 230 [a0, a1, a2, a3, a4] (q.1.toList ++ []) q.2.1 q.2.2) else none := ev_calV (as := [vR z, vI x0]) (r := []) mx_220 pg_221_227 rfl rfl (Nat.le_of_ble_eq_true rfl) (Nat.le_of_ble_eq_true rfl)
theorem pg_221_230 : mm_prog 221 230 = some (2, .return_, 231, []) := by decide +kernel
theorem xe_221_230 (a0 a1 a2 a3 a4 : Option MV) (μ : MM) (G : MG) : ev 221 230 [a0, a1, a2, a3, a4] [] μ G = some (none, μ, G) := ev_ret pg_221_230 rfl
theorem pg_221_231 : mm_prog 221 231 = some (0, .iconst 0, 232, []) := by decide +kernel
theorem xe_221_231 (a0 a1 a2 a3 a4 : Option MV) (st : List MV) (μ : MM) (G : MG) : ev 221 231 [a0, a1, a2, a3, a4] st μ G = ev 221 232 [a0, a1, a2, a3, a4] (vI (0) :: st) μ G := ev_stp pg_221_231 rfl
theorem pg_221_232 : mm_prog 221 232 = some (0, .istore_n 3, 233, []) := by decide +kernel
theorem xe_221_232 (a0 a1 a2 a3 a4 : Option MV) (x : Int) (st : List MV) (μ : MM) (G : MG) (h : mm_nL a2 = true) : ev 221 232 [a0, a1, a2, a3, a4] (vI x :: st) μ G = ev 221 233 [a0, a1, a2, some (vI x), a4] st μ G := ev_st pg_221_232 rfl (mm_nl_of h) (Nat.le_of_ble_eq_true rfl)
theorem pg_221_233 : mm_prog 221 233 = some (0, .iload_n 3, 234, []) := by decide +kernel
theorem xe_221_233 (a0 a1 a2 a4 : Option MV) (x : Int) (st : List MV) (μ : MM) (G : MG) : ev 221 233 [a0, a1, a2, some (vI x), a4] st μ G = ev 221 234 [a0, a1, a2, some (vI x), a4] (vI x :: st) μ G := ev_stp pg_221_233 rfl
theorem pg_221_234 : mm_prog 221 234 = some (0, .aload_n 0, 235, []) := by decide +kernel
theorem xe_221_234 (a1 a2 a3 a4 : Option MV) (x : Int) (st : List MV) (μ : MM) (G : MG) : ev 221 234 [some (vR x), a1, a2, a3, a4] st μ G = ev 221 235 [some (vR x), a1, a2, a3, a4] (vR x :: st) μ G := ev_stp pg_221_234 rfl
theorem pg_221_235 : mm_prog 221 235 = some (0, .getfield 75, 238, [11, 35, 2]) := by decide +kernel
theorem xe_221_235 (a0 a1 a2 a3 a4 : Option MV) (x : Int) (st : List MV) (μ : MM) (G : MG) : ev 221 235 [a0, a1, a2, a3, a4] (vR x :: st) μ G = if gk G x = 11 then ev 221 238 [a0, a1, a2, a3, a4] (vR (μ x 35) :: st) μ G else none := ev_if pg_221_235 rfl
theorem pg_221_238 : mm_prog 221 238 = some (0, .iconst 1, 239, []) := by decide +kernel
theorem xe_221_238 (a0 a1 a2 a3 a4 : Option MV) (st : List MV) (μ : MM) (G : MG) : ev 221 238 [a0, a1, a2, a3, a4] st μ G = ev 221 239 [a0, a1, a2, a3, a4] (vI (1) :: st) μ G := ev_stp pg_221_238 rfl
theorem pg_221_239 : mm_prog 221 239 = some (0, .iaload, 240, []) := by decide +kernel
theorem xe_221_239 (a0 a1 a2 a3 a4 : Option MV) (x y : Int) (st : List MV) (μ : MM) (G : MG) : ev 221 239 [a0, a1, a2, a3, a4] (vI x :: vR y :: st) μ G = if gk G y = 100 ∧ 0 ≤ x ∧ x < gl G y then ev 221 240 [a0, a1, a2, a3, a4] (vI (μ y x) :: st) μ G else none := ev_if pg_221_239 rfl
theorem pg_221_240 : mm_prog 221 240 = some (0, .if_icmp .ge 40, 243, []) := by decide +kernel
theorem xe_221_240 (a0 a1 a2 a3 a4 : Option MV) (x y : Int) (st : List MV) (μ : MM) (G : MG) : ev 221 240 [a0, a1, a2, a3, a4] (vI y :: vI x :: st) μ G = if y ≤ x then ev 221 280 [a0, a1, a2, a3, a4] st μ G else ev 221 243 [a0, a1, a2, a3, a4] st μ G := ev_br (mm_cnd_ge x y) pg_221_240 rfl
theorem pg_221_243 : mm_prog 221 243 = some (0, .aload_n 0, 244, []) := by decide +kernel
theorem xe_221_243 (a1 a2 a3 a4 : Option MV) (x : Int) (st : List MV) (μ : MM) (G : MG) : ev 221 243 [some (vR x), a1, a2, a3, a4] st μ G = ev 221 244 [some (vR x), a1, a2, a3, a4] (vR x :: st) μ G := ev_stp pg_221_243 rfl
theorem pg_221_244 : mm_prog 221 244 = some (0, .iload_n 3, 245, []) := by decide +kernel
theorem xe_221_244 (a0 a1 a2 a4 : Option MV) (x : Int) (st : List MV) (μ : MM) (G : MG) : ev 221 244 [a0, a1, a2, some (vI x), a4] st μ G = ev 221 245 [a0, a1, a2, some (vI x), a4] (vI x :: st) μ G := ev_stp pg_221_244 rfl
theorem pg_221_245 : mm_prog 221 245 = some (1, .invokevirtual 359, 248, [1, 218, 1, 11]) := by decide +kernel
theorem xe_221_245 (a0 a1 a2 a3 a4 : Option MV) (x0 z : Int) (μ : MM) (G : MG) : ev 221 245 [a0, a1, a2, a3, a4] (vI x0 :: vR z :: []) μ G = if gk G z = 11 ∧ 0 < z then (ev 218 0 [some (vR z), some (vI x0)] [] μ G).bind (fun q => ev 221 248 [a0, a1, a2, a3, a4] (q.1.toList ++ []) q.2.1 q.2.2) else none := ev_calV (as := [vR z, vI x0]) (r := []) mx_218 pg_221_245 rfl rfl (Nat.le_of_ble_eq_true rfl) (Nat.le_of_ble_eq_true rfl)
theorem pg_221_248 : mm_prog 221 248 = some (0, .ifCond .ne 6, 251, []) := by decide +kernel
theorem xe_221_248 (a0 a1 a2 a3 a4 : Option MV) (x : Int) (st : List MV) (μ : MM) (G : MG) : ev 221 248 [a0, a1, a2, a3, a4] (vI x :: st) μ G = if ¬ x = 0 then ev 221 254 [a0, a1, a2, a3, a4] st μ G else ev 221 251 [a0, a1, a2, a3, a4] st μ G := ev_br (mm_cnd_ne x 0) pg_221_248 rfl
theorem pg_221_251 : mm_prog 221 251 = some (0, .goto 23, 254, []) := by decide +kernel
theorem xe_221_251 (a0 a1 a2 a3 a4 : Option MV) (st : List MV) (μ : MM) (G : MG) : ev 221 251 [a0, a1, a2, a3, a4] st μ G = ev 221 274 [a0, a1, a2, a3, a4] st μ G := ev_stp pg_221_251 rfl
theorem pg_221_254 : mm_prog 221 254 = some (0, .aload_n 0, 255, []) := by decide +kernel
theorem xe_221_254 (a1 a2 a3 a4 : Option MV) (x : Int) (st : List MV) (μ : MM) (G : MG) : ev 221 254 [some (vR x), a1, a2, a3, a4] st μ G = ev 221 255 [some (vR x), a1, a2, a3, a4] (vR x :: st) μ G := ev_stp pg_221_254 rfl
theorem pg_221_255 : mm_prog 221 255 = some (0, .getfield 75, 258, [11, 35, 2]) := by decide +kernel
theorem xe_221_255 (a0 a1 a2 a3 a4 : Option MV) (x : Int) (st : List MV) (μ : MM) (G : MG) : ev 221 255 [a0, a1, a2, a3, a4] (vR x :: st) μ G = if gk G x = 11 then ev 221 258 [a0, a1, a2, a3, a4] (vR (μ x 35) :: st) μ G else none := ev_if pg_221_255 rfl
theorem pg_221_258 : mm_prog 221 258 = some (0, .bipush 8, 260, []) := by decide +kernel
theorem xe_221_258 (a0 a1 a2 a3 a4 : Option MV) (st : List MV) (μ : MM) (G : MG) : ev 221 258 [a0, a1, a2, a3, a4] st μ G = ev 221 260 [a0, a1, a2, a3, a4] (vI (8) :: st) μ G := ev_stp pg_221_258 rfl
theorem pg_221_260 : mm_prog 221 260 = some (0, .iload_n 3, 261, []) := by decide +kernel
theorem xe_221_260 (a0 a1 a2 a4 : Option MV) (x : Int) (st : List MV) (μ : MM) (G : MG) : ev 221 260 [a0, a1, a2, some (vI x), a4] st μ G = ev 221 261 [a0, a1, a2, some (vI x), a4] (vI x :: st) μ G := ev_stp pg_221_260 rfl
theorem pg_221_261 : mm_prog 221 261 = some (0, .iadd, 262, []) := by decide +kernel
theorem xe_221_261 (a0 a1 a2 a3 a4 : Option MV) (x y : Int) (st : List MV) (μ : MM) (G : MG) : ev 221 261 [a0, a1, a2, a3, a4] (vI y :: vI x :: st) μ G = ev 221 262 [a0, a1, a2, a3, a4] (vI (w32 (x + y)) :: st) μ G := ev_stp pg_221_261 rfl
theorem pg_221_262 : mm_prog 221 262 = some (0, .dup2, 263, []) := by decide +kernel
theorem xe_221_262 (a0 a1 a2 a3 a4 : Option MV) (x y : Int) (st : List MV) (μ : MM) (G : MG) : ev 221 262 [a0, a1, a2, a3, a4] (vI x :: vR y :: st) μ G = ev 221 263 [a0, a1, a2, a3, a4] (vI x :: vR y :: vI x :: vR y :: st) μ G := ev_stp pg_221_262 rfl
theorem pg_221_263 : mm_prog 221 263 = some (0, .iaload, 264, []) := by decide +kernel
theorem xe_221_263 (a0 a1 a2 a3 a4 : Option MV) (x y : Int) (st : List MV) (μ : MM) (G : MG) : ev 221 263 [a0, a1, a2, a3, a4] (vI x :: vR y :: st) μ G = if gk G y = 100 ∧ 0 ≤ x ∧ x < gl G y then ev 221 264 [a0, a1, a2, a3, a4] (vI (μ y x) :: st) μ G else none := ev_if pg_221_263 rfl
theorem pg_221_264 : mm_prog 221 264 = some (0, .iconst 1, 265, []) := by decide +kernel
theorem xe_221_264 (a0 a1 a2 a3 a4 : Option MV) (st : List MV) (μ : MM) (G : MG) : ev 221 264 [a0, a1, a2, a3, a4] st μ G = ev 221 265 [a0, a1, a2, a3, a4] (vI (1) :: st) μ G := ev_stp pg_221_264 rfl
theorem pg_221_265 : mm_prog 221 265 = some (0, .iadd, 266, []) := by decide +kernel
theorem xe_221_265 (a0 a1 a2 a3 a4 : Option MV) (x y : Int) (st : List MV) (μ : MM) (G : MG) : ev 221 265 [a0, a1, a2, a3, a4] (vI y :: vI x :: st) μ G = ev 221 266 [a0, a1, a2, a3, a4] (vI (w32 (x + y)) :: st) μ G := ev_stp pg_221_265 rfl
theorem pg_221_266 : mm_prog 221 266 = some (0, .iastore, 267, []) := by decide +kernel
theorem xe_221_266 (a0 a1 a2 a3 a4 : Option MV) (x y z : Int) (st : List MV) (μ : MM) (G : MG) : ev 221 266 [a0, a1, a2, a3, a4] (vI x :: vI y :: vR z :: st) μ G = if gk G z = 100 ∧ 0 ≤ y ∧ y < gl G z ∧ 10 ≤ z then ev 221 267 [a0, a1, a2, a3, a4] st (mset μ z y x) G else none := ev_if pg_221_266 rfl
theorem pg_221_267 : mm_prog 221 267 = some (0, .aload_n 0, 268, []) := by decide +kernel
theorem xe_221_267 (a1 a2 a3 a4 : Option MV) (x : Int) (st : List MV) (μ : MM) (G : MG) : ev 221 267 [some (vR x), a1, a2, a3, a4] st μ G = ev 221 268 [some (vR x), a1, a2, a3, a4] (vR x :: st) μ G := ev_stp pg_221_267 rfl
theorem pg_221_268 : mm_prog 221 268 = some (0, .getfield 75, 271, [11, 35, 2]) := by decide +kernel
theorem xe_221_268 (a0 a1 a2 a3 a4 : Option MV) (x : Int) (st : List MV) (μ : MM) (G : MG) : ev 221 268 [a0, a1, a2, a3, a4] (vR x :: st) μ G = if gk G x = 11 then ev 221 271 [a0, a1, a2, a3, a4] (vR (μ x 35) :: st) μ G else none := ev_if pg_221_268 rfl
theorem pg_221_271 : mm_prog 221 271 = some (0, .iconst 4, 272, []) := by decide +kernel
theorem xe_221_271 (a0 a1 a2 a3 a4 : Option MV) (st : List MV) (μ : MM) (G : MG) : ev 221 271 [a0, a1, a2, a3, a4] st μ G = ev 221 272 [a0, a1, a2, a3, a4] (vI (4) :: st) μ G := ev_stp pg_221_271 rfl
theorem pg_221_272 : mm_prog 221 272 = some (0, .iconst 0, 273, []) := by decide +kernel
theorem xe_221_272 (a0 a1 a2 a3 a4 : Option MV) (st : List MV) (μ : MM) (G : MG) : ev 221 272 [a0, a1, a2, a3, a4] st μ G = ev 221 273 [a0, a1, a2, a3, a4] (vI (0) :: st) μ G := ev_stp pg_221_272 rfl
theorem pg_221_273 : mm_prog 221 273 = some (0, .iastore, 274, []) := by decide +kernel
theorem xe_221_273 (a0 a1 a2 a3 a4 : Option MV) (x y z : Int) (st : List MV) (μ : MM) (G : MG) : ev 221 273 [a0, a1, a2, a3, a4] (vI x :: vI y :: vR z :: st) μ G = if gk G z = 100 ∧ 0 ≤ y ∧ y < gl G z ∧ 10 ≤ z then ev 221 274 [a0, a1, a2, a3, a4] st (mset μ z y x) G else none := ev_if pg_221_273 rfl
theorem pg_221_274 : mm_prog 221 274 = some (0, .iinc 3 1, 277, []) := by decide +kernel
theorem xe_221_274 (a0 a1 a2 a4 : Option MV) (x : Int) (st : List MV) (μ : MM) (G : MG) (h : mm_nL a2 = true) : ev 221 274 [a0, a1, a2, some (vI x), a4] st μ G = ev 221 277 [a0, a1, a2, some (vI (w32 (x + (1)))), a4] st μ G := ev_st pg_221_274 rfl (mm_nl_of h) (Nat.le_of_ble_eq_true rfl)
theorem pg_221_277 : mm_prog 221 277 = some (0, .goto (-44), 280, []) := by decide +kernel
theorem xe_221_277 (a0 a1 a2 a3 a4 : Option MV) (st : List MV) (μ : MM) (G : MG) : ev 221 277 [a0, a1, a2, a3, a4] st μ G = ev 221 233 [a0, a1, a2, a3, a4] st μ G := ev_stp pg_221_277 rfl
theorem pg_221_280 : mm_prog 221 280 = some (2, .return_, 281, []) := by decide +kernel
theorem xe_221_280 (a0 a1 a2 a3 a4 : Option MV) (μ : MM) (G : MG) : ev 221 280 [a0, a1, a2, a3, a4] [] μ G = some (none, μ, G) := ev_ret pg_221_280 rfl
-- X11_triesEven
theorem pg_222_0 : mm_prog 222 0 = some (0, .aload_n 0, 1, []) := by decide +kernel
theorem xe_222_0 (a1 a2 a3 a4 a5 : Option MV) (x : Int) (st : List MV) (μ : MM) (G : MG) : ev 222 0 [some (vR x), a1, a2, a3, a4, a5] st μ G = ev 222 1 [some (vR x), a1, a2, a3, a4, a5] (vR x :: st) μ G := ev_stp pg_222_0 rfl
theorem pg_222_1 : mm_prog 222 1 = some (0, .getfield 75, 4, [11, 35, 2]) := by decide +kernel
theorem xe_222_1 (a0 a1 a2 a3 a4 a5 : Option MV) (x : Int) (st : List MV) (μ : MM) (G : MG) : ev 222 1 [a0, a1, a2, a3, a4, a5] (vR x :: st) μ G = if gk G x = 11 then ev 222 4 [a0, a1, a2, a3, a4, a5] (vR (μ x 35) :: st) μ G else none := ev_if pg_222_1 rfl
theorem pg_222_4 : mm_prog 222 4 = some (0, .iconst 5, 5, []) := by decide +kernel
theorem xe_222_4 (a0 a1 a2 a3 a4 a5 : Option MV) (st : List MV) (μ : MM) (G : MG) : ev 222 4 [a0, a1, a2, a3, a4, a5] st μ G = ev 222 5 [a0, a1, a2, a3, a4, a5] (vI (5) :: st) μ G := ev_stp pg_222_4 rfl
theorem pg_222_5 : mm_prog 222 5 = some (0, .dup2, 6, []) := by decide +kernel
theorem xe_222_5 (a0 a1 a2 a3 a4 a5 : Option MV) (x y : Int) (st : List MV) (μ : MM) (G : MG) : ev 222 5 [a0, a1, a2, a3, a4, a5] (vI x :: vR y :: st) μ G = ev 222 6 [a0, a1, a2, a3, a4, a5] (vI x :: vR y :: vI x :: vR y :: st) μ G := ev_stp pg_222_5 rfl
theorem pg_222_6 : mm_prog 222 6 = some (0, .iaload, 7, []) := by decide +kernel
theorem xe_222_6 (a0 a1 a2 a3 a4 a5 : Option MV) (x y : Int) (st : List MV) (μ : MM) (G : MG) : ev 222 6 [a0, a1, a2, a3, a4, a5] (vI x :: vR y :: st) μ G = if gk G y = 100 ∧ 0 ≤ x ∧ x < gl G y then ev 222 7 [a0, a1, a2, a3, a4, a5] (vI (μ y x) :: st) μ G else none := ev_if pg_222_6 rfl
theorem pg_222_7 : mm_prog 222 7 = some (0, .iconst 1, 8, []) := by decide +kernel
theorem xe_222_7 (a0 a1 a2 a3 a4 a5 : Option MV) (st : List MV) (μ : MM) (G : MG) : ev 222 7 [a0, a1, a2, a3, a4, a5] st μ G = ev 222 8 [a0, a1, a2, a3, a4, a5] (vI (1) :: st) μ G := ev_stp pg_222_7 rfl
theorem pg_222_8 : mm_prog 222 8 = some (0, .iadd, 9, []) := by decide +kernel
theorem xe_222_8 (a0 a1 a2 a3 a4 a5 : Option MV) (x y : Int) (st : List MV) (μ : MM) (G : MG) : ev 222 8 [a0, a1, a2, a3, a4, a5] (vI y :: vI x :: st) μ G = ev 222 9 [a0, a1, a2, a3, a4, a5] (vI (w32 (x + y)) :: st) μ G := ev_stp pg_222_8 rfl
theorem pg_222_9 : mm_prog 222 9 = some (0, .iastore, 10, []) := by decide +kernel
theorem xe_222_9 (a0 a1 a2 a3 a4 a5 : Option MV) (x y z : Int) (st : List MV) (μ : MM) (G : MG) : ev 222 9 [a0, a1, a2, a3, a4, a5] (vI x :: vI y :: vR z :: st) μ G = if gk G z = 100 ∧ 0 ≤ y ∧ y < gl G z ∧ 10 ≤ z then ev 222 10 [a0, a1, a2, a3, a4, a5] st (mset μ z y x) G else none := ev_if pg_222_9 rfl
theorem pg_222_10 : mm_prog 222 10 = some (0, .iconst 1, 11, []) := by decide +kernel
theorem xe_222_10 (a0 a1 a2 a3 a4 a5 : Option MV) (st : List MV) (μ : MM) (G : MG) : ev 222 10 [a0, a1, a2, a3, a4, a5] st μ G = ev 222 11 [a0, a1, a2, a3, a4, a5] (vI (1) :: st) μ G := ev_stp pg_222_10 rfl
theorem pg_222_11 : mm_prog 222 11 = some (0, .istore_n 1, 12, []) := by decide +kernel
theorem xe_222_11 (a0 a1 a2 a3 a4 a5 : Option MV) (x : Int) (st : List MV) (μ : MM) (G : MG) (h : mm_nL a0 = true) : ev 222 11 [a0, a1, a2, a3, a4, a5] (vI x :: st) μ G = ev 222 12 [a0, some (vI x), a2, a3, a4, a5] st μ G := ev_st pg_222_11 rfl (mm_nl_of h) (Nat.le_of_ble_eq_true rfl)
theorem pg_222_12 : mm_prog 222 12 = some (0, .iconst 0, 13, []) := by decide +kernel
theorem xe_222_12 (a0 a1 a2 a3 a4 a5 : Option MV) (st : List MV) (μ : MM) (G : MG) : ev 222 12 [a0, a1, a2, a3, a4, a5] st μ G = ev 222 13 [a0, a1, a2, a3, a4, a5] (vI (0) :: st) μ G := ev_stp pg_222_12 rfl
theorem pg_222_13 : mm_prog 222 13 = some (0, .istore_n 2, 14, []) := by decide +kernel
theorem xe_222_13 (a0 a1 a2 a3 a4 a5 : Option MV) (x : Int) (st : List MV) (μ : MM) (G : MG) (h : mm_nL a1 = true) : ev 222 13 [a0, a1, a2, a3, a4, a5] (vI x :: st) μ G = ev 222 14 [a0, a1, some (vI x), a3, a4, a5] st μ G := ev_st pg_222_13 rfl (mm_nl_of h) (Nat.le_of_ble_eq_true rfl)
theorem pg_222_14 : mm_prog 222 14 = some (0, .iconst 0, 15, []) := by decide +kernel
theorem xe_222_14 (a0 a1 a2 a3 a4 a5 : Option MV) (st : List MV) (μ : MM) (G : MG) : ev 222 14 [a0, a1, a2, a3, a4, a5] st μ G = ev 222 15 [a0, a1, a2, a3, a4, a5] (vI (0) :: st) μ G := ev_stp pg_222_14 rfl
theorem pg_222_15 : mm_prog 222 15 = some (0, .istore_n 3, 16, []) := by decide +kernel
theorem xe_222_15 (a0 a1 a2 a3 a4 a5 : Option MV) (x : Int) (st : List MV) (μ : MM) (G : MG) (h : mm_nL a2 = true) : ev 222 15 [a0, a1, a2, a3, a4, a5] (vI x :: st) μ G = ev 222 16 [a0, a1, a2, some (vI x), a4, a5] st μ G := ev_st pg_222_15 rfl (mm_nl_of h) (Nat.le_of_ble_eq_true rfl)
theorem pg_222_16 : mm_prog 222 16 = some (0, .iconst 0, 17, []) := by decide +kernel
theorem xe_222_16 (a0 a1 a2 a3 a4 a5 : Option MV) (st : List MV) (μ : MM) (G : MG) : ev 222 16 [a0, a1, a2, a3, a4, a5] st μ G = ev 222 17 [a0, a1, a2, a3, a4, a5] (vI (0) :: st) μ G := ev_stp pg_222_16 rfl
theorem pg_222_17 : mm_prog 222 17 = some (0, .istore 4, 19, []) := by decide +kernel
theorem xe_222_17 (a0 a1 a2 a3 a4 a5 : Option MV) (x : Int) (st : List MV) (μ : MM) (G : MG) (h : mm_nL a3 = true) : ev 222 17 [a0, a1, a2, a3, a4, a5] (vI x :: st) μ G = ev 222 19 [a0, a1, a2, a3, some (vI x), a5] st μ G := ev_st pg_222_17 rfl (mm_nl_of h) (Nat.le_of_ble_eq_true rfl)
theorem pg_222_19 : mm_prog 222 19 = some (0, .iload 4, 21, []) := by decide +kernel
theorem xe_222_19 (a0 a1 a2 a3 a5 : Option MV) (x : Int) (st : List MV) (μ : MM) (G : MG) : ev 222 19 [a0, a1, a2, a3, some (vI x), a5] st μ G = ev 222 21 [a0, a1, a2, a3, some (vI x), a5] (vI x :: st) μ G := ev_stp pg_222_19 rfl
theorem pg_222_21 : mm_prog 222 21 = some (0, .aload_n 0, 22, []) := by decide +kernel
theorem xe_222_21 (a1 a2 a3 a4 a5 : Option MV) (x : Int) (st : List MV) (μ : MM) (G : MG) : ev 222 21 [some (vR x), a1, a2, a3, a4, a5] st μ G = ev 222 22 [some (vR x), a1, a2, a3, a4, a5] (vR x :: st) μ G := ev_stp pg_222_21 rfl
theorem pg_222_22 : mm_prog 222 22 = some (0, .getfield 75, 25, [11, 35, 2]) := by decide +kernel
theorem xe_222_22 (a0 a1 a2 a3 a4 a5 : Option MV) (x : Int) (st : List MV) (μ : MM) (G : MG) : ev 222 22 [a0, a1, a2, a3, a4, a5] (vR x :: st) μ G = if gk G x = 11 then ev 222 25 [a0, a1, a2, a3, a4, a5] (vR (μ x 35) :: st) μ G else none := ev_if pg_222_22 rfl
theorem pg_222_25 : mm_prog 222 25 = some (0, .iconst 1, 26, []) := by decide +kernel
theorem xe_222_25 (a0 a1 a2 a3 a4 a5 : Option MV) (st : List MV) (μ : MM) (G : MG) : ev 222 25 [a0, a1, a2, a3, a4, a5] st μ G = ev 222 26 [a0, a1, a2, a3, a4, a5] (vI (1) :: st) μ G := ev_stp pg_222_25 rfl
theorem pg_222_26 : mm_prog 222 26 = some (0, .iaload, 27, []) := by decide +kernel
theorem xe_222_26 (a0 a1 a2 a3 a4 a5 : Option MV) (x y : Int) (st : List MV) (μ : MM) (G : MG) : ev 222 26 [a0, a1, a2, a3, a4, a5] (vI x :: vR y :: st) μ G = if gk G y = 100 ∧ 0 ≤ x ∧ x < gl G y then ev 222 27 [a0, a1, a2, a3, a4, a5] (vI (μ y x) :: st) μ G else none := ev_if pg_222_26 rfl
theorem pg_222_27 : mm_prog 222 27 = some (0, .if_icmp .ge 152, 30, []) := by decide +kernel
theorem xe_222_27 (a0 a1 a2 a3 a4 a5 : Option MV) (x y : Int) (st : List MV) (μ : MM) (G : MG) : ev 222 27 [a0, a1, a2, a3, a4, a5] (vI y :: vI x :: st) μ G = if y ≤ x then ev 222 179 [a0, a1, a2, a3, a4, a5] st μ G else ev 222 30 [a0, a1, a2, a3, a4, a5] st μ G := ev_br (mm_cnd_ge x y) pg_222_27 rfl
theorem pg_222_30 : mm_prog 222 30 = some (0, .aload_n 0, 31, []) := by decide +kernel
theorem xe_222_30 (a1 a2 a3 a4 a5 : Option MV) (x : Int) (st : List MV) (μ : MM) (G : MG) : ev 222 30 [some (vR x), a1, a2, a3, a4, a5] st μ G = ev 222 31 [some (vR x), a1, a2, a3, a4, a5] (vR x :: st) μ G := ev_stp pg_222_30 rfl
theorem pg_222_31 : mm_prog 222 31 = some (0, .iload 4, 33, []) := by decide +kernel
theorem xe_222_31 (a0 a1 a2 a3 a5 : Option MV) (x : Int) (st : List MV) (μ : MM) (G : MG) : ev 222 31 [a0, a1, a2, a3, some (vI x), a5] st μ G = ev 222 33 [a0, a1, a2, a3, some (vI x), a5] (vI x :: st) μ G := ev_stp pg_222_31 rfl
theorem pg_222_33 : mm_prog 222 33 = some (1, .invokevirtual 368, 36, [1, 219, 1, 11]) := by decide +kernel
theorem xe_222_33 (a0 a1 a2 a3 a4 a5 : Option MV) (x0 z : Int) (μ : MM) (G : MG) : ev 222 33 [a0, a1, a2, a3, a4, a5] (vI x0 :: vR z :: []) μ G = if gk G z = 11 ∧ 0 < z then (ev 219 0 [some (vR z), some (vI x0)] [] μ G).bind (fun q => ev 222 36 [a0, a1, a2, a3, a4, a5] (q.1.toList ++ []) q.2.1 q.2.2) else none := ev_calV (as := [vR z, vI x0]) (r := []) mx_219 pg_222_33 rfl rfl (Nat.le_of_ble_eq_true rfl) (Nat.le_of_ble_eq_true rfl)
theorem pg_222_36 : mm_prog 222 36 = some (0, .ifCond .ne 25, 39, []) := by decide +kernel
theorem xe_222_36 (a0 a1 a2 a3 a4 a5 : Option MV) (x : Int) (st : List MV) (μ : MM) (G : MG) : ev 222 36 [a0, a1, a2, a3, a4, a5] (vI x :: st) μ G = if ¬ x = 0 then ev 222 61 [a0, a1, a2, a3, a4, a5] st μ G else ev 222 39 [a0, a1, a2, a3, a4, a5] st μ G := ev_br (mm_cnd_ne x 0) pg_222_36 rfl
theorem pg_222_39 : mm_prog 222 39 = some (0, .aload_n 0, 40, []) := by decide +kernel
theorem xe_222_39 (a1 a2 a3 a4 a5 : Option MV) (x : Int) (st : List MV) (μ : MM) (G : MG) : ev 222 39 [some (vR x), a1, a2, a3, a4, a5] st μ G = ev 222 40 [some (vR x), a1, a2, a3, a4, a5] (vR x :: st) μ G := ev_stp pg_222_39 rfl
theorem pg_222_40 : mm_prog 222 40 = some (0, .getfield 75, 43, [11, 35, 2]) := by decide +kernel
theorem xe_222_40 (a0 a1 a2 a3 a4 a5 : Option MV) (x : Int) (st : List MV) (μ : MM) (G : MG) : ev 222 40 [a0, a1, a2, a3, a4, a5] (vR x :: st) μ G = if gk G x = 11 then ev 222 43 [a0, a1, a2, a3, a4, a5] (vR (μ x 35) :: st) μ G else none := ev_if pg_222_40 rfl
theorem pg_222_43 : mm_prog 222 43 = some (0, .iconst 5, 44, []) := by decide +kernel
theorem xe_222_43 (a0 a1 a2 a3 a4 a5 : Option MV) (st : List MV) (μ : MM) (G : MG) : ev 222 43 [a0, a1, a2, a3, a4, a5] st μ G = ev 222 44 [a0, a1, a2, a3, a4, a5] (vI (5) :: st) μ G := ev_stp pg_222_43 rfl
theorem pg_222_44 : mm_prog 222 44 = some (0, .iaload, 45, []) := by decide +kernel
theorem xe_222_44 (a0 a1 a2 a3 a4 a5 : Option MV) (x y : Int) (st : List MV) (μ : MM) (G : MG) : ev 222 44 [a0, a1, a2, a3, a4, a5] (vI x :: vR y :: st) μ G = if gk G y = 100 ∧ 0 ≤ x ∧ x < gl G y then ev 222 45 [a0, a1, a2, a3, a4, a5] (vI (μ y x) :: st) μ G else none := ev_if pg_222_44 rfl
theorem pg_222_45 : mm_prog 222 45 = some (0, .aload_n 0, 46, []) := by decide +kernel
theorem xe_222_45 (a1 a2 a3 a4 a5 : Option MV) (x : Int) (st : List MV) (μ : MM) (G : MG) : ev 222 45 [some (vR x), a1, a2, a3, a4, a5] st μ G = ev 222 46 [some (vR x), a1, a2, a3, a4, a5] (vR x :: st) μ G := ev_stp pg_222_45 rfl
theorem pg_222_46 : mm_prog 222 46 = some (0, .getfield 84, 49, [11, 38, 2]) := by decide +kernel
theorem xe_222_46 (a0 a1 a2 a3 a4 a5 : Option MV) (x : Int) (st : List MV) (μ : MM) (G : MG) : ev 222 46 [a0, a1, a2, a3, a4, a5] (vR x :: st) μ G = if gk G x = 11 then ev 222 49 [a0, a1, a2, a3, a4, a5] (vR (μ x 38) :: st) μ G else none := ev_if pg_222_46 rfl
theorem pg_222_49 : mm_prog 222 49 = some (0, .iload 4, 51, []) := by decide +kernel
theorem xe_222_49 (a0 a1 a2 a3 a5 : Option MV) (x : Int) (st : List MV) (μ : MM) (G : MG) : ev 222 49 [a0, a1, a2, a3, some (vI x), a5] st μ G = ev 222 51 [a0, a1, a2, a3, some (vI x), a5] (vI x :: st) μ G := ev_stp pg_222_49 rfl
theorem pg_222_51 : mm_prog 222 51 = some (0, .iaload, 52, []) := by decide +kernel
theorem xe_222_51 (a0 a1 a2 a3 a4 a5 : Option MV) (x y : Int) (st : List MV) (μ : MM) (G : MG) : ev 222 51 [a0, a1, a2, a3, a4, a5] (vI x :: vR y :: st) μ G = if gk G y = 100 ∧ 0 ≤ x ∧ x < gl G y then ev 222 52 [a0, a1, a2, a3, a4, a5] (vI (μ y x) :: st) μ G else none := ev_if pg_222_51 rfl
theorem pg_222_52 : mm_prog 222 52 = some (0, .iconst 2, 53, []) := by decide +kernel
theorem xe_222_52 (a0 a1 a2 a3 a4 a5 : Option MV) (st : List MV) (μ : MM) (G : MG) : ev 222 52 [a0, a1, a2, a3, a4, a5] st μ G = ev 222 53 [a0, a1, a2, a3, a4, a5] (vI (2) :: st) μ G := ev_stp pg_222_52 rfl
theorem pg_222_53 : mm_prog 222 53 = some (0, .isub, 54, []) := by decide +kernel
theorem xe_222_53 (a0 a1 a2 a3 a4 a5 : Option MV) (x y : Int) (st : List MV) (μ : MM) (G : MG) : ev 222 53 [a0, a1, a2, a3, a4, a5] (vI y :: vI x :: st) μ G = ev 222 54 [a0, a1, a2, a3, a4, a5] (vI (w32 (x - y)) :: st) μ G := ev_stp pg_222_53 rfl
theorem pg_222_54 : mm_prog 222 54 = some (0, .if_icmp .le 7, 57, []) := by decide +kernel
theorem xe_222_54 (a0 a1 a2 a3 a4 a5 : Option MV) (x y : Int) (st : List MV) (μ : MM) (G : MG) : ev 222 54 [a0, a1, a2, a3, a4, a5] (vI y :: vI x :: st) μ G = if x ≤ y then ev 222 61 [a0, a1, a2, a3, a4, a5] st μ G else ev 222 57 [a0, a1, a2, a3, a4, a5] st μ G := ev_br (mm_cnd_le x y) pg_222_54 rfl
theorem pg_222_57 : mm_prog 222 57 = some (0, .iconst 1, 58, []) := by decide +kernel
theorem xe_222_57 (a0 a1 a2 a3 a4 a5 : Option MV) (st : List MV) (μ : MM) (G : MG) : ev 222 57 [a0, a1, a2, a3, a4, a5] st μ G = ev 222 58 [a0, a1, a2, a3, a4, a5] (vI (1) :: st) μ G := ev_stp pg_222_57 rfl
theorem pg_222_58 : mm_prog 222 58 = some (0, .goto 4, 61, []) := by decide +kernel
theorem xe_222_58 (a0 a1 a2 a3 a4 a5 : Option MV) (st : List MV) (μ : MM) (G : MG) : ev 222 58 [a0, a1, a2, a3, a4, a5] st μ G = ev 222 62 [a0, a1, a2, a3, a4, a5] st μ G := ev_stp pg_222_58 rfl
theorem pg_222_61 : mm_prog 222 61 = some (0, .iconst 0, 62, []) := by decide +kernel
theorem xe_222_61 (a0 a1 a2 a3 a4 a5 : Option MV) (st : List MV) (μ : MM) (G : MG) : ev 222 61 [a0, a1, a2, a3, a4, a5] st μ G = ev 222 62 [a0, a1, a2, a3, a4, a5] (vI (0) :: st) μ G := ev_stp pg_222_61 rfl
theorem pg_222_62 : mm_prog 222 62 = some (0, .istore 5, 64, []) := by decide +kernel
theorem xe_222_62 (a0 a1 a2 a3 a4 a5 : Option MV) (x : Int) (st : List MV) (μ : MM) (G : MG) (h : mm_nL a4 = true) : ev 222 62 [a0, a1, a2, a3, a4, a5] (vI x :: st) μ G = ev 222 64 [a0, a1, a2, a3, a4, some (vI x)] st μ G := ev_st pg_222_62 rfl (mm_nl_of h) (Nat.le_of_ble_eq_true rfl)
theorem pg_222_64 : mm_prog 222 64 = some (0, .aload_n 0, 65, []) := by decide +kernel
theorem xe_222_64 (a1 a2 a3 a4 a5 : Option MV) (x : Int) (st : List MV) (μ : MM) (G : MG) : ev 222 64 [some (vR x), a1, a2, a3, a4, a5] st μ G = ev 222 65 [some (vR x), a1, a2, a3, a4, a5] (vR x :: st) μ G := ev_stp pg_222_64 rfl
theorem pg_222_65 : mm_prog 222 65 = some (0, .getfield 75, 68, [11, 35, 2]) := by decide +kernel
theorem xe_222_65 (a0 a1 a2 a3 a4 a5 : Option MV) (x : Int) (st : List MV) (μ : MM) (G : MG) : ev 222 65 [a0, a1, a2, a3, a4, a5] (vR x :: st) μ G = if gk G x = 11 then ev 222 68 [a0, a1, a2, a3, a4, a5] (vR (μ x 35) :: st) μ G else none := ev_if pg_222_65 rfl
theorem pg_222_68 : mm_prog 222 68 = some (0, .bipush 20, 70, []) := by decide +kernel
theorem xe_222_68 (a0 a1 a2 a3 a4 a5 : Option MV) (st : List MV) (μ : MM) (G : MG) : ev 222 68 [a0, a1, a2, a3, a4, a5] st μ G = ev 222 70 [a0, a1, a2, a3, a4, a5] (vI (20) :: st) μ G := ev_stp pg_222_68 rfl
theorem pg_222_70 : mm_prog 222 70 = some (0, .iload 4, 72, []) := by decide +kernel
theorem xe_222_70 (a0 a1 a2 a3 a5 : Option MV) (x : Int) (st : List MV) (μ : MM) (G : MG) : ev 222 70 [a0, a1, a2, a3, some (vI x), a5] st μ G = ev 222 72 [a0, a1, a2, a3, some (vI x), a5] (vI x :: st) μ G := ev_stp pg_222_70 rfl
theorem pg_222_72 : mm_prog 222 72 = some (0, .iadd, 73, []) := by decide +kernel
theorem xe_222_72 (a0 a1 a2 a3 a4 a5 : Option MV) (x y : Int) (st : List MV) (μ : MM) (G : MG) : ev 222 72 [a0, a1, a2, a3, a4, a5] (vI y :: vI x :: st) μ G = ev 222 73 [a0, a1, a2, a3, a4, a5] (vI (w32 (x + y)) :: st) μ G := ev_stp pg_222_72 rfl
theorem pg_222_73 : mm_prog 222 73 = some (0, .iload 5, 75, []) := by decide +kernel
theorem xe_222_73 (a0 a1 a2 a3 a4 : Option MV) (x : Int) (st : List MV) (μ : MM) (G : MG) : ev 222 73 [a0, a1, a2, a3, a4, some (vI x)] st μ G = ev 222 75 [a0, a1, a2, a3, a4, some (vI x)] (vI x :: st) μ G := ev_stp pg_222_73 rfl
theorem pg_222_75 : mm_prog 222 75 = some (0, .ifCond .eq 7, 78, []) := by decide +kernel
theorem xe_222_75 (a0 a1 a2 a3 a4 a5 : Option MV) (x : Int) (st : List MV) (μ : MM) (G : MG) : ev 222 75 [a0, a1, a2, a3, a4, a5] (vI x :: st) μ G = if x = 0 then ev 222 82 [a0, a1, a2, a3, a4, a5] st μ G else ev 222 78 [a0, a1, a2, a3, a4, a5] st μ G := ev_br (mm_cnd_eq x 0) pg_222_75 rfl
theorem pg_222_78 : mm_prog 222 78 = some (0, .iconst 1, 79, []) := by decide +kernel
theorem xe_222_78 (a0 a1 a2 a3 a4 a5 : Option MV) (st : List MV) (μ : MM) (G : MG) : ev 222 78 [a0, a1, a2, a3, a4, a5] st μ G = ev 222 79 [a0, a1, a2, a3, a4, a5] (vI (1) :: st) μ G := ev_stp pg_222_78 rfl
theorem pg_222_79 : mm_prog 222 79 = some (0, .goto 4, 82, []) := by decide +kernel
theorem xe_222_79 (a0 a1 a2 a3 a4 a5 : Option MV) (st : List MV) (μ : MM) (G : MG) : ev 222 79 [a0, a1, a2, a3, a4, a5] st μ G = ev 222 83 [a0, a1, a2, a3, a4, a5] st μ G := ev_stp pg_222_79 rfl
theorem pg_222_82 : mm_prog 222 82 = some (0, .iconst 0, 83, []) := by decide +kernel
theorem xe_222_82 (a0 a1 a2 a3 a4 a5 : Option MV) (st : List MV) (μ : MM) (G : MG) : ev 222 82 [a0, a1, a2, a3, a4, a5] st μ G = ev 222 83 [a0, a1, a2, a3, a4, a5] (vI (0) :: st) μ G := ev_stp pg_222_82 rfl
theorem pg_222_83 : mm_prog 222 83 = some (0, .iastore, 84, []) := by decide +kernel
theorem xe_222_83 (a0 a1 a2 a3 a4 a5 : Option MV) (x y z : Int) (st : List MV) (μ : MM) (G : MG) : ev 222 83 [a0, a1, a2, a3, a4, a5] (vI x :: vI y :: vR z :: st) μ G = if gk G z = 100 ∧ 0 ≤ y ∧ y < gl G z ∧ 10 ≤ z then ev 222 84 [a0, a1, a2, a3, a4, a5] st (mset μ z y x) G else none := ev_if pg_222_83 rfl
theorem pg_222_84 : mm_prog 222 84 = some (0, .aload_n 0, 85, []) := by decide +kernel
theorem xe_222_84 (a1 a2 a3 a4 a5 : Option MV) (x : Int) (st : List MV) (μ : MM) (G : MG) : ev 222 84 [some (vR x), a1, a2, a3, a4, a5] st μ G = ev 222 85 [some (vR x), a1, a2, a3, a4, a5] (vR x :: st) μ G := ev_stp pg_222_84 rfl
theorem pg_222_85 : mm_prog 222 85 = some (0, .dup, 86, []) := by decide +kernel
theorem xe_222_85 (a0 a1 a2 a3 a4 a5 : Option MV) (x : Int) (st : List MV) (μ : MM) (G : MG) : ev 222 85 [a0, a1, a2, a3, a4, a5] (vR x :: st) μ G = ev 222 86 [a0, a1, a2, a3, a4, a5] (vR x :: vR x :: st) μ G := ev_stp pg_222_85 rfl
theorem pg_222_86 : mm_prog 222 86 = some (0, .getfield 362, 89, [11, 43, 0]) := by decide +kernel
theorem xe_222_86 (a0 a1 a2 a3 a4 a5 : Option MV) (x : Int) (st : List MV) (μ : MM) (G : MG) : ev 222 86 [a0, a1, a2, a3, a4, a5] (vR x :: st) μ G = if gk G x = 11 then ev 222 89 [a0, a1, a2, a3, a4, a5] (vI (μ x 43) :: st) μ G else none := ev_if pg_222_86 rfl
theorem pg_222_89 : mm_prog 222 89 = some (0, .iload 5, 91, []) := by decide +kernel
theorem xe_222_89 (a0 a1 a2 a3 a4 : Option MV) (x : Int) (st : List MV) (μ : MM) (G : MG) : ev 222 89 [a0, a1, a2, a3, a4, some (vI x)] st μ G = ev 222 91 [a0, a1, a2, a3, a4, some (vI x)] (vI x :: st) μ G := ev_stp pg_222_89 rfl
theorem pg_222_91 : mm_prog 222 91 = some (0, .ifCond .eq 10, 94, []) := by decide +kernel
theorem xe_222_91 (a0 a1 a2 a3 a4 a5 : Option MV) (x : Int) (st : List MV) (μ : MM) (G : MG) : ev 222 91 [a0, a1, a2, a3, a4, a5] (vI x :: st) μ G = if x = 0 then ev 222 101 [a0, a1, a2, a3, a4, a5] st μ G else ev 222 94 [a0, a1, a2, a3, a4, a5] st μ G := ev_br (mm_cnd_eq x 0) pg_222_91 rfl
theorem pg_222_94 : mm_prog 222 94 = some (0, .iconst 1, 95, []) := by decide +kernel
theorem xe_222_94 (a0 a1 a2 a3 a4 a5 : Option MV) (st : List MV) (μ : MM) (G : MG) : ev 222 94 [a0, a1, a2, a3, a4, a5] st μ G = ev 222 95 [a0, a1, a2, a3, a4, a5] (vI (1) :: st) μ G := ev_stp pg_222_94 rfl
theorem pg_222_95 : mm_prog 222 95 = some (0, .iload 4, 97, []) := by decide +kernel
theorem xe_222_95 (a0 a1 a2 a3 a5 : Option MV) (x : Int) (st : List MV) (μ : MM) (G : MG) : ev 222 95 [a0, a1, a2, a3, some (vI x), a5] st μ G = ev 222 97 [a0, a1, a2, a3, some (vI x), a5] (vI x :: st) μ G := ev_stp pg_222_95 rfl
theorem pg_222_97 : mm_prog 222 97 = some (0, .ishl, 98, []) := by decide +kernel
theorem xe_222_97 (a0 a1 a2 a3 a4 a5 : Option MV) (x y : Int) (st : List MV) (μ : MM) (G : MG) : ev 222 97 [a0, a1, a2, a3, a4, a5] (vI y :: vI x :: st) μ G = ev 222 98 [a0, a1, a2, a3, a4, a5] (vI (mm_shl x y) :: st) μ G := ev_stp pg_222_97 rfl
theorem pg_222_98 : mm_prog 222 98 = some (0, .goto 4, 101, []) := by decide +kernel
theorem xe_222_98 (a0 a1 a2 a3 a4 a5 : Option MV) (st : List MV) (μ : MM) (G : MG) : ev 222 98 [a0, a1, a2, a3, a4, a5] st μ G = ev 222 102 [a0, a1, a2, a3, a4, a5] st μ G := ev_stp pg_222_98 rfl
theorem pg_222_101 : mm_prog 222 101 = some (0, .iconst 0, 102, []) := by decide +kernel
theorem xe_222_101 (a0 a1 a2 a3 a4 a5 : Option MV) (st : List MV) (μ : MM) (G : MG) : ev 222 101 [a0, a1, a2, a3, a4, a5] st μ G = ev 222 102 [a0, a1, a2, a3, a4, a5] (vI (0) :: st) μ G := ev_stp pg_222_101 rfl
theorem pg_222_102 : mm_prog 222 102 = some (0, .ior, 103, []) := by decide +kernel
theorem xe_222_102 (a0 a1 a2 a3 a4 a5 : Option MV) (x y : Int) (st : List MV) (μ : MM) (G : MG) : ev 222 102 [a0, a1, a2, a3, a4, a5] (vI y :: vI x :: st) μ G = ev 222 103 [a0, a1, a2, a3, a4, a5] (vI (mm_or x y) :: st) μ G := ev_stp pg_222_102 rfl
theorem pg_222_103 : mm_prog 222 103 = some (0, .putfield 362, 106, [11, 43, 0]) := by decide +kernel
theorem xe_222_103 (a0 a1 a2 a3 a4 a5 : Option MV) (x y : Int) (st : List MV) (μ : MM) (G : MG) : ev 222 103 [a0, a1, a2, a3, a4, a5] (vI x :: vR y :: st) μ G = if gk G y = 11 then ev 222 106 [a0, a1, a2, a3, a4, a5] st (mset μ y 43 x) G else none := ev_put0 pg_222_103
theorem pg_222_106 : mm_prog 222 106 = some (0, .iload_n 1, 107, []) := by decide +kernel
theorem xe_222_106 (a0 a2 a3 a4 a5 : Option MV) (x : Int) (st : List MV) (μ : MM) (G : MG) : ev 222 106 [a0, some (vI x), a2, a3, a4, a5] st μ G = ev 222 107 [a0, some (vI x), a2, a3, a4, a5] (vI x :: st) μ G := ev_stp pg_222_106 rfl
theorem pg_222_107 : mm_prog 222 107 = some (0, .ifCond .eq 12, 110, []) := by decide +kernel
theorem xe_222_107 (a0 a1 a2 a3 a4 a5 : Option MV) (x : Int) (st : List MV) (μ : MM) (G : MG) : ev 222 107 [a0, a1, a2, a3, a4, a5] (vI x :: st) μ G = if x = 0 then ev 222 119 [a0, a1, a2, a3, a4, a5] st μ G else ev 222 110 [a0, a1, a2, a3, a4, a5] st μ G := ev_br (mm_cnd_eq x 0) pg_222_107 rfl
theorem pg_222_110 : mm_prog 222 110 = some (0, .iload 5, 112, []) := by decide +kernel
theorem xe_222_110 (a0 a1 a2 a3 a4 : Option MV) (x : Int) (st : List MV) (μ : MM) (G : MG) : ev 222 110 [a0, a1, a2, a3, a4, some (vI x)] st μ G = ev 222 112 [a0, a1, a2, a3, a4, some (vI x)] (vI x :: st) μ G := ev_stp pg_222_110 rfl
theorem pg_222_112 : mm_prog 222 112 = some (0, .ifCond .eq 7, 115, []) := by decide +kernel
theorem xe_222_112 (a0 a1 a2 a3 a4 a5 : Option MV) (x : Int) (st : List MV) (μ : MM) (G : MG) : ev 222 112 [a0, a1, a2, a3, a4, a5] (vI x :: st) μ G = if x = 0 then ev 222 119 [a0, a1, a2, a3, a4, a5] st μ G else ev 222 115 [a0, a1, a2, a3, a4, a5] st μ G := ev_br (mm_cnd_eq x 0) pg_222_112 rfl
theorem pg_222_115 : mm_prog 222 115 = some (0, .iconst 1, 116, []) := by decide +kernel
theorem xe_222_115 (a0 a1 a2 a3 a4 a5 : Option MV) (st : List MV) (μ : MM) (G : MG) : ev 222 115 [a0, a1, a2, a3, a4, a5] st μ G = ev 222 116 [a0, a1, a2, a3, a4, a5] (vI (1) :: st) μ G := ev_stp pg_222_115 rfl
theorem pg_222_116 : mm_prog 222 116 = some (0, .goto 4, 119, []) := by decide +kernel
theorem xe_222_116 (a0 a1 a2 a3 a4 a5 : Option MV) (st : List MV) (μ : MM) (G : MG) : ev 222 116 [a0, a1, a2, a3, a4, a5] st μ G = ev 222 120 [a0, a1, a2, a3, a4, a5] st μ G := ev_stp pg_222_116 rfl
theorem pg_222_119 : mm_prog 222 119 = some (0, .iconst 0, 120, []) := by decide +kernel
theorem xe_222_119 (a0 a1 a2 a3 a4 a5 : Option MV) (st : List MV) (μ : MM) (G : MG) : ev 222 119 [a0, a1, a2, a3, a4, a5] st μ G = ev 222 120 [a0, a1, a2, a3, a4, a5] (vI (0) :: st) μ G := ev_stp pg_222_119 rfl
theorem pg_222_120 : mm_prog 222 120 = some (0, .istore_n 1, 121, []) := by decide +kernel
theorem xe_222_120 (a0 a1 a2 a3 a4 a5 : Option MV) (x : Int) (st : List MV) (μ : MM) (G : MG) (h : mm_nL a0 = true) : ev 222 120 [a0, a1, a2, a3, a4, a5] (vI x :: st) μ G = ev 222 121 [a0, some (vI x), a2, a3, a4, a5] st μ G := ev_st pg_222_120 rfl (mm_nl_of h) (Nat.le_of_ble_eq_true rfl)
theorem pg_222_121 : mm_prog 222 121 = some (0, .iload_n 2, 122, []) := by decide +kernel
theorem xe_222_121 (a0 a1 a3 a4 a5 : Option MV) (x : Int) (st : List MV) (μ : MM) (G : MG) : ev 222 121 [a0, a1, some (vI x), a3, a4, a5] st μ G = ev 222 122 [a0, a1, some (vI x), a3, a4, a5] (vI x :: st) μ G := ev_stp pg_222_121 rfl
theorem pg_222_122 : mm_prog 222 122 = some (0, .ifCond .ne 26, 125, []) := by decide +kernel
theorem xe_222_122 (a0 a1 a2 a3 a4 a5 : Option MV) (x : Int) (st : List MV) (μ : MM) (G : MG) : ev 222 122 [a0, a1, a2, a3, a4, a5] (vI x :: st) μ G = if ¬ x = 0 then ev 222 148 [a0, a1, a2, a3, a4, a5] st μ G else ev 222 125 [a0, a1, a2, a3, a4, a5] st μ G := ev_br (mm_cnd_ne x 0) pg_222_122 rfl
theorem pg_222_125 : mm_prog 222 125 = some (0, .aload_n 0, 126, []) := by decide +kernel
theorem xe_222_125 (a1 a2 a3 a4 a5 : Option MV) (x : Int) (st : List MV) (μ : MM) (G : MG) : ev 222 125 [some (vR x), a1, a2, a3, a4, a5] st μ G = ev 222 126 [some (vR x), a1, a2, a3, a4, a5] (vR x :: st) μ G := ev_stp pg_222_125 rfl
theorem pg_222_126 : mm_prog 222 126 = some (0, .iload 4, 128, []) := by decide +kernel
theorem xe_222_126 (a0 a1 a2 a3 a5 : Option MV) (x : Int) (st : List MV) (μ : MM) (G : MG) : ev 222 126 [a0, a1, a2, a3, some (vI x), a5] st μ G = ev 222 128 [a0, a1, a2, a3, some (vI x), a5] (vI x :: st) μ G := ev_stp pg_222_126 rfl
theorem pg_222_128 : mm_prog 222 128 = some (1, .invokevirtual 368, 131, [1, 219, 1, 11]) := by decide +kernel
theorem xe_222_128 (a0 a1 a2 a3 a4 a5 : Option MV) (x0 z : Int) (μ : MM) (G : MG) : ev 222 128 [a0, a1, a2, a3, a4, a5] (vI x0 :: vR z :: []) μ G = if gk G z = 11 ∧ 0 < z then (ev 219 0 [some (vR z), some (vI x0)] [] μ G).bind (fun q => ev 222 131 [a0, a1, a2, a3, a4, a5] (q.1.toList ++ []) q.2.1 q.2.2) else none := ev_calV (as := [vR z, vI x0]) (r := []) mx_219 pg_222_128 rfl rfl (Nat.le_of_ble_eq_true rfl) (Nat.le_of_ble_eq_true rfl)
theorem pg_222_131 : mm_prog 222 131 = some (0, .ifCond .eq 21, 134, []) := by decide +kernel
theorem xe_222_131 (a0 a1 a2 a3 a4 a5 : Option MV) (x : Int) (st : List MV) (μ : MM) (G : MG) : ev 222 131 [a0, a1, a2, a3, a4, a5] (vI x :: st) μ G = if x = 0 then ev 222 152 [a0, a1, a2, a3, a4, a5] st μ G else ev 222 134 [a0, a1, a2, a3, a4, a5] st μ G := ev_br (mm_cnd_eq x 0) pg_222_131 rfl
theorem pg_222_134 : mm_prog 222 134 = some (0, .aload_n 0, 135, []) := by decide +kernel
theorem xe_222_134 (a1 a2 a3 a4 a5 : Option MV) (x : Int) (st : List MV) (μ : MM) (G : MG) : ev 222 134 [some (vR x), a1, a2, a3, a4, a5] st μ G = ev 222 135 [some (vR x), a1, a2, a3, a4, a5] (vR x :: st) μ G := ev_stp pg_222_134 rfl
theorem pg_222_135 : mm_prog 222 135 = some (0, .getfield 75, 138, [11, 35, 2]) := by decide +kernel
theorem xe_222_135 (a0 a1 a2 a3 a4 a5 : Option MV) (x : Int) (st : List MV) (μ : MM) (G : MG) : ev 222 135 [a0, a1, a2, a3, a4, a5] (vR x :: st) μ G = if gk G x = 11 then ev 222 138 [a0, a1, a2, a3, a4, a5] (vR (μ x 35) :: st) μ G else none := ev_if pg_222_135 rfl
theorem pg_222_138 : mm_prog 222 138 = some (0, .bipush 12, 140, []) := by decide +kernel
theorem xe_222_138 (a0 a1 a2 a3 a4 a5 : Option MV) (st : List MV) (μ : MM) (G : MG) : ev 222 138 [a0, a1, a2, a3, a4, a5] st μ G = ev 222 140 [a0, a1, a2, a3, a4, a5] (vI (12) :: st) μ G := ev_stp pg_222_138 rfl
theorem pg_222_140 : mm_prog 222 140 = some (0, .iload 4, 142, []) := by decide +kernel
theorem xe_222_140 (a0 a1 a2 a3 a5 : Option MV) (x : Int) (st : List MV) (μ : MM) (G : MG) : ev 222 140 [a0, a1, a2, a3, some (vI x), a5] st μ G = ev 222 142 [a0, a1, a2, a3, some (vI x), a5] (vI x :: st) μ G := ev_stp pg_222_140 rfl
theorem pg_222_142 : mm_prog 222 142 = some (0, .iadd, 143, []) := by decide +kernel
theorem xe_222_142 (a0 a1 a2 a3 a4 a5 : Option MV) (x y : Int) (st : List MV) (μ : MM) (G : MG) : ev 222 142 [a0, a1, a2, a3, a4, a5] (vI y :: vI x :: st) μ G = ev 222 143 [a0, a1, a2, a3, a4, a5] (vI (w32 (x + y)) :: st) μ G := ev_stp pg_222_142 rfl
theorem pg_222_143 : mm_prog 222 143 = some (0, .iaload, 144, []) := by decide +kernel
theorem xe_222_143 (a0 a1 a2 a3 a4 a5 : Option MV) (x y : Int) (st : List MV) (μ : MM) (G : MG) : ev 222 143 [a0, a1, a2, a3, a4, a5] (vI x :: vR y :: st) μ G = if gk G y = 100 ∧ 0 ≤ x ∧ x < gl G y then ev 222 144 [a0, a1, a2, a3, a4, a5] (vI (μ y x) :: st) μ G else none := ev_if pg_222_143 rfl
theorem pg_222_144 : mm_prog 222 144 = some (0, .iconst 3, 145, []) := by decide +kernel
theorem xe_222_144 (a0 a1 a2 a3 a4 a5 : Option MV) (st : List MV) (μ : MM) (G : MG) : ev 222 144 [a0, a1, a2, a3, a4, a5] st μ G = ev 222 145 [a0, a1, a2, a3, a4, a5] (vI (3) :: st) μ G := ev_stp pg_222_144 rfl
theorem pg_222_145 : mm_prog 222 145 = some (0, .if_icmp .ne 7, 148, []) := by decide +kernel
theorem xe_222_145 (a0 a1 a2 a3 a4 a5 : Option MV) (x y : Int) (st : List MV) (μ : MM) (G : MG) : ev 222 145 [a0, a1, a2, a3, a4, a5] (vI y :: vI x :: st) μ G = if ¬ x = y then ev 222 152 [a0, a1, a2, a3, a4, a5] st μ G else ev 222 148 [a0, a1, a2, a3, a4, a5] st μ G := ev_br (mm_cnd_ne x y) pg_222_145 rfl
theorem pg_222_148 : mm_prog 222 148 = some (0, .iconst 1, 149, []) := by decide +kernel
theorem xe_222_148 (a0 a1 a2 a3 a4 a5 : Option MV) (st : List MV) (μ : MM) (G : MG) : ev 222 148 [a0, a1, a2, a3, a4, a5] st μ G = ev 222 149 [a0, a1, a2, a3, a4, a5] (vI (1) :: st) μ G := ev_stp pg_222_148 rfl
theorem pg_222_149 : mm_prog 222 149 = some (0, .goto 4, 152, []) := by decide +kernel
theorem xe_222_149 (a0 a1 a2 a3 a4 a5 : Option MV) (st : List MV) (μ : MM) (G : MG) : ev 222 149 [a0, a1, a2, a3, a4, a5] st μ G = ev 222 153 [a0, a1, a2, a3, a4, a5] st μ G := ev_stp pg_222_149 rfl
theorem pg_222_152 : mm_prog 222 152 = some (0, .iconst 0, 153, []) := by decide +kernel
theorem xe_222_152 (a0 a1 a2 a3 a4 a5 : Option MV) (st : List MV) (μ : MM) (G : MG) : ev 222 152 [a0, a1, a2, a3, a4, a5] st μ G = ev 222 153 [a0, a1, a2, a3, a4, a5] (vI (0) :: st) μ G := ev_stp pg_222_152 rfl
theorem pg_222_153 : mm_prog 222 153 = some (0, .istore_n 2, 154, []) := by decide +kernel
theorem xe_222_153 (a0 a1 a2 a3 a4 a5 : Option MV) (x : Int) (st : List MV) (μ : MM) (G : MG) (h : mm_nL a1 = true) : ev 222 153 [a0, a1, a2, a3, a4, a5] (vI x :: st) μ G = ev 222 154 [a0, a1, some (vI x), a3, a4, a5] st μ G := ev_st pg_222_153 rfl (mm_nl_of h) (Nat.le_of_ble_eq_true rfl)
theorem pg_222_154 : mm_prog 222 154 = some (0, .iload_n 3, 155, []) := by decide +kernel
theorem xe_222_154 (a0 a1 a2 a4 a5 : Option MV) (x : Int) (st : List MV) (μ : MM) (G : MG) : ev 222 154 [a0, a1, a2, some (vI x), a4, a5] st μ G = ev 222 155 [a0, a1, a2, some (vI x), a4, a5] (vI x :: st) μ G := ev_stp pg_222_154 rfl
theorem pg_222_155 : mm_prog 222 155 = some (0, .ifCond .ne 12, 158, []) := by decide +kernel
theorem xe_222_155 (a0 a1 a2 a3 a4 a5 : Option MV) (x : Int) (st : List MV) (μ : MM) (G : MG) : ev 222 155 [a0, a1, a2, a3, a4, a5] (vI x :: st) μ G = if ¬ x = 0 then ev 222 167 [a0, a1, a2, a3, a4, a5] st μ G else ev 222 158 [a0, a1, a2, a3, a4, a5] st μ G := ev_br (mm_cnd_ne x 0) pg_222_155 rfl
theorem pg_222_158 : mm_prog 222 158 = some (0, .aload_n 0, 159, []) := by decide +kernel
theorem xe_222_158 (a1 a2 a3 a4 a5 : Option MV) (x : Int) (st : List MV) (μ : MM) (G : MG) : ev 222 158 [some (vR x), a1, a2, a3, a4, a5] st μ G = ev 222 159 [some (vR x), a1, a2, a3, a4, a5] (vR x :: st) μ G := ev_stp pg_222_158 rfl
theorem pg_222_159 : mm_prog 222 159 = some (0, .iload 4, 161, []) := by decide +kernel
theorem xe_222_159 (a0 a1 a2 a3 a5 : Option MV) (x : Int) (st : List MV) (μ : MM) (G : MG) : ev 222 159 [a0, a1, a2, a3, some (vI x), a5] st μ G = ev 222 161 [a0, a1, a2, a3, some (vI x), a5] (vI x :: st) μ G := ev_stp pg_222_159 rfl
theorem pg_222_161 : mm_prog 222 161 = some (1, .invokevirtual 359, 164, [1, 218, 1, 11]) := by decide +kernel
theorem xe_222_161 (a0 a1 a2 a3 a4 a5 : Option MV) (x0 z : Int) (μ : MM) (G : MG) : ev 222 161 [a0, a1, a2, a3, a4, a5] (vI x0 :: vR z :: []) μ G = if gk G z = 11 ∧ 0 < z then (ev 218 0 [some (vR z), some (vI x0)] [] μ G).bind (fun q => ev 222 164 [a0, a1, a2, a3, a4, a5] (q.1.toList ++ []) q.2.1 q.2.2) else none := ev_calV (as := [vR z, vI x0]) (r := []) mx_218 pg_222_161 rfl rfl (Nat.le_of_ble_eq_true rfl) (Nat.le_of_ble_eq_true rfl)
theorem pg_222_164 : mm_prog 222 164 = some (0, .ifCond .eq 7, 167, []) := by decide +kernel
theorem xe_222_164 (a0 a1 a2 a3 a4 a5 : Option MV) (x : Int) (st : List MV) (μ : MM) (G : MG) : ev 222 164 [a0, a1, a2, a3, a4, a5] (vI x :: st) μ G = if x = 0 then ev 222 171 [a0, a1, a2, a3, a4, a5] st μ G else ev 222 167 [a0, a1, a2, a3, a4, a5] st μ G := ev_br (mm_cnd_eq x 0) pg_222_164 rfl
theorem pg_222_167 : mm_prog 222 167 = some (0, .iconst 1, 168, []) := by decide +kernel
theorem xe_222_167 (a0 a1 a2 a3 a4 a5 : Option MV) (st : List MV) (μ : MM) (G : MG) : ev 222 167 [a0, a1, a2, a3, a4, a5] st μ G = ev 222 168 [a0, a1, a2, a3, a4, a5] (vI (1) :: st) μ G := ev_stp pg_222_167 rfl
theorem pg_222_168 : mm_prog 222 168 = some (0, .goto 4, 171, []) := by decide +kernel
theorem xe_222_168 (a0 a1 a2 a3 a4 a5 : Option MV) (st : List MV) (μ : MM) (G : MG) : ev 222 168 [a0, a1, a2, a3, a4, a5] st μ G = ev 222 172 [a0, a1, a2, a3, a4, a5] st μ G := ev_stp pg_222_168 rfl
theorem pg_222_171 : mm_prog 222 171 = some (0, .iconst 0, 172, []) := by decide +kernel
theorem xe_222_171 (a0 a1 a2 a3 a4 a5 : Option MV) (st : List MV) (μ : MM) (G : MG) : ev 222 171 [a0, a1, a2, a3, a4, a5] st μ G = ev 222 172 [a0, a1, a2, a3, a4, a5] (vI (0) :: st) μ G := ev_stp pg_222_171 rfl
theorem pg_222_172 : mm_prog 222 172 = some (0, .istore_n 3, 173, []) := by decide +kernel
theorem xe_222_172 (a0 a1 a2 a3 a4 a5 : Option MV) (x : Int) (st : List MV) (μ : MM) (G : MG) (h : mm_nL a2 = true) : ev 222 172 [a0, a1, a2, a3, a4, a5] (vI x :: st) μ G = ev 222 173 [a0, a1, a2, some (vI x), a4, a5] st μ G := ev_st pg_222_172 rfl (mm_nl_of h) (Nat.le_of_ble_eq_true rfl)
theorem pg_222_173 : mm_prog 222 173 = some (0, .iinc 4 1, 176, []) := by decide +kernel
theorem xe_222_173 (a0 a1 a2 a3 a5 : Option MV) (x : Int) (st : List MV) (μ : MM) (G : MG) (h : mm_nL a3 = true) : ev 222 173 [a0, a1, a2, a3, some (vI x), a5] st μ G = ev 222 176 [a0, a1, a2, a3, some (vI (w32 (x + (1)))), a5] st μ G := ev_st pg_222_173 rfl (mm_nl_of h) (Nat.le_of_ble_eq_true rfl)
theorem pg_222_176 : mm_prog 222 176 = some (0, .goto (-157), 179, []) := by decide +kernel
theorem xe_222_176 (a0 a1 a2 a3 a4 a5 : Option MV) (st : List MV) (μ : MM) (G : MG) : ev 222 176 [a0, a1, a2, a3, a4, a5] st μ G = ev 222 19 [a0, a1, a2, a3, a4, a5] st μ G := ev_stp pg_222_176 rfl
theorem pg_222_179 : mm_prog 222 179 = some (0, .iload_n 3, 180, []) := by decide +kernel
theorem xe_222_179 (a0 a1 a2 a4 a5 : Option MV) (x : Int) (st : List MV) (μ : MM) (G : MG) : ev 222 179 [a0, a1, a2, some (vI x), a4, a5] st μ G = ev 222 180 [a0, a1, a2, some (vI x), a4, a5] (vI x :: st) μ G := ev_stp pg_222_179 rfl
theorem pg_222_180 : mm_prog 222 180 = some (0, .ifCond .eq 14, 183, []) := by decide +kernel
theorem xe_222_180 (a0 a1 a2 a3 a4 a5 : Option MV) (x : Int) (st : List MV) (μ : MM) (G : MG) : ev 222 180 [a0, a1, a2, a3, a4, a5] (vI x :: st) μ G = if x = 0 then ev 222 194 [a0, a1, a2, a3, a4, a5] st μ G else ev 222 183 [a0, a1, a2, a3, a4, a5] st μ G := ev_br (mm_cnd_eq x 0) pg_222_180 rfl
theorem pg_222_183 : mm_prog 222 183 = some (0, .aload_n 0, 184, []) := by decide +kernel
theorem xe_222_183 (a1 a2 a3 a4 a5 : Option MV) (x : Int) (st : List MV) (μ : MM) (G : MG) : ev 222 183 [some (vR x), a1, a2, a3, a4, a5] st μ G = ev 222 184 [some (vR x), a1, a2, a3, a4, a5] (vR x :: st) μ G := ev_stp pg_222_183 rfl
theorem pg_222_184 : mm_prog 222 184 = some (0, .iconst 0, 185, []) := by decide +kernel
theorem xe_222_184 (a0 a1 a2 a3 a4 a5 : Option MV) (st : List MV) (μ : MM) (G : MG) : ev 222 184 [a0, a1, a2, a3, a4, a5] st μ G = ev 222 185 [a0, a1, a2, a3, a4, a5] (vI (0) :: st) μ G := ev_stp pg_222_184 rfl
theorem pg_222_185 : mm_prog 222 185 = some (0, .putfield 362, 188, [11, 43, 0]) := by decide +kernel
theorem xe_222_185 (a0 a1 a2 a3 a4 a5 : Option MV) (x y : Int) (st : List MV) (μ : MM) (G : MG) : ev 222 185 [a0, a1, a2, a3, a4, a5] (vI x :: vR y :: st) μ G = if gk G y = 11 then ev 222 188 [a0, a1, a2, a3, a4, a5] st (mset μ y 43 x) G else none := ev_put0 pg_222_185
theorem pg_222_188 : mm_prog 222 188 = some (0, .aload_n 0, 189, []) := by decide +kernel
theorem xe_222_188 (a1 a2 a3 a4 a5 : Option MV) (x : Int) (st : List MV) (μ : MM) (G : MG) : ev 222 188 [some (vR x), a1, a2, a3, a4, a5] st μ G = ev 222 189 [some (vR x), a1, a2, a3, a4, a5] (vR x :: st) μ G := ev_stp pg_222_188 rfl
theorem pg_222_189 : mm_prog 222 189 = some (0, .iconst 4, 190, []) := by decide +kernel
theorem xe_222_189 (a0 a1 a2 a3 a4 a5 : Option MV) (st : List MV) (μ : MM) (G : MG) : ev 222 189 [a0, a1, a2, a3, a4, a5] st μ G = ev 222 190 [a0, a1, a2, a3, a4, a5] (vI (4) :: st) μ G := ev_stp pg_222_189 rfl
theorem pg_222_190 : mm_prog 222 190 = some (1, .invokevirtual 365, 193, [1, 220, 1, 11]) := by decide +kernel
theorem xe_222_190 (a0 a1 a2 a3 a4 a5 : Option MV) (x0 z : Int) (μ : MM) (G : MG) : ev 222 190 [a0, a1, a2, a3, a4, a5] (vI x0 :: vR z :: []) μ G = if gk G z = 11 ∧ 0 < z then (ev 220 0 [some (vR z), some (vI x0), none, none, none] [] μ G).bind (fun q => ev 222 193 [a0, a1, a2, a3, a4, a5] (q.1.toList ++ []) q.2.1 q.2.2) else none := ev_calV (as := [vR z, vI x0]) (r := []) mx_220 pg_222_190 rfl rfl (Nat.le_of_ble_eq_true rfl) (Nat.le_of_ble_eq_true rfl)
theorem pg_222_193 : mm_prog 222 193 = some (2, .return_, 194, []) := by decide +kernel
theorem xe_222_193 (a0 a1 a2 a3 a4 a5 : Option MV) (μ : MM) (G : MG) : ev 222 193 [a0, a1, a2, a3, a4, a5] [] μ G = some (none, μ, G) := ev_ret pg_222_193 rfl
theorem pg_222_194 : mm_prog 222 194 = some (0, .iload_n 1, 195, []) := by decide +kernel
theorem xe_222_194 (a0 a2 a3 a4 a5 : Option MV) (x : Int) (st : List MV) (μ : MM) (G : MG) : ev 222 194 [a0, some (vI x), a2, a3, a4, a5] st μ G = ev 222 195 [a0, some (vI x), a2, a3, a4, a5] (vI x :: st) μ G := ev_stp pg_222_194 rfl
theorem pg_222_195 : mm_prog 222 195 = some (0, .ifCond .eq 17, 198, []) := by decide +kernel
theorem xe_222_195 (a0 a1 a2 a3 a4 a5 : Option MV) (x : Int) (st : List MV) (μ : MM) (G : MG) : ev 222 195 [a0, a1, a2, a3, a4, a5] (vI x :: st) μ G = if x = 0 then ev 222 212 [a0, a1, a2, a3, a4, a5] st μ G else ev 222 198 [a0, a1, a2, a3, a4, a5] st μ G := ev_br (mm_cnd_eq x 0) pg_222_195 rfl
theorem pg_222_198 : mm_prog 222 198 = some (0, .aload_n 0, 199, []) := by decide +kernel
theorem xe_222_198 (a1 a2 a3 a4 a5 : Option MV) (x : Int) (st : List MV) (μ : MM) (G : MG) : ev 222 198 [some (vR x), a1, a2, a3, a4, a5] st μ G = ev 222 199 [some (vR x), a1, a2, a3, a4, a5] (vR x :: st) μ G := ev_stp pg_222_198 rfl
theorem pg_222_199 : mm_prog 222 199 = some (0, .getfield 75, 202, [11, 35, 2]) := by decide +kernel
theorem xe_222_199 (a0 a1 a2 a3 a4 a5 : Option MV) (x : Int) (st : List MV) (μ : MM) (G : MG) : ev 222 199 [a0, a1, a2, a3, a4, a5] (vR x :: st) μ G = if gk G x = 11 then ev 222 202 [a0, a1, a2, a3, a4, a5] (vR (μ x 35) :: st) μ G else none := ev_if pg_222_199 rfl
theorem pg_222_202 : mm_prog 222 202 = some (0, .iconst 0, 203, []) := by decide +kernel
theorem xe_222_202 (a0 a1 a2 a3 a4 a5 : Option MV) (st : List MV) (μ : MM) (G : MG) : ev 222 202 [a0, a1, a2, a3, a4, a5] st μ G = ev 222 203 [a0, a1, a2, a3, a4, a5] (vI (0) :: st) μ G := ev_stp pg_222_202 rfl
theorem pg_222_203 : mm_prog 222 203 = some (0, .iconst 3, 204, []) := by decide +kernel
theorem xe_222_203 (a0 a1 a2 a3 a4 a5 : Option MV) (st : List MV) (μ : MM) (G : MG) : ev 222 203 [a0, a1, a2, a3, a4, a5] st μ G = ev 222 204 [a0, a1, a2, a3, a4, a5] (vI (3) :: st) μ G := ev_stp pg_222_203 rfl
theorem pg_222_204 : mm_prog 222 204 = some (0, .iastore, 205, []) := by decide +kernel
theorem xe_222_204 (a0 a1 a2 a3 a4 a5 : Option MV) (x y z : Int) (st : List MV) (μ : MM) (G : MG) : ev 222 204 [a0, a1, a2, a3, a4, a5] (vI x :: vI y :: vR z :: st) μ G = if gk G z = 100 ∧ 0 ≤ y ∧ y < gl G z ∧ 10 ≤ z then ev 222 205 [a0, a1, a2, a3, a4, a5] st (mset μ z y x) G else none := ev_if pg_222_204 rfl
theorem pg_222_205 : mm_prog 222 205 = some (0, .aload_n 0, 206, []) := by decide +kernel
theorem xe_222_205 (a1 a2 a3 a4 a5 : Option MV) (x : Int) (st : List MV) (μ : MM) (G : MG) : ev 222 205 [some (vR x), a1, a2, a3, a4, a5] st μ G = ev 222 206 [some (vR x), a1, a2, a3, a4, a5] (vR x :: st) μ G := ev_stp pg_222_205 rfl
theorem pg_222_206 : mm_prog 222 206 = some (0, .bipush 8, 208, []) := by decide +kernel
theorem xe_222_206 (a0 a1 a2 a3 a4 a5 : Option MV) (st : List MV) (μ : MM) (G : MG) : ev 222 206 [a0, a1, a2, a3, a4, a5] st μ G = ev 222 208 [a0, a1, a2, a3, a4, a5] (vI (8) :: st) μ G := ev_stp pg_222_206 rfl
theorem pg_222_208 : mm_prog 222 208 = some (0, .putfield 356, 211, [11, 44, 0]) := by decide +kernel
theorem xe_222_208 (a0 a1 a2 a3 a4 a5 : Option MV) (x y : Int) (st : List MV) (μ : MM) (G : MG) : ev 222 208 [a0, a1, a2, a3, a4, a5] (vI x :: vR y :: st) μ G = if gk G y = 11 then ev 222 211 [a0, a1, a2, a3, a4, a5] st (mset μ y 44 x) G else none := ev_put0 pg_222_208
theorem pg_222_211 : mm_prog 222 211 = some (2, .return_, 212, []) := by decide +kernel
theorem xe_222_211 (a0 a1 a2 a3 a4 a5 : Option MV) (μ : MM) (G : MG) : ev 222 211 [a0, a1, a2, a3, a4, a5] [] μ G = some (none, μ, G) := ev_ret pg_222_211 rfl
theorem pg_222_212 : mm_prog 222 212 = some (0, .aload_n 0, 213, []) := by decide +kernel
theorem xe_222_212 (a1 a2 a3 a4 a5 : Option MV) (x : Int) (st : List MV) (μ : MM) (G : MG) : ev 222 212 [some (vR x), a1, a2, a3, a4, a5] st μ G = ev 222 213 [some (vR x), a1, a2, a3, a4, a5] (vR x :: st) μ G := ev_stp pg_222_212 rfl
theorem pg_222_213 : mm_prog 222 213 = some (0, .getfield 75, 216, [11, 35, 2]) := by decide +kernel
theorem xe_222_213 (a0 a1 a2 a3 a4 a5 : Option MV) (x : Int) (st : List MV) (μ : MM) (G : MG) : ev 222 213 [a0, a1, a2, a3, a4, a5] (vR x :: st) μ G = if gk G x = 11 then ev 222 216 [a0, a1, a2, a3, a4, a5] (vR (μ x 35) :: st) μ G else none := ev_if pg_222_213 rfl
theorem pg_222_216 : mm_prog 222 216 = some (0, .iconst 5, 217, []) := by decide +kernel
theorem xe_222_216 (a0 a1 a2 a3 a4 a5 : Option MV) (st : List MV) (μ : MM) (G : MG) : ev 222 216 [a0, a1, a2, a3, a4, a5] st μ G = ev 222 217 [a0, a1, a2, a3, a4, a5] (vI (5) :: st) μ G := ev_stp pg_222_216 rfl
theorem pg_222_217 : mm_prog 222 217 = some (0, .iaload, 218, []) := by decide +kernel
theorem xe_222_217 (a0 a1 a2 a3 a4 a5 : Option MV) (x y : Int) (st : List MV) (μ : MM) (G : MG) : ev 222 217 [a0, a1, a2, a3, a4, a5] (vI x :: vR y :: st) μ G = if gk G y = 100 ∧ 0 ≤ x ∧ x < gl G y then ev 222 218 [a0, a1, a2, a3, a4, a5] (vI (μ y x) :: st) μ G else none := ev_if pg_222_217 rfl
theorem pg_222_218 : mm_prog 222 218 = some (0, .bipush 6, 220, []) := by decide +kernel
theorem xe_222_218 (a0 a1 a2 a3 a4 a5 : Option MV) (st : List MV) (μ : MM) (G : MG) : ev 222 218 [a0, a1, a2, a3, a4, a5] st μ G = ev 222 220 [a0, a1, a2, a3, a4, a5] (vI (6) :: st) μ G := ev_stp pg_222_218 rfl
theorem pg_222_220 : mm_prog 222 220 = some (0, .if_icmp .eq 7, 223, []) := by decide +kernel
theorem xe_222_220 (a0 a1 a2 a3 a4 a5 : Option MV) (x y : Int) (st : List MV) (μ : MM) (G : MG) : ev 222 220 [a0, a1, a2, a3, a4, a5] (vI y :: vI x :: st) μ G = if x = y then ev 222 227 [a0, a1, a2, a3, a4, a5] st μ G else ev 222 223 [a0, a1, a2, a3, a4, a5] st μ G := ev_br (mm_cnd_eq x y) pg_222_220 rfl
theorem pg_222_223 : mm_prog 222 223 = some (0, .iload_n 2, 224, []) := by decide +kernel
theorem xe_222_223 (a0 a1 a3 a4 a5 : Option MV) (x : Int) (st : List MV) (μ : MM) (G : MG) : ev 222 223 [a0, a1, some (vI x), a3, a4, a5] st μ G = ev 222 224 [a0, a1, some (vI x), a3, a4, a5] (vI x :: st) μ G := ev_stp pg_222_223 rfl
theorem pg_222_224 : mm_prog 222 224 = some (0, .ifCond .eq 25, 227, []) := by decide +kernel
theorem xe_222_224 (a0 a1 a2 a3 a4 a5 : Option MV) (x : Int) (st : List MV) (μ : MM) (G : MG) : ev 222 224 [a0, a1, a2, a3, a4, a5] (vI x :: st) μ G = if x = 0 then ev 222 249 [a0, a1, a2, a3, a4, a5] st μ G else ev 222 227 [a0, a1, a2, a3, a4, a5] st μ G := ev_br (mm_cnd_eq x 0) pg_222_224 rfl
theorem pg_222_227 : mm_prog 222 227 = some (0, .aload_n 0, 228, []) := by decide +kernel
theorem xe_222_227 (a1 a2 a3 a4 a5 : Option MV) (x : Int) (st : List MV) (μ : MM) (G : MG) : ev 222 227 [some (vR x), a1, a2, a3, a4, a5] st μ G = ev 222 228 [some (vR x), a1, a2, a3, a4, a5] (vR x :: st) μ G := ev_stp pg_222_227 rfl
theorem pg_222_228 : mm_prog 222 228 = some (0, .aload_n 0, 229, []) := by decide +kernel
theorem xe_222_228 (a1 a2 a3 a4 a5 : Option MV) (x : Int) (st : List MV) (μ : MM) (G : MG) : ev 222 228 [some (vR x), a1, a2, a3, a4, a5] st μ G = ev 222 229 [some (vR x), a1, a2, a3, a4, a5] (vR x :: st) μ G := ev_stp pg_222_228 rfl
theorem pg_222_229 : mm_prog 222 229 = some (0, .getfield 75, 232, [11, 35, 2]) := by decide +kernel
theorem xe_222_229 (a0 a1 a2 a3 a4 a5 : Option MV) (x : Int) (st : List MV) (μ : MM) (G : MG) : ev 222 229 [a0, a1, a2, a3, a4, a5] (vR x :: st) μ G = if gk G x = 11 then ev 222 232 [a0, a1, a2, a3, a4, a5] (vR (μ x 35) :: st) μ G else none := ev_if pg_222_229 rfl
theorem pg_222_232 : mm_prog 222 232 = some (0, .iconst 5, 233, []) := by decide +kernel
theorem xe_222_232 (a0 a1 a2 a3 a4 a5 : Option MV) (st : List MV) (μ : MM) (G : MG) : ev 222 232 [a0, a1, a2, a3, a4, a5] st μ G = ev 222 233 [a0, a1, a2, a3, a4, a5] (vI (5) :: st) μ G := ev_stp pg_222_232 rfl
theorem pg_222_233 : mm_prog 222 233 = some (0, .iaload, 234, []) := by decide +kernel
theorem xe_222_233 (a0 a1 a2 a3 a4 a5 : Option MV) (x y : Int) (st : List MV) (μ : MM) (G : MG) : ev 222 233 [a0, a1, a2, a3, a4, a5] (vI x :: vR y :: st) μ G = if gk G y = 100 ∧ 0 ≤ x ∧ x < gl G y then ev 222 234 [a0, a1, a2, a3, a4, a5] (vI (μ y x) :: st) μ G else none := ev_if pg_222_233 rfl
theorem pg_222_234 : mm_prog 222 234 = some (0, .bipush 6, 236, []) := by decide +kernel
theorem xe_222_234 (a0 a1 a2 a3 a4 a5 : Option MV) (st : List MV) (μ : MM) (G : MG) : ev 222 234 [a0, a1, a2, a3, a4, a5] st μ G = ev 222 236 [a0, a1, a2, a3, a4, a5] (vI (6) :: st) μ G := ev_stp pg_222_234 rfl
theorem pg_222_236 : mm_prog 222 236 = some (0, .if_icmp .ne 7, 239, []) := by decide +kernel
theorem xe_222_236 (a0 a1 a2 a3 a4 a5 : Option MV) (x y : Int) (st : List MV) (μ : MM) (G : MG) : ev 222 236 [a0, a1, a2, a3, a4, a5] (vI y :: vI x :: st) μ G = if ¬ x = y then ev 222 243 [a0, a1, a2, a3, a4, a5] st μ G else ev 222 239 [a0, a1, a2, a3, a4, a5] st μ G := ev_br (mm_cnd_ne x y) pg_222_236 rfl
theorem pg_222_239 : mm_prog 222 239 = some (0, .iconst 5, 240, []) := by decide +kernel
theorem xe_222_239 (a0 a1 a2 a3 a4 a5 : Option MV) (st : List MV) (μ : MM) (G : MG) : ev 222 239 [a0, a1, a2, a3, a4, a5] st μ G = ev 222 240 [a0, a1, a2, a3, a4, a5] (vI (5) :: st) μ G := ev_stp pg_222_239 rfl
theorem pg_222_240 : mm_prog 222 240 = some (0, .goto 5, 243, []) := by decide +kernel
theorem xe_222_240 (a0 a1 a2 a3 a4 a5 : Option MV) (st : List MV) (μ : MM) (G : MG) : ev 222 240 [a0, a1, a2, a3, a4, a5] st μ G = ev 222 245 [a0, a1, a2, a3, a4, a5] st μ G := ev_stp pg_222_240 rfl
theorem pg_222_243 : mm_prog 222 243 = some (0, .bipush 6, 245, []) := by decide +kernel
theorem xe_222_243 (a0 a1 a2 a3 a4 a5 : Option MV) (st : List MV) (μ : MM) (G : MG) : ev 222 243 [a0, a1, a2, a3, a4, a5] st μ G = ev 222 245 [a0, a1, a2, a3, a4, a5] (vI (6) :: st) μ G := ev_stp pg_222_243 rfl
theorem pg_222_245 : mm_prog 222 245 = some (1, .invokevirtual 365, 248, [1, 220, 1, 11]) := by decide +kernel
theorem xe_222_245 (a0 a1 a2 a3 a4 a5 : Option MV) (x0 z : Int) (μ : MM) (G : MG) : ev 222 245 [a0, a1, a2, a3, a4, a5] (vI x0 :: vR z :: []) μ G = if gk G z = 11 ∧ 0 < z then (ev 220 0 [some (vR z), some (vI x0), none, none, none] [] μ G).bind (fun q => ev 222 248 [a0, a1, a2, a3, a4, a5] (q.1.toList ++ []) q.2.1 q.2.2) else none := ev_calV (as := [vR z, vI x0]) (r := []) mx_220 pg_222_245 rfl rfl (Nat.le_of_ble_eq_true rfl) (Nat.le_of_ble_eq_true rfl)
theorem pg_222_248 : mm_prog 222 248 = some (2, .return_, 249, []) := by decide +kernel
theorem xe_222_248 (a0 a1 a2 a3 a4 a5 : Option MV) (μ : MM) (G : MG) : ev 222 248 [a0, a1, a2, a3, a4, a5] [] μ G = some (none, μ, G) := ev_ret pg_222_248 rfl
theorem pg_222_249 : mm_prog 222 249 = some (0, .iconst 0, 250, []) := by decide +kernel
theorem xe_222_249 (a0 a1 a2 a3 a4 a5 : Option MV) (st : List MV) (μ : MM) (G : MG) : ev 222 249 [a0, a1, a2, a3, a4, a5] st μ G = ev 222 250 [a0, a1, a2, a3, a4, a5] (vI (0) :: st) μ G := ev_stp pg_222_249 rfl
theorem pg_222_250 : mm_prog 222 250 = some (0, .istore 4, 252, []) := by decide +kernel
theorem xe_222_250 (a0 a1 a2 a3 a4 a5 : Option MV) (x : Int) (st : List MV) (μ : MM) (G : MG) (h : mm_nL a3 = true) : ev 222 250 [a0, a1, a2, a3, a4, a5] (vI x :: st) μ G = ev 222 252 [a0, a1, a2, a3, some (vI x), a5] st μ G := ev_st pg_222_250 rfl (mm_nl_of h) (Nat.le_of_ble_eq_true rfl)
theorem pg_222_252 : mm_prog 222 252 = some (0, .iload 4, 254, []) := by decide +kernel
theorem xe_222_252 (a0 a1 a2 a3 a5 : Option MV) (x : Int) (st : List MV) (μ : MM) (G : MG) : ev 222 252 [a0, a1, a2, a3, some (vI x), a5] st μ G = ev 222 254 [a0, a1, a2, a3, some (vI x), a5] (vI x :: st) μ G := ev_stp pg_222_252 rfl
theorem pg_222_254 : mm_prog 222 254 = some (0, .aload_n 0, 255, []) := by decide +kernel
theorem xe_222_254 (a1 a2 a3 a4 a5 : Option MV) (x : Int) (st : List MV) (μ : MM) (G : MG) : ev 222 254 [some (vR x), a1, a2, a3, a4, a5] st μ G = ev 222 255 [some (vR x), a1, a2, a3, a4, a5] (vR x :: st) μ G := ev_stp pg_222_254 rfl
theorem pg_222_255 : mm_prog 222 255 = some (0, .getfield 75, 258, [11, 35, 2]) := by decide +kernel
theorem xe_222_255 (a0 a1 a2 a3 a4 a5 : Option MV) (x : Int) (st : List MV) (μ : MM) (G : MG) : ev 222 255 [a0, a1, a2, a3, a4, a5] (vR x :: st) μ G = if gk G x = 11 then ev 222 258 [a0, a1, a2, a3, a4, a5] (vR (μ x 35) :: st) μ G else none := ev_if pg_222_255 rfl
theorem pg_222_258 : mm_prog 222 258 = some (0, .iconst 1, 259, []) := by decide +kernel
theorem xe_222_258 (a0 a1 a2 a3 a4 a5 : Option MV) (st : List MV) (μ : MM) (G : MG) : ev 222 258 [a0, a1, a2, a3, a4, a5] st μ G = ev 222 259 [a0, a1, a2, a3, a4, a5] (vI (1) :: st) μ G := ev_stp pg_222_258 rfl
theorem pg_222_259 : mm_prog 222 259 = some (0, .iaload, 260, []) := by decide +kernel
theorem xe_222_259 (a0 a1 a2 a3 a4 a5 : Option MV) (x y : Int) (st : List MV) (μ : MM) (G : MG) : ev 222 259 [a0, a1, a2, a3, a4, a5] (vI x :: vR y :: st) μ G = if gk G y = 100 ∧ 0 ≤ x ∧ x < gl G y then ev 222 260 [a0, a1, a2, a3, a4, a5] (vI (μ y x) :: st) μ G else none := ev_if pg_222_259 rfl
theorem pg_222_260 : mm_prog 222 260 = some (0, .if_icmp .ge 74, 263, []) := by decide +kernel
theorem xe_222_260 (a0 a1 a2 a3 a4 a5 : Option MV) (x y : Int) (st : List MV) (μ : MM) (G : MG) : ev 222 260 [a0, a1, a2, a3, a4, a5] (vI y :: vI x :: st) μ G = if y ≤ x then ev 222 334 [a0, a1, a2, a3, a4, a5] st μ G else ev 222 263 [a0, a1, a2, a3, a4, a5] st μ G := ev_br (mm_cnd_ge x y) pg_222_260 rfl
theorem pg_222_263 : mm_prog 222 263 = some (0, .aload_n 0, 264, []) := by decide +kernel
theorem xe_222_263 (a1 a2 a3 a4 a5 : Option MV) (x : Int) (st : List MV) (μ : MM) (G : MG) : ev 222 263 [some (vR x), a1, a2, a3, a4, a5] st μ G = ev 222 264 [some (vR x), a1, a2, a3, a4, a5] (vR x :: st) μ G := ev_stp pg_222_263 rfl
theorem pg_222_264 : mm_prog 222 264 = some (0, .iload 4, 266, []) := by decide +kernel
theorem xe_222_264 (a0 a1 a2 a3 a5 : Option MV) (x : Int) (st : List MV) (μ : MM) (G : MG) : ev 222 264 [a0, a1, a2, a3, some (vI x), a5] st μ G = ev 222 266 [a0, a1, a2, a3, some (vI x), a5] (vI x :: st) μ G := ev_stp pg_222_264 rfl
theorem pg_222_266 : mm_prog 222 266 = some (1, .invokevirtual 368, 269, [1, 219, 1, 11]) := by decide +kernel
theorem xe_222_266 (a0 a1 a2 a3 a4 a5 : Option MV) (x0 z : Int) (μ : MM) (G : MG) : ev 222 266 [a0, a1, a2, a3, a4, a5] (vI x0 :: vR z :: []) μ G = if gk G z = 11 ∧ 0 < z then (ev 219 0 [some (vR z), some (vI x0)] [] μ G).bind (fun q => ev 222 269 [a0, a1, a2, a3, a4, a5] (q.1.toList ++ []) q.2.1 q.2.2) else none := ev_calV (as := [vR z, vI x0]) (r := []) mx_219 pg_222_266 rfl rfl (Nat.le_of_ble_eq_true rfl) (Nat.le_of_ble_eq_true rfl)
theorem pg_222_269 : mm_prog 222 269 = some (0, .ifCond .ne 6, 272, []) := by decide +kernel
theorem xe_222_269 (a0 a1 a2 a3 a4 a5 : Option MV) (x : Int) (st : List MV) (μ : MM) (G : MG) : ev 222 269 [a0, a1, a2, a3, a4, a5] (vI x :: st) μ G = if ¬ x = 0 then ev 222 275 [a0, a1, a2, a3, a4, a5] st μ G else ev 222 272 [a0, a1, a2, a3, a4, a5] st μ G := ev_br (mm_cnd_ne x 0) pg_222_269 rfl
theorem pg_222_272 : mm_prog 222 272 = some (0, .goto 56, 275, []) := by decide +kernel
theorem xe_222_272 (a0 a1 a2 a3 a4 a5 : Option MV) (st : List MV) (μ : MM) (G : MG) : ev 222 272 [a0, a1, a2, a3, a4, a5] st μ G = ev 222 328 [a0, a1, a2, a3, a4, a5] st μ G := ev_stp pg_222_272 rfl
theorem pg_222_275 : mm_prog 222 275 = some (0, .aload_n 0, 276, []) := by decide +kernel
theorem xe_222_275 (a1 a2 a3 a4 a5 : Option MV) (x : Int) (st : List MV) (μ : MM) (G : MG) : ev 222 275 [some (vR x), a1, a2, a3, a4, a5] st μ G = ev 222 276 [some (vR x), a1, a2, a3, a4, a5] (vR x :: st) μ G := ev_stp pg_222_275 rfl
theorem pg_222_276 : mm_prog 222 276 = some (0, .getfield 75, 279, [11, 35, 2]) := by decide +kernel
theorem xe_222_276 (a0 a1 a2 a3 a4 a5 : Option MV) (x : Int) (st : List MV) (μ : MM) (G : MG) : ev 222 276 [a0, a1, a2, a3, a4, a5] (vR x :: st) μ G = if gk G x = 11 then ev 222 279 [a0, a1, a2, a3, a4, a5] (vR (μ x 35) :: st) μ G else none := ev_if pg_222_276 rfl
theorem pg_222_279 : mm_prog 222 279 = some (0, .bipush 12, 281, []) := by decide +kernel
theorem xe_222_279 (a0 a1 a2 a3 a4 a5 : Option MV) (st : List MV) (μ : MM) (G : MG) : ev 222 279 [a0, a1, a2, a3, a4, a5] st μ G = ev 222 281 [a0, a1, a2, a3, a4, a5] (vI (12) :: st) μ G := ev_stp pg_222_279 rfl
theorem pg_222_281 : mm_prog 222 281 = some (0, .iload 4, 283, []) := by decide +kernel
theorem xe_222_281 (a0 a1 a2 a3 a5 : Option MV) (x : Int) (st : List MV) (μ : MM) (G : MG) : ev 222 281 [a0, a1, a2, a3, some (vI x), a5] st μ G = ev 222 283 [a0, a1, a2, a3, some (vI x), a5] (vI x :: st) μ G := ev_stp pg_222_281 rfl
theorem pg_222_283 : mm_prog 222 283 = some (0, .iadd, 284, []) := by decide +kernel
theorem xe_222_283 (a0 a1 a2 a3 a4 a5 : Option MV) (x y : Int) (st : List MV) (μ : MM) (G : MG) : ev 222 283 [a0, a1, a2, a3, a4, a5] (vI y :: vI x :: st) μ G = ev 222 284 [a0, a1, a2, a3, a4, a5] (vI (w32 (x + y)) :: st) μ G := ev_stp pg_222_283 rfl
theorem pg_222_284 : mm_prog 222 284 = some (0, .dup2, 285, []) := by decide +kernel
theorem xe_222_284 (a0 a1 a2 a3 a4 a5 : Option MV) (x y : Int) (st : List MV) (μ : MM) (G : MG) : ev 222 284 [a0, a1, a2, a3, a4, a5] (vI x :: vR y :: st) μ G = ev 222 285 [a0, a1, a2, a3, a4, a5] (vI x :: vR y :: vI x :: vR y :: st) μ G := ev_stp pg_222_284 rfl
theorem pg_222_285 : mm_prog 222 285 = some (0, .iaload, 286, []) := by decide +kernel
theorem xe_222_285 (a0 a1 a2 a3 a4 a5 : Option MV) (x y : Int) (st : List MV) (μ : MM) (G : MG) : ev 222 285 [a0, a1, a2, a3, a4, a5] (vI x :: vR y :: st) μ G = if gk G y = 100 ∧ 0 ≤ x ∧ x < gl G y then ev 222 286 [a0, a1, a2, a3, a4, a5] (vI (μ y x) :: st) μ G else none := ev_if pg_222_285 rfl
theorem pg_222_286 : mm_prog 222 286 = some (0, .iconst 1, 287, []) := by decide +kernel
theorem xe_222_286 (a0 a1 a2 a3 a4 a5 : Option MV) (st : List MV) (μ : MM) (G : MG) : ev 222 286 [a0, a1, a2, a3, a4, a5] st μ G = ev 222 287 [a0, a1, a2, a3, a4, a5] (vI (1) :: st) μ G := ev_stp pg_222_286 rfl
theorem pg_222_287 : mm_prog 222 287 = some (0, .iadd, 288, []) := by decide +kernel
theorem xe_222_287 (a0 a1 a2 a3 a4 a5 : Option MV) (x y : Int) (st : List MV) (μ : MM) (G : MG) : ev 222 287 [a0, a1, a2, a3, a4, a5] (vI y :: vI x :: st) μ G = ev 222 288 [a0, a1, a2, a3, a4, a5] (vI (w32 (x + y)) :: st) μ G := ev_stp pg_222_287 rfl
theorem pg_222_288 : mm_prog 222 288 = some (0, .iastore, 289, []) := by decide +kernel
theorem xe_222_288 (a0 a1 a2 a3 a4 a5 : Option MV) (x y z : Int) (st : List MV) (μ : MM) (G : MG) : ev 222 288 [a0, a1, a2, a3, a4, a5] (vI x :: vI y :: vR z :: st) μ G = if gk G z = 100 ∧ 0 ≤ y ∧ y < gl G z ∧ 10 ≤ z then ev 222 289 [a0, a1, a2, a3, a4, a5] st (mset μ z y x) G else none := ev_if pg_222_288 rfl
theorem pg_222_289 : mm_prog 222 289 = some (0, .aload_n 0, 290, []) := by decide +kernel
theorem xe_222_289 (a1 a2 a3 a4 a5 : Option MV) (x : Int) (st : List MV) (μ : MM) (G : MG) : ev 222 289 [some (vR x), a1, a2, a3, a4, a5] st μ G = ev 222 290 [some (vR x), a1, a2, a3, a4, a5] (vR x :: st) μ G := ev_stp pg_222_289 rfl
theorem pg_222_290 : mm_prog 222 290 = some (0, .getfield 75, 293, [11, 35, 2]) := by decide +kernel
theorem xe_222_290 (a0 a1 a2 a3 a4 a5 : Option MV) (x : Int) (st : List MV) (μ : MM) (G : MG) : ev 222 290 [a0, a1, a2, a3, a4, a5] (vR x :: st) μ G = if gk G x = 11 then ev 222 293 [a0, a1, a2, a3, a4, a5] (vR (μ x 35) :: st) μ G else none := ev_if pg_222_290 rfl
theorem pg_222_293 : mm_prog 222 293 = some (0, .bipush 8, 295, []) := by decide +kernel
theorem xe_222_293 (a0 a1 a2 a3 a4 a5 : Option MV) (st : List MV) (μ : MM) (G : MG) : ev 222 293 [a0, a1, a2, a3, a4, a5] st μ G = ev 222 295 [a0, a1, a2, a3, a4, a5] (vI (8) :: st) μ G := ev_stp pg_222_293 rfl
theorem pg_222_295 : mm_prog 222 295 = some (0, .iload 4, 297, []) := by decide +kernel
theorem xe_222_295 (a0 a1 a2 a3 a5 : Option MV) (x : Int) (st : List MV) (μ : MM) (G : MG) : ev 222 295 [a0, a1, a2, a3, some (vI x), a5] st μ G = ev 222 297 [a0, a1, a2, a3, some (vI x), a5] (vI x :: st) μ G := ev_stp pg_222_295 rfl
theorem pg_222_297 : mm_prog 222 297 = some (0, .iadd, 298, []) := by decide +kernel
theorem xe_222_297 (a0 a1 a2 a3 a4 a5 : Option MV) (x y : Int) (st : List MV) (μ : MM) (G : MG) : ev 222 297 [a0, a1, a2, a3, a4, a5] (vI y :: vI x :: st) μ G = ev 222 298 [a0, a1, a2, a3, a4, a5] (vI (w32 (x + y)) :: st) μ G := ev_stp pg_222_297 rfl
theorem pg_222_298 : mm_prog 222 298 = some (0, .iaload, 299, []) := by decide +kernel
theorem xe_222_298 (a0 a1 a2 a3 a4 a5 : Option MV) (x y : Int) (st : List MV) (μ : MM) (G : MG) : ev 222 298 [a0, a1, a2, a3, a4, a5] (vI x :: vR y :: st) μ G = if gk G y = 100 ∧ 0 ≤ x ∧ x < gl G y then ev 222 299 [a0, a1, a2, a3, a4, a5] (vI (μ y x) :: st) μ G else none := ev_if pg_222_298 rfl
theorem pg_222_299 : mm_prog 222 299 = some (0, .aload_n 0, 300, []) := by decide +kernel
theorem xe_222_299 (a1 a2 a3 a4 a5 : Option MV) (x : Int) (st : List MV) (μ : MM) (G : MG) : ev 222 299 [some (vR x), a1, a2, a3, a4, a5] st μ G = ev 222 300 [some (vR x), a1, a2, a3, a4, a5] (vR x :: st) μ G := ev_stp pg_222_299 rfl
theorem pg_222_300 : mm_prog 222 300 = some (0, .getfield 75, 303, [11, 35, 2]) := by decide +kernel
theorem xe_222_300 (a0 a1 a2 a3 a4 a5 : Option MV) (x : Int) (st : List MV) (μ : MM) (G : MG) : ev 222 300 [a0, a1, a2, a3, a4, a5] (vR x :: st) μ G = if gk G x = 11 then ev 222 303 [a0, a1, a2, a3, a4, a5] (vR (μ x 35) :: st) μ G else none := ev_if pg_222_300 rfl
theorem pg_222_303 : mm_prog 222 303 = some (0, .bipush 12, 305, []) := by decide +kernel
theorem xe_222_303 (a0 a1 a2 a3 a4 a5 : Option MV) (st : List MV) (μ : MM) (G : MG) : ev 222 303 [a0, a1, a2, a3, a4, a5] st μ G = ev 222 305 [a0, a1, a2, a3, a4, a5] (vI (12) :: st) μ G := ev_stp pg_222_303 rfl
theorem pg_222_305 : mm_prog 222 305 = some (0, .iload 4, 307, []) := by decide +kernel
theorem xe_222_305 (a0 a1 a2 a3 a5 : Option MV) (x : Int) (st : List MV) (μ : MM) (G : MG) : ev 222 305 [a0, a1, a2, a3, some (vI x), a5] st μ G = ev 222 307 [a0, a1, a2, a3, some (vI x), a5] (vI x :: st) μ G := ev_stp pg_222_305 rfl
theorem pg_222_307 : mm_prog 222 307 = some (0, .iadd, 308, []) := by decide +kernel
theorem xe_222_307 (a0 a1 a2 a3 a4 a5 : Option MV) (x y : Int) (st : List MV) (μ : MM) (G : MG) : ev 222 307 [a0, a1, a2, a3, a4, a5] (vI y :: vI x :: st) μ G = ev 222 308 [a0, a1, a2, a3, a4, a5] (vI (w32 (x + y)) :: st) μ G := ev_stp pg_222_307 rfl
theorem pg_222_308 : mm_prog 222 308 = some (0, .iaload, 309, []) := by decide +kernel
theorem xe_222_308 (a0 a1 a2 a3 a4 a5 : Option MV) (x y : Int) (st : List MV) (μ : MM) (G : MG) : ev 222 308 [a0, a1, a2, a3, a4, a5] (vI x :: vR y :: st) μ G = if gk G y = 100 ∧ 0 ≤ x ∧ x < gl G y then ev 222 309 [a0, a1, a2, a3, a4, a5] (vI (μ y x) :: st) μ G else none := ev_if pg_222_308 rfl
theorem pg_222_309 : mm_prog 222 309 = some (0, .iadd, 310, []) := by decide +kernel
theorem xe_222_309 (a0 a1 a2 a3 a4 a5 : Option MV) (x y : Int) (st : List MV) (μ : MM) (G : MG) : ev 222 309 [a0, a1, a2, a3, a4, a5] (vI y :: vI x :: st) μ G = ev 222 310 [a0, a1, a2, a3, a4, a5] (vI (w32 (x + y)) :: st) μ G := ev_stp pg_222_309 rfl
theorem pg_222_310 : mm_prog 222 310 = some (0, .iconst 3, 311, []) := by decide +kernel
theorem xe_222_310 (a0 a1 a2 a3 a4 a5 : Option MV) (st : List MV) (μ : MM) (G : MG) : ev 222 310 [a0, a1, a2, a3, a4, a5] st μ G = ev 222 311 [a0, a1, a2, a3, a4, a5] (vI (3) :: st) μ G := ev_stp pg_222_310 rfl
theorem pg_222_311 : mm_prog 222 311 = some (0, .if_icmp .le 17, 314, []) := by decide +kernel
theorem xe_222_311 (a0 a1 a2 a3 a4 a5 : Option MV) (x y : Int) (st : List MV) (μ : MM) (G : MG) : ev 222 311 [a0, a1, a2, a3, a4, a5] (vI y :: vI x :: st) μ G = if x ≤ y then ev 222 328 [a0, a1, a2, a3, a4, a5] st μ G else ev 222 314 [a0, a1, a2, a3, a4, a5] st μ G := ev_br (mm_cnd_le x y) pg_222_311 rfl
theorem pg_222_314 : mm_prog 222 314 = some (0, .aload_n 0, 315, []) := by decide +kernel
theorem xe_222_314 (a1 a2 a3 a4 a5 : Option MV) (x : Int) (st : List MV) (μ : MM) (G : MG) : ev 222 314 [some (vR x), a1, a2, a3, a4, a5] st μ G = ev 222 315 [some (vR x), a1, a2, a3, a4, a5] (vR x :: st) μ G := ev_stp pg_222_314 rfl
theorem pg_222_315 : mm_prog 222 315 = some (0, .getfield 75, 318, [11, 35, 2]) := by decide +kernel
theorem xe_222_315 (a0 a1 a2 a3 a4 a5 : Option MV) (x : Int) (st : List MV) (μ : MM) (G : MG) : ev 222 315 [a0, a1, a2, a3, a4, a5] (vR x :: st) μ G = if gk G x = 11 then ev 222 318 [a0, a1, a2, a3, a4, a5] (vR (μ x 35) :: st) μ G else none := ev_if pg_222_315 rfl
theorem pg_222_318 : mm_prog 222 318 = some (0, .bipush 8, 320, []) := by decide +kernel
theorem xe_222_318 (a0 a1 a2 a3 a4 a5 : Option MV) (st : List MV) (μ : MM) (G : MG) : ev 222 318 [a0, a1, a2, a3, a4, a5] st μ G = ev 222 320 [a0, a1, a2, a3, a4, a5] (vI (8) :: st) μ G := ev_stp pg_222_318 rfl
theorem pg_222_320 : mm_prog 222 320 = some (0, .iload 4, 322, []) := by decide +kernel
theorem xe_222_320 (a0 a1 a2 a3 a5 : Option MV) (x : Int) (st : List MV) (μ : MM) (G : MG) : ev 222 320 [a0, a1, a2, a3, some (vI x), a5] st μ G = ev 222 322 [a0, a1, a2, a3, some (vI x), a5] (vI x :: st) μ G := ev_stp pg_222_320 rfl
theorem pg_222_322 : mm_prog 222 322 = some (0, .iadd, 323, []) := by decide +kernel
theorem xe_222_322 (a0 a1 a2 a3 a4 a5 : Option MV) (x y : Int) (st : List MV) (μ : MM) (G : MG) : ev 222 322 [a0, a1, a2, a3, a4, a5] (vI y :: vI x :: st) μ G = ev 222 323 [a0, a1, a2, a3, a4, a5] (vI (w32 (x + y)) :: st) μ G := ev_stp pg_222_322 rfl
theorem pg_222_323 : mm_prog 222 323 = some (0, .dup2, 324, []) := by decide +kernel
theorem xe_222_323 (a0 a1 a2 a3 a4 a5 : Option MV) (x y : Int) (st : List MV) (μ : MM) (G : MG) : ev 222 323 [a0, a1, a2, a3, a4, a5] (vI x :: vR y :: st) μ G = ev 222 324 [a0, a1, a2, a3, a4, a5] (vI x :: vR y :: vI x :: vR y :: st) μ G := ev_stp pg_222_323 rfl
theorem pg_222_324 : mm_prog 222 324 = some (0, .iaload, 325, []) := by decide +kernel
theorem xe_222_324 (a0 a1 a2 a3 a4 a5 : Option MV) (x y : Int) (st : List MV) (μ : MM) (G : MG) : ev 222 324 [a0, a1, a2, a3, a4, a5] (vI x :: vR y :: st) μ G = if gk G y = 100 ∧ 0 ≤ x ∧ x < gl G y then ev 222 325 [a0, a1, a2, a3, a4, a5] (vI (μ y x) :: st) μ G else none := ev_if pg_222_324 rfl
theorem pg_222_325 : mm_prog 222 325 = some (0, .iconst 1, 326, []) := by decide +kernel
theorem xe_222_325 (a0 a1 a2 a3 a4 a5 : Option MV) (st : List MV) (μ : MM) (G : MG) : ev 222 325 [a0, a1, a2, a3, a4, a5] st μ G = ev 222 326 [a0, a1, a2, a3, a4, a5] (vI (1) :: st) μ G := ev_stp pg_222_325 rfl
theorem pg_222_326 : mm_prog 222 326 = some (0, .isub, 327, []) := by decide +kernel
theorem xe_222_326 (a0 a1 a2 a3 a4 a5 : Option MV) (x y : Int) (st : List MV) (μ : MM) (G : MG) : ev 222 326 [a0, a1, a2, a3, a4, a5] (vI y :: vI x :: st) μ G = ev 222 327 [a0, a1, a2, a3, a4, a5] (vI (w32 (x - y)) :: st) μ G := ev_stp pg_222_326 rfl
theorem pg_222_327 : mm_prog 222 327 = some (0, .iastore, 328, []) := by decide +kernel
theorem xe_222_327 (a0 a1 a2 a3 a4 a5 : Option MV) (x y z : Int) (st : List MV) (μ : MM) (G : MG) : ev 222 327 [a0, a1, a2, a3, a4, a5] (vI x :: vI y :: vR z :: st) μ G = if gk G z = 100 ∧ 0 ≤ y ∧ y < gl G z ∧ 10 ≤ z then ev 222 328 [a0, a1, a2, a3, a4, a5] st (mset μ z y x) G else none := ev_if pg_222_327 rfl
theorem pg_222_328 : mm_prog 222 328 = some (0, .iinc 4 1, 331, []) := by decide +kernel
theorem xe_222_328 (a0 a1 a2 a3 a5 : Option MV) (x : Int) (st : List MV) (μ : MM) (G : MG) (h : mm_nL a3 = true) : ev 222 328 [a0, a1, a2, a3, some (vI x), a5] st μ G = ev 222 331 [a0, a1, a2, a3, some (vI (w32 (x + (1)))), a5] st μ G := ev_st pg_222_328 rfl (mm_nl_of h) (Nat.le_of_ble_eq_true rfl)
theorem pg_222_331 : mm_prog 222 331 = some (0, .goto (-79), 334, []) := by decide +kernel
theorem xe_222_331 (a0 a1 a2 a3 a4 a5 : Option MV) (st : List MV) (μ : MM) (G : MG) : ev 222 331 [a0, a1, a2, a3, a4, a5] st μ G = ev 222 252 [a0, a1, a2, a3, a4, a5] st μ G := ev_stp pg_222_331 rfl
theorem pg_222_334 : mm_prog 222 334 = some (2, .return_, 335, []) := by decide +kernel
theorem xe_222_334 (a0 a1 a2 a3 a4 a5 : Option MV) (μ : MM) (G : MG) : ev 222 334 [a0, a1, a2, a3, a4, a5] [] μ G = some (none, μ, G) := ev_ret pg_222_334 rfl
-- X11_isTraining
theorem pg_223_0 : mm_prog 223 0 = some (0, .aload_n 0, 1, []) := by decide +kernel
theorem xe_223_0 (x : Int) (st : List MV) (μ : MM) (G : MG) : ev 223 0 [some (vR x)] st μ G = ev 223 1 [some (vR x)] (vR x :: st) μ G := ev_stp pg_223_0 rfl
theorem pg_223_1 : mm_prog 223 1 = some (0, .getfield 75, 4, [11, 35, 2]) := by decide +kernel
theorem xe_223_1 (a0 : Option MV) (x : Int) (st : List MV) (μ : MM) (G : MG) : ev 223 1 [a0] (vR x :: st) μ G = if gk G x = 11 then ev 223 4 [a0] (vR (μ x 35) :: st) μ G else none := ev_if pg_223_1 rfl
theorem pg_223_4 : mm_prog 223 4 = some (0, .iconst 0, 5, []) := by decide +kernel
theorem xe_223_4 (a0 : Option MV) (st : List MV) (μ : MM) (G : MG) : ev 223 4 [a0] st μ G = ev 223 5 [a0] (vI (0) :: st) μ G := ev_stp pg_223_4 rfl
theorem pg_223_5 : mm_prog 223 5 = some (0, .iaload, 6, []) := by decide +kernel
theorem xe_223_5 (a0 : Option MV) (x y : Int) (st : List MV) (μ : MM) (G : MG) : ev 223 5 [a0] (vI x :: vR y :: st) μ G = if gk G y = 100 ∧ 0 ≤ x ∧ x < gl G y then ev 223 6 [a0] (vI (μ y x) :: st) μ G else none := ev_if pg_223_5 rfl
theorem pg_223_6 : mm_prog 223 6 = some (0, .i2l, 7, []) := by decide +kernel
theorem xe_223_6 (a0 : Option MV) (x : Int) (st : List MV) (μ : MM) (G : MG) : ev 223 6 [a0] (vI x :: st) μ G = ev 223 7 [a0] (vL x :: st) μ G := ev_stp pg_223_6 rfl
theorem pg_223_7 : mm_prog 223 7 = some (0, .lconst 1, 8, []) := by decide +kernel
theorem xe_223_7 (a0 : Option MV) (st : List MV) (μ : MM) (G : MG) : ev 223 7 [a0] st μ G = ev 223 8 [a0] (vL 1 :: st) μ G := ev_stp pg_223_7 rfl
theorem pg_223_8 : mm_prog 223 8 = some (0, .ldc2_w 184, 11, [2]) := by decide +kernel
theorem xe_223_8 (a0 : Option MV) (st : List MV) (μ : MM) (G : MG) : ev 223 8 [a0] st μ G = ev 223 11 [a0] (vL (2) :: st) μ G := ev_stp pg_223_8 rfl
theorem pg_223_11 : mm_prog 223 11 = some (1, .invokestatic 107, 14, [0, 148, 3, 0]) := by decide +kernel
theorem xe_223_11 (a0 : Option MV) (x0 x1 x2 : Int) (μ : MM) (G : MG) : ev 223 11 [a0] (vL x2 :: vL x1 :: vL x0 :: []) μ G = (ev 148 0 [some (vL x0), none, some (vL x1), none, some (vL x2), none] [] μ G).bind (fun q => ev 223 14 [a0] (q.1.toList ++ []) q.2.1 q.2.2) := ev_calS (as := [vL x0, vL x1, vL x2]) (r := []) mx_148 pg_223_11 rfl rfl (Nat.le_of_ble_eq_true rfl) (Nat.le_of_ble_eq_true rfl)
theorem pg_223_14 : mm_prog 223 14 = some (2, .ireturn, 15, [1]) := by decide +kernel
theorem xe_223_14 (a0 : Option MV) (x : Int) (μ : MM) (G : MG) : ev 223 14 [a0] [vI x] μ G = if x = 0 ∨ x = 1 then some (some (vI x), μ, G) else none := ev_retB pg_223_14
-- X11_digits
theorem pg_224_0 : mm_prog 224 0 = some (0, .iconst 0, 1, []) := by decide +kernel
theorem xe_224_0 (a0 a1 a2 a3 : Option MV) (st : List MV) (μ : MM) (G : MG) : ev 224 0 [a0, a1, a2, a3] st μ G = ev 224 1 [a0, a1, a2, a3] (vI (0) :: st) μ G := ev_stp pg_224_0 rfl
theorem pg_224_1 : mm_prog 224 1 = some (0, .istore_n 2, 2, []) := by decide +kernel
theorem xe_224_1 (a0 a1 a2 a3 : Option MV) (x : Int) (st : List MV) (μ : MM) (G : MG) (h : mm_nL a1 = true) : ev 224 1 [a0, a1, a2, a3] (vI x :: st) μ G = ev 224 2 [a0, a1, some (vI x), a3] st μ G := ev_st pg_224_1 rfl (mm_nl_of h) (Nat.le_of_ble_eq_true rfl)
theorem pg_224_2 : mm_prog 224 2 = some (0, .iconst 0, 3, []) := by decide +kernel
theorem xe_224_2 (a0 a1 a2 a3 : Option MV) (st : List MV) (μ : MM) (G : MG) : ev 224 2 [a0, a1, a2, a3] st μ G = ev 224 3 [a0, a1, a2, a3] (vI (0) :: st) μ G := ev_stp pg_224_2 rfl
theorem pg_224_3 : mm_prog 224 3 = some (0, .istore_n 3, 4, []) := by decide +kernel
theorem xe_224_3 (a0 a1 a2 a3 : Option MV) (x : Int) (st : List MV) (μ : MM) (G : MG) (h : mm_nL a2 = true) : ev 224 3 [a0, a1, a2, a3] (vI x :: st) μ G = ev 224 4 [a0, a1, a2, some (vI x)] st μ G := ev_st pg_224_3 rfl (mm_nl_of h) (Nat.le_of_ble_eq_true rfl)
theorem pg_224_4 : mm_prog 224 4 = some (0, .iload_n 3, 5, []) := by decide +kernel
theorem xe_224_4 (a0 a1 a2 : Option MV) (x : Int) (st : List MV) (μ : MM) (G : MG) : ev 224 4 [a0, a1, a2, some (vI x)] st μ G = ev 224 5 [a0, a1, a2, some (vI x)] (vI x :: st) μ G := ev_stp pg_224_4 rfl
theorem pg_224_5 : mm_prog 224 5 = some (0, .iconst 4, 6, []) := by decide +kernel
theorem xe_224_5 (a0 a1 a2 a3 : Option MV) (st : List MV) (μ : MM) (G : MG) : ev 224 5 [a0, a1, a2, a3] st μ G = ev 224 6 [a0, a1, a2, a3] (vI (4) :: st) μ G := ev_stp pg_224_5 rfl
theorem pg_224_6 : mm_prog 224 6 = some (0, .if_icmp .ge 23, 9, []) := by decide +kernel
theorem xe_224_6 (a0 a1 a2 a3 : Option MV) (x y : Int) (st : List MV) (μ : MM) (G : MG) : ev 224 6 [a0, a1, a2, a3] (vI y :: vI x :: st) μ G = if y ≤ x then ev 224 29 [a0, a1, a2, a3] st μ G else ev 224 9 [a0, a1, a2, a3] st μ G := ev_br (mm_cnd_ge x y) pg_224_6 rfl
theorem pg_224_9 : mm_prog 224 9 = some (0, .bipush 10, 11, []) := by decide +kernel
theorem xe_224_9 (a0 a1 a2 a3 : Option MV) (st : List MV) (μ : MM) (G : MG) : ev 224 9 [a0, a1, a2, a3] st μ G = ev 224 11 [a0, a1, a2, a3] (vI (10) :: st) μ G := ev_stp pg_224_9 rfl
theorem pg_224_11 : mm_prog 224 11 = some (0, .iload_n 2, 12, []) := by decide +kernel
theorem xe_224_11 (a0 a1 a3 : Option MV) (x : Int) (st : List MV) (μ : MM) (G : MG) : ev 224 11 [a0, a1, some (vI x), a3] st μ G = ev 224 12 [a0, a1, some (vI x), a3] (vI x :: st) μ G := ev_stp pg_224_11 rfl
theorem pg_224_12 : mm_prog 224 12 = some (0, .imul, 13, []) := by decide +kernel
theorem xe_224_12 (a0 a1 a2 a3 : Option MV) (x y : Int) (st : List MV) (μ : MM) (G : MG) : ev 224 12 [a0, a1, a2, a3] (vI y :: vI x :: st) μ G = ev 224 13 [a0, a1, a2, a3] (vI (w32 (x * y)) :: st) μ G := ev_stp pg_224_12 rfl
theorem pg_224_13 : mm_prog 224 13 = some (0, .aload_n 0, 14, []) := by decide +kernel
theorem xe_224_13 (a1 a2 a3 : Option MV) (x : Int) (st : List MV) (μ : MM) (G : MG) : ev 224 13 [some (vR x), a1, a2, a3] st μ G = ev 224 14 [some (vR x), a1, a2, a3] (vR x :: st) μ G := ev_stp pg_224_13 rfl
theorem pg_224_14 : mm_prog 224 14 = some (0, .getfield 75, 17, [11, 35, 2]) := by decide +kernel
theorem xe_224_14 (a0 a1 a2 a3 : Option MV) (x : Int) (st : List MV) (μ : MM) (G : MG) : ev 224 14 [a0, a1, a2, a3] (vR x :: st) μ G = if gk G x = 11 then ev 224 17 [a0, a1, a2, a3] (vR (μ x 35) :: st) μ G else none := ev_if pg_224_14 rfl
theorem pg_224_17 : mm_prog 224 17 = some (0, .iload_n 1, 18, []) := by decide +kernel
theorem xe_224_17 (a0 a2 a3 : Option MV) (x : Int) (st : List MV) (μ : MM) (G : MG) : ev 224 17 [a0, some (vI x), a2, a3] st μ G = ev 224 18 [a0, some (vI x), a2, a3] (vI x :: st) μ G := ev_stp pg_224_17 rfl
theorem pg_224_18 : mm_prog 224 18 = some (0, .iload_n 3, 19, []) := by decide +kernel
theorem xe_224_18 (a0 a1 a2 : Option MV) (x : Int) (st : List MV) (μ : MM) (G : MG) : ev 224 18 [a0, a1, a2, some (vI x)] st μ G = ev 224 19 [a0, a1, a2, some (vI x)] (vI x :: st) μ G := ev_stp pg_224_18 rfl
theorem pg_224_19 : mm_prog 224 19 = some (0, .iadd, 20, []) := by decide +kernel
theorem xe_224_19 (a0 a1 a2 a3 : Option MV) (x y : Int) (st : List MV) (μ : MM) (G : MG) : ev 224 19 [a0, a1, a2, a3] (vI y :: vI x :: st) μ G = ev 224 20 [a0, a1, a2, a3] (vI (w32 (x + y)) :: st) μ G := ev_stp pg_224_19 rfl
theorem pg_224_20 : mm_prog 224 20 = some (0, .iaload, 21, []) := by decide +kernel
theorem xe_224_20 (a0 a1 a2 a3 : Option MV) (x y : Int) (st : List MV) (μ : MM) (G : MG) : ev 224 20 [a0, a1, a2, a3] (vI x :: vR y :: st) μ G = if gk G y = 100 ∧ 0 ≤ x ∧ x < gl G y then ev 224 21 [a0, a1, a2, a3] (vI (μ y x) :: st) μ G else none := ev_if pg_224_20 rfl
theorem pg_224_21 : mm_prog 224 21 = some (0, .iadd, 22, []) := by decide +kernel
theorem xe_224_21 (a0 a1 a2 a3 : Option MV) (x y : Int) (st : List MV) (μ : MM) (G : MG) : ev 224 21 [a0, a1, a2, a3] (vI y :: vI x :: st) μ G = ev 224 22 [a0, a1, a2, a3] (vI (w32 (x + y)) :: st) μ G := ev_stp pg_224_21 rfl
theorem pg_224_22 : mm_prog 224 22 = some (0, .istore_n 2, 23, []) := by decide +kernel
theorem xe_224_22 (a0 a1 a2 a3 : Option MV) (x : Int) (st : List MV) (μ : MM) (G : MG) (h : mm_nL a1 = true) : ev 224 22 [a0, a1, a2, a3] (vI x :: st) μ G = ev 224 23 [a0, a1, some (vI x), a3] st μ G := ev_st pg_224_22 rfl (mm_nl_of h) (Nat.le_of_ble_eq_true rfl)
theorem pg_224_23 : mm_prog 224 23 = some (0, .iinc 3 1, 26, []) := by decide +kernel
theorem xe_224_23 (a0 a1 a2 : Option MV) (x : Int) (st : List MV) (μ : MM) (G : MG) (h : mm_nL a2 = true) : ev 224 23 [a0, a1, a2, some (vI x)] st μ G = ev 224 26 [a0, a1, a2, some (vI (w32 (x + (1))))] st μ G := ev_st pg_224_23 rfl (mm_nl_of h) (Nat.le_of_ble_eq_true rfl)
theorem pg_224_26 : mm_prog 224 26 = some (0, .goto (-22), 29, []) := by decide +kernel
theorem xe_224_26 (a0 a1 a2 a3 : Option MV) (st : List MV) (μ : MM) (G : MG) : ev 224 26 [a0, a1, a2, a3] st μ G = ev 224 4 [a0, a1, a2, a3] st μ G := ev_stp pg_224_26 rfl
theorem pg_224_29 : mm_prog 224 29 = some (0, .iload_n 2, 30, []) := by decide +kernel
theorem xe_224_29 (a0 a1 a3 : Option MV) (x : Int) (st : List MV) (μ : MM) (G : MG) : ev 224 29 [a0, a1, some (vI x), a3] st μ G = ev 224 30 [a0, a1, some (vI x), a3] (vI x :: st) μ G := ev_stp pg_224_29 rfl
theorem pg_224_30 : mm_prog 224 30 = some (2, .ireturn, 31, [0]) := by decide +kernel
theorem xe_224_30 (a0 a1 a2 a3 : Option MV) (x : Int) (μ : MM) (G : MG) : ev 224 30 [a0, a1, a2, a3] [vI x] μ G = some (some (vI x), μ, G) := ev_ret pg_224_30 rfl
-- X11_triesOnce
theorem pg_225_0 : mm_prog 225 0 = some (0, .bipush 7, 2, []) := by decide +kernel
theorem xe_225_0 (a0 a1 : Option MV) (st : List MV) (μ : MM) (G : MG) : ev 225 0 [a0, a1] st μ G = ev 225 2 [a0, a1] (vI (7) :: st) μ G := ev_stp pg_225_0 rfl
theorem pg_225_2 : mm_prog 225 2 = some (0, .aload_n 0, 3, []) := by decide +kernel
theorem xe_225_2 (a1 : Option MV) (x : Int) (st : List MV) (μ : MM) (G : MG) : ev 225 2 [some (vR x), a1] st μ G = ev 225 3 [some (vR x), a1] (vR x :: st) μ G := ev_stp pg_225_2 rfl
theorem pg_225_3 : mm_prog 225 3 = some (0, .getfield 75, 6, [11, 35, 2]) := by decide +kernel
theorem xe_225_3 (a0 a1 : Option MV) (x : Int) (st : List MV) (μ : MM) (G : MG) : ev 225 3 [a0, a1] (vR x :: st) μ G = if gk G x = 11 then ev 225 6 [a0, a1] (vR (μ x 35) :: st) μ G else none := ev_if pg_225_3 rfl
theorem pg_225_6 : mm_prog 225 6 = some (0, .bipush 6, 8, []) := by decide +kernel
theorem xe_225_6 (a0 a1 : Option MV) (st : List MV) (μ : MM) (G : MG) : ev 225 6 [a0, a1] st μ G = ev 225 8 [a0, a1] (vI (6) :: st) μ G := ev_stp pg_225_6 rfl
theorem pg_225_8 : mm_prog 225 8 = some (0, .iaload, 9, []) := by decide +kernel
theorem xe_225_8 (a0 a1 : Option MV) (x y : Int) (st : List MV) (μ : MM) (G : MG) : ev 225 8 [a0, a1] (vI x :: vR y :: st) μ G = if gk G y = 100 ∧ 0 ≤ x ∧ x < gl G y then ev 225 9 [a0, a1] (vI (μ y x) :: st) μ G else none := ev_if pg_225_8 rfl
theorem pg_225_9 : mm_prog 225 9 = some (0, .imul, 10, []) := by decide +kernel
theorem xe_225_9 (a0 a1 : Option MV) (x y : Int) (st : List MV) (μ : MM) (G : MG) : ev 225 9 [a0, a1] (vI y :: vI x :: st) μ G = ev 225 10 [a0, a1] (vI (w32 (x * y)) :: st) μ G := ev_stp pg_225_9 rfl
theorem pg_225_10 : mm_prog 225 10 = some (0, .istore_n 1, 11, []) := by decide +kernel
theorem xe_225_10 (a0 a1 : Option MV) (x : Int) (st : List MV) (μ : MM) (G : MG) (h : mm_nL a0 = true) : ev 225 10 [a0, a1] (vI x :: st) μ G = ev 225 11 [a0, some (vI x)] st μ G := ev_st pg_225_10 rfl (mm_nl_of h) (Nat.le_of_ble_eq_true rfl)
theorem pg_225_11 : mm_prog 225 11 = some (0, .aload_n 0, 12, []) := by decide +kernel
theorem xe_225_11 (a1 : Option MV) (x : Int) (st : List MV) (μ : MM) (G : MG) : ev 225 11 [some (vR x), a1] st μ G = ev 225 12 [some (vR x), a1] (vR x :: st) μ G := ev_stp pg_225_11 rfl
theorem pg_225_12 : mm_prog 225 12 = some (0, .getfield 371, 15, [11, 42, 1]) := by decide +kernel
theorem xe_225_12 (a0 a1 : Option MV) (x : Int) (st : List MV) (μ : MM) (G : MG) : ev 225 12 [a0, a1] (vR x :: st) μ G = if gk G x = 11 then ev 225 15 [a0, a1] (vI (μ x 42) :: st) μ G else none := ev_if pg_225_12 rfl
theorem pg_225_15 : mm_prog 225 15 = some (0, .ifCond .ne 71, 18, []) := by decide +kernel
theorem xe_225_15 (a0 a1 : Option MV) (x : Int) (st : List MV) (μ : MM) (G : MG) : ev 225 15 [a0, a1] (vI x :: st) μ G = if ¬ x = 0 then ev 225 86 [a0, a1] st μ G else ev 225 18 [a0, a1] st μ G := ev_br (mm_cnd_ne x 0) pg_225_15 rfl
theorem pg_225_18 : mm_prog 225 18 = some (0, .aload_n 0, 19, []) := by decide +kernel
theorem xe_225_18 (a1 : Option MV) (x : Int) (st : List MV) (μ : MM) (G : MG) : ev 225 18 [some (vR x), a1] st μ G = ev 225 19 [some (vR x), a1] (vR x :: st) μ G := ev_stp pg_225_18 rfl
theorem pg_225_19 : mm_prog 225 19 = some (0, .getfield 93, 22, [11, 41, 2]) := by decide +kernel
theorem xe_225_19 (a0 a1 : Option MV) (x : Int) (st : List MV) (μ : MM) (G : MG) : ev 225 19 [a0, a1] (vR x :: st) μ G = if gk G x = 11 then ev 225 22 [a0, a1] (vR (μ x 41) :: st) μ G else none := ev_if pg_225_19 rfl
theorem pg_225_22 : mm_prog 225 22 = some (0, .iload_n 1, 23, []) := by decide +kernel
theorem xe_225_22 (a0 : Option MV) (x : Int) (st : List MV) (μ : MM) (G : MG) : ev 225 22 [a0, some (vI x)] st μ G = ev 225 23 [a0, some (vI x)] (vI x :: st) μ G := ev_stp pg_225_22 rfl
theorem pg_225_23 : mm_prog 225 23 = some (0, .aload_n 0, 24, []) := by decide +kernel
theorem xe_225_23 (a1 : Option MV) (x : Int) (st : List MV) (μ : MM) (G : MG) : ev 225 23 [some (vR x), a1] st μ G = ev 225 24 [some (vR x), a1] (vR x :: st) μ G := ev_stp pg_225_23 rfl
theorem pg_225_24 : mm_prog 225 24 = some (0, .getfield 75, 27, [11, 35, 2]) := by decide +kernel
theorem xe_225_24 (a0 a1 : Option MV) (x : Int) (st : List MV) (μ : MM) (G : MG) : ev 225 24 [a0, a1] (vR x :: st) μ G = if gk G x = 11 then ev 225 27 [a0, a1] (vR (μ x 35) :: st) μ G else none := ev_if pg_225_24 rfl
theorem pg_225_27 : mm_prog 225 27 = some (0, .iconst 0, 28, []) := by decide +kernel
theorem xe_225_27 (a0 a1 : Option MV) (st : List MV) (μ : MM) (G : MG) : ev 225 27 [a0, a1] st μ G = ev 225 28 [a0, a1] (vI (0) :: st) μ G := ev_stp pg_225_27 rfl
theorem pg_225_28 : mm_prog 225 28 = some (0, .iaload, 29, []) := by decide +kernel
theorem xe_225_28 (a0 a1 : Option MV) (x y : Int) (st : List MV) (μ : MM) (G : MG) : ev 225 28 [a0, a1] (vI x :: vR y :: st) μ G = if gk G y = 100 ∧ 0 ≤ x ∧ x < gl G y then ev 225 29 [a0, a1] (vI (μ y x) :: st) μ G else none := ev_if pg_225_28 rfl
theorem pg_225_29 : mm_prog 225 29 = some (0, .iastore, 30, []) := by decide +kernel
theorem xe_225_29 (a0 a1 : Option MV) (x y z : Int) (st : List MV) (μ : MM) (G : MG) : ev 225 29 [a0, a1] (vI x :: vI y :: vR z :: st) μ G = if gk G z = 100 ∧ 0 ≤ y ∧ y < gl G z ∧ 10 ≤ z then ev 225 30 [a0, a1] st (mset μ z y x) G else none := ev_if pg_225_29 rfl
theorem pg_225_30 : mm_prog 225 30 = some (0, .aload_n 0, 31, []) := by decide +kernel
theorem xe_225_30 (a1 : Option MV) (x : Int) (st : List MV) (μ : MM) (G : MG) : ev 225 30 [some (vR x), a1] st μ G = ev 225 31 [some (vR x), a1] (vR x :: st) μ G := ev_stp pg_225_30 rfl
theorem pg_225_31 : mm_prog 225 31 = some (0, .getfield 93, 34, [11, 41, 2]) := by decide +kernel
theorem xe_225_31 (a0 a1 : Option MV) (x : Int) (st : List MV) (μ : MM) (G : MG) : ev 225 31 [a0, a1] (vR x :: st) μ G = if gk G x = 11 then ev 225 34 [a0, a1] (vR (μ x 41) :: st) μ G else none := ev_if pg_225_31 rfl
theorem pg_225_34 : mm_prog 225 34 = some (0, .iload_n 1, 35, []) := by decide +kernel
theorem xe_225_34 (a0 : Option MV) (x : Int) (st : List MV) (μ : MM) (G : MG) : ev 225 34 [a0, some (vI x)] st μ G = ev 225 35 [a0, some (vI x)] (vI x :: st) μ G := ev_stp pg_225_34 rfl
theorem pg_225_35 : mm_prog 225 35 = some (0, .iconst 1, 36, []) := by decide +kernel
theorem xe_225_35 (a0 a1 : Option MV) (st : List MV) (μ : MM) (G : MG) : ev 225 35 [a0, a1] st μ G = ev 225 36 [a0, a1] (vI (1) :: st) μ G := ev_stp pg_225_35 rfl
theorem pg_225_36 : mm_prog 225 36 = some (0, .iadd, 37, []) := by decide +kernel
theorem xe_225_36 (a0 a1 : Option MV) (x y : Int) (st : List MV) (μ : MM) (G : MG) : ev 225 36 [a0, a1] (vI y :: vI x :: st) μ G = ev 225 37 [a0, a1] (vI (w32 (x + y)) :: st) μ G := ev_stp pg_225_36 rfl
theorem pg_225_37 : mm_prog 225 37 = some (0, .aload_n 0, 38, []) := by decide +kernel
theorem xe_225_37 (a1 : Option MV) (x : Int) (st : List MV) (μ : MM) (G : MG) : ev 225 37 [some (vR x), a1] st μ G = ev 225 38 [some (vR x), a1] (vR x :: st) μ G := ev_stp pg_225_37 rfl
theorem pg_225_38 : mm_prog 225 38 = some (0, .getfield 75, 41, [11, 35, 2]) := by decide +kernel
theorem xe_225_38 (a0 a1 : Option MV) (x : Int) (st : List MV) (μ : MM) (G : MG) : ev 225 38 [a0, a1] (vR x :: st) μ G = if gk G x = 11 then ev 225 41 [a0, a1] (vR (μ x 35) :: st) μ G else none := ev_if pg_225_38 rfl
theorem pg_225_41 : mm_prog 225 41 = some (0, .iconst 1, 42, []) := by decide +kernel
theorem xe_225_41 (a0 a1 : Option MV) (st : List MV) (μ : MM) (G : MG) : ev 225 41 [a0, a1] st μ G = ev 225 42 [a0, a1] (vI (1) :: st) μ G := ev_stp pg_225_41 rfl
theorem pg_225_42 : mm_prog 225 42 = some (0, .iaload, 43, []) := by decide +kernel
theorem xe_225_42 (a0 a1 : Option MV) (x y : Int) (st : List MV) (μ : MM) (G : MG) : ev 225 42 [a0, a1] (vI x :: vR y :: st) μ G = if gk G y = 100 ∧ 0 ≤ x ∧ x < gl G y then ev 225 43 [a0, a1] (vI (μ y x) :: st) μ G else none := ev_if pg_225_42 rfl
theorem pg_225_43 : mm_prog 225 43 = some (0, .iastore, 44, []) := by decide +kernel
theorem xe_225_43 (a0 a1 : Option MV) (x y z : Int) (st : List MV) (μ : MM) (G : MG) : ev 225 43 [a0, a1] (vI x :: vI y :: vR z :: st) μ G = if gk G z = 100 ∧ 0 ≤ y ∧ y < gl G z ∧ 10 ≤ z then ev 225 44 [a0, a1] st (mset μ z y x) G else none := ev_if pg_225_43 rfl
theorem pg_225_44 : mm_prog 225 44 = some (0, .aload_n 0, 45, []) := by decide +kernel
theorem xe_225_44 (a1 : Option MV) (x : Int) (st : List MV) (μ : MM) (G : MG) : ev 225 44 [some (vR x), a1] st μ G = ev 225 45 [some (vR x), a1] (vR x :: st) μ G := ev_stp pg_225_44 rfl
theorem pg_225_45 : mm_prog 225 45 = some (0, .getfield 93, 48, [11, 41, 2]) := by decide +kernel
theorem xe_225_45 (a0 a1 : Option MV) (x : Int) (st : List MV) (μ : MM) (G : MG) : ev 225 45 [a0, a1] (vR x :: st) μ G = if gk G x = 11 then ev 225 48 [a0, a1] (vR (μ x 41) :: st) μ G else none := ev_if pg_225_45 rfl
theorem pg_225_48 : mm_prog 225 48 = some (0, .iload_n 1, 49, []) := by decide +kernel
theorem xe_225_48 (a0 : Option MV) (x : Int) (st : List MV) (μ : MM) (G : MG) : ev 225 48 [a0, some (vI x)] st μ G = ev 225 49 [a0, some (vI x)] (vI x :: st) μ G := ev_stp pg_225_48 rfl
theorem pg_225_49 : mm_prog 225 49 = some (0, .iconst 2, 50, []) := by decide +kernel
theorem xe_225_49 (a0 a1 : Option MV) (st : List MV) (μ : MM) (G : MG) : ev 225 49 [a0, a1] st μ G = ev 225 50 [a0, a1] (vI (2) :: st) μ G := ev_stp pg_225_49 rfl
theorem pg_225_50 : mm_prog 225 50 = some (0, .iadd, 51, []) := by decide +kernel
theorem xe_225_50 (a0 a1 : Option MV) (x y : Int) (st : List MV) (μ : MM) (G : MG) : ev 225 50 [a0, a1] (vI y :: vI x :: st) μ G = ev 225 51 [a0, a1] (vI (w32 (x + y)) :: st) μ G := ev_stp pg_225_50 rfl
theorem pg_225_51 : mm_prog 225 51 = some (0, .aload_n 0, 52, []) := by decide +kernel
theorem xe_225_51 (a1 : Option MV) (x : Int) (st : List MV) (μ : MM) (G : MG) : ev 225 51 [some (vR x), a1] st μ G = ev 225 52 [some (vR x), a1] (vR x :: st) μ G := ev_stp pg_225_51 rfl
theorem pg_225_52 : mm_prog 225 52 = some (0, .getfield 75, 55, [11, 35, 2]) := by decide +kernel
theorem xe_225_52 (a0 a1 : Option MV) (x : Int) (st : List MV) (μ : MM) (G : MG) : ev 225 52 [a0, a1] (vR x :: st) μ G = if gk G x = 11 then ev 225 55 [a0, a1] (vR (μ x 35) :: st) μ G else none := ev_if pg_225_52 rfl
theorem pg_225_55 : mm_prog 225 55 = some (0, .iconst 2, 56, []) := by decide +kernel
theorem xe_225_55 (a0 a1 : Option MV) (st : List MV) (μ : MM) (G : MG) : ev 225 55 [a0, a1] st μ G = ev 225 56 [a0, a1] (vI (2) :: st) μ G := ev_stp pg_225_55 rfl
theorem pg_225_56 : mm_prog 225 56 = some (0, .iaload, 57, []) := by decide +kernel
theorem xe_225_56 (a0 a1 : Option MV) (x y : Int) (st : List MV) (μ : MM) (G : MG) : ev 225 56 [a0, a1] (vI x :: vR y :: st) μ G = if gk G y = 100 ∧ 0 ≤ x ∧ x < gl G y then ev 225 57 [a0, a1] (vI (μ y x) :: st) μ G else none := ev_if pg_225_56 rfl
theorem pg_225_57 : mm_prog 225 57 = some (0, .iastore, 58, []) := by decide +kernel
theorem xe_225_57 (a0 a1 : Option MV) (x y z : Int) (st : List MV) (μ : MM) (G : MG) : ev 225 57 [a0, a1] (vI x :: vI y :: vR z :: st) μ G = if gk G z = 100 ∧ 0 ≤ y ∧ y < gl G z ∧ 10 ≤ z then ev 225 58 [a0, a1] st (mset μ z y x) G else none := ev_if pg_225_57 rfl
theorem pg_225_58 : mm_prog 225 58 = some (0, .aload_n 0, 59, []) := by decide +kernel
theorem xe_225_58 (a1 : Option MV) (x : Int) (st : List MV) (μ : MM) (G : MG) : ev 225 58 [some (vR x), a1] st μ G = ev 225 59 [some (vR x), a1] (vR x :: st) μ G := ev_stp pg_225_58 rfl
theorem pg_225_59 : mm_prog 225 59 = some (0, .getfield 93, 62, [11, 41, 2]) := by decide +kernel
theorem xe_225_59 (a0 a1 : Option MV) (x : Int) (st : List MV) (μ : MM) (G : MG) : ev 225 59 [a0, a1] (vR x :: st) μ G = if gk G x = 11 then ev 225 62 [a0, a1] (vR (μ x 41) :: st) μ G else none := ev_if pg_225_59 rfl
theorem pg_225_62 : mm_prog 225 62 = some (0, .iload_n 1, 63, []) := by decide +kernel
theorem xe_225_62 (a0 : Option MV) (x : Int) (st : List MV) (μ : MM) (G : MG) : ev 225 62 [a0, some (vI x)] st μ G = ev 225 63 [a0, some (vI x)] (vI x :: st) μ G := ev_stp pg_225_62 rfl
theorem pg_225_63 : mm_prog 225 63 = some (0, .iconst 3, 64, []) := by decide +kernel
theorem xe_225_63 (a0 a1 : Option MV) (st : List MV) (μ : MM) (G : MG) : ev 225 63 [a0, a1] st μ G = ev 225 64 [a0, a1] (vI (3) :: st) μ G := ev_stp pg_225_63 rfl
theorem pg_225_64 : mm_prog 225 64 = some (0, .iadd, 65, []) := by decide +kernel
theorem xe_225_64 (a0 a1 : Option MV) (x y : Int) (st : List MV) (μ : MM) (G : MG) : ev 225 64 [a0, a1] (vI y :: vI x :: st) μ G = ev 225 65 [a0, a1] (vI (w32 (x + y)) :: st) μ G := ev_stp pg_225_64 rfl
theorem pg_225_65 : mm_prog 225 65 = some (0, .aload_n 0, 66, []) := by decide +kernel
theorem xe_225_65 (a1 : Option MV) (x : Int) (st : List MV) (μ : MM) (G : MG) : ev 225 65 [some (vR x), a1] st μ G = ev 225 66 [some (vR x), a1] (vR x :: st) μ G := ev_stp pg_225_65 rfl
theorem pg_225_66 : mm_prog 225 66 = some (0, .bipush 8, 68, []) := by decide +kernel
theorem xe_225_66 (a0 a1 : Option MV) (st : List MV) (μ : MM) (G : MG) : ev 225 66 [a0, a1] st μ G = ev 225 68 [a0, a1] (vI (8) :: st) μ G := ev_stp pg_225_66 rfl
theorem pg_225_68 : mm_prog 225 68 = some (1, .invokevirtual 374, 71, [1, 224, 1, 11]) := by decide +kernel
theorem xe_225_68 (a0 a1 : Option MV) (x0 z r0 r1 : Int) (μ : MM) (G : MG) : ev 225 68 [a0, a1] (vI x0 :: vR z :: [vI r0, vR r1]) μ G = if gk G z = 11 ∧ 0 < z then (ev 224 0 [some (vR z), some (vI x0), none, none] [] μ G).bind (fun q => ev 225 71 [a0, a1] (q.1.toList ++ [vI r0, vR r1]) q.2.1 q.2.2) else none := ev_calV (as := [vR z, vI x0]) (r := [vI r0, vR r1]) mx_224 pg_225_68 rfl rfl (Nat.le_of_ble_eq_true rfl) (Nat.le_of_ble_eq_true rfl)
theorem pg_225_71 : mm_prog 225 71 = some (0, .iastore, 72, []) := by decide +kernel
theorem xe_225_71 (a0 a1 : Option MV) (x y z : Int) (st : List MV) (μ : MM) (G : MG) : ev 225 71 [a0, a1] (vI x :: vI y :: vR z :: st) μ G = if gk G z = 100 ∧ 0 ≤ y ∧ y < gl G z ∧ 10 ≤ z then ev 225 72 [a0, a1] st (mset μ z y x) G else none := ev_if pg_225_71 rfl
theorem pg_225_72 : mm_prog 225 72 = some (0, .aload_n 0, 73, []) := by decide +kernel
theorem xe_225_72 (a1 : Option MV) (x : Int) (st : List MV) (μ : MM) (G : MG) : ev 225 72 [some (vR x), a1] st μ G = ev 225 73 [some (vR x), a1] (vR x :: st) μ G := ev_stp pg_225_72 rfl
theorem pg_225_73 : mm_prog 225 73 = some (0, .getfield 93, 76, [11, 41, 2]) := by decide +kernel
theorem xe_225_73 (a0 a1 : Option MV) (x : Int) (st : List MV) (μ : MM) (G : MG) : ev 225 73 [a0, a1] (vR x :: st) μ G = if gk G x = 11 then ev 225 76 [a0, a1] (vR (μ x 41) :: st) μ G else none := ev_if pg_225_73 rfl
theorem pg_225_76 : mm_prog 225 76 = some (0, .iload_n 1, 77, []) := by decide +kernel
theorem xe_225_76 (a0 : Option MV) (x : Int) (st : List MV) (μ : MM) (G : MG) : ev 225 76 [a0, some (vI x)] st μ G = ev 225 77 [a0, some (vI x)] (vI x :: st) μ G := ev_stp pg_225_76 rfl
theorem pg_225_77 : mm_prog 225 77 = some (0, .iconst 4, 78, []) := by decide +kernel
theorem xe_225_77 (a0 a1 : Option MV) (st : List MV) (μ : MM) (G : MG) : ev 225 77 [a0, a1] st μ G = ev 225 78 [a0, a1] (vI (4) :: st) μ G := ev_stp pg_225_77 rfl
theorem pg_225_78 : mm_prog 225 78 = some (0, .iadd, 79, []) := by decide +kernel
theorem xe_225_78 (a0 a1 : Option MV) (x y : Int) (st : List MV) (μ : MM) (G : MG) : ev 225 78 [a0, a1] (vI y :: vI x :: st) μ G = ev 225 79 [a0, a1] (vI (w32 (x + y)) :: st) μ G := ev_stp pg_225_78 rfl
theorem pg_225_79 : mm_prog 225 79 = some (0, .aload_n 0, 80, []) := by decide +kernel
theorem xe_225_79 (a1 : Option MV) (x : Int) (st : List MV) (μ : MM) (G : MG) : ev 225 79 [some (vR x), a1] st μ G = ev 225 80 [some (vR x), a1] (vR x :: st) μ G := ev_stp pg_225_79 rfl
theorem pg_225_80 : mm_prog 225 80 = some (0, .bipush 12, 82, []) := by decide +kernel
theorem xe_225_80 (a0 a1 : Option MV) (st : List MV) (μ : MM) (G : MG) : ev 225 80 [a0, a1] st μ G = ev 225 82 [a0, a1] (vI (12) :: st) μ G := ev_stp pg_225_80 rfl
theorem pg_225_82 : mm_prog 225 82 = some (1, .invokevirtual 374, 85, [1, 224, 1, 11]) := by decide +kernel
theorem xe_225_82 (a0 a1 : Option MV) (x0 z r0 r1 : Int) (μ : MM) (G : MG) : ev 225 82 [a0, a1] (vI x0 :: vR z :: [vI r0, vR r1]) μ G = if gk G z = 11 ∧ 0 < z then (ev 224 0 [some (vR z), some (vI x0), none, none] [] μ G).bind (fun q => ev 225 85 [a0, a1] (q.1.toList ++ [vI r0, vR r1]) q.2.1 q.2.2) else none := ev_calV (as := [vR z, vI x0]) (r := [vI r0, vR r1]) mx_224 pg_225_82 rfl rfl (Nat.le_of_ble_eq_true rfl) (Nat.le_of_ble_eq_true rfl)
theorem pg_225_85 : mm_prog 225 85 = some (0, .iastore, 86, []) := by decide +kernel
theorem xe_225_85 (a0 a1 : Option MV) (x y z : Int) (st : List MV) (μ : MM) (G : MG) : ev 225 85 [a0, a1] (vI x :: vI y :: vR z :: st) μ G = if gk G z = 100 ∧ 0 ≤ y ∧ y < gl G z ∧ 10 ≤ z then ev 225 86 [a0, a1] st (mset μ z y x) G else none := ev_if pg_225_85 rfl
theorem pg_225_86 : mm_prog 225 86 = some (0, .aload_n 0, 87, []) := by decide +kernel
theorem xe_225_86 (a1 : Option MV) (x : Int) (st : List MV) (μ : MM) (G : MG) : ev 225 86 [some (vR x), a1] st μ G = ev 225 87 [some (vR x), a1] (vR x :: st) μ G := ev_stp pg_225_86 rfl
theorem pg_225_87 : mm_prog 225 87 = some (0, .getfield 75, 90, [11, 35, 2]) := by decide +kernel
theorem xe_225_87 (a0 a1 : Option MV) (x : Int) (st : List MV) (μ : MM) (G : MG) : ev 225 87 [a0, a1] (vR x :: st) μ G = if gk G x = 11 then ev 225 90 [a0, a1] (vR (μ x 35) :: st) μ G else none := ev_if pg_225_87 rfl
theorem pg_225_90 : mm_prog 225 90 = some (0, .bipush 6, 92, []) := by decide +kernel
theorem xe_225_90 (a0 a1 : Option MV) (st : List MV) (μ : MM) (G : MG) : ev 225 90 [a0, a1] st μ G = ev 225 92 [a0, a1] (vI (6) :: st) μ G := ev_stp pg_225_90 rfl
theorem pg_225_92 : mm_prog 225 92 = some (0, .dup2, 93, []) := by decide +kernel
theorem xe_225_92 (a0 a1 : Option MV) (x y : Int) (st : List MV) (μ : MM) (G : MG) : ev 225 92 [a0, a1] (vI x :: vR y :: st) μ G = ev 225 93 [a0, a1] (vI x :: vR y :: vI x :: vR y :: st) μ G := ev_stp pg_225_92 rfl
theorem pg_225_93 : mm_prog 225 93 = some (0, .iaload, 94, []) := by decide +kernel
theorem xe_225_93 (a0 a1 : Option MV) (x y : Int) (st : List MV) (μ : MM) (G : MG) : ev 225 93 [a0, a1] (vI x :: vR y :: st) μ G = if gk G y = 100 ∧ 0 ≤ x ∧ x < gl G y then ev 225 94 [a0, a1] (vI (μ y x) :: st) μ G else none := ev_if pg_225_93 rfl
theorem pg_225_94 : mm_prog 225 94 = some (0, .iconst 1, 95, []) := by decide +kernel
theorem xe_225_94 (a0 a1 : Option MV) (st : List MV) (μ : MM) (G : MG) : ev 225 94 [a0, a1] st μ G = ev 225 95 [a0, a1] (vI (1) :: st) μ G := ev_stp pg_225_94 rfl
theorem pg_225_95 : mm_prog 225 95 = some (0, .iadd, 96, []) := by decide +kernel
theorem xe_225_95 (a0 a1 : Option MV) (x y : Int) (st : List MV) (μ : MM) (G : MG) : ev 225 95 [a0, a1] (vI y :: vI x :: st) μ G = ev 225 96 [a0, a1] (vI (w32 (x + y)) :: st) μ G := ev_stp pg_225_95 rfl
theorem pg_225_96 : mm_prog 225 96 = some (0, .iastore, 97, []) := by decide +kernel
theorem xe_225_96 (a0 a1 : Option MV) (x y z : Int) (st : List MV) (μ : MM) (G : MG) : ev 225 96 [a0, a1] (vI x :: vI y :: vR z :: st) μ G = if gk G z = 100 ∧ 0 ≤ y ∧ y < gl G z ∧ 10 ≤ z then ev 225 97 [a0, a1] st (mset μ z y x) G else none := ev_if pg_225_96 rfl
theorem pg_225_97 : mm_prog 225 97 = some (0, .aload_n 0, 98, []) := by decide +kernel
theorem xe_225_97 (a1 : Option MV) (x : Int) (st : List MV) (μ : MM) (G : MG) : ev 225 97 [some (vR x), a1] st μ G = ev 225 98 [some (vR x), a1] (vR x :: st) μ G := ev_stp pg_225_97 rfl
theorem pg_225_98 : mm_prog 225 98 = some (0, .iconst 0, 99, []) := by decide +kernel
theorem xe_225_98 (a0 a1 : Option MV) (st : List MV) (μ : MM) (G : MG) : ev 225 98 [a0, a1] st μ G = ev 225 99 [a0, a1] (vI (0) :: st) μ G := ev_stp pg_225_98 rfl
theorem pg_225_99 : mm_prog 225 99 = some (0, .putfield 362, 102, [11, 43, 0]) := by decide +kernel
theorem xe_225_99 (a0 a1 : Option MV) (x y : Int) (st : List MV) (μ : MM) (G : MG) : ev 225 99 [a0, a1] (vI x :: vR y :: st) μ G = if gk G y = 11 then ev 225 102 [a0, a1] st (mset μ y 43 x) G else none := ev_put0 pg_225_99
theorem pg_225_102 : mm_prog 225 102 = some (0, .aload_n 0, 103, []) := by decide +kernel
theorem xe_225_102 (a1 : Option MV) (x : Int) (st : List MV) (μ : MM) (G : MG) : ev 225 102 [some (vR x), a1] st μ G = ev 225 103 [some (vR x), a1] (vR x :: st) μ G := ev_stp pg_225_102 rfl
theorem pg_225_103 : mm_prog 225 103 = some (0, .iconst 0, 104, []) := by decide +kernel
theorem xe_225_103 (a0 a1 : Option MV) (st : List MV) (μ : MM) (G : MG) : ev 225 103 [a0, a1] st μ G = ev 225 104 [a0, a1] (vI (0) :: st) μ G := ev_stp pg_225_103 rfl
theorem pg_225_104 : mm_prog 225 104 = some (0, .putfield 356, 107, [11, 44, 0]) := by decide +kernel
theorem xe_225_104 (a0 a1 : Option MV) (x y : Int) (st : List MV) (μ : MM) (G : MG) : ev 225 104 [a0, a1] (vI x :: vR y :: st) μ G = if gk G y = 11 then ev 225 107 [a0, a1] st (mset μ y 44 x) G else none := ev_put0 pg_225_104
theorem pg_225_107 : mm_prog 225 107 = some (0, .aload_n 0, 108, []) := by decide +kernel
theorem xe_225_107 (a1 : Option MV) (x : Int) (st : List MV) (μ : MM) (G : MG) : ev 225 107 [some (vR x), a1] st μ G = ev 225 108 [some (vR x), a1] (vR x :: st) μ G := ev_stp pg_225_107 rfl
theorem pg_225_108 : mm_prog 225 108 = some (0, .getfield 75, 111, [11, 35, 2]) := by decide +kernel
theorem xe_225_108 (a0 a1 : Option MV) (x : Int) (st : List MV) (μ : MM) (G : MG) : ev 225 108 [a0, a1] (vR x :: st) μ G = if gk G x = 11 then ev 225 111 [a0, a1] (vR (μ x 35) :: st) μ G else none := ev_if pg_225_108 rfl
theorem pg_225_111 : mm_prog 225 111 = some (0, .iconst 0, 112, []) := by decide +kernel
theorem xe_225_111 (a0 a1 : Option MV) (st : List MV) (μ : MM) (G : MG) : ev 225 111 [a0, a1] st μ G = ev 225 112 [a0, a1] (vI (0) :: st) μ G := ev_stp pg_225_111 rfl
theorem pg_225_112 : mm_prog 225 112 = some (0, .iaload, 113, []) := by decide +kernel
theorem xe_225_112 (a0 a1 : Option MV) (x y : Int) (st : List MV) (μ : MM) (G : MG) : ev 225 112 [a0, a1] (vI x :: vR y :: st) μ G = if gk G y = 100 ∧ 0 ≤ x ∧ x < gl G y then ev 225 113 [a0, a1] (vI (μ y x) :: st) μ G else none := ev_if pg_225_112 rfl
theorem pg_225_113 : mm_prog 225 113 = some (0, .iconst 1, 114, []) := by decide +kernel
theorem xe_225_113 (a0 a1 : Option MV) (st : List MV) (μ : MM) (G : MG) : ev 225 113 [a0, a1] st μ G = ev 225 114 [a0, a1] (vI (1) :: st) μ G := ev_stp pg_225_113 rfl
theorem pg_225_114 : mm_prog 225 114 = some (0, .if_icmp .ne 10, 117, []) := by decide +kernel
theorem xe_225_114 (a0 a1 : Option MV) (x y : Int) (st : List MV) (μ : MM) (G : MG) : ev 225 114 [a0, a1] (vI y :: vI x :: st) μ G = if ¬ x = y then ev 225 124 [a0, a1] st μ G else ev 225 117 [a0, a1] st μ G := ev_br (mm_cnd_ne x y) pg_225_114 rfl
theorem pg_225_117 : mm_prog 225 117 = some (0, .aload_n 0, 118, []) := by decide +kernel
theorem xe_225_117 (a1 : Option MV) (x : Int) (st : List MV) (μ : MM) (G : MG) : ev 225 117 [some (vR x), a1] st μ G = ev 225 118 [some (vR x), a1] (vR x :: st) μ G := ev_stp pg_225_117 rfl
theorem pg_225_118 : mm_prog 225 118 = some (1, .invokevirtual 377, 121, [1, 221, 0, 11]) := by decide +kernel
theorem xe_225_118 (a0 a1 : Option MV) (z : Int) (μ : MM) (G : MG) : ev 225 118 [a0, a1] (vR z :: []) μ G = if gk G z = 11 ∧ 0 < z then (ev 221 0 [some (vR z), none, none, none, none] [] μ G).bind (fun q => ev 225 121 [a0, a1] (q.1.toList ++ []) q.2.1 q.2.2) else none := ev_calV (as := [vR z]) (r := []) mx_221 pg_225_118 rfl rfl (Nat.le_of_ble_eq_true rfl) (Nat.le_of_ble_eq_true rfl)
theorem pg_225_121 : mm_prog 225 121 = some (0, .goto 7, 124, []) := by decide +kernel
theorem xe_225_121 (a0 a1 : Option MV) (st : List MV) (μ : MM) (G : MG) : ev 225 121 [a0, a1] st μ G = ev 225 128 [a0, a1] st μ G := ev_stp pg_225_121 rfl
theorem pg_225_124 : mm_prog 225 124 = some (0, .aload_n 0, 125, []) := by decide +kernel
theorem xe_225_124 (a1 : Option MV) (x : Int) (st : List MV) (μ : MM) (G : MG) : ev 225 124 [some (vR x), a1] st μ G = ev 225 125 [some (vR x), a1] (vR x :: st) μ G := ev_stp pg_225_124 rfl
theorem pg_225_125 : mm_prog 225 125 = some (1, .invokevirtual 380, 128, [1, 222, 0, 11]) := by decide +kernel
theorem xe_225_125 (a0 a1 : Option MV) (z : Int) (μ : MM) (G : MG) : ev 225 125 [a0, a1] (vR z :: []) μ G = if gk G z = 11 ∧ 0 < z then (ev 222 0 [some (vR z), none, none, none, none, none] [] μ G).bind (fun q => ev 225 128 [a0, a1] (q.1.toList ++ []) q.2.1 q.2.2) else none := ev_calV (as := [vR z]) (r := []) mx_222 pg_225_125 rfl rfl (Nat.le_of_ble_eq_true rfl) (Nat.le_of_ble_eq_true rfl)
theorem pg_225_128 : mm_prog 225 128 = some (0, .aload_n 0, 129, []) := by decide +kernel
theorem xe_225_128 (a1 : Option MV) (x : Int) (st : List MV) (μ : MM) (G : MG) : ev 225 128 [some (vR x), a1] st μ G = ev 225 129 [some (vR x), a1] (vR x :: st) μ G := ev_stp pg_225_128 rfl
theorem pg_225_129 : mm_prog 225 129 = some (0, .getfield 371, 132, [11, 42, 1]) := by decide +kernel
theorem xe_225_129 (a0 a1 : Option MV) (x : Int) (st : List MV) (μ : MM) (G : MG) : ev 225 129 [a0, a1] (vR x :: st) μ G = if gk G x = 11 then ev 225 132 [a0, a1] (vI (μ x 42) :: st) μ G else none := ev_if pg_225_129 rfl
theorem pg_225_132 : mm_prog 225 132 = some (0, .ifCond .eq 4, 135, []) := by decide +kernel
theorem xe_225_132 (a0 a1 : Option MV) (x : Int) (st : List MV) (μ : MM) (G : MG) : ev 225 132 [a0, a1] (vI x :: st) μ G = if x = 0 then ev 225 136 [a0, a1] st μ G else ev 225 135 [a0, a1] st μ G := ev_br (mm_cnd_eq x 0) pg_225_132 rfl
theorem pg_225_135 : mm_prog 225 135 = some (2, .return_, 136, []) := by decide +kernel
theorem xe_225_135 (a0 a1 : Option MV) (μ : MM) (G : MG) : ev 225 135 [a0, a1] [] μ G = some (none, μ, G) := ev_ret pg_225_135 rfl
theorem pg_225_136 : mm_prog 225 136 = some (0, .aload_n 0, 137, []) := by decide +kernel
theorem xe_225_136 (a1 : Option MV) (x : Int) (st : List MV) (μ : MM) (G : MG) : ev 225 136 [some (vR x), a1] st μ G = ev 225 137 [some (vR x), a1] (vR x :: st) μ G := ev_stp pg_225_136 rfl
theorem pg_225_137 : mm_prog 225 137 = some (0, .getfield 93, 140, [11, 41, 2]) := by decide +kernel
theorem xe_225_137 (a0 a1 : Option MV) (x : Int) (st : List MV) (μ : MM) (G : MG) : ev 225 137 [a0, a1] (vR x :: st) μ G = if gk G x = 11 then ev 225 140 [a0, a1] (vR (μ x 41) :: st) μ G else none := ev_if pg_225_137 rfl
theorem pg_225_140 : mm_prog 225 140 = some (0, .iload_n 1, 141, []) := by decide +kernel
theorem xe_225_140 (a0 : Option MV) (x : Int) (st : List MV) (μ : MM) (G : MG) : ev 225 140 [a0, some (vI x)] st μ G = ev 225 141 [a0, some (vI x)] (vI x :: st) μ G := ev_stp pg_225_140 rfl
theorem pg_225_141 : mm_prog 225 141 = some (0, .iconst 5, 142, []) := by decide +kernel
theorem xe_225_141 (a0 a1 : Option MV) (st : List MV) (μ : MM) (G : MG) : ev 225 141 [a0, a1] st μ G = ev 225 142 [a0, a1] (vI (5) :: st) μ G := ev_stp pg_225_141 rfl
theorem pg_225_142 : mm_prog 225 142 = some (0, .iadd, 143, []) := by decide +kernel
theorem xe_225_142 (a0 a1 : Option MV) (x y : Int) (st : List MV) (μ : MM) (G : MG) : ev 225 142 [a0, a1] (vI y :: vI x :: st) μ G = ev 225 143 [a0, a1] (vI (w32 (x + y)) :: st) μ G := ev_stp pg_225_142 rfl
theorem pg_225_143 : mm_prog 225 143 = some (0, .aload_n 0, 144, []) := by decide +kernel
theorem xe_225_143 (a1 : Option MV) (x : Int) (st : List MV) (μ : MM) (G : MG) : ev 225 143 [some (vR x), a1] st μ G = ev 225 144 [some (vR x), a1] (vR x :: st) μ G := ev_stp pg_225_143 rfl
theorem pg_225_144 : mm_prog 225 144 = some (0, .getfield 362, 147, [11, 43, 0]) := by decide +kernel
theorem xe_225_144 (a0 a1 : Option MV) (x : Int) (st : List MV) (μ : MM) (G : MG) : ev 225 144 [a0, a1] (vR x :: st) μ G = if gk G x = 11 then ev 225 147 [a0, a1] (vI (μ x 43) :: st) μ G else none := ev_if pg_225_144 rfl
theorem pg_225_147 : mm_prog 225 147 = some (0, .iastore, 148, []) := by decide +kernel
theorem xe_225_147 (a0 a1 : Option MV) (x y z : Int) (st : List MV) (μ : MM) (G : MG) : ev 225 147 [a0, a1] (vI x :: vI y :: vR z :: st) μ G = if gk G z = 100 ∧ 0 ≤ y ∧ y < gl G z ∧ 10 ≤ z then ev 225 148 [a0, a1] st (mset μ z y x) G else none := ev_if pg_225_147 rfl
theorem pg_225_148 : mm_prog 225 148 = some (0, .aload_n 0, 149, []) := by decide +kernel
theorem xe_225_148 (a1 : Option MV) (x : Int) (st : List MV) (μ : MM) (G : MG) : ev 225 148 [some (vR x), a1] st μ G = ev 225 149 [some (vR x), a1] (vR x :: st) μ G := ev_stp pg_225_148 rfl
theorem pg_225_149 : mm_prog 225 149 = some (0, .getfield 93, 152, [11, 41, 2]) := by decide +kernel
theorem xe_225_149 (a0 a1 : Option MV) (x : Int) (st : List MV) (μ : MM) (G : MG) : ev 225 149 [a0, a1] (vR x :: st) μ G = if gk G x = 11 then ev 225 152 [a0, a1] (vR (μ x 41) :: st) μ G else none := ev_if pg_225_149 rfl
theorem pg_225_152 : mm_prog 225 152 = some (0, .iload_n 1, 153, []) := by decide +kernel
theorem xe_225_152 (a0 : Option MV) (x : Int) (st : List MV) (μ : MM) (G : MG) : ev 225 152 [a0, some (vI x)] st μ G = ev 225 153 [a0, some (vI x)] (vI x :: st) μ G := ev_stp pg_225_152 rfl
theorem pg_225_153 : mm_prog 225 153 = some (0, .bipush 6, 155, []) := by decide +kernel
theorem xe_225_153 (a0 a1 : Option MV) (st : List MV) (μ : MM) (G : MG) : ev 225 153 [a0, a1] st μ G = ev 225 155 [a0, a1] (vI (6) :: st) μ G := ev_stp pg_225_153 rfl
theorem pg_225_155 : mm_prog 225 155 = some (0, .iadd, 156, []) := by decide +kernel
theorem xe_225_155 (a0 a1 : Option MV) (x y : Int) (st : List MV) (μ : MM) (G : MG) : ev 225 155 [a0, a1] (vI y :: vI x :: st) μ G = ev 225 156 [a0, a1] (vI (w32 (x + y)) :: st) μ G := ev_stp pg_225_155 rfl
theorem pg_225_156 : mm_prog 225 156 = some (0, .aload_n 0, 157, []) := by decide +kernel
theorem xe_225_156 (a1 : Option MV) (x : Int) (st : List MV) (μ : MM) (G : MG) : ev 225 156 [some (vR x), a1] st μ G = ev 225 157 [some (vR x), a1] (vR x :: st) μ G := ev_stp pg_225_156 rfl
theorem pg_225_157 : mm_prog 225 157 = some (0, .getfield 356, 160, [11, 44, 0]) := by decide +kernel
theorem xe_225_157 (a0 a1 : Option MV) (x : Int) (st : List MV) (μ : MM) (G : MG) : ev 225 157 [a0, a1] (vR x :: st) μ G = if gk G x = 11 then ev 225 160 [a0, a1] (vI (μ x 44) :: st) μ G else none := ev_if pg_225_157 rfl
theorem pg_225_160 : mm_prog 225 160 = some (0, .iastore, 161, []) := by decide +kernel
theorem xe_225_160 (a0 a1 : Option MV) (x y z : Int) (st : List MV) (μ : MM) (G : MG) : ev 225 160 [a0, a1] (vI x :: vI y :: vR z :: st) μ G = if gk G z = 100 ∧ 0 ≤ y ∧ y < gl G z ∧ 10 ≤ z then ev 225 161 [a0, a1] st (mset μ z y x) G else none := ev_if pg_225_160 rfl
theorem pg_225_161 : mm_prog 225 161 = some (2, .return_, 162, []) := by decide +kernel
theorem xe_225_161 (a0 a1 : Option MV) (μ : MM) (G : MG) : ev 225 161 [a0, a1] [] μ G = some (none, μ, G) := ev_ret pg_225_161 rfl
-- X11_step
theorem pg_226_0 : mm_prog 226 0 = some (0, .aload_n 0, 1, []) := by decide +kernel
theorem xe_226_0 (a1 a2 : Option MV) (x : Int) (st : List MV) (μ : MM) (G : MG) : ev 226 0 [some (vR x), a1, a2] st μ G = ev 226 1 [some (vR x), a1, a2] (vR x :: st) μ G := ev_stp pg_226_0 rfl
theorem pg_226_1 : mm_prog 226 1 = some (0, .iconst 0, 2, []) := by decide +kernel
theorem xe_226_1 (a0 a1 a2 : Option MV) (st : List MV) (μ : MM) (G : MG) : ev 226 1 [a0, a1, a2] st μ G = ev 226 2 [a0, a1, a2] (vI (0) :: st) μ G := ev_stp pg_226_1 rfl
theorem pg_226_2 : mm_prog 226 2 = some (0, .putfield 1, 5, [11, 0, 0]) := by decide +kernel
theorem xe_226_2 (a0 a1 a2 : Option MV) (x y : Int) (st : List MV) (μ : MM) (G : MG) : ev 226 2 [a0, a1, a2] (vI x :: vR y :: st) μ G = if gk G y = 11 then ev 226 5 [a0, a1, a2] st (mset μ y 0 x) G else none := ev_put0 pg_226_2
theorem pg_226_5 : mm_prog 226 5 = some (0, .iload_n 1, 6, []) := by decide +kernel
theorem xe_226_5 (a0 a2 : Option MV) (x : Int) (st : List MV) (μ : MM) (G : MG) : ev 226 5 [a0, some (vI x), a2] st μ G = ev 226 6 [a0, some (vI x), a2] (vI x :: st) μ G := ev_stp pg_226_5 rfl
theorem pg_226_6 : mm_prog 226 6 = some (0, .i2l, 7, []) := by decide +kernel
theorem xe_226_6 (a0 a1 a2 : Option MV) (x : Int) (st : List MV) (μ : MM) (G : MG) : ev 226 6 [a0, a1, a2] (vI x :: st) μ G = ev 226 7 [a0, a1, a2] (vL x :: st) μ G := ev_stp pg_226_6 rfl
theorem pg_226_7 : mm_prog 226 7 = some (0, .lconst 0, 8, []) := by decide +kernel
theorem xe_226_7 (a0 a1 a2 : Option MV) (st : List MV) (μ : MM) (G : MG) : ev 226 7 [a0, a1, a2] st μ G = ev 226 8 [a0, a1, a2] (vL 0 :: st) μ G := ev_stp pg_226_7 rfl
theorem pg_226_8 : mm_prog 226 8 = some (0, .aload_n 0, 9, []) := by decide +kernel
theorem xe_226_8 (a1 a2 : Option MV) (x : Int) (st : List MV) (μ : MM) (G : MG) : ev 226 8 [some (vR x), a1, a2] st μ G = ev 226 9 [some (vR x), a1, a2] (vR x :: st) μ G := ev_stp pg_226_8 rfl
theorem pg_226_9 : mm_prog 226 9 = some (0, .getfield 75, 12, [11, 35, 2]) := by decide +kernel
theorem xe_226_9 (a0 a1 a2 : Option MV) (x : Int) (st : List MV) (μ : MM) (G : MG) : ev 226 9 [a0, a1, a2] (vR x :: st) μ G = if gk G x = 11 then ev 226 12 [a0, a1, a2] (vR (μ x 35) :: st) μ G else none := ev_if pg_226_9 rfl
theorem pg_226_12 : mm_prog 226 12 = some (0, .bipush 6, 14, []) := by decide +kernel
theorem xe_226_12 (a0 a1 a2 : Option MV) (st : List MV) (μ : MM) (G : MG) : ev 226 12 [a0, a1, a2] st μ G = ev 226 14 [a0, a1, a2] (vI (6) :: st) μ G := ev_stp pg_226_12 rfl
theorem pg_226_14 : mm_prog 226 14 = some (0, .iaload, 15, []) := by decide +kernel
theorem xe_226_14 (a0 a1 a2 : Option MV) (x y : Int) (st : List MV) (μ : MM) (G : MG) : ev 226 14 [a0, a1, a2] (vI x :: vR y :: st) μ G = if gk G y = 100 ∧ 0 ≤ x ∧ x < gl G y then ev 226 15 [a0, a1, a2] (vI (μ y x) :: st) μ G else none := ev_if pg_226_14 rfl
theorem pg_226_15 : mm_prog 226 15 = some (0, .iconst 1, 16, []) := by decide +kernel
theorem xe_226_15 (a0 a1 a2 : Option MV) (st : List MV) (μ : MM) (G : MG) : ev 226 15 [a0, a1, a2] st μ G = ev 226 16 [a0, a1, a2] (vI (1) :: st) μ G := ev_stp pg_226_15 rfl
theorem pg_226_16 : mm_prog 226 16 = some (0, .isub, 17, []) := by decide +kernel
theorem xe_226_16 (a0 a1 a2 : Option MV) (x y : Int) (st : List MV) (μ : MM) (G : MG) : ev 226 16 [a0, a1, a2] (vI y :: vI x :: st) μ G = ev 226 17 [a0, a1, a2] (vI (w32 (x - y)) :: st) μ G := ev_stp pg_226_16 rfl
theorem pg_226_17 : mm_prog 226 17 = some (0, .i2l, 18, []) := by decide +kernel
theorem xe_226_17 (a0 a1 a2 : Option MV) (x : Int) (st : List MV) (μ : MM) (G : MG) : ev 226 17 [a0, a1, a2] (vI x :: st) μ G = ev 226 18 [a0, a1, a2] (vL x :: st) μ G := ev_stp pg_226_17 rfl
theorem pg_226_18 : mm_prog 226 18 = some (1, .invokestatic 107, 21, [0, 148, 3, 0]) := by decide +kernel
theorem xe_226_18 (a0 a1 a2 : Option MV) (x0 x1 x2 : Int) (μ : MM) (G : MG) : ev 226 18 [a0, a1, a2] (vL x2 :: vL x1 :: vL x0 :: []) μ G = (ev 148 0 [some (vL x0), none, some (vL x1), none, some (vL x2), none] [] μ G).bind (fun q => ev 226 21 [a0, a1, a2] (q.1.toList ++ []) q.2.1 q.2.2) := ev_calS (as := [vL x0, vL x1, vL x2]) (r := []) mx_148 pg_226_18 rfl rfl (Nat.le_of_ble_eq_true rfl) (Nat.le_of_ble_eq_true rfl)
theorem pg_226_21 : mm_prog 226 21 = some (0, .ifCond .eq 29, 24, []) := by decide +kernel
theorem xe_226_21 (a0 a1 a2 : Option MV) (x : Int) (st : List MV) (μ : MM) (G : MG) : ev 226 21 [a0, a1, a2] (vI x :: st) μ G = if x = 0 then ev 226 50 [a0, a1, a2] st μ G else ev 226 24 [a0, a1, a2] st μ G := ev_br (mm_cnd_eq x 0) pg_226_21 rfl
theorem pg_226_24 : mm_prog 226 24 = some (0, .iload_n 2, 25, []) := by decide +kernel
theorem xe_226_24 (a0 a1 : Option MV) (x : Int) (st : List MV) (μ : MM) (G : MG) : ev 226 24 [a0, a1, some (vI x)] st μ G = ev 226 25 [a0, a1, some (vI x)] (vI x :: st) μ G := ev_stp pg_226_24 rfl
theorem pg_226_25 : mm_prog 226 25 = some (0, .i2l, 26, []) := by decide +kernel
theorem xe_226_25 (a0 a1 a2 : Option MV) (x : Int) (st : List MV) (μ : MM) (G : MG) : ev 226 25 [a0, a1, a2] (vI x :: st) μ G = ev 226 26 [a0, a1, a2] (vL x :: st) μ G := ev_stp pg_226_25 rfl
theorem pg_226_26 : mm_prog 226 26 = some (0, .lconst 0, 27, []) := by decide +kernel
theorem xe_226_26 (a0 a1 a2 : Option MV) (st : List MV) (μ : MM) (G : MG) : ev 226 26 [a0, a1, a2] st μ G = ev 226 27 [a0, a1, a2] (vL 0 :: st) μ G := ev_stp pg_226_26 rfl
theorem pg_226_27 : mm_prog 226 27 = some (0, .ldc2_w 311, 30, [6]) := by decide +kernel
theorem xe_226_27 (a0 a1 a2 : Option MV) (st : List MV) (μ : MM) (G : MG) : ev 226 27 [a0, a1, a2] st μ G = ev 226 30 [a0, a1, a2] (vL (6) :: st) μ G := ev_stp pg_226_27 rfl
theorem pg_226_30 : mm_prog 226 30 = some (1, .invokestatic 107, 33, [0, 148, 3, 0]) := by decide +kernel
theorem xe_226_30 (a0 a1 a2 : Option MV) (x0 x1 x2 : Int) (μ : MM) (G : MG) : ev 226 30 [a0, a1, a2] (vL x2 :: vL x1 :: vL x0 :: []) μ G = (ev 148 0 [some (vL x0), none, some (vL x1), none, some (vL x2), none] [] μ G).bind (fun q => ev 226 33 [a0, a1, a2] (q.1.toList ++ []) q.2.1 q.2.2) := ev_calS (as := [vL x0, vL x1, vL x2]) (r := []) mx_148 pg_226_30 rfl rfl (Nat.le_of_ble_eq_true rfl) (Nat.le_of_ble_eq_true rfl)
theorem pg_226_33 : mm_prog 226 33 = some (0, .ifCond .eq 17, 36, []) := by decide +kernel
theorem xe_226_33 (a0 a1 a2 : Option MV) (x : Int) (st : List MV) (μ : MM) (G : MG) : ev 226 33 [a0, a1, a2] (vI x :: st) μ G = if x = 0 then ev 226 50 [a0, a1, a2] st μ G else ev 226 36 [a0, a1, a2] st μ G := ev_br (mm_cnd_eq x 0) pg_226_33 rfl
theorem pg_226_36 : mm_prog 226 36 = some (0, .aload_n 0, 37, []) := by decide +kernel
theorem xe_226_36 (a1 a2 : Option MV) (x : Int) (st : List MV) (μ : MM) (G : MG) : ev 226 36 [some (vR x), a1, a2] st μ G = ev 226 37 [some (vR x), a1, a2] (vR x :: st) μ G := ev_stp pg_226_36 rfl
theorem pg_226_37 : mm_prog 226 37 = some (0, .getfield 93, 40, [11, 41, 2]) := by decide +kernel
theorem xe_226_37 (a0 a1 a2 : Option MV) (x : Int) (st : List MV) (μ : MM) (G : MG) : ev 226 37 [a0, a1, a2] (vR x :: st) μ G = if gk G x = 11 then ev 226 40 [a0, a1, a2] (vR (μ x 41) :: st) μ G else none := ev_if pg_226_37 rfl
theorem pg_226_40 : mm_prog 226 40 = some (0, .bipush 7, 42, []) := by decide +kernel
theorem xe_226_40 (a0 a1 a2 : Option MV) (st : List MV) (μ : MM) (G : MG) : ev 226 40 [a0, a1, a2] st μ G = ev 226 42 [a0, a1, a2] (vI (7) :: st) μ G := ev_stp pg_226_40 rfl
theorem pg_226_42 : mm_prog 226 42 = some (0, .iload_n 1, 43, []) := by decide +kernel
theorem xe_226_42 (a0 a2 : Option MV) (x : Int) (st : List MV) (μ : MM) (G : MG) : ev 226 42 [a0, some (vI x), a2] st μ G = ev 226 43 [a0, some (vI x), a2] (vI x :: st) μ G := ev_stp pg_226_42 rfl
theorem pg_226_43 : mm_prog 226 43 = some (0, .imul, 44, []) := by decide +kernel
theorem xe_226_43 (a0 a1 a2 : Option MV) (x y : Int) (st : List MV) (μ : MM) (G : MG) : ev 226 43 [a0, a1, a2] (vI y :: vI x :: st) μ G = ev 226 44 [a0, a1, a2] (vI (w32 (x * y)) :: st) μ G := ev_stp pg_226_43 rfl
theorem pg_226_44 : mm_prog 226 44 = some (0, .iload_n 2, 45, []) := by decide +kernel
theorem xe_226_44 (a0 a1 : Option MV) (x : Int) (st : List MV) (μ : MM) (G : MG) : ev 226 44 [a0, a1, some (vI x)] st μ G = ev 226 45 [a0, a1, some (vI x)] (vI x :: st) μ G := ev_stp pg_226_44 rfl
theorem pg_226_45 : mm_prog 226 45 = some (0, .iadd, 46, []) := by decide +kernel
theorem xe_226_45 (a0 a1 a2 : Option MV) (x y : Int) (st : List MV) (μ : MM) (G : MG) : ev 226 45 [a0, a1, a2] (vI y :: vI x :: st) μ G = ev 226 46 [a0, a1, a2] (vI (w32 (x + y)) :: st) μ G := ev_stp pg_226_45 rfl
theorem pg_226_46 : mm_prog 226 46 = some (0, .iaload, 47, []) := by decide +kernel
theorem xe_226_46 (a0 a1 a2 : Option MV) (x y : Int) (st : List MV) (μ : MM) (G : MG) : ev 226 46 [a0, a1, a2] (vI x :: vR y :: st) μ G = if gk G y = 100 ∧ 0 ≤ x ∧ x < gl G y then ev 226 47 [a0, a1, a2] (vI (μ y x) :: st) μ G else none := ev_if pg_226_46 rfl
theorem pg_226_47 : mm_prog 226 47 = some (0, .goto 5, 50, []) := by decide +kernel
theorem xe_226_47 (a0 a1 a2 : Option MV) (st : List MV) (μ : MM) (G : MG) : ev 226 47 [a0, a1, a2] st μ G = ev 226 52 [a0, a1, a2] st μ G := ev_stp pg_226_47 rfl
theorem pg_226_50 : mm_prog 226 50 = some (0, .bipush (-2), 52, []) := by decide +kernel
theorem xe_226_50 (a0 a1 a2 : Option MV) (st : List MV) (μ : MM) (G : MG) : ev 226 50 [a0, a1, a2] st μ G = ev 226 52 [a0, a1, a2] (vI (-2) :: st) μ G := ev_stp pg_226_50 rfl
theorem pg_226_52 : mm_prog 226 52 = some (2, .ireturn, 53, [0]) := by decide +kernel
theorem xe_226_52 (a0 a1 a2 : Option MV) (x : Int) (μ : MM) (G : MG) : ev 226 52 [a0, a1, a2] [vI x] μ G = some (some (vI x), μ, G) := ev_ret pg_226_52 rfl
-- X11_tries
theorem pg_227_0 : mm_prog 227 0 = some (0, .aload_n 0, 1, []) := by decide +kernel
theorem xe_227_0 (a1 a2 : Option MV) (x : Int) (st : List MV) (μ : MM) (G : MG) : ev 227 0 [some (vR x), a1, a2] st μ G = ev 227 1 [some (vR x), a1, a2] (vR x :: st) μ G := ev_stp pg_227_0 rfl
theorem pg_227_1 : mm_prog 227 1 = some (0, .iconst 0, 2, []) := by decide +kernel
theorem xe_227_1 (a0 a1 a2 : Option MV) (st : List MV) (μ : MM) (G : MG) : ev 227 1 [a0, a1, a2] st μ G = ev 227 2 [a0, a1, a2] (vI (0) :: st) μ G := ev_stp pg_227_1 rfl
theorem pg_227_2 : mm_prog 227 2 = some (0, .putfield 1, 5, [11, 0, 0]) := by decide +kernel
theorem xe_227_2 (a0 a1 a2 : Option MV) (x y : Int) (st : List MV) (μ : MM) (G : MG) : ev 227 2 [a0, a1, a2] (vI x :: vR y :: st) μ G = if gk G y = 11 then ev 227 5 [a0, a1, a2] st (mset μ y 0 x) G else none := ev_put0 pg_227_2
theorem pg_227_5 : mm_prog 227 5 = some (0, .iload_n 1, 6, []) := by decide +kernel
theorem xe_227_5 (a0 a2 : Option MV) (x : Int) (st : List MV) (μ : MM) (G : MG) : ev 227 5 [a0, some (vI x), a2] st μ G = ev 227 6 [a0, some (vI x), a2] (vI x :: st) μ G := ev_stp pg_227_5 rfl
theorem pg_227_6 : mm_prog 227 6 = some (0, .i2l, 7, []) := by decide +kernel
theorem xe_227_6 (a0 a1 a2 : Option MV) (x : Int) (st : List MV) (μ : MM) (G : MG) : ev 227 6 [a0, a1, a2] (vI x :: st) μ G = ev 227 7 [a0, a1, a2] (vL x :: st) μ G := ev_stp pg_227_6 rfl
theorem pg_227_7 : mm_prog 227 7 = some (0, .lconst 1, 8, []) := by decide +kernel
theorem xe_227_7 (a0 a1 a2 : Option MV) (st : List MV) (μ : MM) (G : MG) : ev 227 7 [a0, a1, a2] st μ G = ev 227 8 [a0, a1, a2] (vL 1 :: st) μ G := ev_stp pg_227_7 rfl
theorem pg_227_8 : mm_prog 227 8 = some (0, .ldc2_w 383, 11, [100]) := by decide +kernel
theorem xe_227_8 (a0 a1 a2 : Option MV) (st : List MV) (μ : MM) (G : MG) : ev 227 8 [a0, a1, a2] st μ G = ev 227 11 [a0, a1, a2] (vL (100) :: st) μ G := ev_stp pg_227_8 rfl
theorem pg_227_11 : mm_prog 227 11 = some (1, .invokestatic 107, 14, [0, 148, 3, 0]) := by decide +kernel
theorem xe_227_11 (a0 a1 a2 : Option MV) (x0 x1 x2 : Int) (μ : MM) (G : MG) : ev 227 11 [a0, a1, a2] (vL x2 :: vL x1 :: vL x0 :: []) μ G = (ev 148 0 [some (vL x0), none, some (vL x1), none, some (vL x2), none] [] μ G).bind (fun q => ev 227 14 [a0, a1, a2] (q.1.toList ++ []) q.2.1 q.2.2) := ev_calS (as := [vL x0, vL x1, vL x2]) (r := []) mx_148 pg_227_11 rfl rfl (Nat.le_of_ble_eq_true rfl) (Nat.le_of_ble_eq_true rfl)
theorem pg_227_14 : mm_prog 227 14 = some (0, .ifCond .ne 6, 17, []) := by decide +kernel
theorem xe_227_14 (a0 a1 a2 : Option MV) (x : Int) (st : List MV) (μ : MM) (G : MG) : ev 227 14 [a0, a1, a2] (vI x :: st) μ G = if ¬ x = 0 then ev 227 20 [a0, a1, a2] st μ G else ev 227 17 [a0, a1, a2] st μ G := ev_br (mm_cnd_ne x 0) pg_227_14 rfl
theorem pg_227_17 : mm_prog 227 17 = some (0, .bipush (-3), 19, []) := by decide +kernel
theorem xe_227_17 (a0 a1 a2 : Option MV) (st : List MV) (μ : MM) (G : MG) : ev 227 17 [a0, a1, a2] st μ G = ev 227 19 [a0, a1, a2] (vI (-3) :: st) μ G := ev_stp pg_227_17 rfl
theorem pg_227_19 : mm_prog 227 19 = some (2, .ireturn, 20, [0]) := by decide +kernel
theorem xe_227_19 (a0 a1 a2 : Option MV) (x : Int) (μ : MM) (G : MG) : ev 227 19 [a0, a1, a2] [vI x] μ G = some (some (vI x), μ, G) := ev_ret pg_227_19 rfl
theorem pg_227_20 : mm_prog 227 20 = some (0, .aload_n 0, 21, []) := by decide +kernel
theorem xe_227_20 (a1 a2 : Option MV) (x : Int) (st : List MV) (μ : MM) (G : MG) : ev 227 20 [some (vR x), a1, a2] st μ G = ev 227 21 [some (vR x), a1, a2] (vR x :: st) μ G := ev_stp pg_227_20 rfl
theorem pg_227_21 : mm_prog 227 21 = some (1, .invokevirtual 385, 24, [1, 223, 0, 11]) := by decide +kernel
theorem xe_227_21 (a0 a1 a2 : Option MV) (z : Int) (μ : MM) (G : MG) : ev 227 21 [a0, a1, a2] (vR z :: []) μ G = if gk G z = 11 ∧ 0 < z then (ev 223 0 [some (vR z)] [] μ G).bind (fun q => ev 227 24 [a0, a1, a2] (q.1.toList ++ []) q.2.1 q.2.2) else none := ev_calV (as := [vR z]) (r := []) mx_223 pg_227_21 rfl rfl (Nat.le_of_ble_eq_true rfl) (Nat.le_of_ble_eq_true rfl)
theorem pg_227_24 : mm_prog 227 24 = some (0, .ifCond .ne 6, 27, []) := by decide +kernel
theorem xe_227_24 (a0 a1 a2 : Option MV) (x : Int) (st : List MV) (μ : MM) (G : MG) : ev 227 24 [a0, a1, a2] (vI x :: st) μ G = if ¬ x = 0 then ev 227 30 [a0, a1, a2] st μ G else ev 227 27 [a0, a1, a2] st μ G := ev_br (mm_cnd_ne x 0) pg_227_24 rfl
theorem pg_227_27 : mm_prog 227 27 = some (0, .bipush (-5), 29, []) := by decide +kernel
theorem xe_227_27 (a0 a1 a2 : Option MV) (st : List MV) (μ : MM) (G : MG) : ev 227 27 [a0, a1, a2] st μ G = ev 227 29 [a0, a1, a2] (vI (-5) :: st) μ G := ev_stp pg_227_27 rfl
theorem pg_227_29 : mm_prog 227 29 = some (2, .ireturn, 30, [0]) := by decide +kernel
theorem xe_227_29 (a0 a1 a2 : Option MV) (x : Int) (μ : MM) (G : MG) : ev 227 29 [a0, a1, a2] [vI x] μ G = some (some (vI x), μ, G) := ev_ret pg_227_29 rfl
theorem pg_227_30 : mm_prog 227 30 = some (0, .iconst 0, 31, []) := by decide +kernel
theorem xe_227_30 (a0 a1 a2 : Option MV) (st : List MV) (μ : MM) (G : MG) : ev 227 30 [a0, a1, a2] st μ G = ev 227 31 [a0, a1, a2] (vI (0) :: st) μ G := ev_stp pg_227_30 rfl
theorem pg_227_31 : mm_prog 227 31 = some (0, .istore_n 2, 32, []) := by decide +kernel
theorem xe_227_31 (a0 a1 a2 : Option MV) (x : Int) (st : List MV) (μ : MM) (G : MG) (h : mm_nL a1 = true) : ev 227 31 [a0, a1, a2] (vI x :: st) μ G = ev 227 32 [a0, a1, some (vI x)] st μ G := ev_st pg_227_31 rfl (mm_nl_of h) (Nat.le_of_ble_eq_true rfl)
theorem pg_227_32 : mm_prog 227 32 = some (0, .iload_n 2, 33, []) := by decide +kernel
theorem xe_227_32 (a0 a1 : Option MV) (x : Int) (st : List MV) (μ : MM) (G : MG) : ev 227 32 [a0, a1, some (vI x)] st μ G = ev 227 33 [a0, a1, some (vI x)] (vI x :: st) μ G := ev_stp pg_227_32 rfl
theorem pg_227_33 : mm_prog 227 33 = some (0, .iload_n 1, 34, []) := by decide +kernel
theorem xe_227_33 (a0 a2 : Option MV) (x : Int) (st : List MV) (μ : MM) (G : MG) : ev 227 33 [a0, some (vI x), a2] st μ G = ev 227 34 [a0, some (vI x), a2] (vI x :: st) μ G := ev_stp pg_227_33 rfl
theorem pg_227_34 : mm_prog 227 34 = some (0, .if_icmp .ge 20, 37, []) := by decide +kernel
theorem xe_227_34 (a0 a1 a2 : Option MV) (x y : Int) (st : List MV) (μ : MM) (G : MG) : ev 227 34 [a0, a1, a2] (vI y :: vI x :: st) μ G = if y ≤ x then ev 227 54 [a0, a1, a2] st μ G else ev 227 37 [a0, a1, a2] st μ G := ev_br (mm_cnd_ge x y) pg_227_34 rfl
theorem pg_227_37 : mm_prog 227 37 = some (0, .aload_n 0, 38, []) := by decide +kernel
theorem xe_227_37 (a1 a2 : Option MV) (x : Int) (st : List MV) (μ : MM) (G : MG) : ev 227 37 [some (vR x), a1, a2] st μ G = ev 227 38 [some (vR x), a1, a2] (vR x :: st) μ G := ev_stp pg_227_37 rfl
theorem pg_227_38 : mm_prog 227 38 = some (1, .invokevirtual 385, 41, [1, 223, 0, 11]) := by decide +kernel
theorem xe_227_38 (a0 a1 a2 : Option MV) (z : Int) (μ : MM) (G : MG) : ev 227 38 [a0, a1, a2] (vR z :: []) μ G = if gk G z = 11 ∧ 0 < z then (ev 223 0 [some (vR z)] [] μ G).bind (fun q => ev 227 41 [a0, a1, a2] (q.1.toList ++ []) q.2.1 q.2.2) else none := ev_calV (as := [vR z]) (r := []) mx_223 pg_227_38 rfl rfl (Nat.le_of_ble_eq_true rfl) (Nat.le_of_ble_eq_true rfl)
theorem pg_227_41 : mm_prog 227 41 = some (0, .ifCond .eq 13, 44, []) := by decide +kernel
theorem xe_227_41 (a0 a1 a2 : Option MV) (x : Int) (st : List MV) (μ : MM) (G : MG) : ev 227 41 [a0, a1, a2] (vI x :: st) μ G = if x = 0 then ev 227 54 [a0, a1, a2] st μ G else ev 227 44 [a0, a1, a2] st μ G := ev_br (mm_cnd_eq x 0) pg_227_41 rfl
theorem pg_227_44 : mm_prog 227 44 = some (0, .aload_n 0, 45, []) := by decide +kernel
theorem xe_227_44 (a1 a2 : Option MV) (x : Int) (st : List MV) (μ : MM) (G : MG) : ev 227 44 [some (vR x), a1, a2] st μ G = ev 227 45 [some (vR x), a1, a2] (vR x :: st) μ G := ev_stp pg_227_44 rfl
theorem pg_227_45 : mm_prog 227 45 = some (1, .invokevirtual 388, 48, [1, 225, 0, 11]) := by decide +kernel
theorem xe_227_45 (a0 a1 a2 : Option MV) (z : Int) (μ : MM) (G : MG) : ev 227 45 [a0, a1, a2] (vR z :: []) μ G = if gk G z = 11 ∧ 0 < z then (ev 225 0 [some (vR z), none] [] μ G).bind (fun q => ev 227 48 [a0, a1, a2] (q.1.toList ++ []) q.2.1 q.2.2) else none := ev_calV (as := [vR z]) (r := []) mx_225 pg_227_45 rfl rfl (Nat.le_of_ble_eq_true rfl) (Nat.le_of_ble_eq_true rfl)
theorem pg_227_48 : mm_prog 227 48 = some (0, .iinc 2 1, 51, []) := by decide +kernel
theorem xe_227_48 (a0 a1 : Option MV) (x : Int) (st : List MV) (μ : MM) (G : MG) (h : mm_nL a1 = true) : ev 227 48 [a0, a1, some (vI x)] st μ G = ev 227 51 [a0, a1, some (vI (w32 (x + (1))))] st μ G := ev_st pg_227_48 rfl (mm_nl_of h) (Nat.le_of_ble_eq_true rfl)
theorem pg_227_51 : mm_prog 227 51 = some (0, .goto (-19), 54, []) := by decide +kernel
theorem xe_227_51 (a0 a1 a2 : Option MV) (st : List MV) (μ : MM) (G : MG) : ev 227 51 [a0, a1, a2] st μ G = ev 227 32 [a0, a1, a2] st μ G := ev_stp pg_227_51 rfl
theorem pg_227_54 : mm_prog 227 54 = some (0, .iload_n 2, 55, []) := by decide +kernel
theorem xe_227_54 (a0 a1 : Option MV) (x : Int) (st : List MV) (μ : MM) (G : MG) : ev 227 54 [a0, a1, some (vI x)] st μ G = ev 227 55 [a0, a1, some (vI x)] (vI x :: st) μ G := ev_stp pg_227_54 rfl
theorem pg_227_55 : mm_prog 227 55 = some (2, .ireturn, 56, [0]) := by decide +kernel
theorem xe_227_55 (a0 a1 a2 : Option MV) (x : Int) (μ : MM) (G : MG) : ev 227 55 [a0, a1, a2] [vI x] μ G = some (some (vI x), μ, G) := ev_ret pg_227_55 rfl
-- X11_mostOf
theorem pg_228_0 : mm_prog 228 0 = some (0, .iconst 0, 1, []) := by decide +kernel
theorem xe_228_0 (a0 a1 a2 a3 : Option MV) (st : List MV) (μ : MM) (G : MG) : ev 228 0 [a0, a1, a2, a3] st μ G = ev 228 1 [a0, a1, a2, a3] (vI (0) :: st) μ G := ev_stp pg_228_0 rfl
theorem pg_228_1 : mm_prog 228 1 = some (0, .istore_n 2, 2, []) := by decide +kernel
theorem xe_228_1 (a0 a1 a2 a3 : Option MV) (x : Int) (st : List MV) (μ : MM) (G : MG) (h : mm_nL a1 = true) : ev 228 1 [a0, a1, a2, a3] (vI x :: st) μ G = ev 228 2 [a0, a1, some (vI x), a3] st μ G := ev_st pg_228_1 rfl (mm_nl_of h) (Nat.le_of_ble_eq_true rfl)
theorem pg_228_2 : mm_prog 228 2 = some (0, .iconst 0, 3, []) := by decide +kernel
theorem xe_228_2 (a0 a1 a2 a3 : Option MV) (st : List MV) (μ : MM) (G : MG) : ev 228 2 [a0, a1, a2, a3] st μ G = ev 228 3 [a0, a1, a2, a3] (vI (0) :: st) μ G := ev_stp pg_228_2 rfl
theorem pg_228_3 : mm_prog 228 3 = some (0, .istore_n 3, 4, []) := by decide +kernel
theorem xe_228_3 (a0 a1 a2 a3 : Option MV) (x : Int) (st : List MV) (μ : MM) (G : MG) (h : mm_nL a2 = true) : ev 228 3 [a0, a1, a2, a3] (vI x :: st) μ G = ev 228 4 [a0, a1, a2, some (vI x)] st μ G := ev_st pg_228_3 rfl (mm_nl_of h) (Nat.le_of_ble_eq_true rfl)
theorem pg_228_4 : mm_prog 228 4 = some (0, .iload_n 3, 5, []) := by decide +kernel
theorem xe_228_4 (a0 a1 a2 : Option MV) (x : Int) (st : List MV) (μ : MM) (G : MG) : ev 228 4 [a0, a1, a2, some (vI x)] st μ G = ev 228 5 [a0, a1, a2, some (vI x)] (vI x :: st) μ G := ev_stp pg_228_4 rfl
theorem pg_228_5 : mm_prog 228 5 = some (0, .iconst 4, 6, []) := by decide +kernel
theorem xe_228_5 (a0 a1 a2 a3 : Option MV) (st : List MV) (μ : MM) (G : MG) : ev 228 5 [a0, a1, a2, a3] st μ G = ev 228 6 [a0, a1, a2, a3] (vI (4) :: st) μ G := ev_stp pg_228_5 rfl
theorem pg_228_6 : mm_prog 228 6 = some (0, .if_icmp .ge 22, 9, []) := by decide +kernel
theorem xe_228_6 (a0 a1 a2 a3 : Option MV) (x y : Int) (st : List MV) (μ : MM) (G : MG) : ev 228 6 [a0, a1, a2, a3] (vI y :: vI x :: st) μ G = if y ≤ x then ev 228 28 [a0, a1, a2, a3] st μ G else ev 228 9 [a0, a1, a2, a3] st μ G := ev_br (mm_cnd_ge x y) pg_228_6 rfl
theorem pg_228_9 : mm_prog 228 9 = some (0, .iload_n 2, 10, []) := by decide +kernel
theorem xe_228_9 (a0 a1 a3 : Option MV) (x : Int) (st : List MV) (μ : MM) (G : MG) : ev 228 9 [a0, a1, some (vI x), a3] st μ G = ev 228 10 [a0, a1, some (vI x), a3] (vI x :: st) μ G := ev_stp pg_228_9 rfl
theorem pg_228_10 : mm_prog 228 10 = some (0, .aload_n 0, 11, []) := by decide +kernel
theorem xe_228_10 (a1 a2 a3 : Option MV) (x : Int) (st : List MV) (μ : MM) (G : MG) : ev 228 10 [some (vR x), a1, a2, a3] st μ G = ev 228 11 [some (vR x), a1, a2, a3] (vR x :: st) μ G := ev_stp pg_228_10 rfl
theorem pg_228_11 : mm_prog 228 11 = some (0, .getfield 75, 14, [11, 35, 2]) := by decide +kernel
theorem xe_228_11 (a0 a1 a2 a3 : Option MV) (x : Int) (st : List MV) (μ : MM) (G : MG) : ev 228 11 [a0, a1, a2, a3] (vR x :: st) μ G = if gk G x = 11 then ev 228 14 [a0, a1, a2, a3] (vR (μ x 35) :: st) μ G else none := ev_if pg_228_11 rfl
theorem pg_228_14 : mm_prog 228 14 = some (0, .iload_n 1, 15, []) := by decide +kernel
theorem xe_228_14 (a0 a2 a3 : Option MV) (x : Int) (st : List MV) (μ : MM) (G : MG) : ev 228 14 [a0, some (vI x), a2, a3] st μ G = ev 228 15 [a0, some (vI x), a2, a3] (vI x :: st) μ G := ev_stp pg_228_14 rfl
theorem pg_228_15 : mm_prog 228 15 = some (0, .iload_n 3, 16, []) := by decide +kernel
theorem xe_228_15 (a0 a1 a2 : Option MV) (x : Int) (st : List MV) (μ : MM) (G : MG) : ev 228 15 [a0, a1, a2, some (vI x)] st μ G = ev 228 16 [a0, a1, a2, some (vI x)] (vI x :: st) μ G := ev_stp pg_228_15 rfl
theorem pg_228_16 : mm_prog 228 16 = some (0, .iadd, 17, []) := by decide +kernel
theorem xe_228_16 (a0 a1 a2 a3 : Option MV) (x y : Int) (st : List MV) (μ : MM) (G : MG) : ev 228 16 [a0, a1, a2, a3] (vI y :: vI x :: st) μ G = ev 228 17 [a0, a1, a2, a3] (vI (w32 (x + y)) :: st) μ G := ev_stp pg_228_16 rfl
theorem pg_228_17 : mm_prog 228 17 = some (0, .iaload, 18, []) := by decide +kernel
theorem xe_228_17 (a0 a1 a2 a3 : Option MV) (x y : Int) (st : List MV) (μ : MM) (G : MG) : ev 228 17 [a0, a1, a2, a3] (vI x :: vR y :: st) μ G = if gk G y = 100 ∧ 0 ≤ x ∧ x < gl G y then ev 228 18 [a0, a1, a2, a3] (vI (μ y x) :: st) μ G else none := ev_if pg_228_17 rfl
theorem pg_228_18 : mm_prog 228 18 = some (1, .invokestatic 289, 21, [0, 150, 2, 0]) := by decide +kernel
theorem xe_228_18 (a0 a1 a2 a3 : Option MV) (x0 x1 : Int) (μ : MM) (G : MG) : ev 228 18 [a0, a1, a2, a3] (vI x1 :: vI x0 :: []) μ G = (ev 150 0 [some (vI x0), some (vI x1)] [] μ G).bind (fun q => ev 228 21 [a0, a1, a2, a3] (q.1.toList ++ []) q.2.1 q.2.2) := ev_calS (as := [vI x0, vI x1]) (r := []) mx_150 pg_228_18 rfl rfl (Nat.le_of_ble_eq_true rfl) (Nat.le_of_ble_eq_true rfl)
theorem pg_228_21 : mm_prog 228 21 = some (0, .istore_n 2, 22, []) := by decide +kernel
theorem xe_228_21 (a0 a1 a2 a3 : Option MV) (x : Int) (st : List MV) (μ : MM) (G : MG) (h : mm_nL a1 = true) : ev 228 21 [a0, a1, a2, a3] (vI x :: st) μ G = ev 228 22 [a0, a1, some (vI x), a3] st μ G := ev_st pg_228_21 rfl (mm_nl_of h) (Nat.le_of_ble_eq_true rfl)
theorem pg_228_22 : mm_prog 228 22 = some (0, .iinc 3 1, 25, []) := by decide +kernel
theorem xe_228_22 (a0 a1 a2 : Option MV) (x : Int) (st : List MV) (μ : MM) (G : MG) (h : mm_nL a2 = true) : ev 228 22 [a0, a1, a2, some (vI x)] st μ G = ev 228 25 [a0, a1, a2, some (vI (w32 (x + (1))))] st μ G := ev_st pg_228_22 rfl (mm_nl_of h) (Nat.le_of_ble_eq_true rfl)
theorem pg_228_25 : mm_prog 228 25 = some (0, .goto (-21), 28, []) := by decide +kernel
theorem xe_228_25 (a0 a1 a2 a3 : Option MV) (st : List MV) (μ : MM) (G : MG) : ev 228 25 [a0, a1, a2, a3] st μ G = ev 228 4 [a0, a1, a2, a3] st μ G := ev_stp pg_228_25 rfl
theorem pg_228_28 : mm_prog 228 28 = some (0, .iload_n 2, 29, []) := by decide +kernel
theorem xe_228_28 (a0 a1 a3 : Option MV) (x : Int) (st : List MV) (μ : MM) (G : MG) : ev 228 28 [a0, a1, some (vI x), a3] st μ G = ev 228 29 [a0, a1, some (vI x), a3] (vI x :: st) μ G := ev_stp pg_228_28 rfl
theorem pg_228_29 : mm_prog 228 29 = some (2, .ireturn, 30, [0]) := by decide +kernel
theorem xe_228_29 (a0 a1 a2 a3 : Option MV) (x : Int) (μ : MM) (G : MG) : ev 228 29 [a0, a1, a2, a3] [vI x] μ G = some (some (vI x), μ, G) := ev_ret pg_228_29 rfl
-- X11_state
theorem pg_229_0 : mm_prog 229 0 = some (0, .aload_n 0, 1, []) := by decide +kernel
theorem xe_229_0 (a1 : Option MV) (x : Int) (st : List MV) (μ : MM) (G : MG) : ev 229 0 [some (vR x), a1] st μ G = ev 229 1 [some (vR x), a1] (vR x :: st) μ G := ev_stp pg_229_0 rfl
theorem pg_229_1 : mm_prog 229 1 = some (0, .iconst 0, 2, []) := by decide +kernel
theorem xe_229_1 (a0 a1 : Option MV) (st : List MV) (μ : MM) (G : MG) : ev 229 1 [a0, a1] st μ G = ev 229 2 [a0, a1] (vI (0) :: st) μ G := ev_stp pg_229_1 rfl
theorem pg_229_2 : mm_prog 229 2 = some (0, .putfield 1, 5, [11, 0, 0]) := by decide +kernel
theorem xe_229_2 (a0 a1 : Option MV) (x y : Int) (st : List MV) (μ : MM) (G : MG) : ev 229 2 [a0, a1] (vI x :: vR y :: st) μ G = if gk G y = 11 then ev 229 5 [a0, a1] st (mset μ y 0 x) G else none := ev_put0 pg_229_2
theorem pg_229_5 : mm_prog 229 5 = some (0, .iload_n 1, 6, []) := by decide +kernel
theorem xe_229_5 (a0 : Option MV) (x : Int) (st : List MV) (μ : MM) (G : MG) : ev 229 5 [a0, some (vI x)] st μ G = ev 229 6 [a0, some (vI x)] (vI x :: st) μ G := ev_stp pg_229_5 rfl
theorem pg_229_6 : mm_prog 229 6 = some (0, .tableswitch 137 0 7 #[46, 53, 60, 67, 107, 115, 123, 130], 52, [143, 0, 52, 1, 59, 2, 66, 3, 73, 4, 113, 5, 121, 6, 129, 7, 136]) := by decide +kernel
theorem xe_229_6 (a0 a1 : Option MV) (x : Int) (st : List MV) (μ : MM) (G : MG) : ev 229 6 [a0, a1] (vI x :: st) μ G = if x = 0 then ev 229 52 [a0, a1] st μ G else if x = 1 then ev 229 59 [a0, a1] st μ G else if x = 2 then ev 229 66 [a0, a1] st μ G else if x = 3 then ev 229 73 [a0, a1] st μ G else if x = 4 then ev 229 113 [a0, a1] st μ G else if x = 5 then ev 229 121 [a0, a1] st μ G else if x = 6 then ev 229 129 [a0, a1] st μ G else if x = 7 then ev 229 136 [a0, a1] st μ G else ev 229 143 [a0, a1] st μ G := ev_sw (x := x) (d := 143) (l := [0, 52, 1, 59, 2, 66, 3, 73, 4, 113, 5, 121, 6, 129, 7, 136]) (st' := st) pg_229_6 rfl
theorem pg_229_52 : mm_prog 229 52 = some (0, .aload_n 0, 53, []) := by decide +kernel
theorem xe_229_52 (a1 : Option MV) (x : Int) (st : List MV) (μ : MM) (G : MG) : ev 229 52 [some (vR x), a1] st μ G = ev 229 53 [some (vR x), a1] (vR x :: st) μ G := ev_stp pg_229_52 rfl
theorem pg_229_53 : mm_prog 229 53 = some (0, .getfield 75, 56, [11, 35, 2]) := by decide +kernel
theorem xe_229_53 (a0 a1 : Option MV) (x : Int) (st : List MV) (μ : MM) (G : MG) : ev 229 53 [a0, a1] (vR x :: st) μ G = if gk G x = 11 then ev 229 56 [a0, a1] (vR (μ x 35) :: st) μ G else none := ev_if pg_229_53 rfl
theorem pg_229_56 : mm_prog 229 56 = some (0, .iconst 0, 57, []) := by decide +kernel
theorem xe_229_56 (a0 a1 : Option MV) (st : List MV) (μ : MM) (G : MG) : ev 229 56 [a0, a1] st μ G = ev 229 57 [a0, a1] (vI (0) :: st) μ G := ev_stp pg_229_56 rfl
theorem pg_229_57 : mm_prog 229 57 = some (0, .iaload, 58, []) := by decide +kernel
theorem xe_229_57 (a0 a1 : Option MV) (x y : Int) (st : List MV) (μ : MM) (G : MG) : ev 229 57 [a0, a1] (vI x :: vR y :: st) μ G = if gk G y = 100 ∧ 0 ≤ x ∧ x < gl G y then ev 229 58 [a0, a1] (vI (μ y x) :: st) μ G else none := ev_if pg_229_57 rfl
theorem pg_229_58 : mm_prog 229 58 = some (2, .ireturn, 59, [0]) := by decide +kernel
theorem xe_229_58 (a0 a1 : Option MV) (x : Int) (μ : MM) (G : MG) : ev 229 58 [a0, a1] [vI x] μ G = some (some (vI x), μ, G) := ev_ret pg_229_58 rfl
theorem pg_229_59 : mm_prog 229 59 = some (0, .aload_n 0, 60, []) := by decide +kernel
theorem xe_229_59 (a1 : Option MV) (x : Int) (st : List MV) (μ : MM) (G : MG) : ev 229 59 [some (vR x), a1] st μ G = ev 229 60 [some (vR x), a1] (vR x :: st) μ G := ev_stp pg_229_59 rfl
theorem pg_229_60 : mm_prog 229 60 = some (0, .getfield 75, 63, [11, 35, 2]) := by decide +kernel
theorem xe_229_60 (a0 a1 : Option MV) (x : Int) (st : List MV) (μ : MM) (G : MG) : ev 229 60 [a0, a1] (vR x :: st) μ G = if gk G x = 11 then ev 229 63 [a0, a1] (vR (μ x 35) :: st) μ G else none := ev_if pg_229_60 rfl
theorem pg_229_63 : mm_prog 229 63 = some (0, .iconst 1, 64, []) := by decide +kernel
theorem xe_229_63 (a0 a1 : Option MV) (st : List MV) (μ : MM) (G : MG) : ev 229 63 [a0, a1] st μ G = ev 229 64 [a0, a1] (vI (1) :: st) μ G := ev_stp pg_229_63 rfl
theorem pg_229_64 : mm_prog 229 64 = some (0, .iaload, 65, []) := by decide +kernel
theorem xe_229_64 (a0 a1 : Option MV) (x y : Int) (st : List MV) (μ : MM) (G : MG) : ev 229 64 [a0, a1] (vI x :: vR y :: st) μ G = if gk G y = 100 ∧ 0 ≤ x ∧ x < gl G y then ev 229 65 [a0, a1] (vI (μ y x) :: st) μ G else none := ev_if pg_229_64 rfl
theorem pg_229_65 : mm_prog 229 65 = some (2, .ireturn, 66, [0]) := by decide +kernel
theorem xe_229_65 (a0 a1 : Option MV) (x : Int) (μ : MM) (G : MG) : ev 229 65 [a0, a1] [vI x] μ G = some (some (vI x), μ, G) := ev_ret pg_229_65 rfl
theorem pg_229_66 : mm_prog 229 66 = some (0, .aload_n 0, 67, []) := by decide +kernel
theorem xe_229_66 (a1 : Option MV) (x : Int) (st : List MV) (μ : MM) (G : MG) : ev 229 66 [some (vR x), a1] st μ G = ev 229 67 [some (vR x), a1] (vR x :: st) μ G := ev_stp pg_229_66 rfl
theorem pg_229_67 : mm_prog 229 67 = some (0, .getfield 75, 70, [11, 35, 2]) := by decide +kernel
theorem xe_229_67 (a0 a1 : Option MV) (x : Int) (st : List MV) (μ : MM) (G : MG) : ev 229 67 [a0, a1] (vR x :: st) μ G = if gk G x = 11 then ev 229 70 [a0, a1] (vR (μ x 35) :: st) μ G else none := ev_if pg_229_67 rfl
theorem pg_229_70 : mm_prog 229 70 = some (0, .iconst 2, 71, []) := by decide +kernel
theorem xe_229_70 (a0 a1 : Option MV) (st : List MV) (μ : MM) (G : MG) : ev 229 70 [a0, a1] st μ G = ev 229 71 [a0, a1] (vI (2) :: st) μ G := ev_stp pg_229_70 rfl
theorem pg_229_71 : mm_prog 229 71 = some (0, .iaload, 72, []) := by decide +kernel
theorem xe_229_71 (a0 a1 : Option MV) (x y : Int) (st : List MV) (μ : MM) (G : MG) : ev 229 71 [a0, a1] (vI x :: vR y :: st) μ G = if gk G y = 100 ∧ 0 ≤ x ∧ x < gl G y then ev 229 72 [a0, a1] (vI (μ y x) :: st) μ G else none := ev_if pg_229_71 rfl
theorem pg_229_72 : mm_prog 229 72 = some (2, .ireturn, 73, [0]) := by decide +kernel
theorem xe_229_72 (a0 a1 : Option MV) (x : Int) (μ : MM) (G : MG) : ev 229 72 [a0, a1] [vI x] μ G = some (some (vI x), μ, G) := ev_ret pg_229_72 rfl
theorem pg_229_73 : mm_prog 229 73 = some (0, .aload_n 0, 74, []) := by decide +kernel
theorem xe_229_73 (a1 : Option MV) (x : Int) (st : List MV) (μ : MM) (G : MG) : ev 229 73 [some (vR x), a1] st μ G = ev 229 74 [some (vR x), a1] (vR x :: st) μ G := ev_stp pg_229_73 rfl
theorem pg_229_74 : mm_prog 229 74 = some (0, .getfield 75, 77, [11, 35, 2]) := by decide +kernel
theorem xe_229_74 (a0 a1 : Option MV) (x : Int) (st : List MV) (μ : MM) (G : MG) : ev 229 74 [a0, a1] (vR x :: st) μ G = if gk G x = 11 then ev 229 77 [a0, a1] (vR (μ x 35) :: st) μ G else none := ev_if pg_229_74 rfl
theorem pg_229_77 : mm_prog 229 77 = some (0, .iconst 0, 78, []) := by decide +kernel
theorem xe_229_77 (a0 a1 : Option MV) (st : List MV) (μ : MM) (G : MG) : ev 229 77 [a0, a1] st μ G = ev 229 78 [a0, a1] (vI (0) :: st) μ G := ev_stp pg_229_77 rfl
theorem pg_229_78 : mm_prog 229 78 = some (0, .iaload, 79, []) := by decide +kernel
theorem xe_229_78 (a0 a1 : Option MV) (x y : Int) (st : List MV) (μ : MM) (G : MG) : ev 229 78 [a0, a1] (vI x :: vR y :: st) μ G = if gk G y = 100 ∧ 0 ≤ x ∧ x < gl G y then ev 229 79 [a0, a1] (vI (μ y x) :: st) μ G else none := ev_if pg_229_78 rfl
theorem pg_229_79 : mm_prog 229 79 = some (0, .iconst 1, 80, []) := by decide +kernel
theorem xe_229_79 (a0 a1 : Option MV) (st : List MV) (μ : MM) (G : MG) : ev 229 79 [a0, a1] st μ G = ev 229 80 [a0, a1] (vI (1) :: st) μ G := ev_stp pg_229_79 rfl
theorem pg_229_80 : mm_prog 229 80 = some (0, .if_icmp .ne 12, 83, []) := by decide +kernel
theorem xe_229_80 (a0 a1 : Option MV) (x y : Int) (st : List MV) (μ : MM) (G : MG) : ev 229 80 [a0, a1] (vI y :: vI x :: st) μ G = if ¬ x = y then ev 229 92 [a0, a1] st μ G else ev 229 83 [a0, a1] st μ G := ev_br (mm_cnd_ne x y) pg_229_80 rfl
theorem pg_229_83 : mm_prog 229 83 = some (0, .aload_n 0, 84, []) := by decide +kernel
theorem xe_229_83 (a1 : Option MV) (x : Int) (st : List MV) (μ : MM) (G : MG) : ev 229 83 [some (vR x), a1] st μ G = ev 229 84 [some (vR x), a1] (vR x :: st) μ G := ev_stp pg_229_83 rfl
theorem pg_229_84 : mm_prog 229 84 = some (0, .getfield 75, 87, [11, 35, 2]) := by decide +kernel
theorem xe_229_84 (a0 a1 : Option MV) (x : Int) (st : List MV) (μ : MM) (G : MG) : ev 229 84 [a0, a1] (vR x :: st) μ G = if gk G x = 11 then ev 229 87 [a0, a1] (vR (μ x 35) :: st) μ G else none := ev_if pg_229_84 rfl
theorem pg_229_87 : mm_prog 229 87 = some (0, .iconst 3, 88, []) := by decide +kernel
theorem xe_229_87 (a0 a1 : Option MV) (st : List MV) (μ : MM) (G : MG) : ev 229 87 [a0, a1] st μ G = ev 229 88 [a0, a1] (vI (3) :: st) μ G := ev_stp pg_229_87 rfl
theorem pg_229_88 : mm_prog 229 88 = some (0, .iaload, 89, []) := by decide +kernel
theorem xe_229_88 (a0 a1 : Option MV) (x y : Int) (st : List MV) (μ : MM) (G : MG) : ev 229 88 [a0, a1] (vI x :: vR y :: st) μ G = if gk G y = 100 ∧ 0 ≤ x ∧ x < gl G y then ev 229 89 [a0, a1] (vI (μ y x) :: st) μ G else none := ev_if pg_229_88 rfl
theorem pg_229_89 : mm_prog 229 89 = some (0, .goto 23, 92, []) := by decide +kernel
theorem xe_229_89 (a0 a1 : Option MV) (st : List MV) (μ : MM) (G : MG) : ev 229 89 [a0, a1] st μ G = ev 229 112 [a0, a1] st μ G := ev_stp pg_229_89 rfl
theorem pg_229_92 : mm_prog 229 92 = some (0, .aload_n 0, 93, []) := by decide +kernel
theorem xe_229_92 (a1 : Option MV) (x : Int) (st : List MV) (μ : MM) (G : MG) : ev 229 92 [some (vR x), a1] st μ G = ev 229 93 [some (vR x), a1] (vR x :: st) μ G := ev_stp pg_229_92 rfl
theorem pg_229_93 : mm_prog 229 93 = some (0, .getfield 75, 96, [11, 35, 2]) := by decide +kernel
theorem xe_229_93 (a0 a1 : Option MV) (x : Int) (st : List MV) (μ : MM) (G : MG) : ev 229 93 [a0, a1] (vR x :: st) μ G = if gk G x = 11 then ev 229 96 [a0, a1] (vR (μ x 35) :: st) μ G else none := ev_if pg_229_93 rfl
theorem pg_229_96 : mm_prog 229 96 = some (0, .iconst 0, 97, []) := by decide +kernel
theorem xe_229_96 (a0 a1 : Option MV) (st : List MV) (μ : MM) (G : MG) : ev 229 96 [a0, a1] st μ G = ev 229 97 [a0, a1] (vI (0) :: st) μ G := ev_stp pg_229_96 rfl
theorem pg_229_97 : mm_prog 229 97 = some (0, .iaload, 98, []) := by decide +kernel
theorem xe_229_97 (a0 a1 : Option MV) (x y : Int) (st : List MV) (μ : MM) (G : MG) : ev 229 97 [a0, a1] (vI x :: vR y :: st) μ G = if gk G y = 100 ∧ 0 ≤ x ∧ x < gl G y then ev 229 98 [a0, a1] (vI (μ y x) :: st) μ G else none := ev_if pg_229_97 rfl
theorem pg_229_98 : mm_prog 229 98 = some (0, .iconst 2, 99, []) := by decide +kernel
theorem xe_229_98 (a0 a1 : Option MV) (st : List MV) (μ : MM) (G : MG) : ev 229 98 [a0, a1] st μ G = ev 229 99 [a0, a1] (vI (2) :: st) μ G := ev_stp pg_229_98 rfl
theorem pg_229_99 : mm_prog 229 99 = some (0, .if_icmp .ne 12, 102, []) := by decide +kernel
theorem xe_229_99 (a0 a1 : Option MV) (x y : Int) (st : List MV) (μ : MM) (G : MG) : ev 229 99 [a0, a1] (vI y :: vI x :: st) μ G = if ¬ x = y then ev 229 111 [a0, a1] st μ G else ev 229 102 [a0, a1] st μ G := ev_br (mm_cnd_ne x y) pg_229_99 rfl
theorem pg_229_102 : mm_prog 229 102 = some (0, .aload_n 0, 103, []) := by decide +kernel
theorem xe_229_102 (a1 : Option MV) (x : Int) (st : List MV) (μ : MM) (G : MG) : ev 229 102 [some (vR x), a1] st μ G = ev 229 103 [some (vR x), a1] (vR x :: st) μ G := ev_stp pg_229_102 rfl
theorem pg_229_103 : mm_prog 229 103 = some (0, .getfield 75, 106, [11, 35, 2]) := by decide +kernel
theorem xe_229_103 (a0 a1 : Option MV) (x : Int) (st : List MV) (μ : MM) (G : MG) : ev 229 103 [a0, a1] (vR x :: st) μ G = if gk G x = 11 then ev 229 106 [a0, a1] (vR (μ x 35) :: st) μ G else none := ev_if pg_229_103 rfl
theorem pg_229_106 : mm_prog 229 106 = some (0, .iconst 5, 107, []) := by decide +kernel
theorem xe_229_106 (a0 a1 : Option MV) (st : List MV) (μ : MM) (G : MG) : ev 229 106 [a0, a1] st μ G = ev 229 107 [a0, a1] (vI (5) :: st) μ G := ev_stp pg_229_106 rfl
theorem pg_229_107 : mm_prog 229 107 = some (0, .iaload, 108, []) := by decide +kernel
theorem xe_229_107 (a0 a1 : Option MV) (x y : Int) (st : List MV) (μ : MM) (G : MG) : ev 229 107 [a0, a1] (vI x :: vR y :: st) μ G = if gk G y = 100 ∧ 0 ≤ x ∧ x < gl G y then ev 229 108 [a0, a1] (vI (μ y x) :: st) μ G else none := ev_if pg_229_107 rfl
theorem pg_229_108 : mm_prog 229 108 = some (0, .goto 4, 111, []) := by decide +kernel
theorem xe_229_108 (a0 a1 : Option MV) (st : List MV) (μ : MM) (G : MG) : ev 229 108 [a0, a1] st μ G = ev 229 112 [a0, a1] st μ G := ev_stp pg_229_108 rfl
theorem pg_229_111 : mm_prog 229 111 = some (0, .iconst 0, 112, []) := by decide +kernel
theorem xe_229_111 (a0 a1 : Option MV) (st : List MV) (μ : MM) (G : MG) : ev 229 111 [a0, a1] st μ G = ev 229 112 [a0, a1] (vI (0) :: st) μ G := ev_stp pg_229_111 rfl
theorem pg_229_112 : mm_prog 229 112 = some (2, .ireturn, 113, [0]) := by decide +kernel
theorem xe_229_112 (a0 a1 : Option MV) (x : Int) (μ : MM) (G : MG) : ev 229 112 [a0, a1] [vI x] μ G = some (some (vI x), μ, G) := ev_ret pg_229_112 rfl
theorem pg_229_113 : mm_prog 229 113 = some (0, .aload_n 0, 114, []) := by decide +kernel
theorem xe_229_113 (a1 : Option MV) (x : Int) (st : List MV) (μ : MM) (G : MG) : ev 229 113 [some (vR x), a1] st μ G = ev 229 114 [some (vR x), a1] (vR x :: st) μ G := ev_stp pg_229_113 rfl
theorem pg_229_114 : mm_prog 229 114 = some (0, .getfield 75, 117, [11, 35, 2]) := by decide +kernel
theorem xe_229_114 (a0 a1 : Option MV) (x : Int) (st : List MV) (μ : MM) (G : MG) : ev 229 114 [a0, a1] (vR x :: st) μ G = if gk G x = 11 then ev 229 117 [a0, a1] (vR (μ x 35) :: st) μ G else none := ev_if pg_229_114 rfl
theorem pg_229_117 : mm_prog 229 117 = some (0, .bipush 6, 119, []) := by decide +kernel
theorem xe_229_117 (a0 a1 : Option MV) (st : List MV) (μ : MM) (G : MG) : ev 229 117 [a0, a1] st μ G = ev 229 119 [a0, a1] (vI (6) :: st) μ G := ev_stp pg_229_117 rfl
theorem pg_229_119 : mm_prog 229 119 = some (0, .iaload, 120, []) := by decide +kernel
theorem xe_229_119 (a0 a1 : Option MV) (x y : Int) (st : List MV) (μ : MM) (G : MG) : ev 229 119 [a0, a1] (vI x :: vR y :: st) μ G = if gk G y = 100 ∧ 0 ≤ x ∧ x < gl G y then ev 229 120 [a0, a1] (vI (μ y x) :: st) μ G else none := ev_if pg_229_119 rfl
theorem pg_229_120 : mm_prog 229 120 = some (2, .ireturn, 121, [0]) := by decide +kernel
theorem xe_229_120 (a0 a1 : Option MV) (x : Int) (μ : MM) (G : MG) : ev 229 120 [a0, a1] [vI x] μ G = some (some (vI x), μ, G) := ev_ret pg_229_120 rfl
theorem pg_229_121 : mm_prog 229 121 = some (0, .aload_n 0, 122, []) := by decide +kernel
theorem xe_229_121 (a1 : Option MV) (x : Int) (st : List MV) (μ : MM) (G : MG) : ev 229 121 [some (vR x), a1] st μ G = ev 229 122 [some (vR x), a1] (vR x :: st) μ G := ev_stp pg_229_121 rfl
theorem pg_229_122 : mm_prog 229 122 = some (0, .getfield 75, 125, [11, 35, 2]) := by decide +kernel
theorem xe_229_122 (a0 a1 : Option MV) (x : Int) (st : List MV) (μ : MM) (G : MG) : ev 229 122 [a0, a1] (vR x :: st) μ G = if gk G x = 11 then ev 229 125 [a0, a1] (vR (μ x 35) :: st) μ G else none := ev_if pg_229_122 rfl
theorem pg_229_125 : mm_prog 229 125 = some (0, .bipush 7, 127, []) := by decide +kernel
theorem xe_229_125 (a0 a1 : Option MV) (st : List MV) (μ : MM) (G : MG) : ev 229 125 [a0, a1] st μ G = ev 229 127 [a0, a1] (vI (7) :: st) μ G := ev_stp pg_229_125 rfl
theorem pg_229_127 : mm_prog 229 127 = some (0, .iaload, 128, []) := by decide +kernel
theorem xe_229_127 (a0 a1 : Option MV) (x y : Int) (st : List MV) (μ : MM) (G : MG) : ev 229 127 [a0, a1] (vI x :: vR y :: st) μ G = if gk G y = 100 ∧ 0 ≤ x ∧ x < gl G y then ev 229 128 [a0, a1] (vI (μ y x) :: st) μ G else none := ev_if pg_229_127 rfl
theorem pg_229_128 : mm_prog 229 128 = some (2, .ireturn, 129, [0]) := by decide +kernel
theorem xe_229_128 (a0 a1 : Option MV) (x : Int) (μ : MM) (G : MG) : ev 229 128 [a0, a1] [vI x] μ G = some (some (vI x), μ, G) := ev_ret pg_229_128 rfl
theorem pg_229_129 : mm_prog 229 129 = some (0, .aload_n 0, 130, []) := by decide +kernel
theorem xe_229_129 (a1 : Option MV) (x : Int) (st : List MV) (μ : MM) (G : MG) : ev 229 129 [some (vR x), a1] st μ G = ev 229 130 [some (vR x), a1] (vR x :: st) μ G := ev_stp pg_229_129 rfl
theorem pg_229_130 : mm_prog 229 130 = some (0, .bipush 8, 132, []) := by decide +kernel
theorem xe_229_130 (a0 a1 : Option MV) (st : List MV) (μ : MM) (G : MG) : ev 229 130 [a0, a1] st μ G = ev 229 132 [a0, a1] (vI (8) :: st) μ G := ev_stp pg_229_130 rfl
theorem pg_229_132 : mm_prog 229 132 = some (1, .invokevirtual 391, 135, [1, 228, 1, 11]) := by decide +kernel
theorem xe_229_132 (a0 a1 : Option MV) (x0 z : Int) (μ : MM) (G : MG) : ev 229 132 [a0, a1] (vI x0 :: vR z :: []) μ G = if gk G z = 11 ∧ 0 < z then (ev 228 0 [some (vR z), some (vI x0), none, none] [] μ G).bind (fun q => ev 229 135 [a0, a1] (q.1.toList ++ []) q.2.1 q.2.2) else none := ev_calV (as := [vR z, vI x0]) (r := []) mx_228 pg_229_132 rfl rfl (Nat.le_of_ble_eq_true rfl) (Nat.le_of_ble_eq_true rfl)
theorem pg_229_135 : mm_prog 229 135 = some (2, .ireturn, 136, [0]) := by decide +kernel
theorem xe_229_135 (a0 a1 : Option MV) (x : Int) (μ : MM) (G : MG) : ev 229 135 [a0, a1] [vI x] μ G = some (some (vI x), μ, G) := ev_ret pg_229_135 rfl
theorem pg_229_136 : mm_prog 229 136 = some (0, .aload_n 0, 137, []) := by decide +kernel
theorem xe_229_136 (a1 : Option MV) (x : Int) (st : List MV) (μ : MM) (G : MG) : ev 229 136 [some (vR x), a1] st μ G = ev 229 137 [some (vR x), a1] (vR x :: st) μ G := ev_stp pg_229_136 rfl
theorem pg_229_137 : mm_prog 229 137 = some (0, .bipush 12, 139, []) := by decide +kernel
theorem xe_229_137 (a0 a1 : Option MV) (st : List MV) (μ : MM) (G : MG) : ev 229 137 [a0, a1] st μ G = ev 229 139 [a0, a1] (vI (12) :: st) μ G := ev_stp pg_229_137 rfl
theorem pg_229_139 : mm_prog 229 139 = some (1, .invokevirtual 391, 142, [1, 228, 1, 11]) := by decide +kernel
theorem xe_229_139 (a0 a1 : Option MV) (x0 z : Int) (μ : MM) (G : MG) : ev 229 139 [a0, a1] (vI x0 :: vR z :: []) μ G = if gk G z = 11 ∧ 0 < z then (ev 228 0 [some (vR z), some (vI x0), none, none] [] μ G).bind (fun q => ev 229 142 [a0, a1] (q.1.toList ++ []) q.2.1 q.2.2) else none := ev_calV (as := [vR z, vI x0]) (r := []) mx_228 pg_229_139 rfl rfl (Nat.le_of_ble_eq_true rfl) (Nat.le_of_ble_eq_true rfl)
theorem pg_229_142 : mm_prog 229 142 = some (2, .ireturn, 143, [0]) := by decide +kernel
theorem xe_229_142 (a0 a1 : Option MV) (x : Int) (μ : MM) (G : MG) : ev 229 142 [a0, a1] [vI x] μ G = some (some (vI x), μ, G) := ev_ret pg_229_142 rfl
theorem pg_229_143 : mm_prog 229 143 = some (0, .bipush (-2), 145, []) := by decide +kernel
theorem xe_229_143 (a0 a1 : Option MV) (st : List MV) (μ : MM) (G : MG) : ev 229 143 [a0, a1] st μ G = ev 229 145 [a0, a1] (vI (-2) :: st) μ G := ev_stp pg_229_143 rfl
theorem pg_229_145 : mm_prog 229 145 = some (2, .ireturn, 146, [0]) := by decide +kernel
theorem xe_229_145 (a0 a1 : Option MV) (x : Int) (μ : MM) (G : MG) : ev 229 145 [a0, a1] [vI x] μ G = some (some (vI x), μ, G) := ev_ret pg_229_145 rfl
-- X11_level
theorem pg_230_0 : mm_prog 230 0 = some (0, .aload_n 0, 1, []) := by decide +kernel
theorem xe_230_0 (a1 a2 : Option MV) (x : Int) (st : List MV) (μ : MM) (G : MG) : ev 230 0 [some (vR x), a1, a2] st μ G = ev 230 1 [some (vR x), a1, a2] (vR x :: st) μ G := ev_stp pg_230_0 rfl
theorem pg_230_1 : mm_prog 230 1 = some (0, .iconst 0, 2, []) := by decide +kernel
theorem xe_230_1 (a0 a1 a2 : Option MV) (st : List MV) (μ : MM) (G : MG) : ev 230 1 [a0, a1, a2] st μ G = ev 230 2 [a0, a1, a2] (vI (0) :: st) μ G := ev_stp pg_230_1 rfl
theorem pg_230_2 : mm_prog 230 2 = some (0, .putfield 1, 5, [11, 0, 0]) := by decide +kernel
theorem xe_230_2 (a0 a1 a2 : Option MV) (x y : Int) (st : List MV) (μ : MM) (G : MG) : ev 230 2 [a0, a1, a2] (vI x :: vR y :: st) μ G = if gk G y = 11 then ev 230 5 [a0, a1, a2] st (mset μ y 0 x) G else none := ev_put0 pg_230_2
theorem pg_230_5 : mm_prog 230 5 = some (0, .iload_n 1, 6, []) := by decide +kernel
theorem xe_230_5 (a0 a2 : Option MV) (x : Int) (st : List MV) (μ : MM) (G : MG) : ev 230 5 [a0, some (vI x), a2] st μ G = ev 230 6 [a0, some (vI x), a2] (vI x :: st) μ G := ev_stp pg_230_5 rfl
theorem pg_230_6 : mm_prog 230 6 = some (1, .invokestatic 342, 9, [0, 211, 1, 0]) := by decide +kernel
theorem xe_230_6 (a0 a1 a2 : Option MV) (x0 : Int) (μ : MM) (G : MG) : ev 230 6 [a0, a1, a2] (vI x0 :: []) μ G = (ev 211 0 [some (vI x0)] [] μ G).bind (fun q => ev 230 9 [a0, a1, a2] (q.1.toList ++ []) q.2.1 q.2.2) := ev_calS (as := [vI x0]) (r := []) mx_211 pg_230_6 rfl rfl (Nat.le_of_ble_eq_true rfl) (Nat.le_of_ble_eq_true rfl)
theorem pg_230_9 : mm_prog 230 9 = some (0, .ifCond .ne 6, 12, []) := by decide +kernel
theorem xe_230_9 (a0 a1 a2 : Option MV) (x : Int) (st : List MV) (μ : MM) (G : MG) : ev 230 9 [a0, a1, a2] (vI x :: st) μ G = if ¬ x = 0 then ev 230 15 [a0, a1, a2] st μ G else ev 230 12 [a0, a1, a2] st μ G := ev_br (mm_cnd_ne x 0) pg_230_9 rfl
theorem pg_230_12 : mm_prog 230 12 = some (0, .bipush (-2), 14, []) := by decide +kernel
theorem xe_230_12 (a0 a1 a2 : Option MV) (st : List MV) (μ : MM) (G : MG) : ev 230 12 [a0, a1, a2] st μ G = ev 230 14 [a0, a1, a2] (vI (-2) :: st) μ G := ev_stp pg_230_12 rfl
theorem pg_230_14 : mm_prog 230 14 = some (2, .ireturn, 15, [0]) := by decide +kernel
theorem xe_230_14 (a0 a1 a2 : Option MV) (x : Int) (μ : MM) (G : MG) : ev 230 14 [a0, a1, a2] [vI x] μ G = some (some (vI x), μ, G) := ev_ret pg_230_14 rfl
theorem pg_230_15 : mm_prog 230 15 = some (0, .iload_n 2, 16, []) := by decide +kernel
theorem xe_230_15 (a0 a1 : Option MV) (x : Int) (st : List MV) (μ : MM) (G : MG) : ev 230 15 [a0, a1, some (vI x)] st μ G = ev 230 16 [a0, a1, some (vI x)] (vI x :: st) μ G := ev_stp pg_230_15 rfl
theorem pg_230_16 : mm_prog 230 16 = some (0, .tableswitch 94 0 5 #[40, 47, 54, 64, 74, 84], 56, [110, 0, 56, 1, 63, 2, 70, 3, 80, 4, 90, 5, 100]) := by decide +kernel
theorem xe_230_16 (a0 a1 a2 : Option MV) (x : Int) (st : List MV) (μ : MM) (G : MG) : ev 230 16 [a0, a1, a2] (vI x :: st) μ G = if x = 0 then ev 230 56 [a0, a1, a2] st μ G else if x = 1 then ev 230 63 [a0, a1, a2] st μ G else if x = 2 then ev 230 70 [a0, a1, a2] st μ G else if x = 3 then ev 230 80 [a0, a1, a2] st μ G else if x = 4 then ev 230 90 [a0, a1, a2] st μ G else if x = 5 then ev 230 100 [a0, a1, a2] st μ G else ev 230 110 [a0, a1, a2] st μ G := ev_sw (x := x) (d := 110) (l := [0, 56, 1, 63, 2, 70, 3, 80, 4, 90, 5, 100]) (st' := st) pg_230_16 rfl
theorem pg_230_56 : mm_prog 230 56 = some (0, .aload_n 0, 57, []) := by decide +kernel
theorem xe_230_56 (a1 a2 : Option MV) (x : Int) (st : List MV) (μ : MM) (G : MG) : ev 230 56 [some (vR x), a1, a2] st μ G = ev 230 57 [some (vR x), a1, a2] (vR x :: st) μ G := ev_stp pg_230_56 rfl
theorem pg_230_57 : mm_prog 230 57 = some (0, .getfield 81, 60, [11, 37, 2]) := by decide +kernel
theorem xe_230_57 (a0 a1 a2 : Option MV) (x : Int) (st : List MV) (μ : MM) (G : MG) : ev 230 57 [a0, a1, a2] (vR x :: st) μ G = if gk G x = 11 then ev 230 60 [a0, a1, a2] (vR (μ x 37) :: st) μ G else none := ev_if pg_230_57 rfl
theorem pg_230_60 : mm_prog 230 60 = some (0, .iload_n 1, 61, []) := by decide +kernel
theorem xe_230_60 (a0 a2 : Option MV) (x : Int) (st : List MV) (μ : MM) (G : MG) : ev 230 60 [a0, some (vI x), a2] st μ G = ev 230 61 [a0, some (vI x), a2] (vI x :: st) μ G := ev_stp pg_230_60 rfl
theorem pg_230_61 : mm_prog 230 61 = some (0, .iaload, 62, []) := by decide +kernel
theorem xe_230_61 (a0 a1 a2 : Option MV) (x y : Int) (st : List MV) (μ : MM) (G : MG) : ev 230 61 [a0, a1, a2] (vI x :: vR y :: st) μ G = if gk G y = 100 ∧ 0 ≤ x ∧ x < gl G y then ev 230 62 [a0, a1, a2] (vI (μ y x) :: st) μ G else none := ev_if pg_230_61 rfl
theorem pg_230_62 : mm_prog 230 62 = some (2, .ireturn, 63, [0]) := by decide +kernel
theorem xe_230_62 (a0 a1 a2 : Option MV) (x : Int) (μ : MM) (G : MG) : ev 230 62 [a0, a1, a2] [vI x] μ G = some (some (vI x), μ, G) := ev_ret pg_230_62 rfl
theorem pg_230_63 : mm_prog 230 63 = some (0, .aload_n 0, 64, []) := by decide +kernel
theorem xe_230_63 (a1 a2 : Option MV) (x : Int) (st : List MV) (μ : MM) (G : MG) : ev 230 63 [some (vR x), a1, a2] st μ G = ev 230 64 [some (vR x), a1, a2] (vR x :: st) μ G := ev_stp pg_230_63 rfl
theorem pg_230_64 : mm_prog 230 64 = some (0, .getfield 84, 67, [11, 38, 2]) := by decide +kernel
theorem xe_230_64 (a0 a1 a2 : Option MV) (x : Int) (st : List MV) (μ : MM) (G : MG) : ev 230 64 [a0, a1, a2] (vR x :: st) μ G = if gk G x = 11 then ev 230 67 [a0, a1, a2] (vR (μ x 38) :: st) μ G else none := ev_if pg_230_64 rfl
theorem pg_230_67 : mm_prog 230 67 = some (0, .iload_n 1, 68, []) := by decide +kernel
theorem xe_230_67 (a0 a2 : Option MV) (x : Int) (st : List MV) (μ : MM) (G : MG) : ev 230 67 [a0, some (vI x), a2] st μ G = ev 230 68 [a0, some (vI x), a2] (vI x :: st) μ G := ev_stp pg_230_67 rfl
theorem pg_230_68 : mm_prog 230 68 = some (0, .iaload, 69, []) := by decide +kernel
theorem xe_230_68 (a0 a1 a2 : Option MV) (x y : Int) (st : List MV) (μ : MM) (G : MG) : ev 230 68 [a0, a1, a2] (vI x :: vR y :: st) μ G = if gk G y = 100 ∧ 0 ≤ x ∧ x < gl G y then ev 230 69 [a0, a1, a2] (vI (μ y x) :: st) μ G else none := ev_if pg_230_68 rfl
theorem pg_230_69 : mm_prog 230 69 = some (2, .ireturn, 70, [0]) := by decide +kernel
theorem xe_230_69 (a0 a1 a2 : Option MV) (x : Int) (μ : MM) (G : MG) : ev 230 69 [a0, a1, a2] [vI x] μ G = some (some (vI x), μ, G) := ev_ret pg_230_69 rfl
theorem pg_230_70 : mm_prog 230 70 = some (0, .aload_n 0, 71, []) := by decide +kernel
theorem xe_230_70 (a1 a2 : Option MV) (x : Int) (st : List MV) (μ : MM) (G : MG) : ev 230 70 [some (vR x), a1, a2] st μ G = ev 230 71 [some (vR x), a1, a2] (vR x :: st) μ G := ev_stp pg_230_70 rfl
theorem pg_230_71 : mm_prog 230 71 = some (0, .getfield 75, 74, [11, 35, 2]) := by decide +kernel
theorem xe_230_71 (a0 a1 a2 : Option MV) (x : Int) (st : List MV) (μ : MM) (G : MG) : ev 230 71 [a0, a1, a2] (vR x :: st) μ G = if gk G x = 11 then ev 230 74 [a0, a1, a2] (vR (μ x 35) :: st) μ G else none := ev_if pg_230_71 rfl
theorem pg_230_74 : mm_prog 230 74 = some (0, .bipush 8, 76, []) := by decide +kernel
theorem xe_230_74 (a0 a1 a2 : Option MV) (st : List MV) (μ : MM) (G : MG) : ev 230 74 [a0, a1, a2] st μ G = ev 230 76 [a0, a1, a2] (vI (8) :: st) μ G := ev_stp pg_230_74 rfl
theorem pg_230_76 : mm_prog 230 76 = some (0, .iload_n 1, 77, []) := by decide +kernel
theorem xe_230_76 (a0 a2 : Option MV) (x : Int) (st : List MV) (μ : MM) (G : MG) : ev 230 76 [a0, some (vI x), a2] st μ G = ev 230 77 [a0, some (vI x), a2] (vI x :: st) μ G := ev_stp pg_230_76 rfl
theorem pg_230_77 : mm_prog 230 77 = some (0, .iadd, 78, []) := by decide +kernel
theorem xe_230_77 (a0 a1 a2 : Option MV) (x y : Int) (st : List MV) (μ : MM) (G : MG) : ev 230 77 [a0, a1, a2] (vI y :: vI x :: st) μ G = ev 230 78 [a0, a1, a2] (vI (w32 (x + y)) :: st) μ G := ev_stp pg_230_77 rfl
theorem pg_230_78 : mm_prog 230 78 = some (0, .iaload, 79, []) := by decide +kernel
theorem xe_230_78 (a0 a1 a2 : Option MV) (x y : Int) (st : List MV) (μ : MM) (G : MG) : ev 230 78 [a0, a1, a2] (vI x :: vR y :: st) μ G = if gk G y = 100 ∧ 0 ≤ x ∧ x < gl G y then ev 230 79 [a0, a1, a2] (vI (μ y x) :: st) μ G else none := ev_if pg_230_78 rfl
theorem pg_230_79 : mm_prog 230 79 = some (2, .ireturn, 80, [0]) := by decide +kernel
theorem xe_230_79 (a0 a1 a2 : Option MV) (x : Int) (μ : MM) (G : MG) : ev 230 79 [a0, a1, a2] [vI x] μ G = some (some (vI x), μ, G) := ev_ret pg_230_79 rfl
theorem pg_230_80 : mm_prog 230 80 = some (0, .aload_n 0, 81, []) := by decide +kernel
theorem xe_230_80 (a1 a2 : Option MV) (x : Int) (st : List MV) (μ : MM) (G : MG) : ev 230 80 [some (vR x), a1, a2] st μ G = ev 230 81 [some (vR x), a1, a2] (vR x :: st) μ G := ev_stp pg_230_80 rfl
theorem pg_230_81 : mm_prog 230 81 = some (0, .getfield 75, 84, [11, 35, 2]) := by decide +kernel
theorem xe_230_81 (a0 a1 a2 : Option MV) (x : Int) (st : List MV) (μ : MM) (G : MG) : ev 230 81 [a0, a1, a2] (vR x :: st) μ G = if gk G x = 11 then ev 230 84 [a0, a1, a2] (vR (μ x 35) :: st) μ G else none := ev_if pg_230_81 rfl
theorem pg_230_84 : mm_prog 230 84 = some (0, .bipush 12, 86, []) := by decide +kernel
theorem xe_230_84 (a0 a1 a2 : Option MV) (st : List MV) (μ : MM) (G : MG) : ev 230 84 [a0, a1, a2] st μ G = ev 230 86 [a0, a1, a2] (vI (12) :: st) μ G := ev_stp pg_230_84 rfl
theorem pg_230_86 : mm_prog 230 86 = some (0, .iload_n 1, 87, []) := by decide +kernel
theorem xe_230_86 (a0 a2 : Option MV) (x : Int) (st : List MV) (μ : MM) (G : MG) : ev 230 86 [a0, some (vI x), a2] st μ G = ev 230 87 [a0, some (vI x), a2] (vI x :: st) μ G := ev_stp pg_230_86 rfl
theorem pg_230_87 : mm_prog 230 87 = some (0, .iadd, 88, []) := by decide +kernel
theorem xe_230_87 (a0 a1 a2 : Option MV) (x y : Int) (st : List MV) (μ : MM) (G : MG) : ev 230 87 [a0, a1, a2] (vI y :: vI x :: st) μ G = ev 230 88 [a0, a1, a2] (vI (w32 (x + y)) :: st) μ G := ev_stp pg_230_87 rfl
theorem pg_230_88 : mm_prog 230 88 = some (0, .iaload, 89, []) := by decide +kernel
theorem xe_230_88 (a0 a1 a2 : Option MV) (x y : Int) (st : List MV) (μ : MM) (G : MG) : ev 230 88 [a0, a1, a2] (vI x :: vR y :: st) μ G = if gk G y = 100 ∧ 0 ≤ x ∧ x < gl G y then ev 230 89 [a0, a1, a2] (vI (μ y x) :: st) μ G else none := ev_if pg_230_88 rfl
theorem pg_230_89 : mm_prog 230 89 = some (2, .ireturn, 90, [0]) := by decide +kernel
theorem xe_230_89 (a0 a1 a2 : Option MV) (x : Int) (μ : MM) (G : MG) : ev 230 89 [a0, a1, a2] [vI x] μ G = some (some (vI x), μ, G) := ev_ret pg_230_89 rfl
theorem pg_230_90 : mm_prog 230 90 = some (0, .aload_n 0, 91, []) := by decide +kernel
theorem xe_230_90 (a1 a2 : Option MV) (x : Int) (st : List MV) (μ : MM) (G : MG) : ev 230 90 [some (vR x), a1, a2] st μ G = ev 230 91 [some (vR x), a1, a2] (vR x :: st) μ G := ev_stp pg_230_90 rfl
theorem pg_230_91 : mm_prog 230 91 = some (0, .getfield 75, 94, [11, 35, 2]) := by decide +kernel
theorem xe_230_91 (a0 a1 a2 : Option MV) (x : Int) (st : List MV) (μ : MM) (G : MG) : ev 230 91 [a0, a1, a2] (vR x :: st) μ G = if gk G x = 11 then ev 230 94 [a0, a1, a2] (vR (μ x 35) :: st) μ G else none := ev_if pg_230_91 rfl
theorem pg_230_94 : mm_prog 230 94 = some (0, .bipush 16, 96, []) := by decide +kernel
theorem xe_230_94 (a0 a1 a2 : Option MV) (st : List MV) (μ : MM) (G : MG) : ev 230 94 [a0, a1, a2] st μ G = ev 230 96 [a0, a1, a2] (vI (16) :: st) μ G := ev_stp pg_230_94 rfl
theorem pg_230_96 : mm_prog 230 96 = some (0, .iload_n 1, 97, []) := by decide +kernel
theorem xe_230_96 (a0 a2 : Option MV) (x : Int) (st : List MV) (μ : MM) (G : MG) : ev 230 96 [a0, some (vI x), a2] st μ G = ev 230 97 [a0, some (vI x), a2] (vI x :: st) μ G := ev_stp pg_230_96 rfl
theorem pg_230_97 : mm_prog 230 97 = some (0, .iadd, 98, []) := by decide +kernel
theorem xe_230_97 (a0 a1 a2 : Option MV) (x y : Int) (st : List MV) (μ : MM) (G : MG) : ev 230 97 [a0, a1, a2] (vI y :: vI x :: st) μ G = ev 230 98 [a0, a1, a2] (vI (w32 (x + y)) :: st) μ G := ev_stp pg_230_97 rfl
theorem pg_230_98 : mm_prog 230 98 = some (0, .iaload, 99, []) := by decide +kernel
theorem xe_230_98 (a0 a1 a2 : Option MV) (x y : Int) (st : List MV) (μ : MM) (G : MG) : ev 230 98 [a0, a1, a2] (vI x :: vR y :: st) μ G = if gk G y = 100 ∧ 0 ≤ x ∧ x < gl G y then ev 230 99 [a0, a1, a2] (vI (μ y x) :: st) μ G else none := ev_if pg_230_98 rfl
theorem pg_230_99 : mm_prog 230 99 = some (2, .ireturn, 100, [0]) := by decide +kernel
theorem xe_230_99 (a0 a1 a2 : Option MV) (x : Int) (μ : MM) (G : MG) : ev 230 99 [a0, a1, a2] [vI x] μ G = some (some (vI x), μ, G) := ev_ret pg_230_99 rfl
theorem pg_230_100 : mm_prog 230 100 = some (0, .aload_n 0, 101, []) := by decide +kernel
theorem xe_230_100 (a1 a2 : Option MV) (x : Int) (st : List MV) (μ : MM) (G : MG) : ev 230 100 [some (vR x), a1, a2] st μ G = ev 230 101 [some (vR x), a1, a2] (vR x :: st) μ G := ev_stp pg_230_100 rfl
theorem pg_230_101 : mm_prog 230 101 = some (0, .getfield 75, 104, [11, 35, 2]) := by decide +kernel
theorem xe_230_101 (a0 a1 a2 : Option MV) (x : Int) (st : List MV) (μ : MM) (G : MG) : ev 230 101 [a0, a1, a2] (vR x :: st) μ G = if gk G x = 11 then ev 230 104 [a0, a1, a2] (vR (μ x 35) :: st) μ G else none := ev_if pg_230_101 rfl
theorem pg_230_104 : mm_prog 230 104 = some (0, .bipush 20, 106, []) := by decide +kernel
theorem xe_230_104 (a0 a1 a2 : Option MV) (st : List MV) (μ : MM) (G : MG) : ev 230 104 [a0, a1, a2] st μ G = ev 230 106 [a0, a1, a2] (vI (20) :: st) μ G := ev_stp pg_230_104 rfl
theorem pg_230_106 : mm_prog 230 106 = some (0, .iload_n 1, 107, []) := by decide +kernel
theorem xe_230_106 (a0 a2 : Option MV) (x : Int) (st : List MV) (μ : MM) (G : MG) : ev 230 106 [a0, some (vI x), a2] st μ G = ev 230 107 [a0, some (vI x), a2] (vI x :: st) μ G := ev_stp pg_230_106 rfl
theorem pg_230_107 : mm_prog 230 107 = some (0, .iadd, 108, []) := by decide +kernel
theorem xe_230_107 (a0 a1 a2 : Option MV) (x y : Int) (st : List MV) (μ : MM) (G : MG) : ev 230 107 [a0, a1, a2] (vI y :: vI x :: st) μ G = ev 230 108 [a0, a1, a2] (vI (w32 (x + y)) :: st) μ G := ev_stp pg_230_107 rfl
theorem pg_230_108 : mm_prog 230 108 = some (0, .iaload, 109, []) := by decide +kernel
theorem xe_230_108 (a0 a1 a2 : Option MV) (x y : Int) (st : List MV) (μ : MM) (G : MG) : ev 230 108 [a0, a1, a2] (vI x :: vR y :: st) μ G = if gk G y = 100 ∧ 0 ≤ x ∧ x < gl G y then ev 230 109 [a0, a1, a2] (vI (μ y x) :: st) μ G else none := ev_if pg_230_108 rfl
theorem pg_230_109 : mm_prog 230 109 = some (2, .ireturn, 110, [0]) := by decide +kernel
theorem xe_230_109 (a0 a1 a2 : Option MV) (x : Int) (μ : MM) (G : MG) : ev 230 109 [a0, a1, a2] [vI x] μ G = some (some (vI x), μ, G) := ev_ret pg_230_109 rfl
theorem pg_230_110 : mm_prog 230 110 = some (0, .bipush (-2), 112, []) := by decide +kernel
theorem xe_230_110 (a0 a1 a2 : Option MV) (st : List MV) (μ : MM) (G : MG) : ev 230 110 [a0, a1, a2] st μ G = ev 230 112 [a0, a1, a2] (vI (-2) :: st) μ G := ev_stp pg_230_110 rfl
theorem pg_230_112 : mm_prog 230 112 = some (2, .ireturn, 113, [0]) := by decide +kernel
theorem xe_230_112 (a0 a1 a2 : Option MV) (x : Int) (μ : MM) (G : MG) : ev 230 112 [a0, a1, a2] [vI x] μ G = some (some (vI x), μ, G) := ev_ret pg_230_112 rfl
-- X11_fall
theorem pg_231_0 : mm_prog 231 0 = some (0, .aload_n 0, 1, []) := by decide +kernel
theorem xe_231_0 (a1 a2 : Option MV) (x : Int) (st : List MV) (μ : MM) (G : MG) : ev 231 0 [some (vR x), a1, a2] st μ G = ev 231 1 [some (vR x), a1, a2] (vR x :: st) μ G := ev_stp pg_231_0 rfl
theorem pg_231_1 : mm_prog 231 1 = some (0, .iconst 0, 2, []) := by decide +kernel
theorem xe_231_1 (a0 a1 a2 : Option MV) (st : List MV) (μ : MM) (G : MG) : ev 231 1 [a0, a1, a2] st μ G = ev 231 2 [a0, a1, a2] (vI (0) :: st) μ G := ev_stp pg_231_1 rfl
theorem pg_231_2 : mm_prog 231 2 = some (0, .putfield 1, 5, [11, 0, 0]) := by decide +kernel
theorem xe_231_2 (a0 a1 a2 : Option MV) (x y : Int) (st : List MV) (μ : MM) (G : MG) : ev 231 2 [a0, a1, a2] (vI x :: vR y :: st) μ G = if gk G y = 11 then ev 231 5 [a0, a1, a2] st (mset μ y 0 x) G else none := ev_put0 pg_231_2
theorem pg_231_5 : mm_prog 231 5 = some (0, .iload_n 1, 6, []) := by decide +kernel
theorem xe_231_5 (a0 a2 : Option MV) (x : Int) (st : List MV) (μ : MM) (G : MG) : ev 231 5 [a0, some (vI x), a2] st μ G = ev 231 6 [a0, some (vI x), a2] (vI x :: st) μ G := ev_stp pg_231_5 rfl
theorem pg_231_6 : mm_prog 231 6 = some (0, .i2l, 7, []) := by decide +kernel
theorem xe_231_6 (a0 a1 a2 : Option MV) (x : Int) (st : List MV) (μ : MM) (G : MG) : ev 231 6 [a0, a1, a2] (vI x :: st) μ G = ev 231 7 [a0, a1, a2] (vL x :: st) μ G := ev_stp pg_231_6 rfl
theorem pg_231_7 : mm_prog 231 7 = some (0, .lconst 0, 8, []) := by decide +kernel
theorem xe_231_7 (a0 a1 a2 : Option MV) (st : List MV) (μ : MM) (G : MG) : ev 231 7 [a0, a1, a2] st μ G = ev 231 8 [a0, a1, a2] (vL 0 :: st) μ G := ev_stp pg_231_7 rfl
theorem pg_231_8 : mm_prog 231 8 = some (0, .aload_n 0, 9, []) := by decide +kernel
theorem xe_231_8 (a1 a2 : Option MV) (x : Int) (st : List MV) (μ : MM) (G : MG) : ev 231 8 [some (vR x), a1, a2] st μ G = ev 231 9 [some (vR x), a1, a2] (vR x :: st) μ G := ev_stp pg_231_8 rfl
theorem pg_231_9 : mm_prog 231 9 = some (0, .getfield 75, 12, [11, 35, 2]) := by decide +kernel
theorem xe_231_9 (a0 a1 a2 : Option MV) (x : Int) (st : List MV) (μ : MM) (G : MG) : ev 231 9 [a0, a1, a2] (vR x :: st) μ G = if gk G x = 11 then ev 231 12 [a0, a1, a2] (vR (μ x 35) :: st) μ G else none := ev_if pg_231_9 rfl
theorem pg_231_12 : mm_prog 231 12 = some (0, .bipush 7, 14, []) := by decide +kernel
theorem xe_231_12 (a0 a1 a2 : Option MV) (st : List MV) (μ : MM) (G : MG) : ev 231 12 [a0, a1, a2] st μ G = ev 231 14 [a0, a1, a2] (vI (7) :: st) μ G := ev_stp pg_231_12 rfl
theorem pg_231_14 : mm_prog 231 14 = some (0, .iaload, 15, []) := by decide +kernel
theorem xe_231_14 (a0 a1 a2 : Option MV) (x y : Int) (st : List MV) (μ : MM) (G : MG) : ev 231 14 [a0, a1, a2] (vI x :: vR y :: st) μ G = if gk G y = 100 ∧ 0 ≤ x ∧ x < gl G y then ev 231 15 [a0, a1, a2] (vI (μ y x) :: st) μ G else none := ev_if pg_231_14 rfl
theorem pg_231_15 : mm_prog 231 15 = some (0, .iconst 1, 16, []) := by decide +kernel
theorem xe_231_15 (a0 a1 a2 : Option MV) (st : List MV) (μ : MM) (G : MG) : ev 231 15 [a0, a1, a2] st μ G = ev 231 16 [a0, a1, a2] (vI (1) :: st) μ G := ev_stp pg_231_15 rfl
theorem pg_231_16 : mm_prog 231 16 = some (0, .isub, 17, []) := by decide +kernel
theorem xe_231_16 (a0 a1 a2 : Option MV) (x y : Int) (st : List MV) (μ : MM) (G : MG) : ev 231 16 [a0, a1, a2] (vI y :: vI x :: st) μ G = ev 231 17 [a0, a1, a2] (vI (w32 (x - y)) :: st) μ G := ev_stp pg_231_16 rfl
theorem pg_231_17 : mm_prog 231 17 = some (0, .i2l, 18, []) := by decide +kernel
theorem xe_231_17 (a0 a1 a2 : Option MV) (x : Int) (st : List MV) (μ : MM) (G : MG) : ev 231 17 [a0, a1, a2] (vI x :: st) μ G = ev 231 18 [a0, a1, a2] (vL x :: st) μ G := ev_stp pg_231_17 rfl
theorem pg_231_18 : mm_prog 231 18 = some (1, .invokestatic 107, 21, [0, 148, 3, 0]) := by decide +kernel
theorem xe_231_18 (a0 a1 a2 : Option MV) (x0 x1 x2 : Int) (μ : MM) (G : MG) : ev 231 18 [a0, a1, a2] (vL x2 :: vL x1 :: vL x0 :: []) μ G = (ev 148 0 [some (vL x0), none, some (vL x1), none, some (vL x2), none] [] μ G).bind (fun q => ev 231 21 [a0, a1, a2] (q.1.toList ++ []) q.2.1 q.2.2) := ev_calS (as := [vL x0, vL x1, vL x2]) (r := []) mx_148 pg_231_18 rfl rfl (Nat.le_of_ble_eq_true rfl) (Nat.le_of_ble_eq_true rfl)
theorem pg_231_21 : mm_prog 231 21 = some (0, .ifCond .eq 31, 24, []) := by decide +kernel
theorem xe_231_21 (a0 a1 a2 : Option MV) (x : Int) (st : List MV) (μ : MM) (G : MG) : ev 231 21 [a0, a1, a2] (vI x :: st) μ G = if x = 0 then ev 231 52 [a0, a1, a2] st μ G else ev 231 24 [a0, a1, a2] st μ G := ev_br (mm_cnd_eq x 0) pg_231_21 rfl
theorem pg_231_24 : mm_prog 231 24 = some (0, .iload_n 2, 25, []) := by decide +kernel
theorem xe_231_24 (a0 a1 : Option MV) (x : Int) (st : List MV) (μ : MM) (G : MG) : ev 231 24 [a0, a1, some (vI x)] st μ G = ev 231 25 [a0, a1, some (vI x)] (vI x :: st) μ G := ev_stp pg_231_24 rfl
theorem pg_231_25 : mm_prog 231 25 = some (0, .i2l, 26, []) := by decide +kernel
theorem xe_231_25 (a0 a1 a2 : Option MV) (x : Int) (st : List MV) (μ : MM) (G : MG) : ev 231 25 [a0, a1, a2] (vI x :: st) μ G = ev 231 26 [a0, a1, a2] (vL x :: st) μ G := ev_stp pg_231_25 rfl
theorem pg_231_26 : mm_prog 231 26 = some (0, .lconst 0, 27, []) := by decide +kernel
theorem xe_231_26 (a0 a1 a2 : Option MV) (st : List MV) (μ : MM) (G : MG) : ev 231 26 [a0, a1, a2] st μ G = ev 231 27 [a0, a1, a2] (vL 0 :: st) μ G := ev_stp pg_231_26 rfl
theorem pg_231_27 : mm_prog 231 27 = some (0, .ldc2_w 315, 30, [3]) := by decide +kernel
theorem xe_231_27 (a0 a1 a2 : Option MV) (st : List MV) (μ : MM) (G : MG) : ev 231 27 [a0, a1, a2] st μ G = ev 231 30 [a0, a1, a2] (vL (3) :: st) μ G := ev_stp pg_231_27 rfl
theorem pg_231_30 : mm_prog 231 30 = some (1, .invokestatic 107, 33, [0, 148, 3, 0]) := by decide +kernel
theorem xe_231_30 (a0 a1 a2 : Option MV) (x0 x1 x2 : Int) (μ : MM) (G : MG) : ev 231 30 [a0, a1, a2] (vL x2 :: vL x1 :: vL x0 :: []) μ G = (ev 148 0 [some (vL x0), none, some (vL x1), none, some (vL x2), none] [] μ G).bind (fun q => ev 231 33 [a0, a1, a2] (q.1.toList ++ []) q.2.1 q.2.2) := ev_calS (as := [vL x0, vL x1, vL x2]) (r := []) mx_148 pg_231_30 rfl rfl (Nat.le_of_ble_eq_true rfl) (Nat.le_of_ble_eq_true rfl)
theorem pg_231_33 : mm_prog 231 33 = some (0, .ifCond .eq 19, 36, []) := by decide +kernel
theorem xe_231_33 (a0 a1 a2 : Option MV) (x : Int) (st : List MV) (μ : MM) (G : MG) : ev 231 33 [a0, a1, a2] (vI x :: st) μ G = if x = 0 then ev 231 52 [a0, a1, a2] st μ G else ev 231 36 [a0, a1, a2] st μ G := ev_br (mm_cnd_eq x 0) pg_231_33 rfl
theorem pg_231_36 : mm_prog 231 36 = some (0, .aload_n 0, 37, []) := by decide +kernel
theorem xe_231_36 (a1 a2 : Option MV) (x : Int) (st : List MV) (μ : MM) (G : MG) : ev 231 36 [some (vR x), a1, a2] st μ G = ev 231 37 [some (vR x), a1, a2] (vR x :: st) μ G := ev_stp pg_231_36 rfl
theorem pg_231_37 : mm_prog 231 37 = some (0, .getfield 75, 40, [11, 35, 2]) := by decide +kernel
theorem xe_231_37 (a0 a1 a2 : Option MV) (x : Int) (st : List MV) (μ : MM) (G : MG) : ev 231 37 [a0, a1, a2] (vR x :: st) μ G = if gk G x = 11 then ev 231 40 [a0, a1, a2] (vR (μ x 35) :: st) μ G else none := ev_if pg_231_37 rfl
theorem pg_231_40 : mm_prog 231 40 = some (0, .bipush 24, 42, []) := by decide +kernel
theorem xe_231_40 (a0 a1 a2 : Option MV) (st : List MV) (μ : MM) (G : MG) : ev 231 40 [a0, a1, a2] st μ G = ev 231 42 [a0, a1, a2] (vI (24) :: st) μ G := ev_stp pg_231_40 rfl
theorem pg_231_42 : mm_prog 231 42 = some (0, .iconst 4, 43, []) := by decide +kernel
theorem xe_231_42 (a0 a1 a2 : Option MV) (st : List MV) (μ : MM) (G : MG) : ev 231 42 [a0, a1, a2] st μ G = ev 231 43 [a0, a1, a2] (vI (4) :: st) μ G := ev_stp pg_231_42 rfl
theorem pg_231_43 : mm_prog 231 43 = some (0, .iload_n 1, 44, []) := by decide +kernel
theorem xe_231_43 (a0 a2 : Option MV) (x : Int) (st : List MV) (μ : MM) (G : MG) : ev 231 43 [a0, some (vI x), a2] st μ G = ev 231 44 [a0, some (vI x), a2] (vI x :: st) μ G := ev_stp pg_231_43 rfl
theorem pg_231_44 : mm_prog 231 44 = some (0, .imul, 45, []) := by decide +kernel
theorem xe_231_44 (a0 a1 a2 : Option MV) (x y : Int) (st : List MV) (μ : MM) (G : MG) : ev 231 44 [a0, a1, a2] (vI y :: vI x :: st) μ G = ev 231 45 [a0, a1, a2] (vI (w32 (x * y)) :: st) μ G := ev_stp pg_231_44 rfl
theorem pg_231_45 : mm_prog 231 45 = some (0, .iadd, 46, []) := by decide +kernel
theorem xe_231_45 (a0 a1 a2 : Option MV) (x y : Int) (st : List MV) (μ : MM) (G : MG) : ev 231 45 [a0, a1, a2] (vI y :: vI x :: st) μ G = ev 231 46 [a0, a1, a2] (vI (w32 (x + y)) :: st) μ G := ev_stp pg_231_45 rfl
theorem pg_231_46 : mm_prog 231 46 = some (0, .iload_n 2, 47, []) := by decide +kernel
theorem xe_231_46 (a0 a1 : Option MV) (x : Int) (st : List MV) (μ : MM) (G : MG) : ev 231 46 [a0, a1, some (vI x)] st μ G = ev 231 47 [a0, a1, some (vI x)] (vI x :: st) μ G := ev_stp pg_231_46 rfl
theorem pg_231_47 : mm_prog 231 47 = some (0, .iadd, 48, []) := by decide +kernel
theorem xe_231_47 (a0 a1 a2 : Option MV) (x y : Int) (st : List MV) (μ : MM) (G : MG) : ev 231 47 [a0, a1, a2] (vI y :: vI x :: st) μ G = ev 231 48 [a0, a1, a2] (vI (w32 (x + y)) :: st) μ G := ev_stp pg_231_47 rfl
theorem pg_231_48 : mm_prog 231 48 = some (0, .iaload, 49, []) := by decide +kernel
theorem xe_231_48 (a0 a1 a2 : Option MV) (x y : Int) (st : List MV) (μ : MM) (G : MG) : ev 231 48 [a0, a1, a2] (vI x :: vR y :: st) μ G = if gk G y = 100 ∧ 0 ≤ x ∧ x < gl G y then ev 231 49 [a0, a1, a2] (vI (μ y x) :: st) μ G else none := ev_if pg_231_48 rfl
theorem pg_231_49 : mm_prog 231 49 = some (0, .goto 5, 52, []) := by decide +kernel
theorem xe_231_49 (a0 a1 a2 : Option MV) (st : List MV) (μ : MM) (G : MG) : ev 231 49 [a0, a1, a2] st μ G = ev 231 54 [a0, a1, a2] st μ G := ev_stp pg_231_49 rfl
theorem pg_231_52 : mm_prog 231 52 = some (0, .bipush (-2), 54, []) := by decide +kernel
theorem xe_231_52 (a0 a1 a2 : Option MV) (st : List MV) (μ : MM) (G : MG) : ev 231 52 [a0, a1, a2] st μ G = ev 231 54 [a0, a1, a2] (vI (-2) :: st) μ G := ev_stp pg_231_52 rfl
theorem pg_231_54 : mm_prog 231 54 = some (2, .ireturn, 55, [0]) := by decide +kernel
theorem xe_231_54 (a0 a1 a2 : Option MV) (x : Int) (μ : MM) (G : MG) : ev 231 54 [a0, a1, a2] [vI x] μ G = some (some (vI x), μ, G) := ev_ret pg_231_54 rfl
-- X11_shown
theorem pg_232_0 : mm_prog 232 0 = some (0, .aload_n 0, 1, []) := by decide +kernel
theorem xe_232_0 (a1 a2 : Option MV) (x : Int) (st : List MV) (μ : MM) (G : MG) : ev 232 0 [some (vR x), a1, a2] st μ G = ev 232 1 [some (vR x), a1, a2] (vR x :: st) μ G := ev_stp pg_232_0 rfl
theorem pg_232_1 : mm_prog 232 1 = some (0, .iconst 0, 2, []) := by decide +kernel
theorem xe_232_1 (a0 a1 a2 : Option MV) (st : List MV) (μ : MM) (G : MG) : ev 232 1 [a0, a1, a2] st μ G = ev 232 2 [a0, a1, a2] (vI (0) :: st) μ G := ev_stp pg_232_1 rfl
theorem pg_232_2 : mm_prog 232 2 = some (0, .putfield 1, 5, [11, 0, 0]) := by decide +kernel
theorem xe_232_2 (a0 a1 a2 : Option MV) (x y : Int) (st : List MV) (μ : MM) (G : MG) : ev 232 2 [a0, a1, a2] (vI x :: vR y :: st) μ G = if gk G y = 11 then ev 232 5 [a0, a1, a2] st (mset μ y 0 x) G else none := ev_put0 pg_232_2
theorem pg_232_5 : mm_prog 232 5 = some (0, .iload_n 1, 6, []) := by decide +kernel
theorem xe_232_5 (a0 a2 : Option MV) (x : Int) (st : List MV) (μ : MM) (G : MG) : ev 232 5 [a0, some (vI x), a2] st μ G = ev 232 6 [a0, some (vI x), a2] (vI x :: st) μ G := ev_stp pg_232_5 rfl
theorem pg_232_6 : mm_prog 232 6 = some (0, .i2l, 7, []) := by decide +kernel
theorem xe_232_6 (a0 a1 a2 : Option MV) (x : Int) (st : List MV) (μ : MM) (G : MG) : ev 232 6 [a0, a1, a2] (vI x :: st) μ G = ev 232 7 [a0, a1, a2] (vL x :: st) μ G := ev_stp pg_232_6 rfl
theorem pg_232_7 : mm_prog 232 7 = some (0, .lconst 0, 8, []) := by decide +kernel
theorem xe_232_7 (a0 a1 a2 : Option MV) (st : List MV) (μ : MM) (G : MG) : ev 232 7 [a0, a1, a2] st μ G = ev 232 8 [a0, a1, a2] (vL 0 :: st) μ G := ev_stp pg_232_7 rfl
theorem pg_232_8 : mm_prog 232 8 = some (0, .ldc2_w 184, 11, [2]) := by decide +kernel
theorem xe_232_8 (a0 a1 a2 : Option MV) (st : List MV) (μ : MM) (G : MG) : ev 232 8 [a0, a1, a2] st μ G = ev 232 11 [a0, a1, a2] (vL (2) :: st) μ G := ev_stp pg_232_8 rfl
theorem pg_232_11 : mm_prog 232 11 = some (1, .invokestatic 107, 14, [0, 148, 3, 0]) := by decide +kernel
theorem xe_232_11 (a0 a1 a2 : Option MV) (x0 x1 x2 : Int) (μ : MM) (G : MG) : ev 232 11 [a0, a1, a2] (vL x2 :: vL x1 :: vL x0 :: []) μ G = (ev 148 0 [some (vL x0), none, some (vL x1), none, some (vL x2), none] [] μ G).bind (fun q => ev 232 14 [a0, a1, a2] (q.1.toList ++ []) q.2.1 q.2.2) := ev_calS (as := [vL x0, vL x1, vL x2]) (r := []) mx_148 pg_232_11 rfl rfl (Nat.le_of_ble_eq_true rfl) (Nat.le_of_ble_eq_true rfl)
theorem pg_232_14 : mm_prog 232 14 = some (0, .ifCond .ne 6, 17, []) := by decide +kernel
theorem xe_232_14 (a0 a1 a2 : Option MV) (x : Int) (st : List MV) (μ : MM) (G : MG) : ev 232 14 [a0, a1, a2] (vI x :: st) μ G = if ¬ x = 0 then ev 232 20 [a0, a1, a2] st μ G else ev 232 17 [a0, a1, a2] st μ G := ev_br (mm_cnd_ne x 0) pg_232_14 rfl
theorem pg_232_17 : mm_prog 232 17 = some (0, .bipush (-2), 19, []) := by decide +kernel
theorem xe_232_17 (a0 a1 a2 : Option MV) (st : List MV) (μ : MM) (G : MG) : ev 232 17 [a0, a1, a2] st μ G = ev 232 19 [a0, a1, a2] (vI (-2) :: st) μ G := ev_stp pg_232_17 rfl
theorem pg_232_19 : mm_prog 232 19 = some (2, .ireturn, 20, [0]) := by decide +kernel
theorem xe_232_19 (a0 a1 a2 : Option MV) (x : Int) (μ : MM) (G : MG) : ev 232 19 [a0, a1, a2] [vI x] μ G = some (some (vI x), μ, G) := ev_ret pg_232_19 rfl
theorem pg_232_20 : mm_prog 232 20 = some (0, .aload_n 0, 21, []) := by decide +kernel
theorem xe_232_20 (a1 a2 : Option MV) (x : Int) (st : List MV) (μ : MM) (G : MG) : ev 232 20 [some (vR x), a1, a2] st μ G = ev 232 21 [some (vR x), a1, a2] (vR x :: st) μ G := ev_stp pg_232_20 rfl
theorem pg_232_21 : mm_prog 232 21 = some (0, .getfield 75, 24, [11, 35, 2]) := by decide +kernel
theorem xe_232_21 (a0 a1 a2 : Option MV) (x : Int) (st : List MV) (μ : MM) (G : MG) : ev 232 21 [a0, a1, a2] (vR x :: st) μ G = if gk G x = 11 then ev 232 24 [a0, a1, a2] (vR (μ x 35) :: st) μ G else none := ev_if pg_232_21 rfl
theorem pg_232_24 : mm_prog 232 24 = some (0, .iconst 0, 25, []) := by decide +kernel
theorem xe_232_24 (a0 a1 a2 : Option MV) (st : List MV) (μ : MM) (G : MG) : ev 232 24 [a0, a1, a2] st μ G = ev 232 25 [a0, a1, a2] (vI (0) :: st) μ G := ev_stp pg_232_24 rfl
theorem pg_232_25 : mm_prog 232 25 = some (0, .iaload, 26, []) := by decide +kernel
theorem xe_232_25 (a0 a1 a2 : Option MV) (x y : Int) (st : List MV) (μ : MM) (G : MG) : ev 232 25 [a0, a1, a2] (vI x :: vR y :: st) μ G = if gk G y = 100 ∧ 0 ≤ x ∧ x < gl G y then ev 232 26 [a0, a1, a2] (vI (μ y x) :: st) μ G else none := ev_if pg_232_25 rfl
theorem pg_232_26 : mm_prog 232 26 = some (0, .iconst 3, 27, []) := by decide +kernel
theorem xe_232_26 (a0 a1 a2 : Option MV) (st : List MV) (μ : MM) (G : MG) : ev 232 26 [a0, a1, a2] st μ G = ev 232 27 [a0, a1, a2] (vI (3) :: st) μ G := ev_stp pg_232_26 rfl
theorem pg_232_27 : mm_prog 232 27 = some (0, .if_icmp .eq 6, 30, []) := by decide +kernel
theorem xe_232_27 (a0 a1 a2 : Option MV) (x y : Int) (st : List MV) (μ : MM) (G : MG) : ev 232 27 [a0, a1, a2] (vI y :: vI x :: st) μ G = if x = y then ev 232 33 [a0, a1, a2] st μ G else ev 232 30 [a0, a1, a2] st μ G := ev_br (mm_cnd_eq x y) pg_232_27 rfl
theorem pg_232_30 : mm_prog 232 30 = some (0, .bipush (-5), 32, []) := by decide +kernel
theorem xe_232_30 (a0 a1 a2 : Option MV) (st : List MV) (μ : MM) (G : MG) : ev 232 30 [a0, a1, a2] st μ G = ev 232 32 [a0, a1, a2] (vI (-5) :: st) μ G := ev_stp pg_232_30 rfl
theorem pg_232_32 : mm_prog 232 32 = some (2, .ireturn, 33, [0]) := by decide +kernel
theorem xe_232_32 (a0 a1 a2 : Option MV) (x : Int) (μ : MM) (G : MG) : ev 232 32 [a0, a1, a2] [vI x] μ G = some (some (vI x), μ, G) := ev_ret pg_232_32 rfl
theorem pg_232_33 : mm_prog 232 33 = some (0, .aload_n 0, 34, []) := by decide +kernel
theorem xe_232_33 (a1 a2 : Option MV) (x : Int) (st : List MV) (μ : MM) (G : MG) : ev 232 33 [some (vR x), a1, a2] st μ G = ev 232 34 [some (vR x), a1, a2] (vR x :: st) μ G := ev_stp pg_232_33 rfl
theorem pg_232_34 : mm_prog 232 34 = some (0, .getfield 75, 37, [11, 35, 2]) := by decide +kernel
theorem xe_232_34 (a0 a1 a2 : Option MV) (x : Int) (st : List MV) (μ : MM) (G : MG) : ev 232 34 [a0, a1, a2] (vR x :: st) μ G = if gk G x = 11 then ev 232 37 [a0, a1, a2] (vR (μ x 35) :: st) μ G else none := ev_if pg_232_34 rfl
theorem pg_232_37 : mm_prog 232 37 = some (0, .iconst 1, 38, []) := by decide +kernel
theorem xe_232_37 (a0 a1 a2 : Option MV) (st : List MV) (μ : MM) (G : MG) : ev 232 37 [a0, a1, a2] st μ G = ev 232 38 [a0, a1, a2] (vI (1) :: st) μ G := ev_stp pg_232_37 rfl
theorem pg_232_38 : mm_prog 232 38 = some (0, .iaload, 39, []) := by decide +kernel
theorem xe_232_38 (a0 a1 a2 : Option MV) (x y : Int) (st : List MV) (μ : MM) (G : MG) : ev 232 38 [a0, a1, a2] (vI x :: vR y :: st) μ G = if gk G y = 100 ∧ 0 ≤ x ∧ x < gl G y then ev 232 39 [a0, a1, a2] (vI (μ y x) :: st) μ G else none := ev_if pg_232_38 rfl
theorem pg_232_39 : mm_prog 232 39 = some (0, .aload_n 0, 40, []) := by decide +kernel
theorem xe_232_39 (a1 a2 : Option MV) (x : Int) (st : List MV) (μ : MM) (G : MG) : ev 232 39 [some (vR x), a1, a2] st μ G = ev 232 40 [some (vR x), a1, a2] (vR x :: st) μ G := ev_stp pg_232_39 rfl
theorem pg_232_40 : mm_prog 232 40 = some (0, .getfield 75, 43, [11, 35, 2]) := by decide +kernel
theorem xe_232_40 (a0 a1 a2 : Option MV) (x : Int) (st : List MV) (μ : MM) (G : MG) : ev 232 40 [a0, a1, a2] (vR x :: st) μ G = if gk G x = 11 then ev 232 43 [a0, a1, a2] (vR (μ x 35) :: st) μ G else none := ev_if pg_232_40 rfl
theorem pg_232_43 : mm_prog 232 43 = some (0, .iconst 2, 44, []) := by decide +kernel
theorem xe_232_43 (a0 a1 a2 : Option MV) (st : List MV) (μ : MM) (G : MG) : ev 232 43 [a0, a1, a2] st μ G = ev 232 44 [a0, a1, a2] (vI (2) :: st) μ G := ev_stp pg_232_43 rfl
theorem pg_232_44 : mm_prog 232 44 = some (0, .iaload, 45, []) := by decide +kernel
theorem xe_232_44 (a0 a1 a2 : Option MV) (x y : Int) (st : List MV) (μ : MM) (G : MG) : ev 232 44 [a0, a1, a2] (vI x :: vR y :: st) μ G = if gk G y = 100 ∧ 0 ≤ x ∧ x < gl G y then ev 232 45 [a0, a1, a2] (vI (μ y x) :: st) μ G else none := ev_if pg_232_44 rfl
theorem pg_232_45 : mm_prog 232 45 = some (1, .invokestatic 327, 48, [0, 202, 2, 0]) := by decide +kernel
theorem xe_232_45 (a0 a1 a2 : Option MV) (x0 x1 : Int) (μ : MM) (G : MG) : ev 232 45 [a0, a1, a2] (vI x1 :: vI x0 :: []) μ G = (ev 202 0 [some (vI x0), some (vI x1), none] [] μ G).bind (fun q => ev 232 48 [a0, a1, a2] (q.1.toList ++ []) q.2.1 q.2.2) := ev_calS (as := [vI x0, vI x1]) (r := []) mx_202 pg_232_45 rfl rfl (Nat.le_of_ble_eq_true rfl) (Nat.le_of_ble_eq_true rfl)
theorem pg_232_48 : mm_prog 232 48 = some (0, .istore_n 2, 49, []) := by decide +kernel
theorem xe_232_48 (a0 a1 a2 : Option MV) (x : Int) (st : List MV) (μ : MM) (G : MG) (h : mm_nL a1 = true) : ev 232 48 [a0, a1, a2] (vI x :: st) μ G = ev 232 49 [a0, a1, some (vI x)] st μ G := ev_st pg_232_48 rfl (mm_nl_of h) (Nat.le_of_ble_eq_true rfl)
theorem pg_232_49 : mm_prog 232 49 = some (0, .aload_n 0, 50, []) := by decide +kernel
theorem xe_232_49 (a1 a2 : Option MV) (x : Int) (st : List MV) (μ : MM) (G : MG) : ev 232 49 [some (vR x), a1, a2] st μ G = ev 232 50 [some (vR x), a1, a2] (vR x :: st) μ G := ev_stp pg_232_49 rfl
theorem pg_232_50 : mm_prog 232 50 = some (0, .iload_n 2, 51, []) := by decide +kernel
theorem xe_232_50 (a0 a1 : Option MV) (x : Int) (st : List MV) (μ : MM) (G : MG) : ev 232 50 [a0, a1, some (vI x)] st μ G = ev 232 51 [a0, a1, some (vI x)] (vI x :: st) μ G := ev_stp pg_232_50 rfl
theorem pg_232_51 : mm_prog 232 51 = some (1, .invokevirtual 339, 54, [1, 207, 1, 11]) := by decide +kernel
theorem xe_232_51 (a0 a1 a2 : Option MV) (x0 z : Int) (μ : MM) (G : MG) : ev 232 51 [a0, a1, a2] (vI x0 :: vR z :: []) μ G = if gk G z = 11 ∧ 0 < z then (ev 207 0 [some (vR z), some (vI x0), none, none] [] μ G).bind (fun q => ev 232 54 [a0, a1, a2] (q.1.toList ++ []) q.2.1 q.2.2) else none := ev_calV (as := [vR z, vI x0]) (r := []) mx_207 pg_232_51 rfl rfl (Nat.le_of_ble_eq_true rfl) (Nat.le_of_ble_eq_true rfl)
theorem pg_232_54 : mm_prog 232 54 = some (0, .aload_n 0, 55, []) := by decide +kernel
theorem xe_232_54 (a1 a2 : Option MV) (x : Int) (st : List MV) (μ : MM) (G : MG) : ev 232 54 [some (vR x), a1, a2] st μ G = ev 232 55 [some (vR x), a1, a2] (vR x :: st) μ G := ev_stp pg_232_54 rfl
theorem pg_232_55 : mm_prog 232 55 = some (0, .getfield 333, 58, [11, 33, 0]) := by decide +kernel
theorem xe_232_55 (a0 a1 a2 : Option MV) (x : Int) (st : List MV) (μ : MM) (G : MG) : ev 232 55 [a0, a1, a2] (vR x :: st) μ G = if gk G x = 11 then ev 232 58 [a0, a1, a2] (vI (μ x 33) :: st) μ G else none := ev_if pg_232_55 rfl
theorem pg_232_58 : mm_prog 232 58 = some (0, .iconst (-1), 59, []) := by decide +kernel
theorem xe_232_58 (a0 a1 a2 : Option MV) (st : List MV) (μ : MM) (G : MG) : ev 232 58 [a0, a1, a2] st μ G = ev 232 59 [a0, a1, a2] (vI (-1) :: st) μ G := ev_stp pg_232_58 rfl
theorem pg_232_59 : mm_prog 232 59 = some (0, .if_icmp .ne 5, 62, []) := by decide +kernel
theorem xe_232_59 (a0 a1 a2 : Option MV) (x y : Int) (st : List MV) (μ : MM) (G : MG) : ev 232 59 [a0, a1, a2] (vI y :: vI x :: st) μ G = if ¬ x = y then ev 232 64 [a0, a1, a2] st μ G else ev 232 62 [a0, a1, a2] st μ G := ev_br (mm_cnd_ne x y) pg_232_59 rfl
theorem pg_232_62 : mm_prog 232 62 = some (0, .iconst (-1), 63, []) := by decide +kernel
theorem xe_232_62 (a0 a1 a2 : Option MV) (st : List MV) (μ : MM) (G : MG) : ev 232 62 [a0, a1, a2] st μ G = ev 232 63 [a0, a1, a2] (vI (-1) :: st) μ G := ev_stp pg_232_62 rfl
theorem pg_232_63 : mm_prog 232 63 = some (2, .ireturn, 64, [0]) := by decide +kernel
theorem xe_232_63 (a0 a1 a2 : Option MV) (x : Int) (μ : MM) (G : MG) : ev 232 63 [a0, a1, a2] [vI x] μ G = some (some (vI x), μ, G) := ev_ret pg_232_63 rfl
theorem pg_232_64 : mm_prog 232 64 = some (0, .iload_n 1, 65, []) := by decide +kernel
theorem xe_232_64 (a0 a2 : Option MV) (x : Int) (st : List MV) (μ : MM) (G : MG) : ev 232 64 [a0, some (vI x), a2] st μ G = ev 232 65 [a0, some (vI x), a2] (vI x :: st) μ G := ev_stp pg_232_64 rfl
theorem pg_232_65 : mm_prog 232 65 = some (0, .ifCond .ne 10, 68, []) := by decide +kernel
theorem xe_232_65 (a0 a1 a2 : Option MV) (x : Int) (st : List MV) (μ : MM) (G : MG) : ev 232 65 [a0, a1, a2] (vI x :: st) μ G = if ¬ x = 0 then ev 232 75 [a0, a1, a2] st μ G else ev 232 68 [a0, a1, a2] st μ G := ev_br (mm_cnd_ne x 0) pg_232_65 rfl
theorem pg_232_68 : mm_prog 232 68 = some (0, .aload_n 0, 69, []) := by decide +kernel
theorem xe_232_68 (a1 a2 : Option MV) (x : Int) (st : List MV) (μ : MM) (G : MG) : ev 232 68 [some (vR x), a1, a2] st μ G = ev 232 69 [some (vR x), a1, a2] (vR x :: st) μ G := ev_stp pg_232_68 rfl
theorem pg_232_69 : mm_prog 232 69 = some (0, .getfield 333, 72, [11, 33, 0]) := by decide +kernel
theorem xe_232_69 (a0 a1 a2 : Option MV) (x : Int) (st : List MV) (μ : MM) (G : MG) : ev 232 69 [a0, a1, a2] (vR x :: st) μ G = if gk G x = 11 then ev 232 72 [a0, a1, a2] (vI (μ x 33) :: st) μ G else none := ev_if pg_232_69 rfl
theorem pg_232_72 : mm_prog 232 72 = some (0, .goto 29, 75, []) := by decide +kernel
theorem xe_232_72 (a0 a1 a2 : Option MV) (st : List MV) (μ : MM) (G : MG) : ev 232 72 [a0, a1, a2] st μ G = ev 232 101 [a0, a1, a2] st μ G := ev_stp pg_232_72 rfl
theorem pg_232_75 : mm_prog 232 75 = some (0, .iload_n 1, 76, []) := by decide +kernel
theorem xe_232_75 (a0 a2 : Option MV) (x : Int) (st : List MV) (μ : MM) (G : MG) : ev 232 75 [a0, some (vI x), a2] st μ G = ev 232 76 [a0, some (vI x), a2] (vI x :: st) μ G := ev_stp pg_232_75 rfl
theorem pg_232_76 : mm_prog 232 76 = some (0, .iconst 1, 77, []) := by decide +kernel
theorem xe_232_76 (a0 a1 a2 : Option MV) (st : List MV) (μ : MM) (G : MG) : ev 232 76 [a0, a1, a2] st μ G = ev 232 77 [a0, a1, a2] (vI (1) :: st) μ G := ev_stp pg_232_76 rfl
theorem pg_232_77 : mm_prog 232 77 = some (0, .if_icmp .ne 10, 80, []) := by decide +kernel
theorem xe_232_77 (a0 a1 a2 : Option MV) (x y : Int) (st : List MV) (μ : MM) (G : MG) : ev 232 77 [a0, a1, a2] (vI y :: vI x :: st) μ G = if ¬ x = y then ev 232 87 [a0, a1, a2] st μ G else ev 232 80 [a0, a1, a2] st μ G := ev_br (mm_cnd_ne x y) pg_232_77 rfl
theorem pg_232_80 : mm_prog 232 80 = some (0, .aload_n 0, 81, []) := by decide +kernel
theorem xe_232_80 (a1 a2 : Option MV) (x : Int) (st : List MV) (μ : MM) (G : MG) : ev 232 80 [some (vR x), a1, a2] st μ G = ev 232 81 [some (vR x), a1, a2] (vR x :: st) μ G := ev_stp pg_232_80 rfl
theorem pg_232_81 : mm_prog 232 81 = some (0, .getfield 336, 84, [11, 34, 0]) := by decide +kernel
theorem xe_232_81 (a0 a1 a2 : Option MV) (x : Int) (st : List MV) (μ : MM) (G : MG) : ev 232 81 [a0, a1, a2] (vR x :: st) μ G = if gk G x = 11 then ev 232 84 [a0, a1, a2] (vI (μ x 34) :: st) μ G else none := ev_if pg_232_81 rfl
theorem pg_232_84 : mm_prog 232 84 = some (0, .goto 17, 87, []) := by decide +kernel
theorem xe_232_84 (a0 a1 a2 : Option MV) (st : List MV) (μ : MM) (G : MG) : ev 232 84 [a0, a1, a2] st μ G = ev 232 101 [a0, a1, a2] st μ G := ev_stp pg_232_84 rfl
theorem pg_232_87 : mm_prog 232 87 = some (0, .iload_n 2, 88, []) := by decide +kernel
theorem xe_232_87 (a0 a1 : Option MV) (x : Int) (st : List MV) (μ : MM) (G : MG) : ev 232 87 [a0, a1, some (vI x)] st μ G = ev 232 88 [a0, a1, some (vI x)] (vI x :: st) μ G := ev_stp pg_232_87 rfl
theorem pg_232_88 : mm_prog 232 88 = some (0, .aload_n 0, 89, []) := by decide +kernel
theorem xe_232_88 (a1 a2 : Option MV) (x : Int) (st : List MV) (μ : MM) (G : MG) : ev 232 88 [some (vR x), a1, a2] st μ G = ev 232 89 [some (vR x), a1, a2] (vR x :: st) μ G := ev_stp pg_232_88 rfl
theorem pg_232_89 : mm_prog 232 89 = some (0, .aload_n 0, 90, []) := by decide +kernel
theorem xe_232_89 (a1 a2 : Option MV) (x : Int) (st : List MV) (μ : MM) (G : MG) : ev 232 89 [some (vR x), a1, a2] st μ G = ev 232 90 [some (vR x), a1, a2] (vR x :: st) μ G := ev_stp pg_232_89 rfl
theorem pg_232_90 : mm_prog 232 90 = some (0, .getfield 333, 93, [11, 33, 0]) := by decide +kernel
theorem xe_232_90 (a0 a1 a2 : Option MV) (x : Int) (st : List MV) (μ : MM) (G : MG) : ev 232 90 [a0, a1, a2] (vR x :: st) μ G = if gk G x = 11 then ev 232 93 [a0, a1, a2] (vI (μ x 33) :: st) μ G else none := ev_if pg_232_90 rfl
theorem pg_232_93 : mm_prog 232 93 = some (0, .aload_n 0, 94, []) := by decide +kernel
theorem xe_232_93 (a1 a2 : Option MV) (x : Int) (st : List MV) (μ : MM) (G : MG) : ev 232 93 [some (vR x), a1, a2] st μ G = ev 232 94 [some (vR x), a1, a2] (vR x :: st) μ G := ev_stp pg_232_93 rfl
theorem pg_232_94 : mm_prog 232 94 = some (0, .getfield 336, 97, [11, 34, 0]) := by decide +kernel
theorem xe_232_94 (a0 a1 a2 : Option MV) (x : Int) (st : List MV) (μ : MM) (G : MG) : ev 232 94 [a0, a1, a2] (vR x :: st) μ G = if gk G x = 11 then ev 232 97 [a0, a1, a2] (vI (μ x 34) :: st) μ G else none := ev_if pg_232_94 rfl
theorem pg_232_97 : mm_prog 232 97 = some (1, .invokevirtual 330, 100, [1, 203, 2, 11]) := by decide +kernel
theorem xe_232_97 (a0 a1 a2 : Option MV) (x0 x1 z r0 : Int) (μ : MM) (G : MG) : ev 232 97 [a0, a1, a2] (vI x1 :: vI x0 :: vR z :: [vI r0]) μ G = if gk G z = 11 ∧ 0 < z then (ev 203 0 [some (vR z), some (vI x0), some (vI x1)] [] μ G).bind (fun q => ev 232 100 [a0, a1, a2] (q.1.toList ++ [vI r0]) q.2.1 q.2.2) else none := ev_calV (as := [vR z, vI x0, vI x1]) (r := [vI r0]) mx_203 pg_232_97 rfl rfl (Nat.le_of_ble_eq_true rfl) (Nat.le_of_ble_eq_true rfl)
theorem pg_232_100 : mm_prog 232 100 = some (0, .isub, 101, []) := by decide +kernel
theorem xe_232_100 (a0 a1 a2 : Option MV) (x y : Int) (st : List MV) (μ : MM) (G : MG) : ev 232 100 [a0, a1, a2] (vI y :: vI x :: st) μ G = ev 232 101 [a0, a1, a2] (vI (w32 (x - y)) :: st) μ G := ev_stp pg_232_100 rfl
theorem pg_232_101 : mm_prog 232 101 = some (2, .ireturn, 102, [0]) := by decide +kernel
theorem xe_232_101 (a0 a1 a2 : Option MV) (x : Int) (μ : MM) (G : MG) : ev 232 101 [a0, a1, a2] [vI x] μ G = some (some (vI x), μ, G) := ev_ret pg_232_101 rfl
-- X11_opens
theorem pg_233_0 : mm_prog 233 0 = some (0, .aload_n 0, 1, []) := by decide +kernel
theorem xe_233_0 (a1 : Option MV) (x : Int) (st : List MV) (μ : MM) (G : MG) : ev 233 0 [some (vR x), a1] st μ G = ev 233 1 [some (vR x), a1] (vR x :: st) μ G := ev_stp pg_233_0 rfl
theorem pg_233_1 : mm_prog 233 1 = some (0, .iconst 1, 2, []) := by decide +kernel
theorem xe_233_1 (a0 a1 : Option MV) (st : List MV) (μ : MM) (G : MG) : ev 233 1 [a0, a1] st μ G = ev 233 2 [a0, a1] (vI (1) :: st) μ G := ev_stp pg_233_1 rfl
theorem pg_233_2 : mm_prog 233 2 = some (0, .putfield 371, 5, [11, 42, 1]) := by decide +kernel
theorem xe_233_2 (a0 a1 : Option MV) (x y : Int) (st : List MV) (μ : MM) (G : MG) : ev 233 2 [a0, a1] (vI x :: vR y :: st) μ G = if gk G y = 11 ∧ (x = 0 ∨ x = 1) then ev 233 5 [a0, a1] st (mset μ y 42 x) G else none := ev_put1 pg_233_2
theorem pg_233_5 : mm_prog 233 5 = some (0, .iconst 0, 6, []) := by decide +kernel
theorem xe_233_5 (a0 a1 : Option MV) (st : List MV) (μ : MM) (G : MG) : ev 233 5 [a0, a1] st μ G = ev 233 6 [a0, a1] (vI (0) :: st) μ G := ev_stp pg_233_5 rfl
theorem pg_233_6 : mm_prog 233 6 = some (0, .istore_n 1, 7, []) := by decide +kernel
theorem xe_233_6 (a0 a1 : Option MV) (x : Int) (st : List MV) (μ : MM) (G : MG) (h : mm_nL a0 = true) : ev 233 6 [a0, a1] (vI x :: st) μ G = ev 233 7 [a0, some (vI x)] st μ G := ev_st pg_233_6 rfl (mm_nl_of h) (Nat.le_of_ble_eq_true rfl)
theorem pg_233_7 : mm_prog 233 7 = some (0, .iload_n 1, 8, []) := by decide +kernel
theorem xe_233_7 (a0 : Option MV) (x : Int) (st : List MV) (μ : MM) (G : MG) : ev 233 7 [a0, some (vI x)] st μ G = ev 233 8 [a0, some (vI x)] (vI x :: st) μ G := ev_stp pg_233_7 rfl
theorem pg_233_8 : mm_prog 233 8 = some (0, .bipush 88, 10, []) := by decide +kernel
theorem xe_233_8 (a0 a1 : Option MV) (st : List MV) (μ : MM) (G : MG) : ev 233 8 [a0, a1] st μ G = ev 233 10 [a0, a1] (vI (88) :: st) μ G := ev_stp pg_233_8 rfl
theorem pg_233_10 : mm_prog 233 10 = some (0, .if_icmp .ge 21, 13, []) := by decide +kernel
theorem xe_233_10 (a0 a1 : Option MV) (x y : Int) (st : List MV) (μ : MM) (G : MG) : ev 233 10 [a0, a1] (vI y :: vI x :: st) μ G = if y ≤ x then ev 233 31 [a0, a1] st μ G else ev 233 13 [a0, a1] st μ G := ev_br (mm_cnd_ge x y) pg_233_10 rfl
theorem pg_233_13 : mm_prog 233 13 = some (0, .aload_n 0, 14, []) := by decide +kernel
theorem xe_233_13 (a1 : Option MV) (x : Int) (st : List MV) (μ : MM) (G : MG) : ev 233 13 [some (vR x), a1] st μ G = ev 233 14 [some (vR x), a1] (vR x :: st) μ G := ev_stp pg_233_13 rfl
theorem pg_233_14 : mm_prog 233 14 = some (0, .getfield 78, 17, [11, 36, 2]) := by decide +kernel
theorem xe_233_14 (a0 a1 : Option MV) (x : Int) (st : List MV) (μ : MM) (G : MG) : ev 233 14 [a0, a1] (vR x :: st) μ G = if gk G x = 11 then ev 233 17 [a0, a1] (vR (μ x 36) :: st) μ G else none := ev_if pg_233_14 rfl
theorem pg_233_17 : mm_prog 233 17 = some (0, .iload_n 1, 18, []) := by decide +kernel
theorem xe_233_17 (a0 : Option MV) (x : Int) (st : List MV) (μ : MM) (G : MG) : ev 233 17 [a0, some (vI x)] st μ G = ev 233 18 [a0, some (vI x)] (vI x :: st) μ G := ev_stp pg_233_17 rfl
theorem pg_233_18 : mm_prog 233 18 = some (0, .aload_n 0, 19, []) := by decide +kernel
theorem xe_233_18 (a1 : Option MV) (x : Int) (st : List MV) (μ : MM) (G : MG) : ev 233 18 [some (vR x), a1] st μ G = ev 233 19 [some (vR x), a1] (vR x :: st) μ G := ev_stp pg_233_18 rfl
theorem pg_233_19 : mm_prog 233 19 = some (0, .getfield 75, 22, [11, 35, 2]) := by decide +kernel
theorem xe_233_19 (a0 a1 : Option MV) (x : Int) (st : List MV) (μ : MM) (G : MG) : ev 233 19 [a0, a1] (vR x :: st) μ G = if gk G x = 11 then ev 233 22 [a0, a1] (vR (μ x 35) :: st) μ G else none := ev_if pg_233_19 rfl
theorem pg_233_22 : mm_prog 233 22 = some (0, .iload_n 1, 23, []) := by decide +kernel
theorem xe_233_22 (a0 : Option MV) (x : Int) (st : List MV) (μ : MM) (G : MG) : ev 233 22 [a0, some (vI x)] st μ G = ev 233 23 [a0, some (vI x)] (vI x :: st) μ G := ev_stp pg_233_22 rfl
theorem pg_233_23 : mm_prog 233 23 = some (0, .iaload, 24, []) := by decide +kernel
theorem xe_233_23 (a0 a1 : Option MV) (x y : Int) (st : List MV) (μ : MM) (G : MG) : ev 233 23 [a0, a1] (vI x :: vR y :: st) μ G = if gk G y = 100 ∧ 0 ≤ x ∧ x < gl G y then ev 233 24 [a0, a1] (vI (μ y x) :: st) μ G else none := ev_if pg_233_23 rfl
theorem pg_233_24 : mm_prog 233 24 = some (0, .iastore, 25, []) := by decide +kernel
theorem xe_233_24 (a0 a1 : Option MV) (x y z : Int) (st : List MV) (μ : MM) (G : MG) : ev 233 24 [a0, a1] (vI x :: vI y :: vR z :: st) μ G = if gk G z = 100 ∧ 0 ≤ y ∧ y < gl G z ∧ 10 ≤ z then ev 233 25 [a0, a1] st (mset μ z y x) G else none := ev_if pg_233_24 rfl
theorem pg_233_25 : mm_prog 233 25 = some (0, .iinc 1 1, 28, []) := by decide +kernel
theorem xe_233_25 (a0 : Option MV) (x : Int) (st : List MV) (μ : MM) (G : MG) (h : mm_nL a0 = true) : ev 233 25 [a0, some (vI x)] st μ G = ev 233 28 [a0, some (vI (w32 (x + (1))))] st μ G := ev_st pg_233_25 rfl (mm_nl_of h) (Nat.le_of_ble_eq_true rfl)
theorem pg_233_28 : mm_prog 233 28 = some (0, .goto (-21), 31, []) := by decide +kernel
theorem xe_233_28 (a0 a1 : Option MV) (st : List MV) (μ : MM) (G : MG) : ev 233 28 [a0, a1] st μ G = ev 233 7 [a0, a1] st μ G := ev_stp pg_233_28 rfl
theorem pg_233_31 : mm_prog 233 31 = some (0, .iconst 0, 32, []) := by decide +kernel
theorem xe_233_31 (a0 a1 : Option MV) (st : List MV) (μ : MM) (G : MG) : ev 233 31 [a0, a1] st μ G = ev 233 32 [a0, a1] (vI (0) :: st) μ G := ev_stp pg_233_31 rfl
theorem pg_233_32 : mm_prog 233 32 = some (0, .istore_n 1, 33, []) := by decide +kernel
theorem xe_233_32 (a0 a1 : Option MV) (x : Int) (st : List MV) (μ : MM) (G : MG) (h : mm_nL a0 = true) : ev 233 32 [a0, a1] (vI x :: st) μ G = ev 233 33 [a0, some (vI x)] st μ G := ev_st pg_233_32 rfl (mm_nl_of h) (Nat.le_of_ble_eq_true rfl)
theorem pg_233_33 : mm_prog 233 33 = some (0, .iload_n 1, 34, []) := by decide +kernel
theorem xe_233_33 (a0 : Option MV) (x : Int) (st : List MV) (μ : MM) (G : MG) : ev 233 33 [a0, some (vI x)] st μ G = ev 233 34 [a0, some (vI x)] (vI x :: st) μ G := ev_stp pg_233_33 rfl
theorem pg_233_34 : mm_prog 233 34 = some (0, .iconst 4, 35, []) := by decide +kernel
theorem xe_233_34 (a0 a1 : Option MV) (st : List MV) (μ : MM) (G : MG) : ev 233 34 [a0, a1] st μ G = ev 233 35 [a0, a1] (vI (4) :: st) μ G := ev_stp pg_233_34 rfl
theorem pg_233_35 : mm_prog 233 35 = some (0, .if_icmp .ge 33, 38, []) := by decide +kernel
theorem xe_233_35 (a0 a1 : Option MV) (x y : Int) (st : List MV) (μ : MM) (G : MG) : ev 233 35 [a0, a1] (vI y :: vI x :: st) μ G = if y ≤ x then ev 233 68 [a0, a1] st μ G else ev 233 38 [a0, a1] st μ G := ev_br (mm_cnd_ge x y) pg_233_35 rfl
theorem pg_233_38 : mm_prog 233 38 = some (0, .aload_n 0, 39, []) := by decide +kernel
theorem xe_233_38 (a1 : Option MV) (x : Int) (st : List MV) (μ : MM) (G : MG) : ev 233 38 [some (vR x), a1] st μ G = ev 233 39 [some (vR x), a1] (vR x :: st) μ G := ev_stp pg_233_38 rfl
theorem pg_233_39 : mm_prog 233 39 = some (0, .getfield 87, 42, [11, 39, 2]) := by decide +kernel
theorem xe_233_39 (a0 a1 : Option MV) (x : Int) (st : List MV) (μ : MM) (G : MG) : ev 233 39 [a0, a1] (vR x :: st) μ G = if gk G x = 11 then ev 233 42 [a0, a1] (vR (μ x 39) :: st) μ G else none := ev_if pg_233_39 rfl
theorem pg_233_42 : mm_prog 233 42 = some (0, .iload_n 1, 43, []) := by decide +kernel
theorem xe_233_42 (a0 : Option MV) (x : Int) (st : List MV) (μ : MM) (G : MG) : ev 233 42 [a0, some (vI x)] st μ G = ev 233 43 [a0, some (vI x)] (vI x :: st) μ G := ev_stp pg_233_42 rfl
theorem pg_233_43 : mm_prog 233 43 = some (0, .aload_n 0, 44, []) := by decide +kernel
theorem xe_233_43 (a1 : Option MV) (x : Int) (st : List MV) (μ : MM) (G : MG) : ev 233 43 [some (vR x), a1] st μ G = ev 233 44 [some (vR x), a1] (vR x :: st) μ G := ev_stp pg_233_43 rfl
theorem pg_233_44 : mm_prog 233 44 = some (0, .getfield 81, 47, [11, 37, 2]) := by decide +kernel
theorem xe_233_44 (a0 a1 : Option MV) (x : Int) (st : List MV) (μ : MM) (G : MG) : ev 233 44 [a0, a1] (vR x :: st) μ G = if gk G x = 11 then ev 233 47 [a0, a1] (vR (μ x 37) :: st) μ G else none := ev_if pg_233_44 rfl
theorem pg_233_47 : mm_prog 233 47 = some (0, .iload_n 1, 48, []) := by decide +kernel
theorem xe_233_47 (a0 : Option MV) (x : Int) (st : List MV) (μ : MM) (G : MG) : ev 233 47 [a0, some (vI x)] st μ G = ev 233 48 [a0, some (vI x)] (vI x :: st) μ G := ev_stp pg_233_47 rfl
theorem pg_233_48 : mm_prog 233 48 = some (0, .iaload, 49, []) := by decide +kernel
theorem xe_233_48 (a0 a1 : Option MV) (x y : Int) (st : List MV) (μ : MM) (G : MG) : ev 233 48 [a0, a1] (vI x :: vR y :: st) μ G = if gk G y = 100 ∧ 0 ≤ x ∧ x < gl G y then ev 233 49 [a0, a1] (vI (μ y x) :: st) μ G else none := ev_if pg_233_48 rfl
theorem pg_233_49 : mm_prog 233 49 = some (0, .iastore, 50, []) := by decide +kernel
theorem xe_233_49 (a0 a1 : Option MV) (x y z : Int) (st : List MV) (μ : MM) (G : MG) : ev 233 49 [a0, a1] (vI x :: vI y :: vR z :: st) μ G = if gk G z = 100 ∧ 0 ≤ y ∧ y < gl G z ∧ 10 ≤ z then ev 233 50 [a0, a1] st (mset μ z y x) G else none := ev_if pg_233_49 rfl
theorem pg_233_50 : mm_prog 233 50 = some (0, .aload_n 0, 51, []) := by decide +kernel
theorem xe_233_50 (a1 : Option MV) (x : Int) (st : List MV) (μ : MM) (G : MG) : ev 233 50 [some (vR x), a1] st μ G = ev 233 51 [some (vR x), a1] (vR x :: st) μ G := ev_stp pg_233_50 rfl
theorem pg_233_51 : mm_prog 233 51 = some (0, .getfield 90, 54, [11, 40, 2]) := by decide +kernel
theorem xe_233_51 (a0 a1 : Option MV) (x : Int) (st : List MV) (μ : MM) (G : MG) : ev 233 51 [a0, a1] (vR x :: st) μ G = if gk G x = 11 then ev 233 54 [a0, a1] (vR (μ x 40) :: st) μ G else none := ev_if pg_233_51 rfl
theorem pg_233_54 : mm_prog 233 54 = some (0, .iload_n 1, 55, []) := by decide +kernel
theorem xe_233_54 (a0 : Option MV) (x : Int) (st : List MV) (μ : MM) (G : MG) : ev 233 54 [a0, some (vI x)] st μ G = ev 233 55 [a0, some (vI x)] (vI x :: st) μ G := ev_stp pg_233_54 rfl
theorem pg_233_55 : mm_prog 233 55 = some (0, .aload_n 0, 56, []) := by decide +kernel
theorem xe_233_55 (a1 : Option MV) (x : Int) (st : List MV) (μ : MM) (G : MG) : ev 233 55 [some (vR x), a1] st μ G = ev 233 56 [some (vR x), a1] (vR x :: st) μ G := ev_stp pg_233_55 rfl
theorem pg_233_56 : mm_prog 233 56 = some (0, .getfield 84, 59, [11, 38, 2]) := by decide +kernel
theorem xe_233_56 (a0 a1 : Option MV) (x : Int) (st : List MV) (μ : MM) (G : MG) : ev 233 56 [a0, a1] (vR x :: st) μ G = if gk G x = 11 then ev 233 59 [a0, a1] (vR (μ x 38) :: st) μ G else none := ev_if pg_233_56 rfl
theorem pg_233_59 : mm_prog 233 59 = some (0, .iload_n 1, 60, []) := by decide +kernel
theorem xe_233_59 (a0 : Option MV) (x : Int) (st : List MV) (μ : MM) (G : MG) : ev 233 59 [a0, some (vI x)] st μ G = ev 233 60 [a0, some (vI x)] (vI x :: st) μ G := ev_stp pg_233_59 rfl
theorem pg_233_60 : mm_prog 233 60 = some (0, .iaload, 61, []) := by decide +kernel
theorem xe_233_60 (a0 a1 : Option MV) (x y : Int) (st : List MV) (μ : MM) (G : MG) : ev 233 60 [a0, a1] (vI x :: vR y :: st) μ G = if gk G y = 100 ∧ 0 ≤ x ∧ x < gl G y then ev 233 61 [a0, a1] (vI (μ y x) :: st) μ G else none := ev_if pg_233_60 rfl
theorem pg_233_61 : mm_prog 233 61 = some (0, .iastore, 62, []) := by decide +kernel
theorem xe_233_61 (a0 a1 : Option MV) (x y z : Int) (st : List MV) (μ : MM) (G : MG) : ev 233 61 [a0, a1] (vI x :: vI y :: vR z :: st) μ G = if gk G z = 100 ∧ 0 ≤ y ∧ y < gl G z ∧ 10 ≤ z then ev 233 62 [a0, a1] st (mset μ z y x) G else none := ev_if pg_233_61 rfl
theorem pg_233_62 : mm_prog 233 62 = some (0, .iinc 1 1, 65, []) := by decide +kernel
theorem xe_233_62 (a0 : Option MV) (x : Int) (st : List MV) (μ : MM) (G : MG) (h : mm_nL a0 = true) : ev 233 62 [a0, some (vI x)] st μ G = ev 233 65 [a0, some (vI (w32 (x + (1))))] st μ G := ev_st pg_233_62 rfl (mm_nl_of h) (Nat.le_of_ble_eq_true rfl)
theorem pg_233_65 : mm_prog 233 65 = some (0, .goto (-32), 68, []) := by decide +kernel
theorem xe_233_65 (a0 a1 : Option MV) (st : List MV) (μ : MM) (G : MG) : ev 233 65 [a0, a1] st μ G = ev 233 33 [a0, a1] st μ G := ev_stp pg_233_65 rfl
theorem pg_233_68 : mm_prog 233 68 = some (2, .return_, 69, []) := by decide +kernel
theorem xe_233_68 (a0 a1 : Option MV) (μ : MM) (G : MG) : ev 233 68 [a0, a1] [] μ G = some (none, μ, G) := ev_ret pg_233_68 rfl
-- X11_closes
theorem pg_234_0 : mm_prog 234 0 = some (0, .aload_n 0, 1, []) := by decide +kernel
theorem xe_234_0 (a1 : Option MV) (x : Int) (st : List MV) (μ : MM) (G : MG) : ev 234 0 [some (vR x), a1] st μ G = ev 234 1 [some (vR x), a1] (vR x :: st) μ G := ev_stp pg_234_0 rfl
theorem pg_234_1 : mm_prog 234 1 = some (0, .iconst 0, 2, []) := by decide +kernel
theorem xe_234_1 (a0 a1 : Option MV) (st : List MV) (μ : MM) (G : MG) : ev 234 1 [a0, a1] st μ G = ev 234 2 [a0, a1] (vI (0) :: st) μ G := ev_stp pg_234_1 rfl
theorem pg_234_2 : mm_prog 234 2 = some (0, .putfield 371, 5, [11, 42, 1]) := by decide +kernel
theorem xe_234_2 (a0 a1 : Option MV) (x y : Int) (st : List MV) (μ : MM) (G : MG) : ev 234 2 [a0, a1] (vI x :: vR y :: st) μ G = if gk G y = 11 ∧ (x = 0 ∨ x = 1) then ev 234 5 [a0, a1] st (mset μ y 42 x) G else none := ev_put1 pg_234_2
theorem pg_234_5 : mm_prog 234 5 = some (0, .iconst 0, 6, []) := by decide +kernel
theorem xe_234_5 (a0 a1 : Option MV) (st : List MV) (μ : MM) (G : MG) : ev 234 5 [a0, a1] st μ G = ev 234 6 [a0, a1] (vI (0) :: st) μ G := ev_stp pg_234_5 rfl
theorem pg_234_6 : mm_prog 234 6 = some (0, .istore_n 1, 7, []) := by decide +kernel
theorem xe_234_6 (a0 a1 : Option MV) (x : Int) (st : List MV) (μ : MM) (G : MG) (h : mm_nL a0 = true) : ev 234 6 [a0, a1] (vI x :: st) μ G = ev 234 7 [a0, some (vI x)] st μ G := ev_st pg_234_6 rfl (mm_nl_of h) (Nat.le_of_ble_eq_true rfl)
theorem pg_234_7 : mm_prog 234 7 = some (0, .iload_n 1, 8, []) := by decide +kernel
theorem xe_234_7 (a0 : Option MV) (x : Int) (st : List MV) (μ : MM) (G : MG) : ev 234 7 [a0, some (vI x)] st μ G = ev 234 8 [a0, some (vI x)] (vI x :: st) μ G := ev_stp pg_234_7 rfl
theorem pg_234_8 : mm_prog 234 8 = some (0, .bipush 88, 10, []) := by decide +kernel
theorem xe_234_8 (a0 a1 : Option MV) (st : List MV) (μ : MM) (G : MG) : ev 234 8 [a0, a1] st μ G = ev 234 10 [a0, a1] (vI (88) :: st) μ G := ev_stp pg_234_8 rfl
theorem pg_234_10 : mm_prog 234 10 = some (0, .if_icmp .ge 21, 13, []) := by decide +kernel
theorem xe_234_10 (a0 a1 : Option MV) (x y : Int) (st : List MV) (μ : MM) (G : MG) : ev 234 10 [a0, a1] (vI y :: vI x :: st) μ G = if y ≤ x then ev 234 31 [a0, a1] st μ G else ev 234 13 [a0, a1] st μ G := ev_br (mm_cnd_ge x y) pg_234_10 rfl
theorem pg_234_13 : mm_prog 234 13 = some (0, .aload_n 0, 14, []) := by decide +kernel
theorem xe_234_13 (a1 : Option MV) (x : Int) (st : List MV) (μ : MM) (G : MG) : ev 234 13 [some (vR x), a1] st μ G = ev 234 14 [some (vR x), a1] (vR x :: st) μ G := ev_stp pg_234_13 rfl
theorem pg_234_14 : mm_prog 234 14 = some (0, .getfield 75, 17, [11, 35, 2]) := by decide +kernel
theorem xe_234_14 (a0 a1 : Option MV) (x : Int) (st : List MV) (μ : MM) (G : MG) : ev 234 14 [a0, a1] (vR x :: st) μ G = if gk G x = 11 then ev 234 17 [a0, a1] (vR (μ x 35) :: st) μ G else none := ev_if pg_234_14 rfl
theorem pg_234_17 : mm_prog 234 17 = some (0, .iload_n 1, 18, []) := by decide +kernel
theorem xe_234_17 (a0 : Option MV) (x : Int) (st : List MV) (μ : MM) (G : MG) : ev 234 17 [a0, some (vI x)] st μ G = ev 234 18 [a0, some (vI x)] (vI x :: st) μ G := ev_stp pg_234_17 rfl
theorem pg_234_18 : mm_prog 234 18 = some (0, .aload_n 0, 19, []) := by decide +kernel
theorem xe_234_18 (a1 : Option MV) (x : Int) (st : List MV) (μ : MM) (G : MG) : ev 234 18 [some (vR x), a1] st μ G = ev 234 19 [some (vR x), a1] (vR x :: st) μ G := ev_stp pg_234_18 rfl
theorem pg_234_19 : mm_prog 234 19 = some (0, .getfield 78, 22, [11, 36, 2]) := by decide +kernel
theorem xe_234_19 (a0 a1 : Option MV) (x : Int) (st : List MV) (μ : MM) (G : MG) : ev 234 19 [a0, a1] (vR x :: st) μ G = if gk G x = 11 then ev 234 22 [a0, a1] (vR (μ x 36) :: st) μ G else none := ev_if pg_234_19 rfl
theorem pg_234_22 : mm_prog 234 22 = some (0, .iload_n 1, 23, []) := by decide +kernel
theorem xe_234_22 (a0 : Option MV) (x : Int) (st : List MV) (μ : MM) (G : MG) : ev 234 22 [a0, some (vI x)] st μ G = ev 234 23 [a0, some (vI x)] (vI x :: st) μ G := ev_stp pg_234_22 rfl
theorem pg_234_23 : mm_prog 234 23 = some (0, .iaload, 24, []) := by decide +kernel
theorem xe_234_23 (a0 a1 : Option MV) (x y : Int) (st : List MV) (μ : MM) (G : MG) : ev 234 23 [a0, a1] (vI x :: vR y :: st) μ G = if gk G y = 100 ∧ 0 ≤ x ∧ x < gl G y then ev 234 24 [a0, a1] (vI (μ y x) :: st) μ G else none := ev_if pg_234_23 rfl
theorem pg_234_24 : mm_prog 234 24 = some (0, .iastore, 25, []) := by decide +kernel
theorem xe_234_24 (a0 a1 : Option MV) (x y z : Int) (st : List MV) (μ : MM) (G : MG) : ev 234 24 [a0, a1] (vI x :: vI y :: vR z :: st) μ G = if gk G z = 100 ∧ 0 ≤ y ∧ y < gl G z ∧ 10 ≤ z then ev 234 25 [a0, a1] st (mset μ z y x) G else none := ev_if pg_234_24 rfl
theorem pg_234_25 : mm_prog 234 25 = some (0, .iinc 1 1, 28, []) := by decide +kernel
theorem xe_234_25 (a0 : Option MV) (x : Int) (st : List MV) (μ : MM) (G : MG) (h : mm_nL a0 = true) : ev 234 25 [a0, some (vI x)] st μ G = ev 234 28 [a0, some (vI (w32 (x + (1))))] st μ G := ev_st pg_234_25 rfl (mm_nl_of h) (Nat.le_of_ble_eq_true rfl)
theorem pg_234_28 : mm_prog 234 28 = some (0, .goto (-21), 31, []) := by decide +kernel
theorem xe_234_28 (a0 a1 : Option MV) (st : List MV) (μ : MM) (G : MG) : ev 234 28 [a0, a1] st μ G = ev 234 7 [a0, a1] st μ G := ev_stp pg_234_28 rfl
theorem pg_234_31 : mm_prog 234 31 = some (0, .iconst 0, 32, []) := by decide +kernel
theorem xe_234_31 (a0 a1 : Option MV) (st : List MV) (μ : MM) (G : MG) : ev 234 31 [a0, a1] st μ G = ev 234 32 [a0, a1] (vI (0) :: st) μ G := ev_stp pg_234_31 rfl
theorem pg_234_32 : mm_prog 234 32 = some (0, .istore_n 1, 33, []) := by decide +kernel
theorem xe_234_32 (a0 a1 : Option MV) (x : Int) (st : List MV) (μ : MM) (G : MG) (h : mm_nL a0 = true) : ev 234 32 [a0, a1] (vI x :: st) μ G = ev 234 33 [a0, some (vI x)] st μ G := ev_st pg_234_32 rfl (mm_nl_of h) (Nat.le_of_ble_eq_true rfl)
theorem pg_234_33 : mm_prog 234 33 = some (0, .iload_n 1, 34, []) := by decide +kernel
theorem xe_234_33 (a0 : Option MV) (x : Int) (st : List MV) (μ : MM) (G : MG) : ev 234 33 [a0, some (vI x)] st μ G = ev 234 34 [a0, some (vI x)] (vI x :: st) μ G := ev_stp pg_234_33 rfl
theorem pg_234_34 : mm_prog 234 34 = some (0, .iconst 4, 35, []) := by decide +kernel
theorem xe_234_34 (a0 a1 : Option MV) (st : List MV) (μ : MM) (G : MG) : ev 234 34 [a0, a1] st μ G = ev 234 35 [a0, a1] (vI (4) :: st) μ G := ev_stp pg_234_34 rfl
theorem pg_234_35 : mm_prog 234 35 = some (0, .if_icmp .ge 33, 38, []) := by decide +kernel
theorem xe_234_35 (a0 a1 : Option MV) (x y : Int) (st : List MV) (μ : MM) (G : MG) : ev 234 35 [a0, a1] (vI y :: vI x :: st) μ G = if y ≤ x then ev 234 68 [a0, a1] st μ G else ev 234 38 [a0, a1] st μ G := ev_br (mm_cnd_ge x y) pg_234_35 rfl
theorem pg_234_38 : mm_prog 234 38 = some (0, .aload_n 0, 39, []) := by decide +kernel
theorem xe_234_38 (a1 : Option MV) (x : Int) (st : List MV) (μ : MM) (G : MG) : ev 234 38 [some (vR x), a1] st μ G = ev 234 39 [some (vR x), a1] (vR x :: st) μ G := ev_stp pg_234_38 rfl
theorem pg_234_39 : mm_prog 234 39 = some (0, .getfield 81, 42, [11, 37, 2]) := by decide +kernel
theorem xe_234_39 (a0 a1 : Option MV) (x : Int) (st : List MV) (μ : MM) (G : MG) : ev 234 39 [a0, a1] (vR x :: st) μ G = if gk G x = 11 then ev 234 42 [a0, a1] (vR (μ x 37) :: st) μ G else none := ev_if pg_234_39 rfl
theorem pg_234_42 : mm_prog 234 42 = some (0, .iload_n 1, 43, []) := by decide +kernel
theorem xe_234_42 (a0 : Option MV) (x : Int) (st : List MV) (μ : MM) (G : MG) : ev 234 42 [a0, some (vI x)] st μ G = ev 234 43 [a0, some (vI x)] (vI x :: st) μ G := ev_stp pg_234_42 rfl
theorem pg_234_43 : mm_prog 234 43 = some (0, .aload_n 0, 44, []) := by decide +kernel
theorem xe_234_43 (a1 : Option MV) (x : Int) (st : List MV) (μ : MM) (G : MG) : ev 234 43 [some (vR x), a1] st μ G = ev 234 44 [some (vR x), a1] (vR x :: st) μ G := ev_stp pg_234_43 rfl
theorem pg_234_44 : mm_prog 234 44 = some (0, .getfield 87, 47, [11, 39, 2]) := by decide +kernel
theorem xe_234_44 (a0 a1 : Option MV) (x : Int) (st : List MV) (μ : MM) (G : MG) : ev 234 44 [a0, a1] (vR x :: st) μ G = if gk G x = 11 then ev 234 47 [a0, a1] (vR (μ x 39) :: st) μ G else none := ev_if pg_234_44 rfl
theorem pg_234_47 : mm_prog 234 47 = some (0, .iload_n 1, 48, []) := by decide +kernel
theorem xe_234_47 (a0 : Option MV) (x : Int) (st : List MV) (μ : MM) (G : MG) : ev 234 47 [a0, some (vI x)] st μ G = ev 234 48 [a0, some (vI x)] (vI x :: st) μ G := ev_stp pg_234_47 rfl
theorem pg_234_48 : mm_prog 234 48 = some (0, .iaload, 49, []) := by decide +kernel
theorem xe_234_48 (a0 a1 : Option MV) (x y : Int) (st : List MV) (μ : MM) (G : MG) : ev 234 48 [a0, a1] (vI x :: vR y :: st) μ G = if gk G y = 100 ∧ 0 ≤ x ∧ x < gl G y then ev 234 49 [a0, a1] (vI (μ y x) :: st) μ G else none := ev_if pg_234_48 rfl
theorem pg_234_49 : mm_prog 234 49 = some (0, .iastore, 50, []) := by decide +kernel
theorem xe_234_49 (a0 a1 : Option MV) (x y z : Int) (st : List MV) (μ : MM) (G : MG) : ev 234 49 [a0, a1] (vI x :: vI y :: vR z :: st) μ G = if gk G z = 100 ∧ 0 ≤ y ∧ y < gl G z ∧ 10 ≤ z then ev 234 50 [a0, a1] st (mset μ z y x) G else none := ev_if pg_234_49 rfl
theorem pg_234_50 : mm_prog 234 50 = some (0, .aload_n 0, 51, []) := by decide +kernel
theorem xe_234_50 (a1 : Option MV) (x : Int) (st : List MV) (μ : MM) (G : MG) : ev 234 50 [some (vR x), a1] st μ G = ev 234 51 [some (vR x), a1] (vR x :: st) μ G := ev_stp pg_234_50 rfl
theorem pg_234_51 : mm_prog 234 51 = some (0, .getfield 84, 54, [11, 38, 2]) := by decide +kernel
theorem xe_234_51 (a0 a1 : Option MV) (x : Int) (st : List MV) (μ : MM) (G : MG) : ev 234 51 [a0, a1] (vR x :: st) μ G = if gk G x = 11 then ev 234 54 [a0, a1] (vR (μ x 38) :: st) μ G else none := ev_if pg_234_51 rfl
theorem pg_234_54 : mm_prog 234 54 = some (0, .iload_n 1, 55, []) := by decide +kernel
theorem xe_234_54 (a0 : Option MV) (x : Int) (st : List MV) (μ : MM) (G : MG) : ev 234 54 [a0, some (vI x)] st μ G = ev 234 55 [a0, some (vI x)] (vI x :: st) μ G := ev_stp pg_234_54 rfl
theorem pg_234_55 : mm_prog 234 55 = some (0, .aload_n 0, 56, []) := by decide +kernel
theorem xe_234_55 (a1 : Option MV) (x : Int) (st : List MV) (μ : MM) (G : MG) : ev 234 55 [some (vR x), a1] st μ G = ev 234 56 [some (vR x), a1] (vR x :: st) μ G := ev_stp pg_234_55 rfl
theorem pg_234_56 : mm_prog 234 56 = some (0, .getfield 90, 59, [11, 40, 2]) := by decide +kernel
theorem xe_234_56 (a0 a1 : Option MV) (x : Int) (st : List MV) (μ : MM) (G : MG) : ev 234 56 [a0, a1] (vR x :: st) μ G = if gk G x = 11 then ev 234 59 [a0, a1] (vR (μ x 40) :: st) μ G else none := ev_if pg_234_56 rfl
theorem pg_234_59 : mm_prog 234 59 = some (0, .iload_n 1, 60, []) := by decide +kernel
theorem xe_234_59 (a0 : Option MV) (x : Int) (st : List MV) (μ : MM) (G : MG) : ev 234 59 [a0, some (vI x)] st μ G = ev 234 60 [a0, some (vI x)] (vI x :: st) μ G := ev_stp pg_234_59 rfl
theorem pg_234_60 : mm_prog 234 60 = some (0, .iaload, 61, []) := by decide +kernel
theorem xe_234_60 (a0 a1 : Option MV) (x y : Int) (st : List MV) (μ : MM) (G : MG) : ev 234 60 [a0, a1] (vI x :: vR y :: st) μ G = if gk G y = 100 ∧ 0 ≤ x ∧ x < gl G y then ev 234 61 [a0, a1] (vI (μ y x) :: st) μ G else none := ev_if pg_234_60 rfl
theorem pg_234_61 : mm_prog 234 61 = some (0, .iastore, 62, []) := by decide +kernel
theorem xe_234_61 (a0 a1 : Option MV) (x y z : Int) (st : List MV) (μ : MM) (G : MG) : ev 234 61 [a0, a1] (vI x :: vI y :: vR z :: st) μ G = if gk G z = 100 ∧ 0 ≤ y ∧ y < gl G z ∧ 10 ≤ z then ev 234 62 [a0, a1] st (mset μ z y x) G else none := ev_if pg_234_61 rfl
theorem pg_234_62 : mm_prog 234 62 = some (0, .iinc 1 1, 65, []) := by decide +kernel
theorem xe_234_62 (a0 : Option MV) (x : Int) (st : List MV) (μ : MM) (G : MG) (h : mm_nL a0 = true) : ev 234 62 [a0, some (vI x)] st μ G = ev 234 65 [a0, some (vI (w32 (x + (1))))] st μ G := ev_st pg_234_62 rfl (mm_nl_of h) (Nat.le_of_ble_eq_true rfl)
theorem pg_234_65 : mm_prog 234 65 = some (0, .goto (-32), 68, []) := by decide +kernel
theorem xe_234_65 (a0 a1 : Option MV) (st : List MV) (μ : MM) (G : MG) : ev 234 65 [a0, a1] st μ G = ev 234 33 [a0, a1] st μ G := ev_stp pg_234_65 rfl
theorem pg_234_68 : mm_prog 234 68 = some (2, .return_, 69, []) := by decide +kernel
theorem xe_234_68 (a0 a1 : Option MV) (μ : MM) (G : MG) : ev 234 68 [a0, a1] [] μ G = some (none, μ, G) := ev_ret pg_234_68 rfl
-- X11_trains
theorem pg_235_0 : mm_prog 235 0 = some (0, .aload_n 0, 1, []) := by decide +kernel
theorem xe_235_0 (x : Int) (st : List MV) (μ : MM) (G : MG) : ev 235 0 [some (vR x)] st μ G = ev 235 1 [some (vR x)] (vR x :: st) μ G := ev_stp pg_235_0 rfl
theorem pg_235_1 : mm_prog 235 1 = some (1, .invokevirtual 353, 4, [1, 216, 0, 11]) := by decide +kernel
theorem xe_235_1 (a0 : Option MV) (z : Int) (μ : MM) (G : MG) : ev 235 1 [a0] (vR z :: []) μ G = if gk G z = 11 ∧ 0 < z then (ev 216 0 [some (vR z)] [] μ G).bind (fun q => ev 235 4 [a0] (q.1.toList ++ []) q.2.1 q.2.2) else none := ev_calV (as := [vR z]) (r := []) mx_216 pg_235_1 rfl rfl (Nat.le_of_ble_eq_true rfl) (Nat.le_of_ble_eq_true rfl)
theorem pg_235_4 : mm_prog 235 4 = some (0, .aload_n 0, 5, []) := by decide +kernel
theorem xe_235_4 (x : Int) (st : List MV) (μ : MM) (G : MG) : ev 235 4 [some (vR x)] st μ G = ev 235 5 [some (vR x)] (vR x :: st) μ G := ev_stp pg_235_4 rfl
theorem pg_235_5 : mm_prog 235 5 = some (1, .invokevirtual 385, 8, [1, 223, 0, 11]) := by decide +kernel
theorem xe_235_5 (a0 : Option MV) (z : Int) (μ : MM) (G : MG) : ev 235 5 [a0] (vR z :: []) μ G = if gk G z = 11 ∧ 0 < z then (ev 223 0 [some (vR z)] [] μ G).bind (fun q => ev 235 8 [a0] (q.1.toList ++ []) q.2.1 q.2.2) else none := ev_calV (as := [vR z]) (r := []) mx_223 pg_235_5 rfl rfl (Nat.le_of_ble_eq_true rfl) (Nat.le_of_ble_eq_true rfl)
theorem pg_235_8 : mm_prog 235 8 = some (0, .ifCond .eq 10, 11, []) := by decide +kernel
theorem xe_235_8 (a0 : Option MV) (x : Int) (st : List MV) (μ : MM) (G : MG) : ev 235 8 [a0] (vI x :: st) μ G = if x = 0 then ev 235 18 [a0] st μ G else ev 235 11 [a0] st μ G := ev_br (mm_cnd_eq x 0) pg_235_8 rfl
theorem pg_235_11 : mm_prog 235 11 = some (0, .aload_n 0, 12, []) := by decide +kernel
theorem xe_235_11 (x : Int) (st : List MV) (μ : MM) (G : MG) : ev 235 11 [some (vR x)] st μ G = ev 235 12 [some (vR x)] (vR x :: st) μ G := ev_stp pg_235_11 rfl
theorem pg_235_12 : mm_prog 235 12 = some (1, .invokevirtual 388, 15, [1, 225, 0, 11]) := by decide +kernel
theorem xe_235_12 (a0 : Option MV) (z : Int) (μ : MM) (G : MG) : ev 235 12 [a0] (vR z :: []) μ G = if gk G z = 11 ∧ 0 < z then (ev 225 0 [some (vR z), none] [] μ G).bind (fun q => ev 235 15 [a0] (q.1.toList ++ []) q.2.1 q.2.2) else none := ev_calV (as := [vR z]) (r := []) mx_225 pg_235_12 rfl rfl (Nat.le_of_ble_eq_true rfl) (Nat.le_of_ble_eq_true rfl)
theorem pg_235_15 : mm_prog 235 15 = some (0, .goto (-11), 18, []) := by decide +kernel
theorem xe_235_15 (a0 : Option MV) (st : List MV) (μ : MM) (G : MG) : ev 235 15 [a0] st μ G = ev 235 4 [a0] st μ G := ev_stp pg_235_15 rfl
theorem pg_235_18 : mm_prog 235 18 = some (0, .aload_n 0, 19, []) := by decide +kernel
theorem xe_235_18 (x : Int) (st : List MV) (μ : MM) (G : MG) : ev 235 18 [some (vR x)] st μ G = ev 235 19 [some (vR x)] (vR x :: st) μ G := ev_stp pg_235_18 rfl
theorem pg_235_19 : mm_prog 235 19 = some (0, .getfield 75, 22, [11, 35, 2]) := by decide +kernel
theorem xe_235_19 (a0 : Option MV) (x : Int) (st : List MV) (μ : MM) (G : MG) : ev 235 19 [a0] (vR x :: st) μ G = if gk G x = 11 then ev 235 22 [a0] (vR (μ x 35) :: st) μ G else none := ev_if pg_235_19 rfl
theorem pg_235_22 : mm_prog 235 22 = some (0, .iconst 0, 23, []) := by decide +kernel
theorem xe_235_22 (a0 : Option MV) (st : List MV) (μ : MM) (G : MG) : ev 235 22 [a0] st μ G = ev 235 23 [a0] (vI (0) :: st) μ G := ev_stp pg_235_22 rfl
theorem pg_235_23 : mm_prog 235 23 = some (0, .iaload, 24, []) := by decide +kernel
theorem xe_235_23 (a0 : Option MV) (x y : Int) (st : List MV) (μ : MM) (G : MG) : ev 235 23 [a0] (vI x :: vR y :: st) μ G = if gk G y = 100 ∧ 0 ≤ x ∧ x < gl G y then ev 235 24 [a0] (vI (μ y x) :: st) μ G else none := ev_if pg_235_23 rfl
theorem pg_235_24 : mm_prog 235 24 = some (0, .iconst 3, 25, []) := by decide +kernel
theorem xe_235_24 (a0 : Option MV) (st : List MV) (μ : MM) (G : MG) : ev 235 24 [a0] st μ G = ev 235 25 [a0] (vI (3) :: st) μ G := ev_stp pg_235_24 rfl
theorem pg_235_25 : mm_prog 235 25 = some (0, .if_icmp .ne 21, 28, []) := by decide +kernel
theorem xe_235_25 (a0 : Option MV) (x y : Int) (st : List MV) (μ : MM) (G : MG) : ev 235 25 [a0] (vI y :: vI x :: st) μ G = if ¬ x = y then ev 235 46 [a0] st μ G else ev 235 28 [a0] st μ G := ev_br (mm_cnd_ne x y) pg_235_25 rfl
theorem pg_235_28 : mm_prog 235 28 = some (0, .aload_n 0, 29, []) := by decide +kernel
theorem xe_235_28 (x : Int) (st : List MV) (μ : MM) (G : MG) : ev 235 28 [some (vR x)] st μ G = ev 235 29 [some (vR x)] (vR x :: st) μ G := ev_stp pg_235_28 rfl
theorem pg_235_29 : mm_prog 235 29 = some (0, .getfield 75, 32, [11, 35, 2]) := by decide +kernel
theorem xe_235_29 (a0 : Option MV) (x : Int) (st : List MV) (μ : MM) (G : MG) : ev 235 29 [a0] (vR x :: st) μ G = if gk G x = 11 then ev 235 32 [a0] (vR (μ x 35) :: st) μ G else none := ev_if pg_235_29 rfl
theorem pg_235_32 : mm_prog 235 32 = some (0, .iconst 1, 33, []) := by decide +kernel
theorem xe_235_32 (a0 : Option MV) (st : List MV) (μ : MM) (G : MG) : ev 235 32 [a0] st μ G = ev 235 33 [a0] (vI (1) :: st) μ G := ev_stp pg_235_32 rfl
theorem pg_235_33 : mm_prog 235 33 = some (0, .iaload, 34, []) := by decide +kernel
theorem xe_235_33 (a0 : Option MV) (x y : Int) (st : List MV) (μ : MM) (G : MG) : ev 235 33 [a0] (vI x :: vR y :: st) μ G = if gk G y = 100 ∧ 0 ≤ x ∧ x < gl G y then ev 235 34 [a0] (vI (μ y x) :: st) μ G else none := ev_if pg_235_33 rfl
theorem pg_235_34 : mm_prog 235 34 = some (0, .aload_n 0, 35, []) := by decide +kernel
theorem xe_235_34 (x : Int) (st : List MV) (μ : MM) (G : MG) : ev 235 34 [some (vR x)] st μ G = ev 235 35 [some (vR x)] (vR x :: st) μ G := ev_stp pg_235_34 rfl
theorem pg_235_35 : mm_prog 235 35 = some (0, .getfield 75, 38, [11, 35, 2]) := by decide +kernel
theorem xe_235_35 (a0 : Option MV) (x : Int) (st : List MV) (μ : MM) (G : MG) : ev 235 35 [a0] (vR x :: st) μ G = if gk G x = 11 then ev 235 38 [a0] (vR (μ x 35) :: st) μ G else none := ev_if pg_235_35 rfl
theorem pg_235_38 : mm_prog 235 38 = some (0, .iconst 2, 39, []) := by decide +kernel
theorem xe_235_38 (a0 : Option MV) (st : List MV) (μ : MM) (G : MG) : ev 235 38 [a0] st μ G = ev 235 39 [a0] (vI (2) :: st) μ G := ev_stp pg_235_38 rfl
theorem pg_235_39 : mm_prog 235 39 = some (0, .iaload, 40, []) := by decide +kernel
theorem xe_235_39 (a0 : Option MV) (x y : Int) (st : List MV) (μ : MM) (G : MG) : ev 235 39 [a0] (vI x :: vR y :: st) μ G = if gk G y = 100 ∧ 0 ≤ x ∧ x < gl G y then ev 235 40 [a0] (vI (μ y x) :: st) μ G else none := ev_if pg_235_39 rfl
theorem pg_235_40 : mm_prog 235 40 = some (1, .invokestatic 327, 43, [0, 202, 2, 0]) := by decide +kernel
theorem xe_235_40 (a0 : Option MV) (x0 x1 : Int) (μ : MM) (G : MG) : ev 235 40 [a0] (vI x1 :: vI x0 :: []) μ G = (ev 202 0 [some (vI x0), some (vI x1), none] [] μ G).bind (fun q => ev 235 43 [a0] (q.1.toList ++ []) q.2.1 q.2.2) := ev_calS (as := [vI x0, vI x1]) (r := []) mx_202 pg_235_40 rfl rfl (Nat.le_of_ble_eq_true rfl) (Nat.le_of_ble_eq_true rfl)
theorem pg_235_43 : mm_prog 235 43 = some (0, .goto 4, 46, []) := by decide +kernel
theorem xe_235_43 (a0 : Option MV) (st : List MV) (μ : MM) (G : MG) : ev 235 43 [a0] st μ G = ev 235 47 [a0] st μ G := ev_stp pg_235_43 rfl
theorem pg_235_46 : mm_prog 235 46 = some (0, .iconst 0, 47, []) := by decide +kernel
theorem xe_235_46 (a0 : Option MV) (st : List MV) (μ : MM) (G : MG) : ev 235 46 [a0] st μ G = ev 235 47 [a0] (vI (0) :: st) μ G := ev_stp pg_235_46 rfl
theorem pg_235_47 : mm_prog 235 47 = some (2, .ireturn, 48, [0]) := by decide +kernel
theorem xe_235_47 (a0 : Option MV) (x : Int) (μ : MM) (G : MG) : ev 235 47 [a0] [vI x] μ G = some (some (vI x), μ, G) := ev_ret pg_235_47 rfl
-- X11_toldOf
theorem pg_236_0 : mm_prog 236 0 = some (0, .iload_n 1, 1, []) := by decide +kernel
theorem xe_236_0 (a0 a2 : Option MV) (x : Int) (st : List MV) (μ : MM) (G : MG) : ev 236 0 [a0, some (vI x), a2] st μ G = ev 236 1 [a0, some (vI x), a2] (vI x :: st) μ G := ev_stp pg_236_0 rfl
theorem pg_236_1 : mm_prog 236 1 = some (0, .tableswitch 72 0 4 #[35, 42, 49, 56, 64], 36, [73, 0, 36, 1, 43, 2, 50, 3, 57, 4, 65]) := by decide +kernel
theorem xe_236_1 (a0 a1 a2 : Option MV) (x : Int) (st : List MV) (μ : MM) (G : MG) : ev 236 1 [a0, a1, a2] (vI x :: st) μ G = if x = 0 then ev 236 36 [a0, a1, a2] st μ G else if x = 1 then ev 236 43 [a0, a1, a2] st μ G else if x = 2 then ev 236 50 [a0, a1, a2] st μ G else if x = 3 then ev 236 57 [a0, a1, a2] st μ G else if x = 4 then ev 236 65 [a0, a1, a2] st μ G else ev 236 73 [a0, a1, a2] st μ G := ev_sw (x := x) (d := 73) (l := [0, 36, 1, 43, 2, 50, 3, 57, 4, 65]) (st' := st) pg_236_1 rfl
theorem pg_236_36 : mm_prog 236 36 = some (0, .aload_n 0, 37, []) := by decide +kernel
theorem xe_236_36 (a1 a2 : Option MV) (x : Int) (st : List MV) (μ : MM) (G : MG) : ev 236 36 [some (vR x), a1, a2] st μ G = ev 236 37 [some (vR x), a1, a2] (vR x :: st) μ G := ev_stp pg_236_36 rfl
theorem pg_236_37 : mm_prog 236 37 = some (0, .getfield 75, 40, [11, 35, 2]) := by decide +kernel
theorem xe_236_37 (a0 a1 a2 : Option MV) (x : Int) (st : List MV) (μ : MM) (G : MG) : ev 236 37 [a0, a1, a2] (vR x :: st) μ G = if gk G x = 11 then ev 236 40 [a0, a1, a2] (vR (μ x 35) :: st) μ G else none := ev_if pg_236_37 rfl
theorem pg_236_40 : mm_prog 236 40 = some (0, .iconst 0, 41, []) := by decide +kernel
theorem xe_236_40 (a0 a1 a2 : Option MV) (st : List MV) (μ : MM) (G : MG) : ev 236 40 [a0, a1, a2] st μ G = ev 236 41 [a0, a1, a2] (vI (0) :: st) μ G := ev_stp pg_236_40 rfl
theorem pg_236_41 : mm_prog 236 41 = some (0, .iaload, 42, []) := by decide +kernel
theorem xe_236_41 (a0 a1 a2 : Option MV) (x y : Int) (st : List MV) (μ : MM) (G : MG) : ev 236 41 [a0, a1, a2] (vI x :: vR y :: st) μ G = if gk G y = 100 ∧ 0 ≤ x ∧ x < gl G y then ev 236 42 [a0, a1, a2] (vI (μ y x) :: st) μ G else none := ev_if pg_236_41 rfl
theorem pg_236_42 : mm_prog 236 42 = some (2, .ireturn, 43, [0]) := by decide +kernel
theorem xe_236_42 (a0 a1 a2 : Option MV) (x : Int) (μ : MM) (G : MG) : ev 236 42 [a0, a1, a2] [vI x] μ G = some (some (vI x), μ, G) := ev_ret pg_236_42 rfl
theorem pg_236_43 : mm_prog 236 43 = some (0, .aload_n 0, 44, []) := by decide +kernel
theorem xe_236_43 (a1 a2 : Option MV) (x : Int) (st : List MV) (μ : MM) (G : MG) : ev 236 43 [some (vR x), a1, a2] st μ G = ev 236 44 [some (vR x), a1, a2] (vR x :: st) μ G := ev_stp pg_236_43 rfl
theorem pg_236_44 : mm_prog 236 44 = some (0, .getfield 75, 47, [11, 35, 2]) := by decide +kernel
theorem xe_236_44 (a0 a1 a2 : Option MV) (x : Int) (st : List MV) (μ : MM) (G : MG) : ev 236 44 [a0, a1, a2] (vR x :: st) μ G = if gk G x = 11 then ev 236 47 [a0, a1, a2] (vR (μ x 35) :: st) μ G else none := ev_if pg_236_44 rfl
theorem pg_236_47 : mm_prog 236 47 = some (0, .iconst 1, 48, []) := by decide +kernel
theorem xe_236_47 (a0 a1 a2 : Option MV) (st : List MV) (μ : MM) (G : MG) : ev 236 47 [a0, a1, a2] st μ G = ev 236 48 [a0, a1, a2] (vI (1) :: st) μ G := ev_stp pg_236_47 rfl
theorem pg_236_48 : mm_prog 236 48 = some (0, .iaload, 49, []) := by decide +kernel
theorem xe_236_48 (a0 a1 a2 : Option MV) (x y : Int) (st : List MV) (μ : MM) (G : MG) : ev 236 48 [a0, a1, a2] (vI x :: vR y :: st) μ G = if gk G y = 100 ∧ 0 ≤ x ∧ x < gl G y then ev 236 49 [a0, a1, a2] (vI (μ y x) :: st) μ G else none := ev_if pg_236_48 rfl
theorem pg_236_49 : mm_prog 236 49 = some (2, .ireturn, 50, [0]) := by decide +kernel
theorem xe_236_49 (a0 a1 a2 : Option MV) (x : Int) (μ : MM) (G : MG) : ev 236 49 [a0, a1, a2] [vI x] μ G = some (some (vI x), μ, G) := ev_ret pg_236_49 rfl
theorem pg_236_50 : mm_prog 236 50 = some (0, .aload_n 0, 51, []) := by decide +kernel
theorem xe_236_50 (a1 a2 : Option MV) (x : Int) (st : List MV) (μ : MM) (G : MG) : ev 236 50 [some (vR x), a1, a2] st μ G = ev 236 51 [some (vR x), a1, a2] (vR x :: st) μ G := ev_stp pg_236_50 rfl
theorem pg_236_51 : mm_prog 236 51 = some (0, .getfield 75, 54, [11, 35, 2]) := by decide +kernel
theorem xe_236_51 (a0 a1 a2 : Option MV) (x : Int) (st : List MV) (μ : MM) (G : MG) : ev 236 51 [a0, a1, a2] (vR x :: st) μ G = if gk G x = 11 then ev 236 54 [a0, a1, a2] (vR (μ x 35) :: st) μ G else none := ev_if pg_236_51 rfl
theorem pg_236_54 : mm_prog 236 54 = some (0, .iconst 2, 55, []) := by decide +kernel
theorem xe_236_54 (a0 a1 a2 : Option MV) (st : List MV) (μ : MM) (G : MG) : ev 236 54 [a0, a1, a2] st μ G = ev 236 55 [a0, a1, a2] (vI (2) :: st) μ G := ev_stp pg_236_54 rfl
theorem pg_236_55 : mm_prog 236 55 = some (0, .iaload, 56, []) := by decide +kernel
theorem xe_236_55 (a0 a1 a2 : Option MV) (x y : Int) (st : List MV) (μ : MM) (G : MG) : ev 236 55 [a0, a1, a2] (vI x :: vR y :: st) μ G = if gk G y = 100 ∧ 0 ≤ x ∧ x < gl G y then ev 236 56 [a0, a1, a2] (vI (μ y x) :: st) μ G else none := ev_if pg_236_55 rfl
theorem pg_236_56 : mm_prog 236 56 = some (2, .ireturn, 57, [0]) := by decide +kernel
theorem xe_236_56 (a0 a1 a2 : Option MV) (x : Int) (μ : MM) (G : MG) : ev 236 56 [a0, a1, a2] [vI x] μ G = some (some (vI x), μ, G) := ev_ret pg_236_56 rfl
theorem pg_236_57 : mm_prog 236 57 = some (0, .aload_n 0, 58, []) := by decide +kernel
theorem xe_236_57 (a1 a2 : Option MV) (x : Int) (st : List MV) (μ : MM) (G : MG) : ev 236 57 [some (vR x), a1, a2] st μ G = ev 236 58 [some (vR x), a1, a2] (vR x :: st) μ G := ev_stp pg_236_57 rfl
theorem pg_236_58 : mm_prog 236 58 = some (0, .getfield 75, 61, [11, 35, 2]) := by decide +kernel
theorem xe_236_58 (a0 a1 a2 : Option MV) (x : Int) (st : List MV) (μ : MM) (G : MG) : ev 236 58 [a0, a1, a2] (vR x :: st) μ G = if gk G x = 11 then ev 236 61 [a0, a1, a2] (vR (μ x 35) :: st) μ G else none := ev_if pg_236_58 rfl
theorem pg_236_61 : mm_prog 236 61 = some (0, .bipush 6, 63, []) := by decide +kernel
theorem xe_236_61 (a0 a1 a2 : Option MV) (st : List MV) (μ : MM) (G : MG) : ev 236 61 [a0, a1, a2] st μ G = ev 236 63 [a0, a1, a2] (vI (6) :: st) μ G := ev_stp pg_236_61 rfl
theorem pg_236_63 : mm_prog 236 63 = some (0, .iaload, 64, []) := by decide +kernel
theorem xe_236_63 (a0 a1 a2 : Option MV) (x y : Int) (st : List MV) (μ : MM) (G : MG) : ev 236 63 [a0, a1, a2] (vI x :: vR y :: st) μ G = if gk G y = 100 ∧ 0 ≤ x ∧ x < gl G y then ev 236 64 [a0, a1, a2] (vI (μ y x) :: st) μ G else none := ev_if pg_236_63 rfl
theorem pg_236_64 : mm_prog 236 64 = some (2, .ireturn, 65, [0]) := by decide +kernel
theorem xe_236_64 (a0 a1 a2 : Option MV) (x : Int) (μ : MM) (G : MG) : ev 236 64 [a0, a1, a2] [vI x] μ G = some (some (vI x), μ, G) := ev_ret pg_236_64 rfl
theorem pg_236_65 : mm_prog 236 65 = some (0, .aload_n 0, 66, []) := by decide +kernel
theorem xe_236_65 (a1 a2 : Option MV) (x : Int) (st : List MV) (μ : MM) (G : MG) : ev 236 65 [some (vR x), a1, a2] st μ G = ev 236 66 [some (vR x), a1, a2] (vR x :: st) μ G := ev_stp pg_236_65 rfl
theorem pg_236_66 : mm_prog 236 66 = some (0, .getfield 75, 69, [11, 35, 2]) := by decide +kernel
theorem xe_236_66 (a0 a1 a2 : Option MV) (x : Int) (st : List MV) (μ : MM) (G : MG) : ev 236 66 [a0, a1, a2] (vR x :: st) μ G = if gk G x = 11 then ev 236 69 [a0, a1, a2] (vR (μ x 35) :: st) μ G else none := ev_if pg_236_66 rfl
theorem pg_236_69 : mm_prog 236 69 = some (0, .bipush 7, 71, []) := by decide +kernel
theorem xe_236_69 (a0 a1 a2 : Option MV) (st : List MV) (μ : MM) (G : MG) : ev 236 69 [a0, a1, a2] st μ G = ev 236 71 [a0, a1, a2] (vI (7) :: st) μ G := ev_stp pg_236_69 rfl
theorem pg_236_71 : mm_prog 236 71 = some (0, .iaload, 72, []) := by decide +kernel
theorem xe_236_71 (a0 a1 a2 : Option MV) (x y : Int) (st : List MV) (μ : MM) (G : MG) : ev 236 71 [a0, a1, a2] (vI x :: vR y :: st) μ G = if gk G y = 100 ∧ 0 ≤ x ∧ x < gl G y then ev 236 72 [a0, a1, a2] (vI (μ y x) :: st) μ G else none := ev_if pg_236_71 rfl
theorem pg_236_72 : mm_prog 236 72 = some (2, .ireturn, 73, [0]) := by decide +kernel
theorem xe_236_72 (a0 a1 a2 : Option MV) (x : Int) (μ : MM) (G : MG) : ev 236 72 [a0, a1, a2] [vI x] μ G = some (some (vI x), μ, G) := ev_ret pg_236_72 rfl
theorem pg_236_73 : mm_prog 236 73 = some (0, .iload_n 2, 74, []) := by decide +kernel
theorem xe_236_73 (a0 a1 : Option MV) (x : Int) (st : List MV) (μ : MM) (G : MG) : ev 236 73 [a0, a1, some (vI x)] st μ G = ev 236 74 [a0, a1, some (vI x)] (vI x :: st) μ G := ev_stp pg_236_73 rfl
theorem pg_236_74 : mm_prog 236 74 = some (2, .ireturn, 75, [0]) := by decide +kernel
theorem xe_236_74 (a0 a1 a2 : Option MV) (x : Int) (μ : MM) (G : MG) : ev 236 74 [a0, a1, a2] [vI x] μ G = some (some (vI x), μ, G) := ev_ret pg_236_74 rfl
-- X11_trained
theorem pg_237_0 : mm_prog 237 0 = some (0, .aload_n 0, 1, []) := by decide +kernel
theorem xe_237_0 (a1 a2 : Option MV) (x : Int) (st : List MV) (μ : MM) (G : MG) : ev 237 0 [some (vR x), a1, a2] st μ G = ev 237 1 [some (vR x), a1, a2] (vR x :: st) μ G := ev_stp pg_237_0 rfl
theorem pg_237_1 : mm_prog 237 1 = some (0, .iconst 0, 2, []) := by decide +kernel
theorem xe_237_1 (a0 a1 a2 : Option MV) (st : List MV) (μ : MM) (G : MG) : ev 237 1 [a0, a1, a2] st μ G = ev 237 2 [a0, a1, a2] (vI (0) :: st) μ G := ev_stp pg_237_1 rfl
theorem pg_237_2 : mm_prog 237 2 = some (0, .putfield 1, 5, [11, 0, 0]) := by decide +kernel
theorem xe_237_2 (a0 a1 a2 : Option MV) (x y : Int) (st : List MV) (μ : MM) (G : MG) : ev 237 2 [a0, a1, a2] (vI x :: vR y :: st) μ G = if gk G y = 11 then ev 237 5 [a0, a1, a2] st (mset μ y 0 x) G else none := ev_put0 pg_237_2
theorem pg_237_5 : mm_prog 237 5 = some (0, .iload_n 1, 6, []) := by decide +kernel
theorem xe_237_5 (a0 a2 : Option MV) (x : Int) (st : List MV) (μ : MM) (G : MG) : ev 237 5 [a0, some (vI x), a2] st μ G = ev 237 6 [a0, some (vI x), a2] (vI x :: st) μ G := ev_stp pg_237_5 rfl
theorem pg_237_6 : mm_prog 237 6 = some (0, .i2l, 7, []) := by decide +kernel
theorem xe_237_6 (a0 a1 a2 : Option MV) (x : Int) (st : List MV) (μ : MM) (G : MG) : ev 237 6 [a0, a1, a2] (vI x :: st) μ G = ev 237 7 [a0, a1, a2] (vL x :: st) μ G := ev_stp pg_237_6 rfl
theorem pg_237_7 : mm_prog 237 7 = some (0, .lconst 0, 8, []) := by decide +kernel
theorem xe_237_7 (a0 a1 a2 : Option MV) (st : List MV) (μ : MM) (G : MG) : ev 237 7 [a0, a1, a2] st μ G = ev 237 8 [a0, a1, a2] (vL 0 :: st) μ G := ev_stp pg_237_7 rfl
theorem pg_237_8 : mm_prog 237 8 = some (0, .ldc2_w 394, 11, [5]) := by decide +kernel
theorem xe_237_8 (a0 a1 a2 : Option MV) (st : List MV) (μ : MM) (G : MG) : ev 237 8 [a0, a1, a2] st μ G = ev 237 11 [a0, a1, a2] (vL (5) :: st) μ G := ev_stp pg_237_8 rfl
theorem pg_237_11 : mm_prog 237 11 = some (1, .invokestatic 107, 14, [0, 148, 3, 0]) := by decide +kernel
theorem xe_237_11 (a0 a1 a2 : Option MV) (x0 x1 x2 : Int) (μ : MM) (G : MG) : ev 237 11 [a0, a1, a2] (vL x2 :: vL x1 :: vL x0 :: []) μ G = (ev 148 0 [some (vL x0), none, some (vL x1), none, some (vL x2), none] [] μ G).bind (fun q => ev 237 14 [a0, a1, a2] (q.1.toList ++ []) q.2.1 q.2.2) := ev_calS (as := [vL x0, vL x1, vL x2]) (r := []) mx_148 pg_237_11 rfl rfl (Nat.le_of_ble_eq_true rfl) (Nat.le_of_ble_eq_true rfl)
theorem pg_237_14 : mm_prog 237 14 = some (0, .ifCond .ne 6, 17, []) := by decide +kernel
theorem xe_237_14 (a0 a1 a2 : Option MV) (x : Int) (st : List MV) (μ : MM) (G : MG) : ev 237 14 [a0, a1, a2] (vI x :: st) μ G = if ¬ x = 0 then ev 237 20 [a0, a1, a2] st μ G else ev 237 17 [a0, a1, a2] st μ G := ev_br (mm_cnd_ne x 0) pg_237_14 rfl
theorem pg_237_17 : mm_prog 237 17 = some (0, .bipush (-2), 19, []) := by decide +kernel
theorem xe_237_17 (a0 a1 a2 : Option MV) (st : List MV) (μ : MM) (G : MG) : ev 237 17 [a0, a1, a2] st μ G = ev 237 19 [a0, a1, a2] (vI (-2) :: st) μ G := ev_stp pg_237_17 rfl
theorem pg_237_19 : mm_prog 237 19 = some (2, .ireturn, 20, [0]) := by decide +kernel
theorem xe_237_19 (a0 a1 a2 : Option MV) (x : Int) (μ : MM) (G : MG) : ev 237 19 [a0, a1, a2] [vI x] μ G = some (some (vI x), μ, G) := ev_ret pg_237_19 rfl
theorem pg_237_20 : mm_prog 237 20 = some (0, .aload_n 0, 21, []) := by decide +kernel
theorem xe_237_20 (a1 a2 : Option MV) (x : Int) (st : List MV) (μ : MM) (G : MG) : ev 237 20 [some (vR x), a1, a2] st μ G = ev 237 21 [some (vR x), a1, a2] (vR x :: st) μ G := ev_stp pg_237_20 rfl
theorem pg_237_21 : mm_prog 237 21 = some (1, .invokevirtual 396, 24, [1, 233, 0, 11]) := by decide +kernel
theorem xe_237_21 (a0 a1 a2 : Option MV) (z : Int) (μ : MM) (G : MG) : ev 237 21 [a0, a1, a2] (vR z :: []) μ G = if gk G z = 11 ∧ 0 < z then (ev 233 0 [some (vR z), none] [] μ G).bind (fun q => ev 237 24 [a0, a1, a2] (q.1.toList ++ []) q.2.1 q.2.2) else none := ev_calV (as := [vR z]) (r := []) mx_233 pg_237_21 rfl rfl (Nat.le_of_ble_eq_true rfl) (Nat.le_of_ble_eq_true rfl)
theorem pg_237_24 : mm_prog 237 24 = some (0, .aload_n 0, 25, []) := by decide +kernel
theorem xe_237_24 (a1 a2 : Option MV) (x : Int) (st : List MV) (μ : MM) (G : MG) : ev 237 24 [some (vR x), a1, a2] st μ G = ev 237 25 [some (vR x), a1, a2] (vR x :: st) μ G := ev_stp pg_237_24 rfl
theorem pg_237_25 : mm_prog 237 25 = some (0, .iload_n 1, 26, []) := by decide +kernel
theorem xe_237_25 (a0 a2 : Option MV) (x : Int) (st : List MV) (μ : MM) (G : MG) : ev 237 25 [a0, some (vI x), a2] st μ G = ev 237 26 [a0, some (vI x), a2] (vI x :: st) μ G := ev_stp pg_237_25 rfl
theorem pg_237_26 : mm_prog 237 26 = some (0, .aload_n 0, 27, []) := by decide +kernel
theorem xe_237_26 (a1 a2 : Option MV) (x : Int) (st : List MV) (μ : MM) (G : MG) : ev 237 26 [some (vR x), a1, a2] st μ G = ev 237 27 [some (vR x), a1, a2] (vR x :: st) μ G := ev_stp pg_237_26 rfl
theorem pg_237_27 : mm_prog 237 27 = some (1, .invokevirtual 399, 30, [1, 235, 0, 11]) := by decide +kernel
theorem xe_237_27 (a0 a1 a2 : Option MV) (z r0 r1 : Int) (μ : MM) (G : MG) : ev 237 27 [a0, a1, a2] (vR z :: [vI r0, vR r1]) μ G = if gk G z = 11 ∧ 0 < z then (ev 235 0 [some (vR z)] [] μ G).bind (fun q => ev 237 30 [a0, a1, a2] (q.1.toList ++ [vI r0, vR r1]) q.2.1 q.2.2) else none := ev_calV (as := [vR z]) (r := [vI r0, vR r1]) mx_235 pg_237_27 rfl rfl (Nat.le_of_ble_eq_true rfl) (Nat.le_of_ble_eq_true rfl)
theorem pg_237_30 : mm_prog 237 30 = some (1, .invokevirtual 403, 33, [1, 236, 2, 11]) := by decide +kernel
theorem xe_237_30 (a0 a1 a2 : Option MV) (x0 x1 z : Int) (μ : MM) (G : MG) : ev 237 30 [a0, a1, a2] (vI x1 :: vI x0 :: vR z :: []) μ G = if gk G z = 11 ∧ 0 < z then (ev 236 0 [some (vR z), some (vI x0), some (vI x1)] [] μ G).bind (fun q => ev 237 33 [a0, a1, a2] (q.1.toList ++ []) q.2.1 q.2.2) else none := ev_calV (as := [vR z, vI x0, vI x1]) (r := []) mx_236 pg_237_30 rfl rfl (Nat.le_of_ble_eq_true rfl) (Nat.le_of_ble_eq_true rfl)
theorem pg_237_33 : mm_prog 237 33 = some (0, .istore_n 2, 34, []) := by decide +kernel
theorem xe_237_33 (a0 a1 a2 : Option MV) (x : Int) (st : List MV) (μ : MM) (G : MG) (h : mm_nL a1 = true) : ev 237 33 [a0, a1, a2] (vI x :: st) μ G = ev 237 34 [a0, a1, some (vI x)] st μ G := ev_st pg_237_33 rfl (mm_nl_of h) (Nat.le_of_ble_eq_true rfl)
theorem pg_237_34 : mm_prog 237 34 = some (0, .aload_n 0, 35, []) := by decide +kernel
theorem xe_237_34 (a1 a2 : Option MV) (x : Int) (st : List MV) (μ : MM) (G : MG) : ev 237 34 [some (vR x), a1, a2] st μ G = ev 237 35 [some (vR x), a1, a2] (vR x :: st) μ G := ev_stp pg_237_34 rfl
theorem pg_237_35 : mm_prog 237 35 = some (1, .invokevirtual 406, 38, [1, 234, 0, 11]) := by decide +kernel
theorem xe_237_35 (a0 a1 a2 : Option MV) (z : Int) (μ : MM) (G : MG) : ev 237 35 [a0, a1, a2] (vR z :: []) μ G = if gk G z = 11 ∧ 0 < z then (ev 234 0 [some (vR z), none] [] μ G).bind (fun q => ev 237 38 [a0, a1, a2] (q.1.toList ++ []) q.2.1 q.2.2) else none := ev_calV (as := [vR z]) (r := []) mx_234 pg_237_35 rfl rfl (Nat.le_of_ble_eq_true rfl) (Nat.le_of_ble_eq_true rfl)
theorem pg_237_38 : mm_prog 237 38 = some (0, .iload_n 2, 39, []) := by decide +kernel
theorem xe_237_38 (a0 a1 : Option MV) (x : Int) (st : List MV) (μ : MM) (G : MG) : ev 237 38 [a0, a1, some (vI x)] st μ G = ev 237 39 [a0, a1, some (vI x)] (vI x :: st) μ G := ev_stp pg_237_38 rfl
theorem pg_237_39 : mm_prog 237 39 = some (2, .ireturn, 40, [0]) := by decide +kernel
theorem xe_237_39 (a0 a1 a2 : Option MV) (x : Int) (μ : MM) (G : MG) : ev 237 39 [a0, a1, a2] [vI x] μ G = some (some (vI x), μ, G) := ev_ret pg_237_39 rfl
-- X11_margin
theorem pg_238_0 : mm_prog 238 0 = some (0, .aload_n 0, 1, []) := by decide +kernel
theorem xe_238_0 (a1 a2 a3 : Option MV) (x : Int) (st : List MV) (μ : MM) (G : MG) : ev 238 0 [some (vR x), a1, a2, a3] st μ G = ev 238 1 [some (vR x), a1, a2, a3] (vR x :: st) μ G := ev_stp pg_238_0 rfl
theorem pg_238_1 : mm_prog 238 1 = some (0, .iconst 0, 2, []) := by decide +kernel
theorem xe_238_1 (a0 a1 a2 a3 : Option MV) (st : List MV) (μ : MM) (G : MG) : ev 238 1 [a0, a1, a2, a3] st μ G = ev 238 2 [a0, a1, a2, a3] (vI (0) :: st) μ G := ev_stp pg_238_1 rfl
theorem pg_238_2 : mm_prog 238 2 = some (0, .putfield 1, 5, [11, 0, 0]) := by decide +kernel
theorem xe_238_2 (a0 a1 a2 a3 : Option MV) (x y : Int) (st : List MV) (μ : MM) (G : MG) : ev 238 2 [a0, a1, a2, a3] (vI x :: vR y :: st) μ G = if gk G y = 11 then ev 238 5 [a0, a1, a2, a3] st (mset μ y 0 x) G else none := ev_put0 pg_238_2
theorem pg_238_5 : mm_prog 238 5 = some (0, .iload_n 1, 6, []) := by decide +kernel
theorem xe_238_5 (a0 a2 a3 : Option MV) (x : Int) (st : List MV) (μ : MM) (G : MG) : ev 238 5 [a0, some (vI x), a2, a3] st μ G = ev 238 6 [a0, some (vI x), a2, a3] (vI x :: st) μ G := ev_stp pg_238_5 rfl
theorem pg_238_6 : mm_prog 238 6 = some (1, .invokestatic 342, 9, [0, 211, 1, 0]) := by decide +kernel
theorem xe_238_6 (a0 a1 a2 a3 : Option MV) (x0 : Int) (μ : MM) (G : MG) : ev 238 6 [a0, a1, a2, a3] (vI x0 :: []) μ G = (ev 211 0 [some (vI x0)] [] μ G).bind (fun q => ev 238 9 [a0, a1, a2, a3] (q.1.toList ++ []) q.2.1 q.2.2) := ev_calS (as := [vI x0]) (r := []) mx_211 pg_238_6 rfl rfl (Nat.le_of_ble_eq_true rfl) (Nat.le_of_ble_eq_true rfl)
theorem pg_238_9 : mm_prog 238 9 = some (0, .ifCond .ne 6, 12, []) := by decide +kernel
theorem xe_238_9 (a0 a1 a2 a3 : Option MV) (x : Int) (st : List MV) (μ : MM) (G : MG) : ev 238 9 [a0, a1, a2, a3] (vI x :: st) μ G = if ¬ x = 0 then ev 238 15 [a0, a1, a2, a3] st μ G else ev 238 12 [a0, a1, a2, a3] st μ G := ev_br (mm_cnd_ne x 0) pg_238_9 rfl
theorem pg_238_12 : mm_prog 238 12 = some (0, .bipush (-2), 14, []) := by decide +kernel
theorem xe_238_12 (a0 a1 a2 a3 : Option MV) (st : List MV) (μ : MM) (G : MG) : ev 238 12 [a0, a1, a2, a3] st μ G = ev 238 14 [a0, a1, a2, a3] (vI (-2) :: st) μ G := ev_stp pg_238_12 rfl
theorem pg_238_14 : mm_prog 238 14 = some (2, .ireturn, 15, [0]) := by decide +kernel
theorem xe_238_14 (a0 a1 a2 a3 : Option MV) (x : Int) (μ : MM) (G : MG) : ev 238 14 [a0, a1, a2, a3] [vI x] μ G = some (some (vI x), μ, G) := ev_ret pg_238_14 rfl
theorem pg_238_15 : mm_prog 238 15 = some (0, .aload_n 0, 16, []) := by decide +kernel
theorem xe_238_15 (a1 a2 a3 : Option MV) (x : Int) (st : List MV) (μ : MM) (G : MG) : ev 238 15 [some (vR x), a1, a2, a3] st μ G = ev 238 16 [some (vR x), a1, a2, a3] (vR x :: st) μ G := ev_stp pg_238_15 rfl
theorem pg_238_16 : mm_prog 238 16 = some (1, .invokevirtual 396, 19, [1, 233, 0, 11]) := by decide +kernel
theorem xe_238_16 (a0 a1 a2 a3 : Option MV) (z : Int) (μ : MM) (G : MG) : ev 238 16 [a0, a1, a2, a3] (vR z :: []) μ G = if gk G z = 11 ∧ 0 < z then (ev 233 0 [some (vR z), none] [] μ G).bind (fun q => ev 238 19 [a0, a1, a2, a3] (q.1.toList ++ []) q.2.1 q.2.2) else none := ev_calV (as := [vR z]) (r := []) mx_233 pg_238_16 rfl rfl (Nat.le_of_ble_eq_true rfl) (Nat.le_of_ble_eq_true rfl)
theorem pg_238_19 : mm_prog 238 19 = some (0, .aload_n 0, 20, []) := by decide +kernel
theorem xe_238_19 (a1 a2 a3 : Option MV) (x : Int) (st : List MV) (μ : MM) (G : MG) : ev 238 19 [some (vR x), a1, a2, a3] st μ G = ev 238 20 [some (vR x), a1, a2, a3] (vR x :: st) μ G := ev_stp pg_238_19 rfl
theorem pg_238_20 : mm_prog 238 20 = some (1, .invokevirtual 399, 23, [1, 235, 0, 11]) := by decide +kernel
theorem xe_238_20 (a0 a1 a2 a3 : Option MV) (z : Int) (μ : MM) (G : MG) : ev 238 20 [a0, a1, a2, a3] (vR z :: []) μ G = if gk G z = 11 ∧ 0 < z then (ev 235 0 [some (vR z)] [] μ G).bind (fun q => ev 238 23 [a0, a1, a2, a3] (q.1.toList ++ []) q.2.1 q.2.2) else none := ev_calV (as := [vR z]) (r := []) mx_235 pg_238_20 rfl rfl (Nat.le_of_ble_eq_true rfl) (Nat.le_of_ble_eq_true rfl)
theorem pg_238_23 : mm_prog 238 23 = some (0, .istore_n 2, 24, []) := by decide +kernel
theorem xe_238_23 (a0 a1 a2 a3 : Option MV) (x : Int) (st : List MV) (μ : MM) (G : MG) (h : mm_nL a1 = true) : ev 238 23 [a0, a1, a2, a3] (vI x :: st) μ G = ev 238 24 [a0, a1, some (vI x), a3] st μ G := ev_st pg_238_23 rfl (mm_nl_of h) (Nat.le_of_ble_eq_true rfl)
theorem pg_238_24 : mm_prog 238 24 = some (0, .aload_n 0, 25, []) := by decide +kernel
theorem xe_238_24 (a1 a2 a3 : Option MV) (x : Int) (st : List MV) (μ : MM) (G : MG) : ev 238 24 [some (vR x), a1, a2, a3] st μ G = ev 238 25 [some (vR x), a1, a2, a3] (vR x :: st) μ G := ev_stp pg_238_24 rfl
theorem pg_238_25 : mm_prog 238 25 = some (0, .getfield 81, 28, [11, 37, 2]) := by decide +kernel
theorem xe_238_25 (a0 a1 a2 a3 : Option MV) (x : Int) (st : List MV) (μ : MM) (G : MG) : ev 238 25 [a0, a1, a2, a3] (vR x :: st) μ G = if gk G x = 11 then ev 238 28 [a0, a1, a2, a3] (vR (μ x 37) :: st) μ G else none := ev_if pg_238_25 rfl
theorem pg_238_28 : mm_prog 238 28 = some (0, .iload_n 1, 29, []) := by decide +kernel
theorem xe_238_28 (a0 a2 a3 : Option MV) (x : Int) (st : List MV) (μ : MM) (G : MG) : ev 238 28 [a0, some (vI x), a2, a3] st μ G = ev 238 29 [a0, some (vI x), a2, a3] (vI x :: st) μ G := ev_stp pg_238_28 rfl
theorem pg_238_29 : mm_prog 238 29 = some (0, .bipush 30, 31, []) := by decide +kernel
theorem xe_238_29 (a0 a1 a2 a3 : Option MV) (st : List MV) (μ : MM) (G : MG) : ev 238 29 [a0, a1, a2, a3] st μ G = ev 238 31 [a0, a1, a2, a3] (vI (30) :: st) μ G := ev_stp pg_238_29 rfl
theorem pg_238_31 : mm_prog 238 31 = some (0, .iastore, 32, []) := by decide +kernel
theorem xe_238_31 (a0 a1 a2 a3 : Option MV) (x y z : Int) (st : List MV) (μ : MM) (G : MG) : ev 238 31 [a0, a1, a2, a3] (vI x :: vI y :: vR z :: st) μ G = if gk G z = 100 ∧ 0 ≤ y ∧ y < gl G z ∧ 10 ≤ z then ev 238 32 [a0, a1, a2, a3] st (mset μ z y x) G else none := ev_if pg_238_31 rfl
theorem pg_238_32 : mm_prog 238 32 = some (0, .aload_n 0, 33, []) := by decide +kernel
theorem xe_238_32 (a1 a2 a3 : Option MV) (x : Int) (st : List MV) (μ : MM) (G : MG) : ev 238 32 [some (vR x), a1, a2, a3] st μ G = ev 238 33 [some (vR x), a1, a2, a3] (vR x :: st) μ G := ev_stp pg_238_32 rfl
theorem pg_238_33 : mm_prog 238 33 = some (1, .invokevirtual 399, 36, [1, 235, 0, 11]) := by decide +kernel
theorem xe_238_33 (a0 a1 a2 a3 : Option MV) (z : Int) (μ : MM) (G : MG) : ev 238 33 [a0, a1, a2, a3] (vR z :: []) μ G = if gk G z = 11 ∧ 0 < z then (ev 235 0 [some (vR z)] [] μ G).bind (fun q => ev 238 36 [a0, a1, a2, a3] (q.1.toList ++ []) q.2.1 q.2.2) else none := ev_calV (as := [vR z]) (r := []) mx_235 pg_238_33 rfl rfl (Nat.le_of_ble_eq_true rfl) (Nat.le_of_ble_eq_true rfl)
theorem pg_238_36 : mm_prog 238 36 = some (0, .iload_n 2, 37, []) := by decide +kernel
theorem xe_238_36 (a0 a1 a3 : Option MV) (x : Int) (st : List MV) (μ : MM) (G : MG) : ev 238 36 [a0, a1, some (vI x), a3] st μ G = ev 238 37 [a0, a1, some (vI x), a3] (vI x :: st) μ G := ev_stp pg_238_36 rfl
theorem pg_238_37 : mm_prog 238 37 = some (0, .if_icmp .ge 16, 40, []) := by decide +kernel
theorem xe_238_37 (a0 a1 a2 a3 : Option MV) (x y : Int) (st : List MV) (μ : MM) (G : MG) : ev 238 37 [a0, a1, a2, a3] (vI y :: vI x :: st) μ G = if y ≤ x then ev 238 53 [a0, a1, a2, a3] st μ G else ev 238 40 [a0, a1, a2, a3] st μ G := ev_br (mm_cnd_ge x y) pg_238_37 rfl
theorem pg_238_40 : mm_prog 238 40 = some (0, .aload_n 0, 41, []) := by decide +kernel
theorem xe_238_40 (a1 a2 a3 : Option MV) (x : Int) (st : List MV) (μ : MM) (G : MG) : ev 238 40 [some (vR x), a1, a2, a3] st μ G = ev 238 41 [some (vR x), a1, a2, a3] (vR x :: st) μ G := ev_stp pg_238_40 rfl
theorem pg_238_41 : mm_prog 238 41 = some (0, .getfield 81, 44, [11, 37, 2]) := by decide +kernel
theorem xe_238_41 (a0 a1 a2 a3 : Option MV) (x : Int) (st : List MV) (μ : MM) (G : MG) : ev 238 41 [a0, a1, a2, a3] (vR x :: st) μ G = if gk G x = 11 then ev 238 44 [a0, a1, a2, a3] (vR (μ x 37) :: st) μ G else none := ev_if pg_238_41 rfl
theorem pg_238_44 : mm_prog 238 44 = some (0, .iload_n 1, 45, []) := by decide +kernel
theorem xe_238_44 (a0 a2 a3 : Option MV) (x : Int) (st : List MV) (μ : MM) (G : MG) : ev 238 44 [a0, some (vI x), a2, a3] st μ G = ev 238 45 [a0, some (vI x), a2, a3] (vI x :: st) μ G := ev_stp pg_238_44 rfl
theorem pg_238_45 : mm_prog 238 45 = some (0, .dup2, 46, []) := by decide +kernel
theorem xe_238_45 (a0 a1 a2 a3 : Option MV) (x y : Int) (st : List MV) (μ : MM) (G : MG) : ev 238 45 [a0, a1, a2, a3] (vI x :: vR y :: st) μ G = ev 238 46 [a0, a1, a2, a3] (vI x :: vR y :: vI x :: vR y :: st) μ G := ev_stp pg_238_45 rfl
theorem pg_238_46 : mm_prog 238 46 = some (0, .iaload, 47, []) := by decide +kernel
theorem xe_238_46 (a0 a1 a2 a3 : Option MV) (x y : Int) (st : List MV) (μ : MM) (G : MG) : ev 238 46 [a0, a1, a2, a3] (vI x :: vR y :: st) μ G = if gk G y = 100 ∧ 0 ≤ x ∧ x < gl G y then ev 238 47 [a0, a1, a2, a3] (vI (μ y x) :: st) μ G else none := ev_if pg_238_46 rfl
theorem pg_238_47 : mm_prog 238 47 = some (0, .iconst 1, 48, []) := by decide +kernel
theorem xe_238_47 (a0 a1 a2 a3 : Option MV) (st : List MV) (μ : MM) (G : MG) : ev 238 47 [a0, a1, a2, a3] st μ G = ev 238 48 [a0, a1, a2, a3] (vI (1) :: st) μ G := ev_stp pg_238_47 rfl
theorem pg_238_48 : mm_prog 238 48 = some (0, .isub, 49, []) := by decide +kernel
theorem xe_238_48 (a0 a1 a2 a3 : Option MV) (x y : Int) (st : List MV) (μ : MM) (G : MG) : ev 238 48 [a0, a1, a2, a3] (vI y :: vI x :: st) μ G = ev 238 49 [a0, a1, a2, a3] (vI (w32 (x - y)) :: st) μ G := ev_stp pg_238_48 rfl
theorem pg_238_49 : mm_prog 238 49 = some (0, .iastore, 50, []) := by decide +kernel
theorem xe_238_49 (a0 a1 a2 a3 : Option MV) (x y z : Int) (st : List MV) (μ : MM) (G : MG) : ev 238 49 [a0, a1, a2, a3] (vI x :: vI y :: vR z :: st) μ G = if gk G z = 100 ∧ 0 ≤ y ∧ y < gl G z ∧ 10 ≤ z then ev 238 50 [a0, a1, a2, a3] st (mset μ z y x) G else none := ev_if pg_238_49 rfl
theorem pg_238_50 : mm_prog 238 50 = some (0, .goto (-18), 53, []) := by decide +kernel
theorem xe_238_50 (a0 a1 a2 a3 : Option MV) (st : List MV) (μ : MM) (G : MG) : ev 238 50 [a0, a1, a2, a3] st μ G = ev 238 32 [a0, a1, a2, a3] st μ G := ev_stp pg_238_50 rfl
theorem pg_238_53 : mm_prog 238 53 = some (0, .aload_n 0, 54, []) := by decide +kernel
theorem xe_238_53 (a1 a2 a3 : Option MV) (x : Int) (st : List MV) (μ : MM) (G : MG) : ev 238 53 [some (vR x), a1, a2, a3] st μ G = ev 238 54 [some (vR x), a1, a2, a3] (vR x :: st) μ G := ev_stp pg_238_53 rfl
theorem pg_238_54 : mm_prog 238 54 = some (0, .getfield 81, 57, [11, 37, 2]) := by decide +kernel
theorem xe_238_54 (a0 a1 a2 a3 : Option MV) (x : Int) (st : List MV) (μ : MM) (G : MG) : ev 238 54 [a0, a1, a2, a3] (vR x :: st) μ G = if gk G x = 11 then ev 238 57 [a0, a1, a2, a3] (vR (μ x 37) :: st) μ G else none := ev_if pg_238_54 rfl
theorem pg_238_57 : mm_prog 238 57 = some (0, .iload_n 1, 58, []) := by decide +kernel
theorem xe_238_57 (a0 a2 a3 : Option MV) (x : Int) (st : List MV) (μ : MM) (G : MG) : ev 238 57 [a0, some (vI x), a2, a3] st μ G = ev 238 58 [a0, some (vI x), a2, a3] (vI x :: st) μ G := ev_stp pg_238_57 rfl
theorem pg_238_58 : mm_prog 238 58 = some (0, .iaload, 59, []) := by decide +kernel
theorem xe_238_58 (a0 a1 a2 a3 : Option MV) (x y : Int) (st : List MV) (μ : MM) (G : MG) : ev 238 58 [a0, a1, a2, a3] (vI x :: vR y :: st) μ G = if gk G y = 100 ∧ 0 ≤ x ∧ x < gl G y then ev 238 59 [a0, a1, a2, a3] (vI (μ y x) :: st) μ G else none := ev_if pg_238_58 rfl
theorem pg_238_59 : mm_prog 238 59 = some (0, .istore_n 3, 60, []) := by decide +kernel
theorem xe_238_59 (a0 a1 a2 a3 : Option MV) (x : Int) (st : List MV) (μ : MM) (G : MG) (h : mm_nL a2 = true) : ev 238 59 [a0, a1, a2, a3] (vI x :: st) μ G = ev 238 60 [a0, a1, a2, some (vI x)] st μ G := ev_st pg_238_59 rfl (mm_nl_of h) (Nat.le_of_ble_eq_true rfl)
theorem pg_238_60 : mm_prog 238 60 = some (0, .aload_n 0, 61, []) := by decide +kernel
theorem xe_238_60 (a1 a2 a3 : Option MV) (x : Int) (st : List MV) (μ : MM) (G : MG) : ev 238 60 [some (vR x), a1, a2, a3] st μ G = ev 238 61 [some (vR x), a1, a2, a3] (vR x :: st) μ G := ev_stp pg_238_60 rfl
theorem pg_238_61 : mm_prog 238 61 = some (1, .invokevirtual 406, 64, [1, 234, 0, 11]) := by decide +kernel
theorem xe_238_61 (a0 a1 a2 a3 : Option MV) (z : Int) (μ : MM) (G : MG) : ev 238 61 [a0, a1, a2, a3] (vR z :: []) μ G = if gk G z = 11 ∧ 0 < z then (ev 234 0 [some (vR z), none] [] μ G).bind (fun q => ev 238 64 [a0, a1, a2, a3] (q.1.toList ++ []) q.2.1 q.2.2) else none := ev_calV (as := [vR z]) (r := []) mx_234 pg_238_61 rfl rfl (Nat.le_of_ble_eq_true rfl) (Nat.le_of_ble_eq_true rfl)
theorem pg_238_64 : mm_prog 238 64 = some (0, .iload_n 3, 65, []) := by decide +kernel
theorem xe_238_64 (a0 a1 a2 : Option MV) (x : Int) (st : List MV) (μ : MM) (G : MG) : ev 238 64 [a0, a1, a2, some (vI x)] st μ G = ev 238 65 [a0, a1, a2, some (vI x)] (vI x :: st) μ G := ev_stp pg_238_64 rfl
theorem pg_238_65 : mm_prog 238 65 = some (2, .ireturn, 66, [0]) := by decide +kernel
theorem xe_238_65 (a0 a1 a2 a3 : Option MV) (x : Int) (μ : MM) (G : MG) : ev 238 65 [a0, a1, a2, a3] [vI x] μ G = some (some (vI x), μ, G) := ev_ret pg_238_65 rfl
-- X11_triesOrder
theorem pg_239_0 : mm_prog 239 0 = some (0, .iload_n 1, 1, []) := by decide +kernel
theorem xe_239_0 (a0 a2 a3 : Option MV) (x : Int) (st : List MV) (μ : MM) (G : MG) : ev 239 0 [a0, some (vI x), a2, a3] st μ G = ev 239 1 [a0, some (vI x), a2, a3] (vI x :: st) μ G := ev_stp pg_239_0 rfl
theorem pg_239_1 : mm_prog 239 1 = some (0, .istore_n 2, 2, []) := by decide +kernel
theorem xe_239_1 (a0 a1 a2 a3 : Option MV) (x : Int) (st : List MV) (μ : MM) (G : MG) (h : mm_nL a1 = true) : ev 239 1 [a0, a1, a2, a3] (vI x :: st) μ G = ev 239 2 [a0, a1, some (vI x), a3] st μ G := ev_st pg_239_1 rfl (mm_nl_of h) (Nat.le_of_ble_eq_true rfl)
theorem pg_239_2 : mm_prog 239 2 = some (0, .iconst 3, 3, []) := by decide +kernel
theorem xe_239_2 (a0 a1 a2 a3 : Option MV) (st : List MV) (μ : MM) (G : MG) : ev 239 2 [a0, a1, a2, a3] st μ G = ev 239 3 [a0, a1, a2, a3] (vI (3) :: st) μ G := ev_stp pg_239_2 rfl
theorem pg_239_3 : mm_prog 239 3 = some (0, .istore_n 3, 4, []) := by decide +kernel
theorem xe_239_3 (a0 a1 a2 a3 : Option MV) (x : Int) (st : List MV) (μ : MM) (G : MG) (h : mm_nL a2 = true) : ev 239 3 [a0, a1, a2, a3] (vI x :: st) μ G = ev 239 4 [a0, a1, a2, some (vI x)] st μ G := ev_st pg_239_3 rfl (mm_nl_of h) (Nat.le_of_ble_eq_true rfl)
theorem pg_239_4 : mm_prog 239 4 = some (0, .iload_n 3, 5, []) := by decide +kernel
theorem xe_239_4 (a0 a1 a2 : Option MV) (x : Int) (st : List MV) (μ : MM) (G : MG) : ev 239 4 [a0, a1, a2, some (vI x)] st μ G = ev 239 5 [a0, a1, a2, some (vI x)] (vI x :: st) μ G := ev_stp pg_239_4 rfl
theorem pg_239_5 : mm_prog 239 5 = some (0, .ifCond .lt 44, 8, []) := by decide +kernel
theorem xe_239_5 (a0 a1 a2 a3 : Option MV) (x : Int) (st : List MV) (μ : MM) (G : MG) : ev 239 5 [a0, a1, a2, a3] (vI x :: st) μ G = if x < 0 then ev 239 49 [a0, a1, a2, a3] st μ G else ev 239 8 [a0, a1, a2, a3] st μ G := ev_br (mm_cnd_lt x 0) pg_239_5 rfl
theorem pg_239_8 : mm_prog 239 8 = some (0, .aload_n 0, 9, []) := by decide +kernel
theorem xe_239_8 (a1 a2 a3 : Option MV) (x : Int) (st : List MV) (μ : MM) (G : MG) : ev 239 8 [some (vR x), a1, a2, a3] st μ G = ev 239 9 [some (vR x), a1, a2, a3] (vR x :: st) μ G := ev_stp pg_239_8 rfl
theorem pg_239_9 : mm_prog 239 9 = some (0, .getfield 81, 12, [11, 37, 2]) := by decide +kernel
theorem xe_239_9 (a0 a1 a2 a3 : Option MV) (x : Int) (st : List MV) (μ : MM) (G : MG) : ev 239 9 [a0, a1, a2, a3] (vR x :: st) μ G = if gk G x = 11 then ev 239 12 [a0, a1, a2, a3] (vR (μ x 37) :: st) μ G else none := ev_if pg_239_9 rfl
theorem pg_239_12 : mm_prog 239 12 = some (0, .iload_n 3, 13, []) := by decide +kernel
theorem xe_239_12 (a0 a1 a2 : Option MV) (x : Int) (st : List MV) (μ : MM) (G : MG) : ev 239 12 [a0, a1, a2, some (vI x)] st μ G = ev 239 13 [a0, a1, a2, some (vI x)] (vI x :: st) μ G := ev_stp pg_239_12 rfl
theorem pg_239_13 : mm_prog 239 13 = some (0, .aload_n 0, 14, []) := by decide +kernel
theorem xe_239_13 (a1 a2 a3 : Option MV) (x : Int) (st : List MV) (μ : MM) (G : MG) : ev 239 13 [some (vR x), a1, a2, a3] st μ G = ev 239 14 [some (vR x), a1, a2, a3] (vR x :: st) μ G := ev_stp pg_239_13 rfl
theorem pg_239_14 : mm_prog 239 14 = some (0, .getfield 87, 17, [11, 39, 2]) := by decide +kernel
theorem xe_239_14 (a0 a1 a2 a3 : Option MV) (x : Int) (st : List MV) (μ : MM) (G : MG) : ev 239 14 [a0, a1, a2, a3] (vR x :: st) μ G = if gk G x = 11 then ev 239 17 [a0, a1, a2, a3] (vR (μ x 39) :: st) μ G else none := ev_if pg_239_14 rfl
theorem pg_239_17 : mm_prog 239 17 = some (0, .iload_n 2, 18, []) := by decide +kernel
theorem xe_239_17 (a0 a1 a3 : Option MV) (x : Int) (st : List MV) (μ : MM) (G : MG) : ev 239 17 [a0, a1, some (vI x), a3] st μ G = ev 239 18 [a0, a1, some (vI x), a3] (vI x :: st) μ G := ev_stp pg_239_17 rfl
theorem pg_239_18 : mm_prog 239 18 = some (0, .bipush 10, 20, []) := by decide +kernel
theorem xe_239_18 (a0 a1 a2 a3 : Option MV) (st : List MV) (μ : MM) (G : MG) : ev 239 18 [a0, a1, a2, a3] st μ G = ev 239 20 [a0, a1, a2, a3] (vI (10) :: st) μ G := ev_stp pg_239_18 rfl
theorem pg_239_20 : mm_prog 239 20 = some (0, .irem, 21, []) := by decide +kernel
theorem xe_239_20 (a0 a1 a2 a3 : Option MV) (x y : Int) (st : List MV) (μ : MM) (G : MG) : ev 239 20 [a0, a1, a2, a3] (vI y :: vI x :: st) μ G = if y = 0 then none else ev 239 21 [a0, a1, a2, a3] (vI (mm_rem x y) :: st) μ G := ev_no pg_239_20 rfl
theorem pg_239_21 : mm_prog 239 21 = some (0, .iaload, 22, []) := by decide +kernel
theorem xe_239_21 (a0 a1 a2 a3 : Option MV) (x y : Int) (st : List MV) (μ : MM) (G : MG) : ev 239 21 [a0, a1, a2, a3] (vI x :: vR y :: st) μ G = if gk G y = 100 ∧ 0 ≤ x ∧ x < gl G y then ev 239 22 [a0, a1, a2, a3] (vI (μ y x) :: st) μ G else none := ev_if pg_239_21 rfl
theorem pg_239_22 : mm_prog 239 22 = some (0, .iastore, 23, []) := by decide +kernel
theorem xe_239_22 (a0 a1 a2 a3 : Option MV) (x y z : Int) (st : List MV) (μ : MM) (G : MG) : ev 239 22 [a0, a1, a2, a3] (vI x :: vI y :: vR z :: st) μ G = if gk G z = 100 ∧ 0 ≤ y ∧ y < gl G z ∧ 10 ≤ z then ev 239 23 [a0, a1, a2, a3] st (mset μ z y x) G else none := ev_if pg_239_22 rfl
theorem pg_239_23 : mm_prog 239 23 = some (0, .aload_n 0, 24, []) := by decide +kernel
theorem xe_239_23 (a1 a2 a3 : Option MV) (x : Int) (st : List MV) (μ : MM) (G : MG) : ev 239 23 [some (vR x), a1, a2, a3] st μ G = ev 239 24 [some (vR x), a1, a2, a3] (vR x :: st) μ G := ev_stp pg_239_23 rfl
theorem pg_239_24 : mm_prog 239 24 = some (0, .getfield 84, 27, [11, 38, 2]) := by decide +kernel
theorem xe_239_24 (a0 a1 a2 a3 : Option MV) (x : Int) (st : List MV) (μ : MM) (G : MG) : ev 239 24 [a0, a1, a2, a3] (vR x :: st) μ G = if gk G x = 11 then ev 239 27 [a0, a1, a2, a3] (vR (μ x 38) :: st) μ G else none := ev_if pg_239_24 rfl
theorem pg_239_27 : mm_prog 239 27 = some (0, .iload_n 3, 28, []) := by decide +kernel
theorem xe_239_27 (a0 a1 a2 : Option MV) (x : Int) (st : List MV) (μ : MM) (G : MG) : ev 239 27 [a0, a1, a2, some (vI x)] st μ G = ev 239 28 [a0, a1, a2, some (vI x)] (vI x :: st) μ G := ev_stp pg_239_27 rfl
theorem pg_239_28 : mm_prog 239 28 = some (0, .aload_n 0, 29, []) := by decide +kernel
theorem xe_239_28 (a1 a2 a3 : Option MV) (x : Int) (st : List MV) (μ : MM) (G : MG) : ev 239 28 [some (vR x), a1, a2, a3] st μ G = ev 239 29 [some (vR x), a1, a2, a3] (vR x :: st) μ G := ev_stp pg_239_28 rfl
theorem pg_239_29 : mm_prog 239 29 = some (0, .getfield 90, 32, [11, 40, 2]) := by decide +kernel
theorem xe_239_29 (a0 a1 a2 a3 : Option MV) (x : Int) (st : List MV) (μ : MM) (G : MG) : ev 239 29 [a0, a1, a2, a3] (vR x :: st) μ G = if gk G x = 11 then ev 239 32 [a0, a1, a2, a3] (vR (μ x 40) :: st) μ G else none := ev_if pg_239_29 rfl
theorem pg_239_32 : mm_prog 239 32 = some (0, .iload_n 2, 33, []) := by decide +kernel
theorem xe_239_32 (a0 a1 a3 : Option MV) (x : Int) (st : List MV) (μ : MM) (G : MG) : ev 239 32 [a0, a1, some (vI x), a3] st μ G = ev 239 33 [a0, a1, some (vI x), a3] (vI x :: st) μ G := ev_stp pg_239_32 rfl
theorem pg_239_33 : mm_prog 239 33 = some (0, .bipush 10, 35, []) := by decide +kernel
theorem xe_239_33 (a0 a1 a2 a3 : Option MV) (st : List MV) (μ : MM) (G : MG) : ev 239 33 [a0, a1, a2, a3] st μ G = ev 239 35 [a0, a1, a2, a3] (vI (10) :: st) μ G := ev_stp pg_239_33 rfl
theorem pg_239_35 : mm_prog 239 35 = some (0, .irem, 36, []) := by decide +kernel
theorem xe_239_35 (a0 a1 a2 a3 : Option MV) (x y : Int) (st : List MV) (μ : MM) (G : MG) : ev 239 35 [a0, a1, a2, a3] (vI y :: vI x :: st) μ G = if y = 0 then none else ev 239 36 [a0, a1, a2, a3] (vI (mm_rem x y) :: st) μ G := ev_no pg_239_35 rfl
theorem pg_239_36 : mm_prog 239 36 = some (0, .iaload, 37, []) := by decide +kernel
theorem xe_239_36 (a0 a1 a2 a3 : Option MV) (x y : Int) (st : List MV) (μ : MM) (G : MG) : ev 239 36 [a0, a1, a2, a3] (vI x :: vR y :: st) μ G = if gk G y = 100 ∧ 0 ≤ x ∧ x < gl G y then ev 239 37 [a0, a1, a2, a3] (vI (μ y x) :: st) μ G else none := ev_if pg_239_36 rfl
theorem pg_239_37 : mm_prog 239 37 = some (0, .iastore, 38, []) := by decide +kernel
theorem xe_239_37 (a0 a1 a2 a3 : Option MV) (x y z : Int) (st : List MV) (μ : MM) (G : MG) : ev 239 37 [a0, a1, a2, a3] (vI x :: vI y :: vR z :: st) μ G = if gk G z = 100 ∧ 0 ≤ y ∧ y < gl G z ∧ 10 ≤ z then ev 239 38 [a0, a1, a2, a3] st (mset μ z y x) G else none := ev_if pg_239_37 rfl
theorem pg_239_38 : mm_prog 239 38 = some (0, .iload_n 2, 39, []) := by decide +kernel
theorem xe_239_38 (a0 a1 a3 : Option MV) (x : Int) (st : List MV) (μ : MM) (G : MG) : ev 239 38 [a0, a1, some (vI x), a3] st μ G = ev 239 39 [a0, a1, some (vI x), a3] (vI x :: st) μ G := ev_stp pg_239_38 rfl
theorem pg_239_39 : mm_prog 239 39 = some (0, .bipush 10, 41, []) := by decide +kernel
theorem xe_239_39 (a0 a1 a2 a3 : Option MV) (st : List MV) (μ : MM) (G : MG) : ev 239 39 [a0, a1, a2, a3] st μ G = ev 239 41 [a0, a1, a2, a3] (vI (10) :: st) μ G := ev_stp pg_239_39 rfl
theorem pg_239_41 : mm_prog 239 41 = some (0, .idiv, 42, []) := by decide +kernel
theorem xe_239_41 (a0 a1 a2 a3 : Option MV) (x y : Int) (st : List MV) (μ : MM) (G : MG) : ev 239 41 [a0, a1, a2, a3] (vI y :: vI x :: st) μ G = if y = 0 then none else ev 239 42 [a0, a1, a2, a3] (vI (mm_div x y) :: st) μ G := ev_no pg_239_41 rfl
theorem pg_239_42 : mm_prog 239 42 = some (0, .istore_n 2, 43, []) := by decide +kernel
theorem xe_239_42 (a0 a1 a2 a3 : Option MV) (x : Int) (st : List MV) (μ : MM) (G : MG) (h : mm_nL a1 = true) : ev 239 42 [a0, a1, a2, a3] (vI x :: st) μ G = ev 239 43 [a0, a1, some (vI x), a3] st μ G := ev_st pg_239_42 rfl (mm_nl_of h) (Nat.le_of_ble_eq_true rfl)
theorem pg_239_43 : mm_prog 239 43 = some (0, .iinc 3 (-1), 46, []) := by decide +kernel
theorem xe_239_43 (a0 a1 a2 : Option MV) (x : Int) (st : List MV) (μ : MM) (G : MG) (h : mm_nL a2 = true) : ev 239 43 [a0, a1, a2, some (vI x)] st μ G = ev 239 46 [a0, a1, a2, some (vI (w32 (x + (-1))))] st μ G := ev_st pg_239_43 rfl (mm_nl_of h) (Nat.le_of_ble_eq_true rfl)
theorem pg_239_46 : mm_prog 239 46 = some (0, .goto (-42), 49, []) := by decide +kernel
theorem xe_239_46 (a0 a1 a2 a3 : Option MV) (st : List MV) (μ : MM) (G : MG) : ev 239 46 [a0, a1, a2, a3] st μ G = ev 239 4 [a0, a1, a2, a3] st μ G := ev_stp pg_239_46 rfl
theorem pg_239_49 : mm_prog 239 49 = some (0, .aload_n 0, 50, []) := by decide +kernel
theorem xe_239_49 (a1 a2 a3 : Option MV) (x : Int) (st : List MV) (μ : MM) (G : MG) : ev 239 49 [some (vR x), a1, a2, a3] st μ G = ev 239 50 [some (vR x), a1, a2, a3] (vR x :: st) μ G := ev_stp pg_239_49 rfl
theorem pg_239_50 : mm_prog 239 50 = some (1, .invokevirtual 399, 53, [1, 235, 0, 11]) := by decide +kernel
theorem xe_239_50 (a0 a1 a2 a3 : Option MV) (z : Int) (μ : MM) (G : MG) : ev 239 50 [a0, a1, a2, a3] (vR z :: []) μ G = if gk G z = 11 ∧ 0 < z then (ev 235 0 [some (vR z)] [] μ G).bind (fun q => ev 239 53 [a0, a1, a2, a3] (q.1.toList ++ []) q.2.1 q.2.2) else none := ev_calV (as := [vR z]) (r := []) mx_235 pg_239_50 rfl rfl (Nat.le_of_ble_eq_true rfl) (Nat.le_of_ble_eq_true rfl)
theorem pg_239_53 : mm_prog 239 53 = some (0, .istore_n 3, 54, []) := by decide +kernel
theorem xe_239_53 (a0 a1 a2 a3 : Option MV) (x : Int) (st : List MV) (μ : MM) (G : MG) (h : mm_nL a2 = true) : ev 239 53 [a0, a1, a2, a3] (vI x :: st) μ G = ev 239 54 [a0, a1, a2, some (vI x)] st μ G := ev_st pg_239_53 rfl (mm_nl_of h) (Nat.le_of_ble_eq_true rfl)
theorem pg_239_54 : mm_prog 239 54 = some (0, .iload_n 3, 55, []) := by decide +kernel
theorem xe_239_54 (a0 a1 a2 : Option MV) (x : Int) (st : List MV) (μ : MM) (G : MG) : ev 239 54 [a0, a1, a2, some (vI x)] st μ G = ev 239 55 [a0, a1, a2, some (vI x)] (vI x :: st) μ G := ev_stp pg_239_54 rfl
theorem pg_239_55 : mm_prog 239 55 = some (0, .aload_n 0, 56, []) := by decide +kernel
theorem xe_239_55 (a1 a2 a3 : Option MV) (x : Int) (st : List MV) (μ : MM) (G : MG) : ev 239 55 [some (vR x), a1, a2, a3] st μ G = ev 239 56 [some (vR x), a1, a2, a3] (vR x :: st) μ G := ev_stp pg_239_55 rfl
theorem pg_239_56 : mm_prog 239 56 = some (0, .getfield 409, 59, [11, 45, 0]) := by decide +kernel
theorem xe_239_56 (a0 a1 a2 a3 : Option MV) (x : Int) (st : List MV) (μ : MM) (G : MG) : ev 239 56 [a0, a1, a2, a3] (vR x :: st) μ G = if gk G x = 11 then ev 239 59 [a0, a1, a2, a3] (vI (μ x 45) :: st) μ G else none := ev_if pg_239_56 rfl
theorem pg_239_59 : mm_prog 239 59 = some (0, .if_icmp .gt 4, 62, []) := by decide +kernel
theorem xe_239_59 (a0 a1 a2 a3 : Option MV) (x y : Int) (st : List MV) (μ : MM) (G : MG) : ev 239 59 [a0, a1, a2, a3] (vI y :: vI x :: st) μ G = if y < x then ev 239 63 [a0, a1, a2, a3] st μ G else ev 239 62 [a0, a1, a2, a3] st μ G := ev_br (mm_cnd_gt x y) pg_239_59 rfl
theorem pg_239_62 : mm_prog 239 62 = some (2, .return_, 63, []) := by decide +kernel
theorem xe_239_62 (a0 a1 a2 a3 : Option MV) (μ : MM) (G : MG) : ev 239 62 [a0, a1, a2, a3] [] μ G = some (none, μ, G) := ev_ret pg_239_62 rfl
theorem pg_239_63 : mm_prog 239 63 = some (0, .aload_n 0, 64, []) := by decide +kernel
theorem xe_239_63 (a1 a2 a3 : Option MV) (x : Int) (st : List MV) (μ : MM) (G : MG) : ev 239 63 [some (vR x), a1, a2, a3] st μ G = ev 239 64 [some (vR x), a1, a2, a3] (vR x :: st) μ G := ev_stp pg_239_63 rfl
theorem pg_239_64 : mm_prog 239 64 = some (0, .iload_n 3, 65, []) := by decide +kernel
theorem xe_239_64 (a0 a1 a2 : Option MV) (x : Int) (st : List MV) (μ : MM) (G : MG) : ev 239 64 [a0, a1, a2, some (vI x)] st μ G = ev 239 65 [a0, a1, a2, some (vI x)] (vI x :: st) μ G := ev_stp pg_239_64 rfl
theorem pg_239_65 : mm_prog 239 65 = some (0, .putfield 409, 68, [11, 45, 0]) := by decide +kernel
theorem xe_239_65 (a0 a1 a2 a3 : Option MV) (x y : Int) (st : List MV) (μ : MM) (G : MG) : ev 239 65 [a0, a1, a2, a3] (vI x :: vR y :: st) μ G = if gk G y = 11 then ev 239 68 [a0, a1, a2, a3] st (mset μ y 45 x) G else none := ev_put0 pg_239_65
theorem pg_239_68 : mm_prog 239 68 = some (0, .aload_n 0, 69, []) := by decide +kernel
theorem xe_239_68 (a1 a2 a3 : Option MV) (x : Int) (st : List MV) (μ : MM) (G : MG) : ev 239 68 [some (vR x), a1, a2, a3] st μ G = ev 239 69 [some (vR x), a1, a2, a3] (vR x :: st) μ G := ev_stp pg_239_68 rfl
theorem pg_239_69 : mm_prog 239 69 = some (0, .iload_n 1, 70, []) := by decide +kernel
theorem xe_239_69 (a0 a2 a3 : Option MV) (x : Int) (st : List MV) (μ : MM) (G : MG) : ev 239 69 [a0, some (vI x), a2, a3] st μ G = ev 239 70 [a0, some (vI x), a2, a3] (vI x :: st) μ G := ev_stp pg_239_69 rfl
theorem pg_239_70 : mm_prog 239 70 = some (0, .putfield 412, 73, [11, 46, 0]) := by decide +kernel
theorem xe_239_70 (a0 a1 a2 a3 : Option MV) (x y : Int) (st : List MV) (μ : MM) (G : MG) : ev 239 70 [a0, a1, a2, a3] (vI x :: vR y :: st) μ G = if gk G y = 11 then ev 239 73 [a0, a1, a2, a3] st (mset μ y 46 x) G else none := ev_put0 pg_239_70
theorem pg_239_73 : mm_prog 239 73 = some (2, .return_, 74, []) := by decide +kernel
theorem xe_239_73 (a0 a1 a2 a3 : Option MV) (μ : MM) (G : MG) : ev 239 73 [a0, a1, a2, a3] [] μ G = some (none, μ, G) := ev_ret pg_239_73 rfl
-- X11_isOrder
theorem pg_240_0 : mm_prog 240 0 = some (0, .iconst 0, 1, []) := by decide +kernel
theorem xe_240_0 (a0 a1 a2 a3 : Option MV) (st : List MV) (μ : MM) (G : MG) : ev 240 0 [a0, a1, a2, a3] st μ G = ev 240 1 [a0, a1, a2, a3] (vI (0) :: st) μ G := ev_stp pg_240_0 rfl
theorem pg_240_1 : mm_prog 240 1 = some (0, .istore_n 1, 2, []) := by decide +kernel
theorem xe_240_1 (a0 a1 a2 a3 : Option MV) (x : Int) (st : List MV) (μ : MM) (G : MG) (h : mm_nL a0 = true) : ev 240 1 [a0, a1, a2, a3] (vI x :: st) μ G = ev 240 2 [a0, some (vI x), a2, a3] st μ G := ev_st pg_240_1 rfl (mm_nl_of h) (Nat.le_of_ble_eq_true rfl)
theorem pg_240_2 : mm_prog 240 2 = some (0, .iload_n 0, 3, []) := by decide +kernel
theorem xe_240_2 (a1 a2 a3 : Option MV) (x : Int) (st : List MV) (μ : MM) (G : MG) : ev 240 2 [some (vI x), a1, a2, a3] st μ G = ev 240 3 [some (vI x), a1, a2, a3] (vI x :: st) μ G := ev_stp pg_240_2 rfl
theorem pg_240_3 : mm_prog 240 3 = some (0, .istore_n 2, 4, []) := by decide +kernel
theorem xe_240_3 (a0 a1 a2 a3 : Option MV) (x : Int) (st : List MV) (μ : MM) (G : MG) (h : mm_nL a1 = true) : ev 240 3 [a0, a1, a2, a3] (vI x :: st) μ G = ev 240 4 [a0, a1, some (vI x), a3] st μ G := ev_st pg_240_3 rfl (mm_nl_of h) (Nat.le_of_ble_eq_true rfl)
theorem pg_240_4 : mm_prog 240 4 = some (0, .iconst 0, 5, []) := by decide +kernel
theorem xe_240_4 (a0 a1 a2 a3 : Option MV) (st : List MV) (μ : MM) (G : MG) : ev 240 4 [a0, a1, a2, a3] st μ G = ev 240 5 [a0, a1, a2, a3] (vI (0) :: st) μ G := ev_stp pg_240_4 rfl
theorem pg_240_5 : mm_prog 240 5 = some (0, .istore_n 3, 6, []) := by decide +kernel
theorem xe_240_5 (a0 a1 a2 a3 : Option MV) (x : Int) (st : List MV) (μ : MM) (G : MG) (h : mm_nL a2 = true) : ev 240 5 [a0, a1, a2, a3] (vI x :: st) μ G = ev 240 6 [a0, a1, a2, some (vI x)] st μ G := ev_st pg_240_5 rfl (mm_nl_of h) (Nat.le_of_ble_eq_true rfl)
theorem pg_240_6 : mm_prog 240 6 = some (0, .iload_n 3, 7, []) := by decide +kernel
theorem xe_240_6 (a0 a1 a2 : Option MV) (x : Int) (st : List MV) (μ : MM) (G : MG) : ev 240 6 [a0, a1, a2, some (vI x)] st μ G = ev 240 7 [a0, a1, a2, some (vI x)] (vI x :: st) μ G := ev_stp pg_240_6 rfl
theorem pg_240_7 : mm_prog 240 7 = some (0, .iconst 4, 8, []) := by decide +kernel
theorem xe_240_7 (a0 a1 a2 a3 : Option MV) (st : List MV) (μ : MM) (G : MG) : ev 240 7 [a0, a1, a2, a3] st μ G = ev 240 8 [a0, a1, a2, a3] (vI (4) :: st) μ G := ev_stp pg_240_7 rfl
theorem pg_240_8 : mm_prog 240 8 = some (0, .if_icmp .ge 23, 11, []) := by decide +kernel
theorem xe_240_8 (a0 a1 a2 a3 : Option MV) (x y : Int) (st : List MV) (μ : MM) (G : MG) : ev 240 8 [a0, a1, a2, a3] (vI y :: vI x :: st) μ G = if y ≤ x then ev 240 31 [a0, a1, a2, a3] st μ G else ev 240 11 [a0, a1, a2, a3] st μ G := ev_br (mm_cnd_ge x y) pg_240_8 rfl
theorem pg_240_11 : mm_prog 240 11 = some (0, .iload_n 1, 12, []) := by decide +kernel
theorem xe_240_11 (a0 a2 a3 : Option MV) (x : Int) (st : List MV) (μ : MM) (G : MG) : ev 240 11 [a0, some (vI x), a2, a3] st μ G = ev 240 12 [a0, some (vI x), a2, a3] (vI x :: st) μ G := ev_stp pg_240_11 rfl
theorem pg_240_12 : mm_prog 240 12 = some (0, .iconst 1, 13, []) := by decide +kernel
theorem xe_240_12 (a0 a1 a2 a3 : Option MV) (st : List MV) (μ : MM) (G : MG) : ev 240 12 [a0, a1, a2, a3] st μ G = ev 240 13 [a0, a1, a2, a3] (vI (1) :: st) μ G := ev_stp pg_240_12 rfl
theorem pg_240_13 : mm_prog 240 13 = some (0, .iload_n 2, 14, []) := by decide +kernel
theorem xe_240_13 (a0 a1 a3 : Option MV) (x : Int) (st : List MV) (μ : MM) (G : MG) : ev 240 13 [a0, a1, some (vI x), a3] st μ G = ev 240 14 [a0, a1, some (vI x), a3] (vI x :: st) μ G := ev_stp pg_240_13 rfl
theorem pg_240_14 : mm_prog 240 14 = some (0, .bipush 10, 16, []) := by decide +kernel
theorem xe_240_14 (a0 a1 a2 a3 : Option MV) (st : List MV) (μ : MM) (G : MG) : ev 240 14 [a0, a1, a2, a3] st μ G = ev 240 16 [a0, a1, a2, a3] (vI (10) :: st) μ G := ev_stp pg_240_14 rfl
theorem pg_240_16 : mm_prog 240 16 = some (0, .irem, 17, []) := by decide +kernel
theorem xe_240_16 (a0 a1 a2 a3 : Option MV) (x y : Int) (st : List MV) (μ : MM) (G : MG) : ev 240 16 [a0, a1, a2, a3] (vI y :: vI x :: st) μ G = if y = 0 then none else ev 240 17 [a0, a1, a2, a3] (vI (mm_rem x y) :: st) μ G := ev_no pg_240_16 rfl
theorem pg_240_17 : mm_prog 240 17 = some (0, .ishl, 18, []) := by decide +kernel
theorem xe_240_17 (a0 a1 a2 a3 : Option MV) (x y : Int) (st : List MV) (μ : MM) (G : MG) : ev 240 17 [a0, a1, a2, a3] (vI y :: vI x :: st) μ G = ev 240 18 [a0, a1, a2, a3] (vI (mm_shl x y) :: st) μ G := ev_stp pg_240_17 rfl
theorem pg_240_18 : mm_prog 240 18 = some (0, .ior, 19, []) := by decide +kernel
theorem xe_240_18 (a0 a1 a2 a3 : Option MV) (x y : Int) (st : List MV) (μ : MM) (G : MG) : ev 240 18 [a0, a1, a2, a3] (vI y :: vI x :: st) μ G = ev 240 19 [a0, a1, a2, a3] (vI (mm_or x y) :: st) μ G := ev_stp pg_240_18 rfl
theorem pg_240_19 : mm_prog 240 19 = some (0, .istore_n 1, 20, []) := by decide +kernel
theorem xe_240_19 (a0 a1 a2 a3 : Option MV) (x : Int) (st : List MV) (μ : MM) (G : MG) (h : mm_nL a0 = true) : ev 240 19 [a0, a1, a2, a3] (vI x :: st) μ G = ev 240 20 [a0, some (vI x), a2, a3] st μ G := ev_st pg_240_19 rfl (mm_nl_of h) (Nat.le_of_ble_eq_true rfl)
theorem pg_240_20 : mm_prog 240 20 = some (0, .iload_n 2, 21, []) := by decide +kernel
theorem xe_240_20 (a0 a1 a3 : Option MV) (x : Int) (st : List MV) (μ : MM) (G : MG) : ev 240 20 [a0, a1, some (vI x), a3] st μ G = ev 240 21 [a0, a1, some (vI x), a3] (vI x :: st) μ G := ev_stp pg_240_20 rfl
theorem pg_240_21 : mm_prog 240 21 = some (0, .bipush 10, 23, []) := by decide +kernel
theorem xe_240_21 (a0 a1 a2 a3 : Option MV) (st : List MV) (μ : MM) (G : MG) : ev 240 21 [a0, a1, a2, a3] st μ G = ev 240 23 [a0, a1, a2, a3] (vI (10) :: st) μ G := ev_stp pg_240_21 rfl
theorem pg_240_23 : mm_prog 240 23 = some (0, .idiv, 24, []) := by decide +kernel
theorem xe_240_23 (a0 a1 a2 a3 : Option MV) (x y : Int) (st : List MV) (μ : MM) (G : MG) : ev 240 23 [a0, a1, a2, a3] (vI y :: vI x :: st) μ G = if y = 0 then none else ev 240 24 [a0, a1, a2, a3] (vI (mm_div x y) :: st) μ G := ev_no pg_240_23 rfl
theorem pg_240_24 : mm_prog 240 24 = some (0, .istore_n 2, 25, []) := by decide +kernel
theorem xe_240_24 (a0 a1 a2 a3 : Option MV) (x : Int) (st : List MV) (μ : MM) (G : MG) (h : mm_nL a1 = true) : ev 240 24 [a0, a1, a2, a3] (vI x :: st) μ G = ev 240 25 [a0, a1, some (vI x), a3] st μ G := ev_st pg_240_24 rfl (mm_nl_of h) (Nat.le_of_ble_eq_true rfl)
theorem pg_240_25 : mm_prog 240 25 = some (0, .iinc 3 1, 28, []) := by decide +kernel
theorem xe_240_25 (a0 a1 a2 : Option MV) (x : Int) (st : List MV) (μ : MM) (G : MG) (h : mm_nL a2 = true) : ev 240 25 [a0, a1, a2, some (vI x)] st μ G = ev 240 28 [a0, a1, a2, some (vI (w32 (x + (1))))] st μ G := ev_st pg_240_25 rfl (mm_nl_of h) (Nat.le_of_ble_eq_true rfl)
theorem pg_240_28 : mm_prog 240 28 = some (0, .goto (-22), 31, []) := by decide +kernel
theorem xe_240_28 (a0 a1 a2 a3 : Option MV) (st : List MV) (μ : MM) (G : MG) : ev 240 28 [a0, a1, a2, a3] st μ G = ev 240 6 [a0, a1, a2, a3] st μ G := ev_stp pg_240_28 rfl
theorem pg_240_31 : mm_prog 240 31 = some (0, .iload_n 1, 32, []) := by decide +kernel
theorem xe_240_31 (a0 a2 a3 : Option MV) (x : Int) (st : List MV) (μ : MM) (G : MG) : ev 240 31 [a0, some (vI x), a2, a3] st μ G = ev 240 32 [a0, some (vI x), a2, a3] (vI x :: st) μ G := ev_stp pg_240_31 rfl
theorem pg_240_32 : mm_prog 240 32 = some (0, .bipush 15, 34, []) := by decide +kernel
theorem xe_240_32 (a0 a1 a2 a3 : Option MV) (st : List MV) (μ : MM) (G : MG) : ev 240 32 [a0, a1, a2, a3] st μ G = ev 240 34 [a0, a1, a2, a3] (vI (15) :: st) μ G := ev_stp pg_240_32 rfl
theorem pg_240_34 : mm_prog 240 34 = some (0, .if_icmp .ne 7, 37, []) := by decide +kernel
theorem xe_240_34 (a0 a1 a2 a3 : Option MV) (x y : Int) (st : List MV) (μ : MM) (G : MG) : ev 240 34 [a0, a1, a2, a3] (vI y :: vI x :: st) μ G = if ¬ x = y then ev 240 41 [a0, a1, a2, a3] st μ G else ev 240 37 [a0, a1, a2, a3] st μ G := ev_br (mm_cnd_ne x y) pg_240_34 rfl
theorem pg_240_37 : mm_prog 240 37 = some (0, .iconst 1, 38, []) := by decide +kernel
theorem xe_240_37 (a0 a1 a2 a3 : Option MV) (st : List MV) (μ : MM) (G : MG) : ev 240 37 [a0, a1, a2, a3] st μ G = ev 240 38 [a0, a1, a2, a3] (vI (1) :: st) μ G := ev_stp pg_240_37 rfl
theorem pg_240_38 : mm_prog 240 38 = some (0, .goto 4, 41, []) := by decide +kernel
theorem xe_240_38 (a0 a1 a2 a3 : Option MV) (st : List MV) (μ : MM) (G : MG) : ev 240 38 [a0, a1, a2, a3] st μ G = ev 240 42 [a0, a1, a2, a3] st μ G := ev_stp pg_240_38 rfl
theorem pg_240_41 : mm_prog 240 41 = some (0, .iconst 0, 42, []) := by decide +kernel
theorem xe_240_41 (a0 a1 a2 a3 : Option MV) (st : List MV) (μ : MM) (G : MG) : ev 240 41 [a0, a1, a2, a3] st μ G = ev 240 42 [a0, a1, a2, a3] (vI (0) :: st) μ G := ev_stp pg_240_41 rfl
theorem pg_240_42 : mm_prog 240 42 = some (2, .ireturn, 43, [1]) := by decide +kernel
theorem xe_240_42 (a0 a1 a2 a3 : Option MV) (x : Int) (μ : MM) (G : MG) : ev 240 42 [a0, a1, a2, a3] [vI x] μ G = if x = 0 ∨ x = 1 then some (some (vI x), μ, G) else none := ev_retB pg_240_42
-- X11_laid
theorem pg_241_0 : mm_prog 241 0 = some (0, .aload_n 0, 1, []) := by decide +kernel
theorem xe_241_0 (a1 a2 : Option MV) (x : Int) (st : List MV) (μ : MM) (G : MG) : ev 241 0 [some (vR x), a1, a2] st μ G = ev 241 1 [some (vR x), a1, a2] (vR x :: st) μ G := ev_stp pg_241_0 rfl
theorem pg_241_1 : mm_prog 241 1 = some (0, .iconst 0, 2, []) := by decide +kernel
theorem xe_241_1 (a0 a1 a2 : Option MV) (st : List MV) (μ : MM) (G : MG) : ev 241 1 [a0, a1, a2] st μ G = ev 241 2 [a0, a1, a2] (vI (0) :: st) μ G := ev_stp pg_241_1 rfl
theorem pg_241_2 : mm_prog 241 2 = some (0, .putfield 1, 5, [11, 0, 0]) := by decide +kernel
theorem xe_241_2 (a0 a1 a2 : Option MV) (x y : Int) (st : List MV) (μ : MM) (G : MG) : ev 241 2 [a0, a1, a2] (vI x :: vR y :: st) μ G = if gk G y = 11 then ev 241 5 [a0, a1, a2] st (mset μ y 0 x) G else none := ev_put0 pg_241_2
theorem pg_241_5 : mm_prog 241 5 = some (0, .iload_n 1, 6, []) := by decide +kernel
theorem xe_241_5 (a0 a2 : Option MV) (x : Int) (st : List MV) (μ : MM) (G : MG) : ev 241 5 [a0, some (vI x), a2] st μ G = ev 241 6 [a0, some (vI x), a2] (vI x :: st) μ G := ev_stp pg_241_5 rfl
theorem pg_241_6 : mm_prog 241 6 = some (0, .i2l, 7, []) := by decide +kernel
theorem xe_241_6 (a0 a1 a2 : Option MV) (x : Int) (st : List MV) (μ : MM) (G : MG) : ev 241 6 [a0, a1, a2] (vI x :: st) μ G = ev 241 7 [a0, a1, a2] (vL x :: st) μ G := ev_stp pg_241_6 rfl
theorem pg_241_7 : mm_prog 241 7 = some (0, .lconst 0, 8, []) := by decide +kernel
theorem xe_241_7 (a0 a1 a2 : Option MV) (st : List MV) (μ : MM) (G : MG) : ev 241 7 [a0, a1, a2] st μ G = ev 241 8 [a0, a1, a2] (vL 0 :: st) μ G := ev_stp pg_241_7 rfl
theorem pg_241_8 : mm_prog 241 8 = some (0, .lconst 1, 9, []) := by decide +kernel
theorem xe_241_8 (a0 a1 a2 : Option MV) (st : List MV) (μ : MM) (G : MG) : ev 241 8 [a0, a1, a2] st μ G = ev 241 9 [a0, a1, a2] (vL 1 :: st) μ G := ev_stp pg_241_8 rfl
theorem pg_241_9 : mm_prog 241 9 = some (1, .invokestatic 107, 12, [0, 148, 3, 0]) := by decide +kernel
theorem xe_241_9 (a0 a1 a2 : Option MV) (x0 x1 x2 : Int) (μ : MM) (G : MG) : ev 241 9 [a0, a1, a2] (vL x2 :: vL x1 :: vL x0 :: []) μ G = (ev 148 0 [some (vL x0), none, some (vL x1), none, some (vL x2), none] [] μ G).bind (fun q => ev 241 12 [a0, a1, a2] (q.1.toList ++ []) q.2.1 q.2.2) := ev_calS (as := [vL x0, vL x1, vL x2]) (r := []) mx_148 pg_241_9 rfl rfl (Nat.le_of_ble_eq_true rfl) (Nat.le_of_ble_eq_true rfl)
theorem pg_241_12 : mm_prog 241 12 = some (0, .ifCond .ne 6, 15, []) := by decide +kernel
theorem xe_241_12 (a0 a1 a2 : Option MV) (x : Int) (st : List MV) (μ : MM) (G : MG) : ev 241 12 [a0, a1, a2] (vI x :: st) μ G = if ¬ x = 0 then ev 241 18 [a0, a1, a2] st μ G else ev 241 15 [a0, a1, a2] st μ G := ev_br (mm_cnd_ne x 0) pg_241_12 rfl
theorem pg_241_15 : mm_prog 241 15 = some (0, .bipush (-2), 17, []) := by decide +kernel
theorem xe_241_15 (a0 a1 a2 : Option MV) (st : List MV) (μ : MM) (G : MG) : ev 241 15 [a0, a1, a2] st μ G = ev 241 17 [a0, a1, a2] (vI (-2) :: st) μ G := ev_stp pg_241_15 rfl
theorem pg_241_17 : mm_prog 241 17 = some (2, .ireturn, 18, [0]) := by decide +kernel
theorem xe_241_17 (a0 a1 a2 : Option MV) (x : Int) (μ : MM) (G : MG) : ev 241 17 [a0, a1, a2] [vI x] μ G = some (some (vI x), μ, G) := ev_ret pg_241_17 rfl
theorem pg_241_18 : mm_prog 241 18 = some (0, .aload_n 0, 19, []) := by decide +kernel
theorem xe_241_18 (a1 a2 : Option MV) (x : Int) (st : List MV) (μ : MM) (G : MG) : ev 241 18 [some (vR x), a1, a2] st μ G = ev 241 19 [some (vR x), a1, a2] (vR x :: st) μ G := ev_stp pg_241_18 rfl
theorem pg_241_19 : mm_prog 241 19 = some (1, .invokevirtual 396, 22, [1, 233, 0, 11]) := by decide +kernel
theorem xe_241_19 (a0 a1 a2 : Option MV) (z : Int) (μ : MM) (G : MG) : ev 241 19 [a0, a1, a2] (vR z :: []) μ G = if gk G z = 11 ∧ 0 < z then (ev 233 0 [some (vR z), none] [] μ G).bind (fun q => ev 241 22 [a0, a1, a2] (q.1.toList ++ []) q.2.1 q.2.2) else none := ev_calV (as := [vR z]) (r := []) mx_233 pg_241_19 rfl rfl (Nat.le_of_ble_eq_true rfl) (Nat.le_of_ble_eq_true rfl)
theorem pg_241_22 : mm_prog 241 22 = some (0, .aload_n 0, 23, []) := by decide +kernel
theorem xe_241_22 (a1 a2 : Option MV) (x : Int) (st : List MV) (μ : MM) (G : MG) : ev 241 22 [some (vR x), a1, a2] st μ G = ev 241 23 [some (vR x), a1, a2] (vR x :: st) μ G := ev_stp pg_241_22 rfl
theorem pg_241_23 : mm_prog 241 23 = some (0, .iconst (-1), 24, []) := by decide +kernel
theorem xe_241_23 (a0 a1 a2 : Option MV) (st : List MV) (μ : MM) (G : MG) : ev 241 23 [a0, a1, a2] st μ G = ev 241 24 [a0, a1, a2] (vI (-1) :: st) μ G := ev_stp pg_241_23 rfl
theorem pg_241_24 : mm_prog 241 24 = some (0, .putfield 409, 27, [11, 45, 0]) := by decide +kernel
theorem xe_241_24 (a0 a1 a2 : Option MV) (x y : Int) (st : List MV) (μ : MM) (G : MG) : ev 241 24 [a0, a1, a2] (vI x :: vR y :: st) μ G = if gk G y = 11 then ev 241 27 [a0, a1, a2] st (mset μ y 45 x) G else none := ev_put0 pg_241_24
theorem pg_241_27 : mm_prog 241 27 = some (0, .bipush 123, 29, []) := by decide +kernel
theorem xe_241_27 (a0 a1 a2 : Option MV) (st : List MV) (μ : MM) (G : MG) : ev 241 27 [a0, a1, a2] st μ G = ev 241 29 [a0, a1, a2] (vI (123) :: st) μ G := ev_stp pg_241_27 rfl
theorem pg_241_29 : mm_prog 241 29 = some (0, .istore_n 2, 30, []) := by decide +kernel
theorem xe_241_29 (a0 a1 a2 : Option MV) (x : Int) (st : List MV) (μ : MM) (G : MG) (h : mm_nL a1 = true) : ev 241 29 [a0, a1, a2] (vI x :: st) μ G = ev 241 30 [a0, a1, some (vI x)] st μ G := ev_st pg_241_29 rfl (mm_nl_of h) (Nat.le_of_ble_eq_true rfl)
theorem pg_241_30 : mm_prog 241 30 = some (0, .iload_n 2, 31, []) := by decide +kernel
theorem xe_241_30 (a0 a1 : Option MV) (x : Int) (st : List MV) (μ : MM) (G : MG) : ev 241 30 [a0, a1, some (vI x)] st μ G = ev 241 31 [a0, a1, some (vI x)] (vI x :: st) μ G := ev_stp pg_241_30 rfl
theorem pg_241_31 : mm_prog 241 31 = some (0, .sipush 3210, 34, []) := by decide +kernel
theorem xe_241_31 (a0 a1 a2 : Option MV) (st : List MV) (μ : MM) (G : MG) : ev 241 31 [a0, a1, a2] st μ G = ev 241 34 [a0, a1, a2] (vI (3210) :: st) μ G := ev_stp pg_241_31 rfl
theorem pg_241_34 : mm_prog 241 34 = some (0, .if_icmp .gt 21, 37, []) := by decide +kernel
theorem xe_241_34 (a0 a1 a2 : Option MV) (x y : Int) (st : List MV) (μ : MM) (G : MG) : ev 241 34 [a0, a1, a2] (vI y :: vI x :: st) μ G = if y < x then ev 241 55 [a0, a1, a2] st μ G else ev 241 37 [a0, a1, a2] st μ G := ev_br (mm_cnd_gt x y) pg_241_34 rfl
theorem pg_241_37 : mm_prog 241 37 = some (0, .iload_n 2, 38, []) := by decide +kernel
theorem xe_241_37 (a0 a1 : Option MV) (x : Int) (st : List MV) (μ : MM) (G : MG) : ev 241 37 [a0, a1, some (vI x)] st μ G = ev 241 38 [a0, a1, some (vI x)] (vI x :: st) μ G := ev_stp pg_241_37 rfl
theorem pg_241_38 : mm_prog 241 38 = some (1, .invokestatic 415, 41, [0, 240, 1, 0]) := by decide +kernel
theorem xe_241_38 (a0 a1 a2 : Option MV) (x0 : Int) (μ : MM) (G : MG) : ev 241 38 [a0, a1, a2] (vI x0 :: []) μ G = (ev 240 0 [some (vI x0), none, none, none] [] μ G).bind (fun q => ev 241 41 [a0, a1, a2] (q.1.toList ++ []) q.2.1 q.2.2) := ev_calS (as := [vI x0]) (r := []) mx_240 pg_241_38 rfl rfl (Nat.le_of_ble_eq_true rfl) (Nat.le_of_ble_eq_true rfl)
theorem pg_241_41 : mm_prog 241 41 = some (0, .ifCond .eq 8, 44, []) := by decide +kernel
theorem xe_241_41 (a0 a1 a2 : Option MV) (x : Int) (st : List MV) (μ : MM) (G : MG) : ev 241 41 [a0, a1, a2] (vI x :: st) μ G = if x = 0 then ev 241 49 [a0, a1, a2] st μ G else ev 241 44 [a0, a1, a2] st μ G := ev_br (mm_cnd_eq x 0) pg_241_41 rfl
theorem pg_241_44 : mm_prog 241 44 = some (0, .aload_n 0, 45, []) := by decide +kernel
theorem xe_241_44 (a1 a2 : Option MV) (x : Int) (st : List MV) (μ : MM) (G : MG) : ev 241 44 [some (vR x), a1, a2] st μ G = ev 241 45 [some (vR x), a1, a2] (vR x :: st) μ G := ev_stp pg_241_44 rfl
theorem pg_241_45 : mm_prog 241 45 = some (0, .iload_n 2, 46, []) := by decide +kernel
theorem xe_241_45 (a0 a1 : Option MV) (x : Int) (st : List MV) (μ : MM) (G : MG) : ev 241 45 [a0, a1, some (vI x)] st μ G = ev 241 46 [a0, a1, some (vI x)] (vI x :: st) μ G := ev_stp pg_241_45 rfl
theorem pg_241_46 : mm_prog 241 46 = some (1, .invokevirtual 418, 49, [1, 239, 1, 11]) := by decide +kernel
theorem xe_241_46 (a0 a1 a2 : Option MV) (x0 z : Int) (μ : MM) (G : MG) : ev 241 46 [a0, a1, a2] (vI x0 :: vR z :: []) μ G = if gk G z = 11 ∧ 0 < z then (ev 239 0 [some (vR z), some (vI x0), none, none] [] μ G).bind (fun q => ev 241 49 [a0, a1, a2] (q.1.toList ++ []) q.2.1 q.2.2) else none := ev_calV (as := [vR z, vI x0]) (r := []) mx_239 pg_241_46 rfl rfl (Nat.le_of_ble_eq_true rfl) (Nat.le_of_ble_eq_true rfl)
theorem pg_241_49 : mm_prog 241 49 = some (0, .iinc 2 1, 52, []) := by decide +kernel
theorem xe_241_49 (a0 a1 : Option MV) (x : Int) (st : List MV) (μ : MM) (G : MG) (h : mm_nL a1 = true) : ev 241 49 [a0, a1, some (vI x)] st μ G = ev 241 52 [a0, a1, some (vI (w32 (x + (1))))] st μ G := ev_st pg_241_49 rfl (mm_nl_of h) (Nat.le_of_ble_eq_true rfl)
theorem pg_241_52 : mm_prog 241 52 = some (0, .goto (-22), 55, []) := by decide +kernel
theorem xe_241_52 (a0 a1 a2 : Option MV) (st : List MV) (μ : MM) (G : MG) : ev 241 52 [a0, a1, a2] st μ G = ev 241 30 [a0, a1, a2] st μ G := ev_stp pg_241_52 rfl
theorem pg_241_55 : mm_prog 241 55 = some (0, .aload_n 0, 56, []) := by decide +kernel
theorem xe_241_55 (a1 a2 : Option MV) (x : Int) (st : List MV) (μ : MM) (G : MG) : ev 241 55 [some (vR x), a1, a2] st μ G = ev 241 56 [some (vR x), a1, a2] (vR x :: st) μ G := ev_stp pg_241_55 rfl
theorem pg_241_56 : mm_prog 241 56 = some (1, .invokevirtual 406, 59, [1, 234, 0, 11]) := by decide +kernel
theorem xe_241_56 (a0 a1 a2 : Option MV) (z : Int) (μ : MM) (G : MG) : ev 241 56 [a0, a1, a2] (vR z :: []) μ G = if gk G z = 11 ∧ 0 < z then (ev 234 0 [some (vR z), none] [] μ G).bind (fun q => ev 241 59 [a0, a1, a2] (q.1.toList ++ []) q.2.1 q.2.2) else none := ev_calV (as := [vR z]) (r := []) mx_234 pg_241_56 rfl rfl (Nat.le_of_ble_eq_true rfl) (Nat.le_of_ble_eq_true rfl)
theorem pg_241_59 : mm_prog 241 59 = some (0, .iload_n 1, 60, []) := by decide +kernel
theorem xe_241_59 (a0 a2 : Option MV) (x : Int) (st : List MV) (μ : MM) (G : MG) : ev 241 59 [a0, some (vI x), a2] st μ G = ev 241 60 [a0, some (vI x), a2] (vI x :: st) μ G := ev_stp pg_241_59 rfl
theorem pg_241_60 : mm_prog 241 60 = some (0, .ifCond .ne 10, 63, []) := by decide +kernel
theorem xe_241_60 (a0 a1 a2 : Option MV) (x : Int) (st : List MV) (μ : MM) (G : MG) : ev 241 60 [a0, a1, a2] (vI x :: st) μ G = if ¬ x = 0 then ev 241 70 [a0, a1, a2] st μ G else ev 241 63 [a0, a1, a2] st μ G := ev_br (mm_cnd_ne x 0) pg_241_60 rfl
theorem pg_241_63 : mm_prog 241 63 = some (0, .aload_n 0, 64, []) := by decide +kernel
theorem xe_241_63 (a1 a2 : Option MV) (x : Int) (st : List MV) (μ : MM) (G : MG) : ev 241 63 [some (vR x), a1, a2] st μ G = ev 241 64 [some (vR x), a1, a2] (vR x :: st) μ G := ev_stp pg_241_63 rfl
theorem pg_241_64 : mm_prog 241 64 = some (0, .getfield 409, 67, [11, 45, 0]) := by decide +kernel
theorem xe_241_64 (a0 a1 a2 : Option MV) (x : Int) (st : List MV) (μ : MM) (G : MG) : ev 241 64 [a0, a1, a2] (vR x :: st) μ G = if gk G x = 11 then ev 241 67 [a0, a1, a2] (vI (μ x 45) :: st) μ G else none := ev_if pg_241_64 rfl
theorem pg_241_67 : mm_prog 241 67 = some (0, .goto 7, 70, []) := by decide +kernel
theorem xe_241_67 (a0 a1 a2 : Option MV) (st : List MV) (μ : MM) (G : MG) : ev 241 67 [a0, a1, a2] st μ G = ev 241 74 [a0, a1, a2] st μ G := ev_stp pg_241_67 rfl
theorem pg_241_70 : mm_prog 241 70 = some (0, .aload_n 0, 71, []) := by decide +kernel
theorem xe_241_70 (a1 a2 : Option MV) (x : Int) (st : List MV) (μ : MM) (G : MG) : ev 241 70 [some (vR x), a1, a2] st μ G = ev 241 71 [some (vR x), a1, a2] (vR x :: st) μ G := ev_stp pg_241_70 rfl
theorem pg_241_71 : mm_prog 241 71 = some (0, .getfield 412, 74, [11, 46, 0]) := by decide +kernel
theorem xe_241_71 (a0 a1 a2 : Option MV) (x : Int) (st : List MV) (μ : MM) (G : MG) : ev 241 71 [a0, a1, a2] (vR x :: st) μ G = if gk G x = 11 then ev 241 74 [a0, a1, a2] (vI (μ x 46) :: st) μ G else none := ev_if pg_241_71 rfl
theorem pg_241_74 : mm_prog 241 74 = some (2, .ireturn, 75, [0]) := by decide +kernel
theorem xe_241_74 (a0 a1 a2 : Option MV) (x : Int) (μ : MM) (G : MG) : ev 241 74 [a0, a1, a2] [vI x] μ G = some (some (vI x), μ, G) := ev_ret pg_241_74 rfl
-- X11_enough
theorem pg_242_0 : mm_prog 242 0 = some (0, .aload_n 0, 1, []) := by decide +kernel
theorem xe_242_0 (a1 a2 a3 : Option MV) (x : Int) (st : List MV) (μ : MM) (G : MG) : ev 242 0 [some (vR x), a1, a2, a3] st μ G = ev 242 1 [some (vR x), a1, a2, a3] (vR x :: st) μ G := ev_stp pg_242_0 rfl
theorem pg_242_1 : mm_prog 242 1 = some (0, .iconst 0, 2, []) := by decide +kernel
theorem xe_242_1 (a0 a1 a2 a3 : Option MV) (st : List MV) (μ : MM) (G : MG) : ev 242 1 [a0, a1, a2, a3] st μ G = ev 242 2 [a0, a1, a2, a3] (vI (0) :: st) μ G := ev_stp pg_242_1 rfl
theorem pg_242_2 : mm_prog 242 2 = some (0, .putfield 1, 5, [11, 0, 0]) := by decide +kernel
theorem xe_242_2 (a0 a1 a2 a3 : Option MV) (x y : Int) (st : List MV) (μ : MM) (G : MG) : ev 242 2 [a0, a1, a2, a3] (vI x :: vR y :: st) μ G = if gk G y = 11 then ev 242 5 [a0, a1, a2, a3] st (mset μ y 0 x) G else none := ev_put0 pg_242_2
theorem pg_242_5 : mm_prog 242 5 = some (0, .aload_n 0, 6, []) := by decide +kernel
theorem xe_242_5 (a1 a2 a3 : Option MV) (x : Int) (st : List MV) (μ : MM) (G : MG) : ev 242 5 [some (vR x), a1, a2, a3] st μ G = ev 242 6 [some (vR x), a1, a2, a3] (vR x :: st) μ G := ev_stp pg_242_5 rfl
theorem pg_242_6 : mm_prog 242 6 = some (1, .invokevirtual 396, 9, [1, 233, 0, 11]) := by decide +kernel
theorem xe_242_6 (a0 a1 a2 a3 : Option MV) (z : Int) (μ : MM) (G : MG) : ev 242 6 [a0, a1, a2, a3] (vR z :: []) μ G = if gk G z = 11 ∧ 0 < z then (ev 233 0 [some (vR z), none] [] μ G).bind (fun q => ev 242 9 [a0, a1, a2, a3] (q.1.toList ++ []) q.2.1 q.2.2) else none := ev_calV (as := [vR z]) (r := []) mx_233 pg_242_6 rfl rfl (Nat.le_of_ble_eq_true rfl) (Nat.le_of_ble_eq_true rfl)
theorem pg_242_9 : mm_prog 242 9 = some (0, .aload_n 0, 10, []) := by decide +kernel
theorem xe_242_9 (a1 a2 a3 : Option MV) (x : Int) (st : List MV) (μ : MM) (G : MG) : ev 242 9 [some (vR x), a1, a2, a3] st μ G = ev 242 10 [some (vR x), a1, a2, a3] (vR x :: st) μ G := ev_stp pg_242_9 rfl
theorem pg_242_10 : mm_prog 242 10 = some (0, .getfield 72, 13, [11, 32, 0]) := by decide +kernel
theorem xe_242_10 (a0 a1 a2 a3 : Option MV) (x : Int) (st : List MV) (μ : MM) (G : MG) : ev 242 10 [a0, a1, a2, a3] (vR x :: st) μ G = if gk G x = 11 then ev 242 13 [a0, a1, a2, a3] (vI (μ x 32) :: st) μ G else none := ev_if pg_242_10 rfl
theorem pg_242_13 : mm_prog 242 13 = some (0, .istore_n 1, 14, []) := by decide +kernel
theorem xe_242_13 (a0 a1 a2 a3 : Option MV) (x : Int) (st : List MV) (μ : MM) (G : MG) (h : mm_nL a0 = true) : ev 242 13 [a0, a1, a2, a3] (vI x :: st) μ G = ev 242 14 [a0, some (vI x), a2, a3] st μ G := ev_st pg_242_13 rfl (mm_nl_of h) (Nat.le_of_ble_eq_true rfl)
theorem pg_242_14 : mm_prog 242 14 = some (0, .aload_n 0, 15, []) := by decide +kernel
theorem xe_242_14 (a1 a2 a3 : Option MV) (x : Int) (st : List MV) (μ : MM) (G : MG) : ev 242 14 [some (vR x), a1, a2, a3] st μ G = ev 242 15 [some (vR x), a1, a2, a3] (vR x :: st) μ G := ev_stp pg_242_14 rfl
theorem pg_242_15 : mm_prog 242 15 = some (1, .invokevirtual 399, 18, [1, 235, 0, 11]) := by decide +kernel
theorem xe_242_15 (a0 a1 a2 a3 : Option MV) (z : Int) (μ : MM) (G : MG) : ev 242 15 [a0, a1, a2, a3] (vR z :: []) μ G = if gk G z = 11 ∧ 0 < z then (ev 235 0 [some (vR z)] [] μ G).bind (fun q => ev 242 18 [a0, a1, a2, a3] (q.1.toList ++ []) q.2.1 q.2.2) else none := ev_calV (as := [vR z]) (r := []) mx_235 pg_242_15 rfl rfl (Nat.le_of_ble_eq_true rfl) (Nat.le_of_ble_eq_true rfl)
theorem pg_242_18 : mm_prog 242 18 = some (0, .istore_n 2, 19, []) := by decide +kernel
theorem xe_242_18 (a0 a1 a2 a3 : Option MV) (x : Int) (st : List MV) (μ : MM) (G : MG) (h : mm_nL a1 = true) : ev 242 18 [a0, a1, a2, a3] (vI x :: st) μ G = ev 242 19 [a0, a1, some (vI x), a3] st μ G := ev_st pg_242_18 rfl (mm_nl_of h) (Nat.le_of_ble_eq_true rfl)
theorem pg_242_19 : mm_prog 242 19 = some (0, .aload_n 0, 20, []) := by decide +kernel
theorem xe_242_19 (a1 a2 a3 : Option MV) (x : Int) (st : List MV) (μ : MM) (G : MG) : ev 242 19 [some (vR x), a1, a2, a3] st μ G = ev 242 20 [some (vR x), a1, a2, a3] (vR x :: st) μ G := ev_stp pg_242_19 rfl
theorem pg_242_20 : mm_prog 242 20 = some (0, .iconst 0, 21, []) := by decide +kernel
theorem xe_242_20 (a0 a1 a2 a3 : Option MV) (st : List MV) (μ : MM) (G : MG) : ev 242 20 [a0, a1, a2, a3] st μ G = ev 242 21 [a0, a1, a2, a3] (vI (0) :: st) μ G := ev_stp pg_242_20 rfl
theorem pg_242_21 : mm_prog 242 21 = some (0, .putfield 72, 24, [11, 32, 0]) := by decide +kernel
theorem xe_242_21 (a0 a1 a2 a3 : Option MV) (x y : Int) (st : List MV) (μ : MM) (G : MG) : ev 242 21 [a0, a1, a2, a3] (vI x :: vR y :: st) μ G = if gk G y = 11 then ev 242 24 [a0, a1, a2, a3] st (mset μ y 32 x) G else none := ev_put0 pg_242_21
theorem pg_242_24 : mm_prog 242 24 = some (0, .aload_n 0, 25, []) := by decide +kernel
theorem xe_242_24 (a1 a2 a3 : Option MV) (x : Int) (st : List MV) (μ : MM) (G : MG) : ev 242 24 [some (vR x), a1, a2, a3] st μ G = ev 242 25 [some (vR x), a1, a2, a3] (vR x :: st) μ G := ev_stp pg_242_24 rfl
theorem pg_242_25 : mm_prog 242 25 = some (1, .invokevirtual 399, 28, [1, 235, 0, 11]) := by decide +kernel
theorem xe_242_25 (a0 a1 a2 a3 : Option MV) (z : Int) (μ : MM) (G : MG) : ev 242 25 [a0, a1, a2, a3] (vR z :: []) μ G = if gk G z = 11 ∧ 0 < z then (ev 235 0 [some (vR z)] [] μ G).bind (fun q => ev 242 28 [a0, a1, a2, a3] (q.1.toList ++ []) q.2.1 q.2.2) else none := ev_calV (as := [vR z]) (r := []) mx_235 pg_242_25 rfl rfl (Nat.le_of_ble_eq_true rfl) (Nat.le_of_ble_eq_true rfl)
theorem pg_242_28 : mm_prog 242 28 = some (0, .iload_n 2, 29, []) := by decide +kernel
theorem xe_242_28 (a0 a1 a3 : Option MV) (x : Int) (st : List MV) (μ : MM) (G : MG) : ev 242 28 [a0, a1, some (vI x), a3] st μ G = ev 242 29 [a0, a1, some (vI x), a3] (vI x :: st) μ G := ev_stp pg_242_28 rfl
theorem pg_242_29 : mm_prog 242 29 = some (0, .if_icmp .ge 16, 32, []) := by decide +kernel
theorem xe_242_29 (a0 a1 a2 a3 : Option MV) (x y : Int) (st : List MV) (μ : MM) (G : MG) : ev 242 29 [a0, a1, a2, a3] (vI y :: vI x :: st) μ G = if y ≤ x then ev 242 45 [a0, a1, a2, a3] st μ G else ev 242 32 [a0, a1, a2, a3] st μ G := ev_br (mm_cnd_ge x y) pg_242_29 rfl
theorem pg_242_32 : mm_prog 242 32 = some (0, .aload_n 0, 33, []) := by decide +kernel
theorem xe_242_32 (a1 a2 a3 : Option MV) (x : Int) (st : List MV) (μ : MM) (G : MG) : ev 242 32 [some (vR x), a1, a2, a3] st μ G = ev 242 33 [some (vR x), a1, a2, a3] (vR x :: st) μ G := ev_stp pg_242_32 rfl
theorem pg_242_33 : mm_prog 242 33 = some (0, .dup, 34, []) := by decide +kernel
theorem xe_242_33 (a0 a1 a2 a3 : Option MV) (x : Int) (st : List MV) (μ : MM) (G : MG) : ev 242 33 [a0, a1, a2, a3] (vR x :: st) μ G = ev 242 34 [a0, a1, a2, a3] (vR x :: vR x :: st) μ G := ev_stp pg_242_33 rfl
theorem pg_242_34 : mm_prog 242 34 = some (0, .getfield 72, 37, [11, 32, 0]) := by decide +kernel
theorem xe_242_34 (a0 a1 a2 a3 : Option MV) (x : Int) (st : List MV) (μ : MM) (G : MG) : ev 242 34 [a0, a1, a2, a3] (vR x :: st) μ G = if gk G x = 11 then ev 242 37 [a0, a1, a2, a3] (vI (μ x 32) :: st) μ G else none := ev_if pg_242_34 rfl
theorem pg_242_37 : mm_prog 242 37 = some (0, .iconst 1, 38, []) := by decide +kernel
theorem xe_242_37 (a0 a1 a2 a3 : Option MV) (st : List MV) (μ : MM) (G : MG) : ev 242 37 [a0, a1, a2, a3] st μ G = ev 242 38 [a0, a1, a2, a3] (vI (1) :: st) μ G := ev_stp pg_242_37 rfl
theorem pg_242_38 : mm_prog 242 38 = some (0, .iadd, 39, []) := by decide +kernel
theorem xe_242_38 (a0 a1 a2 a3 : Option MV) (x y : Int) (st : List MV) (μ : MM) (G : MG) : ev 242 38 [a0, a1, a2, a3] (vI y :: vI x :: st) μ G = ev 242 39 [a0, a1, a2, a3] (vI (w32 (x + y)) :: st) μ G := ev_stp pg_242_38 rfl
theorem pg_242_39 : mm_prog 242 39 = some (0, .putfield 72, 42, [11, 32, 0]) := by decide +kernel
theorem xe_242_39 (a0 a1 a2 a3 : Option MV) (x y : Int) (st : List MV) (μ : MM) (G : MG) : ev 242 39 [a0, a1, a2, a3] (vI x :: vR y :: st) μ G = if gk G y = 11 then ev 242 42 [a0, a1, a2, a3] st (mset μ y 32 x) G else none := ev_put0 pg_242_39
theorem pg_242_42 : mm_prog 242 42 = some (0, .goto (-18), 45, []) := by decide +kernel
theorem xe_242_42 (a0 a1 a2 a3 : Option MV) (st : List MV) (μ : MM) (G : MG) : ev 242 42 [a0, a1, a2, a3] st μ G = ev 242 24 [a0, a1, a2, a3] st μ G := ev_stp pg_242_42 rfl
theorem pg_242_45 : mm_prog 242 45 = some (0, .aload_n 0, 46, []) := by decide +kernel
theorem xe_242_45 (a1 a2 a3 : Option MV) (x : Int) (st : List MV) (μ : MM) (G : MG) : ev 242 45 [some (vR x), a1, a2, a3] st μ G = ev 242 46 [some (vR x), a1, a2, a3] (vR x :: st) μ G := ev_stp pg_242_45 rfl
theorem pg_242_46 : mm_prog 242 46 = some (0, .getfield 72, 49, [11, 32, 0]) := by decide +kernel
theorem xe_242_46 (a0 a1 a2 a3 : Option MV) (x : Int) (st : List MV) (μ : MM) (G : MG) : ev 242 46 [a0, a1, a2, a3] (vR x :: st) μ G = if gk G x = 11 then ev 242 49 [a0, a1, a2, a3] (vI (μ x 32) :: st) μ G else none := ev_if pg_242_46 rfl
theorem pg_242_49 : mm_prog 242 49 = some (0, .istore_n 3, 50, []) := by decide +kernel
theorem xe_242_49 (a0 a1 a2 a3 : Option MV) (x : Int) (st : List MV) (μ : MM) (G : MG) (h : mm_nL a2 = true) : ev 242 49 [a0, a1, a2, a3] (vI x :: st) μ G = ev 242 50 [a0, a1, a2, some (vI x)] st μ G := ev_st pg_242_49 rfl (mm_nl_of h) (Nat.le_of_ble_eq_true rfl)
theorem pg_242_50 : mm_prog 242 50 = some (0, .aload_n 0, 51, []) := by decide +kernel
theorem xe_242_50 (a1 a2 a3 : Option MV) (x : Int) (st : List MV) (μ : MM) (G : MG) : ev 242 50 [some (vR x), a1, a2, a3] st μ G = ev 242 51 [some (vR x), a1, a2, a3] (vR x :: st) μ G := ev_stp pg_242_50 rfl
theorem pg_242_51 : mm_prog 242 51 = some (0, .iload_n 1, 52, []) := by decide +kernel
theorem xe_242_51 (a0 a2 a3 : Option MV) (x : Int) (st : List MV) (μ : MM) (G : MG) : ev 242 51 [a0, some (vI x), a2, a3] st μ G = ev 242 52 [a0, some (vI x), a2, a3] (vI x :: st) μ G := ev_stp pg_242_51 rfl
theorem pg_242_52 : mm_prog 242 52 = some (0, .putfield 72, 55, [11, 32, 0]) := by decide +kernel
theorem xe_242_52 (a0 a1 a2 a3 : Option MV) (x y : Int) (st : List MV) (μ : MM) (G : MG) : ev 242 52 [a0, a1, a2, a3] (vI x :: vR y :: st) μ G = if gk G y = 11 then ev 242 55 [a0, a1, a2, a3] st (mset μ y 32 x) G else none := ev_put0 pg_242_52
theorem pg_242_55 : mm_prog 242 55 = some (0, .aload_n 0, 56, []) := by decide +kernel
theorem xe_242_55 (a1 a2 a3 : Option MV) (x : Int) (st : List MV) (μ : MM) (G : MG) : ev 242 55 [some (vR x), a1, a2, a3] st μ G = ev 242 56 [some (vR x), a1, a2, a3] (vR x :: st) μ G := ev_stp pg_242_55 rfl
theorem pg_242_56 : mm_prog 242 56 = some (1, .invokevirtual 406, 59, [1, 234, 0, 11]) := by decide +kernel
theorem xe_242_56 (a0 a1 a2 a3 : Option MV) (z : Int) (μ : MM) (G : MG) : ev 242 56 [a0, a1, a2, a3] (vR z :: []) μ G = if gk G z = 11 ∧ 0 < z then (ev 234 0 [some (vR z), none] [] μ G).bind (fun q => ev 242 59 [a0, a1, a2, a3] (q.1.toList ++ []) q.2.1 q.2.2) else none := ev_calV (as := [vR z]) (r := []) mx_234 pg_242_56 rfl rfl (Nat.le_of_ble_eq_true rfl) (Nat.le_of_ble_eq_true rfl)
theorem pg_242_59 : mm_prog 242 59 = some (0, .iload_n 3, 60, []) := by decide +kernel
theorem xe_242_59 (a0 a1 a2 : Option MV) (x : Int) (st : List MV) (μ : MM) (G : MG) : ev 242 59 [a0, a1, a2, some (vI x)] st μ G = ev 242 60 [a0, a1, a2, some (vI x)] (vI x :: st) μ G := ev_stp pg_242_59 rfl
theorem pg_242_60 : mm_prog 242 60 = some (2, .ireturn, 61, [0]) := by decide +kernel
theorem xe_242_60 (a0 a1 a2 a3 : Option MV) (x : Int) (μ : MM) (G : MG) : ev 242 60 [a0, a1, a2, a3] [vI x] μ G = some (some (vI x), μ, G) := ev_ret pg_242_60 rfl
-- X11_would
theorem pg_243_0 : mm_prog 243 0 = some (0, .aload_n 0, 1, []) := by decide +kernel
theorem xe_243_0 (a1 a2 : Option MV) (x : Int) (st : List MV) (μ : MM) (G : MG) : ev 243 0 [some (vR x), a1, a2] st μ G = ev 243 1 [some (vR x), a1, a2] (vR x :: st) μ G := ev_stp pg_243_0 rfl
theorem pg_243_1 : mm_prog 243 1 = some (0, .iconst 0, 2, []) := by decide +kernel
theorem xe_243_1 (a0 a1 a2 : Option MV) (st : List MV) (μ : MM) (G : MG) : ev 243 1 [a0, a1, a2] st μ G = ev 243 2 [a0, a1, a2] (vI (0) :: st) μ G := ev_stp pg_243_1 rfl
theorem pg_243_2 : mm_prog 243 2 = some (0, .putfield 1, 5, [11, 0, 0]) := by decide +kernel
theorem xe_243_2 (a0 a1 a2 : Option MV) (x y : Int) (st : List MV) (μ : MM) (G : MG) : ev 243 2 [a0, a1, a2] (vI x :: vR y :: st) μ G = if gk G y = 11 then ev 243 5 [a0, a1, a2] st (mset μ y 0 x) G else none := ev_put0 pg_243_2
theorem pg_243_5 : mm_prog 243 5 = some (0, .iload_n 1, 6, []) := by decide +kernel
theorem xe_243_5 (a0 a2 : Option MV) (x : Int) (st : List MV) (μ : MM) (G : MG) : ev 243 5 [a0, some (vI x), a2] st μ G = ev 243 6 [a0, some (vI x), a2] (vI x :: st) μ G := ev_stp pg_243_5 rfl
theorem pg_243_6 : mm_prog 243 6 = some (0, .i2l, 7, []) := by decide +kernel
theorem xe_243_6 (a0 a1 a2 : Option MV) (x : Int) (st : List MV) (μ : MM) (G : MG) : ev 243 6 [a0, a1, a2] (vI x :: st) μ G = ev 243 7 [a0, a1, a2] (vL x :: st) μ G := ev_stp pg_243_6 rfl
theorem pg_243_7 : mm_prog 243 7 = some (0, .lconst 0, 8, []) := by decide +kernel
theorem xe_243_7 (a0 a1 a2 : Option MV) (st : List MV) (μ : MM) (G : MG) : ev 243 7 [a0, a1, a2] st μ G = ev 243 8 [a0, a1, a2] (vL 0 :: st) μ G := ev_stp pg_243_7 rfl
theorem pg_243_8 : mm_prog 243 8 = some (0, .lconst 1, 9, []) := by decide +kernel
theorem xe_243_8 (a0 a1 a2 : Option MV) (st : List MV) (μ : MM) (G : MG) : ev 243 8 [a0, a1, a2] st μ G = ev 243 9 [a0, a1, a2] (vL 1 :: st) μ G := ev_stp pg_243_8 rfl
theorem pg_243_9 : mm_prog 243 9 = some (1, .invokestatic 107, 12, [0, 148, 3, 0]) := by decide +kernel
theorem xe_243_9 (a0 a1 a2 : Option MV) (x0 x1 x2 : Int) (μ : MM) (G : MG) : ev 243 9 [a0, a1, a2] (vL x2 :: vL x1 :: vL x0 :: []) μ G = (ev 148 0 [some (vL x0), none, some (vL x1), none, some (vL x2), none] [] μ G).bind (fun q => ev 243 12 [a0, a1, a2] (q.1.toList ++ []) q.2.1 q.2.2) := ev_calS (as := [vL x0, vL x1, vL x2]) (r := []) mx_148 pg_243_9 rfl rfl (Nat.le_of_ble_eq_true rfl) (Nat.le_of_ble_eq_true rfl)
theorem pg_243_12 : mm_prog 243 12 = some (0, .ifCond .ne 6, 15, []) := by decide +kernel
theorem xe_243_12 (a0 a1 a2 : Option MV) (x : Int) (st : List MV) (μ : MM) (G : MG) : ev 243 12 [a0, a1, a2] (vI x :: st) μ G = if ¬ x = 0 then ev 243 18 [a0, a1, a2] st μ G else ev 243 15 [a0, a1, a2] st μ G := ev_br (mm_cnd_ne x 0) pg_243_12 rfl
theorem pg_243_15 : mm_prog 243 15 = some (0, .bipush (-2), 17, []) := by decide +kernel
theorem xe_243_15 (a0 a1 a2 : Option MV) (st : List MV) (μ : MM) (G : MG) : ev 243 15 [a0, a1, a2] st μ G = ev 243 17 [a0, a1, a2] (vI (-2) :: st) μ G := ev_stp pg_243_15 rfl
theorem pg_243_17 : mm_prog 243 17 = some (2, .ireturn, 18, [0]) := by decide +kernel
theorem xe_243_17 (a0 a1 a2 : Option MV) (x : Int) (μ : MM) (G : MG) : ev 243 17 [a0, a1, a2] [vI x] μ G = some (some (vI x), μ, G) := ev_ret pg_243_17 rfl
theorem pg_243_18 : mm_prog 243 18 = some (0, .aload_n 0, 19, []) := by decide +kernel
theorem xe_243_18 (a1 a2 : Option MV) (x : Int) (st : List MV) (μ : MM) (G : MG) : ev 243 18 [some (vR x), a1, a2] st μ G = ev 243 19 [some (vR x), a1, a2] (vR x :: st) μ G := ev_stp pg_243_18 rfl
theorem pg_243_19 : mm_prog 243 19 = some (1, .invokevirtual 396, 22, [1, 233, 0, 11]) := by decide +kernel
theorem xe_243_19 (a0 a1 a2 : Option MV) (z : Int) (μ : MM) (G : MG) : ev 243 19 [a0, a1, a2] (vR z :: []) μ G = if gk G z = 11 ∧ 0 < z then (ev 233 0 [some (vR z), none] [] μ G).bind (fun q => ev 243 22 [a0, a1, a2] (q.1.toList ++ []) q.2.1 q.2.2) else none := ev_calV (as := [vR z]) (r := []) mx_233 pg_243_19 rfl rfl (Nat.le_of_ble_eq_true rfl) (Nat.le_of_ble_eq_true rfl)
theorem pg_243_22 : mm_prog 243 22 = some (0, .aload_n 0, 23, []) := by decide +kernel
theorem xe_243_22 (a1 a2 : Option MV) (x : Int) (st : List MV) (μ : MM) (G : MG) : ev 243 22 [some (vR x), a1, a2] st μ G = ev 243 23 [some (vR x), a1, a2] (vR x :: st) μ G := ev_stp pg_243_22 rfl
theorem pg_243_23 : mm_prog 243 23 = some (1, .invokevirtual 399, 26, [1, 235, 0, 11]) := by decide +kernel
theorem xe_243_23 (a0 a1 a2 : Option MV) (z : Int) (μ : MM) (G : MG) : ev 243 23 [a0, a1, a2] (vR z :: []) μ G = if gk G z = 11 ∧ 0 < z then (ev 235 0 [some (vR z)] [] μ G).bind (fun q => ev 243 26 [a0, a1, a2] (q.1.toList ++ []) q.2.1 q.2.2) else none := ev_calV (as := [vR z]) (r := []) mx_235 pg_243_23 rfl rfl (Nat.le_of_ble_eq_true rfl) (Nat.le_of_ble_eq_true rfl)
theorem pg_243_26 : mm_prog 243 26 = some (0, .istore_n 2, 27, []) := by decide +kernel
theorem xe_243_26 (a0 a1 a2 : Option MV) (x : Int) (st : List MV) (μ : MM) (G : MG) (h : mm_nL a1 = true) : ev 243 26 [a0, a1, a2] (vI x :: st) μ G = ev 243 27 [a0, a1, some (vI x)] st μ G := ev_st pg_243_26 rfl (mm_nl_of h) (Nat.le_of_ble_eq_true rfl)
theorem pg_243_27 : mm_prog 243 27 = some (0, .aload_n 0, 28, []) := by decide +kernel
theorem xe_243_27 (a1 a2 : Option MV) (x : Int) (st : List MV) (μ : MM) (G : MG) : ev 243 27 [some (vR x), a1, a2] st μ G = ev 243 28 [some (vR x), a1, a2] (vR x :: st) μ G := ev_stp pg_243_27 rfl
theorem pg_243_28 : mm_prog 243 28 = some (1, .invokevirtual 406, 31, [1, 234, 0, 11]) := by decide +kernel
theorem xe_243_28 (a0 a1 a2 : Option MV) (z : Int) (μ : MM) (G : MG) : ev 243 28 [a0, a1, a2] (vR z :: []) μ G = if gk G z = 11 ∧ 0 < z then (ev 234 0 [some (vR z), none] [] μ G).bind (fun q => ev 243 31 [a0, a1, a2] (q.1.toList ++ []) q.2.1 q.2.2) else none := ev_calV (as := [vR z]) (r := []) mx_234 pg_243_28 rfl rfl (Nat.le_of_ble_eq_true rfl) (Nat.le_of_ble_eq_true rfl)
theorem pg_243_31 : mm_prog 243 31 = some (0, .iload_n 2, 32, []) := by decide +kernel
theorem xe_243_31 (a0 a1 : Option MV) (x : Int) (st : List MV) (μ : MM) (G : MG) : ev 243 31 [a0, a1, some (vI x)] st μ G = ev 243 32 [a0, a1, some (vI x)] (vI x :: st) μ G := ev_stp pg_243_31 rfl
theorem pg_243_32 : mm_prog 243 32 = some (0, .ifCond .ne 5, 35, []) := by decide +kernel
theorem xe_243_32 (a0 a1 a2 : Option MV) (x : Int) (st : List MV) (μ : MM) (G : MG) : ev 243 32 [a0, a1, a2] (vI x :: st) μ G = if ¬ x = 0 then ev 243 37 [a0, a1, a2] st μ G else ev 243 35 [a0, a1, a2] st μ G := ev_br (mm_cnd_ne x 0) pg_243_32 rfl
theorem pg_243_35 : mm_prog 243 35 = some (0, .iconst (-1), 36, []) := by decide +kernel
theorem xe_243_35 (a0 a1 a2 : Option MV) (st : List MV) (μ : MM) (G : MG) : ev 243 35 [a0, a1, a2] st μ G = ev 243 36 [a0, a1, a2] (vI (-1) :: st) μ G := ev_stp pg_243_35 rfl
theorem pg_243_36 : mm_prog 243 36 = some (2, .ireturn, 37, [0]) := by decide +kernel
theorem xe_243_36 (a0 a1 a2 : Option MV) (x : Int) (μ : MM) (G : MG) : ev 243 36 [a0, a1, a2] [vI x] μ G = some (some (vI x), μ, G) := ev_ret pg_243_36 rfl
theorem pg_243_37 : mm_prog 243 37 = some (0, .aload_n 0, 38, []) := by decide +kernel
theorem xe_243_37 (a1 a2 : Option MV) (x : Int) (st : List MV) (μ : MM) (G : MG) : ev 243 37 [some (vR x), a1, a2] st μ G = ev 243 38 [some (vR x), a1, a2] (vR x :: st) μ G := ev_stp pg_243_37 rfl
theorem pg_243_38 : mm_prog 243 38 = some (0, .iload_n 2, 39, []) := by decide +kernel
theorem xe_243_38 (a0 a1 : Option MV) (x : Int) (st : List MV) (μ : MM) (G : MG) : ev 243 38 [a0, a1, some (vI x)] st μ G = ev 243 39 [a0, a1, some (vI x)] (vI x :: st) μ G := ev_stp pg_243_38 rfl
theorem pg_243_39 : mm_prog 243 39 = some (1, .invokevirtual 339, 42, [1, 207, 1, 11]) := by decide +kernel
theorem xe_243_39 (a0 a1 a2 : Option MV) (x0 z : Int) (μ : MM) (G : MG) : ev 243 39 [a0, a1, a2] (vI x0 :: vR z :: []) μ G = if gk G z = 11 ∧ 0 < z then (ev 207 0 [some (vR z), some (vI x0), none, none] [] μ G).bind (fun q => ev 243 42 [a0, a1, a2] (q.1.toList ++ []) q.2.1 q.2.2) else none := ev_calV (as := [vR z, vI x0]) (r := []) mx_207 pg_243_39 rfl rfl (Nat.le_of_ble_eq_true rfl) (Nat.le_of_ble_eq_true rfl)
theorem pg_243_42 : mm_prog 243 42 = some (0, .iload_n 1, 43, []) := by decide +kernel
theorem xe_243_42 (a0 a2 : Option MV) (x : Int) (st : List MV) (μ : MM) (G : MG) : ev 243 42 [a0, some (vI x), a2] st μ G = ev 243 43 [a0, some (vI x), a2] (vI x :: st) μ G := ev_stp pg_243_42 rfl
theorem pg_243_43 : mm_prog 243 43 = some (0, .ifCond .ne 10, 46, []) := by decide +kernel
theorem xe_243_43 (a0 a1 a2 : Option MV) (x : Int) (st : List MV) (μ : MM) (G : MG) : ev 243 43 [a0, a1, a2] (vI x :: st) μ G = if ¬ x = 0 then ev 243 53 [a0, a1, a2] st μ G else ev 243 46 [a0, a1, a2] st μ G := ev_br (mm_cnd_ne x 0) pg_243_43 rfl
theorem pg_243_46 : mm_prog 243 46 = some (0, .aload_n 0, 47, []) := by decide +kernel
theorem xe_243_46 (a1 a2 : Option MV) (x : Int) (st : List MV) (μ : MM) (G : MG) : ev 243 46 [some (vR x), a1, a2] st μ G = ev 243 47 [some (vR x), a1, a2] (vR x :: st) μ G := ev_stp pg_243_46 rfl
theorem pg_243_47 : mm_prog 243 47 = some (0, .getfield 333, 50, [11, 33, 0]) := by decide +kernel
theorem xe_243_47 (a0 a1 a2 : Option MV) (x : Int) (st : List MV) (μ : MM) (G : MG) : ev 243 47 [a0, a1, a2] (vR x :: st) μ G = if gk G x = 11 then ev 243 50 [a0, a1, a2] (vI (μ x 33) :: st) μ G else none := ev_if pg_243_47 rfl
theorem pg_243_50 : mm_prog 243 50 = some (0, .goto 7, 53, []) := by decide +kernel
theorem xe_243_50 (a0 a1 a2 : Option MV) (st : List MV) (μ : MM) (G : MG) : ev 243 50 [a0, a1, a2] st μ G = ev 243 57 [a0, a1, a2] st μ G := ev_stp pg_243_50 rfl
theorem pg_243_53 : mm_prog 243 53 = some (0, .aload_n 0, 54, []) := by decide +kernel
theorem xe_243_53 (a1 a2 : Option MV) (x : Int) (st : List MV) (μ : MM) (G : MG) : ev 243 53 [some (vR x), a1, a2] st μ G = ev 243 54 [some (vR x), a1, a2] (vR x :: st) μ G := ev_stp pg_243_53 rfl
theorem pg_243_54 : mm_prog 243 54 = some (0, .getfield 336, 57, [11, 34, 0]) := by decide +kernel
theorem xe_243_54 (a0 a1 a2 : Option MV) (x : Int) (st : List MV) (μ : MM) (G : MG) : ev 243 54 [a0, a1, a2] (vR x :: st) μ G = if gk G x = 11 then ev 243 57 [a0, a1, a2] (vI (μ x 34) :: st) μ G else none := ev_if pg_243_54 rfl
theorem pg_243_57 : mm_prog 243 57 = some (2, .ireturn, 58, [0]) := by decide +kernel
theorem xe_243_57 (a0 a1 a2 : Option MV) (x : Int) (μ : MM) (G : MG) : ev 243 57 [a0, a1, a2] [vI x] μ G = some (some (vI x), μ, G) := ev_ret pg_243_57 rfl
-- X11_count
theorem pg_244_0 : mm_prog 244 0 = some (0, .aload_n 0, 1, []) := by decide +kernel
theorem xe_244_0 (a1 : Option MV) (x : Int) (st : List MV) (μ : MM) (G : MG) : ev 244 0 [some (vR x), a1] st μ G = ev 244 1 [some (vR x), a1] (vR x :: st) μ G := ev_stp pg_244_0 rfl
theorem pg_244_1 : mm_prog 244 1 = some (0, .iconst 0, 2, []) := by decide +kernel
theorem xe_244_1 (a0 a1 : Option MV) (st : List MV) (μ : MM) (G : MG) : ev 244 1 [a0, a1] st μ G = ev 244 2 [a0, a1] (vI (0) :: st) μ G := ev_stp pg_244_1 rfl
theorem pg_244_2 : mm_prog 244 2 = some (0, .putfield 1, 5, [11, 0, 0]) := by decide +kernel
theorem xe_244_2 (a0 a1 : Option MV) (x y : Int) (st : List MV) (μ : MM) (G : MG) : ev 244 2 [a0, a1] (vI x :: vR y :: st) μ G = if gk G y = 11 then ev 244 5 [a0, a1] st (mset μ y 0 x) G else none := ev_put0 pg_244_2
theorem pg_244_5 : mm_prog 244 5 = some (0, .iload_n 1, 6, []) := by decide +kernel
theorem xe_244_5 (a0 : Option MV) (x : Int) (st : List MV) (μ : MM) (G : MG) : ev 244 5 [a0, some (vI x)] st μ G = ev 244 6 [a0, some (vI x)] (vI x :: st) μ G := ev_stp pg_244_5 rfl
theorem pg_244_6 : mm_prog 244 6 = some (0, .tableswitch 59 0 4 #[34, 39, 44, 49, 54], 40, [65, 0, 40, 1, 45, 2, 50, 3, 55, 4, 60]) := by decide +kernel
theorem xe_244_6 (a0 a1 : Option MV) (x : Int) (st : List MV) (μ : MM) (G : MG) : ev 244 6 [a0, a1] (vI x :: st) μ G = if x = 0 then ev 244 40 [a0, a1] st μ G else if x = 1 then ev 244 45 [a0, a1] st μ G else if x = 2 then ev 244 50 [a0, a1] st μ G else if x = 3 then ev 244 55 [a0, a1] st μ G else if x = 4 then ev 244 60 [a0, a1] st μ G else ev 244 65 [a0, a1] st μ G := ev_sw (x := x) (d := 65) (l := [0, 40, 1, 45, 2, 50, 3, 55, 4, 60]) (st' := st) pg_244_6 rfl
theorem pg_244_40 : mm_prog 244 40 = some (0, .aload_n 0, 41, []) := by decide +kernel
theorem xe_244_40 (a1 : Option MV) (x : Int) (st : List MV) (μ : MM) (G : MG) : ev 244 40 [some (vR x), a1] st μ G = ev 244 41 [some (vR x), a1] (vR x :: st) μ G := ev_stp pg_244_40 rfl
theorem pg_244_41 : mm_prog 244 41 = some (0, .getfield 128, 44, [11, 6, 0]) := by decide +kernel
theorem xe_244_41 (a0 a1 : Option MV) (x : Int) (st : List MV) (μ : MM) (G : MG) : ev 244 41 [a0, a1] (vR x :: st) μ G = if gk G x = 11 then ev 244 44 [a0, a1] (vI (μ x 6) :: st) μ G else none := ev_if pg_244_41 rfl
theorem pg_244_44 : mm_prog 244 44 = some (2, .ireturn, 45, [0]) := by decide +kernel
theorem xe_244_44 (a0 a1 : Option MV) (x : Int) (μ : MM) (G : MG) : ev 244 44 [a0, a1] [vI x] μ G = some (some (vI x), μ, G) := ev_ret pg_244_44 rfl
theorem pg_244_45 : mm_prog 244 45 = some (0, .aload_n 0, 46, []) := by decide +kernel
theorem xe_244_45 (a1 : Option MV) (x : Int) (st : List MV) (μ : MM) (G : MG) : ev 244 45 [some (vR x), a1] st μ G = ev 244 46 [some (vR x), a1] (vR x :: st) μ G := ev_stp pg_244_45 rfl
theorem pg_244_46 : mm_prog 244 46 = some (0, .getfield 96, 49, [11, 4, 0]) := by decide +kernel
theorem xe_244_46 (a0 a1 : Option MV) (x : Int) (st : List MV) (μ : MM) (G : MG) : ev 244 46 [a0, a1] (vR x :: st) μ G = if gk G x = 11 then ev 244 49 [a0, a1] (vI (μ x 4) :: st) μ G else none := ev_if pg_244_46 rfl
theorem pg_244_49 : mm_prog 244 49 = some (2, .ireturn, 50, [0]) := by decide +kernel
theorem xe_244_49 (a0 a1 : Option MV) (x : Int) (μ : MM) (G : MG) : ev 244 49 [a0, a1] [vI x] μ G = some (some (vI x), μ, G) := ev_ret pg_244_49 rfl
theorem pg_244_50 : mm_prog 244 50 = some (0, .aload_n 0, 51, []) := by decide +kernel
theorem xe_244_50 (a1 : Option MV) (x : Int) (st : List MV) (μ : MM) (G : MG) : ev 244 50 [some (vR x), a1] st μ G = ev 244 51 [some (vR x), a1] (vR x :: st) μ G := ev_stp pg_244_50 rfl
theorem pg_244_51 : mm_prog 244 51 = some (0, .getfield 66, 54, [11, 30, 0]) := by decide +kernel
theorem xe_244_51 (a0 a1 : Option MV) (x : Int) (st : List MV) (μ : MM) (G : MG) : ev 244 51 [a0, a1] (vR x :: st) μ G = if gk G x = 11 then ev 244 54 [a0, a1] (vI (μ x 30) :: st) μ G else none := ev_if pg_244_51 rfl
theorem pg_244_54 : mm_prog 244 54 = some (2, .ireturn, 55, [0]) := by decide +kernel
theorem xe_244_54 (a0 a1 : Option MV) (x : Int) (μ : MM) (G : MG) : ev 244 54 [a0, a1] [vI x] μ G = some (some (vI x), μ, G) := ev_ret pg_244_54 rfl
theorem pg_244_55 : mm_prog 244 55 = some (0, .aload_n 0, 56, []) := by decide +kernel
theorem xe_244_55 (a1 : Option MV) (x : Int) (st : List MV) (μ : MM) (G : MG) : ev 244 55 [some (vR x), a1] st μ G = ev 244 56 [some (vR x), a1] (vR x :: st) μ G := ev_stp pg_244_55 rfl
theorem pg_244_56 : mm_prog 244 56 = some (0, .getfield 69, 59, [11, 31, 0]) := by decide +kernel
theorem xe_244_56 (a0 a1 : Option MV) (x : Int) (st : List MV) (μ : MM) (G : MG) : ev 244 56 [a0, a1] (vR x :: st) μ G = if gk G x = 11 then ev 244 59 [a0, a1] (vI (μ x 31) :: st) μ G else none := ev_if pg_244_56 rfl
theorem pg_244_59 : mm_prog 244 59 = some (2, .ireturn, 60, [0]) := by decide +kernel
theorem xe_244_59 (a0 a1 : Option MV) (x : Int) (μ : MM) (G : MG) : ev 244 59 [a0, a1] [vI x] μ G = some (some (vI x), μ, G) := ev_ret pg_244_59 rfl
theorem pg_244_60 : mm_prog 244 60 = some (0, .aload_n 0, 61, []) := by decide +kernel
theorem xe_244_60 (a1 : Option MV) (x : Int) (st : List MV) (μ : MM) (G : MG) : ev 244 60 [some (vR x), a1] st μ G = ev 244 61 [some (vR x), a1] (vR x :: st) μ G := ev_stp pg_244_60 rfl
theorem pg_244_61 : mm_prog 244 61 = some (0, .getfield 72, 64, [11, 32, 0]) := by decide +kernel
theorem xe_244_61 (a0 a1 : Option MV) (x : Int) (st : List MV) (μ : MM) (G : MG) : ev 244 61 [a0, a1] (vR x :: st) μ G = if gk G x = 11 then ev 244 64 [a0, a1] (vI (μ x 32) :: st) μ G else none := ev_if pg_244_61 rfl
theorem pg_244_64 : mm_prog 244 64 = some (2, .ireturn, 65, [0]) := by decide +kernel
theorem xe_244_64 (a0 a1 : Option MV) (x : Int) (μ : MM) (G : MG) : ev 244 64 [a0, a1] [vI x] μ G = some (some (vI x), μ, G) := ev_ret pg_244_64 rfl
theorem pg_244_65 : mm_prog 244 65 = some (0, .iconst (-1), 66, []) := by decide +kernel
theorem xe_244_65 (a0 a1 : Option MV) (st : List MV) (μ : MM) (G : MG) : ev 244 65 [a0, a1] st μ G = ev 244 66 [a0, a1] (vI (-1) :: st) μ G := ev_stp pg_244_65 rfl
theorem pg_244_66 : mm_prog 244 66 = some (2, .ireturn, 67, [0]) := by decide +kernel
theorem xe_244_66 (a0 a1 : Option MV) (x : Int) (μ : MM) (G : MG) : ev 244 66 [a0, a1] [vI x] μ G = some (some (vI x), μ, G) := ev_ret pg_244_66 rfl
