-- X0_init
theorem pg_0_0 : mm_prog 0 0 = some (0, .aload_n 0, 1, []) := by decide +kernel
theorem xe_0_0 (x : Int) (st : List MV) (μ : MM) (G : MG) : ev 0 0 [some (vR x)] st μ G = ev 0 1 [some (vR x)] (vR x :: st) μ G := ev_stp pg_0_0 rfl
theorem pg_0_1 : mm_prog 0 1 = some (0, .invokespecial 3, 4, []) := by decide +kernel
theorem xe_0_1 (a0 : Option MV) (x : Int) (st : List MV) (μ : MM) (G : MG) : ev 0 1 [a0] (vR x :: st) μ G = if 10 ≤ x ∧ mm_cats st ≤ 8 then ev 0 4 [a0] st μ G else none := ev_if pg_0_1 rfl
theorem pg_0_4 : mm_prog 0 4 = some (0, .aload_n 0, 5, []) := by decide +kernel
theorem xe_0_4 (x : Int) (st : List MV) (μ : MM) (G : MG) : ev 0 4 [some (vR x)] st μ G = ev 0 5 [some (vR x)] (vR x :: st) μ G := ev_stp pg_0_4 rfl
theorem pg_0_5 : mm_prog 0 5 = some (0, .sipush 520, 8, []) := by decide +kernel
theorem xe_0_5 (a0 : Option MV) (st : List MV) (μ : MM) (G : MG) : ev 0 5 [a0] st μ G = ev 0 8 [a0] (vI (520) :: st) μ G := ev_stp pg_0_5 rfl
theorem pg_0_8 : mm_prog 0 8 = some (0, .newarray .int, 10, [100]) := by decide +kernel
theorem xe_0_8 (a0 : Option MV) (x : Int) (st : List MV) (μ : MM) (G : MG) : ev 0 8 [a0] (vI x :: st) μ G = if 0 ≤ x ∧ x ≤ 100000 then ev 0 10 [a0] (vR G.2.1 :: st) (mzero μ G.2.1) (gnew G 100 x x) else none := ev_if pg_0_8 rfl
theorem pg_0_10 : mm_prog 0 10 = some (0, .putfield 9, 13, [0, 0, 2]) := by decide +kernel
theorem xe_0_10 (a0 : Option MV) (x y : Int) (st : List MV) (μ : MM) (G : MG) : ev 0 10 [a0] (vR x :: vR y :: st) μ G = if gk G y = 0 then ev 0 13 [a0] st (mset μ y 0 x) G else none := ev_put2 pg_0_10
theorem pg_0_13 : mm_prog 0 13 = some (2, .return_, 14, []) := by decide +kernel
theorem xe_0_13 (a0 : Option MV) (μ : MM) (G : MG) : ev 0 13 [a0] [] μ G = some (none, μ, G) := ev_ret pg_0_13 rfl
-- X0_clear
theorem pg_1_0 : mm_prog 1 0 = some (0, .aload_n 0, 1, []) := by decide +kernel
theorem xe_1_0 (x : Int) (st : List MV) (μ : MM) (G : MG) : ev 1 0 [some (vR x)] st μ G = ev 1 1 [some (vR x)] (vR x :: st) μ G := ev_stp pg_1_0 rfl
theorem pg_1_1 : mm_prog 1 1 = some (0, .iconst 0, 2, []) := by decide +kernel
theorem xe_1_1 (a0 : Option MV) (st : List MV) (μ : MM) (G : MG) : ev 1 1 [a0] st μ G = ev 1 2 [a0] (vI (0) :: st) μ G := ev_stp pg_1_1 rfl
theorem pg_1_2 : mm_prog 1 2 = some (0, .putfield 15, 5, [0, 1, 0]) := by decide +kernel
theorem xe_1_2 (a0 : Option MV) (x y : Int) (st : List MV) (μ : MM) (G : MG) : ev 1 2 [a0] (vI x :: vR y :: st) μ G = if gk G y = 0 then ev 1 5 [a0] st (mset μ y 1 x) G else none := ev_put0 pg_1_2
theorem pg_1_5 : mm_prog 1 5 = some (2, .return_, 6, []) := by decide +kernel
theorem xe_1_5 (a0 : Option MV) (μ : MM) (G : MG) : ev 1 5 [a0] [] μ G = some (none, μ, G) := ev_ret pg_1_5 rfl
-- X0_addInt
theorem pg_2_0 : mm_prog 2 0 = some (0, .bipush 24, 2, []) := by decide +kernel
theorem xe_2_0 (a0 a1 a2 : Option MV) (st : List MV) (μ : MM) (G : MG) : ev 2 0 [a0, a1, a2] st μ G = ev 2 2 [a0, a1, a2] (vI (24) :: st) μ G := ev_stp pg_2_0 rfl
theorem pg_2_2 : mm_prog 2 2 = some (0, .istore_n 2, 3, []) := by decide +kernel
theorem xe_2_2 (a0 a1 a2 : Option MV) (x : Int) (st : List MV) (μ : MM) (G : MG) (h : mm_nL a1 = true) : ev 2 2 [a0, a1, a2] (vI x :: st) μ G = ev 2 3 [a0, a1, some (vI x)] st μ G := ev_st pg_2_2 rfl (mm_nl_of h) (Nat.le_of_ble_eq_true rfl)
theorem pg_2_3 : mm_prog 2 3 = some (0, .iload_n 2, 4, []) := by decide +kernel
theorem xe_2_3 (a0 a1 : Option MV) (x : Int) (st : List MV) (μ : MM) (G : MG) : ev 2 3 [a0, a1, some (vI x)] st μ G = ev 2 4 [a0, a1, some (vI x)] (vI x :: st) μ G := ev_stp pg_2_3 rfl
theorem pg_2_4 : mm_prog 2 4 = some (0, .ifCond .lt 54, 7, []) := by decide +kernel
theorem xe_2_4 (a0 a1 a2 : Option MV) (x : Int) (st : List MV) (μ : MM) (G : MG) : ev 2 4 [a0, a1, a2] (vI x :: st) μ G = if x < 0 then ev 2 58 [a0, a1, a2] st μ G else ev 2 7 [a0, a1, a2] st μ G := ev_br (mm_cnd_lt x 0) pg_2_4 rfl
theorem pg_2_7 : mm_prog 2 7 = some (0, .aload_n 0, 8, []) := by decide +kernel
theorem xe_2_7 (a1 a2 : Option MV) (x : Int) (st : List MV) (μ : MM) (G : MG) : ev 2 7 [some (vR x), a1, a2] st μ G = ev 2 8 [some (vR x), a1, a2] (vR x :: st) μ G := ev_stp pg_2_7 rfl
theorem pg_2_8 : mm_prog 2 8 = some (0, .getfield 15, 11, [0, 1, 0]) := by decide +kernel
theorem xe_2_8 (a0 a1 a2 : Option MV) (x : Int) (st : List MV) (μ : MM) (G : MG) : ev 2 8 [a0, a1, a2] (vR x :: st) μ G = if gk G x = 0 then ev 2 11 [a0, a1, a2] (vI (μ x 1) :: st) μ G else none := ev_if pg_2_8 rfl
theorem pg_2_11 : mm_prog 2 11 = some (0, .ifCond .lt 41, 14, []) := by decide +kernel
theorem xe_2_11 (a0 a1 a2 : Option MV) (x : Int) (st : List MV) (μ : MM) (G : MG) : ev 2 11 [a0, a1, a2] (vI x :: st) μ G = if x < 0 then ev 2 52 [a0, a1, a2] st μ G else ev 2 14 [a0, a1, a2] st μ G := ev_br (mm_cnd_lt x 0) pg_2_11 rfl
theorem pg_2_14 : mm_prog 2 14 = some (0, .aload_n 0, 15, []) := by decide +kernel
theorem xe_2_14 (a1 a2 : Option MV) (x : Int) (st : List MV) (μ : MM) (G : MG) : ev 2 14 [some (vR x), a1, a2] st μ G = ev 2 15 [some (vR x), a1, a2] (vR x :: st) μ G := ev_stp pg_2_14 rfl
theorem pg_2_15 : mm_prog 2 15 = some (0, .getfield 15, 18, [0, 1, 0]) := by decide +kernel
theorem xe_2_15 (a0 a1 a2 : Option MV) (x : Int) (st : List MV) (μ : MM) (G : MG) : ev 2 15 [a0, a1, a2] (vR x :: st) μ G = if gk G x = 0 then ev 2 18 [a0, a1, a2] (vI (μ x 1) :: st) μ G else none := ev_if pg_2_15 rfl
theorem pg_2_18 : mm_prog 2 18 = some (0, .aload_n 0, 19, []) := by decide +kernel
theorem xe_2_18 (a1 a2 : Option MV) (x : Int) (st : List MV) (μ : MM) (G : MG) : ev 2 18 [some (vR x), a1, a2] st μ G = ev 2 19 [some (vR x), a1, a2] (vR x :: st) μ G := ev_stp pg_2_18 rfl
theorem pg_2_19 : mm_prog 2 19 = some (0, .getfield 9, 22, [0, 0, 2]) := by decide +kernel
theorem xe_2_19 (a0 a1 a2 : Option MV) (x : Int) (st : List MV) (μ : MM) (G : MG) : ev 2 19 [a0, a1, a2] (vR x :: st) μ G = if gk G x = 0 then ev 2 22 [a0, a1, a2] (vR (μ x 0) :: st) μ G else none := ev_if pg_2_19 rfl
theorem pg_2_22 : mm_prog 2 22 = some (0, .arraylength, 23, []) := by decide +kernel
theorem xe_2_22 (a0 a1 a2 : Option MV) (x : Int) (st : List MV) (μ : MM) (G : MG) : ev 2 22 [a0, a1, a2] (vR x :: st) μ G = if 100 ≤ gk G x then ev 2 23 [a0, a1, a2] (vI (gl G x) :: st) μ G else none := ev_if pg_2_22 rfl
theorem pg_2_23 : mm_prog 2 23 = some (0, .if_icmp .ge 29, 26, []) := by decide +kernel
theorem xe_2_23 (a0 a1 a2 : Option MV) (x y : Int) (st : List MV) (μ : MM) (G : MG) : ev 2 23 [a0, a1, a2] (vI y :: vI x :: st) μ G = if y ≤ x then ev 2 52 [a0, a1, a2] st μ G else ev 2 26 [a0, a1, a2] st μ G := ev_br (mm_cnd_ge x y) pg_2_23 rfl
theorem pg_2_26 : mm_prog 2 26 = some (0, .aload_n 0, 27, []) := by decide +kernel
theorem xe_2_26 (a1 a2 : Option MV) (x : Int) (st : List MV) (μ : MM) (G : MG) : ev 2 26 [some (vR x), a1, a2] st μ G = ev 2 27 [some (vR x), a1, a2] (vR x :: st) μ G := ev_stp pg_2_26 rfl
theorem pg_2_27 : mm_prog 2 27 = some (0, .getfield 9, 30, [0, 0, 2]) := by decide +kernel
theorem xe_2_27 (a0 a1 a2 : Option MV) (x : Int) (st : List MV) (μ : MM) (G : MG) : ev 2 27 [a0, a1, a2] (vR x :: st) μ G = if gk G x = 0 then ev 2 30 [a0, a1, a2] (vR (μ x 0) :: st) μ G else none := ev_if pg_2_27 rfl
theorem pg_2_30 : mm_prog 2 30 = some (0, .aload_n 0, 31, []) := by decide +kernel
theorem xe_2_30 (a1 a2 : Option MV) (x : Int) (st : List MV) (μ : MM) (G : MG) : ev 2 30 [some (vR x), a1, a2] st μ G = ev 2 31 [some (vR x), a1, a2] (vR x :: st) μ G := ev_stp pg_2_30 rfl
theorem pg_2_31 : mm_prog 2 31 = some (0, .getfield 15, 34, [0, 1, 0]) := by decide +kernel
theorem xe_2_31 (a0 a1 a2 : Option MV) (x : Int) (st : List MV) (μ : MM) (G : MG) : ev 2 31 [a0, a1, a2] (vR x :: st) μ G = if gk G x = 0 then ev 2 34 [a0, a1, a2] (vI (μ x 1) :: st) μ G else none := ev_if pg_2_31 rfl
theorem pg_2_34 : mm_prog 2 34 = some (0, .iload_n 1, 35, []) := by decide +kernel
theorem xe_2_34 (a0 a2 : Option MV) (x : Int) (st : List MV) (μ : MM) (G : MG) : ev 2 34 [a0, some (vI x), a2] st μ G = ev 2 35 [a0, some (vI x), a2] (vI x :: st) μ G := ev_stp pg_2_34 rfl
theorem pg_2_35 : mm_prog 2 35 = some (0, .iload_n 2, 36, []) := by decide +kernel
theorem xe_2_35 (a0 a1 : Option MV) (x : Int) (st : List MV) (μ : MM) (G : MG) : ev 2 35 [a0, a1, some (vI x)] st μ G = ev 2 36 [a0, a1, some (vI x)] (vI x :: st) μ G := ev_stp pg_2_35 rfl
theorem pg_2_36 : mm_prog 2 36 = some (0, .ishr, 37, []) := by decide +kernel
theorem xe_2_36 (a0 a1 a2 : Option MV) (x y : Int) (st : List MV) (μ : MM) (G : MG) : ev 2 36 [a0, a1, a2] (vI y :: vI x :: st) μ G = ev 2 37 [a0, a1, a2] (vI (mm_shr x y) :: st) μ G := ev_stp pg_2_36 rfl
theorem pg_2_37 : mm_prog 2 37 = some (0, .sipush 255, 40, []) := by decide +kernel
theorem xe_2_37 (a0 a1 a2 : Option MV) (st : List MV) (μ : MM) (G : MG) : ev 2 37 [a0, a1, a2] st μ G = ev 2 40 [a0, a1, a2] (vI (255) :: st) μ G := ev_stp pg_2_37 rfl
theorem pg_2_40 : mm_prog 2 40 = some (0, .iand, 41, []) := by decide +kernel
theorem xe_2_40 (a0 a1 a2 : Option MV) (x y : Int) (st : List MV) (μ : MM) (G : MG) : ev 2 40 [a0, a1, a2] (vI y :: vI x :: st) μ G = ev 2 41 [a0, a1, a2] (vI (mm_and x y) :: st) μ G := ev_stp pg_2_40 rfl
theorem pg_2_41 : mm_prog 2 41 = some (0, .iastore, 42, []) := by decide +kernel
theorem xe_2_41 (a0 a1 a2 : Option MV) (x y z : Int) (st : List MV) (μ : MM) (G : MG) : ev 2 41 [a0, a1, a2] (vI x :: vI y :: vR z :: st) μ G = if gk G z = 100 ∧ 0 ≤ y ∧ y < gl G z ∧ 10 ≤ z then ev 2 42 [a0, a1, a2] st (mset μ z y x) G else none := ev_if pg_2_41 rfl
theorem pg_2_42 : mm_prog 2 42 = some (0, .aload_n 0, 43, []) := by decide +kernel
theorem xe_2_42 (a1 a2 : Option MV) (x : Int) (st : List MV) (μ : MM) (G : MG) : ev 2 42 [some (vR x), a1, a2] st μ G = ev 2 43 [some (vR x), a1, a2] (vR x :: st) μ G := ev_stp pg_2_42 rfl
theorem pg_2_43 : mm_prog 2 43 = some (0, .dup, 44, []) := by decide +kernel
theorem xe_2_43 (a0 a1 a2 : Option MV) (x : Int) (st : List MV) (μ : MM) (G : MG) : ev 2 43 [a0, a1, a2] (vR x :: st) μ G = ev 2 44 [a0, a1, a2] (vR x :: vR x :: st) μ G := ev_stp pg_2_43 rfl
theorem pg_2_44 : mm_prog 2 44 = some (0, .getfield 15, 47, [0, 1, 0]) := by decide +kernel
theorem xe_2_44 (a0 a1 a2 : Option MV) (x : Int) (st : List MV) (μ : MM) (G : MG) : ev 2 44 [a0, a1, a2] (vR x :: st) μ G = if gk G x = 0 then ev 2 47 [a0, a1, a2] (vI (μ x 1) :: st) μ G else none := ev_if pg_2_44 rfl
theorem pg_2_47 : mm_prog 2 47 = some (0, .iconst 1, 48, []) := by decide +kernel
theorem xe_2_47 (a0 a1 a2 : Option MV) (st : List MV) (μ : MM) (G : MG) : ev 2 47 [a0, a1, a2] st μ G = ev 2 48 [a0, a1, a2] (vI (1) :: st) μ G := ev_stp pg_2_47 rfl
theorem pg_2_48 : mm_prog 2 48 = some (0, .iadd, 49, []) := by decide +kernel
theorem xe_2_48 (a0 a1 a2 : Option MV) (x y : Int) (st : List MV) (μ : MM) (G : MG) : ev 2 48 [a0, a1, a2] (vI y :: vI x :: st) μ G = ev 2 49 [a0, a1, a2] (vI (w32 (x + y)) :: st) μ G := ev_stp pg_2_48 rfl
theorem pg_2_49 : mm_prog 2 49 = some (0, .putfield 15, 52, [0, 1, 0]) := by decide +kernel
theorem xe_2_49 (a0 a1 a2 : Option MV) (x y : Int) (st : List MV) (μ : MM) (G : MG) : ev 2 49 [a0, a1, a2] (vI x :: vR y :: st) μ G = if gk G y = 0 then ev 2 52 [a0, a1, a2] st (mset μ y 1 x) G else none := ev_put0 pg_2_49
theorem pg_2_52 : mm_prog 2 52 = some (0, .iinc 2 (-8), 55, []) := by decide +kernel
theorem xe_2_52 (a0 a1 : Option MV) (x : Int) (st : List MV) (μ : MM) (G : MG) (h : mm_nL a1 = true) : ev 2 52 [a0, a1, some (vI x)] st μ G = ev 2 55 [a0, a1, some (vI (w32 (x + (-8))))] st μ G := ev_st pg_2_52 rfl (mm_nl_of h) (Nat.le_of_ble_eq_true rfl)
theorem pg_2_55 : mm_prog 2 55 = some (0, .goto (-52), 58, []) := by decide +kernel
theorem xe_2_55 (a0 a1 a2 : Option MV) (st : List MV) (μ : MM) (G : MG) : ev 2 55 [a0, a1, a2] st μ G = ev 2 3 [a0, a1, a2] st μ G := ev_stp pg_2_55 rfl
theorem pg_2_58 : mm_prog 2 58 = some (2, .return_, 59, []) := by decide +kernel
theorem xe_2_58 (a0 a1 a2 : Option MV) (μ : MM) (G : MG) : ev 2 58 [a0, a1, a2] [] μ G = some (none, μ, G) := ev_ret pg_2_58 rfl
-- X0_at
theorem pg_3_0 : mm_prog 3 0 = some (0, .iload_n 1, 1, []) := by decide +kernel
theorem xe_3_0 (a0 : Option MV) (x : Int) (st : List MV) (μ : MM) (G : MG) : ev 3 0 [a0, some (vI x)] st μ G = ev 3 1 [a0, some (vI x)] (vI x :: st) μ G := ev_stp pg_3_0 rfl
theorem pg_3_1 : mm_prog 3 1 = some (0, .ifCond .lt 29, 4, []) := by decide +kernel
theorem xe_3_1 (a0 a1 : Option MV) (x : Int) (st : List MV) (μ : MM) (G : MG) : ev 3 1 [a0, a1] (vI x :: st) μ G = if x < 0 then ev 3 30 [a0, a1] st μ G else ev 3 4 [a0, a1] st μ G := ev_br (mm_cnd_lt x 0) pg_3_1 rfl
theorem pg_3_4 : mm_prog 3 4 = some (0, .iload_n 1, 5, []) := by decide +kernel
theorem xe_3_4 (a0 : Option MV) (x : Int) (st : List MV) (μ : MM) (G : MG) : ev 3 4 [a0, some (vI x)] st μ G = ev 3 5 [a0, some (vI x)] (vI x :: st) μ G := ev_stp pg_3_4 rfl
theorem pg_3_5 : mm_prog 3 5 = some (0, .aload_n 0, 6, []) := by decide +kernel
theorem xe_3_5 (a1 : Option MV) (x : Int) (st : List MV) (μ : MM) (G : MG) : ev 3 5 [some (vR x), a1] st μ G = ev 3 6 [some (vR x), a1] (vR x :: st) μ G := ev_stp pg_3_5 rfl
theorem pg_3_6 : mm_prog 3 6 = some (0, .getfield 15, 9, [0, 1, 0]) := by decide +kernel
theorem xe_3_6 (a0 a1 : Option MV) (x : Int) (st : List MV) (μ : MM) (G : MG) : ev 3 6 [a0, a1] (vR x :: st) μ G = if gk G x = 0 then ev 3 9 [a0, a1] (vI (μ x 1) :: st) μ G else none := ev_if pg_3_6 rfl
theorem pg_3_9 : mm_prog 3 9 = some (0, .if_icmp .ge 21, 12, []) := by decide +kernel
theorem xe_3_9 (a0 a1 : Option MV) (x y : Int) (st : List MV) (μ : MM) (G : MG) : ev 3 9 [a0, a1] (vI y :: vI x :: st) μ G = if y ≤ x then ev 3 30 [a0, a1] st μ G else ev 3 12 [a0, a1] st μ G := ev_br (mm_cnd_ge x y) pg_3_9 rfl
theorem pg_3_12 : mm_prog 3 12 = some (0, .iload_n 1, 13, []) := by decide +kernel
theorem xe_3_12 (a0 : Option MV) (x : Int) (st : List MV) (μ : MM) (G : MG) : ev 3 12 [a0, some (vI x)] st μ G = ev 3 13 [a0, some (vI x)] (vI x :: st) μ G := ev_stp pg_3_12 rfl
theorem pg_3_13 : mm_prog 3 13 = some (0, .aload_n 0, 14, []) := by decide +kernel
theorem xe_3_13 (a1 : Option MV) (x : Int) (st : List MV) (μ : MM) (G : MG) : ev 3 13 [some (vR x), a1] st μ G = ev 3 14 [some (vR x), a1] (vR x :: st) μ G := ev_stp pg_3_13 rfl
theorem pg_3_14 : mm_prog 3 14 = some (0, .getfield 9, 17, [0, 0, 2]) := by decide +kernel
theorem xe_3_14 (a0 a1 : Option MV) (x : Int) (st : List MV) (μ : MM) (G : MG) : ev 3 14 [a0, a1] (vR x :: st) μ G = if gk G x = 0 then ev 3 17 [a0, a1] (vR (μ x 0) :: st) μ G else none := ev_if pg_3_14 rfl
theorem pg_3_17 : mm_prog 3 17 = some (0, .arraylength, 18, []) := by decide +kernel
theorem xe_3_17 (a0 a1 : Option MV) (x : Int) (st : List MV) (μ : MM) (G : MG) : ev 3 17 [a0, a1] (vR x :: st) μ G = if 100 ≤ gk G x then ev 3 18 [a0, a1] (vI (gl G x) :: st) μ G else none := ev_if pg_3_17 rfl
theorem pg_3_18 : mm_prog 3 18 = some (0, .if_icmp .ge 12, 21, []) := by decide +kernel
theorem xe_3_18 (a0 a1 : Option MV) (x y : Int) (st : List MV) (μ : MM) (G : MG) : ev 3 18 [a0, a1] (vI y :: vI x :: st) μ G = if y ≤ x then ev 3 30 [a0, a1] st μ G else ev 3 21 [a0, a1] st μ G := ev_br (mm_cnd_ge x y) pg_3_18 rfl
theorem pg_3_21 : mm_prog 3 21 = some (0, .aload_n 0, 22, []) := by decide +kernel
theorem xe_3_21 (a1 : Option MV) (x : Int) (st : List MV) (μ : MM) (G : MG) : ev 3 21 [some (vR x), a1] st μ G = ev 3 22 [some (vR x), a1] (vR x :: st) μ G := ev_stp pg_3_21 rfl
theorem pg_3_22 : mm_prog 3 22 = some (0, .getfield 9, 25, [0, 0, 2]) := by decide +kernel
theorem xe_3_22 (a0 a1 : Option MV) (x : Int) (st : List MV) (μ : MM) (G : MG) : ev 3 22 [a0, a1] (vR x :: st) μ G = if gk G x = 0 then ev 3 25 [a0, a1] (vR (μ x 0) :: st) μ G else none := ev_if pg_3_22 rfl
theorem pg_3_25 : mm_prog 3 25 = some (0, .iload_n 1, 26, []) := by decide +kernel
theorem xe_3_25 (a0 : Option MV) (x : Int) (st : List MV) (μ : MM) (G : MG) : ev 3 25 [a0, some (vI x)] st μ G = ev 3 26 [a0, some (vI x)] (vI x :: st) μ G := ev_stp pg_3_25 rfl
theorem pg_3_26 : mm_prog 3 26 = some (0, .iaload, 27, []) := by decide +kernel
theorem xe_3_26 (a0 a1 : Option MV) (x y : Int) (st : List MV) (μ : MM) (G : MG) : ev 3 26 [a0, a1] (vI x :: vR y :: st) μ G = if gk G y = 100 ∧ 0 ≤ x ∧ x < gl G y then ev 3 27 [a0, a1] (vI (μ y x) :: st) μ G else none := ev_if pg_3_26 rfl
theorem pg_3_27 : mm_prog 3 27 = some (0, .goto 4, 30, []) := by decide +kernel
theorem xe_3_27 (a0 a1 : Option MV) (st : List MV) (μ : MM) (G : MG) : ev 3 27 [a0, a1] st μ G = ev 3 31 [a0, a1] st μ G := ev_stp pg_3_27 rfl
theorem pg_3_30 : mm_prog 3 30 = some (0, .iconst 0, 31, []) := by decide +kernel
theorem xe_3_30 (a0 a1 : Option MV) (st : List MV) (μ : MM) (G : MG) : ev 3 30 [a0, a1] st μ G = ev 3 31 [a0, a1] (vI (0) :: st) μ G := ev_stp pg_3_30 rfl
theorem pg_3_31 : mm_prog 3 31 = some (2, .ireturn, 32, [0]) := by decide +kernel
theorem xe_3_31 (a0 a1 : Option MV) (x : Int) (μ : MM) (G : MG) : ev 3 31 [a0, a1] [vI x] μ G = some (some (vI x), μ, G) := ev_ret pg_3_31 rfl
-- X0_take
theorem pg_4_0 : mm_prog 4 0 = some (0, .aload_n 0, 1, []) := by decide +kernel
theorem xe_4_0 (a1 a2 : Option MV) (x : Int) (st : List MV) (μ : MM) (G : MG) : ev 4 0 [some (vR x), a1, a2] st μ G = ev 4 1 [some (vR x), a1, a2] (vR x :: st) μ G := ev_stp pg_4_0 rfl
theorem pg_4_1 : mm_prog 4 1 = some (0, .iconst 0, 2, []) := by decide +kernel
theorem xe_4_1 (a0 a1 a2 : Option MV) (st : List MV) (μ : MM) (G : MG) : ev 4 1 [a0, a1, a2] st μ G = ev 4 2 [a0, a1, a2] (vI (0) :: st) μ G := ev_stp pg_4_1 rfl
theorem pg_4_2 : mm_prog 4 2 = some (0, .iload_n 2, 3, []) := by decide +kernel
theorem xe_4_2 (a0 a1 : Option MV) (x : Int) (st : List MV) (μ : MM) (G : MG) : ev 4 2 [a0, a1, some (vI x)] st μ G = ev 4 3 [a0, a1, some (vI x)] (vI x :: st) μ G := ev_stp pg_4_2 rfl
theorem pg_4_3 : mm_prog 4 3 = some (0, .aload_n 1, 4, []) := by decide +kernel
theorem xe_4_3 (a0 a2 : Option MV) (x : Int) (st : List MV) (μ : MM) (G : MG) : ev 4 3 [a0, some (vR x), a2] st μ G = ev 4 4 [a0, some (vR x), a2] (vR x :: st) μ G := ev_stp pg_4_3 rfl
theorem pg_4_4 : mm_prog 4 4 = some (0, .getfield 15, 7, [0, 1, 0]) := by decide +kernel
theorem xe_4_4 (a0 a1 a2 : Option MV) (x : Int) (st : List MV) (μ : MM) (G : MG) : ev 4 4 [a0, a1, a2] (vR x :: st) μ G = if gk G x = 0 then ev 4 7 [a0, a1, a2] (vI (μ x 1) :: st) μ G else none := ev_if pg_4_4 rfl
theorem pg_4_7 : mm_prog 4 7 = some (0, .invokestatic 19, 10, [0, 0]) := by decide +kernel
theorem xe_4_7 (a0 a1 a2 : Option MV) (x y : Int) (st : List MV) (μ : MM) (G : MG) : ev 4 7 [a0, a1, a2] (vI y :: vI x :: st) μ G = if mm_cats st ≤ 8 then ev 4 10 [a0, a1, a2] (vI (min x y) :: st) μ G else none := ev_if pg_4_7 rfl
theorem pg_4_10 : mm_prog 4 10 = some (0, .invokestatic 25, 13, [0]) := by decide +kernel
theorem xe_4_10 (a0 a1 a2 : Option MV) (x y : Int) (st : List MV) (μ : MM) (G : MG) : ev 4 10 [a0, a1, a2] (vI y :: vI x :: st) μ G = if mm_cats st ≤ 8 then ev 4 13 [a0, a1, a2] (vI (max x y) :: st) μ G else none := ev_if pg_4_10 rfl
theorem pg_4_13 : mm_prog 4 13 = some (0, .putfield 15, 16, [0, 1, 0]) := by decide +kernel
theorem xe_4_13 (a0 a1 a2 : Option MV) (x y : Int) (st : List MV) (μ : MM) (G : MG) : ev 4 13 [a0, a1, a2] (vI x :: vR y :: st) μ G = if gk G y = 0 then ev 4 16 [a0, a1, a2] st (mset μ y 1 x) G else none := ev_put0 pg_4_13
theorem pg_4_16 : mm_prog 4 16 = some (0, .aload_n 1, 17, []) := by decide +kernel
theorem xe_4_16 (a0 a2 : Option MV) (x : Int) (st : List MV) (μ : MM) (G : MG) : ev 4 16 [a0, some (vR x), a2] st μ G = ev 4 17 [a0, some (vR x), a2] (vR x :: st) μ G := ev_stp pg_4_16 rfl
theorem pg_4_17 : mm_prog 4 17 = some (0, .getfield 9, 20, [0, 0, 2]) := by decide +kernel
theorem xe_4_17 (a0 a1 a2 : Option MV) (x : Int) (st : List MV) (μ : MM) (G : MG) : ev 4 17 [a0, a1, a2] (vR x :: st) μ G = if gk G x = 0 then ev 4 20 [a0, a1, a2] (vR (μ x 0) :: st) μ G else none := ev_if pg_4_17 rfl
theorem pg_4_20 : mm_prog 4 20 = some (0, .iconst 0, 21, []) := by decide +kernel
theorem xe_4_20 (a0 a1 a2 : Option MV) (st : List MV) (μ : MM) (G : MG) : ev 4 20 [a0, a1, a2] st μ G = ev 4 21 [a0, a1, a2] (vI (0) :: st) μ G := ev_stp pg_4_20 rfl
theorem pg_4_21 : mm_prog 4 21 = some (0, .aload_n 0, 22, []) := by decide +kernel
theorem xe_4_21 (a1 a2 : Option MV) (x : Int) (st : List MV) (μ : MM) (G : MG) : ev 4 21 [some (vR x), a1, a2] st μ G = ev 4 22 [some (vR x), a1, a2] (vR x :: st) μ G := ev_stp pg_4_21 rfl
theorem pg_4_22 : mm_prog 4 22 = some (0, .getfield 9, 25, [0, 0, 2]) := by decide +kernel
theorem xe_4_22 (a0 a1 a2 : Option MV) (x : Int) (st : List MV) (μ : MM) (G : MG) : ev 4 22 [a0, a1, a2] (vR x :: st) μ G = if gk G x = 0 then ev 4 25 [a0, a1, a2] (vR (μ x 0) :: st) μ G else none := ev_if pg_4_22 rfl
theorem pg_4_25 : mm_prog 4 25 = some (0, .iconst 0, 26, []) := by decide +kernel
theorem xe_4_25 (a0 a1 a2 : Option MV) (st : List MV) (μ : MM) (G : MG) : ev 4 25 [a0, a1, a2] st μ G = ev 4 26 [a0, a1, a2] (vI (0) :: st) μ G := ev_stp pg_4_25 rfl
theorem pg_4_26 : mm_prog 4 26 = some (0, .aload_n 0, 27, []) := by decide +kernel
theorem xe_4_26 (a1 a2 : Option MV) (x : Int) (st : List MV) (μ : MM) (G : MG) : ev 4 26 [some (vR x), a1, a2] st μ G = ev 4 27 [some (vR x), a1, a2] (vR x :: st) μ G := ev_stp pg_4_26 rfl
theorem pg_4_27 : mm_prog 4 27 = some (0, .getfield 15, 30, [0, 1, 0]) := by decide +kernel
theorem xe_4_27 (a0 a1 a2 : Option MV) (x : Int) (st : List MV) (μ : MM) (G : MG) : ev 4 27 [a0, a1, a2] (vR x :: st) μ G = if gk G x = 0 then ev 4 30 [a0, a1, a2] (vI (μ x 1) :: st) μ G else none := ev_if pg_4_27 rfl
theorem pg_4_30 : mm_prog 4 30 = some (0, .invokestatic 28, 33, []) := by decide +kernel
theorem xe_4_30 (a0 a1 a2 : Option MV) (x y z u v : Int) (st : List MV) (μ : MM) (G : MG) : ev 4 30 [a0, a1, a2] (vI x :: vI y :: vR z :: vI u :: vR v :: st) μ G = if gk G v = 100 ∧ gk G z = 100 ∧ ¬ v = z ∧ 10 ≤ z ∧ 0 ≤ x ∧ 0 ≤ u ∧ 0 ≤ y ∧ u + x ≤ gl G v ∧ y + x ≤ gl G z ∧ mm_cats st ≤ 8 then ev 4 33 [a0, a1, a2] st (mcopy μ z y x (fun q => μ v (u + q))) G else none := ev_if pg_4_30 rfl
theorem pg_4_33 : mm_prog 4 33 = some (2, .return_, 34, []) := by decide +kernel
theorem xe_4_33 (a0 a1 a2 : Option MV) (μ : MM) (G : MG) : ev 4 33 [a0, a1, a2] [] μ G = some (none, μ, G) := ev_ret pg_4_33 rfl
-- X0_sumOfBlock
theorem pg_5_0 : mm_prog 5 0 = some (0, .iconst 0, 1, []) := by decide +kernel
theorem xe_5_0 (a0 a1 a2 a3 : Option MV) (st : List MV) (μ : MM) (G : MG) : ev 5 0 [a0, a1, a2, a3] st μ G = ev 5 1 [a0, a1, a2, a3] (vI (0) :: st) μ G := ev_stp pg_5_0 rfl
theorem pg_5_1 : mm_prog 5 1 = some (0, .istore_n 2, 2, []) := by decide +kernel
theorem xe_5_1 (a0 a1 a2 a3 : Option MV) (x : Int) (st : List MV) (μ : MM) (G : MG) (h : mm_nL a1 = true) : ev 5 1 [a0, a1, a2, a3] (vI x :: st) μ G = ev 5 2 [a0, a1, some (vI x), a3] st μ G := ev_st pg_5_1 rfl (mm_nl_of h) (Nat.le_of_ble_eq_true rfl)
theorem pg_5_2 : mm_prog 5 2 = some (0, .iconst 0, 3, []) := by decide +kernel
theorem xe_5_2 (a0 a1 a2 a3 : Option MV) (st : List MV) (μ : MM) (G : MG) : ev 5 2 [a0, a1, a2, a3] st μ G = ev 5 3 [a0, a1, a2, a3] (vI (0) :: st) μ G := ev_stp pg_5_2 rfl
theorem pg_5_3 : mm_prog 5 3 = some (0, .istore_n 3, 4, []) := by decide +kernel
theorem xe_5_3 (a0 a1 a2 a3 : Option MV) (x : Int) (st : List MV) (μ : MM) (G : MG) (h : mm_nL a2 = true) : ev 5 3 [a0, a1, a2, a3] (vI x :: st) μ G = ev 5 4 [a0, a1, a2, some (vI x)] st μ G := ev_st pg_5_3 rfl (mm_nl_of h) (Nat.le_of_ble_eq_true rfl)
theorem pg_5_4 : mm_prog 5 4 = some (0, .iload_n 3, 5, []) := by decide +kernel
theorem xe_5_4 (a0 a1 a2 : Option MV) (x : Int) (st : List MV) (μ : MM) (G : MG) : ev 5 4 [a0, a1, a2, some (vI x)] st μ G = ev 5 5 [a0, a1, a2, some (vI x)] (vI x :: st) μ G := ev_stp pg_5_4 rfl
theorem pg_5_5 : mm_prog 5 5 = some (0, .sipush 128, 8, []) := by decide +kernel
theorem xe_5_5 (a0 a1 a2 a3 : Option MV) (st : List MV) (μ : MM) (G : MG) : ev 5 5 [a0, a1, a2, a3] st μ G = ev 5 8 [a0, a1, a2, a3] (vI (128) :: st) μ G := ev_stp pg_5_5 rfl
theorem pg_5_8 : mm_prog 5 8 = some (0, .if_icmp .ge 23, 11, []) := by decide +kernel
theorem xe_5_8 (a0 a1 a2 a3 : Option MV) (x y : Int) (st : List MV) (μ : MM) (G : MG) : ev 5 8 [a0, a1, a2, a3] (vI y :: vI x :: st) μ G = if y ≤ x then ev 5 31 [a0, a1, a2, a3] st μ G else ev 5 11 [a0, a1, a2, a3] st μ G := ev_br (mm_cnd_ge x y) pg_5_8 rfl
theorem pg_5_11 : mm_prog 5 11 = some (0, .iload_n 2, 12, []) := by decide +kernel
theorem xe_5_11 (a0 a1 a3 : Option MV) (x : Int) (st : List MV) (μ : MM) (G : MG) : ev 5 11 [a0, a1, some (vI x), a3] st μ G = ev 5 12 [a0, a1, some (vI x), a3] (vI x :: st) μ G := ev_stp pg_5_11 rfl
theorem pg_5_12 : mm_prog 5 12 = some (0, .aload_n 0, 13, []) := by decide +kernel
theorem xe_5_12 (a1 a2 a3 : Option MV) (x : Int) (st : List MV) (μ : MM) (G : MG) : ev 5 12 [some (vR x), a1, a2, a3] st μ G = ev 5 13 [some (vR x), a1, a2, a3] (vR x :: st) μ G := ev_stp pg_5_12 rfl
theorem pg_5_13 : mm_prog 5 13 = some (0, .iload_n 1, 14, []) := by decide +kernel
theorem xe_5_13 (a0 a2 a3 : Option MV) (x : Int) (st : List MV) (μ : MM) (G : MG) : ev 5 13 [a0, some (vI x), a2, a3] st μ G = ev 5 14 [a0, some (vI x), a2, a3] (vI x :: st) μ G := ev_stp pg_5_13 rfl
theorem pg_5_14 : mm_prog 5 14 = some (0, .sipush 128, 17, []) := by decide +kernel
theorem xe_5_14 (a0 a1 a2 a3 : Option MV) (st : List MV) (μ : MM) (G : MG) : ev 5 14 [a0, a1, a2, a3] st μ G = ev 5 17 [a0, a1, a2, a3] (vI (128) :: st) μ G := ev_stp pg_5_14 rfl
theorem pg_5_17 : mm_prog 5 17 = some (0, .imul, 18, []) := by decide +kernel
theorem xe_5_17 (a0 a1 a2 a3 : Option MV) (x y : Int) (st : List MV) (μ : MM) (G : MG) : ev 5 17 [a0, a1, a2, a3] (vI y :: vI x :: st) μ G = ev 5 18 [a0, a1, a2, a3] (vI (w32 (x * y)) :: st) μ G := ev_stp pg_5_17 rfl
theorem pg_5_18 : mm_prog 5 18 = some (0, .iload_n 3, 19, []) := by decide +kernel
theorem xe_5_18 (a0 a1 a2 : Option MV) (x : Int) (st : List MV) (μ : MM) (G : MG) : ev 5 18 [a0, a1, a2, some (vI x)] st μ G = ev 5 19 [a0, a1, a2, some (vI x)] (vI x :: st) μ G := ev_stp pg_5_18 rfl
theorem pg_5_19 : mm_prog 5 19 = some (0, .iadd, 20, []) := by decide +kernel
theorem xe_5_19 (a0 a1 a2 a3 : Option MV) (x y : Int) (st : List MV) (μ : MM) (G : MG) : ev 5 19 [a0, a1, a2, a3] (vI y :: vI x :: st) μ G = ev 5 20 [a0, a1, a2, a3] (vI (w32 (x + y)) :: st) μ G := ev_stp pg_5_19 rfl
theorem pg_5_20 : mm_prog 5 20 = some (1, .invokevirtual 34, 23, [1, 3, 1, 0]) := by decide +kernel
theorem xe_5_20 (a0 a1 a2 a3 : Option MV) (x0 z r0 : Int) (μ : MM) (G : MG) : ev 5 20 [a0, a1, a2, a3] (vI x0 :: vR z :: [vI r0]) μ G = if gk G z = 0 ∧ 0 < z then (ev 3 0 [some (vR z), some (vI x0)] [] μ G).bind (fun q => ev 5 23 [a0, a1, a2, a3] (q.1.toList ++ [vI r0]) q.2.1 q.2.2) else none := ev_calV (as := [vR z, vI x0]) (r := [vI r0]) mx_3 pg_5_20 rfl rfl (Nat.le_of_ble_eq_true rfl) (Nat.le_of_ble_eq_true rfl)
theorem pg_5_23 : mm_prog 5 23 = some (0, .iadd, 24, []) := by decide +kernel
theorem xe_5_23 (a0 a1 a2 a3 : Option MV) (x y : Int) (st : List MV) (μ : MM) (G : MG) : ev 5 23 [a0, a1, a2, a3] (vI y :: vI x :: st) μ G = ev 5 24 [a0, a1, a2, a3] (vI (w32 (x + y)) :: st) μ G := ev_stp pg_5_23 rfl
theorem pg_5_24 : mm_prog 5 24 = some (0, .istore_n 2, 25, []) := by decide +kernel
theorem xe_5_24 (a0 a1 a2 a3 : Option MV) (x : Int) (st : List MV) (μ : MM) (G : MG) (h : mm_nL a1 = true) : ev 5 24 [a0, a1, a2, a3] (vI x :: st) μ G = ev 5 25 [a0, a1, some (vI x), a3] st μ G := ev_st pg_5_24 rfl (mm_nl_of h) (Nat.le_of_ble_eq_true rfl)
theorem pg_5_25 : mm_prog 5 25 = some (0, .iinc 3 1, 28, []) := by decide +kernel
theorem xe_5_25 (a0 a1 a2 : Option MV) (x : Int) (st : List MV) (μ : MM) (G : MG) (h : mm_nL a2 = true) : ev 5 25 [a0, a1, a2, some (vI x)] st μ G = ev 5 28 [a0, a1, a2, some (vI (w32 (x + (1))))] st μ G := ev_st pg_5_25 rfl (mm_nl_of h) (Nat.le_of_ble_eq_true rfl)
theorem pg_5_28 : mm_prog 5 28 = some (0, .goto (-24), 31, []) := by decide +kernel
theorem xe_5_28 (a0 a1 a2 a3 : Option MV) (st : List MV) (μ : MM) (G : MG) : ev 5 28 [a0, a1, a2, a3] st μ G = ev 5 4 [a0, a1, a2, a3] st μ G := ev_stp pg_5_28 rfl
theorem pg_5_31 : mm_prog 5 31 = some (0, .iload_n 2, 32, []) := by decide +kernel
theorem xe_5_31 (a0 a1 a3 : Option MV) (x : Int) (st : List MV) (μ : MM) (G : MG) : ev 5 31 [a0, a1, some (vI x), a3] st μ G = ev 5 32 [a0, a1, some (vI x), a3] (vI x :: st) μ G := ev_stp pg_5_31 rfl
theorem pg_5_32 : mm_prog 5 32 = some (0, .sipush 255, 35, []) := by decide +kernel
theorem xe_5_32 (a0 a1 a2 a3 : Option MV) (st : List MV) (μ : MM) (G : MG) : ev 5 32 [a0, a1, a2, a3] st μ G = ev 5 35 [a0, a1, a2, a3] (vI (255) :: st) μ G := ev_stp pg_5_32 rfl
theorem pg_5_35 : mm_prog 5 35 = some (0, .iand, 36, []) := by decide +kernel
theorem xe_5_35 (a0 a1 a2 a3 : Option MV) (x y : Int) (st : List MV) (μ : MM) (G : MG) : ev 5 35 [a0, a1, a2, a3] (vI y :: vI x :: st) μ G = ev 5 36 [a0, a1, a2, a3] (vI (mm_and x y) :: st) μ G := ev_stp pg_5_35 rfl
theorem pg_5_36 : mm_prog 5 36 = some (2, .ireturn, 37, [0]) := by decide +kernel
theorem xe_5_36 (a0 a1 a2 a3 : Option MV) (x : Int) (μ : MM) (G : MG) : ev 5 36 [a0, a1, a2, a3] [vI x] μ G = some (some (vI x), μ, G) := ev_ret pg_5_36 rfl
-- X1_init
theorem pg_6_0 : mm_prog 6 0 = some (0, .aload_n 0, 1, []) := by decide +kernel
theorem xe_6_0 (x : Int) (st : List MV) (μ : MM) (G : MG) : ev 6 0 [some (vR x)] st μ G = ev 6 1 [some (vR x)] (vR x :: st) μ G := ev_stp pg_6_0 rfl
theorem pg_6_1 : mm_prog 6 1 = some (0, .invokespecial 3, 4, []) := by decide +kernel
theorem xe_6_1 (a0 : Option MV) (x : Int) (st : List MV) (μ : MM) (G : MG) : ev 6 1 [a0] (vR x :: st) μ G = if 10 ≤ x ∧ mm_cats st ≤ 8 then ev 6 4 [a0] st μ G else none := ev_if pg_6_1 rfl
theorem pg_6_4 : mm_prog 6 4 = some (0, .aload_n 0, 5, []) := by decide +kernel
theorem xe_6_4 (x : Int) (st : List MV) (μ : MM) (G : MG) : ev 6 4 [some (vR x)] st μ G = ev 6 5 [some (vR x)] (vR x :: st) μ G := ev_stp pg_6_4 rfl
theorem pg_6_5 : mm_prog 6 5 = some (0, .sipush 128, 8, []) := by decide +kernel
theorem xe_6_5 (a0 : Option MV) (st : List MV) (μ : MM) (G : MG) : ev 6 5 [a0] st μ G = ev 6 8 [a0] (vI (128) :: st) μ G := ev_stp pg_6_5 rfl
theorem pg_6_8 : mm_prog 6 8 = some (0, .newarray .int, 10, [100]) := by decide +kernel
theorem xe_6_8 (a0 : Option MV) (x : Int) (st : List MV) (μ : MM) (G : MG) : ev 6 8 [a0] (vI x :: st) μ G = if 0 ≤ x ∧ x ≤ 100000 then ev 6 10 [a0] (vR G.2.1 :: st) (mzero μ G.2.1) (gnew G 100 x x) else none := ev_if pg_6_8 rfl
theorem pg_6_10 : mm_prog 6 10 = some (0, .putfield 9, 13, [1, 0, 2]) := by decide +kernel
theorem xe_6_10 (a0 : Option MV) (x y : Int) (st : List MV) (μ : MM) (G : MG) : ev 6 10 [a0] (vR x :: vR y :: st) μ G = if gk G y = 1 then ev 6 13 [a0] st (mset μ y 0 x) G else none := ev_put2 pg_6_10
theorem pg_6_13 : mm_prog 6 13 = some (2, .return_, 14, []) := by decide +kernel
theorem xe_6_13 (a0 : Option MV) (μ : MM) (G : MG) : ev 6 13 [a0] [] μ G = some (none, μ, G) := ev_ret pg_6_13 rfl
-- X1_at
theorem pg_7_0 : mm_prog 7 0 = some (0, .iload_n 1, 1, []) := by decide +kernel
theorem xe_7_0 (a0 : Option MV) (x : Int) (st : List MV) (μ : MM) (G : MG) : ev 7 0 [a0, some (vI x)] st μ G = ev 7 1 [a0, some (vI x)] (vI x :: st) μ G := ev_stp pg_7_0 rfl
theorem pg_7_1 : mm_prog 7 1 = some (0, .ifCond .lt 21, 4, []) := by decide +kernel
theorem xe_7_1 (a0 a1 : Option MV) (x : Int) (st : List MV) (μ : MM) (G : MG) : ev 7 1 [a0, a1] (vI x :: st) μ G = if x < 0 then ev 7 22 [a0, a1] st μ G else ev 7 4 [a0, a1] st μ G := ev_br (mm_cnd_lt x 0) pg_7_1 rfl
theorem pg_7_4 : mm_prog 7 4 = some (0, .iload_n 1, 5, []) := by decide +kernel
theorem xe_7_4 (a0 : Option MV) (x : Int) (st : List MV) (μ : MM) (G : MG) : ev 7 4 [a0, some (vI x)] st μ G = ev 7 5 [a0, some (vI x)] (vI x :: st) μ G := ev_stp pg_7_4 rfl
theorem pg_7_5 : mm_prog 7 5 = some (0, .aload_n 0, 6, []) := by decide +kernel
theorem xe_7_5 (a1 : Option MV) (x : Int) (st : List MV) (μ : MM) (G : MG) : ev 7 5 [some (vR x), a1] st μ G = ev 7 6 [some (vR x), a1] (vR x :: st) μ G := ev_stp pg_7_5 rfl
theorem pg_7_6 : mm_prog 7 6 = some (0, .getfield 9, 9, [1, 0, 2]) := by decide +kernel
theorem xe_7_6 (a0 a1 : Option MV) (x : Int) (st : List MV) (μ : MM) (G : MG) : ev 7 6 [a0, a1] (vR x :: st) μ G = if gk G x = 1 then ev 7 9 [a0, a1] (vR (μ x 0) :: st) μ G else none := ev_if pg_7_6 rfl
theorem pg_7_9 : mm_prog 7 9 = some (0, .arraylength, 10, []) := by decide +kernel
theorem xe_7_9 (a0 a1 : Option MV) (x : Int) (st : List MV) (μ : MM) (G : MG) : ev 7 9 [a0, a1] (vR x :: st) μ G = if 100 ≤ gk G x then ev 7 10 [a0, a1] (vI (gl G x) :: st) μ G else none := ev_if pg_7_9 rfl
theorem pg_7_10 : mm_prog 7 10 = some (0, .if_icmp .ge 12, 13, []) := by decide +kernel
theorem xe_7_10 (a0 a1 : Option MV) (x y : Int) (st : List MV) (μ : MM) (G : MG) : ev 7 10 [a0, a1] (vI y :: vI x :: st) μ G = if y ≤ x then ev 7 22 [a0, a1] st μ G else ev 7 13 [a0, a1] st μ G := ev_br (mm_cnd_ge x y) pg_7_10 rfl
theorem pg_7_13 : mm_prog 7 13 = some (0, .aload_n 0, 14, []) := by decide +kernel
theorem xe_7_13 (a1 : Option MV) (x : Int) (st : List MV) (μ : MM) (G : MG) : ev 7 13 [some (vR x), a1] st μ G = ev 7 14 [some (vR x), a1] (vR x :: st) μ G := ev_stp pg_7_13 rfl
theorem pg_7_14 : mm_prog 7 14 = some (0, .getfield 9, 17, [1, 0, 2]) := by decide +kernel
theorem xe_7_14 (a0 a1 : Option MV) (x : Int) (st : List MV) (μ : MM) (G : MG) : ev 7 14 [a0, a1] (vR x :: st) μ G = if gk G x = 1 then ev 7 17 [a0, a1] (vR (μ x 0) :: st) μ G else none := ev_if pg_7_14 rfl
theorem pg_7_17 : mm_prog 7 17 = some (0, .iload_n 1, 18, []) := by decide +kernel
theorem xe_7_17 (a0 : Option MV) (x : Int) (st : List MV) (μ : MM) (G : MG) : ev 7 17 [a0, some (vI x)] st μ G = ev 7 18 [a0, some (vI x)] (vI x :: st) μ G := ev_stp pg_7_17 rfl
theorem pg_7_18 : mm_prog 7 18 = some (0, .iaload, 19, []) := by decide +kernel
theorem xe_7_18 (a0 a1 : Option MV) (x y : Int) (st : List MV) (μ : MM) (G : MG) : ev 7 18 [a0, a1] (vI x :: vR y :: st) μ G = if gk G y = 100 ∧ 0 ≤ x ∧ x < gl G y then ev 7 19 [a0, a1] (vI (μ y x) :: st) μ G else none := ev_if pg_7_18 rfl
theorem pg_7_19 : mm_prog 7 19 = some (0, .goto 4, 22, []) := by decide +kernel
theorem xe_7_19 (a0 a1 : Option MV) (st : List MV) (μ : MM) (G : MG) : ev 7 19 [a0, a1] st μ G = ev 7 23 [a0, a1] st μ G := ev_stp pg_7_19 rfl
theorem pg_7_22 : mm_prog 7 22 = some (0, .iconst 0, 23, []) := by decide +kernel
theorem xe_7_22 (a0 a1 : Option MV) (st : List MV) (μ : MM) (G : MG) : ev 7 22 [a0, a1] st μ G = ev 7 23 [a0, a1] (vI (0) :: st) μ G := ev_stp pg_7_22 rfl
theorem pg_7_23 : mm_prog 7 23 = some (2, .ireturn, 24, [0]) := by decide +kernel
theorem xe_7_23 (a0 a1 : Option MV) (x : Int) (μ : MM) (G : MG) : ev 7 23 [a0, a1] [vI x] μ G = some (some (vI x), μ, G) := ev_ret pg_7_23 rfl
-- X1_make
theorem pg_8_0 : mm_prog 8 0 = some (0, .aload_n 0, 1, []) := by decide +kernel
theorem xe_8_0 (a1 a2 a3 a4 : Option MV) (x : Int) (st : List MV) (μ : MM) (G : MG) : ev 8 0 [some (vR x), a1, a2, a3, a4] st μ G = ev 8 1 [some (vR x), a1, a2, a3, a4] (vR x :: st) μ G := ev_stp pg_8_0 rfl
theorem pg_8_1 : mm_prog 8 1 = some (0, .getfield 9, 4, [1, 0, 2]) := by decide +kernel
theorem xe_8_1 (a0 a1 a2 a3 a4 : Option MV) (x : Int) (st : List MV) (μ : MM) (G : MG) : ev 8 1 [a0, a1, a2, a3, a4] (vR x :: st) μ G = if gk G x = 1 then ev 8 4 [a0, a1, a2, a3, a4] (vR (μ x 0) :: st) μ G else none := ev_if pg_8_1 rfl
theorem pg_8_4 : mm_prog 8 4 = some (0, .iconst 0, 5, []) := by decide +kernel
theorem xe_8_4 (a0 a1 a2 a3 a4 : Option MV) (st : List MV) (μ : MM) (G : MG) : ev 8 4 [a0, a1, a2, a3, a4] st μ G = ev 8 5 [a0, a1, a2, a3, a4] (vI (0) :: st) μ G := ev_stp pg_8_4 rfl
theorem pg_8_5 : mm_prog 8 5 = some (1, .invokestatic 15, 8, [0, 263, 2, 0]) := by decide +kernel
theorem xe_8_5 (a0 a1 a2 a3 a4 : Option MV) (x0 x1 : Int) (μ : MM) (G : MG) : ev 8 5 [a0, a1, a2, a3, a4] (vI x1 :: vR x0 :: []) μ G = (ev 263 0 [some (vR x0), some (vI x1), none, none] [] μ G).bind (fun q => ev 8 8 [a0, a1, a2, a3, a4] (q.1.toList ++ []) q.2.1 q.2.2) := ev_calS (as := [vR x0, vI x1]) (r := []) mx_263 pg_8_5 rfl rfl (Nat.le_of_ble_eq_true rfl) (Nat.le_of_ble_eq_true rfl)
theorem pg_8_8 : mm_prog 8 8 = some (0, .aload_n 0, 9, []) := by decide +kernel
theorem xe_8_8 (a1 a2 a3 a4 : Option MV) (x : Int) (st : List MV) (μ : MM) (G : MG) : ev 8 8 [some (vR x), a1, a2, a3, a4] st μ G = ev 8 9 [some (vR x), a1, a2, a3, a4] (vR x :: st) μ G := ev_stp pg_8_8 rfl
theorem pg_8_9 : mm_prog 8 9 = some (0, .iconst 1, 10, []) := by decide +kernel
theorem xe_8_9 (a0 a1 a2 a3 a4 : Option MV) (st : List MV) (μ : MM) (G : MG) : ev 8 9 [a0, a1, a2, a3, a4] st μ G = ev 8 10 [a0, a1, a2, a3, a4] (vI (1) :: st) μ G := ev_stp pg_8_9 rfl
theorem pg_8_10 : mm_prog 8 10 = some (0, .putfield 21, 13, [1, 1, 1]) := by decide +kernel
theorem xe_8_10 (a0 a1 a2 a3 a4 : Option MV) (x y : Int) (st : List MV) (μ : MM) (G : MG) : ev 8 10 [a0, a1, a2, a3, a4] (vI x :: vR y :: st) μ G = if gk G y = 1 ∧ (x = 0 ∨ x = 1) then ev 8 13 [a0, a1, a2, a3, a4] st (mset μ y 1 x) G else none := ev_put1 pg_8_10
theorem pg_8_13 : mm_prog 8 13 = some (0, .iconst 0, 14, []) := by decide +kernel
theorem xe_8_13 (a0 a1 a2 a3 a4 : Option MV) (st : List MV) (μ : MM) (G : MG) : ev 8 13 [a0, a1, a2, a3, a4] st μ G = ev 8 14 [a0, a1, a2, a3, a4] (vI (0) :: st) μ G := ev_stp pg_8_13 rfl
theorem pg_8_14 : mm_prog 8 14 = some (0, .istore_n 3, 15, []) := by decide +kernel
theorem xe_8_14 (a0 a1 a2 a3 a4 : Option MV) (x : Int) (st : List MV) (μ : MM) (G : MG) (h : mm_nL a2 = true) : ev 8 14 [a0, a1, a2, a3, a4] (vI x :: st) μ G = ev 8 15 [a0, a1, a2, some (vI x), a4] st μ G := ev_st pg_8_14 rfl (mm_nl_of h) (Nat.le_of_ble_eq_true rfl)
theorem pg_8_15 : mm_prog 8 15 = some (0, .iload_n 3, 16, []) := by decide +kernel
theorem xe_8_15 (a0 a1 a2 a4 : Option MV) (x : Int) (st : List MV) (μ : MM) (G : MG) : ev 8 15 [a0, a1, a2, some (vI x), a4] st μ G = ev 8 16 [a0, a1, a2, some (vI x), a4] (vI x :: st) μ G := ev_stp pg_8_15 rfl
theorem pg_8_16 : mm_prog 8 16 = some (0, .bipush 8, 18, []) := by decide +kernel
theorem xe_8_16 (a0 a1 a2 a3 a4 : Option MV) (st : List MV) (μ : MM) (G : MG) : ev 8 16 [a0, a1, a2, a3, a4] st μ G = ev 8 18 [a0, a1, a2, a3, a4] (vI (8) :: st) μ G := ev_stp pg_8_16 rfl
theorem pg_8_18 : mm_prog 8 18 = some (0, .if_icmp .ge 19, 21, []) := by decide +kernel
theorem xe_8_18 (a0 a1 a2 a3 a4 : Option MV) (x y : Int) (st : List MV) (μ : MM) (G : MG) : ev 8 18 [a0, a1, a2, a3, a4] (vI y :: vI x :: st) μ G = if y ≤ x then ev 8 37 [a0, a1, a2, a3, a4] st μ G else ev 8 21 [a0, a1, a2, a3, a4] st μ G := ev_br (mm_cnd_ge x y) pg_8_18 rfl
theorem pg_8_21 : mm_prog 8 21 = some (0, .aload_n 0, 22, []) := by decide +kernel
theorem xe_8_21 (a1 a2 a3 a4 : Option MV) (x : Int) (st : List MV) (μ : MM) (G : MG) : ev 8 21 [some (vR x), a1, a2, a3, a4] st μ G = ev 8 22 [some (vR x), a1, a2, a3, a4] (vR x :: st) μ G := ev_stp pg_8_21 rfl
theorem pg_8_22 : mm_prog 8 22 = some (0, .getfield 9, 25, [1, 0, 2]) := by decide +kernel
theorem xe_8_22 (a0 a1 a2 a3 a4 : Option MV) (x : Int) (st : List MV) (μ : MM) (G : MG) : ev 8 22 [a0, a1, a2, a3, a4] (vR x :: st) μ G = if gk G x = 1 then ev 8 25 [a0, a1, a2, a3, a4] (vR (μ x 0) :: st) μ G else none := ev_if pg_8_22 rfl
theorem pg_8_25 : mm_prog 8 25 = some (0, .iload_n 3, 26, []) := by decide +kernel
theorem xe_8_25 (a0 a1 a2 a4 : Option MV) (x : Int) (st : List MV) (μ : MM) (G : MG) : ev 8 25 [a0, a1, a2, some (vI x), a4] st μ G = ev 8 26 [a0, a1, a2, some (vI x), a4] (vI x :: st) μ G := ev_stp pg_8_25 rfl
theorem pg_8_26 : mm_prog 8 26 = some (0, .iload_n 3, 27, []) := by decide +kernel
theorem xe_8_26 (a0 a1 a2 a4 : Option MV) (x : Int) (st : List MV) (μ : MM) (G : MG) : ev 8 26 [a0, a1, a2, some (vI x), a4] st μ G = ev 8 27 [a0, a1, a2, some (vI x), a4] (vI x :: st) μ G := ev_stp pg_8_26 rfl
theorem pg_8_27 : mm_prog 8 27 = some (1, .invokestatic 25, 30, [0, 147, 1, 0]) := by decide +kernel
theorem xe_8_27 (a0 a1 a2 a3 a4 : Option MV) (x0 r0 r1 : Int) (μ : MM) (G : MG) : ev 8 27 [a0, a1, a2, a3, a4] (vI x0 :: [vI r0, vR r1]) μ G = (ev 147 0 [some (vI x0)] [] μ G).bind (fun q => ev 8 30 [a0, a1, a2, a3, a4] (q.1.toList ++ [vI r0, vR r1]) q.2.1 q.2.2) := ev_calS (as := [vI x0]) (r := [vI r0, vR r1]) mx_147 pg_8_27 rfl rfl (Nat.le_of_ble_eq_true rfl) (Nat.le_of_ble_eq_true rfl)
theorem pg_8_30 : mm_prog 8 30 = some (0, .iastore, 31, []) := by decide +kernel
theorem xe_8_30 (a0 a1 a2 a3 a4 : Option MV) (x y z : Int) (st : List MV) (μ : MM) (G : MG) : ev 8 30 [a0, a1, a2, a3, a4] (vI x :: vI y :: vR z :: st) μ G = if gk G z = 100 ∧ 0 ≤ y ∧ y < gl G z ∧ 10 ≤ z then ev 8 31 [a0, a1, a2, a3, a4] st (mset μ z y x) G else none := ev_if pg_8_30 rfl
theorem pg_8_31 : mm_prog 8 31 = some (0, .iinc 3 1, 34, []) := by decide +kernel
theorem xe_8_31 (a0 a1 a2 a4 : Option MV) (x : Int) (st : List MV) (μ : MM) (G : MG) (h : mm_nL a2 = true) : ev 8 31 [a0, a1, a2, some (vI x), a4] st μ G = ev 8 34 [a0, a1, a2, some (vI (w32 (x + (1)))), a4] st μ G := ev_st pg_8_31 rfl (mm_nl_of h) (Nat.le_of_ble_eq_true rfl)
theorem pg_8_34 : mm_prog 8 34 = some (0, .goto (-19), 37, []) := by decide +kernel
theorem xe_8_34 (a0 a1 a2 a3 a4 : Option MV) (st : List MV) (μ : MM) (G : MG) : ev 8 34 [a0, a1, a2, a3, a4] st μ G = ev 8 15 [a0, a1, a2, a3, a4] st μ G := ev_stp pg_8_34 rfl
theorem pg_8_37 : mm_prog 8 37 = some (0, .aload_n 0, 38, []) := by decide +kernel
theorem xe_8_37 (a1 a2 a3 a4 : Option MV) (x : Int) (st : List MV) (μ : MM) (G : MG) : ev 8 37 [some (vR x), a1, a2, a3, a4] st μ G = ev 8 38 [some (vR x), a1, a2, a3, a4] (vR x :: st) μ G := ev_stp pg_8_37 rfl
theorem pg_8_38 : mm_prog 8 38 = some (0, .getfield 9, 41, [1, 0, 2]) := by decide +kernel
theorem xe_8_38 (a0 a1 a2 a3 a4 : Option MV) (x : Int) (st : List MV) (μ : MM) (G : MG) : ev 8 38 [a0, a1, a2, a3, a4] (vR x :: st) μ G = if gk G x = 1 then ev 8 41 [a0, a1, a2, a3, a4] (vR (μ x 0) :: st) μ G else none := ev_if pg_8_38 rfl
theorem pg_8_41 : mm_prog 8 41 = some (0, .bipush 8, 43, []) := by decide +kernel
theorem xe_8_41 (a0 a1 a2 a3 a4 : Option MV) (st : List MV) (μ : MM) (G : MG) : ev 8 41 [a0, a1, a2, a3, a4] st μ G = ev 8 43 [a0, a1, a2, a3, a4] (vI (8) :: st) μ G := ev_stp pg_8_41 rfl
theorem pg_8_43 : mm_prog 8 43 = some (0, .aload_n 1, 44, []) := by decide +kernel
theorem xe_8_43 (a0 a2 a3 a4 : Option MV) (x : Int) (st : List MV) (μ : MM) (G : MG) : ev 8 43 [a0, some (vR x), a2, a3, a4] st μ G = ev 8 44 [a0, some (vR x), a2, a3, a4] (vR x :: st) μ G := ev_stp pg_8_43 rfl
theorem pg_8_44 : mm_prog 8 44 = some (0, .getfield 29, 47, [6, 0, 2]) := by decide +kernel
theorem xe_8_44 (a0 a1 a2 a3 a4 : Option MV) (x : Int) (st : List MV) (μ : MM) (G : MG) : ev 8 44 [a0, a1, a2, a3, a4] (vR x :: st) μ G = if gk G x = 6 then ev 8 47 [a0, a1, a2, a3, a4] (vR (μ x 0) :: st) μ G else none := ev_if pg_8_44 rfl
theorem pg_8_47 : mm_prog 8 47 = some (0, .bipush 8, 49, []) := by decide +kernel
theorem xe_8_47 (a0 a1 a2 a3 a4 : Option MV) (st : List MV) (μ : MM) (G : MG) : ev 8 47 [a0, a1, a2, a3, a4] st μ G = ev 8 49 [a0, a1, a2, a3, a4] (vI (8) :: st) μ G := ev_stp pg_8_47 rfl
theorem pg_8_49 : mm_prog 8 49 = some (1, .invokevirtual 35, 52, [1, 3, 1, 0]) := by decide +kernel
theorem xe_8_49 (a0 a1 a2 a3 a4 : Option MV) (x0 z r0 r1 : Int) (μ : MM) (G : MG) : ev 8 49 [a0, a1, a2, a3, a4] (vI x0 :: vR z :: [vI r0, vR r1]) μ G = if gk G z = 0 ∧ 0 < z then (ev 3 0 [some (vR z), some (vI x0)] [] μ G).bind (fun q => ev 8 52 [a0, a1, a2, a3, a4] (q.1.toList ++ [vI r0, vR r1]) q.2.1 q.2.2) else none := ev_calV (as := [vR z, vI x0]) (r := [vI r0, vR r1]) mx_3 pg_8_49 rfl rfl (Nat.le_of_ble_eq_true rfl) (Nat.le_of_ble_eq_true rfl)
theorem pg_8_52 : mm_prog 8 52 = some (0, .iastore, 53, []) := by decide +kernel
theorem xe_8_52 (a0 a1 a2 a3 a4 : Option MV) (x y z : Int) (st : List MV) (μ : MM) (G : MG) : ev 8 52 [a0, a1, a2, a3, a4] (vI x :: vI y :: vR z :: st) μ G = if gk G z = 100 ∧ 0 ≤ y ∧ y < gl G z ∧ 10 ≤ z then ev 8 53 [a0, a1, a2, a3, a4] st (mset μ z y x) G else none := ev_if pg_8_52 rfl
theorem pg_8_53 : mm_prog 8 53 = some (0, .aload_n 0, 54, []) := by decide +kernel
theorem xe_8_53 (a1 a2 a3 a4 : Option MV) (x : Int) (st : List MV) (μ : MM) (G : MG) : ev 8 53 [some (vR x), a1, a2, a3, a4] st μ G = ev 8 54 [some (vR x), a1, a2, a3, a4] (vR x :: st) μ G := ev_stp pg_8_53 rfl
theorem pg_8_54 : mm_prog 8 54 = some (0, .getfield 9, 57, [1, 0, 2]) := by decide +kernel
theorem xe_8_54 (a0 a1 a2 a3 a4 : Option MV) (x : Int) (st : List MV) (μ : MM) (G : MG) : ev 8 54 [a0, a1, a2, a3, a4] (vR x :: st) μ G = if gk G x = 1 then ev 8 57 [a0, a1, a2, a3, a4] (vR (μ x 0) :: st) μ G else none := ev_if pg_8_54 rfl
theorem pg_8_57 : mm_prog 8 57 = some (0, .bipush 9, 59, []) := by decide +kernel
theorem xe_8_57 (a0 a1 a2 a3 a4 : Option MV) (st : List MV) (μ : MM) (G : MG) : ev 8 57 [a0, a1, a2, a3, a4] st μ G = ev 8 59 [a0, a1, a2, a3, a4] (vI (9) :: st) μ G := ev_stp pg_8_57 rfl
theorem pg_8_59 : mm_prog 8 59 = some (0, .aload_n 1, 60, []) := by decide +kernel
theorem xe_8_59 (a0 a2 a3 a4 : Option MV) (x : Int) (st : List MV) (μ : MM) (G : MG) : ev 8 59 [a0, some (vR x), a2, a3, a4] st μ G = ev 8 60 [a0, some (vR x), a2, a3, a4] (vR x :: st) μ G := ev_stp pg_8_59 rfl
theorem pg_8_60 : mm_prog 8 60 = some (0, .getfield 29, 63, [6, 0, 2]) := by decide +kernel
theorem xe_8_60 (a0 a1 a2 a3 a4 : Option MV) (x : Int) (st : List MV) (μ : MM) (G : MG) : ev 8 60 [a0, a1, a2, a3, a4] (vR x :: st) μ G = if gk G x = 6 then ev 8 63 [a0, a1, a2, a3, a4] (vR (μ x 0) :: st) μ G else none := ev_if pg_8_60 rfl
theorem pg_8_63 : mm_prog 8 63 = some (0, .bipush 9, 65, []) := by decide +kernel
theorem xe_8_63 (a0 a1 a2 a3 a4 : Option MV) (st : List MV) (μ : MM) (G : MG) : ev 8 63 [a0, a1, a2, a3, a4] st μ G = ev 8 65 [a0, a1, a2, a3, a4] (vI (9) :: st) μ G := ev_stp pg_8_63 rfl
theorem pg_8_65 : mm_prog 8 65 = some (1, .invokevirtual 35, 68, [1, 3, 1, 0]) := by decide +kernel
theorem xe_8_65 (a0 a1 a2 a3 a4 : Option MV) (x0 z r0 r1 : Int) (μ : MM) (G : MG) : ev 8 65 [a0, a1, a2, a3, a4] (vI x0 :: vR z :: [vI r0, vR r1]) μ G = if gk G z = 0 ∧ 0 < z then (ev 3 0 [some (vR z), some (vI x0)] [] μ G).bind (fun q => ev 8 68 [a0, a1, a2, a3, a4] (q.1.toList ++ [vI r0, vR r1]) q.2.1 q.2.2) else none := ev_calV (as := [vR z, vI x0]) (r := [vI r0, vR r1]) mx_3 pg_8_65 rfl rfl (Nat.le_of_ble_eq_true rfl) (Nat.le_of_ble_eq_true rfl)
theorem pg_8_68 : mm_prog 8 68 = some (0, .iastore, 69, []) := by decide +kernel
theorem xe_8_68 (a0 a1 a2 a3 a4 : Option MV) (x y z : Int) (st : List MV) (μ : MM) (G : MG) : ev 8 68 [a0, a1, a2, a3, a4] (vI x :: vI y :: vR z :: st) μ G = if gk G z = 100 ∧ 0 ≤ y ∧ y < gl G z ∧ 10 ≤ z then ev 8 69 [a0, a1, a2, a3, a4] st (mset μ z y x) G else none := ev_if pg_8_68 rfl
theorem pg_8_69 : mm_prog 8 69 = some (0, .aload_n 0, 70, []) := by decide +kernel
theorem xe_8_69 (a1 a2 a3 a4 : Option MV) (x : Int) (st : List MV) (μ : MM) (G : MG) : ev 8 69 [some (vR x), a1, a2, a3, a4] st μ G = ev 8 70 [some (vR x), a1, a2, a3, a4] (vR x :: st) μ G := ev_stp pg_8_69 rfl
theorem pg_8_70 : mm_prog 8 70 = some (0, .getfield 9, 73, [1, 0, 2]) := by decide +kernel
theorem xe_8_70 (a0 a1 a2 a3 a4 : Option MV) (x : Int) (st : List MV) (μ : MM) (G : MG) : ev 8 70 [a0, a1, a2, a3, a4] (vR x :: st) μ G = if gk G x = 1 then ev 8 73 [a0, a1, a2, a3, a4] (vR (μ x 0) :: st) μ G else none := ev_if pg_8_70 rfl
theorem pg_8_73 : mm_prog 8 73 = some (0, .bipush 18, 75, []) := by decide +kernel
theorem xe_8_73 (a0 a1 a2 a3 a4 : Option MV) (st : List MV) (μ : MM) (G : MG) : ev 8 73 [a0, a1, a2, a3, a4] st μ G = ev 8 75 [a0, a1, a2, a3, a4] (vI (18) :: st) μ G := ev_stp pg_8_73 rfl
theorem pg_8_75 : mm_prog 8 75 = some (0, .iconst 1, 76, []) := by decide +kernel
theorem xe_8_75 (a0 a1 a2 a3 a4 : Option MV) (st : List MV) (μ : MM) (G : MG) : ev 8 75 [a0, a1, a2, a3, a4] st μ G = ev 8 76 [a0, a1, a2, a3, a4] (vI (1) :: st) μ G := ev_stp pg_8_75 rfl
theorem pg_8_76 : mm_prog 8 76 = some (0, .iastore, 77, []) := by decide +kernel
theorem xe_8_76 (a0 a1 a2 a3 a4 : Option MV) (x y z : Int) (st : List MV) (μ : MM) (G : MG) : ev 8 76 [a0, a1, a2, a3, a4] (vI x :: vI y :: vR z :: st) μ G = if gk G z = 100 ∧ 0 ≤ y ∧ y < gl G z ∧ 10 ≤ z then ev 8 77 [a0, a1, a2, a3, a4] st (mset μ z y x) G else none := ev_if pg_8_76 rfl
theorem pg_8_77 : mm_prog 8 77 = some (0, .aload_n 0, 78, []) := by decide +kernel
theorem xe_8_77 (a1 a2 a3 a4 : Option MV) (x : Int) (st : List MV) (μ : MM) (G : MG) : ev 8 77 [some (vR x), a1, a2, a3, a4] st μ G = ev 8 78 [some (vR x), a1, a2, a3, a4] (vR x :: st) μ G := ev_stp pg_8_77 rfl
theorem pg_8_78 : mm_prog 8 78 = some (0, .getfield 9, 81, [1, 0, 2]) := by decide +kernel
theorem xe_8_78 (a0 a1 a2 a3 a4 : Option MV) (x : Int) (st : List MV) (μ : MM) (G : MG) : ev 8 78 [a0, a1, a2, a3, a4] (vR x :: st) μ G = if gk G x = 1 then ev 8 81 [a0, a1, a2, a3, a4] (vR (μ x 0) :: st) μ G else none := ev_if pg_8_78 rfl
theorem pg_8_81 : mm_prog 8 81 = some (0, .bipush 21, 83, []) := by decide +kernel
theorem xe_8_81 (a0 a1 a2 a3 a4 : Option MV) (st : List MV) (μ : MM) (G : MG) : ev 8 81 [a0, a1, a2, a3, a4] st μ G = ev 8 83 [a0, a1, a2, a3, a4] (vI (21) :: st) μ G := ev_stp pg_8_81 rfl
theorem pg_8_83 : mm_prog 8 83 = some (0, .aload_n 1, 84, []) := by decide +kernel
theorem xe_8_83 (a0 a2 a3 a4 : Option MV) (x : Int) (st : List MV) (μ : MM) (G : MG) : ev 8 83 [a0, some (vR x), a2, a3, a4] st μ G = ev 8 84 [a0, some (vR x), a2, a3, a4] (vR x :: st) μ G := ev_stp pg_8_83 rfl
theorem pg_8_84 : mm_prog 8 84 = some (0, .getfield 29, 87, [6, 0, 2]) := by decide +kernel
theorem xe_8_84 (a0 a1 a2 a3 a4 : Option MV) (x : Int) (st : List MV) (μ : MM) (G : MG) : ev 8 84 [a0, a1, a2, a3, a4] (vR x :: st) μ G = if gk G x = 6 then ev 8 87 [a0, a1, a2, a3, a4] (vR (μ x 0) :: st) μ G else none := ev_if pg_8_84 rfl
theorem pg_8_87 : mm_prog 8 87 = some (0, .bipush 21, 89, []) := by decide +kernel
theorem xe_8_87 (a0 a1 a2 a3 a4 : Option MV) (st : List MV) (μ : MM) (G : MG) : ev 8 87 [a0, a1, a2, a3, a4] st μ G = ev 8 89 [a0, a1, a2, a3, a4] (vI (21) :: st) μ G := ev_stp pg_8_87 rfl
theorem pg_8_89 : mm_prog 8 89 = some (1, .invokevirtual 35, 92, [1, 3, 1, 0]) := by decide +kernel
theorem xe_8_89 (a0 a1 a2 a3 a4 : Option MV) (x0 z r0 r1 : Int) (μ : MM) (G : MG) : ev 8 89 [a0, a1, a2, a3, a4] (vI x0 :: vR z :: [vI r0, vR r1]) μ G = if gk G z = 0 ∧ 0 < z then (ev 3 0 [some (vR z), some (vI x0)] [] μ G).bind (fun q => ev 8 92 [a0, a1, a2, a3, a4] (q.1.toList ++ [vI r0, vR r1]) q.2.1 q.2.2) else none := ev_calV (as := [vR z, vI x0]) (r := [vI r0, vR r1]) mx_3 pg_8_89 rfl rfl (Nat.le_of_ble_eq_true rfl) (Nat.le_of_ble_eq_true rfl)
theorem pg_8_92 : mm_prog 8 92 = some (0, .iastore, 93, []) := by decide +kernel
theorem xe_8_92 (a0 a1 a2 a3 a4 : Option MV) (x y z : Int) (st : List MV) (μ : MM) (G : MG) : ev 8 92 [a0, a1, a2, a3, a4] (vI x :: vI y :: vR z :: st) μ G = if gk G z = 100 ∧ 0 ≤ y ∧ y < gl G z ∧ 10 ≤ z then ev 8 93 [a0, a1, a2, a3, a4] st (mset μ z y x) G else none := ev_if pg_8_92 rfl
theorem pg_8_93 : mm_prog 8 93 = some (0, .aload_n 0, 94, []) := by decide +kernel
theorem xe_8_93 (a1 a2 a3 a4 : Option MV) (x : Int) (st : List MV) (μ : MM) (G : MG) : ev 8 93 [some (vR x), a1, a2, a3, a4] st μ G = ev 8 94 [some (vR x), a1, a2, a3, a4] (vR x :: st) μ G := ev_stp pg_8_93 rfl
theorem pg_8_94 : mm_prog 8 94 = some (0, .getfield 9, 97, [1, 0, 2]) := by decide +kernel
theorem xe_8_94 (a0 a1 a2 a3 a4 : Option MV) (x : Int) (st : List MV) (μ : MM) (G : MG) : ev 8 94 [a0, a1, a2, a3, a4] (vR x :: st) μ G = if gk G x = 1 then ev 8 97 [a0, a1, a2, a3, a4] (vR (μ x 0) :: st) μ G else none := ev_if pg_8_94 rfl
theorem pg_8_97 : mm_prog 8 97 = some (0, .bipush 22, 99, []) := by decide +kernel
theorem xe_8_97 (a0 a1 a2 a3 a4 : Option MV) (st : List MV) (μ : MM) (G : MG) : ev 8 97 [a0, a1, a2, a3, a4] st μ G = ev 8 99 [a0, a1, a2, a3, a4] (vI (22) :: st) μ G := ev_stp pg_8_97 rfl
theorem pg_8_99 : mm_prog 8 99 = some (0, .aload_n 1, 100, []) := by decide +kernel
theorem xe_8_99 (a0 a2 a3 a4 : Option MV) (x : Int) (st : List MV) (μ : MM) (G : MG) : ev 8 99 [a0, some (vR x), a2, a3, a4] st μ G = ev 8 100 [a0, some (vR x), a2, a3, a4] (vR x :: st) μ G := ev_stp pg_8_99 rfl
theorem pg_8_100 : mm_prog 8 100 = some (0, .getfield 29, 103, [6, 0, 2]) := by decide +kernel
theorem xe_8_100 (a0 a1 a2 a3 a4 : Option MV) (x : Int) (st : List MV) (μ : MM) (G : MG) : ev 8 100 [a0, a1, a2, a3, a4] (vR x :: st) μ G = if gk G x = 6 then ev 8 103 [a0, a1, a2, a3, a4] (vR (μ x 0) :: st) μ G else none := ev_if pg_8_100 rfl
theorem pg_8_103 : mm_prog 8 103 = some (0, .bipush 22, 105, []) := by decide +kernel
theorem xe_8_103 (a0 a1 a2 a3 a4 : Option MV) (st : List MV) (μ : MM) (G : MG) : ev 8 103 [a0, a1, a2, a3, a4] st μ G = ev 8 105 [a0, a1, a2, a3, a4] (vI (22) :: st) μ G := ev_stp pg_8_103 rfl
theorem pg_8_105 : mm_prog 8 105 = some (1, .invokevirtual 35, 108, [1, 3, 1, 0]) := by decide +kernel
theorem xe_8_105 (a0 a1 a2 a3 a4 : Option MV) (x0 z r0 r1 : Int) (μ : MM) (G : MG) : ev 8 105 [a0, a1, a2, a3, a4] (vI x0 :: vR z :: [vI r0, vR r1]) μ G = if gk G z = 0 ∧ 0 < z then (ev 3 0 [some (vR z), some (vI x0)] [] μ G).bind (fun q => ev 8 108 [a0, a1, a2, a3, a4] (q.1.toList ++ [vI r0, vR r1]) q.2.1 q.2.2) else none := ev_calV (as := [vR z, vI x0]) (r := [vI r0, vR r1]) mx_3 pg_8_105 rfl rfl (Nat.le_of_ble_eq_true rfl) (Nat.le_of_ble_eq_true rfl)
theorem pg_8_108 : mm_prog 8 108 = some (0, .iastore, 109, []) := by decide +kernel
theorem xe_8_108 (a0 a1 a2 a3 a4 : Option MV) (x y z : Int) (st : List MV) (μ : MM) (G : MG) : ev 8 108 [a0, a1, a2, a3, a4] (vI x :: vI y :: vR z :: st) μ G = if gk G z = 100 ∧ 0 ≤ y ∧ y < gl G z ∧ 10 ≤ z then ev 8 109 [a0, a1, a2, a3, a4] st (mset μ z y x) G else none := ev_if pg_8_108 rfl
theorem pg_8_109 : mm_prog 8 109 = some (0, .iconst 0, 110, []) := by decide +kernel
theorem xe_8_109 (a0 a1 a2 a3 a4 : Option MV) (st : List MV) (μ : MM) (G : MG) : ev 8 109 [a0, a1, a2, a3, a4] st μ G = ev 8 110 [a0, a1, a2, a3, a4] (vI (0) :: st) μ G := ev_stp pg_8_109 rfl
theorem pg_8_110 : mm_prog 8 110 = some (0, .istore_n 3, 111, []) := by decide +kernel
theorem xe_8_110 (a0 a1 a2 a3 a4 : Option MV) (x : Int) (st : List MV) (μ : MM) (G : MG) (h : mm_nL a2 = true) : ev 8 110 [a0, a1, a2, a3, a4] (vI x :: st) μ G = ev 8 111 [a0, a1, a2, some (vI x), a4] st μ G := ev_st pg_8_110 rfl (mm_nl_of h) (Nat.le_of_ble_eq_true rfl)
theorem pg_8_111 : mm_prog 8 111 = some (0, .iload_n 3, 112, []) := by decide +kernel
theorem xe_8_111 (a0 a1 a2 a4 : Option MV) (x : Int) (st : List MV) (μ : MM) (G : MG) : ev 8 111 [a0, a1, a2, some (vI x), a4] st μ G = ev 8 112 [a0, a1, a2, some (vI x), a4] (vI x :: st) μ G := ev_stp pg_8_111 rfl
theorem pg_8_112 : mm_prog 8 112 = some (0, .iconst 4, 113, []) := by decide +kernel
theorem xe_8_112 (a0 a1 a2 a3 a4 : Option MV) (st : List MV) (μ : MM) (G : MG) : ev 8 112 [a0, a1, a2, a3, a4] st μ G = ev 8 113 [a0, a1, a2, a3, a4] (vI (4) :: st) μ G := ev_stp pg_8_112 rfl
theorem pg_8_113 : mm_prog 8 113 = some (0, .if_icmp .ge 31, 116, []) := by decide +kernel
theorem xe_8_113 (a0 a1 a2 a3 a4 : Option MV) (x y : Int) (st : List MV) (μ : MM) (G : MG) : ev 8 113 [a0, a1, a2, a3, a4] (vI y :: vI x :: st) μ G = if y ≤ x then ev 8 144 [a0, a1, a2, a3, a4] st μ G else ev 8 116 [a0, a1, a2, a3, a4] st μ G := ev_br (mm_cnd_ge x y) pg_8_113 rfl
theorem pg_8_116 : mm_prog 8 116 = some (0, .aload_n 2, 117, []) := by decide +kernel
theorem xe_8_116 (a0 a1 a3 a4 : Option MV) (x : Int) (st : List MV) (μ : MM) (G : MG) : ev 8 116 [a0, a1, some (vR x), a3, a4] st μ G = ev 8 117 [a0, a1, some (vR x), a3, a4] (vR x :: st) μ G := ev_stp pg_8_116 rfl
theorem pg_8_117 : mm_prog 8 117 = some (0, .iload_n 3, 118, []) := by decide +kernel
theorem xe_8_117 (a0 a1 a2 a4 : Option MV) (x : Int) (st : List MV) (μ : MM) (G : MG) : ev 8 117 [a0, a1, a2, some (vI x), a4] st μ G = ev 8 118 [a0, a1, a2, some (vI x), a4] (vI x :: st) μ G := ev_stp pg_8_117 rfl
theorem pg_8_118 : mm_prog 8 118 = some (1, .invokevirtual 40, 121, [1, 31, 1, 5]) := by decide +kernel
theorem xe_8_118 (a0 a1 a2 a3 a4 : Option MV) (x0 z : Int) (μ : MM) (G : MG) : ev 8 118 [a0, a1, a2, a3, a4] (vI x0 :: vR z :: []) μ G = if gk G z = 5 ∧ 0 < z then (ev 31 0 [some (vR z), some (vI x0)] [] μ G).bind (fun q => ev 8 121 [a0, a1, a2, a3, a4] (q.1.toList ++ []) q.2.1 q.2.2) else none := ev_calV (as := [vR z, vI x0]) (r := []) mx_31 pg_8_118 rfl rfl (Nat.le_of_ble_eq_true rfl) (Nat.le_of_ble_eq_true rfl)
theorem pg_8_121 : mm_prog 8 121 = some (0, .astore 4, 123, []) := by decide +kernel
theorem xe_8_121 (a0 a1 a2 a3 a4 : Option MV) (x : Int) (st : List MV) (μ : MM) (G : MG) (h : mm_nL a3 = true) : ev 8 121 [a0, a1, a2, a3, a4] (vR x :: st) μ G = ev 8 123 [a0, a1, a2, a3, some (vR x)] st μ G := ev_st pg_8_121 rfl (mm_nl_of h) (Nat.le_of_ble_eq_true rfl)
theorem pg_8_123 : mm_prog 8 123 = some (0, .aload 4, 125, []) := by decide +kernel
theorem xe_8_123 (a0 a1 a2 a3 : Option MV) (x : Int) (st : List MV) (μ : MM) (G : MG) : ev 8 123 [a0, a1, a2, a3, some (vR x)] st μ G = ev 8 125 [a0, a1, a2, a3, some (vR x)] (vR x :: st) μ G := ev_stp pg_8_123 rfl
theorem pg_8_125 : mm_prog 8 125 = some (0, .ifnull 13, 128, []) := by decide +kernel
theorem xe_8_125 (a0 a1 a2 a3 a4 : Option MV) (x : Int) (st : List MV) (μ : MM) (G : MG) : ev 8 125 [a0, a1, a2, a3, a4] (vR x :: st) μ G = if x = 7 then none else if x = 0 then ev 8 138 [a0, a1, a2, a3, a4] st μ G else ev 8 128 [a0, a1, a2, a3, a4] st μ G := ev_nul pg_8_125 rfl
theorem pg_8_128 : mm_prog 8 128 = some (0, .aload_n 0, 129, []) := by decide +kernel
theorem xe_8_128 (a1 a2 a3 a4 : Option MV) (x : Int) (st : List MV) (μ : MM) (G : MG) : ev 8 128 [some (vR x), a1, a2, a3, a4] st μ G = ev 8 129 [some (vR x), a1, a2, a3, a4] (vR x :: st) μ G := ev_stp pg_8_128 rfl
theorem pg_8_129 : mm_prog 8 129 = some (0, .iload_n 3, 130, []) := by decide +kernel
theorem xe_8_129 (a0 a1 a2 a4 : Option MV) (x : Int) (st : List MV) (μ : MM) (G : MG) : ev 8 129 [a0, a1, a2, some (vI x), a4] st μ G = ev 8 130 [a0, a1, a2, some (vI x), a4] (vI x :: st) μ G := ev_stp pg_8_129 rfl
theorem pg_8_130 : mm_prog 8 130 = some (0, .aload 4, 132, []) := by decide +kernel
theorem xe_8_130 (a0 a1 a2 a3 : Option MV) (x : Int) (st : List MV) (μ : MM) (G : MG) : ev 8 130 [a0, a1, a2, a3, some (vR x)] st μ G = ev 8 132 [a0, a1, a2, a3, some (vR x)] (vR x :: st) μ G := ev_stp pg_8_130 rfl
theorem pg_8_132 : mm_prog 8 132 = some (0, .getfield 45, 135, [4, 0, 2]) := by decide +kernel
theorem xe_8_132 (a0 a1 a2 a3 a4 : Option MV) (x : Int) (st : List MV) (μ : MM) (G : MG) : ev 8 132 [a0, a1, a2, a3, a4] (vR x :: st) μ G = if gk G x = 4 then ev 8 135 [a0, a1, a2, a3, a4] (vR (μ x 0) :: st) μ G else none := ev_if pg_8_132 rfl
theorem pg_8_135 : mm_prog 8 135 = some (1, .invokevirtual 51, 138, [1, 10, 2, 1]) := by decide +kernel
theorem xe_8_135 (a0 a1 a2 a3 a4 : Option MV) (x0 x1 z : Int) (μ : MM) (G : MG) : ev 8 135 [a0, a1, a2, a3, a4] (vR x1 :: vI x0 :: vR z :: []) μ G = if gk G z = 1 ∧ 0 < z then (ev 10 0 [some (vR z), some (vI x0), some (vR x1), none] [] μ G).bind (fun q => ev 8 138 [a0, a1, a2, a3, a4] (q.1.toList ++ []) q.2.1 q.2.2) else none := ev_calV (as := [vR z, vI x0, vR x1]) (r := []) mx_10 pg_8_135 rfl rfl (Nat.le_of_ble_eq_true rfl) (Nat.le_of_ble_eq_true rfl)
theorem pg_8_138 : mm_prog 8 138 = some (0, .iinc 3 1, 141, []) := by decide +kernel
theorem xe_8_138 (a0 a1 a2 a4 : Option MV) (x : Int) (st : List MV) (μ : MM) (G : MG) (h : mm_nL a2 = true) : ev 8 138 [a0, a1, a2, some (vI x), a4] st μ G = ev 8 141 [a0, a1, a2, some (vI (w32 (x + (1)))), a4] st μ G := ev_st pg_8_138 rfl (mm_nl_of h) (Nat.le_of_ble_eq_true rfl)
theorem pg_8_141 : mm_prog 8 141 = some (0, .goto (-30), 144, []) := by decide +kernel
theorem xe_8_141 (a0 a1 a2 a3 a4 : Option MV) (st : List MV) (μ : MM) (G : MG) : ev 8 141 [a0, a1, a2, a3, a4] st μ G = ev 8 111 [a0, a1, a2, a3, a4] st μ G := ev_stp pg_8_141 rfl
theorem pg_8_144 : mm_prog 8 144 = some (0, .aload_n 0, 145, []) := by decide +kernel
theorem xe_8_144 (a1 a2 a3 a4 : Option MV) (x : Int) (st : List MV) (μ : MM) (G : MG) : ev 8 144 [some (vR x), a1, a2, a3, a4] st μ G = ev 8 145 [some (vR x), a1, a2, a3, a4] (vR x :: st) μ G := ev_stp pg_8_144 rfl
theorem pg_8_145 : mm_prog 8 145 = some (0, .aload_n 2, 146, []) := by decide +kernel
theorem xe_8_145 (a0 a1 a3 a4 : Option MV) (x : Int) (st : List MV) (μ : MM) (G : MG) : ev 8 145 [a0, a1, some (vR x), a3, a4] st μ G = ev 8 146 [a0, a1, some (vR x), a3, a4] (vR x :: st) μ G := ev_stp pg_8_145 rfl
theorem pg_8_146 : mm_prog 8 146 = some (0, .getfield 55, 149, [5, 4, 0]) := by decide +kernel
theorem xe_8_146 (a0 a1 a2 a3 a4 : Option MV) (x : Int) (st : List MV) (μ : MM) (G : MG) : ev 8 146 [a0, a1, a2, a3, a4] (vR x :: st) μ G = if gk G x = 5 then ev 8 149 [a0, a1, a2, a3, a4] (vI (μ x 4) :: st) μ G else none := ev_if pg_8_146 rfl
theorem pg_8_149 : mm_prog 8 149 = some (0, .aload_n 1, 150, []) := by decide +kernel
theorem xe_8_149 (a0 a2 a3 a4 : Option MV) (x : Int) (st : List MV) (μ : MM) (G : MG) : ev 8 149 [a0, some (vR x), a2, a3, a4] st μ G = ev 8 150 [a0, some (vR x), a2, a3, a4] (vR x :: st) μ G := ev_stp pg_8_149 rfl
theorem pg_8_150 : mm_prog 8 150 = some (1, .invokevirtual 59, 153, [1, 11, 2, 1]) := by decide +kernel
theorem xe_8_150 (a0 a1 a2 a3 a4 : Option MV) (x0 x1 z : Int) (μ : MM) (G : MG) : ev 8 150 [a0, a1, a2, a3, a4] (vR x1 :: vI x0 :: vR z :: []) μ G = if gk G z = 1 ∧ 0 < z then (ev 11 0 [some (vR z), some (vI x0), some (vR x1), none] [] μ G).bind (fun q => ev 8 153 [a0, a1, a2, a3, a4] (q.1.toList ++ []) q.2.1 q.2.2) else none := ev_calV (as := [vR z, vI x0, vR x1]) (r := []) mx_11 pg_8_150 rfl rfl (Nat.le_of_ble_eq_true rfl) (Nat.le_of_ble_eq_true rfl)
theorem pg_8_153 : mm_prog 8 153 = some (0, .aload_n 0, 154, []) := by decide +kernel
theorem xe_8_153 (a1 a2 a3 a4 : Option MV) (x : Int) (st : List MV) (μ : MM) (G : MG) : ev 8 153 [some (vR x), a1, a2, a3, a4] st μ G = ev 8 154 [some (vR x), a1, a2, a3, a4] (vR x :: st) μ G := ev_stp pg_8_153 rfl
theorem pg_8_154 : mm_prog 8 154 = some (0, .aload_n 2, 155, []) := by decide +kernel
theorem xe_8_154 (a0 a1 a3 a4 : Option MV) (x : Int) (st : List MV) (μ : MM) (G : MG) : ev 8 154 [a0, a1, some (vR x), a3, a4] st μ G = ev 8 155 [a0, a1, some (vR x), a3, a4] (vR x :: st) μ G := ev_stp pg_8_154 rfl
theorem pg_8_155 : mm_prog 8 155 = some (0, .getfield 55, 158, [5, 4, 0]) := by decide +kernel
theorem xe_8_155 (a0 a1 a2 a3 a4 : Option MV) (x : Int) (st : List MV) (μ : MM) (G : MG) : ev 8 155 [a0, a1, a2, a3, a4] (vR x :: st) μ G = if gk G x = 5 then ev 8 158 [a0, a1, a2, a3, a4] (vI (μ x 4) :: st) μ G else none := ev_if pg_8_155 rfl
theorem pg_8_158 : mm_prog 8 158 = some (0, .iconst 1, 159, []) := by decide +kernel
theorem xe_8_158 (a0 a1 a2 a3 a4 : Option MV) (st : List MV) (μ : MM) (G : MG) : ev 8 158 [a0, a1, a2, a3, a4] st μ G = ev 8 159 [a0, a1, a2, a3, a4] (vI (1) :: st) μ G := ev_stp pg_8_158 rfl
theorem pg_8_159 : mm_prog 8 159 = some (0, .iadd, 160, []) := by decide +kernel
theorem xe_8_159 (a0 a1 a2 a3 a4 : Option MV) (x y : Int) (st : List MV) (μ : MM) (G : MG) : ev 8 159 [a0, a1, a2, a3, a4] (vI y :: vI x :: st) μ G = ev 8 160 [a0, a1, a2, a3, a4] (vI (w32 (x + y)) :: st) μ G := ev_stp pg_8_159 rfl
theorem pg_8_160 : mm_prog 8 160 = some (0, .aload_n 1, 161, []) := by decide +kernel
theorem xe_8_160 (a0 a2 a3 a4 : Option MV) (x : Int) (st : List MV) (μ : MM) (G : MG) : ev 8 160 [a0, some (vR x), a2, a3, a4] st μ G = ev 8 161 [a0, some (vR x), a2, a3, a4] (vR x :: st) μ G := ev_stp pg_8_160 rfl
theorem pg_8_161 : mm_prog 8 161 = some (1, .invokevirtual 63, 164, [1, 12, 2, 1]) := by decide +kernel
theorem xe_8_161 (a0 a1 a2 a3 a4 : Option MV) (x0 x1 z : Int) (μ : MM) (G : MG) : ev 8 161 [a0, a1, a2, a3, a4] (vR x1 :: vI x0 :: vR z :: []) μ G = if gk G z = 1 ∧ 0 < z then (ev 12 0 [some (vR z), some (vI x0), some (vR x1), none] [] μ G).bind (fun q => ev 8 164 [a0, a1, a2, a3, a4] (q.1.toList ++ []) q.2.1 q.2.2) else none := ev_calV (as := [vR z, vI x0, vR x1]) (r := []) mx_12 pg_8_161 rfl rfl (Nat.le_of_ble_eq_true rfl) (Nat.le_of_ble_eq_true rfl)
theorem pg_8_164 : mm_prog 8 164 = some (0, .aload_n 0, 165, []) := by decide +kernel
theorem xe_8_164 (a1 a2 a3 a4 : Option MV) (x : Int) (st : List MV) (μ : MM) (G : MG) : ev 8 164 [some (vR x), a1, a2, a3, a4] st μ G = ev 8 165 [some (vR x), a1, a2, a3, a4] (vR x :: st) μ G := ev_stp pg_8_164 rfl
theorem pg_8_165 : mm_prog 8 165 = some (1, .invokevirtual 66, 168, [1, 13, 0, 1]) := by decide +kernel
theorem xe_8_165 (a0 a1 a2 a3 a4 : Option MV) (z : Int) (μ : MM) (G : MG) : ev 8 165 [a0, a1, a2, a3, a4] (vR z :: []) μ G = if gk G z = 1 ∧ 0 < z then (ev 13 0 [some (vR z), none, none, none, none, none] [] μ G).bind (fun q => ev 8 168 [a0, a1, a2, a3, a4] (q.1.toList ++ []) q.2.1 q.2.2) else none := ev_calV (as := [vR z]) (r := []) mx_13 pg_8_165 rfl rfl (Nat.le_of_ble_eq_true rfl) (Nat.le_of_ble_eq_true rfl)
theorem pg_8_168 : mm_prog 8 168 = some (2, .return_, 169, []) := by decide +kernel
theorem xe_8_168 (a0 a1 a2 a3 a4 : Option MV) (μ : MM) (G : MG) : ev 8 168 [a0, a1, a2, a3, a4] [] μ G = some (none, μ, G) := ev_ret pg_8_168 rfl
-- X1_put
theorem pg_9_0 : mm_prog 9 0 = some (0, .bipush 54, 2, []) := by decide +kernel
theorem xe_9_0 (a0 a1 a2 a3 a4 : Option MV) (st : List MV) (μ : MM) (G : MG) : ev 9 0 [a0, a1, a2, a3, a4] st μ G = ev 9 2 [a0, a1, a2, a3, a4] (vI (54) :: st) μ G := ev_stp pg_9_0 rfl
theorem pg_9_2 : mm_prog 9 2 = some (0, .iload_n 1, 3, []) := by decide +kernel
theorem xe_9_2 (a0 a2 a3 a4 : Option MV) (x : Int) (st : List MV) (μ : MM) (G : MG) : ev 9 2 [a0, some (vI x), a2, a3, a4] st μ G = ev 9 3 [a0, some (vI x), a2, a3, a4] (vI x :: st) μ G := ev_stp pg_9_2 rfl
theorem pg_9_3 : mm_prog 9 3 = some (0, .bipush 18, 5, []) := by decide +kernel
theorem xe_9_3 (a0 a1 a2 a3 a4 : Option MV) (st : List MV) (μ : MM) (G : MG) : ev 9 3 [a0, a1, a2, a3, a4] st μ G = ev 9 5 [a0, a1, a2, a3, a4] (vI (18) :: st) μ G := ev_stp pg_9_3 rfl
theorem pg_9_5 : mm_prog 9 5 = some (0, .imul, 6, []) := by decide +kernel
theorem xe_9_5 (a0 a1 a2 a3 a4 : Option MV) (x y : Int) (st : List MV) (μ : MM) (G : MG) : ev 9 5 [a0, a1, a2, a3, a4] (vI y :: vI x :: st) μ G = ev 9 6 [a0, a1, a2, a3, a4] (vI (w32 (x * y)) :: st) μ G := ev_stp pg_9_5 rfl
theorem pg_9_6 : mm_prog 9 6 = some (0, .iadd, 7, []) := by decide +kernel
theorem xe_9_6 (a0 a1 a2 a3 a4 : Option MV) (x y : Int) (st : List MV) (μ : MM) (G : MG) : ev 9 6 [a0, a1, a2, a3, a4] (vI y :: vI x :: st) μ G = ev 9 7 [a0, a1, a2, a3, a4] (vI (w32 (x + y)) :: st) μ G := ev_stp pg_9_6 rfl
theorem pg_9_7 : mm_prog 9 7 = some (0, .iload_n 2, 8, []) := by decide +kernel
theorem xe_9_7 (a0 a1 a3 a4 : Option MV) (x : Int) (st : List MV) (μ : MM) (G : MG) : ev 9 7 [a0, a1, some (vI x), a3, a4] st μ G = ev 9 8 [a0, a1, some (vI x), a3, a4] (vI x :: st) μ G := ev_stp pg_9_7 rfl
theorem pg_9_8 : mm_prog 9 8 = some (0, .iadd, 9, []) := by decide +kernel
theorem xe_9_8 (a0 a1 a2 a3 a4 : Option MV) (x y : Int) (st : List MV) (μ : MM) (G : MG) : ev 9 8 [a0, a1, a2, a3, a4] (vI y :: vI x :: st) μ G = ev 9 9 [a0, a1, a2, a3, a4] (vI (w32 (x + y)) :: st) μ G := ev_stp pg_9_8 rfl
theorem pg_9_9 : mm_prog 9 9 = some (0, .istore 4, 11, []) := by decide +kernel
theorem xe_9_9 (a0 a1 a2 a3 a4 : Option MV) (x : Int) (st : List MV) (μ : MM) (G : MG) (h : mm_nL a3 = true) : ev 9 9 [a0, a1, a2, a3, a4] (vI x :: st) μ G = ev 9 11 [a0, a1, a2, a3, some (vI x)] st μ G := ev_st pg_9_9 rfl (mm_nl_of h) (Nat.le_of_ble_eq_true rfl)
theorem pg_9_11 : mm_prog 9 11 = some (0, .iload 4, 13, []) := by decide +kernel
theorem xe_9_11 (a0 a1 a2 a3 : Option MV) (x : Int) (st : List MV) (μ : MM) (G : MG) : ev 9 11 [a0, a1, a2, a3, some (vI x)] st μ G = ev 9 13 [a0, a1, a2, a3, some (vI x)] (vI x :: st) μ G := ev_stp pg_9_11 rfl
theorem pg_9_13 : mm_prog 9 13 = some (0, .ifCond .lt 21, 16, []) := by decide +kernel
theorem xe_9_13 (a0 a1 a2 a3 a4 : Option MV) (x : Int) (st : List MV) (μ : MM) (G : MG) : ev 9 13 [a0, a1, a2, a3, a4] (vI x :: st) μ G = if x < 0 then ev 9 34 [a0, a1, a2, a3, a4] st μ G else ev 9 16 [a0, a1, a2, a3, a4] st μ G := ev_br (mm_cnd_lt x 0) pg_9_13 rfl
theorem pg_9_16 : mm_prog 9 16 = some (0, .iload 4, 18, []) := by decide +kernel
theorem xe_9_16 (a0 a1 a2 a3 : Option MV) (x : Int) (st : List MV) (μ : MM) (G : MG) : ev 9 16 [a0, a1, a2, a3, some (vI x)] st μ G = ev 9 18 [a0, a1, a2, a3, some (vI x)] (vI x :: st) μ G := ev_stp pg_9_16 rfl
theorem pg_9_18 : mm_prog 9 18 = some (0, .aload_n 0, 19, []) := by decide +kernel
theorem xe_9_18 (a1 a2 a3 a4 : Option MV) (x : Int) (st : List MV) (μ : MM) (G : MG) : ev 9 18 [some (vR x), a1, a2, a3, a4] st μ G = ev 9 19 [some (vR x), a1, a2, a3, a4] (vR x :: st) μ G := ev_stp pg_9_18 rfl
theorem pg_9_19 : mm_prog 9 19 = some (0, .getfield 9, 22, [1, 0, 2]) := by decide +kernel
theorem xe_9_19 (a0 a1 a2 a3 a4 : Option MV) (x : Int) (st : List MV) (μ : MM) (G : MG) : ev 9 19 [a0, a1, a2, a3, a4] (vR x :: st) μ G = if gk G x = 1 then ev 9 22 [a0, a1, a2, a3, a4] (vR (μ x 0) :: st) μ G else none := ev_if pg_9_19 rfl
theorem pg_9_22 : mm_prog 9 22 = some (0, .arraylength, 23, []) := by decide +kernel
theorem xe_9_22 (a0 a1 a2 a3 a4 : Option MV) (x : Int) (st : List MV) (μ : MM) (G : MG) : ev 9 22 [a0, a1, a2, a3, a4] (vR x :: st) μ G = if 100 ≤ gk G x then ev 9 23 [a0, a1, a2, a3, a4] (vI (gl G x) :: st) μ G else none := ev_if pg_9_22 rfl
theorem pg_9_23 : mm_prog 9 23 = some (0, .if_icmp .ge 11, 26, []) := by decide +kernel
theorem xe_9_23 (a0 a1 a2 a3 a4 : Option MV) (x y : Int) (st : List MV) (μ : MM) (G : MG) : ev 9 23 [a0, a1, a2, a3, a4] (vI y :: vI x :: st) μ G = if y ≤ x then ev 9 34 [a0, a1, a2, a3, a4] st μ G else ev 9 26 [a0, a1, a2, a3, a4] st μ G := ev_br (mm_cnd_ge x y) pg_9_23 rfl
theorem pg_9_26 : mm_prog 9 26 = some (0, .aload_n 0, 27, []) := by decide +kernel
theorem xe_9_26 (a1 a2 a3 a4 : Option MV) (x : Int) (st : List MV) (μ : MM) (G : MG) : ev 9 26 [some (vR x), a1, a2, a3, a4] st μ G = ev 9 27 [some (vR x), a1, a2, a3, a4] (vR x :: st) μ G := ev_stp pg_9_26 rfl
theorem pg_9_27 : mm_prog 9 27 = some (0, .getfield 9, 30, [1, 0, 2]) := by decide +kernel
theorem xe_9_27 (a0 a1 a2 a3 a4 : Option MV) (x : Int) (st : List MV) (μ : MM) (G : MG) : ev 9 27 [a0, a1, a2, a3, a4] (vR x :: st) μ G = if gk G x = 1 then ev 9 30 [a0, a1, a2, a3, a4] (vR (μ x 0) :: st) μ G else none := ev_if pg_9_27 rfl
theorem pg_9_30 : mm_prog 9 30 = some (0, .iload 4, 32, []) := by decide +kernel
theorem xe_9_30 (a0 a1 a2 a3 : Option MV) (x : Int) (st : List MV) (μ : MM) (G : MG) : ev 9 30 [a0, a1, a2, a3, some (vI x)] st μ G = ev 9 32 [a0, a1, a2, a3, some (vI x)] (vI x :: st) μ G := ev_stp pg_9_30 rfl
theorem pg_9_32 : mm_prog 9 32 = some (0, .iload_n 3, 33, []) := by decide +kernel
theorem xe_9_32 (a0 a1 a2 a4 : Option MV) (x : Int) (st : List MV) (μ : MM) (G : MG) : ev 9 32 [a0, a1, a2, some (vI x), a4] st μ G = ev 9 33 [a0, a1, a2, some (vI x), a4] (vI x :: st) μ G := ev_stp pg_9_32 rfl
theorem pg_9_33 : mm_prog 9 33 = some (0, .iastore, 34, []) := by decide +kernel
theorem xe_9_33 (a0 a1 a2 a3 a4 : Option MV) (x y z : Int) (st : List MV) (μ : MM) (G : MG) : ev 9 33 [a0, a1, a2, a3, a4] (vI x :: vI y :: vR z :: st) μ G = if gk G z = 100 ∧ 0 ≤ y ∧ y < gl G z ∧ 10 ≤ z then ev 9 34 [a0, a1, a2, a3, a4] st (mset μ z y x) G else none := ev_if pg_9_33 rfl
theorem pg_9_34 : mm_prog 9 34 = some (2, .return_, 35, []) := by decide +kernel
theorem xe_9_34 (a0 a1 a2 a3 a4 : Option MV) (μ : MM) (G : MG) : ev 9 34 [a0, a1, a2, a3, a4] [] μ G = some (none, μ, G) := ev_ret pg_9_34 rfl
-- X1_putTiming
theorem pg_10_0 : mm_prog 10 0 = some (0, .aload_n 2, 1, []) := by decide +kernel
theorem xe_10_0 (a0 a1 a3 : Option MV) (x : Int) (st : List MV) (μ : MM) (G : MG) : ev 10 0 [a0, a1, some (vR x), a3] st μ G = ev 10 1 [a0, a1, some (vR x), a3] (vR x :: st) μ G := ev_stp pg_10_0 rfl
theorem pg_10_1 : mm_prog 10 1 = some (1, .invokevirtual 69, 4, [1, 69, 0, 7]) := by decide +kernel
theorem xe_10_1 (a0 a1 a2 a3 : Option MV) (z : Int) (μ : MM) (G : MG) : ev 10 1 [a0, a1, a2, a3] (vR z :: []) μ G = if gk G z = 7 ∧ 0 < z then (ev 69 0 [some (vR z)] [] μ G).bind (fun q => ev 10 4 [a0, a1, a2, a3] (q.1.toList ++ []) q.2.1 q.2.2) else none := ev_calV (as := [vR z]) (r := []) mx_69 pg_10_1 rfl rfl (Nat.le_of_ble_eq_true rfl) (Nat.le_of_ble_eq_true rfl)
theorem pg_10_4 : mm_prog 10 4 = some (0, .ifCond .ne 8, 7, []) := by decide +kernel
theorem xe_10_4 (a0 a1 a2 a3 : Option MV) (x : Int) (st : List MV) (μ : MM) (G : MG) : ev 10 4 [a0, a1, a2, a3] (vI x :: st) μ G = if ¬ x = 0 then ev 10 12 [a0, a1, a2, a3] st μ G else ev 10 7 [a0, a1, a2, a3] st μ G := ev_br (mm_cnd_ne x 0) pg_10_4 rfl
theorem pg_10_7 : mm_prog 10 7 = some (0, .aload_n 0, 8, []) := by decide +kernel
theorem xe_10_7 (a1 a2 a3 : Option MV) (x : Int) (st : List MV) (μ : MM) (G : MG) : ev 10 7 [some (vR x), a1, a2, a3] st μ G = ev 10 8 [some (vR x), a1, a2, a3] (vR x :: st) μ G := ev_stp pg_10_7 rfl
theorem pg_10_8 : mm_prog 10 8 = some (0, .iconst 0, 9, []) := by decide +kernel
theorem xe_10_8 (a0 a1 a2 a3 : Option MV) (st : List MV) (μ : MM) (G : MG) : ev 10 8 [a0, a1, a2, a3] st μ G = ev 10 9 [a0, a1, a2, a3] (vI (0) :: st) μ G := ev_stp pg_10_8 rfl
theorem pg_10_9 : mm_prog 10 9 = some (0, .putfield 21, 12, [1, 1, 1]) := by decide +kernel
theorem xe_10_9 (a0 a1 a2 a3 : Option MV) (x y : Int) (st : List MV) (μ : MM) (G : MG) : ev 10 9 [a0, a1, a2, a3] (vI x :: vR y :: st) μ G = if gk G y = 1 ∧ (x = 0 ∨ x = 1) then ev 10 12 [a0, a1, a2, a3] st (mset μ y 1 x) G else none := ev_put1 pg_10_9
theorem pg_10_12 : mm_prog 10 12 = some (0, .iconst 0, 13, []) := by decide +kernel
theorem xe_10_12 (a0 a1 a2 a3 : Option MV) (st : List MV) (μ : MM) (G : MG) : ev 10 12 [a0, a1, a2, a3] st μ G = ev 10 13 [a0, a1, a2, a3] (vI (0) :: st) μ G := ev_stp pg_10_12 rfl
theorem pg_10_13 : mm_prog 10 13 = some (0, .istore_n 3, 14, []) := by decide +kernel
theorem xe_10_13 (a0 a1 a2 a3 : Option MV) (x : Int) (st : List MV) (μ : MM) (G : MG) (h : mm_nL a2 = true) : ev 10 13 [a0, a1, a2, a3] (vI x :: st) μ G = ev 10 14 [a0, a1, a2, some (vI x)] st μ G := ev_st pg_10_13 rfl (mm_nl_of h) (Nat.le_of_ble_eq_true rfl)
theorem pg_10_14 : mm_prog 10 14 = some (0, .iload_n 3, 15, []) := by decide +kernel
theorem xe_10_14 (a0 a1 a2 : Option MV) (x : Int) (st : List MV) (μ : MM) (G : MG) : ev 10 14 [a0, a1, a2, some (vI x)] st μ G = ev 10 15 [a0, a1, a2, some (vI x)] (vI x :: st) μ G := ev_stp pg_10_14 rfl
theorem pg_10_15 : mm_prog 10 15 = some (0, .bipush 18, 17, []) := by decide +kernel
theorem xe_10_15 (a0 a1 a2 a3 : Option MV) (st : List MV) (μ : MM) (G : MG) : ev 10 15 [a0, a1, a2, a3] st μ G = ev 10 17 [a0, a1, a2, a3] (vI (18) :: st) μ G := ev_stp pg_10_15 rfl
theorem pg_10_17 : mm_prog 10 17 = some (0, .if_icmp .ge 20, 20, []) := by decide +kernel
theorem xe_10_17 (a0 a1 a2 a3 : Option MV) (x y : Int) (st : List MV) (μ : MM) (G : MG) : ev 10 17 [a0, a1, a2, a3] (vI y :: vI x :: st) μ G = if y ≤ x then ev 10 37 [a0, a1, a2, a3] st μ G else ev 10 20 [a0, a1, a2, a3] st μ G := ev_br (mm_cnd_ge x y) pg_10_17 rfl
theorem pg_10_20 : mm_prog 10 20 = some (0, .aload_n 0, 21, []) := by decide +kernel
theorem xe_10_20 (a1 a2 a3 : Option MV) (x : Int) (st : List MV) (μ : MM) (G : MG) : ev 10 20 [some (vR x), a1, a2, a3] st μ G = ev 10 21 [some (vR x), a1, a2, a3] (vR x :: st) μ G := ev_stp pg_10_20 rfl
theorem pg_10_21 : mm_prog 10 21 = some (0, .iload_n 1, 22, []) := by decide +kernel
theorem xe_10_21 (a0 a2 a3 : Option MV) (x : Int) (st : List MV) (μ : MM) (G : MG) : ev 10 21 [a0, some (vI x), a2, a3] st μ G = ev 10 22 [a0, some (vI x), a2, a3] (vI x :: st) μ G := ev_stp pg_10_21 rfl
theorem pg_10_22 : mm_prog 10 22 = some (0, .iload_n 3, 23, []) := by decide +kernel
theorem xe_10_22 (a0 a1 a2 : Option MV) (x : Int) (st : List MV) (μ : MM) (G : MG) : ev 10 22 [a0, a1, a2, some (vI x)] st μ G = ev 10 23 [a0, a1, a2, some (vI x)] (vI x :: st) μ G := ev_stp pg_10_22 rfl
theorem pg_10_23 : mm_prog 10 23 = some (0, .aload_n 2, 24, []) := by decide +kernel
theorem xe_10_23 (a0 a1 a3 : Option MV) (x : Int) (st : List MV) (μ : MM) (G : MG) : ev 10 23 [a0, a1, some (vR x), a3] st μ G = ev 10 24 [a0, a1, some (vR x), a3] (vR x :: st) μ G := ev_stp pg_10_23 rfl
theorem pg_10_24 : mm_prog 10 24 = some (0, .iload_n 3, 25, []) := by decide +kernel
theorem xe_10_24 (a0 a1 a2 : Option MV) (x : Int) (st : List MV) (μ : MM) (G : MG) : ev 10 24 [a0, a1, a2, some (vI x)] st μ G = ev 10 25 [a0, a1, a2, some (vI x)] (vI x :: st) μ G := ev_stp pg_10_24 rfl
theorem pg_10_25 : mm_prog 10 25 = some (1, .invokevirtual 75, 28, [1, 61, 1, 7]) := by decide +kernel
theorem xe_10_25 (a0 a1 a2 a3 : Option MV) (x0 z r0 r1 r2 : Int) (μ : MM) (G : MG) : ev 10 25 [a0, a1, a2, a3] (vI x0 :: vR z :: [vI r0, vI r1, vR r2]) μ G = if gk G z = 7 ∧ 0 < z then (ev 61 0 [some (vR z), some (vI x0)] [] μ G).bind (fun q => ev 10 28 [a0, a1, a2, a3] (q.1.toList ++ [vI r0, vI r1, vR r2]) q.2.1 q.2.2) else none := ev_calV (as := [vR z, vI x0]) (r := [vI r0, vI r1, vR r2]) mx_61 pg_10_25 rfl rfl (Nat.le_of_ble_eq_true rfl) (Nat.le_of_ble_eq_true rfl)
theorem pg_10_28 : mm_prog 10 28 = some (1, .invokevirtual 78, 31, [1, 9, 3, 1]) := by decide +kernel
theorem xe_10_28 (a0 a1 a2 a3 : Option MV) (x0 x1 x2 z : Int) (μ : MM) (G : MG) : ev 10 28 [a0, a1, a2, a3] (vI x2 :: vI x1 :: vI x0 :: vR z :: []) μ G = if gk G z = 1 ∧ 0 < z then (ev 9 0 [some (vR z), some (vI x0), some (vI x1), some (vI x2), none] [] μ G).bind (fun q => ev 10 31 [a0, a1, a2, a3] (q.1.toList ++ []) q.2.1 q.2.2) else none := ev_calV (as := [vR z, vI x0, vI x1, vI x2]) (r := []) mx_9 pg_10_28 rfl rfl (Nat.le_of_ble_eq_true rfl) (Nat.le_of_ble_eq_true rfl)
theorem pg_10_31 : mm_prog 10 31 = some (0, .iinc 3 1, 34, []) := by decide +kernel
theorem xe_10_31 (a0 a1 a2 : Option MV) (x : Int) (st : List MV) (μ : MM) (G : MG) (h : mm_nL a2 = true) : ev 10 31 [a0, a1, a2, some (vI x)] st μ G = ev 10 34 [a0, a1, a2, some (vI (w32 (x + (1))))] st μ G := ev_st pg_10_31 rfl (mm_nl_of h) (Nat.le_of_ble_eq_true rfl)
theorem pg_10_34 : mm_prog 10 34 = some (0, .goto (-20), 37, []) := by decide +kernel
theorem xe_10_34 (a0 a1 a2 a3 : Option MV) (st : List MV) (μ : MM) (G : MG) : ev 10 34 [a0, a1, a2, a3] st μ G = ev 10 14 [a0, a1, a2, a3] st μ G := ev_stp pg_10_34 rfl
theorem pg_10_37 : mm_prog 10 37 = some (2, .return_, 38, []) := by decide +kernel
theorem xe_10_37 (a0 a1 a2 a3 : Option MV) (μ : MM) (G : MG) : ev 10 37 [a0, a1, a2, a3] [] μ G = some (none, μ, G) := ev_ret pg_10_37 rfl
-- X1_putName
theorem pg_11_0 : mm_prog 11 0 = some (0, .iload_n 1, 1, []) := by decide +kernel
theorem xe_11_0 (a0 a2 a3 : Option MV) (x : Int) (st : List MV) (μ : MM) (G : MG) : ev 11 0 [a0, some (vI x), a2, a3] st μ G = ev 11 1 [a0, some (vI x), a2, a3] (vI x :: st) μ G := ev_stp pg_11_0 rfl
theorem pg_11_1 : mm_prog 11 1 = some (0, .iconst 4, 2, []) := by decide +kernel
theorem xe_11_1 (a0 a1 a2 a3 : Option MV) (st : List MV) (μ : MM) (G : MG) : ev 11 1 [a0, a1, a2, a3] st μ G = ev 11 2 [a0, a1, a2, a3] (vI (4) :: st) μ G := ev_stp pg_11_1 rfl
theorem pg_11_2 : mm_prog 11 2 = some (0, .if_icmp .ge 10, 5, []) := by decide +kernel
theorem xe_11_2 (a0 a1 a2 a3 : Option MV) (x y : Int) (st : List MV) (μ : MM) (G : MG) : ev 11 2 [a0, a1, a2, a3] (vI y :: vI x :: st) μ G = if y ≤ x then ev 11 12 [a0, a1, a2, a3] st μ G else ev 11 5 [a0, a1, a2, a3] st μ G := ev_br (mm_cnd_ge x y) pg_11_2 rfl
theorem pg_11_5 : mm_prog 11 5 = some (0, .aload_n 2, 6, []) := by decide +kernel
theorem xe_11_5 (a0 a1 a3 : Option MV) (x : Int) (st : List MV) (μ : MM) (G : MG) : ev 11 5 [a0, a1, some (vR x), a3] st μ G = ev 11 6 [a0, a1, some (vR x), a3] (vR x :: st) μ G := ev_stp pg_11_5 rfl
theorem pg_11_6 : mm_prog 11 6 = some (0, .getfield 82, 9, [6, 9, 0]) := by decide +kernel
theorem xe_11_6 (a0 a1 a2 a3 : Option MV) (x : Int) (st : List MV) (μ : MM) (G : MG) : ev 11 6 [a0, a1, a2, a3] (vR x :: st) μ G = if gk G x = 6 then ev 11 9 [a0, a1, a2, a3] (vI (μ x 9) :: st) μ G else none := ev_if pg_11_6 rfl
theorem pg_11_9 : mm_prog 11 9 = some (0, .ifCond .ne 4, 12, []) := by decide +kernel
theorem xe_11_9 (a0 a1 a2 a3 : Option MV) (x : Int) (st : List MV) (μ : MM) (G : MG) : ev 11 9 [a0, a1, a2, a3] (vI x :: st) μ G = if ¬ x = 0 then ev 11 13 [a0, a1, a2, a3] st μ G else ev 11 12 [a0, a1, a2, a3] st μ G := ev_br (mm_cnd_ne x 0) pg_11_9 rfl
theorem pg_11_12 : mm_prog 11 12 = some (2, .return_, 13, []) := by decide +kernel
theorem xe_11_12 (a0 a1 a2 a3 : Option MV) (μ : MM) (G : MG) : ev 11 12 [a0, a1, a2, a3] [] μ G = some (none, μ, G) := ev_ret pg_11_12 rfl
theorem pg_11_13 : mm_prog 11 13 = some (0, .aload_n 0, 14, []) := by decide +kernel
theorem xe_11_13 (a1 a2 a3 : Option MV) (x : Int) (st : List MV) (μ : MM) (G : MG) : ev 11 13 [some (vR x), a1, a2, a3] st μ G = ev 11 14 [some (vR x), a1, a2, a3] (vR x :: st) μ G := ev_stp pg_11_13 rfl
theorem pg_11_14 : mm_prog 11 14 = some (0, .iload_n 1, 15, []) := by decide +kernel
theorem xe_11_14 (a0 a2 a3 : Option MV) (x : Int) (st : List MV) (μ : MM) (G : MG) : ev 11 14 [a0, some (vI x), a2, a3] st μ G = ev 11 15 [a0, some (vI x), a2, a3] (vI x :: st) μ G := ev_stp pg_11_14 rfl
theorem pg_11_15 : mm_prog 11 15 = some (0, .iconst 3, 16, []) := by decide +kernel
theorem xe_11_15 (a0 a1 a2 a3 : Option MV) (st : List MV) (μ : MM) (G : MG) : ev 11 15 [a0, a1, a2, a3] st μ G = ev 11 16 [a0, a1, a2, a3] (vI (3) :: st) μ G := ev_stp pg_11_15 rfl
theorem pg_11_16 : mm_prog 11 16 = some (0, .sipush 252, 19, []) := by decide +kernel
theorem xe_11_16 (a0 a1 a2 a3 : Option MV) (st : List MV) (μ : MM) (G : MG) : ev 11 16 [a0, a1, a2, a3] st μ G = ev 11 19 [a0, a1, a2, a3] (vI (252) :: st) μ G := ev_stp pg_11_16 rfl
theorem pg_11_19 : mm_prog 11 19 = some (1, .invokevirtual 78, 22, [1, 9, 3, 1]) := by decide +kernel
theorem xe_11_19 (a0 a1 a2 a3 : Option MV) (x0 x1 x2 z : Int) (μ : MM) (G : MG) : ev 11 19 [a0, a1, a2, a3] (vI x2 :: vI x1 :: vI x0 :: vR z :: []) μ G = if gk G z = 1 ∧ 0 < z then (ev 9 0 [some (vR z), some (vI x0), some (vI x1), some (vI x2), none] [] μ G).bind (fun q => ev 11 22 [a0, a1, a2, a3] (q.1.toList ++ []) q.2.1 q.2.2) else none := ev_calV (as := [vR z, vI x0, vI x1, vI x2]) (r := []) mx_9 pg_11_19 rfl rfl (Nat.le_of_ble_eq_true rfl) (Nat.le_of_ble_eq_true rfl)
theorem pg_11_22 : mm_prog 11 22 = some (0, .iconst 0, 23, []) := by decide +kernel
theorem xe_11_22 (a0 a1 a2 a3 : Option MV) (st : List MV) (μ : MM) (G : MG) : ev 11 22 [a0, a1, a2, a3] st μ G = ev 11 23 [a0, a1, a2, a3] (vI (0) :: st) μ G := ev_stp pg_11_22 rfl
theorem pg_11_23 : mm_prog 11 23 = some (0, .istore_n 3, 24, []) := by decide +kernel
theorem xe_11_23 (a0 a1 a2 a3 : Option MV) (x : Int) (st : List MV) (μ : MM) (G : MG) (h : mm_nL a2 = true) : ev 11 23 [a0, a1, a2, a3] (vI x :: st) μ G = ev 11 24 [a0, a1, a2, some (vI x)] st μ G := ev_st pg_11_23 rfl (mm_nl_of h) (Nat.le_of_ble_eq_true rfl)
theorem pg_11_24 : mm_prog 11 24 = some (0, .iload_n 3, 25, []) := by decide +kernel
theorem xe_11_24 (a0 a1 a2 : Option MV) (x : Int) (st : List MV) (μ : MM) (G : MG) : ev 11 24 [a0, a1, a2, some (vI x)] st μ G = ev 11 25 [a0, a1, a2, some (vI x)] (vI x :: st) μ G := ev_stp pg_11_24 rfl
theorem pg_11_25 : mm_prog 11 25 = some (0, .bipush 13, 27, []) := by decide +kernel
theorem xe_11_25 (a0 a1 a2 a3 : Option MV) (st : List MV) (μ : MM) (G : MG) : ev 11 25 [a0, a1, a2, a3] st μ G = ev 11 27 [a0, a1, a2, a3] (vI (13) :: st) μ G := ev_stp pg_11_25 rfl
theorem pg_11_27 : mm_prog 11 27 = some (0, .if_icmp .ge 56, 30, []) := by decide +kernel
theorem xe_11_27 (a0 a1 a2 a3 : Option MV) (x y : Int) (st : List MV) (μ : MM) (G : MG) : ev 11 27 [a0, a1, a2, a3] (vI y :: vI x :: st) μ G = if y ≤ x then ev 11 83 [a0, a1, a2, a3] st μ G else ev 11 30 [a0, a1, a2, a3] st μ G := ev_br (mm_cnd_ge x y) pg_11_27 rfl
theorem pg_11_30 : mm_prog 11 30 = some (0, .iload_n 3, 31, []) := by decide +kernel
theorem xe_11_30 (a0 a1 a2 : Option MV) (x : Int) (st : List MV) (μ : MM) (G : MG) : ev 11 30 [a0, a1, a2, some (vI x)] st μ G = ev 11 31 [a0, a1, a2, some (vI x)] (vI x :: st) μ G := ev_stp pg_11_30 rfl
theorem pg_11_31 : mm_prog 11 31 = some (0, .aload_n 2, 32, []) := by decide +kernel
theorem xe_11_31 (a0 a1 a3 : Option MV) (x : Int) (st : List MV) (μ : MM) (G : MG) : ev 11 31 [a0, a1, some (vR x), a3] st μ G = ev 11 32 [a0, a1, some (vR x), a3] (vR x :: st) μ G := ev_stp pg_11_31 rfl
theorem pg_11_32 : mm_prog 11 32 = some (0, .getfield 82, 35, [6, 9, 0]) := by decide +kernel
theorem xe_11_32 (a0 a1 a2 a3 : Option MV) (x : Int) (st : List MV) (μ : MM) (G : MG) : ev 11 32 [a0, a1, a2, a3] (vR x :: st) μ G = if gk G x = 6 then ev 11 35 [a0, a1, a2, a3] (vI (μ x 9) :: st) μ G else none := ev_if pg_11_32 rfl
theorem pg_11_35 : mm_prog 11 35 = some (0, .if_icmp .ge 19, 38, []) := by decide +kernel
theorem xe_11_35 (a0 a1 a2 a3 : Option MV) (x y : Int) (st : List MV) (μ : MM) (G : MG) : ev 11 35 [a0, a1, a2, a3] (vI y :: vI x :: st) μ G = if y ≤ x then ev 11 54 [a0, a1, a2, a3] st μ G else ev 11 38 [a0, a1, a2, a3] st μ G := ev_br (mm_cnd_ge x y) pg_11_35 rfl
theorem pg_11_38 : mm_prog 11 38 = some (0, .aload_n 0, 39, []) := by decide +kernel
theorem xe_11_38 (a1 a2 a3 : Option MV) (x : Int) (st : List MV) (μ : MM) (G : MG) : ev 11 38 [some (vR x), a1, a2, a3] st μ G = ev 11 39 [some (vR x), a1, a2, a3] (vR x :: st) μ G := ev_stp pg_11_38 rfl
theorem pg_11_39 : mm_prog 11 39 = some (0, .iload_n 1, 40, []) := by decide +kernel
theorem xe_11_39 (a0 a2 a3 : Option MV) (x : Int) (st : List MV) (μ : MM) (G : MG) : ev 11 39 [a0, some (vI x), a2, a3] st μ G = ev 11 40 [a0, some (vI x), a2, a3] (vI x :: st) μ G := ev_stp pg_11_39 rfl
theorem pg_11_40 : mm_prog 11 40 = some (0, .iconst 5, 41, []) := by decide +kernel
theorem xe_11_40 (a0 a1 a2 a3 : Option MV) (st : List MV) (μ : MM) (G : MG) : ev 11 40 [a0, a1, a2, a3] st μ G = ev 11 41 [a0, a1, a2, a3] (vI (5) :: st) μ G := ev_stp pg_11_40 rfl
theorem pg_11_41 : mm_prog 11 41 = some (0, .iload_n 3, 42, []) := by decide +kernel
theorem xe_11_41 (a0 a1 a2 : Option MV) (x : Int) (st : List MV) (μ : MM) (G : MG) : ev 11 41 [a0, a1, a2, some (vI x)] st μ G = ev 11 42 [a0, a1, a2, some (vI x)] (vI x :: st) μ G := ev_stp pg_11_41 rfl
theorem pg_11_42 : mm_prog 11 42 = some (0, .iadd, 43, []) := by decide +kernel
theorem xe_11_42 (a0 a1 a2 a3 : Option MV) (x y : Int) (st : List MV) (μ : MM) (G : MG) : ev 11 42 [a0, a1, a2, a3] (vI y :: vI x :: st) μ G = ev 11 43 [a0, a1, a2, a3] (vI (w32 (x + y)) :: st) μ G := ev_stp pg_11_42 rfl
theorem pg_11_43 : mm_prog 11 43 = some (0, .aload_n 2, 44, []) := by decide +kernel
theorem xe_11_43 (a0 a1 a3 : Option MV) (x : Int) (st : List MV) (μ : MM) (G : MG) : ev 11 43 [a0, a1, some (vR x), a3] st μ G = ev 11 44 [a0, a1, some (vR x), a3] (vR x :: st) μ G := ev_stp pg_11_43 rfl
theorem pg_11_44 : mm_prog 11 44 = some (0, .iload_n 3, 45, []) := by decide +kernel
theorem xe_11_44 (a0 a1 a2 : Option MV) (x : Int) (st : List MV) (μ : MM) (G : MG) : ev 11 44 [a0, a1, a2, some (vI x)] st μ G = ev 11 45 [a0, a1, a2, some (vI x)] (vI x :: st) μ G := ev_stp pg_11_44 rfl
theorem pg_11_45 : mm_prog 11 45 = some (1, .invokevirtual 85, 48, [1, 54, 1, 6]) := by decide +kernel
theorem xe_11_45 (a0 a1 a2 a3 : Option MV) (x0 z r0 r1 r2 : Int) (μ : MM) (G : MG) : ev 11 45 [a0, a1, a2, a3] (vI x0 :: vR z :: [vI r0, vI r1, vR r2]) μ G = if gk G z = 6 ∧ 0 < z then (ev 54 0 [some (vR z), some (vI x0)] [] μ G).bind (fun q => ev 11 48 [a0, a1, a2, a3] (q.1.toList ++ [vI r0, vI r1, vR r2]) q.2.1 q.2.2) else none := ev_calV (as := [vR z, vI x0]) (r := [vI r0, vI r1, vR r2]) mx_54 pg_11_45 rfl rfl (Nat.le_of_ble_eq_true rfl) (Nat.le_of_ble_eq_true rfl)
theorem pg_11_48 : mm_prog 11 48 = some (1, .invokevirtual 78, 51, [1, 9, 3, 1]) := by decide +kernel
theorem xe_11_48 (a0 a1 a2 a3 : Option MV) (x0 x1 x2 z : Int) (μ : MM) (G : MG) : ev 11 48 [a0, a1, a2, a3] (vI x2 :: vI x1 :: vI x0 :: vR z :: []) μ G = if gk G z = 1 ∧ 0 < z then (ev 9 0 [some (vR z), some (vI x0), some (vI x1), some (vI x2), none] [] μ G).bind (fun q => ev 11 51 [a0, a1, a2, a3] (q.1.toList ++ []) q.2.1 q.2.2) else none := ev_calV (as := [vR z, vI x0, vI x1, vI x2]) (r := []) mx_9 pg_11_48 rfl rfl (Nat.le_of_ble_eq_true rfl) (Nat.le_of_ble_eq_true rfl)
theorem pg_11_51 : mm_prog 11 51 = some (0, .goto 26, 54, []) := by decide +kernel
theorem xe_11_51 (a0 a1 a2 a3 : Option MV) (st : List MV) (μ : MM) (G : MG) : ev 11 51 [a0, a1, a2, a3] st μ G = ev 11 77 [a0, a1, a2, a3] st μ G := ev_stp pg_11_51 rfl
theorem pg_11_54 : mm_prog 11 54 = some (0, .aload_n 0, 55, []) := by decide +kernel
theorem xe_11_54 (a1 a2 a3 : Option MV) (x : Int) (st : List MV) (μ : MM) (G : MG) : ev 11 54 [some (vR x), a1, a2, a3] st μ G = ev 11 55 [some (vR x), a1, a2, a3] (vR x :: st) μ G := ev_stp pg_11_54 rfl
theorem pg_11_55 : mm_prog 11 55 = some (0, .iload_n 1, 56, []) := by decide +kernel
theorem xe_11_55 (a0 a2 a3 : Option MV) (x : Int) (st : List MV) (μ : MM) (G : MG) : ev 11 55 [a0, some (vI x), a2, a3] st μ G = ev 11 56 [a0, some (vI x), a2, a3] (vI x :: st) μ G := ev_stp pg_11_55 rfl
theorem pg_11_56 : mm_prog 11 56 = some (0, .iconst 5, 57, []) := by decide +kernel
theorem xe_11_56 (a0 a1 a2 a3 : Option MV) (st : List MV) (μ : MM) (G : MG) : ev 11 56 [a0, a1, a2, a3] st μ G = ev 11 57 [a0, a1, a2, a3] (vI (5) :: st) μ G := ev_stp pg_11_56 rfl
theorem pg_11_57 : mm_prog 11 57 = some (0, .iload_n 3, 58, []) := by decide +kernel
theorem xe_11_57 (a0 a1 a2 : Option MV) (x : Int) (st : List MV) (μ : MM) (G : MG) : ev 11 57 [a0, a1, a2, some (vI x)] st μ G = ev 11 58 [a0, a1, a2, some (vI x)] (vI x :: st) μ G := ev_stp pg_11_57 rfl
theorem pg_11_58 : mm_prog 11 58 = some (0, .iadd, 59, []) := by decide +kernel
theorem xe_11_58 (a0 a1 a2 a3 : Option MV) (x y : Int) (st : List MV) (μ : MM) (G : MG) : ev 11 58 [a0, a1, a2, a3] (vI y :: vI x :: st) μ G = ev 11 59 [a0, a1, a2, a3] (vI (w32 (x + y)) :: st) μ G := ev_stp pg_11_58 rfl
theorem pg_11_59 : mm_prog 11 59 = some (0, .iload_n 3, 60, []) := by decide +kernel
theorem xe_11_59 (a0 a1 a2 : Option MV) (x : Int) (st : List MV) (μ : MM) (G : MG) : ev 11 59 [a0, a1, a2, some (vI x)] st μ G = ev 11 60 [a0, a1, a2, some (vI x)] (vI x :: st) μ G := ev_stp pg_11_59 rfl
theorem pg_11_60 : mm_prog 11 60 = some (0, .aload_n 2, 61, []) := by decide +kernel
theorem xe_11_60 (a0 a1 a3 : Option MV) (x : Int) (st : List MV) (μ : MM) (G : MG) : ev 11 60 [a0, a1, some (vR x), a3] st μ G = ev 11 61 [a0, a1, some (vR x), a3] (vR x :: st) μ G := ev_stp pg_11_60 rfl
theorem pg_11_61 : mm_prog 11 61 = some (0, .getfield 82, 64, [6, 9, 0]) := by decide +kernel
theorem xe_11_61 (a0 a1 a2 a3 : Option MV) (x : Int) (st : List MV) (μ : MM) (G : MG) : ev 11 61 [a0, a1, a2, a3] (vR x :: st) μ G = if gk G x = 6 then ev 11 64 [a0, a1, a2, a3] (vI (μ x 9) :: st) μ G else none := ev_if pg_11_61 rfl
theorem pg_11_64 : mm_prog 11 64 = some (0, .if_icmp .ne 8, 67, []) := by decide +kernel
theorem xe_11_64 (a0 a1 a2 a3 : Option MV) (x y : Int) (st : List MV) (μ : MM) (G : MG) : ev 11 64 [a0, a1, a2, a3] (vI y :: vI x :: st) μ G = if ¬ x = y then ev 11 72 [a0, a1, a2, a3] st μ G else ev 11 67 [a0, a1, a2, a3] st μ G := ev_br (mm_cnd_ne x y) pg_11_64 rfl
theorem pg_11_67 : mm_prog 11 67 = some (0, .bipush 10, 69, []) := by decide +kernel
theorem xe_11_67 (a0 a1 a2 a3 : Option MV) (st : List MV) (μ : MM) (G : MG) : ev 11 67 [a0, a1, a2, a3] st μ G = ev 11 69 [a0, a1, a2, a3] (vI (10) :: st) μ G := ev_stp pg_11_67 rfl
theorem pg_11_69 : mm_prog 11 69 = some (0, .goto 5, 72, []) := by decide +kernel
theorem xe_11_69 (a0 a1 a2 a3 : Option MV) (st : List MV) (μ : MM) (G : MG) : ev 11 69 [a0, a1, a2, a3] st μ G = ev 11 74 [a0, a1, a2, a3] st μ G := ev_stp pg_11_69 rfl
theorem pg_11_72 : mm_prog 11 72 = some (0, .bipush 32, 74, []) := by decide +kernel
theorem xe_11_72 (a0 a1 a2 a3 : Option MV) (st : List MV) (μ : MM) (G : MG) : ev 11 72 [a0, a1, a2, a3] st μ G = ev 11 74 [a0, a1, a2, a3] (vI (32) :: st) μ G := ev_stp pg_11_72 rfl
theorem pg_11_74 : mm_prog 11 74 = some (1, .invokevirtual 78, 77, [1, 9, 3, 1]) := by decide +kernel
theorem xe_11_74 (a0 a1 a2 a3 : Option MV) (x0 x1 x2 z : Int) (μ : MM) (G : MG) : ev 11 74 [a0, a1, a2, a3] (vI x2 :: vI x1 :: vI x0 :: vR z :: []) μ G = if gk G z = 1 ∧ 0 < z then (ev 9 0 [some (vR z), some (vI x0), some (vI x1), some (vI x2), none] [] μ G).bind (fun q => ev 11 77 [a0, a1, a2, a3] (q.1.toList ++ []) q.2.1 q.2.2) else none := ev_calV (as := [vR z, vI x0, vI x1, vI x2]) (r := []) mx_9 pg_11_74 rfl rfl (Nat.le_of_ble_eq_true rfl) (Nat.le_of_ble_eq_true rfl)
theorem pg_11_77 : mm_prog 11 77 = some (0, .iinc 3 1, 80, []) := by decide +kernel
theorem xe_11_77 (a0 a1 a2 : Option MV) (x : Int) (st : List MV) (μ : MM) (G : MG) (h : mm_nL a2 = true) : ev 11 77 [a0, a1, a2, some (vI x)] st μ G = ev 11 80 [a0, a1, a2, some (vI (w32 (x + (1))))] st μ G := ev_st pg_11_77 rfl (mm_nl_of h) (Nat.le_of_ble_eq_true rfl)
theorem pg_11_80 : mm_prog 11 80 = some (0, .goto (-56), 83, []) := by decide +kernel
theorem xe_11_80 (a0 a1 a2 a3 : Option MV) (st : List MV) (μ : MM) (G : MG) : ev 11 80 [a0, a1, a2, a3] st μ G = ev 11 24 [a0, a1, a2, a3] st μ G := ev_stp pg_11_80 rfl
theorem pg_11_83 : mm_prog 11 83 = some (2, .return_, 84, []) := by decide +kernel
theorem xe_11_83 (a0 a1 a2 a3 : Option MV) (μ : MM) (G : MG) : ev 11 83 [a0, a1, a2, a3] [] μ G = some (none, μ, G) := ev_ret pg_11_83 rfl
-- X1_putRange
theorem pg_12_0 : mm_prog 12 0 = some (0, .iload_n 1, 1, []) := by decide +kernel
theorem xe_12_0 (a0 a2 a3 : Option MV) (x : Int) (st : List MV) (μ : MM) (G : MG) : ev 12 0 [a0, some (vI x), a2, a3] st μ G = ev 12 1 [a0, some (vI x), a2, a3] (vI x :: st) μ G := ev_stp pg_12_0 rfl
theorem pg_12_1 : mm_prog 12 1 = some (0, .iconst 4, 2, []) := by decide +kernel
theorem xe_12_1 (a0 a1 a2 a3 : Option MV) (st : List MV) (μ : MM) (G : MG) : ev 12 1 [a0, a1, a2, a3] st μ G = ev 12 2 [a0, a1, a2, a3] (vI (4) :: st) μ G := ev_stp pg_12_1 rfl
theorem pg_12_2 : mm_prog 12 2 = some (0, .if_icmp .ge 10, 5, []) := by decide +kernel
theorem xe_12_2 (a0 a1 a2 a3 : Option MV) (x y : Int) (st : List MV) (μ : MM) (G : MG) : ev 12 2 [a0, a1, a2, a3] (vI y :: vI x :: st) μ G = if y ≤ x then ev 12 12 [a0, a1, a2, a3] st μ G else ev 12 5 [a0, a1, a2, a3] st μ G := ev_br (mm_cnd_ge x y) pg_12_2 rfl
theorem pg_12_5 : mm_prog 12 5 = some (0, .aload_n 2, 6, []) := by decide +kernel
theorem xe_12_5 (a0 a1 a3 : Option MV) (x : Int) (st : List MV) (μ : MM) (G : MG) : ev 12 5 [a0, a1, some (vR x), a3] st μ G = ev 12 6 [a0, a1, some (vR x), a3] (vR x :: st) μ G := ev_stp pg_12_5 rfl
theorem pg_12_6 : mm_prog 12 6 = some (0, .getfield 88, 9, [6, 12, 1]) := by decide +kernel
theorem xe_12_6 (a0 a1 a2 a3 : Option MV) (x : Int) (st : List MV) (μ : MM) (G : MG) : ev 12 6 [a0, a1, a2, a3] (vR x :: st) μ G = if gk G x = 6 then ev 12 9 [a0, a1, a2, a3] (vI (μ x 12) :: st) μ G else none := ev_if pg_12_6 rfl
theorem pg_12_9 : mm_prog 12 9 = some (0, .ifCond .ne 4, 12, []) := by decide +kernel
theorem xe_12_9 (a0 a1 a2 a3 : Option MV) (x : Int) (st : List MV) (μ : MM) (G : MG) : ev 12 9 [a0, a1, a2, a3] (vI x :: st) μ G = if ¬ x = 0 then ev 12 13 [a0, a1, a2, a3] st μ G else ev 12 12 [a0, a1, a2, a3] st μ G := ev_br (mm_cnd_ne x 0) pg_12_9 rfl
theorem pg_12_12 : mm_prog 12 12 = some (2, .return_, 13, []) := by decide +kernel
theorem xe_12_12 (a0 a1 a2 a3 : Option MV) (μ : MM) (G : MG) : ev 12 12 [a0, a1, a2, a3] [] μ G = some (none, μ, G) := ev_ret pg_12_12 rfl
theorem pg_12_13 : mm_prog 12 13 = some (0, .aload_n 0, 14, []) := by decide +kernel
theorem xe_12_13 (a1 a2 a3 : Option MV) (x : Int) (st : List MV) (μ : MM) (G : MG) : ev 12 13 [some (vR x), a1, a2, a3] st μ G = ev 12 14 [some (vR x), a1, a2, a3] (vR x :: st) μ G := ev_stp pg_12_13 rfl
theorem pg_12_14 : mm_prog 12 14 = some (0, .iload_n 1, 15, []) := by decide +kernel
theorem xe_12_14 (a0 a2 a3 : Option MV) (x : Int) (st : List MV) (μ : MM) (G : MG) : ev 12 14 [a0, some (vI x), a2, a3] st μ G = ev 12 15 [a0, some (vI x), a2, a3] (vI x :: st) μ G := ev_stp pg_12_14 rfl
theorem pg_12_15 : mm_prog 12 15 = some (0, .iconst 3, 16, []) := by decide +kernel
theorem xe_12_15 (a0 a1 a2 a3 : Option MV) (st : List MV) (μ : MM) (G : MG) : ev 12 15 [a0, a1, a2, a3] st μ G = ev 12 16 [a0, a1, a2, a3] (vI (3) :: st) μ G := ev_stp pg_12_15 rfl
theorem pg_12_16 : mm_prog 12 16 = some (0, .sipush 253, 19, []) := by decide +kernel
theorem xe_12_16 (a0 a1 a2 a3 : Option MV) (st : List MV) (μ : MM) (G : MG) : ev 12 16 [a0, a1, a2, a3] st μ G = ev 12 19 [a0, a1, a2, a3] (vI (253) :: st) μ G := ev_stp pg_12_16 rfl
theorem pg_12_19 : mm_prog 12 19 = some (1, .invokevirtual 78, 22, [1, 9, 3, 1]) := by decide +kernel
theorem xe_12_19 (a0 a1 a2 a3 : Option MV) (x0 x1 x2 z : Int) (μ : MM) (G : MG) : ev 12 19 [a0, a1, a2, a3] (vI x2 :: vI x1 :: vI x0 :: vR z :: []) μ G = if gk G z = 1 ∧ 0 < z then (ev 9 0 [some (vR z), some (vI x0), some (vI x1), some (vI x2), none] [] μ G).bind (fun q => ev 12 22 [a0, a1, a2, a3] (q.1.toList ++ []) q.2.1 q.2.2) else none := ev_calV (as := [vR z, vI x0, vI x1, vI x2]) (r := []) mx_9 pg_12_19 rfl rfl (Nat.le_of_ble_eq_true rfl) (Nat.le_of_ble_eq_true rfl)
theorem pg_12_22 : mm_prog 12 22 = some (0, .iconst 0, 23, []) := by decide +kernel
theorem xe_12_22 (a0 a1 a2 a3 : Option MV) (st : List MV) (μ : MM) (G : MG) : ev 12 22 [a0, a1, a2, a3] st μ G = ev 12 23 [a0, a1, a2, a3] (vI (0) :: st) μ G := ev_stp pg_12_22 rfl
theorem pg_12_23 : mm_prog 12 23 = some (0, .istore_n 3, 24, []) := by decide +kernel
theorem xe_12_23 (a0 a1 a2 a3 : Option MV) (x : Int) (st : List MV) (μ : MM) (G : MG) (h : mm_nL a2 = true) : ev 12 23 [a0, a1, a2, a3] (vI x :: st) μ G = ev 12 24 [a0, a1, a2, some (vI x)] st μ G := ev_st pg_12_23 rfl (mm_nl_of h) (Nat.le_of_ble_eq_true rfl)
theorem pg_12_24 : mm_prog 12 24 = some (0, .iload_n 3, 25, []) := by decide +kernel
theorem xe_12_24 (a0 a1 a2 : Option MV) (x : Int) (st : List MV) (μ : MM) (G : MG) : ev 12 24 [a0, a1, a2, some (vI x)] st μ G = ev 12 25 [a0, a1, a2, some (vI x)] (vI x :: st) μ G := ev_stp pg_12_24 rfl
theorem pg_12_25 : mm_prog 12 25 = some (0, .iconst 5, 26, []) := by decide +kernel
theorem xe_12_25 (a0 a1 a2 a3 : Option MV) (st : List MV) (μ : MM) (G : MG) : ev 12 25 [a0, a1, a2, a3] st μ G = ev 12 26 [a0, a1, a2, a3] (vI (5) :: st) μ G := ev_stp pg_12_25 rfl
theorem pg_12_26 : mm_prog 12 26 = some (0, .if_icmp .ge 22, 29, []) := by decide +kernel
theorem xe_12_26 (a0 a1 a2 a3 : Option MV) (x y : Int) (st : List MV) (μ : MM) (G : MG) : ev 12 26 [a0, a1, a2, a3] (vI y :: vI x :: st) μ G = if y ≤ x then ev 12 48 [a0, a1, a2, a3] st μ G else ev 12 29 [a0, a1, a2, a3] st μ G := ev_br (mm_cnd_ge x y) pg_12_26 rfl
theorem pg_12_29 : mm_prog 12 29 = some (0, .aload_n 0, 30, []) := by decide +kernel
theorem xe_12_29 (a1 a2 a3 : Option MV) (x : Int) (st : List MV) (μ : MM) (G : MG) : ev 12 29 [some (vR x), a1, a2, a3] st μ G = ev 12 30 [some (vR x), a1, a2, a3] (vR x :: st) μ G := ev_stp pg_12_29 rfl
theorem pg_12_30 : mm_prog 12 30 = some (0, .iload_n 1, 31, []) := by decide +kernel
theorem xe_12_30 (a0 a2 a3 : Option MV) (x : Int) (st : List MV) (μ : MM) (G : MG) : ev 12 30 [a0, some (vI x), a2, a3] st μ G = ev 12 31 [a0, some (vI x), a2, a3] (vI x :: st) μ G := ev_stp pg_12_30 rfl
theorem pg_12_31 : mm_prog 12 31 = some (0, .iconst 5, 32, []) := by decide +kernel
theorem xe_12_31 (a0 a1 a2 a3 : Option MV) (st : List MV) (μ : MM) (G : MG) : ev 12 31 [a0, a1, a2, a3] st μ G = ev 12 32 [a0, a1, a2, a3] (vI (5) :: st) μ G := ev_stp pg_12_31 rfl
theorem pg_12_32 : mm_prog 12 32 = some (0, .iload_n 3, 33, []) := by decide +kernel
theorem xe_12_32 (a0 a1 a2 : Option MV) (x : Int) (st : List MV) (μ : MM) (G : MG) : ev 12 32 [a0, a1, a2, some (vI x)] st μ G = ev 12 33 [a0, a1, a2, some (vI x)] (vI x :: st) μ G := ev_stp pg_12_32 rfl
theorem pg_12_33 : mm_prog 12 33 = some (0, .iadd, 34, []) := by decide +kernel
theorem xe_12_33 (a0 a1 a2 a3 : Option MV) (x y : Int) (st : List MV) (μ : MM) (G : MG) : ev 12 33 [a0, a1, a2, a3] (vI y :: vI x :: st) μ G = ev 12 34 [a0, a1, a2, a3] (vI (w32 (x + y)) :: st) μ G := ev_stp pg_12_33 rfl
theorem pg_12_34 : mm_prog 12 34 = some (0, .aload_n 2, 35, []) := by decide +kernel
theorem xe_12_34 (a0 a1 a3 : Option MV) (x : Int) (st : List MV) (μ : MM) (G : MG) : ev 12 34 [a0, a1, some (vR x), a3] st μ G = ev 12 35 [a0, a1, some (vR x), a3] (vR x :: st) μ G := ev_stp pg_12_34 rfl
theorem pg_12_35 : mm_prog 12 35 = some (0, .iload_n 3, 36, []) := by decide +kernel
theorem xe_12_35 (a0 a1 a2 : Option MV) (x : Int) (st : List MV) (μ : MM) (G : MG) : ev 12 35 [a0, a1, a2, some (vI x)] st μ G = ev 12 36 [a0, a1, a2, some (vI x)] (vI x :: st) μ G := ev_stp pg_12_35 rfl
theorem pg_12_36 : mm_prog 12 36 = some (1, .invokevirtual 91, 39, [1, 56, 1, 6]) := by decide +kernel
theorem xe_12_36 (a0 a1 a2 a3 : Option MV) (x0 z r0 r1 r2 : Int) (μ : MM) (G : MG) : ev 12 36 [a0, a1, a2, a3] (vI x0 :: vR z :: [vI r0, vI r1, vR r2]) μ G = if gk G z = 6 ∧ 0 < z then (ev 56 0 [some (vR z), some (vI x0)] [] μ G).bind (fun q => ev 12 39 [a0, a1, a2, a3] (q.1.toList ++ [vI r0, vI r1, vR r2]) q.2.1 q.2.2) else none := ev_calV (as := [vR z, vI x0]) (r := [vI r0, vI r1, vR r2]) mx_56 pg_12_36 rfl rfl (Nat.le_of_ble_eq_true rfl) (Nat.le_of_ble_eq_true rfl)
theorem pg_12_39 : mm_prog 12 39 = some (1, .invokevirtual 78, 42, [1, 9, 3, 1]) := by decide +kernel
theorem xe_12_39 (a0 a1 a2 a3 : Option MV) (x0 x1 x2 z : Int) (μ : MM) (G : MG) : ev 12 39 [a0, a1, a2, a3] (vI x2 :: vI x1 :: vI x0 :: vR z :: []) μ G = if gk G z = 1 ∧ 0 < z then (ev 9 0 [some (vR z), some (vI x0), some (vI x1), some (vI x2), none] [] μ G).bind (fun q => ev 12 42 [a0, a1, a2, a3] (q.1.toList ++ []) q.2.1 q.2.2) else none := ev_calV (as := [vR z, vI x0, vI x1, vI x2]) (r := []) mx_9 pg_12_39 rfl rfl (Nat.le_of_ble_eq_true rfl) (Nat.le_of_ble_eq_true rfl)
theorem pg_12_42 : mm_prog 12 42 = some (0, .iinc 3 1, 45, []) := by decide +kernel
theorem xe_12_42 (a0 a1 a2 : Option MV) (x : Int) (st : List MV) (μ : MM) (G : MG) (h : mm_nL a2 = true) : ev 12 42 [a0, a1, a2, some (vI x)] st μ G = ev 12 45 [a0, a1, a2, some (vI (w32 (x + (1))))] st μ G := ev_st pg_12_42 rfl (mm_nl_of h) (Nat.le_of_ble_eq_true rfl)
theorem pg_12_45 : mm_prog 12 45 = some (0, .goto (-21), 48, []) := by decide +kernel
theorem xe_12_45 (a0 a1 a2 a3 : Option MV) (st : List MV) (μ : MM) (G : MG) : ev 12 45 [a0, a1, a2, a3] st μ G = ev 12 24 [a0, a1, a2, a3] st μ G := ev_stp pg_12_45 rfl
theorem pg_12_48 : mm_prog 12 48 = some (2, .return_, 49, []) := by decide +kernel
theorem xe_12_48 (a0 a1 a2 a3 : Option MV) (μ : MM) (G : MG) : ev 12 48 [a0, a1, a2, a3] [] μ G = some (none, μ, G) := ev_ret pg_12_48 rfl
-- X1_putSum
theorem pg_13_0 : mm_prog 13 0 = some (0, .iconst 0, 1, []) := by decide +kernel
theorem xe_13_0 (a0 a1 a2 a3 a4 a5 : Option MV) (st : List MV) (μ : MM) (G : MG) : ev 13 0 [a0, a1, a2, a3, a4, a5] st μ G = ev 13 1 [a0, a1, a2, a3, a4, a5] (vI (0) :: st) μ G := ev_stp pg_13_0 rfl
theorem pg_13_1 : mm_prog 13 1 = some (0, .istore_n 1, 2, []) := by decide +kernel
theorem xe_13_1 (a0 a1 a2 a3 a4 a5 : Option MV) (x : Int) (st : List MV) (μ : MM) (G : MG) (h : mm_nL a0 = true) : ev 13 1 [a0, a1, a2, a3, a4, a5] (vI x :: st) μ G = ev 13 2 [a0, some (vI x), a2, a3, a4, a5] st μ G := ev_st pg_13_1 rfl (mm_nl_of h) (Nat.le_of_ble_eq_true rfl)
theorem pg_13_2 : mm_prog 13 2 = some (0, .aload_n 0, 3, []) := by decide +kernel
theorem xe_13_2 (a1 a2 a3 a4 a5 : Option MV) (x : Int) (st : List MV) (μ : MM) (G : MG) : ev 13 2 [some (vR x), a1, a2, a3, a4, a5] st μ G = ev 13 3 [some (vR x), a1, a2, a3, a4, a5] (vR x :: st) μ G := ev_stp pg_13_2 rfl
theorem pg_13_3 : mm_prog 13 3 = some (0, .getfield 9, 6, [1, 0, 2]) := by decide +kernel
theorem xe_13_3 (a0 a1 a2 a3 a4 a5 : Option MV) (x : Int) (st : List MV) (μ : MM) (G : MG) : ev 13 3 [a0, a1, a2, a3, a4, a5] (vR x :: st) μ G = if gk G x = 1 then ev 13 6 [a0, a1, a2, a3, a4, a5] (vR (μ x 0) :: st) μ G else none := ev_if pg_13_3 rfl
theorem pg_13_6 : mm_prog 13 6 = some (0, .astore_n 2, 7, []) := by decide +kernel
theorem xe_13_6 (a0 a1 a2 a3 a4 a5 : Option MV) (x : Int) (st : List MV) (μ : MM) (G : MG) (h : mm_nL a1 = true) : ev 13 6 [a0, a1, a2, a3, a4, a5] (vR x :: st) μ G = ev 13 7 [a0, a1, some (vR x), a3, a4, a5] st μ G := ev_st pg_13_6 rfl (mm_nl_of h) (Nat.le_of_ble_eq_true rfl)
theorem pg_13_7 : mm_prog 13 7 = some (0, .aload_n 2, 8, []) := by decide +kernel
theorem xe_13_7 (a0 a1 a3 a4 a5 : Option MV) (x : Int) (st : List MV) (μ : MM) (G : MG) : ev 13 7 [a0, a1, some (vR x), a3, a4, a5] st μ G = ev 13 8 [a0, a1, some (vR x), a3, a4, a5] (vR x :: st) μ G := ev_stp pg_13_7 rfl
theorem pg_13_8 : mm_prog 13 8 = some (0, .arraylength, 9, []) := by decide +kernel
theorem xe_13_8 (a0 a1 a2 a3 a4 a5 : Option MV) (x : Int) (st : List MV) (μ : MM) (G : MG) : ev 13 8 [a0, a1, a2, a3, a4, a5] (vR x :: st) μ G = if 100 ≤ gk G x then ev 13 9 [a0, a1, a2, a3, a4, a5] (vI (gl G x) :: st) μ G else none := ev_if pg_13_8 rfl
theorem pg_13_9 : mm_prog 13 9 = some (0, .istore_n 3, 10, []) := by decide +kernel
theorem xe_13_9 (a0 a1 a2 a3 a4 a5 : Option MV) (x : Int) (st : List MV) (μ : MM) (G : MG) (h : mm_nL a2 = true) : ev 13 9 [a0, a1, a2, a3, a4, a5] (vI x :: st) μ G = ev 13 10 [a0, a1, a2, some (vI x), a4, a5] st μ G := ev_st pg_13_9 rfl (mm_nl_of h) (Nat.le_of_ble_eq_true rfl)
theorem pg_13_10 : mm_prog 13 10 = some (0, .iconst 0, 11, []) := by decide +kernel
theorem xe_13_10 (a0 a1 a2 a3 a4 a5 : Option MV) (st : List MV) (μ : MM) (G : MG) : ev 13 10 [a0, a1, a2, a3, a4, a5] st μ G = ev 13 11 [a0, a1, a2, a3, a4, a5] (vI (0) :: st) μ G := ev_stp pg_13_10 rfl
theorem pg_13_11 : mm_prog 13 11 = some (0, .istore 4, 13, []) := by decide +kernel
theorem xe_13_11 (a0 a1 a2 a3 a4 a5 : Option MV) (x : Int) (st : List MV) (μ : MM) (G : MG) (h : mm_nL a3 = true) : ev 13 11 [a0, a1, a2, a3, a4, a5] (vI x :: st) μ G = ev 13 13 [a0, a1, a2, a3, some (vI x), a5] st μ G := ev_st pg_13_11 rfl (mm_nl_of h) (Nat.le_of_ble_eq_true rfl)
theorem pg_13_13 : mm_prog 13 13 = some (0, .iload 4, 15, []) := by decide +kernel
theorem xe_13_13 (a0 a1 a2 a3 a5 : Option MV) (x : Int) (st : List MV) (μ : MM) (G : MG) : ev 13 13 [a0, a1, a2, a3, some (vI x), a5] st μ G = ev 13 15 [a0, a1, a2, a3, some (vI x), a5] (vI x :: st) μ G := ev_stp pg_13_13 rfl
theorem pg_13_15 : mm_prog 13 15 = some (0, .iload_n 3, 16, []) := by decide +kernel
theorem xe_13_15 (a0 a1 a2 a4 a5 : Option MV) (x : Int) (st : List MV) (μ : MM) (G : MG) : ev 13 15 [a0, a1, a2, some (vI x), a4, a5] st μ G = ev 13 16 [a0, a1, a2, some (vI x), a4, a5] (vI x :: st) μ G := ev_stp pg_13_15 rfl
theorem pg_13_16 : mm_prog 13 16 = some (0, .if_icmp .ge 20, 19, []) := by decide +kernel
theorem xe_13_16 (a0 a1 a2 a3 a4 a5 : Option MV) (x y : Int) (st : List MV) (μ : MM) (G : MG) : ev 13 16 [a0, a1, a2, a3, a4, a5] (vI y :: vI x :: st) μ G = if y ≤ x then ev 13 36 [a0, a1, a2, a3, a4, a5] st μ G else ev 13 19 [a0, a1, a2, a3, a4, a5] st μ G := ev_br (mm_cnd_ge x y) pg_13_16 rfl
theorem pg_13_19 : mm_prog 13 19 = some (0, .aload_n 2, 20, []) := by decide +kernel
theorem xe_13_19 (a0 a1 a3 a4 a5 : Option MV) (x : Int) (st : List MV) (μ : MM) (G : MG) : ev 13 19 [a0, a1, some (vR x), a3, a4, a5] st μ G = ev 13 20 [a0, a1, some (vR x), a3, a4, a5] (vR x :: st) μ G := ev_stp pg_13_19 rfl
theorem pg_13_20 : mm_prog 13 20 = some (0, .iload 4, 22, []) := by decide +kernel
theorem xe_13_20 (a0 a1 a2 a3 a5 : Option MV) (x : Int) (st : List MV) (μ : MM) (G : MG) : ev 13 20 [a0, a1, a2, a3, some (vI x), a5] st μ G = ev 13 22 [a0, a1, a2, a3, some (vI x), a5] (vI x :: st) μ G := ev_stp pg_13_20 rfl
theorem pg_13_22 : mm_prog 13 22 = some (0, .iaload, 23, []) := by decide +kernel
theorem xe_13_22 (a0 a1 a2 a3 a4 a5 : Option MV) (x y : Int) (st : List MV) (μ : MM) (G : MG) : ev 13 22 [a0, a1, a2, a3, a4, a5] (vI x :: vR y :: st) μ G = if gk G y = 100 ∧ 0 ≤ x ∧ x < gl G y then ev 13 23 [a0, a1, a2, a3, a4, a5] (vI (μ y x) :: st) μ G else none := ev_if pg_13_22 rfl
theorem pg_13_23 : mm_prog 13 23 = some (0, .istore 5, 25, []) := by decide +kernel
theorem xe_13_23 (a0 a1 a2 a3 a4 a5 : Option MV) (x : Int) (st : List MV) (μ : MM) (G : MG) (h : mm_nL a4 = true) : ev 13 23 [a0, a1, a2, a3, a4, a5] (vI x :: st) μ G = ev 13 25 [a0, a1, a2, a3, a4, some (vI x)] st μ G := ev_st pg_13_23 rfl (mm_nl_of h) (Nat.le_of_ble_eq_true rfl)
theorem pg_13_25 : mm_prog 13 25 = some (0, .iload_n 1, 26, []) := by decide +kernel
theorem xe_13_25 (a0 a2 a3 a4 a5 : Option MV) (x : Int) (st : List MV) (μ : MM) (G : MG) : ev 13 25 [a0, some (vI x), a2, a3, a4, a5] st μ G = ev 13 26 [a0, some (vI x), a2, a3, a4, a5] (vI x :: st) μ G := ev_stp pg_13_25 rfl
theorem pg_13_26 : mm_prog 13 26 = some (0, .iload 5, 28, []) := by decide +kernel
theorem xe_13_26 (a0 a1 a2 a3 a4 : Option MV) (x : Int) (st : List MV) (μ : MM) (G : MG) : ev 13 26 [a0, a1, a2, a3, a4, some (vI x)] st μ G = ev 13 28 [a0, a1, a2, a3, a4, some (vI x)] (vI x :: st) μ G := ev_stp pg_13_26 rfl
theorem pg_13_28 : mm_prog 13 28 = some (0, .iadd, 29, []) := by decide +kernel
theorem xe_13_28 (a0 a1 a2 a3 a4 a5 : Option MV) (x y : Int) (st : List MV) (μ : MM) (G : MG) : ev 13 28 [a0, a1, a2, a3, a4, a5] (vI y :: vI x :: st) μ G = ev 13 29 [a0, a1, a2, a3, a4, a5] (vI (w32 (x + y)) :: st) μ G := ev_stp pg_13_28 rfl
theorem pg_13_29 : mm_prog 13 29 = some (0, .istore_n 1, 30, []) := by decide +kernel
theorem xe_13_29 (a0 a1 a2 a3 a4 a5 : Option MV) (x : Int) (st : List MV) (μ : MM) (G : MG) (h : mm_nL a0 = true) : ev 13 29 [a0, a1, a2, a3, a4, a5] (vI x :: st) μ G = ev 13 30 [a0, some (vI x), a2, a3, a4, a5] st μ G := ev_st pg_13_29 rfl (mm_nl_of h) (Nat.le_of_ble_eq_true rfl)
theorem pg_13_30 : mm_prog 13 30 = some (0, .iinc 4 1, 33, []) := by decide +kernel
theorem xe_13_30 (a0 a1 a2 a3 a5 : Option MV) (x : Int) (st : List MV) (μ : MM) (G : MG) (h : mm_nL a3 = true) : ev 13 30 [a0, a1, a2, a3, some (vI x), a5] st μ G = ev 13 33 [a0, a1, a2, a3, some (vI (w32 (x + (1)))), a5] st μ G := ev_st pg_13_30 rfl (mm_nl_of h) (Nat.le_of_ble_eq_true rfl)
theorem pg_13_33 : mm_prog 13 33 = some (0, .goto (-20), 36, []) := by decide +kernel
theorem xe_13_33 (a0 a1 a2 a3 a4 a5 : Option MV) (st : List MV) (μ : MM) (G : MG) : ev 13 33 [a0, a1, a2, a3, a4, a5] st μ G = ev 13 13 [a0, a1, a2, a3, a4, a5] st μ G := ev_stp pg_13_33 rfl
theorem pg_13_36 : mm_prog 13 36 = some (0, .aload_n 0, 37, []) := by decide +kernel
theorem xe_13_36 (a1 a2 a3 a4 a5 : Option MV) (x : Int) (st : List MV) (μ : MM) (G : MG) : ev 13 36 [some (vR x), a1, a2, a3, a4, a5] st μ G = ev 13 37 [some (vR x), a1, a2, a3, a4, a5] (vR x :: st) μ G := ev_stp pg_13_36 rfl
theorem pg_13_37 : mm_prog 13 37 = some (0, .getfield 9, 40, [1, 0, 2]) := by decide +kernel
theorem xe_13_37 (a0 a1 a2 a3 a4 a5 : Option MV) (x : Int) (st : List MV) (μ : MM) (G : MG) : ev 13 37 [a0, a1, a2, a3, a4, a5] (vR x :: st) μ G = if gk G x = 1 then ev 13 40 [a0, a1, a2, a3, a4, a5] (vR (μ x 0) :: st) μ G else none := ev_if pg_13_37 rfl
theorem pg_13_40 : mm_prog 13 40 = some (0, .bipush 127, 42, []) := by decide +kernel
theorem xe_13_40 (a0 a1 a2 a3 a4 a5 : Option MV) (st : List MV) (μ : MM) (G : MG) : ev 13 40 [a0, a1, a2, a3, a4, a5] st μ G = ev 13 42 [a0, a1, a2, a3, a4, a5] (vI (127) :: st) μ G := ev_stp pg_13_40 rfl
theorem pg_13_42 : mm_prog 13 42 = some (0, .iload_n 1, 43, []) := by decide +kernel
theorem xe_13_42 (a0 a2 a3 a4 a5 : Option MV) (x : Int) (st : List MV) (μ : MM) (G : MG) : ev 13 42 [a0, some (vI x), a2, a3, a4, a5] st μ G = ev 13 43 [a0, some (vI x), a2, a3, a4, a5] (vI x :: st) μ G := ev_stp pg_13_42 rfl
theorem pg_13_43 : mm_prog 13 43 = some (0, .ineg, 44, []) := by decide +kernel
theorem xe_13_43 (a0 a1 a2 a3 a4 a5 : Option MV) (x : Int) (st : List MV) (μ : MM) (G : MG) : ev 13 43 [a0, a1, a2, a3, a4, a5] (vI x :: st) μ G = ev 13 44 [a0, a1, a2, a3, a4, a5] (vI (w32 (-x)) :: st) μ G := ev_stp pg_13_43 rfl
theorem pg_13_44 : mm_prog 13 44 = some (0, .sipush 255, 47, []) := by decide +kernel
theorem xe_13_44 (a0 a1 a2 a3 a4 a5 : Option MV) (st : List MV) (μ : MM) (G : MG) : ev 13 44 [a0, a1, a2, a3, a4, a5] st μ G = ev 13 47 [a0, a1, a2, a3, a4, a5] (vI (255) :: st) μ G := ev_stp pg_13_44 rfl
theorem pg_13_47 : mm_prog 13 47 = some (0, .iand, 48, []) := by decide +kernel
theorem xe_13_47 (a0 a1 a2 a3 a4 a5 : Option MV) (x y : Int) (st : List MV) (μ : MM) (G : MG) : ev 13 47 [a0, a1, a2, a3, a4, a5] (vI y :: vI x :: st) μ G = ev 13 48 [a0, a1, a2, a3, a4, a5] (vI (mm_and x y) :: st) μ G := ev_stp pg_13_47 rfl
theorem pg_13_48 : mm_prog 13 48 = some (0, .iastore, 49, []) := by decide +kernel
theorem xe_13_48 (a0 a1 a2 a3 a4 a5 : Option MV) (x y z : Int) (st : List MV) (μ : MM) (G : MG) : ev 13 48 [a0, a1, a2, a3, a4, a5] (vI x :: vI y :: vR z :: st) μ G = if gk G z = 100 ∧ 0 ≤ y ∧ y < gl G z ∧ 10 ≤ z then ev 13 49 [a0, a1, a2, a3, a4, a5] st (mset μ z y x) G else none := ev_if pg_13_48 rfl
theorem pg_13_49 : mm_prog 13 49 = some (2, .return_, 50, []) := by decide +kernel
theorem xe_13_49 (a0 a1 a2 a3 a4 a5 : Option MV) (μ : MM) (G : MG) : ev 13 49 [a0, a1, a2, a3, a4, a5] [] μ G = some (none, μ, G) := ev_ret pg_13_49 rfl
-- X2_init
theorem pg_14_0 : mm_prog 14 0 = some (0, .aload_n 0, 1, []) := by decide +kernel
theorem xe_14_0 (x : Int) (st : List MV) (μ : MM) (G : MG) : ev 14 0 [some (vR x)] st μ G = ev 14 1 [some (vR x)] (vR x :: st) μ G := ev_stp pg_14_0 rfl
theorem pg_14_1 : mm_prog 14 1 = some (0, .invokespecial 3, 4, []) := by decide +kernel
theorem xe_14_1 (a0 : Option MV) (x : Int) (st : List MV) (μ : MM) (G : MG) : ev 14 1 [a0] (vR x :: st) μ G = if 10 ≤ x ∧ mm_cats st ≤ 8 then ev 14 4 [a0] st μ G else none := ev_if pg_14_1 rfl
theorem pg_14_4 : mm_prog 14 4 = some (0, .aload_n 0, 5, []) := by decide +kernel
theorem xe_14_4 (x : Int) (st : List MV) (μ : MM) (G : MG) : ev 14 4 [some (vR x)] st μ G = ev 14 5 [some (vR x)] (vR x :: st) μ G := ev_stp pg_14_4 rfl
theorem pg_14_5 : mm_prog 14 5 = some (0, .iconst (-1), 6, []) := by decide +kernel
theorem xe_14_5 (a0 : Option MV) (st : List MV) (μ : MM) (G : MG) : ev 14 5 [a0] st μ G = ev 14 6 [a0] (vI (-1) :: st) μ G := ev_stp pg_14_5 rfl
theorem pg_14_6 : mm_prog 14 6 = some (0, .putfield 9, 9, [2, 1, 0]) := by decide +kernel
theorem xe_14_6 (a0 : Option MV) (x y : Int) (st : List MV) (μ : MM) (G : MG) : ev 14 6 [a0] (vI x :: vR y :: st) μ G = if gk G y = 2 then ev 14 9 [a0] st (mset μ y 1 x) G else none := ev_put0 pg_14_6
theorem pg_14_9 : mm_prog 14 9 = some (2, .return_, 10, []) := by decide +kernel
theorem xe_14_9 (a0 : Option MV) (μ : MM) (G : MG) : ev 14 9 [a0] [] μ G = some (none, μ, G) := ev_ret pg_14_9 rfl
-- X2_inspect
theorem pg_15_0 : mm_prog 15 0 = some (0, .aload_n 0, 1, []) := by decide +kernel
theorem xe_15_0 (a1 a2 a3 : Option MV) (x : Int) (st : List MV) (μ : MM) (G : MG) : ev 15 0 [some (vR x), a1, a2, a3] st μ G = ev 15 1 [some (vR x), a1, a2, a3] (vR x :: st) μ G := ev_stp pg_15_0 rfl
theorem pg_15_1 : mm_prog 15 1 = some (0, .iconst 0, 2, []) := by decide +kernel
theorem xe_15_1 (a0 a1 a2 a3 : Option MV) (st : List MV) (μ : MM) (G : MG) : ev 15 1 [a0, a1, a2, a3] st μ G = ev 15 2 [a0, a1, a2, a3] (vI (0) :: st) μ G := ev_stp pg_15_1 rfl
theorem pg_15_2 : mm_prog 15 2 = some (0, .putfield 15, 5, [2, 0, 0]) := by decide +kernel
theorem xe_15_2 (a0 a1 a2 a3 : Option MV) (x y : Int) (st : List MV) (μ : MM) (G : MG) : ev 15 2 [a0, a1, a2, a3] (vI x :: vR y :: st) μ G = if gk G y = 2 then ev 15 5 [a0, a1, a2, a3] st (mset μ y 0 x) G else none := ev_put0 pg_15_2
theorem pg_15_5 : mm_prog 15 5 = some (0, .aload_n 0, 6, []) := by decide +kernel
theorem xe_15_5 (a1 a2 a3 : Option MV) (x : Int) (st : List MV) (μ : MM) (G : MG) : ev 15 5 [some (vR x), a1, a2, a3] st μ G = ev 15 6 [some (vR x), a1, a2, a3] (vR x :: st) μ G := ev_stp pg_15_5 rfl
theorem pg_15_6 : mm_prog 15 6 = some (0, .iconst (-1), 7, []) := by decide +kernel
theorem xe_15_6 (a0 a1 a2 a3 : Option MV) (st : List MV) (μ : MM) (G : MG) : ev 15 6 [a0, a1, a2, a3] st μ G = ev 15 7 [a0, a1, a2, a3] (vI (-1) :: st) μ G := ev_stp pg_15_6 rfl
theorem pg_15_7 : mm_prog 15 7 = some (0, .putfield 9, 10, [2, 1, 0]) := by decide +kernel
theorem xe_15_7 (a0 a1 a2 a3 : Option MV) (x y : Int) (st : List MV) (μ : MM) (G : MG) : ev 15 7 [a0, a1, a2, a3] (vI x :: vR y :: st) μ G = if gk G y = 2 then ev 15 10 [a0, a1, a2, a3] st (mset μ y 1 x) G else none := ev_put0 pg_15_7
theorem pg_15_10 : mm_prog 15 10 = some (0, .aload_n 1, 11, []) := by decide +kernel
theorem xe_15_10 (a0 a2 a3 : Option MV) (x : Int) (st : List MV) (μ : MM) (G : MG) : ev 15 10 [a0, some (vR x), a2, a3] st μ G = ev 15 11 [a0, some (vR x), a2, a3] (vR x :: st) μ G := ev_stp pg_15_10 rfl
theorem pg_15_11 : mm_prog 15 11 = some (0, .getfield 18, 14, [0, 1, 0]) := by decide +kernel
theorem xe_15_11 (a0 a1 a2 a3 : Option MV) (x : Int) (st : List MV) (μ : MM) (G : MG) : ev 15 11 [a0, a1, a2, a3] (vR x :: st) μ G = if gk G x = 0 then ev 15 14 [a0, a1, a2, a3] (vI (μ x 1) :: st) μ G else none := ev_if pg_15_11 rfl
theorem pg_15_14 : mm_prog 15 14 = some (0, .sipush 128, 17, []) := by decide +kernel
theorem xe_15_14 (a0 a1 a2 a3 : Option MV) (st : List MV) (μ : MM) (G : MG) : ev 15 14 [a0, a1, a2, a3] st μ G = ev 15 17 [a0, a1, a2, a3] (vI (128) :: st) μ G := ev_stp pg_15_14 rfl
theorem pg_15_17 : mm_prog 15 17 = some (0, .idiv, 18, []) := by decide +kernel
theorem xe_15_17 (a0 a1 a2 a3 : Option MV) (x y : Int) (st : List MV) (μ : MM) (G : MG) : ev 15 17 [a0, a1, a2, a3] (vI y :: vI x :: st) μ G = if y = 0 then none else ev 15 18 [a0, a1, a2, a3] (vI (mm_div x y) :: st) μ G := ev_no pg_15_17 rfl
theorem pg_15_18 : mm_prog 15 18 = some (0, .istore_n 2, 19, []) := by decide +kernel
theorem xe_15_18 (a0 a1 a2 a3 : Option MV) (x : Int) (st : List MV) (μ : MM) (G : MG) (h : mm_nL a1 = true) : ev 15 18 [a0, a1, a2, a3] (vI x :: st) μ G = ev 15 19 [a0, a1, some (vI x), a3] st μ G := ev_st pg_15_18 rfl (mm_nl_of h) (Nat.le_of_ble_eq_true rfl)
theorem pg_15_19 : mm_prog 15 19 = some (0, .aload_n 1, 20, []) := by decide +kernel
theorem xe_15_19 (a0 a2 a3 : Option MV) (x : Int) (st : List MV) (μ : MM) (G : MG) : ev 15 19 [a0, some (vR x), a2, a3] st μ G = ev 15 20 [a0, some (vR x), a2, a3] (vR x :: st) μ G := ev_stp pg_15_19 rfl
theorem pg_15_20 : mm_prog 15 20 = some (0, .getfield 18, 23, [0, 1, 0]) := by decide +kernel
theorem xe_15_20 (a0 a1 a2 a3 : Option MV) (x : Int) (st : List MV) (μ : MM) (G : MG) : ev 15 20 [a0, a1, a2, a3] (vR x :: st) μ G = if gk G x = 0 then ev 15 23 [a0, a1, a2, a3] (vI (μ x 1) :: st) μ G else none := ev_if pg_15_20 rfl
theorem pg_15_23 : mm_prog 15 23 = some (0, .sipush 128, 26, []) := by decide +kernel
theorem xe_15_23 (a0 a1 a2 a3 : Option MV) (st : List MV) (μ : MM) (G : MG) : ev 15 23 [a0, a1, a2, a3] st μ G = ev 15 26 [a0, a1, a2, a3] (vI (128) :: st) μ G := ev_stp pg_15_23 rfl
theorem pg_15_26 : mm_prog 15 26 = some (0, .irem, 27, []) := by decide +kernel
theorem xe_15_26 (a0 a1 a2 a3 : Option MV) (x y : Int) (st : List MV) (μ : MM) (G : MG) : ev 15 26 [a0, a1, a2, a3] (vI y :: vI x :: st) μ G = if y = 0 then none else ev 15 27 [a0, a1, a2, a3] (vI (mm_rem x y) :: st) μ G := ev_no pg_15_26 rfl
theorem pg_15_27 : mm_prog 15 27 = some (0, .ifCond .ne 13, 30, []) := by decide +kernel
theorem xe_15_27 (a0 a1 a2 a3 : Option MV) (x : Int) (st : List MV) (μ : MM) (G : MG) : ev 15 27 [a0, a1, a2, a3] (vI x :: st) μ G = if ¬ x = 0 then ev 15 40 [a0, a1, a2, a3] st μ G else ev 15 30 [a0, a1, a2, a3] st μ G := ev_br (mm_cnd_ne x 0) pg_15_27 rfl
theorem pg_15_30 : mm_prog 15 30 = some (0, .iload_n 2, 31, []) := by decide +kernel
theorem xe_15_30 (a0 a1 a3 : Option MV) (x : Int) (st : List MV) (μ : MM) (G : MG) : ev 15 30 [a0, a1, some (vI x), a3] st μ G = ev 15 31 [a0, a1, some (vI x), a3] (vI x :: st) μ G := ev_stp pg_15_30 rfl
theorem pg_15_31 : mm_prog 15 31 = some (0, .iconst 1, 32, []) := by decide +kernel
theorem xe_15_31 (a0 a1 a2 a3 : Option MV) (st : List MV) (μ : MM) (G : MG) : ev 15 31 [a0, a1, a2, a3] st μ G = ev 15 32 [a0, a1, a2, a3] (vI (1) :: st) μ G := ev_stp pg_15_31 rfl
theorem pg_15_32 : mm_prog 15 32 = some (0, .if_icmp .lt 8, 35, []) := by decide +kernel
theorem xe_15_32 (a0 a1 a2 a3 : Option MV) (x y : Int) (st : List MV) (μ : MM) (G : MG) : ev 15 32 [a0, a1, a2, a3] (vI y :: vI x :: st) μ G = if x < y then ev 15 40 [a0, a1, a2, a3] st μ G else ev 15 35 [a0, a1, a2, a3] st μ G := ev_br (mm_cnd_lt x y) pg_15_32 rfl
theorem pg_15_35 : mm_prog 15 35 = some (0, .iload_n 2, 36, []) := by decide +kernel
theorem xe_15_35 (a0 a1 a3 : Option MV) (x : Int) (st : List MV) (μ : MM) (G : MG) : ev 15 35 [a0, a1, some (vI x), a3] st μ G = ev 15 36 [a0, a1, some (vI x), a3] (vI x :: st) μ G := ev_stp pg_15_35 rfl
theorem pg_15_36 : mm_prog 15 36 = some (0, .iconst 4, 37, []) := by decide +kernel
theorem xe_15_36 (a0 a1 a2 a3 : Option MV) (st : List MV) (μ : MM) (G : MG) : ev 15 36 [a0, a1, a2, a3] st μ G = ev 15 37 [a0, a1, a2, a3] (vI (4) :: st) μ G := ev_stp pg_15_36 rfl
theorem pg_15_37 : mm_prog 15 37 = some (0, .if_icmp .le 13, 40, []) := by decide +kernel
theorem xe_15_37 (a0 a1 a2 a3 : Option MV) (x y : Int) (st : List MV) (μ : MM) (G : MG) : ev 15 37 [a0, a1, a2, a3] (vI y :: vI x :: st) μ G = if x ≤ y then ev 15 50 [a0, a1, a2, a3] st μ G else ev 15 40 [a0, a1, a2, a3] st μ G := ev_br (mm_cnd_le x y) pg_15_37 rfl
theorem pg_15_40 : mm_prog 15 40 = some (0, .aload_n 0, 41, []) := by decide +kernel
theorem xe_15_40 (a1 a2 a3 : Option MV) (x : Int) (st : List MV) (μ : MM) (G : MG) : ev 15 40 [some (vR x), a1, a2, a3] st μ G = ev 15 41 [some (vR x), a1, a2, a3] (vR x :: st) μ G := ev_stp pg_15_40 rfl
theorem pg_15_41 : mm_prog 15 41 = some (0, .iconst 1, 42, []) := by decide +kernel
theorem xe_15_41 (a0 a1 a2 a3 : Option MV) (st : List MV) (μ : MM) (G : MG) : ev 15 41 [a0, a1, a2, a3] st μ G = ev 15 42 [a0, a1, a2, a3] (vI (1) :: st) μ G := ev_stp pg_15_41 rfl
theorem pg_15_42 : mm_prog 15 42 = some (0, .aload_n 1, 43, []) := by decide +kernel
theorem xe_15_42 (a0 a2 a3 : Option MV) (x : Int) (st : List MV) (μ : MM) (G : MG) : ev 15 42 [a0, some (vR x), a2, a3] st μ G = ev 15 43 [a0, some (vR x), a2, a3] (vR x :: st) μ G := ev_stp pg_15_42 rfl
theorem pg_15_43 : mm_prog 15 43 = some (0, .getfield 18, 46, [0, 1, 0]) := by decide +kernel
theorem xe_15_43 (a0 a1 a2 a3 : Option MV) (x : Int) (st : List MV) (μ : MM) (G : MG) : ev 15 43 [a0, a1, a2, a3] (vR x :: st) μ G = if gk G x = 0 then ev 15 46 [a0, a1, a2, a3] (vI (μ x 1) :: st) μ G else none := ev_if pg_15_43 rfl
theorem pg_15_46 : mm_prog 15 46 = some (1, .invokevirtual 23, 49, [1, 16, 2, 2]) := by decide +kernel
theorem xe_15_46 (a0 a1 a2 a3 : Option MV) (x0 x1 z : Int) (μ : MM) (G : MG) : ev 15 46 [a0, a1, a2, a3] (vI x1 :: vI x0 :: vR z :: []) μ G = if gk G z = 2 ∧ 0 < z then (ev 16 0 [some (vR z), some (vI x0), some (vI x1)] [] μ G).bind (fun q => ev 15 49 [a0, a1, a2, a3] (q.1.toList ++ []) q.2.1 q.2.2) else none := ev_calV (as := [vR z, vI x0, vI x1]) (r := []) mx_16 pg_15_46 rfl rfl (Nat.le_of_ble_eq_true rfl) (Nat.le_of_ble_eq_true rfl)
theorem pg_15_49 : mm_prog 15 49 = some (2, .return_, 50, []) := by decide +kernel
theorem xe_15_49 (a0 a1 a2 a3 : Option MV) (μ : MM) (G : MG) : ev 15 49 [a0, a1, a2, a3] [] μ G = some (none, μ, G) := ev_ret pg_15_49 rfl
theorem pg_15_50 : mm_prog 15 50 = some (0, .iconst 0, 51, []) := by decide +kernel
theorem xe_15_50 (a0 a1 a2 a3 : Option MV) (st : List MV) (μ : MM) (G : MG) : ev 15 50 [a0, a1, a2, a3] st μ G = ev 15 51 [a0, a1, a2, a3] (vI (0) :: st) μ G := ev_stp pg_15_50 rfl
theorem pg_15_51 : mm_prog 15 51 = some (0, .istore_n 3, 52, []) := by decide +kernel
theorem xe_15_51 (a0 a1 a2 a3 : Option MV) (x : Int) (st : List MV) (μ : MM) (G : MG) (h : mm_nL a2 = true) : ev 15 51 [a0, a1, a2, a3] (vI x :: st) μ G = ev 15 52 [a0, a1, a2, some (vI x)] st μ G := ev_st pg_15_51 rfl (mm_nl_of h) (Nat.le_of_ble_eq_true rfl)
theorem pg_15_52 : mm_prog 15 52 = some (0, .iload_n 3, 53, []) := by decide +kernel
theorem xe_15_52 (a0 a1 a2 : Option MV) (x : Int) (st : List MV) (μ : MM) (G : MG) : ev 15 52 [a0, a1, a2, some (vI x)] st μ G = ev 15 53 [a0, a1, a2, some (vI x)] (vI x :: st) μ G := ev_stp pg_15_52 rfl
theorem pg_15_53 : mm_prog 15 53 = some (0, .iload_n 2, 54, []) := by decide +kernel
theorem xe_15_53 (a0 a1 a3 : Option MV) (x : Int) (st : List MV) (μ : MM) (G : MG) : ev 15 53 [a0, a1, some (vI x), a3] st μ G = ev 15 54 [a0, a1, some (vI x), a3] (vI x :: st) μ G := ev_stp pg_15_53 rfl
theorem pg_15_54 : mm_prog 15 54 = some (0, .if_icmp .ge 36, 57, []) := by decide +kernel
theorem xe_15_54 (a0 a1 a2 a3 : Option MV) (x y : Int) (st : List MV) (μ : MM) (G : MG) : ev 15 54 [a0, a1, a2, a3] (vI y :: vI x :: st) μ G = if y ≤ x then ev 15 90 [a0, a1, a2, a3] st μ G else ev 15 57 [a0, a1, a2, a3] st μ G := ev_br (mm_cnd_ge x y) pg_15_54 rfl
theorem pg_15_57 : mm_prog 15 57 = some (0, .aload_n 0, 58, []) := by decide +kernel
theorem xe_15_57 (a1 a2 a3 : Option MV) (x : Int) (st : List MV) (μ : MM) (G : MG) : ev 15 57 [some (vR x), a1, a2, a3] st μ G = ev 15 58 [some (vR x), a1, a2, a3] (vR x :: st) μ G := ev_stp pg_15_57 rfl
theorem pg_15_58 : mm_prog 15 58 = some (0, .aload_n 1, 59, []) := by decide +kernel
theorem xe_15_58 (a0 a2 a3 : Option MV) (x : Int) (st : List MV) (μ : MM) (G : MG) : ev 15 58 [a0, some (vR x), a2, a3] st μ G = ev 15 59 [a0, some (vR x), a2, a3] (vR x :: st) μ G := ev_stp pg_15_58 rfl
theorem pg_15_59 : mm_prog 15 59 = some (0, .iload_n 3, 60, []) := by decide +kernel
theorem xe_15_59 (a0 a1 a2 : Option MV) (x : Int) (st : List MV) (μ : MM) (G : MG) : ev 15 59 [a0, a1, a2, some (vI x)] st μ G = ev 15 60 [a0, a1, a2, some (vI x)] (vI x :: st) μ G := ev_stp pg_15_59 rfl
theorem pg_15_60 : mm_prog 15 60 = some (1, .invokevirtual 27, 63, [1, 17, 2, 2]) := by decide +kernel
theorem xe_15_60 (a0 a1 a2 a3 : Option MV) (x0 x1 z : Int) (μ : MM) (G : MG) : ev 15 60 [a0, a1, a2, a3] (vI x1 :: vR x0 :: vR z :: []) μ G = if gk G z = 2 ∧ 0 < z then (ev 17 0 [some (vR z), some (vR x0), some (vI x1), none] [] μ G).bind (fun q => ev 15 63 [a0, a1, a2, a3] (q.1.toList ++ []) q.2.1 q.2.2) else none := ev_calV (as := [vR z, vR x0, vI x1]) (r := []) mx_17 pg_15_60 rfl rfl (Nat.le_of_ble_eq_true rfl) (Nat.le_of_ble_eq_true rfl)
theorem pg_15_63 : mm_prog 15 63 = some (0, .aload_n 1, 64, []) := by decide +kernel
theorem xe_15_63 (a0 a2 a3 : Option MV) (x : Int) (st : List MV) (μ : MM) (G : MG) : ev 15 63 [a0, some (vR x), a2, a3] st μ G = ev 15 64 [a0, some (vR x), a2, a3] (vR x :: st) μ G := ev_stp pg_15_63 rfl
theorem pg_15_64 : mm_prog 15 64 = some (0, .iload_n 3, 65, []) := by decide +kernel
theorem xe_15_64 (a0 a1 a2 : Option MV) (x : Int) (st : List MV) (μ : MM) (G : MG) : ev 15 64 [a0, a1, a2, some (vI x)] st μ G = ev 15 65 [a0, a1, a2, some (vI x)] (vI x :: st) μ G := ev_stp pg_15_64 rfl
theorem pg_15_65 : mm_prog 15 65 = some (1, .invokevirtual 31, 68, [1, 5, 1, 0]) := by decide +kernel
theorem xe_15_65 (a0 a1 a2 a3 : Option MV) (x0 z : Int) (μ : MM) (G : MG) : ev 15 65 [a0, a1, a2, a3] (vI x0 :: vR z :: []) μ G = if gk G z = 0 ∧ 0 < z then (ev 5 0 [some (vR z), some (vI x0), none, none] [] μ G).bind (fun q => ev 15 68 [a0, a1, a2, a3] (q.1.toList ++ []) q.2.1 q.2.2) else none := ev_calV (as := [vR z, vI x0]) (r := []) mx_5 pg_15_65 rfl rfl (Nat.le_of_ble_eq_true rfl) (Nat.le_of_ble_eq_true rfl)
theorem pg_15_68 : mm_prog 15 68 = some (0, .ifCond .eq 16, 71, []) := by decide +kernel
theorem xe_15_68 (a0 a1 a2 a3 : Option MV) (x : Int) (st : List MV) (μ : MM) (G : MG) : ev 15 68 [a0, a1, a2, a3] (vI x :: st) μ G = if x = 0 then ev 15 84 [a0, a1, a2, a3] st μ G else ev 15 71 [a0, a1, a2, a3] st μ G := ev_br (mm_cnd_eq x 0) pg_15_68 rfl
theorem pg_15_71 : mm_prog 15 71 = some (0, .aload_n 0, 72, []) := by decide +kernel
theorem xe_15_71 (a1 a2 a3 : Option MV) (x : Int) (st : List MV) (μ : MM) (G : MG) : ev 15 71 [some (vR x), a1, a2, a3] st μ G = ev 15 72 [some (vR x), a1, a2, a3] (vR x :: st) μ G := ev_stp pg_15_71 rfl
theorem pg_15_72 : mm_prog 15 72 = some (0, .iconst 3, 73, []) := by decide +kernel
theorem xe_15_72 (a0 a1 a2 a3 : Option MV) (st : List MV) (μ : MM) (G : MG) : ev 15 72 [a0, a1, a2, a3] st μ G = ev 15 73 [a0, a1, a2, a3] (vI (3) :: st) μ G := ev_stp pg_15_72 rfl
theorem pg_15_73 : mm_prog 15 73 = some (0, .iload_n 3, 74, []) := by decide +kernel
theorem xe_15_73 (a0 a1 a2 : Option MV) (x : Int) (st : List MV) (μ : MM) (G : MG) : ev 15 73 [a0, a1, a2, some (vI x)] st μ G = ev 15 74 [a0, a1, a2, some (vI x)] (vI x :: st) μ G := ev_stp pg_15_73 rfl
theorem pg_15_74 : mm_prog 15 74 = some (0, .sipush 128, 77, []) := by decide +kernel
theorem xe_15_74 (a0 a1 a2 a3 : Option MV) (st : List MV) (μ : MM) (G : MG) : ev 15 74 [a0, a1, a2, a3] st μ G = ev 15 77 [a0, a1, a2, a3] (vI (128) :: st) μ G := ev_stp pg_15_74 rfl
theorem pg_15_77 : mm_prog 15 77 = some (0, .imul, 78, []) := by decide +kernel
theorem xe_15_77 (a0 a1 a2 a3 : Option MV) (x y : Int) (st : List MV) (μ : MM) (G : MG) : ev 15 77 [a0, a1, a2, a3] (vI y :: vI x :: st) μ G = ev 15 78 [a0, a1, a2, a3] (vI (w32 (x * y)) :: st) μ G := ev_stp pg_15_77 rfl
theorem pg_15_78 : mm_prog 15 78 = some (0, .bipush 127, 80, []) := by decide +kernel
theorem xe_15_78 (a0 a1 a2 a3 : Option MV) (st : List MV) (μ : MM) (G : MG) : ev 15 78 [a0, a1, a2, a3] st μ G = ev 15 80 [a0, a1, a2, a3] (vI (127) :: st) μ G := ev_stp pg_15_78 rfl
theorem pg_15_80 : mm_prog 15 80 = some (0, .iadd, 81, []) := by decide +kernel
theorem xe_15_80 (a0 a1 a2 a3 : Option MV) (x y : Int) (st : List MV) (μ : MM) (G : MG) : ev 15 80 [a0, a1, a2, a3] (vI y :: vI x :: st) μ G = ev 15 81 [a0, a1, a2, a3] (vI (w32 (x + y)) :: st) μ G := ev_stp pg_15_80 rfl
theorem pg_15_81 : mm_prog 15 81 = some (1, .invokevirtual 23, 84, [1, 16, 2, 2]) := by decide +kernel
theorem xe_15_81 (a0 a1 a2 a3 : Option MV) (x0 x1 z : Int) (μ : MM) (G : MG) : ev 15 81 [a0, a1, a2, a3] (vI x1 :: vI x0 :: vR z :: []) μ G = if gk G z = 2 ∧ 0 < z then (ev 16 0 [some (vR z), some (vI x0), some (vI x1)] [] μ G).bind (fun q => ev 15 84 [a0, a1, a2, a3] (q.1.toList ++ []) q.2.1 q.2.2) else none := ev_calV (as := [vR z, vI x0, vI x1]) (r := []) mx_16 pg_15_81 rfl rfl (Nat.le_of_ble_eq_true rfl) (Nat.le_of_ble_eq_true rfl)
theorem pg_15_84 : mm_prog 15 84 = some (0, .iinc 3 1, 87, []) := by decide +kernel
theorem xe_15_84 (a0 a1 a2 : Option MV) (x : Int) (st : List MV) (μ : MM) (G : MG) (h : mm_nL a2 = true) : ev 15 84 [a0, a1, a2, some (vI x)] st μ G = ev 15 87 [a0, a1, a2, some (vI (w32 (x + (1))))] st μ G := ev_st pg_15_84 rfl (mm_nl_of h) (Nat.le_of_ble_eq_true rfl)
theorem pg_15_87 : mm_prog 15 87 = some (0, .goto (-35), 90, []) := by decide +kernel
theorem xe_15_87 (a0 a1 a2 a3 : Option MV) (st : List MV) (μ : MM) (G : MG) : ev 15 87 [a0, a1, a2, a3] st μ G = ev 15 52 [a0, a1, a2, a3] st μ G := ev_stp pg_15_87 rfl
theorem pg_15_90 : mm_prog 15 90 = some (0, .aload_n 1, 91, []) := by decide +kernel
theorem xe_15_90 (a0 a2 a3 : Option MV) (x : Int) (st : List MV) (μ : MM) (G : MG) : ev 15 90 [a0, some (vR x), a2, a3] st μ G = ev 15 91 [a0, some (vR x), a2, a3] (vR x :: st) μ G := ev_stp pg_15_90 rfl
theorem pg_15_91 : mm_prog 15 91 = some (0, .bipush 18, 93, []) := by decide +kernel
theorem xe_15_91 (a0 a1 a2 a3 : Option MV) (st : List MV) (μ : MM) (G : MG) : ev 15 91 [a0, a1, a2, a3] st μ G = ev 15 93 [a0, a1, a2, a3] (vI (18) :: st) μ G := ev_stp pg_15_91 rfl
theorem pg_15_93 : mm_prog 15 93 = some (1, .invokevirtual 35, 96, [1, 3, 1, 0]) := by decide +kernel
theorem xe_15_93 (a0 a1 a2 a3 : Option MV) (x0 z : Int) (μ : MM) (G : MG) : ev 15 93 [a0, a1, a2, a3] (vI x0 :: vR z :: []) μ G = if gk G z = 0 ∧ 0 < z then (ev 3 0 [some (vR z), some (vI x0)] [] μ G).bind (fun q => ev 15 96 [a0, a1, a2, a3] (q.1.toList ++ []) q.2.1 q.2.2) else none := ev_calV (as := [vR z, vI x0]) (r := []) mx_3 pg_15_93 rfl rfl (Nat.le_of_ble_eq_true rfl) (Nat.le_of_ble_eq_true rfl)
theorem pg_15_96 : mm_prog 15 96 = some (0, .iconst 1, 97, []) := by decide +kernel
theorem xe_15_96 (a0 a1 a2 a3 : Option MV) (st : List MV) (μ : MM) (G : MG) : ev 15 96 [a0, a1, a2, a3] st μ G = ev 15 97 [a0, a1, a2, a3] (vI (1) :: st) μ G := ev_stp pg_15_96 rfl
theorem pg_15_97 : mm_prog 15 97 = some (0, .if_icmp .eq 10, 100, []) := by decide +kernel
theorem xe_15_97 (a0 a1 a2 a3 : Option MV) (x y : Int) (st : List MV) (μ : MM) (G : MG) : ev 15 97 [a0, a1, a2, a3] (vI y :: vI x :: st) μ G = if x = y then ev 15 107 [a0, a1, a2, a3] st μ G else ev 15 100 [a0, a1, a2, a3] st μ G := ev_br (mm_cnd_eq x y) pg_15_97 rfl
theorem pg_15_100 : mm_prog 15 100 = some (0, .aload_n 0, 101, []) := by decide +kernel
theorem xe_15_100 (a1 a2 a3 : Option MV) (x : Int) (st : List MV) (μ : MM) (G : MG) : ev 15 100 [some (vR x), a1, a2, a3] st μ G = ev 15 101 [some (vR x), a1, a2, a3] (vR x :: st) μ G := ev_stp pg_15_100 rfl
theorem pg_15_101 : mm_prog 15 101 = some (0, .iconst 4, 102, []) := by decide +kernel
theorem xe_15_101 (a0 a1 a2 a3 : Option MV) (st : List MV) (μ : MM) (G : MG) : ev 15 101 [a0, a1, a2, a3] st μ G = ev 15 102 [a0, a1, a2, a3] (vI (4) :: st) μ G := ev_stp pg_15_101 rfl
theorem pg_15_102 : mm_prog 15 102 = some (0, .bipush 18, 104, []) := by decide +kernel
theorem xe_15_102 (a0 a1 a2 a3 : Option MV) (st : List MV) (μ : MM) (G : MG) : ev 15 102 [a0, a1, a2, a3] st μ G = ev 15 104 [a0, a1, a2, a3] (vI (18) :: st) μ G := ev_stp pg_15_102 rfl
theorem pg_15_104 : mm_prog 15 104 = some (1, .invokevirtual 23, 107, [1, 16, 2, 2]) := by decide +kernel
theorem xe_15_104 (a0 a1 a2 a3 : Option MV) (x0 x1 z : Int) (μ : MM) (G : MG) : ev 15 104 [a0, a1, a2, a3] (vI x1 :: vI x0 :: vR z :: []) μ G = if gk G z = 2 ∧ 0 < z then (ev 16 0 [some (vR z), some (vI x0), some (vI x1)] [] μ G).bind (fun q => ev 15 107 [a0, a1, a2, a3] (q.1.toList ++ []) q.2.1 q.2.2) else none := ev_calV (as := [vR z, vI x0, vI x1]) (r := []) mx_16 pg_15_104 rfl rfl (Nat.le_of_ble_eq_true rfl) (Nat.le_of_ble_eq_true rfl)
theorem pg_15_107 : mm_prog 15 107 = some (0, .aload_n 1, 108, []) := by decide +kernel
theorem xe_15_107 (a0 a2 a3 : Option MV) (x : Int) (st : List MV) (μ : MM) (G : MG) : ev 15 107 [a0, some (vR x), a2, a3] st μ G = ev 15 108 [a0, some (vR x), a2, a3] (vR x :: st) μ G := ev_stp pg_15_107 rfl
theorem pg_15_108 : mm_prog 15 108 = some (0, .bipush 126, 110, []) := by decide +kernel
theorem xe_15_108 (a0 a1 a2 a3 : Option MV) (st : List MV) (μ : MM) (G : MG) : ev 15 108 [a0, a1, a2, a3] st μ G = ev 15 110 [a0, a1, a2, a3] (vI (126) :: st) μ G := ev_stp pg_15_108 rfl
theorem pg_15_110 : mm_prog 15 110 = some (1, .invokevirtual 35, 113, [1, 3, 1, 0]) := by decide +kernel
theorem xe_15_110 (a0 a1 a2 a3 : Option MV) (x0 z : Int) (μ : MM) (G : MG) : ev 15 110 [a0, a1, a2, a3] (vI x0 :: vR z :: []) μ G = if gk G z = 0 ∧ 0 < z then (ev 3 0 [some (vR z), some (vI x0)] [] μ G).bind (fun q => ev 15 113 [a0, a1, a2, a3] (q.1.toList ++ []) q.2.1 q.2.2) else none := ev_calV (as := [vR z, vI x0]) (r := []) mx_3 pg_15_110 rfl rfl (Nat.le_of_ble_eq_true rfl) (Nat.le_of_ble_eq_true rfl)
theorem pg_15_113 : mm_prog 15 113 = some (0, .iload_n 2, 114, []) := by decide +kernel
theorem xe_15_113 (a0 a1 a3 : Option MV) (x : Int) (st : List MV) (μ : MM) (G : MG) : ev 15 113 [a0, a1, some (vI x), a3] st μ G = ev 15 114 [a0, a1, some (vI x), a3] (vI x :: st) μ G := ev_stp pg_15_113 rfl
theorem pg_15_114 : mm_prog 15 114 = some (0, .iconst 1, 115, []) := by decide +kernel
theorem xe_15_114 (a0 a1 a2 a3 : Option MV) (st : List MV) (μ : MM) (G : MG) : ev 15 114 [a0, a1, a2, a3] st μ G = ev 15 115 [a0, a1, a2, a3] (vI (1) :: st) μ G := ev_stp pg_15_114 rfl
theorem pg_15_115 : mm_prog 15 115 = some (0, .isub, 116, []) := by decide +kernel
theorem xe_15_115 (a0 a1 a2 a3 : Option MV) (x y : Int) (st : List MV) (μ : MM) (G : MG) : ev 15 115 [a0, a1, a2, a3] (vI y :: vI x :: st) μ G = ev 15 116 [a0, a1, a2, a3] (vI (w32 (x - y)) :: st) μ G := ev_stp pg_15_115 rfl
theorem pg_15_116 : mm_prog 15 116 = some (0, .if_icmp .eq 10, 119, []) := by decide +kernel
theorem xe_15_116 (a0 a1 a2 a3 : Option MV) (x y : Int) (st : List MV) (μ : MM) (G : MG) : ev 15 116 [a0, a1, a2, a3] (vI y :: vI x :: st) μ G = if x = y then ev 15 126 [a0, a1, a2, a3] st μ G else ev 15 119 [a0, a1, a2, a3] st μ G := ev_br (mm_cnd_eq x y) pg_15_116 rfl
theorem pg_15_119 : mm_prog 15 119 = some (0, .aload_n 0, 120, []) := by decide +kernel
theorem xe_15_119 (a1 a2 a3 : Option MV) (x : Int) (st : List MV) (μ : MM) (G : MG) : ev 15 119 [some (vR x), a1, a2, a3] st μ G = ev 15 120 [some (vR x), a1, a2, a3] (vR x :: st) μ G := ev_stp pg_15_119 rfl
theorem pg_15_120 : mm_prog 15 120 = some (0, .iconst 5, 121, []) := by decide +kernel
theorem xe_15_120 (a0 a1 a2 a3 : Option MV) (st : List MV) (μ : MM) (G : MG) : ev 15 120 [a0, a1, a2, a3] st μ G = ev 15 121 [a0, a1, a2, a3] (vI (5) :: st) μ G := ev_stp pg_15_120 rfl
theorem pg_15_121 : mm_prog 15 121 = some (0, .bipush 126, 123, []) := by decide +kernel
theorem xe_15_121 (a0 a1 a2 a3 : Option MV) (st : List MV) (μ : MM) (G : MG) : ev 15 121 [a0, a1, a2, a3] st μ G = ev 15 123 [a0, a1, a2, a3] (vI (126) :: st) μ G := ev_stp pg_15_121 rfl
theorem pg_15_123 : mm_prog 15 123 = some (1, .invokevirtual 23, 126, [1, 16, 2, 2]) := by decide +kernel
theorem xe_15_123 (a0 a1 a2 a3 : Option MV) (x0 x1 z : Int) (μ : MM) (G : MG) : ev 15 123 [a0, a1, a2, a3] (vI x1 :: vI x0 :: vR z :: []) μ G = if gk G z = 2 ∧ 0 < z then (ev 16 0 [some (vR z), some (vI x0), some (vI x1)] [] μ G).bind (fun q => ev 15 126 [a0, a1, a2, a3] (q.1.toList ++ []) q.2.1 q.2.2) else none := ev_calV (as := [vR z, vI x0, vI x1]) (r := []) mx_16 pg_15_123 rfl rfl (Nat.le_of_ble_eq_true rfl) (Nat.le_of_ble_eq_true rfl)
theorem pg_15_126 : mm_prog 15 126 = some (0, .iconst 1, 127, []) := by decide +kernel
theorem xe_15_126 (a0 a1 a2 a3 : Option MV) (st : List MV) (μ : MM) (G : MG) : ev 15 126 [a0, a1, a2, a3] st μ G = ev 15 127 [a0, a1, a2, a3] (vI (1) :: st) μ G := ev_stp pg_15_126 rfl
theorem pg_15_127 : mm_prog 15 127 = some (0, .istore_n 3, 128, []) := by decide +kernel
theorem xe_15_127 (a0 a1 a2 a3 : Option MV) (x : Int) (st : List MV) (μ : MM) (G : MG) (h : mm_nL a2 = true) : ev 15 127 [a0, a1, a2, a3] (vI x :: st) μ G = ev 15 128 [a0, a1, a2, some (vI x)] st μ G := ev_st pg_15_127 rfl (mm_nl_of h) (Nat.le_of_ble_eq_true rfl)
theorem pg_15_128 : mm_prog 15 128 = some (0, .iload_n 3, 129, []) := by decide +kernel
theorem xe_15_128 (a0 a1 a2 : Option MV) (x : Int) (st : List MV) (μ : MM) (G : MG) : ev 15 128 [a0, a1, a2, some (vI x)] st μ G = ev 15 129 [a0, a1, a2, some (vI x)] (vI x :: st) μ G := ev_stp pg_15_128 rfl
theorem pg_15_129 : mm_prog 15 129 = some (0, .iload_n 2, 130, []) := by decide +kernel
theorem xe_15_129 (a0 a1 a3 : Option MV) (x : Int) (st : List MV) (μ : MM) (G : MG) : ev 15 129 [a0, a1, some (vI x), a3] st μ G = ev 15 130 [a0, a1, some (vI x), a3] (vI x :: st) μ G := ev_stp pg_15_129 rfl
theorem pg_15_130 : mm_prog 15 130 = some (0, .if_icmp .ge 19, 133, []) := by decide +kernel
theorem xe_15_130 (a0 a1 a2 a3 : Option MV) (x y : Int) (st : List MV) (μ : MM) (G : MG) : ev 15 130 [a0, a1, a2, a3] (vI y :: vI x :: st) μ G = if y ≤ x then ev 15 149 [a0, a1, a2, a3] st μ G else ev 15 133 [a0, a1, a2, a3] st μ G := ev_br (mm_cnd_ge x y) pg_15_130 rfl
theorem pg_15_133 : mm_prog 15 133 = some (0, .aload_n 0, 134, []) := by decide +kernel
theorem xe_15_133 (a1 a2 a3 : Option MV) (x : Int) (st : List MV) (μ : MM) (G : MG) : ev 15 133 [some (vR x), a1, a2, a3] st μ G = ev 15 134 [some (vR x), a1, a2, a3] (vR x :: st) μ G := ev_stp pg_15_133 rfl
theorem pg_15_134 : mm_prog 15 134 = some (0, .aload_n 1, 135, []) := by decide +kernel
theorem xe_15_134 (a0 a2 a3 : Option MV) (x : Int) (st : List MV) (μ : MM) (G : MG) : ev 15 134 [a0, some (vR x), a2, a3] st μ G = ev 15 135 [a0, some (vR x), a2, a3] (vR x :: st) μ G := ev_stp pg_15_134 rfl
theorem pg_15_135 : mm_prog 15 135 = some (0, .iload_n 3, 136, []) := by decide +kernel
theorem xe_15_135 (a0 a1 a2 : Option MV) (x : Int) (st : List MV) (μ : MM) (G : MG) : ev 15 135 [a0, a1, a2, some (vI x)] st μ G = ev 15 136 [a0, a1, a2, some (vI x)] (vI x :: st) μ G := ev_stp pg_15_135 rfl
theorem pg_15_136 : mm_prog 15 136 = some (0, .sipush 128, 139, []) := by decide +kernel
theorem xe_15_136 (a0 a1 a2 a3 : Option MV) (st : List MV) (μ : MM) (G : MG) : ev 15 136 [a0, a1, a2, a3] st μ G = ev 15 139 [a0, a1, a2, a3] (vI (128) :: st) μ G := ev_stp pg_15_136 rfl
theorem pg_15_139 : mm_prog 15 139 = some (0, .imul, 140, []) := by decide +kernel
theorem xe_15_139 (a0 a1 a2 a3 : Option MV) (x y : Int) (st : List MV) (μ : MM) (G : MG) : ev 15 139 [a0, a1, a2, a3] (vI y :: vI x :: st) μ G = ev 15 140 [a0, a1, a2, a3] (vI (w32 (x * y)) :: st) μ G := ev_stp pg_15_139 rfl
theorem pg_15_140 : mm_prog 15 140 = some (1, .invokevirtual 38, 143, [1, 18, 2, 2]) := by decide +kernel
theorem xe_15_140 (a0 a1 a2 a3 : Option MV) (x0 x1 z : Int) (μ : MM) (G : MG) : ev 15 140 [a0, a1, a2, a3] (vI x1 :: vR x0 :: vR z :: []) μ G = if gk G z = 2 ∧ 0 < z then (ev 18 0 [some (vR z), some (vR x0), some (vI x1), none, none, none] [] μ G).bind (fun q => ev 15 143 [a0, a1, a2, a3] (q.1.toList ++ []) q.2.1 q.2.2) else none := ev_calV (as := [vR z, vR x0, vI x1]) (r := []) mx_18 pg_15_140 rfl rfl (Nat.le_of_ble_eq_true rfl) (Nat.le_of_ble_eq_true rfl)
theorem pg_15_143 : mm_prog 15 143 = some (0, .iinc 3 1, 146, []) := by decide +kernel
theorem xe_15_143 (a0 a1 a2 : Option MV) (x : Int) (st : List MV) (μ : MM) (G : MG) (h : mm_nL a2 = true) : ev 15 143 [a0, a1, a2, some (vI x)] st μ G = ev 15 146 [a0, a1, a2, some (vI (w32 (x + (1))))] st μ G := ev_st pg_15_143 rfl (mm_nl_of h) (Nat.le_of_ble_eq_true rfl)
theorem pg_15_146 : mm_prog 15 146 = some (0, .goto (-18), 149, []) := by decide +kernel
theorem xe_15_146 (a0 a1 a2 a3 : Option MV) (st : List MV) (μ : MM) (G : MG) : ev 15 146 [a0, a1, a2, a3] st μ G = ev 15 128 [a0, a1, a2, a3] st μ G := ev_stp pg_15_146 rfl
theorem pg_15_149 : mm_prog 15 149 = some (2, .return_, 150, []) := by decide +kernel
theorem xe_15_149 (a0 a1 a2 a3 : Option MV) (μ : MM) (G : MG) : ev 15 149 [a0, a1, a2, a3] [] μ G = some (none, μ, G) := ev_ret pg_15_149 rfl
-- X2_note
theorem pg_16_0 : mm_prog 16 0 = some (0, .aload_n 0, 1, []) := by decide +kernel
theorem xe_16_0 (a1 a2 : Option MV) (x : Int) (st : List MV) (μ : MM) (G : MG) : ev 16 0 [some (vR x), a1, a2] st μ G = ev 16 1 [some (vR x), a1, a2] (vR x :: st) μ G := ev_stp pg_16_0 rfl
theorem pg_16_1 : mm_prog 16 1 = some (0, .getfield 15, 4, [2, 0, 0]) := by decide +kernel
theorem xe_16_1 (a0 a1 a2 : Option MV) (x : Int) (st : List MV) (μ : MM) (G : MG) : ev 16 1 [a0, a1, a2] (vR x :: st) μ G = if gk G x = 2 then ev 16 4 [a0, a1, a2] (vI (μ x 0) :: st) μ G else none := ev_if pg_16_1 rfl
theorem pg_16_4 : mm_prog 16 4 = some (0, .ifCond .ne 13, 7, []) := by decide +kernel
theorem xe_16_4 (a0 a1 a2 : Option MV) (x : Int) (st : List MV) (μ : MM) (G : MG) : ev 16 4 [a0, a1, a2] (vI x :: st) μ G = if ¬ x = 0 then ev 16 17 [a0, a1, a2] st μ G else ev 16 7 [a0, a1, a2] st μ G := ev_br (mm_cnd_ne x 0) pg_16_4 rfl
theorem pg_16_7 : mm_prog 16 7 = some (0, .aload_n 0, 8, []) := by decide +kernel
theorem xe_16_7 (a1 a2 : Option MV) (x : Int) (st : List MV) (μ : MM) (G : MG) : ev 16 7 [some (vR x), a1, a2] st μ G = ev 16 8 [some (vR x), a1, a2] (vR x :: st) μ G := ev_stp pg_16_7 rfl
theorem pg_16_8 : mm_prog 16 8 = some (0, .iload_n 1, 9, []) := by decide +kernel
theorem xe_16_8 (a0 a2 : Option MV) (x : Int) (st : List MV) (μ : MM) (G : MG) : ev 16 8 [a0, some (vI x), a2] st μ G = ev 16 9 [a0, some (vI x), a2] (vI x :: st) μ G := ev_stp pg_16_8 rfl
theorem pg_16_9 : mm_prog 16 9 = some (0, .putfield 15, 12, [2, 0, 0]) := by decide +kernel
theorem xe_16_9 (a0 a1 a2 : Option MV) (x y : Int) (st : List MV) (μ : MM) (G : MG) : ev 16 9 [a0, a1, a2] (vI x :: vR y :: st) μ G = if gk G y = 2 then ev 16 12 [a0, a1, a2] st (mset μ y 0 x) G else none := ev_put0 pg_16_9
theorem pg_16_12 : mm_prog 16 12 = some (0, .aload_n 0, 13, []) := by decide +kernel
theorem xe_16_12 (a1 a2 : Option MV) (x : Int) (st : List MV) (μ : MM) (G : MG) : ev 16 12 [some (vR x), a1, a2] st μ G = ev 16 13 [some (vR x), a1, a2] (vR x :: st) μ G := ev_stp pg_16_12 rfl
theorem pg_16_13 : mm_prog 16 13 = some (0, .iload_n 2, 14, []) := by decide +kernel
theorem xe_16_13 (a0 a1 : Option MV) (x : Int) (st : List MV) (μ : MM) (G : MG) : ev 16 13 [a0, a1, some (vI x)] st μ G = ev 16 14 [a0, a1, some (vI x)] (vI x :: st) μ G := ev_stp pg_16_13 rfl
theorem pg_16_14 : mm_prog 16 14 = some (0, .putfield 9, 17, [2, 1, 0]) := by decide +kernel
theorem xe_16_14 (a0 a1 a2 : Option MV) (x y : Int) (st : List MV) (μ : MM) (G : MG) : ev 16 14 [a0, a1, a2] (vI x :: vR y :: st) μ G = if gk G y = 2 then ev 16 17 [a0, a1, a2] st (mset μ y 1 x) G else none := ev_put0 pg_16_14
theorem pg_16_17 : mm_prog 16 17 = some (2, .return_, 18, []) := by decide +kernel
theorem xe_16_17 (a0 a1 a2 : Option MV) (μ : MM) (G : MG) : ev 16 17 [a0, a1, a2] [] μ G = some (none, μ, G) := ev_ret pg_16_17 rfl
-- X2_inspectHead
theorem pg_17_0 : mm_prog 17 0 = some (0, .iload_n 2, 1, []) := by decide +kernel
theorem xe_17_0 (a0 a1 a3 : Option MV) (x : Int) (st : List MV) (μ : MM) (G : MG) : ev 17 0 [a0, a1, some (vI x), a3] st μ G = ev 17 1 [a0, a1, some (vI x), a3] (vI x :: st) μ G := ev_stp pg_17_0 rfl
theorem pg_17_1 : mm_prog 17 1 = some (0, .ifCond .le 27, 4, []) := by decide +kernel
theorem xe_17_1 (a0 a1 a2 a3 : Option MV) (x : Int) (st : List MV) (μ : MM) (G : MG) : ev 17 1 [a0, a1, a2, a3] (vI x :: st) μ G = if x ≤ 0 then ev 17 28 [a0, a1, a2, a3] st μ G else ev 17 4 [a0, a1, a2, a3] st μ G := ev_br (mm_cnd_le x 0) pg_17_1 rfl
theorem pg_17_4 : mm_prog 17 4 = some (0, .aload_n 1, 5, []) := by decide +kernel
theorem xe_17_4 (a0 a2 a3 : Option MV) (x : Int) (st : List MV) (μ : MM) (G : MG) : ev 17 4 [a0, some (vR x), a2, a3] st μ G = ev 17 5 [a0, some (vR x), a2, a3] (vR x :: st) μ G := ev_stp pg_17_4 rfl
theorem pg_17_5 : mm_prog 17 5 = some (0, .iload_n 2, 6, []) := by decide +kernel
theorem xe_17_5 (a0 a1 a3 : Option MV) (x : Int) (st : List MV) (μ : MM) (G : MG) : ev 17 5 [a0, a1, some (vI x), a3] st μ G = ev 17 6 [a0, a1, some (vI x), a3] (vI x :: st) μ G := ev_stp pg_17_5 rfl
theorem pg_17_6 : mm_prog 17 6 = some (0, .sipush 128, 9, []) := by decide +kernel
theorem xe_17_6 (a0 a1 a2 a3 : Option MV) (st : List MV) (μ : MM) (G : MG) : ev 17 6 [a0, a1, a2, a3] st μ G = ev 17 9 [a0, a1, a2, a3] (vI (128) :: st) μ G := ev_stp pg_17_6 rfl
theorem pg_17_9 : mm_prog 17 9 = some (0, .imul, 10, []) := by decide +kernel
theorem xe_17_9 (a0 a1 a2 a3 : Option MV) (x y : Int) (st : List MV) (μ : MM) (G : MG) : ev 17 9 [a0, a1, a2, a3] (vI y :: vI x :: st) μ G = ev 17 10 [a0, a1, a2, a3] (vI (w32 (x * y)) :: st) μ G := ev_stp pg_17_9 rfl
theorem pg_17_10 : mm_prog 17 10 = some (1, .invokevirtual 35, 13, [1, 3, 1, 0]) := by decide +kernel
theorem xe_17_10 (a0 a1 a2 a3 : Option MV) (x0 z : Int) (μ : MM) (G : MG) : ev 17 10 [a0, a1, a2, a3] (vI x0 :: vR z :: []) μ G = if gk G z = 0 ∧ 0 < z then (ev 3 0 [some (vR z), some (vI x0)] [] μ G).bind (fun q => ev 17 13 [a0, a1, a2, a3] (q.1.toList ++ []) q.2.1 q.2.2) else none := ev_calV (as := [vR z, vI x0]) (r := []) mx_3 pg_17_10 rfl rfl (Nat.le_of_ble_eq_true rfl) (Nat.le_of_ble_eq_true rfl)
theorem pg_17_13 : mm_prog 17 13 = some (0, .iconst 2, 14, []) := by decide +kernel
theorem xe_17_13 (a0 a1 a2 a3 : Option MV) (st : List MV) (μ : MM) (G : MG) : ev 17 13 [a0, a1, a2, a3] st μ G = ev 17 14 [a0, a1, a2, a3] (vI (2) :: st) μ G := ev_stp pg_17_13 rfl
theorem pg_17_14 : mm_prog 17 14 = some (0, .if_icmp .eq 13, 17, []) := by decide +kernel
theorem xe_17_14 (a0 a1 a2 a3 : Option MV) (x y : Int) (st : List MV) (μ : MM) (G : MG) : ev 17 14 [a0, a1, a2, a3] (vI y :: vI x :: st) μ G = if x = y then ev 17 27 [a0, a1, a2, a3] st μ G else ev 17 17 [a0, a1, a2, a3] st μ G := ev_br (mm_cnd_eq x y) pg_17_14 rfl
theorem pg_17_17 : mm_prog 17 17 = some (0, .aload_n 0, 18, []) := by decide +kernel
theorem xe_17_17 (a1 a2 a3 : Option MV) (x : Int) (st : List MV) (μ : MM) (G : MG) : ev 17 17 [some (vR x), a1, a2, a3] st μ G = ev 17 18 [some (vR x), a1, a2, a3] (vR x :: st) μ G := ev_stp pg_17_17 rfl
theorem pg_17_18 : mm_prog 17 18 = some (0, .iconst 2, 19, []) := by decide +kernel
theorem xe_17_18 (a0 a1 a2 a3 : Option MV) (st : List MV) (μ : MM) (G : MG) : ev 17 18 [a0, a1, a2, a3] st μ G = ev 17 19 [a0, a1, a2, a3] (vI (2) :: st) μ G := ev_stp pg_17_18 rfl
theorem pg_17_19 : mm_prog 17 19 = some (0, .iload_n 2, 20, []) := by decide +kernel
theorem xe_17_19 (a0 a1 a3 : Option MV) (x : Int) (st : List MV) (μ : MM) (G : MG) : ev 17 19 [a0, a1, some (vI x), a3] st μ G = ev 17 20 [a0, a1, some (vI x), a3] (vI x :: st) μ G := ev_stp pg_17_19 rfl
theorem pg_17_20 : mm_prog 17 20 = some (0, .sipush 128, 23, []) := by decide +kernel
theorem xe_17_20 (a0 a1 a2 a3 : Option MV) (st : List MV) (μ : MM) (G : MG) : ev 17 20 [a0, a1, a2, a3] st μ G = ev 17 23 [a0, a1, a2, a3] (vI (128) :: st) μ G := ev_stp pg_17_20 rfl
theorem pg_17_23 : mm_prog 17 23 = some (0, .imul, 24, []) := by decide +kernel
theorem xe_17_23 (a0 a1 a2 a3 : Option MV) (x y : Int) (st : List MV) (μ : MM) (G : MG) : ev 17 23 [a0, a1, a2, a3] (vI y :: vI x :: st) μ G = ev 17 24 [a0, a1, a2, a3] (vI (w32 (x * y)) :: st) μ G := ev_stp pg_17_23 rfl
theorem pg_17_24 : mm_prog 17 24 = some (1, .invokevirtual 23, 27, [1, 16, 2, 2]) := by decide +kernel
theorem xe_17_24 (a0 a1 a2 a3 : Option MV) (x0 x1 z : Int) (μ : MM) (G : MG) : ev 17 24 [a0, a1, a2, a3] (vI x1 :: vI x0 :: vR z :: []) μ G = if gk G z = 2 ∧ 0 < z then (ev 16 0 [some (vR z), some (vI x0), some (vI x1)] [] μ G).bind (fun q => ev 17 27 [a0, a1, a2, a3] (q.1.toList ++ []) q.2.1 q.2.2) else none := ev_calV (as := [vR z, vI x0, vI x1]) (r := []) mx_16 pg_17_24 rfl rfl (Nat.le_of_ble_eq_true rfl) (Nat.le_of_ble_eq_true rfl)
theorem pg_17_27 : mm_prog 17 27 = some (2, .return_, 28, []) := by decide +kernel
theorem xe_17_27 (a0 a1 a2 a3 : Option MV) (μ : MM) (G : MG) : ev 17 27 [a0, a1, a2, a3] [] μ G = some (none, μ, G) := ev_ret pg_17_27 rfl
theorem pg_17_28 : mm_prog 17 28 = some (0, .iconst 0, 29, []) := by decide +kernel
theorem xe_17_28 (a0 a1 a2 a3 : Option MV) (st : List MV) (μ : MM) (G : MG) : ev 17 28 [a0, a1, a2, a3] st μ G = ev 17 29 [a0, a1, a2, a3] (vI (0) :: st) μ G := ev_stp pg_17_28 rfl
theorem pg_17_29 : mm_prog 17 29 = some (0, .istore_n 3, 30, []) := by decide +kernel
theorem xe_17_29 (a0 a1 a2 a3 : Option MV) (x : Int) (st : List MV) (μ : MM) (G : MG) (h : mm_nL a2 = true) : ev 17 29 [a0, a1, a2, a3] (vI x :: st) μ G = ev 17 30 [a0, a1, a2, some (vI x)] st μ G := ev_st pg_17_29 rfl (mm_nl_of h) (Nat.le_of_ble_eq_true rfl)
theorem pg_17_30 : mm_prog 17 30 = some (0, .iload_n 3, 31, []) := by decide +kernel
theorem xe_17_30 (a0 a1 a2 : Option MV) (x : Int) (st : List MV) (μ : MM) (G : MG) : ev 17 30 [a0, a1, a2, some (vI x)] st μ G = ev 17 31 [a0, a1, a2, some (vI x)] (vI x :: st) μ G := ev_stp pg_17_30 rfl
theorem pg_17_31 : mm_prog 17 31 = some (0, .bipush 8, 33, []) := by decide +kernel
theorem xe_17_31 (a0 a1 a2 a3 : Option MV) (st : List MV) (μ : MM) (G : MG) : ev 17 31 [a0, a1, a2, a3] st μ G = ev 17 33 [a0, a1, a2, a3] (vI (8) :: st) μ G := ev_stp pg_17_31 rfl
theorem pg_17_33 : mm_prog 17 33 = some (0, .if_icmp .ge 27, 36, []) := by decide +kernel
theorem xe_17_33 (a0 a1 a2 a3 : Option MV) (x y : Int) (st : List MV) (μ : MM) (G : MG) : ev 17 33 [a0, a1, a2, a3] (vI y :: vI x :: st) μ G = if y ≤ x then ev 17 60 [a0, a1, a2, a3] st μ G else ev 17 36 [a0, a1, a2, a3] st μ G := ev_br (mm_cnd_ge x y) pg_17_33 rfl
theorem pg_17_36 : mm_prog 17 36 = some (0, .aload_n 1, 37, []) := by decide +kernel
theorem xe_17_36 (a0 a2 a3 : Option MV) (x : Int) (st : List MV) (μ : MM) (G : MG) : ev 17 36 [a0, some (vR x), a2, a3] st μ G = ev 17 37 [a0, some (vR x), a2, a3] (vR x :: st) μ G := ev_stp pg_17_36 rfl
theorem pg_17_37 : mm_prog 17 37 = some (0, .iload_n 3, 38, []) := by decide +kernel
theorem xe_17_37 (a0 a1 a2 : Option MV) (x : Int) (st : List MV) (μ : MM) (G : MG) : ev 17 37 [a0, a1, a2, some (vI x)] st μ G = ev 17 38 [a0, a1, a2, some (vI x)] (vI x :: st) μ G := ev_stp pg_17_37 rfl
theorem pg_17_38 : mm_prog 17 38 = some (1, .invokevirtual 35, 41, [1, 3, 1, 0]) := by decide +kernel
theorem xe_17_38 (a0 a1 a2 a3 : Option MV) (x0 z : Int) (μ : MM) (G : MG) : ev 17 38 [a0, a1, a2, a3] (vI x0 :: vR z :: []) μ G = if gk G z = 0 ∧ 0 < z then (ev 3 0 [some (vR z), some (vI x0)] [] μ G).bind (fun q => ev 17 41 [a0, a1, a2, a3] (q.1.toList ++ []) q.2.1 q.2.2) else none := ev_calV (as := [vR z, vI x0]) (r := []) mx_3 pg_17_38 rfl rfl (Nat.le_of_ble_eq_true rfl) (Nat.le_of_ble_eq_true rfl)
theorem pg_17_41 : mm_prog 17 41 = some (0, .iload_n 3, 42, []) := by decide +kernel
theorem xe_17_41 (a0 a1 a2 : Option MV) (x : Int) (st : List MV) (μ : MM) (G : MG) : ev 17 41 [a0, a1, a2, some (vI x)] st μ G = ev 17 42 [a0, a1, a2, some (vI x)] (vI x :: st) μ G := ev_stp pg_17_41 rfl
theorem pg_17_42 : mm_prog 17 42 = some (1, .invokestatic 41, 45, [0, 147, 1, 0]) := by decide +kernel
theorem xe_17_42 (a0 a1 a2 a3 : Option MV) (x0 r0 : Int) (μ : MM) (G : MG) : ev 17 42 [a0, a1, a2, a3] (vI x0 :: [vI r0]) μ G = (ev 147 0 [some (vI x0)] [] μ G).bind (fun q => ev 17 45 [a0, a1, a2, a3] (q.1.toList ++ [vI r0]) q.2.1 q.2.2) := ev_calS (as := [vI x0]) (r := [vI r0]) mx_147 pg_17_42 rfl rfl (Nat.le_of_ble_eq_true rfl) (Nat.le_of_ble_eq_true rfl)
theorem pg_17_45 : mm_prog 17 45 = some (0, .if_icmp .eq 9, 48, []) := by decide +kernel
theorem xe_17_45 (a0 a1 a2 a3 : Option MV) (x y : Int) (st : List MV) (μ : MM) (G : MG) : ev 17 45 [a0, a1, a2, a3] (vI y :: vI x :: st) μ G = if x = y then ev 17 54 [a0, a1, a2, a3] st μ G else ev 17 48 [a0, a1, a2, a3] st μ G := ev_br (mm_cnd_eq x y) pg_17_45 rfl
theorem pg_17_48 : mm_prog 17 48 = some (0, .aload_n 0, 49, []) := by decide +kernel
theorem xe_17_48 (a1 a2 a3 : Option MV) (x : Int) (st : List MV) (μ : MM) (G : MG) : ev 17 48 [some (vR x), a1, a2, a3] st μ G = ev 17 49 [some (vR x), a1, a2, a3] (vR x :: st) μ G := ev_stp pg_17_48 rfl
theorem pg_17_49 : mm_prog 17 49 = some (0, .iconst 2, 50, []) := by decide +kernel
theorem xe_17_49 (a0 a1 a2 a3 : Option MV) (st : List MV) (μ : MM) (G : MG) : ev 17 49 [a0, a1, a2, a3] st μ G = ev 17 50 [a0, a1, a2, a3] (vI (2) :: st) μ G := ev_stp pg_17_49 rfl
theorem pg_17_50 : mm_prog 17 50 = some (0, .iload_n 3, 51, []) := by decide +kernel
theorem xe_17_50 (a0 a1 a2 : Option MV) (x : Int) (st : List MV) (μ : MM) (G : MG) : ev 17 50 [a0, a1, a2, some (vI x)] st μ G = ev 17 51 [a0, a1, a2, some (vI x)] (vI x :: st) μ G := ev_stp pg_17_50 rfl
theorem pg_17_51 : mm_prog 17 51 = some (1, .invokevirtual 23, 54, [1, 16, 2, 2]) := by decide +kernel
theorem xe_17_51 (a0 a1 a2 a3 : Option MV) (x0 x1 z : Int) (μ : MM) (G : MG) : ev 17 51 [a0, a1, a2, a3] (vI x1 :: vI x0 :: vR z :: []) μ G = if gk G z = 2 ∧ 0 < z then (ev 16 0 [some (vR z), some (vI x0), some (vI x1)] [] μ G).bind (fun q => ev 17 54 [a0, a1, a2, a3] (q.1.toList ++ []) q.2.1 q.2.2) else none := ev_calV (as := [vR z, vI x0, vI x1]) (r := []) mx_16 pg_17_51 rfl rfl (Nat.le_of_ble_eq_true rfl) (Nat.le_of_ble_eq_true rfl)
theorem pg_17_54 : mm_prog 17 54 = some (0, .iinc 3 1, 57, []) := by decide +kernel
theorem xe_17_54 (a0 a1 a2 : Option MV) (x : Int) (st : List MV) (μ : MM) (G : MG) (h : mm_nL a2 = true) : ev 17 54 [a0, a1, a2, some (vI x)] st μ G = ev 17 57 [a0, a1, a2, some (vI (w32 (x + (1))))] st μ G := ev_st pg_17_54 rfl (mm_nl_of h) (Nat.le_of_ble_eq_true rfl)
theorem pg_17_57 : mm_prog 17 57 = some (0, .goto (-27), 60, []) := by decide +kernel
theorem xe_17_57 (a0 a1 a2 a3 : Option MV) (st : List MV) (μ : MM) (G : MG) : ev 17 57 [a0, a1, a2, a3] st μ G = ev 17 30 [a0, a1, a2, a3] st μ G := ev_stp pg_17_57 rfl
theorem pg_17_60 : mm_prog 17 60 = some (2, .return_, 61, []) := by decide +kernel
theorem xe_17_60 (a0 a1 a2 a3 : Option MV) (μ : MM) (G : MG) : ev 17 60 [a0, a1, a2, a3] [] μ G = some (none, μ, G) := ev_ret pg_17_60 rfl
-- X2_inspectExtension
theorem pg_18_0 : mm_prog 18 0 = some (0, .aload_n 1, 1, []) := by decide +kernel
theorem xe_18_0 (a0 a2 a3 a4 a5 : Option MV) (x : Int) (st : List MV) (μ : MM) (G : MG) : ev 18 0 [a0, some (vR x), a2, a3, a4, a5] st μ G = ev 18 1 [a0, some (vR x), a2, a3, a4, a5] (vR x :: st) μ G := ev_stp pg_18_0 rfl
theorem pg_18_1 : mm_prog 18 1 = some (0, .iload_n 2, 2, []) := by decide +kernel
theorem xe_18_1 (a0 a1 a3 a4 a5 : Option MV) (x : Int) (st : List MV) (μ : MM) (G : MG) : ev 18 1 [a0, a1, some (vI x), a3, a4, a5] st μ G = ev 18 2 [a0, a1, some (vI x), a3, a4, a5] (vI x :: st) μ G := ev_stp pg_18_1 rfl
theorem pg_18_2 : mm_prog 18 2 = some (0, .iconst 2, 3, []) := by decide +kernel
theorem xe_18_2 (a0 a1 a2 a3 a4 a5 : Option MV) (st : List MV) (μ : MM) (G : MG) : ev 18 2 [a0, a1, a2, a3, a4, a5] st μ G = ev 18 3 [a0, a1, a2, a3, a4, a5] (vI (2) :: st) μ G := ev_stp pg_18_2 rfl
theorem pg_18_3 : mm_prog 18 3 = some (0, .iadd, 4, []) := by decide +kernel
theorem xe_18_3 (a0 a1 a2 a3 a4 a5 : Option MV) (x y : Int) (st : List MV) (μ : MM) (G : MG) : ev 18 3 [a0, a1, a2, a3, a4, a5] (vI y :: vI x :: st) μ G = ev 18 4 [a0, a1, a2, a3, a4, a5] (vI (w32 (x + y)) :: st) μ G := ev_stp pg_18_3 rfl
theorem pg_18_4 : mm_prog 18 4 = some (1, .invokevirtual 35, 7, [1, 3, 1, 0]) := by decide +kernel
theorem xe_18_4 (a0 a1 a2 a3 a4 a5 : Option MV) (x0 z : Int) (μ : MM) (G : MG) : ev 18 4 [a0, a1, a2, a3, a4, a5] (vI x0 :: vR z :: []) μ G = if gk G z = 0 ∧ 0 < z then (ev 3 0 [some (vR z), some (vI x0)] [] μ G).bind (fun q => ev 18 7 [a0, a1, a2, a3, a4, a5] (q.1.toList ++ []) q.2.1 q.2.2) else none := ev_calV (as := [vR z, vI x0]) (r := []) mx_3 pg_18_4 rfl rfl (Nat.le_of_ble_eq_true rfl) (Nat.le_of_ble_eq_true rfl)
theorem pg_18_7 : mm_prog 18 7 = some (0, .istore_n 3, 8, []) := by decide +kernel
theorem xe_18_7 (a0 a1 a2 a3 a4 a5 : Option MV) (x : Int) (st : List MV) (μ : MM) (G : MG) (h : mm_nL a2 = true) : ev 18 7 [a0, a1, a2, a3, a4, a5] (vI x :: st) μ G = ev 18 8 [a0, a1, a2, some (vI x), a4, a5] st μ G := ev_st pg_18_7 rfl (mm_nl_of h) (Nat.le_of_ble_eq_true rfl)
theorem pg_18_8 : mm_prog 18 8 = some (0, .iload_n 3, 9, []) := by decide +kernel
theorem xe_18_8 (a0 a1 a2 a4 a5 : Option MV) (x : Int) (st : List MV) (μ : MM) (G : MG) : ev 18 8 [a0, a1, a2, some (vI x), a4, a5] st μ G = ev 18 9 [a0, a1, a2, some (vI x), a4, a5] (vI x :: st) μ G := ev_stp pg_18_8 rfl
theorem pg_18_9 : mm_prog 18 9 = some (0, .ifCond .eq 24, 12, []) := by decide +kernel
theorem xe_18_9 (a0 a1 a2 a3 a4 a5 : Option MV) (x : Int) (st : List MV) (μ : MM) (G : MG) : ev 18 9 [a0, a1, a2, a3, a4, a5] (vI x :: st) μ G = if x = 0 then ev 18 33 [a0, a1, a2, a3, a4, a5] st μ G else ev 18 12 [a0, a1, a2, a3, a4, a5] st μ G := ev_br (mm_cnd_eq x 0) pg_18_9 rfl
theorem pg_18_12 : mm_prog 18 12 = some (0, .iload_n 3, 13, []) := by decide +kernel
theorem xe_18_12 (a0 a1 a2 a4 a5 : Option MV) (x : Int) (st : List MV) (μ : MM) (G : MG) : ev 18 12 [a0, a1, a2, some (vI x), a4, a5] st μ G = ev 18 13 [a0, a1, a2, some (vI x), a4, a5] (vI x :: st) μ G := ev_stp pg_18_12 rfl
theorem pg_18_13 : mm_prog 18 13 = some (0, .iconst 4, 14, []) := by decide +kernel
theorem xe_18_13 (a0 a1 a2 a3 a4 a5 : Option MV) (st : List MV) (μ : MM) (G : MG) : ev 18 13 [a0, a1, a2, a3, a4, a5] st μ G = ev 18 14 [a0, a1, a2, a3, a4, a5] (vI (4) :: st) μ G := ev_stp pg_18_13 rfl
theorem pg_18_14 : mm_prog 18 14 = some (0, .if_icmp .lt 9, 17, []) := by decide +kernel
theorem xe_18_14 (a0 a1 a2 a3 a4 a5 : Option MV) (x y : Int) (st : List MV) (μ : MM) (G : MG) : ev 18 14 [a0, a1, a2, a3, a4, a5] (vI y :: vI x :: st) μ G = if x < y then ev 18 23 [a0, a1, a2, a3, a4, a5] st μ G else ev 18 17 [a0, a1, a2, a3, a4, a5] st μ G := ev_br (mm_cnd_lt x y) pg_18_14 rfl
theorem pg_18_17 : mm_prog 18 17 = some (0, .iload_n 3, 18, []) := by decide +kernel
theorem xe_18_17 (a0 a1 a2 a4 a5 : Option MV) (x : Int) (st : List MV) (μ : MM) (G : MG) : ev 18 17 [a0, a1, a2, some (vI x), a4, a5] st μ G = ev 18 18 [a0, a1, a2, some (vI x), a4, a5] (vI x :: st) μ G := ev_stp pg_18_17 rfl
theorem pg_18_18 : mm_prog 18 18 = some (0, .bipush 127, 20, []) := by decide +kernel
theorem xe_18_18 (a0 a1 a2 a3 a4 a5 : Option MV) (st : List MV) (μ : MM) (G : MG) : ev 18 18 [a0, a1, a2, a3, a4, a5] st μ G = ev 18 20 [a0, a1, a2, a3, a4, a5] (vI (127) :: st) μ G := ev_stp pg_18_18 rfl
theorem pg_18_20 : mm_prog 18 20 = some (0, .if_icmp .le 13, 23, []) := by decide +kernel
theorem xe_18_20 (a0 a1 a2 a3 a4 a5 : Option MV) (x y : Int) (st : List MV) (μ : MM) (G : MG) : ev 18 20 [a0, a1, a2, a3, a4, a5] (vI y :: vI x :: st) μ G = if x ≤ y then ev 18 33 [a0, a1, a2, a3, a4, a5] st μ G else ev 18 23 [a0, a1, a2, a3, a4, a5] st μ G := ev_br (mm_cnd_le x y) pg_18_20 rfl
theorem pg_18_23 : mm_prog 18 23 = some (0, .aload_n 0, 24, []) := by decide +kernel
theorem xe_18_23 (a1 a2 a3 a4 a5 : Option MV) (x : Int) (st : List MV) (μ : MM) (G : MG) : ev 18 23 [some (vR x), a1, a2, a3, a4, a5] st μ G = ev 18 24 [some (vR x), a1, a2, a3, a4, a5] (vR x :: st) μ G := ev_stp pg_18_23 rfl
theorem pg_18_24 : mm_prog 18 24 = some (0, .bipush 6, 26, []) := by decide +kernel
theorem xe_18_24 (a0 a1 a2 a3 a4 a5 : Option MV) (st : List MV) (μ : MM) (G : MG) : ev 18 24 [a0, a1, a2, a3, a4, a5] st μ G = ev 18 26 [a0, a1, a2, a3, a4, a5] (vI (6) :: st) μ G := ev_stp pg_18_24 rfl
theorem pg_18_26 : mm_prog 18 26 = some (0, .iload_n 2, 27, []) := by decide +kernel
theorem xe_18_26 (a0 a1 a3 a4 a5 : Option MV) (x : Int) (st : List MV) (μ : MM) (G : MG) : ev 18 26 [a0, a1, some (vI x), a3, a4, a5] st μ G = ev 18 27 [a0, a1, some (vI x), a3, a4, a5] (vI x :: st) μ G := ev_stp pg_18_26 rfl
theorem pg_18_27 : mm_prog 18 27 = some (0, .iconst 2, 28, []) := by decide +kernel
theorem xe_18_27 (a0 a1 a2 a3 a4 a5 : Option MV) (st : List MV) (μ : MM) (G : MG) : ev 18 27 [a0, a1, a2, a3, a4, a5] st μ G = ev 18 28 [a0, a1, a2, a3, a4, a5] (vI (2) :: st) μ G := ev_stp pg_18_27 rfl
theorem pg_18_28 : mm_prog 18 28 = some (0, .iadd, 29, []) := by decide +kernel
theorem xe_18_28 (a0 a1 a2 a3 a4 a5 : Option MV) (x y : Int) (st : List MV) (μ : MM) (G : MG) : ev 18 28 [a0, a1, a2, a3, a4, a5] (vI y :: vI x :: st) μ G = ev 18 29 [a0, a1, a2, a3, a4, a5] (vI (w32 (x + y)) :: st) μ G := ev_stp pg_18_28 rfl
theorem pg_18_29 : mm_prog 18 29 = some (1, .invokevirtual 23, 32, [1, 16, 2, 2]) := by decide +kernel
theorem xe_18_29 (a0 a1 a2 a3 a4 a5 : Option MV) (x0 x1 z : Int) (μ : MM) (G : MG) : ev 18 29 [a0, a1, a2, a3, a4, a5] (vI x1 :: vI x0 :: vR z :: []) μ G = if gk G z = 2 ∧ 0 < z then (ev 16 0 [some (vR z), some (vI x0), some (vI x1)] [] μ G).bind (fun q => ev 18 32 [a0, a1, a2, a3, a4, a5] (q.1.toList ++ []) q.2.1 q.2.2) else none := ev_calV (as := [vR z, vI x0, vI x1]) (r := []) mx_16 pg_18_29 rfl rfl (Nat.le_of_ble_eq_true rfl) (Nat.le_of_ble_eq_true rfl)
theorem pg_18_32 : mm_prog 18 32 = some (2, .return_, 33, []) := by decide +kernel
theorem xe_18_32 (a0 a1 a2 a3 a4 a5 : Option MV) (μ : MM) (G : MG) : ev 18 32 [a0, a1, a2, a3, a4, a5] [] μ G = some (none, μ, G) := ev_ret pg_18_32 rfl
theorem pg_18_33 : mm_prog 18 33 = some (0, .iconst 4, 34, []) := by decide +kernel
theorem xe_18_33 (a0 a1 a2 a3 a4 a5 : Option MV) (st : List MV) (μ : MM) (G : MG) : ev 18 33 [a0, a1, a2, a3, a4, a5] st μ G = ev 18 34 [a0, a1, a2, a3, a4, a5] (vI (4) :: st) μ G := ev_stp pg_18_33 rfl
theorem pg_18_34 : mm_prog 18 34 = some (0, .istore 4, 36, []) := by decide +kernel
theorem xe_18_34 (a0 a1 a2 a3 a4 a5 : Option MV) (x : Int) (st : List MV) (μ : MM) (G : MG) (h : mm_nL a3 = true) : ev 18 34 [a0, a1, a2, a3, a4, a5] (vI x :: st) μ G = ev 18 36 [a0, a1, a2, a3, some (vI x), a5] st μ G := ev_st pg_18_34 rfl (mm_nl_of h) (Nat.le_of_ble_eq_true rfl)
theorem pg_18_36 : mm_prog 18 36 = some (0, .iload 4, 38, []) := by decide +kernel
theorem xe_18_36 (a0 a1 a2 a3 a5 : Option MV) (x : Int) (st : List MV) (μ : MM) (G : MG) : ev 18 36 [a0, a1, a2, a3, some (vI x), a5] st μ G = ev 18 38 [a0, a1, a2, a3, some (vI x), a5] (vI x :: st) μ G := ev_stp pg_18_36 rfl
theorem pg_18_38 : mm_prog 18 38 = some (0, .iload_n 3, 39, []) := by decide +kernel
theorem xe_18_38 (a0 a1 a2 a4 a5 : Option MV) (x : Int) (st : List MV) (μ : MM) (G : MG) : ev 18 38 [a0, a1, a2, some (vI x), a4, a5] st μ G = ev 18 39 [a0, a1, a2, some (vI x), a4, a5] (vI x :: st) μ G := ev_stp pg_18_38 rfl
theorem pg_18_39 : mm_prog 18 39 = some (0, .if_icmp .ge 44, 42, []) := by decide +kernel
theorem xe_18_39 (a0 a1 a2 a3 a4 a5 : Option MV) (x y : Int) (st : List MV) (μ : MM) (G : MG) : ev 18 39 [a0, a1, a2, a3, a4, a5] (vI y :: vI x :: st) μ G = if y ≤ x then ev 18 83 [a0, a1, a2, a3, a4, a5] st μ G else ev 18 42 [a0, a1, a2, a3, a4, a5] st μ G := ev_br (mm_cnd_ge x y) pg_18_39 rfl
theorem pg_18_42 : mm_prog 18 42 = some (0, .iload 4, 44, []) := by decide +kernel
theorem xe_18_42 (a0 a1 a2 a3 a5 : Option MV) (x : Int) (st : List MV) (μ : MM) (G : MG) : ev 18 42 [a0, a1, a2, a3, some (vI x), a5] st μ G = ev 18 44 [a0, a1, a2, a3, some (vI x), a5] (vI x :: st) μ G := ev_stp pg_18_42 rfl
theorem pg_18_44 : mm_prog 18 44 = some (0, .iconst 1, 45, []) := by decide +kernel
theorem xe_18_44 (a0 a1 a2 a3 a4 a5 : Option MV) (st : List MV) (μ : MM) (G : MG) : ev 18 44 [a0, a1, a2, a3, a4, a5] st μ G = ev 18 45 [a0, a1, a2, a3, a4, a5] (vI (1) :: st) μ G := ev_stp pg_18_44 rfl
theorem pg_18_45 : mm_prog 18 45 = some (0, .iadd, 46, []) := by decide +kernel
theorem xe_18_45 (a0 a1 a2 a3 a4 a5 : Option MV) (x y : Int) (st : List MV) (μ : MM) (G : MG) : ev 18 45 [a0, a1, a2, a3, a4, a5] (vI y :: vI x :: st) μ G = ev 18 46 [a0, a1, a2, a3, a4, a5] (vI (w32 (x + y)) :: st) μ G := ev_stp pg_18_45 rfl
theorem pg_18_46 : mm_prog 18 46 = some (0, .aload_n 1, 47, []) := by decide +kernel
theorem xe_18_46 (a0 a2 a3 a4 a5 : Option MV) (x : Int) (st : List MV) (μ : MM) (G : MG) : ev 18 46 [a0, some (vR x), a2, a3, a4, a5] st μ G = ev 18 47 [a0, some (vR x), a2, a3, a4, a5] (vR x :: st) μ G := ev_stp pg_18_46 rfl
theorem pg_18_47 : mm_prog 18 47 = some (0, .iload_n 2, 48, []) := by decide +kernel
theorem xe_18_47 (a0 a1 a3 a4 a5 : Option MV) (x : Int) (st : List MV) (μ : MM) (G : MG) : ev 18 47 [a0, a1, some (vI x), a3, a4, a5] st μ G = ev 18 48 [a0, a1, some (vI x), a3, a4, a5] (vI x :: st) μ G := ev_stp pg_18_47 rfl
theorem pg_18_48 : mm_prog 18 48 = some (0, .iload 4, 50, []) := by decide +kernel
theorem xe_18_48 (a0 a1 a2 a3 a5 : Option MV) (x : Int) (st : List MV) (μ : MM) (G : MG) : ev 18 48 [a0, a1, a2, a3, some (vI x), a5] st μ G = ev 18 50 [a0, a1, a2, a3, some (vI x), a5] (vI x :: st) μ G := ev_stp pg_18_48 rfl
theorem pg_18_50 : mm_prog 18 50 = some (0, .iadd, 51, []) := by decide +kernel
theorem xe_18_50 (a0 a1 a2 a3 a4 a5 : Option MV) (x y : Int) (st : List MV) (μ : MM) (G : MG) : ev 18 50 [a0, a1, a2, a3, a4, a5] (vI y :: vI x :: st) μ G = ev 18 51 [a0, a1, a2, a3, a4, a5] (vI (w32 (x + y)) :: st) μ G := ev_stp pg_18_50 rfl
theorem pg_18_51 : mm_prog 18 51 = some (1, .invokevirtual 35, 54, [1, 3, 1, 0]) := by decide +kernel
theorem xe_18_51 (a0 a1 a2 a3 a4 a5 : Option MV) (x0 z r0 : Int) (μ : MM) (G : MG) : ev 18 51 [a0, a1, a2, a3, a4, a5] (vI x0 :: vR z :: [vI r0]) μ G = if gk G z = 0 ∧ 0 < z then (ev 3 0 [some (vR z), some (vI x0)] [] μ G).bind (fun q => ev 18 54 [a0, a1, a2, a3, a4, a5] (q.1.toList ++ [vI r0]) q.2.1 q.2.2) else none := ev_calV (as := [vR z, vI x0]) (r := [vI r0]) mx_3 pg_18_51 rfl rfl (Nat.le_of_ble_eq_true rfl) (Nat.le_of_ble_eq_true rfl)
theorem pg_18_54 : mm_prog 18 54 = some (0, .bipush 31, 56, []) := by decide +kernel
theorem xe_18_54 (a0 a1 a2 a3 a4 a5 : Option MV) (st : List MV) (μ : MM) (G : MG) : ev 18 54 [a0, a1, a2, a3, a4, a5] st μ G = ev 18 56 [a0, a1, a2, a3, a4, a5] (vI (31) :: st) μ G := ev_stp pg_18_54 rfl
theorem pg_18_56 : mm_prog 18 56 = some (0, .iand, 57, []) := by decide +kernel
theorem xe_18_56 (a0 a1 a2 a3 a4 a5 : Option MV) (x y : Int) (st : List MV) (μ : MM) (G : MG) : ev 18 56 [a0, a1, a2, a3, a4, a5] (vI y :: vI x :: st) μ G = ev 18 57 [a0, a1, a2, a3, a4, a5] (vI (mm_and x y) :: st) μ G := ev_stp pg_18_56 rfl
theorem pg_18_57 : mm_prog 18 57 = some (0, .iadd, 58, []) := by decide +kernel
theorem xe_18_57 (a0 a1 a2 a3 a4 a5 : Option MV) (x y : Int) (st : List MV) (μ : MM) (G : MG) : ev 18 57 [a0, a1, a2, a3, a4, a5] (vI y :: vI x :: st) μ G = ev 18 58 [a0, a1, a2, a3, a4, a5] (vI (w32 (x + y)) :: st) μ G := ev_stp pg_18_57 rfl
theorem pg_18_58 : mm_prog 18 58 = some (0, .istore 5, 60, []) := by decide +kernel
theorem xe_18_58 (a0 a1 a2 a3 a4 a5 : Option MV) (x : Int) (st : List MV) (μ : MM) (G : MG) (h : mm_nL a4 = true) : ev 18 58 [a0, a1, a2, a3, a4, a5] (vI x :: st) μ G = ev 18 60 [a0, a1, a2, a3, a4, some (vI x)] st μ G := ev_st pg_18_58 rfl (mm_nl_of h) (Nat.le_of_ble_eq_true rfl)
theorem pg_18_60 : mm_prog 18 60 = some (0, .iload 5, 62, []) := by decide +kernel
theorem xe_18_60 (a0 a1 a2 a3 a4 : Option MV) (x : Int) (st : List MV) (μ : MM) (G : MG) : ev 18 60 [a0, a1, a2, a3, a4, some (vI x)] st μ G = ev 18 62 [a0, a1, a2, a3, a4, some (vI x)] (vI x :: st) μ G := ev_stp pg_18_60 rfl
theorem pg_18_62 : mm_prog 18 62 = some (0, .iload_n 3, 63, []) := by decide +kernel
theorem xe_18_62 (a0 a1 a2 a4 a5 : Option MV) (x : Int) (st : List MV) (μ : MM) (G : MG) : ev 18 62 [a0, a1, a2, some (vI x), a4, a5] st μ G = ev 18 63 [a0, a1, a2, some (vI x), a4, a5] (vI x :: st) μ G := ev_stp pg_18_62 rfl
theorem pg_18_63 : mm_prog 18 63 = some (0, .if_icmp .le 13, 66, []) := by decide +kernel
theorem xe_18_63 (a0 a1 a2 a3 a4 a5 : Option MV) (x y : Int) (st : List MV) (μ : MM) (G : MG) : ev 18 63 [a0, a1, a2, a3, a4, a5] (vI y :: vI x :: st) μ G = if x ≤ y then ev 18 76 [a0, a1, a2, a3, a4, a5] st μ G else ev 18 66 [a0, a1, a2, a3, a4, a5] st μ G := ev_br (mm_cnd_le x y) pg_18_63 rfl
theorem pg_18_66 : mm_prog 18 66 = some (0, .aload_n 0, 67, []) := by decide +kernel
theorem xe_18_66 (a1 a2 a3 a4 a5 : Option MV) (x : Int) (st : List MV) (μ : MM) (G : MG) : ev 18 66 [some (vR x), a1, a2, a3, a4, a5] st μ G = ev 18 67 [some (vR x), a1, a2, a3, a4, a5] (vR x :: st) μ G := ev_stp pg_18_66 rfl
theorem pg_18_67 : mm_prog 18 67 = some (0, .bipush 7, 69, []) := by decide +kernel
theorem xe_18_67 (a0 a1 a2 a3 a4 a5 : Option MV) (st : List MV) (μ : MM) (G : MG) : ev 18 67 [a0, a1, a2, a3, a4, a5] st μ G = ev 18 69 [a0, a1, a2, a3, a4, a5] (vI (7) :: st) μ G := ev_stp pg_18_67 rfl
theorem pg_18_69 : mm_prog 18 69 = some (0, .iload_n 2, 70, []) := by decide +kernel
theorem xe_18_69 (a0 a1 a3 a4 a5 : Option MV) (x : Int) (st : List MV) (μ : MM) (G : MG) : ev 18 69 [a0, a1, some (vI x), a3, a4, a5] st μ G = ev 18 70 [a0, a1, some (vI x), a3, a4, a5] (vI x :: st) μ G := ev_stp pg_18_69 rfl
theorem pg_18_70 : mm_prog 18 70 = some (0, .iload 4, 72, []) := by decide +kernel
theorem xe_18_70 (a0 a1 a2 a3 a5 : Option MV) (x : Int) (st : List MV) (μ : MM) (G : MG) : ev 18 70 [a0, a1, a2, a3, some (vI x), a5] st μ G = ev 18 72 [a0, a1, a2, a3, some (vI x), a5] (vI x :: st) μ G := ev_stp pg_18_70 rfl
theorem pg_18_72 : mm_prog 18 72 = some (0, .iadd, 73, []) := by decide +kernel
theorem xe_18_72 (a0 a1 a2 a3 a4 a5 : Option MV) (x y : Int) (st : List MV) (μ : MM) (G : MG) : ev 18 72 [a0, a1, a2, a3, a4, a5] (vI y :: vI x :: st) μ G = ev 18 73 [a0, a1, a2, a3, a4, a5] (vI (w32 (x + y)) :: st) μ G := ev_stp pg_18_72 rfl
theorem pg_18_73 : mm_prog 18 73 = some (1, .invokevirtual 23, 76, [1, 16, 2, 2]) := by decide +kernel
theorem xe_18_73 (a0 a1 a2 a3 a4 a5 : Option MV) (x0 x1 z : Int) (μ : MM) (G : MG) : ev 18 73 [a0, a1, a2, a3, a4, a5] (vI x1 :: vI x0 :: vR z :: []) μ G = if gk G z = 2 ∧ 0 < z then (ev 16 0 [some (vR z), some (vI x0), some (vI x1)] [] μ G).bind (fun q => ev 18 76 [a0, a1, a2, a3, a4, a5] (q.1.toList ++ []) q.2.1 q.2.2) else none := ev_calV (as := [vR z, vI x0, vI x1]) (r := []) mx_16 pg_18_73 rfl rfl (Nat.le_of_ble_eq_true rfl) (Nat.le_of_ble_eq_true rfl)
theorem pg_18_76 : mm_prog 18 76 = some (0, .iload 5, 78, []) := by decide +kernel
theorem xe_18_76 (a0 a1 a2 a3 a4 : Option MV) (x : Int) (st : List MV) (μ : MM) (G : MG) : ev 18 76 [a0, a1, a2, a3, a4, some (vI x)] st μ G = ev 18 78 [a0, a1, a2, a3, a4, some (vI x)] (vI x :: st) μ G := ev_stp pg_18_76 rfl
theorem pg_18_78 : mm_prog 18 78 = some (0, .istore 4, 80, []) := by decide +kernel
theorem xe_18_78 (a0 a1 a2 a3 a4 a5 : Option MV) (x : Int) (st : List MV) (μ : MM) (G : MG) (h : mm_nL a3 = true) : ev 18 78 [a0, a1, a2, a3, a4, a5] (vI x :: st) μ G = ev 18 80 [a0, a1, a2, a3, some (vI x), a5] st μ G := ev_st pg_18_78 rfl (mm_nl_of h) (Nat.le_of_ble_eq_true rfl)
theorem pg_18_80 : mm_prog 18 80 = some (0, .goto (-44), 83, []) := by decide +kernel
theorem xe_18_80 (a0 a1 a2 a3 a4 a5 : Option MV) (st : List MV) (μ : MM) (G : MG) : ev 18 80 [a0, a1, a2, a3, a4, a5] st μ G = ev 18 36 [a0, a1, a2, a3, a4, a5] st μ G := ev_stp pg_18_80 rfl
theorem pg_18_83 : mm_prog 18 83 = some (2, .return_, 84, []) := by decide +kernel
theorem xe_18_83 (a0 a1 a2 a3 a4 a5 : Option MV) (μ : MM) (G : MG) : ev 18 83 [a0, a1, a2, a3, a4, a5] [] μ G = some (none, μ, G) := ev_ret pg_18_83 rfl
-- X3_init
theorem pg_19_0 : mm_prog 19 0 = some (0, .aload_n 0, 1, []) := by decide +kernel
theorem xe_19_0 (x : Int) (st : List MV) (μ : MM) (G : MG) : ev 19 0 [some (vR x)] st μ G = ev 19 1 [some (vR x)] (vR x :: st) μ G := ev_stp pg_19_0 rfl
theorem pg_19_1 : mm_prog 19 1 = some (0, .invokespecial 3, 4, []) := by decide +kernel
theorem xe_19_1 (a0 : Option MV) (x : Int) (st : List MV) (μ : MM) (G : MG) : ev 19 1 [a0] (vR x :: st) μ G = if 10 ≤ x ∧ mm_cats st ≤ 8 then ev 19 4 [a0] st μ G else none := ev_if pg_19_1 rfl
theorem pg_19_4 : mm_prog 19 4 = some (0, .aload_n 0, 5, []) := by decide +kernel
theorem xe_19_4 (x : Int) (st : List MV) (μ : MM) (G : MG) : ev 19 4 [some (vR x)] st μ G = ev 19 5 [some (vR x)] (vR x :: st) μ G := ev_stp pg_19_4 rfl
theorem pg_19_5 : mm_prog 19 5 = some (0, .sipush 1536, 8, []) := by decide +kernel
theorem xe_19_5 (a0 : Option MV) (st : List MV) (μ : MM) (G : MG) : ev 19 5 [a0] st μ G = ev 19 8 [a0] (vI (1536) :: st) μ G := ev_stp pg_19_5 rfl
theorem pg_19_8 : mm_prog 19 8 = some (0, .newarray .int, 10, [100]) := by decide +kernel
theorem xe_19_8 (a0 : Option MV) (x : Int) (st : List MV) (μ : MM) (G : MG) : ev 19 8 [a0] (vI x :: st) μ G = if 0 ≤ x ∧ x ≤ 100000 then ev 19 10 [a0] (vR G.2.1 :: st) (mzero μ G.2.1) (gnew G 100 x x) else none := ev_if pg_19_8 rfl
theorem pg_19_10 : mm_prog 19 10 = some (0, .putfield 11, 13, [3, 0, 2]) := by decide +kernel
theorem xe_19_10 (a0 : Option MV) (x y : Int) (st : List MV) (μ : MM) (G : MG) : ev 19 10 [a0] (vR x :: vR y :: st) μ G = if gk G y = 3 then ev 19 13 [a0] st (mset μ y 0 x) G else none := ev_put2 pg_19_10
theorem pg_19_13 : mm_prog 19 13 = some (0, .aload_n 0, 14, []) := by decide +kernel
theorem xe_19_13 (x : Int) (st : List MV) (μ : MM) (G : MG) : ev 19 13 [some (vR x)] st μ G = ev 19 14 [some (vR x)] (vR x :: st) μ G := ev_stp pg_19_13 rfl
theorem pg_19_14 : mm_prog 19 14 = some (0, .bipush 12, 16, []) := by decide +kernel
theorem xe_19_14 (a0 : Option MV) (st : List MV) (μ : MM) (G : MG) : ev 19 14 [a0] st μ G = ev 19 16 [a0] (vI (12) :: st) μ G := ev_stp pg_19_14 rfl
theorem pg_19_16 : mm_prog 19 16 = some (0, .newarray .int, 18, [100]) := by decide +kernel
theorem xe_19_16 (a0 : Option MV) (x : Int) (st : List MV) (μ : MM) (G : MG) : ev 19 16 [a0] (vI x :: st) μ G = if 0 ≤ x ∧ x ≤ 100000 then ev 19 18 [a0] (vR G.2.1 :: st) (mzero μ G.2.1) (gnew G 100 x x) else none := ev_if pg_19_16 rfl
theorem pg_19_18 : mm_prog 19 18 = some (0, .putfield 15, 21, [3, 1, 2]) := by decide +kernel
theorem xe_19_18 (a0 : Option MV) (x y : Int) (st : List MV) (μ : MM) (G : MG) : ev 19 18 [a0] (vR x :: vR y :: st) μ G = if gk G y = 3 then ev 19 21 [a0] st (mset μ y 1 x) G else none := ev_put2 pg_19_18
theorem pg_19_21 : mm_prog 19 21 = some (2, .return_, 22, []) := by decide +kernel
theorem xe_19_21 (a0 : Option MV) (μ : MM) (G : MG) : ev 19 21 [a0] [] μ G = some (none, μ, G) := ev_ret pg_19_21 rfl
-- X3_clear
theorem pg_20_0 : mm_prog 20 0 = some (0, .aload_n 0, 1, []) := by decide +kernel
theorem xe_20_0 (x : Int) (st : List MV) (μ : MM) (G : MG) : ev 20 0 [some (vR x)] st μ G = ev 20 1 [some (vR x)] (vR x :: st) μ G := ev_stp pg_20_0 rfl
theorem pg_20_1 : mm_prog 20 1 = some (0, .iconst 0, 2, []) := by decide +kernel
theorem xe_20_1 (a0 : Option MV) (st : List MV) (μ : MM) (G : MG) : ev 20 1 [a0] st μ G = ev 20 2 [a0] (vI (0) :: st) μ G := ev_stp pg_20_1 rfl
theorem pg_20_2 : mm_prog 20 2 = some (0, .putfield 18, 5, [3, 2, 0]) := by decide +kernel
theorem xe_20_2 (a0 : Option MV) (x y : Int) (st : List MV) (μ : MM) (G : MG) : ev 20 2 [a0] (vI x :: vR y :: st) μ G = if gk G y = 3 then ev 20 5 [a0] st (mset μ y 2 x) G else none := ev_put0 pg_20_2
theorem pg_20_5 : mm_prog 20 5 = some (0, .aload_n 0, 6, []) := by decide +kernel
theorem xe_20_5 (x : Int) (st : List MV) (μ : MM) (G : MG) : ev 20 5 [some (vR x)] st μ G = ev 20 6 [some (vR x)] (vR x :: st) μ G := ev_stp pg_20_5 rfl
theorem pg_20_6 : mm_prog 20 6 = some (0, .iconst 0, 7, []) := by decide +kernel
theorem xe_20_6 (a0 : Option MV) (st : List MV) (μ : MM) (G : MG) : ev 20 6 [a0] st μ G = ev 20 7 [a0] (vI (0) :: st) μ G := ev_stp pg_20_6 rfl
theorem pg_20_7 : mm_prog 20 7 = some (0, .putfield 22, 10, [3, 3, 0]) := by decide +kernel
theorem xe_20_7 (a0 : Option MV) (x y : Int) (st : List MV) (μ : MM) (G : MG) : ev 20 7 [a0] (vI x :: vR y :: st) μ G = if gk G y = 3 then ev 20 10 [a0] st (mset μ y 3 x) G else none := ev_put0 pg_20_7
theorem pg_20_10 : mm_prog 20 10 = some (2, .return_, 11, []) := by decide +kernel
theorem xe_20_10 (a0 : Option MV) (μ : MM) (G : MG) : ev 20 10 [a0] [] μ G = some (none, μ, G) := ev_ret pg_20_10 rfl
-- X3_open
theorem pg_21_0 : mm_prog 21 0 = some (0, .aload_n 0, 1, []) := by decide +kernel
theorem xe_21_0 (a1 : Option MV) (x : Int) (st : List MV) (μ : MM) (G : MG) : ev 21 0 [some (vR x), a1] st μ G = ev 21 1 [some (vR x), a1] (vR x :: st) μ G := ev_stp pg_21_0 rfl
theorem pg_21_1 : mm_prog 21 1 = some (0, .iconst 0, 2, []) := by decide +kernel
theorem xe_21_1 (a0 a1 : Option MV) (st : List MV) (μ : MM) (G : MG) : ev 21 1 [a0, a1] st μ G = ev 21 2 [a0, a1] (vI (0) :: st) μ G := ev_stp pg_21_1 rfl
theorem pg_21_2 : mm_prog 21 2 = some (0, .aload_n 1, 3, []) := by decide +kernel
theorem xe_21_2 (a0 : Option MV) (x : Int) (st : List MV) (μ : MM) (G : MG) : ev 21 2 [a0, some (vR x)] st μ G = ev 21 3 [a0, some (vR x)] (vR x :: st) μ G := ev_stp pg_21_2 rfl
theorem pg_21_3 : mm_prog 21 3 = some (0, .getfield 25, 6, [8, 2, 0]) := by decide +kernel
theorem xe_21_3 (a0 a1 : Option MV) (x : Int) (st : List MV) (μ : MM) (G : MG) : ev 21 3 [a0, a1] (vR x :: st) μ G = if gk G x = 8 then ev 21 6 [a0, a1] (vI (μ x 2) :: st) μ G else none := ev_if pg_21_3 rfl
theorem pg_21_6 : mm_prog 21 6 = some (1, .invokevirtual 30, 9, [1, 23, 2, 3]) := by decide +kernel
theorem xe_21_6 (a0 a1 : Option MV) (x0 x1 z : Int) (μ : MM) (G : MG) : ev 21 6 [a0, a1] (vI x1 :: vI x0 :: vR z :: []) μ G = if gk G z = 3 ∧ 0 < z then (ev 23 0 [some (vR z), some (vI x0), some (vI x1), none] [] μ G).bind (fun q => ev 21 9 [a0, a1] (q.1.toList ++ []) q.2.1 q.2.2) else none := ev_calV (as := [vR z, vI x0, vI x1]) (r := []) mx_23 pg_21_6 rfl rfl (Nat.le_of_ble_eq_true rfl) (Nat.le_of_ble_eq_true rfl)
theorem pg_21_9 : mm_prog 21 9 = some (0, .aload_n 0, 10, []) := by decide +kernel
theorem xe_21_9 (a1 : Option MV) (x : Int) (st : List MV) (μ : MM) (G : MG) : ev 21 9 [some (vR x), a1] st μ G = ev 21 10 [some (vR x), a1] (vR x :: st) μ G := ev_stp pg_21_9 rfl
theorem pg_21_10 : mm_prog 21 10 = some (0, .iconst 1, 11, []) := by decide +kernel
theorem xe_21_10 (a0 a1 : Option MV) (st : List MV) (μ : MM) (G : MG) : ev 21 10 [a0, a1] st μ G = ev 21 11 [a0, a1] (vI (1) :: st) μ G := ev_stp pg_21_10 rfl
theorem pg_21_11 : mm_prog 21 11 = some (0, .aload_n 1, 12, []) := by decide +kernel
theorem xe_21_11 (a0 : Option MV) (x : Int) (st : List MV) (μ : MM) (G : MG) : ev 21 11 [a0, some (vR x)] st μ G = ev 21 12 [a0, some (vR x)] (vR x :: st) μ G := ev_stp pg_21_11 rfl
theorem pg_21_12 : mm_prog 21 12 = some (0, .getfield 34, 15, [8, 3, 0]) := by decide +kernel
theorem xe_21_12 (a0 a1 : Option MV) (x : Int) (st : List MV) (μ : MM) (G : MG) : ev 21 12 [a0, a1] (vR x :: st) μ G = if gk G x = 8 then ev 21 15 [a0, a1] (vI (μ x 3) :: st) μ G else none := ev_if pg_21_12 rfl
theorem pg_21_15 : mm_prog 21 15 = some (1, .invokevirtual 30, 18, [1, 23, 2, 3]) := by decide +kernel
theorem xe_21_15 (a0 a1 : Option MV) (x0 x1 z : Int) (μ : MM) (G : MG) : ev 21 15 [a0, a1] (vI x1 :: vI x0 :: vR z :: []) μ G = if gk G z = 3 ∧ 0 < z then (ev 23 0 [some (vR z), some (vI x0), some (vI x1), none] [] μ G).bind (fun q => ev 21 18 [a0, a1] (q.1.toList ++ []) q.2.1 q.2.2) else none := ev_calV (as := [vR z, vI x0, vI x1]) (r := []) mx_23 pg_21_15 rfl rfl (Nat.le_of_ble_eq_true rfl) (Nat.le_of_ble_eq_true rfl)
theorem pg_21_18 : mm_prog 21 18 = some (0, .aload_n 0, 19, []) := by decide +kernel
theorem xe_21_18 (a1 : Option MV) (x : Int) (st : List MV) (μ : MM) (G : MG) : ev 21 18 [some (vR x), a1] st μ G = ev 21 19 [some (vR x), a1] (vR x :: st) μ G := ev_stp pg_21_18 rfl
theorem pg_21_19 : mm_prog 21 19 = some (0, .iconst 2, 20, []) := by decide +kernel
theorem xe_21_19 (a0 a1 : Option MV) (st : List MV) (μ : MM) (G : MG) : ev 21 19 [a0, a1] st μ G = ev 21 20 [a0, a1] (vI (2) :: st) μ G := ev_stp pg_21_19 rfl
theorem pg_21_20 : mm_prog 21 20 = some (0, .aload_n 1, 21, []) := by decide +kernel
theorem xe_21_20 (a0 : Option MV) (x : Int) (st : List MV) (μ : MM) (G : MG) : ev 21 20 [a0, some (vR x)] st μ G = ev 21 21 [a0, some (vR x)] (vR x :: st) μ G := ev_stp pg_21_20 rfl
theorem pg_21_21 : mm_prog 21 21 = some (0, .getfield 37, 24, [8, 4, 0]) := by decide +kernel
theorem xe_21_21 (a0 a1 : Option MV) (x : Int) (st : List MV) (μ : MM) (G : MG) : ev 21 21 [a0, a1] (vR x :: st) μ G = if gk G x = 8 then ev 21 24 [a0, a1] (vI (μ x 4) :: st) μ G else none := ev_if pg_21_21 rfl
theorem pg_21_24 : mm_prog 21 24 = some (1, .invokevirtual 30, 27, [1, 23, 2, 3]) := by decide +kernel
theorem xe_21_24 (a0 a1 : Option MV) (x0 x1 z : Int) (μ : MM) (G : MG) : ev 21 24 [a0, a1] (vI x1 :: vI x0 :: vR z :: []) μ G = if gk G z = 3 ∧ 0 < z then (ev 23 0 [some (vR z), some (vI x0), some (vI x1), none] [] μ G).bind (fun q => ev 21 27 [a0, a1] (q.1.toList ++ []) q.2.1 q.2.2) else none := ev_calV (as := [vR z, vI x0, vI x1]) (r := []) mx_23 pg_21_24 rfl rfl (Nat.le_of_ble_eq_true rfl) (Nat.le_of_ble_eq_true rfl)
theorem pg_21_27 : mm_prog 21 27 = some (0, .aload_n 0, 28, []) := by decide +kernel
theorem xe_21_27 (a1 : Option MV) (x : Int) (st : List MV) (μ : MM) (G : MG) : ev 21 27 [some (vR x), a1] st μ G = ev 21 28 [some (vR x), a1] (vR x :: st) μ G := ev_stp pg_21_27 rfl
theorem pg_21_28 : mm_prog 21 28 = some (0, .iconst 3, 29, []) := by decide +kernel
theorem xe_21_28 (a0 a1 : Option MV) (st : List MV) (μ : MM) (G : MG) : ev 21 28 [a0, a1] st μ G = ev 21 29 [a0, a1] (vI (3) :: st) μ G := ev_stp pg_21_28 rfl
theorem pg_21_29 : mm_prog 21 29 = some (0, .aload_n 1, 30, []) := by decide +kernel
theorem xe_21_29 (a0 : Option MV) (x : Int) (st : List MV) (μ : MM) (G : MG) : ev 21 29 [a0, some (vR x)] st μ G = ev 21 30 [a0, some (vR x)] (vR x :: st) μ G := ev_stp pg_21_29 rfl
theorem pg_21_30 : mm_prog 21 30 = some (0, .getfield 40, 33, [8, 0, 2]) := by decide +kernel
theorem xe_21_30 (a0 a1 : Option MV) (x : Int) (st : List MV) (μ : MM) (G : MG) : ev 21 30 [a0, a1] (vR x :: st) μ G = if gk G x = 8 then ev 21 33 [a0, a1] (vR (μ x 0) :: st) μ G else none := ev_if pg_21_30 rfl
theorem pg_21_33 : mm_prog 21 33 = some (1, .invokestatic 43, 36, [0, 24, 1, 0]) := by decide +kernel
theorem xe_21_33 (a0 a1 : Option MV) (x0 r0 r1 : Int) (μ : MM) (G : MG) : ev 21 33 [a0, a1] (vR x0 :: [vI r0, vR r1]) μ G = (ev 24 0 [some (vR x0), none, none, none, none, none] [] μ G).bind (fun q => ev 21 36 [a0, a1] (q.1.toList ++ [vI r0, vR r1]) q.2.1 q.2.2) := ev_calS (as := [vR x0]) (r := [vI r0, vR r1]) mx_24 pg_21_33 rfl rfl (Nat.le_of_ble_eq_true rfl) (Nat.le_of_ble_eq_true rfl)
theorem pg_21_36 : mm_prog 21 36 = some (1, .invokevirtual 30, 39, [1, 23, 2, 3]) := by decide +kernel
theorem xe_21_36 (a0 a1 : Option MV) (x0 x1 z : Int) (μ : MM) (G : MG) : ev 21 36 [a0, a1] (vI x1 :: vI x0 :: vR z :: []) μ G = if gk G z = 3 ∧ 0 < z then (ev 23 0 [some (vR z), some (vI x0), some (vI x1), none] [] μ G).bind (fun q => ev 21 39 [a0, a1] (q.1.toList ++ []) q.2.1 q.2.2) else none := ev_calV (as := [vR z, vI x0, vI x1]) (r := []) mx_23 pg_21_36 rfl rfl (Nat.le_of_ble_eq_true rfl) (Nat.le_of_ble_eq_true rfl)
theorem pg_21_39 : mm_prog 21 39 = some (0, .aload_n 0, 40, []) := by decide +kernel
theorem xe_21_39 (a1 : Option MV) (x : Int) (st : List MV) (μ : MM) (G : MG) : ev 21 39 [some (vR x), a1] st μ G = ev 21 40 [some (vR x), a1] (vR x :: st) μ G := ev_stp pg_21_39 rfl
theorem pg_21_40 : mm_prog 21 40 = some (0, .iconst 4, 41, []) := by decide +kernel
theorem xe_21_40 (a0 a1 : Option MV) (st : List MV) (μ : MM) (G : MG) : ev 21 40 [a0, a1] st μ G = ev 21 41 [a0, a1] (vI (4) :: st) μ G := ev_stp pg_21_40 rfl
theorem pg_21_41 : mm_prog 21 41 = some (0, .aload_n 1, 42, []) := by decide +kernel
theorem xe_21_41 (a0 : Option MV) (x : Int) (st : List MV) (μ : MM) (G : MG) : ev 21 41 [a0, some (vR x)] st μ G = ev 21 42 [a0, some (vR x)] (vR x :: st) μ G := ev_stp pg_21_41 rfl
theorem pg_21_42 : mm_prog 21 42 = some (0, .getfield 47, 45, [8, 1, 2]) := by decide +kernel
theorem xe_21_42 (a0 a1 : Option MV) (x : Int) (st : List MV) (μ : MM) (G : MG) : ev 21 42 [a0, a1] (vR x :: st) μ G = if gk G x = 8 then ev 21 45 [a0, a1] (vR (μ x 1) :: st) μ G else none := ev_if pg_21_42 rfl
theorem pg_21_45 : mm_prog 21 45 = some (1, .invokestatic 43, 48, [0, 24, 1, 0]) := by decide +kernel
theorem xe_21_45 (a0 a1 : Option MV) (x0 r0 r1 : Int) (μ : MM) (G : MG) : ev 21 45 [a0, a1] (vR x0 :: [vI r0, vR r1]) μ G = (ev 24 0 [some (vR x0), none, none, none, none, none] [] μ G).bind (fun q => ev 21 48 [a0, a1] (q.1.toList ++ [vI r0, vR r1]) q.2.1 q.2.2) := ev_calS (as := [vR x0]) (r := [vI r0, vR r1]) mx_24 pg_21_45 rfl rfl (Nat.le_of_ble_eq_true rfl) (Nat.le_of_ble_eq_true rfl)
theorem pg_21_48 : mm_prog 21 48 = some (1, .invokevirtual 30, 51, [1, 23, 2, 3]) := by decide +kernel
theorem xe_21_48 (a0 a1 : Option MV) (x0 x1 z : Int) (μ : MM) (G : MG) : ev 21 48 [a0, a1] (vI x1 :: vI x0 :: vR z :: []) μ G = if gk G z = 3 ∧ 0 < z then (ev 23 0 [some (vR z), some (vI x0), some (vI x1), none] [] μ G).bind (fun q => ev 21 51 [a0, a1] (q.1.toList ++ []) q.2.1 q.2.2) else none := ev_calV (as := [vR z, vI x0, vI x1]) (r := []) mx_23 pg_21_48 rfl rfl (Nat.le_of_ble_eq_true rfl) (Nat.le_of_ble_eq_true rfl)
theorem pg_21_51 : mm_prog 21 51 = some (0, .aload_n 0, 52, []) := by decide +kernel
theorem xe_21_51 (a1 : Option MV) (x : Int) (st : List MV) (μ : MM) (G : MG) : ev 21 51 [some (vR x), a1] st μ G = ev 21 52 [some (vR x), a1] (vR x :: st) μ G := ev_stp pg_21_51 rfl
theorem pg_21_52 : mm_prog 21 52 = some (0, .bipush 7, 54, []) := by decide +kernel
theorem xe_21_52 (a0 a1 : Option MV) (st : List MV) (μ : MM) (G : MG) : ev 21 52 [a0, a1] st μ G = ev 21 54 [a0, a1] (vI (7) :: st) μ G := ev_stp pg_21_52 rfl
theorem pg_21_54 : mm_prog 21 54 = some (0, .aload_n 1, 55, []) := by decide +kernel
theorem xe_21_54 (a0 : Option MV) (x : Int) (st : List MV) (μ : MM) (G : MG) : ev 21 54 [a0, some (vR x)] st μ G = ev 21 55 [a0, some (vR x)] (vR x :: st) μ G := ev_stp pg_21_54 rfl
theorem pg_21_55 : mm_prog 21 55 = some (1, .invokevirtual 50, 58, [1, 80, 0, 8]) := by decide +kernel
theorem xe_21_55 (a0 a1 : Option MV) (z r0 r1 : Int) (μ : MM) (G : MG) : ev 21 55 [a0, a1] (vR z :: [vI r0, vR r1]) μ G = if gk G z = 8 ∧ 0 < z then (ev 80 0 [some (vR z)] [] μ G).bind (fun q => ev 21 58 [a0, a1] (q.1.toList ++ [vI r0, vR r1]) q.2.1 q.2.2) else none := ev_calV (as := [vR z]) (r := [vI r0, vR r1]) mx_80 pg_21_55 rfl rfl (Nat.le_of_ble_eq_true rfl) (Nat.le_of_ble_eq_true rfl)
theorem pg_21_58 : mm_prog 21 58 = some (0, .iconst 1, 59, []) := by decide +kernel
theorem xe_21_58 (a0 a1 : Option MV) (st : List MV) (μ : MM) (G : MG) : ev 21 58 [a0, a1] st μ G = ev 21 59 [a0, a1] (vI (1) :: st) μ G := ev_stp pg_21_58 rfl
theorem pg_21_59 : mm_prog 21 59 = some (0, .iadd, 60, []) := by decide +kernel
theorem xe_21_59 (a0 a1 : Option MV) (x y : Int) (st : List MV) (μ : MM) (G : MG) : ev 21 59 [a0, a1] (vI y :: vI x :: st) μ G = ev 21 60 [a0, a1] (vI (w32 (x + y)) :: st) μ G := ev_stp pg_21_59 rfl
theorem pg_21_60 : mm_prog 21 60 = some (1, .invokevirtual 30, 63, [1, 23, 2, 3]) := by decide +kernel
theorem xe_21_60 (a0 a1 : Option MV) (x0 x1 z : Int) (μ : MM) (G : MG) : ev 21 60 [a0, a1] (vI x1 :: vI x0 :: vR z :: []) μ G = if gk G z = 3 ∧ 0 < z then (ev 23 0 [some (vR z), some (vI x0), some (vI x1), none] [] μ G).bind (fun q => ev 21 63 [a0, a1] (q.1.toList ++ []) q.2.1 q.2.2) else none := ev_calV (as := [vR z, vI x0, vI x1]) (r := []) mx_23 pg_21_60 rfl rfl (Nat.le_of_ble_eq_true rfl) (Nat.le_of_ble_eq_true rfl)
theorem pg_21_63 : mm_prog 21 63 = some (2, .return_, 64, []) := by decide +kernel
theorem xe_21_63 (a0 a1 : Option MV) (μ : MM) (G : MG) : ev 21 63 [a0, a1] [] μ G = some (none, μ, G) := ev_ret pg_21_63 rfl
-- X3_close
theorem pg_22_0 : mm_prog 22 0 = some (0, .aload_n 0, 1, []) := by decide +kernel
theorem xe_22_0 (a1 a2 : Option MV) (x : Int) (st : List MV) (μ : MM) (G : MG) : ev 22 0 [some (vR x), a1, a2] st μ G = ev 22 1 [some (vR x), a1, a2] (vR x :: st) μ G := ev_stp pg_22_0 rfl
theorem pg_22_1 : mm_prog 22 1 = some (0, .iconst 5, 2, []) := by decide +kernel
theorem xe_22_1 (a0 a1 a2 : Option MV) (st : List MV) (μ : MM) (G : MG) : ev 22 1 [a0, a1, a2] st μ G = ev 22 2 [a0, a1, a2] (vI (5) :: st) μ G := ev_stp pg_22_1 rfl
theorem pg_22_2 : mm_prog 22 2 = some (0, .iload_n 1, 3, []) := by decide +kernel
theorem xe_22_2 (a0 a2 : Option MV) (x : Int) (st : List MV) (μ : MM) (G : MG) : ev 22 2 [a0, some (vI x), a2] st μ G = ev 22 3 [a0, some (vI x), a2] (vI x :: st) μ G := ev_stp pg_22_2 rfl
theorem pg_22_3 : mm_prog 22 3 = some (1, .invokevirtual 30, 6, [1, 23, 2, 3]) := by decide +kernel
theorem xe_22_3 (a0 a1 a2 : Option MV) (x0 x1 z : Int) (μ : MM) (G : MG) : ev 22 3 [a0, a1, a2] (vI x1 :: vI x0 :: vR z :: []) μ G = if gk G z = 3 ∧ 0 < z then (ev 23 0 [some (vR z), some (vI x0), some (vI x1), none] [] μ G).bind (fun q => ev 22 6 [a0, a1, a2] (q.1.toList ++ []) q.2.1 q.2.2) else none := ev_calV (as := [vR z, vI x0, vI x1]) (r := []) mx_23 pg_22_3 rfl rfl (Nat.le_of_ble_eq_true rfl) (Nat.le_of_ble_eq_true rfl)
theorem pg_22_6 : mm_prog 22 6 = some (0, .aload_n 0, 7, []) := by decide +kernel
theorem xe_22_6 (a1 a2 : Option MV) (x : Int) (st : List MV) (μ : MM) (G : MG) : ev 22 6 [some (vR x), a1, a2] st μ G = ev 22 7 [some (vR x), a1, a2] (vR x :: st) μ G := ev_stp pg_22_6 rfl
theorem pg_22_7 : mm_prog 22 7 = some (0, .bipush 6, 9, []) := by decide +kernel
theorem xe_22_7 (a0 a1 a2 : Option MV) (st : List MV) (μ : MM) (G : MG) : ev 22 7 [a0, a1, a2] st μ G = ev 22 9 [a0, a1, a2] (vI (6) :: st) μ G := ev_stp pg_22_7 rfl
theorem pg_22_9 : mm_prog 22 9 = some (0, .iload_n 2, 10, []) := by decide +kernel
theorem xe_22_9 (a0 a1 : Option MV) (x : Int) (st : List MV) (μ : MM) (G : MG) : ev 22 9 [a0, a1, some (vI x)] st μ G = ev 22 10 [a0, a1, some (vI x)] (vI x :: st) μ G := ev_stp pg_22_9 rfl
theorem pg_22_10 : mm_prog 22 10 = some (1, .invokevirtual 30, 13, [1, 23, 2, 3]) := by decide +kernel
theorem xe_22_10 (a0 a1 a2 : Option MV) (x0 x1 z : Int) (μ : MM) (G : MG) : ev 22 10 [a0, a1, a2] (vI x1 :: vI x0 :: vR z :: []) μ G = if gk G z = 3 ∧ 0 < z then (ev 23 0 [some (vR z), some (vI x0), some (vI x1), none] [] μ G).bind (fun q => ev 22 13 [a0, a1, a2] (q.1.toList ++ []) q.2.1 q.2.2) else none := ev_calV (as := [vR z, vI x0, vI x1]) (r := []) mx_23 pg_22_10 rfl rfl (Nat.le_of_ble_eq_true rfl) (Nat.le_of_ble_eq_true rfl)
theorem pg_22_13 : mm_prog 22 13 = some (0, .iload_n 2, 14, []) := by decide +kernel
theorem xe_22_13 (a0 a1 : Option MV) (x : Int) (st : List MV) (μ : MM) (G : MG) : ev 22 13 [a0, a1, some (vI x)] st μ G = ev 22 14 [a0, a1, some (vI x)] (vI x :: st) μ G := ev_stp pg_22_13 rfl
theorem pg_22_14 : mm_prog 22 14 = some (0, .iconst 1, 15, []) := by decide +kernel
theorem xe_22_14 (a0 a1 a2 : Option MV) (st : List MV) (μ : MM) (G : MG) : ev 22 14 [a0, a1, a2] st μ G = ev 22 15 [a0, a1, a2] (vI (1) :: st) μ G := ev_stp pg_22_14 rfl
theorem pg_22_15 : mm_prog 22 15 = some (0, .if_icmp .lt 51, 18, []) := by decide +kernel
theorem xe_22_15 (a0 a1 a2 : Option MV) (x y : Int) (st : List MV) (μ : MM) (G : MG) : ev 22 15 [a0, a1, a2] (vI y :: vI x :: st) μ G = if x < y then ev 22 66 [a0, a1, a2] st μ G else ev 22 18 [a0, a1, a2] st μ G := ev_br (mm_cnd_lt x y) pg_22_15 rfl
theorem pg_22_18 : mm_prog 22 18 = some (0, .iload_n 2, 19, []) := by decide +kernel
theorem xe_22_18 (a0 a1 : Option MV) (x : Int) (st : List MV) (μ : MM) (G : MG) : ev 22 18 [a0, a1, some (vI x)] st μ G = ev 22 19 [a0, a1, some (vI x)] (vI x :: st) μ G := ev_stp pg_22_18 rfl
theorem pg_22_19 : mm_prog 22 19 = some (0, .bipush 6, 21, []) := by decide +kernel
theorem xe_22_19 (a0 a1 a2 : Option MV) (st : List MV) (μ : MM) (G : MG) : ev 22 19 [a0, a1, a2] st μ G = ev 22 21 [a0, a1, a2] (vI (6) :: st) μ G := ev_stp pg_22_19 rfl
theorem pg_22_21 : mm_prog 22 21 = some (0, .if_icmp .gt 45, 24, []) := by decide +kernel
theorem xe_22_21 (a0 a1 a2 : Option MV) (x y : Int) (st : List MV) (μ : MM) (G : MG) : ev 22 21 [a0, a1, a2] (vI y :: vI x :: st) μ G = if y < x then ev 22 66 [a0, a1, a2] st μ G else ev 22 24 [a0, a1, a2] st μ G := ev_br (mm_cnd_gt x y) pg_22_21 rfl
theorem pg_22_24 : mm_prog 22 24 = some (0, .aload_n 0, 25, []) := by decide +kernel
theorem xe_22_24 (a1 a2 : Option MV) (x : Int) (st : List MV) (μ : MM) (G : MG) : ev 22 24 [some (vR x), a1, a2] st μ G = ev 22 25 [some (vR x), a1, a2] (vR x :: st) μ G := ev_stp pg_22_24 rfl
theorem pg_22_25 : mm_prog 22 25 = some (0, .getfield 22, 28, [3, 3, 0]) := by decide +kernel
theorem xe_22_25 (a0 a1 a2 : Option MV) (x : Int) (st : List MV) (μ : MM) (G : MG) : ev 22 25 [a0, a1, a2] (vR x :: st) μ G = if gk G x = 3 then ev 22 28 [a0, a1, a2] (vI (μ x 3) :: st) μ G else none := ev_if pg_22_25 rfl
theorem pg_22_28 : mm_prog 22 28 = some (0, .ifCond .lt 38, 31, []) := by decide +kernel
theorem xe_22_28 (a0 a1 a2 : Option MV) (x : Int) (st : List MV) (μ : MM) (G : MG) : ev 22 28 [a0, a1, a2] (vI x :: st) μ G = if x < 0 then ev 22 66 [a0, a1, a2] st μ G else ev 22 31 [a0, a1, a2] st μ G := ev_br (mm_cnd_lt x 0) pg_22_28 rfl
theorem pg_22_31 : mm_prog 22 31 = some (0, .aload_n 0, 32, []) := by decide +kernel
theorem xe_22_31 (a1 a2 : Option MV) (x : Int) (st : List MV) (μ : MM) (G : MG) : ev 22 31 [some (vR x), a1, a2] st μ G = ev 22 32 [some (vR x), a1, a2] (vR x :: st) μ G := ev_stp pg_22_31 rfl
theorem pg_22_32 : mm_prog 22 32 = some (0, .getfield 22, 35, [3, 3, 0]) := by decide +kernel
theorem xe_22_32 (a0 a1 a2 : Option MV) (x : Int) (st : List MV) (μ : MM) (G : MG) : ev 22 32 [a0, a1, a2] (vR x :: st) μ G = if gk G x = 3 then ev 22 35 [a0, a1, a2] (vI (μ x 3) :: st) μ G else none := ev_if pg_22_32 rfl
theorem pg_22_35 : mm_prog 22 35 = some (0, .aload_n 0, 36, []) := by decide +kernel
theorem xe_22_35 (a1 a2 : Option MV) (x : Int) (st : List MV) (μ : MM) (G : MG) : ev 22 35 [some (vR x), a1, a2] st μ G = ev 22 36 [some (vR x), a1, a2] (vR x :: st) μ G := ev_stp pg_22_35 rfl
theorem pg_22_36 : mm_prog 22 36 = some (0, .getfield 15, 39, [3, 1, 2]) := by decide +kernel
theorem xe_22_36 (a0 a1 a2 : Option MV) (x : Int) (st : List MV) (μ : MM) (G : MG) : ev 22 36 [a0, a1, a2] (vR x :: st) μ G = if gk G x = 3 then ev 22 39 [a0, a1, a2] (vR (μ x 1) :: st) μ G else none := ev_if pg_22_36 rfl
theorem pg_22_39 : mm_prog 22 39 = some (0, .arraylength, 40, []) := by decide +kernel
theorem xe_22_39 (a0 a1 a2 : Option MV) (x : Int) (st : List MV) (μ : MM) (G : MG) : ev 22 39 [a0, a1, a2] (vR x :: st) μ G = if 100 ≤ gk G x then ev 22 40 [a0, a1, a2] (vI (gl G x) :: st) μ G else none := ev_if pg_22_39 rfl
theorem pg_22_40 : mm_prog 22 40 = some (0, .if_icmp .ge 26, 43, []) := by decide +kernel
theorem xe_22_40 (a0 a1 a2 : Option MV) (x y : Int) (st : List MV) (μ : MM) (G : MG) : ev 22 40 [a0, a1, a2] (vI y :: vI x :: st) μ G = if y ≤ x then ev 22 66 [a0, a1, a2] st μ G else ev 22 43 [a0, a1, a2] st μ G := ev_br (mm_cnd_ge x y) pg_22_40 rfl
theorem pg_22_43 : mm_prog 22 43 = some (0, .aload_n 0, 44, []) := by decide +kernel
theorem xe_22_43 (a1 a2 : Option MV) (x : Int) (st : List MV) (μ : MM) (G : MG) : ev 22 43 [some (vR x), a1, a2] st μ G = ev 22 44 [some (vR x), a1, a2] (vR x :: st) μ G := ev_stp pg_22_43 rfl
theorem pg_22_44 : mm_prog 22 44 = some (0, .getfield 15, 47, [3, 1, 2]) := by decide +kernel
theorem xe_22_44 (a0 a1 a2 : Option MV) (x : Int) (st : List MV) (μ : MM) (G : MG) : ev 22 44 [a0, a1, a2] (vR x :: st) μ G = if gk G x = 3 then ev 22 47 [a0, a1, a2] (vR (μ x 1) :: st) μ G else none := ev_if pg_22_44 rfl
theorem pg_22_47 : mm_prog 22 47 = some (0, .aload_n 0, 48, []) := by decide +kernel
theorem xe_22_47 (a1 a2 : Option MV) (x : Int) (st : List MV) (μ : MM) (G : MG) : ev 22 47 [some (vR x), a1, a2] st μ G = ev 22 48 [some (vR x), a1, a2] (vR x :: st) μ G := ev_stp pg_22_47 rfl
theorem pg_22_48 : mm_prog 22 48 = some (0, .getfield 22, 51, [3, 3, 0]) := by decide +kernel
theorem xe_22_48 (a0 a1 a2 : Option MV) (x : Int) (st : List MV) (μ : MM) (G : MG) : ev 22 48 [a0, a1, a2] (vR x :: st) μ G = if gk G x = 3 then ev 22 51 [a0, a1, a2] (vI (μ x 3) :: st) μ G else none := ev_if pg_22_48 rfl
theorem pg_22_51 : mm_prog 22 51 = some (0, .aload_n 0, 52, []) := by decide +kernel
theorem xe_22_51 (a1 a2 : Option MV) (x : Int) (st : List MV) (μ : MM) (G : MG) : ev 22 51 [some (vR x), a1, a2] st μ G = ev 22 52 [some (vR x), a1, a2] (vR x :: st) μ G := ev_stp pg_22_51 rfl
theorem pg_22_52 : mm_prog 22 52 = some (0, .getfield 18, 55, [3, 2, 0]) := by decide +kernel
theorem xe_22_52 (a0 a1 a2 : Option MV) (x : Int) (st : List MV) (μ : MM) (G : MG) : ev 22 52 [a0, a1, a2] (vR x :: st) μ G = if gk G x = 3 then ev 22 55 [a0, a1, a2] (vI (μ x 2) :: st) μ G else none := ev_if pg_22_52 rfl
theorem pg_22_55 : mm_prog 22 55 = some (0, .iastore, 56, []) := by decide +kernel
theorem xe_22_55 (a0 a1 a2 : Option MV) (x y z : Int) (st : List MV) (μ : MM) (G : MG) : ev 22 55 [a0, a1, a2] (vI x :: vI y :: vR z :: st) μ G = if gk G z = 100 ∧ 0 ≤ y ∧ y < gl G z ∧ 10 ≤ z then ev 22 56 [a0, a1, a2] st (mset μ z y x) G else none := ev_if pg_22_55 rfl
theorem pg_22_56 : mm_prog 22 56 = some (0, .aload_n 0, 57, []) := by decide +kernel
theorem xe_22_56 (a1 a2 : Option MV) (x : Int) (st : List MV) (μ : MM) (G : MG) : ev 22 56 [some (vR x), a1, a2] st μ G = ev 22 57 [some (vR x), a1, a2] (vR x :: st) μ G := ev_stp pg_22_56 rfl
theorem pg_22_57 : mm_prog 22 57 = some (0, .dup, 58, []) := by decide +kernel
theorem xe_22_57 (a0 a1 a2 : Option MV) (x : Int) (st : List MV) (μ : MM) (G : MG) : ev 22 57 [a0, a1, a2] (vR x :: st) μ G = ev 22 58 [a0, a1, a2] (vR x :: vR x :: st) μ G := ev_stp pg_22_57 rfl
theorem pg_22_58 : mm_prog 22 58 = some (0, .getfield 22, 61, [3, 3, 0]) := by decide +kernel
theorem xe_22_58 (a0 a1 a2 : Option MV) (x : Int) (st : List MV) (μ : MM) (G : MG) : ev 22 58 [a0, a1, a2] (vR x :: st) μ G = if gk G x = 3 then ev 22 61 [a0, a1, a2] (vI (μ x 3) :: st) μ G else none := ev_if pg_22_58 rfl
theorem pg_22_61 : mm_prog 22 61 = some (0, .iconst 1, 62, []) := by decide +kernel
theorem xe_22_61 (a0 a1 a2 : Option MV) (st : List MV) (μ : MM) (G : MG) : ev 22 61 [a0, a1, a2] st μ G = ev 22 62 [a0, a1, a2] (vI (1) :: st) μ G := ev_stp pg_22_61 rfl
theorem pg_22_62 : mm_prog 22 62 = some (0, .iadd, 63, []) := by decide +kernel
theorem xe_22_62 (a0 a1 a2 : Option MV) (x y : Int) (st : List MV) (μ : MM) (G : MG) : ev 22 62 [a0, a1, a2] (vI y :: vI x :: st) μ G = ev 22 63 [a0, a1, a2] (vI (w32 (x + y)) :: st) μ G := ev_stp pg_22_62 rfl
theorem pg_22_63 : mm_prog 22 63 = some (0, .putfield 22, 66, [3, 3, 0]) := by decide +kernel
theorem xe_22_63 (a0 a1 a2 : Option MV) (x y : Int) (st : List MV) (μ : MM) (G : MG) : ev 22 63 [a0, a1, a2] (vI x :: vR y :: st) μ G = if gk G y = 3 then ev 22 66 [a0, a1, a2] st (mset μ y 3 x) G else none := ev_put0 pg_22_63
theorem pg_22_66 : mm_prog 22 66 = some (0, .aload_n 0, 67, []) := by decide +kernel
theorem xe_22_66 (a1 a2 : Option MV) (x : Int) (st : List MV) (μ : MM) (G : MG) : ev 22 66 [some (vR x), a1, a2] st μ G = ev 22 67 [some (vR x), a1, a2] (vR x :: st) μ G := ev_stp pg_22_66 rfl
theorem pg_22_67 : mm_prog 22 67 = some (0, .getfield 18, 70, [3, 2, 0]) := by decide +kernel
theorem xe_22_67 (a0 a1 a2 : Option MV) (x : Int) (st : List MV) (μ : MM) (G : MG) : ev 22 67 [a0, a1, a2] (vR x :: st) μ G = if gk G x = 3 then ev 22 70 [a0, a1, a2] (vI (μ x 2) :: st) μ G else none := ev_if pg_22_67 rfl
theorem pg_22_70 : mm_prog 22 70 = some (0, .sipush 192, 73, []) := by decide +kernel
theorem xe_22_70 (a0 a1 a2 : Option MV) (st : List MV) (μ : MM) (G : MG) : ev 22 70 [a0, a1, a2] st μ G = ev 22 73 [a0, a1, a2] (vI (192) :: st) μ G := ev_stp pg_22_70 rfl
theorem pg_22_73 : mm_prog 22 73 = some (0, .if_icmp .ge 13, 76, []) := by decide +kernel
theorem xe_22_73 (a0 a1 a2 : Option MV) (x y : Int) (st : List MV) (μ : MM) (G : MG) : ev 22 73 [a0, a1, a2] (vI y :: vI x :: st) μ G = if y ≤ x then ev 22 86 [a0, a1, a2] st μ G else ev 22 76 [a0, a1, a2] st μ G := ev_br (mm_cnd_ge x y) pg_22_73 rfl
theorem pg_22_76 : mm_prog 22 76 = some (0, .aload_n 0, 77, []) := by decide +kernel
theorem xe_22_76 (a1 a2 : Option MV) (x : Int) (st : List MV) (μ : MM) (G : MG) : ev 22 76 [some (vR x), a1, a2] st μ G = ev 22 77 [some (vR x), a1, a2] (vR x :: st) μ G := ev_stp pg_22_76 rfl
theorem pg_22_77 : mm_prog 22 77 = some (0, .dup, 78, []) := by decide +kernel
theorem xe_22_77 (a0 a1 a2 : Option MV) (x : Int) (st : List MV) (μ : MM) (G : MG) : ev 22 77 [a0, a1, a2] (vR x :: st) μ G = ev 22 78 [a0, a1, a2] (vR x :: vR x :: st) μ G := ev_stp pg_22_77 rfl
theorem pg_22_78 : mm_prog 22 78 = some (0, .getfield 18, 81, [3, 2, 0]) := by decide +kernel
theorem xe_22_78 (a0 a1 a2 : Option MV) (x : Int) (st : List MV) (μ : MM) (G : MG) : ev 22 78 [a0, a1, a2] (vR x :: st) μ G = if gk G x = 3 then ev 22 81 [a0, a1, a2] (vI (μ x 2) :: st) μ G else none := ev_if pg_22_78 rfl
theorem pg_22_81 : mm_prog 22 81 = some (0, .iconst 1, 82, []) := by decide +kernel
theorem xe_22_81 (a0 a1 a2 : Option MV) (st : List MV) (μ : MM) (G : MG) : ev 22 81 [a0, a1, a2] st μ G = ev 22 82 [a0, a1, a2] (vI (1) :: st) μ G := ev_stp pg_22_81 rfl
theorem pg_22_82 : mm_prog 22 82 = some (0, .iadd, 83, []) := by decide +kernel
theorem xe_22_82 (a0 a1 a2 : Option MV) (x y : Int) (st : List MV) (μ : MM) (G : MG) : ev 22 82 [a0, a1, a2] (vI y :: vI x :: st) μ G = ev 22 83 [a0, a1, a2] (vI (w32 (x + y)) :: st) μ G := ev_stp pg_22_82 rfl
theorem pg_22_83 : mm_prog 22 83 = some (0, .putfield 18, 86, [3, 2, 0]) := by decide +kernel
theorem xe_22_83 (a0 a1 a2 : Option MV) (x y : Int) (st : List MV) (μ : MM) (G : MG) : ev 22 83 [a0, a1, a2] (vI x :: vR y :: st) μ G = if gk G y = 3 then ev 22 86 [a0, a1, a2] st (mset μ y 2 x) G else none := ev_put0 pg_22_83
theorem pg_22_86 : mm_prog 22 86 = some (2, .return_, 87, []) := by decide +kernel
theorem xe_22_86 (a0 a1 a2 : Option MV) (μ : MM) (G : MG) : ev 22 86 [a0, a1, a2] [] μ G = some (none, μ, G) := ev_ret pg_22_86 rfl
-- X3_put
theorem pg_23_0 : mm_prog 23 0 = some (0, .aload_n 0, 1, []) := by decide +kernel
theorem xe_23_0 (a1 a2 a3 : Option MV) (x : Int) (st : List MV) (μ : MM) (G : MG) : ev 23 0 [some (vR x), a1, a2, a3] st μ G = ev 23 1 [some (vR x), a1, a2, a3] (vR x :: st) μ G := ev_stp pg_23_0 rfl
theorem pg_23_1 : mm_prog 23 1 = some (0, .getfield 18, 4, [3, 2, 0]) := by decide +kernel
theorem xe_23_1 (a0 a1 a2 a3 : Option MV) (x : Int) (st : List MV) (μ : MM) (G : MG) : ev 23 1 [a0, a1, a2, a3] (vR x :: st) μ G = if gk G x = 3 then ev 23 4 [a0, a1, a2, a3] (vI (μ x 2) :: st) μ G else none := ev_if pg_23_1 rfl
theorem pg_23_4 : mm_prog 23 4 = some (0, .bipush 8, 6, []) := by decide +kernel
theorem xe_23_4 (a0 a1 a2 a3 : Option MV) (st : List MV) (μ : MM) (G : MG) : ev 23 4 [a0, a1, a2, a3] st μ G = ev 23 6 [a0, a1, a2, a3] (vI (8) :: st) μ G := ev_stp pg_23_4 rfl
theorem pg_23_6 : mm_prog 23 6 = some (0, .imul, 7, []) := by decide +kernel
theorem xe_23_6 (a0 a1 a2 a3 : Option MV) (x y : Int) (st : List MV) (μ : MM) (G : MG) : ev 23 6 [a0, a1, a2, a3] (vI y :: vI x :: st) μ G = ev 23 7 [a0, a1, a2, a3] (vI (w32 (x * y)) :: st) μ G := ev_stp pg_23_6 rfl
theorem pg_23_7 : mm_prog 23 7 = some (0, .iload_n 1, 8, []) := by decide +kernel
theorem xe_23_7 (a0 a2 a3 : Option MV) (x : Int) (st : List MV) (μ : MM) (G : MG) : ev 23 7 [a0, some (vI x), a2, a3] st μ G = ev 23 8 [a0, some (vI x), a2, a3] (vI x :: st) μ G := ev_stp pg_23_7 rfl
theorem pg_23_8 : mm_prog 23 8 = some (0, .iadd, 9, []) := by decide +kernel
theorem xe_23_8 (a0 a1 a2 a3 : Option MV) (x y : Int) (st : List MV) (μ : MM) (G : MG) : ev 23 8 [a0, a1, a2, a3] (vI y :: vI x :: st) μ G = ev 23 9 [a0, a1, a2, a3] (vI (w32 (x + y)) :: st) μ G := ev_stp pg_23_8 rfl
theorem pg_23_9 : mm_prog 23 9 = some (0, .istore_n 3, 10, []) := by decide +kernel
theorem xe_23_9 (a0 a1 a2 a3 : Option MV) (x : Int) (st : List MV) (μ : MM) (G : MG) (h : mm_nL a2 = true) : ev 23 9 [a0, a1, a2, a3] (vI x :: st) μ G = ev 23 10 [a0, a1, a2, some (vI x)] st μ G := ev_st pg_23_9 rfl (mm_nl_of h) (Nat.le_of_ble_eq_true rfl)
theorem pg_23_10 : mm_prog 23 10 = some (0, .iload_n 3, 11, []) := by decide +kernel
theorem xe_23_10 (a0 a1 a2 : Option MV) (x : Int) (st : List MV) (μ : MM) (G : MG) : ev 23 10 [a0, a1, a2, some (vI x)] st μ G = ev 23 11 [a0, a1, a2, some (vI x)] (vI x :: st) μ G := ev_stp pg_23_10 rfl
theorem pg_23_11 : mm_prog 23 11 = some (0, .ifCond .lt 19, 14, []) := by decide +kernel
theorem xe_23_11 (a0 a1 a2 a3 : Option MV) (x : Int) (st : List MV) (μ : MM) (G : MG) : ev 23 11 [a0, a1, a2, a3] (vI x :: st) μ G = if x < 0 then ev 23 30 [a0, a1, a2, a3] st μ G else ev 23 14 [a0, a1, a2, a3] st μ G := ev_br (mm_cnd_lt x 0) pg_23_11 rfl
theorem pg_23_14 : mm_prog 23 14 = some (0, .iload_n 3, 15, []) := by decide +kernel
theorem xe_23_14 (a0 a1 a2 : Option MV) (x : Int) (st : List MV) (μ : MM) (G : MG) : ev 23 14 [a0, a1, a2, some (vI x)] st μ G = ev 23 15 [a0, a1, a2, some (vI x)] (vI x :: st) μ G := ev_stp pg_23_14 rfl
theorem pg_23_15 : mm_prog 23 15 = some (0, .aload_n 0, 16, []) := by decide +kernel
theorem xe_23_15 (a1 a2 a3 : Option MV) (x : Int) (st : List MV) (μ : MM) (G : MG) : ev 23 15 [some (vR x), a1, a2, a3] st μ G = ev 23 16 [some (vR x), a1, a2, a3] (vR x :: st) μ G := ev_stp pg_23_15 rfl
theorem pg_23_16 : mm_prog 23 16 = some (0, .getfield 11, 19, [3, 0, 2]) := by decide +kernel
theorem xe_23_16 (a0 a1 a2 a3 : Option MV) (x : Int) (st : List MV) (μ : MM) (G : MG) : ev 23 16 [a0, a1, a2, a3] (vR x :: st) μ G = if gk G x = 3 then ev 23 19 [a0, a1, a2, a3] (vR (μ x 0) :: st) μ G else none := ev_if pg_23_16 rfl
theorem pg_23_19 : mm_prog 23 19 = some (0, .arraylength, 20, []) := by decide +kernel
theorem xe_23_19 (a0 a1 a2 a3 : Option MV) (x : Int) (st : List MV) (μ : MM) (G : MG) : ev 23 19 [a0, a1, a2, a3] (vR x :: st) μ G = if 100 ≤ gk G x then ev 23 20 [a0, a1, a2, a3] (vI (gl G x) :: st) μ G else none := ev_if pg_23_19 rfl
theorem pg_23_20 : mm_prog 23 20 = some (0, .if_icmp .ge 10, 23, []) := by decide +kernel
theorem xe_23_20 (a0 a1 a2 a3 : Option MV) (x y : Int) (st : List MV) (μ : MM) (G : MG) : ev 23 20 [a0, a1, a2, a3] (vI y :: vI x :: st) μ G = if y ≤ x then ev 23 30 [a0, a1, a2, a3] st μ G else ev 23 23 [a0, a1, a2, a3] st μ G := ev_br (mm_cnd_ge x y) pg_23_20 rfl
theorem pg_23_23 : mm_prog 23 23 = some (0, .aload_n 0, 24, []) := by decide +kernel
theorem xe_23_23 (a1 a2 a3 : Option MV) (x : Int) (st : List MV) (μ : MM) (G : MG) : ev 23 23 [some (vR x), a1, a2, a3] st μ G = ev 23 24 [some (vR x), a1, a2, a3] (vR x :: st) μ G := ev_stp pg_23_23 rfl
theorem pg_23_24 : mm_prog 23 24 = some (0, .getfield 11, 27, [3, 0, 2]) := by decide +kernel
theorem xe_23_24 (a0 a1 a2 a3 : Option MV) (x : Int) (st : List MV) (μ : MM) (G : MG) : ev 23 24 [a0, a1, a2, a3] (vR x :: st) μ G = if gk G x = 3 then ev 23 27 [a0, a1, a2, a3] (vR (μ x 0) :: st) μ G else none := ev_if pg_23_24 rfl
theorem pg_23_27 : mm_prog 23 27 = some (0, .iload_n 3, 28, []) := by decide +kernel
theorem xe_23_27 (a0 a1 a2 : Option MV) (x : Int) (st : List MV) (μ : MM) (G : MG) : ev 23 27 [a0, a1, a2, some (vI x)] st μ G = ev 23 28 [a0, a1, a2, some (vI x)] (vI x :: st) μ G := ev_stp pg_23_27 rfl
theorem pg_23_28 : mm_prog 23 28 = some (0, .iload_n 2, 29, []) := by decide +kernel
theorem xe_23_28 (a0 a1 a3 : Option MV) (x : Int) (st : List MV) (μ : MM) (G : MG) : ev 23 28 [a0, a1, some (vI x), a3] st μ G = ev 23 29 [a0, a1, some (vI x), a3] (vI x :: st) μ G := ev_stp pg_23_28 rfl
theorem pg_23_29 : mm_prog 23 29 = some (0, .iastore, 30, []) := by decide +kernel
theorem xe_23_29 (a0 a1 a2 a3 : Option MV) (x y z : Int) (st : List MV) (μ : MM) (G : MG) : ev 23 29 [a0, a1, a2, a3] (vI x :: vI y :: vR z :: st) μ G = if gk G z = 100 ∧ 0 ≤ y ∧ y < gl G z ∧ 10 ≤ z then ev 23 30 [a0, a1, a2, a3] st (mset μ z y x) G else none := ev_if pg_23_29 rfl
theorem pg_23_30 : mm_prog 23 30 = some (2, .return_, 31, []) := by decide +kernel
theorem xe_23_30 (a0 a1 a2 a3 : Option MV) (μ : MM) (G : MG) : ev 23 30 [a0, a1, a2, a3] [] μ G = some (none, μ, G) := ev_ret pg_23_30 rfl
-- X3_digits
theorem pg_24_0 : mm_prog 24 0 = some (0, .iconst 0, 1, []) := by decide +kernel
theorem xe_24_0 (a0 a1 a2 a3 a4 a5 : Option MV) (st : List MV) (μ : MM) (G : MG) : ev 24 0 [a0, a1, a2, a3, a4, a5] st μ G = ev 24 1 [a0, a1, a2, a3, a4, a5] (vI (0) :: st) μ G := ev_stp pg_24_0 rfl
theorem pg_24_1 : mm_prog 24 1 = some (0, .istore_n 1, 2, []) := by decide +kernel
theorem xe_24_1 (a0 a1 a2 a3 a4 a5 : Option MV) (x : Int) (st : List MV) (μ : MM) (G : MG) (h : mm_nL a0 = true) : ev 24 1 [a0, a1, a2, a3, a4, a5] (vI x :: st) μ G = ev 24 2 [a0, some (vI x), a2, a3, a4, a5] st μ G := ev_st pg_24_1 rfl (mm_nl_of h) (Nat.le_of_ble_eq_true rfl)
theorem pg_24_2 : mm_prog 24 2 = some (0, .aload_n 0, 3, []) := by decide +kernel
theorem xe_24_2 (a1 a2 a3 a4 a5 : Option MV) (x : Int) (st : List MV) (μ : MM) (G : MG) : ev 24 2 [some (vR x), a1, a2, a3, a4, a5] st μ G = ev 24 3 [some (vR x), a1, a2, a3, a4, a5] (vR x :: st) μ G := ev_stp pg_24_2 rfl
theorem pg_24_3 : mm_prog 24 3 = some (0, .astore_n 2, 4, []) := by decide +kernel
theorem xe_24_3 (a0 a1 a2 a3 a4 a5 : Option MV) (x : Int) (st : List MV) (μ : MM) (G : MG) (h : mm_nL a1 = true) : ev 24 3 [a0, a1, a2, a3, a4, a5] (vR x :: st) μ G = ev 24 4 [a0, a1, some (vR x), a3, a4, a5] st μ G := ev_st pg_24_3 rfl (mm_nl_of h) (Nat.le_of_ble_eq_true rfl)
theorem pg_24_4 : mm_prog 24 4 = some (0, .aload_n 2, 5, []) := by decide +kernel
theorem xe_24_4 (a0 a1 a3 a4 a5 : Option MV) (x : Int) (st : List MV) (μ : MM) (G : MG) : ev 24 4 [a0, a1, some (vR x), a3, a4, a5] st μ G = ev 24 5 [a0, a1, some (vR x), a3, a4, a5] (vR x :: st) μ G := ev_stp pg_24_4 rfl
theorem pg_24_5 : mm_prog 24 5 = some (0, .arraylength, 6, []) := by decide +kernel
theorem xe_24_5 (a0 a1 a2 a3 a4 a5 : Option MV) (x : Int) (st : List MV) (μ : MM) (G : MG) : ev 24 5 [a0, a1, a2, a3, a4, a5] (vR x :: st) μ G = if 100 ≤ gk G x then ev 24 6 [a0, a1, a2, a3, a4, a5] (vI (gl G x) :: st) μ G else none := ev_if pg_24_5 rfl
theorem pg_24_6 : mm_prog 24 6 = some (0, .istore_n 3, 7, []) := by decide +kernel
theorem xe_24_6 (a0 a1 a2 a3 a4 a5 : Option MV) (x : Int) (st : List MV) (μ : MM) (G : MG) (h : mm_nL a2 = true) : ev 24 6 [a0, a1, a2, a3, a4, a5] (vI x :: st) μ G = ev 24 7 [a0, a1, a2, some (vI x), a4, a5] st μ G := ev_st pg_24_6 rfl (mm_nl_of h) (Nat.le_of_ble_eq_true rfl)
theorem pg_24_7 : mm_prog 24 7 = some (0, .iconst 0, 8, []) := by decide +kernel
theorem xe_24_7 (a0 a1 a2 a3 a4 a5 : Option MV) (st : List MV) (μ : MM) (G : MG) : ev 24 7 [a0, a1, a2, a3, a4, a5] st μ G = ev 24 8 [a0, a1, a2, a3, a4, a5] (vI (0) :: st) μ G := ev_stp pg_24_7 rfl
theorem pg_24_8 : mm_prog 24 8 = some (0, .istore 4, 10, []) := by decide +kernel
theorem xe_24_8 (a0 a1 a2 a3 a4 a5 : Option MV) (x : Int) (st : List MV) (μ : MM) (G : MG) (h : mm_nL a3 = true) : ev 24 8 [a0, a1, a2, a3, a4, a5] (vI x :: st) μ G = ev 24 10 [a0, a1, a2, a3, some (vI x), a5] st μ G := ev_st pg_24_8 rfl (mm_nl_of h) (Nat.le_of_ble_eq_true rfl)
theorem pg_24_10 : mm_prog 24 10 = some (0, .iload 4, 12, []) := by decide +kernel
theorem xe_24_10 (a0 a1 a2 a3 a5 : Option MV) (x : Int) (st : List MV) (μ : MM) (G : MG) : ev 24 10 [a0, a1, a2, a3, some (vI x), a5] st μ G = ev 24 12 [a0, a1, a2, a3, some (vI x), a5] (vI x :: st) μ G := ev_stp pg_24_10 rfl
theorem pg_24_12 : mm_prog 24 12 = some (0, .iload_n 3, 13, []) := by decide +kernel
theorem xe_24_12 (a0 a1 a2 a4 a5 : Option MV) (x : Int) (st : List MV) (μ : MM) (G : MG) : ev 24 12 [a0, a1, a2, some (vI x), a4, a5] st μ G = ev 24 13 [a0, a1, a2, some (vI x), a4, a5] (vI x :: st) μ G := ev_stp pg_24_12 rfl
theorem pg_24_13 : mm_prog 24 13 = some (0, .if_icmp .ge 23, 16, []) := by decide +kernel
theorem xe_24_13 (a0 a1 a2 a3 a4 a5 : Option MV) (x y : Int) (st : List MV) (μ : MM) (G : MG) : ev 24 13 [a0, a1, a2, a3, a4, a5] (vI y :: vI x :: st) μ G = if y ≤ x then ev 24 36 [a0, a1, a2, a3, a4, a5] st μ G else ev 24 16 [a0, a1, a2, a3, a4, a5] st μ G := ev_br (mm_cnd_ge x y) pg_24_13 rfl
theorem pg_24_16 : mm_prog 24 16 = some (0, .aload_n 2, 17, []) := by decide +kernel
theorem xe_24_16 (a0 a1 a3 a4 a5 : Option MV) (x : Int) (st : List MV) (μ : MM) (G : MG) : ev 24 16 [a0, a1, some (vR x), a3, a4, a5] st μ G = ev 24 17 [a0, a1, some (vR x), a3, a4, a5] (vR x :: st) μ G := ev_stp pg_24_16 rfl
theorem pg_24_17 : mm_prog 24 17 = some (0, .iload 4, 19, []) := by decide +kernel
theorem xe_24_17 (a0 a1 a2 a3 a5 : Option MV) (x : Int) (st : List MV) (μ : MM) (G : MG) : ev 24 17 [a0, a1, a2, a3, some (vI x), a5] st μ G = ev 24 19 [a0, a1, a2, a3, some (vI x), a5] (vI x :: st) μ G := ev_stp pg_24_17 rfl
theorem pg_24_19 : mm_prog 24 19 = some (0, .iaload, 20, []) := by decide +kernel
theorem xe_24_19 (a0 a1 a2 a3 a4 a5 : Option MV) (x y : Int) (st : List MV) (μ : MM) (G : MG) : ev 24 19 [a0, a1, a2, a3, a4, a5] (vI x :: vR y :: st) μ G = if gk G y = 100 ∧ 0 ≤ x ∧ x < gl G y then ev 24 20 [a0, a1, a2, a3, a4, a5] (vI (μ y x) :: st) μ G else none := ev_if pg_24_19 rfl
theorem pg_24_20 : mm_prog 24 20 = some (0, .istore 5, 22, []) := by decide +kernel
theorem xe_24_20 (a0 a1 a2 a3 a4 a5 : Option MV) (x : Int) (st : List MV) (μ : MM) (G : MG) (h : mm_nL a4 = true) : ev 24 20 [a0, a1, a2, a3, a4, a5] (vI x :: st) μ G = ev 24 22 [a0, a1, a2, a3, a4, some (vI x)] st μ G := ev_st pg_24_20 rfl (mm_nl_of h) (Nat.le_of_ble_eq_true rfl)
theorem pg_24_22 : mm_prog 24 22 = some (0, .iload_n 1, 23, []) := by decide +kernel
theorem xe_24_22 (a0 a2 a3 a4 a5 : Option MV) (x : Int) (st : List MV) (μ : MM) (G : MG) : ev 24 22 [a0, some (vI x), a2, a3, a4, a5] st μ G = ev 24 23 [a0, some (vI x), a2, a3, a4, a5] (vI x :: st) μ G := ev_stp pg_24_22 rfl
theorem pg_24_23 : mm_prog 24 23 = some (0, .bipush 10, 25, []) := by decide +kernel
theorem xe_24_23 (a0 a1 a2 a3 a4 a5 : Option MV) (st : List MV) (μ : MM) (G : MG) : ev 24 23 [a0, a1, a2, a3, a4, a5] st μ G = ev 24 25 [a0, a1, a2, a3, a4, a5] (vI (10) :: st) μ G := ev_stp pg_24_23 rfl
theorem pg_24_25 : mm_prog 24 25 = some (0, .imul, 26, []) := by decide +kernel
theorem xe_24_25 (a0 a1 a2 a3 a4 a5 : Option MV) (x y : Int) (st : List MV) (μ : MM) (G : MG) : ev 24 25 [a0, a1, a2, a3, a4, a5] (vI y :: vI x :: st) μ G = ev 24 26 [a0, a1, a2, a3, a4, a5] (vI (w32 (x * y)) :: st) μ G := ev_stp pg_24_25 rfl
theorem pg_24_26 : mm_prog 24 26 = some (0, .iload 5, 28, []) := by decide +kernel
theorem xe_24_26 (a0 a1 a2 a3 a4 : Option MV) (x : Int) (st : List MV) (μ : MM) (G : MG) : ev 24 26 [a0, a1, a2, a3, a4, some (vI x)] st μ G = ev 24 28 [a0, a1, a2, a3, a4, some (vI x)] (vI x :: st) μ G := ev_stp pg_24_26 rfl
theorem pg_24_28 : mm_prog 24 28 = some (0, .iadd, 29, []) := by decide +kernel
theorem xe_24_28 (a0 a1 a2 a3 a4 a5 : Option MV) (x y : Int) (st : List MV) (μ : MM) (G : MG) : ev 24 28 [a0, a1, a2, a3, a4, a5] (vI y :: vI x :: st) μ G = ev 24 29 [a0, a1, a2, a3, a4, a5] (vI (w32 (x + y)) :: st) μ G := ev_stp pg_24_28 rfl
theorem pg_24_29 : mm_prog 24 29 = some (0, .istore_n 1, 30, []) := by decide +kernel
theorem xe_24_29 (a0 a1 a2 a3 a4 a5 : Option MV) (x : Int) (st : List MV) (μ : MM) (G : MG) (h : mm_nL a0 = true) : ev 24 29 [a0, a1, a2, a3, a4, a5] (vI x :: st) μ G = ev 24 30 [a0, some (vI x), a2, a3, a4, a5] st μ G := ev_st pg_24_29 rfl (mm_nl_of h) (Nat.le_of_ble_eq_true rfl)
theorem pg_24_30 : mm_prog 24 30 = some (0, .iinc 4 1, 33, []) := by decide +kernel
theorem xe_24_30 (a0 a1 a2 a3 a5 : Option MV) (x : Int) (st : List MV) (μ : MM) (G : MG) (h : mm_nL a3 = true) : ev 24 30 [a0, a1, a2, a3, some (vI x), a5] st μ G = ev 24 33 [a0, a1, a2, a3, some (vI (w32 (x + (1)))), a5] st μ G := ev_st pg_24_30 rfl (mm_nl_of h) (Nat.le_of_ble_eq_true rfl)
theorem pg_24_33 : mm_prog 24 33 = some (0, .goto (-23), 36, []) := by decide +kernel
theorem xe_24_33 (a0 a1 a2 a3 a4 a5 : Option MV) (st : List MV) (μ : MM) (G : MG) : ev 24 33 [a0, a1, a2, a3, a4, a5] st μ G = ev 24 10 [a0, a1, a2, a3, a4, a5] st μ G := ev_stp pg_24_33 rfl
theorem pg_24_36 : mm_prog 24 36 = some (0, .iload_n 1, 37, []) := by decide +kernel
theorem xe_24_36 (a0 a2 a3 a4 a5 : Option MV) (x : Int) (st : List MV) (μ : MM) (G : MG) : ev 24 36 [a0, some (vI x), a2, a3, a4, a5] st μ G = ev 24 37 [a0, some (vI x), a2, a3, a4, a5] (vI x :: st) μ G := ev_stp pg_24_36 rfl
theorem pg_24_37 : mm_prog 24 37 = some (2, .ireturn, 38, [0]) := by decide +kernel
theorem xe_24_37 (a0 a1 a2 a3 a4 a5 : Option MV) (x : Int) (μ : MM) (G : MG) : ev 24 37 [a0, a1, a2, a3, a4, a5] [vI x] μ G = some (some (vI x), μ, G) := ev_ret pg_24_37 rfl
-- X3_stepPart
theorem pg_25_0 : mm_prog 25 0 = some (0, .iload_n 1, 1, []) := by decide +kernel
theorem xe_25_0 (a0 a2 a3 : Option MV) (x : Int) (st : List MV) (μ : MM) (G : MG) : ev 25 0 [a0, some (vI x), a2, a3] st μ G = ev 25 1 [a0, some (vI x), a2, a3] (vI x :: st) μ G := ev_stp pg_25_0 rfl
theorem pg_25_1 : mm_prog 25 1 = some (0, .bipush 8, 3, []) := by decide +kernel
theorem xe_25_1 (a0 a1 a2 a3 : Option MV) (st : List MV) (μ : MM) (G : MG) : ev 25 1 [a0, a1, a2, a3] st μ G = ev 25 3 [a0, a1, a2, a3] (vI (8) :: st) μ G := ev_stp pg_25_1 rfl
theorem pg_25_3 : mm_prog 25 3 = some (0, .imul, 4, []) := by decide +kernel
theorem xe_25_3 (a0 a1 a2 a3 : Option MV) (x y : Int) (st : List MV) (μ : MM) (G : MG) : ev 25 3 [a0, a1, a2, a3] (vI y :: vI x :: st) μ G = ev 25 4 [a0, a1, a2, a3] (vI (w32 (x * y)) :: st) μ G := ev_stp pg_25_3 rfl
theorem pg_25_4 : mm_prog 25 4 = some (0, .iload_n 2, 5, []) := by decide +kernel
theorem xe_25_4 (a0 a1 a3 : Option MV) (x : Int) (st : List MV) (μ : MM) (G : MG) : ev 25 4 [a0, a1, some (vI x), a3] st μ G = ev 25 5 [a0, a1, some (vI x), a3] (vI x :: st) μ G := ev_stp pg_25_4 rfl
theorem pg_25_5 : mm_prog 25 5 = some (0, .iadd, 6, []) := by decide +kernel
theorem xe_25_5 (a0 a1 a2 a3 : Option MV) (x y : Int) (st : List MV) (μ : MM) (G : MG) : ev 25 5 [a0, a1, a2, a3] (vI y :: vI x :: st) μ G = ev 25 6 [a0, a1, a2, a3] (vI (w32 (x + y)) :: st) μ G := ev_stp pg_25_5 rfl
theorem pg_25_6 : mm_prog 25 6 = some (0, .istore_n 3, 7, []) := by decide +kernel
theorem xe_25_6 (a0 a1 a2 a3 : Option MV) (x : Int) (st : List MV) (μ : MM) (G : MG) (h : mm_nL a2 = true) : ev 25 6 [a0, a1, a2, a3] (vI x :: st) μ G = ev 25 7 [a0, a1, a2, some (vI x)] st μ G := ev_st pg_25_6 rfl (mm_nl_of h) (Nat.le_of_ble_eq_true rfl)
theorem pg_25_7 : mm_prog 25 7 = some (0, .iload_n 3, 8, []) := by decide +kernel
theorem xe_25_7 (a0 a1 a2 : Option MV) (x : Int) (st : List MV) (μ : MM) (G : MG) : ev 25 7 [a0, a1, a2, some (vI x)] st μ G = ev 25 8 [a0, a1, a2, some (vI x)] (vI x :: st) μ G := ev_stp pg_25_7 rfl
theorem pg_25_8 : mm_prog 25 8 = some (0, .ifCond .lt 21, 11, []) := by decide +kernel
theorem xe_25_8 (a0 a1 a2 a3 : Option MV) (x : Int) (st : List MV) (μ : MM) (G : MG) : ev 25 8 [a0, a1, a2, a3] (vI x :: st) μ G = if x < 0 then ev 25 29 [a0, a1, a2, a3] st μ G else ev 25 11 [a0, a1, a2, a3] st μ G := ev_br (mm_cnd_lt x 0) pg_25_8 rfl
theorem pg_25_11 : mm_prog 25 11 = some (0, .iload_n 3, 12, []) := by decide +kernel
theorem xe_25_11 (a0 a1 a2 : Option MV) (x : Int) (st : List MV) (μ : MM) (G : MG) : ev 25 11 [a0, a1, a2, some (vI x)] st μ G = ev 25 12 [a0, a1, a2, some (vI x)] (vI x :: st) μ G := ev_stp pg_25_11 rfl
theorem pg_25_12 : mm_prog 25 12 = some (0, .aload_n 0, 13, []) := by decide +kernel
theorem xe_25_12 (a1 a2 a3 : Option MV) (x : Int) (st : List MV) (μ : MM) (G : MG) : ev 25 12 [some (vR x), a1, a2, a3] st μ G = ev 25 13 [some (vR x), a1, a2, a3] (vR x :: st) μ G := ev_stp pg_25_12 rfl
theorem pg_25_13 : mm_prog 25 13 = some (0, .getfield 11, 16, [3, 0, 2]) := by decide +kernel
theorem xe_25_13 (a0 a1 a2 a3 : Option MV) (x : Int) (st : List MV) (μ : MM) (G : MG) : ev 25 13 [a0, a1, a2, a3] (vR x :: st) μ G = if gk G x = 3 then ev 25 16 [a0, a1, a2, a3] (vR (μ x 0) :: st) μ G else none := ev_if pg_25_13 rfl
theorem pg_25_16 : mm_prog 25 16 = some (0, .arraylength, 17, []) := by decide +kernel
theorem xe_25_16 (a0 a1 a2 a3 : Option MV) (x : Int) (st : List MV) (μ : MM) (G : MG) : ev 25 16 [a0, a1, a2, a3] (vR x :: st) μ G = if 100 ≤ gk G x then ev 25 17 [a0, a1, a2, a3] (vI (gl G x) :: st) μ G else none := ev_if pg_25_16 rfl
theorem pg_25_17 : mm_prog 25 17 = some (0, .if_icmp .ge 12, 20, []) := by decide +kernel
theorem xe_25_17 (a0 a1 a2 a3 : Option MV) (x y : Int) (st : List MV) (μ : MM) (G : MG) : ev 25 17 [a0, a1, a2, a3] (vI y :: vI x :: st) μ G = if y ≤ x then ev 25 29 [a0, a1, a2, a3] st μ G else ev 25 20 [a0, a1, a2, a3] st μ G := ev_br (mm_cnd_ge x y) pg_25_17 rfl
theorem pg_25_20 : mm_prog 25 20 = some (0, .aload_n 0, 21, []) := by decide +kernel
theorem xe_25_20 (a1 a2 a3 : Option MV) (x : Int) (st : List MV) (μ : MM) (G : MG) : ev 25 20 [some (vR x), a1, a2, a3] st μ G = ev 25 21 [some (vR x), a1, a2, a3] (vR x :: st) μ G := ev_stp pg_25_20 rfl
theorem pg_25_21 : mm_prog 25 21 = some (0, .getfield 11, 24, [3, 0, 2]) := by decide +kernel
theorem xe_25_21 (a0 a1 a2 a3 : Option MV) (x : Int) (st : List MV) (μ : MM) (G : MG) : ev 25 21 [a0, a1, a2, a3] (vR x :: st) μ G = if gk G x = 3 then ev 25 24 [a0, a1, a2, a3] (vR (μ x 0) :: st) μ G else none := ev_if pg_25_21 rfl
theorem pg_25_24 : mm_prog 25 24 = some (0, .iload_n 3, 25, []) := by decide +kernel
theorem xe_25_24 (a0 a1 a2 : Option MV) (x : Int) (st : List MV) (μ : MM) (G : MG) : ev 25 24 [a0, a1, a2, some (vI x)] st μ G = ev 25 25 [a0, a1, a2, some (vI x)] (vI x :: st) μ G := ev_stp pg_25_24 rfl
theorem pg_25_25 : mm_prog 25 25 = some (0, .iaload, 26, []) := by decide +kernel
theorem xe_25_25 (a0 a1 a2 a3 : Option MV) (x y : Int) (st : List MV) (μ : MM) (G : MG) : ev 25 25 [a0, a1, a2, a3] (vI x :: vR y :: st) μ G = if gk G y = 100 ∧ 0 ≤ x ∧ x < gl G y then ev 25 26 [a0, a1, a2, a3] (vI (μ y x) :: st) μ G else none := ev_if pg_25_25 rfl
theorem pg_25_26 : mm_prog 25 26 = some (0, .goto 4, 29, []) := by decide +kernel
theorem xe_25_26 (a0 a1 a2 a3 : Option MV) (st : List MV) (μ : MM) (G : MG) : ev 25 26 [a0, a1, a2, a3] st μ G = ev 25 30 [a0, a1, a2, a3] st μ G := ev_stp pg_25_26 rfl
theorem pg_25_29 : mm_prog 25 29 = some (0, .iconst 0, 30, []) := by decide +kernel
theorem xe_25_29 (a0 a1 a2 a3 : Option MV) (st : List MV) (μ : MM) (G : MG) : ev 25 29 [a0, a1, a2, a3] st μ G = ev 25 30 [a0, a1, a2, a3] (vI (0) :: st) μ G := ev_stp pg_25_29 rfl
theorem pg_25_30 : mm_prog 25 30 = some (2, .ireturn, 31, [0]) := by decide +kernel
theorem xe_25_30 (a0 a1 a2 a3 : Option MV) (x : Int) (μ : MM) (G : MG) : ev 25 30 [a0, a1, a2, a3] [vI x] μ G = some (some (vI x), μ, G) := ev_ret pg_25_30 rfl
-- X3_fallPart
theorem pg_26_0 : mm_prog 26 0 = some (0, .iload_n 1, 1, []) := by decide +kernel
theorem xe_26_0 (a0 a2 : Option MV) (x : Int) (st : List MV) (μ : MM) (G : MG) : ev 26 0 [a0, some (vI x), a2] st μ G = ev 26 1 [a0, some (vI x), a2] (vI x :: st) μ G := ev_stp pg_26_0 rfl
theorem pg_26_1 : mm_prog 26 1 = some (0, .ifCond .lt 12, 4, []) := by decide +kernel
theorem xe_26_1 (a0 a1 a2 : Option MV) (x : Int) (st : List MV) (μ : MM) (G : MG) : ev 26 1 [a0, a1, a2] (vI x :: st) μ G = if x < 0 then ev 26 13 [a0, a1, a2] st μ G else ev 26 4 [a0, a1, a2] st μ G := ev_br (mm_cnd_lt x 0) pg_26_1 rfl
theorem pg_26_4 : mm_prog 26 4 = some (0, .iload_n 1, 5, []) := by decide +kernel
theorem xe_26_4 (a0 a2 : Option MV) (x : Int) (st : List MV) (μ : MM) (G : MG) : ev 26 4 [a0, some (vI x), a2] st μ G = ev 26 5 [a0, some (vI x), a2] (vI x :: st) μ G := ev_stp pg_26_4 rfl
theorem pg_26_5 : mm_prog 26 5 = some (0, .aload_n 0, 6, []) := by decide +kernel
theorem xe_26_5 (a1 a2 : Option MV) (x : Int) (st : List MV) (μ : MM) (G : MG) : ev 26 5 [some (vR x), a1, a2] st μ G = ev 26 6 [some (vR x), a1, a2] (vR x :: st) μ G := ev_stp pg_26_5 rfl
theorem pg_26_6 : mm_prog 26 6 = some (0, .getfield 15, 9, [3, 1, 2]) := by decide +kernel
theorem xe_26_6 (a0 a1 a2 : Option MV) (x : Int) (st : List MV) (μ : MM) (G : MG) : ev 26 6 [a0, a1, a2] (vR x :: st) μ G = if gk G x = 3 then ev 26 9 [a0, a1, a2] (vR (μ x 1) :: st) μ G else none := ev_if pg_26_6 rfl
theorem pg_26_9 : mm_prog 26 9 = some (0, .arraylength, 10, []) := by decide +kernel
theorem xe_26_9 (a0 a1 a2 : Option MV) (x : Int) (st : List MV) (μ : MM) (G : MG) : ev 26 9 [a0, a1, a2] (vR x :: st) μ G = if 100 ≤ gk G x then ev 26 10 [a0, a1, a2] (vI (gl G x) :: st) μ G else none := ev_if pg_26_9 rfl
theorem pg_26_10 : mm_prog 26 10 = some (0, .if_icmp .lt 5, 13, []) := by decide +kernel
theorem xe_26_10 (a0 a1 a2 : Option MV) (x y : Int) (st : List MV) (μ : MM) (G : MG) : ev 26 10 [a0, a1, a2] (vI y :: vI x :: st) μ G = if x < y then ev 26 15 [a0, a1, a2] st μ G else ev 26 13 [a0, a1, a2] st μ G := ev_br (mm_cnd_lt x y) pg_26_10 rfl
theorem pg_26_13 : mm_prog 26 13 = some (0, .iconst 0, 14, []) := by decide +kernel
theorem xe_26_13 (a0 a1 a2 : Option MV) (st : List MV) (μ : MM) (G : MG) : ev 26 13 [a0, a1, a2] st μ G = ev 26 14 [a0, a1, a2] (vI (0) :: st) μ G := ev_stp pg_26_13 rfl
theorem pg_26_14 : mm_prog 26 14 = some (2, .ireturn, 15, [0]) := by decide +kernel
theorem xe_26_14 (a0 a1 a2 : Option MV) (x : Int) (μ : MM) (G : MG) : ev 26 14 [a0, a1, a2] [vI x] μ G = some (some (vI x), μ, G) := ev_ret pg_26_14 rfl
theorem pg_26_15 : mm_prog 26 15 = some (0, .iload_n 2, 16, []) := by decide +kernel
theorem xe_26_15 (a0 a1 : Option MV) (x : Int) (st : List MV) (μ : MM) (G : MG) : ev 26 15 [a0, a1, some (vI x)] st μ G = ev 26 16 [a0, a1, some (vI x)] (vI x :: st) μ G := ev_stp pg_26_15 rfl
theorem pg_26_16 : mm_prog 26 16 = some (0, .tableswitch 65 0 2 #[28, 41, 53], 44, [81, 0, 44, 1, 57, 2, 69]) := by decide +kernel
theorem xe_26_16 (a0 a1 a2 : Option MV) (x : Int) (st : List MV) (μ : MM) (G : MG) : ev 26 16 [a0, a1, a2] (vI x :: st) μ G = if x = 0 then ev 26 44 [a0, a1, a2] st μ G else if x = 1 then ev 26 57 [a0, a1, a2] st μ G else if x = 2 then ev 26 69 [a0, a1, a2] st μ G else ev 26 81 [a0, a1, a2] st μ G := ev_sw (x := x) (d := 81) (l := [0, 44, 1, 57, 2, 69]) (st' := st) pg_26_16 rfl
theorem pg_26_44 : mm_prog 26 44 = some (0, .aload_n 0, 45, []) := by decide +kernel
theorem xe_26_44 (a1 a2 : Option MV) (x : Int) (st : List MV) (μ : MM) (G : MG) : ev 26 44 [some (vR x), a1, a2] st μ G = ev 26 45 [some (vR x), a1, a2] (vR x :: st) μ G := ev_stp pg_26_44 rfl
theorem pg_26_45 : mm_prog 26 45 = some (0, .aload_n 0, 46, []) := by decide +kernel
theorem xe_26_45 (a1 a2 : Option MV) (x : Int) (st : List MV) (μ : MM) (G : MG) : ev 26 45 [some (vR x), a1, a2] st μ G = ev 26 46 [some (vR x), a1, a2] (vR x :: st) μ G := ev_stp pg_26_45 rfl
theorem pg_26_46 : mm_prog 26 46 = some (0, .getfield 15, 49, [3, 1, 2]) := by decide +kernel
theorem xe_26_46 (a0 a1 a2 : Option MV) (x : Int) (st : List MV) (μ : MM) (G : MG) : ev 26 46 [a0, a1, a2] (vR x :: st) μ G = if gk G x = 3 then ev 26 49 [a0, a1, a2] (vR (μ x 1) :: st) μ G else none := ev_if pg_26_46 rfl
theorem pg_26_49 : mm_prog 26 49 = some (0, .iload_n 1, 50, []) := by decide +kernel
theorem xe_26_49 (a0 a2 : Option MV) (x : Int) (st : List MV) (μ : MM) (G : MG) : ev 26 49 [a0, some (vI x), a2] st μ G = ev 26 50 [a0, some (vI x), a2] (vI x :: st) μ G := ev_stp pg_26_49 rfl
theorem pg_26_50 : mm_prog 26 50 = some (0, .iaload, 51, []) := by decide +kernel
theorem xe_26_50 (a0 a1 a2 : Option MV) (x y : Int) (st : List MV) (μ : MM) (G : MG) : ev 26 50 [a0, a1, a2] (vI x :: vR y :: st) μ G = if gk G y = 100 ∧ 0 ≤ x ∧ x < gl G y then ev 26 51 [a0, a1, a2] (vI (μ y x) :: st) μ G else none := ev_if pg_26_50 rfl
theorem pg_26_51 : mm_prog 26 51 = some (0, .bipush 6, 53, []) := by decide +kernel
theorem xe_26_51 (a0 a1 a2 : Option MV) (st : List MV) (μ : MM) (G : MG) : ev 26 51 [a0, a1, a2] st μ G = ev 26 53 [a0, a1, a2] (vI (6) :: st) μ G := ev_stp pg_26_51 rfl
theorem pg_26_53 : mm_prog 26 53 = some (1, .invokevirtual 54, 56, [1, 25, 2, 3]) := by decide +kernel
theorem xe_26_53 (a0 a1 a2 : Option MV) (x0 x1 z : Int) (μ : MM) (G : MG) : ev 26 53 [a0, a1, a2] (vI x1 :: vI x0 :: vR z :: []) μ G = if gk G z = 3 ∧ 0 < z then (ev 25 0 [some (vR z), some (vI x0), some (vI x1), none] [] μ G).bind (fun q => ev 26 56 [a0, a1, a2] (q.1.toList ++ []) q.2.1 q.2.2) else none := ev_calV (as := [vR z, vI x0, vI x1]) (r := []) mx_25 pg_26_53 rfl rfl (Nat.le_of_ble_eq_true rfl) (Nat.le_of_ble_eq_true rfl)
theorem pg_26_56 : mm_prog 26 56 = some (2, .ireturn, 57, [0]) := by decide +kernel
theorem xe_26_56 (a0 a1 a2 : Option MV) (x : Int) (μ : MM) (G : MG) : ev 26 56 [a0, a1, a2] [vI x] μ G = some (some (vI x), μ, G) := ev_ret pg_26_56 rfl
theorem pg_26_57 : mm_prog 26 57 = some (0, .aload_n 0, 58, []) := by decide +kernel
theorem xe_26_57 (a1 a2 : Option MV) (x : Int) (st : List MV) (μ : MM) (G : MG) : ev 26 57 [some (vR x), a1, a2] st μ G = ev 26 58 [some (vR x), a1, a2] (vR x :: st) μ G := ev_stp pg_26_57 rfl
theorem pg_26_58 : mm_prog 26 58 = some (0, .aload_n 0, 59, []) := by decide +kernel
theorem xe_26_58 (a1 a2 : Option MV) (x : Int) (st : List MV) (μ : MM) (G : MG) : ev 26 58 [some (vR x), a1, a2] st μ G = ev 26 59 [some (vR x), a1, a2] (vR x :: st) μ G := ev_stp pg_26_58 rfl
theorem pg_26_59 : mm_prog 26 59 = some (0, .getfield 15, 62, [3, 1, 2]) := by decide +kernel
theorem xe_26_59 (a0 a1 a2 : Option MV) (x : Int) (st : List MV) (μ : MM) (G : MG) : ev 26 59 [a0, a1, a2] (vR x :: st) μ G = if gk G x = 3 then ev 26 62 [a0, a1, a2] (vR (μ x 1) :: st) μ G else none := ev_if pg_26_59 rfl
theorem pg_26_62 : mm_prog 26 62 = some (0, .iload_n 1, 63, []) := by decide +kernel
theorem xe_26_62 (a0 a2 : Option MV) (x : Int) (st : List MV) (μ : MM) (G : MG) : ev 26 62 [a0, some (vI x), a2] st μ G = ev 26 63 [a0, some (vI x), a2] (vI x :: st) μ G := ev_stp pg_26_62 rfl
theorem pg_26_63 : mm_prog 26 63 = some (0, .iaload, 64, []) := by decide +kernel
theorem xe_26_63 (a0 a1 a2 : Option MV) (x y : Int) (st : List MV) (μ : MM) (G : MG) : ev 26 63 [a0, a1, a2] (vI x :: vR y :: st) μ G = if gk G y = 100 ∧ 0 ≤ x ∧ x < gl G y then ev 26 64 [a0, a1, a2] (vI (μ y x) :: st) μ G else none := ev_if pg_26_63 rfl
theorem pg_26_64 : mm_prog 26 64 = some (0, .iconst 1, 65, []) := by decide +kernel
theorem xe_26_64 (a0 a1 a2 : Option MV) (st : List MV) (μ : MM) (G : MG) : ev 26 64 [a0, a1, a2] st μ G = ev 26 65 [a0, a1, a2] (vI (1) :: st) μ G := ev_stp pg_26_64 rfl
theorem pg_26_65 : mm_prog 26 65 = some (1, .invokevirtual 54, 68, [1, 25, 2, 3]) := by decide +kernel
theorem xe_26_65 (a0 a1 a2 : Option MV) (x0 x1 z : Int) (μ : MM) (G : MG) : ev 26 65 [a0, a1, a2] (vI x1 :: vI x0 :: vR z :: []) μ G = if gk G z = 3 ∧ 0 < z then (ev 25 0 [some (vR z), some (vI x0), some (vI x1), none] [] μ G).bind (fun q => ev 26 68 [a0, a1, a2] (q.1.toList ++ []) q.2.1 q.2.2) else none := ev_calV (as := [vR z, vI x0, vI x1]) (r := []) mx_25 pg_26_65 rfl rfl (Nat.le_of_ble_eq_true rfl) (Nat.le_of_ble_eq_true rfl)
theorem pg_26_68 : mm_prog 26 68 = some (2, .ireturn, 69, [0]) := by decide +kernel
theorem xe_26_68 (a0 a1 a2 : Option MV) (x : Int) (μ : MM) (G : MG) : ev 26 68 [a0, a1, a2] [vI x] μ G = some (some (vI x), μ, G) := ev_ret pg_26_68 rfl
theorem pg_26_69 : mm_prog 26 69 = some (0, .aload_n 0, 70, []) := by decide +kernel
theorem xe_26_69 (a1 a2 : Option MV) (x : Int) (st : List MV) (μ : MM) (G : MG) : ev 26 69 [some (vR x), a1, a2] st μ G = ev 26 70 [some (vR x), a1, a2] (vR x :: st) μ G := ev_stp pg_26_69 rfl
theorem pg_26_70 : mm_prog 26 70 = some (0, .aload_n 0, 71, []) := by decide +kernel
theorem xe_26_70 (a1 a2 : Option MV) (x : Int) (st : List MV) (μ : MM) (G : MG) : ev 26 70 [some (vR x), a1, a2] st μ G = ev 26 71 [some (vR x), a1, a2] (vR x :: st) μ G := ev_stp pg_26_70 rfl
theorem pg_26_71 : mm_prog 26 71 = some (0, .getfield 15, 74, [3, 1, 2]) := by decide +kernel
theorem xe_26_71 (a0 a1 a2 : Option MV) (x : Int) (st : List MV) (μ : MM) (G : MG) : ev 26 71 [a0, a1, a2] (vR x :: st) μ G = if gk G x = 3 then ev 26 74 [a0, a1, a2] (vR (μ x 1) :: st) μ G else none := ev_if pg_26_71 rfl
theorem pg_26_74 : mm_prog 26 74 = some (0, .iload_n 1, 75, []) := by decide +kernel
theorem xe_26_74 (a0 a2 : Option MV) (x : Int) (st : List MV) (μ : MM) (G : MG) : ev 26 74 [a0, some (vI x), a2] st μ G = ev 26 75 [a0, some (vI x), a2] (vI x :: st) μ G := ev_stp pg_26_74 rfl
theorem pg_26_75 : mm_prog 26 75 = some (0, .iaload, 76, []) := by decide +kernel
theorem xe_26_75 (a0 a1 a2 : Option MV) (x y : Int) (st : List MV) (μ : MM) (G : MG) : ev 26 75 [a0, a1, a2] (vI x :: vR y :: st) μ G = if gk G y = 100 ∧ 0 ≤ x ∧ x < gl G y then ev 26 76 [a0, a1, a2] (vI (μ y x) :: st) μ G else none := ev_if pg_26_75 rfl
theorem pg_26_76 : mm_prog 26 76 = some (0, .iconst 2, 77, []) := by decide +kernel
theorem xe_26_76 (a0 a1 a2 : Option MV) (st : List MV) (μ : MM) (G : MG) : ev 26 76 [a0, a1, a2] st μ G = ev 26 77 [a0, a1, a2] (vI (2) :: st) μ G := ev_stp pg_26_76 rfl
theorem pg_26_77 : mm_prog 26 77 = some (1, .invokevirtual 54, 80, [1, 25, 2, 3]) := by decide +kernel
theorem xe_26_77 (a0 a1 a2 : Option MV) (x0 x1 z : Int) (μ : MM) (G : MG) : ev 26 77 [a0, a1, a2] (vI x1 :: vI x0 :: vR z :: []) μ G = if gk G z = 3 ∧ 0 < z then (ev 25 0 [some (vR z), some (vI x0), some (vI x1), none] [] μ G).bind (fun q => ev 26 80 [a0, a1, a2] (q.1.toList ++ []) q.2.1 q.2.2) else none := ev_calV (as := [vR z, vI x0, vI x1]) (r := []) mx_25 pg_26_77 rfl rfl (Nat.le_of_ble_eq_true rfl) (Nat.le_of_ble_eq_true rfl)
theorem pg_26_80 : mm_prog 26 80 = some (2, .ireturn, 81, [0]) := by decide +kernel
theorem xe_26_80 (a0 a1 a2 : Option MV) (x : Int) (μ : MM) (G : MG) : ev 26 80 [a0, a1, a2] [vI x] μ G = some (some (vI x), μ, G) := ev_ret pg_26_80 rfl
theorem pg_26_81 : mm_prog 26 81 = some (0, .aload_n 0, 82, []) := by decide +kernel
theorem xe_26_81 (a1 a2 : Option MV) (x : Int) (st : List MV) (μ : MM) (G : MG) : ev 26 81 [some (vR x), a1, a2] st μ G = ev 26 82 [some (vR x), a1, a2] (vR x :: st) μ G := ev_stp pg_26_81 rfl
theorem pg_26_82 : mm_prog 26 82 = some (0, .aload_n 0, 83, []) := by decide +kernel
theorem xe_26_82 (a1 a2 : Option MV) (x : Int) (st : List MV) (μ : MM) (G : MG) : ev 26 82 [some (vR x), a1, a2] st μ G = ev 26 83 [some (vR x), a1, a2] (vR x :: st) μ G := ev_stp pg_26_82 rfl
theorem pg_26_83 : mm_prog 26 83 = some (0, .getfield 15, 86, [3, 1, 2]) := by decide +kernel
theorem xe_26_83 (a0 a1 a2 : Option MV) (x : Int) (st : List MV) (μ : MM) (G : MG) : ev 26 83 [a0, a1, a2] (vR x :: st) μ G = if gk G x = 3 then ev 26 86 [a0, a1, a2] (vR (μ x 1) :: st) μ G else none := ev_if pg_26_83 rfl
theorem pg_26_86 : mm_prog 26 86 = some (0, .iload_n 1, 87, []) := by decide +kernel
theorem xe_26_86 (a0 a2 : Option MV) (x : Int) (st : List MV) (μ : MM) (G : MG) : ev 26 86 [a0, some (vI x), a2] st μ G = ev 26 87 [a0, some (vI x), a2] (vI x :: st) μ G := ev_stp pg_26_86 rfl
theorem pg_26_87 : mm_prog 26 87 = some (0, .iaload, 88, []) := by decide +kernel
theorem xe_26_87 (a0 a1 a2 : Option MV) (x y : Int) (st : List MV) (μ : MM) (G : MG) : ev 26 87 [a0, a1, a2] (vI x :: vR y :: st) μ G = if gk G y = 100 ∧ 0 ≤ x ∧ x < gl G y then ev 26 88 [a0, a1, a2] (vI (μ y x) :: st) μ G else none := ev_if pg_26_87 rfl
theorem pg_26_88 : mm_prog 26 88 = some (0, .bipush 7, 90, []) := by decide +kernel
theorem xe_26_88 (a0 a1 a2 : Option MV) (st : List MV) (μ : MM) (G : MG) : ev 26 88 [a0, a1, a2] st μ G = ev 26 90 [a0, a1, a2] (vI (7) :: st) μ G := ev_stp pg_26_88 rfl
theorem pg_26_90 : mm_prog 26 90 = some (1, .invokevirtual 54, 93, [1, 25, 2, 3]) := by decide +kernel
theorem xe_26_90 (a0 a1 a2 : Option MV) (x0 x1 z : Int) (μ : MM) (G : MG) : ev 26 90 [a0, a1, a2] (vI x1 :: vI x0 :: vR z :: []) μ G = if gk G z = 3 ∧ 0 < z then (ev 25 0 [some (vR z), some (vI x0), some (vI x1), none] [] μ G).bind (fun q => ev 26 93 [a0, a1, a2] (q.1.toList ++ []) q.2.1 q.2.2) else none := ev_calV (as := [vR z, vI x0, vI x1]) (r := []) mx_25 pg_26_90 rfl rfl (Nat.le_of_ble_eq_true rfl) (Nat.le_of_ble_eq_true rfl)
theorem pg_26_93 : mm_prog 26 93 = some (2, .ireturn, 94, [0]) := by decide +kernel
theorem xe_26_93 (a0 a1 a2 : Option MV) (x : Int) (μ : MM) (G : MG) : ev 26 93 [a0, a1, a2] [vI x] μ G = some (some (vI x), μ, G) := ev_ret pg_26_93 rfl
-- X4_init
theorem pg_27_0 : mm_prog 27 0 = some (0, .aload_n 0, 1, []) := by decide +kernel
theorem xe_27_0 (x : Int) (st : List MV) (μ : MM) (G : MG) : ev 27 0 [some (vR x)] st μ G = ev 27 1 [some (vR x)] (vR x :: st) μ G := ev_stp pg_27_0 rfl
theorem pg_27_1 : mm_prog 27 1 = some (0, .invokespecial 1, 4, []) := by decide +kernel
theorem xe_27_1 (a0 : Option MV) (x : Int) (st : List MV) (μ : MM) (G : MG) : ev 27 1 [a0] (vR x :: st) μ G = if 10 ≤ x ∧ mm_cats st ≤ 8 then ev 27 4 [a0] st μ G else none := ev_if pg_27_1 rfl
theorem pg_27_4 : mm_prog 27 4 = some (0, .aload_n 0, 5, []) := by decide +kernel
theorem xe_27_4 (x : Int) (st : List MV) (μ : MM) (G : MG) : ev 27 4 [some (vR x)] st μ G = ev 27 5 [some (vR x)] (vR x :: st) μ G := ev_stp pg_27_4 rfl
theorem pg_27_5 : mm_prog 27 5 = some (0, .new 7, 8, [7, 10]) := by decide +kernel
theorem xe_27_5 (a0 : Option MV) (st : List MV) (μ : MM) (G : MG) : ev 27 5 [a0] st μ G = ev 27 8 [a0] (vR G.2.1 :: st) (mzero μ G.2.1) (gnew G 7 0 10) := ev_stp pg_27_5 rfl
theorem pg_27_8 : mm_prog 27 8 = some (0, .dup, 9, []) := by decide +kernel
theorem xe_27_8 (a0 : Option MV) (x : Int) (st : List MV) (μ : MM) (G : MG) : ev 27 8 [a0] (vR x :: st) μ G = ev 27 9 [a0] (vR x :: vR x :: st) μ G := ev_stp pg_27_8 rfl
theorem pg_27_9 : mm_prog 27 9 = some (1, .invokespecial 9, 12, [1, 59, 0, 7]) := by decide +kernel
theorem xe_27_9 (a0 : Option MV) (z r0 r1 : Int) (μ : MM) (G : MG) : ev 27 9 [a0] (vR z :: [vR r0, vR r1]) μ G = if gk G z = 7 ∧ 0 < z then (ev 59 0 [some (vR z)] [] μ G).bind (fun q => ev 27 12 [a0] (q.1.toList ++ [vR r0, vR r1]) q.2.1 q.2.2) else none := ev_calV (as := [vR z]) (r := [vR r0, vR r1]) mx_59 pg_27_9 rfl rfl (Nat.le_of_ble_eq_true rfl) (Nat.le_of_ble_eq_true rfl)
theorem pg_27_12 : mm_prog 27 12 = some (0, .putfield 10, 15, [4, 0, 2]) := by decide +kernel
theorem xe_27_12 (a0 : Option MV) (x y : Int) (st : List MV) (μ : MM) (G : MG) : ev 27 12 [a0] (vR x :: vR y :: st) μ G = if gk G y = 4 then ev 27 15 [a0] st (mset μ y 0 x) G else none := ev_put2 pg_27_12
theorem pg_27_15 : mm_prog 27 15 = some (2, .return_, 16, []) := by decide +kernel
theorem xe_27_15 (a0 : Option MV) (μ : MM) (G : MG) : ev 27 15 [a0] [] μ G = some (none, μ, G) := ev_ret pg_27_15 rfl
-- X4_isLike
theorem pg_28_0 : mm_prog 28 0 = some (0, .aload_n 0, 1, []) := by decide +kernel
theorem xe_28_0 (a1 a2 a3 : Option MV) (x : Int) (st : List MV) (μ : MM) (G : MG) : ev 28 0 [some (vR x), a1, a2, a3] st μ G = ev 28 1 [some (vR x), a1, a2, a3] (vR x :: st) μ G := ev_stp pg_28_0 rfl
theorem pg_28_1 : mm_prog 28 1 = some (0, .getfield 10, 4, [4, 0, 2]) := by decide +kernel
theorem xe_28_1 (a0 a1 a2 a3 : Option MV) (x : Int) (st : List MV) (μ : MM) (G : MG) : ev 28 1 [a0, a1, a2, a3] (vR x :: st) μ G = if gk G x = 4 then ev 28 4 [a0, a1, a2, a3] (vR (μ x 0) :: st) μ G else none := ev_if pg_28_1 rfl
theorem pg_28_4 : mm_prog 28 4 = some (0, .getfield 16, 7, [7, 1, 0]) := by decide +kernel
theorem xe_28_4 (a0 a1 a2 a3 : Option MV) (x : Int) (st : List MV) (μ : MM) (G : MG) : ev 28 4 [a0, a1, a2, a3] (vR x :: st) μ G = if gk G x = 7 then ev 28 7 [a0, a1, a2, a3] (vI (μ x 1) :: st) μ G else none := ev_if pg_28_4 rfl
theorem pg_28_7 : mm_prog 28 7 = some (0, .iload_n 1, 8, []) := by decide +kernel
theorem xe_28_7 (a0 a2 a3 : Option MV) (x : Int) (st : List MV) (μ : MM) (G : MG) : ev 28 7 [a0, some (vI x), a2, a3] st μ G = ev 28 8 [a0, some (vI x), a2, a3] (vI x :: st) μ G := ev_stp pg_28_7 rfl
theorem pg_28_8 : mm_prog 28 8 = some (0, .if_icmp .ne 26, 11, []) := by decide +kernel
theorem xe_28_8 (a0 a1 a2 a3 : Option MV) (x y : Int) (st : List MV) (μ : MM) (G : MG) : ev 28 8 [a0, a1, a2, a3] (vI y :: vI x :: st) μ G = if ¬ x = y then ev 28 34 [a0, a1, a2, a3] st μ G else ev 28 11 [a0, a1, a2, a3] st μ G := ev_br (mm_cnd_ne x y) pg_28_8 rfl
theorem pg_28_11 : mm_prog 28 11 = some (0, .aload_n 0, 12, []) := by decide +kernel
theorem xe_28_11 (a1 a2 a3 : Option MV) (x : Int) (st : List MV) (μ : MM) (G : MG) : ev 28 11 [some (vR x), a1, a2, a3] st μ G = ev 28 12 [some (vR x), a1, a2, a3] (vR x :: st) μ G := ev_stp pg_28_11 rfl
theorem pg_28_12 : mm_prog 28 12 = some (0, .getfield 10, 15, [4, 0, 2]) := by decide +kernel
theorem xe_28_12 (a0 a1 a2 a3 : Option MV) (x : Int) (st : List MV) (μ : MM) (G : MG) : ev 28 12 [a0, a1, a2, a3] (vR x :: st) μ G = if gk G x = 4 then ev 28 15 [a0, a1, a2, a3] (vR (μ x 0) :: st) μ G else none := ev_if pg_28_12 rfl
theorem pg_28_15 : mm_prog 28 15 = some (0, .getfield 20, 18, [7, 5, 0]) := by decide +kernel
theorem xe_28_15 (a0 a1 a2 a3 : Option MV) (x : Int) (st : List MV) (μ : MM) (G : MG) : ev 28 15 [a0, a1, a2, a3] (vR x :: st) μ G = if gk G x = 7 then ev 28 18 [a0, a1, a2, a3] (vI (μ x 5) :: st) μ G else none := ev_if pg_28_15 rfl
theorem pg_28_18 : mm_prog 28 18 = some (0, .iload_n 2, 19, []) := by decide +kernel
theorem xe_28_18 (a0 a1 a3 : Option MV) (x : Int) (st : List MV) (μ : MM) (G : MG) : ev 28 18 [a0, a1, some (vI x), a3] st μ G = ev 28 19 [a0, a1, some (vI x), a3] (vI x :: st) μ G := ev_stp pg_28_18 rfl
theorem pg_28_19 : mm_prog 28 19 = some (0, .if_icmp .ne 15, 22, []) := by decide +kernel
theorem xe_28_19 (a0 a1 a2 a3 : Option MV) (x y : Int) (st : List MV) (μ : MM) (G : MG) : ev 28 19 [a0, a1, a2, a3] (vI y :: vI x :: st) μ G = if ¬ x = y then ev 28 34 [a0, a1, a2, a3] st μ G else ev 28 22 [a0, a1, a2, a3] st μ G := ev_br (mm_cnd_ne x y) pg_28_19 rfl
theorem pg_28_22 : mm_prog 28 22 = some (0, .aload_n 0, 23, []) := by decide +kernel
theorem xe_28_22 (a1 a2 a3 : Option MV) (x : Int) (st : List MV) (μ : MM) (G : MG) : ev 28 22 [some (vR x), a1, a2, a3] st μ G = ev 28 23 [some (vR x), a1, a2, a3] (vR x :: st) μ G := ev_stp pg_28_22 rfl
theorem pg_28_23 : mm_prog 28 23 = some (0, .getfield 23, 26, [4, 1, 0]) := by decide +kernel
theorem xe_28_23 (a0 a1 a2 a3 : Option MV) (x : Int) (st : List MV) (μ : MM) (G : MG) : ev 28 23 [a0, a1, a2, a3] (vR x :: st) μ G = if gk G x = 4 then ev 28 26 [a0, a1, a2, a3] (vI (μ x 1) :: st) μ G else none := ev_if pg_28_23 rfl
theorem pg_28_26 : mm_prog 28 26 = some (0, .iload_n 3, 27, []) := by decide +kernel
theorem xe_28_26 (a0 a1 a2 : Option MV) (x : Int) (st : List MV) (μ : MM) (G : MG) : ev 28 26 [a0, a1, a2, some (vI x)] st μ G = ev 28 27 [a0, a1, a2, some (vI x)] (vI x :: st) μ G := ev_stp pg_28_26 rfl
theorem pg_28_27 : mm_prog 28 27 = some (0, .if_icmp .ne 7, 30, []) := by decide +kernel
theorem xe_28_27 (a0 a1 a2 a3 : Option MV) (x y : Int) (st : List MV) (μ : MM) (G : MG) : ev 28 27 [a0, a1, a2, a3] (vI y :: vI x :: st) μ G = if ¬ x = y then ev 28 34 [a0, a1, a2, a3] st μ G else ev 28 30 [a0, a1, a2, a3] st μ G := ev_br (mm_cnd_ne x y) pg_28_27 rfl
theorem pg_28_30 : mm_prog 28 30 = some (0, .iconst 1, 31, []) := by decide +kernel
theorem xe_28_30 (a0 a1 a2 a3 : Option MV) (st : List MV) (μ : MM) (G : MG) : ev 28 30 [a0, a1, a2, a3] st μ G = ev 28 31 [a0, a1, a2, a3] (vI (1) :: st) μ G := ev_stp pg_28_30 rfl
theorem pg_28_31 : mm_prog 28 31 = some (0, .goto 4, 34, []) := by decide +kernel
theorem xe_28_31 (a0 a1 a2 a3 : Option MV) (st : List MV) (μ : MM) (G : MG) : ev 28 31 [a0, a1, a2, a3] st μ G = ev 28 35 [a0, a1, a2, a3] st μ G := ev_stp pg_28_31 rfl
theorem pg_28_34 : mm_prog 28 34 = some (0, .iconst 0, 35, []) := by decide +kernel
theorem xe_28_34 (a0 a1 a2 a3 : Option MV) (st : List MV) (μ : MM) (G : MG) : ev 28 34 [a0, a1, a2, a3] st μ G = ev 28 35 [a0, a1, a2, a3] (vI (0) :: st) μ G := ev_stp pg_28_34 rfl
theorem pg_28_35 : mm_prog 28 35 = some (2, .ireturn, 36, [1]) := by decide +kernel
theorem xe_28_35 (a0 a1 a2 a3 : Option MV) (x : Int) (μ : MM) (G : MG) : ev 28 35 [a0, a1, a2, a3] [vI x] μ G = if x = 0 ∨ x = 1 then some (some (vI x), μ, G) else none := ev_retB pg_28_35
-- X4_comesAhead
theorem pg_29_0 : mm_prog 29 0 = some (0, .aload_n 0, 1, []) := by decide +kernel
theorem xe_29_0 (a1 a2 a3 : Option MV) (x : Int) (st : List MV) (μ : MM) (G : MG) : ev 29 0 [some (vR x), a1, a2, a3] st μ G = ev 29 1 [some (vR x), a1, a2, a3] (vR x :: st) μ G := ev_stp pg_29_0 rfl
theorem pg_29_1 : mm_prog 29 1 = some (0, .getfield 26, 4, [4, 3, 1]) := by decide +kernel
theorem xe_29_1 (a0 a1 a2 a3 : Option MV) (x : Int) (st : List MV) (μ : MM) (G : MG) : ev 29 1 [a0, a1, a2, a3] (vR x :: st) μ G = if gk G x = 4 then ev 29 4 [a0, a1, a2, a3] (vI (μ x 3) :: st) μ G else none := ev_if pg_29_1 rfl
theorem pg_29_4 : mm_prog 29 4 = some (0, .aload_n 1, 5, []) := by decide +kernel
theorem xe_29_4 (a0 a2 a3 : Option MV) (x : Int) (st : List MV) (μ : MM) (G : MG) : ev 29 4 [a0, some (vR x), a2, a3] st μ G = ev 29 5 [a0, some (vR x), a2, a3] (vR x :: st) μ G := ev_stp pg_29_4 rfl
theorem pg_29_5 : mm_prog 29 5 = some (0, .getfield 26, 8, [4, 3, 1]) := by decide +kernel
theorem xe_29_5 (a0 a1 a2 a3 : Option MV) (x : Int) (st : List MV) (μ : MM) (G : MG) : ev 29 5 [a0, a1, a2, a3] (vR x :: st) μ G = if gk G x = 4 then ev 29 8 [a0, a1, a2, a3] (vI (μ x 3) :: st) μ G else none := ev_if pg_29_5 rfl
theorem pg_29_8 : mm_prog 29 8 = some (0, .if_icmp .eq 8, 11, []) := by decide +kernel
theorem xe_29_8 (a0 a1 a2 a3 : Option MV) (x y : Int) (st : List MV) (μ : MM) (G : MG) : ev 29 8 [a0, a1, a2, a3] (vI y :: vI x :: st) μ G = if x = y then ev 29 16 [a0, a1, a2, a3] st μ G else ev 29 11 [a0, a1, a2, a3] st μ G := ev_br (mm_cnd_eq x y) pg_29_8 rfl
theorem pg_29_11 : mm_prog 29 11 = some (0, .aload_n 0, 12, []) := by decide +kernel
theorem xe_29_11 (a1 a2 a3 : Option MV) (x : Int) (st : List MV) (μ : MM) (G : MG) : ev 29 11 [some (vR x), a1, a2, a3] st μ G = ev 29 12 [some (vR x), a1, a2, a3] (vR x :: st) μ G := ev_stp pg_29_11 rfl
theorem pg_29_12 : mm_prog 29 12 = some (0, .getfield 26, 15, [4, 3, 1]) := by decide +kernel
theorem xe_29_12 (a0 a1 a2 a3 : Option MV) (x : Int) (st : List MV) (μ : MM) (G : MG) : ev 29 12 [a0, a1, a2, a3] (vR x :: st) μ G = if gk G x = 4 then ev 29 15 [a0, a1, a2, a3] (vI (μ x 3) :: st) μ G else none := ev_if pg_29_12 rfl
theorem pg_29_15 : mm_prog 29 15 = some (2, .ireturn, 16, [1]) := by decide +kernel
theorem xe_29_15 (a0 a1 a2 a3 : Option MV) (x : Int) (μ : MM) (G : MG) : ev 29 15 [a0, a1, a2, a3] [vI x] μ G = if x = 0 ∨ x = 1 then some (some (vI x), μ, G) else none := ev_retB pg_29_15
theorem pg_29_16 : mm_prog 29 16 = some (0, .aload_n 0, 17, []) := by decide +kernel
theorem xe_29_16 (a1 a2 a3 : Option MV) (x : Int) (st : List MV) (μ : MM) (G : MG) : ev 29 16 [some (vR x), a1, a2, a3] st μ G = ev 29 17 [some (vR x), a1, a2, a3] (vR x :: st) μ G := ev_stp pg_29_16 rfl
theorem pg_29_17 : mm_prog 29 17 = some (0, .getfield 10, 20, [4, 0, 2]) := by decide +kernel
theorem xe_29_17 (a0 a1 a2 a3 : Option MV) (x : Int) (st : List MV) (μ : MM) (G : MG) : ev 29 17 [a0, a1, a2, a3] (vR x :: st) μ G = if gk G x = 4 then ev 29 20 [a0, a1, a2, a3] (vR (μ x 0) :: st) μ G else none := ev_if pg_29_17 rfl
theorem pg_29_20 : mm_prog 29 20 = some (0, .getfield 16, 23, [7, 1, 0]) := by decide +kernel
theorem xe_29_20 (a0 a1 a2 a3 : Option MV) (x : Int) (st : List MV) (μ : MM) (G : MG) : ev 29 20 [a0, a1, a2, a3] (vR x :: st) μ G = if gk G x = 7 then ev 29 23 [a0, a1, a2, a3] (vI (μ x 1) :: st) μ G else none := ev_if pg_29_20 rfl
theorem pg_29_23 : mm_prog 29 23 = some (0, .aload_n 0, 24, []) := by decide +kernel
theorem xe_29_23 (a1 a2 a3 : Option MV) (x : Int) (st : List MV) (μ : MM) (G : MG) : ev 29 23 [some (vR x), a1, a2, a3] st μ G = ev 29 24 [some (vR x), a1, a2, a3] (vR x :: st) μ G := ev_stp pg_29_23 rfl
theorem pg_29_24 : mm_prog 29 24 = some (0, .getfield 10, 27, [4, 0, 2]) := by decide +kernel
theorem xe_29_24 (a0 a1 a2 a3 : Option MV) (x : Int) (st : List MV) (μ : MM) (G : MG) : ev 29 24 [a0, a1, a2, a3] (vR x :: st) μ G = if gk G x = 4 then ev 29 27 [a0, a1, a2, a3] (vR (μ x 0) :: st) μ G else none := ev_if pg_29_24 rfl
theorem pg_29_27 : mm_prog 29 27 = some (0, .getfield 20, 30, [7, 5, 0]) := by decide +kernel
theorem xe_29_27 (a0 a1 a2 a3 : Option MV) (x : Int) (st : List MV) (μ : MM) (G : MG) : ev 29 27 [a0, a1, a2, a3] (vR x :: st) μ G = if gk G x = 7 then ev 29 30 [a0, a1, a2, a3] (vI (μ x 5) :: st) μ G else none := ev_if pg_29_27 rfl
theorem pg_29_30 : mm_prog 29 30 = some (0, .imul, 31, []) := by decide +kernel
theorem xe_29_30 (a0 a1 a2 a3 : Option MV) (x y : Int) (st : List MV) (μ : MM) (G : MG) : ev 29 30 [a0, a1, a2, a3] (vI y :: vI x :: st) μ G = ev 29 31 [a0, a1, a2, a3] (vI (w32 (x * y)) :: st) μ G := ev_stp pg_29_30 rfl
theorem pg_29_31 : mm_prog 29 31 = some (0, .istore_n 2, 32, []) := by decide +kernel
theorem xe_29_31 (a0 a1 a2 a3 : Option MV) (x : Int) (st : List MV) (μ : MM) (G : MG) (h : mm_nL a1 = true) : ev 29 31 [a0, a1, a2, a3] (vI x :: st) μ G = ev 29 32 [a0, a1, some (vI x), a3] st μ G := ev_st pg_29_31 rfl (mm_nl_of h) (Nat.le_of_ble_eq_true rfl)
theorem pg_29_32 : mm_prog 29 32 = some (0, .aload_n 1, 33, []) := by decide +kernel
theorem xe_29_32 (a0 a2 a3 : Option MV) (x : Int) (st : List MV) (μ : MM) (G : MG) : ev 29 32 [a0, some (vR x), a2, a3] st μ G = ev 29 33 [a0, some (vR x), a2, a3] (vR x :: st) μ G := ev_stp pg_29_32 rfl
theorem pg_29_33 : mm_prog 29 33 = some (0, .getfield 10, 36, [4, 0, 2]) := by decide +kernel
theorem xe_29_33 (a0 a1 a2 a3 : Option MV) (x : Int) (st : List MV) (μ : MM) (G : MG) : ev 29 33 [a0, a1, a2, a3] (vR x :: st) μ G = if gk G x = 4 then ev 29 36 [a0, a1, a2, a3] (vR (μ x 0) :: st) μ G else none := ev_if pg_29_33 rfl
theorem pg_29_36 : mm_prog 29 36 = some (0, .getfield 16, 39, [7, 1, 0]) := by decide +kernel
theorem xe_29_36 (a0 a1 a2 a3 : Option MV) (x : Int) (st : List MV) (μ : MM) (G : MG) : ev 29 36 [a0, a1, a2, a3] (vR x :: st) μ G = if gk G x = 7 then ev 29 39 [a0, a1, a2, a3] (vI (μ x 1) :: st) μ G else none := ev_if pg_29_36 rfl
theorem pg_29_39 : mm_prog 29 39 = some (0, .aload_n 1, 40, []) := by decide +kernel
theorem xe_29_39 (a0 a2 a3 : Option MV) (x : Int) (st : List MV) (μ : MM) (G : MG) : ev 29 39 [a0, some (vR x), a2, a3] st μ G = ev 29 40 [a0, some (vR x), a2, a3] (vR x :: st) μ G := ev_stp pg_29_39 rfl
theorem pg_29_40 : mm_prog 29 40 = some (0, .getfield 10, 43, [4, 0, 2]) := by decide +kernel
theorem xe_29_40 (a0 a1 a2 a3 : Option MV) (x : Int) (st : List MV) (μ : MM) (G : MG) : ev 29 40 [a0, a1, a2, a3] (vR x :: st) μ G = if gk G x = 4 then ev 29 43 [a0, a1, a2, a3] (vR (μ x 0) :: st) μ G else none := ev_if pg_29_40 rfl
theorem pg_29_43 : mm_prog 29 43 = some (0, .getfield 20, 46, [7, 5, 0]) := by decide +kernel
theorem xe_29_43 (a0 a1 a2 a3 : Option MV) (x : Int) (st : List MV) (μ : MM) (G : MG) : ev 29 43 [a0, a1, a2, a3] (vR x :: st) μ G = if gk G x = 7 then ev 29 46 [a0, a1, a2, a3] (vI (μ x 5) :: st) μ G else none := ev_if pg_29_43 rfl
theorem pg_29_46 : mm_prog 29 46 = some (0, .imul, 47, []) := by decide +kernel
theorem xe_29_46 (a0 a1 a2 a3 : Option MV) (x y : Int) (st : List MV) (μ : MM) (G : MG) : ev 29 46 [a0, a1, a2, a3] (vI y :: vI x :: st) μ G = ev 29 47 [a0, a1, a2, a3] (vI (w32 (x * y)) :: st) μ G := ev_stp pg_29_46 rfl
theorem pg_29_47 : mm_prog 29 47 = some (0, .istore_n 3, 48, []) := by decide +kernel
theorem xe_29_47 (a0 a1 a2 a3 : Option MV) (x : Int) (st : List MV) (μ : MM) (G : MG) (h : mm_nL a2 = true) : ev 29 47 [a0, a1, a2, a3] (vI x :: st) μ G = ev 29 48 [a0, a1, a2, some (vI x)] st μ G := ev_st pg_29_47 rfl (mm_nl_of h) (Nat.le_of_ble_eq_true rfl)
theorem pg_29_48 : mm_prog 29 48 = some (0, .iload_n 2, 49, []) := by decide +kernel
theorem xe_29_48 (a0 a1 a3 : Option MV) (x : Int) (st : List MV) (μ : MM) (G : MG) : ev 29 48 [a0, a1, some (vI x), a3] st μ G = ev 29 49 [a0, a1, some (vI x), a3] (vI x :: st) μ G := ev_stp pg_29_48 rfl
theorem pg_29_49 : mm_prog 29 49 = some (0, .iload_n 3, 50, []) := by decide +kernel
theorem xe_29_49 (a0 a1 a2 : Option MV) (x : Int) (st : List MV) (μ : MM) (G : MG) : ev 29 49 [a0, a1, a2, some (vI x)] st μ G = ev 29 50 [a0, a1, a2, some (vI x)] (vI x :: st) μ G := ev_stp pg_29_49 rfl
theorem pg_29_50 : mm_prog 29 50 = some (0, .if_icmp .gt 19, 53, []) := by decide +kernel
theorem xe_29_50 (a0 a1 a2 a3 : Option MV) (x y : Int) (st : List MV) (μ : MM) (G : MG) : ev 29 50 [a0, a1, a2, a3] (vI y :: vI x :: st) μ G = if y < x then ev 29 69 [a0, a1, a2, a3] st μ G else ev 29 53 [a0, a1, a2, a3] st μ G := ev_br (mm_cnd_gt x y) pg_29_50 rfl
theorem pg_29_53 : mm_prog 29 53 = some (0, .iload_n 2, 54, []) := by decide +kernel
theorem xe_29_53 (a0 a1 a3 : Option MV) (x : Int) (st : List MV) (μ : MM) (G : MG) : ev 29 53 [a0, a1, some (vI x), a3] st μ G = ev 29 54 [a0, a1, some (vI x), a3] (vI x :: st) μ G := ev_stp pg_29_53 rfl
theorem pg_29_54 : mm_prog 29 54 = some (0, .iload_n 3, 55, []) := by decide +kernel
theorem xe_29_54 (a0 a1 a2 : Option MV) (x : Int) (st : List MV) (μ : MM) (G : MG) : ev 29 54 [a0, a1, a2, some (vI x)] st μ G = ev 29 55 [a0, a1, a2, some (vI x)] (vI x :: st) μ G := ev_stp pg_29_54 rfl
theorem pg_29_55 : mm_prog 29 55 = some (0, .if_icmp .ne 18, 58, []) := by decide +kernel
theorem xe_29_55 (a0 a1 a2 a3 : Option MV) (x y : Int) (st : List MV) (μ : MM) (G : MG) : ev 29 55 [a0, a1, a2, a3] (vI y :: vI x :: st) μ G = if ¬ x = y then ev 29 73 [a0, a1, a2, a3] st μ G else ev 29 58 [a0, a1, a2, a3] st μ G := ev_br (mm_cnd_ne x y) pg_29_55 rfl
theorem pg_29_58 : mm_prog 29 58 = some (0, .aload_n 0, 59, []) := by decide +kernel
theorem xe_29_58 (a1 a2 a3 : Option MV) (x : Int) (st : List MV) (μ : MM) (G : MG) : ev 29 58 [some (vR x), a1, a2, a3] st μ G = ev 29 59 [some (vR x), a1, a2, a3] (vR x :: st) μ G := ev_stp pg_29_58 rfl
theorem pg_29_59 : mm_prog 29 59 = some (0, .getfield 23, 62, [4, 1, 0]) := by decide +kernel
theorem xe_29_59 (a0 a1 a2 a3 : Option MV) (x : Int) (st : List MV) (μ : MM) (G : MG) : ev 29 59 [a0, a1, a2, a3] (vR x :: st) μ G = if gk G x = 4 then ev 29 62 [a0, a1, a2, a3] (vI (μ x 1) :: st) μ G else none := ev_if pg_29_59 rfl
theorem pg_29_62 : mm_prog 29 62 = some (0, .aload_n 1, 63, []) := by decide +kernel
theorem xe_29_62 (a0 a2 a3 : Option MV) (x : Int) (st : List MV) (μ : MM) (G : MG) : ev 29 62 [a0, some (vR x), a2, a3] st μ G = ev 29 63 [a0, some (vR x), a2, a3] (vR x :: st) μ G := ev_stp pg_29_62 rfl
theorem pg_29_63 : mm_prog 29 63 = some (0, .getfield 23, 66, [4, 1, 0]) := by decide +kernel
theorem xe_29_63 (a0 a1 a2 a3 : Option MV) (x : Int) (st : List MV) (μ : MM) (G : MG) : ev 29 63 [a0, a1, a2, a3] (vR x :: st) μ G = if gk G x = 4 then ev 29 66 [a0, a1, a2, a3] (vI (μ x 1) :: st) μ G else none := ev_if pg_29_63 rfl
theorem pg_29_66 : mm_prog 29 66 = some (0, .if_icmp .le 7, 69, []) := by decide +kernel
theorem xe_29_66 (a0 a1 a2 a3 : Option MV) (x y : Int) (st : List MV) (μ : MM) (G : MG) : ev 29 66 [a0, a1, a2, a3] (vI y :: vI x :: st) μ G = if x ≤ y then ev 29 73 [a0, a1, a2, a3] st μ G else ev 29 69 [a0, a1, a2, a3] st μ G := ev_br (mm_cnd_le x y) pg_29_66 rfl
theorem pg_29_69 : mm_prog 29 69 = some (0, .iconst 1, 70, []) := by decide +kernel
theorem xe_29_69 (a0 a1 a2 a3 : Option MV) (st : List MV) (μ : MM) (G : MG) : ev 29 69 [a0, a1, a2, a3] st μ G = ev 29 70 [a0, a1, a2, a3] (vI (1) :: st) μ G := ev_stp pg_29_69 rfl
theorem pg_29_70 : mm_prog 29 70 = some (0, .goto 4, 73, []) := by decide +kernel
theorem xe_29_70 (a0 a1 a2 a3 : Option MV) (st : List MV) (μ : MM) (G : MG) : ev 29 70 [a0, a1, a2, a3] st μ G = ev 29 74 [a0, a1, a2, a3] st μ G := ev_stp pg_29_70 rfl
theorem pg_29_73 : mm_prog 29 73 = some (0, .iconst 0, 74, []) := by decide +kernel
theorem xe_29_73 (a0 a1 a2 a3 : Option MV) (st : List MV) (μ : MM) (G : MG) : ev 29 73 [a0, a1, a2, a3] st μ G = ev 29 74 [a0, a1, a2, a3] (vI (0) :: st) μ G := ev_stp pg_29_73 rfl
theorem pg_29_74 : mm_prog 29 74 = some (2, .ireturn, 75, [1]) := by decide +kernel
theorem xe_29_74 (a0 a1 a2 a3 : Option MV) (x : Int) (μ : MM) (G : MG) : ev 29 74 [a0, a1, a2, a3] [vI x] μ G = if x = 0 ∨ x = 1 then some (some (vI x), μ, G) else none := ev_retB pg_29_74
-- X5_init
theorem pg_30_0 : mm_prog 30 0 = some (0, .aload_n 0, 1, []) := by decide +kernel
theorem xe_30_0 (a1 : Option MV) (x : Int) (st : List MV) (μ : MM) (G : MG) : ev 30 0 [some (vR x), a1] st μ G = ev 30 1 [some (vR x), a1] (vR x :: st) μ G := ev_stp pg_30_0 rfl
theorem pg_30_1 : mm_prog 30 1 = some (0, .invokespecial 3, 4, []) := by decide +kernel
theorem xe_30_1 (a0 a1 : Option MV) (x : Int) (st : List MV) (μ : MM) (G : MG) : ev 30 1 [a0, a1] (vR x :: st) μ G = if 10 ≤ x ∧ mm_cats st ≤ 8 then ev 30 4 [a0, a1] st μ G else none := ev_if pg_30_1 rfl
theorem pg_30_4 : mm_prog 30 4 = some (0, .aload_n 0, 5, []) := by decide +kernel
theorem xe_30_4 (a1 : Option MV) (x : Int) (st : List MV) (μ : MM) (G : MG) : ev 30 4 [some (vR x), a1] st μ G = ev 30 5 [some (vR x), a1] (vR x :: st) μ G := ev_stp pg_30_4 rfl
theorem pg_30_5 : mm_prog 30 5 = some (0, .bipush 40, 7, []) := by decide +kernel
theorem xe_30_5 (a0 a1 : Option MV) (st : List MV) (μ : MM) (G : MG) : ev 30 5 [a0, a1] st μ G = ev 30 7 [a0, a1] (vI (40) :: st) μ G := ev_stp pg_30_5 rfl
theorem pg_30_7 : mm_prog 30 7 = some (0, .anewarray 9, 10, [102]) := by decide +kernel
theorem xe_30_7 (a0 a1 : Option MV) (x : Int) (st : List MV) (μ : MM) (G : MG) : ev 30 7 [a0, a1] (vI x :: st) μ G = if 0 ≤ x ∧ x ≤ 100000 then ev 30 10 [a0, a1] (vR G.2.1 :: st) (mzero μ G.2.1) (gnew G 102 x x) else none := ev_if pg_30_7 rfl
theorem pg_30_10 : mm_prog 30 10 = some (0, .putfield 11, 13, [5, 0, 2]) := by decide +kernel
theorem xe_30_10 (a0 a1 : Option MV) (x y : Int) (st : List MV) (μ : MM) (G : MG) : ev 30 10 [a0, a1] (vR x :: vR y :: st) μ G = if gk G y = 5 then ev 30 13 [a0, a1] st (mset μ y 0 x) G else none := ev_put2 pg_30_10
theorem pg_30_13 : mm_prog 30 13 = some (0, .aload_n 0, 14, []) := by decide +kernel
theorem xe_30_13 (a1 : Option MV) (x : Int) (st : List MV) (μ : MM) (G : MG) : ev 30 13 [some (vR x), a1] st μ G = ev 30 14 [some (vR x), a1] (vR x :: st) μ G := ev_stp pg_30_13 rfl
theorem pg_30_14 : mm_prog 30 14 = some (0, .bipush 7, 16, []) := by decide +kernel
theorem xe_30_14 (a0 a1 : Option MV) (st : List MV) (μ : MM) (G : MG) : ev 30 14 [a0, a1] st μ G = ev 30 16 [a0, a1] (vI (7) :: st) μ G := ev_stp pg_30_14 rfl
theorem pg_30_16 : mm_prog 30 16 = some (0, .newarray .int, 18, [100]) := by decide +kernel
theorem xe_30_16 (a0 a1 : Option MV) (x : Int) (st : List MV) (μ : MM) (G : MG) : ev 30 16 [a0, a1] (vI x :: st) μ G = if 0 ≤ x ∧ x ≤ 100000 then ev 30 18 [a0, a1] (vR G.2.1 :: st) (mzero μ G.2.1) (gnew G 100 x x) else none := ev_if pg_30_16 rfl
theorem pg_30_18 : mm_prog 30 18 = some (0, .putfield 17, 21, [5, 1, 2]) := by decide +kernel
theorem xe_30_18 (a0 a1 : Option MV) (x y : Int) (st : List MV) (μ : MM) (G : MG) : ev 30 18 [a0, a1] (vR x :: vR y :: st) μ G = if gk G y = 5 then ev 30 21 [a0, a1] st (mset μ y 1 x) G else none := ev_put2 pg_30_18
theorem pg_30_21 : mm_prog 30 21 = some (0, .aload_n 0, 22, []) := by decide +kernel
theorem xe_30_21 (a1 : Option MV) (x : Int) (st : List MV) (μ : MM) (G : MG) : ev 30 21 [some (vR x), a1] st μ G = ev 30 22 [some (vR x), a1] (vR x :: st) μ G := ev_stp pg_30_21 rfl
theorem pg_30_22 : mm_prog 30 22 = some (0, .new 21, 25, [7, 10]) := by decide +kernel
theorem xe_30_22 (a0 a1 : Option MV) (st : List MV) (μ : MM) (G : MG) : ev 30 22 [a0, a1] st μ G = ev 30 25 [a0, a1] (vR G.2.1 :: st) (mzero μ G.2.1) (gnew G 7 0 10) := ev_stp pg_30_22 rfl
theorem pg_30_25 : mm_prog 30 25 = some (0, .dup, 26, []) := by decide +kernel
theorem xe_30_25 (a0 a1 : Option MV) (x : Int) (st : List MV) (μ : MM) (G : MG) : ev 30 25 [a0, a1] (vR x :: st) μ G = ev 30 26 [a0, a1] (vR x :: vR x :: st) μ G := ev_stp pg_30_25 rfl
theorem pg_30_26 : mm_prog 30 26 = some (1, .invokespecial 23, 29, [1, 59, 0, 7]) := by decide +kernel
theorem xe_30_26 (a0 a1 : Option MV) (z r0 r1 : Int) (μ : MM) (G : MG) : ev 30 26 [a0, a1] (vR z :: [vR r0, vR r1]) μ G = if gk G z = 7 ∧ 0 < z then (ev 59 0 [some (vR z)] [] μ G).bind (fun q => ev 30 29 [a0, a1] (q.1.toList ++ [vR r0, vR r1]) q.2.1 q.2.2) else none := ev_calV (as := [vR z]) (r := [vR r0, vR r1]) mx_59 pg_30_26 rfl rfl (Nat.le_of_ble_eq_true rfl) (Nat.le_of_ble_eq_true rfl)
theorem pg_30_29 : mm_prog 30 29 = some (0, .putfield 24, 32, [5, 2, 2]) := by decide +kernel
theorem xe_30_29 (a0 a1 : Option MV) (x y : Int) (st : List MV) (μ : MM) (G : MG) : ev 30 29 [a0, a1] (vR x :: vR y :: st) μ G = if gk G y = 5 then ev 30 32 [a0, a1] st (mset μ y 2 x) G else none := ev_put2 pg_30_29
theorem pg_30_32 : mm_prog 30 32 = some (0, .iconst 0, 33, []) := by decide +kernel
theorem xe_30_32 (a0 a1 : Option MV) (st : List MV) (μ : MM) (G : MG) : ev 30 32 [a0, a1] st μ G = ev 30 33 [a0, a1] (vI (0) :: st) μ G := ev_stp pg_30_32 rfl
theorem pg_30_33 : mm_prog 30 33 = some (0, .istore_n 1, 34, []) := by decide +kernel
theorem xe_30_33 (a0 a1 : Option MV) (x : Int) (st : List MV) (μ : MM) (G : MG) (h : mm_nL a0 = true) : ev 30 33 [a0, a1] (vI x :: st) μ G = ev 30 34 [a0, some (vI x)] st μ G := ev_st pg_30_33 rfl (mm_nl_of h) (Nat.le_of_ble_eq_true rfl)
theorem pg_30_34 : mm_prog 30 34 = some (0, .iload_n 1, 35, []) := by decide +kernel
theorem xe_30_34 (a0 : Option MV) (x : Int) (st : List MV) (μ : MM) (G : MG) : ev 30 34 [a0, some (vI x)] st μ G = ev 30 35 [a0, some (vI x)] (vI x :: st) μ G := ev_stp pg_30_34 rfl
theorem pg_30_35 : mm_prog 30 35 = some (0, .aload_n 0, 36, []) := by decide +kernel
theorem xe_30_35 (a1 : Option MV) (x : Int) (st : List MV) (μ : MM) (G : MG) : ev 30 35 [some (vR x), a1] st μ G = ev 30 36 [some (vR x), a1] (vR x :: st) μ G := ev_stp pg_30_35 rfl
theorem pg_30_36 : mm_prog 30 36 = some (0, .getfield 11, 39, [5, 0, 2]) := by decide +kernel
theorem xe_30_36 (a0 a1 : Option MV) (x : Int) (st : List MV) (μ : MM) (G : MG) : ev 30 36 [a0, a1] (vR x :: st) μ G = if gk G x = 5 then ev 30 39 [a0, a1] (vR (μ x 0) :: st) μ G else none := ev_if pg_30_36 rfl
theorem pg_30_39 : mm_prog 30 39 = some (0, .arraylength, 40, []) := by decide +kernel
theorem xe_30_39 (a0 a1 : Option MV) (x : Int) (st : List MV) (μ : MM) (G : MG) : ev 30 39 [a0, a1] (vR x :: st) μ G = if 100 ≤ gk G x then ev 30 40 [a0, a1] (vI (gl G x) :: st) μ G else none := ev_if pg_30_39 rfl
theorem pg_30_40 : mm_prog 30 40 = some (0, .if_icmp .ge 22, 43, []) := by decide +kernel
theorem xe_30_40 (a0 a1 : Option MV) (x y : Int) (st : List MV) (μ : MM) (G : MG) : ev 30 40 [a0, a1] (vI y :: vI x :: st) μ G = if y ≤ x then ev 30 62 [a0, a1] st μ G else ev 30 43 [a0, a1] st μ G := ev_br (mm_cnd_ge x y) pg_30_40 rfl
theorem pg_30_43 : mm_prog 30 43 = some (0, .aload_n 0, 44, []) := by decide +kernel
theorem xe_30_43 (a1 : Option MV) (x : Int) (st : List MV) (μ : MM) (G : MG) : ev 30 43 [some (vR x), a1] st μ G = ev 30 44 [some (vR x), a1] (vR x :: st) μ G := ev_stp pg_30_43 rfl
theorem pg_30_44 : mm_prog 30 44 = some (0, .getfield 11, 47, [5, 0, 2]) := by decide +kernel
theorem xe_30_44 (a0 a1 : Option MV) (x : Int) (st : List MV) (μ : MM) (G : MG) : ev 30 44 [a0, a1] (vR x :: st) μ G = if gk G x = 5 then ev 30 47 [a0, a1] (vR (μ x 0) :: st) μ G else none := ev_if pg_30_44 rfl
theorem pg_30_47 : mm_prog 30 47 = some (0, .iload_n 1, 48, []) := by decide +kernel
theorem xe_30_47 (a0 : Option MV) (x : Int) (st : List MV) (μ : MM) (G : MG) : ev 30 47 [a0, some (vI x)] st μ G = ev 30 48 [a0, some (vI x)] (vI x :: st) μ G := ev_stp pg_30_47 rfl
theorem pg_30_48 : mm_prog 30 48 = some (0, .new 9, 51, [4, 4]) := by decide +kernel
theorem xe_30_48 (a0 a1 : Option MV) (st : List MV) (μ : MM) (G : MG) : ev 30 48 [a0, a1] st μ G = ev 30 51 [a0, a1] (vR G.2.1 :: st) (mzero μ G.2.1) (gnew G 4 0 4) := ev_stp pg_30_48 rfl
theorem pg_30_51 : mm_prog 30 51 = some (0, .dup, 52, []) := by decide +kernel
theorem xe_30_51 (a0 a1 : Option MV) (x : Int) (st : List MV) (μ : MM) (G : MG) : ev 30 51 [a0, a1] (vR x :: st) μ G = ev 30 52 [a0, a1] (vR x :: vR x :: st) μ G := ev_stp pg_30_51 rfl
theorem pg_30_52 : mm_prog 30 52 = some (1, .invokespecial 28, 55, [1, 27, 0, 4]) := by decide +kernel
theorem xe_30_52 (a0 a1 : Option MV) (z r0 r1 r2 : Int) (μ : MM) (G : MG) : ev 30 52 [a0, a1] (vR z :: [vR r0, vI r1, vR r2]) μ G = if gk G z = 4 ∧ 0 < z then (ev 27 0 [some (vR z)] [] μ G).bind (fun q => ev 30 55 [a0, a1] (q.1.toList ++ [vR r0, vI r1, vR r2]) q.2.1 q.2.2) else none := ev_calV (as := [vR z]) (r := [vR r0, vI r1, vR r2]) mx_27 pg_30_52 rfl rfl (Nat.le_of_ble_eq_true rfl) (Nat.le_of_ble_eq_true rfl)
theorem pg_30_55 : mm_prog 30 55 = some (0, .aastore, 56, [102, 4]) := by decide +kernel
theorem xe_30_55 (a0 a1 : Option MV) (x y z : Int) (st : List MV) (μ : MM) (G : MG) : ev 30 55 [a0, a1] (vR x :: vI y :: vR z :: st) μ G = if gk G z = 102 ∧ 0 ≤ y ∧ y < gl G z ∧ 10 ≤ z ∧ gk G x = 4 ∧ 0 < x then ev 30 56 [a0, a1] st (mset μ z y x) G else none := ev_if pg_30_55 rfl
theorem pg_30_56 : mm_prog 30 56 = some (0, .iinc 1 1, 59, []) := by decide +kernel
theorem xe_30_56 (a0 : Option MV) (x : Int) (st : List MV) (μ : MM) (G : MG) (h : mm_nL a0 = true) : ev 30 56 [a0, some (vI x)] st μ G = ev 30 59 [a0, some (vI (w32 (x + (1))))] st μ G := ev_st pg_30_56 rfl (mm_nl_of h) (Nat.le_of_ble_eq_true rfl)
theorem pg_30_59 : mm_prog 30 59 = some (0, .goto (-25), 62, []) := by decide +kernel
theorem xe_30_59 (a0 a1 : Option MV) (st : List MV) (μ : MM) (G : MG) : ev 30 59 [a0, a1] st μ G = ev 30 34 [a0, a1] st μ G := ev_stp pg_30_59 rfl
theorem pg_30_62 : mm_prog 30 62 = some (2, .return_, 63, []) := by decide +kernel
theorem xe_30_62 (a0 a1 : Option MV) (μ : MM) (G : MG) : ev 30 62 [a0, a1] [] μ G = some (none, μ, G) := ev_ret pg_30_62 rfl
-- X5_at
theorem pg_31_0 : mm_prog 31 0 = some (0, .iload_n 1, 1, []) := by decide +kernel
theorem xe_31_0 (a0 : Option MV) (x : Int) (st : List MV) (μ : MM) (G : MG) : ev 31 0 [a0, some (vI x)] st μ G = ev 31 1 [a0, some (vI x)] (vI x :: st) μ G := ev_stp pg_31_0 rfl
theorem pg_31_1 : mm_prog 31 1 = some (0, .ifCond .lt 29, 4, []) := by decide +kernel
theorem xe_31_1 (a0 a1 : Option MV) (x : Int) (st : List MV) (μ : MM) (G : MG) : ev 31 1 [a0, a1] (vI x :: st) μ G = if x < 0 then ev 31 30 [a0, a1] st μ G else ev 31 4 [a0, a1] st μ G := ev_br (mm_cnd_lt x 0) pg_31_1 rfl
theorem pg_31_4 : mm_prog 31 4 = some (0, .iload_n 1, 5, []) := by decide +kernel
theorem xe_31_4 (a0 : Option MV) (x : Int) (st : List MV) (μ : MM) (G : MG) : ev 31 4 [a0, some (vI x)] st μ G = ev 31 5 [a0, some (vI x)] (vI x :: st) μ G := ev_stp pg_31_4 rfl
theorem pg_31_5 : mm_prog 31 5 = some (0, .aload_n 0, 6, []) := by decide +kernel
theorem xe_31_5 (a1 : Option MV) (x : Int) (st : List MV) (μ : MM) (G : MG) : ev 31 5 [some (vR x), a1] st μ G = ev 31 6 [some (vR x), a1] (vR x :: st) μ G := ev_stp pg_31_5 rfl
theorem pg_31_6 : mm_prog 31 6 = some (0, .getfield 29, 9, [5, 4, 0]) := by decide +kernel
theorem xe_31_6 (a0 a1 : Option MV) (x : Int) (st : List MV) (μ : MM) (G : MG) : ev 31 6 [a0, a1] (vR x :: st) μ G = if gk G x = 5 then ev 31 9 [a0, a1] (vI (μ x 4) :: st) μ G else none := ev_if pg_31_6 rfl
theorem pg_31_9 : mm_prog 31 9 = some (0, .if_icmp .ge 21, 12, []) := by decide +kernel
theorem xe_31_9 (a0 a1 : Option MV) (x y : Int) (st : List MV) (μ : MM) (G : MG) : ev 31 9 [a0, a1] (vI y :: vI x :: st) μ G = if y ≤ x then ev 31 30 [a0, a1] st μ G else ev 31 12 [a0, a1] st μ G := ev_br (mm_cnd_ge x y) pg_31_9 rfl
theorem pg_31_12 : mm_prog 31 12 = some (0, .iload_n 1, 13, []) := by decide +kernel
theorem xe_31_12 (a0 : Option MV) (x : Int) (st : List MV) (μ : MM) (G : MG) : ev 31 12 [a0, some (vI x)] st μ G = ev 31 13 [a0, some (vI x)] (vI x :: st) μ G := ev_stp pg_31_12 rfl
theorem pg_31_13 : mm_prog 31 13 = some (0, .aload_n 0, 14, []) := by decide +kernel
theorem xe_31_13 (a1 : Option MV) (x : Int) (st : List MV) (μ : MM) (G : MG) : ev 31 13 [some (vR x), a1] st μ G = ev 31 14 [some (vR x), a1] (vR x :: st) μ G := ev_stp pg_31_13 rfl
theorem pg_31_14 : mm_prog 31 14 = some (0, .getfield 11, 17, [5, 0, 2]) := by decide +kernel
theorem xe_31_14 (a0 a1 : Option MV) (x : Int) (st : List MV) (μ : MM) (G : MG) : ev 31 14 [a0, a1] (vR x :: st) μ G = if gk G x = 5 then ev 31 17 [a0, a1] (vR (μ x 0) :: st) μ G else none := ev_if pg_31_14 rfl
theorem pg_31_17 : mm_prog 31 17 = some (0, .arraylength, 18, []) := by decide +kernel
theorem xe_31_17 (a0 a1 : Option MV) (x : Int) (st : List MV) (μ : MM) (G : MG) : ev 31 17 [a0, a1] (vR x :: st) μ G = if 100 ≤ gk G x then ev 31 18 [a0, a1] (vI (gl G x) :: st) μ G else none := ev_if pg_31_17 rfl
theorem pg_31_18 : mm_prog 31 18 = some (0, .if_icmp .ge 12, 21, []) := by decide +kernel
theorem xe_31_18 (a0 a1 : Option MV) (x y : Int) (st : List MV) (μ : MM) (G : MG) : ev 31 18 [a0, a1] (vI y :: vI x :: st) μ G = if y ≤ x then ev 31 30 [a0, a1] st μ G else ev 31 21 [a0, a1] st μ G := ev_br (mm_cnd_ge x y) pg_31_18 rfl
theorem pg_31_21 : mm_prog 31 21 = some (0, .aload_n 0, 22, []) := by decide +kernel
theorem xe_31_21 (a1 : Option MV) (x : Int) (st : List MV) (μ : MM) (G : MG) : ev 31 21 [some (vR x), a1] st μ G = ev 31 22 [some (vR x), a1] (vR x :: st) μ G := ev_stp pg_31_21 rfl
theorem pg_31_22 : mm_prog 31 22 = some (0, .getfield 11, 25, [5, 0, 2]) := by decide +kernel
theorem xe_31_22 (a0 a1 : Option MV) (x : Int) (st : List MV) (μ : MM) (G : MG) : ev 31 22 [a0, a1] (vR x :: st) μ G = if gk G x = 5 then ev 31 25 [a0, a1] (vR (μ x 0) :: st) μ G else none := ev_if pg_31_22 rfl
theorem pg_31_25 : mm_prog 31 25 = some (0, .iload_n 1, 26, []) := by decide +kernel
theorem xe_31_25 (a0 : Option MV) (x : Int) (st : List MV) (μ : MM) (G : MG) : ev 31 25 [a0, some (vI x)] st μ G = ev 31 26 [a0, some (vI x)] (vI x :: st) μ G := ev_stp pg_31_25 rfl
theorem pg_31_26 : mm_prog 31 26 = some (0, .aaload, 27, [102, 4]) := by decide +kernel
theorem xe_31_26 (a0 a1 : Option MV) (x y : Int) (st : List MV) (μ : MM) (G : MG) : ev 31 26 [a0, a1] (vI x :: vR y :: st) μ G = if gk G y = 102 ∧ 0 ≤ x ∧ x < gl G y then ev 31 27 [a0, a1] (vR (μ y x) :: st) μ G else none := ev_if pg_31_26 rfl
theorem pg_31_27 : mm_prog 31 27 = some (0, .goto 4, 30, []) := by decide +kernel
theorem xe_31_27 (a0 a1 : Option MV) (st : List MV) (μ : MM) (G : MG) : ev 31 27 [a0, a1] st μ G = ev 31 31 [a0, a1] st μ G := ev_stp pg_31_27 rfl
theorem pg_31_30 : mm_prog 31 30 = some (0, .aconst_null, 31, []) := by decide +kernel
theorem xe_31_30 (a0 a1 : Option MV) (st : List MV) (μ : MM) (G : MG) : ev 31 30 [a0, a1] st μ G = ev 31 31 [a0, a1] (vR 0 :: st) μ G := ev_stp pg_31_30 rfl
theorem pg_31_31 : mm_prog 31 31 = some (2, .areturn, 32, []) := by decide +kernel
theorem xe_31_31 (a0 a1 : Option MV) (x : Int) (μ : MM) (G : MG) : ev 31 31 [a0, a1] [vR x] μ G = some (some (vR x), μ, G) := ev_ret pg_31_31 rfl
-- X5_leftOutBy
theorem pg_32_0 : mm_prog 32 0 = some (0, .iload_n 1, 1, []) := by decide +kernel
theorem xe_32_0 (a0 : Option MV) (x : Int) (st : List MV) (μ : MM) (G : MG) : ev 32 0 [a0, some (vI x)] st μ G = ev 32 1 [a0, some (vI x)] (vI x :: st) μ G := ev_stp pg_32_0 rfl
theorem pg_32_1 : mm_prog 32 1 = some (0, .ifCond .lt 21, 4, []) := by decide +kernel
theorem xe_32_1 (a0 a1 : Option MV) (x : Int) (st : List MV) (μ : MM) (G : MG) : ev 32 1 [a0, a1] (vI x :: st) μ G = if x < 0 then ev 32 22 [a0, a1] st μ G else ev 32 4 [a0, a1] st μ G := ev_br (mm_cnd_lt x 0) pg_32_1 rfl
theorem pg_32_4 : mm_prog 32 4 = some (0, .iload_n 1, 5, []) := by decide +kernel
theorem xe_32_4 (a0 : Option MV) (x : Int) (st : List MV) (μ : MM) (G : MG) : ev 32 4 [a0, some (vI x)] st μ G = ev 32 5 [a0, some (vI x)] (vI x :: st) μ G := ev_stp pg_32_4 rfl
theorem pg_32_5 : mm_prog 32 5 = some (0, .aload_n 0, 6, []) := by decide +kernel
theorem xe_32_5 (a1 : Option MV) (x : Int) (st : List MV) (μ : MM) (G : MG) : ev 32 5 [some (vR x), a1] st μ G = ev 32 6 [some (vR x), a1] (vR x :: st) μ G := ev_stp pg_32_5 rfl
theorem pg_32_6 : mm_prog 32 6 = some (0, .getfield 17, 9, [5, 1, 2]) := by decide +kernel
theorem xe_32_6 (a0 a1 : Option MV) (x : Int) (st : List MV) (μ : MM) (G : MG) : ev 32 6 [a0, a1] (vR x :: st) μ G = if gk G x = 5 then ev 32 9 [a0, a1] (vR (μ x 1) :: st) μ G else none := ev_if pg_32_6 rfl
theorem pg_32_9 : mm_prog 32 9 = some (0, .arraylength, 10, []) := by decide +kernel
theorem xe_32_9 (a0 a1 : Option MV) (x : Int) (st : List MV) (μ : MM) (G : MG) : ev 32 9 [a0, a1] (vR x :: st) μ G = if 100 ≤ gk G x then ev 32 10 [a0, a1] (vI (gl G x) :: st) μ G else none := ev_if pg_32_9 rfl
theorem pg_32_10 : mm_prog 32 10 = some (0, .if_icmp .ge 12, 13, []) := by decide +kernel
theorem xe_32_10 (a0 a1 : Option MV) (x y : Int) (st : List MV) (μ : MM) (G : MG) : ev 32 10 [a0, a1] (vI y :: vI x :: st) μ G = if y ≤ x then ev 32 22 [a0, a1] st μ G else ev 32 13 [a0, a1] st μ G := ev_br (mm_cnd_ge x y) pg_32_10 rfl
theorem pg_32_13 : mm_prog 32 13 = some (0, .aload_n 0, 14, []) := by decide +kernel
theorem xe_32_13 (a1 : Option MV) (x : Int) (st : List MV) (μ : MM) (G : MG) : ev 32 13 [some (vR x), a1] st μ G = ev 32 14 [some (vR x), a1] (vR x :: st) μ G := ev_stp pg_32_13 rfl
theorem pg_32_14 : mm_prog 32 14 = some (0, .getfield 17, 17, [5, 1, 2]) := by decide +kernel
theorem xe_32_14 (a0 a1 : Option MV) (x : Int) (st : List MV) (μ : MM) (G : MG) : ev 32 14 [a0, a1] (vR x :: st) μ G = if gk G x = 5 then ev 32 17 [a0, a1] (vR (μ x 1) :: st) μ G else none := ev_if pg_32_14 rfl
theorem pg_32_17 : mm_prog 32 17 = some (0, .iload_n 1, 18, []) := by decide +kernel
theorem xe_32_17 (a0 : Option MV) (x : Int) (st : List MV) (μ : MM) (G : MG) : ev 32 17 [a0, some (vI x)] st μ G = ev 32 18 [a0, some (vI x)] (vI x :: st) μ G := ev_stp pg_32_17 rfl
theorem pg_32_18 : mm_prog 32 18 = some (0, .iaload, 19, []) := by decide +kernel
theorem xe_32_18 (a0 a1 : Option MV) (x y : Int) (st : List MV) (μ : MM) (G : MG) : ev 32 18 [a0, a1] (vI x :: vR y :: st) μ G = if gk G y = 100 ∧ 0 ≤ x ∧ x < gl G y then ev 32 19 [a0, a1] (vI (μ y x) :: st) μ G else none := ev_if pg_32_18 rfl
theorem pg_32_19 : mm_prog 32 19 = some (0, .goto 4, 22, []) := by decide +kernel
theorem xe_32_19 (a0 a1 : Option MV) (st : List MV) (μ : MM) (G : MG) : ev 32 19 [a0, a1] st μ G = ev 32 23 [a0, a1] st μ G := ev_stp pg_32_19 rfl
theorem pg_32_22 : mm_prog 32 22 = some (0, .iconst 0, 23, []) := by decide +kernel
theorem xe_32_22 (a0 a1 : Option MV) (st : List MV) (μ : MM) (G : MG) : ev 32 22 [a0, a1] st μ G = ev 32 23 [a0, a1] (vI (0) :: st) μ G := ev_stp pg_32_22 rfl
theorem pg_32_23 : mm_prog 32 23 = some (2, .ireturn, 24, [0]) := by decide +kernel
theorem xe_32_23 (a0 a1 : Option MV) (x : Int) (μ : MM) (G : MG) : ev 32 23 [a0, a1] [vI x] μ G = some (some (vI x), μ, G) := ev_ret pg_32_23 rfl
-- X5_indexOf
theorem pg_33_0 : mm_prog 33 0 = some (0, .iconst 0, 1, []) := by decide +kernel
theorem xe_33_0 (a0 a1 a2 a3 a4 : Option MV) (st : List MV) (μ : MM) (G : MG) : ev 33 0 [a0, a1, a2, a3, a4] st μ G = ev 33 1 [a0, a1, a2, a3, a4] (vI (0) :: st) μ G := ev_stp pg_33_0 rfl
theorem pg_33_1 : mm_prog 33 1 = some (0, .istore 4, 3, []) := by decide +kernel
theorem xe_33_1 (a0 a1 a2 a3 a4 : Option MV) (x : Int) (st : List MV) (μ : MM) (G : MG) (h : mm_nL a3 = true) : ev 33 1 [a0, a1, a2, a3, a4] (vI x :: st) μ G = ev 33 3 [a0, a1, a2, a3, some (vI x)] st μ G := ev_st pg_33_1 rfl (mm_nl_of h) (Nat.le_of_ble_eq_true rfl)
theorem pg_33_3 : mm_prog 33 3 = some (0, .iload 4, 5, []) := by decide +kernel
theorem xe_33_3 (a0 a1 a2 a3 : Option MV) (x : Int) (st : List MV) (μ : MM) (G : MG) : ev 33 3 [a0, a1, a2, a3, some (vI x)] st μ G = ev 33 5 [a0, a1, a2, a3, some (vI x)] (vI x :: st) μ G := ev_stp pg_33_3 rfl
theorem pg_33_5 : mm_prog 33 5 = some (0, .aload_n 0, 6, []) := by decide +kernel
theorem xe_33_5 (a1 a2 a3 a4 : Option MV) (x : Int) (st : List MV) (μ : MM) (G : MG) : ev 33 5 [some (vR x), a1, a2, a3, a4] st μ G = ev 33 6 [some (vR x), a1, a2, a3, a4] (vR x :: st) μ G := ev_stp pg_33_5 rfl
theorem pg_33_6 : mm_prog 33 6 = some (0, .getfield 29, 9, [5, 4, 0]) := by decide +kernel
theorem xe_33_6 (a0 a1 a2 a3 a4 : Option MV) (x : Int) (st : List MV) (μ : MM) (G : MG) : ev 33 6 [a0, a1, a2, a3, a4] (vR x :: st) μ G = if gk G x = 5 then ev 33 9 [a0, a1, a2, a3, a4] (vI (μ x 4) :: st) μ G else none := ev_if pg_33_6 rfl
theorem pg_33_9 : mm_prog 33 9 = some (0, .if_icmp .ge 38, 12, []) := by decide +kernel
theorem xe_33_9 (a0 a1 a2 a3 a4 : Option MV) (x y : Int) (st : List MV) (μ : MM) (G : MG) : ev 33 9 [a0, a1, a2, a3, a4] (vI y :: vI x :: st) μ G = if y ≤ x then ev 33 47 [a0, a1, a2, a3, a4] st μ G else ev 33 12 [a0, a1, a2, a3, a4] st μ G := ev_br (mm_cnd_ge x y) pg_33_9 rfl
theorem pg_33_12 : mm_prog 33 12 = some (0, .iload 4, 14, []) := by decide +kernel
theorem xe_33_12 (a0 a1 a2 a3 : Option MV) (x : Int) (st : List MV) (μ : MM) (G : MG) : ev 33 12 [a0, a1, a2, a3, some (vI x)] st μ G = ev 33 14 [a0, a1, a2, a3, some (vI x)] (vI x :: st) μ G := ev_stp pg_33_12 rfl
theorem pg_33_14 : mm_prog 33 14 = some (0, .aload_n 0, 15, []) := by decide +kernel
theorem xe_33_14 (a1 a2 a3 a4 : Option MV) (x : Int) (st : List MV) (μ : MM) (G : MG) : ev 33 14 [some (vR x), a1, a2, a3, a4] st μ G = ev 33 15 [some (vR x), a1, a2, a3, a4] (vR x :: st) μ G := ev_stp pg_33_14 rfl
theorem pg_33_15 : mm_prog 33 15 = some (0, .getfield 11, 18, [5, 0, 2]) := by decide +kernel
theorem xe_33_15 (a0 a1 a2 a3 a4 : Option MV) (x : Int) (st : List MV) (μ : MM) (G : MG) : ev 33 15 [a0, a1, a2, a3, a4] (vR x :: st) μ G = if gk G x = 5 then ev 33 18 [a0, a1, a2, a3, a4] (vR (μ x 0) :: st) μ G else none := ev_if pg_33_15 rfl
theorem pg_33_18 : mm_prog 33 18 = some (0, .arraylength, 19, []) := by decide +kernel
theorem xe_33_18 (a0 a1 a2 a3 a4 : Option MV) (x : Int) (st : List MV) (μ : MM) (G : MG) : ev 33 18 [a0, a1, a2, a3, a4] (vR x :: st) μ G = if 100 ≤ gk G x then ev 33 19 [a0, a1, a2, a3, a4] (vI (gl G x) :: st) μ G else none := ev_if pg_33_18 rfl
theorem pg_33_19 : mm_prog 33 19 = some (0, .if_icmp .ge 28, 22, []) := by decide +kernel
theorem xe_33_19 (a0 a1 a2 a3 a4 : Option MV) (x y : Int) (st : List MV) (μ : MM) (G : MG) : ev 33 19 [a0, a1, a2, a3, a4] (vI y :: vI x :: st) μ G = if y ≤ x then ev 33 47 [a0, a1, a2, a3, a4] st μ G else ev 33 22 [a0, a1, a2, a3, a4] st μ G := ev_br (mm_cnd_ge x y) pg_33_19 rfl
theorem pg_33_22 : mm_prog 33 22 = some (0, .aload_n 0, 23, []) := by decide +kernel
theorem xe_33_22 (a1 a2 a3 a4 : Option MV) (x : Int) (st : List MV) (μ : MM) (G : MG) : ev 33 22 [some (vR x), a1, a2, a3, a4] st μ G = ev 33 23 [some (vR x), a1, a2, a3, a4] (vR x :: st) μ G := ev_stp pg_33_22 rfl
theorem pg_33_23 : mm_prog 33 23 = some (0, .getfield 11, 26, [5, 0, 2]) := by decide +kernel
theorem xe_33_23 (a0 a1 a2 a3 a4 : Option MV) (x : Int) (st : List MV) (μ : MM) (G : MG) : ev 33 23 [a0, a1, a2, a3, a4] (vR x :: st) μ G = if gk G x = 5 then ev 33 26 [a0, a1, a2, a3, a4] (vR (μ x 0) :: st) μ G else none := ev_if pg_33_23 rfl
theorem pg_33_26 : mm_prog 33 26 = some (0, .iload 4, 28, []) := by decide +kernel
theorem xe_33_26 (a0 a1 a2 a3 : Option MV) (x : Int) (st : List MV) (μ : MM) (G : MG) : ev 33 26 [a0, a1, a2, a3, some (vI x)] st μ G = ev 33 28 [a0, a1, a2, a3, some (vI x)] (vI x :: st) μ G := ev_stp pg_33_26 rfl
theorem pg_33_28 : mm_prog 33 28 = some (0, .aaload, 29, [102, 4]) := by decide +kernel
theorem xe_33_28 (a0 a1 a2 a3 a4 : Option MV) (x y : Int) (st : List MV) (μ : MM) (G : MG) : ev 33 28 [a0, a1, a2, a3, a4] (vI x :: vR y :: st) μ G = if gk G y = 102 ∧ 0 ≤ x ∧ x < gl G y then ev 33 29 [a0, a1, a2, a3, a4] (vR (μ y x) :: st) μ G else none := ev_if pg_33_28 rfl
theorem pg_33_29 : mm_prog 33 29 = some (0, .iload_n 1, 30, []) := by decide +kernel
theorem xe_33_29 (a0 a2 a3 a4 : Option MV) (x : Int) (st : List MV) (μ : MM) (G : MG) : ev 33 29 [a0, some (vI x), a2, a3, a4] st μ G = ev 33 30 [a0, some (vI x), a2, a3, a4] (vI x :: st) μ G := ev_stp pg_33_29 rfl
theorem pg_33_30 : mm_prog 33 30 = some (0, .iload_n 2, 31, []) := by decide +kernel
theorem xe_33_30 (a0 a1 a3 a4 : Option MV) (x : Int) (st : List MV) (μ : MM) (G : MG) : ev 33 30 [a0, a1, some (vI x), a3, a4] st μ G = ev 33 31 [a0, a1, some (vI x), a3, a4] (vI x :: st) μ G := ev_stp pg_33_30 rfl
theorem pg_33_31 : mm_prog 33 31 = some (0, .iload_n 3, 32, []) := by decide +kernel
theorem xe_33_31 (a0 a1 a2 a4 : Option MV) (x : Int) (st : List MV) (μ : MM) (G : MG) : ev 33 31 [a0, a1, a2, some (vI x), a4] st μ G = ev 33 32 [a0, a1, a2, some (vI x), a4] (vI x :: st) μ G := ev_stp pg_33_31 rfl
theorem pg_33_32 : mm_prog 33 32 = some (1, .invokevirtual 33, 35, [1, 28, 3, 4]) := by decide +kernel
theorem xe_33_32 (a0 a1 a2 a3 a4 : Option MV) (x0 x1 x2 z : Int) (μ : MM) (G : MG) : ev 33 32 [a0, a1, a2, a3, a4] (vI x2 :: vI x1 :: vI x0 :: vR z :: []) μ G = if gk G z = 4 ∧ 0 < z then (ev 28 0 [some (vR z), some (vI x0), some (vI x1), some (vI x2)] [] μ G).bind (fun q => ev 33 35 [a0, a1, a2, a3, a4] (q.1.toList ++ []) q.2.1 q.2.2) else none := ev_calV (as := [vR z, vI x0, vI x1, vI x2]) (r := []) mx_28 pg_33_32 rfl rfl (Nat.le_of_ble_eq_true rfl) (Nat.le_of_ble_eq_true rfl)
theorem pg_33_35 : mm_prog 33 35 = some (0, .ifCond .eq 6, 38, []) := by decide +kernel
theorem xe_33_35 (a0 a1 a2 a3 a4 : Option MV) (x : Int) (st : List MV) (μ : MM) (G : MG) : ev 33 35 [a0, a1, a2, a3, a4] (vI x :: st) μ G = if x = 0 then ev 33 41 [a0, a1, a2, a3, a4] st μ G else ev 33 38 [a0, a1, a2, a3, a4] st μ G := ev_br (mm_cnd_eq x 0) pg_33_35 rfl
theorem pg_33_38 : mm_prog 33 38 = some (0, .iload 4, 40, []) := by decide +kernel
theorem xe_33_38 (a0 a1 a2 a3 : Option MV) (x : Int) (st : List MV) (μ : MM) (G : MG) : ev 33 38 [a0, a1, a2, a3, some (vI x)] st μ G = ev 33 40 [a0, a1, a2, a3, some (vI x)] (vI x :: st) μ G := ev_stp pg_33_38 rfl
theorem pg_33_40 : mm_prog 33 40 = some (2, .ireturn, 41, [0]) := by decide +kernel
theorem xe_33_40 (a0 a1 a2 a3 a4 : Option MV) (x : Int) (μ : MM) (G : MG) : ev 33 40 [a0, a1, a2, a3, a4] [vI x] μ G = some (some (vI x), μ, G) := ev_ret pg_33_40 rfl
theorem pg_33_41 : mm_prog 33 41 = some (0, .iinc 4 1, 44, []) := by decide +kernel
theorem xe_33_41 (a0 a1 a2 a3 : Option MV) (x : Int) (st : List MV) (μ : MM) (G : MG) (h : mm_nL a3 = true) : ev 33 41 [a0, a1, a2, a3, some (vI x)] st μ G = ev 33 44 [a0, a1, a2, a3, some (vI (w32 (x + (1))))] st μ G := ev_st pg_33_41 rfl (mm_nl_of h) (Nat.le_of_ble_eq_true rfl)
theorem pg_33_44 : mm_prog 33 44 = some (0, .goto (-41), 47, []) := by decide +kernel
theorem xe_33_44 (a0 a1 a2 a3 a4 : Option MV) (st : List MV) (μ : MM) (G : MG) : ev 33 44 [a0, a1, a2, a3, a4] st μ G = ev 33 3 [a0, a1, a2, a3, a4] st μ G := ev_stp pg_33_44 rfl
theorem pg_33_47 : mm_prog 33 47 = some (0, .iconst (-1), 48, []) := by decide +kernel
theorem xe_33_47 (a0 a1 a2 a3 a4 : Option MV) (st : List MV) (μ : MM) (G : MG) : ev 33 47 [a0, a1, a2, a3, a4] st μ G = ev 33 48 [a0, a1, a2, a3, a4] (vI (-1) :: st) μ G := ev_stp pg_33_47 rfl
theorem pg_33_48 : mm_prog 33 48 = some (2, .ireturn, 49, [0]) := by decide +kernel
theorem xe_33_48 (a0 a1 a2 a3 a4 : Option MV) (x : Int) (μ : MM) (G : MG) : ev 33 48 [a0, a1, a2, a3, a4] [vI x] μ G = some (some (vI x), μ, G) := ev_ret pg_33_48 rfl
-- X5_collect
theorem pg_34_0 : mm_prog 34 0 = some (0, .aload_n 0, 1, []) := by decide +kernel
theorem xe_34_0 (a1 a2 a3 a4 : Option MV) (x : Int) (st : List MV) (μ : MM) (G : MG) : ev 34 0 [some (vR x), a1, a2, a3, a4] st μ G = ev 34 1 [some (vR x), a1, a2, a3, a4] (vR x :: st) μ G := ev_stp pg_34_0 rfl
theorem pg_34_1 : mm_prog 34 1 = some (0, .iconst 0, 2, []) := by decide +kernel
theorem xe_34_1 (a0 a1 a2 a3 a4 : Option MV) (st : List MV) (μ : MM) (G : MG) : ev 34 1 [a0, a1, a2, a3, a4] st μ G = ev 34 2 [a0, a1, a2, a3, a4] (vI (0) :: st) μ G := ev_stp pg_34_1 rfl
theorem pg_34_2 : mm_prog 34 2 = some (0, .putfield 29, 5, [5, 4, 0]) := by decide +kernel
theorem xe_34_2 (a0 a1 a2 a3 a4 : Option MV) (x y : Int) (st : List MV) (μ : MM) (G : MG) : ev 34 2 [a0, a1, a2, a3, a4] (vI x :: vR y :: st) μ G = if gk G y = 5 then ev 34 5 [a0, a1, a2, a3, a4] st (mset μ y 4 x) G else none := ev_put0 pg_34_2
theorem pg_34_5 : mm_prog 34 5 = some (0, .aload_n 0, 6, []) := by decide +kernel
theorem xe_34_5 (a1 a2 a3 a4 : Option MV) (x : Int) (st : List MV) (μ : MM) (G : MG) : ev 34 5 [some (vR x), a1, a2, a3, a4] st μ G = ev 34 6 [some (vR x), a1, a2, a3, a4] (vR x :: st) μ G := ev_stp pg_34_5 rfl
theorem pg_34_6 : mm_prog 34 6 = some (0, .getfield 17, 9, [5, 1, 2]) := by decide +kernel
theorem xe_34_6 (a0 a1 a2 a3 a4 : Option MV) (x : Int) (st : List MV) (μ : MM) (G : MG) : ev 34 6 [a0, a1, a2, a3, a4] (vR x :: st) μ G = if gk G x = 5 then ev 34 9 [a0, a1, a2, a3, a4] (vR (μ x 1) :: st) μ G else none := ev_if pg_34_6 rfl
theorem pg_34_9 : mm_prog 34 9 = some (0, .iconst 0, 10, []) := by decide +kernel
theorem xe_34_9 (a0 a1 a2 a3 a4 : Option MV) (st : List MV) (μ : MM) (G : MG) : ev 34 9 [a0, a1, a2, a3, a4] st μ G = ev 34 10 [a0, a1, a2, a3, a4] (vI (0) :: st) μ G := ev_stp pg_34_9 rfl
theorem pg_34_10 : mm_prog 34 10 = some (1, .invokestatic 37, 13, [0, 263, 2, 0]) := by decide +kernel
theorem xe_34_10 (a0 a1 a2 a3 a4 : Option MV) (x0 x1 : Int) (μ : MM) (G : MG) : ev 34 10 [a0, a1, a2, a3, a4] (vI x1 :: vR x0 :: []) μ G = (ev 263 0 [some (vR x0), some (vI x1), none, none] [] μ G).bind (fun q => ev 34 13 [a0, a1, a2, a3, a4] (q.1.toList ++ []) q.2.1 q.2.2) := ev_calS (as := [vR x0, vI x1]) (r := []) mx_263 pg_34_10 rfl rfl (Nat.le_of_ble_eq_true rfl) (Nat.le_of_ble_eq_true rfl)
theorem pg_34_13 : mm_prog 34 13 = some (0, .aload_n 1, 14, []) := by decide +kernel
theorem xe_34_13 (a0 a2 a3 a4 : Option MV) (x : Int) (st : List MV) (μ : MM) (G : MG) : ev 34 13 [a0, some (vR x), a2, a3, a4] st μ G = ev 34 14 [a0, some (vR x), a2, a3, a4] (vR x :: st) μ G := ev_stp pg_34_13 rfl
theorem pg_34_14 : mm_prog 34 14 = some (0, .bipush 54, 16, []) := by decide +kernel
theorem xe_34_14 (a0 a1 a2 a3 a4 : Option MV) (st : List MV) (μ : MM) (G : MG) : ev 34 14 [a0, a1, a2, a3, a4] st μ G = ev 34 16 [a0, a1, a2, a3, a4] (vI (54) :: st) μ G := ev_stp pg_34_14 rfl
theorem pg_34_16 : mm_prog 34 16 = some (1, .invokevirtual 43, 19, [1, 45, 1, 6]) := by decide +kernel
theorem xe_34_16 (a0 a1 a2 a3 a4 : Option MV) (x0 z : Int) (μ : MM) (G : MG) : ev 34 16 [a0, a1, a2, a3, a4] (vI x0 :: vR z :: []) μ G = if gk G z = 6 ∧ 0 < z then (ev 45 0 [some (vR z), some (vI x0)] [] μ G).bind (fun q => ev 34 19 [a0, a1, a2, a3, a4] (q.1.toList ++ []) q.2.1 q.2.2) else none := ev_calV (as := [vR z, vI x0]) (r := []) mx_45 pg_34_16 rfl rfl (Nat.le_of_ble_eq_true rfl) (Nat.le_of_ble_eq_true rfl)
theorem pg_34_19 : mm_prog 34 19 = some (0, .istore_n 2, 20, []) := by decide +kernel
theorem xe_34_19 (a0 a1 a2 a3 a4 : Option MV) (x : Int) (st : List MV) (μ : MM) (G : MG) (h : mm_nL a1 = true) : ev 34 19 [a0, a1, a2, a3, a4] (vI x :: st) μ G = ev 34 20 [a0, a1, some (vI x), a3, a4] st μ G := ev_st pg_34_19 rfl (mm_nl_of h) (Nat.le_of_ble_eq_true rfl)
theorem pg_34_20 : mm_prog 34 20 = some (0, .iconst 0, 21, []) := by decide +kernel
theorem xe_34_20 (a0 a1 a2 a3 a4 : Option MV) (st : List MV) (μ : MM) (G : MG) : ev 34 20 [a0, a1, a2, a3, a4] st μ G = ev 34 21 [a0, a1, a2, a3, a4] (vI (0) :: st) μ G := ev_stp pg_34_20 rfl
theorem pg_34_21 : mm_prog 34 21 = some (0, .istore_n 3, 22, []) := by decide +kernel
theorem xe_34_21 (a0 a1 a2 a3 a4 : Option MV) (x : Int) (st : List MV) (μ : MM) (G : MG) (h : mm_nL a2 = true) : ev 34 21 [a0, a1, a2, a3, a4] (vI x :: st) μ G = ev 34 22 [a0, a1, a2, some (vI x), a4] st μ G := ev_st pg_34_21 rfl (mm_nl_of h) (Nat.le_of_ble_eq_true rfl)
theorem pg_34_22 : mm_prog 34 22 = some (0, .iload_n 3, 23, []) := by decide +kernel
theorem xe_34_22 (a0 a1 a2 a4 : Option MV) (x : Int) (st : List MV) (μ : MM) (G : MG) : ev 34 22 [a0, a1, a2, some (vI x), a4] st μ G = ev 34 23 [a0, a1, a2, some (vI x), a4] (vI x :: st) μ G := ev_stp pg_34_22 rfl
theorem pg_34_23 : mm_prog 34 23 = some (0, .aload_n 1, 24, []) := by decide +kernel
theorem xe_34_23 (a0 a2 a3 a4 : Option MV) (x : Int) (st : List MV) (μ : MM) (G : MG) : ev 34 23 [a0, some (vR x), a2, a3, a4] st μ G = ev 34 24 [a0, some (vR x), a2, a3, a4] (vR x :: st) μ G := ev_stp pg_34_23 rfl
theorem pg_34_24 : mm_prog 34 24 = some (0, .getfield 49, 27, [6, 6, 0]) := by decide +kernel
theorem xe_34_24 (a0 a1 a2 a3 a4 : Option MV) (x : Int) (st : List MV) (μ : MM) (G : MG) : ev 34 24 [a0, a1, a2, a3, a4] (vR x :: st) μ G = if gk G x = 6 then ev 34 27 [a0, a1, a2, a3, a4] (vI (μ x 6) :: st) μ G else none := ev_if pg_34_24 rfl
theorem pg_34_27 : mm_prog 34 27 = some (0, .if_icmp .ge 61, 30, []) := by decide +kernel
theorem xe_34_27 (a0 a1 a2 a3 a4 : Option MV) (x y : Int) (st : List MV) (μ : MM) (G : MG) : ev 34 27 [a0, a1, a2, a3, a4] (vI y :: vI x :: st) μ G = if y ≤ x then ev 34 88 [a0, a1, a2, a3, a4] st μ G else ev 34 30 [a0, a1, a2, a3, a4] st μ G := ev_br (mm_cnd_ge x y) pg_34_27 rfl
theorem pg_34_30 : mm_prog 34 30 = some (0, .aload_n 1, 31, []) := by decide +kernel
theorem xe_34_30 (a0 a2 a3 a4 : Option MV) (x : Int) (st : List MV) (μ : MM) (G : MG) : ev 34 30 [a0, some (vR x), a2, a3, a4] st μ G = ev 34 31 [a0, some (vR x), a2, a3, a4] (vR x :: st) μ G := ev_stp pg_34_30 rfl
theorem pg_34_31 : mm_prog 34 31 = some (0, .iload_n 3, 32, []) := by decide +kernel
theorem xe_34_31 (a0 a1 a2 a4 : Option MV) (x : Int) (st : List MV) (μ : MM) (G : MG) : ev 34 31 [a0, a1, a2, some (vI x), a4] st μ G = ev 34 32 [a0, a1, a2, some (vI x), a4] (vI x :: st) μ G := ev_stp pg_34_31 rfl
theorem pg_34_32 : mm_prog 34 32 = some (1, .invokevirtual 52, 35, [1, 52, 1, 6]) := by decide +kernel
theorem xe_34_32 (a0 a1 a2 a3 a4 : Option MV) (x0 z : Int) (μ : MM) (G : MG) : ev 34 32 [a0, a1, a2, a3, a4] (vI x0 :: vR z :: []) μ G = if gk G z = 6 ∧ 0 < z then (ev 52 0 [some (vR z), some (vI x0)] [] μ G).bind (fun q => ev 34 35 [a0, a1, a2, a3, a4] (q.1.toList ++ []) q.2.1 q.2.2) else none := ev_calV (as := [vR z, vI x0]) (r := []) mx_52 pg_34_32 rfl rfl (Nat.le_of_ble_eq_true rfl) (Nat.le_of_ble_eq_true rfl)
theorem pg_34_35 : mm_prog 34 35 = some (0, .astore 4, 37, []) := by decide +kernel
theorem xe_34_35 (a0 a1 a2 a3 a4 : Option MV) (x : Int) (st : List MV) (μ : MM) (G : MG) (h : mm_nL a3 = true) : ev 34 35 [a0, a1, a2, a3, a4] (vR x :: st) μ G = ev 34 37 [a0, a1, a2, a3, some (vR x)] st μ G := ev_st pg_34_35 rfl (mm_nl_of h) (Nat.le_of_ble_eq_true rfl)
theorem pg_34_37 : mm_prog 34 37 = some (0, .aload 4, 39, []) := by decide +kernel
theorem xe_34_37 (a0 a1 a2 a3 : Option MV) (x : Int) (st : List MV) (μ : MM) (G : MG) : ev 34 37 [a0, a1, a2, a3, some (vR x)] st μ G = ev 34 39 [a0, a1, a2, a3, some (vR x)] (vR x :: st) μ G := ev_stp pg_34_37 rfl
theorem pg_34_39 : mm_prog 34 39 = some (0, .ifnull 43, 42, []) := by decide +kernel
theorem xe_34_39 (a0 a1 a2 a3 a4 : Option MV) (x : Int) (st : List MV) (μ : MM) (G : MG) : ev 34 39 [a0, a1, a2, a3, a4] (vR x :: st) μ G = if x = 7 then none else if x = 0 then ev 34 82 [a0, a1, a2, a3, a4] st μ G else ev 34 42 [a0, a1, a2, a3, a4] st μ G := ev_nul pg_34_39 rfl
theorem pg_34_42 : mm_prog 34 42 = some (0, .aload_n 0, 43, []) := by decide +kernel
theorem xe_34_42 (a1 a2 a3 a4 : Option MV) (x : Int) (st : List MV) (μ : MM) (G : MG) : ev 34 42 [some (vR x), a1, a2, a3, a4] st μ G = ev 34 43 [some (vR x), a1, a2, a3, a4] (vR x :: st) μ G := ev_stp pg_34_42 rfl
theorem pg_34_43 : mm_prog 34 43 = some (0, .getfield 24, 46, [5, 2, 2]) := by decide +kernel
theorem xe_34_43 (a0 a1 a2 a3 a4 : Option MV) (x : Int) (st : List MV) (μ : MM) (G : MG) : ev 34 43 [a0, a1, a2, a3, a4] (vR x :: st) μ G = if gk G x = 5 then ev 34 46 [a0, a1, a2, a3, a4] (vR (μ x 2) :: st) μ G else none := ev_if pg_34_43 rfl
theorem pg_34_46 : mm_prog 34 46 = some (0, .aload 4, 48, []) := by decide +kernel
theorem xe_34_46 (a0 a1 a2 a3 : Option MV) (x : Int) (st : List MV) (μ : MM) (G : MG) : ev 34 46 [a0, a1, a2, a3, some (vR x)] st μ G = ev 34 48 [a0, a1, a2, a3, some (vR x)] (vR x :: st) μ G := ev_stp pg_34_46 rfl
theorem pg_34_48 : mm_prog 34 48 = some (1, .invokevirtual 56, 51, [1, 65, 1, 7]) := by decide +kernel
theorem xe_34_48 (a0 a1 a2 a3 a4 : Option MV) (x0 z : Int) (μ : MM) (G : MG) : ev 34 48 [a0, a1, a2, a3, a4] (vR x0 :: vR z :: []) μ G = if gk G z = 7 ∧ 0 < z then (ev 65 0 [some (vR z), some (vR x0)] [] μ G).bind (fun q => ev 34 51 [a0, a1, a2, a3, a4] (q.1.toList ++ []) q.2.1 q.2.2) else none := ev_calV (as := [vR z, vR x0]) (r := []) mx_65 pg_34_48 rfl rfl (Nat.le_of_ble_eq_true rfl) (Nat.le_of_ble_eq_true rfl)
theorem pg_34_51 : mm_prog 34 51 = some (0, .aload_n 0, 52, []) := by decide +kernel
theorem xe_34_51 (a1 a2 a3 a4 : Option MV) (x : Int) (st : List MV) (μ : MM) (G : MG) : ev 34 51 [some (vR x), a1, a2, a3, a4] st μ G = ev 34 52 [some (vR x), a1, a2, a3, a4] (vR x :: st) μ G := ev_stp pg_34_51 rfl
theorem pg_34_52 : mm_prog 34 52 = some (0, .aload_n 1, 53, []) := by decide +kernel
theorem xe_34_52 (a0 a2 a3 a4 : Option MV) (x : Int) (st : List MV) (μ : MM) (G : MG) : ev 34 52 [a0, some (vR x), a2, a3, a4] st μ G = ev 34 53 [a0, some (vR x), a2, a3, a4] (vR x :: st) μ G := ev_stp pg_34_52 rfl
theorem pg_34_53 : mm_prog 34 53 = some (0, .iload_n 3, 54, []) := by decide +kernel
theorem xe_34_53 (a0 a1 a2 a4 : Option MV) (x : Int) (st : List MV) (μ : MM) (G : MG) : ev 34 53 [a0, a1, a2, some (vI x), a4] st μ G = ev 34 54 [a0, a1, a2, some (vI x), a4] (vI x :: st) μ G := ev_stp pg_34_53 rfl
theorem pg_34_54 : mm_prog 34 54 = some (0, .aload_n 1, 55, []) := by decide +kernel
theorem xe_34_54 (a0 a2 a3 a4 : Option MV) (x : Int) (st : List MV) (μ : MM) (G : MG) : ev 34 54 [a0, some (vR x), a2, a3, a4] st μ G = ev 34 55 [a0, some (vR x), a2, a3, a4] (vR x :: st) μ G := ev_stp pg_34_54 rfl
theorem pg_34_55 : mm_prog 34 55 = some (0, .getfield 60, 58, [6, 7, 0]) := by decide +kernel
theorem xe_34_55 (a0 a1 a2 a3 a4 : Option MV) (x : Int) (st : List MV) (μ : MM) (G : MG) : ev 34 55 [a0, a1, a2, a3, a4] (vR x :: st) μ G = if gk G x = 6 then ev 34 58 [a0, a1, a2, a3, a4] (vI (μ x 7) :: st) μ G else none := ev_if pg_34_55 rfl
theorem pg_34_58 : mm_prog 34 58 = some (0, .if_icmp .ge 7, 61, []) := by decide +kernel
theorem xe_34_58 (a0 a1 a2 a3 a4 : Option MV) (x y : Int) (st : List MV) (μ : MM) (G : MG) : ev 34 58 [a0, a1, a2, a3, a4] (vI y :: vI x :: st) μ G = if y ≤ x then ev 34 65 [a0, a1, a2, a3, a4] st μ G else ev 34 61 [a0, a1, a2, a3, a4] st μ G := ev_br (mm_cnd_ge x y) pg_34_58 rfl
theorem pg_34_61 : mm_prog 34 61 = some (0, .iconst 0, 62, []) := by decide +kernel
theorem xe_34_61 (a0 a1 a2 a3 a4 : Option MV) (st : List MV) (μ : MM) (G : MG) : ev 34 61 [a0, a1, a2, a3, a4] st μ G = ev 34 62 [a0, a1, a2, a3, a4] (vI (0) :: st) μ G := ev_stp pg_34_61 rfl
theorem pg_34_62 : mm_prog 34 62 = some (0, .goto 4, 65, []) := by decide +kernel
theorem xe_34_62 (a0 a1 a2 a3 a4 : Option MV) (st : List MV) (μ : MM) (G : MG) : ev 34 62 [a0, a1, a2, a3, a4] st μ G = ev 34 66 [a0, a1, a2, a3, a4] st μ G := ev_stp pg_34_62 rfl
theorem pg_34_65 : mm_prog 34 65 = some (0, .iconst 1, 66, []) := by decide +kernel
theorem xe_34_65 (a0 a1 a2 a3 a4 : Option MV) (st : List MV) (μ : MM) (G : MG) : ev 34 65 [a0, a1, a2, a3, a4] st μ G = ev 34 66 [a0, a1, a2, a3, a4] (vI (1) :: st) μ G := ev_stp pg_34_65 rfl
theorem pg_34_66 : mm_prog 34 66 = some (0, .iload_n 3, 67, []) := by decide +kernel
theorem xe_34_66 (a0 a1 a2 a4 : Option MV) (x : Int) (st : List MV) (μ : MM) (G : MG) : ev 34 66 [a0, a1, a2, some (vI x), a4] st μ G = ev 34 67 [a0, a1, a2, some (vI x), a4] (vI x :: st) μ G := ev_stp pg_34_66 rfl
theorem pg_34_67 : mm_prog 34 67 = some (0, .ifCond .ne 11, 70, []) := by decide +kernel
theorem xe_34_67 (a0 a1 a2 a3 a4 : Option MV) (x : Int) (st : List MV) (μ : MM) (G : MG) : ev 34 67 [a0, a1, a2, a3, a4] (vI x :: st) μ G = if ¬ x = 0 then ev 34 78 [a0, a1, a2, a3, a4] st μ G else ev 34 70 [a0, a1, a2, a3, a4] st μ G := ev_br (mm_cnd_ne x 0) pg_34_67 rfl
theorem pg_34_70 : mm_prog 34 70 = some (0, .iload_n 2, 71, []) := by decide +kernel
theorem xe_34_70 (a0 a1 a3 a4 : Option MV) (x : Int) (st : List MV) (μ : MM) (G : MG) : ev 34 70 [a0, a1, some (vI x), a3, a4] st μ G = ev 34 71 [a0, a1, some (vI x), a3, a4] (vI x :: st) μ G := ev_stp pg_34_70 rfl
theorem pg_34_71 : mm_prog 34 71 = some (0, .ifCond .eq 7, 74, []) := by decide +kernel
theorem xe_34_71 (a0 a1 a2 a3 a4 : Option MV) (x : Int) (st : List MV) (μ : MM) (G : MG) : ev 34 71 [a0, a1, a2, a3, a4] (vI x :: st) μ G = if x = 0 then ev 34 78 [a0, a1, a2, a3, a4] st μ G else ev 34 74 [a0, a1, a2, a3, a4] st μ G := ev_br (mm_cnd_eq x 0) pg_34_71 rfl
theorem pg_34_74 : mm_prog 34 74 = some (0, .iconst 1, 75, []) := by decide +kernel
theorem xe_34_74 (a0 a1 a2 a3 a4 : Option MV) (st : List MV) (μ : MM) (G : MG) : ev 34 74 [a0, a1, a2, a3, a4] st μ G = ev 34 75 [a0, a1, a2, a3, a4] (vI (1) :: st) μ G := ev_stp pg_34_74 rfl
theorem pg_34_75 : mm_prog 34 75 = some (0, .goto 4, 78, []) := by decide +kernel
theorem xe_34_75 (a0 a1 a2 a3 a4 : Option MV) (st : List MV) (μ : MM) (G : MG) : ev 34 75 [a0, a1, a2, a3, a4] st μ G = ev 34 79 [a0, a1, a2, a3, a4] st μ G := ev_stp pg_34_75 rfl
theorem pg_34_78 : mm_prog 34 78 = some (0, .iconst 0, 79, []) := by decide +kernel
theorem xe_34_78 (a0 a1 a2 a3 a4 : Option MV) (st : List MV) (μ : MM) (G : MG) : ev 34 78 [a0, a1, a2, a3, a4] st μ G = ev 34 79 [a0, a1, a2, a3, a4] (vI (0) :: st) μ G := ev_stp pg_34_78 rfl
theorem pg_34_79 : mm_prog 34 79 = some (1, .invokevirtual 63, 82, [1, 38, 3, 5]) := by decide +kernel
theorem xe_34_79 (a0 a1 a2 a3 a4 : Option MV) (x0 x1 x2 z : Int) (μ : MM) (G : MG) : ev 34 79 [a0, a1, a2, a3, a4] (vI x2 :: vI x1 :: vR x0 :: vR z :: []) μ G = if gk G z = 5 ∧ 0 < z then (ev 38 0 [some (vR z), some (vR x0), some (vI x1), some (vI x2), none] [] μ G).bind (fun q => ev 34 82 [a0, a1, a2, a3, a4] (q.1.toList ++ []) q.2.1 q.2.2) else none := ev_calV (as := [vR z, vR x0, vI x1, vI x2]) (r := []) mx_38 pg_34_79 rfl rfl (Nat.le_of_ble_eq_true rfl) (Nat.le_of_ble_eq_true rfl)
theorem pg_34_82 : mm_prog 34 82 = some (0, .iinc 3 1, 85, []) := by decide +kernel
theorem xe_34_82 (a0 a1 a2 a4 : Option MV) (x : Int) (st : List MV) (μ : MM) (G : MG) (h : mm_nL a2 = true) : ev 34 82 [a0, a1, a2, some (vI x), a4] st μ G = ev 34 85 [a0, a1, a2, some (vI (w32 (x + (1)))), a4] st μ G := ev_st pg_34_82 rfl (mm_nl_of h) (Nat.le_of_ble_eq_true rfl)
theorem pg_34_85 : mm_prog 34 85 = some (0, .goto (-63), 88, []) := by decide +kernel
theorem xe_34_85 (a0 a1 a2 a3 a4 : Option MV) (st : List MV) (μ : MM) (G : MG) : ev 34 85 [a0, a1, a2, a3, a4] st μ G = ev 34 22 [a0, a1, a2, a3, a4] st μ G := ev_stp pg_34_85 rfl
theorem pg_34_88 : mm_prog 34 88 = some (0, .iconst 0, 89, []) := by decide +kernel
theorem xe_34_88 (a0 a1 a2 a3 a4 : Option MV) (st : List MV) (μ : MM) (G : MG) : ev 34 88 [a0, a1, a2, a3, a4] st μ G = ev 34 89 [a0, a1, a2, a3, a4] (vI (0) :: st) μ G := ev_stp pg_34_88 rfl
theorem pg_34_89 : mm_prog 34 89 = some (0, .istore_n 3, 90, []) := by decide +kernel
theorem xe_34_89 (a0 a1 a2 a3 a4 : Option MV) (x : Int) (st : List MV) (μ : MM) (G : MG) (h : mm_nL a2 = true) : ev 34 89 [a0, a1, a2, a3, a4] (vI x :: st) μ G = ev 34 90 [a0, a1, a2, some (vI x), a4] st μ G := ev_st pg_34_89 rfl (mm_nl_of h) (Nat.le_of_ble_eq_true rfl)
theorem pg_34_90 : mm_prog 34 90 = some (0, .iload_n 3, 91, []) := by decide +kernel
theorem xe_34_90 (a0 a1 a2 a4 : Option MV) (x : Int) (st : List MV) (μ : MM) (G : MG) : ev 34 90 [a0, a1, a2, some (vI x), a4] st μ G = ev 34 91 [a0, a1, a2, some (vI x), a4] (vI x :: st) μ G := ev_stp pg_34_90 rfl
theorem pg_34_91 : mm_prog 34 91 = some (0, .aload_n 1, 92, []) := by decide +kernel
theorem xe_34_91 (a0 a2 a3 a4 : Option MV) (x : Int) (st : List MV) (μ : MM) (G : MG) : ev 34 91 [a0, some (vR x), a2, a3, a4] st μ G = ev 34 92 [a0, some (vR x), a2, a3, a4] (vR x :: st) μ G := ev_stp pg_34_91 rfl
theorem pg_34_92 : mm_prog 34 92 = some (0, .getfield 67, 95, [6, 8, 0]) := by decide +kernel
theorem xe_34_92 (a0 a1 a2 a3 a4 : Option MV) (x : Int) (st : List MV) (μ : MM) (G : MG) : ev 34 92 [a0, a1, a2, a3, a4] (vR x :: st) μ G = if gk G x = 6 then ev 34 95 [a0, a1, a2, a3, a4] (vI (μ x 8) :: st) μ G else none := ev_if pg_34_92 rfl
theorem pg_34_95 : mm_prog 34 95 = some (0, .if_icmp .ge 19, 98, []) := by decide +kernel
theorem xe_34_95 (a0 a1 a2 a3 a4 : Option MV) (x y : Int) (st : List MV) (μ : MM) (G : MG) : ev 34 95 [a0, a1, a2, a3, a4] (vI y :: vI x :: st) μ G = if y ≤ x then ev 34 114 [a0, a1, a2, a3, a4] st μ G else ev 34 98 [a0, a1, a2, a3, a4] st μ G := ev_br (mm_cnd_ge x y) pg_34_95 rfl
theorem pg_34_98 : mm_prog 34 98 = some (0, .aload_n 0, 99, []) := by decide +kernel
theorem xe_34_98 (a1 a2 a3 a4 : Option MV) (x : Int) (st : List MV) (μ : MM) (G : MG) : ev 34 98 [some (vR x), a1, a2, a3, a4] st μ G = ev 34 99 [some (vR x), a1, a2, a3, a4] (vR x :: st) μ G := ev_stp pg_34_98 rfl
theorem pg_34_99 : mm_prog 34 99 = some (0, .aload_n 1, 100, []) := by decide +kernel
theorem xe_34_99 (a0 a2 a3 a4 : Option MV) (x : Int) (st : List MV) (μ : MM) (G : MG) : ev 34 99 [a0, some (vR x), a2, a3, a4] st μ G = ev 34 100 [a0, some (vR x), a2, a3, a4] (vR x :: st) μ G := ev_stp pg_34_99 rfl
theorem pg_34_100 : mm_prog 34 100 = some (0, .aload_n 1, 101, []) := by decide +kernel
theorem xe_34_100 (a0 a2 a3 a4 : Option MV) (x : Int) (st : List MV) (μ : MM) (G : MG) : ev 34 100 [a0, some (vR x), a2, a3, a4] st μ G = ev 34 101 [a0, some (vR x), a2, a3, a4] (vR x :: st) μ G := ev_stp pg_34_100 rfl
theorem pg_34_101 : mm_prog 34 101 = some (0, .iload_n 3, 102, []) := by decide +kernel
theorem xe_34_101 (a0 a1 a2 a4 : Option MV) (x : Int) (st : List MV) (μ : MM) (G : MG) : ev 34 101 [a0, a1, a2, some (vI x), a4] st μ G = ev 34 102 [a0, a1, a2, some (vI x), a4] (vI x :: st) μ G := ev_stp pg_34_101 rfl
theorem pg_34_102 : mm_prog 34 102 = some (1, .invokevirtual 70, 105, [1, 53, 1, 6]) := by decide +kernel
theorem xe_34_102 (a0 a1 a2 a3 a4 : Option MV) (x0 z r0 r1 : Int) (μ : MM) (G : MG) : ev 34 102 [a0, a1, a2, a3, a4] (vI x0 :: vR z :: [vR r0, vR r1]) μ G = if gk G z = 6 ∧ 0 < z then (ev 53 0 [some (vR z), some (vI x0)] [] μ G).bind (fun q => ev 34 105 [a0, a1, a2, a3, a4] (q.1.toList ++ [vR r0, vR r1]) q.2.1 q.2.2) else none := ev_calV (as := [vR z, vI x0]) (r := [vR r0, vR r1]) mx_53 pg_34_102 rfl rfl (Nat.le_of_ble_eq_true rfl) (Nat.le_of_ble_eq_true rfl)
theorem pg_34_105 : mm_prog 34 105 = some (1, .invokevirtual 74, 108, [1, 35, 2, 5]) := by decide +kernel
theorem xe_34_105 (a0 a1 a2 a3 a4 : Option MV) (x0 x1 z : Int) (μ : MM) (G : MG) : ev 34 105 [a0, a1, a2, a3, a4] (vI x1 :: vR x0 :: vR z :: []) μ G = if gk G z = 5 ∧ 0 < z then (ev 35 0 [some (vR z), some (vR x0), some (vI x1), none] [] μ G).bind (fun q => ev 34 108 [a0, a1, a2, a3, a4] (q.1.toList ++ []) q.2.1 q.2.2) else none := ev_calV (as := [vR z, vR x0, vI x1]) (r := []) mx_35 pg_34_105 rfl rfl (Nat.le_of_ble_eq_true rfl) (Nat.le_of_ble_eq_true rfl)
theorem pg_34_108 : mm_prog 34 108 = some (0, .iinc 3 1, 111, []) := by decide +kernel
theorem xe_34_108 (a0 a1 a2 a4 : Option MV) (x : Int) (st : List MV) (μ : MM) (G : MG) (h : mm_nL a2 = true) : ev 34 108 [a0, a1, a2, some (vI x), a4] st μ G = ev 34 111 [a0, a1, a2, some (vI (w32 (x + (1)))), a4] st μ G := ev_st pg_34_108 rfl (mm_nl_of h) (Nat.le_of_ble_eq_true rfl)
theorem pg_34_111 : mm_prog 34 111 = some (0, .goto (-21), 114, []) := by decide +kernel
theorem xe_34_111 (a0 a1 a2 a3 a4 : Option MV) (st : List MV) (μ : MM) (G : MG) : ev 34 111 [a0, a1, a2, a3, a4] st μ G = ev 34 90 [a0, a1, a2, a3, a4] st μ G := ev_stp pg_34_111 rfl
theorem pg_34_114 : mm_prog 34 114 = some (0, .bipush 38, 116, []) := by decide +kernel
theorem xe_34_114 (a0 a1 a2 a3 a4 : Option MV) (st : List MV) (μ : MM) (G : MG) : ev 34 114 [a0, a1, a2, a3, a4] st μ G = ev 34 116 [a0, a1, a2, a3, a4] (vI (38) :: st) μ G := ev_stp pg_34_114 rfl
theorem pg_34_116 : mm_prog 34 116 = some (0, .istore_n 3, 117, []) := by decide +kernel
theorem xe_34_116 (a0 a1 a2 a3 a4 : Option MV) (x : Int) (st : List MV) (μ : MM) (G : MG) (h : mm_nL a2 = true) : ev 34 116 [a0, a1, a2, a3, a4] (vI x :: st) μ G = ev 34 117 [a0, a1, a2, some (vI x), a4] st μ G := ev_st pg_34_116 rfl (mm_nl_of h) (Nat.le_of_ble_eq_true rfl)
theorem pg_34_117 : mm_prog 34 117 = some (0, .iload_n 3, 118, []) := by decide +kernel
theorem xe_34_117 (a0 a1 a2 a4 : Option MV) (x : Int) (st : List MV) (μ : MM) (G : MG) : ev 34 117 [a0, a1, a2, some (vI x), a4] st μ G = ev 34 118 [a0, a1, a2, some (vI x), a4] (vI x :: st) μ G := ev_stp pg_34_117 rfl
theorem pg_34_118 : mm_prog 34 118 = some (0, .bipush 54, 120, []) := by decide +kernel
theorem xe_34_118 (a0 a1 a2 a3 a4 : Option MV) (st : List MV) (μ : MM) (G : MG) : ev 34 118 [a0, a1, a2, a3, a4] st μ G = ev 34 120 [a0, a1, a2, a3, a4] (vI (54) :: st) μ G := ev_stp pg_34_118 rfl
theorem pg_34_120 : mm_prog 34 120 = some (0, .if_icmp .ge 32, 123, []) := by decide +kernel
theorem xe_34_120 (a0 a1 a2 a3 a4 : Option MV) (x y : Int) (st : List MV) (μ : MM) (G : MG) : ev 34 120 [a0, a1, a2, a3, a4] (vI y :: vI x :: st) μ G = if y ≤ x then ev 34 152 [a0, a1, a2, a3, a4] st μ G else ev 34 123 [a0, a1, a2, a3, a4] st μ G := ev_br (mm_cnd_ge x y) pg_34_120 rfl
theorem pg_34_123 : mm_prog 34 123 = some (0, .aload_n 0, 124, []) := by decide +kernel
theorem xe_34_123 (a1 a2 a3 a4 : Option MV) (x : Int) (st : List MV) (μ : MM) (G : MG) : ev 34 123 [some (vR x), a1, a2, a3, a4] st μ G = ev 34 124 [some (vR x), a1, a2, a3, a4] (vR x :: st) μ G := ev_stp pg_34_123 rfl
theorem pg_34_124 : mm_prog 34 124 = some (0, .aload_n 1, 125, []) := by decide +kernel
theorem xe_34_124 (a0 a2 a3 a4 : Option MV) (x : Int) (st : List MV) (μ : MM) (G : MG) : ev 34 124 [a0, some (vR x), a2, a3, a4] st μ G = ev 34 125 [a0, some (vR x), a2, a3, a4] (vR x :: st) μ G := ev_stp pg_34_124 rfl
theorem pg_34_125 : mm_prog 34 125 = some (0, .aload_n 1, 126, []) := by decide +kernel
theorem xe_34_125 (a0 a2 a3 a4 : Option MV) (x : Int) (st : List MV) (μ : MM) (G : MG) : ev 34 125 [a0, some (vR x), a2, a3, a4] st μ G = ev 34 126 [a0, some (vR x), a2, a3, a4] (vR x :: st) μ G := ev_stp pg_34_125 rfl
theorem pg_34_126 : mm_prog 34 126 = some (0, .getfield 78, 129, [6, 0, 2]) := by decide +kernel
theorem xe_34_126 (a0 a1 a2 a3 a4 : Option MV) (x : Int) (st : List MV) (μ : MM) (G : MG) : ev 34 126 [a0, a1, a2, a3, a4] (vR x :: st) μ G = if gk G x = 6 then ev 34 129 [a0, a1, a2, a3, a4] (vR (μ x 0) :: st) μ G else none := ev_if pg_34_126 rfl
theorem pg_34_129 : mm_prog 34 129 = some (0, .iload_n 3, 130, []) := by decide +kernel
theorem xe_34_129 (a0 a1 a2 a4 : Option MV) (x : Int) (st : List MV) (μ : MM) (G : MG) : ev 34 129 [a0, a1, a2, some (vI x), a4] st μ G = ev 34 130 [a0, a1, a2, some (vI x), a4] (vI x :: st) μ G := ev_stp pg_34_129 rfl
theorem pg_34_130 : mm_prog 34 130 = some (1, .invokevirtual 82, 133, [1, 3, 1, 0]) := by decide +kernel
theorem xe_34_130 (a0 a1 a2 a3 a4 : Option MV) (x0 z r0 r1 : Int) (μ : MM) (G : MG) : ev 34 130 [a0, a1, a2, a3, a4] (vI x0 :: vR z :: [vR r0, vR r1]) μ G = if gk G z = 0 ∧ 0 < z then (ev 3 0 [some (vR z), some (vI x0)] [] μ G).bind (fun q => ev 34 133 [a0, a1, a2, a3, a4] (q.1.toList ++ [vR r0, vR r1]) q.2.1 q.2.2) else none := ev_calV (as := [vR z, vI x0]) (r := [vR r0, vR r1]) mx_3 pg_34_130 rfl rfl (Nat.le_of_ble_eq_true rfl) (Nat.le_of_ble_eq_true rfl)
theorem pg_34_133 : mm_prog 34 133 = some (0, .aload_n 1, 134, []) := by decide +kernel
theorem xe_34_133 (a0 a2 a3 a4 : Option MV) (x : Int) (st : List MV) (μ : MM) (G : MG) : ev 34 133 [a0, some (vR x), a2, a3, a4] st μ G = ev 34 134 [a0, some (vR x), a2, a3, a4] (vR x :: st) μ G := ev_stp pg_34_133 rfl
theorem pg_34_134 : mm_prog 34 134 = some (0, .getfield 78, 137, [6, 0, 2]) := by decide +kernel
theorem xe_34_134 (a0 a1 a2 a3 a4 : Option MV) (x : Int) (st : List MV) (μ : MM) (G : MG) : ev 34 134 [a0, a1, a2, a3, a4] (vR x :: st) μ G = if gk G x = 6 then ev 34 137 [a0, a1, a2, a3, a4] (vR (μ x 0) :: st) μ G else none := ev_if pg_34_134 rfl
theorem pg_34_137 : mm_prog 34 137 = some (0, .iload_n 3, 138, []) := by decide +kernel
theorem xe_34_137 (a0 a1 a2 a4 : Option MV) (x : Int) (st : List MV) (μ : MM) (G : MG) : ev 34 137 [a0, a1, a2, some (vI x), a4] st μ G = ev 34 138 [a0, a1, a2, some (vI x), a4] (vI x :: st) μ G := ev_stp pg_34_137 rfl
theorem pg_34_138 : mm_prog 34 138 = some (0, .iconst 1, 139, []) := by decide +kernel
theorem xe_34_138 (a0 a1 a2 a3 a4 : Option MV) (st : List MV) (μ : MM) (G : MG) : ev 34 138 [a0, a1, a2, a3, a4] st μ G = ev 34 139 [a0, a1, a2, a3, a4] (vI (1) :: st) μ G := ev_stp pg_34_138 rfl
theorem pg_34_139 : mm_prog 34 139 = some (0, .iadd, 140, []) := by decide +kernel
theorem xe_34_139 (a0 a1 a2 a3 a4 : Option MV) (x y : Int) (st : List MV) (μ : MM) (G : MG) : ev 34 139 [a0, a1, a2, a3, a4] (vI y :: vI x :: st) μ G = ev 34 140 [a0, a1, a2, a3, a4] (vI (w32 (x + y)) :: st) μ G := ev_stp pg_34_139 rfl
theorem pg_34_140 : mm_prog 34 140 = some (1, .invokevirtual 82, 143, [1, 3, 1, 0]) := by decide +kernel
theorem xe_34_140 (a0 a1 a2 a3 a4 : Option MV) (x0 z r0 r1 r2 : Int) (μ : MM) (G : MG) : ev 34 140 [a0, a1, a2, a3, a4] (vI x0 :: vR z :: [vI r0, vR r1, vR r2]) μ G = if gk G z = 0 ∧ 0 < z then (ev 3 0 [some (vR z), some (vI x0)] [] μ G).bind (fun q => ev 34 143 [a0, a1, a2, a3, a4] (q.1.toList ++ [vI r0, vR r1, vR r2]) q.2.1 q.2.2) else none := ev_calV (as := [vR z, vI x0]) (r := [vI r0, vR r1, vR r2]) mx_3 pg_34_140 rfl rfl (Nat.le_of_ble_eq_true rfl) (Nat.le_of_ble_eq_true rfl)
theorem pg_34_143 : mm_prog 34 143 = some (1, .invokevirtual 87, 146, [1, 36, 3, 5]) := by decide +kernel
theorem xe_34_143 (a0 a1 a2 a3 a4 : Option MV) (x0 x1 x2 z : Int) (μ : MM) (G : MG) : ev 34 143 [a0, a1, a2, a3, a4] (vI x2 :: vI x1 :: vR x0 :: vR z :: []) μ G = if gk G z = 5 ∧ 0 < z then (ev 36 0 [some (vR z), some (vR x0), some (vI x1), some (vI x2), none] [] μ G).bind (fun q => ev 34 146 [a0, a1, a2, a3, a4] (q.1.toList ++ []) q.2.1 q.2.2) else none := ev_calV (as := [vR z, vR x0, vI x1, vI x2]) (r := []) mx_36 pg_34_143 rfl rfl (Nat.le_of_ble_eq_true rfl) (Nat.le_of_ble_eq_true rfl)
theorem pg_34_146 : mm_prog 34 146 = some (0, .iinc 3 2, 149, []) := by decide +kernel
theorem xe_34_146 (a0 a1 a2 a4 : Option MV) (x : Int) (st : List MV) (μ : MM) (G : MG) (h : mm_nL a2 = true) : ev 34 146 [a0, a1, a2, some (vI x), a4] st μ G = ev 34 149 [a0, a1, a2, some (vI (w32 (x + (2)))), a4] st μ G := ev_st pg_34_146 rfl (mm_nl_of h) (Nat.le_of_ble_eq_true rfl)
theorem pg_34_149 : mm_prog 34 149 = some (0, .goto (-32), 152, []) := by decide +kernel
theorem xe_34_149 (a0 a1 a2 a3 a4 : Option MV) (st : List MV) (μ : MM) (G : MG) : ev 34 149 [a0, a1, a2, a3, a4] st μ G = ev 34 117 [a0, a1, a2, a3, a4] st μ G := ev_stp pg_34_149 rfl
theorem pg_34_152 : mm_prog 34 152 = some (0, .iconst 0, 153, []) := by decide +kernel
theorem xe_34_152 (a0 a1 a2 a3 a4 : Option MV) (st : List MV) (μ : MM) (G : MG) : ev 34 152 [a0, a1, a2, a3, a4] st μ G = ev 34 153 [a0, a1, a2, a3, a4] (vI (0) :: st) μ G := ev_stp pg_34_152 rfl
theorem pg_34_153 : mm_prog 34 153 = some (0, .istore_n 3, 154, []) := by decide +kernel
theorem xe_34_153 (a0 a1 a2 a3 a4 : Option MV) (x : Int) (st : List MV) (μ : MM) (G : MG) (h : mm_nL a2 = true) : ev 34 153 [a0, a1, a2, a3, a4] (vI x :: st) μ G = ev 34 154 [a0, a1, a2, some (vI x), a4] st μ G := ev_st pg_34_153 rfl (mm_nl_of h) (Nat.le_of_ble_eq_true rfl)
theorem pg_34_154 : mm_prog 34 154 = some (0, .iload_n 3, 155, []) := by decide +kernel
theorem xe_34_154 (a0 a1 a2 a4 : Option MV) (x : Int) (st : List MV) (μ : MM) (G : MG) : ev 34 154 [a0, a1, a2, some (vI x), a4] st μ G = ev 34 155 [a0, a1, a2, some (vI x), a4] (vI x :: st) μ G := ev_stp pg_34_154 rfl
theorem pg_34_155 : mm_prog 34 155 = some (0, .iconst 5, 156, []) := by decide +kernel
theorem xe_34_155 (a0 a1 a2 a3 a4 : Option MV) (st : List MV) (μ : MM) (G : MG) : ev 34 155 [a0, a1, a2, a3, a4] st μ G = ev 34 156 [a0, a1, a2, a3, a4] (vI (5) :: st) μ G := ev_stp pg_34_155 rfl
theorem pg_34_156 : mm_prog 34 156 = some (0, .iadd, 157, []) := by decide +kernel
theorem xe_34_156 (a0 a1 a2 a3 a4 : Option MV) (x y : Int) (st : List MV) (μ : MM) (G : MG) : ev 34 156 [a0, a1, a2, a3, a4] (vI y :: vI x :: st) μ G = ev 34 157 [a0, a1, a2, a3, a4] (vI (w32 (x + y)) :: st) μ G := ev_stp pg_34_156 rfl
theorem pg_34_157 : mm_prog 34 157 = some (0, .getstatic 91, 160, [2, 3]) := by decide +kernel
theorem xe_34_157 (a0 a1 a2 a3 a4 : Option MV) (st : List MV) (μ : MM) (G : MG) : ev 34 157 [a0, a1, a2, a3, a4] st μ G = ev 34 160 [a0, a1, a2, a3, a4] (vR 3 :: st) μ G := ev_stp pg_34_157 rfl
theorem pg_34_160 : mm_prog 34 160 = some (0, .arraylength, 161, []) := by decide +kernel
theorem xe_34_160 (a0 a1 a2 a3 a4 : Option MV) (x : Int) (st : List MV) (μ : MM) (G : MG) : ev 34 160 [a0, a1, a2, a3, a4] (vR x :: st) μ G = if 100 ≤ gk G x then ev 34 161 [a0, a1, a2, a3, a4] (vI (gl G x) :: st) μ G else none := ev_if pg_34_160 rfl
theorem pg_34_161 : mm_prog 34 161 = some (0, .if_icmp .gt 70, 164, []) := by decide +kernel
theorem xe_34_161 (a0 a1 a2 a3 a4 : Option MV) (x y : Int) (st : List MV) (μ : MM) (G : MG) : ev 34 161 [a0, a1, a2, a3, a4] (vI y :: vI x :: st) μ G = if y < x then ev 34 231 [a0, a1, a2, a3, a4] st μ G else ev 34 164 [a0, a1, a2, a3, a4] st μ G := ev_br (mm_cnd_gt x y) pg_34_161 rfl
theorem pg_34_164 : mm_prog 34 164 = some (0, .aload_n 1, 165, []) := by decide +kernel
theorem xe_34_164 (a0 a2 a3 a4 : Option MV) (x : Int) (st : List MV) (μ : MM) (G : MG) : ev 34 164 [a0, some (vR x), a2, a3, a4] st μ G = ev 34 165 [a0, some (vR x), a2, a3, a4] (vR x :: st) μ G := ev_stp pg_34_164 rfl
theorem pg_34_165 : mm_prog 34 165 = some (0, .getfield 78, 168, [6, 0, 2]) := by decide +kernel
theorem xe_34_165 (a0 a1 a2 a3 a4 : Option MV) (x : Int) (st : List MV) (μ : MM) (G : MG) : ev 34 165 [a0, a1, a2, a3, a4] (vR x :: st) μ G = if gk G x = 6 then ev 34 168 [a0, a1, a2, a3, a4] (vR (μ x 0) :: st) μ G else none := ev_if pg_34_165 rfl
theorem pg_34_168 : mm_prog 34 168 = some (0, .getstatic 91, 171, [2, 3]) := by decide +kernel
theorem xe_34_168 (a0 a1 a2 a3 a4 : Option MV) (st : List MV) (μ : MM) (G : MG) : ev 34 168 [a0, a1, a2, a3, a4] st μ G = ev 34 171 [a0, a1, a2, a3, a4] (vR 3 :: st) μ G := ev_stp pg_34_168 rfl
theorem pg_34_171 : mm_prog 34 171 = some (0, .iload_n 3, 172, []) := by decide +kernel
theorem xe_34_171 (a0 a1 a2 a4 : Option MV) (x : Int) (st : List MV) (μ : MM) (G : MG) : ev 34 171 [a0, a1, a2, some (vI x), a4] st μ G = ev 34 172 [a0, a1, a2, some (vI x), a4] (vI x :: st) μ G := ev_stp pg_34_171 rfl
theorem pg_34_172 : mm_prog 34 172 = some (0, .iaload, 173, []) := by decide +kernel
theorem xe_34_172 (a0 a1 a2 a3 a4 : Option MV) (x y : Int) (st : List MV) (μ : MM) (G : MG) : ev 34 172 [a0, a1, a2, a3, a4] (vI x :: vR y :: st) μ G = if gk G y = 100 ∧ 0 ≤ x ∧ x < gl G y then ev 34 173 [a0, a1, a2, a3, a4] (vI (μ y x) :: st) μ G else none := ev_if pg_34_172 rfl
theorem pg_34_173 : mm_prog 34 173 = some (1, .invokevirtual 82, 176, [1, 3, 1, 0]) := by decide +kernel
theorem xe_34_173 (a0 a1 a2 a3 a4 : Option MV) (x0 z : Int) (μ : MM) (G : MG) : ev 34 173 [a0, a1, a2, a3, a4] (vI x0 :: vR z :: []) μ G = if gk G z = 0 ∧ 0 < z then (ev 3 0 [some (vR z), some (vI x0)] [] μ G).bind (fun q => ev 34 176 [a0, a1, a2, a3, a4] (q.1.toList ++ []) q.2.1 q.2.2) else none := ev_calV (as := [vR z, vI x0]) (r := []) mx_3 pg_34_173 rfl rfl (Nat.le_of_ble_eq_true rfl) (Nat.le_of_ble_eq_true rfl)
theorem pg_34_176 : mm_prog 34 176 = some (0, .getstatic 91, 179, [2, 3]) := by decide +kernel
theorem xe_34_176 (a0 a1 a2 a3 a4 : Option MV) (st : List MV) (μ : MM) (G : MG) : ev 34 176 [a0, a1, a2, a3, a4] st μ G = ev 34 179 [a0, a1, a2, a3, a4] (vR 3 :: st) μ G := ev_stp pg_34_176 rfl
theorem pg_34_179 : mm_prog 34 179 = some (0, .iload_n 3, 180, []) := by decide +kernel
theorem xe_34_179 (a0 a1 a2 a4 : Option MV) (x : Int) (st : List MV) (μ : MM) (G : MG) : ev 34 179 [a0, a1, a2, some (vI x), a4] st μ G = ev 34 180 [a0, a1, a2, some (vI x), a4] (vI x :: st) μ G := ev_stp pg_34_179 rfl
theorem pg_34_180 : mm_prog 34 180 = some (0, .iconst 1, 181, []) := by decide +kernel
theorem xe_34_180 (a0 a1 a2 a3 a4 : Option MV) (st : List MV) (μ : MM) (G : MG) : ev 34 180 [a0, a1, a2, a3, a4] st μ G = ev 34 181 [a0, a1, a2, a3, a4] (vI (1) :: st) μ G := ev_stp pg_34_180 rfl
theorem pg_34_181 : mm_prog 34 181 = some (0, .iadd, 182, []) := by decide +kernel
theorem xe_34_181 (a0 a1 a2 a3 a4 : Option MV) (x y : Int) (st : List MV) (μ : MM) (G : MG) : ev 34 181 [a0, a1, a2, a3, a4] (vI y :: vI x :: st) μ G = ev 34 182 [a0, a1, a2, a3, a4] (vI (w32 (x + y)) :: st) μ G := ev_stp pg_34_181 rfl
theorem pg_34_182 : mm_prog 34 182 = some (0, .iaload, 183, []) := by decide +kernel
theorem xe_34_182 (a0 a1 a2 a3 a4 : Option MV) (x y : Int) (st : List MV) (μ : MM) (G : MG) : ev 34 182 [a0, a1, a2, a3, a4] (vI x :: vR y :: st) μ G = if gk G y = 100 ∧ 0 ≤ x ∧ x < gl G y then ev 34 183 [a0, a1, a2, a3, a4] (vI (μ y x) :: st) μ G else none := ev_if pg_34_182 rfl
theorem pg_34_183 : mm_prog 34 183 = some (0, .ishr, 184, []) := by decide +kernel
theorem xe_34_183 (a0 a1 a2 a3 a4 : Option MV) (x y : Int) (st : List MV) (μ : MM) (G : MG) : ev 34 183 [a0, a1, a2, a3, a4] (vI y :: vI x :: st) μ G = ev 34 184 [a0, a1, a2, a3, a4] (vI (mm_shr x y) :: st) μ G := ev_stp pg_34_183 rfl
theorem pg_34_184 : mm_prog 34 184 = some (0, .iconst 1, 185, []) := by decide +kernel
theorem xe_34_184 (a0 a1 a2 a3 a4 : Option MV) (st : List MV) (μ : MM) (G : MG) : ev 34 184 [a0, a1, a2, a3, a4] st μ G = ev 34 185 [a0, a1, a2, a3, a4] (vI (1) :: st) μ G := ev_stp pg_34_184 rfl
theorem pg_34_185 : mm_prog 34 185 = some (0, .iand, 186, []) := by decide +kernel
theorem xe_34_185 (a0 a1 a2 a3 a4 : Option MV) (x y : Int) (st : List MV) (μ : MM) (G : MG) : ev 34 185 [a0, a1, a2, a3, a4] (vI y :: vI x :: st) μ G = ev 34 186 [a0, a1, a2, a3, a4] (vI (mm_and x y) :: st) μ G := ev_stp pg_34_185 rfl
theorem pg_34_186 : mm_prog 34 186 = some (0, .ifCond .eq 39, 189, []) := by decide +kernel
theorem xe_34_186 (a0 a1 a2 a3 a4 : Option MV) (x : Int) (st : List MV) (μ : MM) (G : MG) : ev 34 186 [a0, a1, a2, a3, a4] (vI x :: st) μ G = if x = 0 then ev 34 225 [a0, a1, a2, a3, a4] st μ G else ev 34 189 [a0, a1, a2, a3, a4] st μ G := ev_br (mm_cnd_eq x 0) pg_34_186 rfl
theorem pg_34_189 : mm_prog 34 189 = some (0, .aload_n 0, 190, []) := by decide +kernel
theorem xe_34_189 (a1 a2 a3 a4 : Option MV) (x : Int) (st : List MV) (μ : MM) (G : MG) : ev 34 189 [some (vR x), a1, a2, a3, a4] st μ G = ev 34 190 [some (vR x), a1, a2, a3, a4] (vR x :: st) μ G := ev_stp pg_34_189 rfl
theorem pg_34_190 : mm_prog 34 190 = some (0, .getfield 24, 193, [5, 2, 2]) := by decide +kernel
theorem xe_34_190 (a0 a1 a2 a3 a4 : Option MV) (x : Int) (st : List MV) (μ : MM) (G : MG) : ev 34 190 [a0, a1, a2, a3, a4] (vR x :: st) μ G = if gk G x = 5 then ev 34 193 [a0, a1, a2, a3, a4] (vR (μ x 2) :: st) μ G else none := ev_if pg_34_190 rfl
theorem pg_34_193 : mm_prog 34 193 = some (0, .iconst 0, 194, []) := by decide +kernel
theorem xe_34_193 (a0 a1 a2 a3 a4 : Option MV) (st : List MV) (μ : MM) (G : MG) : ev 34 193 [a0, a1, a2, a3, a4] st μ G = ev 34 194 [a0, a1, a2, a3, a4] (vI (0) :: st) μ G := ev_stp pg_34_193 rfl
theorem pg_34_194 : mm_prog 34 194 = some (0, .getstatic 91, 197, [2, 3]) := by decide +kernel
theorem xe_34_194 (a0 a1 a2 a3 a4 : Option MV) (st : List MV) (μ : MM) (G : MG) : ev 34 194 [a0, a1, a2, a3, a4] st μ G = ev 34 197 [a0, a1, a2, a3, a4] (vR 3 :: st) μ G := ev_stp pg_34_194 rfl
theorem pg_34_197 : mm_prog 34 197 = some (0, .iload_n 3, 198, []) := by decide +kernel
theorem xe_34_197 (a0 a1 a2 a4 : Option MV) (x : Int) (st : List MV) (μ : MM) (G : MG) : ev 34 197 [a0, a1, a2, some (vI x), a4] st μ G = ev 34 198 [a0, a1, a2, some (vI x), a4] (vI x :: st) μ G := ev_stp pg_34_197 rfl
theorem pg_34_198 : mm_prog 34 198 = some (0, .iconst 2, 199, []) := by decide +kernel
theorem xe_34_198 (a0 a1 a2 a3 a4 : Option MV) (st : List MV) (μ : MM) (G : MG) : ev 34 198 [a0, a1, a2, a3, a4] st μ G = ev 34 199 [a0, a1, a2, a3, a4] (vI (2) :: st) μ G := ev_stp pg_34_198 rfl
theorem pg_34_199 : mm_prog 34 199 = some (0, .iadd, 200, []) := by decide +kernel
theorem xe_34_199 (a0 a1 a2 a3 a4 : Option MV) (x y : Int) (st : List MV) (μ : MM) (G : MG) : ev 34 199 [a0, a1, a2, a3, a4] (vI y :: vI x :: st) μ G = ev 34 200 [a0, a1, a2, a3, a4] (vI (w32 (x + y)) :: st) μ G := ev_stp pg_34_199 rfl
theorem pg_34_200 : mm_prog 34 200 = some (0, .iaload, 201, []) := by decide +kernel
theorem xe_34_200 (a0 a1 a2 a3 a4 : Option MV) (x y : Int) (st : List MV) (μ : MM) (G : MG) : ev 34 200 [a0, a1, a2, a3, a4] (vI x :: vR y :: st) μ G = if gk G y = 100 ∧ 0 ≤ x ∧ x < gl G y then ev 34 201 [a0, a1, a2, a3, a4] (vI (μ y x) :: st) μ G else none := ev_if pg_34_200 rfl
theorem pg_34_201 : mm_prog 34 201 = some (0, .getstatic 91, 204, [2, 3]) := by decide +kernel
theorem xe_34_201 (a0 a1 a2 a3 a4 : Option MV) (st : List MV) (μ : MM) (G : MG) : ev 34 201 [a0, a1, a2, a3, a4] st μ G = ev 34 204 [a0, a1, a2, a3, a4] (vR 3 :: st) μ G := ev_stp pg_34_201 rfl
theorem pg_34_204 : mm_prog 34 204 = some (0, .iload_n 3, 205, []) := by decide +kernel
theorem xe_34_204 (a0 a1 a2 a4 : Option MV) (x : Int) (st : List MV) (μ : MM) (G : MG) : ev 34 204 [a0, a1, a2, some (vI x), a4] st μ G = ev 34 205 [a0, a1, a2, some (vI x), a4] (vI x :: st) μ G := ev_stp pg_34_204 rfl
theorem pg_34_205 : mm_prog 34 205 = some (0, .iconst 3, 206, []) := by decide +kernel
theorem xe_34_205 (a0 a1 a2 a3 a4 : Option MV) (st : List MV) (μ : MM) (G : MG) : ev 34 205 [a0, a1, a2, a3, a4] st μ G = ev 34 206 [a0, a1, a2, a3, a4] (vI (3) :: st) μ G := ev_stp pg_34_205 rfl
theorem pg_34_206 : mm_prog 34 206 = some (0, .iadd, 207, []) := by decide +kernel
theorem xe_34_206 (a0 a1 a2 a3 a4 : Option MV) (x y : Int) (st : List MV) (μ : MM) (G : MG) : ev 34 206 [a0, a1, a2, a3, a4] (vI y :: vI x :: st) μ G = ev 34 207 [a0, a1, a2, a3, a4] (vI (w32 (x + y)) :: st) μ G := ev_stp pg_34_206 rfl
theorem pg_34_207 : mm_prog 34 207 = some (0, .iaload, 208, []) := by decide +kernel
theorem xe_34_207 (a0 a1 a2 a3 a4 : Option MV) (x y : Int) (st : List MV) (μ : MM) (G : MG) : ev 34 207 [a0, a1, a2, a3, a4] (vI x :: vR y :: st) μ G = if gk G y = 100 ∧ 0 ≤ x ∧ x < gl G y then ev 34 208 [a0, a1, a2, a3, a4] (vI (μ y x) :: st) μ G else none := ev_if pg_34_207 rfl
theorem pg_34_208 : mm_prog 34 208 = some (0, .getstatic 91, 211, [2, 3]) := by decide +kernel
theorem xe_34_208 (a0 a1 a2 a3 a4 : Option MV) (st : List MV) (μ : MM) (G : MG) : ev 34 208 [a0, a1, a2, a3, a4] st μ G = ev 34 211 [a0, a1, a2, a3, a4] (vR 3 :: st) μ G := ev_stp pg_34_208 rfl
theorem pg_34_211 : mm_prog 34 211 = some (0, .iload_n 3, 212, []) := by decide +kernel
theorem xe_34_211 (a0 a1 a2 a4 : Option MV) (x : Int) (st : List MV) (μ : MM) (G : MG) : ev 34 211 [a0, a1, a2, some (vI x), a4] st μ G = ev 34 212 [a0, a1, a2, some (vI x), a4] (vI x :: st) μ G := ev_stp pg_34_211 rfl
theorem pg_34_212 : mm_prog 34 212 = some (0, .iconst 4, 213, []) := by decide +kernel
theorem xe_34_212 (a0 a1 a2 a3 a4 : Option MV) (st : List MV) (μ : MM) (G : MG) : ev 34 212 [a0, a1, a2, a3, a4] st μ G = ev 34 213 [a0, a1, a2, a3, a4] (vI (4) :: st) μ G := ev_stp pg_34_212 rfl
theorem pg_34_213 : mm_prog 34 213 = some (0, .iadd, 214, []) := by decide +kernel
theorem xe_34_213 (a0 a1 a2 a3 a4 : Option MV) (x y : Int) (st : List MV) (μ : MM) (G : MG) : ev 34 213 [a0, a1, a2, a3, a4] (vI y :: vI x :: st) μ G = ev 34 214 [a0, a1, a2, a3, a4] (vI (w32 (x + y)) :: st) μ G := ev_stp pg_34_213 rfl
theorem pg_34_214 : mm_prog 34 214 = some (0, .iaload, 215, []) := by decide +kernel
theorem xe_34_214 (a0 a1 a2 a3 a4 : Option MV) (x y : Int) (st : List MV) (μ : MM) (G : MG) : ev 34 214 [a0, a1, a2, a3, a4] (vI x :: vR y :: st) μ G = if gk G y = 100 ∧ 0 ≤ x ∧ x < gl G y then ev 34 215 [a0, a1, a2, a3, a4] (vI (μ y x) :: st) μ G else none := ev_if pg_34_214 rfl
theorem pg_34_215 : mm_prog 34 215 = some (1, .invokevirtual 94, 218, [1, 62, 4, 7]) := by decide +kernel
theorem xe_34_215 (a0 a1 a2 a3 a4 : Option MV) (x0 x1 x2 x3 z : Int) (μ : MM) (G : MG) : ev 34 215 [a0, a1, a2, a3, a4] (vI x3 :: vI x2 :: vI x1 :: vI x0 :: vR z :: []) μ G = if gk G z = 7 ∧ 0 < z then (ev 62 0 [some (vR z), some (vI x0), some (vI x1), some (vI x2), some (vI x3), none] [] μ G).bind (fun q => ev 34 218 [a0, a1, a2, a3, a4] (q.1.toList ++ []) q.2.1 q.2.2) else none := ev_calV (as := [vR z, vI x0, vI x1, vI x2, vI x3]) (r := []) mx_62 pg_34_215 rfl rfl (Nat.le_of_ble_eq_true rfl) (Nat.le_of_ble_eq_true rfl)
theorem pg_34_218 : mm_prog 34 218 = some (0, .aload_n 0, 219, []) := by decide +kernel
theorem xe_34_218 (a1 a2 a3 a4 : Option MV) (x : Int) (st : List MV) (μ : MM) (G : MG) : ev 34 218 [some (vR x), a1, a2, a3, a4] st μ G = ev 34 219 [some (vR x), a1, a2, a3, a4] (vR x :: st) μ G := ev_stp pg_34_218 rfl
theorem pg_34_219 : mm_prog 34 219 = some (0, .aload_n 1, 220, []) := by decide +kernel
theorem xe_34_219 (a0 a2 a3 a4 : Option MV) (x : Int) (st : List MV) (μ : MM) (G : MG) : ev 34 219 [a0, some (vR x), a2, a3, a4] st μ G = ev 34 220 [a0, some (vR x), a2, a3, a4] (vR x :: st) μ G := ev_stp pg_34_219 rfl
theorem pg_34_220 : mm_prog 34 220 = some (0, .iconst 4, 221, []) := by decide +kernel
theorem xe_34_220 (a0 a1 a2 a3 a4 : Option MV) (st : List MV) (μ : MM) (G : MG) : ev 34 220 [a0, a1, a2, a3, a4] st μ G = ev 34 221 [a0, a1, a2, a3, a4] (vI (4) :: st) μ G := ev_stp pg_34_220 rfl
theorem pg_34_221 : mm_prog 34 221 = some (0, .iconst 0, 222, []) := by decide +kernel
theorem xe_34_221 (a0 a1 a2 a3 a4 : Option MV) (st : List MV) (μ : MM) (G : MG) : ev 34 221 [a0, a1, a2, a3, a4] st μ G = ev 34 222 [a0, a1, a2, a3, a4] (vI (0) :: st) μ G := ev_stp pg_34_221 rfl
theorem pg_34_222 : mm_prog 34 222 = some (1, .invokevirtual 63, 225, [1, 38, 3, 5]) := by decide +kernel
theorem xe_34_222 (a0 a1 a2 a3 a4 : Option MV) (x0 x1 x2 z : Int) (μ : MM) (G : MG) : ev 34 222 [a0, a1, a2, a3, a4] (vI x2 :: vI x1 :: vR x0 :: vR z :: []) μ G = if gk G z = 5 ∧ 0 < z then (ev 38 0 [some (vR z), some (vR x0), some (vI x1), some (vI x2), none] [] μ G).bind (fun q => ev 34 225 [a0, a1, a2, a3, a4] (q.1.toList ++ []) q.2.1 q.2.2) else none := ev_calV (as := [vR z, vR x0, vI x1, vI x2]) (r := []) mx_38 pg_34_222 rfl rfl (Nat.le_of_ble_eq_true rfl) (Nat.le_of_ble_eq_true rfl)
theorem pg_34_225 : mm_prog 34 225 = some (0, .iinc 3 5, 228, []) := by decide +kernel
theorem xe_34_225 (a0 a1 a2 a4 : Option MV) (x : Int) (st : List MV) (μ : MM) (G : MG) (h : mm_nL a2 = true) : ev 34 225 [a0, a1, a2, some (vI x), a4] st μ G = ev 34 228 [a0, a1, a2, some (vI (w32 (x + (5)))), a4] st μ G := ev_st pg_34_225 rfl (mm_nl_of h) (Nat.le_of_ble_eq_true rfl)
theorem pg_34_228 : mm_prog 34 228 = some (0, .goto (-74), 231, []) := by decide +kernel
theorem xe_34_228 (a0 a1 a2 a3 a4 : Option MV) (st : List MV) (μ : MM) (G : MG) : ev 34 228 [a0, a1, a2, a3, a4] st μ G = ev 34 154 [a0, a1, a2, a3, a4] st μ G := ev_stp pg_34_228 rfl
theorem pg_34_231 : mm_prog 34 231 = some (2, .return_, 232, []) := by decide +kernel
theorem xe_34_231 (a0 a1 a2 a3 a4 : Option MV) (μ : MM) (G : MG) : ev 34 231 [a0, a1, a2, a3, a4] [] μ G = some (none, μ, G) := ev_ret pg_34_231 rfl
-- X5_offerCode
theorem pg_35_0 : mm_prog 35 0 = some (0, .iconst 0, 1, []) := by decide +kernel
theorem xe_35_0 (a0 a1 a2 a3 : Option MV) (st : List MV) (μ : MM) (G : MG) : ev 35 0 [a0, a1, a2, a3] st μ G = ev 35 1 [a0, a1, a2, a3] (vI (0) :: st) μ G := ev_stp pg_35_0 rfl
theorem pg_35_1 : mm_prog 35 1 = some (0, .istore_n 3, 2, []) := by decide +kernel
theorem xe_35_1 (a0 a1 a2 a3 : Option MV) (x : Int) (st : List MV) (μ : MM) (G : MG) (h : mm_nL a2 = true) : ev 35 1 [a0, a1, a2, a3] (vI x :: st) μ G = ev 35 2 [a0, a1, a2, some (vI x)] st μ G := ev_st pg_35_1 rfl (mm_nl_of h) (Nat.le_of_ble_eq_true rfl)
theorem pg_35_2 : mm_prog 35 2 = some (0, .iload_n 3, 3, []) := by decide +kernel
theorem xe_35_2 (a0 a1 a2 : Option MV) (x : Int) (st : List MV) (μ : MM) (G : MG) : ev 35 2 [a0, a1, a2, some (vI x)] st μ G = ev 35 3 [a0, a1, a2, some (vI x)] (vI x :: st) μ G := ev_stp pg_35_2 rfl
theorem pg_35_3 : mm_prog 35 3 = some (0, .bipush 6, 5, []) := by decide +kernel
theorem xe_35_3 (a0 a1 a2 a3 : Option MV) (st : List MV) (μ : MM) (G : MG) : ev 35 3 [a0, a1, a2, a3] st μ G = ev 35 5 [a0, a1, a2, a3] (vI (6) :: st) μ G := ev_stp pg_35_3 rfl
theorem pg_35_5 : mm_prog 35 5 = some (0, .iadd, 6, []) := by decide +kernel
theorem xe_35_5 (a0 a1 a2 a3 : Option MV) (x y : Int) (st : List MV) (μ : MM) (G : MG) : ev 35 5 [a0, a1, a2, a3] (vI y :: vI x :: st) μ G = ev 35 6 [a0, a1, a2, a3] (vI (w32 (x + y)) :: st) μ G := ev_stp pg_35_5 rfl
theorem pg_35_6 : mm_prog 35 6 = some (0, .getstatic 98, 9, [2, 2]) := by decide +kernel
theorem xe_35_6 (a0 a1 a2 a3 : Option MV) (st : List MV) (μ : MM) (G : MG) : ev 35 6 [a0, a1, a2, a3] st μ G = ev 35 9 [a0, a1, a2, a3] (vR 2 :: st) μ G := ev_stp pg_35_6 rfl
theorem pg_35_9 : mm_prog 35 9 = some (0, .arraylength, 10, []) := by decide +kernel
theorem xe_35_9 (a0 a1 a2 a3 : Option MV) (x : Int) (st : List MV) (μ : MM) (G : MG) : ev 35 9 [a0, a1, a2, a3] (vR x :: st) μ G = if 100 ≤ gk G x then ev 35 10 [a0, a1, a2, a3] (vI (gl G x) :: st) μ G else none := ev_if pg_35_9 rfl
theorem pg_35_10 : mm_prog 35 10 = some (0, .if_icmp .gt 34, 13, []) := by decide +kernel
theorem xe_35_10 (a0 a1 a2 a3 : Option MV) (x y : Int) (st : List MV) (μ : MM) (G : MG) : ev 35 10 [a0, a1, a2, a3] (vI y :: vI x :: st) μ G = if y < x then ev 35 44 [a0, a1, a2, a3] st μ G else ev 35 13 [a0, a1, a2, a3] st μ G := ev_br (mm_cnd_gt x y) pg_35_10 rfl
theorem pg_35_13 : mm_prog 35 13 = some (0, .getstatic 98, 16, [2, 2]) := by decide +kernel
theorem xe_35_13 (a0 a1 a2 a3 : Option MV) (st : List MV) (μ : MM) (G : MG) : ev 35 13 [a0, a1, a2, a3] st μ G = ev 35 16 [a0, a1, a2, a3] (vR 2 :: st) μ G := ev_stp pg_35_13 rfl
theorem pg_35_16 : mm_prog 35 16 = some (0, .iload_n 3, 17, []) := by decide +kernel
theorem xe_35_16 (a0 a1 a2 : Option MV) (x : Int) (st : List MV) (μ : MM) (G : MG) : ev 35 16 [a0, a1, a2, some (vI x)] st μ G = ev 35 17 [a0, a1, a2, some (vI x)] (vI x :: st) μ G := ev_stp pg_35_16 rfl
theorem pg_35_17 : mm_prog 35 17 = some (0, .iaload, 18, []) := by decide +kernel
theorem xe_35_17 (a0 a1 a2 a3 : Option MV) (x y : Int) (st : List MV) (μ : MM) (G : MG) : ev 35 17 [a0, a1, a2, a3] (vI x :: vR y :: st) μ G = if gk G y = 100 ∧ 0 ≤ x ∧ x < gl G y then ev 35 18 [a0, a1, a2, a3] (vI (μ y x) :: st) μ G else none := ev_if pg_35_17 rfl
theorem pg_35_18 : mm_prog 35 18 = some (0, .iload_n 2, 19, []) := by decide +kernel
theorem xe_35_18 (a0 a1 a3 : Option MV) (x : Int) (st : List MV) (μ : MM) (G : MG) : ev 35 18 [a0, a1, some (vI x), a3] st μ G = ev 35 19 [a0, a1, some (vI x), a3] (vI x :: st) μ G := ev_stp pg_35_18 rfl
theorem pg_35_19 : mm_prog 35 19 = some (0, .if_icmp .ne 19, 22, []) := by decide +kernel
theorem xe_35_19 (a0 a1 a2 a3 : Option MV) (x y : Int) (st : List MV) (μ : MM) (G : MG) : ev 35 19 [a0, a1, a2, a3] (vI y :: vI x :: st) μ G = if ¬ x = y then ev 35 38 [a0, a1, a2, a3] st μ G else ev 35 22 [a0, a1, a2, a3] st μ G := ev_br (mm_cnd_ne x y) pg_35_19 rfl
theorem pg_35_22 : mm_prog 35 22 = some (0, .aload_n 0, 23, []) := by decide +kernel
theorem xe_35_22 (a1 a2 a3 : Option MV) (x : Int) (st : List MV) (μ : MM) (G : MG) : ev 35 22 [some (vR x), a1, a2, a3] st μ G = ev 35 23 [some (vR x), a1, a2, a3] (vR x :: st) μ G := ev_stp pg_35_22 rfl
theorem pg_35_23 : mm_prog 35 23 = some (0, .getfield 24, 26, [5, 2, 2]) := by decide +kernel
theorem xe_35_23 (a0 a1 a2 a3 : Option MV) (x : Int) (st : List MV) (μ : MM) (G : MG) : ev 35 23 [a0, a1, a2, a3] (vR x :: st) μ G = if gk G x = 5 then ev 35 26 [a0, a1, a2, a3] (vR (μ x 2) :: st) μ G else none := ev_if pg_35_23 rfl
theorem pg_35_26 : mm_prog 35 26 = some (0, .iload_n 3, 27, []) := by decide +kernel
theorem xe_35_26 (a0 a1 a2 : Option MV) (x : Int) (st : List MV) (μ : MM) (G : MG) : ev 35 26 [a0, a1, a2, some (vI x)] st μ G = ev 35 27 [a0, a1, a2, some (vI x)] (vI x :: st) μ G := ev_stp pg_35_26 rfl
theorem pg_35_27 : mm_prog 35 27 = some (1, .invokevirtual 101, 30, [1, 66, 1, 7]) := by decide +kernel
theorem xe_35_27 (a0 a1 a2 a3 : Option MV) (x0 z : Int) (μ : MM) (G : MG) : ev 35 27 [a0, a1, a2, a3] (vI x0 :: vR z :: []) μ G = if gk G z = 7 ∧ 0 < z then (ev 66 0 [some (vR z), some (vI x0)] [] μ G).bind (fun q => ev 35 30 [a0, a1, a2, a3] (q.1.toList ++ []) q.2.1 q.2.2) else none := ev_calV (as := [vR z, vI x0]) (r := []) mx_66 pg_35_27 rfl rfl (Nat.le_of_ble_eq_true rfl) (Nat.le_of_ble_eq_true rfl)
theorem pg_35_30 : mm_prog 35 30 = some (0, .aload_n 0, 31, []) := by decide +kernel
theorem xe_35_30 (a1 a2 a3 : Option MV) (x : Int) (st : List MV) (μ : MM) (G : MG) : ev 35 30 [some (vR x), a1, a2, a3] st μ G = ev 35 31 [some (vR x), a1, a2, a3] (vR x :: st) μ G := ev_stp pg_35_30 rfl
theorem pg_35_31 : mm_prog 35 31 = some (0, .aload_n 1, 32, []) := by decide +kernel
theorem xe_35_31 (a0 a2 a3 : Option MV) (x : Int) (st : List MV) (μ : MM) (G : MG) : ev 35 31 [a0, some (vR x), a2, a3] st μ G = ev 35 32 [a0, some (vR x), a2, a3] (vR x :: st) μ G := ev_stp pg_35_31 rfl
theorem pg_35_32 : mm_prog 35 32 = some (0, .iconst 2, 33, []) := by decide +kernel
theorem xe_35_32 (a0 a1 a2 a3 : Option MV) (st : List MV) (μ : MM) (G : MG) : ev 35 32 [a0, a1, a2, a3] st μ G = ev 35 33 [a0, a1, a2, a3] (vI (2) :: st) μ G := ev_stp pg_35_32 rfl
theorem pg_35_33 : mm_prog 35 33 = some (0, .iconst 0, 34, []) := by decide +kernel
theorem xe_35_33 (a0 a1 a2 a3 : Option MV) (st : List MV) (μ : MM) (G : MG) : ev 35 33 [a0, a1, a2, a3] st μ G = ev 35 34 [a0, a1, a2, a3] (vI (0) :: st) μ G := ev_stp pg_35_33 rfl
theorem pg_35_34 : mm_prog 35 34 = some (1, .invokevirtual 63, 37, [1, 38, 3, 5]) := by decide +kernel
theorem xe_35_34 (a0 a1 a2 a3 : Option MV) (x0 x1 x2 z : Int) (μ : MM) (G : MG) : ev 35 34 [a0, a1, a2, a3] (vI x2 :: vI x1 :: vR x0 :: vR z :: []) μ G = if gk G z = 5 ∧ 0 < z then (ev 38 0 [some (vR z), some (vR x0), some (vI x1), some (vI x2), none] [] μ G).bind (fun q => ev 35 37 [a0, a1, a2, a3] (q.1.toList ++ []) q.2.1 q.2.2) else none := ev_calV (as := [vR z, vR x0, vI x1, vI x2]) (r := []) mx_38 pg_35_34 rfl rfl (Nat.le_of_ble_eq_true rfl) (Nat.le_of_ble_eq_true rfl)
theorem pg_35_37 : mm_prog 35 37 = some (2, .return_, 38, []) := by decide +kernel
theorem xe_35_37 (a0 a1 a2 a3 : Option MV) (μ : MM) (G : MG) : ev 35 37 [a0, a1, a2, a3] [] μ G = some (none, μ, G) := ev_ret pg_35_37 rfl
theorem pg_35_38 : mm_prog 35 38 = some (0, .iinc 3 6, 41, []) := by decide +kernel
theorem xe_35_38 (a0 a1 a2 : Option MV) (x : Int) (st : List MV) (μ : MM) (G : MG) (h : mm_nL a2 = true) : ev 35 38 [a0, a1, a2, some (vI x)] st μ G = ev 35 41 [a0, a1, a2, some (vI (w32 (x + (6))))] st μ G := ev_st pg_35_38 rfl (mm_nl_of h) (Nat.le_of_ble_eq_true rfl)
theorem pg_35_41 : mm_prog 35 41 = some (0, .goto (-39), 44, []) := by decide +kernel
theorem xe_35_41 (a0 a1 a2 a3 : Option MV) (st : List MV) (μ : MM) (G : MG) : ev 35 41 [a0, a1, a2, a3] st μ G = ev 35 2 [a0, a1, a2, a3] st μ G := ev_stp pg_35_41 rfl
theorem pg_35_44 : mm_prog 35 44 = some (0, .aload_n 0, 45, []) := by decide +kernel
theorem xe_35_44 (a1 a2 a3 : Option MV) (x : Int) (st : List MV) (μ : MM) (G : MG) : ev 35 44 [some (vR x), a1, a2, a3] st μ G = ev 35 45 [some (vR x), a1, a2, a3] (vR x :: st) μ G := ev_stp pg_35_44 rfl
theorem pg_35_45 : mm_prog 35 45 = some (0, .getfield 17, 48, [5, 1, 2]) := by decide +kernel
theorem xe_35_45 (a0 a1 a2 a3 : Option MV) (x : Int) (st : List MV) (μ : MM) (G : MG) : ev 35 45 [a0, a1, a2, a3] (vR x :: st) μ G = if gk G x = 5 then ev 35 48 [a0, a1, a2, a3] (vR (μ x 1) :: st) μ G else none := ev_if pg_35_45 rfl
theorem pg_35_48 : mm_prog 35 48 = some (0, .iconst 1, 49, []) := by decide +kernel
theorem xe_35_48 (a0 a1 a2 a3 : Option MV) (st : List MV) (μ : MM) (G : MG) : ev 35 48 [a0, a1, a2, a3] st μ G = ev 35 49 [a0, a1, a2, a3] (vI (1) :: st) μ G := ev_stp pg_35_48 rfl
theorem pg_35_49 : mm_prog 35 49 = some (0, .dup2, 50, []) := by decide +kernel
theorem xe_35_49 (a0 a1 a2 a3 : Option MV) (x y : Int) (st : List MV) (μ : MM) (G : MG) : ev 35 49 [a0, a1, a2, a3] (vI x :: vR y :: st) μ G = ev 35 50 [a0, a1, a2, a3] (vI x :: vR y :: vI x :: vR y :: st) μ G := ev_stp pg_35_49 rfl
theorem pg_35_50 : mm_prog 35 50 = some (0, .iaload, 51, []) := by decide +kernel
theorem xe_35_50 (a0 a1 a2 a3 : Option MV) (x y : Int) (st : List MV) (μ : MM) (G : MG) : ev 35 50 [a0, a1, a2, a3] (vI x :: vR y :: st) μ G = if gk G y = 100 ∧ 0 ≤ x ∧ x < gl G y then ev 35 51 [a0, a1, a2, a3] (vI (μ y x) :: st) μ G else none := ev_if pg_35_50 rfl
theorem pg_35_51 : mm_prog 35 51 = some (0, .iconst 1, 52, []) := by decide +kernel
theorem xe_35_51 (a0 a1 a2 a3 : Option MV) (st : List MV) (μ : MM) (G : MG) : ev 35 51 [a0, a1, a2, a3] st μ G = ev 35 52 [a0, a1, a2, a3] (vI (1) :: st) μ G := ev_stp pg_35_51 rfl
theorem pg_35_52 : mm_prog 35 52 = some (0, .iadd, 53, []) := by decide +kernel
theorem xe_35_52 (a0 a1 a2 a3 : Option MV) (x y : Int) (st : List MV) (μ : MM) (G : MG) : ev 35 52 [a0, a1, a2, a3] (vI y :: vI x :: st) μ G = ev 35 53 [a0, a1, a2, a3] (vI (w32 (x + y)) :: st) μ G := ev_stp pg_35_52 rfl
theorem pg_35_53 : mm_prog 35 53 = some (0, .iastore, 54, []) := by decide +kernel
theorem xe_35_53 (a0 a1 a2 a3 : Option MV) (x y z : Int) (st : List MV) (μ : MM) (G : MG) : ev 35 53 [a0, a1, a2, a3] (vI x :: vI y :: vR z :: st) μ G = if gk G z = 100 ∧ 0 ≤ y ∧ y < gl G z ∧ 10 ≤ z then ev 35 54 [a0, a1, a2, a3] st (mset μ z y x) G else none := ev_if pg_35_53 rfl
theorem pg_35_54 : mm_prog 35 54 = some (2, .return_, 55, []) := by decide +kernel
theorem xe_35_54 (a0 a1 a2 a3 : Option MV) (μ : MM) (G : MG) : ev 35 54 [a0, a1, a2, a3] [] μ G = some (none, μ, G) := ev_ret pg_35_54 rfl
-- X5_offerStandard
theorem pg_36_0 : mm_prog 36 0 = some (0, .iload_n 2, 1, []) := by decide +kernel
theorem xe_36_0 (a0 a1 a3 a4 : Option MV) (x : Int) (st : List MV) (μ : MM) (G : MG) : ev 36 0 [a0, a1, some (vI x), a3, a4] st μ G = ev 36 1 [a0, a1, some (vI x), a3, a4] (vI x :: st) μ G := ev_stp pg_36_0 rfl
theorem pg_36_1 : mm_prog 36 1 = some (0, .ifCond .eq 13, 4, []) := by decide +kernel
theorem xe_36_1 (a0 a1 a2 a3 a4 : Option MV) (x : Int) (st : List MV) (μ : MM) (G : MG) : ev 36 1 [a0, a1, a2, a3, a4] (vI x :: st) μ G = if x = 0 then ev 36 14 [a0, a1, a2, a3, a4] st μ G else ev 36 4 [a0, a1, a2, a3, a4] st μ G := ev_br (mm_cnd_eq x 0) pg_36_1 rfl
theorem pg_36_4 : mm_prog 36 4 = some (0, .iload_n 2, 5, []) := by decide +kernel
theorem xe_36_4 (a0 a1 a3 a4 : Option MV) (x : Int) (st : List MV) (μ : MM) (G : MG) : ev 36 4 [a0, a1, some (vI x), a3, a4] st μ G = ev 36 5 [a0, a1, some (vI x), a3, a4] (vI x :: st) μ G := ev_stp pg_36_4 rfl
theorem pg_36_5 : mm_prog 36 5 = some (0, .iconst 1, 6, []) := by decide +kernel
theorem xe_36_5 (a0 a1 a2 a3 a4 : Option MV) (st : List MV) (μ : MM) (G : MG) : ev 36 5 [a0, a1, a2, a3, a4] st μ G = ev 36 6 [a0, a1, a2, a3, a4] (vI (1) :: st) μ G := ev_stp pg_36_5 rfl
theorem pg_36_6 : mm_prog 36 6 = some (0, .if_icmp .ne 9, 9, []) := by decide +kernel
theorem xe_36_6 (a0 a1 a2 a3 a4 : Option MV) (x y : Int) (st : List MV) (μ : MM) (G : MG) : ev 36 6 [a0, a1, a2, a3, a4] (vI y :: vI x :: st) μ G = if ¬ x = y then ev 36 15 [a0, a1, a2, a3, a4] st μ G else ev 36 9 [a0, a1, a2, a3, a4] st μ G := ev_br (mm_cnd_ne x y) pg_36_6 rfl
theorem pg_36_9 : mm_prog 36 9 = some (0, .iload_n 3, 10, []) := by decide +kernel
theorem xe_36_9 (a0 a1 a2 a4 : Option MV) (x : Int) (st : List MV) (μ : MM) (G : MG) : ev 36 9 [a0, a1, a2, some (vI x), a4] st μ G = ev 36 10 [a0, a1, a2, some (vI x), a4] (vI x :: st) μ G := ev_stp pg_36_9 rfl
theorem pg_36_10 : mm_prog 36 10 = some (0, .iconst 1, 11, []) := by decide +kernel
theorem xe_36_10 (a0 a1 a2 a3 a4 : Option MV) (st : List MV) (μ : MM) (G : MG) : ev 36 10 [a0, a1, a2, a3, a4] st μ G = ev 36 11 [a0, a1, a2, a3, a4] (vI (1) :: st) μ G := ev_stp pg_36_10 rfl
theorem pg_36_11 : mm_prog 36 11 = some (0, .if_icmp .ne 4, 14, []) := by decide +kernel
theorem xe_36_11 (a0 a1 a2 a3 a4 : Option MV) (x y : Int) (st : List MV) (μ : MM) (G : MG) : ev 36 11 [a0, a1, a2, a3, a4] (vI y :: vI x :: st) μ G = if ¬ x = y then ev 36 15 [a0, a1, a2, a3, a4] st μ G else ev 36 14 [a0, a1, a2, a3, a4] st μ G := ev_br (mm_cnd_ne x y) pg_36_11 rfl
theorem pg_36_14 : mm_prog 36 14 = some (2, .return_, 15, []) := by decide +kernel
theorem xe_36_14 (a0 a1 a2 a3 a4 : Option MV) (μ : MM) (G : MG) : ev 36 14 [a0, a1, a2, a3, a4] [] μ G = some (none, μ, G) := ev_ret pg_36_14 rfl
theorem pg_36_15 : mm_prog 36 15 = some (0, .bipush 8, 17, []) := by decide +kernel
theorem xe_36_15 (a0 a1 a2 a3 a4 : Option MV) (st : List MV) (μ : MM) (G : MG) : ev 36 15 [a0, a1, a2, a3, a4] st μ G = ev 36 17 [a0, a1, a2, a3, a4] (vI (8) :: st) μ G := ev_stp pg_36_15 rfl
theorem pg_36_17 : mm_prog 36 17 = some (0, .iload_n 2, 18, []) := by decide +kernel
theorem xe_36_17 (a0 a1 a3 a4 : Option MV) (x : Int) (st : List MV) (μ : MM) (G : MG) : ev 36 17 [a0, a1, some (vI x), a3, a4] st μ G = ev 36 18 [a0, a1, some (vI x), a3, a4] (vI x :: st) μ G := ev_stp pg_36_17 rfl
theorem pg_36_18 : mm_prog 36 18 = some (0, .bipush 31, 20, []) := by decide +kernel
theorem xe_36_18 (a0 a1 a2 a3 a4 : Option MV) (st : List MV) (μ : MM) (G : MG) : ev 36 18 [a0, a1, a2, a3, a4] st μ G = ev 36 20 [a0, a1, a2, a3, a4] (vI (31) :: st) μ G := ev_stp pg_36_18 rfl
theorem pg_36_20 : mm_prog 36 20 = some (0, .iadd, 21, []) := by decide +kernel
theorem xe_36_20 (a0 a1 a2 a3 a4 : Option MV) (x y : Int) (st : List MV) (μ : MM) (G : MG) : ev 36 20 [a0, a1, a2, a3, a4] (vI y :: vI x :: st) μ G = ev 36 21 [a0, a1, a2, a3, a4] (vI (w32 (x + y)) :: st) μ G := ev_stp pg_36_20 rfl
theorem pg_36_21 : mm_prog 36 21 = some (0, .imul, 22, []) := by decide +kernel
theorem xe_36_21 (a0 a1 a2 a3 a4 : Option MV) (x y : Int) (st : List MV) (μ : MM) (G : MG) : ev 36 21 [a0, a1, a2, a3, a4] (vI y :: vI x :: st) μ G = ev 36 22 [a0, a1, a2, a3, a4] (vI (w32 (x * y)) :: st) μ G := ev_stp pg_36_21 rfl
theorem pg_36_22 : mm_prog 36 22 = some (0, .istore 4, 24, []) := by decide +kernel
theorem xe_36_22 (a0 a1 a2 a3 a4 : Option MV) (x : Int) (st : List MV) (μ : MM) (G : MG) (h : mm_nL a3 = true) : ev 36 22 [a0, a1, a2, a3, a4] (vI x :: st) μ G = ev 36 24 [a0, a1, a2, a3, some (vI x)] st μ G := ev_st pg_36_22 rfl (mm_nl_of h) (Nat.le_of_ble_eq_true rfl)
theorem pg_36_24 : mm_prog 36 24 = some (0, .aload_n 0, 25, []) := by decide +kernel
theorem xe_36_24 (a1 a2 a3 a4 : Option MV) (x : Int) (st : List MV) (μ : MM) (G : MG) : ev 36 24 [some (vR x), a1, a2, a3, a4] st μ G = ev 36 25 [some (vR x), a1, a2, a3, a4] (vR x :: st) μ G := ev_stp pg_36_24 rfl
theorem pg_36_25 : mm_prog 36 25 = some (0, .getfield 24, 28, [5, 2, 2]) := by decide +kernel
theorem xe_36_25 (a0 a1 a2 a3 a4 : Option MV) (x : Int) (st : List MV) (μ : MM) (G : MG) : ev 36 25 [a0, a1, a2, a3, a4] (vR x :: st) μ G = if gk G x = 5 then ev 36 28 [a0, a1, a2, a3, a4] (vR (μ x 2) :: st) μ G else none := ev_if pg_36_25 rfl
theorem pg_36_28 : mm_prog 36 28 = some (0, .iconst 0, 29, []) := by decide +kernel
theorem xe_36_28 (a0 a1 a2 a3 a4 : Option MV) (st : List MV) (μ : MM) (G : MG) : ev 36 28 [a0, a1, a2, a3, a4] st μ G = ev 36 29 [a0, a1, a2, a3, a4] (vI (0) :: st) μ G := ev_stp pg_36_28 rfl
theorem pg_36_29 : mm_prog 36 29 = some (0, .iload 4, 31, []) := by decide +kernel
theorem xe_36_29 (a0 a1 a2 a3 : Option MV) (x : Int) (st : List MV) (μ : MM) (G : MG) : ev 36 29 [a0, a1, a2, a3, some (vI x)] st μ G = ev 36 31 [a0, a1, a2, a3, some (vI x)] (vI x :: st) μ G := ev_stp pg_36_29 rfl
theorem pg_36_31 : mm_prog 36 31 = some (0, .iload 4, 33, []) := by decide +kernel
theorem xe_36_31 (a0 a1 a2 a3 : Option MV) (x : Int) (st : List MV) (μ : MM) (G : MG) : ev 36 31 [a0, a1, a2, a3, some (vI x)] st μ G = ev 36 33 [a0, a1, a2, a3, some (vI x)] (vI x :: st) μ G := ev_stp pg_36_31 rfl
theorem pg_36_33 : mm_prog 36 33 = some (0, .iload_n 3, 34, []) := by decide +kernel
theorem xe_36_33 (a0 a1 a2 a4 : Option MV) (x : Int) (st : List MV) (μ : MM) (G : MG) : ev 36 33 [a0, a1, a2, some (vI x), a4] st μ G = ev 36 34 [a0, a1, a2, some (vI x), a4] (vI x :: st) μ G := ev_stp pg_36_33 rfl
theorem pg_36_34 : mm_prog 36 34 = some (0, .bipush 6, 36, []) := by decide +kernel
theorem xe_36_34 (a0 a1 a2 a3 a4 : Option MV) (st : List MV) (μ : MM) (G : MG) : ev 36 34 [a0, a1, a2, a3, a4] st μ G = ev 36 36 [a0, a1, a2, a3, a4] (vI (6) :: st) μ G := ev_stp pg_36_34 rfl
theorem pg_36_36 : mm_prog 36 36 = some (0, .ishr, 37, []) := by decide +kernel
theorem xe_36_36 (a0 a1 a2 a3 a4 : Option MV) (x y : Int) (st : List MV) (μ : MM) (G : MG) : ev 36 36 [a0, a1, a2, a3, a4] (vI y :: vI x :: st) μ G = ev 36 37 [a0, a1, a2, a3, a4] (vI (mm_shr x y) :: st) μ G := ev_stp pg_36_36 rfl
theorem pg_36_37 : mm_prog 36 37 = some (1, .invokestatic 105, 40, [0, 37, 2, 0]) := by decide +kernel
theorem xe_36_37 (a0 a1 a2 a3 a4 : Option MV) (x0 x1 r0 r1 r2 : Int) (μ : MM) (G : MG) : ev 36 37 [a0, a1, a2, a3, a4] (vI x1 :: vI x0 :: [vI r0, vI r1, vR r2]) μ G = (ev 37 0 [some (vI x0), some (vI x1)] [] μ G).bind (fun q => ev 36 40 [a0, a1, a2, a3, a4] (q.1.toList ++ [vI r0, vI r1, vR r2]) q.2.1 q.2.2) := ev_calS (as := [vI x0, vI x1]) (r := [vI r0, vI r1, vR r2]) mx_37 pg_36_37 rfl rfl (Nat.le_of_ble_eq_true rfl) (Nat.le_of_ble_eq_true rfl)
theorem pg_36_40 : mm_prog 36 40 = some (0, .bipush 60, 42, []) := by decide +kernel
theorem xe_36_40 (a0 a1 a2 a3 a4 : Option MV) (st : List MV) (μ : MM) (G : MG) : ev 36 40 [a0, a1, a2, a3, a4] st μ G = ev 36 42 [a0, a1, a2, a3, a4] (vI (60) :: st) μ G := ev_stp pg_36_40 rfl
theorem pg_36_42 : mm_prog 36 42 = some (0, .iload_n 3, 43, []) := by decide +kernel
theorem xe_36_42 (a0 a1 a2 a4 : Option MV) (x : Int) (st : List MV) (μ : MM) (G : MG) : ev 36 42 [a0, a1, a2, some (vI x), a4] st μ G = ev 36 43 [a0, a1, a2, some (vI x), a4] (vI x :: st) μ G := ev_stp pg_36_42 rfl
theorem pg_36_43 : mm_prog 36 43 = some (0, .bipush 63, 45, []) := by decide +kernel
theorem xe_36_43 (a0 a1 a2 a3 a4 : Option MV) (st : List MV) (μ : MM) (G : MG) : ev 36 43 [a0, a1, a2, a3, a4] st μ G = ev 36 45 [a0, a1, a2, a3, a4] (vI (63) :: st) μ G := ev_stp pg_36_43 rfl
theorem pg_36_45 : mm_prog 36 45 = some (0, .iand, 46, []) := by decide +kernel
theorem xe_36_45 (a0 a1 a2 a3 a4 : Option MV) (x y : Int) (st : List MV) (μ : MM) (G : MG) : ev 36 45 [a0, a1, a2, a3, a4] (vI y :: vI x :: st) μ G = ev 36 46 [a0, a1, a2, a3, a4] (vI (mm_and x y) :: st) μ G := ev_stp pg_36_45 rfl
theorem pg_36_46 : mm_prog 36 46 = some (0, .iadd, 47, []) := by decide +kernel
theorem xe_36_46 (a0 a1 a2 a3 a4 : Option MV) (x y : Int) (st : List MV) (μ : MM) (G : MG) : ev 36 46 [a0, a1, a2, a3, a4] (vI y :: vI x :: st) μ G = ev 36 47 [a0, a1, a2, a3, a4] (vI (w32 (x + y)) :: st) μ G := ev_stp pg_36_46 rfl
theorem pg_36_47 : mm_prog 36 47 = some (1, .invokevirtual 94, 50, [1, 62, 4, 7]) := by decide +kernel
theorem xe_36_47 (a0 a1 a2 a3 a4 : Option MV) (x0 x1 x2 x3 z : Int) (μ : MM) (G : MG) : ev 36 47 [a0, a1, a2, a3, a4] (vI x3 :: vI x2 :: vI x1 :: vI x0 :: vR z :: []) μ G = if gk G z = 7 ∧ 0 < z then (ev 62 0 [some (vR z), some (vI x0), some (vI x1), some (vI x2), some (vI x3), none] [] μ G).bind (fun q => ev 36 50 [a0, a1, a2, a3, a4] (q.1.toList ++ []) q.2.1 q.2.2) else none := ev_calV (as := [vR z, vI x0, vI x1, vI x2, vI x3]) (r := []) mx_62 pg_36_47 rfl rfl (Nat.le_of_ble_eq_true rfl) (Nat.le_of_ble_eq_true rfl)
theorem pg_36_50 : mm_prog 36 50 = some (0, .aload_n 0, 51, []) := by decide +kernel
theorem xe_36_50 (a1 a2 a3 a4 : Option MV) (x : Int) (st : List MV) (μ : MM) (G : MG) : ev 36 50 [some (vR x), a1, a2, a3, a4] st μ G = ev 36 51 [some (vR x), a1, a2, a3, a4] (vR x :: st) μ G := ev_stp pg_36_50 rfl
theorem pg_36_51 : mm_prog 36 51 = some (0, .aload_n 1, 52, []) := by decide +kernel
theorem xe_36_51 (a0 a2 a3 a4 : Option MV) (x : Int) (st : List MV) (μ : MM) (G : MG) : ev 36 51 [a0, some (vR x), a2, a3, a4] st μ G = ev 36 52 [a0, some (vR x), a2, a3, a4] (vR x :: st) μ G := ev_stp pg_36_51 rfl
theorem pg_36_52 : mm_prog 36 52 = some (0, .iconst 3, 53, []) := by decide +kernel
theorem xe_36_52 (a0 a1 a2 a3 a4 : Option MV) (st : List MV) (μ : MM) (G : MG) : ev 36 52 [a0, a1, a2, a3, a4] st μ G = ev 36 53 [a0, a1, a2, a3, a4] (vI (3) :: st) μ G := ev_stp pg_36_52 rfl
theorem pg_36_53 : mm_prog 36 53 = some (0, .iconst 0, 54, []) := by decide +kernel
theorem xe_36_53 (a0 a1 a2 a3 a4 : Option MV) (st : List MV) (μ : MM) (G : MG) : ev 36 53 [a0, a1, a2, a3, a4] st μ G = ev 36 54 [a0, a1, a2, a3, a4] (vI (0) :: st) μ G := ev_stp pg_36_53 rfl
theorem pg_36_54 : mm_prog 36 54 = some (1, .invokevirtual 63, 57, [1, 38, 3, 5]) := by decide +kernel
theorem xe_36_54 (a0 a1 a2 a3 a4 : Option MV) (x0 x1 x2 z : Int) (μ : MM) (G : MG) : ev 36 54 [a0, a1, a2, a3, a4] (vI x2 :: vI x1 :: vR x0 :: vR z :: []) μ G = if gk G z = 5 ∧ 0 < z then (ev 38 0 [some (vR z), some (vR x0), some (vI x1), some (vI x2), none] [] μ G).bind (fun q => ev 36 57 [a0, a1, a2, a3, a4] (q.1.toList ++ []) q.2.1 q.2.2) else none := ev_calV (as := [vR z, vR x0, vI x1, vI x2]) (r := []) mx_38 pg_36_54 rfl rfl (Nat.le_of_ble_eq_true rfl) (Nat.le_of_ble_eq_true rfl)
theorem pg_36_57 : mm_prog 36 57 = some (2, .return_, 58, []) := by decide +kernel
theorem xe_36_57 (a0 a1 a2 a3 a4 : Option MV) (μ : MM) (G : MG) : ev 36 57 [a0, a1, a2, a3, a4] [] μ G = some (none, μ, G) := ev_ret pg_36_57 rfl
-- X5_standardHeight
theorem pg_37_0 : mm_prog 37 0 = some (0, .iload_n 1, 1, []) := by decide +kernel
theorem xe_37_0 (a0 : Option MV) (x : Int) (st : List MV) (μ : MM) (G : MG) : ev 37 0 [a0, some (vI x)] st μ G = ev 37 1 [a0, some (vI x)] (vI x :: st) μ G := ev_stp pg_37_0 rfl
theorem pg_37_1 : mm_prog 37 1 = some (0, .tableswitch 47 0 2 #[27, 35, 41], 28, [48, 0, 28, 1, 36, 2, 42]) := by decide +kernel
theorem xe_37_1 (a0 a1 : Option MV) (x : Int) (st : List MV) (μ : MM) (G : MG) : ev 37 1 [a0, a1] (vI x :: st) μ G = if x = 0 then ev 37 28 [a0, a1] st μ G else if x = 1 then ev 37 36 [a0, a1] st μ G else if x = 2 then ev 37 42 [a0, a1] st μ G else ev 37 48 [a0, a1] st μ G := ev_sw (x := x) (d := 48) (l := [0, 28, 1, 36, 2, 42]) (st' := st) pg_37_1 rfl
theorem pg_37_28 : mm_prog 37 28 = some (0, .iload_n 0, 29, []) := by decide +kernel
theorem xe_37_28 (a1 : Option MV) (x : Int) (st : List MV) (μ : MM) (G : MG) : ev 37 28 [some (vI x), a1] st μ G = ev 37 29 [some (vI x), a1] (vI x :: st) μ G := ev_stp pg_37_28 rfl
theorem pg_37_29 : mm_prog 37 29 = some (0, .bipush 10, 31, []) := by decide +kernel
theorem xe_37_29 (a0 a1 : Option MV) (st : List MV) (μ : MM) (G : MG) : ev 37 29 [a0, a1] st μ G = ev 37 31 [a0, a1] (vI (10) :: st) μ G := ev_stp pg_37_29 rfl
theorem pg_37_31 : mm_prog 37 31 = some (0, .imul, 32, []) := by decide +kernel
theorem xe_37_31 (a0 a1 : Option MV) (x y : Int) (st : List MV) (μ : MM) (G : MG) : ev 37 31 [a0, a1] (vI y :: vI x :: st) μ G = ev 37 32 [a0, a1] (vI (w32 (x * y)) :: st) μ G := ev_stp pg_37_31 rfl
theorem pg_37_32 : mm_prog 37 32 = some (0, .bipush 16, 34, []) := by decide +kernel
theorem xe_37_32 (a0 a1 : Option MV) (st : List MV) (μ : MM) (G : MG) : ev 37 32 [a0, a1] st μ G = ev 37 34 [a0, a1] (vI (16) :: st) μ G := ev_stp pg_37_32 rfl
theorem pg_37_34 : mm_prog 37 34 = some (0, .idiv, 35, []) := by decide +kernel
theorem xe_37_34 (a0 a1 : Option MV) (x y : Int) (st : List MV) (μ : MM) (G : MG) : ev 37 34 [a0, a1] (vI y :: vI x :: st) μ G = if y = 0 then none else ev 37 35 [a0, a1] (vI (mm_div x y) :: st) μ G := ev_no pg_37_34 rfl
theorem pg_37_35 : mm_prog 37 35 = some (2, .ireturn, 36, [0]) := by decide +kernel
theorem xe_37_35 (a0 a1 : Option MV) (x : Int) (μ : MM) (G : MG) : ev 37 35 [a0, a1] [vI x] μ G = some (some (vI x), μ, G) := ev_ret pg_37_35 rfl
theorem pg_37_36 : mm_prog 37 36 = some (0, .iload_n 0, 37, []) := by decide +kernel
theorem xe_37_36 (a1 : Option MV) (x : Int) (st : List MV) (μ : MM) (G : MG) : ev 37 36 [some (vI x), a1] st μ G = ev 37 37 [some (vI x), a1] (vI x :: st) μ G := ev_stp pg_37_36 rfl
theorem pg_37_37 : mm_prog 37 37 = some (0, .iconst 3, 38, []) := by decide +kernel
theorem xe_37_37 (a0 a1 : Option MV) (st : List MV) (μ : MM) (G : MG) : ev 37 37 [a0, a1] st μ G = ev 37 38 [a0, a1] (vI (3) :: st) μ G := ev_stp pg_37_37 rfl
theorem pg_37_38 : mm_prog 37 38 = some (0, .imul, 39, []) := by decide +kernel
theorem xe_37_38 (a0 a1 : Option MV) (x y : Int) (st : List MV) (μ : MM) (G : MG) : ev 37 38 [a0, a1] (vI y :: vI x :: st) μ G = ev 37 39 [a0, a1] (vI (w32 (x * y)) :: st) μ G := ev_stp pg_37_38 rfl
theorem pg_37_39 : mm_prog 37 39 = some (0, .iconst 4, 40, []) := by decide +kernel
theorem xe_37_39 (a0 a1 : Option MV) (st : List MV) (μ : MM) (G : MG) : ev 37 39 [a0, a1] st μ G = ev 37 40 [a0, a1] (vI (4) :: st) μ G := ev_stp pg_37_39 rfl
theorem pg_37_40 : mm_prog 37 40 = some (0, .idiv, 41, []) := by decide +kernel
theorem xe_37_40 (a0 a1 : Option MV) (x y : Int) (st : List MV) (μ : MM) (G : MG) : ev 37 40 [a0, a1] (vI y :: vI x :: st) μ G = if y = 0 then none else ev 37 41 [a0, a1] (vI (mm_div x y) :: st) μ G := ev_no pg_37_40 rfl
theorem pg_37_41 : mm_prog 37 41 = some (2, .ireturn, 42, [0]) := by decide +kernel
theorem xe_37_41 (a0 a1 : Option MV) (x : Int) (μ : MM) (G : MG) : ev 37 41 [a0, a1] [vI x] μ G = some (some (vI x), μ, G) := ev_ret pg_37_41 rfl
theorem pg_37_42 : mm_prog 37 42 = some (0, .iload_n 0, 43, []) := by decide +kernel
theorem xe_37_42 (a1 : Option MV) (x : Int) (st : List MV) (μ : MM) (G : MG) : ev 37 42 [some (vI x), a1] st μ G = ev 37 43 [some (vI x), a1] (vI x :: st) μ G := ev_stp pg_37_42 rfl
theorem pg_37_43 : mm_prog 37 43 = some (0, .iconst 4, 44, []) := by decide +kernel
theorem xe_37_43 (a0 a1 : Option MV) (st : List MV) (μ : MM) (G : MG) : ev 37 43 [a0, a1] st μ G = ev 37 44 [a0, a1] (vI (4) :: st) μ G := ev_stp pg_37_43 rfl
theorem pg_37_44 : mm_prog 37 44 = some (0, .imul, 45, []) := by decide +kernel
theorem xe_37_44 (a0 a1 : Option MV) (x y : Int) (st : List MV) (μ : MM) (G : MG) : ev 37 44 [a0, a1] (vI y :: vI x :: st) μ G = ev 37 45 [a0, a1] (vI (w32 (x * y)) :: st) μ G := ev_stp pg_37_44 rfl
theorem pg_37_45 : mm_prog 37 45 = some (0, .iconst 5, 46, []) := by decide +kernel
theorem xe_37_45 (a0 a1 : Option MV) (st : List MV) (μ : MM) (G : MG) : ev 37 45 [a0, a1] st μ G = ev 37 46 [a0, a1] (vI (5) :: st) μ G := ev_stp pg_37_45 rfl
theorem pg_37_46 : mm_prog 37 46 = some (0, .idiv, 47, []) := by decide +kernel
theorem xe_37_46 (a0 a1 : Option MV) (x y : Int) (st : List MV) (μ : MM) (G : MG) : ev 37 46 [a0, a1] (vI y :: vI x :: st) μ G = if y = 0 then none else ev 37 47 [a0, a1] (vI (mm_div x y) :: st) μ G := ev_no pg_37_46 rfl
theorem pg_37_47 : mm_prog 37 47 = some (2, .ireturn, 48, [0]) := by decide +kernel
theorem xe_37_47 (a0 a1 : Option MV) (x : Int) (μ : MM) (G : MG) : ev 37 47 [a0, a1] [vI x] μ G = some (some (vI x), μ, G) := ev_ret pg_37_47 rfl
theorem pg_37_48 : mm_prog 37 48 = some (0, .iload_n 0, 49, []) := by decide +kernel
theorem xe_37_48 (a1 : Option MV) (x : Int) (st : List MV) (μ : MM) (G : MG) : ev 37 48 [some (vI x), a1] st μ G = ev 37 49 [some (vI x), a1] (vI x :: st) μ G := ev_stp pg_37_48 rfl
theorem pg_37_49 : mm_prog 37 49 = some (0, .bipush 9, 51, []) := by decide +kernel
theorem xe_37_49 (a0 a1 : Option MV) (st : List MV) (μ : MM) (G : MG) : ev 37 49 [a0, a1] st μ G = ev 37 51 [a0, a1] (vI (9) :: st) μ G := ev_stp pg_37_49 rfl
theorem pg_37_51 : mm_prog 37 51 = some (0, .imul, 52, []) := by decide +kernel
theorem xe_37_51 (a0 a1 : Option MV) (x y : Int) (st : List MV) (μ : MM) (G : MG) : ev 37 51 [a0, a1] (vI y :: vI x :: st) μ G = ev 37 52 [a0, a1] (vI (w32 (x * y)) :: st) μ G := ev_stp pg_37_51 rfl
theorem pg_37_52 : mm_prog 37 52 = some (0, .bipush 16, 54, []) := by decide +kernel
theorem xe_37_52 (a0 a1 : Option MV) (st : List MV) (μ : MM) (G : MG) : ev 37 52 [a0, a1] st μ G = ev 37 54 [a0, a1] (vI (16) :: st) μ G := ev_stp pg_37_52 rfl
theorem pg_37_54 : mm_prog 37 54 = some (0, .idiv, 55, []) := by decide +kernel
theorem xe_37_54 (a0 a1 : Option MV) (x y : Int) (st : List MV) (μ : MM) (G : MG) : ev 37 54 [a0, a1] (vI y :: vI x :: st) μ G = if y = 0 then none else ev 37 55 [a0, a1] (vI (mm_div x y) :: st) μ G := ev_no pg_37_54 rfl
theorem pg_37_55 : mm_prog 37 55 = some (2, .ireturn, 56, [0]) := by decide +kernel
theorem xe_37_55 (a0 a1 : Option MV) (x : Int) (μ : MM) (G : MG) : ev 37 55 [a0, a1] [vI x] μ G = some (some (vI x), μ, G) := ev_ret pg_37_55 rfl
-- X5_offer
theorem pg_38_0 : mm_prog 38 0 = some (0, .aload_n 0, 1, []) := by decide +kernel
theorem xe_38_0 (a1 a2 a3 a4 : Option MV) (x : Int) (st : List MV) (μ : MM) (G : MG) : ev 38 0 [some (vR x), a1, a2, a3, a4] st μ G = ev 38 1 [some (vR x), a1, a2, a3, a4] (vR x :: st) μ G := ev_stp pg_38_0 rfl
theorem pg_38_1 : mm_prog 38 1 = some (0, .aload_n 0, 2, []) := by decide +kernel
theorem xe_38_1 (a1 a2 a3 a4 : Option MV) (x : Int) (st : List MV) (μ : MM) (G : MG) : ev 38 1 [some (vR x), a1, a2, a3, a4] st μ G = ev 38 2 [some (vR x), a1, a2, a3, a4] (vR x :: st) μ G := ev_stp pg_38_1 rfl
theorem pg_38_2 : mm_prog 38 2 = some (0, .getfield 24, 5, [5, 2, 2]) := by decide +kernel
theorem xe_38_2 (a0 a1 a2 a3 a4 : Option MV) (x : Int) (st : List MV) (μ : MM) (G : MG) : ev 38 2 [a0, a1, a2, a3, a4] (vR x :: st) μ G = if gk G x = 5 then ev 38 5 [a0, a1, a2, a3, a4] (vR (μ x 2) :: st) μ G else none := ev_if pg_38_2 rfl
theorem pg_38_5 : mm_prog 38 5 = some (1, .invokevirtual 109, 8, [1, 73, 0, 7]) := by decide +kernel
theorem xe_38_5 (a0 a1 a2 a3 a4 : Option MV) (z r0 : Int) (μ : MM) (G : MG) : ev 38 5 [a0, a1, a2, a3, a4] (vR z :: [vR r0]) μ G = if gk G z = 7 ∧ 0 < z then (ev 73 0 [some (vR z), none, none] [] μ G).bind (fun q => ev 38 8 [a0, a1, a2, a3, a4] (q.1.toList ++ [vR r0]) q.2.1 q.2.2) else none := ev_calV (as := [vR z]) (r := [vR r0]) mx_73 pg_38_5 rfl rfl (Nat.le_of_ble_eq_true rfl) (Nat.le_of_ble_eq_true rfl)
theorem pg_38_8 : mm_prog 38 8 = some (0, .putfield 113, 11, [5, 3, 0]) := by decide +kernel
theorem xe_38_8 (a0 a1 a2 a3 a4 : Option MV) (x y : Int) (st : List MV) (μ : MM) (G : MG) : ev 38 8 [a0, a1, a2, a3, a4] (vI x :: vR y :: st) μ G = if gk G y = 5 then ev 38 11 [a0, a1, a2, a3, a4] st (mset μ y 3 x) G else none := ev_put0 pg_38_8
theorem pg_38_11 : mm_prog 38 11 = some (0, .aload_n 0, 12, []) := by decide +kernel
theorem xe_38_11 (a1 a2 a3 a4 : Option MV) (x : Int) (st : List MV) (μ : MM) (G : MG) : ev 38 11 [some (vR x), a1, a2, a3, a4] st μ G = ev 38 12 [some (vR x), a1, a2, a3, a4] (vR x :: st) μ G := ev_stp pg_38_11 rfl
theorem pg_38_12 : mm_prog 38 12 = some (0, .aload_n 1, 13, []) := by decide +kernel
theorem xe_38_12 (a0 a2 a3 a4 : Option MV) (x : Int) (st : List MV) (μ : MM) (G : MG) : ev 38 12 [a0, some (vR x), a2, a3, a4] st μ G = ev 38 13 [a0, some (vR x), a2, a3, a4] (vR x :: st) μ G := ev_stp pg_38_12 rfl
theorem pg_38_13 : mm_prog 38 13 = some (1, .invokevirtual 116, 16, [1, 39, 1, 5]) := by decide +kernel
theorem xe_38_13 (a0 a1 a2 a3 a4 : Option MV) (x0 z : Int) (μ : MM) (G : MG) : ev 38 13 [a0, a1, a2, a3, a4] (vR x0 :: vR z :: []) μ G = if gk G z = 5 ∧ 0 < z then (ev 39 0 [some (vR z), some (vR x0)] [] μ G).bind (fun q => ev 38 16 [a0, a1, a2, a3, a4] (q.1.toList ++ []) q.2.1 q.2.2) else none := ev_calV (as := [vR z, vR x0]) (r := []) mx_39 pg_38_13 rfl rfl (Nat.le_of_ble_eq_true rfl) (Nat.le_of_ble_eq_true rfl)
theorem pg_38_16 : mm_prog 38 16 = some (0, .istore 4, 18, []) := by decide +kernel
theorem xe_38_16 (a0 a1 a2 a3 a4 : Option MV) (x : Int) (st : List MV) (μ : MM) (G : MG) (h : mm_nL a3 = true) : ev 38 16 [a0, a1, a2, a3, a4] (vI x :: st) μ G = ev 38 18 [a0, a1, a2, a3, some (vI x)] st μ G := ev_st pg_38_16 rfl (mm_nl_of h) (Nat.le_of_ble_eq_true rfl)
theorem pg_38_18 : mm_prog 38 18 = some (0, .iload 4, 20, []) := by decide +kernel
theorem xe_38_18 (a0 a1 a2 a3 : Option MV) (x : Int) (st : List MV) (μ : MM) (G : MG) : ev 38 18 [a0, a1, a2, a3, some (vI x)] st μ G = ev 38 20 [a0, a1, a2, a3, some (vI x)] (vI x :: st) μ G := ev_stp pg_38_18 rfl
theorem pg_38_20 : mm_prog 38 20 = some (0, .ifCond .lt 27, 23, []) := by decide +kernel
theorem xe_38_20 (a0 a1 a2 a3 a4 : Option MV) (x : Int) (st : List MV) (μ : MM) (G : MG) : ev 38 20 [a0, a1, a2, a3, a4] (vI x :: st) μ G = if x < 0 then ev 38 47 [a0, a1, a2, a3, a4] st μ G else ev 38 23 [a0, a1, a2, a3, a4] st μ G := ev_br (mm_cnd_lt x 0) pg_38_20 rfl
theorem pg_38_23 : mm_prog 38 23 = some (0, .iload 4, 25, []) := by decide +kernel
theorem xe_38_23 (a0 a1 a2 a3 : Option MV) (x : Int) (st : List MV) (μ : MM) (G : MG) : ev 38 23 [a0, a1, a2, a3, some (vI x)] st μ G = ev 38 25 [a0, a1, a2, a3, some (vI x)] (vI x :: st) μ G := ev_stp pg_38_23 rfl
theorem pg_38_25 : mm_prog 38 25 = some (0, .aload_n 0, 26, []) := by decide +kernel
theorem xe_38_25 (a1 a2 a3 a4 : Option MV) (x : Int) (st : List MV) (μ : MM) (G : MG) : ev 38 25 [some (vR x), a1, a2, a3, a4] st μ G = ev 38 26 [some (vR x), a1, a2, a3, a4] (vR x :: st) μ G := ev_stp pg_38_25 rfl
theorem pg_38_26 : mm_prog 38 26 = some (0, .getfield 17, 29, [5, 1, 2]) := by decide +kernel
theorem xe_38_26 (a0 a1 a2 a3 a4 : Option MV) (x : Int) (st : List MV) (μ : MM) (G : MG) : ev 38 26 [a0, a1, a2, a3, a4] (vR x :: st) μ G = if gk G x = 5 then ev 38 29 [a0, a1, a2, a3, a4] (vR (μ x 1) :: st) μ G else none := ev_if pg_38_26 rfl
theorem pg_38_29 : mm_prog 38 29 = some (0, .arraylength, 30, []) := by decide +kernel
theorem xe_38_29 (a0 a1 a2 a3 a4 : Option MV) (x : Int) (st : List MV) (μ : MM) (G : MG) : ev 38 29 [a0, a1, a2, a3, a4] (vR x :: st) μ G = if 100 ≤ gk G x then ev 38 30 [a0, a1, a2, a3, a4] (vI (gl G x) :: st) μ G else none := ev_if pg_38_29 rfl
theorem pg_38_30 : mm_prog 38 30 = some (0, .if_icmp .ge 17, 33, []) := by decide +kernel
theorem xe_38_30 (a0 a1 a2 a3 a4 : Option MV) (x y : Int) (st : List MV) (μ : MM) (G : MG) : ev 38 30 [a0, a1, a2, a3, a4] (vI y :: vI x :: st) μ G = if y ≤ x then ev 38 47 [a0, a1, a2, a3, a4] st μ G else ev 38 33 [a0, a1, a2, a3, a4] st μ G := ev_br (mm_cnd_ge x y) pg_38_30 rfl
theorem pg_38_33 : mm_prog 38 33 = some (0, .aload_n 0, 34, []) := by decide +kernel
theorem xe_38_33 (a1 a2 a3 a4 : Option MV) (x : Int) (st : List MV) (μ : MM) (G : MG) : ev 38 33 [some (vR x), a1, a2, a3, a4] st μ G = ev 38 34 [some (vR x), a1, a2, a3, a4] (vR x :: st) μ G := ev_stp pg_38_33 rfl
theorem pg_38_34 : mm_prog 38 34 = some (0, .getfield 17, 37, [5, 1, 2]) := by decide +kernel
theorem xe_38_34 (a0 a1 a2 a3 a4 : Option MV) (x : Int) (st : List MV) (μ : MM) (G : MG) : ev 38 34 [a0, a1, a2, a3, a4] (vR x :: st) μ G = if gk G x = 5 then ev 38 37 [a0, a1, a2, a3, a4] (vR (μ x 1) :: st) μ G else none := ev_if pg_38_34 rfl
theorem pg_38_37 : mm_prog 38 37 = some (0, .iload 4, 39, []) := by decide +kernel
theorem xe_38_37 (a0 a1 a2 a3 : Option MV) (x : Int) (st : List MV) (μ : MM) (G : MG) : ev 38 37 [a0, a1, a2, a3, some (vI x)] st μ G = ev 38 39 [a0, a1, a2, a3, some (vI x)] (vI x :: st) μ G := ev_stp pg_38_37 rfl
theorem pg_38_39 : mm_prog 38 39 = some (0, .dup2, 40, []) := by decide +kernel
theorem xe_38_39 (a0 a1 a2 a3 a4 : Option MV) (x y : Int) (st : List MV) (μ : MM) (G : MG) : ev 38 39 [a0, a1, a2, a3, a4] (vI x :: vR y :: st) μ G = ev 38 40 [a0, a1, a2, a3, a4] (vI x :: vR y :: vI x :: vR y :: st) μ G := ev_stp pg_38_39 rfl
theorem pg_38_40 : mm_prog 38 40 = some (0, .iaload, 41, []) := by decide +kernel
theorem xe_38_40 (a0 a1 a2 a3 a4 : Option MV) (x y : Int) (st : List MV) (μ : MM) (G : MG) : ev 38 40 [a0, a1, a2, a3, a4] (vI x :: vR y :: st) μ G = if gk G y = 100 ∧ 0 ≤ x ∧ x < gl G y then ev 38 41 [a0, a1, a2, a3, a4] (vI (μ y x) :: st) μ G else none := ev_if pg_38_40 rfl
theorem pg_38_41 : mm_prog 38 41 = some (0, .iconst 1, 42, []) := by decide +kernel
theorem xe_38_41 (a0 a1 a2 a3 a4 : Option MV) (st : List MV) (μ : MM) (G : MG) : ev 38 41 [a0, a1, a2, a3, a4] st μ G = ev 38 42 [a0, a1, a2, a3, a4] (vI (1) :: st) μ G := ev_stp pg_38_41 rfl
theorem pg_38_42 : mm_prog 38 42 = some (0, .iadd, 43, []) := by decide +kernel
theorem xe_38_42 (a0 a1 a2 a3 a4 : Option MV) (x y : Int) (st : List MV) (μ : MM) (G : MG) : ev 38 42 [a0, a1, a2, a3, a4] (vI y :: vI x :: st) μ G = ev 38 43 [a0, a1, a2, a3, a4] (vI (w32 (x + y)) :: st) μ G := ev_stp pg_38_42 rfl
theorem pg_38_43 : mm_prog 38 43 = some (0, .iastore, 44, []) := by decide +kernel
theorem xe_38_43 (a0 a1 a2 a3 a4 : Option MV) (x y z : Int) (st : List MV) (μ : MM) (G : MG) : ev 38 43 [a0, a1, a2, a3, a4] (vI x :: vI y :: vR z :: st) μ G = if gk G z = 100 ∧ 0 ≤ y ∧ y < gl G z ∧ 10 ≤ z then ev 38 44 [a0, a1, a2, a3, a4] st (mset μ z y x) G else none := ev_if pg_38_43 rfl
theorem pg_38_44 : mm_prog 38 44 = some (0, .goto 28, 47, []) := by decide +kernel
theorem xe_38_44 (a0 a1 a2 a3 a4 : Option MV) (st : List MV) (μ : MM) (G : MG) : ev 38 44 [a0, a1, a2, a3, a4] st μ G = ev 38 72 [a0, a1, a2, a3, a4] st μ G := ev_stp pg_38_44 rfl
theorem pg_38_47 : mm_prog 38 47 = some (0, .aload_n 0, 48, []) := by decide +kernel
theorem xe_38_47 (a1 a2 a3 a4 : Option MV) (x : Int) (st : List MV) (μ : MM) (G : MG) : ev 38 47 [some (vR x), a1, a2, a3, a4] st μ G = ev 38 48 [some (vR x), a1, a2, a3, a4] (vR x :: st) μ G := ev_stp pg_38_47 rfl
theorem pg_38_48 : mm_prog 38 48 = some (0, .getfield 29, 51, [5, 4, 0]) := by decide +kernel
theorem xe_38_48 (a0 a1 a2 a3 a4 : Option MV) (x : Int) (st : List MV) (μ : MM) (G : MG) : ev 38 48 [a0, a1, a2, a3, a4] (vR x :: st) μ G = if gk G x = 5 then ev 38 51 [a0, a1, a2, a3, a4] (vI (μ x 4) :: st) μ G else none := ev_if pg_38_48 rfl
theorem pg_38_51 : mm_prog 38 51 = some (0, .ifCond .lt 21, 54, []) := by decide +kernel
theorem xe_38_51 (a0 a1 a2 a3 a4 : Option MV) (x : Int) (st : List MV) (μ : MM) (G : MG) : ev 38 51 [a0, a1, a2, a3, a4] (vI x :: st) μ G = if x < 0 then ev 38 72 [a0, a1, a2, a3, a4] st μ G else ev 38 54 [a0, a1, a2, a3, a4] st μ G := ev_br (mm_cnd_lt x 0) pg_38_51 rfl
theorem pg_38_54 : mm_prog 38 54 = some (0, .aload_n 0, 55, []) := by decide +kernel
theorem xe_38_54 (a1 a2 a3 a4 : Option MV) (x : Int) (st : List MV) (μ : MM) (G : MG) : ev 38 54 [some (vR x), a1, a2, a3, a4] st μ G = ev 38 55 [some (vR x), a1, a2, a3, a4] (vR x :: st) μ G := ev_stp pg_38_54 rfl
theorem pg_38_55 : mm_prog 38 55 = some (0, .getfield 29, 58, [5, 4, 0]) := by decide +kernel
theorem xe_38_55 (a0 a1 a2 a3 a4 : Option MV) (x : Int) (st : List MV) (μ : MM) (G : MG) : ev 38 55 [a0, a1, a2, a3, a4] (vR x :: st) μ G = if gk G x = 5 then ev 38 58 [a0, a1, a2, a3, a4] (vI (μ x 4) :: st) μ G else none := ev_if pg_38_55 rfl
theorem pg_38_58 : mm_prog 38 58 = some (0, .aload_n 0, 59, []) := by decide +kernel
theorem xe_38_58 (a1 a2 a3 a4 : Option MV) (x : Int) (st : List MV) (μ : MM) (G : MG) : ev 38 58 [some (vR x), a1, a2, a3, a4] st μ G = ev 38 59 [some (vR x), a1, a2, a3, a4] (vR x :: st) μ G := ev_stp pg_38_58 rfl
theorem pg_38_59 : mm_prog 38 59 = some (0, .getfield 11, 62, [5, 0, 2]) := by decide +kernel
theorem xe_38_59 (a0 a1 a2 a3 a4 : Option MV) (x : Int) (st : List MV) (μ : MM) (G : MG) : ev 38 59 [a0, a1, a2, a3, a4] (vR x :: st) μ G = if gk G x = 5 then ev 38 62 [a0, a1, a2, a3, a4] (vR (μ x 0) :: st) μ G else none := ev_if pg_38_59 rfl
theorem pg_38_62 : mm_prog 38 62 = some (0, .arraylength, 63, []) := by decide +kernel
theorem xe_38_62 (a0 a1 a2 a3 a4 : Option MV) (x : Int) (st : List MV) (μ : MM) (G : MG) : ev 38 62 [a0, a1, a2, a3, a4] (vR x :: st) μ G = if 100 ≤ gk G x then ev 38 63 [a0, a1, a2, a3, a4] (vI (gl G x) :: st) μ G else none := ev_if pg_38_62 rfl
theorem pg_38_63 : mm_prog 38 63 = some (0, .if_icmp .ge 9, 66, []) := by decide +kernel
theorem xe_38_63 (a0 a1 a2 a3 a4 : Option MV) (x y : Int) (st : List MV) (μ : MM) (G : MG) : ev 38 63 [a0, a1, a2, a3, a4] (vI y :: vI x :: st) μ G = if y ≤ x then ev 38 72 [a0, a1, a2, a3, a4] st μ G else ev 38 66 [a0, a1, a2, a3, a4] st μ G := ev_br (mm_cnd_ge x y) pg_38_63 rfl
theorem pg_38_66 : mm_prog 38 66 = some (0, .aload_n 0, 67, []) := by decide +kernel
theorem xe_38_66 (a1 a2 a3 a4 : Option MV) (x : Int) (st : List MV) (μ : MM) (G : MG) : ev 38 66 [some (vR x), a1, a2, a3, a4] st μ G = ev 38 67 [some (vR x), a1, a2, a3, a4] (vR x :: st) μ G := ev_stp pg_38_66 rfl
theorem pg_38_67 : mm_prog 38 67 = some (0, .iload_n 2, 68, []) := by decide +kernel
theorem xe_38_67 (a0 a1 a3 a4 : Option MV) (x : Int) (st : List MV) (μ : MM) (G : MG) : ev 38 67 [a0, a1, some (vI x), a3, a4] st μ G = ev 38 68 [a0, a1, some (vI x), a3, a4] (vI x :: st) μ G := ev_stp pg_38_67 rfl
theorem pg_38_68 : mm_prog 38 68 = some (0, .iload_n 3, 69, []) := by decide +kernel
theorem xe_38_68 (a0 a1 a2 a4 : Option MV) (x : Int) (st : List MV) (μ : MM) (G : MG) : ev 38 68 [a0, a1, a2, some (vI x), a4] st μ G = ev 38 69 [a0, a1, a2, some (vI x), a4] (vI x :: st) μ G := ev_stp pg_38_68 rfl
theorem pg_38_69 : mm_prog 38 69 = some (1, .invokevirtual 120, 72, [1, 40, 2, 5]) := by decide +kernel
theorem xe_38_69 (a0 a1 a2 a3 a4 : Option MV) (x0 x1 z : Int) (μ : MM) (G : MG) : ev 38 69 [a0, a1, a2, a3, a4] (vI x1 :: vI x0 :: vR z :: []) μ G = if gk G z = 5 ∧ 0 < z then (ev 40 0 [some (vR z), some (vI x0), some (vI x1), none, none] [] μ G).bind (fun q => ev 38 72 [a0, a1, a2, a3, a4] (q.1.toList ++ []) q.2.1 q.2.2) else none := ev_calV (as := [vR z, vI x0, vI x1]) (r := []) mx_40 pg_38_69 rfl rfl (Nat.le_of_ble_eq_true rfl) (Nat.le_of_ble_eq_true rfl)
theorem pg_38_72 : mm_prog 38 72 = some (2, .return_, 73, []) := by decide +kernel
theorem xe_38_72 (a0 a1 a2 a3 a4 : Option MV) (μ : MM) (G : MG) : ev 38 72 [a0, a1, a2, a3, a4] [] μ G = some (none, μ, G) := ev_ret pg_38_72 rfl
-- X5_whyLeftOut
theorem pg_39_0 : mm_prog 39 0 = some (0, .aload_n 0, 1, []) := by decide +kernel
theorem xe_39_0 (a1 : Option MV) (x : Int) (st : List MV) (μ : MM) (G : MG) : ev 39 0 [some (vR x), a1] st μ G = ev 39 1 [some (vR x), a1] (vR x :: st) μ G := ev_stp pg_39_0 rfl
theorem pg_39_1 : mm_prog 39 1 = some (0, .getfield 24, 4, [5, 2, 2]) := by decide +kernel
theorem xe_39_1 (a0 a1 : Option MV) (x : Int) (st : List MV) (μ : MM) (G : MG) : ev 39 1 [a0, a1] (vR x :: st) μ G = if gk G x = 5 then ev 39 4 [a0, a1] (vR (μ x 2) :: st) μ G else none := ev_if pg_39_1 rfl
theorem pg_39_4 : mm_prog 39 4 = some (1, .invokevirtual 124, 7, [1, 68, 0, 7]) := by decide +kernel
theorem xe_39_4 (a0 a1 : Option MV) (z : Int) (μ : MM) (G : MG) : ev 39 4 [a0, a1] (vR z :: []) μ G = if gk G z = 7 ∧ 0 < z then (ev 68 0 [some (vR z)] [] μ G).bind (fun q => ev 39 7 [a0, a1] (q.1.toList ++ []) q.2.1 q.2.2) else none := ev_calV (as := [vR z]) (r := []) mx_68 pg_39_4 rfl rfl (Nat.le_of_ble_eq_true rfl) (Nat.le_of_ble_eq_true rfl)
theorem pg_39_7 : mm_prog 39 7 = some (0, .ifCond .eq 5, 10, []) := by decide +kernel
theorem xe_39_7 (a0 a1 : Option MV) (x : Int) (st : List MV) (μ : MM) (G : MG) : ev 39 7 [a0, a1] (vI x :: st) μ G = if x = 0 then ev 39 12 [a0, a1] st μ G else ev 39 10 [a0, a1] st μ G := ev_br (mm_cnd_eq x 0) pg_39_7 rfl
theorem pg_39_10 : mm_prog 39 10 = some (0, .iconst 0, 11, []) := by decide +kernel
theorem xe_39_10 (a0 a1 : Option MV) (st : List MV) (μ : MM) (G : MG) : ev 39 10 [a0, a1] st μ G = ev 39 11 [a0, a1] (vI (0) :: st) μ G := ev_stp pg_39_10 rfl
theorem pg_39_11 : mm_prog 39 11 = some (2, .ireturn, 12, [0]) := by decide +kernel
theorem xe_39_11 (a0 a1 : Option MV) (x : Int) (μ : MM) (G : MG) : ev 39 11 [a0, a1] [vI x] μ G = some (some (vI x), μ, G) := ev_ret pg_39_11 rfl
theorem pg_39_12 : mm_prog 39 12 = some (0, .aload_n 0, 13, []) := by decide +kernel
theorem xe_39_12 (a1 : Option MV) (x : Int) (st : List MV) (μ : MM) (G : MG) : ev 39 12 [some (vR x), a1] st μ G = ev 39 13 [some (vR x), a1] (vR x :: st) μ G := ev_stp pg_39_12 rfl
theorem pg_39_13 : mm_prog 39 13 = some (0, .getfield 24, 16, [5, 2, 2]) := by decide +kernel
theorem xe_39_13 (a0 a1 : Option MV) (x : Int) (st : List MV) (μ : MM) (G : MG) : ev 39 13 [a0, a1] (vR x :: st) μ G = if gk G x = 5 then ev 39 16 [a0, a1] (vR (μ x 2) :: st) μ G else none := ev_if pg_39_13 rfl
theorem pg_39_16 : mm_prog 39 16 = some (0, .getfield 128, 19, [7, 9, 1]) := by decide +kernel
theorem xe_39_16 (a0 a1 : Option MV) (x : Int) (st : List MV) (μ : MM) (G : MG) : ev 39 16 [a0, a1] (vR x :: st) μ G = if gk G x = 7 then ev 39 19 [a0, a1] (vI (μ x 9) :: st) μ G else none := ev_if pg_39_16 rfl
theorem pg_39_19 : mm_prog 39 19 = some (0, .ifCond .eq 5, 22, []) := by decide +kernel
theorem xe_39_19 (a0 a1 : Option MV) (x : Int) (st : List MV) (μ : MM) (G : MG) : ev 39 19 [a0, a1] (vI x :: st) μ G = if x = 0 then ev 39 24 [a0, a1] st μ G else ev 39 22 [a0, a1] st μ G := ev_br (mm_cnd_eq x 0) pg_39_19 rfl
theorem pg_39_22 : mm_prog 39 22 = some (0, .iconst 2, 23, []) := by decide +kernel
theorem xe_39_22 (a0 a1 : Option MV) (st : List MV) (μ : MM) (G : MG) : ev 39 22 [a0, a1] st μ G = ev 39 23 [a0, a1] (vI (2) :: st) μ G := ev_stp pg_39_22 rfl
theorem pg_39_23 : mm_prog 39 23 = some (2, .ireturn, 24, [0]) := by decide +kernel
theorem xe_39_23 (a0 a1 : Option MV) (x : Int) (μ : MM) (G : MG) : ev 39 23 [a0, a1] [vI x] μ G = some (some (vI x), μ, G) := ev_ret pg_39_23 rfl
theorem pg_39_24 : mm_prog 39 24 = some (0, .aload_n 1, 25, []) := by decide +kernel
theorem xe_39_24 (a0 : Option MV) (x : Int) (st : List MV) (μ : MM) (G : MG) : ev 39 24 [a0, some (vR x)] st μ G = ev 39 25 [a0, some (vR x)] (vR x :: st) μ G := ev_stp pg_39_24 rfl
theorem pg_39_25 : mm_prog 39 25 = some (0, .aload_n 0, 26, []) := by decide +kernel
theorem xe_39_25 (a1 : Option MV) (x : Int) (st : List MV) (μ : MM) (G : MG) : ev 39 25 [some (vR x), a1] st μ G = ev 39 26 [some (vR x), a1] (vR x :: st) μ G := ev_stp pg_39_25 rfl
theorem pg_39_26 : mm_prog 39 26 = some (0, .getfield 113, 29, [5, 3, 0]) := by decide +kernel
theorem xe_39_26 (a0 a1 : Option MV) (x : Int) (st : List MV) (μ : MM) (G : MG) : ev 39 26 [a0, a1] (vR x :: st) μ G = if gk G x = 5 then ev 39 29 [a0, a1] (vI (μ x 3) :: st) μ G else none := ev_if pg_39_26 rfl
theorem pg_39_29 : mm_prog 39 29 = some (0, .aload_n 0, 30, []) := by decide +kernel
theorem xe_39_29 (a1 : Option MV) (x : Int) (st : List MV) (μ : MM) (G : MG) : ev 39 29 [some (vR x), a1] st μ G = ev 39 30 [some (vR x), a1] (vR x :: st) μ G := ev_stp pg_39_29 rfl
theorem pg_39_30 : mm_prog 39 30 = some (0, .getfield 24, 33, [5, 2, 2]) := by decide +kernel
theorem xe_39_30 (a0 a1 : Option MV) (x : Int) (st : List MV) (μ : MM) (G : MG) : ev 39 30 [a0, a1] (vR x :: st) μ G = if gk G x = 5 then ev 39 33 [a0, a1] (vR (μ x 2) :: st) μ G else none := ev_if pg_39_30 rfl
theorem pg_39_33 : mm_prog 39 33 = some (1, .invokevirtual 132, 36, [1, 75, 0, 7]) := by decide +kernel
theorem xe_39_33 (a0 a1 : Option MV) (z r0 r1 : Int) (μ : MM) (G : MG) : ev 39 33 [a0, a1] (vR z :: [vI r0, vR r1]) μ G = if gk G z = 7 ∧ 0 < z then (ev 75 0 [some (vR z), none] [] μ G).bind (fun q => ev 39 36 [a0, a1] (q.1.toList ++ [vI r0, vR r1]) q.2.1 q.2.2) else none := ev_calV (as := [vR z]) (r := [vI r0, vR r1]) mx_75 pg_39_33 rfl rfl (Nat.le_of_ble_eq_true rfl) (Nat.le_of_ble_eq_true rfl)
theorem pg_39_36 : mm_prog 39 36 = some (0, .aload_n 0, 37, []) := by decide +kernel
theorem xe_39_36 (a1 : Option MV) (x : Int) (st : List MV) (μ : MM) (G : MG) : ev 39 36 [some (vR x), a1] st μ G = ev 39 37 [some (vR x), a1] (vR x :: st) μ G := ev_stp pg_39_36 rfl
theorem pg_39_37 : mm_prog 39 37 = some (0, .getfield 24, 40, [5, 2, 2]) := by decide +kernel
theorem xe_39_37 (a0 a1 : Option MV) (x : Int) (st : List MV) (μ : MM) (G : MG) : ev 39 37 [a0, a1] (vR x :: st) μ G = if gk G x = 5 then ev 39 40 [a0, a1] (vR (μ x 2) :: st) μ G else none := ev_if pg_39_37 rfl
theorem pg_39_40 : mm_prog 39 40 = some (0, .getfield 135, 43, [7, 0, 0]) := by decide +kernel
theorem xe_39_40 (a0 a1 : Option MV) (x : Int) (st : List MV) (μ : MM) (G : MG) : ev 39 40 [a0, a1] (vR x :: st) μ G = if gk G x = 7 then ev 39 43 [a0, a1] (vI (μ x 0) :: st) μ G else none := ev_if pg_39_40 rfl
theorem pg_39_43 : mm_prog 39 43 = some (1, .invokevirtual 138, 46, [1, 58, 3, 6]) := by decide +kernel
theorem xe_39_43 (a0 a1 : Option MV) (x0 x1 x2 z : Int) (μ : MM) (G : MG) : ev 39 43 [a0, a1] (vI x2 :: vI x1 :: vI x0 :: vR z :: []) μ G = if gk G z = 6 ∧ 0 < z then (ev 58 0 [some (vR z), some (vI x0), some (vI x1), some (vI x2)] [] μ G).bind (fun q => ev 39 46 [a0, a1] (q.1.toList ++ []) q.2.1 q.2.2) else none := ev_calV (as := [vR z, vI x0, vI x1, vI x2]) (r := []) mx_58 pg_39_43 rfl rfl (Nat.le_of_ble_eq_true rfl) (Nat.le_of_ble_eq_true rfl)
theorem pg_39_46 : mm_prog 39 46 = some (0, .ifCond .ne 5, 49, []) := by decide +kernel
theorem xe_39_46 (a0 a1 : Option MV) (x : Int) (st : List MV) (μ : MM) (G : MG) : ev 39 46 [a0, a1] (vI x :: st) μ G = if ¬ x = 0 then ev 39 51 [a0, a1] st μ G else ev 39 49 [a0, a1] st μ G := ev_br (mm_cnd_ne x 0) pg_39_46 rfl
theorem pg_39_49 : mm_prog 39 49 = some (0, .iconst 3, 50, []) := by decide +kernel
theorem xe_39_49 (a0 a1 : Option MV) (st : List MV) (μ : MM) (G : MG) : ev 39 49 [a0, a1] st μ G = ev 39 50 [a0, a1] (vI (3) :: st) μ G := ev_stp pg_39_49 rfl
theorem pg_39_50 : mm_prog 39 50 = some (2, .ireturn, 51, [0]) := by decide +kernel
theorem xe_39_50 (a0 a1 : Option MV) (x : Int) (μ : MM) (G : MG) : ev 39 50 [a0, a1] [vI x] μ G = some (some (vI x), μ, G) := ev_ret pg_39_50 rfl
theorem pg_39_51 : mm_prog 39 51 = some (0, .aload_n 1, 52, []) := by decide +kernel
theorem xe_39_51 (a0 : Option MV) (x : Int) (st : List MV) (μ : MM) (G : MG) : ev 39 51 [a0, some (vR x)] st μ G = ev 39 52 [a0, some (vR x)] (vR x :: st) μ G := ev_stp pg_39_51 rfl
theorem pg_39_52 : mm_prog 39 52 = some (0, .getfield 141, 55, [6, 11, 0]) := by decide +kernel
theorem xe_39_52 (a0 a1 : Option MV) (x : Int) (st : List MV) (μ : MM) (G : MG) : ev 39 52 [a0, a1] (vR x :: st) μ G = if gk G x = 6 then ev 39 55 [a0, a1] (vI (μ x 11) :: st) μ G else none := ev_if pg_39_52 rfl
theorem pg_39_55 : mm_prog 39 55 = some (0, .ifCond .eq 19, 58, []) := by decide +kernel
theorem xe_39_55 (a0 a1 : Option MV) (x : Int) (st : List MV) (μ : MM) (G : MG) : ev 39 55 [a0, a1] (vI x :: st) μ G = if x = 0 then ev 39 74 [a0, a1] st μ G else ev 39 58 [a0, a1] st μ G := ev_br (mm_cnd_eq x 0) pg_39_55 rfl
theorem pg_39_58 : mm_prog 39 58 = some (0, .aload_n 0, 59, []) := by decide +kernel
theorem xe_39_58 (a1 : Option MV) (x : Int) (st : List MV) (μ : MM) (G : MG) : ev 39 58 [some (vR x), a1] st μ G = ev 39 59 [some (vR x), a1] (vR x :: st) μ G := ev_stp pg_39_58 rfl
theorem pg_39_59 : mm_prog 39 59 = some (0, .getfield 24, 62, [5, 2, 2]) := by decide +kernel
theorem xe_39_59 (a0 a1 : Option MV) (x : Int) (st : List MV) (μ : MM) (G : MG) : ev 39 59 [a0, a1] (vR x :: st) μ G = if gk G x = 5 then ev 39 62 [a0, a1] (vR (μ x 2) :: st) μ G else none := ev_if pg_39_59 rfl
theorem pg_39_62 : mm_prog 39 62 = some (0, .getfield 135, 65, [7, 0, 0]) := by decide +kernel
theorem xe_39_62 (a0 a1 : Option MV) (x : Int) (st : List MV) (μ : MM) (G : MG) : ev 39 62 [a0, a1] (vR x :: st) μ G = if gk G x = 7 then ev 39 65 [a0, a1] (vI (μ x 0) :: st) μ G else none := ev_if pg_39_62 rfl
theorem pg_39_65 : mm_prog 39 65 = some (0, .aload_n 1, 66, []) := by decide +kernel
theorem xe_39_65 (a0 : Option MV) (x : Int) (st : List MV) (μ : MM) (G : MG) : ev 39 65 [a0, some (vR x)] st μ G = ev 39 66 [a0, some (vR x)] (vR x :: st) μ G := ev_stp pg_39_65 rfl
theorem pg_39_66 : mm_prog 39 66 = some (0, .getfield 141, 69, [6, 11, 0]) := by decide +kernel
theorem xe_39_66 (a0 a1 : Option MV) (x : Int) (st : List MV) (μ : MM) (G : MG) : ev 39 66 [a0, a1] (vR x :: st) μ G = if gk G x = 6 then ev 39 69 [a0, a1] (vI (μ x 11) :: st) μ G else none := ev_if pg_39_66 rfl
theorem pg_39_69 : mm_prog 39 69 = some (0, .if_icmp .le 5, 72, []) := by decide +kernel
theorem xe_39_69 (a0 a1 : Option MV) (x y : Int) (st : List MV) (μ : MM) (G : MG) : ev 39 69 [a0, a1] (vI y :: vI x :: st) μ G = if x ≤ y then ev 39 74 [a0, a1] st μ G else ev 39 72 [a0, a1] st μ G := ev_br (mm_cnd_le x y) pg_39_69 rfl
theorem pg_39_72 : mm_prog 39 72 = some (0, .iconst 4, 73, []) := by decide +kernel
theorem xe_39_72 (a0 a1 : Option MV) (st : List MV) (μ : MM) (G : MG) : ev 39 72 [a0, a1] st μ G = ev 39 73 [a0, a1] (vI (4) :: st) μ G := ev_stp pg_39_72 rfl
theorem pg_39_73 : mm_prog 39 73 = some (2, .ireturn, 74, [0]) := by decide +kernel
theorem xe_39_73 (a0 a1 : Option MV) (x : Int) (μ : MM) (G : MG) : ev 39 73 [a0, a1] [vI x] μ G = some (some (vI x), μ, G) := ev_ret pg_39_73 rfl
theorem pg_39_74 : mm_prog 39 74 = some (0, .aload_n 0, 75, []) := by decide +kernel
theorem xe_39_74 (a1 : Option MV) (x : Int) (st : List MV) (μ : MM) (G : MG) : ev 39 74 [some (vR x), a1] st μ G = ev 39 75 [some (vR x), a1] (vR x :: st) μ G := ev_stp pg_39_74 rfl
theorem pg_39_75 : mm_prog 39 75 = some (0, .aload_n 0, 76, []) := by decide +kernel
theorem xe_39_75 (a1 : Option MV) (x : Int) (st : List MV) (μ : MM) (G : MG) : ev 39 75 [some (vR x), a1] st μ G = ev 39 76 [some (vR x), a1] (vR x :: st) μ G := ev_stp pg_39_75 rfl
theorem pg_39_76 : mm_prog 39 76 = some (0, .getfield 24, 79, [5, 2, 2]) := by decide +kernel
theorem xe_39_76 (a0 a1 : Option MV) (x : Int) (st : List MV) (μ : MM) (G : MG) : ev 39 76 [a0, a1] (vR x :: st) μ G = if gk G x = 5 then ev 39 79 [a0, a1] (vR (μ x 2) :: st) μ G else none := ev_if pg_39_76 rfl
theorem pg_39_79 : mm_prog 39 79 = some (0, .getfield 144, 82, [7, 1, 0]) := by decide +kernel
theorem xe_39_79 (a0 a1 : Option MV) (x : Int) (st : List MV) (μ : MM) (G : MG) : ev 39 79 [a0, a1] (vR x :: st) μ G = if gk G x = 7 then ev 39 82 [a0, a1] (vI (μ x 1) :: st) μ G else none := ev_if pg_39_79 rfl
theorem pg_39_82 : mm_prog 39 82 = some (0, .aload_n 0, 83, []) := by decide +kernel
theorem xe_39_82 (a1 : Option MV) (x : Int) (st : List MV) (μ : MM) (G : MG) : ev 39 82 [some (vR x), a1] st μ G = ev 39 83 [some (vR x), a1] (vR x :: st) μ G := ev_stp pg_39_82 rfl
theorem pg_39_83 : mm_prog 39 83 = some (0, .getfield 24, 86, [5, 2, 2]) := by decide +kernel
theorem xe_39_83 (a0 a1 : Option MV) (x : Int) (st : List MV) (μ : MM) (G : MG) : ev 39 83 [a0, a1] (vR x :: st) μ G = if gk G x = 5 then ev 39 86 [a0, a1] (vR (μ x 2) :: st) μ G else none := ev_if pg_39_83 rfl
theorem pg_39_86 : mm_prog 39 86 = some (0, .getfield 147, 89, [7, 5, 0]) := by decide +kernel
theorem xe_39_86 (a0 a1 : Option MV) (x : Int) (st : List MV) (μ : MM) (G : MG) : ev 39 86 [a0, a1] (vR x :: st) μ G = if gk G x = 7 then ev 39 89 [a0, a1] (vI (μ x 5) :: st) μ G else none := ev_if pg_39_86 rfl
theorem pg_39_89 : mm_prog 39 89 = some (0, .aload_n 0, 90, []) := by decide +kernel
theorem xe_39_89 (a1 : Option MV) (x : Int) (st : List MV) (μ : MM) (G : MG) : ev 39 89 [some (vR x), a1] st μ G = ev 39 90 [some (vR x), a1] (vR x :: st) μ G := ev_stp pg_39_89 rfl
theorem pg_39_90 : mm_prog 39 90 = some (0, .getfield 113, 93, [5, 3, 0]) := by decide +kernel
theorem xe_39_90 (a0 a1 : Option MV) (x : Int) (st : List MV) (μ : MM) (G : MG) : ev 39 90 [a0, a1] (vR x :: st) μ G = if gk G x = 5 then ev 39 93 [a0, a1] (vI (μ x 3) :: st) μ G else none := ev_if pg_39_90 rfl
theorem pg_39_93 : mm_prog 39 93 = some (1, .invokevirtual 150, 96, [1, 33, 3, 5]) := by decide +kernel
theorem xe_39_93 (a0 a1 : Option MV) (x0 x1 x2 z : Int) (μ : MM) (G : MG) : ev 39 93 [a0, a1] (vI x2 :: vI x1 :: vI x0 :: vR z :: []) μ G = if gk G z = 5 ∧ 0 < z then (ev 33 0 [some (vR z), some (vI x0), some (vI x1), some (vI x2), none] [] μ G).bind (fun q => ev 39 96 [a0, a1] (q.1.toList ++ []) q.2.1 q.2.2) else none := ev_calV (as := [vR z, vI x0, vI x1, vI x2]) (r := []) mx_33 pg_39_93 rfl rfl (Nat.le_of_ble_eq_true rfl) (Nat.le_of_ble_eq_true rfl)
theorem pg_39_96 : mm_prog 39 96 = some (0, .iconst (-1), 97, []) := by decide +kernel
theorem xe_39_96 (a0 a1 : Option MV) (st : List MV) (μ : MM) (G : MG) : ev 39 96 [a0, a1] st μ G = ev 39 97 [a0, a1] (vI (-1) :: st) μ G := ev_stp pg_39_96 rfl
theorem pg_39_97 : mm_prog 39 97 = some (0, .if_icmp .eq 5, 100, []) := by decide +kernel
theorem xe_39_97 (a0 a1 : Option MV) (x y : Int) (st : List MV) (μ : MM) (G : MG) : ev 39 97 [a0, a1] (vI y :: vI x :: st) μ G = if x = y then ev 39 102 [a0, a1] st μ G else ev 39 100 [a0, a1] st μ G := ev_br (mm_cnd_eq x y) pg_39_97 rfl
theorem pg_39_100 : mm_prog 39 100 = some (0, .iconst 5, 101, []) := by decide +kernel
theorem xe_39_100 (a0 a1 : Option MV) (st : List MV) (μ : MM) (G : MG) : ev 39 100 [a0, a1] st μ G = ev 39 101 [a0, a1] (vI (5) :: st) μ G := ev_stp pg_39_100 rfl
theorem pg_39_101 : mm_prog 39 101 = some (2, .ireturn, 102, [0]) := by decide +kernel
theorem xe_39_101 (a0 a1 : Option MV) (x : Int) (μ : MM) (G : MG) : ev 39 101 [a0, a1] [vI x] μ G = some (some (vI x), μ, G) := ev_ret pg_39_101 rfl
theorem pg_39_102 : mm_prog 39 102 = some (0, .aload_n 0, 103, []) := by decide +kernel
theorem xe_39_102 (a1 : Option MV) (x : Int) (st : List MV) (μ : MM) (G : MG) : ev 39 102 [some (vR x), a1] st μ G = ev 39 103 [some (vR x), a1] (vR x :: st) μ G := ev_stp pg_39_102 rfl
theorem pg_39_103 : mm_prog 39 103 = some (0, .getfield 29, 106, [5, 4, 0]) := by decide +kernel
theorem xe_39_103 (a0 a1 : Option MV) (x : Int) (st : List MV) (μ : MM) (G : MG) : ev 39 103 [a0, a1] (vR x :: st) μ G = if gk G x = 5 then ev 39 106 [a0, a1] (vI (μ x 4) :: st) μ G else none := ev_if pg_39_103 rfl
theorem pg_39_106 : mm_prog 39 106 = some (0, .bipush 40, 108, []) := by decide +kernel
theorem xe_39_106 (a0 a1 : Option MV) (st : List MV) (μ : MM) (G : MG) : ev 39 106 [a0, a1] st μ G = ev 39 108 [a0, a1] (vI (40) :: st) μ G := ev_stp pg_39_106 rfl
theorem pg_39_108 : mm_prog 39 108 = some (0, .if_icmp .lt 8, 111, []) := by decide +kernel
theorem xe_39_108 (a0 a1 : Option MV) (x y : Int) (st : List MV) (μ : MM) (G : MG) : ev 39 108 [a0, a1] (vI y :: vI x :: st) μ G = if x < y then ev 39 116 [a0, a1] st μ G else ev 39 111 [a0, a1] st μ G := ev_br (mm_cnd_lt x y) pg_39_108 rfl
theorem pg_39_111 : mm_prog 39 111 = some (0, .bipush 6, 113, []) := by decide +kernel
theorem xe_39_111 (a0 a1 : Option MV) (st : List MV) (μ : MM) (G : MG) : ev 39 111 [a0, a1] st μ G = ev 39 113 [a0, a1] (vI (6) :: st) μ G := ev_stp pg_39_111 rfl
theorem pg_39_113 : mm_prog 39 113 = some (0, .goto 4, 116, []) := by decide +kernel
theorem xe_39_113 (a0 a1 : Option MV) (st : List MV) (μ : MM) (G : MG) : ev 39 113 [a0, a1] st μ G = ev 39 117 [a0, a1] st μ G := ev_stp pg_39_113 rfl
theorem pg_39_116 : mm_prog 39 116 = some (0, .iconst (-1), 117, []) := by decide +kernel
theorem xe_39_116 (a0 a1 : Option MV) (st : List MV) (μ : MM) (G : MG) : ev 39 116 [a0, a1] st μ G = ev 39 117 [a0, a1] (vI (-1) :: st) μ G := ev_stp pg_39_116 rfl
theorem pg_39_117 : mm_prog 39 117 = some (2, .ireturn, 118, [0]) := by decide +kernel
theorem xe_39_117 (a0 a1 : Option MV) (x : Int) (μ : MM) (G : MG) : ev 39 117 [a0, a1] [vI x] μ G = some (some (vI x), μ, G) := ev_ret pg_39_117 rfl
-- X5_insert
theorem pg_40_0 : mm_prog 40 0 = some (0, .aload_n 0, 1, []) := by decide +kernel
theorem xe_40_0 (a1 a2 a3 a4 : Option MV) (x : Int) (st : List MV) (μ : MM) (G : MG) : ev 40 0 [some (vR x), a1, a2, a3, a4] st μ G = ev 40 1 [some (vR x), a1, a2, a3, a4] (vR x :: st) μ G := ev_stp pg_40_0 rfl
theorem pg_40_1 : mm_prog 40 1 = some (0, .getfield 29, 4, [5, 4, 0]) := by decide +kernel
theorem xe_40_1 (a0 a1 a2 a3 a4 : Option MV) (x : Int) (st : List MV) (μ : MM) (G : MG) : ev 40 1 [a0, a1, a2, a3, a4] (vR x :: st) μ G = if gk G x = 5 then ev 40 4 [a0, a1, a2, a3, a4] (vI (μ x 4) :: st) μ G else none := ev_if pg_40_1 rfl
theorem pg_40_4 : mm_prog 40 4 = some (0, .ifCond .lt 15, 7, []) := by decide +kernel
theorem xe_40_4 (a0 a1 a2 a3 a4 : Option MV) (x : Int) (st : List MV) (μ : MM) (G : MG) : ev 40 4 [a0, a1, a2, a3, a4] (vI x :: st) μ G = if x < 0 then ev 40 19 [a0, a1, a2, a3, a4] st μ G else ev 40 7 [a0, a1, a2, a3, a4] st μ G := ev_br (mm_cnd_lt x 0) pg_40_4 rfl
theorem pg_40_7 : mm_prog 40 7 = some (0, .aload_n 0, 8, []) := by decide +kernel
theorem xe_40_7 (a1 a2 a3 a4 : Option MV) (x : Int) (st : List MV) (μ : MM) (G : MG) : ev 40 7 [some (vR x), a1, a2, a3, a4] st μ G = ev 40 8 [some (vR x), a1, a2, a3, a4] (vR x :: st) μ G := ev_stp pg_40_7 rfl
theorem pg_40_8 : mm_prog 40 8 = some (0, .getfield 29, 11, [5, 4, 0]) := by decide +kernel
theorem xe_40_8 (a0 a1 a2 a3 a4 : Option MV) (x : Int) (st : List MV) (μ : MM) (G : MG) : ev 40 8 [a0, a1, a2, a3, a4] (vR x :: st) μ G = if gk G x = 5 then ev 40 11 [a0, a1, a2, a3, a4] (vI (μ x 4) :: st) μ G else none := ev_if pg_40_8 rfl
theorem pg_40_11 : mm_prog 40 11 = some (0, .aload_n 0, 12, []) := by decide +kernel
theorem xe_40_11 (a1 a2 a3 a4 : Option MV) (x : Int) (st : List MV) (μ : MM) (G : MG) : ev 40 11 [some (vR x), a1, a2, a3, a4] st μ G = ev 40 12 [some (vR x), a1, a2, a3, a4] (vR x :: st) μ G := ev_stp pg_40_11 rfl
theorem pg_40_12 : mm_prog 40 12 = some (0, .getfield 11, 15, [5, 0, 2]) := by decide +kernel
theorem xe_40_12 (a0 a1 a2 a3 a4 : Option MV) (x : Int) (st : List MV) (μ : MM) (G : MG) : ev 40 12 [a0, a1, a2, a3, a4] (vR x :: st) μ G = if gk G x = 5 then ev 40 15 [a0, a1, a2, a3, a4] (vR (μ x 0) :: st) μ G else none := ev_if pg_40_12 rfl
theorem pg_40_15 : mm_prog 40 15 = some (0, .arraylength, 16, []) := by decide +kernel
theorem xe_40_15 (a0 a1 a2 a3 a4 : Option MV) (x : Int) (st : List MV) (μ : MM) (G : MG) : ev 40 15 [a0, a1, a2, a3, a4] (vR x :: st) μ G = if 100 ≤ gk G x then ev 40 16 [a0, a1, a2, a3, a4] (vI (gl G x) :: st) μ G else none := ev_if pg_40_15 rfl
theorem pg_40_16 : mm_prog 40 16 = some (0, .if_icmp .lt 4, 19, []) := by decide +kernel
theorem xe_40_16 (a0 a1 a2 a3 a4 : Option MV) (x y : Int) (st : List MV) (μ : MM) (G : MG) : ev 40 16 [a0, a1, a2, a3, a4] (vI y :: vI x :: st) μ G = if x < y then ev 40 20 [a0, a1, a2, a3, a4] st μ G else ev 40 19 [a0, a1, a2, a3, a4] st μ G := ev_br (mm_cnd_lt x y) pg_40_16 rfl
theorem pg_40_19 : mm_prog 40 19 = some (2, .return_, 20, []) := by decide +kernel
theorem xe_40_19 (a0 a1 a2 a3 a4 : Option MV) (μ : MM) (G : MG) : ev 40 19 [a0, a1, a2, a3, a4] [] μ G = some (none, μ, G) := ev_ret pg_40_19 rfl
theorem pg_40_20 : mm_prog 40 20 = some (0, .aload_n 0, 21, []) := by decide +kernel
theorem xe_40_20 (a1 a2 a3 a4 : Option MV) (x : Int) (st : List MV) (μ : MM) (G : MG) : ev 40 20 [some (vR x), a1, a2, a3, a4] st μ G = ev 40 21 [some (vR x), a1, a2, a3, a4] (vR x :: st) μ G := ev_stp pg_40_20 rfl
theorem pg_40_21 : mm_prog 40 21 = some (0, .getfield 11, 24, [5, 0, 2]) := by decide +kernel
theorem xe_40_21 (a0 a1 a2 a3 a4 : Option MV) (x : Int) (st : List MV) (μ : MM) (G : MG) : ev 40 21 [a0, a1, a2, a3, a4] (vR x :: st) μ G = if gk G x = 5 then ev 40 24 [a0, a1, a2, a3, a4] (vR (μ x 0) :: st) μ G else none := ev_if pg_40_21 rfl
theorem pg_40_24 : mm_prog 40 24 = some (0, .aload_n 0, 25, []) := by decide +kernel
theorem xe_40_24 (a1 a2 a3 a4 : Option MV) (x : Int) (st : List MV) (μ : MM) (G : MG) : ev 40 24 [some (vR x), a1, a2, a3, a4] st μ G = ev 40 25 [some (vR x), a1, a2, a3, a4] (vR x :: st) μ G := ev_stp pg_40_24 rfl
theorem pg_40_25 : mm_prog 40 25 = some (0, .getfield 29, 28, [5, 4, 0]) := by decide +kernel
theorem xe_40_25 (a0 a1 a2 a3 a4 : Option MV) (x : Int) (st : List MV) (μ : MM) (G : MG) : ev 40 25 [a0, a1, a2, a3, a4] (vR x :: st) μ G = if gk G x = 5 then ev 40 28 [a0, a1, a2, a3, a4] (vI (μ x 4) :: st) μ G else none := ev_if pg_40_25 rfl
theorem pg_40_28 : mm_prog 40 28 = some (0, .aaload, 29, [102, 4]) := by decide +kernel
theorem xe_40_28 (a0 a1 a2 a3 a4 : Option MV) (x y : Int) (st : List MV) (μ : MM) (G : MG) : ev 40 28 [a0, a1, a2, a3, a4] (vI x :: vR y :: st) μ G = if gk G y = 102 ∧ 0 ≤ x ∧ x < gl G y then ev 40 29 [a0, a1, a2, a3, a4] (vR (μ y x) :: st) μ G else none := ev_if pg_40_28 rfl
theorem pg_40_29 : mm_prog 40 29 = some (0, .astore_n 3, 30, []) := by decide +kernel
theorem xe_40_29 (a0 a1 a2 a3 a4 : Option MV) (x : Int) (st : List MV) (μ : MM) (G : MG) (h : mm_nL a2 = true) : ev 40 29 [a0, a1, a2, a3, a4] (vR x :: st) μ G = ev 40 30 [a0, a1, a2, some (vR x), a4] st μ G := ev_st pg_40_29 rfl (mm_nl_of h) (Nat.le_of_ble_eq_true rfl)
theorem pg_40_30 : mm_prog 40 30 = some (0, .aload_n 3, 31, []) := by decide +kernel
theorem xe_40_30 (a0 a1 a2 a4 : Option MV) (x : Int) (st : List MV) (μ : MM) (G : MG) : ev 40 30 [a0, a1, a2, some (vR x), a4] st μ G = ev 40 31 [a0, a1, a2, some (vR x), a4] (vR x :: st) μ G := ev_stp pg_40_30 rfl
theorem pg_40_31 : mm_prog 40 31 = some (0, .getfield 154, 34, [4, 0, 2]) := by decide +kernel
theorem xe_40_31 (a0 a1 a2 a3 a4 : Option MV) (x : Int) (st : List MV) (μ : MM) (G : MG) : ev 40 31 [a0, a1, a2, a3, a4] (vR x :: st) μ G = if gk G x = 4 then ev 40 34 [a0, a1, a2, a3, a4] (vR (μ x 0) :: st) μ G else none := ev_if pg_40_31 rfl
theorem pg_40_34 : mm_prog 40 34 = some (0, .aload_n 0, 35, []) := by decide +kernel
theorem xe_40_34 (a1 a2 a3 a4 : Option MV) (x : Int) (st : List MV) (μ : MM) (G : MG) : ev 40 34 [some (vR x), a1, a2, a3, a4] st μ G = ev 40 35 [some (vR x), a1, a2, a3, a4] (vR x :: st) μ G := ev_stp pg_40_34 rfl
theorem pg_40_35 : mm_prog 40 35 = some (0, .getfield 24, 38, [5, 2, 2]) := by decide +kernel
theorem xe_40_35 (a0 a1 a2 a3 a4 : Option MV) (x : Int) (st : List MV) (μ : MM) (G : MG) : ev 40 35 [a0, a1, a2, a3, a4] (vR x :: st) μ G = if gk G x = 5 then ev 40 38 [a0, a1, a2, a3, a4] (vR (μ x 2) :: st) μ G else none := ev_if pg_40_35 rfl
theorem pg_40_38 : mm_prog 40 38 = some (1, .invokevirtual 56, 41, [1, 65, 1, 7]) := by decide +kernel
theorem xe_40_38 (a0 a1 a2 a3 a4 : Option MV) (x0 z : Int) (μ : MM) (G : MG) : ev 40 38 [a0, a1, a2, a3, a4] (vR x0 :: vR z :: []) μ G = if gk G z = 7 ∧ 0 < z then (ev 65 0 [some (vR z), some (vR x0)] [] μ G).bind (fun q => ev 40 41 [a0, a1, a2, a3, a4] (q.1.toList ++ []) q.2.1 q.2.2) else none := ev_calV (as := [vR z, vR x0]) (r := []) mx_65 pg_40_38 rfl rfl (Nat.le_of_ble_eq_true rfl) (Nat.le_of_ble_eq_true rfl)
theorem pg_40_41 : mm_prog 40 41 = some (0, .aload_n 3, 42, []) := by decide +kernel
theorem xe_40_41 (a0 a1 a2 a4 : Option MV) (x : Int) (st : List MV) (μ : MM) (G : MG) : ev 40 41 [a0, a1, a2, some (vR x), a4] st μ G = ev 40 42 [a0, a1, a2, some (vR x), a4] (vR x :: st) μ G := ev_stp pg_40_41 rfl
theorem pg_40_42 : mm_prog 40 42 = some (0, .aload_n 0, 43, []) := by decide +kernel
theorem xe_40_42 (a1 a2 a3 a4 : Option MV) (x : Int) (st : List MV) (μ : MM) (G : MG) : ev 40 42 [some (vR x), a1, a2, a3, a4] st μ G = ev 40 43 [some (vR x), a1, a2, a3, a4] (vR x :: st) μ G := ev_stp pg_40_42 rfl
theorem pg_40_43 : mm_prog 40 43 = some (0, .getfield 113, 46, [5, 3, 0]) := by decide +kernel
theorem xe_40_43 (a0 a1 a2 a3 a4 : Option MV) (x : Int) (st : List MV) (μ : MM) (G : MG) : ev 40 43 [a0, a1, a2, a3, a4] (vR x :: st) μ G = if gk G x = 5 then ev 40 46 [a0, a1, a2, a3, a4] (vI (μ x 3) :: st) μ G else none := ev_if pg_40_43 rfl
theorem pg_40_46 : mm_prog 40 46 = some (0, .putfield 157, 49, [4, 1, 0]) := by decide +kernel
theorem xe_40_46 (a0 a1 a2 a3 a4 : Option MV) (x y : Int) (st : List MV) (μ : MM) (G : MG) : ev 40 46 [a0, a1, a2, a3, a4] (vI x :: vR y :: st) μ G = if gk G y = 4 then ev 40 49 [a0, a1, a2, a3, a4] st (mset μ y 1 x) G else none := ev_put0 pg_40_46
theorem pg_40_49 : mm_prog 40 49 = some (0, .aload_n 3, 50, []) := by decide +kernel
theorem xe_40_49 (a0 a1 a2 a4 : Option MV) (x : Int) (st : List MV) (μ : MM) (G : MG) : ev 40 49 [a0, a1, a2, some (vR x), a4] st μ G = ev 40 50 [a0, a1, a2, some (vR x), a4] (vR x :: st) μ G := ev_stp pg_40_49 rfl
theorem pg_40_50 : mm_prog 40 50 = some (0, .iload_n 1, 51, []) := by decide +kernel
theorem xe_40_50 (a0 a2 a3 a4 : Option MV) (x : Int) (st : List MV) (μ : MM) (G : MG) : ev 40 50 [a0, some (vI x), a2, a3, a4] st μ G = ev 40 51 [a0, some (vI x), a2, a3, a4] (vI x :: st) μ G := ev_stp pg_40_50 rfl
theorem pg_40_51 : mm_prog 40 51 = some (0, .putfield 160, 54, [4, 2, 0]) := by decide +kernel
theorem xe_40_51 (a0 a1 a2 a3 a4 : Option MV) (x y : Int) (st : List MV) (μ : MM) (G : MG) : ev 40 51 [a0, a1, a2, a3, a4] (vI x :: vR y :: st) μ G = if gk G y = 4 then ev 40 54 [a0, a1, a2, a3, a4] st (mset μ y 2 x) G else none := ev_put0 pg_40_51
theorem pg_40_54 : mm_prog 40 54 = some (0, .aload_n 3, 55, []) := by decide +kernel
theorem xe_40_54 (a0 a1 a2 a4 : Option MV) (x : Int) (st : List MV) (μ : MM) (G : MG) : ev 40 54 [a0, a1, a2, some (vR x), a4] st μ G = ev 40 55 [a0, a1, a2, some (vR x), a4] (vR x :: st) μ G := ev_stp pg_40_54 rfl
theorem pg_40_55 : mm_prog 40 55 = some (0, .iload_n 2, 56, []) := by decide +kernel
theorem xe_40_55 (a0 a1 a3 a4 : Option MV) (x : Int) (st : List MV) (μ : MM) (G : MG) : ev 40 55 [a0, a1, some (vI x), a3, a4] st μ G = ev 40 56 [a0, a1, some (vI x), a3, a4] (vI x :: st) μ G := ev_stp pg_40_55 rfl
theorem pg_40_56 : mm_prog 40 56 = some (0, .putfield 163, 59, [4, 3, 1]) := by decide +kernel
theorem xe_40_56 (a0 a1 a2 a3 a4 : Option MV) (x y : Int) (st : List MV) (μ : MM) (G : MG) : ev 40 56 [a0, a1, a2, a3, a4] (vI x :: vR y :: st) μ G = if gk G y = 4 ∧ (x = 0 ∨ x = 1) then ev 40 59 [a0, a1, a2, a3, a4] st (mset μ y 3 x) G else none := ev_put1 pg_40_56
theorem pg_40_59 : mm_prog 40 59 = some (0, .aload_n 0, 60, []) := by decide +kernel
theorem xe_40_59 (a1 a2 a3 a4 : Option MV) (x : Int) (st : List MV) (μ : MM) (G : MG) : ev 40 59 [some (vR x), a1, a2, a3, a4] st μ G = ev 40 60 [some (vR x), a1, a2, a3, a4] (vR x :: st) μ G := ev_stp pg_40_59 rfl
theorem pg_40_60 : mm_prog 40 60 = some (0, .getfield 29, 63, [5, 4, 0]) := by decide +kernel
theorem xe_40_60 (a0 a1 a2 a3 a4 : Option MV) (x : Int) (st : List MV) (μ : MM) (G : MG) : ev 40 60 [a0, a1, a2, a3, a4] (vR x :: st) μ G = if gk G x = 5 then ev 40 63 [a0, a1, a2, a3, a4] (vI (μ x 4) :: st) μ G else none := ev_if pg_40_60 rfl
theorem pg_40_63 : mm_prog 40 63 = some (0, .istore 4, 65, []) := by decide +kernel
theorem xe_40_63 (a0 a1 a2 a3 a4 : Option MV) (x : Int) (st : List MV) (μ : MM) (G : MG) (h : mm_nL a3 = true) : ev 40 63 [a0, a1, a2, a3, a4] (vI x :: st) μ G = ev 40 65 [a0, a1, a2, a3, some (vI x)] st μ G := ev_st pg_40_63 rfl (mm_nl_of h) (Nat.le_of_ble_eq_true rfl)
theorem pg_40_65 : mm_prog 40 65 = some (0, .iload 4, 67, []) := by decide +kernel
theorem xe_40_65 (a0 a1 a2 a3 : Option MV) (x : Int) (st : List MV) (μ : MM) (G : MG) : ev 40 65 [a0, a1, a2, a3, some (vI x)] st μ G = ev 40 67 [a0, a1, a2, a3, some (vI x)] (vI x :: st) μ G := ev_stp pg_40_65 rfl
theorem pg_40_67 : mm_prog 40 67 = some (0, .ifCond .le 41, 70, []) := by decide +kernel
theorem xe_40_67 (a0 a1 a2 a3 a4 : Option MV) (x : Int) (st : List MV) (μ : MM) (G : MG) : ev 40 67 [a0, a1, a2, a3, a4] (vI x :: st) μ G = if x ≤ 0 then ev 40 108 [a0, a1, a2, a3, a4] st μ G else ev 40 70 [a0, a1, a2, a3, a4] st μ G := ev_br (mm_cnd_le x 0) pg_40_67 rfl
theorem pg_40_70 : mm_prog 40 70 = some (0, .aload_n 3, 71, []) := by decide +kernel
theorem xe_40_70 (a0 a1 a2 a4 : Option MV) (x : Int) (st : List MV) (μ : MM) (G : MG) : ev 40 70 [a0, a1, a2, some (vR x), a4] st μ G = ev 40 71 [a0, a1, a2, some (vR x), a4] (vR x :: st) μ G := ev_stp pg_40_70 rfl
theorem pg_40_71 : mm_prog 40 71 = some (0, .aload_n 0, 72, []) := by decide +kernel
theorem xe_40_71 (a1 a2 a3 a4 : Option MV) (x : Int) (st : List MV) (μ : MM) (G : MG) : ev 40 71 [some (vR x), a1, a2, a3, a4] st μ G = ev 40 72 [some (vR x), a1, a2, a3, a4] (vR x :: st) μ G := ev_stp pg_40_71 rfl
theorem pg_40_72 : mm_prog 40 72 = some (0, .getfield 11, 75, [5, 0, 2]) := by decide +kernel
theorem xe_40_72 (a0 a1 a2 a3 a4 : Option MV) (x : Int) (st : List MV) (μ : MM) (G : MG) : ev 40 72 [a0, a1, a2, a3, a4] (vR x :: st) μ G = if gk G x = 5 then ev 40 75 [a0, a1, a2, a3, a4] (vR (μ x 0) :: st) μ G else none := ev_if pg_40_72 rfl
theorem pg_40_75 : mm_prog 40 75 = some (0, .iload 4, 77, []) := by decide +kernel
theorem xe_40_75 (a0 a1 a2 a3 : Option MV) (x : Int) (st : List MV) (μ : MM) (G : MG) : ev 40 75 [a0, a1, a2, a3, some (vI x)] st μ G = ev 40 77 [a0, a1, a2, a3, some (vI x)] (vI x :: st) μ G := ev_stp pg_40_75 rfl
theorem pg_40_77 : mm_prog 40 77 = some (0, .iconst 1, 78, []) := by decide +kernel
theorem xe_40_77 (a0 a1 a2 a3 a4 : Option MV) (st : List MV) (μ : MM) (G : MG) : ev 40 77 [a0, a1, a2, a3, a4] st μ G = ev 40 78 [a0, a1, a2, a3, a4] (vI (1) :: st) μ G := ev_stp pg_40_77 rfl
theorem pg_40_78 : mm_prog 40 78 = some (0, .isub, 79, []) := by decide +kernel
theorem xe_40_78 (a0 a1 a2 a3 a4 : Option MV) (x y : Int) (st : List MV) (μ : MM) (G : MG) : ev 40 78 [a0, a1, a2, a3, a4] (vI y :: vI x :: st) μ G = ev 40 79 [a0, a1, a2, a3, a4] (vI (w32 (x - y)) :: st) μ G := ev_stp pg_40_78 rfl
theorem pg_40_79 : mm_prog 40 79 = some (0, .aaload, 80, [102, 4]) := by decide +kernel
theorem xe_40_79 (a0 a1 a2 a3 a4 : Option MV) (x y : Int) (st : List MV) (μ : MM) (G : MG) : ev 40 79 [a0, a1, a2, a3, a4] (vI x :: vR y :: st) μ G = if gk G y = 102 ∧ 0 ≤ x ∧ x < gl G y then ev 40 80 [a0, a1, a2, a3, a4] (vR (μ y x) :: st) μ G else none := ev_if pg_40_79 rfl
theorem pg_40_80 : mm_prog 40 80 = some (1, .invokevirtual 166, 83, [1, 29, 1, 4]) := by decide +kernel
theorem xe_40_80 (a0 a1 a2 a3 a4 : Option MV) (x0 z : Int) (μ : MM) (G : MG) : ev 40 80 [a0, a1, a2, a3, a4] (vR x0 :: vR z :: []) μ G = if gk G z = 4 ∧ 0 < z then (ev 29 0 [some (vR z), some (vR x0), none, none] [] μ G).bind (fun q => ev 40 83 [a0, a1, a2, a3, a4] (q.1.toList ++ []) q.2.1 q.2.2) else none := ev_calV (as := [vR z, vR x0]) (r := []) mx_29 pg_40_80 rfl rfl (Nat.le_of_ble_eq_true rfl) (Nat.le_of_ble_eq_true rfl)
theorem pg_40_83 : mm_prog 40 83 = some (0, .ifCond .eq 25, 86, []) := by decide +kernel
theorem xe_40_83 (a0 a1 a2 a3 a4 : Option MV) (x : Int) (st : List MV) (μ : MM) (G : MG) : ev 40 83 [a0, a1, a2, a3, a4] (vI x :: st) μ G = if x = 0 then ev 40 108 [a0, a1, a2, a3, a4] st μ G else ev 40 86 [a0, a1, a2, a3, a4] st μ G := ev_br (mm_cnd_eq x 0) pg_40_83 rfl
theorem pg_40_86 : mm_prog 40 86 = some (0, .aload_n 0, 87, []) := by decide +kernel
theorem xe_40_86 (a1 a2 a3 a4 : Option MV) (x : Int) (st : List MV) (μ : MM) (G : MG) : ev 40 86 [some (vR x), a1, a2, a3, a4] st μ G = ev 40 87 [some (vR x), a1, a2, a3, a4] (vR x :: st) μ G := ev_stp pg_40_86 rfl
theorem pg_40_87 : mm_prog 40 87 = some (0, .getfield 11, 90, [5, 0, 2]) := by decide +kernel
theorem xe_40_87 (a0 a1 a2 a3 a4 : Option MV) (x : Int) (st : List MV) (μ : MM) (G : MG) : ev 40 87 [a0, a1, a2, a3, a4] (vR x :: st) μ G = if gk G x = 5 then ev 40 90 [a0, a1, a2, a3, a4] (vR (μ x 0) :: st) μ G else none := ev_if pg_40_87 rfl
theorem pg_40_90 : mm_prog 40 90 = some (0, .iload 4, 92, []) := by decide +kernel
theorem xe_40_90 (a0 a1 a2 a3 : Option MV) (x : Int) (st : List MV) (μ : MM) (G : MG) : ev 40 90 [a0, a1, a2, a3, some (vI x)] st μ G = ev 40 92 [a0, a1, a2, a3, some (vI x)] (vI x :: st) μ G := ev_stp pg_40_90 rfl
theorem pg_40_92 : mm_prog 40 92 = some (0, .aload_n 0, 93, []) := by decide +kernel
theorem xe_40_92 (a1 a2 a3 a4 : Option MV) (x : Int) (st : List MV) (μ : MM) (G : MG) : ev 40 92 [some (vR x), a1, a2, a3, a4] st μ G = ev 40 93 [some (vR x), a1, a2, a3, a4] (vR x :: st) μ G := ev_stp pg_40_92 rfl
theorem pg_40_93 : mm_prog 40 93 = some (0, .getfield 11, 96, [5, 0, 2]) := by decide +kernel
theorem xe_40_93 (a0 a1 a2 a3 a4 : Option MV) (x : Int) (st : List MV) (μ : MM) (G : MG) : ev 40 93 [a0, a1, a2, a3, a4] (vR x :: st) μ G = if gk G x = 5 then ev 40 96 [a0, a1, a2, a3, a4] (vR (μ x 0) :: st) μ G else none := ev_if pg_40_93 rfl
theorem pg_40_96 : mm_prog 40 96 = some (0, .iload 4, 98, []) := by decide +kernel
theorem xe_40_96 (a0 a1 a2 a3 : Option MV) (x : Int) (st : List MV) (μ : MM) (G : MG) : ev 40 96 [a0, a1, a2, a3, some (vI x)] st μ G = ev 40 98 [a0, a1, a2, a3, some (vI x)] (vI x :: st) μ G := ev_stp pg_40_96 rfl
theorem pg_40_98 : mm_prog 40 98 = some (0, .iconst 1, 99, []) := by decide +kernel
theorem xe_40_98 (a0 a1 a2 a3 a4 : Option MV) (st : List MV) (μ : MM) (G : MG) : ev 40 98 [a0, a1, a2, a3, a4] st μ G = ev 40 99 [a0, a1, a2, a3, a4] (vI (1) :: st) μ G := ev_stp pg_40_98 rfl
theorem pg_40_99 : mm_prog 40 99 = some (0, .isub, 100, []) := by decide +kernel
theorem xe_40_99 (a0 a1 a2 a3 a4 : Option MV) (x y : Int) (st : List MV) (μ : MM) (G : MG) : ev 40 99 [a0, a1, a2, a3, a4] (vI y :: vI x :: st) μ G = ev 40 100 [a0, a1, a2, a3, a4] (vI (w32 (x - y)) :: st) μ G := ev_stp pg_40_99 rfl
theorem pg_40_100 : mm_prog 40 100 = some (0, .aaload, 101, [102, 4]) := by decide +kernel
theorem xe_40_100 (a0 a1 a2 a3 a4 : Option MV) (x y : Int) (st : List MV) (μ : MM) (G : MG) : ev 40 100 [a0, a1, a2, a3, a4] (vI x :: vR y :: st) μ G = if gk G y = 102 ∧ 0 ≤ x ∧ x < gl G y then ev 40 101 [a0, a1, a2, a3, a4] (vR (μ y x) :: st) μ G else none := ev_if pg_40_100 rfl
theorem pg_40_101 : mm_prog 40 101 = some (0, .aastore, 102, [102, 4]) := by decide +kernel
theorem xe_40_101 (a0 a1 a2 a3 a4 : Option MV) (x y z : Int) (st : List MV) (μ : MM) (G : MG) : ev 40 101 [a0, a1, a2, a3, a4] (vR x :: vI y :: vR z :: st) μ G = if gk G z = 102 ∧ 0 ≤ y ∧ y < gl G z ∧ 10 ≤ z ∧ gk G x = 4 ∧ 0 < x then ev 40 102 [a0, a1, a2, a3, a4] st (mset μ z y x) G else none := ev_if pg_40_101 rfl
theorem pg_40_102 : mm_prog 40 102 = some (0, .iinc 4 (-1), 105, []) := by decide +kernel
theorem xe_40_102 (a0 a1 a2 a3 : Option MV) (x : Int) (st : List MV) (μ : MM) (G : MG) (h : mm_nL a3 = true) : ev 40 102 [a0, a1, a2, a3, some (vI x)] st μ G = ev 40 105 [a0, a1, a2, a3, some (vI (w32 (x + (-1))))] st μ G := ev_st pg_40_102 rfl (mm_nl_of h) (Nat.le_of_ble_eq_true rfl)
theorem pg_40_105 : mm_prog 40 105 = some (0, .goto (-40), 108, []) := by decide +kernel
theorem xe_40_105 (a0 a1 a2 a3 a4 : Option MV) (st : List MV) (μ : MM) (G : MG) : ev 40 105 [a0, a1, a2, a3, a4] st μ G = ev 40 65 [a0, a1, a2, a3, a4] st μ G := ev_stp pg_40_105 rfl
theorem pg_40_108 : mm_prog 40 108 = some (0, .aload_n 0, 109, []) := by decide +kernel
theorem xe_40_108 (a1 a2 a3 a4 : Option MV) (x : Int) (st : List MV) (μ : MM) (G : MG) : ev 40 108 [some (vR x), a1, a2, a3, a4] st μ G = ev 40 109 [some (vR x), a1, a2, a3, a4] (vR x :: st) μ G := ev_stp pg_40_108 rfl
theorem pg_40_109 : mm_prog 40 109 = some (0, .getfield 11, 112, [5, 0, 2]) := by decide +kernel
theorem xe_40_109 (a0 a1 a2 a3 a4 : Option MV) (x : Int) (st : List MV) (μ : MM) (G : MG) : ev 40 109 [a0, a1, a2, a3, a4] (vR x :: st) μ G = if gk G x = 5 then ev 40 112 [a0, a1, a2, a3, a4] (vR (μ x 0) :: st) μ G else none := ev_if pg_40_109 rfl
theorem pg_40_112 : mm_prog 40 112 = some (0, .iload 4, 114, []) := by decide +kernel
theorem xe_40_112 (a0 a1 a2 a3 : Option MV) (x : Int) (st : List MV) (μ : MM) (G : MG) : ev 40 112 [a0, a1, a2, a3, some (vI x)] st μ G = ev 40 114 [a0, a1, a2, a3, some (vI x)] (vI x :: st) μ G := ev_stp pg_40_112 rfl
theorem pg_40_114 : mm_prog 40 114 = some (0, .aload_n 3, 115, []) := by decide +kernel
theorem xe_40_114 (a0 a1 a2 a4 : Option MV) (x : Int) (st : List MV) (μ : MM) (G : MG) : ev 40 114 [a0, a1, a2, some (vR x), a4] st μ G = ev 40 115 [a0, a1, a2, some (vR x), a4] (vR x :: st) μ G := ev_stp pg_40_114 rfl
theorem pg_40_115 : mm_prog 40 115 = some (0, .aastore, 116, [102, 4]) := by decide +kernel
theorem xe_40_115 (a0 a1 a2 a3 a4 : Option MV) (x y z : Int) (st : List MV) (μ : MM) (G : MG) : ev 40 115 [a0, a1, a2, a3, a4] (vR x :: vI y :: vR z :: st) μ G = if gk G z = 102 ∧ 0 ≤ y ∧ y < gl G z ∧ 10 ≤ z ∧ gk G x = 4 ∧ 0 < x then ev 40 116 [a0, a1, a2, a3, a4] st (mset μ z y x) G else none := ev_if pg_40_115 rfl
theorem pg_40_116 : mm_prog 40 116 = some (0, .aload_n 0, 117, []) := by decide +kernel
theorem xe_40_116 (a1 a2 a3 a4 : Option MV) (x : Int) (st : List MV) (μ : MM) (G : MG) : ev 40 116 [some (vR x), a1, a2, a3, a4] st μ G = ev 40 117 [some (vR x), a1, a2, a3, a4] (vR x :: st) μ G := ev_stp pg_40_116 rfl
theorem pg_40_117 : mm_prog 40 117 = some (0, .dup, 118, []) := by decide +kernel
theorem xe_40_117 (a0 a1 a2 a3 a4 : Option MV) (x : Int) (st : List MV) (μ : MM) (G : MG) : ev 40 117 [a0, a1, a2, a3, a4] (vR x :: st) μ G = ev 40 118 [a0, a1, a2, a3, a4] (vR x :: vR x :: st) μ G := ev_stp pg_40_117 rfl
theorem pg_40_118 : mm_prog 40 118 = some (0, .getfield 29, 121, [5, 4, 0]) := by decide +kernel
theorem xe_40_118 (a0 a1 a2 a3 a4 : Option MV) (x : Int) (st : List MV) (μ : MM) (G : MG) : ev 40 118 [a0, a1, a2, a3, a4] (vR x :: st) μ G = if gk G x = 5 then ev 40 121 [a0, a1, a2, a3, a4] (vI (μ x 4) :: st) μ G else none := ev_if pg_40_118 rfl
theorem pg_40_121 : mm_prog 40 121 = some (0, .iconst 1, 122, []) := by decide +kernel
theorem xe_40_121 (a0 a1 a2 a3 a4 : Option MV) (st : List MV) (μ : MM) (G : MG) : ev 40 121 [a0, a1, a2, a3, a4] st μ G = ev 40 122 [a0, a1, a2, a3, a4] (vI (1) :: st) μ G := ev_stp pg_40_121 rfl
theorem pg_40_122 : mm_prog 40 122 = some (0, .iadd, 123, []) := by decide +kernel
theorem xe_40_122 (a0 a1 a2 a3 a4 : Option MV) (x y : Int) (st : List MV) (μ : MM) (G : MG) : ev 40 122 [a0, a1, a2, a3, a4] (vI y :: vI x :: st) μ G = ev 40 123 [a0, a1, a2, a3, a4] (vI (w32 (x + y)) :: st) μ G := ev_stp pg_40_122 rfl
theorem pg_40_123 : mm_prog 40 123 = some (0, .putfield 29, 126, [5, 4, 0]) := by decide +kernel
theorem xe_40_123 (a0 a1 a2 a3 a4 : Option MV) (x y : Int) (st : List MV) (μ : MM) (G : MG) : ev 40 123 [a0, a1, a2, a3, a4] (vI x :: vR y :: st) μ G = if gk G y = 5 then ev 40 126 [a0, a1, a2, a3, a4] st (mset μ y 4 x) G else none := ev_put0 pg_40_123
theorem pg_40_126 : mm_prog 40 126 = some (2, .return_, 127, []) := by decide +kernel
theorem xe_40_126 (a0 a1 a2 a3 a4 : Option MV) (μ : MM) (G : MG) : ev 40 126 [a0, a1, a2, a3, a4] [] μ G = some (none, μ, G) := ev_ret pg_40_126 rfl
-- X6_init
theorem pg_41_0 : mm_prog 41 0 = some (0, .aload_n 0, 1, []) := by decide +kernel
theorem xe_41_0 (a1 : Option MV) (x : Int) (st : List MV) (μ : MM) (G : MG) : ev 41 0 [some (vR x), a1] st μ G = ev 41 1 [some (vR x), a1] (vR x :: st) μ G := ev_stp pg_41_0 rfl
theorem pg_41_1 : mm_prog 41 1 = some (0, .invokespecial 3, 4, []) := by decide +kernel
theorem xe_41_1 (a0 a1 : Option MV) (x : Int) (st : List MV) (μ : MM) (G : MG) : ev 41 1 [a0, a1] (vR x :: st) μ G = if 10 ≤ x ∧ mm_cats st ≤ 8 then ev 41 4 [a0, a1] st μ G else none := ev_if pg_41_1 rfl
theorem pg_41_4 : mm_prog 41 4 = some (0, .aload_n 0, 5, []) := by decide +kernel
theorem xe_41_4 (a1 : Option MV) (x : Int) (st : List MV) (μ : MM) (G : MG) : ev 41 4 [some (vR x), a1] st μ G = ev 41 5 [some (vR x), a1] (vR x :: st) μ G := ev_stp pg_41_4 rfl
theorem pg_41_5 : mm_prog 41 5 = some (0, .new 9, 8, [0, 2]) := by decide +kernel
theorem xe_41_5 (a0 a1 : Option MV) (st : List MV) (μ : MM) (G : MG) : ev 41 5 [a0, a1] st μ G = ev 41 8 [a0, a1] (vR G.2.1 :: st) (mzero μ G.2.1) (gnew G 0 0 2) := ev_stp pg_41_5 rfl
theorem pg_41_8 : mm_prog 41 8 = some (0, .dup, 9, []) := by decide +kernel
theorem xe_41_8 (a0 a1 : Option MV) (x : Int) (st : List MV) (μ : MM) (G : MG) : ev 41 8 [a0, a1] (vR x :: st) μ G = ev 41 9 [a0, a1] (vR x :: vR x :: st) μ G := ev_stp pg_41_8 rfl
theorem pg_41_9 : mm_prog 41 9 = some (1, .invokespecial 11, 12, [1, 0, 0, 0]) := by decide +kernel
theorem xe_41_9 (a0 a1 : Option MV) (z r0 r1 : Int) (μ : MM) (G : MG) : ev 41 9 [a0, a1] (vR z :: [vR r0, vR r1]) μ G = if gk G z = 0 ∧ 0 < z then (ev 0 0 [some (vR z)] [] μ G).bind (fun q => ev 41 12 [a0, a1] (q.1.toList ++ [vR r0, vR r1]) q.2.1 q.2.2) else none := ev_calV (as := [vR z]) (r := [vR r0, vR r1]) mx_0 pg_41_9 rfl rfl (Nat.le_of_ble_eq_true rfl) (Nat.le_of_ble_eq_true rfl)
theorem pg_41_12 : mm_prog 41 12 = some (0, .putfield 12, 15, [6, 0, 2]) := by decide +kernel
theorem xe_41_12 (a0 a1 : Option MV) (x y : Int) (st : List MV) (μ : MM) (G : MG) : ev 41 12 [a0, a1] (vR x :: vR y :: st) μ G = if gk G y = 6 then ev 41 15 [a0, a1] st (mset μ y 0 x) G else none := ev_put2 pg_41_12
theorem pg_41_15 : mm_prog 41 15 = some (0, .aload_n 0, 16, []) := by decide +kernel
theorem xe_41_15 (a1 : Option MV) (x : Int) (st : List MV) (μ : MM) (G : MG) : ev 41 15 [some (vR x), a1] st μ G = ev 41 16 [some (vR x), a1] (vR x :: st) μ G := ev_stp pg_41_15 rfl
theorem pg_41_16 : mm_prog 41 16 = some (0, .bipush 22, 18, []) := by decide +kernel
theorem xe_41_16 (a0 a1 : Option MV) (st : List MV) (μ : MM) (G : MG) : ev 41 16 [a0, a1] st μ G = ev 41 18 [a0, a1] (vI (22) :: st) μ G := ev_stp pg_41_16 rfl
theorem pg_41_18 : mm_prog 41 18 = some (0, .anewarray 18, 21, [103]) := by decide +kernel
theorem xe_41_18 (a0 a1 : Option MV) (x : Int) (st : List MV) (μ : MM) (G : MG) : ev 41 18 [a0, a1] (vI x :: st) μ G = if 0 ≤ x ∧ x ≤ 100000 then ev 41 21 [a0, a1] (vR G.2.1 :: st) (mzero μ G.2.1) (gnew G 103 x x) else none := ev_if pg_41_18 rfl
theorem pg_41_21 : mm_prog 41 21 = some (0, .putfield 20, 24, [6, 1, 2]) := by decide +kernel
theorem xe_41_21 (a0 a1 : Option MV) (x y : Int) (st : List MV) (μ : MM) (G : MG) : ev 41 21 [a0, a1] (vR x :: vR y :: st) μ G = if gk G y = 6 then ev 41 24 [a0, a1] st (mset μ y 1 x) G else none := ev_put2 pg_41_21
theorem pg_41_24 : mm_prog 41 24 = some (0, .aload_n 0, 25, []) := by decide +kernel
theorem xe_41_24 (a1 : Option MV) (x : Int) (st : List MV) (μ : MM) (G : MG) : ev 41 24 [some (vR x), a1] st μ G = ev 41 25 [some (vR x), a1] (vR x :: st) μ G := ev_stp pg_41_24 rfl
theorem pg_41_25 : mm_prog 41 25 = some (0, .sipush 384, 28, []) := by decide +kernel
theorem xe_41_25 (a0 a1 : Option MV) (st : List MV) (μ : MM) (G : MG) : ev 41 25 [a0, a1] st μ G = ev 41 28 [a0, a1] (vI (384) :: st) μ G := ev_stp pg_41_25 rfl
theorem pg_41_28 : mm_prog 41 28 = some (0, .newarray .int, 30, [100]) := by decide +kernel
theorem xe_41_28 (a0 a1 : Option MV) (x : Int) (st : List MV) (μ : MM) (G : MG) : ev 41 28 [a0, a1] (vI x :: st) μ G = if 0 ≤ x ∧ x ≤ 100000 then ev 41 30 [a0, a1] (vR G.2.1 :: st) (mzero μ G.2.1) (gnew G 100 x x) else none := ev_if pg_41_28 rfl
theorem pg_41_30 : mm_prog 41 30 = some (0, .putfield 24, 33, [6, 2, 2]) := by decide +kernel
theorem xe_41_30 (a0 a1 : Option MV) (x y : Int) (st : List MV) (μ : MM) (G : MG) : ev 41 30 [a0, a1] (vR x :: vR y :: st) μ G = if gk G y = 6 then ev 41 33 [a0, a1] st (mset μ y 2 x) G else none := ev_put2 pg_41_30
theorem pg_41_33 : mm_prog 41 33 = some (0, .aload_n 0, 34, []) := by decide +kernel
theorem xe_41_33 (a1 : Option MV) (x : Int) (st : List MV) (μ : MM) (G : MG) : ev 41 33 [some (vR x), a1] st μ G = ev 41 34 [some (vR x), a1] (vR x :: st) μ G := ev_stp pg_41_33 rfl
theorem pg_41_34 : mm_prog 41 34 = some (0, .bipush 13, 36, []) := by decide +kernel
theorem xe_41_34 (a0 a1 : Option MV) (st : List MV) (μ : MM) (G : MG) : ev 41 34 [a0, a1] st μ G = ev 41 36 [a0, a1] (vI (13) :: st) μ G := ev_stp pg_41_34 rfl
theorem pg_41_36 : mm_prog 41 36 = some (0, .newarray .int, 38, [100]) := by decide +kernel
theorem xe_41_36 (a0 a1 : Option MV) (x : Int) (st : List MV) (μ : MM) (G : MG) : ev 41 36 [a0, a1] (vI x :: st) μ G = if 0 ≤ x ∧ x ≤ 100000 then ev 41 38 [a0, a1] (vR G.2.1 :: st) (mzero μ G.2.1) (gnew G 100 x x) else none := ev_if pg_41_36 rfl
theorem pg_41_38 : mm_prog 41 38 = some (0, .putfield 28, 41, [6, 3, 2]) := by decide +kernel
theorem xe_41_38 (a0 a1 : Option MV) (x y : Int) (st : List MV) (μ : MM) (G : MG) : ev 41 38 [a0, a1] (vR x :: vR y :: st) μ G = if gk G y = 6 then ev 41 41 [a0, a1] st (mset μ y 3 x) G else none := ev_put2 pg_41_38
theorem pg_41_41 : mm_prog 41 41 = some (0, .aload_n 0, 42, []) := by decide +kernel
theorem xe_41_41 (a1 : Option MV) (x : Int) (st : List MV) (μ : MM) (G : MG) : ev 41 41 [some (vR x), a1] st μ G = ev 41 42 [some (vR x), a1] (vR x :: st) μ G := ev_stp pg_41_41 rfl
theorem pg_41_42 : mm_prog 41 42 = some (0, .iconst 5, 43, []) := by decide +kernel
theorem xe_41_42 (a0 a1 : Option MV) (st : List MV) (μ : MM) (G : MG) : ev 41 42 [a0, a1] st μ G = ev 41 43 [a0, a1] (vI (5) :: st) μ G := ev_stp pg_41_42 rfl
theorem pg_41_43 : mm_prog 41 43 = some (0, .newarray .int, 45, [100]) := by decide +kernel
theorem xe_41_43 (a0 a1 : Option MV) (x : Int) (st : List MV) (μ : MM) (G : MG) : ev 41 43 [a0, a1] (vI x :: st) μ G = if 0 ≤ x ∧ x ≤ 100000 then ev 41 45 [a0, a1] (vR G.2.1 :: st) (mzero μ G.2.1) (gnew G 100 x x) else none := ev_if pg_41_43 rfl
theorem pg_41_45 : mm_prog 41 45 = some (0, .putfield 31, 48, [6, 4, 2]) := by decide +kernel
theorem xe_41_45 (a0 a1 : Option MV) (x y : Int) (st : List MV) (μ : MM) (G : MG) : ev 41 45 [a0, a1] (vR x :: vR y :: st) μ G = if gk G y = 6 then ev 41 48 [a0, a1] st (mset μ y 4 x) G else none := ev_put2 pg_41_45
theorem pg_41_48 : mm_prog 41 48 = some (0, .iconst 0, 49, []) := by decide +kernel
theorem xe_41_48 (a0 a1 : Option MV) (st : List MV) (μ : MM) (G : MG) : ev 41 48 [a0, a1] st μ G = ev 41 49 [a0, a1] (vI (0) :: st) μ G := ev_stp pg_41_48 rfl
theorem pg_41_49 : mm_prog 41 49 = some (0, .istore_n 1, 50, []) := by decide +kernel
theorem xe_41_49 (a0 a1 : Option MV) (x : Int) (st : List MV) (μ : MM) (G : MG) (h : mm_nL a0 = true) : ev 41 49 [a0, a1] (vI x :: st) μ G = ev 41 50 [a0, some (vI x)] st μ G := ev_st pg_41_49 rfl (mm_nl_of h) (Nat.le_of_ble_eq_true rfl)
theorem pg_41_50 : mm_prog 41 50 = some (0, .iload_n 1, 51, []) := by decide +kernel
theorem xe_41_50 (a0 : Option MV) (x : Int) (st : List MV) (μ : MM) (G : MG) : ev 41 50 [a0, some (vI x)] st μ G = ev 41 51 [a0, some (vI x)] (vI x :: st) μ G := ev_stp pg_41_50 rfl
theorem pg_41_51 : mm_prog 41 51 = some (0, .aload_n 0, 52, []) := by decide +kernel
theorem xe_41_51 (a1 : Option MV) (x : Int) (st : List MV) (μ : MM) (G : MG) : ev 41 51 [some (vR x), a1] st μ G = ev 41 52 [some (vR x), a1] (vR x :: st) μ G := ev_stp pg_41_51 rfl
theorem pg_41_52 : mm_prog 41 52 = some (0, .getfield 20, 55, [6, 1, 2]) := by decide +kernel
theorem xe_41_52 (a0 a1 : Option MV) (x : Int) (st : List MV) (μ : MM) (G : MG) : ev 41 52 [a0, a1] (vR x :: st) μ G = if gk G x = 6 then ev 41 55 [a0, a1] (vR (μ x 1) :: st) μ G else none := ev_if pg_41_52 rfl
theorem pg_41_55 : mm_prog 41 55 = some (0, .arraylength, 56, []) := by decide +kernel
theorem xe_41_55 (a0 a1 : Option MV) (x : Int) (st : List MV) (μ : MM) (G : MG) : ev 41 55 [a0, a1] (vR x :: st) μ G = if 100 ≤ gk G x then ev 41 56 [a0, a1] (vI (gl G x) :: st) μ G else none := ev_if pg_41_55 rfl
theorem pg_41_56 : mm_prog 41 56 = some (0, .if_icmp .ge 22, 59, []) := by decide +kernel
theorem xe_41_56 (a0 a1 : Option MV) (x y : Int) (st : List MV) (μ : MM) (G : MG) : ev 41 56 [a0, a1] (vI y :: vI x :: st) μ G = if y ≤ x then ev 41 78 [a0, a1] st μ G else ev 41 59 [a0, a1] st μ G := ev_br (mm_cnd_ge x y) pg_41_56 rfl
theorem pg_41_59 : mm_prog 41 59 = some (0, .aload_n 0, 60, []) := by decide +kernel
theorem xe_41_59 (a1 : Option MV) (x : Int) (st : List MV) (μ : MM) (G : MG) : ev 41 59 [some (vR x), a1] st μ G = ev 41 60 [some (vR x), a1] (vR x :: st) μ G := ev_stp pg_41_59 rfl
theorem pg_41_60 : mm_prog 41 60 = some (0, .getfield 20, 63, [6, 1, 2]) := by decide +kernel
theorem xe_41_60 (a0 a1 : Option MV) (x : Int) (st : List MV) (μ : MM) (G : MG) : ev 41 60 [a0, a1] (vR x :: st) μ G = if gk G x = 6 then ev 41 63 [a0, a1] (vR (μ x 1) :: st) μ G else none := ev_if pg_41_60 rfl
theorem pg_41_63 : mm_prog 41 63 = some (0, .iload_n 1, 64, []) := by decide +kernel
theorem xe_41_63 (a0 : Option MV) (x : Int) (st : List MV) (μ : MM) (G : MG) : ev 41 63 [a0, some (vI x)] st μ G = ev 41 64 [a0, some (vI x)] (vI x :: st) μ G := ev_stp pg_41_63 rfl
theorem pg_41_64 : mm_prog 41 64 = some (0, .new 18, 67, [7, 10]) := by decide +kernel
theorem xe_41_64 (a0 a1 : Option MV) (st : List MV) (μ : MM) (G : MG) : ev 41 64 [a0, a1] st μ G = ev 41 67 [a0, a1] (vR G.2.1 :: st) (mzero μ G.2.1) (gnew G 7 0 10) := ev_stp pg_41_64 rfl
theorem pg_41_67 : mm_prog 41 67 = some (0, .dup, 68, []) := by decide +kernel
theorem xe_41_67 (a0 a1 : Option MV) (x : Int) (st : List MV) (μ : MM) (G : MG) : ev 41 67 [a0, a1] (vR x :: st) μ G = ev 41 68 [a0, a1] (vR x :: vR x :: st) μ G := ev_stp pg_41_67 rfl
theorem pg_41_68 : mm_prog 41 68 = some (1, .invokespecial 34, 71, [1, 59, 0, 7]) := by decide +kernel
theorem xe_41_68 (a0 a1 : Option MV) (z r0 r1 r2 : Int) (μ : MM) (G : MG) : ev 41 68 [a0, a1] (vR z :: [vR r0, vI r1, vR r2]) μ G = if gk G z = 7 ∧ 0 < z then (ev 59 0 [some (vR z)] [] μ G).bind (fun q => ev 41 71 [a0, a1] (q.1.toList ++ [vR r0, vI r1, vR r2]) q.2.1 q.2.2) else none := ev_calV (as := [vR z]) (r := [vR r0, vI r1, vR r2]) mx_59 pg_41_68 rfl rfl (Nat.le_of_ble_eq_true rfl) (Nat.le_of_ble_eq_true rfl)
theorem pg_41_71 : mm_prog 41 71 = some (0, .aastore, 72, [103, 7]) := by decide +kernel
theorem xe_41_71 (a0 a1 : Option MV) (x y z : Int) (st : List MV) (μ : MM) (G : MG) : ev 41 71 [a0, a1] (vR x :: vI y :: vR z :: st) μ G = if gk G z = 103 ∧ 0 ≤ y ∧ y < gl G z ∧ 10 ≤ z ∧ gk G x = 7 ∧ 0 < x then ev 41 72 [a0, a1] st (mset μ z y x) G else none := ev_if pg_41_71 rfl
theorem pg_41_72 : mm_prog 41 72 = some (0, .iinc 1 1, 75, []) := by decide +kernel
theorem xe_41_72 (a0 : Option MV) (x : Int) (st : List MV) (μ : MM) (G : MG) (h : mm_nL a0 = true) : ev 41 72 [a0, some (vI x)] st μ G = ev 41 75 [a0, some (vI (w32 (x + (1))))] st μ G := ev_st pg_41_72 rfl (mm_nl_of h) (Nat.le_of_ble_eq_true rfl)
theorem pg_41_75 : mm_prog 41 75 = some (0, .goto (-25), 78, []) := by decide +kernel
theorem xe_41_75 (a0 a1 : Option MV) (st : List MV) (μ : MM) (G : MG) : ev 41 75 [a0, a1] st μ G = ev 41 50 [a0, a1] st μ G := ev_stp pg_41_75 rfl
theorem pg_41_78 : mm_prog 41 78 = some (2, .return_, 79, []) := by decide +kernel
theorem xe_41_78 (a0 a1 : Option MV) (μ : MM) (G : MG) : ev 41 78 [a0, a1] [] μ G = some (none, μ, G) := ev_ret pg_41_78 rfl
-- X6_read
theorem pg_42_0 : mm_prog 42 0 = some (0, .aload_n 0, 1, []) := by decide +kernel
theorem xe_42_0 (a1 a2 a3 : Option MV) (x : Int) (st : List MV) (μ : MM) (G : MG) : ev 42 0 [some (vR x), a1, a2, a3] st μ G = ev 42 1 [some (vR x), a1, a2, a3] (vR x :: st) μ G := ev_stp pg_42_0 rfl
theorem pg_42_1 : mm_prog 42 1 = some (0, .getfield 12, 4, [6, 0, 2]) := by decide +kernel
theorem xe_42_1 (a0 a1 a2 a3 : Option MV) (x : Int) (st : List MV) (μ : MM) (G : MG) : ev 42 1 [a0, a1, a2, a3] (vR x :: st) μ G = if gk G x = 6 then ev 42 4 [a0, a1, a2, a3] (vR (μ x 0) :: st) μ G else none := ev_if pg_42_1 rfl
theorem pg_42_4 : mm_prog 42 4 = some (0, .aload_n 1, 5, []) := by decide +kernel
theorem xe_42_4 (a0 a2 a3 : Option MV) (x : Int) (st : List MV) (μ : MM) (G : MG) : ev 42 4 [a0, some (vR x), a2, a3] st μ G = ev 42 5 [a0, some (vR x), a2, a3] (vR x :: st) μ G := ev_stp pg_42_4 rfl
theorem pg_42_5 : mm_prog 42 5 = some (0, .aload_n 1, 6, []) := by decide +kernel
theorem xe_42_5 (a0 a2 a3 : Option MV) (x : Int) (st : List MV) (μ : MM) (G : MG) : ev 42 5 [a0, some (vR x), a2, a3] st μ G = ev 42 6 [a0, some (vR x), a2, a3] (vR x :: st) μ G := ev_stp pg_42_5 rfl
theorem pg_42_6 : mm_prog 42 6 = some (0, .getfield 35, 9, [0, 1, 0]) := by decide +kernel
theorem xe_42_6 (a0 a1 a2 a3 : Option MV) (x : Int) (st : List MV) (μ : MM) (G : MG) : ev 42 6 [a0, a1, a2, a3] (vR x :: st) μ G = if gk G x = 0 then ev 42 9 [a0, a1, a2, a3] (vI (μ x 1) :: st) μ G else none := ev_if pg_42_6 rfl
theorem pg_42_9 : mm_prog 42 9 = some (1, .invokevirtual 39, 12, [1, 4, 2, 0]) := by decide +kernel
theorem xe_42_9 (a0 a1 a2 a3 : Option MV) (x0 x1 z : Int) (μ : MM) (G : MG) : ev 42 9 [a0, a1, a2, a3] (vI x1 :: vR x0 :: vR z :: []) μ G = if gk G z = 0 ∧ 0 < z then (ev 4 0 [some (vR z), some (vR x0), some (vI x1)] [] μ G).bind (fun q => ev 42 12 [a0, a1, a2, a3] (q.1.toList ++ []) q.2.1 q.2.2) else none := ev_calV (as := [vR z, vR x0, vI x1]) (r := []) mx_4 pg_42_9 rfl rfl (Nat.le_of_ble_eq_true rfl) (Nat.le_of_ble_eq_true rfl)
theorem pg_42_12 : mm_prog 42 12 = some (0, .aload_n 0, 13, []) := by decide +kernel
theorem xe_42_12 (a1 a2 a3 : Option MV) (x : Int) (st : List MV) (μ : MM) (G : MG) : ev 42 12 [some (vR x), a1, a2, a3] st μ G = ev 42 13 [some (vR x), a1, a2, a3] (vR x :: st) μ G := ev_stp pg_42_12 rfl
theorem pg_42_13 : mm_prog 42 13 = some (0, .aload_n 0, 14, []) := by decide +kernel
theorem xe_42_13 (a1 a2 a3 : Option MV) (x : Int) (st : List MV) (μ : MM) (G : MG) : ev 42 13 [some (vR x), a1, a2, a3] st μ G = ev 42 14 [some (vR x), a1, a2, a3] (vR x :: st) μ G := ev_stp pg_42_13 rfl
theorem pg_42_14 : mm_prog 42 14 = some (0, .getfield 12, 17, [6, 0, 2]) := by decide +kernel
theorem xe_42_14 (a0 a1 a2 a3 : Option MV) (x : Int) (st : List MV) (μ : MM) (G : MG) : ev 42 14 [a0, a1, a2, a3] (vR x :: st) μ G = if gk G x = 6 then ev 42 17 [a0, a1, a2, a3] (vR (μ x 0) :: st) μ G else none := ev_if pg_42_14 rfl
theorem pg_42_17 : mm_prog 42 17 = some (0, .getfield 35, 20, [0, 1, 0]) := by decide +kernel
theorem xe_42_17 (a0 a1 a2 a3 : Option MV) (x : Int) (st : List MV) (μ : MM) (G : MG) : ev 42 17 [a0, a1, a2, a3] (vR x :: st) μ G = if gk G x = 0 then ev 42 20 [a0, a1, a2, a3] (vI (μ x 1) :: st) μ G else none := ev_if pg_42_17 rfl
theorem pg_42_20 : mm_prog 42 20 = some (0, .sipush 128, 23, []) := by decide +kernel
theorem xe_42_20 (a0 a1 a2 a3 : Option MV) (st : List MV) (μ : MM) (G : MG) : ev 42 20 [a0, a1, a2, a3] st μ G = ev 42 23 [a0, a1, a2, a3] (vI (128) :: st) μ G := ev_stp pg_42_20 rfl
theorem pg_42_23 : mm_prog 42 23 = some (0, .idiv, 24, []) := by decide +kernel
theorem xe_42_23 (a0 a1 a2 a3 : Option MV) (x y : Int) (st : List MV) (μ : MM) (G : MG) : ev 42 23 [a0, a1, a2, a3] (vI y :: vI x :: st) μ G = if y = 0 then none else ev 42 24 [a0, a1, a2, a3] (vI (mm_div x y) :: st) μ G := ev_no pg_42_23 rfl
theorem pg_42_24 : mm_prog 42 24 = some (0, .putfield 43, 27, [6, 5, 0]) := by decide +kernel
theorem xe_42_24 (a0 a1 a2 a3 : Option MV) (x y : Int) (st : List MV) (μ : MM) (G : MG) : ev 42 24 [a0, a1, a2, a3] (vI x :: vR y :: st) μ G = if gk G y = 6 then ev 42 27 [a0, a1, a2, a3] st (mset μ y 5 x) G else none := ev_put0 pg_42_24
theorem pg_42_27 : mm_prog 42 27 = some (0, .aload_n 0, 28, []) := by decide +kernel
theorem xe_42_27 (a1 a2 a3 : Option MV) (x : Int) (st : List MV) (μ : MM) (G : MG) : ev 42 27 [some (vR x), a1, a2, a3] st μ G = ev 42 28 [some (vR x), a1, a2, a3] (vR x :: st) μ G := ev_stp pg_42_27 rfl
theorem pg_42_28 : mm_prog 42 28 = some (0, .iconst 0, 29, []) := by decide +kernel
theorem xe_42_28 (a0 a1 a2 a3 : Option MV) (st : List MV) (μ : MM) (G : MG) : ev 42 28 [a0, a1, a2, a3] st μ G = ev 42 29 [a0, a1, a2, a3] (vI (0) :: st) μ G := ev_stp pg_42_28 rfl
theorem pg_42_29 : mm_prog 42 29 = some (0, .putfield 46, 32, [6, 6, 0]) := by decide +kernel
theorem xe_42_29 (a0 a1 a2 a3 : Option MV) (x y : Int) (st : List MV) (μ : MM) (G : MG) : ev 42 29 [a0, a1, a2, a3] (vI x :: vR y :: st) μ G = if gk G y = 6 then ev 42 32 [a0, a1, a2, a3] st (mset μ y 6 x) G else none := ev_put0 pg_42_29
theorem pg_42_32 : mm_prog 42 32 = some (0, .aload_n 0, 33, []) := by decide +kernel
theorem xe_42_32 (a1 a2 a3 : Option MV) (x : Int) (st : List MV) (μ : MM) (G : MG) : ev 42 32 [some (vR x), a1, a2, a3] st μ G = ev 42 33 [some (vR x), a1, a2, a3] (vR x :: st) μ G := ev_stp pg_42_32 rfl
theorem pg_42_33 : mm_prog 42 33 = some (0, .iconst 0, 34, []) := by decide +kernel
theorem xe_42_33 (a0 a1 a2 a3 : Option MV) (st : List MV) (μ : MM) (G : MG) : ev 42 33 [a0, a1, a2, a3] st μ G = ev 42 34 [a0, a1, a2, a3] (vI (0) :: st) μ G := ev_stp pg_42_33 rfl
theorem pg_42_34 : mm_prog 42 34 = some (0, .putfield 49, 37, [6, 8, 0]) := by decide +kernel
theorem xe_42_34 (a0 a1 a2 a3 : Option MV) (x y : Int) (st : List MV) (μ : MM) (G : MG) : ev 42 34 [a0, a1, a2, a3] (vI x :: vR y :: st) μ G = if gk G y = 6 then ev 42 37 [a0, a1, a2, a3] st (mset μ y 8 x) G else none := ev_put0 pg_42_34
theorem pg_42_37 : mm_prog 42 37 = some (0, .aload_n 0, 38, []) := by decide +kernel
theorem xe_42_37 (a1 a2 a3 : Option MV) (x : Int) (st : List MV) (μ : MM) (G : MG) : ev 42 37 [some (vR x), a1, a2, a3] st μ G = ev 42 38 [some (vR x), a1, a2, a3] (vR x :: st) μ G := ev_stp pg_42_37 rfl
theorem pg_42_38 : mm_prog 42 38 = some (0, .iconst 0, 39, []) := by decide +kernel
theorem xe_42_38 (a0 a1 a2 a3 : Option MV) (st : List MV) (μ : MM) (G : MG) : ev 42 38 [a0, a1, a2, a3] st μ G = ev 42 39 [a0, a1, a2, a3] (vI (0) :: st) μ G := ev_stp pg_42_38 rfl
theorem pg_42_39 : mm_prog 42 39 = some (0, .putfield 52, 42, [6, 9, 0]) := by decide +kernel
theorem xe_42_39 (a0 a1 a2 a3 : Option MV) (x y : Int) (st : List MV) (μ : MM) (G : MG) : ev 42 39 [a0, a1, a2, a3] (vI x :: vR y :: st) μ G = if gk G y = 6 then ev 42 42 [a0, a1, a2, a3] st (mset μ y 9 x) G else none := ev_put0 pg_42_39
theorem pg_42_42 : mm_prog 42 42 = some (0, .aload_n 0, 43, []) := by decide +kernel
theorem xe_42_42 (a1 a2 a3 : Option MV) (x : Int) (st : List MV) (μ : MM) (G : MG) : ev 42 42 [some (vR x), a1, a2, a3] st μ G = ev 42 43 [some (vR x), a1, a2, a3] (vR x :: st) μ G := ev_stp pg_42_42 rfl
theorem pg_42_43 : mm_prog 42 43 = some (0, .iconst 0, 44, []) := by decide +kernel
theorem xe_42_43 (a0 a1 a2 a3 : Option MV) (st : List MV) (μ : MM) (G : MG) : ev 42 43 [a0, a1, a2, a3] st μ G = ev 42 44 [a0, a1, a2, a3] (vI (0) :: st) μ G := ev_stp pg_42_43 rfl
theorem pg_42_44 : mm_prog 42 44 = some (0, .putfield 55, 47, [6, 10, 0]) := by decide +kernel
theorem xe_42_44 (a0 a1 a2 a3 : Option MV) (x y : Int) (st : List MV) (μ : MM) (G : MG) : ev 42 44 [a0, a1, a2, a3] (vI x :: vR y :: st) μ G = if gk G y = 6 then ev 42 47 [a0, a1, a2, a3] st (mset μ y 10 x) G else none := ev_put0 pg_42_44
theorem pg_42_47 : mm_prog 42 47 = some (0, .aload_n 0, 48, []) := by decide +kernel
theorem xe_42_47 (a1 a2 a3 : Option MV) (x : Int) (st : List MV) (μ : MM) (G : MG) : ev 42 47 [some (vR x), a1, a2, a3] st μ G = ev 42 48 [some (vR x), a1, a2, a3] (vR x :: st) μ G := ev_stp pg_42_47 rfl
theorem pg_42_48 : mm_prog 42 48 = some (0, .iconst 0, 49, []) := by decide +kernel
theorem xe_42_48 (a0 a1 a2 a3 : Option MV) (st : List MV) (μ : MM) (G : MG) : ev 42 48 [a0, a1, a2, a3] st μ G = ev 42 49 [a0, a1, a2, a3] (vI (0) :: st) μ G := ev_stp pg_42_48 rfl
theorem pg_42_49 : mm_prog 42 49 = some (0, .putfield 58, 52, [6, 11, 0]) := by decide +kernel
theorem xe_42_49 (a0 a1 a2 a3 : Option MV) (x y : Int) (st : List MV) (μ : MM) (G : MG) : ev 42 49 [a0, a1, a2, a3] (vI x :: vR y :: st) μ G = if gk G y = 6 then ev 42 52 [a0, a1, a2, a3] st (mset μ y 11 x) G else none := ev_put0 pg_42_49
theorem pg_42_52 : mm_prog 42 52 = some (0, .aload_n 0, 53, []) := by decide +kernel
theorem xe_42_52 (a1 a2 a3 : Option MV) (x : Int) (st : List MV) (μ : MM) (G : MG) : ev 42 52 [some (vR x), a1, a2, a3] st μ G = ev 42 53 [some (vR x), a1, a2, a3] (vR x :: st) μ G := ev_stp pg_42_52 rfl
theorem pg_42_53 : mm_prog 42 53 = some (0, .iconst 0, 54, []) := by decide +kernel
theorem xe_42_53 (a0 a1 a2 a3 : Option MV) (st : List MV) (μ : MM) (G : MG) : ev 42 53 [a0, a1, a2, a3] st μ G = ev 42 54 [a0, a1, a2, a3] (vI (0) :: st) μ G := ev_stp pg_42_53 rfl
theorem pg_42_54 : mm_prog 42 54 = some (0, .putfield 61, 57, [6, 12, 1]) := by decide +kernel
theorem xe_42_54 (a0 a1 a2 a3 : Option MV) (x y : Int) (st : List MV) (μ : MM) (G : MG) : ev 42 54 [a0, a1, a2, a3] (vI x :: vR y :: st) μ G = if gk G y = 6 ∧ (x = 0 ∨ x = 1) then ev 42 57 [a0, a1, a2, a3] st (mset μ y 12 x) G else none := ev_put1 pg_42_54
theorem pg_42_57 : mm_prog 42 57 = some (0, .iconst 0, 58, []) := by decide +kernel
theorem xe_42_57 (a0 a1 a2 a3 : Option MV) (st : List MV) (μ : MM) (G : MG) : ev 42 57 [a0, a1, a2, a3] st μ G = ev 42 58 [a0, a1, a2, a3] (vI (0) :: st) μ G := ev_stp pg_42_57 rfl
theorem pg_42_58 : mm_prog 42 58 = some (0, .istore_n 2, 59, []) := by decide +kernel
theorem xe_42_58 (a0 a1 a2 a3 : Option MV) (x : Int) (st : List MV) (μ : MM) (G : MG) (h : mm_nL a1 = true) : ev 42 58 [a0, a1, a2, a3] (vI x :: st) μ G = ev 42 59 [a0, a1, some (vI x), a3] st μ G := ev_st pg_42_58 rfl (mm_nl_of h) (Nat.le_of_ble_eq_true rfl)
theorem pg_42_59 : mm_prog 42 59 = some (0, .iload_n 2, 60, []) := by decide +kernel
theorem xe_42_59 (a0 a1 a3 : Option MV) (x : Int) (st : List MV) (μ : MM) (G : MG) : ev 42 59 [a0, a1, some (vI x), a3] st μ G = ev 42 60 [a0, a1, some (vI x), a3] (vI x :: st) μ G := ev_stp pg_42_59 rfl
theorem pg_42_60 : mm_prog 42 60 = some (0, .iconst 4, 61, []) := by decide +kernel
theorem xe_42_60 (a0 a1 a2 a3 : Option MV) (st : List MV) (μ : MM) (G : MG) : ev 42 60 [a0, a1, a2, a3] st μ G = ev 42 61 [a0, a1, a2, a3] (vI (4) :: st) μ G := ev_stp pg_42_60 rfl
theorem pg_42_61 : mm_prog 42 61 = some (0, .if_icmp .ge 20, 64, []) := by decide +kernel
theorem xe_42_61 (a0 a1 a2 a3 : Option MV) (x y : Int) (st : List MV) (μ : MM) (G : MG) : ev 42 61 [a0, a1, a2, a3] (vI y :: vI x :: st) μ G = if y ≤ x then ev 42 81 [a0, a1, a2, a3] st μ G else ev 42 64 [a0, a1, a2, a3] st μ G := ev_br (mm_cnd_ge x y) pg_42_61 rfl
theorem pg_42_64 : mm_prog 42 64 = some (0, .aload_n 0, 65, []) := by decide +kernel
theorem xe_42_64 (a1 a2 a3 : Option MV) (x : Int) (st : List MV) (μ : MM) (G : MG) : ev 42 64 [some (vR x), a1, a2, a3] st μ G = ev 42 65 [some (vR x), a1, a2, a3] (vR x :: st) μ G := ev_stp pg_42_64 rfl
theorem pg_42_65 : mm_prog 42 65 = some (0, .bipush 54, 67, []) := by decide +kernel
theorem xe_42_65 (a0 a1 a2 a3 : Option MV) (st : List MV) (μ : MM) (G : MG) : ev 42 65 [a0, a1, a2, a3] st μ G = ev 42 67 [a0, a1, a2, a3] (vI (54) :: st) μ G := ev_stp pg_42_65 rfl
theorem pg_42_67 : mm_prog 42 67 = some (0, .iload_n 2, 68, []) := by decide +kernel
theorem xe_42_67 (a0 a1 a3 : Option MV) (x : Int) (st : List MV) (μ : MM) (G : MG) : ev 42 67 [a0, a1, some (vI x), a3] st μ G = ev 42 68 [a0, a1, some (vI x), a3] (vI x :: st) μ G := ev_stp pg_42_67 rfl
theorem pg_42_68 : mm_prog 42 68 = some (0, .bipush 18, 70, []) := by decide +kernel
theorem xe_42_68 (a0 a1 a2 a3 : Option MV) (st : List MV) (μ : MM) (G : MG) : ev 42 68 [a0, a1, a2, a3] st μ G = ev 42 70 [a0, a1, a2, a3] (vI (18) :: st) μ G := ev_stp pg_42_68 rfl
theorem pg_42_70 : mm_prog 42 70 = some (0, .imul, 71, []) := by decide +kernel
theorem xe_42_70 (a0 a1 a2 a3 : Option MV) (x y : Int) (st : List MV) (μ : MM) (G : MG) : ev 42 70 [a0, a1, a2, a3] (vI y :: vI x :: st) μ G = ev 42 71 [a0, a1, a2, a3] (vI (w32 (x * y)) :: st) μ G := ev_stp pg_42_70 rfl
theorem pg_42_71 : mm_prog 42 71 = some (0, .iadd, 72, []) := by decide +kernel
theorem xe_42_71 (a0 a1 a2 a3 : Option MV) (x y : Int) (st : List MV) (μ : MM) (G : MG) : ev 42 71 [a0, a1, a2, a3] (vI y :: vI x :: st) μ G = ev 42 72 [a0, a1, a2, a3] (vI (w32 (x + y)) :: st) μ G := ev_stp pg_42_71 rfl
theorem pg_42_72 : mm_prog 42 72 = some (1, .invokevirtual 65, 75, [1, 43, 1, 6]) := by decide +kernel
theorem xe_42_72 (a0 a1 a2 a3 : Option MV) (x0 z : Int) (μ : MM) (G : MG) : ev 42 72 [a0, a1, a2, a3] (vI x0 :: vR z :: []) μ G = if gk G z = 6 ∧ 0 < z then (ev 43 0 [some (vR z), some (vI x0)] [] μ G).bind (fun q => ev 42 75 [a0, a1, a2, a3] (q.1.toList ++ []) q.2.1 q.2.2) else none := ev_calV (as := [vR z, vI x0]) (r := []) mx_43 pg_42_72 rfl rfl (Nat.le_of_ble_eq_true rfl) (Nat.le_of_ble_eq_true rfl)
theorem pg_42_75 : mm_prog 42 75 = some (0, .iinc 2 1, 78, []) := by decide +kernel
theorem xe_42_75 (a0 a1 a3 : Option MV) (x : Int) (st : List MV) (μ : MM) (G : MG) (h : mm_nL a1 = true) : ev 42 75 [a0, a1, some (vI x), a3] st μ G = ev 42 78 [a0, a1, some (vI (w32 (x + (1)))), a3] st μ G := ev_st pg_42_75 rfl (mm_nl_of h) (Nat.le_of_ble_eq_true rfl)
theorem pg_42_78 : mm_prog 42 78 = some (0, .goto (-19), 81, []) := by decide +kernel
theorem xe_42_78 (a0 a1 a2 a3 : Option MV) (st : List MV) (μ : MM) (G : MG) : ev 42 78 [a0, a1, a2, a3] st μ G = ev 42 59 [a0, a1, a2, a3] st μ G := ev_stp pg_42_78 rfl
theorem pg_42_81 : mm_prog 42 81 = some (0, .aload_n 0, 82, []) := by decide +kernel
theorem xe_42_81 (a1 a2 a3 : Option MV) (x : Int) (st : List MV) (μ : MM) (G : MG) : ev 42 81 [some (vR x), a1, a2, a3] st μ G = ev 42 82 [some (vR x), a1, a2, a3] (vR x :: st) μ G := ev_stp pg_42_81 rfl
theorem pg_42_82 : mm_prog 42 82 = some (0, .aload_n 0, 83, []) := by decide +kernel
theorem xe_42_82 (a1 a2 a3 : Option MV) (x : Int) (st : List MV) (μ : MM) (G : MG) : ev 42 82 [some (vR x), a1, a2, a3] st μ G = ev 42 83 [some (vR x), a1, a2, a3] (vR x :: st) μ G := ev_stp pg_42_82 rfl
theorem pg_42_83 : mm_prog 42 83 = some (0, .getfield 46, 86, [6, 6, 0]) := by decide +kernel
theorem xe_42_83 (a0 a1 a2 a3 : Option MV) (x : Int) (st : List MV) (μ : MM) (G : MG) : ev 42 83 [a0, a1, a2, a3] (vR x :: st) μ G = if gk G x = 6 then ev 42 86 [a0, a1, a2, a3] (vI (μ x 6) :: st) μ G else none := ev_if pg_42_83 rfl
theorem pg_42_86 : mm_prog 42 86 = some (0, .putfield 69, 89, [6, 7, 0]) := by decide +kernel
theorem xe_42_86 (a0 a1 a2 a3 : Option MV) (x y : Int) (st : List MV) (μ : MM) (G : MG) : ev 42 86 [a0, a1, a2, a3] (vI x :: vR y :: st) μ G = if gk G y = 6 then ev 42 89 [a0, a1, a2, a3] st (mset μ y 7 x) G else none := ev_put0 pg_42_86
theorem pg_42_89 : mm_prog 42 89 = some (0, .iconst 1, 90, []) := by decide +kernel
theorem xe_42_89 (a0 a1 a2 a3 : Option MV) (st : List MV) (μ : MM) (G : MG) : ev 42 89 [a0, a1, a2, a3] st μ G = ev 42 90 [a0, a1, a2, a3] (vI (1) :: st) μ G := ev_stp pg_42_89 rfl
theorem pg_42_90 : mm_prog 42 90 = some (0, .istore_n 2, 91, []) := by decide +kernel
theorem xe_42_90 (a0 a1 a2 a3 : Option MV) (x : Int) (st : List MV) (μ : MM) (G : MG) (h : mm_nL a1 = true) : ev 42 90 [a0, a1, a2, a3] (vI x :: st) μ G = ev 42 91 [a0, a1, some (vI x), a3] st μ G := ev_st pg_42_90 rfl (mm_nl_of h) (Nat.le_of_ble_eq_true rfl)
theorem pg_42_91 : mm_prog 42 91 = some (0, .iload_n 2, 92, []) := by decide +kernel
theorem xe_42_91 (a0 a1 a3 : Option MV) (x : Int) (st : List MV) (μ : MM) (G : MG) : ev 42 91 [a0, a1, some (vI x), a3] st μ G = ev 42 92 [a0, a1, some (vI x), a3] (vI x :: st) μ G := ev_stp pg_42_91 rfl
theorem pg_42_92 : mm_prog 42 92 = some (0, .aload_n 0, 93, []) := by decide +kernel
theorem xe_42_92 (a1 a2 a3 : Option MV) (x : Int) (st : List MV) (μ : MM) (G : MG) : ev 42 92 [some (vR x), a1, a2, a3] st μ G = ev 42 93 [some (vR x), a1, a2, a3] (vR x :: st) μ G := ev_stp pg_42_92 rfl
theorem pg_42_93 : mm_prog 42 93 = some (0, .getfield 43, 96, [6, 5, 0]) := by decide +kernel
theorem xe_42_93 (a0 a1 a2 a3 : Option MV) (x : Int) (st : List MV) (μ : MM) (G : MG) : ev 42 93 [a0, a1, a2, a3] (vR x :: st) μ G = if gk G x = 6 then ev 42 96 [a0, a1, a2, a3] (vI (μ x 5) :: st) μ G else none := ev_if pg_42_93 rfl
theorem pg_42_96 : mm_prog 42 96 = some (0, .if_icmp .ge 45, 99, []) := by decide +kernel
theorem xe_42_96 (a0 a1 a2 a3 : Option MV) (x y : Int) (st : List MV) (μ : MM) (G : MG) : ev 42 96 [a0, a1, a2, a3] (vI y :: vI x :: st) μ G = if y ≤ x then ev 42 141 [a0, a1, a2, a3] st μ G else ev 42 99 [a0, a1, a2, a3] st μ G := ev_br (mm_cnd_ge x y) pg_42_96 rfl
theorem pg_42_99 : mm_prog 42 99 = some (0, .iload_n 2, 100, []) := by decide +kernel
theorem xe_42_99 (a0 a1 a3 : Option MV) (x : Int) (st : List MV) (μ : MM) (G : MG) : ev 42 99 [a0, a1, some (vI x), a3] st μ G = ev 42 100 [a0, a1, some (vI x), a3] (vI x :: st) μ G := ev_stp pg_42_99 rfl
theorem pg_42_100 : mm_prog 42 100 = some (0, .sipush 128, 103, []) := by decide +kernel
theorem xe_42_100 (a0 a1 a2 a3 : Option MV) (st : List MV) (μ : MM) (G : MG) : ev 42 100 [a0, a1, a2, a3] st μ G = ev 42 103 [a0, a1, a2, a3] (vI (128) :: st) μ G := ev_stp pg_42_100 rfl
theorem pg_42_103 : mm_prog 42 103 = some (0, .imul, 104, []) := by decide +kernel
theorem xe_42_103 (a0 a1 a2 a3 : Option MV) (x y : Int) (st : List MV) (μ : MM) (G : MG) : ev 42 103 [a0, a1, a2, a3] (vI y :: vI x :: st) μ G = ev 42 104 [a0, a1, a2, a3] (vI (w32 (x * y)) :: st) μ G := ev_stp pg_42_103 rfl
theorem pg_42_104 : mm_prog 42 104 = some (0, .istore_n 3, 105, []) := by decide +kernel
theorem xe_42_104 (a0 a1 a2 a3 : Option MV) (x : Int) (st : List MV) (μ : MM) (G : MG) (h : mm_nL a2 = true) : ev 42 104 [a0, a1, a2, a3] (vI x :: st) μ G = ev 42 105 [a0, a1, a2, some (vI x)] st μ G := ev_st pg_42_104 rfl (mm_nl_of h) (Nat.le_of_ble_eq_true rfl)
theorem pg_42_105 : mm_prog 42 105 = some (0, .aload_n 0, 106, []) := by decide +kernel
theorem xe_42_105 (a1 a2 a3 : Option MV) (x : Int) (st : List MV) (μ : MM) (G : MG) : ev 42 105 [some (vR x), a1, a2, a3] st μ G = ev 42 106 [some (vR x), a1, a2, a3] (vR x :: st) μ G := ev_stp pg_42_105 rfl
theorem pg_42_106 : mm_prog 42 106 = some (0, .iload_n 3, 107, []) := by decide +kernel
theorem xe_42_106 (a0 a1 a2 : Option MV) (x : Int) (st : List MV) (μ : MM) (G : MG) : ev 42 106 [a0, a1, a2, some (vI x)] st μ G = ev 42 107 [a0, a1, a2, some (vI x)] (vI x :: st) μ G := ev_stp pg_42_106 rfl
theorem pg_42_107 : mm_prog 42 107 = some (0, .aload_n 0, 108, []) := by decide +kernel
theorem xe_42_107 (a1 a2 a3 : Option MV) (x : Int) (st : List MV) (μ : MM) (G : MG) : ev 42 107 [some (vR x), a1, a2, a3] st μ G = ev 42 108 [some (vR x), a1, a2, a3] (vR x :: st) μ G := ev_stp pg_42_107 rfl
theorem pg_42_108 : mm_prog 42 108 = some (0, .getfield 12, 111, [6, 0, 2]) := by decide +kernel
theorem xe_42_108 (a0 a1 a2 a3 : Option MV) (x : Int) (st : List MV) (μ : MM) (G : MG) : ev 42 108 [a0, a1, a2, a3] (vR x :: st) μ G = if gk G x = 6 then ev 42 111 [a0, a1, a2, a3] (vR (μ x 0) :: st) μ G else none := ev_if pg_42_108 rfl
theorem pg_42_111 : mm_prog 42 111 = some (0, .iload_n 3, 112, []) := by decide +kernel
theorem xe_42_111 (a0 a1 a2 : Option MV) (x : Int) (st : List MV) (μ : MM) (G : MG) : ev 42 111 [a0, a1, a2, some (vI x)] st μ G = ev 42 112 [a0, a1, a2, some (vI x)] (vI x :: st) μ G := ev_stp pg_42_111 rfl
theorem pg_42_112 : mm_prog 42 112 = some (0, .iconst 2, 113, []) := by decide +kernel
theorem xe_42_112 (a0 a1 a2 a3 : Option MV) (st : List MV) (μ : MM) (G : MG) : ev 42 112 [a0, a1, a2, a3] st μ G = ev 42 113 [a0, a1, a2, a3] (vI (2) :: st) μ G := ev_stp pg_42_112 rfl
theorem pg_42_113 : mm_prog 42 113 = some (0, .iadd, 114, []) := by decide +kernel
theorem xe_42_113 (a0 a1 a2 a3 : Option MV) (x y : Int) (st : List MV) (μ : MM) (G : MG) : ev 42 113 [a0, a1, a2, a3] (vI y :: vI x :: st) μ G = ev 42 114 [a0, a1, a2, a3] (vI (w32 (x + y)) :: st) μ G := ev_stp pg_42_113 rfl
theorem pg_42_114 : mm_prog 42 114 = some (1, .invokevirtual 72, 117, [1, 3, 1, 0]) := by decide +kernel
theorem xe_42_114 (a0 a1 a2 a3 : Option MV) (x0 z r0 r1 : Int) (μ : MM) (G : MG) : ev 42 114 [a0, a1, a2, a3] (vI x0 :: vR z :: [vI r0, vR r1]) μ G = if gk G z = 0 ∧ 0 < z then (ev 3 0 [some (vR z), some (vI x0)] [] μ G).bind (fun q => ev 42 117 [a0, a1, a2, a3] (q.1.toList ++ [vI r0, vR r1]) q.2.1 q.2.2) else none := ev_calV (as := [vR z, vI x0]) (r := [vI r0, vR r1]) mx_3 pg_42_114 rfl rfl (Nat.le_of_ble_eq_true rfl) (Nat.le_of_ble_eq_true rfl)
theorem pg_42_117 : mm_prog 42 117 = some (1, .invokevirtual 76, 120, [1, 48, 2, 6]) := by decide +kernel
theorem xe_42_117 (a0 a1 a2 a3 : Option MV) (x0 x1 z : Int) (μ : MM) (G : MG) : ev 42 117 [a0, a1, a2, a3] (vI x1 :: vI x0 :: vR z :: []) μ G = if gk G z = 6 ∧ 0 < z then (ev 48 0 [some (vR z), some (vI x0), some (vI x1), none, none, none, none] [] μ G).bind (fun q => ev 42 120 [a0, a1, a2, a3] (q.1.toList ++ []) q.2.1 q.2.2) else none := ev_calV (as := [vR z, vI x0, vI x1]) (r := []) mx_48 pg_42_117 rfl rfl (Nat.le_of_ble_eq_true rfl) (Nat.le_of_ble_eq_true rfl)
theorem pg_42_120 : mm_prog 42 120 = some (0, .aload_n 0, 121, []) := by decide +kernel
theorem xe_42_120 (a1 a2 a3 : Option MV) (x : Int) (st : List MV) (μ : MM) (G : MG) : ev 42 120 [some (vR x), a1, a2, a3] st μ G = ev 42 121 [some (vR x), a1, a2, a3] (vR x :: st) μ G := ev_stp pg_42_120 rfl
theorem pg_42_121 : mm_prog 42 121 = some (0, .iload_n 3, 122, []) := by decide +kernel
theorem xe_42_121 (a0 a1 a2 : Option MV) (x : Int) (st : List MV) (μ : MM) (G : MG) : ev 42 121 [a0, a1, a2, some (vI x)] st μ G = ev 42 122 [a0, a1, a2, some (vI x)] (vI x :: st) μ G := ev_stp pg_42_121 rfl
theorem pg_42_122 : mm_prog 42 122 = some (0, .aload_n 0, 123, []) := by decide +kernel
theorem xe_42_122 (a1 a2 a3 : Option MV) (x : Int) (st : List MV) (μ : MM) (G : MG) : ev 42 122 [some (vR x), a1, a2, a3] st μ G = ev 42 123 [some (vR x), a1, a2, a3] (vR x :: st) μ G := ev_stp pg_42_122 rfl
theorem pg_42_123 : mm_prog 42 123 = some (0, .getfield 12, 126, [6, 0, 2]) := by decide +kernel
theorem xe_42_123 (a0 a1 a2 a3 : Option MV) (x : Int) (st : List MV) (μ : MM) (G : MG) : ev 42 123 [a0, a1, a2, a3] (vR x :: st) μ G = if gk G x = 6 then ev 42 126 [a0, a1, a2, a3] (vR (μ x 0) :: st) μ G else none := ev_if pg_42_123 rfl
theorem pg_42_126 : mm_prog 42 126 = some (0, .iload_n 3, 127, []) := by decide +kernel
theorem xe_42_126 (a0 a1 a2 : Option MV) (x : Int) (st : List MV) (μ : MM) (G : MG) : ev 42 126 [a0, a1, a2, some (vI x)] st μ G = ev 42 127 [a0, a1, a2, some (vI x)] (vI x :: st) μ G := ev_stp pg_42_126 rfl
theorem pg_42_127 : mm_prog 42 127 = some (0, .iconst 2, 128, []) := by decide +kernel
theorem xe_42_127 (a0 a1 a2 a3 : Option MV) (st : List MV) (μ : MM) (G : MG) : ev 42 127 [a0, a1, a2, a3] st μ G = ev 42 128 [a0, a1, a2, a3] (vI (2) :: st) μ G := ev_stp pg_42_127 rfl
theorem pg_42_128 : mm_prog 42 128 = some (0, .iadd, 129, []) := by decide +kernel
theorem xe_42_128 (a0 a1 a2 a3 : Option MV) (x y : Int) (st : List MV) (μ : MM) (G : MG) : ev 42 128 [a0, a1, a2, a3] (vI y :: vI x :: st) μ G = ev 42 129 [a0, a1, a2, a3] (vI (w32 (x + y)) :: st) μ G := ev_stp pg_42_128 rfl
theorem pg_42_129 : mm_prog 42 129 = some (1, .invokevirtual 72, 132, [1, 3, 1, 0]) := by decide +kernel
theorem xe_42_129 (a0 a1 a2 a3 : Option MV) (x0 z r0 r1 : Int) (μ : MM) (G : MG) : ev 42 129 [a0, a1, a2, a3] (vI x0 :: vR z :: [vI r0, vR r1]) μ G = if gk G z = 0 ∧ 0 < z then (ev 3 0 [some (vR z), some (vI x0)] [] μ G).bind (fun q => ev 42 132 [a0, a1, a2, a3] (q.1.toList ++ [vI r0, vR r1]) q.2.1 q.2.2) else none := ev_calV (as := [vR z, vI x0]) (r := [vI r0, vR r1]) mx_3 pg_42_129 rfl rfl (Nat.le_of_ble_eq_true rfl) (Nat.le_of_ble_eq_true rfl)
theorem pg_42_132 : mm_prog 42 132 = some (1, .invokevirtual 80, 135, [1, 51, 2, 6]) := by decide +kernel
theorem xe_42_132 (a0 a1 a2 a3 : Option MV) (x0 x1 z : Int) (μ : MM) (G : MG) : ev 42 132 [a0, a1, a2, a3] (vI x1 :: vI x0 :: vR z :: []) μ G = if gk G z = 6 ∧ 0 < z then (ev 51 0 [some (vR z), some (vI x0), some (vI x1), none] [] μ G).bind (fun q => ev 42 135 [a0, a1, a2, a3] (q.1.toList ++ []) q.2.1 q.2.2) else none := ev_calV (as := [vR z, vI x0, vI x1]) (r := []) mx_51 pg_42_132 rfl rfl (Nat.le_of_ble_eq_true rfl) (Nat.le_of_ble_eq_true rfl)
theorem pg_42_135 : mm_prog 42 135 = some (0, .iinc 2 1, 138, []) := by decide +kernel
theorem xe_42_135 (a0 a1 a3 : Option MV) (x : Int) (st : List MV) (μ : MM) (G : MG) (h : mm_nL a1 = true) : ev 42 135 [a0, a1, some (vI x), a3] st μ G = ev 42 138 [a0, a1, some (vI (w32 (x + (1)))), a3] st μ G := ev_st pg_42_135 rfl (mm_nl_of h) (Nat.le_of_ble_eq_true rfl)
theorem pg_42_138 : mm_prog 42 138 = some (0, .goto (-47), 141, []) := by decide +kernel
theorem xe_42_138 (a0 a1 a2 a3 : Option MV) (st : List MV) (μ : MM) (G : MG) : ev 42 138 [a0, a1, a2, a3] st μ G = ev 42 91 [a0, a1, a2, a3] st μ G := ev_stp pg_42_138 rfl
theorem pg_42_141 : mm_prog 42 141 = some (2, .return_, 142, []) := by decide +kernel
theorem xe_42_141 (a0 a1 a2 a3 : Option MV) (μ : MM) (G : MG) : ev 42 141 [a0, a1, a2, a3] [] μ G = some (none, μ, G) := ev_ret pg_42_141 rfl
-- X6_readBaseDescriptor
theorem pg_43_0 : mm_prog 43 0 = some (0, .aload_n 0, 1, []) := by decide +kernel
theorem xe_43_0 (a1 : Option MV) (x : Int) (st : List MV) (μ : MM) (G : MG) : ev 43 0 [some (vR x), a1] st μ G = ev 43 1 [some (vR x), a1] (vR x :: st) μ G := ev_stp pg_43_0 rfl
theorem pg_43_1 : mm_prog 43 1 = some (0, .iload_n 1, 2, []) := by decide +kernel
theorem xe_43_1 (a0 : Option MV) (x : Int) (st : List MV) (μ : MM) (G : MG) : ev 43 1 [a0, some (vI x)] st μ G = ev 43 2 [a0, some (vI x)] (vI x :: st) μ G := ev_stp pg_43_1 rfl
theorem pg_43_2 : mm_prog 43 2 = some (1, .invokevirtual 83, 5, [1, 45, 1, 6]) := by decide +kernel
theorem xe_43_2 (a0 a1 : Option MV) (x0 z : Int) (μ : MM) (G : MG) : ev 43 2 [a0, a1] (vI x0 :: vR z :: []) μ G = if gk G z = 6 ∧ 0 < z then (ev 45 0 [some (vR z), some (vI x0)] [] μ G).bind (fun q => ev 43 5 [a0, a1] (q.1.toList ++ []) q.2.1 q.2.2) else none := ev_calV (as := [vR z, vI x0]) (r := []) mx_45 pg_43_2 rfl rfl (Nat.le_of_ble_eq_true rfl) (Nat.le_of_ble_eq_true rfl)
theorem pg_43_5 : mm_prog 43 5 = some (0, .ifCond .eq 11, 8, []) := by decide +kernel
theorem xe_43_5 (a0 a1 : Option MV) (x : Int) (st : List MV) (μ : MM) (G : MG) : ev 43 5 [a0, a1] (vI x :: st) μ G = if x = 0 then ev 43 16 [a0, a1] st μ G else ev 43 8 [a0, a1] st μ G := ev_br (mm_cnd_eq x 0) pg_43_5 rfl
theorem pg_43_8 : mm_prog 43 8 = some (0, .aload_n 0, 9, []) := by decide +kernel
theorem xe_43_8 (a1 : Option MV) (x : Int) (st : List MV) (μ : MM) (G : MG) : ev 43 8 [some (vR x), a1] st μ G = ev 43 9 [some (vR x), a1] (vR x :: st) μ G := ev_stp pg_43_8 rfl
theorem pg_43_9 : mm_prog 43 9 = some (0, .iload_n 1, 10, []) := by decide +kernel
theorem xe_43_9 (a0 : Option MV) (x : Int) (st : List MV) (μ : MM) (G : MG) : ev 43 9 [a0, some (vI x)] st μ G = ev 43 10 [a0, some (vI x)] (vI x :: st) μ G := ev_stp pg_43_9 rfl
theorem pg_43_10 : mm_prog 43 10 = some (1, .invokevirtual 87, 13, [1, 46, 1, 6]) := by decide +kernel
theorem xe_43_10 (a0 a1 : Option MV) (x0 z : Int) (μ : MM) (G : MG) : ev 43 10 [a0, a1] (vI x0 :: vR z :: []) μ G = if gk G z = 6 ∧ 0 < z then (ev 46 0 [some (vR z), some (vI x0)] [] μ G).bind (fun q => ev 43 13 [a0, a1] (q.1.toList ++ []) q.2.1 q.2.2) else none := ev_calV (as := [vR z, vI x0]) (r := []) mx_46 pg_43_10 rfl rfl (Nat.le_of_ble_eq_true rfl) (Nat.le_of_ble_eq_true rfl)
theorem pg_43_13 : mm_prog 43 13 = some (0, .goto 52, 16, []) := by decide +kernel
theorem xe_43_13 (a0 a1 : Option MV) (st : List MV) (μ : MM) (G : MG) : ev 43 13 [a0, a1] st μ G = ev 43 65 [a0, a1] st μ G := ev_stp pg_43_13 rfl
theorem pg_43_16 : mm_prog 43 16 = some (0, .aload_n 0, 17, []) := by decide +kernel
theorem xe_43_16 (a1 : Option MV) (x : Int) (st : List MV) (μ : MM) (G : MG) : ev 43 16 [some (vR x), a1] st μ G = ev 43 17 [some (vR x), a1] (vR x :: st) μ G := ev_stp pg_43_16 rfl
theorem pg_43_17 : mm_prog 43 17 = some (0, .getfield 12, 20, [6, 0, 2]) := by decide +kernel
theorem xe_43_17 (a0 a1 : Option MV) (x : Int) (st : List MV) (μ : MM) (G : MG) : ev 43 17 [a0, a1] (vR x :: st) μ G = if gk G x = 6 then ev 43 20 [a0, a1] (vR (μ x 0) :: st) μ G else none := ev_if pg_43_17 rfl
theorem pg_43_20 : mm_prog 43 20 = some (0, .iload_n 1, 21, []) := by decide +kernel
theorem xe_43_20 (a0 : Option MV) (x : Int) (st : List MV) (μ : MM) (G : MG) : ev 43 20 [a0, some (vI x)] st μ G = ev 43 21 [a0, some (vI x)] (vI x :: st) μ G := ev_stp pg_43_20 rfl
theorem pg_43_21 : mm_prog 43 21 = some (0, .iconst 3, 22, []) := by decide +kernel
theorem xe_43_21 (a0 a1 : Option MV) (st : List MV) (μ : MM) (G : MG) : ev 43 21 [a0, a1] st μ G = ev 43 22 [a0, a1] (vI (3) :: st) μ G := ev_stp pg_43_21 rfl
theorem pg_43_22 : mm_prog 43 22 = some (0, .iadd, 23, []) := by decide +kernel
theorem xe_43_22 (a0 a1 : Option MV) (x y : Int) (st : List MV) (μ : MM) (G : MG) : ev 43 22 [a0, a1] (vI y :: vI x :: st) μ G = ev 43 23 [a0, a1] (vI (w32 (x + y)) :: st) μ G := ev_stp pg_43_22 rfl
theorem pg_43_23 : mm_prog 43 23 = some (1, .invokevirtual 72, 26, [1, 3, 1, 0]) := by decide +kernel
theorem xe_43_23 (a0 a1 : Option MV) (x0 z : Int) (μ : MM) (G : MG) : ev 43 23 [a0, a1] (vI x0 :: vR z :: []) μ G = if gk G z = 0 ∧ 0 < z then (ev 3 0 [some (vR z), some (vI x0)] [] μ G).bind (fun q => ev 43 26 [a0, a1] (q.1.toList ++ []) q.2.1 q.2.2) else none := ev_calV (as := [vR z, vI x0]) (r := []) mx_3 pg_43_23 rfl rfl (Nat.le_of_ble_eq_true rfl) (Nat.le_of_ble_eq_true rfl)
theorem pg_43_26 : mm_prog 43 26 = some (0, .sipush 252, 29, []) := by decide +kernel
theorem xe_43_26 (a0 a1 : Option MV) (st : List MV) (μ : MM) (G : MG) : ev 43 26 [a0, a1] st μ G = ev 43 29 [a0, a1] (vI (252) :: st) μ G := ev_stp pg_43_26 rfl
theorem pg_43_29 : mm_prog 43 29 = some (0, .if_icmp .ne 13, 32, []) := by decide +kernel
theorem xe_43_29 (a0 a1 : Option MV) (x y : Int) (st : List MV) (μ : MM) (G : MG) : ev 43 29 [a0, a1] (vI y :: vI x :: st) μ G = if ¬ x = y then ev 43 42 [a0, a1] st μ G else ev 43 32 [a0, a1] st μ G := ev_br (mm_cnd_ne x y) pg_43_29 rfl
theorem pg_43_32 : mm_prog 43 32 = some (0, .aload_n 0, 33, []) := by decide +kernel
theorem xe_43_32 (a1 : Option MV) (x : Int) (st : List MV) (μ : MM) (G : MG) : ev 43 32 [some (vR x), a1] st μ G = ev 43 33 [some (vR x), a1] (vR x :: st) μ G := ev_stp pg_43_32 rfl
theorem pg_43_33 : mm_prog 43 33 = some (0, .iload_n 1, 34, []) := by decide +kernel
theorem xe_43_33 (a0 : Option MV) (x : Int) (st : List MV) (μ : MM) (G : MG) : ev 43 33 [a0, some (vI x)] st μ G = ev 43 34 [a0, some (vI x)] (vI x :: st) μ G := ev_stp pg_43_33 rfl
theorem pg_43_34 : mm_prog 43 34 = some (0, .iconst 5, 35, []) := by decide +kernel
theorem xe_43_34 (a0 a1 : Option MV) (st : List MV) (μ : MM) (G : MG) : ev 43 34 [a0, a1] st μ G = ev 43 35 [a0, a1] (vI (5) :: st) μ G := ev_stp pg_43_34 rfl
theorem pg_43_35 : mm_prog 43 35 = some (0, .iadd, 36, []) := by decide +kernel
theorem xe_43_35 (a0 a1 : Option MV) (x y : Int) (st : List MV) (μ : MM) (G : MG) : ev 43 35 [a0, a1] (vI y :: vI x :: st) μ G = ev 43 36 [a0, a1] (vI (w32 (x + y)) :: st) μ G := ev_stp pg_43_35 rfl
theorem pg_43_36 : mm_prog 43 36 = some (1, .invokevirtual 90, 39, [1, 47, 1, 6]) := by decide +kernel
theorem xe_43_36 (a0 a1 : Option MV) (x0 z : Int) (μ : MM) (G : MG) : ev 43 36 [a0, a1] (vI x0 :: vR z :: []) μ G = if gk G z = 6 ∧ 0 < z then (ev 47 0 [some (vR z), some (vI x0), none, none] [] μ G).bind (fun q => ev 43 39 [a0, a1] (q.1.toList ++ []) q.2.1 q.2.2) else none := ev_calV (as := [vR z, vI x0]) (r := []) mx_47 pg_43_36 rfl rfl (Nat.le_of_ble_eq_true rfl) (Nat.le_of_ble_eq_true rfl)
theorem pg_43_39 : mm_prog 43 39 = some (0, .goto 26, 42, []) := by decide +kernel
theorem xe_43_39 (a0 a1 : Option MV) (st : List MV) (μ : MM) (G : MG) : ev 43 39 [a0, a1] st μ G = ev 43 65 [a0, a1] st μ G := ev_stp pg_43_39 rfl
theorem pg_43_42 : mm_prog 43 42 = some (0, .aload_n 0, 43, []) := by decide +kernel
theorem xe_43_42 (a1 : Option MV) (x : Int) (st : List MV) (μ : MM) (G : MG) : ev 43 42 [some (vR x), a1] st μ G = ev 43 43 [some (vR x), a1] (vR x :: st) μ G := ev_stp pg_43_42 rfl
theorem pg_43_43 : mm_prog 43 43 = some (0, .getfield 12, 46, [6, 0, 2]) := by decide +kernel
theorem xe_43_43 (a0 a1 : Option MV) (x : Int) (st : List MV) (μ : MM) (G : MG) : ev 43 43 [a0, a1] (vR x :: st) μ G = if gk G x = 6 then ev 43 46 [a0, a1] (vR (μ x 0) :: st) μ G else none := ev_if pg_43_43 rfl
theorem pg_43_46 : mm_prog 43 46 = some (0, .iload_n 1, 47, []) := by decide +kernel
theorem xe_43_46 (a0 : Option MV) (x : Int) (st : List MV) (μ : MM) (G : MG) : ev 43 46 [a0, some (vI x)] st μ G = ev 43 47 [a0, some (vI x)] (vI x :: st) μ G := ev_stp pg_43_46 rfl
theorem pg_43_47 : mm_prog 43 47 = some (0, .iconst 3, 48, []) := by decide +kernel
theorem xe_43_47 (a0 a1 : Option MV) (st : List MV) (μ : MM) (G : MG) : ev 43 47 [a0, a1] st μ G = ev 43 48 [a0, a1] (vI (3) :: st) μ G := ev_stp pg_43_47 rfl
theorem pg_43_48 : mm_prog 43 48 = some (0, .iadd, 49, []) := by decide +kernel
theorem xe_43_48 (a0 a1 : Option MV) (x y : Int) (st : List MV) (μ : MM) (G : MG) : ev 43 48 [a0, a1] (vI y :: vI x :: st) μ G = ev 43 49 [a0, a1] (vI (w32 (x + y)) :: st) μ G := ev_stp pg_43_48 rfl
theorem pg_43_49 : mm_prog 43 49 = some (1, .invokevirtual 72, 52, [1, 3, 1, 0]) := by decide +kernel
theorem xe_43_49 (a0 a1 : Option MV) (x0 z : Int) (μ : MM) (G : MG) : ev 43 49 [a0, a1] (vI x0 :: vR z :: []) μ G = if gk G z = 0 ∧ 0 < z then (ev 3 0 [some (vR z), some (vI x0)] [] μ G).bind (fun q => ev 43 52 [a0, a1] (q.1.toList ++ []) q.2.1 q.2.2) else none := ev_calV (as := [vR z, vI x0]) (r := []) mx_3 pg_43_49 rfl rfl (Nat.le_of_ble_eq_true rfl) (Nat.le_of_ble_eq_true rfl)
theorem pg_43_52 : mm_prog 43 52 = some (0, .sipush 253, 55, []) := by decide +kernel
theorem xe_43_52 (a0 a1 : Option MV) (st : List MV) (μ : MM) (G : MG) : ev 43 52 [a0, a1] st μ G = ev 43 55 [a0, a1] (vI (253) :: st) μ G := ev_stp pg_43_52 rfl
theorem pg_43_55 : mm_prog 43 55 = some (0, .if_icmp .ne 10, 58, []) := by decide +kernel
theorem xe_43_55 (a0 a1 : Option MV) (x y : Int) (st : List MV) (μ : MM) (G : MG) : ev 43 55 [a0, a1] (vI y :: vI x :: st) μ G = if ¬ x = y then ev 43 65 [a0, a1] st μ G else ev 43 58 [a0, a1] st μ G := ev_br (mm_cnd_ne x y) pg_43_55 rfl
theorem pg_43_58 : mm_prog 43 58 = some (0, .aload_n 0, 59, []) := by decide +kernel
theorem xe_43_58 (a1 : Option MV) (x : Int) (st : List MV) (μ : MM) (G : MG) : ev 43 58 [some (vR x), a1] st μ G = ev 43 59 [some (vR x), a1] (vR x :: st) μ G := ev_stp pg_43_58 rfl
theorem pg_43_59 : mm_prog 43 59 = some (0, .iload_n 1, 60, []) := by decide +kernel
theorem xe_43_59 (a0 : Option MV) (x : Int) (st : List MV) (μ : MM) (G : MG) : ev 43 59 [a0, some (vI x)] st μ G = ev 43 60 [a0, some (vI x)] (vI x :: st) μ G := ev_stp pg_43_59 rfl
theorem pg_43_60 : mm_prog 43 60 = some (0, .iconst 5, 61, []) := by decide +kernel
theorem xe_43_60 (a0 a1 : Option MV) (st : List MV) (μ : MM) (G : MG) : ev 43 60 [a0, a1] st μ G = ev 43 61 [a0, a1] (vI (5) :: st) μ G := ev_stp pg_43_60 rfl
theorem pg_43_61 : mm_prog 43 61 = some (0, .iadd, 62, []) := by decide +kernel
theorem xe_43_61 (a0 a1 : Option MV) (x y : Int) (st : List MV) (μ : MM) (G : MG) : ev 43 61 [a0, a1] (vI y :: vI x :: st) μ G = ev 43 62 [a0, a1] (vI (w32 (x + y)) :: st) μ G := ev_stp pg_43_61 rfl
theorem pg_43_62 : mm_prog 43 62 = some (1, .invokevirtual 93, 65, [1, 44, 1, 6]) := by decide +kernel
theorem xe_43_62 (a0 a1 : Option MV) (x0 z : Int) (μ : MM) (G : MG) : ev 43 62 [a0, a1] (vI x0 :: vR z :: []) μ G = if gk G z = 6 ∧ 0 < z then (ev 44 0 [some (vR z), some (vI x0), none] [] μ G).bind (fun q => ev 43 65 [a0, a1] (q.1.toList ++ []) q.2.1 q.2.2) else none := ev_calV (as := [vR z, vI x0]) (r := []) mx_44 pg_43_62 rfl rfl (Nat.le_of_ble_eq_true rfl) (Nat.le_of_ble_eq_true rfl)
theorem pg_43_65 : mm_prog 43 65 = some (2, .return_, 66, []) := by decide +kernel
theorem xe_43_65 (a0 a1 : Option MV) (μ : MM) (G : MG) : ev 43 65 [a0, a1] [] μ G = some (none, μ, G) := ev_ret pg_43_65 rfl
-- X6_readRange
theorem pg_44_0 : mm_prog 44 0 = some (0, .aload_n 0, 1, []) := by decide +kernel
theorem xe_44_0 (a1 a2 : Option MV) (x : Int) (st : List MV) (μ : MM) (G : MG) : ev 44 0 [some (vR x), a1, a2] st μ G = ev 44 1 [some (vR x), a1, a2] (vR x :: st) μ G := ev_stp pg_44_0 rfl
theorem pg_44_1 : mm_prog 44 1 = some (0, .iconst 1, 2, []) := by decide +kernel
theorem xe_44_1 (a0 a1 a2 : Option MV) (st : List MV) (μ : MM) (G : MG) : ev 44 1 [a0, a1, a2] st μ G = ev 44 2 [a0, a1, a2] (vI (1) :: st) μ G := ev_stp pg_44_1 rfl
theorem pg_44_2 : mm_prog 44 2 = some (0, .putfield 61, 5, [6, 12, 1]) := by decide +kernel
theorem xe_44_2 (a0 a1 a2 : Option MV) (x y : Int) (st : List MV) (μ : MM) (G : MG) : ev 44 2 [a0, a1, a2] (vI x :: vR y :: st) μ G = if gk G y = 6 ∧ (x = 0 ∨ x = 1) then ev 44 5 [a0, a1, a2] st (mset μ y 12 x) G else none := ev_put1 pg_44_2
theorem pg_44_5 : mm_prog 44 5 = some (0, .iconst 0, 6, []) := by decide +kernel
theorem xe_44_5 (a0 a1 a2 : Option MV) (st : List MV) (μ : MM) (G : MG) : ev 44 5 [a0, a1, a2] st μ G = ev 44 6 [a0, a1, a2] (vI (0) :: st) μ G := ev_stp pg_44_5 rfl
theorem pg_44_6 : mm_prog 44 6 = some (0, .istore_n 2, 7, []) := by decide +kernel
theorem xe_44_6 (a0 a1 a2 : Option MV) (x : Int) (st : List MV) (μ : MM) (G : MG) (h : mm_nL a1 = true) : ev 44 6 [a0, a1, a2] (vI x :: st) μ G = ev 44 7 [a0, a1, some (vI x)] st μ G := ev_st pg_44_6 rfl (mm_nl_of h) (Nat.le_of_ble_eq_true rfl)
theorem pg_44_7 : mm_prog 44 7 = some (0, .iload_n 2, 8, []) := by decide +kernel
theorem xe_44_7 (a0 a1 : Option MV) (x : Int) (st : List MV) (μ : MM) (G : MG) : ev 44 7 [a0, a1, some (vI x)] st μ G = ev 44 8 [a0, a1, some (vI x)] (vI x :: st) μ G := ev_stp pg_44_7 rfl
theorem pg_44_8 : mm_prog 44 8 = some (0, .aload_n 0, 9, []) := by decide +kernel
theorem xe_44_8 (a1 a2 : Option MV) (x : Int) (st : List MV) (μ : MM) (G : MG) : ev 44 8 [some (vR x), a1, a2] st μ G = ev 44 9 [some (vR x), a1, a2] (vR x :: st) μ G := ev_stp pg_44_8 rfl
theorem pg_44_9 : mm_prog 44 9 = some (0, .getfield 31, 12, [6, 4, 2]) := by decide +kernel
theorem xe_44_9 (a0 a1 a2 : Option MV) (x : Int) (st : List MV) (μ : MM) (G : MG) : ev 44 9 [a0, a1, a2] (vR x :: st) μ G = if gk G x = 6 then ev 44 12 [a0, a1, a2] (vR (μ x 4) :: st) μ G else none := ev_if pg_44_9 rfl
theorem pg_44_12 : mm_prog 44 12 = some (0, .arraylength, 13, []) := by decide +kernel
theorem xe_44_12 (a0 a1 a2 : Option MV) (x : Int) (st : List MV) (μ : MM) (G : MG) : ev 44 12 [a0, a1, a2] (vR x :: st) μ G = if 100 ≤ gk G x then ev 44 13 [a0, a1, a2] (vI (gl G x) :: st) μ G else none := ev_if pg_44_12 rfl
theorem pg_44_13 : mm_prog 44 13 = some (0, .if_icmp .ge 25, 16, []) := by decide +kernel
theorem xe_44_13 (a0 a1 a2 : Option MV) (x y : Int) (st : List MV) (μ : MM) (G : MG) : ev 44 13 [a0, a1, a2] (vI y :: vI x :: st) μ G = if y ≤ x then ev 44 38 [a0, a1, a2] st μ G else ev 44 16 [a0, a1, a2] st μ G := ev_br (mm_cnd_ge x y) pg_44_13 rfl
theorem pg_44_16 : mm_prog 44 16 = some (0, .aload_n 0, 17, []) := by decide +kernel
theorem xe_44_16 (a1 a2 : Option MV) (x : Int) (st : List MV) (μ : MM) (G : MG) : ev 44 16 [some (vR x), a1, a2] st μ G = ev 44 17 [some (vR x), a1, a2] (vR x :: st) μ G := ev_stp pg_44_16 rfl
theorem pg_44_17 : mm_prog 44 17 = some (0, .getfield 31, 20, [6, 4, 2]) := by decide +kernel
theorem xe_44_17 (a0 a1 a2 : Option MV) (x : Int) (st : List MV) (μ : MM) (G : MG) : ev 44 17 [a0, a1, a2] (vR x :: st) μ G = if gk G x = 6 then ev 44 20 [a0, a1, a2] (vR (μ x 4) :: st) μ G else none := ev_if pg_44_17 rfl
theorem pg_44_20 : mm_prog 44 20 = some (0, .iload_n 2, 21, []) := by decide +kernel
theorem xe_44_20 (a0 a1 : Option MV) (x : Int) (st : List MV) (μ : MM) (G : MG) : ev 44 20 [a0, a1, some (vI x)] st μ G = ev 44 21 [a0, a1, some (vI x)] (vI x :: st) μ G := ev_stp pg_44_20 rfl
theorem pg_44_21 : mm_prog 44 21 = some (0, .aload_n 0, 22, []) := by decide +kernel
theorem xe_44_21 (a1 a2 : Option MV) (x : Int) (st : List MV) (μ : MM) (G : MG) : ev 44 21 [some (vR x), a1, a2] st μ G = ev 44 22 [some (vR x), a1, a2] (vR x :: st) μ G := ev_stp pg_44_21 rfl
theorem pg_44_22 : mm_prog 44 22 = some (0, .getfield 12, 25, [6, 0, 2]) := by decide +kernel
theorem xe_44_22 (a0 a1 a2 : Option MV) (x : Int) (st : List MV) (μ : MM) (G : MG) : ev 44 22 [a0, a1, a2] (vR x :: st) μ G = if gk G x = 6 then ev 44 25 [a0, a1, a2] (vR (μ x 0) :: st) μ G else none := ev_if pg_44_22 rfl
theorem pg_44_25 : mm_prog 44 25 = some (0, .iload_n 1, 26, []) := by decide +kernel
theorem xe_44_25 (a0 a2 : Option MV) (x : Int) (st : List MV) (μ : MM) (G : MG) : ev 44 25 [a0, some (vI x), a2] st μ G = ev 44 26 [a0, some (vI x), a2] (vI x :: st) μ G := ev_stp pg_44_25 rfl
theorem pg_44_26 : mm_prog 44 26 = some (0, .iload_n 2, 27, []) := by decide +kernel
theorem xe_44_26 (a0 a1 : Option MV) (x : Int) (st : List MV) (μ : MM) (G : MG) : ev 44 26 [a0, a1, some (vI x)] st μ G = ev 44 27 [a0, a1, some (vI x)] (vI x :: st) μ G := ev_stp pg_44_26 rfl
theorem pg_44_27 : mm_prog 44 27 = some (0, .iadd, 28, []) := by decide +kernel
theorem xe_44_27 (a0 a1 a2 : Option MV) (x y : Int) (st : List MV) (μ : MM) (G : MG) : ev 44 27 [a0, a1, a2] (vI y :: vI x :: st) μ G = ev 44 28 [a0, a1, a2] (vI (w32 (x + y)) :: st) μ G := ev_stp pg_44_27 rfl
theorem pg_44_28 : mm_prog 44 28 = some (1, .invokevirtual 72, 31, [1, 3, 1, 0]) := by decide +kernel
theorem xe_44_28 (a0 a1 a2 : Option MV) (x0 z r0 r1 : Int) (μ : MM) (G : MG) : ev 44 28 [a0, a1, a2] (vI x0 :: vR z :: [vI r0, vR r1]) μ G = if gk G z = 0 ∧ 0 < z then (ev 3 0 [some (vR z), some (vI x0)] [] μ G).bind (fun q => ev 44 31 [a0, a1, a2] (q.1.toList ++ [vI r0, vR r1]) q.2.1 q.2.2) else none := ev_calV (as := [vR z, vI x0]) (r := [vI r0, vR r1]) mx_3 pg_44_28 rfl rfl (Nat.le_of_ble_eq_true rfl) (Nat.le_of_ble_eq_true rfl)
theorem pg_44_31 : mm_prog 44 31 = some (0, .iastore, 32, []) := by decide +kernel
theorem xe_44_31 (a0 a1 a2 : Option MV) (x y z : Int) (st : List MV) (μ : MM) (G : MG) : ev 44 31 [a0, a1, a2] (vI x :: vI y :: vR z :: st) μ G = if gk G z = 100 ∧ 0 ≤ y ∧ y < gl G z ∧ 10 ≤ z then ev 44 32 [a0, a1, a2] st (mset μ z y x) G else none := ev_if pg_44_31 rfl
theorem pg_44_32 : mm_prog 44 32 = some (0, .iinc 2 1, 35, []) := by decide +kernel
theorem xe_44_32 (a0 a1 : Option MV) (x : Int) (st : List MV) (μ : MM) (G : MG) (h : mm_nL a1 = true) : ev 44 32 [a0, a1, some (vI x)] st μ G = ev 44 35 [a0, a1, some (vI (w32 (x + (1))))] st μ G := ev_st pg_44_32 rfl (mm_nl_of h) (Nat.le_of_ble_eq_true rfl)
theorem pg_44_35 : mm_prog 44 35 = some (0, .goto (-28), 38, []) := by decide +kernel
theorem xe_44_35 (a0 a1 a2 : Option MV) (st : List MV) (μ : MM) (G : MG) : ev 44 35 [a0, a1, a2] st μ G = ev 44 7 [a0, a1, a2] st μ G := ev_stp pg_44_35 rfl
theorem pg_44_38 : mm_prog 44 38 = some (2, .return_, 39, []) := by decide +kernel
theorem xe_44_38 (a0 a1 a2 : Option MV) (μ : MM) (G : MG) : ev 44 38 [a0, a1, a2] [] μ G = some (none, μ, G) := ev_ret pg_44_38 rfl
-- X6_hasClock
theorem pg_45_0 : mm_prog 45 0 = some (0, .aload_n 0, 1, []) := by decide +kernel
theorem xe_45_0 (a1 : Option MV) (x : Int) (st : List MV) (μ : MM) (G : MG) : ev 45 0 [some (vR x), a1] st μ G = ev 45 1 [some (vR x), a1] (vR x :: st) μ G := ev_stp pg_45_0 rfl
theorem pg_45_1 : mm_prog 45 1 = some (0, .getfield 12, 4, [6, 0, 2]) := by decide +kernel
theorem xe_45_1 (a0 a1 : Option MV) (x : Int) (st : List MV) (μ : MM) (G : MG) : ev 45 1 [a0, a1] (vR x :: st) μ G = if gk G x = 6 then ev 45 4 [a0, a1] (vR (μ x 0) :: st) μ G else none := ev_if pg_45_1 rfl
theorem pg_45_4 : mm_prog 45 4 = some (0, .iload_n 1, 5, []) := by decide +kernel
theorem xe_45_4 (a0 : Option MV) (x : Int) (st : List MV) (μ : MM) (G : MG) : ev 45 4 [a0, some (vI x)] st μ G = ev 45 5 [a0, some (vI x)] (vI x :: st) μ G := ev_stp pg_45_4 rfl
theorem pg_45_5 : mm_prog 45 5 = some (1, .invokevirtual 72, 8, [1, 3, 1, 0]) := by decide +kernel
theorem xe_45_5 (a0 a1 : Option MV) (x0 z : Int) (μ : MM) (G : MG) : ev 45 5 [a0, a1] (vI x0 :: vR z :: []) μ G = if gk G z = 0 ∧ 0 < z then (ev 3 0 [some (vR z), some (vI x0)] [] μ G).bind (fun q => ev 45 8 [a0, a1] (q.1.toList ++ []) q.2.1 q.2.2) else none := ev_calV (as := [vR z, vI x0]) (r := []) mx_3 pg_45_5 rfl rfl (Nat.le_of_ble_eq_true rfl) (Nat.le_of_ble_eq_true rfl)
theorem pg_45_8 : mm_prog 45 8 = some (0, .aload_n 0, 9, []) := by decide +kernel
theorem xe_45_8 (a1 : Option MV) (x : Int) (st : List MV) (μ : MM) (G : MG) : ev 45 8 [some (vR x), a1] st μ G = ev 45 9 [some (vR x), a1] (vR x :: st) μ G := ev_stp pg_45_8 rfl
theorem pg_45_9 : mm_prog 45 9 = some (0, .getfield 12, 12, [6, 0, 2]) := by decide +kernel
theorem xe_45_9 (a0 a1 : Option MV) (x : Int) (st : List MV) (μ : MM) (G : MG) : ev 45 9 [a0, a1] (vR x :: st) μ G = if gk G x = 6 then ev 45 12 [a0, a1] (vR (μ x 0) :: st) μ G else none := ev_if pg_45_9 rfl
theorem pg_45_12 : mm_prog 45 12 = some (0, .iload_n 1, 13, []) := by decide +kernel
theorem xe_45_12 (a0 : Option MV) (x : Int) (st : List MV) (μ : MM) (G : MG) : ev 45 12 [a0, some (vI x)] st μ G = ev 45 13 [a0, some (vI x)] (vI x :: st) μ G := ev_stp pg_45_12 rfl
theorem pg_45_13 : mm_prog 45 13 = some (0, .iconst 1, 14, []) := by decide +kernel
theorem xe_45_13 (a0 a1 : Option MV) (st : List MV) (μ : MM) (G : MG) : ev 45 13 [a0, a1] st μ G = ev 45 14 [a0, a1] (vI (1) :: st) μ G := ev_stp pg_45_13 rfl
theorem pg_45_14 : mm_prog 45 14 = some (0, .iadd, 15, []) := by decide +kernel
theorem xe_45_14 (a0 a1 : Option MV) (x y : Int) (st : List MV) (μ : MM) (G : MG) : ev 45 14 [a0, a1] (vI y :: vI x :: st) μ G = ev 45 15 [a0, a1] (vI (w32 (x + y)) :: st) μ G := ev_stp pg_45_14 rfl
theorem pg_45_15 : mm_prog 45 15 = some (1, .invokevirtual 72, 18, [1, 3, 1, 0]) := by decide +kernel
theorem xe_45_15 (a0 a1 : Option MV) (x0 z r0 : Int) (μ : MM) (G : MG) : ev 45 15 [a0, a1] (vI x0 :: vR z :: [vI r0]) μ G = if gk G z = 0 ∧ 0 < z then (ev 3 0 [some (vR z), some (vI x0)] [] μ G).bind (fun q => ev 45 18 [a0, a1] (q.1.toList ++ [vI r0]) q.2.1 q.2.2) else none := ev_calV (as := [vR z, vI x0]) (r := [vI r0]) mx_3 pg_45_15 rfl rfl (Nat.le_of_ble_eq_true rfl) (Nat.le_of_ble_eq_true rfl)
theorem pg_45_18 : mm_prog 45 18 = some (0, .ior, 19, []) := by decide +kernel
theorem xe_45_18 (a0 a1 : Option MV) (x y : Int) (st : List MV) (μ : MM) (G : MG) : ev 45 18 [a0, a1] (vI y :: vI x :: st) μ G = ev 45 19 [a0, a1] (vI (mm_or x y) :: st) μ G := ev_stp pg_45_18 rfl
theorem pg_45_19 : mm_prog 45 19 = some (0, .ifCond .eq 7, 22, []) := by decide +kernel
theorem xe_45_19 (a0 a1 : Option MV) (x : Int) (st : List MV) (μ : MM) (G : MG) : ev 45 19 [a0, a1] (vI x :: st) μ G = if x = 0 then ev 45 26 [a0, a1] st μ G else ev 45 22 [a0, a1] st μ G := ev_br (mm_cnd_eq x 0) pg_45_19 rfl
theorem pg_45_22 : mm_prog 45 22 = some (0, .iconst 1, 23, []) := by decide +kernel
theorem xe_45_22 (a0 a1 : Option MV) (st : List MV) (μ : MM) (G : MG) : ev 45 22 [a0, a1] st μ G = ev 45 23 [a0, a1] (vI (1) :: st) μ G := ev_stp pg_45_22 rfl
theorem pg_45_23 : mm_prog 45 23 = some (0, .goto 4, 26, []) := by decide +kernel
theorem xe_45_23 (a0 a1 : Option MV) (st : List MV) (μ : MM) (G : MG) : ev 45 23 [a0, a1] st μ G = ev 45 27 [a0, a1] st μ G := ev_stp pg_45_23 rfl
theorem pg_45_26 : mm_prog 45 26 = some (0, .iconst 0, 27, []) := by decide +kernel
theorem xe_45_26 (a0 a1 : Option MV) (st : List MV) (μ : MM) (G : MG) : ev 45 26 [a0, a1] st μ G = ev 45 27 [a0, a1] (vI (0) :: st) μ G := ev_stp pg_45_26 rfl
theorem pg_45_27 : mm_prog 45 27 = some (2, .ireturn, 28, [1]) := by decide +kernel
theorem xe_45_27 (a0 a1 : Option MV) (x : Int) (μ : MM) (G : MG) : ev 45 27 [a0, a1] [vI x] μ G = if x = 0 ∨ x = 1 then some (some (vI x), μ, G) else none := ev_retB pg_45_27
-- X6_addDetailed
theorem pg_46_0 : mm_prog 46 0 = some (0, .aload_n 0, 1, []) := by decide +kernel
theorem xe_46_0 (a1 : Option MV) (x : Int) (st : List MV) (μ : MM) (G : MG) : ev 46 0 [some (vR x), a1] st μ G = ev 46 1 [some (vR x), a1] (vR x :: st) μ G := ev_stp pg_46_0 rfl
theorem pg_46_1 : mm_prog 46 1 = some (0, .getfield 46, 4, [6, 6, 0]) := by decide +kernel
theorem xe_46_1 (a0 a1 : Option MV) (x : Int) (st : List MV) (μ : MM) (G : MG) : ev 46 1 [a0, a1] (vR x :: st) μ G = if gk G x = 6 then ev 46 4 [a0, a1] (vI (μ x 6) :: st) μ G else none := ev_if pg_46_1 rfl
theorem pg_46_4 : mm_prog 46 4 = some (0, .ifCond .lt 42, 7, []) := by decide +kernel
theorem xe_46_4 (a0 a1 : Option MV) (x : Int) (st : List MV) (μ : MM) (G : MG) : ev 46 4 [a0, a1] (vI x :: st) μ G = if x < 0 then ev 46 46 [a0, a1] st μ G else ev 46 7 [a0, a1] st μ G := ev_br (mm_cnd_lt x 0) pg_46_4 rfl
theorem pg_46_7 : mm_prog 46 7 = some (0, .aload_n 0, 8, []) := by decide +kernel
theorem xe_46_7 (a1 : Option MV) (x : Int) (st : List MV) (μ : MM) (G : MG) : ev 46 7 [some (vR x), a1] st μ G = ev 46 8 [some (vR x), a1] (vR x :: st) μ G := ev_stp pg_46_7 rfl
theorem pg_46_8 : mm_prog 46 8 = some (0, .getfield 46, 11, [6, 6, 0]) := by decide +kernel
theorem xe_46_8 (a0 a1 : Option MV) (x : Int) (st : List MV) (μ : MM) (G : MG) : ev 46 8 [a0, a1] (vR x :: st) μ G = if gk G x = 6 then ev 46 11 [a0, a1] (vI (μ x 6) :: st) μ G else none := ev_if pg_46_8 rfl
theorem pg_46_11 : mm_prog 46 11 = some (0, .aload_n 0, 12, []) := by decide +kernel
theorem xe_46_11 (a1 : Option MV) (x : Int) (st : List MV) (μ : MM) (G : MG) : ev 46 11 [some (vR x), a1] st μ G = ev 46 12 [some (vR x), a1] (vR x :: st) μ G := ev_stp pg_46_11 rfl
theorem pg_46_12 : mm_prog 46 12 = some (0, .getfield 20, 15, [6, 1, 2]) := by decide +kernel
theorem xe_46_12 (a0 a1 : Option MV) (x : Int) (st : List MV) (μ : MM) (G : MG) : ev 46 12 [a0, a1] (vR x :: st) μ G = if gk G x = 6 then ev 46 15 [a0, a1] (vR (μ x 1) :: st) μ G else none := ev_if pg_46_12 rfl
theorem pg_46_15 : mm_prog 46 15 = some (0, .arraylength, 16, []) := by decide +kernel
theorem xe_46_15 (a0 a1 : Option MV) (x : Int) (st : List MV) (μ : MM) (G : MG) : ev 46 15 [a0, a1] (vR x :: st) μ G = if 100 ≤ gk G x then ev 46 16 [a0, a1] (vI (gl G x) :: st) μ G else none := ev_if pg_46_15 rfl
theorem pg_46_16 : mm_prog 46 16 = some (0, .if_icmp .ge 30, 19, []) := by decide +kernel
theorem xe_46_16 (a0 a1 : Option MV) (x y : Int) (st : List MV) (μ : MM) (G : MG) : ev 46 16 [a0, a1] (vI y :: vI x :: st) μ G = if y ≤ x then ev 46 46 [a0, a1] st μ G else ev 46 19 [a0, a1] st μ G := ev_br (mm_cnd_ge x y) pg_46_16 rfl
theorem pg_46_19 : mm_prog 46 19 = some (0, .aload_n 0, 20, []) := by decide +kernel
theorem xe_46_19 (a1 : Option MV) (x : Int) (st : List MV) (μ : MM) (G : MG) : ev 46 19 [some (vR x), a1] st μ G = ev 46 20 [some (vR x), a1] (vR x :: st) μ G := ev_stp pg_46_19 rfl
theorem pg_46_20 : mm_prog 46 20 = some (0, .getfield 20, 23, [6, 1, 2]) := by decide +kernel
theorem xe_46_20 (a0 a1 : Option MV) (x : Int) (st : List MV) (μ : MM) (G : MG) : ev 46 20 [a0, a1] (vR x :: st) μ G = if gk G x = 6 then ev 46 23 [a0, a1] (vR (μ x 1) :: st) μ G else none := ev_if pg_46_20 rfl
theorem pg_46_23 : mm_prog 46 23 = some (0, .aload_n 0, 24, []) := by decide +kernel
theorem xe_46_23 (a1 : Option MV) (x : Int) (st : List MV) (μ : MM) (G : MG) : ev 46 23 [some (vR x), a1] st μ G = ev 46 24 [some (vR x), a1] (vR x :: st) μ G := ev_stp pg_46_23 rfl
theorem pg_46_24 : mm_prog 46 24 = some (0, .getfield 46, 27, [6, 6, 0]) := by decide +kernel
theorem xe_46_24 (a0 a1 : Option MV) (x : Int) (st : List MV) (μ : MM) (G : MG) : ev 46 24 [a0, a1] (vR x :: st) μ G = if gk G x = 6 then ev 46 27 [a0, a1] (vI (μ x 6) :: st) μ G else none := ev_if pg_46_24 rfl
theorem pg_46_27 : mm_prog 46 27 = some (0, .aaload, 28, [103, 7]) := by decide +kernel
theorem xe_46_27 (a0 a1 : Option MV) (x y : Int) (st : List MV) (μ : MM) (G : MG) : ev 46 27 [a0, a1] (vI x :: vR y :: st) μ G = if gk G y = 103 ∧ 0 ≤ x ∧ x < gl G y then ev 46 28 [a0, a1] (vR (μ y x) :: st) μ G else none := ev_if pg_46_27 rfl
theorem pg_46_28 : mm_prog 46 28 = some (0, .aload_n 0, 29, []) := by decide +kernel
theorem xe_46_28 (a1 : Option MV) (x : Int) (st : List MV) (μ : MM) (G : MG) : ev 46 28 [some (vR x), a1] st μ G = ev 46 29 [some (vR x), a1] (vR x :: st) μ G := ev_stp pg_46_28 rfl
theorem pg_46_29 : mm_prog 46 29 = some (0, .getfield 12, 32, [6, 0, 2]) := by decide +kernel
theorem xe_46_29 (a0 a1 : Option MV) (x : Int) (st : List MV) (μ : MM) (G : MG) : ev 46 29 [a0, a1] (vR x :: st) μ G = if gk G x = 6 then ev 46 32 [a0, a1] (vR (μ x 0) :: st) μ G else none := ev_if pg_46_29 rfl
theorem pg_46_32 : mm_prog 46 32 = some (0, .iload_n 1, 33, []) := by decide +kernel
theorem xe_46_32 (a0 : Option MV) (x : Int) (st : List MV) (μ : MM) (G : MG) : ev 46 32 [a0, some (vI x)] st μ G = ev 46 33 [a0, some (vI x)] (vI x :: st) μ G := ev_stp pg_46_32 rfl
theorem pg_46_33 : mm_prog 46 33 = some (1, .invokevirtual 96, 36, [1, 60, 2, 7]) := by decide +kernel
theorem xe_46_33 (a0 a1 : Option MV) (x0 x1 z : Int) (μ : MM) (G : MG) : ev 46 33 [a0, a1] (vI x1 :: vR x0 :: vR z :: []) μ G = if gk G z = 7 ∧ 0 < z then (ev 60 0 [some (vR z), some (vR x0), some (vI x1), none, none, none, none] [] μ G).bind (fun q => ev 46 36 [a0, a1] (q.1.toList ++ []) q.2.1 q.2.2) else none := ev_calV (as := [vR z, vR x0, vI x1]) (r := []) mx_60 pg_46_33 rfl rfl (Nat.le_of_ble_eq_true rfl) (Nat.le_of_ble_eq_true rfl)
theorem pg_46_36 : mm_prog 46 36 = some (0, .aload_n 0, 37, []) := by decide +kernel
theorem xe_46_36 (a1 : Option MV) (x : Int) (st : List MV) (μ : MM) (G : MG) : ev 46 36 [some (vR x), a1] st μ G = ev 46 37 [some (vR x), a1] (vR x :: st) μ G := ev_stp pg_46_36 rfl
theorem pg_46_37 : mm_prog 46 37 = some (0, .dup, 38, []) := by decide +kernel
theorem xe_46_37 (a0 a1 : Option MV) (x : Int) (st : List MV) (μ : MM) (G : MG) : ev 46 37 [a0, a1] (vR x :: st) μ G = ev 46 38 [a0, a1] (vR x :: vR x :: st) μ G := ev_stp pg_46_37 rfl
theorem pg_46_38 : mm_prog 46 38 = some (0, .getfield 46, 41, [6, 6, 0]) := by decide +kernel
theorem xe_46_38 (a0 a1 : Option MV) (x : Int) (st : List MV) (μ : MM) (G : MG) : ev 46 38 [a0, a1] (vR x :: st) μ G = if gk G x = 6 then ev 46 41 [a0, a1] (vI (μ x 6) :: st) μ G else none := ev_if pg_46_38 rfl
theorem pg_46_41 : mm_prog 46 41 = some (0, .iconst 1, 42, []) := by decide +kernel
theorem xe_46_41 (a0 a1 : Option MV) (st : List MV) (μ : MM) (G : MG) : ev 46 41 [a0, a1] st μ G = ev 46 42 [a0, a1] (vI (1) :: st) μ G := ev_stp pg_46_41 rfl
theorem pg_46_42 : mm_prog 46 42 = some (0, .iadd, 43, []) := by decide +kernel
theorem xe_46_42 (a0 a1 : Option MV) (x y : Int) (st : List MV) (μ : MM) (G : MG) : ev 46 42 [a0, a1] (vI y :: vI x :: st) μ G = ev 46 43 [a0, a1] (vI (w32 (x + y)) :: st) μ G := ev_stp pg_46_42 rfl
theorem pg_46_43 : mm_prog 46 43 = some (0, .putfield 46, 46, [6, 6, 0]) := by decide +kernel
theorem xe_46_43 (a0 a1 : Option MV) (x y : Int) (st : List MV) (μ : MM) (G : MG) : ev 46 43 [a0, a1] (vI x :: vR y :: st) μ G = if gk G y = 6 then ev 46 46 [a0, a1] st (mset μ y 6 x) G else none := ev_put0 pg_46_43
theorem pg_46_46 : mm_prog 46 46 = some (2, .return_, 47, []) := by decide +kernel
theorem xe_46_46 (a0 a1 : Option MV) (μ : MM) (G : MG) : ev 46 46 [a0, a1] [] μ G = some (none, μ, G) := ev_ret pg_46_46 rfl
-- X6_readName
theorem pg_47_0 : mm_prog 47 0 = some (0, .aload_n 0, 1, []) := by decide +kernel
theorem xe_47_0 (a1 a2 a3 : Option MV) (x : Int) (st : List MV) (μ : MM) (G : MG) : ev 47 0 [some (vR x), a1, a2, a3] st μ G = ev 47 1 [some (vR x), a1, a2, a3] (vR x :: st) μ G := ev_stp pg_47_0 rfl
theorem pg_47_1 : mm_prog 47 1 = some (0, .iconst 0, 2, []) := by decide +kernel
theorem xe_47_1 (a0 a1 a2 a3 : Option MV) (st : List MV) (μ : MM) (G : MG) : ev 47 1 [a0, a1, a2, a3] st μ G = ev 47 2 [a0, a1, a2, a3] (vI (0) :: st) μ G := ev_stp pg_47_1 rfl
theorem pg_47_2 : mm_prog 47 2 = some (0, .putfield 52, 5, [6, 9, 0]) := by decide +kernel
theorem xe_47_2 (a0 a1 a2 a3 : Option MV) (x y : Int) (st : List MV) (μ : MM) (G : MG) : ev 47 2 [a0, a1, a2, a3] (vI x :: vR y :: st) μ G = if gk G y = 6 then ev 47 5 [a0, a1, a2, a3] st (mset μ y 9 x) G else none := ev_put0 pg_47_2
theorem pg_47_5 : mm_prog 47 5 = some (0, .iconst 0, 6, []) := by decide +kernel
theorem xe_47_5 (a0 a1 a2 a3 : Option MV) (st : List MV) (μ : MM) (G : MG) : ev 47 5 [a0, a1, a2, a3] st μ G = ev 47 6 [a0, a1, a2, a3] (vI (0) :: st) μ G := ev_stp pg_47_5 rfl
theorem pg_47_6 : mm_prog 47 6 = some (0, .istore_n 2, 7, []) := by decide +kernel
theorem xe_47_6 (a0 a1 a2 a3 : Option MV) (x : Int) (st : List MV) (μ : MM) (G : MG) (h : mm_nL a1 = true) : ev 47 6 [a0, a1, a2, a3] (vI x :: st) μ G = ev 47 7 [a0, a1, some (vI x), a3] st μ G := ev_st pg_47_6 rfl (mm_nl_of h) (Nat.le_of_ble_eq_true rfl)
theorem pg_47_7 : mm_prog 47 7 = some (0, .iload_n 2, 8, []) := by decide +kernel
theorem xe_47_7 (a0 a1 a3 : Option MV) (x : Int) (st : List MV) (μ : MM) (G : MG) : ev 47 7 [a0, a1, some (vI x), a3] st μ G = ev 47 8 [a0, a1, some (vI x), a3] (vI x :: st) μ G := ev_stp pg_47_7 rfl
theorem pg_47_8 : mm_prog 47 8 = some (0, .bipush 13, 10, []) := by decide +kernel
theorem xe_47_8 (a0 a1 a2 a3 : Option MV) (st : List MV) (μ : MM) (G : MG) : ev 47 8 [a0, a1, a2, a3] st μ G = ev 47 10 [a0, a1, a2, a3] (vI (13) :: st) μ G := ev_stp pg_47_8 rfl
theorem pg_47_10 : mm_prog 47 10 = some (0, .if_icmp .ge 64, 13, []) := by decide +kernel
theorem xe_47_10 (a0 a1 a2 a3 : Option MV) (x y : Int) (st : List MV) (μ : MM) (G : MG) : ev 47 10 [a0, a1, a2, a3] (vI y :: vI x :: st) μ G = if y ≤ x then ev 47 74 [a0, a1, a2, a3] st μ G else ev 47 13 [a0, a1, a2, a3] st μ G := ev_br (mm_cnd_ge x y) pg_47_10 rfl
theorem pg_47_13 : mm_prog 47 13 = some (0, .aload_n 0, 14, []) := by decide +kernel
theorem xe_47_13 (a1 a2 a3 : Option MV) (x : Int) (st : List MV) (μ : MM) (G : MG) : ev 47 13 [some (vR x), a1, a2, a3] st μ G = ev 47 14 [some (vR x), a1, a2, a3] (vR x :: st) μ G := ev_stp pg_47_13 rfl
theorem pg_47_14 : mm_prog 47 14 = some (0, .getfield 12, 17, [6, 0, 2]) := by decide +kernel
theorem xe_47_14 (a0 a1 a2 a3 : Option MV) (x : Int) (st : List MV) (μ : MM) (G : MG) : ev 47 14 [a0, a1, a2, a3] (vR x :: st) μ G = if gk G x = 6 then ev 47 17 [a0, a1, a2, a3] (vR (μ x 0) :: st) μ G else none := ev_if pg_47_14 rfl
theorem pg_47_17 : mm_prog 47 17 = some (0, .iload_n 1, 18, []) := by decide +kernel
theorem xe_47_17 (a0 a2 a3 : Option MV) (x : Int) (st : List MV) (μ : MM) (G : MG) : ev 47 17 [a0, some (vI x), a2, a3] st μ G = ev 47 18 [a0, some (vI x), a2, a3] (vI x :: st) μ G := ev_stp pg_47_17 rfl
theorem pg_47_18 : mm_prog 47 18 = some (0, .iload_n 2, 19, []) := by decide +kernel
theorem xe_47_18 (a0 a1 a3 : Option MV) (x : Int) (st : List MV) (μ : MM) (G : MG) : ev 47 18 [a0, a1, some (vI x), a3] st μ G = ev 47 19 [a0, a1, some (vI x), a3] (vI x :: st) μ G := ev_stp pg_47_18 rfl
theorem pg_47_19 : mm_prog 47 19 = some (0, .iadd, 20, []) := by decide +kernel
theorem xe_47_19 (a0 a1 a2 a3 : Option MV) (x y : Int) (st : List MV) (μ : MM) (G : MG) : ev 47 19 [a0, a1, a2, a3] (vI y :: vI x :: st) μ G = ev 47 20 [a0, a1, a2, a3] (vI (w32 (x + y)) :: st) μ G := ev_stp pg_47_19 rfl
theorem pg_47_20 : mm_prog 47 20 = some (1, .invokevirtual 72, 23, [1, 3, 1, 0]) := by decide +kernel
theorem xe_47_20 (a0 a1 a2 a3 : Option MV) (x0 z : Int) (μ : MM) (G : MG) : ev 47 20 [a0, a1, a2, a3] (vI x0 :: vR z :: []) μ G = if gk G z = 0 ∧ 0 < z then (ev 3 0 [some (vR z), some (vI x0)] [] μ G).bind (fun q => ev 47 23 [a0, a1, a2, a3] (q.1.toList ++ []) q.2.1 q.2.2) else none := ev_calV (as := [vR z, vI x0]) (r := []) mx_3 pg_47_20 rfl rfl (Nat.le_of_ble_eq_true rfl) (Nat.le_of_ble_eq_true rfl)
theorem pg_47_23 : mm_prog 47 23 = some (0, .istore_n 3, 24, []) := by decide +kernel
theorem xe_47_23 (a0 a1 a2 a3 : Option MV) (x : Int) (st : List MV) (μ : MM) (G : MG) (h : mm_nL a2 = true) : ev 47 23 [a0, a1, a2, a3] (vI x :: st) μ G = ev 47 24 [a0, a1, a2, some (vI x)] st μ G := ev_st pg_47_23 rfl (mm_nl_of h) (Nat.le_of_ble_eq_true rfl)
theorem pg_47_24 : mm_prog 47 24 = some (0, .iload_n 3, 25, []) := by decide +kernel
theorem xe_47_24 (a0 a1 a2 : Option MV) (x : Int) (st : List MV) (μ : MM) (G : MG) : ev 47 24 [a0, a1, a2, some (vI x)] st μ G = ev 47 25 [a0, a1, a2, some (vI x)] (vI x :: st) μ G := ev_stp pg_47_24 rfl
theorem pg_47_25 : mm_prog 47 25 = some (0, .bipush 10, 27, []) := by decide +kernel
theorem xe_47_25 (a0 a1 a2 a3 : Option MV) (st : List MV) (μ : MM) (G : MG) : ev 47 25 [a0, a1, a2, a3] st μ G = ev 47 27 [a0, a1, a2, a3] (vI (10) :: st) μ G := ev_stp pg_47_25 rfl
theorem pg_47_27 : mm_prog 47 27 = some (0, .if_icmp .eq 47, 30, []) := by decide +kernel
theorem xe_47_27 (a0 a1 a2 a3 : Option MV) (x y : Int) (st : List MV) (μ : MM) (G : MG) : ev 47 27 [a0, a1, a2, a3] (vI y :: vI x :: st) μ G = if x = y then ev 47 74 [a0, a1, a2, a3] st μ G else ev 47 30 [a0, a1, a2, a3] st μ G := ev_br (mm_cnd_eq x y) pg_47_27 rfl
theorem pg_47_30 : mm_prog 47 30 = some (0, .iload_n 3, 31, []) := by decide +kernel
theorem xe_47_30 (a0 a1 a2 : Option MV) (x : Int) (st : List MV) (μ : MM) (G : MG) : ev 47 30 [a0, a1, a2, some (vI x)] st μ G = ev 47 31 [a0, a1, a2, some (vI x)] (vI x :: st) μ G := ev_stp pg_47_30 rfl
theorem pg_47_31 : mm_prog 47 31 = some (0, .ifCond .ne 6, 34, []) := by decide +kernel
theorem xe_47_31 (a0 a1 a2 a3 : Option MV) (x : Int) (st : List MV) (μ : MM) (G : MG) : ev 47 31 [a0, a1, a2, a3] (vI x :: st) μ G = if ¬ x = 0 then ev 47 37 [a0, a1, a2, a3] st μ G else ev 47 34 [a0, a1, a2, a3] st μ G := ev_br (mm_cnd_ne x 0) pg_47_31 rfl
theorem pg_47_34 : mm_prog 47 34 = some (0, .goto 40, 37, []) := by decide +kernel
theorem xe_47_34 (a0 a1 a2 a3 : Option MV) (st : List MV) (μ : MM) (G : MG) : ev 47 34 [a0, a1, a2, a3] st μ G = ev 47 74 [a0, a1, a2, a3] st μ G := ev_stp pg_47_34 rfl
theorem pg_47_37 : mm_prog 47 37 = some (0, .aload_n 0, 38, []) := by decide +kernel
theorem xe_47_37 (a1 a2 a3 : Option MV) (x : Int) (st : List MV) (μ : MM) (G : MG) : ev 47 37 [some (vR x), a1, a2, a3] st μ G = ev 47 38 [some (vR x), a1, a2, a3] (vR x :: st) μ G := ev_stp pg_47_37 rfl
theorem pg_47_38 : mm_prog 47 38 = some (0, .getfield 28, 41, [6, 3, 2]) := by decide +kernel
theorem xe_47_38 (a0 a1 a2 a3 : Option MV) (x : Int) (st : List MV) (μ : MM) (G : MG) : ev 47 38 [a0, a1, a2, a3] (vR x :: st) μ G = if gk G x = 6 then ev 47 41 [a0, a1, a2, a3] (vR (μ x 3) :: st) μ G else none := ev_if pg_47_38 rfl
theorem pg_47_41 : mm_prog 47 41 = some (0, .iload_n 2, 42, []) := by decide +kernel
theorem xe_47_41 (a0 a1 a3 : Option MV) (x : Int) (st : List MV) (μ : MM) (G : MG) : ev 47 41 [a0, a1, some (vI x), a3] st μ G = ev 47 42 [a0, a1, some (vI x), a3] (vI x :: st) μ G := ev_stp pg_47_41 rfl
theorem pg_47_42 : mm_prog 47 42 = some (0, .iload_n 3, 43, []) := by decide +kernel
theorem xe_47_42 (a0 a1 a2 : Option MV) (x : Int) (st : List MV) (μ : MM) (G : MG) : ev 47 42 [a0, a1, a2, some (vI x)] st μ G = ev 47 43 [a0, a1, a2, some (vI x)] (vI x :: st) μ G := ev_stp pg_47_42 rfl
theorem pg_47_43 : mm_prog 47 43 = some (0, .bipush 32, 45, []) := by decide +kernel
theorem xe_47_43 (a0 a1 a2 a3 : Option MV) (st : List MV) (μ : MM) (G : MG) : ev 47 43 [a0, a1, a2, a3] st μ G = ev 47 45 [a0, a1, a2, a3] (vI (32) :: st) μ G := ev_stp pg_47_43 rfl
theorem pg_47_45 : mm_prog 47 45 = some (0, .if_icmp .lt 13, 48, []) := by decide +kernel
theorem xe_47_45 (a0 a1 a2 a3 : Option MV) (x y : Int) (st : List MV) (μ : MM) (G : MG) : ev 47 45 [a0, a1, a2, a3] (vI y :: vI x :: st) μ G = if x < y then ev 47 58 [a0, a1, a2, a3] st μ G else ev 47 48 [a0, a1, a2, a3] st μ G := ev_br (mm_cnd_lt x y) pg_47_45 rfl
theorem pg_47_48 : mm_prog 47 48 = some (0, .iload_n 3, 49, []) := by decide +kernel
theorem xe_47_48 (a0 a1 a2 : Option MV) (x : Int) (st : List MV) (μ : MM) (G : MG) : ev 47 48 [a0, a1, a2, some (vI x)] st μ G = ev 47 49 [a0, a1, a2, some (vI x)] (vI x :: st) μ G := ev_stp pg_47_48 rfl
theorem pg_47_49 : mm_prog 47 49 = some (0, .bipush 126, 51, []) := by decide +kernel
theorem xe_47_49 (a0 a1 a2 a3 : Option MV) (st : List MV) (μ : MM) (G : MG) : ev 47 49 [a0, a1, a2, a3] st μ G = ev 47 51 [a0, a1, a2, a3] (vI (126) :: st) μ G := ev_stp pg_47_49 rfl
theorem pg_47_51 : mm_prog 47 51 = some (0, .if_icmp .gt 7, 54, []) := by decide +kernel
theorem xe_47_51 (a0 a1 a2 a3 : Option MV) (x y : Int) (st : List MV) (μ : MM) (G : MG) : ev 47 51 [a0, a1, a2, a3] (vI y :: vI x :: st) μ G = if y < x then ev 47 58 [a0, a1, a2, a3] st μ G else ev 47 54 [a0, a1, a2, a3] st μ G := ev_br (mm_cnd_gt x y) pg_47_51 rfl
theorem pg_47_54 : mm_prog 47 54 = some (0, .iload_n 3, 55, []) := by decide +kernel
theorem xe_47_54 (a0 a1 a2 : Option MV) (x : Int) (st : List MV) (μ : MM) (G : MG) : ev 47 54 [a0, a1, a2, some (vI x)] st μ G = ev 47 55 [a0, a1, a2, some (vI x)] (vI x :: st) μ G := ev_stp pg_47_54 rfl
theorem pg_47_55 : mm_prog 47 55 = some (0, .goto 5, 58, []) := by decide +kernel
theorem xe_47_55 (a0 a1 a2 a3 : Option MV) (st : List MV) (μ : MM) (G : MG) : ev 47 55 [a0, a1, a2, a3] st μ G = ev 47 60 [a0, a1, a2, a3] st μ G := ev_stp pg_47_55 rfl
theorem pg_47_58 : mm_prog 47 58 = some (0, .bipush 63, 60, []) := by decide +kernel
theorem xe_47_58 (a0 a1 a2 a3 : Option MV) (st : List MV) (μ : MM) (G : MG) : ev 47 58 [a0, a1, a2, a3] st μ G = ev 47 60 [a0, a1, a2, a3] (vI (63) :: st) μ G := ev_stp pg_47_58 rfl
theorem pg_47_60 : mm_prog 47 60 = some (0, .iastore, 61, []) := by decide +kernel
theorem xe_47_60 (a0 a1 a2 a3 : Option MV) (x y z : Int) (st : List MV) (μ : MM) (G : MG) : ev 47 60 [a0, a1, a2, a3] (vI x :: vI y :: vR z :: st) μ G = if gk G z = 100 ∧ 0 ≤ y ∧ y < gl G z ∧ 10 ≤ z then ev 47 61 [a0, a1, a2, a3] st (mset μ z y x) G else none := ev_if pg_47_60 rfl
theorem pg_47_61 : mm_prog 47 61 = some (0, .aload_n 0, 62, []) := by decide +kernel
theorem xe_47_61 (a1 a2 a3 : Option MV) (x : Int) (st : List MV) (μ : MM) (G : MG) : ev 47 61 [some (vR x), a1, a2, a3] st μ G = ev 47 62 [some (vR x), a1, a2, a3] (vR x :: st) μ G := ev_stp pg_47_61 rfl
theorem pg_47_62 : mm_prog 47 62 = some (0, .iload_n 2, 63, []) := by decide +kernel
theorem xe_47_62 (a0 a1 a3 : Option MV) (x : Int) (st : List MV) (μ : MM) (G : MG) : ev 47 62 [a0, a1, some (vI x), a3] st μ G = ev 47 63 [a0, a1, some (vI x), a3] (vI x :: st) μ G := ev_stp pg_47_62 rfl
theorem pg_47_63 : mm_prog 47 63 = some (0, .iconst 1, 64, []) := by decide +kernel
theorem xe_47_63 (a0 a1 a2 a3 : Option MV) (st : List MV) (μ : MM) (G : MG) : ev 47 63 [a0, a1, a2, a3] st μ G = ev 47 64 [a0, a1, a2, a3] (vI (1) :: st) μ G := ev_stp pg_47_63 rfl
theorem pg_47_64 : mm_prog 47 64 = some (0, .iadd, 65, []) := by decide +kernel
theorem xe_47_64 (a0 a1 a2 a3 : Option MV) (x y : Int) (st : List MV) (μ : MM) (G : MG) : ev 47 64 [a0, a1, a2, a3] (vI y :: vI x :: st) μ G = ev 47 65 [a0, a1, a2, a3] (vI (w32 (x + y)) :: st) μ G := ev_stp pg_47_64 rfl
theorem pg_47_65 : mm_prog 47 65 = some (0, .putfield 52, 68, [6, 9, 0]) := by decide +kernel
theorem xe_47_65 (a0 a1 a2 a3 : Option MV) (x y : Int) (st : List MV) (μ : MM) (G : MG) : ev 47 65 [a0, a1, a2, a3] (vI x :: vR y :: st) μ G = if gk G y = 6 then ev 47 68 [a0, a1, a2, a3] st (mset μ y 9 x) G else none := ev_put0 pg_47_65
theorem pg_47_68 : mm_prog 47 68 = some (0, .iinc 2 1, 71, []) := by decide +kernel
theorem xe_47_68 (a0 a1 a3 : Option MV) (x : Int) (st : List MV) (μ : MM) (G : MG) (h : mm_nL a1 = true) : ev 47 68 [a0, a1, some (vI x), a3] st μ G = ev 47 71 [a0, a1, some (vI (w32 (x + (1)))), a3] st μ G := ev_st pg_47_68 rfl (mm_nl_of h) (Nat.le_of_ble_eq_true rfl)
theorem pg_47_71 : mm_prog 47 71 = some (0, .goto (-64), 74, []) := by decide +kernel
theorem xe_47_71 (a0 a1 a2 a3 : Option MV) (st : List MV) (μ : MM) (G : MG) : ev 47 71 [a0, a1, a2, a3] st μ G = ev 47 7 [a0, a1, a2, a3] st μ G := ev_stp pg_47_71 rfl
theorem pg_47_74 : mm_prog 47 74 = some (2, .return_, 75, []) := by decide +kernel
theorem xe_47_74 (a0 a1 a2 a3 : Option MV) (μ : MM) (G : MG) : ev 47 74 [a0, a1, a2, a3] [] μ G = some (none, μ, G) := ev_ret pg_47_74 rfl
-- X6_readData
theorem pg_48_0 : mm_prog 48 0 = some (0, .iconst 4, 1, []) := by decide +kernel
theorem xe_48_0 (a0 a1 a2 a3 a4 a5 a6 : Option MV) (st : List MV) (μ : MM) (G : MG) : ev 48 0 [a0, a1, a2, a3, a4, a5, a6] st μ G = ev 48 1 [a0, a1, a2, a3, a4, a5, a6] (vI (4) :: st) μ G := ev_stp pg_48_0 rfl
theorem pg_48_1 : mm_prog 48 1 = some (0, .istore_n 3, 2, []) := by decide +kernel
theorem xe_48_1 (a0 a1 a2 a3 a4 a5 a6 : Option MV) (x : Int) (st : List MV) (μ : MM) (G : MG) (h : mm_nL a2 = true) : ev 48 1 [a0, a1, a2, a3, a4, a5, a6] (vI x :: st) μ G = ev 48 2 [a0, a1, a2, some (vI x), a4, a5, a6] st μ G := ev_st pg_48_1 rfl (mm_nl_of h) (Nat.le_of_ble_eq_true rfl)
theorem pg_48_2 : mm_prog 48 2 = some (0, .iload_n 3, 3, []) := by decide +kernel
theorem xe_48_2 (a0 a1 a2 a4 a5 a6 : Option MV) (x : Int) (st : List MV) (μ : MM) (G : MG) : ev 48 2 [a0, a1, a2, some (vI x), a4, a5, a6] st μ G = ev 48 3 [a0, a1, a2, some (vI x), a4, a5, a6] (vI x :: st) μ G := ev_stp pg_48_2 rfl
theorem pg_48_3 : mm_prog 48 3 = some (0, .iload_n 2, 4, []) := by decide +kernel
theorem xe_48_3 (a0 a1 a3 a4 a5 a6 : Option MV) (x : Int) (st : List MV) (μ : MM) (G : MG) : ev 48 3 [a0, a1, some (vI x), a3, a4, a5, a6] st μ G = ev 48 4 [a0, a1, some (vI x), a3, a4, a5, a6] (vI x :: st) μ G := ev_stp pg_48_3 rfl
theorem pg_48_4 : mm_prog 48 4 = some (0, .if_icmp .ge 107, 7, []) := by decide +kernel
theorem xe_48_4 (a0 a1 a2 a3 a4 a5 a6 : Option MV) (x y : Int) (st : List MV) (μ : MM) (G : MG) : ev 48 4 [a0, a1, a2, a3, a4, a5, a6] (vI y :: vI x :: st) μ G = if y ≤ x then ev 48 111 [a0, a1, a2, a3, a4, a5, a6] st μ G else ev 48 7 [a0, a1, a2, a3, a4, a5, a6] st μ G := ev_br (mm_cnd_ge x y) pg_48_4 rfl
theorem pg_48_7 : mm_prog 48 7 = some (0, .aload_n 0, 8, []) := by decide +kernel
theorem xe_48_7 (a1 a2 a3 a4 a5 a6 : Option MV) (x : Int) (st : List MV) (μ : MM) (G : MG) : ev 48 7 [some (vR x), a1, a2, a3, a4, a5, a6] st μ G = ev 48 8 [some (vR x), a1, a2, a3, a4, a5, a6] (vR x :: st) μ G := ev_stp pg_48_7 rfl
theorem pg_48_8 : mm_prog 48 8 = some (0, .getfield 12, 11, [6, 0, 2]) := by decide +kernel
theorem xe_48_8 (a0 a1 a2 a3 a4 a5 a6 : Option MV) (x : Int) (st : List MV) (μ : MM) (G : MG) : ev 48 8 [a0, a1, a2, a3, a4, a5, a6] (vR x :: st) μ G = if gk G x = 6 then ev 48 11 [a0, a1, a2, a3, a4, a5, a6] (vR (μ x 0) :: st) μ G else none := ev_if pg_48_8 rfl
theorem pg_48_11 : mm_prog 48 11 = some (0, .iload_n 1, 12, []) := by decide +kernel
theorem xe_48_11 (a0 a2 a3 a4 a5 a6 : Option MV) (x : Int) (st : List MV) (μ : MM) (G : MG) : ev 48 11 [a0, some (vI x), a2, a3, a4, a5, a6] st μ G = ev 48 12 [a0, some (vI x), a2, a3, a4, a5, a6] (vI x :: st) μ G := ev_stp pg_48_11 rfl
theorem pg_48_12 : mm_prog 48 12 = some (0, .iload_n 3, 13, []) := by decide +kernel
theorem xe_48_12 (a0 a1 a2 a4 a5 a6 : Option MV) (x : Int) (st : List MV) (μ : MM) (G : MG) : ev 48 12 [a0, a1, a2, some (vI x), a4, a5, a6] st μ G = ev 48 13 [a0, a1, a2, some (vI x), a4, a5, a6] (vI x :: st) μ G := ev_stp pg_48_12 rfl
theorem pg_48_13 : mm_prog 48 13 = some (0, .iadd, 14, []) := by decide +kernel
theorem xe_48_13 (a0 a1 a2 a3 a4 a5 a6 : Option MV) (x y : Int) (st : List MV) (μ : MM) (G : MG) : ev 48 13 [a0, a1, a2, a3, a4, a5, a6] (vI y :: vI x :: st) μ G = ev 48 14 [a0, a1, a2, a3, a4, a5, a6] (vI (w32 (x + y)) :: st) μ G := ev_stp pg_48_13 rfl
theorem pg_48_14 : mm_prog 48 14 = some (1, .invokevirtual 72, 17, [1, 3, 1, 0]) := by decide +kernel
theorem xe_48_14 (a0 a1 a2 a3 a4 a5 a6 : Option MV) (x0 z : Int) (μ : MM) (G : MG) : ev 48 14 [a0, a1, a2, a3, a4, a5, a6] (vI x0 :: vR z :: []) μ G = if gk G z = 0 ∧ 0 < z then (ev 3 0 [some (vR z), some (vI x0)] [] μ G).bind (fun q => ev 48 17 [a0, a1, a2, a3, a4, a5, a6] (q.1.toList ++ []) q.2.1 q.2.2) else none := ev_calV (as := [vR z, vI x0]) (r := []) mx_3 pg_48_14 rfl rfl (Nat.le_of_ble_eq_true rfl) (Nat.le_of_ble_eq_true rfl)
theorem pg_48_17 : mm_prog 48 17 = some (0, .iconst 5, 18, []) := by decide +kernel
theorem xe_48_17 (a0 a1 a2 a3 a4 a5 a6 : Option MV) (st : List MV) (μ : MM) (G : MG) : ev 48 17 [a0, a1, a2, a3, a4, a5, a6] st μ G = ev 48 18 [a0, a1, a2, a3, a4, a5, a6] (vI (5) :: st) μ G := ev_stp pg_48_17 rfl
theorem pg_48_18 : mm_prog 48 18 = some (0, .ishr, 19, []) := by decide +kernel
theorem xe_48_18 (a0 a1 a2 a3 a4 a5 a6 : Option MV) (x y : Int) (st : List MV) (μ : MM) (G : MG) : ev 48 18 [a0, a1, a2, a3, a4, a5, a6] (vI y :: vI x :: st) μ G = ev 48 19 [a0, a1, a2, a3, a4, a5, a6] (vI (mm_shr x y) :: st) μ G := ev_stp pg_48_18 rfl
theorem pg_48_19 : mm_prog 48 19 = some (0, .istore 4, 21, []) := by decide +kernel
theorem xe_48_19 (a0 a1 a2 a3 a4 a5 a6 : Option MV) (x : Int) (st : List MV) (μ : MM) (G : MG) (h : mm_nL a3 = true) : ev 48 19 [a0, a1, a2, a3, a4, a5, a6] (vI x :: st) μ G = ev 48 21 [a0, a1, a2, a3, some (vI x), a5, a6] st μ G := ev_st pg_48_19 rfl (mm_nl_of h) (Nat.le_of_ble_eq_true rfl)
theorem pg_48_21 : mm_prog 48 21 = some (0, .aload_n 0, 22, []) := by decide +kernel
theorem xe_48_21 (a1 a2 a3 a4 a5 a6 : Option MV) (x : Int) (st : List MV) (μ : MM) (G : MG) : ev 48 21 [some (vR x), a1, a2, a3, a4, a5, a6] st μ G = ev 48 22 [some (vR x), a1, a2, a3, a4, a5, a6] (vR x :: st) μ G := ev_stp pg_48_21 rfl
theorem pg_48_22 : mm_prog 48 22 = some (0, .getfield 12, 25, [6, 0, 2]) := by decide +kernel
theorem xe_48_22 (a0 a1 a2 a3 a4 a5 a6 : Option MV) (x : Int) (st : List MV) (μ : MM) (G : MG) : ev 48 22 [a0, a1, a2, a3, a4, a5, a6] (vR x :: st) μ G = if gk G x = 6 then ev 48 25 [a0, a1, a2, a3, a4, a5, a6] (vR (μ x 0) :: st) μ G else none := ev_if pg_48_22 rfl
theorem pg_48_25 : mm_prog 48 25 = some (0, .iload_n 1, 26, []) := by decide +kernel
theorem xe_48_25 (a0 a2 a3 a4 a5 a6 : Option MV) (x : Int) (st : List MV) (μ : MM) (G : MG) : ev 48 25 [a0, some (vI x), a2, a3, a4, a5, a6] st μ G = ev 48 26 [a0, some (vI x), a2, a3, a4, a5, a6] (vI x :: st) μ G := ev_stp pg_48_25 rfl
theorem pg_48_26 : mm_prog 48 26 = some (0, .iload_n 3, 27, []) := by decide +kernel
theorem xe_48_26 (a0 a1 a2 a4 a5 a6 : Option MV) (x : Int) (st : List MV) (μ : MM) (G : MG) : ev 48 26 [a0, a1, a2, some (vI x), a4, a5, a6] st μ G = ev 48 27 [a0, a1, a2, some (vI x), a4, a5, a6] (vI x :: st) μ G := ev_stp pg_48_26 rfl
theorem pg_48_27 : mm_prog 48 27 = some (0, .iadd, 28, []) := by decide +kernel
theorem xe_48_27 (a0 a1 a2 a3 a4 a5 a6 : Option MV) (x y : Int) (st : List MV) (μ : MM) (G : MG) : ev 48 27 [a0, a1, a2, a3, a4, a5, a6] (vI y :: vI x :: st) μ G = ev 48 28 [a0, a1, a2, a3, a4, a5, a6] (vI (w32 (x + y)) :: st) μ G := ev_stp pg_48_27 rfl
theorem pg_48_28 : mm_prog 48 28 = some (1, .invokevirtual 72, 31, [1, 3, 1, 0]) := by decide +kernel
theorem xe_48_28 (a0 a1 a2 a3 a4 a5 a6 : Option MV) (x0 z : Int) (μ : MM) (G : MG) : ev 48 28 [a0, a1, a2, a3, a4, a5, a6] (vI x0 :: vR z :: []) μ G = if gk G z = 0 ∧ 0 < z then (ev 3 0 [some (vR z), some (vI x0)] [] μ G).bind (fun q => ev 48 31 [a0, a1, a2, a3, a4, a5, a6] (q.1.toList ++ []) q.2.1 q.2.2) else none := ev_calV (as := [vR z, vI x0]) (r := []) mx_3 pg_48_28 rfl rfl (Nat.le_of_ble_eq_true rfl) (Nat.le_of_ble_eq_true rfl)
theorem pg_48_31 : mm_prog 48 31 = some (0, .bipush 31, 33, []) := by decide +kernel
theorem xe_48_31 (a0 a1 a2 a3 a4 a5 a6 : Option MV) (st : List MV) (μ : MM) (G : MG) : ev 48 31 [a0, a1, a2, a3, a4, a5, a6] st μ G = ev 48 33 [a0, a1, a2, a3, a4, a5, a6] (vI (31) :: st) μ G := ev_stp pg_48_31 rfl
theorem pg_48_33 : mm_prog 48 33 = some (0, .iand, 34, []) := by decide +kernel
theorem xe_48_33 (a0 a1 a2 a3 a4 a5 a6 : Option MV) (x y : Int) (st : List MV) (μ : MM) (G : MG) : ev 48 33 [a0, a1, a2, a3, a4, a5, a6] (vI y :: vI x :: st) μ G = ev 48 34 [a0, a1, a2, a3, a4, a5, a6] (vI (mm_and x y) :: st) μ G := ev_stp pg_48_33 rfl
theorem pg_48_34 : mm_prog 48 34 = some (0, .istore 5, 36, []) := by decide +kernel
theorem xe_48_34 (a0 a1 a2 a3 a4 a5 a6 : Option MV) (x : Int) (st : List MV) (μ : MM) (G : MG) (h : mm_nL a4 = true) : ev 48 34 [a0, a1, a2, a3, a4, a5, a6] (vI x :: st) μ G = ev 48 36 [a0, a1, a2, a3, a4, some (vI x), a6] st μ G := ev_st pg_48_34 rfl (mm_nl_of h) (Nat.le_of_ble_eq_true rfl)
theorem pg_48_36 : mm_prog 48 36 = some (0, .iload_n 1, 37, []) := by decide +kernel
theorem xe_48_36 (a0 a2 a3 a4 a5 a6 : Option MV) (x : Int) (st : List MV) (μ : MM) (G : MG) : ev 48 36 [a0, some (vI x), a2, a3, a4, a5, a6] st μ G = ev 48 37 [a0, some (vI x), a2, a3, a4, a5, a6] (vI x :: st) μ G := ev_stp pg_48_36 rfl
theorem pg_48_37 : mm_prog 48 37 = some (0, .iload_n 3, 38, []) := by decide +kernel
theorem xe_48_37 (a0 a1 a2 a4 a5 a6 : Option MV) (x : Int) (st : List MV) (μ : MM) (G : MG) : ev 48 37 [a0, a1, a2, some (vI x), a4, a5, a6] st μ G = ev 48 38 [a0, a1, a2, some (vI x), a4, a5, a6] (vI x :: st) μ G := ev_stp pg_48_37 rfl
theorem pg_48_38 : mm_prog 48 38 = some (0, .iadd, 39, []) := by decide +kernel
theorem xe_48_38 (a0 a1 a2 a3 a4 a5 a6 : Option MV) (x y : Int) (st : List MV) (μ : MM) (G : MG) : ev 48 38 [a0, a1, a2, a3, a4, a5, a6] (vI y :: vI x :: st) μ G = ev 48 39 [a0, a1, a2, a3, a4, a5, a6] (vI (w32 (x + y)) :: st) μ G := ev_stp pg_48_38 rfl
theorem pg_48_39 : mm_prog 48 39 = some (0, .iconst 1, 40, []) := by decide +kernel
theorem xe_48_39 (a0 a1 a2 a3 a4 a5 a6 : Option MV) (st : List MV) (μ : MM) (G : MG) : ev 48 39 [a0, a1, a2, a3, a4, a5, a6] st μ G = ev 48 40 [a0, a1, a2, a3, a4, a5, a6] (vI (1) :: st) μ G := ev_stp pg_48_39 rfl
theorem pg_48_40 : mm_prog 48 40 = some (0, .iadd, 41, []) := by decide +kernel
theorem xe_48_40 (a0 a1 a2 a3 a4 a5 a6 : Option MV) (x y : Int) (st : List MV) (μ : MM) (G : MG) : ev 48 40 [a0, a1, a2, a3, a4, a5, a6] (vI y :: vI x :: st) μ G = ev 48 41 [a0, a1, a2, a3, a4, a5, a6] (vI (w32 (x + y)) :: st) μ G := ev_stp pg_48_40 rfl
theorem pg_48_41 : mm_prog 48 41 = some (0, .istore 6, 43, []) := by decide +kernel
theorem xe_48_41 (a0 a1 a2 a3 a4 a5 a6 : Option MV) (x : Int) (st : List MV) (μ : MM) (G : MG) (h : mm_nL a5 = true) : ev 48 41 [a0, a1, a2, a3, a4, a5, a6] (vI x :: st) μ G = ev 48 43 [a0, a1, a2, a3, a4, a5, some (vI x)] st μ G := ev_st pg_48_41 rfl (mm_nl_of h) (Nat.le_of_ble_eq_true rfl)
theorem pg_48_43 : mm_prog 48 43 = some (0, .iload 4, 45, []) := by decide +kernel
theorem xe_48_43 (a0 a1 a2 a3 a5 a6 : Option MV) (x : Int) (st : List MV) (μ : MM) (G : MG) : ev 48 43 [a0, a1, a2, a3, some (vI x), a5, a6] st μ G = ev 48 45 [a0, a1, a2, a3, some (vI x), a5, a6] (vI x :: st) μ G := ev_stp pg_48_43 rfl
theorem pg_48_45 : mm_prog 48 45 = some (0, .iconst 1, 46, []) := by decide +kernel
theorem xe_48_45 (a0 a1 a2 a3 a4 a5 a6 : Option MV) (st : List MV) (μ : MM) (G : MG) : ev 48 45 [a0, a1, a2, a3, a4, a5, a6] st μ G = ev 48 46 [a0, a1, a2, a3, a4, a5, a6] (vI (1) :: st) μ G := ev_stp pg_48_45 rfl
theorem pg_48_46 : mm_prog 48 46 = some (0, .if_icmp .ne 19, 49, []) := by decide +kernel
theorem xe_48_46 (a0 a1 a2 a3 a4 a5 a6 : Option MV) (x y : Int) (st : List MV) (μ : MM) (G : MG) : ev 48 46 [a0, a1, a2, a3, a4, a5, a6] (vI y :: vI x :: st) μ G = if ¬ x = y then ev 48 65 [a0, a1, a2, a3, a4, a5, a6] st μ G else ev 48 49 [a0, a1, a2, a3, a4, a5, a6] st μ G := ev_br (mm_cnd_ne x y) pg_48_46 rfl
theorem pg_48_49 : mm_prog 48 49 = some (0, .aload_n 0, 50, []) := by decide +kernel
theorem xe_48_49 (a1 a2 a3 a4 a5 a6 : Option MV) (x : Int) (st : List MV) (μ : MM) (G : MG) : ev 48 49 [some (vR x), a1, a2, a3, a4, a5, a6] st μ G = ev 48 50 [some (vR x), a1, a2, a3, a4, a5, a6] (vR x :: st) μ G := ev_stp pg_48_49 rfl
theorem pg_48_50 : mm_prog 48 50 = some (0, .dup, 51, []) := by decide +kernel
theorem xe_48_50 (a0 a1 a2 a3 a4 a5 a6 : Option MV) (x : Int) (st : List MV) (μ : MM) (G : MG) : ev 48 50 [a0, a1, a2, a3, a4, a5, a6] (vR x :: st) μ G = ev 48 51 [a0, a1, a2, a3, a4, a5, a6] (vR x :: vR x :: st) μ G := ev_stp pg_48_50 rfl
theorem pg_48_51 : mm_prog 48 51 = some (0, .getfield 55, 54, [6, 10, 0]) := by decide +kernel
theorem xe_48_51 (a0 a1 a2 a3 a4 a5 a6 : Option MV) (x : Int) (st : List MV) (μ : MM) (G : MG) : ev 48 51 [a0, a1, a2, a3, a4, a5, a6] (vR x :: st) μ G = if gk G x = 6 then ev 48 54 [a0, a1, a2, a3, a4, a5, a6] (vI (μ x 10) :: st) μ G else none := ev_if pg_48_51 rfl
theorem pg_48_54 : mm_prog 48 54 = some (0, .iload 5, 56, []) := by decide +kernel
theorem xe_48_54 (a0 a1 a2 a3 a4 a6 : Option MV) (x : Int) (st : List MV) (μ : MM) (G : MG) : ev 48 54 [a0, a1, a2, a3, a4, some (vI x), a6] st μ G = ev 48 56 [a0, a1, a2, a3, a4, some (vI x), a6] (vI x :: st) μ G := ev_stp pg_48_54 rfl
theorem pg_48_56 : mm_prog 48 56 = some (0, .iconst 3, 57, []) := by decide +kernel
theorem xe_48_56 (a0 a1 a2 a3 a4 a5 a6 : Option MV) (st : List MV) (μ : MM) (G : MG) : ev 48 56 [a0, a1, a2, a3, a4, a5, a6] st μ G = ev 48 57 [a0, a1, a2, a3, a4, a5, a6] (vI (3) :: st) μ G := ev_stp pg_48_56 rfl
theorem pg_48_57 : mm_prog 48 57 = some (0, .idiv, 58, []) := by decide +kernel
theorem xe_48_57 (a0 a1 a2 a3 a4 a5 a6 : Option MV) (x y : Int) (st : List MV) (μ : MM) (G : MG) : ev 48 57 [a0, a1, a2, a3, a4, a5, a6] (vI y :: vI x :: st) μ G = if y = 0 then none else ev 48 58 [a0, a1, a2, a3, a4, a5, a6] (vI (mm_div x y) :: st) μ G := ev_no pg_48_57 rfl
theorem pg_48_58 : mm_prog 48 58 = some (0, .iadd, 59, []) := by decide +kernel
theorem xe_48_58 (a0 a1 a2 a3 a4 a5 a6 : Option MV) (x y : Int) (st : List MV) (μ : MM) (G : MG) : ev 48 58 [a0, a1, a2, a3, a4, a5, a6] (vI y :: vI x :: st) μ G = ev 48 59 [a0, a1, a2, a3, a4, a5, a6] (vI (w32 (x + y)) :: st) μ G := ev_stp pg_48_58 rfl
theorem pg_48_59 : mm_prog 48 59 = some (0, .putfield 55, 62, [6, 10, 0]) := by decide +kernel
theorem xe_48_59 (a0 a1 a2 a3 a4 a5 a6 : Option MV) (x y : Int) (st : List MV) (μ : MM) (G : MG) : ev 48 59 [a0, a1, a2, a3, a4, a5, a6] (vI x :: vR y :: st) μ G = if gk G y = 6 then ev 48 62 [a0, a1, a2, a3, a4, a5, a6] st (mset μ y 10 x) G else none := ev_put0 pg_48_59
theorem pg_48_62 : mm_prog 48 62 = some (0, .goto 39, 65, []) := by decide +kernel
theorem xe_48_62 (a0 a1 a2 a3 a4 a5 a6 : Option MV) (st : List MV) (μ : MM) (G : MG) : ev 48 62 [a0, a1, a2, a3, a4, a5, a6] st μ G = ev 48 101 [a0, a1, a2, a3, a4, a5, a6] st μ G := ev_stp pg_48_62 rfl
theorem pg_48_65 : mm_prog 48 65 = some (0, .iload 4, 67, []) := by decide +kernel
theorem xe_48_65 (a0 a1 a2 a3 a5 a6 : Option MV) (x : Int) (st : List MV) (μ : MM) (G : MG) : ev 48 65 [a0, a1, a2, a3, some (vI x), a5, a6] st μ G = ev 48 67 [a0, a1, a2, a3, some (vI x), a5, a6] (vI x :: st) μ G := ev_stp pg_48_65 rfl
theorem pg_48_67 : mm_prog 48 67 = some (0, .iconst 2, 68, []) := by decide +kernel
theorem xe_48_67 (a0 a1 a2 a3 a4 a5 a6 : Option MV) (st : List MV) (μ : MM) (G : MG) : ev 48 67 [a0, a1, a2, a3, a4, a5, a6] st μ G = ev 48 68 [a0, a1, a2, a3, a4, a5, a6] (vI (2) :: st) μ G := ev_stp pg_48_67 rfl
theorem pg_48_68 : mm_prog 48 68 = some (0, .if_icmp .ne 14, 71, []) := by decide +kernel
theorem xe_48_68 (a0 a1 a2 a3 a4 a5 a6 : Option MV) (x y : Int) (st : List MV) (μ : MM) (G : MG) : ev 48 68 [a0, a1, a2, a3, a4, a5, a6] (vI y :: vI x :: st) μ G = if ¬ x = y then ev 48 82 [a0, a1, a2, a3, a4, a5, a6] st μ G else ev 48 71 [a0, a1, a2, a3, a4, a5, a6] st μ G := ev_br (mm_cnd_ne x y) pg_48_68 rfl
theorem pg_48_71 : mm_prog 48 71 = some (0, .aload_n 0, 72, []) := by decide +kernel
theorem xe_48_71 (a1 a2 a3 a4 a5 a6 : Option MV) (x : Int) (st : List MV) (μ : MM) (G : MG) : ev 48 71 [some (vR x), a1, a2, a3, a4, a5, a6] st μ G = ev 48 72 [some (vR x), a1, a2, a3, a4, a5, a6] (vR x :: st) μ G := ev_stp pg_48_71 rfl
theorem pg_48_72 : mm_prog 48 72 = some (0, .iload 6, 74, []) := by decide +kernel
theorem xe_48_72 (a0 a1 a2 a3 a4 a5 : Option MV) (x : Int) (st : List MV) (μ : MM) (G : MG) : ev 48 72 [a0, a1, a2, a3, a4, a5, some (vI x)] st μ G = ev 48 74 [a0, a1, a2, a3, a4, a5, some (vI x)] (vI x :: st) μ G := ev_stp pg_48_72 rfl
theorem pg_48_74 : mm_prog 48 74 = some (0, .iload 5, 76, []) := by decide +kernel
theorem xe_48_74 (a0 a1 a2 a3 a4 a6 : Option MV) (x : Int) (st : List MV) (μ : MM) (G : MG) : ev 48 74 [a0, a1, a2, a3, a4, some (vI x), a6] st μ G = ev 48 76 [a0, a1, a2, a3, a4, some (vI x), a6] (vI x :: st) μ G := ev_stp pg_48_74 rfl
theorem pg_48_76 : mm_prog 48 76 = some (1, .invokevirtual 99, 79, [1, 49, 2, 6]) := by decide +kernel
theorem xe_48_76 (a0 a1 a2 a3 a4 a5 a6 : Option MV) (x0 x1 z : Int) (μ : MM) (G : MG) : ev 48 76 [a0, a1, a2, a3, a4, a5, a6] (vI x1 :: vI x0 :: vR z :: []) μ G = if gk G z = 6 ∧ 0 < z then (ev 49 0 [some (vR z), some (vI x0), some (vI x1), none] [] μ G).bind (fun q => ev 48 79 [a0, a1, a2, a3, a4, a5, a6] (q.1.toList ++ []) q.2.1 q.2.2) else none := ev_calV (as := [vR z, vI x0, vI x1]) (r := []) mx_49 pg_48_76 rfl rfl (Nat.le_of_ble_eq_true rfl) (Nat.le_of_ble_eq_true rfl)
theorem pg_48_79 : mm_prog 48 79 = some (0, .goto 22, 82, []) := by decide +kernel
theorem xe_48_79 (a0 a1 a2 a3 a4 a5 a6 : Option MV) (st : List MV) (μ : MM) (G : MG) : ev 48 79 [a0, a1, a2, a3, a4, a5, a6] st μ G = ev 48 101 [a0, a1, a2, a3, a4, a5, a6] st μ G := ev_stp pg_48_79 rfl
theorem pg_48_82 : mm_prog 48 82 = some (0, .iload 4, 84, []) := by decide +kernel
theorem xe_48_82 (a0 a1 a2 a3 a5 a6 : Option MV) (x : Int) (st : List MV) (μ : MM) (G : MG) : ev 48 82 [a0, a1, a2, a3, some (vI x), a5, a6] st μ G = ev 48 84 [a0, a1, a2, a3, some (vI x), a5, a6] (vI x :: st) μ G := ev_stp pg_48_82 rfl
theorem pg_48_84 : mm_prog 48 84 = some (0, .iconst 3, 85, []) := by decide +kernel
theorem xe_48_84 (a0 a1 a2 a3 a4 a5 a6 : Option MV) (st : List MV) (μ : MM) (G : MG) : ev 48 84 [a0, a1, a2, a3, a4, a5, a6] st μ G = ev 48 85 [a0, a1, a2, a3, a4, a5, a6] (vI (3) :: st) μ G := ev_stp pg_48_84 rfl
theorem pg_48_85 : mm_prog 48 85 = some (0, .if_icmp .ne 16, 88, []) := by decide +kernel
theorem xe_48_85 (a0 a1 a2 a3 a4 a5 a6 : Option MV) (x y : Int) (st : List MV) (μ : MM) (G : MG) : ev 48 85 [a0, a1, a2, a3, a4, a5, a6] (vI y :: vI x :: st) μ G = if ¬ x = y then ev 48 101 [a0, a1, a2, a3, a4, a5, a6] st μ G else ev 48 88 [a0, a1, a2, a3, a4, a5, a6] st μ G := ev_br (mm_cnd_ne x y) pg_48_85 rfl
theorem pg_48_88 : mm_prog 48 88 = some (0, .iload 5, 90, []) := by decide +kernel
theorem xe_48_88 (a0 a1 a2 a3 a4 a6 : Option MV) (x : Int) (st : List MV) (μ : MM) (G : MG) : ev 48 88 [a0, a1, a2, a3, a4, some (vI x), a6] st μ G = ev 48 90 [a0, a1, a2, a3, a4, some (vI x), a6] (vI x :: st) μ G := ev_stp pg_48_88 rfl
theorem pg_48_90 : mm_prog 48 90 = some (0, .bipush 7, 92, []) := by decide +kernel
theorem xe_48_90 (a0 a1 a2 a3 a4 a5 a6 : Option MV) (st : List MV) (μ : MM) (G : MG) : ev 48 90 [a0, a1, a2, a3, a4, a5, a6] st μ G = ev 48 92 [a0, a1, a2, a3, a4, a5, a6] (vI (7) :: st) μ G := ev_stp pg_48_90 rfl
theorem pg_48_92 : mm_prog 48 92 = some (0, .if_icmp .lt 9, 95, []) := by decide +kernel
theorem xe_48_92 (a0 a1 a2 a3 a4 a5 a6 : Option MV) (x y : Int) (st : List MV) (μ : MM) (G : MG) : ev 48 92 [a0, a1, a2, a3, a4, a5, a6] (vI y :: vI x :: st) μ G = if x < y then ev 48 101 [a0, a1, a2, a3, a4, a5, a6] st μ G else ev 48 95 [a0, a1, a2, a3, a4, a5, a6] st μ G := ev_br (mm_cnd_lt x y) pg_48_92 rfl
theorem pg_48_95 : mm_prog 48 95 = some (0, .aload_n 0, 96, []) := by decide +kernel
theorem xe_48_95 (a1 a2 a3 a4 a5 a6 : Option MV) (x : Int) (st : List MV) (μ : MM) (G : MG) : ev 48 95 [some (vR x), a1, a2, a3, a4, a5, a6] st μ G = ev 48 96 [some (vR x), a1, a2, a3, a4, a5, a6] (vR x :: st) μ G := ev_stp pg_48_95 rfl
theorem pg_48_96 : mm_prog 48 96 = some (0, .iload 6, 98, []) := by decide +kernel
theorem xe_48_96 (a0 a1 a2 a3 a4 a5 : Option MV) (x : Int) (st : List MV) (μ : MM) (G : MG) : ev 48 96 [a0, a1, a2, a3, a4, a5, some (vI x)] st μ G = ev 48 98 [a0, a1, a2, a3, a4, a5, some (vI x)] (vI x :: st) μ G := ev_stp pg_48_96 rfl
theorem pg_48_98 : mm_prog 48 98 = some (1, .invokevirtual 102, 101, [1, 50, 1, 6]) := by decide +kernel
theorem xe_48_98 (a0 a1 a2 a3 a4 a5 a6 : Option MV) (x0 z : Int) (μ : MM) (G : MG) : ev 48 98 [a0, a1, a2, a3, a4, a5, a6] (vI x0 :: vR z :: []) μ G = if gk G z = 6 ∧ 0 < z then (ev 50 0 [some (vR z), some (vI x0)] [] μ G).bind (fun q => ev 48 101 [a0, a1, a2, a3, a4, a5, a6] (q.1.toList ++ []) q.2.1 q.2.2) else none := ev_calV (as := [vR z, vI x0]) (r := []) mx_50 pg_48_98 rfl rfl (Nat.le_of_ble_eq_true rfl) (Nat.le_of_ble_eq_true rfl)
theorem pg_48_101 : mm_prog 48 101 = some (0, .iload_n 3, 102, []) := by decide +kernel
theorem xe_48_101 (a0 a1 a2 a4 a5 a6 : Option MV) (x : Int) (st : List MV) (μ : MM) (G : MG) : ev 48 101 [a0, a1, a2, some (vI x), a4, a5, a6] st μ G = ev 48 102 [a0, a1, a2, some (vI x), a4, a5, a6] (vI x :: st) μ G := ev_stp pg_48_101 rfl
theorem pg_48_102 : mm_prog 48 102 = some (0, .iconst 1, 103, []) := by decide +kernel
theorem xe_48_102 (a0 a1 a2 a3 a4 a5 a6 : Option MV) (st : List MV) (μ : MM) (G : MG) : ev 48 102 [a0, a1, a2, a3, a4, a5, a6] st μ G = ev 48 103 [a0, a1, a2, a3, a4, a5, a6] (vI (1) :: st) μ G := ev_stp pg_48_102 rfl
theorem pg_48_103 : mm_prog 48 103 = some (0, .iload 5, 105, []) := by decide +kernel
theorem xe_48_103 (a0 a1 a2 a3 a4 a6 : Option MV) (x : Int) (st : List MV) (μ : MM) (G : MG) : ev 48 103 [a0, a1, a2, a3, a4, some (vI x), a6] st μ G = ev 48 105 [a0, a1, a2, a3, a4, some (vI x), a6] (vI x :: st) μ G := ev_stp pg_48_103 rfl
theorem pg_48_105 : mm_prog 48 105 = some (0, .iadd, 106, []) := by decide +kernel
theorem xe_48_105 (a0 a1 a2 a3 a4 a5 a6 : Option MV) (x y : Int) (st : List MV) (μ : MM) (G : MG) : ev 48 105 [a0, a1, a2, a3, a4, a5, a6] (vI y :: vI x :: st) μ G = ev 48 106 [a0, a1, a2, a3, a4, a5, a6] (vI (w32 (x + y)) :: st) μ G := ev_stp pg_48_105 rfl
theorem pg_48_106 : mm_prog 48 106 = some (0, .iadd, 107, []) := by decide +kernel
theorem xe_48_106 (a0 a1 a2 a3 a4 a5 a6 : Option MV) (x y : Int) (st : List MV) (μ : MM) (G : MG) : ev 48 106 [a0, a1, a2, a3, a4, a5, a6] (vI y :: vI x :: st) μ G = ev 48 107 [a0, a1, a2, a3, a4, a5, a6] (vI (w32 (x + y)) :: st) μ G := ev_stp pg_48_106 rfl
theorem pg_48_107 : mm_prog 48 107 = some (0, .istore_n 3, 108, []) := by decide +kernel
theorem xe_48_107 (a0 a1 a2 a3 a4 a5 a6 : Option MV) (x : Int) (st : List MV) (μ : MM) (G : MG) (h : mm_nL a2 = true) : ev 48 107 [a0, a1, a2, a3, a4, a5, a6] (vI x :: st) μ G = ev 48 108 [a0, a1, a2, some (vI x), a4, a5, a6] st μ G := ev_st pg_48_107 rfl (mm_nl_of h) (Nat.le_of_ble_eq_true rfl)
theorem pg_48_108 : mm_prog 48 108 = some (0, .goto (-106), 111, []) := by decide +kernel
theorem xe_48_108 (a0 a1 a2 a3 a4 a5 a6 : Option MV) (st : List MV) (μ : MM) (G : MG) : ev 48 108 [a0, a1, a2, a3, a4, a5, a6] st μ G = ev 48 2 [a0, a1, a2, a3, a4, a5, a6] st μ G := ev_stp pg_48_108 rfl
theorem pg_48_111 : mm_prog 48 111 = some (2, .return_, 112, []) := by decide +kernel
theorem xe_48_111 (a0 a1 a2 a3 a4 a5 a6 : Option MV) (μ : MM) (G : MG) : ev 48 111 [a0, a1, a2, a3, a4, a5, a6] [] μ G = some (none, μ, G) := ev_ret pg_48_111 rfl
-- X6_readCodes
theorem pg_49_0 : mm_prog 49 0 = some (0, .iconst 0, 1, []) := by decide +kernel
theorem xe_49_0 (a0 a1 a2 a3 : Option MV) (st : List MV) (μ : MM) (G : MG) : ev 49 0 [a0, a1, a2, a3] st μ G = ev 49 1 [a0, a1, a2, a3] (vI (0) :: st) μ G := ev_stp pg_49_0 rfl
theorem pg_49_1 : mm_prog 49 1 = some (0, .istore_n 3, 2, []) := by decide +kernel
theorem xe_49_1 (a0 a1 a2 a3 : Option MV) (x : Int) (st : List MV) (μ : MM) (G : MG) (h : mm_nL a2 = true) : ev 49 1 [a0, a1, a2, a3] (vI x :: st) μ G = ev 49 2 [a0, a1, a2, some (vI x)] st μ G := ev_st pg_49_1 rfl (mm_nl_of h) (Nat.le_of_ble_eq_true rfl)
theorem pg_49_2 : mm_prog 49 2 = some (0, .iload_n 3, 3, []) := by decide +kernel
theorem xe_49_2 (a0 a1 a2 : Option MV) (x : Int) (st : List MV) (μ : MM) (G : MG) : ev 49 2 [a0, a1, a2, some (vI x)] st μ G = ev 49 3 [a0, a1, a2, some (vI x)] (vI x :: st) μ G := ev_stp pg_49_2 rfl
theorem pg_49_3 : mm_prog 49 3 = some (0, .iload_n 2, 4, []) := by decide +kernel
theorem xe_49_3 (a0 a1 a3 : Option MV) (x : Int) (st : List MV) (μ : MM) (G : MG) : ev 49 3 [a0, a1, some (vI x), a3] st μ G = ev 49 4 [a0, a1, some (vI x), a3] (vI x :: st) μ G := ev_stp pg_49_3 rfl
theorem pg_49_4 : mm_prog 49 4 = some (0, .if_icmp .ge 60, 7, []) := by decide +kernel
theorem xe_49_4 (a0 a1 a2 a3 : Option MV) (x y : Int) (st : List MV) (μ : MM) (G : MG) : ev 49 4 [a0, a1, a2, a3] (vI y :: vI x :: st) μ G = if y ≤ x then ev 49 64 [a0, a1, a2, a3] st μ G else ev 49 7 [a0, a1, a2, a3] st μ G := ev_br (mm_cnd_ge x y) pg_49_4 rfl
theorem pg_49_7 : mm_prog 49 7 = some (0, .aload_n 0, 8, []) := by decide +kernel
theorem xe_49_7 (a1 a2 a3 : Option MV) (x : Int) (st : List MV) (μ : MM) (G : MG) : ev 49 7 [some (vR x), a1, a2, a3] st μ G = ev 49 8 [some (vR x), a1, a2, a3] (vR x :: st) μ G := ev_stp pg_49_7 rfl
theorem pg_49_8 : mm_prog 49 8 = some (0, .getfield 49, 11, [6, 8, 0]) := by decide +kernel
theorem xe_49_8 (a0 a1 a2 a3 : Option MV) (x : Int) (st : List MV) (μ : MM) (G : MG) : ev 49 8 [a0, a1, a2, a3] (vR x :: st) μ G = if gk G x = 6 then ev 49 11 [a0, a1, a2, a3] (vI (μ x 8) :: st) μ G else none := ev_if pg_49_8 rfl
theorem pg_49_11 : mm_prog 49 11 = some (0, .ifCond .lt 47, 14, []) := by decide +kernel
theorem xe_49_11 (a0 a1 a2 a3 : Option MV) (x : Int) (st : List MV) (μ : MM) (G : MG) : ev 49 11 [a0, a1, a2, a3] (vI x :: st) μ G = if x < 0 then ev 49 58 [a0, a1, a2, a3] st μ G else ev 49 14 [a0, a1, a2, a3] st μ G := ev_br (mm_cnd_lt x 0) pg_49_11 rfl
theorem pg_49_14 : mm_prog 49 14 = some (0, .aload_n 0, 15, []) := by decide +kernel
theorem xe_49_14 (a1 a2 a3 : Option MV) (x : Int) (st : List MV) (μ : MM) (G : MG) : ev 49 14 [some (vR x), a1, a2, a3] st μ G = ev 49 15 [some (vR x), a1, a2, a3] (vR x :: st) μ G := ev_stp pg_49_14 rfl
theorem pg_49_15 : mm_prog 49 15 = some (0, .getfield 49, 18, [6, 8, 0]) := by decide +kernel
theorem xe_49_15 (a0 a1 a2 a3 : Option MV) (x : Int) (st : List MV) (μ : MM) (G : MG) : ev 49 15 [a0, a1, a2, a3] (vR x :: st) μ G = if gk G x = 6 then ev 49 18 [a0, a1, a2, a3] (vI (μ x 8) :: st) μ G else none := ev_if pg_49_15 rfl
theorem pg_49_18 : mm_prog 49 18 = some (0, .aload_n 0, 19, []) := by decide +kernel
theorem xe_49_18 (a1 a2 a3 : Option MV) (x : Int) (st : List MV) (μ : MM) (G : MG) : ev 49 18 [some (vR x), a1, a2, a3] st μ G = ev 49 19 [some (vR x), a1, a2, a3] (vR x :: st) μ G := ev_stp pg_49_18 rfl
theorem pg_49_19 : mm_prog 49 19 = some (0, .getfield 24, 22, [6, 2, 2]) := by decide +kernel
theorem xe_49_19 (a0 a1 a2 a3 : Option MV) (x : Int) (st : List MV) (μ : MM) (G : MG) : ev 49 19 [a0, a1, a2, a3] (vR x :: st) μ G = if gk G x = 6 then ev 49 22 [a0, a1, a2, a3] (vR (μ x 2) :: st) μ G else none := ev_if pg_49_19 rfl
theorem pg_49_22 : mm_prog 49 22 = some (0, .arraylength, 23, []) := by decide +kernel
theorem xe_49_22 (a0 a1 a2 a3 : Option MV) (x : Int) (st : List MV) (μ : MM) (G : MG) : ev 49 22 [a0, a1, a2, a3] (vR x :: st) μ G = if 100 ≤ gk G x then ev 49 23 [a0, a1, a2, a3] (vI (gl G x) :: st) μ G else none := ev_if pg_49_22 rfl
theorem pg_49_23 : mm_prog 49 23 = some (0, .if_icmp .ge 35, 26, []) := by decide +kernel
theorem xe_49_23 (a0 a1 a2 a3 : Option MV) (x y : Int) (st : List MV) (μ : MM) (G : MG) : ev 49 23 [a0, a1, a2, a3] (vI y :: vI x :: st) μ G = if y ≤ x then ev 49 58 [a0, a1, a2, a3] st μ G else ev 49 26 [a0, a1, a2, a3] st μ G := ev_br (mm_cnd_ge x y) pg_49_23 rfl
theorem pg_49_26 : mm_prog 49 26 = some (0, .aload_n 0, 27, []) := by decide +kernel
theorem xe_49_26 (a1 a2 a3 : Option MV) (x : Int) (st : List MV) (μ : MM) (G : MG) : ev 49 26 [some (vR x), a1, a2, a3] st μ G = ev 49 27 [some (vR x), a1, a2, a3] (vR x :: st) μ G := ev_stp pg_49_26 rfl
theorem pg_49_27 : mm_prog 49 27 = some (0, .getfield 24, 30, [6, 2, 2]) := by decide +kernel
theorem xe_49_27 (a0 a1 a2 a3 : Option MV) (x : Int) (st : List MV) (μ : MM) (G : MG) : ev 49 27 [a0, a1, a2, a3] (vR x :: st) μ G = if gk G x = 6 then ev 49 30 [a0, a1, a2, a3] (vR (μ x 2) :: st) μ G else none := ev_if pg_49_27 rfl
theorem pg_49_30 : mm_prog 49 30 = some (0, .aload_n 0, 31, []) := by decide +kernel
theorem xe_49_30 (a1 a2 a3 : Option MV) (x : Int) (st : List MV) (μ : MM) (G : MG) : ev 49 30 [some (vR x), a1, a2, a3] st μ G = ev 49 31 [some (vR x), a1, a2, a3] (vR x :: st) μ G := ev_stp pg_49_30 rfl
theorem pg_49_31 : mm_prog 49 31 = some (0, .getfield 49, 34, [6, 8, 0]) := by decide +kernel
theorem xe_49_31 (a0 a1 a2 a3 : Option MV) (x : Int) (st : List MV) (μ : MM) (G : MG) : ev 49 31 [a0, a1, a2, a3] (vR x :: st) μ G = if gk G x = 6 then ev 49 34 [a0, a1, a2, a3] (vI (μ x 8) :: st) μ G else none := ev_if pg_49_31 rfl
theorem pg_49_34 : mm_prog 49 34 = some (0, .aload_n 0, 35, []) := by decide +kernel
theorem xe_49_34 (a1 a2 a3 : Option MV) (x : Int) (st : List MV) (μ : MM) (G : MG) : ev 49 34 [some (vR x), a1, a2, a3] st μ G = ev 49 35 [some (vR x), a1, a2, a3] (vR x :: st) μ G := ev_stp pg_49_34 rfl
theorem pg_49_35 : mm_prog 49 35 = some (0, .getfield 12, 38, [6, 0, 2]) := by decide +kernel
theorem xe_49_35 (a0 a1 a2 a3 : Option MV) (x : Int) (st : List MV) (μ : MM) (G : MG) : ev 49 35 [a0, a1, a2, a3] (vR x :: st) μ G = if gk G x = 6 then ev 49 38 [a0, a1, a2, a3] (vR (μ x 0) :: st) μ G else none := ev_if pg_49_35 rfl
theorem pg_49_38 : mm_prog 49 38 = some (0, .iload_n 1, 39, []) := by decide +kernel
theorem xe_49_38 (a0 a2 a3 : Option MV) (x : Int) (st : List MV) (μ : MM) (G : MG) : ev 49 38 [a0, some (vI x), a2, a3] st μ G = ev 49 39 [a0, some (vI x), a2, a3] (vI x :: st) μ G := ev_stp pg_49_38 rfl
theorem pg_49_39 : mm_prog 49 39 = some (0, .iload_n 3, 40, []) := by decide +kernel
theorem xe_49_39 (a0 a1 a2 : Option MV) (x : Int) (st : List MV) (μ : MM) (G : MG) : ev 49 39 [a0, a1, a2, some (vI x)] st μ G = ev 49 40 [a0, a1, a2, some (vI x)] (vI x :: st) μ G := ev_stp pg_49_39 rfl
theorem pg_49_40 : mm_prog 49 40 = some (0, .iadd, 41, []) := by decide +kernel
theorem xe_49_40 (a0 a1 a2 a3 : Option MV) (x y : Int) (st : List MV) (μ : MM) (G : MG) : ev 49 40 [a0, a1, a2, a3] (vI y :: vI x :: st) μ G = ev 49 41 [a0, a1, a2, a3] (vI (w32 (x + y)) :: st) μ G := ev_stp pg_49_40 rfl
theorem pg_49_41 : mm_prog 49 41 = some (1, .invokevirtual 72, 44, [1, 3, 1, 0]) := by decide +kernel
theorem xe_49_41 (a0 a1 a2 a3 : Option MV) (x0 z r0 r1 : Int) (μ : MM) (G : MG) : ev 49 41 [a0, a1, a2, a3] (vI x0 :: vR z :: [vI r0, vR r1]) μ G = if gk G z = 0 ∧ 0 < z then (ev 3 0 [some (vR z), some (vI x0)] [] μ G).bind (fun q => ev 49 44 [a0, a1, a2, a3] (q.1.toList ++ [vI r0, vR r1]) q.2.1 q.2.2) else none := ev_calV (as := [vR z, vI x0]) (r := [vI r0, vR r1]) mx_3 pg_49_41 rfl rfl (Nat.le_of_ble_eq_true rfl) (Nat.le_of_ble_eq_true rfl)
theorem pg_49_44 : mm_prog 49 44 = some (0, .bipush 127, 46, []) := by decide +kernel
theorem xe_49_44 (a0 a1 a2 a3 : Option MV) (st : List MV) (μ : MM) (G : MG) : ev 49 44 [a0, a1, a2, a3] st μ G = ev 49 46 [a0, a1, a2, a3] (vI (127) :: st) μ G := ev_stp pg_49_44 rfl
theorem pg_49_46 : mm_prog 49 46 = some (0, .iand, 47, []) := by decide +kernel
theorem xe_49_46 (a0 a1 a2 a3 : Option MV) (x y : Int) (st : List MV) (μ : MM) (G : MG) : ev 49 46 [a0, a1, a2, a3] (vI y :: vI x :: st) μ G = ev 49 47 [a0, a1, a2, a3] (vI (mm_and x y) :: st) μ G := ev_stp pg_49_46 rfl
theorem pg_49_47 : mm_prog 49 47 = some (0, .iastore, 48, []) := by decide +kernel
theorem xe_49_47 (a0 a1 a2 a3 : Option MV) (x y z : Int) (st : List MV) (μ : MM) (G : MG) : ev 49 47 [a0, a1, a2, a3] (vI x :: vI y :: vR z :: st) μ G = if gk G z = 100 ∧ 0 ≤ y ∧ y < gl G z ∧ 10 ≤ z then ev 49 48 [a0, a1, a2, a3] st (mset μ z y x) G else none := ev_if pg_49_47 rfl
theorem pg_49_48 : mm_prog 49 48 = some (0, .aload_n 0, 49, []) := by decide +kernel
theorem xe_49_48 (a1 a2 a3 : Option MV) (x : Int) (st : List MV) (μ : MM) (G : MG) : ev 49 48 [some (vR x), a1, a2, a3] st μ G = ev 49 49 [some (vR x), a1, a2, a3] (vR x :: st) μ G := ev_stp pg_49_48 rfl
theorem pg_49_49 : mm_prog 49 49 = some (0, .dup, 50, []) := by decide +kernel
theorem xe_49_49 (a0 a1 a2 a3 : Option MV) (x : Int) (st : List MV) (μ : MM) (G : MG) : ev 49 49 [a0, a1, a2, a3] (vR x :: st) μ G = ev 49 50 [a0, a1, a2, a3] (vR x :: vR x :: st) μ G := ev_stp pg_49_49 rfl
theorem pg_49_50 : mm_prog 49 50 = some (0, .getfield 49, 53, [6, 8, 0]) := by decide +kernel
theorem xe_49_50 (a0 a1 a2 a3 : Option MV) (x : Int) (st : List MV) (μ : MM) (G : MG) : ev 49 50 [a0, a1, a2, a3] (vR x :: st) μ G = if gk G x = 6 then ev 49 53 [a0, a1, a2, a3] (vI (μ x 8) :: st) μ G else none := ev_if pg_49_50 rfl
theorem pg_49_53 : mm_prog 49 53 = some (0, .iconst 1, 54, []) := by decide +kernel
theorem xe_49_53 (a0 a1 a2 a3 : Option MV) (st : List MV) (μ : MM) (G : MG) : ev 49 53 [a0, a1, a2, a3] st μ G = ev 49 54 [a0, a1, a2, a3] (vI (1) :: st) μ G := ev_stp pg_49_53 rfl
theorem pg_49_54 : mm_prog 49 54 = some (0, .iadd, 55, []) := by decide +kernel
theorem xe_49_54 (a0 a1 a2 a3 : Option MV) (x y : Int) (st : List MV) (μ : MM) (G : MG) : ev 49 54 [a0, a1, a2, a3] (vI y :: vI x :: st) μ G = ev 49 55 [a0, a1, a2, a3] (vI (w32 (x + y)) :: st) μ G := ev_stp pg_49_54 rfl
theorem pg_49_55 : mm_prog 49 55 = some (0, .putfield 49, 58, [6, 8, 0]) := by decide +kernel
theorem xe_49_55 (a0 a1 a2 a3 : Option MV) (x y : Int) (st : List MV) (μ : MM) (G : MG) : ev 49 55 [a0, a1, a2, a3] (vI x :: vR y :: st) μ G = if gk G y = 6 then ev 49 58 [a0, a1, a2, a3] st (mset μ y 8 x) G else none := ev_put0 pg_49_55
theorem pg_49_58 : mm_prog 49 58 = some (0, .iinc 3 1, 61, []) := by decide +kernel
theorem xe_49_58 (a0 a1 a2 : Option MV) (x : Int) (st : List MV) (μ : MM) (G : MG) (h : mm_nL a2 = true) : ev 49 58 [a0, a1, a2, some (vI x)] st μ G = ev 49 61 [a0, a1, a2, some (vI (w32 (x + (1))))] st μ G := ev_st pg_49_58 rfl (mm_nl_of h) (Nat.le_of_ble_eq_true rfl)
theorem pg_49_61 : mm_prog 49 61 = some (0, .goto (-59), 64, []) := by decide +kernel
theorem xe_49_61 (a0 a1 a2 a3 : Option MV) (st : List MV) (μ : MM) (G : MG) : ev 49 61 [a0, a1, a2, a3] st μ G = ev 49 2 [a0, a1, a2, a3] st μ G := ev_stp pg_49_61 rfl
theorem pg_49_64 : mm_prog 49 64 = some (2, .return_, 65, []) := by decide +kernel
theorem xe_49_64 (a0 a1 a2 a3 : Option MV) (μ : MM) (G : MG) : ev 49 64 [a0, a1, a2, a3] [] μ G = some (none, μ, G) := ev_ret pg_49_64 rfl
-- X6_readMost
theorem pg_50_0 : mm_prog 50 0 = some (0, .aload_n 0, 1, []) := by decide +kernel
theorem xe_50_0 (a1 : Option MV) (x : Int) (st : List MV) (μ : MM) (G : MG) : ev 50 0 [some (vR x), a1] st μ G = ev 50 1 [some (vR x), a1] (vR x :: st) μ G := ev_stp pg_50_0 rfl
theorem pg_50_1 : mm_prog 50 1 = some (0, .getfield 12, 4, [6, 0, 2]) := by decide +kernel
theorem xe_50_1 (a0 a1 : Option MV) (x : Int) (st : List MV) (μ : MM) (G : MG) : ev 50 1 [a0, a1] (vR x :: st) μ G = if gk G x = 6 then ev 50 4 [a0, a1] (vR (μ x 0) :: st) μ G else none := ev_if pg_50_1 rfl
theorem pg_50_4 : mm_prog 50 4 = some (0, .iload_n 1, 5, []) := by decide +kernel
theorem xe_50_4 (a0 : Option MV) (x : Int) (st : List MV) (μ : MM) (G : MG) : ev 50 4 [a0, some (vI x)] st μ G = ev 50 5 [a0, some (vI x)] (vI x :: st) μ G := ev_stp pg_50_4 rfl
theorem pg_50_5 : mm_prog 50 5 = some (1, .invokevirtual 72, 8, [1, 3, 1, 0]) := by decide +kernel
theorem xe_50_5 (a0 a1 : Option MV) (x0 z : Int) (μ : MM) (G : MG) : ev 50 5 [a0, a1] (vI x0 :: vR z :: []) μ G = if gk G z = 0 ∧ 0 < z then (ev 3 0 [some (vR z), some (vI x0)] [] μ G).bind (fun q => ev 50 8 [a0, a1] (q.1.toList ++ []) q.2.1 q.2.2) else none := ev_calV (as := [vR z, vI x0]) (r := []) mx_3 pg_50_5 rfl rfl (Nat.le_of_ble_eq_true rfl) (Nat.le_of_ble_eq_true rfl)
theorem pg_50_8 : mm_prog 50 8 = some (0, .iconst 3, 9, []) := by decide +kernel
theorem xe_50_8 (a0 a1 : Option MV) (st : List MV) (μ : MM) (G : MG) : ev 50 8 [a0, a1] st μ G = ev 50 9 [a0, a1] (vI (3) :: st) μ G := ev_stp pg_50_8 rfl
theorem pg_50_9 : mm_prog 50 9 = some (0, .if_icmp .ne 50, 12, []) := by decide +kernel
theorem xe_50_9 (a0 a1 : Option MV) (x y : Int) (st : List MV) (μ : MM) (G : MG) : ev 50 9 [a0, a1] (vI y :: vI x :: st) μ G = if ¬ x = y then ev 50 59 [a0, a1] st μ G else ev 50 12 [a0, a1] st μ G := ev_br (mm_cnd_ne x y) pg_50_9 rfl
theorem pg_50_12 : mm_prog 50 12 = some (0, .aload_n 0, 13, []) := by decide +kernel
theorem xe_50_12 (a1 : Option MV) (x : Int) (st : List MV) (μ : MM) (G : MG) : ev 50 12 [some (vR x), a1] st μ G = ev 50 13 [some (vR x), a1] (vR x :: st) μ G := ev_stp pg_50_12 rfl
theorem pg_50_13 : mm_prog 50 13 = some (0, .getfield 12, 16, [6, 0, 2]) := by decide +kernel
theorem xe_50_13 (a0 a1 : Option MV) (x : Int) (st : List MV) (μ : MM) (G : MG) : ev 50 13 [a0, a1] (vR x :: st) μ G = if gk G x = 6 then ev 50 16 [a0, a1] (vR (μ x 0) :: st) μ G else none := ev_if pg_50_13 rfl
theorem pg_50_16 : mm_prog 50 16 = some (0, .iload_n 1, 17, []) := by decide +kernel
theorem xe_50_16 (a0 : Option MV) (x : Int) (st : List MV) (μ : MM) (G : MG) : ev 50 16 [a0, some (vI x)] st μ G = ev 50 17 [a0, some (vI x)] (vI x :: st) μ G := ev_stp pg_50_16 rfl
theorem pg_50_17 : mm_prog 50 17 = some (0, .iconst 1, 18, []) := by decide +kernel
theorem xe_50_17 (a0 a1 : Option MV) (st : List MV) (μ : MM) (G : MG) : ev 50 17 [a0, a1] st μ G = ev 50 18 [a0, a1] (vI (1) :: st) μ G := ev_stp pg_50_17 rfl
theorem pg_50_18 : mm_prog 50 18 = some (0, .iadd, 19, []) := by decide +kernel
theorem xe_50_18 (a0 a1 : Option MV) (x y : Int) (st : List MV) (μ : MM) (G : MG) : ev 50 18 [a0, a1] (vI y :: vI x :: st) μ G = ev 50 19 [a0, a1] (vI (w32 (x + y)) :: st) μ G := ev_stp pg_50_18 rfl
theorem pg_50_19 : mm_prog 50 19 = some (1, .invokevirtual 72, 22, [1, 3, 1, 0]) := by decide +kernel
theorem xe_50_19 (a0 a1 : Option MV) (x0 z : Int) (μ : MM) (G : MG) : ev 50 19 [a0, a1] (vI x0 :: vR z :: []) μ G = if gk G z = 0 ∧ 0 < z then (ev 3 0 [some (vR z), some (vI x0)] [] μ G).bind (fun q => ev 50 22 [a0, a1] (q.1.toList ++ []) q.2.1 q.2.2) else none := ev_calV (as := [vR z, vI x0]) (r := []) mx_3 pg_50_19 rfl rfl (Nat.le_of_ble_eq_true rfl) (Nat.le_of_ble_eq_true rfl)
theorem pg_50_22 : mm_prog 50 22 = some (0, .bipush 12, 24, []) := by decide +kernel
theorem xe_50_22 (a0 a1 : Option MV) (st : List MV) (μ : MM) (G : MG) : ev 50 22 [a0, a1] st μ G = ev 50 24 [a0, a1] (vI (12) :: st) μ G := ev_stp pg_50_22 rfl
theorem pg_50_24 : mm_prog 50 24 = some (0, .if_icmp .ne 35, 27, []) := by decide +kernel
theorem xe_50_24 (a0 a1 : Option MV) (x y : Int) (st : List MV) (μ : MM) (G : MG) : ev 50 24 [a0, a1] (vI y :: vI x :: st) μ G = if ¬ x = y then ev 50 59 [a0, a1] st μ G else ev 50 27 [a0, a1] st μ G := ev_br (mm_cnd_ne x y) pg_50_24 rfl
theorem pg_50_27 : mm_prog 50 27 = some (0, .aload_n 0, 28, []) := by decide +kernel
theorem xe_50_27 (a1 : Option MV) (x : Int) (st : List MV) (μ : MM) (G : MG) : ev 50 27 [some (vR x), a1] st μ G = ev 50 28 [some (vR x), a1] (vR x :: st) μ G := ev_stp pg_50_27 rfl
theorem pg_50_28 : mm_prog 50 28 = some (0, .getfield 12, 31, [6, 0, 2]) := by decide +kernel
theorem xe_50_28 (a0 a1 : Option MV) (x : Int) (st : List MV) (μ : MM) (G : MG) : ev 50 28 [a0, a1] (vR x :: st) μ G = if gk G x = 6 then ev 50 31 [a0, a1] (vR (μ x 0) :: st) μ G else none := ev_if pg_50_28 rfl
theorem pg_50_31 : mm_prog 50 31 = some (0, .iload_n 1, 32, []) := by decide +kernel
theorem xe_50_31 (a0 : Option MV) (x : Int) (st : List MV) (μ : MM) (G : MG) : ev 50 31 [a0, some (vI x)] st μ G = ev 50 32 [a0, some (vI x)] (vI x :: st) μ G := ev_stp pg_50_31 rfl
theorem pg_50_32 : mm_prog 50 32 = some (0, .iconst 2, 33, []) := by decide +kernel
theorem xe_50_32 (a0 a1 : Option MV) (st : List MV) (μ : MM) (G : MG) : ev 50 32 [a0, a1] st μ G = ev 50 33 [a0, a1] (vI (2) :: st) μ G := ev_stp pg_50_32 rfl
theorem pg_50_33 : mm_prog 50 33 = some (0, .iadd, 34, []) := by decide +kernel
theorem xe_50_33 (a0 a1 : Option MV) (x y : Int) (st : List MV) (μ : MM) (G : MG) : ev 50 33 [a0, a1] (vI y :: vI x :: st) μ G = ev 50 34 [a0, a1] (vI (w32 (x + y)) :: st) μ G := ev_stp pg_50_33 rfl
theorem pg_50_34 : mm_prog 50 34 = some (1, .invokevirtual 72, 37, [1, 3, 1, 0]) := by decide +kernel
theorem xe_50_34 (a0 a1 : Option MV) (x0 z : Int) (μ : MM) (G : MG) : ev 50 34 [a0, a1] (vI x0 :: vR z :: []) μ G = if gk G z = 0 ∧ 0 < z then (ev 3 0 [some (vR z), some (vI x0)] [] μ G).bind (fun q => ev 50 37 [a0, a1] (q.1.toList ++ []) q.2.1 q.2.2) else none := ev_calV (as := [vR z, vI x0]) (r := []) mx_3 pg_50_34 rfl rfl (Nat.le_of_ble_eq_true rfl) (Nat.le_of_ble_eq_true rfl)
theorem pg_50_37 : mm_prog 50 37 = some (0, .ifCond .ne 22, 40, []) := by decide +kernel
theorem xe_50_37 (a0 a1 : Option MV) (x : Int) (st : List MV) (μ : MM) (G : MG) : ev 50 37 [a0, a1] (vI x :: st) μ G = if ¬ x = 0 then ev 50 59 [a0, a1] st μ G else ev 50 40 [a0, a1] st μ G := ev_br (mm_cnd_ne x 0) pg_50_37 rfl
theorem pg_50_40 : mm_prog 50 40 = some (0, .aload_n 0, 41, []) := by decide +kernel
theorem xe_50_40 (a1 : Option MV) (x : Int) (st : List MV) (μ : MM) (G : MG) : ev 50 40 [some (vR x), a1] st μ G = ev 50 41 [some (vR x), a1] (vR x :: st) μ G := ev_stp pg_50_40 rfl
theorem pg_50_41 : mm_prog 50 41 = some (0, .sipush 5000, 44, []) := by decide +kernel
theorem xe_50_41 (a0 a1 : Option MV) (st : List MV) (μ : MM) (G : MG) : ev 50 41 [a0, a1] st μ G = ev 50 44 [a0, a1] (vI (5000) :: st) μ G := ev_stp pg_50_41 rfl
theorem pg_50_44 : mm_prog 50 44 = some (0, .aload_n 0, 45, []) := by decide +kernel
theorem xe_50_44 (a1 : Option MV) (x : Int) (st : List MV) (μ : MM) (G : MG) : ev 50 44 [some (vR x), a1] st μ G = ev 50 45 [some (vR x), a1] (vR x :: st) μ G := ev_stp pg_50_44 rfl
theorem pg_50_45 : mm_prog 50 45 = some (0, .getfield 12, 48, [6, 0, 2]) := by decide +kernel
theorem xe_50_45 (a0 a1 : Option MV) (x : Int) (st : List MV) (μ : MM) (G : MG) : ev 50 45 [a0, a1] (vR x :: st) μ G = if gk G x = 6 then ev 50 48 [a0, a1] (vR (μ x 0) :: st) μ G else none := ev_if pg_50_45 rfl
theorem pg_50_48 : mm_prog 50 48 = some (0, .iload_n 1, 49, []) := by decide +kernel
theorem xe_50_48 (a0 : Option MV) (x : Int) (st : List MV) (μ : MM) (G : MG) : ev 50 48 [a0, some (vI x)] st μ G = ev 50 49 [a0, some (vI x)] (vI x :: st) μ G := ev_stp pg_50_48 rfl
theorem pg_50_49 : mm_prog 50 49 = some (0, .bipush 6, 51, []) := by decide +kernel
theorem xe_50_49 (a0 a1 : Option MV) (st : List MV) (μ : MM) (G : MG) : ev 50 49 [a0, a1] st μ G = ev 50 51 [a0, a1] (vI (6) :: st) μ G := ev_stp pg_50_49 rfl
theorem pg_50_51 : mm_prog 50 51 = some (0, .iadd, 52, []) := by decide +kernel
theorem xe_50_51 (a0 a1 : Option MV) (x y : Int) (st : List MV) (μ : MM) (G : MG) : ev 50 51 [a0, a1] (vI y :: vI x :: st) μ G = ev 50 52 [a0, a1] (vI (w32 (x + y)) :: st) μ G := ev_stp pg_50_51 rfl
theorem pg_50_52 : mm_prog 50 52 = some (1, .invokevirtual 72, 55, [1, 3, 1, 0]) := by decide +kernel
theorem xe_50_52 (a0 a1 : Option MV) (x0 z r0 r1 : Int) (μ : MM) (G : MG) : ev 50 52 [a0, a1] (vI x0 :: vR z :: [vI r0, vR r1]) μ G = if gk G z = 0 ∧ 0 < z then (ev 3 0 [some (vR z), some (vI x0)] [] μ G).bind (fun q => ev 50 55 [a0, a1] (q.1.toList ++ [vI r0, vR r1]) q.2.1 q.2.2) else none := ev_calV (as := [vR z, vI x0]) (r := [vI r0, vR r1]) mx_3 pg_50_52 rfl rfl (Nat.le_of_ble_eq_true rfl) (Nat.le_of_ble_eq_true rfl)
theorem pg_50_55 : mm_prog 50 55 = some (0, .imul, 56, []) := by decide +kernel
theorem xe_50_55 (a0 a1 : Option MV) (x y : Int) (st : List MV) (μ : MM) (G : MG) : ev 50 55 [a0, a1] (vI y :: vI x :: st) μ G = ev 50 56 [a0, a1] (vI (w32 (x * y)) :: st) μ G := ev_stp pg_50_55 rfl
theorem pg_50_56 : mm_prog 50 56 = some (0, .putfield 58, 59, [6, 11, 0]) := by decide +kernel
theorem xe_50_56 (a0 a1 : Option MV) (x y : Int) (st : List MV) (μ : MM) (G : MG) : ev 50 56 [a0, a1] (vI x :: vR y :: st) μ G = if gk G y = 6 then ev 50 59 [a0, a1] st (mset μ y 11 x) G else none := ev_put0 pg_50_56
theorem pg_50_59 : mm_prog 50 59 = some (2, .return_, 60, []) := by decide +kernel
theorem xe_50_59 (a0 a1 : Option MV) (μ : MM) (G : MG) : ev 50 59 [a0, a1] [] μ G = some (none, μ, G) := ev_ret pg_50_59 rfl
-- X6_readDetailedFrom
theorem pg_51_0 : mm_prog 51 0 = some (0, .iload_n 2, 1, []) := by decide +kernel
theorem xe_51_0 (a0 a1 a3 : Option MV) (x : Int) (st : List MV) (μ : MM) (G : MG) : ev 51 0 [a0, a1, some (vI x), a3] st μ G = ev 51 1 [a0, a1, some (vI x), a3] (vI x :: st) μ G := ev_stp pg_51_0 rfl
theorem pg_51_1 : mm_prog 51 1 = some (0, .ifCond .ne 4, 4, []) := by decide +kernel
theorem xe_51_1 (a0 a1 a2 a3 : Option MV) (x : Int) (st : List MV) (μ : MM) (G : MG) : ev 51 1 [a0, a1, a2, a3] (vI x :: st) μ G = if ¬ x = 0 then ev 51 5 [a0, a1, a2, a3] st μ G else ev 51 4 [a0, a1, a2, a3] st μ G := ev_br (mm_cnd_ne x 0) pg_51_1 rfl
theorem pg_51_4 : mm_prog 51 4 = some (2, .return_, 5, []) := by decide +kernel
theorem xe_51_4 (a0 a1 a2 a3 : Option MV) (μ : MM) (G : MG) : ev 51 4 [a0, a1, a2, a3] [] μ G = some (none, μ, G) := ev_ret pg_51_4 rfl
theorem pg_51_5 : mm_prog 51 5 = some (0, .iload_n 2, 6, []) := by decide +kernel
theorem xe_51_5 (a0 a1 a3 : Option MV) (x : Int) (st : List MV) (μ : MM) (G : MG) : ev 51 5 [a0, a1, some (vI x), a3] st μ G = ev 51 6 [a0, a1, some (vI x), a3] (vI x :: st) μ G := ev_stp pg_51_5 rfl
theorem pg_51_6 : mm_prog 51 6 = some (0, .istore_n 3, 7, []) := by decide +kernel
theorem xe_51_6 (a0 a1 a2 a3 : Option MV) (x : Int) (st : List MV) (μ : MM) (G : MG) (h : mm_nL a2 = true) : ev 51 6 [a0, a1, a2, a3] (vI x :: st) μ G = ev 51 7 [a0, a1, a2, some (vI x)] st μ G := ev_st pg_51_6 rfl (mm_nl_of h) (Nat.le_of_ble_eq_true rfl)
theorem pg_51_7 : mm_prog 51 7 = some (0, .iload_n 3, 8, []) := by decide +kernel
theorem xe_51_7 (a0 a1 a2 : Option MV) (x : Int) (st : List MV) (μ : MM) (G : MG) : ev 51 7 [a0, a1, a2, some (vI x)] st μ G = ev 51 8 [a0, a1, a2, some (vI x)] (vI x :: st) μ G := ev_stp pg_51_7 rfl
theorem pg_51_8 : mm_prog 51 8 = some (0, .bipush 18, 10, []) := by decide +kernel
theorem xe_51_8 (a0 a1 a2 a3 : Option MV) (st : List MV) (μ : MM) (G : MG) : ev 51 8 [a0, a1, a2, a3] st μ G = ev 51 10 [a0, a1, a2, a3] (vI (18) :: st) μ G := ev_stp pg_51_8 rfl
theorem pg_51_10 : mm_prog 51 10 = some (0, .iadd, 11, []) := by decide +kernel
theorem xe_51_10 (a0 a1 a2 a3 : Option MV) (x y : Int) (st : List MV) (μ : MM) (G : MG) : ev 51 10 [a0, a1, a2, a3] (vI y :: vI x :: st) μ G = ev 51 11 [a0, a1, a2, a3] (vI (w32 (x + y)) :: st) μ G := ev_stp pg_51_10 rfl
theorem pg_51_11 : mm_prog 51 11 = some (0, .bipush 127, 13, []) := by decide +kernel
theorem xe_51_11 (a0 a1 a2 a3 : Option MV) (st : List MV) (μ : MM) (G : MG) : ev 51 11 [a0, a1, a2, a3] st μ G = ev 51 13 [a0, a1, a2, a3] (vI (127) :: st) μ G := ev_stp pg_51_11 rfl
theorem pg_51_13 : mm_prog 51 13 = some (0, .if_icmp .gt 29, 16, []) := by decide +kernel
theorem xe_51_13 (a0 a1 a2 a3 : Option MV) (x y : Int) (st : List MV) (μ : MM) (G : MG) : ev 51 13 [a0, a1, a2, a3] (vI y :: vI x :: st) μ G = if y < x then ev 51 42 [a0, a1, a2, a3] st μ G else ev 51 16 [a0, a1, a2, a3] st μ G := ev_br (mm_cnd_gt x y) pg_51_13 rfl
theorem pg_51_16 : mm_prog 51 16 = some (0, .aload_n 0, 17, []) := by decide +kernel
theorem xe_51_16 (a1 a2 a3 : Option MV) (x : Int) (st : List MV) (μ : MM) (G : MG) : ev 51 16 [some (vR x), a1, a2, a3] st μ G = ev 51 17 [some (vR x), a1, a2, a3] (vR x :: st) μ G := ev_stp pg_51_16 rfl
theorem pg_51_17 : mm_prog 51 17 = some (0, .iload_n 1, 18, []) := by decide +kernel
theorem xe_51_17 (a0 a2 a3 : Option MV) (x : Int) (st : List MV) (μ : MM) (G : MG) : ev 51 17 [a0, some (vI x), a2, a3] st μ G = ev 51 18 [a0, some (vI x), a2, a3] (vI x :: st) μ G := ev_stp pg_51_17 rfl
theorem pg_51_18 : mm_prog 51 18 = some (0, .iload_n 3, 19, []) := by decide +kernel
theorem xe_51_18 (a0 a1 a2 : Option MV) (x : Int) (st : List MV) (μ : MM) (G : MG) : ev 51 18 [a0, a1, a2, some (vI x)] st μ G = ev 51 19 [a0, a1, a2, some (vI x)] (vI x :: st) μ G := ev_stp pg_51_18 rfl
theorem pg_51_19 : mm_prog 51 19 = some (0, .iadd, 20, []) := by decide +kernel
theorem xe_51_19 (a0 a1 a2 a3 : Option MV) (x y : Int) (st : List MV) (μ : MM) (G : MG) : ev 51 19 [a0, a1, a2, a3] (vI y :: vI x :: st) μ G = ev 51 20 [a0, a1, a2, a3] (vI (w32 (x + y)) :: st) μ G := ev_stp pg_51_19 rfl
theorem pg_51_20 : mm_prog 51 20 = some (1, .invokevirtual 83, 23, [1, 45, 1, 6]) := by decide +kernel
theorem xe_51_20 (a0 a1 a2 a3 : Option MV) (x0 z : Int) (μ : MM) (G : MG) : ev 51 20 [a0, a1, a2, a3] (vI x0 :: vR z :: []) μ G = if gk G z = 6 ∧ 0 < z then (ev 45 0 [some (vR z), some (vI x0)] [] μ G).bind (fun q => ev 51 23 [a0, a1, a2, a3] (q.1.toList ++ []) q.2.1 q.2.2) else none := ev_calV (as := [vR z, vI x0]) (r := []) mx_45 pg_51_20 rfl rfl (Nat.le_of_ble_eq_true rfl) (Nat.le_of_ble_eq_true rfl)
theorem pg_51_23 : mm_prog 51 23 = some (0, .ifCond .ne 6, 26, []) := by decide +kernel
theorem xe_51_23 (a0 a1 a2 a3 : Option MV) (x : Int) (st : List MV) (μ : MM) (G : MG) : ev 51 23 [a0, a1, a2, a3] (vI x :: st) μ G = if ¬ x = 0 then ev 51 29 [a0, a1, a2, a3] st μ G else ev 51 26 [a0, a1, a2, a3] st μ G := ev_br (mm_cnd_ne x 0) pg_51_23 rfl
theorem pg_51_26 : mm_prog 51 26 = some (0, .goto 16, 29, []) := by decide +kernel
theorem xe_51_26 (a0 a1 a2 a3 : Option MV) (st : List MV) (μ : MM) (G : MG) : ev 51 26 [a0, a1, a2, a3] st μ G = ev 51 42 [a0, a1, a2, a3] st μ G := ev_stp pg_51_26 rfl
theorem pg_51_29 : mm_prog 51 29 = some (0, .aload_n 0, 30, []) := by decide +kernel
theorem xe_51_29 (a1 a2 a3 : Option MV) (x : Int) (st : List MV) (μ : MM) (G : MG) : ev 51 29 [some (vR x), a1, a2, a3] st μ G = ev 51 30 [some (vR x), a1, a2, a3] (vR x :: st) μ G := ev_stp pg_51_29 rfl
theorem pg_51_30 : mm_prog 51 30 = some (0, .iload_n 1, 31, []) := by decide +kernel
theorem xe_51_30 (a0 a2 a3 : Option MV) (x : Int) (st : List MV) (μ : MM) (G : MG) : ev 51 30 [a0, some (vI x), a2, a3] st μ G = ev 51 31 [a0, some (vI x), a2, a3] (vI x :: st) μ G := ev_stp pg_51_30 rfl
theorem pg_51_31 : mm_prog 51 31 = some (0, .iload_n 3, 32, []) := by decide +kernel
theorem xe_51_31 (a0 a1 a2 : Option MV) (x : Int) (st : List MV) (μ : MM) (G : MG) : ev 51 31 [a0, a1, a2, some (vI x)] st μ G = ev 51 32 [a0, a1, a2, some (vI x)] (vI x :: st) μ G := ev_stp pg_51_31 rfl
theorem pg_51_32 : mm_prog 51 32 = some (0, .iadd, 33, []) := by decide +kernel
theorem xe_51_32 (a0 a1 a2 a3 : Option MV) (x y : Int) (st : List MV) (μ : MM) (G : MG) : ev 51 32 [a0, a1, a2, a3] (vI y :: vI x :: st) μ G = ev 51 33 [a0, a1, a2, a3] (vI (w32 (x + y)) :: st) μ G := ev_stp pg_51_32 rfl
theorem pg_51_33 : mm_prog 51 33 = some (1, .invokevirtual 87, 36, [1, 46, 1, 6]) := by decide +kernel
theorem xe_51_33 (a0 a1 a2 a3 : Option MV) (x0 z : Int) (μ : MM) (G : MG) : ev 51 33 [a0, a1, a2, a3] (vI x0 :: vR z :: []) μ G = if gk G z = 6 ∧ 0 < z then (ev 46 0 [some (vR z), some (vI x0)] [] μ G).bind (fun q => ev 51 36 [a0, a1, a2, a3] (q.1.toList ++ []) q.2.1 q.2.2) else none := ev_calV (as := [vR z, vI x0]) (r := []) mx_46 pg_51_33 rfl rfl (Nat.le_of_ble_eq_true rfl) (Nat.le_of_ble_eq_true rfl)
theorem pg_51_36 : mm_prog 51 36 = some (0, .iinc 3 18, 39, []) := by decide +kernel
theorem xe_51_36 (a0 a1 a2 : Option MV) (x : Int) (st : List MV) (μ : MM) (G : MG) (h : mm_nL a2 = true) : ev 51 36 [a0, a1, a2, some (vI x)] st μ G = ev 51 39 [a0, a1, a2, some (vI (w32 (x + (18))))] st μ G := ev_st pg_51_36 rfl (mm_nl_of h) (Nat.le_of_ble_eq_true rfl)
theorem pg_51_39 : mm_prog 51 39 = some (0, .goto (-32), 42, []) := by decide +kernel
theorem xe_51_39 (a0 a1 a2 a3 : Option MV) (st : List MV) (μ : MM) (G : MG) : ev 51 39 [a0, a1, a2, a3] st μ G = ev 51 7 [a0, a1, a2, a3] st μ G := ev_stp pg_51_39 rfl
theorem pg_51_42 : mm_prog 51 42 = some (2, .return_, 43, []) := by decide +kernel
theorem xe_51_42 (a0 a1 a2 a3 : Option MV) (μ : MM) (G : MG) : ev 51 42 [a0, a1, a2, a3] [] μ G = some (none, μ, G) := ev_ret pg_51_42 rfl
-- X6_detailedAt
theorem pg_52_0 : mm_prog 52 0 = some (0, .iload_n 1, 1, []) := by decide +kernel
theorem xe_52_0 (a0 : Option MV) (x : Int) (st : List MV) (μ : MM) (G : MG) : ev 52 0 [a0, some (vI x)] st μ G = ev 52 1 [a0, some (vI x)] (vI x :: st) μ G := ev_stp pg_52_0 rfl
theorem pg_52_1 : mm_prog 52 1 = some (0, .ifCond .lt 29, 4, []) := by decide +kernel
theorem xe_52_1 (a0 a1 : Option MV) (x : Int) (st : List MV) (μ : MM) (G : MG) : ev 52 1 [a0, a1] (vI x :: st) μ G = if x < 0 then ev 52 30 [a0, a1] st μ G else ev 52 4 [a0, a1] st μ G := ev_br (mm_cnd_lt x 0) pg_52_1 rfl
theorem pg_52_4 : mm_prog 52 4 = some (0, .iload_n 1, 5, []) := by decide +kernel
theorem xe_52_4 (a0 : Option MV) (x : Int) (st : List MV) (μ : MM) (G : MG) : ev 52 4 [a0, some (vI x)] st μ G = ev 52 5 [a0, some (vI x)] (vI x :: st) μ G := ev_stp pg_52_4 rfl
theorem pg_52_5 : mm_prog 52 5 = some (0, .aload_n 0, 6, []) := by decide +kernel
theorem xe_52_5 (a1 : Option MV) (x : Int) (st : List MV) (μ : MM) (G : MG) : ev 52 5 [some (vR x), a1] st μ G = ev 52 6 [some (vR x), a1] (vR x :: st) μ G := ev_stp pg_52_5 rfl
theorem pg_52_6 : mm_prog 52 6 = some (0, .getfield 46, 9, [6, 6, 0]) := by decide +kernel
theorem xe_52_6 (a0 a1 : Option MV) (x : Int) (st : List MV) (μ : MM) (G : MG) : ev 52 6 [a0, a1] (vR x :: st) μ G = if gk G x = 6 then ev 52 9 [a0, a1] (vI (μ x 6) :: st) μ G else none := ev_if pg_52_6 rfl
theorem pg_52_9 : mm_prog 52 9 = some (0, .if_icmp .ge 21, 12, []) := by decide +kernel
theorem xe_52_9 (a0 a1 : Option MV) (x y : Int) (st : List MV) (μ : MM) (G : MG) : ev 52 9 [a0, a1] (vI y :: vI x :: st) μ G = if y ≤ x then ev 52 30 [a0, a1] st μ G else ev 52 12 [a0, a1] st μ G := ev_br (mm_cnd_ge x y) pg_52_9 rfl
theorem pg_52_12 : mm_prog 52 12 = some (0, .iload_n 1, 13, []) := by decide +kernel
theorem xe_52_12 (a0 : Option MV) (x : Int) (st : List MV) (μ : MM) (G : MG) : ev 52 12 [a0, some (vI x)] st μ G = ev 52 13 [a0, some (vI x)] (vI x :: st) μ G := ev_stp pg_52_12 rfl
theorem pg_52_13 : mm_prog 52 13 = some (0, .aload_n 0, 14, []) := by decide +kernel
theorem xe_52_13 (a1 : Option MV) (x : Int) (st : List MV) (μ : MM) (G : MG) : ev 52 13 [some (vR x), a1] st μ G = ev 52 14 [some (vR x), a1] (vR x :: st) μ G := ev_stp pg_52_13 rfl
theorem pg_52_14 : mm_prog 52 14 = some (0, .getfield 20, 17, [6, 1, 2]) := by decide +kernel
theorem xe_52_14 (a0 a1 : Option MV) (x : Int) (st : List MV) (μ : MM) (G : MG) : ev 52 14 [a0, a1] (vR x :: st) μ G = if gk G x = 6 then ev 52 17 [a0, a1] (vR (μ x 1) :: st) μ G else none := ev_if pg_52_14 rfl
theorem pg_52_17 : mm_prog 52 17 = some (0, .arraylength, 18, []) := by decide +kernel
theorem xe_52_17 (a0 a1 : Option MV) (x : Int) (st : List MV) (μ : MM) (G : MG) : ev 52 17 [a0, a1] (vR x :: st) μ G = if 100 ≤ gk G x then ev 52 18 [a0, a1] (vI (gl G x) :: st) μ G else none := ev_if pg_52_17 rfl
theorem pg_52_18 : mm_prog 52 18 = some (0, .if_icmp .ge 12, 21, []) := by decide +kernel
theorem xe_52_18 (a0 a1 : Option MV) (x y : Int) (st : List MV) (μ : MM) (G : MG) : ev 52 18 [a0, a1] (vI y :: vI x :: st) μ G = if y ≤ x then ev 52 30 [a0, a1] st μ G else ev 52 21 [a0, a1] st μ G := ev_br (mm_cnd_ge x y) pg_52_18 rfl
theorem pg_52_21 : mm_prog 52 21 = some (0, .aload_n 0, 22, []) := by decide +kernel
theorem xe_52_21 (a1 : Option MV) (x : Int) (st : List MV) (μ : MM) (G : MG) : ev 52 21 [some (vR x), a1] st μ G = ev 52 22 [some (vR x), a1] (vR x :: st) μ G := ev_stp pg_52_21 rfl
theorem pg_52_22 : mm_prog 52 22 = some (0, .getfield 20, 25, [6, 1, 2]) := by decide +kernel
theorem xe_52_22 (a0 a1 : Option MV) (x : Int) (st : List MV) (μ : MM) (G : MG) : ev 52 22 [a0, a1] (vR x :: st) μ G = if gk G x = 6 then ev 52 25 [a0, a1] (vR (μ x 1) :: st) μ G else none := ev_if pg_52_22 rfl
theorem pg_52_25 : mm_prog 52 25 = some (0, .iload_n 1, 26, []) := by decide +kernel
theorem xe_52_25 (a0 : Option MV) (x : Int) (st : List MV) (μ : MM) (G : MG) : ev 52 25 [a0, some (vI x)] st μ G = ev 52 26 [a0, some (vI x)] (vI x :: st) μ G := ev_stp pg_52_25 rfl
theorem pg_52_26 : mm_prog 52 26 = some (0, .aaload, 27, [103, 7]) := by decide +kernel
theorem xe_52_26 (a0 a1 : Option MV) (x y : Int) (st : List MV) (μ : MM) (G : MG) : ev 52 26 [a0, a1] (vI x :: vR y :: st) μ G = if gk G y = 103 ∧ 0 ≤ x ∧ x < gl G y then ev 52 27 [a0, a1] (vR (μ y x) :: st) μ G else none := ev_if pg_52_26 rfl
theorem pg_52_27 : mm_prog 52 27 = some (0, .goto 4, 30, []) := by decide +kernel
theorem xe_52_27 (a0 a1 : Option MV) (st : List MV) (μ : MM) (G : MG) : ev 52 27 [a0, a1] st μ G = ev 52 31 [a0, a1] st μ G := ev_stp pg_52_27 rfl
theorem pg_52_30 : mm_prog 52 30 = some (0, .aconst_null, 31, []) := by decide +kernel
theorem xe_52_30 (a0 a1 : Option MV) (st : List MV) (μ : MM) (G : MG) : ev 52 30 [a0, a1] st μ G = ev 52 31 [a0, a1] (vR 0 :: st) μ G := ev_stp pg_52_30 rfl
theorem pg_52_31 : mm_prog 52 31 = some (2, .areturn, 32, []) := by decide +kernel
theorem xe_52_31 (a0 a1 : Option MV) (x : Int) (μ : MM) (G : MG) : ev 52 31 [a0, a1] [vR x] μ G = some (some (vR x), μ, G) := ev_ret pg_52_31 rfl
-- X6_codeAt
theorem pg_53_0 : mm_prog 53 0 = some (0, .iload_n 1, 1, []) := by decide +kernel
theorem xe_53_0 (a0 : Option MV) (x : Int) (st : List MV) (μ : MM) (G : MG) : ev 53 0 [a0, some (vI x)] st μ G = ev 53 1 [a0, some (vI x)] (vI x :: st) μ G := ev_stp pg_53_0 rfl
theorem pg_53_1 : mm_prog 53 1 = some (0, .ifCond .lt 29, 4, []) := by decide +kernel
theorem xe_53_1 (a0 a1 : Option MV) (x : Int) (st : List MV) (μ : MM) (G : MG) : ev 53 1 [a0, a1] (vI x :: st) μ G = if x < 0 then ev 53 30 [a0, a1] st μ G else ev 53 4 [a0, a1] st μ G := ev_br (mm_cnd_lt x 0) pg_53_1 rfl
theorem pg_53_4 : mm_prog 53 4 = some (0, .iload_n 1, 5, []) := by decide +kernel
theorem xe_53_4 (a0 : Option MV) (x : Int) (st : List MV) (μ : MM) (G : MG) : ev 53 4 [a0, some (vI x)] st μ G = ev 53 5 [a0, some (vI x)] (vI x :: st) μ G := ev_stp pg_53_4 rfl
theorem pg_53_5 : mm_prog 53 5 = some (0, .aload_n 0, 6, []) := by decide +kernel
theorem xe_53_5 (a1 : Option MV) (x : Int) (st : List MV) (μ : MM) (G : MG) : ev 53 5 [some (vR x), a1] st μ G = ev 53 6 [some (vR x), a1] (vR x :: st) μ G := ev_stp pg_53_5 rfl
theorem pg_53_6 : mm_prog 53 6 = some (0, .getfield 49, 9, [6, 8, 0]) := by decide +kernel
theorem xe_53_6 (a0 a1 : Option MV) (x : Int) (st : List MV) (μ : MM) (G : MG) : ev 53 6 [a0, a1] (vR x :: st) μ G = if gk G x = 6 then ev 53 9 [a0, a1] (vI (μ x 8) :: st) μ G else none := ev_if pg_53_6 rfl
theorem pg_53_9 : mm_prog 53 9 = some (0, .if_icmp .ge 21, 12, []) := by decide +kernel
theorem xe_53_9 (a0 a1 : Option MV) (x y : Int) (st : List MV) (μ : MM) (G : MG) : ev 53 9 [a0, a1] (vI y :: vI x :: st) μ G = if y ≤ x then ev 53 30 [a0, a1] st μ G else ev 53 12 [a0, a1] st μ G := ev_br (mm_cnd_ge x y) pg_53_9 rfl
theorem pg_53_12 : mm_prog 53 12 = some (0, .iload_n 1, 13, []) := by decide +kernel
theorem xe_53_12 (a0 : Option MV) (x : Int) (st : List MV) (μ : MM) (G : MG) : ev 53 12 [a0, some (vI x)] st μ G = ev 53 13 [a0, some (vI x)] (vI x :: st) μ G := ev_stp pg_53_12 rfl
theorem pg_53_13 : mm_prog 53 13 = some (0, .aload_n 0, 14, []) := by decide +kernel
theorem xe_53_13 (a1 : Option MV) (x : Int) (st : List MV) (μ : MM) (G : MG) : ev 53 13 [some (vR x), a1] st μ G = ev 53 14 [some (vR x), a1] (vR x :: st) μ G := ev_stp pg_53_13 rfl
theorem pg_53_14 : mm_prog 53 14 = some (0, .getfield 24, 17, [6, 2, 2]) := by decide +kernel
theorem xe_53_14 (a0 a1 : Option MV) (x : Int) (st : List MV) (μ : MM) (G : MG) : ev 53 14 [a0, a1] (vR x :: st) μ G = if gk G x = 6 then ev 53 17 [a0, a1] (vR (μ x 2) :: st) μ G else none := ev_if pg_53_14 rfl
theorem pg_53_17 : mm_prog 53 17 = some (0, .arraylength, 18, []) := by decide +kernel
theorem xe_53_17 (a0 a1 : Option MV) (x : Int) (st : List MV) (μ : MM) (G : MG) : ev 53 17 [a0, a1] (vR x :: st) μ G = if 100 ≤ gk G x then ev 53 18 [a0, a1] (vI (gl G x) :: st) μ G else none := ev_if pg_53_17 rfl
theorem pg_53_18 : mm_prog 53 18 = some (0, .if_icmp .ge 12, 21, []) := by decide +kernel
theorem xe_53_18 (a0 a1 : Option MV) (x y : Int) (st : List MV) (μ : MM) (G : MG) : ev 53 18 [a0, a1] (vI y :: vI x :: st) μ G = if y ≤ x then ev 53 30 [a0, a1] st μ G else ev 53 21 [a0, a1] st μ G := ev_br (mm_cnd_ge x y) pg_53_18 rfl
theorem pg_53_21 : mm_prog 53 21 = some (0, .aload_n 0, 22, []) := by decide +kernel
theorem xe_53_21 (a1 : Option MV) (x : Int) (st : List MV) (μ : MM) (G : MG) : ev 53 21 [some (vR x), a1] st μ G = ev 53 22 [some (vR x), a1] (vR x :: st) μ G := ev_stp pg_53_21 rfl
theorem pg_53_22 : mm_prog 53 22 = some (0, .getfield 24, 25, [6, 2, 2]) := by decide +kernel
theorem xe_53_22 (a0 a1 : Option MV) (x : Int) (st : List MV) (μ : MM) (G : MG) : ev 53 22 [a0, a1] (vR x :: st) μ G = if gk G x = 6 then ev 53 25 [a0, a1] (vR (μ x 2) :: st) μ G else none := ev_if pg_53_22 rfl
theorem pg_53_25 : mm_prog 53 25 = some (0, .iload_n 1, 26, []) := by decide +kernel
theorem xe_53_25 (a0 : Option MV) (x : Int) (st : List MV) (μ : MM) (G : MG) : ev 53 25 [a0, some (vI x)] st μ G = ev 53 26 [a0, some (vI x)] (vI x :: st) μ G := ev_stp pg_53_25 rfl
theorem pg_53_26 : mm_prog 53 26 = some (0, .iaload, 27, []) := by decide +kernel
theorem xe_53_26 (a0 a1 : Option MV) (x y : Int) (st : List MV) (μ : MM) (G : MG) : ev 53 26 [a0, a1] (vI x :: vR y :: st) μ G = if gk G y = 100 ∧ 0 ≤ x ∧ x < gl G y then ev 53 27 [a0, a1] (vI (μ y x) :: st) μ G else none := ev_if pg_53_26 rfl
theorem pg_53_27 : mm_prog 53 27 = some (0, .goto 4, 30, []) := by decide +kernel
theorem xe_53_27 (a0 a1 : Option MV) (st : List MV) (μ : MM) (G : MG) : ev 53 27 [a0, a1] st μ G = ev 53 31 [a0, a1] st μ G := ev_stp pg_53_27 rfl
theorem pg_53_30 : mm_prog 53 30 = some (0, .iconst 0, 31, []) := by decide +kernel
theorem xe_53_30 (a0 a1 : Option MV) (st : List MV) (μ : MM) (G : MG) : ev 53 30 [a0, a1] st μ G = ev 53 31 [a0, a1] (vI (0) :: st) μ G := ev_stp pg_53_30 rfl
theorem pg_53_31 : mm_prog 53 31 = some (2, .ireturn, 32, [0]) := by decide +kernel
theorem xe_53_31 (a0 a1 : Option MV) (x : Int) (μ : MM) (G : MG) : ev 53 31 [a0, a1] [vI x] μ G = some (some (vI x), μ, G) := ev_ret pg_53_31 rfl
-- X6_nameByte
theorem pg_54_0 : mm_prog 54 0 = some (0, .iload_n 1, 1, []) := by decide +kernel
theorem xe_54_0 (a0 : Option MV) (x : Int) (st : List MV) (μ : MM) (G : MG) : ev 54 0 [a0, some (vI x)] st μ G = ev 54 1 [a0, some (vI x)] (vI x :: st) μ G := ev_stp pg_54_0 rfl
theorem pg_54_1 : mm_prog 54 1 = some (0, .ifCond .lt 29, 4, []) := by decide +kernel
theorem xe_54_1 (a0 a1 : Option MV) (x : Int) (st : List MV) (μ : MM) (G : MG) : ev 54 1 [a0, a1] (vI x :: st) μ G = if x < 0 then ev 54 30 [a0, a1] st μ G else ev 54 4 [a0, a1] st μ G := ev_br (mm_cnd_lt x 0) pg_54_1 rfl
theorem pg_54_4 : mm_prog 54 4 = some (0, .iload_n 1, 5, []) := by decide +kernel
theorem xe_54_4 (a0 : Option MV) (x : Int) (st : List MV) (μ : MM) (G : MG) : ev 54 4 [a0, some (vI x)] st μ G = ev 54 5 [a0, some (vI x)] (vI x :: st) μ G := ev_stp pg_54_4 rfl
theorem pg_54_5 : mm_prog 54 5 = some (0, .aload_n 0, 6, []) := by decide +kernel
theorem xe_54_5 (a1 : Option MV) (x : Int) (st : List MV) (μ : MM) (G : MG) : ev 54 5 [some (vR x), a1] st μ G = ev 54 6 [some (vR x), a1] (vR x :: st) μ G := ev_stp pg_54_5 rfl
theorem pg_54_6 : mm_prog 54 6 = some (0, .getfield 52, 9, [6, 9, 0]) := by decide +kernel
theorem xe_54_6 (a0 a1 : Option MV) (x : Int) (st : List MV) (μ : MM) (G : MG) : ev 54 6 [a0, a1] (vR x :: st) μ G = if gk G x = 6 then ev 54 9 [a0, a1] (vI (μ x 9) :: st) μ G else none := ev_if pg_54_6 rfl
theorem pg_54_9 : mm_prog 54 9 = some (0, .if_icmp .ge 21, 12, []) := by decide +kernel
theorem xe_54_9 (a0 a1 : Option MV) (x y : Int) (st : List MV) (μ : MM) (G : MG) : ev 54 9 [a0, a1] (vI y :: vI x :: st) μ G = if y ≤ x then ev 54 30 [a0, a1] st μ G else ev 54 12 [a0, a1] st μ G := ev_br (mm_cnd_ge x y) pg_54_9 rfl
theorem pg_54_12 : mm_prog 54 12 = some (0, .iload_n 1, 13, []) := by decide +kernel
theorem xe_54_12 (a0 : Option MV) (x : Int) (st : List MV) (μ : MM) (G : MG) : ev 54 12 [a0, some (vI x)] st μ G = ev 54 13 [a0, some (vI x)] (vI x :: st) μ G := ev_stp pg_54_12 rfl
theorem pg_54_13 : mm_prog 54 13 = some (0, .aload_n 0, 14, []) := by decide +kernel
theorem xe_54_13 (a1 : Option MV) (x : Int) (st : List MV) (μ : MM) (G : MG) : ev 54 13 [some (vR x), a1] st μ G = ev 54 14 [some (vR x), a1] (vR x :: st) μ G := ev_stp pg_54_13 rfl
theorem pg_54_14 : mm_prog 54 14 = some (0, .getfield 28, 17, [6, 3, 2]) := by decide +kernel
theorem xe_54_14 (a0 a1 : Option MV) (x : Int) (st : List MV) (μ : MM) (G : MG) : ev 54 14 [a0, a1] (vR x :: st) μ G = if gk G x = 6 then ev 54 17 [a0, a1] (vR (μ x 3) :: st) μ G else none := ev_if pg_54_14 rfl
theorem pg_54_17 : mm_prog 54 17 = some (0, .arraylength, 18, []) := by decide +kernel
theorem xe_54_17 (a0 a1 : Option MV) (x : Int) (st : List MV) (μ : MM) (G : MG) : ev 54 17 [a0, a1] (vR x :: st) μ G = if 100 ≤ gk G x then ev 54 18 [a0, a1] (vI (gl G x) :: st) μ G else none := ev_if pg_54_17 rfl
theorem pg_54_18 : mm_prog 54 18 = some (0, .if_icmp .ge 12, 21, []) := by decide +kernel
theorem xe_54_18 (a0 a1 : Option MV) (x y : Int) (st : List MV) (μ : MM) (G : MG) : ev 54 18 [a0, a1] (vI y :: vI x :: st) μ G = if y ≤ x then ev 54 30 [a0, a1] st μ G else ev 54 21 [a0, a1] st μ G := ev_br (mm_cnd_ge x y) pg_54_18 rfl
theorem pg_54_21 : mm_prog 54 21 = some (0, .aload_n 0, 22, []) := by decide +kernel
theorem xe_54_21 (a1 : Option MV) (x : Int) (st : List MV) (μ : MM) (G : MG) : ev 54 21 [some (vR x), a1] st μ G = ev 54 22 [some (vR x), a1] (vR x :: st) μ G := ev_stp pg_54_21 rfl
theorem pg_54_22 : mm_prog 54 22 = some (0, .getfield 28, 25, [6, 3, 2]) := by decide +kernel
theorem xe_54_22 (a0 a1 : Option MV) (x : Int) (st : List MV) (μ : MM) (G : MG) : ev 54 22 [a0, a1] (vR x :: st) μ G = if gk G x = 6 then ev 54 25 [a0, a1] (vR (μ x 3) :: st) μ G else none := ev_if pg_54_22 rfl
theorem pg_54_25 : mm_prog 54 25 = some (0, .iload_n 1, 26, []) := by decide +kernel
theorem xe_54_25 (a0 : Option MV) (x : Int) (st : List MV) (μ : MM) (G : MG) : ev 54 25 [a0, some (vI x)] st μ G = ev 54 26 [a0, some (vI x)] (vI x :: st) μ G := ev_stp pg_54_25 rfl
theorem pg_54_26 : mm_prog 54 26 = some (0, .iaload, 27, []) := by decide +kernel
theorem xe_54_26 (a0 a1 : Option MV) (x y : Int) (st : List MV) (μ : MM) (G : MG) : ev 54 26 [a0, a1] (vI x :: vR y :: st) μ G = if gk G y = 100 ∧ 0 ≤ x ∧ x < gl G y then ev 54 27 [a0, a1] (vI (μ y x) :: st) μ G else none := ev_if pg_54_26 rfl
theorem pg_54_27 : mm_prog 54 27 = some (0, .goto 4, 30, []) := by decide +kernel
theorem xe_54_27 (a0 a1 : Option MV) (st : List MV) (μ : MM) (G : MG) : ev 54 27 [a0, a1] st μ G = ev 54 31 [a0, a1] st μ G := ev_stp pg_54_27 rfl
theorem pg_54_30 : mm_prog 54 30 = some (0, .iconst 0, 31, []) := by decide +kernel
theorem xe_54_30 (a0 a1 : Option MV) (st : List MV) (μ : MM) (G : MG) : ev 54 30 [a0, a1] st μ G = ev 54 31 [a0, a1] (vI (0) :: st) μ G := ev_stp pg_54_30 rfl
theorem pg_54_31 : mm_prog 54 31 = some (2, .ireturn, 32, [0]) := by decide +kernel
theorem xe_54_31 (a0 a1 : Option MV) (x : Int) (μ : MM) (G : MG) : ev 54 31 [a0, a1] [vI x] μ G = some (some (vI x), μ, G) := ev_ret pg_54_31 rfl
-- X6_makerLetter
theorem pg_55_0 : mm_prog 55 0 = some (0, .aload_n 0, 1, []) := by decide +kernel
theorem xe_55_0 (a1 a2 : Option MV) (x : Int) (st : List MV) (μ : MM) (G : MG) : ev 55 0 [some (vR x), a1, a2] st μ G = ev 55 1 [some (vR x), a1, a2] (vR x :: st) μ G := ev_stp pg_55_0 rfl
theorem pg_55_1 : mm_prog 55 1 = some (0, .getfield 12, 4, [6, 0, 2]) := by decide +kernel
theorem xe_55_1 (a0 a1 a2 : Option MV) (x : Int) (st : List MV) (μ : MM) (G : MG) : ev 55 1 [a0, a1, a2] (vR x :: st) μ G = if gk G x = 6 then ev 55 4 [a0, a1, a2] (vR (μ x 0) :: st) μ G else none := ev_if pg_55_1 rfl
theorem pg_55_4 : mm_prog 55 4 = some (0, .bipush 8, 6, []) := by decide +kernel
theorem xe_55_4 (a0 a1 a2 : Option MV) (st : List MV) (μ : MM) (G : MG) : ev 55 4 [a0, a1, a2] st μ G = ev 55 6 [a0, a1, a2] (vI (8) :: st) μ G := ev_stp pg_55_4 rfl
theorem pg_55_6 : mm_prog 55 6 = some (1, .invokevirtual 72, 9, [1, 3, 1, 0]) := by decide +kernel
theorem xe_55_6 (a0 a1 a2 : Option MV) (x0 z : Int) (μ : MM) (G : MG) : ev 55 6 [a0, a1, a2] (vI x0 :: vR z :: []) μ G = if gk G z = 0 ∧ 0 < z then (ev 3 0 [some (vR z), some (vI x0)] [] μ G).bind (fun q => ev 55 9 [a0, a1, a2] (q.1.toList ++ []) q.2.1 q.2.2) else none := ev_calV (as := [vR z, vI x0]) (r := []) mx_3 pg_55_6 rfl rfl (Nat.le_of_ble_eq_true rfl) (Nat.le_of_ble_eq_true rfl)
theorem pg_55_9 : mm_prog 55 9 = some (0, .bipush 8, 11, []) := by decide +kernel
theorem xe_55_9 (a0 a1 a2 : Option MV) (st : List MV) (μ : MM) (G : MG) : ev 55 9 [a0, a1, a2] st μ G = ev 55 11 [a0, a1, a2] (vI (8) :: st) μ G := ev_stp pg_55_9 rfl
theorem pg_55_11 : mm_prog 55 11 = some (0, .ishl, 12, []) := by decide +kernel
theorem xe_55_11 (a0 a1 a2 : Option MV) (x y : Int) (st : List MV) (μ : MM) (G : MG) : ev 55 11 [a0, a1, a2] (vI y :: vI x :: st) μ G = ev 55 12 [a0, a1, a2] (vI (mm_shl x y) :: st) μ G := ev_stp pg_55_11 rfl
theorem pg_55_12 : mm_prog 55 12 = some (0, .aload_n 0, 13, []) := by decide +kernel
theorem xe_55_12 (a1 a2 : Option MV) (x : Int) (st : List MV) (μ : MM) (G : MG) : ev 55 12 [some (vR x), a1, a2] st μ G = ev 55 13 [some (vR x), a1, a2] (vR x :: st) μ G := ev_stp pg_55_12 rfl
theorem pg_55_13 : mm_prog 55 13 = some (0, .getfield 12, 16, [6, 0, 2]) := by decide +kernel
theorem xe_55_13 (a0 a1 a2 : Option MV) (x : Int) (st : List MV) (μ : MM) (G : MG) : ev 55 13 [a0, a1, a2] (vR x :: st) μ G = if gk G x = 6 then ev 55 16 [a0, a1, a2] (vR (μ x 0) :: st) μ G else none := ev_if pg_55_13 rfl
theorem pg_55_16 : mm_prog 55 16 = some (0, .bipush 9, 18, []) := by decide +kernel
theorem xe_55_16 (a0 a1 a2 : Option MV) (st : List MV) (μ : MM) (G : MG) : ev 55 16 [a0, a1, a2] st μ G = ev 55 18 [a0, a1, a2] (vI (9) :: st) μ G := ev_stp pg_55_16 rfl
theorem pg_55_18 : mm_prog 55 18 = some (1, .invokevirtual 72, 21, [1, 3, 1, 0]) := by decide +kernel
theorem xe_55_18 (a0 a1 a2 : Option MV) (x0 z r0 : Int) (μ : MM) (G : MG) : ev 55 18 [a0, a1, a2] (vI x0 :: vR z :: [vI r0]) μ G = if gk G z = 0 ∧ 0 < z then (ev 3 0 [some (vR z), some (vI x0)] [] μ G).bind (fun q => ev 55 21 [a0, a1, a2] (q.1.toList ++ [vI r0]) q.2.1 q.2.2) else none := ev_calV (as := [vR z, vI x0]) (r := [vI r0]) mx_3 pg_55_18 rfl rfl (Nat.le_of_ble_eq_true rfl) (Nat.le_of_ble_eq_true rfl)
theorem pg_55_21 : mm_prog 55 21 = some (0, .ior, 22, []) := by decide +kernel
theorem xe_55_21 (a0 a1 a2 : Option MV) (x y : Int) (st : List MV) (μ : MM) (G : MG) : ev 55 21 [a0, a1, a2] (vI y :: vI x :: st) μ G = ev 55 22 [a0, a1, a2] (vI (mm_or x y) :: st) μ G := ev_stp pg_55_21 rfl
theorem pg_55_22 : mm_prog 55 22 = some (0, .istore_n 2, 23, []) := by decide +kernel
theorem xe_55_22 (a0 a1 a2 : Option MV) (x : Int) (st : List MV) (μ : MM) (G : MG) (h : mm_nL a1 = true) : ev 55 22 [a0, a1, a2] (vI x :: st) μ G = ev 55 23 [a0, a1, some (vI x)] st μ G := ev_st pg_55_22 rfl (mm_nl_of h) (Nat.le_of_ble_eq_true rfl)
theorem pg_55_23 : mm_prog 55 23 = some (0, .bipush 64, 25, []) := by decide +kernel
theorem xe_55_23 (a0 a1 a2 : Option MV) (st : List MV) (μ : MM) (G : MG) : ev 55 23 [a0, a1, a2] st μ G = ev 55 25 [a0, a1, a2] (vI (64) :: st) μ G := ev_stp pg_55_23 rfl
theorem pg_55_25 : mm_prog 55 25 = some (0, .iload_n 2, 26, []) := by decide +kernel
theorem xe_55_25 (a0 a1 : Option MV) (x : Int) (st : List MV) (μ : MM) (G : MG) : ev 55 25 [a0, a1, some (vI x)] st μ G = ev 55 26 [a0, a1, some (vI x)] (vI x :: st) μ G := ev_stp pg_55_25 rfl
theorem pg_55_26 : mm_prog 55 26 = some (0, .bipush 10, 28, []) := by decide +kernel
theorem xe_55_26 (a0 a1 a2 : Option MV) (st : List MV) (μ : MM) (G : MG) : ev 55 26 [a0, a1, a2] st μ G = ev 55 28 [a0, a1, a2] (vI (10) :: st) μ G := ev_stp pg_55_26 rfl
theorem pg_55_28 : mm_prog 55 28 = some (0, .iconst 5, 29, []) := by decide +kernel
theorem xe_55_28 (a0 a1 a2 : Option MV) (st : List MV) (μ : MM) (G : MG) : ev 55 28 [a0, a1, a2] st μ G = ev 55 29 [a0, a1, a2] (vI (5) :: st) μ G := ev_stp pg_55_28 rfl
theorem pg_55_29 : mm_prog 55 29 = some (0, .iload_n 1, 30, []) := by decide +kernel
theorem xe_55_29 (a0 a2 : Option MV) (x : Int) (st : List MV) (μ : MM) (G : MG) : ev 55 29 [a0, some (vI x), a2] st μ G = ev 55 30 [a0, some (vI x), a2] (vI x :: st) μ G := ev_stp pg_55_29 rfl
theorem pg_55_30 : mm_prog 55 30 = some (0, .imul, 31, []) := by decide +kernel
theorem xe_55_30 (a0 a1 a2 : Option MV) (x y : Int) (st : List MV) (μ : MM) (G : MG) : ev 55 30 [a0, a1, a2] (vI y :: vI x :: st) μ G = ev 55 31 [a0, a1, a2] (vI (w32 (x * y)) :: st) μ G := ev_stp pg_55_30 rfl
theorem pg_55_31 : mm_prog 55 31 = some (0, .isub, 32, []) := by decide +kernel
theorem xe_55_31 (a0 a1 a2 : Option MV) (x y : Int) (st : List MV) (μ : MM) (G : MG) : ev 55 31 [a0, a1, a2] (vI y :: vI x :: st) μ G = ev 55 32 [a0, a1, a2] (vI (w32 (x - y)) :: st) μ G := ev_stp pg_55_31 rfl
theorem pg_55_32 : mm_prog 55 32 = some (0, .ishr, 33, []) := by decide +kernel
theorem xe_55_32 (a0 a1 a2 : Option MV) (x y : Int) (st : List MV) (μ : MM) (G : MG) : ev 55 32 [a0, a1, a2] (vI y :: vI x :: st) μ G = ev 55 33 [a0, a1, a2] (vI (mm_shr x y) :: st) μ G := ev_stp pg_55_32 rfl
theorem pg_55_33 : mm_prog 55 33 = some (0, .bipush 31, 35, []) := by decide +kernel
theorem xe_55_33 (a0 a1 a2 : Option MV) (st : List MV) (μ : MM) (G : MG) : ev 55 33 [a0, a1, a2] st μ G = ev 55 35 [a0, a1, a2] (vI (31) :: st) μ G := ev_stp pg_55_33 rfl
theorem pg_55_35 : mm_prog 55 35 = some (0, .iand, 36, []) := by decide +kernel
theorem xe_55_35 (a0 a1 a2 : Option MV) (x y : Int) (st : List MV) (μ : MM) (G : MG) : ev 55 35 [a0, a1, a2] (vI y :: vI x :: st) μ G = ev 55 36 [a0, a1, a2] (vI (mm_and x y) :: st) μ G := ev_stp pg_55_35 rfl
theorem pg_55_36 : mm_prog 55 36 = some (0, .iadd, 37, []) := by decide +kernel
theorem xe_55_36 (a0 a1 a2 : Option MV) (x y : Int) (st : List MV) (μ : MM) (G : MG) : ev 55 36 [a0, a1, a2] (vI y :: vI x :: st) μ G = ev 55 37 [a0, a1, a2] (vI (w32 (x + y)) :: st) μ G := ev_stp pg_55_36 rfl
theorem pg_55_37 : mm_prog 55 37 = some (2, .ireturn, 38, [0]) := by decide +kernel
theorem xe_55_37 (a0 a1 a2 : Option MV) (x : Int) (μ : MM) (G : MG) : ev 55 37 [a0, a1, a2] [vI x] μ G = some (some (vI x), μ, G) := ev_ret pg_55_37 rfl
-- X6_rangeByte
theorem pg_56_0 : mm_prog 56 0 = some (0, .iload_n 1, 1, []) := by decide +kernel
theorem xe_56_0 (a0 : Option MV) (x : Int) (st : List MV) (μ : MM) (G : MG) : ev 56 0 [a0, some (vI x)] st μ G = ev 56 1 [a0, some (vI x)] (vI x :: st) μ G := ev_stp pg_56_0 rfl
theorem pg_56_1 : mm_prog 56 1 = some (0, .ifCond .lt 21, 4, []) := by decide +kernel
theorem xe_56_1 (a0 a1 : Option MV) (x : Int) (st : List MV) (μ : MM) (G : MG) : ev 56 1 [a0, a1] (vI x :: st) μ G = if x < 0 then ev 56 22 [a0, a1] st μ G else ev 56 4 [a0, a1] st μ G := ev_br (mm_cnd_lt x 0) pg_56_1 rfl
theorem pg_56_4 : mm_prog 56 4 = some (0, .iload_n 1, 5, []) := by decide +kernel
theorem xe_56_4 (a0 : Option MV) (x : Int) (st : List MV) (μ : MM) (G : MG) : ev 56 4 [a0, some (vI x)] st μ G = ev 56 5 [a0, some (vI x)] (vI x :: st) μ G := ev_stp pg_56_4 rfl
theorem pg_56_5 : mm_prog 56 5 = some (0, .aload_n 0, 6, []) := by decide +kernel
theorem xe_56_5 (a1 : Option MV) (x : Int) (st : List MV) (μ : MM) (G : MG) : ev 56 5 [some (vR x), a1] st μ G = ev 56 6 [some (vR x), a1] (vR x :: st) μ G := ev_stp pg_56_5 rfl
theorem pg_56_6 : mm_prog 56 6 = some (0, .getfield 31, 9, [6, 4, 2]) := by decide +kernel
theorem xe_56_6 (a0 a1 : Option MV) (x : Int) (st : List MV) (μ : MM) (G : MG) : ev 56 6 [a0, a1] (vR x :: st) μ G = if gk G x = 6 then ev 56 9 [a0, a1] (vR (μ x 4) :: st) μ G else none := ev_if pg_56_6 rfl
theorem pg_56_9 : mm_prog 56 9 = some (0, .arraylength, 10, []) := by decide +kernel
theorem xe_56_9 (a0 a1 : Option MV) (x : Int) (st : List MV) (μ : MM) (G : MG) : ev 56 9 [a0, a1] (vR x :: st) μ G = if 100 ≤ gk G x then ev 56 10 [a0, a1] (vI (gl G x) :: st) μ G else none := ev_if pg_56_9 rfl
theorem pg_56_10 : mm_prog 56 10 = some (0, .if_icmp .ge 12, 13, []) := by decide +kernel
theorem xe_56_10 (a0 a1 : Option MV) (x y : Int) (st : List MV) (μ : MM) (G : MG) : ev 56 10 [a0, a1] (vI y :: vI x :: st) μ G = if y ≤ x then ev 56 22 [a0, a1] st μ G else ev 56 13 [a0, a1] st μ G := ev_br (mm_cnd_ge x y) pg_56_10 rfl
theorem pg_56_13 : mm_prog 56 13 = some (0, .aload_n 0, 14, []) := by decide +kernel
theorem xe_56_13 (a1 : Option MV) (x : Int) (st : List MV) (μ : MM) (G : MG) : ev 56 13 [some (vR x), a1] st μ G = ev 56 14 [some (vR x), a1] (vR x :: st) μ G := ev_stp pg_56_13 rfl
theorem pg_56_14 : mm_prog 56 14 = some (0, .getfield 31, 17, [6, 4, 2]) := by decide +kernel
theorem xe_56_14 (a0 a1 : Option MV) (x : Int) (st : List MV) (μ : MM) (G : MG) : ev 56 14 [a0, a1] (vR x :: st) μ G = if gk G x = 6 then ev 56 17 [a0, a1] (vR (μ x 4) :: st) μ G else none := ev_if pg_56_14 rfl
theorem pg_56_17 : mm_prog 56 17 = some (0, .iload_n 1, 18, []) := by decide +kernel
theorem xe_56_17 (a0 : Option MV) (x : Int) (st : List MV) (μ : MM) (G : MG) : ev 56 17 [a0, some (vI x)] st μ G = ev 56 18 [a0, some (vI x)] (vI x :: st) μ G := ev_stp pg_56_17 rfl
theorem pg_56_18 : mm_prog 56 18 = some (0, .iaload, 19, []) := by decide +kernel
theorem xe_56_18 (a0 a1 : Option MV) (x y : Int) (st : List MV) (μ : MM) (G : MG) : ev 56 18 [a0, a1] (vI x :: vR y :: st) μ G = if gk G y = 100 ∧ 0 ≤ x ∧ x < gl G y then ev 56 19 [a0, a1] (vI (μ y x) :: st) μ G else none := ev_if pg_56_18 rfl
theorem pg_56_19 : mm_prog 56 19 = some (0, .goto 4, 22, []) := by decide +kernel
theorem xe_56_19 (a0 a1 : Option MV) (st : List MV) (μ : MM) (G : MG) : ev 56 19 [a0, a1] st μ G = ev 56 23 [a0, a1] st μ G := ev_stp pg_56_19 rfl
theorem pg_56_22 : mm_prog 56 22 = some (0, .iconst 0, 23, []) := by decide +kernel
theorem xe_56_22 (a0 a1 : Option MV) (st : List MV) (μ : MM) (G : MG) : ev 56 22 [a0, a1] st μ G = ev 56 23 [a0, a1] (vI (0) :: st) μ G := ev_stp pg_56_22 rfl
theorem pg_56_23 : mm_prog 56 23 = some (2, .ireturn, 24, [0]) := by decide +kernel
theorem xe_56_23 (a0 a1 : Option MV) (x : Int) (μ : MM) (G : MG) : ev 56 23 [a0, a1] [vI x] μ G = some (some (vI x), μ, G) := ev_ret pg_56_23 rfl
-- X6_rangePart
theorem pg_57_0 : mm_prog 57 0 = some (0, .aload_n 0, 1, []) := by decide +kernel
theorem xe_57_0 (a1 : Option MV) (x : Int) (st : List MV) (μ : MM) (G : MG) : ev 57 0 [some (vR x), a1] st μ G = ev 57 1 [some (vR x), a1] (vR x :: st) μ G := ev_stp pg_57_0 rfl
theorem pg_57_1 : mm_prog 57 1 = some (0, .getfield 61, 4, [6, 12, 1]) := by decide +kernel
theorem xe_57_1 (a0 a1 : Option MV) (x : Int) (st : List MV) (μ : MM) (G : MG) : ev 57 1 [a0, a1] (vR x :: st) μ G = if gk G x = 6 then ev 57 4 [a0, a1] (vI (μ x 12) :: st) μ G else none := ev_if pg_57_1 rfl
theorem pg_57_4 : mm_prog 57 4 = some (0, .ifCond .ne 5, 7, []) := by decide +kernel
theorem xe_57_4 (a0 a1 : Option MV) (x : Int) (st : List MV) (μ : MM) (G : MG) : ev 57 4 [a0, a1] (vI x :: st) μ G = if ¬ x = 0 then ev 57 9 [a0, a1] st μ G else ev 57 7 [a0, a1] st μ G := ev_br (mm_cnd_ne x 0) pg_57_4 rfl
theorem pg_57_7 : mm_prog 57 7 = some (0, .iconst (-1), 8, []) := by decide +kernel
theorem xe_57_7 (a0 a1 : Option MV) (st : List MV) (μ : MM) (G : MG) : ev 57 7 [a0, a1] st μ G = ev 57 8 [a0, a1] (vI (-1) :: st) μ G := ev_stp pg_57_7 rfl
theorem pg_57_8 : mm_prog 57 8 = some (2, .ireturn, 9, [0]) := by decide +kernel
theorem xe_57_8 (a0 a1 : Option MV) (x : Int) (μ : MM) (G : MG) : ev 57 8 [a0, a1] [vI x] μ G = some (some (vI x), μ, G) := ev_ret pg_57_8 rfl
theorem pg_57_9 : mm_prog 57 9 = some (0, .iload_n 1, 10, []) := by decide +kernel
theorem xe_57_9 (a0 : Option MV) (x : Int) (st : List MV) (μ : MM) (G : MG) : ev 57 9 [a0, some (vI x)] st μ G = ev 57 10 [a0, some (vI x)] (vI x :: st) μ G := ev_stp pg_57_9 rfl
theorem pg_57_10 : mm_prog 57 10 = some (0, .iconst 4, 11, []) := by decide +kernel
theorem xe_57_10 (a0 a1 : Option MV) (st : List MV) (μ : MM) (G : MG) : ev 57 10 [a0, a1] st μ G = ev 57 11 [a0, a1] (vI (4) :: st) μ G := ev_stp pg_57_10 rfl
theorem pg_57_11 : mm_prog 57 11 = some (0, .if_icmp .ne 15, 14, []) := by decide +kernel
theorem xe_57_11 (a0 a1 : Option MV) (x y : Int) (st : List MV) (μ : MM) (G : MG) : ev 57 11 [a0, a1] (vI y :: vI x :: st) μ G = if ¬ x = y then ev 57 26 [a0, a1] st μ G else ev 57 14 [a0, a1] st μ G := ev_br (mm_cnd_ne x y) pg_57_11 rfl
theorem pg_57_14 : mm_prog 57 14 = some (0, .aload_n 0, 15, []) := by decide +kernel
theorem xe_57_14 (a1 : Option MV) (x : Int) (st : List MV) (μ : MM) (G : MG) : ev 57 14 [some (vR x), a1] st μ G = ev 57 15 [some (vR x), a1] (vR x :: st) μ G := ev_stp pg_57_14 rfl
theorem pg_57_15 : mm_prog 57 15 = some (0, .iload_n 1, 16, []) := by decide +kernel
theorem xe_57_15 (a0 : Option MV) (x : Int) (st : List MV) (μ : MM) (G : MG) : ev 57 15 [a0, some (vI x)] st μ G = ev 57 16 [a0, some (vI x)] (vI x :: st) μ G := ev_stp pg_57_15 rfl
theorem pg_57_16 : mm_prog 57 16 = some (1, .invokevirtual 105, 19, [1, 56, 1, 6]) := by decide +kernel
theorem xe_57_16 (a0 a1 : Option MV) (x0 z : Int) (μ : MM) (G : MG) : ev 57 16 [a0, a1] (vI x0 :: vR z :: []) μ G = if gk G z = 6 ∧ 0 < z then (ev 56 0 [some (vR z), some (vI x0)] [] μ G).bind (fun q => ev 57 19 [a0, a1] (q.1.toList ++ []) q.2.1 q.2.2) else none := ev_calV (as := [vR z, vI x0]) (r := []) mx_56 pg_57_16 rfl rfl (Nat.le_of_ble_eq_true rfl) (Nat.le_of_ble_eq_true rfl)
theorem pg_57_19 : mm_prog 57 19 = some (0, .sipush 10000, 22, []) := by decide +kernel
theorem xe_57_19 (a0 a1 : Option MV) (st : List MV) (μ : MM) (G : MG) : ev 57 19 [a0, a1] st μ G = ev 57 22 [a0, a1] (vI (10000) :: st) μ G := ev_stp pg_57_19 rfl
theorem pg_57_22 : mm_prog 57 22 = some (0, .imul, 23, []) := by decide +kernel
theorem xe_57_22 (a0 a1 : Option MV) (x y : Int) (st : List MV) (μ : MM) (G : MG) : ev 57 22 [a0, a1] (vI y :: vI x :: st) μ G = ev 57 23 [a0, a1] (vI (w32 (x * y)) :: st) μ G := ev_stp pg_57_22 rfl
theorem pg_57_23 : mm_prog 57 23 = some (0, .goto 8, 26, []) := by decide +kernel
theorem xe_57_23 (a0 a1 : Option MV) (st : List MV) (μ : MM) (G : MG) : ev 57 23 [a0, a1] st μ G = ev 57 31 [a0, a1] st μ G := ev_stp pg_57_23 rfl
theorem pg_57_26 : mm_prog 57 26 = some (0, .aload_n 0, 27, []) := by decide +kernel
theorem xe_57_26 (a1 : Option MV) (x : Int) (st : List MV) (μ : MM) (G : MG) : ev 57 26 [some (vR x), a1] st μ G = ev 57 27 [some (vR x), a1] (vR x :: st) μ G := ev_stp pg_57_26 rfl
theorem pg_57_27 : mm_prog 57 27 = some (0, .iload_n 1, 28, []) := by decide +kernel
theorem xe_57_27 (a0 : Option MV) (x : Int) (st : List MV) (μ : MM) (G : MG) : ev 57 27 [a0, some (vI x)] st μ G = ev 57 28 [a0, some (vI x)] (vI x :: st) μ G := ev_stp pg_57_27 rfl
theorem pg_57_28 : mm_prog 57 28 = some (1, .invokevirtual 105, 31, [1, 56, 1, 6]) := by decide +kernel
theorem xe_57_28 (a0 a1 : Option MV) (x0 z : Int) (μ : MM) (G : MG) : ev 57 28 [a0, a1] (vI x0 :: vR z :: []) μ G = if gk G z = 6 ∧ 0 < z then (ev 56 0 [some (vR z), some (vI x0)] [] μ G).bind (fun q => ev 57 31 [a0, a1] (q.1.toList ++ []) q.2.1 q.2.2) else none := ev_calV (as := [vR z, vI x0]) (r := []) mx_56 pg_57_28 rfl rfl (Nat.le_of_ble_eq_true rfl) (Nat.le_of_ble_eq_true rfl)
theorem pg_57_31 : mm_prog 57 31 = some (2, .ireturn, 32, [0]) := by decide +kernel
theorem xe_57_31 (a0 a1 : Option MV) (x : Int) (μ : MM) (G : MG) : ev 57 31 [a0, a1] [vI x] μ G = some (some (vI x), μ, G) := ev_ret pg_57_31 rfl
-- X6_isInRange
theorem pg_58_0 : mm_prog 58 0 = some (0, .aload_n 0, 1, []) := by decide +kernel
theorem xe_58_0 (a1 a2 a3 : Option MV) (x : Int) (st : List MV) (μ : MM) (G : MG) : ev 58 0 [some (vR x), a1, a2, a3] st μ G = ev 58 1 [some (vR x), a1, a2, a3] (vR x :: st) μ G := ev_stp pg_58_0 rfl
theorem pg_58_1 : mm_prog 58 1 = some (0, .getfield 61, 4, [6, 12, 1]) := by decide +kernel
theorem xe_58_1 (a0 a1 a2 a3 : Option MV) (x : Int) (st : List MV) (μ : MM) (G : MG) : ev 58 1 [a0, a1, a2, a3] (vR x :: st) μ G = if gk G x = 6 then ev 58 4 [a0, a1, a2, a3] (vI (μ x 12) :: st) μ G else none := ev_if pg_58_1 rfl
theorem pg_58_4 : mm_prog 58 4 = some (0, .ifCond .eq 57, 7, []) := by decide +kernel
theorem xe_58_4 (a0 a1 a2 a3 : Option MV) (x : Int) (st : List MV) (μ : MM) (G : MG) : ev 58 4 [a0, a1, a2, a3] (vI x :: st) μ G = if x = 0 then ev 58 61 [a0, a1, a2, a3] st μ G else ev 58 7 [a0, a1, a2, a3] st μ G := ev_br (mm_cnd_eq x 0) pg_58_4 rfl
theorem pg_58_7 : mm_prog 58 7 = some (0, .iload_n 1, 8, []) := by decide +kernel
theorem xe_58_7 (a0 a2 a3 : Option MV) (x : Int) (st : List MV) (μ : MM) (G : MG) : ev 58 7 [a0, some (vI x), a2, a3] st μ G = ev 58 8 [a0, some (vI x), a2, a3] (vI x :: st) μ G := ev_stp pg_58_7 rfl
theorem pg_58_8 : mm_prog 58 8 = some (0, .aload_n 0, 9, []) := by decide +kernel
theorem xe_58_8 (a1 a2 a3 : Option MV) (x : Int) (st : List MV) (μ : MM) (G : MG) : ev 58 8 [some (vR x), a1, a2, a3] st μ G = ev 58 9 [some (vR x), a1, a2, a3] (vR x :: st) μ G := ev_stp pg_58_8 rfl
theorem pg_58_9 : mm_prog 58 9 = some (0, .getfield 31, 12, [6, 4, 2]) := by decide +kernel
theorem xe_58_9 (a0 a1 a2 a3 : Option MV) (x : Int) (st : List MV) (μ : MM) (G : MG) : ev 58 9 [a0, a1, a2, a3] (vR x :: st) μ G = if gk G x = 6 then ev 58 12 [a0, a1, a2, a3] (vR (μ x 4) :: st) μ G else none := ev_if pg_58_9 rfl
theorem pg_58_12 : mm_prog 58 12 = some (0, .iconst 0, 13, []) := by decide +kernel
theorem xe_58_12 (a0 a1 a2 a3 : Option MV) (st : List MV) (μ : MM) (G : MG) : ev 58 12 [a0, a1, a2, a3] st μ G = ev 58 13 [a0, a1, a2, a3] (vI (0) :: st) μ G := ev_stp pg_58_12 rfl
theorem pg_58_13 : mm_prog 58 13 = some (0, .iaload, 14, []) := by decide +kernel
theorem xe_58_13 (a0 a1 a2 a3 : Option MV) (x y : Int) (st : List MV) (μ : MM) (G : MG) : ev 58 13 [a0, a1, a2, a3] (vI x :: vR y :: st) μ G = if gk G y = 100 ∧ 0 ≤ x ∧ x < gl G y then ev 58 14 [a0, a1, a2, a3] (vI (μ y x) :: st) μ G else none := ev_if pg_58_13 rfl
theorem pg_58_14 : mm_prog 58 14 = some (0, .if_icmp .lt 51, 17, []) := by decide +kernel
theorem xe_58_14 (a0 a1 a2 a3 : Option MV) (x y : Int) (st : List MV) (μ : MM) (G : MG) : ev 58 14 [a0, a1, a2, a3] (vI y :: vI x :: st) μ G = if x < y then ev 58 65 [a0, a1, a2, a3] st μ G else ev 58 17 [a0, a1, a2, a3] st μ G := ev_br (mm_cnd_lt x y) pg_58_14 rfl
theorem pg_58_17 : mm_prog 58 17 = some (0, .iload_n 1, 18, []) := by decide +kernel
theorem xe_58_17 (a0 a2 a3 : Option MV) (x : Int) (st : List MV) (μ : MM) (G : MG) : ev 58 17 [a0, some (vI x), a2, a3] st μ G = ev 58 18 [a0, some (vI x), a2, a3] (vI x :: st) μ G := ev_stp pg_58_17 rfl
theorem pg_58_18 : mm_prog 58 18 = some (0, .aload_n 0, 19, []) := by decide +kernel
theorem xe_58_18 (a1 a2 a3 : Option MV) (x : Int) (st : List MV) (μ : MM) (G : MG) : ev 58 18 [some (vR x), a1, a2, a3] st μ G = ev 58 19 [some (vR x), a1, a2, a3] (vR x :: st) μ G := ev_stp pg_58_18 rfl
theorem pg_58_19 : mm_prog 58 19 = some (0, .getfield 31, 22, [6, 4, 2]) := by decide +kernel
theorem xe_58_19 (a0 a1 a2 a3 : Option MV) (x : Int) (st : List MV) (μ : MM) (G : MG) : ev 58 19 [a0, a1, a2, a3] (vR x :: st) μ G = if gk G x = 6 then ev 58 22 [a0, a1, a2, a3] (vR (μ x 4) :: st) μ G else none := ev_if pg_58_19 rfl
theorem pg_58_22 : mm_prog 58 22 = some (0, .iconst 1, 23, []) := by decide +kernel
theorem xe_58_22 (a0 a1 a2 a3 : Option MV) (st : List MV) (μ : MM) (G : MG) : ev 58 22 [a0, a1, a2, a3] st μ G = ev 58 23 [a0, a1, a2, a3] (vI (1) :: st) μ G := ev_stp pg_58_22 rfl
theorem pg_58_23 : mm_prog 58 23 = some (0, .iaload, 24, []) := by decide +kernel
theorem xe_58_23 (a0 a1 a2 a3 : Option MV) (x y : Int) (st : List MV) (μ : MM) (G : MG) : ev 58 23 [a0, a1, a2, a3] (vI x :: vR y :: st) μ G = if gk G y = 100 ∧ 0 ≤ x ∧ x < gl G y then ev 58 24 [a0, a1, a2, a3] (vI (μ y x) :: st) μ G else none := ev_if pg_58_23 rfl
theorem pg_58_24 : mm_prog 58 24 = some (0, .if_icmp .gt 41, 27, []) := by decide +kernel
theorem xe_58_24 (a0 a1 a2 a3 : Option MV) (x y : Int) (st : List MV) (μ : MM) (G : MG) : ev 58 24 [a0, a1, a2, a3] (vI y :: vI x :: st) μ G = if y < x then ev 58 65 [a0, a1, a2, a3] st μ G else ev 58 27 [a0, a1, a2, a3] st μ G := ev_br (mm_cnd_gt x y) pg_58_24 rfl
theorem pg_58_27 : mm_prog 58 27 = some (0, .iload_n 2, 28, []) := by decide +kernel
theorem xe_58_27 (a0 a1 a3 : Option MV) (x : Int) (st : List MV) (μ : MM) (G : MG) : ev 58 27 [a0, a1, some (vI x), a3] st μ G = ev 58 28 [a0, a1, some (vI x), a3] (vI x :: st) μ G := ev_stp pg_58_27 rfl
theorem pg_58_28 : mm_prog 58 28 = some (0, .aload_n 0, 29, []) := by decide +kernel
theorem xe_58_28 (a1 a2 a3 : Option MV) (x : Int) (st : List MV) (μ : MM) (G : MG) : ev 58 28 [some (vR x), a1, a2, a3] st μ G = ev 58 29 [some (vR x), a1, a2, a3] (vR x :: st) μ G := ev_stp pg_58_28 rfl
theorem pg_58_29 : mm_prog 58 29 = some (0, .getfield 31, 32, [6, 4, 2]) := by decide +kernel
theorem xe_58_29 (a0 a1 a2 a3 : Option MV) (x : Int) (st : List MV) (μ : MM) (G : MG) : ev 58 29 [a0, a1, a2, a3] (vR x :: st) μ G = if gk G x = 6 then ev 58 32 [a0, a1, a2, a3] (vR (μ x 4) :: st) μ G else none := ev_if pg_58_29 rfl
theorem pg_58_32 : mm_prog 58 32 = some (0, .iconst 2, 33, []) := by decide +kernel
theorem xe_58_32 (a0 a1 a2 a3 : Option MV) (st : List MV) (μ : MM) (G : MG) : ev 58 32 [a0, a1, a2, a3] st μ G = ev 58 33 [a0, a1, a2, a3] (vI (2) :: st) μ G := ev_stp pg_58_32 rfl
theorem pg_58_33 : mm_prog 58 33 = some (0, .iaload, 34, []) := by decide +kernel
theorem xe_58_33 (a0 a1 a2 a3 : Option MV) (x y : Int) (st : List MV) (μ : MM) (G : MG) : ev 58 33 [a0, a1, a2, a3] (vI x :: vR y :: st) μ G = if gk G y = 100 ∧ 0 ≤ x ∧ x < gl G y then ev 58 34 [a0, a1, a2, a3] (vI (μ y x) :: st) μ G else none := ev_if pg_58_33 rfl
theorem pg_58_34 : mm_prog 58 34 = some (0, .if_icmp .lt 31, 37, []) := by decide +kernel
theorem xe_58_34 (a0 a1 a2 a3 : Option MV) (x y : Int) (st : List MV) (μ : MM) (G : MG) : ev 58 34 [a0, a1, a2, a3] (vI y :: vI x :: st) μ G = if x < y then ev 58 65 [a0, a1, a2, a3] st μ G else ev 58 37 [a0, a1, a2, a3] st μ G := ev_br (mm_cnd_lt x y) pg_58_34 rfl
theorem pg_58_37 : mm_prog 58 37 = some (0, .iload_n 2, 38, []) := by decide +kernel
theorem xe_58_37 (a0 a1 a3 : Option MV) (x : Int) (st : List MV) (μ : MM) (G : MG) : ev 58 37 [a0, a1, some (vI x), a3] st μ G = ev 58 38 [a0, a1, some (vI x), a3] (vI x :: st) μ G := ev_stp pg_58_37 rfl
theorem pg_58_38 : mm_prog 58 38 = some (0, .aload_n 0, 39, []) := by decide +kernel
theorem xe_58_38 (a1 a2 a3 : Option MV) (x : Int) (st : List MV) (μ : MM) (G : MG) : ev 58 38 [some (vR x), a1, a2, a3] st μ G = ev 58 39 [some (vR x), a1, a2, a3] (vR x :: st) μ G := ev_stp pg_58_38 rfl
theorem pg_58_39 : mm_prog 58 39 = some (0, .getfield 31, 42, [6, 4, 2]) := by decide +kernel
theorem xe_58_39 (a0 a1 a2 a3 : Option MV) (x : Int) (st : List MV) (μ : MM) (G : MG) : ev 58 39 [a0, a1, a2, a3] (vR x :: st) μ G = if gk G x = 6 then ev 58 42 [a0, a1, a2, a3] (vR (μ x 4) :: st) μ G else none := ev_if pg_58_39 rfl
theorem pg_58_42 : mm_prog 58 42 = some (0, .iconst 3, 43, []) := by decide +kernel
theorem xe_58_42 (a0 a1 a2 a3 : Option MV) (st : List MV) (μ : MM) (G : MG) : ev 58 42 [a0, a1, a2, a3] st μ G = ev 58 43 [a0, a1, a2, a3] (vI (3) :: st) μ G := ev_stp pg_58_42 rfl
theorem pg_58_43 : mm_prog 58 43 = some (0, .iaload, 44, []) := by decide +kernel
theorem xe_58_43 (a0 a1 a2 a3 : Option MV) (x y : Int) (st : List MV) (μ : MM) (G : MG) : ev 58 43 [a0, a1, a2, a3] (vI x :: vR y :: st) μ G = if gk G y = 100 ∧ 0 ≤ x ∧ x < gl G y then ev 58 44 [a0, a1, a2, a3] (vI (μ y x) :: st) μ G else none := ev_if pg_58_43 rfl
theorem pg_58_44 : mm_prog 58 44 = some (0, .if_icmp .gt 21, 47, []) := by decide +kernel
theorem xe_58_44 (a0 a1 a2 a3 : Option MV) (x y : Int) (st : List MV) (μ : MM) (G : MG) : ev 58 44 [a0, a1, a2, a3] (vI y :: vI x :: st) μ G = if y < x then ev 58 65 [a0, a1, a2, a3] st μ G else ev 58 47 [a0, a1, a2, a3] st μ G := ev_br (mm_cnd_gt x y) pg_58_44 rfl
theorem pg_58_47 : mm_prog 58 47 = some (0, .iload_n 3, 48, []) := by decide +kernel
theorem xe_58_47 (a0 a1 a2 : Option MV) (x : Int) (st : List MV) (μ : MM) (G : MG) : ev 58 47 [a0, a1, a2, some (vI x)] st μ G = ev 58 48 [a0, a1, a2, some (vI x)] (vI x :: st) μ G := ev_stp pg_58_47 rfl
theorem pg_58_48 : mm_prog 58 48 = some (0, .aload_n 0, 49, []) := by decide +kernel
theorem xe_58_48 (a1 a2 a3 : Option MV) (x : Int) (st : List MV) (μ : MM) (G : MG) : ev 58 48 [some (vR x), a1, a2, a3] st μ G = ev 58 49 [some (vR x), a1, a2, a3] (vR x :: st) μ G := ev_stp pg_58_48 rfl
theorem pg_58_49 : mm_prog 58 49 = some (0, .getfield 31, 52, [6, 4, 2]) := by decide +kernel
theorem xe_58_49 (a0 a1 a2 a3 : Option MV) (x : Int) (st : List MV) (μ : MM) (G : MG) : ev 58 49 [a0, a1, a2, a3] (vR x :: st) μ G = if gk G x = 6 then ev 58 52 [a0, a1, a2, a3] (vR (μ x 4) :: st) μ G else none := ev_if pg_58_49 rfl
theorem pg_58_52 : mm_prog 58 52 = some (0, .iconst 4, 53, []) := by decide +kernel
theorem xe_58_52 (a0 a1 a2 a3 : Option MV) (st : List MV) (μ : MM) (G : MG) : ev 58 52 [a0, a1, a2, a3] st μ G = ev 58 53 [a0, a1, a2, a3] (vI (4) :: st) μ G := ev_stp pg_58_52 rfl
theorem pg_58_53 : mm_prog 58 53 = some (0, .iaload, 54, []) := by decide +kernel
theorem xe_58_53 (a0 a1 a2 a3 : Option MV) (x y : Int) (st : List MV) (μ : MM) (G : MG) : ev 58 53 [a0, a1, a2, a3] (vI x :: vR y :: st) μ G = if gk G y = 100 ∧ 0 ≤ x ∧ x < gl G y then ev 58 54 [a0, a1, a2, a3] (vI (μ y x) :: st) μ G else none := ev_if pg_58_53 rfl
theorem pg_58_54 : mm_prog 58 54 = some (0, .sipush 10000, 57, []) := by decide +kernel
theorem xe_58_54 (a0 a1 a2 a3 : Option MV) (st : List MV) (μ : MM) (G : MG) : ev 58 54 [a0, a1, a2, a3] st μ G = ev 58 57 [a0, a1, a2, a3] (vI (10000) :: st) μ G := ev_stp pg_58_54 rfl
theorem pg_58_57 : mm_prog 58 57 = some (0, .imul, 58, []) := by decide +kernel
theorem xe_58_57 (a0 a1 a2 a3 : Option MV) (x y : Int) (st : List MV) (μ : MM) (G : MG) : ev 58 57 [a0, a1, a2, a3] (vI y :: vI x :: st) μ G = ev 58 58 [a0, a1, a2, a3] (vI (w32 (x * y)) :: st) μ G := ev_stp pg_58_57 rfl
theorem pg_58_58 : mm_prog 58 58 = some (0, .if_icmp .gt 7, 61, []) := by decide +kernel
theorem xe_58_58 (a0 a1 a2 a3 : Option MV) (x y : Int) (st : List MV) (μ : MM) (G : MG) : ev 58 58 [a0, a1, a2, a3] (vI y :: vI x :: st) μ G = if y < x then ev 58 65 [a0, a1, a2, a3] st μ G else ev 58 61 [a0, a1, a2, a3] st μ G := ev_br (mm_cnd_gt x y) pg_58_58 rfl
theorem pg_58_61 : mm_prog 58 61 = some (0, .iconst 1, 62, []) := by decide +kernel
theorem xe_58_61 (a0 a1 a2 a3 : Option MV) (st : List MV) (μ : MM) (G : MG) : ev 58 61 [a0, a1, a2, a3] st μ G = ev 58 62 [a0, a1, a2, a3] (vI (1) :: st) μ G := ev_stp pg_58_61 rfl
theorem pg_58_62 : mm_prog 58 62 = some (0, .goto 4, 65, []) := by decide +kernel
theorem xe_58_62 (a0 a1 a2 a3 : Option MV) (st : List MV) (μ : MM) (G : MG) : ev 58 62 [a0, a1, a2, a3] st μ G = ev 58 66 [a0, a1, a2, a3] st μ G := ev_stp pg_58_62 rfl
theorem pg_58_65 : mm_prog 58 65 = some (0, .iconst 0, 66, []) := by decide +kernel
theorem xe_58_65 (a0 a1 a2 a3 : Option MV) (st : List MV) (μ : MM) (G : MG) : ev 58 65 [a0, a1, a2, a3] st μ G = ev 58 66 [a0, a1, a2, a3] (vI (0) :: st) μ G := ev_stp pg_58_65 rfl
theorem pg_58_66 : mm_prog 58 66 = some (2, .ireturn, 67, [1]) := by decide +kernel
theorem xe_58_66 (a0 a1 a2 a3 : Option MV) (x : Int) (μ : MM) (G : MG) : ev 58 66 [a0, a1, a2, a3] [vI x] μ G = if x = 0 ∨ x = 1 then some (some (vI x), μ, G) else none := ev_retB pg_58_66
-- X7_init
theorem pg_59_0 : mm_prog 59 0 = some (0, .aload_n 0, 1, []) := by decide +kernel
theorem xe_59_0 (x : Int) (st : List MV) (μ : MM) (G : MG) : ev 59 0 [some (vR x)] st μ G = ev 59 1 [some (vR x)] (vR x :: st) μ G := ev_stp pg_59_0 rfl
theorem pg_59_1 : mm_prog 59 1 = some (0, .invokespecial 3, 4, []) := by decide +kernel
theorem xe_59_1 (a0 : Option MV) (x : Int) (st : List MV) (μ : MM) (G : MG) : ev 59 1 [a0] (vR x :: st) μ G = if 10 ≤ x ∧ mm_cats st ≤ 8 then ev 59 4 [a0] st μ G else none := ev_if pg_59_1 rfl
theorem pg_59_4 : mm_prog 59 4 = some (2, .return_, 5, []) := by decide +kernel
theorem xe_59_4 (a0 : Option MV) (μ : MM) (G : MG) : ev 59 4 [a0] [] μ G = some (none, μ, G) := ev_ret pg_59_4 rfl
-- X7_read
theorem pg_60_0 : mm_prog 60 0 = some (0, .aload_n 0, 1, []) := by decide +kernel
theorem xe_60_0 (a1 a2 a3 a4 a5 a6 : Option MV) (x : Int) (st : List MV) (μ : MM) (G : MG) : ev 60 0 [some (vR x), a1, a2, a3, a4, a5, a6] st μ G = ev 60 1 [some (vR x), a1, a2, a3, a4, a5, a6] (vR x :: st) μ G := ev_stp pg_60_0 rfl
theorem pg_60_1 : mm_prog 60 1 = some (0, .aload_n 1, 2, []) := by decide +kernel
theorem xe_60_1 (a0 a2 a3 a4 a5 a6 : Option MV) (x : Int) (st : List MV) (μ : MM) (G : MG) : ev 60 1 [a0, some (vR x), a2, a3, a4, a5, a6] st μ G = ev 60 2 [a0, some (vR x), a2, a3, a4, a5, a6] (vR x :: st) μ G := ev_stp pg_60_1 rfl
theorem pg_60_2 : mm_prog 60 2 = some (0, .iload_n 2, 3, []) := by decide +kernel
theorem xe_60_2 (a0 a1 a3 a4 a5 a6 : Option MV) (x : Int) (st : List MV) (μ : MM) (G : MG) : ev 60 2 [a0, a1, some (vI x), a3, a4, a5, a6] st μ G = ev 60 3 [a0, a1, some (vI x), a3, a4, a5, a6] (vI x :: st) μ G := ev_stp pg_60_2 rfl
theorem pg_60_3 : mm_prog 60 3 = some (0, .iconst 1, 4, []) := by decide +kernel
theorem xe_60_3 (a0 a1 a2 a3 a4 a5 a6 : Option MV) (st : List MV) (μ : MM) (G : MG) : ev 60 3 [a0, a1, a2, a3, a4, a5, a6] st μ G = ev 60 4 [a0, a1, a2, a3, a4, a5, a6] (vI (1) :: st) μ G := ev_stp pg_60_3 rfl
theorem pg_60_4 : mm_prog 60 4 = some (0, .iadd, 5, []) := by decide +kernel
theorem xe_60_4 (a0 a1 a2 a3 a4 a5 a6 : Option MV) (x y : Int) (st : List MV) (μ : MM) (G : MG) : ev 60 4 [a0, a1, a2, a3, a4, a5, a6] (vI y :: vI x :: st) μ G = ev 60 5 [a0, a1, a2, a3, a4, a5, a6] (vI (w32 (x + y)) :: st) μ G := ev_stp pg_60_4 rfl
theorem pg_60_5 : mm_prog 60 5 = some (1, .invokevirtual 9, 8, [1, 3, 1, 0]) := by decide +kernel
theorem xe_60_5 (a0 a1 a2 a3 a4 a5 a6 : Option MV) (x0 z r0 : Int) (μ : MM) (G : MG) : ev 60 5 [a0, a1, a2, a3, a4, a5, a6] (vI x0 :: vR z :: [vR r0]) μ G = if gk G z = 0 ∧ 0 < z then (ev 3 0 [some (vR z), some (vI x0)] [] μ G).bind (fun q => ev 60 8 [a0, a1, a2, a3, a4, a5, a6] (q.1.toList ++ [vR r0]) q.2.1 q.2.2) else none := ev_calV (as := [vR z, vI x0]) (r := [vR r0]) mx_3 pg_60_5 rfl rfl (Nat.le_of_ble_eq_true rfl) (Nat.le_of_ble_eq_true rfl)
theorem pg_60_8 : mm_prog 60 8 = some (0, .bipush 8, 10, []) := by decide +kernel
theorem xe_60_8 (a0 a1 a2 a3 a4 a5 a6 : Option MV) (st : List MV) (μ : MM) (G : MG) : ev 60 8 [a0, a1, a2, a3, a4, a5, a6] st μ G = ev 60 10 [a0, a1, a2, a3, a4, a5, a6] (vI (8) :: st) μ G := ev_stp pg_60_8 rfl
theorem pg_60_10 : mm_prog 60 10 = some (0, .ishl, 11, []) := by decide +kernel
theorem xe_60_10 (a0 a1 a2 a3 a4 a5 a6 : Option MV) (x y : Int) (st : List MV) (μ : MM) (G : MG) : ev 60 10 [a0, a1, a2, a3, a4, a5, a6] (vI y :: vI x :: st) μ G = ev 60 11 [a0, a1, a2, a3, a4, a5, a6] (vI (mm_shl x y) :: st) μ G := ev_stp pg_60_10 rfl
theorem pg_60_11 : mm_prog 60 11 = some (0, .aload_n 1, 12, []) := by decide +kernel
theorem xe_60_11 (a0 a2 a3 a4 a5 a6 : Option MV) (x : Int) (st : List MV) (μ : MM) (G : MG) : ev 60 11 [a0, some (vR x), a2, a3, a4, a5, a6] st μ G = ev 60 12 [a0, some (vR x), a2, a3, a4, a5, a6] (vR x :: st) μ G := ev_stp pg_60_11 rfl
theorem pg_60_12 : mm_prog 60 12 = some (0, .iload_n 2, 13, []) := by decide +kernel
theorem xe_60_12 (a0 a1 a3 a4 a5 a6 : Option MV) (x : Int) (st : List MV) (μ : MM) (G : MG) : ev 60 12 [a0, a1, some (vI x), a3, a4, a5, a6] st μ G = ev 60 13 [a0, a1, some (vI x), a3, a4, a5, a6] (vI x :: st) μ G := ev_stp pg_60_12 rfl
theorem pg_60_13 : mm_prog 60 13 = some (1, .invokevirtual 9, 16, [1, 3, 1, 0]) := by decide +kernel
theorem xe_60_13 (a0 a1 a2 a3 a4 a5 a6 : Option MV) (x0 z r0 r1 : Int) (μ : MM) (G : MG) : ev 60 13 [a0, a1, a2, a3, a4, a5, a6] (vI x0 :: vR z :: [vI r0, vR r1]) μ G = if gk G z = 0 ∧ 0 < z then (ev 3 0 [some (vR z), some (vI x0)] [] μ G).bind (fun q => ev 60 16 [a0, a1, a2, a3, a4, a5, a6] (q.1.toList ++ [vI r0, vR r1]) q.2.1 q.2.2) else none := ev_calV (as := [vR z, vI x0]) (r := [vI r0, vR r1]) mx_3 pg_60_13 rfl rfl (Nat.le_of_ble_eq_true rfl) (Nat.le_of_ble_eq_true rfl)
theorem pg_60_16 : mm_prog 60 16 = some (0, .ior, 17, []) := by decide +kernel
theorem xe_60_16 (a0 a1 a2 a3 a4 a5 a6 : Option MV) (x y : Int) (st : List MV) (μ : MM) (G : MG) : ev 60 16 [a0, a1, a2, a3, a4, a5, a6] (vI y :: vI x :: st) μ G = ev 60 17 [a0, a1, a2, a3, a4, a5, a6] (vI (mm_or x y) :: st) μ G := ev_stp pg_60_16 rfl
theorem pg_60_17 : mm_prog 60 17 = some (0, .bipush 10, 19, []) := by decide +kernel
theorem xe_60_17 (a0 a1 a2 a3 a4 a5 a6 : Option MV) (st : List MV) (μ : MM) (G : MG) : ev 60 17 [a0, a1, a2, a3, a4, a5, a6] st μ G = ev 60 19 [a0, a1, a2, a3, a4, a5, a6] (vI (10) :: st) μ G := ev_stp pg_60_17 rfl
theorem pg_60_19 : mm_prog 60 19 = some (0, .imul, 20, []) := by decide +kernel
theorem xe_60_19 (a0 a1 a2 a3 a4 a5 a6 : Option MV) (x y : Int) (st : List MV) (μ : MM) (G : MG) : ev 60 19 [a0, a1, a2, a3, a4, a5, a6] (vI y :: vI x :: st) μ G = ev 60 20 [a0, a1, a2, a3, a4, a5, a6] (vI (w32 (x * y)) :: st) μ G := ev_stp pg_60_19 rfl
theorem pg_60_20 : mm_prog 60 20 = some (0, .putfield 15, 23, [7, 0, 0]) := by decide +kernel
theorem xe_60_20 (a0 a1 a2 a3 a4 a5 a6 : Option MV) (x y : Int) (st : List MV) (μ : MM) (G : MG) : ev 60 20 [a0, a1, a2, a3, a4, a5, a6] (vI x :: vR y :: st) μ G = if gk G y = 7 then ev 60 23 [a0, a1, a2, a3, a4, a5, a6] st (mset μ y 0 x) G else none := ev_put0 pg_60_20
theorem pg_60_23 : mm_prog 60 23 = some (0, .aload_n 1, 24, []) := by decide +kernel
theorem xe_60_23 (a0 a2 a3 a4 a5 a6 : Option MV) (x : Int) (st : List MV) (μ : MM) (G : MG) : ev 60 23 [a0, some (vR x), a2, a3, a4, a5, a6] st μ G = ev 60 24 [a0, some (vR x), a2, a3, a4, a5, a6] (vR x :: st) μ G := ev_stp pg_60_23 rfl
theorem pg_60_24 : mm_prog 60 24 = some (0, .iload_n 2, 25, []) := by decide +kernel
theorem xe_60_24 (a0 a1 a3 a4 a5 a6 : Option MV) (x : Int) (st : List MV) (μ : MM) (G : MG) : ev 60 24 [a0, a1, some (vI x), a3, a4, a5, a6] st μ G = ev 60 25 [a0, a1, some (vI x), a3, a4, a5, a6] (vI x :: st) μ G := ev_stp pg_60_24 rfl
theorem pg_60_25 : mm_prog 60 25 = some (0, .iconst 4, 26, []) := by decide +kernel
theorem xe_60_25 (a0 a1 a2 a3 a4 a5 a6 : Option MV) (st : List MV) (μ : MM) (G : MG) : ev 60 25 [a0, a1, a2, a3, a4, a5, a6] st μ G = ev 60 26 [a0, a1, a2, a3, a4, a5, a6] (vI (4) :: st) μ G := ev_stp pg_60_25 rfl
theorem pg_60_26 : mm_prog 60 26 = some (0, .iadd, 27, []) := by decide +kernel
theorem xe_60_26 (a0 a1 a2 a3 a4 a5 a6 : Option MV) (x y : Int) (st : List MV) (μ : MM) (G : MG) : ev 60 26 [a0, a1, a2, a3, a4, a5, a6] (vI y :: vI x :: st) μ G = ev 60 27 [a0, a1, a2, a3, a4, a5, a6] (vI (w32 (x + y)) :: st) μ G := ev_stp pg_60_26 rfl
theorem pg_60_27 : mm_prog 60 27 = some (1, .invokevirtual 9, 30, [1, 3, 1, 0]) := by decide +kernel
theorem xe_60_27 (a0 a1 a2 a3 a4 a5 a6 : Option MV) (x0 z : Int) (μ : MM) (G : MG) : ev 60 27 [a0, a1, a2, a3, a4, a5, a6] (vI x0 :: vR z :: []) μ G = if gk G z = 0 ∧ 0 < z then (ev 3 0 [some (vR z), some (vI x0)] [] μ G).bind (fun q => ev 60 30 [a0, a1, a2, a3, a4, a5, a6] (q.1.toList ++ []) q.2.1 q.2.2) else none := ev_calV (as := [vR z, vI x0]) (r := []) mx_3 pg_60_27 rfl rfl (Nat.le_of_ble_eq_true rfl) (Nat.le_of_ble_eq_true rfl)
theorem pg_60_30 : mm_prog 60 30 = some (0, .istore_n 3, 31, []) := by decide +kernel
theorem xe_60_30 (a0 a1 a2 a3 a4 a5 a6 : Option MV) (x : Int) (st : List MV) (μ : MM) (G : MG) (h : mm_nL a2 = true) : ev 60 30 [a0, a1, a2, a3, a4, a5, a6] (vI x :: st) μ G = ev 60 31 [a0, a1, a2, some (vI x), a4, a5, a6] st μ G := ev_st pg_60_30 rfl (mm_nl_of h) (Nat.le_of_ble_eq_true rfl)
theorem pg_60_31 : mm_prog 60 31 = some (0, .aload_n 0, 32, []) := by decide +kernel
theorem xe_60_31 (a1 a2 a3 a4 a5 a6 : Option MV) (x : Int) (st : List MV) (μ : MM) (G : MG) : ev 60 31 [some (vR x), a1, a2, a3, a4, a5, a6] st μ G = ev 60 32 [some (vR x), a1, a2, a3, a4, a5, a6] (vR x :: st) μ G := ev_stp pg_60_31 rfl
theorem pg_60_32 : mm_prog 60 32 = some (0, .aload_n 1, 33, []) := by decide +kernel
theorem xe_60_32 (a0 a2 a3 a4 a5 a6 : Option MV) (x : Int) (st : List MV) (μ : MM) (G : MG) : ev 60 32 [a0, some (vR x), a2, a3, a4, a5, a6] st μ G = ev 60 33 [a0, some (vR x), a2, a3, a4, a5, a6] (vR x :: st) μ G := ev_stp pg_60_32 rfl
theorem pg_60_33 : mm_prog 60 33 = some (0, .iload_n 2, 34, []) := by decide +kernel
theorem xe_60_33 (a0 a1 a3 a4 a5 a6 : Option MV) (x : Int) (st : List MV) (μ : MM) (G : MG) : ev 60 33 [a0, a1, some (vI x), a3, a4, a5, a6] st μ G = ev 60 34 [a0, a1, some (vI x), a3, a4, a5, a6] (vI x :: st) μ G := ev_stp pg_60_33 rfl
theorem pg_60_34 : mm_prog 60 34 = some (0, .iconst 2, 35, []) := by decide +kernel
theorem xe_60_34 (a0 a1 a2 a3 a4 a5 a6 : Option MV) (st : List MV) (μ : MM) (G : MG) : ev 60 34 [a0, a1, a2, a3, a4, a5, a6] st μ G = ev 60 35 [a0, a1, a2, a3, a4, a5, a6] (vI (2) :: st) μ G := ev_stp pg_60_34 rfl
theorem pg_60_35 : mm_prog 60 35 = some (0, .iadd, 36, []) := by decide +kernel
theorem xe_60_35 (a0 a1 a2 a3 a4 a5 a6 : Option MV) (x y : Int) (st : List MV) (μ : MM) (G : MG) : ev 60 35 [a0, a1, a2, a3, a4, a5, a6] (vI y :: vI x :: st) μ G = ev 60 36 [a0, a1, a2, a3, a4, a5, a6] (vI (w32 (x + y)) :: st) μ G := ev_stp pg_60_35 rfl
theorem pg_60_36 : mm_prog 60 36 = some (1, .invokevirtual 9, 39, [1, 3, 1, 0]) := by decide +kernel
theorem xe_60_36 (a0 a1 a2 a3 a4 a5 a6 : Option MV) (x0 z r0 : Int) (μ : MM) (G : MG) : ev 60 36 [a0, a1, a2, a3, a4, a5, a6] (vI x0 :: vR z :: [vR r0]) μ G = if gk G z = 0 ∧ 0 < z then (ev 3 0 [some (vR z), some (vI x0)] [] μ G).bind (fun q => ev 60 39 [a0, a1, a2, a3, a4, a5, a6] (q.1.toList ++ [vR r0]) q.2.1 q.2.2) else none := ev_calV (as := [vR z, vI x0]) (r := [vR r0]) mx_3 pg_60_36 rfl rfl (Nat.le_of_ble_eq_true rfl) (Nat.le_of_ble_eq_true rfl)
theorem pg_60_39 : mm_prog 60 39 = some (0, .iload_n 3, 40, []) := by decide +kernel
theorem xe_60_39 (a0 a1 a2 a4 a5 a6 : Option MV) (x : Int) (st : List MV) (μ : MM) (G : MG) : ev 60 39 [a0, a1, a2, some (vI x), a4, a5, a6] st μ G = ev 60 40 [a0, a1, a2, some (vI x), a4, a5, a6] (vI x :: st) μ G := ev_stp pg_60_39 rfl
theorem pg_60_40 : mm_prog 60 40 = some (0, .iconst 4, 41, []) := by decide +kernel
theorem xe_60_40 (a0 a1 a2 a3 a4 a5 a6 : Option MV) (st : List MV) (μ : MM) (G : MG) : ev 60 40 [a0, a1, a2, a3, a4, a5, a6] st μ G = ev 60 41 [a0, a1, a2, a3, a4, a5, a6] (vI (4) :: st) μ G := ev_stp pg_60_40 rfl
theorem pg_60_41 : mm_prog 60 41 = some (0, .ishr, 42, []) := by decide +kernel
theorem xe_60_41 (a0 a1 a2 a3 a4 a5 a6 : Option MV) (x y : Int) (st : List MV) (μ : MM) (G : MG) : ev 60 41 [a0, a1, a2, a3, a4, a5, a6] (vI y :: vI x :: st) μ G = ev 60 42 [a0, a1, a2, a3, a4, a5, a6] (vI (mm_shr x y) :: st) μ G := ev_stp pg_60_41 rfl
theorem pg_60_42 : mm_prog 60 42 = some (0, .bipush 8, 44, []) := by decide +kernel
theorem xe_60_42 (a0 a1 a2 a3 a4 a5 a6 : Option MV) (st : List MV) (μ : MM) (G : MG) : ev 60 42 [a0, a1, a2, a3, a4, a5, a6] st μ G = ev 60 44 [a0, a1, a2, a3, a4, a5, a6] (vI (8) :: st) μ G := ev_stp pg_60_42 rfl
theorem pg_60_44 : mm_prog 60 44 = some (0, .ishl, 45, []) := by decide +kernel
theorem xe_60_44 (a0 a1 a2 a3 a4 a5 a6 : Option MV) (x y : Int) (st : List MV) (μ : MM) (G : MG) : ev 60 44 [a0, a1, a2, a3, a4, a5, a6] (vI y :: vI x :: st) μ G = ev 60 45 [a0, a1, a2, a3, a4, a5, a6] (vI (mm_shl x y) :: st) μ G := ev_stp pg_60_44 rfl
theorem pg_60_45 : mm_prog 60 45 = some (0, .ior, 46, []) := by decide +kernel
theorem xe_60_45 (a0 a1 a2 a3 a4 a5 a6 : Option MV) (x y : Int) (st : List MV) (μ : MM) (G : MG) : ev 60 45 [a0, a1, a2, a3, a4, a5, a6] (vI y :: vI x :: st) μ G = ev 60 46 [a0, a1, a2, a3, a4, a5, a6] (vI (mm_or x y) :: st) μ G := ev_stp pg_60_45 rfl
theorem pg_60_46 : mm_prog 60 46 = some (0, .putfield 21, 49, [7, 1, 0]) := by decide +kernel
theorem xe_60_46 (a0 a1 a2 a3 a4 a5 a6 : Option MV) (x y : Int) (st : List MV) (μ : MM) (G : MG) : ev 60 46 [a0, a1, a2, a3, a4, a5, a6] (vI x :: vR y :: st) μ G = if gk G y = 7 then ev 60 49 [a0, a1, a2, a3, a4, a5, a6] st (mset μ y 1 x) G else none := ev_put0 pg_60_46
theorem pg_60_49 : mm_prog 60 49 = some (0, .aload_n 0, 50, []) := by decide +kernel
theorem xe_60_49 (a1 a2 a3 a4 a5 a6 : Option MV) (x : Int) (st : List MV) (μ : MM) (G : MG) : ev 60 49 [some (vR x), a1, a2, a3, a4, a5, a6] st μ G = ev 60 50 [some (vR x), a1, a2, a3, a4, a5, a6] (vR x :: st) μ G := ev_stp pg_60_49 rfl
theorem pg_60_50 : mm_prog 60 50 = some (0, .aload_n 1, 51, []) := by decide +kernel
theorem xe_60_50 (a0 a2 a3 a4 a5 a6 : Option MV) (x : Int) (st : List MV) (μ : MM) (G : MG) : ev 60 50 [a0, some (vR x), a2, a3, a4, a5, a6] st μ G = ev 60 51 [a0, some (vR x), a2, a3, a4, a5, a6] (vR x :: st) μ G := ev_stp pg_60_50 rfl
theorem pg_60_51 : mm_prog 60 51 = some (0, .iload_n 2, 52, []) := by decide +kernel
theorem xe_60_51 (a0 a1 a3 a4 a5 a6 : Option MV) (x : Int) (st : List MV) (μ : MM) (G : MG) : ev 60 51 [a0, a1, some (vI x), a3, a4, a5, a6] st μ G = ev 60 52 [a0, a1, some (vI x), a3, a4, a5, a6] (vI x :: st) μ G := ev_stp pg_60_51 rfl
theorem pg_60_52 : mm_prog 60 52 = some (0, .iconst 3, 53, []) := by decide +kernel
theorem xe_60_52 (a0 a1 a2 a3 a4 a5 a6 : Option MV) (st : List MV) (μ : MM) (G : MG) : ev 60 52 [a0, a1, a2, a3, a4, a5, a6] st μ G = ev 60 53 [a0, a1, a2, a3, a4, a5, a6] (vI (3) :: st) μ G := ev_stp pg_60_52 rfl
theorem pg_60_53 : mm_prog 60 53 = some (0, .iadd, 54, []) := by decide +kernel
theorem xe_60_53 (a0 a1 a2 a3 a4 a5 a6 : Option MV) (x y : Int) (st : List MV) (μ : MM) (G : MG) : ev 60 53 [a0, a1, a2, a3, a4, a5, a6] (vI y :: vI x :: st) μ G = ev 60 54 [a0, a1, a2, a3, a4, a5, a6] (vI (w32 (x + y)) :: st) μ G := ev_stp pg_60_53 rfl
theorem pg_60_54 : mm_prog 60 54 = some (1, .invokevirtual 9, 57, [1, 3, 1, 0]) := by decide +kernel
theorem xe_60_54 (a0 a1 a2 a3 a4 a5 a6 : Option MV) (x0 z r0 : Int) (μ : MM) (G : MG) : ev 60 54 [a0, a1, a2, a3, a4, a5, a6] (vI x0 :: vR z :: [vR r0]) μ G = if gk G z = 0 ∧ 0 < z then (ev 3 0 [some (vR z), some (vI x0)] [] μ G).bind (fun q => ev 60 57 [a0, a1, a2, a3, a4, a5, a6] (q.1.toList ++ [vR r0]) q.2.1 q.2.2) else none := ev_calV (as := [vR z, vI x0]) (r := [vR r0]) mx_3 pg_60_54 rfl rfl (Nat.le_of_ble_eq_true rfl) (Nat.le_of_ble_eq_true rfl)
theorem pg_60_57 : mm_prog 60 57 = some (0, .iload_n 3, 58, []) := by decide +kernel
theorem xe_60_57 (a0 a1 a2 a4 a5 a6 : Option MV) (x : Int) (st : List MV) (μ : MM) (G : MG) : ev 60 57 [a0, a1, a2, some (vI x), a4, a5, a6] st μ G = ev 60 58 [a0, a1, a2, some (vI x), a4, a5, a6] (vI x :: st) μ G := ev_stp pg_60_57 rfl
theorem pg_60_58 : mm_prog 60 58 = some (0, .bipush 15, 60, []) := by decide +kernel
theorem xe_60_58 (a0 a1 a2 a3 a4 a5 a6 : Option MV) (st : List MV) (μ : MM) (G : MG) : ev 60 58 [a0, a1, a2, a3, a4, a5, a6] st μ G = ev 60 60 [a0, a1, a2, a3, a4, a5, a6] (vI (15) :: st) μ G := ev_stp pg_60_58 rfl
theorem pg_60_60 : mm_prog 60 60 = some (0, .iand, 61, []) := by decide +kernel
theorem xe_60_60 (a0 a1 a2 a3 a4 a5 a6 : Option MV) (x y : Int) (st : List MV) (μ : MM) (G : MG) : ev 60 60 [a0, a1, a2, a3, a4, a5, a6] (vI y :: vI x :: st) μ G = ev 60 61 [a0, a1, a2, a3, a4, a5, a6] (vI (mm_and x y) :: st) μ G := ev_stp pg_60_60 rfl
theorem pg_60_61 : mm_prog 60 61 = some (0, .bipush 8, 63, []) := by decide +kernel
theorem xe_60_61 (a0 a1 a2 a3 a4 a5 a6 : Option MV) (st : List MV) (μ : MM) (G : MG) : ev 60 61 [a0, a1, a2, a3, a4, a5, a6] st μ G = ev 60 63 [a0, a1, a2, a3, a4, a5, a6] (vI (8) :: st) μ G := ev_stp pg_60_61 rfl
theorem pg_60_63 : mm_prog 60 63 = some (0, .ishl, 64, []) := by decide +kernel
theorem xe_60_63 (a0 a1 a2 a3 a4 a5 a6 : Option MV) (x y : Int) (st : List MV) (μ : MM) (G : MG) : ev 60 63 [a0, a1, a2, a3, a4, a5, a6] (vI y :: vI x :: st) μ G = ev 60 64 [a0, a1, a2, a3, a4, a5, a6] (vI (mm_shl x y) :: st) μ G := ev_stp pg_60_63 rfl
theorem pg_60_64 : mm_prog 60 64 = some (0, .ior, 65, []) := by decide +kernel
theorem xe_60_64 (a0 a1 a2 a3 a4 a5 a6 : Option MV) (x y : Int) (st : List MV) (μ : MM) (G : MG) : ev 60 64 [a0, a1, a2, a3, a4, a5, a6] (vI y :: vI x :: st) μ G = ev 60 65 [a0, a1, a2, a3, a4, a5, a6] (vI (mm_or x y) :: st) μ G := ev_stp pg_60_64 rfl
theorem pg_60_65 : mm_prog 60 65 = some (0, .putfield 24, 68, [7, 2, 0]) := by decide +kernel
theorem xe_60_65 (a0 a1 a2 a3 a4 a5 a6 : Option MV) (x y : Int) (st : List MV) (μ : MM) (G : MG) : ev 60 65 [a0, a1, a2, a3, a4, a5, a6] (vI x :: vR y :: st) μ G = if gk G y = 7 then ev 60 68 [a0, a1, a2, a3, a4, a5, a6] st (mset μ y 2 x) G else none := ev_put0 pg_60_65
theorem pg_60_68 : mm_prog 60 68 = some (0, .aload_n 1, 69, []) := by decide +kernel
theorem xe_60_68 (a0 a2 a3 a4 a5 a6 : Option MV) (x : Int) (st : List MV) (μ : MM) (G : MG) : ev 60 68 [a0, some (vR x), a2, a3, a4, a5, a6] st μ G = ev 60 69 [a0, some (vR x), a2, a3, a4, a5, a6] (vR x :: st) μ G := ev_stp pg_60_68 rfl
theorem pg_60_69 : mm_prog 60 69 = some (0, .iload_n 2, 70, []) := by decide +kernel
theorem xe_60_69 (a0 a1 a3 a4 a5 a6 : Option MV) (x : Int) (st : List MV) (μ : MM) (G : MG) : ev 60 69 [a0, a1, some (vI x), a3, a4, a5, a6] st μ G = ev 60 70 [a0, a1, some (vI x), a3, a4, a5, a6] (vI x :: st) μ G := ev_stp pg_60_69 rfl
theorem pg_60_70 : mm_prog 60 70 = some (0, .bipush 7, 72, []) := by decide +kernel
theorem xe_60_70 (a0 a1 a2 a3 a4 a5 a6 : Option MV) (st : List MV) (μ : MM) (G : MG) : ev 60 70 [a0, a1, a2, a3, a4, a5, a6] st μ G = ev 60 72 [a0, a1, a2, a3, a4, a5, a6] (vI (7) :: st) μ G := ev_stp pg_60_70 rfl
theorem pg_60_72 : mm_prog 60 72 = some (0, .iadd, 73, []) := by decide +kernel
theorem xe_60_72 (a0 a1 a2 a3 a4 a5 a6 : Option MV) (x y : Int) (st : List MV) (μ : MM) (G : MG) : ev 60 72 [a0, a1, a2, a3, a4, a5, a6] (vI y :: vI x :: st) μ G = ev 60 73 [a0, a1, a2, a3, a4, a5, a6] (vI (w32 (x + y)) :: st) μ G := ev_stp pg_60_72 rfl
theorem pg_60_73 : mm_prog 60 73 = some (1, .invokevirtual 9, 76, [1, 3, 1, 0]) := by decide +kernel
theorem xe_60_73 (a0 a1 a2 a3 a4 a5 a6 : Option MV) (x0 z : Int) (μ : MM) (G : MG) : ev 60 73 [a0, a1, a2, a3, a4, a5, a6] (vI x0 :: vR z :: []) μ G = if gk G z = 0 ∧ 0 < z then (ev 3 0 [some (vR z), some (vI x0)] [] μ G).bind (fun q => ev 60 76 [a0, a1, a2, a3, a4, a5, a6] (q.1.toList ++ []) q.2.1 q.2.2) else none := ev_calV (as := [vR z, vI x0]) (r := []) mx_3 pg_60_73 rfl rfl (Nat.le_of_ble_eq_true rfl) (Nat.le_of_ble_eq_true rfl)
theorem pg_60_76 : mm_prog 60 76 = some (0, .istore 4, 78, []) := by decide +kernel
theorem xe_60_76 (a0 a1 a2 a3 a4 a5 a6 : Option MV) (x : Int) (st : List MV) (μ : MM) (G : MG) (h : mm_nL a3 = true) : ev 60 76 [a0, a1, a2, a3, a4, a5, a6] (vI x :: st) μ G = ev 60 78 [a0, a1, a2, a3, some (vI x), a5, a6] st μ G := ev_st pg_60_76 rfl (mm_nl_of h) (Nat.le_of_ble_eq_true rfl)
theorem pg_60_78 : mm_prog 60 78 = some (0, .aload_n 0, 79, []) := by decide +kernel
theorem xe_60_78 (a1 a2 a3 a4 a5 a6 : Option MV) (x : Int) (st : List MV) (μ : MM) (G : MG) : ev 60 78 [some (vR x), a1, a2, a3, a4, a5, a6] st μ G = ev 60 79 [some (vR x), a1, a2, a3, a4, a5, a6] (vR x :: st) μ G := ev_stp pg_60_78 rfl
theorem pg_60_79 : mm_prog 60 79 = some (0, .aload_n 1, 80, []) := by decide +kernel
theorem xe_60_79 (a0 a2 a3 a4 a5 a6 : Option MV) (x : Int) (st : List MV) (μ : MM) (G : MG) : ev 60 79 [a0, some (vR x), a2, a3, a4, a5, a6] st μ G = ev 60 80 [a0, some (vR x), a2, a3, a4, a5, a6] (vR x :: st) μ G := ev_stp pg_60_79 rfl
theorem pg_60_80 : mm_prog 60 80 = some (0, .iload_n 2, 81, []) := by decide +kernel
theorem xe_60_80 (a0 a1 a3 a4 a5 a6 : Option MV) (x : Int) (st : List MV) (μ : MM) (G : MG) : ev 60 80 [a0, a1, some (vI x), a3, a4, a5, a6] st μ G = ev 60 81 [a0, a1, some (vI x), a3, a4, a5, a6] (vI x :: st) μ G := ev_stp pg_60_80 rfl
theorem pg_60_81 : mm_prog 60 81 = some (0, .iconst 5, 82, []) := by decide +kernel
theorem xe_60_81 (a0 a1 a2 a3 a4 a5 a6 : Option MV) (st : List MV) (μ : MM) (G : MG) : ev 60 81 [a0, a1, a2, a3, a4, a5, a6] st μ G = ev 60 82 [a0, a1, a2, a3, a4, a5, a6] (vI (5) :: st) μ G := ev_stp pg_60_81 rfl
theorem pg_60_82 : mm_prog 60 82 = some (0, .iadd, 83, []) := by decide +kernel
theorem xe_60_82 (a0 a1 a2 a3 a4 a5 a6 : Option MV) (x y : Int) (st : List MV) (μ : MM) (G : MG) : ev 60 82 [a0, a1, a2, a3, a4, a5, a6] (vI y :: vI x :: st) μ G = ev 60 83 [a0, a1, a2, a3, a4, a5, a6] (vI (w32 (x + y)) :: st) μ G := ev_stp pg_60_82 rfl
theorem pg_60_83 : mm_prog 60 83 = some (1, .invokevirtual 9, 86, [1, 3, 1, 0]) := by decide +kernel
theorem xe_60_83 (a0 a1 a2 a3 a4 a5 a6 : Option MV) (x0 z r0 : Int) (μ : MM) (G : MG) : ev 60 83 [a0, a1, a2, a3, a4, a5, a6] (vI x0 :: vR z :: [vR r0]) μ G = if gk G z = 0 ∧ 0 < z then (ev 3 0 [some (vR z), some (vI x0)] [] μ G).bind (fun q => ev 60 86 [a0, a1, a2, a3, a4, a5, a6] (q.1.toList ++ [vR r0]) q.2.1 q.2.2) else none := ev_calV (as := [vR z, vI x0]) (r := [vR r0]) mx_3 pg_60_83 rfl rfl (Nat.le_of_ble_eq_true rfl) (Nat.le_of_ble_eq_true rfl)
theorem pg_60_86 : mm_prog 60 86 = some (0, .iload 4, 88, []) := by decide +kernel
theorem xe_60_86 (a0 a1 a2 a3 a5 a6 : Option MV) (x : Int) (st : List MV) (μ : MM) (G : MG) : ev 60 86 [a0, a1, a2, a3, some (vI x), a5, a6] st μ G = ev 60 88 [a0, a1, a2, a3, some (vI x), a5, a6] (vI x :: st) μ G := ev_stp pg_60_86 rfl
theorem pg_60_88 : mm_prog 60 88 = some (0, .iconst 4, 89, []) := by decide +kernel
theorem xe_60_88 (a0 a1 a2 a3 a4 a5 a6 : Option MV) (st : List MV) (μ : MM) (G : MG) : ev 60 88 [a0, a1, a2, a3, a4, a5, a6] st μ G = ev 60 89 [a0, a1, a2, a3, a4, a5, a6] (vI (4) :: st) μ G := ev_stp pg_60_88 rfl
theorem pg_60_89 : mm_prog 60 89 = some (0, .ishr, 90, []) := by decide +kernel
theorem xe_60_89 (a0 a1 a2 a3 a4 a5 a6 : Option MV) (x y : Int) (st : List MV) (μ : MM) (G : MG) : ev 60 89 [a0, a1, a2, a3, a4, a5, a6] (vI y :: vI x :: st) μ G = ev 60 90 [a0, a1, a2, a3, a4, a5, a6] (vI (mm_shr x y) :: st) μ G := ev_stp pg_60_89 rfl
theorem pg_60_90 : mm_prog 60 90 = some (0, .bipush 8, 92, []) := by decide +kernel
theorem xe_60_90 (a0 a1 a2 a3 a4 a5 a6 : Option MV) (st : List MV) (μ : MM) (G : MG) : ev 60 90 [a0, a1, a2, a3, a4, a5, a6] st μ G = ev 60 92 [a0, a1, a2, a3, a4, a5, a6] (vI (8) :: st) μ G := ev_stp pg_60_90 rfl
theorem pg_60_92 : mm_prog 60 92 = some (0, .ishl, 93, []) := by decide +kernel
theorem xe_60_92 (a0 a1 a2 a3 a4 a5 a6 : Option MV) (x y : Int) (st : List MV) (μ : MM) (G : MG) : ev 60 92 [a0, a1, a2, a3, a4, a5, a6] (vI y :: vI x :: st) μ G = ev 60 93 [a0, a1, a2, a3, a4, a5, a6] (vI (mm_shl x y) :: st) μ G := ev_stp pg_60_92 rfl
theorem pg_60_93 : mm_prog 60 93 = some (0, .ior, 94, []) := by decide +kernel
theorem xe_60_93 (a0 a1 a2 a3 a4 a5 a6 : Option MV) (x y : Int) (st : List MV) (μ : MM) (G : MG) : ev 60 93 [a0, a1, a2, a3, a4, a5, a6] (vI y :: vI x :: st) μ G = ev 60 94 [a0, a1, a2, a3, a4, a5, a6] (vI (mm_or x y) :: st) μ G := ev_stp pg_60_93 rfl
theorem pg_60_94 : mm_prog 60 94 = some (0, .putfield 27, 97, [7, 5, 0]) := by decide +kernel
theorem xe_60_94 (a0 a1 a2 a3 a4 a5 a6 : Option MV) (x y : Int) (st : List MV) (μ : MM) (G : MG) : ev 60 94 [a0, a1, a2, a3, a4, a5, a6] (vI x :: vR y :: st) μ G = if gk G y = 7 then ev 60 97 [a0, a1, a2, a3, a4, a5, a6] st (mset μ y 5 x) G else none := ev_put0 pg_60_94
theorem pg_60_97 : mm_prog 60 97 = some (0, .aload_n 0, 98, []) := by decide +kernel
theorem xe_60_97 (a1 a2 a3 a4 a5 a6 : Option MV) (x : Int) (st : List MV) (μ : MM) (G : MG) : ev 60 97 [some (vR x), a1, a2, a3, a4, a5, a6] st μ G = ev 60 98 [some (vR x), a1, a2, a3, a4, a5, a6] (vR x :: st) μ G := ev_stp pg_60_97 rfl
theorem pg_60_98 : mm_prog 60 98 = some (0, .aload_n 1, 99, []) := by decide +kernel
theorem xe_60_98 (a0 a2 a3 a4 a5 a6 : Option MV) (x : Int) (st : List MV) (μ : MM) (G : MG) : ev 60 98 [a0, some (vR x), a2, a3, a4, a5, a6] st μ G = ev 60 99 [a0, some (vR x), a2, a3, a4, a5, a6] (vR x :: st) μ G := ev_stp pg_60_98 rfl
theorem pg_60_99 : mm_prog 60 99 = some (0, .iload_n 2, 100, []) := by decide +kernel
theorem xe_60_99 (a0 a1 a3 a4 a5 a6 : Option MV) (x : Int) (st : List MV) (μ : MM) (G : MG) : ev 60 99 [a0, a1, some (vI x), a3, a4, a5, a6] st μ G = ev 60 100 [a0, a1, some (vI x), a3, a4, a5, a6] (vI x :: st) μ G := ev_stp pg_60_99 rfl
theorem pg_60_100 : mm_prog 60 100 = some (0, .bipush 6, 102, []) := by decide +kernel
theorem xe_60_100 (a0 a1 a2 a3 a4 a5 a6 : Option MV) (st : List MV) (μ : MM) (G : MG) : ev 60 100 [a0, a1, a2, a3, a4, a5, a6] st μ G = ev 60 102 [a0, a1, a2, a3, a4, a5, a6] (vI (6) :: st) μ G := ev_stp pg_60_100 rfl
theorem pg_60_102 : mm_prog 60 102 = some (0, .iadd, 103, []) := by decide +kernel
theorem xe_60_102 (a0 a1 a2 a3 a4 a5 a6 : Option MV) (x y : Int) (st : List MV) (μ : MM) (G : MG) : ev 60 102 [a0, a1, a2, a3, a4, a5, a6] (vI y :: vI x :: st) μ G = ev 60 103 [a0, a1, a2, a3, a4, a5, a6] (vI (w32 (x + y)) :: st) μ G := ev_stp pg_60_102 rfl
theorem pg_60_103 : mm_prog 60 103 = some (1, .invokevirtual 9, 106, [1, 3, 1, 0]) := by decide +kernel
theorem xe_60_103 (a0 a1 a2 a3 a4 a5 a6 : Option MV) (x0 z r0 : Int) (μ : MM) (G : MG) : ev 60 103 [a0, a1, a2, a3, a4, a5, a6] (vI x0 :: vR z :: [vR r0]) μ G = if gk G z = 0 ∧ 0 < z then (ev 3 0 [some (vR z), some (vI x0)] [] μ G).bind (fun q => ev 60 106 [a0, a1, a2, a3, a4, a5, a6] (q.1.toList ++ [vR r0]) q.2.1 q.2.2) else none := ev_calV (as := [vR z, vI x0]) (r := [vR r0]) mx_3 pg_60_103 rfl rfl (Nat.le_of_ble_eq_true rfl) (Nat.le_of_ble_eq_true rfl)
theorem pg_60_106 : mm_prog 60 106 = some (0, .iload 4, 108, []) := by decide +kernel
theorem xe_60_106 (a0 a1 a2 a3 a5 a6 : Option MV) (x : Int) (st : List MV) (μ : MM) (G : MG) : ev 60 106 [a0, a1, a2, a3, some (vI x), a5, a6] st μ G = ev 60 108 [a0, a1, a2, a3, some (vI x), a5, a6] (vI x :: st) μ G := ev_stp pg_60_106 rfl
theorem pg_60_108 : mm_prog 60 108 = some (0, .bipush 15, 110, []) := by decide +kernel
theorem xe_60_108 (a0 a1 a2 a3 a4 a5 a6 : Option MV) (st : List MV) (μ : MM) (G : MG) : ev 60 108 [a0, a1, a2, a3, a4, a5, a6] st μ G = ev 60 110 [a0, a1, a2, a3, a4, a5, a6] (vI (15) :: st) μ G := ev_stp pg_60_108 rfl
theorem pg_60_110 : mm_prog 60 110 = some (0, .iand, 111, []) := by decide +kernel
theorem xe_60_110 (a0 a1 a2 a3 a4 a5 a6 : Option MV) (x y : Int) (st : List MV) (μ : MM) (G : MG) : ev 60 110 [a0, a1, a2, a3, a4, a5, a6] (vI y :: vI x :: st) μ G = ev 60 111 [a0, a1, a2, a3, a4, a5, a6] (vI (mm_and x y) :: st) μ G := ev_stp pg_60_110 rfl
theorem pg_60_111 : mm_prog 60 111 = some (0, .bipush 8, 113, []) := by decide +kernel
theorem xe_60_111 (a0 a1 a2 a3 a4 a5 a6 : Option MV) (st : List MV) (μ : MM) (G : MG) : ev 60 111 [a0, a1, a2, a3, a4, a5, a6] st μ G = ev 60 113 [a0, a1, a2, a3, a4, a5, a6] (vI (8) :: st) μ G := ev_stp pg_60_111 rfl
theorem pg_60_113 : mm_prog 60 113 = some (0, .ishl, 114, []) := by decide +kernel
theorem xe_60_113 (a0 a1 a2 a3 a4 a5 a6 : Option MV) (x y : Int) (st : List MV) (μ : MM) (G : MG) : ev 60 113 [a0, a1, a2, a3, a4, a5, a6] (vI y :: vI x :: st) μ G = ev 60 114 [a0, a1, a2, a3, a4, a5, a6] (vI (mm_shl x y) :: st) μ G := ev_stp pg_60_113 rfl
theorem pg_60_114 : mm_prog 60 114 = some (0, .ior, 115, []) := by decide +kernel
theorem xe_60_114 (a0 a1 a2 a3 a4 a5 a6 : Option MV) (x y : Int) (st : List MV) (μ : MM) (G : MG) : ev 60 114 [a0, a1, a2, a3, a4, a5, a6] (vI y :: vI x :: st) μ G = ev 60 115 [a0, a1, a2, a3, a4, a5, a6] (vI (mm_or x y) :: st) μ G := ev_stp pg_60_114 rfl
theorem pg_60_115 : mm_prog 60 115 = some (0, .putfield 30, 118, [7, 6, 0]) := by decide +kernel
theorem xe_60_115 (a0 a1 a2 a3 a4 a5 a6 : Option MV) (x y : Int) (st : List MV) (μ : MM) (G : MG) : ev 60 115 [a0, a1, a2, a3, a4, a5, a6] (vI x :: vR y :: st) μ G = if gk G y = 7 then ev 60 118 [a0, a1, a2, a3, a4, a5, a6] st (mset μ y 6 x) G else none := ev_put0 pg_60_115
theorem pg_60_118 : mm_prog 60 118 = some (0, .aload_n 1, 119, []) := by decide +kernel
theorem xe_60_118 (a0 a2 a3 a4 a5 a6 : Option MV) (x : Int) (st : List MV) (μ : MM) (G : MG) : ev 60 118 [a0, some (vR x), a2, a3, a4, a5, a6] st μ G = ev 60 119 [a0, some (vR x), a2, a3, a4, a5, a6] (vR x :: st) μ G := ev_stp pg_60_118 rfl
theorem pg_60_119 : mm_prog 60 119 = some (0, .iload_n 2, 120, []) := by decide +kernel
theorem xe_60_119 (a0 a1 a3 a4 a5 a6 : Option MV) (x : Int) (st : List MV) (μ : MM) (G : MG) : ev 60 119 [a0, a1, some (vI x), a3, a4, a5, a6] st μ G = ev 60 120 [a0, a1, some (vI x), a3, a4, a5, a6] (vI x :: st) μ G := ev_stp pg_60_119 rfl
theorem pg_60_120 : mm_prog 60 120 = some (0, .bipush 10, 122, []) := by decide +kernel
theorem xe_60_120 (a0 a1 a2 a3 a4 a5 a6 : Option MV) (st : List MV) (μ : MM) (G : MG) : ev 60 120 [a0, a1, a2, a3, a4, a5, a6] st μ G = ev 60 122 [a0, a1, a2, a3, a4, a5, a6] (vI (10) :: st) μ G := ev_stp pg_60_120 rfl
theorem pg_60_122 : mm_prog 60 122 = some (0, .iadd, 123, []) := by decide +kernel
theorem xe_60_122 (a0 a1 a2 a3 a4 a5 a6 : Option MV) (x y : Int) (st : List MV) (μ : MM) (G : MG) : ev 60 122 [a0, a1, a2, a3, a4, a5, a6] (vI y :: vI x :: st) μ G = ev 60 123 [a0, a1, a2, a3, a4, a5, a6] (vI (w32 (x + y)) :: st) μ G := ev_stp pg_60_122 rfl
theorem pg_60_123 : mm_prog 60 123 = some (1, .invokevirtual 9, 126, [1, 3, 1, 0]) := by decide +kernel
theorem xe_60_123 (a0 a1 a2 a3 a4 a5 a6 : Option MV) (x0 z : Int) (μ : MM) (G : MG) : ev 60 123 [a0, a1, a2, a3, a4, a5, a6] (vI x0 :: vR z :: []) μ G = if gk G z = 0 ∧ 0 < z then (ev 3 0 [some (vR z), some (vI x0)] [] μ G).bind (fun q => ev 60 126 [a0, a1, a2, a3, a4, a5, a6] (q.1.toList ++ []) q.2.1 q.2.2) else none := ev_calV (as := [vR z, vI x0]) (r := []) mx_3 pg_60_123 rfl rfl (Nat.le_of_ble_eq_true rfl) (Nat.le_of_ble_eq_true rfl)
theorem pg_60_126 : mm_prog 60 126 = some (0, .istore 5, 128, []) := by decide +kernel
theorem xe_60_126 (a0 a1 a2 a3 a4 a5 a6 : Option MV) (x : Int) (st : List MV) (μ : MM) (G : MG) (h : mm_nL a4 = true) : ev 60 126 [a0, a1, a2, a3, a4, a5, a6] (vI x :: st) μ G = ev 60 128 [a0, a1, a2, a3, a4, some (vI x), a6] st μ G := ev_st pg_60_126 rfl (mm_nl_of h) (Nat.le_of_ble_eq_true rfl)
theorem pg_60_128 : mm_prog 60 128 = some (0, .aload_n 1, 129, []) := by decide +kernel
theorem xe_60_128 (a0 a2 a3 a4 a5 a6 : Option MV) (x : Int) (st : List MV) (μ : MM) (G : MG) : ev 60 128 [a0, some (vR x), a2, a3, a4, a5, a6] st μ G = ev 60 129 [a0, some (vR x), a2, a3, a4, a5, a6] (vR x :: st) μ G := ev_stp pg_60_128 rfl
theorem pg_60_129 : mm_prog 60 129 = some (0, .iload_n 2, 130, []) := by decide +kernel
theorem xe_60_129 (a0 a1 a3 a4 a5 a6 : Option MV) (x : Int) (st : List MV) (μ : MM) (G : MG) : ev 60 129 [a0, a1, some (vI x), a3, a4, a5, a6] st μ G = ev 60 130 [a0, a1, some (vI x), a3, a4, a5, a6] (vI x :: st) μ G := ev_stp pg_60_129 rfl
theorem pg_60_130 : mm_prog 60 130 = some (0, .bipush 11, 132, []) := by decide +kernel
theorem xe_60_130 (a0 a1 a2 a3 a4 a5 a6 : Option MV) (st : List MV) (μ : MM) (G : MG) : ev 60 130 [a0, a1, a2, a3, a4, a5, a6] st μ G = ev 60 132 [a0, a1, a2, a3, a4, a5, a6] (vI (11) :: st) μ G := ev_stp pg_60_130 rfl
theorem pg_60_132 : mm_prog 60 132 = some (0, .iadd, 133, []) := by decide +kernel
theorem xe_60_132 (a0 a1 a2 a3 a4 a5 a6 : Option MV) (x y : Int) (st : List MV) (μ : MM) (G : MG) : ev 60 132 [a0, a1, a2, a3, a4, a5, a6] (vI y :: vI x :: st) μ G = ev 60 133 [a0, a1, a2, a3, a4, a5, a6] (vI (w32 (x + y)) :: st) μ G := ev_stp pg_60_132 rfl
theorem pg_60_133 : mm_prog 60 133 = some (1, .invokevirtual 9, 136, [1, 3, 1, 0]) := by decide +kernel
theorem xe_60_133 (a0 a1 a2 a3 a4 a5 a6 : Option MV) (x0 z : Int) (μ : MM) (G : MG) : ev 60 133 [a0, a1, a2, a3, a4, a5, a6] (vI x0 :: vR z :: []) μ G = if gk G z = 0 ∧ 0 < z then (ev 3 0 [some (vR z), some (vI x0)] [] μ G).bind (fun q => ev 60 136 [a0, a1, a2, a3, a4, a5, a6] (q.1.toList ++ []) q.2.1 q.2.2) else none := ev_calV (as := [vR z, vI x0]) (r := []) mx_3 pg_60_133 rfl rfl (Nat.le_of_ble_eq_true rfl) (Nat.le_of_ble_eq_true rfl)
theorem pg_60_136 : mm_prog 60 136 = some (0, .istore 6, 138, []) := by decide +kernel
theorem xe_60_136 (a0 a1 a2 a3 a4 a5 a6 : Option MV) (x : Int) (st : List MV) (μ : MM) (G : MG) (h : mm_nL a5 = true) : ev 60 136 [a0, a1, a2, a3, a4, a5, a6] (vI x :: st) μ G = ev 60 138 [a0, a1, a2, a3, a4, a5, some (vI x)] st μ G := ev_st pg_60_136 rfl (mm_nl_of h) (Nat.le_of_ble_eq_true rfl)
theorem pg_60_138 : mm_prog 60 138 = some (0, .aload_n 0, 139, []) := by decide +kernel
theorem xe_60_138 (a1 a2 a3 a4 a5 a6 : Option MV) (x : Int) (st : List MV) (μ : MM) (G : MG) : ev 60 138 [some (vR x), a1, a2, a3, a4, a5, a6] st μ G = ev 60 139 [some (vR x), a1, a2, a3, a4, a5, a6] (vR x :: st) μ G := ev_stp pg_60_138 rfl
theorem pg_60_139 : mm_prog 60 139 = some (0, .aload_n 1, 140, []) := by decide +kernel
theorem xe_60_139 (a0 a2 a3 a4 a5 a6 : Option MV) (x : Int) (st : List MV) (μ : MM) (G : MG) : ev 60 139 [a0, some (vR x), a2, a3, a4, a5, a6] st μ G = ev 60 140 [a0, some (vR x), a2, a3, a4, a5, a6] (vR x :: st) μ G := ev_stp pg_60_139 rfl
theorem pg_60_140 : mm_prog 60 140 = some (0, .iload_n 2, 141, []) := by decide +kernel
theorem xe_60_140 (a0 a1 a3 a4 a5 a6 : Option MV) (x : Int) (st : List MV) (μ : MM) (G : MG) : ev 60 140 [a0, a1, some (vI x), a3, a4, a5, a6] st μ G = ev 60 141 [a0, a1, some (vI x), a3, a4, a5, a6] (vI x :: st) μ G := ev_stp pg_60_140 rfl
theorem pg_60_141 : mm_prog 60 141 = some (0, .bipush 8, 143, []) := by decide +kernel
theorem xe_60_141 (a0 a1 a2 a3 a4 a5 a6 : Option MV) (st : List MV) (μ : MM) (G : MG) : ev 60 141 [a0, a1, a2, a3, a4, a5, a6] st μ G = ev 60 143 [a0, a1, a2, a3, a4, a5, a6] (vI (8) :: st) μ G := ev_stp pg_60_141 rfl
theorem pg_60_143 : mm_prog 60 143 = some (0, .iadd, 144, []) := by decide +kernel
theorem xe_60_143 (a0 a1 a2 a3 a4 a5 a6 : Option MV) (x y : Int) (st : List MV) (μ : MM) (G : MG) : ev 60 143 [a0, a1, a2, a3, a4, a5, a6] (vI y :: vI x :: st) μ G = ev 60 144 [a0, a1, a2, a3, a4, a5, a6] (vI (w32 (x + y)) :: st) μ G := ev_stp pg_60_143 rfl
theorem pg_60_144 : mm_prog 60 144 = some (1, .invokevirtual 9, 147, [1, 3, 1, 0]) := by decide +kernel
theorem xe_60_144 (a0 a1 a2 a3 a4 a5 a6 : Option MV) (x0 z r0 : Int) (μ : MM) (G : MG) : ev 60 144 [a0, a1, a2, a3, a4, a5, a6] (vI x0 :: vR z :: [vR r0]) μ G = if gk G z = 0 ∧ 0 < z then (ev 3 0 [some (vR z), some (vI x0)] [] μ G).bind (fun q => ev 60 147 [a0, a1, a2, a3, a4, a5, a6] (q.1.toList ++ [vR r0]) q.2.1 q.2.2) else none := ev_calV (as := [vR z, vI x0]) (r := [vR r0]) mx_3 pg_60_144 rfl rfl (Nat.le_of_ble_eq_true rfl) (Nat.le_of_ble_eq_true rfl)
theorem pg_60_147 : mm_prog 60 147 = some (0, .iload 6, 149, []) := by decide +kernel
theorem xe_60_147 (a0 a1 a2 a3 a4 a5 : Option MV) (x : Int) (st : List MV) (μ : MM) (G : MG) : ev 60 147 [a0, a1, a2, a3, a4, a5, some (vI x)] st μ G = ev 60 149 [a0, a1, a2, a3, a4, a5, some (vI x)] (vI x :: st) μ G := ev_stp pg_60_147 rfl
theorem pg_60_149 : mm_prog 60 149 = some (0, .bipush 6, 151, []) := by decide +kernel
theorem xe_60_149 (a0 a1 a2 a3 a4 a5 a6 : Option MV) (st : List MV) (μ : MM) (G : MG) : ev 60 149 [a0, a1, a2, a3, a4, a5, a6] st μ G = ev 60 151 [a0, a1, a2, a3, a4, a5, a6] (vI (6) :: st) μ G := ev_stp pg_60_149 rfl
theorem pg_60_151 : mm_prog 60 151 = some (0, .ishr, 152, []) := by decide +kernel
theorem xe_60_151 (a0 a1 a2 a3 a4 a5 a6 : Option MV) (x y : Int) (st : List MV) (μ : MM) (G : MG) : ev 60 151 [a0, a1, a2, a3, a4, a5, a6] (vI y :: vI x :: st) μ G = ev 60 152 [a0, a1, a2, a3, a4, a5, a6] (vI (mm_shr x y) :: st) μ G := ev_stp pg_60_151 rfl
theorem pg_60_152 : mm_prog 60 152 = some (0, .iconst 3, 153, []) := by decide +kernel
theorem xe_60_152 (a0 a1 a2 a3 a4 a5 a6 : Option MV) (st : List MV) (μ : MM) (G : MG) : ev 60 152 [a0, a1, a2, a3, a4, a5, a6] st μ G = ev 60 153 [a0, a1, a2, a3, a4, a5, a6] (vI (3) :: st) μ G := ev_stp pg_60_152 rfl
theorem pg_60_153 : mm_prog 60 153 = some (0, .iand, 154, []) := by decide +kernel
theorem xe_60_153 (a0 a1 a2 a3 a4 a5 a6 : Option MV) (x y : Int) (st : List MV) (μ : MM) (G : MG) : ev 60 153 [a0, a1, a2, a3, a4, a5, a6] (vI y :: vI x :: st) μ G = ev 60 154 [a0, a1, a2, a3, a4, a5, a6] (vI (mm_and x y) :: st) μ G := ev_stp pg_60_153 rfl
theorem pg_60_154 : mm_prog 60 154 = some (0, .bipush 8, 156, []) := by decide +kernel
theorem xe_60_154 (a0 a1 a2 a3 a4 a5 a6 : Option MV) (st : List MV) (μ : MM) (G : MG) : ev 60 154 [a0, a1, a2, a3, a4, a5, a6] st μ G = ev 60 156 [a0, a1, a2, a3, a4, a5, a6] (vI (8) :: st) μ G := ev_stp pg_60_154 rfl
theorem pg_60_156 : mm_prog 60 156 = some (0, .ishl, 157, []) := by decide +kernel
theorem xe_60_156 (a0 a1 a2 a3 a4 a5 a6 : Option MV) (x y : Int) (st : List MV) (μ : MM) (G : MG) : ev 60 156 [a0, a1, a2, a3, a4, a5, a6] (vI y :: vI x :: st) μ G = ev 60 157 [a0, a1, a2, a3, a4, a5, a6] (vI (mm_shl x y) :: st) μ G := ev_stp pg_60_156 rfl
theorem pg_60_157 : mm_prog 60 157 = some (0, .ior, 158, []) := by decide +kernel
theorem xe_60_157 (a0 a1 a2 a3 a4 a5 a6 : Option MV) (x y : Int) (st : List MV) (μ : MM) (G : MG) : ev 60 157 [a0, a1, a2, a3, a4, a5, a6] (vI y :: vI x :: st) μ G = ev 60 158 [a0, a1, a2, a3, a4, a5, a6] (vI (mm_or x y) :: st) μ G := ev_stp pg_60_157 rfl
theorem pg_60_158 : mm_prog 60 158 = some (0, .putfield 33, 161, [7, 3, 0]) := by decide +kernel
theorem xe_60_158 (a0 a1 a2 a3 a4 a5 a6 : Option MV) (x y : Int) (st : List MV) (μ : MM) (G : MG) : ev 60 158 [a0, a1, a2, a3, a4, a5, a6] (vI x :: vR y :: st) μ G = if gk G y = 7 then ev 60 161 [a0, a1, a2, a3, a4, a5, a6] st (mset μ y 3 x) G else none := ev_put0 pg_60_158
theorem pg_60_161 : mm_prog 60 161 = some (0, .aload_n 0, 162, []) := by decide +kernel
theorem xe_60_161 (a1 a2 a3 a4 a5 a6 : Option MV) (x : Int) (st : List MV) (μ : MM) (G : MG) : ev 60 161 [some (vR x), a1, a2, a3, a4, a5, a6] st μ G = ev 60 162 [some (vR x), a1, a2, a3, a4, a5, a6] (vR x :: st) μ G := ev_stp pg_60_161 rfl
theorem pg_60_162 : mm_prog 60 162 = some (0, .aload_n 1, 163, []) := by decide +kernel
theorem xe_60_162 (a0 a2 a3 a4 a5 a6 : Option MV) (x : Int) (st : List MV) (μ : MM) (G : MG) : ev 60 162 [a0, some (vR x), a2, a3, a4, a5, a6] st μ G = ev 60 163 [a0, some (vR x), a2, a3, a4, a5, a6] (vR x :: st) μ G := ev_stp pg_60_162 rfl
theorem pg_60_163 : mm_prog 60 163 = some (0, .iload_n 2, 164, []) := by decide +kernel
theorem xe_60_163 (a0 a1 a3 a4 a5 a6 : Option MV) (x : Int) (st : List MV) (μ : MM) (G : MG) : ev 60 163 [a0, a1, some (vI x), a3, a4, a5, a6] st μ G = ev 60 164 [a0, a1, some (vI x), a3, a4, a5, a6] (vI x :: st) μ G := ev_stp pg_60_163 rfl
theorem pg_60_164 : mm_prog 60 164 = some (0, .bipush 9, 166, []) := by decide +kernel
theorem xe_60_164 (a0 a1 a2 a3 a4 a5 a6 : Option MV) (st : List MV) (μ : MM) (G : MG) : ev 60 164 [a0, a1, a2, a3, a4, a5, a6] st μ G = ev 60 166 [a0, a1, a2, a3, a4, a5, a6] (vI (9) :: st) μ G := ev_stp pg_60_164 rfl
theorem pg_60_166 : mm_prog 60 166 = some (0, .iadd, 167, []) := by decide +kernel
theorem xe_60_166 (a0 a1 a2 a3 a4 a5 a6 : Option MV) (x y : Int) (st : List MV) (μ : MM) (G : MG) : ev 60 166 [a0, a1, a2, a3, a4, a5, a6] (vI y :: vI x :: st) μ G = ev 60 167 [a0, a1, a2, a3, a4, a5, a6] (vI (w32 (x + y)) :: st) μ G := ev_stp pg_60_166 rfl
theorem pg_60_167 : mm_prog 60 167 = some (1, .invokevirtual 9, 170, [1, 3, 1, 0]) := by decide +kernel
theorem xe_60_167 (a0 a1 a2 a3 a4 a5 a6 : Option MV) (x0 z r0 : Int) (μ : MM) (G : MG) : ev 60 167 [a0, a1, a2, a3, a4, a5, a6] (vI x0 :: vR z :: [vR r0]) μ G = if gk G z = 0 ∧ 0 < z then (ev 3 0 [some (vR z), some (vI x0)] [] μ G).bind (fun q => ev 60 170 [a0, a1, a2, a3, a4, a5, a6] (q.1.toList ++ [vR r0]) q.2.1 q.2.2) else none := ev_calV (as := [vR z, vI x0]) (r := [vR r0]) mx_3 pg_60_167 rfl rfl (Nat.le_of_ble_eq_true rfl) (Nat.le_of_ble_eq_true rfl)
theorem pg_60_170 : mm_prog 60 170 = some (0, .iload 6, 172, []) := by decide +kernel
theorem xe_60_170 (a0 a1 a2 a3 a4 a5 : Option MV) (x : Int) (st : List MV) (μ : MM) (G : MG) : ev 60 170 [a0, a1, a2, a3, a4, a5, some (vI x)] st μ G = ev 60 172 [a0, a1, a2, a3, a4, a5, some (vI x)] (vI x :: st) μ G := ev_stp pg_60_170 rfl
theorem pg_60_172 : mm_prog 60 172 = some (0, .iconst 4, 173, []) := by decide +kernel
theorem xe_60_172 (a0 a1 a2 a3 a4 a5 a6 : Option MV) (st : List MV) (μ : MM) (G : MG) : ev 60 172 [a0, a1, a2, a3, a4, a5, a6] st μ G = ev 60 173 [a0, a1, a2, a3, a4, a5, a6] (vI (4) :: st) μ G := ev_stp pg_60_172 rfl
theorem pg_60_173 : mm_prog 60 173 = some (0, .ishr, 174, []) := by decide +kernel
theorem xe_60_173 (a0 a1 a2 a3 a4 a5 a6 : Option MV) (x y : Int) (st : List MV) (μ : MM) (G : MG) : ev 60 173 [a0, a1, a2, a3, a4, a5, a6] (vI y :: vI x :: st) μ G = ev 60 174 [a0, a1, a2, a3, a4, a5, a6] (vI (mm_shr x y) :: st) μ G := ev_stp pg_60_173 rfl
theorem pg_60_174 : mm_prog 60 174 = some (0, .iconst 3, 175, []) := by decide +kernel
theorem xe_60_174 (a0 a1 a2 a3 a4 a5 a6 : Option MV) (st : List MV) (μ : MM) (G : MG) : ev 60 174 [a0, a1, a2, a3, a4, a5, a6] st μ G = ev 60 175 [a0, a1, a2, a3, a4, a5, a6] (vI (3) :: st) μ G := ev_stp pg_60_174 rfl
theorem pg_60_175 : mm_prog 60 175 = some (0, .iand, 176, []) := by decide +kernel
theorem xe_60_175 (a0 a1 a2 a3 a4 a5 a6 : Option MV) (x y : Int) (st : List MV) (μ : MM) (G : MG) : ev 60 175 [a0, a1, a2, a3, a4, a5, a6] (vI y :: vI x :: st) μ G = ev 60 176 [a0, a1, a2, a3, a4, a5, a6] (vI (mm_and x y) :: st) μ G := ev_stp pg_60_175 rfl
theorem pg_60_176 : mm_prog 60 176 = some (0, .bipush 8, 178, []) := by decide +kernel
theorem xe_60_176 (a0 a1 a2 a3 a4 a5 a6 : Option MV) (st : List MV) (μ : MM) (G : MG) : ev 60 176 [a0, a1, a2, a3, a4, a5, a6] st μ G = ev 60 178 [a0, a1, a2, a3, a4, a5, a6] (vI (8) :: st) μ G := ev_stp pg_60_176 rfl
theorem pg_60_178 : mm_prog 60 178 = some (0, .ishl, 179, []) := by decide +kernel
theorem xe_60_178 (a0 a1 a2 a3 a4 a5 a6 : Option MV) (x y : Int) (st : List MV) (μ : MM) (G : MG) : ev 60 178 [a0, a1, a2, a3, a4, a5, a6] (vI y :: vI x :: st) μ G = ev 60 179 [a0, a1, a2, a3, a4, a5, a6] (vI (mm_shl x y) :: st) μ G := ev_stp pg_60_178 rfl
theorem pg_60_179 : mm_prog 60 179 = some (0, .ior, 180, []) := by decide +kernel
theorem xe_60_179 (a0 a1 a2 a3 a4 a5 a6 : Option MV) (x y : Int) (st : List MV) (μ : MM) (G : MG) : ev 60 179 [a0, a1, a2, a3, a4, a5, a6] (vI y :: vI x :: st) μ G = ev 60 180 [a0, a1, a2, a3, a4, a5, a6] (vI (mm_or x y) :: st) μ G := ev_stp pg_60_179 rfl
theorem pg_60_180 : mm_prog 60 180 = some (0, .putfield 36, 183, [7, 4, 0]) := by decide +kernel
theorem xe_60_180 (a0 a1 a2 a3 a4 a5 a6 : Option MV) (x y : Int) (st : List MV) (μ : MM) (G : MG) : ev 60 180 [a0, a1, a2, a3, a4, a5, a6] (vI x :: vR y :: st) μ G = if gk G y = 7 then ev 60 183 [a0, a1, a2, a3, a4, a5, a6] st (mset μ y 4 x) G else none := ev_put0 pg_60_180
theorem pg_60_183 : mm_prog 60 183 = some (0, .aload_n 0, 184, []) := by decide +kernel
theorem xe_60_183 (a1 a2 a3 a4 a5 a6 : Option MV) (x : Int) (st : List MV) (μ : MM) (G : MG) : ev 60 183 [some (vR x), a1, a2, a3, a4, a5, a6] st μ G = ev 60 184 [some (vR x), a1, a2, a3, a4, a5, a6] (vR x :: st) μ G := ev_stp pg_60_183 rfl
theorem pg_60_184 : mm_prog 60 184 = some (0, .iload 5, 186, []) := by decide +kernel
theorem xe_60_184 (a0 a1 a2 a3 a4 a6 : Option MV) (x : Int) (st : List MV) (μ : MM) (G : MG) : ev 60 184 [a0, a1, a2, a3, a4, some (vI x), a6] st μ G = ev 60 186 [a0, a1, a2, a3, a4, some (vI x), a6] (vI x :: st) μ G := ev_stp pg_60_184 rfl
theorem pg_60_186 : mm_prog 60 186 = some (0, .iconst 4, 187, []) := by decide +kernel
theorem xe_60_186 (a0 a1 a2 a3 a4 a5 a6 : Option MV) (st : List MV) (μ : MM) (G : MG) : ev 60 186 [a0, a1, a2, a3, a4, a5, a6] st μ G = ev 60 187 [a0, a1, a2, a3, a4, a5, a6] (vI (4) :: st) μ G := ev_stp pg_60_186 rfl
theorem pg_60_187 : mm_prog 60 187 = some (0, .ishr, 188, []) := by decide +kernel
theorem xe_60_187 (a0 a1 a2 a3 a4 a5 a6 : Option MV) (x y : Int) (st : List MV) (μ : MM) (G : MG) : ev 60 187 [a0, a1, a2, a3, a4, a5, a6] (vI y :: vI x :: st) μ G = ev 60 188 [a0, a1, a2, a3, a4, a5, a6] (vI (mm_shr x y) :: st) μ G := ev_stp pg_60_187 rfl
theorem pg_60_188 : mm_prog 60 188 = some (0, .iload 6, 190, []) := by decide +kernel
theorem xe_60_188 (a0 a1 a2 a3 a4 a5 : Option MV) (x : Int) (st : List MV) (μ : MM) (G : MG) : ev 60 188 [a0, a1, a2, a3, a4, a5, some (vI x)] st μ G = ev 60 190 [a0, a1, a2, a3, a4, a5, some (vI x)] (vI x :: st) μ G := ev_stp pg_60_188 rfl
theorem pg_60_190 : mm_prog 60 190 = some (0, .iconst 2, 191, []) := by decide +kernel
theorem xe_60_190 (a0 a1 a2 a3 a4 a5 a6 : Option MV) (st : List MV) (μ : MM) (G : MG) : ev 60 190 [a0, a1, a2, a3, a4, a5, a6] st μ G = ev 60 191 [a0, a1, a2, a3, a4, a5, a6] (vI (2) :: st) μ G := ev_stp pg_60_190 rfl
theorem pg_60_191 : mm_prog 60 191 = some (0, .ishr, 192, []) := by decide +kernel
theorem xe_60_191 (a0 a1 a2 a3 a4 a5 a6 : Option MV) (x y : Int) (st : List MV) (μ : MM) (G : MG) : ev 60 191 [a0, a1, a2, a3, a4, a5, a6] (vI y :: vI x :: st) μ G = ev 60 192 [a0, a1, a2, a3, a4, a5, a6] (vI (mm_shr x y) :: st) μ G := ev_stp pg_60_191 rfl
theorem pg_60_192 : mm_prog 60 192 = some (0, .iconst 3, 193, []) := by decide +kernel
theorem xe_60_192 (a0 a1 a2 a3 a4 a5 a6 : Option MV) (st : List MV) (μ : MM) (G : MG) : ev 60 192 [a0, a1, a2, a3, a4, a5, a6] st μ G = ev 60 193 [a0, a1, a2, a3, a4, a5, a6] (vI (3) :: st) μ G := ev_stp pg_60_192 rfl
theorem pg_60_193 : mm_prog 60 193 = some (0, .iand, 194, []) := by decide +kernel
theorem xe_60_193 (a0 a1 a2 a3 a4 a5 a6 : Option MV) (x y : Int) (st : List MV) (μ : MM) (G : MG) : ev 60 193 [a0, a1, a2, a3, a4, a5, a6] (vI y :: vI x :: st) μ G = ev 60 194 [a0, a1, a2, a3, a4, a5, a6] (vI (mm_and x y) :: st) μ G := ev_stp pg_60_193 rfl
theorem pg_60_194 : mm_prog 60 194 = some (0, .iconst 4, 195, []) := by decide +kernel
theorem xe_60_194 (a0 a1 a2 a3 a4 a5 a6 : Option MV) (st : List MV) (μ : MM) (G : MG) : ev 60 194 [a0, a1, a2, a3, a4, a5, a6] st μ G = ev 60 195 [a0, a1, a2, a3, a4, a5, a6] (vI (4) :: st) μ G := ev_stp pg_60_194 rfl
theorem pg_60_195 : mm_prog 60 195 = some (0, .ishl, 196, []) := by decide +kernel
theorem xe_60_195 (a0 a1 a2 a3 a4 a5 a6 : Option MV) (x y : Int) (st : List MV) (μ : MM) (G : MG) : ev 60 195 [a0, a1, a2, a3, a4, a5, a6] (vI y :: vI x :: st) μ G = ev 60 196 [a0, a1, a2, a3, a4, a5, a6] (vI (mm_shl x y) :: st) μ G := ev_stp pg_60_195 rfl
theorem pg_60_196 : mm_prog 60 196 = some (0, .ior, 197, []) := by decide +kernel
theorem xe_60_196 (a0 a1 a2 a3 a4 a5 a6 : Option MV) (x y : Int) (st : List MV) (μ : MM) (G : MG) : ev 60 196 [a0, a1, a2, a3, a4, a5, a6] (vI y :: vI x :: st) μ G = ev 60 197 [a0, a1, a2, a3, a4, a5, a6] (vI (mm_or x y) :: st) μ G := ev_stp pg_60_196 rfl
theorem pg_60_197 : mm_prog 60 197 = some (0, .putfield 39, 200, [7, 7, 0]) := by decide +kernel
theorem xe_60_197 (a0 a1 a2 a3 a4 a5 a6 : Option MV) (x y : Int) (st : List MV) (μ : MM) (G : MG) : ev 60 197 [a0, a1, a2, a3, a4, a5, a6] (vI x :: vR y :: st) μ G = if gk G y = 7 then ev 60 200 [a0, a1, a2, a3, a4, a5, a6] st (mset μ y 7 x) G else none := ev_put0 pg_60_197
theorem pg_60_200 : mm_prog 60 200 = some (0, .aload_n 0, 201, []) := by decide +kernel
theorem xe_60_200 (a1 a2 a3 a4 a5 a6 : Option MV) (x : Int) (st : List MV) (μ : MM) (G : MG) : ev 60 200 [some (vR x), a1, a2, a3, a4, a5, a6] st μ G = ev 60 201 [some (vR x), a1, a2, a3, a4, a5, a6] (vR x :: st) μ G := ev_stp pg_60_200 rfl
theorem pg_60_201 : mm_prog 60 201 = some (0, .iload 5, 203, []) := by decide +kernel
theorem xe_60_201 (a0 a1 a2 a3 a4 a6 : Option MV) (x : Int) (st : List MV) (μ : MM) (G : MG) : ev 60 201 [a0, a1, a2, a3, a4, some (vI x), a6] st μ G = ev 60 203 [a0, a1, a2, a3, a4, some (vI x), a6] (vI x :: st) μ G := ev_stp pg_60_201 rfl
theorem pg_60_203 : mm_prog 60 203 = some (0, .bipush 15, 205, []) := by decide +kernel
theorem xe_60_203 (a0 a1 a2 a3 a4 a5 a6 : Option MV) (st : List MV) (μ : MM) (G : MG) : ev 60 203 [a0, a1, a2, a3, a4, a5, a6] st μ G = ev 60 205 [a0, a1, a2, a3, a4, a5, a6] (vI (15) :: st) μ G := ev_stp pg_60_203 rfl
theorem pg_60_205 : mm_prog 60 205 = some (0, .iand, 206, []) := by decide +kernel
theorem xe_60_205 (a0 a1 a2 a3 a4 a5 a6 : Option MV) (x y : Int) (st : List MV) (μ : MM) (G : MG) : ev 60 205 [a0, a1, a2, a3, a4, a5, a6] (vI y :: vI x :: st) μ G = ev 60 206 [a0, a1, a2, a3, a4, a5, a6] (vI (mm_and x y) :: st) μ G := ev_stp pg_60_205 rfl
theorem pg_60_206 : mm_prog 60 206 = some (0, .iload 6, 208, []) := by decide +kernel
theorem xe_60_206 (a0 a1 a2 a3 a4 a5 : Option MV) (x : Int) (st : List MV) (μ : MM) (G : MG) : ev 60 206 [a0, a1, a2, a3, a4, a5, some (vI x)] st μ G = ev 60 208 [a0, a1, a2, a3, a4, a5, some (vI x)] (vI x :: st) μ G := ev_stp pg_60_206 rfl
theorem pg_60_208 : mm_prog 60 208 = some (0, .iconst 3, 209, []) := by decide +kernel
theorem xe_60_208 (a0 a1 a2 a3 a4 a5 a6 : Option MV) (st : List MV) (μ : MM) (G : MG) : ev 60 208 [a0, a1, a2, a3, a4, a5, a6] st μ G = ev 60 209 [a0, a1, a2, a3, a4, a5, a6] (vI (3) :: st) μ G := ev_stp pg_60_208 rfl
theorem pg_60_209 : mm_prog 60 209 = some (0, .iand, 210, []) := by decide +kernel
theorem xe_60_209 (a0 a1 a2 a3 a4 a5 a6 : Option MV) (x y : Int) (st : List MV) (μ : MM) (G : MG) : ev 60 209 [a0, a1, a2, a3, a4, a5, a6] (vI y :: vI x :: st) μ G = ev 60 210 [a0, a1, a2, a3, a4, a5, a6] (vI (mm_and x y) :: st) μ G := ev_stp pg_60_209 rfl
theorem pg_60_210 : mm_prog 60 210 = some (0, .iconst 4, 211, []) := by decide +kernel
theorem xe_60_210 (a0 a1 a2 a3 a4 a5 a6 : Option MV) (st : List MV) (μ : MM) (G : MG) : ev 60 210 [a0, a1, a2, a3, a4, a5, a6] st μ G = ev 60 211 [a0, a1, a2, a3, a4, a5, a6] (vI (4) :: st) μ G := ev_stp pg_60_210 rfl
theorem pg_60_211 : mm_prog 60 211 = some (0, .ishl, 212, []) := by decide +kernel
theorem xe_60_211 (a0 a1 a2 a3 a4 a5 a6 : Option MV) (x y : Int) (st : List MV) (μ : MM) (G : MG) : ev 60 211 [a0, a1, a2, a3, a4, a5, a6] (vI y :: vI x :: st) μ G = ev 60 212 [a0, a1, a2, a3, a4, a5, a6] (vI (mm_shl x y) :: st) μ G := ev_stp pg_60_211 rfl
theorem pg_60_212 : mm_prog 60 212 = some (0, .ior, 213, []) := by decide +kernel
theorem xe_60_212 (a0 a1 a2 a3 a4 a5 a6 : Option MV) (x y : Int) (st : List MV) (μ : MM) (G : MG) : ev 60 212 [a0, a1, a2, a3, a4, a5, a6] (vI y :: vI x :: st) μ G = ev 60 213 [a0, a1, a2, a3, a4, a5, a6] (vI (mm_or x y) :: st) μ G := ev_stp pg_60_212 rfl
theorem pg_60_213 : mm_prog 60 213 = some (0, .putfield 42, 216, [7, 8, 0]) := by decide +kernel
theorem xe_60_213 (a0 a1 a2 a3 a4 a5 a6 : Option MV) (x y : Int) (st : List MV) (μ : MM) (G : MG) : ev 60 213 [a0, a1, a2, a3, a4, a5, a6] (vI x :: vR y :: st) μ G = if gk G y = 7 then ev 60 216 [a0, a1, a2, a3, a4, a5, a6] st (mset μ y 8 x) G else none := ev_put0 pg_60_213
theorem pg_60_216 : mm_prog 60 216 = some (0, .aload_n 0, 217, []) := by decide +kernel
theorem xe_60_216 (a1 a2 a3 a4 a5 a6 : Option MV) (x : Int) (st : List MV) (μ : MM) (G : MG) : ev 60 216 [some (vR x), a1, a2, a3, a4, a5, a6] st μ G = ev 60 217 [some (vR x), a1, a2, a3, a4, a5, a6] (vR x :: st) μ G := ev_stp pg_60_216 rfl
theorem pg_60_217 : mm_prog 60 217 = some (0, .aload_n 1, 218, []) := by decide +kernel
theorem xe_60_217 (a0 a2 a3 a4 a5 a6 : Option MV) (x : Int) (st : List MV) (μ : MM) (G : MG) : ev 60 217 [a0, some (vR x), a2, a3, a4, a5, a6] st μ G = ev 60 218 [a0, some (vR x), a2, a3, a4, a5, a6] (vR x :: st) μ G := ev_stp pg_60_217 rfl
theorem pg_60_218 : mm_prog 60 218 = some (0, .iload_n 2, 219, []) := by decide +kernel
theorem xe_60_218 (a0 a1 a3 a4 a5 a6 : Option MV) (x : Int) (st : List MV) (μ : MM) (G : MG) : ev 60 218 [a0, a1, some (vI x), a3, a4, a5, a6] st μ G = ev 60 219 [a0, a1, some (vI x), a3, a4, a5, a6] (vI x :: st) μ G := ev_stp pg_60_218 rfl
theorem pg_60_219 : mm_prog 60 219 = some (0, .bipush 17, 221, []) := by decide +kernel
theorem xe_60_219 (a0 a1 a2 a3 a4 a5 a6 : Option MV) (st : List MV) (μ : MM) (G : MG) : ev 60 219 [a0, a1, a2, a3, a4, a5, a6] st μ G = ev 60 221 [a0, a1, a2, a3, a4, a5, a6] (vI (17) :: st) μ G := ev_stp pg_60_219 rfl
theorem pg_60_221 : mm_prog 60 221 = some (0, .iadd, 222, []) := by decide +kernel
theorem xe_60_221 (a0 a1 a2 a3 a4 a5 a6 : Option MV) (x y : Int) (st : List MV) (μ : MM) (G : MG) : ev 60 221 [a0, a1, a2, a3, a4, a5, a6] (vI y :: vI x :: st) μ G = ev 60 222 [a0, a1, a2, a3, a4, a5, a6] (vI (w32 (x + y)) :: st) μ G := ev_stp pg_60_221 rfl
theorem pg_60_222 : mm_prog 60 222 = some (1, .invokevirtual 9, 225, [1, 3, 1, 0]) := by decide +kernel
theorem xe_60_222 (a0 a1 a2 a3 a4 a5 a6 : Option MV) (x0 z r0 : Int) (μ : MM) (G : MG) : ev 60 222 [a0, a1, a2, a3, a4, a5, a6] (vI x0 :: vR z :: [vR r0]) μ G = if gk G z = 0 ∧ 0 < z then (ev 3 0 [some (vR z), some (vI x0)] [] μ G).bind (fun q => ev 60 225 [a0, a1, a2, a3, a4, a5, a6] (q.1.toList ++ [vR r0]) q.2.1 q.2.2) else none := ev_calV (as := [vR z, vI x0]) (r := [vR r0]) mx_3 pg_60_222 rfl rfl (Nat.le_of_ble_eq_true rfl) (Nat.le_of_ble_eq_true rfl)
theorem pg_60_225 : mm_prog 60 225 = some (0, .sipush 128, 228, []) := by decide +kernel
theorem xe_60_225 (a0 a1 a2 a3 a4 a5 a6 : Option MV) (st : List MV) (μ : MM) (G : MG) : ev 60 225 [a0, a1, a2, a3, a4, a5, a6] st μ G = ev 60 228 [a0, a1, a2, a3, a4, a5, a6] (vI (128) :: st) μ G := ev_stp pg_60_225 rfl
theorem pg_60_228 : mm_prog 60 228 = some (0, .if_icmp .lt 7, 231, []) := by decide +kernel
theorem xe_60_228 (a0 a1 a2 a3 a4 a5 a6 : Option MV) (x y : Int) (st : List MV) (μ : MM) (G : MG) : ev 60 228 [a0, a1, a2, a3, a4, a5, a6] (vI y :: vI x :: st) μ G = if x < y then ev 60 235 [a0, a1, a2, a3, a4, a5, a6] st μ G else ev 60 231 [a0, a1, a2, a3, a4, a5, a6] st μ G := ev_br (mm_cnd_lt x y) pg_60_228 rfl
theorem pg_60_231 : mm_prog 60 231 = some (0, .iconst 1, 232, []) := by decide +kernel
theorem xe_60_231 (a0 a1 a2 a3 a4 a5 a6 : Option MV) (st : List MV) (μ : MM) (G : MG) : ev 60 231 [a0, a1, a2, a3, a4, a5, a6] st μ G = ev 60 232 [a0, a1, a2, a3, a4, a5, a6] (vI (1) :: st) μ G := ev_stp pg_60_231 rfl
theorem pg_60_232 : mm_prog 60 232 = some (0, .goto 4, 235, []) := by decide +kernel
theorem xe_60_232 (a0 a1 a2 a3 a4 a5 a6 : Option MV) (st : List MV) (μ : MM) (G : MG) : ev 60 232 [a0, a1, a2, a3, a4, a5, a6] st μ G = ev 60 236 [a0, a1, a2, a3, a4, a5, a6] st μ G := ev_stp pg_60_232 rfl
theorem pg_60_235 : mm_prog 60 235 = some (0, .iconst 0, 236, []) := by decide +kernel
theorem xe_60_235 (a0 a1 a2 a3 a4 a5 a6 : Option MV) (st : List MV) (μ : MM) (G : MG) : ev 60 235 [a0, a1, a2, a3, a4, a5, a6] st μ G = ev 60 236 [a0, a1, a2, a3, a4, a5, a6] (vI (0) :: st) μ G := ev_stp pg_60_235 rfl
theorem pg_60_236 : mm_prog 60 236 = some (0, .putfield 45, 239, [7, 9, 1]) := by decide +kernel
theorem xe_60_236 (a0 a1 a2 a3 a4 a5 a6 : Option MV) (x y : Int) (st : List MV) (μ : MM) (G : MG) : ev 60 236 [a0, a1, a2, a3, a4, a5, a6] (vI x :: vR y :: st) μ G = if gk G y = 7 ∧ (x = 0 ∨ x = 1) then ev 60 239 [a0, a1, a2, a3, a4, a5, a6] st (mset μ y 9 x) G else none := ev_put1 pg_60_236
theorem pg_60_239 : mm_prog 60 239 = some (2, .return_, 240, []) := by decide +kernel
theorem xe_60_239 (a0 a1 a2 a3 a4 a5 a6 : Option MV) (μ : MM) (G : MG) : ev 60 239 [a0, a1, a2, a3, a4, a5, a6] [] μ G = some (none, μ, G) := ev_ret pg_60_239 rfl
-- X7_descriptorByte
theorem pg_61_0 : mm_prog 61 0 = some (0, .iload_n 1, 1, []) := by decide +kernel
theorem xe_61_0 (a0 : Option MV) (x : Int) (st : List MV) (μ : MM) (G : MG) : ev 61 0 [a0, some (vI x)] st μ G = ev 61 1 [a0, some (vI x)] (vI x :: st) μ G := ev_stp pg_61_0 rfl
theorem pg_61_1 : mm_prog 61 1 = some (0, .tableswitch 255 0 11 #[63, 75, 90, 99, 108, 132, 141, 150, 174, 183, 192, 210], 64, [256, 0, 64, 1, 76, 2, 91, 3, 100, 4, 109, 5, 133, 6, 142, 7, 151, 8, 175, 9, 184, 10, 193, 11, 211]) := by decide +kernel
theorem xe_61_1 (a0 a1 : Option MV) (x : Int) (st : List MV) (μ : MM) (G : MG) : ev 61 1 [a0, a1] (vI x :: st) μ G = if x = 0 then ev 61 64 [a0, a1] st μ G else if x = 1 then ev 61 76 [a0, a1] st μ G else if x = 2 then ev 61 91 [a0, a1] st μ G else if x = 3 then ev 61 100 [a0, a1] st μ G else if x = 4 then ev 61 109 [a0, a1] st μ G else if x = 5 then ev 61 133 [a0, a1] st μ G else if x = 6 then ev 61 142 [a0, a1] st μ G else if x = 7 then ev 61 151 [a0, a1] st μ G else if x = 8 then ev 61 175 [a0, a1] st μ G else if x = 9 then ev 61 184 [a0, a1] st μ G else if x = 10 then ev 61 193 [a0, a1] st μ G else if x = 11 then ev 61 211 [a0, a1] st μ G else ev 61 256 [a0, a1] st μ G := ev_sw (x := x) (d := 256) (l := [0, 64, 1, 76, 2, 91, 3, 100, 4, 109, 5, 133, 6, 142, 7, 151, 8, 175, 9, 184, 10, 193, 11, 211]) (st' := st) pg_61_1 rfl
theorem pg_61_64 : mm_prog 61 64 = some (0, .aload_n 0, 65, []) := by decide +kernel
theorem xe_61_64 (a1 : Option MV) (x : Int) (st : List MV) (μ : MM) (G : MG) : ev 61 64 [some (vR x), a1] st μ G = ev 61 65 [some (vR x), a1] (vR x :: st) μ G := ev_stp pg_61_64 rfl
theorem pg_61_65 : mm_prog 61 65 = some (0, .getfield 15, 68, [7, 0, 0]) := by decide +kernel
theorem xe_61_65 (a0 a1 : Option MV) (x : Int) (st : List MV) (μ : MM) (G : MG) : ev 61 65 [a0, a1] (vR x :: st) μ G = if gk G x = 7 then ev 61 68 [a0, a1] (vI (μ x 0) :: st) μ G else none := ev_if pg_61_65 rfl
theorem pg_61_68 : mm_prog 61 68 = some (0, .bipush 10, 70, []) := by decide +kernel
theorem xe_61_68 (a0 a1 : Option MV) (st : List MV) (μ : MM) (G : MG) : ev 61 68 [a0, a1] st μ G = ev 61 70 [a0, a1] (vI (10) :: st) μ G := ev_stp pg_61_68 rfl
theorem pg_61_70 : mm_prog 61 70 = some (0, .idiv, 71, []) := by decide +kernel
theorem xe_61_70 (a0 a1 : Option MV) (x y : Int) (st : List MV) (μ : MM) (G : MG) : ev 61 70 [a0, a1] (vI y :: vI x :: st) μ G = if y = 0 then none else ev 61 71 [a0, a1] (vI (mm_div x y) :: st) μ G := ev_no pg_61_70 rfl
theorem pg_61_71 : mm_prog 61 71 = some (0, .sipush 255, 74, []) := by decide +kernel
theorem xe_61_71 (a0 a1 : Option MV) (st : List MV) (μ : MM) (G : MG) : ev 61 71 [a0, a1] st μ G = ev 61 74 [a0, a1] (vI (255) :: st) μ G := ev_stp pg_61_71 rfl
theorem pg_61_74 : mm_prog 61 74 = some (0, .iand, 75, []) := by decide +kernel
theorem xe_61_74 (a0 a1 : Option MV) (x y : Int) (st : List MV) (μ : MM) (G : MG) : ev 61 74 [a0, a1] (vI y :: vI x :: st) μ G = ev 61 75 [a0, a1] (vI (mm_and x y) :: st) μ G := ev_stp pg_61_74 rfl
theorem pg_61_75 : mm_prog 61 75 = some (2, .ireturn, 76, [0]) := by decide +kernel
theorem xe_61_75 (a0 a1 : Option MV) (x : Int) (μ : MM) (G : MG) : ev 61 75 [a0, a1] [vI x] μ G = some (some (vI x), μ, G) := ev_ret pg_61_75 rfl
theorem pg_61_76 : mm_prog 61 76 = some (0, .aload_n 0, 77, []) := by decide +kernel
theorem xe_61_76 (a1 : Option MV) (x : Int) (st : List MV) (μ : MM) (G : MG) : ev 61 76 [some (vR x), a1] st μ G = ev 61 77 [some (vR x), a1] (vR x :: st) μ G := ev_stp pg_61_76 rfl
theorem pg_61_77 : mm_prog 61 77 = some (0, .getfield 15, 80, [7, 0, 0]) := by decide +kernel
theorem xe_61_77 (a0 a1 : Option MV) (x : Int) (st : List MV) (μ : MM) (G : MG) : ev 61 77 [a0, a1] (vR x :: st) μ G = if gk G x = 7 then ev 61 80 [a0, a1] (vI (μ x 0) :: st) μ G else none := ev_if pg_61_77 rfl
theorem pg_61_80 : mm_prog 61 80 = some (0, .bipush 10, 82, []) := by decide +kernel
theorem xe_61_80 (a0 a1 : Option MV) (st : List MV) (μ : MM) (G : MG) : ev 61 80 [a0, a1] st μ G = ev 61 82 [a0, a1] (vI (10) :: st) μ G := ev_stp pg_61_80 rfl
theorem pg_61_82 : mm_prog 61 82 = some (0, .idiv, 83, []) := by decide +kernel
theorem xe_61_82 (a0 a1 : Option MV) (x y : Int) (st : List MV) (μ : MM) (G : MG) : ev 61 82 [a0, a1] (vI y :: vI x :: st) μ G = if y = 0 then none else ev 61 83 [a0, a1] (vI (mm_div x y) :: st) μ G := ev_no pg_61_82 rfl
theorem pg_61_83 : mm_prog 61 83 = some (0, .bipush 8, 85, []) := by decide +kernel
theorem xe_61_83 (a0 a1 : Option MV) (st : List MV) (μ : MM) (G : MG) : ev 61 83 [a0, a1] st μ G = ev 61 85 [a0, a1] (vI (8) :: st) μ G := ev_stp pg_61_83 rfl
theorem pg_61_85 : mm_prog 61 85 = some (0, .ishr, 86, []) := by decide +kernel
theorem xe_61_85 (a0 a1 : Option MV) (x y : Int) (st : List MV) (μ : MM) (G : MG) : ev 61 85 [a0, a1] (vI y :: vI x :: st) μ G = ev 61 86 [a0, a1] (vI (mm_shr x y) :: st) μ G := ev_stp pg_61_85 rfl
theorem pg_61_86 : mm_prog 61 86 = some (0, .sipush 255, 89, []) := by decide +kernel
theorem xe_61_86 (a0 a1 : Option MV) (st : List MV) (μ : MM) (G : MG) : ev 61 86 [a0, a1] st μ G = ev 61 89 [a0, a1] (vI (255) :: st) μ G := ev_stp pg_61_86 rfl
theorem pg_61_89 : mm_prog 61 89 = some (0, .iand, 90, []) := by decide +kernel
theorem xe_61_89 (a0 a1 : Option MV) (x y : Int) (st : List MV) (μ : MM) (G : MG) : ev 61 89 [a0, a1] (vI y :: vI x :: st) μ G = ev 61 90 [a0, a1] (vI (mm_and x y) :: st) μ G := ev_stp pg_61_89 rfl
theorem pg_61_90 : mm_prog 61 90 = some (2, .ireturn, 91, [0]) := by decide +kernel
theorem xe_61_90 (a0 a1 : Option MV) (x : Int) (μ : MM) (G : MG) : ev 61 90 [a0, a1] [vI x] μ G = some (some (vI x), μ, G) := ev_ret pg_61_90 rfl
theorem pg_61_91 : mm_prog 61 91 = some (0, .aload_n 0, 92, []) := by decide +kernel
theorem xe_61_91 (a1 : Option MV) (x : Int) (st : List MV) (μ : MM) (G : MG) : ev 61 91 [some (vR x), a1] st μ G = ev 61 92 [some (vR x), a1] (vR x :: st) μ G := ev_stp pg_61_91 rfl
theorem pg_61_92 : mm_prog 61 92 = some (0, .getfield 21, 95, [7, 1, 0]) := by decide +kernel
theorem xe_61_92 (a0 a1 : Option MV) (x : Int) (st : List MV) (μ : MM) (G : MG) : ev 61 92 [a0, a1] (vR x :: st) μ G = if gk G x = 7 then ev 61 95 [a0, a1] (vI (μ x 1) :: st) μ G else none := ev_if pg_61_92 rfl
theorem pg_61_95 : mm_prog 61 95 = some (0, .sipush 255, 98, []) := by decide +kernel
theorem xe_61_95 (a0 a1 : Option MV) (st : List MV) (μ : MM) (G : MG) : ev 61 95 [a0, a1] st μ G = ev 61 98 [a0, a1] (vI (255) :: st) μ G := ev_stp pg_61_95 rfl
theorem pg_61_98 : mm_prog 61 98 = some (0, .iand, 99, []) := by decide +kernel
theorem xe_61_98 (a0 a1 : Option MV) (x y : Int) (st : List MV) (μ : MM) (G : MG) : ev 61 98 [a0, a1] (vI y :: vI x :: st) μ G = ev 61 99 [a0, a1] (vI (mm_and x y) :: st) μ G := ev_stp pg_61_98 rfl
theorem pg_61_99 : mm_prog 61 99 = some (2, .ireturn, 100, [0]) := by decide +kernel
theorem xe_61_99 (a0 a1 : Option MV) (x : Int) (μ : MM) (G : MG) : ev 61 99 [a0, a1] [vI x] μ G = some (some (vI x), μ, G) := ev_ret pg_61_99 rfl
theorem pg_61_100 : mm_prog 61 100 = some (0, .aload_n 0, 101, []) := by decide +kernel
theorem xe_61_100 (a1 : Option MV) (x : Int) (st : List MV) (μ : MM) (G : MG) : ev 61 100 [some (vR x), a1] st μ G = ev 61 101 [some (vR x), a1] (vR x :: st) μ G := ev_stp pg_61_100 rfl
theorem pg_61_101 : mm_prog 61 101 = some (0, .getfield 24, 104, [7, 2, 0]) := by decide +kernel
theorem xe_61_101 (a0 a1 : Option MV) (x : Int) (st : List MV) (μ : MM) (G : MG) : ev 61 101 [a0, a1] (vR x :: st) μ G = if gk G x = 7 then ev 61 104 [a0, a1] (vI (μ x 2) :: st) μ G else none := ev_if pg_61_101 rfl
theorem pg_61_104 : mm_prog 61 104 = some (0, .sipush 255, 107, []) := by decide +kernel
theorem xe_61_104 (a0 a1 : Option MV) (st : List MV) (μ : MM) (G : MG) : ev 61 104 [a0, a1] st μ G = ev 61 107 [a0, a1] (vI (255) :: st) μ G := ev_stp pg_61_104 rfl
theorem pg_61_107 : mm_prog 61 107 = some (0, .iand, 108, []) := by decide +kernel
theorem xe_61_107 (a0 a1 : Option MV) (x y : Int) (st : List MV) (μ : MM) (G : MG) : ev 61 107 [a0, a1] (vI y :: vI x :: st) μ G = ev 61 108 [a0, a1] (vI (mm_and x y) :: st) μ G := ev_stp pg_61_107 rfl
theorem pg_61_108 : mm_prog 61 108 = some (2, .ireturn, 109, [0]) := by decide +kernel
theorem xe_61_108 (a0 a1 : Option MV) (x : Int) (μ : MM) (G : MG) : ev 61 108 [a0, a1] [vI x] μ G = some (some (vI x), μ, G) := ev_ret pg_61_108 rfl
theorem pg_61_109 : mm_prog 61 109 = some (0, .aload_n 0, 110, []) := by decide +kernel
theorem xe_61_109 (a1 : Option MV) (x : Int) (st : List MV) (μ : MM) (G : MG) : ev 61 109 [some (vR x), a1] st μ G = ev 61 110 [some (vR x), a1] (vR x :: st) μ G := ev_stp pg_61_109 rfl
theorem pg_61_110 : mm_prog 61 110 = some (0, .getfield 21, 113, [7, 1, 0]) := by decide +kernel
theorem xe_61_110 (a0 a1 : Option MV) (x : Int) (st : List MV) (μ : MM) (G : MG) : ev 61 110 [a0, a1] (vR x :: st) μ G = if gk G x = 7 then ev 61 113 [a0, a1] (vI (μ x 1) :: st) μ G else none := ev_if pg_61_110 rfl
theorem pg_61_113 : mm_prog 61 113 = some (0, .bipush 8, 115, []) := by decide +kernel
theorem xe_61_113 (a0 a1 : Option MV) (st : List MV) (μ : MM) (G : MG) : ev 61 113 [a0, a1] st μ G = ev 61 115 [a0, a1] (vI (8) :: st) μ G := ev_stp pg_61_113 rfl
theorem pg_61_115 : mm_prog 61 115 = some (0, .ishr, 116, []) := by decide +kernel
theorem xe_61_115 (a0 a1 : Option MV) (x y : Int) (st : List MV) (μ : MM) (G : MG) : ev 61 115 [a0, a1] (vI y :: vI x :: st) μ G = ev 61 116 [a0, a1] (vI (mm_shr x y) :: st) μ G := ev_stp pg_61_115 rfl
theorem pg_61_116 : mm_prog 61 116 = some (0, .bipush 15, 118, []) := by decide +kernel
theorem xe_61_116 (a0 a1 : Option MV) (st : List MV) (μ : MM) (G : MG) : ev 61 116 [a0, a1] st μ G = ev 61 118 [a0, a1] (vI (15) :: st) μ G := ev_stp pg_61_116 rfl
theorem pg_61_118 : mm_prog 61 118 = some (0, .iand, 119, []) := by decide +kernel
theorem xe_61_118 (a0 a1 : Option MV) (x y : Int) (st : List MV) (μ : MM) (G : MG) : ev 61 118 [a0, a1] (vI y :: vI x :: st) μ G = ev 61 119 [a0, a1] (vI (mm_and x y) :: st) μ G := ev_stp pg_61_118 rfl
theorem pg_61_119 : mm_prog 61 119 = some (0, .iconst 4, 120, []) := by decide +kernel
theorem xe_61_119 (a0 a1 : Option MV) (st : List MV) (μ : MM) (G : MG) : ev 61 119 [a0, a1] st μ G = ev 61 120 [a0, a1] (vI (4) :: st) μ G := ev_stp pg_61_119 rfl
theorem pg_61_120 : mm_prog 61 120 = some (0, .ishl, 121, []) := by decide +kernel
theorem xe_61_120 (a0 a1 : Option MV) (x y : Int) (st : List MV) (μ : MM) (G : MG) : ev 61 120 [a0, a1] (vI y :: vI x :: st) μ G = ev 61 121 [a0, a1] (vI (mm_shl x y) :: st) μ G := ev_stp pg_61_120 rfl
theorem pg_61_121 : mm_prog 61 121 = some (0, .aload_n 0, 122, []) := by decide +kernel
theorem xe_61_121 (a1 : Option MV) (x : Int) (st : List MV) (μ : MM) (G : MG) : ev 61 121 [some (vR x), a1] st μ G = ev 61 122 [some (vR x), a1] (vR x :: st) μ G := ev_stp pg_61_121 rfl
theorem pg_61_122 : mm_prog 61 122 = some (0, .getfield 24, 125, [7, 2, 0]) := by decide +kernel
theorem xe_61_122 (a0 a1 : Option MV) (x : Int) (st : List MV) (μ : MM) (G : MG) : ev 61 122 [a0, a1] (vR x :: st) μ G = if gk G x = 7 then ev 61 125 [a0, a1] (vI (μ x 2) :: st) μ G else none := ev_if pg_61_122 rfl
theorem pg_61_125 : mm_prog 61 125 = some (0, .bipush 8, 127, []) := by decide +kernel
theorem xe_61_125 (a0 a1 : Option MV) (st : List MV) (μ : MM) (G : MG) : ev 61 125 [a0, a1] st μ G = ev 61 127 [a0, a1] (vI (8) :: st) μ G := ev_stp pg_61_125 rfl
theorem pg_61_127 : mm_prog 61 127 = some (0, .ishr, 128, []) := by decide +kernel
theorem xe_61_127 (a0 a1 : Option MV) (x y : Int) (st : List MV) (μ : MM) (G : MG) : ev 61 127 [a0, a1] (vI y :: vI x :: st) μ G = ev 61 128 [a0, a1] (vI (mm_shr x y) :: st) μ G := ev_stp pg_61_127 rfl
theorem pg_61_128 : mm_prog 61 128 = some (0, .bipush 15, 130, []) := by decide +kernel
theorem xe_61_128 (a0 a1 : Option MV) (st : List MV) (μ : MM) (G : MG) : ev 61 128 [a0, a1] st μ G = ev 61 130 [a0, a1] (vI (15) :: st) μ G := ev_stp pg_61_128 rfl
theorem pg_61_130 : mm_prog 61 130 = some (0, .iand, 131, []) := by decide +kernel
theorem xe_61_130 (a0 a1 : Option MV) (x y : Int) (st : List MV) (μ : MM) (G : MG) : ev 61 130 [a0, a1] (vI y :: vI x :: st) μ G = ev 61 131 [a0, a1] (vI (mm_and x y) :: st) μ G := ev_stp pg_61_130 rfl
theorem pg_61_131 : mm_prog 61 131 = some (0, .ior, 132, []) := by decide +kernel
theorem xe_61_131 (a0 a1 : Option MV) (x y : Int) (st : List MV) (μ : MM) (G : MG) : ev 61 131 [a0, a1] (vI y :: vI x :: st) μ G = ev 61 132 [a0, a1] (vI (mm_or x y) :: st) μ G := ev_stp pg_61_131 rfl
theorem pg_61_132 : mm_prog 61 132 = some (2, .ireturn, 133, [0]) := by decide +kernel
theorem xe_61_132 (a0 a1 : Option MV) (x : Int) (μ : MM) (G : MG) : ev 61 132 [a0, a1] [vI x] μ G = some (some (vI x), μ, G) := ev_ret pg_61_132 rfl
theorem pg_61_133 : mm_prog 61 133 = some (0, .aload_n 0, 134, []) := by decide +kernel
theorem xe_61_133 (a1 : Option MV) (x : Int) (st : List MV) (μ : MM) (G : MG) : ev 61 133 [some (vR x), a1] st μ G = ev 61 134 [some (vR x), a1] (vR x :: st) μ G := ev_stp pg_61_133 rfl
theorem pg_61_134 : mm_prog 61 134 = some (0, .getfield 27, 137, [7, 5, 0]) := by decide +kernel
theorem xe_61_134 (a0 a1 : Option MV) (x : Int) (st : List MV) (μ : MM) (G : MG) : ev 61 134 [a0, a1] (vR x :: st) μ G = if gk G x = 7 then ev 61 137 [a0, a1] (vI (μ x 5) :: st) μ G else none := ev_if pg_61_134 rfl
theorem pg_61_137 : mm_prog 61 137 = some (0, .sipush 255, 140, []) := by decide +kernel
theorem xe_61_137 (a0 a1 : Option MV) (st : List MV) (μ : MM) (G : MG) : ev 61 137 [a0, a1] st μ G = ev 61 140 [a0, a1] (vI (255) :: st) μ G := ev_stp pg_61_137 rfl
theorem pg_61_140 : mm_prog 61 140 = some (0, .iand, 141, []) := by decide +kernel
theorem xe_61_140 (a0 a1 : Option MV) (x y : Int) (st : List MV) (μ : MM) (G : MG) : ev 61 140 [a0, a1] (vI y :: vI x :: st) μ G = ev 61 141 [a0, a1] (vI (mm_and x y) :: st) μ G := ev_stp pg_61_140 rfl
theorem pg_61_141 : mm_prog 61 141 = some (2, .ireturn, 142, [0]) := by decide +kernel
theorem xe_61_141 (a0 a1 : Option MV) (x : Int) (μ : MM) (G : MG) : ev 61 141 [a0, a1] [vI x] μ G = some (some (vI x), μ, G) := ev_ret pg_61_141 rfl
theorem pg_61_142 : mm_prog 61 142 = some (0, .aload_n 0, 143, []) := by decide +kernel
theorem xe_61_142 (a1 : Option MV) (x : Int) (st : List MV) (μ : MM) (G : MG) : ev 61 142 [some (vR x), a1] st μ G = ev 61 143 [some (vR x), a1] (vR x :: st) μ G := ev_stp pg_61_142 rfl
theorem pg_61_143 : mm_prog 61 143 = some (0, .getfield 30, 146, [7, 6, 0]) := by decide +kernel
theorem xe_61_143 (a0 a1 : Option MV) (x : Int) (st : List MV) (μ : MM) (G : MG) : ev 61 143 [a0, a1] (vR x :: st) μ G = if gk G x = 7 then ev 61 146 [a0, a1] (vI (μ x 6) :: st) μ G else none := ev_if pg_61_143 rfl
theorem pg_61_146 : mm_prog 61 146 = some (0, .sipush 255, 149, []) := by decide +kernel
theorem xe_61_146 (a0 a1 : Option MV) (st : List MV) (μ : MM) (G : MG) : ev 61 146 [a0, a1] st μ G = ev 61 149 [a0, a1] (vI (255) :: st) μ G := ev_stp pg_61_146 rfl
theorem pg_61_149 : mm_prog 61 149 = some (0, .iand, 150, []) := by decide +kernel
theorem xe_61_149 (a0 a1 : Option MV) (x y : Int) (st : List MV) (μ : MM) (G : MG) : ev 61 149 [a0, a1] (vI y :: vI x :: st) μ G = ev 61 150 [a0, a1] (vI (mm_and x y) :: st) μ G := ev_stp pg_61_149 rfl
theorem pg_61_150 : mm_prog 61 150 = some (2, .ireturn, 151, [0]) := by decide +kernel
theorem xe_61_150 (a0 a1 : Option MV) (x : Int) (μ : MM) (G : MG) : ev 61 150 [a0, a1] [vI x] μ G = some (some (vI x), μ, G) := ev_ret pg_61_150 rfl
theorem pg_61_151 : mm_prog 61 151 = some (0, .aload_n 0, 152, []) := by decide +kernel
theorem xe_61_151 (a1 : Option MV) (x : Int) (st : List MV) (μ : MM) (G : MG) : ev 61 151 [some (vR x), a1] st μ G = ev 61 152 [some (vR x), a1] (vR x :: st) μ G := ev_stp pg_61_151 rfl
theorem pg_61_152 : mm_prog 61 152 = some (0, .getfield 27, 155, [7, 5, 0]) := by decide +kernel
theorem xe_61_152 (a0 a1 : Option MV) (x : Int) (st : List MV) (μ : MM) (G : MG) : ev 61 152 [a0, a1] (vR x :: st) μ G = if gk G x = 7 then ev 61 155 [a0, a1] (vI (μ x 5) :: st) μ G else none := ev_if pg_61_152 rfl
theorem pg_61_155 : mm_prog 61 155 = some (0, .bipush 8, 157, []) := by decide +kernel
theorem xe_61_155 (a0 a1 : Option MV) (st : List MV) (μ : MM) (G : MG) : ev 61 155 [a0, a1] st μ G = ev 61 157 [a0, a1] (vI (8) :: st) μ G := ev_stp pg_61_155 rfl
theorem pg_61_157 : mm_prog 61 157 = some (0, .ishr, 158, []) := by decide +kernel
theorem xe_61_157 (a0 a1 : Option MV) (x y : Int) (st : List MV) (μ : MM) (G : MG) : ev 61 157 [a0, a1] (vI y :: vI x :: st) μ G = ev 61 158 [a0, a1] (vI (mm_shr x y) :: st) μ G := ev_stp pg_61_157 rfl
theorem pg_61_158 : mm_prog 61 158 = some (0, .bipush 15, 160, []) := by decide +kernel
theorem xe_61_158 (a0 a1 : Option MV) (st : List MV) (μ : MM) (G : MG) : ev 61 158 [a0, a1] st μ G = ev 61 160 [a0, a1] (vI (15) :: st) μ G := ev_stp pg_61_158 rfl
theorem pg_61_160 : mm_prog 61 160 = some (0, .iand, 161, []) := by decide +kernel
theorem xe_61_160 (a0 a1 : Option MV) (x y : Int) (st : List MV) (μ : MM) (G : MG) : ev 61 160 [a0, a1] (vI y :: vI x :: st) μ G = ev 61 161 [a0, a1] (vI (mm_and x y) :: st) μ G := ev_stp pg_61_160 rfl
theorem pg_61_161 : mm_prog 61 161 = some (0, .iconst 4, 162, []) := by decide +kernel
theorem xe_61_161 (a0 a1 : Option MV) (st : List MV) (μ : MM) (G : MG) : ev 61 161 [a0, a1] st μ G = ev 61 162 [a0, a1] (vI (4) :: st) μ G := ev_stp pg_61_161 rfl
theorem pg_61_162 : mm_prog 61 162 = some (0, .ishl, 163, []) := by decide +kernel
theorem xe_61_162 (a0 a1 : Option MV) (x y : Int) (st : List MV) (μ : MM) (G : MG) : ev 61 162 [a0, a1] (vI y :: vI x :: st) μ G = ev 61 163 [a0, a1] (vI (mm_shl x y) :: st) μ G := ev_stp pg_61_162 rfl
theorem pg_61_163 : mm_prog 61 163 = some (0, .aload_n 0, 164, []) := by decide +kernel
theorem xe_61_163 (a1 : Option MV) (x : Int) (st : List MV) (μ : MM) (G : MG) : ev 61 163 [some (vR x), a1] st μ G = ev 61 164 [some (vR x), a1] (vR x :: st) μ G := ev_stp pg_61_163 rfl
theorem pg_61_164 : mm_prog 61 164 = some (0, .getfield 30, 167, [7, 6, 0]) := by decide +kernel
theorem xe_61_164 (a0 a1 : Option MV) (x : Int) (st : List MV) (μ : MM) (G : MG) : ev 61 164 [a0, a1] (vR x :: st) μ G = if gk G x = 7 then ev 61 167 [a0, a1] (vI (μ x 6) :: st) μ G else none := ev_if pg_61_164 rfl
theorem pg_61_167 : mm_prog 61 167 = some (0, .bipush 8, 169, []) := by decide +kernel
theorem xe_61_167 (a0 a1 : Option MV) (st : List MV) (μ : MM) (G : MG) : ev 61 167 [a0, a1] st μ G = ev 61 169 [a0, a1] (vI (8) :: st) μ G := ev_stp pg_61_167 rfl
theorem pg_61_169 : mm_prog 61 169 = some (0, .ishr, 170, []) := by decide +kernel
theorem xe_61_169 (a0 a1 : Option MV) (x y : Int) (st : List MV) (μ : MM) (G : MG) : ev 61 169 [a0, a1] (vI y :: vI x :: st) μ G = ev 61 170 [a0, a1] (vI (mm_shr x y) :: st) μ G := ev_stp pg_61_169 rfl
theorem pg_61_170 : mm_prog 61 170 = some (0, .bipush 15, 172, []) := by decide +kernel
theorem xe_61_170 (a0 a1 : Option MV) (st : List MV) (μ : MM) (G : MG) : ev 61 170 [a0, a1] st μ G = ev 61 172 [a0, a1] (vI (15) :: st) μ G := ev_stp pg_61_170 rfl
theorem pg_61_172 : mm_prog 61 172 = some (0, .iand, 173, []) := by decide +kernel
theorem xe_61_172 (a0 a1 : Option MV) (x y : Int) (st : List MV) (μ : MM) (G : MG) : ev 61 172 [a0, a1] (vI y :: vI x :: st) μ G = ev 61 173 [a0, a1] (vI (mm_and x y) :: st) μ G := ev_stp pg_61_172 rfl
theorem pg_61_173 : mm_prog 61 173 = some (0, .ior, 174, []) := by decide +kernel
theorem xe_61_173 (a0 a1 : Option MV) (x y : Int) (st : List MV) (μ : MM) (G : MG) : ev 61 173 [a0, a1] (vI y :: vI x :: st) μ G = ev 61 174 [a0, a1] (vI (mm_or x y) :: st) μ G := ev_stp pg_61_173 rfl
theorem pg_61_174 : mm_prog 61 174 = some (2, .ireturn, 175, [0]) := by decide +kernel
theorem xe_61_174 (a0 a1 : Option MV) (x : Int) (μ : MM) (G : MG) : ev 61 174 [a0, a1] [vI x] μ G = some (some (vI x), μ, G) := ev_ret pg_61_174 rfl
theorem pg_61_175 : mm_prog 61 175 = some (0, .aload_n 0, 176, []) := by decide +kernel
theorem xe_61_175 (a1 : Option MV) (x : Int) (st : List MV) (μ : MM) (G : MG) : ev 61 175 [some (vR x), a1] st μ G = ev 61 176 [some (vR x), a1] (vR x :: st) μ G := ev_stp pg_61_175 rfl
theorem pg_61_176 : mm_prog 61 176 = some (0, .getfield 33, 179, [7, 3, 0]) := by decide +kernel
theorem xe_61_176 (a0 a1 : Option MV) (x : Int) (st : List MV) (μ : MM) (G : MG) : ev 61 176 [a0, a1] (vR x :: st) μ G = if gk G x = 7 then ev 61 179 [a0, a1] (vI (μ x 3) :: st) μ G else none := ev_if pg_61_176 rfl
theorem pg_61_179 : mm_prog 61 179 = some (0, .sipush 255, 182, []) := by decide +kernel
theorem xe_61_179 (a0 a1 : Option MV) (st : List MV) (μ : MM) (G : MG) : ev 61 179 [a0, a1] st μ G = ev 61 182 [a0, a1] (vI (255) :: st) μ G := ev_stp pg_61_179 rfl
theorem pg_61_182 : mm_prog 61 182 = some (0, .iand, 183, []) := by decide +kernel
theorem xe_61_182 (a0 a1 : Option MV) (x y : Int) (st : List MV) (μ : MM) (G : MG) : ev 61 182 [a0, a1] (vI y :: vI x :: st) μ G = ev 61 183 [a0, a1] (vI (mm_and x y) :: st) μ G := ev_stp pg_61_182 rfl
theorem pg_61_183 : mm_prog 61 183 = some (2, .ireturn, 184, [0]) := by decide +kernel
theorem xe_61_183 (a0 a1 : Option MV) (x : Int) (μ : MM) (G : MG) : ev 61 183 [a0, a1] [vI x] μ G = some (some (vI x), μ, G) := ev_ret pg_61_183 rfl
theorem pg_61_184 : mm_prog 61 184 = some (0, .aload_n 0, 185, []) := by decide +kernel
theorem xe_61_184 (a1 : Option MV) (x : Int) (st : List MV) (μ : MM) (G : MG) : ev 61 184 [some (vR x), a1] st μ G = ev 61 185 [some (vR x), a1] (vR x :: st) μ G := ev_stp pg_61_184 rfl
theorem pg_61_185 : mm_prog 61 185 = some (0, .getfield 36, 188, [7, 4, 0]) := by decide +kernel
theorem xe_61_185 (a0 a1 : Option MV) (x : Int) (st : List MV) (μ : MM) (G : MG) : ev 61 185 [a0, a1] (vR x :: st) μ G = if gk G x = 7 then ev 61 188 [a0, a1] (vI (μ x 4) :: st) μ G else none := ev_if pg_61_185 rfl
theorem pg_61_188 : mm_prog 61 188 = some (0, .sipush 255, 191, []) := by decide +kernel
theorem xe_61_188 (a0 a1 : Option MV) (st : List MV) (μ : MM) (G : MG) : ev 61 188 [a0, a1] st μ G = ev 61 191 [a0, a1] (vI (255) :: st) μ G := ev_stp pg_61_188 rfl
theorem pg_61_191 : mm_prog 61 191 = some (0, .iand, 192, []) := by decide +kernel
theorem xe_61_191 (a0 a1 : Option MV) (x y : Int) (st : List MV) (μ : MM) (G : MG) : ev 61 191 [a0, a1] (vI y :: vI x :: st) μ G = ev 61 192 [a0, a1] (vI (mm_and x y) :: st) μ G := ev_stp pg_61_191 rfl
theorem pg_61_192 : mm_prog 61 192 = some (2, .ireturn, 193, [0]) := by decide +kernel
theorem xe_61_192 (a0 a1 : Option MV) (x : Int) (μ : MM) (G : MG) : ev 61 192 [a0, a1] [vI x] μ G = some (some (vI x), μ, G) := ev_ret pg_61_192 rfl
theorem pg_61_193 : mm_prog 61 193 = some (0, .aload_n 0, 194, []) := by decide +kernel
theorem xe_61_193 (a1 : Option MV) (x : Int) (st : List MV) (μ : MM) (G : MG) : ev 61 193 [some (vR x), a1] st μ G = ev 61 194 [some (vR x), a1] (vR x :: st) μ G := ev_stp pg_61_193 rfl
theorem pg_61_194 : mm_prog 61 194 = some (0, .getfield 39, 197, [7, 7, 0]) := by decide +kernel
theorem xe_61_194 (a0 a1 : Option MV) (x : Int) (st : List MV) (μ : MM) (G : MG) : ev 61 194 [a0, a1] (vR x :: st) μ G = if gk G x = 7 then ev 61 197 [a0, a1] (vI (μ x 7) :: st) μ G else none := ev_if pg_61_194 rfl
theorem pg_61_197 : mm_prog 61 197 = some (0, .bipush 15, 199, []) := by decide +kernel
theorem xe_61_197 (a0 a1 : Option MV) (st : List MV) (μ : MM) (G : MG) : ev 61 197 [a0, a1] st μ G = ev 61 199 [a0, a1] (vI (15) :: st) μ G := ev_stp pg_61_197 rfl
theorem pg_61_199 : mm_prog 61 199 = some (0, .iand, 200, []) := by decide +kernel
theorem xe_61_199 (a0 a1 : Option MV) (x y : Int) (st : List MV) (μ : MM) (G : MG) : ev 61 199 [a0, a1] (vI y :: vI x :: st) μ G = ev 61 200 [a0, a1] (vI (mm_and x y) :: st) μ G := ev_stp pg_61_199 rfl
theorem pg_61_200 : mm_prog 61 200 = some (0, .iconst 4, 201, []) := by decide +kernel
theorem xe_61_200 (a0 a1 : Option MV) (st : List MV) (μ : MM) (G : MG) : ev 61 200 [a0, a1] st μ G = ev 61 201 [a0, a1] (vI (4) :: st) μ G := ev_stp pg_61_200 rfl
theorem pg_61_201 : mm_prog 61 201 = some (0, .ishl, 202, []) := by decide +kernel
theorem xe_61_201 (a0 a1 : Option MV) (x y : Int) (st : List MV) (μ : MM) (G : MG) : ev 61 201 [a0, a1] (vI y :: vI x :: st) μ G = ev 61 202 [a0, a1] (vI (mm_shl x y) :: st) μ G := ev_stp pg_61_201 rfl
theorem pg_61_202 : mm_prog 61 202 = some (0, .aload_n 0, 203, []) := by decide +kernel
theorem xe_61_202 (a1 : Option MV) (x : Int) (st : List MV) (μ : MM) (G : MG) : ev 61 202 [some (vR x), a1] st μ G = ev 61 203 [some (vR x), a1] (vR x :: st) μ G := ev_stp pg_61_202 rfl
theorem pg_61_203 : mm_prog 61 203 = some (0, .getfield 42, 206, [7, 8, 0]) := by decide +kernel
theorem xe_61_203 (a0 a1 : Option MV) (x : Int) (st : List MV) (μ : MM) (G : MG) : ev 61 203 [a0, a1] (vR x :: st) μ G = if gk G x = 7 then ev 61 206 [a0, a1] (vI (μ x 8) :: st) μ G else none := ev_if pg_61_203 rfl
theorem pg_61_206 : mm_prog 61 206 = some (0, .bipush 15, 208, []) := by decide +kernel
theorem xe_61_206 (a0 a1 : Option MV) (st : List MV) (μ : MM) (G : MG) : ev 61 206 [a0, a1] st μ G = ev 61 208 [a0, a1] (vI (15) :: st) μ G := ev_stp pg_61_206 rfl
theorem pg_61_208 : mm_prog 61 208 = some (0, .iand, 209, []) := by decide +kernel
theorem xe_61_208 (a0 a1 : Option MV) (x y : Int) (st : List MV) (μ : MM) (G : MG) : ev 61 208 [a0, a1] (vI y :: vI x :: st) μ G = ev 61 209 [a0, a1] (vI (mm_and x y) :: st) μ G := ev_stp pg_61_208 rfl
theorem pg_61_209 : mm_prog 61 209 = some (0, .ior, 210, []) := by decide +kernel
theorem xe_61_209 (a0 a1 : Option MV) (x y : Int) (st : List MV) (μ : MM) (G : MG) : ev 61 209 [a0, a1] (vI y :: vI x :: st) μ G = ev 61 210 [a0, a1] (vI (mm_or x y) :: st) μ G := ev_stp pg_61_209 rfl
theorem pg_61_210 : mm_prog 61 210 = some (2, .ireturn, 211, [0]) := by decide +kernel
theorem xe_61_210 (a0 a1 : Option MV) (x : Int) (μ : MM) (G : MG) : ev 61 210 [a0, a1] [vI x] μ G = some (some (vI x), μ, G) := ev_ret pg_61_210 rfl
theorem pg_61_211 : mm_prog 61 211 = some (0, .aload_n 0, 212, []) := by decide +kernel
theorem xe_61_211 (a1 : Option MV) (x : Int) (st : List MV) (μ : MM) (G : MG) : ev 61 211 [some (vR x), a1] st μ G = ev 61 212 [some (vR x), a1] (vR x :: st) μ G := ev_stp pg_61_211 rfl
theorem pg_61_212 : mm_prog 61 212 = some (0, .getfield 33, 215, [7, 3, 0]) := by decide +kernel
theorem xe_61_212 (a0 a1 : Option MV) (x : Int) (st : List MV) (μ : MM) (G : MG) : ev 61 212 [a0, a1] (vR x :: st) μ G = if gk G x = 7 then ev 61 215 [a0, a1] (vI (μ x 3) :: st) μ G else none := ev_if pg_61_212 rfl
theorem pg_61_215 : mm_prog 61 215 = some (0, .bipush 8, 217, []) := by decide +kernel
theorem xe_61_215 (a0 a1 : Option MV) (st : List MV) (μ : MM) (G : MG) : ev 61 215 [a0, a1] st μ G = ev 61 217 [a0, a1] (vI (8) :: st) μ G := ev_stp pg_61_215 rfl
theorem pg_61_217 : mm_prog 61 217 = some (0, .ishr, 218, []) := by decide +kernel
theorem xe_61_217 (a0 a1 : Option MV) (x y : Int) (st : List MV) (μ : MM) (G : MG) : ev 61 217 [a0, a1] (vI y :: vI x :: st) μ G = ev 61 218 [a0, a1] (vI (mm_shr x y) :: st) μ G := ev_stp pg_61_217 rfl
theorem pg_61_218 : mm_prog 61 218 = some (0, .iconst 3, 219, []) := by decide +kernel
theorem xe_61_218 (a0 a1 : Option MV) (st : List MV) (μ : MM) (G : MG) : ev 61 218 [a0, a1] st μ G = ev 61 219 [a0, a1] (vI (3) :: st) μ G := ev_stp pg_61_218 rfl
theorem pg_61_219 : mm_prog 61 219 = some (0, .iand, 220, []) := by decide +kernel
theorem xe_61_219 (a0 a1 : Option MV) (x y : Int) (st : List MV) (μ : MM) (G : MG) : ev 61 219 [a0, a1] (vI y :: vI x :: st) μ G = ev 61 220 [a0, a1] (vI (mm_and x y) :: st) μ G := ev_stp pg_61_219 rfl
theorem pg_61_220 : mm_prog 61 220 = some (0, .bipush 6, 222, []) := by decide +kernel
theorem xe_61_220 (a0 a1 : Option MV) (st : List MV) (μ : MM) (G : MG) : ev 61 220 [a0, a1] st μ G = ev 61 222 [a0, a1] (vI (6) :: st) μ G := ev_stp pg_61_220 rfl
theorem pg_61_222 : mm_prog 61 222 = some (0, .ishl, 223, []) := by decide +kernel
theorem xe_61_222 (a0 a1 : Option MV) (x y : Int) (st : List MV) (μ : MM) (G : MG) : ev 61 222 [a0, a1] (vI y :: vI x :: st) μ G = ev 61 223 [a0, a1] (vI (mm_shl x y) :: st) μ G := ev_stp pg_61_222 rfl
theorem pg_61_223 : mm_prog 61 223 = some (0, .aload_n 0, 224, []) := by decide +kernel
theorem xe_61_223 (a1 : Option MV) (x : Int) (st : List MV) (μ : MM) (G : MG) : ev 61 223 [some (vR x), a1] st μ G = ev 61 224 [some (vR x), a1] (vR x :: st) μ G := ev_stp pg_61_223 rfl
theorem pg_61_224 : mm_prog 61 224 = some (0, .getfield 36, 227, [7, 4, 0]) := by decide +kernel
theorem xe_61_224 (a0 a1 : Option MV) (x : Int) (st : List MV) (μ : MM) (G : MG) : ev 61 224 [a0, a1] (vR x :: st) μ G = if gk G x = 7 then ev 61 227 [a0, a1] (vI (μ x 4) :: st) μ G else none := ev_if pg_61_224 rfl
theorem pg_61_227 : mm_prog 61 227 = some (0, .bipush 8, 229, []) := by decide +kernel
theorem xe_61_227 (a0 a1 : Option MV) (st : List MV) (μ : MM) (G : MG) : ev 61 227 [a0, a1] st μ G = ev 61 229 [a0, a1] (vI (8) :: st) μ G := ev_stp pg_61_227 rfl
theorem pg_61_229 : mm_prog 61 229 = some (0, .ishr, 230, []) := by decide +kernel
theorem xe_61_229 (a0 a1 : Option MV) (x y : Int) (st : List MV) (μ : MM) (G : MG) : ev 61 229 [a0, a1] (vI y :: vI x :: st) μ G = ev 61 230 [a0, a1] (vI (mm_shr x y) :: st) μ G := ev_stp pg_61_229 rfl
theorem pg_61_230 : mm_prog 61 230 = some (0, .iconst 3, 231, []) := by decide +kernel
theorem xe_61_230 (a0 a1 : Option MV) (st : List MV) (μ : MM) (G : MG) : ev 61 230 [a0, a1] st μ G = ev 61 231 [a0, a1] (vI (3) :: st) μ G := ev_stp pg_61_230 rfl
theorem pg_61_231 : mm_prog 61 231 = some (0, .iand, 232, []) := by decide +kernel
theorem xe_61_231 (a0 a1 : Option MV) (x y : Int) (st : List MV) (μ : MM) (G : MG) : ev 61 231 [a0, a1] (vI y :: vI x :: st) μ G = ev 61 232 [a0, a1] (vI (mm_and x y) :: st) μ G := ev_stp pg_61_231 rfl
theorem pg_61_232 : mm_prog 61 232 = some (0, .iconst 4, 233, []) := by decide +kernel
theorem xe_61_232 (a0 a1 : Option MV) (st : List MV) (μ : MM) (G : MG) : ev 61 232 [a0, a1] st μ G = ev 61 233 [a0, a1] (vI (4) :: st) μ G := ev_stp pg_61_232 rfl
theorem pg_61_233 : mm_prog 61 233 = some (0, .ishl, 234, []) := by decide +kernel
theorem xe_61_233 (a0 a1 : Option MV) (x y : Int) (st : List MV) (μ : MM) (G : MG) : ev 61 233 [a0, a1] (vI y :: vI x :: st) μ G = ev 61 234 [a0, a1] (vI (mm_shl x y) :: st) μ G := ev_stp pg_61_233 rfl
theorem pg_61_234 : mm_prog 61 234 = some (0, .ior, 235, []) := by decide +kernel
theorem xe_61_234 (a0 a1 : Option MV) (x y : Int) (st : List MV) (μ : MM) (G : MG) : ev 61 234 [a0, a1] (vI y :: vI x :: st) μ G = ev 61 235 [a0, a1] (vI (mm_or x y) :: st) μ G := ev_stp pg_61_234 rfl
theorem pg_61_235 : mm_prog 61 235 = some (0, .aload_n 0, 236, []) := by decide +kernel
theorem xe_61_235 (a1 : Option MV) (x : Int) (st : List MV) (μ : MM) (G : MG) : ev 61 235 [some (vR x), a1] st μ G = ev 61 236 [some (vR x), a1] (vR x :: st) μ G := ev_stp pg_61_235 rfl
theorem pg_61_236 : mm_prog 61 236 = some (0, .getfield 39, 239, [7, 7, 0]) := by decide +kernel
theorem xe_61_236 (a0 a1 : Option MV) (x : Int) (st : List MV) (μ : MM) (G : MG) : ev 61 236 [a0, a1] (vR x :: st) μ G = if gk G x = 7 then ev 61 239 [a0, a1] (vI (μ x 7) :: st) μ G else none := ev_if pg_61_236 rfl
theorem pg_61_239 : mm_prog 61 239 = some (0, .iconst 4, 240, []) := by decide +kernel
theorem xe_61_239 (a0 a1 : Option MV) (st : List MV) (μ : MM) (G : MG) : ev 61 239 [a0, a1] st μ G = ev 61 240 [a0, a1] (vI (4) :: st) μ G := ev_stp pg_61_239 rfl
theorem pg_61_240 : mm_prog 61 240 = some (0, .ishr, 241, []) := by decide +kernel
theorem xe_61_240 (a0 a1 : Option MV) (x y : Int) (st : List MV) (μ : MM) (G : MG) : ev 61 240 [a0, a1] (vI y :: vI x :: st) μ G = ev 61 241 [a0, a1] (vI (mm_shr x y) :: st) μ G := ev_stp pg_61_240 rfl
theorem pg_61_241 : mm_prog 61 241 = some (0, .iconst 3, 242, []) := by decide +kernel
theorem xe_61_241 (a0 a1 : Option MV) (st : List MV) (μ : MM) (G : MG) : ev 61 241 [a0, a1] st μ G = ev 61 242 [a0, a1] (vI (3) :: st) μ G := ev_stp pg_61_241 rfl
theorem pg_61_242 : mm_prog 61 242 = some (0, .iand, 243, []) := by decide +kernel
theorem xe_61_242 (a0 a1 : Option MV) (x y : Int) (st : List MV) (μ : MM) (G : MG) : ev 61 242 [a0, a1] (vI y :: vI x :: st) μ G = ev 61 243 [a0, a1] (vI (mm_and x y) :: st) μ G := ev_stp pg_61_242 rfl
theorem pg_61_243 : mm_prog 61 243 = some (0, .iconst 2, 244, []) := by decide +kernel
theorem xe_61_243 (a0 a1 : Option MV) (st : List MV) (μ : MM) (G : MG) : ev 61 243 [a0, a1] st μ G = ev 61 244 [a0, a1] (vI (2) :: st) μ G := ev_stp pg_61_243 rfl
theorem pg_61_244 : mm_prog 61 244 = some (0, .ishl, 245, []) := by decide +kernel
theorem xe_61_244 (a0 a1 : Option MV) (x y : Int) (st : List MV) (μ : MM) (G : MG) : ev 61 244 [a0, a1] (vI y :: vI x :: st) μ G = ev 61 245 [a0, a1] (vI (mm_shl x y) :: st) μ G := ev_stp pg_61_244 rfl
theorem pg_61_245 : mm_prog 61 245 = some (0, .ior, 246, []) := by decide +kernel
theorem xe_61_245 (a0 a1 : Option MV) (x y : Int) (st : List MV) (μ : MM) (G : MG) : ev 61 245 [a0, a1] (vI y :: vI x :: st) μ G = ev 61 246 [a0, a1] (vI (mm_or x y) :: st) μ G := ev_stp pg_61_245 rfl
theorem pg_61_246 : mm_prog 61 246 = some (0, .aload_n 0, 247, []) := by decide +kernel
theorem xe_61_246 (a1 : Option MV) (x : Int) (st : List MV) (μ : MM) (G : MG) : ev 61 246 [some (vR x), a1] st μ G = ev 61 247 [some (vR x), a1] (vR x :: st) μ G := ev_stp pg_61_246 rfl
theorem pg_61_247 : mm_prog 61 247 = some (0, .getfield 42, 250, [7, 8, 0]) := by decide +kernel
theorem xe_61_247 (a0 a1 : Option MV) (x : Int) (st : List MV) (μ : MM) (G : MG) : ev 61 247 [a0, a1] (vR x :: st) μ G = if gk G x = 7 then ev 61 250 [a0, a1] (vI (μ x 8) :: st) μ G else none := ev_if pg_61_247 rfl
theorem pg_61_250 : mm_prog 61 250 = some (0, .iconst 4, 251, []) := by decide +kernel
theorem xe_61_250 (a0 a1 : Option MV) (st : List MV) (μ : MM) (G : MG) : ev 61 250 [a0, a1] st μ G = ev 61 251 [a0, a1] (vI (4) :: st) μ G := ev_stp pg_61_250 rfl
theorem pg_61_251 : mm_prog 61 251 = some (0, .ishr, 252, []) := by decide +kernel
theorem xe_61_251 (a0 a1 : Option MV) (x y : Int) (st : List MV) (μ : MM) (G : MG) : ev 61 251 [a0, a1] (vI y :: vI x :: st) μ G = ev 61 252 [a0, a1] (vI (mm_shr x y) :: st) μ G := ev_stp pg_61_251 rfl
theorem pg_61_252 : mm_prog 61 252 = some (0, .iconst 3, 253, []) := by decide +kernel
theorem xe_61_252 (a0 a1 : Option MV) (st : List MV) (μ : MM) (G : MG) : ev 61 252 [a0, a1] st μ G = ev 61 253 [a0, a1] (vI (3) :: st) μ G := ev_stp pg_61_252 rfl
theorem pg_61_253 : mm_prog 61 253 = some (0, .iand, 254, []) := by decide +kernel
theorem xe_61_253 (a0 a1 : Option MV) (x y : Int) (st : List MV) (μ : MM) (G : MG) : ev 61 253 [a0, a1] (vI y :: vI x :: st) μ G = ev 61 254 [a0, a1] (vI (mm_and x y) :: st) μ G := ev_stp pg_61_253 rfl
theorem pg_61_254 : mm_prog 61 254 = some (0, .ior, 255, []) := by decide +kernel
theorem xe_61_254 (a0 a1 : Option MV) (x y : Int) (st : List MV) (μ : MM) (G : MG) : ev 61 254 [a0, a1] (vI y :: vI x :: st) μ G = ev 61 255 [a0, a1] (vI (mm_or x y) :: st) μ G := ev_stp pg_61_254 rfl
theorem pg_61_255 : mm_prog 61 255 = some (2, .ireturn, 256, [0]) := by decide +kernel
theorem xe_61_255 (a0 a1 : Option MV) (x : Int) (μ : MM) (G : MG) : ev 61 255 [a0, a1] [vI x] μ G = some (some (vI x), μ, G) := ev_ret pg_61_255 rfl
theorem pg_61_256 : mm_prog 61 256 = some (0, .iconst 0, 257, []) := by decide +kernel
theorem xe_61_256 (a0 a1 : Option MV) (st : List MV) (μ : MM) (G : MG) : ev 61 256 [a0, a1] st μ G = ev 61 257 [a0, a1] (vI (0) :: st) μ G := ev_stp pg_61_256 rfl
theorem pg_61_257 : mm_prog 61 257 = some (2, .ireturn, 258, [0]) := by decide +kernel
theorem xe_61_257 (a0 a1 : Option MV) (x : Int) (μ : MM) (G : MG) : ev 61 257 [a0, a1] [vI x] μ G = some (some (vI x), μ, G) := ev_ret pg_61_257 rfl
-- X7_draw
theorem pg_62_0 : mm_prog 62 0 = some (0, .aload_n 0, 1, []) := by decide +kernel
theorem xe_62_0 (a1 a2 a3 a4 a5 : Option MV) (x : Int) (st : List MV) (μ : MM) (G : MG) : ev 62 0 [some (vR x), a1, a2, a3, a4, a5] st μ G = ev 62 1 [some (vR x), a1, a2, a3, a4, a5] (vR x :: st) μ G := ev_stp pg_62_0 rfl
theorem pg_62_1 : mm_prog 62 1 = some (0, .iconst 0, 2, []) := by decide +kernel
theorem xe_62_1 (a0 a1 a2 a3 a4 a5 : Option MV) (st : List MV) (μ : MM) (G : MG) : ev 62 1 [a0, a1, a2, a3, a4, a5] st μ G = ev 62 2 [a0, a1, a2, a3, a4, a5] (vI (0) :: st) μ G := ev_stp pg_62_1 rfl
theorem pg_62_2 : mm_prog 62 2 = some (0, .putfield 45, 5, [7, 9, 1]) := by decide +kernel
theorem xe_62_2 (a0 a1 a2 a3 a4 a5 : Option MV) (x y : Int) (st : List MV) (μ : MM) (G : MG) : ev 62 2 [a0, a1, a2, a3, a4, a5] (vI x :: vR y :: st) μ G = if gk G y = 7 ∧ (x = 0 ∨ x = 1) then ev 62 5 [a0, a1, a2, a3, a4, a5] st (mset μ y 9 x) G else none := ev_put1 pg_62_2
theorem pg_62_5 : mm_prog 62 5 = some (0, .aload_n 0, 6, []) := by decide +kernel
theorem xe_62_5 (a1 a2 a3 a4 a5 : Option MV) (x : Int) (st : List MV) (μ : MM) (G : MG) : ev 62 5 [some (vR x), a1, a2, a3, a4, a5] st μ G = ev 62 6 [some (vR x), a1, a2, a3, a4, a5] (vR x :: st) μ G := ev_stp pg_62_5 rfl
theorem pg_62_6 : mm_prog 62 6 = some (0, .iload_n 3, 7, []) := by decide +kernel
theorem xe_62_6 (a0 a1 a2 a4 a5 : Option MV) (x : Int) (st : List MV) (μ : MM) (G : MG) : ev 62 6 [a0, a1, a2, some (vI x), a4, a5] st μ G = ev 62 7 [a0, a1, a2, some (vI x), a4, a5] (vI x :: st) μ G := ev_stp pg_62_6 rfl
theorem pg_62_7 : mm_prog 62 7 = some (0, .putfield 27, 10, [7, 5, 0]) := by decide +kernel
theorem xe_62_7 (a0 a1 a2 a3 a4 a5 : Option MV) (x y : Int) (st : List MV) (μ : MM) (G : MG) : ev 62 7 [a0, a1, a2, a3, a4, a5] (vI x :: vR y :: st) μ G = if gk G y = 7 then ev 62 10 [a0, a1, a2, a3, a4, a5] st (mset μ y 5 x) G else none := ev_put0 pg_62_7
theorem pg_62_10 : mm_prog 62 10 = some (0, .aload_n 0, 11, []) := by decide +kernel
theorem xe_62_10 (a1 a2 a3 a4 a5 : Option MV) (x : Int) (st : List MV) (μ : MM) (G : MG) : ev 62 10 [some (vR x), a1, a2, a3, a4, a5] st μ G = ev 62 11 [some (vR x), a1, a2, a3, a4, a5] (vR x :: st) μ G := ev_stp pg_62_10 rfl
theorem pg_62_11 : mm_prog 62 11 = some (0, .bipush 32, 13, []) := by decide +kernel
theorem xe_62_11 (a0 a1 a2 a3 a4 a5 : Option MV) (st : List MV) (μ : MM) (G : MG) : ev 62 11 [a0, a1, a2, a3, a4, a5] st μ G = ev 62 13 [a0, a1, a2, a3, a4, a5] (vI (32) :: st) μ G := ev_stp pg_62_11 rfl
theorem pg_62_13 : mm_prog 62 13 = some (0, .putfield 36, 16, [7, 4, 0]) := by decide +kernel
theorem xe_62_13 (a0 a1 a2 a3 a4 a5 : Option MV) (x y : Int) (st : List MV) (μ : MM) (G : MG) : ev 62 13 [a0, a1, a2, a3, a4, a5] (vI x :: vR y :: st) μ G = if gk G y = 7 then ev 62 16 [a0, a1, a2, a3, a4, a5] st (mset μ y 4 x) G else none := ev_put0 pg_62_13
theorem pg_62_16 : mm_prog 62 16 = some (0, .iload_n 3, 17, []) := by decide +kernel
theorem xe_62_16 (a0 a1 a2 a4 a5 : Option MV) (x : Int) (st : List MV) (μ : MM) (G : MG) : ev 62 16 [a0, a1, a2, some (vI x), a4, a5] st μ G = ev 62 17 [a0, a1, a2, some (vI x), a4, a5] (vI x :: st) μ G := ev_stp pg_62_16 rfl
theorem pg_62_17 : mm_prog 62 17 = some (0, .iload 4, 19, []) := by decide +kernel
theorem xe_62_17 (a0 a1 a2 a3 a5 : Option MV) (x : Int) (st : List MV) (μ : MM) (G : MG) : ev 62 17 [a0, a1, a2, a3, some (vI x), a5] st μ G = ev 62 19 [a0, a1, a2, a3, some (vI x), a5] (vI x :: st) μ G := ev_stp pg_62_17 rfl
theorem pg_62_19 : mm_prog 62 19 = some (1, .invokestatic 49, 22, [0, 63, 2, 0]) := by decide +kernel
theorem xe_62_19 (a0 a1 a2 a3 a4 a5 : Option MV) (x0 x1 : Int) (μ : MM) (G : MG) : ev 62 19 [a0, a1, a2, a3, a4, a5] (vI x1 :: vI x0 :: []) μ G = (ev 63 0 [some (vI x0), some (vI x1), none, none] [] μ G).bind (fun q => ev 62 22 [a0, a1, a2, a3, a4, a5] (q.1.toList ++ []) q.2.1 q.2.2) := ev_calS (as := [vI x0, vI x1]) (r := []) mx_63 pg_62_19 rfl rfl (Nat.le_of_ble_eq_true rfl) (Nat.le_of_ble_eq_true rfl)
theorem pg_62_22 : mm_prog 62 22 = some (0, .istore 5, 24, []) := by decide +kernel
theorem xe_62_22 (a0 a1 a2 a3 a4 a5 : Option MV) (x : Int) (st : List MV) (μ : MM) (G : MG) (h : mm_nL a4 = true) : ev 62 22 [a0, a1, a2, a3, a4, a5] (vI x :: st) μ G = ev 62 24 [a0, a1, a2, a3, a4, some (vI x)] st μ G := ev_st pg_62_22 rfl (mm_nl_of h) (Nat.le_of_ble_eq_true rfl)
theorem pg_62_24 : mm_prog 62 24 = some (0, .iload_n 1, 25, []) := by decide +kernel
theorem xe_62_24 (a0 a2 a3 a4 a5 : Option MV) (x : Int) (st : List MV) (μ : MM) (G : MG) : ev 62 24 [a0, some (vI x), a2, a3, a4, a5] st μ G = ev 62 25 [a0, some (vI x), a2, a3, a4, a5] (vI x :: st) μ G := ev_stp pg_62_24 rfl
theorem pg_62_25 : mm_prog 62 25 = some (0, .ifCond .ne 84, 28, []) := by decide +kernel
theorem xe_62_25 (a0 a1 a2 a3 a4 a5 : Option MV) (x : Int) (st : List MV) (μ : MM) (G : MG) : ev 62 25 [a0, a1, a2, a3, a4, a5] (vI x :: st) μ G = if ¬ x = 0 then ev 62 109 [a0, a1, a2, a3, a4, a5] st μ G else ev 62 28 [a0, a1, a2, a3, a4, a5] st μ G := ev_br (mm_cnd_ne x 0) pg_62_25 rfl
theorem pg_62_28 : mm_prog 62 28 = some (0, .aload_n 0, 29, []) := by decide +kernel
theorem xe_62_28 (a1 a2 a3 a4 a5 : Option MV) (x : Int) (st : List MV) (μ : MM) (G : MG) : ev 62 28 [some (vR x), a1, a2, a3, a4, a5] st μ G = ev 62 29 [some (vR x), a1, a2, a3, a4, a5] (vR x :: st) μ G := ev_stp pg_62_28 rfl
theorem pg_62_29 : mm_prog 62 29 = some (0, .iload_n 2, 30, []) := by decide +kernel
theorem xe_62_29 (a0 a1 a3 a4 a5 : Option MV) (x : Int) (st : List MV) (μ : MM) (G : MG) : ev 62 29 [a0, a1, some (vI x), a3, a4, a5] st μ G = ev 62 30 [a0, a1, some (vI x), a3, a4, a5] (vI x :: st) μ G := ev_stp pg_62_29 rfl
theorem pg_62_30 : mm_prog 62 30 = some (0, .bipush 8, 32, []) := by decide +kernel
theorem xe_62_30 (a0 a1 a2 a3 a4 a5 : Option MV) (st : List MV) (μ : MM) (G : MG) : ev 62 30 [a0, a1, a2, a3, a4, a5] st μ G = ev 62 32 [a0, a1, a2, a3, a4, a5] (vI (8) :: st) μ G := ev_stp pg_62_30 rfl
theorem pg_62_32 : mm_prog 62 32 = some (0, .idiv, 33, []) := by decide +kernel
theorem xe_62_32 (a0 a1 a2 a3 a4 a5 : Option MV) (x y : Int) (st : List MV) (μ : MM) (G : MG) : ev 62 32 [a0, a1, a2, a3, a4, a5] (vI y :: vI x :: st) μ G = if y = 0 then none else ev 62 33 [a0, a1, a2, a3, a4, a5] (vI (mm_div x y) :: st) μ G := ev_no pg_62_32 rfl
theorem pg_62_33 : mm_prog 62 33 = some (0, .bipush 8, 35, []) := by decide +kernel
theorem xe_62_33 (a0 a1 a2 a3 a4 a5 : Option MV) (st : List MV) (μ : MM) (G : MG) : ev 62 33 [a0, a1, a2, a3, a4, a5] st μ G = ev 62 35 [a0, a1, a2, a3, a4, a5] (vI (8) :: st) μ G := ev_stp pg_62_33 rfl
theorem pg_62_35 : mm_prog 62 35 = some (0, .imul, 36, []) := by decide +kernel
theorem xe_62_35 (a0 a1 a2 a3 a4 a5 : Option MV) (x y : Int) (st : List MV) (μ : MM) (G : MG) : ev 62 35 [a0, a1, a2, a3, a4, a5] (vI y :: vI x :: st) μ G = ev 62 36 [a0, a1, a2, a3, a4, a5] (vI (w32 (x * y)) :: st) μ G := ev_stp pg_62_35 rfl
theorem pg_62_36 : mm_prog 62 36 = some (0, .putfield 21, 39, [7, 1, 0]) := by decide +kernel
theorem xe_62_36 (a0 a1 a2 a3 a4 a5 : Option MV) (x y : Int) (st : List MV) (μ : MM) (G : MG) : ev 62 36 [a0, a1, a2, a3, a4, a5] (vI x :: vR y :: st) μ G = if gk G y = 7 then ev 62 39 [a0, a1, a2, a3, a4, a5] st (mset μ y 1 x) G else none := ev_put0 pg_62_36
theorem pg_62_39 : mm_prog 62 39 = some (0, .aload_n 0, 40, []) := by decide +kernel
theorem xe_62_39 (a1 a2 a3 a4 a5 : Option MV) (x : Int) (st : List MV) (μ : MM) (G : MG) : ev 62 39 [some (vR x), a1, a2, a3, a4, a5] st μ G = ev 62 40 [some (vR x), a1, a2, a3, a4, a5] (vR x :: st) μ G := ev_stp pg_62_39 rfl
theorem pg_62_40 : mm_prog 62 40 = some (0, .sipush 160, 43, []) := by decide +kernel
theorem xe_62_40 (a0 a1 a2 a3 a4 a5 : Option MV) (st : List MV) (μ : MM) (G : MG) : ev 62 40 [a0, a1, a2, a3, a4, a5] st μ G = ev 62 43 [a0, a1, a2, a3, a4, a5] (vI (160) :: st) μ G := ev_stp pg_62_40 rfl
theorem pg_62_43 : mm_prog 62 43 = some (0, .putfield 24, 46, [7, 2, 0]) := by decide +kernel
theorem xe_62_43 (a0 a1 a2 a3 a4 a5 : Option MV) (x y : Int) (st : List MV) (μ : MM) (G : MG) : ev 62 43 [a0, a1, a2, a3, a4, a5] (vI x :: vR y :: st) μ G = if gk G y = 7 then ev 62 46 [a0, a1, a2, a3, a4, a5] st (mset μ y 2 x) G else none := ev_put0 pg_62_43
theorem pg_62_46 : mm_prog 62 46 = some (0, .aload_n 0, 47, []) := by decide +kernel
theorem xe_62_46 (a1 a2 a3 a4 a5 : Option MV) (x : Int) (st : List MV) (μ : MM) (G : MG) : ev 62 46 [some (vR x), a1, a2, a3, a4, a5] st μ G = ev 62 47 [some (vR x), a1, a2, a3, a4, a5] (vR x :: st) μ G := ev_stp pg_62_46 rfl
theorem pg_62_47 : mm_prog 62 47 = some (0, .bipush 48, 49, []) := by decide +kernel
theorem xe_62_47 (a0 a1 a2 a3 a4 a5 : Option MV) (st : List MV) (μ : MM) (G : MG) : ev 62 47 [a0, a1, a2, a3, a4, a5] st μ G = ev 62 49 [a0, a1, a2, a3, a4, a5] (vI (48) :: st) μ G := ev_stp pg_62_47 rfl
theorem pg_62_49 : mm_prog 62 49 = some (0, .putfield 33, 52, [7, 3, 0]) := by decide +kernel
theorem xe_62_49 (a0 a1 a2 a3 a4 a5 : Option MV) (x y : Int) (st : List MV) (μ : MM) (G : MG) : ev 62 49 [a0, a1, a2, a3, a4, a5] (vI x :: vR y :: st) μ G = if gk G y = 7 then ev 62 52 [a0, a1, a2, a3, a4, a5] st (mset μ y 3 x) G else none := ev_put0 pg_62_49
theorem pg_62_52 : mm_prog 62 52 = some (0, .aload_n 0, 53, []) := by decide +kernel
theorem xe_62_52 (a1 a2 a3 a4 a5 : Option MV) (x : Int) (st : List MV) (μ : MM) (G : MG) : ev 62 52 [some (vR x), a1, a2, a3, a4, a5] st μ G = ev 62 53 [some (vR x), a1, a2, a3, a4, a5] (vR x :: st) μ G := ev_stp pg_62_52 rfl
theorem pg_62_53 : mm_prog 62 53 = some (0, .iconst 3, 54, []) := by decide +kernel
theorem xe_62_53 (a0 a1 a2 a3 a4 a5 : Option MV) (st : List MV) (μ : MM) (G : MG) : ev 62 53 [a0, a1, a2, a3, a4, a5] st μ G = ev 62 54 [a0, a1, a2, a3, a4, a5] (vI (3) :: st) μ G := ev_stp pg_62_53 rfl
theorem pg_62_54 : mm_prog 62 54 = some (0, .putfield 39, 57, [7, 7, 0]) := by decide +kernel
theorem xe_62_54 (a0 a1 a2 a3 a4 a5 : Option MV) (x y : Int) (st : List MV) (μ : MM) (G : MG) : ev 62 54 [a0, a1, a2, a3, a4, a5] (vI x :: vR y :: st) μ G = if gk G y = 7 then ev 62 57 [a0, a1, a2, a3, a4, a5] st (mset μ y 7 x) G else none := ev_put0 pg_62_54
theorem pg_62_57 : mm_prog 62 57 = some (0, .aload_n 0, 58, []) := by decide +kernel
theorem xe_62_57 (a1 a2 a3 a4 a5 : Option MV) (x : Int) (st : List MV) (μ : MM) (G : MG) : ev 62 57 [some (vR x), a1, a2, a3, a4, a5] st μ G = ev 62 58 [some (vR x), a1, a2, a3, a4, a5] (vR x :: st) μ G := ev_stp pg_62_57 rfl
theorem pg_62_58 : mm_prog 62 58 = some (0, .aload_n 0, 59, []) := by decide +kernel
theorem xe_62_58 (a1 a2 a3 a4 a5 : Option MV) (x : Int) (st : List MV) (μ : MM) (G : MG) : ev 62 58 [some (vR x), a1, a2, a3, a4, a5] st μ G = ev 62 59 [some (vR x), a1, a2, a3, a4, a5] (vR x :: st) μ G := ev_stp pg_62_58 rfl
theorem pg_62_59 : mm_prog 62 59 = some (0, .getfield 21, 62, [7, 1, 0]) := by decide +kernel
theorem xe_62_59 (a0 a1 a2 a3 a4 a5 : Option MV) (x : Int) (st : List MV) (μ : MM) (G : MG) : ev 62 59 [a0, a1, a2, a3, a4, a5] (vR x :: st) μ G = if gk G x = 7 then ev 62 62 [a0, a1, a2, a3, a4, a5] (vI (μ x 1) :: st) μ G else none := ev_if pg_62_59 rfl
theorem pg_62_62 : mm_prog 62 62 = some (0, .iload_n 3, 63, []) := by decide +kernel
theorem xe_62_62 (a0 a1 a2 a4 a5 : Option MV) (x : Int) (st : List MV) (μ : MM) (G : MG) : ev 62 62 [a0, a1, a2, some (vI x), a4, a5] st μ G = ev 62 63 [a0, a1, a2, some (vI x), a4, a5] (vI x :: st) μ G := ev_stp pg_62_62 rfl
theorem pg_62_63 : mm_prog 62 63 = some (1, .invokestatic 53, 66, [0, 64, 2, 0]) := by decide +kernel
theorem xe_62_63 (a0 a1 a2 a3 a4 a5 : Option MV) (x0 x1 r0 : Int) (μ : MM) (G : MG) : ev 62 63 [a0, a1, a2, a3, a4, a5] (vI x1 :: vI x0 :: [vR r0]) μ G = (ev 64 0 [some (vI x0), some (vI x1)] [] μ G).bind (fun q => ev 62 66 [a0, a1, a2, a3, a4, a5] (q.1.toList ++ [vR r0]) q.2.1 q.2.2) := ev_calS (as := [vI x0, vI x1]) (r := [vR r0]) mx_64 pg_62_63 rfl rfl (Nat.le_of_ble_eq_true rfl) (Nat.le_of_ble_eq_true rfl)
theorem pg_62_66 : mm_prog 62 66 = some (0, .putfield 42, 69, [7, 8, 0]) := by decide +kernel
theorem xe_62_66 (a0 a1 a2 a3 a4 a5 : Option MV) (x y : Int) (st : List MV) (μ : MM) (G : MG) : ev 62 66 [a0, a1, a2, a3, a4, a5] (vI x :: vR y :: st) μ G = if gk G y = 7 then ev 62 69 [a0, a1, a2, a3, a4, a5] st (mset μ y 8 x) G else none := ev_put0 pg_62_66
theorem pg_62_69 : mm_prog 62 69 = some (0, .aload_n 0, 70, []) := by decide +kernel
theorem xe_62_69 (a1 a2 a3 a4 a5 : Option MV) (x : Int) (st : List MV) (μ : MM) (G : MG) : ev 62 69 [some (vR x), a1, a2, a3, a4, a5] st μ G = ev 62 70 [some (vR x), a1, a2, a3, a4, a5] (vR x :: st) μ G := ev_stp pg_62_69 rfl
theorem pg_62_70 : mm_prog 62 70 = some (0, .iload 5, 72, []) := by decide +kernel
theorem xe_62_70 (a0 a1 a2 a3 a4 : Option MV) (x : Int) (st : List MV) (μ : MM) (G : MG) : ev 62 70 [a0, a1, a2, a3, a4, some (vI x)] st μ G = ev 62 72 [a0, a1, a2, a3, a4, some (vI x)] (vI x :: st) μ G := ev_stp pg_62_70 rfl
theorem pg_62_72 : mm_prog 62 72 = some (0, .aload_n 0, 73, []) := by decide +kernel
theorem xe_62_72 (a1 a2 a3 a4 a5 : Option MV) (x : Int) (st : List MV) (μ : MM) (G : MG) : ev 62 72 [some (vR x), a1, a2, a3, a4, a5] st μ G = ev 62 73 [some (vR x), a1, a2, a3, a4, a5] (vR x :: st) μ G := ev_stp pg_62_72 rfl
theorem pg_62_73 : mm_prog 62 73 = some (0, .getfield 42, 76, [7, 8, 0]) := by decide +kernel
theorem xe_62_73 (a0 a1 a2 a3 a4 a5 : Option MV) (x : Int) (st : List MV) (μ : MM) (G : MG) : ev 62 73 [a0, a1, a2, a3, a4, a5] (vR x :: st) μ G = if gk G x = 7 then ev 62 76 [a0, a1, a2, a3, a4, a5] (vI (μ x 8) :: st) μ G else none := ev_if pg_62_73 rfl
theorem pg_62_76 : mm_prog 62 76 = some (0, .bipush 9, 78, []) := by decide +kernel
theorem xe_62_76 (a0 a1 a2 a3 a4 a5 : Option MV) (st : List MV) (μ : MM) (G : MG) : ev 62 76 [a0, a1, a2, a3, a4, a5] st μ G = ev 62 78 [a0, a1, a2, a3, a4, a5] (vI (9) :: st) μ G := ev_stp pg_62_76 rfl
theorem pg_62_78 : mm_prog 62 78 = some (0, .iadd, 79, []) := by decide +kernel
theorem xe_62_78 (a0 a1 a2 a3 a4 a5 : Option MV) (x y : Int) (st : List MV) (μ : MM) (G : MG) : ev 62 78 [a0, a1, a2, a3, a4, a5] (vI y :: vI x :: st) μ G = ev 62 79 [a0, a1, a2, a3, a4, a5] (vI (w32 (x + y)) :: st) μ G := ev_stp pg_62_78 rfl
theorem pg_62_79 : mm_prog 62 79 = some (0, .invokestatic 56, 82, [0]) := by decide +kernel
theorem xe_62_79 (a0 a1 a2 a3 a4 a5 : Option MV) (x y : Int) (st : List MV) (μ : MM) (G : MG) : ev 62 79 [a0, a1, a2, a3, a4, a5] (vI y :: vI x :: st) μ G = if mm_cats st ≤ 8 then ev 62 82 [a0, a1, a2, a3, a4, a5] (vI (max x y) :: st) μ G else none := ev_if pg_62_79 rfl
theorem pg_62_82 : mm_prog 62 82 = some (0, .putfield 30, 85, [7, 6, 0]) := by decide +kernel
theorem xe_62_82 (a0 a1 a2 a3 a4 a5 : Option MV) (x y : Int) (st : List MV) (μ : MM) (G : MG) : ev 62 82 [a0, a1, a2, a3, a4, a5] (vI x :: vR y :: st) μ G = if gk G y = 7 then ev 62 85 [a0, a1, a2, a3, a4, a5] st (mset μ y 6 x) G else none := ev_put0 pg_62_82
theorem pg_62_85 : mm_prog 62 85 = some (0, .aload_n 0, 86, []) := by decide +kernel
theorem xe_62_85 (a1 a2 a3 a4 a5 : Option MV) (x : Int) (st : List MV) (μ : MM) (G : MG) : ev 62 85 [some (vR x), a1, a2, a3, a4, a5] st μ G = ev 62 86 [some (vR x), a1, a2, a3, a4, a5] (vR x :: st) μ G := ev_stp pg_62_85 rfl
theorem pg_62_86 : mm_prog 62 86 = some (0, .iload 4, 88, []) := by decide +kernel
theorem xe_62_86 (a0 a1 a2 a3 a5 : Option MV) (x : Int) (st : List MV) (μ : MM) (G : MG) : ev 62 86 [a0, a1, a2, a3, some (vI x), a5] st μ G = ev 62 88 [a0, a1, a2, a3, some (vI x), a5] (vI x :: st) μ G := ev_stp pg_62_86 rfl
theorem pg_62_88 : mm_prog 62 88 = some (0, .i2l, 89, []) := by decide +kernel
theorem xe_62_88 (a0 a1 a2 a3 a4 a5 : Option MV) (x : Int) (st : List MV) (μ : MM) (G : MG) : ev 62 88 [a0, a1, a2, a3, a4, a5] (vI x :: st) μ G = ev 62 89 [a0, a1, a2, a3, a4, a5] (vL x :: st) μ G := ev_stp pg_62_88 rfl
theorem pg_62_89 : mm_prog 62 89 = some (0, .aload_n 0, 90, []) := by decide +kernel
theorem xe_62_89 (a1 a2 a3 a4 a5 : Option MV) (x : Int) (st : List MV) (μ : MM) (G : MG) : ev 62 89 [some (vR x), a1, a2, a3, a4, a5] st μ G = ev 62 90 [some (vR x), a1, a2, a3, a4, a5] (vR x :: st) μ G := ev_stp pg_62_89 rfl
theorem pg_62_90 : mm_prog 62 90 = some (1, .invokevirtual 61, 93, [1, 72, 0, 7]) := by decide +kernel
theorem xe_62_90 (a0 a1 a2 a3 a4 a5 : Option MV) (z r0 r1 : Int) (μ : MM) (G : MG) : ev 62 90 [a0, a1, a2, a3, a4, a5] (vR z :: [vL r0, vR r1]) μ G = if gk G z = 7 ∧ 0 < z then (ev 72 0 [some (vR z)] [] μ G).bind (fun q => ev 62 93 [a0, a1, a2, a3, a4, a5] (q.1.toList ++ [vL r0, vR r1]) q.2.1 q.2.2) else none := ev_calV (as := [vR z]) (r := [vL r0, vR r1]) mx_72 pg_62_90 rfl rfl (Nat.le_of_ble_eq_true rfl) (Nat.le_of_ble_eq_true rfl)
theorem pg_62_93 : mm_prog 62 93 = some (0, .lmul, 94, []) := by decide +kernel
theorem xe_62_93 (a0 a1 a2 a3 a4 a5 : Option MV) (x y : Int) (st : List MV) (μ : MM) (G : MG) : ev 62 93 [a0, a1, a2, a3, a4, a5] (vL y :: vL x :: st) μ G = ev 62 94 [a0, a1, a2, a3, a4, a5] (vL (w64 (x * y)) :: st) μ G := ev_stp pg_62_93 rfl
theorem pg_62_94 : mm_prog 62 94 = some (0, .ldc2_w 65, 97, [250000]) := by decide +kernel
theorem xe_62_94 (a0 a1 a2 a3 a4 a5 : Option MV) (st : List MV) (μ : MM) (G : MG) : ev 62 94 [a0, a1, a2, a3, a4, a5] st μ G = ev 62 97 [a0, a1, a2, a3, a4, a5] (vL (250000) :: st) μ G := ev_stp pg_62_94 rfl
theorem pg_62_97 : mm_prog 62 97 = some (0, .ldiv, 98, []) := by decide +kernel
theorem xe_62_97 (a0 a1 a2 a3 a4 a5 : Option MV) (x y : Int) (st : List MV) (μ : MM) (G : MG) : ev 62 97 [a0, a1, a2, a3, a4, a5] (vL y :: vL x :: st) μ G = if y = 0 then none else ev 62 98 [a0, a1, a2, a3, a4, a5] (vL (mm_ldiv x y) :: st) μ G := ev_no pg_62_97 rfl
theorem pg_62_98 : mm_prog 62 98 = some (0, .l2i, 99, []) := by decide +kernel
theorem xe_62_98 (a0 a1 a2 a3 a4 a5 : Option MV) (x : Int) (st : List MV) (μ : MM) (G : MG) : ev 62 98 [a0, a1, a2, a3, a4, a5] (vL x :: st) μ G = ev 62 99 [a0, a1, a2, a3, a4, a5] (vI (w32 x) :: st) μ G := ev_stp pg_62_98 rfl
theorem pg_62_99 : mm_prog 62 99 = some (0, .sipush 250, 102, []) := by decide +kernel
theorem xe_62_99 (a0 a1 a2 a3 a4 a5 : Option MV) (st : List MV) (μ : MM) (G : MG) : ev 62 99 [a0, a1, a2, a3, a4, a5] st μ G = ev 62 102 [a0, a1, a2, a3, a4, a5] (vI (250) :: st) μ G := ev_stp pg_62_99 rfl
theorem pg_62_102 : mm_prog 62 102 = some (0, .imul, 103, []) := by decide +kernel
theorem xe_62_102 (a0 a1 a2 a3 a4 a5 : Option MV) (x y : Int) (st : List MV) (μ : MM) (G : MG) : ev 62 102 [a0, a1, a2, a3, a4, a5] (vI y :: vI x :: st) μ G = ev 62 103 [a0, a1, a2, a3, a4, a5] (vI (w32 (x * y)) :: st) μ G := ev_stp pg_62_102 rfl
theorem pg_62_103 : mm_prog 62 103 = some (0, .putfield 15, 106, [7, 0, 0]) := by decide +kernel
theorem xe_62_103 (a0 a1 a2 a3 a4 a5 : Option MV) (x y : Int) (st : List MV) (μ : MM) (G : MG) : ev 62 103 [a0, a1, a2, a3, a4, a5] (vI x :: vR y :: st) μ G = if gk G y = 7 then ev 62 106 [a0, a1, a2, a3, a4, a5] st (mset μ y 0 x) G else none := ev_put0 pg_62_103
theorem pg_62_106 : mm_prog 62 106 = some (0, .goto 65, 109, []) := by decide +kernel
theorem xe_62_106 (a0 a1 a2 a3 a4 a5 : Option MV) (st : List MV) (μ : MM) (G : MG) : ev 62 106 [a0, a1, a2, a3, a4, a5] st μ G = ev 62 171 [a0, a1, a2, a3, a4, a5] st μ G := ev_stp pg_62_106 rfl
theorem pg_62_109 : mm_prog 62 109 = some (0, .aload_n 0, 110, []) := by decide +kernel
theorem xe_62_109 (a1 a2 a3 a4 a5 : Option MV) (x : Int) (st : List MV) (μ : MM) (G : MG) : ev 62 109 [some (vR x), a1, a2, a3, a4, a5] st μ G = ev 62 110 [some (vR x), a1, a2, a3, a4, a5] (vR x :: st) μ G := ev_stp pg_62_109 rfl
theorem pg_62_110 : mm_prog 62 110 = some (0, .iload_n 2, 111, []) := by decide +kernel
theorem xe_62_110 (a0 a1 a3 a4 a5 : Option MV) (x : Int) (st : List MV) (μ : MM) (G : MG) : ev 62 110 [a0, a1, some (vI x), a3, a4, a5] st μ G = ev 62 111 [a0, a1, some (vI x), a3, a4, a5] (vI x :: st) μ G := ev_stp pg_62_110 rfl
theorem pg_62_111 : mm_prog 62 111 = some (0, .putfield 21, 114, [7, 1, 0]) := by decide +kernel
theorem xe_62_111 (a0 a1 a2 a3 a4 a5 : Option MV) (x y : Int) (st : List MV) (μ : MM) (G : MG) : ev 62 111 [a0, a1, a2, a3, a4, a5] (vI x :: vR y :: st) μ G = if gk G y = 7 then ev 62 114 [a0, a1, a2, a3, a4, a5] st (mset μ y 1 x) G else none := ev_put0 pg_62_111
theorem pg_62_114 : mm_prog 62 114 = some (0, .aload_n 0, 115, []) := by decide +kernel
theorem xe_62_114 (a1 a2 a3 a4 a5 : Option MV) (x : Int) (st : List MV) (μ : MM) (G : MG) : ev 62 114 [some (vR x), a1, a2, a3, a4, a5] st μ G = ev 62 115 [some (vR x), a1, a2, a3, a4, a5] (vR x :: st) μ G := ev_stp pg_62_114 rfl
theorem pg_62_115 : mm_prog 62 115 = some (0, .bipush 80, 117, []) := by decide +kernel
theorem xe_62_115 (a0 a1 a2 a3 a4 a5 : Option MV) (st : List MV) (μ : MM) (G : MG) : ev 62 115 [a0, a1, a2, a3, a4, a5] st μ G = ev 62 117 [a0, a1, a2, a3, a4, a5] (vI (80) :: st) μ G := ev_stp pg_62_115 rfl
theorem pg_62_117 : mm_prog 62 117 = some (0, .putfield 24, 120, [7, 2, 0]) := by decide +kernel
theorem xe_62_117 (a0 a1 a2 a3 a4 a5 : Option MV) (x y : Int) (st : List MV) (μ : MM) (G : MG) : ev 62 117 [a0, a1, a2, a3, a4, a5] (vI x :: vR y :: st) μ G = if gk G y = 7 then ev 62 120 [a0, a1, a2, a3, a4, a5] st (mset μ y 2 x) G else none := ev_put0 pg_62_117
theorem pg_62_120 : mm_prog 62 120 = some (0, .aload_n 0, 121, []) := by decide +kernel
theorem xe_62_120 (a1 a2 a3 a4 a5 : Option MV) (x : Int) (st : List MV) (μ : MM) (G : MG) : ev 62 120 [some (vR x), a1, a2, a3, a4, a5] st μ G = ev 62 121 [some (vR x), a1, a2, a3, a4, a5] (vR x :: st) μ G := ev_stp pg_62_120 rfl
theorem pg_62_121 : mm_prog 62 121 = some (0, .bipush 8, 123, []) := by decide +kernel
theorem xe_62_121 (a0 a1 a2 a3 a4 a5 : Option MV) (st : List MV) (μ : MM) (G : MG) : ev 62 121 [a0, a1, a2, a3, a4, a5] st μ G = ev 62 123 [a0, a1, a2, a3, a4, a5] (vI (8) :: st) μ G := ev_stp pg_62_121 rfl
theorem pg_62_123 : mm_prog 62 123 = some (0, .putfield 33, 126, [7, 3, 0]) := by decide +kernel
theorem xe_62_123 (a0 a1 a2 a3 a4 a5 : Option MV) (x y : Int) (st : List MV) (μ : MM) (G : MG) : ev 62 123 [a0, a1, a2, a3, a4, a5] (vI x :: vR y :: st) μ G = if gk G y = 7 then ev 62 126 [a0, a1, a2, a3, a4, a5] st (mset μ y 3 x) G else none := ev_put0 pg_62_123
theorem pg_62_126 : mm_prog 62 126 = some (0, .aload_n 0, 127, []) := by decide +kernel
theorem xe_62_126 (a1 a2 a3 a4 a5 : Option MV) (x : Int) (st : List MV) (μ : MM) (G : MG) : ev 62 126 [some (vR x), a1, a2, a3, a4, a5] st μ G = ev 62 127 [some (vR x), a1, a2, a3, a4, a5] (vR x :: st) μ G := ev_stp pg_62_126 rfl
theorem pg_62_127 : mm_prog 62 127 = some (0, .bipush 8, 129, []) := by decide +kernel
theorem xe_62_127 (a0 a1 a2 a3 a4 a5 : Option MV) (st : List MV) (μ : MM) (G : MG) : ev 62 127 [a0, a1, a2, a3, a4, a5] st μ G = ev 62 129 [a0, a1, a2, a3, a4, a5] (vI (8) :: st) μ G := ev_stp pg_62_127 rfl
theorem pg_62_129 : mm_prog 62 129 = some (0, .putfield 42, 132, [7, 8, 0]) := by decide +kernel
theorem xe_62_129 (a0 a1 a2 a3 a4 a5 : Option MV) (x y : Int) (st : List MV) (μ : MM) (G : MG) : ev 62 129 [a0, a1, a2, a3, a4, a5] (vI x :: vR y :: st) μ G = if gk G y = 7 then ev 62 132 [a0, a1, a2, a3, a4, a5] st (mset μ y 8 x) G else none := ev_put0 pg_62_129
theorem pg_62_132 : mm_prog 62 132 = some (0, .aload_n 0, 133, []) := by decide +kernel
theorem xe_62_132 (a1 a2 a3 a4 a5 : Option MV) (x : Int) (st : List MV) (μ : MM) (G : MG) : ev 62 132 [some (vR x), a1, a2, a3, a4, a5] st μ G = ev 62 133 [some (vR x), a1, a2, a3, a4, a5] (vR x :: st) μ G := ev_stp pg_62_132 rfl
theorem pg_62_133 : mm_prog 62 133 = some (0, .iload 5, 135, []) := by decide +kernel
theorem xe_62_133 (a0 a1 a2 a3 a4 : Option MV) (x : Int) (st : List MV) (μ : MM) (G : MG) : ev 62 133 [a0, a1, a2, a3, a4, some (vI x)] st μ G = ev 62 135 [a0, a1, a2, a3, a4, some (vI x)] (vI x :: st) μ G := ev_stp pg_62_133 rfl
theorem pg_62_135 : mm_prog 62 135 = some (0, .bipush 15, 137, []) := by decide +kernel
theorem xe_62_135 (a0 a1 a2 a3 a4 a5 : Option MV) (st : List MV) (μ : MM) (G : MG) : ev 62 135 [a0, a1, a2, a3, a4, a5] st μ G = ev 62 137 [a0, a1, a2, a3, a4, a5] (vI (15) :: st) μ G := ev_stp pg_62_135 rfl
theorem pg_62_137 : mm_prog 62 137 = some (0, .invokestatic 56, 140, [0]) := by decide +kernel
theorem xe_62_137 (a0 a1 a2 a3 a4 a5 : Option MV) (x y : Int) (st : List MV) (μ : MM) (G : MG) : ev 62 137 [a0, a1, a2, a3, a4, a5] (vI y :: vI x :: st) μ G = if mm_cats st ≤ 8 then ev 62 140 [a0, a1, a2, a3, a4, a5] (vI (max x y) :: st) μ G else none := ev_if pg_62_137 rfl
theorem pg_62_140 : mm_prog 62 140 = some (0, .putfield 30, 143, [7, 6, 0]) := by decide +kernel
theorem xe_62_140 (a0 a1 a2 a3 a4 a5 : Option MV) (x y : Int) (st : List MV) (μ : MM) (G : MG) : ev 62 140 [a0, a1, a2, a3, a4, a5] (vI x :: vR y :: st) μ G = if gk G y = 7 then ev 62 143 [a0, a1, a2, a3, a4, a5] st (mset μ y 6 x) G else none := ev_put0 pg_62_140
theorem pg_62_143 : mm_prog 62 143 = some (0, .aload_n 0, 144, []) := by decide +kernel
theorem xe_62_143 (a1 a2 a3 a4 a5 : Option MV) (x : Int) (st : List MV) (μ : MM) (G : MG) : ev 62 143 [some (vR x), a1, a2, a3, a4, a5] st μ G = ev 62 144 [some (vR x), a1, a2, a3, a4, a5] (vR x :: st) μ G := ev_stp pg_62_143 rfl
theorem pg_62_144 : mm_prog 62 144 = some (0, .aload_n 0, 145, []) := by decide +kernel
theorem xe_62_144 (a1 a2 a3 a4 a5 : Option MV) (x : Int) (st : List MV) (μ : MM) (G : MG) : ev 62 144 [some (vR x), a1, a2, a3, a4, a5] st μ G = ev 62 145 [some (vR x), a1, a2, a3, a4, a5] (vR x :: st) μ G := ev_stp pg_62_144 rfl
theorem pg_62_145 : mm_prog 62 145 = some (0, .getfield 30, 148, [7, 6, 0]) := by decide +kernel
theorem xe_62_145 (a0 a1 a2 a3 a4 a5 : Option MV) (x : Int) (st : List MV) (μ : MM) (G : MG) : ev 62 145 [a0, a1, a2, a3, a4, a5] (vR x :: st) μ G = if gk G x = 7 then ev 62 148 [a0, a1, a2, a3, a4, a5] (vI (μ x 6) :: st) μ G else none := ev_if pg_62_145 rfl
theorem pg_62_148 : mm_prog 62 148 = some (0, .bipush 14, 150, []) := by decide +kernel
theorem xe_62_148 (a0 a1 a2 a3 a4 a5 : Option MV) (st : List MV) (μ : MM) (G : MG) : ev 62 148 [a0, a1, a2, a3, a4, a5] st μ G = ev 62 150 [a0, a1, a2, a3, a4, a5] (vI (14) :: st) μ G := ev_stp pg_62_148 rfl
theorem pg_62_150 : mm_prog 62 150 = some (0, .isub, 151, []) := by decide +kernel
theorem xe_62_150 (a0 a1 a2 a3 a4 a5 : Option MV) (x y : Int) (st : List MV) (μ : MM) (G : MG) : ev 62 150 [a0, a1, a2, a3, a4, a5] (vI y :: vI x :: st) μ G = ev 62 151 [a0, a1, a2, a3, a4, a5] (vI (w32 (x - y)) :: st) μ G := ev_stp pg_62_150 rfl
theorem pg_62_151 : mm_prog 62 151 = some (0, .putfield 39, 154, [7, 7, 0]) := by decide +kernel
theorem xe_62_151 (a0 a1 a2 a3 a4 a5 : Option MV) (x y : Int) (st : List MV) (μ : MM) (G : MG) : ev 62 151 [a0, a1, a2, a3, a4, a5] (vI x :: vR y :: st) μ G = if gk G y = 7 then ev 62 154 [a0, a1, a2, a3, a4, a5] st (mset μ y 7 x) G else none := ev_put0 pg_62_151
theorem pg_62_154 : mm_prog 62 154 = some (0, .aload_n 0, 155, []) := by decide +kernel
theorem xe_62_154 (a1 a2 a3 a4 a5 : Option MV) (x : Int) (st : List MV) (μ : MM) (G : MG) : ev 62 154 [some (vR x), a1, a2, a3, a4, a5] st μ G = ev 62 155 [some (vR x), a1, a2, a3, a4, a5] (vR x :: st) μ G := ev_stp pg_62_154 rfl
theorem pg_62_155 : mm_prog 62 155 = some (0, .iload 4, 157, []) := by decide +kernel
theorem xe_62_155 (a0 a1 a2 a3 a5 : Option MV) (x : Int) (st : List MV) (μ : MM) (G : MG) : ev 62 155 [a0, a1, a2, a3, some (vI x), a5] st μ G = ev 62 157 [a0, a1, a2, a3, some (vI x), a5] (vI x :: st) μ G := ev_stp pg_62_155 rfl
theorem pg_62_157 : mm_prog 62 157 = some (0, .i2l, 158, []) := by decide +kernel
theorem xe_62_157 (a0 a1 a2 a3 a4 a5 : Option MV) (x : Int) (st : List MV) (μ : MM) (G : MG) : ev 62 157 [a0, a1, a2, a3, a4, a5] (vI x :: st) μ G = ev 62 158 [a0, a1, a2, a3, a4, a5] (vL x :: st) μ G := ev_stp pg_62_157 rfl
theorem pg_62_158 : mm_prog 62 158 = some (0, .aload_n 0, 159, []) := by decide +kernel
theorem xe_62_158 (a1 a2 a3 a4 a5 : Option MV) (x : Int) (st : List MV) (μ : MM) (G : MG) : ev 62 158 [some (vR x), a1, a2, a3, a4, a5] st μ G = ev 62 159 [some (vR x), a1, a2, a3, a4, a5] (vR x :: st) μ G := ev_stp pg_62_158 rfl
theorem pg_62_159 : mm_prog 62 159 = some (1, .invokevirtual 61, 162, [1, 72, 0, 7]) := by decide +kernel
theorem xe_62_159 (a0 a1 a2 a3 a4 a5 : Option MV) (z r0 r1 : Int) (μ : MM) (G : MG) : ev 62 159 [a0, a1, a2, a3, a4, a5] (vR z :: [vL r0, vR r1]) μ G = if gk G z = 7 ∧ 0 < z then (ev 72 0 [some (vR z)] [] μ G).bind (fun q => ev 62 162 [a0, a1, a2, a3, a4, a5] (q.1.toList ++ [vL r0, vR r1]) q.2.1 q.2.2) else none := ev_calV (as := [vR z]) (r := [vL r0, vR r1]) mx_72 pg_62_159 rfl rfl (Nat.le_of_ble_eq_true rfl) (Nat.le_of_ble_eq_true rfl)
theorem pg_62_162 : mm_prog 62 162 = some (0, .lmul, 163, []) := by decide +kernel
theorem xe_62_162 (a0 a1 a2 a3 a4 a5 : Option MV) (x y : Int) (st : List MV) (μ : MM) (G : MG) : ev 62 162 [a0, a1, a2, a3, a4, a5] (vL y :: vL x :: st) μ G = ev 62 163 [a0, a1, a2, a3, a4, a5] (vL (w64 (x * y)) :: st) μ G := ev_stp pg_62_162 rfl
theorem pg_62_163 : mm_prog 62 163 = some (0, .ldc2_w 67, 166, [1000]) := by decide +kernel
theorem xe_62_163 (a0 a1 a2 a3 a4 a5 : Option MV) (st : List MV) (μ : MM) (G : MG) : ev 62 163 [a0, a1, a2, a3, a4, a5] st μ G = ev 62 166 [a0, a1, a2, a3, a4, a5] (vL (1000) :: st) μ G := ev_stp pg_62_163 rfl
theorem pg_62_166 : mm_prog 62 166 = some (0, .ldiv, 167, []) := by decide +kernel
theorem xe_62_166 (a0 a1 a2 a3 a4 a5 : Option MV) (x y : Int) (st : List MV) (μ : MM) (G : MG) : ev 62 166 [a0, a1, a2, a3, a4, a5] (vL y :: vL x :: st) μ G = if y = 0 then none else ev 62 167 [a0, a1, a2, a3, a4, a5] (vL (mm_ldiv x y) :: st) μ G := ev_no pg_62_166 rfl
theorem pg_62_167 : mm_prog 62 167 = some (0, .l2i, 168, []) := by decide +kernel
theorem xe_62_167 (a0 a1 a2 a3 a4 a5 : Option MV) (x : Int) (st : List MV) (μ : MM) (G : MG) : ev 62 167 [a0, a1, a2, a3, a4, a5] (vL x :: st) μ G = ev 62 168 [a0, a1, a2, a3, a4, a5] (vI (w32 x) :: st) μ G := ev_stp pg_62_167 rfl
theorem pg_62_168 : mm_prog 62 168 = some (0, .putfield 15, 171, [7, 0, 0]) := by decide +kernel
theorem xe_62_168 (a0 a1 a2 a3 a4 a5 : Option MV) (x y : Int) (st : List MV) (μ : MM) (G : MG) : ev 62 168 [a0, a1, a2, a3, a4, a5] (vI x :: vR y :: st) μ G = if gk G y = 7 then ev 62 171 [a0, a1, a2, a3, a4, a5] st (mset μ y 0 x) G else none := ev_put0 pg_62_168
theorem pg_62_171 : mm_prog 62 171 = some (2, .return_, 172, []) := by decide +kernel
theorem xe_62_171 (a0 a1 a2 a3 a4 a5 : Option MV) (μ : MM) (G : MG) : ev 62 171 [a0, a1, a2, a3, a4, a5] [] μ G = some (none, μ, G) := ev_ret pg_62_171 rfl
-- X7_blankLines
theorem pg_63_0 : mm_prog 63 0 = some (0, .ldc2_w 69, 3, [1000000]) := by decide +kernel
theorem xe_63_0 (a0 a1 a2 a3 : Option MV) (st : List MV) (μ : MM) (G : MG) : ev 63 0 [a0, a1, a2, a3] st μ G = ev 63 3 [a0, a1, a2, a3] (vL (1000000) :: st) μ G := ev_stp pg_63_0 rfl
theorem pg_63_3 : mm_prog 63 3 = some (0, .ldc2_w 71, 6, [460]) := by decide +kernel
theorem xe_63_3 (a0 a1 a2 a3 : Option MV) (st : List MV) (μ : MM) (G : MG) : ev 63 3 [a0, a1, a2, a3] st μ G = ev 63 6 [a0, a1, a2, a3] (vL (460) :: st) μ G := ev_stp pg_63_3 rfl
theorem pg_63_6 : mm_prog 63 6 = some (0, .iload_n 1, 7, []) := by decide +kernel
theorem xe_63_6 (a0 a2 a3 : Option MV) (x : Int) (st : List MV) (μ : MM) (G : MG) : ev 63 6 [a0, some (vI x), a2, a3] st μ G = ev 63 7 [a0, some (vI x), a2, a3] (vI x :: st) μ G := ev_stp pg_63_6 rfl
theorem pg_63_7 : mm_prog 63 7 = some (0, .i2l, 8, []) := by decide +kernel
theorem xe_63_7 (a0 a1 a2 a3 : Option MV) (x : Int) (st : List MV) (μ : MM) (G : MG) : ev 63 7 [a0, a1, a2, a3] (vI x :: st) μ G = ev 63 8 [a0, a1, a2, a3] (vL x :: st) μ G := ev_stp pg_63_7 rfl
theorem pg_63_8 : mm_prog 63 8 = some (0, .lmul, 9, []) := by decide +kernel
theorem xe_63_8 (a0 a1 a2 a3 : Option MV) (x y : Int) (st : List MV) (μ : MM) (G : MG) : ev 63 8 [a0, a1, a2, a3] (vL y :: vL x :: st) μ G = ev 63 9 [a0, a1, a2, a3] (vL (w64 (x * y)) :: st) μ G := ev_stp pg_63_8 rfl
theorem pg_63_9 : mm_prog 63 9 = some (0, .lsub, 10, []) := by decide +kernel
theorem xe_63_9 (a0 a1 a2 a3 : Option MV) (x y : Int) (st : List MV) (μ : MM) (G : MG) : ev 63 9 [a0, a1, a2, a3] (vL y :: vL x :: st) μ G = ev 63 10 [a0, a1, a2, a3] (vL (w64 (x - y)) :: st) μ G := ev_stp pg_63_9 rfl
theorem pg_63_10 : mm_prog 63 10 = some (0, .lstore_n 2, 11, []) := by decide +kernel
theorem xe_63_10 (a0 a1 a2 a3 : Option MV) (x : Int) (st : List MV) (μ : MM) (G : MG) (h : mm_nL a1 = true) : ev 63 10 [a0, a1, a2, a3] (vL x :: st) μ G = ev 63 11 [a0, a1, some (vL x), none] st μ G := ev_st pg_63_10 rfl (mm_nl_of h) (Nat.le_of_ble_eq_true rfl)
theorem pg_63_11 : mm_prog 63 11 = some (0, .lload_n 2, 12, []) := by decide +kernel
theorem xe_63_11 (a0 a1 a3 : Option MV) (x : Int) (st : List MV) (μ : MM) (G : MG) : ev 63 11 [a0, a1, some (vL x), a3] st μ G = ev 63 12 [a0, a1, some (vL x), a3] (vL x :: st) μ G := ev_stp pg_63_11 rfl
theorem pg_63_12 : mm_prog 63 12 = some (0, .lconst 0, 13, []) := by decide +kernel
theorem xe_63_12 (a0 a1 a2 a3 : Option MV) (st : List MV) (μ : MM) (G : MG) : ev 63 12 [a0, a1, a2, a3] st μ G = ev 63 13 [a0, a1, a2, a3] (vL 0 :: st) μ G := ev_stp pg_63_12 rfl
theorem pg_63_13 : mm_prog 63 13 = some (0, .lcmp, 14, []) := by decide +kernel
theorem xe_63_13 (a0 a1 a2 a3 : Option MV) (x y : Int) (st : List MV) (μ : MM) (G : MG) : ev 63 13 [a0, a1, a2, a3] (vL y :: vL x :: st) μ G = ev 63 14 [a0, a1, a2, a3] (vI (mm_cmp x y) :: st) μ G := ev_stp pg_63_13 rfl
theorem pg_63_14 : mm_prog 63 14 = some (0, .ifCond .le 20, 17, []) := by decide +kernel
theorem xe_63_14 (a0 a1 a2 a3 : Option MV) (x : Int) (st : List MV) (μ : MM) (G : MG) : ev 63 14 [a0, a1, a2, a3] (vI x :: st) μ G = if x ≤ 0 then ev 63 34 [a0, a1, a2, a3] st μ G else ev 63 17 [a0, a1, a2, a3] st μ G := ev_br (mm_cnd_le x 0) pg_63_14 rfl
theorem pg_63_17 : mm_prog 63 17 = some (0, .ldc2_w 71, 20, [460]) := by decide +kernel
theorem xe_63_17 (a0 a1 a2 a3 : Option MV) (st : List MV) (μ : MM) (G : MG) : ev 63 17 [a0, a1, a2, a3] st μ G = ev 63 20 [a0, a1, a2, a3] (vL (460) :: st) μ G := ev_stp pg_63_17 rfl
theorem pg_63_20 : mm_prog 63 20 = some (0, .iload_n 0, 21, []) := by decide +kernel
theorem xe_63_20 (a1 a2 a3 : Option MV) (x : Int) (st : List MV) (μ : MM) (G : MG) : ev 63 20 [some (vI x), a1, a2, a3] st μ G = ev 63 21 [some (vI x), a1, a2, a3] (vI x :: st) μ G := ev_stp pg_63_20 rfl
theorem pg_63_21 : mm_prog 63 21 = some (0, .i2l, 22, []) := by decide +kernel
theorem xe_63_21 (a0 a1 a2 a3 : Option MV) (x : Int) (st : List MV) (μ : MM) (G : MG) : ev 63 21 [a0, a1, a2, a3] (vI x :: st) μ G = ev 63 22 [a0, a1, a2, a3] (vL x :: st) μ G := ev_stp pg_63_21 rfl
theorem pg_63_22 : mm_prog 63 22 = some (0, .lmul, 23, []) := by decide +kernel
theorem xe_63_22 (a0 a1 a2 a3 : Option MV) (x y : Int) (st : List MV) (μ : MM) (G : MG) : ev 63 22 [a0, a1, a2, a3] (vL y :: vL x :: st) μ G = ev 63 23 [a0, a1, a2, a3] (vL (w64 (x * y)) :: st) μ G := ev_stp pg_63_22 rfl
theorem pg_63_23 : mm_prog 63 23 = some (0, .iload_n 1, 24, []) := by decide +kernel
theorem xe_63_23 (a0 a2 a3 : Option MV) (x : Int) (st : List MV) (μ : MM) (G : MG) : ev 63 23 [a0, some (vI x), a2, a3] st μ G = ev 63 24 [a0, some (vI x), a2, a3] (vI x :: st) μ G := ev_stp pg_63_23 rfl
theorem pg_63_24 : mm_prog 63 24 = some (0, .i2l, 25, []) := by decide +kernel
theorem xe_63_24 (a0 a1 a2 a3 : Option MV) (x : Int) (st : List MV) (μ : MM) (G : MG) : ev 63 24 [a0, a1, a2, a3] (vI x :: st) μ G = ev 63 25 [a0, a1, a2, a3] (vL x :: st) μ G := ev_stp pg_63_24 rfl
theorem pg_63_25 : mm_prog 63 25 = some (0, .lmul, 26, []) := by decide +kernel
theorem xe_63_25 (a0 a1 a2 a3 : Option MV) (x y : Int) (st : List MV) (μ : MM) (G : MG) : ev 63 25 [a0, a1, a2, a3] (vL y :: vL x :: st) μ G = ev 63 26 [a0, a1, a2, a3] (vL (w64 (x * y)) :: st) μ G := ev_stp pg_63_25 rfl
theorem pg_63_26 : mm_prog 63 26 = some (0, .lload_n 2, 27, []) := by decide +kernel
theorem xe_63_26 (a0 a1 a3 : Option MV) (x : Int) (st : List MV) (μ : MM) (G : MG) : ev 63 26 [a0, a1, some (vL x), a3] st μ G = ev 63 27 [a0, a1, some (vL x), a3] (vL x :: st) μ G := ev_stp pg_63_26 rfl
theorem pg_63_27 : mm_prog 63 27 = some (0, .ldiv, 28, []) := by decide +kernel
theorem xe_63_27 (a0 a1 a2 a3 : Option MV) (x y : Int) (st : List MV) (μ : MM) (G : MG) : ev 63 27 [a0, a1, a2, a3] (vL y :: vL x :: st) μ G = if y = 0 then none else ev 63 28 [a0, a1, a2, a3] (vL (mm_ldiv x y) :: st) μ G := ev_no pg_63_27 rfl
theorem pg_63_28 : mm_prog 63 28 = some (0, .l2i, 29, []) := by decide +kernel
theorem xe_63_28 (a0 a1 a2 a3 : Option MV) (x : Int) (st : List MV) (μ : MM) (G : MG) : ev 63 28 [a0, a1, a2, a3] (vL x :: st) μ G = ev 63 29 [a0, a1, a2, a3] (vI (w32 x) :: st) μ G := ev_stp pg_63_28 rfl
theorem pg_63_29 : mm_prog 63 29 = some (0, .iconst 1, 30, []) := by decide +kernel
theorem xe_63_29 (a0 a1 a2 a3 : Option MV) (st : List MV) (μ : MM) (G : MG) : ev 63 29 [a0, a1, a2, a3] st μ G = ev 63 30 [a0, a1, a2, a3] (vI (1) :: st) μ G := ev_stp pg_63_29 rfl
theorem pg_63_30 : mm_prog 63 30 = some (0, .iadd, 31, []) := by decide +kernel
theorem xe_63_30 (a0 a1 a2 a3 : Option MV) (x y : Int) (st : List MV) (μ : MM) (G : MG) : ev 63 30 [a0, a1, a2, a3] (vI y :: vI x :: st) μ G = ev 63 31 [a0, a1, a2, a3] (vI (w32 (x + y)) :: st) μ G := ev_stp pg_63_30 rfl
theorem pg_63_31 : mm_prog 63 31 = some (0, .goto 4, 34, []) := by decide +kernel
theorem xe_63_31 (a0 a1 a2 a3 : Option MV) (st : List MV) (μ : MM) (G : MG) : ev 63 31 [a0, a1, a2, a3] st μ G = ev 63 35 [a0, a1, a2, a3] st μ G := ev_stp pg_63_31 rfl
theorem pg_63_34 : mm_prog 63 34 = some (0, .iconst 0, 35, []) := by decide +kernel
theorem xe_63_34 (a0 a1 a2 a3 : Option MV) (st : List MV) (μ : MM) (G : MG) : ev 63 34 [a0, a1, a2, a3] st μ G = ev 63 35 [a0, a1, a2, a3] (vI (0) :: st) μ G := ev_stp pg_63_34 rfl
theorem pg_63_35 : mm_prog 63 35 = some (2, .ireturn, 36, [0]) := by decide +kernel
theorem xe_63_35 (a0 a1 a2 a3 : Option MV) (x : Int) (μ : MM) (G : MG) : ev 63 35 [a0, a1, a2, a3] [vI x] μ G = some (some (vI x), μ, G) := ev_ret pg_63_35 rfl
-- X7_plainSync
theorem pg_64_0 : mm_prog 64 0 = some (0, .iload_n 0, 1, []) := by decide +kernel
theorem xe_64_0 (a1 : Option MV) (x : Int) (st : List MV) (μ : MM) (G : MG) : ev 64 0 [some (vI x), a1] st μ G = ev 64 1 [some (vI x), a1] (vI x :: st) μ G := ev_stp pg_64_0 rfl
theorem pg_64_1 : mm_prog 64 1 = some (0, .iload_n 1, 2, []) := by decide +kernel
theorem xe_64_1 (a0 : Option MV) (x : Int) (st : List MV) (μ : MM) (G : MG) : ev 64 1 [a0, some (vI x)] st μ G = ev 64 2 [a0, some (vI x)] (vI x :: st) μ G := ev_stp pg_64_1 rfl
theorem pg_64_2 : mm_prog 64 2 = some (0, .iconst 4, 3, []) := by decide +kernel
theorem xe_64_2 (a0 a1 : Option MV) (st : List MV) (μ : MM) (G : MG) : ev 64 2 [a0, a1] st μ G = ev 64 3 [a0, a1] (vI (4) :: st) μ G := ev_stp pg_64_2 rfl
theorem pg_64_3 : mm_prog 64 3 = some (0, .imul, 4, []) := by decide +kernel
theorem xe_64_3 (a0 a1 : Option MV) (x y : Int) (st : List MV) (μ : MM) (G : MG) : ev 64 3 [a0, a1] (vI y :: vI x :: st) μ G = ev 64 4 [a0, a1] (vI (w32 (x * y)) :: st) μ G := ev_stp pg_64_3 rfl
theorem pg_64_4 : mm_prog 64 4 = some (0, .bipush 24, 6, []) := by decide +kernel
theorem xe_64_4 (a0 a1 : Option MV) (st : List MV) (μ : MM) (G : MG) : ev 64 4 [a0, a1] st μ G = ev 64 6 [a0, a1] (vI (24) :: st) μ G := ev_stp pg_64_4 rfl
theorem pg_64_6 : mm_prog 64 6 = some (0, .idiv, 7, []) := by decide +kernel
theorem xe_64_6 (a0 a1 : Option MV) (x y : Int) (st : List MV) (μ : MM) (G : MG) : ev 64 6 [a0, a1] (vI y :: vI x :: st) μ G = if y = 0 then none else ev 64 7 [a0, a1] (vI (mm_div x y) :: st) μ G := ev_no pg_64_6 rfl
theorem pg_64_7 : mm_prog 64 7 = some (0, .bipush 8, 9, []) := by decide +kernel
theorem xe_64_7 (a0 a1 : Option MV) (st : List MV) (μ : MM) (G : MG) : ev 64 7 [a0, a1] st μ G = ev 64 9 [a0, a1] (vI (8) :: st) μ G := ev_stp pg_64_7 rfl
theorem pg_64_9 : mm_prog 64 9 = some (0, .imul, 10, []) := by decide +kernel
theorem xe_64_9 (a0 a1 : Option MV) (x y : Int) (st : List MV) (μ : MM) (G : MG) : ev 64 9 [a0, a1] (vI y :: vI x :: st) μ G = ev 64 10 [a0, a1] (vI (w32 (x * y)) :: st) μ G := ev_stp pg_64_9 rfl
theorem pg_64_10 : mm_prog 64 10 = some (0, .if_icmp .ne 5, 13, []) := by decide +kernel
theorem xe_64_10 (a0 a1 : Option MV) (x y : Int) (st : List MV) (μ : MM) (G : MG) : ev 64 10 [a0, a1] (vI y :: vI x :: st) μ G = if ¬ x = y then ev 64 15 [a0, a1] st μ G else ev 64 13 [a0, a1] st μ G := ev_br (mm_cnd_ne x y) pg_64_10 rfl
theorem pg_64_13 : mm_prog 64 13 = some (0, .iconst 4, 14, []) := by decide +kernel
theorem xe_64_13 (a0 a1 : Option MV) (st : List MV) (μ : MM) (G : MG) : ev 64 13 [a0, a1] st μ G = ev 64 14 [a0, a1] (vI (4) :: st) μ G := ev_stp pg_64_13 rfl
theorem pg_64_14 : mm_prog 64 14 = some (2, .ireturn, 15, [0]) := by decide +kernel
theorem xe_64_14 (a0 a1 : Option MV) (x : Int) (μ : MM) (G : MG) : ev 64 14 [a0, a1] [vI x] μ G = some (some (vI x), μ, G) := ev_ret pg_64_14 rfl
theorem pg_64_15 : mm_prog 64 15 = some (0, .iload_n 0, 16, []) := by decide +kernel
theorem xe_64_15 (a1 : Option MV) (x : Int) (st : List MV) (μ : MM) (G : MG) : ev 64 15 [some (vI x), a1] st μ G = ev 64 16 [some (vI x), a1] (vI x :: st) μ G := ev_stp pg_64_15 rfl
theorem pg_64_16 : mm_prog 64 16 = some (0, .iload_n 1, 17, []) := by decide +kernel
theorem xe_64_16 (a0 : Option MV) (x : Int) (st : List MV) (μ : MM) (G : MG) : ev 64 16 [a0, some (vI x)] st μ G = ev 64 17 [a0, some (vI x)] (vI x :: st) μ G := ev_stp pg_64_16 rfl
theorem pg_64_17 : mm_prog 64 17 = some (0, .bipush 16, 19, []) := by decide +kernel
theorem xe_64_17 (a0 a1 : Option MV) (st : List MV) (μ : MM) (G : MG) : ev 64 17 [a0, a1] st μ G = ev 64 19 [a0, a1] (vI (16) :: st) μ G := ev_stp pg_64_17 rfl
theorem pg_64_19 : mm_prog 64 19 = some (0, .imul, 20, []) := by decide +kernel
theorem xe_64_19 (a0 a1 : Option MV) (x y : Int) (st : List MV) (μ : MM) (G : MG) : ev 64 19 [a0, a1] (vI y :: vI x :: st) μ G = ev 64 20 [a0, a1] (vI (w32 (x * y)) :: st) μ G := ev_stp pg_64_19 rfl
theorem pg_64_20 : mm_prog 64 20 = some (0, .bipush 72, 22, []) := by decide +kernel
theorem xe_64_20 (a0 a1 : Option MV) (st : List MV) (μ : MM) (G : MG) : ev 64 20 [a0, a1] st μ G = ev 64 22 [a0, a1] (vI (72) :: st) μ G := ev_stp pg_64_20 rfl
theorem pg_64_22 : mm_prog 64 22 = some (0, .idiv, 23, []) := by decide +kernel
theorem xe_64_22 (a0 a1 : Option MV) (x y : Int) (st : List MV) (μ : MM) (G : MG) : ev 64 22 [a0, a1] (vI y :: vI x :: st) μ G = if y = 0 then none else ev 64 23 [a0, a1] (vI (mm_div x y) :: st) μ G := ev_no pg_64_22 rfl
theorem pg_64_23 : mm_prog 64 23 = some (0, .bipush 8, 25, []) := by decide +kernel
theorem xe_64_23 (a0 a1 : Option MV) (st : List MV) (μ : MM) (G : MG) : ev 64 23 [a0, a1] st μ G = ev 64 25 [a0, a1] (vI (8) :: st) μ G := ev_stp pg_64_23 rfl
theorem pg_64_25 : mm_prog 64 25 = some (0, .imul, 26, []) := by decide +kernel
theorem xe_64_25 (a0 a1 : Option MV) (x y : Int) (st : List MV) (μ : MM) (G : MG) : ev 64 25 [a0, a1] (vI y :: vI x :: st) μ G = ev 64 26 [a0, a1] (vI (w32 (x * y)) :: st) μ G := ev_stp pg_64_25 rfl
theorem pg_64_26 : mm_prog 64 26 = some (0, .if_icmp .ne 5, 29, []) := by decide +kernel
theorem xe_64_26 (a0 a1 : Option MV) (x y : Int) (st : List MV) (μ : MM) (G : MG) : ev 64 26 [a0, a1] (vI y :: vI x :: st) μ G = if ¬ x = y then ev 64 31 [a0, a1] st μ G else ev 64 29 [a0, a1] st μ G := ev_br (mm_cnd_ne x y) pg_64_26 rfl
theorem pg_64_29 : mm_prog 64 29 = some (0, .iconst 5, 30, []) := by decide +kernel
theorem xe_64_29 (a0 a1 : Option MV) (st : List MV) (μ : MM) (G : MG) : ev 64 29 [a0, a1] st μ G = ev 64 30 [a0, a1] (vI (5) :: st) μ G := ev_stp pg_64_29 rfl
theorem pg_64_30 : mm_prog 64 30 = some (2, .ireturn, 31, [0]) := by decide +kernel
theorem xe_64_30 (a0 a1 : Option MV) (x : Int) (μ : MM) (G : MG) : ev 64 30 [a0, a1] [vI x] μ G = some (some (vI x), μ, G) := ev_ret pg_64_30 rfl
theorem pg_64_31 : mm_prog 64 31 = some (0, .iload_n 0, 32, []) := by decide +kernel
theorem xe_64_31 (a1 : Option MV) (x : Int) (st : List MV) (μ : MM) (G : MG) : ev 64 31 [some (vI x), a1] st μ G = ev 64 32 [some (vI x), a1] (vI x :: st) μ G := ev_stp pg_64_31 rfl
theorem pg_64_32 : mm_prog 64 32 = some (0, .iload_n 1, 33, []) := by decide +kernel
theorem xe_64_32 (a0 : Option MV) (x : Int) (st : List MV) (μ : MM) (G : MG) : ev 64 32 [a0, some (vI x)] st μ G = ev 64 33 [a0, some (vI x)] (vI x :: st) μ G := ev_stp pg_64_32 rfl
theorem pg_64_33 : mm_prog 64 33 = some (0, .bipush 16, 35, []) := by decide +kernel
theorem xe_64_33 (a0 a1 : Option MV) (st : List MV) (μ : MM) (G : MG) : ev 64 33 [a0, a1] st μ G = ev 64 35 [a0, a1] (vI (16) :: st) μ G := ev_stp pg_64_33 rfl
theorem pg_64_35 : mm_prog 64 35 = some (0, .imul, 36, []) := by decide +kernel
theorem xe_64_35 (a0 a1 : Option MV) (x y : Int) (st : List MV) (μ : MM) (G : MG) : ev 64 35 [a0, a1] (vI y :: vI x :: st) μ G = ev 64 36 [a0, a1] (vI (w32 (x * y)) :: st) μ G := ev_stp pg_64_35 rfl
theorem pg_64_36 : mm_prog 64 36 = some (0, .bipush 80, 38, []) := by decide +kernel
theorem xe_64_36 (a0 a1 : Option MV) (st : List MV) (μ : MM) (G : MG) : ev 64 36 [a0, a1] st μ G = ev 64 38 [a0, a1] (vI (80) :: st) μ G := ev_stp pg_64_36 rfl
theorem pg_64_38 : mm_prog 64 38 = some (0, .idiv, 39, []) := by decide +kernel
theorem xe_64_38 (a0 a1 : Option MV) (x y : Int) (st : List MV) (μ : MM) (G : MG) : ev 64 38 [a0, a1] (vI y :: vI x :: st) μ G = if y = 0 then none else ev 64 39 [a0, a1] (vI (mm_div x y) :: st) μ G := ev_no pg_64_38 rfl
theorem pg_64_39 : mm_prog 64 39 = some (0, .bipush 8, 41, []) := by decide +kernel
theorem xe_64_39 (a0 a1 : Option MV) (st : List MV) (μ : MM) (G : MG) : ev 64 39 [a0, a1] st μ G = ev 64 41 [a0, a1] (vI (8) :: st) μ G := ev_stp pg_64_39 rfl
theorem pg_64_41 : mm_prog 64 41 = some (0, .imul, 42, []) := by decide +kernel
theorem xe_64_41 (a0 a1 : Option MV) (x y : Int) (st : List MV) (μ : MM) (G : MG) : ev 64 41 [a0, a1] (vI y :: vI x :: st) μ G = ev 64 42 [a0, a1] (vI (w32 (x * y)) :: st) μ G := ev_stp pg_64_41 rfl
theorem pg_64_42 : mm_prog 64 42 = some (0, .if_icmp .ne 6, 45, []) := by decide +kernel
theorem xe_64_42 (a0 a1 : Option MV) (x y : Int) (st : List MV) (μ : MM) (G : MG) : ev 64 42 [a0, a1] (vI y :: vI x :: st) μ G = if ¬ x = y then ev 64 48 [a0, a1] st μ G else ev 64 45 [a0, a1] st μ G := ev_br (mm_cnd_ne x y) pg_64_42 rfl
theorem pg_64_45 : mm_prog 64 45 = some (0, .bipush 6, 47, []) := by decide +kernel
theorem xe_64_45 (a0 a1 : Option MV) (st : List MV) (μ : MM) (G : MG) : ev 64 45 [a0, a1] st μ G = ev 64 47 [a0, a1] (vI (6) :: st) μ G := ev_stp pg_64_45 rfl
theorem pg_64_47 : mm_prog 64 47 = some (2, .ireturn, 48, [0]) := by decide +kernel
theorem xe_64_47 (a0 a1 : Option MV) (x : Int) (μ : MM) (G : MG) : ev 64 47 [a0, a1] [vI x] μ G = some (some (vI x), μ, G) := ev_ret pg_64_47 rfl
theorem pg_64_48 : mm_prog 64 48 = some (0, .iload_n 0, 49, []) := by decide +kernel
theorem xe_64_48 (a1 : Option MV) (x : Int) (st : List MV) (μ : MM) (G : MG) : ev 64 48 [some (vI x), a1] st μ G = ev 64 49 [some (vI x), a1] (vI x :: st) μ G := ev_stp pg_64_48 rfl
theorem pg_64_49 : mm_prog 64 49 = some (0, .iload_n 1, 50, []) := by decide +kernel
theorem xe_64_49 (a0 : Option MV) (x : Int) (st : List MV) (μ : MM) (G : MG) : ev 64 49 [a0, some (vI x)] st μ G = ev 64 50 [a0, some (vI x)] (vI x :: st) μ G := ev_stp pg_64_49 rfl
theorem pg_64_50 : mm_prog 64 50 = some (0, .iconst 5, 51, []) := by decide +kernel
theorem xe_64_50 (a0 a1 : Option MV) (st : List MV) (μ : MM) (G : MG) : ev 64 50 [a0, a1] st μ G = ev 64 51 [a0, a1] (vI (5) :: st) μ G := ev_stp pg_64_50 rfl
theorem pg_64_51 : mm_prog 64 51 = some (0, .imul, 52, []) := by decide +kernel
theorem xe_64_51 (a0 a1 : Option MV) (x y : Int) (st : List MV) (μ : MM) (G : MG) : ev 64 51 [a0, a1] (vI y :: vI x :: st) μ G = ev 64 52 [a0, a1] (vI (w32 (x * y)) :: st) μ G := ev_stp pg_64_51 rfl
theorem pg_64_52 : mm_prog 64 52 = some (0, .bipush 32, 54, []) := by decide +kernel
theorem xe_64_52 (a0 a1 : Option MV) (st : List MV) (μ : MM) (G : MG) : ev 64 52 [a0, a1] st μ G = ev 64 54 [a0, a1] (vI (32) :: st) μ G := ev_stp pg_64_52 rfl
theorem pg_64_54 : mm_prog 64 54 = some (0, .idiv, 55, []) := by decide +kernel
theorem xe_64_54 (a0 a1 : Option MV) (x y : Int) (st : List MV) (μ : MM) (G : MG) : ev 64 54 [a0, a1] (vI y :: vI x :: st) μ G = if y = 0 then none else ev 64 55 [a0, a1] (vI (mm_div x y) :: st) μ G := ev_no pg_64_54 rfl
theorem pg_64_55 : mm_prog 64 55 = some (0, .bipush 8, 57, []) := by decide +kernel
theorem xe_64_55 (a0 a1 : Option MV) (st : List MV) (μ : MM) (G : MG) : ev 64 55 [a0, a1] st μ G = ev 64 57 [a0, a1] (vI (8) :: st) μ G := ev_stp pg_64_55 rfl
theorem pg_64_57 : mm_prog 64 57 = some (0, .imul, 58, []) := by decide +kernel
theorem xe_64_57 (a0 a1 : Option MV) (x y : Int) (st : List MV) (μ : MM) (G : MG) : ev 64 57 [a0, a1] (vI y :: vI x :: st) μ G = ev 64 58 [a0, a1] (vI (w32 (x * y)) :: st) μ G := ev_stp pg_64_57 rfl
theorem pg_64_58 : mm_prog 64 58 = some (0, .if_icmp .eq 17, 61, []) := by decide +kernel
theorem xe_64_58 (a0 a1 : Option MV) (x y : Int) (st : List MV) (μ : MM) (G : MG) : ev 64 58 [a0, a1] (vI y :: vI x :: st) μ G = if x = y then ev 64 75 [a0, a1] st μ G else ev 64 61 [a0, a1] st μ G := ev_br (mm_cnd_eq x y) pg_64_58 rfl
theorem pg_64_61 : mm_prog 64 61 = some (0, .iload_n 0, 62, []) := by decide +kernel
theorem xe_64_61 (a1 : Option MV) (x : Int) (st : List MV) (μ : MM) (G : MG) : ev 64 61 [some (vI x), a1] st μ G = ev 64 62 [some (vI x), a1] (vI x :: st) μ G := ev_stp pg_64_61 rfl
theorem pg_64_62 : mm_prog 64 62 = some (0, .iload_n 1, 63, []) := by decide +kernel
theorem xe_64_62 (a0 : Option MV) (x : Int) (st : List MV) (μ : MM) (G : MG) : ev 64 62 [a0, some (vI x)] st μ G = ev 64 63 [a0, some (vI x)] (vI x :: st) μ G := ev_stp pg_64_62 rfl
theorem pg_64_63 : mm_prog 64 63 = some (0, .bipush 15, 65, []) := by decide +kernel
theorem xe_64_63 (a0 a1 : Option MV) (st : List MV) (μ : MM) (G : MG) : ev 64 63 [a0, a1] st μ G = ev 64 65 [a0, a1] (vI (15) :: st) μ G := ev_stp pg_64_63 rfl
theorem pg_64_65 : mm_prog 64 65 = some (0, .imul, 66, []) := by decide +kernel
theorem xe_64_65 (a0 a1 : Option MV) (x y : Int) (st : List MV) (μ : MM) (G : MG) : ev 64 65 [a0, a1] (vI y :: vI x :: st) μ G = ev 64 66 [a0, a1] (vI (w32 (x * y)) :: st) μ G := ev_stp pg_64_65 rfl
theorem pg_64_66 : mm_prog 64 66 = some (0, .bipush 72, 68, []) := by decide +kernel
theorem xe_64_66 (a0 a1 : Option MV) (st : List MV) (μ : MM) (G : MG) : ev 64 66 [a0, a1] st μ G = ev 64 68 [a0, a1] (vI (72) :: st) μ G := ev_stp pg_64_66 rfl
theorem pg_64_68 : mm_prog 64 68 = some (0, .idiv, 69, []) := by decide +kernel
theorem xe_64_68 (a0 a1 : Option MV) (x y : Int) (st : List MV) (μ : MM) (G : MG) : ev 64 68 [a0, a1] (vI y :: vI x :: st) μ G = if y = 0 then none else ev 64 69 [a0, a1] (vI (mm_div x y) :: st) μ G := ev_no pg_64_68 rfl
theorem pg_64_69 : mm_prog 64 69 = some (0, .bipush 8, 71, []) := by decide +kernel
theorem xe_64_69 (a0 a1 : Option MV) (st : List MV) (μ : MM) (G : MG) : ev 64 69 [a0, a1] st μ G = ev 64 71 [a0, a1] (vI (8) :: st) μ G := ev_stp pg_64_69 rfl
theorem pg_64_71 : mm_prog 64 71 = some (0, .imul, 72, []) := by decide +kernel
theorem xe_64_71 (a0 a1 : Option MV) (x y : Int) (st : List MV) (μ : MM) (G : MG) : ev 64 71 [a0, a1] (vI y :: vI x :: st) μ G = ev 64 72 [a0, a1] (vI (w32 (x * y)) :: st) μ G := ev_stp pg_64_71 rfl
theorem pg_64_72 : mm_prog 64 72 = some (0, .if_icmp .ne 8, 75, []) := by decide +kernel
theorem xe_64_72 (a0 a1 : Option MV) (x y : Int) (st : List MV) (μ : MM) (G : MG) : ev 64 72 [a0, a1] (vI y :: vI x :: st) μ G = if ¬ x = y then ev 64 80 [a0, a1] st μ G else ev 64 75 [a0, a1] st μ G := ev_br (mm_cnd_ne x y) pg_64_72 rfl
theorem pg_64_75 : mm_prog 64 75 = some (0, .bipush 7, 77, []) := by decide +kernel
theorem xe_64_75 (a0 a1 : Option MV) (st : List MV) (μ : MM) (G : MG) : ev 64 75 [a0, a1] st μ G = ev 64 77 [a0, a1] (vI (7) :: st) μ G := ev_stp pg_64_75 rfl
theorem pg_64_77 : mm_prog 64 77 = some (0, .goto 5, 80, []) := by decide +kernel
theorem xe_64_77 (a0 a1 : Option MV) (st : List MV) (μ : MM) (G : MG) : ev 64 77 [a0, a1] st μ G = ev 64 82 [a0, a1] st μ G := ev_stp pg_64_77 rfl
theorem pg_64_80 : mm_prog 64 80 = some (0, .bipush 10, 82, []) := by decide +kernel
theorem xe_64_80 (a0 a1 : Option MV) (st : List MV) (μ : MM) (G : MG) : ev 64 80 [a0, a1] st μ G = ev 64 82 [a0, a1] (vI (10) :: st) μ G := ev_stp pg_64_80 rfl
theorem pg_64_82 : mm_prog 64 82 = some (2, .ireturn, 83, [0]) := by decide +kernel
theorem xe_64_82 (a0 a1 : Option MV) (x : Int) (μ : MM) (G : MG) : ev 64 82 [a0, a1] [vI x] μ G = some (some (vI x), μ, G) := ev_ret pg_64_82 rfl
-- X7_copy
theorem pg_65_0 : mm_prog 65 0 = some (0, .aload_n 0, 1, []) := by decide +kernel
theorem xe_65_0 (a1 : Option MV) (x : Int) (st : List MV) (μ : MM) (G : MG) : ev 65 0 [some (vR x), a1] st μ G = ev 65 1 [some (vR x), a1] (vR x :: st) μ G := ev_stp pg_65_0 rfl
theorem pg_65_1 : mm_prog 65 1 = some (0, .aload_n 1, 2, []) := by decide +kernel
theorem xe_65_1 (a0 : Option MV) (x : Int) (st : List MV) (μ : MM) (G : MG) : ev 65 1 [a0, some (vR x)] st μ G = ev 65 2 [a0, some (vR x)] (vR x :: st) μ G := ev_stp pg_65_1 rfl
theorem pg_65_2 : mm_prog 65 2 = some (0, .getfield 15, 5, [7, 0, 0]) := by decide +kernel
theorem xe_65_2 (a0 a1 : Option MV) (x : Int) (st : List MV) (μ : MM) (G : MG) : ev 65 2 [a0, a1] (vR x :: st) μ G = if gk G x = 7 then ev 65 5 [a0, a1] (vI (μ x 0) :: st) μ G else none := ev_if pg_65_2 rfl
theorem pg_65_5 : mm_prog 65 5 = some (0, .putfield 15, 8, [7, 0, 0]) := by decide +kernel
theorem xe_65_5 (a0 a1 : Option MV) (x y : Int) (st : List MV) (μ : MM) (G : MG) : ev 65 5 [a0, a1] (vI x :: vR y :: st) μ G = if gk G y = 7 then ev 65 8 [a0, a1] st (mset μ y 0 x) G else none := ev_put0 pg_65_5
theorem pg_65_8 : mm_prog 65 8 = some (0, .aload_n 0, 9, []) := by decide +kernel
theorem xe_65_8 (a1 : Option MV) (x : Int) (st : List MV) (μ : MM) (G : MG) : ev 65 8 [some (vR x), a1] st μ G = ev 65 9 [some (vR x), a1] (vR x :: st) μ G := ev_stp pg_65_8 rfl
theorem pg_65_9 : mm_prog 65 9 = some (0, .aload_n 1, 10, []) := by decide +kernel
theorem xe_65_9 (a0 : Option MV) (x : Int) (st : List MV) (μ : MM) (G : MG) : ev 65 9 [a0, some (vR x)] st μ G = ev 65 10 [a0, some (vR x)] (vR x :: st) μ G := ev_stp pg_65_9 rfl
theorem pg_65_10 : mm_prog 65 10 = some (0, .getfield 21, 13, [7, 1, 0]) := by decide +kernel
theorem xe_65_10 (a0 a1 : Option MV) (x : Int) (st : List MV) (μ : MM) (G : MG) : ev 65 10 [a0, a1] (vR x :: st) μ G = if gk G x = 7 then ev 65 13 [a0, a1] (vI (μ x 1) :: st) μ G else none := ev_if pg_65_10 rfl
theorem pg_65_13 : mm_prog 65 13 = some (0, .putfield 21, 16, [7, 1, 0]) := by decide +kernel
theorem xe_65_13 (a0 a1 : Option MV) (x y : Int) (st : List MV) (μ : MM) (G : MG) : ev 65 13 [a0, a1] (vI x :: vR y :: st) μ G = if gk G y = 7 then ev 65 16 [a0, a1] st (mset μ y 1 x) G else none := ev_put0 pg_65_13
theorem pg_65_16 : mm_prog 65 16 = some (0, .aload_n 0, 17, []) := by decide +kernel
theorem xe_65_16 (a1 : Option MV) (x : Int) (st : List MV) (μ : MM) (G : MG) : ev 65 16 [some (vR x), a1] st μ G = ev 65 17 [some (vR x), a1] (vR x :: st) μ G := ev_stp pg_65_16 rfl
theorem pg_65_17 : mm_prog 65 17 = some (0, .aload_n 1, 18, []) := by decide +kernel
theorem xe_65_17 (a0 : Option MV) (x : Int) (st : List MV) (μ : MM) (G : MG) : ev 65 17 [a0, some (vR x)] st μ G = ev 65 18 [a0, some (vR x)] (vR x :: st) μ G := ev_stp pg_65_17 rfl
theorem pg_65_18 : mm_prog 65 18 = some (0, .getfield 24, 21, [7, 2, 0]) := by decide +kernel
theorem xe_65_18 (a0 a1 : Option MV) (x : Int) (st : List MV) (μ : MM) (G : MG) : ev 65 18 [a0, a1] (vR x :: st) μ G = if gk G x = 7 then ev 65 21 [a0, a1] (vI (μ x 2) :: st) μ G else none := ev_if pg_65_18 rfl
theorem pg_65_21 : mm_prog 65 21 = some (0, .putfield 24, 24, [7, 2, 0]) := by decide +kernel
theorem xe_65_21 (a0 a1 : Option MV) (x y : Int) (st : List MV) (μ : MM) (G : MG) : ev 65 21 [a0, a1] (vI x :: vR y :: st) μ G = if gk G y = 7 then ev 65 24 [a0, a1] st (mset μ y 2 x) G else none := ev_put0 pg_65_21
theorem pg_65_24 : mm_prog 65 24 = some (0, .aload_n 0, 25, []) := by decide +kernel
theorem xe_65_24 (a1 : Option MV) (x : Int) (st : List MV) (μ : MM) (G : MG) : ev 65 24 [some (vR x), a1] st μ G = ev 65 25 [some (vR x), a1] (vR x :: st) μ G := ev_stp pg_65_24 rfl
theorem pg_65_25 : mm_prog 65 25 = some (0, .aload_n 1, 26, []) := by decide +kernel
theorem xe_65_25 (a0 : Option MV) (x : Int) (st : List MV) (μ : MM) (G : MG) : ev 65 25 [a0, some (vR x)] st μ G = ev 65 26 [a0, some (vR x)] (vR x :: st) μ G := ev_stp pg_65_25 rfl
theorem pg_65_26 : mm_prog 65 26 = some (0, .getfield 33, 29, [7, 3, 0]) := by decide +kernel
theorem xe_65_26 (a0 a1 : Option MV) (x : Int) (st : List MV) (μ : MM) (G : MG) : ev 65 26 [a0, a1] (vR x :: st) μ G = if gk G x = 7 then ev 65 29 [a0, a1] (vI (μ x 3) :: st) μ G else none := ev_if pg_65_26 rfl
theorem pg_65_29 : mm_prog 65 29 = some (0, .putfield 33, 32, [7, 3, 0]) := by decide +kernel
theorem xe_65_29 (a0 a1 : Option MV) (x y : Int) (st : List MV) (μ : MM) (G : MG) : ev 65 29 [a0, a1] (vI x :: vR y :: st) μ G = if gk G y = 7 then ev 65 32 [a0, a1] st (mset μ y 3 x) G else none := ev_put0 pg_65_29
theorem pg_65_32 : mm_prog 65 32 = some (0, .aload_n 0, 33, []) := by decide +kernel
theorem xe_65_32 (a1 : Option MV) (x : Int) (st : List MV) (μ : MM) (G : MG) : ev 65 32 [some (vR x), a1] st μ G = ev 65 33 [some (vR x), a1] (vR x :: st) μ G := ev_stp pg_65_32 rfl
theorem pg_65_33 : mm_prog 65 33 = some (0, .aload_n 1, 34, []) := by decide +kernel
theorem xe_65_33 (a0 : Option MV) (x : Int) (st : List MV) (μ : MM) (G : MG) : ev 65 33 [a0, some (vR x)] st μ G = ev 65 34 [a0, some (vR x)] (vR x :: st) μ G := ev_stp pg_65_33 rfl
theorem pg_65_34 : mm_prog 65 34 = some (0, .getfield 36, 37, [7, 4, 0]) := by decide +kernel
theorem xe_65_34 (a0 a1 : Option MV) (x : Int) (st : List MV) (μ : MM) (G : MG) : ev 65 34 [a0, a1] (vR x :: st) μ G = if gk G x = 7 then ev 65 37 [a0, a1] (vI (μ x 4) :: st) μ G else none := ev_if pg_65_34 rfl
theorem pg_65_37 : mm_prog 65 37 = some (0, .putfield 36, 40, [7, 4, 0]) := by decide +kernel
theorem xe_65_37 (a0 a1 : Option MV) (x y : Int) (st : List MV) (μ : MM) (G : MG) : ev 65 37 [a0, a1] (vI x :: vR y :: st) μ G = if gk G y = 7 then ev 65 40 [a0, a1] st (mset μ y 4 x) G else none := ev_put0 pg_65_37
theorem pg_65_40 : mm_prog 65 40 = some (0, .aload_n 0, 41, []) := by decide +kernel
theorem xe_65_40 (a1 : Option MV) (x : Int) (st : List MV) (μ : MM) (G : MG) : ev 65 40 [some (vR x), a1] st μ G = ev 65 41 [some (vR x), a1] (vR x :: st) μ G := ev_stp pg_65_40 rfl
theorem pg_65_41 : mm_prog 65 41 = some (0, .aload_n 1, 42, []) := by decide +kernel
theorem xe_65_41 (a0 : Option MV) (x : Int) (st : List MV) (μ : MM) (G : MG) : ev 65 41 [a0, some (vR x)] st μ G = ev 65 42 [a0, some (vR x)] (vR x :: st) μ G := ev_stp pg_65_41 rfl
theorem pg_65_42 : mm_prog 65 42 = some (0, .getfield 27, 45, [7, 5, 0]) := by decide +kernel
theorem xe_65_42 (a0 a1 : Option MV) (x : Int) (st : List MV) (μ : MM) (G : MG) : ev 65 42 [a0, a1] (vR x :: st) μ G = if gk G x = 7 then ev 65 45 [a0, a1] (vI (μ x 5) :: st) μ G else none := ev_if pg_65_42 rfl
theorem pg_65_45 : mm_prog 65 45 = some (0, .putfield 27, 48, [7, 5, 0]) := by decide +kernel
theorem xe_65_45 (a0 a1 : Option MV) (x y : Int) (st : List MV) (μ : MM) (G : MG) : ev 65 45 [a0, a1] (vI x :: vR y :: st) μ G = if gk G y = 7 then ev 65 48 [a0, a1] st (mset μ y 5 x) G else none := ev_put0 pg_65_45
theorem pg_65_48 : mm_prog 65 48 = some (0, .aload_n 0, 49, []) := by decide +kernel
theorem xe_65_48 (a1 : Option MV) (x : Int) (st : List MV) (μ : MM) (G : MG) : ev 65 48 [some (vR x), a1] st μ G = ev 65 49 [some (vR x), a1] (vR x :: st) μ G := ev_stp pg_65_48 rfl
theorem pg_65_49 : mm_prog 65 49 = some (0, .aload_n 1, 50, []) := by decide +kernel
theorem xe_65_49 (a0 : Option MV) (x : Int) (st : List MV) (μ : MM) (G : MG) : ev 65 49 [a0, some (vR x)] st μ G = ev 65 50 [a0, some (vR x)] (vR x :: st) μ G := ev_stp pg_65_49 rfl
theorem pg_65_50 : mm_prog 65 50 = some (0, .getfield 30, 53, [7, 6, 0]) := by decide +kernel
theorem xe_65_50 (a0 a1 : Option MV) (x : Int) (st : List MV) (μ : MM) (G : MG) : ev 65 50 [a0, a1] (vR x :: st) μ G = if gk G x = 7 then ev 65 53 [a0, a1] (vI (μ x 6) :: st) μ G else none := ev_if pg_65_50 rfl
theorem pg_65_53 : mm_prog 65 53 = some (0, .putfield 30, 56, [7, 6, 0]) := by decide +kernel
theorem xe_65_53 (a0 a1 : Option MV) (x y : Int) (st : List MV) (μ : MM) (G : MG) : ev 65 53 [a0, a1] (vI x :: vR y :: st) μ G = if gk G y = 7 then ev 65 56 [a0, a1] st (mset μ y 6 x) G else none := ev_put0 pg_65_53
theorem pg_65_56 : mm_prog 65 56 = some (0, .aload_n 0, 57, []) := by decide +kernel
theorem xe_65_56 (a1 : Option MV) (x : Int) (st : List MV) (μ : MM) (G : MG) : ev 65 56 [some (vR x), a1] st μ G = ev 65 57 [some (vR x), a1] (vR x :: st) μ G := ev_stp pg_65_56 rfl
theorem pg_65_57 : mm_prog 65 57 = some (0, .aload_n 1, 58, []) := by decide +kernel
theorem xe_65_57 (a0 : Option MV) (x : Int) (st : List MV) (μ : MM) (G : MG) : ev 65 57 [a0, some (vR x)] st μ G = ev 65 58 [a0, some (vR x)] (vR x :: st) μ G := ev_stp pg_65_57 rfl
theorem pg_65_58 : mm_prog 65 58 = some (0, .getfield 39, 61, [7, 7, 0]) := by decide +kernel
theorem xe_65_58 (a0 a1 : Option MV) (x : Int) (st : List MV) (μ : MM) (G : MG) : ev 65 58 [a0, a1] (vR x :: st) μ G = if gk G x = 7 then ev 65 61 [a0, a1] (vI (μ x 7) :: st) μ G else none := ev_if pg_65_58 rfl
theorem pg_65_61 : mm_prog 65 61 = some (0, .putfield 39, 64, [7, 7, 0]) := by decide +kernel
theorem xe_65_61 (a0 a1 : Option MV) (x y : Int) (st : List MV) (μ : MM) (G : MG) : ev 65 61 [a0, a1] (vI x :: vR y :: st) μ G = if gk G y = 7 then ev 65 64 [a0, a1] st (mset μ y 7 x) G else none := ev_put0 pg_65_61
theorem pg_65_64 : mm_prog 65 64 = some (0, .aload_n 0, 65, []) := by decide +kernel
theorem xe_65_64 (a1 : Option MV) (x : Int) (st : List MV) (μ : MM) (G : MG) : ev 65 64 [some (vR x), a1] st μ G = ev 65 65 [some (vR x), a1] (vR x :: st) μ G := ev_stp pg_65_64 rfl
theorem pg_65_65 : mm_prog 65 65 = some (0, .aload_n 1, 66, []) := by decide +kernel
theorem xe_65_65 (a0 : Option MV) (x : Int) (st : List MV) (μ : MM) (G : MG) : ev 65 65 [a0, some (vR x)] st μ G = ev 65 66 [a0, some (vR x)] (vR x :: st) μ G := ev_stp pg_65_65 rfl
theorem pg_65_66 : mm_prog 65 66 = some (0, .getfield 42, 69, [7, 8, 0]) := by decide +kernel
theorem xe_65_66 (a0 a1 : Option MV) (x : Int) (st : List MV) (μ : MM) (G : MG) : ev 65 66 [a0, a1] (vR x :: st) μ G = if gk G x = 7 then ev 65 69 [a0, a1] (vI (μ x 8) :: st) μ G else none := ev_if pg_65_66 rfl
theorem pg_65_69 : mm_prog 65 69 = some (0, .putfield 42, 72, [7, 8, 0]) := by decide +kernel
theorem xe_65_69 (a0 a1 : Option MV) (x y : Int) (st : List MV) (μ : MM) (G : MG) : ev 65 69 [a0, a1] (vI x :: vR y :: st) μ G = if gk G y = 7 then ev 65 72 [a0, a1] st (mset μ y 8 x) G else none := ev_put0 pg_65_69
theorem pg_65_72 : mm_prog 65 72 = some (0, .aload_n 0, 73, []) := by decide +kernel
theorem xe_65_72 (a1 : Option MV) (x : Int) (st : List MV) (μ : MM) (G : MG) : ev 65 72 [some (vR x), a1] st μ G = ev 65 73 [some (vR x), a1] (vR x :: st) μ G := ev_stp pg_65_72 rfl
theorem pg_65_73 : mm_prog 65 73 = some (0, .aload_n 1, 74, []) := by decide +kernel
theorem xe_65_73 (a0 : Option MV) (x : Int) (st : List MV) (μ : MM) (G : MG) : ev 65 73 [a0, some (vR x)] st μ G = ev 65 74 [a0, some (vR x)] (vR x :: st) μ G := ev_stp pg_65_73 rfl
theorem pg_65_74 : mm_prog 65 74 = some (0, .getfield 45, 77, [7, 9, 1]) := by decide +kernel
theorem xe_65_74 (a0 a1 : Option MV) (x : Int) (st : List MV) (μ : MM) (G : MG) : ev 65 74 [a0, a1] (vR x :: st) μ G = if gk G x = 7 then ev 65 77 [a0, a1] (vI (μ x 9) :: st) μ G else none := ev_if pg_65_74 rfl
theorem pg_65_77 : mm_prog 65 77 = some (0, .putfield 45, 80, [7, 9, 1]) := by decide +kernel
theorem xe_65_77 (a0 a1 : Option MV) (x y : Int) (st : List MV) (μ : MM) (G : MG) : ev 65 77 [a0, a1] (vI x :: vR y :: st) μ G = if gk G y = 7 ∧ (x = 0 ∨ x = 1) then ev 65 80 [a0, a1] st (mset μ y 9 x) G else none := ev_put1 pg_65_77
theorem pg_65_80 : mm_prog 65 80 = some (2, .return_, 81, []) := by decide +kernel
theorem xe_65_80 (a0 a1 : Option MV) (μ : MM) (G : MG) : ev 65 80 [a0, a1] [] μ G = some (none, μ, G) := ev_ret pg_65_80 rfl
-- X7_setByTable
theorem pg_66_0 : mm_prog 66 0 = some (0, .iload_n 1, 1, []) := by decide +kernel
theorem xe_66_0 (a0 : Option MV) (x : Int) (st : List MV) (μ : MM) (G : MG) : ev 66 0 [a0, some (vI x)] st μ G = ev 66 1 [a0, some (vI x)] (vI x :: st) μ G := ev_stp pg_66_0 rfl
theorem pg_66_1 : mm_prog 66 1 = some (0, .ifCond .lt 14, 4, []) := by decide +kernel
theorem xe_66_1 (a0 a1 : Option MV) (x : Int) (st : List MV) (μ : MM) (G : MG) : ev 66 1 [a0, a1] (vI x :: st) μ G = if x < 0 then ev 66 15 [a0, a1] st μ G else ev 66 4 [a0, a1] st μ G := ev_br (mm_cnd_lt x 0) pg_66_1 rfl
theorem pg_66_4 : mm_prog 66 4 = some (0, .iload_n 1, 5, []) := by decide +kernel
theorem xe_66_4 (a0 : Option MV) (x : Int) (st : List MV) (μ : MM) (G : MG) : ev 66 4 [a0, some (vI x)] st μ G = ev 66 5 [a0, some (vI x)] (vI x :: st) μ G := ev_stp pg_66_4 rfl
theorem pg_66_5 : mm_prog 66 5 = some (0, .bipush 6, 7, []) := by decide +kernel
theorem xe_66_5 (a0 a1 : Option MV) (st : List MV) (μ : MM) (G : MG) : ev 66 5 [a0, a1] st μ G = ev 66 7 [a0, a1] (vI (6) :: st) μ G := ev_stp pg_66_5 rfl
theorem pg_66_7 : mm_prog 66 7 = some (0, .iadd, 8, []) := by decide +kernel
theorem xe_66_7 (a0 a1 : Option MV) (x y : Int) (st : List MV) (μ : MM) (G : MG) : ev 66 7 [a0, a1] (vI y :: vI x :: st) μ G = ev 66 8 [a0, a1] (vI (w32 (x + y)) :: st) μ G := ev_stp pg_66_7 rfl
theorem pg_66_8 : mm_prog 66 8 = some (0, .getstatic 73, 11, [2, 2]) := by decide +kernel
theorem xe_66_8 (a0 a1 : Option MV) (st : List MV) (μ : MM) (G : MG) : ev 66 8 [a0, a1] st μ G = ev 66 11 [a0, a1] (vR 2 :: st) μ G := ev_stp pg_66_8 rfl
theorem pg_66_11 : mm_prog 66 11 = some (0, .arraylength, 12, []) := by decide +kernel
theorem xe_66_11 (a0 a1 : Option MV) (x : Int) (st : List MV) (μ : MM) (G : MG) : ev 66 11 [a0, a1] (vR x :: st) μ G = if 100 ≤ gk G x then ev 66 12 [a0, a1] (vI (gl G x) :: st) μ G else none := ev_if pg_66_11 rfl
theorem pg_66_12 : mm_prog 66 12 = some (0, .if_icmp .le 4, 15, []) := by decide +kernel
theorem xe_66_12 (a0 a1 : Option MV) (x y : Int) (st : List MV) (μ : MM) (G : MG) : ev 66 12 [a0, a1] (vI y :: vI x :: st) μ G = if x ≤ y then ev 66 16 [a0, a1] st μ G else ev 66 15 [a0, a1] st μ G := ev_br (mm_cnd_le x y) pg_66_12 rfl
theorem pg_66_15 : mm_prog 66 15 = some (2, .return_, 16, []) := by decide +kernel
theorem xe_66_15 (a0 a1 : Option MV) (μ : MM) (G : MG) : ev 66 15 [a0, a1] [] μ G = some (none, μ, G) := ev_ret pg_66_15 rfl
theorem pg_66_16 : mm_prog 66 16 = some (0, .aload_n 0, 17, []) := by decide +kernel
theorem xe_66_16 (a1 : Option MV) (x : Int) (st : List MV) (μ : MM) (G : MG) : ev 66 16 [some (vR x), a1] st μ G = ev 66 17 [some (vR x), a1] (vR x :: st) μ G := ev_stp pg_66_16 rfl
theorem pg_66_17 : mm_prog 66 17 = some (0, .getstatic 73, 20, [2, 2]) := by decide +kernel
theorem xe_66_17 (a0 a1 : Option MV) (st : List MV) (μ : MM) (G : MG) : ev 66 17 [a0, a1] st μ G = ev 66 20 [a0, a1] (vR 2 :: st) μ G := ev_stp pg_66_17 rfl
theorem pg_66_20 : mm_prog 66 20 = some (0, .iload_n 1, 21, []) := by decide +kernel
theorem xe_66_20 (a0 : Option MV) (x : Int) (st : List MV) (μ : MM) (G : MG) : ev 66 20 [a0, some (vI x)] st μ G = ev 66 21 [a0, some (vI x)] (vI x :: st) μ G := ev_stp pg_66_20 rfl
theorem pg_66_21 : mm_prog 66 21 = some (0, .iconst 1, 22, []) := by decide +kernel
theorem xe_66_21 (a0 a1 : Option MV) (st : List MV) (μ : MM) (G : MG) : ev 66 21 [a0, a1] st μ G = ev 66 22 [a0, a1] (vI (1) :: st) μ G := ev_stp pg_66_21 rfl
theorem pg_66_22 : mm_prog 66 22 = some (0, .iadd, 23, []) := by decide +kernel
theorem xe_66_22 (a0 a1 : Option MV) (x y : Int) (st : List MV) (μ : MM) (G : MG) : ev 66 22 [a0, a1] (vI y :: vI x :: st) μ G = ev 66 23 [a0, a1] (vI (w32 (x + y)) :: st) μ G := ev_stp pg_66_22 rfl
theorem pg_66_23 : mm_prog 66 23 = some (0, .iaload, 24, []) := by decide +kernel
theorem xe_66_23 (a0 a1 : Option MV) (x y : Int) (st : List MV) (μ : MM) (G : MG) : ev 66 23 [a0, a1] (vI x :: vR y :: st) μ G = if gk G y = 100 ∧ 0 ≤ x ∧ x < gl G y then ev 66 24 [a0, a1] (vI (μ y x) :: st) μ G else none := ev_if pg_66_23 rfl
theorem pg_66_24 : mm_prog 66 24 = some (0, .putfield 21, 27, [7, 1, 0]) := by decide +kernel
theorem xe_66_24 (a0 a1 : Option MV) (x y : Int) (st : List MV) (μ : MM) (G : MG) : ev 66 24 [a0, a1] (vI x :: vR y :: st) μ G = if gk G y = 7 then ev 66 27 [a0, a1] st (mset μ y 1 x) G else none := ev_put0 pg_66_24
theorem pg_66_27 : mm_prog 66 27 = some (0, .aload_n 0, 28, []) := by decide +kernel
theorem xe_66_27 (a1 : Option MV) (x : Int) (st : List MV) (μ : MM) (G : MG) : ev 66 27 [some (vR x), a1] st μ G = ev 66 28 [some (vR x), a1] (vR x :: st) μ G := ev_stp pg_66_27 rfl
theorem pg_66_28 : mm_prog 66 28 = some (0, .getstatic 73, 31, [2, 2]) := by decide +kernel
theorem xe_66_28 (a0 a1 : Option MV) (st : List MV) (μ : MM) (G : MG) : ev 66 28 [a0, a1] st μ G = ev 66 31 [a0, a1] (vR 2 :: st) μ G := ev_stp pg_66_28 rfl
theorem pg_66_31 : mm_prog 66 31 = some (0, .iload_n 1, 32, []) := by decide +kernel
theorem xe_66_31 (a0 : Option MV) (x : Int) (st : List MV) (μ : MM) (G : MG) : ev 66 31 [a0, some (vI x)] st μ G = ev 66 32 [a0, some (vI x)] (vI x :: st) μ G := ev_stp pg_66_31 rfl
theorem pg_66_32 : mm_prog 66 32 = some (0, .iconst 2, 33, []) := by decide +kernel
theorem xe_66_32 (a0 a1 : Option MV) (st : List MV) (μ : MM) (G : MG) : ev 66 32 [a0, a1] st μ G = ev 66 33 [a0, a1] (vI (2) :: st) μ G := ev_stp pg_66_32 rfl
theorem pg_66_33 : mm_prog 66 33 = some (0, .iadd, 34, []) := by decide +kernel
theorem xe_66_33 (a0 a1 : Option MV) (x y : Int) (st : List MV) (μ : MM) (G : MG) : ev 66 33 [a0, a1] (vI y :: vI x :: st) μ G = ev 66 34 [a0, a1] (vI (w32 (x + y)) :: st) μ G := ev_stp pg_66_33 rfl
theorem pg_66_34 : mm_prog 66 34 = some (0, .iaload, 35, []) := by decide +kernel
theorem xe_66_34 (a0 a1 : Option MV) (x y : Int) (st : List MV) (μ : MM) (G : MG) : ev 66 34 [a0, a1] (vI x :: vR y :: st) μ G = if gk G y = 100 ∧ 0 ≤ x ∧ x < gl G y then ev 66 35 [a0, a1] (vI (μ y x) :: st) μ G else none := ev_if pg_66_34 rfl
theorem pg_66_35 : mm_prog 66 35 = some (0, .putfield 27, 38, [7, 5, 0]) := by decide +kernel
theorem xe_66_35 (a0 a1 : Option MV) (x y : Int) (st : List MV) (μ : MM) (G : MG) : ev 66 35 [a0, a1] (vI x :: vR y :: st) μ G = if gk G y = 7 then ev 66 38 [a0, a1] st (mset μ y 5 x) G else none := ev_put0 pg_66_35
theorem pg_66_38 : mm_prog 66 38 = some (0, .aload_n 0, 39, []) := by decide +kernel
theorem xe_66_38 (a1 : Option MV) (x : Int) (st : List MV) (μ : MM) (G : MG) : ev 66 38 [some (vR x), a1] st μ G = ev 66 39 [some (vR x), a1] (vR x :: st) μ G := ev_stp pg_66_38 rfl
theorem pg_66_39 : mm_prog 66 39 = some (0, .getstatic 73, 42, [2, 2]) := by decide +kernel
theorem xe_66_39 (a0 a1 : Option MV) (st : List MV) (μ : MM) (G : MG) : ev 66 39 [a0, a1] st μ G = ev 66 42 [a0, a1] (vR 2 :: st) μ G := ev_stp pg_66_39 rfl
theorem pg_66_42 : mm_prog 66 42 = some (0, .iload_n 1, 43, []) := by decide +kernel
theorem xe_66_42 (a0 : Option MV) (x : Int) (st : List MV) (μ : MM) (G : MG) : ev 66 42 [a0, some (vI x)] st μ G = ev 66 43 [a0, some (vI x)] (vI x :: st) μ G := ev_stp pg_66_42 rfl
theorem pg_66_43 : mm_prog 66 43 = some (0, .iconst 3, 44, []) := by decide +kernel
theorem xe_66_43 (a0 a1 : Option MV) (st : List MV) (μ : MM) (G : MG) : ev 66 43 [a0, a1] st μ G = ev 66 44 [a0, a1] (vI (3) :: st) μ G := ev_stp pg_66_43 rfl
theorem pg_66_44 : mm_prog 66 44 = some (0, .iadd, 45, []) := by decide +kernel
theorem xe_66_44 (a0 a1 : Option MV) (x y : Int) (st : List MV) (μ : MM) (G : MG) : ev 66 44 [a0, a1] (vI y :: vI x :: st) μ G = ev 66 45 [a0, a1] (vI (w32 (x + y)) :: st) μ G := ev_stp pg_66_44 rfl
theorem pg_66_45 : mm_prog 66 45 = some (0, .iaload, 46, []) := by decide +kernel
theorem xe_66_45 (a0 a1 : Option MV) (x y : Int) (st : List MV) (μ : MM) (G : MG) : ev 66 45 [a0, a1] (vI x :: vR y :: st) μ G = if gk G y = 100 ∧ 0 ≤ x ∧ x < gl G y then ev 66 46 [a0, a1] (vI (μ y x) :: st) μ G else none := ev_if pg_66_45 rfl
theorem pg_66_46 : mm_prog 66 46 = some (0, .aload_n 0, 47, []) := by decide +kernel
theorem xe_66_46 (a1 : Option MV) (x : Int) (st : List MV) (μ : MM) (G : MG) : ev 66 46 [some (vR x), a1] st μ G = ev 66 47 [some (vR x), a1] (vR x :: st) μ G := ev_stp pg_66_46 rfl
theorem pg_66_47 : mm_prog 66 47 = some (0, .getfield 21, 50, [7, 1, 0]) := by decide +kernel
theorem xe_66_47 (a0 a1 : Option MV) (x : Int) (st : List MV) (μ : MM) (G : MG) : ev 66 47 [a0, a1] (vR x :: st) μ G = if gk G x = 7 then ev 66 50 [a0, a1] (vI (μ x 1) :: st) μ G else none := ev_if pg_66_47 rfl
theorem pg_66_50 : mm_prog 66 50 = some (0, .isub, 51, []) := by decide +kernel
theorem xe_66_50 (a0 a1 : Option MV) (x y : Int) (st : List MV) (μ : MM) (G : MG) : ev 66 50 [a0, a1] (vI y :: vI x :: st) μ G = ev 66 51 [a0, a1] (vI (w32 (x - y)) :: st) μ G := ev_stp pg_66_50 rfl
theorem pg_66_51 : mm_prog 66 51 = some (0, .putfield 24, 54, [7, 2, 0]) := by decide +kernel
theorem xe_66_51 (a0 a1 : Option MV) (x y : Int) (st : List MV) (μ : MM) (G : MG) : ev 66 51 [a0, a1] (vI x :: vR y :: st) μ G = if gk G y = 7 then ev 66 54 [a0, a1] st (mset μ y 2 x) G else none := ev_put0 pg_66_51
theorem pg_66_54 : mm_prog 66 54 = some (0, .aload_n 0, 55, []) := by decide +kernel
theorem xe_66_54 (a1 : Option MV) (x : Int) (st : List MV) (μ : MM) (G : MG) : ev 66 54 [some (vR x), a1] st μ G = ev 66 55 [some (vR x), a1] (vR x :: st) μ G := ev_stp pg_66_54 rfl
theorem pg_66_55 : mm_prog 66 55 = some (0, .getstatic 73, 58, [2, 2]) := by decide +kernel
theorem xe_66_55 (a0 a1 : Option MV) (st : List MV) (μ : MM) (G : MG) : ev 66 55 [a0, a1] st μ G = ev 66 58 [a0, a1] (vR 2 :: st) μ G := ev_stp pg_66_55 rfl
theorem pg_66_58 : mm_prog 66 58 = some (0, .iload_n 1, 59, []) := by decide +kernel
theorem xe_66_58 (a0 : Option MV) (x : Int) (st : List MV) (μ : MM) (G : MG) : ev 66 58 [a0, some (vI x)] st μ G = ev 66 59 [a0, some (vI x)] (vI x :: st) μ G := ev_stp pg_66_58 rfl
theorem pg_66_59 : mm_prog 66 59 = some (0, .iconst 4, 60, []) := by decide +kernel
theorem xe_66_59 (a0 a1 : Option MV) (st : List MV) (μ : MM) (G : MG) : ev 66 59 [a0, a1] st μ G = ev 66 60 [a0, a1] (vI (4) :: st) μ G := ev_stp pg_66_59 rfl
theorem pg_66_60 : mm_prog 66 60 = some (0, .iadd, 61, []) := by decide +kernel
theorem xe_66_60 (a0 a1 : Option MV) (x y : Int) (st : List MV) (μ : MM) (G : MG) : ev 66 60 [a0, a1] (vI y :: vI x :: st) μ G = ev 66 61 [a0, a1] (vI (w32 (x + y)) :: st) μ G := ev_stp pg_66_60 rfl
theorem pg_66_61 : mm_prog 66 61 = some (0, .iaload, 62, []) := by decide +kernel
theorem xe_66_61 (a0 a1 : Option MV) (x y : Int) (st : List MV) (μ : MM) (G : MG) : ev 66 61 [a0, a1] (vI x :: vR y :: st) μ G = if gk G y = 100 ∧ 0 ≤ x ∧ x < gl G y then ev 66 62 [a0, a1] (vI (μ y x) :: st) μ G else none := ev_if pg_66_61 rfl
theorem pg_66_62 : mm_prog 66 62 = some (0, .aload_n 0, 63, []) := by decide +kernel
theorem xe_66_62 (a1 : Option MV) (x : Int) (st : List MV) (μ : MM) (G : MG) : ev 66 62 [some (vR x), a1] st μ G = ev 66 63 [some (vR x), a1] (vR x :: st) μ G := ev_stp pg_66_62 rfl
theorem pg_66_63 : mm_prog 66 63 = some (0, .getfield 27, 66, [7, 5, 0]) := by decide +kernel
theorem xe_66_63 (a0 a1 : Option MV) (x : Int) (st : List MV) (μ : MM) (G : MG) : ev 66 63 [a0, a1] (vR x :: st) μ G = if gk G x = 7 then ev 66 66 [a0, a1] (vI (μ x 5) :: st) μ G else none := ev_if pg_66_63 rfl
theorem pg_66_66 : mm_prog 66 66 = some (0, .isub, 67, []) := by decide +kernel
theorem xe_66_66 (a0 a1 : Option MV) (x y : Int) (st : List MV) (μ : MM) (G : MG) : ev 66 66 [a0, a1] (vI y :: vI x :: st) μ G = ev 66 67 [a0, a1] (vI (w32 (x - y)) :: st) μ G := ev_stp pg_66_66 rfl
theorem pg_66_67 : mm_prog 66 67 = some (0, .putfield 30, 70, [7, 6, 0]) := by decide +kernel
theorem xe_66_67 (a0 a1 : Option MV) (x y : Int) (st : List MV) (μ : MM) (G : MG) : ev 66 67 [a0, a1] (vI x :: vR y :: st) μ G = if gk G y = 7 then ev 66 70 [a0, a1] st (mset μ y 6 x) G else none := ev_put0 pg_66_67
theorem pg_66_70 : mm_prog 66 70 = some (0, .aload_n 0, 71, []) := by decide +kernel
theorem xe_66_70 (a1 : Option MV) (x : Int) (st : List MV) (μ : MM) (G : MG) : ev 66 70 [some (vR x), a1] st μ G = ev 66 71 [some (vR x), a1] (vR x :: st) μ G := ev_stp pg_66_70 rfl
theorem pg_66_71 : mm_prog 66 71 = some (0, .getstatic 73, 74, [2, 2]) := by decide +kernel
theorem xe_66_71 (a0 a1 : Option MV) (st : List MV) (μ : MM) (G : MG) : ev 66 71 [a0, a1] st μ G = ev 66 74 [a0, a1] (vR 2 :: st) μ G := ev_stp pg_66_71 rfl
theorem pg_66_74 : mm_prog 66 74 = some (0, .iload_n 1, 75, []) := by decide +kernel
theorem xe_66_74 (a0 : Option MV) (x : Int) (st : List MV) (μ : MM) (G : MG) : ev 66 74 [a0, some (vI x)] st μ G = ev 66 75 [a0, some (vI x)] (vI x :: st) μ G := ev_stp pg_66_74 rfl
theorem pg_66_75 : mm_prog 66 75 = some (0, .iconst 5, 76, []) := by decide +kernel
theorem xe_66_75 (a0 a1 : Option MV) (st : List MV) (μ : MM) (G : MG) : ev 66 75 [a0, a1] st μ G = ev 66 76 [a0, a1] (vI (5) :: st) μ G := ev_stp pg_66_75 rfl
theorem pg_66_76 : mm_prog 66 76 = some (0, .iadd, 77, []) := by decide +kernel
theorem xe_66_76 (a0 a1 : Option MV) (x y : Int) (st : List MV) (μ : MM) (G : MG) : ev 66 76 [a0, a1] (vI y :: vI x :: st) μ G = ev 66 77 [a0, a1] (vI (w32 (x + y)) :: st) μ G := ev_stp pg_66_76 rfl
theorem pg_66_77 : mm_prog 66 77 = some (0, .iaload, 78, []) := by decide +kernel
theorem xe_66_77 (a0 a1 : Option MV) (x y : Int) (st : List MV) (μ : MM) (G : MG) : ev 66 77 [a0, a1] (vI x :: vR y :: st) μ G = if gk G y = 100 ∧ 0 ≤ x ∧ x < gl G y then ev 66 78 [a0, a1] (vI (μ y x) :: st) μ G else none := ev_if pg_66_77 rfl
theorem pg_66_78 : mm_prog 66 78 = some (0, .putfield 15, 81, [7, 0, 0]) := by decide +kernel
theorem xe_66_78 (a0 a1 : Option MV) (x y : Int) (st : List MV) (μ : MM) (G : MG) : ev 66 78 [a0, a1] (vI x :: vR y :: st) μ G = if gk G y = 7 then ev 66 81 [a0, a1] st (mset μ y 0 x) G else none := ev_put0 pg_66_78
theorem pg_66_81 : mm_prog 66 81 = some (0, .aload_n 0, 82, []) := by decide +kernel
theorem xe_66_81 (a1 : Option MV) (x : Int) (st : List MV) (μ : MM) (G : MG) : ev 66 81 [some (vR x), a1] st μ G = ev 66 82 [some (vR x), a1] (vR x :: st) μ G := ev_stp pg_66_81 rfl
theorem pg_66_82 : mm_prog 66 82 = some (0, .iconst 0, 83, []) := by decide +kernel
theorem xe_66_82 (a0 a1 : Option MV) (st : List MV) (μ : MM) (G : MG) : ev 66 82 [a0, a1] st μ G = ev 66 83 [a0, a1] (vI (0) :: st) μ G := ev_stp pg_66_82 rfl
theorem pg_66_83 : mm_prog 66 83 = some (0, .putfield 33, 86, [7, 3, 0]) := by decide +kernel
theorem xe_66_83 (a0 a1 : Option MV) (x y : Int) (st : List MV) (μ : MM) (G : MG) : ev 66 83 [a0, a1] (vI x :: vR y :: st) μ G = if gk G y = 7 then ev 66 86 [a0, a1] st (mset μ y 3 x) G else none := ev_put0 pg_66_83
theorem pg_66_86 : mm_prog 66 86 = some (0, .aload_n 0, 87, []) := by decide +kernel
theorem xe_66_86 (a1 : Option MV) (x : Int) (st : List MV) (μ : MM) (G : MG) : ev 66 86 [some (vR x), a1] st μ G = ev 66 87 [some (vR x), a1] (vR x :: st) μ G := ev_stp pg_66_86 rfl
theorem pg_66_87 : mm_prog 66 87 = some (0, .iconst 0, 88, []) := by decide +kernel
theorem xe_66_87 (a0 a1 : Option MV) (st : List MV) (μ : MM) (G : MG) : ev 66 87 [a0, a1] st μ G = ev 66 88 [a0, a1] (vI (0) :: st) μ G := ev_stp pg_66_87 rfl
theorem pg_66_88 : mm_prog 66 88 = some (0, .putfield 36, 91, [7, 4, 0]) := by decide +kernel
theorem xe_66_88 (a0 a1 : Option MV) (x y : Int) (st : List MV) (μ : MM) (G : MG) : ev 66 88 [a0, a1] (vI x :: vR y :: st) μ G = if gk G y = 7 then ev 66 91 [a0, a1] st (mset μ y 4 x) G else none := ev_put0 pg_66_88
theorem pg_66_91 : mm_prog 66 91 = some (0, .aload_n 0, 92, []) := by decide +kernel
theorem xe_66_91 (a1 : Option MV) (x : Int) (st : List MV) (μ : MM) (G : MG) : ev 66 91 [some (vR x), a1] st μ G = ev 66 92 [some (vR x), a1] (vR x :: st) μ G := ev_stp pg_66_91 rfl
theorem pg_66_92 : mm_prog 66 92 = some (0, .iconst 0, 93, []) := by decide +kernel
theorem xe_66_92 (a0 a1 : Option MV) (st : List MV) (μ : MM) (G : MG) : ev 66 92 [a0, a1] st μ G = ev 66 93 [a0, a1] (vI (0) :: st) μ G := ev_stp pg_66_92 rfl
theorem pg_66_93 : mm_prog 66 93 = some (0, .putfield 39, 96, [7, 7, 0]) := by decide +kernel
theorem xe_66_93 (a0 a1 : Option MV) (x y : Int) (st : List MV) (μ : MM) (G : MG) : ev 66 93 [a0, a1] (vI x :: vR y :: st) μ G = if gk G y = 7 then ev 66 96 [a0, a1] st (mset μ y 7 x) G else none := ev_put0 pg_66_93
theorem pg_66_96 : mm_prog 66 96 = some (0, .aload_n 0, 97, []) := by decide +kernel
theorem xe_66_96 (a1 : Option MV) (x : Int) (st : List MV) (μ : MM) (G : MG) : ev 66 96 [some (vR x), a1] st μ G = ev 66 97 [some (vR x), a1] (vR x :: st) μ G := ev_stp pg_66_96 rfl
theorem pg_66_97 : mm_prog 66 97 = some (0, .iconst 0, 98, []) := by decide +kernel
theorem xe_66_97 (a0 a1 : Option MV) (st : List MV) (μ : MM) (G : MG) : ev 66 97 [a0, a1] st μ G = ev 66 98 [a0, a1] (vI (0) :: st) μ G := ev_stp pg_66_97 rfl
theorem pg_66_98 : mm_prog 66 98 = some (0, .putfield 42, 101, [7, 8, 0]) := by decide +kernel
theorem xe_66_98 (a0 a1 : Option MV) (x y : Int) (st : List MV) (μ : MM) (G : MG) : ev 66 98 [a0, a1] (vI x :: vR y :: st) μ G = if gk G y = 7 then ev 66 101 [a0, a1] st (mset μ y 8 x) G else none := ev_put0 pg_66_98
theorem pg_66_101 : mm_prog 66 101 = some (0, .aload_n 0, 102, []) := by decide +kernel
theorem xe_66_101 (a1 : Option MV) (x : Int) (st : List MV) (μ : MM) (G : MG) : ev 66 101 [some (vR x), a1] st μ G = ev 66 102 [some (vR x), a1] (vR x :: st) μ G := ev_stp pg_66_101 rfl
theorem pg_66_102 : mm_prog 66 102 = some (0, .iconst 0, 103, []) := by decide +kernel
theorem xe_66_102 (a0 a1 : Option MV) (st : List MV) (μ : MM) (G : MG) : ev 66 102 [a0, a1] st μ G = ev 66 103 [a0, a1] (vI (0) :: st) μ G := ev_stp pg_66_102 rfl
theorem pg_66_103 : mm_prog 66 103 = some (0, .putfield 45, 106, [7, 9, 1]) := by decide +kernel
theorem xe_66_103 (a0 a1 : Option MV) (x y : Int) (st : List MV) (μ : MM) (G : MG) : ev 66 103 [a0, a1] (vI x :: vR y :: st) μ G = if gk G y = 7 ∧ (x = 0 ∨ x = 1) then ev 66 106 [a0, a1] st (mset μ y 9 x) G else none := ev_put1 pg_66_103
theorem pg_66_106 : mm_prog 66 106 = some (2, .return_, 107, []) := by decide +kernel
theorem xe_66_106 (a0 a1 : Option MV) (μ : MM) (G : MG) : ev 66 106 [a0, a1] [] μ G = some (none, μ, G) := ev_ret pg_66_106 rfl
-- X7_part
theorem pg_67_0 : mm_prog 67 0 = some (0, .iload_n 1, 1, []) := by decide +kernel
theorem xe_67_0 (a0 : Option MV) (x : Int) (st : List MV) (μ : MM) (G : MG) : ev 67 0 [a0, some (vI x)] st μ G = ev 67 1 [a0, some (vI x)] (vI x :: st) μ G := ev_stp pg_67_0 rfl
theorem pg_67_1 : mm_prog 67 1 = some (0, .tableswitch 113 0 9 #[55, 60, 65, 70, 75, 80, 85, 90, 95, 100], 56, [114, 0, 56, 1, 61, 2, 66, 3, 71, 4, 76, 5, 81, 6, 86, 7, 91, 8, 96, 9, 101]) := by decide +kernel
theorem xe_67_1 (a0 a1 : Option MV) (x : Int) (st : List MV) (μ : MM) (G : MG) : ev 67 1 [a0, a1] (vI x :: st) μ G = if x = 0 then ev 67 56 [a0, a1] st μ G else if x = 1 then ev 67 61 [a0, a1] st μ G else if x = 2 then ev 67 66 [a0, a1] st μ G else if x = 3 then ev 67 71 [a0, a1] st μ G else if x = 4 then ev 67 76 [a0, a1] st μ G else if x = 5 then ev 67 81 [a0, a1] st μ G else if x = 6 then ev 67 86 [a0, a1] st μ G else if x = 7 then ev 67 91 [a0, a1] st μ G else if x = 8 then ev 67 96 [a0, a1] st μ G else if x = 9 then ev 67 101 [a0, a1] st μ G else ev 67 114 [a0, a1] st μ G := ev_sw (x := x) (d := 114) (l := [0, 56, 1, 61, 2, 66, 3, 71, 4, 76, 5, 81, 6, 86, 7, 91, 8, 96, 9, 101]) (st' := st) pg_67_1 rfl
theorem pg_67_56 : mm_prog 67 56 = some (0, .aload_n 0, 57, []) := by decide +kernel
theorem xe_67_56 (a1 : Option MV) (x : Int) (st : List MV) (μ : MM) (G : MG) : ev 67 56 [some (vR x), a1] st μ G = ev 67 57 [some (vR x), a1] (vR x :: st) μ G := ev_stp pg_67_56 rfl
theorem pg_67_57 : mm_prog 67 57 = some (0, .getfield 15, 60, [7, 0, 0]) := by decide +kernel
theorem xe_67_57 (a0 a1 : Option MV) (x : Int) (st : List MV) (μ : MM) (G : MG) : ev 67 57 [a0, a1] (vR x :: st) μ G = if gk G x = 7 then ev 67 60 [a0, a1] (vI (μ x 0) :: st) μ G else none := ev_if pg_67_57 rfl
theorem pg_67_60 : mm_prog 67 60 = some (2, .ireturn, 61, [0]) := by decide +kernel
theorem xe_67_60 (a0 a1 : Option MV) (x : Int) (μ : MM) (G : MG) : ev 67 60 [a0, a1] [vI x] μ G = some (some (vI x), μ, G) := ev_ret pg_67_60 rfl
theorem pg_67_61 : mm_prog 67 61 = some (0, .aload_n 0, 62, []) := by decide +kernel
theorem xe_67_61 (a1 : Option MV) (x : Int) (st : List MV) (μ : MM) (G : MG) : ev 67 61 [some (vR x), a1] st μ G = ev 67 62 [some (vR x), a1] (vR x :: st) μ G := ev_stp pg_67_61 rfl
theorem pg_67_62 : mm_prog 67 62 = some (0, .getfield 21, 65, [7, 1, 0]) := by decide +kernel
theorem xe_67_62 (a0 a1 : Option MV) (x : Int) (st : List MV) (μ : MM) (G : MG) : ev 67 62 [a0, a1] (vR x :: st) μ G = if gk G x = 7 then ev 67 65 [a0, a1] (vI (μ x 1) :: st) μ G else none := ev_if pg_67_62 rfl
theorem pg_67_65 : mm_prog 67 65 = some (2, .ireturn, 66, [0]) := by decide +kernel
theorem xe_67_65 (a0 a1 : Option MV) (x : Int) (μ : MM) (G : MG) : ev 67 65 [a0, a1] [vI x] μ G = some (some (vI x), μ, G) := ev_ret pg_67_65 rfl
theorem pg_67_66 : mm_prog 67 66 = some (0, .aload_n 0, 67, []) := by decide +kernel
theorem xe_67_66 (a1 : Option MV) (x : Int) (st : List MV) (μ : MM) (G : MG) : ev 67 66 [some (vR x), a1] st μ G = ev 67 67 [some (vR x), a1] (vR x :: st) μ G := ev_stp pg_67_66 rfl
theorem pg_67_67 : mm_prog 67 67 = some (0, .getfield 24, 70, [7, 2, 0]) := by decide +kernel
theorem xe_67_67 (a0 a1 : Option MV) (x : Int) (st : List MV) (μ : MM) (G : MG) : ev 67 67 [a0, a1] (vR x :: st) μ G = if gk G x = 7 then ev 67 70 [a0, a1] (vI (μ x 2) :: st) μ G else none := ev_if pg_67_67 rfl
theorem pg_67_70 : mm_prog 67 70 = some (2, .ireturn, 71, [0]) := by decide +kernel
theorem xe_67_70 (a0 a1 : Option MV) (x : Int) (μ : MM) (G : MG) : ev 67 70 [a0, a1] [vI x] μ G = some (some (vI x), μ, G) := ev_ret pg_67_70 rfl
theorem pg_67_71 : mm_prog 67 71 = some (0, .aload_n 0, 72, []) := by decide +kernel
theorem xe_67_71 (a1 : Option MV) (x : Int) (st : List MV) (μ : MM) (G : MG) : ev 67 71 [some (vR x), a1] st μ G = ev 67 72 [some (vR x), a1] (vR x :: st) μ G := ev_stp pg_67_71 rfl
theorem pg_67_72 : mm_prog 67 72 = some (0, .getfield 33, 75, [7, 3, 0]) := by decide +kernel
theorem xe_67_72 (a0 a1 : Option MV) (x : Int) (st : List MV) (μ : MM) (G : MG) : ev 67 72 [a0, a1] (vR x :: st) μ G = if gk G x = 7 then ev 67 75 [a0, a1] (vI (μ x 3) :: st) μ G else none := ev_if pg_67_72 rfl
theorem pg_67_75 : mm_prog 67 75 = some (2, .ireturn, 76, [0]) := by decide +kernel
theorem xe_67_75 (a0 a1 : Option MV) (x : Int) (μ : MM) (G : MG) : ev 67 75 [a0, a1] [vI x] μ G = some (some (vI x), μ, G) := ev_ret pg_67_75 rfl
theorem pg_67_76 : mm_prog 67 76 = some (0, .aload_n 0, 77, []) := by decide +kernel
theorem xe_67_76 (a1 : Option MV) (x : Int) (st : List MV) (μ : MM) (G : MG) : ev 67 76 [some (vR x), a1] st μ G = ev 67 77 [some (vR x), a1] (vR x :: st) μ G := ev_stp pg_67_76 rfl
theorem pg_67_77 : mm_prog 67 77 = some (0, .getfield 36, 80, [7, 4, 0]) := by decide +kernel
theorem xe_67_77 (a0 a1 : Option MV) (x : Int) (st : List MV) (μ : MM) (G : MG) : ev 67 77 [a0, a1] (vR x :: st) μ G = if gk G x = 7 then ev 67 80 [a0, a1] (vI (μ x 4) :: st) μ G else none := ev_if pg_67_77 rfl
theorem pg_67_80 : mm_prog 67 80 = some (2, .ireturn, 81, [0]) := by decide +kernel
theorem xe_67_80 (a0 a1 : Option MV) (x : Int) (μ : MM) (G : MG) : ev 67 80 [a0, a1] [vI x] μ G = some (some (vI x), μ, G) := ev_ret pg_67_80 rfl
theorem pg_67_81 : mm_prog 67 81 = some (0, .aload_n 0, 82, []) := by decide +kernel
theorem xe_67_81 (a1 : Option MV) (x : Int) (st : List MV) (μ : MM) (G : MG) : ev 67 81 [some (vR x), a1] st μ G = ev 67 82 [some (vR x), a1] (vR x :: st) μ G := ev_stp pg_67_81 rfl
theorem pg_67_82 : mm_prog 67 82 = some (0, .getfield 27, 85, [7, 5, 0]) := by decide +kernel
theorem xe_67_82 (a0 a1 : Option MV) (x : Int) (st : List MV) (μ : MM) (G : MG) : ev 67 82 [a0, a1] (vR x :: st) μ G = if gk G x = 7 then ev 67 85 [a0, a1] (vI (μ x 5) :: st) μ G else none := ev_if pg_67_82 rfl
theorem pg_67_85 : mm_prog 67 85 = some (2, .ireturn, 86, [0]) := by decide +kernel
theorem xe_67_85 (a0 a1 : Option MV) (x : Int) (μ : MM) (G : MG) : ev 67 85 [a0, a1] [vI x] μ G = some (some (vI x), μ, G) := ev_ret pg_67_85 rfl
theorem pg_67_86 : mm_prog 67 86 = some (0, .aload_n 0, 87, []) := by decide +kernel
theorem xe_67_86 (a1 : Option MV) (x : Int) (st : List MV) (μ : MM) (G : MG) : ev 67 86 [some (vR x), a1] st μ G = ev 67 87 [some (vR x), a1] (vR x :: st) μ G := ev_stp pg_67_86 rfl
theorem pg_67_87 : mm_prog 67 87 = some (0, .getfield 30, 90, [7, 6, 0]) := by decide +kernel
theorem xe_67_87 (a0 a1 : Option MV) (x : Int) (st : List MV) (μ : MM) (G : MG) : ev 67 87 [a0, a1] (vR x :: st) μ G = if gk G x = 7 then ev 67 90 [a0, a1] (vI (μ x 6) :: st) μ G else none := ev_if pg_67_87 rfl
theorem pg_67_90 : mm_prog 67 90 = some (2, .ireturn, 91, [0]) := by decide +kernel
theorem xe_67_90 (a0 a1 : Option MV) (x : Int) (μ : MM) (G : MG) : ev 67 90 [a0, a1] [vI x] μ G = some (some (vI x), μ, G) := ev_ret pg_67_90 rfl
theorem pg_67_91 : mm_prog 67 91 = some (0, .aload_n 0, 92, []) := by decide +kernel
theorem xe_67_91 (a1 : Option MV) (x : Int) (st : List MV) (μ : MM) (G : MG) : ev 67 91 [some (vR x), a1] st μ G = ev 67 92 [some (vR x), a1] (vR x :: st) μ G := ev_stp pg_67_91 rfl
theorem pg_67_92 : mm_prog 67 92 = some (0, .getfield 39, 95, [7, 7, 0]) := by decide +kernel
theorem xe_67_92 (a0 a1 : Option MV) (x : Int) (st : List MV) (μ : MM) (G : MG) : ev 67 92 [a0, a1] (vR x :: st) μ G = if gk G x = 7 then ev 67 95 [a0, a1] (vI (μ x 7) :: st) μ G else none := ev_if pg_67_92 rfl
theorem pg_67_95 : mm_prog 67 95 = some (2, .ireturn, 96, [0]) := by decide +kernel
theorem xe_67_95 (a0 a1 : Option MV) (x : Int) (μ : MM) (G : MG) : ev 67 95 [a0, a1] [vI x] μ G = some (some (vI x), μ, G) := ev_ret pg_67_95 rfl
theorem pg_67_96 : mm_prog 67 96 = some (0, .aload_n 0, 97, []) := by decide +kernel
theorem xe_67_96 (a1 : Option MV) (x : Int) (st : List MV) (μ : MM) (G : MG) : ev 67 96 [some (vR x), a1] st μ G = ev 67 97 [some (vR x), a1] (vR x :: st) μ G := ev_stp pg_67_96 rfl
theorem pg_67_97 : mm_prog 67 97 = some (0, .getfield 42, 100, [7, 8, 0]) := by decide +kernel
theorem xe_67_97 (a0 a1 : Option MV) (x : Int) (st : List MV) (μ : MM) (G : MG) : ev 67 97 [a0, a1] (vR x :: st) μ G = if gk G x = 7 then ev 67 100 [a0, a1] (vI (μ x 8) :: st) μ G else none := ev_if pg_67_97 rfl
theorem pg_67_100 : mm_prog 67 100 = some (2, .ireturn, 101, [0]) := by decide +kernel
theorem xe_67_100 (a0 a1 : Option MV) (x : Int) (μ : MM) (G : MG) : ev 67 100 [a0, a1] [vI x] μ G = some (some (vI x), μ, G) := ev_ret pg_67_100 rfl
theorem pg_67_101 : mm_prog 67 101 = some (0, .aload_n 0, 102, []) := by decide +kernel
theorem xe_67_101 (a1 : Option MV) (x : Int) (st : List MV) (μ : MM) (G : MG) : ev 67 101 [some (vR x), a1] st μ G = ev 67 102 [some (vR x), a1] (vR x :: st) μ G := ev_stp pg_67_101 rfl
theorem pg_67_102 : mm_prog 67 102 = some (0, .getfield 45, 105, [7, 9, 1]) := by decide +kernel
theorem xe_67_102 (a0 a1 : Option MV) (x : Int) (st : List MV) (μ : MM) (G : MG) : ev 67 102 [a0, a1] (vR x :: st) μ G = if gk G x = 7 then ev 67 105 [a0, a1] (vI (μ x 9) :: st) μ G else none := ev_if pg_67_102 rfl
theorem pg_67_105 : mm_prog 67 105 = some (0, .ifCond .eq 7, 108, []) := by decide +kernel
theorem xe_67_105 (a0 a1 : Option MV) (x : Int) (st : List MV) (μ : MM) (G : MG) : ev 67 105 [a0, a1] (vI x :: st) μ G = if x = 0 then ev 67 112 [a0, a1] st μ G else ev 67 108 [a0, a1] st μ G := ev_br (mm_cnd_eq x 0) pg_67_105 rfl
theorem pg_67_108 : mm_prog 67 108 = some (0, .iconst 1, 109, []) := by decide +kernel
theorem xe_67_108 (a0 a1 : Option MV) (st : List MV) (μ : MM) (G : MG) : ev 67 108 [a0, a1] st μ G = ev 67 109 [a0, a1] (vI (1) :: st) μ G := ev_stp pg_67_108 rfl
theorem pg_67_109 : mm_prog 67 109 = some (0, .goto 4, 112, []) := by decide +kernel
theorem xe_67_109 (a0 a1 : Option MV) (st : List MV) (μ : MM) (G : MG) : ev 67 109 [a0, a1] st μ G = ev 67 113 [a0, a1] st μ G := ev_stp pg_67_109 rfl
theorem pg_67_112 : mm_prog 67 112 = some (0, .iconst 0, 113, []) := by decide +kernel
theorem xe_67_112 (a0 a1 : Option MV) (st : List MV) (μ : MM) (G : MG) : ev 67 112 [a0, a1] st μ G = ev 67 113 [a0, a1] (vI (0) :: st) μ G := ev_stp pg_67_112 rfl
theorem pg_67_113 : mm_prog 67 113 = some (2, .ireturn, 114, [0]) := by decide +kernel
theorem xe_67_113 (a0 a1 : Option MV) (x : Int) (μ : MM) (G : MG) : ev 67 113 [a0, a1] [vI x] μ G = some (some (vI x), μ, G) := ev_ret pg_67_113 rfl
theorem pg_67_114 : mm_prog 67 114 = some (0, .aload_n 0, 115, []) := by decide +kernel
theorem xe_67_114 (a1 : Option MV) (x : Int) (st : List MV) (μ : MM) (G : MG) : ev 67 114 [some (vR x), a1] st μ G = ev 67 115 [some (vR x), a1] (vR x :: st) μ G := ev_stp pg_67_114 rfl
theorem pg_67_115 : mm_prog 67 115 = some (1, .invokevirtual 77, 118, [1, 68, 0, 7]) := by decide +kernel
theorem xe_67_115 (a0 a1 : Option MV) (z : Int) (μ : MM) (G : MG) : ev 67 115 [a0, a1] (vR z :: []) μ G = if gk G z = 7 ∧ 0 < z then (ev 68 0 [some (vR z)] [] μ G).bind (fun q => ev 67 118 [a0, a1] (q.1.toList ++ []) q.2.1 q.2.2) else none := ev_calV (as := [vR z]) (r := []) mx_68 pg_67_115 rfl rfl (Nat.le_of_ble_eq_true rfl) (Nat.le_of_ble_eq_true rfl)
theorem pg_67_118 : mm_prog 67 118 = some (0, .ifCond .eq 7, 121, []) := by decide +kernel
theorem xe_67_118 (a0 a1 : Option MV) (x : Int) (st : List MV) (μ : MM) (G : MG) : ev 67 118 [a0, a1] (vI x :: st) μ G = if x = 0 then ev 67 125 [a0, a1] st μ G else ev 67 121 [a0, a1] st μ G := ev_br (mm_cnd_eq x 0) pg_67_118 rfl
theorem pg_67_121 : mm_prog 67 121 = some (0, .iconst 1, 122, []) := by decide +kernel
theorem xe_67_121 (a0 a1 : Option MV) (st : List MV) (μ : MM) (G : MG) : ev 67 121 [a0, a1] st μ G = ev 67 122 [a0, a1] (vI (1) :: st) μ G := ev_stp pg_67_121 rfl
theorem pg_67_122 : mm_prog 67 122 = some (0, .goto 4, 125, []) := by decide +kernel
theorem xe_67_122 (a0 a1 : Option MV) (st : List MV) (μ : MM) (G : MG) : ev 67 122 [a0, a1] st μ G = ev 67 126 [a0, a1] st μ G := ev_stp pg_67_122 rfl
theorem pg_67_125 : mm_prog 67 125 = some (0, .iconst 0, 126, []) := by decide +kernel
theorem xe_67_125 (a0 a1 : Option MV) (st : List MV) (μ : MM) (G : MG) : ev 67 125 [a0, a1] st μ G = ev 67 126 [a0, a1] (vI (0) :: st) μ G := ev_stp pg_67_125 rfl
theorem pg_67_126 : mm_prog 67 126 = some (2, .ireturn, 127, [0]) := by decide +kernel
theorem xe_67_126 (a0 a1 : Option MV) (x : Int) (μ : MM) (G : MG) : ev 67 126 [a0, a1] [vI x] μ G = some (some (vI x), μ, G) := ev_ret pg_67_126 rfl
-- X7_isBroken
theorem pg_68_0 : mm_prog 68 0 = some (0, .aload_n 0, 1, []) := by decide +kernel
theorem xe_68_0 (x : Int) (st : List MV) (μ : MM) (G : MG) : ev 68 0 [some (vR x)] st μ G = ev 68 1 [some (vR x)] (vR x :: st) μ G := ev_stp pg_68_0 rfl
theorem pg_68_1 : mm_prog 68 1 = some (0, .getfield 21, 4, [7, 1, 0]) := by decide +kernel
theorem xe_68_1 (a0 : Option MV) (x : Int) (st : List MV) (μ : MM) (G : MG) : ev 68 1 [a0] (vR x :: st) μ G = if gk G x = 7 then ev 68 4 [a0] (vI (μ x 1) :: st) μ G else none := ev_if pg_68_1 rfl
theorem pg_68_4 : mm_prog 68 4 = some (0, .ifCond .eq 42, 7, []) := by decide +kernel
theorem xe_68_4 (a0 : Option MV) (x : Int) (st : List MV) (μ : MM) (G : MG) : ev 68 4 [a0] (vI x :: st) μ G = if x = 0 then ev 68 46 [a0] st μ G else ev 68 7 [a0] st μ G := ev_br (mm_cnd_eq x 0) pg_68_4 rfl
theorem pg_68_7 : mm_prog 68 7 = some (0, .aload_n 0, 8, []) := by decide +kernel
theorem xe_68_7 (x : Int) (st : List MV) (μ : MM) (G : MG) : ev 68 7 [some (vR x)] st μ G = ev 68 8 [some (vR x)] (vR x :: st) μ G := ev_stp pg_68_7 rfl
theorem pg_68_8 : mm_prog 68 8 = some (0, .getfield 27, 11, [7, 5, 0]) := by decide +kernel
theorem xe_68_8 (a0 : Option MV) (x : Int) (st : List MV) (μ : MM) (G : MG) : ev 68 8 [a0] (vR x :: st) μ G = if gk G x = 7 then ev 68 11 [a0] (vI (μ x 5) :: st) μ G else none := ev_if pg_68_8 rfl
theorem pg_68_11 : mm_prog 68 11 = some (0, .ifCond .eq 35, 14, []) := by decide +kernel
theorem xe_68_11 (a0 : Option MV) (x : Int) (st : List MV) (μ : MM) (G : MG) : ev 68 11 [a0] (vI x :: st) μ G = if x = 0 then ev 68 46 [a0] st μ G else ev 68 14 [a0] st μ G := ev_br (mm_cnd_eq x 0) pg_68_11 rfl
theorem pg_68_14 : mm_prog 68 14 = some (0, .aload_n 0, 15, []) := by decide +kernel
theorem xe_68_14 (x : Int) (st : List MV) (μ : MM) (G : MG) : ev 68 14 [some (vR x)] st μ G = ev 68 15 [some (vR x)] (vR x :: st) μ G := ev_stp pg_68_14 rfl
theorem pg_68_15 : mm_prog 68 15 = some (0, .getfield 33, 18, [7, 3, 0]) := by decide +kernel
theorem xe_68_15 (a0 : Option MV) (x : Int) (st : List MV) (μ : MM) (G : MG) : ev 68 15 [a0] (vR x :: st) μ G = if gk G x = 7 then ev 68 18 [a0] (vI (μ x 3) :: st) μ G else none := ev_if pg_68_15 rfl
theorem pg_68_18 : mm_prog 68 18 = some (0, .aload_n 0, 19, []) := by decide +kernel
theorem xe_68_18 (x : Int) (st : List MV) (μ : MM) (G : MG) : ev 68 18 [some (vR x)] st μ G = ev 68 19 [some (vR x)] (vR x :: st) μ G := ev_stp pg_68_18 rfl
theorem pg_68_19 : mm_prog 68 19 = some (0, .getfield 36, 22, [7, 4, 0]) := by decide +kernel
theorem xe_68_19 (a0 : Option MV) (x : Int) (st : List MV) (μ : MM) (G : MG) : ev 68 19 [a0] (vR x :: st) μ G = if gk G x = 7 then ev 68 22 [a0] (vI (μ x 4) :: st) μ G else none := ev_if pg_68_19 rfl
theorem pg_68_22 : mm_prog 68 22 = some (0, .iadd, 23, []) := by decide +kernel
theorem xe_68_22 (a0 : Option MV) (x y : Int) (st : List MV) (μ : MM) (G : MG) : ev 68 22 [a0] (vI y :: vI x :: st) μ G = ev 68 23 [a0] (vI (w32 (x + y)) :: st) μ G := ev_stp pg_68_22 rfl
theorem pg_68_23 : mm_prog 68 23 = some (0, .aload_n 0, 24, []) := by decide +kernel
theorem xe_68_23 (x : Int) (st : List MV) (μ : MM) (G : MG) : ev 68 23 [some (vR x)] st μ G = ev 68 24 [some (vR x)] (vR x :: st) μ G := ev_stp pg_68_23 rfl
theorem pg_68_24 : mm_prog 68 24 = some (0, .getfield 24, 27, [7, 2, 0]) := by decide +kernel
theorem xe_68_24 (a0 : Option MV) (x : Int) (st : List MV) (μ : MM) (G : MG) : ev 68 24 [a0] (vR x :: st) μ G = if gk G x = 7 then ev 68 27 [a0] (vI (μ x 2) :: st) μ G else none := ev_if pg_68_24 rfl
theorem pg_68_27 : mm_prog 68 27 = some (0, .if_icmp .gt 19, 30, []) := by decide +kernel
theorem xe_68_27 (a0 : Option MV) (x y : Int) (st : List MV) (μ : MM) (G : MG) : ev 68 27 [a0] (vI y :: vI x :: st) μ G = if y < x then ev 68 46 [a0] st μ G else ev 68 30 [a0] st μ G := ev_br (mm_cnd_gt x y) pg_68_27 rfl
theorem pg_68_30 : mm_prog 68 30 = some (0, .aload_n 0, 31, []) := by decide +kernel
theorem xe_68_30 (x : Int) (st : List MV) (μ : MM) (G : MG) : ev 68 30 [some (vR x)] st μ G = ev 68 31 [some (vR x)] (vR x :: st) μ G := ev_stp pg_68_30 rfl
theorem pg_68_31 : mm_prog 68 31 = some (0, .getfield 39, 34, [7, 7, 0]) := by decide +kernel
theorem xe_68_31 (a0 : Option MV) (x : Int) (st : List MV) (μ : MM) (G : MG) : ev 68 31 [a0] (vR x :: st) μ G = if gk G x = 7 then ev 68 34 [a0] (vI (μ x 7) :: st) μ G else none := ev_if pg_68_31 rfl
theorem pg_68_34 : mm_prog 68 34 = some (0, .aload_n 0, 35, []) := by decide +kernel
theorem xe_68_34 (x : Int) (st : List MV) (μ : MM) (G : MG) : ev 68 34 [some (vR x)] st μ G = ev 68 35 [some (vR x)] (vR x :: st) μ G := ev_stp pg_68_34 rfl
theorem pg_68_35 : mm_prog 68 35 = some (0, .getfield 42, 38, [7, 8, 0]) := by decide +kernel
theorem xe_68_35 (a0 : Option MV) (x : Int) (st : List MV) (μ : MM) (G : MG) : ev 68 35 [a0] (vR x :: st) μ G = if gk G x = 7 then ev 68 38 [a0] (vI (μ x 8) :: st) μ G else none := ev_if pg_68_35 rfl
theorem pg_68_38 : mm_prog 68 38 = some (0, .iadd, 39, []) := by decide +kernel
theorem xe_68_38 (a0 : Option MV) (x y : Int) (st : List MV) (μ : MM) (G : MG) : ev 68 38 [a0] (vI y :: vI x :: st) μ G = ev 68 39 [a0] (vI (w32 (x + y)) :: st) μ G := ev_stp pg_68_38 rfl
theorem pg_68_39 : mm_prog 68 39 = some (0, .aload_n 0, 40, []) := by decide +kernel
theorem xe_68_39 (x : Int) (st : List MV) (μ : MM) (G : MG) : ev 68 39 [some (vR x)] st μ G = ev 68 40 [some (vR x)] (vR x :: st) μ G := ev_stp pg_68_39 rfl
theorem pg_68_40 : mm_prog 68 40 = some (0, .getfield 30, 43, [7, 6, 0]) := by decide +kernel
theorem xe_68_40 (a0 : Option MV) (x : Int) (st : List MV) (μ : MM) (G : MG) : ev 68 40 [a0] (vR x :: st) μ G = if gk G x = 7 then ev 68 43 [a0] (vI (μ x 6) :: st) μ G else none := ev_if pg_68_40 rfl
theorem pg_68_43 : mm_prog 68 43 = some (0, .if_icmp .le 7, 46, []) := by decide +kernel
theorem xe_68_43 (a0 : Option MV) (x y : Int) (st : List MV) (μ : MM) (G : MG) : ev 68 43 [a0] (vI y :: vI x :: st) μ G = if x ≤ y then ev 68 50 [a0] st μ G else ev 68 46 [a0] st μ G := ev_br (mm_cnd_le x y) pg_68_43 rfl
theorem pg_68_46 : mm_prog 68 46 = some (0, .iconst 1, 47, []) := by decide +kernel
theorem xe_68_46 (a0 : Option MV) (st : List MV) (μ : MM) (G : MG) : ev 68 46 [a0] st μ G = ev 68 47 [a0] (vI (1) :: st) μ G := ev_stp pg_68_46 rfl
theorem pg_68_47 : mm_prog 68 47 = some (0, .goto 4, 50, []) := by decide +kernel
theorem xe_68_47 (a0 : Option MV) (st : List MV) (μ : MM) (G : MG) : ev 68 47 [a0] st μ G = ev 68 51 [a0] st μ G := ev_stp pg_68_47 rfl
theorem pg_68_50 : mm_prog 68 50 = some (0, .iconst 0, 51, []) := by decide +kernel
theorem xe_68_50 (a0 : Option MV) (st : List MV) (μ : MM) (G : MG) : ev 68 50 [a0] st μ G = ev 68 51 [a0] (vI (0) :: st) μ G := ev_stp pg_68_50 rfl
theorem pg_68_51 : mm_prog 68 51 = some (2, .ireturn, 52, [1]) := by decide +kernel
theorem xe_68_51 (a0 : Option MV) (x : Int) (μ : MM) (G : MG) : ev 68 51 [a0] [vI x] μ G = if x = 0 ∨ x = 1 then some (some (vI x), μ, G) else none := ev_retB pg_68_51
-- X7_fits
theorem pg_69_0 : mm_prog 69 0 = some (0, .aload_n 0, 1, []) := by decide +kernel
theorem xe_69_0 (x : Int) (st : List MV) (μ : MM) (G : MG) : ev 69 0 [some (vR x)] st μ G = ev 69 1 [some (vR x)] (vR x :: st) μ G := ev_stp pg_69_0 rfl
theorem pg_69_1 : mm_prog 69 1 = some (0, .getfield 21, 4, [7, 1, 0]) := by decide +kernel
theorem xe_69_1 (a0 : Option MV) (x : Int) (st : List MV) (μ : MM) (G : MG) : ev 69 1 [a0] (vR x :: st) μ G = if gk G x = 7 then ev 69 4 [a0] (vI (μ x 1) :: st) μ G else none := ev_if pg_69_1 rfl
theorem pg_69_4 : mm_prog 69 4 = some (0, .sipush 4095, 7, []) := by decide +kernel
theorem xe_69_4 (a0 : Option MV) (st : List MV) (μ : MM) (G : MG) : ev 69 4 [a0] st μ G = ev 69 7 [a0] (vI (4095) :: st) μ G := ev_stp pg_69_4 rfl
theorem pg_69_7 : mm_prog 69 7 = some (0, .if_icmp .gt 84, 10, []) := by decide +kernel
theorem xe_69_7 (a0 : Option MV) (x y : Int) (st : List MV) (μ : MM) (G : MG) : ev 69 7 [a0] (vI y :: vI x :: st) μ G = if y < x then ev 69 91 [a0] st μ G else ev 69 10 [a0] st μ G := ev_br (mm_cnd_gt x y) pg_69_7 rfl
theorem pg_69_10 : mm_prog 69 10 = some (0, .aload_n 0, 11, []) := by decide +kernel
theorem xe_69_10 (x : Int) (st : List MV) (μ : MM) (G : MG) : ev 69 10 [some (vR x)] st μ G = ev 69 11 [some (vR x)] (vR x :: st) μ G := ev_stp pg_69_10 rfl
theorem pg_69_11 : mm_prog 69 11 = some (0, .getfield 24, 14, [7, 2, 0]) := by decide +kernel
theorem xe_69_11 (a0 : Option MV) (x : Int) (st : List MV) (μ : MM) (G : MG) : ev 69 11 [a0] (vR x :: st) μ G = if gk G x = 7 then ev 69 14 [a0] (vI (μ x 2) :: st) μ G else none := ev_if pg_69_11 rfl
theorem pg_69_14 : mm_prog 69 14 = some (0, .sipush 4095, 17, []) := by decide +kernel
theorem xe_69_14 (a0 : Option MV) (st : List MV) (μ : MM) (G : MG) : ev 69 14 [a0] st μ G = ev 69 17 [a0] (vI (4095) :: st) μ G := ev_stp pg_69_14 rfl
theorem pg_69_17 : mm_prog 69 17 = some (0, .if_icmp .gt 74, 20, []) := by decide +kernel
theorem xe_69_17 (a0 : Option MV) (x y : Int) (st : List MV) (μ : MM) (G : MG) : ev 69 17 [a0] (vI y :: vI x :: st) μ G = if y < x then ev 69 91 [a0] st μ G else ev 69 20 [a0] st μ G := ev_br (mm_cnd_gt x y) pg_69_17 rfl
theorem pg_69_20 : mm_prog 69 20 = some (0, .aload_n 0, 21, []) := by decide +kernel
theorem xe_69_20 (x : Int) (st : List MV) (μ : MM) (G : MG) : ev 69 20 [some (vR x)] st μ G = ev 69 21 [some (vR x)] (vR x :: st) μ G := ev_stp pg_69_20 rfl
theorem pg_69_21 : mm_prog 69 21 = some (0, .getfield 27, 24, [7, 5, 0]) := by decide +kernel
theorem xe_69_21 (a0 : Option MV) (x : Int) (st : List MV) (μ : MM) (G : MG) : ev 69 21 [a0] (vR x :: st) μ G = if gk G x = 7 then ev 69 24 [a0] (vI (μ x 5) :: st) μ G else none := ev_if pg_69_21 rfl
theorem pg_69_24 : mm_prog 69 24 = some (0, .sipush 4095, 27, []) := by decide +kernel
theorem xe_69_24 (a0 : Option MV) (st : List MV) (μ : MM) (G : MG) : ev 69 24 [a0] st μ G = ev 69 27 [a0] (vI (4095) :: st) μ G := ev_stp pg_69_24 rfl
theorem pg_69_27 : mm_prog 69 27 = some (0, .if_icmp .gt 64, 30, []) := by decide +kernel
theorem xe_69_27 (a0 : Option MV) (x y : Int) (st : List MV) (μ : MM) (G : MG) : ev 69 27 [a0] (vI y :: vI x :: st) μ G = if y < x then ev 69 91 [a0] st μ G else ev 69 30 [a0] st μ G := ev_br (mm_cnd_gt x y) pg_69_27 rfl
theorem pg_69_30 : mm_prog 69 30 = some (0, .aload_n 0, 31, []) := by decide +kernel
theorem xe_69_30 (x : Int) (st : List MV) (μ : MM) (G : MG) : ev 69 30 [some (vR x)] st μ G = ev 69 31 [some (vR x)] (vR x :: st) μ G := ev_stp pg_69_30 rfl
theorem pg_69_31 : mm_prog 69 31 = some (0, .getfield 30, 34, [7, 6, 0]) := by decide +kernel
theorem xe_69_31 (a0 : Option MV) (x : Int) (st : List MV) (μ : MM) (G : MG) : ev 69 31 [a0] (vR x :: st) μ G = if gk G x = 7 then ev 69 34 [a0] (vI (μ x 6) :: st) μ G else none := ev_if pg_69_31 rfl
theorem pg_69_34 : mm_prog 69 34 = some (0, .sipush 4095, 37, []) := by decide +kernel
theorem xe_69_34 (a0 : Option MV) (st : List MV) (μ : MM) (G : MG) : ev 69 34 [a0] st μ G = ev 69 37 [a0] (vI (4095) :: st) μ G := ev_stp pg_69_34 rfl
theorem pg_69_37 : mm_prog 69 37 = some (0, .if_icmp .gt 54, 40, []) := by decide +kernel
theorem xe_69_37 (a0 : Option MV) (x y : Int) (st : List MV) (μ : MM) (G : MG) : ev 69 37 [a0] (vI y :: vI x :: st) μ G = if y < x then ev 69 91 [a0] st μ G else ev 69 40 [a0] st μ G := ev_br (mm_cnd_gt x y) pg_69_37 rfl
theorem pg_69_40 : mm_prog 69 40 = some (0, .aload_n 0, 41, []) := by decide +kernel
theorem xe_69_40 (x : Int) (st : List MV) (μ : MM) (G : MG) : ev 69 40 [some (vR x)] st μ G = ev 69 41 [some (vR x)] (vR x :: st) μ G := ev_stp pg_69_40 rfl
theorem pg_69_41 : mm_prog 69 41 = some (0, .getfield 33, 44, [7, 3, 0]) := by decide +kernel
theorem xe_69_41 (a0 : Option MV) (x : Int) (st : List MV) (μ : MM) (G : MG) : ev 69 41 [a0] (vR x :: st) μ G = if gk G x = 7 then ev 69 44 [a0] (vI (μ x 3) :: st) μ G else none := ev_if pg_69_41 rfl
theorem pg_69_44 : mm_prog 69 44 = some (0, .sipush 1023, 47, []) := by decide +kernel
theorem xe_69_44 (a0 : Option MV) (st : List MV) (μ : MM) (G : MG) : ev 69 44 [a0] st μ G = ev 69 47 [a0] (vI (1023) :: st) μ G := ev_stp pg_69_44 rfl
theorem pg_69_47 : mm_prog 69 47 = some (0, .if_icmp .gt 44, 50, []) := by decide +kernel
theorem xe_69_47 (a0 : Option MV) (x y : Int) (st : List MV) (μ : MM) (G : MG) : ev 69 47 [a0] (vI y :: vI x :: st) μ G = if y < x then ev 69 91 [a0] st μ G else ev 69 50 [a0] st μ G := ev_br (mm_cnd_gt x y) pg_69_47 rfl
theorem pg_69_50 : mm_prog 69 50 = some (0, .aload_n 0, 51, []) := by decide +kernel
theorem xe_69_50 (x : Int) (st : List MV) (μ : MM) (G : MG) : ev 69 50 [some (vR x)] st μ G = ev 69 51 [some (vR x)] (vR x :: st) μ G := ev_stp pg_69_50 rfl
theorem pg_69_51 : mm_prog 69 51 = some (0, .getfield 36, 54, [7, 4, 0]) := by decide +kernel
theorem xe_69_51 (a0 : Option MV) (x : Int) (st : List MV) (μ : MM) (G : MG) : ev 69 51 [a0] (vR x :: st) μ G = if gk G x = 7 then ev 69 54 [a0] (vI (μ x 4) :: st) μ G else none := ev_if pg_69_51 rfl
theorem pg_69_54 : mm_prog 69 54 = some (0, .sipush 1023, 57, []) := by decide +kernel
theorem xe_69_54 (a0 : Option MV) (st : List MV) (μ : MM) (G : MG) : ev 69 54 [a0] st μ G = ev 69 57 [a0] (vI (1023) :: st) μ G := ev_stp pg_69_54 rfl
theorem pg_69_57 : mm_prog 69 57 = some (0, .if_icmp .gt 34, 60, []) := by decide +kernel
theorem xe_69_57 (a0 : Option MV) (x y : Int) (st : List MV) (μ : MM) (G : MG) : ev 69 57 [a0] (vI y :: vI x :: st) μ G = if y < x then ev 69 91 [a0] st μ G else ev 69 60 [a0] st μ G := ev_br (mm_cnd_gt x y) pg_69_57 rfl
theorem pg_69_60 : mm_prog 69 60 = some (0, .aload_n 0, 61, []) := by decide +kernel
theorem xe_69_60 (x : Int) (st : List MV) (μ : MM) (G : MG) : ev 69 60 [some (vR x)] st μ G = ev 69 61 [some (vR x)] (vR x :: st) μ G := ev_stp pg_69_60 rfl
theorem pg_69_61 : mm_prog 69 61 = some (0, .getfield 39, 64, [7, 7, 0]) := by decide +kernel
theorem xe_69_61 (a0 : Option MV) (x : Int) (st : List MV) (μ : MM) (G : MG) : ev 69 61 [a0] (vR x :: st) μ G = if gk G x = 7 then ev 69 64 [a0] (vI (μ x 7) :: st) μ G else none := ev_if pg_69_61 rfl
theorem pg_69_64 : mm_prog 69 64 = some (0, .bipush 63, 66, []) := by decide +kernel
theorem xe_69_64 (a0 : Option MV) (st : List MV) (μ : MM) (G : MG) : ev 69 64 [a0] st μ G = ev 69 66 [a0] (vI (63) :: st) μ G := ev_stp pg_69_64 rfl
theorem pg_69_66 : mm_prog 69 66 = some (0, .if_icmp .gt 25, 69, []) := by decide +kernel
theorem xe_69_66 (a0 : Option MV) (x y : Int) (st : List MV) (μ : MM) (G : MG) : ev 69 66 [a0] (vI y :: vI x :: st) μ G = if y < x then ev 69 91 [a0] st μ G else ev 69 69 [a0] st μ G := ev_br (mm_cnd_gt x y) pg_69_66 rfl
theorem pg_69_69 : mm_prog 69 69 = some (0, .aload_n 0, 70, []) := by decide +kernel
theorem xe_69_69 (x : Int) (st : List MV) (μ : MM) (G : MG) : ev 69 69 [some (vR x)] st μ G = ev 69 70 [some (vR x)] (vR x :: st) μ G := ev_stp pg_69_69 rfl
theorem pg_69_70 : mm_prog 69 70 = some (0, .getfield 42, 73, [7, 8, 0]) := by decide +kernel
theorem xe_69_70 (a0 : Option MV) (x : Int) (st : List MV) (μ : MM) (G : MG) : ev 69 70 [a0] (vR x :: st) μ G = if gk G x = 7 then ev 69 73 [a0] (vI (μ x 8) :: st) μ G else none := ev_if pg_69_70 rfl
theorem pg_69_73 : mm_prog 69 73 = some (0, .bipush 63, 75, []) := by decide +kernel
theorem xe_69_73 (a0 : Option MV) (st : List MV) (μ : MM) (G : MG) : ev 69 73 [a0] st μ G = ev 69 75 [a0] (vI (63) :: st) μ G := ev_stp pg_69_73 rfl
theorem pg_69_75 : mm_prog 69 75 = some (0, .if_icmp .gt 16, 78, []) := by decide +kernel
theorem xe_69_75 (a0 : Option MV) (x y : Int) (st : List MV) (μ : MM) (G : MG) : ev 69 75 [a0] (vI y :: vI x :: st) μ G = if y < x then ev 69 91 [a0] st μ G else ev 69 78 [a0] st μ G := ev_br (mm_cnd_gt x y) pg_69_75 rfl
theorem pg_69_78 : mm_prog 69 78 = some (0, .aload_n 0, 79, []) := by decide +kernel
theorem xe_69_78 (x : Int) (st : List MV) (μ : MM) (G : MG) : ev 69 78 [some (vR x)] st μ G = ev 69 79 [some (vR x)] (vR x :: st) μ G := ev_stp pg_69_78 rfl
theorem pg_69_79 : mm_prog 69 79 = some (0, .getfield 15, 82, [7, 0, 0]) := by decide +kernel
theorem xe_69_79 (a0 : Option MV) (x : Int) (st : List MV) (μ : MM) (G : MG) : ev 69 79 [a0] (vR x :: st) μ G = if gk G x = 7 then ev 69 82 [a0] (vI (μ x 0) :: st) μ G else none := ev_if pg_69_79 rfl
theorem pg_69_82 : mm_prog 69 82 = some (0, .ldc 81, 84, [655359]) := by decide +kernel
theorem xe_69_82 (a0 : Option MV) (st : List MV) (μ : MM) (G : MG) : ev 69 82 [a0] st μ G = ev 69 84 [a0] (vI (655359) :: st) μ G := ev_stp pg_69_82 rfl
theorem pg_69_84 : mm_prog 69 84 = some (0, .if_icmp .gt 7, 87, []) := by decide +kernel
theorem xe_69_84 (a0 : Option MV) (x y : Int) (st : List MV) (μ : MM) (G : MG) : ev 69 84 [a0] (vI y :: vI x :: st) μ G = if y < x then ev 69 91 [a0] st μ G else ev 69 87 [a0] st μ G := ev_br (mm_cnd_gt x y) pg_69_84 rfl
theorem pg_69_87 : mm_prog 69 87 = some (0, .iconst 1, 88, []) := by decide +kernel
theorem xe_69_87 (a0 : Option MV) (st : List MV) (μ : MM) (G : MG) : ev 69 87 [a0] st μ G = ev 69 88 [a0] (vI (1) :: st) μ G := ev_stp pg_69_87 rfl
theorem pg_69_88 : mm_prog 69 88 = some (0, .goto 4, 91, []) := by decide +kernel
theorem xe_69_88 (a0 : Option MV) (st : List MV) (μ : MM) (G : MG) : ev 69 88 [a0] st μ G = ev 69 92 [a0] st μ G := ev_stp pg_69_88 rfl
theorem pg_69_91 : mm_prog 69 91 = some (0, .iconst 0, 92, []) := by decide +kernel
theorem xe_69_91 (a0 : Option MV) (st : List MV) (μ : MM) (G : MG) : ev 69 91 [a0] st μ G = ev 69 92 [a0] (vI (0) :: st) μ G := ev_stp pg_69_91 rfl
theorem pg_69_92 : mm_prog 69 92 = some (2, .ireturn, 93, [1]) := by decide +kernel
theorem xe_69_92 (a0 : Option MV) (x : Int) (μ : MM) (G : MG) : ev 69 92 [a0] [vI x] μ G = if x = 0 ∨ x = 1 then some (some (vI x), μ, G) else none := ev_retB pg_69_92
-- X7_wholeH
theorem pg_70_0 : mm_prog 70 0 = some (0, .aload_n 0, 1, []) := by decide +kernel
theorem xe_70_0 (x : Int) (st : List MV) (μ : MM) (G : MG) : ev 70 0 [some (vR x)] st μ G = ev 70 1 [some (vR x)] (vR x :: st) μ G := ev_stp pg_70_0 rfl
theorem pg_70_1 : mm_prog 70 1 = some (0, .getfield 21, 4, [7, 1, 0]) := by decide +kernel
theorem xe_70_1 (a0 : Option MV) (x : Int) (st : List MV) (μ : MM) (G : MG) : ev 70 1 [a0] (vR x :: st) μ G = if gk G x = 7 then ev 70 4 [a0] (vI (μ x 1) :: st) μ G else none := ev_if pg_70_1 rfl
theorem pg_70_4 : mm_prog 70 4 = some (0, .aload_n 0, 5, []) := by decide +kernel
theorem xe_70_4 (x : Int) (st : List MV) (μ : MM) (G : MG) : ev 70 4 [some (vR x)] st μ G = ev 70 5 [some (vR x)] (vR x :: st) μ G := ev_stp pg_70_4 rfl
theorem pg_70_5 : mm_prog 70 5 = some (0, .getfield 24, 8, [7, 2, 0]) := by decide +kernel
theorem xe_70_5 (a0 : Option MV) (x : Int) (st : List MV) (μ : MM) (G : MG) : ev 70 5 [a0] (vR x :: st) μ G = if gk G x = 7 then ev 70 8 [a0] (vI (μ x 2) :: st) μ G else none := ev_if pg_70_5 rfl
theorem pg_70_8 : mm_prog 70 8 = some (0, .iadd, 9, []) := by decide +kernel
theorem xe_70_8 (a0 : Option MV) (x y : Int) (st : List MV) (μ : MM) (G : MG) : ev 70 8 [a0] (vI y :: vI x :: st) μ G = ev 70 9 [a0] (vI (w32 (x + y)) :: st) μ G := ev_stp pg_70_8 rfl
theorem pg_70_9 : mm_prog 70 9 = some (2, .ireturn, 10, [0]) := by decide +kernel
theorem xe_70_9 (a0 : Option MV) (x : Int) (μ : MM) (G : MG) : ev 70 9 [a0] [vI x] μ G = some (some (vI x), μ, G) := ev_ret pg_70_9 rfl
-- X7_wholeV
theorem pg_71_0 : mm_prog 71 0 = some (0, .aload_n 0, 1, []) := by decide +kernel
theorem xe_71_0 (x : Int) (st : List MV) (μ : MM) (G : MG) : ev 71 0 [some (vR x)] st μ G = ev 71 1 [some (vR x)] (vR x :: st) μ G := ev_stp pg_71_0 rfl
theorem pg_71_1 : mm_prog 71 1 = some (0, .getfield 27, 4, [7, 5, 0]) := by decide +kernel
theorem xe_71_1 (a0 : Option MV) (x : Int) (st : List MV) (μ : MM) (G : MG) : ev 71 1 [a0] (vR x :: st) μ G = if gk G x = 7 then ev 71 4 [a0] (vI (μ x 5) :: st) μ G else none := ev_if pg_71_1 rfl
theorem pg_71_4 : mm_prog 71 4 = some (0, .aload_n 0, 5, []) := by decide +kernel
theorem xe_71_4 (x : Int) (st : List MV) (μ : MM) (G : MG) : ev 71 4 [some (vR x)] st μ G = ev 71 5 [some (vR x)] (vR x :: st) μ G := ev_stp pg_71_4 rfl
theorem pg_71_5 : mm_prog 71 5 = some (0, .getfield 30, 8, [7, 6, 0]) := by decide +kernel
theorem xe_71_5 (a0 : Option MV) (x : Int) (st : List MV) (μ : MM) (G : MG) : ev 71 5 [a0] (vR x :: st) μ G = if gk G x = 7 then ev 71 8 [a0] (vI (μ x 6) :: st) μ G else none := ev_if pg_71_5 rfl
theorem pg_71_8 : mm_prog 71 8 = some (0, .iadd, 9, []) := by decide +kernel
theorem xe_71_8 (a0 : Option MV) (x y : Int) (st : List MV) (μ : MM) (G : MG) : ev 71 8 [a0] (vI y :: vI x :: st) μ G = ev 71 9 [a0] (vI (w32 (x + y)) :: st) μ G := ev_stp pg_71_8 rfl
theorem pg_71_9 : mm_prog 71 9 = some (2, .ireturn, 10, [0]) := by decide +kernel
theorem xe_71_9 (a0 : Option MV) (x : Int) (μ : MM) (G : MG) : ev 71 9 [a0] [vI x] μ G = some (some (vI x), μ, G) := ev_ret pg_71_9 rfl
-- X7_pixels
theorem pg_72_0 : mm_prog 72 0 = some (0, .aload_n 0, 1, []) := by decide +kernel
theorem xe_72_0 (x : Int) (st : List MV) (μ : MM) (G : MG) : ev 72 0 [some (vR x)] st μ G = ev 72 1 [some (vR x)] (vR x :: st) μ G := ev_stp pg_72_0 rfl
theorem pg_72_1 : mm_prog 72 1 = some (0, .getfield 21, 4, [7, 1, 0]) := by decide +kernel
theorem xe_72_1 (a0 : Option MV) (x : Int) (st : List MV) (μ : MM) (G : MG) : ev 72 1 [a0] (vR x :: st) μ G = if gk G x = 7 then ev 72 4 [a0] (vI (μ x 1) :: st) μ G else none := ev_if pg_72_1 rfl
theorem pg_72_4 : mm_prog 72 4 = some (0, .aload_n 0, 5, []) := by decide +kernel
theorem xe_72_4 (x : Int) (st : List MV) (μ : MM) (G : MG) : ev 72 4 [some (vR x)] st μ G = ev 72 5 [some (vR x)] (vR x :: st) μ G := ev_stp pg_72_4 rfl
theorem pg_72_5 : mm_prog 72 5 = some (0, .getfield 24, 8, [7, 2, 0]) := by decide +kernel
theorem xe_72_5 (a0 : Option MV) (x : Int) (st : List MV) (μ : MM) (G : MG) : ev 72 5 [a0] (vR x :: st) μ G = if gk G x = 7 then ev 72 8 [a0] (vI (μ x 2) :: st) μ G else none := ev_if pg_72_5 rfl
theorem pg_72_8 : mm_prog 72 8 = some (0, .iadd, 9, []) := by decide +kernel
theorem xe_72_8 (a0 : Option MV) (x y : Int) (st : List MV) (μ : MM) (G : MG) : ev 72 8 [a0] (vI y :: vI x :: st) μ G = ev 72 9 [a0] (vI (w32 (x + y)) :: st) μ G := ev_stp pg_72_8 rfl
theorem pg_72_9 : mm_prog 72 9 = some (0, .i2l, 10, []) := by decide +kernel
theorem xe_72_9 (a0 : Option MV) (x : Int) (st : List MV) (μ : MM) (G : MG) : ev 72 9 [a0] (vI x :: st) μ G = ev 72 10 [a0] (vL x :: st) μ G := ev_stp pg_72_9 rfl
theorem pg_72_10 : mm_prog 72 10 = some (0, .aload_n 0, 11, []) := by decide +kernel
theorem xe_72_10 (x : Int) (st : List MV) (μ : MM) (G : MG) : ev 72 10 [some (vR x)] st μ G = ev 72 11 [some (vR x)] (vR x :: st) μ G := ev_stp pg_72_10 rfl
theorem pg_72_11 : mm_prog 72 11 = some (0, .getfield 27, 14, [7, 5, 0]) := by decide +kernel
theorem xe_72_11 (a0 : Option MV) (x : Int) (st : List MV) (μ : MM) (G : MG) : ev 72 11 [a0] (vR x :: st) μ G = if gk G x = 7 then ev 72 14 [a0] (vI (μ x 5) :: st) μ G else none := ev_if pg_72_11 rfl
theorem pg_72_14 : mm_prog 72 14 = some (0, .aload_n 0, 15, []) := by decide +kernel
theorem xe_72_14 (x : Int) (st : List MV) (μ : MM) (G : MG) : ev 72 14 [some (vR x)] st μ G = ev 72 15 [some (vR x)] (vR x :: st) μ G := ev_stp pg_72_14 rfl
theorem pg_72_15 : mm_prog 72 15 = some (0, .getfield 30, 18, [7, 6, 0]) := by decide +kernel
theorem xe_72_15 (a0 : Option MV) (x : Int) (st : List MV) (μ : MM) (G : MG) : ev 72 15 [a0] (vR x :: st) μ G = if gk G x = 7 then ev 72 18 [a0] (vI (μ x 6) :: st) μ G else none := ev_if pg_72_15 rfl
theorem pg_72_18 : mm_prog 72 18 = some (0, .iadd, 19, []) := by decide +kernel
theorem xe_72_18 (a0 : Option MV) (x y : Int) (st : List MV) (μ : MM) (G : MG) : ev 72 18 [a0] (vI y :: vI x :: st) μ G = ev 72 19 [a0] (vI (w32 (x + y)) :: st) μ G := ev_stp pg_72_18 rfl
theorem pg_72_19 : mm_prog 72 19 = some (0, .i2l, 20, []) := by decide +kernel
theorem xe_72_19 (a0 : Option MV) (x : Int) (st : List MV) (μ : MM) (G : MG) : ev 72 19 [a0] (vI x :: st) μ G = ev 72 20 [a0] (vL x :: st) μ G := ev_stp pg_72_19 rfl
theorem pg_72_20 : mm_prog 72 20 = some (0, .lmul, 21, []) := by decide +kernel
theorem xe_72_20 (a0 : Option MV) (x y : Int) (st : List MV) (μ : MM) (G : MG) : ev 72 20 [a0] (vL y :: vL x :: st) μ G = ev 72 21 [a0] (vL (w64 (x * y)) :: st) μ G := ev_stp pg_72_20 rfl
theorem pg_72_21 : mm_prog 72 21 = some (2, .lreturn, 22, []) := by decide +kernel
theorem xe_72_21 (a0 : Option MV) (x : Int) (μ : MM) (G : MG) : ev 72 21 [a0] [vL x] μ G = some (some (vL x), μ, G) := ev_ret pg_72_21 rfl
-- X7_nearestHertz
theorem pg_73_0 : mm_prog 73 0 = some (0, .aload_n 0, 1, []) := by decide +kernel
theorem xe_73_0 (a1 a2 : Option MV) (x : Int) (st : List MV) (μ : MM) (G : MG) : ev 73 0 [some (vR x), a1, a2] st μ G = ev 73 1 [some (vR x), a1, a2] (vR x :: st) μ G := ev_stp pg_73_0 rfl
theorem pg_73_1 : mm_prog 73 1 = some (1, .invokevirtual 61, 4, [1, 72, 0, 7]) := by decide +kernel
theorem xe_73_1 (a0 a1 a2 : Option MV) (z : Int) (μ : MM) (G : MG) : ev 73 1 [a0, a1, a2] (vR z :: []) μ G = if gk G z = 7 ∧ 0 < z then (ev 72 0 [some (vR z)] [] μ G).bind (fun q => ev 73 4 [a0, a1, a2] (q.1.toList ++ []) q.2.1 q.2.2) else none := ev_calV (as := [vR z]) (r := []) mx_72 pg_73_1 rfl rfl (Nat.le_of_ble_eq_true rfl) (Nat.le_of_ble_eq_true rfl)
theorem pg_73_4 : mm_prog 73 4 = some (0, .lstore_n 1, 5, []) := by decide +kernel
theorem xe_73_4 (a0 a1 a2 : Option MV) (x : Int) (st : List MV) (μ : MM) (G : MG) (h : mm_nL a0 = true) : ev 73 4 [a0, a1, a2] (vL x :: st) μ G = ev 73 5 [a0, some (vL x), none] st μ G := ev_st pg_73_4 rfl (mm_nl_of h) (Nat.le_of_ble_eq_true rfl)
theorem pg_73_5 : mm_prog 73 5 = some (0, .lload_n 1, 6, []) := by decide +kernel
theorem xe_73_5 (a0 a2 : Option MV) (x : Int) (st : List MV) (μ : MM) (G : MG) : ev 73 5 [a0, some (vL x), a2] st μ G = ev 73 6 [a0, some (vL x), a2] (vL x :: st) μ G := ev_stp pg_73_5 rfl
theorem pg_73_6 : mm_prog 73 6 = some (0, .lconst 0, 7, []) := by decide +kernel
theorem xe_73_6 (a0 a1 a2 : Option MV) (st : List MV) (μ : MM) (G : MG) : ev 73 6 [a0, a1, a2] st μ G = ev 73 7 [a0, a1, a2] (vL 0 :: st) μ G := ev_stp pg_73_6 rfl
theorem pg_73_7 : mm_prog 73 7 = some (0, .lcmp, 8, []) := by decide +kernel
theorem xe_73_7 (a0 a1 a2 : Option MV) (x y : Int) (st : List MV) (μ : MM) (G : MG) : ev 73 7 [a0, a1, a2] (vL y :: vL x :: st) μ G = ev 73 8 [a0, a1, a2] (vI (mm_cmp x y) :: st) μ G := ev_stp pg_73_7 rfl
theorem pg_73_8 : mm_prog 73 8 = some (0, .ifCond .le 24, 11, []) := by decide +kernel
theorem xe_73_8 (a0 a1 a2 : Option MV) (x : Int) (st : List MV) (μ : MM) (G : MG) : ev 73 8 [a0, a1, a2] (vI x :: st) μ G = if x ≤ 0 then ev 73 32 [a0, a1, a2] st μ G else ev 73 11 [a0, a1, a2] st μ G := ev_br (mm_cnd_le x 0) pg_73_8 rfl
theorem pg_73_11 : mm_prog 73 11 = some (0, .aload_n 0, 12, []) := by decide +kernel
theorem xe_73_11 (a1 a2 : Option MV) (x : Int) (st : List MV) (μ : MM) (G : MG) : ev 73 11 [some (vR x), a1, a2] st μ G = ev 73 12 [some (vR x), a1, a2] (vR x :: st) μ G := ev_stp pg_73_11 rfl
theorem pg_73_12 : mm_prog 73 12 = some (0, .getfield 15, 15, [7, 0, 0]) := by decide +kernel
theorem xe_73_12 (a0 a1 a2 : Option MV) (x : Int) (st : List MV) (μ : MM) (G : MG) : ev 73 12 [a0, a1, a2] (vR x :: st) μ G = if gk G x = 7 then ev 73 15 [a0, a1, a2] (vI (μ x 0) :: st) μ G else none := ev_if pg_73_12 rfl
theorem pg_73_15 : mm_prog 73 15 = some (0, .i2l, 16, []) := by decide +kernel
theorem xe_73_15 (a0 a1 a2 : Option MV) (x : Int) (st : List MV) (μ : MM) (G : MG) : ev 73 15 [a0, a1, a2] (vI x :: st) μ G = ev 73 16 [a0, a1, a2] (vL x :: st) μ G := ev_stp pg_73_15 rfl
theorem pg_73_16 : mm_prog 73 16 = some (0, .ldc2_w 82, 19, [2000]) := by decide +kernel
theorem xe_73_16 (a0 a1 a2 : Option MV) (st : List MV) (μ : MM) (G : MG) : ev 73 16 [a0, a1, a2] st μ G = ev 73 19 [a0, a1, a2] (vL (2000) :: st) μ G := ev_stp pg_73_16 rfl
theorem pg_73_19 : mm_prog 73 19 = some (0, .lmul, 20, []) := by decide +kernel
theorem xe_73_19 (a0 a1 a2 : Option MV) (x y : Int) (st : List MV) (μ : MM) (G : MG) : ev 73 19 [a0, a1, a2] (vL y :: vL x :: st) μ G = ev 73 20 [a0, a1, a2] (vL (w64 (x * y)) :: st) μ G := ev_stp pg_73_19 rfl
theorem pg_73_20 : mm_prog 73 20 = some (0, .lload_n 1, 21, []) := by decide +kernel
theorem xe_73_20 (a0 a2 : Option MV) (x : Int) (st : List MV) (μ : MM) (G : MG) : ev 73 20 [a0, some (vL x), a2] st μ G = ev 73 21 [a0, some (vL x), a2] (vL x :: st) μ G := ev_stp pg_73_20 rfl
theorem pg_73_21 : mm_prog 73 21 = some (0, .ladd, 22, []) := by decide +kernel
theorem xe_73_21 (a0 a1 a2 : Option MV) (x y : Int) (st : List MV) (μ : MM) (G : MG) : ev 73 21 [a0, a1, a2] (vL y :: vL x :: st) μ G = ev 73 22 [a0, a1, a2] (vL (w64 (x + y)) :: st) μ G := ev_stp pg_73_21 rfl
theorem pg_73_22 : mm_prog 73 22 = some (0, .ldc2_w 84, 25, [2]) := by decide +kernel
theorem xe_73_22 (a0 a1 a2 : Option MV) (st : List MV) (μ : MM) (G : MG) : ev 73 22 [a0, a1, a2] st μ G = ev 73 25 [a0, a1, a2] (vL (2) :: st) μ G := ev_stp pg_73_22 rfl
theorem pg_73_25 : mm_prog 73 25 = some (0, .lload_n 1, 26, []) := by decide +kernel
theorem xe_73_25 (a0 a2 : Option MV) (x : Int) (st : List MV) (μ : MM) (G : MG) : ev 73 25 [a0, some (vL x), a2] st μ G = ev 73 26 [a0, some (vL x), a2] (vL x :: st) μ G := ev_stp pg_73_25 rfl
theorem pg_73_26 : mm_prog 73 26 = some (0, .lmul, 27, []) := by decide +kernel
theorem xe_73_26 (a0 a1 a2 : Option MV) (x y : Int) (st : List MV) (μ : MM) (G : MG) : ev 73 26 [a0, a1, a2] (vL y :: vL x :: st) μ G = ev 73 27 [a0, a1, a2] (vL (w64 (x * y)) :: st) μ G := ev_stp pg_73_26 rfl
theorem pg_73_27 : mm_prog 73 27 = some (0, .ldiv, 28, []) := by decide +kernel
theorem xe_73_27 (a0 a1 a2 : Option MV) (x y : Int) (st : List MV) (μ : MM) (G : MG) : ev 73 27 [a0, a1, a2] (vL y :: vL x :: st) μ G = if y = 0 then none else ev 73 28 [a0, a1, a2] (vL (mm_ldiv x y) :: st) μ G := ev_no pg_73_27 rfl
theorem pg_73_28 : mm_prog 73 28 = some (0, .l2i, 29, []) := by decide +kernel
theorem xe_73_28 (a0 a1 a2 : Option MV) (x : Int) (st : List MV) (μ : MM) (G : MG) : ev 73 28 [a0, a1, a2] (vL x :: st) μ G = ev 73 29 [a0, a1, a2] (vI (w32 x) :: st) μ G := ev_stp pg_73_28 rfl
theorem pg_73_29 : mm_prog 73 29 = some (0, .goto 4, 32, []) := by decide +kernel
theorem xe_73_29 (a0 a1 a2 : Option MV) (st : List MV) (μ : MM) (G : MG) : ev 73 29 [a0, a1, a2] st μ G = ev 73 33 [a0, a1, a2] st μ G := ev_stp pg_73_29 rfl
theorem pg_73_32 : mm_prog 73 32 = some (0, .iconst 0, 33, []) := by decide +kernel
theorem xe_73_32 (a0 a1 a2 : Option MV) (st : List MV) (μ : MM) (G : MG) : ev 73 32 [a0, a1, a2] st μ G = ev 73 33 [a0, a1, a2] (vI (0) :: st) μ G := ev_stp pg_73_32 rfl
theorem pg_73_33 : mm_prog 73 33 = some (2, .ireturn, 34, [0]) := by decide +kernel
theorem xe_73_33 (a0 a1 a2 : Option MV) (x : Int) (μ : MM) (G : MG) : ev 73 33 [a0, a1, a2] [vI x] μ G = some (some (vI x), μ, G) := ev_ret pg_73_33 rfl
-- X7_thousandths
theorem pg_74_0 : mm_prog 74 0 = some (0, .aload_n 0, 1, []) := by decide +kernel
theorem xe_74_0 (a1 a2 : Option MV) (x : Int) (st : List MV) (μ : MM) (G : MG) : ev 74 0 [some (vR x), a1, a2] st μ G = ev 74 1 [some (vR x), a1, a2] (vR x :: st) μ G := ev_stp pg_74_0 rfl
theorem pg_74_1 : mm_prog 74 1 = some (1, .invokevirtual 61, 4, [1, 72, 0, 7]) := by decide +kernel
theorem xe_74_1 (a0 a1 a2 : Option MV) (z : Int) (μ : MM) (G : MG) : ev 74 1 [a0, a1, a2] (vR z :: []) μ G = if gk G z = 7 ∧ 0 < z then (ev 72 0 [some (vR z)] [] μ G).bind (fun q => ev 74 4 [a0, a1, a2] (q.1.toList ++ []) q.2.1 q.2.2) else none := ev_calV (as := [vR z]) (r := []) mx_72 pg_74_1 rfl rfl (Nat.le_of_ble_eq_true rfl) (Nat.le_of_ble_eq_true rfl)
theorem pg_74_4 : mm_prog 74 4 = some (0, .lstore_n 1, 5, []) := by decide +kernel
theorem xe_74_4 (a0 a1 a2 : Option MV) (x : Int) (st : List MV) (μ : MM) (G : MG) (h : mm_nL a0 = true) : ev 74 4 [a0, a1, a2] (vL x :: st) μ G = ev 74 5 [a0, some (vL x), none] st μ G := ev_st pg_74_4 rfl (mm_nl_of h) (Nat.le_of_ble_eq_true rfl)
theorem pg_74_5 : mm_prog 74 5 = some (0, .lload_n 1, 6, []) := by decide +kernel
theorem xe_74_5 (a0 a2 : Option MV) (x : Int) (st : List MV) (μ : MM) (G : MG) : ev 74 5 [a0, some (vL x), a2] st μ G = ev 74 6 [a0, some (vL x), a2] (vL x :: st) μ G := ev_stp pg_74_5 rfl
theorem pg_74_6 : mm_prog 74 6 = some (0, .lconst 0, 7, []) := by decide +kernel
theorem xe_74_6 (a0 a1 a2 : Option MV) (st : List MV) (μ : MM) (G : MG) : ev 74 6 [a0, a1, a2] st μ G = ev 74 7 [a0, a1, a2] (vL 0 :: st) μ G := ev_stp pg_74_6 rfl
theorem pg_74_7 : mm_prog 74 7 = some (0, .lcmp, 8, []) := by decide +kernel
theorem xe_74_7 (a0 a1 a2 : Option MV) (x y : Int) (st : List MV) (μ : MM) (G : MG) : ev 74 7 [a0, a1, a2] (vL y :: vL x :: st) μ G = ev 74 8 [a0, a1, a2] (vI (mm_cmp x y) :: st) μ G := ev_stp pg_74_7 rfl
theorem pg_74_8 : mm_prog 74 8 = some (0, .ifCond .le 24, 11, []) := by decide +kernel
theorem xe_74_8 (a0 a1 a2 : Option MV) (x : Int) (st : List MV) (μ : MM) (G : MG) : ev 74 8 [a0, a1, a2] (vI x :: st) μ G = if x ≤ 0 then ev 74 32 [a0, a1, a2] st μ G else ev 74 11 [a0, a1, a2] st μ G := ev_br (mm_cnd_le x 0) pg_74_8 rfl
theorem pg_74_11 : mm_prog 74 11 = some (0, .aload_n 0, 12, []) := by decide +kernel
theorem xe_74_11 (a1 a2 : Option MV) (x : Int) (st : List MV) (μ : MM) (G : MG) : ev 74 11 [some (vR x), a1, a2] st μ G = ev 74 12 [some (vR x), a1, a2] (vR x :: st) μ G := ev_stp pg_74_11 rfl
theorem pg_74_12 : mm_prog 74 12 = some (0, .getfield 15, 15, [7, 0, 0]) := by decide +kernel
theorem xe_74_12 (a0 a1 a2 : Option MV) (x : Int) (st : List MV) (μ : MM) (G : MG) : ev 74 12 [a0, a1, a2] (vR x :: st) μ G = if gk G x = 7 then ev 74 15 [a0, a1, a2] (vI (μ x 0) :: st) μ G else none := ev_if pg_74_12 rfl
theorem pg_74_15 : mm_prog 74 15 = some (0, .i2l, 16, []) := by decide +kernel
theorem xe_74_15 (a0 a1 a2 : Option MV) (x : Int) (st : List MV) (μ : MM) (G : MG) : ev 74 15 [a0, a1, a2] (vI x :: st) μ G = ev 74 16 [a0, a1, a2] (vL x :: st) μ G := ev_stp pg_74_15 rfl
theorem pg_74_16 : mm_prog 74 16 = some (0, .ldc2_w 69, 19, [1000000]) := by decide +kernel
theorem xe_74_16 (a0 a1 a2 : Option MV) (st : List MV) (μ : MM) (G : MG) : ev 74 16 [a0, a1, a2] st μ G = ev 74 19 [a0, a1, a2] (vL (1000000) :: st) μ G := ev_stp pg_74_16 rfl
theorem pg_74_19 : mm_prog 74 19 = some (0, .lmul, 20, []) := by decide +kernel
theorem xe_74_19 (a0 a1 a2 : Option MV) (x y : Int) (st : List MV) (μ : MM) (G : MG) : ev 74 19 [a0, a1, a2] (vL y :: vL x :: st) μ G = ev 74 20 [a0, a1, a2] (vL (w64 (x * y)) :: st) μ G := ev_stp pg_74_19 rfl
theorem pg_74_20 : mm_prog 74 20 = some (0, .lload_n 1, 21, []) := by decide +kernel
theorem xe_74_20 (a0 a2 : Option MV) (x : Int) (st : List MV) (μ : MM) (G : MG) : ev 74 20 [a0, some (vL x), a2] st μ G = ev 74 21 [a0, some (vL x), a2] (vL x :: st) μ G := ev_stp pg_74_20 rfl
theorem pg_74_21 : mm_prog 74 21 = some (0, .ldiv, 22, []) := by decide +kernel
theorem xe_74_21 (a0 a1 a2 : Option MV) (x y : Int) (st : List MV) (μ : MM) (G : MG) : ev 74 21 [a0, a1, a2] (vL y :: vL x :: st) μ G = if y = 0 then none else ev 74 22 [a0, a1, a2] (vL (mm_ldiv x y) :: st) μ G := ev_no pg_74_21 rfl
theorem pg_74_22 : mm_prog 74 22 = some (0, .ldc2_w 86, 25, [2147483647]) := by decide +kernel
theorem xe_74_22 (a0 a1 a2 : Option MV) (st : List MV) (μ : MM) (G : MG) : ev 74 22 [a0, a1, a2] st μ G = ev 74 25 [a0, a1, a2] (vL (2147483647) :: st) μ G := ev_stp pg_74_22 rfl
theorem pg_74_25 : mm_prog 74 25 = some (0, .invokestatic 88, 28, [0, 0, 0]) := by decide +kernel
theorem xe_74_25 (a0 a1 a2 : Option MV) (x y : Int) (st : List MV) (μ : MM) (G : MG) : ev 74 25 [a0, a1, a2] (vL y :: vL x :: st) μ G = if mm_cats st ≤ 8 then ev 74 28 [a0, a1, a2] (vL (min x y) :: st) μ G else none := ev_if pg_74_25 rfl
theorem pg_74_28 : mm_prog 74 28 = some (0, .l2i, 29, []) := by decide +kernel
theorem xe_74_28 (a0 a1 a2 : Option MV) (x : Int) (st : List MV) (μ : MM) (G : MG) : ev 74 28 [a0, a1, a2] (vL x :: st) μ G = ev 74 29 [a0, a1, a2] (vI (w32 x) :: st) μ G := ev_stp pg_74_28 rfl
theorem pg_74_29 : mm_prog 74 29 = some (0, .goto 4, 32, []) := by decide +kernel
theorem xe_74_29 (a0 a1 a2 : Option MV) (st : List MV) (μ : MM) (G : MG) : ev 74 29 [a0, a1, a2] st μ G = ev 74 33 [a0, a1, a2] st μ G := ev_stp pg_74_29 rfl
theorem pg_74_32 : mm_prog 74 32 = some (0, .iconst 0, 33, []) := by decide +kernel
theorem xe_74_32 (a0 a1 a2 : Option MV) (st : List MV) (μ : MM) (G : MG) : ev 74 32 [a0, a1, a2] st μ G = ev 74 33 [a0, a1, a2] (vI (0) :: st) μ G := ev_stp pg_74_32 rfl
theorem pg_74_33 : mm_prog 74 33 = some (2, .ireturn, 34, [0]) := by decide +kernel
theorem xe_74_33 (a0 a1 a2 : Option MV) (x : Int) (μ : MM) (G : MG) : ev 74 33 [a0, a1, a2] [vI x] μ G = some (some (vI x), μ, G) := ev_ret pg_74_33 rfl
-- X7_lineRate
theorem pg_75_0 : mm_prog 75 0 = some (0, .aload_n 0, 1, []) := by decide +kernel
theorem xe_75_0 (a1 : Option MV) (x : Int) (st : List MV) (μ : MM) (G : MG) : ev 75 0 [some (vR x), a1] st μ G = ev 75 1 [some (vR x), a1] (vR x :: st) μ G := ev_stp pg_75_0 rfl
theorem pg_75_1 : mm_prog 75 1 = some (1, .invokevirtual 92, 4, [1, 70, 0, 7]) := by decide +kernel
theorem xe_75_1 (a0 a1 : Option MV) (z : Int) (μ : MM) (G : MG) : ev 75 1 [a0, a1] (vR z :: []) μ G = if gk G z = 7 ∧ 0 < z then (ev 70 0 [some (vR z)] [] μ G).bind (fun q => ev 75 4 [a0, a1] (q.1.toList ++ []) q.2.1 q.2.2) else none := ev_calV (as := [vR z]) (r := []) mx_70 pg_75_1 rfl rfl (Nat.le_of_ble_eq_true rfl) (Nat.le_of_ble_eq_true rfl)
theorem pg_75_4 : mm_prog 75 4 = some (0, .istore_n 1, 5, []) := by decide +kernel
theorem xe_75_4 (a0 a1 : Option MV) (x : Int) (st : List MV) (μ : MM) (G : MG) (h : mm_nL a0 = true) : ev 75 4 [a0, a1] (vI x :: st) μ G = ev 75 5 [a0, some (vI x)] st μ G := ev_st pg_75_4 rfl (mm_nl_of h) (Nat.le_of_ble_eq_true rfl)
theorem pg_75_5 : mm_prog 75 5 = some (0, .iload_n 1, 6, []) := by decide +kernel
theorem xe_75_5 (a0 : Option MV) (x : Int) (st : List MV) (μ : MM) (G : MG) : ev 75 5 [a0, some (vI x)] st μ G = ev 75 6 [a0, some (vI x)] (vI x :: st) μ G := ev_stp pg_75_5 rfl
theorem pg_75_6 : mm_prog 75 6 = some (0, .ifCond .le 12, 9, []) := by decide +kernel
theorem xe_75_6 (a0 a1 : Option MV) (x : Int) (st : List MV) (μ : MM) (G : MG) : ev 75 6 [a0, a1] (vI x :: st) μ G = if x ≤ 0 then ev 75 18 [a0, a1] st μ G else ev 75 9 [a0, a1] st μ G := ev_br (mm_cnd_le x 0) pg_75_6 rfl
theorem pg_75_9 : mm_prog 75 9 = some (0, .aload_n 0, 10, []) := by decide +kernel
theorem xe_75_9 (a1 : Option MV) (x : Int) (st : List MV) (μ : MM) (G : MG) : ev 75 9 [some (vR x), a1] st μ G = ev 75 10 [some (vR x), a1] (vR x :: st) μ G := ev_stp pg_75_9 rfl
theorem pg_75_10 : mm_prog 75 10 = some (0, .getfield 15, 13, [7, 0, 0]) := by decide +kernel
theorem xe_75_10 (a0 a1 : Option MV) (x : Int) (st : List MV) (μ : MM) (G : MG) : ev 75 10 [a0, a1] (vR x :: st) μ G = if gk G x = 7 then ev 75 13 [a0, a1] (vI (μ x 0) :: st) μ G else none := ev_if pg_75_10 rfl
theorem pg_75_13 : mm_prog 75 13 = some (0, .iload_n 1, 14, []) := by decide +kernel
theorem xe_75_13 (a0 : Option MV) (x : Int) (st : List MV) (μ : MM) (G : MG) : ev 75 13 [a0, some (vI x)] st μ G = ev 75 14 [a0, some (vI x)] (vI x :: st) μ G := ev_stp pg_75_13 rfl
theorem pg_75_14 : mm_prog 75 14 = some (0, .idiv, 15, []) := by decide +kernel
theorem xe_75_14 (a0 a1 : Option MV) (x y : Int) (st : List MV) (μ : MM) (G : MG) : ev 75 14 [a0, a1] (vI y :: vI x :: st) μ G = if y = 0 then none else ev 75 15 [a0, a1] (vI (mm_div x y) :: st) μ G := ev_no pg_75_14 rfl
theorem pg_75_15 : mm_prog 75 15 = some (0, .goto 4, 18, []) := by decide +kernel
theorem xe_75_15 (a0 a1 : Option MV) (st : List MV) (μ : MM) (G : MG) : ev 75 15 [a0, a1] st μ G = ev 75 19 [a0, a1] st μ G := ev_stp pg_75_15 rfl
theorem pg_75_18 : mm_prog 75 18 = some (0, .iconst 0, 19, []) := by decide +kernel
theorem xe_75_18 (a0 a1 : Option MV) (st : List MV) (μ : MM) (G : MG) : ev 75 18 [a0, a1] st μ G = ev 75 19 [a0, a1] (vI (0) :: st) μ G := ev_stp pg_75_18 rfl
theorem pg_75_19 : mm_prog 75 19 = some (2, .ireturn, 20, [0]) := by decide +kernel
theorem xe_75_19 (a0 a1 : Option MV) (x : Int) (μ : MM) (G : MG) : ev 75 19 [a0, a1] [vI x] μ G = some (some (vI x), μ, G) := ev_ret pg_75_19 rfl
-- X8_init
theorem pg_76_0 : mm_prog 76 0 = some (0, .aload_n 0, 1, []) := by decide +kernel
theorem xe_76_0 (x : Int) (st : List MV) (μ : MM) (G : MG) : ev 76 0 [some (vR x)] st μ G = ev 76 1 [some (vR x)] (vR x :: st) μ G := ev_stp pg_76_0 rfl
theorem pg_76_1 : mm_prog 76 1 = some (0, .invokespecial 3, 4, []) := by decide +kernel
theorem xe_76_1 (a0 : Option MV) (x : Int) (st : List MV) (μ : MM) (G : MG) : ev 76 1 [a0] (vR x :: st) μ G = if 10 ≤ x ∧ mm_cats st ≤ 8 then ev 76 4 [a0] st μ G else none := ev_if pg_76_1 rfl
theorem pg_76_4 : mm_prog 76 4 = some (0, .aload_n 0, 5, []) := by decide +kernel
theorem xe_76_4 (x : Int) (st : List MV) (μ : MM) (G : MG) : ev 76 4 [some (vR x)] st μ G = ev 76 5 [some (vR x)] (vR x :: st) μ G := ev_stp pg_76_4 rfl
theorem pg_76_5 : mm_prog 76 5 = some (0, .iconst 4, 6, []) := by decide +kernel
theorem xe_76_5 (a0 : Option MV) (st : List MV) (μ : MM) (G : MG) : ev 76 5 [a0] st μ G = ev 76 6 [a0] (vI (4) :: st) μ G := ev_stp pg_76_5 rfl
theorem pg_76_6 : mm_prog 76 6 = some (0, .newarray .int, 8, [100]) := by decide +kernel
theorem xe_76_6 (a0 : Option MV) (x : Int) (st : List MV) (μ : MM) (G : MG) : ev 76 6 [a0] (vI x :: st) μ G = if 0 ≤ x ∧ x ≤ 100000 then ev 76 8 [a0] (vR G.2.1 :: st) (mzero μ G.2.1) (gnew G 100 x x) else none := ev_if pg_76_6 rfl
theorem pg_76_8 : mm_prog 76 8 = some (0, .putfield 9, 11, [8, 0, 2]) := by decide +kernel
theorem xe_76_8 (a0 : Option MV) (x y : Int) (st : List MV) (μ : MM) (G : MG) : ev 76 8 [a0] (vR x :: vR y :: st) μ G = if gk G y = 8 then ev 76 11 [a0] st (mset μ y 0 x) G else none := ev_put2 pg_76_8
theorem pg_76_11 : mm_prog 76 11 = some (0, .aload_n 0, 12, []) := by decide +kernel
theorem xe_76_11 (x : Int) (st : List MV) (μ : MM) (G : MG) : ev 76 11 [some (vR x)] st μ G = ev 76 12 [some (vR x)] (vR x :: st) μ G := ev_stp pg_76_11 rfl
theorem pg_76_12 : mm_prog 76 12 = some (0, .iconst 4, 13, []) := by decide +kernel
theorem xe_76_12 (a0 : Option MV) (st : List MV) (μ : MM) (G : MG) : ev 76 12 [a0] st μ G = ev 76 13 [a0] (vI (4) :: st) μ G := ev_stp pg_76_12 rfl
theorem pg_76_13 : mm_prog 76 13 = some (0, .newarray .int, 15, [100]) := by decide +kernel
theorem xe_76_13 (a0 : Option MV) (x : Int) (st : List MV) (μ : MM) (G : MG) : ev 76 13 [a0] (vI x :: st) μ G = if 0 ≤ x ∧ x ≤ 100000 then ev 76 15 [a0] (vR G.2.1 :: st) (mzero μ G.2.1) (gnew G 100 x x) else none := ev_if pg_76_13 rfl
theorem pg_76_15 : mm_prog 76 15 = some (0, .putfield 15, 18, [8, 1, 2]) := by decide +kernel
theorem xe_76_15 (a0 : Option MV) (x y : Int) (st : List MV) (μ : MM) (G : MG) : ev 76 15 [a0] (vR x :: vR y :: st) μ G = if gk G y = 8 then ev 76 18 [a0] st (mset μ y 1 x) G else none := ev_put2 pg_76_15
theorem pg_76_18 : mm_prog 76 18 = some (2, .return_, 19, []) := by decide +kernel
theorem xe_76_18 (a0 : Option MV) (μ : MM) (G : MG) : ev 76 18 [a0] [] μ G = some (none, μ, G) := ev_ret pg_76_18 rfl
-- X8_stop
theorem pg_77_0 : mm_prog 77 0 = some (0, .aload_n 0, 1, []) := by decide +kernel
theorem xe_77_0 (x : Int) (st : List MV) (μ : MM) (G : MG) : ev 77 0 [some (vR x)] st μ G = ev 77 1 [some (vR x)] (vR x :: st) μ G := ev_stp pg_77_0 rfl
theorem pg_77_1 : mm_prog 77 1 = some (0, .iconst 0, 2, []) := by decide +kernel
theorem xe_77_1 (a0 : Option MV) (st : List MV) (μ : MM) (G : MG) : ev 77 1 [a0] st μ G = ev 77 2 [a0] (vI (0) :: st) μ G := ev_stp pg_77_1 rfl
theorem pg_77_2 : mm_prog 77 2 = some (0, .putfield 18, 5, [8, 2, 0]) := by decide +kernel
theorem xe_77_2 (a0 : Option MV) (x y : Int) (st : List MV) (μ : MM) (G : MG) : ev 77 2 [a0] (vI x :: vR y :: st) μ G = if gk G y = 8 then ev 77 5 [a0] st (mset μ y 2 x) G else none := ev_put0 pg_77_2
theorem pg_77_5 : mm_prog 77 5 = some (0, .aload_n 0, 6, []) := by decide +kernel
theorem xe_77_5 (x : Int) (st : List MV) (μ : MM) (G : MG) : ev 77 5 [some (vR x)] st μ G = ev 77 6 [some (vR x)] (vR x :: st) μ G := ev_stp pg_77_5 rfl
theorem pg_77_6 : mm_prog 77 6 = some (0, .iconst 0, 7, []) := by decide +kernel
theorem xe_77_6 (a0 : Option MV) (st : List MV) (μ : MM) (G : MG) : ev 77 6 [a0] st μ G = ev 77 7 [a0] (vI (0) :: st) μ G := ev_stp pg_77_6 rfl
theorem pg_77_7 : mm_prog 77 7 = some (0, .putfield 22, 10, [8, 3, 0]) := by decide +kernel
theorem xe_77_7 (a0 : Option MV) (x y : Int) (st : List MV) (μ : MM) (G : MG) : ev 77 7 [a0] (vI x :: vR y :: st) μ G = if gk G y = 8 then ev 77 10 [a0] st (mset μ y 3 x) G else none := ev_put0 pg_77_7
theorem pg_77_10 : mm_prog 77 10 = some (0, .aload_n 0, 11, []) := by decide +kernel
theorem xe_77_10 (x : Int) (st : List MV) (μ : MM) (G : MG) : ev 77 10 [some (vR x)] st μ G = ev 77 11 [some (vR x)] (vR x :: st) μ G := ev_stp pg_77_10 rfl
theorem pg_77_11 : mm_prog 77 11 = some (0, .iconst 0, 12, []) := by decide +kernel
theorem xe_77_11 (a0 : Option MV) (st : List MV) (μ : MM) (G : MG) : ev 77 11 [a0] st μ G = ev 77 12 [a0] (vI (0) :: st) μ G := ev_stp pg_77_11 rfl
theorem pg_77_12 : mm_prog 77 12 = some (0, .putfield 25, 15, [8, 4, 0]) := by decide +kernel
theorem xe_77_12 (a0 : Option MV) (x y : Int) (st : List MV) (μ : MM) (G : MG) : ev 77 12 [a0] (vI x :: vR y :: st) μ G = if gk G y = 8 then ev 77 15 [a0] st (mset μ y 4 x) G else none := ev_put0 pg_77_12
theorem pg_77_15 : mm_prog 77 15 = some (0, .aload_n 0, 16, []) := by decide +kernel
theorem xe_77_15 (x : Int) (st : List MV) (μ : MM) (G : MG) : ev 77 15 [some (vR x)] st μ G = ev 77 16 [some (vR x)] (vR x :: st) μ G := ev_stp pg_77_15 rfl
theorem pg_77_16 : mm_prog 77 16 = some (0, .iconst 0, 17, []) := by decide +kernel
theorem xe_77_16 (a0 : Option MV) (st : List MV) (μ : MM) (G : MG) : ev 77 16 [a0] st μ G = ev 77 17 [a0] (vI (0) :: st) μ G := ev_stp pg_77_16 rfl
theorem pg_77_17 : mm_prog 77 17 = some (0, .putfield 28, 20, [8, 10, 0]) := by decide +kernel
theorem xe_77_17 (a0 : Option MV) (x y : Int) (st : List MV) (μ : MM) (G : MG) : ev 77 17 [a0] (vI x :: vR y :: st) μ G = if gk G y = 8 then ev 77 20 [a0] st (mset μ y 10 x) G else none := ev_put0 pg_77_17
theorem pg_77_20 : mm_prog 77 20 = some (0, .aload_n 0, 21, []) := by decide +kernel
theorem xe_77_20 (x : Int) (st : List MV) (μ : MM) (G : MG) : ev 77 20 [some (vR x)] st μ G = ev 77 21 [some (vR x)] (vR x :: st) μ G := ev_stp pg_77_20 rfl
theorem pg_77_21 : mm_prog 77 21 = some (0, .iconst 0, 22, []) := by decide +kernel
theorem xe_77_21 (a0 : Option MV) (st : List MV) (μ : MM) (G : MG) : ev 77 21 [a0] st μ G = ev 77 22 [a0] (vI (0) :: st) μ G := ev_stp pg_77_21 rfl
theorem pg_77_22 : mm_prog 77 22 = some (0, .putfield 31, 25, [8, 11, 0]) := by decide +kernel
theorem xe_77_22 (a0 : Option MV) (x y : Int) (st : List MV) (μ : MM) (G : MG) : ev 77 22 [a0] (vI x :: vR y :: st) μ G = if gk G y = 8 then ev 77 25 [a0] st (mset μ y 11 x) G else none := ev_put0 pg_77_22
theorem pg_77_25 : mm_prog 77 25 = some (0, .aload_n 0, 26, []) := by decide +kernel
theorem xe_77_25 (x : Int) (st : List MV) (μ : MM) (G : MG) : ev 77 25 [some (vR x)] st μ G = ev 77 26 [some (vR x)] (vR x :: st) μ G := ev_stp pg_77_25 rfl
theorem pg_77_26 : mm_prog 77 26 = some (1, .invokevirtual 34, 29, [1, 95, 0, 8]) := by decide +kernel
theorem xe_77_26 (a0 : Option MV) (z : Int) (μ : MM) (G : MG) : ev 77 26 [a0] (vR z :: []) μ G = if gk G z = 8 ∧ 0 < z then (ev 95 0 [some (vR z)] [] μ G).bind (fun q => ev 77 29 [a0] (q.1.toList ++ []) q.2.1 q.2.2) else none := ev_calV (as := [vR z]) (r := []) mx_95 pg_77_26 rfl rfl (Nat.le_of_ble_eq_true rfl) (Nat.le_of_ble_eq_true rfl)
theorem pg_77_29 : mm_prog 77 29 = some (2, .return_, 30, []) := by decide +kernel
theorem xe_77_29 (a0 : Option MV) (μ : MM) (G : MG) : ev 77 29 [a0] [] μ G = some (none, μ, G) := ev_ret pg_77_29 rfl
-- X8_start
theorem pg_78_0 : mm_prog 78 0 = some (0, .aload_n 0, 1, []) := by decide +kernel
theorem xe_78_0 (a1 : Option MV) (x : Int) (st : List MV) (μ : MM) (G : MG) : ev 78 0 [some (vR x), a1] st μ G = ev 78 1 [some (vR x), a1] (vR x :: st) μ G := ev_stp pg_78_0 rfl
theorem pg_78_1 : mm_prog 78 1 = some (1, .invokevirtual 37, 4, [1, 77, 0, 8]) := by decide +kernel
theorem xe_78_1 (a0 a1 : Option MV) (z : Int) (μ : MM) (G : MG) : ev 78 1 [a0, a1] (vR z :: []) μ G = if gk G z = 8 ∧ 0 < z then (ev 77 0 [some (vR z)] [] μ G).bind (fun q => ev 78 4 [a0, a1] (q.1.toList ++ []) q.2.1 q.2.2) else none := ev_calV (as := [vR z]) (r := []) mx_77 pg_78_1 rfl rfl (Nat.le_of_ble_eq_true rfl) (Nat.le_of_ble_eq_true rfl)
theorem pg_78_4 : mm_prog 78 4 = some (0, .aload_n 0, 5, []) := by decide +kernel
theorem xe_78_4 (a1 : Option MV) (x : Int) (st : List MV) (μ : MM) (G : MG) : ev 78 4 [some (vR x), a1] st μ G = ev 78 5 [some (vR x), a1] (vR x :: st) μ G := ev_stp pg_78_4 rfl
theorem pg_78_5 : mm_prog 78 5 = some (0, .iconst 1, 6, []) := by decide +kernel
theorem xe_78_5 (a0 a1 : Option MV) (st : List MV) (μ : MM) (G : MG) : ev 78 5 [a0, a1] st μ G = ev 78 6 [a0, a1] (vI (1) :: st) μ G := ev_stp pg_78_5 rfl
theorem pg_78_6 : mm_prog 78 6 = some (0, .putfield 18, 9, [8, 2, 0]) := by decide +kernel
theorem xe_78_6 (a0 a1 : Option MV) (x y : Int) (st : List MV) (μ : MM) (G : MG) : ev 78 6 [a0, a1] (vI x :: vR y :: st) μ G = if gk G y = 8 then ev 78 9 [a0, a1] st (mset μ y 2 x) G else none := ev_put0 pg_78_6
theorem pg_78_9 : mm_prog 78 9 = some (0, .aload_n 0, 10, []) := by decide +kernel
theorem xe_78_9 (a1 : Option MV) (x : Int) (st : List MV) (μ : MM) (G : MG) : ev 78 9 [some (vR x), a1] st μ G = ev 78 10 [some (vR x), a1] (vR x :: st) μ G := ev_stp pg_78_9 rfl
theorem pg_78_10 : mm_prog 78 10 = some (0, .aload_n 1, 11, []) := by decide +kernel
theorem xe_78_10 (a0 : Option MV) (x : Int) (st : List MV) (μ : MM) (G : MG) : ev 78 10 [a0, some (vR x)] st μ G = ev 78 11 [a0, some (vR x)] (vR x :: st) μ G := ev_stp pg_78_10 rfl
theorem pg_78_11 : mm_prog 78 11 = some (0, .getfield 40, 14, [9, 2, 0]) := by decide +kernel
theorem xe_78_11 (a0 a1 : Option MV) (x : Int) (st : List MV) (μ : MM) (G : MG) : ev 78 11 [a0, a1] (vR x :: st) μ G = if gk G x = 9 then ev 78 14 [a0, a1] (vI (μ x 2) :: st) μ G else none := ev_if pg_78_11 rfl
theorem pg_78_14 : mm_prog 78 14 = some (0, .putfield 22, 17, [8, 3, 0]) := by decide +kernel
theorem xe_78_14 (a0 a1 : Option MV) (x y : Int) (st : List MV) (μ : MM) (G : MG) : ev 78 14 [a0, a1] (vI x :: vR y :: st) μ G = if gk G y = 8 then ev 78 17 [a0, a1] st (mset μ y 3 x) G else none := ev_put0 pg_78_14
theorem pg_78_17 : mm_prog 78 17 = some (0, .aload_n 0, 18, []) := by decide +kernel
theorem xe_78_17 (a1 : Option MV) (x : Int) (st : List MV) (μ : MM) (G : MG) : ev 78 17 [some (vR x), a1] st μ G = ev 78 18 [some (vR x), a1] (vR x :: st) μ G := ev_stp pg_78_17 rfl
theorem pg_78_18 : mm_prog 78 18 = some (0, .aload_n 1, 19, []) := by decide +kernel
theorem xe_78_18 (a0 : Option MV) (x : Int) (st : List MV) (μ : MM) (G : MG) : ev 78 18 [a0, some (vR x)] st μ G = ev 78 19 [a0, some (vR x)] (vR x :: st) μ G := ev_stp pg_78_18 rfl
theorem pg_78_19 : mm_prog 78 19 = some (0, .getfield 43, 22, [9, 3, 0]) := by decide +kernel
theorem xe_78_19 (a0 a1 : Option MV) (x : Int) (st : List MV) (μ : MM) (G : MG) : ev 78 19 [a0, a1] (vR x :: st) μ G = if gk G x = 9 then ev 78 22 [a0, a1] (vI (μ x 3) :: st) μ G else none := ev_if pg_78_19 rfl
theorem pg_78_22 : mm_prog 78 22 = some (0, .putfield 25, 25, [8, 4, 0]) := by decide +kernel
theorem xe_78_22 (a0 a1 : Option MV) (x y : Int) (st : List MV) (μ : MM) (G : MG) : ev 78 22 [a0, a1] (vI x :: vR y :: st) μ G = if gk G y = 8 then ev 78 25 [a0, a1] st (mset μ y 4 x) G else none := ev_put0 pg_78_22
theorem pg_78_25 : mm_prog 78 25 = some (2, .return_, 26, []) := by decide +kernel
theorem xe_78_25 (a0 a1 : Option MV) (μ : MM) (G : MG) : ev 78 25 [a0, a1] [] μ G = some (none, μ, G) := ev_ret pg_78_25 rfl
-- X8_isRunning
theorem pg_79_0 : mm_prog 79 0 = some (0, .aload_n 0, 1, []) := by decide +kernel
theorem xe_79_0 (x : Int) (st : List MV) (μ : MM) (G : MG) : ev 79 0 [some (vR x)] st μ G = ev 79 1 [some (vR x)] (vR x :: st) μ G := ev_stp pg_79_0 rfl
theorem pg_79_1 : mm_prog 79 1 = some (0, .getfield 18, 4, [8, 2, 0]) := by decide +kernel
theorem xe_79_1 (a0 : Option MV) (x : Int) (st : List MV) (μ : MM) (G : MG) : ev 79 1 [a0] (vR x :: st) μ G = if gk G x = 8 then ev 79 4 [a0] (vI (μ x 2) :: st) μ G else none := ev_if pg_79_1 rfl
theorem pg_79_4 : mm_prog 79 4 = some (0, .iconst 1, 5, []) := by decide +kernel
theorem xe_79_4 (a0 : Option MV) (st : List MV) (μ : MM) (G : MG) : ev 79 4 [a0] st μ G = ev 79 5 [a0] (vI (1) :: st) μ G := ev_stp pg_79_4 rfl
theorem pg_79_5 : mm_prog 79 5 = some (0, .if_icmp .eq 11, 8, []) := by decide +kernel
theorem xe_79_5 (a0 : Option MV) (x y : Int) (st : List MV) (μ : MM) (G : MG) : ev 79 5 [a0] (vI y :: vI x :: st) μ G = if x = y then ev 79 16 [a0] st μ G else ev 79 8 [a0] st μ G := ev_br (mm_cnd_eq x y) pg_79_5 rfl
theorem pg_79_8 : mm_prog 79 8 = some (0, .aload_n 0, 9, []) := by decide +kernel
theorem xe_79_8 (x : Int) (st : List MV) (μ : MM) (G : MG) : ev 79 8 [some (vR x)] st μ G = ev 79 9 [some (vR x)] (vR x :: st) μ G := ev_stp pg_79_8 rfl
theorem pg_79_9 : mm_prog 79 9 = some (0, .getfield 18, 12, [8, 2, 0]) := by decide +kernel
theorem xe_79_9 (a0 : Option MV) (x : Int) (st : List MV) (μ : MM) (G : MG) : ev 79 9 [a0] (vR x :: st) μ G = if gk G x = 8 then ev 79 12 [a0] (vI (μ x 2) :: st) μ G else none := ev_if pg_79_9 rfl
theorem pg_79_12 : mm_prog 79 12 = some (0, .iconst 2, 13, []) := by decide +kernel
theorem xe_79_12 (a0 : Option MV) (st : List MV) (μ : MM) (G : MG) : ev 79 12 [a0] st μ G = ev 79 13 [a0] (vI (2) :: st) μ G := ev_stp pg_79_12 rfl
theorem pg_79_13 : mm_prog 79 13 = some (0, .if_icmp .ne 7, 16, []) := by decide +kernel
theorem xe_79_13 (a0 : Option MV) (x y : Int) (st : List MV) (μ : MM) (G : MG) : ev 79 13 [a0] (vI y :: vI x :: st) μ G = if ¬ x = y then ev 79 20 [a0] st μ G else ev 79 16 [a0] st μ G := ev_br (mm_cnd_ne x y) pg_79_13 rfl
theorem pg_79_16 : mm_prog 79 16 = some (0, .iconst 1, 17, []) := by decide +kernel
theorem xe_79_16 (a0 : Option MV) (st : List MV) (μ : MM) (G : MG) : ev 79 16 [a0] st μ G = ev 79 17 [a0] (vI (1) :: st) μ G := ev_stp pg_79_16 rfl
theorem pg_79_17 : mm_prog 79 17 = some (0, .goto 4, 20, []) := by decide +kernel
theorem xe_79_17 (a0 : Option MV) (st : List MV) (μ : MM) (G : MG) : ev 79 17 [a0] st μ G = ev 79 21 [a0] st μ G := ev_stp pg_79_17 rfl
theorem pg_79_20 : mm_prog 79 20 = some (0, .iconst 0, 21, []) := by decide +kernel
theorem xe_79_20 (a0 : Option MV) (st : List MV) (μ : MM) (G : MG) : ev 79 20 [a0] st μ G = ev 79 21 [a0] (vI (0) :: st) μ G := ev_stp pg_79_20 rfl
theorem pg_79_21 : mm_prog 79 21 = some (2, .ireturn, 22, [1]) := by decide +kernel
theorem xe_79_21 (a0 : Option MV) (x : Int) (μ : MM) (G : MG) : ev 79 21 [a0] [vI x] μ G = if x = 0 ∨ x = 1 then some (some (vI x), μ, G) else none := ev_retB pg_79_21
-- X8_triesOfPhase
theorem pg_80_0 : mm_prog 80 0 = some (0, .aload_n 0, 1, []) := by decide +kernel
theorem xe_80_0 (x : Int) (st : List MV) (μ : MM) (G : MG) : ev 80 0 [some (vR x)] st μ G = ev 80 1 [some (vR x)] (vR x :: st) μ G := ev_stp pg_80_0 rfl
theorem pg_80_1 : mm_prog 80 1 = some (0, .getfield 18, 4, [8, 2, 0]) := by decide +kernel
theorem xe_80_1 (a0 : Option MV) (x : Int) (st : List MV) (μ : MM) (G : MG) : ev 80 1 [a0] (vR x :: st) μ G = if gk G x = 8 then ev 80 4 [a0] (vI (μ x 2) :: st) μ G else none := ev_if pg_80_1 rfl
theorem pg_80_4 : mm_prog 80 4 = some (0, .iconst 1, 5, []) := by decide +kernel
theorem xe_80_4 (a0 : Option MV) (st : List MV) (μ : MM) (G : MG) : ev 80 4 [a0] st μ G = ev 80 5 [a0] (vI (1) :: st) μ G := ev_stp pg_80_4 rfl
theorem pg_80_5 : mm_prog 80 5 = some (0, .if_icmp .ne 8, 8, []) := by decide +kernel
theorem xe_80_5 (a0 : Option MV) (x y : Int) (st : List MV) (μ : MM) (G : MG) : ev 80 5 [a0] (vI y :: vI x :: st) μ G = if ¬ x = y then ev 80 13 [a0] st μ G else ev 80 8 [a0] st μ G := ev_br (mm_cnd_ne x y) pg_80_5 rfl
theorem pg_80_8 : mm_prog 80 8 = some (0, .aload_n 0, 9, []) := by decide +kernel
theorem xe_80_8 (x : Int) (st : List MV) (μ : MM) (G : MG) : ev 80 8 [some (vR x)] st μ G = ev 80 9 [some (vR x)] (vR x :: st) μ G := ev_stp pg_80_8 rfl
theorem pg_80_9 : mm_prog 80 9 = some (0, .getfield 44, 12, [8, 7, 0]) := by decide +kernel
theorem xe_80_9 (a0 : Option MV) (x : Int) (st : List MV) (μ : MM) (G : MG) : ev 80 9 [a0] (vR x :: st) μ G = if gk G x = 8 then ev 80 12 [a0] (vI (μ x 7) :: st) μ G else none := ev_if pg_80_9 rfl
theorem pg_80_12 : mm_prog 80 12 = some (2, .ireturn, 13, [0]) := by decide +kernel
theorem xe_80_12 (a0 : Option MV) (x : Int) (μ : MM) (G : MG) : ev 80 12 [a0] [vI x] μ G = some (some (vI x), μ, G) := ev_ret pg_80_12 rfl
theorem pg_80_13 : mm_prog 80 13 = some (0, .aload_n 0, 14, []) := by decide +kernel
theorem xe_80_13 (x : Int) (st : List MV) (μ : MM) (G : MG) : ev 80 13 [some (vR x)] st μ G = ev 80 14 [some (vR x)] (vR x :: st) μ G := ev_stp pg_80_13 rfl
theorem pg_80_14 : mm_prog 80 14 = some (0, .getfield 18, 17, [8, 2, 0]) := by decide +kernel
theorem xe_80_14 (a0 : Option MV) (x : Int) (st : List MV) (μ : MM) (G : MG) : ev 80 14 [a0] (vR x :: st) μ G = if gk G x = 8 then ev 80 17 [a0] (vI (μ x 2) :: st) μ G else none := ev_if pg_80_14 rfl
theorem pg_80_17 : mm_prog 80 17 = some (0, .iconst 2, 18, []) := by decide +kernel
theorem xe_80_17 (a0 : Option MV) (st : List MV) (μ : MM) (G : MG) : ev 80 17 [a0] st μ G = ev 80 18 [a0] (vI (2) :: st) μ G := ev_stp pg_80_17 rfl
theorem pg_80_18 : mm_prog 80 18 = some (0, .if_icmp .ne 10, 21, []) := by decide +kernel
theorem xe_80_18 (a0 : Option MV) (x y : Int) (st : List MV) (μ : MM) (G : MG) : ev 80 18 [a0] (vI y :: vI x :: st) μ G = if ¬ x = y then ev 80 28 [a0] st μ G else ev 80 21 [a0] st μ G := ev_br (mm_cnd_ne x y) pg_80_18 rfl
theorem pg_80_21 : mm_prog 80 21 = some (0, .aload_n 0, 22, []) := by decide +kernel
theorem xe_80_21 (x : Int) (st : List MV) (μ : MM) (G : MG) : ev 80 21 [some (vR x)] st μ G = ev 80 22 [some (vR x)] (vR x :: st) μ G := ev_stp pg_80_21 rfl
theorem pg_80_22 : mm_prog 80 22 = some (0, .getfield 47, 25, [8, 8, 0]) := by decide +kernel
theorem xe_80_22 (a0 : Option MV) (x : Int) (st : List MV) (μ : MM) (G : MG) : ev 80 22 [a0] (vR x :: st) μ G = if gk G x = 8 then ev 80 25 [a0] (vI (μ x 8) :: st) μ G else none := ev_if pg_80_22 rfl
theorem pg_80_25 : mm_prog 80 25 = some (0, .goto 4, 28, []) := by decide +kernel
theorem xe_80_25 (a0 : Option MV) (st : List MV) (μ : MM) (G : MG) : ev 80 25 [a0] st μ G = ev 80 29 [a0] st μ G := ev_stp pg_80_25 rfl
theorem pg_80_28 : mm_prog 80 28 = some (0, .iconst 0, 29, []) := by decide +kernel
theorem xe_80_28 (a0 : Option MV) (st : List MV) (μ : MM) (G : MG) : ev 80 28 [a0] st μ G = ev 80 29 [a0] (vI (0) :: st) μ G := ev_stp pg_80_28 rfl
theorem pg_80_29 : mm_prog 80 29 = some (2, .ireturn, 30, [0]) := by decide +kernel
theorem xe_80_29 (a0 : Option MV) (x : Int) (μ : MM) (G : MG) : ev 80 29 [a0] [vI x] μ G = some (some (vI x), μ, G) := ev_ret pg_80_29 rfl
-- X8_finish
theorem pg_81_0 : mm_prog 81 0 = some (0, .aload_n 0, 1, []) := by decide +kernel
theorem xe_81_0 (a1 a2 : Option MV) (x : Int) (st : List MV) (μ : MM) (G : MG) : ev 81 0 [some (vR x), a1, a2] st μ G = ev 81 1 [some (vR x), a1, a2] (vR x :: st) μ G := ev_stp pg_81_0 rfl
theorem pg_81_1 : mm_prog 81 1 = some (0, .aload_n 1, 2, []) := by decide +kernel
theorem xe_81_1 (a0 a2 : Option MV) (x : Int) (st : List MV) (μ : MM) (G : MG) : ev 81 1 [a0, some (vR x), a2] st μ G = ev 81 2 [a0, some (vR x), a2] (vR x :: st) μ G := ev_stp pg_81_1 rfl
theorem pg_81_2 : mm_prog 81 2 = some (1, .invokevirtual 50, 5, [1, 78, 1, 8]) := by decide +kernel
theorem xe_81_2 (a0 a1 a2 : Option MV) (x0 z : Int) (μ : MM) (G : MG) : ev 81 2 [a0, a1, a2] (vR x0 :: vR z :: []) μ G = if gk G z = 8 ∧ 0 < z then (ev 78 0 [some (vR z), some (vR x0)] [] μ G).bind (fun q => ev 81 5 [a0, a1, a2] (q.1.toList ++ []) q.2.1 q.2.2) else none := ev_calV (as := [vR z, vR x0]) (r := []) mx_78 pg_81_2 rfl rfl (Nat.le_of_ble_eq_true rfl) (Nat.le_of_ble_eq_true rfl)
theorem pg_81_5 : mm_prog 81 5 = some (0, .iconst 0, 6, []) := by decide +kernel
theorem xe_81_5 (a0 a1 a2 : Option MV) (st : List MV) (μ : MM) (G : MG) : ev 81 5 [a0, a1, a2] st μ G = ev 81 6 [a0, a1, a2] (vI (0) :: st) μ G := ev_stp pg_81_5 rfl
theorem pg_81_6 : mm_prog 81 6 = some (0, .istore_n 2, 7, []) := by decide +kernel
theorem xe_81_6 (a0 a1 a2 : Option MV) (x : Int) (st : List MV) (μ : MM) (G : MG) (h : mm_nL a1 = true) : ev 81 6 [a0, a1, a2] (vI x :: st) μ G = ev 81 7 [a0, a1, some (vI x)] st μ G := ev_st pg_81_6 rfl (mm_nl_of h) (Nat.le_of_ble_eq_true rfl)
theorem pg_81_7 : mm_prog 81 7 = some (0, .iload_n 2, 8, []) := by decide +kernel
theorem xe_81_7 (a0 a1 : Option MV) (x : Int) (st : List MV) (μ : MM) (G : MG) : ev 81 7 [a0, a1, some (vI x)] st μ G = ev 81 8 [a0, a1, some (vI x)] (vI x :: st) μ G := ev_stp pg_81_7 rfl
theorem pg_81_8 : mm_prog 81 8 = some (0, .sipush 192, 11, []) := by decide +kernel
theorem xe_81_8 (a0 a1 a2 : Option MV) (st : List MV) (μ : MM) (G : MG) : ev 81 8 [a0, a1, a2] st μ G = ev 81 11 [a0, a1, a2] (vI (192) :: st) μ G := ev_stp pg_81_8 rfl
theorem pg_81_11 : mm_prog 81 11 = some (0, .if_icmp .ge 22, 14, []) := by decide +kernel
theorem xe_81_11 (a0 a1 a2 : Option MV) (x y : Int) (st : List MV) (μ : MM) (G : MG) : ev 81 11 [a0, a1, a2] (vI y :: vI x :: st) μ G = if y ≤ x then ev 81 33 [a0, a1, a2] st μ G else ev 81 14 [a0, a1, a2] st μ G := ev_br (mm_cnd_ge x y) pg_81_11 rfl
theorem pg_81_14 : mm_prog 81 14 = some (0, .aload_n 0, 15, []) := by decide +kernel
theorem xe_81_14 (a1 a2 : Option MV) (x : Int) (st : List MV) (μ : MM) (G : MG) : ev 81 14 [some (vR x), a1, a2] st μ G = ev 81 15 [some (vR x), a1, a2] (vR x :: st) μ G := ev_stp pg_81_14 rfl
theorem pg_81_15 : mm_prog 81 15 = some (1, .invokevirtual 54, 18, [1, 79, 0, 8]) := by decide +kernel
theorem xe_81_15 (a0 a1 a2 : Option MV) (z : Int) (μ : MM) (G : MG) : ev 81 15 [a0, a1, a2] (vR z :: []) μ G = if gk G z = 8 ∧ 0 < z then (ev 79 0 [some (vR z)] [] μ G).bind (fun q => ev 81 18 [a0, a1, a2] (q.1.toList ++ []) q.2.1 q.2.2) else none := ev_calV (as := [vR z]) (r := []) mx_79 pg_81_15 rfl rfl (Nat.le_of_ble_eq_true rfl) (Nat.le_of_ble_eq_true rfl)
theorem pg_81_18 : mm_prog 81 18 = some (0, .ifCond .eq 15, 21, []) := by decide +kernel
theorem xe_81_18 (a0 a1 a2 : Option MV) (x : Int) (st : List MV) (μ : MM) (G : MG) : ev 81 18 [a0, a1, a2] (vI x :: st) μ G = if x = 0 then ev 81 33 [a0, a1, a2] st μ G else ev 81 21 [a0, a1, a2] st μ G := ev_br (mm_cnd_eq x 0) pg_81_18 rfl
theorem pg_81_21 : mm_prog 81 21 = some (0, .aload_n 0, 22, []) := by decide +kernel
theorem xe_81_21 (a1 a2 : Option MV) (x : Int) (st : List MV) (μ : MM) (G : MG) : ev 81 21 [some (vR x), a1, a2] st μ G = ev 81 22 [some (vR x), a1, a2] (vR x :: st) μ G := ev_stp pg_81_21 rfl
theorem pg_81_22 : mm_prog 81 22 = some (0, .aload_n 1, 23, []) := by decide +kernel
theorem xe_81_22 (a0 a2 : Option MV) (x : Int) (st : List MV) (μ : MM) (G : MG) : ev 81 22 [a0, some (vR x), a2] st μ G = ev 81 23 [a0, some (vR x), a2] (vR x :: st) μ G := ev_stp pg_81_22 rfl
theorem pg_81_23 : mm_prog 81 23 = some (1, .invokevirtual 58, 26, [1, 82, 1, 8]) := by decide +kernel
theorem xe_81_23 (a0 a1 a2 : Option MV) (x0 z : Int) (μ : MM) (G : MG) : ev 81 23 [a0, a1, a2] (vR x0 :: vR z :: []) μ G = if gk G z = 8 ∧ 0 < z then (ev 82 0 [some (vR z), some (vR x0), none] [] μ G).bind (fun q => ev 81 26 [a0, a1, a2] (q.1.toList ++ []) q.2.1 q.2.2) else none := ev_calV (as := [vR z, vR x0]) (r := []) mx_82 pg_81_23 rfl rfl (Nat.le_of_ble_eq_true rfl) (Nat.le_of_ble_eq_true rfl)
theorem pg_81_26 : mm_prog 81 26 = some (0, .pop, 27, []) := by decide +kernel
theorem xe_81_26 (a0 a1 a2 : Option MV) (x : Int) (st : List MV) (μ : MM) (G : MG) : ev 81 26 [a0, a1, a2] (vI x :: st) μ G = ev 81 27 [a0, a1, a2] st μ G := ev_stp pg_81_26 rfl
theorem pg_81_27 : mm_prog 81 27 = some (0, .iinc 2 1, 30, []) := by decide +kernel
theorem xe_81_27 (a0 a1 : Option MV) (x : Int) (st : List MV) (μ : MM) (G : MG) (h : mm_nL a1 = true) : ev 81 27 [a0, a1, some (vI x)] st μ G = ev 81 30 [a0, a1, some (vI (w32 (x + (1))))] st μ G := ev_st pg_81_27 rfl (mm_nl_of h) (Nat.le_of_ble_eq_true rfl)
theorem pg_81_30 : mm_prog 81 30 = some (0, .goto (-23), 33, []) := by decide +kernel
theorem xe_81_30 (a0 a1 a2 : Option MV) (st : List MV) (μ : MM) (G : MG) : ev 81 30 [a0, a1, a2] st μ G = ev 81 7 [a0, a1, a2] st μ G := ev_stp pg_81_30 rfl
theorem pg_81_33 : mm_prog 81 33 = some (0, .aload_n 0, 34, []) := by decide +kernel
theorem xe_81_33 (a1 a2 : Option MV) (x : Int) (st : List MV) (μ : MM) (G : MG) : ev 81 33 [some (vR x), a1, a2] st μ G = ev 81 34 [some (vR x), a1, a2] (vR x :: st) μ G := ev_stp pg_81_33 rfl
theorem pg_81_34 : mm_prog 81 34 = some (0, .getfield 18, 37, [8, 2, 0]) := by decide +kernel
theorem xe_81_34 (a0 a1 a2 : Option MV) (x : Int) (st : List MV) (μ : MM) (G : MG) : ev 81 34 [a0, a1, a2] (vR x :: st) μ G = if gk G x = 8 then ev 81 37 [a0, a1, a2] (vI (μ x 2) :: st) μ G else none := ev_if pg_81_34 rfl
theorem pg_81_37 : mm_prog 81 37 = some (0, .iconst 3, 38, []) := by decide +kernel
theorem xe_81_37 (a0 a1 a2 : Option MV) (st : List MV) (μ : MM) (G : MG) : ev 81 37 [a0, a1, a2] st μ G = ev 81 38 [a0, a1, a2] (vI (3) :: st) μ G := ev_stp pg_81_37 rfl
theorem pg_81_38 : mm_prog 81 38 = some (0, .if_icmp .ne 17, 41, []) := by decide +kernel
theorem xe_81_38 (a0 a1 a2 : Option MV) (x y : Int) (st : List MV) (μ : MM) (G : MG) : ev 81 38 [a0, a1, a2] (vI y :: vI x :: st) μ G = if ¬ x = y then ev 81 55 [a0, a1, a2] st μ G else ev 81 41 [a0, a1, a2] st μ G := ev_br (mm_cnd_ne x y) pg_81_38 rfl
theorem pg_81_41 : mm_prog 81 41 = some (0, .aload_n 0, 42, []) := by decide +kernel
theorem xe_81_41 (a1 a2 : Option MV) (x : Int) (st : List MV) (μ : MM) (G : MG) : ev 81 41 [some (vR x), a1, a2] st μ G = ev 81 42 [some (vR x), a1, a2] (vR x :: st) μ G := ev_stp pg_81_41 rfl
theorem pg_81_42 : mm_prog 81 42 = some (0, .getfield 22, 45, [8, 3, 0]) := by decide +kernel
theorem xe_81_42 (a0 a1 a2 : Option MV) (x : Int) (st : List MV) (μ : MM) (G : MG) : ev 81 42 [a0, a1, a2] (vR x :: st) μ G = if gk G x = 8 then ev 81 45 [a0, a1, a2] (vI (μ x 3) :: st) μ G else none := ev_if pg_81_42 rfl
theorem pg_81_45 : mm_prog 81 45 = some (0, .aload_n 0, 46, []) := by decide +kernel
theorem xe_81_45 (a1 a2 : Option MV) (x : Int) (st : List MV) (μ : MM) (G : MG) : ev 81 45 [some (vR x), a1, a2] st μ G = ev 81 46 [some (vR x), a1, a2] (vR x :: st) μ G := ev_stp pg_81_45 rfl
theorem pg_81_46 : mm_prog 81 46 = some (0, .getfield 25, 49, [8, 4, 0]) := by decide +kernel
theorem xe_81_46 (a0 a1 a2 : Option MV) (x : Int) (st : List MV) (μ : MM) (G : MG) : ev 81 46 [a0, a1, a2] (vR x :: st) μ G = if gk G x = 8 then ev 81 49 [a0, a1, a2] (vI (μ x 4) :: st) μ G else none := ev_if pg_81_46 rfl
theorem pg_81_49 : mm_prog 81 49 = some (1, .invokestatic 62, 52, [0, 124, 2, 0]) := by decide +kernel
theorem xe_81_49 (a0 a1 a2 : Option MV) (x0 x1 : Int) (μ : MM) (G : MG) : ev 81 49 [a0, a1, a2] (vI x1 :: vI x0 :: []) μ G = (ev 124 0 [some (vI x0), some (vI x1)] [] μ G).bind (fun q => ev 81 52 [a0, a1, a2] (q.1.toList ++ []) q.2.1 q.2.2) := ev_calS (as := [vI x0, vI x1]) (r := []) mx_124 pg_81_49 rfl rfl (Nat.le_of_ble_eq_true rfl) (Nat.le_of_ble_eq_true rfl)
theorem pg_81_52 : mm_prog 81 52 = some (0, .goto 4, 55, []) := by decide +kernel
theorem xe_81_52 (a0 a1 a2 : Option MV) (st : List MV) (μ : MM) (G : MG) : ev 81 52 [a0, a1, a2] st μ G = ev 81 56 [a0, a1, a2] st μ G := ev_stp pg_81_52 rfl
theorem pg_81_55 : mm_prog 81 55 = some (0, .iconst 0, 56, []) := by decide +kernel
theorem xe_81_55 (a0 a1 a2 : Option MV) (st : List MV) (μ : MM) (G : MG) : ev 81 55 [a0, a1, a2] st μ G = ev 81 56 [a0, a1, a2] (vI (0) :: st) μ G := ev_stp pg_81_55 rfl
theorem pg_81_56 : mm_prog 81 56 = some (2, .ireturn, 57, [0]) := by decide +kernel
theorem xe_81_56 (a0 a1 a2 : Option MV) (x : Int) (μ : MM) (G : MG) : ev 81 56 [a0, a1, a2] [vI x] μ G = some (some (vI x), μ, G) := ev_ret pg_81_56 rfl
-- X8_attempt
theorem pg_82_0 : mm_prog 82 0 = some (0, .aload_n 0, 1, []) := by decide +kernel
theorem xe_82_0 (a1 a2 : Option MV) (x : Int) (st : List MV) (μ : MM) (G : MG) : ev 82 0 [some (vR x), a1, a2] st μ G = ev 82 1 [some (vR x), a1, a2] (vR x :: st) μ G := ev_stp pg_82_0 rfl
theorem pg_82_1 : mm_prog 82 1 = some (0, .dup, 2, []) := by decide +kernel
theorem xe_82_1 (a0 a1 a2 : Option MV) (x : Int) (st : List MV) (μ : MM) (G : MG) : ev 82 1 [a0, a1, a2] (vR x :: st) μ G = ev 82 2 [a0, a1, a2] (vR x :: vR x :: st) μ G := ev_stp pg_82_1 rfl
theorem pg_82_2 : mm_prog 82 2 = some (0, .getfield 28, 5, [8, 10, 0]) := by decide +kernel
theorem xe_82_2 (a0 a1 a2 : Option MV) (x : Int) (st : List MV) (μ : MM) (G : MG) : ev 82 2 [a0, a1, a2] (vR x :: st) μ G = if gk G x = 8 then ev 82 5 [a0, a1, a2] (vI (μ x 10) :: st) μ G else none := ev_if pg_82_2 rfl
theorem pg_82_5 : mm_prog 82 5 = some (0, .iconst 1, 6, []) := by decide +kernel
theorem xe_82_5 (a0 a1 a2 : Option MV) (st : List MV) (μ : MM) (G : MG) : ev 82 5 [a0, a1, a2] st μ G = ev 82 6 [a0, a1, a2] (vI (1) :: st) μ G := ev_stp pg_82_5 rfl
theorem pg_82_6 : mm_prog 82 6 = some (0, .iadd, 7, []) := by decide +kernel
theorem xe_82_6 (a0 a1 a2 : Option MV) (x y : Int) (st : List MV) (μ : MM) (G : MG) : ev 82 6 [a0, a1, a2] (vI y :: vI x :: st) μ G = ev 82 7 [a0, a1, a2] (vI (w32 (x + y)) :: st) μ G := ev_stp pg_82_6 rfl
theorem pg_82_7 : mm_prog 82 7 = some (0, .putfield 28, 10, [8, 10, 0]) := by decide +kernel
theorem xe_82_7 (a0 a1 a2 : Option MV) (x y : Int) (st : List MV) (μ : MM) (G : MG) : ev 82 7 [a0, a1, a2] (vI x :: vR y :: st) μ G = if gk G y = 8 then ev 82 10 [a0, a1, a2] st (mset μ y 10 x) G else none := ev_put0 pg_82_7
theorem pg_82_10 : mm_prog 82 10 = some (0, .aload_n 0, 11, []) := by decide +kernel
theorem xe_82_10 (a1 a2 : Option MV) (x : Int) (st : List MV) (μ : MM) (G : MG) : ev 82 10 [some (vR x), a1, a2] st μ G = ev 82 11 [some (vR x), a1, a2] (vR x :: st) μ G := ev_stp pg_82_10 rfl
theorem pg_82_11 : mm_prog 82 11 = some (0, .getfield 18, 14, [8, 2, 0]) := by decide +kernel
theorem xe_82_11 (a0 a1 a2 : Option MV) (x : Int) (st : List MV) (μ : MM) (G : MG) : ev 82 11 [a0, a1, a2] (vR x :: st) μ G = if gk G x = 8 then ev 82 14 [a0, a1, a2] (vI (μ x 2) :: st) μ G else none := ev_if pg_82_11 rfl
theorem pg_82_14 : mm_prog 82 14 = some (0, .iconst 1, 15, []) := by decide +kernel
theorem xe_82_14 (a0 a1 a2 : Option MV) (st : List MV) (μ : MM) (G : MG) : ev 82 14 [a0, a1, a2] st μ G = ev 82 15 [a0, a1, a2] (vI (1) :: st) μ G := ev_stp pg_82_14 rfl
theorem pg_82_15 : mm_prog 82 15 = some (0, .if_icmp .ne 11, 18, []) := by decide +kernel
theorem xe_82_15 (a0 a1 a2 : Option MV) (x y : Int) (st : List MV) (μ : MM) (G : MG) : ev 82 15 [a0, a1, a2] (vI y :: vI x :: st) μ G = if ¬ x = y then ev 82 26 [a0, a1, a2] st μ G else ev 82 18 [a0, a1, a2] st μ G := ev_br (mm_cnd_ne x y) pg_82_15 rfl
theorem pg_82_18 : mm_prog 82 18 = some (0, .aload_n 0, 19, []) := by decide +kernel
theorem xe_82_18 (a1 a2 : Option MV) (x : Int) (st : List MV) (μ : MM) (G : MG) : ev 82 18 [some (vR x), a1, a2] st μ G = ev 82 19 [some (vR x), a1, a2] (vR x :: st) μ G := ev_stp pg_82_18 rfl
theorem pg_82_19 : mm_prog 82 19 = some (0, .aload_n 1, 20, []) := by decide +kernel
theorem xe_82_19 (a0 a2 : Option MV) (x : Int) (st : List MV) (μ : MM) (G : MG) : ev 82 19 [a0, some (vR x), a2] st μ G = ev 82 20 [a0, some (vR x), a2] (vR x :: st) μ G := ev_stp pg_82_19 rfl
theorem pg_82_20 : mm_prog 82 20 = some (1, .invokevirtual 66, 23, [1, 84, 1, 8]) := by decide +kernel
theorem xe_82_20 (a0 a1 a2 : Option MV) (x0 z : Int) (μ : MM) (G : MG) : ev 82 20 [a0, a1, a2] (vR x0 :: vR z :: []) μ G = if gk G z = 8 ∧ 0 < z then (ev 84 0 [some (vR z), some (vR x0), none] [] μ G).bind (fun q => ev 82 23 [a0, a1, a2] (q.1.toList ++ []) q.2.1 q.2.2) else none := ev_calV (as := [vR z, vR x0]) (r := []) mx_84 pg_82_20 rfl rfl (Nat.le_of_ble_eq_true rfl) (Nat.le_of_ble_eq_true rfl)
theorem pg_82_23 : mm_prog 82 23 = some (0, .goto 8, 26, []) := by decide +kernel
theorem xe_82_23 (a0 a1 a2 : Option MV) (st : List MV) (μ : MM) (G : MG) : ev 82 23 [a0, a1, a2] st μ G = ev 82 31 [a0, a1, a2] st μ G := ev_stp pg_82_23 rfl
theorem pg_82_26 : mm_prog 82 26 = some (0, .aload_n 0, 27, []) := by decide +kernel
theorem xe_82_26 (a1 a2 : Option MV) (x : Int) (st : List MV) (μ : MM) (G : MG) : ev 82 26 [some (vR x), a1, a2] st μ G = ev 82 27 [some (vR x), a1, a2] (vR x :: st) μ G := ev_stp pg_82_26 rfl
theorem pg_82_27 : mm_prog 82 27 = some (0, .aload_n 1, 28, []) := by decide +kernel
theorem xe_82_27 (a0 a2 : Option MV) (x : Int) (st : List MV) (μ : MM) (G : MG) : ev 82 27 [a0, some (vR x), a2] st μ G = ev 82 28 [a0, some (vR x), a2] (vR x :: st) μ G := ev_stp pg_82_27 rfl
theorem pg_82_28 : mm_prog 82 28 = some (1, .invokevirtual 69, 31, [1, 85, 1, 8]) := by decide +kernel
theorem xe_82_28 (a0 a1 a2 : Option MV) (x0 z : Int) (μ : MM) (G : MG) : ev 82 28 [a0, a1, a2] (vR x0 :: vR z :: []) μ G = if gk G z = 8 ∧ 0 < z then (ev 85 0 [some (vR z), some (vR x0), none] [] μ G).bind (fun q => ev 82 31 [a0, a1, a2] (q.1.toList ++ []) q.2.1 q.2.2) else none := ev_calV (as := [vR z, vR x0]) (r := []) mx_85 pg_82_28 rfl rfl (Nat.le_of_ble_eq_true rfl) (Nat.le_of_ble_eq_true rfl)
theorem pg_82_31 : mm_prog 82 31 = some (0, .istore_n 2, 32, []) := by decide +kernel
theorem xe_82_31 (a0 a1 a2 : Option MV) (x : Int) (st : List MV) (μ : MM) (G : MG) (h : mm_nL a1 = true) : ev 82 31 [a0, a1, a2] (vI x :: st) μ G = ev 82 32 [a0, a1, some (vI x)] st μ G := ev_st pg_82_31 rfl (mm_nl_of h) (Nat.le_of_ble_eq_true rfl)
theorem pg_82_32 : mm_prog 82 32 = some (0, .iload_n 2, 33, []) := by decide +kernel
theorem xe_82_32 (a0 a1 : Option MV) (x : Int) (st : List MV) (μ : MM) (G : MG) : ev 82 32 [a0, a1, some (vI x)] st μ G = ev 82 33 [a0, a1, some (vI x)] (vI x :: st) μ G := ev_stp pg_82_32 rfl
theorem pg_82_33 : mm_prog 82 33 = some (0, .iconst 1, 34, []) := by decide +kernel
theorem xe_82_33 (a0 a1 a2 : Option MV) (st : List MV) (μ : MM) (G : MG) : ev 82 33 [a0, a1, a2] st μ G = ev 82 34 [a0, a1, a2] (vI (1) :: st) μ G := ev_stp pg_82_33 rfl
theorem pg_82_34 : mm_prog 82 34 = some (0, .if_icmp .lt 14, 37, []) := by decide +kernel
theorem xe_82_34 (a0 a1 a2 : Option MV) (x y : Int) (st : List MV) (μ : MM) (G : MG) : ev 82 34 [a0, a1, a2] (vI y :: vI x :: st) μ G = if x < y then ev 82 48 [a0, a1, a2] st μ G else ev 82 37 [a0, a1, a2] st μ G := ev_br (mm_cnd_lt x y) pg_82_34 rfl
theorem pg_82_37 : mm_prog 82 37 = some (0, .iload_n 2, 38, []) := by decide +kernel
theorem xe_82_37 (a0 a1 : Option MV) (x : Int) (st : List MV) (μ : MM) (G : MG) : ev 82 37 [a0, a1, some (vI x)] st μ G = ev 82 38 [a0, a1, some (vI x)] (vI x :: st) μ G := ev_stp pg_82_37 rfl
theorem pg_82_38 : mm_prog 82 38 = some (0, .bipush 6, 40, []) := by decide +kernel
theorem xe_82_38 (a0 a1 a2 : Option MV) (st : List MV) (μ : MM) (G : MG) : ev 82 38 [a0, a1, a2] st μ G = ev 82 40 [a0, a1, a2] (vI (6) :: st) μ G := ev_stp pg_82_38 rfl
theorem pg_82_40 : mm_prog 82 40 = some (0, .if_icmp .gt 8, 43, []) := by decide +kernel
theorem xe_82_40 (a0 a1 a2 : Option MV) (x y : Int) (st : List MV) (μ : MM) (G : MG) : ev 82 40 [a0, a1, a2] (vI y :: vI x :: st) μ G = if y < x then ev 82 48 [a0, a1, a2] st μ G else ev 82 43 [a0, a1, a2] st μ G := ev_br (mm_cnd_gt x y) pg_82_40 rfl
theorem pg_82_43 : mm_prog 82 43 = some (0, .aload_n 0, 44, []) := by decide +kernel
theorem xe_82_43 (a1 a2 : Option MV) (x : Int) (st : List MV) (μ : MM) (G : MG) : ev 82 43 [some (vR x), a1, a2] st μ G = ev 82 44 [some (vR x), a1, a2] (vR x :: st) μ G := ev_stp pg_82_43 rfl
theorem pg_82_44 : mm_prog 82 44 = some (0, .aload_n 1, 45, []) := by decide +kernel
theorem xe_82_44 (a0 a2 : Option MV) (x : Int) (st : List MV) (μ : MM) (G : MG) : ev 82 44 [a0, some (vR x), a2] st μ G = ev 82 45 [a0, some (vR x), a2] (vR x :: st) μ G := ev_stp pg_82_44 rfl
theorem pg_82_45 : mm_prog 82 45 = some (1, .invokevirtual 72, 48, [1, 92, 1, 8]) := by decide +kernel
theorem xe_82_45 (a0 a1 a2 : Option MV) (x0 z : Int) (μ : MM) (G : MG) : ev 82 45 [a0, a1, a2] (vR x0 :: vR z :: []) μ G = if gk G z = 8 ∧ 0 < z then (ev 92 0 [some (vR z), some (vR x0)] [] μ G).bind (fun q => ev 82 48 [a0, a1, a2] (q.1.toList ++ []) q.2.1 q.2.2) else none := ev_calV (as := [vR z, vR x0]) (r := []) mx_92 pg_82_45 rfl rfl (Nat.le_of_ble_eq_true rfl) (Nat.le_of_ble_eq_true rfl)
theorem pg_82_48 : mm_prog 82 48 = some (0, .iload_n 2, 49, []) := by decide +kernel
theorem xe_82_48 (a0 a1 : Option MV) (x : Int) (st : List MV) (μ : MM) (G : MG) : ev 82 48 [a0, a1, some (vI x)] st μ G = ev 82 49 [a0, a1, some (vI x)] (vI x :: st) μ G := ev_stp pg_82_48 rfl
theorem pg_82_49 : mm_prog 82 49 = some (2, .ireturn, 50, [0]) := by decide +kernel
theorem xe_82_49 (a0 a1 a2 : Option MV) (x : Int) (μ : MM) (G : MG) : ev 82 49 [a0, a1, a2] [vI x] μ G = some (some (vI x), μ, G) := ev_ret pg_82_49 rfl
-- X8_allLanes
theorem pg_83_0 : mm_prog 83 0 = some (0, .iconst 1, 1, []) := by decide +kernel
theorem xe_83_0 (a0 : Option MV) (st : List MV) (μ : MM) (G : MG) : ev 83 0 [a0] st μ G = ev 83 1 [a0] (vI (1) :: st) μ G := ev_stp pg_83_0 rfl
theorem pg_83_1 : mm_prog 83 1 = some (0, .aload_n 0, 2, []) := by decide +kernel
theorem xe_83_1 (x : Int) (st : List MV) (μ : MM) (G : MG) : ev 83 1 [some (vR x)] st μ G = ev 83 2 [some (vR x)] (vR x :: st) μ G := ev_stp pg_83_1 rfl
theorem pg_83_2 : mm_prog 83 2 = some (0, .getfield 22, 5, [8, 3, 0]) := by decide +kernel
theorem xe_83_2 (a0 : Option MV) (x : Int) (st : List MV) (μ : MM) (G : MG) : ev 83 2 [a0] (vR x :: st) μ G = if gk G x = 8 then ev 83 5 [a0] (vI (μ x 3) :: st) μ G else none := ev_if pg_83_2 rfl
theorem pg_83_5 : mm_prog 83 5 = some (0, .ishl, 6, []) := by decide +kernel
theorem xe_83_5 (a0 : Option MV) (x y : Int) (st : List MV) (μ : MM) (G : MG) : ev 83 5 [a0] (vI y :: vI x :: st) μ G = ev 83 6 [a0] (vI (mm_shl x y) :: st) μ G := ev_stp pg_83_5 rfl
theorem pg_83_6 : mm_prog 83 6 = some (0, .iconst 1, 7, []) := by decide +kernel
theorem xe_83_6 (a0 : Option MV) (st : List MV) (μ : MM) (G : MG) : ev 83 6 [a0] st μ G = ev 83 7 [a0] (vI (1) :: st) μ G := ev_stp pg_83_6 rfl
theorem pg_83_7 : mm_prog 83 7 = some (0, .isub, 8, []) := by decide +kernel
theorem xe_83_7 (a0 : Option MV) (x y : Int) (st : List MV) (μ : MM) (G : MG) : ev 83 7 [a0] (vI y :: vI x :: st) μ G = ev 83 8 [a0] (vI (w32 (x - y)) :: st) μ G := ev_stp pg_83_7 rfl
theorem pg_83_8 : mm_prog 83 8 = some (2, .ireturn, 9, [0]) := by decide +kernel
theorem xe_83_8 (a0 : Option MV) (x : Int) (μ : MM) (G : MG) : ev 83 8 [a0] [vI x] μ G = some (some (vI x), μ, G) := ev_ret pg_83_8 rfl
-- X8_attemptClock
theorem pg_84_0 : mm_prog 84 0 = some (0, .aload_n 0, 1, []) := by decide +kernel
theorem xe_84_0 (a1 a2 : Option MV) (x : Int) (st : List MV) (μ : MM) (G : MG) : ev 84 0 [some (vR x), a1, a2] st μ G = ev 84 1 [some (vR x), a1, a2] (vR x :: st) μ G := ev_stp pg_84_0 rfl
theorem pg_84_1 : mm_prog 84 1 = some (0, .dup, 2, []) := by decide +kernel
theorem xe_84_1 (a0 a1 a2 : Option MV) (x : Int) (st : List MV) (μ : MM) (G : MG) : ev 84 1 [a0, a1, a2] (vR x :: st) μ G = ev 84 2 [a0, a1, a2] (vR x :: vR x :: st) μ G := ev_stp pg_84_1 rfl
theorem pg_84_2 : mm_prog 84 2 = some (0, .getfield 44, 5, [8, 7, 0]) := by decide +kernel
theorem xe_84_2 (a0 a1 a2 : Option MV) (x : Int) (st : List MV) (μ : MM) (G : MG) : ev 84 2 [a0, a1, a2] (vR x :: st) μ G = if gk G x = 8 then ev 84 5 [a0, a1, a2] (vI (μ x 7) :: st) μ G else none := ev_if pg_84_2 rfl
theorem pg_84_5 : mm_prog 84 5 = some (0, .iconst 1, 6, []) := by decide +kernel
theorem xe_84_5 (a0 a1 a2 : Option MV) (st : List MV) (μ : MM) (G : MG) : ev 84 5 [a0, a1, a2] st μ G = ev 84 6 [a0, a1, a2] (vI (1) :: st) μ G := ev_stp pg_84_5 rfl
theorem pg_84_6 : mm_prog 84 6 = some (0, .iadd, 7, []) := by decide +kernel
theorem xe_84_6 (a0 a1 a2 : Option MV) (x y : Int) (st : List MV) (μ : MM) (G : MG) : ev 84 6 [a0, a1, a2] (vI y :: vI x :: st) μ G = ev 84 7 [a0, a1, a2] (vI (w32 (x + y)) :: st) μ G := ev_stp pg_84_6 rfl
theorem pg_84_7 : mm_prog 84 7 = some (0, .putfield 44, 10, [8, 7, 0]) := by decide +kernel
theorem xe_84_7 (a0 a1 a2 : Option MV) (x y : Int) (st : List MV) (μ : MM) (G : MG) : ev 84 7 [a0, a1, a2] (vI x :: vR y :: st) μ G = if gk G y = 8 then ev 84 10 [a0, a1, a2] st (mset μ y 7 x) G else none := ev_put0 pg_84_7
theorem pg_84_10 : mm_prog 84 10 = some (0, .aload_n 0, 11, []) := by decide +kernel
theorem xe_84_10 (a1 a2 : Option MV) (x : Int) (st : List MV) (μ : MM) (G : MG) : ev 84 10 [some (vR x), a1, a2] st μ G = ev 84 11 [some (vR x), a1, a2] (vR x :: st) μ G := ev_stp pg_84_10 rfl
theorem pg_84_11 : mm_prog 84 11 = some (0, .dup, 12, []) := by decide +kernel
theorem xe_84_11 (a0 a1 a2 : Option MV) (x : Int) (st : List MV) (μ : MM) (G : MG) : ev 84 11 [a0, a1, a2] (vR x :: st) μ G = ev 84 12 [a0, a1, a2] (vR x :: vR x :: st) μ G := ev_stp pg_84_11 rfl
theorem pg_84_12 : mm_prog 84 12 = some (0, .getfield 75, 15, [8, 9, 0]) := by decide +kernel
theorem xe_84_12 (a0 a1 a2 : Option MV) (x : Int) (st : List MV) (μ : MM) (G : MG) : ev 84 12 [a0, a1, a2] (vR x :: st) μ G = if gk G x = 8 then ev 84 15 [a0, a1, a2] (vI (μ x 9) :: st) μ G else none := ev_if pg_84_12 rfl
theorem pg_84_15 : mm_prog 84 15 = some (0, .iconst 1, 16, []) := by decide +kernel
theorem xe_84_15 (a0 a1 a2 : Option MV) (st : List MV) (μ : MM) (G : MG) : ev 84 15 [a0, a1, a2] st μ G = ev 84 16 [a0, a1, a2] (vI (1) :: st) μ G := ev_stp pg_84_15 rfl
theorem pg_84_16 : mm_prog 84 16 = some (0, .iadd, 17, []) := by decide +kernel
theorem xe_84_16 (a0 a1 a2 : Option MV) (x y : Int) (st : List MV) (μ : MM) (G : MG) : ev 84 16 [a0, a1, a2] (vI y :: vI x :: st) μ G = ev 84 17 [a0, a1, a2] (vI (w32 (x + y)) :: st) μ G := ev_stp pg_84_16 rfl
theorem pg_84_17 : mm_prog 84 17 = some (0, .putfield 75, 20, [8, 9, 0]) := by decide +kernel
theorem xe_84_17 (a0 a1 a2 : Option MV) (x y : Int) (st : List MV) (μ : MM) (G : MG) : ev 84 17 [a0, a1, a2] (vI x :: vR y :: st) μ G = if gk G y = 8 then ev 84 20 [a0, a1, a2] st (mset μ y 9 x) G else none := ev_put0 pg_84_17
theorem pg_84_20 : mm_prog 84 20 = some (0, .aload_n 0, 21, []) := by decide +kernel
theorem xe_84_20 (a1 a2 : Option MV) (x : Int) (st : List MV) (μ : MM) (G : MG) : ev 84 20 [some (vR x), a1, a2] st μ G = ev 84 21 [some (vR x), a1, a2] (vR x :: st) μ G := ev_stp pg_84_20 rfl
theorem pg_84_21 : mm_prog 84 21 = some (0, .aload_n 1, 22, []) := by decide +kernel
theorem xe_84_21 (a0 a2 : Option MV) (x : Int) (st : List MV) (μ : MM) (G : MG) : ev 84 21 [a0, some (vR x), a2] st μ G = ev 84 22 [a0, some (vR x), a2] (vR x :: st) μ G := ev_stp pg_84_21 rfl
theorem pg_84_22 : mm_prog 84 22 = some (1, .invokevirtual 78, 25, [1, 86, 1, 8]) := by decide +kernel
theorem xe_84_22 (a0 a1 a2 : Option MV) (x0 z : Int) (μ : MM) (G : MG) : ev 84 22 [a0, a1, a2] (vR x0 :: vR z :: []) μ G = if gk G z = 8 ∧ 0 < z then (ev 86 0 [some (vR z), some (vR x0), none, none] [] μ G).bind (fun q => ev 84 25 [a0, a1, a2] (q.1.toList ++ []) q.2.1 q.2.2) else none := ev_calV (as := [vR z, vR x0]) (r := []) mx_86 pg_84_22 rfl rfl (Nat.le_of_ble_eq_true rfl) (Nat.le_of_ble_eq_true rfl)
theorem pg_84_25 : mm_prog 84 25 = some (0, .istore_n 2, 26, []) := by decide +kernel
theorem xe_84_25 (a0 a1 a2 : Option MV) (x : Int) (st : List MV) (μ : MM) (G : MG) (h : mm_nL a1 = true) : ev 84 25 [a0, a1, a2] (vI x :: st) μ G = ev 84 26 [a0, a1, some (vI x)] st μ G := ev_st pg_84_25 rfl (mm_nl_of h) (Nat.le_of_ble_eq_true rfl)
theorem pg_84_26 : mm_prog 84 26 = some (0, .aload_n 0, 27, []) := by decide +kernel
theorem xe_84_26 (a1 a2 : Option MV) (x : Int) (st : List MV) (μ : MM) (G : MG) : ev 84 26 [some (vR x), a1, a2] st μ G = ev 84 27 [some (vR x), a1, a2] (vR x :: st) μ G := ev_stp pg_84_26 rfl
theorem pg_84_27 : mm_prog 84 27 = some (0, .aload_n 0, 28, []) := by decide +kernel
theorem xe_84_27 (a1 a2 : Option MV) (x : Int) (st : List MV) (μ : MM) (G : MG) : ev 84 27 [some (vR x), a1, a2] st μ G = ev 84 28 [some (vR x), a1, a2] (vR x :: st) μ G := ev_stp pg_84_27 rfl
theorem pg_84_28 : mm_prog 84 28 = some (0, .aload_n 1, 29, []) := by decide +kernel
theorem xe_84_28 (a0 a2 : Option MV) (x : Int) (st : List MV) (μ : MM) (G : MG) : ev 84 28 [a0, some (vR x), a2] st μ G = ev 84 29 [a0, some (vR x), a2] (vR x :: st) μ G := ev_stp pg_84_28 rfl
theorem pg_84_29 : mm_prog 84 29 = some (0, .aload_n 0, 30, []) := by decide +kernel
theorem xe_84_29 (a1 a2 : Option MV) (x : Int) (st : List MV) (μ : MM) (G : MG) : ev 84 29 [some (vR x), a1, a2] st μ G = ev 84 30 [some (vR x), a1, a2] (vR x :: st) μ G := ev_stp pg_84_29 rfl
theorem pg_84_30 : mm_prog 84 30 = some (0, .getfield 44, 33, [8, 7, 0]) := by decide +kernel
theorem xe_84_30 (a0 a1 a2 : Option MV) (x : Int) (st : List MV) (μ : MM) (G : MG) : ev 84 30 [a0, a1, a2] (vR x :: st) μ G = if gk G x = 8 then ev 84 33 [a0, a1, a2] (vI (μ x 7) :: st) μ G else none := ev_if pg_84_30 rfl
theorem pg_84_33 : mm_prog 84 33 = some (1, .invokevirtual 81, 36, [1, 88, 2, 8]) := by decide +kernel
theorem xe_84_33 (a0 a1 a2 : Option MV) (x0 x1 z r0 : Int) (μ : MM) (G : MG) : ev 84 33 [a0, a1, a2] (vI x1 :: vR x0 :: vR z :: [vR r0]) μ G = if gk G z = 8 ∧ 0 < z then (ev 88 0 [some (vR z), some (vR x0), some (vI x1), none, none] [] μ G).bind (fun q => ev 84 36 [a0, a1, a2] (q.1.toList ++ [vR r0]) q.2.1 q.2.2) else none := ev_calV (as := [vR z, vR x0, vI x1]) (r := [vR r0]) mx_88 pg_84_33 rfl rfl (Nat.le_of_ble_eq_true rfl) (Nat.le_of_ble_eq_true rfl)
theorem pg_84_36 : mm_prog 84 36 = some (0, .iload_n 2, 37, []) := by decide +kernel
theorem xe_84_36 (a0 a1 : Option MV) (x : Int) (st : List MV) (μ : MM) (G : MG) : ev 84 36 [a0, a1, some (vI x)] st μ G = ev 84 37 [a0, a1, some (vI x)] (vI x :: st) μ G := ev_stp pg_84_36 rfl
theorem pg_84_37 : mm_prog 84 37 = some (0, .iconst (-1), 38, []) := by decide +kernel
theorem xe_84_37 (a0 a1 a2 : Option MV) (st : List MV) (μ : MM) (G : MG) : ev 84 37 [a0, a1, a2] st μ G = ev 84 38 [a0, a1, a2] (vI (-1) :: st) μ G := ev_stp pg_84_37 rfl
theorem pg_84_38 : mm_prog 84 38 = some (0, .ixor, 39, []) := by decide +kernel
theorem xe_84_38 (a0 a1 a2 : Option MV) (x y : Int) (st : List MV) (μ : MM) (G : MG) : ev 84 38 [a0, a1, a2] (vI y :: vI x :: st) μ G = ev 84 39 [a0, a1, a2] (vI (mm_xor x y) :: st) μ G := ev_stp pg_84_38 rfl
theorem pg_84_39 : mm_prog 84 39 = some (0, .iand, 40, []) := by decide +kernel
theorem xe_84_39 (a0 a1 a2 : Option MV) (x y : Int) (st : List MV) (μ : MM) (G : MG) : ev 84 39 [a0, a1, a2] (vI y :: vI x :: st) μ G = ev 84 40 [a0, a1, a2] (vI (mm_and x y) :: st) μ G := ev_stp pg_84_39 rfl
theorem pg_84_40 : mm_prog 84 40 = some (0, .putfield 85, 43, [8, 5, 0]) := by decide +kernel
theorem xe_84_40 (a0 a1 a2 : Option MV) (x y : Int) (st : List MV) (μ : MM) (G : MG) : ev 84 40 [a0, a1, a2] (vI x :: vR y :: st) μ G = if gk G y = 8 then ev 84 43 [a0, a1, a2] st (mset μ y 5 x) G else none := ev_put0 pg_84_40
theorem pg_84_43 : mm_prog 84 43 = some (0, .aload_n 0, 44, []) := by decide +kernel
theorem xe_84_43 (a1 a2 : Option MV) (x : Int) (st : List MV) (μ : MM) (G : MG) : ev 84 43 [some (vR x), a1, a2] st μ G = ev 84 44 [some (vR x), a1, a2] (vR x :: st) μ G := ev_stp pg_84_43 rfl
theorem pg_84_44 : mm_prog 84 44 = some (0, .aload_n 0, 45, []) := by decide +kernel
theorem xe_84_44 (a1 a2 : Option MV) (x : Int) (st : List MV) (μ : MM) (G : MG) : ev 84 44 [some (vR x), a1, a2] st μ G = ev 84 45 [some (vR x), a1, a2] (vR x :: st) μ G := ev_stp pg_84_44 rfl
theorem pg_84_45 : mm_prog 84 45 = some (0, .getfield 85, 48, [8, 5, 0]) := by decide +kernel
theorem xe_84_45 (a0 a1 a2 : Option MV) (x : Int) (st : List MV) (μ : MM) (G : MG) : ev 84 45 [a0, a1, a2] (vR x :: st) μ G = if gk G x = 8 then ev 84 48 [a0, a1, a2] (vI (μ x 5) :: st) μ G else none := ev_if pg_84_45 rfl
theorem pg_84_48 : mm_prog 84 48 = some (0, .putfield 88, 51, [8, 12, 0]) := by decide +kernel
theorem xe_84_48 (a0 a1 a2 : Option MV) (x y : Int) (st : List MV) (μ : MM) (G : MG) : ev 84 48 [a0, a1, a2] (vI x :: vR y :: st) μ G = if gk G y = 8 then ev 84 51 [a0, a1, a2] st (mset μ y 12 x) G else none := ev_put0 pg_84_48
theorem pg_84_51 : mm_prog 84 51 = some (0, .aload_n 0, 52, []) := by decide +kernel
theorem xe_84_51 (a1 a2 : Option MV) (x : Int) (st : List MV) (μ : MM) (G : MG) : ev 84 51 [some (vR x), a1, a2] st μ G = ev 84 52 [some (vR x), a1, a2] (vR x :: st) μ G := ev_stp pg_84_51 rfl
theorem pg_84_52 : mm_prog 84 52 = some (0, .getfield 85, 55, [8, 5, 0]) := by decide +kernel
theorem xe_84_52 (a0 a1 a2 : Option MV) (x : Int) (st : List MV) (μ : MM) (G : MG) : ev 84 52 [a0, a1, a2] (vR x :: st) μ G = if gk G x = 8 then ev 84 55 [a0, a1, a2] (vI (μ x 5) :: st) μ G else none := ev_if pg_84_52 rfl
theorem pg_84_55 : mm_prog 84 55 = some (0, .aload_n 0, 56, []) := by decide +kernel
theorem xe_84_55 (a1 a2 : Option MV) (x : Int) (st : List MV) (μ : MM) (G : MG) : ev 84 55 [some (vR x), a1, a2] st μ G = ev 84 56 [some (vR x), a1, a2] (vR x :: st) μ G := ev_stp pg_84_55 rfl
theorem pg_84_56 : mm_prog 84 56 = some (1, .invokevirtual 91, 59, [1, 83, 0, 8]) := by decide +kernel
theorem xe_84_56 (a0 a1 a2 : Option MV) (z r0 : Int) (μ : MM) (G : MG) : ev 84 56 [a0, a1, a2] (vR z :: [vI r0]) μ G = if gk G z = 8 ∧ 0 < z then (ev 83 0 [some (vR z)] [] μ G).bind (fun q => ev 84 59 [a0, a1, a2] (q.1.toList ++ [vI r0]) q.2.1 q.2.2) else none := ev_calV (as := [vR z]) (r := [vI r0]) mx_83 pg_84_56 rfl rfl (Nat.le_of_ble_eq_true rfl) (Nat.le_of_ble_eq_true rfl)
theorem pg_84_59 : mm_prog 84 59 = some (0, .if_icmp .ne 11, 62, []) := by decide +kernel
theorem xe_84_59 (a0 a1 a2 : Option MV) (x y : Int) (st : List MV) (μ : MM) (G : MG) : ev 84 59 [a0, a1, a2] (vI y :: vI x :: st) μ G = if ¬ x = y then ev 84 70 [a0, a1, a2] st μ G else ev 84 62 [a0, a1, a2] st μ G := ev_br (mm_cnd_ne x y) pg_84_59 rfl
theorem pg_84_62 : mm_prog 84 62 = some (0, .aload_n 0, 63, []) := by decide +kernel
theorem xe_84_62 (a1 a2 : Option MV) (x : Int) (st : List MV) (μ : MM) (G : MG) : ev 84 62 [some (vR x), a1, a2] st μ G = ev 84 63 [some (vR x), a1, a2] (vR x :: st) μ G := ev_stp pg_84_62 rfl
theorem pg_84_63 : mm_prog 84 63 = some (0, .iconst 2, 64, []) := by decide +kernel
theorem xe_84_63 (a0 a1 a2 : Option MV) (st : List MV) (μ : MM) (G : MG) : ev 84 63 [a0, a1, a2] st μ G = ev 84 64 [a0, a1, a2] (vI (2) :: st) μ G := ev_stp pg_84_63 rfl
theorem pg_84_64 : mm_prog 84 64 = some (0, .putfield 18, 67, [8, 2, 0]) := by decide +kernel
theorem xe_84_64 (a0 a1 a2 : Option MV) (x y : Int) (st : List MV) (μ : MM) (G : MG) : ev 84 64 [a0, a1, a2] (vI x :: vR y :: st) μ G = if gk G y = 8 then ev 84 67 [a0, a1, a2] st (mset μ y 2 x) G else none := ev_put0 pg_84_64
theorem pg_84_67 : mm_prog 84 67 = some (0, .bipush 7, 69, []) := by decide +kernel
theorem xe_84_67 (a0 a1 a2 : Option MV) (st : List MV) (μ : MM) (G : MG) : ev 84 67 [a0, a1, a2] st μ G = ev 84 69 [a0, a1, a2] (vI (7) :: st) μ G := ev_stp pg_84_67 rfl
theorem pg_84_69 : mm_prog 84 69 = some (2, .ireturn, 70, [0]) := by decide +kernel
theorem xe_84_69 (a0 a1 a2 : Option MV) (x : Int) (μ : MM) (G : MG) : ev 84 69 [a0, a1, a2] [vI x] μ G = some (some (vI x), μ, G) := ev_ret pg_84_69 rfl
theorem pg_84_70 : mm_prog 84 70 = some (0, .aload_n 0, 71, []) := by decide +kernel
theorem xe_84_70 (a1 a2 : Option MV) (x : Int) (st : List MV) (μ : MM) (G : MG) : ev 84 70 [some (vR x), a1, a2] st μ G = ev 84 71 [some (vR x), a1, a2] (vR x :: st) μ G := ev_stp pg_84_70 rfl
theorem pg_84_71 : mm_prog 84 71 = some (0, .getfield 9, 74, [8, 0, 2]) := by decide +kernel
theorem xe_84_71 (a0 a1 a2 : Option MV) (x : Int) (st : List MV) (μ : MM) (G : MG) : ev 84 71 [a0, a1, a2] (vR x :: st) μ G = if gk G x = 8 then ev 84 74 [a0, a1, a2] (vR (μ x 0) :: st) μ G else none := ev_if pg_84_71 rfl
theorem pg_84_74 : mm_prog 84 74 = some (0, .iload_n 2, 75, []) := by decide +kernel
theorem xe_84_74 (a0 a1 : Option MV) (x : Int) (st : List MV) (μ : MM) (G : MG) : ev 84 74 [a0, a1, some (vI x)] st μ G = ev 84 75 [a0, a1, some (vI x)] (vI x :: st) μ G := ev_stp pg_84_74 rfl
theorem pg_84_75 : mm_prog 84 75 = some (1, .invokestatic 95, 78, [0, 89, 2, 0]) := by decide +kernel
theorem xe_84_75 (a0 a1 a2 : Option MV) (x0 x1 : Int) (μ : MM) (G : MG) : ev 84 75 [a0, a1, a2] (vI x1 :: vR x0 :: []) μ G = (ev 89 0 [some (vR x0), some (vI x1), none] [] μ G).bind (fun q => ev 84 78 [a0, a1, a2] (q.1.toList ++ []) q.2.1 q.2.2) := ev_calS (as := [vR x0, vI x1]) (r := []) mx_89 pg_84_75 rfl rfl (Nat.le_of_ble_eq_true rfl) (Nat.le_of_ble_eq_true rfl)
theorem pg_84_78 : mm_prog 84 78 = some (0, .ifCond .eq 5, 81, []) := by decide +kernel
theorem xe_84_78 (a0 a1 a2 : Option MV) (x : Int) (st : List MV) (μ : MM) (G : MG) : ev 84 78 [a0, a1, a2] (vI x :: st) μ G = if x = 0 then ev 84 83 [a0, a1, a2] st μ G else ev 84 81 [a0, a1, a2] st μ G := ev_br (mm_cnd_eq x 0) pg_84_78 rfl
theorem pg_84_81 : mm_prog 84 81 = some (0, .iconst 1, 82, []) := by decide +kernel
theorem xe_84_81 (a0 a1 a2 : Option MV) (st : List MV) (μ : MM) (G : MG) : ev 84 81 [a0, a1, a2] st μ G = ev 84 82 [a0, a1, a2] (vI (1) :: st) μ G := ev_stp pg_84_81 rfl
theorem pg_84_82 : mm_prog 84 82 = some (2, .ireturn, 83, [0]) := by decide +kernel
theorem xe_84_82 (a0 a1 a2 : Option MV) (x : Int) (μ : MM) (G : MG) : ev 84 82 [a0, a1, a2] [vI x] μ G = some (some (vI x), μ, G) := ev_ret pg_84_82 rfl
theorem pg_84_83 : mm_prog 84 83 = some (0, .aload_n 0, 84, []) := by decide +kernel
theorem xe_84_83 (a1 a2 : Option MV) (x : Int) (st : List MV) (μ : MM) (G : MG) : ev 84 83 [some (vR x), a1, a2] st μ G = ev 84 84 [some (vR x), a1, a2] (vR x :: st) μ G := ev_stp pg_84_83 rfl
theorem pg_84_84 : mm_prog 84 84 = some (0, .getfield 44, 87, [8, 7, 0]) := by decide +kernel
theorem xe_84_84 (a0 a1 a2 : Option MV) (x : Int) (st : List MV) (μ : MM) (G : MG) : ev 84 84 [a0, a1, a2] (vR x :: st) μ G = if gk G x = 8 then ev 84 87 [a0, a1, a2] (vI (μ x 7) :: st) μ G else none := ev_if pg_84_84 rfl
theorem pg_84_87 : mm_prog 84 87 = some (0, .bipush 10, 89, []) := by decide +kernel
theorem xe_84_87 (a0 a1 a2 : Option MV) (st : List MV) (μ : MM) (G : MG) : ev 84 87 [a0, a1, a2] st μ G = ev 84 89 [a0, a1, a2] (vI (10) :: st) μ G := ev_stp pg_84_87 rfl
theorem pg_84_89 : mm_prog 84 89 = some (0, .if_icmp .lt 5, 92, []) := by decide +kernel
theorem xe_84_89 (a0 a1 a2 : Option MV) (x y : Int) (st : List MV) (μ : MM) (G : MG) : ev 84 89 [a0, a1, a2] (vI y :: vI x :: st) μ G = if x < y then ev 84 94 [a0, a1, a2] st μ G else ev 84 92 [a0, a1, a2] st μ G := ev_br (mm_cnd_lt x y) pg_84_89 rfl
theorem pg_84_92 : mm_prog 84 92 = some (0, .iconst 2, 93, []) := by decide +kernel
theorem xe_84_92 (a0 a1 a2 : Option MV) (st : List MV) (μ : MM) (G : MG) : ev 84 92 [a0, a1, a2] st μ G = ev 84 93 [a0, a1, a2] (vI (2) :: st) μ G := ev_stp pg_84_92 rfl
theorem pg_84_93 : mm_prog 84 93 = some (2, .ireturn, 94, [0]) := by decide +kernel
theorem xe_84_93 (a0 a1 a2 : Option MV) (x : Int) (μ : MM) (G : MG) : ev 84 93 [a0, a1, a2] [vI x] μ G = some (some (vI x), μ, G) := ev_ret pg_84_93 rfl
theorem pg_84_94 : mm_prog 84 94 = some (0, .aload_n 0, 95, []) := by decide +kernel
theorem xe_84_94 (a1 a2 : Option MV) (x : Int) (st : List MV) (μ : MM) (G : MG) : ev 84 94 [some (vR x), a1, a2] st μ G = ev 84 95 [some (vR x), a1, a2] (vR x :: st) μ G := ev_stp pg_84_94 rfl
theorem pg_84_95 : mm_prog 84 95 = some (0, .getfield 75, 98, [8, 9, 0]) := by decide +kernel
theorem xe_84_95 (a0 a1 a2 : Option MV) (x : Int) (st : List MV) (μ : MM) (G : MG) : ev 84 95 [a0, a1, a2] (vR x :: st) μ G = if gk G x = 8 then ev 84 98 [a0, a1, a2] (vI (μ x 9) :: st) μ G else none := ev_if pg_84_95 rfl
theorem pg_84_98 : mm_prog 84 98 = some (0, .bipush 7, 100, []) := by decide +kernel
theorem xe_84_98 (a0 a1 a2 : Option MV) (st : List MV) (μ : MM) (G : MG) : ev 84 98 [a0, a1, a2] st μ G = ev 84 100 [a0, a1, a2] (vI (7) :: st) μ G := ev_stp pg_84_98 rfl
theorem pg_84_100 : mm_prog 84 100 = some (0, .if_icmp .lt 5, 103, []) := by decide +kernel
theorem xe_84_100 (a0 a1 a2 : Option MV) (x y : Int) (st : List MV) (μ : MM) (G : MG) : ev 84 100 [a0, a1, a2] (vI y :: vI x :: st) μ G = if x < y then ev 84 105 [a0, a1, a2] st μ G else ev 84 103 [a0, a1, a2] st μ G := ev_br (mm_cnd_lt x y) pg_84_100 rfl
theorem pg_84_103 : mm_prog 84 103 = some (0, .iconst 3, 104, []) := by decide +kernel
theorem xe_84_103 (a0 a1 a2 : Option MV) (st : List MV) (μ : MM) (G : MG) : ev 84 103 [a0, a1, a2] st μ G = ev 84 104 [a0, a1, a2] (vI (3) :: st) μ G := ev_stp pg_84_103 rfl
theorem pg_84_104 : mm_prog 84 104 = some (2, .ireturn, 105, [0]) := by decide +kernel
theorem xe_84_104 (a0 a1 a2 : Option MV) (x : Int) (μ : MM) (G : MG) : ev 84 104 [a0, a1, a2] [vI x] μ G = some (some (vI x), μ, G) := ev_ret pg_84_104 rfl
theorem pg_84_105 : mm_prog 84 105 = some (0, .iload_n 2, 106, []) := by decide +kernel
theorem xe_84_105 (a0 a1 : Option MV) (x : Int) (st : List MV) (μ : MM) (G : MG) : ev 84 105 [a0, a1, some (vI x)] st μ G = ev 84 106 [a0, a1, some (vI x)] (vI x :: st) μ G := ev_stp pg_84_105 rfl
theorem pg_84_106 : mm_prog 84 106 = some (0, .ifCond .eq 16, 109, []) := by decide +kernel
theorem xe_84_106 (a0 a1 a2 : Option MV) (x : Int) (st : List MV) (μ : MM) (G : MG) : ev 84 106 [a0, a1, a2] (vI x :: st) μ G = if x = 0 then ev 84 122 [a0, a1, a2] st μ G else ev 84 109 [a0, a1, a2] st μ G := ev_br (mm_cnd_eq x 0) pg_84_106 rfl
theorem pg_84_109 : mm_prog 84 109 = some (0, .aload_n 0, 110, []) := by decide +kernel
theorem xe_84_109 (a1 a2 : Option MV) (x : Int) (st : List MV) (μ : MM) (G : MG) : ev 84 109 [some (vR x), a1, a2] st μ G = ev 84 110 [some (vR x), a1, a2] (vR x :: st) μ G := ev_stp pg_84_109 rfl
theorem pg_84_110 : mm_prog 84 110 = some (0, .getfield 9, 113, [8, 0, 2]) := by decide +kernel
theorem xe_84_110 (a0 a1 a2 : Option MV) (x : Int) (st : List MV) (μ : MM) (G : MG) : ev 84 110 [a0, a1, a2] (vR x :: st) μ G = if gk G x = 8 then ev 84 113 [a0, a1, a2] (vR (μ x 0) :: st) μ G else none := ev_if pg_84_110 rfl
theorem pg_84_113 : mm_prog 84 113 = some (0, .iload_n 2, 114, []) := by decide +kernel
theorem xe_84_113 (a0 a1 : Option MV) (x : Int) (st : List MV) (μ : MM) (G : MG) : ev 84 113 [a0, a1, some (vI x)] st μ G = ev 84 114 [a0, a1, some (vI x)] (vI x :: st) μ G := ev_stp pg_84_113 rfl
theorem pg_84_114 : mm_prog 84 114 = some (1, .invokestatic 99, 117, [0, 90, 2, 0]) := by decide +kernel
theorem xe_84_114 (a0 a1 a2 : Option MV) (x0 x1 : Int) (μ : MM) (G : MG) : ev 84 114 [a0, a1, a2] (vI x1 :: vR x0 :: []) μ G = (ev 90 0 [some (vR x0), some (vI x1), none] [] μ G).bind (fun q => ev 84 117 [a0, a1, a2] (q.1.toList ++ []) q.2.1 q.2.2) := ev_calS (as := [vR x0, vI x1]) (r := []) mx_90 pg_84_114 rfl rfl (Nat.le_of_ble_eq_true rfl) (Nat.le_of_ble_eq_true rfl)
theorem pg_84_117 : mm_prog 84 117 = some (0, .aload_n 0, 118, []) := by decide +kernel
theorem xe_84_117 (a1 a2 : Option MV) (x : Int) (st : List MV) (μ : MM) (G : MG) : ev 84 117 [some (vR x), a1, a2] st μ G = ev 84 118 [some (vR x), a1, a2] (vR x :: st) μ G := ev_stp pg_84_117 rfl
theorem pg_84_118 : mm_prog 84 118 = some (0, .iconst 0, 119, []) := by decide +kernel
theorem xe_84_118 (a0 a1 a2 : Option MV) (st : List MV) (μ : MM) (G : MG) : ev 84 118 [a0, a1, a2] st μ G = ev 84 119 [a0, a1, a2] (vI (0) :: st) μ G := ev_stp pg_84_118 rfl
theorem pg_84_119 : mm_prog 84 119 = some (0, .putfield 75, 122, [8, 9, 0]) := by decide +kernel
theorem xe_84_119 (a0 a1 a2 : Option MV) (x y : Int) (st : List MV) (μ : MM) (G : MG) : ev 84 119 [a0, a1, a2] (vI x :: vR y :: st) μ G = if gk G y = 8 then ev 84 122 [a0, a1, a2] st (mset μ y 9 x) G else none := ev_put0 pg_84_119
theorem pg_84_122 : mm_prog 84 122 = some (0, .iconst 0, 123, []) := by decide +kernel
theorem xe_84_122 (a0 a1 a2 : Option MV) (st : List MV) (μ : MM) (G : MG) : ev 84 122 [a0, a1, a2] st μ G = ev 84 123 [a0, a1, a2] (vI (0) :: st) μ G := ev_stp pg_84_122 rfl
theorem pg_84_123 : mm_prog 84 123 = some (2, .ireturn, 124, [0]) := by decide +kernel
theorem xe_84_123 (a0 a1 a2 : Option MV) (x : Int) (μ : MM) (G : MG) : ev 84 123 [a0, a1, a2] [vI x] μ G = some (some (vI x), μ, G) := ev_ret pg_84_123 rfl
-- X8_attemptEven
theorem pg_85_0 : mm_prog 85 0 = some (0, .aload_n 0, 1, []) := by decide +kernel
theorem xe_85_0 (a1 a2 : Option MV) (x : Int) (st : List MV) (μ : MM) (G : MG) : ev 85 0 [some (vR x), a1, a2] st μ G = ev 85 1 [some (vR x), a1, a2] (vR x :: st) μ G := ev_stp pg_85_0 rfl
theorem pg_85_1 : mm_prog 85 1 = some (0, .dup, 2, []) := by decide +kernel
theorem xe_85_1 (a0 a1 a2 : Option MV) (x : Int) (st : List MV) (μ : MM) (G : MG) : ev 85 1 [a0, a1, a2] (vR x :: st) μ G = ev 85 2 [a0, a1, a2] (vR x :: vR x :: st) μ G := ev_stp pg_85_1 rfl
theorem pg_85_2 : mm_prog 85 2 = some (0, .getfield 47, 5, [8, 8, 0]) := by decide +kernel
theorem xe_85_2 (a0 a1 a2 : Option MV) (x : Int) (st : List MV) (μ : MM) (G : MG) : ev 85 2 [a0, a1, a2] (vR x :: st) μ G = if gk G x = 8 then ev 85 5 [a0, a1, a2] (vI (μ x 8) :: st) μ G else none := ev_if pg_85_2 rfl
theorem pg_85_5 : mm_prog 85 5 = some (0, .iconst 1, 6, []) := by decide +kernel
theorem xe_85_5 (a0 a1 a2 : Option MV) (st : List MV) (μ : MM) (G : MG) : ev 85 5 [a0, a1, a2] st μ G = ev 85 6 [a0, a1, a2] (vI (1) :: st) μ G := ev_stp pg_85_5 rfl
theorem pg_85_6 : mm_prog 85 6 = some (0, .iadd, 7, []) := by decide +kernel
theorem xe_85_6 (a0 a1 a2 : Option MV) (x y : Int) (st : List MV) (μ : MM) (G : MG) : ev 85 6 [a0, a1, a2] (vI y :: vI x :: st) μ G = ev 85 7 [a0, a1, a2] (vI (w32 (x + y)) :: st) μ G := ev_stp pg_85_6 rfl
theorem pg_85_7 : mm_prog 85 7 = some (0, .putfield 47, 10, [8, 8, 0]) := by decide +kernel
theorem xe_85_7 (a0 a1 a2 : Option MV) (x y : Int) (st : List MV) (μ : MM) (G : MG) : ev 85 7 [a0, a1, a2] (vI x :: vR y :: st) μ G = if gk G y = 8 then ev 85 10 [a0, a1, a2] st (mset μ y 8 x) G else none := ev_put0 pg_85_7
theorem pg_85_10 : mm_prog 85 10 = some (0, .aload_n 0, 11, []) := by decide +kernel
theorem xe_85_10 (a1 a2 : Option MV) (x : Int) (st : List MV) (μ : MM) (G : MG) : ev 85 10 [some (vR x), a1, a2] st μ G = ev 85 11 [some (vR x), a1, a2] (vR x :: st) μ G := ev_stp pg_85_10 rfl
theorem pg_85_11 : mm_prog 85 11 = some (0, .iconst 0, 12, []) := by decide +kernel
theorem xe_85_11 (a0 a1 a2 : Option MV) (st : List MV) (μ : MM) (G : MG) : ev 85 11 [a0, a1, a2] st μ G = ev 85 12 [a0, a1, a2] (vI (0) :: st) μ G := ev_stp pg_85_11 rfl
theorem pg_85_12 : mm_prog 85 12 = some (0, .putfield 88, 15, [8, 12, 0]) := by decide +kernel
theorem xe_85_12 (a0 a1 a2 : Option MV) (x y : Int) (st : List MV) (μ : MM) (G : MG) : ev 85 12 [a0, a1, a2] (vI x :: vR y :: st) μ G = if gk G y = 8 then ev 85 15 [a0, a1, a2] st (mset μ y 12 x) G else none := ev_put0 pg_85_12
theorem pg_85_15 : mm_prog 85 15 = some (0, .aload_n 0, 16, []) := by decide +kernel
theorem xe_85_15 (a1 a2 : Option MV) (x : Int) (st : List MV) (μ : MM) (G : MG) : ev 85 15 [some (vR x), a1, a2] st μ G = ev 85 16 [some (vR x), a1, a2] (vR x :: st) μ G := ev_stp pg_85_15 rfl
theorem pg_85_16 : mm_prog 85 16 = some (0, .iconst 0, 17, []) := by decide +kernel
theorem xe_85_16 (a0 a1 a2 : Option MV) (st : List MV) (μ : MM) (G : MG) : ev 85 16 [a0, a1, a2] st μ G = ev 85 17 [a0, a1, a2] (vI (0) :: st) μ G := ev_stp pg_85_16 rfl
theorem pg_85_17 : mm_prog 85 17 = some (0, .putfield 103, 20, [8, 6, 0]) := by decide +kernel
theorem xe_85_17 (a0 a1 a2 : Option MV) (x y : Int) (st : List MV) (μ : MM) (G : MG) : ev 85 17 [a0, a1, a2] (vI x :: vR y :: st) μ G = if gk G y = 8 then ev 85 20 [a0, a1, a2] st (mset μ y 6 x) G else none := ev_put0 pg_85_17
theorem pg_85_20 : mm_prog 85 20 = some (0, .aload_n 0, 21, []) := by decide +kernel
theorem xe_85_20 (a1 a2 : Option MV) (x : Int) (st : List MV) (μ : MM) (G : MG) : ev 85 20 [some (vR x), a1, a2] st μ G = ev 85 21 [some (vR x), a1, a2] (vR x :: st) μ G := ev_stp pg_85_20 rfl
theorem pg_85_21 : mm_prog 85 21 = some (0, .aload_n 1, 22, []) := by decide +kernel
theorem xe_85_21 (a0 a2 : Option MV) (x : Int) (st : List MV) (μ : MM) (G : MG) : ev 85 21 [a0, some (vR x), a2] st μ G = ev 85 22 [a0, some (vR x), a2] (vR x :: st) μ G := ev_stp pg_85_21 rfl
theorem pg_85_22 : mm_prog 85 22 = some (1, .invokevirtual 78, 25, [1, 86, 1, 8]) := by decide +kernel
theorem xe_85_22 (a0 a1 a2 : Option MV) (x0 z : Int) (μ : MM) (G : MG) : ev 85 22 [a0, a1, a2] (vR x0 :: vR z :: []) μ G = if gk G z = 8 ∧ 0 < z then (ev 86 0 [some (vR z), some (vR x0), none, none] [] μ G).bind (fun q => ev 85 25 [a0, a1, a2] (q.1.toList ++ []) q.2.1 q.2.2) else none := ev_calV (as := [vR z, vR x0]) (r := []) mx_86 pg_85_22 rfl rfl (Nat.le_of_ble_eq_true rfl) (Nat.le_of_ble_eq_true rfl)
theorem pg_85_25 : mm_prog 85 25 = some (0, .ifCond .eq 5, 28, []) := by decide +kernel
theorem xe_85_25 (a0 a1 a2 : Option MV) (x : Int) (st : List MV) (μ : MM) (G : MG) : ev 85 25 [a0, a1, a2] (vI x :: st) μ G = if x = 0 then ev 85 30 [a0, a1, a2] st μ G else ev 85 28 [a0, a1, a2] st μ G := ev_br (mm_cnd_eq x 0) pg_85_25 rfl
theorem pg_85_28 : mm_prog 85 28 = some (0, .iconst 4, 29, []) := by decide +kernel
theorem xe_85_28 (a0 a1 a2 : Option MV) (st : List MV) (μ : MM) (G : MG) : ev 85 28 [a0, a1, a2] st μ G = ev 85 29 [a0, a1, a2] (vI (4) :: st) μ G := ev_stp pg_85_28 rfl
theorem pg_85_29 : mm_prog 85 29 = some (2, .ireturn, 30, [0]) := by decide +kernel
theorem xe_85_29 (a0 a1 a2 : Option MV) (x : Int) (μ : MM) (G : MG) : ev 85 29 [a0, a1, a2] [vI x] μ G = some (some (vI x), μ, G) := ev_ret pg_85_29 rfl
theorem pg_85_30 : mm_prog 85 30 = some (0, .aload_n 0, 31, []) := by decide +kernel
theorem xe_85_30 (a1 a2 : Option MV) (x : Int) (st : List MV) (μ : MM) (G : MG) : ev 85 30 [some (vR x), a1, a2] st μ G = ev 85 31 [some (vR x), a1, a2] (vR x :: st) μ G := ev_stp pg_85_30 rfl
theorem pg_85_31 : mm_prog 85 31 = some (0, .aload_n 1, 32, []) := by decide +kernel
theorem xe_85_31 (a0 a2 : Option MV) (x : Int) (st : List MV) (μ : MM) (G : MG) : ev 85 31 [a0, some (vR x), a2] st μ G = ev 85 32 [a0, some (vR x), a2] (vR x :: st) μ G := ev_stp pg_85_31 rfl
theorem pg_85_32 : mm_prog 85 32 = some (1, .invokevirtual 106, 35, [1, 87, 1, 8]) := by decide +kernel
theorem xe_85_32 (a0 a1 a2 : Option MV) (x0 z : Int) (μ : MM) (G : MG) : ev 85 32 [a0, a1, a2] (vR x0 :: vR z :: []) μ G = if gk G z = 8 ∧ 0 < z then (ev 87 0 [some (vR z), some (vR x0), none, none] [] μ G).bind (fun q => ev 85 35 [a0, a1, a2] (q.1.toList ++ []) q.2.1 q.2.2) else none := ev_calV (as := [vR z, vR x0]) (r := []) mx_87 pg_85_32 rfl rfl (Nat.le_of_ble_eq_true rfl) (Nat.le_of_ble_eq_true rfl)
theorem pg_85_35 : mm_prog 85 35 = some (0, .istore_n 2, 36, []) := by decide +kernel
theorem xe_85_35 (a0 a1 a2 : Option MV) (x : Int) (st : List MV) (μ : MM) (G : MG) (h : mm_nL a1 = true) : ev 85 35 [a0, a1, a2] (vI x :: st) μ G = ev 85 36 [a0, a1, some (vI x)] st μ G := ev_st pg_85_35 rfl (mm_nl_of h) (Nat.le_of_ble_eq_true rfl)
theorem pg_85_36 : mm_prog 85 36 = some (0, .aload_n 0, 37, []) := by decide +kernel
theorem xe_85_36 (a1 a2 : Option MV) (x : Int) (st : List MV) (μ : MM) (G : MG) : ev 85 36 [some (vR x), a1, a2] st μ G = ev 85 37 [some (vR x), a1, a2] (vR x :: st) μ G := ev_stp pg_85_36 rfl
theorem pg_85_37 : mm_prog 85 37 = some (0, .aload_n 0, 38, []) := by decide +kernel
theorem xe_85_37 (a1 a2 : Option MV) (x : Int) (st : List MV) (μ : MM) (G : MG) : ev 85 37 [some (vR x), a1, a2] st μ G = ev 85 38 [some (vR x), a1, a2] (vR x :: st) μ G := ev_stp pg_85_37 rfl
theorem pg_85_38 : mm_prog 85 38 = some (0, .aload_n 1, 39, []) := by decide +kernel
theorem xe_85_38 (a0 a2 : Option MV) (x : Int) (st : List MV) (μ : MM) (G : MG) : ev 85 38 [a0, some (vR x), a2] st μ G = ev 85 39 [a0, some (vR x), a2] (vR x :: st) μ G := ev_stp pg_85_38 rfl
theorem pg_85_39 : mm_prog 85 39 = some (0, .aload_n 0, 40, []) := by decide +kernel
theorem xe_85_39 (a1 a2 : Option MV) (x : Int) (st : List MV) (μ : MM) (G : MG) : ev 85 39 [some (vR x), a1, a2] st μ G = ev 85 40 [some (vR x), a1, a2] (vR x :: st) μ G := ev_stp pg_85_39 rfl
theorem pg_85_40 : mm_prog 85 40 = some (0, .getfield 47, 43, [8, 8, 0]) := by decide +kernel
theorem xe_85_40 (a0 a1 a2 : Option MV) (x : Int) (st : List MV) (μ : MM) (G : MG) : ev 85 40 [a0, a1, a2] (vR x :: st) μ G = if gk G x = 8 then ev 85 43 [a0, a1, a2] (vI (μ x 8) :: st) μ G else none := ev_if pg_85_40 rfl
theorem pg_85_43 : mm_prog 85 43 = some (0, .iconst 2, 44, []) := by decide +kernel
theorem xe_85_43 (a0 a1 a2 : Option MV) (st : List MV) (μ : MM) (G : MG) : ev 85 43 [a0, a1, a2] st μ G = ev 85 44 [a0, a1, a2] (vI (2) :: st) μ G := ev_stp pg_85_43 rfl
theorem pg_85_44 : mm_prog 85 44 = some (0, .iadd, 45, []) := by decide +kernel
theorem xe_85_44 (a0 a1 a2 : Option MV) (x y : Int) (st : List MV) (μ : MM) (G : MG) : ev 85 44 [a0, a1, a2] (vI y :: vI x :: st) μ G = ev 85 45 [a0, a1, a2] (vI (w32 (x + y)) :: st) μ G := ev_stp pg_85_44 rfl
theorem pg_85_45 : mm_prog 85 45 = some (1, .invokevirtual 81, 48, [1, 88, 2, 8]) := by decide +kernel
theorem xe_85_45 (a0 a1 a2 : Option MV) (x0 x1 z r0 : Int) (μ : MM) (G : MG) : ev 85 45 [a0, a1, a2] (vI x1 :: vR x0 :: vR z :: [vR r0]) μ G = if gk G z = 8 ∧ 0 < z then (ev 88 0 [some (vR z), some (vR x0), some (vI x1), none, none] [] μ G).bind (fun q => ev 85 48 [a0, a1, a2] (q.1.toList ++ [vR r0]) q.2.1 q.2.2) else none := ev_calV (as := [vR z, vR x0, vI x1]) (r := [vR r0]) mx_88 pg_85_45 rfl rfl (Nat.le_of_ble_eq_true rfl) (Nat.le_of_ble_eq_true rfl)
theorem pg_85_48 : mm_prog 85 48 = some (0, .iload_n 2, 49, []) := by decide +kernel
theorem xe_85_48 (a0 a1 : Option MV) (x : Int) (st : List MV) (μ : MM) (G : MG) : ev 85 48 [a0, a1, some (vI x)] st μ G = ev 85 49 [a0, a1, some (vI x)] (vI x :: st) μ G := ev_stp pg_85_48 rfl
theorem pg_85_49 : mm_prog 85 49 = some (0, .iconst (-1), 50, []) := by decide +kernel
theorem xe_85_49 (a0 a1 a2 : Option MV) (st : List MV) (μ : MM) (G : MG) : ev 85 49 [a0, a1, a2] st μ G = ev 85 50 [a0, a1, a2] (vI (-1) :: st) μ G := ev_stp pg_85_49 rfl
theorem pg_85_50 : mm_prog 85 50 = some (0, .ixor, 51, []) := by decide +kernel
theorem xe_85_50 (a0 a1 a2 : Option MV) (x y : Int) (st : List MV) (μ : MM) (G : MG) : ev 85 50 [a0, a1, a2] (vI y :: vI x :: st) μ G = ev 85 51 [a0, a1, a2] (vI (mm_xor x y) :: st) μ G := ev_stp pg_85_50 rfl
theorem pg_85_51 : mm_prog 85 51 = some (0, .iand, 52, []) := by decide +kernel
theorem xe_85_51 (a0 a1 a2 : Option MV) (x y : Int) (st : List MV) (μ : MM) (G : MG) : ev 85 51 [a0, a1, a2] (vI y :: vI x :: st) μ G = ev 85 52 [a0, a1, a2] (vI (mm_and x y) :: st) μ G := ev_stp pg_85_51 rfl
theorem pg_85_52 : mm_prog 85 52 = some (0, .putfield 103, 55, [8, 6, 0]) := by decide +kernel
theorem xe_85_52 (a0 a1 a2 : Option MV) (x y : Int) (st : List MV) (μ : MM) (G : MG) : ev 85 52 [a0, a1, a2] (vI x :: vR y :: st) μ G = if gk G y = 8 then ev 85 55 [a0, a1, a2] st (mset μ y 6 x) G else none := ev_put0 pg_85_52
theorem pg_85_55 : mm_prog 85 55 = some (0, .aload_n 0, 56, []) := by decide +kernel
theorem xe_85_55 (a1 a2 : Option MV) (x : Int) (st : List MV) (μ : MM) (G : MG) : ev 85 55 [some (vR x), a1, a2] st μ G = ev 85 56 [some (vR x), a1, a2] (vR x :: st) μ G := ev_stp pg_85_55 rfl
theorem pg_85_56 : mm_prog 85 56 = some (0, .aload_n 0, 57, []) := by decide +kernel
theorem xe_85_56 (a1 a2 : Option MV) (x : Int) (st : List MV) (μ : MM) (G : MG) : ev 85 56 [some (vR x), a1, a2] st μ G = ev 85 57 [some (vR x), a1, a2] (vR x :: st) μ G := ev_stp pg_85_56 rfl
theorem pg_85_57 : mm_prog 85 57 = some (0, .getfield 103, 60, [8, 6, 0]) := by decide +kernel
theorem xe_85_57 (a0 a1 a2 : Option MV) (x : Int) (st : List MV) (μ : MM) (G : MG) : ev 85 57 [a0, a1, a2] (vR x :: st) μ G = if gk G x = 8 then ev 85 60 [a0, a1, a2] (vI (μ x 6) :: st) μ G else none := ev_if pg_85_57 rfl
theorem pg_85_60 : mm_prog 85 60 = some (0, .putfield 88, 63, [8, 12, 0]) := by decide +kernel
theorem xe_85_60 (a0 a1 a2 : Option MV) (x y : Int) (st : List MV) (μ : MM) (G : MG) : ev 85 60 [a0, a1, a2] (vI x :: vR y :: st) μ G = if gk G y = 8 then ev 85 63 [a0, a1, a2] st (mset μ y 12 x) G else none := ev_put0 pg_85_60
theorem pg_85_63 : mm_prog 85 63 = some (0, .aload_n 0, 64, []) := by decide +kernel
theorem xe_85_63 (a1 a2 : Option MV) (x : Int) (st : List MV) (μ : MM) (G : MG) : ev 85 63 [some (vR x), a1, a2] st μ G = ev 85 64 [some (vR x), a1, a2] (vR x :: st) μ G := ev_stp pg_85_63 rfl
theorem pg_85_64 : mm_prog 85 64 = some (0, .getfield 103, 67, [8, 6, 0]) := by decide +kernel
theorem xe_85_64 (a0 a1 a2 : Option MV) (x : Int) (st : List MV) (μ : MM) (G : MG) : ev 85 64 [a0, a1, a2] (vR x :: st) μ G = if gk G x = 8 then ev 85 67 [a0, a1, a2] (vI (μ x 6) :: st) μ G else none := ev_if pg_85_64 rfl
theorem pg_85_67 : mm_prog 85 67 = some (0, .aload_n 0, 68, []) := by decide +kernel
theorem xe_85_67 (a1 a2 : Option MV) (x : Int) (st : List MV) (μ : MM) (G : MG) : ev 85 67 [some (vR x), a1, a2] st μ G = ev 85 68 [some (vR x), a1, a2] (vR x :: st) μ G := ev_stp pg_85_67 rfl
theorem pg_85_68 : mm_prog 85 68 = some (1, .invokevirtual 91, 71, [1, 83, 0, 8]) := by decide +kernel
theorem xe_85_68 (a0 a1 a2 : Option MV) (z r0 : Int) (μ : MM) (G : MG) : ev 85 68 [a0, a1, a2] (vR z :: [vI r0]) μ G = if gk G z = 8 ∧ 0 < z then (ev 83 0 [some (vR z)] [] μ G).bind (fun q => ev 85 71 [a0, a1, a2] (q.1.toList ++ [vI r0]) q.2.1 q.2.2) else none := ev_calV (as := [vR z]) (r := [vI r0]) mx_83 pg_85_68 rfl rfl (Nat.le_of_ble_eq_true rfl) (Nat.le_of_ble_eq_true rfl)
theorem pg_85_71 : mm_prog 85 71 = some (0, .if_icmp .ne 11, 74, []) := by decide +kernel
theorem xe_85_71 (a0 a1 a2 : Option MV) (x y : Int) (st : List MV) (μ : MM) (G : MG) : ev 85 71 [a0, a1, a2] (vI y :: vI x :: st) μ G = if ¬ x = y then ev 85 82 [a0, a1, a2] st μ G else ev 85 74 [a0, a1, a2] st μ G := ev_br (mm_cnd_ne x y) pg_85_71 rfl
theorem pg_85_74 : mm_prog 85 74 = some (0, .aload_n 0, 75, []) := by decide +kernel
theorem xe_85_74 (a1 a2 : Option MV) (x : Int) (st : List MV) (μ : MM) (G : MG) : ev 85 74 [some (vR x), a1, a2] st μ G = ev 85 75 [some (vR x), a1, a2] (vR x :: st) μ G := ev_stp pg_85_74 rfl
theorem pg_85_75 : mm_prog 85 75 = some (0, .iconst 3, 76, []) := by decide +kernel
theorem xe_85_75 (a0 a1 a2 : Option MV) (st : List MV) (μ : MM) (G : MG) : ev 85 75 [a0, a1, a2] st μ G = ev 85 76 [a0, a1, a2] (vI (3) :: st) μ G := ev_stp pg_85_75 rfl
theorem pg_85_76 : mm_prog 85 76 = some (0, .putfield 18, 79, [8, 2, 0]) := by decide +kernel
theorem xe_85_76 (a0 a1 a2 : Option MV) (x y : Int) (st : List MV) (μ : MM) (G : MG) : ev 85 76 [a0, a1, a2] (vI x :: vR y :: st) μ G = if gk G y = 8 then ev 85 79 [a0, a1, a2] st (mset μ y 2 x) G else none := ev_put0 pg_85_76
theorem pg_85_79 : mm_prog 85 79 = some (0, .bipush 8, 81, []) := by decide +kernel
theorem xe_85_79 (a0 a1 a2 : Option MV) (st : List MV) (μ : MM) (G : MG) : ev 85 79 [a0, a1, a2] st μ G = ev 85 81 [a0, a1, a2] (vI (8) :: st) μ G := ev_stp pg_85_79 rfl
theorem pg_85_81 : mm_prog 85 81 = some (2, .ireturn, 82, [0]) := by decide +kernel
theorem xe_85_81 (a0 a1 a2 : Option MV) (x : Int) (μ : MM) (G : MG) : ev 85 81 [a0, a1, a2] [vI x] μ G = some (some (vI x), μ, G) := ev_ret pg_85_81 rfl
theorem pg_85_82 : mm_prog 85 82 = some (0, .aload_n 0, 83, []) := by decide +kernel
theorem xe_85_82 (a1 a2 : Option MV) (x : Int) (st : List MV) (μ : MM) (G : MG) : ev 85 82 [some (vR x), a1, a2] st μ G = ev 85 83 [some (vR x), a1, a2] (vR x :: st) μ G := ev_stp pg_85_82 rfl
theorem pg_85_83 : mm_prog 85 83 = some (0, .getfield 47, 86, [8, 8, 0]) := by decide +kernel
theorem xe_85_83 (a0 a1 a2 : Option MV) (x : Int) (st : List MV) (μ : MM) (G : MG) : ev 85 83 [a0, a1, a2] (vR x :: st) μ G = if gk G x = 8 then ev 85 86 [a0, a1, a2] (vI (μ x 8) :: st) μ G else none := ev_if pg_85_83 rfl
theorem pg_85_86 : mm_prog 85 86 = some (0, .bipush 6, 88, []) := by decide +kernel
theorem xe_85_86 (a0 a1 a2 : Option MV) (st : List MV) (μ : MM) (G : MG) : ev 85 86 [a0, a1, a2] st μ G = ev 85 88 [a0, a1, a2] (vI (6) :: st) μ G := ev_stp pg_85_86 rfl
theorem pg_85_88 : mm_prog 85 88 = some (0, .if_icmp .lt 5, 91, []) := by decide +kernel
theorem xe_85_88 (a0 a1 a2 : Option MV) (x y : Int) (st : List MV) (μ : MM) (G : MG) : ev 85 88 [a0, a1, a2] (vI y :: vI x :: st) μ G = if x < y then ev 85 93 [a0, a1, a2] st μ G else ev 85 91 [a0, a1, a2] st μ G := ev_br (mm_cnd_lt x y) pg_85_88 rfl
theorem pg_85_91 : mm_prog 85 91 = some (0, .iconst 5, 92, []) := by decide +kernel
theorem xe_85_91 (a0 a1 a2 : Option MV) (st : List MV) (μ : MM) (G : MG) : ev 85 91 [a0, a1, a2] st μ G = ev 85 92 [a0, a1, a2] (vI (5) :: st) μ G := ev_stp pg_85_91 rfl
theorem pg_85_92 : mm_prog 85 92 = some (2, .ireturn, 93, [0]) := by decide +kernel
theorem xe_85_92 (a0 a1 a2 : Option MV) (x : Int) (μ : MM) (G : MG) : ev 85 92 [a0, a1, a2] [vI x] μ G = some (some (vI x), μ, G) := ev_ret pg_85_92 rfl
theorem pg_85_93 : mm_prog 85 93 = some (0, .aload_n 0, 94, []) := by decide +kernel
theorem xe_85_93 (a1 a2 : Option MV) (x : Int) (st : List MV) (μ : MM) (G : MG) : ev 85 93 [some (vR x), a1, a2] st μ G = ev 85 94 [some (vR x), a1, a2] (vR x :: st) μ G := ev_stp pg_85_93 rfl
theorem pg_85_94 : mm_prog 85 94 = some (0, .getfield 15, 97, [8, 1, 2]) := by decide +kernel
theorem xe_85_94 (a0 a1 a2 : Option MV) (x : Int) (st : List MV) (μ : MM) (G : MG) : ev 85 94 [a0, a1, a2] (vR x :: st) μ G = if gk G x = 8 then ev 85 97 [a0, a1, a2] (vR (μ x 1) :: st) μ G else none := ev_if pg_85_94 rfl
theorem pg_85_97 : mm_prog 85 97 = some (0, .iload_n 2, 98, []) := by decide +kernel
theorem xe_85_97 (a0 a1 : Option MV) (x : Int) (st : List MV) (μ : MM) (G : MG) : ev 85 97 [a0, a1, some (vI x)] st μ G = ev 85 98 [a0, a1, some (vI x)] (vI x :: st) μ G := ev_stp pg_85_97 rfl
theorem pg_85_98 : mm_prog 85 98 = some (1, .invokestatic 95, 101, [0, 89, 2, 0]) := by decide +kernel
theorem xe_85_98 (a0 a1 a2 : Option MV) (x0 x1 : Int) (μ : MM) (G : MG) : ev 85 98 [a0, a1, a2] (vI x1 :: vR x0 :: []) μ G = (ev 89 0 [some (vR x0), some (vI x1), none] [] μ G).bind (fun q => ev 85 101 [a0, a1, a2] (q.1.toList ++ []) q.2.1 q.2.2) := ev_calS (as := [vR x0, vI x1]) (r := []) mx_89 pg_85_98 rfl rfl (Nat.le_of_ble_eq_true rfl) (Nat.le_of_ble_eq_true rfl)
theorem pg_85_101 : mm_prog 85 101 = some (0, .ifCond .eq 6, 104, []) := by decide +kernel
theorem xe_85_101 (a0 a1 a2 : Option MV) (x : Int) (st : List MV) (μ : MM) (G : MG) : ev 85 101 [a0, a1, a2] (vI x :: st) μ G = if x = 0 then ev 85 107 [a0, a1, a2] st μ G else ev 85 104 [a0, a1, a2] st μ G := ev_br (mm_cnd_eq x 0) pg_85_101 rfl
theorem pg_85_104 : mm_prog 85 104 = some (0, .bipush 6, 106, []) := by decide +kernel
theorem xe_85_104 (a0 a1 a2 : Option MV) (st : List MV) (μ : MM) (G : MG) : ev 85 104 [a0, a1, a2] st μ G = ev 85 106 [a0, a1, a2] (vI (6) :: st) μ G := ev_stp pg_85_104 rfl
theorem pg_85_106 : mm_prog 85 106 = some (2, .ireturn, 107, [0]) := by decide +kernel
theorem xe_85_106 (a0 a1 a2 : Option MV) (x : Int) (μ : MM) (G : MG) : ev 85 106 [a0, a1, a2] [vI x] μ G = some (some (vI x), μ, G) := ev_ret pg_85_106 rfl
theorem pg_85_107 : mm_prog 85 107 = some (0, .aload_n 0, 108, []) := by decide +kernel
theorem xe_85_107 (a1 a2 : Option MV) (x : Int) (st : List MV) (μ : MM) (G : MG) : ev 85 107 [some (vR x), a1, a2] st μ G = ev 85 108 [some (vR x), a1, a2] (vR x :: st) μ G := ev_stp pg_85_107 rfl
theorem pg_85_108 : mm_prog 85 108 = some (0, .getfield 15, 111, [8, 1, 2]) := by decide +kernel
theorem xe_85_108 (a0 a1 a2 : Option MV) (x : Int) (st : List MV) (μ : MM) (G : MG) : ev 85 108 [a0, a1, a2] (vR x :: st) μ G = if gk G x = 8 then ev 85 111 [a0, a1, a2] (vR (μ x 1) :: st) μ G else none := ev_if pg_85_108 rfl
theorem pg_85_111 : mm_prog 85 111 = some (0, .iload_n 2, 112, []) := by decide +kernel
theorem xe_85_111 (a0 a1 : Option MV) (x : Int) (st : List MV) (μ : MM) (G : MG) : ev 85 111 [a0, a1, some (vI x)] st μ G = ev 85 112 [a0, a1, some (vI x)] (vI x :: st) μ G := ev_stp pg_85_111 rfl
theorem pg_85_112 : mm_prog 85 112 = some (1, .invokestatic 99, 115, [0, 90, 2, 0]) := by decide +kernel
theorem xe_85_112 (a0 a1 a2 : Option MV) (x0 x1 : Int) (μ : MM) (G : MG) : ev 85 112 [a0, a1, a2] (vI x1 :: vR x0 :: []) μ G = (ev 90 0 [some (vR x0), some (vI x1), none] [] μ G).bind (fun q => ev 85 115 [a0, a1, a2] (q.1.toList ++ []) q.2.1 q.2.2) := ev_calS (as := [vR x0, vI x1]) (r := []) mx_90 pg_85_112 rfl rfl (Nat.le_of_ble_eq_true rfl) (Nat.le_of_ble_eq_true rfl)
theorem pg_85_115 : mm_prog 85 115 = some (0, .aload_n 0, 116, []) := by decide +kernel
theorem xe_85_115 (a1 a2 : Option MV) (x : Int) (st : List MV) (μ : MM) (G : MG) : ev 85 115 [some (vR x), a1, a2] st μ G = ev 85 116 [some (vR x), a1, a2] (vR x :: st) μ G := ev_stp pg_85_115 rfl
theorem pg_85_116 : mm_prog 85 116 = some (0, .iload_n 2, 117, []) := by decide +kernel
theorem xe_85_116 (a0 a1 : Option MV) (x : Int) (st : List MV) (μ : MM) (G : MG) : ev 85 116 [a0, a1, some (vI x)] st μ G = ev 85 117 [a0, a1, some (vI x)] (vI x :: st) μ G := ev_stp pg_85_116 rfl
theorem pg_85_117 : mm_prog 85 117 = some (1, .invokevirtual 109, 120, [1, 91, 1, 8]) := by decide +kernel
theorem xe_85_117 (a0 a1 a2 : Option MV) (x0 z : Int) (μ : MM) (G : MG) : ev 85 117 [a0, a1, a2] (vI x0 :: vR z :: []) μ G = if gk G z = 8 ∧ 0 < z then (ev 91 0 [some (vR z), some (vI x0), none] [] μ G).bind (fun q => ev 85 120 [a0, a1, a2] (q.1.toList ++ []) q.2.1 q.2.2) else none := ev_calV (as := [vR z, vI x0]) (r := []) mx_91 pg_85_117 rfl rfl (Nat.le_of_ble_eq_true rfl) (Nat.le_of_ble_eq_true rfl)
theorem pg_85_120 : mm_prog 85 120 = some (0, .iconst 0, 121, []) := by decide +kernel
theorem xe_85_120 (a0 a1 a2 : Option MV) (st : List MV) (μ : MM) (G : MG) : ev 85 120 [a0, a1, a2] st μ G = ev 85 121 [a0, a1, a2] (vI (0) :: st) μ G := ev_stp pg_85_120 rfl
theorem pg_85_121 : mm_prog 85 121 = some (2, .ireturn, 122, [0]) := by decide +kernel
theorem xe_85_121 (a0 a1 a2 : Option MV) (x : Int) (μ : MM) (G : MG) : ev 85 121 [a0, a1, a2] [vI x] μ G = some (some (vI x), μ, G) := ev_ret pg_85_121 rfl
-- X8_wantSwing
theorem pg_86_0 : mm_prog 86 0 = some (0, .iconst 0, 1, []) := by decide +kernel
theorem xe_86_0 (a0 a1 a2 a3 : Option MV) (st : List MV) (μ : MM) (G : MG) : ev 86 0 [a0, a1, a2, a3] st μ G = ev 86 1 [a0, a1, a2, a3] (vI (0) :: st) μ G := ev_stp pg_86_0 rfl
theorem pg_86_1 : mm_prog 86 1 = some (0, .istore_n 2, 2, []) := by decide +kernel
theorem xe_86_1 (a0 a1 a2 a3 : Option MV) (x : Int) (st : List MV) (μ : MM) (G : MG) (h : mm_nL a1 = true) : ev 86 1 [a0, a1, a2, a3] (vI x :: st) μ G = ev 86 2 [a0, a1, some (vI x), a3] st μ G := ev_st pg_86_1 rfl (mm_nl_of h) (Nat.le_of_ble_eq_true rfl)
theorem pg_86_2 : mm_prog 86 2 = some (0, .iconst 0, 3, []) := by decide +kernel
theorem xe_86_2 (a0 a1 a2 a3 : Option MV) (st : List MV) (μ : MM) (G : MG) : ev 86 2 [a0, a1, a2, a3] st μ G = ev 86 3 [a0, a1, a2, a3] (vI (0) :: st) μ G := ev_stp pg_86_2 rfl
theorem pg_86_3 : mm_prog 86 3 = some (0, .istore_n 3, 4, []) := by decide +kernel
theorem xe_86_3 (a0 a1 a2 a3 : Option MV) (x : Int) (st : List MV) (μ : MM) (G : MG) (h : mm_nL a2 = true) : ev 86 3 [a0, a1, a2, a3] (vI x :: st) μ G = ev 86 4 [a0, a1, a2, some (vI x)] st μ G := ev_st pg_86_3 rfl (mm_nl_of h) (Nat.le_of_ble_eq_true rfl)
theorem pg_86_4 : mm_prog 86 4 = some (0, .iload_n 3, 5, []) := by decide +kernel
theorem xe_86_4 (a0 a1 a2 : Option MV) (x : Int) (st : List MV) (μ : MM) (G : MG) : ev 86 4 [a0, a1, a2, some (vI x)] st μ G = ev 86 5 [a0, a1, a2, some (vI x)] (vI x :: st) μ G := ev_stp pg_86_4 rfl
theorem pg_86_5 : mm_prog 86 5 = some (0, .iconst 4, 6, []) := by decide +kernel
theorem xe_86_5 (a0 a1 a2 a3 : Option MV) (st : List MV) (μ : MM) (G : MG) : ev 86 5 [a0, a1, a2, a3] st μ G = ev 86 6 [a0, a1, a2, a3] (vI (4) :: st) μ G := ev_stp pg_86_5 rfl
theorem pg_86_6 : mm_prog 86 6 = some (0, .if_icmp .ge 50, 9, []) := by decide +kernel
theorem xe_86_6 (a0 a1 a2 a3 : Option MV) (x y : Int) (st : List MV) (μ : MM) (G : MG) : ev 86 6 [a0, a1, a2, a3] (vI y :: vI x :: st) μ G = if y ≤ x then ev 86 56 [a0, a1, a2, a3] st μ G else ev 86 9 [a0, a1, a2, a3] st μ G := ev_br (mm_cnd_ge x y) pg_86_6 rfl
theorem pg_86_9 : mm_prog 86 9 = some (0, .iload_n 3, 10, []) := by decide +kernel
theorem xe_86_9 (a0 a1 a2 : Option MV) (x : Int) (st : List MV) (μ : MM) (G : MG) : ev 86 9 [a0, a1, a2, some (vI x)] st μ G = ev 86 10 [a0, a1, a2, some (vI x)] (vI x :: st) μ G := ev_stp pg_86_9 rfl
theorem pg_86_10 : mm_prog 86 10 = some (0, .aload_n 0, 11, []) := by decide +kernel
theorem xe_86_10 (a1 a2 a3 : Option MV) (x : Int) (st : List MV) (μ : MM) (G : MG) : ev 86 10 [some (vR x), a1, a2, a3] st μ G = ev 86 11 [some (vR x), a1, a2, a3] (vR x :: st) μ G := ev_stp pg_86_10 rfl
theorem pg_86_11 : mm_prog 86 11 = some (0, .getfield 22, 14, [8, 3, 0]) := by decide +kernel
theorem xe_86_11 (a0 a1 a2 a3 : Option MV) (x : Int) (st : List MV) (μ : MM) (G : MG) : ev 86 11 [a0, a1, a2, a3] (vR x :: st) μ G = if gk G x = 8 then ev 86 14 [a0, a1, a2, a3] (vI (μ x 3) :: st) μ G else none := ev_if pg_86_11 rfl
theorem pg_86_14 : mm_prog 86 14 = some (0, .if_icmp .ge 36, 17, []) := by decide +kernel
theorem xe_86_14 (a0 a1 a2 a3 : Option MV) (x y : Int) (st : List MV) (μ : MM) (G : MG) : ev 86 14 [a0, a1, a2, a3] (vI y :: vI x :: st) μ G = if y ≤ x then ev 86 50 [a0, a1, a2, a3] st μ G else ev 86 17 [a0, a1, a2, a3] st μ G := ev_br (mm_cnd_ge x y) pg_86_14 rfl
theorem pg_86_17 : mm_prog 86 17 = some (0, .iconst 5, 18, []) := by decide +kernel
theorem xe_86_17 (a0 a1 a2 a3 : Option MV) (st : List MV) (μ : MM) (G : MG) : ev 86 17 [a0, a1, a2, a3] st μ G = ev 86 18 [a0, a1, a2, a3] (vI (5) :: st) μ G := ev_stp pg_86_17 rfl
theorem pg_86_18 : mm_prog 86 18 = some (0, .aload_n 0, 19, []) := by decide +kernel
theorem xe_86_18 (a1 a2 a3 : Option MV) (x : Int) (st : List MV) (μ : MM) (G : MG) : ev 86 18 [some (vR x), a1, a2, a3] st μ G = ev 86 19 [some (vR x), a1, a2, a3] (vR x :: st) μ G := ev_stp pg_86_18 rfl
theorem pg_86_19 : mm_prog 86 19 = some (0, .getfield 9, 22, [8, 0, 2]) := by decide +kernel
theorem xe_86_19 (a0 a1 a2 a3 : Option MV) (x : Int) (st : List MV) (μ : MM) (G : MG) : ev 86 19 [a0, a1, a2, a3] (vR x :: st) μ G = if gk G x = 8 then ev 86 22 [a0, a1, a2, a3] (vR (μ x 0) :: st) μ G else none := ev_if pg_86_19 rfl
theorem pg_86_22 : mm_prog 86 22 = some (0, .iload_n 3, 23, []) := by decide +kernel
theorem xe_86_22 (a0 a1 a2 : Option MV) (x : Int) (st : List MV) (μ : MM) (G : MG) : ev 86 22 [a0, a1, a2, some (vI x)] st μ G = ev 86 23 [a0, a1, a2, some (vI x)] (vI x :: st) μ G := ev_stp pg_86_22 rfl
theorem pg_86_23 : mm_prog 86 23 = some (0, .iaload, 24, []) := by decide +kernel
theorem xe_86_23 (a0 a1 a2 a3 : Option MV) (x y : Int) (st : List MV) (μ : MM) (G : MG) : ev 86 23 [a0, a1, a2, a3] (vI x :: vR y :: st) μ G = if gk G y = 100 ∧ 0 ≤ x ∧ x < gl G y then ev 86 24 [a0, a1, a2, a3] (vI (μ y x) :: st) μ G else none := ev_if pg_86_23 rfl
theorem pg_86_24 : mm_prog 86 24 = some (0, .imul, 25, []) := by decide +kernel
theorem xe_86_24 (a0 a1 a2 a3 : Option MV) (x y : Int) (st : List MV) (μ : MM) (G : MG) : ev 86 24 [a0, a1, a2, a3] (vI y :: vI x :: st) μ G = ev 86 25 [a0, a1, a2, a3] (vI (w32 (x * y)) :: st) μ G := ev_stp pg_86_24 rfl
theorem pg_86_25 : mm_prog 86 25 = some (0, .bipush 14, 27, []) := by decide +kernel
theorem xe_86_25 (a0 a1 a2 a3 : Option MV) (st : List MV) (μ : MM) (G : MG) : ev 86 25 [a0, a1, a2, a3] st μ G = ev 86 27 [a0, a1, a2, a3] (vI (14) :: st) μ G := ev_stp pg_86_25 rfl
theorem pg_86_27 : mm_prog 86 27 = some (0, .iadd, 28, []) := by decide +kernel
theorem xe_86_27 (a0 a1 a2 a3 : Option MV) (x y : Int) (st : List MV) (μ : MM) (G : MG) : ev 86 27 [a0, a1, a2, a3] (vI y :: vI x :: st) μ G = ev 86 28 [a0, a1, a2, a3] (vI (w32 (x + y)) :: st) μ G := ev_stp pg_86_27 rfl
theorem pg_86_28 : mm_prog 86 28 = some (0, .aload_n 1, 29, []) := by decide +kernel
theorem xe_86_28 (a0 a2 a3 : Option MV) (x : Int) (st : List MV) (μ : MM) (G : MG) : ev 86 28 [a0, some (vR x), a2, a3] st μ G = ev 86 29 [a0, some (vR x), a2, a3] (vR x :: st) μ G := ev_stp pg_86_28 rfl
theorem pg_86_29 : mm_prog 86 29 = some (0, .getfield 113, 32, [9, 0, 2]) := by decide +kernel
theorem xe_86_29 (a0 a1 a2 a3 : Option MV) (x : Int) (st : List MV) (μ : MM) (G : MG) : ev 86 29 [a0, a1, a2, a3] (vR x :: st) μ G = if gk G x = 9 then ev 86 32 [a0, a1, a2, a3] (vR (μ x 0) :: st) μ G else none := ev_if pg_86_29 rfl
theorem pg_86_32 : mm_prog 86 32 = some (0, .iload_n 3, 33, []) := by decide +kernel
theorem xe_86_32 (a0 a1 a2 : Option MV) (x : Int) (st : List MV) (μ : MM) (G : MG) : ev 86 32 [a0, a1, a2, some (vI x)] st μ G = ev 86 33 [a0, a1, a2, some (vI x)] (vI x :: st) μ G := ev_stp pg_86_32 rfl
theorem pg_86_33 : mm_prog 86 33 = some (0, .iaload, 34, []) := by decide +kernel
theorem xe_86_33 (a0 a1 a2 a3 : Option MV) (x y : Int) (st : List MV) (μ : MM) (G : MG) : ev 86 33 [a0, a1, a2, a3] (vI x :: vR y :: st) μ G = if gk G y = 100 ∧ 0 ≤ x ∧ x < gl G y then ev 86 34 [a0, a1, a2, a3] (vI (μ y x) :: st) μ G else none := ev_if pg_86_33 rfl
theorem pg_86_34 : mm_prog 86 34 = some (0, .iconst 2, 35, []) := by decide +kernel
theorem xe_86_34 (a0 a1 a2 a3 : Option MV) (st : List MV) (μ : MM) (G : MG) : ev 86 34 [a0, a1, a2, a3] st μ G = ev 86 35 [a0, a1, a2, a3] (vI (2) :: st) μ G := ev_stp pg_86_34 rfl
theorem pg_86_35 : mm_prog 86 35 = some (0, .aload_n 0, 36, []) := by decide +kernel
theorem xe_86_35 (a1 a2 a3 : Option MV) (x : Int) (st : List MV) (μ : MM) (G : MG) : ev 86 35 [some (vR x), a1, a2, a3] st μ G = ev 86 36 [some (vR x), a1, a2, a3] (vR x :: st) μ G := ev_stp pg_86_35 rfl
theorem pg_86_36 : mm_prog 86 36 = some (0, .getfield 25, 39, [8, 4, 0]) := by decide +kernel
theorem xe_86_36 (a0 a1 a2 a3 : Option MV) (x : Int) (st : List MV) (μ : MM) (G : MG) : ev 86 36 [a0, a1, a2, a3] (vR x :: st) μ G = if gk G x = 8 then ev 86 39 [a0, a1, a2, a3] (vI (μ x 4) :: st) μ G else none := ev_if pg_86_36 rfl
theorem pg_86_39 : mm_prog 86 39 = some (0, .imul, 40, []) := by decide +kernel
theorem xe_86_39 (a0 a1 a2 a3 : Option MV) (x y : Int) (st : List MV) (μ : MM) (G : MG) : ev 86 39 [a0, a1, a2, a3] (vI y :: vI x :: st) μ G = ev 86 40 [a0, a1, a2, a3] (vI (w32 (x * y)) :: st) μ G := ev_stp pg_86_39 rfl
theorem pg_86_40 : mm_prog 86 40 = some (0, .iadd, 41, []) := by decide +kernel
theorem xe_86_40 (a0 a1 a2 a3 : Option MV) (x y : Int) (st : List MV) (μ : MM) (G : MG) : ev 86 40 [a0, a1, a2, a3] (vI y :: vI x :: st) μ G = ev 86 41 [a0, a1, a2, a3] (vI (w32 (x + y)) :: st) μ G := ev_stp pg_86_40 rfl
theorem pg_86_41 : mm_prog 86 41 = some (0, .if_icmp .ge 9, 44, []) := by decide +kernel
theorem xe_86_41 (a0 a1 a2 a3 : Option MV) (x y : Int) (st : List MV) (μ : MM) (G : MG) : ev 86 41 [a0, a1, a2, a3] (vI y :: vI x :: st) μ G = if y ≤ x then ev 86 50 [a0, a1, a2, a3] st μ G else ev 86 44 [a0, a1, a2, a3] st μ G := ev_br (mm_cnd_ge x y) pg_86_41 rfl
theorem pg_86_44 : mm_prog 86 44 = some (0, .iload_n 2, 45, []) := by decide +kernel
theorem xe_86_44 (a0 a1 a3 : Option MV) (x : Int) (st : List MV) (μ : MM) (G : MG) : ev 86 44 [a0, a1, some (vI x), a3] st μ G = ev 86 45 [a0, a1, some (vI x), a3] (vI x :: st) μ G := ev_stp pg_86_44 rfl
theorem pg_86_45 : mm_prog 86 45 = some (0, .iconst 1, 46, []) := by decide +kernel
theorem xe_86_45 (a0 a1 a2 a3 : Option MV) (st : List MV) (μ : MM) (G : MG) : ev 86 45 [a0, a1, a2, a3] st μ G = ev 86 46 [a0, a1, a2, a3] (vI (1) :: st) μ G := ev_stp pg_86_45 rfl
theorem pg_86_46 : mm_prog 86 46 = some (0, .iload_n 3, 47, []) := by decide +kernel
theorem xe_86_46 (a0 a1 a2 : Option MV) (x : Int) (st : List MV) (μ : MM) (G : MG) : ev 86 46 [a0, a1, a2, some (vI x)] st μ G = ev 86 47 [a0, a1, a2, some (vI x)] (vI x :: st) μ G := ev_stp pg_86_46 rfl
theorem pg_86_47 : mm_prog 86 47 = some (0, .ishl, 48, []) := by decide +kernel
theorem xe_86_47 (a0 a1 a2 a3 : Option MV) (x y : Int) (st : List MV) (μ : MM) (G : MG) : ev 86 47 [a0, a1, a2, a3] (vI y :: vI x :: st) μ G = ev 86 48 [a0, a1, a2, a3] (vI (mm_shl x y) :: st) μ G := ev_stp pg_86_47 rfl
theorem pg_86_48 : mm_prog 86 48 = some (0, .ior, 49, []) := by decide +kernel
theorem xe_86_48 (a0 a1 a2 a3 : Option MV) (x y : Int) (st : List MV) (μ : MM) (G : MG) : ev 86 48 [a0, a1, a2, a3] (vI y :: vI x :: st) μ G = ev 86 49 [a0, a1, a2, a3] (vI (mm_or x y) :: st) μ G := ev_stp pg_86_48 rfl
theorem pg_86_49 : mm_prog 86 49 = some (0, .istore_n 2, 50, []) := by decide +kernel
theorem xe_86_49 (a0 a1 a2 a3 : Option MV) (x : Int) (st : List MV) (μ : MM) (G : MG) (h : mm_nL a1 = true) : ev 86 49 [a0, a1, a2, a3] (vI x :: st) μ G = ev 86 50 [a0, a1, some (vI x), a3] st μ G := ev_st pg_86_49 rfl (mm_nl_of h) (Nat.le_of_ble_eq_true rfl)
theorem pg_86_50 : mm_prog 86 50 = some (0, .iinc 3 1, 53, []) := by decide +kernel
theorem xe_86_50 (a0 a1 a2 : Option MV) (x : Int) (st : List MV) (μ : MM) (G : MG) (h : mm_nL a2 = true) : ev 86 50 [a0, a1, a2, some (vI x)] st μ G = ev 86 53 [a0, a1, a2, some (vI (w32 (x + (1))))] st μ G := ev_st pg_86_50 rfl (mm_nl_of h) (Nat.le_of_ble_eq_true rfl)
theorem pg_86_53 : mm_prog 86 53 = some (0, .goto (-49), 56, []) := by decide +kernel
theorem xe_86_53 (a0 a1 a2 a3 : Option MV) (st : List MV) (μ : MM) (G : MG) : ev 86 53 [a0, a1, a2, a3] st μ G = ev 86 4 [a0, a1, a2, a3] st μ G := ev_stp pg_86_53 rfl
theorem pg_86_56 : mm_prog 86 56 = some (0, .iload_n 2, 57, []) := by decide +kernel
theorem xe_86_56 (a0 a1 a3 : Option MV) (x : Int) (st : List MV) (μ : MM) (G : MG) : ev 86 56 [a0, a1, some (vI x), a3] st μ G = ev 86 57 [a0, a1, some (vI x), a3] (vI x :: st) μ G := ev_stp pg_86_56 rfl
theorem pg_86_57 : mm_prog 86 57 = some (2, .ireturn, 58, [0]) := by decide +kernel
theorem xe_86_57 (a0 a1 a2 a3 : Option MV) (x : Int) (μ : MM) (G : MG) : ev 86 57 [a0, a1, a2, a3] [vI x] μ G = some (some (vI x), μ, G) := ev_ret pg_86_57 rfl
-- X8_wantEmphasis
theorem pg_87_0 : mm_prog 87 0 = some (0, .iconst 0, 1, []) := by decide +kernel
theorem xe_87_0 (a0 a1 a2 a3 : Option MV) (st : List MV) (μ : MM) (G : MG) : ev 87 0 [a0, a1, a2, a3] st μ G = ev 87 1 [a0, a1, a2, a3] (vI (0) :: st) μ G := ev_stp pg_87_0 rfl
theorem pg_87_1 : mm_prog 87 1 = some (0, .istore_n 2, 2, []) := by decide +kernel
theorem xe_87_1 (a0 a1 a2 a3 : Option MV) (x : Int) (st : List MV) (μ : MM) (G : MG) (h : mm_nL a1 = true) : ev 87 1 [a0, a1, a2, a3] (vI x :: st) μ G = ev 87 2 [a0, a1, some (vI x), a3] st μ G := ev_st pg_87_1 rfl (mm_nl_of h) (Nat.le_of_ble_eq_true rfl)
theorem pg_87_2 : mm_prog 87 2 = some (0, .iconst 0, 3, []) := by decide +kernel
theorem xe_87_2 (a0 a1 a2 a3 : Option MV) (st : List MV) (μ : MM) (G : MG) : ev 87 2 [a0, a1, a2, a3] st μ G = ev 87 3 [a0, a1, a2, a3] (vI (0) :: st) μ G := ev_stp pg_87_2 rfl
theorem pg_87_3 : mm_prog 87 3 = some (0, .istore_n 3, 4, []) := by decide +kernel
theorem xe_87_3 (a0 a1 a2 a3 : Option MV) (x : Int) (st : List MV) (μ : MM) (G : MG) (h : mm_nL a2 = true) : ev 87 3 [a0, a1, a2, a3] (vI x :: st) μ G = ev 87 4 [a0, a1, a2, some (vI x)] st μ G := ev_st pg_87_3 rfl (mm_nl_of h) (Nat.le_of_ble_eq_true rfl)
theorem pg_87_4 : mm_prog 87 4 = some (0, .iload_n 3, 5, []) := by decide +kernel
theorem xe_87_4 (a0 a1 a2 : Option MV) (x : Int) (st : List MV) (μ : MM) (G : MG) : ev 87 4 [a0, a1, a2, some (vI x)] st μ G = ev 87 5 [a0, a1, a2, some (vI x)] (vI x :: st) μ G := ev_stp pg_87_4 rfl
theorem pg_87_5 : mm_prog 87 5 = some (0, .iconst 4, 6, []) := by decide +kernel
theorem xe_87_5 (a0 a1 a2 a3 : Option MV) (st : List MV) (μ : MM) (G : MG) : ev 87 5 [a0, a1, a2, a3] st μ G = ev 87 6 [a0, a1, a2, a3] (vI (4) :: st) μ G := ev_stp pg_87_5 rfl
theorem pg_87_6 : mm_prog 87 6 = some (0, .if_icmp .ge 52, 9, []) := by decide +kernel
theorem xe_87_6 (a0 a1 a2 a3 : Option MV) (x y : Int) (st : List MV) (μ : MM) (G : MG) : ev 87 6 [a0, a1, a2, a3] (vI y :: vI x :: st) μ G = if y ≤ x then ev 87 58 [a0, a1, a2, a3] st μ G else ev 87 9 [a0, a1, a2, a3] st μ G := ev_br (mm_cnd_ge x y) pg_87_6 rfl
theorem pg_87_9 : mm_prog 87 9 = some (0, .iload_n 3, 10, []) := by decide +kernel
theorem xe_87_9 (a0 a1 a2 : Option MV) (x : Int) (st : List MV) (μ : MM) (G : MG) : ev 87 9 [a0, a1, a2, some (vI x)] st μ G = ev 87 10 [a0, a1, a2, some (vI x)] (vI x :: st) μ G := ev_stp pg_87_9 rfl
theorem pg_87_10 : mm_prog 87 10 = some (0, .aload_n 0, 11, []) := by decide +kernel
theorem xe_87_10 (a1 a2 a3 : Option MV) (x : Int) (st : List MV) (μ : MM) (G : MG) : ev 87 10 [some (vR x), a1, a2, a3] st μ G = ev 87 11 [some (vR x), a1, a2, a3] (vR x :: st) μ G := ev_stp pg_87_10 rfl
theorem pg_87_11 : mm_prog 87 11 = some (0, .getfield 22, 14, [8, 3, 0]) := by decide +kernel
theorem xe_87_11 (a0 a1 a2 a3 : Option MV) (x : Int) (st : List MV) (μ : MM) (G : MG) : ev 87 11 [a0, a1, a2, a3] (vR x :: st) μ G = if gk G x = 8 then ev 87 14 [a0, a1, a2, a3] (vI (μ x 3) :: st) μ G else none := ev_if pg_87_11 rfl
theorem pg_87_14 : mm_prog 87 14 = some (0, .if_icmp .ge 38, 17, []) := by decide +kernel
theorem xe_87_14 (a0 a1 a2 a3 : Option MV) (x y : Int) (st : List MV) (μ : MM) (G : MG) : ev 87 14 [a0, a1, a2, a3] (vI y :: vI x :: st) μ G = if y ≤ x then ev 87 52 [a0, a1, a2, a3] st μ G else ev 87 17 [a0, a1, a2, a3] st μ G := ev_br (mm_cnd_ge x y) pg_87_14 rfl
theorem pg_87_17 : mm_prog 87 17 = some (0, .iconst 3, 18, []) := by decide +kernel
theorem xe_87_17 (a0 a1 a2 a3 : Option MV) (st : List MV) (μ : MM) (G : MG) : ev 87 17 [a0, a1, a2, a3] st μ G = ev 87 18 [a0, a1, a2, a3] (vI (3) :: st) μ G := ev_stp pg_87_17 rfl
theorem pg_87_18 : mm_prog 87 18 = some (0, .aload_n 0, 19, []) := by decide +kernel
theorem xe_87_18 (a1 a2 a3 : Option MV) (x : Int) (st : List MV) (μ : MM) (G : MG) : ev 87 18 [some (vR x), a1, a2, a3] st μ G = ev 87 19 [some (vR x), a1, a2, a3] (vR x :: st) μ G := ev_stp pg_87_18 rfl
theorem pg_87_19 : mm_prog 87 19 = some (0, .getfield 15, 22, [8, 1, 2]) := by decide +kernel
theorem xe_87_19 (a0 a1 a2 a3 : Option MV) (x : Int) (st : List MV) (μ : MM) (G : MG) : ev 87 19 [a0, a1, a2, a3] (vR x :: st) μ G = if gk G x = 8 then ev 87 22 [a0, a1, a2, a3] (vR (μ x 1) :: st) μ G else none := ev_if pg_87_19 rfl
theorem pg_87_22 : mm_prog 87 22 = some (0, .iload_n 3, 23, []) := by decide +kernel
theorem xe_87_22 (a0 a1 a2 : Option MV) (x : Int) (st : List MV) (μ : MM) (G : MG) : ev 87 22 [a0, a1, a2, some (vI x)] st μ G = ev 87 23 [a0, a1, a2, some (vI x)] (vI x :: st) μ G := ev_stp pg_87_22 rfl
theorem pg_87_23 : mm_prog 87 23 = some (0, .iaload, 24, []) := by decide +kernel
theorem xe_87_23 (a0 a1 a2 a3 : Option MV) (x y : Int) (st : List MV) (μ : MM) (G : MG) : ev 87 23 [a0, a1, a2, a3] (vI x :: vR y :: st) μ G = if gk G y = 100 ∧ 0 ≤ x ∧ x < gl G y then ev 87 24 [a0, a1, a2, a3] (vI (μ y x) :: st) μ G else none := ev_if pg_87_23 rfl
theorem pg_87_24 : mm_prog 87 24 = some (0, .imul, 25, []) := by decide +kernel
theorem xe_87_24 (a0 a1 a2 a3 : Option MV) (x y : Int) (st : List MV) (μ : MM) (G : MG) : ev 87 24 [a0, a1, a2, a3] (vI y :: vI x :: st) μ G = ev 87 25 [a0, a1, a2, a3] (vI (w32 (x * y)) :: st) μ G := ev_stp pg_87_24 rfl
theorem pg_87_25 : mm_prog 87 25 = some (0, .bipush 8, 27, []) := by decide +kernel
theorem xe_87_25 (a0 a1 a2 a3 : Option MV) (st : List MV) (μ : MM) (G : MG) : ev 87 25 [a0, a1, a2, a3] st μ G = ev 87 27 [a0, a1, a2, a3] (vI (8) :: st) μ G := ev_stp pg_87_25 rfl
theorem pg_87_27 : mm_prog 87 27 = some (0, .iadd, 28, []) := by decide +kernel
theorem xe_87_27 (a0 a1 a2 a3 : Option MV) (x y : Int) (st : List MV) (μ : MM) (G : MG) : ev 87 27 [a0, a1, a2, a3] (vI y :: vI x :: st) μ G = ev 87 28 [a0, a1, a2, a3] (vI (w32 (x + y)) :: st) μ G := ev_stp pg_87_27 rfl
theorem pg_87_28 : mm_prog 87 28 = some (0, .aload_n 1, 29, []) := by decide +kernel
theorem xe_87_28 (a0 a2 a3 : Option MV) (x : Int) (st : List MV) (μ : MM) (G : MG) : ev 87 28 [a0, some (vR x), a2, a3] st μ G = ev 87 29 [a0, some (vR x), a2, a3] (vR x :: st) μ G := ev_stp pg_87_28 rfl
theorem pg_87_29 : mm_prog 87 29 = some (0, .getfield 113, 32, [9, 0, 2]) := by decide +kernel
theorem xe_87_29 (a0 a1 a2 a3 : Option MV) (x : Int) (st : List MV) (μ : MM) (G : MG) : ev 87 29 [a0, a1, a2, a3] (vR x :: st) μ G = if gk G x = 9 then ev 87 32 [a0, a1, a2, a3] (vR (μ x 0) :: st) μ G else none := ev_if pg_87_29 rfl
theorem pg_87_32 : mm_prog 87 32 = some (0, .iload_n 3, 33, []) := by decide +kernel
theorem xe_87_32 (a0 a1 a2 : Option MV) (x : Int) (st : List MV) (μ : MM) (G : MG) : ev 87 32 [a0, a1, a2, some (vI x)] st μ G = ev 87 33 [a0, a1, a2, some (vI x)] (vI x :: st) μ G := ev_stp pg_87_32 rfl
theorem pg_87_33 : mm_prog 87 33 = some (0, .iaload, 34, []) := by decide +kernel
theorem xe_87_33 (a0 a1 a2 a3 : Option MV) (x y : Int) (st : List MV) (μ : MM) (G : MG) : ev 87 33 [a0, a1, a2, a3] (vI x :: vR y :: st) μ G = if gk G y = 100 ∧ 0 ≤ x ∧ x < gl G y then ev 87 34 [a0, a1, a2, a3] (vI (μ y x) :: st) μ G else none := ev_if pg_87_33 rfl
theorem pg_87_34 : mm_prog 87 34 = some (0, .iconst 2, 35, []) := by decide +kernel
theorem xe_87_34 (a0 a1 a2 a3 : Option MV) (st : List MV) (μ : MM) (G : MG) : ev 87 34 [a0, a1, a2, a3] st μ G = ev 87 35 [a0, a1, a2, a3] (vI (2) :: st) μ G := ev_stp pg_87_34 rfl
theorem pg_87_35 : mm_prog 87 35 = some (0, .idiv, 36, []) := by decide +kernel
theorem xe_87_35 (a0 a1 a2 a3 : Option MV) (x y : Int) (st : List MV) (μ : MM) (G : MG) : ev 87 35 [a0, a1, a2, a3] (vI y :: vI x :: st) μ G = if y = 0 then none else ev 87 36 [a0, a1, a2, a3] (vI (mm_div x y) :: st) μ G := ev_no pg_87_35 rfl
theorem pg_87_36 : mm_prog 87 36 = some (0, .iconst 5, 37, []) := by decide +kernel
theorem xe_87_36 (a0 a1 a2 a3 : Option MV) (st : List MV) (μ : MM) (G : MG) : ev 87 36 [a0, a1, a2, a3] st μ G = ev 87 37 [a0, a1, a2, a3] (vI (5) :: st) μ G := ev_stp pg_87_36 rfl
theorem pg_87_37 : mm_prog 87 37 = some (0, .aload_n 0, 38, []) := by decide +kernel
theorem xe_87_37 (a1 a2 a3 : Option MV) (x : Int) (st : List MV) (μ : MM) (G : MG) : ev 87 37 [some (vR x), a1, a2, a3] st μ G = ev 87 38 [some (vR x), a1, a2, a3] (vR x :: st) μ G := ev_stp pg_87_37 rfl
theorem pg_87_38 : mm_prog 87 38 = some (0, .getfield 25, 41, [8, 4, 0]) := by decide +kernel
theorem xe_87_38 (a0 a1 a2 a3 : Option MV) (x : Int) (st : List MV) (μ : MM) (G : MG) : ev 87 38 [a0, a1, a2, a3] (vR x :: st) μ G = if gk G x = 8 then ev 87 41 [a0, a1, a2, a3] (vI (μ x 4) :: st) μ G else none := ev_if pg_87_38 rfl
theorem pg_87_41 : mm_prog 87 41 = some (0, .imul, 42, []) := by decide +kernel
theorem xe_87_41 (a0 a1 a2 a3 : Option MV) (x y : Int) (st : List MV) (μ : MM) (G : MG) : ev 87 41 [a0, a1, a2, a3] (vI y :: vI x :: st) μ G = ev 87 42 [a0, a1, a2, a3] (vI (w32 (x * y)) :: st) μ G := ev_stp pg_87_41 rfl
theorem pg_87_42 : mm_prog 87 42 = some (0, .iadd, 43, []) := by decide +kernel
theorem xe_87_42 (a0 a1 a2 a3 : Option MV) (x y : Int) (st : List MV) (μ : MM) (G : MG) : ev 87 42 [a0, a1, a2, a3] (vI y :: vI x :: st) μ G = ev 87 43 [a0, a1, a2, a3] (vI (w32 (x + y)) :: st) μ G := ev_stp pg_87_42 rfl
theorem pg_87_43 : mm_prog 87 43 = some (0, .if_icmp .ge 9, 46, []) := by decide +kernel
theorem xe_87_43 (a0 a1 a2 a3 : Option MV) (x y : Int) (st : List MV) (μ : MM) (G : MG) : ev 87 43 [a0, a1, a2, a3] (vI y :: vI x :: st) μ G = if y ≤ x then ev 87 52 [a0, a1, a2, a3] st μ G else ev 87 46 [a0, a1, a2, a3] st μ G := ev_br (mm_cnd_ge x y) pg_87_43 rfl
theorem pg_87_46 : mm_prog 87 46 = some (0, .iload_n 2, 47, []) := by decide +kernel
theorem xe_87_46 (a0 a1 a3 : Option MV) (x : Int) (st : List MV) (μ : MM) (G : MG) : ev 87 46 [a0, a1, some (vI x), a3] st μ G = ev 87 47 [a0, a1, some (vI x), a3] (vI x :: st) μ G := ev_stp pg_87_46 rfl
theorem pg_87_47 : mm_prog 87 47 = some (0, .iconst 1, 48, []) := by decide +kernel
theorem xe_87_47 (a0 a1 a2 a3 : Option MV) (st : List MV) (μ : MM) (G : MG) : ev 87 47 [a0, a1, a2, a3] st μ G = ev 87 48 [a0, a1, a2, a3] (vI (1) :: st) μ G := ev_stp pg_87_47 rfl
theorem pg_87_48 : mm_prog 87 48 = some (0, .iload_n 3, 49, []) := by decide +kernel
theorem xe_87_48 (a0 a1 a2 : Option MV) (x : Int) (st : List MV) (μ : MM) (G : MG) : ev 87 48 [a0, a1, a2, some (vI x)] st μ G = ev 87 49 [a0, a1, a2, some (vI x)] (vI x :: st) μ G := ev_stp pg_87_48 rfl
theorem pg_87_49 : mm_prog 87 49 = some (0, .ishl, 50, []) := by decide +kernel
theorem xe_87_49 (a0 a1 a2 a3 : Option MV) (x y : Int) (st : List MV) (μ : MM) (G : MG) : ev 87 49 [a0, a1, a2, a3] (vI y :: vI x :: st) μ G = ev 87 50 [a0, a1, a2, a3] (vI (mm_shl x y) :: st) μ G := ev_stp pg_87_49 rfl
theorem pg_87_50 : mm_prog 87 50 = some (0, .ior, 51, []) := by decide +kernel
theorem xe_87_50 (a0 a1 a2 a3 : Option MV) (x y : Int) (st : List MV) (μ : MM) (G : MG) : ev 87 50 [a0, a1, a2, a3] (vI y :: vI x :: st) μ G = ev 87 51 [a0, a1, a2, a3] (vI (mm_or x y) :: st) μ G := ev_stp pg_87_50 rfl
theorem pg_87_51 : mm_prog 87 51 = some (0, .istore_n 2, 52, []) := by decide +kernel
theorem xe_87_51 (a0 a1 a2 a3 : Option MV) (x : Int) (st : List MV) (μ : MM) (G : MG) (h : mm_nL a1 = true) : ev 87 51 [a0, a1, a2, a3] (vI x :: st) μ G = ev 87 52 [a0, a1, some (vI x), a3] st μ G := ev_st pg_87_51 rfl (mm_nl_of h) (Nat.le_of_ble_eq_true rfl)
theorem pg_87_52 : mm_prog 87 52 = some (0, .iinc 3 1, 55, []) := by decide +kernel
theorem xe_87_52 (a0 a1 a2 : Option MV) (x : Int) (st : List MV) (μ : MM) (G : MG) (h : mm_nL a2 = true) : ev 87 52 [a0, a1, a2, some (vI x)] st μ G = ev 87 55 [a0, a1, a2, some (vI (w32 (x + (1))))] st μ G := ev_st pg_87_52 rfl (mm_nl_of h) (Nat.le_of_ble_eq_true rfl)
theorem pg_87_55 : mm_prog 87 55 = some (0, .goto (-51), 58, []) := by decide +kernel
theorem xe_87_55 (a0 a1 a2 a3 : Option MV) (st : List MV) (μ : MM) (G : MG) : ev 87 55 [a0, a1, a2, a3] st μ G = ev 87 4 [a0, a1, a2, a3] st μ G := ev_stp pg_87_55 rfl
theorem pg_87_58 : mm_prog 87 58 = some (0, .iload_n 2, 59, []) := by decide +kernel
theorem xe_87_58 (a0 a1 a3 : Option MV) (x : Int) (st : List MV) (μ : MM) (G : MG) : ev 87 58 [a0, a1, some (vI x), a3] st μ G = ev 87 59 [a0, a1, some (vI x), a3] (vI x :: st) μ G := ev_stp pg_87_58 rfl
theorem pg_87_59 : mm_prog 87 59 = some (2, .ireturn, 60, [0]) := by decide +kernel
theorem xe_87_59 (a0 a1 a2 a3 : Option MV) (x : Int) (μ : MM) (G : MG) : ev 87 59 [a0, a1, a2, a3] [vI x] μ G = some (some (vI x), μ, G) := ev_ret pg_87_59 rfl
-- X8_fastLanes
theorem pg_88_0 : mm_prog 88 0 = some (0, .iconst 0, 1, []) := by decide +kernel
theorem xe_88_0 (a0 a1 a2 a3 a4 : Option MV) (st : List MV) (μ : MM) (G : MG) : ev 88 0 [a0, a1, a2, a3, a4] st μ G = ev 88 1 [a0, a1, a2, a3, a4] (vI (0) :: st) μ G := ev_stp pg_88_0 rfl
theorem pg_88_1 : mm_prog 88 1 = some (0, .istore_n 3, 2, []) := by decide +kernel
theorem xe_88_1 (a0 a1 a2 a3 a4 : Option MV) (x : Int) (st : List MV) (μ : MM) (G : MG) (h : mm_nL a2 = true) : ev 88 1 [a0, a1, a2, a3, a4] (vI x :: st) μ G = ev 88 2 [a0, a1, a2, some (vI x), a4] st μ G := ev_st pg_88_1 rfl (mm_nl_of h) (Nat.le_of_ble_eq_true rfl)
theorem pg_88_2 : mm_prog 88 2 = some (0, .iconst 0, 3, []) := by decide +kernel
theorem xe_88_2 (a0 a1 a2 a3 a4 : Option MV) (st : List MV) (μ : MM) (G : MG) : ev 88 2 [a0, a1, a2, a3, a4] st μ G = ev 88 3 [a0, a1, a2, a3, a4] (vI (0) :: st) μ G := ev_stp pg_88_2 rfl
theorem pg_88_3 : mm_prog 88 3 = some (0, .istore 4, 5, []) := by decide +kernel
theorem xe_88_3 (a0 a1 a2 a3 a4 : Option MV) (x : Int) (st : List MV) (μ : MM) (G : MG) (h : mm_nL a3 = true) : ev 88 3 [a0, a1, a2, a3, a4] (vI x :: st) μ G = ev 88 5 [a0, a1, a2, a3, some (vI x)] st μ G := ev_st pg_88_3 rfl (mm_nl_of h) (Nat.le_of_ble_eq_true rfl)
theorem pg_88_5 : mm_prog 88 5 = some (0, .iload 4, 7, []) := by decide +kernel
theorem xe_88_5 (a0 a1 a2 a3 : Option MV) (x : Int) (st : List MV) (μ : MM) (G : MG) : ev 88 5 [a0, a1, a2, a3, some (vI x)] st μ G = ev 88 7 [a0, a1, a2, a3, some (vI x)] (vI x :: st) μ G := ev_stp pg_88_5 rfl
theorem pg_88_7 : mm_prog 88 7 = some (0, .iconst 4, 8, []) := by decide +kernel
theorem xe_88_7 (a0 a1 a2 a3 a4 : Option MV) (st : List MV) (μ : MM) (G : MG) : ev 88 7 [a0, a1, a2, a3, a4] st μ G = ev 88 8 [a0, a1, a2, a3, a4] (vI (4) :: st) μ G := ev_stp pg_88_7 rfl
theorem pg_88_8 : mm_prog 88 8 = some (0, .if_icmp .ge 36, 11, []) := by decide +kernel
theorem xe_88_8 (a0 a1 a2 a3 a4 : Option MV) (x y : Int) (st : List MV) (μ : MM) (G : MG) : ev 88 8 [a0, a1, a2, a3, a4] (vI y :: vI x :: st) μ G = if y ≤ x then ev 88 44 [a0, a1, a2, a3, a4] st μ G else ev 88 11 [a0, a1, a2, a3, a4] st μ G := ev_br (mm_cnd_ge x y) pg_88_8 rfl
theorem pg_88_11 : mm_prog 88 11 = some (0, .iload 4, 13, []) := by decide +kernel
theorem xe_88_11 (a0 a1 a2 a3 : Option MV) (x : Int) (st : List MV) (μ : MM) (G : MG) : ev 88 11 [a0, a1, a2, a3, some (vI x)] st μ G = ev 88 13 [a0, a1, a2, a3, some (vI x)] (vI x :: st) μ G := ev_stp pg_88_11 rfl
theorem pg_88_13 : mm_prog 88 13 = some (0, .aload_n 0, 14, []) := by decide +kernel
theorem xe_88_13 (a1 a2 a3 a4 : Option MV) (x : Int) (st : List MV) (μ : MM) (G : MG) : ev 88 13 [some (vR x), a1, a2, a3, a4] st μ G = ev 88 14 [some (vR x), a1, a2, a3, a4] (vR x :: st) μ G := ev_stp pg_88_13 rfl
theorem pg_88_14 : mm_prog 88 14 = some (0, .getfield 22, 17, [8, 3, 0]) := by decide +kernel
theorem xe_88_14 (a0 a1 a2 a3 a4 : Option MV) (x : Int) (st : List MV) (μ : MM) (G : MG) : ev 88 14 [a0, a1, a2, a3, a4] (vR x :: st) μ G = if gk G x = 8 then ev 88 17 [a0, a1, a2, a3, a4] (vI (μ x 3) :: st) μ G else none := ev_if pg_88_14 rfl
theorem pg_88_17 : mm_prog 88 17 = some (0, .if_icmp .ge 21, 20, []) := by decide +kernel
theorem xe_88_17 (a0 a1 a2 a3 a4 : Option MV) (x y : Int) (st : List MV) (μ : MM) (G : MG) : ev 88 17 [a0, a1, a2, a3, a4] (vI y :: vI x :: st) μ G = if y ≤ x then ev 88 38 [a0, a1, a2, a3, a4] st μ G else ev 88 20 [a0, a1, a2, a3, a4] st μ G := ev_br (mm_cnd_ge x y) pg_88_17 rfl
theorem pg_88_20 : mm_prog 88 20 = some (0, .iload_n 2, 21, []) := by decide +kernel
theorem xe_88_20 (a0 a1 a3 a4 : Option MV) (x : Int) (st : List MV) (μ : MM) (G : MG) : ev 88 20 [a0, a1, some (vI x), a3, a4] st μ G = ev 88 21 [a0, a1, some (vI x), a3, a4] (vI x :: st) μ G := ev_stp pg_88_20 rfl
theorem pg_88_21 : mm_prog 88 21 = some (0, .aload_n 1, 22, []) := by decide +kernel
theorem xe_88_21 (a0 a2 a3 a4 : Option MV) (x : Int) (st : List MV) (μ : MM) (G : MG) : ev 88 21 [a0, some (vR x), a2, a3, a4] st μ G = ev 88 22 [a0, some (vR x), a2, a3, a4] (vR x :: st) μ G := ev_stp pg_88_21 rfl
theorem pg_88_22 : mm_prog 88 22 = some (0, .getfield 116, 25, [9, 1, 2]) := by decide +kernel
theorem xe_88_22 (a0 a1 a2 a3 a4 : Option MV) (x : Int) (st : List MV) (μ : MM) (G : MG) : ev 88 22 [a0, a1, a2, a3, a4] (vR x :: st) μ G = if gk G x = 9 then ev 88 25 [a0, a1, a2, a3, a4] (vR (μ x 1) :: st) μ G else none := ev_if pg_88_22 rfl
theorem pg_88_25 : mm_prog 88 25 = some (0, .iload 4, 27, []) := by decide +kernel
theorem xe_88_25 (a0 a1 a2 a3 : Option MV) (x : Int) (st : List MV) (μ : MM) (G : MG) : ev 88 25 [a0, a1, a2, a3, some (vI x)] st μ G = ev 88 27 [a0, a1, a2, a3, some (vI x)] (vI x :: st) μ G := ev_stp pg_88_25 rfl
theorem pg_88_27 : mm_prog 88 27 = some (0, .iaload, 28, []) := by decide +kernel
theorem xe_88_27 (a0 a1 a2 a3 a4 : Option MV) (x y : Int) (st : List MV) (μ : MM) (G : MG) : ev 88 27 [a0, a1, a2, a3, a4] (vI x :: vR y :: st) μ G = if gk G y = 100 ∧ 0 ≤ x ∧ x < gl G y then ev 88 28 [a0, a1, a2, a3, a4] (vI (μ y x) :: st) μ G else none := ev_if pg_88_27 rfl
theorem pg_88_28 : mm_prog 88 28 = some (0, .if_icmp .le 10, 31, []) := by decide +kernel
theorem xe_88_28 (a0 a1 a2 a3 a4 : Option MV) (x y : Int) (st : List MV) (μ : MM) (G : MG) : ev 88 28 [a0, a1, a2, a3, a4] (vI y :: vI x :: st) μ G = if x ≤ y then ev 88 38 [a0, a1, a2, a3, a4] st μ G else ev 88 31 [a0, a1, a2, a3, a4] st μ G := ev_br (mm_cnd_le x y) pg_88_28 rfl
theorem pg_88_31 : mm_prog 88 31 = some (0, .iload_n 3, 32, []) := by decide +kernel
theorem xe_88_31 (a0 a1 a2 a4 : Option MV) (x : Int) (st : List MV) (μ : MM) (G : MG) : ev 88 31 [a0, a1, a2, some (vI x), a4] st μ G = ev 88 32 [a0, a1, a2, some (vI x), a4] (vI x :: st) μ G := ev_stp pg_88_31 rfl
theorem pg_88_32 : mm_prog 88 32 = some (0, .iconst 1, 33, []) := by decide +kernel
theorem xe_88_32 (a0 a1 a2 a3 a4 : Option MV) (st : List MV) (μ : MM) (G : MG) : ev 88 32 [a0, a1, a2, a3, a4] st μ G = ev 88 33 [a0, a1, a2, a3, a4] (vI (1) :: st) μ G := ev_stp pg_88_32 rfl
theorem pg_88_33 : mm_prog 88 33 = some (0, .iload 4, 35, []) := by decide +kernel
theorem xe_88_33 (a0 a1 a2 a3 : Option MV) (x : Int) (st : List MV) (μ : MM) (G : MG) : ev 88 33 [a0, a1, a2, a3, some (vI x)] st μ G = ev 88 35 [a0, a1, a2, a3, some (vI x)] (vI x :: st) μ G := ev_stp pg_88_33 rfl
theorem pg_88_35 : mm_prog 88 35 = some (0, .ishl, 36, []) := by decide +kernel
theorem xe_88_35 (a0 a1 a2 a3 a4 : Option MV) (x y : Int) (st : List MV) (μ : MM) (G : MG) : ev 88 35 [a0, a1, a2, a3, a4] (vI y :: vI x :: st) μ G = ev 88 36 [a0, a1, a2, a3, a4] (vI (mm_shl x y) :: st) μ G := ev_stp pg_88_35 rfl
theorem pg_88_36 : mm_prog 88 36 = some (0, .ior, 37, []) := by decide +kernel
theorem xe_88_36 (a0 a1 a2 a3 a4 : Option MV) (x y : Int) (st : List MV) (μ : MM) (G : MG) : ev 88 36 [a0, a1, a2, a3, a4] (vI y :: vI x :: st) μ G = ev 88 37 [a0, a1, a2, a3, a4] (vI (mm_or x y) :: st) μ G := ev_stp pg_88_36 rfl
theorem pg_88_37 : mm_prog 88 37 = some (0, .istore_n 3, 38, []) := by decide +kernel
theorem xe_88_37 (a0 a1 a2 a3 a4 : Option MV) (x : Int) (st : List MV) (μ : MM) (G : MG) (h : mm_nL a2 = true) : ev 88 37 [a0, a1, a2, a3, a4] (vI x :: st) μ G = ev 88 38 [a0, a1, a2, some (vI x), a4] st μ G := ev_st pg_88_37 rfl (mm_nl_of h) (Nat.le_of_ble_eq_true rfl)
theorem pg_88_38 : mm_prog 88 38 = some (0, .iinc 4 1, 41, []) := by decide +kernel
theorem xe_88_38 (a0 a1 a2 a3 : Option MV) (x : Int) (st : List MV) (μ : MM) (G : MG) (h : mm_nL a3 = true) : ev 88 38 [a0, a1, a2, a3, some (vI x)] st μ G = ev 88 41 [a0, a1, a2, a3, some (vI (w32 (x + (1))))] st μ G := ev_st pg_88_38 rfl (mm_nl_of h) (Nat.le_of_ble_eq_true rfl)
theorem pg_88_41 : mm_prog 88 41 = some (0, .goto (-36), 44, []) := by decide +kernel
theorem xe_88_41 (a0 a1 a2 a3 a4 : Option MV) (st : List MV) (μ : MM) (G : MG) : ev 88 41 [a0, a1, a2, a3, a4] st μ G = ev 88 5 [a0, a1, a2, a3, a4] st μ G := ev_stp pg_88_41 rfl
theorem pg_88_44 : mm_prog 88 44 = some (0, .iload_n 3, 45, []) := by decide +kernel
theorem xe_88_44 (a0 a1 a2 a4 : Option MV) (x : Int) (st : List MV) (μ : MM) (G : MG) : ev 88 44 [a0, a1, a2, some (vI x), a4] st μ G = ev 88 45 [a0, a1, a2, some (vI x), a4] (vI x :: st) μ G := ev_stp pg_88_44 rfl
theorem pg_88_45 : mm_prog 88 45 = some (2, .ireturn, 46, [0]) := by decide +kernel
theorem xe_88_45 (a0 a1 a2 a3 a4 : Option MV) (x : Int) (μ : MM) (G : MG) : ev 88 45 [a0, a1, a2, a3, a4] [vI x] μ G = some (some (vI x), μ, G) := ev_ret pg_88_45 rfl
-- X8_isOneAtTop
theorem pg_89_0 : mm_prog 89 0 = some (0, .iconst 0, 1, []) := by decide +kernel
theorem xe_89_0 (a0 a1 a2 : Option MV) (st : List MV) (μ : MM) (G : MG) : ev 89 0 [a0, a1, a2] st μ G = ev 89 1 [a0, a1, a2] (vI (0) :: st) μ G := ev_stp pg_89_0 rfl
theorem pg_89_1 : mm_prog 89 1 = some (0, .istore_n 2, 2, []) := by decide +kernel
theorem xe_89_1 (a0 a1 a2 : Option MV) (x : Int) (st : List MV) (μ : MM) (G : MG) (h : mm_nL a1 = true) : ev 89 1 [a0, a1, a2] (vI x :: st) μ G = ev 89 2 [a0, a1, some (vI x)] st μ G := ev_st pg_89_1 rfl (mm_nl_of h) (Nat.le_of_ble_eq_true rfl)
theorem pg_89_2 : mm_prog 89 2 = some (0, .iload_n 2, 3, []) := by decide +kernel
theorem xe_89_2 (a0 a1 : Option MV) (x : Int) (st : List MV) (μ : MM) (G : MG) : ev 89 2 [a0, a1, some (vI x)] st μ G = ev 89 3 [a0, a1, some (vI x)] (vI x :: st) μ G := ev_stp pg_89_2 rfl
theorem pg_89_3 : mm_prog 89 3 = some (0, .aload_n 0, 4, []) := by decide +kernel
theorem xe_89_3 (a1 a2 : Option MV) (x : Int) (st : List MV) (μ : MM) (G : MG) : ev 89 3 [some (vR x), a1, a2] st μ G = ev 89 4 [some (vR x), a1, a2] (vR x :: st) μ G := ev_stp pg_89_3 rfl
theorem pg_89_4 : mm_prog 89 4 = some (0, .arraylength, 5, []) := by decide +kernel
theorem xe_89_4 (a0 a1 a2 : Option MV) (x : Int) (st : List MV) (μ : MM) (G : MG) : ev 89 4 [a0, a1, a2] (vR x :: st) μ G = if 100 ≤ gk G x then ev 89 5 [a0, a1, a2] (vI (gl G x) :: st) μ G else none := ev_if pg_89_4 rfl
theorem pg_89_5 : mm_prog 89 5 = some (0, .if_icmp .ge 26, 8, []) := by decide +kernel
theorem xe_89_5 (a0 a1 a2 : Option MV) (x y : Int) (st : List MV) (μ : MM) (G : MG) : ev 89 5 [a0, a1, a2] (vI y :: vI x :: st) μ G = if y ≤ x then ev 89 31 [a0, a1, a2] st μ G else ev 89 8 [a0, a1, a2] st μ G := ev_br (mm_cnd_ge x y) pg_89_5 rfl
theorem pg_89_8 : mm_prog 89 8 = some (0, .iload_n 1, 9, []) := by decide +kernel
theorem xe_89_8 (a0 a2 : Option MV) (x : Int) (st : List MV) (μ : MM) (G : MG) : ev 89 8 [a0, some (vI x), a2] st μ G = ev 89 9 [a0, some (vI x), a2] (vI x :: st) μ G := ev_stp pg_89_8 rfl
theorem pg_89_9 : mm_prog 89 9 = some (0, .iload_n 2, 10, []) := by decide +kernel
theorem xe_89_9 (a0 a1 : Option MV) (x : Int) (st : List MV) (μ : MM) (G : MG) : ev 89 9 [a0, a1, some (vI x)] st μ G = ev 89 10 [a0, a1, some (vI x)] (vI x :: st) μ G := ev_stp pg_89_9 rfl
theorem pg_89_10 : mm_prog 89 10 = some (0, .ishr, 11, []) := by decide +kernel
theorem xe_89_10 (a0 a1 a2 : Option MV) (x y : Int) (st : List MV) (μ : MM) (G : MG) : ev 89 10 [a0, a1, a2] (vI y :: vI x :: st) μ G = ev 89 11 [a0, a1, a2] (vI (mm_shr x y) :: st) μ G := ev_stp pg_89_10 rfl
theorem pg_89_11 : mm_prog 89 11 = some (0, .iconst 1, 12, []) := by decide +kernel
theorem xe_89_11 (a0 a1 a2 : Option MV) (st : List MV) (μ : MM) (G : MG) : ev 89 11 [a0, a1, a2] st μ G = ev 89 12 [a0, a1, a2] (vI (1) :: st) μ G := ev_stp pg_89_11 rfl
theorem pg_89_12 : mm_prog 89 12 = some (0, .iand, 13, []) := by decide +kernel
theorem xe_89_12 (a0 a1 a2 : Option MV) (x y : Int) (st : List MV) (μ : MM) (G : MG) : ev 89 12 [a0, a1, a2] (vI y :: vI x :: st) μ G = ev 89 13 [a0, a1, a2] (vI (mm_and x y) :: st) μ G := ev_stp pg_89_12 rfl
theorem pg_89_13 : mm_prog 89 13 = some (0, .ifCond .eq 12, 16, []) := by decide +kernel
theorem xe_89_13 (a0 a1 a2 : Option MV) (x : Int) (st : List MV) (μ : MM) (G : MG) : ev 89 13 [a0, a1, a2] (vI x :: st) μ G = if x = 0 then ev 89 25 [a0, a1, a2] st μ G else ev 89 16 [a0, a1, a2] st μ G := ev_br (mm_cnd_eq x 0) pg_89_13 rfl
theorem pg_89_16 : mm_prog 89 16 = some (0, .aload_n 0, 17, []) := by decide +kernel
theorem xe_89_16 (a1 a2 : Option MV) (x : Int) (st : List MV) (μ : MM) (G : MG) : ev 89 16 [some (vR x), a1, a2] st μ G = ev 89 17 [some (vR x), a1, a2] (vR x :: st) μ G := ev_stp pg_89_16 rfl
theorem pg_89_17 : mm_prog 89 17 = some (0, .iload_n 2, 18, []) := by decide +kernel
theorem xe_89_17 (a0 a1 : Option MV) (x : Int) (st : List MV) (μ : MM) (G : MG) : ev 89 17 [a0, a1, some (vI x)] st μ G = ev 89 18 [a0, a1, some (vI x)] (vI x :: st) μ G := ev_stp pg_89_17 rfl
theorem pg_89_18 : mm_prog 89 18 = some (0, .iaload, 19, []) := by decide +kernel
theorem xe_89_18 (a0 a1 a2 : Option MV) (x y : Int) (st : List MV) (μ : MM) (G : MG) : ev 89 18 [a0, a1, a2] (vI x :: vR y :: st) μ G = if gk G y = 100 ∧ 0 ≤ x ∧ x < gl G y then ev 89 19 [a0, a1, a2] (vI (μ y x) :: st) μ G else none := ev_if pg_89_18 rfl
theorem pg_89_19 : mm_prog 89 19 = some (0, .iconst 3, 20, []) := by decide +kernel
theorem xe_89_19 (a0 a1 a2 : Option MV) (st : List MV) (μ : MM) (G : MG) : ev 89 19 [a0, a1, a2] st μ G = ev 89 20 [a0, a1, a2] (vI (3) :: st) μ G := ev_stp pg_89_19 rfl
theorem pg_89_20 : mm_prog 89 20 = some (0, .if_icmp .lt 5, 23, []) := by decide +kernel
theorem xe_89_20 (a0 a1 a2 : Option MV) (x y : Int) (st : List MV) (μ : MM) (G : MG) : ev 89 20 [a0, a1, a2] (vI y :: vI x :: st) μ G = if x < y then ev 89 25 [a0, a1, a2] st μ G else ev 89 23 [a0, a1, a2] st μ G := ev_br (mm_cnd_lt x y) pg_89_20 rfl
theorem pg_89_23 : mm_prog 89 23 = some (0, .iconst 1, 24, []) := by decide +kernel
theorem xe_89_23 (a0 a1 a2 : Option MV) (st : List MV) (μ : MM) (G : MG) : ev 89 23 [a0, a1, a2] st μ G = ev 89 24 [a0, a1, a2] (vI (1) :: st) μ G := ev_stp pg_89_23 rfl
theorem pg_89_24 : mm_prog 89 24 = some (2, .ireturn, 25, [1]) := by decide +kernel
theorem xe_89_24 (a0 a1 a2 : Option MV) (x : Int) (μ : MM) (G : MG) : ev 89 24 [a0, a1, a2] [vI x] μ G = if x = 0 ∨ x = 1 then some (some (vI x), μ, G) else none := ev_retB pg_89_24
theorem pg_89_25 : mm_prog 89 25 = some (0, .iinc 2 1, 28, []) := by decide +kernel
theorem xe_89_25 (a0 a1 : Option MV) (x : Int) (st : List MV) (μ : MM) (G : MG) (h : mm_nL a1 = true) : ev 89 25 [a0, a1, some (vI x)] st μ G = ev 89 28 [a0, a1, some (vI (w32 (x + (1))))] st μ G := ev_st pg_89_25 rfl (mm_nl_of h) (Nat.le_of_ble_eq_true rfl)
theorem pg_89_28 : mm_prog 89 28 = some (0, .goto (-26), 31, []) := by decide +kernel
theorem xe_89_28 (a0 a1 a2 : Option MV) (st : List MV) (μ : MM) (G : MG) : ev 89 28 [a0, a1, a2] st μ G = ev 89 2 [a0, a1, a2] st μ G := ev_stp pg_89_28 rfl
theorem pg_89_31 : mm_prog 89 31 = some (0, .iconst 0, 32, []) := by decide +kernel
theorem xe_89_31 (a0 a1 a2 : Option MV) (st : List MV) (μ : MM) (G : MG) : ev 89 31 [a0, a1, a2] st μ G = ev 89 32 [a0, a1, a2] (vI (0) :: st) μ G := ev_stp pg_89_31 rfl
theorem pg_89_32 : mm_prog 89 32 = some (2, .ireturn, 33, [1]) := by decide +kernel
theorem xe_89_32 (a0 a1 a2 : Option MV) (x : Int) (μ : MM) (G : MG) : ev 89 32 [a0, a1, a2] [vI x] μ G = if x = 0 ∨ x = 1 then some (some (vI x), μ, G) else none := ev_retB pg_89_32
-- X8_raise
theorem pg_90_0 : mm_prog 90 0 = some (0, .iconst 0, 1, []) := by decide +kernel
theorem xe_90_0 (a0 a1 a2 : Option MV) (st : List MV) (μ : MM) (G : MG) : ev 90 0 [a0, a1, a2] st μ G = ev 90 1 [a0, a1, a2] (vI (0) :: st) μ G := ev_stp pg_90_0 rfl
theorem pg_90_1 : mm_prog 90 1 = some (0, .istore_n 2, 2, []) := by decide +kernel
theorem xe_90_1 (a0 a1 a2 : Option MV) (x : Int) (st : List MV) (μ : MM) (G : MG) (h : mm_nL a1 = true) : ev 90 1 [a0, a1, a2] (vI x :: st) μ G = ev 90 2 [a0, a1, some (vI x)] st μ G := ev_st pg_90_1 rfl (mm_nl_of h) (Nat.le_of_ble_eq_true rfl)
theorem pg_90_2 : mm_prog 90 2 = some (0, .iload_n 2, 3, []) := by decide +kernel
theorem xe_90_2 (a0 a1 : Option MV) (x : Int) (st : List MV) (μ : MM) (G : MG) : ev 90 2 [a0, a1, some (vI x)] st μ G = ev 90 3 [a0, a1, some (vI x)] (vI x :: st) μ G := ev_stp pg_90_2 rfl
theorem pg_90_3 : mm_prog 90 3 = some (0, .aload_n 0, 4, []) := by decide +kernel
theorem xe_90_3 (a1 a2 : Option MV) (x : Int) (st : List MV) (μ : MM) (G : MG) : ev 90 3 [some (vR x), a1, a2] st μ G = ev 90 4 [some (vR x), a1, a2] (vR x :: st) μ G := ev_stp pg_90_3 rfl
theorem pg_90_4 : mm_prog 90 4 = some (0, .arraylength, 5, []) := by decide +kernel
theorem xe_90_4 (a0 a1 a2 : Option MV) (x : Int) (st : List MV) (μ : MM) (G : MG) : ev 90 4 [a0, a1, a2] (vR x :: st) μ G = if 100 ≤ gk G x then ev 90 5 [a0, a1, a2] (vI (gl G x) :: st) μ G else none := ev_if pg_90_4 rfl
theorem pg_90_5 : mm_prog 90 5 = some (0, .if_icmp .ge 20, 8, []) := by decide +kernel
theorem xe_90_5 (a0 a1 a2 : Option MV) (x y : Int) (st : List MV) (μ : MM) (G : MG) : ev 90 5 [a0, a1, a2] (vI y :: vI x :: st) μ G = if y ≤ x then ev 90 25 [a0, a1, a2] st μ G else ev 90 8 [a0, a1, a2] st μ G := ev_br (mm_cnd_ge x y) pg_90_5 rfl
theorem pg_90_8 : mm_prog 90 8 = some (0, .aload_n 0, 9, []) := by decide +kernel
theorem xe_90_8 (a1 a2 : Option MV) (x : Int) (st : List MV) (μ : MM) (G : MG) : ev 90 8 [some (vR x), a1, a2] st μ G = ev 90 9 [some (vR x), a1, a2] (vR x :: st) μ G := ev_stp pg_90_8 rfl
theorem pg_90_9 : mm_prog 90 9 = some (0, .iload_n 2, 10, []) := by decide +kernel
theorem xe_90_9 (a0 a1 : Option MV) (x : Int) (st : List MV) (μ : MM) (G : MG) : ev 90 9 [a0, a1, some (vI x)] st μ G = ev 90 10 [a0, a1, some (vI x)] (vI x :: st) μ G := ev_stp pg_90_9 rfl
theorem pg_90_10 : mm_prog 90 10 = some (0, .dup2, 11, []) := by decide +kernel
theorem xe_90_10 (a0 a1 a2 : Option MV) (x y : Int) (st : List MV) (μ : MM) (G : MG) : ev 90 10 [a0, a1, a2] (vI x :: vR y :: st) μ G = ev 90 11 [a0, a1, a2] (vI x :: vR y :: vI x :: vR y :: st) μ G := ev_stp pg_90_10 rfl
theorem pg_90_11 : mm_prog 90 11 = some (0, .iaload, 12, []) := by decide +kernel
theorem xe_90_11 (a0 a1 a2 : Option MV) (x y : Int) (st : List MV) (μ : MM) (G : MG) : ev 90 11 [a0, a1, a2] (vI x :: vR y :: st) μ G = if gk G y = 100 ∧ 0 ≤ x ∧ x < gl G y then ev 90 12 [a0, a1, a2] (vI (μ y x) :: st) μ G else none := ev_if pg_90_11 rfl
theorem pg_90_12 : mm_prog 90 12 = some (0, .iload_n 1, 13, []) := by decide +kernel
theorem xe_90_12 (a0 a2 : Option MV) (x : Int) (st : List MV) (μ : MM) (G : MG) : ev 90 12 [a0, some (vI x), a2] st μ G = ev 90 13 [a0, some (vI x), a2] (vI x :: st) μ G := ev_stp pg_90_12 rfl
theorem pg_90_13 : mm_prog 90 13 = some (0, .iload_n 2, 14, []) := by decide +kernel
theorem xe_90_13 (a0 a1 : Option MV) (x : Int) (st : List MV) (μ : MM) (G : MG) : ev 90 13 [a0, a1, some (vI x)] st μ G = ev 90 14 [a0, a1, some (vI x)] (vI x :: st) μ G := ev_stp pg_90_13 rfl
theorem pg_90_14 : mm_prog 90 14 = some (0, .ishr, 15, []) := by decide +kernel
theorem xe_90_14 (a0 a1 a2 : Option MV) (x y : Int) (st : List MV) (μ : MM) (G : MG) : ev 90 14 [a0, a1, a2] (vI y :: vI x :: st) μ G = ev 90 15 [a0, a1, a2] (vI (mm_shr x y) :: st) μ G := ev_stp pg_90_14 rfl
theorem pg_90_15 : mm_prog 90 15 = some (0, .iconst 1, 16, []) := by decide +kernel
theorem xe_90_15 (a0 a1 a2 : Option MV) (st : List MV) (μ : MM) (G : MG) : ev 90 15 [a0, a1, a2] st μ G = ev 90 16 [a0, a1, a2] (vI (1) :: st) μ G := ev_stp pg_90_15 rfl
theorem pg_90_16 : mm_prog 90 16 = some (0, .iand, 17, []) := by decide +kernel
theorem xe_90_16 (a0 a1 a2 : Option MV) (x y : Int) (st : List MV) (μ : MM) (G : MG) : ev 90 16 [a0, a1, a2] (vI y :: vI x :: st) μ G = ev 90 17 [a0, a1, a2] (vI (mm_and x y) :: st) μ G := ev_stp pg_90_16 rfl
theorem pg_90_17 : mm_prog 90 17 = some (0, .iadd, 18, []) := by decide +kernel
theorem xe_90_17 (a0 a1 a2 : Option MV) (x y : Int) (st : List MV) (μ : MM) (G : MG) : ev 90 17 [a0, a1, a2] (vI y :: vI x :: st) μ G = ev 90 18 [a0, a1, a2] (vI (w32 (x + y)) :: st) μ G := ev_stp pg_90_17 rfl
theorem pg_90_18 : mm_prog 90 18 = some (0, .iastore, 19, []) := by decide +kernel
theorem xe_90_18 (a0 a1 a2 : Option MV) (x y z : Int) (st : List MV) (μ : MM) (G : MG) : ev 90 18 [a0, a1, a2] (vI x :: vI y :: vR z :: st) μ G = if gk G z = 100 ∧ 0 ≤ y ∧ y < gl G z ∧ 10 ≤ z then ev 90 19 [a0, a1, a2] st (mset μ z y x) G else none := ev_if pg_90_18 rfl
theorem pg_90_19 : mm_prog 90 19 = some (0, .iinc 2 1, 22, []) := by decide +kernel
theorem xe_90_19 (a0 a1 : Option MV) (x : Int) (st : List MV) (μ : MM) (G : MG) (h : mm_nL a1 = true) : ev 90 19 [a0, a1, some (vI x)] st μ G = ev 90 22 [a0, a1, some (vI (w32 (x + (1))))] st μ G := ev_st pg_90_19 rfl (mm_nl_of h) (Nat.le_of_ble_eq_true rfl)
theorem pg_90_22 : mm_prog 90 22 = some (0, .goto (-20), 25, []) := by decide +kernel
theorem xe_90_22 (a0 a1 a2 : Option MV) (st : List MV) (μ : MM) (G : MG) : ev 90 22 [a0, a1, a2] st μ G = ev 90 2 [a0, a1, a2] st μ G := ev_stp pg_90_22 rfl
theorem pg_90_25 : mm_prog 90 25 = some (2, .return_, 26, []) := by decide +kernel
theorem xe_90_25 (a0 a1 a2 : Option MV) (μ : MM) (G : MG) : ev 90 25 [a0, a1, a2] [] μ G = some (none, μ, G) := ev_ret pg_90_25 rfl
-- X8_easeSwing
theorem pg_91_0 : mm_prog 91 0 = some (0, .iconst 0, 1, []) := by decide +kernel
theorem xe_91_0 (a0 a1 a2 : Option MV) (st : List MV) (μ : MM) (G : MG) : ev 91 0 [a0, a1, a2] st μ G = ev 91 1 [a0, a1, a2] (vI (0) :: st) μ G := ev_stp pg_91_0 rfl
theorem pg_91_1 : mm_prog 91 1 = some (0, .istore_n 2, 2, []) := by decide +kernel
theorem xe_91_1 (a0 a1 a2 : Option MV) (x : Int) (st : List MV) (μ : MM) (G : MG) (h : mm_nL a1 = true) : ev 91 1 [a0, a1, a2] (vI x :: st) μ G = ev 91 2 [a0, a1, some (vI x)] st μ G := ev_st pg_91_1 rfl (mm_nl_of h) (Nat.le_of_ble_eq_true rfl)
theorem pg_91_2 : mm_prog 91 2 = some (0, .iload_n 2, 3, []) := by decide +kernel
theorem xe_91_2 (a0 a1 : Option MV) (x : Int) (st : List MV) (μ : MM) (G : MG) : ev 91 2 [a0, a1, some (vI x)] st μ G = ev 91 3 [a0, a1, some (vI x)] (vI x :: st) μ G := ev_stp pg_91_2 rfl
theorem pg_91_3 : mm_prog 91 3 = some (0, .iconst 4, 4, []) := by decide +kernel
theorem xe_91_3 (a0 a1 a2 : Option MV) (st : List MV) (μ : MM) (G : MG) : ev 91 3 [a0, a1, a2] st μ G = ev 91 4 [a0, a1, a2] (vI (4) :: st) μ G := ev_stp pg_91_3 rfl
theorem pg_91_4 : mm_prog 91 4 = some (0, .if_icmp .ge 44, 7, []) := by decide +kernel
theorem xe_91_4 (a0 a1 a2 : Option MV) (x y : Int) (st : List MV) (μ : MM) (G : MG) : ev 91 4 [a0, a1, a2] (vI y :: vI x :: st) μ G = if y ≤ x then ev 91 48 [a0, a1, a2] st μ G else ev 91 7 [a0, a1, a2] st μ G := ev_br (mm_cnd_ge x y) pg_91_4 rfl
theorem pg_91_7 : mm_prog 91 7 = some (0, .iload_n 1, 8, []) := by decide +kernel
theorem xe_91_7 (a0 a2 : Option MV) (x : Int) (st : List MV) (μ : MM) (G : MG) : ev 91 7 [a0, some (vI x), a2] st μ G = ev 91 8 [a0, some (vI x), a2] (vI x :: st) μ G := ev_stp pg_91_7 rfl
theorem pg_91_8 : mm_prog 91 8 = some (0, .iload_n 2, 9, []) := by decide +kernel
theorem xe_91_8 (a0 a1 : Option MV) (x : Int) (st : List MV) (μ : MM) (G : MG) : ev 91 8 [a0, a1, some (vI x)] st μ G = ev 91 9 [a0, a1, some (vI x)] (vI x :: st) μ G := ev_stp pg_91_8 rfl
theorem pg_91_9 : mm_prog 91 9 = some (0, .ishr, 10, []) := by decide +kernel
theorem xe_91_9 (a0 a1 a2 : Option MV) (x y : Int) (st : List MV) (μ : MM) (G : MG) : ev 91 9 [a0, a1, a2] (vI y :: vI x :: st) μ G = ev 91 10 [a0, a1, a2] (vI (mm_shr x y) :: st) μ G := ev_stp pg_91_9 rfl
theorem pg_91_10 : mm_prog 91 10 = some (0, .iconst 1, 11, []) := by decide +kernel
theorem xe_91_10 (a0 a1 a2 : Option MV) (st : List MV) (μ : MM) (G : MG) : ev 91 10 [a0, a1, a2] st μ G = ev 91 11 [a0, a1, a2] (vI (1) :: st) μ G := ev_stp pg_91_10 rfl
theorem pg_91_11 : mm_prog 91 11 = some (0, .iand, 12, []) := by decide +kernel
theorem xe_91_11 (a0 a1 a2 : Option MV) (x y : Int) (st : List MV) (μ : MM) (G : MG) : ev 91 11 [a0, a1, a2] (vI y :: vI x :: st) μ G = ev 91 12 [a0, a1, a2] (vI (mm_and x y) :: st) μ G := ev_stp pg_91_11 rfl
theorem pg_91_12 : mm_prog 91 12 = some (0, .ifCond .eq 30, 15, []) := by decide +kernel
theorem xe_91_12 (a0 a1 a2 : Option MV) (x : Int) (st : List MV) (μ : MM) (G : MG) : ev 91 12 [a0, a1, a2] (vI x :: st) μ G = if x = 0 then ev 91 42 [a0, a1, a2] st μ G else ev 91 15 [a0, a1, a2] st μ G := ev_br (mm_cnd_eq x 0) pg_91_12 rfl
theorem pg_91_15 : mm_prog 91 15 = some (0, .aload_n 0, 16, []) := by decide +kernel
theorem xe_91_15 (a1 a2 : Option MV) (x : Int) (st : List MV) (μ : MM) (G : MG) : ev 91 15 [some (vR x), a1, a2] st μ G = ev 91 16 [some (vR x), a1, a2] (vR x :: st) μ G := ev_stp pg_91_15 rfl
theorem pg_91_16 : mm_prog 91 16 = some (0, .getfield 9, 19, [8, 0, 2]) := by decide +kernel
theorem xe_91_16 (a0 a1 a2 : Option MV) (x : Int) (st : List MV) (μ : MM) (G : MG) : ev 91 16 [a0, a1, a2] (vR x :: st) μ G = if gk G x = 8 then ev 91 19 [a0, a1, a2] (vR (μ x 0) :: st) μ G else none := ev_if pg_91_16 rfl
theorem pg_91_19 : mm_prog 91 19 = some (0, .iload_n 2, 20, []) := by decide +kernel
theorem xe_91_19 (a0 a1 : Option MV) (x : Int) (st : List MV) (μ : MM) (G : MG) : ev 91 19 [a0, a1, some (vI x)] st μ G = ev 91 20 [a0, a1, some (vI x)] (vI x :: st) μ G := ev_stp pg_91_19 rfl
theorem pg_91_20 : mm_prog 91 20 = some (0, .iaload, 21, []) := by decide +kernel
theorem xe_91_20 (a0 a1 a2 : Option MV) (x y : Int) (st : List MV) (μ : MM) (G : MG) : ev 91 20 [a0, a1, a2] (vI x :: vR y :: st) μ G = if gk G y = 100 ∧ 0 ≤ x ∧ x < gl G y then ev 91 21 [a0, a1, a2] (vI (μ y x) :: st) μ G else none := ev_if pg_91_20 rfl
theorem pg_91_21 : mm_prog 91 21 = some (0, .aload_n 0, 22, []) := by decide +kernel
theorem xe_91_21 (a1 a2 : Option MV) (x : Int) (st : List MV) (μ : MM) (G : MG) : ev 91 21 [some (vR x), a1, a2] st μ G = ev 91 22 [some (vR x), a1, a2] (vR x :: st) μ G := ev_stp pg_91_21 rfl
theorem pg_91_22 : mm_prog 91 22 = some (0, .getfield 15, 25, [8, 1, 2]) := by decide +kernel
theorem xe_91_22 (a0 a1 a2 : Option MV) (x : Int) (st : List MV) (μ : MM) (G : MG) : ev 91 22 [a0, a1, a2] (vR x :: st) μ G = if gk G x = 8 then ev 91 25 [a0, a1, a2] (vR (μ x 1) :: st) μ G else none := ev_if pg_91_22 rfl
theorem pg_91_25 : mm_prog 91 25 = some (0, .iload_n 2, 26, []) := by decide +kernel
theorem xe_91_25 (a0 a1 : Option MV) (x : Int) (st : List MV) (μ : MM) (G : MG) : ev 91 25 [a0, a1, some (vI x)] st μ G = ev 91 26 [a0, a1, some (vI x)] (vI x :: st) μ G := ev_stp pg_91_25 rfl
theorem pg_91_26 : mm_prog 91 26 = some (0, .iaload, 27, []) := by decide +kernel
theorem xe_91_26 (a0 a1 a2 : Option MV) (x y : Int) (st : List MV) (μ : MM) (G : MG) : ev 91 26 [a0, a1, a2] (vI x :: vR y :: st) μ G = if gk G y = 100 ∧ 0 ≤ x ∧ x < gl G y then ev 91 27 [a0, a1, a2] (vI (μ y x) :: st) μ G else none := ev_if pg_91_26 rfl
theorem pg_91_27 : mm_prog 91 27 = some (0, .iadd, 28, []) := by decide +kernel
theorem xe_91_27 (a0 a1 a2 : Option MV) (x y : Int) (st : List MV) (μ : MM) (G : MG) : ev 91 27 [a0, a1, a2] (vI y :: vI x :: st) μ G = ev 91 28 [a0, a1, a2] (vI (w32 (x + y)) :: st) μ G := ev_stp pg_91_27 rfl
theorem pg_91_28 : mm_prog 91 28 = some (0, .iconst 3, 29, []) := by decide +kernel
theorem xe_91_28 (a0 a1 a2 : Option MV) (st : List MV) (μ : MM) (G : MG) : ev 91 28 [a0, a1, a2] st μ G = ev 91 29 [a0, a1, a2] (vI (3) :: st) μ G := ev_stp pg_91_28 rfl
theorem pg_91_29 : mm_prog 91 29 = some (0, .if_icmp .le 13, 32, []) := by decide +kernel
theorem xe_91_29 (a0 a1 a2 : Option MV) (x y : Int) (st : List MV) (μ : MM) (G : MG) : ev 91 29 [a0, a1, a2] (vI y :: vI x :: st) μ G = if x ≤ y then ev 91 42 [a0, a1, a2] st μ G else ev 91 32 [a0, a1, a2] st μ G := ev_br (mm_cnd_le x y) pg_91_29 rfl
theorem pg_91_32 : mm_prog 91 32 = some (0, .aload_n 0, 33, []) := by decide +kernel
theorem xe_91_32 (a1 a2 : Option MV) (x : Int) (st : List MV) (μ : MM) (G : MG) : ev 91 32 [some (vR x), a1, a2] st μ G = ev 91 33 [some (vR x), a1, a2] (vR x :: st) μ G := ev_stp pg_91_32 rfl
theorem pg_91_33 : mm_prog 91 33 = some (0, .getfield 9, 36, [8, 0, 2]) := by decide +kernel
theorem xe_91_33 (a0 a1 a2 : Option MV) (x : Int) (st : List MV) (μ : MM) (G : MG) : ev 91 33 [a0, a1, a2] (vR x :: st) μ G = if gk G x = 8 then ev 91 36 [a0, a1, a2] (vR (μ x 0) :: st) μ G else none := ev_if pg_91_33 rfl
theorem pg_91_36 : mm_prog 91 36 = some (0, .iload_n 2, 37, []) := by decide +kernel
theorem xe_91_36 (a0 a1 : Option MV) (x : Int) (st : List MV) (μ : MM) (G : MG) : ev 91 36 [a0, a1, some (vI x)] st μ G = ev 91 37 [a0, a1, some (vI x)] (vI x :: st) μ G := ev_stp pg_91_36 rfl
theorem pg_91_37 : mm_prog 91 37 = some (0, .dup2, 38, []) := by decide +kernel
theorem xe_91_37 (a0 a1 a2 : Option MV) (x y : Int) (st : List MV) (μ : MM) (G : MG) : ev 91 37 [a0, a1, a2] (vI x :: vR y :: st) μ G = ev 91 38 [a0, a1, a2] (vI x :: vR y :: vI x :: vR y :: st) μ G := ev_stp pg_91_37 rfl
theorem pg_91_38 : mm_prog 91 38 = some (0, .iaload, 39, []) := by decide +kernel
theorem xe_91_38 (a0 a1 a2 : Option MV) (x y : Int) (st : List MV) (μ : MM) (G : MG) : ev 91 38 [a0, a1, a2] (vI x :: vR y :: st) μ G = if gk G y = 100 ∧ 0 ≤ x ∧ x < gl G y then ev 91 39 [a0, a1, a2] (vI (μ y x) :: st) μ G else none := ev_if pg_91_38 rfl
theorem pg_91_39 : mm_prog 91 39 = some (0, .iconst 1, 40, []) := by decide +kernel
theorem xe_91_39 (a0 a1 a2 : Option MV) (st : List MV) (μ : MM) (G : MG) : ev 91 39 [a0, a1, a2] st μ G = ev 91 40 [a0, a1, a2] (vI (1) :: st) μ G := ev_stp pg_91_39 rfl
theorem pg_91_40 : mm_prog 91 40 = some (0, .isub, 41, []) := by decide +kernel
theorem xe_91_40 (a0 a1 a2 : Option MV) (x y : Int) (st : List MV) (μ : MM) (G : MG) : ev 91 40 [a0, a1, a2] (vI y :: vI x :: st) μ G = ev 91 41 [a0, a1, a2] (vI (w32 (x - y)) :: st) μ G := ev_stp pg_91_40 rfl
theorem pg_91_41 : mm_prog 91 41 = some (0, .iastore, 42, []) := by decide +kernel
theorem xe_91_41 (a0 a1 a2 : Option MV) (x y z : Int) (st : List MV) (μ : MM) (G : MG) : ev 91 41 [a0, a1, a2] (vI x :: vI y :: vR z :: st) μ G = if gk G z = 100 ∧ 0 ≤ y ∧ y < gl G z ∧ 10 ≤ z then ev 91 42 [a0, a1, a2] st (mset μ z y x) G else none := ev_if pg_91_41 rfl
theorem pg_91_42 : mm_prog 91 42 = some (0, .iinc 2 1, 45, []) := by decide +kernel
theorem xe_91_42 (a0 a1 : Option MV) (x : Int) (st : List MV) (μ : MM) (G : MG) (h : mm_nL a1 = true) : ev 91 42 [a0, a1, some (vI x)] st μ G = ev 91 45 [a0, a1, some (vI (w32 (x + (1))))] st μ G := ev_st pg_91_42 rfl (mm_nl_of h) (Nat.le_of_ble_eq_true rfl)
theorem pg_91_45 : mm_prog 91 45 = some (0, .goto (-43), 48, []) := by decide +kernel
theorem xe_91_45 (a0 a1 a2 : Option MV) (st : List MV) (μ : MM) (G : MG) : ev 91 45 [a0, a1, a2] st μ G = ev 91 2 [a0, a1, a2] st μ G := ev_stp pg_91_45 rfl
theorem pg_91_48 : mm_prog 91 48 = some (2, .return_, 49, []) := by decide +kernel
theorem xe_91_48 (a0 a1 a2 : Option MV) (μ : MM) (G : MG) : ev 91 48 [a0, a1, a2] [] μ G = some (none, μ, G) := ev_ret pg_91_48 rfl
-- X8_drop
theorem pg_92_0 : mm_prog 92 0 = some (0, .aload_n 0, 1, []) := by decide +kernel
theorem xe_92_0 (a1 : Option MV) (x : Int) (st : List MV) (μ : MM) (G : MG) : ev 92 0 [some (vR x), a1] st μ G = ev 92 1 [some (vR x), a1] (vR x :: st) μ G := ev_stp pg_92_0 rfl
theorem pg_92_1 : mm_prog 92 1 = some (0, .dup, 2, []) := by decide +kernel
theorem xe_92_1 (a0 a1 : Option MV) (x : Int) (st : List MV) (μ : MM) (G : MG) : ev 92 1 [a0, a1] (vR x :: st) μ G = ev 92 2 [a0, a1] (vR x :: vR x :: st) μ G := ev_stp pg_92_1 rfl
theorem pg_92_2 : mm_prog 92 2 = some (0, .getfield 31, 5, [8, 11, 0]) := by decide +kernel
theorem xe_92_2 (a0 a1 : Option MV) (x : Int) (st : List MV) (μ : MM) (G : MG) : ev 92 2 [a0, a1] (vR x :: st) μ G = if gk G x = 8 then ev 92 5 [a0, a1] (vI (μ x 11) :: st) μ G else none := ev_if pg_92_2 rfl
theorem pg_92_5 : mm_prog 92 5 = some (0, .iconst 1, 6, []) := by decide +kernel
theorem xe_92_5 (a0 a1 : Option MV) (st : List MV) (μ : MM) (G : MG) : ev 92 5 [a0, a1] st μ G = ev 92 6 [a0, a1] (vI (1) :: st) μ G := ev_stp pg_92_5 rfl
theorem pg_92_6 : mm_prog 92 6 = some (0, .iadd, 7, []) := by decide +kernel
theorem xe_92_6 (a0 a1 : Option MV) (x y : Int) (st : List MV) (μ : MM) (G : MG) : ev 92 6 [a0, a1] (vI y :: vI x :: st) μ G = ev 92 7 [a0, a1] (vI (w32 (x + y)) :: st) μ G := ev_stp pg_92_6 rfl
theorem pg_92_7 : mm_prog 92 7 = some (0, .putfield 31, 10, [8, 11, 0]) := by decide +kernel
theorem xe_92_7 (a0 a1 : Option MV) (x y : Int) (st : List MV) (μ : MM) (G : MG) : ev 92 7 [a0, a1] (vI x :: vR y :: st) μ G = if gk G y = 8 then ev 92 10 [a0, a1] st (mset μ y 11 x) G else none := ev_put0 pg_92_7
theorem pg_92_10 : mm_prog 92 10 = some (0, .aload_n 0, 11, []) := by decide +kernel
theorem xe_92_10 (a1 : Option MV) (x : Int) (st : List MV) (μ : MM) (G : MG) : ev 92 10 [some (vR x), a1] st μ G = ev 92 11 [some (vR x), a1] (vR x :: st) μ G := ev_stp pg_92_10 rfl
theorem pg_92_11 : mm_prog 92 11 = some (0, .getfield 22, 14, [8, 3, 0]) := by decide +kernel
theorem xe_92_11 (a0 a1 : Option MV) (x : Int) (st : List MV) (μ : MM) (G : MG) : ev 92 11 [a0, a1] (vR x :: st) μ G = if gk G x = 8 then ev 92 14 [a0, a1] (vI (μ x 3) :: st) μ G else none := ev_if pg_92_11 rfl
theorem pg_92_14 : mm_prog 92 14 = some (0, .iconst 1, 15, []) := by decide +kernel
theorem xe_92_14 (a0 a1 : Option MV) (st : List MV) (μ : MM) (G : MG) : ev 92 14 [a0, a1] st μ G = ev 92 15 [a0, a1] (vI (1) :: st) μ G := ev_stp pg_92_14 rfl
theorem pg_92_15 : mm_prog 92 15 = some (0, .if_icmp .gt 18, 18, []) := by decide +kernel
theorem xe_92_15 (a0 a1 : Option MV) (x y : Int) (st : List MV) (μ : MM) (G : MG) : ev 92 15 [a0, a1] (vI y :: vI x :: st) μ G = if y < x then ev 92 33 [a0, a1] st μ G else ev 92 18 [a0, a1] st μ G := ev_br (mm_cnd_gt x y) pg_92_15 rfl
theorem pg_92_18 : mm_prog 92 18 = some (0, .aload_n 0, 19, []) := by decide +kernel
theorem xe_92_18 (a1 : Option MV) (x : Int) (st : List MV) (μ : MM) (G : MG) : ev 92 18 [some (vR x), a1] st μ G = ev 92 19 [some (vR x), a1] (vR x :: st) μ G := ev_stp pg_92_18 rfl
theorem pg_92_19 : mm_prog 92 19 = some (0, .getfield 25, 22, [8, 4, 0]) := by decide +kernel
theorem xe_92_19 (a0 a1 : Option MV) (x : Int) (st : List MV) (μ : MM) (G : MG) : ev 92 19 [a0, a1] (vR x :: st) μ G = if gk G x = 8 then ev 92 22 [a0, a1] (vI (μ x 4) :: st) μ G else none := ev_if pg_92_19 rfl
theorem pg_92_22 : mm_prog 92 22 = some (0, .ifCond .gt 11, 25, []) := by decide +kernel
theorem xe_92_22 (a0 a1 : Option MV) (x : Int) (st : List MV) (μ : MM) (G : MG) : ev 92 22 [a0, a1] (vI x :: st) μ G = if 0 < x then ev 92 33 [a0, a1] st μ G else ev 92 25 [a0, a1] st μ G := ev_br (mm_cnd_gt x 0) pg_92_22 rfl
theorem pg_92_25 : mm_prog 92 25 = some (0, .aload_n 0, 26, []) := by decide +kernel
theorem xe_92_25 (a1 : Option MV) (x : Int) (st : List MV) (μ : MM) (G : MG) : ev 92 25 [some (vR x), a1] st μ G = ev 92 26 [some (vR x), a1] (vR x :: st) μ G := ev_stp pg_92_25 rfl
theorem pg_92_26 : mm_prog 92 26 = some (0, .iconst 4, 27, []) := by decide +kernel
theorem xe_92_26 (a0 a1 : Option MV) (st : List MV) (μ : MM) (G : MG) : ev 92 26 [a0, a1] st μ G = ev 92 27 [a0, a1] (vI (4) :: st) μ G := ev_stp pg_92_26 rfl
theorem pg_92_27 : mm_prog 92 27 = some (0, .putfield 18, 30, [8, 2, 0]) := by decide +kernel
theorem xe_92_27 (a0 a1 : Option MV) (x y : Int) (st : List MV) (μ : MM) (G : MG) : ev 92 27 [a0, a1] (vI x :: vR y :: st) μ G = if gk G y = 8 then ev 92 30 [a0, a1] st (mset μ y 2 x) G else none := ev_put0 pg_92_27
theorem pg_92_30 : mm_prog 92 30 = some (0, .goto 23, 33, []) := by decide +kernel
theorem xe_92_30 (a0 a1 : Option MV) (st : List MV) (μ : MM) (G : MG) : ev 92 30 [a0, a1] st μ G = ev 92 53 [a0, a1] st μ G := ev_stp pg_92_30 rfl
theorem pg_92_33 : mm_prog 92 33 = some (0, .aload_n 0, 34, []) := by decide +kernel
theorem xe_92_33 (a1 : Option MV) (x : Int) (st : List MV) (μ : MM) (G : MG) : ev 92 33 [some (vR x), a1] st μ G = ev 92 34 [some (vR x), a1] (vR x :: st) μ G := ev_stp pg_92_33 rfl
theorem pg_92_34 : mm_prog 92 34 = some (0, .getfield 18, 37, [8, 2, 0]) := by decide +kernel
theorem xe_92_34 (a0 a1 : Option MV) (x : Int) (st : List MV) (μ : MM) (G : MG) : ev 92 34 [a0, a1] (vR x :: st) μ G = if gk G x = 8 then ev 92 37 [a0, a1] (vI (μ x 2) :: st) μ G else none := ev_if pg_92_34 rfl
theorem pg_92_37 : mm_prog 92 37 = some (0, .iconst 1, 38, []) := by decide +kernel
theorem xe_92_37 (a0 a1 : Option MV) (st : List MV) (μ : MM) (G : MG) : ev 92 37 [a0, a1] st μ G = ev 92 38 [a0, a1] (vI (1) :: st) μ G := ev_stp pg_92_37 rfl
theorem pg_92_38 : mm_prog 92 38 = some (0, .if_icmp .ne 11, 41, []) := by decide +kernel
theorem xe_92_38 (a0 a1 : Option MV) (x y : Int) (st : List MV) (μ : MM) (G : MG) : ev 92 38 [a0, a1] (vI y :: vI x :: st) μ G = if ¬ x = y then ev 92 49 [a0, a1] st μ G else ev 92 41 [a0, a1] st μ G := ev_br (mm_cnd_ne x y) pg_92_38 rfl
theorem pg_92_41 : mm_prog 92 41 = some (0, .aload_n 0, 42, []) := by decide +kernel
theorem xe_92_41 (a1 : Option MV) (x : Int) (st : List MV) (μ : MM) (G : MG) : ev 92 41 [some (vR x), a1] st μ G = ev 92 42 [some (vR x), a1] (vR x :: st) μ G := ev_stp pg_92_41 rfl
theorem pg_92_42 : mm_prog 92 42 = some (0, .aload_n 1, 43, []) := by decide +kernel
theorem xe_92_42 (a0 : Option MV) (x : Int) (st : List MV) (μ : MM) (G : MG) : ev 92 42 [a0, some (vR x)] st μ G = ev 92 43 [a0, some (vR x)] (vR x :: st) μ G := ev_stp pg_92_42 rfl
theorem pg_92_43 : mm_prog 92 43 = some (1, .invokevirtual 119, 46, [1, 93, 1, 8]) := by decide +kernel
theorem xe_92_43 (a0 a1 : Option MV) (x0 z : Int) (μ : MM) (G : MG) : ev 92 43 [a0, a1] (vR x0 :: vR z :: []) μ G = if gk G z = 8 ∧ 0 < z then (ev 93 0 [some (vR z), some (vR x0)] [] μ G).bind (fun q => ev 92 46 [a0, a1] (q.1.toList ++ []) q.2.1 q.2.2) else none := ev_calV (as := [vR z, vR x0]) (r := []) mx_93 pg_92_43 rfl rfl (Nat.le_of_ble_eq_true rfl) (Nat.le_of_ble_eq_true rfl)
theorem pg_92_46 : mm_prog 92 46 = some (0, .goto 7, 49, []) := by decide +kernel
theorem xe_92_46 (a0 a1 : Option MV) (st : List MV) (μ : MM) (G : MG) : ev 92 46 [a0, a1] st μ G = ev 92 53 [a0, a1] st μ G := ev_stp pg_92_46 rfl
theorem pg_92_49 : mm_prog 92 49 = some (0, .aload_n 0, 50, []) := by decide +kernel
theorem xe_92_49 (a1 : Option MV) (x : Int) (st : List MV) (μ : MM) (G : MG) : ev 92 49 [some (vR x), a1] st μ G = ev 92 50 [some (vR x), a1] (vR x :: st) μ G := ev_stp pg_92_49 rfl
theorem pg_92_50 : mm_prog 92 50 = some (1, .invokevirtual 122, 53, [1, 94, 0, 8]) := by decide +kernel
theorem xe_92_50 (a0 a1 : Option MV) (z : Int) (μ : MM) (G : MG) : ev 92 50 [a0, a1] (vR z :: []) μ G = if gk G z = 8 ∧ 0 < z then (ev 94 0 [some (vR z)] [] μ G).bind (fun q => ev 92 53 [a0, a1] (q.1.toList ++ []) q.2.1 q.2.2) else none := ev_calV (as := [vR z]) (r := []) mx_94 pg_92_50 rfl rfl (Nat.le_of_ble_eq_true rfl) (Nat.le_of_ble_eq_true rfl)
theorem pg_92_53 : mm_prog 92 53 = some (0, .aload_n 0, 54, []) := by decide +kernel
theorem xe_92_53 (a1 : Option MV) (x : Int) (st : List MV) (μ : MM) (G : MG) : ev 92 53 [some (vR x), a1] st μ G = ev 92 54 [some (vR x), a1] (vR x :: st) μ G := ev_stp pg_92_53 rfl
theorem pg_92_54 : mm_prog 92 54 = some (1, .invokevirtual 34, 57, [1, 95, 0, 8]) := by decide +kernel
theorem xe_92_54 (a0 a1 : Option MV) (z : Int) (μ : MM) (G : MG) : ev 92 54 [a0, a1] (vR z :: []) μ G = if gk G z = 8 ∧ 0 < z then (ev 95 0 [some (vR z)] [] μ G).bind (fun q => ev 92 57 [a0, a1] (q.1.toList ++ []) q.2.1 q.2.2) else none := ev_calV (as := [vR z]) (r := []) mx_95 pg_92_54 rfl rfl (Nat.le_of_ble_eq_true rfl) (Nat.le_of_ble_eq_true rfl)
theorem pg_92_57 : mm_prog 92 57 = some (2, .return_, 58, []) := by decide +kernel
theorem xe_92_57 (a0 a1 : Option MV) (μ : MM) (G : MG) : ev 92 57 [a0, a1] [] μ G = some (none, μ, G) := ev_ret pg_92_57 rfl
-- X8_dropFromClock
theorem pg_93_0 : mm_prog 93 0 = some (0, .aload_n 0, 1, []) := by decide +kernel
theorem xe_93_0 (a1 : Option MV) (x : Int) (st : List MV) (μ : MM) (G : MG) : ev 93 0 [some (vR x), a1] st μ G = ev 93 1 [some (vR x), a1] (vR x :: st) μ G := ev_stp pg_93_0 rfl
theorem pg_93_1 : mm_prog 93 1 = some (0, .getfield 25, 4, [8, 4, 0]) := by decide +kernel
theorem xe_93_1 (a0 a1 : Option MV) (x : Int) (st : List MV) (μ : MM) (G : MG) : ev 93 1 [a0, a1] (vR x :: st) μ G = if gk G x = 8 then ev 93 4 [a0, a1] (vI (μ x 4) :: st) μ G else none := ev_if pg_93_1 rfl
theorem pg_93_4 : mm_prog 93 4 = some (0, .ifCond .le 16, 7, []) := by decide +kernel
theorem xe_93_4 (a0 a1 : Option MV) (x : Int) (st : List MV) (μ : MM) (G : MG) : ev 93 4 [a0, a1] (vI x :: st) μ G = if x ≤ 0 then ev 93 20 [a0, a1] st μ G else ev 93 7 [a0, a1] st μ G := ev_br (mm_cnd_le x 0) pg_93_4 rfl
theorem pg_93_7 : mm_prog 93 7 = some (0, .aload_n 0, 8, []) := by decide +kernel
theorem xe_93_7 (a1 : Option MV) (x : Int) (st : List MV) (μ : MM) (G : MG) : ev 93 7 [some (vR x), a1] st μ G = ev 93 8 [some (vR x), a1] (vR x :: st) μ G := ev_stp pg_93_7 rfl
theorem pg_93_8 : mm_prog 93 8 = some (0, .dup, 9, []) := by decide +kernel
theorem xe_93_8 (a0 a1 : Option MV) (x : Int) (st : List MV) (μ : MM) (G : MG) : ev 93 8 [a0, a1] (vR x :: st) μ G = ev 93 9 [a0, a1] (vR x :: vR x :: st) μ G := ev_stp pg_93_8 rfl
theorem pg_93_9 : mm_prog 93 9 = some (0, .getfield 25, 12, [8, 4, 0]) := by decide +kernel
theorem xe_93_9 (a0 a1 : Option MV) (x : Int) (st : List MV) (μ : MM) (G : MG) : ev 93 9 [a0, a1] (vR x :: st) μ G = if gk G x = 8 then ev 93 12 [a0, a1] (vI (μ x 4) :: st) μ G else none := ev_if pg_93_9 rfl
theorem pg_93_12 : mm_prog 93 12 = some (0, .iconst 1, 13, []) := by decide +kernel
theorem xe_93_12 (a0 a1 : Option MV) (st : List MV) (μ : MM) (G : MG) : ev 93 12 [a0, a1] st μ G = ev 93 13 [a0, a1] (vI (1) :: st) μ G := ev_stp pg_93_12 rfl
theorem pg_93_13 : mm_prog 93 13 = some (0, .isub, 14, []) := by decide +kernel
theorem xe_93_13 (a0 a1 : Option MV) (x y : Int) (st : List MV) (μ : MM) (G : MG) : ev 93 13 [a0, a1] (vI y :: vI x :: st) μ G = ev 93 14 [a0, a1] (vI (w32 (x - y)) :: st) μ G := ev_stp pg_93_13 rfl
theorem pg_93_14 : mm_prog 93 14 = some (0, .putfield 25, 17, [8, 4, 0]) := by decide +kernel
theorem xe_93_14 (a0 a1 : Option MV) (x y : Int) (st : List MV) (μ : MM) (G : MG) : ev 93 14 [a0, a1] (vI x :: vR y :: st) μ G = if gk G y = 8 then ev 93 17 [a0, a1] st (mset μ y 4 x) G else none := ev_put0 pg_93_14
theorem pg_93_17 : mm_prog 93 17 = some (0, .goto 21, 20, []) := by decide +kernel
theorem xe_93_17 (a0 a1 : Option MV) (st : List MV) (μ : MM) (G : MG) : ev 93 17 [a0, a1] st μ G = ev 93 38 [a0, a1] st μ G := ev_stp pg_93_17 rfl
theorem pg_93_20 : mm_prog 93 20 = some (0, .aload_n 0, 21, []) := by decide +kernel
theorem xe_93_20 (a1 : Option MV) (x : Int) (st : List MV) (μ : MM) (G : MG) : ev 93 20 [some (vR x), a1] st μ G = ev 93 21 [some (vR x), a1] (vR x :: st) μ G := ev_stp pg_93_20 rfl
theorem pg_93_21 : mm_prog 93 21 = some (0, .dup, 22, []) := by decide +kernel
theorem xe_93_21 (a0 a1 : Option MV) (x : Int) (st : List MV) (μ : MM) (G : MG) : ev 93 21 [a0, a1] (vR x :: st) μ G = ev 93 22 [a0, a1] (vR x :: vR x :: st) μ G := ev_stp pg_93_21 rfl
theorem pg_93_22 : mm_prog 93 22 = some (0, .getfield 22, 25, [8, 3, 0]) := by decide +kernel
theorem xe_93_22 (a0 a1 : Option MV) (x : Int) (st : List MV) (μ : MM) (G : MG) : ev 93 22 [a0, a1] (vR x :: st) μ G = if gk G x = 8 then ev 93 25 [a0, a1] (vI (μ x 3) :: st) μ G else none := ev_if pg_93_22 rfl
theorem pg_93_25 : mm_prog 93 25 = some (0, .iconst 2, 26, []) := by decide +kernel
theorem xe_93_25 (a0 a1 : Option MV) (st : List MV) (μ : MM) (G : MG) : ev 93 25 [a0, a1] st μ G = ev 93 26 [a0, a1] (vI (2) :: st) μ G := ev_stp pg_93_25 rfl
theorem pg_93_26 : mm_prog 93 26 = some (0, .idiv, 27, []) := by decide +kernel
theorem xe_93_26 (a0 a1 : Option MV) (x y : Int) (st : List MV) (μ : MM) (G : MG) : ev 93 26 [a0, a1] (vI y :: vI x :: st) μ G = if y = 0 then none else ev 93 27 [a0, a1] (vI (mm_div x y) :: st) μ G := ev_no pg_93_26 rfl
theorem pg_93_27 : mm_prog 93 27 = some (0, .putfield 22, 30, [8, 3, 0]) := by decide +kernel
theorem xe_93_27 (a0 a1 : Option MV) (x y : Int) (st : List MV) (μ : MM) (G : MG) : ev 93 27 [a0, a1] (vI x :: vR y :: st) μ G = if gk G y = 8 then ev 93 30 [a0, a1] st (mset μ y 3 x) G else none := ev_put0 pg_93_27
theorem pg_93_30 : mm_prog 93 30 = some (0, .aload_n 0, 31, []) := by decide +kernel
theorem xe_93_30 (a1 : Option MV) (x : Int) (st : List MV) (μ : MM) (G : MG) : ev 93 30 [some (vR x), a1] st μ G = ev 93 31 [some (vR x), a1] (vR x :: st) μ G := ev_stp pg_93_30 rfl
theorem pg_93_31 : mm_prog 93 31 = some (0, .aload_n 1, 32, []) := by decide +kernel
theorem xe_93_31 (a0 : Option MV) (x : Int) (st : List MV) (μ : MM) (G : MG) : ev 93 31 [a0, some (vR x)] st μ G = ev 93 32 [a0, some (vR x)] (vR x :: st) μ G := ev_stp pg_93_31 rfl
theorem pg_93_32 : mm_prog 93 32 = some (0, .getfield 43, 35, [9, 3, 0]) := by decide +kernel
theorem xe_93_32 (a0 a1 : Option MV) (x : Int) (st : List MV) (μ : MM) (G : MG) : ev 93 32 [a0, a1] (vR x :: st) μ G = if gk G x = 9 then ev 93 35 [a0, a1] (vI (μ x 3) :: st) μ G else none := ev_if pg_93_32 rfl
theorem pg_93_35 : mm_prog 93 35 = some (0, .putfield 25, 38, [8, 4, 0]) := by decide +kernel
theorem xe_93_35 (a0 a1 : Option MV) (x y : Int) (st : List MV) (μ : MM) (G : MG) : ev 93 35 [a0, a1] (vI x :: vR y :: st) μ G = if gk G y = 8 then ev 93 38 [a0, a1] st (mset μ y 4 x) G else none := ev_put0 pg_93_35
theorem pg_93_38 : mm_prog 93 38 = some (2, .return_, 39, []) := by decide +kernel
theorem xe_93_38 (a0 a1 : Option MV) (μ : MM) (G : MG) : ev 93 38 [a0, a1] [] μ G = some (none, μ, G) := ev_ret pg_93_38 rfl
-- X8_dropFromEven
theorem pg_94_0 : mm_prog 94 0 = some (0, .aload_n 0, 1, []) := by decide +kernel
theorem xe_94_0 (x : Int) (st : List MV) (μ : MM) (G : MG) : ev 94 0 [some (vR x)] st μ G = ev 94 1 [some (vR x)] (vR x :: st) μ G := ev_stp pg_94_0 rfl
theorem pg_94_1 : mm_prog 94 1 = some (0, .iconst 1, 2, []) := by decide +kernel
theorem xe_94_1 (a0 : Option MV) (st : List MV) (μ : MM) (G : MG) : ev 94 1 [a0] st μ G = ev 94 2 [a0] (vI (1) :: st) μ G := ev_stp pg_94_1 rfl
theorem pg_94_2 : mm_prog 94 2 = some (0, .putfield 18, 5, [8, 2, 0]) := by decide +kernel
theorem xe_94_2 (a0 : Option MV) (x y : Int) (st : List MV) (μ : MM) (G : MG) : ev 94 2 [a0] (vI x :: vR y :: st) μ G = if gk G y = 8 then ev 94 5 [a0] st (mset μ y 2 x) G else none := ev_put0 pg_94_2
theorem pg_94_5 : mm_prog 94 5 = some (0, .aload_n 0, 6, []) := by decide +kernel
theorem xe_94_5 (x : Int) (st : List MV) (μ : MM) (G : MG) : ev 94 5 [some (vR x)] st μ G = ev 94 6 [some (vR x)] (vR x :: st) μ G := ev_stp pg_94_5 rfl
theorem pg_94_6 : mm_prog 94 6 = some (0, .getfield 22, 9, [8, 3, 0]) := by decide +kernel
theorem xe_94_6 (a0 : Option MV) (x : Int) (st : List MV) (μ : MM) (G : MG) : ev 94 6 [a0] (vR x :: st) μ G = if gk G x = 8 then ev 94 9 [a0] (vI (μ x 3) :: st) μ G else none := ev_if pg_94_6 rfl
theorem pg_94_9 : mm_prog 94 9 = some (0, .iconst 1, 10, []) := by decide +kernel
theorem xe_94_9 (a0 : Option MV) (st : List MV) (μ : MM) (G : MG) : ev 94 9 [a0] st μ G = ev 94 10 [a0] (vI (1) :: st) μ G := ev_stp pg_94_9 rfl
theorem pg_94_10 : mm_prog 94 10 = some (0, .if_icmp .le 16, 13, []) := by decide +kernel
theorem xe_94_10 (a0 : Option MV) (x y : Int) (st : List MV) (μ : MM) (G : MG) : ev 94 10 [a0] (vI y :: vI x :: st) μ G = if x ≤ y then ev 94 26 [a0] st μ G else ev 94 13 [a0] st μ G := ev_br (mm_cnd_le x y) pg_94_10 rfl
theorem pg_94_13 : mm_prog 94 13 = some (0, .aload_n 0, 14, []) := by decide +kernel
theorem xe_94_13 (x : Int) (st : List MV) (μ : MM) (G : MG) : ev 94 13 [some (vR x)] st μ G = ev 94 14 [some (vR x)] (vR x :: st) μ G := ev_stp pg_94_13 rfl
theorem pg_94_14 : mm_prog 94 14 = some (0, .dup, 15, []) := by decide +kernel
theorem xe_94_14 (a0 : Option MV) (x : Int) (st : List MV) (μ : MM) (G : MG) : ev 94 14 [a0] (vR x :: st) μ G = ev 94 15 [a0] (vR x :: vR x :: st) μ G := ev_stp pg_94_14 rfl
theorem pg_94_15 : mm_prog 94 15 = some (0, .getfield 22, 18, [8, 3, 0]) := by decide +kernel
theorem xe_94_15 (a0 : Option MV) (x : Int) (st : List MV) (μ : MM) (G : MG) : ev 94 15 [a0] (vR x :: st) μ G = if gk G x = 8 then ev 94 18 [a0] (vI (μ x 3) :: st) μ G else none := ev_if pg_94_15 rfl
theorem pg_94_18 : mm_prog 94 18 = some (0, .iconst 2, 19, []) := by decide +kernel
theorem xe_94_18 (a0 : Option MV) (st : List MV) (μ : MM) (G : MG) : ev 94 18 [a0] st μ G = ev 94 19 [a0] (vI (2) :: st) μ G := ev_stp pg_94_18 rfl
theorem pg_94_19 : mm_prog 94 19 = some (0, .idiv, 20, []) := by decide +kernel
theorem xe_94_19 (a0 : Option MV) (x y : Int) (st : List MV) (μ : MM) (G : MG) : ev 94 19 [a0] (vI y :: vI x :: st) μ G = if y = 0 then none else ev 94 20 [a0] (vI (mm_div x y) :: st) μ G := ev_no pg_94_19 rfl
theorem pg_94_20 : mm_prog 94 20 = some (0, .putfield 22, 23, [8, 3, 0]) := by decide +kernel
theorem xe_94_20 (a0 : Option MV) (x y : Int) (st : List MV) (μ : MM) (G : MG) : ev 94 20 [a0] (vI x :: vR y :: st) μ G = if gk G y = 8 then ev 94 23 [a0] st (mset μ y 3 x) G else none := ev_put0 pg_94_20
theorem pg_94_23 : mm_prog 94 23 = some (0, .goto 13, 26, []) := by decide +kernel
theorem xe_94_23 (a0 : Option MV) (st : List MV) (μ : MM) (G : MG) : ev 94 23 [a0] st μ G = ev 94 36 [a0] st μ G := ev_stp pg_94_23 rfl
theorem pg_94_26 : mm_prog 94 26 = some (0, .aload_n 0, 27, []) := by decide +kernel
theorem xe_94_26 (x : Int) (st : List MV) (μ : MM) (G : MG) : ev 94 26 [some (vR x)] st μ G = ev 94 27 [some (vR x)] (vR x :: st) μ G := ev_stp pg_94_26 rfl
theorem pg_94_27 : mm_prog 94 27 = some (0, .dup, 28, []) := by decide +kernel
theorem xe_94_27 (a0 : Option MV) (x : Int) (st : List MV) (μ : MM) (G : MG) : ev 94 27 [a0] (vR x :: st) μ G = ev 94 28 [a0] (vR x :: vR x :: st) μ G := ev_stp pg_94_27 rfl
theorem pg_94_28 : mm_prog 94 28 = some (0, .getfield 25, 31, [8, 4, 0]) := by decide +kernel
theorem xe_94_28 (a0 : Option MV) (x : Int) (st : List MV) (μ : MM) (G : MG) : ev 94 28 [a0] (vR x :: st) μ G = if gk G x = 8 then ev 94 31 [a0] (vI (μ x 4) :: st) μ G else none := ev_if pg_94_28 rfl
theorem pg_94_31 : mm_prog 94 31 = some (0, .iconst 1, 32, []) := by decide +kernel
theorem xe_94_31 (a0 : Option MV) (st : List MV) (μ : MM) (G : MG) : ev 94 31 [a0] st μ G = ev 94 32 [a0] (vI (1) :: st) μ G := ev_stp pg_94_31 rfl
theorem pg_94_32 : mm_prog 94 32 = some (0, .isub, 33, []) := by decide +kernel
theorem xe_94_32 (a0 : Option MV) (x y : Int) (st : List MV) (μ : MM) (G : MG) : ev 94 32 [a0] (vI y :: vI x :: st) μ G = ev 94 33 [a0] (vI (w32 (x - y)) :: st) μ G := ev_stp pg_94_32 rfl
theorem pg_94_33 : mm_prog 94 33 = some (0, .putfield 25, 36, [8, 4, 0]) := by decide +kernel
theorem xe_94_33 (a0 : Option MV) (x y : Int) (st : List MV) (μ : MM) (G : MG) : ev 94 33 [a0] (vI x :: vR y :: st) μ G = if gk G y = 8 then ev 94 36 [a0] st (mset μ y 4 x) G else none := ev_put0 pg_94_33
theorem pg_94_36 : mm_prog 94 36 = some (2, .return_, 37, []) := by decide +kernel
theorem xe_94_36 (a0 : Option MV) (μ : MM) (G : MG) : ev 94 36 [a0] [] μ G = some (none, μ, G) := ev_ret pg_94_36 rfl
-- X8_toFoot
theorem pg_95_0 : mm_prog 95 0 = some (0, .aload_n 0, 1, []) := by decide +kernel
theorem xe_95_0 (x : Int) (st : List MV) (μ : MM) (G : MG) : ev 95 0 [some (vR x)] st μ G = ev 95 1 [some (vR x)] (vR x :: st) μ G := ev_stp pg_95_0 rfl
theorem pg_95_1 : mm_prog 95 1 = some (0, .getfield 9, 4, [8, 0, 2]) := by decide +kernel
theorem xe_95_1 (a0 : Option MV) (x : Int) (st : List MV) (μ : MM) (G : MG) : ev 95 1 [a0] (vR x :: st) μ G = if gk G x = 8 then ev 95 4 [a0] (vR (μ x 0) :: st) μ G else none := ev_if pg_95_1 rfl
theorem pg_95_4 : mm_prog 95 4 = some (0, .iconst 0, 5, []) := by decide +kernel
theorem xe_95_4 (a0 : Option MV) (st : List MV) (μ : MM) (G : MG) : ev 95 4 [a0] st μ G = ev 95 5 [a0] (vI (0) :: st) μ G := ev_stp pg_95_4 rfl
theorem pg_95_5 : mm_prog 95 5 = some (1, .invokestatic 125, 8, [0, 263, 2, 0]) := by decide +kernel
theorem xe_95_5 (a0 : Option MV) (x0 x1 : Int) (μ : MM) (G : MG) : ev 95 5 [a0] (vI x1 :: vR x0 :: []) μ G = (ev 263 0 [some (vR x0), some (vI x1), none, none] [] μ G).bind (fun q => ev 95 8 [a0] (q.1.toList ++ []) q.2.1 q.2.2) := ev_calS (as := [vR x0, vI x1]) (r := []) mx_263 pg_95_5 rfl rfl (Nat.le_of_ble_eq_true rfl) (Nat.le_of_ble_eq_true rfl)
theorem pg_95_8 : mm_prog 95 8 = some (0, .aload_n 0, 9, []) := by decide +kernel
theorem xe_95_8 (x : Int) (st : List MV) (μ : MM) (G : MG) : ev 95 8 [some (vR x)] st μ G = ev 95 9 [some (vR x)] (vR x :: st) μ G := ev_stp pg_95_8 rfl
theorem pg_95_9 : mm_prog 95 9 = some (0, .getfield 15, 12, [8, 1, 2]) := by decide +kernel
theorem xe_95_9 (a0 : Option MV) (x : Int) (st : List MV) (μ : MM) (G : MG) : ev 95 9 [a0] (vR x :: st) μ G = if gk G x = 8 then ev 95 12 [a0] (vR (μ x 1) :: st) μ G else none := ev_if pg_95_9 rfl
theorem pg_95_12 : mm_prog 95 12 = some (0, .iconst 0, 13, []) := by decide +kernel
theorem xe_95_12 (a0 : Option MV) (st : List MV) (μ : MM) (G : MG) : ev 95 12 [a0] st μ G = ev 95 13 [a0] (vI (0) :: st) μ G := ev_stp pg_95_12 rfl
theorem pg_95_13 : mm_prog 95 13 = some (1, .invokestatic 125, 16, [0, 263, 2, 0]) := by decide +kernel
theorem xe_95_13 (a0 : Option MV) (x0 x1 : Int) (μ : MM) (G : MG) : ev 95 13 [a0] (vI x1 :: vR x0 :: []) μ G = (ev 263 0 [some (vR x0), some (vI x1), none, none] [] μ G).bind (fun q => ev 95 16 [a0] (q.1.toList ++ []) q.2.1 q.2.2) := ev_calS (as := [vR x0, vI x1]) (r := []) mx_263 pg_95_13 rfl rfl (Nat.le_of_ble_eq_true rfl) (Nat.le_of_ble_eq_true rfl)
theorem pg_95_16 : mm_prog 95 16 = some (0, .aload_n 0, 17, []) := by decide +kernel
theorem xe_95_16 (x : Int) (st : List MV) (μ : MM) (G : MG) : ev 95 16 [some (vR x)] st μ G = ev 95 17 [some (vR x)] (vR x :: st) μ G := ev_stp pg_95_16 rfl
theorem pg_95_17 : mm_prog 95 17 = some (0, .iconst 0, 18, []) := by decide +kernel
theorem xe_95_17 (a0 : Option MV) (st : List MV) (μ : MM) (G : MG) : ev 95 17 [a0] st μ G = ev 95 18 [a0] (vI (0) :: st) μ G := ev_stp pg_95_17 rfl
theorem pg_95_18 : mm_prog 95 18 = some (0, .putfield 85, 21, [8, 5, 0]) := by decide +kernel
theorem xe_95_18 (a0 : Option MV) (x y : Int) (st : List MV) (μ : MM) (G : MG) : ev 95 18 [a0] (vI x :: vR y :: st) μ G = if gk G y = 8 then ev 95 21 [a0] st (mset μ y 5 x) G else none := ev_put0 pg_95_18
theorem pg_95_21 : mm_prog 95 21 = some (0, .aload_n 0, 22, []) := by decide +kernel
theorem xe_95_21 (x : Int) (st : List MV) (μ : MM) (G : MG) : ev 95 21 [some (vR x)] st μ G = ev 95 22 [some (vR x)] (vR x :: st) μ G := ev_stp pg_95_21 rfl
theorem pg_95_22 : mm_prog 95 22 = some (0, .iconst 0, 23, []) := by decide +kernel
theorem xe_95_22 (a0 : Option MV) (st : List MV) (μ : MM) (G : MG) : ev 95 22 [a0] st μ G = ev 95 23 [a0] (vI (0) :: st) μ G := ev_stp pg_95_22 rfl
theorem pg_95_23 : mm_prog 95 23 = some (0, .putfield 103, 26, [8, 6, 0]) := by decide +kernel
theorem xe_95_23 (a0 : Option MV) (x y : Int) (st : List MV) (μ : MM) (G : MG) : ev 95 23 [a0] (vI x :: vR y :: st) μ G = if gk G y = 8 then ev 95 26 [a0] st (mset μ y 6 x) G else none := ev_put0 pg_95_23
theorem pg_95_26 : mm_prog 95 26 = some (0, .aload_n 0, 27, []) := by decide +kernel
theorem xe_95_26 (x : Int) (st : List MV) (μ : MM) (G : MG) : ev 95 26 [some (vR x)] st μ G = ev 95 27 [some (vR x)] (vR x :: st) μ G := ev_stp pg_95_26 rfl
theorem pg_95_27 : mm_prog 95 27 = some (0, .iconst 0, 28, []) := by decide +kernel
theorem xe_95_27 (a0 : Option MV) (st : List MV) (μ : MM) (G : MG) : ev 95 27 [a0] st μ G = ev 95 28 [a0] (vI (0) :: st) μ G := ev_stp pg_95_27 rfl
theorem pg_95_28 : mm_prog 95 28 = some (0, .putfield 44, 31, [8, 7, 0]) := by decide +kernel
theorem xe_95_28 (a0 : Option MV) (x y : Int) (st : List MV) (μ : MM) (G : MG) : ev 95 28 [a0] (vI x :: vR y :: st) μ G = if gk G y = 8 then ev 95 31 [a0] st (mset μ y 7 x) G else none := ev_put0 pg_95_28
theorem pg_95_31 : mm_prog 95 31 = some (0, .aload_n 0, 32, []) := by decide +kernel
theorem xe_95_31 (x : Int) (st : List MV) (μ : MM) (G : MG) : ev 95 31 [some (vR x)] st μ G = ev 95 32 [some (vR x)] (vR x :: st) μ G := ev_stp pg_95_31 rfl
theorem pg_95_32 : mm_prog 95 32 = some (0, .iconst 0, 33, []) := by decide +kernel
theorem xe_95_32 (a0 : Option MV) (st : List MV) (μ : MM) (G : MG) : ev 95 32 [a0] st μ G = ev 95 33 [a0] (vI (0) :: st) μ G := ev_stp pg_95_32 rfl
theorem pg_95_33 : mm_prog 95 33 = some (0, .putfield 47, 36, [8, 8, 0]) := by decide +kernel
theorem xe_95_33 (a0 : Option MV) (x y : Int) (st : List MV) (μ : MM) (G : MG) : ev 95 33 [a0] (vI x :: vR y :: st) μ G = if gk G y = 8 then ev 95 36 [a0] st (mset μ y 8 x) G else none := ev_put0 pg_95_33
theorem pg_95_36 : mm_prog 95 36 = some (0, .aload_n 0, 37, []) := by decide +kernel
theorem xe_95_36 (x : Int) (st : List MV) (μ : MM) (G : MG) : ev 95 36 [some (vR x)] st μ G = ev 95 37 [some (vR x)] (vR x :: st) μ G := ev_stp pg_95_36 rfl
theorem pg_95_37 : mm_prog 95 37 = some (0, .iconst 0, 38, []) := by decide +kernel
theorem xe_95_37 (a0 : Option MV) (st : List MV) (μ : MM) (G : MG) : ev 95 37 [a0] st μ G = ev 95 38 [a0] (vI (0) :: st) μ G := ev_stp pg_95_37 rfl
theorem pg_95_38 : mm_prog 95 38 = some (0, .putfield 75, 41, [8, 9, 0]) := by decide +kernel
theorem xe_95_38 (a0 : Option MV) (x y : Int) (st : List MV) (μ : MM) (G : MG) : ev 95 38 [a0] (vI x :: vR y :: st) μ G = if gk G y = 8 then ev 95 41 [a0] st (mset μ y 9 x) G else none := ev_put0 pg_95_38
theorem pg_95_41 : mm_prog 95 41 = some (2, .return_, 42, []) := by decide +kernel
theorem xe_95_41 (a0 : Option MV) (μ : MM) (G : MG) : ev 95 41 [a0] [] μ G = some (none, μ, G) := ev_ret pg_95_41 rfl
-- X9_init
theorem pg_96_0 : mm_prog 96 0 = some (0, .aload_n 0, 1, []) := by decide +kernel
theorem xe_96_0 (x : Int) (st : List MV) (μ : MM) (G : MG) : ev 96 0 [some (vR x)] st μ G = ev 96 1 [some (vR x)] (vR x :: st) μ G := ev_stp pg_96_0 rfl
theorem pg_96_1 : mm_prog 96 1 = some (0, .invokespecial 3, 4, []) := by decide +kernel
theorem xe_96_1 (a0 : Option MV) (x : Int) (st : List MV) (μ : MM) (G : MG) : ev 96 1 [a0] (vR x :: st) μ G = if 10 ≤ x ∧ mm_cats st ≤ 8 then ev 96 4 [a0] st μ G else none := ev_if pg_96_1 rfl
theorem pg_96_4 : mm_prog 96 4 = some (0, .aload_n 0, 5, []) := by decide +kernel
theorem xe_96_4 (x : Int) (st : List MV) (μ : MM) (G : MG) : ev 96 4 [some (vR x)] st μ G = ev 96 5 [some (vR x)] (vR x :: st) μ G := ev_stp pg_96_4 rfl
theorem pg_96_5 : mm_prog 96 5 = some (0, .iconst 4, 6, []) := by decide +kernel
theorem xe_96_5 (a0 : Option MV) (st : List MV) (μ : MM) (G : MG) : ev 96 5 [a0] st μ G = ev 96 6 [a0] (vI (4) :: st) μ G := ev_stp pg_96_5 rfl
theorem pg_96_6 : mm_prog 96 6 = some (0, .newarray .int, 8, [100]) := by decide +kernel
theorem xe_96_6 (a0 : Option MV) (x : Int) (st : List MV) (μ : MM) (G : MG) : ev 96 6 [a0] (vI x :: st) μ G = if 0 ≤ x ∧ x ≤ 100000 then ev 96 8 [a0] (vR G.2.1 :: st) (mzero μ G.2.1) (gnew G 100 x x) else none := ev_if pg_96_6 rfl
theorem pg_96_8 : mm_prog 96 8 = some (0, .putfield 9, 11, [9, 0, 2]) := by decide +kernel
theorem xe_96_8 (a0 : Option MV) (x y : Int) (st : List MV) (μ : MM) (G : MG) : ev 96 8 [a0] (vR x :: vR y :: st) μ G = if gk G y = 9 then ev 96 11 [a0] st (mset μ y 0 x) G else none := ev_put2 pg_96_8
theorem pg_96_11 : mm_prog 96 11 = some (0, .aload_n 0, 12, []) := by decide +kernel
theorem xe_96_11 (x : Int) (st : List MV) (μ : MM) (G : MG) : ev 96 11 [some (vR x)] st μ G = ev 96 12 [some (vR x)] (vR x :: st) μ G := ev_stp pg_96_11 rfl
theorem pg_96_12 : mm_prog 96 12 = some (0, .iconst 4, 13, []) := by decide +kernel
theorem xe_96_12 (a0 : Option MV) (st : List MV) (μ : MM) (G : MG) : ev 96 12 [a0] st μ G = ev 96 13 [a0] (vI (4) :: st) μ G := ev_stp pg_96_12 rfl
theorem pg_96_13 : mm_prog 96 13 = some (0, .newarray .int, 15, [100]) := by decide +kernel
theorem xe_96_13 (a0 : Option MV) (x : Int) (st : List MV) (μ : MM) (G : MG) : ev 96 13 [a0] (vI x :: st) μ G = if 0 ≤ x ∧ x ≤ 100000 then ev 96 15 [a0] (vR G.2.1 :: st) (mzero μ G.2.1) (gnew G 100 x x) else none := ev_if pg_96_13 rfl
theorem pg_96_15 : mm_prog 96 15 = some (0, .putfield 15, 18, [9, 1, 2]) := by decide +kernel
theorem xe_96_15 (a0 : Option MV) (x y : Int) (st : List MV) (μ : MM) (G : MG) : ev 96 15 [a0] (vR x :: vR y :: st) μ G = if gk G y = 9 then ev 96 18 [a0] st (mset μ y 1 x) G else none := ev_put2 pg_96_15
theorem pg_96_18 : mm_prog 96 18 = some (0, .aload_n 0, 19, []) := by decide +kernel
theorem xe_96_18 (x : Int) (st : List MV) (μ : MM) (G : MG) : ev 96 18 [some (vR x)] st μ G = ev 96 19 [some (vR x)] (vR x :: st) μ G := ev_stp pg_96_18 rfl
theorem pg_96_19 : mm_prog 96 19 = some (0, .iconst 4, 20, []) := by decide +kernel
theorem xe_96_19 (a0 : Option MV) (st : List MV) (μ : MM) (G : MG) : ev 96 19 [a0] st μ G = ev 96 20 [a0] (vI (4) :: st) μ G := ev_stp pg_96_19 rfl
theorem pg_96_20 : mm_prog 96 20 = some (0, .putfield 18, 23, [9, 2, 0]) := by decide +kernel
theorem xe_96_20 (a0 : Option MV) (x y : Int) (st : List MV) (μ : MM) (G : MG) : ev 96 20 [a0] (vI x :: vR y :: st) μ G = if gk G y = 9 then ev 96 23 [a0] st (mset μ y 2 x) G else none := ev_put0 pg_96_20
theorem pg_96_23 : mm_prog 96 23 = some (0, .aload_n 0, 24, []) := by decide +kernel
theorem xe_96_23 (x : Int) (st : List MV) (μ : MM) (G : MG) : ev 96 23 [some (vR x)] st μ G = ev 96 24 [some (vR x)] (vR x :: st) μ G := ev_stp pg_96_23 rfl
theorem pg_96_24 : mm_prog 96 24 = some (0, .iconst 2, 25, []) := by decide +kernel
theorem xe_96_24 (a0 : Option MV) (st : List MV) (μ : MM) (G : MG) : ev 96 24 [a0] st μ G = ev 96 25 [a0] (vI (2) :: st) μ G := ev_stp pg_96_24 rfl
theorem pg_96_25 : mm_prog 96 25 = some (0, .putfield 22, 28, [9, 3, 0]) := by decide +kernel
theorem xe_96_25 (a0 : Option MV) (x y : Int) (st : List MV) (μ : MM) (G : MG) : ev 96 25 [a0] (vI x :: vR y :: st) μ G = if gk G y = 9 then ev 96 28 [a0] st (mset μ y 3 x) G else none := ev_put0 pg_96_25
theorem pg_96_28 : mm_prog 96 28 = some (2, .return_, 29, []) := by decide +kernel
theorem xe_96_28 (a0 : Option MV) (μ : MM) (G : MG) : ev 96 28 [a0] [] μ G = some (none, μ, G) := ev_ret pg_96_28 rfl
-- X9_copy
theorem pg_97_0 : mm_prog 97 0 = some (0, .aload_n 1, 1, []) := by decide +kernel
theorem xe_97_0 (a0 : Option MV) (x : Int) (st : List MV) (μ : MM) (G : MG) : ev 97 0 [a0, some (vR x)] st μ G = ev 97 1 [a0, some (vR x)] (vR x :: st) μ G := ev_stp pg_97_0 rfl
theorem pg_97_1 : mm_prog 97 1 = some (0, .getfield 9, 4, [9, 0, 2]) := by decide +kernel
theorem xe_97_1 (a0 a1 : Option MV) (x : Int) (st : List MV) (μ : MM) (G : MG) : ev 97 1 [a0, a1] (vR x :: st) μ G = if gk G x = 9 then ev 97 4 [a0, a1] (vR (μ x 0) :: st) μ G else none := ev_if pg_97_1 rfl
theorem pg_97_4 : mm_prog 97 4 = some (0, .iconst 0, 5, []) := by decide +kernel
theorem xe_97_4 (a0 a1 : Option MV) (st : List MV) (μ : MM) (G : MG) : ev 97 4 [a0, a1] st μ G = ev 97 5 [a0, a1] (vI (0) :: st) μ G := ev_stp pg_97_4 rfl
theorem pg_97_5 : mm_prog 97 5 = some (0, .aload_n 0, 6, []) := by decide +kernel
theorem xe_97_5 (a1 : Option MV) (x : Int) (st : List MV) (μ : MM) (G : MG) : ev 97 5 [some (vR x), a1] st μ G = ev 97 6 [some (vR x), a1] (vR x :: st) μ G := ev_stp pg_97_5 rfl
theorem pg_97_6 : mm_prog 97 6 = some (0, .getfield 9, 9, [9, 0, 2]) := by decide +kernel
theorem xe_97_6 (a0 a1 : Option MV) (x : Int) (st : List MV) (μ : MM) (G : MG) : ev 97 6 [a0, a1] (vR x :: st) μ G = if gk G x = 9 then ev 97 9 [a0, a1] (vR (μ x 0) :: st) μ G else none := ev_if pg_97_6 rfl
theorem pg_97_9 : mm_prog 97 9 = some (0, .iconst 0, 10, []) := by decide +kernel
theorem xe_97_9 (a0 a1 : Option MV) (st : List MV) (μ : MM) (G : MG) : ev 97 9 [a0, a1] st μ G = ev 97 10 [a0, a1] (vI (0) :: st) μ G := ev_stp pg_97_9 rfl
theorem pg_97_10 : mm_prog 97 10 = some (0, .iconst 4, 11, []) := by decide +kernel
theorem xe_97_10 (a0 a1 : Option MV) (st : List MV) (μ : MM) (G : MG) : ev 97 10 [a0, a1] st μ G = ev 97 11 [a0, a1] (vI (4) :: st) μ G := ev_stp pg_97_10 rfl
theorem pg_97_11 : mm_prog 97 11 = some (0, .invokestatic 25, 14, []) := by decide +kernel
theorem xe_97_11 (a0 a1 : Option MV) (x y z u v : Int) (st : List MV) (μ : MM) (G : MG) : ev 97 11 [a0, a1] (vI x :: vI y :: vR z :: vI u :: vR v :: st) μ G = if gk G v = 100 ∧ gk G z = 100 ∧ ¬ v = z ∧ 10 ≤ z ∧ 0 ≤ x ∧ 0 ≤ u ∧ 0 ≤ y ∧ u + x ≤ gl G v ∧ y + x ≤ gl G z ∧ mm_cats st ≤ 8 then ev 97 14 [a0, a1] st (mcopy μ z y x (fun q => μ v (u + q))) G else none := ev_if pg_97_11 rfl
theorem pg_97_14 : mm_prog 97 14 = some (0, .aload_n 1, 15, []) := by decide +kernel
theorem xe_97_14 (a0 : Option MV) (x : Int) (st : List MV) (μ : MM) (G : MG) : ev 97 14 [a0, some (vR x)] st μ G = ev 97 15 [a0, some (vR x)] (vR x :: st) μ G := ev_stp pg_97_14 rfl
theorem pg_97_15 : mm_prog 97 15 = some (0, .getfield 15, 18, [9, 1, 2]) := by decide +kernel
theorem xe_97_15 (a0 a1 : Option MV) (x : Int) (st : List MV) (μ : MM) (G : MG) : ev 97 15 [a0, a1] (vR x :: st) μ G = if gk G x = 9 then ev 97 18 [a0, a1] (vR (μ x 1) :: st) μ G else none := ev_if pg_97_15 rfl
theorem pg_97_18 : mm_prog 97 18 = some (0, .iconst 0, 19, []) := by decide +kernel
theorem xe_97_18 (a0 a1 : Option MV) (st : List MV) (μ : MM) (G : MG) : ev 97 18 [a0, a1] st μ G = ev 97 19 [a0, a1] (vI (0) :: st) μ G := ev_stp pg_97_18 rfl
theorem pg_97_19 : mm_prog 97 19 = some (0, .aload_n 0, 20, []) := by decide +kernel
theorem xe_97_19 (a1 : Option MV) (x : Int) (st : List MV) (μ : MM) (G : MG) : ev 97 19 [some (vR x), a1] st μ G = ev 97 20 [some (vR x), a1] (vR x :: st) μ G := ev_stp pg_97_19 rfl
theorem pg_97_20 : mm_prog 97 20 = some (0, .getfield 15, 23, [9, 1, 2]) := by decide +kernel
theorem xe_97_20 (a0 a1 : Option MV) (x : Int) (st : List MV) (μ : MM) (G : MG) : ev 97 20 [a0, a1] (vR x :: st) μ G = if gk G x = 9 then ev 97 23 [a0, a1] (vR (μ x 1) :: st) μ G else none := ev_if pg_97_20 rfl
theorem pg_97_23 : mm_prog 97 23 = some (0, .iconst 0, 24, []) := by decide +kernel
theorem xe_97_23 (a0 a1 : Option MV) (st : List MV) (μ : MM) (G : MG) : ev 97 23 [a0, a1] st μ G = ev 97 24 [a0, a1] (vI (0) :: st) μ G := ev_stp pg_97_23 rfl
theorem pg_97_24 : mm_prog 97 24 = some (0, .iconst 4, 25, []) := by decide +kernel
theorem xe_97_24 (a0 a1 : Option MV) (st : List MV) (μ : MM) (G : MG) : ev 97 24 [a0, a1] st μ G = ev 97 25 [a0, a1] (vI (4) :: st) μ G := ev_stp pg_97_24 rfl
theorem pg_97_25 : mm_prog 97 25 = some (0, .invokestatic 25, 28, []) := by decide +kernel
theorem xe_97_25 (a0 a1 : Option MV) (x y z u v : Int) (st : List MV) (μ : MM) (G : MG) : ev 97 25 [a0, a1] (vI x :: vI y :: vR z :: vI u :: vR v :: st) μ G = if gk G v = 100 ∧ gk G z = 100 ∧ ¬ v = z ∧ 10 ≤ z ∧ 0 ≤ x ∧ 0 ≤ u ∧ 0 ≤ y ∧ u + x ≤ gl G v ∧ y + x ≤ gl G z ∧ mm_cats st ≤ 8 then ev 97 28 [a0, a1] st (mcopy μ z y x (fun q => μ v (u + q))) G else none := ev_if pg_97_25 rfl
theorem pg_97_28 : mm_prog 97 28 = some (0, .aload_n 0, 29, []) := by decide +kernel
theorem xe_97_28 (a1 : Option MV) (x : Int) (st : List MV) (μ : MM) (G : MG) : ev 97 28 [some (vR x), a1] st μ G = ev 97 29 [some (vR x), a1] (vR x :: st) μ G := ev_stp pg_97_28 rfl
theorem pg_97_29 : mm_prog 97 29 = some (0, .aload_n 1, 30, []) := by decide +kernel
theorem xe_97_29 (a0 : Option MV) (x : Int) (st : List MV) (μ : MM) (G : MG) : ev 97 29 [a0, some (vR x)] st μ G = ev 97 30 [a0, some (vR x)] (vR x :: st) μ G := ev_stp pg_97_29 rfl
theorem pg_97_30 : mm_prog 97 30 = some (0, .getfield 18, 33, [9, 2, 0]) := by decide +kernel
theorem xe_97_30 (a0 a1 : Option MV) (x : Int) (st : List MV) (μ : MM) (G : MG) : ev 97 30 [a0, a1] (vR x :: st) μ G = if gk G x = 9 then ev 97 33 [a0, a1] (vI (μ x 2) :: st) μ G else none := ev_if pg_97_30 rfl
theorem pg_97_33 : mm_prog 97 33 = some (0, .putfield 18, 36, [9, 2, 0]) := by decide +kernel
theorem xe_97_33 (a0 a1 : Option MV) (x y : Int) (st : List MV) (μ : MM) (G : MG) : ev 97 33 [a0, a1] (vI x :: vR y :: st) μ G = if gk G y = 9 then ev 97 36 [a0, a1] st (mset μ y 2 x) G else none := ev_put0 pg_97_33
theorem pg_97_36 : mm_prog 97 36 = some (0, .aload_n 0, 37, []) := by decide +kernel
theorem xe_97_36 (a1 : Option MV) (x : Int) (st : List MV) (μ : MM) (G : MG) : ev 97 36 [some (vR x), a1] st μ G = ev 97 37 [some (vR x), a1] (vR x :: st) μ G := ev_stp pg_97_36 rfl
theorem pg_97_37 : mm_prog 97 37 = some (0, .aload_n 1, 38, []) := by decide +kernel
theorem xe_97_37 (a0 : Option MV) (x : Int) (st : List MV) (μ : MM) (G : MG) : ev 97 37 [a0, some (vR x)] st μ G = ev 97 38 [a0, some (vR x)] (vR x :: st) μ G := ev_stp pg_97_37 rfl
theorem pg_97_38 : mm_prog 97 38 = some (0, .getfield 22, 41, [9, 3, 0]) := by decide +kernel
theorem xe_97_38 (a0 a1 : Option MV) (x : Int) (st : List MV) (μ : MM) (G : MG) : ev 97 38 [a0, a1] (vR x :: st) μ G = if gk G x = 9 then ev 97 41 [a0, a1] (vI (μ x 3) :: st) μ G else none := ev_if pg_97_38 rfl
theorem pg_97_41 : mm_prog 97 41 = some (0, .putfield 22, 44, [9, 3, 0]) := by decide +kernel
theorem xe_97_41 (a0 a1 : Option MV) (x y : Int) (st : List MV) (μ : MM) (G : MG) : ev 97 41 [a0, a1] (vI x :: vR y :: st) μ G = if gk G y = 9 then ev 97 44 [a0, a1] st (mset μ y 3 x) G else none := ev_put0 pg_97_41
theorem pg_97_44 : mm_prog 97 44 = some (2, .return_, 45, []) := by decide +kernel
theorem xe_97_44 (a0 a1 : Option MV) (μ : MM) (G : MG) : ev 97 44 [a0, a1] [] μ G = some (none, μ, G) := ev_ret pg_97_44 rfl
