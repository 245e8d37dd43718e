-- L_law
theorem pg_268_0 : mm_prog 268 0 = some (0, .new 7, 3, [10, 14]) := by decide +kernel
theorem xe_268_0 (a0 a1 a2 a3 : Option MV) (st : List MV) (μ : MM) (G : MG) : ev 268 0 [a0, a1, a2, a3] st μ G = ev 268 3 [a0, a1, a2, a3] (vR G.2.1 :: st) (mzero μ G.2.1) (gnew G 10 0 14) := ev_stp pg_268_0 rfl
theorem pg_268_3 : mm_prog 268 3 = some (0, .dup, 4, []) := by decide +kernel
theorem xe_268_3 (a0 a1 a2 a3 : Option MV) (x : Int) (st : List MV) (μ : MM) (G : MG) : ev 268 3 [a0, a1, a2, a3] (vR x :: st) μ G = ev 268 4 [a0, a1, a2, a3] (vR x :: vR x :: st) μ G := ev_stp pg_268_3 rfl
theorem pg_268_4 : mm_prog 268 4 = some (1, .invokespecial 9, 7, [1, 98, 0, 10]) := by decide +kernel
theorem xe_268_4 (a0 a1 a2 a3 : Option MV) (z r0 : Int) (μ : MM) (G : MG) : ev 268 4 [a0, a1, a2, a3] (vR z :: [vR r0]) μ G = if gk G z = 10 ∧ 0 < z then (ev 98 0 [some (vR z)] [] μ G).bind (fun q => ev 268 7 [a0, a1, a2, a3] (q.1.toList ++ [vR r0]) q.2.1 q.2.2) else none := ev_calV (as := [vR z]) (r := [vR r0]) mx_98 pg_268_4 rfl rfl (Nat.le_of_ble_eq_true rfl) (Nat.le_of_ble_eq_true rfl)
theorem pg_268_7 : mm_prog 268 7 = some (0, .astore_n 1, 8, []) := by decide +kernel
theorem xe_268_7 (a0 a1 a2 a3 : Option MV) (x : Int) (st : List MV) (μ : MM) (G : MG) (h : mm_nL a0 = true) : ev 268 7 [a0, a1, a2, a3] (vR x :: st) μ G = ev 268 8 [a0, some (vR x), a2, a3] st μ G := ev_st pg_268_7 rfl (mm_nl_of h) (Nat.le_of_ble_eq_true rfl)
theorem pg_268_8 : mm_prog 268 8 = some (0, .new 10, 11, [11, 47]) := by decide +kernel
theorem xe_268_8 (a0 a1 a2 a3 : Option MV) (st : List MV) (μ : MM) (G : MG) : ev 268 8 [a0, a1, a2, a3] st μ G = ev 268 11 [a0, a1, a2, a3] (vR G.2.1 :: st) (mzero μ G.2.1) (gnew G 11 0 47) := ev_stp pg_268_8 rfl
theorem pg_268_11 : mm_prog 268 11 = some (0, .dup, 12, []) := by decide +kernel
theorem xe_268_11 (a0 a1 a2 a3 : Option MV) (x : Int) (st : List MV) (μ : MM) (G : MG) : ev 268 11 [a0, a1, a2, a3] (vR x :: st) μ G = ev 268 12 [a0, a1, a2, a3] (vR x :: vR x :: st) μ G := ev_stp pg_268_11 rfl
theorem pg_268_12 : mm_prog 268 12 = some (1, .invokespecial 12, 15, [1, 151, 0, 11]) := by decide +kernel
theorem xe_268_12 (a0 a1 a2 a3 : Option MV) (z r0 : Int) (μ : MM) (G : MG) : ev 268 12 [a0, a1, a2, a3] (vR z :: [vR r0]) μ G = if gk G z = 11 ∧ 0 < z then (ev 151 0 [some (vR z)] [] μ G).bind (fun q => ev 268 15 [a0, a1, a2, a3] (q.1.toList ++ [vR r0]) q.2.1 q.2.2) else none := ev_calV (as := [vR z]) (r := [vR r0]) mx_151 pg_268_12 rfl rfl (Nat.le_of_ble_eq_true rfl) (Nat.le_of_ble_eq_true rfl)
theorem pg_268_15 : mm_prog 268 15 = some (0, .astore_n 2, 16, []) := by decide +kernel
theorem xe_268_15 (a0 a1 a2 a3 : Option MV) (x : Int) (st : List MV) (μ : MM) (G : MG) (h : mm_nL a1 = true) : ev 268 15 [a0, a1, a2, a3] (vR x :: st) μ G = ev 268 16 [a0, a1, some (vR x), a3] st μ G := ev_st pg_268_15 rfl (mm_nl_of h) (Nat.le_of_ble_eq_true rfl)
theorem pg_268_16 : mm_prog 268 16 = some (0, .iconst 0, 17, []) := by decide +kernel
theorem xe_268_16 (a0 a1 a2 a3 : Option MV) (st : List MV) (μ : MM) (G : MG) : ev 268 16 [a0, a1, a2, a3] st μ G = ev 268 17 [a0, a1, a2, a3] (vI (0) :: st) μ G := ev_stp pg_268_16 rfl
theorem pg_268_17 : mm_prog 268 17 = some (0, .istore_n 3, 18, []) := by decide +kernel
theorem xe_268_17 (a0 a1 a2 a3 : Option MV) (x : Int) (st : List MV) (μ : MM) (G : MG) (h : mm_nL a2 = true) : ev 268 17 [a0, a1, a2, a3] (vI x :: st) μ G = ev 268 18 [a0, a1, a2, some (vI x)] st μ G := ev_st pg_268_17 rfl (mm_nl_of h) (Nat.le_of_ble_eq_true rfl)
theorem pg_268_18 : mm_prog 268 18 = some (0, .iload_n 3, 19, []) := by decide +kernel
theorem xe_268_18 (a0 a1 a2 : Option MV) (x : Int) (st : List MV) (μ : MM) (G : MG) : ev 268 18 [a0, a1, a2, some (vI x)] st μ G = ev 268 19 [a0, a1, a2, some (vI x)] (vI x :: st) μ G := ev_stp pg_268_18 rfl
theorem pg_268_19 : mm_prog 268 19 = some (0, .aload_n 0, 20, []) := by decide +kernel
theorem xe_268_19 (a1 a2 a3 : Option MV) (x : Int) (st : List MV) (μ : MM) (G : MG) : ev 268 19 [some (vR x), a1, a2, a3] st μ G = ev 268 20 [some (vR x), a1, a2, a3] (vR x :: st) μ G := ev_stp pg_268_19 rfl
theorem pg_268_20 : mm_prog 268 20 = some (0, .arraylength, 21, []) := by decide +kernel
theorem xe_268_20 (a0 a1 a2 a3 : Option MV) (x : Int) (st : List MV) (μ : MM) (G : MG) : ev 268 20 [a0, a1, a2, a3] (vR x :: st) μ G = if 100 ≤ gk G x then ev 268 21 [a0, a1, a2, a3] (vI (gl G x) :: st) μ G else none := ev_if pg_268_20 rfl
theorem pg_268_21 : mm_prog 268 21 = some (0, .bipush 7, 23, []) := by decide +kernel
theorem xe_268_21 (a0 a1 a2 a3 : Option MV) (st : List MV) (μ : MM) (G : MG) : ev 268 21 [a0, a1, a2, a3] st μ G = ev 268 23 [a0, a1, a2, a3] (vI (7) :: st) μ G := ev_stp pg_268_21 rfl
theorem pg_268_23 : mm_prog 268 23 = some (0, .isub, 24, []) := by decide +kernel
theorem xe_268_23 (a0 a1 a2 a3 : Option MV) (x y : Int) (st : List MV) (μ : MM) (G : MG) : ev 268 23 [a0, a1, a2, a3] (vI y :: vI x :: st) μ G = ev 268 24 [a0, a1, a2, a3] (vI (w32 (x - y)) :: st) μ G := ev_stp pg_268_23 rfl
theorem pg_268_24 : mm_prog 268 24 = some (0, .if_icmp .gt 1260, 27, []) := by decide +kernel
theorem xe_268_24 (a0 a1 a2 a3 : Option MV) (x y : Int) (st : List MV) (μ : MM) (G : MG) : ev 268 24 [a0, a1, a2, a3] (vI y :: vI x :: st) μ G = if y < x then ev 268 1284 [a0, a1, a2, a3] st μ G else ev 268 27 [a0, a1, a2, a3] st μ G := ev_br (mm_cnd_gt x y) pg_268_24 rfl
theorem pg_268_27 : mm_prog 268 27 = some (0, .aload_n 0, 28, []) := by decide +kernel
theorem xe_268_27 (a1 a2 a3 : Option MV) (x : Int) (st : List MV) (μ : MM) (G : MG) : ev 268 27 [some (vR x), a1, a2, a3] st μ G = ev 268 28 [some (vR x), a1, a2, a3] (vR x :: st) μ G := ev_stp pg_268_27 rfl
theorem pg_268_28 : mm_prog 268 28 = some (0, .iload_n 3, 29, []) := by decide +kernel
theorem xe_268_28 (a0 a1 a2 : Option MV) (x : Int) (st : List MV) (μ : MM) (G : MG) : ev 268 28 [a0, a1, a2, some (vI x)] st μ G = ev 268 29 [a0, a1, a2, some (vI x)] (vI x :: st) μ G := ev_stp pg_268_28 rfl
theorem pg_268_29 : mm_prog 268 29 = some (0, .iaload, 30, []) := by decide +kernel
theorem xe_268_29 (a0 a1 a2 a3 : Option MV) (x y : Int) (st : List MV) (μ : MM) (G : MG) : ev 268 29 [a0, a1, a2, a3] (vI x :: vR y :: st) μ G = if gk G y = 100 ∧ 0 ≤ x ∧ x < gl G y then ev 268 30 [a0, a1, a2, a3] (vI (μ y x) :: st) μ G else none := ev_if pg_268_29 rfl
theorem pg_268_30 : mm_prog 268 30 = some (0, .bipush 63, 32, []) := by decide +kernel
theorem xe_268_30 (a0 a1 a2 a3 : Option MV) (st : List MV) (μ : MM) (G : MG) : ev 268 30 [a0, a1, a2, a3] st μ G = ev 268 32 [a0, a1, a2, a3] (vI (63) :: st) μ G := ev_stp pg_268_30 rfl
theorem pg_268_32 : mm_prog 268 32 = some (0, .iand, 33, []) := by decide +kernel
theorem xe_268_32 (a0 a1 a2 a3 : Option MV) (x y : Int) (st : List MV) (μ : MM) (G : MG) : ev 268 32 [a0, a1, a2, a3] (vI y :: vI x :: st) μ G = ev 268 33 [a0, a1, a2, a3] (vI (mm_and x y) :: st) μ G := ev_stp pg_268_32 rfl
theorem pg_268_33 : mm_prog 268 33 = some (0, .tableswitch 1245 0 33 #[151, 214, 237, 260, 283, 306, 329, 362, 385, 418, 451, 494, 557, 620, 695, 718, 751, 784, 827, 860, 903, 936, 949, 972, 995, 1028, 1061, 1094, 1117, 1140, 1163, 1186, 1199, 1222], 184, [1278, 0, 184, 1, 247, 2, 270, 3, 293, 4, 316, 5, 339, 6, 362, 7, 395, 8, 418, 9, 451, 10, 484, 11, 527, 12, 590, 13, 653, 14, 728, 15, 751, 16, 784, 17, 817, 18, 860, 19, 893, 20, 936, 21, 969, 22, 982, 23, 1005, 24, 1028, 25, 1061, 26, 1094, 27, 1127, 28, 1150, 29, 1173, 30, 1196, 31, 1219, 32, 1232, 33, 1255]) := by decide +kernel
theorem xe_268_33 (a0 a1 a2 a3 : Option MV) (x : Int) (st : List MV) (μ : MM) (G : MG) : ev 268 33 [a0, a1, a2, a3] (vI x :: st) μ G = if x = 0 then ev 268 184 [a0, a1, a2, a3] st μ G else if x = 1 then ev 268 247 [a0, a1, a2, a3] st μ G else if x = 2 then ev 268 270 [a0, a1, a2, a3] st μ G else if x = 3 then ev 268 293 [a0, a1, a2, a3] st μ G else if x = 4 then ev 268 316 [a0, a1, a2, a3] st μ G else if x = 5 then ev 268 339 [a0, a1, a2, a3] st μ G else if x = 6 then ev 268 362 [a0, a1, a2, a3] st μ G else if x = 7 then ev 268 395 [a0, a1, a2, a3] st μ G else if x = 8 then ev 268 418 [a0, a1, a2, a3] st μ G else if x = 9 then ev 268 451 [a0, a1, a2, a3] st μ G else if x = 10 then ev 268 484 [a0, a1, a2, a3] st μ G else if x = 11 then ev 268 527 [a0, a1, a2, a3] st μ G else if x = 12 then ev 268 590 [a0, a1, a2, a3] st μ G else if x = 13 then ev 268 653 [a0, a1, a2, a3] st μ G else if x = 14 then ev 268 728 [a0, a1, a2, a3] st μ G else if x = 15 then ev 268 751 [a0, a1, a2, a3] st μ G else if x = 16 then ev 268 784 [a0, a1, a2, a3] st μ G else if x = 17 then ev 268 817 [a0, a1, a2, a3] st μ G else if x = 18 then ev 268 860 [a0, a1, a2, a3] st μ G else if x = 19 then ev 268 893 [a0, a1, a2, a3] st μ G else if x = 20 then ev 268 936 [a0, a1, a2, a3] st μ G else if x = 21 then ev 268 969 [a0, a1, a2, a3] st μ G else if x = 22 then ev 268 982 [a0, a1, a2, a3] st μ G else if x = 23 then ev 268 1005 [a0, a1, a2, a3] st μ G else if x = 24 then ev 268 1028 [a0, a1, a2, a3] st μ G else if x = 25 then ev 268 1061 [a0, a1, a2, a3] st μ G else if x = 26 then ev 268 1094 [a0, a1, a2, a3] st μ G else if x = 27 then ev 268 1127 [a0, a1, a2, a3] st μ G else if x = 28 then ev 268 1150 [a0, a1, a2, a3] st μ G else if x = 29 then ev 268 1173 [a0, a1, a2, a3] st μ G else if x = 30 then ev 268 1196 [a0, a1, a2, a3] st μ G else if x = 31 then ev 268 1219 [a0, a1, a2, a3] st μ G else if x = 32 then ev 268 1232 [a0, a1, a2, a3] st μ G else if x = 33 then ev 268 1255 [a0, a1, a2, a3] st μ G else ev 268 1278 [a0, a1, a2, a3] st μ G := ev_sw (x := x) (d := 1278) (l := [0, 184, 1, 247, 2, 270, 3, 293, 4, 316, 5, 339, 6, 362, 7, 395, 8, 418, 9, 451, 10, 484, 11, 527, 12, 590, 13, 653, 14, 728, 15, 751, 16, 784, 17, 817, 18, 860, 19, 893, 20, 936, 21, 969, 22, 982, 23, 1005, 24, 1028, 25, 1061, 26, 1094, 27, 1127, 28, 1150, 29, 1173, 30, 1196, 31, 1219, 32, 1232, 33, 1255]) (st' := st) pg_268_33 rfl
theorem pg_268_184 : mm_prog 268 184 = some (0, .aload_n 1, 185, []) := by decide +kernel
theorem xe_268_184 (a0 a2 a3 : Option MV) (x : Int) (st : List MV) (μ : MM) (G : MG) : ev 268 184 [a0, some (vR x), a2, a3] st μ G = ev 268 185 [a0, some (vR x), a2, a3] (vR x :: st) μ G := ev_stp pg_268_184 rfl
theorem pg_268_185 : mm_prog 268 185 = some (0, .aload_n 0, 186, []) := by decide +kernel
theorem xe_268_185 (a1 a2 a3 : Option MV) (x : Int) (st : List MV) (μ : MM) (G : MG) : ev 268 185 [some (vR x), a1, a2, a3] st μ G = ev 268 186 [some (vR x), a1, a2, a3] (vR x :: st) μ G := ev_stp pg_268_185 rfl
theorem pg_268_186 : mm_prog 268 186 = some (0, .iload_n 3, 187, []) := by decide +kernel
theorem xe_268_186 (a0 a1 a2 : Option MV) (x : Int) (st : List MV) (μ : MM) (G : MG) : ev 268 186 [a0, a1, a2, some (vI x)] st μ G = ev 268 187 [a0, a1, a2, some (vI x)] (vI x :: st) μ G := ev_stp pg_268_186 rfl
theorem pg_268_187 : mm_prog 268 187 = some (0, .iconst 1, 188, []) := by decide +kernel
theorem xe_268_187 (a0 a1 a2 a3 : Option MV) (st : List MV) (μ : MM) (G : MG) : ev 268 187 [a0, a1, a2, a3] st μ G = ev 268 188 [a0, a1, a2, a3] (vI (1) :: st) μ G := ev_stp pg_268_187 rfl
theorem pg_268_188 : mm_prog 268 188 = some (0, .iadd, 189, []) := by decide +kernel
theorem xe_268_188 (a0 a1 a2 a3 : Option MV) (x y : Int) (st : List MV) (μ : MM) (G : MG) : ev 268 188 [a0, a1, a2, a3] (vI y :: vI x :: st) μ G = ev 268 189 [a0, a1, a2, a3] (vI (w32 (x + y)) :: st) μ G := ev_stp pg_268_188 rfl
theorem pg_268_189 : mm_prog 268 189 = some (0, .iaload, 190, []) := by decide +kernel
theorem xe_268_189 (a0 a1 a2 a3 : Option MV) (x y : Int) (st : List MV) (μ : MM) (G : MG) : ev 268 189 [a0, a1, a2, a3] (vI x :: vR y :: st) μ G = if gk G y = 100 ∧ 0 ≤ x ∧ x < gl G y then ev 268 190 [a0, a1, a2, a3] (vI (μ y x) :: st) μ G else none := ev_if pg_268_189 rfl
theorem pg_268_190 : mm_prog 268 190 = some (0, .aload_n 0, 191, []) := by decide +kernel
theorem xe_268_190 (a1 a2 a3 : Option MV) (x : Int) (st : List MV) (μ : MM) (G : MG) : ev 268 190 [some (vR x), a1, a2, a3] st μ G = ev 268 191 [some (vR x), a1, a2, a3] (vR x :: st) μ G := ev_stp pg_268_190 rfl
theorem pg_268_191 : mm_prog 268 191 = some (0, .iload_n 3, 192, []) := by decide +kernel
theorem xe_268_191 (a0 a1 a2 : Option MV) (x : Int) (st : List MV) (μ : MM) (G : MG) : ev 268 191 [a0, a1, a2, some (vI x)] st μ G = ev 268 192 [a0, a1, a2, some (vI x)] (vI x :: st) μ G := ev_stp pg_268_191 rfl
theorem pg_268_192 : mm_prog 268 192 = some (0, .iconst 2, 193, []) := by decide +kernel
theorem xe_268_192 (a0 a1 a2 a3 : Option MV) (st : List MV) (μ : MM) (G : MG) : ev 268 192 [a0, a1, a2, a3] st μ G = ev 268 193 [a0, a1, a2, a3] (vI (2) :: st) μ G := ev_stp pg_268_192 rfl
theorem pg_268_193 : mm_prog 268 193 = some (0, .iadd, 194, []) := by decide +kernel
theorem xe_268_193 (a0 a1 a2 a3 : Option MV) (x y : Int) (st : List MV) (μ : MM) (G : MG) : ev 268 193 [a0, a1, a2, a3] (vI y :: vI x :: st) μ G = ev 268 194 [a0, a1, a2, a3] (vI (w32 (x + y)) :: st) μ G := ev_stp pg_268_193 rfl
theorem pg_268_194 : mm_prog 268 194 = some (0, .iaload, 195, []) := by decide +kernel
theorem xe_268_194 (a0 a1 a2 a3 : Option MV) (x y : Int) (st : List MV) (μ : MM) (G : MG) : ev 268 194 [a0, a1, a2, a3] (vI x :: vR y :: st) μ G = if gk G y = 100 ∧ 0 ≤ x ∧ x < gl G y then ev 268 195 [a0, a1, a2, a3] (vI (μ y x) :: st) μ G else none := ev_if pg_268_194 rfl
theorem pg_268_195 : mm_prog 268 195 = some (0, .aload_n 0, 196, []) := by decide +kernel
theorem xe_268_195 (a1 a2 a3 : Option MV) (x : Int) (st : List MV) (μ : MM) (G : MG) : ev 268 195 [some (vR x), a1, a2, a3] st μ G = ev 268 196 [some (vR x), a1, a2, a3] (vR x :: st) μ G := ev_stp pg_268_195 rfl
theorem pg_268_196 : mm_prog 268 196 = some (0, .iload_n 3, 197, []) := by decide +kernel
theorem xe_268_196 (a0 a1 a2 : Option MV) (x : Int) (st : List MV) (μ : MM) (G : MG) : ev 268 196 [a0, a1, a2, some (vI x)] st μ G = ev 268 197 [a0, a1, a2, some (vI x)] (vI x :: st) μ G := ev_stp pg_268_196 rfl
theorem pg_268_197 : mm_prog 268 197 = some (0, .iconst 3, 198, []) := by decide +kernel
theorem xe_268_197 (a0 a1 a2 a3 : Option MV) (st : List MV) (μ : MM) (G : MG) : ev 268 197 [a0, a1, a2, a3] st μ G = ev 268 198 [a0, a1, a2, a3] (vI (3) :: st) μ G := ev_stp pg_268_197 rfl
theorem pg_268_198 : mm_prog 268 198 = some (0, .iadd, 199, []) := by decide +kernel
theorem xe_268_198 (a0 a1 a2 a3 : Option MV) (x y : Int) (st : List MV) (μ : MM) (G : MG) : ev 268 198 [a0, a1, a2, a3] (vI y :: vI x :: st) μ G = ev 268 199 [a0, a1, a2, a3] (vI (w32 (x + y)) :: st) μ G := ev_stp pg_268_198 rfl
theorem pg_268_199 : mm_prog 268 199 = some (0, .iaload, 200, []) := by decide +kernel
theorem xe_268_199 (a0 a1 a2 a3 : Option MV) (x y : Int) (st : List MV) (μ : MM) (G : MG) : ev 268 199 [a0, a1, a2, a3] (vI x :: vR y :: st) μ G = if gk G y = 100 ∧ 0 ≤ x ∧ x < gl G y then ev 268 200 [a0, a1, a2, a3] (vI (μ y x) :: st) μ G else none := ev_if pg_268_199 rfl
theorem pg_268_200 : mm_prog 268 200 = some (0, .aload_n 0, 201, []) := by decide +kernel
theorem xe_268_200 (a1 a2 a3 : Option MV) (x : Int) (st : List MV) (μ : MM) (G : MG) : ev 268 200 [some (vR x), a1, a2, a3] st μ G = ev 268 201 [some (vR x), a1, a2, a3] (vR x :: st) μ G := ev_stp pg_268_200 rfl
theorem pg_268_201 : mm_prog 268 201 = some (0, .iload_n 3, 202, []) := by decide +kernel
theorem xe_268_201 (a0 a1 a2 : Option MV) (x : Int) (st : List MV) (μ : MM) (G : MG) : ev 268 201 [a0, a1, a2, some (vI x)] st μ G = ev 268 202 [a0, a1, a2, some (vI x)] (vI x :: st) μ G := ev_stp pg_268_201 rfl
theorem pg_268_202 : mm_prog 268 202 = some (0, .iconst 4, 203, []) := by decide +kernel
theorem xe_268_202 (a0 a1 a2 a3 : Option MV) (st : List MV) (μ : MM) (G : MG) : ev 268 202 [a0, a1, a2, a3] st μ G = ev 268 203 [a0, a1, a2, a3] (vI (4) :: st) μ G := ev_stp pg_268_202 rfl
theorem pg_268_203 : mm_prog 268 203 = some (0, .iadd, 204, []) := by decide +kernel
theorem xe_268_203 (a0 a1 a2 a3 : Option MV) (x y : Int) (st : List MV) (μ : MM) (G : MG) : ev 268 203 [a0, a1, a2, a3] (vI y :: vI x :: st) μ G = ev 268 204 [a0, a1, a2, a3] (vI (w32 (x + y)) :: st) μ G := ev_stp pg_268_203 rfl
theorem pg_268_204 : mm_prog 268 204 = some (0, .iaload, 205, []) := by decide +kernel
theorem xe_268_204 (a0 a1 a2 a3 : Option MV) (x y : Int) (st : List MV) (μ : MM) (G : MG) : ev 268 204 [a0, a1, a2, a3] (vI x :: vR y :: st) μ G = if gk G y = 100 ∧ 0 ≤ x ∧ x < gl G y then ev 268 205 [a0, a1, a2, a3] (vI (μ y x) :: st) μ G else none := ev_if pg_268_204 rfl
theorem pg_268_205 : mm_prog 268 205 = some (0, .aload_n 0, 206, []) := by decide +kernel
theorem xe_268_205 (a1 a2 a3 : Option MV) (x : Int) (st : List MV) (μ : MM) (G : MG) : ev 268 205 [some (vR x), a1, a2, a3] st μ G = ev 268 206 [some (vR x), a1, a2, a3] (vR x :: st) μ G := ev_stp pg_268_205 rfl
theorem pg_268_206 : mm_prog 268 206 = some (0, .iload_n 3, 207, []) := by decide +kernel
theorem xe_268_206 (a0 a1 a2 : Option MV) (x : Int) (st : List MV) (μ : MM) (G : MG) : ev 268 206 [a0, a1, a2, some (vI x)] st μ G = ev 268 207 [a0, a1, a2, some (vI x)] (vI x :: st) μ G := ev_stp pg_268_206 rfl
theorem pg_268_207 : mm_prog 268 207 = some (0, .iconst 5, 208, []) := by decide +kernel
theorem xe_268_207 (a0 a1 a2 a3 : Option MV) (st : List MV) (μ : MM) (G : MG) : ev 268 207 [a0, a1, a2, a3] st μ G = ev 268 208 [a0, a1, a2, a3] (vI (5) :: st) μ G := ev_stp pg_268_207 rfl
theorem pg_268_208 : mm_prog 268 208 = some (0, .iadd, 209, []) := by decide +kernel
theorem xe_268_208 (a0 a1 a2 a3 : Option MV) (x y : Int) (st : List MV) (μ : MM) (G : MG) : ev 268 208 [a0, a1, a2, a3] (vI y :: vI x :: st) μ G = ev 268 209 [a0, a1, a2, a3] (vI (w32 (x + y)) :: st) μ G := ev_stp pg_268_208 rfl
theorem pg_268_209 : mm_prog 268 209 = some (0, .iaload, 210, []) := by decide +kernel
theorem xe_268_209 (a0 a1 a2 a3 : Option MV) (x y : Int) (st : List MV) (μ : MM) (G : MG) : ev 268 209 [a0, a1, a2, a3] (vI x :: vR y :: st) μ G = if gk G y = 100 ∧ 0 ≤ x ∧ x < gl G y then ev 268 210 [a0, a1, a2, a3] (vI (μ y x) :: st) μ G else none := ev_if pg_268_209 rfl
theorem pg_268_210 : mm_prog 268 210 = some (1, .invokevirtual 13, 213, [1, 99, 5, 10]) := by decide +kernel
theorem xe_268_210 (a0 a1 a2 a3 : Option MV) (x0 x1 x2 x3 x4 z : Int) (μ : MM) (G : MG) : ev 268 210 [a0, a1, a2, a3] (vI x4 :: vI x3 :: vI x2 :: vI x1 :: vI x0 :: vR z :: []) μ G = if gk G z = 10 ∧ 0 < z then (ev 99 0 [some (vR z), some (vI x0), some (vI x1), some (vI x2), some (vI x3), some (vI x4)] [] μ G).bind (fun q => ev 268 213 [a0, a1, a2, a3] (q.1.toList ++ []) q.2.1 q.2.2) else none := ev_calV (as := [vR z, vI x0, vI x1, vI x2, vI x3, vI x4]) (r := []) mx_99 pg_268_210 rfl rfl (Nat.le_of_ble_eq_true rfl) (Nat.le_of_ble_eq_true rfl)
theorem pg_268_213 : mm_prog 268 213 = some (0, .aload_n 2, 214, []) := by decide +kernel
theorem xe_268_213 (a0 a1 a3 : Option MV) (x : Int) (st : List MV) (μ : MM) (G : MG) : ev 268 213 [a0, a1, some (vR x), a3] st μ G = ev 268 214 [a0, a1, some (vR x), a3] (vR x :: st) μ G := ev_stp pg_268_213 rfl
theorem pg_268_214 : mm_prog 268 214 = some (0, .aload_n 0, 215, []) := by decide +kernel
theorem xe_268_214 (a1 a2 a3 : Option MV) (x : Int) (st : List MV) (μ : MM) (G : MG) : ev 268 214 [some (vR x), a1, a2, a3] st μ G = ev 268 215 [some (vR x), a1, a2, a3] (vR x :: st) μ G := ev_stp pg_268_214 rfl
theorem pg_268_215 : mm_prog 268 215 = some (0, .iload_n 3, 216, []) := by decide +kernel
theorem xe_268_215 (a0 a1 a2 : Option MV) (x : Int) (st : List MV) (μ : MM) (G : MG) : ev 268 215 [a0, a1, a2, some (vI x)] st μ G = ev 268 216 [a0, a1, a2, some (vI x)] (vI x :: st) μ G := ev_stp pg_268_215 rfl
theorem pg_268_216 : mm_prog 268 216 = some (0, .iconst 1, 217, []) := by decide +kernel
theorem xe_268_216 (a0 a1 a2 a3 : Option MV) (st : List MV) (μ : MM) (G : MG) : ev 268 216 [a0, a1, a2, a3] st μ G = ev 268 217 [a0, a1, a2, a3] (vI (1) :: st) μ G := ev_stp pg_268_216 rfl
theorem pg_268_217 : mm_prog 268 217 = some (0, .iadd, 218, []) := by decide +kernel
theorem xe_268_217 (a0 a1 a2 a3 : Option MV) (x y : Int) (st : List MV) (μ : MM) (G : MG) : ev 268 217 [a0, a1, a2, a3] (vI y :: vI x :: st) μ G = ev 268 218 [a0, a1, a2, a3] (vI (w32 (x + y)) :: st) μ G := ev_stp pg_268_217 rfl
theorem pg_268_218 : mm_prog 268 218 = some (0, .iaload, 219, []) := by decide +kernel
theorem xe_268_218 (a0 a1 a2 a3 : Option MV) (x y : Int) (st : List MV) (μ : MM) (G : MG) : ev 268 218 [a0, a1, a2, a3] (vI x :: vR y :: st) μ G = if gk G y = 100 ∧ 0 ≤ x ∧ x < gl G y then ev 268 219 [a0, a1, a2, a3] (vI (μ y x) :: st) μ G else none := ev_if pg_268_218 rfl
theorem pg_268_219 : mm_prog 268 219 = some (0, .aload_n 0, 220, []) := by decide +kernel
theorem xe_268_219 (a1 a2 a3 : Option MV) (x : Int) (st : List MV) (μ : MM) (G : MG) : ev 268 219 [some (vR x), a1, a2, a3] st μ G = ev 268 220 [some (vR x), a1, a2, a3] (vR x :: st) μ G := ev_stp pg_268_219 rfl
theorem pg_268_220 : mm_prog 268 220 = some (0, .iload_n 3, 221, []) := by decide +kernel
theorem xe_268_220 (a0 a1 a2 : Option MV) (x : Int) (st : List MV) (μ : MM) (G : MG) : ev 268 220 [a0, a1, a2, some (vI x)] st μ G = ev 268 221 [a0, a1, a2, some (vI x)] (vI x :: st) μ G := ev_stp pg_268_220 rfl
theorem pg_268_221 : mm_prog 268 221 = some (0, .iconst 2, 222, []) := by decide +kernel
theorem xe_268_221 (a0 a1 a2 a3 : Option MV) (st : List MV) (μ : MM) (G : MG) : ev 268 221 [a0, a1, a2, a3] st μ G = ev 268 222 [a0, a1, a2, a3] (vI (2) :: st) μ G := ev_stp pg_268_221 rfl
theorem pg_268_222 : mm_prog 268 222 = some (0, .iadd, 223, []) := by decide +kernel
theorem xe_268_222 (a0 a1 a2 a3 : Option MV) (x y : Int) (st : List MV) (μ : MM) (G : MG) : ev 268 222 [a0, a1, a2, a3] (vI y :: vI x :: st) μ G = ev 268 223 [a0, a1, a2, a3] (vI (w32 (x + y)) :: st) μ G := ev_stp pg_268_222 rfl
theorem pg_268_223 : mm_prog 268 223 = some (0, .iaload, 224, []) := by decide +kernel
theorem xe_268_223 (a0 a1 a2 a3 : Option MV) (x y : Int) (st : List MV) (μ : MM) (G : MG) : ev 268 223 [a0, a1, a2, a3] (vI x :: vR y :: st) μ G = if gk G y = 100 ∧ 0 ≤ x ∧ x < gl G y then ev 268 224 [a0, a1, a2, a3] (vI (μ y x) :: st) μ G else none := ev_if pg_268_223 rfl
theorem pg_268_224 : mm_prog 268 224 = some (0, .aload_n 0, 225, []) := by decide +kernel
theorem xe_268_224 (a1 a2 a3 : Option MV) (x : Int) (st : List MV) (μ : MM) (G : MG) : ev 268 224 [some (vR x), a1, a2, a3] st μ G = ev 268 225 [some (vR x), a1, a2, a3] (vR x :: st) μ G := ev_stp pg_268_224 rfl
theorem pg_268_225 : mm_prog 268 225 = some (0, .iload_n 3, 226, []) := by decide +kernel
theorem xe_268_225 (a0 a1 a2 : Option MV) (x : Int) (st : List MV) (μ : MM) (G : MG) : ev 268 225 [a0, a1, a2, some (vI x)] st μ G = ev 268 226 [a0, a1, a2, some (vI x)] (vI x :: st) μ G := ev_stp pg_268_225 rfl
theorem pg_268_226 : mm_prog 268 226 = some (0, .iconst 3, 227, []) := by decide +kernel
theorem xe_268_226 (a0 a1 a2 a3 : Option MV) (st : List MV) (μ : MM) (G : MG) : ev 268 226 [a0, a1, a2, a3] st μ G = ev 268 227 [a0, a1, a2, a3] (vI (3) :: st) μ G := ev_stp pg_268_226 rfl
theorem pg_268_227 : mm_prog 268 227 = some (0, .iadd, 228, []) := by decide +kernel
theorem xe_268_227 (a0 a1 a2 a3 : Option MV) (x y : Int) (st : List MV) (μ : MM) (G : MG) : ev 268 227 [a0, a1, a2, a3] (vI y :: vI x :: st) μ G = ev 268 228 [a0, a1, a2, a3] (vI (w32 (x + y)) :: st) μ G := ev_stp pg_268_227 rfl
theorem pg_268_228 : mm_prog 268 228 = some (0, .iaload, 229, []) := by decide +kernel
theorem xe_268_228 (a0 a1 a2 a3 : Option MV) (x y : Int) (st : List MV) (μ : MM) (G : MG) : ev 268 228 [a0, a1, a2, a3] (vI x :: vR y :: st) μ G = if gk G y = 100 ∧ 0 ≤ x ∧ x < gl G y then ev 268 229 [a0, a1, a2, a3] (vI (μ y x) :: st) μ G else none := ev_if pg_268_228 rfl
theorem pg_268_229 : mm_prog 268 229 = some (0, .aload_n 0, 230, []) := by decide +kernel
theorem xe_268_229 (a1 a2 a3 : Option MV) (x : Int) (st : List MV) (μ : MM) (G : MG) : ev 268 229 [some (vR x), a1, a2, a3] st μ G = ev 268 230 [some (vR x), a1, a2, a3] (vR x :: st) μ G := ev_stp pg_268_229 rfl
theorem pg_268_230 : mm_prog 268 230 = some (0, .iload_n 3, 231, []) := by decide +kernel
theorem xe_268_230 (a0 a1 a2 : Option MV) (x : Int) (st : List MV) (μ : MM) (G : MG) : ev 268 230 [a0, a1, a2, some (vI x)] st μ G = ev 268 231 [a0, a1, a2, some (vI x)] (vI x :: st) μ G := ev_stp pg_268_230 rfl
theorem pg_268_231 : mm_prog 268 231 = some (0, .iconst 4, 232, []) := by decide +kernel
theorem xe_268_231 (a0 a1 a2 a3 : Option MV) (st : List MV) (μ : MM) (G : MG) : ev 268 231 [a0, a1, a2, a3] st μ G = ev 268 232 [a0, a1, a2, a3] (vI (4) :: st) μ G := ev_stp pg_268_231 rfl
theorem pg_268_232 : mm_prog 268 232 = some (0, .iadd, 233, []) := by decide +kernel
theorem xe_268_232 (a0 a1 a2 a3 : Option MV) (x y : Int) (st : List MV) (μ : MM) (G : MG) : ev 268 232 [a0, a1, a2, a3] (vI y :: vI x :: st) μ G = ev 268 233 [a0, a1, a2, a3] (vI (w32 (x + y)) :: st) μ G := ev_stp pg_268_232 rfl
theorem pg_268_233 : mm_prog 268 233 = some (0, .iaload, 234, []) := by decide +kernel
theorem xe_268_233 (a0 a1 a2 a3 : Option MV) (x y : Int) (st : List MV) (μ : MM) (G : MG) : ev 268 233 [a0, a1, a2, a3] (vI x :: vR y :: st) μ G = if gk G y = 100 ∧ 0 ≤ x ∧ x < gl G y then ev 268 234 [a0, a1, a2, a3] (vI (μ y x) :: st) μ G else none := ev_if pg_268_233 rfl
theorem pg_268_234 : mm_prog 268 234 = some (0, .aload_n 0, 235, []) := by decide +kernel
theorem xe_268_234 (a1 a2 a3 : Option MV) (x : Int) (st : List MV) (μ : MM) (G : MG) : ev 268 234 [some (vR x), a1, a2, a3] st μ G = ev 268 235 [some (vR x), a1, a2, a3] (vR x :: st) μ G := ev_stp pg_268_234 rfl
theorem pg_268_235 : mm_prog 268 235 = some (0, .iload_n 3, 236, []) := by decide +kernel
theorem xe_268_235 (a0 a1 a2 : Option MV) (x : Int) (st : List MV) (μ : MM) (G : MG) : ev 268 235 [a0, a1, a2, some (vI x)] st μ G = ev 268 236 [a0, a1, a2, some (vI x)] (vI x :: st) μ G := ev_stp pg_268_235 rfl
theorem pg_268_236 : mm_prog 268 236 = some (0, .iconst 5, 237, []) := by decide +kernel
theorem xe_268_236 (a0 a1 a2 a3 : Option MV) (st : List MV) (μ : MM) (G : MG) : ev 268 236 [a0, a1, a2, a3] st μ G = ev 268 237 [a0, a1, a2, a3] (vI (5) :: st) μ G := ev_stp pg_268_236 rfl
theorem pg_268_237 : mm_prog 268 237 = some (0, .iadd, 238, []) := by decide +kernel
theorem xe_268_237 (a0 a1 a2 a3 : Option MV) (x y : Int) (st : List MV) (μ : MM) (G : MG) : ev 268 237 [a0, a1, a2, a3] (vI y :: vI x :: st) μ G = ev 268 238 [a0, a1, a2, a3] (vI (w32 (x + y)) :: st) μ G := ev_stp pg_268_237 rfl
theorem pg_268_238 : mm_prog 268 238 = some (0, .iaload, 239, []) := by decide +kernel
theorem xe_268_238 (a0 a1 a2 a3 : Option MV) (x y : Int) (st : List MV) (μ : MM) (G : MG) : ev 268 238 [a0, a1, a2, a3] (vI x :: vR y :: st) μ G = if gk G y = 100 ∧ 0 ≤ x ∧ x < gl G y then ev 268 239 [a0, a1, a2, a3] (vI (μ y x) :: st) μ G else none := ev_if pg_268_238 rfl
theorem pg_268_239 : mm_prog 268 239 = some (1, .invokevirtual 17, 242, [1, 152, 5, 11]) := by decide +kernel
theorem xe_268_239 (a0 a1 a2 a3 : Option MV) (x0 x1 x2 x3 x4 z r0 : Int) (μ : MM) (G : MG) : ev 268 239 [a0, a1, a2, a3] (vI x4 :: vI x3 :: vI x2 :: vI x1 :: vI x0 :: vR z :: [vI r0]) μ G = if gk G z = 11 ∧ 0 < z then (ev 152 0 [some (vR z), some (vI x0), some (vI x1), some (vI x2), some (vI x3), some (vI x4), none, none] [] μ G).bind (fun q => ev 268 242 [a0, a1, a2, a3] (q.1.toList ++ [vI r0]) q.2.1 q.2.2) else none := ev_calV (as := [vR z, vI x0, vI x1, vI x2, vI x3, vI x4]) (r := [vI r0]) mx_152 pg_268_239 rfl rfl (Nat.le_of_ble_eq_true rfl) (Nat.le_of_ble_eq_true rfl)
theorem pg_268_242 : mm_prog 268 242 = some (0, .if_icmp .eq 1036, 245, []) := by decide +kernel
theorem xe_268_242 (a0 a1 a2 a3 : Option MV) (x y : Int) (st : List MV) (μ : MM) (G : MG) : ev 268 242 [a0, a1, a2, a3] (vI y :: vI x :: st) μ G = if x = y then ev 268 1278 [a0, a1, a2, a3] st μ G else ev 268 245 [a0, a1, a2, a3] st μ G := ev_br (mm_cnd_eq x y) pg_268_242 rfl
theorem pg_268_245 : mm_prog 268 245 = some (0, .iconst 0, 246, []) := by decide +kernel
theorem xe_268_245 (a0 a1 a2 a3 : Option MV) (st : List MV) (μ : MM) (G : MG) : ev 268 245 [a0, a1, a2, a3] st μ G = ev 268 246 [a0, a1, a2, a3] (vI (0) :: st) μ G := ev_stp pg_268_245 rfl
theorem pg_268_246 : mm_prog 268 246 = some (2, .ireturn, 247, [1]) := by decide +kernel
theorem xe_268_246 (a0 a1 a2 a3 : Option MV) (x : Int) (μ : MM) (G : MG) : ev 268 246 [a0, a1, a2, a3] [vI x] μ G = if x = 0 ∨ x = 1 then some (some (vI x), μ, G) else none := ev_retB pg_268_246
theorem pg_268_247 : mm_prog 268 247 = some (0, .aload_n 1, 248, []) := by decide +kernel
theorem xe_268_247 (a0 a2 a3 : Option MV) (x : Int) (st : List MV) (μ : MM) (G : MG) : ev 268 247 [a0, some (vR x), a2, a3] st μ G = ev 268 248 [a0, some (vR x), a2, a3] (vR x :: st) μ G := ev_stp pg_268_247 rfl
theorem pg_268_248 : mm_prog 268 248 = some (0, .aload_n 0, 249, []) := by decide +kernel
theorem xe_268_248 (a1 a2 a3 : Option MV) (x : Int) (st : List MV) (μ : MM) (G : MG) : ev 268 248 [some (vR x), a1, a2, a3] st μ G = ev 268 249 [some (vR x), a1, a2, a3] (vR x :: st) μ G := ev_stp pg_268_248 rfl
theorem pg_268_249 : mm_prog 268 249 = some (0, .iload_n 3, 250, []) := by decide +kernel
theorem xe_268_249 (a0 a1 a2 : Option MV) (x : Int) (st : List MV) (μ : MM) (G : MG) : ev 268 249 [a0, a1, a2, some (vI x)] st μ G = ev 268 250 [a0, a1, a2, some (vI x)] (vI x :: st) μ G := ev_stp pg_268_249 rfl
theorem pg_268_250 : mm_prog 268 250 = some (0, .iconst 1, 251, []) := by decide +kernel
theorem xe_268_250 (a0 a1 a2 a3 : Option MV) (st : List MV) (μ : MM) (G : MG) : ev 268 250 [a0, a1, a2, a3] st μ G = ev 268 251 [a0, a1, a2, a3] (vI (1) :: st) μ G := ev_stp pg_268_250 rfl
theorem pg_268_251 : mm_prog 268 251 = some (0, .iadd, 252, []) := by decide +kernel
theorem xe_268_251 (a0 a1 a2 a3 : Option MV) (x y : Int) (st : List MV) (μ : MM) (G : MG) : ev 268 251 [a0, a1, a2, a3] (vI y :: vI x :: st) μ G = ev 268 252 [a0, a1, a2, a3] (vI (w32 (x + y)) :: st) μ G := ev_stp pg_268_251 rfl
theorem pg_268_252 : mm_prog 268 252 = some (0, .iaload, 253, []) := by decide +kernel
theorem xe_268_252 (a0 a1 a2 a3 : Option MV) (x y : Int) (st : List MV) (μ : MM) (G : MG) : ev 268 252 [a0, a1, a2, a3] (vI x :: vR y :: st) μ G = if gk G y = 100 ∧ 0 ≤ x ∧ x < gl G y then ev 268 253 [a0, a1, a2, a3] (vI (μ y x) :: st) μ G else none := ev_if pg_268_252 rfl
theorem pg_268_253 : mm_prog 268 253 = some (1, .invokevirtual 18, 256, [1, 100, 1, 10]) := by decide +kernel
theorem xe_268_253 (a0 a1 a2 a3 : Option MV) (x0 z : Int) (μ : MM) (G : MG) : ev 268 253 [a0, a1, a2, a3] (vI x0 :: vR z :: []) μ G = if gk G z = 10 ∧ 0 < z then (ev 100 0 [some (vR z), some (vI x0)] [] μ G).bind (fun q => ev 268 256 [a0, a1, a2, a3] (q.1.toList ++ []) q.2.1 q.2.2) else none := ev_calV (as := [vR z, vI x0]) (r := []) mx_100 pg_268_253 rfl rfl (Nat.le_of_ble_eq_true rfl) (Nat.le_of_ble_eq_true rfl)
theorem pg_268_256 : mm_prog 268 256 = some (0, .aload_n 2, 257, []) := by decide +kernel
theorem xe_268_256 (a0 a1 a3 : Option MV) (x : Int) (st : List MV) (μ : MM) (G : MG) : ev 268 256 [a0, a1, some (vR x), a3] st μ G = ev 268 257 [a0, a1, some (vR x), a3] (vR x :: st) μ G := ev_stp pg_268_256 rfl
theorem pg_268_257 : mm_prog 268 257 = some (0, .aload_n 0, 258, []) := by decide +kernel
theorem xe_268_257 (a1 a2 a3 : Option MV) (x : Int) (st : List MV) (μ : MM) (G : MG) : ev 268 257 [some (vR x), a1, a2, a3] st μ G = ev 268 258 [some (vR x), a1, a2, a3] (vR x :: st) μ G := ev_stp pg_268_257 rfl
theorem pg_268_258 : mm_prog 268 258 = some (0, .iload_n 3, 259, []) := by decide +kernel
theorem xe_268_258 (a0 a1 a2 : Option MV) (x : Int) (st : List MV) (μ : MM) (G : MG) : ev 268 258 [a0, a1, a2, some (vI x)] st μ G = ev 268 259 [a0, a1, a2, some (vI x)] (vI x :: st) μ G := ev_stp pg_268_258 rfl
theorem pg_268_259 : mm_prog 268 259 = some (0, .iconst 1, 260, []) := by decide +kernel
theorem xe_268_259 (a0 a1 a2 a3 : Option MV) (st : List MV) (μ : MM) (G : MG) : ev 268 259 [a0, a1, a2, a3] st μ G = ev 268 260 [a0, a1, a2, a3] (vI (1) :: st) μ G := ev_stp pg_268_259 rfl
theorem pg_268_260 : mm_prog 268 260 = some (0, .iadd, 261, []) := by decide +kernel
theorem xe_268_260 (a0 a1 a2 a3 : Option MV) (x y : Int) (st : List MV) (μ : MM) (G : MG) : ev 268 260 [a0, a1, a2, a3] (vI y :: vI x :: st) μ G = ev 268 261 [a0, a1, a2, a3] (vI (w32 (x + y)) :: st) μ G := ev_stp pg_268_260 rfl
theorem pg_268_261 : mm_prog 268 261 = some (0, .iaload, 262, []) := by decide +kernel
theorem xe_268_261 (a0 a1 a2 a3 : Option MV) (x y : Int) (st : List MV) (μ : MM) (G : MG) : ev 268 261 [a0, a1, a2, a3] (vI x :: vR y :: st) μ G = if gk G y = 100 ∧ 0 ≤ x ∧ x < gl G y then ev 268 262 [a0, a1, a2, a3] (vI (μ y x) :: st) μ G else none := ev_if pg_268_261 rfl
theorem pg_268_262 : mm_prog 268 262 = some (1, .invokevirtual 22, 265, [1, 157, 1, 11]) := by decide +kernel
theorem xe_268_262 (a0 a1 a2 a3 : Option MV) (x0 z r0 : Int) (μ : MM) (G : MG) : ev 268 262 [a0, a1, a2, a3] (vI x0 :: vR z :: [vI r0]) μ G = if gk G z = 11 ∧ 0 < z then (ev 157 0 [some (vR z), some (vI x0), none] [] μ G).bind (fun q => ev 268 265 [a0, a1, a2, a3] (q.1.toList ++ [vI r0]) q.2.1 q.2.2) else none := ev_calV (as := [vR z, vI x0]) (r := [vI r0]) mx_157 pg_268_262 rfl rfl (Nat.le_of_ble_eq_true rfl) (Nat.le_of_ble_eq_true rfl)
theorem pg_268_265 : mm_prog 268 265 = some (0, .if_icmp .eq 1013, 268, []) := by decide +kernel
theorem xe_268_265 (a0 a1 a2 a3 : Option MV) (x y : Int) (st : List MV) (μ : MM) (G : MG) : ev 268 265 [a0, a1, a2, a3] (vI y :: vI x :: st) μ G = if x = y then ev 268 1278 [a0, a1, a2, a3] st μ G else ev 268 268 [a0, a1, a2, a3] st μ G := ev_br (mm_cnd_eq x y) pg_268_265 rfl
theorem pg_268_268 : mm_prog 268 268 = some (0, .iconst 0, 269, []) := by decide +kernel
theorem xe_268_268 (a0 a1 a2 a3 : Option MV) (st : List MV) (μ : MM) (G : MG) : ev 268 268 [a0, a1, a2, a3] st μ G = ev 268 269 [a0, a1, a2, a3] (vI (0) :: st) μ G := ev_stp pg_268_268 rfl
theorem pg_268_269 : mm_prog 268 269 = some (2, .ireturn, 270, [1]) := by decide +kernel
theorem xe_268_269 (a0 a1 a2 a3 : Option MV) (x : Int) (μ : MM) (G : MG) : ev 268 269 [a0, a1, a2, a3] [vI x] μ G = if x = 0 ∨ x = 1 then some (some (vI x), μ, G) else none := ev_retB pg_268_269
theorem pg_268_270 : mm_prog 268 270 = some (0, .aload_n 1, 271, []) := by decide +kernel
theorem xe_268_270 (a0 a2 a3 : Option MV) (x : Int) (st : List MV) (μ : MM) (G : MG) : ev 268 270 [a0, some (vR x), a2, a3] st μ G = ev 268 271 [a0, some (vR x), a2, a3] (vR x :: st) μ G := ev_stp pg_268_270 rfl
theorem pg_268_271 : mm_prog 268 271 = some (0, .aload_n 0, 272, []) := by decide +kernel
theorem xe_268_271 (a1 a2 a3 : Option MV) (x : Int) (st : List MV) (μ : MM) (G : MG) : ev 268 271 [some (vR x), a1, a2, a3] st μ G = ev 268 272 [some (vR x), a1, a2, a3] (vR x :: st) μ G := ev_stp pg_268_271 rfl
theorem pg_268_272 : mm_prog 268 272 = some (0, .iload_n 3, 273, []) := by decide +kernel
theorem xe_268_272 (a0 a1 a2 : Option MV) (x : Int) (st : List MV) (μ : MM) (G : MG) : ev 268 272 [a0, a1, a2, some (vI x)] st μ G = ev 268 273 [a0, a1, a2, some (vI x)] (vI x :: st) μ G := ev_stp pg_268_272 rfl
theorem pg_268_273 : mm_prog 268 273 = some (0, .iconst 1, 274, []) := by decide +kernel
theorem xe_268_273 (a0 a1 a2 a3 : Option MV) (st : List MV) (μ : MM) (G : MG) : ev 268 273 [a0, a1, a2, a3] st μ G = ev 268 274 [a0, a1, a2, a3] (vI (1) :: st) μ G := ev_stp pg_268_273 rfl
theorem pg_268_274 : mm_prog 268 274 = some (0, .iadd, 275, []) := by decide +kernel
theorem xe_268_274 (a0 a1 a2 a3 : Option MV) (x y : Int) (st : List MV) (μ : MM) (G : MG) : ev 268 274 [a0, a1, a2, a3] (vI y :: vI x :: st) μ G = ev 268 275 [a0, a1, a2, a3] (vI (w32 (x + y)) :: st) μ G := ev_stp pg_268_274 rfl
theorem pg_268_275 : mm_prog 268 275 = some (0, .iaload, 276, []) := by decide +kernel
theorem xe_268_275 (a0 a1 a2 a3 : Option MV) (x y : Int) (st : List MV) (μ : MM) (G : MG) : ev 268 275 [a0, a1, a2, a3] (vI x :: vR y :: st) μ G = if gk G y = 100 ∧ 0 ≤ x ∧ x < gl G y then ev 268 276 [a0, a1, a2, a3] (vI (μ y x) :: st) μ G else none := ev_if pg_268_275 rfl
theorem pg_268_276 : mm_prog 268 276 = some (1, .invokevirtual 23, 279, [1, 101, 1, 10]) := by decide +kernel
theorem xe_268_276 (a0 a1 a2 a3 : Option MV) (x0 z : Int) (μ : MM) (G : MG) : ev 268 276 [a0, a1, a2, a3] (vI x0 :: vR z :: []) μ G = if gk G z = 10 ∧ 0 < z then (ev 101 0 [some (vR z), some (vI x0)] [] μ G).bind (fun q => ev 268 279 [a0, a1, a2, a3] (q.1.toList ++ []) q.2.1 q.2.2) else none := ev_calV (as := [vR z, vI x0]) (r := []) mx_101 pg_268_276 rfl rfl (Nat.le_of_ble_eq_true rfl) (Nat.le_of_ble_eq_true rfl)
theorem pg_268_279 : mm_prog 268 279 = some (0, .aload_n 2, 280, []) := by decide +kernel
theorem xe_268_279 (a0 a1 a3 : Option MV) (x : Int) (st : List MV) (μ : MM) (G : MG) : ev 268 279 [a0, a1, some (vR x), a3] st μ G = ev 268 280 [a0, a1, some (vR x), a3] (vR x :: st) μ G := ev_stp pg_268_279 rfl
theorem pg_268_280 : mm_prog 268 280 = some (0, .aload_n 0, 281, []) := by decide +kernel
theorem xe_268_280 (a1 a2 a3 : Option MV) (x : Int) (st : List MV) (μ : MM) (G : MG) : ev 268 280 [some (vR x), a1, a2, a3] st μ G = ev 268 281 [some (vR x), a1, a2, a3] (vR x :: st) μ G := ev_stp pg_268_280 rfl
theorem pg_268_281 : mm_prog 268 281 = some (0, .iload_n 3, 282, []) := by decide +kernel
theorem xe_268_281 (a0 a1 a2 : Option MV) (x : Int) (st : List MV) (μ : MM) (G : MG) : ev 268 281 [a0, a1, a2, some (vI x)] st μ G = ev 268 282 [a0, a1, a2, some (vI x)] (vI x :: st) μ G := ev_stp pg_268_281 rfl
theorem pg_268_282 : mm_prog 268 282 = some (0, .iconst 1, 283, []) := by decide +kernel
theorem xe_268_282 (a0 a1 a2 a3 : Option MV) (st : List MV) (μ : MM) (G : MG) : ev 268 282 [a0, a1, a2, a3] st μ G = ev 268 283 [a0, a1, a2, a3] (vI (1) :: st) μ G := ev_stp pg_268_282 rfl
theorem pg_268_283 : mm_prog 268 283 = some (0, .iadd, 284, []) := by decide +kernel
theorem xe_268_283 (a0 a1 a2 a3 : Option MV) (x y : Int) (st : List MV) (μ : MM) (G : MG) : ev 268 283 [a0, a1, a2, a3] (vI y :: vI x :: st) μ G = ev 268 284 [a0, a1, a2, a3] (vI (w32 (x + y)) :: st) μ G := ev_stp pg_268_283 rfl
theorem pg_268_284 : mm_prog 268 284 = some (0, .iaload, 285, []) := by decide +kernel
theorem xe_268_284 (a0 a1 a2 a3 : Option MV) (x y : Int) (st : List MV) (μ : MM) (G : MG) : ev 268 284 [a0, a1, a2, a3] (vI x :: vR y :: st) μ G = if gk G y = 100 ∧ 0 ≤ x ∧ x < gl G y then ev 268 285 [a0, a1, a2, a3] (vI (μ y x) :: st) μ G else none := ev_if pg_268_284 rfl
theorem pg_268_285 : mm_prog 268 285 = some (1, .invokevirtual 26, 288, [1, 158, 1, 11]) := by decide +kernel
theorem xe_268_285 (a0 a1 a2 a3 : Option MV) (x0 z r0 : Int) (μ : MM) (G : MG) : ev 268 285 [a0, a1, a2, a3] (vI x0 :: vR z :: [vI r0]) μ G = if gk G z = 11 ∧ 0 < z then (ev 158 0 [some (vR z), some (vI x0)] [] μ G).bind (fun q => ev 268 288 [a0, a1, a2, a3] (q.1.toList ++ [vI r0]) q.2.1 q.2.2) else none := ev_calV (as := [vR z, vI x0]) (r := [vI r0]) mx_158 pg_268_285 rfl rfl (Nat.le_of_ble_eq_true rfl) (Nat.le_of_ble_eq_true rfl)
theorem pg_268_288 : mm_prog 268 288 = some (0, .if_icmp .eq 990, 291, []) := by decide +kernel
theorem xe_268_288 (a0 a1 a2 a3 : Option MV) (x y : Int) (st : List MV) (μ : MM) (G : MG) : ev 268 288 [a0, a1, a2, a3] (vI y :: vI x :: st) μ G = if x = y then ev 268 1278 [a0, a1, a2, a3] st μ G else ev 268 291 [a0, a1, a2, a3] st μ G := ev_br (mm_cnd_eq x y) pg_268_288 rfl
theorem pg_268_291 : mm_prog 268 291 = some (0, .iconst 0, 292, []) := by decide +kernel
theorem xe_268_291 (a0 a1 a2 a3 : Option MV) (st : List MV) (μ : MM) (G : MG) : ev 268 291 [a0, a1, a2, a3] st μ G = ev 268 292 [a0, a1, a2, a3] (vI (0) :: st) μ G := ev_stp pg_268_291 rfl
theorem pg_268_292 : mm_prog 268 292 = some (2, .ireturn, 293, [1]) := by decide +kernel
theorem xe_268_292 (a0 a1 a2 a3 : Option MV) (x : Int) (μ : MM) (G : MG) : ev 268 292 [a0, a1, a2, a3] [vI x] μ G = if x = 0 ∨ x = 1 then some (some (vI x), μ, G) else none := ev_retB pg_268_292
theorem pg_268_293 : mm_prog 268 293 = some (0, .aload_n 1, 294, []) := by decide +kernel
theorem xe_268_293 (a0 a2 a3 : Option MV) (x : Int) (st : List MV) (μ : MM) (G : MG) : ev 268 293 [a0, some (vR x), a2, a3] st μ G = ev 268 294 [a0, some (vR x), a2, a3] (vR x :: st) μ G := ev_stp pg_268_293 rfl
theorem pg_268_294 : mm_prog 268 294 = some (0, .aload_n 0, 295, []) := by decide +kernel
theorem xe_268_294 (a1 a2 a3 : Option MV) (x : Int) (st : List MV) (μ : MM) (G : MG) : ev 268 294 [some (vR x), a1, a2, a3] st μ G = ev 268 295 [some (vR x), a1, a2, a3] (vR x :: st) μ G := ev_stp pg_268_294 rfl
theorem pg_268_295 : mm_prog 268 295 = some (0, .iload_n 3, 296, []) := by decide +kernel
theorem xe_268_295 (a0 a1 a2 : Option MV) (x : Int) (st : List MV) (μ : MM) (G : MG) : ev 268 295 [a0, a1, a2, some (vI x)] st μ G = ev 268 296 [a0, a1, a2, some (vI x)] (vI x :: st) μ G := ev_stp pg_268_295 rfl
theorem pg_268_296 : mm_prog 268 296 = some (0, .iconst 1, 297, []) := by decide +kernel
theorem xe_268_296 (a0 a1 a2 a3 : Option MV) (st : List MV) (μ : MM) (G : MG) : ev 268 296 [a0, a1, a2, a3] st μ G = ev 268 297 [a0, a1, a2, a3] (vI (1) :: st) μ G := ev_stp pg_268_296 rfl
theorem pg_268_297 : mm_prog 268 297 = some (0, .iadd, 298, []) := by decide +kernel
theorem xe_268_297 (a0 a1 a2 a3 : Option MV) (x y : Int) (st : List MV) (μ : MM) (G : MG) : ev 268 297 [a0, a1, a2, a3] (vI y :: vI x :: st) μ G = ev 268 298 [a0, a1, a2, a3] (vI (w32 (x + y)) :: st) μ G := ev_stp pg_268_297 rfl
theorem pg_268_298 : mm_prog 268 298 = some (0, .iaload, 299, []) := by decide +kernel
theorem xe_268_298 (a0 a1 a2 a3 : Option MV) (x y : Int) (st : List MV) (μ : MM) (G : MG) : ev 268 298 [a0, a1, a2, a3] (vI x :: vR y :: st) μ G = if gk G y = 100 ∧ 0 ≤ x ∧ x < gl G y then ev 268 299 [a0, a1, a2, a3] (vI (μ y x) :: st) μ G else none := ev_if pg_268_298 rfl
theorem pg_268_299 : mm_prog 268 299 = some (1, .invokevirtual 27, 302, [1, 102, 1, 10]) := by decide +kernel
theorem xe_268_299 (a0 a1 a2 a3 : Option MV) (x0 z : Int) (μ : MM) (G : MG) : ev 268 299 [a0, a1, a2, a3] (vI x0 :: vR z :: []) μ G = if gk G z = 10 ∧ 0 < z then (ev 102 0 [some (vR z), some (vI x0)] [] μ G).bind (fun q => ev 268 302 [a0, a1, a2, a3] (q.1.toList ++ []) q.2.1 q.2.2) else none := ev_calV (as := [vR z, vI x0]) (r := []) mx_102 pg_268_299 rfl rfl (Nat.le_of_ble_eq_true rfl) (Nat.le_of_ble_eq_true rfl)
theorem pg_268_302 : mm_prog 268 302 = some (0, .aload_n 2, 303, []) := by decide +kernel
theorem xe_268_302 (a0 a1 a3 : Option MV) (x : Int) (st : List MV) (μ : MM) (G : MG) : ev 268 302 [a0, a1, some (vR x), a3] st μ G = ev 268 303 [a0, a1, some (vR x), a3] (vR x :: st) μ G := ev_stp pg_268_302 rfl
theorem pg_268_303 : mm_prog 268 303 = some (0, .aload_n 0, 304, []) := by decide +kernel
theorem xe_268_303 (a1 a2 a3 : Option MV) (x : Int) (st : List MV) (μ : MM) (G : MG) : ev 268 303 [some (vR x), a1, a2, a3] st μ G = ev 268 304 [some (vR x), a1, a2, a3] (vR x :: st) μ G := ev_stp pg_268_303 rfl
theorem pg_268_304 : mm_prog 268 304 = some (0, .iload_n 3, 305, []) := by decide +kernel
theorem xe_268_304 (a0 a1 a2 : Option MV) (x : Int) (st : List MV) (μ : MM) (G : MG) : ev 268 304 [a0, a1, a2, some (vI x)] st μ G = ev 268 305 [a0, a1, a2, some (vI x)] (vI x :: st) μ G := ev_stp pg_268_304 rfl
theorem pg_268_305 : mm_prog 268 305 = some (0, .iconst 1, 306, []) := by decide +kernel
theorem xe_268_305 (a0 a1 a2 a3 : Option MV) (st : List MV) (μ : MM) (G : MG) : ev 268 305 [a0, a1, a2, a3] st μ G = ev 268 306 [a0, a1, a2, a3] (vI (1) :: st) μ G := ev_stp pg_268_305 rfl
theorem pg_268_306 : mm_prog 268 306 = some (0, .iadd, 307, []) := by decide +kernel
theorem xe_268_306 (a0 a1 a2 a3 : Option MV) (x y : Int) (st : List MV) (μ : MM) (G : MG) : ev 268 306 [a0, a1, a2, a3] (vI y :: vI x :: st) μ G = ev 268 307 [a0, a1, a2, a3] (vI (w32 (x + y)) :: st) μ G := ev_stp pg_268_306 rfl
theorem pg_268_307 : mm_prog 268 307 = some (0, .iaload, 308, []) := by decide +kernel
theorem xe_268_307 (a0 a1 a2 a3 : Option MV) (x y : Int) (st : List MV) (μ : MM) (G : MG) : ev 268 307 [a0, a1, a2, a3] (vI x :: vR y :: st) μ G = if gk G y = 100 ∧ 0 ≤ x ∧ x < gl G y then ev 268 308 [a0, a1, a2, a3] (vI (μ y x) :: st) μ G else none := ev_if pg_268_307 rfl
theorem pg_268_308 : mm_prog 268 308 = some (1, .invokevirtual 30, 311, [1, 159, 1, 11]) := by decide +kernel
theorem xe_268_308 (a0 a1 a2 a3 : Option MV) (x0 z r0 : Int) (μ : MM) (G : MG) : ev 268 308 [a0, a1, a2, a3] (vI x0 :: vR z :: [vI r0]) μ G = if gk G z = 11 ∧ 0 < z then (ev 159 0 [some (vR z), some (vI x0), none] [] μ G).bind (fun q => ev 268 311 [a0, a1, a2, a3] (q.1.toList ++ [vI r0]) q.2.1 q.2.2) else none := ev_calV (as := [vR z, vI x0]) (r := [vI r0]) mx_159 pg_268_308 rfl rfl (Nat.le_of_ble_eq_true rfl) (Nat.le_of_ble_eq_true rfl)
theorem pg_268_311 : mm_prog 268 311 = some (0, .if_icmp .eq 967, 314, []) := by decide +kernel
theorem xe_268_311 (a0 a1 a2 a3 : Option MV) (x y : Int) (st : List MV) (μ : MM) (G : MG) : ev 268 311 [a0, a1, a2, a3] (vI y :: vI x :: st) μ G = if x = y then ev 268 1278 [a0, a1, a2, a3] st μ G else ev 268 314 [a0, a1, a2, a3] st μ G := ev_br (mm_cnd_eq x y) pg_268_311 rfl
theorem pg_268_314 : mm_prog 268 314 = some (0, .iconst 0, 315, []) := by decide +kernel
theorem xe_268_314 (a0 a1 a2 a3 : Option MV) (st : List MV) (μ : MM) (G : MG) : ev 268 314 [a0, a1, a2, a3] st μ G = ev 268 315 [a0, a1, a2, a3] (vI (0) :: st) μ G := ev_stp pg_268_314 rfl
theorem pg_268_315 : mm_prog 268 315 = some (2, .ireturn, 316, [1]) := by decide +kernel
theorem xe_268_315 (a0 a1 a2 a3 : Option MV) (x : Int) (μ : MM) (G : MG) : ev 268 315 [a0, a1, a2, a3] [vI x] μ G = if x = 0 ∨ x = 1 then some (some (vI x), μ, G) else none := ev_retB pg_268_315
theorem pg_268_316 : mm_prog 268 316 = some (0, .aload_n 1, 317, []) := by decide +kernel
theorem xe_268_316 (a0 a2 a3 : Option MV) (x : Int) (st : List MV) (μ : MM) (G : MG) : ev 268 316 [a0, some (vR x), a2, a3] st μ G = ev 268 317 [a0, some (vR x), a2, a3] (vR x :: st) μ G := ev_stp pg_268_316 rfl
theorem pg_268_317 : mm_prog 268 317 = some (0, .aload_n 0, 318, []) := by decide +kernel
theorem xe_268_317 (a1 a2 a3 : Option MV) (x : Int) (st : List MV) (μ : MM) (G : MG) : ev 268 317 [some (vR x), a1, a2, a3] st μ G = ev 268 318 [some (vR x), a1, a2, a3] (vR x :: st) μ G := ev_stp pg_268_317 rfl
theorem pg_268_318 : mm_prog 268 318 = some (0, .iload_n 3, 319, []) := by decide +kernel
theorem xe_268_318 (a0 a1 a2 : Option MV) (x : Int) (st : List MV) (μ : MM) (G : MG) : ev 268 318 [a0, a1, a2, some (vI x)] st μ G = ev 268 319 [a0, a1, a2, some (vI x)] (vI x :: st) μ G := ev_stp pg_268_318 rfl
theorem pg_268_319 : mm_prog 268 319 = some (0, .iconst 1, 320, []) := by decide +kernel
theorem xe_268_319 (a0 a1 a2 a3 : Option MV) (st : List MV) (μ : MM) (G : MG) : ev 268 319 [a0, a1, a2, a3] st μ G = ev 268 320 [a0, a1, a2, a3] (vI (1) :: st) μ G := ev_stp pg_268_319 rfl
theorem pg_268_320 : mm_prog 268 320 = some (0, .iadd, 321, []) := by decide +kernel
theorem xe_268_320 (a0 a1 a2 a3 : Option MV) (x y : Int) (st : List MV) (μ : MM) (G : MG) : ev 268 320 [a0, a1, a2, a3] (vI y :: vI x :: st) μ G = ev 268 321 [a0, a1, a2, a3] (vI (w32 (x + y)) :: st) μ G := ev_stp pg_268_320 rfl
theorem pg_268_321 : mm_prog 268 321 = some (0, .iaload, 322, []) := by decide +kernel
theorem xe_268_321 (a0 a1 a2 a3 : Option MV) (x y : Int) (st : List MV) (μ : MM) (G : MG) : ev 268 321 [a0, a1, a2, a3] (vI x :: vR y :: st) μ G = if gk G y = 100 ∧ 0 ≤ x ∧ x < gl G y then ev 268 322 [a0, a1, a2, a3] (vI (μ y x) :: st) μ G else none := ev_if pg_268_321 rfl
theorem pg_268_322 : mm_prog 268 322 = some (1, .invokevirtual 31, 325, [1, 103, 1, 10]) := by decide +kernel
theorem xe_268_322 (a0 a1 a2 a3 : Option MV) (x0 z : Int) (μ : MM) (G : MG) : ev 268 322 [a0, a1, a2, a3] (vI x0 :: vR z :: []) μ G = if gk G z = 10 ∧ 0 < z then (ev 103 0 [some (vR z), some (vI x0)] [] μ G).bind (fun q => ev 268 325 [a0, a1, a2, a3] (q.1.toList ++ []) q.2.1 q.2.2) else none := ev_calV (as := [vR z, vI x0]) (r := []) mx_103 pg_268_322 rfl rfl (Nat.le_of_ble_eq_true rfl) (Nat.le_of_ble_eq_true rfl)
theorem pg_268_325 : mm_prog 268 325 = some (0, .aload_n 2, 326, []) := by decide +kernel
theorem xe_268_325 (a0 a1 a3 : Option MV) (x : Int) (st : List MV) (μ : MM) (G : MG) : ev 268 325 [a0, a1, some (vR x), a3] st μ G = ev 268 326 [a0, a1, some (vR x), a3] (vR x :: st) μ G := ev_stp pg_268_325 rfl
theorem pg_268_326 : mm_prog 268 326 = some (0, .aload_n 0, 327, []) := by decide +kernel
theorem xe_268_326 (a1 a2 a3 : Option MV) (x : Int) (st : List MV) (μ : MM) (G : MG) : ev 268 326 [some (vR x), a1, a2, a3] st μ G = ev 268 327 [some (vR x), a1, a2, a3] (vR x :: st) μ G := ev_stp pg_268_326 rfl
theorem pg_268_327 : mm_prog 268 327 = some (0, .iload_n 3, 328, []) := by decide +kernel
theorem xe_268_327 (a0 a1 a2 : Option MV) (x : Int) (st : List MV) (μ : MM) (G : MG) : ev 268 327 [a0, a1, a2, some (vI x)] st μ G = ev 268 328 [a0, a1, a2, some (vI x)] (vI x :: st) μ G := ev_stp pg_268_327 rfl
theorem pg_268_328 : mm_prog 268 328 = some (0, .iconst 1, 329, []) := by decide +kernel
theorem xe_268_328 (a0 a1 a2 a3 : Option MV) (st : List MV) (μ : MM) (G : MG) : ev 268 328 [a0, a1, a2, a3] st μ G = ev 268 329 [a0, a1, a2, a3] (vI (1) :: st) μ G := ev_stp pg_268_328 rfl
theorem pg_268_329 : mm_prog 268 329 = some (0, .iadd, 330, []) := by decide +kernel
theorem xe_268_329 (a0 a1 a2 a3 : Option MV) (x y : Int) (st : List MV) (μ : MM) (G : MG) : ev 268 329 [a0, a1, a2, a3] (vI y :: vI x :: st) μ G = ev 268 330 [a0, a1, a2, a3] (vI (w32 (x + y)) :: st) μ G := ev_stp pg_268_329 rfl
theorem pg_268_330 : mm_prog 268 330 = some (0, .iaload, 331, []) := by decide +kernel
theorem xe_268_330 (a0 a1 a2 a3 : Option MV) (x y : Int) (st : List MV) (μ : MM) (G : MG) : ev 268 330 [a0, a1, a2, a3] (vI x :: vR y :: st) μ G = if gk G y = 100 ∧ 0 ≤ x ∧ x < gl G y then ev 268 331 [a0, a1, a2, a3] (vI (μ y x) :: st) μ G else none := ev_if pg_268_330 rfl
theorem pg_268_331 : mm_prog 268 331 = some (1, .invokevirtual 34, 334, [1, 178, 1, 11]) := by decide +kernel
theorem xe_268_331 (a0 a1 a2 a3 : Option MV) (x0 z r0 : Int) (μ : MM) (G : MG) : ev 268 331 [a0, a1, a2, a3] (vI x0 :: vR z :: [vI r0]) μ G = if gk G z = 11 ∧ 0 < z then (ev 178 0 [some (vR z), some (vI x0), none] [] μ G).bind (fun q => ev 268 334 [a0, a1, a2, a3] (q.1.toList ++ [vI r0]) q.2.1 q.2.2) else none := ev_calV (as := [vR z, vI x0]) (r := [vI r0]) mx_178 pg_268_331 rfl rfl (Nat.le_of_ble_eq_true rfl) (Nat.le_of_ble_eq_true rfl)
theorem pg_268_334 : mm_prog 268 334 = some (0, .if_icmp .eq 944, 337, []) := by decide +kernel
theorem xe_268_334 (a0 a1 a2 a3 : Option MV) (x y : Int) (st : List MV) (μ : MM) (G : MG) : ev 268 334 [a0, a1, a2, a3] (vI y :: vI x :: st) μ G = if x = y then ev 268 1278 [a0, a1, a2, a3] st μ G else ev 268 337 [a0, a1, a2, a3] st μ G := ev_br (mm_cnd_eq x y) pg_268_334 rfl
theorem pg_268_337 : mm_prog 268 337 = some (0, .iconst 0, 338, []) := by decide +kernel
theorem xe_268_337 (a0 a1 a2 a3 : Option MV) (st : List MV) (μ : MM) (G : MG) : ev 268 337 [a0, a1, a2, a3] st μ G = ev 268 338 [a0, a1, a2, a3] (vI (0) :: st) μ G := ev_stp pg_268_337 rfl
theorem pg_268_338 : mm_prog 268 338 = some (2, .ireturn, 339, [1]) := by decide +kernel
theorem xe_268_338 (a0 a1 a2 a3 : Option MV) (x : Int) (μ : MM) (G : MG) : ev 268 338 [a0, a1, a2, a3] [vI x] μ G = if x = 0 ∨ x = 1 then some (some (vI x), μ, G) else none := ev_retB pg_268_338
theorem pg_268_339 : mm_prog 268 339 = some (0, .aload_n 1, 340, []) := by decide +kernel
theorem xe_268_339 (a0 a2 a3 : Option MV) (x : Int) (st : List MV) (μ : MM) (G : MG) : ev 268 339 [a0, some (vR x), a2, a3] st μ G = ev 268 340 [a0, some (vR x), a2, a3] (vR x :: st) μ G := ev_stp pg_268_339 rfl
theorem pg_268_340 : mm_prog 268 340 = some (0, .aload_n 0, 341, []) := by decide +kernel
theorem xe_268_340 (a1 a2 a3 : Option MV) (x : Int) (st : List MV) (μ : MM) (G : MG) : ev 268 340 [some (vR x), a1, a2, a3] st μ G = ev 268 341 [some (vR x), a1, a2, a3] (vR x :: st) μ G := ev_stp pg_268_340 rfl
theorem pg_268_341 : mm_prog 268 341 = some (0, .iload_n 3, 342, []) := by decide +kernel
theorem xe_268_341 (a0 a1 a2 : Option MV) (x : Int) (st : List MV) (μ : MM) (G : MG) : ev 268 341 [a0, a1, a2, some (vI x)] st μ G = ev 268 342 [a0, a1, a2, some (vI x)] (vI x :: st) μ G := ev_stp pg_268_341 rfl
theorem pg_268_342 : mm_prog 268 342 = some (0, .iconst 1, 343, []) := by decide +kernel
theorem xe_268_342 (a0 a1 a2 a3 : Option MV) (st : List MV) (μ : MM) (G : MG) : ev 268 342 [a0, a1, a2, a3] st μ G = ev 268 343 [a0, a1, a2, a3] (vI (1) :: st) μ G := ev_stp pg_268_342 rfl
theorem pg_268_343 : mm_prog 268 343 = some (0, .iadd, 344, []) := by decide +kernel
theorem xe_268_343 (a0 a1 a2 a3 : Option MV) (x y : Int) (st : List MV) (μ : MM) (G : MG) : ev 268 343 [a0, a1, a2, a3] (vI y :: vI x :: st) μ G = ev 268 344 [a0, a1, a2, a3] (vI (w32 (x + y)) :: st) μ G := ev_stp pg_268_343 rfl
theorem pg_268_344 : mm_prog 268 344 = some (0, .iaload, 345, []) := by decide +kernel
theorem xe_268_344 (a0 a1 a2 a3 : Option MV) (x y : Int) (st : List MV) (μ : MM) (G : MG) : ev 268 344 [a0, a1, a2, a3] (vI x :: vR y :: st) μ G = if gk G y = 100 ∧ 0 ≤ x ∧ x < gl G y then ev 268 345 [a0, a1, a2, a3] (vI (μ y x) :: st) μ G else none := ev_if pg_268_344 rfl
theorem pg_268_345 : mm_prog 268 345 = some (1, .invokevirtual 35, 348, [1, 105, 1, 10]) := by decide +kernel
theorem xe_268_345 (a0 a1 a2 a3 : Option MV) (x0 z : Int) (μ : MM) (G : MG) : ev 268 345 [a0, a1, a2, a3] (vI x0 :: vR z :: []) μ G = if gk G z = 10 ∧ 0 < z then (ev 105 0 [some (vR z), some (vI x0)] [] μ G).bind (fun q => ev 268 348 [a0, a1, a2, a3] (q.1.toList ++ []) q.2.1 q.2.2) else none := ev_calV (as := [vR z, vI x0]) (r := []) mx_105 pg_268_345 rfl rfl (Nat.le_of_ble_eq_true rfl) (Nat.le_of_ble_eq_true rfl)
theorem pg_268_348 : mm_prog 268 348 = some (0, .aload_n 2, 349, []) := by decide +kernel
theorem xe_268_348 (a0 a1 a3 : Option MV) (x : Int) (st : List MV) (μ : MM) (G : MG) : ev 268 348 [a0, a1, some (vR x), a3] st μ G = ev 268 349 [a0, a1, some (vR x), a3] (vR x :: st) μ G := ev_stp pg_268_348 rfl
theorem pg_268_349 : mm_prog 268 349 = some (0, .aload_n 0, 350, []) := by decide +kernel
theorem xe_268_349 (a1 a2 a3 : Option MV) (x : Int) (st : List MV) (μ : MM) (G : MG) : ev 268 349 [some (vR x), a1, a2, a3] st μ G = ev 268 350 [some (vR x), a1, a2, a3] (vR x :: st) μ G := ev_stp pg_268_349 rfl
theorem pg_268_350 : mm_prog 268 350 = some (0, .iload_n 3, 351, []) := by decide +kernel
theorem xe_268_350 (a0 a1 a2 : Option MV) (x : Int) (st : List MV) (μ : MM) (G : MG) : ev 268 350 [a0, a1, a2, some (vI x)] st μ G = ev 268 351 [a0, a1, a2, some (vI x)] (vI x :: st) μ G := ev_stp pg_268_350 rfl
theorem pg_268_351 : mm_prog 268 351 = some (0, .iconst 1, 352, []) := by decide +kernel
theorem xe_268_351 (a0 a1 a2 a3 : Option MV) (st : List MV) (μ : MM) (G : MG) : ev 268 351 [a0, a1, a2, a3] st μ G = ev 268 352 [a0, a1, a2, a3] (vI (1) :: st) μ G := ev_stp pg_268_351 rfl
theorem pg_268_352 : mm_prog 268 352 = some (0, .iadd, 353, []) := by decide +kernel
theorem xe_268_352 (a0 a1 a2 a3 : Option MV) (x y : Int) (st : List MV) (μ : MM) (G : MG) : ev 268 352 [a0, a1, a2, a3] (vI y :: vI x :: st) μ G = ev 268 353 [a0, a1, a2, a3] (vI (w32 (x + y)) :: st) μ G := ev_stp pg_268_352 rfl
theorem pg_268_353 : mm_prog 268 353 = some (0, .iaload, 354, []) := by decide +kernel
theorem xe_268_353 (a0 a1 a2 a3 : Option MV) (x y : Int) (st : List MV) (μ : MM) (G : MG) : ev 268 353 [a0, a1, a2, a3] (vI x :: vR y :: st) μ G = if gk G y = 100 ∧ 0 ≤ x ∧ x < gl G y then ev 268 354 [a0, a1, a2, a3] (vI (μ y x) :: st) μ G else none := ev_if pg_268_353 rfl
theorem pg_268_354 : mm_prog 268 354 = some (1, .invokevirtual 38, 357, [1, 179, 1, 11]) := by decide +kernel
theorem xe_268_354 (a0 a1 a2 a3 : Option MV) (x0 z r0 : Int) (μ : MM) (G : MG) : ev 268 354 [a0, a1, a2, a3] (vI x0 :: vR z :: [vI r0]) μ G = if gk G z = 11 ∧ 0 < z then (ev 179 0 [some (vR z), some (vI x0)] [] μ G).bind (fun q => ev 268 357 [a0, a1, a2, a3] (q.1.toList ++ [vI r0]) q.2.1 q.2.2) else none := ev_calV (as := [vR z, vI x0]) (r := [vI r0]) mx_179 pg_268_354 rfl rfl (Nat.le_of_ble_eq_true rfl) (Nat.le_of_ble_eq_true rfl)
theorem pg_268_357 : mm_prog 268 357 = some (0, .if_icmp .eq 921, 360, []) := by decide +kernel
theorem xe_268_357 (a0 a1 a2 a3 : Option MV) (x y : Int) (st : List MV) (μ : MM) (G : MG) : ev 268 357 [a0, a1, a2, a3] (vI y :: vI x :: st) μ G = if x = y then ev 268 1278 [a0, a1, a2, a3] st μ G else ev 268 360 [a0, a1, a2, a3] st μ G := ev_br (mm_cnd_eq x y) pg_268_357 rfl
theorem pg_268_360 : mm_prog 268 360 = some (0, .iconst 0, 361, []) := by decide +kernel
theorem xe_268_360 (a0 a1 a2 a3 : Option MV) (st : List MV) (μ : MM) (G : MG) : ev 268 360 [a0, a1, a2, a3] st μ G = ev 268 361 [a0, a1, a2, a3] (vI (0) :: st) μ G := ev_stp pg_268_360 rfl
theorem pg_268_361 : mm_prog 268 361 = some (2, .ireturn, 362, [1]) := by decide +kernel
theorem xe_268_361 (a0 a1 a2 a3 : Option MV) (x : Int) (μ : MM) (G : MG) : ev 268 361 [a0, a1, a2, a3] [vI x] μ G = if x = 0 ∨ x = 1 then some (some (vI x), μ, G) else none := ev_retB pg_268_361
theorem pg_268_362 : mm_prog 268 362 = some (0, .aload_n 1, 363, []) := by decide +kernel
theorem xe_268_362 (a0 a2 a3 : Option MV) (x : Int) (st : List MV) (μ : MM) (G : MG) : ev 268 362 [a0, some (vR x), a2, a3] st μ G = ev 268 363 [a0, some (vR x), a2, a3] (vR x :: st) μ G := ev_stp pg_268_362 rfl
theorem pg_268_363 : mm_prog 268 363 = some (0, .aload_n 0, 364, []) := by decide +kernel
theorem xe_268_363 (a1 a2 a3 : Option MV) (x : Int) (st : List MV) (μ : MM) (G : MG) : ev 268 363 [some (vR x), a1, a2, a3] st μ G = ev 268 364 [some (vR x), a1, a2, a3] (vR x :: st) μ G := ev_stp pg_268_363 rfl
theorem pg_268_364 : mm_prog 268 364 = some (0, .iload_n 3, 365, []) := by decide +kernel
theorem xe_268_364 (a0 a1 a2 : Option MV) (x : Int) (st : List MV) (μ : MM) (G : MG) : ev 268 364 [a0, a1, a2, some (vI x)] st μ G = ev 268 365 [a0, a1, a2, some (vI x)] (vI x :: st) μ G := ev_stp pg_268_364 rfl
theorem pg_268_365 : mm_prog 268 365 = some (0, .iconst 1, 366, []) := by decide +kernel
theorem xe_268_365 (a0 a1 a2 a3 : Option MV) (st : List MV) (μ : MM) (G : MG) : ev 268 365 [a0, a1, a2, a3] st μ G = ev 268 366 [a0, a1, a2, a3] (vI (1) :: st) μ G := ev_stp pg_268_365 rfl
theorem pg_268_366 : mm_prog 268 366 = some (0, .iadd, 367, []) := by decide +kernel
theorem xe_268_366 (a0 a1 a2 a3 : Option MV) (x y : Int) (st : List MV) (μ : MM) (G : MG) : ev 268 366 [a0, a1, a2, a3] (vI y :: vI x :: st) μ G = ev 268 367 [a0, a1, a2, a3] (vI (w32 (x + y)) :: st) μ G := ev_stp pg_268_366 rfl
theorem pg_268_367 : mm_prog 268 367 = some (0, .iaload, 368, []) := by decide +kernel
theorem xe_268_367 (a0 a1 a2 a3 : Option MV) (x y : Int) (st : List MV) (μ : MM) (G : MG) : ev 268 367 [a0, a1, a2, a3] (vI x :: vR y :: st) μ G = if gk G y = 100 ∧ 0 ≤ x ∧ x < gl G y then ev 268 368 [a0, a1, a2, a3] (vI (μ y x) :: st) μ G else none := ev_if pg_268_367 rfl
theorem pg_268_368 : mm_prog 268 368 = some (0, .aload_n 0, 369, []) := by decide +kernel
theorem xe_268_368 (a1 a2 a3 : Option MV) (x : Int) (st : List MV) (μ : MM) (G : MG) : ev 268 368 [some (vR x), a1, a2, a3] st μ G = ev 268 369 [some (vR x), a1, a2, a3] (vR x :: st) μ G := ev_stp pg_268_368 rfl
theorem pg_268_369 : mm_prog 268 369 = some (0, .iload_n 3, 370, []) := by decide +kernel
theorem xe_268_369 (a0 a1 a2 : Option MV) (x : Int) (st : List MV) (μ : MM) (G : MG) : ev 268 369 [a0, a1, a2, some (vI x)] st μ G = ev 268 370 [a0, a1, a2, some (vI x)] (vI x :: st) μ G := ev_stp pg_268_369 rfl
theorem pg_268_370 : mm_prog 268 370 = some (0, .iconst 2, 371, []) := by decide +kernel
theorem xe_268_370 (a0 a1 a2 a3 : Option MV) (st : List MV) (μ : MM) (G : MG) : ev 268 370 [a0, a1, a2, a3] st μ G = ev 268 371 [a0, a1, a2, a3] (vI (2) :: st) μ G := ev_stp pg_268_370 rfl
theorem pg_268_371 : mm_prog 268 371 = some (0, .iadd, 372, []) := by decide +kernel
theorem xe_268_371 (a0 a1 a2 a3 : Option MV) (x y : Int) (st : List MV) (μ : MM) (G : MG) : ev 268 371 [a0, a1, a2, a3] (vI y :: vI x :: st) μ G = ev 268 372 [a0, a1, a2, a3] (vI (w32 (x + y)) :: st) μ G := ev_stp pg_268_371 rfl
theorem pg_268_372 : mm_prog 268 372 = some (0, .iaload, 373, []) := by decide +kernel
theorem xe_268_372 (a0 a1 a2 a3 : Option MV) (x y : Int) (st : List MV) (μ : MM) (G : MG) : ev 268 372 [a0, a1, a2, a3] (vI x :: vR y :: st) μ G = if gk G y = 100 ∧ 0 ≤ x ∧ x < gl G y then ev 268 373 [a0, a1, a2, a3] (vI (μ y x) :: st) μ G else none := ev_if pg_268_372 rfl
theorem pg_268_373 : mm_prog 268 373 = some (1, .invokevirtual 39, 376, [1, 106, 2, 10]) := by decide +kernel
theorem xe_268_373 (a0 a1 a2 a3 : Option MV) (x0 x1 z : Int) (μ : MM) (G : MG) : ev 268 373 [a0, a1, a2, a3] (vI x1 :: vI x0 :: vR z :: []) μ G = if gk G z = 10 ∧ 0 < z then (ev 106 0 [some (vR z), some (vI x0), some (vI x1), none] [] μ G).bind (fun q => ev 268 376 [a0, a1, a2, a3] (q.1.toList ++ []) q.2.1 q.2.2) else none := ev_calV (as := [vR z, vI x0, vI x1]) (r := []) mx_106 pg_268_373 rfl rfl (Nat.le_of_ble_eq_true rfl) (Nat.le_of_ble_eq_true rfl)
theorem pg_268_376 : mm_prog 268 376 = some (0, .aload_n 2, 377, []) := by decide +kernel
theorem xe_268_376 (a0 a1 a3 : Option MV) (x : Int) (st : List MV) (μ : MM) (G : MG) : ev 268 376 [a0, a1, some (vR x), a3] st μ G = ev 268 377 [a0, a1, some (vR x), a3] (vR x :: st) μ G := ev_stp pg_268_376 rfl
theorem pg_268_377 : mm_prog 268 377 = some (0, .aload_n 0, 378, []) := by decide +kernel
theorem xe_268_377 (a1 a2 a3 : Option MV) (x : Int) (st : List MV) (μ : MM) (G : MG) : ev 268 377 [some (vR x), a1, a2, a3] st μ G = ev 268 378 [some (vR x), a1, a2, a3] (vR x :: st) μ G := ev_stp pg_268_377 rfl
theorem pg_268_378 : mm_prog 268 378 = some (0, .iload_n 3, 379, []) := by decide +kernel
theorem xe_268_378 (a0 a1 a2 : Option MV) (x : Int) (st : List MV) (μ : MM) (G : MG) : ev 268 378 [a0, a1, a2, some (vI x)] st μ G = ev 268 379 [a0, a1, a2, some (vI x)] (vI x :: st) μ G := ev_stp pg_268_378 rfl
theorem pg_268_379 : mm_prog 268 379 = some (0, .iconst 1, 380, []) := by decide +kernel
theorem xe_268_379 (a0 a1 a2 a3 : Option MV) (st : List MV) (μ : MM) (G : MG) : ev 268 379 [a0, a1, a2, a3] st μ G = ev 268 380 [a0, a1, a2, a3] (vI (1) :: st) μ G := ev_stp pg_268_379 rfl
theorem pg_268_380 : mm_prog 268 380 = some (0, .iadd, 381, []) := by decide +kernel
theorem xe_268_380 (a0 a1 a2 a3 : Option MV) (x y : Int) (st : List MV) (μ : MM) (G : MG) : ev 268 380 [a0, a1, a2, a3] (vI y :: vI x :: st) μ G = ev 268 381 [a0, a1, a2, a3] (vI (w32 (x + y)) :: st) μ G := ev_stp pg_268_380 rfl
theorem pg_268_381 : mm_prog 268 381 = some (0, .iaload, 382, []) := by decide +kernel
theorem xe_268_381 (a0 a1 a2 a3 : Option MV) (x y : Int) (st : List MV) (μ : MM) (G : MG) : ev 268 381 [a0, a1, a2, a3] (vI x :: vR y :: st) μ G = if gk G y = 100 ∧ 0 ≤ x ∧ x < gl G y then ev 268 382 [a0, a1, a2, a3] (vI (μ y x) :: st) μ G else none := ev_if pg_268_381 rfl
theorem pg_268_382 : mm_prog 268 382 = some (0, .aload_n 0, 383, []) := by decide +kernel
theorem xe_268_382 (a1 a2 a3 : Option MV) (x : Int) (st : List MV) (μ : MM) (G : MG) : ev 268 382 [some (vR x), a1, a2, a3] st μ G = ev 268 383 [some (vR x), a1, a2, a3] (vR x :: st) μ G := ev_stp pg_268_382 rfl
theorem pg_268_383 : mm_prog 268 383 = some (0, .iload_n 3, 384, []) := by decide +kernel
theorem xe_268_383 (a0 a1 a2 : Option MV) (x : Int) (st : List MV) (μ : MM) (G : MG) : ev 268 383 [a0, a1, a2, some (vI x)] st μ G = ev 268 384 [a0, a1, a2, some (vI x)] (vI x :: st) μ G := ev_stp pg_268_383 rfl
theorem pg_268_384 : mm_prog 268 384 = some (0, .iconst 2, 385, []) := by decide +kernel
theorem xe_268_384 (a0 a1 a2 a3 : Option MV) (st : List MV) (μ : MM) (G : MG) : ev 268 384 [a0, a1, a2, a3] st μ G = ev 268 385 [a0, a1, a2, a3] (vI (2) :: st) μ G := ev_stp pg_268_384 rfl
theorem pg_268_385 : mm_prog 268 385 = some (0, .iadd, 386, []) := by decide +kernel
theorem xe_268_385 (a0 a1 a2 a3 : Option MV) (x y : Int) (st : List MV) (μ : MM) (G : MG) : ev 268 385 [a0, a1, a2, a3] (vI y :: vI x :: st) μ G = ev 268 386 [a0, a1, a2, a3] (vI (w32 (x + y)) :: st) μ G := ev_stp pg_268_385 rfl
theorem pg_268_386 : mm_prog 268 386 = some (0, .iaload, 387, []) := by decide +kernel
theorem xe_268_386 (a0 a1 a2 a3 : Option MV) (x y : Int) (st : List MV) (μ : MM) (G : MG) : ev 268 386 [a0, a1, a2, a3] (vI x :: vR y :: st) μ G = if gk G y = 100 ∧ 0 ≤ x ∧ x < gl G y then ev 268 387 [a0, a1, a2, a3] (vI (μ y x) :: st) μ G else none := ev_if pg_268_386 rfl
theorem pg_268_387 : mm_prog 268 387 = some (1, .invokevirtual 43, 390, [1, 180, 2, 11]) := by decide +kernel
theorem xe_268_387 (a0 a1 a2 a3 : Option MV) (x0 x1 z r0 : Int) (μ : MM) (G : MG) : ev 268 387 [a0, a1, a2, a3] (vI x1 :: vI x0 :: vR z :: [vI r0]) μ G = if gk G z = 11 ∧ 0 < z then (ev 180 0 [some (vR z), some (vI x0), some (vI x1)] [] μ G).bind (fun q => ev 268 390 [a0, a1, a2, a3] (q.1.toList ++ [vI r0]) q.2.1 q.2.2) else none := ev_calV (as := [vR z, vI x0, vI x1]) (r := [vI r0]) mx_180 pg_268_387 rfl rfl (Nat.le_of_ble_eq_true rfl) (Nat.le_of_ble_eq_true rfl)
theorem pg_268_390 : mm_prog 268 390 = some (0, .if_icmp .eq 888, 393, []) := by decide +kernel
theorem xe_268_390 (a0 a1 a2 a3 : Option MV) (x y : Int) (st : List MV) (μ : MM) (G : MG) : ev 268 390 [a0, a1, a2, a3] (vI y :: vI x :: st) μ G = if x = y then ev 268 1278 [a0, a1, a2, a3] st μ G else ev 268 393 [a0, a1, a2, a3] st μ G := ev_br (mm_cnd_eq x y) pg_268_390 rfl
theorem pg_268_393 : mm_prog 268 393 = some (0, .iconst 0, 394, []) := by decide +kernel
theorem xe_268_393 (a0 a1 a2 a3 : Option MV) (st : List MV) (μ : MM) (G : MG) : ev 268 393 [a0, a1, a2, a3] st μ G = ev 268 394 [a0, a1, a2, a3] (vI (0) :: st) μ G := ev_stp pg_268_393 rfl
theorem pg_268_394 : mm_prog 268 394 = some (2, .ireturn, 395, [1]) := by decide +kernel
theorem xe_268_394 (a0 a1 a2 a3 : Option MV) (x : Int) (μ : MM) (G : MG) : ev 268 394 [a0, a1, a2, a3] [vI x] μ G = if x = 0 ∨ x = 1 then some (some (vI x), μ, G) else none := ev_retB pg_268_394
theorem pg_268_395 : mm_prog 268 395 = some (0, .aload_n 1, 396, []) := by decide +kernel
theorem xe_268_395 (a0 a2 a3 : Option MV) (x : Int) (st : List MV) (μ : MM) (G : MG) : ev 268 395 [a0, some (vR x), a2, a3] st μ G = ev 268 396 [a0, some (vR x), a2, a3] (vR x :: st) μ G := ev_stp pg_268_395 rfl
theorem pg_268_396 : mm_prog 268 396 = some (0, .aload_n 0, 397, []) := by decide +kernel
theorem xe_268_396 (a1 a2 a3 : Option MV) (x : Int) (st : List MV) (μ : MM) (G : MG) : ev 268 396 [some (vR x), a1, a2, a3] st μ G = ev 268 397 [some (vR x), a1, a2, a3] (vR x :: st) μ G := ev_stp pg_268_396 rfl
theorem pg_268_397 : mm_prog 268 397 = some (0, .iload_n 3, 398, []) := by decide +kernel
theorem xe_268_397 (a0 a1 a2 : Option MV) (x : Int) (st : List MV) (μ : MM) (G : MG) : ev 268 397 [a0, a1, a2, some (vI x)] st μ G = ev 268 398 [a0, a1, a2, some (vI x)] (vI x :: st) μ G := ev_stp pg_268_397 rfl
theorem pg_268_398 : mm_prog 268 398 = some (0, .iconst 1, 399, []) := by decide +kernel
theorem xe_268_398 (a0 a1 a2 a3 : Option MV) (st : List MV) (μ : MM) (G : MG) : ev 268 398 [a0, a1, a2, a3] st μ G = ev 268 399 [a0, a1, a2, a3] (vI (1) :: st) μ G := ev_stp pg_268_398 rfl
theorem pg_268_399 : mm_prog 268 399 = some (0, .iadd, 400, []) := by decide +kernel
theorem xe_268_399 (a0 a1 a2 a3 : Option MV) (x y : Int) (st : List MV) (μ : MM) (G : MG) : ev 268 399 [a0, a1, a2, a3] (vI y :: vI x :: st) μ G = ev 268 400 [a0, a1, a2, a3] (vI (w32 (x + y)) :: st) μ G := ev_stp pg_268_399 rfl
theorem pg_268_400 : mm_prog 268 400 = some (0, .iaload, 401, []) := by decide +kernel
theorem xe_268_400 (a0 a1 a2 a3 : Option MV) (x y : Int) (st : List MV) (μ : MM) (G : MG) : ev 268 400 [a0, a1, a2, a3] (vI x :: vR y :: st) μ G = if gk G y = 100 ∧ 0 ≤ x ∧ x < gl G y then ev 268 401 [a0, a1, a2, a3] (vI (μ y x) :: st) μ G else none := ev_if pg_268_400 rfl
theorem pg_268_401 : mm_prog 268 401 = some (1, .invokevirtual 44, 404, [1, 107, 1, 10]) := by decide +kernel
theorem xe_268_401 (a0 a1 a2 a3 : Option MV) (x0 z : Int) (μ : MM) (G : MG) : ev 268 401 [a0, a1, a2, a3] (vI x0 :: vR z :: []) μ G = if gk G z = 10 ∧ 0 < z then (ev 107 0 [some (vR z), some (vI x0)] [] μ G).bind (fun q => ev 268 404 [a0, a1, a2, a3] (q.1.toList ++ []) q.2.1 q.2.2) else none := ev_calV (as := [vR z, vI x0]) (r := []) mx_107 pg_268_401 rfl rfl (Nat.le_of_ble_eq_true rfl) (Nat.le_of_ble_eq_true rfl)
theorem pg_268_404 : mm_prog 268 404 = some (0, .aload_n 2, 405, []) := by decide +kernel
theorem xe_268_404 (a0 a1 a3 : Option MV) (x : Int) (st : List MV) (μ : MM) (G : MG) : ev 268 404 [a0, a1, some (vR x), a3] st μ G = ev 268 405 [a0, a1, some (vR x), a3] (vR x :: st) μ G := ev_stp pg_268_404 rfl
theorem pg_268_405 : mm_prog 268 405 = some (0, .aload_n 0, 406, []) := by decide +kernel
theorem xe_268_405 (a1 a2 a3 : Option MV) (x : Int) (st : List MV) (μ : MM) (G : MG) : ev 268 405 [some (vR x), a1, a2, a3] st μ G = ev 268 406 [some (vR x), a1, a2, a3] (vR x :: st) μ G := ev_stp pg_268_405 rfl
theorem pg_268_406 : mm_prog 268 406 = some (0, .iload_n 3, 407, []) := by decide +kernel
theorem xe_268_406 (a0 a1 a2 : Option MV) (x : Int) (st : List MV) (μ : MM) (G : MG) : ev 268 406 [a0, a1, a2, some (vI x)] st μ G = ev 268 407 [a0, a1, a2, some (vI x)] (vI x :: st) μ G := ev_stp pg_268_406 rfl
theorem pg_268_407 : mm_prog 268 407 = some (0, .iconst 1, 408, []) := by decide +kernel
theorem xe_268_407 (a0 a1 a2 a3 : Option MV) (st : List MV) (μ : MM) (G : MG) : ev 268 407 [a0, a1, a2, a3] st μ G = ev 268 408 [a0, a1, a2, a3] (vI (1) :: st) μ G := ev_stp pg_268_407 rfl
theorem pg_268_408 : mm_prog 268 408 = some (0, .iadd, 409, []) := by decide +kernel
theorem xe_268_408 (a0 a1 a2 a3 : Option MV) (x y : Int) (st : List MV) (μ : MM) (G : MG) : ev 268 408 [a0, a1, a2, a3] (vI y :: vI x :: st) μ G = ev 268 409 [a0, a1, a2, a3] (vI (w32 (x + y)) :: st) μ G := ev_stp pg_268_408 rfl
theorem pg_268_409 : mm_prog 268 409 = some (0, .iaload, 410, []) := by decide +kernel
theorem xe_268_409 (a0 a1 a2 a3 : Option MV) (x y : Int) (st : List MV) (μ : MM) (G : MG) : ev 268 409 [a0, a1, a2, a3] (vI x :: vR y :: st) μ G = if gk G y = 100 ∧ 0 ≤ x ∧ x < gl G y then ev 268 410 [a0, a1, a2, a3] (vI (μ y x) :: st) μ G else none := ev_if pg_268_409 rfl
theorem pg_268_410 : mm_prog 268 410 = some (1, .invokevirtual 47, 413, [1, 188, 1, 11]) := by decide +kernel
theorem xe_268_410 (a0 a1 a2 a3 : Option MV) (x0 z r0 : Int) (μ : MM) (G : MG) : ev 268 410 [a0, a1, a2, a3] (vI x0 :: vR z :: [vI r0]) μ G = if gk G z = 11 ∧ 0 < z then (ev 188 0 [some (vR z), some (vI x0)] [] μ G).bind (fun q => ev 268 413 [a0, a1, a2, a3] (q.1.toList ++ [vI r0]) q.2.1 q.2.2) else none := ev_calV (as := [vR z, vI x0]) (r := [vI r0]) mx_188 pg_268_410 rfl rfl (Nat.le_of_ble_eq_true rfl) (Nat.le_of_ble_eq_true rfl)
theorem pg_268_413 : mm_prog 268 413 = some (0, .if_icmp .eq 865, 416, []) := by decide +kernel
theorem xe_268_413 (a0 a1 a2 a3 : Option MV) (x y : Int) (st : List MV) (μ : MM) (G : MG) : ev 268 413 [a0, a1, a2, a3] (vI y :: vI x :: st) μ G = if x = y then ev 268 1278 [a0, a1, a2, a3] st μ G else ev 268 416 [a0, a1, a2, a3] st μ G := ev_br (mm_cnd_eq x y) pg_268_413 rfl
theorem pg_268_416 : mm_prog 268 416 = some (0, .iconst 0, 417, []) := by decide +kernel
theorem xe_268_416 (a0 a1 a2 a3 : Option MV) (st : List MV) (μ : MM) (G : MG) : ev 268 416 [a0, a1, a2, a3] st μ G = ev 268 417 [a0, a1, a2, a3] (vI (0) :: st) μ G := ev_stp pg_268_416 rfl
theorem pg_268_417 : mm_prog 268 417 = some (2, .ireturn, 418, [1]) := by decide +kernel
theorem xe_268_417 (a0 a1 a2 a3 : Option MV) (x : Int) (μ : MM) (G : MG) : ev 268 417 [a0, a1, a2, a3] [vI x] μ G = if x = 0 ∨ x = 1 then some (some (vI x), μ, G) else none := ev_retB pg_268_417
theorem pg_268_418 : mm_prog 268 418 = some (0, .aload_n 1, 419, []) := by decide +kernel
theorem xe_268_418 (a0 a2 a3 : Option MV) (x : Int) (st : List MV) (μ : MM) (G : MG) : ev 268 418 [a0, some (vR x), a2, a3] st μ G = ev 268 419 [a0, some (vR x), a2, a3] (vR x :: st) μ G := ev_stp pg_268_418 rfl
theorem pg_268_419 : mm_prog 268 419 = some (0, .aload_n 0, 420, []) := by decide +kernel
theorem xe_268_419 (a1 a2 a3 : Option MV) (x : Int) (st : List MV) (μ : MM) (G : MG) : ev 268 419 [some (vR x), a1, a2, a3] st μ G = ev 268 420 [some (vR x), a1, a2, a3] (vR x :: st) μ G := ev_stp pg_268_419 rfl
theorem pg_268_420 : mm_prog 268 420 = some (0, .iload_n 3, 421, []) := by decide +kernel
theorem xe_268_420 (a0 a1 a2 : Option MV) (x : Int) (st : List MV) (μ : MM) (G : MG) : ev 268 420 [a0, a1, a2, some (vI x)] st μ G = ev 268 421 [a0, a1, a2, some (vI x)] (vI x :: st) μ G := ev_stp pg_268_420 rfl
theorem pg_268_421 : mm_prog 268 421 = some (0, .iconst 1, 422, []) := by decide +kernel
theorem xe_268_421 (a0 a1 a2 a3 : Option MV) (st : List MV) (μ : MM) (G : MG) : ev 268 421 [a0, a1, a2, a3] st μ G = ev 268 422 [a0, a1, a2, a3] (vI (1) :: st) μ G := ev_stp pg_268_421 rfl
theorem pg_268_422 : mm_prog 268 422 = some (0, .iadd, 423, []) := by decide +kernel
theorem xe_268_422 (a0 a1 a2 a3 : Option MV) (x y : Int) (st : List MV) (μ : MM) (G : MG) : ev 268 422 [a0, a1, a2, a3] (vI y :: vI x :: st) μ G = ev 268 423 [a0, a1, a2, a3] (vI (w32 (x + y)) :: st) μ G := ev_stp pg_268_422 rfl
theorem pg_268_423 : mm_prog 268 423 = some (0, .iaload, 424, []) := by decide +kernel
theorem xe_268_423 (a0 a1 a2 a3 : Option MV) (x y : Int) (st : List MV) (μ : MM) (G : MG) : ev 268 423 [a0, a1, a2, a3] (vI x :: vR y :: st) μ G = if gk G y = 100 ∧ 0 ≤ x ∧ x < gl G y then ev 268 424 [a0, a1, a2, a3] (vI (μ y x) :: st) μ G else none := ev_if pg_268_423 rfl
theorem pg_268_424 : mm_prog 268 424 = some (0, .aload_n 0, 425, []) := by decide +kernel
theorem xe_268_424 (a1 a2 a3 : Option MV) (x : Int) (st : List MV) (μ : MM) (G : MG) : ev 268 424 [some (vR x), a1, a2, a3] st μ G = ev 268 425 [some (vR x), a1, a2, a3] (vR x :: st) μ G := ev_stp pg_268_424 rfl
theorem pg_268_425 : mm_prog 268 425 = some (0, .iload_n 3, 426, []) := by decide +kernel
theorem xe_268_425 (a0 a1 a2 : Option MV) (x : Int) (st : List MV) (μ : MM) (G : MG) : ev 268 425 [a0, a1, a2, some (vI x)] st μ G = ev 268 426 [a0, a1, a2, some (vI x)] (vI x :: st) μ G := ev_stp pg_268_425 rfl
theorem pg_268_426 : mm_prog 268 426 = some (0, .iconst 2, 427, []) := by decide +kernel
theorem xe_268_426 (a0 a1 a2 a3 : Option MV) (st : List MV) (μ : MM) (G : MG) : ev 268 426 [a0, a1, a2, a3] st μ G = ev 268 427 [a0, a1, a2, a3] (vI (2) :: st) μ G := ev_stp pg_268_426 rfl
theorem pg_268_427 : mm_prog 268 427 = some (0, .iadd, 428, []) := by decide +kernel
theorem xe_268_427 (a0 a1 a2 a3 : Option MV) (x y : Int) (st : List MV) (μ : MM) (G : MG) : ev 268 427 [a0, a1, a2, a3] (vI y :: vI x :: st) μ G = ev 268 428 [a0, a1, a2, a3] (vI (w32 (x + y)) :: st) μ G := ev_stp pg_268_427 rfl
theorem pg_268_428 : mm_prog 268 428 = some (0, .iaload, 429, []) := by decide +kernel
theorem xe_268_428 (a0 a1 a2 a3 : Option MV) (x y : Int) (st : List MV) (μ : MM) (G : MG) : ev 268 428 [a0, a1, a2, a3] (vI x :: vR y :: st) μ G = if gk G y = 100 ∧ 0 ≤ x ∧ x < gl G y then ev 268 429 [a0, a1, a2, a3] (vI (μ y x) :: st) μ G else none := ev_if pg_268_428 rfl
theorem pg_268_429 : mm_prog 268 429 = some (1, .invokevirtual 48, 432, [1, 108, 2, 10]) := by decide +kernel
theorem xe_268_429 (a0 a1 a2 a3 : Option MV) (x0 x1 z : Int) (μ : MM) (G : MG) : ev 268 429 [a0, a1, a2, a3] (vI x1 :: vI x0 :: vR z :: []) μ G = if gk G z = 10 ∧ 0 < z then (ev 108 0 [some (vR z), some (vI x0), some (vI x1), none] [] μ G).bind (fun q => ev 268 432 [a0, a1, a2, a3] (q.1.toList ++ []) q.2.1 q.2.2) else none := ev_calV (as := [vR z, vI x0, vI x1]) (r := []) mx_108 pg_268_429 rfl rfl (Nat.le_of_ble_eq_true rfl) (Nat.le_of_ble_eq_true rfl)
theorem pg_268_432 : mm_prog 268 432 = some (0, .aload_n 2, 433, []) := by decide +kernel
theorem xe_268_432 (a0 a1 a3 : Option MV) (x : Int) (st : List MV) (μ : MM) (G : MG) : ev 268 432 [a0, a1, some (vR x), a3] st μ G = ev 268 433 [a0, a1, some (vR x), a3] (vR x :: st) μ G := ev_stp pg_268_432 rfl
theorem pg_268_433 : mm_prog 268 433 = some (0, .aload_n 0, 434, []) := by decide +kernel
theorem xe_268_433 (a1 a2 a3 : Option MV) (x : Int) (st : List MV) (μ : MM) (G : MG) : ev 268 433 [some (vR x), a1, a2, a3] st μ G = ev 268 434 [some (vR x), a1, a2, a3] (vR x :: st) μ G := ev_stp pg_268_433 rfl
theorem pg_268_434 : mm_prog 268 434 = some (0, .iload_n 3, 435, []) := by decide +kernel
theorem xe_268_434 (a0 a1 a2 : Option MV) (x : Int) (st : List MV) (μ : MM) (G : MG) : ev 268 434 [a0, a1, a2, some (vI x)] st μ G = ev 268 435 [a0, a1, a2, some (vI x)] (vI x :: st) μ G := ev_stp pg_268_434 rfl
theorem pg_268_435 : mm_prog 268 435 = some (0, .iconst 1, 436, []) := by decide +kernel
theorem xe_268_435 (a0 a1 a2 a3 : Option MV) (st : List MV) (μ : MM) (G : MG) : ev 268 435 [a0, a1, a2, a3] st μ G = ev 268 436 [a0, a1, a2, a3] (vI (1) :: st) μ G := ev_stp pg_268_435 rfl
theorem pg_268_436 : mm_prog 268 436 = some (0, .iadd, 437, []) := by decide +kernel
theorem xe_268_436 (a0 a1 a2 a3 : Option MV) (x y : Int) (st : List MV) (μ : MM) (G : MG) : ev 268 436 [a0, a1, a2, a3] (vI y :: vI x :: st) μ G = ev 268 437 [a0, a1, a2, a3] (vI (w32 (x + y)) :: st) μ G := ev_stp pg_268_436 rfl
theorem pg_268_437 : mm_prog 268 437 = some (0, .iaload, 438, []) := by decide +kernel
theorem xe_268_437 (a0 a1 a2 a3 : Option MV) (x y : Int) (st : List MV) (μ : MM) (G : MG) : ev 268 437 [a0, a1, a2, a3] (vI x :: vR y :: st) μ G = if gk G y = 100 ∧ 0 ≤ x ∧ x < gl G y then ev 268 438 [a0, a1, a2, a3] (vI (μ y x) :: st) μ G else none := ev_if pg_268_437 rfl
theorem pg_268_438 : mm_prog 268 438 = some (0, .aload_n 0, 439, []) := by decide +kernel
theorem xe_268_438 (a1 a2 a3 : Option MV) (x : Int) (st : List MV) (μ : MM) (G : MG) : ev 268 438 [some (vR x), a1, a2, a3] st μ G = ev 268 439 [some (vR x), a1, a2, a3] (vR x :: st) μ G := ev_stp pg_268_438 rfl
theorem pg_268_439 : mm_prog 268 439 = some (0, .iload_n 3, 440, []) := by decide +kernel
theorem xe_268_439 (a0 a1 a2 : Option MV) (x : Int) (st : List MV) (μ : MM) (G : MG) : ev 268 439 [a0, a1, a2, some (vI x)] st μ G = ev 268 440 [a0, a1, a2, some (vI x)] (vI x :: st) μ G := ev_stp pg_268_439 rfl
theorem pg_268_440 : mm_prog 268 440 = some (0, .iconst 2, 441, []) := by decide +kernel
theorem xe_268_440 (a0 a1 a2 a3 : Option MV) (st : List MV) (μ : MM) (G : MG) : ev 268 440 [a0, a1, a2, a3] st μ G = ev 268 441 [a0, a1, a2, a3] (vI (2) :: st) μ G := ev_stp pg_268_440 rfl
theorem pg_268_441 : mm_prog 268 441 = some (0, .iadd, 442, []) := by decide +kernel
theorem xe_268_441 (a0 a1 a2 a3 : Option MV) (x y : Int) (st : List MV) (μ : MM) (G : MG) : ev 268 441 [a0, a1, a2, a3] (vI y :: vI x :: st) μ G = ev 268 442 [a0, a1, a2, a3] (vI (w32 (x + y)) :: st) μ G := ev_stp pg_268_441 rfl
theorem pg_268_442 : mm_prog 268 442 = some (0, .iaload, 443, []) := by decide +kernel
theorem xe_268_442 (a0 a1 a2 a3 : Option MV) (x y : Int) (st : List MV) (μ : MM) (G : MG) : ev 268 442 [a0, a1, a2, a3] (vI x :: vR y :: st) μ G = if gk G y = 100 ∧ 0 ≤ x ∧ x < gl G y then ev 268 443 [a0, a1, a2, a3] (vI (μ y x) :: st) μ G else none := ev_if pg_268_442 rfl
theorem pg_268_443 : mm_prog 268 443 = some (1, .invokevirtual 51, 446, [1, 182, 2, 11]) := by decide +kernel
theorem xe_268_443 (a0 a1 a2 a3 : Option MV) (x0 x1 z r0 : Int) (μ : MM) (G : MG) : ev 268 443 [a0, a1, a2, a3] (vI x1 :: vI x0 :: vR z :: [vI r0]) μ G = if gk G z = 11 ∧ 0 < z then (ev 182 0 [some (vR z), some (vI x0), some (vI x1)] [] μ G).bind (fun q => ev 268 446 [a0, a1, a2, a3] (q.1.toList ++ [vI r0]) q.2.1 q.2.2) else none := ev_calV (as := [vR z, vI x0, vI x1]) (r := [vI r0]) mx_182 pg_268_443 rfl rfl (Nat.le_of_ble_eq_true rfl) (Nat.le_of_ble_eq_true rfl)
theorem pg_268_446 : mm_prog 268 446 = some (0, .if_icmp .eq 832, 449, []) := by decide +kernel
theorem xe_268_446 (a0 a1 a2 a3 : Option MV) (x y : Int) (st : List MV) (μ : MM) (G : MG) : ev 268 446 [a0, a1, a2, a3] (vI y :: vI x :: st) μ G = if x = y then ev 268 1278 [a0, a1, a2, a3] st μ G else ev 268 449 [a0, a1, a2, a3] st μ G := ev_br (mm_cnd_eq x y) pg_268_446 rfl
theorem pg_268_449 : mm_prog 268 449 = some (0, .iconst 0, 450, []) := by decide +kernel
theorem xe_268_449 (a0 a1 a2 a3 : Option MV) (st : List MV) (μ : MM) (G : MG) : ev 268 449 [a0, a1, a2, a3] st μ G = ev 268 450 [a0, a1, a2, a3] (vI (0) :: st) μ G := ev_stp pg_268_449 rfl
theorem pg_268_450 : mm_prog 268 450 = some (2, .ireturn, 451, [1]) := by decide +kernel
theorem xe_268_450 (a0 a1 a2 a3 : Option MV) (x : Int) (μ : MM) (G : MG) : ev 268 450 [a0, a1, a2, a3] [vI x] μ G = if x = 0 ∨ x = 1 then some (some (vI x), μ, G) else none := ev_retB pg_268_450
theorem pg_268_451 : mm_prog 268 451 = some (0, .aload_n 1, 452, []) := by decide +kernel
theorem xe_268_451 (a0 a2 a3 : Option MV) (x : Int) (st : List MV) (μ : MM) (G : MG) : ev 268 451 [a0, some (vR x), a2, a3] st μ G = ev 268 452 [a0, some (vR x), a2, a3] (vR x :: st) μ G := ev_stp pg_268_451 rfl
theorem pg_268_452 : mm_prog 268 452 = some (0, .aload_n 0, 453, []) := by decide +kernel
theorem xe_268_452 (a1 a2 a3 : Option MV) (x : Int) (st : List MV) (μ : MM) (G : MG) : ev 268 452 [some (vR x), a1, a2, a3] st μ G = ev 268 453 [some (vR x), a1, a2, a3] (vR x :: st) μ G := ev_stp pg_268_452 rfl
theorem pg_268_453 : mm_prog 268 453 = some (0, .iload_n 3, 454, []) := by decide +kernel
theorem xe_268_453 (a0 a1 a2 : Option MV) (x : Int) (st : List MV) (μ : MM) (G : MG) : ev 268 453 [a0, a1, a2, some (vI x)] st μ G = ev 268 454 [a0, a1, a2, some (vI x)] (vI x :: st) μ G := ev_stp pg_268_453 rfl
theorem pg_268_454 : mm_prog 268 454 = some (0, .iconst 1, 455, []) := by decide +kernel
theorem xe_268_454 (a0 a1 a2 a3 : Option MV) (st : List MV) (μ : MM) (G : MG) : ev 268 454 [a0, a1, a2, a3] st μ G = ev 268 455 [a0, a1, a2, a3] (vI (1) :: st) μ G := ev_stp pg_268_454 rfl
theorem pg_268_455 : mm_prog 268 455 = some (0, .iadd, 456, []) := by decide +kernel
theorem xe_268_455 (a0 a1 a2 a3 : Option MV) (x y : Int) (st : List MV) (μ : MM) (G : MG) : ev 268 455 [a0, a1, a2, a3] (vI y :: vI x :: st) μ G = ev 268 456 [a0, a1, a2, a3] (vI (w32 (x + y)) :: st) μ G := ev_stp pg_268_455 rfl
theorem pg_268_456 : mm_prog 268 456 = some (0, .iaload, 457, []) := by decide +kernel
theorem xe_268_456 (a0 a1 a2 a3 : Option MV) (x y : Int) (st : List MV) (μ : MM) (G : MG) : ev 268 456 [a0, a1, a2, a3] (vI x :: vR y :: st) μ G = if gk G y = 100 ∧ 0 ≤ x ∧ x < gl G y then ev 268 457 [a0, a1, a2, a3] (vI (μ y x) :: st) μ G else none := ev_if pg_268_456 rfl
theorem pg_268_457 : mm_prog 268 457 = some (0, .aload_n 0, 458, []) := by decide +kernel
theorem xe_268_457 (a1 a2 a3 : Option MV) (x : Int) (st : List MV) (μ : MM) (G : MG) : ev 268 457 [some (vR x), a1, a2, a3] st μ G = ev 268 458 [some (vR x), a1, a2, a3] (vR x :: st) μ G := ev_stp pg_268_457 rfl
theorem pg_268_458 : mm_prog 268 458 = some (0, .iload_n 3, 459, []) := by decide +kernel
theorem xe_268_458 (a0 a1 a2 : Option MV) (x : Int) (st : List MV) (μ : MM) (G : MG) : ev 268 458 [a0, a1, a2, some (vI x)] st μ G = ev 268 459 [a0, a1, a2, some (vI x)] (vI x :: st) μ G := ev_stp pg_268_458 rfl
theorem pg_268_459 : mm_prog 268 459 = some (0, .iconst 2, 460, []) := by decide +kernel
theorem xe_268_459 (a0 a1 a2 a3 : Option MV) (st : List MV) (μ : MM) (G : MG) : ev 268 459 [a0, a1, a2, a3] st μ G = ev 268 460 [a0, a1, a2, a3] (vI (2) :: st) μ G := ev_stp pg_268_459 rfl
theorem pg_268_460 : mm_prog 268 460 = some (0, .iadd, 461, []) := by decide +kernel
theorem xe_268_460 (a0 a1 a2 a3 : Option MV) (x y : Int) (st : List MV) (μ : MM) (G : MG) : ev 268 460 [a0, a1, a2, a3] (vI y :: vI x :: st) μ G = ev 268 461 [a0, a1, a2, a3] (vI (w32 (x + y)) :: st) μ G := ev_stp pg_268_460 rfl
theorem pg_268_461 : mm_prog 268 461 = some (0, .iaload, 462, []) := by decide +kernel
theorem xe_268_461 (a0 a1 a2 a3 : Option MV) (x y : Int) (st : List MV) (μ : MM) (G : MG) : ev 268 461 [a0, a1, a2, a3] (vI x :: vR y :: st) μ G = if gk G y = 100 ∧ 0 ≤ x ∧ x < gl G y then ev 268 462 [a0, a1, a2, a3] (vI (μ y x) :: st) μ G else none := ev_if pg_268_461 rfl
theorem pg_268_462 : mm_prog 268 462 = some (1, .invokevirtual 52, 465, [1, 109, 2, 10]) := by decide +kernel
theorem xe_268_462 (a0 a1 a2 a3 : Option MV) (x0 x1 z : Int) (μ : MM) (G : MG) : ev 268 462 [a0, a1, a2, a3] (vI x1 :: vI x0 :: vR z :: []) μ G = if gk G z = 10 ∧ 0 < z then (ev 109 0 [some (vR z), some (vI x0), some (vI x1), none] [] μ G).bind (fun q => ev 268 465 [a0, a1, a2, a3] (q.1.toList ++ []) q.2.1 q.2.2) else none := ev_calV (as := [vR z, vI x0, vI x1]) (r := []) mx_109 pg_268_462 rfl rfl (Nat.le_of_ble_eq_true rfl) (Nat.le_of_ble_eq_true rfl)
theorem pg_268_465 : mm_prog 268 465 = some (0, .aload_n 2, 466, []) := by decide +kernel
theorem xe_268_465 (a0 a1 a3 : Option MV) (x : Int) (st : List MV) (μ : MM) (G : MG) : ev 268 465 [a0, a1, some (vR x), a3] st μ G = ev 268 466 [a0, a1, some (vR x), a3] (vR x :: st) μ G := ev_stp pg_268_465 rfl
theorem pg_268_466 : mm_prog 268 466 = some (0, .aload_n 0, 467, []) := by decide +kernel
theorem xe_268_466 (a1 a2 a3 : Option MV) (x : Int) (st : List MV) (μ : MM) (G : MG) : ev 268 466 [some (vR x), a1, a2, a3] st μ G = ev 268 467 [some (vR x), a1, a2, a3] (vR x :: st) μ G := ev_stp pg_268_466 rfl
theorem pg_268_467 : mm_prog 268 467 = some (0, .iload_n 3, 468, []) := by decide +kernel
theorem xe_268_467 (a0 a1 a2 : Option MV) (x : Int) (st : List MV) (μ : MM) (G : MG) : ev 268 467 [a0, a1, a2, some (vI x)] st μ G = ev 268 468 [a0, a1, a2, some (vI x)] (vI x :: st) μ G := ev_stp pg_268_467 rfl
theorem pg_268_468 : mm_prog 268 468 = some (0, .iconst 1, 469, []) := by decide +kernel
theorem xe_268_468 (a0 a1 a2 a3 : Option MV) (st : List MV) (μ : MM) (G : MG) : ev 268 468 [a0, a1, a2, a3] st μ G = ev 268 469 [a0, a1, a2, a3] (vI (1) :: st) μ G := ev_stp pg_268_468 rfl
theorem pg_268_469 : mm_prog 268 469 = some (0, .iadd, 470, []) := by decide +kernel
theorem xe_268_469 (a0 a1 a2 a3 : Option MV) (x y : Int) (st : List MV) (μ : MM) (G : MG) : ev 268 469 [a0, a1, a2, a3] (vI y :: vI x :: st) μ G = ev 268 470 [a0, a1, a2, a3] (vI (w32 (x + y)) :: st) μ G := ev_stp pg_268_469 rfl
theorem pg_268_470 : mm_prog 268 470 = some (0, .iaload, 471, []) := by decide +kernel
theorem xe_268_470 (a0 a1 a2 a3 : Option MV) (x y : Int) (st : List MV) (μ : MM) (G : MG) : ev 268 470 [a0, a1, a2, a3] (vI x :: vR y :: st) μ G = if gk G y = 100 ∧ 0 ≤ x ∧ x < gl G y then ev 268 471 [a0, a1, a2, a3] (vI (μ y x) :: st) μ G else none := ev_if pg_268_470 rfl
theorem pg_268_471 : mm_prog 268 471 = some (0, .aload_n 0, 472, []) := by decide +kernel
theorem xe_268_471 (a1 a2 a3 : Option MV) (x : Int) (st : List MV) (μ : MM) (G : MG) : ev 268 471 [some (vR x), a1, a2, a3] st μ G = ev 268 472 [some (vR x), a1, a2, a3] (vR x :: st) μ G := ev_stp pg_268_471 rfl
theorem pg_268_472 : mm_prog 268 472 = some (0, .iload_n 3, 473, []) := by decide +kernel
theorem xe_268_472 (a0 a1 a2 : Option MV) (x : Int) (st : List MV) (μ : MM) (G : MG) : ev 268 472 [a0, a1, a2, some (vI x)] st μ G = ev 268 473 [a0, a1, a2, some (vI x)] (vI x :: st) μ G := ev_stp pg_268_472 rfl
theorem pg_268_473 : mm_prog 268 473 = some (0, .iconst 2, 474, []) := by decide +kernel
theorem xe_268_473 (a0 a1 a2 a3 : Option MV) (st : List MV) (μ : MM) (G : MG) : ev 268 473 [a0, a1, a2, a3] st μ G = ev 268 474 [a0, a1, a2, a3] (vI (2) :: st) μ G := ev_stp pg_268_473 rfl
theorem pg_268_474 : mm_prog 268 474 = some (0, .iadd, 475, []) := by decide +kernel
theorem xe_268_474 (a0 a1 a2 a3 : Option MV) (x y : Int) (st : List MV) (μ : MM) (G : MG) : ev 268 474 [a0, a1, a2, a3] (vI y :: vI x :: st) μ G = ev 268 475 [a0, a1, a2, a3] (vI (w32 (x + y)) :: st) μ G := ev_stp pg_268_474 rfl
theorem pg_268_475 : mm_prog 268 475 = some (0, .iaload, 476, []) := by decide +kernel
theorem xe_268_475 (a0 a1 a2 a3 : Option MV) (x y : Int) (st : List MV) (μ : MM) (G : MG) : ev 268 475 [a0, a1, a2, a3] (vI x :: vR y :: st) μ G = if gk G y = 100 ∧ 0 ≤ x ∧ x < gl G y then ev 268 476 [a0, a1, a2, a3] (vI (μ y x) :: st) μ G else none := ev_if pg_268_475 rfl
theorem pg_268_476 : mm_prog 268 476 = some (1, .invokevirtual 55, 479, [1, 191, 2, 11]) := by decide +kernel
theorem xe_268_476 (a0 a1 a2 a3 : Option MV) (x0 x1 z r0 : Int) (μ : MM) (G : MG) : ev 268 476 [a0, a1, a2, a3] (vI x1 :: vI x0 :: vR z :: [vI r0]) μ G = if gk G z = 11 ∧ 0 < z then (ev 191 0 [some (vR z), some (vI x0), some (vI x1)] [] μ G).bind (fun q => ev 268 479 [a0, a1, a2, a3] (q.1.toList ++ [vI r0]) q.2.1 q.2.2) else none := ev_calV (as := [vR z, vI x0, vI x1]) (r := [vI r0]) mx_191 pg_268_476 rfl rfl (Nat.le_of_ble_eq_true rfl) (Nat.le_of_ble_eq_true rfl)
theorem pg_268_479 : mm_prog 268 479 = some (0, .if_icmp .eq 799, 482, []) := by decide +kernel
theorem xe_268_479 (a0 a1 a2 a3 : Option MV) (x y : Int) (st : List MV) (μ : MM) (G : MG) : ev 268 479 [a0, a1, a2, a3] (vI y :: vI x :: st) μ G = if x = y then ev 268 1278 [a0, a1, a2, a3] st μ G else ev 268 482 [a0, a1, a2, a3] st μ G := ev_br (mm_cnd_eq x y) pg_268_479 rfl
theorem pg_268_482 : mm_prog 268 482 = some (0, .iconst 0, 483, []) := by decide +kernel
theorem xe_268_482 (a0 a1 a2 a3 : Option MV) (st : List MV) (μ : MM) (G : MG) : ev 268 482 [a0, a1, a2, a3] st μ G = ev 268 483 [a0, a1, a2, a3] (vI (0) :: st) μ G := ev_stp pg_268_482 rfl
theorem pg_268_483 : mm_prog 268 483 = some (2, .ireturn, 484, [1]) := by decide +kernel
theorem xe_268_483 (a0 a1 a2 a3 : Option MV) (x : Int) (μ : MM) (G : MG) : ev 268 483 [a0, a1, a2, a3] [vI x] μ G = if x = 0 ∨ x = 1 then some (some (vI x), μ, G) else none := ev_retB pg_268_483
theorem pg_268_484 : mm_prog 268 484 = some (0, .aload_n 1, 485, []) := by decide +kernel
theorem xe_268_484 (a0 a2 a3 : Option MV) (x : Int) (st : List MV) (μ : MM) (G : MG) : ev 268 484 [a0, some (vR x), a2, a3] st μ G = ev 268 485 [a0, some (vR x), a2, a3] (vR x :: st) μ G := ev_stp pg_268_484 rfl
theorem pg_268_485 : mm_prog 268 485 = some (0, .aload_n 0, 486, []) := by decide +kernel
theorem xe_268_485 (a1 a2 a3 : Option MV) (x : Int) (st : List MV) (μ : MM) (G : MG) : ev 268 485 [some (vR x), a1, a2, a3] st μ G = ev 268 486 [some (vR x), a1, a2, a3] (vR x :: st) μ G := ev_stp pg_268_485 rfl
theorem pg_268_486 : mm_prog 268 486 = some (0, .iload_n 3, 487, []) := by decide +kernel
theorem xe_268_486 (a0 a1 a2 : Option MV) (x : Int) (st : List MV) (μ : MM) (G : MG) : ev 268 486 [a0, a1, a2, some (vI x)] st μ G = ev 268 487 [a0, a1, a2, some (vI x)] (vI x :: st) μ G := ev_stp pg_268_486 rfl
theorem pg_268_487 : mm_prog 268 487 = some (0, .iconst 1, 488, []) := by decide +kernel
theorem xe_268_487 (a0 a1 a2 a3 : Option MV) (st : List MV) (μ : MM) (G : MG) : ev 268 487 [a0, a1, a2, a3] st μ G = ev 268 488 [a0, a1, a2, a3] (vI (1) :: st) μ G := ev_stp pg_268_487 rfl
theorem pg_268_488 : mm_prog 268 488 = some (0, .iadd, 489, []) := by decide +kernel
theorem xe_268_488 (a0 a1 a2 a3 : Option MV) (x y : Int) (st : List MV) (μ : MM) (G : MG) : ev 268 488 [a0, a1, a2, a3] (vI y :: vI x :: st) μ G = ev 268 489 [a0, a1, a2, a3] (vI (w32 (x + y)) :: st) μ G := ev_stp pg_268_488 rfl
theorem pg_268_489 : mm_prog 268 489 = some (0, .iaload, 490, []) := by decide +kernel
theorem xe_268_489 (a0 a1 a2 a3 : Option MV) (x y : Int) (st : List MV) (μ : MM) (G : MG) : ev 268 489 [a0, a1, a2, a3] (vI x :: vR y :: st) μ G = if gk G y = 100 ∧ 0 ≤ x ∧ x < gl G y then ev 268 490 [a0, a1, a2, a3] (vI (μ y x) :: st) μ G else none := ev_if pg_268_489 rfl
theorem pg_268_490 : mm_prog 268 490 = some (0, .aload_n 0, 491, []) := by decide +kernel
theorem xe_268_490 (a1 a2 a3 : Option MV) (x : Int) (st : List MV) (μ : MM) (G : MG) : ev 268 490 [some (vR x), a1, a2, a3] st μ G = ev 268 491 [some (vR x), a1, a2, a3] (vR x :: st) μ G := ev_stp pg_268_490 rfl
theorem pg_268_491 : mm_prog 268 491 = some (0, .iload_n 3, 492, []) := by decide +kernel
theorem xe_268_491 (a0 a1 a2 : Option MV) (x : Int) (st : List MV) (μ : MM) (G : MG) : ev 268 491 [a0, a1, a2, some (vI x)] st μ G = ev 268 492 [a0, a1, a2, some (vI x)] (vI x :: st) μ G := ev_stp pg_268_491 rfl
theorem pg_268_492 : mm_prog 268 492 = some (0, .iconst 2, 493, []) := by decide +kernel
theorem xe_268_492 (a0 a1 a2 a3 : Option MV) (st : List MV) (μ : MM) (G : MG) : ev 268 492 [a0, a1, a2, a3] st μ G = ev 268 493 [a0, a1, a2, a3] (vI (2) :: st) μ G := ev_stp pg_268_492 rfl
theorem pg_268_493 : mm_prog 268 493 = some (0, .iadd, 494, []) := by decide +kernel
theorem xe_268_493 (a0 a1 a2 a3 : Option MV) (x y : Int) (st : List MV) (μ : MM) (G : MG) : ev 268 493 [a0, a1, a2, a3] (vI y :: vI x :: st) μ G = ev 268 494 [a0, a1, a2, a3] (vI (w32 (x + y)) :: st) μ G := ev_stp pg_268_493 rfl
theorem pg_268_494 : mm_prog 268 494 = some (0, .iaload, 495, []) := by decide +kernel
theorem xe_268_494 (a0 a1 a2 a3 : Option MV) (x y : Int) (st : List MV) (μ : MM) (G : MG) : ev 268 494 [a0, a1, a2, a3] (vI x :: vR y :: st) μ G = if gk G y = 100 ∧ 0 ≤ x ∧ x < gl G y then ev 268 495 [a0, a1, a2, a3] (vI (μ y x) :: st) μ G else none := ev_if pg_268_494 rfl
theorem pg_268_495 : mm_prog 268 495 = some (0, .aload_n 0, 496, []) := by decide +kernel
theorem xe_268_495 (a1 a2 a3 : Option MV) (x : Int) (st : List MV) (μ : MM) (G : MG) : ev 268 495 [some (vR x), a1, a2, a3] st μ G = ev 268 496 [some (vR x), a1, a2, a3] (vR x :: st) μ G := ev_stp pg_268_495 rfl
theorem pg_268_496 : mm_prog 268 496 = some (0, .iload_n 3, 497, []) := by decide +kernel
theorem xe_268_496 (a0 a1 a2 : Option MV) (x : Int) (st : List MV) (μ : MM) (G : MG) : ev 268 496 [a0, a1, a2, some (vI x)] st μ G = ev 268 497 [a0, a1, a2, some (vI x)] (vI x :: st) μ G := ev_stp pg_268_496 rfl
theorem pg_268_497 : mm_prog 268 497 = some (0, .iconst 3, 498, []) := by decide +kernel
theorem xe_268_497 (a0 a1 a2 a3 : Option MV) (st : List MV) (μ : MM) (G : MG) : ev 268 497 [a0, a1, a2, a3] st μ G = ev 268 498 [a0, a1, a2, a3] (vI (3) :: st) μ G := ev_stp pg_268_497 rfl
theorem pg_268_498 : mm_prog 268 498 = some (0, .iadd, 499, []) := by decide +kernel
theorem xe_268_498 (a0 a1 a2 a3 : Option MV) (x y : Int) (st : List MV) (μ : MM) (G : MG) : ev 268 498 [a0, a1, a2, a3] (vI y :: vI x :: st) μ G = ev 268 499 [a0, a1, a2, a3] (vI (w32 (x + y)) :: st) μ G := ev_stp pg_268_498 rfl
theorem pg_268_499 : mm_prog 268 499 = some (0, .iaload, 500, []) := by decide +kernel
theorem xe_268_499 (a0 a1 a2 a3 : Option MV) (x y : Int) (st : List MV) (μ : MM) (G : MG) : ev 268 499 [a0, a1, a2, a3] (vI x :: vR y :: st) μ G = if gk G y = 100 ∧ 0 ≤ x ∧ x < gl G y then ev 268 500 [a0, a1, a2, a3] (vI (μ y x) :: st) μ G else none := ev_if pg_268_499 rfl
theorem pg_268_500 : mm_prog 268 500 = some (1, .invokevirtual 56, 503, [1, 110, 3, 10]) := by decide +kernel
theorem xe_268_500 (a0 a1 a2 a3 : Option MV) (x0 x1 x2 z : Int) (μ : MM) (G : MG) : ev 268 500 [a0, a1, a2, a3] (vI x2 :: vI x1 :: vI x0 :: vR z :: []) μ G = if gk G z = 10 ∧ 0 < z then (ev 110 0 [some (vR z), some (vI x0), some (vI x1), some (vI x2)] [] μ G).bind (fun q => ev 268 503 [a0, a1, a2, a3] (q.1.toList ++ []) q.2.1 q.2.2) else none := ev_calV (as := [vR z, vI x0, vI x1, vI x2]) (r := []) mx_110 pg_268_500 rfl rfl (Nat.le_of_ble_eq_true rfl) (Nat.le_of_ble_eq_true rfl)
theorem pg_268_503 : mm_prog 268 503 = some (0, .aload_n 2, 504, []) := by decide +kernel
theorem xe_268_503 (a0 a1 a3 : Option MV) (x : Int) (st : List MV) (μ : MM) (G : MG) : ev 268 503 [a0, a1, some (vR x), a3] st μ G = ev 268 504 [a0, a1, some (vR x), a3] (vR x :: st) μ G := ev_stp pg_268_503 rfl
theorem pg_268_504 : mm_prog 268 504 = some (0, .aload_n 0, 505, []) := by decide +kernel
theorem xe_268_504 (a1 a2 a3 : Option MV) (x : Int) (st : List MV) (μ : MM) (G : MG) : ev 268 504 [some (vR x), a1, a2, a3] st μ G = ev 268 505 [some (vR x), a1, a2, a3] (vR x :: st) μ G := ev_stp pg_268_504 rfl
theorem pg_268_505 : mm_prog 268 505 = some (0, .iload_n 3, 506, []) := by decide +kernel
theorem xe_268_505 (a0 a1 a2 : Option MV) (x : Int) (st : List MV) (μ : MM) (G : MG) : ev 268 505 [a0, a1, a2, some (vI x)] st μ G = ev 268 506 [a0, a1, a2, some (vI x)] (vI x :: st) μ G := ev_stp pg_268_505 rfl
theorem pg_268_506 : mm_prog 268 506 = some (0, .iconst 1, 507, []) := by decide +kernel
theorem xe_268_506 (a0 a1 a2 a3 : Option MV) (st : List MV) (μ : MM) (G : MG) : ev 268 506 [a0, a1, a2, a3] st μ G = ev 268 507 [a0, a1, a2, a3] (vI (1) :: st) μ G := ev_stp pg_268_506 rfl
theorem pg_268_507 : mm_prog 268 507 = some (0, .iadd, 508, []) := by decide +kernel
theorem xe_268_507 (a0 a1 a2 a3 : Option MV) (x y : Int) (st : List MV) (μ : MM) (G : MG) : ev 268 507 [a0, a1, a2, a3] (vI y :: vI x :: st) μ G = ev 268 508 [a0, a1, a2, a3] (vI (w32 (x + y)) :: st) μ G := ev_stp pg_268_507 rfl
theorem pg_268_508 : mm_prog 268 508 = some (0, .iaload, 509, []) := by decide +kernel
theorem xe_268_508 (a0 a1 a2 a3 : Option MV) (x y : Int) (st : List MV) (μ : MM) (G : MG) : ev 268 508 [a0, a1, a2, a3] (vI x :: vR y :: st) μ G = if gk G y = 100 ∧ 0 ≤ x ∧ x < gl G y then ev 268 509 [a0, a1, a2, a3] (vI (μ y x) :: st) μ G else none := ev_if pg_268_508 rfl
theorem pg_268_509 : mm_prog 268 509 = some (0, .aload_n 0, 510, []) := by decide +kernel
theorem xe_268_509 (a1 a2 a3 : Option MV) (x : Int) (st : List MV) (μ : MM) (G : MG) : ev 268 509 [some (vR x), a1, a2, a3] st μ G = ev 268 510 [some (vR x), a1, a2, a3] (vR x :: st) μ G := ev_stp pg_268_509 rfl
theorem pg_268_510 : mm_prog 268 510 = some (0, .iload_n 3, 511, []) := by decide +kernel
theorem xe_268_510 (a0 a1 a2 : Option MV) (x : Int) (st : List MV) (μ : MM) (G : MG) : ev 268 510 [a0, a1, a2, some (vI x)] st μ G = ev 268 511 [a0, a1, a2, some (vI x)] (vI x :: st) μ G := ev_stp pg_268_510 rfl
theorem pg_268_511 : mm_prog 268 511 = some (0, .iconst 2, 512, []) := by decide +kernel
theorem xe_268_511 (a0 a1 a2 a3 : Option MV) (st : List MV) (μ : MM) (G : MG) : ev 268 511 [a0, a1, a2, a3] st μ G = ev 268 512 [a0, a1, a2, a3] (vI (2) :: st) μ G := ev_stp pg_268_511 rfl
theorem pg_268_512 : mm_prog 268 512 = some (0, .iadd, 513, []) := by decide +kernel
theorem xe_268_512 (a0 a1 a2 a3 : Option MV) (x y : Int) (st : List MV) (μ : MM) (G : MG) : ev 268 512 [a0, a1, a2, a3] (vI y :: vI x :: st) μ G = ev 268 513 [a0, a1, a2, a3] (vI (w32 (x + y)) :: st) μ G := ev_stp pg_268_512 rfl
theorem pg_268_513 : mm_prog 268 513 = some (0, .iaload, 514, []) := by decide +kernel
theorem xe_268_513 (a0 a1 a2 a3 : Option MV) (x y : Int) (st : List MV) (μ : MM) (G : MG) : ev 268 513 [a0, a1, a2, a3] (vI x :: vR y :: st) μ G = if gk G y = 100 ∧ 0 ≤ x ∧ x < gl G y then ev 268 514 [a0, a1, a2, a3] (vI (μ y x) :: st) μ G else none := ev_if pg_268_513 rfl
theorem pg_268_514 : mm_prog 268 514 = some (0, .aload_n 0, 515, []) := by decide +kernel
theorem xe_268_514 (a1 a2 a3 : Option MV) (x : Int) (st : List MV) (μ : MM) (G : MG) : ev 268 514 [some (vR x), a1, a2, a3] st μ G = ev 268 515 [some (vR x), a1, a2, a3] (vR x :: st) μ G := ev_stp pg_268_514 rfl
theorem pg_268_515 : mm_prog 268 515 = some (0, .iload_n 3, 516, []) := by decide +kernel
theorem xe_268_515 (a0 a1 a2 : Option MV) (x : Int) (st : List MV) (μ : MM) (G : MG) : ev 268 515 [a0, a1, a2, some (vI x)] st μ G = ev 268 516 [a0, a1, a2, some (vI x)] (vI x :: st) μ G := ev_stp pg_268_515 rfl
theorem pg_268_516 : mm_prog 268 516 = some (0, .iconst 3, 517, []) := by decide +kernel
theorem xe_268_516 (a0 a1 a2 a3 : Option MV) (st : List MV) (μ : MM) (G : MG) : ev 268 516 [a0, a1, a2, a3] st μ G = ev 268 517 [a0, a1, a2, a3] (vI (3) :: st) μ G := ev_stp pg_268_516 rfl
theorem pg_268_517 : mm_prog 268 517 = some (0, .iadd, 518, []) := by decide +kernel
theorem xe_268_517 (a0 a1 a2 a3 : Option MV) (x y : Int) (st : List MV) (μ : MM) (G : MG) : ev 268 517 [a0, a1, a2, a3] (vI y :: vI x :: st) μ G = ev 268 518 [a0, a1, a2, a3] (vI (w32 (x + y)) :: st) μ G := ev_stp pg_268_517 rfl
theorem pg_268_518 : mm_prog 268 518 = some (0, .iaload, 519, []) := by decide +kernel
theorem xe_268_518 (a0 a1 a2 a3 : Option MV) (x y : Int) (st : List MV) (μ : MM) (G : MG) : ev 268 518 [a0, a1, a2, a3] (vI x :: vR y :: st) μ G = if gk G y = 100 ∧ 0 ≤ x ∧ x < gl G y then ev 268 519 [a0, a1, a2, a3] (vI (μ y x) :: st) μ G else none := ev_if pg_268_518 rfl
theorem pg_268_519 : mm_prog 268 519 = some (1, .invokevirtual 60, 522, [1, 192, 3, 11]) := by decide +kernel
theorem xe_268_519 (a0 a1 a2 a3 : Option MV) (x0 x1 x2 z r0 : Int) (μ : MM) (G : MG) : ev 268 519 [a0, a1, a2, a3] (vI x2 :: vI x1 :: vI x0 :: vR z :: [vI r0]) μ G = if gk G z = 11 ∧ 0 < z then (ev 192 0 [some (vR z), some (vI x0), some (vI x1), some (vI x2), none] [] μ G).bind (fun q => ev 268 522 [a0, a1, a2, a3] (q.1.toList ++ [vI r0]) q.2.1 q.2.2) else none := ev_calV (as := [vR z, vI x0, vI x1, vI x2]) (r := [vI r0]) mx_192 pg_268_519 rfl rfl (Nat.le_of_ble_eq_true rfl) (Nat.le_of_ble_eq_true rfl)
theorem pg_268_522 : mm_prog 268 522 = some (0, .if_icmp .eq 756, 525, []) := by decide +kernel
theorem xe_268_522 (a0 a1 a2 a3 : Option MV) (x y : Int) (st : List MV) (μ : MM) (G : MG) : ev 268 522 [a0, a1, a2, a3] (vI y :: vI x :: st) μ G = if x = y then ev 268 1278 [a0, a1, a2, a3] st μ G else ev 268 525 [a0, a1, a2, a3] st μ G := ev_br (mm_cnd_eq x y) pg_268_522 rfl
theorem pg_268_525 : mm_prog 268 525 = some (0, .iconst 0, 526, []) := by decide +kernel
theorem xe_268_525 (a0 a1 a2 a3 : Option MV) (st : List MV) (μ : MM) (G : MG) : ev 268 525 [a0, a1, a2, a3] st μ G = ev 268 526 [a0, a1, a2, a3] (vI (0) :: st) μ G := ev_stp pg_268_525 rfl
theorem pg_268_526 : mm_prog 268 526 = some (2, .ireturn, 527, [1]) := by decide +kernel
theorem xe_268_526 (a0 a1 a2 a3 : Option MV) (x : Int) (μ : MM) (G : MG) : ev 268 526 [a0, a1, a2, a3] [vI x] μ G = if x = 0 ∨ x = 1 then some (some (vI x), μ, G) else none := ev_retB pg_268_526
theorem pg_268_527 : mm_prog 268 527 = some (0, .aload_n 1, 528, []) := by decide +kernel
theorem xe_268_527 (a0 a2 a3 : Option MV) (x : Int) (st : List MV) (μ : MM) (G : MG) : ev 268 527 [a0, some (vR x), a2, a3] st μ G = ev 268 528 [a0, some (vR x), a2, a3] (vR x :: st) μ G := ev_stp pg_268_527 rfl
theorem pg_268_528 : mm_prog 268 528 = some (0, .aload_n 0, 529, []) := by decide +kernel
theorem xe_268_528 (a1 a2 a3 : Option MV) (x : Int) (st : List MV) (μ : MM) (G : MG) : ev 268 528 [some (vR x), a1, a2, a3] st μ G = ev 268 529 [some (vR x), a1, a2, a3] (vR x :: st) μ G := ev_stp pg_268_528 rfl
theorem pg_268_529 : mm_prog 268 529 = some (0, .iload_n 3, 530, []) := by decide +kernel
theorem xe_268_529 (a0 a1 a2 : Option MV) (x : Int) (st : List MV) (μ : MM) (G : MG) : ev 268 529 [a0, a1, a2, some (vI x)] st μ G = ev 268 530 [a0, a1, a2, some (vI x)] (vI x :: st) μ G := ev_stp pg_268_529 rfl
theorem pg_268_530 : mm_prog 268 530 = some (0, .iconst 1, 531, []) := by decide +kernel
theorem xe_268_530 (a0 a1 a2 a3 : Option MV) (st : List MV) (μ : MM) (G : MG) : ev 268 530 [a0, a1, a2, a3] st μ G = ev 268 531 [a0, a1, a2, a3] (vI (1) :: st) μ G := ev_stp pg_268_530 rfl
theorem pg_268_531 : mm_prog 268 531 = some (0, .iadd, 532, []) := by decide +kernel
theorem xe_268_531 (a0 a1 a2 a3 : Option MV) (x y : Int) (st : List MV) (μ : MM) (G : MG) : ev 268 531 [a0, a1, a2, a3] (vI y :: vI x :: st) μ G = ev 268 532 [a0, a1, a2, a3] (vI (w32 (x + y)) :: st) μ G := ev_stp pg_268_531 rfl
theorem pg_268_532 : mm_prog 268 532 = some (0, .iaload, 533, []) := by decide +kernel
theorem xe_268_532 (a0 a1 a2 a3 : Option MV) (x y : Int) (st : List MV) (μ : MM) (G : MG) : ev 268 532 [a0, a1, a2, a3] (vI x :: vR y :: st) μ G = if gk G y = 100 ∧ 0 ≤ x ∧ x < gl G y then ev 268 533 [a0, a1, a2, a3] (vI (μ y x) :: st) μ G else none := ev_if pg_268_532 rfl
theorem pg_268_533 : mm_prog 268 533 = some (0, .aload_n 0, 534, []) := by decide +kernel
theorem xe_268_533 (a1 a2 a3 : Option MV) (x : Int) (st : List MV) (μ : MM) (G : MG) : ev 268 533 [some (vR x), a1, a2, a3] st μ G = ev 268 534 [some (vR x), a1, a2, a3] (vR x :: st) μ G := ev_stp pg_268_533 rfl
theorem pg_268_534 : mm_prog 268 534 = some (0, .iload_n 3, 535, []) := by decide +kernel
theorem xe_268_534 (a0 a1 a2 : Option MV) (x : Int) (st : List MV) (μ : MM) (G : MG) : ev 268 534 [a0, a1, a2, some (vI x)] st μ G = ev 268 535 [a0, a1, a2, some (vI x)] (vI x :: st) μ G := ev_stp pg_268_534 rfl
theorem pg_268_535 : mm_prog 268 535 = some (0, .iconst 2, 536, []) := by decide +kernel
theorem xe_268_535 (a0 a1 a2 a3 : Option MV) (st : List MV) (μ : MM) (G : MG) : ev 268 535 [a0, a1, a2, a3] st μ G = ev 268 536 [a0, a1, a2, a3] (vI (2) :: st) μ G := ev_stp pg_268_535 rfl
theorem pg_268_536 : mm_prog 268 536 = some (0, .iadd, 537, []) := by decide +kernel
theorem xe_268_536 (a0 a1 a2 a3 : Option MV) (x y : Int) (st : List MV) (μ : MM) (G : MG) : ev 268 536 [a0, a1, a2, a3] (vI y :: vI x :: st) μ G = ev 268 537 [a0, a1, a2, a3] (vI (w32 (x + y)) :: st) μ G := ev_stp pg_268_536 rfl
theorem pg_268_537 : mm_prog 268 537 = some (0, .iaload, 538, []) := by decide +kernel
theorem xe_268_537 (a0 a1 a2 a3 : Option MV) (x y : Int) (st : List MV) (μ : MM) (G : MG) : ev 268 537 [a0, a1, a2, a3] (vI x :: vR y :: st) μ G = if gk G y = 100 ∧ 0 ≤ x ∧ x < gl G y then ev 268 538 [a0, a1, a2, a3] (vI (μ y x) :: st) μ G else none := ev_if pg_268_537 rfl
theorem pg_268_538 : mm_prog 268 538 = some (0, .aload_n 0, 539, []) := by decide +kernel
theorem xe_268_538 (a1 a2 a3 : Option MV) (x : Int) (st : List MV) (μ : MM) (G : MG) : ev 268 538 [some (vR x), a1, a2, a3] st μ G = ev 268 539 [some (vR x), a1, a2, a3] (vR x :: st) μ G := ev_stp pg_268_538 rfl
theorem pg_268_539 : mm_prog 268 539 = some (0, .iload_n 3, 540, []) := by decide +kernel
theorem xe_268_539 (a0 a1 a2 : Option MV) (x : Int) (st : List MV) (μ : MM) (G : MG) : ev 268 539 [a0, a1, a2, some (vI x)] st μ G = ev 268 540 [a0, a1, a2, some (vI x)] (vI x :: st) μ G := ev_stp pg_268_539 rfl
theorem pg_268_540 : mm_prog 268 540 = some (0, .iconst 3, 541, []) := by decide +kernel
theorem xe_268_540 (a0 a1 a2 a3 : Option MV) (st : List MV) (μ : MM) (G : MG) : ev 268 540 [a0, a1, a2, a3] st μ G = ev 268 541 [a0, a1, a2, a3] (vI (3) :: st) μ G := ev_stp pg_268_540 rfl
theorem pg_268_541 : mm_prog 268 541 = some (0, .iadd, 542, []) := by decide +kernel
theorem xe_268_541 (a0 a1 a2 a3 : Option MV) (x y : Int) (st : List MV) (μ : MM) (G : MG) : ev 268 541 [a0, a1, a2, a3] (vI y :: vI x :: st) μ G = ev 268 542 [a0, a1, a2, a3] (vI (w32 (x + y)) :: st) μ G := ev_stp pg_268_541 rfl
theorem pg_268_542 : mm_prog 268 542 = some (0, .iaload, 543, []) := by decide +kernel
theorem xe_268_542 (a0 a1 a2 a3 : Option MV) (x y : Int) (st : List MV) (μ : MM) (G : MG) : ev 268 542 [a0, a1, a2, a3] (vI x :: vR y :: st) μ G = if gk G y = 100 ∧ 0 ≤ x ∧ x < gl G y then ev 268 543 [a0, a1, a2, a3] (vI (μ y x) :: st) μ G else none := ev_if pg_268_542 rfl
theorem pg_268_543 : mm_prog 268 543 = some (0, .aload_n 0, 544, []) := by decide +kernel
theorem xe_268_543 (a1 a2 a3 : Option MV) (x : Int) (st : List MV) (μ : MM) (G : MG) : ev 268 543 [some (vR x), a1, a2, a3] st μ G = ev 268 544 [some (vR x), a1, a2, a3] (vR x :: st) μ G := ev_stp pg_268_543 rfl
theorem pg_268_544 : mm_prog 268 544 = some (0, .iload_n 3, 545, []) := by decide +kernel
theorem xe_268_544 (a0 a1 a2 : Option MV) (x : Int) (st : List MV) (μ : MM) (G : MG) : ev 268 544 [a0, a1, a2, some (vI x)] st μ G = ev 268 545 [a0, a1, a2, some (vI x)] (vI x :: st) μ G := ev_stp pg_268_544 rfl
theorem pg_268_545 : mm_prog 268 545 = some (0, .iconst 4, 546, []) := by decide +kernel
theorem xe_268_545 (a0 a1 a2 a3 : Option MV) (st : List MV) (μ : MM) (G : MG) : ev 268 545 [a0, a1, a2, a3] st μ G = ev 268 546 [a0, a1, a2, a3] (vI (4) :: st) μ G := ev_stp pg_268_545 rfl
theorem pg_268_546 : mm_prog 268 546 = some (0, .iadd, 547, []) := by decide +kernel
theorem xe_268_546 (a0 a1 a2 a3 : Option MV) (x y : Int) (st : List MV) (μ : MM) (G : MG) : ev 268 546 [a0, a1, a2, a3] (vI y :: vI x :: st) μ G = ev 268 547 [a0, a1, a2, a3] (vI (w32 (x + y)) :: st) μ G := ev_stp pg_268_546 rfl
theorem pg_268_547 : mm_prog 268 547 = some (0, .iaload, 548, []) := by decide +kernel
theorem xe_268_547 (a0 a1 a2 a3 : Option MV) (x y : Int) (st : List MV) (μ : MM) (G : MG) : ev 268 547 [a0, a1, a2, a3] (vI x :: vR y :: st) μ G = if gk G y = 100 ∧ 0 ≤ x ∧ x < gl G y then ev 268 548 [a0, a1, a2, a3] (vI (μ y x) :: st) μ G else none := ev_if pg_268_547 rfl
theorem pg_268_548 : mm_prog 268 548 = some (0, .aload_n 0, 549, []) := by decide +kernel
theorem xe_268_548 (a1 a2 a3 : Option MV) (x : Int) (st : List MV) (μ : MM) (G : MG) : ev 268 548 [some (vR x), a1, a2, a3] st μ G = ev 268 549 [some (vR x), a1, a2, a3] (vR x :: st) μ G := ev_stp pg_268_548 rfl
theorem pg_268_549 : mm_prog 268 549 = some (0, .iload_n 3, 550, []) := by decide +kernel
theorem xe_268_549 (a0 a1 a2 : Option MV) (x : Int) (st : List MV) (μ : MM) (G : MG) : ev 268 549 [a0, a1, a2, some (vI x)] st μ G = ev 268 550 [a0, a1, a2, some (vI x)] (vI x :: st) μ G := ev_stp pg_268_549 rfl
theorem pg_268_550 : mm_prog 268 550 = some (0, .iconst 5, 551, []) := by decide +kernel
theorem xe_268_550 (a0 a1 a2 a3 : Option MV) (st : List MV) (μ : MM) (G : MG) : ev 268 550 [a0, a1, a2, a3] st μ G = ev 268 551 [a0, a1, a2, a3] (vI (5) :: st) μ G := ev_stp pg_268_550 rfl
theorem pg_268_551 : mm_prog 268 551 = some (0, .iadd, 552, []) := by decide +kernel
theorem xe_268_551 (a0 a1 a2 a3 : Option MV) (x y : Int) (st : List MV) (μ : MM) (G : MG) : ev 268 551 [a0, a1, a2, a3] (vI y :: vI x :: st) μ G = ev 268 552 [a0, a1, a2, a3] (vI (w32 (x + y)) :: st) μ G := ev_stp pg_268_551 rfl
theorem pg_268_552 : mm_prog 268 552 = some (0, .iaload, 553, []) := by decide +kernel
theorem xe_268_552 (a0 a1 a2 a3 : Option MV) (x y : Int) (st : List MV) (μ : MM) (G : MG) : ev 268 552 [a0, a1, a2, a3] (vI x :: vR y :: st) μ G = if gk G y = 100 ∧ 0 ≤ x ∧ x < gl G y then ev 268 553 [a0, a1, a2, a3] (vI (μ y x) :: st) μ G else none := ev_if pg_268_552 rfl
theorem pg_268_553 : mm_prog 268 553 = some (1, .invokevirtual 61, 556, [1, 111, 5, 10]) := by decide +kernel
theorem xe_268_553 (a0 a1 a2 a3 : Option MV) (x0 x1 x2 x3 x4 z : Int) (μ : MM) (G : MG) : ev 268 553 [a0, a1, a2, a3] (vI x4 :: vI x3 :: vI x2 :: vI x1 :: vI x0 :: vR z :: []) μ G = if gk G z = 10 ∧ 0 < z then (ev 111 0 [some (vR z), some (vI x0), some (vI x1), some (vI x2), some (vI x3), some (vI x4)] [] μ G).bind (fun q => ev 268 556 [a0, a1, a2, a3] (q.1.toList ++ []) q.2.1 q.2.2) else none := ev_calV (as := [vR z, vI x0, vI x1, vI x2, vI x3, vI x4]) (r := []) mx_111 pg_268_553 rfl rfl (Nat.le_of_ble_eq_true rfl) (Nat.le_of_ble_eq_true rfl)
theorem pg_268_556 : mm_prog 268 556 = some (0, .aload_n 2, 557, []) := by decide +kernel
theorem xe_268_556 (a0 a1 a3 : Option MV) (x : Int) (st : List MV) (μ : MM) (G : MG) : ev 268 556 [a0, a1, some (vR x), a3] st μ G = ev 268 557 [a0, a1, some (vR x), a3] (vR x :: st) μ G := ev_stp pg_268_556 rfl
theorem pg_268_557 : mm_prog 268 557 = some (0, .aload_n 0, 558, []) := by decide +kernel
theorem xe_268_557 (a1 a2 a3 : Option MV) (x : Int) (st : List MV) (μ : MM) (G : MG) : ev 268 557 [some (vR x), a1, a2, a3] st μ G = ev 268 558 [some (vR x), a1, a2, a3] (vR x :: st) μ G := ev_stp pg_268_557 rfl
theorem pg_268_558 : mm_prog 268 558 = some (0, .iload_n 3, 559, []) := by decide +kernel
theorem xe_268_558 (a0 a1 a2 : Option MV) (x : Int) (st : List MV) (μ : MM) (G : MG) : ev 268 558 [a0, a1, a2, some (vI x)] st μ G = ev 268 559 [a0, a1, a2, some (vI x)] (vI x :: st) μ G := ev_stp pg_268_558 rfl
theorem pg_268_559 : mm_prog 268 559 = some (0, .iconst 1, 560, []) := by decide +kernel
theorem xe_268_559 (a0 a1 a2 a3 : Option MV) (st : List MV) (μ : MM) (G : MG) : ev 268 559 [a0, a1, a2, a3] st μ G = ev 268 560 [a0, a1, a2, a3] (vI (1) :: st) μ G := ev_stp pg_268_559 rfl
theorem pg_268_560 : mm_prog 268 560 = some (0, .iadd, 561, []) := by decide +kernel
theorem xe_268_560 (a0 a1 a2 a3 : Option MV) (x y : Int) (st : List MV) (μ : MM) (G : MG) : ev 268 560 [a0, a1, a2, a3] (vI y :: vI x :: st) μ G = ev 268 561 [a0, a1, a2, a3] (vI (w32 (x + y)) :: st) μ G := ev_stp pg_268_560 rfl
theorem pg_268_561 : mm_prog 268 561 = some (0, .iaload, 562, []) := by decide +kernel
theorem xe_268_561 (a0 a1 a2 a3 : Option MV) (x y : Int) (st : List MV) (μ : MM) (G : MG) : ev 268 561 [a0, a1, a2, a3] (vI x :: vR y :: st) μ G = if gk G y = 100 ∧ 0 ≤ x ∧ x < gl G y then ev 268 562 [a0, a1, a2, a3] (vI (μ y x) :: st) μ G else none := ev_if pg_268_561 rfl
theorem pg_268_562 : mm_prog 268 562 = some (0, .aload_n 0, 563, []) := by decide +kernel
theorem xe_268_562 (a1 a2 a3 : Option MV) (x : Int) (st : List MV) (μ : MM) (G : MG) : ev 268 562 [some (vR x), a1, a2, a3] st μ G = ev 268 563 [some (vR x), a1, a2, a3] (vR x :: st) μ G := ev_stp pg_268_562 rfl
theorem pg_268_563 : mm_prog 268 563 = some (0, .iload_n 3, 564, []) := by decide +kernel
theorem xe_268_563 (a0 a1 a2 : Option MV) (x : Int) (st : List MV) (μ : MM) (G : MG) : ev 268 563 [a0, a1, a2, some (vI x)] st μ G = ev 268 564 [a0, a1, a2, some (vI x)] (vI x :: st) μ G := ev_stp pg_268_563 rfl
theorem pg_268_564 : mm_prog 268 564 = some (0, .iconst 2, 565, []) := by decide +kernel
theorem xe_268_564 (a0 a1 a2 a3 : Option MV) (st : List MV) (μ : MM) (G : MG) : ev 268 564 [a0, a1, a2, a3] st μ G = ev 268 565 [a0, a1, a2, a3] (vI (2) :: st) μ G := ev_stp pg_268_564 rfl
theorem pg_268_565 : mm_prog 268 565 = some (0, .iadd, 566, []) := by decide +kernel
theorem xe_268_565 (a0 a1 a2 a3 : Option MV) (x y : Int) (st : List MV) (μ : MM) (G : MG) : ev 268 565 [a0, a1, a2, a3] (vI y :: vI x :: st) μ G = ev 268 566 [a0, a1, a2, a3] (vI (w32 (x + y)) :: st) μ G := ev_stp pg_268_565 rfl
theorem pg_268_566 : mm_prog 268 566 = some (0, .iaload, 567, []) := by decide +kernel
theorem xe_268_566 (a0 a1 a2 a3 : Option MV) (x y : Int) (st : List MV) (μ : MM) (G : MG) : ev 268 566 [a0, a1, a2, a3] (vI x :: vR y :: st) μ G = if gk G y = 100 ∧ 0 ≤ x ∧ x < gl G y then ev 268 567 [a0, a1, a2, a3] (vI (μ y x) :: st) μ G else none := ev_if pg_268_566 rfl
theorem pg_268_567 : mm_prog 268 567 = some (0, .aload_n 0, 568, []) := by decide +kernel
theorem xe_268_567 (a1 a2 a3 : Option MV) (x : Int) (st : List MV) (μ : MM) (G : MG) : ev 268 567 [some (vR x), a1, a2, a3] st μ G = ev 268 568 [some (vR x), a1, a2, a3] (vR x :: st) μ G := ev_stp pg_268_567 rfl
theorem pg_268_568 : mm_prog 268 568 = some (0, .iload_n 3, 569, []) := by decide +kernel
theorem xe_268_568 (a0 a1 a2 : Option MV) (x : Int) (st : List MV) (μ : MM) (G : MG) : ev 268 568 [a0, a1, a2, some (vI x)] st μ G = ev 268 569 [a0, a1, a2, some (vI x)] (vI x :: st) μ G := ev_stp pg_268_568 rfl
theorem pg_268_569 : mm_prog 268 569 = some (0, .iconst 3, 570, []) := by decide +kernel
theorem xe_268_569 (a0 a1 a2 a3 : Option MV) (st : List MV) (μ : MM) (G : MG) : ev 268 569 [a0, a1, a2, a3] st μ G = ev 268 570 [a0, a1, a2, a3] (vI (3) :: st) μ G := ev_stp pg_268_569 rfl
theorem pg_268_570 : mm_prog 268 570 = some (0, .iadd, 571, []) := by decide +kernel
theorem xe_268_570 (a0 a1 a2 a3 : Option MV) (x y : Int) (st : List MV) (μ : MM) (G : MG) : ev 268 570 [a0, a1, a2, a3] (vI y :: vI x :: st) μ G = ev 268 571 [a0, a1, a2, a3] (vI (w32 (x + y)) :: st) μ G := ev_stp pg_268_570 rfl
theorem pg_268_571 : mm_prog 268 571 = some (0, .iaload, 572, []) := by decide +kernel
theorem xe_268_571 (a0 a1 a2 a3 : Option MV) (x y : Int) (st : List MV) (μ : MM) (G : MG) : ev 268 571 [a0, a1, a2, a3] (vI x :: vR y :: st) μ G = if gk G y = 100 ∧ 0 ≤ x ∧ x < gl G y then ev 268 572 [a0, a1, a2, a3] (vI (μ y x) :: st) μ G else none := ev_if pg_268_571 rfl
theorem pg_268_572 : mm_prog 268 572 = some (0, .aload_n 0, 573, []) := by decide +kernel
theorem xe_268_572 (a1 a2 a3 : Option MV) (x : Int) (st : List MV) (μ : MM) (G : MG) : ev 268 572 [some (vR x), a1, a2, a3] st μ G = ev 268 573 [some (vR x), a1, a2, a3] (vR x :: st) μ G := ev_stp pg_268_572 rfl
theorem pg_268_573 : mm_prog 268 573 = some (0, .iload_n 3, 574, []) := by decide +kernel
theorem xe_268_573 (a0 a1 a2 : Option MV) (x : Int) (st : List MV) (μ : MM) (G : MG) : ev 268 573 [a0, a1, a2, some (vI x)] st μ G = ev 268 574 [a0, a1, a2, some (vI x)] (vI x :: st) μ G := ev_stp pg_268_573 rfl
theorem pg_268_574 : mm_prog 268 574 = some (0, .iconst 4, 575, []) := by decide +kernel
theorem xe_268_574 (a0 a1 a2 a3 : Option MV) (st : List MV) (μ : MM) (G : MG) : ev 268 574 [a0, a1, a2, a3] st μ G = ev 268 575 [a0, a1, a2, a3] (vI (4) :: st) μ G := ev_stp pg_268_574 rfl
theorem pg_268_575 : mm_prog 268 575 = some (0, .iadd, 576, []) := by decide +kernel
theorem xe_268_575 (a0 a1 a2 a3 : Option MV) (x y : Int) (st : List MV) (μ : MM) (G : MG) : ev 268 575 [a0, a1, a2, a3] (vI y :: vI x :: st) μ G = ev 268 576 [a0, a1, a2, a3] (vI (w32 (x + y)) :: st) μ G := ev_stp pg_268_575 rfl
theorem pg_268_576 : mm_prog 268 576 = some (0, .iaload, 577, []) := by decide +kernel
theorem xe_268_576 (a0 a1 a2 a3 : Option MV) (x y : Int) (st : List MV) (μ : MM) (G : MG) : ev 268 576 [a0, a1, a2, a3] (vI x :: vR y :: st) μ G = if gk G y = 100 ∧ 0 ≤ x ∧ x < gl G y then ev 268 577 [a0, a1, a2, a3] (vI (μ y x) :: st) μ G else none := ev_if pg_268_576 rfl
theorem pg_268_577 : mm_prog 268 577 = some (0, .aload_n 0, 578, []) := by decide +kernel
theorem xe_268_577 (a1 a2 a3 : Option MV) (x : Int) (st : List MV) (μ : MM) (G : MG) : ev 268 577 [some (vR x), a1, a2, a3] st μ G = ev 268 578 [some (vR x), a1, a2, a3] (vR x :: st) μ G := ev_stp pg_268_577 rfl
theorem pg_268_578 : mm_prog 268 578 = some (0, .iload_n 3, 579, []) := by decide +kernel
theorem xe_268_578 (a0 a1 a2 : Option MV) (x : Int) (st : List MV) (μ : MM) (G : MG) : ev 268 578 [a0, a1, a2, some (vI x)] st μ G = ev 268 579 [a0, a1, a2, some (vI x)] (vI x :: st) μ G := ev_stp pg_268_578 rfl
theorem pg_268_579 : mm_prog 268 579 = some (0, .iconst 5, 580, []) := by decide +kernel
theorem xe_268_579 (a0 a1 a2 a3 : Option MV) (st : List MV) (μ : MM) (G : MG) : ev 268 579 [a0, a1, a2, a3] st μ G = ev 268 580 [a0, a1, a2, a3] (vI (5) :: st) μ G := ev_stp pg_268_579 rfl
theorem pg_268_580 : mm_prog 268 580 = some (0, .iadd, 581, []) := by decide +kernel
theorem xe_268_580 (a0 a1 a2 a3 : Option MV) (x y : Int) (st : List MV) (μ : MM) (G : MG) : ev 268 580 [a0, a1, a2, a3] (vI y :: vI x :: st) μ G = ev 268 581 [a0, a1, a2, a3] (vI (w32 (x + y)) :: st) μ G := ev_stp pg_268_580 rfl
theorem pg_268_581 : mm_prog 268 581 = some (0, .iaload, 582, []) := by decide +kernel
theorem xe_268_581 (a0 a1 a2 a3 : Option MV) (x y : Int) (st : List MV) (μ : MM) (G : MG) : ev 268 581 [a0, a1, a2, a3] (vI x :: vR y :: st) μ G = if gk G y = 100 ∧ 0 ≤ x ∧ x < gl G y then ev 268 582 [a0, a1, a2, a3] (vI (μ y x) :: st) μ G else none := ev_if pg_268_581 rfl
theorem pg_268_582 : mm_prog 268 582 = some (1, .invokevirtual 64, 585, [1, 196, 5, 11]) := by decide +kernel
theorem xe_268_582 (a0 a1 a2 a3 : Option MV) (x0 x1 x2 x3 x4 z r0 : Int) (μ : MM) (G : MG) : ev 268 582 [a0, a1, a2, a3] (vI x4 :: vI x3 :: vI x2 :: vI x1 :: vI x0 :: vR z :: [vI r0]) μ G = if gk G z = 11 ∧ 0 < z then (ev 196 0 [some (vR z), some (vI x0), some (vI x1), some (vI x2), some (vI x3), some (vI x4)] [] μ G).bind (fun q => ev 268 585 [a0, a1, a2, a3] (q.1.toList ++ [vI r0]) q.2.1 q.2.2) else none := ev_calV (as := [vR z, vI x0, vI x1, vI x2, vI x3, vI x4]) (r := [vI r0]) mx_196 pg_268_582 rfl rfl (Nat.le_of_ble_eq_true rfl) (Nat.le_of_ble_eq_true rfl)
theorem pg_268_585 : mm_prog 268 585 = some (0, .if_icmp .eq 693, 588, []) := by decide +kernel
theorem xe_268_585 (a0 a1 a2 a3 : Option MV) (x y : Int) (st : List MV) (μ : MM) (G : MG) : ev 268 585 [a0, a1, a2, a3] (vI y :: vI x :: st) μ G = if x = y then ev 268 1278 [a0, a1, a2, a3] st μ G else ev 268 588 [a0, a1, a2, a3] st μ G := ev_br (mm_cnd_eq x y) pg_268_585 rfl
theorem pg_268_588 : mm_prog 268 588 = some (0, .iconst 0, 589, []) := by decide +kernel
theorem xe_268_588 (a0 a1 a2 a3 : Option MV) (st : List MV) (μ : MM) (G : MG) : ev 268 588 [a0, a1, a2, a3] st μ G = ev 268 589 [a0, a1, a2, a3] (vI (0) :: st) μ G := ev_stp pg_268_588 rfl
theorem pg_268_589 : mm_prog 268 589 = some (2, .ireturn, 590, [1]) := by decide +kernel
theorem xe_268_589 (a0 a1 a2 a3 : Option MV) (x : Int) (μ : MM) (G : MG) : ev 268 589 [a0, a1, a2, a3] [vI x] μ G = if x = 0 ∨ x = 1 then some (some (vI x), μ, G) else none := ev_retB pg_268_589
theorem pg_268_590 : mm_prog 268 590 = some (0, .aload_n 1, 591, []) := by decide +kernel
theorem xe_268_590 (a0 a2 a3 : Option MV) (x : Int) (st : List MV) (μ : MM) (G : MG) : ev 268 590 [a0, some (vR x), a2, a3] st μ G = ev 268 591 [a0, some (vR x), a2, a3] (vR x :: st) μ G := ev_stp pg_268_590 rfl
theorem pg_268_591 : mm_prog 268 591 = some (0, .aload_n 0, 592, []) := by decide +kernel
theorem xe_268_591 (a1 a2 a3 : Option MV) (x : Int) (st : List MV) (μ : MM) (G : MG) : ev 268 591 [some (vR x), a1, a2, a3] st μ G = ev 268 592 [some (vR x), a1, a2, a3] (vR x :: st) μ G := ev_stp pg_268_591 rfl
theorem pg_268_592 : mm_prog 268 592 = some (0, .iload_n 3, 593, []) := by decide +kernel
theorem xe_268_592 (a0 a1 a2 : Option MV) (x : Int) (st : List MV) (μ : MM) (G : MG) : ev 268 592 [a0, a1, a2, some (vI x)] st μ G = ev 268 593 [a0, a1, a2, some (vI x)] (vI x :: st) μ G := ev_stp pg_268_592 rfl
theorem pg_268_593 : mm_prog 268 593 = some (0, .iconst 1, 594, []) := by decide +kernel
theorem xe_268_593 (a0 a1 a2 a3 : Option MV) (st : List MV) (μ : MM) (G : MG) : ev 268 593 [a0, a1, a2, a3] st μ G = ev 268 594 [a0, a1, a2, a3] (vI (1) :: st) μ G := ev_stp pg_268_593 rfl
theorem pg_268_594 : mm_prog 268 594 = some (0, .iadd, 595, []) := by decide +kernel
theorem xe_268_594 (a0 a1 a2 a3 : Option MV) (x y : Int) (st : List MV) (μ : MM) (G : MG) : ev 268 594 [a0, a1, a2, a3] (vI y :: vI x :: st) μ G = ev 268 595 [a0, a1, a2, a3] (vI (w32 (x + y)) :: st) μ G := ev_stp pg_268_594 rfl
theorem pg_268_595 : mm_prog 268 595 = some (0, .iaload, 596, []) := by decide +kernel
theorem xe_268_595 (a0 a1 a2 a3 : Option MV) (x y : Int) (st : List MV) (μ : MM) (G : MG) : ev 268 595 [a0, a1, a2, a3] (vI x :: vR y :: st) μ G = if gk G y = 100 ∧ 0 ≤ x ∧ x < gl G y then ev 268 596 [a0, a1, a2, a3] (vI (μ y x) :: st) μ G else none := ev_if pg_268_595 rfl
theorem pg_268_596 : mm_prog 268 596 = some (0, .aload_n 0, 597, []) := by decide +kernel
theorem xe_268_596 (a1 a2 a3 : Option MV) (x : Int) (st : List MV) (μ : MM) (G : MG) : ev 268 596 [some (vR x), a1, a2, a3] st μ G = ev 268 597 [some (vR x), a1, a2, a3] (vR x :: st) μ G := ev_stp pg_268_596 rfl
theorem pg_268_597 : mm_prog 268 597 = some (0, .iload_n 3, 598, []) := by decide +kernel
theorem xe_268_597 (a0 a1 a2 : Option MV) (x : Int) (st : List MV) (μ : MM) (G : MG) : ev 268 597 [a0, a1, a2, some (vI x)] st μ G = ev 268 598 [a0, a1, a2, some (vI x)] (vI x :: st) μ G := ev_stp pg_268_597 rfl
theorem pg_268_598 : mm_prog 268 598 = some (0, .iconst 2, 599, []) := by decide +kernel
theorem xe_268_598 (a0 a1 a2 a3 : Option MV) (st : List MV) (μ : MM) (G : MG) : ev 268 598 [a0, a1, a2, a3] st μ G = ev 268 599 [a0, a1, a2, a3] (vI (2) :: st) μ G := ev_stp pg_268_598 rfl
theorem pg_268_599 : mm_prog 268 599 = some (0, .iadd, 600, []) := by decide +kernel
theorem xe_268_599 (a0 a1 a2 a3 : Option MV) (x y : Int) (st : List MV) (μ : MM) (G : MG) : ev 268 599 [a0, a1, a2, a3] (vI y :: vI x :: st) μ G = ev 268 600 [a0, a1, a2, a3] (vI (w32 (x + y)) :: st) μ G := ev_stp pg_268_599 rfl
theorem pg_268_600 : mm_prog 268 600 = some (0, .iaload, 601, []) := by decide +kernel
theorem xe_268_600 (a0 a1 a2 a3 : Option MV) (x y : Int) (st : List MV) (μ : MM) (G : MG) : ev 268 600 [a0, a1, a2, a3] (vI x :: vR y :: st) μ G = if gk G y = 100 ∧ 0 ≤ x ∧ x < gl G y then ev 268 601 [a0, a1, a2, a3] (vI (μ y x) :: st) μ G else none := ev_if pg_268_600 rfl
theorem pg_268_601 : mm_prog 268 601 = some (0, .aload_n 0, 602, []) := by decide +kernel
theorem xe_268_601 (a1 a2 a3 : Option MV) (x : Int) (st : List MV) (μ : MM) (G : MG) : ev 268 601 [some (vR x), a1, a2, a3] st μ G = ev 268 602 [some (vR x), a1, a2, a3] (vR x :: st) μ G := ev_stp pg_268_601 rfl
theorem pg_268_602 : mm_prog 268 602 = some (0, .iload_n 3, 603, []) := by decide +kernel
theorem xe_268_602 (a0 a1 a2 : Option MV) (x : Int) (st : List MV) (μ : MM) (G : MG) : ev 268 602 [a0, a1, a2, some (vI x)] st μ G = ev 268 603 [a0, a1, a2, some (vI x)] (vI x :: st) μ G := ev_stp pg_268_602 rfl
theorem pg_268_603 : mm_prog 268 603 = some (0, .iconst 3, 604, []) := by decide +kernel
theorem xe_268_603 (a0 a1 a2 a3 : Option MV) (st : List MV) (μ : MM) (G : MG) : ev 268 603 [a0, a1, a2, a3] st μ G = ev 268 604 [a0, a1, a2, a3] (vI (3) :: st) μ G := ev_stp pg_268_603 rfl
theorem pg_268_604 : mm_prog 268 604 = some (0, .iadd, 605, []) := by decide +kernel
theorem xe_268_604 (a0 a1 a2 a3 : Option MV) (x y : Int) (st : List MV) (μ : MM) (G : MG) : ev 268 604 [a0, a1, a2, a3] (vI y :: vI x :: st) μ G = ev 268 605 [a0, a1, a2, a3] (vI (w32 (x + y)) :: st) μ G := ev_stp pg_268_604 rfl
theorem pg_268_605 : mm_prog 268 605 = some (0, .iaload, 606, []) := by decide +kernel
theorem xe_268_605 (a0 a1 a2 a3 : Option MV) (x y : Int) (st : List MV) (μ : MM) (G : MG) : ev 268 605 [a0, a1, a2, a3] (vI x :: vR y :: st) μ G = if gk G y = 100 ∧ 0 ≤ x ∧ x < gl G y then ev 268 606 [a0, a1, a2, a3] (vI (μ y x) :: st) μ G else none := ev_if pg_268_605 rfl
theorem pg_268_606 : mm_prog 268 606 = some (0, .aload_n 0, 607, []) := by decide +kernel
theorem xe_268_606 (a1 a2 a3 : Option MV) (x : Int) (st : List MV) (μ : MM) (G : MG) : ev 268 606 [some (vR x), a1, a2, a3] st μ G = ev 268 607 [some (vR x), a1, a2, a3] (vR x :: st) μ G := ev_stp pg_268_606 rfl
theorem pg_268_607 : mm_prog 268 607 = some (0, .iload_n 3, 608, []) := by decide +kernel
theorem xe_268_607 (a0 a1 a2 : Option MV) (x : Int) (st : List MV) (μ : MM) (G : MG) : ev 268 607 [a0, a1, a2, some (vI x)] st μ G = ev 268 608 [a0, a1, a2, some (vI x)] (vI x :: st) μ G := ev_stp pg_268_607 rfl
theorem pg_268_608 : mm_prog 268 608 = some (0, .iconst 4, 609, []) := by decide +kernel
theorem xe_268_608 (a0 a1 a2 a3 : Option MV) (st : List MV) (μ : MM) (G : MG) : ev 268 608 [a0, a1, a2, a3] st μ G = ev 268 609 [a0, a1, a2, a3] (vI (4) :: st) μ G := ev_stp pg_268_608 rfl
theorem pg_268_609 : mm_prog 268 609 = some (0, .iadd, 610, []) := by decide +kernel
theorem xe_268_609 (a0 a1 a2 a3 : Option MV) (x y : Int) (st : List MV) (μ : MM) (G : MG) : ev 268 609 [a0, a1, a2, a3] (vI y :: vI x :: st) μ G = ev 268 610 [a0, a1, a2, a3] (vI (w32 (x + y)) :: st) μ G := ev_stp pg_268_609 rfl
theorem pg_268_610 : mm_prog 268 610 = some (0, .iaload, 611, []) := by decide +kernel
theorem xe_268_610 (a0 a1 a2 a3 : Option MV) (x y : Int) (st : List MV) (μ : MM) (G : MG) : ev 268 610 [a0, a1, a2, a3] (vI x :: vR y :: st) μ G = if gk G y = 100 ∧ 0 ≤ x ∧ x < gl G y then ev 268 611 [a0, a1, a2, a3] (vI (μ y x) :: st) μ G else none := ev_if pg_268_610 rfl
theorem pg_268_611 : mm_prog 268 611 = some (0, .aload_n 0, 612, []) := by decide +kernel
theorem xe_268_611 (a1 a2 a3 : Option MV) (x : Int) (st : List MV) (μ : MM) (G : MG) : ev 268 611 [some (vR x), a1, a2, a3] st μ G = ev 268 612 [some (vR x), a1, a2, a3] (vR x :: st) μ G := ev_stp pg_268_611 rfl
theorem pg_268_612 : mm_prog 268 612 = some (0, .iload_n 3, 613, []) := by decide +kernel
theorem xe_268_612 (a0 a1 a2 : Option MV) (x : Int) (st : List MV) (μ : MM) (G : MG) : ev 268 612 [a0, a1, a2, some (vI x)] st μ G = ev 268 613 [a0, a1, a2, some (vI x)] (vI x :: st) μ G := ev_stp pg_268_612 rfl
theorem pg_268_613 : mm_prog 268 613 = some (0, .iconst 5, 614, []) := by decide +kernel
theorem xe_268_613 (a0 a1 a2 a3 : Option MV) (st : List MV) (μ : MM) (G : MG) : ev 268 613 [a0, a1, a2, a3] st μ G = ev 268 614 [a0, a1, a2, a3] (vI (5) :: st) μ G := ev_stp pg_268_613 rfl
theorem pg_268_614 : mm_prog 268 614 = some (0, .iadd, 615, []) := by decide +kernel
theorem xe_268_614 (a0 a1 a2 a3 : Option MV) (x y : Int) (st : List MV) (μ : MM) (G : MG) : ev 268 614 [a0, a1, a2, a3] (vI y :: vI x :: st) μ G = ev 268 615 [a0, a1, a2, a3] (vI (w32 (x + y)) :: st) μ G := ev_stp pg_268_614 rfl
theorem pg_268_615 : mm_prog 268 615 = some (0, .iaload, 616, []) := by decide +kernel
theorem xe_268_615 (a0 a1 a2 a3 : Option MV) (x y : Int) (st : List MV) (μ : MM) (G : MG) : ev 268 615 [a0, a1, a2, a3] (vI x :: vR y :: st) μ G = if gk G y = 100 ∧ 0 ≤ x ∧ x < gl G y then ev 268 616 [a0, a1, a2, a3] (vI (μ y x) :: st) μ G else none := ev_if pg_268_615 rfl
theorem pg_268_616 : mm_prog 268 616 = some (1, .invokevirtual 65, 619, [1, 112, 5, 10]) := by decide +kernel
theorem xe_268_616 (a0 a1 a2 a3 : Option MV) (x0 x1 x2 x3 x4 z : Int) (μ : MM) (G : MG) : ev 268 616 [a0, a1, a2, a3] (vI x4 :: vI x3 :: vI x2 :: vI x1 :: vI x0 :: vR z :: []) μ G = if gk G z = 10 ∧ 0 < z then (ev 112 0 [some (vR z), some (vI x0), some (vI x1), some (vI x2), some (vI x3), some (vI x4)] [] μ G).bind (fun q => ev 268 619 [a0, a1, a2, a3] (q.1.toList ++ []) q.2.1 q.2.2) else none := ev_calV (as := [vR z, vI x0, vI x1, vI x2, vI x3, vI x4]) (r := []) mx_112 pg_268_616 rfl rfl (Nat.le_of_ble_eq_true rfl) (Nat.le_of_ble_eq_true rfl)
theorem pg_268_619 : mm_prog 268 619 = some (0, .aload_n 2, 620, []) := by decide +kernel
theorem xe_268_619 (a0 a1 a3 : Option MV) (x : Int) (st : List MV) (μ : MM) (G : MG) : ev 268 619 [a0, a1, some (vR x), a3] st μ G = ev 268 620 [a0, a1, some (vR x), a3] (vR x :: st) μ G := ev_stp pg_268_619 rfl
theorem pg_268_620 : mm_prog 268 620 = some (0, .aload_n 0, 621, []) := by decide +kernel
theorem xe_268_620 (a1 a2 a3 : Option MV) (x : Int) (st : List MV) (μ : MM) (G : MG) : ev 268 620 [some (vR x), a1, a2, a3] st μ G = ev 268 621 [some (vR x), a1, a2, a3] (vR x :: st) μ G := ev_stp pg_268_620 rfl
theorem pg_268_621 : mm_prog 268 621 = some (0, .iload_n 3, 622, []) := by decide +kernel
theorem xe_268_621 (a0 a1 a2 : Option MV) (x : Int) (st : List MV) (μ : MM) (G : MG) : ev 268 621 [a0, a1, a2, some (vI x)] st μ G = ev 268 622 [a0, a1, a2, some (vI x)] (vI x :: st) μ G := ev_stp pg_268_621 rfl
theorem pg_268_622 : mm_prog 268 622 = some (0, .iconst 1, 623, []) := by decide +kernel
theorem xe_268_622 (a0 a1 a2 a3 : Option MV) (st : List MV) (μ : MM) (G : MG) : ev 268 622 [a0, a1, a2, a3] st μ G = ev 268 623 [a0, a1, a2, a3] (vI (1) :: st) μ G := ev_stp pg_268_622 rfl
theorem pg_268_623 : mm_prog 268 623 = some (0, .iadd, 624, []) := by decide +kernel
theorem xe_268_623 (a0 a1 a2 a3 : Option MV) (x y : Int) (st : List MV) (μ : MM) (G : MG) : ev 268 623 [a0, a1, a2, a3] (vI y :: vI x :: st) μ G = ev 268 624 [a0, a1, a2, a3] (vI (w32 (x + y)) :: st) μ G := ev_stp pg_268_623 rfl
theorem pg_268_624 : mm_prog 268 624 = some (0, .iaload, 625, []) := by decide +kernel
theorem xe_268_624 (a0 a1 a2 a3 : Option MV) (x y : Int) (st : List MV) (μ : MM) (G : MG) : ev 268 624 [a0, a1, a2, a3] (vI x :: vR y :: st) μ G = if gk G y = 100 ∧ 0 ≤ x ∧ x < gl G y then ev 268 625 [a0, a1, a2, a3] (vI (μ y x) :: st) μ G else none := ev_if pg_268_624 rfl
theorem pg_268_625 : mm_prog 268 625 = some (0, .aload_n 0, 626, []) := by decide +kernel
theorem xe_268_625 (a1 a2 a3 : Option MV) (x : Int) (st : List MV) (μ : MM) (G : MG) : ev 268 625 [some (vR x), a1, a2, a3] st μ G = ev 268 626 [some (vR x), a1, a2, a3] (vR x :: st) μ G := ev_stp pg_268_625 rfl
theorem pg_268_626 : mm_prog 268 626 = some (0, .iload_n 3, 627, []) := by decide +kernel
theorem xe_268_626 (a0 a1 a2 : Option MV) (x : Int) (st : List MV) (μ : MM) (G : MG) : ev 268 626 [a0, a1, a2, some (vI x)] st μ G = ev 268 627 [a0, a1, a2, some (vI x)] (vI x :: st) μ G := ev_stp pg_268_626 rfl
theorem pg_268_627 : mm_prog 268 627 = some (0, .iconst 2, 628, []) := by decide +kernel
theorem xe_268_627 (a0 a1 a2 a3 : Option MV) (st : List MV) (μ : MM) (G : MG) : ev 268 627 [a0, a1, a2, a3] st μ G = ev 268 628 [a0, a1, a2, a3] (vI (2) :: st) μ G := ev_stp pg_268_627 rfl
theorem pg_268_628 : mm_prog 268 628 = some (0, .iadd, 629, []) := by decide +kernel
theorem xe_268_628 (a0 a1 a2 a3 : Option MV) (x y : Int) (st : List MV) (μ : MM) (G : MG) : ev 268 628 [a0, a1, a2, a3] (vI y :: vI x :: st) μ G = ev 268 629 [a0, a1, a2, a3] (vI (w32 (x + y)) :: st) μ G := ev_stp pg_268_628 rfl
theorem pg_268_629 : mm_prog 268 629 = some (0, .iaload, 630, []) := by decide +kernel
theorem xe_268_629 (a0 a1 a2 a3 : Option MV) (x y : Int) (st : List MV) (μ : MM) (G : MG) : ev 268 629 [a0, a1, a2, a3] (vI x :: vR y :: st) μ G = if gk G y = 100 ∧ 0 ≤ x ∧ x < gl G y then ev 268 630 [a0, a1, a2, a3] (vI (μ y x) :: st) μ G else none := ev_if pg_268_629 rfl
theorem pg_268_630 : mm_prog 268 630 = some (0, .aload_n 0, 631, []) := by decide +kernel
theorem xe_268_630 (a1 a2 a3 : Option MV) (x : Int) (st : List MV) (μ : MM) (G : MG) : ev 268 630 [some (vR x), a1, a2, a3] st μ G = ev 268 631 [some (vR x), a1, a2, a3] (vR x :: st) μ G := ev_stp pg_268_630 rfl
theorem pg_268_631 : mm_prog 268 631 = some (0, .iload_n 3, 632, []) := by decide +kernel
theorem xe_268_631 (a0 a1 a2 : Option MV) (x : Int) (st : List MV) (μ : MM) (G : MG) : ev 268 631 [a0, a1, a2, some (vI x)] st μ G = ev 268 632 [a0, a1, a2, some (vI x)] (vI x :: st) μ G := ev_stp pg_268_631 rfl
theorem pg_268_632 : mm_prog 268 632 = some (0, .iconst 3, 633, []) := by decide +kernel
theorem xe_268_632 (a0 a1 a2 a3 : Option MV) (st : List MV) (μ : MM) (G : MG) : ev 268 632 [a0, a1, a2, a3] st μ G = ev 268 633 [a0, a1, a2, a3] (vI (3) :: st) μ G := ev_stp pg_268_632 rfl
theorem pg_268_633 : mm_prog 268 633 = some (0, .iadd, 634, []) := by decide +kernel
theorem xe_268_633 (a0 a1 a2 a3 : Option MV) (x y : Int) (st : List MV) (μ : MM) (G : MG) : ev 268 633 [a0, a1, a2, a3] (vI y :: vI x :: st) μ G = ev 268 634 [a0, a1, a2, a3] (vI (w32 (x + y)) :: st) μ G := ev_stp pg_268_633 rfl
theorem pg_268_634 : mm_prog 268 634 = some (0, .iaload, 635, []) := by decide +kernel
theorem xe_268_634 (a0 a1 a2 a3 : Option MV) (x y : Int) (st : List MV) (μ : MM) (G : MG) : ev 268 634 [a0, a1, a2, a3] (vI x :: vR y :: st) μ G = if gk G y = 100 ∧ 0 ≤ x ∧ x < gl G y then ev 268 635 [a0, a1, a2, a3] (vI (μ y x) :: st) μ G else none := ev_if pg_268_634 rfl
theorem pg_268_635 : mm_prog 268 635 = some (0, .aload_n 0, 636, []) := by decide +kernel
theorem xe_268_635 (a1 a2 a3 : Option MV) (x : Int) (st : List MV) (μ : MM) (G : MG) : ev 268 635 [some (vR x), a1, a2, a3] st μ G = ev 268 636 [some (vR x), a1, a2, a3] (vR x :: st) μ G := ev_stp pg_268_635 rfl
theorem pg_268_636 : mm_prog 268 636 = some (0, .iload_n 3, 637, []) := by decide +kernel
theorem xe_268_636 (a0 a1 a2 : Option MV) (x : Int) (st : List MV) (μ : MM) (G : MG) : ev 268 636 [a0, a1, a2, some (vI x)] st μ G = ev 268 637 [a0, a1, a2, some (vI x)] (vI x :: st) μ G := ev_stp pg_268_636 rfl
theorem pg_268_637 : mm_prog 268 637 = some (0, .iconst 4, 638, []) := by decide +kernel
theorem xe_268_637 (a0 a1 a2 a3 : Option MV) (st : List MV) (μ : MM) (G : MG) : ev 268 637 [a0, a1, a2, a3] st μ G = ev 268 638 [a0, a1, a2, a3] (vI (4) :: st) μ G := ev_stp pg_268_637 rfl
theorem pg_268_638 : mm_prog 268 638 = some (0, .iadd, 639, []) := by decide +kernel
theorem xe_268_638 (a0 a1 a2 a3 : Option MV) (x y : Int) (st : List MV) (μ : MM) (G : MG) : ev 268 638 [a0, a1, a2, a3] (vI y :: vI x :: st) μ G = ev 268 639 [a0, a1, a2, a3] (vI (w32 (x + y)) :: st) μ G := ev_stp pg_268_638 rfl
theorem pg_268_639 : mm_prog 268 639 = some (0, .iaload, 640, []) := by decide +kernel
theorem xe_268_639 (a0 a1 a2 a3 : Option MV) (x y : Int) (st : List MV) (μ : MM) (G : MG) : ev 268 639 [a0, a1, a2, a3] (vI x :: vR y :: st) μ G = if gk G y = 100 ∧ 0 ≤ x ∧ x < gl G y then ev 268 640 [a0, a1, a2, a3] (vI (μ y x) :: st) μ G else none := ev_if pg_268_639 rfl
theorem pg_268_640 : mm_prog 268 640 = some (0, .aload_n 0, 641, []) := by decide +kernel
theorem xe_268_640 (a1 a2 a3 : Option MV) (x : Int) (st : List MV) (μ : MM) (G : MG) : ev 268 640 [some (vR x), a1, a2, a3] st μ G = ev 268 641 [some (vR x), a1, a2, a3] (vR x :: st) μ G := ev_stp pg_268_640 rfl
theorem pg_268_641 : mm_prog 268 641 = some (0, .iload_n 3, 642, []) := by decide +kernel
theorem xe_268_641 (a0 a1 a2 : Option MV) (x : Int) (st : List MV) (μ : MM) (G : MG) : ev 268 641 [a0, a1, a2, some (vI x)] st μ G = ev 268 642 [a0, a1, a2, some (vI x)] (vI x :: st) μ G := ev_stp pg_268_641 rfl
theorem pg_268_642 : mm_prog 268 642 = some (0, .iconst 5, 643, []) := by decide +kernel
theorem xe_268_642 (a0 a1 a2 a3 : Option MV) (st : List MV) (μ : MM) (G : MG) : ev 268 642 [a0, a1, a2, a3] st μ G = ev 268 643 [a0, a1, a2, a3] (vI (5) :: st) μ G := ev_stp pg_268_642 rfl
theorem pg_268_643 : mm_prog 268 643 = some (0, .iadd, 644, []) := by decide +kernel
theorem xe_268_643 (a0 a1 a2 a3 : Option MV) (x y : Int) (st : List MV) (μ : MM) (G : MG) : ev 268 643 [a0, a1, a2, a3] (vI y :: vI x :: st) μ G = ev 268 644 [a0, a1, a2, a3] (vI (w32 (x + y)) :: st) μ G := ev_stp pg_268_643 rfl
theorem pg_268_644 : mm_prog 268 644 = some (0, .iaload, 645, []) := by decide +kernel
theorem xe_268_644 (a0 a1 a2 a3 : Option MV) (x y : Int) (st : List MV) (μ : MM) (G : MG) : ev 268 644 [a0, a1, a2, a3] (vI x :: vR y :: st) μ G = if gk G y = 100 ∧ 0 ≤ x ∧ x < gl G y then ev 268 645 [a0, a1, a2, a3] (vI (μ y x) :: st) μ G else none := ev_if pg_268_644 rfl
theorem pg_268_645 : mm_prog 268 645 = some (1, .invokevirtual 68, 648, [1, 199, 5, 11]) := by decide +kernel
theorem xe_268_645 (a0 a1 a2 a3 : Option MV) (x0 x1 x2 x3 x4 z r0 : Int) (μ : MM) (G : MG) : ev 268 645 [a0, a1, a2, a3] (vI x4 :: vI x3 :: vI x2 :: vI x1 :: vI x0 :: vR z :: [vI r0]) μ G = if gk G z = 11 ∧ 0 < z then (ev 199 0 [some (vR z), some (vI x0), some (vI x1), some (vI x2), some (vI x3), some (vI x4)] [] μ G).bind (fun q => ev 268 648 [a0, a1, a2, a3] (q.1.toList ++ [vI r0]) q.2.1 q.2.2) else none := ev_calV (as := [vR z, vI x0, vI x1, vI x2, vI x3, vI x4]) (r := [vI r0]) mx_199 pg_268_645 rfl rfl (Nat.le_of_ble_eq_true rfl) (Nat.le_of_ble_eq_true rfl)
theorem pg_268_648 : mm_prog 268 648 = some (0, .if_icmp .eq 630, 651, []) := by decide +kernel
theorem xe_268_648 (a0 a1 a2 a3 : Option MV) (x y : Int) (st : List MV) (μ : MM) (G : MG) : ev 268 648 [a0, a1, a2, a3] (vI y :: vI x :: st) μ G = if x = y then ev 268 1278 [a0, a1, a2, a3] st μ G else ev 268 651 [a0, a1, a2, a3] st μ G := ev_br (mm_cnd_eq x y) pg_268_648 rfl
theorem pg_268_651 : mm_prog 268 651 = some (0, .iconst 0, 652, []) := by decide +kernel
theorem xe_268_651 (a0 a1 a2 a3 : Option MV) (st : List MV) (μ : MM) (G : MG) : ev 268 651 [a0, a1, a2, a3] st μ G = ev 268 652 [a0, a1, a2, a3] (vI (0) :: st) μ G := ev_stp pg_268_651 rfl
theorem pg_268_652 : mm_prog 268 652 = some (2, .ireturn, 653, [1]) := by decide +kernel
theorem xe_268_652 (a0 a1 a2 a3 : Option MV) (x : Int) (μ : MM) (G : MG) : ev 268 652 [a0, a1, a2, a3] [vI x] μ G = if x = 0 ∨ x = 1 then some (some (vI x), μ, G) else none := ev_retB pg_268_652
theorem pg_268_653 : mm_prog 268 653 = some (0, .aload_n 1, 654, []) := by decide +kernel
theorem xe_268_653 (a0 a2 a3 : Option MV) (x : Int) (st : List MV) (μ : MM) (G : MG) : ev 268 653 [a0, some (vR x), a2, a3] st μ G = ev 268 654 [a0, some (vR x), a2, a3] (vR x :: st) μ G := ev_stp pg_268_653 rfl
theorem pg_268_654 : mm_prog 268 654 = some (0, .aload_n 0, 655, []) := by decide +kernel
theorem xe_268_654 (a1 a2 a3 : Option MV) (x : Int) (st : List MV) (μ : MM) (G : MG) : ev 268 654 [some (vR x), a1, a2, a3] st μ G = ev 268 655 [some (vR x), a1, a2, a3] (vR x :: st) μ G := ev_stp pg_268_654 rfl
theorem pg_268_655 : mm_prog 268 655 = some (0, .iload_n 3, 656, []) := by decide +kernel
theorem xe_268_655 (a0 a1 a2 : Option MV) (x : Int) (st : List MV) (μ : MM) (G : MG) : ev 268 655 [a0, a1, a2, some (vI x)] st μ G = ev 268 656 [a0, a1, a2, some (vI x)] (vI x :: st) μ G := ev_stp pg_268_655 rfl
theorem pg_268_656 : mm_prog 268 656 = some (0, .iconst 1, 657, []) := by decide +kernel
theorem xe_268_656 (a0 a1 a2 a3 : Option MV) (st : List MV) (μ : MM) (G : MG) : ev 268 656 [a0, a1, a2, a3] st μ G = ev 268 657 [a0, a1, a2, a3] (vI (1) :: st) μ G := ev_stp pg_268_656 rfl
theorem pg_268_657 : mm_prog 268 657 = some (0, .iadd, 658, []) := by decide +kernel
theorem xe_268_657 (a0 a1 a2 a3 : Option MV) (x y : Int) (st : List MV) (μ : MM) (G : MG) : ev 268 657 [a0, a1, a2, a3] (vI y :: vI x :: st) μ G = ev 268 658 [a0, a1, a2, a3] (vI (w32 (x + y)) :: st) μ G := ev_stp pg_268_657 rfl
theorem pg_268_658 : mm_prog 268 658 = some (0, .iaload, 659, []) := by decide +kernel
theorem xe_268_658 (a0 a1 a2 a3 : Option MV) (x y : Int) (st : List MV) (μ : MM) (G : MG) : ev 268 658 [a0, a1, a2, a3] (vI x :: vR y :: st) μ G = if gk G y = 100 ∧ 0 ≤ x ∧ x < gl G y then ev 268 659 [a0, a1, a2, a3] (vI (μ y x) :: st) μ G else none := ev_if pg_268_658 rfl
theorem pg_268_659 : mm_prog 268 659 = some (0, .aload_n 0, 660, []) := by decide +kernel
theorem xe_268_659 (a1 a2 a3 : Option MV) (x : Int) (st : List MV) (μ : MM) (G : MG) : ev 268 659 [some (vR x), a1, a2, a3] st μ G = ev 268 660 [some (vR x), a1, a2, a3] (vR x :: st) μ G := ev_stp pg_268_659 rfl
theorem pg_268_660 : mm_prog 268 660 = some (0, .iload_n 3, 661, []) := by decide +kernel
theorem xe_268_660 (a0 a1 a2 : Option MV) (x : Int) (st : List MV) (μ : MM) (G : MG) : ev 268 660 [a0, a1, a2, some (vI x)] st μ G = ev 268 661 [a0, a1, a2, some (vI x)] (vI x :: st) μ G := ev_stp pg_268_660 rfl
theorem pg_268_661 : mm_prog 268 661 = some (0, .iconst 2, 662, []) := by decide +kernel
theorem xe_268_661 (a0 a1 a2 a3 : Option MV) (st : List MV) (μ : MM) (G : MG) : ev 268 661 [a0, a1, a2, a3] st μ G = ev 268 662 [a0, a1, a2, a3] (vI (2) :: st) μ G := ev_stp pg_268_661 rfl
theorem pg_268_662 : mm_prog 268 662 = some (0, .iadd, 663, []) := by decide +kernel
theorem xe_268_662 (a0 a1 a2 a3 : Option MV) (x y : Int) (st : List MV) (μ : MM) (G : MG) : ev 268 662 [a0, a1, a2, a3] (vI y :: vI x :: st) μ G = ev 268 663 [a0, a1, a2, a3] (vI (w32 (x + y)) :: st) μ G := ev_stp pg_268_662 rfl
theorem pg_268_663 : mm_prog 268 663 = some (0, .iaload, 664, []) := by decide +kernel
theorem xe_268_663 (a0 a1 a2 a3 : Option MV) (x y : Int) (st : List MV) (μ : MM) (G : MG) : ev 268 663 [a0, a1, a2, a3] (vI x :: vR y :: st) μ G = if gk G y = 100 ∧ 0 ≤ x ∧ x < gl G y then ev 268 664 [a0, a1, a2, a3] (vI (μ y x) :: st) μ G else none := ev_if pg_268_663 rfl
theorem pg_268_664 : mm_prog 268 664 = some (0, .aload_n 0, 665, []) := by decide +kernel
theorem xe_268_664 (a1 a2 a3 : Option MV) (x : Int) (st : List MV) (μ : MM) (G : MG) : ev 268 664 [some (vR x), a1, a2, a3] st μ G = ev 268 665 [some (vR x), a1, a2, a3] (vR x :: st) μ G := ev_stp pg_268_664 rfl
theorem pg_268_665 : mm_prog 268 665 = some (0, .iload_n 3, 666, []) := by decide +kernel
theorem xe_268_665 (a0 a1 a2 : Option MV) (x : Int) (st : List MV) (μ : MM) (G : MG) : ev 268 665 [a0, a1, a2, some (vI x)] st μ G = ev 268 666 [a0, a1, a2, some (vI x)] (vI x :: st) μ G := ev_stp pg_268_665 rfl
theorem pg_268_666 : mm_prog 268 666 = some (0, .iconst 3, 667, []) := by decide +kernel
theorem xe_268_666 (a0 a1 a2 a3 : Option MV) (st : List MV) (μ : MM) (G : MG) : ev 268 666 [a0, a1, a2, a3] st μ G = ev 268 667 [a0, a1, a2, a3] (vI (3) :: st) μ G := ev_stp pg_268_666 rfl
theorem pg_268_667 : mm_prog 268 667 = some (0, .iadd, 668, []) := by decide +kernel
theorem xe_268_667 (a0 a1 a2 a3 : Option MV) (x y : Int) (st : List MV) (μ : MM) (G : MG) : ev 268 667 [a0, a1, a2, a3] (vI y :: vI x :: st) μ G = ev 268 668 [a0, a1, a2, a3] (vI (w32 (x + y)) :: st) μ G := ev_stp pg_268_667 rfl
theorem pg_268_668 : mm_prog 268 668 = some (0, .iaload, 669, []) := by decide +kernel
theorem xe_268_668 (a0 a1 a2 a3 : Option MV) (x y : Int) (st : List MV) (μ : MM) (G : MG) : ev 268 668 [a0, a1, a2, a3] (vI x :: vR y :: st) μ G = if gk G y = 100 ∧ 0 ≤ x ∧ x < gl G y then ev 268 669 [a0, a1, a2, a3] (vI (μ y x) :: st) μ G else none := ev_if pg_268_668 rfl
theorem pg_268_669 : mm_prog 268 669 = some (0, .aload_n 0, 670, []) := by decide +kernel
theorem xe_268_669 (a1 a2 a3 : Option MV) (x : Int) (st : List MV) (μ : MM) (G : MG) : ev 268 669 [some (vR x), a1, a2, a3] st μ G = ev 268 670 [some (vR x), a1, a2, a3] (vR x :: st) μ G := ev_stp pg_268_669 rfl
theorem pg_268_670 : mm_prog 268 670 = some (0, .iload_n 3, 671, []) := by decide +kernel
theorem xe_268_670 (a0 a1 a2 : Option MV) (x : Int) (st : List MV) (μ : MM) (G : MG) : ev 268 670 [a0, a1, a2, some (vI x)] st μ G = ev 268 671 [a0, a1, a2, some (vI x)] (vI x :: st) μ G := ev_stp pg_268_670 rfl
theorem pg_268_671 : mm_prog 268 671 = some (0, .iconst 4, 672, []) := by decide +kernel
theorem xe_268_671 (a0 a1 a2 a3 : Option MV) (st : List MV) (μ : MM) (G : MG) : ev 268 671 [a0, a1, a2, a3] st μ G = ev 268 672 [a0, a1, a2, a3] (vI (4) :: st) μ G := ev_stp pg_268_671 rfl
theorem pg_268_672 : mm_prog 268 672 = some (0, .iadd, 673, []) := by decide +kernel
theorem xe_268_672 (a0 a1 a2 a3 : Option MV) (x y : Int) (st : List MV) (μ : MM) (G : MG) : ev 268 672 [a0, a1, a2, a3] (vI y :: vI x :: st) μ G = ev 268 673 [a0, a1, a2, a3] (vI (w32 (x + y)) :: st) μ G := ev_stp pg_268_672 rfl
theorem pg_268_673 : mm_prog 268 673 = some (0, .iaload, 674, []) := by decide +kernel
theorem xe_268_673 (a0 a1 a2 a3 : Option MV) (x y : Int) (st : List MV) (μ : MM) (G : MG) : ev 268 673 [a0, a1, a2, a3] (vI x :: vR y :: st) μ G = if gk G y = 100 ∧ 0 ≤ x ∧ x < gl G y then ev 268 674 [a0, a1, a2, a3] (vI (μ y x) :: st) μ G else none := ev_if pg_268_673 rfl
theorem pg_268_674 : mm_prog 268 674 = some (0, .aload_n 0, 675, []) := by decide +kernel
theorem xe_268_674 (a1 a2 a3 : Option MV) (x : Int) (st : List MV) (μ : MM) (G : MG) : ev 268 674 [some (vR x), a1, a2, a3] st μ G = ev 268 675 [some (vR x), a1, a2, a3] (vR x :: st) μ G := ev_stp pg_268_674 rfl
theorem pg_268_675 : mm_prog 268 675 = some (0, .iload_n 3, 676, []) := by decide +kernel
theorem xe_268_675 (a0 a1 a2 : Option MV) (x : Int) (st : List MV) (μ : MM) (G : MG) : ev 268 675 [a0, a1, a2, some (vI x)] st μ G = ev 268 676 [a0, a1, a2, some (vI x)] (vI x :: st) μ G := ev_stp pg_268_675 rfl
theorem pg_268_676 : mm_prog 268 676 = some (0, .iconst 5, 677, []) := by decide +kernel
theorem xe_268_676 (a0 a1 a2 a3 : Option MV) (st : List MV) (μ : MM) (G : MG) : ev 268 676 [a0, a1, a2, a3] st μ G = ev 268 677 [a0, a1, a2, a3] (vI (5) :: st) μ G := ev_stp pg_268_676 rfl
theorem pg_268_677 : mm_prog 268 677 = some (0, .iadd, 678, []) := by decide +kernel
theorem xe_268_677 (a0 a1 a2 a3 : Option MV) (x y : Int) (st : List MV) (μ : MM) (G : MG) : ev 268 677 [a0, a1, a2, a3] (vI y :: vI x :: st) μ G = ev 268 678 [a0, a1, a2, a3] (vI (w32 (x + y)) :: st) μ G := ev_stp pg_268_677 rfl
theorem pg_268_678 : mm_prog 268 678 = some (0, .iaload, 679, []) := by decide +kernel
theorem xe_268_678 (a0 a1 a2 a3 : Option MV) (x y : Int) (st : List MV) (μ : MM) (G : MG) : ev 268 678 [a0, a1, a2, a3] (vI x :: vR y :: st) μ G = if gk G y = 100 ∧ 0 ≤ x ∧ x < gl G y then ev 268 679 [a0, a1, a2, a3] (vI (μ y x) :: st) μ G else none := ev_if pg_268_678 rfl
theorem pg_268_679 : mm_prog 268 679 = some (0, .aload_n 0, 680, []) := by decide +kernel
theorem xe_268_679 (a1 a2 a3 : Option MV) (x : Int) (st : List MV) (μ : MM) (G : MG) : ev 268 679 [some (vR x), a1, a2, a3] st μ G = ev 268 680 [some (vR x), a1, a2, a3] (vR x :: st) μ G := ev_stp pg_268_679 rfl
theorem pg_268_680 : mm_prog 268 680 = some (0, .iload_n 3, 681, []) := by decide +kernel
theorem xe_268_680 (a0 a1 a2 : Option MV) (x : Int) (st : List MV) (μ : MM) (G : MG) : ev 268 680 [a0, a1, a2, some (vI x)] st μ G = ev 268 681 [a0, a1, a2, some (vI x)] (vI x :: st) μ G := ev_stp pg_268_680 rfl
theorem pg_268_681 : mm_prog 268 681 = some (0, .bipush 6, 683, []) := by decide +kernel
theorem xe_268_681 (a0 a1 a2 a3 : Option MV) (st : List MV) (μ : MM) (G : MG) : ev 268 681 [a0, a1, a2, a3] st μ G = ev 268 683 [a0, a1, a2, a3] (vI (6) :: st) μ G := ev_stp pg_268_681 rfl
theorem pg_268_683 : mm_prog 268 683 = some (0, .iadd, 684, []) := by decide +kernel
theorem xe_268_683 (a0 a1 a2 a3 : Option MV) (x y : Int) (st : List MV) (μ : MM) (G : MG) : ev 268 683 [a0, a1, a2, a3] (vI y :: vI x :: st) μ G = ev 268 684 [a0, a1, a2, a3] (vI (w32 (x + y)) :: st) μ G := ev_stp pg_268_683 rfl
theorem pg_268_684 : mm_prog 268 684 = some (0, .iaload, 685, []) := by decide +kernel
theorem xe_268_684 (a0 a1 a2 a3 : Option MV) (x y : Int) (st : List MV) (μ : MM) (G : MG) : ev 268 684 [a0, a1, a2, a3] (vI x :: vR y :: st) μ G = if gk G y = 100 ∧ 0 ≤ x ∧ x < gl G y then ev 268 685 [a0, a1, a2, a3] (vI (μ y x) :: st) μ G else none := ev_if pg_268_684 rfl
theorem pg_268_685 : mm_prog 268 685 = some (1, .invokevirtual 69, 688, [1, 113, 6, 10]) := by decide +kernel
theorem xe_268_685 (a0 a1 a2 a3 : Option MV) (x0 x1 x2 x3 x4 x5 z : Int) (μ : MM) (G : MG) : ev 268 685 [a0, a1, a2, a3] (vI x5 :: vI x4 :: vI x3 :: vI x2 :: vI x1 :: vI x0 :: vR z :: []) μ G = if gk G z = 10 ∧ 0 < z then (ev 113 0 [some (vR z), some (vI x0), some (vI x1), some (vI x2), some (vI x3), some (vI x4), some (vI x5), none, none, none] [] μ G).bind (fun q => ev 268 688 [a0, a1, a2, a3] (q.1.toList ++ []) q.2.1 q.2.2) else none := ev_calV (as := [vR z, vI x0, vI x1, vI x2, vI x3, vI x4, vI x5]) (r := []) mx_113 pg_268_685 rfl rfl (Nat.le_of_ble_eq_true rfl) (Nat.le_of_ble_eq_true rfl)
theorem pg_268_688 : mm_prog 268 688 = some (0, .aload_n 2, 689, []) := by decide +kernel
theorem xe_268_688 (a0 a1 a3 : Option MV) (x : Int) (st : List MV) (μ : MM) (G : MG) : ev 268 688 [a0, a1, some (vR x), a3] st μ G = ev 268 689 [a0, a1, some (vR x), a3] (vR x :: st) μ G := ev_stp pg_268_688 rfl
theorem pg_268_689 : mm_prog 268 689 = some (0, .aload_n 0, 690, []) := by decide +kernel
theorem xe_268_689 (a1 a2 a3 : Option MV) (x : Int) (st : List MV) (μ : MM) (G : MG) : ev 268 689 [some (vR x), a1, a2, a3] st μ G = ev 268 690 [some (vR x), a1, a2, a3] (vR x :: st) μ G := ev_stp pg_268_689 rfl
theorem pg_268_690 : mm_prog 268 690 = some (0, .iload_n 3, 691, []) := by decide +kernel
theorem xe_268_690 (a0 a1 a2 : Option MV) (x : Int) (st : List MV) (μ : MM) (G : MG) : ev 268 690 [a0, a1, a2, some (vI x)] st μ G = ev 268 691 [a0, a1, a2, some (vI x)] (vI x :: st) μ G := ev_stp pg_268_690 rfl
theorem pg_268_691 : mm_prog 268 691 = some (0, .iconst 1, 692, []) := by decide +kernel
theorem xe_268_691 (a0 a1 a2 a3 : Option MV) (st : List MV) (μ : MM) (G : MG) : ev 268 691 [a0, a1, a2, a3] st μ G = ev 268 692 [a0, a1, a2, a3] (vI (1) :: st) μ G := ev_stp pg_268_691 rfl
theorem pg_268_692 : mm_prog 268 692 = some (0, .iadd, 693, []) := by decide +kernel
theorem xe_268_692 (a0 a1 a2 a3 : Option MV) (x y : Int) (st : List MV) (μ : MM) (G : MG) : ev 268 692 [a0, a1, a2, a3] (vI y :: vI x :: st) μ G = ev 268 693 [a0, a1, a2, a3] (vI (w32 (x + y)) :: st) μ G := ev_stp pg_268_692 rfl
theorem pg_268_693 : mm_prog 268 693 = some (0, .iaload, 694, []) := by decide +kernel
theorem xe_268_693 (a0 a1 a2 a3 : Option MV) (x y : Int) (st : List MV) (μ : MM) (G : MG) : ev 268 693 [a0, a1, a2, a3] (vI x :: vR y :: st) μ G = if gk G y = 100 ∧ 0 ≤ x ∧ x < gl G y then ev 268 694 [a0, a1, a2, a3] (vI (μ y x) :: st) μ G else none := ev_if pg_268_693 rfl
theorem pg_268_694 : mm_prog 268 694 = some (0, .aload_n 0, 695, []) := by decide +kernel
theorem xe_268_694 (a1 a2 a3 : Option MV) (x : Int) (st : List MV) (μ : MM) (G : MG) : ev 268 694 [some (vR x), a1, a2, a3] st μ G = ev 268 695 [some (vR x), a1, a2, a3] (vR x :: st) μ G := ev_stp pg_268_694 rfl
theorem pg_268_695 : mm_prog 268 695 = some (0, .iload_n 3, 696, []) := by decide +kernel
theorem xe_268_695 (a0 a1 a2 : Option MV) (x : Int) (st : List MV) (μ : MM) (G : MG) : ev 268 695 [a0, a1, a2, some (vI x)] st μ G = ev 268 696 [a0, a1, a2, some (vI x)] (vI x :: st) μ G := ev_stp pg_268_695 rfl
theorem pg_268_696 : mm_prog 268 696 = some (0, .iconst 2, 697, []) := by decide +kernel
theorem xe_268_696 (a0 a1 a2 a3 : Option MV) (st : List MV) (μ : MM) (G : MG) : ev 268 696 [a0, a1, a2, a3] st μ G = ev 268 697 [a0, a1, a2, a3] (vI (2) :: st) μ G := ev_stp pg_268_696 rfl
theorem pg_268_697 : mm_prog 268 697 = some (0, .iadd, 698, []) := by decide +kernel
theorem xe_268_697 (a0 a1 a2 a3 : Option MV) (x y : Int) (st : List MV) (μ : MM) (G : MG) : ev 268 697 [a0, a1, a2, a3] (vI y :: vI x :: st) μ G = ev 268 698 [a0, a1, a2, a3] (vI (w32 (x + y)) :: st) μ G := ev_stp pg_268_697 rfl
theorem pg_268_698 : mm_prog 268 698 = some (0, .iaload, 699, []) := by decide +kernel
theorem xe_268_698 (a0 a1 a2 a3 : Option MV) (x y : Int) (st : List MV) (μ : MM) (G : MG) : ev 268 698 [a0, a1, a2, a3] (vI x :: vR y :: st) μ G = if gk G y = 100 ∧ 0 ≤ x ∧ x < gl G y then ev 268 699 [a0, a1, a2, a3] (vI (μ y x) :: st) μ G else none := ev_if pg_268_698 rfl
theorem pg_268_699 : mm_prog 268 699 = some (0, .aload_n 0, 700, []) := by decide +kernel
theorem xe_268_699 (a1 a2 a3 : Option MV) (x : Int) (st : List MV) (μ : MM) (G : MG) : ev 268 699 [some (vR x), a1, a2, a3] st μ G = ev 268 700 [some (vR x), a1, a2, a3] (vR x :: st) μ G := ev_stp pg_268_699 rfl
theorem pg_268_700 : mm_prog 268 700 = some (0, .iload_n 3, 701, []) := by decide +kernel
theorem xe_268_700 (a0 a1 a2 : Option MV) (x : Int) (st : List MV) (μ : MM) (G : MG) : ev 268 700 [a0, a1, a2, some (vI x)] st μ G = ev 268 701 [a0, a1, a2, some (vI x)] (vI x :: st) μ G := ev_stp pg_268_700 rfl
theorem pg_268_701 : mm_prog 268 701 = some (0, .iconst 3, 702, []) := by decide +kernel
theorem xe_268_701 (a0 a1 a2 a3 : Option MV) (st : List MV) (μ : MM) (G : MG) : ev 268 701 [a0, a1, a2, a3] st μ G = ev 268 702 [a0, a1, a2, a3] (vI (3) :: st) μ G := ev_stp pg_268_701 rfl
theorem pg_268_702 : mm_prog 268 702 = some (0, .iadd, 703, []) := by decide +kernel
theorem xe_268_702 (a0 a1 a2 a3 : Option MV) (x y : Int) (st : List MV) (μ : MM) (G : MG) : ev 268 702 [a0, a1, a2, a3] (vI y :: vI x :: st) μ G = ev 268 703 [a0, a1, a2, a3] (vI (w32 (x + y)) :: st) μ G := ev_stp pg_268_702 rfl
theorem pg_268_703 : mm_prog 268 703 = some (0, .iaload, 704, []) := by decide +kernel
theorem xe_268_703 (a0 a1 a2 a3 : Option MV) (x y : Int) (st : List MV) (μ : MM) (G : MG) : ev 268 703 [a0, a1, a2, a3] (vI x :: vR y :: st) μ G = if gk G y = 100 ∧ 0 ≤ x ∧ x < gl G y then ev 268 704 [a0, a1, a2, a3] (vI (μ y x) :: st) μ G else none := ev_if pg_268_703 rfl
theorem pg_268_704 : mm_prog 268 704 = some (0, .aload_n 0, 705, []) := by decide +kernel
theorem xe_268_704 (a1 a2 a3 : Option MV) (x : Int) (st : List MV) (μ : MM) (G : MG) : ev 268 704 [some (vR x), a1, a2, a3] st μ G = ev 268 705 [some (vR x), a1, a2, a3] (vR x :: st) μ G := ev_stp pg_268_704 rfl
theorem pg_268_705 : mm_prog 268 705 = some (0, .iload_n 3, 706, []) := by decide +kernel
theorem xe_268_705 (a0 a1 a2 : Option MV) (x : Int) (st : List MV) (μ : MM) (G : MG) : ev 268 705 [a0, a1, a2, some (vI x)] st μ G = ev 268 706 [a0, a1, a2, some (vI x)] (vI x :: st) μ G := ev_stp pg_268_705 rfl
theorem pg_268_706 : mm_prog 268 706 = some (0, .iconst 4, 707, []) := by decide +kernel
theorem xe_268_706 (a0 a1 a2 a3 : Option MV) (st : List MV) (μ : MM) (G : MG) : ev 268 706 [a0, a1, a2, a3] st μ G = ev 268 707 [a0, a1, a2, a3] (vI (4) :: st) μ G := ev_stp pg_268_706 rfl
theorem pg_268_707 : mm_prog 268 707 = some (0, .iadd, 708, []) := by decide +kernel
theorem xe_268_707 (a0 a1 a2 a3 : Option MV) (x y : Int) (st : List MV) (μ : MM) (G : MG) : ev 268 707 [a0, a1, a2, a3] (vI y :: vI x :: st) μ G = ev 268 708 [a0, a1, a2, a3] (vI (w32 (x + y)) :: st) μ G := ev_stp pg_268_707 rfl
theorem pg_268_708 : mm_prog 268 708 = some (0, .iaload, 709, []) := by decide +kernel
theorem xe_268_708 (a0 a1 a2 a3 : Option MV) (x y : Int) (st : List MV) (μ : MM) (G : MG) : ev 268 708 [a0, a1, a2, a3] (vI x :: vR y :: st) μ G = if gk G y = 100 ∧ 0 ≤ x ∧ x < gl G y then ev 268 709 [a0, a1, a2, a3] (vI (μ y x) :: st) μ G else none := ev_if pg_268_708 rfl
theorem pg_268_709 : mm_prog 268 709 = some (0, .aload_n 0, 710, []) := by decide +kernel
theorem xe_268_709 (a1 a2 a3 : Option MV) (x : Int) (st : List MV) (μ : MM) (G : MG) : ev 268 709 [some (vR x), a1, a2, a3] st μ G = ev 268 710 [some (vR x), a1, a2, a3] (vR x :: st) μ G := ev_stp pg_268_709 rfl
theorem pg_268_710 : mm_prog 268 710 = some (0, .iload_n 3, 711, []) := by decide +kernel
theorem xe_268_710 (a0 a1 a2 : Option MV) (x : Int) (st : List MV) (μ : MM) (G : MG) : ev 268 710 [a0, a1, a2, some (vI x)] st μ G = ev 268 711 [a0, a1, a2, some (vI x)] (vI x :: st) μ G := ev_stp pg_268_710 rfl
theorem pg_268_711 : mm_prog 268 711 = some (0, .iconst 5, 712, []) := by decide +kernel
theorem xe_268_711 (a0 a1 a2 a3 : Option MV) (st : List MV) (μ : MM) (G : MG) : ev 268 711 [a0, a1, a2, a3] st μ G = ev 268 712 [a0, a1, a2, a3] (vI (5) :: st) μ G := ev_stp pg_268_711 rfl
theorem pg_268_712 : mm_prog 268 712 = some (0, .iadd, 713, []) := by decide +kernel
theorem xe_268_712 (a0 a1 a2 a3 : Option MV) (x y : Int) (st : List MV) (μ : MM) (G : MG) : ev 268 712 [a0, a1, a2, a3] (vI y :: vI x :: st) μ G = ev 268 713 [a0, a1, a2, a3] (vI (w32 (x + y)) :: st) μ G := ev_stp pg_268_712 rfl
theorem pg_268_713 : mm_prog 268 713 = some (0, .iaload, 714, []) := by decide +kernel
theorem xe_268_713 (a0 a1 a2 a3 : Option MV) (x y : Int) (st : List MV) (μ : MM) (G : MG) : ev 268 713 [a0, a1, a2, a3] (vI x :: vR y :: st) μ G = if gk G y = 100 ∧ 0 ≤ x ∧ x < gl G y then ev 268 714 [a0, a1, a2, a3] (vI (μ y x) :: st) μ G else none := ev_if pg_268_713 rfl
theorem pg_268_714 : mm_prog 268 714 = some (0, .aload_n 0, 715, []) := by decide +kernel
theorem xe_268_714 (a1 a2 a3 : Option MV) (x : Int) (st : List MV) (μ : MM) (G : MG) : ev 268 714 [some (vR x), a1, a2, a3] st μ G = ev 268 715 [some (vR x), a1, a2, a3] (vR x :: st) μ G := ev_stp pg_268_714 rfl
theorem pg_268_715 : mm_prog 268 715 = some (0, .iload_n 3, 716, []) := by decide +kernel
theorem xe_268_715 (a0 a1 a2 : Option MV) (x : Int) (st : List MV) (μ : MM) (G : MG) : ev 268 715 [a0, a1, a2, some (vI x)] st μ G = ev 268 716 [a0, a1, a2, some (vI x)] (vI x :: st) μ G := ev_stp pg_268_715 rfl
theorem pg_268_716 : mm_prog 268 716 = some (0, .bipush 6, 718, []) := by decide +kernel
theorem xe_268_716 (a0 a1 a2 a3 : Option MV) (st : List MV) (μ : MM) (G : MG) : ev 268 716 [a0, a1, a2, a3] st μ G = ev 268 718 [a0, a1, a2, a3] (vI (6) :: st) μ G := ev_stp pg_268_716 rfl
theorem pg_268_718 : mm_prog 268 718 = some (0, .iadd, 719, []) := by decide +kernel
theorem xe_268_718 (a0 a1 a2 a3 : Option MV) (x y : Int) (st : List MV) (μ : MM) (G : MG) : ev 268 718 [a0, a1, a2, a3] (vI y :: vI x :: st) μ G = ev 268 719 [a0, a1, a2, a3] (vI (w32 (x + y)) :: st) μ G := ev_stp pg_268_718 rfl
theorem pg_268_719 : mm_prog 268 719 = some (0, .iaload, 720, []) := by decide +kernel
theorem xe_268_719 (a0 a1 a2 a3 : Option MV) (x y : Int) (st : List MV) (μ : MM) (G : MG) : ev 268 719 [a0, a1, a2, a3] (vI x :: vR y :: st) μ G = if gk G y = 100 ∧ 0 ≤ x ∧ x < gl G y then ev 268 720 [a0, a1, a2, a3] (vI (μ y x) :: st) μ G else none := ev_if pg_268_719 rfl
theorem pg_268_720 : mm_prog 268 720 = some (1, .invokevirtual 73, 723, [1, 210, 6, 11]) := by decide +kernel
theorem xe_268_720 (a0 a1 a2 a3 : Option MV) (x0 x1 x2 x3 x4 x5 z r0 : Int) (μ : MM) (G : MG) : ev 268 720 [a0, a1, a2, a3] (vI x5 :: vI x4 :: vI x3 :: vI x2 :: vI x1 :: vI x0 :: vR z :: [vI r0]) μ G = if gk G z = 11 ∧ 0 < z then (ev 210 0 [some (vR z), some (vI x0), some (vI x1), some (vI x2), some (vI x3), some (vI x4), some (vI x5), none] [] μ G).bind (fun q => ev 268 723 [a0, a1, a2, a3] (q.1.toList ++ [vI r0]) q.2.1 q.2.2) else none := ev_calV (as := [vR z, vI x0, vI x1, vI x2, vI x3, vI x4, vI x5]) (r := [vI r0]) mx_210 pg_268_720 rfl rfl (Nat.le_of_ble_eq_true rfl) (Nat.le_of_ble_eq_true rfl)
theorem pg_268_723 : mm_prog 268 723 = some (0, .if_icmp .eq 555, 726, []) := by decide +kernel
theorem xe_268_723 (a0 a1 a2 a3 : Option MV) (x y : Int) (st : List MV) (μ : MM) (G : MG) : ev 268 723 [a0, a1, a2, a3] (vI y :: vI x :: st) μ G = if x = y then ev 268 1278 [a0, a1, a2, a3] st μ G else ev 268 726 [a0, a1, a2, a3] st μ G := ev_br (mm_cnd_eq x y) pg_268_723 rfl
theorem pg_268_726 : mm_prog 268 726 = some (0, .iconst 0, 727, []) := by decide +kernel
theorem xe_268_726 (a0 a1 a2 a3 : Option MV) (st : List MV) (μ : MM) (G : MG) : ev 268 726 [a0, a1, a2, a3] st μ G = ev 268 727 [a0, a1, a2, a3] (vI (0) :: st) μ G := ev_stp pg_268_726 rfl
theorem pg_268_727 : mm_prog 268 727 = some (2, .ireturn, 728, [1]) := by decide +kernel
theorem xe_268_727 (a0 a1 a2 a3 : Option MV) (x : Int) (μ : MM) (G : MG) : ev 268 727 [a0, a1, a2, a3] [vI x] μ G = if x = 0 ∨ x = 1 then some (some (vI x), μ, G) else none := ev_retB pg_268_727
theorem pg_268_728 : mm_prog 268 728 = some (0, .aload_n 1, 729, []) := by decide +kernel
theorem xe_268_728 (a0 a2 a3 : Option MV) (x : Int) (st : List MV) (μ : MM) (G : MG) : ev 268 728 [a0, some (vR x), a2, a3] st μ G = ev 268 729 [a0, some (vR x), a2, a3] (vR x :: st) μ G := ev_stp pg_268_728 rfl
theorem pg_268_729 : mm_prog 268 729 = some (0, .aload_n 0, 730, []) := by decide +kernel
theorem xe_268_729 (a1 a2 a3 : Option MV) (x : Int) (st : List MV) (μ : MM) (G : MG) : ev 268 729 [some (vR x), a1, a2, a3] st μ G = ev 268 730 [some (vR x), a1, a2, a3] (vR x :: st) μ G := ev_stp pg_268_729 rfl
theorem pg_268_730 : mm_prog 268 730 = some (0, .iload_n 3, 731, []) := by decide +kernel
theorem xe_268_730 (a0 a1 a2 : Option MV) (x : Int) (st : List MV) (μ : MM) (G : MG) : ev 268 730 [a0, a1, a2, some (vI x)] st μ G = ev 268 731 [a0, a1, a2, some (vI x)] (vI x :: st) μ G := ev_stp pg_268_730 rfl
theorem pg_268_731 : mm_prog 268 731 = some (0, .iconst 1, 732, []) := by decide +kernel
theorem xe_268_731 (a0 a1 a2 a3 : Option MV) (st : List MV) (μ : MM) (G : MG) : ev 268 731 [a0, a1, a2, a3] st μ G = ev 268 732 [a0, a1, a2, a3] (vI (1) :: st) μ G := ev_stp pg_268_731 rfl
theorem pg_268_732 : mm_prog 268 732 = some (0, .iadd, 733, []) := by decide +kernel
theorem xe_268_732 (a0 a1 a2 a3 : Option MV) (x y : Int) (st : List MV) (μ : MM) (G : MG) : ev 268 732 [a0, a1, a2, a3] (vI y :: vI x :: st) μ G = ev 268 733 [a0, a1, a2, a3] (vI (w32 (x + y)) :: st) μ G := ev_stp pg_268_732 rfl
theorem pg_268_733 : mm_prog 268 733 = some (0, .iaload, 734, []) := by decide +kernel
theorem xe_268_733 (a0 a1 a2 a3 : Option MV) (x y : Int) (st : List MV) (μ : MM) (G : MG) : ev 268 733 [a0, a1, a2, a3] (vI x :: vR y :: st) μ G = if gk G y = 100 ∧ 0 ≤ x ∧ x < gl G y then ev 268 734 [a0, a1, a2, a3] (vI (μ y x) :: st) μ G else none := ev_if pg_268_733 rfl
theorem pg_268_734 : mm_prog 268 734 = some (1, .invokevirtual 74, 737, [1, 117, 1, 10]) := by decide +kernel
theorem xe_268_734 (a0 a1 a2 a3 : Option MV) (x0 z : Int) (μ : MM) (G : MG) : ev 268 734 [a0, a1, a2, a3] (vI x0 :: vR z :: []) μ G = if gk G z = 10 ∧ 0 < z then (ev 117 0 [some (vR z), some (vI x0), none] [] μ G).bind (fun q => ev 268 737 [a0, a1, a2, a3] (q.1.toList ++ []) q.2.1 q.2.2) else none := ev_calV (as := [vR z, vI x0]) (r := []) mx_117 pg_268_734 rfl rfl (Nat.le_of_ble_eq_true rfl) (Nat.le_of_ble_eq_true rfl)
theorem pg_268_737 : mm_prog 268 737 = some (0, .aload_n 2, 738, []) := by decide +kernel
theorem xe_268_737 (a0 a1 a3 : Option MV) (x : Int) (st : List MV) (μ : MM) (G : MG) : ev 268 737 [a0, a1, some (vR x), a3] st μ G = ev 268 738 [a0, a1, some (vR x), a3] (vR x :: st) μ G := ev_stp pg_268_737 rfl
theorem pg_268_738 : mm_prog 268 738 = some (0, .aload_n 0, 739, []) := by decide +kernel
theorem xe_268_738 (a1 a2 a3 : Option MV) (x : Int) (st : List MV) (μ : MM) (G : MG) : ev 268 738 [some (vR x), a1, a2, a3] st μ G = ev 268 739 [some (vR x), a1, a2, a3] (vR x :: st) μ G := ev_stp pg_268_738 rfl
theorem pg_268_739 : mm_prog 268 739 = some (0, .iload_n 3, 740, []) := by decide +kernel
theorem xe_268_739 (a0 a1 a2 : Option MV) (x : Int) (st : List MV) (μ : MM) (G : MG) : ev 268 739 [a0, a1, a2, some (vI x)] st μ G = ev 268 740 [a0, a1, a2, some (vI x)] (vI x :: st) μ G := ev_stp pg_268_739 rfl
theorem pg_268_740 : mm_prog 268 740 = some (0, .iconst 1, 741, []) := by decide +kernel
theorem xe_268_740 (a0 a1 a2 a3 : Option MV) (st : List MV) (μ : MM) (G : MG) : ev 268 740 [a0, a1, a2, a3] st μ G = ev 268 741 [a0, a1, a2, a3] (vI (1) :: st) μ G := ev_stp pg_268_740 rfl
theorem pg_268_741 : mm_prog 268 741 = some (0, .iadd, 742, []) := by decide +kernel
theorem xe_268_741 (a0 a1 a2 a3 : Option MV) (x y : Int) (st : List MV) (μ : MM) (G : MG) : ev 268 741 [a0, a1, a2, a3] (vI y :: vI x :: st) μ G = ev 268 742 [a0, a1, a2, a3] (vI (w32 (x + y)) :: st) μ G := ev_stp pg_268_741 rfl
theorem pg_268_742 : mm_prog 268 742 = some (0, .iaload, 743, []) := by decide +kernel
theorem xe_268_742 (a0 a1 a2 a3 : Option MV) (x y : Int) (st : List MV) (μ : MM) (G : MG) : ev 268 742 [a0, a1, a2, a3] (vI x :: vR y :: st) μ G = if gk G y = 100 ∧ 0 ≤ x ∧ x < gl G y then ev 268 743 [a0, a1, a2, a3] (vI (μ y x) :: st) μ G else none := ev_if pg_268_742 rfl
theorem pg_268_743 : mm_prog 268 743 = some (1, .invokevirtual 77, 746, [1, 204, 1, 11]) := by decide +kernel
theorem xe_268_743 (a0 a1 a2 a3 : Option MV) (x0 z r0 : Int) (μ : MM) (G : MG) : ev 268 743 [a0, a1, a2, a3] (vI x0 :: vR z :: [vI r0]) μ G = if gk G z = 11 ∧ 0 < z then (ev 204 0 [some (vR z), some (vI x0), none] [] μ G).bind (fun q => ev 268 746 [a0, a1, a2, a3] (q.1.toList ++ [vI r0]) q.2.1 q.2.2) else none := ev_calV (as := [vR z, vI x0]) (r := [vI r0]) mx_204 pg_268_743 rfl rfl (Nat.le_of_ble_eq_true rfl) (Nat.le_of_ble_eq_true rfl)
theorem pg_268_746 : mm_prog 268 746 = some (0, .if_icmp .eq 532, 749, []) := by decide +kernel
theorem xe_268_746 (a0 a1 a2 a3 : Option MV) (x y : Int) (st : List MV) (μ : MM) (G : MG) : ev 268 746 [a0, a1, a2, a3] (vI y :: vI x :: st) μ G = if x = y then ev 268 1278 [a0, a1, a2, a3] st μ G else ev 268 749 [a0, a1, a2, a3] st μ G := ev_br (mm_cnd_eq x y) pg_268_746 rfl
theorem pg_268_749 : mm_prog 268 749 = some (0, .iconst 0, 750, []) := by decide +kernel
theorem xe_268_749 (a0 a1 a2 a3 : Option MV) (st : List MV) (μ : MM) (G : MG) : ev 268 749 [a0, a1, a2, a3] st μ G = ev 268 750 [a0, a1, a2, a3] (vI (0) :: st) μ G := ev_stp pg_268_749 rfl
theorem pg_268_750 : mm_prog 268 750 = some (2, .ireturn, 751, [1]) := by decide +kernel
theorem xe_268_750 (a0 a1 a2 a3 : Option MV) (x : Int) (μ : MM) (G : MG) : ev 268 750 [a0, a1, a2, a3] [vI x] μ G = if x = 0 ∨ x = 1 then some (some (vI x), μ, G) else none := ev_retB pg_268_750
theorem pg_268_751 : mm_prog 268 751 = some (0, .aload_n 1, 752, []) := by decide +kernel
theorem xe_268_751 (a0 a2 a3 : Option MV) (x : Int) (st : List MV) (μ : MM) (G : MG) : ev 268 751 [a0, some (vR x), a2, a3] st μ G = ev 268 752 [a0, some (vR x), a2, a3] (vR x :: st) μ G := ev_stp pg_268_751 rfl
theorem pg_268_752 : mm_prog 268 752 = some (0, .aload_n 0, 753, []) := by decide +kernel
theorem xe_268_752 (a1 a2 a3 : Option MV) (x : Int) (st : List MV) (μ : MM) (G : MG) : ev 268 752 [some (vR x), a1, a2, a3] st μ G = ev 268 753 [some (vR x), a1, a2, a3] (vR x :: st) μ G := ev_stp pg_268_752 rfl
theorem pg_268_753 : mm_prog 268 753 = some (0, .iload_n 3, 754, []) := by decide +kernel
theorem xe_268_753 (a0 a1 a2 : Option MV) (x : Int) (st : List MV) (μ : MM) (G : MG) : ev 268 753 [a0, a1, a2, some (vI x)] st μ G = ev 268 754 [a0, a1, a2, some (vI x)] (vI x :: st) μ G := ev_stp pg_268_753 rfl
theorem pg_268_754 : mm_prog 268 754 = some (0, .iconst 1, 755, []) := by decide +kernel
theorem xe_268_754 (a0 a1 a2 a3 : Option MV) (st : List MV) (μ : MM) (G : MG) : ev 268 754 [a0, a1, a2, a3] st μ G = ev 268 755 [a0, a1, a2, a3] (vI (1) :: st) μ G := ev_stp pg_268_754 rfl
theorem pg_268_755 : mm_prog 268 755 = some (0, .iadd, 756, []) := by decide +kernel
theorem xe_268_755 (a0 a1 a2 a3 : Option MV) (x y : Int) (st : List MV) (μ : MM) (G : MG) : ev 268 755 [a0, a1, a2, a3] (vI y :: vI x :: st) μ G = ev 268 756 [a0, a1, a2, a3] (vI (w32 (x + y)) :: st) μ G := ev_stp pg_268_755 rfl
theorem pg_268_756 : mm_prog 268 756 = some (0, .iaload, 757, []) := by decide +kernel
theorem xe_268_756 (a0 a1 a2 a3 : Option MV) (x y : Int) (st : List MV) (μ : MM) (G : MG) : ev 268 756 [a0, a1, a2, a3] (vI x :: vR y :: st) μ G = if gk G y = 100 ∧ 0 ≤ x ∧ x < gl G y then ev 268 757 [a0, a1, a2, a3] (vI (μ y x) :: st) μ G else none := ev_if pg_268_756 rfl
theorem pg_268_757 : mm_prog 268 757 = some (0, .aload_n 0, 758, []) := by decide +kernel
theorem xe_268_757 (a1 a2 a3 : Option MV) (x : Int) (st : List MV) (μ : MM) (G : MG) : ev 268 757 [some (vR x), a1, a2, a3] st μ G = ev 268 758 [some (vR x), a1, a2, a3] (vR x :: st) μ G := ev_stp pg_268_757 rfl
theorem pg_268_758 : mm_prog 268 758 = some (0, .iload_n 3, 759, []) := by decide +kernel
theorem xe_268_758 (a0 a1 a2 : Option MV) (x : Int) (st : List MV) (μ : MM) (G : MG) : ev 268 758 [a0, a1, a2, some (vI x)] st μ G = ev 268 759 [a0, a1, a2, some (vI x)] (vI x :: st) μ G := ev_stp pg_268_758 rfl
theorem pg_268_759 : mm_prog 268 759 = some (0, .iconst 2, 760, []) := by decide +kernel
theorem xe_268_759 (a0 a1 a2 a3 : Option MV) (st : List MV) (μ : MM) (G : MG) : ev 268 759 [a0, a1, a2, a3] st μ G = ev 268 760 [a0, a1, a2, a3] (vI (2) :: st) μ G := ev_stp pg_268_759 rfl
theorem pg_268_760 : mm_prog 268 760 = some (0, .iadd, 761, []) := by decide +kernel
theorem xe_268_760 (a0 a1 a2 a3 : Option MV) (x y : Int) (st : List MV) (μ : MM) (G : MG) : ev 268 760 [a0, a1, a2, a3] (vI y :: vI x :: st) μ G = ev 268 761 [a0, a1, a2, a3] (vI (w32 (x + y)) :: st) μ G := ev_stp pg_268_760 rfl
theorem pg_268_761 : mm_prog 268 761 = some (0, .iaload, 762, []) := by decide +kernel
theorem xe_268_761 (a0 a1 a2 a3 : Option MV) (x y : Int) (st : List MV) (μ : MM) (G : MG) : ev 268 761 [a0, a1, a2, a3] (vI x :: vR y :: st) μ G = if gk G y = 100 ∧ 0 ≤ x ∧ x < gl G y then ev 268 762 [a0, a1, a2, a3] (vI (μ y x) :: st) μ G else none := ev_if pg_268_761 rfl
theorem pg_268_762 : mm_prog 268 762 = some (1, .invokevirtual 78, 765, [1, 118, 2, 10]) := by decide +kernel
theorem xe_268_762 (a0 a1 a2 a3 : Option MV) (x0 x1 z : Int) (μ : MM) (G : MG) : ev 268 762 [a0, a1, a2, a3] (vI x1 :: vI x0 :: vR z :: []) μ G = if gk G z = 10 ∧ 0 < z then (ev 118 0 [some (vR z), some (vI x0), some (vI x1)] [] μ G).bind (fun q => ev 268 765 [a0, a1, a2, a3] (q.1.toList ++ []) q.2.1 q.2.2) else none := ev_calV (as := [vR z, vI x0, vI x1]) (r := []) mx_118 pg_268_762 rfl rfl (Nat.le_of_ble_eq_true rfl) (Nat.le_of_ble_eq_true rfl)
theorem pg_268_765 : mm_prog 268 765 = some (0, .aload_n 2, 766, []) := by decide +kernel
theorem xe_268_765 (a0 a1 a3 : Option MV) (x : Int) (st : List MV) (μ : MM) (G : MG) : ev 268 765 [a0, a1, some (vR x), a3] st μ G = ev 268 766 [a0, a1, some (vR x), a3] (vR x :: st) μ G := ev_stp pg_268_765 rfl
theorem pg_268_766 : mm_prog 268 766 = some (0, .aload_n 0, 767, []) := by decide +kernel
theorem xe_268_766 (a1 a2 a3 : Option MV) (x : Int) (st : List MV) (μ : MM) (G : MG) : ev 268 766 [some (vR x), a1, a2, a3] st μ G = ev 268 767 [some (vR x), a1, a2, a3] (vR x :: st) μ G := ev_stp pg_268_766 rfl
theorem pg_268_767 : mm_prog 268 767 = some (0, .iload_n 3, 768, []) := by decide +kernel
theorem xe_268_767 (a0 a1 a2 : Option MV) (x : Int) (st : List MV) (μ : MM) (G : MG) : ev 268 767 [a0, a1, a2, some (vI x)] st μ G = ev 268 768 [a0, a1, a2, some (vI x)] (vI x :: st) μ G := ev_stp pg_268_767 rfl
theorem pg_268_768 : mm_prog 268 768 = some (0, .iconst 1, 769, []) := by decide +kernel
theorem xe_268_768 (a0 a1 a2 a3 : Option MV) (st : List MV) (μ : MM) (G : MG) : ev 268 768 [a0, a1, a2, a3] st μ G = ev 268 769 [a0, a1, a2, a3] (vI (1) :: st) μ G := ev_stp pg_268_768 rfl
theorem pg_268_769 : mm_prog 268 769 = some (0, .iadd, 770, []) := by decide +kernel
theorem xe_268_769 (a0 a1 a2 a3 : Option MV) (x y : Int) (st : List MV) (μ : MM) (G : MG) : ev 268 769 [a0, a1, a2, a3] (vI y :: vI x :: st) μ G = ev 268 770 [a0, a1, a2, a3] (vI (w32 (x + y)) :: st) μ G := ev_stp pg_268_769 rfl
theorem pg_268_770 : mm_prog 268 770 = some (0, .iaload, 771, []) := by decide +kernel
theorem xe_268_770 (a0 a1 a2 a3 : Option MV) (x y : Int) (st : List MV) (μ : MM) (G : MG) : ev 268 770 [a0, a1, a2, a3] (vI x :: vR y :: st) μ G = if gk G y = 100 ∧ 0 ≤ x ∧ x < gl G y then ev 268 771 [a0, a1, a2, a3] (vI (μ y x) :: st) μ G else none := ev_if pg_268_770 rfl
theorem pg_268_771 : mm_prog 268 771 = some (0, .aload_n 0, 772, []) := by decide +kernel
theorem xe_268_771 (a1 a2 a3 : Option MV) (x : Int) (st : List MV) (μ : MM) (G : MG) : ev 268 771 [some (vR x), a1, a2, a3] st μ G = ev 268 772 [some (vR x), a1, a2, a3] (vR x :: st) μ G := ev_stp pg_268_771 rfl
theorem pg_268_772 : mm_prog 268 772 = some (0, .iload_n 3, 773, []) := by decide +kernel
theorem xe_268_772 (a0 a1 a2 : Option MV) (x : Int) (st : List MV) (μ : MM) (G : MG) : ev 268 772 [a0, a1, a2, some (vI x)] st μ G = ev 268 773 [a0, a1, a2, some (vI x)] (vI x :: st) μ G := ev_stp pg_268_772 rfl
theorem pg_268_773 : mm_prog 268 773 = some (0, .iconst 2, 774, []) := by decide +kernel
theorem xe_268_773 (a0 a1 a2 a3 : Option MV) (st : List MV) (μ : MM) (G : MG) : ev 268 773 [a0, a1, a2, a3] st μ G = ev 268 774 [a0, a1, a2, a3] (vI (2) :: st) μ G := ev_stp pg_268_773 rfl
theorem pg_268_774 : mm_prog 268 774 = some (0, .iadd, 775, []) := by decide +kernel
theorem xe_268_774 (a0 a1 a2 a3 : Option MV) (x y : Int) (st : List MV) (μ : MM) (G : MG) : ev 268 774 [a0, a1, a2, a3] (vI y :: vI x :: st) μ G = ev 268 775 [a0, a1, a2, a3] (vI (w32 (x + y)) :: st) μ G := ev_stp pg_268_774 rfl
theorem pg_268_775 : mm_prog 268 775 = some (0, .iaload, 776, []) := by decide +kernel
theorem xe_268_775 (a0 a1 a2 a3 : Option MV) (x y : Int) (st : List MV) (μ : MM) (G : MG) : ev 268 775 [a0, a1, a2, a3] (vI x :: vR y :: st) μ G = if gk G y = 100 ∧ 0 ≤ x ∧ x < gl G y then ev 268 776 [a0, a1, a2, a3] (vI (μ y x) :: st) μ G else none := ev_if pg_268_775 rfl
theorem pg_268_776 : mm_prog 268 776 = some (1, .invokevirtual 81, 779, [1, 205, 2, 11]) := by decide +kernel
theorem xe_268_776 (a0 a1 a2 a3 : Option MV) (x0 x1 z r0 : Int) (μ : MM) (G : MG) : ev 268 776 [a0, a1, a2, a3] (vI x1 :: vI x0 :: vR z :: [vI r0]) μ G = if gk G z = 11 ∧ 0 < z then (ev 205 0 [some (vR z), some (vI x0), some (vI x1)] [] μ G).bind (fun q => ev 268 779 [a0, a1, a2, a3] (q.1.toList ++ [vI r0]) q.2.1 q.2.2) else none := ev_calV (as := [vR z, vI x0, vI x1]) (r := [vI r0]) mx_205 pg_268_776 rfl rfl (Nat.le_of_ble_eq_true rfl) (Nat.le_of_ble_eq_true rfl)
theorem pg_268_779 : mm_prog 268 779 = some (0, .if_icmp .eq 499, 782, []) := by decide +kernel
theorem xe_268_779 (a0 a1 a2 a3 : Option MV) (x y : Int) (st : List MV) (μ : MM) (G : MG) : ev 268 779 [a0, a1, a2, a3] (vI y :: vI x :: st) μ G = if x = y then ev 268 1278 [a0, a1, a2, a3] st μ G else ev 268 782 [a0, a1, a2, a3] st μ G := ev_br (mm_cnd_eq x y) pg_268_779 rfl
theorem pg_268_782 : mm_prog 268 782 = some (0, .iconst 0, 783, []) := by decide +kernel
theorem xe_268_782 (a0 a1 a2 a3 : Option MV) (st : List MV) (μ : MM) (G : MG) : ev 268 782 [a0, a1, a2, a3] st μ G = ev 268 783 [a0, a1, a2, a3] (vI (0) :: st) μ G := ev_stp pg_268_782 rfl
theorem pg_268_783 : mm_prog 268 783 = some (2, .ireturn, 784, [1]) := by decide +kernel
theorem xe_268_783 (a0 a1 a2 a3 : Option MV) (x : Int) (μ : MM) (G : MG) : ev 268 783 [a0, a1, a2, a3] [vI x] μ G = if x = 0 ∨ x = 1 then some (some (vI x), μ, G) else none := ev_retB pg_268_783
theorem pg_268_784 : mm_prog 268 784 = some (0, .aload_n 1, 785, []) := by decide +kernel
theorem xe_268_784 (a0 a2 a3 : Option MV) (x : Int) (st : List MV) (μ : MM) (G : MG) : ev 268 784 [a0, some (vR x), a2, a3] st μ G = ev 268 785 [a0, some (vR x), a2, a3] (vR x :: st) μ G := ev_stp pg_268_784 rfl
theorem pg_268_785 : mm_prog 268 785 = some (0, .aload_n 0, 786, []) := by decide +kernel
theorem xe_268_785 (a1 a2 a3 : Option MV) (x : Int) (st : List MV) (μ : MM) (G : MG) : ev 268 785 [some (vR x), a1, a2, a3] st μ G = ev 268 786 [some (vR x), a1, a2, a3] (vR x :: st) μ G := ev_stp pg_268_785 rfl
theorem pg_268_786 : mm_prog 268 786 = some (0, .iload_n 3, 787, []) := by decide +kernel
theorem xe_268_786 (a0 a1 a2 : Option MV) (x : Int) (st : List MV) (μ : MM) (G : MG) : ev 268 786 [a0, a1, a2, some (vI x)] st μ G = ev 268 787 [a0, a1, a2, some (vI x)] (vI x :: st) μ G := ev_stp pg_268_786 rfl
theorem pg_268_787 : mm_prog 268 787 = some (0, .iconst 1, 788, []) := by decide +kernel
theorem xe_268_787 (a0 a1 a2 a3 : Option MV) (st : List MV) (μ : MM) (G : MG) : ev 268 787 [a0, a1, a2, a3] st μ G = ev 268 788 [a0, a1, a2, a3] (vI (1) :: st) μ G := ev_stp pg_268_787 rfl
theorem pg_268_788 : mm_prog 268 788 = some (0, .iadd, 789, []) := by decide +kernel
theorem xe_268_788 (a0 a1 a2 a3 : Option MV) (x y : Int) (st : List MV) (μ : MM) (G : MG) : ev 268 788 [a0, a1, a2, a3] (vI y :: vI x :: st) μ G = ev 268 789 [a0, a1, a2, a3] (vI (w32 (x + y)) :: st) μ G := ev_stp pg_268_788 rfl
theorem pg_268_789 : mm_prog 268 789 = some (0, .iaload, 790, []) := by decide +kernel
theorem xe_268_789 (a0 a1 a2 a3 : Option MV) (x y : Int) (st : List MV) (μ : MM) (G : MG) : ev 268 789 [a0, a1, a2, a3] (vI x :: vR y :: st) μ G = if gk G y = 100 ∧ 0 ≤ x ∧ x < gl G y then ev 268 790 [a0, a1, a2, a3] (vI (μ y x) :: st) μ G else none := ev_if pg_268_789 rfl
theorem pg_268_790 : mm_prog 268 790 = some (0, .aload_n 0, 791, []) := by decide +kernel
theorem xe_268_790 (a1 a2 a3 : Option MV) (x : Int) (st : List MV) (μ : MM) (G : MG) : ev 268 790 [some (vR x), a1, a2, a3] st μ G = ev 268 791 [some (vR x), a1, a2, a3] (vR x :: st) μ G := ev_stp pg_268_790 rfl
theorem pg_268_791 : mm_prog 268 791 = some (0, .iload_n 3, 792, []) := by decide +kernel
theorem xe_268_791 (a0 a1 a2 : Option MV) (x : Int) (st : List MV) (μ : MM) (G : MG) : ev 268 791 [a0, a1, a2, some (vI x)] st μ G = ev 268 792 [a0, a1, a2, some (vI x)] (vI x :: st) μ G := ev_stp pg_268_791 rfl
theorem pg_268_792 : mm_prog 268 792 = some (0, .iconst 2, 793, []) := by decide +kernel
theorem xe_268_792 (a0 a1 a2 a3 : Option MV) (st : List MV) (μ : MM) (G : MG) : ev 268 792 [a0, a1, a2, a3] st μ G = ev 268 793 [a0, a1, a2, a3] (vI (2) :: st) μ G := ev_stp pg_268_792 rfl
theorem pg_268_793 : mm_prog 268 793 = some (0, .iadd, 794, []) := by decide +kernel
theorem xe_268_793 (a0 a1 a2 a3 : Option MV) (x y : Int) (st : List MV) (μ : MM) (G : MG) : ev 268 793 [a0, a1, a2, a3] (vI y :: vI x :: st) μ G = ev 268 794 [a0, a1, a2, a3] (vI (w32 (x + y)) :: st) μ G := ev_stp pg_268_793 rfl
theorem pg_268_794 : mm_prog 268 794 = some (0, .iaload, 795, []) := by decide +kernel
theorem xe_268_794 (a0 a1 a2 a3 : Option MV) (x y : Int) (st : List MV) (μ : MM) (G : MG) : ev 268 794 [a0, a1, a2, a3] (vI x :: vR y :: st) μ G = if gk G y = 100 ∧ 0 ≤ x ∧ x < gl G y then ev 268 795 [a0, a1, a2, a3] (vI (μ y x) :: st) μ G else none := ev_if pg_268_794 rfl
theorem pg_268_795 : mm_prog 268 795 = some (1, .invokevirtual 82, 798, [1, 119, 2, 10]) := by decide +kernel
theorem xe_268_795 (a0 a1 a2 a3 : Option MV) (x0 x1 z : Int) (μ : MM) (G : MG) : ev 268 795 [a0, a1, a2, a3] (vI x1 :: vI x0 :: vR z :: []) μ G = if gk G z = 10 ∧ 0 < z then (ev 119 0 [some (vR z), some (vI x0), some (vI x1), none] [] μ G).bind (fun q => ev 268 798 [a0, a1, a2, a3] (q.1.toList ++ []) q.2.1 q.2.2) else none := ev_calV (as := [vR z, vI x0, vI x1]) (r := []) mx_119 pg_268_795 rfl rfl (Nat.le_of_ble_eq_true rfl) (Nat.le_of_ble_eq_true rfl)
theorem pg_268_798 : mm_prog 268 798 = some (0, .aload_n 2, 799, []) := by decide +kernel
theorem xe_268_798 (a0 a1 a3 : Option MV) (x : Int) (st : List MV) (μ : MM) (G : MG) : ev 268 798 [a0, a1, some (vR x), a3] st μ G = ev 268 799 [a0, a1, some (vR x), a3] (vR x :: st) μ G := ev_stp pg_268_798 rfl
theorem pg_268_799 : mm_prog 268 799 = some (0, .aload_n 0, 800, []) := by decide +kernel
theorem xe_268_799 (a1 a2 a3 : Option MV) (x : Int) (st : List MV) (μ : MM) (G : MG) : ev 268 799 [some (vR x), a1, a2, a3] st μ G = ev 268 800 [some (vR x), a1, a2, a3] (vR x :: st) μ G := ev_stp pg_268_799 rfl
theorem pg_268_800 : mm_prog 268 800 = some (0, .iload_n 3, 801, []) := by decide +kernel
theorem xe_268_800 (a0 a1 a2 : Option MV) (x : Int) (st : List MV) (μ : MM) (G : MG) : ev 268 800 [a0, a1, a2, some (vI x)] st μ G = ev 268 801 [a0, a1, a2, some (vI x)] (vI x :: st) μ G := ev_stp pg_268_800 rfl
theorem pg_268_801 : mm_prog 268 801 = some (0, .iconst 1, 802, []) := by decide +kernel
theorem xe_268_801 (a0 a1 a2 a3 : Option MV) (st : List MV) (μ : MM) (G : MG) : ev 268 801 [a0, a1, a2, a3] st μ G = ev 268 802 [a0, a1, a2, a3] (vI (1) :: st) μ G := ev_stp pg_268_801 rfl
theorem pg_268_802 : mm_prog 268 802 = some (0, .iadd, 803, []) := by decide +kernel
theorem xe_268_802 (a0 a1 a2 a3 : Option MV) (x y : Int) (st : List MV) (μ : MM) (G : MG) : ev 268 802 [a0, a1, a2, a3] (vI y :: vI x :: st) μ G = ev 268 803 [a0, a1, a2, a3] (vI (w32 (x + y)) :: st) μ G := ev_stp pg_268_802 rfl
theorem pg_268_803 : mm_prog 268 803 = some (0, .iaload, 804, []) := by decide +kernel
theorem xe_268_803 (a0 a1 a2 a3 : Option MV) (x y : Int) (st : List MV) (μ : MM) (G : MG) : ev 268 803 [a0, a1, a2, a3] (vI x :: vR y :: st) μ G = if gk G y = 100 ∧ 0 ≤ x ∧ x < gl G y then ev 268 804 [a0, a1, a2, a3] (vI (μ y x) :: st) μ G else none := ev_if pg_268_803 rfl
theorem pg_268_804 : mm_prog 268 804 = some (0, .aload_n 0, 805, []) := by decide +kernel
theorem xe_268_804 (a1 a2 a3 : Option MV) (x : Int) (st : List MV) (μ : MM) (G : MG) : ev 268 804 [some (vR x), a1, a2, a3] st μ G = ev 268 805 [some (vR x), a1, a2, a3] (vR x :: st) μ G := ev_stp pg_268_804 rfl
theorem pg_268_805 : mm_prog 268 805 = some (0, .iload_n 3, 806, []) := by decide +kernel
theorem xe_268_805 (a0 a1 a2 : Option MV) (x : Int) (st : List MV) (μ : MM) (G : MG) : ev 268 805 [a0, a1, a2, some (vI x)] st μ G = ev 268 806 [a0, a1, a2, some (vI x)] (vI x :: st) μ G := ev_stp pg_268_805 rfl
theorem pg_268_806 : mm_prog 268 806 = some (0, .iconst 2, 807, []) := by decide +kernel
theorem xe_268_806 (a0 a1 a2 a3 : Option MV) (st : List MV) (μ : MM) (G : MG) : ev 268 806 [a0, a1, a2, a3] st μ G = ev 268 807 [a0, a1, a2, a3] (vI (2) :: st) μ G := ev_stp pg_268_806 rfl
theorem pg_268_807 : mm_prog 268 807 = some (0, .iadd, 808, []) := by decide +kernel
theorem xe_268_807 (a0 a1 a2 a3 : Option MV) (x y : Int) (st : List MV) (μ : MM) (G : MG) : ev 268 807 [a0, a1, a2, a3] (vI y :: vI x :: st) μ G = ev 268 808 [a0, a1, a2, a3] (vI (w32 (x + y)) :: st) μ G := ev_stp pg_268_807 rfl
theorem pg_268_808 : mm_prog 268 808 = some (0, .iaload, 809, []) := by decide +kernel
theorem xe_268_808 (a0 a1 a2 a3 : Option MV) (x y : Int) (st : List MV) (μ : MM) (G : MG) : ev 268 808 [a0, a1, a2, a3] (vI x :: vR y :: st) μ G = if gk G y = 100 ∧ 0 ≤ x ∧ x < gl G y then ev 268 809 [a0, a1, a2, a3] (vI (μ y x) :: st) μ G else none := ev_if pg_268_808 rfl
theorem pg_268_809 : mm_prog 268 809 = some (1, .invokevirtual 85, 812, [1, 206, 2, 11]) := by decide +kernel
theorem xe_268_809 (a0 a1 a2 a3 : Option MV) (x0 x1 z r0 : Int) (μ : MM) (G : MG) : ev 268 809 [a0, a1, a2, a3] (vI x1 :: vI x0 :: vR z :: [vI r0]) μ G = if gk G z = 11 ∧ 0 < z then (ev 206 0 [some (vR z), some (vI x0), some (vI x1)] [] μ G).bind (fun q => ev 268 812 [a0, a1, a2, a3] (q.1.toList ++ [vI r0]) q.2.1 q.2.2) else none := ev_calV (as := [vR z, vI x0, vI x1]) (r := [vI r0]) mx_206 pg_268_809 rfl rfl (Nat.le_of_ble_eq_true rfl) (Nat.le_of_ble_eq_true rfl)
theorem pg_268_812 : mm_prog 268 812 = some (0, .if_icmp .eq 466, 815, []) := by decide +kernel
theorem xe_268_812 (a0 a1 a2 a3 : Option MV) (x y : Int) (st : List MV) (μ : MM) (G : MG) : ev 268 812 [a0, a1, a2, a3] (vI y :: vI x :: st) μ G = if x = y then ev 268 1278 [a0, a1, a2, a3] st μ G else ev 268 815 [a0, a1, a2, a3] st μ G := ev_br (mm_cnd_eq x y) pg_268_812 rfl
theorem pg_268_815 : mm_prog 268 815 = some (0, .iconst 0, 816, []) := by decide +kernel
theorem xe_268_815 (a0 a1 a2 a3 : Option MV) (st : List MV) (μ : MM) (G : MG) : ev 268 815 [a0, a1, a2, a3] st μ G = ev 268 816 [a0, a1, a2, a3] (vI (0) :: st) μ G := ev_stp pg_268_815 rfl
theorem pg_268_816 : mm_prog 268 816 = some (2, .ireturn, 817, [1]) := by decide +kernel
theorem xe_268_816 (a0 a1 a2 a3 : Option MV) (x : Int) (μ : MM) (G : MG) : ev 268 816 [a0, a1, a2, a3] [vI x] μ G = if x = 0 ∨ x = 1 then some (some (vI x), μ, G) else none := ev_retB pg_268_816
theorem pg_268_817 : mm_prog 268 817 = some (0, .aload_n 1, 818, []) := by decide +kernel
theorem xe_268_817 (a0 a2 a3 : Option MV) (x : Int) (st : List MV) (μ : MM) (G : MG) : ev 268 817 [a0, some (vR x), a2, a3] st μ G = ev 268 818 [a0, some (vR x), a2, a3] (vR x :: st) μ G := ev_stp pg_268_817 rfl
theorem pg_268_818 : mm_prog 268 818 = some (0, .aload_n 0, 819, []) := by decide +kernel
theorem xe_268_818 (a1 a2 a3 : Option MV) (x : Int) (st : List MV) (μ : MM) (G : MG) : ev 268 818 [some (vR x), a1, a2, a3] st μ G = ev 268 819 [some (vR x), a1, a2, a3] (vR x :: st) μ G := ev_stp pg_268_818 rfl
theorem pg_268_819 : mm_prog 268 819 = some (0, .iload_n 3, 820, []) := by decide +kernel
theorem xe_268_819 (a0 a1 a2 : Option MV) (x : Int) (st : List MV) (μ : MM) (G : MG) : ev 268 819 [a0, a1, a2, some (vI x)] st μ G = ev 268 820 [a0, a1, a2, some (vI x)] (vI x :: st) μ G := ev_stp pg_268_819 rfl
theorem pg_268_820 : mm_prog 268 820 = some (0, .iconst 1, 821, []) := by decide +kernel
theorem xe_268_820 (a0 a1 a2 a3 : Option MV) (st : List MV) (μ : MM) (G : MG) : ev 268 820 [a0, a1, a2, a3] st μ G = ev 268 821 [a0, a1, a2, a3] (vI (1) :: st) μ G := ev_stp pg_268_820 rfl
theorem pg_268_821 : mm_prog 268 821 = some (0, .iadd, 822, []) := by decide +kernel
theorem xe_268_821 (a0 a1 a2 a3 : Option MV) (x y : Int) (st : List MV) (μ : MM) (G : MG) : ev 268 821 [a0, a1, a2, a3] (vI y :: vI x :: st) μ G = ev 268 822 [a0, a1, a2, a3] (vI (w32 (x + y)) :: st) μ G := ev_stp pg_268_821 rfl
theorem pg_268_822 : mm_prog 268 822 = some (0, .iaload, 823, []) := by decide +kernel
theorem xe_268_822 (a0 a1 a2 a3 : Option MV) (x y : Int) (st : List MV) (μ : MM) (G : MG) : ev 268 822 [a0, a1, a2, a3] (vI x :: vR y :: st) μ G = if gk G y = 100 ∧ 0 ≤ x ∧ x < gl G y then ev 268 823 [a0, a1, a2, a3] (vI (μ y x) :: st) μ G else none := ev_if pg_268_822 rfl
theorem pg_268_823 : mm_prog 268 823 = some (0, .aload_n 0, 824, []) := by decide +kernel
theorem xe_268_823 (a1 a2 a3 : Option MV) (x : Int) (st : List MV) (μ : MM) (G : MG) : ev 268 823 [some (vR x), a1, a2, a3] st μ G = ev 268 824 [some (vR x), a1, a2, a3] (vR x :: st) μ G := ev_stp pg_268_823 rfl
theorem pg_268_824 : mm_prog 268 824 = some (0, .iload_n 3, 825, []) := by decide +kernel
theorem xe_268_824 (a0 a1 a2 : Option MV) (x : Int) (st : List MV) (μ : MM) (G : MG) : ev 268 824 [a0, a1, a2, some (vI x)] st μ G = ev 268 825 [a0, a1, a2, some (vI x)] (vI x :: st) μ G := ev_stp pg_268_824 rfl
theorem pg_268_825 : mm_prog 268 825 = some (0, .iconst 2, 826, []) := by decide +kernel
theorem xe_268_825 (a0 a1 a2 a3 : Option MV) (st : List MV) (μ : MM) (G : MG) : ev 268 825 [a0, a1, a2, a3] st μ G = ev 268 826 [a0, a1, a2, a3] (vI (2) :: st) μ G := ev_stp pg_268_825 rfl
theorem pg_268_826 : mm_prog 268 826 = some (0, .iadd, 827, []) := by decide +kernel
theorem xe_268_826 (a0 a1 a2 a3 : Option MV) (x y : Int) (st : List MV) (μ : MM) (G : MG) : ev 268 826 [a0, a1, a2, a3] (vI y :: vI x :: st) μ G = ev 268 827 [a0, a1, a2, a3] (vI (w32 (x + y)) :: st) μ G := ev_stp pg_268_826 rfl
theorem pg_268_827 : mm_prog 268 827 = some (0, .iaload, 828, []) := by decide +kernel
theorem xe_268_827 (a0 a1 a2 a3 : Option MV) (x y : Int) (st : List MV) (μ : MM) (G : MG) : ev 268 827 [a0, a1, a2, a3] (vI x :: vR y :: st) μ G = if gk G y = 100 ∧ 0 ≤ x ∧ x < gl G y then ev 268 828 [a0, a1, a2, a3] (vI (μ y x) :: st) μ G else none := ev_if pg_268_827 rfl
theorem pg_268_828 : mm_prog 268 828 = some (0, .aload_n 0, 829, []) := by decide +kernel
theorem xe_268_828 (a1 a2 a3 : Option MV) (x : Int) (st : List MV) (μ : MM) (G : MG) : ev 268 828 [some (vR x), a1, a2, a3] st μ G = ev 268 829 [some (vR x), a1, a2, a3] (vR x :: st) μ G := ev_stp pg_268_828 rfl
theorem pg_268_829 : mm_prog 268 829 = some (0, .iload_n 3, 830, []) := by decide +kernel
theorem xe_268_829 (a0 a1 a2 : Option MV) (x : Int) (st : List MV) (μ : MM) (G : MG) : ev 268 829 [a0, a1, a2, some (vI x)] st μ G = ev 268 830 [a0, a1, a2, some (vI x)] (vI x :: st) μ G := ev_stp pg_268_829 rfl
theorem pg_268_830 : mm_prog 268 830 = some (0, .iconst 3, 831, []) := by decide +kernel
theorem xe_268_830 (a0 a1 a2 a3 : Option MV) (st : List MV) (μ : MM) (G : MG) : ev 268 830 [a0, a1, a2, a3] st μ G = ev 268 831 [a0, a1, a2, a3] (vI (3) :: st) μ G := ev_stp pg_268_830 rfl
theorem pg_268_831 : mm_prog 268 831 = some (0, .iadd, 832, []) := by decide +kernel
theorem xe_268_831 (a0 a1 a2 a3 : Option MV) (x y : Int) (st : List MV) (μ : MM) (G : MG) : ev 268 831 [a0, a1, a2, a3] (vI y :: vI x :: st) μ G = ev 268 832 [a0, a1, a2, a3] (vI (w32 (x + y)) :: st) μ G := ev_stp pg_268_831 rfl
theorem pg_268_832 : mm_prog 268 832 = some (0, .iaload, 833, []) := by decide +kernel
theorem xe_268_832 (a0 a1 a2 a3 : Option MV) (x y : Int) (st : List MV) (μ : MM) (G : MG) : ev 268 832 [a0, a1, a2, a3] (vI x :: vR y :: st) μ G = if gk G y = 100 ∧ 0 ≤ x ∧ x < gl G y then ev 268 833 [a0, a1, a2, a3] (vI (μ y x) :: st) μ G else none := ev_if pg_268_832 rfl
theorem pg_268_833 : mm_prog 268 833 = some (1, .invokevirtual 86, 836, [1, 120, 3, 10]) := by decide +kernel
theorem xe_268_833 (a0 a1 a2 a3 : Option MV) (x0 x1 x2 z : Int) (μ : MM) (G : MG) : ev 268 833 [a0, a1, a2, a3] (vI x2 :: vI x1 :: vI x0 :: vR z :: []) μ G = if gk G z = 10 ∧ 0 < z then (ev 120 0 [some (vR z), some (vI x0), some (vI x1), some (vI x2)] [] μ G).bind (fun q => ev 268 836 [a0, a1, a2, a3] (q.1.toList ++ []) q.2.1 q.2.2) else none := ev_calV (as := [vR z, vI x0, vI x1, vI x2]) (r := []) mx_120 pg_268_833 rfl rfl (Nat.le_of_ble_eq_true rfl) (Nat.le_of_ble_eq_true rfl)
theorem pg_268_836 : mm_prog 268 836 = some (0, .aload_n 2, 837, []) := by decide +kernel
theorem xe_268_836 (a0 a1 a3 : Option MV) (x : Int) (st : List MV) (μ : MM) (G : MG) : ev 268 836 [a0, a1, some (vR x), a3] st μ G = ev 268 837 [a0, a1, some (vR x), a3] (vR x :: st) μ G := ev_stp pg_268_836 rfl
theorem pg_268_837 : mm_prog 268 837 = some (0, .aload_n 0, 838, []) := by decide +kernel
theorem xe_268_837 (a1 a2 a3 : Option MV) (x : Int) (st : List MV) (μ : MM) (G : MG) : ev 268 837 [some (vR x), a1, a2, a3] st μ G = ev 268 838 [some (vR x), a1, a2, a3] (vR x :: st) μ G := ev_stp pg_268_837 rfl
theorem pg_268_838 : mm_prog 268 838 = some (0, .iload_n 3, 839, []) := by decide +kernel
theorem xe_268_838 (a0 a1 a2 : Option MV) (x : Int) (st : List MV) (μ : MM) (G : MG) : ev 268 838 [a0, a1, a2, some (vI x)] st μ G = ev 268 839 [a0, a1, a2, some (vI x)] (vI x :: st) μ G := ev_stp pg_268_838 rfl
theorem pg_268_839 : mm_prog 268 839 = some (0, .iconst 1, 840, []) := by decide +kernel
theorem xe_268_839 (a0 a1 a2 a3 : Option MV) (st : List MV) (μ : MM) (G : MG) : ev 268 839 [a0, a1, a2, a3] st μ G = ev 268 840 [a0, a1, a2, a3] (vI (1) :: st) μ G := ev_stp pg_268_839 rfl
theorem pg_268_840 : mm_prog 268 840 = some (0, .iadd, 841, []) := by decide +kernel
theorem xe_268_840 (a0 a1 a2 a3 : Option MV) (x y : Int) (st : List MV) (μ : MM) (G : MG) : ev 268 840 [a0, a1, a2, a3] (vI y :: vI x :: st) μ G = ev 268 841 [a0, a1, a2, a3] (vI (w32 (x + y)) :: st) μ G := ev_stp pg_268_840 rfl
theorem pg_268_841 : mm_prog 268 841 = some (0, .iaload, 842, []) := by decide +kernel
theorem xe_268_841 (a0 a1 a2 a3 : Option MV) (x y : Int) (st : List MV) (μ : MM) (G : MG) : ev 268 841 [a0, a1, a2, a3] (vI x :: vR y :: st) μ G = if gk G y = 100 ∧ 0 ≤ x ∧ x < gl G y then ev 268 842 [a0, a1, a2, a3] (vI (μ y x) :: st) μ G else none := ev_if pg_268_841 rfl
theorem pg_268_842 : mm_prog 268 842 = some (0, .aload_n 0, 843, []) := by decide +kernel
theorem xe_268_842 (a1 a2 a3 : Option MV) (x : Int) (st : List MV) (μ : MM) (G : MG) : ev 268 842 [some (vR x), a1, a2, a3] st μ G = ev 268 843 [some (vR x), a1, a2, a3] (vR x :: st) μ G := ev_stp pg_268_842 rfl
theorem pg_268_843 : mm_prog 268 843 = some (0, .iload_n 3, 844, []) := by decide +kernel
theorem xe_268_843 (a0 a1 a2 : Option MV) (x : Int) (st : List MV) (μ : MM) (G : MG) : ev 268 843 [a0, a1, a2, some (vI x)] st μ G = ev 268 844 [a0, a1, a2, some (vI x)] (vI x :: st) μ G := ev_stp pg_268_843 rfl
theorem pg_268_844 : mm_prog 268 844 = some (0, .iconst 2, 845, []) := by decide +kernel
theorem xe_268_844 (a0 a1 a2 a3 : Option MV) (st : List MV) (μ : MM) (G : MG) : ev 268 844 [a0, a1, a2, a3] st μ G = ev 268 845 [a0, a1, a2, a3] (vI (2) :: st) μ G := ev_stp pg_268_844 rfl
theorem pg_268_845 : mm_prog 268 845 = some (0, .iadd, 846, []) := by decide +kernel
theorem xe_268_845 (a0 a1 a2 a3 : Option MV) (x y : Int) (st : List MV) (μ : MM) (G : MG) : ev 268 845 [a0, a1, a2, a3] (vI y :: vI x :: st) μ G = ev 268 846 [a0, a1, a2, a3] (vI (w32 (x + y)) :: st) μ G := ev_stp pg_268_845 rfl
theorem pg_268_846 : mm_prog 268 846 = some (0, .iaload, 847, []) := by decide +kernel
theorem xe_268_846 (a0 a1 a2 a3 : Option MV) (x y : Int) (st : List MV) (μ : MM) (G : MG) : ev 268 846 [a0, a1, a2, a3] (vI x :: vR y :: st) μ G = if gk G y = 100 ∧ 0 ≤ x ∧ x < gl G y then ev 268 847 [a0, a1, a2, a3] (vI (μ y x) :: st) μ G else none := ev_if pg_268_846 rfl
theorem pg_268_847 : mm_prog 268 847 = some (0, .aload_n 0, 848, []) := by decide +kernel
theorem xe_268_847 (a1 a2 a3 : Option MV) (x : Int) (st : List MV) (μ : MM) (G : MG) : ev 268 847 [some (vR x), a1, a2, a3] st μ G = ev 268 848 [some (vR x), a1, a2, a3] (vR x :: st) μ G := ev_stp pg_268_847 rfl
theorem pg_268_848 : mm_prog 268 848 = some (0, .iload_n 3, 849, []) := by decide +kernel
theorem xe_268_848 (a0 a1 a2 : Option MV) (x : Int) (st : List MV) (μ : MM) (G : MG) : ev 268 848 [a0, a1, a2, some (vI x)] st μ G = ev 268 849 [a0, a1, a2, some (vI x)] (vI x :: st) μ G := ev_stp pg_268_848 rfl
theorem pg_268_849 : mm_prog 268 849 = some (0, .iconst 3, 850, []) := by decide +kernel
theorem xe_268_849 (a0 a1 a2 a3 : Option MV) (st : List MV) (μ : MM) (G : MG) : ev 268 849 [a0, a1, a2, a3] st μ G = ev 268 850 [a0, a1, a2, a3] (vI (3) :: st) μ G := ev_stp pg_268_849 rfl
theorem pg_268_850 : mm_prog 268 850 = some (0, .iadd, 851, []) := by decide +kernel
theorem xe_268_850 (a0 a1 a2 a3 : Option MV) (x y : Int) (st : List MV) (μ : MM) (G : MG) : ev 268 850 [a0, a1, a2, a3] (vI y :: vI x :: st) μ G = ev 268 851 [a0, a1, a2, a3] (vI (w32 (x + y)) :: st) μ G := ev_stp pg_268_850 rfl
theorem pg_268_851 : mm_prog 268 851 = some (0, .iaload, 852, []) := by decide +kernel
theorem xe_268_851 (a0 a1 a2 a3 : Option MV) (x y : Int) (st : List MV) (μ : MM) (G : MG) : ev 268 851 [a0, a1, a2, a3] (vI x :: vR y :: st) μ G = if gk G y = 100 ∧ 0 ≤ x ∧ x < gl G y then ev 268 852 [a0, a1, a2, a3] (vI (μ y x) :: st) μ G else none := ev_if pg_268_851 rfl
theorem pg_268_852 : mm_prog 268 852 = some (1, .invokevirtual 89, 855, [1, 208, 3, 11]) := by decide +kernel
theorem xe_268_852 (a0 a1 a2 a3 : Option MV) (x0 x1 x2 z r0 : Int) (μ : MM) (G : MG) : ev 268 852 [a0, a1, a2, a3] (vI x2 :: vI x1 :: vI x0 :: vR z :: [vI r0]) μ G = if gk G z = 11 ∧ 0 < z then (ev 208 0 [some (vR z), some (vI x0), some (vI x1), some (vI x2)] [] μ G).bind (fun q => ev 268 855 [a0, a1, a2, a3] (q.1.toList ++ [vI r0]) q.2.1 q.2.2) else none := ev_calV (as := [vR z, vI x0, vI x1, vI x2]) (r := [vI r0]) mx_208 pg_268_852 rfl rfl (Nat.le_of_ble_eq_true rfl) (Nat.le_of_ble_eq_true rfl)
theorem pg_268_855 : mm_prog 268 855 = some (0, .if_icmp .eq 423, 858, []) := by decide +kernel
theorem xe_268_855 (a0 a1 a2 a3 : Option MV) (x y : Int) (st : List MV) (μ : MM) (G : MG) : ev 268 855 [a0, a1, a2, a3] (vI y :: vI x :: st) μ G = if x = y then ev 268 1278 [a0, a1, a2, a3] st μ G else ev 268 858 [a0, a1, a2, a3] st μ G := ev_br (mm_cnd_eq x y) pg_268_855 rfl
theorem pg_268_858 : mm_prog 268 858 = some (0, .iconst 0, 859, []) := by decide +kernel
theorem xe_268_858 (a0 a1 a2 a3 : Option MV) (st : List MV) (μ : MM) (G : MG) : ev 268 858 [a0, a1, a2, a3] st μ G = ev 268 859 [a0, a1, a2, a3] (vI (0) :: st) μ G := ev_stp pg_268_858 rfl
theorem pg_268_859 : mm_prog 268 859 = some (2, .ireturn, 860, [1]) := by decide +kernel
theorem xe_268_859 (a0 a1 a2 a3 : Option MV) (x : Int) (μ : MM) (G : MG) : ev 268 859 [a0, a1, a2, a3] [vI x] μ G = if x = 0 ∨ x = 1 then some (some (vI x), μ, G) else none := ev_retB pg_268_859
theorem pg_268_860 : mm_prog 268 860 = some (0, .aload_n 1, 861, []) := by decide +kernel
theorem xe_268_860 (a0 a2 a3 : Option MV) (x : Int) (st : List MV) (μ : MM) (G : MG) : ev 268 860 [a0, some (vR x), a2, a3] st μ G = ev 268 861 [a0, some (vR x), a2, a3] (vR x :: st) μ G := ev_stp pg_268_860 rfl
theorem pg_268_861 : mm_prog 268 861 = some (0, .aload_n 0, 862, []) := by decide +kernel
theorem xe_268_861 (a1 a2 a3 : Option MV) (x : Int) (st : List MV) (μ : MM) (G : MG) : ev 268 861 [some (vR x), a1, a2, a3] st μ G = ev 268 862 [some (vR x), a1, a2, a3] (vR x :: st) μ G := ev_stp pg_268_861 rfl
theorem pg_268_862 : mm_prog 268 862 = some (0, .iload_n 3, 863, []) := by decide +kernel
theorem xe_268_862 (a0 a1 a2 : Option MV) (x : Int) (st : List MV) (μ : MM) (G : MG) : ev 268 862 [a0, a1, a2, some (vI x)] st μ G = ev 268 863 [a0, a1, a2, some (vI x)] (vI x :: st) μ G := ev_stp pg_268_862 rfl
theorem pg_268_863 : mm_prog 268 863 = some (0, .iconst 1, 864, []) := by decide +kernel
theorem xe_268_863 (a0 a1 a2 a3 : Option MV) (st : List MV) (μ : MM) (G : MG) : ev 268 863 [a0, a1, a2, a3] st μ G = ev 268 864 [a0, a1, a2, a3] (vI (1) :: st) μ G := ev_stp pg_268_863 rfl
theorem pg_268_864 : mm_prog 268 864 = some (0, .iadd, 865, []) := by decide +kernel
theorem xe_268_864 (a0 a1 a2 a3 : Option MV) (x y : Int) (st : List MV) (μ : MM) (G : MG) : ev 268 864 [a0, a1, a2, a3] (vI y :: vI x :: st) μ G = ev 268 865 [a0, a1, a2, a3] (vI (w32 (x + y)) :: st) μ G := ev_stp pg_268_864 rfl
theorem pg_268_865 : mm_prog 268 865 = some (0, .iaload, 866, []) := by decide +kernel
theorem xe_268_865 (a0 a1 a2 a3 : Option MV) (x y : Int) (st : List MV) (μ : MM) (G : MG) : ev 268 865 [a0, a1, a2, a3] (vI x :: vR y :: st) μ G = if gk G y = 100 ∧ 0 ≤ x ∧ x < gl G y then ev 268 866 [a0, a1, a2, a3] (vI (μ y x) :: st) μ G else none := ev_if pg_268_865 rfl
theorem pg_268_866 : mm_prog 268 866 = some (0, .aload_n 0, 867, []) := by decide +kernel
theorem xe_268_866 (a1 a2 a3 : Option MV) (x : Int) (st : List MV) (μ : MM) (G : MG) : ev 268 866 [some (vR x), a1, a2, a3] st μ G = ev 268 867 [some (vR x), a1, a2, a3] (vR x :: st) μ G := ev_stp pg_268_866 rfl
theorem pg_268_867 : mm_prog 268 867 = some (0, .iload_n 3, 868, []) := by decide +kernel
theorem xe_268_867 (a0 a1 a2 : Option MV) (x : Int) (st : List MV) (μ : MM) (G : MG) : ev 268 867 [a0, a1, a2, some (vI x)] st μ G = ev 268 868 [a0, a1, a2, some (vI x)] (vI x :: st) μ G := ev_stp pg_268_867 rfl
theorem pg_268_868 : mm_prog 268 868 = some (0, .iconst 2, 869, []) := by decide +kernel
theorem xe_268_868 (a0 a1 a2 a3 : Option MV) (st : List MV) (μ : MM) (G : MG) : ev 268 868 [a0, a1, a2, a3] st μ G = ev 268 869 [a0, a1, a2, a3] (vI (2) :: st) μ G := ev_stp pg_268_868 rfl
theorem pg_268_869 : mm_prog 268 869 = some (0, .iadd, 870, []) := by decide +kernel
theorem xe_268_869 (a0 a1 a2 a3 : Option MV) (x y : Int) (st : List MV) (μ : MM) (G : MG) : ev 268 869 [a0, a1, a2, a3] (vI y :: vI x :: st) μ G = ev 268 870 [a0, a1, a2, a3] (vI (w32 (x + y)) :: st) μ G := ev_stp pg_268_869 rfl
theorem pg_268_870 : mm_prog 268 870 = some (0, .iaload, 871, []) := by decide +kernel
theorem xe_268_870 (a0 a1 a2 a3 : Option MV) (x y : Int) (st : List MV) (μ : MM) (G : MG) : ev 268 870 [a0, a1, a2, a3] (vI x :: vR y :: st) μ G = if gk G y = 100 ∧ 0 ≤ x ∧ x < gl G y then ev 268 871 [a0, a1, a2, a3] (vI (μ y x) :: st) μ G else none := ev_if pg_268_870 rfl
theorem pg_268_871 : mm_prog 268 871 = some (1, .invokevirtual 90, 874, [1, 121, 2, 10]) := by decide +kernel
theorem xe_268_871 (a0 a1 a2 a3 : Option MV) (x0 x1 z : Int) (μ : MM) (G : MG) : ev 268 871 [a0, a1, a2, a3] (vI x1 :: vI x0 :: vR z :: []) μ G = if gk G z = 10 ∧ 0 < z then (ev 121 0 [some (vR z), some (vI x0), some (vI x1), none, none, none, none, none, none, none, none] [] μ G).bind (fun q => ev 268 874 [a0, a1, a2, a3] (q.1.toList ++ []) q.2.1 q.2.2) else none := ev_calV (as := [vR z, vI x0, vI x1]) (r := []) mx_121 pg_268_871 rfl rfl (Nat.le_of_ble_eq_true rfl) (Nat.le_of_ble_eq_true rfl)
theorem pg_268_874 : mm_prog 268 874 = some (0, .aload_n 2, 875, []) := by decide +kernel
theorem xe_268_874 (a0 a1 a3 : Option MV) (x : Int) (st : List MV) (μ : MM) (G : MG) : ev 268 874 [a0, a1, some (vR x), a3] st μ G = ev 268 875 [a0, a1, some (vR x), a3] (vR x :: st) μ G := ev_stp pg_268_874 rfl
theorem pg_268_875 : mm_prog 268 875 = some (0, .aload_n 0, 876, []) := by decide +kernel
theorem xe_268_875 (a1 a2 a3 : Option MV) (x : Int) (st : List MV) (μ : MM) (G : MG) : ev 268 875 [some (vR x), a1, a2, a3] st μ G = ev 268 876 [some (vR x), a1, a2, a3] (vR x :: st) μ G := ev_stp pg_268_875 rfl
theorem pg_268_876 : mm_prog 268 876 = some (0, .iload_n 3, 877, []) := by decide +kernel
theorem xe_268_876 (a0 a1 a2 : Option MV) (x : Int) (st : List MV) (μ : MM) (G : MG) : ev 268 876 [a0, a1, a2, some (vI x)] st μ G = ev 268 877 [a0, a1, a2, some (vI x)] (vI x :: st) μ G := ev_stp pg_268_876 rfl
theorem pg_268_877 : mm_prog 268 877 = some (0, .iconst 1, 878, []) := by decide +kernel
theorem xe_268_877 (a0 a1 a2 a3 : Option MV) (st : List MV) (μ : MM) (G : MG) : ev 268 877 [a0, a1, a2, a3] st μ G = ev 268 878 [a0, a1, a2, a3] (vI (1) :: st) μ G := ev_stp pg_268_877 rfl
theorem pg_268_878 : mm_prog 268 878 = some (0, .iadd, 879, []) := by decide +kernel
theorem xe_268_878 (a0 a1 a2 a3 : Option MV) (x y : Int) (st : List MV) (μ : MM) (G : MG) : ev 268 878 [a0, a1, a2, a3] (vI y :: vI x :: st) μ G = ev 268 879 [a0, a1, a2, a3] (vI (w32 (x + y)) :: st) μ G := ev_stp pg_268_878 rfl
theorem pg_268_879 : mm_prog 268 879 = some (0, .iaload, 880, []) := by decide +kernel
theorem xe_268_879 (a0 a1 a2 a3 : Option MV) (x y : Int) (st : List MV) (μ : MM) (G : MG) : ev 268 879 [a0, a1, a2, a3] (vI x :: vR y :: st) μ G = if gk G y = 100 ∧ 0 ≤ x ∧ x < gl G y then ev 268 880 [a0, a1, a2, a3] (vI (μ y x) :: st) μ G else none := ev_if pg_268_879 rfl
theorem pg_268_880 : mm_prog 268 880 = some (0, .aload_n 0, 881, []) := by decide +kernel
theorem xe_268_880 (a1 a2 a3 : Option MV) (x : Int) (st : List MV) (μ : MM) (G : MG) : ev 268 880 [some (vR x), a1, a2, a3] st μ G = ev 268 881 [some (vR x), a1, a2, a3] (vR x :: st) μ G := ev_stp pg_268_880 rfl
theorem pg_268_881 : mm_prog 268 881 = some (0, .iload_n 3, 882, []) := by decide +kernel
theorem xe_268_881 (a0 a1 a2 : Option MV) (x : Int) (st : List MV) (μ : MM) (G : MG) : ev 268 881 [a0, a1, a2, some (vI x)] st μ G = ev 268 882 [a0, a1, a2, some (vI x)] (vI x :: st) μ G := ev_stp pg_268_881 rfl
theorem pg_268_882 : mm_prog 268 882 = some (0, .iconst 2, 883, []) := by decide +kernel
theorem xe_268_882 (a0 a1 a2 a3 : Option MV) (st : List MV) (μ : MM) (G : MG) : ev 268 882 [a0, a1, a2, a3] st μ G = ev 268 883 [a0, a1, a2, a3] (vI (2) :: st) μ G := ev_stp pg_268_882 rfl
theorem pg_268_883 : mm_prog 268 883 = some (0, .iadd, 884, []) := by decide +kernel
theorem xe_268_883 (a0 a1 a2 a3 : Option MV) (x y : Int) (st : List MV) (μ : MM) (G : MG) : ev 268 883 [a0, a1, a2, a3] (vI y :: vI x :: st) μ G = ev 268 884 [a0, a1, a2, a3] (vI (w32 (x + y)) :: st) μ G := ev_stp pg_268_883 rfl
theorem pg_268_884 : mm_prog 268 884 = some (0, .iaload, 885, []) := by decide +kernel
theorem xe_268_884 (a0 a1 a2 a3 : Option MV) (x y : Int) (st : List MV) (μ : MM) (G : MG) : ev 268 884 [a0, a1, a2, a3] (vI x :: vR y :: st) μ G = if gk G y = 100 ∧ 0 ≤ x ∧ x < gl G y then ev 268 885 [a0, a1, a2, a3] (vI (μ y x) :: st) μ G else none := ev_if pg_268_884 rfl
theorem pg_268_885 : mm_prog 268 885 = some (1, .invokevirtual 93, 888, [1, 209, 2, 11]) := by decide +kernel
theorem xe_268_885 (a0 a1 a2 a3 : Option MV) (x0 x1 z r0 : Int) (μ : MM) (G : MG) : ev 268 885 [a0, a1, a2, a3] (vI x1 :: vI x0 :: vR z :: [vI r0]) μ G = if gk G z = 11 ∧ 0 < z then (ev 209 0 [some (vR z), some (vI x0), some (vI x1), none, none, none, none, none] [] μ G).bind (fun q => ev 268 888 [a0, a1, a2, a3] (q.1.toList ++ [vI r0]) q.2.1 q.2.2) else none := ev_calV (as := [vR z, vI x0, vI x1]) (r := [vI r0]) mx_209 pg_268_885 rfl rfl (Nat.le_of_ble_eq_true rfl) (Nat.le_of_ble_eq_true rfl)
theorem pg_268_888 : mm_prog 268 888 = some (0, .if_icmp .eq 390, 891, []) := by decide +kernel
theorem xe_268_888 (a0 a1 a2 a3 : Option MV) (x y : Int) (st : List MV) (μ : MM) (G : MG) : ev 268 888 [a0, a1, a2, a3] (vI y :: vI x :: st) μ G = if x = y then ev 268 1278 [a0, a1, a2, a3] st μ G else ev 268 891 [a0, a1, a2, a3] st μ G := ev_br (mm_cnd_eq x y) pg_268_888 rfl
theorem pg_268_891 : mm_prog 268 891 = some (0, .iconst 0, 892, []) := by decide +kernel
theorem xe_268_891 (a0 a1 a2 a3 : Option MV) (st : List MV) (μ : MM) (G : MG) : ev 268 891 [a0, a1, a2, a3] st μ G = ev 268 892 [a0, a1, a2, a3] (vI (0) :: st) μ G := ev_stp pg_268_891 rfl
theorem pg_268_892 : mm_prog 268 892 = some (2, .ireturn, 893, [1]) := by decide +kernel
theorem xe_268_892 (a0 a1 a2 a3 : Option MV) (x : Int) (μ : MM) (G : MG) : ev 268 892 [a0, a1, a2, a3] [vI x] μ G = if x = 0 ∨ x = 1 then some (some (vI x), μ, G) else none := ev_retB pg_268_892
theorem pg_268_893 : mm_prog 268 893 = some (0, .aload_n 1, 894, []) := by decide +kernel
theorem xe_268_893 (a0 a2 a3 : Option MV) (x : Int) (st : List MV) (μ : MM) (G : MG) : ev 268 893 [a0, some (vR x), a2, a3] st μ G = ev 268 894 [a0, some (vR x), a2, a3] (vR x :: st) μ G := ev_stp pg_268_893 rfl
theorem pg_268_894 : mm_prog 268 894 = some (0, .aload_n 0, 895, []) := by decide +kernel
theorem xe_268_894 (a1 a2 a3 : Option MV) (x : Int) (st : List MV) (μ : MM) (G : MG) : ev 268 894 [some (vR x), a1, a2, a3] st μ G = ev 268 895 [some (vR x), a1, a2, a3] (vR x :: st) μ G := ev_stp pg_268_894 rfl
theorem pg_268_895 : mm_prog 268 895 = some (0, .iload_n 3, 896, []) := by decide +kernel
theorem xe_268_895 (a0 a1 a2 : Option MV) (x : Int) (st : List MV) (μ : MM) (G : MG) : ev 268 895 [a0, a1, a2, some (vI x)] st μ G = ev 268 896 [a0, a1, a2, some (vI x)] (vI x :: st) μ G := ev_stp pg_268_895 rfl
theorem pg_268_896 : mm_prog 268 896 = some (0, .iconst 1, 897, []) := by decide +kernel
theorem xe_268_896 (a0 a1 a2 a3 : Option MV) (st : List MV) (μ : MM) (G : MG) : ev 268 896 [a0, a1, a2, a3] st μ G = ev 268 897 [a0, a1, a2, a3] (vI (1) :: st) μ G := ev_stp pg_268_896 rfl
theorem pg_268_897 : mm_prog 268 897 = some (0, .iadd, 898, []) := by decide +kernel
theorem xe_268_897 (a0 a1 a2 a3 : Option MV) (x y : Int) (st : List MV) (μ : MM) (G : MG) : ev 268 897 [a0, a1, a2, a3] (vI y :: vI x :: st) μ G = ev 268 898 [a0, a1, a2, a3] (vI (w32 (x + y)) :: st) μ G := ev_stp pg_268_897 rfl
theorem pg_268_898 : mm_prog 268 898 = some (0, .iaload, 899, []) := by decide +kernel
theorem xe_268_898 (a0 a1 a2 a3 : Option MV) (x y : Int) (st : List MV) (μ : MM) (G : MG) : ev 268 898 [a0, a1, a2, a3] (vI x :: vR y :: st) μ G = if gk G y = 100 ∧ 0 ≤ x ∧ x < gl G y then ev 268 899 [a0, a1, a2, a3] (vI (μ y x) :: st) μ G else none := ev_if pg_268_898 rfl
theorem pg_268_899 : mm_prog 268 899 = some (0, .aload_n 0, 900, []) := by decide +kernel
theorem xe_268_899 (a1 a2 a3 : Option MV) (x : Int) (st : List MV) (μ : MM) (G : MG) : ev 268 899 [some (vR x), a1, a2, a3] st μ G = ev 268 900 [some (vR x), a1, a2, a3] (vR x :: st) μ G := ev_stp pg_268_899 rfl
theorem pg_268_900 : mm_prog 268 900 = some (0, .iload_n 3, 901, []) := by decide +kernel
theorem xe_268_900 (a0 a1 a2 : Option MV) (x : Int) (st : List MV) (μ : MM) (G : MG) : ev 268 900 [a0, a1, a2, some (vI x)] st μ G = ev 268 901 [a0, a1, a2, some (vI x)] (vI x :: st) μ G := ev_stp pg_268_900 rfl
theorem pg_268_901 : mm_prog 268 901 = some (0, .iconst 2, 902, []) := by decide +kernel
theorem xe_268_901 (a0 a1 a2 a3 : Option MV) (st : List MV) (μ : MM) (G : MG) : ev 268 901 [a0, a1, a2, a3] st μ G = ev 268 902 [a0, a1, a2, a3] (vI (2) :: st) μ G := ev_stp pg_268_901 rfl
theorem pg_268_902 : mm_prog 268 902 = some (0, .iadd, 903, []) := by decide +kernel
theorem xe_268_902 (a0 a1 a2 a3 : Option MV) (x y : Int) (st : List MV) (μ : MM) (G : MG) : ev 268 902 [a0, a1, a2, a3] (vI y :: vI x :: st) μ G = ev 268 903 [a0, a1, a2, a3] (vI (w32 (x + y)) :: st) μ G := ev_stp pg_268_902 rfl
theorem pg_268_903 : mm_prog 268 903 = some (0, .iaload, 904, []) := by decide +kernel
theorem xe_268_903 (a0 a1 a2 a3 : Option MV) (x y : Int) (st : List MV) (μ : MM) (G : MG) : ev 268 903 [a0, a1, a2, a3] (vI x :: vR y :: st) μ G = if gk G y = 100 ∧ 0 ≤ x ∧ x < gl G y then ev 268 904 [a0, a1, a2, a3] (vI (μ y x) :: st) μ G else none := ev_if pg_268_903 rfl
theorem pg_268_904 : mm_prog 268 904 = some (0, .aload_n 0, 905, []) := by decide +kernel
theorem xe_268_904 (a1 a2 a3 : Option MV) (x : Int) (st : List MV) (μ : MM) (G : MG) : ev 268 904 [some (vR x), a1, a2, a3] st μ G = ev 268 905 [some (vR x), a1, a2, a3] (vR x :: st) μ G := ev_stp pg_268_904 rfl
theorem pg_268_905 : mm_prog 268 905 = some (0, .iload_n 3, 906, []) := by decide +kernel
theorem xe_268_905 (a0 a1 a2 : Option MV) (x : Int) (st : List MV) (μ : MM) (G : MG) : ev 268 905 [a0, a1, a2, some (vI x)] st μ G = ev 268 906 [a0, a1, a2, some (vI x)] (vI x :: st) μ G := ev_stp pg_268_905 rfl
theorem pg_268_906 : mm_prog 268 906 = some (0, .iconst 3, 907, []) := by decide +kernel
theorem xe_268_906 (a0 a1 a2 a3 : Option MV) (st : List MV) (μ : MM) (G : MG) : ev 268 906 [a0, a1, a2, a3] st μ G = ev 268 907 [a0, a1, a2, a3] (vI (3) :: st) μ G := ev_stp pg_268_906 rfl
theorem pg_268_907 : mm_prog 268 907 = some (0, .iadd, 908, []) := by decide +kernel
theorem xe_268_907 (a0 a1 a2 a3 : Option MV) (x y : Int) (st : List MV) (μ : MM) (G : MG) : ev 268 907 [a0, a1, a2, a3] (vI y :: vI x :: st) μ G = ev 268 908 [a0, a1, a2, a3] (vI (w32 (x + y)) :: st) μ G := ev_stp pg_268_907 rfl
theorem pg_268_908 : mm_prog 268 908 = some (0, .iaload, 909, []) := by decide +kernel
theorem xe_268_908 (a0 a1 a2 a3 : Option MV) (x y : Int) (st : List MV) (μ : MM) (G : MG) : ev 268 908 [a0, a1, a2, a3] (vI x :: vR y :: st) μ G = if gk G y = 100 ∧ 0 ≤ x ∧ x < gl G y then ev 268 909 [a0, a1, a2, a3] (vI (μ y x) :: st) μ G else none := ev_if pg_268_908 rfl
theorem pg_268_909 : mm_prog 268 909 = some (1, .invokevirtual 94, 912, [1, 128, 3, 10]) := by decide +kernel
theorem xe_268_909 (a0 a1 a2 a3 : Option MV) (x0 x1 x2 z : Int) (μ : MM) (G : MG) : ev 268 909 [a0, a1, a2, a3] (vI x2 :: vI x1 :: vI x0 :: vR z :: []) μ G = if gk G z = 10 ∧ 0 < z then (ev 128 0 [some (vR z), some (vI x0), some (vI x1), some (vI x2), none] [] μ G).bind (fun q => ev 268 912 [a0, a1, a2, a3] (q.1.toList ++ []) q.2.1 q.2.2) else none := ev_calV (as := [vR z, vI x0, vI x1, vI x2]) (r := []) mx_128 pg_268_909 rfl rfl (Nat.le_of_ble_eq_true rfl) (Nat.le_of_ble_eq_true rfl)
theorem pg_268_912 : mm_prog 268 912 = some (0, .aload_n 2, 913, []) := by decide +kernel
theorem xe_268_912 (a0 a1 a3 : Option MV) (x : Int) (st : List MV) (μ : MM) (G : MG) : ev 268 912 [a0, a1, some (vR x), a3] st μ G = ev 268 913 [a0, a1, some (vR x), a3] (vR x :: st) μ G := ev_stp pg_268_912 rfl
theorem pg_268_913 : mm_prog 268 913 = some (0, .aload_n 0, 914, []) := by decide +kernel
theorem xe_268_913 (a1 a2 a3 : Option MV) (x : Int) (st : List MV) (μ : MM) (G : MG) : ev 268 913 [some (vR x), a1, a2, a3] st μ G = ev 268 914 [some (vR x), a1, a2, a3] (vR x :: st) μ G := ev_stp pg_268_913 rfl
theorem pg_268_914 : mm_prog 268 914 = some (0, .iload_n 3, 915, []) := by decide +kernel
theorem xe_268_914 (a0 a1 a2 : Option MV) (x : Int) (st : List MV) (μ : MM) (G : MG) : ev 268 914 [a0, a1, a2, some (vI x)] st μ G = ev 268 915 [a0, a1, a2, some (vI x)] (vI x :: st) μ G := ev_stp pg_268_914 rfl
theorem pg_268_915 : mm_prog 268 915 = some (0, .iconst 1, 916, []) := by decide +kernel
theorem xe_268_915 (a0 a1 a2 a3 : Option MV) (st : List MV) (μ : MM) (G : MG) : ev 268 915 [a0, a1, a2, a3] st μ G = ev 268 916 [a0, a1, a2, a3] (vI (1) :: st) μ G := ev_stp pg_268_915 rfl
theorem pg_268_916 : mm_prog 268 916 = some (0, .iadd, 917, []) := by decide +kernel
theorem xe_268_916 (a0 a1 a2 a3 : Option MV) (x y : Int) (st : List MV) (μ : MM) (G : MG) : ev 268 916 [a0, a1, a2, a3] (vI y :: vI x :: st) μ G = ev 268 917 [a0, a1, a2, a3] (vI (w32 (x + y)) :: st) μ G := ev_stp pg_268_916 rfl
theorem pg_268_917 : mm_prog 268 917 = some (0, .iaload, 918, []) := by decide +kernel
theorem xe_268_917 (a0 a1 a2 a3 : Option MV) (x y : Int) (st : List MV) (μ : MM) (G : MG) : ev 268 917 [a0, a1, a2, a3] (vI x :: vR y :: st) μ G = if gk G y = 100 ∧ 0 ≤ x ∧ x < gl G y then ev 268 918 [a0, a1, a2, a3] (vI (μ y x) :: st) μ G else none := ev_if pg_268_917 rfl
theorem pg_268_918 : mm_prog 268 918 = some (0, .aload_n 0, 919, []) := by decide +kernel
theorem xe_268_918 (a1 a2 a3 : Option MV) (x : Int) (st : List MV) (μ : MM) (G : MG) : ev 268 918 [some (vR x), a1, a2, a3] st μ G = ev 268 919 [some (vR x), a1, a2, a3] (vR x :: st) μ G := ev_stp pg_268_918 rfl
theorem pg_268_919 : mm_prog 268 919 = some (0, .iload_n 3, 920, []) := by decide +kernel
theorem xe_268_919 (a0 a1 a2 : Option MV) (x : Int) (st : List MV) (μ : MM) (G : MG) : ev 268 919 [a0, a1, a2, some (vI x)] st μ G = ev 268 920 [a0, a1, a2, some (vI x)] (vI x :: st) μ G := ev_stp pg_268_919 rfl
theorem pg_268_920 : mm_prog 268 920 = some (0, .iconst 2, 921, []) := by decide +kernel
theorem xe_268_920 (a0 a1 a2 a3 : Option MV) (st : List MV) (μ : MM) (G : MG) : ev 268 920 [a0, a1, a2, a3] st μ G = ev 268 921 [a0, a1, a2, a3] (vI (2) :: st) μ G := ev_stp pg_268_920 rfl
theorem pg_268_921 : mm_prog 268 921 = some (0, .iadd, 922, []) := by decide +kernel
theorem xe_268_921 (a0 a1 a2 a3 : Option MV) (x y : Int) (st : List MV) (μ : MM) (G : MG) : ev 268 921 [a0, a1, a2, a3] (vI y :: vI x :: st) μ G = ev 268 922 [a0, a1, a2, a3] (vI (w32 (x + y)) :: st) μ G := ev_stp pg_268_921 rfl
theorem pg_268_922 : mm_prog 268 922 = some (0, .iaload, 923, []) := by decide +kernel
theorem xe_268_922 (a0 a1 a2 a3 : Option MV) (x y : Int) (st : List MV) (μ : MM) (G : MG) : ev 268 922 [a0, a1, a2, a3] (vI x :: vR y :: st) μ G = if gk G y = 100 ∧ 0 ≤ x ∧ x < gl G y then ev 268 923 [a0, a1, a2, a3] (vI (μ y x) :: st) μ G else none := ev_if pg_268_922 rfl
theorem pg_268_923 : mm_prog 268 923 = some (0, .aload_n 0, 924, []) := by decide +kernel
theorem xe_268_923 (a1 a2 a3 : Option MV) (x : Int) (st : List MV) (μ : MM) (G : MG) : ev 268 923 [some (vR x), a1, a2, a3] st μ G = ev 268 924 [some (vR x), a1, a2, a3] (vR x :: st) μ G := ev_stp pg_268_923 rfl
theorem pg_268_924 : mm_prog 268 924 = some (0, .iload_n 3, 925, []) := by decide +kernel
theorem xe_268_924 (a0 a1 a2 : Option MV) (x : Int) (st : List MV) (μ : MM) (G : MG) : ev 268 924 [a0, a1, a2, some (vI x)] st μ G = ev 268 925 [a0, a1, a2, some (vI x)] (vI x :: st) μ G := ev_stp pg_268_924 rfl
theorem pg_268_925 : mm_prog 268 925 = some (0, .iconst 3, 926, []) := by decide +kernel
theorem xe_268_925 (a0 a1 a2 a3 : Option MV) (st : List MV) (μ : MM) (G : MG) : ev 268 925 [a0, a1, a2, a3] st μ G = ev 268 926 [a0, a1, a2, a3] (vI (3) :: st) μ G := ev_stp pg_268_925 rfl
theorem pg_268_926 : mm_prog 268 926 = some (0, .iadd, 927, []) := by decide +kernel
theorem xe_268_926 (a0 a1 a2 a3 : Option MV) (x y : Int) (st : List MV) (μ : MM) (G : MG) : ev 268 926 [a0, a1, a2, a3] (vI y :: vI x :: st) μ G = ev 268 927 [a0, a1, a2, a3] (vI (w32 (x + y)) :: st) μ G := ev_stp pg_268_926 rfl
theorem pg_268_927 : mm_prog 268 927 = some (0, .iaload, 928, []) := by decide +kernel
theorem xe_268_927 (a0 a1 a2 a3 : Option MV) (x y : Int) (st : List MV) (μ : MM) (G : MG) : ev 268 927 [a0, a1, a2, a3] (vI x :: vR y :: st) μ G = if gk G y = 100 ∧ 0 ≤ x ∧ x < gl G y then ev 268 928 [a0, a1, a2, a3] (vI (μ y x) :: st) μ G else none := ev_if pg_268_927 rfl
theorem pg_268_928 : mm_prog 268 928 = some (1, .invokevirtual 97, 931, [1, 213, 3, 11]) := by decide +kernel
theorem xe_268_928 (a0 a1 a2 a3 : Option MV) (x0 x1 x2 z r0 : Int) (μ : MM) (G : MG) : ev 268 928 [a0, a1, a2, a3] (vI x2 :: vI x1 :: vI x0 :: vR z :: [vI r0]) μ G = if gk G z = 11 ∧ 0 < z then (ev 213 0 [some (vR z), some (vI x0), some (vI x1), some (vI x2), none] [] μ G).bind (fun q => ev 268 931 [a0, a1, a2, a3] (q.1.toList ++ [vI r0]) q.2.1 q.2.2) else none := ev_calV (as := [vR z, vI x0, vI x1, vI x2]) (r := [vI r0]) mx_213 pg_268_928 rfl rfl (Nat.le_of_ble_eq_true rfl) (Nat.le_of_ble_eq_true rfl)
theorem pg_268_931 : mm_prog 268 931 = some (0, .if_icmp .eq 347, 934, []) := by decide +kernel
theorem xe_268_931 (a0 a1 a2 a3 : Option MV) (x y : Int) (st : List MV) (μ : MM) (G : MG) : ev 268 931 [a0, a1, a2, a3] (vI y :: vI x :: st) μ G = if x = y then ev 268 1278 [a0, a1, a2, a3] st μ G else ev 268 934 [a0, a1, a2, a3] st μ G := ev_br (mm_cnd_eq x y) pg_268_931 rfl
theorem pg_268_934 : mm_prog 268 934 = some (0, .iconst 0, 935, []) := by decide +kernel
theorem xe_268_934 (a0 a1 a2 a3 : Option MV) (st : List MV) (μ : MM) (G : MG) : ev 268 934 [a0, a1, a2, a3] st μ G = ev 268 935 [a0, a1, a2, a3] (vI (0) :: st) μ G := ev_stp pg_268_934 rfl
theorem pg_268_935 : mm_prog 268 935 = some (2, .ireturn, 936, [1]) := by decide +kernel
theorem xe_268_935 (a0 a1 a2 a3 : Option MV) (x : Int) (μ : MM) (G : MG) : ev 268 935 [a0, a1, a2, a3] [vI x] μ G = if x = 0 ∨ x = 1 then some (some (vI x), μ, G) else none := ev_retB pg_268_935
theorem pg_268_936 : mm_prog 268 936 = some (0, .aload_n 1, 937, []) := by decide +kernel
theorem xe_268_936 (a0 a2 a3 : Option MV) (x : Int) (st : List MV) (μ : MM) (G : MG) : ev 268 936 [a0, some (vR x), a2, a3] st μ G = ev 268 937 [a0, some (vR x), a2, a3] (vR x :: st) μ G := ev_stp pg_268_936 rfl
theorem pg_268_937 : mm_prog 268 937 = some (0, .aload_n 0, 938, []) := by decide +kernel
theorem xe_268_937 (a1 a2 a3 : Option MV) (x : Int) (st : List MV) (μ : MM) (G : MG) : ev 268 937 [some (vR x), a1, a2, a3] st μ G = ev 268 938 [some (vR x), a1, a2, a3] (vR x :: st) μ G := ev_stp pg_268_937 rfl
theorem pg_268_938 : mm_prog 268 938 = some (0, .iload_n 3, 939, []) := by decide +kernel
theorem xe_268_938 (a0 a1 a2 : Option MV) (x : Int) (st : List MV) (μ : MM) (G : MG) : ev 268 938 [a0, a1, a2, some (vI x)] st μ G = ev 268 939 [a0, a1, a2, some (vI x)] (vI x :: st) μ G := ev_stp pg_268_938 rfl
theorem pg_268_939 : mm_prog 268 939 = some (0, .iconst 1, 940, []) := by decide +kernel
theorem xe_268_939 (a0 a1 a2 a3 : Option MV) (st : List MV) (μ : MM) (G : MG) : ev 268 939 [a0, a1, a2, a3] st μ G = ev 268 940 [a0, a1, a2, a3] (vI (1) :: st) μ G := ev_stp pg_268_939 rfl
theorem pg_268_940 : mm_prog 268 940 = some (0, .iadd, 941, []) := by decide +kernel
theorem xe_268_940 (a0 a1 a2 a3 : Option MV) (x y : Int) (st : List MV) (μ : MM) (G : MG) : ev 268 940 [a0, a1, a2, a3] (vI y :: vI x :: st) μ G = ev 268 941 [a0, a1, a2, a3] (vI (w32 (x + y)) :: st) μ G := ev_stp pg_268_940 rfl
theorem pg_268_941 : mm_prog 268 941 = some (0, .iaload, 942, []) := by decide +kernel
theorem xe_268_941 (a0 a1 a2 a3 : Option MV) (x y : Int) (st : List MV) (μ : MM) (G : MG) : ev 268 941 [a0, a1, a2, a3] (vI x :: vR y :: st) μ G = if gk G y = 100 ∧ 0 ≤ x ∧ x < gl G y then ev 268 942 [a0, a1, a2, a3] (vI (μ y x) :: st) μ G else none := ev_if pg_268_941 rfl
theorem pg_268_942 : mm_prog 268 942 = some (0, .aload_n 0, 943, []) := by decide +kernel
theorem xe_268_942 (a1 a2 a3 : Option MV) (x : Int) (st : List MV) (μ : MM) (G : MG) : ev 268 942 [some (vR x), a1, a2, a3] st μ G = ev 268 943 [some (vR x), a1, a2, a3] (vR x :: st) μ G := ev_stp pg_268_942 rfl
theorem pg_268_943 : mm_prog 268 943 = some (0, .iload_n 3, 944, []) := by decide +kernel
theorem xe_268_943 (a0 a1 a2 : Option MV) (x : Int) (st : List MV) (μ : MM) (G : MG) : ev 268 943 [a0, a1, a2, some (vI x)] st μ G = ev 268 944 [a0, a1, a2, some (vI x)] (vI x :: st) μ G := ev_stp pg_268_943 rfl
theorem pg_268_944 : mm_prog 268 944 = some (0, .iconst 2, 945, []) := by decide +kernel
theorem xe_268_944 (a0 a1 a2 a3 : Option MV) (st : List MV) (μ : MM) (G : MG) : ev 268 944 [a0, a1, a2, a3] st μ G = ev 268 945 [a0, a1, a2, a3] (vI (2) :: st) μ G := ev_stp pg_268_944 rfl
theorem pg_268_945 : mm_prog 268 945 = some (0, .iadd, 946, []) := by decide +kernel
theorem xe_268_945 (a0 a1 a2 a3 : Option MV) (x y : Int) (st : List MV) (μ : MM) (G : MG) : ev 268 945 [a0, a1, a2, a3] (vI y :: vI x :: st) μ G = ev 268 946 [a0, a1, a2, a3] (vI (w32 (x + y)) :: st) μ G := ev_stp pg_268_945 rfl
theorem pg_268_946 : mm_prog 268 946 = some (0, .iaload, 947, []) := by decide +kernel
theorem xe_268_946 (a0 a1 a2 a3 : Option MV) (x y : Int) (st : List MV) (μ : MM) (G : MG) : ev 268 946 [a0, a1, a2, a3] (vI x :: vR y :: st) μ G = if gk G y = 100 ∧ 0 ≤ x ∧ x < gl G y then ev 268 947 [a0, a1, a2, a3] (vI (μ y x) :: st) μ G else none := ev_if pg_268_946 rfl
theorem pg_268_947 : mm_prog 268 947 = some (1, .invokevirtual 98, 950, [1, 129, 2, 10]) := by decide +kernel
theorem xe_268_947 (a0 a1 a2 a3 : Option MV) (x0 x1 z : Int) (μ : MM) (G : MG) : ev 268 947 [a0, a1, a2, a3] (vI x1 :: vI x0 :: vR z :: []) μ G = if gk G z = 10 ∧ 0 < z then (ev 129 0 [some (vR z), some (vI x0), some (vI x1)] [] μ G).bind (fun q => ev 268 950 [a0, a1, a2, a3] (q.1.toList ++ []) q.2.1 q.2.2) else none := ev_calV (as := [vR z, vI x0, vI x1]) (r := []) mx_129 pg_268_947 rfl rfl (Nat.le_of_ble_eq_true rfl) (Nat.le_of_ble_eq_true rfl)
theorem pg_268_950 : mm_prog 268 950 = some (0, .aload_n 2, 951, []) := by decide +kernel
theorem xe_268_950 (a0 a1 a3 : Option MV) (x : Int) (st : List MV) (μ : MM) (G : MG) : ev 268 950 [a0, a1, some (vR x), a3] st μ G = ev 268 951 [a0, a1, some (vR x), a3] (vR x :: st) μ G := ev_stp pg_268_950 rfl
theorem pg_268_951 : mm_prog 268 951 = some (0, .aload_n 0, 952, []) := by decide +kernel
theorem xe_268_951 (a1 a2 a3 : Option MV) (x : Int) (st : List MV) (μ : MM) (G : MG) : ev 268 951 [some (vR x), a1, a2, a3] st μ G = ev 268 952 [some (vR x), a1, a2, a3] (vR x :: st) μ G := ev_stp pg_268_951 rfl
theorem pg_268_952 : mm_prog 268 952 = some (0, .iload_n 3, 953, []) := by decide +kernel
theorem xe_268_952 (a0 a1 a2 : Option MV) (x : Int) (st : List MV) (μ : MM) (G : MG) : ev 268 952 [a0, a1, a2, some (vI x)] st μ G = ev 268 953 [a0, a1, a2, some (vI x)] (vI x :: st) μ G := ev_stp pg_268_952 rfl
theorem pg_268_953 : mm_prog 268 953 = some (0, .iconst 1, 954, []) := by decide +kernel
theorem xe_268_953 (a0 a1 a2 a3 : Option MV) (st : List MV) (μ : MM) (G : MG) : ev 268 953 [a0, a1, a2, a3] st μ G = ev 268 954 [a0, a1, a2, a3] (vI (1) :: st) μ G := ev_stp pg_268_953 rfl
theorem pg_268_954 : mm_prog 268 954 = some (0, .iadd, 955, []) := by decide +kernel
theorem xe_268_954 (a0 a1 a2 a3 : Option MV) (x y : Int) (st : List MV) (μ : MM) (G : MG) : ev 268 954 [a0, a1, a2, a3] (vI y :: vI x :: st) μ G = ev 268 955 [a0, a1, a2, a3] (vI (w32 (x + y)) :: st) μ G := ev_stp pg_268_954 rfl
theorem pg_268_955 : mm_prog 268 955 = some (0, .iaload, 956, []) := by decide +kernel
theorem xe_268_955 (a0 a1 a2 a3 : Option MV) (x y : Int) (st : List MV) (μ : MM) (G : MG) : ev 268 955 [a0, a1, a2, a3] (vI x :: vR y :: st) μ G = if gk G y = 100 ∧ 0 ≤ x ∧ x < gl G y then ev 268 956 [a0, a1, a2, a3] (vI (μ y x) :: st) μ G else none := ev_if pg_268_955 rfl
theorem pg_268_956 : mm_prog 268 956 = some (0, .aload_n 0, 957, []) := by decide +kernel
theorem xe_268_956 (a1 a2 a3 : Option MV) (x : Int) (st : List MV) (μ : MM) (G : MG) : ev 268 956 [some (vR x), a1, a2, a3] st μ G = ev 268 957 [some (vR x), a1, a2, a3] (vR x :: st) μ G := ev_stp pg_268_956 rfl
theorem pg_268_957 : mm_prog 268 957 = some (0, .iload_n 3, 958, []) := by decide +kernel
theorem xe_268_957 (a0 a1 a2 : Option MV) (x : Int) (st : List MV) (μ : MM) (G : MG) : ev 268 957 [a0, a1, a2, some (vI x)] st μ G = ev 268 958 [a0, a1, a2, some (vI x)] (vI x :: st) μ G := ev_stp pg_268_957 rfl
theorem pg_268_958 : mm_prog 268 958 = some (0, .iconst 2, 959, []) := by decide +kernel
theorem xe_268_958 (a0 a1 a2 a3 : Option MV) (st : List MV) (μ : MM) (G : MG) : ev 268 958 [a0, a1, a2, a3] st μ G = ev 268 959 [a0, a1, a2, a3] (vI (2) :: st) μ G := ev_stp pg_268_958 rfl
theorem pg_268_959 : mm_prog 268 959 = some (0, .iadd, 960, []) := by decide +kernel
theorem xe_268_959 (a0 a1 a2 a3 : Option MV) (x y : Int) (st : List MV) (μ : MM) (G : MG) : ev 268 959 [a0, a1, a2, a3] (vI y :: vI x :: st) μ G = ev 268 960 [a0, a1, a2, a3] (vI (w32 (x + y)) :: st) μ G := ev_stp pg_268_959 rfl
theorem pg_268_960 : mm_prog 268 960 = some (0, .iaload, 961, []) := by decide +kernel
theorem xe_268_960 (a0 a1 a2 a3 : Option MV) (x y : Int) (st : List MV) (μ : MM) (G : MG) : ev 268 960 [a0, a1, a2, a3] (vI x :: vR y :: st) μ G = if gk G y = 100 ∧ 0 ≤ x ∧ x < gl G y then ev 268 961 [a0, a1, a2, a3] (vI (μ y x) :: st) μ G else none := ev_if pg_268_960 rfl
theorem pg_268_961 : mm_prog 268 961 = some (1, .invokevirtual 101, 964, [1, 214, 2, 11]) := by decide +kernel
theorem xe_268_961 (a0 a1 a2 a3 : Option MV) (x0 x1 z r0 : Int) (μ : MM) (G : MG) : ev 268 961 [a0, a1, a2, a3] (vI x1 :: vI x0 :: vR z :: [vI r0]) μ G = if gk G z = 11 ∧ 0 < z then (ev 214 0 [some (vR z), some (vI x0), some (vI x1)] [] μ G).bind (fun q => ev 268 964 [a0, a1, a2, a3] (q.1.toList ++ [vI r0]) q.2.1 q.2.2) else none := ev_calV (as := [vR z, vI x0, vI x1]) (r := [vI r0]) mx_214 pg_268_961 rfl rfl (Nat.le_of_ble_eq_true rfl) (Nat.le_of_ble_eq_true rfl)
theorem pg_268_964 : mm_prog 268 964 = some (0, .if_icmp .eq 314, 967, []) := by decide +kernel
theorem xe_268_964 (a0 a1 a2 a3 : Option MV) (x y : Int) (st : List MV) (μ : MM) (G : MG) : ev 268 964 [a0, a1, a2, a3] (vI y :: vI x :: st) μ G = if x = y then ev 268 1278 [a0, a1, a2, a3] st μ G else ev 268 967 [a0, a1, a2, a3] st μ G := ev_br (mm_cnd_eq x y) pg_268_964 rfl
theorem pg_268_967 : mm_prog 268 967 = some (0, .iconst 0, 968, []) := by decide +kernel
theorem xe_268_967 (a0 a1 a2 a3 : Option MV) (st : List MV) (μ : MM) (G : MG) : ev 268 967 [a0, a1, a2, a3] st μ G = ev 268 968 [a0, a1, a2, a3] (vI (0) :: st) μ G := ev_stp pg_268_967 rfl
theorem pg_268_968 : mm_prog 268 968 = some (2, .ireturn, 969, [1]) := by decide +kernel
theorem xe_268_968 (a0 a1 a2 a3 : Option MV) (x : Int) (μ : MM) (G : MG) : ev 268 968 [a0, a1, a2, a3] [vI x] μ G = if x = 0 ∨ x = 1 then some (some (vI x), μ, G) else none := ev_retB pg_268_968
theorem pg_268_969 : mm_prog 268 969 = some (0, .aload_n 1, 970, []) := by decide +kernel
theorem xe_268_969 (a0 a2 a3 : Option MV) (x : Int) (st : List MV) (μ : MM) (G : MG) : ev 268 969 [a0, some (vR x), a2, a3] st μ G = ev 268 970 [a0, some (vR x), a2, a3] (vR x :: st) μ G := ev_stp pg_268_969 rfl
theorem pg_268_970 : mm_prog 268 970 = some (1, .invokevirtual 102, 973, [1, 130, 0, 10]) := by decide +kernel
theorem xe_268_970 (a0 a1 a2 a3 : Option MV) (z : Int) (μ : MM) (G : MG) : ev 268 970 [a0, a1, a2, a3] (vR z :: []) μ G = if gk G z = 10 ∧ 0 < z then (ev 130 0 [some (vR z)] [] μ G).bind (fun q => ev 268 973 [a0, a1, a2, a3] (q.1.toList ++ []) q.2.1 q.2.2) else none := ev_calV (as := [vR z]) (r := []) mx_130 pg_268_970 rfl rfl (Nat.le_of_ble_eq_true rfl) (Nat.le_of_ble_eq_true rfl)
theorem pg_268_973 : mm_prog 268 973 = some (0, .aload_n 2, 974, []) := by decide +kernel
theorem xe_268_973 (a0 a1 a3 : Option MV) (x : Int) (st : List MV) (μ : MM) (G : MG) : ev 268 973 [a0, a1, some (vR x), a3] st μ G = ev 268 974 [a0, a1, some (vR x), a3] (vR x :: st) μ G := ev_stp pg_268_973 rfl
theorem pg_268_974 : mm_prog 268 974 = some (1, .invokevirtual 106, 977, [1, 217, 0, 11]) := by decide +kernel
theorem xe_268_974 (a0 a1 a2 a3 : Option MV) (z r0 : Int) (μ : MM) (G : MG) : ev 268 974 [a0, a1, a2, a3] (vR z :: [vI r0]) μ G = if gk G z = 11 ∧ 0 < z then (ev 217 0 [some (vR z)] [] μ G).bind (fun q => ev 268 977 [a0, a1, a2, a3] (q.1.toList ++ [vI r0]) q.2.1 q.2.2) else none := ev_calV (as := [vR z]) (r := [vI r0]) mx_217 pg_268_974 rfl rfl (Nat.le_of_ble_eq_true rfl) (Nat.le_of_ble_eq_true rfl)
theorem pg_268_977 : mm_prog 268 977 = some (0, .if_icmp .eq 301, 980, []) := by decide +kernel
theorem xe_268_977 (a0 a1 a2 a3 : Option MV) (x y : Int) (st : List MV) (μ : MM) (G : MG) : ev 268 977 [a0, a1, a2, a3] (vI y :: vI x :: st) μ G = if x = y then ev 268 1278 [a0, a1, a2, a3] st μ G else ev 268 980 [a0, a1, a2, a3] st μ G := ev_br (mm_cnd_eq x y) pg_268_977 rfl
theorem pg_268_980 : mm_prog 268 980 = some (0, .iconst 0, 981, []) := by decide +kernel
theorem xe_268_980 (a0 a1 a2 a3 : Option MV) (st : List MV) (μ : MM) (G : MG) : ev 268 980 [a0, a1, a2, a3] st μ G = ev 268 981 [a0, a1, a2, a3] (vI (0) :: st) μ G := ev_stp pg_268_980 rfl
theorem pg_268_981 : mm_prog 268 981 = some (2, .ireturn, 982, [1]) := by decide +kernel
theorem xe_268_981 (a0 a1 a2 a3 : Option MV) (x : Int) (μ : MM) (G : MG) : ev 268 981 [a0, a1, a2, a3] [vI x] μ G = if x = 0 ∨ x = 1 then some (some (vI x), μ, G) else none := ev_retB pg_268_981
theorem pg_268_982 : mm_prog 268 982 = some (0, .aload_n 1, 983, []) := by decide +kernel
theorem xe_268_982 (a0 a2 a3 : Option MV) (x : Int) (st : List MV) (μ : MM) (G : MG) : ev 268 982 [a0, some (vR x), a2, a3] st μ G = ev 268 983 [a0, some (vR x), a2, a3] (vR x :: st) μ G := ev_stp pg_268_982 rfl
theorem pg_268_983 : mm_prog 268 983 = some (0, .aload_n 0, 984, []) := by decide +kernel
theorem xe_268_983 (a1 a2 a3 : Option MV) (x : Int) (st : List MV) (μ : MM) (G : MG) : ev 268 983 [some (vR x), a1, a2, a3] st μ G = ev 268 984 [some (vR x), a1, a2, a3] (vR x :: st) μ G := ev_stp pg_268_983 rfl
theorem pg_268_984 : mm_prog 268 984 = some (0, .iload_n 3, 985, []) := by decide +kernel
theorem xe_268_984 (a0 a1 a2 : Option MV) (x : Int) (st : List MV) (μ : MM) (G : MG) : ev 268 984 [a0, a1, a2, some (vI x)] st μ G = ev 268 985 [a0, a1, a2, some (vI x)] (vI x :: st) μ G := ev_stp pg_268_984 rfl
theorem pg_268_985 : mm_prog 268 985 = some (0, .iconst 1, 986, []) := by decide +kernel
theorem xe_268_985 (a0 a1 a2 a3 : Option MV) (st : List MV) (μ : MM) (G : MG) : ev 268 985 [a0, a1, a2, a3] st μ G = ev 268 986 [a0, a1, a2, a3] (vI (1) :: st) μ G := ev_stp pg_268_985 rfl
theorem pg_268_986 : mm_prog 268 986 = some (0, .iadd, 987, []) := by decide +kernel
theorem xe_268_986 (a0 a1 a2 a3 : Option MV) (x y : Int) (st : List MV) (μ : MM) (G : MG) : ev 268 986 [a0, a1, a2, a3] (vI y :: vI x :: st) μ G = ev 268 987 [a0, a1, a2, a3] (vI (w32 (x + y)) :: st) μ G := ev_stp pg_268_986 rfl
theorem pg_268_987 : mm_prog 268 987 = some (0, .iaload, 988, []) := by decide +kernel
theorem xe_268_987 (a0 a1 a2 a3 : Option MV) (x y : Int) (st : List MV) (μ : MM) (G : MG) : ev 268 987 [a0, a1, a2, a3] (vI x :: vR y :: st) μ G = if gk G y = 100 ∧ 0 ≤ x ∧ x < gl G y then ev 268 988 [a0, a1, a2, a3] (vI (μ y x) :: st) μ G else none := ev_if pg_268_987 rfl
theorem pg_268_988 : mm_prog 268 988 = some (1, .invokevirtual 107, 991, [1, 131, 1, 10]) := by decide +kernel
theorem xe_268_988 (a0 a1 a2 a3 : Option MV) (x0 z : Int) (μ : MM) (G : MG) : ev 268 988 [a0, a1, a2, a3] (vI x0 :: vR z :: []) μ G = if gk G z = 10 ∧ 0 < z then (ev 131 0 [some (vR z), some (vI x0), none, none] [] μ G).bind (fun q => ev 268 991 [a0, a1, a2, a3] (q.1.toList ++ []) q.2.1 q.2.2) else none := ev_calV (as := [vR z, vI x0]) (r := []) mx_131 pg_268_988 rfl rfl (Nat.le_of_ble_eq_true rfl) (Nat.le_of_ble_eq_true rfl)
theorem pg_268_991 : mm_prog 268 991 = some (0, .aload_n 2, 992, []) := by decide +kernel
theorem xe_268_991 (a0 a1 a3 : Option MV) (x : Int) (st : List MV) (μ : MM) (G : MG) : ev 268 991 [a0, a1, some (vR x), a3] st μ G = ev 268 992 [a0, a1, some (vR x), a3] (vR x :: st) μ G := ev_stp pg_268_991 rfl
theorem pg_268_992 : mm_prog 268 992 = some (0, .aload_n 0, 993, []) := by decide +kernel
theorem xe_268_992 (a1 a2 a3 : Option MV) (x : Int) (st : List MV) (μ : MM) (G : MG) : ev 268 992 [some (vR x), a1, a2, a3] st μ G = ev 268 993 [some (vR x), a1, a2, a3] (vR x :: st) μ G := ev_stp pg_268_992 rfl
theorem pg_268_993 : mm_prog 268 993 = some (0, .iload_n 3, 994, []) := by decide +kernel
theorem xe_268_993 (a0 a1 a2 : Option MV) (x : Int) (st : List MV) (μ : MM) (G : MG) : ev 268 993 [a0, a1, a2, some (vI x)] st μ G = ev 268 994 [a0, a1, a2, some (vI x)] (vI x :: st) μ G := ev_stp pg_268_993 rfl
theorem pg_268_994 : mm_prog 268 994 = some (0, .iconst 1, 995, []) := by decide +kernel
theorem xe_268_994 (a0 a1 a2 a3 : Option MV) (st : List MV) (μ : MM) (G : MG) : ev 268 994 [a0, a1, a2, a3] st μ G = ev 268 995 [a0, a1, a2, a3] (vI (1) :: st) μ G := ev_stp pg_268_994 rfl
theorem pg_268_995 : mm_prog 268 995 = some (0, .iadd, 996, []) := by decide +kernel
theorem xe_268_995 (a0 a1 a2 a3 : Option MV) (x y : Int) (st : List MV) (μ : MM) (G : MG) : ev 268 995 [a0, a1, a2, a3] (vI y :: vI x :: st) μ G = ev 268 996 [a0, a1, a2, a3] (vI (w32 (x + y)) :: st) μ G := ev_stp pg_268_995 rfl
theorem pg_268_996 : mm_prog 268 996 = some (0, .iaload, 997, []) := by decide +kernel
theorem xe_268_996 (a0 a1 a2 a3 : Option MV) (x y : Int) (st : List MV) (μ : MM) (G : MG) : ev 268 996 [a0, a1, a2, a3] (vI x :: vR y :: st) μ G = if gk G y = 100 ∧ 0 ≤ x ∧ x < gl G y then ev 268 997 [a0, a1, a2, a3] (vI (μ y x) :: st) μ G else none := ev_if pg_268_996 rfl
theorem pg_268_997 : mm_prog 268 997 = some (1, .invokevirtual 110, 1000, [1, 227, 1, 11]) := by decide +kernel
theorem xe_268_997 (a0 a1 a2 a3 : Option MV) (x0 z r0 : Int) (μ : MM) (G : MG) : ev 268 997 [a0, a1, a2, a3] (vI x0 :: vR z :: [vI r0]) μ G = if gk G z = 11 ∧ 0 < z then (ev 227 0 [some (vR z), some (vI x0), none] [] μ G).bind (fun q => ev 268 1000 [a0, a1, a2, a3] (q.1.toList ++ [vI r0]) q.2.1 q.2.2) else none := ev_calV (as := [vR z, vI x0]) (r := [vI r0]) mx_227 pg_268_997 rfl rfl (Nat.le_of_ble_eq_true rfl) (Nat.le_of_ble_eq_true rfl)
theorem pg_268_1000 : mm_prog 268 1000 = some (0, .if_icmp .eq 278, 1003, []) := by decide +kernel
theorem xe_268_1000 (a0 a1 a2 a3 : Option MV) (x y : Int) (st : List MV) (μ : MM) (G : MG) : ev 268 1000 [a0, a1, a2, a3] (vI y :: vI x :: st) μ G = if x = y then ev 268 1278 [a0, a1, a2, a3] st μ G else ev 268 1003 [a0, a1, a2, a3] st μ G := ev_br (mm_cnd_eq x y) pg_268_1000 rfl
theorem pg_268_1003 : mm_prog 268 1003 = some (0, .iconst 0, 1004, []) := by decide +kernel
theorem xe_268_1003 (a0 a1 a2 a3 : Option MV) (st : List MV) (μ : MM) (G : MG) : ev 268 1003 [a0, a1, a2, a3] st μ G = ev 268 1004 [a0, a1, a2, a3] (vI (0) :: st) μ G := ev_stp pg_268_1003 rfl
theorem pg_268_1004 : mm_prog 268 1004 = some (2, .ireturn, 1005, [1]) := by decide +kernel
theorem xe_268_1004 (a0 a1 a2 a3 : Option MV) (x : Int) (μ : MM) (G : MG) : ev 268 1004 [a0, a1, a2, a3] [vI x] μ G = if x = 0 ∨ x = 1 then some (some (vI x), μ, G) else none := ev_retB pg_268_1004
theorem pg_268_1005 : mm_prog 268 1005 = some (0, .aload_n 1, 1006, []) := by decide +kernel
theorem xe_268_1005 (a0 a2 a3 : Option MV) (x : Int) (st : List MV) (μ : MM) (G : MG) : ev 268 1005 [a0, some (vR x), a2, a3] st μ G = ev 268 1006 [a0, some (vR x), a2, a3] (vR x :: st) μ G := ev_stp pg_268_1005 rfl
theorem pg_268_1006 : mm_prog 268 1006 = some (0, .aload_n 0, 1007, []) := by decide +kernel
theorem xe_268_1006 (a1 a2 a3 : Option MV) (x : Int) (st : List MV) (μ : MM) (G : MG) : ev 268 1006 [some (vR x), a1, a2, a3] st μ G = ev 268 1007 [some (vR x), a1, a2, a3] (vR x :: st) μ G := ev_stp pg_268_1006 rfl
theorem pg_268_1007 : mm_prog 268 1007 = some (0, .iload_n 3, 1008, []) := by decide +kernel
theorem xe_268_1007 (a0 a1 a2 : Option MV) (x : Int) (st : List MV) (μ : MM) (G : MG) : ev 268 1007 [a0, a1, a2, some (vI x)] st μ G = ev 268 1008 [a0, a1, a2, some (vI x)] (vI x :: st) μ G := ev_stp pg_268_1007 rfl
theorem pg_268_1008 : mm_prog 268 1008 = some (0, .iconst 1, 1009, []) := by decide +kernel
theorem xe_268_1008 (a0 a1 a2 a3 : Option MV) (st : List MV) (μ : MM) (G : MG) : ev 268 1008 [a0, a1, a2, a3] st μ G = ev 268 1009 [a0, a1, a2, a3] (vI (1) :: st) μ G := ev_stp pg_268_1008 rfl
theorem pg_268_1009 : mm_prog 268 1009 = some (0, .iadd, 1010, []) := by decide +kernel
theorem xe_268_1009 (a0 a1 a2 a3 : Option MV) (x y : Int) (st : List MV) (μ : MM) (G : MG) : ev 268 1009 [a0, a1, a2, a3] (vI y :: vI x :: st) μ G = ev 268 1010 [a0, a1, a2, a3] (vI (w32 (x + y)) :: st) μ G := ev_stp pg_268_1009 rfl
theorem pg_268_1010 : mm_prog 268 1010 = some (0, .iaload, 1011, []) := by decide +kernel
theorem xe_268_1010 (a0 a1 a2 a3 : Option MV) (x y : Int) (st : List MV) (μ : MM) (G : MG) : ev 268 1010 [a0, a1, a2, a3] (vI x :: vR y :: st) μ G = if gk G y = 100 ∧ 0 ≤ x ∧ x < gl G y then ev 268 1011 [a0, a1, a2, a3] (vI (μ y x) :: st) μ G else none := ev_if pg_268_1010 rfl
theorem pg_268_1011 : mm_prog 268 1011 = some (1, .invokevirtual 111, 1014, [1, 132, 1, 10]) := by decide +kernel
theorem xe_268_1011 (a0 a1 a2 a3 : Option MV) (x0 z : Int) (μ : MM) (G : MG) : ev 268 1011 [a0, a1, a2, a3] (vI x0 :: vR z :: []) μ G = if gk G z = 10 ∧ 0 < z then (ev 132 0 [some (vR z), some (vI x0)] [] μ G).bind (fun q => ev 268 1014 [a0, a1, a2, a3] (q.1.toList ++ []) q.2.1 q.2.2) else none := ev_calV (as := [vR z, vI x0]) (r := []) mx_132 pg_268_1011 rfl rfl (Nat.le_of_ble_eq_true rfl) (Nat.le_of_ble_eq_true rfl)
theorem pg_268_1014 : mm_prog 268 1014 = some (0, .aload_n 2, 1015, []) := by decide +kernel
theorem xe_268_1014 (a0 a1 a3 : Option MV) (x : Int) (st : List MV) (μ : MM) (G : MG) : ev 268 1014 [a0, a1, some (vR x), a3] st μ G = ev 268 1015 [a0, a1, some (vR x), a3] (vR x :: st) μ G := ev_stp pg_268_1014 rfl
theorem pg_268_1015 : mm_prog 268 1015 = some (0, .aload_n 0, 1016, []) := by decide +kernel
theorem xe_268_1015 (a1 a2 a3 : Option MV) (x : Int) (st : List MV) (μ : MM) (G : MG) : ev 268 1015 [some (vR x), a1, a2, a3] st μ G = ev 268 1016 [some (vR x), a1, a2, a3] (vR x :: st) μ G := ev_stp pg_268_1015 rfl
theorem pg_268_1016 : mm_prog 268 1016 = some (0, .iload_n 3, 1017, []) := by decide +kernel
theorem xe_268_1016 (a0 a1 a2 : Option MV) (x : Int) (st : List MV) (μ : MM) (G : MG) : ev 268 1016 [a0, a1, a2, some (vI x)] st μ G = ev 268 1017 [a0, a1, a2, some (vI x)] (vI x :: st) μ G := ev_stp pg_268_1016 rfl
theorem pg_268_1017 : mm_prog 268 1017 = some (0, .iconst 1, 1018, []) := by decide +kernel
theorem xe_268_1017 (a0 a1 a2 a3 : Option MV) (st : List MV) (μ : MM) (G : MG) : ev 268 1017 [a0, a1, a2, a3] st μ G = ev 268 1018 [a0, a1, a2, a3] (vI (1) :: st) μ G := ev_stp pg_268_1017 rfl
theorem pg_268_1018 : mm_prog 268 1018 = some (0, .iadd, 1019, []) := by decide +kernel
theorem xe_268_1018 (a0 a1 a2 a3 : Option MV) (x y : Int) (st : List MV) (μ : MM) (G : MG) : ev 268 1018 [a0, a1, a2, a3] (vI y :: vI x :: st) μ G = ev 268 1019 [a0, a1, a2, a3] (vI (w32 (x + y)) :: st) μ G := ev_stp pg_268_1018 rfl
theorem pg_268_1019 : mm_prog 268 1019 = some (0, .iaload, 1020, []) := by decide +kernel
theorem xe_268_1019 (a0 a1 a2 a3 : Option MV) (x y : Int) (st : List MV) (μ : MM) (G : MG) : ev 268 1019 [a0, a1, a2, a3] (vI x :: vR y :: st) μ G = if gk G y = 100 ∧ 0 ≤ x ∧ x < gl G y then ev 268 1020 [a0, a1, a2, a3] (vI (μ y x) :: st) μ G else none := ev_if pg_268_1019 rfl
theorem pg_268_1020 : mm_prog 268 1020 = some (1, .invokevirtual 114, 1023, [1, 229, 1, 11]) := by decide +kernel
theorem xe_268_1020 (a0 a1 a2 a3 : Option MV) (x0 z r0 : Int) (μ : MM) (G : MG) : ev 268 1020 [a0, a1, a2, a3] (vI x0 :: vR z :: [vI r0]) μ G = if gk G z = 11 ∧ 0 < z then (ev 229 0 [some (vR z), some (vI x0)] [] μ G).bind (fun q => ev 268 1023 [a0, a1, a2, a3] (q.1.toList ++ [vI r0]) q.2.1 q.2.2) else none := ev_calV (as := [vR z, vI x0]) (r := [vI r0]) mx_229 pg_268_1020 rfl rfl (Nat.le_of_ble_eq_true rfl) (Nat.le_of_ble_eq_true rfl)
theorem pg_268_1023 : mm_prog 268 1023 = some (0, .if_icmp .eq 255, 1026, []) := by decide +kernel
theorem xe_268_1023 (a0 a1 a2 a3 : Option MV) (x y : Int) (st : List MV) (μ : MM) (G : MG) : ev 268 1023 [a0, a1, a2, a3] (vI y :: vI x :: st) μ G = if x = y then ev 268 1278 [a0, a1, a2, a3] st μ G else ev 268 1026 [a0, a1, a2, a3] st μ G := ev_br (mm_cnd_eq x y) pg_268_1023 rfl
theorem pg_268_1026 : mm_prog 268 1026 = some (0, .iconst 0, 1027, []) := by decide +kernel
theorem xe_268_1026 (a0 a1 a2 a3 : Option MV) (st : List MV) (μ : MM) (G : MG) : ev 268 1026 [a0, a1, a2, a3] st μ G = ev 268 1027 [a0, a1, a2, a3] (vI (0) :: st) μ G := ev_stp pg_268_1026 rfl
theorem pg_268_1027 : mm_prog 268 1027 = some (2, .ireturn, 1028, [1]) := by decide +kernel
theorem xe_268_1027 (a0 a1 a2 a3 : Option MV) (x : Int) (μ : MM) (G : MG) : ev 268 1027 [a0, a1, a2, a3] [vI x] μ G = if x = 0 ∨ x = 1 then some (some (vI x), μ, G) else none := ev_retB pg_268_1027
theorem pg_268_1028 : mm_prog 268 1028 = some (0, .aload_n 1, 1029, []) := by decide +kernel
theorem xe_268_1028 (a0 a2 a3 : Option MV) (x : Int) (st : List MV) (μ : MM) (G : MG) : ev 268 1028 [a0, some (vR x), a2, a3] st μ G = ev 268 1029 [a0, some (vR x), a2, a3] (vR x :: st) μ G := ev_stp pg_268_1028 rfl
theorem pg_268_1029 : mm_prog 268 1029 = some (0, .aload_n 0, 1030, []) := by decide +kernel
theorem xe_268_1029 (a1 a2 a3 : Option MV) (x : Int) (st : List MV) (μ : MM) (G : MG) : ev 268 1029 [some (vR x), a1, a2, a3] st μ G = ev 268 1030 [some (vR x), a1, a2, a3] (vR x :: st) μ G := ev_stp pg_268_1029 rfl
theorem pg_268_1030 : mm_prog 268 1030 = some (0, .iload_n 3, 1031, []) := by decide +kernel
theorem xe_268_1030 (a0 a1 a2 : Option MV) (x : Int) (st : List MV) (μ : MM) (G : MG) : ev 268 1030 [a0, a1, a2, some (vI x)] st μ G = ev 268 1031 [a0, a1, a2, some (vI x)] (vI x :: st) μ G := ev_stp pg_268_1030 rfl
theorem pg_268_1031 : mm_prog 268 1031 = some (0, .iconst 1, 1032, []) := by decide +kernel
theorem xe_268_1031 (a0 a1 a2 a3 : Option MV) (st : List MV) (μ : MM) (G : MG) : ev 268 1031 [a0, a1, a2, a3] st μ G = ev 268 1032 [a0, a1, a2, a3] (vI (1) :: st) μ G := ev_stp pg_268_1031 rfl
theorem pg_268_1032 : mm_prog 268 1032 = some (0, .iadd, 1033, []) := by decide +kernel
theorem xe_268_1032 (a0 a1 a2 a3 : Option MV) (x y : Int) (st : List MV) (μ : MM) (G : MG) : ev 268 1032 [a0, a1, a2, a3] (vI y :: vI x :: st) μ G = ev 268 1033 [a0, a1, a2, a3] (vI (w32 (x + y)) :: st) μ G := ev_stp pg_268_1032 rfl
theorem pg_268_1033 : mm_prog 268 1033 = some (0, .iaload, 1034, []) := by decide +kernel
theorem xe_268_1033 (a0 a1 a2 a3 : Option MV) (x y : Int) (st : List MV) (μ : MM) (G : MG) : ev 268 1033 [a0, a1, a2, a3] (vI x :: vR y :: st) μ G = if gk G y = 100 ∧ 0 ≤ x ∧ x < gl G y then ev 268 1034 [a0, a1, a2, a3] (vI (μ y x) :: st) μ G else none := ev_if pg_268_1033 rfl
theorem pg_268_1034 : mm_prog 268 1034 = some (0, .aload_n 0, 1035, []) := by decide +kernel
theorem xe_268_1034 (a1 a2 a3 : Option MV) (x : Int) (st : List MV) (μ : MM) (G : MG) : ev 268 1034 [some (vR x), a1, a2, a3] st μ G = ev 268 1035 [some (vR x), a1, a2, a3] (vR x :: st) μ G := ev_stp pg_268_1034 rfl
theorem pg_268_1035 : mm_prog 268 1035 = some (0, .iload_n 3, 1036, []) := by decide +kernel
theorem xe_268_1035 (a0 a1 a2 : Option MV) (x : Int) (st : List MV) (μ : MM) (G : MG) : ev 268 1035 [a0, a1, a2, some (vI x)] st μ G = ev 268 1036 [a0, a1, a2, some (vI x)] (vI x :: st) μ G := ev_stp pg_268_1035 rfl
theorem pg_268_1036 : mm_prog 268 1036 = some (0, .iconst 2, 1037, []) := by decide +kernel
theorem xe_268_1036 (a0 a1 a2 a3 : Option MV) (st : List MV) (μ : MM) (G : MG) : ev 268 1036 [a0, a1, a2, a3] st μ G = ev 268 1037 [a0, a1, a2, a3] (vI (2) :: st) μ G := ev_stp pg_268_1036 rfl
theorem pg_268_1037 : mm_prog 268 1037 = some (0, .iadd, 1038, []) := by decide +kernel
theorem xe_268_1037 (a0 a1 a2 a3 : Option MV) (x y : Int) (st : List MV) (μ : MM) (G : MG) : ev 268 1037 [a0, a1, a2, a3] (vI y :: vI x :: st) μ G = ev 268 1038 [a0, a1, a2, a3] (vI (w32 (x + y)) :: st) μ G := ev_stp pg_268_1037 rfl
theorem pg_268_1038 : mm_prog 268 1038 = some (0, .iaload, 1039, []) := by decide +kernel
theorem xe_268_1038 (a0 a1 a2 a3 : Option MV) (x y : Int) (st : List MV) (μ : MM) (G : MG) : ev 268 1038 [a0, a1, a2, a3] (vI x :: vR y :: st) μ G = if gk G y = 100 ∧ 0 ≤ x ∧ x < gl G y then ev 268 1039 [a0, a1, a2, a3] (vI (μ y x) :: st) μ G else none := ev_if pg_268_1038 rfl
theorem pg_268_1039 : mm_prog 268 1039 = some (1, .invokevirtual 115, 1042, [1, 133, 2, 10]) := by decide +kernel
theorem xe_268_1039 (a0 a1 a2 a3 : Option MV) (x0 x1 z : Int) (μ : MM) (G : MG) : ev 268 1039 [a0, a1, a2, a3] (vI x1 :: vI x0 :: vR z :: []) μ G = if gk G z = 10 ∧ 0 < z then (ev 133 0 [some (vR z), some (vI x0), some (vI x1)] [] μ G).bind (fun q => ev 268 1042 [a0, a1, a2, a3] (q.1.toList ++ []) q.2.1 q.2.2) else none := ev_calV (as := [vR z, vI x0, vI x1]) (r := []) mx_133 pg_268_1039 rfl rfl (Nat.le_of_ble_eq_true rfl) (Nat.le_of_ble_eq_true rfl)
theorem pg_268_1042 : mm_prog 268 1042 = some (0, .aload_n 2, 1043, []) := by decide +kernel
theorem xe_268_1042 (a0 a1 a3 : Option MV) (x : Int) (st : List MV) (μ : MM) (G : MG) : ev 268 1042 [a0, a1, some (vR x), a3] st μ G = ev 268 1043 [a0, a1, some (vR x), a3] (vR x :: st) μ G := ev_stp pg_268_1042 rfl
theorem pg_268_1043 : mm_prog 268 1043 = some (0, .aload_n 0, 1044, []) := by decide +kernel
theorem xe_268_1043 (a1 a2 a3 : Option MV) (x : Int) (st : List MV) (μ : MM) (G : MG) : ev 268 1043 [some (vR x), a1, a2, a3] st μ G = ev 268 1044 [some (vR x), a1, a2, a3] (vR x :: st) μ G := ev_stp pg_268_1043 rfl
theorem pg_268_1044 : mm_prog 268 1044 = some (0, .iload_n 3, 1045, []) := by decide +kernel
theorem xe_268_1044 (a0 a1 a2 : Option MV) (x : Int) (st : List MV) (μ : MM) (G : MG) : ev 268 1044 [a0, a1, a2, some (vI x)] st μ G = ev 268 1045 [a0, a1, a2, some (vI x)] (vI x :: st) μ G := ev_stp pg_268_1044 rfl
theorem pg_268_1045 : mm_prog 268 1045 = some (0, .iconst 1, 1046, []) := by decide +kernel
theorem xe_268_1045 (a0 a1 a2 a3 : Option MV) (st : List MV) (μ : MM) (G : MG) : ev 268 1045 [a0, a1, a2, a3] st μ G = ev 268 1046 [a0, a1, a2, a3] (vI (1) :: st) μ G := ev_stp pg_268_1045 rfl
theorem pg_268_1046 : mm_prog 268 1046 = some (0, .iadd, 1047, []) := by decide +kernel
theorem xe_268_1046 (a0 a1 a2 a3 : Option MV) (x y : Int) (st : List MV) (μ : MM) (G : MG) : ev 268 1046 [a0, a1, a2, a3] (vI y :: vI x :: st) μ G = ev 268 1047 [a0, a1, a2, a3] (vI (w32 (x + y)) :: st) μ G := ev_stp pg_268_1046 rfl
theorem pg_268_1047 : mm_prog 268 1047 = some (0, .iaload, 1048, []) := by decide +kernel
theorem xe_268_1047 (a0 a1 a2 a3 : Option MV) (x y : Int) (st : List MV) (μ : MM) (G : MG) : ev 268 1047 [a0, a1, a2, a3] (vI x :: vR y :: st) μ G = if gk G y = 100 ∧ 0 ≤ x ∧ x < gl G y then ev 268 1048 [a0, a1, a2, a3] (vI (μ y x) :: st) μ G else none := ev_if pg_268_1047 rfl
theorem pg_268_1048 : mm_prog 268 1048 = some (0, .aload_n 0, 1049, []) := by decide +kernel
theorem xe_268_1048 (a1 a2 a3 : Option MV) (x : Int) (st : List MV) (μ : MM) (G : MG) : ev 268 1048 [some (vR x), a1, a2, a3] st μ G = ev 268 1049 [some (vR x), a1, a2, a3] (vR x :: st) μ G := ev_stp pg_268_1048 rfl
theorem pg_268_1049 : mm_prog 268 1049 = some (0, .iload_n 3, 1050, []) := by decide +kernel
theorem xe_268_1049 (a0 a1 a2 : Option MV) (x : Int) (st : List MV) (μ : MM) (G : MG) : ev 268 1049 [a0, a1, a2, some (vI x)] st μ G = ev 268 1050 [a0, a1, a2, some (vI x)] (vI x :: st) μ G := ev_stp pg_268_1049 rfl
theorem pg_268_1050 : mm_prog 268 1050 = some (0, .iconst 2, 1051, []) := by decide +kernel
theorem xe_268_1050 (a0 a1 a2 a3 : Option MV) (st : List MV) (μ : MM) (G : MG) : ev 268 1050 [a0, a1, a2, a3] st μ G = ev 268 1051 [a0, a1, a2, a3] (vI (2) :: st) μ G := ev_stp pg_268_1050 rfl
theorem pg_268_1051 : mm_prog 268 1051 = some (0, .iadd, 1052, []) := by decide +kernel
theorem xe_268_1051 (a0 a1 a2 a3 : Option MV) (x y : Int) (st : List MV) (μ : MM) (G : MG) : ev 268 1051 [a0, a1, a2, a3] (vI y :: vI x :: st) μ G = ev 268 1052 [a0, a1, a2, a3] (vI (w32 (x + y)) :: st) μ G := ev_stp pg_268_1051 rfl
theorem pg_268_1052 : mm_prog 268 1052 = some (0, .iaload, 1053, []) := by decide +kernel
theorem xe_268_1052 (a0 a1 a2 a3 : Option MV) (x y : Int) (st : List MV) (μ : MM) (G : MG) : ev 268 1052 [a0, a1, a2, a3] (vI x :: vR y :: st) μ G = if gk G y = 100 ∧ 0 ≤ x ∧ x < gl G y then ev 268 1053 [a0, a1, a2, a3] (vI (μ y x) :: st) μ G else none := ev_if pg_268_1052 rfl
theorem pg_268_1053 : mm_prog 268 1053 = some (1, .invokevirtual 118, 1056, [1, 230, 2, 11]) := by decide +kernel
theorem xe_268_1053 (a0 a1 a2 a3 : Option MV) (x0 x1 z r0 : Int) (μ : MM) (G : MG) : ev 268 1053 [a0, a1, a2, a3] (vI x1 :: vI x0 :: vR z :: [vI r0]) μ G = if gk G z = 11 ∧ 0 < z then (ev 230 0 [some (vR z), some (vI x0), some (vI x1)] [] μ G).bind (fun q => ev 268 1056 [a0, a1, a2, a3] (q.1.toList ++ [vI r0]) q.2.1 q.2.2) else none := ev_calV (as := [vR z, vI x0, vI x1]) (r := [vI r0]) mx_230 pg_268_1053 rfl rfl (Nat.le_of_ble_eq_true rfl) (Nat.le_of_ble_eq_true rfl)
theorem pg_268_1056 : mm_prog 268 1056 = some (0, .if_icmp .eq 222, 1059, []) := by decide +kernel
theorem xe_268_1056 (a0 a1 a2 a3 : Option MV) (x y : Int) (st : List MV) (μ : MM) (G : MG) : ev 268 1056 [a0, a1, a2, a3] (vI y :: vI x :: st) μ G = if x = y then ev 268 1278 [a0, a1, a2, a3] st μ G else ev 268 1059 [a0, a1, a2, a3] st μ G := ev_br (mm_cnd_eq x y) pg_268_1056 rfl
theorem pg_268_1059 : mm_prog 268 1059 = some (0, .iconst 0, 1060, []) := by decide +kernel
theorem xe_268_1059 (a0 a1 a2 a3 : Option MV) (st : List MV) (μ : MM) (G : MG) : ev 268 1059 [a0, a1, a2, a3] st μ G = ev 268 1060 [a0, a1, a2, a3] (vI (0) :: st) μ G := ev_stp pg_268_1059 rfl
theorem pg_268_1060 : mm_prog 268 1060 = some (2, .ireturn, 1061, [1]) := by decide +kernel
theorem xe_268_1060 (a0 a1 a2 a3 : Option MV) (x : Int) (μ : MM) (G : MG) : ev 268 1060 [a0, a1, a2, a3] [vI x] μ G = if x = 0 ∨ x = 1 then some (some (vI x), μ, G) else none := ev_retB pg_268_1060
theorem pg_268_1061 : mm_prog 268 1061 = some (0, .aload_n 1, 1062, []) := by decide +kernel
theorem xe_268_1061 (a0 a2 a3 : Option MV) (x : Int) (st : List MV) (μ : MM) (G : MG) : ev 268 1061 [a0, some (vR x), a2, a3] st μ G = ev 268 1062 [a0, some (vR x), a2, a3] (vR x :: st) μ G := ev_stp pg_268_1061 rfl
theorem pg_268_1062 : mm_prog 268 1062 = some (0, .aload_n 0, 1063, []) := by decide +kernel
theorem xe_268_1062 (a1 a2 a3 : Option MV) (x : Int) (st : List MV) (μ : MM) (G : MG) : ev 268 1062 [some (vR x), a1, a2, a3] st μ G = ev 268 1063 [some (vR x), a1, a2, a3] (vR x :: st) μ G := ev_stp pg_268_1062 rfl
theorem pg_268_1063 : mm_prog 268 1063 = some (0, .iload_n 3, 1064, []) := by decide +kernel
theorem xe_268_1063 (a0 a1 a2 : Option MV) (x : Int) (st : List MV) (μ : MM) (G : MG) : ev 268 1063 [a0, a1, a2, some (vI x)] st μ G = ev 268 1064 [a0, a1, a2, some (vI x)] (vI x :: st) μ G := ev_stp pg_268_1063 rfl
theorem pg_268_1064 : mm_prog 268 1064 = some (0, .iconst 1, 1065, []) := by decide +kernel
theorem xe_268_1064 (a0 a1 a2 a3 : Option MV) (st : List MV) (μ : MM) (G : MG) : ev 268 1064 [a0, a1, a2, a3] st μ G = ev 268 1065 [a0, a1, a2, a3] (vI (1) :: st) μ G := ev_stp pg_268_1064 rfl
theorem pg_268_1065 : mm_prog 268 1065 = some (0, .iadd, 1066, []) := by decide +kernel
theorem xe_268_1065 (a0 a1 a2 a3 : Option MV) (x y : Int) (st : List MV) (μ : MM) (G : MG) : ev 268 1065 [a0, a1, a2, a3] (vI y :: vI x :: st) μ G = ev 268 1066 [a0, a1, a2, a3] (vI (w32 (x + y)) :: st) μ G := ev_stp pg_268_1065 rfl
theorem pg_268_1066 : mm_prog 268 1066 = some (0, .iaload, 1067, []) := by decide +kernel
theorem xe_268_1066 (a0 a1 a2 a3 : Option MV) (x y : Int) (st : List MV) (μ : MM) (G : MG) : ev 268 1066 [a0, a1, a2, a3] (vI x :: vR y :: st) μ G = if gk G y = 100 ∧ 0 ≤ x ∧ x < gl G y then ev 268 1067 [a0, a1, a2, a3] (vI (μ y x) :: st) μ G else none := ev_if pg_268_1066 rfl
theorem pg_268_1067 : mm_prog 268 1067 = some (0, .aload_n 0, 1068, []) := by decide +kernel
theorem xe_268_1067 (a1 a2 a3 : Option MV) (x : Int) (st : List MV) (μ : MM) (G : MG) : ev 268 1067 [some (vR x), a1, a2, a3] st μ G = ev 268 1068 [some (vR x), a1, a2, a3] (vR x :: st) μ G := ev_stp pg_268_1067 rfl
theorem pg_268_1068 : mm_prog 268 1068 = some (0, .iload_n 3, 1069, []) := by decide +kernel
theorem xe_268_1068 (a0 a1 a2 : Option MV) (x : Int) (st : List MV) (μ : MM) (G : MG) : ev 268 1068 [a0, a1, a2, some (vI x)] st μ G = ev 268 1069 [a0, a1, a2, some (vI x)] (vI x :: st) μ G := ev_stp pg_268_1068 rfl
theorem pg_268_1069 : mm_prog 268 1069 = some (0, .iconst 2, 1070, []) := by decide +kernel
theorem xe_268_1069 (a0 a1 a2 a3 : Option MV) (st : List MV) (μ : MM) (G : MG) : ev 268 1069 [a0, a1, a2, a3] st μ G = ev 268 1070 [a0, a1, a2, a3] (vI (2) :: st) μ G := ev_stp pg_268_1069 rfl
theorem pg_268_1070 : mm_prog 268 1070 = some (0, .iadd, 1071, []) := by decide +kernel
theorem xe_268_1070 (a0 a1 a2 a3 : Option MV) (x y : Int) (st : List MV) (μ : MM) (G : MG) : ev 268 1070 [a0, a1, a2, a3] (vI y :: vI x :: st) μ G = ev 268 1071 [a0, a1, a2, a3] (vI (w32 (x + y)) :: st) μ G := ev_stp pg_268_1070 rfl
theorem pg_268_1071 : mm_prog 268 1071 = some (0, .iaload, 1072, []) := by decide +kernel
theorem xe_268_1071 (a0 a1 a2 a3 : Option MV) (x y : Int) (st : List MV) (μ : MM) (G : MG) : ev 268 1071 [a0, a1, a2, a3] (vI x :: vR y :: st) μ G = if gk G y = 100 ∧ 0 ≤ x ∧ x < gl G y then ev 268 1072 [a0, a1, a2, a3] (vI (μ y x) :: st) μ G else none := ev_if pg_268_1071 rfl
theorem pg_268_1072 : mm_prog 268 1072 = some (1, .invokevirtual 119, 1075, [1, 134, 2, 10]) := by decide +kernel
theorem xe_268_1072 (a0 a1 a2 a3 : Option MV) (x0 x1 z : Int) (μ : MM) (G : MG) : ev 268 1072 [a0, a1, a2, a3] (vI x1 :: vI x0 :: vR z :: []) μ G = if gk G z = 10 ∧ 0 < z then (ev 134 0 [some (vR z), some (vI x0), some (vI x1)] [] μ G).bind (fun q => ev 268 1075 [a0, a1, a2, a3] (q.1.toList ++ []) q.2.1 q.2.2) else none := ev_calV (as := [vR z, vI x0, vI x1]) (r := []) mx_134 pg_268_1072 rfl rfl (Nat.le_of_ble_eq_true rfl) (Nat.le_of_ble_eq_true rfl)
theorem pg_268_1075 : mm_prog 268 1075 = some (0, .aload_n 2, 1076, []) := by decide +kernel
theorem xe_268_1075 (a0 a1 a3 : Option MV) (x : Int) (st : List MV) (μ : MM) (G : MG) : ev 268 1075 [a0, a1, some (vR x), a3] st μ G = ev 268 1076 [a0, a1, some (vR x), a3] (vR x :: st) μ G := ev_stp pg_268_1075 rfl
theorem pg_268_1076 : mm_prog 268 1076 = some (0, .aload_n 0, 1077, []) := by decide +kernel
theorem xe_268_1076 (a1 a2 a3 : Option MV) (x : Int) (st : List MV) (μ : MM) (G : MG) : ev 268 1076 [some (vR x), a1, a2, a3] st μ G = ev 268 1077 [some (vR x), a1, a2, a3] (vR x :: st) μ G := ev_stp pg_268_1076 rfl
theorem pg_268_1077 : mm_prog 268 1077 = some (0, .iload_n 3, 1078, []) := by decide +kernel
theorem xe_268_1077 (a0 a1 a2 : Option MV) (x : Int) (st : List MV) (μ : MM) (G : MG) : ev 268 1077 [a0, a1, a2, some (vI x)] st μ G = ev 268 1078 [a0, a1, a2, some (vI x)] (vI x :: st) μ G := ev_stp pg_268_1077 rfl
theorem pg_268_1078 : mm_prog 268 1078 = some (0, .iconst 1, 1079, []) := by decide +kernel
theorem xe_268_1078 (a0 a1 a2 a3 : Option MV) (st : List MV) (μ : MM) (G : MG) : ev 268 1078 [a0, a1, a2, a3] st μ G = ev 268 1079 [a0, a1, a2, a3] (vI (1) :: st) μ G := ev_stp pg_268_1078 rfl
theorem pg_268_1079 : mm_prog 268 1079 = some (0, .iadd, 1080, []) := by decide +kernel
theorem xe_268_1079 (a0 a1 a2 a3 : Option MV) (x y : Int) (st : List MV) (μ : MM) (G : MG) : ev 268 1079 [a0, a1, a2, a3] (vI y :: vI x :: st) μ G = ev 268 1080 [a0, a1, a2, a3] (vI (w32 (x + y)) :: st) μ G := ev_stp pg_268_1079 rfl
theorem pg_268_1080 : mm_prog 268 1080 = some (0, .iaload, 1081, []) := by decide +kernel
theorem xe_268_1080 (a0 a1 a2 a3 : Option MV) (x y : Int) (st : List MV) (μ : MM) (G : MG) : ev 268 1080 [a0, a1, a2, a3] (vI x :: vR y :: st) μ G = if gk G y = 100 ∧ 0 ≤ x ∧ x < gl G y then ev 268 1081 [a0, a1, a2, a3] (vI (μ y x) :: st) μ G else none := ev_if pg_268_1080 rfl
theorem pg_268_1081 : mm_prog 268 1081 = some (0, .aload_n 0, 1082, []) := by decide +kernel
theorem xe_268_1081 (a1 a2 a3 : Option MV) (x : Int) (st : List MV) (μ : MM) (G : MG) : ev 268 1081 [some (vR x), a1, a2, a3] st μ G = ev 268 1082 [some (vR x), a1, a2, a3] (vR x :: st) μ G := ev_stp pg_268_1081 rfl
theorem pg_268_1082 : mm_prog 268 1082 = some (0, .iload_n 3, 1083, []) := by decide +kernel
theorem xe_268_1082 (a0 a1 a2 : Option MV) (x : Int) (st : List MV) (μ : MM) (G : MG) : ev 268 1082 [a0, a1, a2, some (vI x)] st μ G = ev 268 1083 [a0, a1, a2, some (vI x)] (vI x :: st) μ G := ev_stp pg_268_1082 rfl
theorem pg_268_1083 : mm_prog 268 1083 = some (0, .iconst 2, 1084, []) := by decide +kernel
theorem xe_268_1083 (a0 a1 a2 a3 : Option MV) (st : List MV) (μ : MM) (G : MG) : ev 268 1083 [a0, a1, a2, a3] st μ G = ev 268 1084 [a0, a1, a2, a3] (vI (2) :: st) μ G := ev_stp pg_268_1083 rfl
theorem pg_268_1084 : mm_prog 268 1084 = some (0, .iadd, 1085, []) := by decide +kernel
theorem xe_268_1084 (a0 a1 a2 a3 : Option MV) (x y : Int) (st : List MV) (μ : MM) (G : MG) : ev 268 1084 [a0, a1, a2, a3] (vI y :: vI x :: st) μ G = ev 268 1085 [a0, a1, a2, a3] (vI (w32 (x + y)) :: st) μ G := ev_stp pg_268_1084 rfl
theorem pg_268_1085 : mm_prog 268 1085 = some (0, .iaload, 1086, []) := by decide +kernel
theorem xe_268_1085 (a0 a1 a2 a3 : Option MV) (x y : Int) (st : List MV) (μ : MM) (G : MG) : ev 268 1085 [a0, a1, a2, a3] (vI x :: vR y :: st) μ G = if gk G y = 100 ∧ 0 ≤ x ∧ x < gl G y then ev 268 1086 [a0, a1, a2, a3] (vI (μ y x) :: st) μ G else none := ev_if pg_268_1085 rfl
theorem pg_268_1086 : mm_prog 268 1086 = some (1, .invokevirtual 122, 1089, [1, 231, 2, 11]) := by decide +kernel
theorem xe_268_1086 (a0 a1 a2 a3 : Option MV) (x0 x1 z r0 : Int) (μ : MM) (G : MG) : ev 268 1086 [a0, a1, a2, a3] (vI x1 :: vI x0 :: vR z :: [vI r0]) μ G = if gk G z = 11 ∧ 0 < z then (ev 231 0 [some (vR z), some (vI x0), some (vI x1)] [] μ G).bind (fun q => ev 268 1089 [a0, a1, a2, a3] (q.1.toList ++ [vI r0]) q.2.1 q.2.2) else none := ev_calV (as := [vR z, vI x0, vI x1]) (r := [vI r0]) mx_231 pg_268_1086 rfl rfl (Nat.le_of_ble_eq_true rfl) (Nat.le_of_ble_eq_true rfl)
theorem pg_268_1089 : mm_prog 268 1089 = some (0, .if_icmp .eq 189, 1092, []) := by decide +kernel
theorem xe_268_1089 (a0 a1 a2 a3 : Option MV) (x y : Int) (st : List MV) (μ : MM) (G : MG) : ev 268 1089 [a0, a1, a2, a3] (vI y :: vI x :: st) μ G = if x = y then ev 268 1278 [a0, a1, a2, a3] st μ G else ev 268 1092 [a0, a1, a2, a3] st μ G := ev_br (mm_cnd_eq x y) pg_268_1089 rfl
theorem pg_268_1092 : mm_prog 268 1092 = some (0, .iconst 0, 1093, []) := by decide +kernel
theorem xe_268_1092 (a0 a1 a2 a3 : Option MV) (st : List MV) (μ : MM) (G : MG) : ev 268 1092 [a0, a1, a2, a3] st μ G = ev 268 1093 [a0, a1, a2, a3] (vI (0) :: st) μ G := ev_stp pg_268_1092 rfl
theorem pg_268_1093 : mm_prog 268 1093 = some (2, .ireturn, 1094, [1]) := by decide +kernel
theorem xe_268_1093 (a0 a1 a2 a3 : Option MV) (x : Int) (μ : MM) (G : MG) : ev 268 1093 [a0, a1, a2, a3] [vI x] μ G = if x = 0 ∨ x = 1 then some (some (vI x), μ, G) else none := ev_retB pg_268_1093
theorem pg_268_1094 : mm_prog 268 1094 = some (0, .aload_n 1, 1095, []) := by decide +kernel
theorem xe_268_1094 (a0 a2 a3 : Option MV) (x : Int) (st : List MV) (μ : MM) (G : MG) : ev 268 1094 [a0, some (vR x), a2, a3] st μ G = ev 268 1095 [a0, some (vR x), a2, a3] (vR x :: st) μ G := ev_stp pg_268_1094 rfl
theorem pg_268_1095 : mm_prog 268 1095 = some (0, .aload_n 0, 1096, []) := by decide +kernel
theorem xe_268_1095 (a1 a2 a3 : Option MV) (x : Int) (st : List MV) (μ : MM) (G : MG) : ev 268 1095 [some (vR x), a1, a2, a3] st μ G = ev 268 1096 [some (vR x), a1, a2, a3] (vR x :: st) μ G := ev_stp pg_268_1095 rfl
theorem pg_268_1096 : mm_prog 268 1096 = some (0, .iload_n 3, 1097, []) := by decide +kernel
theorem xe_268_1096 (a0 a1 a2 : Option MV) (x : Int) (st : List MV) (μ : MM) (G : MG) : ev 268 1096 [a0, a1, a2, some (vI x)] st μ G = ev 268 1097 [a0, a1, a2, some (vI x)] (vI x :: st) μ G := ev_stp pg_268_1096 rfl
theorem pg_268_1097 : mm_prog 268 1097 = some (0, .iconst 1, 1098, []) := by decide +kernel
theorem xe_268_1097 (a0 a1 a2 a3 : Option MV) (st : List MV) (μ : MM) (G : MG) : ev 268 1097 [a0, a1, a2, a3] st μ G = ev 268 1098 [a0, a1, a2, a3] (vI (1) :: st) μ G := ev_stp pg_268_1097 rfl
theorem pg_268_1098 : mm_prog 268 1098 = some (0, .iadd, 1099, []) := by decide +kernel
theorem xe_268_1098 (a0 a1 a2 a3 : Option MV) (x y : Int) (st : List MV) (μ : MM) (G : MG) : ev 268 1098 [a0, a1, a2, a3] (vI y :: vI x :: st) μ G = ev 268 1099 [a0, a1, a2, a3] (vI (w32 (x + y)) :: st) μ G := ev_stp pg_268_1098 rfl
theorem pg_268_1099 : mm_prog 268 1099 = some (0, .iaload, 1100, []) := by decide +kernel
theorem xe_268_1099 (a0 a1 a2 a3 : Option MV) (x y : Int) (st : List MV) (μ : MM) (G : MG) : ev 268 1099 [a0, a1, a2, a3] (vI x :: vR y :: st) μ G = if gk G y = 100 ∧ 0 ≤ x ∧ x < gl G y then ev 268 1100 [a0, a1, a2, a3] (vI (μ y x) :: st) μ G else none := ev_if pg_268_1099 rfl
theorem pg_268_1100 : mm_prog 268 1100 = some (0, .aload_n 0, 1101, []) := by decide +kernel
theorem xe_268_1100 (a1 a2 a3 : Option MV) (x : Int) (st : List MV) (μ : MM) (G : MG) : ev 268 1100 [some (vR x), a1, a2, a3] st μ G = ev 268 1101 [some (vR x), a1, a2, a3] (vR x :: st) μ G := ev_stp pg_268_1100 rfl
theorem pg_268_1101 : mm_prog 268 1101 = some (0, .iload_n 3, 1102, []) := by decide +kernel
theorem xe_268_1101 (a0 a1 a2 : Option MV) (x : Int) (st : List MV) (μ : MM) (G : MG) : ev 268 1101 [a0, a1, a2, some (vI x)] st μ G = ev 268 1102 [a0, a1, a2, some (vI x)] (vI x :: st) μ G := ev_stp pg_268_1101 rfl
theorem pg_268_1102 : mm_prog 268 1102 = some (0, .iconst 2, 1103, []) := by decide +kernel
theorem xe_268_1102 (a0 a1 a2 a3 : Option MV) (st : List MV) (μ : MM) (G : MG) : ev 268 1102 [a0, a1, a2, a3] st μ G = ev 268 1103 [a0, a1, a2, a3] (vI (2) :: st) μ G := ev_stp pg_268_1102 rfl
theorem pg_268_1103 : mm_prog 268 1103 = some (0, .iadd, 1104, []) := by decide +kernel
theorem xe_268_1103 (a0 a1 a2 a3 : Option MV) (x y : Int) (st : List MV) (μ : MM) (G : MG) : ev 268 1103 [a0, a1, a2, a3] (vI y :: vI x :: st) μ G = ev 268 1104 [a0, a1, a2, a3] (vI (w32 (x + y)) :: st) μ G := ev_stp pg_268_1103 rfl
theorem pg_268_1104 : mm_prog 268 1104 = some (0, .iaload, 1105, []) := by decide +kernel
theorem xe_268_1104 (a0 a1 a2 a3 : Option MV) (x y : Int) (st : List MV) (μ : MM) (G : MG) : ev 268 1104 [a0, a1, a2, a3] (vI x :: vR y :: st) μ G = if gk G y = 100 ∧ 0 ≤ x ∧ x < gl G y then ev 268 1105 [a0, a1, a2, a3] (vI (μ y x) :: st) μ G else none := ev_if pg_268_1104 rfl
theorem pg_268_1105 : mm_prog 268 1105 = some (1, .invokevirtual 123, 1108, [1, 135, 2, 10]) := by decide +kernel
theorem xe_268_1105 (a0 a1 a2 a3 : Option MV) (x0 x1 z : Int) (μ : MM) (G : MG) : ev 268 1105 [a0, a1, a2, a3] (vI x1 :: vI x0 :: vR z :: []) μ G = if gk G z = 10 ∧ 0 < z then (ev 135 0 [some (vR z), some (vI x0), some (vI x1)] [] μ G).bind (fun q => ev 268 1108 [a0, a1, a2, a3] (q.1.toList ++ []) q.2.1 q.2.2) else none := ev_calV (as := [vR z, vI x0, vI x1]) (r := []) mx_135 pg_268_1105 rfl rfl (Nat.le_of_ble_eq_true rfl) (Nat.le_of_ble_eq_true rfl)
theorem pg_268_1108 : mm_prog 268 1108 = some (0, .aload_n 2, 1109, []) := by decide +kernel
theorem xe_268_1108 (a0 a1 a3 : Option MV) (x : Int) (st : List MV) (μ : MM) (G : MG) : ev 268 1108 [a0, a1, some (vR x), a3] st μ G = ev 268 1109 [a0, a1, some (vR x), a3] (vR x :: st) μ G := ev_stp pg_268_1108 rfl
theorem pg_268_1109 : mm_prog 268 1109 = some (0, .aload_n 0, 1110, []) := by decide +kernel
theorem xe_268_1109 (a1 a2 a3 : Option MV) (x : Int) (st : List MV) (μ : MM) (G : MG) : ev 268 1109 [some (vR x), a1, a2, a3] st μ G = ev 268 1110 [some (vR x), a1, a2, a3] (vR x :: st) μ G := ev_stp pg_268_1109 rfl
theorem pg_268_1110 : mm_prog 268 1110 = some (0, .iload_n 3, 1111, []) := by decide +kernel
theorem xe_268_1110 (a0 a1 a2 : Option MV) (x : Int) (st : List MV) (μ : MM) (G : MG) : ev 268 1110 [a0, a1, a2, some (vI x)] st μ G = ev 268 1111 [a0, a1, a2, some (vI x)] (vI x :: st) μ G := ev_stp pg_268_1110 rfl
theorem pg_268_1111 : mm_prog 268 1111 = some (0, .iconst 1, 1112, []) := by decide +kernel
theorem xe_268_1111 (a0 a1 a2 a3 : Option MV) (st : List MV) (μ : MM) (G : MG) : ev 268 1111 [a0, a1, a2, a3] st μ G = ev 268 1112 [a0, a1, a2, a3] (vI (1) :: st) μ G := ev_stp pg_268_1111 rfl
theorem pg_268_1112 : mm_prog 268 1112 = some (0, .iadd, 1113, []) := by decide +kernel
theorem xe_268_1112 (a0 a1 a2 a3 : Option MV) (x y : Int) (st : List MV) (μ : MM) (G : MG) : ev 268 1112 [a0, a1, a2, a3] (vI y :: vI x :: st) μ G = ev 268 1113 [a0, a1, a2, a3] (vI (w32 (x + y)) :: st) μ G := ev_stp pg_268_1112 rfl
theorem pg_268_1113 : mm_prog 268 1113 = some (0, .iaload, 1114, []) := by decide +kernel
theorem xe_268_1113 (a0 a1 a2 a3 : Option MV) (x y : Int) (st : List MV) (μ : MM) (G : MG) : ev 268 1113 [a0, a1, a2, a3] (vI x :: vR y :: st) μ G = if gk G y = 100 ∧ 0 ≤ x ∧ x < gl G y then ev 268 1114 [a0, a1, a2, a3] (vI (μ y x) :: st) μ G else none := ev_if pg_268_1113 rfl
theorem pg_268_1114 : mm_prog 268 1114 = some (0, .aload_n 0, 1115, []) := by decide +kernel
theorem xe_268_1114 (a1 a2 a3 : Option MV) (x : Int) (st : List MV) (μ : MM) (G : MG) : ev 268 1114 [some (vR x), a1, a2, a3] st μ G = ev 268 1115 [some (vR x), a1, a2, a3] (vR x :: st) μ G := ev_stp pg_268_1114 rfl
theorem pg_268_1115 : mm_prog 268 1115 = some (0, .iload_n 3, 1116, []) := by decide +kernel
theorem xe_268_1115 (a0 a1 a2 : Option MV) (x : Int) (st : List MV) (μ : MM) (G : MG) : ev 268 1115 [a0, a1, a2, some (vI x)] st μ G = ev 268 1116 [a0, a1, a2, some (vI x)] (vI x :: st) μ G := ev_stp pg_268_1115 rfl
theorem pg_268_1116 : mm_prog 268 1116 = some (0, .iconst 2, 1117, []) := by decide +kernel
theorem xe_268_1116 (a0 a1 a2 a3 : Option MV) (st : List MV) (μ : MM) (G : MG) : ev 268 1116 [a0, a1, a2, a3] st μ G = ev 268 1117 [a0, a1, a2, a3] (vI (2) :: st) μ G := ev_stp pg_268_1116 rfl
theorem pg_268_1117 : mm_prog 268 1117 = some (0, .iadd, 1118, []) := by decide +kernel
theorem xe_268_1117 (a0 a1 a2 a3 : Option MV) (x y : Int) (st : List MV) (μ : MM) (G : MG) : ev 268 1117 [a0, a1, a2, a3] (vI y :: vI x :: st) μ G = ev 268 1118 [a0, a1, a2, a3] (vI (w32 (x + y)) :: st) μ G := ev_stp pg_268_1117 rfl
theorem pg_268_1118 : mm_prog 268 1118 = some (0, .iaload, 1119, []) := by decide +kernel
theorem xe_268_1118 (a0 a1 a2 a3 : Option MV) (x y : Int) (st : List MV) (μ : MM) (G : MG) : ev 268 1118 [a0, a1, a2, a3] (vI x :: vR y :: st) μ G = if gk G y = 100 ∧ 0 ≤ x ∧ x < gl G y then ev 268 1119 [a0, a1, a2, a3] (vI (μ y x) :: st) μ G else none := ev_if pg_268_1118 rfl
theorem pg_268_1119 : mm_prog 268 1119 = some (1, .invokevirtual 126, 1122, [1, 226, 2, 11]) := by decide +kernel
theorem xe_268_1119 (a0 a1 a2 a3 : Option MV) (x0 x1 z r0 : Int) (μ : MM) (G : MG) : ev 268 1119 [a0, a1, a2, a3] (vI x1 :: vI x0 :: vR z :: [vI r0]) μ G = if gk G z = 11 ∧ 0 < z then (ev 226 0 [some (vR z), some (vI x0), some (vI x1)] [] μ G).bind (fun q => ev 268 1122 [a0, a1, a2, a3] (q.1.toList ++ [vI r0]) q.2.1 q.2.2) else none := ev_calV (as := [vR z, vI x0, vI x1]) (r := [vI r0]) mx_226 pg_268_1119 rfl rfl (Nat.le_of_ble_eq_true rfl) (Nat.le_of_ble_eq_true rfl)
theorem pg_268_1122 : mm_prog 268 1122 = some (0, .if_icmp .eq 156, 1125, []) := by decide +kernel
theorem xe_268_1122 (a0 a1 a2 a3 : Option MV) (x y : Int) (st : List MV) (μ : MM) (G : MG) : ev 268 1122 [a0, a1, a2, a3] (vI y :: vI x :: st) μ G = if x = y then ev 268 1278 [a0, a1, a2, a3] st μ G else ev 268 1125 [a0, a1, a2, a3] st μ G := ev_br (mm_cnd_eq x y) pg_268_1122 rfl
theorem pg_268_1125 : mm_prog 268 1125 = some (0, .iconst 0, 1126, []) := by decide +kernel
theorem xe_268_1125 (a0 a1 a2 a3 : Option MV) (st : List MV) (μ : MM) (G : MG) : ev 268 1125 [a0, a1, a2, a3] st μ G = ev 268 1126 [a0, a1, a2, a3] (vI (0) :: st) μ G := ev_stp pg_268_1125 rfl
theorem pg_268_1126 : mm_prog 268 1126 = some (2, .ireturn, 1127, [1]) := by decide +kernel
theorem xe_268_1126 (a0 a1 a2 a3 : Option MV) (x : Int) (μ : MM) (G : MG) : ev 268 1126 [a0, a1, a2, a3] [vI x] μ G = if x = 0 ∨ x = 1 then some (some (vI x), μ, G) else none := ev_retB pg_268_1126
theorem pg_268_1127 : mm_prog 268 1127 = some (0, .aload_n 1, 1128, []) := by decide +kernel
theorem xe_268_1127 (a0 a2 a3 : Option MV) (x : Int) (st : List MV) (μ : MM) (G : MG) : ev 268 1127 [a0, some (vR x), a2, a3] st μ G = ev 268 1128 [a0, some (vR x), a2, a3] (vR x :: st) μ G := ev_stp pg_268_1127 rfl
theorem pg_268_1128 : mm_prog 268 1128 = some (0, .aload_n 0, 1129, []) := by decide +kernel
theorem xe_268_1128 (a1 a2 a3 : Option MV) (x : Int) (st : List MV) (μ : MM) (G : MG) : ev 268 1128 [some (vR x), a1, a2, a3] st μ G = ev 268 1129 [some (vR x), a1, a2, a3] (vR x :: st) μ G := ev_stp pg_268_1128 rfl
theorem pg_268_1129 : mm_prog 268 1129 = some (0, .iload_n 3, 1130, []) := by decide +kernel
theorem xe_268_1129 (a0 a1 a2 : Option MV) (x : Int) (st : List MV) (μ : MM) (G : MG) : ev 268 1129 [a0, a1, a2, some (vI x)] st μ G = ev 268 1130 [a0, a1, a2, some (vI x)] (vI x :: st) μ G := ev_stp pg_268_1129 rfl
theorem pg_268_1130 : mm_prog 268 1130 = some (0, .iconst 1, 1131, []) := by decide +kernel
theorem xe_268_1130 (a0 a1 a2 a3 : Option MV) (st : List MV) (μ : MM) (G : MG) : ev 268 1130 [a0, a1, a2, a3] st μ G = ev 268 1131 [a0, a1, a2, a3] (vI (1) :: st) μ G := ev_stp pg_268_1130 rfl
theorem pg_268_1131 : mm_prog 268 1131 = some (0, .iadd, 1132, []) := by decide +kernel
theorem xe_268_1131 (a0 a1 a2 a3 : Option MV) (x y : Int) (st : List MV) (μ : MM) (G : MG) : ev 268 1131 [a0, a1, a2, a3] (vI y :: vI x :: st) μ G = ev 268 1132 [a0, a1, a2, a3] (vI (w32 (x + y)) :: st) μ G := ev_stp pg_268_1131 rfl
theorem pg_268_1132 : mm_prog 268 1132 = some (0, .iaload, 1133, []) := by decide +kernel
theorem xe_268_1132 (a0 a1 a2 a3 : Option MV) (x y : Int) (st : List MV) (μ : MM) (G : MG) : ev 268 1132 [a0, a1, a2, a3] (vI x :: vR y :: st) μ G = if gk G y = 100 ∧ 0 ≤ x ∧ x < gl G y then ev 268 1133 [a0, a1, a2, a3] (vI (μ y x) :: st) μ G else none := ev_if pg_268_1132 rfl
theorem pg_268_1133 : mm_prog 268 1133 = some (1, .invokevirtual 127, 1136, [1, 136, 1, 10]) := by decide +kernel
theorem xe_268_1133 (a0 a1 a2 a3 : Option MV) (x0 z : Int) (μ : MM) (G : MG) : ev 268 1133 [a0, a1, a2, a3] (vI x0 :: vR z :: []) μ G = if gk G z = 10 ∧ 0 < z then (ev 136 0 [some (vR z), some (vI x0)] [] μ G).bind (fun q => ev 268 1136 [a0, a1, a2, a3] (q.1.toList ++ []) q.2.1 q.2.2) else none := ev_calV (as := [vR z, vI x0]) (r := []) mx_136 pg_268_1133 rfl rfl (Nat.le_of_ble_eq_true rfl) (Nat.le_of_ble_eq_true rfl)
theorem pg_268_1136 : mm_prog 268 1136 = some (0, .aload_n 2, 1137, []) := by decide +kernel
theorem xe_268_1136 (a0 a1 a3 : Option MV) (x : Int) (st : List MV) (μ : MM) (G : MG) : ev 268 1136 [a0, a1, some (vR x), a3] st μ G = ev 268 1137 [a0, a1, some (vR x), a3] (vR x :: st) μ G := ev_stp pg_268_1136 rfl
theorem pg_268_1137 : mm_prog 268 1137 = some (0, .aload_n 0, 1138, []) := by decide +kernel
theorem xe_268_1137 (a1 a2 a3 : Option MV) (x : Int) (st : List MV) (μ : MM) (G : MG) : ev 268 1137 [some (vR x), a1, a2, a3] st μ G = ev 268 1138 [some (vR x), a1, a2, a3] (vR x :: st) μ G := ev_stp pg_268_1137 rfl
theorem pg_268_1138 : mm_prog 268 1138 = some (0, .iload_n 3, 1139, []) := by decide +kernel
theorem xe_268_1138 (a0 a1 a2 : Option MV) (x : Int) (st : List MV) (μ : MM) (G : MG) : ev 268 1138 [a0, a1, a2, some (vI x)] st μ G = ev 268 1139 [a0, a1, a2, some (vI x)] (vI x :: st) μ G := ev_stp pg_268_1138 rfl
theorem pg_268_1139 : mm_prog 268 1139 = some (0, .iconst 1, 1140, []) := by decide +kernel
theorem xe_268_1139 (a0 a1 a2 a3 : Option MV) (st : List MV) (μ : MM) (G : MG) : ev 268 1139 [a0, a1, a2, a3] st μ G = ev 268 1140 [a0, a1, a2, a3] (vI (1) :: st) μ G := ev_stp pg_268_1139 rfl
theorem pg_268_1140 : mm_prog 268 1140 = some (0, .iadd, 1141, []) := by decide +kernel
theorem xe_268_1140 (a0 a1 a2 a3 : Option MV) (x y : Int) (st : List MV) (μ : MM) (G : MG) : ev 268 1140 [a0, a1, a2, a3] (vI y :: vI x :: st) μ G = ev 268 1141 [a0, a1, a2, a3] (vI (w32 (x + y)) :: st) μ G := ev_stp pg_268_1140 rfl
theorem pg_268_1141 : mm_prog 268 1141 = some (0, .iaload, 1142, []) := by decide +kernel
theorem xe_268_1141 (a0 a1 a2 a3 : Option MV) (x y : Int) (st : List MV) (μ : MM) (G : MG) : ev 268 1141 [a0, a1, a2, a3] (vI x :: vR y :: st) μ G = if gk G y = 100 ∧ 0 ≤ x ∧ x < gl G y then ev 268 1142 [a0, a1, a2, a3] (vI (μ y x) :: st) μ G else none := ev_if pg_268_1141 rfl
theorem pg_268_1142 : mm_prog 268 1142 = some (1, .invokevirtual 130, 1145, [1, 232, 1, 11]) := by decide +kernel
theorem xe_268_1142 (a0 a1 a2 a3 : Option MV) (x0 z r0 : Int) (μ : MM) (G : MG) : ev 268 1142 [a0, a1, a2, a3] (vI x0 :: vR z :: [vI r0]) μ G = if gk G z = 11 ∧ 0 < z then (ev 232 0 [some (vR z), some (vI x0), none] [] μ G).bind (fun q => ev 268 1145 [a0, a1, a2, a3] (q.1.toList ++ [vI r0]) q.2.1 q.2.2) else none := ev_calV (as := [vR z, vI x0]) (r := [vI r0]) mx_232 pg_268_1142 rfl rfl (Nat.le_of_ble_eq_true rfl) (Nat.le_of_ble_eq_true rfl)
theorem pg_268_1145 : mm_prog 268 1145 = some (0, .if_icmp .eq 133, 1148, []) := by decide +kernel
theorem xe_268_1145 (a0 a1 a2 a3 : Option MV) (x y : Int) (st : List MV) (μ : MM) (G : MG) : ev 268 1145 [a0, a1, a2, a3] (vI y :: vI x :: st) μ G = if x = y then ev 268 1278 [a0, a1, a2, a3] st μ G else ev 268 1148 [a0, a1, a2, a3] st μ G := ev_br (mm_cnd_eq x y) pg_268_1145 rfl
theorem pg_268_1148 : mm_prog 268 1148 = some (0, .iconst 0, 1149, []) := by decide +kernel
theorem xe_268_1148 (a0 a1 a2 a3 : Option MV) (st : List MV) (μ : MM) (G : MG) : ev 268 1148 [a0, a1, a2, a3] st μ G = ev 268 1149 [a0, a1, a2, a3] (vI (0) :: st) μ G := ev_stp pg_268_1148 rfl
theorem pg_268_1149 : mm_prog 268 1149 = some (2, .ireturn, 1150, [1]) := by decide +kernel
theorem xe_268_1149 (a0 a1 a2 a3 : Option MV) (x : Int) (μ : MM) (G : MG) : ev 268 1149 [a0, a1, a2, a3] [vI x] μ G = if x = 0 ∨ x = 1 then some (some (vI x), μ, G) else none := ev_retB pg_268_1149
theorem pg_268_1150 : mm_prog 268 1150 = some (0, .aload_n 1, 1151, []) := by decide +kernel
theorem xe_268_1150 (a0 a2 a3 : Option MV) (x : Int) (st : List MV) (μ : MM) (G : MG) : ev 268 1150 [a0, some (vR x), a2, a3] st μ G = ev 268 1151 [a0, some (vR x), a2, a3] (vR x :: st) μ G := ev_stp pg_268_1150 rfl
theorem pg_268_1151 : mm_prog 268 1151 = some (0, .aload_n 0, 1152, []) := by decide +kernel
theorem xe_268_1151 (a1 a2 a3 : Option MV) (x : Int) (st : List MV) (μ : MM) (G : MG) : ev 268 1151 [some (vR x), a1, a2, a3] st μ G = ev 268 1152 [some (vR x), a1, a2, a3] (vR x :: st) μ G := ev_stp pg_268_1151 rfl
theorem pg_268_1152 : mm_prog 268 1152 = some (0, .iload_n 3, 1153, []) := by decide +kernel
theorem xe_268_1152 (a0 a1 a2 : Option MV) (x : Int) (st : List MV) (μ : MM) (G : MG) : ev 268 1152 [a0, a1, a2, some (vI x)] st μ G = ev 268 1153 [a0, a1, a2, some (vI x)] (vI x :: st) μ G := ev_stp pg_268_1152 rfl
theorem pg_268_1153 : mm_prog 268 1153 = some (0, .iconst 1, 1154, []) := by decide +kernel
theorem xe_268_1153 (a0 a1 a2 a3 : Option MV) (st : List MV) (μ : MM) (G : MG) : ev 268 1153 [a0, a1, a2, a3] st μ G = ev 268 1154 [a0, a1, a2, a3] (vI (1) :: st) μ G := ev_stp pg_268_1153 rfl
theorem pg_268_1154 : mm_prog 268 1154 = some (0, .iadd, 1155, []) := by decide +kernel
theorem xe_268_1154 (a0 a1 a2 a3 : Option MV) (x y : Int) (st : List MV) (μ : MM) (G : MG) : ev 268 1154 [a0, a1, a2, a3] (vI y :: vI x :: st) μ G = ev 268 1155 [a0, a1, a2, a3] (vI (w32 (x + y)) :: st) μ G := ev_stp pg_268_1154 rfl
theorem pg_268_1155 : mm_prog 268 1155 = some (0, .iaload, 1156, []) := by decide +kernel
theorem xe_268_1155 (a0 a1 a2 a3 : Option MV) (x y : Int) (st : List MV) (μ : MM) (G : MG) : ev 268 1155 [a0, a1, a2, a3] (vI x :: vR y :: st) μ G = if gk G y = 100 ∧ 0 ≤ x ∧ x < gl G y then ev 268 1156 [a0, a1, a2, a3] (vI (μ y x) :: st) μ G else none := ev_if pg_268_1155 rfl
theorem pg_268_1156 : mm_prog 268 1156 = some (1, .invokevirtual 131, 1159, [1, 140, 1, 10]) := by decide +kernel
theorem xe_268_1156 (a0 a1 a2 a3 : Option MV) (x0 z : Int) (μ : MM) (G : MG) : ev 268 1156 [a0, a1, a2, a3] (vI x0 :: vR z :: []) μ G = if gk G z = 10 ∧ 0 < z then (ev 140 0 [some (vR z), some (vI x0), none] [] μ G).bind (fun q => ev 268 1159 [a0, a1, a2, a3] (q.1.toList ++ []) q.2.1 q.2.2) else none := ev_calV (as := [vR z, vI x0]) (r := []) mx_140 pg_268_1156 rfl rfl (Nat.le_of_ble_eq_true rfl) (Nat.le_of_ble_eq_true rfl)
theorem pg_268_1159 : mm_prog 268 1159 = some (0, .aload_n 2, 1160, []) := by decide +kernel
theorem xe_268_1159 (a0 a1 a3 : Option MV) (x : Int) (st : List MV) (μ : MM) (G : MG) : ev 268 1159 [a0, a1, some (vR x), a3] st μ G = ev 268 1160 [a0, a1, some (vR x), a3] (vR x :: st) μ G := ev_stp pg_268_1159 rfl
theorem pg_268_1160 : mm_prog 268 1160 = some (0, .aload_n 0, 1161, []) := by decide +kernel
theorem xe_268_1160 (a1 a2 a3 : Option MV) (x : Int) (st : List MV) (μ : MM) (G : MG) : ev 268 1160 [some (vR x), a1, a2, a3] st μ G = ev 268 1161 [some (vR x), a1, a2, a3] (vR x :: st) μ G := ev_stp pg_268_1160 rfl
theorem pg_268_1161 : mm_prog 268 1161 = some (0, .iload_n 3, 1162, []) := by decide +kernel
theorem xe_268_1161 (a0 a1 a2 : Option MV) (x : Int) (st : List MV) (μ : MM) (G : MG) : ev 268 1161 [a0, a1, a2, some (vI x)] st μ G = ev 268 1162 [a0, a1, a2, some (vI x)] (vI x :: st) μ G := ev_stp pg_268_1161 rfl
theorem pg_268_1162 : mm_prog 268 1162 = some (0, .iconst 1, 1163, []) := by decide +kernel
theorem xe_268_1162 (a0 a1 a2 a3 : Option MV) (st : List MV) (μ : MM) (G : MG) : ev 268 1162 [a0, a1, a2, a3] st μ G = ev 268 1163 [a0, a1, a2, a3] (vI (1) :: st) μ G := ev_stp pg_268_1162 rfl
theorem pg_268_1163 : mm_prog 268 1163 = some (0, .iadd, 1164, []) := by decide +kernel
theorem xe_268_1163 (a0 a1 a2 a3 : Option MV) (x y : Int) (st : List MV) (μ : MM) (G : MG) : ev 268 1163 [a0, a1, a2, a3] (vI y :: vI x :: st) μ G = ev 268 1164 [a0, a1, a2, a3] (vI (w32 (x + y)) :: st) μ G := ev_stp pg_268_1163 rfl
theorem pg_268_1164 : mm_prog 268 1164 = some (0, .iaload, 1165, []) := by decide +kernel
theorem xe_268_1164 (a0 a1 a2 a3 : Option MV) (x y : Int) (st : List MV) (μ : MM) (G : MG) : ev 268 1164 [a0, a1, a2, a3] (vI x :: vR y :: st) μ G = if gk G y = 100 ∧ 0 ≤ x ∧ x < gl G y then ev 268 1165 [a0, a1, a2, a3] (vI (μ y x) :: st) μ G else none := ev_if pg_268_1164 rfl
theorem pg_268_1165 : mm_prog 268 1165 = some (1, .invokevirtual 134, 1168, [1, 237, 1, 11]) := by decide +kernel
theorem xe_268_1165 (a0 a1 a2 a3 : Option MV) (x0 z r0 : Int) (μ : MM) (G : MG) : ev 268 1165 [a0, a1, a2, a3] (vI x0 :: vR z :: [vI r0]) μ G = if gk G z = 11 ∧ 0 < z then (ev 237 0 [some (vR z), some (vI x0), none] [] μ G).bind (fun q => ev 268 1168 [a0, a1, a2, a3] (q.1.toList ++ [vI r0]) q.2.1 q.2.2) else none := ev_calV (as := [vR z, vI x0]) (r := [vI r0]) mx_237 pg_268_1165 rfl rfl (Nat.le_of_ble_eq_true rfl) (Nat.le_of_ble_eq_true rfl)
theorem pg_268_1168 : mm_prog 268 1168 = some (0, .if_icmp .eq 110, 1171, []) := by decide +kernel
theorem xe_268_1168 (a0 a1 a2 a3 : Option MV) (x y : Int) (st : List MV) (μ : MM) (G : MG) : ev 268 1168 [a0, a1, a2, a3] (vI y :: vI x :: st) μ G = if x = y then ev 268 1278 [a0, a1, a2, a3] st μ G else ev 268 1171 [a0, a1, a2, a3] st μ G := ev_br (mm_cnd_eq x y) pg_268_1168 rfl
theorem pg_268_1171 : mm_prog 268 1171 = some (0, .iconst 0, 1172, []) := by decide +kernel
theorem xe_268_1171 (a0 a1 a2 a3 : Option MV) (st : List MV) (μ : MM) (G : MG) : ev 268 1171 [a0, a1, a2, a3] st μ G = ev 268 1172 [a0, a1, a2, a3] (vI (0) :: st) μ G := ev_stp pg_268_1171 rfl
theorem pg_268_1172 : mm_prog 268 1172 = some (2, .ireturn, 1173, [1]) := by decide +kernel
theorem xe_268_1172 (a0 a1 a2 a3 : Option MV) (x : Int) (μ : MM) (G : MG) : ev 268 1172 [a0, a1, a2, a3] [vI x] μ G = if x = 0 ∨ x = 1 then some (some (vI x), μ, G) else none := ev_retB pg_268_1172
theorem pg_268_1173 : mm_prog 268 1173 = some (0, .aload_n 1, 1174, []) := by decide +kernel
theorem xe_268_1173 (a0 a2 a3 : Option MV) (x : Int) (st : List MV) (μ : MM) (G : MG) : ev 268 1173 [a0, some (vR x), a2, a3] st μ G = ev 268 1174 [a0, some (vR x), a2, a3] (vR x :: st) μ G := ev_stp pg_268_1173 rfl
theorem pg_268_1174 : mm_prog 268 1174 = some (0, .aload_n 0, 1175, []) := by decide +kernel
theorem xe_268_1174 (a1 a2 a3 : Option MV) (x : Int) (st : List MV) (μ : MM) (G : MG) : ev 268 1174 [some (vR x), a1, a2, a3] st μ G = ev 268 1175 [some (vR x), a1, a2, a3] (vR x :: st) μ G := ev_stp pg_268_1174 rfl
theorem pg_268_1175 : mm_prog 268 1175 = some (0, .iload_n 3, 1176, []) := by decide +kernel
theorem xe_268_1175 (a0 a1 a2 : Option MV) (x : Int) (st : List MV) (μ : MM) (G : MG) : ev 268 1175 [a0, a1, a2, some (vI x)] st μ G = ev 268 1176 [a0, a1, a2, some (vI x)] (vI x :: st) μ G := ev_stp pg_268_1175 rfl
theorem pg_268_1176 : mm_prog 268 1176 = some (0, .iconst 1, 1177, []) := by decide +kernel
theorem xe_268_1176 (a0 a1 a2 a3 : Option MV) (st : List MV) (μ : MM) (G : MG) : ev 268 1176 [a0, a1, a2, a3] st μ G = ev 268 1177 [a0, a1, a2, a3] (vI (1) :: st) μ G := ev_stp pg_268_1176 rfl
theorem pg_268_1177 : mm_prog 268 1177 = some (0, .iadd, 1178, []) := by decide +kernel
theorem xe_268_1177 (a0 a1 a2 a3 : Option MV) (x y : Int) (st : List MV) (μ : MM) (G : MG) : ev 268 1177 [a0, a1, a2, a3] (vI y :: vI x :: st) μ G = ev 268 1178 [a0, a1, a2, a3] (vI (w32 (x + y)) :: st) μ G := ev_stp pg_268_1177 rfl
theorem pg_268_1178 : mm_prog 268 1178 = some (0, .iaload, 1179, []) := by decide +kernel
theorem xe_268_1178 (a0 a1 a2 a3 : Option MV) (x y : Int) (st : List MV) (μ : MM) (G : MG) : ev 268 1178 [a0, a1, a2, a3] (vI x :: vR y :: st) μ G = if gk G y = 100 ∧ 0 ≤ x ∧ x < gl G y then ev 268 1179 [a0, a1, a2, a3] (vI (μ y x) :: st) μ G else none := ev_if pg_268_1178 rfl
theorem pg_268_1179 : mm_prog 268 1179 = some (1, .invokevirtual 135, 1182, [1, 141, 1, 10]) := by decide +kernel
theorem xe_268_1179 (a0 a1 a2 a3 : Option MV) (x0 z : Int) (μ : MM) (G : MG) : ev 268 1179 [a0, a1, a2, a3] (vI x0 :: vR z :: []) μ G = if gk G z = 10 ∧ 0 < z then (ev 141 0 [some (vR z), some (vI x0), none, none] [] μ G).bind (fun q => ev 268 1182 [a0, a1, a2, a3] (q.1.toList ++ []) q.2.1 q.2.2) else none := ev_calV (as := [vR z, vI x0]) (r := []) mx_141 pg_268_1179 rfl rfl (Nat.le_of_ble_eq_true rfl) (Nat.le_of_ble_eq_true rfl)
theorem pg_268_1182 : mm_prog 268 1182 = some (0, .aload_n 2, 1183, []) := by decide +kernel
theorem xe_268_1182 (a0 a1 a3 : Option MV) (x : Int) (st : List MV) (μ : MM) (G : MG) : ev 268 1182 [a0, a1, some (vR x), a3] st μ G = ev 268 1183 [a0, a1, some (vR x), a3] (vR x :: st) μ G := ev_stp pg_268_1182 rfl
theorem pg_268_1183 : mm_prog 268 1183 = some (0, .aload_n 0, 1184, []) := by decide +kernel
theorem xe_268_1183 (a1 a2 a3 : Option MV) (x : Int) (st : List MV) (μ : MM) (G : MG) : ev 268 1183 [some (vR x), a1, a2, a3] st μ G = ev 268 1184 [some (vR x), a1, a2, a3] (vR x :: st) μ G := ev_stp pg_268_1183 rfl
theorem pg_268_1184 : mm_prog 268 1184 = some (0, .iload_n 3, 1185, []) := by decide +kernel
theorem xe_268_1184 (a0 a1 a2 : Option MV) (x : Int) (st : List MV) (μ : MM) (G : MG) : ev 268 1184 [a0, a1, a2, some (vI x)] st μ G = ev 268 1185 [a0, a1, a2, some (vI x)] (vI x :: st) μ G := ev_stp pg_268_1184 rfl
theorem pg_268_1185 : mm_prog 268 1185 = some (0, .iconst 1, 1186, []) := by decide +kernel
theorem xe_268_1185 (a0 a1 a2 a3 : Option MV) (st : List MV) (μ : MM) (G : MG) : ev 268 1185 [a0, a1, a2, a3] st μ G = ev 268 1186 [a0, a1, a2, a3] (vI (1) :: st) μ G := ev_stp pg_268_1185 rfl
theorem pg_268_1186 : mm_prog 268 1186 = some (0, .iadd, 1187, []) := by decide +kernel
theorem xe_268_1186 (a0 a1 a2 a3 : Option MV) (x y : Int) (st : List MV) (μ : MM) (G : MG) : ev 268 1186 [a0, a1, a2, a3] (vI y :: vI x :: st) μ G = ev 268 1187 [a0, a1, a2, a3] (vI (w32 (x + y)) :: st) μ G := ev_stp pg_268_1186 rfl
theorem pg_268_1187 : mm_prog 268 1187 = some (0, .iaload, 1188, []) := by decide +kernel
theorem xe_268_1187 (a0 a1 a2 a3 : Option MV) (x y : Int) (st : List MV) (μ : MM) (G : MG) : ev 268 1187 [a0, a1, a2, a3] (vI x :: vR y :: st) μ G = if gk G y = 100 ∧ 0 ≤ x ∧ x < gl G y then ev 268 1188 [a0, a1, a2, a3] (vI (μ y x) :: st) μ G else none := ev_if pg_268_1187 rfl
theorem pg_268_1188 : mm_prog 268 1188 = some (1, .invokevirtual 138, 1191, [1, 238, 1, 11]) := by decide +kernel
theorem xe_268_1188 (a0 a1 a2 a3 : Option MV) (x0 z r0 : Int) (μ : MM) (G : MG) : ev 268 1188 [a0, a1, a2, a3] (vI x0 :: vR z :: [vI r0]) μ G = if gk G z = 11 ∧ 0 < z then (ev 238 0 [some (vR z), some (vI x0), none, none] [] μ G).bind (fun q => ev 268 1191 [a0, a1, a2, a3] (q.1.toList ++ [vI r0]) q.2.1 q.2.2) else none := ev_calV (as := [vR z, vI x0]) (r := [vI r0]) mx_238 pg_268_1188 rfl rfl (Nat.le_of_ble_eq_true rfl) (Nat.le_of_ble_eq_true rfl)
theorem pg_268_1191 : mm_prog 268 1191 = some (0, .if_icmp .eq 87, 1194, []) := by decide +kernel
theorem xe_268_1191 (a0 a1 a2 a3 : Option MV) (x y : Int) (st : List MV) (μ : MM) (G : MG) : ev 268 1191 [a0, a1, a2, a3] (vI y :: vI x :: st) μ G = if x = y then ev 268 1278 [a0, a1, a2, a3] st μ G else ev 268 1194 [a0, a1, a2, a3] st μ G := ev_br (mm_cnd_eq x y) pg_268_1191 rfl
theorem pg_268_1194 : mm_prog 268 1194 = some (0, .iconst 0, 1195, []) := by decide +kernel
theorem xe_268_1194 (a0 a1 a2 a3 : Option MV) (st : List MV) (μ : MM) (G : MG) : ev 268 1194 [a0, a1, a2, a3] st μ G = ev 268 1195 [a0, a1, a2, a3] (vI (0) :: st) μ G := ev_stp pg_268_1194 rfl
theorem pg_268_1195 : mm_prog 268 1195 = some (2, .ireturn, 1196, [1]) := by decide +kernel
theorem xe_268_1195 (a0 a1 a2 a3 : Option MV) (x : Int) (μ : MM) (G : MG) : ev 268 1195 [a0, a1, a2, a3] [vI x] μ G = if x = 0 ∨ x = 1 then some (some (vI x), μ, G) else none := ev_retB pg_268_1195
theorem pg_268_1196 : mm_prog 268 1196 = some (0, .aload_n 1, 1197, []) := by decide +kernel
theorem xe_268_1196 (a0 a2 a3 : Option MV) (x : Int) (st : List MV) (μ : MM) (G : MG) : ev 268 1196 [a0, some (vR x), a2, a3] st μ G = ev 268 1197 [a0, some (vR x), a2, a3] (vR x :: st) μ G := ev_stp pg_268_1196 rfl
theorem pg_268_1197 : mm_prog 268 1197 = some (0, .aload_n 0, 1198, []) := by decide +kernel
theorem xe_268_1197 (a1 a2 a3 : Option MV) (x : Int) (st : List MV) (μ : MM) (G : MG) : ev 268 1197 [some (vR x), a1, a2, a3] st μ G = ev 268 1198 [some (vR x), a1, a2, a3] (vR x :: st) μ G := ev_stp pg_268_1197 rfl
theorem pg_268_1198 : mm_prog 268 1198 = some (0, .iload_n 3, 1199, []) := by decide +kernel
theorem xe_268_1198 (a0 a1 a2 : Option MV) (x : Int) (st : List MV) (μ : MM) (G : MG) : ev 268 1198 [a0, a1, a2, some (vI x)] st μ G = ev 268 1199 [a0, a1, a2, some (vI x)] (vI x :: st) μ G := ev_stp pg_268_1198 rfl
theorem pg_268_1199 : mm_prog 268 1199 = some (0, .iconst 1, 1200, []) := by decide +kernel
theorem xe_268_1199 (a0 a1 a2 a3 : Option MV) (st : List MV) (μ : MM) (G : MG) : ev 268 1199 [a0, a1, a2, a3] st μ G = ev 268 1200 [a0, a1, a2, a3] (vI (1) :: st) μ G := ev_stp pg_268_1199 rfl
theorem pg_268_1200 : mm_prog 268 1200 = some (0, .iadd, 1201, []) := by decide +kernel
theorem xe_268_1200 (a0 a1 a2 a3 : Option MV) (x y : Int) (st : List MV) (μ : MM) (G : MG) : ev 268 1200 [a0, a1, a2, a3] (vI y :: vI x :: st) μ G = ev 268 1201 [a0, a1, a2, a3] (vI (w32 (x + y)) :: st) μ G := ev_stp pg_268_1200 rfl
theorem pg_268_1201 : mm_prog 268 1201 = some (0, .iaload, 1202, []) := by decide +kernel
theorem xe_268_1201 (a0 a1 a2 a3 : Option MV) (x y : Int) (st : List MV) (μ : MM) (G : MG) : ev 268 1201 [a0, a1, a2, a3] (vI x :: vR y :: st) μ G = if gk G y = 100 ∧ 0 ≤ x ∧ x < gl G y then ev 268 1202 [a0, a1, a2, a3] (vI (μ y x) :: st) μ G else none := ev_if pg_268_1201 rfl
theorem pg_268_1202 : mm_prog 268 1202 = some (1, .invokevirtual 139, 1205, [1, 142, 1, 10]) := by decide +kernel
theorem xe_268_1202 (a0 a1 a2 a3 : Option MV) (x0 z : Int) (μ : MM) (G : MG) : ev 268 1202 [a0, a1, a2, a3] (vI x0 :: vR z :: []) μ G = if gk G z = 10 ∧ 0 < z then (ev 142 0 [some (vR z), some (vI x0), none, none, none, none, none, none, none, none] [] μ G).bind (fun q => ev 268 1205 [a0, a1, a2, a3] (q.1.toList ++ []) q.2.1 q.2.2) else none := ev_calV (as := [vR z, vI x0]) (r := []) mx_142 pg_268_1202 rfl rfl (Nat.le_of_ble_eq_true rfl) (Nat.le_of_ble_eq_true rfl)
theorem pg_268_1205 : mm_prog 268 1205 = some (0, .aload_n 2, 1206, []) := by decide +kernel
theorem xe_268_1205 (a0 a1 a3 : Option MV) (x : Int) (st : List MV) (μ : MM) (G : MG) : ev 268 1205 [a0, a1, some (vR x), a3] st μ G = ev 268 1206 [a0, a1, some (vR x), a3] (vR x :: st) μ G := ev_stp pg_268_1205 rfl
theorem pg_268_1206 : mm_prog 268 1206 = some (0, .aload_n 0, 1207, []) := by decide +kernel
theorem xe_268_1206 (a1 a2 a3 : Option MV) (x : Int) (st : List MV) (μ : MM) (G : MG) : ev 268 1206 [some (vR x), a1, a2, a3] st μ G = ev 268 1207 [some (vR x), a1, a2, a3] (vR x :: st) μ G := ev_stp pg_268_1206 rfl
theorem pg_268_1207 : mm_prog 268 1207 = some (0, .iload_n 3, 1208, []) := by decide +kernel
theorem xe_268_1207 (a0 a1 a2 : Option MV) (x : Int) (st : List MV) (μ : MM) (G : MG) : ev 268 1207 [a0, a1, a2, some (vI x)] st μ G = ev 268 1208 [a0, a1, a2, some (vI x)] (vI x :: st) μ G := ev_stp pg_268_1207 rfl
theorem pg_268_1208 : mm_prog 268 1208 = some (0, .iconst 1, 1209, []) := by decide +kernel
theorem xe_268_1208 (a0 a1 a2 a3 : Option MV) (st : List MV) (μ : MM) (G : MG) : ev 268 1208 [a0, a1, a2, a3] st μ G = ev 268 1209 [a0, a1, a2, a3] (vI (1) :: st) μ G := ev_stp pg_268_1208 rfl
theorem pg_268_1209 : mm_prog 268 1209 = some (0, .iadd, 1210, []) := by decide +kernel
theorem xe_268_1209 (a0 a1 a2 a3 : Option MV) (x y : Int) (st : List MV) (μ : MM) (G : MG) : ev 268 1209 [a0, a1, a2, a3] (vI y :: vI x :: st) μ G = ev 268 1210 [a0, a1, a2, a3] (vI (w32 (x + y)) :: st) μ G := ev_stp pg_268_1209 rfl
theorem pg_268_1210 : mm_prog 268 1210 = some (0, .iaload, 1211, []) := by decide +kernel
theorem xe_268_1210 (a0 a1 a2 a3 : Option MV) (x y : Int) (st : List MV) (μ : MM) (G : MG) : ev 268 1210 [a0, a1, a2, a3] (vI x :: vR y :: st) μ G = if gk G y = 100 ∧ 0 ≤ x ∧ x < gl G y then ev 268 1211 [a0, a1, a2, a3] (vI (μ y x) :: st) μ G else none := ev_if pg_268_1210 rfl
theorem pg_268_1211 : mm_prog 268 1211 = some (1, .invokevirtual 142, 1214, [1, 241, 1, 11]) := by decide +kernel
theorem xe_268_1211 (a0 a1 a2 a3 : Option MV) (x0 z r0 : Int) (μ : MM) (G : MG) : ev 268 1211 [a0, a1, a2, a3] (vI x0 :: vR z :: [vI r0]) μ G = if gk G z = 11 ∧ 0 < z then (ev 241 0 [some (vR z), some (vI x0), none] [] μ G).bind (fun q => ev 268 1214 [a0, a1, a2, a3] (q.1.toList ++ [vI r0]) q.2.1 q.2.2) else none := ev_calV (as := [vR z, vI x0]) (r := [vI r0]) mx_241 pg_268_1211 rfl rfl (Nat.le_of_ble_eq_true rfl) (Nat.le_of_ble_eq_true rfl)
theorem pg_268_1214 : mm_prog 268 1214 = some (0, .if_icmp .eq 64, 1217, []) := by decide +kernel
theorem xe_268_1214 (a0 a1 a2 a3 : Option MV) (x y : Int) (st : List MV) (μ : MM) (G : MG) : ev 268 1214 [a0, a1, a2, a3] (vI y :: vI x :: st) μ G = if x = y then ev 268 1278 [a0, a1, a2, a3] st μ G else ev 268 1217 [a0, a1, a2, a3] st μ G := ev_br (mm_cnd_eq x y) pg_268_1214 rfl
theorem pg_268_1217 : mm_prog 268 1217 = some (0, .iconst 0, 1218, []) := by decide +kernel
theorem xe_268_1217 (a0 a1 a2 a3 : Option MV) (st : List MV) (μ : MM) (G : MG) : ev 268 1217 [a0, a1, a2, a3] st μ G = ev 268 1218 [a0, a1, a2, a3] (vI (0) :: st) μ G := ev_stp pg_268_1217 rfl
theorem pg_268_1218 : mm_prog 268 1218 = some (2, .ireturn, 1219, [1]) := by decide +kernel
theorem xe_268_1218 (a0 a1 a2 a3 : Option MV) (x : Int) (μ : MM) (G : MG) : ev 268 1218 [a0, a1, a2, a3] [vI x] μ G = if x = 0 ∨ x = 1 then some (some (vI x), μ, G) else none := ev_retB pg_268_1218
theorem pg_268_1219 : mm_prog 268 1219 = some (0, .aload_n 1, 1220, []) := by decide +kernel
theorem xe_268_1219 (a0 a2 a3 : Option MV) (x : Int) (st : List MV) (μ : MM) (G : MG) : ev 268 1219 [a0, some (vR x), a2, a3] st μ G = ev 268 1220 [a0, some (vR x), a2, a3] (vR x :: st) μ G := ev_stp pg_268_1219 rfl
theorem pg_268_1220 : mm_prog 268 1220 = some (1, .invokevirtual 143, 1223, [1, 144, 0, 10]) := by decide +kernel
theorem xe_268_1220 (a0 a1 a2 a3 : Option MV) (z : Int) (μ : MM) (G : MG) : ev 268 1220 [a0, a1, a2, a3] (vR z :: []) μ G = if gk G z = 10 ∧ 0 < z then (ev 144 0 [some (vR z), none, none] [] μ G).bind (fun q => ev 268 1223 [a0, a1, a2, a3] (q.1.toList ++ []) q.2.1 q.2.2) else none := ev_calV (as := [vR z]) (r := []) mx_144 pg_268_1220 rfl rfl (Nat.le_of_ble_eq_true rfl) (Nat.le_of_ble_eq_true rfl)
theorem pg_268_1223 : mm_prog 268 1223 = some (0, .aload_n 2, 1224, []) := by decide +kernel
theorem xe_268_1223 (a0 a1 a3 : Option MV) (x : Int) (st : List MV) (μ : MM) (G : MG) : ev 268 1223 [a0, a1, some (vR x), a3] st μ G = ev 268 1224 [a0, a1, some (vR x), a3] (vR x :: st) μ G := ev_stp pg_268_1223 rfl
theorem pg_268_1224 : mm_prog 268 1224 = some (1, .invokevirtual 146, 1227, [1, 242, 0, 11]) := by decide +kernel
theorem xe_268_1224 (a0 a1 a2 a3 : Option MV) (z r0 : Int) (μ : MM) (G : MG) : ev 268 1224 [a0, a1, a2, a3] (vR z :: [vI r0]) μ G = if gk G z = 11 ∧ 0 < z then (ev 242 0 [some (vR z), none, none, none] [] μ G).bind (fun q => ev 268 1227 [a0, a1, a2, a3] (q.1.toList ++ [vI r0]) q.2.1 q.2.2) else none := ev_calV (as := [vR z]) (r := [vI r0]) mx_242 pg_268_1224 rfl rfl (Nat.le_of_ble_eq_true rfl) (Nat.le_of_ble_eq_true rfl)
theorem pg_268_1227 : mm_prog 268 1227 = some (0, .if_icmp .eq 51, 1230, []) := by decide +kernel
theorem xe_268_1227 (a0 a1 a2 a3 : Option MV) (x y : Int) (st : List MV) (μ : MM) (G : MG) : ev 268 1227 [a0, a1, a2, a3] (vI y :: vI x :: st) μ G = if x = y then ev 268 1278 [a0, a1, a2, a3] st μ G else ev 268 1230 [a0, a1, a2, a3] st μ G := ev_br (mm_cnd_eq x y) pg_268_1227 rfl
theorem pg_268_1230 : mm_prog 268 1230 = some (0, .iconst 0, 1231, []) := by decide +kernel
theorem xe_268_1230 (a0 a1 a2 a3 : Option MV) (st : List MV) (μ : MM) (G : MG) : ev 268 1230 [a0, a1, a2, a3] st μ G = ev 268 1231 [a0, a1, a2, a3] (vI (0) :: st) μ G := ev_stp pg_268_1230 rfl
theorem pg_268_1231 : mm_prog 268 1231 = some (2, .ireturn, 1232, [1]) := by decide +kernel
theorem xe_268_1231 (a0 a1 a2 a3 : Option MV) (x : Int) (μ : MM) (G : MG) : ev 268 1231 [a0, a1, a2, a3] [vI x] μ G = if x = 0 ∨ x = 1 then some (some (vI x), μ, G) else none := ev_retB pg_268_1231
theorem pg_268_1232 : mm_prog 268 1232 = some (0, .aload_n 1, 1233, []) := by decide +kernel
theorem xe_268_1232 (a0 a2 a3 : Option MV) (x : Int) (st : List MV) (μ : MM) (G : MG) : ev 268 1232 [a0, some (vR x), a2, a3] st μ G = ev 268 1233 [a0, some (vR x), a2, a3] (vR x :: st) μ G := ev_stp pg_268_1232 rfl
theorem pg_268_1233 : mm_prog 268 1233 = some (0, .aload_n 0, 1234, []) := by decide +kernel
theorem xe_268_1233 (a1 a2 a3 : Option MV) (x : Int) (st : List MV) (μ : MM) (G : MG) : ev 268 1233 [some (vR x), a1, a2, a3] st μ G = ev 268 1234 [some (vR x), a1, a2, a3] (vR x :: st) μ G := ev_stp pg_268_1233 rfl
theorem pg_268_1234 : mm_prog 268 1234 = some (0, .iload_n 3, 1235, []) := by decide +kernel
theorem xe_268_1234 (a0 a1 a2 : Option MV) (x : Int) (st : List MV) (μ : MM) (G : MG) : ev 268 1234 [a0, a1, a2, some (vI x)] st μ G = ev 268 1235 [a0, a1, a2, some (vI x)] (vI x :: st) μ G := ev_stp pg_268_1234 rfl
theorem pg_268_1235 : mm_prog 268 1235 = some (0, .iconst 1, 1236, []) := by decide +kernel
theorem xe_268_1235 (a0 a1 a2 a3 : Option MV) (st : List MV) (μ : MM) (G : MG) : ev 268 1235 [a0, a1, a2, a3] st μ G = ev 268 1236 [a0, a1, a2, a3] (vI (1) :: st) μ G := ev_stp pg_268_1235 rfl
theorem pg_268_1236 : mm_prog 268 1236 = some (0, .iadd, 1237, []) := by decide +kernel
theorem xe_268_1236 (a0 a1 a2 a3 : Option MV) (x y : Int) (st : List MV) (μ : MM) (G : MG) : ev 268 1236 [a0, a1, a2, a3] (vI y :: vI x :: st) μ G = ev 268 1237 [a0, a1, a2, a3] (vI (w32 (x + y)) :: st) μ G := ev_stp pg_268_1236 rfl
theorem pg_268_1237 : mm_prog 268 1237 = some (0, .iaload, 1238, []) := by decide +kernel
theorem xe_268_1237 (a0 a1 a2 a3 : Option MV) (x y : Int) (st : List MV) (μ : MM) (G : MG) : ev 268 1237 [a0, a1, a2, a3] (vI x :: vR y :: st) μ G = if gk G y = 100 ∧ 0 ≤ x ∧ x < gl G y then ev 268 1238 [a0, a1, a2, a3] (vI (μ y x) :: st) μ G else none := ev_if pg_268_1237 rfl
theorem pg_268_1238 : mm_prog 268 1238 = some (1, .invokevirtual 147, 1241, [1, 145, 1, 10]) := by decide +kernel
theorem xe_268_1238 (a0 a1 a2 a3 : Option MV) (x0 z : Int) (μ : MM) (G : MG) : ev 268 1238 [a0, a1, a2, a3] (vI x0 :: vR z :: []) μ G = if gk G z = 10 ∧ 0 < z then (ev 145 0 [some (vR z), some (vI x0)] [] μ G).bind (fun q => ev 268 1241 [a0, a1, a2, a3] (q.1.toList ++ []) q.2.1 q.2.2) else none := ev_calV (as := [vR z, vI x0]) (r := []) mx_145 pg_268_1238 rfl rfl (Nat.le_of_ble_eq_true rfl) (Nat.le_of_ble_eq_true rfl)
theorem pg_268_1241 : mm_prog 268 1241 = some (0, .aload_n 2, 1242, []) := by decide +kernel
theorem xe_268_1241 (a0 a1 a3 : Option MV) (x : Int) (st : List MV) (μ : MM) (G : MG) : ev 268 1241 [a0, a1, some (vR x), a3] st μ G = ev 268 1242 [a0, a1, some (vR x), a3] (vR x :: st) μ G := ev_stp pg_268_1241 rfl
theorem pg_268_1242 : mm_prog 268 1242 = some (0, .aload_n 0, 1243, []) := by decide +kernel
theorem xe_268_1242 (a1 a2 a3 : Option MV) (x : Int) (st : List MV) (μ : MM) (G : MG) : ev 268 1242 [some (vR x), a1, a2, a3] st μ G = ev 268 1243 [some (vR x), a1, a2, a3] (vR x :: st) μ G := ev_stp pg_268_1242 rfl
theorem pg_268_1243 : mm_prog 268 1243 = some (0, .iload_n 3, 1244, []) := by decide +kernel
theorem xe_268_1243 (a0 a1 a2 : Option MV) (x : Int) (st : List MV) (μ : MM) (G : MG) : ev 268 1243 [a0, a1, a2, some (vI x)] st μ G = ev 268 1244 [a0, a1, a2, some (vI x)] (vI x :: st) μ G := ev_stp pg_268_1243 rfl
theorem pg_268_1244 : mm_prog 268 1244 = some (0, .iconst 1, 1245, []) := by decide +kernel
theorem xe_268_1244 (a0 a1 a2 a3 : Option MV) (st : List MV) (μ : MM) (G : MG) : ev 268 1244 [a0, a1, a2, a3] st μ G = ev 268 1245 [a0, a1, a2, a3] (vI (1) :: st) μ G := ev_stp pg_268_1244 rfl
theorem pg_268_1245 : mm_prog 268 1245 = some (0, .iadd, 1246, []) := by decide +kernel
theorem xe_268_1245 (a0 a1 a2 a3 : Option MV) (x y : Int) (st : List MV) (μ : MM) (G : MG) : ev 268 1245 [a0, a1, a2, a3] (vI y :: vI x :: st) μ G = ev 268 1246 [a0, a1, a2, a3] (vI (w32 (x + y)) :: st) μ G := ev_stp pg_268_1245 rfl
theorem pg_268_1246 : mm_prog 268 1246 = some (0, .iaload, 1247, []) := by decide +kernel
theorem xe_268_1246 (a0 a1 a2 a3 : Option MV) (x y : Int) (st : List MV) (μ : MM) (G : MG) : ev 268 1246 [a0, a1, a2, a3] (vI x :: vR y :: st) μ G = if gk G y = 100 ∧ 0 ≤ x ∧ x < gl G y then ev 268 1247 [a0, a1, a2, a3] (vI (μ y x) :: st) μ G else none := ev_if pg_268_1246 rfl
theorem pg_268_1247 : mm_prog 268 1247 = some (1, .invokevirtual 150, 1250, [1, 243, 1, 11]) := by decide +kernel
theorem xe_268_1247 (a0 a1 a2 a3 : Option MV) (x0 z r0 : Int) (μ : MM) (G : MG) : ev 268 1247 [a0, a1, a2, a3] (vI x0 :: vR z :: [vI r0]) μ G = if gk G z = 11 ∧ 0 < z then (ev 243 0 [some (vR z), some (vI x0), none] [] μ G).bind (fun q => ev 268 1250 [a0, a1, a2, a3] (q.1.toList ++ [vI r0]) q.2.1 q.2.2) else none := ev_calV (as := [vR z, vI x0]) (r := [vI r0]) mx_243 pg_268_1247 rfl rfl (Nat.le_of_ble_eq_true rfl) (Nat.le_of_ble_eq_true rfl)
theorem pg_268_1250 : mm_prog 268 1250 = some (0, .if_icmp .eq 28, 1253, []) := by decide +kernel
theorem xe_268_1250 (a0 a1 a2 a3 : Option MV) (x y : Int) (st : List MV) (μ : MM) (G : MG) : ev 268 1250 [a0, a1, a2, a3] (vI y :: vI x :: st) μ G = if x = y then ev 268 1278 [a0, a1, a2, a3] st μ G else ev 268 1253 [a0, a1, a2, a3] st μ G := ev_br (mm_cnd_eq x y) pg_268_1250 rfl
theorem pg_268_1253 : mm_prog 268 1253 = some (0, .iconst 0, 1254, []) := by decide +kernel
theorem xe_268_1253 (a0 a1 a2 a3 : Option MV) (st : List MV) (μ : MM) (G : MG) : ev 268 1253 [a0, a1, a2, a3] st μ G = ev 268 1254 [a0, a1, a2, a3] (vI (0) :: st) μ G := ev_stp pg_268_1253 rfl
theorem pg_268_1254 : mm_prog 268 1254 = some (2, .ireturn, 1255, [1]) := by decide +kernel
theorem xe_268_1254 (a0 a1 a2 a3 : Option MV) (x : Int) (μ : MM) (G : MG) : ev 268 1254 [a0, a1, a2, a3] [vI x] μ G = if x = 0 ∨ x = 1 then some (some (vI x), μ, G) else none := ev_retB pg_268_1254
theorem pg_268_1255 : mm_prog 268 1255 = some (0, .aload_n 1, 1256, []) := by decide +kernel
theorem xe_268_1255 (a0 a2 a3 : Option MV) (x : Int) (st : List MV) (μ : MM) (G : MG) : ev 268 1255 [a0, some (vR x), a2, a3] st μ G = ev 268 1256 [a0, some (vR x), a2, a3] (vR x :: st) μ G := ev_stp pg_268_1255 rfl
theorem pg_268_1256 : mm_prog 268 1256 = some (0, .aload_n 0, 1257, []) := by decide +kernel
theorem xe_268_1256 (a1 a2 a3 : Option MV) (x : Int) (st : List MV) (μ : MM) (G : MG) : ev 268 1256 [some (vR x), a1, a2, a3] st μ G = ev 268 1257 [some (vR x), a1, a2, a3] (vR x :: st) μ G := ev_stp pg_268_1256 rfl
theorem pg_268_1257 : mm_prog 268 1257 = some (0, .iload_n 3, 1258, []) := by decide +kernel
theorem xe_268_1257 (a0 a1 a2 : Option MV) (x : Int) (st : List MV) (μ : MM) (G : MG) : ev 268 1257 [a0, a1, a2, some (vI x)] st μ G = ev 268 1258 [a0, a1, a2, some (vI x)] (vI x :: st) μ G := ev_stp pg_268_1257 rfl
theorem pg_268_1258 : mm_prog 268 1258 = some (0, .iconst 1, 1259, []) := by decide +kernel
theorem xe_268_1258 (a0 a1 a2 a3 : Option MV) (st : List MV) (μ : MM) (G : MG) : ev 268 1258 [a0, a1, a2, a3] st μ G = ev 268 1259 [a0, a1, a2, a3] (vI (1) :: st) μ G := ev_stp pg_268_1258 rfl
theorem pg_268_1259 : mm_prog 268 1259 = some (0, .iadd, 1260, []) := by decide +kernel
theorem xe_268_1259 (a0 a1 a2 a3 : Option MV) (x y : Int) (st : List MV) (μ : MM) (G : MG) : ev 268 1259 [a0, a1, a2, a3] (vI y :: vI x :: st) μ G = ev 268 1260 [a0, a1, a2, a3] (vI (w32 (x + y)) :: st) μ G := ev_stp pg_268_1259 rfl
theorem pg_268_1260 : mm_prog 268 1260 = some (0, .iaload, 1261, []) := by decide +kernel
theorem xe_268_1260 (a0 a1 a2 a3 : Option MV) (x y : Int) (st : List MV) (μ : MM) (G : MG) : ev 268 1260 [a0, a1, a2, a3] (vI x :: vR y :: st) μ G = if gk G y = 100 ∧ 0 ≤ x ∧ x < gl G y then ev 268 1261 [a0, a1, a2, a3] (vI (μ y x) :: st) μ G else none := ev_if pg_268_1260 rfl
theorem pg_268_1261 : mm_prog 268 1261 = some (1, .invokevirtual 151, 1264, [1, 146, 1, 10]) := by decide +kernel
theorem xe_268_1261 (a0 a1 a2 a3 : Option MV) (x0 z : Int) (μ : MM) (G : MG) : ev 268 1261 [a0, a1, a2, a3] (vI x0 :: vR z :: []) μ G = if gk G z = 10 ∧ 0 < z then (ev 146 0 [some (vR z), some (vI x0)] [] μ G).bind (fun q => ev 268 1264 [a0, a1, a2, a3] (q.1.toList ++ []) q.2.1 q.2.2) else none := ev_calV (as := [vR z, vI x0]) (r := []) mx_146 pg_268_1261 rfl rfl (Nat.le_of_ble_eq_true rfl) (Nat.le_of_ble_eq_true rfl)
theorem pg_268_1264 : mm_prog 268 1264 = some (0, .aload_n 2, 1265, []) := by decide +kernel
theorem xe_268_1264 (a0 a1 a3 : Option MV) (x : Int) (st : List MV) (μ : MM) (G : MG) : ev 268 1264 [a0, a1, some (vR x), a3] st μ G = ev 268 1265 [a0, a1, some (vR x), a3] (vR x :: st) μ G := ev_stp pg_268_1264 rfl
theorem pg_268_1265 : mm_prog 268 1265 = some (0, .aload_n 0, 1266, []) := by decide +kernel
theorem xe_268_1265 (a1 a2 a3 : Option MV) (x : Int) (st : List MV) (μ : MM) (G : MG) : ev 268 1265 [some (vR x), a1, a2, a3] st μ G = ev 268 1266 [some (vR x), a1, a2, a3] (vR x :: st) μ G := ev_stp pg_268_1265 rfl
theorem pg_268_1266 : mm_prog 268 1266 = some (0, .iload_n 3, 1267, []) := by decide +kernel
theorem xe_268_1266 (a0 a1 a2 : Option MV) (x : Int) (st : List MV) (μ : MM) (G : MG) : ev 268 1266 [a0, a1, a2, some (vI x)] st μ G = ev 268 1267 [a0, a1, a2, some (vI x)] (vI x :: st) μ G := ev_stp pg_268_1266 rfl
theorem pg_268_1267 : mm_prog 268 1267 = some (0, .iconst 1, 1268, []) := by decide +kernel
theorem xe_268_1267 (a0 a1 a2 a3 : Option MV) (st : List MV) (μ : MM) (G : MG) : ev 268 1267 [a0, a1, a2, a3] st μ G = ev 268 1268 [a0, a1, a2, a3] (vI (1) :: st) μ G := ev_stp pg_268_1267 rfl
theorem pg_268_1268 : mm_prog 268 1268 = some (0, .iadd, 1269, []) := by decide +kernel
theorem xe_268_1268 (a0 a1 a2 a3 : Option MV) (x y : Int) (st : List MV) (μ : MM) (G : MG) : ev 268 1268 [a0, a1, a2, a3] (vI y :: vI x :: st) μ G = ev 268 1269 [a0, a1, a2, a3] (vI (w32 (x + y)) :: st) μ G := ev_stp pg_268_1268 rfl
theorem pg_268_1269 : mm_prog 268 1269 = some (0, .iaload, 1270, []) := by decide +kernel
theorem xe_268_1269 (a0 a1 a2 a3 : Option MV) (x y : Int) (st : List MV) (μ : MM) (G : MG) : ev 268 1269 [a0, a1, a2, a3] (vI x :: vR y :: st) μ G = if gk G y = 100 ∧ 0 ≤ x ∧ x < gl G y then ev 268 1270 [a0, a1, a2, a3] (vI (μ y x) :: st) μ G else none := ev_if pg_268_1269 rfl
theorem pg_268_1270 : mm_prog 268 1270 = some (1, .invokevirtual 154, 1273, [1, 244, 1, 11]) := by decide +kernel
theorem xe_268_1270 (a0 a1 a2 a3 : Option MV) (x0 z r0 : Int) (μ : MM) (G : MG) : ev 268 1270 [a0, a1, a2, a3] (vI x0 :: vR z :: [vI r0]) μ G = if gk G z = 11 ∧ 0 < z then (ev 244 0 [some (vR z), some (vI x0)] [] μ G).bind (fun q => ev 268 1273 [a0, a1, a2, a3] (q.1.toList ++ [vI r0]) q.2.1 q.2.2) else none := ev_calV (as := [vR z, vI x0]) (r := [vI r0]) mx_244 pg_268_1270 rfl rfl (Nat.le_of_ble_eq_true rfl) (Nat.le_of_ble_eq_true rfl)
theorem pg_268_1273 : mm_prog 268 1273 = some (0, .if_icmp .eq 5, 1276, []) := by decide +kernel
theorem xe_268_1273 (a0 a1 a2 a3 : Option MV) (x y : Int) (st : List MV) (μ : MM) (G : MG) : ev 268 1273 [a0, a1, a2, a3] (vI y :: vI x :: st) μ G = if x = y then ev 268 1278 [a0, a1, a2, a3] st μ G else ev 268 1276 [a0, a1, a2, a3] st μ G := ev_br (mm_cnd_eq x y) pg_268_1273 rfl
theorem pg_268_1276 : mm_prog 268 1276 = some (0, .iconst 0, 1277, []) := by decide +kernel
theorem xe_268_1276 (a0 a1 a2 a3 : Option MV) (st : List MV) (μ : MM) (G : MG) : ev 268 1276 [a0, a1, a2, a3] st μ G = ev 268 1277 [a0, a1, a2, a3] (vI (0) :: st) μ G := ev_stp pg_268_1276 rfl
theorem pg_268_1277 : mm_prog 268 1277 = some (2, .ireturn, 1278, [1]) := by decide +kernel
theorem xe_268_1277 (a0 a1 a2 a3 : Option MV) (x : Int) (μ : MM) (G : MG) : ev 268 1277 [a0, a1, a2, a3] [vI x] μ G = if x = 0 ∨ x = 1 then some (some (vI x), μ, G) else none := ev_retB pg_268_1277
theorem pg_268_1278 : mm_prog 268 1278 = some (0, .iinc 3 7, 1281, []) := by decide +kernel
theorem xe_268_1278 (a0 a1 a2 : Option MV) (x : Int) (st : List MV) (μ : MM) (G : MG) (h : mm_nL a2 = true) : ev 268 1278 [a0, a1, a2, some (vI x)] st μ G = ev 268 1281 [a0, a1, a2, some (vI (w32 (x + (7))))] st μ G := ev_st pg_268_1278 rfl (mm_nl_of h) (Nat.le_of_ble_eq_true rfl)
theorem pg_268_1281 : mm_prog 268 1281 = some (0, .goto (-1263), 1284, []) := by decide +kernel
theorem xe_268_1281 (a0 a1 a2 a3 : Option MV) (st : List MV) (μ : MM) (G : MG) : ev 268 1281 [a0, a1, a2, a3] st μ G = ev 268 18 [a0, a1, a2, a3] st μ G := ev_stp pg_268_1281 rfl
theorem pg_268_1284 : mm_prog 268 1284 = some (0, .iconst 1, 1285, []) := by decide +kernel
theorem xe_268_1284 (a0 a1 a2 a3 : Option MV) (st : List MV) (μ : MM) (G : MG) : ev 268 1284 [a0, a1, a2, a3] st μ G = ev 268 1285 [a0, a1, a2, a3] (vI (1) :: st) μ G := ev_stp pg_268_1284 rfl
theorem pg_268_1285 : mm_prog 268 1285 = some (2, .ireturn, 1286, [1]) := by decide +kernel
theorem xe_268_1285 (a0 a1 a2 a3 : Option MV) (x : Int) (μ : MM) (G : MG) : ev 268 1285 [a0, a1, a2, a3] [vI x] μ G = if x = 0 ∨ x = 1 then some (some (vI x), μ, G) else none := ev_retB pg_268_1285
