-- L_law
theorem pg_265_0 : mm_prog 265 0 = some (0, .new 7, 3, [10, 14]) := by decide +kernel
theorem xe_265_0 (a0 a1 a2 a3 : Option MV) (st : List MV) (μ : MM) (G : MG) : ev 265 0 [a0, a1, a2, a3] st μ G = ev 265 3 [a0, a1, a2, a3] (vR G.2.1 :: st) (mzero μ G.2.1) (gnew G 10 0 14) := ev_stp pg_265_0 rfl
theorem pg_265_3 : mm_prog 265 3 = some (0, .dup, 4, []) := by decide +kernel
theorem xe_265_3 (a0 a1 a2 a3 : Option MV) (x : Int) (st : List MV) (μ : MM) (G : MG) : ev 265 3 [a0, a1, a2, a3] (vR x :: st) μ G = ev 265 4 [a0, a1, a2, a3] (vR x :: vR x :: st) μ G := ev_stp pg_265_3 rfl
theorem pg_265_4 : mm_prog 265 4 = some (1, .invokespecial 9, 7, [1, 98, 0, 10]) := by decide +kernel
theorem xe_265_4 (a0 a1 a2 a3 : Option MV) (z r0 : Int) (μ : MM) (G : MG) : ev 265 4 [a0, a1, a2, a3] (vR z :: [vR r0]) μ G = if gk G z = 10 ∧ 0 < z then (ev 98 0 [some (vR z)] [] μ G).bind (fun q => ev 265 7 [a0, a1, a2, a3] (q.1.toList ++ [vR r0]) q.2.1 q.2.2) else none := ev_calV (as := [vR z]) (r := [vR r0]) mx_98 pg_265_4 rfl rfl (Nat.le_of_ble_eq_true rfl) (Nat.le_of_ble_eq_true rfl)
theorem pg_265_7 : mm_prog 265 7 = some (0, .astore_n 1, 8, []) := by decide +kernel
theorem xe_265_7 (a0 a1 a2 a3 : Option MV) (x : Int) (st : List MV) (μ : MM) (G : MG) (h : mm_nL a0 = true) : ev 265 7 [a0, a1, a2, a3] (vR x :: st) μ G = ev 265 8 [a0, some (vR x), a2, a3] st μ G := ev_st pg_265_7 rfl (mm_nl_of h) (Nat.le_of_ble_eq_true rfl)
theorem pg_265_8 : mm_prog 265 8 = some (0, .new 10, 11, [11, 47]) := by decide +kernel
theorem xe_265_8 (a0 a1 a2 a3 : Option MV) (st : List MV) (μ : MM) (G : MG) : ev 265 8 [a0, a1, a2, a3] st μ G = ev 265 11 [a0, a1, a2, a3] (vR G.2.1 :: st) (mzero μ G.2.1) (gnew G 11 0 47) := ev_stp pg_265_8 rfl
theorem pg_265_11 : mm_prog 265 11 = some (0, .dup, 12, []) := by decide +kernel
theorem xe_265_11 (a0 a1 a2 a3 : Option MV) (x : Int) (st : List MV) (μ : MM) (G : MG) : ev 265 11 [a0, a1, a2, a3] (vR x :: st) μ G = ev 265 12 [a0, a1, a2, a3] (vR x :: vR x :: st) μ G := ev_stp pg_265_11 rfl
theorem pg_265_12 : mm_prog 265 12 = some (1, .invokespecial 12, 15, [1, 151, 0, 11]) := by decide +kernel
theorem xe_265_12 (a0 a1 a2 a3 : Option MV) (z r0 : Int) (μ : MM) (G : MG) : ev 265 12 [a0, a1, a2, a3] (vR z :: [vR r0]) μ G = if gk G z = 11 ∧ 0 < z then (ev 151 0 [some (vR z)] [] μ G).bind (fun q => ev 265 15 [a0, a1, a2, a3] (q.1.toList ++ [vR r0]) q.2.1 q.2.2) else none := ev_calV (as := [vR z]) (r := [vR r0]) mx_151 pg_265_12 rfl rfl (Nat.le_of_ble_eq_true rfl) (Nat.le_of_ble_eq_true rfl)
theorem pg_265_15 : mm_prog 265 15 = some (0, .astore_n 2, 16, []) := by decide +kernel
theorem xe_265_15 (a0 a1 a2 a3 : Option MV) (x : Int) (st : List MV) (μ : MM) (G : MG) (h : mm_nL a1 = true) : ev 265 15 [a0, a1, a2, a3] (vR x :: st) μ G = ev 265 16 [a0, a1, some (vR x), a3] st μ G := ev_st pg_265_15 rfl (mm_nl_of h) (Nat.le_of_ble_eq_true rfl)
theorem pg_265_16 : mm_prog 265 16 = some (0, .iconst 0, 17, []) := by decide +kernel
theorem xe_265_16 (a0 a1 a2 a3 : Option MV) (st : List MV) (μ : MM) (G : MG) : ev 265 16 [a0, a1, a2, a3] st μ G = ev 265 17 [a0, a1, a2, a3] (vI (0) :: st) μ G := ev_stp pg_265_16 rfl
theorem pg_265_17 : mm_prog 265 17 = some (0, .istore_n 3, 18, []) := by decide +kernel
theorem xe_265_17 (a0 a1 a2 a3 : Option MV) (x : Int) (st : List MV) (μ : MM) (G : MG) (h : mm_nL a2 = true) : ev 265 17 [a0, a1, a2, a3] (vI x :: st) μ G = ev 265 18 [a0, a1, a2, some (vI x)] st μ G := ev_st pg_265_17 rfl (mm_nl_of h) (Nat.le_of_ble_eq_true rfl)
theorem pg_265_18 : mm_prog 265 18 = some (0, .iload_n 3, 19, []) := by decide +kernel
theorem xe_265_18 (a0 a1 a2 : Option MV) (x : Int) (st : List MV) (μ : MM) (G : MG) : ev 265 18 [a0, a1, a2, some (vI x)] st μ G = ev 265 19 [a0, a1, a2, some (vI x)] (vI x :: st) μ G := ev_stp pg_265_18 rfl
theorem pg_265_19 : mm_prog 265 19 = some (0, .aload_n 0, 20, []) := by decide +kernel
theorem xe_265_19 (a1 a2 a3 : Option MV) (x : Int) (st : List MV) (μ : MM) (G : MG) : ev 265 19 [some (vR x), a1, a2, a3] st μ G = ev 265 20 [some (vR x), a1, a2, a3] (vR x :: st) μ G := ev_stp pg_265_19 rfl
theorem pg_265_20 : mm_prog 265 20 = some (0, .arraylength, 21, []) := by decide +kernel
theorem xe_265_20 (a0 a1 a2 a3 : Option MV) (x : Int) (st : List MV) (μ : MM) (G : MG) : ev 265 20 [a0, a1, a2, a3] (vR x :: st) μ G = if 100 ≤ gk G x then ev 265 21 [a0, a1, a2, a3] (vI (gl G x) :: st) μ G else none := ev_if pg_265_20 rfl
theorem pg_265_21 : mm_prog 265 21 = some (0, .bipush 7, 23, []) := by decide +kernel
theorem xe_265_21 (a0 a1 a2 a3 : Option MV) (st : List MV) (μ : MM) (G : MG) : ev 265 21 [a0, a1, a2, a3] st μ G = ev 265 23 [a0, a1, a2, a3] (vI (7) :: st) μ G := ev_stp pg_265_21 rfl
theorem pg_265_23 : mm_prog 265 23 = some (0, .isub, 24, []) := by decide +kernel
theorem xe_265_23 (a0 a1 a2 a3 : Option MV) (x y : Int) (st : List MV) (μ : MM) (G : MG) : ev 265 23 [a0, a1, a2, a3] (vI y :: vI x :: st) μ G = ev 265 24 [a0, a1, a2, a3] (vI (w32 (x - y)) :: st) μ G := ev_stp pg_265_23 rfl
theorem pg_265_24 : mm_prog 265 24 = some (0, .if_icmp .gt 1260, 27, []) := by decide +kernel
theorem xe_265_24 (a0 a1 a2 a3 : Option MV) (x y : Int) (st : List MV) (μ : MM) (G : MG) : ev 265 24 [a0, a1, a2, a3] (vI y :: vI x :: st) μ G = if y < x then ev 265 1284 [a0, a1, a2, a3] st μ G else ev 265 27 [a0, a1, a2, a3] st μ G := ev_br (mm_cnd_gt x y) pg_265_24 rfl
theorem pg_265_27 : mm_prog 265 27 = some (0, .aload_n 0, 28, []) := by decide +kernel
theorem xe_265_27 (a1 a2 a3 : Option MV) (x : Int) (st : List MV) (μ : MM) (G : MG) : ev 265 27 [some (vR x), a1, a2, a3] st μ G = ev 265 28 [some (vR x), a1, a2, a3] (vR x :: st) μ G := ev_stp pg_265_27 rfl
theorem pg_265_28 : mm_prog 265 28 = some (0, .iload_n 3, 29, []) := by decide +kernel
theorem xe_265_28 (a0 a1 a2 : Option MV) (x : Int) (st : List MV) (μ : MM) (G : MG) : ev 265 28 [a0, a1, a2, some (vI x)] st μ G = ev 265 29 [a0, a1, a2, some (vI x)] (vI x :: st) μ G := ev_stp pg_265_28 rfl
theorem pg_265_29 : mm_prog 265 29 = some (0, .iaload, 30, []) := by decide +kernel
theorem xe_265_29 (a0 a1 a2 a3 : Option MV) (x y : Int) (st : List MV) (μ : MM) (G : MG) : ev 265 29 [a0, a1, a2, a3] (vI x :: vR y :: st) μ G = if gk G y = 100 ∧ 0 ≤ x ∧ x < gl G y then ev 265 30 [a0, a1, a2, a3] (vI (μ y x) :: st) μ G else none := ev_if pg_265_29 rfl
theorem pg_265_30 : mm_prog 265 30 = some (0, .bipush 63, 32, []) := by decide +kernel
theorem xe_265_30 (a0 a1 a2 a3 : Option MV) (st : List MV) (μ : MM) (G : MG) : ev 265 30 [a0, a1, a2, a3] st μ G = ev 265 32 [a0, a1, a2, a3] (vI (63) :: st) μ G := ev_stp pg_265_30 rfl
theorem pg_265_32 : mm_prog 265 32 = some (0, .iand, 33, []) := by decide +kernel
theorem xe_265_32 (a0 a1 a2 a3 : Option MV) (x y : Int) (st : List MV) (μ : MM) (G : MG) : ev 265 32 [a0, a1, a2, a3] (vI y :: vI x :: st) μ G = ev 265 33 [a0, a1, a2, a3] (vI (mm_and x y) :: st) μ G := ev_stp pg_265_32 rfl
theorem pg_265_33 : mm_prog 265 33 = some (0, .tableswitch 1245 0 33 #[151, 214, 237, 260, 283, 306, 329, 362, 385, 418, 451, 494, 557, 620, 695, 718, 751, 784, 827, 860, 903, 936, 949, 972, 995, 1028, 1061, 1094, 1117, 1140, 1163, 1186, 1199, 1222], 184, [1278, 0, 184, 1, 247, 2, 270, 3, 293, 4, 316, 5, 339, 6, 362, 7, 395, 8, 418, 9, 451, 10, 484, 11, 527, 12, 590, 13, 653, 14, 728, 15, 751, 16, 784, 17, 817, 18, 860, 19, 893, 20, 936, 21, 969, 22, 982, 23, 1005, 24, 1028, 25, 1061, 26, 1094, 27, 1127, 28, 1150, 29, 1173, 30, 1196, 31, 1219, 32, 1232, 33, 1255]) := by decide +kernel
theorem xe_265_33 (a0 a1 a2 a3 : Option MV) (x : Int) (st : List MV) (μ : MM) (G : MG) : ev 265 33 [a0, a1, a2, a3] (vI x :: st) μ G = if x = 0 then ev 265 184 [a0, a1, a2, a3] st μ G else if x = 1 then ev 265 247 [a0, a1, a2, a3] st μ G else if x = 2 then ev 265 270 [a0, a1, a2, a3] st μ G else if x = 3 then ev 265 293 [a0, a1, a2, a3] st μ G else if x = 4 then ev 265 316 [a0, a1, a2, a3] st μ G else if x = 5 then ev 265 339 [a0, a1, a2, a3] st μ G else if x = 6 then ev 265 362 [a0, a1, a2, a3] st μ G else if x = 7 then ev 265 395 [a0, a1, a2, a3] st μ G else if x = 8 then ev 265 418 [a0, a1, a2, a3] st μ G else if x = 9 then ev 265 451 [a0, a1, a2, a3] st μ G else if x = 10 then ev 265 484 [a0, a1, a2, a3] st μ G else if x = 11 then ev 265 527 [a0, a1, a2, a3] st μ G else if x = 12 then ev 265 590 [a0, a1, a2, a3] st μ G else if x = 13 then ev 265 653 [a0, a1, a2, a3] st μ G else if x = 14 then ev 265 728 [a0, a1, a2, a3] st μ G else if x = 15 then ev 265 751 [a0, a1, a2, a3] st μ G else if x = 16 then ev 265 784 [a0, a1, a2, a3] st μ G else if x = 17 then ev 265 817 [a0, a1, a2, a3] st μ G else if x = 18 then ev 265 860 [a0, a1, a2, a3] st μ G else if x = 19 then ev 265 893 [a0, a1, a2, a3] st μ G else if x = 20 then ev 265 936 [a0, a1, a2, a3] st μ G else if x = 21 then ev 265 969 [a0, a1, a2, a3] st μ G else if x = 22 then ev 265 982 [a0, a1, a2, a3] st μ G else if x = 23 then ev 265 1005 [a0, a1, a2, a3] st μ G else if x = 24 then ev 265 1028 [a0, a1, a2, a3] st μ G else if x = 25 then ev 265 1061 [a0, a1, a2, a3] st μ G else if x = 26 then ev 265 1094 [a0, a1, a2, a3] st μ G else if x = 27 then ev 265 1127 [a0, a1, a2, a3] st μ G else if x = 28 then ev 265 1150 [a0, a1, a2, a3] st μ G else if x = 29 then ev 265 1173 [a0, a1, a2, a3] st μ G else if x = 30 then ev 265 1196 [a0, a1, a2, a3] st μ G else if x = 31 then ev 265 1219 [a0, a1, a2, a3] st μ G else if x = 32 then ev 265 1232 [a0, a1, a2, a3] st μ G else if x = 33 then ev 265 1255 [a0, a1, a2, a3] st μ G else ev 265 1278 [a0, a1, a2, a3] st μ G := ev_sw (x := x) (d := 1278) (l := [0, 184, 1, 247, 2, 270, 3, 293, 4, 316, 5, 339, 6, 362, 7, 395, 8, 418, 9, 451, 10, 484, 11, 527, 12, 590, 13, 653, 14, 728, 15, 751, 16, 784, 17, 817, 18, 860, 19, 893, 20, 936, 21, 969, 22, 982, 23, 1005, 24, 1028, 25, 1061, 26, 1094, 27, 1127, 28, 1150, 29, 1173, 30, 1196, 31, 1219, 32, 1232, 33, 1255]) (st' := st) pg_265_33 rfl
theorem pg_265_184 : mm_prog 265 184 = some (0, .aload_n 1, 185, []) := by decide +kernel
theorem xe_265_184 (a0 a2 a3 : Option MV) (x : Int) (st : List MV) (μ : MM) (G : MG) : ev 265 184 [a0, some (vR x), a2, a3] st μ G = ev 265 185 [a0, some (vR x), a2, a3] (vR x :: st) μ G := ev_stp pg_265_184 rfl
theorem pg_265_185 : mm_prog 265 185 = some (0, .aload_n 0, 186, []) := by decide +kernel
theorem xe_265_185 (a1 a2 a3 : Option MV) (x : Int) (st : List MV) (μ : MM) (G : MG) : ev 265 185 [some (vR x), a1, a2, a3] st μ G = ev 265 186 [some (vR x), a1, a2, a3] (vR x :: st) μ G := ev_stp pg_265_185 rfl
theorem pg_265_186 : mm_prog 265 186 = some (0, .iload_n 3, 187, []) := by decide +kernel
theorem xe_265_186 (a0 a1 a2 : Option MV) (x : Int) (st : List MV) (μ : MM) (G : MG) : ev 265 186 [a0, a1, a2, some (vI x)] st μ G = ev 265 187 [a0, a1, a2, some (vI x)] (vI x :: st) μ G := ev_stp pg_265_186 rfl
theorem pg_265_187 : mm_prog 265 187 = some (0, .iconst 1, 188, []) := by decide +kernel
theorem xe_265_187 (a0 a1 a2 a3 : Option MV) (st : List MV) (μ : MM) (G : MG) : ev 265 187 [a0, a1, a2, a3] st μ G = ev 265 188 [a0, a1, a2, a3] (vI (1) :: st) μ G := ev_stp pg_265_187 rfl
theorem pg_265_188 : mm_prog 265 188 = some (0, .iadd, 189, []) := by decide +kernel
theorem xe_265_188 (a0 a1 a2 a3 : Option MV) (x y : Int) (st : List MV) (μ : MM) (G : MG) : ev 265 188 [a0, a1, a2, a3] (vI y :: vI x :: st) μ G = ev 265 189 [a0, a1, a2, a3] (vI (w32 (x + y)) :: st) μ G := ev_stp pg_265_188 rfl
theorem pg_265_189 : mm_prog 265 189 = some (0, .iaload, 190, []) := by decide +kernel
theorem xe_265_189 (a0 a1 a2 a3 : Option MV) (x y : Int) (st : List MV) (μ : MM) (G : MG) : ev 265 189 [a0, a1, a2, a3] (vI x :: vR y :: st) μ G = if gk G y = 100 ∧ 0 ≤ x ∧ x < gl G y then ev 265 190 [a0, a1, a2, a3] (vI (μ y x) :: st) μ G else none := ev_if pg_265_189 rfl
theorem pg_265_190 : mm_prog 265 190 = some (0, .aload_n 0, 191, []) := by decide +kernel
theorem xe_265_190 (a1 a2 a3 : Option MV) (x : Int) (st : List MV) (μ : MM) (G : MG) : ev 265 190 [some (vR x), a1, a2, a3] st μ G = ev 265 191 [some (vR x), a1, a2, a3] (vR x :: st) μ G := ev_stp pg_265_190 rfl
theorem pg_265_191 : mm_prog 265 191 = some (0, .iload_n 3, 192, []) := by decide +kernel
theorem xe_265_191 (a0 a1 a2 : Option MV) (x : Int) (st : List MV) (μ : MM) (G : MG) : ev 265 191 [a0, a1, a2, some (vI x)] st μ G = ev 265 192 [a0, a1, a2, some (vI x)] (vI x :: st) μ G := ev_stp pg_265_191 rfl
theorem pg_265_192 : mm_prog 265 192 = some (0, .iconst 2, 193, []) := by decide +kernel
theorem xe_265_192 (a0 a1 a2 a3 : Option MV) (st : List MV) (μ : MM) (G : MG) : ev 265 192 [a0, a1, a2, a3] st μ G = ev 265 193 [a0, a1, a2, a3] (vI (2) :: st) μ G := ev_stp pg_265_192 rfl
theorem pg_265_193 : mm_prog 265 193 = some (0, .iadd, 194, []) := by decide +kernel
theorem xe_265_193 (a0 a1 a2 a3 : Option MV) (x y : Int) (st : List MV) (μ : MM) (G : MG) : ev 265 193 [a0, a1, a2, a3] (vI y :: vI x :: st) μ G = ev 265 194 [a0, a1, a2, a3] (vI (w32 (x + y)) :: st) μ G := ev_stp pg_265_193 rfl
theorem pg_265_194 : mm_prog 265 194 = some (0, .iaload, 195, []) := by decide +kernel
theorem xe_265_194 (a0 a1 a2 a3 : Option MV) (x y : Int) (st : List MV) (μ : MM) (G : MG) : ev 265 194 [a0, a1, a2, a3] (vI x :: vR y :: st) μ G = if gk G y = 100 ∧ 0 ≤ x ∧ x < gl G y then ev 265 195 [a0, a1, a2, a3] (vI (μ y x) :: st) μ G else none := ev_if pg_265_194 rfl
theorem pg_265_195 : mm_prog 265 195 = some (0, .aload_n 0, 196, []) := by decide +kernel
theorem xe_265_195 (a1 a2 a3 : Option MV) (x : Int) (st : List MV) (μ : MM) (G : MG) : ev 265 195 [some (vR x), a1, a2, a3] st μ G = ev 265 196 [some (vR x), a1, a2, a3] (vR x :: st) μ G := ev_stp pg_265_195 rfl
theorem pg_265_196 : mm_prog 265 196 = some (0, .iload_n 3, 197, []) := by decide +kernel
theorem xe_265_196 (a0 a1 a2 : Option MV) (x : Int) (st : List MV) (μ : MM) (G : MG) : ev 265 196 [a0, a1, a2, some (vI x)] st μ G = ev 265 197 [a0, a1, a2, some (vI x)] (vI x :: st) μ G := ev_stp pg_265_196 rfl
theorem pg_265_197 : mm_prog 265 197 = some (0, .iconst 3, 198, []) := by decide +kernel
theorem xe_265_197 (a0 a1 a2 a3 : Option MV) (st : List MV) (μ : MM) (G : MG) : ev 265 197 [a0, a1, a2, a3] st μ G = ev 265 198 [a0, a1, a2, a3] (vI (3) :: st) μ G := ev_stp pg_265_197 rfl
theorem pg_265_198 : mm_prog 265 198 = some (0, .iadd, 199, []) := by decide +kernel
theorem xe_265_198 (a0 a1 a2 a3 : Option MV) (x y : Int) (st : List MV) (μ : MM) (G : MG) : ev 265 198 [a0, a1, a2, a3] (vI y :: vI x :: st) μ G = ev 265 199 [a0, a1, a2, a3] (vI (w32 (x + y)) :: st) μ G := ev_stp pg_265_198 rfl
theorem pg_265_199 : mm_prog 265 199 = some (0, .iaload, 200, []) := by decide +kernel
theorem xe_265_199 (a0 a1 a2 a3 : Option MV) (x y : Int) (st : List MV) (μ : MM) (G : MG) : ev 265 199 [a0, a1, a2, a3] (vI x :: vR y :: st) μ G = if gk G y = 100 ∧ 0 ≤ x ∧ x < gl G y then ev 265 200 [a0, a1, a2, a3] (vI (μ y x) :: st) μ G else none := ev_if pg_265_199 rfl
theorem pg_265_200 : mm_prog 265 200 = some (0, .aload_n 0, 201, []) := by decide +kernel
theorem xe_265_200 (a1 a2 a3 : Option MV) (x : Int) (st : List MV) (μ : MM) (G : MG) : ev 265 200 [some (vR x), a1, a2, a3] st μ G = ev 265 201 [some (vR x), a1, a2, a3] (vR x :: st) μ G := ev_stp pg_265_200 rfl
theorem pg_265_201 : mm_prog 265 201 = some (0, .iload_n 3, 202, []) := by decide +kernel
theorem xe_265_201 (a0 a1 a2 : Option MV) (x : Int) (st : List MV) (μ : MM) (G : MG) : ev 265 201 [a0, a1, a2, some (vI x)] st μ G = ev 265 202 [a0, a1, a2, some (vI x)] (vI x :: st) μ G := ev_stp pg_265_201 rfl
theorem pg_265_202 : mm_prog 265 202 = some (0, .iconst 4, 203, []) := by decide +kernel
theorem xe_265_202 (a0 a1 a2 a3 : Option MV) (st : List MV) (μ : MM) (G : MG) : ev 265 202 [a0, a1, a2, a3] st μ G = ev 265 203 [a0, a1, a2, a3] (vI (4) :: st) μ G := ev_stp pg_265_202 rfl
theorem pg_265_203 : mm_prog 265 203 = some (0, .iadd, 204, []) := by decide +kernel
theorem xe_265_203 (a0 a1 a2 a3 : Option MV) (x y : Int) (st : List MV) (μ : MM) (G : MG) : ev 265 203 [a0, a1, a2, a3] (vI y :: vI x :: st) μ G = ev 265 204 [a0, a1, a2, a3] (vI (w32 (x + y)) :: st) μ G := ev_stp pg_265_203 rfl
theorem pg_265_204 : mm_prog 265 204 = some (0, .iaload, 205, []) := by decide +kernel
theorem xe_265_204 (a0 a1 a2 a3 : Option MV) (x y : Int) (st : List MV) (μ : MM) (G : MG) : ev 265 204 [a0, a1, a2, a3] (vI x :: vR y :: st) μ G = if gk G y = 100 ∧ 0 ≤ x ∧ x < gl G y then ev 265 205 [a0, a1, a2, a3] (vI (μ y x) :: st) μ G else none := ev_if pg_265_204 rfl
theorem pg_265_205 : mm_prog 265 205 = some (0, .aload_n 0, 206, []) := by decide +kernel
theorem xe_265_205 (a1 a2 a3 : Option MV) (x : Int) (st : List MV) (μ : MM) (G : MG) : ev 265 205 [some (vR x), a1, a2, a3] st μ G = ev 265 206 [some (vR x), a1, a2, a3] (vR x :: st) μ G := ev_stp pg_265_205 rfl
theorem pg_265_206 : mm_prog 265 206 = some (0, .iload_n 3, 207, []) := by decide +kernel
theorem xe_265_206 (a0 a1 a2 : Option MV) (x : Int) (st : List MV) (μ : MM) (G : MG) : ev 265 206 [a0, a1, a2, some (vI x)] st μ G = ev 265 207 [a0, a1, a2, some (vI x)] (vI x :: st) μ G := ev_stp pg_265_206 rfl
theorem pg_265_207 : mm_prog 265 207 = some (0, .iconst 5, 208, []) := by decide +kernel
theorem xe_265_207 (a0 a1 a2 a3 : Option MV) (st : List MV) (μ : MM) (G : MG) : ev 265 207 [a0, a1, a2, a3] st μ G = ev 265 208 [a0, a1, a2, a3] (vI (5) :: st) μ G := ev_stp pg_265_207 rfl
theorem pg_265_208 : mm_prog 265 208 = some (0, .iadd, 209, []) := by decide +kernel
theorem xe_265_208 (a0 a1 a2 a3 : Option MV) (x y : Int) (st : List MV) (μ : MM) (G : MG) : ev 265 208 [a0, a1, a2, a3] (vI y :: vI x :: st) μ G = ev 265 209 [a0, a1, a2, a3] (vI (w32 (x + y)) :: st) μ G := ev_stp pg_265_208 rfl
theorem pg_265_209 : mm_prog 265 209 = some (0, .iaload, 210, []) := by decide +kernel
theorem xe_265_209 (a0 a1 a2 a3 : Option MV) (x y : Int) (st : List MV) (μ : MM) (G : MG) : ev 265 209 [a0, a1, a2, a3] (vI x :: vR y :: st) μ G = if gk G y = 100 ∧ 0 ≤ x ∧ x < gl G y then ev 265 210 [a0, a1, a2, a3] (vI (μ y x) :: st) μ G else none := ev_if pg_265_209 rfl
theorem pg_265_210 : mm_prog 265 210 = some (1, .invokevirtual 13, 213, [1, 99, 5, 10]) := by decide +kernel
theorem xe_265_210 (a0 a1 a2 a3 : Option MV) (x0 x1 x2 x3 x4 z : Int) (μ : MM) (G : MG) : ev 265 210 [a0, a1, a2, a3] (vI x4 :: vI x3 :: vI x2 :: vI x1 :: vI x0 :: vR z :: []) μ G = if gk G z = 10 ∧ 0 < z then (ev 99 0 [some (vR z), some (vI x0), some (vI x1), some (vI x2), some (vI x3), some (vI x4)] [] μ G).bind (fun q => ev 265 213 [a0, a1, a2, a3] (q.1.toList ++ []) q.2.1 q.2.2) else none := ev_calV (as := [vR z, vI x0, vI x1, vI x2, vI x3, vI x4]) (r := []) mx_99 pg_265_210 rfl rfl (Nat.le_of_ble_eq_true rfl) (Nat.le_of_ble_eq_true rfl)
theorem pg_265_213 : mm_prog 265 213 = some (0, .aload_n 2, 214, []) := by decide +kernel
theorem xe_265_213 (a0 a1 a3 : Option MV) (x : Int) (st : List MV) (μ : MM) (G : MG) : ev 265 213 [a0, a1, some (vR x), a3] st μ G = ev 265 214 [a0, a1, some (vR x), a3] (vR x :: st) μ G := ev_stp pg_265_213 rfl
theorem pg_265_214 : mm_prog 265 214 = some (0, .aload_n 0, 215, []) := by decide +kernel
theorem xe_265_214 (a1 a2 a3 : Option MV) (x : Int) (st : List MV) (μ : MM) (G : MG) : ev 265 214 [some (vR x), a1, a2, a3] st μ G = ev 265 215 [some (vR x), a1, a2, a3] (vR x :: st) μ G := ev_stp pg_265_214 rfl
theorem pg_265_215 : mm_prog 265 215 = some (0, .iload_n 3, 216, []) := by decide +kernel
theorem xe_265_215 (a0 a1 a2 : Option MV) (x : Int) (st : List MV) (μ : MM) (G : MG) : ev 265 215 [a0, a1, a2, some (vI x)] st μ G = ev 265 216 [a0, a1, a2, some (vI x)] (vI x :: st) μ G := ev_stp pg_265_215 rfl
theorem pg_265_216 : mm_prog 265 216 = some (0, .iconst 1, 217, []) := by decide +kernel
theorem xe_265_216 (a0 a1 a2 a3 : Option MV) (st : List MV) (μ : MM) (G : MG) : ev 265 216 [a0, a1, a2, a3] st μ G = ev 265 217 [a0, a1, a2, a3] (vI (1) :: st) μ G := ev_stp pg_265_216 rfl
theorem pg_265_217 : mm_prog 265 217 = some (0, .iadd, 218, []) := by decide +kernel
theorem xe_265_217 (a0 a1 a2 a3 : Option MV) (x y : Int) (st : List MV) (μ : MM) (G : MG) : ev 265 217 [a0, a1, a2, a3] (vI y :: vI x :: st) μ G = ev 265 218 [a0, a1, a2, a3] (vI (w32 (x + y)) :: st) μ G := ev_stp pg_265_217 rfl
theorem pg_265_218 : mm_prog 265 218 = some (0, .iaload, 219, []) := by decide +kernel
theorem xe_265_218 (a0 a1 a2 a3 : Option MV) (x y : Int) (st : List MV) (μ : MM) (G : MG) : ev 265 218 [a0, a1, a2, a3] (vI x :: vR y :: st) μ G = if gk G y = 100 ∧ 0 ≤ x ∧ x < gl G y then ev 265 219 [a0, a1, a2, a3] (vI (μ y x) :: st) μ G else none := ev_if pg_265_218 rfl
theorem pg_265_219 : mm_prog 265 219 = some (0, .aload_n 0, 220, []) := by decide +kernel
theorem xe_265_219 (a1 a2 a3 : Option MV) (x : Int) (st : List MV) (μ : MM) (G : MG) : ev 265 219 [some (vR x), a1, a2, a3] st μ G = ev 265 220 [some (vR x), a1, a2, a3] (vR x :: st) μ G := ev_stp pg_265_219 rfl
theorem pg_265_220 : mm_prog 265 220 = some (0, .iload_n 3, 221, []) := by decide +kernel
theorem xe_265_220 (a0 a1 a2 : Option MV) (x : Int) (st : List MV) (μ : MM) (G : MG) : ev 265 220 [a0, a1, a2, some (vI x)] st μ G = ev 265 221 [a0, a1, a2, some (vI x)] (vI x :: st) μ G := ev_stp pg_265_220 rfl
theorem pg_265_221 : mm_prog 265 221 = some (0, .iconst 2, 222, []) := by decide +kernel
theorem xe_265_221 (a0 a1 a2 a3 : Option MV) (st : List MV) (μ : MM) (G : MG) : ev 265 221 [a0, a1, a2, a3] st μ G = ev 265 222 [a0, a1, a2, a3] (vI (2) :: st) μ G := ev_stp pg_265_221 rfl
theorem pg_265_222 : mm_prog 265 222 = some (0, .iadd, 223, []) := by decide +kernel
theorem xe_265_222 (a0 a1 a2 a3 : Option MV) (x y : Int) (st : List MV) (μ : MM) (G : MG) : ev 265 222 [a0, a1, a2, a3] (vI y :: vI x :: st) μ G = ev 265 223 [a0, a1, a2, a3] (vI (w32 (x + y)) :: st) μ G := ev_stp pg_265_222 rfl
theorem pg_265_223 : mm_prog 265 223 = some (0, .iaload, 224, []) := by decide +kernel
theorem xe_265_223 (a0 a1 a2 a3 : Option MV) (x y : Int) (st : List MV) (μ : MM) (G : MG) : ev 265 223 [a0, a1, a2, a3] (vI x :: vR y :: st) μ G = if gk G y = 100 ∧ 0 ≤ x ∧ x < gl G y then ev 265 224 [a0, a1, a2, a3] (vI (μ y x) :: st) μ G else none := ev_if pg_265_223 rfl
theorem pg_265_224 : mm_prog 265 224 = some (0, .aload_n 0, 225, []) := by decide +kernel
theorem xe_265_224 (a1 a2 a3 : Option MV) (x : Int) (st : List MV) (μ : MM) (G : MG) : ev 265 224 [some (vR x), a1, a2, a3] st μ G = ev 265 225 [some (vR x), a1, a2, a3] (vR x :: st) μ G := ev_stp pg_265_224 rfl
theorem pg_265_225 : mm_prog 265 225 = some (0, .iload_n 3, 226, []) := by decide +kernel
theorem xe_265_225 (a0 a1 a2 : Option MV) (x : Int) (st : List MV) (μ : MM) (G : MG) : ev 265 225 [a0, a1, a2, some (vI x)] st μ G = ev 265 226 [a0, a1, a2, some (vI x)] (vI x :: st) μ G := ev_stp pg_265_225 rfl
theorem pg_265_226 : mm_prog 265 226 = some (0, .iconst 3, 227, []) := by decide +kernel
theorem xe_265_226 (a0 a1 a2 a3 : Option MV) (st : List MV) (μ : MM) (G : MG) : ev 265 226 [a0, a1, a2, a3] st μ G = ev 265 227 [a0, a1, a2, a3] (vI (3) :: st) μ G := ev_stp pg_265_226 rfl
theorem pg_265_227 : mm_prog 265 227 = some (0, .iadd, 228, []) := by decide +kernel
theorem xe_265_227 (a0 a1 a2 a3 : Option MV) (x y : Int) (st : List MV) (μ : MM) (G : MG) : ev 265 227 [a0, a1, a2, a3] (vI y :: vI x :: st) μ G = ev 265 228 [a0, a1, a2, a3] (vI (w32 (x + y)) :: st) μ G := ev_stp pg_265_227 rfl
theorem pg_265_228 : mm_prog 265 228 = some (0, .iaload, 229, []) := by decide +kernel
theorem xe_265_228 (a0 a1 a2 a3 : Option MV) (x y : Int) (st : List MV) (μ : MM) (G : MG) : ev 265 228 [a0, a1, a2, a3] (vI x :: vR y :: st) μ G = if gk G y = 100 ∧ 0 ≤ x ∧ x < gl G y then ev 265 229 [a0, a1, a2, a3] (vI (μ y x) :: st) μ G else none := ev_if pg_265_228 rfl
theorem pg_265_229 : mm_prog 265 229 = some (0, .aload_n 0, 230, []) := by decide +kernel
theorem xe_265_229 (a1 a2 a3 : Option MV) (x : Int) (st : List MV) (μ : MM) (G : MG) : ev 265 229 [some (vR x), a1, a2, a3] st μ G = ev 265 230 [some (vR x), a1, a2, a3] (vR x :: st) μ G := ev_stp pg_265_229 rfl
theorem pg_265_230 : mm_prog 265 230 = some (0, .iload_n 3, 231, []) := by decide +kernel
theorem xe_265_230 (a0 a1 a2 : Option MV) (x : Int) (st : List MV) (μ : MM) (G : MG) : ev 265 230 [a0, a1, a2, some (vI x)] st μ G = ev 265 231 [a0, a1, a2, some (vI x)] (vI x :: st) μ G := ev_stp pg_265_230 rfl
theorem pg_265_231 : mm_prog 265 231 = some (0, .iconst 4, 232, []) := by decide +kernel
theorem xe_265_231 (a0 a1 a2 a3 : Option MV) (st : List MV) (μ : MM) (G : MG) : ev 265 231 [a0, a1, a2, a3] st μ G = ev 265 232 [a0, a1, a2, a3] (vI (4) :: st) μ G := ev_stp pg_265_231 rfl
theorem pg_265_232 : mm_prog 265 232 = some (0, .iadd, 233, []) := by decide +kernel
theorem xe_265_232 (a0 a1 a2 a3 : Option MV) (x y : Int) (st : List MV) (μ : MM) (G : MG) : ev 265 232 [a0, a1, a2, a3] (vI y :: vI x :: st) μ G = ev 265 233 [a0, a1, a2, a3] (vI (w32 (x + y)) :: st) μ G := ev_stp pg_265_232 rfl
theorem pg_265_233 : mm_prog 265 233 = some (0, .iaload, 234, []) := by decide +kernel
theorem xe_265_233 (a0 a1 a2 a3 : Option MV) (x y : Int) (st : List MV) (μ : MM) (G : MG) : ev 265 233 [a0, a1, a2, a3] (vI x :: vR y :: st) μ G = if gk G y = 100 ∧ 0 ≤ x ∧ x < gl G y then ev 265 234 [a0, a1, a2, a3] (vI (μ y x) :: st) μ G else none := ev_if pg_265_233 rfl
theorem pg_265_234 : mm_prog 265 234 = some (0, .aload_n 0, 235, []) := by decide +kernel
theorem xe_265_234 (a1 a2 a3 : Option MV) (x : Int) (st : List MV) (μ : MM) (G : MG) : ev 265 234 [some (vR x), a1, a2, a3] st μ G = ev 265 235 [some (vR x), a1, a2, a3] (vR x :: st) μ G := ev_stp pg_265_234 rfl
theorem pg_265_235 : mm_prog 265 235 = some (0, .iload_n 3, 236, []) := by decide +kernel
theorem xe_265_235 (a0 a1 a2 : Option MV) (x : Int) (st : List MV) (μ : MM) (G : MG) : ev 265 235 [a0, a1, a2, some (vI x)] st μ G = ev 265 236 [a0, a1, a2, some (vI x)] (vI x :: st) μ G := ev_stp pg_265_235 rfl
theorem pg_265_236 : mm_prog 265 236 = some (0, .iconst 5, 237, []) := by decide +kernel
theorem xe_265_236 (a0 a1 a2 a3 : Option MV) (st : List MV) (μ : MM) (G : MG) : ev 265 236 [a0, a1, a2, a3] st μ G = ev 265 237 [a0, a1, a2, a3] (vI (5) :: st) μ G := ev_stp pg_265_236 rfl
theorem pg_265_237 : mm_prog 265 237 = some (0, .iadd, 238, []) := by decide +kernel
theorem xe_265_237 (a0 a1 a2 a3 : Option MV) (x y : Int) (st : List MV) (μ : MM) (G : MG) : ev 265 237 [a0, a1, a2, a3] (vI y :: vI x :: st) μ G = ev 265 238 [a0, a1, a2, a3] (vI (w32 (x + y)) :: st) μ G := ev_stp pg_265_237 rfl
theorem pg_265_238 : mm_prog 265 238 = some (0, .iaload, 239, []) := by decide +kernel
theorem xe_265_238 (a0 a1 a2 a3 : Option MV) (x y : Int) (st : List MV) (μ : MM) (G : MG) : ev 265 238 [a0, a1, a2, a3] (vI x :: vR y :: st) μ G = if gk G y = 100 ∧ 0 ≤ x ∧ x < gl G y then ev 265 239 [a0, a1, a2, a3] (vI (μ y x) :: st) μ G else none := ev_if pg_265_238 rfl
theorem pg_265_239 : mm_prog 265 239 = some (1, .invokevirtual 17, 242, [1, 152, 5, 11]) := by decide +kernel
theorem xe_265_239 (a0 a1 a2 a3 : Option MV) (x0 x1 x2 x3 x4 z r0 : Int) (μ : MM) (G : MG) : ev 265 239 [a0, a1, a2, a3] (vI x4 :: vI x3 :: vI x2 :: vI x1 :: vI x0 :: vR z :: [vI r0]) μ G = if gk G z = 11 ∧ 0 < z then (ev 152 0 [some (vR z), some (vI x0), some (vI x1), some (vI x2), some (vI x3), some (vI x4), none, none] [] μ G).bind (fun q => ev 265 242 [a0, a1, a2, a3] (q.1.toList ++ [vI r0]) q.2.1 q.2.2) else none := ev_calV (as := [vR z, vI x0, vI x1, vI x2, vI x3, vI x4]) (r := [vI r0]) mx_152 pg_265_239 rfl rfl (Nat.le_of_ble_eq_true rfl) (Nat.le_of_ble_eq_true rfl)
theorem pg_265_242 : mm_prog 265 242 = some (0, .if_icmp .eq 1036, 245, []) := by decide +kernel
theorem xe_265_242 (a0 a1 a2 a3 : Option MV) (x y : Int) (st : List MV) (μ : MM) (G : MG) : ev 265 242 [a0, a1, a2, a3] (vI y :: vI x :: st) μ G = if x = y then ev 265 1278 [a0, a1, a2, a3] st μ G else ev 265 245 [a0, a1, a2, a3] st μ G := ev_br (mm_cnd_eq x y) pg_265_242 rfl
theorem pg_265_245 : mm_prog 265 245 = some (0, .iconst 0, 246, []) := by decide +kernel
theorem xe_265_245 (a0 a1 a2 a3 : Option MV) (st : List MV) (μ : MM) (G : MG) : ev 265 245 [a0, a1, a2, a3] st μ G = ev 265 246 [a0, a1, a2, a3] (vI (0) :: st) μ G := ev_stp pg_265_245 rfl
theorem pg_265_246 : mm_prog 265 246 = some (2, .ireturn, 247, [1]) := by decide +kernel
theorem xe_265_246 (a0 a1 a2 a3 : Option MV) (x : Int) (μ : MM) (G : MG) : ev 265 246 [a0, a1, a2, a3] [vI x] μ G = if x = 0 ∨ x = 1 then some (some (vI x), μ, G) else none := ev_retB pg_265_246
theorem pg_265_247 : mm_prog 265 247 = some (0, .aload_n 1, 248, []) := by decide +kernel
theorem xe_265_247 (a0 a2 a3 : Option MV) (x : Int) (st : List MV) (μ : MM) (G : MG) : ev 265 247 [a0, some (vR x), a2, a3] st μ G = ev 265 248 [a0, some (vR x), a2, a3] (vR x :: st) μ G := ev_stp pg_265_247 rfl
theorem pg_265_248 : mm_prog 265 248 = some (0, .aload_n 0, 249, []) := by decide +kernel
theorem xe_265_248 (a1 a2 a3 : Option MV) (x : Int) (st : List MV) (μ : MM) (G : MG) : ev 265 248 [some (vR x), a1, a2, a3] st μ G = ev 265 249 [some (vR x), a1, a2, a3] (vR x :: st) μ G := ev_stp pg_265_248 rfl
theorem pg_265_249 : mm_prog 265 249 = some (0, .iload_n 3, 250, []) := by decide +kernel
theorem xe_265_249 (a0 a1 a2 : Option MV) (x : Int) (st : List MV) (μ : MM) (G : MG) : ev 265 249 [a0, a1, a2, some (vI x)] st μ G = ev 265 250 [a0, a1, a2, some (vI x)] (vI x :: st) μ G := ev_stp pg_265_249 rfl
theorem pg_265_250 : mm_prog 265 250 = some (0, .iconst 1, 251, []) := by decide +kernel
theorem xe_265_250 (a0 a1 a2 a3 : Option MV) (st : List MV) (μ : MM) (G : MG) : ev 265 250 [a0, a1, a2, a3] st μ G = ev 265 251 [a0, a1, a2, a3] (vI (1) :: st) μ G := ev_stp pg_265_250 rfl
theorem pg_265_251 : mm_prog 265 251 = some (0, .iadd, 252, []) := by decide +kernel
theorem xe_265_251 (a0 a1 a2 a3 : Option MV) (x y : Int) (st : List MV) (μ : MM) (G : MG) : ev 265 251 [a0, a1, a2, a3] (vI y :: vI x :: st) μ G = ev 265 252 [a0, a1, a2, a3] (vI (w32 (x + y)) :: st) μ G := ev_stp pg_265_251 rfl
theorem pg_265_252 : mm_prog 265 252 = some (0, .iaload, 253, []) := by decide +kernel
theorem xe_265_252 (a0 a1 a2 a3 : Option MV) (x y : Int) (st : List MV) (μ : MM) (G : MG) : ev 265 252 [a0, a1, a2, a3] (vI x :: vR y :: st) μ G = if gk G y = 100 ∧ 0 ≤ x ∧ x < gl G y then ev 265 253 [a0, a1, a2, a3] (vI (μ y x) :: st) μ G else none := ev_if pg_265_252 rfl
theorem pg_265_253 : mm_prog 265 253 = some (1, .invokevirtual 18, 256, [1, 100, 1, 10]) := by decide +kernel
theorem xe_265_253 (a0 a1 a2 a3 : Option MV) (x0 z : Int) (μ : MM) (G : MG) : ev 265 253 [a0, a1, a2, a3] (vI x0 :: vR z :: []) μ G = if gk G z = 10 ∧ 0 < z then (ev 100 0 [some (vR z), some (vI x0)] [] μ G).bind (fun q => ev 265 256 [a0, a1, a2, a3] (q.1.toList ++ []) q.2.1 q.2.2) else none := ev_calV (as := [vR z, vI x0]) (r := []) mx_100 pg_265_253 rfl rfl (Nat.le_of_ble_eq_true rfl) (Nat.le_of_ble_eq_true rfl)
theorem pg_265_256 : mm_prog 265 256 = some (0, .aload_n 2, 257, []) := by decide +kernel
theorem xe_265_256 (a0 a1 a3 : Option MV) (x : Int) (st : List MV) (μ : MM) (G : MG) : ev 265 256 [a0, a1, some (vR x), a3] st μ G = ev 265 257 [a0, a1, some (vR x), a3] (vR x :: st) μ G := ev_stp pg_265_256 rfl
theorem pg_265_257 : mm_prog 265 257 = some (0, .aload_n 0, 258, []) := by decide +kernel
theorem xe_265_257 (a1 a2 a3 : Option MV) (x : Int) (st : List MV) (μ : MM) (G : MG) : ev 265 257 [some (vR x), a1, a2, a3] st μ G = ev 265 258 [some (vR x), a1, a2, a3] (vR x :: st) μ G := ev_stp pg_265_257 rfl
theorem pg_265_258 : mm_prog 265 258 = some (0, .iload_n 3, 259, []) := by decide +kernel
theorem xe_265_258 (a0 a1 a2 : Option MV) (x : Int) (st : List MV) (μ : MM) (G : MG) : ev 265 258 [a0, a1, a2, some (vI x)] st μ G = ev 265 259 [a0, a1, a2, some (vI x)] (vI x :: st) μ G := ev_stp pg_265_258 rfl
theorem pg_265_259 : mm_prog 265 259 = some (0, .iconst 1, 260, []) := by decide +kernel
theorem xe_265_259 (a0 a1 a2 a3 : Option MV) (st : List MV) (μ : MM) (G : MG) : ev 265 259 [a0, a1, a2, a3] st μ G = ev 265 260 [a0, a1, a2, a3] (vI (1) :: st) μ G := ev_stp pg_265_259 rfl
theorem pg_265_260 : mm_prog 265 260 = some (0, .iadd, 261, []) := by decide +kernel
theorem xe_265_260 (a0 a1 a2 a3 : Option MV) (x y : Int) (st : List MV) (μ : MM) (G : MG) : ev 265 260 [a0, a1, a2, a3] (vI y :: vI x :: st) μ G = ev 265 261 [a0, a1, a2, a3] (vI (w32 (x + y)) :: st) μ G := ev_stp pg_265_260 rfl
theorem pg_265_261 : mm_prog 265 261 = some (0, .iaload, 262, []) := by decide +kernel
theorem xe_265_261 (a0 a1 a2 a3 : Option MV) (x y : Int) (st : List MV) (μ : MM) (G : MG) : ev 265 261 [a0, a1, a2, a3] (vI x :: vR y :: st) μ G = if gk G y = 100 ∧ 0 ≤ x ∧ x < gl G y then ev 265 262 [a0, a1, a2, a3] (vI (μ y x) :: st) μ G else none := ev_if pg_265_261 rfl
theorem pg_265_262 : mm_prog 265 262 = some (1, .invokevirtual 22, 265, [1, 157, 1, 11]) := by decide +kernel
theorem xe_265_262 (a0 a1 a2 a3 : Option MV) (x0 z r0 : Int) (μ : MM) (G : MG) : ev 265 262 [a0, a1, a2, a3] (vI x0 :: vR z :: [vI r0]) μ G = if gk G z = 11 ∧ 0 < z then (ev 157 0 [some (vR z), some (vI x0), none] [] μ G).bind (fun q => ev 265 265 [a0, a1, a2, a3] (q.1.toList ++ [vI r0]) q.2.1 q.2.2) else none := ev_calV (as := [vR z, vI x0]) (r := [vI r0]) mx_157 pg_265_262 rfl rfl (Nat.le_of_ble_eq_true rfl) (Nat.le_of_ble_eq_true rfl)
theorem pg_265_265 : mm_prog 265 265 = some (0, .if_icmp .eq 1013, 268, []) := by decide +kernel
theorem xe_265_265 (a0 a1 a2 a3 : Option MV) (x y : Int) (st : List MV) (μ : MM) (G : MG) : ev 265 265 [a0, a1, a2, a3] (vI y :: vI x :: st) μ G = if x = y then ev 265 1278 [a0, a1, a2, a3] st μ G else ev 265 268 [a0, a1, a2, a3] st μ G := ev_br (mm_cnd_eq x y) pg_265_265 rfl
theorem pg_265_268 : mm_prog 265 268 = some (0, .iconst 0, 269, []) := by decide +kernel
theorem xe_265_268 (a0 a1 a2 a3 : Option MV) (st : List MV) (μ : MM) (G : MG) : ev 265 268 [a0, a1, a2, a3] st μ G = ev 265 269 [a0, a1, a2, a3] (vI (0) :: st) μ G := ev_stp pg_265_268 rfl
theorem pg_265_269 : mm_prog 265 269 = some (2, .ireturn, 270, [1]) := by decide +kernel
theorem xe_265_269 (a0 a1 a2 a3 : Option MV) (x : Int) (μ : MM) (G : MG) : ev 265 269 [a0, a1, a2, a3] [vI x] μ G = if x = 0 ∨ x = 1 then some (some (vI x), μ, G) else none := ev_retB pg_265_269
theorem pg_265_270 : mm_prog 265 270 = some (0, .aload_n 1, 271, []) := by decide +kernel
theorem xe_265_270 (a0 a2 a3 : Option MV) (x : Int) (st : List MV) (μ : MM) (G : MG) : ev 265 270 [a0, some (vR x), a2, a3] st μ G = ev 265 271 [a0, some (vR x), a2, a3] (vR x :: st) μ G := ev_stp pg_265_270 rfl
theorem pg_265_271 : mm_prog 265 271 = some (0, .aload_n 0, 272, []) := by decide +kernel
theorem xe_265_271 (a1 a2 a3 : Option MV) (x : Int) (st : List MV) (μ : MM) (G : MG) : ev 265 271 [some (vR x), a1, a2, a3] st μ G = ev 265 272 [some (vR x), a1, a2, a3] (vR x :: st) μ G := ev_stp pg_265_271 rfl
theorem pg_265_272 : mm_prog 265 272 = some (0, .iload_n 3, 273, []) := by decide +kernel
theorem xe_265_272 (a0 a1 a2 : Option MV) (x : Int) (st : List MV) (μ : MM) (G : MG) : ev 265 272 [a0, a1, a2, some (vI x)] st μ G = ev 265 273 [a0, a1, a2, some (vI x)] (vI x :: st) μ G := ev_stp pg_265_272 rfl
theorem pg_265_273 : mm_prog 265 273 = some (0, .iconst 1, 274, []) := by decide +kernel
theorem xe_265_273 (a0 a1 a2 a3 : Option MV) (st : List MV) (μ : MM) (G : MG) : ev 265 273 [a0, a1, a2, a3] st μ G = ev 265 274 [a0, a1, a2, a3] (vI (1) :: st) μ G := ev_stp pg_265_273 rfl
theorem pg_265_274 : mm_prog 265 274 = some (0, .iadd, 275, []) := by decide +kernel
theorem xe_265_274 (a0 a1 a2 a3 : Option MV) (x y : Int) (st : List MV) (μ : MM) (G : MG) : ev 265 274 [a0, a1, a2, a3] (vI y :: vI x :: st) μ G = ev 265 275 [a0, a1, a2, a3] (vI (w32 (x + y)) :: st) μ G := ev_stp pg_265_274 rfl
theorem pg_265_275 : mm_prog 265 275 = some (0, .iaload, 276, []) := by decide +kernel
theorem xe_265_275 (a0 a1 a2 a3 : Option MV) (x y : Int) (st : List MV) (μ : MM) (G : MG) : ev 265 275 [a0, a1, a2, a3] (vI x :: vR y :: st) μ G = if gk G y = 100 ∧ 0 ≤ x ∧ x < gl G y then ev 265 276 [a0, a1, a2, a3] (vI (μ y x) :: st) μ G else none := ev_if pg_265_275 rfl
theorem pg_265_276 : mm_prog 265 276 = some (1, .invokevirtual 23, 279, [1, 101, 1, 10]) := by decide +kernel
theorem xe_265_276 (a0 a1 a2 a3 : Option MV) (x0 z : Int) (μ : MM) (G : MG) : ev 265 276 [a0, a1, a2, a3] (vI x0 :: vR z :: []) μ G = if gk G z = 10 ∧ 0 < z then (ev 101 0 [some (vR z), some (vI x0)] [] μ G).bind (fun q => ev 265 279 [a0, a1, a2, a3] (q.1.toList ++ []) q.2.1 q.2.2) else none := ev_calV (as := [vR z, vI x0]) (r := []) mx_101 pg_265_276 rfl rfl (Nat.le_of_ble_eq_true rfl) (Nat.le_of_ble_eq_true rfl)
theorem pg_265_279 : mm_prog 265 279 = some (0, .aload_n 2, 280, []) := by decide +kernel
theorem xe_265_279 (a0 a1 a3 : Option MV) (x : Int) (st : List MV) (μ : MM) (G : MG) : ev 265 279 [a0, a1, some (vR x), a3] st μ G = ev 265 280 [a0, a1, some (vR x), a3] (vR x :: st) μ G := ev_stp pg_265_279 rfl
theorem pg_265_280 : mm_prog 265 280 = some (0, .aload_n 0, 281, []) := by decide +kernel
theorem xe_265_280 (a1 a2 a3 : Option MV) (x : Int) (st : List MV) (μ : MM) (G : MG) : ev 265 280 [some (vR x), a1, a2, a3] st μ G = ev 265 281 [some (vR x), a1, a2, a3] (vR x :: st) μ G := ev_stp pg_265_280 rfl
theorem pg_265_281 : mm_prog 265 281 = some (0, .iload_n 3, 282, []) := by decide +kernel
theorem xe_265_281 (a0 a1 a2 : Option MV) (x : Int) (st : List MV) (μ : MM) (G : MG) : ev 265 281 [a0, a1, a2, some (vI x)] st μ G = ev 265 282 [a0, a1, a2, some (vI x)] (vI x :: st) μ G := ev_stp pg_265_281 rfl
theorem pg_265_282 : mm_prog 265 282 = some (0, .iconst 1, 283, []) := by decide +kernel
theorem xe_265_282 (a0 a1 a2 a3 : Option MV) (st : List MV) (μ : MM) (G : MG) : ev 265 282 [a0, a1, a2, a3] st μ G = ev 265 283 [a0, a1, a2, a3] (vI (1) :: st) μ G := ev_stp pg_265_282 rfl
theorem pg_265_283 : mm_prog 265 283 = some (0, .iadd, 284, []) := by decide +kernel
theorem xe_265_283 (a0 a1 a2 a3 : Option MV) (x y : Int) (st : List MV) (μ : MM) (G : MG) : ev 265 283 [a0, a1, a2, a3] (vI y :: vI x :: st) μ G = ev 265 284 [a0, a1, a2, a3] (vI (w32 (x + y)) :: st) μ G := ev_stp pg_265_283 rfl
theorem pg_265_284 : mm_prog 265 284 = some (0, .iaload, 285, []) := by decide +kernel
theorem xe_265_284 (a0 a1 a2 a3 : Option MV) (x y : Int) (st : List MV) (μ : MM) (G : MG) : ev 265 284 [a0, a1, a2, a3] (vI x :: vR y :: st) μ G = if gk G y = 100 ∧ 0 ≤ x ∧ x < gl G y then ev 265 285 [a0, a1, a2, a3] (vI (μ y x) :: st) μ G else none := ev_if pg_265_284 rfl
theorem pg_265_285 : mm_prog 265 285 = some (1, .invokevirtual 26, 288, [1, 158, 1, 11]) := by decide +kernel
theorem xe_265_285 (a0 a1 a2 a3 : Option MV) (x0 z r0 : Int) (μ : MM) (G : MG) : ev 265 285 [a0, a1, a2, a3] (vI x0 :: vR z :: [vI r0]) μ G = if gk G z = 11 ∧ 0 < z then (ev 158 0 [some (vR z), some (vI x0)] [] μ G).bind (fun q => ev 265 288 [a0, a1, a2, a3] (q.1.toList ++ [vI r0]) q.2.1 q.2.2) else none := ev_calV (as := [vR z, vI x0]) (r := [vI r0]) mx_158 pg_265_285 rfl rfl (Nat.le_of_ble_eq_true rfl) (Nat.le_of_ble_eq_true rfl)
theorem pg_265_288 : mm_prog 265 288 = some (0, .if_icmp .eq 990, 291, []) := by decide +kernel
theorem xe_265_288 (a0 a1 a2 a3 : Option MV) (x y : Int) (st : List MV) (μ : MM) (G : MG) : ev 265 288 [a0, a1, a2, a3] (vI y :: vI x :: st) μ G = if x = y then ev 265 1278 [a0, a1, a2, a3] st μ G else ev 265 291 [a0, a1, a2, a3] st μ G := ev_br (mm_cnd_eq x y) pg_265_288 rfl
theorem pg_265_291 : mm_prog 265 291 = some (0, .iconst 0, 292, []) := by decide +kernel
theorem xe_265_291 (a0 a1 a2 a3 : Option MV) (st : List MV) (μ : MM) (G : MG) : ev 265 291 [a0, a1, a2, a3] st μ G = ev 265 292 [a0, a1, a2, a3] (vI (0) :: st) μ G := ev_stp pg_265_291 rfl
theorem pg_265_292 : mm_prog 265 292 = some (2, .ireturn, 293, [1]) := by decide +kernel
theorem xe_265_292 (a0 a1 a2 a3 : Option MV) (x : Int) (μ : MM) (G : MG) : ev 265 292 [a0, a1, a2, a3] [vI x] μ G = if x = 0 ∨ x = 1 then some (some (vI x), μ, G) else none := ev_retB pg_265_292
theorem pg_265_293 : mm_prog 265 293 = some (0, .aload_n 1, 294, []) := by decide +kernel
theorem xe_265_293 (a0 a2 a3 : Option MV) (x : Int) (st : List MV) (μ : MM) (G : MG) : ev 265 293 [a0, some (vR x), a2, a3] st μ G = ev 265 294 [a0, some (vR x), a2, a3] (vR x :: st) μ G := ev_stp pg_265_293 rfl
theorem pg_265_294 : mm_prog 265 294 = some (0, .aload_n 0, 295, []) := by decide +kernel
theorem xe_265_294 (a1 a2 a3 : Option MV) (x : Int) (st : List MV) (μ : MM) (G : MG) : ev 265 294 [some (vR x), a1, a2, a3] st μ G = ev 265 295 [some (vR x), a1, a2, a3] (vR x :: st) μ G := ev_stp pg_265_294 rfl
theorem pg_265_295 : mm_prog 265 295 = some (0, .iload_n 3, 296, []) := by decide +kernel
theorem xe_265_295 (a0 a1 a2 : Option MV) (x : Int) (st : List MV) (μ : MM) (G : MG) : ev 265 295 [a0, a1, a2, some (vI x)] st μ G = ev 265 296 [a0, a1, a2, some (vI x)] (vI x :: st) μ G := ev_stp pg_265_295 rfl
theorem pg_265_296 : mm_prog 265 296 = some (0, .iconst 1, 297, []) := by decide +kernel
theorem xe_265_296 (a0 a1 a2 a3 : Option MV) (st : List MV) (μ : MM) (G : MG) : ev 265 296 [a0, a1, a2, a3] st μ G = ev 265 297 [a0, a1, a2, a3] (vI (1) :: st) μ G := ev_stp pg_265_296 rfl
theorem pg_265_297 : mm_prog 265 297 = some (0, .iadd, 298, []) := by decide +kernel
theorem xe_265_297 (a0 a1 a2 a3 : Option MV) (x y : Int) (st : List MV) (μ : MM) (G : MG) : ev 265 297 [a0, a1, a2, a3] (vI y :: vI x :: st) μ G = ev 265 298 [a0, a1, a2, a3] (vI (w32 (x + y)) :: st) μ G := ev_stp pg_265_297 rfl
theorem pg_265_298 : mm_prog 265 298 = some (0, .iaload, 299, []) := by decide +kernel
theorem xe_265_298 (a0 a1 a2 a3 : Option MV) (x y : Int) (st : List MV) (μ : MM) (G : MG) : ev 265 298 [a0, a1, a2, a3] (vI x :: vR y :: st) μ G = if gk G y = 100 ∧ 0 ≤ x ∧ x < gl G y then ev 265 299 [a0, a1, a2, a3] (vI (μ y x) :: st) μ G else none := ev_if pg_265_298 rfl
theorem pg_265_299 : mm_prog 265 299 = some (1, .invokevirtual 27, 302, [1, 102, 1, 10]) := by decide +kernel
theorem xe_265_299 (a0 a1 a2 a3 : Option MV) (x0 z : Int) (μ : MM) (G : MG) : ev 265 299 [a0, a1, a2, a3] (vI x0 :: vR z :: []) μ G = if gk G z = 10 ∧ 0 < z then (ev 102 0 [some (vR z), some (vI x0)] [] μ G).bind (fun q => ev 265 302 [a0, a1, a2, a3] (q.1.toList ++ []) q.2.1 q.2.2) else none := ev_calV (as := [vR z, vI x0]) (r := []) mx_102 pg_265_299 rfl rfl (Nat.le_of_ble_eq_true rfl) (Nat.le_of_ble_eq_true rfl)
theorem pg_265_302 : mm_prog 265 302 = some (0, .aload_n 2, 303, []) := by decide +kernel
theorem xe_265_302 (a0 a1 a3 : Option MV) (x : Int) (st : List MV) (μ : MM) (G : MG) : ev 265 302 [a0, a1, some (vR x), a3] st μ G = ev 265 303 [a0, a1, some (vR x), a3] (vR x :: st) μ G := ev_stp pg_265_302 rfl
theorem pg_265_303 : mm_prog 265 303 = some (0, .aload_n 0, 304, []) := by decide +kernel
theorem xe_265_303 (a1 a2 a3 : Option MV) (x : Int) (st : List MV) (μ : MM) (G : MG) : ev 265 303 [some (vR x), a1, a2, a3] st μ G = ev 265 304 [some (vR x), a1, a2, a3] (vR x :: st) μ G := ev_stp pg_265_303 rfl
theorem pg_265_304 : mm_prog 265 304 = some (0, .iload_n 3, 305, []) := by decide +kernel
theorem xe_265_304 (a0 a1 a2 : Option MV) (x : Int) (st : List MV) (μ : MM) (G : MG) : ev 265 304 [a0, a1, a2, some (vI x)] st μ G = ev 265 305 [a0, a1, a2, some (vI x)] (vI x :: st) μ G := ev_stp pg_265_304 rfl
theorem pg_265_305 : mm_prog 265 305 = some (0, .iconst 1, 306, []) := by decide +kernel
theorem xe_265_305 (a0 a1 a2 a3 : Option MV) (st : List MV) (μ : MM) (G : MG) : ev 265 305 [a0, a1, a2, a3] st μ G = ev 265 306 [a0, a1, a2, a3] (vI (1) :: st) μ G := ev_stp pg_265_305 rfl
theorem pg_265_306 : mm_prog 265 306 = some (0, .iadd, 307, []) := by decide +kernel
theorem xe_265_306 (a0 a1 a2 a3 : Option MV) (x y : Int) (st : List MV) (μ : MM) (G : MG) : ev 265 306 [a0, a1, a2, a3] (vI y :: vI x :: st) μ G = ev 265 307 [a0, a1, a2, a3] (vI (w32 (x + y)) :: st) μ G := ev_stp pg_265_306 rfl
theorem pg_265_307 : mm_prog 265 307 = some (0, .iaload, 308, []) := by decide +kernel
theorem xe_265_307 (a0 a1 a2 a3 : Option MV) (x y : Int) (st : List MV) (μ : MM) (G : MG) : ev 265 307 [a0, a1, a2, a3] (vI x :: vR y :: st) μ G = if gk G y = 100 ∧ 0 ≤ x ∧ x < gl G y then ev 265 308 [a0, a1, a2, a3] (vI (μ y x) :: st) μ G else none := ev_if pg_265_307 rfl
theorem pg_265_308 : mm_prog 265 308 = some (1, .invokevirtual 30, 311, [1, 159, 1, 11]) := by decide +kernel
theorem xe_265_308 (a0 a1 a2 a3 : Option MV) (x0 z r0 : Int) (μ : MM) (G : MG) : ev 265 308 [a0, a1, a2, a3] (vI x0 :: vR z :: [vI r0]) μ G = if gk G z = 11 ∧ 0 < z then (ev 159 0 [some (vR z), some (vI x0), none] [] μ G).bind (fun q => ev 265 311 [a0, a1, a2, a3] (q.1.toList ++ [vI r0]) q.2.1 q.2.2) else none := ev_calV (as := [vR z, vI x0]) (r := [vI r0]) mx_159 pg_265_308 rfl rfl (Nat.le_of_ble_eq_true rfl) (Nat.le_of_ble_eq_true rfl)
theorem pg_265_311 : mm_prog 265 311 = some (0, .if_icmp .eq 967, 314, []) := by decide +kernel
theorem xe_265_311 (a0 a1 a2 a3 : Option MV) (x y : Int) (st : List MV) (μ : MM) (G : MG) : ev 265 311 [a0, a1, a2, a3] (vI y :: vI x :: st) μ G = if x = y then ev 265 1278 [a0, a1, a2, a3] st μ G else ev 265 314 [a0, a1, a2, a3] st μ G := ev_br (mm_cnd_eq x y) pg_265_311 rfl
theorem pg_265_314 : mm_prog 265 314 = some (0, .iconst 0, 315, []) := by decide +kernel
theorem xe_265_314 (a0 a1 a2 a3 : Option MV) (st : List MV) (μ : MM) (G : MG) : ev 265 314 [a0, a1, a2, a3] st μ G = ev 265 315 [a0, a1, a2, a3] (vI (0) :: st) μ G := ev_stp pg_265_314 rfl
theorem pg_265_315 : mm_prog 265 315 = some (2, .ireturn, 316, [1]) := by decide +kernel
theorem xe_265_315 (a0 a1 a2 a3 : Option MV) (x : Int) (μ : MM) (G : MG) : ev 265 315 [a0, a1, a2, a3] [vI x] μ G = if x = 0 ∨ x = 1 then some (some (vI x), μ, G) else none := ev_retB pg_265_315
theorem pg_265_316 : mm_prog 265 316 = some (0, .aload_n 1, 317, []) := by decide +kernel
theorem xe_265_316 (a0 a2 a3 : Option MV) (x : Int) (st : List MV) (μ : MM) (G : MG) : ev 265 316 [a0, some (vR x), a2, a3] st μ G = ev 265 317 [a0, some (vR x), a2, a3] (vR x :: st) μ G := ev_stp pg_265_316 rfl
theorem pg_265_317 : mm_prog 265 317 = some (0, .aload_n 0, 318, []) := by decide +kernel
theorem xe_265_317 (a1 a2 a3 : Option MV) (x : Int) (st : List MV) (μ : MM) (G : MG) : ev 265 317 [some (vR x), a1, a2, a3] st μ G = ev 265 318 [some (vR x), a1, a2, a3] (vR x :: st) μ G := ev_stp pg_265_317 rfl
theorem pg_265_318 : mm_prog 265 318 = some (0, .iload_n 3, 319, []) := by decide +kernel
theorem xe_265_318 (a0 a1 a2 : Option MV) (x : Int) (st : List MV) (μ : MM) (G : MG) : ev 265 318 [a0, a1, a2, some (vI x)] st μ G = ev 265 319 [a0, a1, a2, some (vI x)] (vI x :: st) μ G := ev_stp pg_265_318 rfl
theorem pg_265_319 : mm_prog 265 319 = some (0, .iconst 1, 320, []) := by decide +kernel
theorem xe_265_319 (a0 a1 a2 a3 : Option MV) (st : List MV) (μ : MM) (G : MG) : ev 265 319 [a0, a1, a2, a3] st μ G = ev 265 320 [a0, a1, a2, a3] (vI (1) :: st) μ G := ev_stp pg_265_319 rfl
theorem pg_265_320 : mm_prog 265 320 = some (0, .iadd, 321, []) := by decide +kernel
theorem xe_265_320 (a0 a1 a2 a3 : Option MV) (x y : Int) (st : List MV) (μ : MM) (G : MG) : ev 265 320 [a0, a1, a2, a3] (vI y :: vI x :: st) μ G = ev 265 321 [a0, a1, a2, a3] (vI (w32 (x + y)) :: st) μ G := ev_stp pg_265_320 rfl
theorem pg_265_321 : mm_prog 265 321 = some (0, .iaload, 322, []) := by decide +kernel
theorem xe_265_321 (a0 a1 a2 a3 : Option MV) (x y : Int) (st : List MV) (μ : MM) (G : MG) : ev 265 321 [a0, a1, a2, a3] (vI x :: vR y :: st) μ G = if gk G y = 100 ∧ 0 ≤ x ∧ x < gl G y then ev 265 322 [a0, a1, a2, a3] (vI (μ y x) :: st) μ G else none := ev_if pg_265_321 rfl
theorem pg_265_322 : mm_prog 265 322 = some (1, .invokevirtual 31, 325, [1, 103, 1, 10]) := by decide +kernel
theorem xe_265_322 (a0 a1 a2 a3 : Option MV) (x0 z : Int) (μ : MM) (G : MG) : ev 265 322 [a0, a1, a2, a3] (vI x0 :: vR z :: []) μ G = if gk G z = 10 ∧ 0 < z then (ev 103 0 [some (vR z), some (vI x0)] [] μ G).bind (fun q => ev 265 325 [a0, a1, a2, a3] (q.1.toList ++ []) q.2.1 q.2.2) else none := ev_calV (as := [vR z, vI x0]) (r := []) mx_103 pg_265_322 rfl rfl (Nat.le_of_ble_eq_true rfl) (Nat.le_of_ble_eq_true rfl)
theorem pg_265_325 : mm_prog 265 325 = some (0, .aload_n 2, 326, []) := by decide +kernel
theorem xe_265_325 (a0 a1 a3 : Option MV) (x : Int) (st : List MV) (μ : MM) (G : MG) : ev 265 325 [a0, a1, some (vR x), a3] st μ G = ev 265 326 [a0, a1, some (vR x), a3] (vR x :: st) μ G := ev_stp pg_265_325 rfl
theorem pg_265_326 : mm_prog 265 326 = some (0, .aload_n 0, 327, []) := by decide +kernel
theorem xe_265_326 (a1 a2 a3 : Option MV) (x : Int) (st : List MV) (μ : MM) (G : MG) : ev 265 326 [some (vR x), a1, a2, a3] st μ G = ev 265 327 [some (vR x), a1, a2, a3] (vR x :: st) μ G := ev_stp pg_265_326 rfl
theorem pg_265_327 : mm_prog 265 327 = some (0, .iload_n 3, 328, []) := by decide +kernel
theorem xe_265_327 (a0 a1 a2 : Option MV) (x : Int) (st : List MV) (μ : MM) (G : MG) : ev 265 327 [a0, a1, a2, some (vI x)] st μ G = ev 265 328 [a0, a1, a2, some (vI x)] (vI x :: st) μ G := ev_stp pg_265_327 rfl
theorem pg_265_328 : mm_prog 265 328 = some (0, .iconst 1, 329, []) := by decide +kernel
theorem xe_265_328 (a0 a1 a2 a3 : Option MV) (st : List MV) (μ : MM) (G : MG) : ev 265 328 [a0, a1, a2, a3] st μ G = ev 265 329 [a0, a1, a2, a3] (vI (1) :: st) μ G := ev_stp pg_265_328 rfl
theorem pg_265_329 : mm_prog 265 329 = some (0, .iadd, 330, []) := by decide +kernel
theorem xe_265_329 (a0 a1 a2 a3 : Option MV) (x y : Int) (st : List MV) (μ : MM) (G : MG) : ev 265 329 [a0, a1, a2, a3] (vI y :: vI x :: st) μ G = ev 265 330 [a0, a1, a2, a3] (vI (w32 (x + y)) :: st) μ G := ev_stp pg_265_329 rfl
theorem pg_265_330 : mm_prog 265 330 = some (0, .iaload, 331, []) := by decide +kernel
theorem xe_265_330 (a0 a1 a2 a3 : Option MV) (x y : Int) (st : List MV) (μ : MM) (G : MG) : ev 265 330 [a0, a1, a2, a3] (vI x :: vR y :: st) μ G = if gk G y = 100 ∧ 0 ≤ x ∧ x < gl G y then ev 265 331 [a0, a1, a2, a3] (vI (μ y x) :: st) μ G else none := ev_if pg_265_330 rfl
theorem pg_265_331 : mm_prog 265 331 = some (1, .invokevirtual 34, 334, [1, 178, 1, 11]) := by decide +kernel
theorem xe_265_331 (a0 a1 a2 a3 : Option MV) (x0 z r0 : Int) (μ : MM) (G : MG) : ev 265 331 [a0, a1, a2, a3] (vI x0 :: vR z :: [vI r0]) μ G = if gk G z = 11 ∧ 0 < z then (ev 178 0 [some (vR z), some (vI x0), none] [] μ G).bind (fun q => ev 265 334 [a0, a1, a2, a3] (q.1.toList ++ [vI r0]) q.2.1 q.2.2) else none := ev_calV (as := [vR z, vI x0]) (r := [vI r0]) mx_178 pg_265_331 rfl rfl (Nat.le_of_ble_eq_true rfl) (Nat.le_of_ble_eq_true rfl)
theorem pg_265_334 : mm_prog 265 334 = some (0, .if_icmp .eq 944, 337, []) := by decide +kernel
theorem xe_265_334 (a0 a1 a2 a3 : Option MV) (x y : Int) (st : List MV) (μ : MM) (G : MG) : ev 265 334 [a0, a1, a2, a3] (vI y :: vI x :: st) μ G = if x = y then ev 265 1278 [a0, a1, a2, a3] st μ G else ev 265 337 [a0, a1, a2, a3] st μ G := ev_br (mm_cnd_eq x y) pg_265_334 rfl
theorem pg_265_337 : mm_prog 265 337 = some (0, .iconst 0, 338, []) := by decide +kernel
theorem xe_265_337 (a0 a1 a2 a3 : Option MV) (st : List MV) (μ : MM) (G : MG) : ev 265 337 [a0, a1, a2, a3] st μ G = ev 265 338 [a0, a1, a2, a3] (vI (0) :: st) μ G := ev_stp pg_265_337 rfl
theorem pg_265_338 : mm_prog 265 338 = some (2, .ireturn, 339, [1]) := by decide +kernel
theorem xe_265_338 (a0 a1 a2 a3 : Option MV) (x : Int) (μ : MM) (G : MG) : ev 265 338 [a0, a1, a2, a3] [vI x] μ G = if x = 0 ∨ x = 1 then some (some (vI x), μ, G) else none := ev_retB pg_265_338
theorem pg_265_339 : mm_prog 265 339 = some (0, .aload_n 1, 340, []) := by decide +kernel
theorem xe_265_339 (a0 a2 a3 : Option MV) (x : Int) (st : List MV) (μ : MM) (G : MG) : ev 265 339 [a0, some (vR x), a2, a3] st μ G = ev 265 340 [a0, some (vR x), a2, a3] (vR x :: st) μ G := ev_stp pg_265_339 rfl
theorem pg_265_340 : mm_prog 265 340 = some (0, .aload_n 0, 341, []) := by decide +kernel
theorem xe_265_340 (a1 a2 a3 : Option MV) (x : Int) (st : List MV) (μ : MM) (G : MG) : ev 265 340 [some (vR x), a1, a2, a3] st μ G = ev 265 341 [some (vR x), a1, a2, a3] (vR x :: st) μ G := ev_stp pg_265_340 rfl
theorem pg_265_341 : mm_prog 265 341 = some (0, .iload_n 3, 342, []) := by decide +kernel
theorem xe_265_341 (a0 a1 a2 : Option MV) (x : Int) (st : List MV) (μ : MM) (G : MG) : ev 265 341 [a0, a1, a2, some (vI x)] st μ G = ev 265 342 [a0, a1, a2, some (vI x)] (vI x :: st) μ G := ev_stp pg_265_341 rfl
theorem pg_265_342 : mm_prog 265 342 = some (0, .iconst 1, 343, []) := by decide +kernel
theorem xe_265_342 (a0 a1 a2 a3 : Option MV) (st : List MV) (μ : MM) (G : MG) : ev 265 342 [a0, a1, a2, a3] st μ G = ev 265 343 [a0, a1, a2, a3] (vI (1) :: st) μ G := ev_stp pg_265_342 rfl
theorem pg_265_343 : mm_prog 265 343 = some (0, .iadd, 344, []) := by decide +kernel
theorem xe_265_343 (a0 a1 a2 a3 : Option MV) (x y : Int) (st : List MV) (μ : MM) (G : MG) : ev 265 343 [a0, a1, a2, a3] (vI y :: vI x :: st) μ G = ev 265 344 [a0, a1, a2, a3] (vI (w32 (x + y)) :: st) μ G := ev_stp pg_265_343 rfl
theorem pg_265_344 : mm_prog 265 344 = some (0, .iaload, 345, []) := by decide +kernel
theorem xe_265_344 (a0 a1 a2 a3 : Option MV) (x y : Int) (st : List MV) (μ : MM) (G : MG) : ev 265 344 [a0, a1, a2, a3] (vI x :: vR y :: st) μ G = if gk G y = 100 ∧ 0 ≤ x ∧ x < gl G y then ev 265 345 [a0, a1, a2, a3] (vI (μ y x) :: st) μ G else none := ev_if pg_265_344 rfl
theorem pg_265_345 : mm_prog 265 345 = some (1, .invokevirtual 35, 348, [1, 105, 1, 10]) := by decide +kernel
theorem xe_265_345 (a0 a1 a2 a3 : Option MV) (x0 z : Int) (μ : MM) (G : MG) : ev 265 345 [a0, a1, a2, a3] (vI x0 :: vR z :: []) μ G = if gk G z = 10 ∧ 0 < z then (ev 105 0 [some (vR z), some (vI x0)] [] μ G).bind (fun q => ev 265 348 [a0, a1, a2, a3] (q.1.toList ++ []) q.2.1 q.2.2) else none := ev_calV (as := [vR z, vI x0]) (r := []) mx_105 pg_265_345 rfl rfl (Nat.le_of_ble_eq_true rfl) (Nat.le_of_ble_eq_true rfl)
theorem pg_265_348 : mm_prog 265 348 = some (0, .aload_n 2, 349, []) := by decide +kernel
theorem xe_265_348 (a0 a1 a3 : Option MV) (x : Int) (st : List MV) (μ : MM) (G : MG) : ev 265 348 [a0, a1, some (vR x), a3] st μ G = ev 265 349 [a0, a1, some (vR x), a3] (vR x :: st) μ G := ev_stp pg_265_348 rfl
theorem pg_265_349 : mm_prog 265 349 = some (0, .aload_n 0, 350, []) := by decide +kernel
theorem xe_265_349 (a1 a2 a3 : Option MV) (x : Int) (st : List MV) (μ : MM) (G : MG) : ev 265 349 [some (vR x), a1, a2, a3] st μ G = ev 265 350 [some (vR x), a1, a2, a3] (vR x :: st) μ G := ev_stp pg_265_349 rfl
theorem pg_265_350 : mm_prog 265 350 = some (0, .iload_n 3, 351, []) := by decide +kernel
theorem xe_265_350 (a0 a1 a2 : Option MV) (x : Int) (st : List MV) (μ : MM) (G : MG) : ev 265 350 [a0, a1, a2, some (vI x)] st μ G = ev 265 351 [a0, a1, a2, some (vI x)] (vI x :: st) μ G := ev_stp pg_265_350 rfl
theorem pg_265_351 : mm_prog 265 351 = some (0, .iconst 1, 352, []) := by decide +kernel
theorem xe_265_351 (a0 a1 a2 a3 : Option MV) (st : List MV) (μ : MM) (G : MG) : ev 265 351 [a0, a1, a2, a3] st μ G = ev 265 352 [a0, a1, a2, a3] (vI (1) :: st) μ G := ev_stp pg_265_351 rfl
theorem pg_265_352 : mm_prog 265 352 = some (0, .iadd, 353, []) := by decide +kernel
theorem xe_265_352 (a0 a1 a2 a3 : Option MV) (x y : Int) (st : List MV) (μ : MM) (G : MG) : ev 265 352 [a0, a1, a2, a3] (vI y :: vI x :: st) μ G = ev 265 353 [a0, a1, a2, a3] (vI (w32 (x + y)) :: st) μ G := ev_stp pg_265_352 rfl
theorem pg_265_353 : mm_prog 265 353 = some (0, .iaload, 354, []) := by decide +kernel
theorem xe_265_353 (a0 a1 a2 a3 : Option MV) (x y : Int) (st : List MV) (μ : MM) (G : MG) : ev 265 353 [a0, a1, a2, a3] (vI x :: vR y :: st) μ G = if gk G y = 100 ∧ 0 ≤ x ∧ x < gl G y then ev 265 354 [a0, a1, a2, a3] (vI (μ y x) :: st) μ G else none := ev_if pg_265_353 rfl
theorem pg_265_354 : mm_prog 265 354 = some (1, .invokevirtual 38, 357, [1, 179, 1, 11]) := by decide +kernel
theorem xe_265_354 (a0 a1 a2 a3 : Option MV) (x0 z r0 : Int) (μ : MM) (G : MG) : ev 265 354 [a0, a1, a2, a3] (vI x0 :: vR z :: [vI r0]) μ G = if gk G z = 11 ∧ 0 < z then (ev 179 0 [some (vR z), some (vI x0)] [] μ G).bind (fun q => ev 265 357 [a0, a1, a2, a3] (q.1.toList ++ [vI r0]) q.2.1 q.2.2) else none := ev_calV (as := [vR z, vI x0]) (r := [vI r0]) mx_179 pg_265_354 rfl rfl (Nat.le_of_ble_eq_true rfl) (Nat.le_of_ble_eq_true rfl)
theorem pg_265_357 : mm_prog 265 357 = some (0, .if_icmp .eq 921, 360, []) := by decide +kernel
theorem xe_265_357 (a0 a1 a2 a3 : Option MV) (x y : Int) (st : List MV) (μ : MM) (G : MG) : ev 265 357 [a0, a1, a2, a3] (vI y :: vI x :: st) μ G = if x = y then ev 265 1278 [a0, a1, a2, a3] st μ G else ev 265 360 [a0, a1, a2, a3] st μ G := ev_br (mm_cnd_eq x y) pg_265_357 rfl
theorem pg_265_360 : mm_prog 265 360 = some (0, .iconst 0, 361, []) := by decide +kernel
theorem xe_265_360 (a0 a1 a2 a3 : Option MV) (st : List MV) (μ : MM) (G : MG) : ev 265 360 [a0, a1, a2, a3] st μ G = ev 265 361 [a0, a1, a2, a3] (vI (0) :: st) μ G := ev_stp pg_265_360 rfl
theorem pg_265_361 : mm_prog 265 361 = some (2, .ireturn, 362, [1]) := by decide +kernel
theorem xe_265_361 (a0 a1 a2 a3 : Option MV) (x : Int) (μ : MM) (G : MG) : ev 265 361 [a0, a1, a2, a3] [vI x] μ G = if x = 0 ∨ x = 1 then some (some (vI x), μ, G) else none := ev_retB pg_265_361
theorem pg_265_362 : mm_prog 265 362 = some (0, .aload_n 1, 363, []) := by decide +kernel
theorem xe_265_362 (a0 a2 a3 : Option MV) (x : Int) (st : List MV) (μ : MM) (G : MG) : ev 265 362 [a0, some (vR x), a2, a3] st μ G = ev 265 363 [a0, some (vR x), a2, a3] (vR x :: st) μ G := ev_stp pg_265_362 rfl
theorem pg_265_363 : mm_prog 265 363 = some (0, .aload_n 0, 364, []) := by decide +kernel
theorem xe_265_363 (a1 a2 a3 : Option MV) (x : Int) (st : List MV) (μ : MM) (G : MG) : ev 265 363 [some (vR x), a1, a2, a3] st μ G = ev 265 364 [some (vR x), a1, a2, a3] (vR x :: st) μ G := ev_stp pg_265_363 rfl
theorem pg_265_364 : mm_prog 265 364 = some (0, .iload_n 3, 365, []) := by decide +kernel
theorem xe_265_364 (a0 a1 a2 : Option MV) (x : Int) (st : List MV) (μ : MM) (G : MG) : ev 265 364 [a0, a1, a2, some (vI x)] st μ G = ev 265 365 [a0, a1, a2, some (vI x)] (vI x :: st) μ G := ev_stp pg_265_364 rfl
theorem pg_265_365 : mm_prog 265 365 = some (0, .iconst 1, 366, []) := by decide +kernel
theorem xe_265_365 (a0 a1 a2 a3 : Option MV) (st : List MV) (μ : MM) (G : MG) : ev 265 365 [a0, a1, a2, a3] st μ G = ev 265 366 [a0, a1, a2, a3] (vI (1) :: st) μ G := ev_stp pg_265_365 rfl
theorem pg_265_366 : mm_prog 265 366 = some (0, .iadd, 367, []) := by decide +kernel
theorem xe_265_366 (a0 a1 a2 a3 : Option MV) (x y : Int) (st : List MV) (μ : MM) (G : MG) : ev 265 366 [a0, a1, a2, a3] (vI y :: vI x :: st) μ G = ev 265 367 [a0, a1, a2, a3] (vI (w32 (x + y)) :: st) μ G := ev_stp pg_265_366 rfl
theorem pg_265_367 : mm_prog 265 367 = some (0, .iaload, 368, []) := by decide +kernel
theorem xe_265_367 (a0 a1 a2 a3 : Option MV) (x y : Int) (st : List MV) (μ : MM) (G : MG) : ev 265 367 [a0, a1, a2, a3] (vI x :: vR y :: st) μ G = if gk G y = 100 ∧ 0 ≤ x ∧ x < gl G y then ev 265 368 [a0, a1, a2, a3] (vI (μ y x) :: st) μ G else none := ev_if pg_265_367 rfl
theorem pg_265_368 : mm_prog 265 368 = some (0, .aload_n 0, 369, []) := by decide +kernel
theorem xe_265_368 (a1 a2 a3 : Option MV) (x : Int) (st : List MV) (μ : MM) (G : MG) : ev 265 368 [some (vR x), a1, a2, a3] st μ G = ev 265 369 [some (vR x), a1, a2, a3] (vR x :: st) μ G := ev_stp pg_265_368 rfl
theorem pg_265_369 : mm_prog 265 369 = some (0, .iload_n 3, 370, []) := by decide +kernel
theorem xe_265_369 (a0 a1 a2 : Option MV) (x : Int) (st : List MV) (μ : MM) (G : MG) : ev 265 369 [a0, a1, a2, some (vI x)] st μ G = ev 265 370 [a0, a1, a2, some (vI x)] (vI x :: st) μ G := ev_stp pg_265_369 rfl
theorem pg_265_370 : mm_prog 265 370 = some (0, .iconst 2, 371, []) := by decide +kernel
theorem xe_265_370 (a0 a1 a2 a3 : Option MV) (st : List MV) (μ : MM) (G : MG) : ev 265 370 [a0, a1, a2, a3] st μ G = ev 265 371 [a0, a1, a2, a3] (vI (2) :: st) μ G := ev_stp pg_265_370 rfl
theorem pg_265_371 : mm_prog 265 371 = some (0, .iadd, 372, []) := by decide +kernel
theorem xe_265_371 (a0 a1 a2 a3 : Option MV) (x y : Int) (st : List MV) (μ : MM) (G : MG) : ev 265 371 [a0, a1, a2, a3] (vI y :: vI x :: st) μ G = ev 265 372 [a0, a1, a2, a3] (vI (w32 (x + y)) :: st) μ G := ev_stp pg_265_371 rfl
theorem pg_265_372 : mm_prog 265 372 = some (0, .iaload, 373, []) := by decide +kernel
theorem xe_265_372 (a0 a1 a2 a3 : Option MV) (x y : Int) (st : List MV) (μ : MM) (G : MG) : ev 265 372 [a0, a1, a2, a3] (vI x :: vR y :: st) μ G = if gk G y = 100 ∧ 0 ≤ x ∧ x < gl G y then ev 265 373 [a0, a1, a2, a3] (vI (μ y x) :: st) μ G else none := ev_if pg_265_372 rfl
theorem pg_265_373 : mm_prog 265 373 = some (1, .invokevirtual 39, 376, [1, 106, 2, 10]) := by decide +kernel
theorem xe_265_373 (a0 a1 a2 a3 : Option MV) (x0 x1 z : Int) (μ : MM) (G : MG) : ev 265 373 [a0, a1, a2, a3] (vI x1 :: vI x0 :: vR z :: []) μ G = if gk G z = 10 ∧ 0 < z then (ev 106 0 [some (vR z), some (vI x0), some (vI x1), none] [] μ G).bind (fun q => ev 265 376 [a0, a1, a2, a3] (q.1.toList ++ []) q.2.1 q.2.2) else none := ev_calV (as := [vR z, vI x0, vI x1]) (r := []) mx_106 pg_265_373 rfl rfl (Nat.le_of_ble_eq_true rfl) (Nat.le_of_ble_eq_true rfl)
theorem pg_265_376 : mm_prog 265 376 = some (0, .aload_n 2, 377, []) := by decide +kernel
theorem xe_265_376 (a0 a1 a3 : Option MV) (x : Int) (st : List MV) (μ : MM) (G : MG) : ev 265 376 [a0, a1, some (vR x), a3] st μ G = ev 265 377 [a0, a1, some (vR x), a3] (vR x :: st) μ G := ev_stp pg_265_376 rfl
theorem pg_265_377 : mm_prog 265 377 = some (0, .aload_n 0, 378, []) := by decide +kernel
theorem xe_265_377 (a1 a2 a3 : Option MV) (x : Int) (st : List MV) (μ : MM) (G : MG) : ev 265 377 [some (vR x), a1, a2, a3] st μ G = ev 265 378 [some (vR x), a1, a2, a3] (vR x :: st) μ G := ev_stp pg_265_377 rfl
theorem pg_265_378 : mm_prog 265 378 = some (0, .iload_n 3, 379, []) := by decide +kernel
theorem xe_265_378 (a0 a1 a2 : Option MV) (x : Int) (st : List MV) (μ : MM) (G : MG) : ev 265 378 [a0, a1, a2, some (vI x)] st μ G = ev 265 379 [a0, a1, a2, some (vI x)] (vI x :: st) μ G := ev_stp pg_265_378 rfl
theorem pg_265_379 : mm_prog 265 379 = some (0, .iconst 1, 380, []) := by decide +kernel
theorem xe_265_379 (a0 a1 a2 a3 : Option MV) (st : List MV) (μ : MM) (G : MG) : ev 265 379 [a0, a1, a2, a3] st μ G = ev 265 380 [a0, a1, a2, a3] (vI (1) :: st) μ G := ev_stp pg_265_379 rfl
theorem pg_265_380 : mm_prog 265 380 = some (0, .iadd, 381, []) := by decide +kernel
theorem xe_265_380 (a0 a1 a2 a3 : Option MV) (x y : Int) (st : List MV) (μ : MM) (G : MG) : ev 265 380 [a0, a1, a2, a3] (vI y :: vI x :: st) μ G = ev 265 381 [a0, a1, a2, a3] (vI (w32 (x + y)) :: st) μ G := ev_stp pg_265_380 rfl
theorem pg_265_381 : mm_prog 265 381 = some (0, .iaload, 382, []) := by decide +kernel
theorem xe_265_381 (a0 a1 a2 a3 : Option MV) (x y : Int) (st : List MV) (μ : MM) (G : MG) : ev 265 381 [a0, a1, a2, a3] (vI x :: vR y :: st) μ G = if gk G y = 100 ∧ 0 ≤ x ∧ x < gl G y then ev 265 382 [a0, a1, a2, a3] (vI (μ y x) :: st) μ G else none := ev_if pg_265_381 rfl
theorem pg_265_382 : mm_prog 265 382 = some (0, .aload_n 0, 383, []) := by decide +kernel
theorem xe_265_382 (a1 a2 a3 : Option MV) (x : Int) (st : List MV) (μ : MM) (G : MG) : ev 265 382 [some (vR x), a1, a2, a3] st μ G = ev 265 383 [some (vR x), a1, a2, a3] (vR x :: st) μ G := ev_stp pg_265_382 rfl
theorem pg_265_383 : mm_prog 265 383 = some (0, .iload_n 3, 384, []) := by decide +kernel
theorem xe_265_383 (a0 a1 a2 : Option MV) (x : Int) (st : List MV) (μ : MM) (G : MG) : ev 265 383 [a0, a1, a2, some (vI x)] st μ G = ev 265 384 [a0, a1, a2, some (vI x)] (vI x :: st) μ G := ev_stp pg_265_383 rfl
theorem pg_265_384 : mm_prog 265 384 = some (0, .iconst 2, 385, []) := by decide +kernel
theorem xe_265_384 (a0 a1 a2 a3 : Option MV) (st : List MV) (μ : MM) (G : MG) : ev 265 384 [a0, a1, a2, a3] st μ G = ev 265 385 [a0, a1, a2, a3] (vI (2) :: st) μ G := ev_stp pg_265_384 rfl
theorem pg_265_385 : mm_prog 265 385 = some (0, .iadd, 386, []) := by decide +kernel
theorem xe_265_385 (a0 a1 a2 a3 : Option MV) (x y : Int) (st : List MV) (μ : MM) (G : MG) : ev 265 385 [a0, a1, a2, a3] (vI y :: vI x :: st) μ G = ev 265 386 [a0, a1, a2, a3] (vI (w32 (x + y)) :: st) μ G := ev_stp pg_265_385 rfl
theorem pg_265_386 : mm_prog 265 386 = some (0, .iaload, 387, []) := by decide +kernel
theorem xe_265_386 (a0 a1 a2 a3 : Option MV) (x y : Int) (st : List MV) (μ : MM) (G : MG) : ev 265 386 [a0, a1, a2, a3] (vI x :: vR y :: st) μ G = if gk G y = 100 ∧ 0 ≤ x ∧ x < gl G y then ev 265 387 [a0, a1, a2, a3] (vI (μ y x) :: st) μ G else none := ev_if pg_265_386 rfl
theorem pg_265_387 : mm_prog 265 387 = some (1, .invokevirtual 43, 390, [1, 180, 2, 11]) := by decide +kernel
theorem xe_265_387 (a0 a1 a2 a3 : Option MV) (x0 x1 z r0 : Int) (μ : MM) (G : MG) : ev 265 387 [a0, a1, a2, a3] (vI x1 :: vI x0 :: vR z :: [vI r0]) μ G = if gk G z = 11 ∧ 0 < z then (ev 180 0 [some (vR z), some (vI x0), some (vI x1)] [] μ G).bind (fun q => ev 265 390 [a0, a1, a2, a3] (q.1.toList ++ [vI r0]) q.2.1 q.2.2) else none := ev_calV (as := [vR z, vI x0, vI x1]) (r := [vI r0]) mx_180 pg_265_387 rfl rfl (Nat.le_of_ble_eq_true rfl) (Nat.le_of_ble_eq_true rfl)
theorem pg_265_390 : mm_prog 265 390 = some (0, .if_icmp .eq 888, 393, []) := by decide +kernel
theorem xe_265_390 (a0 a1 a2 a3 : Option MV) (x y : Int) (st : List MV) (μ : MM) (G : MG) : ev 265 390 [a0, a1, a2, a3] (vI y :: vI x :: st) μ G = if x = y then ev 265 1278 [a0, a1, a2, a3] st μ G else ev 265 393 [a0, a1, a2, a3] st μ G := ev_br (mm_cnd_eq x y) pg_265_390 rfl
theorem pg_265_393 : mm_prog 265 393 = some (0, .iconst 0, 394, []) := by decide +kernel
theorem xe_265_393 (a0 a1 a2 a3 : Option MV) (st : List MV) (μ : MM) (G : MG) : ev 265 393 [a0, a1, a2, a3] st μ G = ev 265 394 [a0, a1, a2, a3] (vI (0) :: st) μ G := ev_stp pg_265_393 rfl
theorem pg_265_394 : mm_prog 265 394 = some (2, .ireturn, 395, [1]) := by decide +kernel
theorem xe_265_394 (a0 a1 a2 a3 : Option MV) (x : Int) (μ : MM) (G : MG) : ev 265 394 [a0, a1, a2, a3] [vI x] μ G = if x = 0 ∨ x = 1 then some (some (vI x), μ, G) else none := ev_retB pg_265_394
theorem pg_265_395 : mm_prog 265 395 = some (0, .aload_n 1, 396, []) := by decide +kernel
theorem xe_265_395 (a0 a2 a3 : Option MV) (x : Int) (st : List MV) (μ : MM) (G : MG) : ev 265 395 [a0, some (vR x), a2, a3] st μ G = ev 265 396 [a0, some (vR x), a2, a3] (vR x :: st) μ G := ev_stp pg_265_395 rfl
theorem pg_265_396 : mm_prog 265 396 = some (0, .aload_n 0, 397, []) := by decide +kernel
theorem xe_265_396 (a1 a2 a3 : Option MV) (x : Int) (st : List MV) (μ : MM) (G : MG) : ev 265 396 [some (vR x), a1, a2, a3] st μ G = ev 265 397 [some (vR x), a1, a2, a3] (vR x :: st) μ G := ev_stp pg_265_396 rfl
theorem pg_265_397 : mm_prog 265 397 = some (0, .iload_n 3, 398, []) := by decide +kernel
theorem xe_265_397 (a0 a1 a2 : Option MV) (x : Int) (st : List MV) (μ : MM) (G : MG) : ev 265 397 [a0, a1, a2, some (vI x)] st μ G = ev 265 398 [a0, a1, a2, some (vI x)] (vI x :: st) μ G := ev_stp pg_265_397 rfl
theorem pg_265_398 : mm_prog 265 398 = some (0, .iconst 1, 399, []) := by decide +kernel
theorem xe_265_398 (a0 a1 a2 a3 : Option MV) (st : List MV) (μ : MM) (G : MG) : ev 265 398 [a0, a1, a2, a3] st μ G = ev 265 399 [a0, a1, a2, a3] (vI (1) :: st) μ G := ev_stp pg_265_398 rfl
theorem pg_265_399 : mm_prog 265 399 = some (0, .iadd, 400, []) := by decide +kernel
theorem xe_265_399 (a0 a1 a2 a3 : Option MV) (x y : Int) (st : List MV) (μ : MM) (G : MG) : ev 265 399 [a0, a1, a2, a3] (vI y :: vI x :: st) μ G = ev 265 400 [a0, a1, a2, a3] (vI (w32 (x + y)) :: st) μ G := ev_stp pg_265_399 rfl
theorem pg_265_400 : mm_prog 265 400 = some (0, .iaload, 401, []) := by decide +kernel
theorem xe_265_400 (a0 a1 a2 a3 : Option MV) (x y : Int) (st : List MV) (μ : MM) (G : MG) : ev 265 400 [a0, a1, a2, a3] (vI x :: vR y :: st) μ G = if gk G y = 100 ∧ 0 ≤ x ∧ x < gl G y then ev 265 401 [a0, a1, a2, a3] (vI (μ y x) :: st) μ G else none := ev_if pg_265_400 rfl
theorem pg_265_401 : mm_prog 265 401 = some (1, .invokevirtual 44, 404, [1, 107, 1, 10]) := by decide +kernel
theorem xe_265_401 (a0 a1 a2 a3 : Option MV) (x0 z : Int) (μ : MM) (G : MG) : ev 265 401 [a0, a1, a2, a3] (vI x0 :: vR z :: []) μ G = if gk G z = 10 ∧ 0 < z then (ev 107 0 [some (vR z), some (vI x0)] [] μ G).bind (fun q => ev 265 404 [a0, a1, a2, a3] (q.1.toList ++ []) q.2.1 q.2.2) else none := ev_calV (as := [vR z, vI x0]) (r := []) mx_107 pg_265_401 rfl rfl (Nat.le_of_ble_eq_true rfl) (Nat.le_of_ble_eq_true rfl)
theorem pg_265_404 : mm_prog 265 404 = some (0, .aload_n 2, 405, []) := by decide +kernel
theorem xe_265_404 (a0 a1 a3 : Option MV) (x : Int) (st : List MV) (μ : MM) (G : MG) : ev 265 404 [a0, a1, some (vR x), a3] st μ G = ev 265 405 [a0, a1, some (vR x), a3] (vR x :: st) μ G := ev_stp pg_265_404 rfl
theorem pg_265_405 : mm_prog 265 405 = some (0, .aload_n 0, 406, []) := by decide +kernel
theorem xe_265_405 (a1 a2 a3 : Option MV) (x : Int) (st : List MV) (μ : MM) (G : MG) : ev 265 405 [some (vR x), a1, a2, a3] st μ G = ev 265 406 [some (vR x), a1, a2, a3] (vR x :: st) μ G := ev_stp pg_265_405 rfl
theorem pg_265_406 : mm_prog 265 406 = some (0, .iload_n 3, 407, []) := by decide +kernel
theorem xe_265_406 (a0 a1 a2 : Option MV) (x : Int) (st : List MV) (μ : MM) (G : MG) : ev 265 406 [a0, a1, a2, some (vI x)] st μ G = ev 265 407 [a0, a1, a2, some (vI x)] (vI x :: st) μ G := ev_stp pg_265_406 rfl
theorem pg_265_407 : mm_prog 265 407 = some (0, .iconst 1, 408, []) := by decide +kernel
theorem xe_265_407 (a0 a1 a2 a3 : Option MV) (st : List MV) (μ : MM) (G : MG) : ev 265 407 [a0, a1, a2, a3] st μ G = ev 265 408 [a0, a1, a2, a3] (vI (1) :: st) μ G := ev_stp pg_265_407 rfl
theorem pg_265_408 : mm_prog 265 408 = some (0, .iadd, 409, []) := by decide +kernel
theorem xe_265_408 (a0 a1 a2 a3 : Option MV) (x y : Int) (st : List MV) (μ : MM) (G : MG) : ev 265 408 [a0, a1, a2, a3] (vI y :: vI x :: st) μ G = ev 265 409 [a0, a1, a2, a3] (vI (w32 (x + y)) :: st) μ G := ev_stp pg_265_408 rfl
theorem pg_265_409 : mm_prog 265 409 = some (0, .iaload, 410, []) := by decide +kernel
theorem xe_265_409 (a0 a1 a2 a3 : Option MV) (x y : Int) (st : List MV) (μ : MM) (G : MG) : ev 265 409 [a0, a1, a2, a3] (vI x :: vR y :: st) μ G = if gk G y = 100 ∧ 0 ≤ x ∧ x < gl G y then ev 265 410 [a0, a1, a2, a3] (vI (μ y x) :: st) μ G else none := ev_if pg_265_409 rfl
theorem pg_265_410 : mm_prog 265 410 = some (1, .invokevirtual 47, 413, [1, 188, 1, 11]) := by decide +kernel
theorem xe_265_410 (a0 a1 a2 a3 : Option MV) (x0 z r0 : Int) (μ : MM) (G : MG) : ev 265 410 [a0, a1, a2, a3] (vI x0 :: vR z :: [vI r0]) μ G = if gk G z = 11 ∧ 0 < z then (ev 188 0 [some (vR z), some (vI x0)] [] μ G).bind (fun q => ev 265 413 [a0, a1, a2, a3] (q.1.toList ++ [vI r0]) q.2.1 q.2.2) else none := ev_calV (as := [vR z, vI x0]) (r := [vI r0]) mx_188 pg_265_410 rfl rfl (Nat.le_of_ble_eq_true rfl) (Nat.le_of_ble_eq_true rfl)
theorem pg_265_413 : mm_prog 265 413 = some (0, .if_icmp .eq 865, 416, []) := by decide +kernel
theorem xe_265_413 (a0 a1 a2 a3 : Option MV) (x y : Int) (st : List MV) (μ : MM) (G : MG) : ev 265 413 [a0, a1, a2, a3] (vI y :: vI x :: st) μ G = if x = y then ev 265 1278 [a0, a1, a2, a3] st μ G else ev 265 416 [a0, a1, a2, a3] st μ G := ev_br (mm_cnd_eq x y) pg_265_413 rfl
theorem pg_265_416 : mm_prog 265 416 = some (0, .iconst 0, 417, []) := by decide +kernel
theorem xe_265_416 (a0 a1 a2 a3 : Option MV) (st : List MV) (μ : MM) (G : MG) : ev 265 416 [a0, a1, a2, a3] st μ G = ev 265 417 [a0, a1, a2, a3] (vI (0) :: st) μ G := ev_stp pg_265_416 rfl
theorem pg_265_417 : mm_prog 265 417 = some (2, .ireturn, 418, [1]) := by decide +kernel
theorem xe_265_417 (a0 a1 a2 a3 : Option MV) (x : Int) (μ : MM) (G : MG) : ev 265 417 [a0, a1, a2, a3] [vI x] μ G = if x = 0 ∨ x = 1 then some (some (vI x), μ, G) else none := ev_retB pg_265_417
theorem pg_265_418 : mm_prog 265 418 = some (0, .aload_n 1, 419, []) := by decide +kernel
theorem xe_265_418 (a0 a2 a3 : Option MV) (x : Int) (st : List MV) (μ : MM) (G : MG) : ev 265 418 [a0, some (vR x), a2, a3] st μ G = ev 265 419 [a0, some (vR x), a2, a3] (vR x :: st) μ G := ev_stp pg_265_418 rfl
theorem pg_265_419 : mm_prog 265 419 = some (0, .aload_n 0, 420, []) := by decide +kernel
theorem xe_265_419 (a1 a2 a3 : Option MV) (x : Int) (st : List MV) (μ : MM) (G : MG) : ev 265 419 [some (vR x), a1, a2, a3] st μ G = ev 265 420 [some (vR x), a1, a2, a3] (vR x :: st) μ G := ev_stp pg_265_419 rfl
theorem pg_265_420 : mm_prog 265 420 = some (0, .iload_n 3, 421, []) := by decide +kernel
theorem xe_265_420 (a0 a1 a2 : Option MV) (x : Int) (st : List MV) (μ : MM) (G : MG) : ev 265 420 [a0, a1, a2, some (vI x)] st μ G = ev 265 421 [a0, a1, a2, some (vI x)] (vI x :: st) μ G := ev_stp pg_265_420 rfl
theorem pg_265_421 : mm_prog 265 421 = some (0, .iconst 1, 422, []) := by decide +kernel
theorem xe_265_421 (a0 a1 a2 a3 : Option MV) (st : List MV) (μ : MM) (G : MG) : ev 265 421 [a0, a1, a2, a3] st μ G = ev 265 422 [a0, a1, a2, a3] (vI (1) :: st) μ G := ev_stp pg_265_421 rfl
theorem pg_265_422 : mm_prog 265 422 = some (0, .iadd, 423, []) := by decide +kernel
theorem xe_265_422 (a0 a1 a2 a3 : Option MV) (x y : Int) (st : List MV) (μ : MM) (G : MG) : ev 265 422 [a0, a1, a2, a3] (vI y :: vI x :: st) μ G = ev 265 423 [a0, a1, a2, a3] (vI (w32 (x + y)) :: st) μ G := ev_stp pg_265_422 rfl
theorem pg_265_423 : mm_prog 265 423 = some (0, .iaload, 424, []) := by decide +kernel
theorem xe_265_423 (a0 a1 a2 a3 : Option MV) (x y : Int) (st : List MV) (μ : MM) (G : MG) : ev 265 423 [a0, a1, a2, a3] (vI x :: vR y :: st) μ G = if gk G y = 100 ∧ 0 ≤ x ∧ x < gl G y then ev 265 424 [a0, a1, a2, a3] (vI (μ y x) :: st) μ G else none := ev_if pg_265_423 rfl
theorem pg_265_424 : mm_prog 265 424 = some (0, .aload_n 0, 425, []) := by decide +kernel
theorem xe_265_424 (a1 a2 a3 : Option MV) (x : Int) (st : List MV) (μ : MM) (G : MG) : ev 265 424 [some (vR x), a1, a2, a3] st μ G = ev 265 425 [some (vR x), a1, a2, a3] (vR x :: st) μ G := ev_stp pg_265_424 rfl
theorem pg_265_425 : mm_prog 265 425 = some (0, .iload_n 3, 426, []) := by decide +kernel
theorem xe_265_425 (a0 a1 a2 : Option MV) (x : Int) (st : List MV) (μ : MM) (G : MG) : ev 265 425 [a0, a1, a2, some (vI x)] st μ G = ev 265 426 [a0, a1, a2, some (vI x)] (vI x :: st) μ G := ev_stp pg_265_425 rfl
theorem pg_265_426 : mm_prog 265 426 = some (0, .iconst 2, 427, []) := by decide +kernel
theorem xe_265_426 (a0 a1 a2 a3 : Option MV) (st : List MV) (μ : MM) (G : MG) : ev 265 426 [a0, a1, a2, a3] st μ G = ev 265 427 [a0, a1, a2, a3] (vI (2) :: st) μ G := ev_stp pg_265_426 rfl
theorem pg_265_427 : mm_prog 265 427 = some (0, .iadd, 428, []) := by decide +kernel
theorem xe_265_427 (a0 a1 a2 a3 : Option MV) (x y : Int) (st : List MV) (μ : MM) (G : MG) : ev 265 427 [a0, a1, a2, a3] (vI y :: vI x :: st) μ G = ev 265 428 [a0, a1, a2, a3] (vI (w32 (x + y)) :: st) μ G := ev_stp pg_265_427 rfl
theorem pg_265_428 : mm_prog 265 428 = some (0, .iaload, 429, []) := by decide +kernel
theorem xe_265_428 (a0 a1 a2 a3 : Option MV) (x y : Int) (st : List MV) (μ : MM) (G : MG) : ev 265 428 [a0, a1, a2, a3] (vI x :: vR y :: st) μ G = if gk G y = 100 ∧ 0 ≤ x ∧ x < gl G y then ev 265 429 [a0, a1, a2, a3] (vI (μ y x) :: st) μ G else none := ev_if pg_265_428 rfl
theorem pg_265_429 : mm_prog 265 429 = some (1, .invokevirtual 48, 432, [1, 108, 2, 10]) := by decide +kernel
theorem xe_265_429 (a0 a1 a2 a3 : Option MV) (x0 x1 z : Int) (μ : MM) (G : MG) : ev 265 429 [a0, a1, a2, a3] (vI x1 :: vI x0 :: vR z :: []) μ G = if gk G z = 10 ∧ 0 < z then (ev 108 0 [some (vR z), some (vI x0), some (vI x1), none] [] μ G).bind (fun q => ev 265 432 [a0, a1, a2, a3] (q.1.toList ++ []) q.2.1 q.2.2) else none := ev_calV (as := [vR z, vI x0, vI x1]) (r := []) mx_108 pg_265_429 rfl rfl (Nat.le_of_ble_eq_true rfl) (Nat.le_of_ble_eq_true rfl)
theorem pg_265_432 : mm_prog 265 432 = some (0, .aload_n 2, 433, []) := by decide +kernel
theorem xe_265_432 (a0 a1 a3 : Option MV) (x : Int) (st : List MV) (μ : MM) (G : MG) : ev 265 432 [a0, a1, some (vR x), a3] st μ G = ev 265 433 [a0, a1, some (vR x), a3] (vR x :: st) μ G := ev_stp pg_265_432 rfl
theorem pg_265_433 : mm_prog 265 433 = some (0, .aload_n 0, 434, []) := by decide +kernel
theorem xe_265_433 (a1 a2 a3 : Option MV) (x : Int) (st : List MV) (μ : MM) (G : MG) : ev 265 433 [some (vR x), a1, a2, a3] st μ G = ev 265 434 [some (vR x), a1, a2, a3] (vR x :: st) μ G := ev_stp pg_265_433 rfl
theorem pg_265_434 : mm_prog 265 434 = some (0, .iload_n 3, 435, []) := by decide +kernel
theorem xe_265_434 (a0 a1 a2 : Option MV) (x : Int) (st : List MV) (μ : MM) (G : MG) : ev 265 434 [a0, a1, a2, some (vI x)] st μ G = ev 265 435 [a0, a1, a2, some (vI x)] (vI x :: st) μ G := ev_stp pg_265_434 rfl
theorem pg_265_435 : mm_prog 265 435 = some (0, .iconst 1, 436, []) := by decide +kernel
theorem xe_265_435 (a0 a1 a2 a3 : Option MV) (st : List MV) (μ : MM) (G : MG) : ev 265 435 [a0, a1, a2, a3] st μ G = ev 265 436 [a0, a1, a2, a3] (vI (1) :: st) μ G := ev_stp pg_265_435 rfl
theorem pg_265_436 : mm_prog 265 436 = some (0, .iadd, 437, []) := by decide +kernel
theorem xe_265_436 (a0 a1 a2 a3 : Option MV) (x y : Int) (st : List MV) (μ : MM) (G : MG) : ev 265 436 [a0, a1, a2, a3] (vI y :: vI x :: st) μ G = ev 265 437 [a0, a1, a2, a3] (vI (w32 (x + y)) :: st) μ G := ev_stp pg_265_436 rfl
theorem pg_265_437 : mm_prog 265 437 = some (0, .iaload, 438, []) := by decide +kernel
theorem xe_265_437 (a0 a1 a2 a3 : Option MV) (x y : Int) (st : List MV) (μ : MM) (G : MG) : ev 265 437 [a0, a1, a2, a3] (vI x :: vR y :: st) μ G = if gk G y = 100 ∧ 0 ≤ x ∧ x < gl G y then ev 265 438 [a0, a1, a2, a3] (vI (μ y x) :: st) μ G else none := ev_if pg_265_437 rfl
theorem pg_265_438 : mm_prog 265 438 = some (0, .aload_n 0, 439, []) := by decide +kernel
theorem xe_265_438 (a1 a2 a3 : Option MV) (x : Int) (st : List MV) (μ : MM) (G : MG) : ev 265 438 [some (vR x), a1, a2, a3] st μ G = ev 265 439 [some (vR x), a1, a2, a3] (vR x :: st) μ G := ev_stp pg_265_438 rfl
theorem pg_265_439 : mm_prog 265 439 = some (0, .iload_n 3, 440, []) := by decide +kernel
theorem xe_265_439 (a0 a1 a2 : Option MV) (x : Int) (st : List MV) (μ : MM) (G : MG) : ev 265 439 [a0, a1, a2, some (vI x)] st μ G = ev 265 440 [a0, a1, a2, some (vI x)] (vI x :: st) μ G := ev_stp pg_265_439 rfl
theorem pg_265_440 : mm_prog 265 440 = some (0, .iconst 2, 441, []) := by decide +kernel
theorem xe_265_440 (a0 a1 a2 a3 : Option MV) (st : List MV) (μ : MM) (G : MG) : ev 265 440 [a0, a1, a2, a3] st μ G = ev 265 441 [a0, a1, a2, a3] (vI (2) :: st) μ G := ev_stp pg_265_440 rfl
theorem pg_265_441 : mm_prog 265 441 = some (0, .iadd, 442, []) := by decide +kernel
theorem xe_265_441 (a0 a1 a2 a3 : Option MV) (x y : Int) (st : List MV) (μ : MM) (G : MG) : ev 265 441 [a0, a1, a2, a3] (vI y :: vI x :: st) μ G = ev 265 442 [a0, a1, a2, a3] (vI (w32 (x + y)) :: st) μ G := ev_stp pg_265_441 rfl
theorem pg_265_442 : mm_prog 265 442 = some (0, .iaload, 443, []) := by decide +kernel
theorem xe_265_442 (a0 a1 a2 a3 : Option MV) (x y : Int) (st : List MV) (μ : MM) (G : MG) : ev 265 442 [a0, a1, a2, a3] (vI x :: vR y :: st) μ G = if gk G y = 100 ∧ 0 ≤ x ∧ x < gl G y then ev 265 443 [a0, a1, a2, a3] (vI (μ y x) :: st) μ G else none := ev_if pg_265_442 rfl
theorem pg_265_443 : mm_prog 265 443 = some (1, .invokevirtual 51, 446, [1, 182, 2, 11]) := by decide +kernel
theorem xe_265_443 (a0 a1 a2 a3 : Option MV) (x0 x1 z r0 : Int) (μ : MM) (G : MG) : ev 265 443 [a0, a1, a2, a3] (vI x1 :: vI x0 :: vR z :: [vI r0]) μ G = if gk G z = 11 ∧ 0 < z then (ev 182 0 [some (vR z), some (vI x0), some (vI x1)] [] μ G).bind (fun q => ev 265 446 [a0, a1, a2, a3] (q.1.toList ++ [vI r0]) q.2.1 q.2.2) else none := ev_calV (as := [vR z, vI x0, vI x1]) (r := [vI r0]) mx_182 pg_265_443 rfl rfl (Nat.le_of_ble_eq_true rfl) (Nat.le_of_ble_eq_true rfl)
theorem pg_265_446 : mm_prog 265 446 = some (0, .if_icmp .eq 832, 449, []) := by decide +kernel
theorem xe_265_446 (a0 a1 a2 a3 : Option MV) (x y : Int) (st : List MV) (μ : MM) (G : MG) : ev 265 446 [a0, a1, a2, a3] (vI y :: vI x :: st) μ G = if x = y then ev 265 1278 [a0, a1, a2, a3] st μ G else ev 265 449 [a0, a1, a2, a3] st μ G := ev_br (mm_cnd_eq x y) pg_265_446 rfl
theorem pg_265_449 : mm_prog 265 449 = some (0, .iconst 0, 450, []) := by decide +kernel
theorem xe_265_449 (a0 a1 a2 a3 : Option MV) (st : List MV) (μ : MM) (G : MG) : ev 265 449 [a0, a1, a2, a3] st μ G = ev 265 450 [a0, a1, a2, a3] (vI (0) :: st) μ G := ev_stp pg_265_449 rfl
theorem pg_265_450 : mm_prog 265 450 = some (2, .ireturn, 451, [1]) := by decide +kernel
theorem xe_265_450 (a0 a1 a2 a3 : Option MV) (x : Int) (μ : MM) (G : MG) : ev 265 450 [a0, a1, a2, a3] [vI x] μ G = if x = 0 ∨ x = 1 then some (some (vI x), μ, G) else none := ev_retB pg_265_450
theorem pg_265_451 : mm_prog 265 451 = some (0, .aload_n 1, 452, []) := by decide +kernel
theorem xe_265_451 (a0 a2 a3 : Option MV) (x : Int) (st : List MV) (μ : MM) (G : MG) : ev 265 451 [a0, some (vR x), a2, a3] st μ G = ev 265 452 [a0, some (vR x), a2, a3] (vR x :: st) μ G := ev_stp pg_265_451 rfl
theorem pg_265_452 : mm_prog 265 452 = some (0, .aload_n 0, 453, []) := by decide +kernel
theorem xe_265_452 (a1 a2 a3 : Option MV) (x : Int) (st : List MV) (μ : MM) (G : MG) : ev 265 452 [some (vR x), a1, a2, a3] st μ G = ev 265 453 [some (vR x), a1, a2, a3] (vR x :: st) μ G := ev_stp pg_265_452 rfl
theorem pg_265_453 : mm_prog 265 453 = some (0, .iload_n 3, 454, []) := by decide +kernel
theorem xe_265_453 (a0 a1 a2 : Option MV) (x : Int) (st : List MV) (μ : MM) (G : MG) : ev 265 453 [a0, a1, a2, some (vI x)] st μ G = ev 265 454 [a0, a1, a2, some (vI x)] (vI x :: st) μ G := ev_stp pg_265_453 rfl
theorem pg_265_454 : mm_prog 265 454 = some (0, .iconst 1, 455, []) := by decide +kernel
theorem xe_265_454 (a0 a1 a2 a3 : Option MV) (st : List MV) (μ : MM) (G : MG) : ev 265 454 [a0, a1, a2, a3] st μ G = ev 265 455 [a0, a1, a2, a3] (vI (1) :: st) μ G := ev_stp pg_265_454 rfl
theorem pg_265_455 : mm_prog 265 455 = some (0, .iadd, 456, []) := by decide +kernel
theorem xe_265_455 (a0 a1 a2 a3 : Option MV) (x y : Int) (st : List MV) (μ : MM) (G : MG) : ev 265 455 [a0, a1, a2, a3] (vI y :: vI x :: st) μ G = ev 265 456 [a0, a1, a2, a3] (vI (w32 (x + y)) :: st) μ G := ev_stp pg_265_455 rfl
theorem pg_265_456 : mm_prog 265 456 = some (0, .iaload, 457, []) := by decide +kernel
theorem xe_265_456 (a0 a1 a2 a3 : Option MV) (x y : Int) (st : List MV) (μ : MM) (G : MG) : ev 265 456 [a0, a1, a2, a3] (vI x :: vR y :: st) μ G = if gk G y = 100 ∧ 0 ≤ x ∧ x < gl G y then ev 265 457 [a0, a1, a2, a3] (vI (μ y x) :: st) μ G else none := ev_if pg_265_456 rfl
theorem pg_265_457 : mm_prog 265 457 = some (0, .aload_n 0, 458, []) := by decide +kernel
theorem xe_265_457 (a1 a2 a3 : Option MV) (x : Int) (st : List MV) (μ : MM) (G : MG) : ev 265 457 [some (vR x), a1, a2, a3] st μ G = ev 265 458 [some (vR x), a1, a2, a3] (vR x :: st) μ G := ev_stp pg_265_457 rfl
theorem pg_265_458 : mm_prog 265 458 = some (0, .iload_n 3, 459, []) := by decide +kernel
theorem xe_265_458 (a0 a1 a2 : Option MV) (x : Int) (st : List MV) (μ : MM) (G : MG) : ev 265 458 [a0, a1, a2, some (vI x)] st μ G = ev 265 459 [a0, a1, a2, some (vI x)] (vI x :: st) μ G := ev_stp pg_265_458 rfl
theorem pg_265_459 : mm_prog 265 459 = some (0, .iconst 2, 460, []) := by decide +kernel
theorem xe_265_459 (a0 a1 a2 a3 : Option MV) (st : List MV) (μ : MM) (G : MG) : ev 265 459 [a0, a1, a2, a3] st μ G = ev 265 460 [a0, a1, a2, a3] (vI (2) :: st) μ G := ev_stp pg_265_459 rfl
theorem pg_265_460 : mm_prog 265 460 = some (0, .iadd, 461, []) := by decide +kernel
theorem xe_265_460 (a0 a1 a2 a3 : Option MV) (x y : Int) (st : List MV) (μ : MM) (G : MG) : ev 265 460 [a0, a1, a2, a3] (vI y :: vI x :: st) μ G = ev 265 461 [a0, a1, a2, a3] (vI (w32 (x + y)) :: st) μ G := ev_stp pg_265_460 rfl
theorem pg_265_461 : mm_prog 265 461 = some (0, .iaload, 462, []) := by decide +kernel
theorem xe_265_461 (a0 a1 a2 a3 : Option MV) (x y : Int) (st : List MV) (μ : MM) (G : MG) : ev 265 461 [a0, a1, a2, a3] (vI x :: vR y :: st) μ G = if gk G y = 100 ∧ 0 ≤ x ∧ x < gl G y then ev 265 462 [a0, a1, a2, a3] (vI (μ y x) :: st) μ G else none := ev_if pg_265_461 rfl
theorem pg_265_462 : mm_prog 265 462 = some (1, .invokevirtual 52, 465, [1, 109, 2, 10]) := by decide +kernel
theorem xe_265_462 (a0 a1 a2 a3 : Option MV) (x0 x1 z : Int) (μ : MM) (G : MG) : ev 265 462 [a0, a1, a2, a3] (vI x1 :: vI x0 :: vR z :: []) μ G = if gk G z = 10 ∧ 0 < z then (ev 109 0 [some (vR z), some (vI x0), some (vI x1), none] [] μ G).bind (fun q => ev 265 465 [a0, a1, a2, a3] (q.1.toList ++ []) q.2.1 q.2.2) else none := ev_calV (as := [vR z, vI x0, vI x1]) (r := []) mx_109 pg_265_462 rfl rfl (Nat.le_of_ble_eq_true rfl) (Nat.le_of_ble_eq_true rfl)
theorem pg_265_465 : mm_prog 265 465 = some (0, .aload_n 2, 466, []) := by decide +kernel
theorem xe_265_465 (a0 a1 a3 : Option MV) (x : Int) (st : List MV) (μ : MM) (G : MG) : ev 265 465 [a0, a1, some (vR x), a3] st μ G = ev 265 466 [a0, a1, some (vR x), a3] (vR x :: st) μ G := ev_stp pg_265_465 rfl
theorem pg_265_466 : mm_prog 265 466 = some (0, .aload_n 0, 467, []) := by decide +kernel
theorem xe_265_466 (a1 a2 a3 : Option MV) (x : Int) (st : List MV) (μ : MM) (G : MG) : ev 265 466 [some (vR x), a1, a2, a3] st μ G = ev 265 467 [some (vR x), a1, a2, a3] (vR x :: st) μ G := ev_stp pg_265_466 rfl
theorem pg_265_467 : mm_prog 265 467 = some (0, .iload_n 3, 468, []) := by decide +kernel
theorem xe_265_467 (a0 a1 a2 : Option MV) (x : Int) (st : List MV) (μ : MM) (G : MG) : ev 265 467 [a0, a1, a2, some (vI x)] st μ G = ev 265 468 [a0, a1, a2, some (vI x)] (vI x :: st) μ G := ev_stp pg_265_467 rfl
theorem pg_265_468 : mm_prog 265 468 = some (0, .iconst 1, 469, []) := by decide +kernel
theorem xe_265_468 (a0 a1 a2 a3 : Option MV) (st : List MV) (μ : MM) (G : MG) : ev 265 468 [a0, a1, a2, a3] st μ G = ev 265 469 [a0, a1, a2, a3] (vI (1) :: st) μ G := ev_stp pg_265_468 rfl
theorem pg_265_469 : mm_prog 265 469 = some (0, .iadd, 470, []) := by decide +kernel
theorem xe_265_469 (a0 a1 a2 a3 : Option MV) (x y : Int) (st : List MV) (μ : MM) (G : MG) : ev 265 469 [a0, a1, a2, a3] (vI y :: vI x :: st) μ G = ev 265 470 [a0, a1, a2, a3] (vI (w32 (x + y)) :: st) μ G := ev_stp pg_265_469 rfl
theorem pg_265_470 : mm_prog 265 470 = some (0, .iaload, 471, []) := by decide +kernel
theorem xe_265_470 (a0 a1 a2 a3 : Option MV) (x y : Int) (st : List MV) (μ : MM) (G : MG) : ev 265 470 [a0, a1, a2, a3] (vI x :: vR y :: st) μ G = if gk G y = 100 ∧ 0 ≤ x ∧ x < gl G y then ev 265 471 [a0, a1, a2, a3] (vI (μ y x) :: st) μ G else none := ev_if pg_265_470 rfl
theorem pg_265_471 : mm_prog 265 471 = some (0, .aload_n 0, 472, []) := by decide +kernel
theorem xe_265_471 (a1 a2 a3 : Option MV) (x : Int) (st : List MV) (μ : MM) (G : MG) : ev 265 471 [some (vR x), a1, a2, a3] st μ G = ev 265 472 [some (vR x), a1, a2, a3] (vR x :: st) μ G := ev_stp pg_265_471 rfl
theorem pg_265_472 : mm_prog 265 472 = some (0, .iload_n 3, 473, []) := by decide +kernel
theorem xe_265_472 (a0 a1 a2 : Option MV) (x : Int) (st : List MV) (μ : MM) (G : MG) : ev 265 472 [a0, a1, a2, some (vI x)] st μ G = ev 265 473 [a0, a1, a2, some (vI x)] (vI x :: st) μ G := ev_stp pg_265_472 rfl
theorem pg_265_473 : mm_prog 265 473 = some (0, .iconst 2, 474, []) := by decide +kernel
theorem xe_265_473 (a0 a1 a2 a3 : Option MV) (st : List MV) (μ : MM) (G : MG) : ev 265 473 [a0, a1, a2, a3] st μ G = ev 265 474 [a0, a1, a2, a3] (vI (2) :: st) μ G := ev_stp pg_265_473 rfl
theorem pg_265_474 : mm_prog 265 474 = some (0, .iadd, 475, []) := by decide +kernel
theorem xe_265_474 (a0 a1 a2 a3 : Option MV) (x y : Int) (st : List MV) (μ : MM) (G : MG) : ev 265 474 [a0, a1, a2, a3] (vI y :: vI x :: st) μ G = ev 265 475 [a0, a1, a2, a3] (vI (w32 (x + y)) :: st) μ G := ev_stp pg_265_474 rfl
theorem pg_265_475 : mm_prog 265 475 = some (0, .iaload, 476, []) := by decide +kernel
theorem xe_265_475 (a0 a1 a2 a3 : Option MV) (x y : Int) (st : List MV) (μ : MM) (G : MG) : ev 265 475 [a0, a1, a2, a3] (vI x :: vR y :: st) μ G = if gk G y = 100 ∧ 0 ≤ x ∧ x < gl G y then ev 265 476 [a0, a1, a2, a3] (vI (μ y x) :: st) μ G else none := ev_if pg_265_475 rfl
theorem pg_265_476 : mm_prog 265 476 = some (1, .invokevirtual 55, 479, [1, 191, 2, 11]) := by decide +kernel
theorem xe_265_476 (a0 a1 a2 a3 : Option MV) (x0 x1 z r0 : Int) (μ : MM) (G : MG) : ev 265 476 [a0, a1, a2, a3] (vI x1 :: vI x0 :: vR z :: [vI r0]) μ G = if gk G z = 11 ∧ 0 < z then (ev 191 0 [some (vR z), some (vI x0), some (vI x1)] [] μ G).bind (fun q => ev 265 479 [a0, a1, a2, a3] (q.1.toList ++ [vI r0]) q.2.1 q.2.2) else none := ev_calV (as := [vR z, vI x0, vI x1]) (r := [vI r0]) mx_191 pg_265_476 rfl rfl (Nat.le_of_ble_eq_true rfl) (Nat.le_of_ble_eq_true rfl)
theorem pg_265_479 : mm_prog 265 479 = some (0, .if_icmp .eq 799, 482, []) := by decide +kernel
theorem xe_265_479 (a0 a1 a2 a3 : Option MV) (x y : Int) (st : List MV) (μ : MM) (G : MG) : ev 265 479 [a0, a1, a2, a3] (vI y :: vI x :: st) μ G = if x = y then ev 265 1278 [a0, a1, a2, a3] st μ G else ev 265 482 [a0, a1, a2, a3] st μ G := ev_br (mm_cnd_eq x y) pg_265_479 rfl
theorem pg_265_482 : mm_prog 265 482 = some (0, .iconst 0, 483, []) := by decide +kernel
theorem xe_265_482 (a0 a1 a2 a3 : Option MV) (st : List MV) (μ : MM) (G : MG) : ev 265 482 [a0, a1, a2, a3] st μ G = ev 265 483 [a0, a1, a2, a3] (vI (0) :: st) μ G := ev_stp pg_265_482 rfl
theorem pg_265_483 : mm_prog 265 483 = some (2, .ireturn, 484, [1]) := by decide +kernel
theorem xe_265_483 (a0 a1 a2 a3 : Option MV) (x : Int) (μ : MM) (G : MG) : ev 265 483 [a0, a1, a2, a3] [vI x] μ G = if x = 0 ∨ x = 1 then some (some (vI x), μ, G) else none := ev_retB pg_265_483
theorem pg_265_484 : mm_prog 265 484 = some (0, .aload_n 1, 485, []) := by decide +kernel
theorem xe_265_484 (a0 a2 a3 : Option MV) (x : Int) (st : List MV) (μ : MM) (G : MG) : ev 265 484 [a0, some (vR x), a2, a3] st μ G = ev 265 485 [a0, some (vR x), a2, a3] (vR x :: st) μ G := ev_stp pg_265_484 rfl
theorem pg_265_485 : mm_prog 265 485 = some (0, .aload_n 0, 486, []) := by decide +kernel
theorem xe_265_485 (a1 a2 a3 : Option MV) (x : Int) (st : List MV) (μ : MM) (G : MG) : ev 265 485 [some (vR x), a1, a2, a3] st μ G = ev 265 486 [some (vR x), a1, a2, a3] (vR x :: st) μ G := ev_stp pg_265_485 rfl
theorem pg_265_486 : mm_prog 265 486 = some (0, .iload_n 3, 487, []) := by decide +kernel
theorem xe_265_486 (a0 a1 a2 : Option MV) (x : Int) (st : List MV) (μ : MM) (G : MG) : ev 265 486 [a0, a1, a2, some (vI x)] st μ G = ev 265 487 [a0, a1, a2, some (vI x)] (vI x :: st) μ G := ev_stp pg_265_486 rfl
theorem pg_265_487 : mm_prog 265 487 = some (0, .iconst 1, 488, []) := by decide +kernel
theorem xe_265_487 (a0 a1 a2 a3 : Option MV) (st : List MV) (μ : MM) (G : MG) : ev 265 487 [a0, a1, a2, a3] st μ G = ev 265 488 [a0, a1, a2, a3] (vI (1) :: st) μ G := ev_stp pg_265_487 rfl
theorem pg_265_488 : mm_prog 265 488 = some (0, .iadd, 489, []) := by decide +kernel
theorem xe_265_488 (a0 a1 a2 a3 : Option MV) (x y : Int) (st : List MV) (μ : MM) (G : MG) : ev 265 488 [a0, a1, a2, a3] (vI y :: vI x :: st) μ G = ev 265 489 [a0, a1, a2, a3] (vI (w32 (x + y)) :: st) μ G := ev_stp pg_265_488 rfl
theorem pg_265_489 : mm_prog 265 489 = some (0, .iaload, 490, []) := by decide +kernel
theorem xe_265_489 (a0 a1 a2 a3 : Option MV) (x y : Int) (st : List MV) (μ : MM) (G : MG) : ev 265 489 [a0, a1, a2, a3] (vI x :: vR y :: st) μ G = if gk G y = 100 ∧ 0 ≤ x ∧ x < gl G y then ev 265 490 [a0, a1, a2, a3] (vI (μ y x) :: st) μ G else none := ev_if pg_265_489 rfl
theorem pg_265_490 : mm_prog 265 490 = some (0, .aload_n 0, 491, []) := by decide +kernel
theorem xe_265_490 (a1 a2 a3 : Option MV) (x : Int) (st : List MV) (μ : MM) (G : MG) : ev 265 490 [some (vR x), a1, a2, a3] st μ G = ev 265 491 [some (vR x), a1, a2, a3] (vR x :: st) μ G := ev_stp pg_265_490 rfl
theorem pg_265_491 : mm_prog 265 491 = some (0, .iload_n 3, 492, []) := by decide +kernel
theorem xe_265_491 (a0 a1 a2 : Option MV) (x : Int) (st : List MV) (μ : MM) (G : MG) : ev 265 491 [a0, a1, a2, some (vI x)] st μ G = ev 265 492 [a0, a1, a2, some (vI x)] (vI x :: st) μ G := ev_stp pg_265_491 rfl
theorem pg_265_492 : mm_prog 265 492 = some (0, .iconst 2, 493, []) := by decide +kernel
theorem xe_265_492 (a0 a1 a2 a3 : Option MV) (st : List MV) (μ : MM) (G : MG) : ev 265 492 [a0, a1, a2, a3] st μ G = ev 265 493 [a0, a1, a2, a3] (vI (2) :: st) μ G := ev_stp pg_265_492 rfl
theorem pg_265_493 : mm_prog 265 493 = some (0, .iadd, 494, []) := by decide +kernel
theorem xe_265_493 (a0 a1 a2 a3 : Option MV) (x y : Int) (st : List MV) (μ : MM) (G : MG) : ev 265 493 [a0, a1, a2, a3] (vI y :: vI x :: st) μ G = ev 265 494 [a0, a1, a2, a3] (vI (w32 (x + y)) :: st) μ G := ev_stp pg_265_493 rfl
theorem pg_265_494 : mm_prog 265 494 = some (0, .iaload, 495, []) := by decide +kernel
theorem xe_265_494 (a0 a1 a2 a3 : Option MV) (x y : Int) (st : List MV) (μ : MM) (G : MG) : ev 265 494 [a0, a1, a2, a3] (vI x :: vR y :: st) μ G = if gk G y = 100 ∧ 0 ≤ x ∧ x < gl G y then ev 265 495 [a0, a1, a2, a3] (vI (μ y x) :: st) μ G else none := ev_if pg_265_494 rfl
theorem pg_265_495 : mm_prog 265 495 = some (0, .aload_n 0, 496, []) := by decide +kernel
theorem xe_265_495 (a1 a2 a3 : Option MV) (x : Int) (st : List MV) (μ : MM) (G : MG) : ev 265 495 [some (vR x), a1, a2, a3] st μ G = ev 265 496 [some (vR x), a1, a2, a3] (vR x :: st) μ G := ev_stp pg_265_495 rfl
theorem pg_265_496 : mm_prog 265 496 = some (0, .iload_n 3, 497, []) := by decide +kernel
theorem xe_265_496 (a0 a1 a2 : Option MV) (x : Int) (st : List MV) (μ : MM) (G : MG) : ev 265 496 [a0, a1, a2, some (vI x)] st μ G = ev 265 497 [a0, a1, a2, some (vI x)] (vI x :: st) μ G := ev_stp pg_265_496 rfl
theorem pg_265_497 : mm_prog 265 497 = some (0, .iconst 3, 498, []) := by decide +kernel
theorem xe_265_497 (a0 a1 a2 a3 : Option MV) (st : List MV) (μ : MM) (G : MG) : ev 265 497 [a0, a1, a2, a3] st μ G = ev 265 498 [a0, a1, a2, a3] (vI (3) :: st) μ G := ev_stp pg_265_497 rfl
theorem pg_265_498 : mm_prog 265 498 = some (0, .iadd, 499, []) := by decide +kernel
theorem xe_265_498 (a0 a1 a2 a3 : Option MV) (x y : Int) (st : List MV) (μ : MM) (G : MG) : ev 265 498 [a0, a1, a2, a3] (vI y :: vI x :: st) μ G = ev 265 499 [a0, a1, a2, a3] (vI (w32 (x + y)) :: st) μ G := ev_stp pg_265_498 rfl
theorem pg_265_499 : mm_prog 265 499 = some (0, .iaload, 500, []) := by decide +kernel
theorem xe_265_499 (a0 a1 a2 a3 : Option MV) (x y : Int) (st : List MV) (μ : MM) (G : MG) : ev 265 499 [a0, a1, a2, a3] (vI x :: vR y :: st) μ G = if gk G y = 100 ∧ 0 ≤ x ∧ x < gl G y then ev 265 500 [a0, a1, a2, a3] (vI (μ y x) :: st) μ G else none := ev_if pg_265_499 rfl
theorem pg_265_500 : mm_prog 265 500 = some (1, .invokevirtual 56, 503, [1, 110, 3, 10]) := by decide +kernel
theorem xe_265_500 (a0 a1 a2 a3 : Option MV) (x0 x1 x2 z : Int) (μ : MM) (G : MG) : ev 265 500 [a0, a1, a2, a3] (vI x2 :: vI x1 :: vI x0 :: vR z :: []) μ G = if gk G z = 10 ∧ 0 < z then (ev 110 0 [some (vR z), some (vI x0), some (vI x1), some (vI x2)] [] μ G).bind (fun q => ev 265 503 [a0, a1, a2, a3] (q.1.toList ++ []) q.2.1 q.2.2) else none := ev_calV (as := [vR z, vI x0, vI x1, vI x2]) (r := []) mx_110 pg_265_500 rfl rfl (Nat.le_of_ble_eq_true rfl) (Nat.le_of_ble_eq_true rfl)
theorem pg_265_503 : mm_prog 265 503 = some (0, .aload_n 2, 504, []) := by decide +kernel
theorem xe_265_503 (a0 a1 a3 : Option MV) (x : Int) (st : List MV) (μ : MM) (G : MG) : ev 265 503 [a0, a1, some (vR x), a3] st μ G = ev 265 504 [a0, a1, some (vR x), a3] (vR x :: st) μ G := ev_stp pg_265_503 rfl
theorem pg_265_504 : mm_prog 265 504 = some (0, .aload_n 0, 505, []) := by decide +kernel
theorem xe_265_504 (a1 a2 a3 : Option MV) (x : Int) (st : List MV) (μ : MM) (G : MG) : ev 265 504 [some (vR x), a1, a2, a3] st μ G = ev 265 505 [some (vR x), a1, a2, a3] (vR x :: st) μ G := ev_stp pg_265_504 rfl
theorem pg_265_505 : mm_prog 265 505 = some (0, .iload_n 3, 506, []) := by decide +kernel
theorem xe_265_505 (a0 a1 a2 : Option MV) (x : Int) (st : List MV) (μ : MM) (G : MG) : ev 265 505 [a0, a1, a2, some (vI x)] st μ G = ev 265 506 [a0, a1, a2, some (vI x)] (vI x :: st) μ G := ev_stp pg_265_505 rfl
theorem pg_265_506 : mm_prog 265 506 = some (0, .iconst 1, 507, []) := by decide +kernel
theorem xe_265_506 (a0 a1 a2 a3 : Option MV) (st : List MV) (μ : MM) (G : MG) : ev 265 506 [a0, a1, a2, a3] st μ G = ev 265 507 [a0, a1, a2, a3] (vI (1) :: st) μ G := ev_stp pg_265_506 rfl
theorem pg_265_507 : mm_prog 265 507 = some (0, .iadd, 508, []) := by decide +kernel
theorem xe_265_507 (a0 a1 a2 a3 : Option MV) (x y : Int) (st : List MV) (μ : MM) (G : MG) : ev 265 507 [a0, a1, a2, a3] (vI y :: vI x :: st) μ G = ev 265 508 [a0, a1, a2, a3] (vI (w32 (x + y)) :: st) μ G := ev_stp pg_265_507 rfl
theorem pg_265_508 : mm_prog 265 508 = some (0, .iaload, 509, []) := by decide +kernel
theorem xe_265_508 (a0 a1 a2 a3 : Option MV) (x y : Int) (st : List MV) (μ : MM) (G : MG) : ev 265 508 [a0, a1, a2, a3] (vI x :: vR y :: st) μ G = if gk G y = 100 ∧ 0 ≤ x ∧ x < gl G y then ev 265 509 [a0, a1, a2, a3] (vI (μ y x) :: st) μ G else none := ev_if pg_265_508 rfl
theorem pg_265_509 : mm_prog 265 509 = some (0, .aload_n 0, 510, []) := by decide +kernel
theorem xe_265_509 (a1 a2 a3 : Option MV) (x : Int) (st : List MV) (μ : MM) (G : MG) : ev 265 509 [some (vR x), a1, a2, a3] st μ G = ev 265 510 [some (vR x), a1, a2, a3] (vR x :: st) μ G := ev_stp pg_265_509 rfl
theorem pg_265_510 : mm_prog 265 510 = some (0, .iload_n 3, 511, []) := by decide +kernel
theorem xe_265_510 (a0 a1 a2 : Option MV) (x : Int) (st : List MV) (μ : MM) (G : MG) : ev 265 510 [a0, a1, a2, some (vI x)] st μ G = ev 265 511 [a0, a1, a2, some (vI x)] (vI x :: st) μ G := ev_stp pg_265_510 rfl
theorem pg_265_511 : mm_prog 265 511 = some (0, .iconst 2, 512, []) := by decide +kernel
theorem xe_265_511 (a0 a1 a2 a3 : Option MV) (st : List MV) (μ : MM) (G : MG) : ev 265 511 [a0, a1, a2, a3] st μ G = ev 265 512 [a0, a1, a2, a3] (vI (2) :: st) μ G := ev_stp pg_265_511 rfl
theorem pg_265_512 : mm_prog 265 512 = some (0, .iadd, 513, []) := by decide +kernel
theorem xe_265_512 (a0 a1 a2 a3 : Option MV) (x y : Int) (st : List MV) (μ : MM) (G : MG) : ev 265 512 [a0, a1, a2, a3] (vI y :: vI x :: st) μ G = ev 265 513 [a0, a1, a2, a3] (vI (w32 (x + y)) :: st) μ G := ev_stp pg_265_512 rfl
theorem pg_265_513 : mm_prog 265 513 = some (0, .iaload, 514, []) := by decide +kernel
theorem xe_265_513 (a0 a1 a2 a3 : Option MV) (x y : Int) (st : List MV) (μ : MM) (G : MG) : ev 265 513 [a0, a1, a2, a3] (vI x :: vR y :: st) μ G = if gk G y = 100 ∧ 0 ≤ x ∧ x < gl G y then ev 265 514 [a0, a1, a2, a3] (vI (μ y x) :: st) μ G else none := ev_if pg_265_513 rfl
theorem pg_265_514 : mm_prog 265 514 = some (0, .aload_n 0, 515, []) := by decide +kernel
theorem xe_265_514 (a1 a2 a3 : Option MV) (x : Int) (st : List MV) (μ : MM) (G : MG) : ev 265 514 [some (vR x), a1, a2, a3] st μ G = ev 265 515 [some (vR x), a1, a2, a3] (vR x :: st) μ G := ev_stp pg_265_514 rfl
theorem pg_265_515 : mm_prog 265 515 = some (0, .iload_n 3, 516, []) := by decide +kernel
theorem xe_265_515 (a0 a1 a2 : Option MV) (x : Int) (st : List MV) (μ : MM) (G : MG) : ev 265 515 [a0, a1, a2, some (vI x)] st μ G = ev 265 516 [a0, a1, a2, some (vI x)] (vI x :: st) μ G := ev_stp pg_265_515 rfl
theorem pg_265_516 : mm_prog 265 516 = some (0, .iconst 3, 517, []) := by decide +kernel
theorem xe_265_516 (a0 a1 a2 a3 : Option MV) (st : List MV) (μ : MM) (G : MG) : ev 265 516 [a0, a1, a2, a3] st μ G = ev 265 517 [a0, a1, a2, a3] (vI (3) :: st) μ G := ev_stp pg_265_516 rfl
theorem pg_265_517 : mm_prog 265 517 = some (0, .iadd, 518, []) := by decide +kernel
theorem xe_265_517 (a0 a1 a2 a3 : Option MV) (x y : Int) (st : List MV) (μ : MM) (G : MG) : ev 265 517 [a0, a1, a2, a3] (vI y :: vI x :: st) μ G = ev 265 518 [a0, a1, a2, a3] (vI (w32 (x + y)) :: st) μ G := ev_stp pg_265_517 rfl
theorem pg_265_518 : mm_prog 265 518 = some (0, .iaload, 519, []) := by decide +kernel
theorem xe_265_518 (a0 a1 a2 a3 : Option MV) (x y : Int) (st : List MV) (μ : MM) (G : MG) : ev 265 518 [a0, a1, a2, a3] (vI x :: vR y :: st) μ G = if gk G y = 100 ∧ 0 ≤ x ∧ x < gl G y then ev 265 519 [a0, a1, a2, a3] (vI (μ y x) :: st) μ G else none := ev_if pg_265_518 rfl
theorem pg_265_519 : mm_prog 265 519 = some (1, .invokevirtual 60, 522, [1, 192, 3, 11]) := by decide +kernel
theorem xe_265_519 (a0 a1 a2 a3 : Option MV) (x0 x1 x2 z r0 : Int) (μ : MM) (G : MG) : ev 265 519 [a0, a1, a2, a3] (vI x2 :: vI x1 :: vI x0 :: vR z :: [vI r0]) μ G = if gk G z = 11 ∧ 0 < z then (ev 192 0 [some (vR z), some (vI x0), some (vI x1), some (vI x2), none] [] μ G).bind (fun q => ev 265 522 [a0, a1, a2, a3] (q.1.toList ++ [vI r0]) q.2.1 q.2.2) else none := ev_calV (as := [vR z, vI x0, vI x1, vI x2]) (r := [vI r0]) mx_192 pg_265_519 rfl rfl (Nat.le_of_ble_eq_true rfl) (Nat.le_of_ble_eq_true rfl)
theorem pg_265_522 : mm_prog 265 522 = some (0, .if_icmp .eq 756, 525, []) := by decide +kernel
theorem xe_265_522 (a0 a1 a2 a3 : Option MV) (x y : Int) (st : List MV) (μ : MM) (G : MG) : ev 265 522 [a0, a1, a2, a3] (vI y :: vI x :: st) μ G = if x = y then ev 265 1278 [a0, a1, a2, a3] st μ G else ev 265 525 [a0, a1, a2, a3] st μ G := ev_br (mm_cnd_eq x y) pg_265_522 rfl
theorem pg_265_525 : mm_prog 265 525 = some (0, .iconst 0, 526, []) := by decide +kernel
theorem xe_265_525 (a0 a1 a2 a3 : Option MV) (st : List MV) (μ : MM) (G : MG) : ev 265 525 [a0, a1, a2, a3] st μ G = ev 265 526 [a0, a1, a2, a3] (vI (0) :: st) μ G := ev_stp pg_265_525 rfl
theorem pg_265_526 : mm_prog 265 526 = some (2, .ireturn, 527, [1]) := by decide +kernel
theorem xe_265_526 (a0 a1 a2 a3 : Option MV) (x : Int) (μ : MM) (G : MG) : ev 265 526 [a0, a1, a2, a3] [vI x] μ G = if x = 0 ∨ x = 1 then some (some (vI x), μ, G) else none := ev_retB pg_265_526
theorem pg_265_527 : mm_prog 265 527 = some (0, .aload_n 1, 528, []) := by decide +kernel
theorem xe_265_527 (a0 a2 a3 : Option MV) (x : Int) (st : List MV) (μ : MM) (G : MG) : ev 265 527 [a0, some (vR x), a2, a3] st μ G = ev 265 528 [a0, some (vR x), a2, a3] (vR x :: st) μ G := ev_stp pg_265_527 rfl
theorem pg_265_528 : mm_prog 265 528 = some (0, .aload_n 0, 529, []) := by decide +kernel
theorem xe_265_528 (a1 a2 a3 : Option MV) (x : Int) (st : List MV) (μ : MM) (G : MG) : ev 265 528 [some (vR x), a1, a2, a3] st μ G = ev 265 529 [some (vR x), a1, a2, a3] (vR x :: st) μ G := ev_stp pg_265_528 rfl
theorem pg_265_529 : mm_prog 265 529 = some (0, .iload_n 3, 530, []) := by decide +kernel
theorem xe_265_529 (a0 a1 a2 : Option MV) (x : Int) (st : List MV) (μ : MM) (G : MG) : ev 265 529 [a0, a1, a2, some (vI x)] st μ G = ev 265 530 [a0, a1, a2, some (vI x)] (vI x :: st) μ G := ev_stp pg_265_529 rfl
theorem pg_265_530 : mm_prog 265 530 = some (0, .iconst 1, 531, []) := by decide +kernel
theorem xe_265_530 (a0 a1 a2 a3 : Option MV) (st : List MV) (μ : MM) (G : MG) : ev 265 530 [a0, a1, a2, a3] st μ G = ev 265 531 [a0, a1, a2, a3] (vI (1) :: st) μ G := ev_stp pg_265_530 rfl
theorem pg_265_531 : mm_prog 265 531 = some (0, .iadd, 532, []) := by decide +kernel
theorem xe_265_531 (a0 a1 a2 a3 : Option MV) (x y : Int) (st : List MV) (μ : MM) (G : MG) : ev 265 531 [a0, a1, a2, a3] (vI y :: vI x :: st) μ G = ev 265 532 [a0, a1, a2, a3] (vI (w32 (x + y)) :: st) μ G := ev_stp pg_265_531 rfl
theorem pg_265_532 : mm_prog 265 532 = some (0, .iaload, 533, []) := by decide +kernel
theorem xe_265_532 (a0 a1 a2 a3 : Option MV) (x y : Int) (st : List MV) (μ : MM) (G : MG) : ev 265 532 [a0, a1, a2, a3] (vI x :: vR y :: st) μ G = if gk G y = 100 ∧ 0 ≤ x ∧ x < gl G y then ev 265 533 [a0, a1, a2, a3] (vI (μ y x) :: st) μ G else none := ev_if pg_265_532 rfl
theorem pg_265_533 : mm_prog 265 533 = some (0, .aload_n 0, 534, []) := by decide +kernel
theorem xe_265_533 (a1 a2 a3 : Option MV) (x : Int) (st : List MV) (μ : MM) (G : MG) : ev 265 533 [some (vR x), a1, a2, a3] st μ G = ev 265 534 [some (vR x), a1, a2, a3] (vR x :: st) μ G := ev_stp pg_265_533 rfl
theorem pg_265_534 : mm_prog 265 534 = some (0, .iload_n 3, 535, []) := by decide +kernel
theorem xe_265_534 (a0 a1 a2 : Option MV) (x : Int) (st : List MV) (μ : MM) (G : MG) : ev 265 534 [a0, a1, a2, some (vI x)] st μ G = ev 265 535 [a0, a1, a2, some (vI x)] (vI x :: st) μ G := ev_stp pg_265_534 rfl
theorem pg_265_535 : mm_prog 265 535 = some (0, .iconst 2, 536, []) := by decide +kernel
theorem xe_265_535 (a0 a1 a2 a3 : Option MV) (st : List MV) (μ : MM) (G : MG) : ev 265 535 [a0, a1, a2, a3] st μ G = ev 265 536 [a0, a1, a2, a3] (vI (2) :: st) μ G := ev_stp pg_265_535 rfl
theorem pg_265_536 : mm_prog 265 536 = some (0, .iadd, 537, []) := by decide +kernel
theorem xe_265_536 (a0 a1 a2 a3 : Option MV) (x y : Int) (st : List MV) (μ : MM) (G : MG) : ev 265 536 [a0, a1, a2, a3] (vI y :: vI x :: st) μ G = ev 265 537 [a0, a1, a2, a3] (vI (w32 (x + y)) :: st) μ G := ev_stp pg_265_536 rfl
theorem pg_265_537 : mm_prog 265 537 = some (0, .iaload, 538, []) := by decide +kernel
theorem xe_265_537 (a0 a1 a2 a3 : Option MV) (x y : Int) (st : List MV) (μ : MM) (G : MG) : ev 265 537 [a0, a1, a2, a3] (vI x :: vR y :: st) μ G = if gk G y = 100 ∧ 0 ≤ x ∧ x < gl G y then ev 265 538 [a0, a1, a2, a3] (vI (μ y x) :: st) μ G else none := ev_if pg_265_537 rfl
theorem pg_265_538 : mm_prog 265 538 = some (0, .aload_n 0, 539, []) := by decide +kernel
theorem xe_265_538 (a1 a2 a3 : Option MV) (x : Int) (st : List MV) (μ : MM) (G : MG) : ev 265 538 [some (vR x), a1, a2, a3] st μ G = ev 265 539 [some (vR x), a1, a2, a3] (vR x :: st) μ G := ev_stp pg_265_538 rfl
theorem pg_265_539 : mm_prog 265 539 = some (0, .iload_n 3, 540, []) := by decide +kernel
theorem xe_265_539 (a0 a1 a2 : Option MV) (x : Int) (st : List MV) (μ : MM) (G : MG) : ev 265 539 [a0, a1, a2, some (vI x)] st μ G = ev 265 540 [a0, a1, a2, some (vI x)] (vI x :: st) μ G := ev_stp pg_265_539 rfl
theorem pg_265_540 : mm_prog 265 540 = some (0, .iconst 3, 541, []) := by decide +kernel
theorem xe_265_540 (a0 a1 a2 a3 : Option MV) (st : List MV) (μ : MM) (G : MG) : ev 265 540 [a0, a1, a2, a3] st μ G = ev 265 541 [a0, a1, a2, a3] (vI (3) :: st) μ G := ev_stp pg_265_540 rfl
theorem pg_265_541 : mm_prog 265 541 = some (0, .iadd, 542, []) := by decide +kernel
theorem xe_265_541 (a0 a1 a2 a3 : Option MV) (x y : Int) (st : List MV) (μ : MM) (G : MG) : ev 265 541 [a0, a1, a2, a3] (vI y :: vI x :: st) μ G = ev 265 542 [a0, a1, a2, a3] (vI (w32 (x + y)) :: st) μ G := ev_stp pg_265_541 rfl
theorem pg_265_542 : mm_prog 265 542 = some (0, .iaload, 543, []) := by decide +kernel
theorem xe_265_542 (a0 a1 a2 a3 : Option MV) (x y : Int) (st : List MV) (μ : MM) (G : MG) : ev 265 542 [a0, a1, a2, a3] (vI x :: vR y :: st) μ G = if gk G y = 100 ∧ 0 ≤ x ∧ x < gl G y then ev 265 543 [a0, a1, a2, a3] (vI (μ y x) :: st) μ G else none := ev_if pg_265_542 rfl
theorem pg_265_543 : mm_prog 265 543 = some (0, .aload_n 0, 544, []) := by decide +kernel
theorem xe_265_543 (a1 a2 a3 : Option MV) (x : Int) (st : List MV) (μ : MM) (G : MG) : ev 265 543 [some (vR x), a1, a2, a3] st μ G = ev 265 544 [some (vR x), a1, a2, a3] (vR x :: st) μ G := ev_stp pg_265_543 rfl
theorem pg_265_544 : mm_prog 265 544 = some (0, .iload_n 3, 545, []) := by decide +kernel
theorem xe_265_544 (a0 a1 a2 : Option MV) (x : Int) (st : List MV) (μ : MM) (G : MG) : ev 265 544 [a0, a1, a2, some (vI x)] st μ G = ev 265 545 [a0, a1, a2, some (vI x)] (vI x :: st) μ G := ev_stp pg_265_544 rfl
theorem pg_265_545 : mm_prog 265 545 = some (0, .iconst 4, 546, []) := by decide +kernel
theorem xe_265_545 (a0 a1 a2 a3 : Option MV) (st : List MV) (μ : MM) (G : MG) : ev 265 545 [a0, a1, a2, a3] st μ G = ev 265 546 [a0, a1, a2, a3] (vI (4) :: st) μ G := ev_stp pg_265_545 rfl
theorem pg_265_546 : mm_prog 265 546 = some (0, .iadd, 547, []) := by decide +kernel
theorem xe_265_546 (a0 a1 a2 a3 : Option MV) (x y : Int) (st : List MV) (μ : MM) (G : MG) : ev 265 546 [a0, a1, a2, a3] (vI y :: vI x :: st) μ G = ev 265 547 [a0, a1, a2, a3] (vI (w32 (x + y)) :: st) μ G := ev_stp pg_265_546 rfl
theorem pg_265_547 : mm_prog 265 547 = some (0, .iaload, 548, []) := by decide +kernel
theorem xe_265_547 (a0 a1 a2 a3 : Option MV) (x y : Int) (st : List MV) (μ : MM) (G : MG) : ev 265 547 [a0, a1, a2, a3] (vI x :: vR y :: st) μ G = if gk G y = 100 ∧ 0 ≤ x ∧ x < gl G y then ev 265 548 [a0, a1, a2, a3] (vI (μ y x) :: st) μ G else none := ev_if pg_265_547 rfl
theorem pg_265_548 : mm_prog 265 548 = some (0, .aload_n 0, 549, []) := by decide +kernel
theorem xe_265_548 (a1 a2 a3 : Option MV) (x : Int) (st : List MV) (μ : MM) (G : MG) : ev 265 548 [some (vR x), a1, a2, a3] st μ G = ev 265 549 [some (vR x), a1, a2, a3] (vR x :: st) μ G := ev_stp pg_265_548 rfl
theorem pg_265_549 : mm_prog 265 549 = some (0, .iload_n 3, 550, []) := by decide +kernel
theorem xe_265_549 (a0 a1 a2 : Option MV) (x : Int) (st : List MV) (μ : MM) (G : MG) : ev 265 549 [a0, a1, a2, some (vI x)] st μ G = ev 265 550 [a0, a1, a2, some (vI x)] (vI x :: st) μ G := ev_stp pg_265_549 rfl
theorem pg_265_550 : mm_prog 265 550 = some (0, .iconst 5, 551, []) := by decide +kernel
theorem xe_265_550 (a0 a1 a2 a3 : Option MV) (st : List MV) (μ : MM) (G : MG) : ev 265 550 [a0, a1, a2, a3] st μ G = ev 265 551 [a0, a1, a2, a3] (vI (5) :: st) μ G := ev_stp pg_265_550 rfl
theorem pg_265_551 : mm_prog 265 551 = some (0, .iadd, 552, []) := by decide +kernel
theorem xe_265_551 (a0 a1 a2 a3 : Option MV) (x y : Int) (st : List MV) (μ : MM) (G : MG) : ev 265 551 [a0, a1, a2, a3] (vI y :: vI x :: st) μ G = ev 265 552 [a0, a1, a2, a3] (vI (w32 (x + y)) :: st) μ G := ev_stp pg_265_551 rfl
theorem pg_265_552 : mm_prog 265 552 = some (0, .iaload, 553, []) := by decide +kernel
theorem xe_265_552 (a0 a1 a2 a3 : Option MV) (x y : Int) (st : List MV) (μ : MM) (G : MG) : ev 265 552 [a0, a1, a2, a3] (vI x :: vR y :: st) μ G = if gk G y = 100 ∧ 0 ≤ x ∧ x < gl G y then ev 265 553 [a0, a1, a2, a3] (vI (μ y x) :: st) μ G else none := ev_if pg_265_552 rfl
theorem pg_265_553 : mm_prog 265 553 = some (1, .invokevirtual 61, 556, [1, 111, 5, 10]) := by decide +kernel
theorem xe_265_553 (a0 a1 a2 a3 : Option MV) (x0 x1 x2 x3 x4 z : Int) (μ : MM) (G : MG) : ev 265 553 [a0, a1, a2, a3] (vI x4 :: vI x3 :: vI x2 :: vI x1 :: vI x0 :: vR z :: []) μ G = if gk G z = 10 ∧ 0 < z then (ev 111 0 [some (vR z), some (vI x0), some (vI x1), some (vI x2), some (vI x3), some (vI x4)] [] μ G).bind (fun q => ev 265 556 [a0, a1, a2, a3] (q.1.toList ++ []) q.2.1 q.2.2) else none := ev_calV (as := [vR z, vI x0, vI x1, vI x2, vI x3, vI x4]) (r := []) mx_111 pg_265_553 rfl rfl (Nat.le_of_ble_eq_true rfl) (Nat.le_of_ble_eq_true rfl)
theorem pg_265_556 : mm_prog 265 556 = some (0, .aload_n 2, 557, []) := by decide +kernel
theorem xe_265_556 (a0 a1 a3 : Option MV) (x : Int) (st : List MV) (μ : MM) (G : MG) : ev 265 556 [a0, a1, some (vR x), a3] st μ G = ev 265 557 [a0, a1, some (vR x), a3] (vR x :: st) μ G := ev_stp pg_265_556 rfl
theorem pg_265_557 : mm_prog 265 557 = some (0, .aload_n 0, 558, []) := by decide +kernel
theorem xe_265_557 (a1 a2 a3 : Option MV) (x : Int) (st : List MV) (μ : MM) (G : MG) : ev 265 557 [some (vR x), a1, a2, a3] st μ G = ev 265 558 [some (vR x), a1, a2, a3] (vR x :: st) μ G := ev_stp pg_265_557 rfl
theorem pg_265_558 : mm_prog 265 558 = some (0, .iload_n 3, 559, []) := by decide +kernel
theorem xe_265_558 (a0 a1 a2 : Option MV) (x : Int) (st : List MV) (μ : MM) (G : MG) : ev 265 558 [a0, a1, a2, some (vI x)] st μ G = ev 265 559 [a0, a1, a2, some (vI x)] (vI x :: st) μ G := ev_stp pg_265_558 rfl
theorem pg_265_559 : mm_prog 265 559 = some (0, .iconst 1, 560, []) := by decide +kernel
theorem xe_265_559 (a0 a1 a2 a3 : Option MV) (st : List MV) (μ : MM) (G : MG) : ev 265 559 [a0, a1, a2, a3] st μ G = ev 265 560 [a0, a1, a2, a3] (vI (1) :: st) μ G := ev_stp pg_265_559 rfl
theorem pg_265_560 : mm_prog 265 560 = some (0, .iadd, 561, []) := by decide +kernel
theorem xe_265_560 (a0 a1 a2 a3 : Option MV) (x y : Int) (st : List MV) (μ : MM) (G : MG) : ev 265 560 [a0, a1, a2, a3] (vI y :: vI x :: st) μ G = ev 265 561 [a0, a1, a2, a3] (vI (w32 (x + y)) :: st) μ G := ev_stp pg_265_560 rfl
theorem pg_265_561 : mm_prog 265 561 = some (0, .iaload, 562, []) := by decide +kernel
theorem xe_265_561 (a0 a1 a2 a3 : Option MV) (x y : Int) (st : List MV) (μ : MM) (G : MG) : ev 265 561 [a0, a1, a2, a3] (vI x :: vR y :: st) μ G = if gk G y = 100 ∧ 0 ≤ x ∧ x < gl G y then ev 265 562 [a0, a1, a2, a3] (vI (μ y x) :: st) μ G else none := ev_if pg_265_561 rfl
theorem pg_265_562 : mm_prog 265 562 = some (0, .aload_n 0, 563, []) := by decide +kernel
theorem xe_265_562 (a1 a2 a3 : Option MV) (x : Int) (st : List MV) (μ : MM) (G : MG) : ev 265 562 [some (vR x), a1, a2, a3] st μ G = ev 265 563 [some (vR x), a1, a2, a3] (vR x :: st) μ G := ev_stp pg_265_562 rfl
theorem pg_265_563 : mm_prog 265 563 = some (0, .iload_n 3, 564, []) := by decide +kernel
theorem xe_265_563 (a0 a1 a2 : Option MV) (x : Int) (st : List MV) (μ : MM) (G : MG) : ev 265 563 [a0, a1, a2, some (vI x)] st μ G = ev 265 564 [a0, a1, a2, some (vI x)] (vI x :: st) μ G := ev_stp pg_265_563 rfl
theorem pg_265_564 : mm_prog 265 564 = some (0, .iconst 2, 565, []) := by decide +kernel
theorem xe_265_564 (a0 a1 a2 a3 : Option MV) (st : List MV) (μ : MM) (G : MG) : ev 265 564 [a0, a1, a2, a3] st μ G = ev 265 565 [a0, a1, a2, a3] (vI (2) :: st) μ G := ev_stp pg_265_564 rfl
theorem pg_265_565 : mm_prog 265 565 = some (0, .iadd, 566, []) := by decide +kernel
theorem xe_265_565 (a0 a1 a2 a3 : Option MV) (x y : Int) (st : List MV) (μ : MM) (G : MG) : ev 265 565 [a0, a1, a2, a3] (vI y :: vI x :: st) μ G = ev 265 566 [a0, a1, a2, a3] (vI (w32 (x + y)) :: st) μ G := ev_stp pg_265_565 rfl
theorem pg_265_566 : mm_prog 265 566 = some (0, .iaload, 567, []) := by decide +kernel
theorem xe_265_566 (a0 a1 a2 a3 : Option MV) (x y : Int) (st : List MV) (μ : MM) (G : MG) : ev 265 566 [a0, a1, a2, a3] (vI x :: vR y :: st) μ G = if gk G y = 100 ∧ 0 ≤ x ∧ x < gl G y then ev 265 567 [a0, a1, a2, a3] (vI (μ y x) :: st) μ G else none := ev_if pg_265_566 rfl
theorem pg_265_567 : mm_prog 265 567 = some (0, .aload_n 0, 568, []) := by decide +kernel
theorem xe_265_567 (a1 a2 a3 : Option MV) (x : Int) (st : List MV) (μ : MM) (G : MG) : ev 265 567 [some (vR x), a1, a2, a3] st μ G = ev 265 568 [some (vR x), a1, a2, a3] (vR x :: st) μ G := ev_stp pg_265_567 rfl
theorem pg_265_568 : mm_prog 265 568 = some (0, .iload_n 3, 569, []) := by decide +kernel
theorem xe_265_568 (a0 a1 a2 : Option MV) (x : Int) (st : List MV) (μ : MM) (G : MG) : ev 265 568 [a0, a1, a2, some (vI x)] st μ G = ev 265 569 [a0, a1, a2, some (vI x)] (vI x :: st) μ G := ev_stp pg_265_568 rfl
theorem pg_265_569 : mm_prog 265 569 = some (0, .iconst 3, 570, []) := by decide +kernel
theorem xe_265_569 (a0 a1 a2 a3 : Option MV) (st : List MV) (μ : MM) (G : MG) : ev 265 569 [a0, a1, a2, a3] st μ G = ev 265 570 [a0, a1, a2, a3] (vI (3) :: st) μ G := ev_stp pg_265_569 rfl
theorem pg_265_570 : mm_prog 265 570 = some (0, .iadd, 571, []) := by decide +kernel
theorem xe_265_570 (a0 a1 a2 a3 : Option MV) (x y : Int) (st : List MV) (μ : MM) (G : MG) : ev 265 570 [a0, a1, a2, a3] (vI y :: vI x :: st) μ G = ev 265 571 [a0, a1, a2, a3] (vI (w32 (x + y)) :: st) μ G := ev_stp pg_265_570 rfl
theorem pg_265_571 : mm_prog 265 571 = some (0, .iaload, 572, []) := by decide +kernel
theorem xe_265_571 (a0 a1 a2 a3 : Option MV) (x y : Int) (st : List MV) (μ : MM) (G : MG) : ev 265 571 [a0, a1, a2, a3] (vI x :: vR y :: st) μ G = if gk G y = 100 ∧ 0 ≤ x ∧ x < gl G y then ev 265 572 [a0, a1, a2, a3] (vI (μ y x) :: st) μ G else none := ev_if pg_265_571 rfl
theorem pg_265_572 : mm_prog 265 572 = some (0, .aload_n 0, 573, []) := by decide +kernel
theorem xe_265_572 (a1 a2 a3 : Option MV) (x : Int) (st : List MV) (μ : MM) (G : MG) : ev 265 572 [some (vR x), a1, a2, a3] st μ G = ev 265 573 [some (vR x), a1, a2, a3] (vR x :: st) μ G := ev_stp pg_265_572 rfl
theorem pg_265_573 : mm_prog 265 573 = some (0, .iload_n 3, 574, []) := by decide +kernel
theorem xe_265_573 (a0 a1 a2 : Option MV) (x : Int) (st : List MV) (μ : MM) (G : MG) : ev 265 573 [a0, a1, a2, some (vI x)] st μ G = ev 265 574 [a0, a1, a2, some (vI x)] (vI x :: st) μ G := ev_stp pg_265_573 rfl
theorem pg_265_574 : mm_prog 265 574 = some (0, .iconst 4, 575, []) := by decide +kernel
theorem xe_265_574 (a0 a1 a2 a3 : Option MV) (st : List MV) (μ : MM) (G : MG) : ev 265 574 [a0, a1, a2, a3] st μ G = ev 265 575 [a0, a1, a2, a3] (vI (4) :: st) μ G := ev_stp pg_265_574 rfl
theorem pg_265_575 : mm_prog 265 575 = some (0, .iadd, 576, []) := by decide +kernel
theorem xe_265_575 (a0 a1 a2 a3 : Option MV) (x y : Int) (st : List MV) (μ : MM) (G : MG) : ev 265 575 [a0, a1, a2, a3] (vI y :: vI x :: st) μ G = ev 265 576 [a0, a1, a2, a3] (vI (w32 (x + y)) :: st) μ G := ev_stp pg_265_575 rfl
theorem pg_265_576 : mm_prog 265 576 = some (0, .iaload, 577, []) := by decide +kernel
theorem xe_265_576 (a0 a1 a2 a3 : Option MV) (x y : Int) (st : List MV) (μ : MM) (G : MG) : ev 265 576 [a0, a1, a2, a3] (vI x :: vR y :: st) μ G = if gk G y = 100 ∧ 0 ≤ x ∧ x < gl G y then ev 265 577 [a0, a1, a2, a3] (vI (μ y x) :: st) μ G else none := ev_if pg_265_576 rfl
theorem pg_265_577 : mm_prog 265 577 = some (0, .aload_n 0, 578, []) := by decide +kernel
theorem xe_265_577 (a1 a2 a3 : Option MV) (x : Int) (st : List MV) (μ : MM) (G : MG) : ev 265 577 [some (vR x), a1, a2, a3] st μ G = ev 265 578 [some (vR x), a1, a2, a3] (vR x :: st) μ G := ev_stp pg_265_577 rfl
theorem pg_265_578 : mm_prog 265 578 = some (0, .iload_n 3, 579, []) := by decide +kernel
theorem xe_265_578 (a0 a1 a2 : Option MV) (x : Int) (st : List MV) (μ : MM) (G : MG) : ev 265 578 [a0, a1, a2, some (vI x)] st μ G = ev 265 579 [a0, a1, a2, some (vI x)] (vI x :: st) μ G := ev_stp pg_265_578 rfl
theorem pg_265_579 : mm_prog 265 579 = some (0, .iconst 5, 580, []) := by decide +kernel
theorem xe_265_579 (a0 a1 a2 a3 : Option MV) (st : List MV) (μ : MM) (G : MG) : ev 265 579 [a0, a1, a2, a3] st μ G = ev 265 580 [a0, a1, a2, a3] (vI (5) :: st) μ G := ev_stp pg_265_579 rfl
theorem pg_265_580 : mm_prog 265 580 = some (0, .iadd, 581, []) := by decide +kernel
theorem xe_265_580 (a0 a1 a2 a3 : Option MV) (x y : Int) (st : List MV) (μ : MM) (G : MG) : ev 265 580 [a0, a1, a2, a3] (vI y :: vI x :: st) μ G = ev 265 581 [a0, a1, a2, a3] (vI (w32 (x + y)) :: st) μ G := ev_stp pg_265_580 rfl
theorem pg_265_581 : mm_prog 265 581 = some (0, .iaload, 582, []) := by decide +kernel
theorem xe_265_581 (a0 a1 a2 a3 : Option MV) (x y : Int) (st : List MV) (μ : MM) (G : MG) : ev 265 581 [a0, a1, a2, a3] (vI x :: vR y :: st) μ G = if gk G y = 100 ∧ 0 ≤ x ∧ x < gl G y then ev 265 582 [a0, a1, a2, a3] (vI (μ y x) :: st) μ G else none := ev_if pg_265_581 rfl
theorem pg_265_582 : mm_prog 265 582 = some (1, .invokevirtual 64, 585, [1, 196, 5, 11]) := by decide +kernel
theorem xe_265_582 (a0 a1 a2 a3 : Option MV) (x0 x1 x2 x3 x4 z r0 : Int) (μ : MM) (G : MG) : ev 265 582 [a0, a1, a2, a3] (vI x4 :: vI x3 :: vI x2 :: vI x1 :: vI x0 :: vR z :: [vI r0]) μ G = if gk G z = 11 ∧ 0 < z then (ev 196 0 [some (vR z), some (vI x0), some (vI x1), some (vI x2), some (vI x3), some (vI x4)] [] μ G).bind (fun q => ev 265 585 [a0, a1, a2, a3] (q.1.toList ++ [vI r0]) q.2.1 q.2.2) else none := ev_calV (as := [vR z, vI x0, vI x1, vI x2, vI x3, vI x4]) (r := [vI r0]) mx_196 pg_265_582 rfl rfl (Nat.le_of_ble_eq_true rfl) (Nat.le_of_ble_eq_true rfl)
theorem pg_265_585 : mm_prog 265 585 = some (0, .if_icmp .eq 693, 588, []) := by decide +kernel
theorem xe_265_585 (a0 a1 a2 a3 : Option MV) (x y : Int) (st : List MV) (μ : MM) (G : MG) : ev 265 585 [a0, a1, a2, a3] (vI y :: vI x :: st) μ G = if x = y then ev 265 1278 [a0, a1, a2, a3] st μ G else ev 265 588 [a0, a1, a2, a3] st μ G := ev_br (mm_cnd_eq x y) pg_265_585 rfl
theorem pg_265_588 : mm_prog 265 588 = some (0, .iconst 0, 589, []) := by decide +kernel
theorem xe_265_588 (a0 a1 a2 a3 : Option MV) (st : List MV) (μ : MM) (G : MG) : ev 265 588 [a0, a1, a2, a3] st μ G = ev 265 589 [a0, a1, a2, a3] (vI (0) :: st) μ G := ev_stp pg_265_588 rfl
theorem pg_265_589 : mm_prog 265 589 = some (2, .ireturn, 590, [1]) := by decide +kernel
theorem xe_265_589 (a0 a1 a2 a3 : Option MV) (x : Int) (μ : MM) (G : MG) : ev 265 589 [a0, a1, a2, a3] [vI x] μ G = if x = 0 ∨ x = 1 then some (some (vI x), μ, G) else none := ev_retB pg_265_589
theorem pg_265_590 : mm_prog 265 590 = some (0, .aload_n 1, 591, []) := by decide +kernel
theorem xe_265_590 (a0 a2 a3 : Option MV) (x : Int) (st : List MV) (μ : MM) (G : MG) : ev 265 590 [a0, some (vR x), a2, a3] st μ G = ev 265 591 [a0, some (vR x), a2, a3] (vR x :: st) μ G := ev_stp pg_265_590 rfl
theorem pg_265_591 : mm_prog 265 591 = some (0, .aload_n 0, 592, []) := by decide +kernel
theorem xe_265_591 (a1 a2 a3 : Option MV) (x : Int) (st : List MV) (μ : MM) (G : MG) : ev 265 591 [some (vR x), a1, a2, a3] st μ G = ev 265 592 [some (vR x), a1, a2, a3] (vR x :: st) μ G := ev_stp pg_265_591 rfl
theorem pg_265_592 : mm_prog 265 592 = some (0, .iload_n 3, 593, []) := by decide +kernel
theorem xe_265_592 (a0 a1 a2 : Option MV) (x : Int) (st : List MV) (μ : MM) (G : MG) : ev 265 592 [a0, a1, a2, some (vI x)] st μ G = ev 265 593 [a0, a1, a2, some (vI x)] (vI x :: st) μ G := ev_stp pg_265_592 rfl
theorem pg_265_593 : mm_prog 265 593 = some (0, .iconst 1, 594, []) := by decide +kernel
theorem xe_265_593 (a0 a1 a2 a3 : Option MV) (st : List MV) (μ : MM) (G : MG) : ev 265 593 [a0, a1, a2, a3] st μ G = ev 265 594 [a0, a1, a2, a3] (vI (1) :: st) μ G := ev_stp pg_265_593 rfl
theorem pg_265_594 : mm_prog 265 594 = some (0, .iadd, 595, []) := by decide +kernel
theorem xe_265_594 (a0 a1 a2 a3 : Option MV) (x y : Int) (st : List MV) (μ : MM) (G : MG) : ev 265 594 [a0, a1, a2, a3] (vI y :: vI x :: st) μ G = ev 265 595 [a0, a1, a2, a3] (vI (w32 (x + y)) :: st) μ G := ev_stp pg_265_594 rfl
theorem pg_265_595 : mm_prog 265 595 = some (0, .iaload, 596, []) := by decide +kernel
theorem xe_265_595 (a0 a1 a2 a3 : Option MV) (x y : Int) (st : List MV) (μ : MM) (G : MG) : ev 265 595 [a0, a1, a2, a3] (vI x :: vR y :: st) μ G = if gk G y = 100 ∧ 0 ≤ x ∧ x < gl G y then ev 265 596 [a0, a1, a2, a3] (vI (μ y x) :: st) μ G else none := ev_if pg_265_595 rfl
theorem pg_265_596 : mm_prog 265 596 = some (0, .aload_n 0, 597, []) := by decide +kernel
theorem xe_265_596 (a1 a2 a3 : Option MV) (x : Int) (st : List MV) (μ : MM) (G : MG) : ev 265 596 [some (vR x), a1, a2, a3] st μ G = ev 265 597 [some (vR x), a1, a2, a3] (vR x :: st) μ G := ev_stp pg_265_596 rfl
theorem pg_265_597 : mm_prog 265 597 = some (0, .iload_n 3, 598, []) := by decide +kernel
theorem xe_265_597 (a0 a1 a2 : Option MV) (x : Int) (st : List MV) (μ : MM) (G : MG) : ev 265 597 [a0, a1, a2, some (vI x)] st μ G = ev 265 598 [a0, a1, a2, some (vI x)] (vI x :: st) μ G := ev_stp pg_265_597 rfl
theorem pg_265_598 : mm_prog 265 598 = some (0, .iconst 2, 599, []) := by decide +kernel
theorem xe_265_598 (a0 a1 a2 a3 : Option MV) (st : List MV) (μ : MM) (G : MG) : ev 265 598 [a0, a1, a2, a3] st μ G = ev 265 599 [a0, a1, a2, a3] (vI (2) :: st) μ G := ev_stp pg_265_598 rfl
theorem pg_265_599 : mm_prog 265 599 = some (0, .iadd, 600, []) := by decide +kernel
theorem xe_265_599 (a0 a1 a2 a3 : Option MV) (x y : Int) (st : List MV) (μ : MM) (G : MG) : ev 265 599 [a0, a1, a2, a3] (vI y :: vI x :: st) μ G = ev 265 600 [a0, a1, a2, a3] (vI (w32 (x + y)) :: st) μ G := ev_stp pg_265_599 rfl
theorem pg_265_600 : mm_prog 265 600 = some (0, .iaload, 601, []) := by decide +kernel
theorem xe_265_600 (a0 a1 a2 a3 : Option MV) (x y : Int) (st : List MV) (μ : MM) (G : MG) : ev 265 600 [a0, a1, a2, a3] (vI x :: vR y :: st) μ G = if gk G y = 100 ∧ 0 ≤ x ∧ x < gl G y then ev 265 601 [a0, a1, a2, a3] (vI (μ y x) :: st) μ G else none := ev_if pg_265_600 rfl
theorem pg_265_601 : mm_prog 265 601 = some (0, .aload_n 0, 602, []) := by decide +kernel
theorem xe_265_601 (a1 a2 a3 : Option MV) (x : Int) (st : List MV) (μ : MM) (G : MG) : ev 265 601 [some (vR x), a1, a2, a3] st μ G = ev 265 602 [some (vR x), a1, a2, a3] (vR x :: st) μ G := ev_stp pg_265_601 rfl
theorem pg_265_602 : mm_prog 265 602 = some (0, .iload_n 3, 603, []) := by decide +kernel
theorem xe_265_602 (a0 a1 a2 : Option MV) (x : Int) (st : List MV) (μ : MM) (G : MG) : ev 265 602 [a0, a1, a2, some (vI x)] st μ G = ev 265 603 [a0, a1, a2, some (vI x)] (vI x :: st) μ G := ev_stp pg_265_602 rfl
theorem pg_265_603 : mm_prog 265 603 = some (0, .iconst 3, 604, []) := by decide +kernel
theorem xe_265_603 (a0 a1 a2 a3 : Option MV) (st : List MV) (μ : MM) (G : MG) : ev 265 603 [a0, a1, a2, a3] st μ G = ev 265 604 [a0, a1, a2, a3] (vI (3) :: st) μ G := ev_stp pg_265_603 rfl
theorem pg_265_604 : mm_prog 265 604 = some (0, .iadd, 605, []) := by decide +kernel
theorem xe_265_604 (a0 a1 a2 a3 : Option MV) (x y : Int) (st : List MV) (μ : MM) (G : MG) : ev 265 604 [a0, a1, a2, a3] (vI y :: vI x :: st) μ G = ev 265 605 [a0, a1, a2, a3] (vI (w32 (x + y)) :: st) μ G := ev_stp pg_265_604 rfl
theorem pg_265_605 : mm_prog 265 605 = some (0, .iaload, 606, []) := by decide +kernel
theorem xe_265_605 (a0 a1 a2 a3 : Option MV) (x y : Int) (st : List MV) (μ : MM) (G : MG) : ev 265 605 [a0, a1, a2, a3] (vI x :: vR y :: st) μ G = if gk G y = 100 ∧ 0 ≤ x ∧ x < gl G y then ev 265 606 [a0, a1, a2, a3] (vI (μ y x) :: st) μ G else none := ev_if pg_265_605 rfl
theorem pg_265_606 : mm_prog 265 606 = some (0, .aload_n 0, 607, []) := by decide +kernel
theorem xe_265_606 (a1 a2 a3 : Option MV) (x : Int) (st : List MV) (μ : MM) (G : MG) : ev 265 606 [some (vR x), a1, a2, a3] st μ G = ev 265 607 [some (vR x), a1, a2, a3] (vR x :: st) μ G := ev_stp pg_265_606 rfl
theorem pg_265_607 : mm_prog 265 607 = some (0, .iload_n 3, 608, []) := by decide +kernel
theorem xe_265_607 (a0 a1 a2 : Option MV) (x : Int) (st : List MV) (μ : MM) (G : MG) : ev 265 607 [a0, a1, a2, some (vI x)] st μ G = ev 265 608 [a0, a1, a2, some (vI x)] (vI x :: st) μ G := ev_stp pg_265_607 rfl
theorem pg_265_608 : mm_prog 265 608 = some (0, .iconst 4, 609, []) := by decide +kernel
theorem xe_265_608 (a0 a1 a2 a3 : Option MV) (st : List MV) (μ : MM) (G : MG) : ev 265 608 [a0, a1, a2, a3] st μ G = ev 265 609 [a0, a1, a2, a3] (vI (4) :: st) μ G := ev_stp pg_265_608 rfl
theorem pg_265_609 : mm_prog 265 609 = some (0, .iadd, 610, []) := by decide +kernel
theorem xe_265_609 (a0 a1 a2 a3 : Option MV) (x y : Int) (st : List MV) (μ : MM) (G : MG) : ev 265 609 [a0, a1, a2, a3] (vI y :: vI x :: st) μ G = ev 265 610 [a0, a1, a2, a3] (vI (w32 (x + y)) :: st) μ G := ev_stp pg_265_609 rfl
theorem pg_265_610 : mm_prog 265 610 = some (0, .iaload, 611, []) := by decide +kernel
theorem xe_265_610 (a0 a1 a2 a3 : Option MV) (x y : Int) (st : List MV) (μ : MM) (G : MG) : ev 265 610 [a0, a1, a2, a3] (vI x :: vR y :: st) μ G = if gk G y = 100 ∧ 0 ≤ x ∧ x < gl G y then ev 265 611 [a0, a1, a2, a3] (vI (μ y x) :: st) μ G else none := ev_if pg_265_610 rfl
theorem pg_265_611 : mm_prog 265 611 = some (0, .aload_n 0, 612, []) := by decide +kernel
theorem xe_265_611 (a1 a2 a3 : Option MV) (x : Int) (st : List MV) (μ : MM) (G : MG) : ev 265 611 [some (vR x), a1, a2, a3] st μ G = ev 265 612 [some (vR x), a1, a2, a3] (vR x :: st) μ G := ev_stp pg_265_611 rfl
theorem pg_265_612 : mm_prog 265 612 = some (0, .iload_n 3, 613, []) := by decide +kernel
theorem xe_265_612 (a0 a1 a2 : Option MV) (x : Int) (st : List MV) (μ : MM) (G : MG) : ev 265 612 [a0, a1, a2, some (vI x)] st μ G = ev 265 613 [a0, a1, a2, some (vI x)] (vI x :: st) μ G := ev_stp pg_265_612 rfl
theorem pg_265_613 : mm_prog 265 613 = some (0, .iconst 5, 614, []) := by decide +kernel
theorem xe_265_613 (a0 a1 a2 a3 : Option MV) (st : List MV) (μ : MM) (G : MG) : ev 265 613 [a0, a1, a2, a3] st μ G = ev 265 614 [a0, a1, a2, a3] (vI (5) :: st) μ G := ev_stp pg_265_613 rfl
theorem pg_265_614 : mm_prog 265 614 = some (0, .iadd, 615, []) := by decide +kernel
theorem xe_265_614 (a0 a1 a2 a3 : Option MV) (x y : Int) (st : List MV) (μ : MM) (G : MG) : ev 265 614 [a0, a1, a2, a3] (vI y :: vI x :: st) μ G = ev 265 615 [a0, a1, a2, a3] (vI (w32 (x + y)) :: st) μ G := ev_stp pg_265_614 rfl
theorem pg_265_615 : mm_prog 265 615 = some (0, .iaload, 616, []) := by decide +kernel
theorem xe_265_615 (a0 a1 a2 a3 : Option MV) (x y : Int) (st : List MV) (μ : MM) (G : MG) : ev 265 615 [a0, a1, a2, a3] (vI x :: vR y :: st) μ G = if gk G y = 100 ∧ 0 ≤ x ∧ x < gl G y then ev 265 616 [a0, a1, a2, a3] (vI (μ y x) :: st) μ G else none := ev_if pg_265_615 rfl
theorem pg_265_616 : mm_prog 265 616 = some (1, .invokevirtual 65, 619, [1, 112, 5, 10]) := by decide +kernel
theorem xe_265_616 (a0 a1 a2 a3 : Option MV) (x0 x1 x2 x3 x4 z : Int) (μ : MM) (G : MG) : ev 265 616 [a0, a1, a2, a3] (vI x4 :: vI x3 :: vI x2 :: vI x1 :: vI x0 :: vR z :: []) μ G = if gk G z = 10 ∧ 0 < z then (ev 112 0 [some (vR z), some (vI x0), some (vI x1), some (vI x2), some (vI x3), some (vI x4)] [] μ G).bind (fun q => ev 265 619 [a0, a1, a2, a3] (q.1.toList ++ []) q.2.1 q.2.2) else none := ev_calV (as := [vR z, vI x0, vI x1, vI x2, vI x3, vI x4]) (r := []) mx_112 pg_265_616 rfl rfl (Nat.le_of_ble_eq_true rfl) (Nat.le_of_ble_eq_true rfl)
theorem pg_265_619 : mm_prog 265 619 = some (0, .aload_n 2, 620, []) := by decide +kernel
theorem xe_265_619 (a0 a1 a3 : Option MV) (x : Int) (st : List MV) (μ : MM) (G : MG) : ev 265 619 [a0, a1, some (vR x), a3] st μ G = ev 265 620 [a0, a1, some (vR x), a3] (vR x :: st) μ G := ev_stp pg_265_619 rfl
theorem pg_265_620 : mm_prog 265 620 = some (0, .aload_n 0, 621, []) := by decide +kernel
theorem xe_265_620 (a1 a2 a3 : Option MV) (x : Int) (st : List MV) (μ : MM) (G : MG) : ev 265 620 [some (vR x), a1, a2, a3] st μ G = ev 265 621 [some (vR x), a1, a2, a3] (vR x :: st) μ G := ev_stp pg_265_620 rfl
theorem pg_265_621 : mm_prog 265 621 = some (0, .iload_n 3, 622, []) := by decide +kernel
theorem xe_265_621 (a0 a1 a2 : Option MV) (x : Int) (st : List MV) (μ : MM) (G : MG) : ev 265 621 [a0, a1, a2, some (vI x)] st μ G = ev 265 622 [a0, a1, a2, some (vI x)] (vI x :: st) μ G := ev_stp pg_265_621 rfl
theorem pg_265_622 : mm_prog 265 622 = some (0, .iconst 1, 623, []) := by decide +kernel
theorem xe_265_622 (a0 a1 a2 a3 : Option MV) (st : List MV) (μ : MM) (G : MG) : ev 265 622 [a0, a1, a2, a3] st μ G = ev 265 623 [a0, a1, a2, a3] (vI (1) :: st) μ G := ev_stp pg_265_622 rfl
theorem pg_265_623 : mm_prog 265 623 = some (0, .iadd, 624, []) := by decide +kernel
theorem xe_265_623 (a0 a1 a2 a3 : Option MV) (x y : Int) (st : List MV) (μ : MM) (G : MG) : ev 265 623 [a0, a1, a2, a3] (vI y :: vI x :: st) μ G = ev 265 624 [a0, a1, a2, a3] (vI (w32 (x + y)) :: st) μ G := ev_stp pg_265_623 rfl
theorem pg_265_624 : mm_prog 265 624 = some (0, .iaload, 625, []) := by decide +kernel
theorem xe_265_624 (a0 a1 a2 a3 : Option MV) (x y : Int) (st : List MV) (μ : MM) (G : MG) : ev 265 624 [a0, a1, a2, a3] (vI x :: vR y :: st) μ G = if gk G y = 100 ∧ 0 ≤ x ∧ x < gl G y then ev 265 625 [a0, a1, a2, a3] (vI (μ y x) :: st) μ G else none := ev_if pg_265_624 rfl
theorem pg_265_625 : mm_prog 265 625 = some (0, .aload_n 0, 626, []) := by decide +kernel
theorem xe_265_625 (a1 a2 a3 : Option MV) (x : Int) (st : List MV) (μ : MM) (G : MG) : ev 265 625 [some (vR x), a1, a2, a3] st μ G = ev 265 626 [some (vR x), a1, a2, a3] (vR x :: st) μ G := ev_stp pg_265_625 rfl
theorem pg_265_626 : mm_prog 265 626 = some (0, .iload_n 3, 627, []) := by decide +kernel
theorem xe_265_626 (a0 a1 a2 : Option MV) (x : Int) (st : List MV) (μ : MM) (G : MG) : ev 265 626 [a0, a1, a2, some (vI x)] st μ G = ev 265 627 [a0, a1, a2, some (vI x)] (vI x :: st) μ G := ev_stp pg_265_626 rfl
theorem pg_265_627 : mm_prog 265 627 = some (0, .iconst 2, 628, []) := by decide +kernel
theorem xe_265_627 (a0 a1 a2 a3 : Option MV) (st : List MV) (μ : MM) (G : MG) : ev 265 627 [a0, a1, a2, a3] st μ G = ev 265 628 [a0, a1, a2, a3] (vI (2) :: st) μ G := ev_stp pg_265_627 rfl
theorem pg_265_628 : mm_prog 265 628 = some (0, .iadd, 629, []) := by decide +kernel
theorem xe_265_628 (a0 a1 a2 a3 : Option MV) (x y : Int) (st : List MV) (μ : MM) (G : MG) : ev 265 628 [a0, a1, a2, a3] (vI y :: vI x :: st) μ G = ev 265 629 [a0, a1, a2, a3] (vI (w32 (x + y)) :: st) μ G := ev_stp pg_265_628 rfl
theorem pg_265_629 : mm_prog 265 629 = some (0, .iaload, 630, []) := by decide +kernel
theorem xe_265_629 (a0 a1 a2 a3 : Option MV) (x y : Int) (st : List MV) (μ : MM) (G : MG) : ev 265 629 [a0, a1, a2, a3] (vI x :: vR y :: st) μ G = if gk G y = 100 ∧ 0 ≤ x ∧ x < gl G y then ev 265 630 [a0, a1, a2, a3] (vI (μ y x) :: st) μ G else none := ev_if pg_265_629 rfl
theorem pg_265_630 : mm_prog 265 630 = some (0, .aload_n 0, 631, []) := by decide +kernel
theorem xe_265_630 (a1 a2 a3 : Option MV) (x : Int) (st : List MV) (μ : MM) (G : MG) : ev 265 630 [some (vR x), a1, a2, a3] st μ G = ev 265 631 [some (vR x), a1, a2, a3] (vR x :: st) μ G := ev_stp pg_265_630 rfl
theorem pg_265_631 : mm_prog 265 631 = some (0, .iload_n 3, 632, []) := by decide +kernel
theorem xe_265_631 (a0 a1 a2 : Option MV) (x : Int) (st : List MV) (μ : MM) (G : MG) : ev 265 631 [a0, a1, a2, some (vI x)] st μ G = ev 265 632 [a0, a1, a2, some (vI x)] (vI x :: st) μ G := ev_stp pg_265_631 rfl
theorem pg_265_632 : mm_prog 265 632 = some (0, .iconst 3, 633, []) := by decide +kernel
theorem xe_265_632 (a0 a1 a2 a3 : Option MV) (st : List MV) (μ : MM) (G : MG) : ev 265 632 [a0, a1, a2, a3] st μ G = ev 265 633 [a0, a1, a2, a3] (vI (3) :: st) μ G := ev_stp pg_265_632 rfl
theorem pg_265_633 : mm_prog 265 633 = some (0, .iadd, 634, []) := by decide +kernel
theorem xe_265_633 (a0 a1 a2 a3 : Option MV) (x y : Int) (st : List MV) (μ : MM) (G : MG) : ev 265 633 [a0, a1, a2, a3] (vI y :: vI x :: st) μ G = ev 265 634 [a0, a1, a2, a3] (vI (w32 (x + y)) :: st) μ G := ev_stp pg_265_633 rfl
theorem pg_265_634 : mm_prog 265 634 = some (0, .iaload, 635, []) := by decide +kernel
theorem xe_265_634 (a0 a1 a2 a3 : Option MV) (x y : Int) (st : List MV) (μ : MM) (G : MG) : ev 265 634 [a0, a1, a2, a3] (vI x :: vR y :: st) μ G = if gk G y = 100 ∧ 0 ≤ x ∧ x < gl G y then ev 265 635 [a0, a1, a2, a3] (vI (μ y x) :: st) μ G else none := ev_if pg_265_634 rfl
theorem pg_265_635 : mm_prog 265 635 = some (0, .aload_n 0, 636, []) := by decide +kernel
theorem xe_265_635 (a1 a2 a3 : Option MV) (x : Int) (st : List MV) (μ : MM) (G : MG) : ev 265 635 [some (vR x), a1, a2, a3] st μ G = ev 265 636 [some (vR x), a1, a2, a3] (vR x :: st) μ G := ev_stp pg_265_635 rfl
theorem pg_265_636 : mm_prog 265 636 = some (0, .iload_n 3, 637, []) := by decide +kernel
theorem xe_265_636 (a0 a1 a2 : Option MV) (x : Int) (st : List MV) (μ : MM) (G : MG) : ev 265 636 [a0, a1, a2, some (vI x)] st μ G = ev 265 637 [a0, a1, a2, some (vI x)] (vI x :: st) μ G := ev_stp pg_265_636 rfl
theorem pg_265_637 : mm_prog 265 637 = some (0, .iconst 4, 638, []) := by decide +kernel
theorem xe_265_637 (a0 a1 a2 a3 : Option MV) (st : List MV) (μ : MM) (G : MG) : ev 265 637 [a0, a1, a2, a3] st μ G = ev 265 638 [a0, a1, a2, a3] (vI (4) :: st) μ G := ev_stp pg_265_637 rfl
theorem pg_265_638 : mm_prog 265 638 = some (0, .iadd, 639, []) := by decide +kernel
theorem xe_265_638 (a0 a1 a2 a3 : Option MV) (x y : Int) (st : List MV) (μ : MM) (G : MG) : ev 265 638 [a0, a1, a2, a3] (vI y :: vI x :: st) μ G = ev 265 639 [a0, a1, a2, a3] (vI (w32 (x + y)) :: st) μ G := ev_stp pg_265_638 rfl
theorem pg_265_639 : mm_prog 265 639 = some (0, .iaload, 640, []) := by decide +kernel
theorem xe_265_639 (a0 a1 a2 a3 : Option MV) (x y : Int) (st : List MV) (μ : MM) (G : MG) : ev 265 639 [a0, a1, a2, a3] (vI x :: vR y :: st) μ G = if gk G y = 100 ∧ 0 ≤ x ∧ x < gl G y then ev 265 640 [a0, a1, a2, a3] (vI (μ y x) :: st) μ G else none := ev_if pg_265_639 rfl
theorem pg_265_640 : mm_prog 265 640 = some (0, .aload_n 0, 641, []) := by decide +kernel
theorem xe_265_640 (a1 a2 a3 : Option MV) (x : Int) (st : List MV) (μ : MM) (G : MG) : ev 265 640 [some (vR x), a1, a2, a3] st μ G = ev 265 641 [some (vR x), a1, a2, a3] (vR x :: st) μ G := ev_stp pg_265_640 rfl
theorem pg_265_641 : mm_prog 265 641 = some (0, .iload_n 3, 642, []) := by decide +kernel
theorem xe_265_641 (a0 a1 a2 : Option MV) (x : Int) (st : List MV) (μ : MM) (G : MG) : ev 265 641 [a0, a1, a2, some (vI x)] st μ G = ev 265 642 [a0, a1, a2, some (vI x)] (vI x :: st) μ G := ev_stp pg_265_641 rfl
theorem pg_265_642 : mm_prog 265 642 = some (0, .iconst 5, 643, []) := by decide +kernel
theorem xe_265_642 (a0 a1 a2 a3 : Option MV) (st : List MV) (μ : MM) (G : MG) : ev 265 642 [a0, a1, a2, a3] st μ G = ev 265 643 [a0, a1, a2, a3] (vI (5) :: st) μ G := ev_stp pg_265_642 rfl
theorem pg_265_643 : mm_prog 265 643 = some (0, .iadd, 644, []) := by decide +kernel
theorem xe_265_643 (a0 a1 a2 a3 : Option MV) (x y : Int) (st : List MV) (μ : MM) (G : MG) : ev 265 643 [a0, a1, a2, a3] (vI y :: vI x :: st) μ G = ev 265 644 [a0, a1, a2, a3] (vI (w32 (x + y)) :: st) μ G := ev_stp pg_265_643 rfl
theorem pg_265_644 : mm_prog 265 644 = some (0, .iaload, 645, []) := by decide +kernel
theorem xe_265_644 (a0 a1 a2 a3 : Option MV) (x y : Int) (st : List MV) (μ : MM) (G : MG) : ev 265 644 [a0, a1, a2, a3] (vI x :: vR y :: st) μ G = if gk G y = 100 ∧ 0 ≤ x ∧ x < gl G y then ev 265 645 [a0, a1, a2, a3] (vI (μ y x) :: st) μ G else none := ev_if pg_265_644 rfl
theorem pg_265_645 : mm_prog 265 645 = some (1, .invokevirtual 68, 648, [1, 199, 5, 11]) := by decide +kernel
theorem xe_265_645 (a0 a1 a2 a3 : Option MV) (x0 x1 x2 x3 x4 z r0 : Int) (μ : MM) (G : MG) : ev 265 645 [a0, a1, a2, a3] (vI x4 :: vI x3 :: vI x2 :: vI x1 :: vI x0 :: vR z :: [vI r0]) μ G = if gk G z = 11 ∧ 0 < z then (ev 199 0 [some (vR z), some (vI x0), some (vI x1), some (vI x2), some (vI x3), some (vI x4)] [] μ G).bind (fun q => ev 265 648 [a0, a1, a2, a3] (q.1.toList ++ [vI r0]) q.2.1 q.2.2) else none := ev_calV (as := [vR z, vI x0, vI x1, vI x2, vI x3, vI x4]) (r := [vI r0]) mx_199 pg_265_645 rfl rfl (Nat.le_of_ble_eq_true rfl) (Nat.le_of_ble_eq_true rfl)
theorem pg_265_648 : mm_prog 265 648 = some (0, .if_icmp .eq 630, 651, []) := by decide +kernel
theorem xe_265_648 (a0 a1 a2 a3 : Option MV) (x y : Int) (st : List MV) (μ : MM) (G : MG) : ev 265 648 [a0, a1, a2, a3] (vI y :: vI x :: st) μ G = if x = y then ev 265 1278 [a0, a1, a2, a3] st μ G else ev 265 651 [a0, a1, a2, a3] st μ G := ev_br (mm_cnd_eq x y) pg_265_648 rfl
theorem pg_265_651 : mm_prog 265 651 = some (0, .iconst 0, 652, []) := by decide +kernel
theorem xe_265_651 (a0 a1 a2 a3 : Option MV) (st : List MV) (μ : MM) (G : MG) : ev 265 651 [a0, a1, a2, a3] st μ G = ev 265 652 [a0, a1, a2, a3] (vI (0) :: st) μ G := ev_stp pg_265_651 rfl
theorem pg_265_652 : mm_prog 265 652 = some (2, .ireturn, 653, [1]) := by decide +kernel
theorem xe_265_652 (a0 a1 a2 a3 : Option MV) (x : Int) (μ : MM) (G : MG) : ev 265 652 [a0, a1, a2, a3] [vI x] μ G = if x = 0 ∨ x = 1 then some (some (vI x), μ, G) else none := ev_retB pg_265_652
theorem pg_265_653 : mm_prog 265 653 = some (0, .aload_n 1, 654, []) := by decide +kernel
theorem xe_265_653 (a0 a2 a3 : Option MV) (x : Int) (st : List MV) (μ : MM) (G : MG) : ev 265 653 [a0, some (vR x), a2, a3] st μ G = ev 265 654 [a0, some (vR x), a2, a3] (vR x :: st) μ G := ev_stp pg_265_653 rfl
theorem pg_265_654 : mm_prog 265 654 = some (0, .aload_n 0, 655, []) := by decide +kernel
theorem xe_265_654 (a1 a2 a3 : Option MV) (x : Int) (st : List MV) (μ : MM) (G : MG) : ev 265 654 [some (vR x), a1, a2, a3] st μ G = ev 265 655 [some (vR x), a1, a2, a3] (vR x :: st) μ G := ev_stp pg_265_654 rfl
theorem pg_265_655 : mm_prog 265 655 = some (0, .iload_n 3, 656, []) := by decide +kernel
theorem xe_265_655 (a0 a1 a2 : Option MV) (x : Int) (st : List MV) (μ : MM) (G : MG) : ev 265 655 [a0, a1, a2, some (vI x)] st μ G = ev 265 656 [a0, a1, a2, some (vI x)] (vI x :: st) μ G := ev_stp pg_265_655 rfl
theorem pg_265_656 : mm_prog 265 656 = some (0, .iconst 1, 657, []) := by decide +kernel
theorem xe_265_656 (a0 a1 a2 a3 : Option MV) (st : List MV) (μ : MM) (G : MG) : ev 265 656 [a0, a1, a2, a3] st μ G = ev 265 657 [a0, a1, a2, a3] (vI (1) :: st) μ G := ev_stp pg_265_656 rfl
theorem pg_265_657 : mm_prog 265 657 = some (0, .iadd, 658, []) := by decide +kernel
theorem xe_265_657 (a0 a1 a2 a3 : Option MV) (x y : Int) (st : List MV) (μ : MM) (G : MG) : ev 265 657 [a0, a1, a2, a3] (vI y :: vI x :: st) μ G = ev 265 658 [a0, a1, a2, a3] (vI (w32 (x + y)) :: st) μ G := ev_stp pg_265_657 rfl
theorem pg_265_658 : mm_prog 265 658 = some (0, .iaload, 659, []) := by decide +kernel
theorem xe_265_658 (a0 a1 a2 a3 : Option MV) (x y : Int) (st : List MV) (μ : MM) (G : MG) : ev 265 658 [a0, a1, a2, a3] (vI x :: vR y :: st) μ G = if gk G y = 100 ∧ 0 ≤ x ∧ x < gl G y then ev 265 659 [a0, a1, a2, a3] (vI (μ y x) :: st) μ G else none := ev_if pg_265_658 rfl
theorem pg_265_659 : mm_prog 265 659 = some (0, .aload_n 0, 660, []) := by decide +kernel
theorem xe_265_659 (a1 a2 a3 : Option MV) (x : Int) (st : List MV) (μ : MM) (G : MG) : ev 265 659 [some (vR x), a1, a2, a3] st μ G = ev 265 660 [some (vR x), a1, a2, a3] (vR x :: st) μ G := ev_stp pg_265_659 rfl
theorem pg_265_660 : mm_prog 265 660 = some (0, .iload_n 3, 661, []) := by decide +kernel
theorem xe_265_660 (a0 a1 a2 : Option MV) (x : Int) (st : List MV) (μ : MM) (G : MG) : ev 265 660 [a0, a1, a2, some (vI x)] st μ G = ev 265 661 [a0, a1, a2, some (vI x)] (vI x :: st) μ G := ev_stp pg_265_660 rfl
theorem pg_265_661 : mm_prog 265 661 = some (0, .iconst 2, 662, []) := by decide +kernel
theorem xe_265_661 (a0 a1 a2 a3 : Option MV) (st : List MV) (μ : MM) (G : MG) : ev 265 661 [a0, a1, a2, a3] st μ G = ev 265 662 [a0, a1, a2, a3] (vI (2) :: st) μ G := ev_stp pg_265_661 rfl
theorem pg_265_662 : mm_prog 265 662 = some (0, .iadd, 663, []) := by decide +kernel
theorem xe_265_662 (a0 a1 a2 a3 : Option MV) (x y : Int) (st : List MV) (μ : MM) (G : MG) : ev 265 662 [a0, a1, a2, a3] (vI y :: vI x :: st) μ G = ev 265 663 [a0, a1, a2, a3] (vI (w32 (x + y)) :: st) μ G := ev_stp pg_265_662 rfl
theorem pg_265_663 : mm_prog 265 663 = some (0, .iaload, 664, []) := by decide +kernel
theorem xe_265_663 (a0 a1 a2 a3 : Option MV) (x y : Int) (st : List MV) (μ : MM) (G : MG) : ev 265 663 [a0, a1, a2, a3] (vI x :: vR y :: st) μ G = if gk G y = 100 ∧ 0 ≤ x ∧ x < gl G y then ev 265 664 [a0, a1, a2, a3] (vI (μ y x) :: st) μ G else none := ev_if pg_265_663 rfl
theorem pg_265_664 : mm_prog 265 664 = some (0, .aload_n 0, 665, []) := by decide +kernel
theorem xe_265_664 (a1 a2 a3 : Option MV) (x : Int) (st : List MV) (μ : MM) (G : MG) : ev 265 664 [some (vR x), a1, a2, a3] st μ G = ev 265 665 [some (vR x), a1, a2, a3] (vR x :: st) μ G := ev_stp pg_265_664 rfl
theorem pg_265_665 : mm_prog 265 665 = some (0, .iload_n 3, 666, []) := by decide +kernel
theorem xe_265_665 (a0 a1 a2 : Option MV) (x : Int) (st : List MV) (μ : MM) (G : MG) : ev 265 665 [a0, a1, a2, some (vI x)] st μ G = ev 265 666 [a0, a1, a2, some (vI x)] (vI x :: st) μ G := ev_stp pg_265_665 rfl
theorem pg_265_666 : mm_prog 265 666 = some (0, .iconst 3, 667, []) := by decide +kernel
theorem xe_265_666 (a0 a1 a2 a3 : Option MV) (st : List MV) (μ : MM) (G : MG) : ev 265 666 [a0, a1, a2, a3] st μ G = ev 265 667 [a0, a1, a2, a3] (vI (3) :: st) μ G := ev_stp pg_265_666 rfl
theorem pg_265_667 : mm_prog 265 667 = some (0, .iadd, 668, []) := by decide +kernel
theorem xe_265_667 (a0 a1 a2 a3 : Option MV) (x y : Int) (st : List MV) (μ : MM) (G : MG) : ev 265 667 [a0, a1, a2, a3] (vI y :: vI x :: st) μ G = ev 265 668 [a0, a1, a2, a3] (vI (w32 (x + y)) :: st) μ G := ev_stp pg_265_667 rfl
theorem pg_265_668 : mm_prog 265 668 = some (0, .iaload, 669, []) := by decide +kernel
theorem xe_265_668 (a0 a1 a2 a3 : Option MV) (x y : Int) (st : List MV) (μ : MM) (G : MG) : ev 265 668 [a0, a1, a2, a3] (vI x :: vR y :: st) μ G = if gk G y = 100 ∧ 0 ≤ x ∧ x < gl G y then ev 265 669 [a0, a1, a2, a3] (vI (μ y x) :: st) μ G else none := ev_if pg_265_668 rfl
theorem pg_265_669 : mm_prog 265 669 = some (0, .aload_n 0, 670, []) := by decide +kernel
theorem xe_265_669 (a1 a2 a3 : Option MV) (x : Int) (st : List MV) (μ : MM) (G : MG) : ev 265 669 [some (vR x), a1, a2, a3] st μ G = ev 265 670 [some (vR x), a1, a2, a3] (vR x :: st) μ G := ev_stp pg_265_669 rfl
theorem pg_265_670 : mm_prog 265 670 = some (0, .iload_n 3, 671, []) := by decide +kernel
theorem xe_265_670 (a0 a1 a2 : Option MV) (x : Int) (st : List MV) (μ : MM) (G : MG) : ev 265 670 [a0, a1, a2, some (vI x)] st μ G = ev 265 671 [a0, a1, a2, some (vI x)] (vI x :: st) μ G := ev_stp pg_265_670 rfl
theorem pg_265_671 : mm_prog 265 671 = some (0, .iconst 4, 672, []) := by decide +kernel
theorem xe_265_671 (a0 a1 a2 a3 : Option MV) (st : List MV) (μ : MM) (G : MG) : ev 265 671 [a0, a1, a2, a3] st μ G = ev 265 672 [a0, a1, a2, a3] (vI (4) :: st) μ G := ev_stp pg_265_671 rfl
theorem pg_265_672 : mm_prog 265 672 = some (0, .iadd, 673, []) := by decide +kernel
theorem xe_265_672 (a0 a1 a2 a3 : Option MV) (x y : Int) (st : List MV) (μ : MM) (G : MG) : ev 265 672 [a0, a1, a2, a3] (vI y :: vI x :: st) μ G = ev 265 673 [a0, a1, a2, a3] (vI (w32 (x + y)) :: st) μ G := ev_stp pg_265_672 rfl
theorem pg_265_673 : mm_prog 265 673 = some (0, .iaload, 674, []) := by decide +kernel
theorem xe_265_673 (a0 a1 a2 a3 : Option MV) (x y : Int) (st : List MV) (μ : MM) (G : MG) : ev 265 673 [a0, a1, a2, a3] (vI x :: vR y :: st) μ G = if gk G y = 100 ∧ 0 ≤ x ∧ x < gl G y then ev 265 674 [a0, a1, a2, a3] (vI (μ y x) :: st) μ G else none := ev_if pg_265_673 rfl
theorem pg_265_674 : mm_prog 265 674 = some (0, .aload_n 0, 675, []) := by decide +kernel
theorem xe_265_674 (a1 a2 a3 : Option MV) (x : Int) (st : List MV) (μ : MM) (G : MG) : ev 265 674 [some (vR x), a1, a2, a3] st μ G = ev 265 675 [some (vR x), a1, a2, a3] (vR x :: st) μ G := ev_stp pg_265_674 rfl
theorem pg_265_675 : mm_prog 265 675 = some (0, .iload_n 3, 676, []) := by decide +kernel
theorem xe_265_675 (a0 a1 a2 : Option MV) (x : Int) (st : List MV) (μ : MM) (G : MG) : ev 265 675 [a0, a1, a2, some (vI x)] st μ G = ev 265 676 [a0, a1, a2, some (vI x)] (vI x :: st) μ G := ev_stp pg_265_675 rfl
theorem pg_265_676 : mm_prog 265 676 = some (0, .iconst 5, 677, []) := by decide +kernel
theorem xe_265_676 (a0 a1 a2 a3 : Option MV) (st : List MV) (μ : MM) (G : MG) : ev 265 676 [a0, a1, a2, a3] st μ G = ev 265 677 [a0, a1, a2, a3] (vI (5) :: st) μ G := ev_stp pg_265_676 rfl
theorem pg_265_677 : mm_prog 265 677 = some (0, .iadd, 678, []) := by decide +kernel
theorem xe_265_677 (a0 a1 a2 a3 : Option MV) (x y : Int) (st : List MV) (μ : MM) (G : MG) : ev 265 677 [a0, a1, a2, a3] (vI y :: vI x :: st) μ G = ev 265 678 [a0, a1, a2, a3] (vI (w32 (x + y)) :: st) μ G := ev_stp pg_265_677 rfl
theorem pg_265_678 : mm_prog 265 678 = some (0, .iaload, 679, []) := by decide +kernel
theorem xe_265_678 (a0 a1 a2 a3 : Option MV) (x y : Int) (st : List MV) (μ : MM) (G : MG) : ev 265 678 [a0, a1, a2, a3] (vI x :: vR y :: st) μ G = if gk G y = 100 ∧ 0 ≤ x ∧ x < gl G y then ev 265 679 [a0, a1, a2, a3] (vI (μ y x) :: st) μ G else none := ev_if pg_265_678 rfl
theorem pg_265_679 : mm_prog 265 679 = some (0, .aload_n 0, 680, []) := by decide +kernel
theorem xe_265_679 (a1 a2 a3 : Option MV) (x : Int) (st : List MV) (μ : MM) (G : MG) : ev 265 679 [some (vR x), a1, a2, a3] st μ G = ev 265 680 [some (vR x), a1, a2, a3] (vR x :: st) μ G := ev_stp pg_265_679 rfl
theorem pg_265_680 : mm_prog 265 680 = some (0, .iload_n 3, 681, []) := by decide +kernel
theorem xe_265_680 (a0 a1 a2 : Option MV) (x : Int) (st : List MV) (μ : MM) (G : MG) : ev 265 680 [a0, a1, a2, some (vI x)] st μ G = ev 265 681 [a0, a1, a2, some (vI x)] (vI x :: st) μ G := ev_stp pg_265_680 rfl
theorem pg_265_681 : mm_prog 265 681 = some (0, .bipush 6, 683, []) := by decide +kernel
theorem xe_265_681 (a0 a1 a2 a3 : Option MV) (st : List MV) (μ : MM) (G : MG) : ev 265 681 [a0, a1, a2, a3] st μ G = ev 265 683 [a0, a1, a2, a3] (vI (6) :: st) μ G := ev_stp pg_265_681 rfl
theorem pg_265_683 : mm_prog 265 683 = some (0, .iadd, 684, []) := by decide +kernel
theorem xe_265_683 (a0 a1 a2 a3 : Option MV) (x y : Int) (st : List MV) (μ : MM) (G : MG) : ev 265 683 [a0, a1, a2, a3] (vI y :: vI x :: st) μ G = ev 265 684 [a0, a1, a2, a3] (vI (w32 (x + y)) :: st) μ G := ev_stp pg_265_683 rfl
theorem pg_265_684 : mm_prog 265 684 = some (0, .iaload, 685, []) := by decide +kernel
theorem xe_265_684 (a0 a1 a2 a3 : Option MV) (x y : Int) (st : List MV) (μ : MM) (G : MG) : ev 265 684 [a0, a1, a2, a3] (vI x :: vR y :: st) μ G = if gk G y = 100 ∧ 0 ≤ x ∧ x < gl G y then ev 265 685 [a0, a1, a2, a3] (vI (μ y x) :: st) μ G else none := ev_if pg_265_684 rfl
theorem pg_265_685 : mm_prog 265 685 = some (1, .invokevirtual 69, 688, [1, 113, 6, 10]) := by decide +kernel
theorem xe_265_685 (a0 a1 a2 a3 : Option MV) (x0 x1 x2 x3 x4 x5 z : Int) (μ : MM) (G : MG) : ev 265 685 [a0, a1, a2, a3] (vI x5 :: vI x4 :: vI x3 :: vI x2 :: vI x1 :: vI x0 :: vR z :: []) μ G = if gk G z = 10 ∧ 0 < z then (ev 113 0 [some (vR z), some (vI x0), some (vI x1), some (vI x2), some (vI x3), some (vI x4), some (vI x5), none, none, none] [] μ G).bind (fun q => ev 265 688 [a0, a1, a2, a3] (q.1.toList ++ []) q.2.1 q.2.2) else none := ev_calV (as := [vR z, vI x0, vI x1, vI x2, vI x3, vI x4, vI x5]) (r := []) mx_113 pg_265_685 rfl rfl (Nat.le_of_ble_eq_true rfl) (Nat.le_of_ble_eq_true rfl)
theorem pg_265_688 : mm_prog 265 688 = some (0, .aload_n 2, 689, []) := by decide +kernel
theorem xe_265_688 (a0 a1 a3 : Option MV) (x : Int) (st : List MV) (μ : MM) (G : MG) : ev 265 688 [a0, a1, some (vR x), a3] st μ G = ev 265 689 [a0, a1, some (vR x), a3] (vR x :: st) μ G := ev_stp pg_265_688 rfl
theorem pg_265_689 : mm_prog 265 689 = some (0, .aload_n 0, 690, []) := by decide +kernel
theorem xe_265_689 (a1 a2 a3 : Option MV) (x : Int) (st : List MV) (μ : MM) (G : MG) : ev 265 689 [some (vR x), a1, a2, a3] st μ G = ev 265 690 [some (vR x), a1, a2, a3] (vR x :: st) μ G := ev_stp pg_265_689 rfl
theorem pg_265_690 : mm_prog 265 690 = some (0, .iload_n 3, 691, []) := by decide +kernel
theorem xe_265_690 (a0 a1 a2 : Option MV) (x : Int) (st : List MV) (μ : MM) (G : MG) : ev 265 690 [a0, a1, a2, some (vI x)] st μ G = ev 265 691 [a0, a1, a2, some (vI x)] (vI x :: st) μ G := ev_stp pg_265_690 rfl
theorem pg_265_691 : mm_prog 265 691 = some (0, .iconst 1, 692, []) := by decide +kernel
theorem xe_265_691 (a0 a1 a2 a3 : Option MV) (st : List MV) (μ : MM) (G : MG) : ev 265 691 [a0, a1, a2, a3] st μ G = ev 265 692 [a0, a1, a2, a3] (vI (1) :: st) μ G := ev_stp pg_265_691 rfl
theorem pg_265_692 : mm_prog 265 692 = some (0, .iadd, 693, []) := by decide +kernel
theorem xe_265_692 (a0 a1 a2 a3 : Option MV) (x y : Int) (st : List MV) (μ : MM) (G : MG) : ev 265 692 [a0, a1, a2, a3] (vI y :: vI x :: st) μ G = ev 265 693 [a0, a1, a2, a3] (vI (w32 (x + y)) :: st) μ G := ev_stp pg_265_692 rfl
theorem pg_265_693 : mm_prog 265 693 = some (0, .iaload, 694, []) := by decide +kernel
theorem xe_265_693 (a0 a1 a2 a3 : Option MV) (x y : Int) (st : List MV) (μ : MM) (G : MG) : ev 265 693 [a0, a1, a2, a3] (vI x :: vR y :: st) μ G = if gk G y = 100 ∧ 0 ≤ x ∧ x < gl G y then ev 265 694 [a0, a1, a2, a3] (vI (μ y x) :: st) μ G else none := ev_if pg_265_693 rfl
theorem pg_265_694 : mm_prog 265 694 = some (0, .aload_n 0, 695, []) := by decide +kernel
theorem xe_265_694 (a1 a2 a3 : Option MV) (x : Int) (st : List MV) (μ : MM) (G : MG) : ev 265 694 [some (vR x), a1, a2, a3] st μ G = ev 265 695 [some (vR x), a1, a2, a3] (vR x :: st) μ G := ev_stp pg_265_694 rfl
theorem pg_265_695 : mm_prog 265 695 = some (0, .iload_n 3, 696, []) := by decide +kernel
theorem xe_265_695 (a0 a1 a2 : Option MV) (x : Int) (st : List MV) (μ : MM) (G : MG) : ev 265 695 [a0, a1, a2, some (vI x)] st μ G = ev 265 696 [a0, a1, a2, some (vI x)] (vI x :: st) μ G := ev_stp pg_265_695 rfl
theorem pg_265_696 : mm_prog 265 696 = some (0, .iconst 2, 697, []) := by decide +kernel
theorem xe_265_696 (a0 a1 a2 a3 : Option MV) (st : List MV) (μ : MM) (G : MG) : ev 265 696 [a0, a1, a2, a3] st μ G = ev 265 697 [a0, a1, a2, a3] (vI (2) :: st) μ G := ev_stp pg_265_696 rfl
theorem pg_265_697 : mm_prog 265 697 = some (0, .iadd, 698, []) := by decide +kernel
theorem xe_265_697 (a0 a1 a2 a3 : Option MV) (x y : Int) (st : List MV) (μ : MM) (G : MG) : ev 265 697 [a0, a1, a2, a3] (vI y :: vI x :: st) μ G = ev 265 698 [a0, a1, a2, a3] (vI (w32 (x + y)) :: st) μ G := ev_stp pg_265_697 rfl
theorem pg_265_698 : mm_prog 265 698 = some (0, .iaload, 699, []) := by decide +kernel
theorem xe_265_698 (a0 a1 a2 a3 : Option MV) (x y : Int) (st : List MV) (μ : MM) (G : MG) : ev 265 698 [a0, a1, a2, a3] (vI x :: vR y :: st) μ G = if gk G y = 100 ∧ 0 ≤ x ∧ x < gl G y then ev 265 699 [a0, a1, a2, a3] (vI (μ y x) :: st) μ G else none := ev_if pg_265_698 rfl
theorem pg_265_699 : mm_prog 265 699 = some (0, .aload_n 0, 700, []) := by decide +kernel
theorem xe_265_699 (a1 a2 a3 : Option MV) (x : Int) (st : List MV) (μ : MM) (G : MG) : ev 265 699 [some (vR x), a1, a2, a3] st μ G = ev 265 700 [some (vR x), a1, a2, a3] (vR x :: st) μ G := ev_stp pg_265_699 rfl
theorem pg_265_700 : mm_prog 265 700 = some (0, .iload_n 3, 701, []) := by decide +kernel
theorem xe_265_700 (a0 a1 a2 : Option MV) (x : Int) (st : List MV) (μ : MM) (G : MG) : ev 265 700 [a0, a1, a2, some (vI x)] st μ G = ev 265 701 [a0, a1, a2, some (vI x)] (vI x :: st) μ G := ev_stp pg_265_700 rfl
theorem pg_265_701 : mm_prog 265 701 = some (0, .iconst 3, 702, []) := by decide +kernel
theorem xe_265_701 (a0 a1 a2 a3 : Option MV) (st : List MV) (μ : MM) (G : MG) : ev 265 701 [a0, a1, a2, a3] st μ G = ev 265 702 [a0, a1, a2, a3] (vI (3) :: st) μ G := ev_stp pg_265_701 rfl
theorem pg_265_702 : mm_prog 265 702 = some (0, .iadd, 703, []) := by decide +kernel
theorem xe_265_702 (a0 a1 a2 a3 : Option MV) (x y : Int) (st : List MV) (μ : MM) (G : MG) : ev 265 702 [a0, a1, a2, a3] (vI y :: vI x :: st) μ G = ev 265 703 [a0, a1, a2, a3] (vI (w32 (x + y)) :: st) μ G := ev_stp pg_265_702 rfl
theorem pg_265_703 : mm_prog 265 703 = some (0, .iaload, 704, []) := by decide +kernel
theorem xe_265_703 (a0 a1 a2 a3 : Option MV) (x y : Int) (st : List MV) (μ : MM) (G : MG) : ev 265 703 [a0, a1, a2, a3] (vI x :: vR y :: st) μ G = if gk G y = 100 ∧ 0 ≤ x ∧ x < gl G y then ev 265 704 [a0, a1, a2, a3] (vI (μ y x) :: st) μ G else none := ev_if pg_265_703 rfl
theorem pg_265_704 : mm_prog 265 704 = some (0, .aload_n 0, 705, []) := by decide +kernel
theorem xe_265_704 (a1 a2 a3 : Option MV) (x : Int) (st : List MV) (μ : MM) (G : MG) : ev 265 704 [some (vR x), a1, a2, a3] st μ G = ev 265 705 [some (vR x), a1, a2, a3] (vR x :: st) μ G := ev_stp pg_265_704 rfl
theorem pg_265_705 : mm_prog 265 705 = some (0, .iload_n 3, 706, []) := by decide +kernel
theorem xe_265_705 (a0 a1 a2 : Option MV) (x : Int) (st : List MV) (μ : MM) (G : MG) : ev 265 705 [a0, a1, a2, some (vI x)] st μ G = ev 265 706 [a0, a1, a2, some (vI x)] (vI x :: st) μ G := ev_stp pg_265_705 rfl
theorem pg_265_706 : mm_prog 265 706 = some (0, .iconst 4, 707, []) := by decide +kernel
theorem xe_265_706 (a0 a1 a2 a3 : Option MV) (st : List MV) (μ : MM) (G : MG) : ev 265 706 [a0, a1, a2, a3] st μ G = ev 265 707 [a0, a1, a2, a3] (vI (4) :: st) μ G := ev_stp pg_265_706 rfl
theorem pg_265_707 : mm_prog 265 707 = some (0, .iadd, 708, []) := by decide +kernel
theorem xe_265_707 (a0 a1 a2 a3 : Option MV) (x y : Int) (st : List MV) (μ : MM) (G : MG) : ev 265 707 [a0, a1, a2, a3] (vI y :: vI x :: st) μ G = ev 265 708 [a0, a1, a2, a3] (vI (w32 (x + y)) :: st) μ G := ev_stp pg_265_707 rfl
theorem pg_265_708 : mm_prog 265 708 = some (0, .iaload, 709, []) := by decide +kernel
theorem xe_265_708 (a0 a1 a2 a3 : Option MV) (x y : Int) (st : List MV) (μ : MM) (G : MG) : ev 265 708 [a0, a1, a2, a3] (vI x :: vR y :: st) μ G = if gk G y = 100 ∧ 0 ≤ x ∧ x < gl G y then ev 265 709 [a0, a1, a2, a3] (vI (μ y x) :: st) μ G else none := ev_if pg_265_708 rfl
theorem pg_265_709 : mm_prog 265 709 = some (0, .aload_n 0, 710, []) := by decide +kernel
theorem xe_265_709 (a1 a2 a3 : Option MV) (x : Int) (st : List MV) (μ : MM) (G : MG) : ev 265 709 [some (vR x), a1, a2, a3] st μ G = ev 265 710 [some (vR x), a1, a2, a3] (vR x :: st) μ G := ev_stp pg_265_709 rfl
theorem pg_265_710 : mm_prog 265 710 = some (0, .iload_n 3, 711, []) := by decide +kernel
theorem xe_265_710 (a0 a1 a2 : Option MV) (x : Int) (st : List MV) (μ : MM) (G : MG) : ev 265 710 [a0, a1, a2, some (vI x)] st μ G = ev 265 711 [a0, a1, a2, some (vI x)] (vI x :: st) μ G := ev_stp pg_265_710 rfl
theorem pg_265_711 : mm_prog 265 711 = some (0, .iconst 5, 712, []) := by decide +kernel
theorem xe_265_711 (a0 a1 a2 a3 : Option MV) (st : List MV) (μ : MM) (G : MG) : ev 265 711 [a0, a1, a2, a3] st μ G = ev 265 712 [a0, a1, a2, a3] (vI (5) :: st) μ G := ev_stp pg_265_711 rfl
theorem pg_265_712 : mm_prog 265 712 = some (0, .iadd, 713, []) := by decide +kernel
theorem xe_265_712 (a0 a1 a2 a3 : Option MV) (x y : Int) (st : List MV) (μ : MM) (G : MG) : ev 265 712 [a0, a1, a2, a3] (vI y :: vI x :: st) μ G = ev 265 713 [a0, a1, a2, a3] (vI (w32 (x + y)) :: st) μ G := ev_stp pg_265_712 rfl
theorem pg_265_713 : mm_prog 265 713 = some (0, .iaload, 714, []) := by decide +kernel
theorem xe_265_713 (a0 a1 a2 a3 : Option MV) (x y : Int) (st : List MV) (μ : MM) (G : MG) : ev 265 713 [a0, a1, a2, a3] (vI x :: vR y :: st) μ G = if gk G y = 100 ∧ 0 ≤ x ∧ x < gl G y then ev 265 714 [a0, a1, a2, a3] (vI (μ y x) :: st) μ G else none := ev_if pg_265_713 rfl
theorem pg_265_714 : mm_prog 265 714 = some (0, .aload_n 0, 715, []) := by decide +kernel
theorem xe_265_714 (a1 a2 a3 : Option MV) (x : Int) (st : List MV) (μ : MM) (G : MG) : ev 265 714 [some (vR x), a1, a2, a3] st μ G = ev 265 715 [some (vR x), a1, a2, a3] (vR x :: st) μ G := ev_stp pg_265_714 rfl
theorem pg_265_715 : mm_prog 265 715 = some (0, .iload_n 3, 716, []) := by decide +kernel
theorem xe_265_715 (a0 a1 a2 : Option MV) (x : Int) (st : List MV) (μ : MM) (G : MG) : ev 265 715 [a0, a1, a2, some (vI x)] st μ G = ev 265 716 [a0, a1, a2, some (vI x)] (vI x :: st) μ G := ev_stp pg_265_715 rfl
theorem pg_265_716 : mm_prog 265 716 = some (0, .bipush 6, 718, []) := by decide +kernel
theorem xe_265_716 (a0 a1 a2 a3 : Option MV) (st : List MV) (μ : MM) (G : MG) : ev 265 716 [a0, a1, a2, a3] st μ G = ev 265 718 [a0, a1, a2, a3] (vI (6) :: st) μ G := ev_stp pg_265_716 rfl
theorem pg_265_718 : mm_prog 265 718 = some (0, .iadd, 719, []) := by decide +kernel
theorem xe_265_718 (a0 a1 a2 a3 : Option MV) (x y : Int) (st : List MV) (μ : MM) (G : MG) : ev 265 718 [a0, a1, a2, a3] (vI y :: vI x :: st) μ G = ev 265 719 [a0, a1, a2, a3] (vI (w32 (x + y)) :: st) μ G := ev_stp pg_265_718 rfl
theorem pg_265_719 : mm_prog 265 719 = some (0, .iaload, 720, []) := by decide +kernel
theorem xe_265_719 (a0 a1 a2 a3 : Option MV) (x y : Int) (st : List MV) (μ : MM) (G : MG) : ev 265 719 [a0, a1, a2, a3] (vI x :: vR y :: st) μ G = if gk G y = 100 ∧ 0 ≤ x ∧ x < gl G y then ev 265 720 [a0, a1, a2, a3] (vI (μ y x) :: st) μ G else none := ev_if pg_265_719 rfl
theorem pg_265_720 : mm_prog 265 720 = some (1, .invokevirtual 73, 723, [1, 210, 6, 11]) := by decide +kernel
theorem xe_265_720 (a0 a1 a2 a3 : Option MV) (x0 x1 x2 x3 x4 x5 z r0 : Int) (μ : MM) (G : MG) : ev 265 720 [a0, a1, a2, a3] (vI x5 :: vI x4 :: vI x3 :: vI x2 :: vI x1 :: vI x0 :: vR z :: [vI r0]) μ G = if gk G z = 11 ∧ 0 < z then (ev 210 0 [some (vR z), some (vI x0), some (vI x1), some (vI x2), some (vI x3), some (vI x4), some (vI x5), none] [] μ G).bind (fun q => ev 265 723 [a0, a1, a2, a3] (q.1.toList ++ [vI r0]) q.2.1 q.2.2) else none := ev_calV (as := [vR z, vI x0, vI x1, vI x2, vI x3, vI x4, vI x5]) (r := [vI r0]) mx_210 pg_265_720 rfl rfl (Nat.le_of_ble_eq_true rfl) (Nat.le_of_ble_eq_true rfl)
theorem pg_265_723 : mm_prog 265 723 = some (0, .if_icmp .eq 555, 726, []) := by decide +kernel
theorem xe_265_723 (a0 a1 a2 a3 : Option MV) (x y : Int) (st : List MV) (μ : MM) (G : MG) : ev 265 723 [a0, a1, a2, a3] (vI y :: vI x :: st) μ G = if x = y then ev 265 1278 [a0, a1, a2, a3] st μ G else ev 265 726 [a0, a1, a2, a3] st μ G := ev_br (mm_cnd_eq x y) pg_265_723 rfl
theorem pg_265_726 : mm_prog 265 726 = some (0, .iconst 0, 727, []) := by decide +kernel
theorem xe_265_726 (a0 a1 a2 a3 : Option MV) (st : List MV) (μ : MM) (G : MG) : ev 265 726 [a0, a1, a2, a3] st μ G = ev 265 727 [a0, a1, a2, a3] (vI (0) :: st) μ G := ev_stp pg_265_726 rfl
theorem pg_265_727 : mm_prog 265 727 = some (2, .ireturn, 728, [1]) := by decide +kernel
theorem xe_265_727 (a0 a1 a2 a3 : Option MV) (x : Int) (μ : MM) (G : MG) : ev 265 727 [a0, a1, a2, a3] [vI x] μ G = if x = 0 ∨ x = 1 then some (some (vI x), μ, G) else none := ev_retB pg_265_727
theorem pg_265_728 : mm_prog 265 728 = some (0, .aload_n 1, 729, []) := by decide +kernel
theorem xe_265_728 (a0 a2 a3 : Option MV) (x : Int) (st : List MV) (μ : MM) (G : MG) : ev 265 728 [a0, some (vR x), a2, a3] st μ G = ev 265 729 [a0, some (vR x), a2, a3] (vR x :: st) μ G := ev_stp pg_265_728 rfl
theorem pg_265_729 : mm_prog 265 729 = some (0, .aload_n 0, 730, []) := by decide +kernel
theorem xe_265_729 (a1 a2 a3 : Option MV) (x : Int) (st : List MV) (μ : MM) (G : MG) : ev 265 729 [some (vR x), a1, a2, a3] st μ G = ev 265 730 [some (vR x), a1, a2, a3] (vR x :: st) μ G := ev_stp pg_265_729 rfl
theorem pg_265_730 : mm_prog 265 730 = some (0, .iload_n 3, 731, []) := by decide +kernel
theorem xe_265_730 (a0 a1 a2 : Option MV) (x : Int) (st : List MV) (μ : MM) (G : MG) : ev 265 730 [a0, a1, a2, some (vI x)] st μ G = ev 265 731 [a0, a1, a2, some (vI x)] (vI x :: st) μ G := ev_stp pg_265_730 rfl
theorem pg_265_731 : mm_prog 265 731 = some (0, .iconst 1, 732, []) := by decide +kernel
theorem xe_265_731 (a0 a1 a2 a3 : Option MV) (st : List MV) (μ : MM) (G : MG) : ev 265 731 [a0, a1, a2, a3] st μ G = ev 265 732 [a0, a1, a2, a3] (vI (1) :: st) μ G := ev_stp pg_265_731 rfl
theorem pg_265_732 : mm_prog 265 732 = some (0, .iadd, 733, []) := by decide +kernel
theorem xe_265_732 (a0 a1 a2 a3 : Option MV) (x y : Int) (st : List MV) (μ : MM) (G : MG) : ev 265 732 [a0, a1, a2, a3] (vI y :: vI x :: st) μ G = ev 265 733 [a0, a1, a2, a3] (vI (w32 (x + y)) :: st) μ G := ev_stp pg_265_732 rfl
theorem pg_265_733 : mm_prog 265 733 = some (0, .iaload, 734, []) := by decide +kernel
theorem xe_265_733 (a0 a1 a2 a3 : Option MV) (x y : Int) (st : List MV) (μ : MM) (G : MG) : ev 265 733 [a0, a1, a2, a3] (vI x :: vR y :: st) μ G = if gk G y = 100 ∧ 0 ≤ x ∧ x < gl G y then ev 265 734 [a0, a1, a2, a3] (vI (μ y x) :: st) μ G else none := ev_if pg_265_733 rfl
theorem pg_265_734 : mm_prog 265 734 = some (1, .invokevirtual 74, 737, [1, 117, 1, 10]) := by decide +kernel
theorem xe_265_734 (a0 a1 a2 a3 : Option MV) (x0 z : Int) (μ : MM) (G : MG) : ev 265 734 [a0, a1, a2, a3] (vI x0 :: vR z :: []) μ G = if gk G z = 10 ∧ 0 < z then (ev 117 0 [some (vR z), some (vI x0), none] [] μ G).bind (fun q => ev 265 737 [a0, a1, a2, a3] (q.1.toList ++ []) q.2.1 q.2.2) else none := ev_calV (as := [vR z, vI x0]) (r := []) mx_117 pg_265_734 rfl rfl (Nat.le_of_ble_eq_true rfl) (Nat.le_of_ble_eq_true rfl)
theorem pg_265_737 : mm_prog 265 737 = some (0, .aload_n 2, 738, []) := by decide +kernel
theorem xe_265_737 (a0 a1 a3 : Option MV) (x : Int) (st : List MV) (μ : MM) (G : MG) : ev 265 737 [a0, a1, some (vR x), a3] st μ G = ev 265 738 [a0, a1, some (vR x), a3] (vR x :: st) μ G := ev_stp pg_265_737 rfl
theorem pg_265_738 : mm_prog 265 738 = some (0, .aload_n 0, 739, []) := by decide +kernel
theorem xe_265_738 (a1 a2 a3 : Option MV) (x : Int) (st : List MV) (μ : MM) (G : MG) : ev 265 738 [some (vR x), a1, a2, a3] st μ G = ev 265 739 [some (vR x), a1, a2, a3] (vR x :: st) μ G := ev_stp pg_265_738 rfl
theorem pg_265_739 : mm_prog 265 739 = some (0, .iload_n 3, 740, []) := by decide +kernel
theorem xe_265_739 (a0 a1 a2 : Option MV) (x : Int) (st : List MV) (μ : MM) (G : MG) : ev 265 739 [a0, a1, a2, some (vI x)] st μ G = ev 265 740 [a0, a1, a2, some (vI x)] (vI x :: st) μ G := ev_stp pg_265_739 rfl
theorem pg_265_740 : mm_prog 265 740 = some (0, .iconst 1, 741, []) := by decide +kernel
theorem xe_265_740 (a0 a1 a2 a3 : Option MV) (st : List MV) (μ : MM) (G : MG) : ev 265 740 [a0, a1, a2, a3] st μ G = ev 265 741 [a0, a1, a2, a3] (vI (1) :: st) μ G := ev_stp pg_265_740 rfl
theorem pg_265_741 : mm_prog 265 741 = some (0, .iadd, 742, []) := by decide +kernel
theorem xe_265_741 (a0 a1 a2 a3 : Option MV) (x y : Int) (st : List MV) (μ : MM) (G : MG) : ev 265 741 [a0, a1, a2, a3] (vI y :: vI x :: st) μ G = ev 265 742 [a0, a1, a2, a3] (vI (w32 (x + y)) :: st) μ G := ev_stp pg_265_741 rfl
theorem pg_265_742 : mm_prog 265 742 = some (0, .iaload, 743, []) := by decide +kernel
theorem xe_265_742 (a0 a1 a2 a3 : Option MV) (x y : Int) (st : List MV) (μ : MM) (G : MG) : ev 265 742 [a0, a1, a2, a3] (vI x :: vR y :: st) μ G = if gk G y = 100 ∧ 0 ≤ x ∧ x < gl G y then ev 265 743 [a0, a1, a2, a3] (vI (μ y x) :: st) μ G else none := ev_if pg_265_742 rfl
theorem pg_265_743 : mm_prog 265 743 = some (1, .invokevirtual 77, 746, [1, 204, 1, 11]) := by decide +kernel
theorem xe_265_743 (a0 a1 a2 a3 : Option MV) (x0 z r0 : Int) (μ : MM) (G : MG) : ev 265 743 [a0, a1, a2, a3] (vI x0 :: vR z :: [vI r0]) μ G = if gk G z = 11 ∧ 0 < z then (ev 204 0 [some (vR z), some (vI x0), none] [] μ G).bind (fun q => ev 265 746 [a0, a1, a2, a3] (q.1.toList ++ [vI r0]) q.2.1 q.2.2) else none := ev_calV (as := [vR z, vI x0]) (r := [vI r0]) mx_204 pg_265_743 rfl rfl (Nat.le_of_ble_eq_true rfl) (Nat.le_of_ble_eq_true rfl)
theorem pg_265_746 : mm_prog 265 746 = some (0, .if_icmp .eq 532, 749, []) := by decide +kernel
theorem xe_265_746 (a0 a1 a2 a3 : Option MV) (x y : Int) (st : List MV) (μ : MM) (G : MG) : ev 265 746 [a0, a1, a2, a3] (vI y :: vI x :: st) μ G = if x = y then ev 265 1278 [a0, a1, a2, a3] st μ G else ev 265 749 [a0, a1, a2, a3] st μ G := ev_br (mm_cnd_eq x y) pg_265_746 rfl
theorem pg_265_749 : mm_prog 265 749 = some (0, .iconst 0, 750, []) := by decide +kernel
theorem xe_265_749 (a0 a1 a2 a3 : Option MV) (st : List MV) (μ : MM) (G : MG) : ev 265 749 [a0, a1, a2, a3] st μ G = ev 265 750 [a0, a1, a2, a3] (vI (0) :: st) μ G := ev_stp pg_265_749 rfl
theorem pg_265_750 : mm_prog 265 750 = some (2, .ireturn, 751, [1]) := by decide +kernel
theorem xe_265_750 (a0 a1 a2 a3 : Option MV) (x : Int) (μ : MM) (G : MG) : ev 265 750 [a0, a1, a2, a3] [vI x] μ G = if x = 0 ∨ x = 1 then some (some (vI x), μ, G) else none := ev_retB pg_265_750
theorem pg_265_751 : mm_prog 265 751 = some (0, .aload_n 1, 752, []) := by decide +kernel
theorem xe_265_751 (a0 a2 a3 : Option MV) (x : Int) (st : List MV) (μ : MM) (G : MG) : ev 265 751 [a0, some (vR x), a2, a3] st μ G = ev 265 752 [a0, some (vR x), a2, a3] (vR x :: st) μ G := ev_stp pg_265_751 rfl
theorem pg_265_752 : mm_prog 265 752 = some (0, .aload_n 0, 753, []) := by decide +kernel
theorem xe_265_752 (a1 a2 a3 : Option MV) (x : Int) (st : List MV) (μ : MM) (G : MG) : ev 265 752 [some (vR x), a1, a2, a3] st μ G = ev 265 753 [some (vR x), a1, a2, a3] (vR x :: st) μ G := ev_stp pg_265_752 rfl
theorem pg_265_753 : mm_prog 265 753 = some (0, .iload_n 3, 754, []) := by decide +kernel
theorem xe_265_753 (a0 a1 a2 : Option MV) (x : Int) (st : List MV) (μ : MM) (G : MG) : ev 265 753 [a0, a1, a2, some (vI x)] st μ G = ev 265 754 [a0, a1, a2, some (vI x)] (vI x :: st) μ G := ev_stp pg_265_753 rfl
theorem pg_265_754 : mm_prog 265 754 = some (0, .iconst 1, 755, []) := by decide +kernel
theorem xe_265_754 (a0 a1 a2 a3 : Option MV) (st : List MV) (μ : MM) (G : MG) : ev 265 754 [a0, a1, a2, a3] st μ G = ev 265 755 [a0, a1, a2, a3] (vI (1) :: st) μ G := ev_stp pg_265_754 rfl
theorem pg_265_755 : mm_prog 265 755 = some (0, .iadd, 756, []) := by decide +kernel
theorem xe_265_755 (a0 a1 a2 a3 : Option MV) (x y : Int) (st : List MV) (μ : MM) (G : MG) : ev 265 755 [a0, a1, a2, a3] (vI y :: vI x :: st) μ G = ev 265 756 [a0, a1, a2, a3] (vI (w32 (x + y)) :: st) μ G := ev_stp pg_265_755 rfl
theorem pg_265_756 : mm_prog 265 756 = some (0, .iaload, 757, []) := by decide +kernel
theorem xe_265_756 (a0 a1 a2 a3 : Option MV) (x y : Int) (st : List MV) (μ : MM) (G : MG) : ev 265 756 [a0, a1, a2, a3] (vI x :: vR y :: st) μ G = if gk G y = 100 ∧ 0 ≤ x ∧ x < gl G y then ev 265 757 [a0, a1, a2, a3] (vI (μ y x) :: st) μ G else none := ev_if pg_265_756 rfl
theorem pg_265_757 : mm_prog 265 757 = some (0, .aload_n 0, 758, []) := by decide +kernel
theorem xe_265_757 (a1 a2 a3 : Option MV) (x : Int) (st : List MV) (μ : MM) (G : MG) : ev 265 757 [some (vR x), a1, a2, a3] st μ G = ev 265 758 [some (vR x), a1, a2, a3] (vR x :: st) μ G := ev_stp pg_265_757 rfl
theorem pg_265_758 : mm_prog 265 758 = some (0, .iload_n 3, 759, []) := by decide +kernel
theorem xe_265_758 (a0 a1 a2 : Option MV) (x : Int) (st : List MV) (μ : MM) (G : MG) : ev 265 758 [a0, a1, a2, some (vI x)] st μ G = ev 265 759 [a0, a1, a2, some (vI x)] (vI x :: st) μ G := ev_stp pg_265_758 rfl
theorem pg_265_759 : mm_prog 265 759 = some (0, .iconst 2, 760, []) := by decide +kernel
theorem xe_265_759 (a0 a1 a2 a3 : Option MV) (st : List MV) (μ : MM) (G : MG) : ev 265 759 [a0, a1, a2, a3] st μ G = ev 265 760 [a0, a1, a2, a3] (vI (2) :: st) μ G := ev_stp pg_265_759 rfl
theorem pg_265_760 : mm_prog 265 760 = some (0, .iadd, 761, []) := by decide +kernel
theorem xe_265_760 (a0 a1 a2 a3 : Option MV) (x y : Int) (st : List MV) (μ : MM) (G : MG) : ev 265 760 [a0, a1, a2, a3] (vI y :: vI x :: st) μ G = ev 265 761 [a0, a1, a2, a3] (vI (w32 (x + y)) :: st) μ G := ev_stp pg_265_760 rfl
theorem pg_265_761 : mm_prog 265 761 = some (0, .iaload, 762, []) := by decide +kernel
theorem xe_265_761 (a0 a1 a2 a3 : Option MV) (x y : Int) (st : List MV) (μ : MM) (G : MG) : ev 265 761 [a0, a1, a2, a3] (vI x :: vR y :: st) μ G = if gk G y = 100 ∧ 0 ≤ x ∧ x < gl G y then ev 265 762 [a0, a1, a2, a3] (vI (μ y x) :: st) μ G else none := ev_if pg_265_761 rfl
theorem pg_265_762 : mm_prog 265 762 = some (1, .invokevirtual 78, 765, [1, 118, 2, 10]) := by decide +kernel
theorem xe_265_762 (a0 a1 a2 a3 : Option MV) (x0 x1 z : Int) (μ : MM) (G : MG) : ev 265 762 [a0, a1, a2, a3] (vI x1 :: vI x0 :: vR z :: []) μ G = if gk G z = 10 ∧ 0 < z then (ev 118 0 [some (vR z), some (vI x0), some (vI x1)] [] μ G).bind (fun q => ev 265 765 [a0, a1, a2, a3] (q.1.toList ++ []) q.2.1 q.2.2) else none := ev_calV (as := [vR z, vI x0, vI x1]) (r := []) mx_118 pg_265_762 rfl rfl (Nat.le_of_ble_eq_true rfl) (Nat.le_of_ble_eq_true rfl)
theorem pg_265_765 : mm_prog 265 765 = some (0, .aload_n 2, 766, []) := by decide +kernel
theorem xe_265_765 (a0 a1 a3 : Option MV) (x : Int) (st : List MV) (μ : MM) (G : MG) : ev 265 765 [a0, a1, some (vR x), a3] st μ G = ev 265 766 [a0, a1, some (vR x), a3] (vR x :: st) μ G := ev_stp pg_265_765 rfl
theorem pg_265_766 : mm_prog 265 766 = some (0, .aload_n 0, 767, []) := by decide +kernel
theorem xe_265_766 (a1 a2 a3 : Option MV) (x : Int) (st : List MV) (μ : MM) (G : MG) : ev 265 766 [some (vR x), a1, a2, a3] st μ G = ev 265 767 [some (vR x), a1, a2, a3] (vR x :: st) μ G := ev_stp pg_265_766 rfl
theorem pg_265_767 : mm_prog 265 767 = some (0, .iload_n 3, 768, []) := by decide +kernel
theorem xe_265_767 (a0 a1 a2 : Option MV) (x : Int) (st : List MV) (μ : MM) (G : MG) : ev 265 767 [a0, a1, a2, some (vI x)] st μ G = ev 265 768 [a0, a1, a2, some (vI x)] (vI x :: st) μ G := ev_stp pg_265_767 rfl
theorem pg_265_768 : mm_prog 265 768 = some (0, .iconst 1, 769, []) := by decide +kernel
theorem xe_265_768 (a0 a1 a2 a3 : Option MV) (st : List MV) (μ : MM) (G : MG) : ev 265 768 [a0, a1, a2, a3] st μ G = ev 265 769 [a0, a1, a2, a3] (vI (1) :: st) μ G := ev_stp pg_265_768 rfl
theorem pg_265_769 : mm_prog 265 769 = some (0, .iadd, 770, []) := by decide +kernel
theorem xe_265_769 (a0 a1 a2 a3 : Option MV) (x y : Int) (st : List MV) (μ : MM) (G : MG) : ev 265 769 [a0, a1, a2, a3] (vI y :: vI x :: st) μ G = ev 265 770 [a0, a1, a2, a3] (vI (w32 (x + y)) :: st) μ G := ev_stp pg_265_769 rfl
theorem pg_265_770 : mm_prog 265 770 = some (0, .iaload, 771, []) := by decide +kernel
theorem xe_265_770 (a0 a1 a2 a3 : Option MV) (x y : Int) (st : List MV) (μ : MM) (G : MG) : ev 265 770 [a0, a1, a2, a3] (vI x :: vR y :: st) μ G = if gk G y = 100 ∧ 0 ≤ x ∧ x < gl G y then ev 265 771 [a0, a1, a2, a3] (vI (μ y x) :: st) μ G else none := ev_if pg_265_770 rfl
theorem pg_265_771 : mm_prog 265 771 = some (0, .aload_n 0, 772, []) := by decide +kernel
theorem xe_265_771 (a1 a2 a3 : Option MV) (x : Int) (st : List MV) (μ : MM) (G : MG) : ev 265 771 [some (vR x), a1, a2, a3] st μ G = ev 265 772 [some (vR x), a1, a2, a3] (vR x :: st) μ G := ev_stp pg_265_771 rfl
theorem pg_265_772 : mm_prog 265 772 = some (0, .iload_n 3, 773, []) := by decide +kernel
theorem xe_265_772 (a0 a1 a2 : Option MV) (x : Int) (st : List MV) (μ : MM) (G : MG) : ev 265 772 [a0, a1, a2, some (vI x)] st μ G = ev 265 773 [a0, a1, a2, some (vI x)] (vI x :: st) μ G := ev_stp pg_265_772 rfl
theorem pg_265_773 : mm_prog 265 773 = some (0, .iconst 2, 774, []) := by decide +kernel
theorem xe_265_773 (a0 a1 a2 a3 : Option MV) (st : List MV) (μ : MM) (G : MG) : ev 265 773 [a0, a1, a2, a3] st μ G = ev 265 774 [a0, a1, a2, a3] (vI (2) :: st) μ G := ev_stp pg_265_773 rfl
theorem pg_265_774 : mm_prog 265 774 = some (0, .iadd, 775, []) := by decide +kernel
theorem xe_265_774 (a0 a1 a2 a3 : Option MV) (x y : Int) (st : List MV) (μ : MM) (G : MG) : ev 265 774 [a0, a1, a2, a3] (vI y :: vI x :: st) μ G = ev 265 775 [a0, a1, a2, a3] (vI (w32 (x + y)) :: st) μ G := ev_stp pg_265_774 rfl
theorem pg_265_775 : mm_prog 265 775 = some (0, .iaload, 776, []) := by decide +kernel
theorem xe_265_775 (a0 a1 a2 a3 : Option MV) (x y : Int) (st : List MV) (μ : MM) (G : MG) : ev 265 775 [a0, a1, a2, a3] (vI x :: vR y :: st) μ G = if gk G y = 100 ∧ 0 ≤ x ∧ x < gl G y then ev 265 776 [a0, a1, a2, a3] (vI (μ y x) :: st) μ G else none := ev_if pg_265_775 rfl
theorem pg_265_776 : mm_prog 265 776 = some (1, .invokevirtual 81, 779, [1, 205, 2, 11]) := by decide +kernel
theorem xe_265_776 (a0 a1 a2 a3 : Option MV) (x0 x1 z r0 : Int) (μ : MM) (G : MG) : ev 265 776 [a0, a1, a2, a3] (vI x1 :: vI x0 :: vR z :: [vI r0]) μ G = if gk G z = 11 ∧ 0 < z then (ev 205 0 [some (vR z), some (vI x0), some (vI x1)] [] μ G).bind (fun q => ev 265 779 [a0, a1, a2, a3] (q.1.toList ++ [vI r0]) q.2.1 q.2.2) else none := ev_calV (as := [vR z, vI x0, vI x1]) (r := [vI r0]) mx_205 pg_265_776 rfl rfl (Nat.le_of_ble_eq_true rfl) (Nat.le_of_ble_eq_true rfl)
theorem pg_265_779 : mm_prog 265 779 = some (0, .if_icmp .eq 499, 782, []) := by decide +kernel
theorem xe_265_779 (a0 a1 a2 a3 : Option MV) (x y : Int) (st : List MV) (μ : MM) (G : MG) : ev 265 779 [a0, a1, a2, a3] (vI y :: vI x :: st) μ G = if x = y then ev 265 1278 [a0, a1, a2, a3] st μ G else ev 265 782 [a0, a1, a2, a3] st μ G := ev_br (mm_cnd_eq x y) pg_265_779 rfl
theorem pg_265_782 : mm_prog 265 782 = some (0, .iconst 0, 783, []) := by decide +kernel
theorem xe_265_782 (a0 a1 a2 a3 : Option MV) (st : List MV) (μ : MM) (G : MG) : ev 265 782 [a0, a1, a2, a3] st μ G = ev 265 783 [a0, a1, a2, a3] (vI (0) :: st) μ G := ev_stp pg_265_782 rfl
theorem pg_265_783 : mm_prog 265 783 = some (2, .ireturn, 784, [1]) := by decide +kernel
theorem xe_265_783 (a0 a1 a2 a3 : Option MV) (x : Int) (μ : MM) (G : MG) : ev 265 783 [a0, a1, a2, a3] [vI x] μ G = if x = 0 ∨ x = 1 then some (some (vI x), μ, G) else none := ev_retB pg_265_783
theorem pg_265_784 : mm_prog 265 784 = some (0, .aload_n 1, 785, []) := by decide +kernel
theorem xe_265_784 (a0 a2 a3 : Option MV) (x : Int) (st : List MV) (μ : MM) (G : MG) : ev 265 784 [a0, some (vR x), a2, a3] st μ G = ev 265 785 [a0, some (vR x), a2, a3] (vR x :: st) μ G := ev_stp pg_265_784 rfl
theorem pg_265_785 : mm_prog 265 785 = some (0, .aload_n 0, 786, []) := by decide +kernel
theorem xe_265_785 (a1 a2 a3 : Option MV) (x : Int) (st : List MV) (μ : MM) (G : MG) : ev 265 785 [some (vR x), a1, a2, a3] st μ G = ev 265 786 [some (vR x), a1, a2, a3] (vR x :: st) μ G := ev_stp pg_265_785 rfl
theorem pg_265_786 : mm_prog 265 786 = some (0, .iload_n 3, 787, []) := by decide +kernel
theorem xe_265_786 (a0 a1 a2 : Option MV) (x : Int) (st : List MV) (μ : MM) (G : MG) : ev 265 786 [a0, a1, a2, some (vI x)] st μ G = ev 265 787 [a0, a1, a2, some (vI x)] (vI x :: st) μ G := ev_stp pg_265_786 rfl
theorem pg_265_787 : mm_prog 265 787 = some (0, .iconst 1, 788, []) := by decide +kernel
theorem xe_265_787 (a0 a1 a2 a3 : Option MV) (st : List MV) (μ : MM) (G : MG) : ev 265 787 [a0, a1, a2, a3] st μ G = ev 265 788 [a0, a1, a2, a3] (vI (1) :: st) μ G := ev_stp pg_265_787 rfl
theorem pg_265_788 : mm_prog 265 788 = some (0, .iadd, 789, []) := by decide +kernel
theorem xe_265_788 (a0 a1 a2 a3 : Option MV) (x y : Int) (st : List MV) (μ : MM) (G : MG) : ev 265 788 [a0, a1, a2, a3] (vI y :: vI x :: st) μ G = ev 265 789 [a0, a1, a2, a3] (vI (w32 (x + y)) :: st) μ G := ev_stp pg_265_788 rfl
theorem pg_265_789 : mm_prog 265 789 = some (0, .iaload, 790, []) := by decide +kernel
theorem xe_265_789 (a0 a1 a2 a3 : Option MV) (x y : Int) (st : List MV) (μ : MM) (G : MG) : ev 265 789 [a0, a1, a2, a3] (vI x :: vR y :: st) μ G = if gk G y = 100 ∧ 0 ≤ x ∧ x < gl G y then ev 265 790 [a0, a1, a2, a3] (vI (μ y x) :: st) μ G else none := ev_if pg_265_789 rfl
theorem pg_265_790 : mm_prog 265 790 = some (0, .aload_n 0, 791, []) := by decide +kernel
theorem xe_265_790 (a1 a2 a3 : Option MV) (x : Int) (st : List MV) (μ : MM) (G : MG) : ev 265 790 [some (vR x), a1, a2, a3] st μ G = ev 265 791 [some (vR x), a1, a2, a3] (vR x :: st) μ G := ev_stp pg_265_790 rfl
theorem pg_265_791 : mm_prog 265 791 = some (0, .iload_n 3, 792, []) := by decide +kernel
theorem xe_265_791 (a0 a1 a2 : Option MV) (x : Int) (st : List MV) (μ : MM) (G : MG) : ev 265 791 [a0, a1, a2, some (vI x)] st μ G = ev 265 792 [a0, a1, a2, some (vI x)] (vI x :: st) μ G := ev_stp pg_265_791 rfl
theorem pg_265_792 : mm_prog 265 792 = some (0, .iconst 2, 793, []) := by decide +kernel
theorem xe_265_792 (a0 a1 a2 a3 : Option MV) (st : List MV) (μ : MM) (G : MG) : ev 265 792 [a0, a1, a2, a3] st μ G = ev 265 793 [a0, a1, a2, a3] (vI (2) :: st) μ G := ev_stp pg_265_792 rfl
theorem pg_265_793 : mm_prog 265 793 = some (0, .iadd, 794, []) := by decide +kernel
theorem xe_265_793 (a0 a1 a2 a3 : Option MV) (x y : Int) (st : List MV) (μ : MM) (G : MG) : ev 265 793 [a0, a1, a2, a3] (vI y :: vI x :: st) μ G = ev 265 794 [a0, a1, a2, a3] (vI (w32 (x + y)) :: st) μ G := ev_stp pg_265_793 rfl
theorem pg_265_794 : mm_prog 265 794 = some (0, .iaload, 795, []) := by decide +kernel
theorem xe_265_794 (a0 a1 a2 a3 : Option MV) (x y : Int) (st : List MV) (μ : MM) (G : MG) : ev 265 794 [a0, a1, a2, a3] (vI x :: vR y :: st) μ G = if gk G y = 100 ∧ 0 ≤ x ∧ x < gl G y then ev 265 795 [a0, a1, a2, a3] (vI (μ y x) :: st) μ G else none := ev_if pg_265_794 rfl
theorem pg_265_795 : mm_prog 265 795 = some (1, .invokevirtual 82, 798, [1, 119, 2, 10]) := by decide +kernel
theorem xe_265_795 (a0 a1 a2 a3 : Option MV) (x0 x1 z : Int) (μ : MM) (G : MG) : ev 265 795 [a0, a1, a2, a3] (vI x1 :: vI x0 :: vR z :: []) μ G = if gk G z = 10 ∧ 0 < z then (ev 119 0 [some (vR z), some (vI x0), some (vI x1), none] [] μ G).bind (fun q => ev 265 798 [a0, a1, a2, a3] (q.1.toList ++ []) q.2.1 q.2.2) else none := ev_calV (as := [vR z, vI x0, vI x1]) (r := []) mx_119 pg_265_795 rfl rfl (Nat.le_of_ble_eq_true rfl) (Nat.le_of_ble_eq_true rfl)
theorem pg_265_798 : mm_prog 265 798 = some (0, .aload_n 2, 799, []) := by decide +kernel
theorem xe_265_798 (a0 a1 a3 : Option MV) (x : Int) (st : List MV) (μ : MM) (G : MG) : ev 265 798 [a0, a1, some (vR x), a3] st μ G = ev 265 799 [a0, a1, some (vR x), a3] (vR x :: st) μ G := ev_stp pg_265_798 rfl
theorem pg_265_799 : mm_prog 265 799 = some (0, .aload_n 0, 800, []) := by decide +kernel
theorem xe_265_799 (a1 a2 a3 : Option MV) (x : Int) (st : List MV) (μ : MM) (G : MG) : ev 265 799 [some (vR x), a1, a2, a3] st μ G = ev 265 800 [some (vR x), a1, a2, a3] (vR x :: st) μ G := ev_stp pg_265_799 rfl
theorem pg_265_800 : mm_prog 265 800 = some (0, .iload_n 3, 801, []) := by decide +kernel
theorem xe_265_800 (a0 a1 a2 : Option MV) (x : Int) (st : List MV) (μ : MM) (G : MG) : ev 265 800 [a0, a1, a2, some (vI x)] st μ G = ev 265 801 [a0, a1, a2, some (vI x)] (vI x :: st) μ G := ev_stp pg_265_800 rfl
theorem pg_265_801 : mm_prog 265 801 = some (0, .iconst 1, 802, []) := by decide +kernel
theorem xe_265_801 (a0 a1 a2 a3 : Option MV) (st : List MV) (μ : MM) (G : MG) : ev 265 801 [a0, a1, a2, a3] st μ G = ev 265 802 [a0, a1, a2, a3] (vI (1) :: st) μ G := ev_stp pg_265_801 rfl
theorem pg_265_802 : mm_prog 265 802 = some (0, .iadd, 803, []) := by decide +kernel
theorem xe_265_802 (a0 a1 a2 a3 : Option MV) (x y : Int) (st : List MV) (μ : MM) (G : MG) : ev 265 802 [a0, a1, a2, a3] (vI y :: vI x :: st) μ G = ev 265 803 [a0, a1, a2, a3] (vI (w32 (x + y)) :: st) μ G := ev_stp pg_265_802 rfl
theorem pg_265_803 : mm_prog 265 803 = some (0, .iaload, 804, []) := by decide +kernel
theorem xe_265_803 (a0 a1 a2 a3 : Option MV) (x y : Int) (st : List MV) (μ : MM) (G : MG) : ev 265 803 [a0, a1, a2, a3] (vI x :: vR y :: st) μ G = if gk G y = 100 ∧ 0 ≤ x ∧ x < gl G y then ev 265 804 [a0, a1, a2, a3] (vI (μ y x) :: st) μ G else none := ev_if pg_265_803 rfl
theorem pg_265_804 : mm_prog 265 804 = some (0, .aload_n 0, 805, []) := by decide +kernel
theorem xe_265_804 (a1 a2 a3 : Option MV) (x : Int) (st : List MV) (μ : MM) (G : MG) : ev 265 804 [some (vR x), a1, a2, a3] st μ G = ev 265 805 [some (vR x), a1, a2, a3] (vR x :: st) μ G := ev_stp pg_265_804 rfl
theorem pg_265_805 : mm_prog 265 805 = some (0, .iload_n 3, 806, []) := by decide +kernel
theorem xe_265_805 (a0 a1 a2 : Option MV) (x : Int) (st : List MV) (μ : MM) (G : MG) : ev 265 805 [a0, a1, a2, some (vI x)] st μ G = ev 265 806 [a0, a1, a2, some (vI x)] (vI x :: st) μ G := ev_stp pg_265_805 rfl
theorem pg_265_806 : mm_prog 265 806 = some (0, .iconst 2, 807, []) := by decide +kernel
theorem xe_265_806 (a0 a1 a2 a3 : Option MV) (st : List MV) (μ : MM) (G : MG) : ev 265 806 [a0, a1, a2, a3] st μ G = ev 265 807 [a0, a1, a2, a3] (vI (2) :: st) μ G := ev_stp pg_265_806 rfl
theorem pg_265_807 : mm_prog 265 807 = some (0, .iadd, 808, []) := by decide +kernel
theorem xe_265_807 (a0 a1 a2 a3 : Option MV) (x y : Int) (st : List MV) (μ : MM) (G : MG) : ev 265 807 [a0, a1, a2, a3] (vI y :: vI x :: st) μ G = ev 265 808 [a0, a1, a2, a3] (vI (w32 (x + y)) :: st) μ G := ev_stp pg_265_807 rfl
theorem pg_265_808 : mm_prog 265 808 = some (0, .iaload, 809, []) := by decide +kernel
theorem xe_265_808 (a0 a1 a2 a3 : Option MV) (x y : Int) (st : List MV) (μ : MM) (G : MG) : ev 265 808 [a0, a1, a2, a3] (vI x :: vR y :: st) μ G = if gk G y = 100 ∧ 0 ≤ x ∧ x < gl G y then ev 265 809 [a0, a1, a2, a3] (vI (μ y x) :: st) μ G else none := ev_if pg_265_808 rfl
theorem pg_265_809 : mm_prog 265 809 = some (1, .invokevirtual 85, 812, [1, 206, 2, 11]) := by decide +kernel
theorem xe_265_809 (a0 a1 a2 a3 : Option MV) (x0 x1 z r0 : Int) (μ : MM) (G : MG) : ev 265 809 [a0, a1, a2, a3] (vI x1 :: vI x0 :: vR z :: [vI r0]) μ G = if gk G z = 11 ∧ 0 < z then (ev 206 0 [some (vR z), some (vI x0), some (vI x1)] [] μ G).bind (fun q => ev 265 812 [a0, a1, a2, a3] (q.1.toList ++ [vI r0]) q.2.1 q.2.2) else none := ev_calV (as := [vR z, vI x0, vI x1]) (r := [vI r0]) mx_206 pg_265_809 rfl rfl (Nat.le_of_ble_eq_true rfl) (Nat.le_of_ble_eq_true rfl)
theorem pg_265_812 : mm_prog 265 812 = some (0, .if_icmp .eq 466, 815, []) := by decide +kernel
theorem xe_265_812 (a0 a1 a2 a3 : Option MV) (x y : Int) (st : List MV) (μ : MM) (G : MG) : ev 265 812 [a0, a1, a2, a3] (vI y :: vI x :: st) μ G = if x = y then ev 265 1278 [a0, a1, a2, a3] st μ G else ev 265 815 [a0, a1, a2, a3] st μ G := ev_br (mm_cnd_eq x y) pg_265_812 rfl
theorem pg_265_815 : mm_prog 265 815 = some (0, .iconst 0, 816, []) := by decide +kernel
theorem xe_265_815 (a0 a1 a2 a3 : Option MV) (st : List MV) (μ : MM) (G : MG) : ev 265 815 [a0, a1, a2, a3] st μ G = ev 265 816 [a0, a1, a2, a3] (vI (0) :: st) μ G := ev_stp pg_265_815 rfl
theorem pg_265_816 : mm_prog 265 816 = some (2, .ireturn, 817, [1]) := by decide +kernel
theorem xe_265_816 (a0 a1 a2 a3 : Option MV) (x : Int) (μ : MM) (G : MG) : ev 265 816 [a0, a1, a2, a3] [vI x] μ G = if x = 0 ∨ x = 1 then some (some (vI x), μ, G) else none := ev_retB pg_265_816
theorem pg_265_817 : mm_prog 265 817 = some (0, .aload_n 1, 818, []) := by decide +kernel
theorem xe_265_817 (a0 a2 a3 : Option MV) (x : Int) (st : List MV) (μ : MM) (G : MG) : ev 265 817 [a0, some (vR x), a2, a3] st μ G = ev 265 818 [a0, some (vR x), a2, a3] (vR x :: st) μ G := ev_stp pg_265_817 rfl
theorem pg_265_818 : mm_prog 265 818 = some (0, .aload_n 0, 819, []) := by decide +kernel
theorem xe_265_818 (a1 a2 a3 : Option MV) (x : Int) (st : List MV) (μ : MM) (G : MG) : ev 265 818 [some (vR x), a1, a2, a3] st μ G = ev 265 819 [some (vR x), a1, a2, a3] (vR x :: st) μ G := ev_stp pg_265_818 rfl
theorem pg_265_819 : mm_prog 265 819 = some (0, .iload_n 3, 820, []) := by decide +kernel
theorem xe_265_819 (a0 a1 a2 : Option MV) (x : Int) (st : List MV) (μ : MM) (G : MG) : ev 265 819 [a0, a1, a2, some (vI x)] st μ G = ev 265 820 [a0, a1, a2, some (vI x)] (vI x :: st) μ G := ev_stp pg_265_819 rfl
theorem pg_265_820 : mm_prog 265 820 = some (0, .iconst 1, 821, []) := by decide +kernel
theorem xe_265_820 (a0 a1 a2 a3 : Option MV) (st : List MV) (μ : MM) (G : MG) : ev 265 820 [a0, a1, a2, a3] st μ G = ev 265 821 [a0, a1, a2, a3] (vI (1) :: st) μ G := ev_stp pg_265_820 rfl
theorem pg_265_821 : mm_prog 265 821 = some (0, .iadd, 822, []) := by decide +kernel
theorem xe_265_821 (a0 a1 a2 a3 : Option MV) (x y : Int) (st : List MV) (μ : MM) (G : MG) : ev 265 821 [a0, a1, a2, a3] (vI y :: vI x :: st) μ G = ev 265 822 [a0, a1, a2, a3] (vI (w32 (x + y)) :: st) μ G := ev_stp pg_265_821 rfl
theorem pg_265_822 : mm_prog 265 822 = some (0, .iaload, 823, []) := by decide +kernel
theorem xe_265_822 (a0 a1 a2 a3 : Option MV) (x y : Int) (st : List MV) (μ : MM) (G : MG) : ev 265 822 [a0, a1, a2, a3] (vI x :: vR y :: st) μ G = if gk G y = 100 ∧ 0 ≤ x ∧ x < gl G y then ev 265 823 [a0, a1, a2, a3] (vI (μ y x) :: st) μ G else none := ev_if pg_265_822 rfl
theorem pg_265_823 : mm_prog 265 823 = some (0, .aload_n 0, 824, []) := by decide +kernel
theorem xe_265_823 (a1 a2 a3 : Option MV) (x : Int) (st : List MV) (μ : MM) (G : MG) : ev 265 823 [some (vR x), a1, a2, a3] st μ G = ev 265 824 [some (vR x), a1, a2, a3] (vR x :: st) μ G := ev_stp pg_265_823 rfl
theorem pg_265_824 : mm_prog 265 824 = some (0, .iload_n 3, 825, []) := by decide +kernel
theorem xe_265_824 (a0 a1 a2 : Option MV) (x : Int) (st : List MV) (μ : MM) (G : MG) : ev 265 824 [a0, a1, a2, some (vI x)] st μ G = ev 265 825 [a0, a1, a2, some (vI x)] (vI x :: st) μ G := ev_stp pg_265_824 rfl
theorem pg_265_825 : mm_prog 265 825 = some (0, .iconst 2, 826, []) := by decide +kernel
theorem xe_265_825 (a0 a1 a2 a3 : Option MV) (st : List MV) (μ : MM) (G : MG) : ev 265 825 [a0, a1, a2, a3] st μ G = ev 265 826 [a0, a1, a2, a3] (vI (2) :: st) μ G := ev_stp pg_265_825 rfl
theorem pg_265_826 : mm_prog 265 826 = some (0, .iadd, 827, []) := by decide +kernel
theorem xe_265_826 (a0 a1 a2 a3 : Option MV) (x y : Int) (st : List MV) (μ : MM) (G : MG) : ev 265 826 [a0, a1, a2, a3] (vI y :: vI x :: st) μ G = ev 265 827 [a0, a1, a2, a3] (vI (w32 (x + y)) :: st) μ G := ev_stp pg_265_826 rfl
theorem pg_265_827 : mm_prog 265 827 = some (0, .iaload, 828, []) := by decide +kernel
theorem xe_265_827 (a0 a1 a2 a3 : Option MV) (x y : Int) (st : List MV) (μ : MM) (G : MG) : ev 265 827 [a0, a1, a2, a3] (vI x :: vR y :: st) μ G = if gk G y = 100 ∧ 0 ≤ x ∧ x < gl G y then ev 265 828 [a0, a1, a2, a3] (vI (μ y x) :: st) μ G else none := ev_if pg_265_827 rfl
theorem pg_265_828 : mm_prog 265 828 = some (0, .aload_n 0, 829, []) := by decide +kernel
theorem xe_265_828 (a1 a2 a3 : Option MV) (x : Int) (st : List MV) (μ : MM) (G : MG) : ev 265 828 [some (vR x), a1, a2, a3] st μ G = ev 265 829 [some (vR x), a1, a2, a3] (vR x :: st) μ G := ev_stp pg_265_828 rfl
theorem pg_265_829 : mm_prog 265 829 = some (0, .iload_n 3, 830, []) := by decide +kernel
theorem xe_265_829 (a0 a1 a2 : Option MV) (x : Int) (st : List MV) (μ : MM) (G : MG) : ev 265 829 [a0, a1, a2, some (vI x)] st μ G = ev 265 830 [a0, a1, a2, some (vI x)] (vI x :: st) μ G := ev_stp pg_265_829 rfl
theorem pg_265_830 : mm_prog 265 830 = some (0, .iconst 3, 831, []) := by decide +kernel
theorem xe_265_830 (a0 a1 a2 a3 : Option MV) (st : List MV) (μ : MM) (G : MG) : ev 265 830 [a0, a1, a2, a3] st μ G = ev 265 831 [a0, a1, a2, a3] (vI (3) :: st) μ G := ev_stp pg_265_830 rfl
theorem pg_265_831 : mm_prog 265 831 = some (0, .iadd, 832, []) := by decide +kernel
theorem xe_265_831 (a0 a1 a2 a3 : Option MV) (x y : Int) (st : List MV) (μ : MM) (G : MG) : ev 265 831 [a0, a1, a2, a3] (vI y :: vI x :: st) μ G = ev 265 832 [a0, a1, a2, a3] (vI (w32 (x + y)) :: st) μ G := ev_stp pg_265_831 rfl
theorem pg_265_832 : mm_prog 265 832 = some (0, .iaload, 833, []) := by decide +kernel
theorem xe_265_832 (a0 a1 a2 a3 : Option MV) (x y : Int) (st : List MV) (μ : MM) (G : MG) : ev 265 832 [a0, a1, a2, a3] (vI x :: vR y :: st) μ G = if gk G y = 100 ∧ 0 ≤ x ∧ x < gl G y then ev 265 833 [a0, a1, a2, a3] (vI (μ y x) :: st) μ G else none := ev_if pg_265_832 rfl
theorem pg_265_833 : mm_prog 265 833 = some (1, .invokevirtual 86, 836, [1, 120, 3, 10]) := by decide +kernel
theorem xe_265_833 (a0 a1 a2 a3 : Option MV) (x0 x1 x2 z : Int) (μ : MM) (G : MG) : ev 265 833 [a0, a1, a2, a3] (vI x2 :: vI x1 :: vI x0 :: vR z :: []) μ G = if gk G z = 10 ∧ 0 < z then (ev 120 0 [some (vR z), some (vI x0), some (vI x1), some (vI x2)] [] μ G).bind (fun q => ev 265 836 [a0, a1, a2, a3] (q.1.toList ++ []) q.2.1 q.2.2) else none := ev_calV (as := [vR z, vI x0, vI x1, vI x2]) (r := []) mx_120 pg_265_833 rfl rfl (Nat.le_of_ble_eq_true rfl) (Nat.le_of_ble_eq_true rfl)
theorem pg_265_836 : mm_prog 265 836 = some (0, .aload_n 2, 837, []) := by decide +kernel
theorem xe_265_836 (a0 a1 a3 : Option MV) (x : Int) (st : List MV) (μ : MM) (G : MG) : ev 265 836 [a0, a1, some (vR x), a3] st μ G = ev 265 837 [a0, a1, some (vR x), a3] (vR x :: st) μ G := ev_stp pg_265_836 rfl
theorem pg_265_837 : mm_prog 265 837 = some (0, .aload_n 0, 838, []) := by decide +kernel
theorem xe_265_837 (a1 a2 a3 : Option MV) (x : Int) (st : List MV) (μ : MM) (G : MG) : ev 265 837 [some (vR x), a1, a2, a3] st μ G = ev 265 838 [some (vR x), a1, a2, a3] (vR x :: st) μ G := ev_stp pg_265_837 rfl
theorem pg_265_838 : mm_prog 265 838 = some (0, .iload_n 3, 839, []) := by decide +kernel
theorem xe_265_838 (a0 a1 a2 : Option MV) (x : Int) (st : List MV) (μ : MM) (G : MG) : ev 265 838 [a0, a1, a2, some (vI x)] st μ G = ev 265 839 [a0, a1, a2, some (vI x)] (vI x :: st) μ G := ev_stp pg_265_838 rfl
theorem pg_265_839 : mm_prog 265 839 = some (0, .iconst 1, 840, []) := by decide +kernel
theorem xe_265_839 (a0 a1 a2 a3 : Option MV) (st : List MV) (μ : MM) (G : MG) : ev 265 839 [a0, a1, a2, a3] st μ G = ev 265 840 [a0, a1, a2, a3] (vI (1) :: st) μ G := ev_stp pg_265_839 rfl
theorem pg_265_840 : mm_prog 265 840 = some (0, .iadd, 841, []) := by decide +kernel
theorem xe_265_840 (a0 a1 a2 a3 : Option MV) (x y : Int) (st : List MV) (μ : MM) (G : MG) : ev 265 840 [a0, a1, a2, a3] (vI y :: vI x :: st) μ G = ev 265 841 [a0, a1, a2, a3] (vI (w32 (x + y)) :: st) μ G := ev_stp pg_265_840 rfl
theorem pg_265_841 : mm_prog 265 841 = some (0, .iaload, 842, []) := by decide +kernel
theorem xe_265_841 (a0 a1 a2 a3 : Option MV) (x y : Int) (st : List MV) (μ : MM) (G : MG) : ev 265 841 [a0, a1, a2, a3] (vI x :: vR y :: st) μ G = if gk G y = 100 ∧ 0 ≤ x ∧ x < gl G y then ev 265 842 [a0, a1, a2, a3] (vI (μ y x) :: st) μ G else none := ev_if pg_265_841 rfl
theorem pg_265_842 : mm_prog 265 842 = some (0, .aload_n 0, 843, []) := by decide +kernel
theorem xe_265_842 (a1 a2 a3 : Option MV) (x : Int) (st : List MV) (μ : MM) (G : MG) : ev 265 842 [some (vR x), a1, a2, a3] st μ G = ev 265 843 [some (vR x), a1, a2, a3] (vR x :: st) μ G := ev_stp pg_265_842 rfl
theorem pg_265_843 : mm_prog 265 843 = some (0, .iload_n 3, 844, []) := by decide +kernel
theorem xe_265_843 (a0 a1 a2 : Option MV) (x : Int) (st : List MV) (μ : MM) (G : MG) : ev 265 843 [a0, a1, a2, some (vI x)] st μ G = ev 265 844 [a0, a1, a2, some (vI x)] (vI x :: st) μ G := ev_stp pg_265_843 rfl
theorem pg_265_844 : mm_prog 265 844 = some (0, .iconst 2, 845, []) := by decide +kernel
theorem xe_265_844 (a0 a1 a2 a3 : Option MV) (st : List MV) (μ : MM) (G : MG) : ev 265 844 [a0, a1, a2, a3] st μ G = ev 265 845 [a0, a1, a2, a3] (vI (2) :: st) μ G := ev_stp pg_265_844 rfl
theorem pg_265_845 : mm_prog 265 845 = some (0, .iadd, 846, []) := by decide +kernel
theorem xe_265_845 (a0 a1 a2 a3 : Option MV) (x y : Int) (st : List MV) (μ : MM) (G : MG) : ev 265 845 [a0, a1, a2, a3] (vI y :: vI x :: st) μ G = ev 265 846 [a0, a1, a2, a3] (vI (w32 (x + y)) :: st) μ G := ev_stp pg_265_845 rfl
theorem pg_265_846 : mm_prog 265 846 = some (0, .iaload, 847, []) := by decide +kernel
theorem xe_265_846 (a0 a1 a2 a3 : Option MV) (x y : Int) (st : List MV) (μ : MM) (G : MG) : ev 265 846 [a0, a1, a2, a3] (vI x :: vR y :: st) μ G = if gk G y = 100 ∧ 0 ≤ x ∧ x < gl G y then ev 265 847 [a0, a1, a2, a3] (vI (μ y x) :: st) μ G else none := ev_if pg_265_846 rfl
theorem pg_265_847 : mm_prog 265 847 = some (0, .aload_n 0, 848, []) := by decide +kernel
theorem xe_265_847 (a1 a2 a3 : Option MV) (x : Int) (st : List MV) (μ : MM) (G : MG) : ev 265 847 [some (vR x), a1, a2, a3] st μ G = ev 265 848 [some (vR x), a1, a2, a3] (vR x :: st) μ G := ev_stp pg_265_847 rfl
theorem pg_265_848 : mm_prog 265 848 = some (0, .iload_n 3, 849, []) := by decide +kernel
theorem xe_265_848 (a0 a1 a2 : Option MV) (x : Int) (st : List MV) (μ : MM) (G : MG) : ev 265 848 [a0, a1, a2, some (vI x)] st μ G = ev 265 849 [a0, a1, a2, some (vI x)] (vI x :: st) μ G := ev_stp pg_265_848 rfl
theorem pg_265_849 : mm_prog 265 849 = some (0, .iconst 3, 850, []) := by decide +kernel
theorem xe_265_849 (a0 a1 a2 a3 : Option MV) (st : List MV) (μ : MM) (G : MG) : ev 265 849 [a0, a1, a2, a3] st μ G = ev 265 850 [a0, a1, a2, a3] (vI (3) :: st) μ G := ev_stp pg_265_849 rfl
theorem pg_265_850 : mm_prog 265 850 = some (0, .iadd, 851, []) := by decide +kernel
theorem xe_265_850 (a0 a1 a2 a3 : Option MV) (x y : Int) (st : List MV) (μ : MM) (G : MG) : ev 265 850 [a0, a1, a2, a3] (vI y :: vI x :: st) μ G = ev 265 851 [a0, a1, a2, a3] (vI (w32 (x + y)) :: st) μ G := ev_stp pg_265_850 rfl
theorem pg_265_851 : mm_prog 265 851 = some (0, .iaload, 852, []) := by decide +kernel
theorem xe_265_851 (a0 a1 a2 a3 : Option MV) (x y : Int) (st : List MV) (μ : MM) (G : MG) : ev 265 851 [a0, a1, a2, a3] (vI x :: vR y :: st) μ G = if gk G y = 100 ∧ 0 ≤ x ∧ x < gl G y then ev 265 852 [a0, a1, a2, a3] (vI (μ y x) :: st) μ G else none := ev_if pg_265_851 rfl
theorem pg_265_852 : mm_prog 265 852 = some (1, .invokevirtual 89, 855, [1, 208, 3, 11]) := by decide +kernel
theorem xe_265_852 (a0 a1 a2 a3 : Option MV) (x0 x1 x2 z r0 : Int) (μ : MM) (G : MG) : ev 265 852 [a0, a1, a2, a3] (vI x2 :: vI x1 :: vI x0 :: vR z :: [vI r0]) μ G = if gk G z = 11 ∧ 0 < z then (ev 208 0 [some (vR z), some (vI x0), some (vI x1), some (vI x2)] [] μ G).bind (fun q => ev 265 855 [a0, a1, a2, a3] (q.1.toList ++ [vI r0]) q.2.1 q.2.2) else none := ev_calV (as := [vR z, vI x0, vI x1, vI x2]) (r := [vI r0]) mx_208 pg_265_852 rfl rfl (Nat.le_of_ble_eq_true rfl) (Nat.le_of_ble_eq_true rfl)
theorem pg_265_855 : mm_prog 265 855 = some (0, .if_icmp .eq 423, 858, []) := by decide +kernel
theorem xe_265_855 (a0 a1 a2 a3 : Option MV) (x y : Int) (st : List MV) (μ : MM) (G : MG) : ev 265 855 [a0, a1, a2, a3] (vI y :: vI x :: st) μ G = if x = y then ev 265 1278 [a0, a1, a2, a3] st μ G else ev 265 858 [a0, a1, a2, a3] st μ G := ev_br (mm_cnd_eq x y) pg_265_855 rfl
theorem pg_265_858 : mm_prog 265 858 = some (0, .iconst 0, 859, []) := by decide +kernel
theorem xe_265_858 (a0 a1 a2 a3 : Option MV) (st : List MV) (μ : MM) (G : MG) : ev 265 858 [a0, a1, a2, a3] st μ G = ev 265 859 [a0, a1, a2, a3] (vI (0) :: st) μ G := ev_stp pg_265_858 rfl
theorem pg_265_859 : mm_prog 265 859 = some (2, .ireturn, 860, [1]) := by decide +kernel
theorem xe_265_859 (a0 a1 a2 a3 : Option MV) (x : Int) (μ : MM) (G : MG) : ev 265 859 [a0, a1, a2, a3] [vI x] μ G = if x = 0 ∨ x = 1 then some (some (vI x), μ, G) else none := ev_retB pg_265_859
theorem pg_265_860 : mm_prog 265 860 = some (0, .aload_n 1, 861, []) := by decide +kernel
theorem xe_265_860 (a0 a2 a3 : Option MV) (x : Int) (st : List MV) (μ : MM) (G : MG) : ev 265 860 [a0, some (vR x), a2, a3] st μ G = ev 265 861 [a0, some (vR x), a2, a3] (vR x :: st) μ G := ev_stp pg_265_860 rfl
theorem pg_265_861 : mm_prog 265 861 = some (0, .aload_n 0, 862, []) := by decide +kernel
theorem xe_265_861 (a1 a2 a3 : Option MV) (x : Int) (st : List MV) (μ : MM) (G : MG) : ev 265 861 [some (vR x), a1, a2, a3] st μ G = ev 265 862 [some (vR x), a1, a2, a3] (vR x :: st) μ G := ev_stp pg_265_861 rfl
theorem pg_265_862 : mm_prog 265 862 = some (0, .iload_n 3, 863, []) := by decide +kernel
theorem xe_265_862 (a0 a1 a2 : Option MV) (x : Int) (st : List MV) (μ : MM) (G : MG) : ev 265 862 [a0, a1, a2, some (vI x)] st μ G = ev 265 863 [a0, a1, a2, some (vI x)] (vI x :: st) μ G := ev_stp pg_265_862 rfl
theorem pg_265_863 : mm_prog 265 863 = some (0, .iconst 1, 864, []) := by decide +kernel
theorem xe_265_863 (a0 a1 a2 a3 : Option MV) (st : List MV) (μ : MM) (G : MG) : ev 265 863 [a0, a1, a2, a3] st μ G = ev 265 864 [a0, a1, a2, a3] (vI (1) :: st) μ G := ev_stp pg_265_863 rfl
theorem pg_265_864 : mm_prog 265 864 = some (0, .iadd, 865, []) := by decide +kernel
theorem xe_265_864 (a0 a1 a2 a3 : Option MV) (x y : Int) (st : List MV) (μ : MM) (G : MG) : ev 265 864 [a0, a1, a2, a3] (vI y :: vI x :: st) μ G = ev 265 865 [a0, a1, a2, a3] (vI (w32 (x + y)) :: st) μ G := ev_stp pg_265_864 rfl
theorem pg_265_865 : mm_prog 265 865 = some (0, .iaload, 866, []) := by decide +kernel
theorem xe_265_865 (a0 a1 a2 a3 : Option MV) (x y : Int) (st : List MV) (μ : MM) (G : MG) : ev 265 865 [a0, a1, a2, a3] (vI x :: vR y :: st) μ G = if gk G y = 100 ∧ 0 ≤ x ∧ x < gl G y then ev 265 866 [a0, a1, a2, a3] (vI (μ y x) :: st) μ G else none := ev_if pg_265_865 rfl
theorem pg_265_866 : mm_prog 265 866 = some (0, .aload_n 0, 867, []) := by decide +kernel
theorem xe_265_866 (a1 a2 a3 : Option MV) (x : Int) (st : List MV) (μ : MM) (G : MG) : ev 265 866 [some (vR x), a1, a2, a3] st μ G = ev 265 867 [some (vR x), a1, a2, a3] (vR x :: st) μ G := ev_stp pg_265_866 rfl
theorem pg_265_867 : mm_prog 265 867 = some (0, .iload_n 3, 868, []) := by decide +kernel
theorem xe_265_867 (a0 a1 a2 : Option MV) (x : Int) (st : List MV) (μ : MM) (G : MG) : ev 265 867 [a0, a1, a2, some (vI x)] st μ G = ev 265 868 [a0, a1, a2, some (vI x)] (vI x :: st) μ G := ev_stp pg_265_867 rfl
theorem pg_265_868 : mm_prog 265 868 = some (0, .iconst 2, 869, []) := by decide +kernel
theorem xe_265_868 (a0 a1 a2 a3 : Option MV) (st : List MV) (μ : MM) (G : MG) : ev 265 868 [a0, a1, a2, a3] st μ G = ev 265 869 [a0, a1, a2, a3] (vI (2) :: st) μ G := ev_stp pg_265_868 rfl
theorem pg_265_869 : mm_prog 265 869 = some (0, .iadd, 870, []) := by decide +kernel
theorem xe_265_869 (a0 a1 a2 a3 : Option MV) (x y : Int) (st : List MV) (μ : MM) (G : MG) : ev 265 869 [a0, a1, a2, a3] (vI y :: vI x :: st) μ G = ev 265 870 [a0, a1, a2, a3] (vI (w32 (x + y)) :: st) μ G := ev_stp pg_265_869 rfl
theorem pg_265_870 : mm_prog 265 870 = some (0, .iaload, 871, []) := by decide +kernel
theorem xe_265_870 (a0 a1 a2 a3 : Option MV) (x y : Int) (st : List MV) (μ : MM) (G : MG) : ev 265 870 [a0, a1, a2, a3] (vI x :: vR y :: st) μ G = if gk G y = 100 ∧ 0 ≤ x ∧ x < gl G y then ev 265 871 [a0, a1, a2, a3] (vI (μ y x) :: st) μ G else none := ev_if pg_265_870 rfl
theorem pg_265_871 : mm_prog 265 871 = some (1, .invokevirtual 90, 874, [1, 121, 2, 10]) := by decide +kernel
theorem xe_265_871 (a0 a1 a2 a3 : Option MV) (x0 x1 z : Int) (μ : MM) (G : MG) : ev 265 871 [a0, a1, a2, a3] (vI x1 :: vI x0 :: vR z :: []) μ G = if gk G z = 10 ∧ 0 < z then (ev 121 0 [some (vR z), some (vI x0), some (vI x1), none, none, none, none, none, none, none, none] [] μ G).bind (fun q => ev 265 874 [a0, a1, a2, a3] (q.1.toList ++ []) q.2.1 q.2.2) else none := ev_calV (as := [vR z, vI x0, vI x1]) (r := []) mx_121 pg_265_871 rfl rfl (Nat.le_of_ble_eq_true rfl) (Nat.le_of_ble_eq_true rfl)
theorem pg_265_874 : mm_prog 265 874 = some (0, .aload_n 2, 875, []) := by decide +kernel
theorem xe_265_874 (a0 a1 a3 : Option MV) (x : Int) (st : List MV) (μ : MM) (G : MG) : ev 265 874 [a0, a1, some (vR x), a3] st μ G = ev 265 875 [a0, a1, some (vR x), a3] (vR x :: st) μ G := ev_stp pg_265_874 rfl
theorem pg_265_875 : mm_prog 265 875 = some (0, .aload_n 0, 876, []) := by decide +kernel
theorem xe_265_875 (a1 a2 a3 : Option MV) (x : Int) (st : List MV) (μ : MM) (G : MG) : ev 265 875 [some (vR x), a1, a2, a3] st μ G = ev 265 876 [some (vR x), a1, a2, a3] (vR x :: st) μ G := ev_stp pg_265_875 rfl
theorem pg_265_876 : mm_prog 265 876 = some (0, .iload_n 3, 877, []) := by decide +kernel
theorem xe_265_876 (a0 a1 a2 : Option MV) (x : Int) (st : List MV) (μ : MM) (G : MG) : ev 265 876 [a0, a1, a2, some (vI x)] st μ G = ev 265 877 [a0, a1, a2, some (vI x)] (vI x :: st) μ G := ev_stp pg_265_876 rfl
theorem pg_265_877 : mm_prog 265 877 = some (0, .iconst 1, 878, []) := by decide +kernel
theorem xe_265_877 (a0 a1 a2 a3 : Option MV) (st : List MV) (μ : MM) (G : MG) : ev 265 877 [a0, a1, a2, a3] st μ G = ev 265 878 [a0, a1, a2, a3] (vI (1) :: st) μ G := ev_stp pg_265_877 rfl
theorem pg_265_878 : mm_prog 265 878 = some (0, .iadd, 879, []) := by decide +kernel
theorem xe_265_878 (a0 a1 a2 a3 : Option MV) (x y : Int) (st : List MV) (μ : MM) (G : MG) : ev 265 878 [a0, a1, a2, a3] (vI y :: vI x :: st) μ G = ev 265 879 [a0, a1, a2, a3] (vI (w32 (x + y)) :: st) μ G := ev_stp pg_265_878 rfl
theorem pg_265_879 : mm_prog 265 879 = some (0, .iaload, 880, []) := by decide +kernel
theorem xe_265_879 (a0 a1 a2 a3 : Option MV) (x y : Int) (st : List MV) (μ : MM) (G : MG) : ev 265 879 [a0, a1, a2, a3] (vI x :: vR y :: st) μ G = if gk G y = 100 ∧ 0 ≤ x ∧ x < gl G y then ev 265 880 [a0, a1, a2, a3] (vI (μ y x) :: st) μ G else none := ev_if pg_265_879 rfl
theorem pg_265_880 : mm_prog 265 880 = some (0, .aload_n 0, 881, []) := by decide +kernel
theorem xe_265_880 (a1 a2 a3 : Option MV) (x : Int) (st : List MV) (μ : MM) (G : MG) : ev 265 880 [some (vR x), a1, a2, a3] st μ G = ev 265 881 [some (vR x), a1, a2, a3] (vR x :: st) μ G := ev_stp pg_265_880 rfl
theorem pg_265_881 : mm_prog 265 881 = some (0, .iload_n 3, 882, []) := by decide +kernel
theorem xe_265_881 (a0 a1 a2 : Option MV) (x : Int) (st : List MV) (μ : MM) (G : MG) : ev 265 881 [a0, a1, a2, some (vI x)] st μ G = ev 265 882 [a0, a1, a2, some (vI x)] (vI x :: st) μ G := ev_stp pg_265_881 rfl
theorem pg_265_882 : mm_prog 265 882 = some (0, .iconst 2, 883, []) := by decide +kernel
theorem xe_265_882 (a0 a1 a2 a3 : Option MV) (st : List MV) (μ : MM) (G : MG) : ev 265 882 [a0, a1, a2, a3] st μ G = ev 265 883 [a0, a1, a2, a3] (vI (2) :: st) μ G := ev_stp pg_265_882 rfl
theorem pg_265_883 : mm_prog 265 883 = some (0, .iadd, 884, []) := by decide +kernel
theorem xe_265_883 (a0 a1 a2 a3 : Option MV) (x y : Int) (st : List MV) (μ : MM) (G : MG) : ev 265 883 [a0, a1, a2, a3] (vI y :: vI x :: st) μ G = ev 265 884 [a0, a1, a2, a3] (vI (w32 (x + y)) :: st) μ G := ev_stp pg_265_883 rfl
theorem pg_265_884 : mm_prog 265 884 = some (0, .iaload, 885, []) := by decide +kernel
theorem xe_265_884 (a0 a1 a2 a3 : Option MV) (x y : Int) (st : List MV) (μ : MM) (G : MG) : ev 265 884 [a0, a1, a2, a3] (vI x :: vR y :: st) μ G = if gk G y = 100 ∧ 0 ≤ x ∧ x < gl G y then ev 265 885 [a0, a1, a2, a3] (vI (μ y x) :: st) μ G else none := ev_if pg_265_884 rfl
theorem pg_265_885 : mm_prog 265 885 = some (1, .invokevirtual 93, 888, [1, 209, 2, 11]) := by decide +kernel
theorem xe_265_885 (a0 a1 a2 a3 : Option MV) (x0 x1 z r0 : Int) (μ : MM) (G : MG) : ev 265 885 [a0, a1, a2, a3] (vI x1 :: vI x0 :: vR z :: [vI r0]) μ G = if gk G z = 11 ∧ 0 < z then (ev 209 0 [some (vR z), some (vI x0), some (vI x1), none, none, none, none, none] [] μ G).bind (fun q => ev 265 888 [a0, a1, a2, a3] (q.1.toList ++ [vI r0]) q.2.1 q.2.2) else none := ev_calV (as := [vR z, vI x0, vI x1]) (r := [vI r0]) mx_209 pg_265_885 rfl rfl (Nat.le_of_ble_eq_true rfl) (Nat.le_of_ble_eq_true rfl)
theorem pg_265_888 : mm_prog 265 888 = some (0, .if_icmp .eq 390, 891, []) := by decide +kernel
theorem xe_265_888 (a0 a1 a2 a3 : Option MV) (x y : Int) (st : List MV) (μ : MM) (G : MG) : ev 265 888 [a0, a1, a2, a3] (vI y :: vI x :: st) μ G = if x = y then ev 265 1278 [a0, a1, a2, a3] st μ G else ev 265 891 [a0, a1, a2, a3] st μ G := ev_br (mm_cnd_eq x y) pg_265_888 rfl
theorem pg_265_891 : mm_prog 265 891 = some (0, .iconst 0, 892, []) := by decide +kernel
theorem xe_265_891 (a0 a1 a2 a3 : Option MV) (st : List MV) (μ : MM) (G : MG) : ev 265 891 [a0, a1, a2, a3] st μ G = ev 265 892 [a0, a1, a2, a3] (vI (0) :: st) μ G := ev_stp pg_265_891 rfl
theorem pg_265_892 : mm_prog 265 892 = some (2, .ireturn, 893, [1]) := by decide +kernel
theorem xe_265_892 (a0 a1 a2 a3 : Option MV) (x : Int) (μ : MM) (G : MG) : ev 265 892 [a0, a1, a2, a3] [vI x] μ G = if x = 0 ∨ x = 1 then some (some (vI x), μ, G) else none := ev_retB pg_265_892
theorem pg_265_893 : mm_prog 265 893 = some (0, .aload_n 1, 894, []) := by decide +kernel
theorem xe_265_893 (a0 a2 a3 : Option MV) (x : Int) (st : List MV) (μ : MM) (G : MG) : ev 265 893 [a0, some (vR x), a2, a3] st μ G = ev 265 894 [a0, some (vR x), a2, a3] (vR x :: st) μ G := ev_stp pg_265_893 rfl
theorem pg_265_894 : mm_prog 265 894 = some (0, .aload_n 0, 895, []) := by decide +kernel
theorem xe_265_894 (a1 a2 a3 : Option MV) (x : Int) (st : List MV) (μ : MM) (G : MG) : ev 265 894 [some (vR x), a1, a2, a3] st μ G = ev 265 895 [some (vR x), a1, a2, a3] (vR x :: st) μ G := ev_stp pg_265_894 rfl
theorem pg_265_895 : mm_prog 265 895 = some (0, .iload_n 3, 896, []) := by decide +kernel
theorem xe_265_895 (a0 a1 a2 : Option MV) (x : Int) (st : List MV) (μ : MM) (G : MG) : ev 265 895 [a0, a1, a2, some (vI x)] st μ G = ev 265 896 [a0, a1, a2, some (vI x)] (vI x :: st) μ G := ev_stp pg_265_895 rfl
theorem pg_265_896 : mm_prog 265 896 = some (0, .iconst 1, 897, []) := by decide +kernel
theorem xe_265_896 (a0 a1 a2 a3 : Option MV) (st : List MV) (μ : MM) (G : MG) : ev 265 896 [a0, a1, a2, a3] st μ G = ev 265 897 [a0, a1, a2, a3] (vI (1) :: st) μ G := ev_stp pg_265_896 rfl
theorem pg_265_897 : mm_prog 265 897 = some (0, .iadd, 898, []) := by decide +kernel
theorem xe_265_897 (a0 a1 a2 a3 : Option MV) (x y : Int) (st : List MV) (μ : MM) (G : MG) : ev 265 897 [a0, a1, a2, a3] (vI y :: vI x :: st) μ G = ev 265 898 [a0, a1, a2, a3] (vI (w32 (x + y)) :: st) μ G := ev_stp pg_265_897 rfl
theorem pg_265_898 : mm_prog 265 898 = some (0, .iaload, 899, []) := by decide +kernel
theorem xe_265_898 (a0 a1 a2 a3 : Option MV) (x y : Int) (st : List MV) (μ : MM) (G : MG) : ev 265 898 [a0, a1, a2, a3] (vI x :: vR y :: st) μ G = if gk G y = 100 ∧ 0 ≤ x ∧ x < gl G y then ev 265 899 [a0, a1, a2, a3] (vI (μ y x) :: st) μ G else none := ev_if pg_265_898 rfl
theorem pg_265_899 : mm_prog 265 899 = some (0, .aload_n 0, 900, []) := by decide +kernel
theorem xe_265_899 (a1 a2 a3 : Option MV) (x : Int) (st : List MV) (μ : MM) (G : MG) : ev 265 899 [some (vR x), a1, a2, a3] st μ G = ev 265 900 [some (vR x), a1, a2, a3] (vR x :: st) μ G := ev_stp pg_265_899 rfl
theorem pg_265_900 : mm_prog 265 900 = some (0, .iload_n 3, 901, []) := by decide +kernel
theorem xe_265_900 (a0 a1 a2 : Option MV) (x : Int) (st : List MV) (μ : MM) (G : MG) : ev 265 900 [a0, a1, a2, some (vI x)] st μ G = ev 265 901 [a0, a1, a2, some (vI x)] (vI x :: st) μ G := ev_stp pg_265_900 rfl
theorem pg_265_901 : mm_prog 265 901 = some (0, .iconst 2, 902, []) := by decide +kernel
theorem xe_265_901 (a0 a1 a2 a3 : Option MV) (st : List MV) (μ : MM) (G : MG) : ev 265 901 [a0, a1, a2, a3] st μ G = ev 265 902 [a0, a1, a2, a3] (vI (2) :: st) μ G := ev_stp pg_265_901 rfl
theorem pg_265_902 : mm_prog 265 902 = some (0, .iadd, 903, []) := by decide +kernel
theorem xe_265_902 (a0 a1 a2 a3 : Option MV) (x y : Int) (st : List MV) (μ : MM) (G : MG) : ev 265 902 [a0, a1, a2, a3] (vI y :: vI x :: st) μ G = ev 265 903 [a0, a1, a2, a3] (vI (w32 (x + y)) :: st) μ G := ev_stp pg_265_902 rfl
theorem pg_265_903 : mm_prog 265 903 = some (0, .iaload, 904, []) := by decide +kernel
theorem xe_265_903 (a0 a1 a2 a3 : Option MV) (x y : Int) (st : List MV) (μ : MM) (G : MG) : ev 265 903 [a0, a1, a2, a3] (vI x :: vR y :: st) μ G = if gk G y = 100 ∧ 0 ≤ x ∧ x < gl G y then ev 265 904 [a0, a1, a2, a3] (vI (μ y x) :: st) μ G else none := ev_if pg_265_903 rfl
theorem pg_265_904 : mm_prog 265 904 = some (0, .aload_n 0, 905, []) := by decide +kernel
theorem xe_265_904 (a1 a2 a3 : Option MV) (x : Int) (st : List MV) (μ : MM) (G : MG) : ev 265 904 [some (vR x), a1, a2, a3] st μ G = ev 265 905 [some (vR x), a1, a2, a3] (vR x :: st) μ G := ev_stp pg_265_904 rfl
theorem pg_265_905 : mm_prog 265 905 = some (0, .iload_n 3, 906, []) := by decide +kernel
theorem xe_265_905 (a0 a1 a2 : Option MV) (x : Int) (st : List MV) (μ : MM) (G : MG) : ev 265 905 [a0, a1, a2, some (vI x)] st μ G = ev 265 906 [a0, a1, a2, some (vI x)] (vI x :: st) μ G := ev_stp pg_265_905 rfl
theorem pg_265_906 : mm_prog 265 906 = some (0, .iconst 3, 907, []) := by decide +kernel
theorem xe_265_906 (a0 a1 a2 a3 : Option MV) (st : List MV) (μ : MM) (G : MG) : ev 265 906 [a0, a1, a2, a3] st μ G = ev 265 907 [a0, a1, a2, a3] (vI (3) :: st) μ G := ev_stp pg_265_906 rfl
theorem pg_265_907 : mm_prog 265 907 = some (0, .iadd, 908, []) := by decide +kernel
theorem xe_265_907 (a0 a1 a2 a3 : Option MV) (x y : Int) (st : List MV) (μ : MM) (G : MG) : ev 265 907 [a0, a1, a2, a3] (vI y :: vI x :: st) μ G = ev 265 908 [a0, a1, a2, a3] (vI (w32 (x + y)) :: st) μ G := ev_stp pg_265_907 rfl
theorem pg_265_908 : mm_prog 265 908 = some (0, .iaload, 909, []) := by decide +kernel
theorem xe_265_908 (a0 a1 a2 a3 : Option MV) (x y : Int) (st : List MV) (μ : MM) (G : MG) : ev 265 908 [a0, a1, a2, a3] (vI x :: vR y :: st) μ G = if gk G y = 100 ∧ 0 ≤ x ∧ x < gl G y then ev 265 909 [a0, a1, a2, a3] (vI (μ y x) :: st) μ G else none := ev_if pg_265_908 rfl
theorem pg_265_909 : mm_prog 265 909 = some (1, .invokevirtual 94, 912, [1, 128, 3, 10]) := by decide +kernel
theorem xe_265_909 (a0 a1 a2 a3 : Option MV) (x0 x1 x2 z : Int) (μ : MM) (G : MG) : ev 265 909 [a0, a1, a2, a3] (vI x2 :: vI x1 :: vI x0 :: vR z :: []) μ G = if gk G z = 10 ∧ 0 < z then (ev 128 0 [some (vR z), some (vI x0), some (vI x1), some (vI x2), none] [] μ G).bind (fun q => ev 265 912 [a0, a1, a2, a3] (q.1.toList ++ []) q.2.1 q.2.2) else none := ev_calV (as := [vR z, vI x0, vI x1, vI x2]) (r := []) mx_128 pg_265_909 rfl rfl (Nat.le_of_ble_eq_true rfl) (Nat.le_of_ble_eq_true rfl)
theorem pg_265_912 : mm_prog 265 912 = some (0, .aload_n 2, 913, []) := by decide +kernel
theorem xe_265_912 (a0 a1 a3 : Option MV) (x : Int) (st : List MV) (μ : MM) (G : MG) : ev 265 912 [a0, a1, some (vR x), a3] st μ G = ev 265 913 [a0, a1, some (vR x), a3] (vR x :: st) μ G := ev_stp pg_265_912 rfl
theorem pg_265_913 : mm_prog 265 913 = some (0, .aload_n 0, 914, []) := by decide +kernel
theorem xe_265_913 (a1 a2 a3 : Option MV) (x : Int) (st : List MV) (μ : MM) (G : MG) : ev 265 913 [some (vR x), a1, a2, a3] st μ G = ev 265 914 [some (vR x), a1, a2, a3] (vR x :: st) μ G := ev_stp pg_265_913 rfl
theorem pg_265_914 : mm_prog 265 914 = some (0, .iload_n 3, 915, []) := by decide +kernel
theorem xe_265_914 (a0 a1 a2 : Option MV) (x : Int) (st : List MV) (μ : MM) (G : MG) : ev 265 914 [a0, a1, a2, some (vI x)] st μ G = ev 265 915 [a0, a1, a2, some (vI x)] (vI x :: st) μ G := ev_stp pg_265_914 rfl
theorem pg_265_915 : mm_prog 265 915 = some (0, .iconst 1, 916, []) := by decide +kernel
theorem xe_265_915 (a0 a1 a2 a3 : Option MV) (st : List MV) (μ : MM) (G : MG) : ev 265 915 [a0, a1, a2, a3] st μ G = ev 265 916 [a0, a1, a2, a3] (vI (1) :: st) μ G := ev_stp pg_265_915 rfl
theorem pg_265_916 : mm_prog 265 916 = some (0, .iadd, 917, []) := by decide +kernel
theorem xe_265_916 (a0 a1 a2 a3 : Option MV) (x y : Int) (st : List MV) (μ : MM) (G : MG) : ev 265 916 [a0, a1, a2, a3] (vI y :: vI x :: st) μ G = ev 265 917 [a0, a1, a2, a3] (vI (w32 (x + y)) :: st) μ G := ev_stp pg_265_916 rfl
theorem pg_265_917 : mm_prog 265 917 = some (0, .iaload, 918, []) := by decide +kernel
theorem xe_265_917 (a0 a1 a2 a3 : Option MV) (x y : Int) (st : List MV) (μ : MM) (G : MG) : ev 265 917 [a0, a1, a2, a3] (vI x :: vR y :: st) μ G = if gk G y = 100 ∧ 0 ≤ x ∧ x < gl G y then ev 265 918 [a0, a1, a2, a3] (vI (μ y x) :: st) μ G else none := ev_if pg_265_917 rfl
theorem pg_265_918 : mm_prog 265 918 = some (0, .aload_n 0, 919, []) := by decide +kernel
theorem xe_265_918 (a1 a2 a3 : Option MV) (x : Int) (st : List MV) (μ : MM) (G : MG) : ev 265 918 [some (vR x), a1, a2, a3] st μ G = ev 265 919 [some (vR x), a1, a2, a3] (vR x :: st) μ G := ev_stp pg_265_918 rfl
theorem pg_265_919 : mm_prog 265 919 = some (0, .iload_n 3, 920, []) := by decide +kernel
theorem xe_265_919 (a0 a1 a2 : Option MV) (x : Int) (st : List MV) (μ : MM) (G : MG) : ev 265 919 [a0, a1, a2, some (vI x)] st μ G = ev 265 920 [a0, a1, a2, some (vI x)] (vI x :: st) μ G := ev_stp pg_265_919 rfl
theorem pg_265_920 : mm_prog 265 920 = some (0, .iconst 2, 921, []) := by decide +kernel
theorem xe_265_920 (a0 a1 a2 a3 : Option MV) (st : List MV) (μ : MM) (G : MG) : ev 265 920 [a0, a1, a2, a3] st μ G = ev 265 921 [a0, a1, a2, a3] (vI (2) :: st) μ G := ev_stp pg_265_920 rfl
theorem pg_265_921 : mm_prog 265 921 = some (0, .iadd, 922, []) := by decide +kernel
theorem xe_265_921 (a0 a1 a2 a3 : Option MV) (x y : Int) (st : List MV) (μ : MM) (G : MG) : ev 265 921 [a0, a1, a2, a3] (vI y :: vI x :: st) μ G = ev 265 922 [a0, a1, a2, a3] (vI (w32 (x + y)) :: st) μ G := ev_stp pg_265_921 rfl
theorem pg_265_922 : mm_prog 265 922 = some (0, .iaload, 923, []) := by decide +kernel
theorem xe_265_922 (a0 a1 a2 a3 : Option MV) (x y : Int) (st : List MV) (μ : MM) (G : MG) : ev 265 922 [a0, a1, a2, a3] (vI x :: vR y :: st) μ G = if gk G y = 100 ∧ 0 ≤ x ∧ x < gl G y then ev 265 923 [a0, a1, a2, a3] (vI (μ y x) :: st) μ G else none := ev_if pg_265_922 rfl
theorem pg_265_923 : mm_prog 265 923 = some (0, .aload_n 0, 924, []) := by decide +kernel
theorem xe_265_923 (a1 a2 a3 : Option MV) (x : Int) (st : List MV) (μ : MM) (G : MG) : ev 265 923 [some (vR x), a1, a2, a3] st μ G = ev 265 924 [some (vR x), a1, a2, a3] (vR x :: st) μ G := ev_stp pg_265_923 rfl
theorem pg_265_924 : mm_prog 265 924 = some (0, .iload_n 3, 925, []) := by decide +kernel
theorem xe_265_924 (a0 a1 a2 : Option MV) (x : Int) (st : List MV) (μ : MM) (G : MG) : ev 265 924 [a0, a1, a2, some (vI x)] st μ G = ev 265 925 [a0, a1, a2, some (vI x)] (vI x :: st) μ G := ev_stp pg_265_924 rfl
theorem pg_265_925 : mm_prog 265 925 = some (0, .iconst 3, 926, []) := by decide +kernel
theorem xe_265_925 (a0 a1 a2 a3 : Option MV) (st : List MV) (μ : MM) (G : MG) : ev 265 925 [a0, a1, a2, a3] st μ G = ev 265 926 [a0, a1, a2, a3] (vI (3) :: st) μ G := ev_stp pg_265_925 rfl
theorem pg_265_926 : mm_prog 265 926 = some (0, .iadd, 927, []) := by decide +kernel
theorem xe_265_926 (a0 a1 a2 a3 : Option MV) (x y : Int) (st : List MV) (μ : MM) (G : MG) : ev 265 926 [a0, a1, a2, a3] (vI y :: vI x :: st) μ G = ev 265 927 [a0, a1, a2, a3] (vI (w32 (x + y)) :: st) μ G := ev_stp pg_265_926 rfl
theorem pg_265_927 : mm_prog 265 927 = some (0, .iaload, 928, []) := by decide +kernel
theorem xe_265_927 (a0 a1 a2 a3 : Option MV) (x y : Int) (st : List MV) (μ : MM) (G : MG) : ev 265 927 [a0, a1, a2, a3] (vI x :: vR y :: st) μ G = if gk G y = 100 ∧ 0 ≤ x ∧ x < gl G y then ev 265 928 [a0, a1, a2, a3] (vI (μ y x) :: st) μ G else none := ev_if pg_265_927 rfl
theorem pg_265_928 : mm_prog 265 928 = some (1, .invokevirtual 97, 931, [1, 213, 3, 11]) := by decide +kernel
theorem xe_265_928 (a0 a1 a2 a3 : Option MV) (x0 x1 x2 z r0 : Int) (μ : MM) (G : MG) : ev 265 928 [a0, a1, a2, a3] (vI x2 :: vI x1 :: vI x0 :: vR z :: [vI r0]) μ G = if gk G z = 11 ∧ 0 < z then (ev 213 0 [some (vR z), some (vI x0), some (vI x1), some (vI x2), none] [] μ G).bind (fun q => ev 265 931 [a0, a1, a2, a3] (q.1.toList ++ [vI r0]) q.2.1 q.2.2) else none := ev_calV (as := [vR z, vI x0, vI x1, vI x2]) (r := [vI r0]) mx_213 pg_265_928 rfl rfl (Nat.le_of_ble_eq_true rfl) (Nat.le_of_ble_eq_true rfl)
theorem pg_265_931 : mm_prog 265 931 = some (0, .if_icmp .eq 347, 934, []) := by decide +kernel
theorem xe_265_931 (a0 a1 a2 a3 : Option MV) (x y : Int) (st : List MV) (μ : MM) (G : MG) : ev 265 931 [a0, a1, a2, a3] (vI y :: vI x :: st) μ G = if x = y then ev 265 1278 [a0, a1, a2, a3] st μ G else ev 265 934 [a0, a1, a2, a3] st μ G := ev_br (mm_cnd_eq x y) pg_265_931 rfl
theorem pg_265_934 : mm_prog 265 934 = some (0, .iconst 0, 935, []) := by decide +kernel
theorem xe_265_934 (a0 a1 a2 a3 : Option MV) (st : List MV) (μ : MM) (G : MG) : ev 265 934 [a0, a1, a2, a3] st μ G = ev 265 935 [a0, a1, a2, a3] (vI (0) :: st) μ G := ev_stp pg_265_934 rfl
theorem pg_265_935 : mm_prog 265 935 = some (2, .ireturn, 936, [1]) := by decide +kernel
theorem xe_265_935 (a0 a1 a2 a3 : Option MV) (x : Int) (μ : MM) (G : MG) : ev 265 935 [a0, a1, a2, a3] [vI x] μ G = if x = 0 ∨ x = 1 then some (some (vI x), μ, G) else none := ev_retB pg_265_935
theorem pg_265_936 : mm_prog 265 936 = some (0, .aload_n 1, 937, []) := by decide +kernel
theorem xe_265_936 (a0 a2 a3 : Option MV) (x : Int) (st : List MV) (μ : MM) (G : MG) : ev 265 936 [a0, some (vR x), a2, a3] st μ G = ev 265 937 [a0, some (vR x), a2, a3] (vR x :: st) μ G := ev_stp pg_265_936 rfl
theorem pg_265_937 : mm_prog 265 937 = some (0, .aload_n 0, 938, []) := by decide +kernel
theorem xe_265_937 (a1 a2 a3 : Option MV) (x : Int) (st : List MV) (μ : MM) (G : MG) : ev 265 937 [some (vR x), a1, a2, a3] st μ G = ev 265 938 [some (vR x), a1, a2, a3] (vR x :: st) μ G := ev_stp pg_265_937 rfl
theorem pg_265_938 : mm_prog 265 938 = some (0, .iload_n 3, 939, []) := by decide +kernel
theorem xe_265_938 (a0 a1 a2 : Option MV) (x : Int) (st : List MV) (μ : MM) (G : MG) : ev 265 938 [a0, a1, a2, some (vI x)] st μ G = ev 265 939 [a0, a1, a2, some (vI x)] (vI x :: st) μ G := ev_stp pg_265_938 rfl
theorem pg_265_939 : mm_prog 265 939 = some (0, .iconst 1, 940, []) := by decide +kernel
theorem xe_265_939 (a0 a1 a2 a3 : Option MV) (st : List MV) (μ : MM) (G : MG) : ev 265 939 [a0, a1, a2, a3] st μ G = ev 265 940 [a0, a1, a2, a3] (vI (1) :: st) μ G := ev_stp pg_265_939 rfl
theorem pg_265_940 : mm_prog 265 940 = some (0, .iadd, 941, []) := by decide +kernel
theorem xe_265_940 (a0 a1 a2 a3 : Option MV) (x y : Int) (st : List MV) (μ : MM) (G : MG) : ev 265 940 [a0, a1, a2, a3] (vI y :: vI x :: st) μ G = ev 265 941 [a0, a1, a2, a3] (vI (w32 (x + y)) :: st) μ G := ev_stp pg_265_940 rfl
theorem pg_265_941 : mm_prog 265 941 = some (0, .iaload, 942, []) := by decide +kernel
theorem xe_265_941 (a0 a1 a2 a3 : Option MV) (x y : Int) (st : List MV) (μ : MM) (G : MG) : ev 265 941 [a0, a1, a2, a3] (vI x :: vR y :: st) μ G = if gk G y = 100 ∧ 0 ≤ x ∧ x < gl G y then ev 265 942 [a0, a1, a2, a3] (vI (μ y x) :: st) μ G else none := ev_if pg_265_941 rfl
theorem pg_265_942 : mm_prog 265 942 = some (0, .aload_n 0, 943, []) := by decide +kernel
theorem xe_265_942 (a1 a2 a3 : Option MV) (x : Int) (st : List MV) (μ : MM) (G : MG) : ev 265 942 [some (vR x), a1, a2, a3] st μ G = ev 265 943 [some (vR x), a1, a2, a3] (vR x :: st) μ G := ev_stp pg_265_942 rfl
theorem pg_265_943 : mm_prog 265 943 = some (0, .iload_n 3, 944, []) := by decide +kernel
theorem xe_265_943 (a0 a1 a2 : Option MV) (x : Int) (st : List MV) (μ : MM) (G : MG) : ev 265 943 [a0, a1, a2, some (vI x)] st μ G = ev 265 944 [a0, a1, a2, some (vI x)] (vI x :: st) μ G := ev_stp pg_265_943 rfl
theorem pg_265_944 : mm_prog 265 944 = some (0, .iconst 2, 945, []) := by decide +kernel
theorem xe_265_944 (a0 a1 a2 a3 : Option MV) (st : List MV) (μ : MM) (G : MG) : ev 265 944 [a0, a1, a2, a3] st μ G = ev 265 945 [a0, a1, a2, a3] (vI (2) :: st) μ G := ev_stp pg_265_944 rfl
theorem pg_265_945 : mm_prog 265 945 = some (0, .iadd, 946, []) := by decide +kernel
theorem xe_265_945 (a0 a1 a2 a3 : Option MV) (x y : Int) (st : List MV) (μ : MM) (G : MG) : ev 265 945 [a0, a1, a2, a3] (vI y :: vI x :: st) μ G = ev 265 946 [a0, a1, a2, a3] (vI (w32 (x + y)) :: st) μ G := ev_stp pg_265_945 rfl
theorem pg_265_946 : mm_prog 265 946 = some (0, .iaload, 947, []) := by decide +kernel
theorem xe_265_946 (a0 a1 a2 a3 : Option MV) (x y : Int) (st : List MV) (μ : MM) (G : MG) : ev 265 946 [a0, a1, a2, a3] (vI x :: vR y :: st) μ G = if gk G y = 100 ∧ 0 ≤ x ∧ x < gl G y then ev 265 947 [a0, a1, a2, a3] (vI (μ y x) :: st) μ G else none := ev_if pg_265_946 rfl
theorem pg_265_947 : mm_prog 265 947 = some (1, .invokevirtual 98, 950, [1, 129, 2, 10]) := by decide +kernel
theorem xe_265_947 (a0 a1 a2 a3 : Option MV) (x0 x1 z : Int) (μ : MM) (G : MG) : ev 265 947 [a0, a1, a2, a3] (vI x1 :: vI x0 :: vR z :: []) μ G = if gk G z = 10 ∧ 0 < z then (ev 129 0 [some (vR z), some (vI x0), some (vI x1)] [] μ G).bind (fun q => ev 265 950 [a0, a1, a2, a3] (q.1.toList ++ []) q.2.1 q.2.2) else none := ev_calV (as := [vR z, vI x0, vI x1]) (r := []) mx_129 pg_265_947 rfl rfl (Nat.le_of_ble_eq_true rfl) (Nat.le_of_ble_eq_true rfl)
theorem pg_265_950 : mm_prog 265 950 = some (0, .aload_n 2, 951, []) := by decide +kernel
theorem xe_265_950 (a0 a1 a3 : Option MV) (x : Int) (st : List MV) (μ : MM) (G : MG) : ev 265 950 [a0, a1, some (vR x), a3] st μ G = ev 265 951 [a0, a1, some (vR x), a3] (vR x :: st) μ G := ev_stp pg_265_950 rfl
theorem pg_265_951 : mm_prog 265 951 = some (0, .aload_n 0, 952, []) := by decide +kernel
theorem xe_265_951 (a1 a2 a3 : Option MV) (x : Int) (st : List MV) (μ : MM) (G : MG) : ev 265 951 [some (vR x), a1, a2, a3] st μ G = ev 265 952 [some (vR x), a1, a2, a3] (vR x :: st) μ G := ev_stp pg_265_951 rfl
theorem pg_265_952 : mm_prog 265 952 = some (0, .iload_n 3, 953, []) := by decide +kernel
theorem xe_265_952 (a0 a1 a2 : Option MV) (x : Int) (st : List MV) (μ : MM) (G : MG) : ev 265 952 [a0, a1, a2, some (vI x)] st μ G = ev 265 953 [a0, a1, a2, some (vI x)] (vI x :: st) μ G := ev_stp pg_265_952 rfl
theorem pg_265_953 : mm_prog 265 953 = some (0, .iconst 1, 954, []) := by decide +kernel
theorem xe_265_953 (a0 a1 a2 a3 : Option MV) (st : List MV) (μ : MM) (G : MG) : ev 265 953 [a0, a1, a2, a3] st μ G = ev 265 954 [a0, a1, a2, a3] (vI (1) :: st) μ G := ev_stp pg_265_953 rfl
theorem pg_265_954 : mm_prog 265 954 = some (0, .iadd, 955, []) := by decide +kernel
theorem xe_265_954 (a0 a1 a2 a3 : Option MV) (x y : Int) (st : List MV) (μ : MM) (G : MG) : ev 265 954 [a0, a1, a2, a3] (vI y :: vI x :: st) μ G = ev 265 955 [a0, a1, a2, a3] (vI (w32 (x + y)) :: st) μ G := ev_stp pg_265_954 rfl
theorem pg_265_955 : mm_prog 265 955 = some (0, .iaload, 956, []) := by decide +kernel
theorem xe_265_955 (a0 a1 a2 a3 : Option MV) (x y : Int) (st : List MV) (μ : MM) (G : MG) : ev 265 955 [a0, a1, a2, a3] (vI x :: vR y :: st) μ G = if gk G y = 100 ∧ 0 ≤ x ∧ x < gl G y then ev 265 956 [a0, a1, a2, a3] (vI (μ y x) :: st) μ G else none := ev_if pg_265_955 rfl
theorem pg_265_956 : mm_prog 265 956 = some (0, .aload_n 0, 957, []) := by decide +kernel
theorem xe_265_956 (a1 a2 a3 : Option MV) (x : Int) (st : List MV) (μ : MM) (G : MG) : ev 265 956 [some (vR x), a1, a2, a3] st μ G = ev 265 957 [some (vR x), a1, a2, a3] (vR x :: st) μ G := ev_stp pg_265_956 rfl
theorem pg_265_957 : mm_prog 265 957 = some (0, .iload_n 3, 958, []) := by decide +kernel
theorem xe_265_957 (a0 a1 a2 : Option MV) (x : Int) (st : List MV) (μ : MM) (G : MG) : ev 265 957 [a0, a1, a2, some (vI x)] st μ G = ev 265 958 [a0, a1, a2, some (vI x)] (vI x :: st) μ G := ev_stp pg_265_957 rfl
theorem pg_265_958 : mm_prog 265 958 = some (0, .iconst 2, 959, []) := by decide +kernel
theorem xe_265_958 (a0 a1 a2 a3 : Option MV) (st : List MV) (μ : MM) (G : MG) : ev 265 958 [a0, a1, a2, a3] st μ G = ev 265 959 [a0, a1, a2, a3] (vI (2) :: st) μ G := ev_stp pg_265_958 rfl
theorem pg_265_959 : mm_prog 265 959 = some (0, .iadd, 960, []) := by decide +kernel
theorem xe_265_959 (a0 a1 a2 a3 : Option MV) (x y : Int) (st : List MV) (μ : MM) (G : MG) : ev 265 959 [a0, a1, a2, a3] (vI y :: vI x :: st) μ G = ev 265 960 [a0, a1, a2, a3] (vI (w32 (x + y)) :: st) μ G := ev_stp pg_265_959 rfl
theorem pg_265_960 : mm_prog 265 960 = some (0, .iaload, 961, []) := by decide +kernel
theorem xe_265_960 (a0 a1 a2 a3 : Option MV) (x y : Int) (st : List MV) (μ : MM) (G : MG) : ev 265 960 [a0, a1, a2, a3] (vI x :: vR y :: st) μ G = if gk G y = 100 ∧ 0 ≤ x ∧ x < gl G y then ev 265 961 [a0, a1, a2, a3] (vI (μ y x) :: st) μ G else none := ev_if pg_265_960 rfl
theorem pg_265_961 : mm_prog 265 961 = some (1, .invokevirtual 101, 964, [1, 214, 2, 11]) := by decide +kernel
theorem xe_265_961 (a0 a1 a2 a3 : Option MV) (x0 x1 z r0 : Int) (μ : MM) (G : MG) : ev 265 961 [a0, a1, a2, a3] (vI x1 :: vI x0 :: vR z :: [vI r0]) μ G = if gk G z = 11 ∧ 0 < z then (ev 214 0 [some (vR z), some (vI x0), some (vI x1)] [] μ G).bind (fun q => ev 265 964 [a0, a1, a2, a3] (q.1.toList ++ [vI r0]) q.2.1 q.2.2) else none := ev_calV (as := [vR z, vI x0, vI x1]) (r := [vI r0]) mx_214 pg_265_961 rfl rfl (Nat.le_of_ble_eq_true rfl) (Nat.le_of_ble_eq_true rfl)
theorem pg_265_964 : mm_prog 265 964 = some (0, .if_icmp .eq 314, 967, []) := by decide +kernel
theorem xe_265_964 (a0 a1 a2 a3 : Option MV) (x y : Int) (st : List MV) (μ : MM) (G : MG) : ev 265 964 [a0, a1, a2, a3] (vI y :: vI x :: st) μ G = if x = y then ev 265 1278 [a0, a1, a2, a3] st μ G else ev 265 967 [a0, a1, a2, a3] st μ G := ev_br (mm_cnd_eq x y) pg_265_964 rfl
theorem pg_265_967 : mm_prog 265 967 = some (0, .iconst 0, 968, []) := by decide +kernel
theorem xe_265_967 (a0 a1 a2 a3 : Option MV) (st : List MV) (μ : MM) (G : MG) : ev 265 967 [a0, a1, a2, a3] st μ G = ev 265 968 [a0, a1, a2, a3] (vI (0) :: st) μ G := ev_stp pg_265_967 rfl
theorem pg_265_968 : mm_prog 265 968 = some (2, .ireturn, 969, [1]) := by decide +kernel
theorem xe_265_968 (a0 a1 a2 a3 : Option MV) (x : Int) (μ : MM) (G : MG) : ev 265 968 [a0, a1, a2, a3] [vI x] μ G = if x = 0 ∨ x = 1 then some (some (vI x), μ, G) else none := ev_retB pg_265_968
theorem pg_265_969 : mm_prog 265 969 = some (0, .aload_n 1, 970, []) := by decide +kernel
theorem xe_265_969 (a0 a2 a3 : Option MV) (x : Int) (st : List MV) (μ : MM) (G : MG) : ev 265 969 [a0, some (vR x), a2, a3] st μ G = ev 265 970 [a0, some (vR x), a2, a3] (vR x :: st) μ G := ev_stp pg_265_969 rfl
theorem pg_265_970 : mm_prog 265 970 = some (1, .invokevirtual 102, 973, [1, 130, 0, 10]) := by decide +kernel
theorem xe_265_970 (a0 a1 a2 a3 : Option MV) (z : Int) (μ : MM) (G : MG) : ev 265 970 [a0, a1, a2, a3] (vR z :: []) μ G = if gk G z = 10 ∧ 0 < z then (ev 130 0 [some (vR z)] [] μ G).bind (fun q => ev 265 973 [a0, a1, a2, a3] (q.1.toList ++ []) q.2.1 q.2.2) else none := ev_calV (as := [vR z]) (r := []) mx_130 pg_265_970 rfl rfl (Nat.le_of_ble_eq_true rfl) (Nat.le_of_ble_eq_true rfl)
theorem pg_265_973 : mm_prog 265 973 = some (0, .aload_n 2, 974, []) := by decide +kernel
theorem xe_265_973 (a0 a1 a3 : Option MV) (x : Int) (st : List MV) (μ : MM) (G : MG) : ev 265 973 [a0, a1, some (vR x), a3] st μ G = ev 265 974 [a0, a1, some (vR x), a3] (vR x :: st) μ G := ev_stp pg_265_973 rfl
theorem pg_265_974 : mm_prog 265 974 = some (1, .invokevirtual 106, 977, [1, 217, 0, 11]) := by decide +kernel
theorem xe_265_974 (a0 a1 a2 a3 : Option MV) (z r0 : Int) (μ : MM) (G : MG) : ev 265 974 [a0, a1, a2, a3] (vR z :: [vI r0]) μ G = if gk G z = 11 ∧ 0 < z then (ev 217 0 [some (vR z)] [] μ G).bind (fun q => ev 265 977 [a0, a1, a2, a3] (q.1.toList ++ [vI r0]) q.2.1 q.2.2) else none := ev_calV (as := [vR z]) (r := [vI r0]) mx_217 pg_265_974 rfl rfl (Nat.le_of_ble_eq_true rfl) (Nat.le_of_ble_eq_true rfl)
theorem pg_265_977 : mm_prog 265 977 = some (0, .if_icmp .eq 301, 980, []) := by decide +kernel
theorem xe_265_977 (a0 a1 a2 a3 : Option MV) (x y : Int) (st : List MV) (μ : MM) (G : MG) : ev 265 977 [a0, a1, a2, a3] (vI y :: vI x :: st) μ G = if x = y then ev 265 1278 [a0, a1, a2, a3] st μ G else ev 265 980 [a0, a1, a2, a3] st μ G := ev_br (mm_cnd_eq x y) pg_265_977 rfl
theorem pg_265_980 : mm_prog 265 980 = some (0, .iconst 0, 981, []) := by decide +kernel
theorem xe_265_980 (a0 a1 a2 a3 : Option MV) (st : List MV) (μ : MM) (G : MG) : ev 265 980 [a0, a1, a2, a3] st μ G = ev 265 981 [a0, a1, a2, a3] (vI (0) :: st) μ G := ev_stp pg_265_980 rfl
theorem pg_265_981 : mm_prog 265 981 = some (2, .ireturn, 982, [1]) := by decide +kernel
theorem xe_265_981 (a0 a1 a2 a3 : Option MV) (x : Int) (μ : MM) (G : MG) : ev 265 981 [a0, a1, a2, a3] [vI x] μ G = if x = 0 ∨ x = 1 then some (some (vI x), μ, G) else none := ev_retB pg_265_981
theorem pg_265_982 : mm_prog 265 982 = some (0, .aload_n 1, 983, []) := by decide +kernel
theorem xe_265_982 (a0 a2 a3 : Option MV) (x : Int) (st : List MV) (μ : MM) (G : MG) : ev 265 982 [a0, some (vR x), a2, a3] st μ G = ev 265 983 [a0, some (vR x), a2, a3] (vR x :: st) μ G := ev_stp pg_265_982 rfl
theorem pg_265_983 : mm_prog 265 983 = some (0, .aload_n 0, 984, []) := by decide +kernel
theorem xe_265_983 (a1 a2 a3 : Option MV) (x : Int) (st : List MV) (μ : MM) (G : MG) : ev 265 983 [some (vR x), a1, a2, a3] st μ G = ev 265 984 [some (vR x), a1, a2, a3] (vR x :: st) μ G := ev_stp pg_265_983 rfl
theorem pg_265_984 : mm_prog 265 984 = some (0, .iload_n 3, 985, []) := by decide +kernel
theorem xe_265_984 (a0 a1 a2 : Option MV) (x : Int) (st : List MV) (μ : MM) (G : MG) : ev 265 984 [a0, a1, a2, some (vI x)] st μ G = ev 265 985 [a0, a1, a2, some (vI x)] (vI x :: st) μ G := ev_stp pg_265_984 rfl
theorem pg_265_985 : mm_prog 265 985 = some (0, .iconst 1, 986, []) := by decide +kernel
theorem xe_265_985 (a0 a1 a2 a3 : Option MV) (st : List MV) (μ : MM) (G : MG) : ev 265 985 [a0, a1, a2, a3] st μ G = ev 265 986 [a0, a1, a2, a3] (vI (1) :: st) μ G := ev_stp pg_265_985 rfl
theorem pg_265_986 : mm_prog 265 986 = some (0, .iadd, 987, []) := by decide +kernel
theorem xe_265_986 (a0 a1 a2 a3 : Option MV) (x y : Int) (st : List MV) (μ : MM) (G : MG) : ev 265 986 [a0, a1, a2, a3] (vI y :: vI x :: st) μ G = ev 265 987 [a0, a1, a2, a3] (vI (w32 (x + y)) :: st) μ G := ev_stp pg_265_986 rfl
theorem pg_265_987 : mm_prog 265 987 = some (0, .iaload, 988, []) := by decide +kernel
theorem xe_265_987 (a0 a1 a2 a3 : Option MV) (x y : Int) (st : List MV) (μ : MM) (G : MG) : ev 265 987 [a0, a1, a2, a3] (vI x :: vR y :: st) μ G = if gk G y = 100 ∧ 0 ≤ x ∧ x < gl G y then ev 265 988 [a0, a1, a2, a3] (vI (μ y x) :: st) μ G else none := ev_if pg_265_987 rfl
theorem pg_265_988 : mm_prog 265 988 = some (1, .invokevirtual 107, 991, [1, 131, 1, 10]) := by decide +kernel
theorem xe_265_988 (a0 a1 a2 a3 : Option MV) (x0 z : Int) (μ : MM) (G : MG) : ev 265 988 [a0, a1, a2, a3] (vI x0 :: vR z :: []) μ G = if gk G z = 10 ∧ 0 < z then (ev 131 0 [some (vR z), some (vI x0), none, none] [] μ G).bind (fun q => ev 265 991 [a0, a1, a2, a3] (q.1.toList ++ []) q.2.1 q.2.2) else none := ev_calV (as := [vR z, vI x0]) (r := []) mx_131 pg_265_988 rfl rfl (Nat.le_of_ble_eq_true rfl) (Nat.le_of_ble_eq_true rfl)
theorem pg_265_991 : mm_prog 265 991 = some (0, .aload_n 2, 992, []) := by decide +kernel
theorem xe_265_991 (a0 a1 a3 : Option MV) (x : Int) (st : List MV) (μ : MM) (G : MG) : ev 265 991 [a0, a1, some (vR x), a3] st μ G = ev 265 992 [a0, a1, some (vR x), a3] (vR x :: st) μ G := ev_stp pg_265_991 rfl
theorem pg_265_992 : mm_prog 265 992 = some (0, .aload_n 0, 993, []) := by decide +kernel
theorem xe_265_992 (a1 a2 a3 : Option MV) (x : Int) (st : List MV) (μ : MM) (G : MG) : ev 265 992 [some (vR x), a1, a2, a3] st μ G = ev 265 993 [some (vR x), a1, a2, a3] (vR x :: st) μ G := ev_stp pg_265_992 rfl
theorem pg_265_993 : mm_prog 265 993 = some (0, .iload_n 3, 994, []) := by decide +kernel
theorem xe_265_993 (a0 a1 a2 : Option MV) (x : Int) (st : List MV) (μ : MM) (G : MG) : ev 265 993 [a0, a1, a2, some (vI x)] st μ G = ev 265 994 [a0, a1, a2, some (vI x)] (vI x :: st) μ G := ev_stp pg_265_993 rfl
theorem pg_265_994 : mm_prog 265 994 = some (0, .iconst 1, 995, []) := by decide +kernel
theorem xe_265_994 (a0 a1 a2 a3 : Option MV) (st : List MV) (μ : MM) (G : MG) : ev 265 994 [a0, a1, a2, a3] st μ G = ev 265 995 [a0, a1, a2, a3] (vI (1) :: st) μ G := ev_stp pg_265_994 rfl
theorem pg_265_995 : mm_prog 265 995 = some (0, .iadd, 996, []) := by decide +kernel
theorem xe_265_995 (a0 a1 a2 a3 : Option MV) (x y : Int) (st : List MV) (μ : MM) (G : MG) : ev 265 995 [a0, a1, a2, a3] (vI y :: vI x :: st) μ G = ev 265 996 [a0, a1, a2, a3] (vI (w32 (x + y)) :: st) μ G := ev_stp pg_265_995 rfl
theorem pg_265_996 : mm_prog 265 996 = some (0, .iaload, 997, []) := by decide +kernel
theorem xe_265_996 (a0 a1 a2 a3 : Option MV) (x y : Int) (st : List MV) (μ : MM) (G : MG) : ev 265 996 [a0, a1, a2, a3] (vI x :: vR y :: st) μ G = if gk G y = 100 ∧ 0 ≤ x ∧ x < gl G y then ev 265 997 [a0, a1, a2, a3] (vI (μ y x) :: st) μ G else none := ev_if pg_265_996 rfl
theorem pg_265_997 : mm_prog 265 997 = some (1, .invokevirtual 110, 1000, [1, 227, 1, 11]) := by decide +kernel
theorem xe_265_997 (a0 a1 a2 a3 : Option MV) (x0 z r0 : Int) (μ : MM) (G : MG) : ev 265 997 [a0, a1, a2, a3] (vI x0 :: vR z :: [vI r0]) μ G = if gk G z = 11 ∧ 0 < z then (ev 227 0 [some (vR z), some (vI x0), none] [] μ G).bind (fun q => ev 265 1000 [a0, a1, a2, a3] (q.1.toList ++ [vI r0]) q.2.1 q.2.2) else none := ev_calV (as := [vR z, vI x0]) (r := [vI r0]) mx_227 pg_265_997 rfl rfl (Nat.le_of_ble_eq_true rfl) (Nat.le_of_ble_eq_true rfl)
theorem pg_265_1000 : mm_prog 265 1000 = some (0, .if_icmp .eq 278, 1003, []) := by decide +kernel
theorem xe_265_1000 (a0 a1 a2 a3 : Option MV) (x y : Int) (st : List MV) (μ : MM) (G : MG) : ev 265 1000 [a0, a1, a2, a3] (vI y :: vI x :: st) μ G = if x = y then ev 265 1278 [a0, a1, a2, a3] st μ G else ev 265 1003 [a0, a1, a2, a3] st μ G := ev_br (mm_cnd_eq x y) pg_265_1000 rfl
theorem pg_265_1003 : mm_prog 265 1003 = some (0, .iconst 0, 1004, []) := by decide +kernel
theorem xe_265_1003 (a0 a1 a2 a3 : Option MV) (st : List MV) (μ : MM) (G : MG) : ev 265 1003 [a0, a1, a2, a3] st μ G = ev 265 1004 [a0, a1, a2, a3] (vI (0) :: st) μ G := ev_stp pg_265_1003 rfl
theorem pg_265_1004 : mm_prog 265 1004 = some (2, .ireturn, 1005, [1]) := by decide +kernel
theorem xe_265_1004 (a0 a1 a2 a3 : Option MV) (x : Int) (μ : MM) (G : MG) : ev 265 1004 [a0, a1, a2, a3] [vI x] μ G = if x = 0 ∨ x = 1 then some (some (vI x), μ, G) else none := ev_retB pg_265_1004
theorem pg_265_1005 : mm_prog 265 1005 = some (0, .aload_n 1, 1006, []) := by decide +kernel
theorem xe_265_1005 (a0 a2 a3 : Option MV) (x : Int) (st : List MV) (μ : MM) (G : MG) : ev 265 1005 [a0, some (vR x), a2, a3] st μ G = ev 265 1006 [a0, some (vR x), a2, a3] (vR x :: st) μ G := ev_stp pg_265_1005 rfl
theorem pg_265_1006 : mm_prog 265 1006 = some (0, .aload_n 0, 1007, []) := by decide +kernel
theorem xe_265_1006 (a1 a2 a3 : Option MV) (x : Int) (st : List MV) (μ : MM) (G : MG) : ev 265 1006 [some (vR x), a1, a2, a3] st μ G = ev 265 1007 [some (vR x), a1, a2, a3] (vR x :: st) μ G := ev_stp pg_265_1006 rfl
theorem pg_265_1007 : mm_prog 265 1007 = some (0, .iload_n 3, 1008, []) := by decide +kernel
theorem xe_265_1007 (a0 a1 a2 : Option MV) (x : Int) (st : List MV) (μ : MM) (G : MG) : ev 265 1007 [a0, a1, a2, some (vI x)] st μ G = ev 265 1008 [a0, a1, a2, some (vI x)] (vI x :: st) μ G := ev_stp pg_265_1007 rfl
theorem pg_265_1008 : mm_prog 265 1008 = some (0, .iconst 1, 1009, []) := by decide +kernel
theorem xe_265_1008 (a0 a1 a2 a3 : Option MV) (st : List MV) (μ : MM) (G : MG) : ev 265 1008 [a0, a1, a2, a3] st μ G = ev 265 1009 [a0, a1, a2, a3] (vI (1) :: st) μ G := ev_stp pg_265_1008 rfl
theorem pg_265_1009 : mm_prog 265 1009 = some (0, .iadd, 1010, []) := by decide +kernel
theorem xe_265_1009 (a0 a1 a2 a3 : Option MV) (x y : Int) (st : List MV) (μ : MM) (G : MG) : ev 265 1009 [a0, a1, a2, a3] (vI y :: vI x :: st) μ G = ev 265 1010 [a0, a1, a2, a3] (vI (w32 (x + y)) :: st) μ G := ev_stp pg_265_1009 rfl
theorem pg_265_1010 : mm_prog 265 1010 = some (0, .iaload, 1011, []) := by decide +kernel
theorem xe_265_1010 (a0 a1 a2 a3 : Option MV) (x y : Int) (st : List MV) (μ : MM) (G : MG) : ev 265 1010 [a0, a1, a2, a3] (vI x :: vR y :: st) μ G = if gk G y = 100 ∧ 0 ≤ x ∧ x < gl G y then ev 265 1011 [a0, a1, a2, a3] (vI (μ y x) :: st) μ G else none := ev_if pg_265_1010 rfl
theorem pg_265_1011 : mm_prog 265 1011 = some (1, .invokevirtual 111, 1014, [1, 132, 1, 10]) := by decide +kernel
theorem xe_265_1011 (a0 a1 a2 a3 : Option MV) (x0 z : Int) (μ : MM) (G : MG) : ev 265 1011 [a0, a1, a2, a3] (vI x0 :: vR z :: []) μ G = if gk G z = 10 ∧ 0 < z then (ev 132 0 [some (vR z), some (vI x0)] [] μ G).bind (fun q => ev 265 1014 [a0, a1, a2, a3] (q.1.toList ++ []) q.2.1 q.2.2) else none := ev_calV (as := [vR z, vI x0]) (r := []) mx_132 pg_265_1011 rfl rfl (Nat.le_of_ble_eq_true rfl) (Nat.le_of_ble_eq_true rfl)
theorem pg_265_1014 : mm_prog 265 1014 = some (0, .aload_n 2, 1015, []) := by decide +kernel
theorem xe_265_1014 (a0 a1 a3 : Option MV) (x : Int) (st : List MV) (μ : MM) (G : MG) : ev 265 1014 [a0, a1, some (vR x), a3] st μ G = ev 265 1015 [a0, a1, some (vR x), a3] (vR x :: st) μ G := ev_stp pg_265_1014 rfl
theorem pg_265_1015 : mm_prog 265 1015 = some (0, .aload_n 0, 1016, []) := by decide +kernel
theorem xe_265_1015 (a1 a2 a3 : Option MV) (x : Int) (st : List MV) (μ : MM) (G : MG) : ev 265 1015 [some (vR x), a1, a2, a3] st μ G = ev 265 1016 [some (vR x), a1, a2, a3] (vR x :: st) μ G := ev_stp pg_265_1015 rfl
theorem pg_265_1016 : mm_prog 265 1016 = some (0, .iload_n 3, 1017, []) := by decide +kernel
theorem xe_265_1016 (a0 a1 a2 : Option MV) (x : Int) (st : List MV) (μ : MM) (G : MG) : ev 265 1016 [a0, a1, a2, some (vI x)] st μ G = ev 265 1017 [a0, a1, a2, some (vI x)] (vI x :: st) μ G := ev_stp pg_265_1016 rfl
theorem pg_265_1017 : mm_prog 265 1017 = some (0, .iconst 1, 1018, []) := by decide +kernel
theorem xe_265_1017 (a0 a1 a2 a3 : Option MV) (st : List MV) (μ : MM) (G : MG) : ev 265 1017 [a0, a1, a2, a3] st μ G = ev 265 1018 [a0, a1, a2, a3] (vI (1) :: st) μ G := ev_stp pg_265_1017 rfl
theorem pg_265_1018 : mm_prog 265 1018 = some (0, .iadd, 1019, []) := by decide +kernel
theorem xe_265_1018 (a0 a1 a2 a3 : Option MV) (x y : Int) (st : List MV) (μ : MM) (G : MG) : ev 265 1018 [a0, a1, a2, a3] (vI y :: vI x :: st) μ G = ev 265 1019 [a0, a1, a2, a3] (vI (w32 (x + y)) :: st) μ G := ev_stp pg_265_1018 rfl
theorem pg_265_1019 : mm_prog 265 1019 = some (0, .iaload, 1020, []) := by decide +kernel
theorem xe_265_1019 (a0 a1 a2 a3 : Option MV) (x y : Int) (st : List MV) (μ : MM) (G : MG) : ev 265 1019 [a0, a1, a2, a3] (vI x :: vR y :: st) μ G = if gk G y = 100 ∧ 0 ≤ x ∧ x < gl G y then ev 265 1020 [a0, a1, a2, a3] (vI (μ y x) :: st) μ G else none := ev_if pg_265_1019 rfl
theorem pg_265_1020 : mm_prog 265 1020 = some (1, .invokevirtual 114, 1023, [1, 229, 1, 11]) := by decide +kernel
theorem xe_265_1020 (a0 a1 a2 a3 : Option MV) (x0 z r0 : Int) (μ : MM) (G : MG) : ev 265 1020 [a0, a1, a2, a3] (vI x0 :: vR z :: [vI r0]) μ G = if gk G z = 11 ∧ 0 < z then (ev 229 0 [some (vR z), some (vI x0)] [] μ G).bind (fun q => ev 265 1023 [a0, a1, a2, a3] (q.1.toList ++ [vI r0]) q.2.1 q.2.2) else none := ev_calV (as := [vR z, vI x0]) (r := [vI r0]) mx_229 pg_265_1020 rfl rfl (Nat.le_of_ble_eq_true rfl) (Nat.le_of_ble_eq_true rfl)
theorem pg_265_1023 : mm_prog 265 1023 = some (0, .if_icmp .eq 255, 1026, []) := by decide +kernel
theorem xe_265_1023 (a0 a1 a2 a3 : Option MV) (x y : Int) (st : List MV) (μ : MM) (G : MG) : ev 265 1023 [a0, a1, a2, a3] (vI y :: vI x :: st) μ G = if x = y then ev 265 1278 [a0, a1, a2, a3] st μ G else ev 265 1026 [a0, a1, a2, a3] st μ G := ev_br (mm_cnd_eq x y) pg_265_1023 rfl
theorem pg_265_1026 : mm_prog 265 1026 = some (0, .iconst 0, 1027, []) := by decide +kernel
theorem xe_265_1026 (a0 a1 a2 a3 : Option MV) (st : List MV) (μ : MM) (G : MG) : ev 265 1026 [a0, a1, a2, a3] st μ G = ev 265 1027 [a0, a1, a2, a3] (vI (0) :: st) μ G := ev_stp pg_265_1026 rfl
theorem pg_265_1027 : mm_prog 265 1027 = some (2, .ireturn, 1028, [1]) := by decide +kernel
theorem xe_265_1027 (a0 a1 a2 a3 : Option MV) (x : Int) (μ : MM) (G : MG) : ev 265 1027 [a0, a1, a2, a3] [vI x] μ G = if x = 0 ∨ x = 1 then some (some (vI x), μ, G) else none := ev_retB pg_265_1027
theorem pg_265_1028 : mm_prog 265 1028 = some (0, .aload_n 1, 1029, []) := by decide +kernel
theorem xe_265_1028 (a0 a2 a3 : Option MV) (x : Int) (st : List MV) (μ : MM) (G : MG) : ev 265 1028 [a0, some (vR x), a2, a3] st μ G = ev 265 1029 [a0, some (vR x), a2, a3] (vR x :: st) μ G := ev_stp pg_265_1028 rfl
theorem pg_265_1029 : mm_prog 265 1029 = some (0, .aload_n 0, 1030, []) := by decide +kernel
theorem xe_265_1029 (a1 a2 a3 : Option MV) (x : Int) (st : List MV) (μ : MM) (G : MG) : ev 265 1029 [some (vR x), a1, a2, a3] st μ G = ev 265 1030 [some (vR x), a1, a2, a3] (vR x :: st) μ G := ev_stp pg_265_1029 rfl
theorem pg_265_1030 : mm_prog 265 1030 = some (0, .iload_n 3, 1031, []) := by decide +kernel
theorem xe_265_1030 (a0 a1 a2 : Option MV) (x : Int) (st : List MV) (μ : MM) (G : MG) : ev 265 1030 [a0, a1, a2, some (vI x)] st μ G = ev 265 1031 [a0, a1, a2, some (vI x)] (vI x :: st) μ G := ev_stp pg_265_1030 rfl
theorem pg_265_1031 : mm_prog 265 1031 = some (0, .iconst 1, 1032, []) := by decide +kernel
theorem xe_265_1031 (a0 a1 a2 a3 : Option MV) (st : List MV) (μ : MM) (G : MG) : ev 265 1031 [a0, a1, a2, a3] st μ G = ev 265 1032 [a0, a1, a2, a3] (vI (1) :: st) μ G := ev_stp pg_265_1031 rfl
theorem pg_265_1032 : mm_prog 265 1032 = some (0, .iadd, 1033, []) := by decide +kernel
theorem xe_265_1032 (a0 a1 a2 a3 : Option MV) (x y : Int) (st : List MV) (μ : MM) (G : MG) : ev 265 1032 [a0, a1, a2, a3] (vI y :: vI x :: st) μ G = ev 265 1033 [a0, a1, a2, a3] (vI (w32 (x + y)) :: st) μ G := ev_stp pg_265_1032 rfl
theorem pg_265_1033 : mm_prog 265 1033 = some (0, .iaload, 1034, []) := by decide +kernel
theorem xe_265_1033 (a0 a1 a2 a3 : Option MV) (x y : Int) (st : List MV) (μ : MM) (G : MG) : ev 265 1033 [a0, a1, a2, a3] (vI x :: vR y :: st) μ G = if gk G y = 100 ∧ 0 ≤ x ∧ x < gl G y then ev 265 1034 [a0, a1, a2, a3] (vI (μ y x) :: st) μ G else none := ev_if pg_265_1033 rfl
theorem pg_265_1034 : mm_prog 265 1034 = some (0, .aload_n 0, 1035, []) := by decide +kernel
theorem xe_265_1034 (a1 a2 a3 : Option MV) (x : Int) (st : List MV) (μ : MM) (G : MG) : ev 265 1034 [some (vR x), a1, a2, a3] st μ G = ev 265 1035 [some (vR x), a1, a2, a3] (vR x :: st) μ G := ev_stp pg_265_1034 rfl
theorem pg_265_1035 : mm_prog 265 1035 = some (0, .iload_n 3, 1036, []) := by decide +kernel
theorem xe_265_1035 (a0 a1 a2 : Option MV) (x : Int) (st : List MV) (μ : MM) (G : MG) : ev 265 1035 [a0, a1, a2, some (vI x)] st μ G = ev 265 1036 [a0, a1, a2, some (vI x)] (vI x :: st) μ G := ev_stp pg_265_1035 rfl
theorem pg_265_1036 : mm_prog 265 1036 = some (0, .iconst 2, 1037, []) := by decide +kernel
theorem xe_265_1036 (a0 a1 a2 a3 : Option MV) (st : List MV) (μ : MM) (G : MG) : ev 265 1036 [a0, a1, a2, a3] st μ G = ev 265 1037 [a0, a1, a2, a3] (vI (2) :: st) μ G := ev_stp pg_265_1036 rfl
theorem pg_265_1037 : mm_prog 265 1037 = some (0, .iadd, 1038, []) := by decide +kernel
theorem xe_265_1037 (a0 a1 a2 a3 : Option MV) (x y : Int) (st : List MV) (μ : MM) (G : MG) : ev 265 1037 [a0, a1, a2, a3] (vI y :: vI x :: st) μ G = ev 265 1038 [a0, a1, a2, a3] (vI (w32 (x + y)) :: st) μ G := ev_stp pg_265_1037 rfl
theorem pg_265_1038 : mm_prog 265 1038 = some (0, .iaload, 1039, []) := by decide +kernel
theorem xe_265_1038 (a0 a1 a2 a3 : Option MV) (x y : Int) (st : List MV) (μ : MM) (G : MG) : ev 265 1038 [a0, a1, a2, a3] (vI x :: vR y :: st) μ G = if gk G y = 100 ∧ 0 ≤ x ∧ x < gl G y then ev 265 1039 [a0, a1, a2, a3] (vI (μ y x) :: st) μ G else none := ev_if pg_265_1038 rfl
theorem pg_265_1039 : mm_prog 265 1039 = some (1, .invokevirtual 115, 1042, [1, 133, 2, 10]) := by decide +kernel
theorem xe_265_1039 (a0 a1 a2 a3 : Option MV) (x0 x1 z : Int) (μ : MM) (G : MG) : ev 265 1039 [a0, a1, a2, a3] (vI x1 :: vI x0 :: vR z :: []) μ G = if gk G z = 10 ∧ 0 < z then (ev 133 0 [some (vR z), some (vI x0), some (vI x1)] [] μ G).bind (fun q => ev 265 1042 [a0, a1, a2, a3] (q.1.toList ++ []) q.2.1 q.2.2) else none := ev_calV (as := [vR z, vI x0, vI x1]) (r := []) mx_133 pg_265_1039 rfl rfl (Nat.le_of_ble_eq_true rfl) (Nat.le_of_ble_eq_true rfl)
theorem pg_265_1042 : mm_prog 265 1042 = some (0, .aload_n 2, 1043, []) := by decide +kernel
theorem xe_265_1042 (a0 a1 a3 : Option MV) (x : Int) (st : List MV) (μ : MM) (G : MG) : ev 265 1042 [a0, a1, some (vR x), a3] st μ G = ev 265 1043 [a0, a1, some (vR x), a3] (vR x :: st) μ G := ev_stp pg_265_1042 rfl
theorem pg_265_1043 : mm_prog 265 1043 = some (0, .aload_n 0, 1044, []) := by decide +kernel
theorem xe_265_1043 (a1 a2 a3 : Option MV) (x : Int) (st : List MV) (μ : MM) (G : MG) : ev 265 1043 [some (vR x), a1, a2, a3] st μ G = ev 265 1044 [some (vR x), a1, a2, a3] (vR x :: st) μ G := ev_stp pg_265_1043 rfl
theorem pg_265_1044 : mm_prog 265 1044 = some (0, .iload_n 3, 1045, []) := by decide +kernel
theorem xe_265_1044 (a0 a1 a2 : Option MV) (x : Int) (st : List MV) (μ : MM) (G : MG) : ev 265 1044 [a0, a1, a2, some (vI x)] st μ G = ev 265 1045 [a0, a1, a2, some (vI x)] (vI x :: st) μ G := ev_stp pg_265_1044 rfl
theorem pg_265_1045 : mm_prog 265 1045 = some (0, .iconst 1, 1046, []) := by decide +kernel
theorem xe_265_1045 (a0 a1 a2 a3 : Option MV) (st : List MV) (μ : MM) (G : MG) : ev 265 1045 [a0, a1, a2, a3] st μ G = ev 265 1046 [a0, a1, a2, a3] (vI (1) :: st) μ G := ev_stp pg_265_1045 rfl
theorem pg_265_1046 : mm_prog 265 1046 = some (0, .iadd, 1047, []) := by decide +kernel
theorem xe_265_1046 (a0 a1 a2 a3 : Option MV) (x y : Int) (st : List MV) (μ : MM) (G : MG) : ev 265 1046 [a0, a1, a2, a3] (vI y :: vI x :: st) μ G = ev 265 1047 [a0, a1, a2, a3] (vI (w32 (x + y)) :: st) μ G := ev_stp pg_265_1046 rfl
theorem pg_265_1047 : mm_prog 265 1047 = some (0, .iaload, 1048, []) := by decide +kernel
theorem xe_265_1047 (a0 a1 a2 a3 : Option MV) (x y : Int) (st : List MV) (μ : MM) (G : MG) : ev 265 1047 [a0, a1, a2, a3] (vI x :: vR y :: st) μ G = if gk G y = 100 ∧ 0 ≤ x ∧ x < gl G y then ev 265 1048 [a0, a1, a2, a3] (vI (μ y x) :: st) μ G else none := ev_if pg_265_1047 rfl
theorem pg_265_1048 : mm_prog 265 1048 = some (0, .aload_n 0, 1049, []) := by decide +kernel
theorem xe_265_1048 (a1 a2 a3 : Option MV) (x : Int) (st : List MV) (μ : MM) (G : MG) : ev 265 1048 [some (vR x), a1, a2, a3] st μ G = ev 265 1049 [some (vR x), a1, a2, a3] (vR x :: st) μ G := ev_stp pg_265_1048 rfl
theorem pg_265_1049 : mm_prog 265 1049 = some (0, .iload_n 3, 1050, []) := by decide +kernel
theorem xe_265_1049 (a0 a1 a2 : Option MV) (x : Int) (st : List MV) (μ : MM) (G : MG) : ev 265 1049 [a0, a1, a2, some (vI x)] st μ G = ev 265 1050 [a0, a1, a2, some (vI x)] (vI x :: st) μ G := ev_stp pg_265_1049 rfl
theorem pg_265_1050 : mm_prog 265 1050 = some (0, .iconst 2, 1051, []) := by decide +kernel
theorem xe_265_1050 (a0 a1 a2 a3 : Option MV) (st : List MV) (μ : MM) (G : MG) : ev 265 1050 [a0, a1, a2, a3] st μ G = ev 265 1051 [a0, a1, a2, a3] (vI (2) :: st) μ G := ev_stp pg_265_1050 rfl
theorem pg_265_1051 : mm_prog 265 1051 = some (0, .iadd, 1052, []) := by decide +kernel
theorem xe_265_1051 (a0 a1 a2 a3 : Option MV) (x y : Int) (st : List MV) (μ : MM) (G : MG) : ev 265 1051 [a0, a1, a2, a3] (vI y :: vI x :: st) μ G = ev 265 1052 [a0, a1, a2, a3] (vI (w32 (x + y)) :: st) μ G := ev_stp pg_265_1051 rfl
theorem pg_265_1052 : mm_prog 265 1052 = some (0, .iaload, 1053, []) := by decide +kernel
theorem xe_265_1052 (a0 a1 a2 a3 : Option MV) (x y : Int) (st : List MV) (μ : MM) (G : MG) : ev 265 1052 [a0, a1, a2, a3] (vI x :: vR y :: st) μ G = if gk G y = 100 ∧ 0 ≤ x ∧ x < gl G y then ev 265 1053 [a0, a1, a2, a3] (vI (μ y x) :: st) μ G else none := ev_if pg_265_1052 rfl
theorem pg_265_1053 : mm_prog 265 1053 = some (1, .invokevirtual 118, 1056, [1, 230, 2, 11]) := by decide +kernel
theorem xe_265_1053 (a0 a1 a2 a3 : Option MV) (x0 x1 z r0 : Int) (μ : MM) (G : MG) : ev 265 1053 [a0, a1, a2, a3] (vI x1 :: vI x0 :: vR z :: [vI r0]) μ G = if gk G z = 11 ∧ 0 < z then (ev 230 0 [some (vR z), some (vI x0), some (vI x1)] [] μ G).bind (fun q => ev 265 1056 [a0, a1, a2, a3] (q.1.toList ++ [vI r0]) q.2.1 q.2.2) else none := ev_calV (as := [vR z, vI x0, vI x1]) (r := [vI r0]) mx_230 pg_265_1053 rfl rfl (Nat.le_of_ble_eq_true rfl) (Nat.le_of_ble_eq_true rfl)
theorem pg_265_1056 : mm_prog 265 1056 = some (0, .if_icmp .eq 222, 1059, []) := by decide +kernel
theorem xe_265_1056 (a0 a1 a2 a3 : Option MV) (x y : Int) (st : List MV) (μ : MM) (G : MG) : ev 265 1056 [a0, a1, a2, a3] (vI y :: vI x :: st) μ G = if x = y then ev 265 1278 [a0, a1, a2, a3] st μ G else ev 265 1059 [a0, a1, a2, a3] st μ G := ev_br (mm_cnd_eq x y) pg_265_1056 rfl
theorem pg_265_1059 : mm_prog 265 1059 = some (0, .iconst 0, 1060, []) := by decide +kernel
theorem xe_265_1059 (a0 a1 a2 a3 : Option MV) (st : List MV) (μ : MM) (G : MG) : ev 265 1059 [a0, a1, a2, a3] st μ G = ev 265 1060 [a0, a1, a2, a3] (vI (0) :: st) μ G := ev_stp pg_265_1059 rfl
theorem pg_265_1060 : mm_prog 265 1060 = some (2, .ireturn, 1061, [1]) := by decide +kernel
theorem xe_265_1060 (a0 a1 a2 a3 : Option MV) (x : Int) (μ : MM) (G : MG) : ev 265 1060 [a0, a1, a2, a3] [vI x] μ G = if x = 0 ∨ x = 1 then some (some (vI x), μ, G) else none := ev_retB pg_265_1060
theorem pg_265_1061 : mm_prog 265 1061 = some (0, .aload_n 1, 1062, []) := by decide +kernel
theorem xe_265_1061 (a0 a2 a3 : Option MV) (x : Int) (st : List MV) (μ : MM) (G : MG) : ev 265 1061 [a0, some (vR x), a2, a3] st μ G = ev 265 1062 [a0, some (vR x), a2, a3] (vR x :: st) μ G := ev_stp pg_265_1061 rfl
theorem pg_265_1062 : mm_prog 265 1062 = some (0, .aload_n 0, 1063, []) := by decide +kernel
theorem xe_265_1062 (a1 a2 a3 : Option MV) (x : Int) (st : List MV) (μ : MM) (G : MG) : ev 265 1062 [some (vR x), a1, a2, a3] st μ G = ev 265 1063 [some (vR x), a1, a2, a3] (vR x :: st) μ G := ev_stp pg_265_1062 rfl
theorem pg_265_1063 : mm_prog 265 1063 = some (0, .iload_n 3, 1064, []) := by decide +kernel
theorem xe_265_1063 (a0 a1 a2 : Option MV) (x : Int) (st : List MV) (μ : MM) (G : MG) : ev 265 1063 [a0, a1, a2, some (vI x)] st μ G = ev 265 1064 [a0, a1, a2, some (vI x)] (vI x :: st) μ G := ev_stp pg_265_1063 rfl
theorem pg_265_1064 : mm_prog 265 1064 = some (0, .iconst 1, 1065, []) := by decide +kernel
theorem xe_265_1064 (a0 a1 a2 a3 : Option MV) (st : List MV) (μ : MM) (G : MG) : ev 265 1064 [a0, a1, a2, a3] st μ G = ev 265 1065 [a0, a1, a2, a3] (vI (1) :: st) μ G := ev_stp pg_265_1064 rfl
theorem pg_265_1065 : mm_prog 265 1065 = some (0, .iadd, 1066, []) := by decide +kernel
theorem xe_265_1065 (a0 a1 a2 a3 : Option MV) (x y : Int) (st : List MV) (μ : MM) (G : MG) : ev 265 1065 [a0, a1, a2, a3] (vI y :: vI x :: st) μ G = ev 265 1066 [a0, a1, a2, a3] (vI (w32 (x + y)) :: st) μ G := ev_stp pg_265_1065 rfl
theorem pg_265_1066 : mm_prog 265 1066 = some (0, .iaload, 1067, []) := by decide +kernel
theorem xe_265_1066 (a0 a1 a2 a3 : Option MV) (x y : Int) (st : List MV) (μ : MM) (G : MG) : ev 265 1066 [a0, a1, a2, a3] (vI x :: vR y :: st) μ G = if gk G y = 100 ∧ 0 ≤ x ∧ x < gl G y then ev 265 1067 [a0, a1, a2, a3] (vI (μ y x) :: st) μ G else none := ev_if pg_265_1066 rfl
theorem pg_265_1067 : mm_prog 265 1067 = some (0, .aload_n 0, 1068, []) := by decide +kernel
theorem xe_265_1067 (a1 a2 a3 : Option MV) (x : Int) (st : List MV) (μ : MM) (G : MG) : ev 265 1067 [some (vR x), a1, a2, a3] st μ G = ev 265 1068 [some (vR x), a1, a2, a3] (vR x :: st) μ G := ev_stp pg_265_1067 rfl
theorem pg_265_1068 : mm_prog 265 1068 = some (0, .iload_n 3, 1069, []) := by decide +kernel
theorem xe_265_1068 (a0 a1 a2 : Option MV) (x : Int) (st : List MV) (μ : MM) (G : MG) : ev 265 1068 [a0, a1, a2, some (vI x)] st μ G = ev 265 1069 [a0, a1, a2, some (vI x)] (vI x :: st) μ G := ev_stp pg_265_1068 rfl
theorem pg_265_1069 : mm_prog 265 1069 = some (0, .iconst 2, 1070, []) := by decide +kernel
theorem xe_265_1069 (a0 a1 a2 a3 : Option MV) (st : List MV) (μ : MM) (G : MG) : ev 265 1069 [a0, a1, a2, a3] st μ G = ev 265 1070 [a0, a1, a2, a3] (vI (2) :: st) μ G := ev_stp pg_265_1069 rfl
theorem pg_265_1070 : mm_prog 265 1070 = some (0, .iadd, 1071, []) := by decide +kernel
theorem xe_265_1070 (a0 a1 a2 a3 : Option MV) (x y : Int) (st : List MV) (μ : MM) (G : MG) : ev 265 1070 [a0, a1, a2, a3] (vI y :: vI x :: st) μ G = ev 265 1071 [a0, a1, a2, a3] (vI (w32 (x + y)) :: st) μ G := ev_stp pg_265_1070 rfl
theorem pg_265_1071 : mm_prog 265 1071 = some (0, .iaload, 1072, []) := by decide +kernel
theorem xe_265_1071 (a0 a1 a2 a3 : Option MV) (x y : Int) (st : List MV) (μ : MM) (G : MG) : ev 265 1071 [a0, a1, a2, a3] (vI x :: vR y :: st) μ G = if gk G y = 100 ∧ 0 ≤ x ∧ x < gl G y then ev 265 1072 [a0, a1, a2, a3] (vI (μ y x) :: st) μ G else none := ev_if pg_265_1071 rfl
theorem pg_265_1072 : mm_prog 265 1072 = some (1, .invokevirtual 119, 1075, [1, 134, 2, 10]) := by decide +kernel
theorem xe_265_1072 (a0 a1 a2 a3 : Option MV) (x0 x1 z : Int) (μ : MM) (G : MG) : ev 265 1072 [a0, a1, a2, a3] (vI x1 :: vI x0 :: vR z :: []) μ G = if gk G z = 10 ∧ 0 < z then (ev 134 0 [some (vR z), some (vI x0), some (vI x1)] [] μ G).bind (fun q => ev 265 1075 [a0, a1, a2, a3] (q.1.toList ++ []) q.2.1 q.2.2) else none := ev_calV (as := [vR z, vI x0, vI x1]) (r := []) mx_134 pg_265_1072 rfl rfl (Nat.le_of_ble_eq_true rfl) (Nat.le_of_ble_eq_true rfl)
theorem pg_265_1075 : mm_prog 265 1075 = some (0, .aload_n 2, 1076, []) := by decide +kernel
theorem xe_265_1075 (a0 a1 a3 : Option MV) (x : Int) (st : List MV) (μ : MM) (G : MG) : ev 265 1075 [a0, a1, some (vR x), a3] st μ G = ev 265 1076 [a0, a1, some (vR x), a3] (vR x :: st) μ G := ev_stp pg_265_1075 rfl
theorem pg_265_1076 : mm_prog 265 1076 = some (0, .aload_n 0, 1077, []) := by decide +kernel
theorem xe_265_1076 (a1 a2 a3 : Option MV) (x : Int) (st : List MV) (μ : MM) (G : MG) : ev 265 1076 [some (vR x), a1, a2, a3] st μ G = ev 265 1077 [some (vR x), a1, a2, a3] (vR x :: st) μ G := ev_stp pg_265_1076 rfl
theorem pg_265_1077 : mm_prog 265 1077 = some (0, .iload_n 3, 1078, []) := by decide +kernel
theorem xe_265_1077 (a0 a1 a2 : Option MV) (x : Int) (st : List MV) (μ : MM) (G : MG) : ev 265 1077 [a0, a1, a2, some (vI x)] st μ G = ev 265 1078 [a0, a1, a2, some (vI x)] (vI x :: st) μ G := ev_stp pg_265_1077 rfl
theorem pg_265_1078 : mm_prog 265 1078 = some (0, .iconst 1, 1079, []) := by decide +kernel
theorem xe_265_1078 (a0 a1 a2 a3 : Option MV) (st : List MV) (μ : MM) (G : MG) : ev 265 1078 [a0, a1, a2, a3] st μ G = ev 265 1079 [a0, a1, a2, a3] (vI (1) :: st) μ G := ev_stp pg_265_1078 rfl
theorem pg_265_1079 : mm_prog 265 1079 = some (0, .iadd, 1080, []) := by decide +kernel
theorem xe_265_1079 (a0 a1 a2 a3 : Option MV) (x y : Int) (st : List MV) (μ : MM) (G : MG) : ev 265 1079 [a0, a1, a2, a3] (vI y :: vI x :: st) μ G = ev 265 1080 [a0, a1, a2, a3] (vI (w32 (x + y)) :: st) μ G := ev_stp pg_265_1079 rfl
theorem pg_265_1080 : mm_prog 265 1080 = some (0, .iaload, 1081, []) := by decide +kernel
theorem xe_265_1080 (a0 a1 a2 a3 : Option MV) (x y : Int) (st : List MV) (μ : MM) (G : MG) : ev 265 1080 [a0, a1, a2, a3] (vI x :: vR y :: st) μ G = if gk G y = 100 ∧ 0 ≤ x ∧ x < gl G y then ev 265 1081 [a0, a1, a2, a3] (vI (μ y x) :: st) μ G else none := ev_if pg_265_1080 rfl
theorem pg_265_1081 : mm_prog 265 1081 = some (0, .aload_n 0, 1082, []) := by decide +kernel
theorem xe_265_1081 (a1 a2 a3 : Option MV) (x : Int) (st : List MV) (μ : MM) (G : MG) : ev 265 1081 [some (vR x), a1, a2, a3] st μ G = ev 265 1082 [some (vR x), a1, a2, a3] (vR x :: st) μ G := ev_stp pg_265_1081 rfl
theorem pg_265_1082 : mm_prog 265 1082 = some (0, .iload_n 3, 1083, []) := by decide +kernel
theorem xe_265_1082 (a0 a1 a2 : Option MV) (x : Int) (st : List MV) (μ : MM) (G : MG) : ev 265 1082 [a0, a1, a2, some (vI x)] st μ G = ev 265 1083 [a0, a1, a2, some (vI x)] (vI x :: st) μ G := ev_stp pg_265_1082 rfl
theorem pg_265_1083 : mm_prog 265 1083 = some (0, .iconst 2, 1084, []) := by decide +kernel
theorem xe_265_1083 (a0 a1 a2 a3 : Option MV) (st : List MV) (μ : MM) (G : MG) : ev 265 1083 [a0, a1, a2, a3] st μ G = ev 265 1084 [a0, a1, a2, a3] (vI (2) :: st) μ G := ev_stp pg_265_1083 rfl
theorem pg_265_1084 : mm_prog 265 1084 = some (0, .iadd, 1085, []) := by decide +kernel
theorem xe_265_1084 (a0 a1 a2 a3 : Option MV) (x y : Int) (st : List MV) (μ : MM) (G : MG) : ev 265 1084 [a0, a1, a2, a3] (vI y :: vI x :: st) μ G = ev 265 1085 [a0, a1, a2, a3] (vI (w32 (x + y)) :: st) μ G := ev_stp pg_265_1084 rfl
theorem pg_265_1085 : mm_prog 265 1085 = some (0, .iaload, 1086, []) := by decide +kernel
theorem xe_265_1085 (a0 a1 a2 a3 : Option MV) (x y : Int) (st : List MV) (μ : MM) (G : MG) : ev 265 1085 [a0, a1, a2, a3] (vI x :: vR y :: st) μ G = if gk G y = 100 ∧ 0 ≤ x ∧ x < gl G y then ev 265 1086 [a0, a1, a2, a3] (vI (μ y x) :: st) μ G else none := ev_if pg_265_1085 rfl
theorem pg_265_1086 : mm_prog 265 1086 = some (1, .invokevirtual 122, 1089, [1, 231, 2, 11]) := by decide +kernel
theorem xe_265_1086 (a0 a1 a2 a3 : Option MV) (x0 x1 z r0 : Int) (μ : MM) (G : MG) : ev 265 1086 [a0, a1, a2, a3] (vI x1 :: vI x0 :: vR z :: [vI r0]) μ G = if gk G z = 11 ∧ 0 < z then (ev 231 0 [some (vR z), some (vI x0), some (vI x1)] [] μ G).bind (fun q => ev 265 1089 [a0, a1, a2, a3] (q.1.toList ++ [vI r0]) q.2.1 q.2.2) else none := ev_calV (as := [vR z, vI x0, vI x1]) (r := [vI r0]) mx_231 pg_265_1086 rfl rfl (Nat.le_of_ble_eq_true rfl) (Nat.le_of_ble_eq_true rfl)
theorem pg_265_1089 : mm_prog 265 1089 = some (0, .if_icmp .eq 189, 1092, []) := by decide +kernel
theorem xe_265_1089 (a0 a1 a2 a3 : Option MV) (x y : Int) (st : List MV) (μ : MM) (G : MG) : ev 265 1089 [a0, a1, a2, a3] (vI y :: vI x :: st) μ G = if x = y then ev 265 1278 [a0, a1, a2, a3] st μ G else ev 265 1092 [a0, a1, a2, a3] st μ G := ev_br (mm_cnd_eq x y) pg_265_1089 rfl
theorem pg_265_1092 : mm_prog 265 1092 = some (0, .iconst 0, 1093, []) := by decide +kernel
theorem xe_265_1092 (a0 a1 a2 a3 : Option MV) (st : List MV) (μ : MM) (G : MG) : ev 265 1092 [a0, a1, a2, a3] st μ G = ev 265 1093 [a0, a1, a2, a3] (vI (0) :: st) μ G := ev_stp pg_265_1092 rfl
theorem pg_265_1093 : mm_prog 265 1093 = some (2, .ireturn, 1094, [1]) := by decide +kernel
theorem xe_265_1093 (a0 a1 a2 a3 : Option MV) (x : Int) (μ : MM) (G : MG) : ev 265 1093 [a0, a1, a2, a3] [vI x] μ G = if x = 0 ∨ x = 1 then some (some (vI x), μ, G) else none := ev_retB pg_265_1093
theorem pg_265_1094 : mm_prog 265 1094 = some (0, .aload_n 1, 1095, []) := by decide +kernel
theorem xe_265_1094 (a0 a2 a3 : Option MV) (x : Int) (st : List MV) (μ : MM) (G : MG) : ev 265 1094 [a0, some (vR x), a2, a3] st μ G = ev 265 1095 [a0, some (vR x), a2, a3] (vR x :: st) μ G := ev_stp pg_265_1094 rfl
theorem pg_265_1095 : mm_prog 265 1095 = some (0, .aload_n 0, 1096, []) := by decide +kernel
theorem xe_265_1095 (a1 a2 a3 : Option MV) (x : Int) (st : List MV) (μ : MM) (G : MG) : ev 265 1095 [some (vR x), a1, a2, a3] st μ G = ev 265 1096 [some (vR x), a1, a2, a3] (vR x :: st) μ G := ev_stp pg_265_1095 rfl
theorem pg_265_1096 : mm_prog 265 1096 = some (0, .iload_n 3, 1097, []) := by decide +kernel
theorem xe_265_1096 (a0 a1 a2 : Option MV) (x : Int) (st : List MV) (μ : MM) (G : MG) : ev 265 1096 [a0, a1, a2, some (vI x)] st μ G = ev 265 1097 [a0, a1, a2, some (vI x)] (vI x :: st) μ G := ev_stp pg_265_1096 rfl
theorem pg_265_1097 : mm_prog 265 1097 = some (0, .iconst 1, 1098, []) := by decide +kernel
theorem xe_265_1097 (a0 a1 a2 a3 : Option MV) (st : List MV) (μ : MM) (G : MG) : ev 265 1097 [a0, a1, a2, a3] st μ G = ev 265 1098 [a0, a1, a2, a3] (vI (1) :: st) μ G := ev_stp pg_265_1097 rfl
theorem pg_265_1098 : mm_prog 265 1098 = some (0, .iadd, 1099, []) := by decide +kernel
theorem xe_265_1098 (a0 a1 a2 a3 : Option MV) (x y : Int) (st : List MV) (μ : MM) (G : MG) : ev 265 1098 [a0, a1, a2, a3] (vI y :: vI x :: st) μ G = ev 265 1099 [a0, a1, a2, a3] (vI (w32 (x + y)) :: st) μ G := ev_stp pg_265_1098 rfl
theorem pg_265_1099 : mm_prog 265 1099 = some (0, .iaload, 1100, []) := by decide +kernel
theorem xe_265_1099 (a0 a1 a2 a3 : Option MV) (x y : Int) (st : List MV) (μ : MM) (G : MG) : ev 265 1099 [a0, a1, a2, a3] (vI x :: vR y :: st) μ G = if gk G y = 100 ∧ 0 ≤ x ∧ x < gl G y then ev 265 1100 [a0, a1, a2, a3] (vI (μ y x) :: st) μ G else none := ev_if pg_265_1099 rfl
theorem pg_265_1100 : mm_prog 265 1100 = some (0, .aload_n 0, 1101, []) := by decide +kernel
theorem xe_265_1100 (a1 a2 a3 : Option MV) (x : Int) (st : List MV) (μ : MM) (G : MG) : ev 265 1100 [some (vR x), a1, a2, a3] st μ G = ev 265 1101 [some (vR x), a1, a2, a3] (vR x :: st) μ G := ev_stp pg_265_1100 rfl
theorem pg_265_1101 : mm_prog 265 1101 = some (0, .iload_n 3, 1102, []) := by decide +kernel
theorem xe_265_1101 (a0 a1 a2 : Option MV) (x : Int) (st : List MV) (μ : MM) (G : MG) : ev 265 1101 [a0, a1, a2, some (vI x)] st μ G = ev 265 1102 [a0, a1, a2, some (vI x)] (vI x :: st) μ G := ev_stp pg_265_1101 rfl
theorem pg_265_1102 : mm_prog 265 1102 = some (0, .iconst 2, 1103, []) := by decide +kernel
theorem xe_265_1102 (a0 a1 a2 a3 : Option MV) (st : List MV) (μ : MM) (G : MG) : ev 265 1102 [a0, a1, a2, a3] st μ G = ev 265 1103 [a0, a1, a2, a3] (vI (2) :: st) μ G := ev_stp pg_265_1102 rfl
theorem pg_265_1103 : mm_prog 265 1103 = some (0, .iadd, 1104, []) := by decide +kernel
theorem xe_265_1103 (a0 a1 a2 a3 : Option MV) (x y : Int) (st : List MV) (μ : MM) (G : MG) : ev 265 1103 [a0, a1, a2, a3] (vI y :: vI x :: st) μ G = ev 265 1104 [a0, a1, a2, a3] (vI (w32 (x + y)) :: st) μ G := ev_stp pg_265_1103 rfl
theorem pg_265_1104 : mm_prog 265 1104 = some (0, .iaload, 1105, []) := by decide +kernel
theorem xe_265_1104 (a0 a1 a2 a3 : Option MV) (x y : Int) (st : List MV) (μ : MM) (G : MG) : ev 265 1104 [a0, a1, a2, a3] (vI x :: vR y :: st) μ G = if gk G y = 100 ∧ 0 ≤ x ∧ x < gl G y then ev 265 1105 [a0, a1, a2, a3] (vI (μ y x) :: st) μ G else none := ev_if pg_265_1104 rfl
theorem pg_265_1105 : mm_prog 265 1105 = some (1, .invokevirtual 123, 1108, [1, 135, 2, 10]) := by decide +kernel
theorem xe_265_1105 (a0 a1 a2 a3 : Option MV) (x0 x1 z : Int) (μ : MM) (G : MG) : ev 265 1105 [a0, a1, a2, a3] (vI x1 :: vI x0 :: vR z :: []) μ G = if gk G z = 10 ∧ 0 < z then (ev 135 0 [some (vR z), some (vI x0), some (vI x1)] [] μ G).bind (fun q => ev 265 1108 [a0, a1, a2, a3] (q.1.toList ++ []) q.2.1 q.2.2) else none := ev_calV (as := [vR z, vI x0, vI x1]) (r := []) mx_135 pg_265_1105 rfl rfl (Nat.le_of_ble_eq_true rfl) (Nat.le_of_ble_eq_true rfl)
theorem pg_265_1108 : mm_prog 265 1108 = some (0, .aload_n 2, 1109, []) := by decide +kernel
theorem xe_265_1108 (a0 a1 a3 : Option MV) (x : Int) (st : List MV) (μ : MM) (G : MG) : ev 265 1108 [a0, a1, some (vR x), a3] st μ G = ev 265 1109 [a0, a1, some (vR x), a3] (vR x :: st) μ G := ev_stp pg_265_1108 rfl
theorem pg_265_1109 : mm_prog 265 1109 = some (0, .aload_n 0, 1110, []) := by decide +kernel
theorem xe_265_1109 (a1 a2 a3 : Option MV) (x : Int) (st : List MV) (μ : MM) (G : MG) : ev 265 1109 [some (vR x), a1, a2, a3] st μ G = ev 265 1110 [some (vR x), a1, a2, a3] (vR x :: st) μ G := ev_stp pg_265_1109 rfl
theorem pg_265_1110 : mm_prog 265 1110 = some (0, .iload_n 3, 1111, []) := by decide +kernel
theorem xe_265_1110 (a0 a1 a2 : Option MV) (x : Int) (st : List MV) (μ : MM) (G : MG) : ev 265 1110 [a0, a1, a2, some (vI x)] st μ G = ev 265 1111 [a0, a1, a2, some (vI x)] (vI x :: st) μ G := ev_stp pg_265_1110 rfl
theorem pg_265_1111 : mm_prog 265 1111 = some (0, .iconst 1, 1112, []) := by decide +kernel
theorem xe_265_1111 (a0 a1 a2 a3 : Option MV) (st : List MV) (μ : MM) (G : MG) : ev 265 1111 [a0, a1, a2, a3] st μ G = ev 265 1112 [a0, a1, a2, a3] (vI (1) :: st) μ G := ev_stp pg_265_1111 rfl
theorem pg_265_1112 : mm_prog 265 1112 = some (0, .iadd, 1113, []) := by decide +kernel
theorem xe_265_1112 (a0 a1 a2 a3 : Option MV) (x y : Int) (st : List MV) (μ : MM) (G : MG) : ev 265 1112 [a0, a1, a2, a3] (vI y :: vI x :: st) μ G = ev 265 1113 [a0, a1, a2, a3] (vI (w32 (x + y)) :: st) μ G := ev_stp pg_265_1112 rfl
theorem pg_265_1113 : mm_prog 265 1113 = some (0, .iaload, 1114, []) := by decide +kernel
theorem xe_265_1113 (a0 a1 a2 a3 : Option MV) (x y : Int) (st : List MV) (μ : MM) (G : MG) : ev 265 1113 [a0, a1, a2, a3] (vI x :: vR y :: st) μ G = if gk G y = 100 ∧ 0 ≤ x ∧ x < gl G y then ev 265 1114 [a0, a1, a2, a3] (vI (μ y x) :: st) μ G else none := ev_if pg_265_1113 rfl
theorem pg_265_1114 : mm_prog 265 1114 = some (0, .aload_n 0, 1115, []) := by decide +kernel
theorem xe_265_1114 (a1 a2 a3 : Option MV) (x : Int) (st : List MV) (μ : MM) (G : MG) : ev 265 1114 [some (vR x), a1, a2, a3] st μ G = ev 265 1115 [some (vR x), a1, a2, a3] (vR x :: st) μ G := ev_stp pg_265_1114 rfl
theorem pg_265_1115 : mm_prog 265 1115 = some (0, .iload_n 3, 1116, []) := by decide +kernel
theorem xe_265_1115 (a0 a1 a2 : Option MV) (x : Int) (st : List MV) (μ : MM) (G : MG) : ev 265 1115 [a0, a1, a2, some (vI x)] st μ G = ev 265 1116 [a0, a1, a2, some (vI x)] (vI x :: st) μ G := ev_stp pg_265_1115 rfl
theorem pg_265_1116 : mm_prog 265 1116 = some (0, .iconst 2, 1117, []) := by decide +kernel
theorem xe_265_1116 (a0 a1 a2 a3 : Option MV) (st : List MV) (μ : MM) (G : MG) : ev 265 1116 [a0, a1, a2, a3] st μ G = ev 265 1117 [a0, a1, a2, a3] (vI (2) :: st) μ G := ev_stp pg_265_1116 rfl
theorem pg_265_1117 : mm_prog 265 1117 = some (0, .iadd, 1118, []) := by decide +kernel
theorem xe_265_1117 (a0 a1 a2 a3 : Option MV) (x y : Int) (st : List MV) (μ : MM) (G : MG) : ev 265 1117 [a0, a1, a2, a3] (vI y :: vI x :: st) μ G = ev 265 1118 [a0, a1, a2, a3] (vI (w32 (x + y)) :: st) μ G := ev_stp pg_265_1117 rfl
theorem pg_265_1118 : mm_prog 265 1118 = some (0, .iaload, 1119, []) := by decide +kernel
theorem xe_265_1118 (a0 a1 a2 a3 : Option MV) (x y : Int) (st : List MV) (μ : MM) (G : MG) : ev 265 1118 [a0, a1, a2, a3] (vI x :: vR y :: st) μ G = if gk G y = 100 ∧ 0 ≤ x ∧ x < gl G y then ev 265 1119 [a0, a1, a2, a3] (vI (μ y x) :: st) μ G else none := ev_if pg_265_1118 rfl
theorem pg_265_1119 : mm_prog 265 1119 = some (1, .invokevirtual 126, 1122, [1, 226, 2, 11]) := by decide +kernel
theorem xe_265_1119 (a0 a1 a2 a3 : Option MV) (x0 x1 z r0 : Int) (μ : MM) (G : MG) : ev 265 1119 [a0, a1, a2, a3] (vI x1 :: vI x0 :: vR z :: [vI r0]) μ G = if gk G z = 11 ∧ 0 < z then (ev 226 0 [some (vR z), some (vI x0), some (vI x1)] [] μ G).bind (fun q => ev 265 1122 [a0, a1, a2, a3] (q.1.toList ++ [vI r0]) q.2.1 q.2.2) else none := ev_calV (as := [vR z, vI x0, vI x1]) (r := [vI r0]) mx_226 pg_265_1119 rfl rfl (Nat.le_of_ble_eq_true rfl) (Nat.le_of_ble_eq_true rfl)
theorem pg_265_1122 : mm_prog 265 1122 = some (0, .if_icmp .eq 156, 1125, []) := by decide +kernel
theorem xe_265_1122 (a0 a1 a2 a3 : Option MV) (x y : Int) (st : List MV) (μ : MM) (G : MG) : ev 265 1122 [a0, a1, a2, a3] (vI y :: vI x :: st) μ G = if x = y then ev 265 1278 [a0, a1, a2, a3] st μ G else ev 265 1125 [a0, a1, a2, a3] st μ G := ev_br (mm_cnd_eq x y) pg_265_1122 rfl
theorem pg_265_1125 : mm_prog 265 1125 = some (0, .iconst 0, 1126, []) := by decide +kernel
theorem xe_265_1125 (a0 a1 a2 a3 : Option MV) (st : List MV) (μ : MM) (G : MG) : ev 265 1125 [a0, a1, a2, a3] st μ G = ev 265 1126 [a0, a1, a2, a3] (vI (0) :: st) μ G := ev_stp pg_265_1125 rfl
theorem pg_265_1126 : mm_prog 265 1126 = some (2, .ireturn, 1127, [1]) := by decide +kernel
theorem xe_265_1126 (a0 a1 a2 a3 : Option MV) (x : Int) (μ : MM) (G : MG) : ev 265 1126 [a0, a1, a2, a3] [vI x] μ G = if x = 0 ∨ x = 1 then some (some (vI x), μ, G) else none := ev_retB pg_265_1126
theorem pg_265_1127 : mm_prog 265 1127 = some (0, .aload_n 1, 1128, []) := by decide +kernel
theorem xe_265_1127 (a0 a2 a3 : Option MV) (x : Int) (st : List MV) (μ : MM) (G : MG) : ev 265 1127 [a0, some (vR x), a2, a3] st μ G = ev 265 1128 [a0, some (vR x), a2, a3] (vR x :: st) μ G := ev_stp pg_265_1127 rfl
theorem pg_265_1128 : mm_prog 265 1128 = some (0, .aload_n 0, 1129, []) := by decide +kernel
theorem xe_265_1128 (a1 a2 a3 : Option MV) (x : Int) (st : List MV) (μ : MM) (G : MG) : ev 265 1128 [some (vR x), a1, a2, a3] st μ G = ev 265 1129 [some (vR x), a1, a2, a3] (vR x :: st) μ G := ev_stp pg_265_1128 rfl
theorem pg_265_1129 : mm_prog 265 1129 = some (0, .iload_n 3, 1130, []) := by decide +kernel
theorem xe_265_1129 (a0 a1 a2 : Option MV) (x : Int) (st : List MV) (μ : MM) (G : MG) : ev 265 1129 [a0, a1, a2, some (vI x)] st μ G = ev 265 1130 [a0, a1, a2, some (vI x)] (vI x :: st) μ G := ev_stp pg_265_1129 rfl
theorem pg_265_1130 : mm_prog 265 1130 = some (0, .iconst 1, 1131, []) := by decide +kernel
theorem xe_265_1130 (a0 a1 a2 a3 : Option MV) (st : List MV) (μ : MM) (G : MG) : ev 265 1130 [a0, a1, a2, a3] st μ G = ev 265 1131 [a0, a1, a2, a3] (vI (1) :: st) μ G := ev_stp pg_265_1130 rfl
theorem pg_265_1131 : mm_prog 265 1131 = some (0, .iadd, 1132, []) := by decide +kernel
theorem xe_265_1131 (a0 a1 a2 a3 : Option MV) (x y : Int) (st : List MV) (μ : MM) (G : MG) : ev 265 1131 [a0, a1, a2, a3] (vI y :: vI x :: st) μ G = ev 265 1132 [a0, a1, a2, a3] (vI (w32 (x + y)) :: st) μ G := ev_stp pg_265_1131 rfl
theorem pg_265_1132 : mm_prog 265 1132 = some (0, .iaload, 1133, []) := by decide +kernel
theorem xe_265_1132 (a0 a1 a2 a3 : Option MV) (x y : Int) (st : List MV) (μ : MM) (G : MG) : ev 265 1132 [a0, a1, a2, a3] (vI x :: vR y :: st) μ G = if gk G y = 100 ∧ 0 ≤ x ∧ x < gl G y then ev 265 1133 [a0, a1, a2, a3] (vI (μ y x) :: st) μ G else none := ev_if pg_265_1132 rfl
theorem pg_265_1133 : mm_prog 265 1133 = some (1, .invokevirtual 127, 1136, [1, 136, 1, 10]) := by decide +kernel
theorem xe_265_1133 (a0 a1 a2 a3 : Option MV) (x0 z : Int) (μ : MM) (G : MG) : ev 265 1133 [a0, a1, a2, a3] (vI x0 :: vR z :: []) μ G = if gk G z = 10 ∧ 0 < z then (ev 136 0 [some (vR z), some (vI x0)] [] μ G).bind (fun q => ev 265 1136 [a0, a1, a2, a3] (q.1.toList ++ []) q.2.1 q.2.2) else none := ev_calV (as := [vR z, vI x0]) (r := []) mx_136 pg_265_1133 rfl rfl (Nat.le_of_ble_eq_true rfl) (Nat.le_of_ble_eq_true rfl)
theorem pg_265_1136 : mm_prog 265 1136 = some (0, .aload_n 2, 1137, []) := by decide +kernel
theorem xe_265_1136 (a0 a1 a3 : Option MV) (x : Int) (st : List MV) (μ : MM) (G : MG) : ev 265 1136 [a0, a1, some (vR x), a3] st μ G = ev 265 1137 [a0, a1, some (vR x), a3] (vR x :: st) μ G := ev_stp pg_265_1136 rfl
theorem pg_265_1137 : mm_prog 265 1137 = some (0, .aload_n 0, 1138, []) := by decide +kernel
theorem xe_265_1137 (a1 a2 a3 : Option MV) (x : Int) (st : List MV) (μ : MM) (G : MG) : ev 265 1137 [some (vR x), a1, a2, a3] st μ G = ev 265 1138 [some (vR x), a1, a2, a3] (vR x :: st) μ G := ev_stp pg_265_1137 rfl
theorem pg_265_1138 : mm_prog 265 1138 = some (0, .iload_n 3, 1139, []) := by decide +kernel
theorem xe_265_1138 (a0 a1 a2 : Option MV) (x : Int) (st : List MV) (μ : MM) (G : MG) : ev 265 1138 [a0, a1, a2, some (vI x)] st μ G = ev 265 1139 [a0, a1, a2, some (vI x)] (vI x :: st) μ G := ev_stp pg_265_1138 rfl
theorem pg_265_1139 : mm_prog 265 1139 = some (0, .iconst 1, 1140, []) := by decide +kernel
theorem xe_265_1139 (a0 a1 a2 a3 : Option MV) (st : List MV) (μ : MM) (G : MG) : ev 265 1139 [a0, a1, a2, a3] st μ G = ev 265 1140 [a0, a1, a2, a3] (vI (1) :: st) μ G := ev_stp pg_265_1139 rfl
theorem pg_265_1140 : mm_prog 265 1140 = some (0, .iadd, 1141, []) := by decide +kernel
theorem xe_265_1140 (a0 a1 a2 a3 : Option MV) (x y : Int) (st : List MV) (μ : MM) (G : MG) : ev 265 1140 [a0, a1, a2, a3] (vI y :: vI x :: st) μ G = ev 265 1141 [a0, a1, a2, a3] (vI (w32 (x + y)) :: st) μ G := ev_stp pg_265_1140 rfl
theorem pg_265_1141 : mm_prog 265 1141 = some (0, .iaload, 1142, []) := by decide +kernel
theorem xe_265_1141 (a0 a1 a2 a3 : Option MV) (x y : Int) (st : List MV) (μ : MM) (G : MG) : ev 265 1141 [a0, a1, a2, a3] (vI x :: vR y :: st) μ G = if gk G y = 100 ∧ 0 ≤ x ∧ x < gl G y then ev 265 1142 [a0, a1, a2, a3] (vI (μ y x) :: st) μ G else none := ev_if pg_265_1141 rfl
theorem pg_265_1142 : mm_prog 265 1142 = some (1, .invokevirtual 130, 1145, [1, 232, 1, 11]) := by decide +kernel
theorem xe_265_1142 (a0 a1 a2 a3 : Option MV) (x0 z r0 : Int) (μ : MM) (G : MG) : ev 265 1142 [a0, a1, a2, a3] (vI x0 :: vR z :: [vI r0]) μ G = if gk G z = 11 ∧ 0 < z then (ev 232 0 [some (vR z), some (vI x0), none] [] μ G).bind (fun q => ev 265 1145 [a0, a1, a2, a3] (q.1.toList ++ [vI r0]) q.2.1 q.2.2) else none := ev_calV (as := [vR z, vI x0]) (r := [vI r0]) mx_232 pg_265_1142 rfl rfl (Nat.le_of_ble_eq_true rfl) (Nat.le_of_ble_eq_true rfl)
theorem pg_265_1145 : mm_prog 265 1145 = some (0, .if_icmp .eq 133, 1148, []) := by decide +kernel
theorem xe_265_1145 (a0 a1 a2 a3 : Option MV) (x y : Int) (st : List MV) (μ : MM) (G : MG) : ev 265 1145 [a0, a1, a2, a3] (vI y :: vI x :: st) μ G = if x = y then ev 265 1278 [a0, a1, a2, a3] st μ G else ev 265 1148 [a0, a1, a2, a3] st μ G := ev_br (mm_cnd_eq x y) pg_265_1145 rfl
theorem pg_265_1148 : mm_prog 265 1148 = some (0, .iconst 0, 1149, []) := by decide +kernel
theorem xe_265_1148 (a0 a1 a2 a3 : Option MV) (st : List MV) (μ : MM) (G : MG) : ev 265 1148 [a0, a1, a2, a3] st μ G = ev 265 1149 [a0, a1, a2, a3] (vI (0) :: st) μ G := ev_stp pg_265_1148 rfl
theorem pg_265_1149 : mm_prog 265 1149 = some (2, .ireturn, 1150, [1]) := by decide +kernel
theorem xe_265_1149 (a0 a1 a2 a3 : Option MV) (x : Int) (μ : MM) (G : MG) : ev 265 1149 [a0, a1, a2, a3] [vI x] μ G = if x = 0 ∨ x = 1 then some (some (vI x), μ, G) else none := ev_retB pg_265_1149
theorem pg_265_1150 : mm_prog 265 1150 = some (0, .aload_n 1, 1151, []) := by decide +kernel
theorem xe_265_1150 (a0 a2 a3 : Option MV) (x : Int) (st : List MV) (μ : MM) (G : MG) : ev 265 1150 [a0, some (vR x), a2, a3] st μ G = ev 265 1151 [a0, some (vR x), a2, a3] (vR x :: st) μ G := ev_stp pg_265_1150 rfl
theorem pg_265_1151 : mm_prog 265 1151 = some (0, .aload_n 0, 1152, []) := by decide +kernel
theorem xe_265_1151 (a1 a2 a3 : Option MV) (x : Int) (st : List MV) (μ : MM) (G : MG) : ev 265 1151 [some (vR x), a1, a2, a3] st μ G = ev 265 1152 [some (vR x), a1, a2, a3] (vR x :: st) μ G := ev_stp pg_265_1151 rfl
theorem pg_265_1152 : mm_prog 265 1152 = some (0, .iload_n 3, 1153, []) := by decide +kernel
theorem xe_265_1152 (a0 a1 a2 : Option MV) (x : Int) (st : List MV) (μ : MM) (G : MG) : ev 265 1152 [a0, a1, a2, some (vI x)] st μ G = ev 265 1153 [a0, a1, a2, some (vI x)] (vI x :: st) μ G := ev_stp pg_265_1152 rfl
theorem pg_265_1153 : mm_prog 265 1153 = some (0, .iconst 1, 1154, []) := by decide +kernel
theorem xe_265_1153 (a0 a1 a2 a3 : Option MV) (st : List MV) (μ : MM) (G : MG) : ev 265 1153 [a0, a1, a2, a3] st μ G = ev 265 1154 [a0, a1, a2, a3] (vI (1) :: st) μ G := ev_stp pg_265_1153 rfl
theorem pg_265_1154 : mm_prog 265 1154 = some (0, .iadd, 1155, []) := by decide +kernel
theorem xe_265_1154 (a0 a1 a2 a3 : Option MV) (x y : Int) (st : List MV) (μ : MM) (G : MG) : ev 265 1154 [a0, a1, a2, a3] (vI y :: vI x :: st) μ G = ev 265 1155 [a0, a1, a2, a3] (vI (w32 (x + y)) :: st) μ G := ev_stp pg_265_1154 rfl
theorem pg_265_1155 : mm_prog 265 1155 = some (0, .iaload, 1156, []) := by decide +kernel
theorem xe_265_1155 (a0 a1 a2 a3 : Option MV) (x y : Int) (st : List MV) (μ : MM) (G : MG) : ev 265 1155 [a0, a1, a2, a3] (vI x :: vR y :: st) μ G = if gk G y = 100 ∧ 0 ≤ x ∧ x < gl G y then ev 265 1156 [a0, a1, a2, a3] (vI (μ y x) :: st) μ G else none := ev_if pg_265_1155 rfl
theorem pg_265_1156 : mm_prog 265 1156 = some (1, .invokevirtual 131, 1159, [1, 140, 1, 10]) := by decide +kernel
theorem xe_265_1156 (a0 a1 a2 a3 : Option MV) (x0 z : Int) (μ : MM) (G : MG) : ev 265 1156 [a0, a1, a2, a3] (vI x0 :: vR z :: []) μ G = if gk G z = 10 ∧ 0 < z then (ev 140 0 [some (vR z), some (vI x0), none] [] μ G).bind (fun q => ev 265 1159 [a0, a1, a2, a3] (q.1.toList ++ []) q.2.1 q.2.2) else none := ev_calV (as := [vR z, vI x0]) (r := []) mx_140 pg_265_1156 rfl rfl (Nat.le_of_ble_eq_true rfl) (Nat.le_of_ble_eq_true rfl)
theorem pg_265_1159 : mm_prog 265 1159 = some (0, .aload_n 2, 1160, []) := by decide +kernel
theorem xe_265_1159 (a0 a1 a3 : Option MV) (x : Int) (st : List MV) (μ : MM) (G : MG) : ev 265 1159 [a0, a1, some (vR x), a3] st μ G = ev 265 1160 [a0, a1, some (vR x), a3] (vR x :: st) μ G := ev_stp pg_265_1159 rfl
theorem pg_265_1160 : mm_prog 265 1160 = some (0, .aload_n 0, 1161, []) := by decide +kernel
theorem xe_265_1160 (a1 a2 a3 : Option MV) (x : Int) (st : List MV) (μ : MM) (G : MG) : ev 265 1160 [some (vR x), a1, a2, a3] st μ G = ev 265 1161 [some (vR x), a1, a2, a3] (vR x :: st) μ G := ev_stp pg_265_1160 rfl
theorem pg_265_1161 : mm_prog 265 1161 = some (0, .iload_n 3, 1162, []) := by decide +kernel
theorem xe_265_1161 (a0 a1 a2 : Option MV) (x : Int) (st : List MV) (μ : MM) (G : MG) : ev 265 1161 [a0, a1, a2, some (vI x)] st μ G = ev 265 1162 [a0, a1, a2, some (vI x)] (vI x :: st) μ G := ev_stp pg_265_1161 rfl
theorem pg_265_1162 : mm_prog 265 1162 = some (0, .iconst 1, 1163, []) := by decide +kernel
theorem xe_265_1162 (a0 a1 a2 a3 : Option MV) (st : List MV) (μ : MM) (G : MG) : ev 265 1162 [a0, a1, a2, a3] st μ G = ev 265 1163 [a0, a1, a2, a3] (vI (1) :: st) μ G := ev_stp pg_265_1162 rfl
theorem pg_265_1163 : mm_prog 265 1163 = some (0, .iadd, 1164, []) := by decide +kernel
theorem xe_265_1163 (a0 a1 a2 a3 : Option MV) (x y : Int) (st : List MV) (μ : MM) (G : MG) : ev 265 1163 [a0, a1, a2, a3] (vI y :: vI x :: st) μ G = ev 265 1164 [a0, a1, a2, a3] (vI (w32 (x + y)) :: st) μ G := ev_stp pg_265_1163 rfl
theorem pg_265_1164 : mm_prog 265 1164 = some (0, .iaload, 1165, []) := by decide +kernel
theorem xe_265_1164 (a0 a1 a2 a3 : Option MV) (x y : Int) (st : List MV) (μ : MM) (G : MG) : ev 265 1164 [a0, a1, a2, a3] (vI x :: vR y :: st) μ G = if gk G y = 100 ∧ 0 ≤ x ∧ x < gl G y then ev 265 1165 [a0, a1, a2, a3] (vI (μ y x) :: st) μ G else none := ev_if pg_265_1164 rfl
theorem pg_265_1165 : mm_prog 265 1165 = some (1, .invokevirtual 134, 1168, [1, 237, 1, 11]) := by decide +kernel
theorem xe_265_1165 (a0 a1 a2 a3 : Option MV) (x0 z r0 : Int) (μ : MM) (G : MG) : ev 265 1165 [a0, a1, a2, a3] (vI x0 :: vR z :: [vI r0]) μ G = if gk G z = 11 ∧ 0 < z then (ev 237 0 [some (vR z), some (vI x0), none] [] μ G).bind (fun q => ev 265 1168 [a0, a1, a2, a3] (q.1.toList ++ [vI r0]) q.2.1 q.2.2) else none := ev_calV (as := [vR z, vI x0]) (r := [vI r0]) mx_237 pg_265_1165 rfl rfl (Nat.le_of_ble_eq_true rfl) (Nat.le_of_ble_eq_true rfl)
theorem pg_265_1168 : mm_prog 265 1168 = some (0, .if_icmp .eq 110, 1171, []) := by decide +kernel
theorem xe_265_1168 (a0 a1 a2 a3 : Option MV) (x y : Int) (st : List MV) (μ : MM) (G : MG) : ev 265 1168 [a0, a1, a2, a3] (vI y :: vI x :: st) μ G = if x = y then ev 265 1278 [a0, a1, a2, a3] st μ G else ev 265 1171 [a0, a1, a2, a3] st μ G := ev_br (mm_cnd_eq x y) pg_265_1168 rfl
theorem pg_265_1171 : mm_prog 265 1171 = some (0, .iconst 0, 1172, []) := by decide +kernel
theorem xe_265_1171 (a0 a1 a2 a3 : Option MV) (st : List MV) (μ : MM) (G : MG) : ev 265 1171 [a0, a1, a2, a3] st μ G = ev 265 1172 [a0, a1, a2, a3] (vI (0) :: st) μ G := ev_stp pg_265_1171 rfl
theorem pg_265_1172 : mm_prog 265 1172 = some (2, .ireturn, 1173, [1]) := by decide +kernel
theorem xe_265_1172 (a0 a1 a2 a3 : Option MV) (x : Int) (μ : MM) (G : MG) : ev 265 1172 [a0, a1, a2, a3] [vI x] μ G = if x = 0 ∨ x = 1 then some (some (vI x), μ, G) else none := ev_retB pg_265_1172
theorem pg_265_1173 : mm_prog 265 1173 = some (0, .aload_n 1, 1174, []) := by decide +kernel
theorem xe_265_1173 (a0 a2 a3 : Option MV) (x : Int) (st : List MV) (μ : MM) (G : MG) : ev 265 1173 [a0, some (vR x), a2, a3] st μ G = ev 265 1174 [a0, some (vR x), a2, a3] (vR x :: st) μ G := ev_stp pg_265_1173 rfl
theorem pg_265_1174 : mm_prog 265 1174 = some (0, .aload_n 0, 1175, []) := by decide +kernel
theorem xe_265_1174 (a1 a2 a3 : Option MV) (x : Int) (st : List MV) (μ : MM) (G : MG) : ev 265 1174 [some (vR x), a1, a2, a3] st μ G = ev 265 1175 [some (vR x), a1, a2, a3] (vR x :: st) μ G := ev_stp pg_265_1174 rfl
theorem pg_265_1175 : mm_prog 265 1175 = some (0, .iload_n 3, 1176, []) := by decide +kernel
theorem xe_265_1175 (a0 a1 a2 : Option MV) (x : Int) (st : List MV) (μ : MM) (G : MG) : ev 265 1175 [a0, a1, a2, some (vI x)] st μ G = ev 265 1176 [a0, a1, a2, some (vI x)] (vI x :: st) μ G := ev_stp pg_265_1175 rfl
theorem pg_265_1176 : mm_prog 265 1176 = some (0, .iconst 1, 1177, []) := by decide +kernel
theorem xe_265_1176 (a0 a1 a2 a3 : Option MV) (st : List MV) (μ : MM) (G : MG) : ev 265 1176 [a0, a1, a2, a3] st μ G = ev 265 1177 [a0, a1, a2, a3] (vI (1) :: st) μ G := ev_stp pg_265_1176 rfl
theorem pg_265_1177 : mm_prog 265 1177 = some (0, .iadd, 1178, []) := by decide +kernel
theorem xe_265_1177 (a0 a1 a2 a3 : Option MV) (x y : Int) (st : List MV) (μ : MM) (G : MG) : ev 265 1177 [a0, a1, a2, a3] (vI y :: vI x :: st) μ G = ev 265 1178 [a0, a1, a2, a3] (vI (w32 (x + y)) :: st) μ G := ev_stp pg_265_1177 rfl
theorem pg_265_1178 : mm_prog 265 1178 = some (0, .iaload, 1179, []) := by decide +kernel
theorem xe_265_1178 (a0 a1 a2 a3 : Option MV) (x y : Int) (st : List MV) (μ : MM) (G : MG) : ev 265 1178 [a0, a1, a2, a3] (vI x :: vR y :: st) μ G = if gk G y = 100 ∧ 0 ≤ x ∧ x < gl G y then ev 265 1179 [a0, a1, a2, a3] (vI (μ y x) :: st) μ G else none := ev_if pg_265_1178 rfl
theorem pg_265_1179 : mm_prog 265 1179 = some (1, .invokevirtual 135, 1182, [1, 141, 1, 10]) := by decide +kernel
theorem xe_265_1179 (a0 a1 a2 a3 : Option MV) (x0 z : Int) (μ : MM) (G : MG) : ev 265 1179 [a0, a1, a2, a3] (vI x0 :: vR z :: []) μ G = if gk G z = 10 ∧ 0 < z then (ev 141 0 [some (vR z), some (vI x0), none, none] [] μ G).bind (fun q => ev 265 1182 [a0, a1, a2, a3] (q.1.toList ++ []) q.2.1 q.2.2) else none := ev_calV (as := [vR z, vI x0]) (r := []) mx_141 pg_265_1179 rfl rfl (Nat.le_of_ble_eq_true rfl) (Nat.le_of_ble_eq_true rfl)
theorem pg_265_1182 : mm_prog 265 1182 = some (0, .aload_n 2, 1183, []) := by decide +kernel
theorem xe_265_1182 (a0 a1 a3 : Option MV) (x : Int) (st : List MV) (μ : MM) (G : MG) : ev 265 1182 [a0, a1, some (vR x), a3] st μ G = ev 265 1183 [a0, a1, some (vR x), a3] (vR x :: st) μ G := ev_stp pg_265_1182 rfl
theorem pg_265_1183 : mm_prog 265 1183 = some (0, .aload_n 0, 1184, []) := by decide +kernel
theorem xe_265_1183 (a1 a2 a3 : Option MV) (x : Int) (st : List MV) (μ : MM) (G : MG) : ev 265 1183 [some (vR x), a1, a2, a3] st μ G = ev 265 1184 [some (vR x), a1, a2, a3] (vR x :: st) μ G := ev_stp pg_265_1183 rfl
theorem pg_265_1184 : mm_prog 265 1184 = some (0, .iload_n 3, 1185, []) := by decide +kernel
theorem xe_265_1184 (a0 a1 a2 : Option MV) (x : Int) (st : List MV) (μ : MM) (G : MG) : ev 265 1184 [a0, a1, a2, some (vI x)] st μ G = ev 265 1185 [a0, a1, a2, some (vI x)] (vI x :: st) μ G := ev_stp pg_265_1184 rfl
theorem pg_265_1185 : mm_prog 265 1185 = some (0, .iconst 1, 1186, []) := by decide +kernel
theorem xe_265_1185 (a0 a1 a2 a3 : Option MV) (st : List MV) (μ : MM) (G : MG) : ev 265 1185 [a0, a1, a2, a3] st μ G = ev 265 1186 [a0, a1, a2, a3] (vI (1) :: st) μ G := ev_stp pg_265_1185 rfl
theorem pg_265_1186 : mm_prog 265 1186 = some (0, .iadd, 1187, []) := by decide +kernel
theorem xe_265_1186 (a0 a1 a2 a3 : Option MV) (x y : Int) (st : List MV) (μ : MM) (G : MG) : ev 265 1186 [a0, a1, a2, a3] (vI y :: vI x :: st) μ G = ev 265 1187 [a0, a1, a2, a3] (vI (w32 (x + y)) :: st) μ G := ev_stp pg_265_1186 rfl
theorem pg_265_1187 : mm_prog 265 1187 = some (0, .iaload, 1188, []) := by decide +kernel
theorem xe_265_1187 (a0 a1 a2 a3 : Option MV) (x y : Int) (st : List MV) (μ : MM) (G : MG) : ev 265 1187 [a0, a1, a2, a3] (vI x :: vR y :: st) μ G = if gk G y = 100 ∧ 0 ≤ x ∧ x < gl G y then ev 265 1188 [a0, a1, a2, a3] (vI (μ y x) :: st) μ G else none := ev_if pg_265_1187 rfl
theorem pg_265_1188 : mm_prog 265 1188 = some (1, .invokevirtual 138, 1191, [1, 238, 1, 11]) := by decide +kernel
theorem xe_265_1188 (a0 a1 a2 a3 : Option MV) (x0 z r0 : Int) (μ : MM) (G : MG) : ev 265 1188 [a0, a1, a2, a3] (vI x0 :: vR z :: [vI r0]) μ G = if gk G z = 11 ∧ 0 < z then (ev 238 0 [some (vR z), some (vI x0), none, none] [] μ G).bind (fun q => ev 265 1191 [a0, a1, a2, a3] (q.1.toList ++ [vI r0]) q.2.1 q.2.2) else none := ev_calV (as := [vR z, vI x0]) (r := [vI r0]) mx_238 pg_265_1188 rfl rfl (Nat.le_of_ble_eq_true rfl) (Nat.le_of_ble_eq_true rfl)
theorem pg_265_1191 : mm_prog 265 1191 = some (0, .if_icmp .eq 87, 1194, []) := by decide +kernel
theorem xe_265_1191 (a0 a1 a2 a3 : Option MV) (x y : Int) (st : List MV) (μ : MM) (G : MG) : ev 265 1191 [a0, a1, a2, a3] (vI y :: vI x :: st) μ G = if x = y then ev 265 1278 [a0, a1, a2, a3] st μ G else ev 265 1194 [a0, a1, a2, a3] st μ G := ev_br (mm_cnd_eq x y) pg_265_1191 rfl
theorem pg_265_1194 : mm_prog 265 1194 = some (0, .iconst 0, 1195, []) := by decide +kernel
theorem xe_265_1194 (a0 a1 a2 a3 : Option MV) (st : List MV) (μ : MM) (G : MG) : ev 265 1194 [a0, a1, a2, a3] st μ G = ev 265 1195 [a0, a1, a2, a3] (vI (0) :: st) μ G := ev_stp pg_265_1194 rfl
theorem pg_265_1195 : mm_prog 265 1195 = some (2, .ireturn, 1196, [1]) := by decide +kernel
theorem xe_265_1195 (a0 a1 a2 a3 : Option MV) (x : Int) (μ : MM) (G : MG) : ev 265 1195 [a0, a1, a2, a3] [vI x] μ G = if x = 0 ∨ x = 1 then some (some (vI x), μ, G) else none := ev_retB pg_265_1195
theorem pg_265_1196 : mm_prog 265 1196 = some (0, .aload_n 1, 1197, []) := by decide +kernel
theorem xe_265_1196 (a0 a2 a3 : Option MV) (x : Int) (st : List MV) (μ : MM) (G : MG) : ev 265 1196 [a0, some (vR x), a2, a3] st μ G = ev 265 1197 [a0, some (vR x), a2, a3] (vR x :: st) μ G := ev_stp pg_265_1196 rfl
theorem pg_265_1197 : mm_prog 265 1197 = some (0, .aload_n 0, 1198, []) := by decide +kernel
theorem xe_265_1197 (a1 a2 a3 : Option MV) (x : Int) (st : List MV) (μ : MM) (G : MG) : ev 265 1197 [some (vR x), a1, a2, a3] st μ G = ev 265 1198 [some (vR x), a1, a2, a3] (vR x :: st) μ G := ev_stp pg_265_1197 rfl
theorem pg_265_1198 : mm_prog 265 1198 = some (0, .iload_n 3, 1199, []) := by decide +kernel
theorem xe_265_1198 (a0 a1 a2 : Option MV) (x : Int) (st : List MV) (μ : MM) (G : MG) : ev 265 1198 [a0, a1, a2, some (vI x)] st μ G = ev 265 1199 [a0, a1, a2, some (vI x)] (vI x :: st) μ G := ev_stp pg_265_1198 rfl
theorem pg_265_1199 : mm_prog 265 1199 = some (0, .iconst 1, 1200, []) := by decide +kernel
theorem xe_265_1199 (a0 a1 a2 a3 : Option MV) (st : List MV) (μ : MM) (G : MG) : ev 265 1199 [a0, a1, a2, a3] st μ G = ev 265 1200 [a0, a1, a2, a3] (vI (1) :: st) μ G := ev_stp pg_265_1199 rfl
theorem pg_265_1200 : mm_prog 265 1200 = some (0, .iadd, 1201, []) := by decide +kernel
theorem xe_265_1200 (a0 a1 a2 a3 : Option MV) (x y : Int) (st : List MV) (μ : MM) (G : MG) : ev 265 1200 [a0, a1, a2, a3] (vI y :: vI x :: st) μ G = ev 265 1201 [a0, a1, a2, a3] (vI (w32 (x + y)) :: st) μ G := ev_stp pg_265_1200 rfl
theorem pg_265_1201 : mm_prog 265 1201 = some (0, .iaload, 1202, []) := by decide +kernel
theorem xe_265_1201 (a0 a1 a2 a3 : Option MV) (x y : Int) (st : List MV) (μ : MM) (G : MG) : ev 265 1201 [a0, a1, a2, a3] (vI x :: vR y :: st) μ G = if gk G y = 100 ∧ 0 ≤ x ∧ x < gl G y then ev 265 1202 [a0, a1, a2, a3] (vI (μ y x) :: st) μ G else none := ev_if pg_265_1201 rfl
theorem pg_265_1202 : mm_prog 265 1202 = some (1, .invokevirtual 139, 1205, [1, 142, 1, 10]) := by decide +kernel
theorem xe_265_1202 (a0 a1 a2 a3 : Option MV) (x0 z : Int) (μ : MM) (G : MG) : ev 265 1202 [a0, a1, a2, a3] (vI x0 :: vR z :: []) μ G = if gk G z = 10 ∧ 0 < z then (ev 142 0 [some (vR z), some (vI x0), none, none, none, none, none, none, none, none] [] μ G).bind (fun q => ev 265 1205 [a0, a1, a2, a3] (q.1.toList ++ []) q.2.1 q.2.2) else none := ev_calV (as := [vR z, vI x0]) (r := []) mx_142 pg_265_1202 rfl rfl (Nat.le_of_ble_eq_true rfl) (Nat.le_of_ble_eq_true rfl)
theorem pg_265_1205 : mm_prog 265 1205 = some (0, .aload_n 2, 1206, []) := by decide +kernel
theorem xe_265_1205 (a0 a1 a3 : Option MV) (x : Int) (st : List MV) (μ : MM) (G : MG) : ev 265 1205 [a0, a1, some (vR x), a3] st μ G = ev 265 1206 [a0, a1, some (vR x), a3] (vR x :: st) μ G := ev_stp pg_265_1205 rfl
theorem pg_265_1206 : mm_prog 265 1206 = some (0, .aload_n 0, 1207, []) := by decide +kernel
theorem xe_265_1206 (a1 a2 a3 : Option MV) (x : Int) (st : List MV) (μ : MM) (G : MG) : ev 265 1206 [some (vR x), a1, a2, a3] st μ G = ev 265 1207 [some (vR x), a1, a2, a3] (vR x :: st) μ G := ev_stp pg_265_1206 rfl
theorem pg_265_1207 : mm_prog 265 1207 = some (0, .iload_n 3, 1208, []) := by decide +kernel
theorem xe_265_1207 (a0 a1 a2 : Option MV) (x : Int) (st : List MV) (μ : MM) (G : MG) : ev 265 1207 [a0, a1, a2, some (vI x)] st μ G = ev 265 1208 [a0, a1, a2, some (vI x)] (vI x :: st) μ G := ev_stp pg_265_1207 rfl
theorem pg_265_1208 : mm_prog 265 1208 = some (0, .iconst 1, 1209, []) := by decide +kernel
theorem xe_265_1208 (a0 a1 a2 a3 : Option MV) (st : List MV) (μ : MM) (G : MG) : ev 265 1208 [a0, a1, a2, a3] st μ G = ev 265 1209 [a0, a1, a2, a3] (vI (1) :: st) μ G := ev_stp pg_265_1208 rfl
theorem pg_265_1209 : mm_prog 265 1209 = some (0, .iadd, 1210, []) := by decide +kernel
theorem xe_265_1209 (a0 a1 a2 a3 : Option MV) (x y : Int) (st : List MV) (μ : MM) (G : MG) : ev 265 1209 [a0, a1, a2, a3] (vI y :: vI x :: st) μ G = ev 265 1210 [a0, a1, a2, a3] (vI (w32 (x + y)) :: st) μ G := ev_stp pg_265_1209 rfl
theorem pg_265_1210 : mm_prog 265 1210 = some (0, .iaload, 1211, []) := by decide +kernel
theorem xe_265_1210 (a0 a1 a2 a3 : Option MV) (x y : Int) (st : List MV) (μ : MM) (G : MG) : ev 265 1210 [a0, a1, a2, a3] (vI x :: vR y :: st) μ G = if gk G y = 100 ∧ 0 ≤ x ∧ x < gl G y then ev 265 1211 [a0, a1, a2, a3] (vI (μ y x) :: st) μ G else none := ev_if pg_265_1210 rfl
theorem pg_265_1211 : mm_prog 265 1211 = some (1, .invokevirtual 142, 1214, [1, 241, 1, 11]) := by decide +kernel
theorem xe_265_1211 (a0 a1 a2 a3 : Option MV) (x0 z r0 : Int) (μ : MM) (G : MG) : ev 265 1211 [a0, a1, a2, a3] (vI x0 :: vR z :: [vI r0]) μ G = if gk G z = 11 ∧ 0 < z then (ev 241 0 [some (vR z), some (vI x0), none] [] μ G).bind (fun q => ev 265 1214 [a0, a1, a2, a3] (q.1.toList ++ [vI r0]) q.2.1 q.2.2) else none := ev_calV (as := [vR z, vI x0]) (r := [vI r0]) mx_241 pg_265_1211 rfl rfl (Nat.le_of_ble_eq_true rfl) (Nat.le_of_ble_eq_true rfl)
theorem pg_265_1214 : mm_prog 265 1214 = some (0, .if_icmp .eq 64, 1217, []) := by decide +kernel
theorem xe_265_1214 (a0 a1 a2 a3 : Option MV) (x y : Int) (st : List MV) (μ : MM) (G : MG) : ev 265 1214 [a0, a1, a2, a3] (vI y :: vI x :: st) μ G = if x = y then ev 265 1278 [a0, a1, a2, a3] st μ G else ev 265 1217 [a0, a1, a2, a3] st μ G := ev_br (mm_cnd_eq x y) pg_265_1214 rfl
theorem pg_265_1217 : mm_prog 265 1217 = some (0, .iconst 0, 1218, []) := by decide +kernel
theorem xe_265_1217 (a0 a1 a2 a3 : Option MV) (st : List MV) (μ : MM) (G : MG) : ev 265 1217 [a0, a1, a2, a3] st μ G = ev 265 1218 [a0, a1, a2, a3] (vI (0) :: st) μ G := ev_stp pg_265_1217 rfl
theorem pg_265_1218 : mm_prog 265 1218 = some (2, .ireturn, 1219, [1]) := by decide +kernel
theorem xe_265_1218 (a0 a1 a2 a3 : Option MV) (x : Int) (μ : MM) (G : MG) : ev 265 1218 [a0, a1, a2, a3] [vI x] μ G = if x = 0 ∨ x = 1 then some (some (vI x), μ, G) else none := ev_retB pg_265_1218
theorem pg_265_1219 : mm_prog 265 1219 = some (0, .aload_n 1, 1220, []) := by decide +kernel
theorem xe_265_1219 (a0 a2 a3 : Option MV) (x : Int) (st : List MV) (μ : MM) (G : MG) : ev 265 1219 [a0, some (vR x), a2, a3] st μ G = ev 265 1220 [a0, some (vR x), a2, a3] (vR x :: st) μ G := ev_stp pg_265_1219 rfl
theorem pg_265_1220 : mm_prog 265 1220 = some (1, .invokevirtual 143, 1223, [1, 144, 0, 10]) := by decide +kernel
theorem xe_265_1220 (a0 a1 a2 a3 : Option MV) (z : Int) (μ : MM) (G : MG) : ev 265 1220 [a0, a1, a2, a3] (vR z :: []) μ G = if gk G z = 10 ∧ 0 < z then (ev 144 0 [some (vR z), none, none] [] μ G).bind (fun q => ev 265 1223 [a0, a1, a2, a3] (q.1.toList ++ []) q.2.1 q.2.2) else none := ev_calV (as := [vR z]) (r := []) mx_144 pg_265_1220 rfl rfl (Nat.le_of_ble_eq_true rfl) (Nat.le_of_ble_eq_true rfl)
theorem pg_265_1223 : mm_prog 265 1223 = some (0, .aload_n 2, 1224, []) := by decide +kernel
theorem xe_265_1223 (a0 a1 a3 : Option MV) (x : Int) (st : List MV) (μ : MM) (G : MG) : ev 265 1223 [a0, a1, some (vR x), a3] st μ G = ev 265 1224 [a0, a1, some (vR x), a3] (vR x :: st) μ G := ev_stp pg_265_1223 rfl
theorem pg_265_1224 : mm_prog 265 1224 = some (1, .invokevirtual 146, 1227, [1, 242, 0, 11]) := by decide +kernel
theorem xe_265_1224 (a0 a1 a2 a3 : Option MV) (z r0 : Int) (μ : MM) (G : MG) : ev 265 1224 [a0, a1, a2, a3] (vR z :: [vI r0]) μ G = if gk G z = 11 ∧ 0 < z then (ev 242 0 [some (vR z), none, none, none] [] μ G).bind (fun q => ev 265 1227 [a0, a1, a2, a3] (q.1.toList ++ [vI r0]) q.2.1 q.2.2) else none := ev_calV (as := [vR z]) (r := [vI r0]) mx_242 pg_265_1224 rfl rfl (Nat.le_of_ble_eq_true rfl) (Nat.le_of_ble_eq_true rfl)
theorem pg_265_1227 : mm_prog 265 1227 = some (0, .if_icmp .eq 51, 1230, []) := by decide +kernel
theorem xe_265_1227 (a0 a1 a2 a3 : Option MV) (x y : Int) (st : List MV) (μ : MM) (G : MG) : ev 265 1227 [a0, a1, a2, a3] (vI y :: vI x :: st) μ G = if x = y then ev 265 1278 [a0, a1, a2, a3] st μ G else ev 265 1230 [a0, a1, a2, a3] st μ G := ev_br (mm_cnd_eq x y) pg_265_1227 rfl
theorem pg_265_1230 : mm_prog 265 1230 = some (0, .iconst 0, 1231, []) := by decide +kernel
theorem xe_265_1230 (a0 a1 a2 a3 : Option MV) (st : List MV) (μ : MM) (G : MG) : ev 265 1230 [a0, a1, a2, a3] st μ G = ev 265 1231 [a0, a1, a2, a3] (vI (0) :: st) μ G := ev_stp pg_265_1230 rfl
theorem pg_265_1231 : mm_prog 265 1231 = some (2, .ireturn, 1232, [1]) := by decide +kernel
theorem xe_265_1231 (a0 a1 a2 a3 : Option MV) (x : Int) (μ : MM) (G : MG) : ev 265 1231 [a0, a1, a2, a3] [vI x] μ G = if x = 0 ∨ x = 1 then some (some (vI x), μ, G) else none := ev_retB pg_265_1231
theorem pg_265_1232 : mm_prog 265 1232 = some (0, .aload_n 1, 1233, []) := by decide +kernel
theorem xe_265_1232 (a0 a2 a3 : Option MV) (x : Int) (st : List MV) (μ : MM) (G : MG) : ev 265 1232 [a0, some (vR x), a2, a3] st μ G = ev 265 1233 [a0, some (vR x), a2, a3] (vR x :: st) μ G := ev_stp pg_265_1232 rfl
theorem pg_265_1233 : mm_prog 265 1233 = some (0, .aload_n 0, 1234, []) := by decide +kernel
theorem xe_265_1233 (a1 a2 a3 : Option MV) (x : Int) (st : List MV) (μ : MM) (G : MG) : ev 265 1233 [some (vR x), a1, a2, a3] st μ G = ev 265 1234 [some (vR x), a1, a2, a3] (vR x :: st) μ G := ev_stp pg_265_1233 rfl
theorem pg_265_1234 : mm_prog 265 1234 = some (0, .iload_n 3, 1235, []) := by decide +kernel
theorem xe_265_1234 (a0 a1 a2 : Option MV) (x : Int) (st : List MV) (μ : MM) (G : MG) : ev 265 1234 [a0, a1, a2, some (vI x)] st μ G = ev 265 1235 [a0, a1, a2, some (vI x)] (vI x :: st) μ G := ev_stp pg_265_1234 rfl
theorem pg_265_1235 : mm_prog 265 1235 = some (0, .iconst 1, 1236, []) := by decide +kernel
theorem xe_265_1235 (a0 a1 a2 a3 : Option MV) (st : List MV) (μ : MM) (G : MG) : ev 265 1235 [a0, a1, a2, a3] st μ G = ev 265 1236 [a0, a1, a2, a3] (vI (1) :: st) μ G := ev_stp pg_265_1235 rfl
theorem pg_265_1236 : mm_prog 265 1236 = some (0, .iadd, 1237, []) := by decide +kernel
theorem xe_265_1236 (a0 a1 a2 a3 : Option MV) (x y : Int) (st : List MV) (μ : MM) (G : MG) : ev 265 1236 [a0, a1, a2, a3] (vI y :: vI x :: st) μ G = ev 265 1237 [a0, a1, a2, a3] (vI (w32 (x + y)) :: st) μ G := ev_stp pg_265_1236 rfl
theorem pg_265_1237 : mm_prog 265 1237 = some (0, .iaload, 1238, []) := by decide +kernel
theorem xe_265_1237 (a0 a1 a2 a3 : Option MV) (x y : Int) (st : List MV) (μ : MM) (G : MG) : ev 265 1237 [a0, a1, a2, a3] (vI x :: vR y :: st) μ G = if gk G y = 100 ∧ 0 ≤ x ∧ x < gl G y then ev 265 1238 [a0, a1, a2, a3] (vI (μ y x) :: st) μ G else none := ev_if pg_265_1237 rfl
theorem pg_265_1238 : mm_prog 265 1238 = some (1, .invokevirtual 147, 1241, [1, 145, 1, 10]) := by decide +kernel
theorem xe_265_1238 (a0 a1 a2 a3 : Option MV) (x0 z : Int) (μ : MM) (G : MG) : ev 265 1238 [a0, a1, a2, a3] (vI x0 :: vR z :: []) μ G = if gk G z = 10 ∧ 0 < z then (ev 145 0 [some (vR z), some (vI x0)] [] μ G).bind (fun q => ev 265 1241 [a0, a1, a2, a3] (q.1.toList ++ []) q.2.1 q.2.2) else none := ev_calV (as := [vR z, vI x0]) (r := []) mx_145 pg_265_1238 rfl rfl (Nat.le_of_ble_eq_true rfl) (Nat.le_of_ble_eq_true rfl)
theorem pg_265_1241 : mm_prog 265 1241 = some (0, .aload_n 2, 1242, []) := by decide +kernel
theorem xe_265_1241 (a0 a1 a3 : Option MV) (x : Int) (st : List MV) (μ : MM) (G : MG) : ev 265 1241 [a0, a1, some (vR x), a3] st μ G = ev 265 1242 [a0, a1, some (vR x), a3] (vR x :: st) μ G := ev_stp pg_265_1241 rfl
theorem pg_265_1242 : mm_prog 265 1242 = some (0, .aload_n 0, 1243, []) := by decide +kernel
theorem xe_265_1242 (a1 a2 a3 : Option MV) (x : Int) (st : List MV) (μ : MM) (G : MG) : ev 265 1242 [some (vR x), a1, a2, a3] st μ G = ev 265 1243 [some (vR x), a1, a2, a3] (vR x :: st) μ G := ev_stp pg_265_1242 rfl
theorem pg_265_1243 : mm_prog 265 1243 = some (0, .iload_n 3, 1244, []) := by decide +kernel
theorem xe_265_1243 (a0 a1 a2 : Option MV) (x : Int) (st : List MV) (μ : MM) (G : MG) : ev 265 1243 [a0, a1, a2, some (vI x)] st μ G = ev 265 1244 [a0, a1, a2, some (vI x)] (vI x :: st) μ G := ev_stp pg_265_1243 rfl
theorem pg_265_1244 : mm_prog 265 1244 = some (0, .iconst 1, 1245, []) := by decide +kernel
theorem xe_265_1244 (a0 a1 a2 a3 : Option MV) (st : List MV) (μ : MM) (G : MG) : ev 265 1244 [a0, a1, a2, a3] st μ G = ev 265 1245 [a0, a1, a2, a3] (vI (1) :: st) μ G := ev_stp pg_265_1244 rfl
theorem pg_265_1245 : mm_prog 265 1245 = some (0, .iadd, 1246, []) := by decide +kernel
theorem xe_265_1245 (a0 a1 a2 a3 : Option MV) (x y : Int) (st : List MV) (μ : MM) (G : MG) : ev 265 1245 [a0, a1, a2, a3] (vI y :: vI x :: st) μ G = ev 265 1246 [a0, a1, a2, a3] (vI (w32 (x + y)) :: st) μ G := ev_stp pg_265_1245 rfl
theorem pg_265_1246 : mm_prog 265 1246 = some (0, .iaload, 1247, []) := by decide +kernel
theorem xe_265_1246 (a0 a1 a2 a3 : Option MV) (x y : Int) (st : List MV) (μ : MM) (G : MG) : ev 265 1246 [a0, a1, a2, a3] (vI x :: vR y :: st) μ G = if gk G y = 100 ∧ 0 ≤ x ∧ x < gl G y then ev 265 1247 [a0, a1, a2, a3] (vI (μ y x) :: st) μ G else none := ev_if pg_265_1246 rfl
theorem pg_265_1247 : mm_prog 265 1247 = some (1, .invokevirtual 150, 1250, [1, 243, 1, 11]) := by decide +kernel
theorem xe_265_1247 (a0 a1 a2 a3 : Option MV) (x0 z r0 : Int) (μ : MM) (G : MG) : ev 265 1247 [a0, a1, a2, a3] (vI x0 :: vR z :: [vI r0]) μ G = if gk G z = 11 ∧ 0 < z then (ev 243 0 [some (vR z), some (vI x0), none] [] μ G).bind (fun q => ev 265 1250 [a0, a1, a2, a3] (q.1.toList ++ [vI r0]) q.2.1 q.2.2) else none := ev_calV (as := [vR z, vI x0]) (r := [vI r0]) mx_243 pg_265_1247 rfl rfl (Nat.le_of_ble_eq_true rfl) (Nat.le_of_ble_eq_true rfl)
theorem pg_265_1250 : mm_prog 265 1250 = some (0, .if_icmp .eq 28, 1253, []) := by decide +kernel
theorem xe_265_1250 (a0 a1 a2 a3 : Option MV) (x y : Int) (st : List MV) (μ : MM) (G : MG) : ev 265 1250 [a0, a1, a2, a3] (vI y :: vI x :: st) μ G = if x = y then ev 265 1278 [a0, a1, a2, a3] st μ G else ev 265 1253 [a0, a1, a2, a3] st μ G := ev_br (mm_cnd_eq x y) pg_265_1250 rfl
theorem pg_265_1253 : mm_prog 265 1253 = some (0, .iconst 0, 1254, []) := by decide +kernel
theorem xe_265_1253 (a0 a1 a2 a3 : Option MV) (st : List MV) (μ : MM) (G : MG) : ev 265 1253 [a0, a1, a2, a3] st μ G = ev 265 1254 [a0, a1, a2, a3] (vI (0) :: st) μ G := ev_stp pg_265_1253 rfl
theorem pg_265_1254 : mm_prog 265 1254 = some (2, .ireturn, 1255, [1]) := by decide +kernel
theorem xe_265_1254 (a0 a1 a2 a3 : Option MV) (x : Int) (μ : MM) (G : MG) : ev 265 1254 [a0, a1, a2, a3] [vI x] μ G = if x = 0 ∨ x = 1 then some (some (vI x), μ, G) else none := ev_retB pg_265_1254
theorem pg_265_1255 : mm_prog 265 1255 = some (0, .aload_n 1, 1256, []) := by decide +kernel
theorem xe_265_1255 (a0 a2 a3 : Option MV) (x : Int) (st : List MV) (μ : MM) (G : MG) : ev 265 1255 [a0, some (vR x), a2, a3] st μ G = ev 265 1256 [a0, some (vR x), a2, a3] (vR x :: st) μ G := ev_stp pg_265_1255 rfl
theorem pg_265_1256 : mm_prog 265 1256 = some (0, .aload_n 0, 1257, []) := by decide +kernel
theorem xe_265_1256 (a1 a2 a3 : Option MV) (x : Int) (st : List MV) (μ : MM) (G : MG) : ev 265 1256 [some (vR x), a1, a2, a3] st μ G = ev 265 1257 [some (vR x), a1, a2, a3] (vR x :: st) μ G := ev_stp pg_265_1256 rfl
theorem pg_265_1257 : mm_prog 265 1257 = some (0, .iload_n 3, 1258, []) := by decide +kernel
theorem xe_265_1257 (a0 a1 a2 : Option MV) (x : Int) (st : List MV) (μ : MM) (G : MG) : ev 265 1257 [a0, a1, a2, some (vI x)] st μ G = ev 265 1258 [a0, a1, a2, some (vI x)] (vI x :: st) μ G := ev_stp pg_265_1257 rfl
theorem pg_265_1258 : mm_prog 265 1258 = some (0, .iconst 1, 1259, []) := by decide +kernel
theorem xe_265_1258 (a0 a1 a2 a3 : Option MV) (st : List MV) (μ : MM) (G : MG) : ev 265 1258 [a0, a1, a2, a3] st μ G = ev 265 1259 [a0, a1, a2, a3] (vI (1) :: st) μ G := ev_stp pg_265_1258 rfl
theorem pg_265_1259 : mm_prog 265 1259 = some (0, .iadd, 1260, []) := by decide +kernel
theorem xe_265_1259 (a0 a1 a2 a3 : Option MV) (x y : Int) (st : List MV) (μ : MM) (G : MG) : ev 265 1259 [a0, a1, a2, a3] (vI y :: vI x :: st) μ G = ev 265 1260 [a0, a1, a2, a3] (vI (w32 (x + y)) :: st) μ G := ev_stp pg_265_1259 rfl
theorem pg_265_1260 : mm_prog 265 1260 = some (0, .iaload, 1261, []) := by decide +kernel
theorem xe_265_1260 (a0 a1 a2 a3 : Option MV) (x y : Int) (st : List MV) (μ : MM) (G : MG) : ev 265 1260 [a0, a1, a2, a3] (vI x :: vR y :: st) μ G = if gk G y = 100 ∧ 0 ≤ x ∧ x < gl G y then ev 265 1261 [a0, a1, a2, a3] (vI (μ y x) :: st) μ G else none := ev_if pg_265_1260 rfl
theorem pg_265_1261 : mm_prog 265 1261 = some (1, .invokevirtual 151, 1264, [1, 146, 1, 10]) := by decide +kernel
theorem xe_265_1261 (a0 a1 a2 a3 : Option MV) (x0 z : Int) (μ : MM) (G : MG) : ev 265 1261 [a0, a1, a2, a3] (vI x0 :: vR z :: []) μ G = if gk G z = 10 ∧ 0 < z then (ev 146 0 [some (vR z), some (vI x0)] [] μ G).bind (fun q => ev 265 1264 [a0, a1, a2, a3] (q.1.toList ++ []) q.2.1 q.2.2) else none := ev_calV (as := [vR z, vI x0]) (r := []) mx_146 pg_265_1261 rfl rfl (Nat.le_of_ble_eq_true rfl) (Nat.le_of_ble_eq_true rfl)
theorem pg_265_1264 : mm_prog 265 1264 = some (0, .aload_n 2, 1265, []) := by decide +kernel
theorem xe_265_1264 (a0 a1 a3 : Option MV) (x : Int) (st : List MV) (μ : MM) (G : MG) : ev 265 1264 [a0, a1, some (vR x), a3] st μ G = ev 265 1265 [a0, a1, some (vR x), a3] (vR x :: st) μ G := ev_stp pg_265_1264 rfl
theorem pg_265_1265 : mm_prog 265 1265 = some (0, .aload_n 0, 1266, []) := by decide +kernel
theorem xe_265_1265 (a1 a2 a3 : Option MV) (x : Int) (st : List MV) (μ : MM) (G : MG) : ev 265 1265 [some (vR x), a1, a2, a3] st μ G = ev 265 1266 [some (vR x), a1, a2, a3] (vR x :: st) μ G := ev_stp pg_265_1265 rfl
theorem pg_265_1266 : mm_prog 265 1266 = some (0, .iload_n 3, 1267, []) := by decide +kernel
theorem xe_265_1266 (a0 a1 a2 : Option MV) (x : Int) (st : List MV) (μ : MM) (G : MG) : ev 265 1266 [a0, a1, a2, some (vI x)] st μ G = ev 265 1267 [a0, a1, a2, some (vI x)] (vI x :: st) μ G := ev_stp pg_265_1266 rfl
theorem pg_265_1267 : mm_prog 265 1267 = some (0, .iconst 1, 1268, []) := by decide +kernel
theorem xe_265_1267 (a0 a1 a2 a3 : Option MV) (st : List MV) (μ : MM) (G : MG) : ev 265 1267 [a0, a1, a2, a3] st μ G = ev 265 1268 [a0, a1, a2, a3] (vI (1) :: st) μ G := ev_stp pg_265_1267 rfl
theorem pg_265_1268 : mm_prog 265 1268 = some (0, .iadd, 1269, []) := by decide +kernel
theorem xe_265_1268 (a0 a1 a2 a3 : Option MV) (x y : Int) (st : List MV) (μ : MM) (G : MG) : ev 265 1268 [a0, a1, a2, a3] (vI y :: vI x :: st) μ G = ev 265 1269 [a0, a1, a2, a3] (vI (w32 (x + y)) :: st) μ G := ev_stp pg_265_1268 rfl
theorem pg_265_1269 : mm_prog 265 1269 = some (0, .iaload, 1270, []) := by decide +kernel
theorem xe_265_1269 (a0 a1 a2 a3 : Option MV) (x y : Int) (st : List MV) (μ : MM) (G : MG) : ev 265 1269 [a0, a1, a2, a3] (vI x :: vR y :: st) μ G = if gk G y = 100 ∧ 0 ≤ x ∧ x < gl G y then ev 265 1270 [a0, a1, a2, a3] (vI (μ y x) :: st) μ G else none := ev_if pg_265_1269 rfl
theorem pg_265_1270 : mm_prog 265 1270 = some (1, .invokevirtual 154, 1273, [1, 244, 1, 11]) := by decide +kernel
theorem xe_265_1270 (a0 a1 a2 a3 : Option MV) (x0 z r0 : Int) (μ : MM) (G : MG) : ev 265 1270 [a0, a1, a2, a3] (vI x0 :: vR z :: [vI r0]) μ G = if gk G z = 11 ∧ 0 < z then (ev 244 0 [some (vR z), some (vI x0)] [] μ G).bind (fun q => ev 265 1273 [a0, a1, a2, a3] (q.1.toList ++ [vI r0]) q.2.1 q.2.2) else none := ev_calV (as := [vR z, vI x0]) (r := [vI r0]) mx_244 pg_265_1270 rfl rfl (Nat.le_of_ble_eq_true rfl) (Nat.le_of_ble_eq_true rfl)
theorem pg_265_1273 : mm_prog 265 1273 = some (0, .if_icmp .eq 5, 1276, []) := by decide +kernel
theorem xe_265_1273 (a0 a1 a2 a3 : Option MV) (x y : Int) (st : List MV) (μ : MM) (G : MG) : ev 265 1273 [a0, a1, a2, a3] (vI y :: vI x :: st) μ G = if x = y then ev 265 1278 [a0, a1, a2, a3] st μ G else ev 265 1276 [a0, a1, a2, a3] st μ G := ev_br (mm_cnd_eq x y) pg_265_1273 rfl
theorem pg_265_1276 : mm_prog 265 1276 = some (0, .iconst 0, 1277, []) := by decide +kernel
theorem xe_265_1276 (a0 a1 a2 a3 : Option MV) (st : List MV) (μ : MM) (G : MG) : ev 265 1276 [a0, a1, a2, a3] st μ G = ev 265 1277 [a0, a1, a2, a3] (vI (0) :: st) μ G := ev_stp pg_265_1276 rfl
theorem pg_265_1277 : mm_prog 265 1277 = some (2, .ireturn, 1278, [1]) := by decide +kernel
theorem xe_265_1277 (a0 a1 a2 a3 : Option MV) (x : Int) (μ : MM) (G : MG) : ev 265 1277 [a0, a1, a2, a3] [vI x] μ G = if x = 0 ∨ x = 1 then some (some (vI x), μ, G) else none := ev_retB pg_265_1277
theorem pg_265_1278 : mm_prog 265 1278 = some (0, .iinc 3 7, 1281, []) := by decide +kernel
theorem xe_265_1278 (a0 a1 a2 : Option MV) (x : Int) (st : List MV) (μ : MM) (G : MG) (h : mm_nL a2 = true) : ev 265 1278 [a0, a1, a2, some (vI x)] st μ G = ev 265 1281 [a0, a1, a2, some (vI (w32 (x + (7))))] st μ G := ev_st pg_265_1278 rfl (mm_nl_of h) (Nat.le_of_ble_eq_true rfl)
theorem pg_265_1281 : mm_prog 265 1281 = some (0, .goto (-1263), 1284, []) := by decide +kernel
theorem xe_265_1281 (a0 a1 a2 a3 : Option MV) (st : List MV) (μ : MM) (G : MG) : ev 265 1281 [a0, a1, a2, a3] st μ G = ev 265 18 [a0, a1, a2, a3] st μ G := ev_stp pg_265_1281 rfl
theorem pg_265_1284 : mm_prog 265 1284 = some (0, .iconst 1, 1285, []) := by decide +kernel
theorem xe_265_1284 (a0 a1 a2 a3 : Option MV) (st : List MV) (μ : MM) (G : MG) : ev 265 1284 [a0, a1, a2, a3] st μ G = ev 265 1285 [a0, a1, a2, a3] (vI (1) :: st) μ G := ev_stp pg_265_1284 rfl
theorem pg_265_1285 : mm_prog 265 1285 = some (2, .ireturn, 1286, [1]) := by decide +kernel
theorem xe_265_1285 (a0 a1 a2 a3 : Option MV) (x : Int) (μ : MM) (G : MG) : ev 265 1285 [a0, a1, a2, a3] [vI x] μ G = if x = 0 ∨ x = 1 then some (some (vI x), μ, G) else none := ev_retB pg_265_1285
