-- X10_init
theorem pg_98_0 : mm_prog 98 0 = some (0, .aload_n 0, 1, []) := by decide +kernel
theorem xe_98_0 (x : Int) (st : List MV) (μ : MM) (G : MG) : ev 98 0 [some (vR x)] st μ G = ev 98 1 [some (vR x)] (vR x :: st) μ G := ev_stp pg_98_0 rfl
theorem pg_98_1 : mm_prog 98 1 = some (0, .invokespecial 1, 4, []) := by decide +kernel
theorem xe_98_1 (a0 : Option MV) (x : Int) (st : List MV) (μ : MM) (G : MG) : ev 98 1 [a0] (vR x :: st) μ G = if 10 ≤ x ∧ mm_cats st ≤ 8 then ev 98 4 [a0] st μ G else none := ev_if pg_98_1 rfl
theorem pg_98_4 : mm_prog 98 4 = some (0, .aload_n 0, 5, []) := by decide +kernel
theorem xe_98_4 (x : Int) (st : List MV) (μ : MM) (G : MG) : ev 98 4 [some (vR x)] st μ G = ev 98 5 [some (vR x)] (vR x :: st) μ G := ev_stp pg_98_4 rfl
theorem pg_98_5 : mm_prog 98 5 = some (0, .new 7, 8, [0, 2]) := by decide +kernel
theorem xe_98_5 (a0 : Option MV) (st : List MV) (μ : MM) (G : MG) : ev 98 5 [a0] st μ G = ev 98 8 [a0] (vR G.2.1 :: st) (mzero μ G.2.1) (gnew G 0 0 2) := ev_stp pg_98_5 rfl
theorem pg_98_8 : mm_prog 98 8 = some (0, .dup, 9, []) := by decide +kernel
theorem xe_98_8 (a0 : Option MV) (x : Int) (st : List MV) (μ : MM) (G : MG) : ev 98 8 [a0] (vR x :: st) μ G = ev 98 9 [a0] (vR x :: vR x :: st) μ G := ev_stp pg_98_8 rfl
theorem pg_98_9 : mm_prog 98 9 = some (1, .invokespecial 9, 12, [1, 0, 0, 0]) := by decide +kernel
theorem xe_98_9 (a0 : Option MV) (z r0 r1 : Int) (μ : MM) (G : MG) : ev 98 9 [a0] (vR z :: [vR r0, vR r1]) μ G = if gk G z = 0 ∧ 0 < z then (ev 0 0 [some (vR z)] [] μ G).bind (fun q => ev 98 12 [a0] (q.1.toList ++ [vR r0, vR r1]) q.2.1 q.2.2) else none := ev_calV (as := [vR z]) (r := [vR r0, vR r1]) mx_0 pg_98_9 rfl rfl (Nat.le_of_ble_eq_true rfl) (Nat.le_of_ble_eq_true rfl)
theorem pg_98_12 : mm_prog 98 12 = some (0, .putfield 10, 15, [10, 0, 2]) := by decide +kernel
theorem xe_98_12 (a0 : Option MV) (x y : Int) (st : List MV) (μ : MM) (G : MG) : ev 98 12 [a0] (vR x :: vR y :: st) μ G = if gk G y = 10 then ev 98 15 [a0] st (mset μ y 0 x) G else none := ev_put2 pg_98_12
theorem pg_98_15 : mm_prog 98 15 = some (0, .aload_n 0, 16, []) := by decide +kernel
theorem xe_98_15 (x : Int) (st : List MV) (μ : MM) (G : MG) : ev 98 15 [some (vR x)] st μ G = ev 98 16 [some (vR x)] (vR x :: st) μ G := ev_stp pg_98_15 rfl
theorem pg_98_16 : mm_prog 98 16 = some (0, .new 7, 19, [0, 2]) := by decide +kernel
theorem xe_98_16 (a0 : Option MV) (st : List MV) (μ : MM) (G : MG) : ev 98 16 [a0] st μ G = ev 98 19 [a0] (vR G.2.1 :: st) (mzero μ G.2.1) (gnew G 0 0 2) := ev_stp pg_98_16 rfl
theorem pg_98_19 : mm_prog 98 19 = some (0, .dup, 20, []) := by decide +kernel
theorem xe_98_19 (a0 : Option MV) (x : Int) (st : List MV) (μ : MM) (G : MG) : ev 98 19 [a0] (vR x :: st) μ G = ev 98 20 [a0] (vR x :: vR x :: st) μ G := ev_stp pg_98_19 rfl
theorem pg_98_20 : mm_prog 98 20 = some (1, .invokespecial 9, 23, [1, 0, 0, 0]) := by decide +kernel
theorem xe_98_20 (a0 : Option MV) (z r0 r1 : Int) (μ : MM) (G : MG) : ev 98 20 [a0] (vR z :: [vR r0, vR r1]) μ G = if gk G z = 0 ∧ 0 < z then (ev 0 0 [some (vR z)] [] μ G).bind (fun q => ev 98 23 [a0] (q.1.toList ++ [vR r0, vR r1]) q.2.1 q.2.2) else none := ev_calV (as := [vR z]) (r := [vR r0, vR r1]) mx_0 pg_98_20 rfl rfl (Nat.le_of_ble_eq_true rfl) (Nat.le_of_ble_eq_true rfl)
theorem pg_98_23 : mm_prog 98 23 = some (0, .putfield 16, 26, [10, 1, 2]) := by decide +kernel
theorem xe_98_23 (a0 : Option MV) (x y : Int) (st : List MV) (μ : MM) (G : MG) : ev 98 23 [a0] (vR x :: vR y :: st) μ G = if gk G y = 10 then ev 98 26 [a0] st (mset μ y 1 x) G else none := ev_put2 pg_98_23
theorem pg_98_26 : mm_prog 98 26 = some (0, .aload_n 0, 27, []) := by decide +kernel
theorem xe_98_26 (x : Int) (st : List MV) (μ : MM) (G : MG) : ev 98 26 [some (vR x)] st μ G = ev 98 27 [some (vR x)] (vR x :: st) μ G := ev_stp pg_98_26 rfl
theorem pg_98_27 : mm_prog 98 27 = some (0, .new 19, 30, [2, 2]) := by decide +kernel
theorem xe_98_27 (a0 : Option MV) (st : List MV) (μ : MM) (G : MG) : ev 98 27 [a0] st μ G = ev 98 30 [a0] (vR G.2.1 :: st) (mzero μ G.2.1) (gnew G 2 0 2) := ev_stp pg_98_27 rfl
theorem pg_98_30 : mm_prog 98 30 = some (0, .dup, 31, []) := by decide +kernel
theorem xe_98_30 (a0 : Option MV) (x : Int) (st : List MV) (μ : MM) (G : MG) : ev 98 30 [a0] (vR x :: st) μ G = ev 98 31 [a0] (vR x :: vR x :: st) μ G := ev_stp pg_98_30 rfl
theorem pg_98_31 : mm_prog 98 31 = some (1, .invokespecial 21, 34, [1, 14, 0, 2]) := by decide +kernel
theorem xe_98_31 (a0 : Option MV) (z r0 r1 : Int) (μ : MM) (G : MG) : ev 98 31 [a0] (vR z :: [vR r0, vR r1]) μ G = if gk G z = 2 ∧ 0 < z then (ev 14 0 [some (vR z)] [] μ G).bind (fun q => ev 98 34 [a0] (q.1.toList ++ [vR r0, vR r1]) q.2.1 q.2.2) else none := ev_calV (as := [vR z]) (r := [vR r0, vR r1]) mx_14 pg_98_31 rfl rfl (Nat.le_of_ble_eq_true rfl) (Nat.le_of_ble_eq_true rfl)
theorem pg_98_34 : mm_prog 98 34 = some (0, .putfield 22, 37, [10, 2, 2]) := by decide +kernel
theorem xe_98_34 (a0 : Option MV) (x y : Int) (st : List MV) (μ : MM) (G : MG) : ev 98 34 [a0] (vR x :: vR y :: st) μ G = if gk G y = 10 then ev 98 37 [a0] st (mset μ y 2 x) G else none := ev_put2 pg_98_34
theorem pg_98_37 : mm_prog 98 37 = some (0, .aload_n 0, 38, []) := by decide +kernel
theorem xe_98_37 (x : Int) (st : List MV) (μ : MM) (G : MG) : ev 98 37 [some (vR x)] st μ G = ev 98 38 [some (vR x)] (vR x :: st) μ G := ev_stp pg_98_37 rfl
theorem pg_98_38 : mm_prog 98 38 = some (0, .new 26, 41, [6, 13]) := by decide +kernel
theorem xe_98_38 (a0 : Option MV) (st : List MV) (μ : MM) (G : MG) : ev 98 38 [a0] st μ G = ev 98 41 [a0] (vR G.2.1 :: st) (mzero μ G.2.1) (gnew G 6 0 13) := ev_stp pg_98_38 rfl
theorem pg_98_41 : mm_prog 98 41 = some (0, .dup, 42, []) := by decide +kernel
theorem xe_98_41 (a0 : Option MV) (x : Int) (st : List MV) (μ : MM) (G : MG) : ev 98 41 [a0] (vR x :: st) μ G = ev 98 42 [a0] (vR x :: vR x :: st) μ G := ev_stp pg_98_41 rfl
theorem pg_98_42 : mm_prog 98 42 = some (1, .invokespecial 28, 45, [1, 41, 0, 6]) := by decide +kernel
theorem xe_98_42 (a0 : Option MV) (z r0 r1 : Int) (μ : MM) (G : MG) : ev 98 42 [a0] (vR z :: [vR r0, vR r1]) μ G = if gk G z = 6 ∧ 0 < z then (ev 41 0 [some (vR z), none] [] μ G).bind (fun q => ev 98 45 [a0] (q.1.toList ++ [vR r0, vR r1]) q.2.1 q.2.2) else none := ev_calV (as := [vR z]) (r := [vR r0, vR r1]) mx_41 pg_98_42 rfl rfl (Nat.le_of_ble_eq_true rfl) (Nat.le_of_ble_eq_true rfl)
theorem pg_98_45 : mm_prog 98 45 = some (0, .putfield 29, 48, [10, 3, 2]) := by decide +kernel
theorem xe_98_45 (a0 : Option MV) (x y : Int) (st : List MV) (μ : MM) (G : MG) : ev 98 45 [a0] (vR x :: vR y :: st) μ G = if gk G y = 10 then ev 98 48 [a0] st (mset μ y 3 x) G else none := ev_put2 pg_98_45
theorem pg_98_48 : mm_prog 98 48 = some (0, .aload_n 0, 49, []) := by decide +kernel
theorem xe_98_48 (x : Int) (st : List MV) (μ : MM) (G : MG) : ev 98 48 [some (vR x)] st μ G = ev 98 49 [some (vR x)] (vR x :: st) μ G := ev_stp pg_98_48 rfl
theorem pg_98_49 : mm_prog 98 49 = some (0, .new 33, 52, [5, 5]) := by decide +kernel
theorem xe_98_49 (a0 : Option MV) (st : List MV) (μ : MM) (G : MG) : ev 98 49 [a0] st μ G = ev 98 52 [a0] (vR G.2.1 :: st) (mzero μ G.2.1) (gnew G 5 0 5) := ev_stp pg_98_49 rfl
theorem pg_98_52 : mm_prog 98 52 = some (0, .dup, 53, []) := by decide +kernel
theorem xe_98_52 (a0 : Option MV) (x : Int) (st : List MV) (μ : MM) (G : MG) : ev 98 52 [a0] (vR x :: st) μ G = ev 98 53 [a0] (vR x :: vR x :: st) μ G := ev_stp pg_98_52 rfl
theorem pg_98_53 : mm_prog 98 53 = some (1, .invokespecial 35, 56, [1, 30, 0, 5]) := by decide +kernel
theorem xe_98_53 (a0 : Option MV) (z r0 r1 : Int) (μ : MM) (G : MG) : ev 98 53 [a0] (vR z :: [vR r0, vR r1]) μ G = if gk G z = 5 ∧ 0 < z then (ev 30 0 [some (vR z), none] [] μ G).bind (fun q => ev 98 56 [a0] (q.1.toList ++ [vR r0, vR r1]) q.2.1 q.2.2) else none := ev_calV (as := [vR z]) (r := [vR r0, vR r1]) mx_30 pg_98_53 rfl rfl (Nat.le_of_ble_eq_true rfl) (Nat.le_of_ble_eq_true rfl)
theorem pg_98_56 : mm_prog 98 56 = some (0, .putfield 36, 59, [10, 4, 2]) := by decide +kernel
theorem xe_98_56 (a0 : Option MV) (x y : Int) (st : List MV) (μ : MM) (G : MG) : ev 98 56 [a0] (vR x :: vR y :: st) μ G = if gk G y = 10 then ev 98 59 [a0] st (mset μ y 4 x) G else none := ev_put2 pg_98_56
theorem pg_98_59 : mm_prog 98 59 = some (0, .aload_n 0, 60, []) := by decide +kernel
theorem xe_98_59 (x : Int) (st : List MV) (μ : MM) (G : MG) : ev 98 59 [some (vR x)] st μ G = ev 98 60 [some (vR x)] (vR x :: st) μ G := ev_stp pg_98_59 rfl
theorem pg_98_60 : mm_prog 98 60 = some (0, .new 40, 63, [1, 2]) := by decide +kernel
theorem xe_98_60 (a0 : Option MV) (st : List MV) (μ : MM) (G : MG) : ev 98 60 [a0] st μ G = ev 98 63 [a0] (vR G.2.1 :: st) (mzero μ G.2.1) (gnew G 1 0 2) := ev_stp pg_98_60 rfl
theorem pg_98_63 : mm_prog 98 63 = some (0, .dup, 64, []) := by decide +kernel
theorem xe_98_63 (a0 : Option MV) (x : Int) (st : List MV) (μ : MM) (G : MG) : ev 98 63 [a0] (vR x :: st) μ G = ev 98 64 [a0] (vR x :: vR x :: st) μ G := ev_stp pg_98_63 rfl
theorem pg_98_64 : mm_prog 98 64 = some (1, .invokespecial 42, 67, [1, 6, 0, 1]) := by decide +kernel
theorem xe_98_64 (a0 : Option MV) (z r0 r1 : Int) (μ : MM) (G : MG) : ev 98 64 [a0] (vR z :: [vR r0, vR r1]) μ G = if gk G z = 1 ∧ 0 < z then (ev 6 0 [some (vR z)] [] μ G).bind (fun q => ev 98 67 [a0] (q.1.toList ++ [vR r0, vR r1]) q.2.1 q.2.2) else none := ev_calV (as := [vR z]) (r := [vR r0, vR r1]) mx_6 pg_98_64 rfl rfl (Nat.le_of_ble_eq_true rfl) (Nat.le_of_ble_eq_true rfl)
theorem pg_98_67 : mm_prog 98 67 = some (0, .putfield 43, 70, [10, 5, 2]) := by decide +kernel
theorem xe_98_67 (a0 : Option MV) (x y : Int) (st : List MV) (μ : MM) (G : MG) : ev 98 67 [a0] (vR x :: vR y :: st) μ G = if gk G y = 10 then ev 98 70 [a0] st (mset μ y 5 x) G else none := ev_put2 pg_98_67
theorem pg_98_70 : mm_prog 98 70 = some (0, .aload_n 0, 71, []) := by decide +kernel
theorem xe_98_70 (x : Int) (st : List MV) (μ : MM) (G : MG) : ev 98 70 [some (vR x)] st μ G = ev 98 71 [some (vR x)] (vR x :: st) μ G := ev_stp pg_98_70 rfl
theorem pg_98_71 : mm_prog 98 71 = some (0, .new 47, 74, [7, 10]) := by decide +kernel
theorem xe_98_71 (a0 : Option MV) (st : List MV) (μ : MM) (G : MG) : ev 98 71 [a0] st μ G = ev 98 74 [a0] (vR G.2.1 :: st) (mzero μ G.2.1) (gnew G 7 0 10) := ev_stp pg_98_71 rfl
theorem pg_98_74 : mm_prog 98 74 = some (0, .dup, 75, []) := by decide +kernel
theorem xe_98_74 (a0 : Option MV) (x : Int) (st : List MV) (μ : MM) (G : MG) : ev 98 74 [a0] (vR x :: st) μ G = ev 98 75 [a0] (vR x :: vR x :: st) μ G := ev_stp pg_98_74 rfl
theorem pg_98_75 : mm_prog 98 75 = some (1, .invokespecial 49, 78, [1, 59, 0, 7]) := by decide +kernel
theorem xe_98_75 (a0 : Option MV) (z r0 r1 : Int) (μ : MM) (G : MG) : ev 98 75 [a0] (vR z :: [vR r0, vR r1]) μ G = if gk G z = 7 ∧ 0 < z then (ev 59 0 [some (vR z)] [] μ G).bind (fun q => ev 98 78 [a0] (q.1.toList ++ [vR r0, vR r1]) q.2.1 q.2.2) else none := ev_calV (as := [vR z]) (r := [vR r0, vR r1]) mx_59 pg_98_75 rfl rfl (Nat.le_of_ble_eq_true rfl) (Nat.le_of_ble_eq_true rfl)
theorem pg_98_78 : mm_prog 98 78 = some (0, .putfield 50, 81, [10, 6, 2]) := by decide +kernel
theorem xe_98_78 (a0 : Option MV) (x y : Int) (st : List MV) (μ : MM) (G : MG) : ev 98 78 [a0] (vR x :: vR y :: st) μ G = if gk G y = 10 then ev 98 81 [a0] st (mset μ y 6 x) G else none := ev_put2 pg_98_78
theorem pg_98_81 : mm_prog 98 81 = some (0, .aload_n 0, 82, []) := by decide +kernel
theorem xe_98_81 (x : Int) (st : List MV) (μ : MM) (G : MG) : ev 98 81 [some (vR x)] st μ G = ev 98 82 [some (vR x)] (vR x :: st) μ G := ev_stp pg_98_81 rfl
theorem pg_98_82 : mm_prog 98 82 = some (0, .new 54, 85, [12, 4]) := by decide +kernel
theorem xe_98_82 (a0 : Option MV) (st : List MV) (μ : MM) (G : MG) : ev 98 82 [a0] st μ G = ev 98 85 [a0] (vR G.2.1 :: st) (mzero μ G.2.1) (gnew G 12 0 4) := ev_stp pg_98_82 rfl
theorem pg_98_85 : mm_prog 98 85 = some (0, .dup, 86, []) := by decide +kernel
theorem xe_98_85 (a0 : Option MV) (x : Int) (st : List MV) (μ : MM) (G : MG) : ev 98 85 [a0] (vR x :: st) μ G = ev 98 86 [a0] (vR x :: vR x :: st) μ G := ev_stp pg_98_85 rfl
theorem pg_98_86 : mm_prog 98 86 = some (1, .invokespecial 56, 89, [1, 245, 0, 12]) := by decide +kernel
theorem xe_98_86 (a0 : Option MV) (z r0 r1 : Int) (μ : MM) (G : MG) : ev 98 86 [a0] (vR z :: [vR r0, vR r1]) μ G = if gk G z = 12 ∧ 0 < z then (ev 245 0 [some (vR z)] [] μ G).bind (fun q => ev 98 89 [a0] (q.1.toList ++ [vR r0, vR r1]) q.2.1 q.2.2) else none := ev_calV (as := [vR z]) (r := [vR r0, vR r1]) mx_245 pg_98_86 rfl rfl (Nat.le_of_ble_eq_true rfl) (Nat.le_of_ble_eq_true rfl)
theorem pg_98_89 : mm_prog 98 89 = some (0, .putfield 57, 92, [10, 7, 2]) := by decide +kernel
theorem xe_98_89 (a0 : Option MV) (x y : Int) (st : List MV) (μ : MM) (G : MG) : ev 98 89 [a0] (vR x :: vR y :: st) μ G = if gk G y = 10 then ev 98 92 [a0] st (mset μ y 7 x) G else none := ev_put2 pg_98_89
theorem pg_98_92 : mm_prog 98 92 = some (0, .aload_n 0, 93, []) := by decide +kernel
theorem xe_98_92 (x : Int) (st : List MV) (μ : MM) (G : MG) : ev 98 92 [some (vR x)] st μ G = ev 98 93 [some (vR x)] (vR x :: st) μ G := ev_stp pg_98_92 rfl
theorem pg_98_93 : mm_prog 98 93 = some (0, .new 61, 96, [9, 4]) := by decide +kernel
theorem xe_98_93 (a0 : Option MV) (st : List MV) (μ : MM) (G : MG) : ev 98 93 [a0] st μ G = ev 98 96 [a0] (vR G.2.1 :: st) (mzero μ G.2.1) (gnew G 9 0 4) := ev_stp pg_98_93 rfl
theorem pg_98_96 : mm_prog 98 96 = some (0, .dup, 97, []) := by decide +kernel
theorem xe_98_96 (a0 : Option MV) (x : Int) (st : List MV) (μ : MM) (G : MG) : ev 98 96 [a0] (vR x :: st) μ G = ev 98 97 [a0] (vR x :: vR x :: st) μ G := ev_stp pg_98_96 rfl
theorem pg_98_97 : mm_prog 98 97 = some (1, .invokespecial 63, 100, [1, 96, 0, 9]) := by decide +kernel
theorem xe_98_97 (a0 : Option MV) (z r0 r1 : Int) (μ : MM) (G : MG) : ev 98 97 [a0] (vR z :: [vR r0, vR r1]) μ G = if gk G z = 9 ∧ 0 < z then (ev 96 0 [some (vR z)] [] μ G).bind (fun q => ev 98 100 [a0] (q.1.toList ++ [vR r0, vR r1]) q.2.1 q.2.2) else none := ev_calV (as := [vR z]) (r := [vR r0, vR r1]) mx_96 pg_98_97 rfl rfl (Nat.le_of_ble_eq_true rfl) (Nat.le_of_ble_eq_true rfl)
theorem pg_98_100 : mm_prog 98 100 = some (0, .putfield 64, 103, [10, 8, 2]) := by decide +kernel
theorem xe_98_100 (a0 : Option MV) (x y : Int) (st : List MV) (μ : MM) (G : MG) : ev 98 100 [a0] (vR x :: vR y :: st) μ G = if gk G y = 10 then ev 98 103 [a0] st (mset μ y 8 x) G else none := ev_put2 pg_98_100
theorem pg_98_103 : mm_prog 98 103 = some (0, .aload_n 0, 104, []) := by decide +kernel
theorem xe_98_103 (x : Int) (st : List MV) (μ : MM) (G : MG) : ev 98 103 [some (vR x)] st μ G = ev 98 104 [some (vR x)] (vR x :: st) μ G := ev_stp pg_98_103 rfl
theorem pg_98_104 : mm_prog 98 104 = some (0, .new 68, 107, [8, 13]) := by decide +kernel
theorem xe_98_104 (a0 : Option MV) (st : List MV) (μ : MM) (G : MG) : ev 98 104 [a0] st μ G = ev 98 107 [a0] (vR G.2.1 :: st) (mzero μ G.2.1) (gnew G 8 0 13) := ev_stp pg_98_104 rfl
theorem pg_98_107 : mm_prog 98 107 = some (0, .dup, 108, []) := by decide +kernel
theorem xe_98_107 (a0 : Option MV) (x : Int) (st : List MV) (μ : MM) (G : MG) : ev 98 107 [a0] (vR x :: st) μ G = ev 98 108 [a0] (vR x :: vR x :: st) μ G := ev_stp pg_98_107 rfl
theorem pg_98_108 : mm_prog 98 108 = some (1, .invokespecial 70, 111, [1, 76, 0, 8]) := by decide +kernel
theorem xe_98_108 (a0 : Option MV) (z r0 r1 : Int) (μ : MM) (G : MG) : ev 98 108 [a0] (vR z :: [vR r0, vR r1]) μ G = if gk G z = 8 ∧ 0 < z then (ev 76 0 [some (vR z)] [] μ G).bind (fun q => ev 98 111 [a0] (q.1.toList ++ [vR r0, vR r1]) q.2.1 q.2.2) else none := ev_calV (as := [vR z]) (r := [vR r0, vR r1]) mx_76 pg_98_108 rfl rfl (Nat.le_of_ble_eq_true rfl) (Nat.le_of_ble_eq_true rfl)
theorem pg_98_111 : mm_prog 98 111 = some (0, .putfield 71, 114, [10, 9, 2]) := by decide +kernel
theorem xe_98_111 (a0 : Option MV) (x y : Int) (st : List MV) (μ : MM) (G : MG) : ev 98 111 [a0] (vR x :: vR y :: st) μ G = if gk G y = 10 then ev 98 114 [a0] st (mset μ y 9 x) G else none := ev_put2 pg_98_111
theorem pg_98_114 : mm_prog 98 114 = some (0, .aload_n 0, 115, []) := by decide +kernel
theorem xe_98_114 (x : Int) (st : List MV) (μ : MM) (G : MG) : ev 98 114 [some (vR x)] st μ G = ev 98 115 [some (vR x)] (vR x :: st) μ G := ev_stp pg_98_114 rfl
theorem pg_98_115 : mm_prog 98 115 = some (0, .new 75, 118, [3, 4]) := by decide +kernel
theorem xe_98_115 (a0 : Option MV) (st : List MV) (μ : MM) (G : MG) : ev 98 115 [a0] st μ G = ev 98 118 [a0] (vR G.2.1 :: st) (mzero μ G.2.1) (gnew G 3 0 4) := ev_stp pg_98_115 rfl
theorem pg_98_118 : mm_prog 98 118 = some (0, .dup, 119, []) := by decide +kernel
theorem xe_98_118 (a0 : Option MV) (x : Int) (st : List MV) (μ : MM) (G : MG) : ev 98 118 [a0] (vR x :: st) μ G = ev 98 119 [a0] (vR x :: vR x :: st) μ G := ev_stp pg_98_118 rfl
theorem pg_98_119 : mm_prog 98 119 = some (1, .invokespecial 77, 122, [1, 19, 0, 3]) := by decide +kernel
theorem xe_98_119 (a0 : Option MV) (z r0 r1 : Int) (μ : MM) (G : MG) : ev 98 119 [a0] (vR z :: [vR r0, vR r1]) μ G = if gk G z = 3 ∧ 0 < z then (ev 19 0 [some (vR z)] [] μ G).bind (fun q => ev 98 122 [a0] (q.1.toList ++ [vR r0, vR r1]) q.2.1 q.2.2) else none := ev_calV (as := [vR z]) (r := [vR r0, vR r1]) mx_19 pg_98_119 rfl rfl (Nat.le_of_ble_eq_true rfl) (Nat.le_of_ble_eq_true rfl)
theorem pg_98_122 : mm_prog 98 122 = some (0, .putfield 78, 125, [10, 10, 2]) := by decide +kernel
theorem xe_98_122 (a0 : Option MV) (x y : Int) (st : List MV) (μ : MM) (G : MG) : ev 98 122 [a0] (vR x :: vR y :: st) μ G = if gk G y = 10 then ev 98 125 [a0] st (mset μ y 10 x) G else none := ev_put2 pg_98_122
theorem pg_98_125 : mm_prog 98 125 = some (0, .aload_n 0, 126, []) := by decide +kernel
theorem xe_98_125 (x : Int) (st : List MV) (μ : MM) (G : MG) : ev 98 125 [some (vR x)] st μ G = ev 98 126 [some (vR x)] (vR x :: st) μ G := ev_stp pg_98_125 rfl
theorem pg_98_126 : mm_prog 98 126 = some (0, .new 61, 129, [9, 4]) := by decide +kernel
theorem xe_98_126 (a0 : Option MV) (st : List MV) (μ : MM) (G : MG) : ev 98 126 [a0] st μ G = ev 98 129 [a0] (vR G.2.1 :: st) (mzero μ G.2.1) (gnew G 9 0 4) := ev_stp pg_98_126 rfl
theorem pg_98_129 : mm_prog 98 129 = some (0, .dup, 130, []) := by decide +kernel
theorem xe_98_129 (a0 : Option MV) (x : Int) (st : List MV) (μ : MM) (G : MG) : ev 98 129 [a0] (vR x :: st) μ G = ev 98 130 [a0] (vR x :: vR x :: st) μ G := ev_stp pg_98_129 rfl
theorem pg_98_130 : mm_prog 98 130 = some (1, .invokespecial 63, 133, [1, 96, 0, 9]) := by decide +kernel
theorem xe_98_130 (a0 : Option MV) (z r0 r1 : Int) (μ : MM) (G : MG) : ev 98 130 [a0] (vR z :: [vR r0, vR r1]) μ G = if gk G z = 9 ∧ 0 < z then (ev 96 0 [some (vR z)] [] μ G).bind (fun q => ev 98 133 [a0] (q.1.toList ++ [vR r0, vR r1]) q.2.1 q.2.2) else none := ev_calV (as := [vR z]) (r := [vR r0, vR r1]) mx_96 pg_98_130 rfl rfl (Nat.le_of_ble_eq_true rfl) (Nat.le_of_ble_eq_true rfl)
theorem pg_98_133 : mm_prog 98 133 = some (0, .putfield 82, 136, [10, 11, 2]) := by decide +kernel
theorem xe_98_133 (a0 : Option MV) (x y : Int) (st : List MV) (μ : MM) (G : MG) : ev 98 133 [a0] (vR x :: vR y :: st) μ G = if gk G y = 10 then ev 98 136 [a0] st (mset μ y 11 x) G else none := ev_put2 pg_98_133
theorem pg_98_136 : mm_prog 98 136 = some (0, .aload_n 0, 137, []) := by decide +kernel
theorem xe_98_136 (x : Int) (st : List MV) (μ : MM) (G : MG) : ev 98 136 [some (vR x)] st μ G = ev 98 137 [some (vR x)] (vR x :: st) μ G := ev_stp pg_98_136 rfl
theorem pg_98_137 : mm_prog 98 137 = some (0, .new 68, 140, [8, 13]) := by decide +kernel
theorem xe_98_137 (a0 : Option MV) (st : List MV) (μ : MM) (G : MG) : ev 98 137 [a0] st μ G = ev 98 140 [a0] (vR G.2.1 :: st) (mzero μ G.2.1) (gnew G 8 0 13) := ev_stp pg_98_137 rfl
theorem pg_98_140 : mm_prog 98 140 = some (0, .dup, 141, []) := by decide +kernel
theorem xe_98_140 (a0 : Option MV) (x : Int) (st : List MV) (μ : MM) (G : MG) : ev 98 140 [a0] (vR x :: st) μ G = ev 98 141 [a0] (vR x :: vR x :: st) μ G := ev_stp pg_98_140 rfl
theorem pg_98_141 : mm_prog 98 141 = some (1, .invokespecial 70, 144, [1, 76, 0, 8]) := by decide +kernel
theorem xe_98_141 (a0 : Option MV) (z r0 r1 : Int) (μ : MM) (G : MG) : ev 98 141 [a0] (vR z :: [vR r0, vR r1]) μ G = if gk G z = 8 ∧ 0 < z then (ev 76 0 [some (vR z)] [] μ G).bind (fun q => ev 98 144 [a0] (q.1.toList ++ [vR r0, vR r1]) q.2.1 q.2.2) else none := ev_calV (as := [vR z]) (r := [vR r0, vR r1]) mx_76 pg_98_141 rfl rfl (Nat.le_of_ble_eq_true rfl) (Nat.le_of_ble_eq_true rfl)
theorem pg_98_144 : mm_prog 98 144 = some (0, .putfield 85, 147, [10, 12, 2]) := by decide +kernel
theorem xe_98_144 (a0 : Option MV) (x y : Int) (st : List MV) (μ : MM) (G : MG) : ev 98 144 [a0] (vR x :: vR y :: st) μ G = if gk G y = 10 then ev 98 147 [a0] st (mset μ y 12 x) G else none := ev_put2 pg_98_144
theorem pg_98_147 : mm_prog 98 147 = some (0, .aload_n 0, 148, []) := by decide +kernel
theorem xe_98_147 (x : Int) (st : List MV) (μ : MM) (G : MG) : ev 98 147 [some (vR x)] st μ G = ev 98 148 [some (vR x)] (vR x :: st) μ G := ev_stp pg_98_147 rfl
theorem pg_98_148 : mm_prog 98 148 = some (0, .bipush 8, 150, []) := by decide +kernel
theorem xe_98_148 (a0 : Option MV) (st : List MV) (μ : MM) (G : MG) : ev 98 148 [a0] st μ G = ev 98 150 [a0] (vI (8) :: st) μ G := ev_stp pg_98_148 rfl
theorem pg_98_150 : mm_prog 98 150 = some (0, .putfield 88, 153, [10, 13, 0]) := by decide +kernel
theorem xe_98_150 (a0 : Option MV) (x y : Int) (st : List MV) (μ : MM) (G : MG) : ev 98 150 [a0] (vI x :: vR y :: st) μ G = if gk G y = 10 then ev 98 153 [a0] st (mset μ y 13 x) G else none := ev_put0 pg_98_150
theorem pg_98_153 : mm_prog 98 153 = some (2, .return_, 154, []) := by decide +kernel
theorem xe_98_153 (a0 : Option MV) (μ : MM) (G : MG) : ev 98 153 [a0] [] μ G = some (none, μ, G) := ev_ret pg_98_153 rfl
-- X10_feed
theorem pg_99_0 : mm_prog 99 0 = some (0, .aload_n 0, 1, []) := by decide +kernel
theorem xe_99_0 (a1 a2 a3 a4 a5 : Option MV) (x : Int) (st : List MV) (μ : MM) (G : MG) : ev 99 0 [some (vR x), a1, a2, a3, a4, a5] st μ G = ev 99 1 [some (vR x), a1, a2, a3, a4, a5] (vR x :: st) μ G := ev_stp pg_99_0 rfl
theorem pg_99_1 : mm_prog 99 1 = some (0, .getfield 10, 4, [10, 0, 2]) := by decide +kernel
theorem xe_99_1 (a0 a1 a2 a3 a4 a5 : Option MV) (x : Int) (st : List MV) (μ : MM) (G : MG) : ev 99 1 [a0, a1, a2, a3, a4, a5] (vR x :: st) μ G = if gk G x = 10 then ev 99 4 [a0, a1, a2, a3, a4, a5] (vR (μ x 0) :: st) μ G else none := ev_if pg_99_1 rfl
theorem pg_99_4 : mm_prog 99 4 = some (0, .getfield 92, 7, [0, 1, 0]) := by decide +kernel
theorem xe_99_4 (a0 a1 a2 a3 a4 a5 : Option MV) (x : Int) (st : List MV) (μ : MM) (G : MG) : ev 99 4 [a0, a1, a2, a3, a4, a5] (vR x :: st) μ G = if gk G x = 0 then ev 99 7 [a0, a1, a2, a3, a4, a5] (vI (μ x 1) :: st) μ G else none := ev_if pg_99_4 rfl
theorem pg_99_7 : mm_prog 99 7 = some (0, .bipush 20, 9, []) := by decide +kernel
theorem xe_99_7 (a0 a1 a2 a3 a4 a5 : Option MV) (st : List MV) (μ : MM) (G : MG) : ev 99 7 [a0, a1, a2, a3, a4, a5] st μ G = ev 99 9 [a0, a1, a2, a3, a4, a5] (vI (20) :: st) μ G := ev_stp pg_99_7 rfl
theorem pg_99_9 : mm_prog 99 9 = some (0, .iadd, 10, []) := by decide +kernel
theorem xe_99_9 (a0 a1 a2 a3 a4 a5 : Option MV) (x y : Int) (st : List MV) (μ : MM) (G : MG) : ev 99 9 [a0, a1, a2, a3, a4, a5] (vI y :: vI x :: st) μ G = ev 99 10 [a0, a1, a2, a3, a4, a5] (vI (w32 (x + y)) :: st) μ G := ev_stp pg_99_9 rfl
theorem pg_99_10 : mm_prog 99 10 = some (0, .sipush 520, 13, []) := by decide +kernel
theorem xe_99_10 (a0 a1 a2 a3 a4 a5 : Option MV) (st : List MV) (μ : MM) (G : MG) : ev 99 10 [a0, a1, a2, a3, a4, a5] st μ G = ev 99 13 [a0, a1, a2, a3, a4, a5] (vI (520) :: st) μ G := ev_stp pg_99_10 rfl
theorem pg_99_13 : mm_prog 99 13 = some (0, .if_icmp .le 6, 16, []) := by decide +kernel
theorem xe_99_13 (a0 a1 a2 a3 a4 a5 : Option MV) (x y : Int) (st : List MV) (μ : MM) (G : MG) : ev 99 13 [a0, a1, a2, a3, a4, a5] (vI y :: vI x :: st) μ G = if x ≤ y then ev 99 19 [a0, a1, a2, a3, a4, a5] st μ G else ev 99 16 [a0, a1, a2, a3, a4, a5] st μ G := ev_br (mm_cnd_le x y) pg_99_13 rfl
theorem pg_99_16 : mm_prog 99 16 = some (0, .bipush (-4), 18, []) := by decide +kernel
theorem xe_99_16 (a0 a1 a2 a3 a4 a5 : Option MV) (st : List MV) (μ : MM) (G : MG) : ev 99 16 [a0, a1, a2, a3, a4, a5] st μ G = ev 99 18 [a0, a1, a2, a3, a4, a5] (vI (-4) :: st) μ G := ev_stp pg_99_16 rfl
theorem pg_99_18 : mm_prog 99 18 = some (2, .ireturn, 19, [0]) := by decide +kernel
theorem xe_99_18 (a0 a1 a2 a3 a4 a5 : Option MV) (x : Int) (μ : MM) (G : MG) : ev 99 18 [a0, a1, a2, a3, a4, a5] [vI x] μ G = some (some (vI x), μ, G) := ev_ret pg_99_18 rfl
theorem pg_99_19 : mm_prog 99 19 = some (0, .aload_n 0, 20, []) := by decide +kernel
theorem xe_99_19 (a1 a2 a3 a4 a5 : Option MV) (x : Int) (st : List MV) (μ : MM) (G : MG) : ev 99 19 [some (vR x), a1, a2, a3, a4, a5] st μ G = ev 99 20 [some (vR x), a1, a2, a3, a4, a5] (vR x :: st) μ G := ev_stp pg_99_19 rfl
theorem pg_99_20 : mm_prog 99 20 = some (0, .getfield 10, 23, [10, 0, 2]) := by decide +kernel
theorem xe_99_20 (a0 a1 a2 a3 a4 a5 : Option MV) (x : Int) (st : List MV) (μ : MM) (G : MG) : ev 99 20 [a0, a1, a2, a3, a4, a5] (vR x :: st) μ G = if gk G x = 10 then ev 99 23 [a0, a1, a2, a3, a4, a5] (vR (μ x 0) :: st) μ G else none := ev_if pg_99_20 rfl
theorem pg_99_23 : mm_prog 99 23 = some (0, .iload_n 1, 24, []) := by decide +kernel
theorem xe_99_23 (a0 a2 a3 a4 a5 : Option MV) (x : Int) (st : List MV) (μ : MM) (G : MG) : ev 99 23 [a0, some (vI x), a2, a3, a4, a5] st μ G = ev 99 24 [a0, some (vI x), a2, a3, a4, a5] (vI x :: st) μ G := ev_stp pg_99_23 rfl
theorem pg_99_24 : mm_prog 99 24 = some (1, .invokevirtual 95, 27, [1, 2, 1, 0]) := by decide +kernel
theorem xe_99_24 (a0 a1 a2 a3 a4 a5 : Option MV) (x0 z : Int) (μ : MM) (G : MG) : ev 99 24 [a0, a1, a2, a3, a4, a5] (vI x0 :: vR z :: []) μ G = if gk G z = 0 ∧ 0 < z then (ev 2 0 [some (vR z), some (vI x0), none] [] μ G).bind (fun q => ev 99 27 [a0, a1, a2, a3, a4, a5] (q.1.toList ++ []) q.2.1 q.2.2) else none := ev_calV (as := [vR z, vI x0]) (r := []) mx_2 pg_99_24 rfl rfl (Nat.le_of_ble_eq_true rfl) (Nat.le_of_ble_eq_true rfl)
theorem pg_99_27 : mm_prog 99 27 = some (0, .aload_n 0, 28, []) := by decide +kernel
theorem xe_99_27 (a1 a2 a3 a4 a5 : Option MV) (x : Int) (st : List MV) (μ : MM) (G : MG) : ev 99 27 [some (vR x), a1, a2, a3, a4, a5] st μ G = ev 99 28 [some (vR x), a1, a2, a3, a4, a5] (vR x :: st) μ G := ev_stp pg_99_27 rfl
theorem pg_99_28 : mm_prog 99 28 = some (0, .getfield 10, 31, [10, 0, 2]) := by decide +kernel
theorem xe_99_28 (a0 a1 a2 a3 a4 a5 : Option MV) (x : Int) (st : List MV) (μ : MM) (G : MG) : ev 99 28 [a0, a1, a2, a3, a4, a5] (vR x :: st) μ G = if gk G x = 10 then ev 99 31 [a0, a1, a2, a3, a4, a5] (vR (μ x 0) :: st) μ G else none := ev_if pg_99_28 rfl
theorem pg_99_31 : mm_prog 99 31 = some (0, .iload_n 2, 32, []) := by decide +kernel
theorem xe_99_31 (a0 a1 a3 a4 a5 : Option MV) (x : Int) (st : List MV) (μ : MM) (G : MG) : ev 99 31 [a0, a1, some (vI x), a3, a4, a5] st μ G = ev 99 32 [a0, a1, some (vI x), a3, a4, a5] (vI x :: st) μ G := ev_stp pg_99_31 rfl
theorem pg_99_32 : mm_prog 99 32 = some (1, .invokevirtual 95, 35, [1, 2, 1, 0]) := by decide +kernel
theorem xe_99_32 (a0 a1 a2 a3 a4 a5 : Option MV) (x0 z : Int) (μ : MM) (G : MG) : ev 99 32 [a0, a1, a2, a3, a4, a5] (vI x0 :: vR z :: []) μ G = if gk G z = 0 ∧ 0 < z then (ev 2 0 [some (vR z), some (vI x0), none] [] μ G).bind (fun q => ev 99 35 [a0, a1, a2, a3, a4, a5] (q.1.toList ++ []) q.2.1 q.2.2) else none := ev_calV (as := [vR z, vI x0]) (r := []) mx_2 pg_99_32 rfl rfl (Nat.le_of_ble_eq_true rfl) (Nat.le_of_ble_eq_true rfl)
theorem pg_99_35 : mm_prog 99 35 = some (0, .aload_n 0, 36, []) := by decide +kernel
theorem xe_99_35 (a1 a2 a3 a4 a5 : Option MV) (x : Int) (st : List MV) (μ : MM) (G : MG) : ev 99 35 [some (vR x), a1, a2, a3, a4, a5] st μ G = ev 99 36 [some (vR x), a1, a2, a3, a4, a5] (vR x :: st) μ G := ev_stp pg_99_35 rfl
theorem pg_99_36 : mm_prog 99 36 = some (0, .getfield 10, 39, [10, 0, 2]) := by decide +kernel
theorem xe_99_36 (a0 a1 a2 a3 a4 a5 : Option MV) (x : Int) (st : List MV) (μ : MM) (G : MG) : ev 99 36 [a0, a1, a2, a3, a4, a5] (vR x :: st) μ G = if gk G x = 10 then ev 99 39 [a0, a1, a2, a3, a4, a5] (vR (μ x 0) :: st) μ G else none := ev_if pg_99_36 rfl
theorem pg_99_39 : mm_prog 99 39 = some (0, .iload_n 3, 40, []) := by decide +kernel
theorem xe_99_39 (a0 a1 a2 a4 a5 : Option MV) (x : Int) (st : List MV) (μ : MM) (G : MG) : ev 99 39 [a0, a1, a2, some (vI x), a4, a5] st μ G = ev 99 40 [a0, a1, a2, some (vI x), a4, a5] (vI x :: st) μ G := ev_stp pg_99_39 rfl
theorem pg_99_40 : mm_prog 99 40 = some (1, .invokevirtual 95, 43, [1, 2, 1, 0]) := by decide +kernel
theorem xe_99_40 (a0 a1 a2 a3 a4 a5 : Option MV) (x0 z : Int) (μ : MM) (G : MG) : ev 99 40 [a0, a1, a2, a3, a4, a5] (vI x0 :: vR z :: []) μ G = if gk G z = 0 ∧ 0 < z then (ev 2 0 [some (vR z), some (vI x0), none] [] μ G).bind (fun q => ev 99 43 [a0, a1, a2, a3, a4, a5] (q.1.toList ++ []) q.2.1 q.2.2) else none := ev_calV (as := [vR z, vI x0]) (r := []) mx_2 pg_99_40 rfl rfl (Nat.le_of_ble_eq_true rfl) (Nat.le_of_ble_eq_true rfl)
theorem pg_99_43 : mm_prog 99 43 = some (0, .aload_n 0, 44, []) := by decide +kernel
theorem xe_99_43 (a1 a2 a3 a4 a5 : Option MV) (x : Int) (st : List MV) (μ : MM) (G : MG) : ev 99 43 [some (vR x), a1, a2, a3, a4, a5] st μ G = ev 99 44 [some (vR x), a1, a2, a3, a4, a5] (vR x :: st) μ G := ev_stp pg_99_43 rfl
theorem pg_99_44 : mm_prog 99 44 = some (0, .getfield 10, 47, [10, 0, 2]) := by decide +kernel
theorem xe_99_44 (a0 a1 a2 a3 a4 a5 : Option MV) (x : Int) (st : List MV) (μ : MM) (G : MG) : ev 99 44 [a0, a1, a2, a3, a4, a5] (vR x :: st) μ G = if gk G x = 10 then ev 99 47 [a0, a1, a2, a3, a4, a5] (vR (μ x 0) :: st) μ G else none := ev_if pg_99_44 rfl
theorem pg_99_47 : mm_prog 99 47 = some (0, .iload 4, 49, []) := by decide +kernel
theorem xe_99_47 (a0 a1 a2 a3 a5 : Option MV) (x : Int) (st : List MV) (μ : MM) (G : MG) : ev 99 47 [a0, a1, a2, a3, some (vI x), a5] st μ G = ev 99 49 [a0, a1, a2, a3, some (vI x), a5] (vI x :: st) μ G := ev_stp pg_99_47 rfl
theorem pg_99_49 : mm_prog 99 49 = some (1, .invokevirtual 95, 52, [1, 2, 1, 0]) := by decide +kernel
theorem xe_99_49 (a0 a1 a2 a3 a4 a5 : Option MV) (x0 z : Int) (μ : MM) (G : MG) : ev 99 49 [a0, a1, a2, a3, a4, a5] (vI x0 :: vR z :: []) μ G = if gk G z = 0 ∧ 0 < z then (ev 2 0 [some (vR z), some (vI x0), none] [] μ G).bind (fun q => ev 99 52 [a0, a1, a2, a3, a4, a5] (q.1.toList ++ []) q.2.1 q.2.2) else none := ev_calV (as := [vR z, vI x0]) (r := []) mx_2 pg_99_49 rfl rfl (Nat.le_of_ble_eq_true rfl) (Nat.le_of_ble_eq_true rfl)
theorem pg_99_52 : mm_prog 99 52 = some (0, .aload_n 0, 53, []) := by decide +kernel
theorem xe_99_52 (a1 a2 a3 a4 a5 : Option MV) (x : Int) (st : List MV) (μ : MM) (G : MG) : ev 99 52 [some (vR x), a1, a2, a3, a4, a5] st μ G = ev 99 53 [some (vR x), a1, a2, a3, a4, a5] (vR x :: st) μ G := ev_stp pg_99_52 rfl
theorem pg_99_53 : mm_prog 99 53 = some (0, .getfield 10, 56, [10, 0, 2]) := by decide +kernel
theorem xe_99_53 (a0 a1 a2 a3 a4 a5 : Option MV) (x : Int) (st : List MV) (μ : MM) (G : MG) : ev 99 53 [a0, a1, a2, a3, a4, a5] (vR x :: st) μ G = if gk G x = 10 then ev 99 56 [a0, a1, a2, a3, a4, a5] (vR (μ x 0) :: st) μ G else none := ev_if pg_99_53 rfl
theorem pg_99_56 : mm_prog 99 56 = some (0, .iload 5, 58, []) := by decide +kernel
theorem xe_99_56 (a0 a1 a2 a3 a4 : Option MV) (x : Int) (st : List MV) (μ : MM) (G : MG) : ev 99 56 [a0, a1, a2, a3, a4, some (vI x)] st μ G = ev 99 58 [a0, a1, a2, a3, a4, some (vI x)] (vI x :: st) μ G := ev_stp pg_99_56 rfl
theorem pg_99_58 : mm_prog 99 58 = some (1, .invokevirtual 95, 61, [1, 2, 1, 0]) := by decide +kernel
theorem xe_99_58 (a0 a1 a2 a3 a4 a5 : Option MV) (x0 z : Int) (μ : MM) (G : MG) : ev 99 58 [a0, a1, a2, a3, a4, a5] (vI x0 :: vR z :: []) μ G = if gk G z = 0 ∧ 0 < z then (ev 2 0 [some (vR z), some (vI x0), none] [] μ G).bind (fun q => ev 99 61 [a0, a1, a2, a3, a4, a5] (q.1.toList ++ []) q.2.1 q.2.2) else none := ev_calV (as := [vR z, vI x0]) (r := []) mx_2 pg_99_58 rfl rfl (Nat.le_of_ble_eq_true rfl) (Nat.le_of_ble_eq_true rfl)
theorem pg_99_61 : mm_prog 99 61 = some (0, .aload_n 0, 62, []) := by decide +kernel
theorem xe_99_61 (a1 a2 a3 a4 a5 : Option MV) (x : Int) (st : List MV) (μ : MM) (G : MG) : ev 99 61 [some (vR x), a1, a2, a3, a4, a5] st μ G = ev 99 62 [some (vR x), a1, a2, a3, a4, a5] (vR x :: st) μ G := ev_stp pg_99_61 rfl
theorem pg_99_62 : mm_prog 99 62 = some (0, .getfield 10, 65, [10, 0, 2]) := by decide +kernel
theorem xe_99_62 (a0 a1 a2 a3 a4 a5 : Option MV) (x : Int) (st : List MV) (μ : MM) (G : MG) : ev 99 62 [a0, a1, a2, a3, a4, a5] (vR x :: st) μ G = if gk G x = 10 then ev 99 65 [a0, a1, a2, a3, a4, a5] (vR (μ x 0) :: st) μ G else none := ev_if pg_99_62 rfl
theorem pg_99_65 : mm_prog 99 65 = some (0, .getfield 92, 68, [0, 1, 0]) := by decide +kernel
theorem xe_99_65 (a0 a1 a2 a3 a4 a5 : Option MV) (x : Int) (st : List MV) (μ : MM) (G : MG) : ev 99 65 [a0, a1, a2, a3, a4, a5] (vR x :: st) μ G = if gk G x = 0 then ev 99 68 [a0, a1, a2, a3, a4, a5] (vI (μ x 1) :: st) μ G else none := ev_if pg_99_65 rfl
theorem pg_99_68 : mm_prog 99 68 = some (2, .ireturn, 69, [0]) := by decide +kernel
theorem xe_99_68 (a0 a1 a2 a3 a4 a5 : Option MV) (x : Int) (μ : MM) (G : MG) : ev 99 68 [a0, a1, a2, a3, a4, a5] [vI x] μ G = some (some (vI x), μ, G) := ev_ret pg_99_68 rfl
-- X10_load
theorem pg_100_0 : mm_prog 100 0 = some (0, .iload_n 1, 1, []) := by decide +kernel
theorem xe_100_0 (a0 : Option MV) (x : Int) (st : List MV) (μ : MM) (G : MG) : ev 100 0 [a0, some (vI x)] st μ G = ev 100 1 [a0, some (vI x)] (vI x :: st) μ G := ev_stp pg_100_0 rfl
theorem pg_100_1 : mm_prog 100 1 = some (0, .ifCond .lt 14, 4, []) := by decide +kernel
theorem xe_100_1 (a0 a1 : Option MV) (x : Int) (st : List MV) (μ : MM) (G : MG) : ev 100 1 [a0, a1] (vI x :: st) μ G = if x < 0 then ev 100 15 [a0, a1] st μ G else ev 100 4 [a0, a1] st μ G := ev_br (mm_cnd_lt x 0) pg_100_1 rfl
theorem pg_100_4 : mm_prog 100 4 = some (0, .iload_n 1, 5, []) := by decide +kernel
theorem xe_100_4 (a0 : Option MV) (x : Int) (st : List MV) (μ : MM) (G : MG) : ev 100 4 [a0, some (vI x)] st μ G = ev 100 5 [a0, some (vI x)] (vI x :: st) μ G := ev_stp pg_100_4 rfl
theorem pg_100_5 : mm_prog 100 5 = some (0, .aload_n 0, 6, []) := by decide +kernel
theorem xe_100_5 (a1 : Option MV) (x : Int) (st : List MV) (μ : MM) (G : MG) : ev 100 5 [some (vR x), a1] st μ G = ev 100 6 [some (vR x), a1] (vR x :: st) μ G := ev_stp pg_100_5 rfl
theorem pg_100_6 : mm_prog 100 6 = some (0, .getfield 10, 9, [10, 0, 2]) := by decide +kernel
theorem xe_100_6 (a0 a1 : Option MV) (x : Int) (st : List MV) (μ : MM) (G : MG) : ev 100 6 [a0, a1] (vR x :: st) μ G = if gk G x = 10 then ev 100 9 [a0, a1] (vR (μ x 0) :: st) μ G else none := ev_if pg_100_6 rfl
theorem pg_100_9 : mm_prog 100 9 = some (0, .getfield 92, 12, [0, 1, 0]) := by decide +kernel
theorem xe_100_9 (a0 a1 : Option MV) (x : Int) (st : List MV) (μ : MM) (G : MG) : ev 100 9 [a0, a1] (vR x :: st) μ G = if gk G x = 0 then ev 100 12 [a0, a1] (vI (μ x 1) :: st) μ G else none := ev_if pg_100_9 rfl
theorem pg_100_12 : mm_prog 100 12 = some (0, .if_icmp .le 6, 15, []) := by decide +kernel
theorem xe_100_12 (a0 a1 : Option MV) (x y : Int) (st : List MV) (μ : MM) (G : MG) : ev 100 12 [a0, a1] (vI y :: vI x :: st) μ G = if x ≤ y then ev 100 18 [a0, a1] st μ G else ev 100 15 [a0, a1] st μ G := ev_br (mm_cnd_le x y) pg_100_12 rfl
theorem pg_100_15 : mm_prog 100 15 = some (0, .bipush (-3), 17, []) := by decide +kernel
theorem xe_100_15 (a0 a1 : Option MV) (st : List MV) (μ : MM) (G : MG) : ev 100 15 [a0, a1] st μ G = ev 100 17 [a0, a1] (vI (-3) :: st) μ G := ev_stp pg_100_15 rfl
theorem pg_100_17 : mm_prog 100 17 = some (2, .ireturn, 18, [0]) := by decide +kernel
theorem xe_100_17 (a0 a1 : Option MV) (x : Int) (μ : MM) (G : MG) : ev 100 17 [a0, a1] [vI x] μ G = some (some (vI x), μ, G) := ev_ret pg_100_17 rfl
theorem pg_100_18 : mm_prog 100 18 = some (0, .aload_n 0, 19, []) := by decide +kernel
theorem xe_100_18 (a1 : Option MV) (x : Int) (st : List MV) (μ : MM) (G : MG) : ev 100 18 [some (vR x), a1] st μ G = ev 100 19 [some (vR x), a1] (vR x :: st) μ G := ev_stp pg_100_18 rfl
theorem pg_100_19 : mm_prog 100 19 = some (0, .getfield 16, 22, [10, 1, 2]) := by decide +kernel
theorem xe_100_19 (a0 a1 : Option MV) (x : Int) (st : List MV) (μ : MM) (G : MG) : ev 100 19 [a0, a1] (vR x :: st) μ G = if gk G x = 10 then ev 100 22 [a0, a1] (vR (μ x 1) :: st) μ G else none := ev_if pg_100_19 rfl
theorem pg_100_22 : mm_prog 100 22 = some (0, .aload_n 0, 23, []) := by decide +kernel
theorem xe_100_22 (a1 : Option MV) (x : Int) (st : List MV) (μ : MM) (G : MG) : ev 100 22 [some (vR x), a1] st μ G = ev 100 23 [some (vR x), a1] (vR x :: st) μ G := ev_stp pg_100_22 rfl
theorem pg_100_23 : mm_prog 100 23 = some (0, .getfield 10, 26, [10, 0, 2]) := by decide +kernel
theorem xe_100_23 (a0 a1 : Option MV) (x : Int) (st : List MV) (μ : MM) (G : MG) : ev 100 23 [a0, a1] (vR x :: st) μ G = if gk G x = 10 then ev 100 26 [a0, a1] (vR (μ x 0) :: st) μ G else none := ev_if pg_100_23 rfl
theorem pg_100_26 : mm_prog 100 26 = some (0, .iload_n 1, 27, []) := by decide +kernel
theorem xe_100_26 (a0 : Option MV) (x : Int) (st : List MV) (μ : MM) (G : MG) : ev 100 26 [a0, some (vI x)] st μ G = ev 100 27 [a0, some (vI x)] (vI x :: st) μ G := ev_stp pg_100_26 rfl
theorem pg_100_27 : mm_prog 100 27 = some (1, .invokevirtual 99, 30, [1, 4, 2, 0]) := by decide +kernel
theorem xe_100_27 (a0 a1 : Option MV) (x0 x1 z : Int) (μ : MM) (G : MG) : ev 100 27 [a0, a1] (vI x1 :: vR x0 :: vR z :: []) μ G = if gk G z = 0 ∧ 0 < z then (ev 4 0 [some (vR z), some (vR x0), some (vI x1)] [] μ G).bind (fun q => ev 100 30 [a0, a1] (q.1.toList ++ []) q.2.1 q.2.2) else none := ev_calV (as := [vR z, vR x0, vI x1]) (r := []) mx_4 pg_100_27 rfl rfl (Nat.le_of_ble_eq_true rfl) (Nat.le_of_ble_eq_true rfl)
theorem pg_100_30 : mm_prog 100 30 = some (0, .aload_n 0, 31, []) := by decide +kernel
theorem xe_100_30 (a1 : Option MV) (x : Int) (st : List MV) (μ : MM) (G : MG) : ev 100 30 [some (vR x), a1] st μ G = ev 100 31 [some (vR x), a1] (vR x :: st) μ G := ev_stp pg_100_30 rfl
theorem pg_100_31 : mm_prog 100 31 = some (0, .getfield 10, 34, [10, 0, 2]) := by decide +kernel
theorem xe_100_31 (a0 a1 : Option MV) (x : Int) (st : List MV) (μ : MM) (G : MG) : ev 100 31 [a0, a1] (vR x :: st) μ G = if gk G x = 10 then ev 100 34 [a0, a1] (vR (μ x 0) :: st) μ G else none := ev_if pg_100_31 rfl
theorem pg_100_34 : mm_prog 100 34 = some (1, .invokevirtual 103, 37, [1, 1, 0, 0]) := by decide +kernel
theorem xe_100_34 (a0 a1 : Option MV) (z : Int) (μ : MM) (G : MG) : ev 100 34 [a0, a1] (vR z :: []) μ G = if gk G z = 0 ∧ 0 < z then (ev 1 0 [some (vR z)] [] μ G).bind (fun q => ev 100 37 [a0, a1] (q.1.toList ++ []) q.2.1 q.2.2) else none := ev_calV (as := [vR z]) (r := []) mx_1 pg_100_34 rfl rfl (Nat.le_of_ble_eq_true rfl) (Nat.le_of_ble_eq_true rfl)
theorem pg_100_37 : mm_prog 100 37 = some (0, .aload_n 0, 38, []) := by decide +kernel
theorem xe_100_37 (a1 : Option MV) (x : Int) (st : List MV) (μ : MM) (G : MG) : ev 100 37 [some (vR x), a1] st μ G = ev 100 38 [some (vR x), a1] (vR x :: st) μ G := ev_stp pg_100_37 rfl
theorem pg_100_38 : mm_prog 100 38 = some (0, .getfield 22, 41, [10, 2, 2]) := by decide +kernel
theorem xe_100_38 (a0 a1 : Option MV) (x : Int) (st : List MV) (μ : MM) (G : MG) : ev 100 38 [a0, a1] (vR x :: st) μ G = if gk G x = 10 then ev 100 41 [a0, a1] (vR (μ x 2) :: st) μ G else none := ev_if pg_100_38 rfl
theorem pg_100_41 : mm_prog 100 41 = some (0, .aload_n 0, 42, []) := by decide +kernel
theorem xe_100_41 (a1 : Option MV) (x : Int) (st : List MV) (μ : MM) (G : MG) : ev 100 41 [some (vR x), a1] st μ G = ev 100 42 [some (vR x), a1] (vR x :: st) μ G := ev_stp pg_100_41 rfl
theorem pg_100_42 : mm_prog 100 42 = some (0, .getfield 16, 45, [10, 1, 2]) := by decide +kernel
theorem xe_100_42 (a0 a1 : Option MV) (x : Int) (st : List MV) (μ : MM) (G : MG) : ev 100 42 [a0, a1] (vR x :: st) μ G = if gk G x = 10 then ev 100 45 [a0, a1] (vR (μ x 1) :: st) μ G else none := ev_if pg_100_42 rfl
theorem pg_100_45 : mm_prog 100 45 = some (1, .invokevirtual 106, 48, [1, 15, 1, 2]) := by decide +kernel
theorem xe_100_45 (a0 a1 : Option MV) (x0 z : Int) (μ : MM) (G : MG) : ev 100 45 [a0, a1] (vR x0 :: vR z :: []) μ G = if gk G z = 2 ∧ 0 < z then (ev 15 0 [some (vR z), some (vR x0), none, none] [] μ G).bind (fun q => ev 100 48 [a0, a1] (q.1.toList ++ []) q.2.1 q.2.2) else none := ev_calV (as := [vR z, vR x0]) (r := []) mx_15 pg_100_45 rfl rfl (Nat.le_of_ble_eq_true rfl) (Nat.le_of_ble_eq_true rfl)
theorem pg_100_48 : mm_prog 100 48 = some (0, .aload_n 0, 49, []) := by decide +kernel
theorem xe_100_48 (a1 : Option MV) (x : Int) (st : List MV) (μ : MM) (G : MG) : ev 100 48 [some (vR x), a1] st μ G = ev 100 49 [some (vR x), a1] (vR x :: st) μ G := ev_stp pg_100_48 rfl
theorem pg_100_49 : mm_prog 100 49 = some (0, .getfield 22, 52, [10, 2, 2]) := by decide +kernel
theorem xe_100_49 (a0 a1 : Option MV) (x : Int) (st : List MV) (μ : MM) (G : MG) : ev 100 49 [a0, a1] (vR x :: st) μ G = if gk G x = 10 then ev 100 52 [a0, a1] (vR (μ x 2) :: st) μ G else none := ev_if pg_100_49 rfl
theorem pg_100_52 : mm_prog 100 52 = some (0, .getfield 110, 55, [2, 0, 0]) := by decide +kernel
theorem xe_100_52 (a0 a1 : Option MV) (x : Int) (st : List MV) (μ : MM) (G : MG) : ev 100 52 [a0, a1] (vR x :: st) μ G = if gk G x = 2 then ev 100 55 [a0, a1] (vI (μ x 0) :: st) μ G else none := ev_if pg_100_52 rfl
theorem pg_100_55 : mm_prog 100 55 = some (0, .ifCond .eq 14, 58, []) := by decide +kernel
theorem xe_100_55 (a0 a1 : Option MV) (x : Int) (st : List MV) (μ : MM) (G : MG) : ev 100 55 [a0, a1] (vI x :: st) μ G = if x = 0 then ev 100 69 [a0, a1] st μ G else ev 100 58 [a0, a1] st μ G := ev_br (mm_cnd_eq x 0) pg_100_55 rfl
theorem pg_100_58 : mm_prog 100 58 = some (0, .bipush (-30), 60, []) := by decide +kernel
theorem xe_100_58 (a0 a1 : Option MV) (st : List MV) (μ : MM) (G : MG) : ev 100 58 [a0, a1] st μ G = ev 100 60 [a0, a1] (vI (-30) :: st) μ G := ev_stp pg_100_58 rfl
theorem pg_100_60 : mm_prog 100 60 = some (0, .aload_n 0, 61, []) := by decide +kernel
theorem xe_100_60 (a1 : Option MV) (x : Int) (st : List MV) (μ : MM) (G : MG) : ev 100 60 [some (vR x), a1] st μ G = ev 100 61 [some (vR x), a1] (vR x :: st) μ G := ev_stp pg_100_60 rfl
theorem pg_100_61 : mm_prog 100 61 = some (0, .getfield 22, 64, [10, 2, 2]) := by decide +kernel
theorem xe_100_61 (a0 a1 : Option MV) (x : Int) (st : List MV) (μ : MM) (G : MG) : ev 100 61 [a0, a1] (vR x :: st) μ G = if gk G x = 10 then ev 100 64 [a0, a1] (vR (μ x 2) :: st) μ G else none := ev_if pg_100_61 rfl
theorem pg_100_64 : mm_prog 100 64 = some (0, .getfield 110, 67, [2, 0, 0]) := by decide +kernel
theorem xe_100_64 (a0 a1 : Option MV) (x : Int) (st : List MV) (μ : MM) (G : MG) : ev 100 64 [a0, a1] (vR x :: st) μ G = if gk G x = 2 then ev 100 67 [a0, a1] (vI (μ x 0) :: st) μ G else none := ev_if pg_100_64 rfl
theorem pg_100_67 : mm_prog 100 67 = some (0, .isub, 68, []) := by decide +kernel
theorem xe_100_67 (a0 a1 : Option MV) (x y : Int) (st : List MV) (μ : MM) (G : MG) : ev 100 67 [a0, a1] (vI y :: vI x :: st) μ G = ev 100 68 [a0, a1] (vI (w32 (x - y)) :: st) μ G := ev_stp pg_100_67 rfl
theorem pg_100_68 : mm_prog 100 68 = some (2, .ireturn, 69, [0]) := by decide +kernel
theorem xe_100_68 (a0 a1 : Option MV) (x : Int) (μ : MM) (G : MG) : ev 100 68 [a0, a1] [vI x] μ G = some (some (vI x), μ, G) := ev_ret pg_100_68 rfl
theorem pg_100_69 : mm_prog 100 69 = some (0, .aload_n 0, 70, []) := by decide +kernel
theorem xe_100_69 (a1 : Option MV) (x : Int) (st : List MV) (μ : MM) (G : MG) : ev 100 69 [some (vR x), a1] st μ G = ev 100 70 [some (vR x), a1] (vR x :: st) μ G := ev_stp pg_100_69 rfl
theorem pg_100_70 : mm_prog 100 70 = some (0, .getfield 29, 73, [10, 3, 2]) := by decide +kernel
theorem xe_100_70 (a0 a1 : Option MV) (x : Int) (st : List MV) (μ : MM) (G : MG) : ev 100 70 [a0, a1] (vR x :: st) μ G = if gk G x = 10 then ev 100 73 [a0, a1] (vR (μ x 3) :: st) μ G else none := ev_if pg_100_70 rfl
theorem pg_100_73 : mm_prog 100 73 = some (0, .aload_n 0, 74, []) := by decide +kernel
theorem xe_100_73 (a1 : Option MV) (x : Int) (st : List MV) (μ : MM) (G : MG) : ev 100 73 [some (vR x), a1] st μ G = ev 100 74 [some (vR x), a1] (vR x :: st) μ G := ev_stp pg_100_73 rfl
theorem pg_100_74 : mm_prog 100 74 = some (0, .getfield 16, 77, [10, 1, 2]) := by decide +kernel
theorem xe_100_74 (a0 a1 : Option MV) (x : Int) (st : List MV) (μ : MM) (G : MG) : ev 100 74 [a0, a1] (vR x :: st) μ G = if gk G x = 10 then ev 100 77 [a0, a1] (vR (μ x 1) :: st) μ G else none := ev_if pg_100_74 rfl
theorem pg_100_77 : mm_prog 100 77 = some (1, .invokevirtual 113, 80, [1, 42, 1, 6]) := by decide +kernel
theorem xe_100_77 (a0 a1 : Option MV) (x0 z : Int) (μ : MM) (G : MG) : ev 100 77 [a0, a1] (vR x0 :: vR z :: []) μ G = if gk G z = 6 ∧ 0 < z then (ev 42 0 [some (vR z), some (vR x0), none, none] [] μ G).bind (fun q => ev 100 80 [a0, a1] (q.1.toList ++ []) q.2.1 q.2.2) else none := ev_calV (as := [vR z, vR x0]) (r := []) mx_42 pg_100_77 rfl rfl (Nat.le_of_ble_eq_true rfl) (Nat.le_of_ble_eq_true rfl)
theorem pg_100_80 : mm_prog 100 80 = some (0, .aload_n 0, 81, []) := by decide +kernel
theorem xe_100_80 (a1 : Option MV) (x : Int) (st : List MV) (μ : MM) (G : MG) : ev 100 80 [some (vR x), a1] st μ G = ev 100 81 [some (vR x), a1] (vR x :: st) μ G := ev_stp pg_100_80 rfl
theorem pg_100_81 : mm_prog 100 81 = some (0, .getfield 36, 84, [10, 4, 2]) := by decide +kernel
theorem xe_100_81 (a0 a1 : Option MV) (x : Int) (st : List MV) (μ : MM) (G : MG) : ev 100 81 [a0, a1] (vR x :: st) μ G = if gk G x = 10 then ev 100 84 [a0, a1] (vR (μ x 4) :: st) μ G else none := ev_if pg_100_81 rfl
theorem pg_100_84 : mm_prog 100 84 = some (0, .aload_n 0, 85, []) := by decide +kernel
theorem xe_100_84 (a1 : Option MV) (x : Int) (st : List MV) (μ : MM) (G : MG) : ev 100 84 [some (vR x), a1] st μ G = ev 100 85 [some (vR x), a1] (vR x :: st) μ G := ev_stp pg_100_84 rfl
theorem pg_100_85 : mm_prog 100 85 = some (0, .getfield 29, 88, [10, 3, 2]) := by decide +kernel
theorem xe_100_85 (a0 a1 : Option MV) (x : Int) (st : List MV) (μ : MM) (G : MG) : ev 100 85 [a0, a1] (vR x :: st) μ G = if gk G x = 10 then ev 100 88 [a0, a1] (vR (μ x 3) :: st) μ G else none := ev_if pg_100_85 rfl
theorem pg_100_88 : mm_prog 100 88 = some (1, .invokevirtual 116, 91, [1, 34, 1, 5]) := by decide +kernel
theorem xe_100_88 (a0 a1 : Option MV) (x0 z : Int) (μ : MM) (G : MG) : ev 100 88 [a0, a1] (vR x0 :: vR z :: []) μ G = if gk G z = 5 ∧ 0 < z then (ev 34 0 [some (vR z), some (vR x0), none, none, none] [] μ G).bind (fun q => ev 100 91 [a0, a1] (q.1.toList ++ []) q.2.1 q.2.2) else none := ev_calV (as := [vR z, vR x0]) (r := []) mx_34 pg_100_88 rfl rfl (Nat.le_of_ble_eq_true rfl) (Nat.le_of_ble_eq_true rfl)
theorem pg_100_91 : mm_prog 100 91 = some (0, .aload_n 0, 92, []) := by decide +kernel
theorem xe_100_91 (a1 : Option MV) (x : Int) (st : List MV) (μ : MM) (G : MG) : ev 100 91 [some (vR x), a1] st μ G = ev 100 92 [some (vR x), a1] (vR x :: st) μ G := ev_stp pg_100_91 rfl
theorem pg_100_92 : mm_prog 100 92 = some (0, .getfield 43, 95, [10, 5, 2]) := by decide +kernel
theorem xe_100_92 (a0 a1 : Option MV) (x : Int) (st : List MV) (μ : MM) (G : MG) : ev 100 92 [a0, a1] (vR x :: st) μ G = if gk G x = 10 then ev 100 95 [a0, a1] (vR (μ x 5) :: st) μ G else none := ev_if pg_100_92 rfl
theorem pg_100_95 : mm_prog 100 95 = some (0, .aload_n 0, 96, []) := by decide +kernel
theorem xe_100_95 (a1 : Option MV) (x : Int) (st : List MV) (μ : MM) (G : MG) : ev 100 95 [some (vR x), a1] st μ G = ev 100 96 [some (vR x), a1] (vR x :: st) μ G := ev_stp pg_100_95 rfl
theorem pg_100_96 : mm_prog 100 96 = some (0, .getfield 29, 99, [10, 3, 2]) := by decide +kernel
theorem xe_100_96 (a0 a1 : Option MV) (x : Int) (st : List MV) (μ : MM) (G : MG) : ev 100 96 [a0, a1] (vR x :: st) μ G = if gk G x = 10 then ev 100 99 [a0, a1] (vR (μ x 3) :: st) μ G else none := ev_if pg_100_96 rfl
theorem pg_100_99 : mm_prog 100 99 = some (0, .aload_n 0, 100, []) := by decide +kernel
theorem xe_100_99 (a1 : Option MV) (x : Int) (st : List MV) (μ : MM) (G : MG) : ev 100 99 [some (vR x), a1] st μ G = ev 100 100 [some (vR x), a1] (vR x :: st) μ G := ev_stp pg_100_99 rfl
theorem pg_100_100 : mm_prog 100 100 = some (0, .getfield 36, 103, [10, 4, 2]) := by decide +kernel
theorem xe_100_100 (a0 a1 : Option MV) (x : Int) (st : List MV) (μ : MM) (G : MG) : ev 100 100 [a0, a1] (vR x :: st) μ G = if gk G x = 10 then ev 100 103 [a0, a1] (vR (μ x 4) :: st) μ G else none := ev_if pg_100_100 rfl
theorem pg_100_103 : mm_prog 100 103 = some (1, .invokevirtual 120, 106, [1, 8, 2, 1]) := by decide +kernel
theorem xe_100_103 (a0 a1 : Option MV) (x0 x1 z : Int) (μ : MM) (G : MG) : ev 100 103 [a0, a1] (vR x1 :: vR x0 :: vR z :: []) μ G = if gk G z = 1 ∧ 0 < z then (ev 8 0 [some (vR z), some (vR x0), some (vR x1), none, none] [] μ G).bind (fun q => ev 100 106 [a0, a1] (q.1.toList ++ []) q.2.1 q.2.2) else none := ev_calV (as := [vR z, vR x0, vR x1]) (r := []) mx_8 pg_100_103 rfl rfl (Nat.le_of_ble_eq_true rfl) (Nat.le_of_ble_eq_true rfl)
theorem pg_100_106 : mm_prog 100 106 = some (0, .aload_n 0, 107, []) := by decide +kernel
theorem xe_100_106 (a1 : Option MV) (x : Int) (st : List MV) (μ : MM) (G : MG) : ev 100 106 [some (vR x), a1] st μ G = ev 100 107 [some (vR x), a1] (vR x :: st) μ G := ev_stp pg_100_106 rfl
theorem pg_100_107 : mm_prog 100 107 = some (0, .getfield 36, 110, [10, 4, 2]) := by decide +kernel
theorem xe_100_107 (a0 a1 : Option MV) (x : Int) (st : List MV) (μ : MM) (G : MG) : ev 100 107 [a0, a1] (vR x :: st) μ G = if gk G x = 10 then ev 100 110 [a0, a1] (vR (μ x 4) :: st) μ G else none := ev_if pg_100_107 rfl
theorem pg_100_110 : mm_prog 100 110 = some (0, .getfield 124, 113, [5, 4, 0]) := by decide +kernel
theorem xe_100_110 (a0 a1 : Option MV) (x : Int) (st : List MV) (μ : MM) (G : MG) : ev 100 110 [a0, a1] (vR x :: st) μ G = if gk G x = 5 then ev 100 113 [a0, a1] (vI (μ x 4) :: st) μ G else none := ev_if pg_100_110 rfl
theorem pg_100_113 : mm_prog 100 113 = some (2, .ireturn, 114, [0]) := by decide +kernel
theorem xe_100_113 (a0 a1 : Option MV) (x : Int) (μ : MM) (G : MG) : ev 100 113 [a0, a1] [vI x] μ G = some (some (vI x), μ, G) := ev_ret pg_100_113 rfl
-- X10_fault
theorem pg_101_0 : mm_prog 101 0 = some (0, .iload_n 1, 1, []) := by decide +kernel
theorem xe_101_0 (a0 : Option MV) (x : Int) (st : List MV) (μ : MM) (G : MG) : ev 101 0 [a0, some (vI x)] st μ G = ev 101 1 [a0, some (vI x)] (vI x :: st) μ G := ev_stp pg_101_0 rfl
theorem pg_101_1 : mm_prog 101 1 = some (0, .lookupswitch 43 #[(0, 27), (1, 35)], 28, [44, 0, 28, 1, 36]) := by decide +kernel
theorem xe_101_1 (a0 a1 : Option MV) (x : Int) (st : List MV) (μ : MM) (G : MG) : ev 101 1 [a0, a1] (vI x :: st) μ G = if x = 0 then ev 101 28 [a0, a1] st μ G else if x = 1 then ev 101 36 [a0, a1] st μ G else ev 101 44 [a0, a1] st μ G := ev_sw (x := x) (d := 44) (l := [0, 28, 1, 36]) (st' := st) pg_101_1 rfl
theorem pg_101_28 : mm_prog 101 28 = some (0, .aload_n 0, 29, []) := by decide +kernel
theorem xe_101_28 (a1 : Option MV) (x : Int) (st : List MV) (μ : MM) (G : MG) : ev 101 28 [some (vR x), a1] st μ G = ev 101 29 [some (vR x), a1] (vR x :: st) μ G := ev_stp pg_101_28 rfl
theorem pg_101_29 : mm_prog 101 29 = some (0, .getfield 22, 32, [10, 2, 2]) := by decide +kernel
theorem xe_101_29 (a0 a1 : Option MV) (x : Int) (st : List MV) (μ : MM) (G : MG) : ev 101 29 [a0, a1] (vR x :: st) μ G = if gk G x = 10 then ev 101 32 [a0, a1] (vR (μ x 2) :: st) μ G else none := ev_if pg_101_29 rfl
theorem pg_101_32 : mm_prog 101 32 = some (0, .getfield 110, 35, [2, 0, 0]) := by decide +kernel
theorem xe_101_32 (a0 a1 : Option MV) (x : Int) (st : List MV) (μ : MM) (G : MG) : ev 101 32 [a0, a1] (vR x :: st) μ G = if gk G x = 2 then ev 101 35 [a0, a1] (vI (μ x 0) :: st) μ G else none := ev_if pg_101_32 rfl
theorem pg_101_35 : mm_prog 101 35 = some (2, .ireturn, 36, [0]) := by decide +kernel
theorem xe_101_35 (a0 a1 : Option MV) (x : Int) (μ : MM) (G : MG) : ev 101 35 [a0, a1] [vI x] μ G = some (some (vI x), μ, G) := ev_ret pg_101_35 rfl
theorem pg_101_36 : mm_prog 101 36 = some (0, .aload_n 0, 37, []) := by decide +kernel
theorem xe_101_36 (a1 : Option MV) (x : Int) (st : List MV) (μ : MM) (G : MG) : ev 101 36 [some (vR x), a1] st μ G = ev 101 37 [some (vR x), a1] (vR x :: st) μ G := ev_stp pg_101_36 rfl
theorem pg_101_37 : mm_prog 101 37 = some (0, .getfield 22, 40, [10, 2, 2]) := by decide +kernel
theorem xe_101_37 (a0 a1 : Option MV) (x : Int) (st : List MV) (μ : MM) (G : MG) : ev 101 37 [a0, a1] (vR x :: st) μ G = if gk G x = 10 then ev 101 40 [a0, a1] (vR (μ x 2) :: st) μ G else none := ev_if pg_101_37 rfl
theorem pg_101_40 : mm_prog 101 40 = some (0, .getfield 127, 43, [2, 1, 0]) := by decide +kernel
theorem xe_101_40 (a0 a1 : Option MV) (x : Int) (st : List MV) (μ : MM) (G : MG) : ev 101 40 [a0, a1] (vR x :: st) μ G = if gk G x = 2 then ev 101 43 [a0, a1] (vI (μ x 1) :: st) μ G else none := ev_if pg_101_40 rfl
theorem pg_101_43 : mm_prog 101 43 = some (2, .ireturn, 44, [0]) := by decide +kernel
theorem xe_101_43 (a0 a1 : Option MV) (x : Int) (μ : MM) (G : MG) : ev 101 43 [a0, a1] [vI x] μ G = some (some (vI x), μ, G) := ev_ret pg_101_43 rfl
theorem pg_101_44 : mm_prog 101 44 = some (0, .iconst (-1), 45, []) := by decide +kernel
theorem xe_101_44 (a0 a1 : Option MV) (st : List MV) (μ : MM) (G : MG) : ev 101 44 [a0, a1] st μ G = ev 101 45 [a0, a1] (vI (-1) :: st) μ G := ev_stp pg_101_44 rfl
theorem pg_101_45 : mm_prog 101 45 = some (2, .ireturn, 46, [0]) := by decide +kernel
theorem xe_101_45 (a0 a1 : Option MV) (x : Int) (μ : MM) (G : MG) : ev 101 45 [a0, a1] [vI x] μ G = some (some (vI x), μ, G) := ev_ret pg_101_45 rfl
-- X10_mend
theorem pg_102_0 : mm_prog 102 0 = some (0, .iload_n 1, 1, []) := by decide +kernel
theorem xe_102_0 (a0 : Option MV) (x : Int) (st : List MV) (μ : MM) (G : MG) : ev 102 0 [a0, some (vI x)] st μ G = ev 102 1 [a0, some (vI x)] (vI x :: st) μ G := ev_stp pg_102_0 rfl
theorem pg_102_1 : mm_prog 102 1 = some (0, .ifCond .ge 6, 4, []) := by decide +kernel
theorem xe_102_1 (a0 a1 : Option MV) (x : Int) (st : List MV) (μ : MM) (G : MG) : ev 102 1 [a0, a1] (vI x :: st) μ G = if 0 ≤ x then ev 102 7 [a0, a1] st μ G else ev 102 4 [a0, a1] st μ G := ev_br (mm_cnd_ge x 0) pg_102_1 rfl
theorem pg_102_4 : mm_prog 102 4 = some (0, .bipush (-3), 6, []) := by decide +kernel
theorem xe_102_4 (a0 a1 : Option MV) (st : List MV) (μ : MM) (G : MG) : ev 102 4 [a0, a1] st μ G = ev 102 6 [a0, a1] (vI (-3) :: st) μ G := ev_stp pg_102_4 rfl
theorem pg_102_6 : mm_prog 102 6 = some (2, .ireturn, 7, [0]) := by decide +kernel
theorem xe_102_6 (a0 a1 : Option MV) (x : Int) (μ : MM) (G : MG) : ev 102 6 [a0, a1] [vI x] μ G = some (some (vI x), μ, G) := ev_ret pg_102_6 rfl
theorem pg_102_7 : mm_prog 102 7 = some (0, .iload_n 1, 8, []) := by decide +kernel
theorem xe_102_7 (a0 : Option MV) (x : Int) (st : List MV) (μ : MM) (G : MG) : ev 102 7 [a0, some (vI x)] st μ G = ev 102 8 [a0, some (vI x)] (vI x :: st) μ G := ev_stp pg_102_7 rfl
theorem pg_102_8 : mm_prog 102 8 = some (0, .aload_n 0, 9, []) := by decide +kernel
theorem xe_102_8 (a1 : Option MV) (x : Int) (st : List MV) (μ : MM) (G : MG) : ev 102 8 [some (vR x), a1] st μ G = ev 102 9 [some (vR x), a1] (vR x :: st) μ G := ev_stp pg_102_8 rfl
theorem pg_102_9 : mm_prog 102 9 = some (0, .getfield 16, 12, [10, 1, 2]) := by decide +kernel
theorem xe_102_9 (a0 a1 : Option MV) (x : Int) (st : List MV) (μ : MM) (G : MG) : ev 102 9 [a0, a1] (vR x :: st) μ G = if gk G x = 10 then ev 102 12 [a0, a1] (vR (μ x 1) :: st) μ G else none := ev_if pg_102_9 rfl
theorem pg_102_12 : mm_prog 102 12 = some (0, .getfield 92, 15, [0, 1, 0]) := by decide +kernel
theorem xe_102_12 (a0 a1 : Option MV) (x : Int) (st : List MV) (μ : MM) (G : MG) : ev 102 12 [a0, a1] (vR x :: st) μ G = if gk G x = 0 then ev 102 15 [a0, a1] (vI (μ x 1) :: st) μ G else none := ev_if pg_102_12 rfl
theorem pg_102_15 : mm_prog 102 15 = some (0, .sipush 128, 18, []) := by decide +kernel
theorem xe_102_15 (a0 a1 : Option MV) (st : List MV) (μ : MM) (G : MG) : ev 102 15 [a0, a1] st μ G = ev 102 18 [a0, a1] (vI (128) :: st) μ G := ev_stp pg_102_15 rfl
theorem pg_102_18 : mm_prog 102 18 = some (0, .idiv, 19, []) := by decide +kernel
theorem xe_102_18 (a0 a1 : Option MV) (x y : Int) (st : List MV) (μ : MM) (G : MG) : ev 102 18 [a0, a1] (vI y :: vI x :: st) μ G = if y = 0 then none else ev 102 19 [a0, a1] (vI (mm_div x y) :: st) μ G := ev_no pg_102_18 rfl
theorem pg_102_19 : mm_prog 102 19 = some (0, .sipush 128, 22, []) := by decide +kernel
theorem xe_102_19 (a0 a1 : Option MV) (st : List MV) (μ : MM) (G : MG) : ev 102 19 [a0, a1] st μ G = ev 102 22 [a0, a1] (vI (128) :: st) μ G := ev_stp pg_102_19 rfl
theorem pg_102_22 : mm_prog 102 22 = some (0, .imul, 23, []) := by decide +kernel
theorem xe_102_22 (a0 a1 : Option MV) (x y : Int) (st : List MV) (μ : MM) (G : MG) : ev 102 22 [a0, a1] (vI y :: vI x :: st) μ G = ev 102 23 [a0, a1] (vI (w32 (x * y)) :: st) μ G := ev_stp pg_102_22 rfl
theorem pg_102_23 : mm_prog 102 23 = some (0, .if_icmp .lt 5, 26, []) := by decide +kernel
theorem xe_102_23 (a0 a1 : Option MV) (x y : Int) (st : List MV) (μ : MM) (G : MG) : ev 102 23 [a0, a1] (vI y :: vI x :: st) μ G = if x < y then ev 102 28 [a0, a1] st μ G else ev 102 26 [a0, a1] st μ G := ev_br (mm_cnd_lt x y) pg_102_23 rfl
theorem pg_102_26 : mm_prog 102 26 = some (0, .iconst (-1), 27, []) := by decide +kernel
theorem xe_102_26 (a0 a1 : Option MV) (st : List MV) (μ : MM) (G : MG) : ev 102 26 [a0, a1] st μ G = ev 102 27 [a0, a1] (vI (-1) :: st) μ G := ev_stp pg_102_26 rfl
theorem pg_102_27 : mm_prog 102 27 = some (2, .ireturn, 28, [0]) := by decide +kernel
theorem xe_102_27 (a0 a1 : Option MV) (x : Int) (μ : MM) (G : MG) : ev 102 27 [a0, a1] [vI x] μ G = some (some (vI x), μ, G) := ev_ret pg_102_27 rfl
theorem pg_102_28 : mm_prog 102 28 = some (0, .aload_n 0, 29, []) := by decide +kernel
theorem xe_102_28 (a1 : Option MV) (x : Int) (st : List MV) (μ : MM) (G : MG) : ev 102 28 [some (vR x), a1] st μ G = ev 102 29 [some (vR x), a1] (vR x :: st) μ G := ev_stp pg_102_28 rfl
theorem pg_102_29 : mm_prog 102 29 = some (0, .getfield 16, 32, [10, 1, 2]) := by decide +kernel
theorem xe_102_29 (a0 a1 : Option MV) (x : Int) (st : List MV) (μ : MM) (G : MG) : ev 102 29 [a0, a1] (vR x :: st) μ G = if gk G x = 10 then ev 102 32 [a0, a1] (vR (μ x 1) :: st) μ G else none := ev_if pg_102_29 rfl
theorem pg_102_32 : mm_prog 102 32 = some (0, .iload_n 1, 33, []) := by decide +kernel
theorem xe_102_32 (a0 : Option MV) (x : Int) (st : List MV) (μ : MM) (G : MG) : ev 102 32 [a0, some (vI x)] st μ G = ev 102 33 [a0, some (vI x)] (vI x :: st) μ G := ev_stp pg_102_32 rfl
theorem pg_102_33 : mm_prog 102 33 = some (1, .invokevirtual 130, 36, [1, 3, 1, 0]) := by decide +kernel
theorem xe_102_33 (a0 a1 : Option MV) (x0 z : Int) (μ : MM) (G : MG) : ev 102 33 [a0, a1] (vI x0 :: vR z :: []) μ G = if gk G z = 0 ∧ 0 < z then (ev 3 0 [some (vR z), some (vI x0)] [] μ G).bind (fun q => ev 102 36 [a0, a1] (q.1.toList ++ []) q.2.1 q.2.2) else none := ev_calV (as := [vR z, vI x0]) (r := []) mx_3 pg_102_33 rfl rfl (Nat.le_of_ble_eq_true rfl) (Nat.le_of_ble_eq_true rfl)
theorem pg_102_36 : mm_prog 102 36 = some (0, .aload_n 0, 37, []) := by decide +kernel
theorem xe_102_36 (a1 : Option MV) (x : Int) (st : List MV) (μ : MM) (G : MG) : ev 102 36 [some (vR x), a1] st μ G = ev 102 37 [some (vR x), a1] (vR x :: st) μ G := ev_stp pg_102_36 rfl
theorem pg_102_37 : mm_prog 102 37 = some (0, .getfield 16, 40, [10, 1, 2]) := by decide +kernel
theorem xe_102_37 (a0 a1 : Option MV) (x : Int) (st : List MV) (μ : MM) (G : MG) : ev 102 37 [a0, a1] (vR x :: st) μ G = if gk G x = 10 then ev 102 40 [a0, a1] (vR (μ x 1) :: st) μ G else none := ev_if pg_102_37 rfl
theorem pg_102_40 : mm_prog 102 40 = some (0, .iload_n 1, 41, []) := by decide +kernel
theorem xe_102_40 (a0 : Option MV) (x : Int) (st : List MV) (μ : MM) (G : MG) : ev 102 40 [a0, some (vI x)] st μ G = ev 102 41 [a0, some (vI x)] (vI x :: st) μ G := ev_stp pg_102_40 rfl
theorem pg_102_41 : mm_prog 102 41 = some (0, .sipush 128, 44, []) := by decide +kernel
theorem xe_102_41 (a0 a1 : Option MV) (st : List MV) (μ : MM) (G : MG) : ev 102 41 [a0, a1] st μ G = ev 102 44 [a0, a1] (vI (128) :: st) μ G := ev_stp pg_102_41 rfl
theorem pg_102_44 : mm_prog 102 44 = some (0, .idiv, 45, []) := by decide +kernel
theorem xe_102_44 (a0 a1 : Option MV) (x y : Int) (st : List MV) (μ : MM) (G : MG) : ev 102 44 [a0, a1] (vI y :: vI x :: st) μ G = if y = 0 then none else ev 102 45 [a0, a1] (vI (mm_div x y) :: st) μ G := ev_no pg_102_44 rfl
theorem pg_102_45 : mm_prog 102 45 = some (1, .invokevirtual 134, 48, [1, 5, 1, 0]) := by decide +kernel
theorem xe_102_45 (a0 a1 : Option MV) (x0 z r0 : Int) (μ : MM) (G : MG) : ev 102 45 [a0, a1] (vI x0 :: vR z :: [vI r0]) μ G = if gk G z = 0 ∧ 0 < z then (ev 5 0 [some (vR z), some (vI x0), none, none] [] μ G).bind (fun q => ev 102 48 [a0, a1] (q.1.toList ++ [vI r0]) q.2.1 q.2.2) else none := ev_calV (as := [vR z, vI x0]) (r := [vI r0]) mx_5 pg_102_45 rfl rfl (Nat.le_of_ble_eq_true rfl) (Nat.le_of_ble_eq_true rfl)
theorem pg_102_48 : mm_prog 102 48 = some (0, .isub, 49, []) := by decide +kernel
theorem xe_102_48 (a0 a1 : Option MV) (x y : Int) (st : List MV) (μ : MM) (G : MG) : ev 102 48 [a0, a1] (vI y :: vI x :: st) μ G = ev 102 49 [a0, a1] (vI (w32 (x - y)) :: st) μ G := ev_stp pg_102_48 rfl
theorem pg_102_49 : mm_prog 102 49 = some (0, .sipush 255, 52, []) := by decide +kernel
theorem xe_102_49 (a0 a1 : Option MV) (st : List MV) (μ : MM) (G : MG) : ev 102 49 [a0, a1] st μ G = ev 102 52 [a0, a1] (vI (255) :: st) μ G := ev_stp pg_102_49 rfl
theorem pg_102_52 : mm_prog 102 52 = some (0, .iand, 53, []) := by decide +kernel
theorem xe_102_52 (a0 a1 : Option MV) (x y : Int) (st : List MV) (μ : MM) (G : MG) : ev 102 52 [a0, a1] (vI y :: vI x :: st) μ G = ev 102 53 [a0, a1] (vI (mm_and x y) :: st) μ G := ev_stp pg_102_52 rfl
theorem pg_102_53 : mm_prog 102 53 = some (2, .ireturn, 54, [0]) := by decide +kernel
theorem xe_102_53 (a0 a1 : Option MV) (x : Int) (μ : MM) (G : MG) : ev 102 53 [a0, a1] [vI x] μ G = some (some (vI x), μ, G) := ev_ret pg_102_53 rfl
-- X10_told
theorem pg_103_0 : mm_prog 103 0 = some (0, .iload_n 1, 1, []) := by decide +kernel
theorem xe_103_0 (a0 : Option MV) (x : Int) (st : List MV) (μ : MM) (G : MG) : ev 103 0 [a0, some (vI x)] st μ G = ev 103 1 [a0, some (vI x)] (vI x :: st) μ G := ev_stp pg_103_0 rfl
theorem pg_103_1 : mm_prog 103 1 = some (0, .ifCond .lt 21, 4, []) := by decide +kernel
theorem xe_103_1 (a0 a1 : Option MV) (x : Int) (st : List MV) (μ : MM) (G : MG) : ev 103 1 [a0, a1] (vI x :: st) μ G = if x < 0 then ev 103 22 [a0, a1] st μ G else ev 103 4 [a0, a1] st μ G := ev_br (mm_cnd_lt x 0) pg_103_1 rfl
theorem pg_103_4 : mm_prog 103 4 = some (0, .iload_n 1, 5, []) := by decide +kernel
theorem xe_103_4 (a0 : Option MV) (x : Int) (st : List MV) (μ : MM) (G : MG) : ev 103 4 [a0, some (vI x)] st μ G = ev 103 5 [a0, some (vI x)] (vI x :: st) μ G := ev_stp pg_103_4 rfl
theorem pg_103_5 : mm_prog 103 5 = some (0, .bipush 26, 7, []) := by decide +kernel
theorem xe_103_5 (a0 a1 : Option MV) (st : List MV) (μ : MM) (G : MG) : ev 103 5 [a0, a1] st μ G = ev 103 7 [a0, a1] (vI (26) :: st) μ G := ev_stp pg_103_5 rfl
theorem pg_103_7 : mm_prog 103 7 = some (0, .if_icmp .gt 15, 10, []) := by decide +kernel
theorem xe_103_7 (a0 a1 : Option MV) (x y : Int) (st : List MV) (μ : MM) (G : MG) : ev 103 7 [a0, a1] (vI y :: vI x :: st) μ G = if y < x then ev 103 22 [a0, a1] st μ G else ev 103 10 [a0, a1] st μ G := ev_br (mm_cnd_gt x y) pg_103_7 rfl
theorem pg_103_10 : mm_prog 103 10 = some (0, .iload_n 1, 11, []) := by decide +kernel
theorem xe_103_10 (a0 : Option MV) (x : Int) (st : List MV) (μ : MM) (G : MG) : ev 103 10 [a0, some (vI x)] st μ G = ev 103 11 [a0, some (vI x)] (vI x :: st) μ G := ev_stp pg_103_10 rfl
theorem pg_103_11 : mm_prog 103 11 = some (0, .bipush 16, 13, []) := by decide +kernel
theorem xe_103_11 (a0 a1 : Option MV) (st : List MV) (μ : MM) (G : MG) : ev 103 11 [a0, a1] st μ G = ev 103 13 [a0, a1] (vI (16) :: st) μ G := ev_stp pg_103_11 rfl
theorem pg_103_13 : mm_prog 103 13 = some (0, .if_icmp .le 12, 16, []) := by decide +kernel
theorem xe_103_13 (a0 a1 : Option MV) (x y : Int) (st : List MV) (μ : MM) (G : MG) : ev 103 13 [a0, a1] (vI y :: vI x :: st) μ G = if x ≤ y then ev 103 25 [a0, a1] st μ G else ev 103 16 [a0, a1] st μ G := ev_br (mm_cnd_le x y) pg_103_13 rfl
theorem pg_103_16 : mm_prog 103 16 = some (0, .iload_n 1, 17, []) := by decide +kernel
theorem xe_103_16 (a0 : Option MV) (x : Int) (st : List MV) (μ : MM) (G : MG) : ev 103 16 [a0, some (vI x)] st μ G = ev 103 17 [a0, some (vI x)] (vI x :: st) μ G := ev_stp pg_103_16 rfl
theorem pg_103_17 : mm_prog 103 17 = some (0, .bipush 20, 19, []) := by decide +kernel
theorem xe_103_17 (a0 a1 : Option MV) (st : List MV) (μ : MM) (G : MG) : ev 103 17 [a0, a1] st μ G = ev 103 19 [a0, a1] (vI (20) :: st) μ G := ev_stp pg_103_17 rfl
theorem pg_103_19 : mm_prog 103 19 = some (0, .if_icmp .ge 6, 22, []) := by decide +kernel
theorem xe_103_19 (a0 a1 : Option MV) (x y : Int) (st : List MV) (μ : MM) (G : MG) : ev 103 19 [a0, a1] (vI y :: vI x :: st) μ G = if y ≤ x then ev 103 25 [a0, a1] st μ G else ev 103 22 [a0, a1] st μ G := ev_br (mm_cnd_ge x y) pg_103_19 rfl
theorem pg_103_22 : mm_prog 103 22 = some (0, .bipush (-2), 24, []) := by decide +kernel
theorem xe_103_22 (a0 a1 : Option MV) (st : List MV) (μ : MM) (G : MG) : ev 103 22 [a0, a1] st μ G = ev 103 24 [a0, a1] (vI (-2) :: st) μ G := ev_stp pg_103_22 rfl
theorem pg_103_24 : mm_prog 103 24 = some (2, .ireturn, 25, [0]) := by decide +kernel
theorem xe_103_24 (a0 a1 : Option MV) (x : Int) (μ : MM) (G : MG) : ev 103 24 [a0, a1] [vI x] μ G = some (some (vI x), μ, G) := ev_ret pg_103_24 rfl
theorem pg_103_25 : mm_prog 103 25 = some (0, .aload_n 0, 26, []) := by decide +kernel
theorem xe_103_25 (a1 : Option MV) (x : Int) (st : List MV) (μ : MM) (G : MG) : ev 103 25 [some (vR x), a1] st μ G = ev 103 26 [some (vR x), a1] (vR x :: st) μ G := ev_stp pg_103_25 rfl
theorem pg_103_26 : mm_prog 103 26 = some (0, .getfield 29, 29, [10, 3, 2]) := by decide +kernel
theorem xe_103_26 (a0 a1 : Option MV) (x : Int) (st : List MV) (μ : MM) (G : MG) : ev 103 26 [a0, a1] (vR x :: st) μ G = if gk G x = 10 then ev 103 29 [a0, a1] (vR (μ x 3) :: st) μ G else none := ev_if pg_103_26 rfl
theorem pg_103_29 : mm_prog 103 29 = some (0, .getfield 137, 32, [6, 5, 0]) := by decide +kernel
theorem xe_103_29 (a0 a1 : Option MV) (x : Int) (st : List MV) (μ : MM) (G : MG) : ev 103 29 [a0, a1] (vR x :: st) μ G = if gk G x = 6 then ev 103 32 [a0, a1] (vI (μ x 5) :: st) μ G else none := ev_if pg_103_29 rfl
theorem pg_103_32 : mm_prog 103 32 = some (0, .ifCond .ne 6, 35, []) := by decide +kernel
theorem xe_103_32 (a0 a1 : Option MV) (x : Int) (st : List MV) (μ : MM) (G : MG) : ev 103 32 [a0, a1] (vI x :: st) μ G = if ¬ x = 0 then ev 103 38 [a0, a1] st μ G else ev 103 35 [a0, a1] st μ G := ev_br (mm_cnd_ne x 0) pg_103_32 rfl
theorem pg_103_35 : mm_prog 103 35 = some (0, .bipush (-5), 37, []) := by decide +kernel
theorem xe_103_35 (a0 a1 : Option MV) (st : List MV) (μ : MM) (G : MG) : ev 103 35 [a0, a1] st μ G = ev 103 37 [a0, a1] (vI (-5) :: st) μ G := ev_stp pg_103_35 rfl
theorem pg_103_37 : mm_prog 103 37 = some (2, .ireturn, 38, [0]) := by decide +kernel
theorem xe_103_37 (a0 a1 : Option MV) (x : Int) (μ : MM) (G : MG) : ev 103 37 [a0, a1] [vI x] μ G = some (some (vI x), μ, G) := ev_ret pg_103_37 rfl
theorem pg_103_38 : mm_prog 103 38 = some (0, .iload_n 1, 39, []) := by decide +kernel
theorem xe_103_38 (a0 : Option MV) (x : Int) (st : List MV) (μ : MM) (G : MG) : ev 103 38 [a0, some (vI x)] st μ G = ev 103 39 [a0, some (vI x)] (vI x :: st) μ G := ev_stp pg_103_38 rfl
theorem pg_103_39 : mm_prog 103 39 = some (0, .bipush 20, 41, []) := by decide +kernel
theorem xe_103_39 (a0 a1 : Option MV) (st : List MV) (μ : MM) (G : MG) : ev 103 39 [a0, a1] st μ G = ev 103 41 [a0, a1] (vI (20) :: st) μ G := ev_stp pg_103_39 rfl
theorem pg_103_41 : mm_prog 103 41 = some (0, .if_icmp .lt 15, 44, []) := by decide +kernel
theorem xe_103_41 (a0 a1 : Option MV) (x y : Int) (st : List MV) (μ : MM) (G : MG) : ev 103 41 [a0, a1] (vI y :: vI x :: st) μ G = if x < y then ev 103 56 [a0, a1] st μ G else ev 103 44 [a0, a1] st μ G := ev_br (mm_cnd_lt x y) pg_103_41 rfl
theorem pg_103_44 : mm_prog 103 44 = some (0, .aload_n 0, 45, []) := by decide +kernel
theorem xe_103_44 (a1 : Option MV) (x : Int) (st : List MV) (μ : MM) (G : MG) : ev 103 44 [some (vR x), a1] st μ G = ev 103 45 [some (vR x), a1] (vR x :: st) μ G := ev_stp pg_103_44 rfl
theorem pg_103_45 : mm_prog 103 45 = some (0, .getfield 36, 48, [10, 4, 2]) := by decide +kernel
theorem xe_103_45 (a0 a1 : Option MV) (x : Int) (st : List MV) (μ : MM) (G : MG) : ev 103 45 [a0, a1] (vR x :: st) μ G = if gk G x = 10 then ev 103 48 [a0, a1] (vR (μ x 4) :: st) μ G else none := ev_if pg_103_45 rfl
theorem pg_103_48 : mm_prog 103 48 = some (0, .iload_n 1, 49, []) := by decide +kernel
theorem xe_103_48 (a0 : Option MV) (x : Int) (st : List MV) (μ : MM) (G : MG) : ev 103 48 [a0, some (vI x)] st μ G = ev 103 49 [a0, some (vI x)] (vI x :: st) μ G := ev_stp pg_103_48 rfl
theorem pg_103_49 : mm_prog 103 49 = some (0, .bipush 20, 51, []) := by decide +kernel
theorem xe_103_49 (a0 a1 : Option MV) (st : List MV) (μ : MM) (G : MG) : ev 103 49 [a0, a1] st μ G = ev 103 51 [a0, a1] (vI (20) :: st) μ G := ev_stp pg_103_49 rfl
theorem pg_103_51 : mm_prog 103 51 = some (0, .isub, 52, []) := by decide +kernel
theorem xe_103_51 (a0 a1 : Option MV) (x y : Int) (st : List MV) (μ : MM) (G : MG) : ev 103 51 [a0, a1] (vI y :: vI x :: st) μ G = ev 103 52 [a0, a1] (vI (w32 (x - y)) :: st) μ G := ev_stp pg_103_51 rfl
theorem pg_103_52 : mm_prog 103 52 = some (1, .invokevirtual 140, 55, [1, 32, 1, 5]) := by decide +kernel
theorem xe_103_52 (a0 a1 : Option MV) (x0 z : Int) (μ : MM) (G : MG) : ev 103 52 [a0, a1] (vI x0 :: vR z :: []) μ G = if gk G z = 5 ∧ 0 < z then (ev 32 0 [some (vR z), some (vI x0)] [] μ G).bind (fun q => ev 103 55 [a0, a1] (q.1.toList ++ []) q.2.1 q.2.2) else none := ev_calV (as := [vR z, vI x0]) (r := []) mx_32 pg_103_52 rfl rfl (Nat.le_of_ble_eq_true rfl) (Nat.le_of_ble_eq_true rfl)
theorem pg_103_55 : mm_prog 103 55 = some (2, .ireturn, 56, [0]) := by decide +kernel
theorem xe_103_55 (a0 a1 : Option MV) (x : Int) (μ : MM) (G : MG) : ev 103 55 [a0, a1] [vI x] μ G = some (some (vI x), μ, G) := ev_ret pg_103_55 rfl
theorem pg_103_56 : mm_prog 103 56 = some (0, .iload_n 1, 57, []) := by decide +kernel
theorem xe_103_56 (a0 : Option MV) (x : Int) (st : List MV) (μ : MM) (G : MG) : ev 103 56 [a0, some (vI x)] st μ G = ev 103 57 [a0, some (vI x)] (vI x :: st) μ G := ev_stp pg_103_56 rfl
theorem pg_103_57 : mm_prog 103 57 = some (0, .bipush 9, 59, []) := by decide +kernel
theorem xe_103_57 (a0 a1 : Option MV) (st : List MV) (μ : MM) (G : MG) : ev 103 57 [a0, a1] st μ G = ev 103 59 [a0, a1] (vI (9) :: st) μ G := ev_stp pg_103_57 rfl
theorem pg_103_59 : mm_prog 103 59 = some (0, .if_icmp .lt 21, 62, []) := by decide +kernel
theorem xe_103_59 (a0 a1 : Option MV) (x y : Int) (st : List MV) (μ : MM) (G : MG) : ev 103 59 [a0, a1] (vI y :: vI x :: st) μ G = if x < y then ev 103 80 [a0, a1] st μ G else ev 103 62 [a0, a1] st μ G := ev_br (mm_cnd_lt x y) pg_103_59 rfl
theorem pg_103_62 : mm_prog 103 62 = some (0, .iload_n 1, 63, []) := by decide +kernel
theorem xe_103_62 (a0 : Option MV) (x : Int) (st : List MV) (μ : MM) (G : MG) : ev 103 62 [a0, some (vI x)] st μ G = ev 103 63 [a0, some (vI x)] (vI x :: st) μ G := ev_stp pg_103_62 rfl
theorem pg_103_63 : mm_prog 103 63 = some (0, .bipush 13, 65, []) := by decide +kernel
theorem xe_103_63 (a0 a1 : Option MV) (st : List MV) (μ : MM) (G : MG) : ev 103 63 [a0, a1] st μ G = ev 103 65 [a0, a1] (vI (13) :: st) μ G := ev_stp pg_103_63 rfl
theorem pg_103_65 : mm_prog 103 65 = some (0, .if_icmp .gt 15, 68, []) := by decide +kernel
theorem xe_103_65 (a0 a1 : Option MV) (x y : Int) (st : List MV) (μ : MM) (G : MG) : ev 103 65 [a0, a1] (vI y :: vI x :: st) μ G = if y < x then ev 103 80 [a0, a1] st μ G else ev 103 68 [a0, a1] st μ G := ev_br (mm_cnd_gt x y) pg_103_65 rfl
theorem pg_103_68 : mm_prog 103 68 = some (0, .aload_n 0, 69, []) := by decide +kernel
theorem xe_103_68 (a1 : Option MV) (x : Int) (st : List MV) (μ : MM) (G : MG) : ev 103 68 [some (vR x), a1] st μ G = ev 103 69 [some (vR x), a1] (vR x :: st) μ G := ev_stp pg_103_68 rfl
theorem pg_103_69 : mm_prog 103 69 = some (0, .getfield 29, 72, [10, 3, 2]) := by decide +kernel
theorem xe_103_69 (a0 a1 : Option MV) (x : Int) (st : List MV) (μ : MM) (G : MG) : ev 103 69 [a0, a1] (vR x :: st) μ G = if gk G x = 10 then ev 103 72 [a0, a1] (vR (μ x 3) :: st) μ G else none := ev_if pg_103_69 rfl
theorem pg_103_72 : mm_prog 103 72 = some (0, .iload_n 1, 73, []) := by decide +kernel
theorem xe_103_72 (a0 : Option MV) (x : Int) (st : List MV) (μ : MM) (G : MG) : ev 103 72 [a0, some (vI x)] st μ G = ev 103 73 [a0, some (vI x)] (vI x :: st) μ G := ev_stp pg_103_72 rfl
theorem pg_103_73 : mm_prog 103 73 = some (0, .bipush 9, 75, []) := by decide +kernel
theorem xe_103_73 (a0 a1 : Option MV) (st : List MV) (μ : MM) (G : MG) : ev 103 73 [a0, a1] st μ G = ev 103 75 [a0, a1] (vI (9) :: st) μ G := ev_stp pg_103_73 rfl
theorem pg_103_75 : mm_prog 103 75 = some (0, .isub, 76, []) := by decide +kernel
theorem xe_103_75 (a0 a1 : Option MV) (x y : Int) (st : List MV) (μ : MM) (G : MG) : ev 103 75 [a0, a1] (vI y :: vI x :: st) μ G = ev 103 76 [a0, a1] (vI (w32 (x - y)) :: st) μ G := ev_stp pg_103_75 rfl
theorem pg_103_76 : mm_prog 103 76 = some (1, .invokevirtual 143, 79, [1, 57, 1, 6]) := by decide +kernel
theorem xe_103_76 (a0 a1 : Option MV) (x0 z : Int) (μ : MM) (G : MG) : ev 103 76 [a0, a1] (vI x0 :: vR z :: []) μ G = if gk G z = 6 ∧ 0 < z then (ev 57 0 [some (vR z), some (vI x0)] [] μ G).bind (fun q => ev 103 79 [a0, a1] (q.1.toList ++ []) q.2.1 q.2.2) else none := ev_calV (as := [vR z, vI x0]) (r := []) mx_57 pg_103_76 rfl rfl (Nat.le_of_ble_eq_true rfl) (Nat.le_of_ble_eq_true rfl)
theorem pg_103_79 : mm_prog 103 79 = some (2, .ireturn, 80, [0]) := by decide +kernel
theorem xe_103_79 (a0 a1 : Option MV) (x : Int) (μ : MM) (G : MG) : ev 103 79 [a0, a1] [vI x] μ G = some (some (vI x), μ, G) := ev_ret pg_103_79 rfl
theorem pg_103_80 : mm_prog 103 80 = some (0, .aload_n 0, 81, []) := by decide +kernel
theorem xe_103_80 (a1 : Option MV) (x : Int) (st : List MV) (μ : MM) (G : MG) : ev 103 80 [some (vR x), a1] st μ G = ev 103 81 [some (vR x), a1] (vR x :: st) μ G := ev_stp pg_103_80 rfl
theorem pg_103_81 : mm_prog 103 81 = some (0, .iload_n 1, 82, []) := by decide +kernel
theorem xe_103_81 (a0 : Option MV) (x : Int) (st : List MV) (μ : MM) (G : MG) : ev 103 81 [a0, some (vI x)] st μ G = ev 103 82 [a0, some (vI x)] (vI x :: st) μ G := ev_stp pg_103_81 rfl
theorem pg_103_82 : mm_prog 103 82 = some (1, .invokevirtual 146, 85, [1, 104, 1, 10]) := by decide +kernel
theorem xe_103_82 (a0 a1 : Option MV) (x0 z : Int) (μ : MM) (G : MG) : ev 103 82 [a0, a1] (vI x0 :: vR z :: []) μ G = if gk G z = 10 ∧ 0 < z then (ev 104 0 [some (vR z), some (vI x0)] [] μ G).bind (fun q => ev 103 85 [a0, a1] (q.1.toList ++ []) q.2.1 q.2.2) else none := ev_calV (as := [vR z, vI x0]) (r := []) mx_104 pg_103_82 rfl rfl (Nat.le_of_ble_eq_true rfl) (Nat.le_of_ble_eq_true rfl)
theorem pg_103_85 : mm_prog 103 85 = some (2, .ireturn, 86, [0]) := by decide +kernel
theorem xe_103_85 (a0 a1 : Option MV) (x : Int) (μ : MM) (G : MG) : ev 103 85 [a0, a1] [vI x] μ G = some (some (vI x), μ, G) := ev_ret pg_103_85 rfl
-- X10_toldPlainly
theorem pg_104_0 : mm_prog 104 0 = some (0, .iload_n 1, 1, []) := by decide +kernel
theorem xe_104_0 (a0 : Option MV) (x : Int) (st : List MV) (μ : MM) (G : MG) : ev 104 0 [a0, some (vI x)] st μ G = ev 104 1 [a0, some (vI x)] (vI x :: st) μ G := ev_stp pg_104_0 rfl
theorem pg_104_1 : mm_prog 104 1 = some (0, .tableswitch 164 0 15 #[79, 79, 79, 88, 101, 114, 124, 132, 140, 164, 164, 164, 164, 164, 148, 156], 80, [165, 0, 80, 1, 80, 2, 80, 3, 89, 4, 102, 5, 115, 6, 125, 7, 133, 8, 141, 9, 165, 10, 165, 11, 165, 12, 165, 13, 165, 14, 149, 15, 157]) := by decide +kernel
theorem xe_104_1 (a0 a1 : Option MV) (x : Int) (st : List MV) (μ : MM) (G : MG) : ev 104 1 [a0, a1] (vI x :: st) μ G = if x = 0 then ev 104 80 [a0, a1] st μ G else if x = 1 then ev 104 80 [a0, a1] st μ G else if x = 2 then ev 104 80 [a0, a1] st μ G else if x = 3 then ev 104 89 [a0, a1] st μ G else if x = 4 then ev 104 102 [a0, a1] st μ G else if x = 5 then ev 104 115 [a0, a1] st μ G else if x = 6 then ev 104 125 [a0, a1] st μ G else if x = 7 then ev 104 133 [a0, a1] st μ G else if x = 8 then ev 104 141 [a0, a1] st μ G else if x = 9 then ev 104 165 [a0, a1] st μ G else if x = 10 then ev 104 165 [a0, a1] st μ G else if x = 11 then ev 104 165 [a0, a1] st μ G else if x = 12 then ev 104 165 [a0, a1] st μ G else if x = 13 then ev 104 165 [a0, a1] st μ G else if x = 14 then ev 104 149 [a0, a1] st μ G else if x = 15 then ev 104 157 [a0, a1] st μ G else ev 104 165 [a0, a1] st μ G := ev_sw (x := x) (d := 165) (l := [0, 80, 1, 80, 2, 80, 3, 89, 4, 102, 5, 115, 6, 125, 7, 133, 8, 141, 9, 165, 10, 165, 11, 165, 12, 165, 13, 165, 14, 149, 15, 157]) (st' := st) pg_104_1 rfl
theorem pg_104_80 : mm_prog 104 80 = some (0, .aload_n 0, 81, []) := by decide +kernel
theorem xe_104_80 (a1 : Option MV) (x : Int) (st : List MV) (μ : MM) (G : MG) : ev 104 80 [some (vR x), a1] st μ G = ev 104 81 [some (vR x), a1] (vR x :: st) μ G := ev_stp pg_104_80 rfl
theorem pg_104_81 : mm_prog 104 81 = some (0, .getfield 29, 84, [10, 3, 2]) := by decide +kernel
theorem xe_104_81 (a0 a1 : Option MV) (x : Int) (st : List MV) (μ : MM) (G : MG) : ev 104 81 [a0, a1] (vR x :: st) μ G = if gk G x = 10 then ev 104 84 [a0, a1] (vR (μ x 3) :: st) μ G else none := ev_if pg_104_81 rfl
theorem pg_104_84 : mm_prog 104 84 = some (0, .iload_n 1, 85, []) := by decide +kernel
theorem xe_104_84 (a0 : Option MV) (x : Int) (st : List MV) (μ : MM) (G : MG) : ev 104 84 [a0, some (vI x)] st μ G = ev 104 85 [a0, some (vI x)] (vI x :: st) μ G := ev_stp pg_104_84 rfl
theorem pg_104_85 : mm_prog 104 85 = some (1, .invokevirtual 149, 88, [1, 55, 1, 6]) := by decide +kernel
theorem xe_104_85 (a0 a1 : Option MV) (x0 z : Int) (μ : MM) (G : MG) : ev 104 85 [a0, a1] (vI x0 :: vR z :: []) μ G = if gk G z = 6 ∧ 0 < z then (ev 55 0 [some (vR z), some (vI x0), none] [] μ G).bind (fun q => ev 104 88 [a0, a1] (q.1.toList ++ []) q.2.1 q.2.2) else none := ev_calV (as := [vR z, vI x0]) (r := []) mx_55 pg_104_85 rfl rfl (Nat.le_of_ble_eq_true rfl) (Nat.le_of_ble_eq_true rfl)
theorem pg_104_88 : mm_prog 104 88 = some (2, .ireturn, 89, [0]) := by decide +kernel
theorem xe_104_88 (a0 a1 : Option MV) (x : Int) (μ : MM) (G : MG) : ev 104 88 [a0, a1] [vI x] μ G = some (some (vI x), μ, G) := ev_ret pg_104_88 rfl
theorem pg_104_89 : mm_prog 104 89 = some (0, .aload_n 0, 90, []) := by decide +kernel
theorem xe_104_89 (a1 : Option MV) (x : Int) (st : List MV) (μ : MM) (G : MG) : ev 104 89 [some (vR x), a1] st μ G = ev 104 90 [some (vR x), a1] (vR x :: st) μ G := ev_stp pg_104_89 rfl
theorem pg_104_90 : mm_prog 104 90 = some (0, .getfield 29, 93, [10, 3, 2]) := by decide +kernel
theorem xe_104_90 (a0 a1 : Option MV) (x : Int) (st : List MV) (μ : MM) (G : MG) : ev 104 90 [a0, a1] (vR x :: st) μ G = if gk G x = 10 then ev 104 93 [a0, a1] (vR (μ x 3) :: st) μ G else none := ev_if pg_104_90 rfl
theorem pg_104_93 : mm_prog 104 93 = some (0, .getfield 152, 96, [6, 0, 2]) := by decide +kernel
theorem xe_104_93 (a0 a1 : Option MV) (x : Int) (st : List MV) (μ : MM) (G : MG) : ev 104 93 [a0, a1] (vR x :: st) μ G = if gk G x = 6 then ev 104 96 [a0, a1] (vR (μ x 0) :: st) μ G else none := ev_if pg_104_93 rfl
theorem pg_104_96 : mm_prog 104 96 = some (0, .bipush 21, 98, []) := by decide +kernel
theorem xe_104_96 (a0 a1 : Option MV) (st : List MV) (μ : MM) (G : MG) : ev 104 96 [a0, a1] st μ G = ev 104 98 [a0, a1] (vI (21) :: st) μ G := ev_stp pg_104_96 rfl
theorem pg_104_98 : mm_prog 104 98 = some (1, .invokevirtual 130, 101, [1, 3, 1, 0]) := by decide +kernel
theorem xe_104_98 (a0 a1 : Option MV) (x0 z : Int) (μ : MM) (G : MG) : ev 104 98 [a0, a1] (vI x0 :: vR z :: []) μ G = if gk G z = 0 ∧ 0 < z then (ev 3 0 [some (vR z), some (vI x0)] [] μ G).bind (fun q => ev 104 101 [a0, a1] (q.1.toList ++ []) q.2.1 q.2.2) else none := ev_calV (as := [vR z, vI x0]) (r := []) mx_3 pg_104_98 rfl rfl (Nat.le_of_ble_eq_true rfl) (Nat.le_of_ble_eq_true rfl)
theorem pg_104_101 : mm_prog 104 101 = some (2, .ireturn, 102, [0]) := by decide +kernel
theorem xe_104_101 (a0 a1 : Option MV) (x : Int) (μ : MM) (G : MG) : ev 104 101 [a0, a1] [vI x] μ G = some (some (vI x), μ, G) := ev_ret pg_104_101 rfl
theorem pg_104_102 : mm_prog 104 102 = some (0, .aload_n 0, 103, []) := by decide +kernel
theorem xe_104_102 (a1 : Option MV) (x : Int) (st : List MV) (μ : MM) (G : MG) : ev 104 102 [some (vR x), a1] st μ G = ev 104 103 [some (vR x), a1] (vR x :: st) μ G := ev_stp pg_104_102 rfl
theorem pg_104_103 : mm_prog 104 103 = some (0, .getfield 29, 106, [10, 3, 2]) := by decide +kernel
theorem xe_104_103 (a0 a1 : Option MV) (x : Int) (st : List MV) (μ : MM) (G : MG) : ev 104 103 [a0, a1] (vR x :: st) μ G = if gk G x = 10 then ev 104 106 [a0, a1] (vR (μ x 3) :: st) μ G else none := ev_if pg_104_103 rfl
theorem pg_104_106 : mm_prog 104 106 = some (0, .getfield 152, 109, [6, 0, 2]) := by decide +kernel
theorem xe_104_106 (a0 a1 : Option MV) (x : Int) (st : List MV) (μ : MM) (G : MG) : ev 104 106 [a0, a1] (vR x :: st) μ G = if gk G x = 6 then ev 104 109 [a0, a1] (vR (μ x 0) :: st) μ G else none := ev_if pg_104_106 rfl
theorem pg_104_109 : mm_prog 104 109 = some (0, .bipush 22, 111, []) := by decide +kernel
theorem xe_104_109 (a0 a1 : Option MV) (st : List MV) (μ : MM) (G : MG) : ev 104 109 [a0, a1] st μ G = ev 104 111 [a0, a1] (vI (22) :: st) μ G := ev_stp pg_104_109 rfl
theorem pg_104_111 : mm_prog 104 111 = some (1, .invokevirtual 130, 114, [1, 3, 1, 0]) := by decide +kernel
theorem xe_104_111 (a0 a1 : Option MV) (x0 z : Int) (μ : MM) (G : MG) : ev 104 111 [a0, a1] (vI x0 :: vR z :: []) μ G = if gk G z = 0 ∧ 0 < z then (ev 3 0 [some (vR z), some (vI x0)] [] μ G).bind (fun q => ev 104 114 [a0, a1] (q.1.toList ++ []) q.2.1 q.2.2) else none := ev_calV (as := [vR z, vI x0]) (r := []) mx_3 pg_104_111 rfl rfl (Nat.le_of_ble_eq_true rfl) (Nat.le_of_ble_eq_true rfl)
theorem pg_104_114 : mm_prog 104 114 = some (2, .ireturn, 115, [0]) := by decide +kernel
theorem xe_104_114 (a0 a1 : Option MV) (x : Int) (μ : MM) (G : MG) : ev 104 114 [a0, a1] [vI x] μ G = some (some (vI x), μ, G) := ev_ret pg_104_114 rfl
theorem pg_104_115 : mm_prog 104 115 = some (0, .aload_n 0, 116, []) := by decide +kernel
theorem xe_104_115 (a1 : Option MV) (x : Int) (st : List MV) (μ : MM) (G : MG) : ev 104 115 [some (vR x), a1] st μ G = ev 104 116 [some (vR x), a1] (vR x :: st) μ G := ev_stp pg_104_115 rfl
theorem pg_104_116 : mm_prog 104 116 = some (0, .getfield 29, 119, [10, 3, 2]) := by decide +kernel
theorem xe_104_116 (a0 a1 : Option MV) (x : Int) (st : List MV) (μ : MM) (G : MG) : ev 104 116 [a0, a1] (vR x :: st) μ G = if gk G x = 10 then ev 104 119 [a0, a1] (vR (μ x 3) :: st) μ G else none := ev_if pg_104_116 rfl
theorem pg_104_119 : mm_prog 104 119 = some (0, .getfield 137, 122, [6, 5, 0]) := by decide +kernel
theorem xe_104_119 (a0 a1 : Option MV) (x : Int) (st : List MV) (μ : MM) (G : MG) : ev 104 119 [a0, a1] (vR x :: st) μ G = if gk G x = 6 then ev 104 122 [a0, a1] (vI (μ x 5) :: st) μ G else none := ev_if pg_104_119 rfl
theorem pg_104_122 : mm_prog 104 122 = some (0, .iconst 1, 123, []) := by decide +kernel
theorem xe_104_122 (a0 a1 : Option MV) (st : List MV) (μ : MM) (G : MG) : ev 104 122 [a0, a1] st μ G = ev 104 123 [a0, a1] (vI (1) :: st) μ G := ev_stp pg_104_122 rfl
theorem pg_104_123 : mm_prog 104 123 = some (0, .isub, 124, []) := by decide +kernel
theorem xe_104_123 (a0 a1 : Option MV) (x y : Int) (st : List MV) (μ : MM) (G : MG) : ev 104 123 [a0, a1] (vI y :: vI x :: st) μ G = ev 104 124 [a0, a1] (vI (w32 (x - y)) :: st) μ G := ev_stp pg_104_123 rfl
theorem pg_104_124 : mm_prog 104 124 = some (2, .ireturn, 125, [0]) := by decide +kernel
theorem xe_104_124 (a0 a1 : Option MV) (x : Int) (μ : MM) (G : MG) : ev 104 124 [a0, a1] [vI x] μ G = some (some (vI x), μ, G) := ev_ret pg_104_124 rfl
theorem pg_104_125 : mm_prog 104 125 = some (0, .aload_n 0, 126, []) := by decide +kernel
theorem xe_104_125 (a1 : Option MV) (x : Int) (st : List MV) (μ : MM) (G : MG) : ev 104 125 [some (vR x), a1] st μ G = ev 104 126 [some (vR x), a1] (vR x :: st) μ G := ev_stp pg_104_125 rfl
theorem pg_104_126 : mm_prog 104 126 = some (0, .getfield 29, 129, [10, 3, 2]) := by decide +kernel
theorem xe_104_126 (a0 a1 : Option MV) (x : Int) (st : List MV) (μ : MM) (G : MG) : ev 104 126 [a0, a1] (vR x :: st) μ G = if gk G x = 10 then ev 104 129 [a0, a1] (vR (μ x 3) :: st) μ G else none := ev_if pg_104_126 rfl
theorem pg_104_129 : mm_prog 104 129 = some (0, .getfield 155, 132, [6, 6, 0]) := by decide +kernel
theorem xe_104_129 (a0 a1 : Option MV) (x : Int) (st : List MV) (μ : MM) (G : MG) : ev 104 129 [a0, a1] (vR x :: st) μ G = if gk G x = 6 then ev 104 132 [a0, a1] (vI (μ x 6) :: st) μ G else none := ev_if pg_104_129 rfl
theorem pg_104_132 : mm_prog 104 132 = some (2, .ireturn, 133, [0]) := by decide +kernel
theorem xe_104_132 (a0 a1 : Option MV) (x : Int) (μ : MM) (G : MG) : ev 104 132 [a0, a1] [vI x] μ G = some (some (vI x), μ, G) := ev_ret pg_104_132 rfl
theorem pg_104_133 : mm_prog 104 133 = some (0, .aload_n 0, 134, []) := by decide +kernel
theorem xe_104_133 (a1 : Option MV) (x : Int) (st : List MV) (μ : MM) (G : MG) : ev 104 133 [some (vR x), a1] st μ G = ev 104 134 [some (vR x), a1] (vR x :: st) μ G := ev_stp pg_104_133 rfl
theorem pg_104_134 : mm_prog 104 134 = some (0, .getfield 29, 137, [10, 3, 2]) := by decide +kernel
theorem xe_104_134 (a0 a1 : Option MV) (x : Int) (st : List MV) (μ : MM) (G : MG) : ev 104 134 [a0, a1] (vR x :: st) μ G = if gk G x = 10 then ev 104 137 [a0, a1] (vR (μ x 3) :: st) μ G else none := ev_if pg_104_134 rfl
theorem pg_104_137 : mm_prog 104 137 = some (0, .getfield 158, 140, [6, 10, 0]) := by decide +kernel
theorem xe_104_137 (a0 a1 : Option MV) (x : Int) (st : List MV) (μ : MM) (G : MG) : ev 104 137 [a0, a1] (vR x :: st) μ G = if gk G x = 6 then ev 104 140 [a0, a1] (vI (μ x 10) :: st) μ G else none := ev_if pg_104_137 rfl
theorem pg_104_140 : mm_prog 104 140 = some (2, .ireturn, 141, [0]) := by decide +kernel
theorem xe_104_140 (a0 a1 : Option MV) (x : Int) (μ : MM) (G : MG) : ev 104 140 [a0, a1] [vI x] μ G = some (some (vI x), μ, G) := ev_ret pg_104_140 rfl
theorem pg_104_141 : mm_prog 104 141 = some (0, .aload_n 0, 142, []) := by decide +kernel
theorem xe_104_141 (a1 : Option MV) (x : Int) (st : List MV) (μ : MM) (G : MG) : ev 104 141 [some (vR x), a1] st μ G = ev 104 142 [some (vR x), a1] (vR x :: st) μ G := ev_stp pg_104_141 rfl
theorem pg_104_142 : mm_prog 104 142 = some (0, .getfield 29, 145, [10, 3, 2]) := by decide +kernel
theorem xe_104_142 (a0 a1 : Option MV) (x : Int) (st : List MV) (μ : MM) (G : MG) : ev 104 142 [a0, a1] (vR x :: st) μ G = if gk G x = 10 then ev 104 145 [a0, a1] (vR (μ x 3) :: st) μ G else none := ev_if pg_104_142 rfl
theorem pg_104_145 : mm_prog 104 145 = some (0, .getfield 161, 148, [6, 8, 0]) := by decide +kernel
theorem xe_104_145 (a0 a1 : Option MV) (x : Int) (st : List MV) (μ : MM) (G : MG) : ev 104 145 [a0, a1] (vR x :: st) μ G = if gk G x = 6 then ev 104 148 [a0, a1] (vI (μ x 8) :: st) μ G else none := ev_if pg_104_145 rfl
theorem pg_104_148 : mm_prog 104 148 = some (2, .ireturn, 149, [0]) := by decide +kernel
theorem xe_104_148 (a0 a1 : Option MV) (x : Int) (μ : MM) (G : MG) : ev 104 148 [a0, a1] [vI x] μ G = some (some (vI x), μ, G) := ev_ret pg_104_148 rfl
theorem pg_104_149 : mm_prog 104 149 = some (0, .aload_n 0, 150, []) := by decide +kernel
theorem xe_104_149 (a1 : Option MV) (x : Int) (st : List MV) (μ : MM) (G : MG) : ev 104 149 [some (vR x), a1] st μ G = ev 104 150 [some (vR x), a1] (vR x :: st) μ G := ev_stp pg_104_149 rfl
theorem pg_104_150 : mm_prog 104 150 = some (0, .getfield 29, 153, [10, 3, 2]) := by decide +kernel
theorem xe_104_150 (a0 a1 : Option MV) (x : Int) (st : List MV) (μ : MM) (G : MG) : ev 104 150 [a0, a1] (vR x :: st) μ G = if gk G x = 10 then ev 104 153 [a0, a1] (vR (μ x 3) :: st) μ G else none := ev_if pg_104_150 rfl
theorem pg_104_153 : mm_prog 104 153 = some (0, .getfield 164, 156, [6, 11, 0]) := by decide +kernel
theorem xe_104_153 (a0 a1 : Option MV) (x : Int) (st : List MV) (μ : MM) (G : MG) : ev 104 153 [a0, a1] (vR x :: st) μ G = if gk G x = 6 then ev 104 156 [a0, a1] (vI (μ x 11) :: st) μ G else none := ev_if pg_104_153 rfl
theorem pg_104_156 : mm_prog 104 156 = some (2, .ireturn, 157, [0]) := by decide +kernel
theorem xe_104_156 (a0 a1 : Option MV) (x : Int) (μ : MM) (G : MG) : ev 104 156 [a0, a1] [vI x] μ G = some (some (vI x), μ, G) := ev_ret pg_104_156 rfl
theorem pg_104_157 : mm_prog 104 157 = some (0, .aload_n 0, 158, []) := by decide +kernel
theorem xe_104_157 (a1 : Option MV) (x : Int) (st : List MV) (μ : MM) (G : MG) : ev 104 157 [some (vR x), a1] st μ G = ev 104 158 [some (vR x), a1] (vR x :: st) μ G := ev_stp pg_104_157 rfl
theorem pg_104_158 : mm_prog 104 158 = some (0, .getfield 29, 161, [10, 3, 2]) := by decide +kernel
theorem xe_104_158 (a0 a1 : Option MV) (x : Int) (st : List MV) (μ : MM) (G : MG) : ev 104 158 [a0, a1] (vR x :: st) μ G = if gk G x = 10 then ev 104 161 [a0, a1] (vR (μ x 3) :: st) μ G else none := ev_if pg_104_158 rfl
theorem pg_104_161 : mm_prog 104 161 = some (0, .getfield 167, 164, [6, 9, 0]) := by decide +kernel
theorem xe_104_161 (a0 a1 : Option MV) (x : Int) (st : List MV) (μ : MM) (G : MG) : ev 104 161 [a0, a1] (vR x :: st) μ G = if gk G x = 6 then ev 104 164 [a0, a1] (vI (μ x 9) :: st) μ G else none := ev_if pg_104_161 rfl
theorem pg_104_164 : mm_prog 104 164 = some (2, .ireturn, 165, [0]) := by decide +kernel
theorem xe_104_164 (a0 a1 : Option MV) (x : Int) (μ : MM) (G : MG) : ev 104 164 [a0, a1] [vI x] μ G = some (some (vI x), μ, G) := ev_ret pg_104_164 rfl
theorem pg_104_165 : mm_prog 104 165 = some (0, .aload_n 0, 166, []) := by decide +kernel
theorem xe_104_165 (a1 : Option MV) (x : Int) (st : List MV) (μ : MM) (G : MG) : ev 104 165 [some (vR x), a1] st μ G = ev 104 166 [some (vR x), a1] (vR x :: st) μ G := ev_stp pg_104_165 rfl
theorem pg_104_166 : mm_prog 104 166 = some (0, .getfield 36, 169, [10, 4, 2]) := by decide +kernel
theorem xe_104_166 (a0 a1 : Option MV) (x : Int) (st : List MV) (μ : MM) (G : MG) : ev 104 166 [a0, a1] (vR x :: st) μ G = if gk G x = 10 then ev 104 169 [a0, a1] (vR (μ x 4) :: st) μ G else none := ev_if pg_104_166 rfl
theorem pg_104_169 : mm_prog 104 169 = some (0, .getfield 124, 172, [5, 4, 0]) := by decide +kernel
theorem xe_104_169 (a0 a1 : Option MV) (x : Int) (st : List MV) (μ : MM) (G : MG) : ev 104 169 [a0, a1] (vR x :: st) μ G = if gk G x = 5 then ev 104 172 [a0, a1] (vI (μ x 4) :: st) μ G else none := ev_if pg_104_169 rfl
theorem pg_104_172 : mm_prog 104 172 = some (2, .ireturn, 173, [0]) := by decide +kernel
theorem xe_104_172 (a0 a1 : Option MV) (x : Int) (μ : MM) (G : MG) : ev 104 172 [a0, a1] [vI x] μ G = some (some (vI x), μ, G) := ev_ret pg_104_172 rfl
-- X10_name
theorem pg_105_0 : mm_prog 105 0 = some (0, .iload_n 1, 1, []) := by decide +kernel
theorem xe_105_0 (a0 : Option MV) (x : Int) (st : List MV) (μ : MM) (G : MG) : ev 105 0 [a0, some (vI x)] st μ G = ev 105 1 [a0, some (vI x)] (vI x :: st) μ G := ev_stp pg_105_0 rfl
theorem pg_105_1 : mm_prog 105 1 = some (0, .ifCond .ge 6, 4, []) := by decide +kernel
theorem xe_105_1 (a0 a1 : Option MV) (x : Int) (st : List MV) (μ : MM) (G : MG) : ev 105 1 [a0, a1] (vI x :: st) μ G = if 0 ≤ x then ev 105 7 [a0, a1] st μ G else ev 105 4 [a0, a1] st μ G := ev_br (mm_cnd_ge x 0) pg_105_1 rfl
theorem pg_105_4 : mm_prog 105 4 = some (0, .bipush (-3), 6, []) := by decide +kernel
theorem xe_105_4 (a0 a1 : Option MV) (st : List MV) (μ : MM) (G : MG) : ev 105 4 [a0, a1] st μ G = ev 105 6 [a0, a1] (vI (-3) :: st) μ G := ev_stp pg_105_4 rfl
theorem pg_105_6 : mm_prog 105 6 = some (2, .ireturn, 7, [0]) := by decide +kernel
theorem xe_105_6 (a0 a1 : Option MV) (x : Int) (μ : MM) (G : MG) : ev 105 6 [a0, a1] [vI x] μ G = some (some (vI x), μ, G) := ev_ret pg_105_6 rfl
theorem pg_105_7 : mm_prog 105 7 = some (0, .iload_n 1, 8, []) := by decide +kernel
theorem xe_105_7 (a0 : Option MV) (x : Int) (st : List MV) (μ : MM) (G : MG) : ev 105 7 [a0, some (vI x)] st μ G = ev 105 8 [a0, some (vI x)] (vI x :: st) μ G := ev_stp pg_105_7 rfl
theorem pg_105_8 : mm_prog 105 8 = some (0, .aload_n 0, 9, []) := by decide +kernel
theorem xe_105_8 (a1 : Option MV) (x : Int) (st : List MV) (μ : MM) (G : MG) : ev 105 8 [some (vR x), a1] st μ G = ev 105 9 [some (vR x), a1] (vR x :: st) μ G := ev_stp pg_105_8 rfl
theorem pg_105_9 : mm_prog 105 9 = some (0, .getfield 29, 12, [10, 3, 2]) := by decide +kernel
theorem xe_105_9 (a0 a1 : Option MV) (x : Int) (st : List MV) (μ : MM) (G : MG) : ev 105 9 [a0, a1] (vR x :: st) μ G = if gk G x = 10 then ev 105 12 [a0, a1] (vR (μ x 3) :: st) μ G else none := ev_if pg_105_9 rfl
theorem pg_105_12 : mm_prog 105 12 = some (0, .getfield 167, 15, [6, 9, 0]) := by decide +kernel
theorem xe_105_12 (a0 a1 : Option MV) (x : Int) (st : List MV) (μ : MM) (G : MG) : ev 105 12 [a0, a1] (vR x :: st) μ G = if gk G x = 6 then ev 105 15 [a0, a1] (vI (μ x 9) :: st) μ G else none := ev_if pg_105_12 rfl
theorem pg_105_15 : mm_prog 105 15 = some (0, .if_icmp .ge 14, 18, []) := by decide +kernel
theorem xe_105_15 (a0 a1 : Option MV) (x y : Int) (st : List MV) (μ : MM) (G : MG) : ev 105 15 [a0, a1] (vI y :: vI x :: st) μ G = if y ≤ x then ev 105 29 [a0, a1] st μ G else ev 105 18 [a0, a1] st μ G := ev_br (mm_cnd_ge x y) pg_105_15 rfl
theorem pg_105_18 : mm_prog 105 18 = some (0, .aload_n 0, 19, []) := by decide +kernel
theorem xe_105_18 (a1 : Option MV) (x : Int) (st : List MV) (μ : MM) (G : MG) : ev 105 18 [some (vR x), a1] st μ G = ev 105 19 [some (vR x), a1] (vR x :: st) μ G := ev_stp pg_105_18 rfl
theorem pg_105_19 : mm_prog 105 19 = some (0, .getfield 29, 22, [10, 3, 2]) := by decide +kernel
theorem xe_105_19 (a0 a1 : Option MV) (x : Int) (st : List MV) (μ : MM) (G : MG) : ev 105 19 [a0, a1] (vR x :: st) μ G = if gk G x = 10 then ev 105 22 [a0, a1] (vR (μ x 3) :: st) μ G else none := ev_if pg_105_19 rfl
theorem pg_105_22 : mm_prog 105 22 = some (0, .iload_n 1, 23, []) := by decide +kernel
theorem xe_105_22 (a0 : Option MV) (x : Int) (st : List MV) (μ : MM) (G : MG) : ev 105 22 [a0, some (vI x)] st μ G = ev 105 23 [a0, some (vI x)] (vI x :: st) μ G := ev_stp pg_105_22 rfl
theorem pg_105_23 : mm_prog 105 23 = some (1, .invokevirtual 170, 26, [1, 54, 1, 6]) := by decide +kernel
theorem xe_105_23 (a0 a1 : Option MV) (x0 z : Int) (μ : MM) (G : MG) : ev 105 23 [a0, a1] (vI x0 :: vR z :: []) μ G = if gk G z = 6 ∧ 0 < z then (ev 54 0 [some (vR z), some (vI x0)] [] μ G).bind (fun q => ev 105 26 [a0, a1] (q.1.toList ++ []) q.2.1 q.2.2) else none := ev_calV (as := [vR z, vI x0]) (r := []) mx_54 pg_105_23 rfl rfl (Nat.le_of_ble_eq_true rfl) (Nat.le_of_ble_eq_true rfl)
theorem pg_105_26 : mm_prog 105 26 = some (0, .goto 4, 29, []) := by decide +kernel
theorem xe_105_26 (a0 a1 : Option MV) (st : List MV) (μ : MM) (G : MG) : ev 105 26 [a0, a1] st μ G = ev 105 30 [a0, a1] st μ G := ev_stp pg_105_26 rfl
theorem pg_105_29 : mm_prog 105 29 = some (0, .iconst (-1), 30, []) := by decide +kernel
theorem xe_105_29 (a0 a1 : Option MV) (st : List MV) (μ : MM) (G : MG) : ev 105 29 [a0, a1] st μ G = ev 105 30 [a0, a1] (vI (-1) :: st) μ G := ev_stp pg_105_29 rfl
theorem pg_105_30 : mm_prog 105 30 = some (2, .ireturn, 31, [0]) := by decide +kernel
theorem xe_105_30 (a0 a1 : Option MV) (x : Int) (μ : MM) (G : MG) : ev 105 30 [a0, a1] [vI x] μ G = some (some (vI x), μ, G) := ev_ret pg_105_30 rfl
-- X10_detailed
theorem pg_106_0 : mm_prog 106 0 = some (0, .aload_n 0, 1, []) := by decide +kernel
theorem xe_106_0 (a1 a2 a3 : Option MV) (x : Int) (st : List MV) (μ : MM) (G : MG) : ev 106 0 [some (vR x), a1, a2, a3] st μ G = ev 106 1 [some (vR x), a1, a2, a3] (vR x :: st) μ G := ev_stp pg_106_0 rfl
theorem pg_106_1 : mm_prog 106 1 = some (0, .getfield 29, 4, [10, 3, 2]) := by decide +kernel
theorem xe_106_1 (a0 a1 a2 a3 : Option MV) (x : Int) (st : List MV) (μ : MM) (G : MG) : ev 106 1 [a0, a1, a2, a3] (vR x :: st) μ G = if gk G x = 10 then ev 106 4 [a0, a1, a2, a3] (vR (μ x 3) :: st) μ G else none := ev_if pg_106_1 rfl
theorem pg_106_4 : mm_prog 106 4 = some (0, .iload_n 1, 5, []) := by decide +kernel
theorem xe_106_4 (a0 a2 a3 : Option MV) (x : Int) (st : List MV) (μ : MM) (G : MG) : ev 106 4 [a0, some (vI x), a2, a3] st μ G = ev 106 5 [a0, some (vI x), a2, a3] (vI x :: st) μ G := ev_stp pg_106_4 rfl
theorem pg_106_5 : mm_prog 106 5 = some (1, .invokevirtual 173, 8, [1, 52, 1, 6]) := by decide +kernel
theorem xe_106_5 (a0 a1 a2 a3 : Option MV) (x0 z : Int) (μ : MM) (G : MG) : ev 106 5 [a0, a1, a2, a3] (vI x0 :: vR z :: []) μ G = if gk G z = 6 ∧ 0 < z then (ev 52 0 [some (vR z), some (vI x0)] [] μ G).bind (fun q => ev 106 8 [a0, a1, a2, a3] (q.1.toList ++ []) q.2.1 q.2.2) else none := ev_calV (as := [vR z, vI x0]) (r := []) mx_52 pg_106_5 rfl rfl (Nat.le_of_ble_eq_true rfl) (Nat.le_of_ble_eq_true rfl)
theorem pg_106_8 : mm_prog 106 8 = some (0, .astore_n 3, 9, []) := by decide +kernel
theorem xe_106_8 (a0 a1 a2 a3 : Option MV) (x : Int) (st : List MV) (μ : MM) (G : MG) (h : mm_nL a2 = true) : ev 106 8 [a0, a1, a2, a3] (vR x :: st) μ G = ev 106 9 [a0, a1, a2, some (vR x)] st μ G := ev_st pg_106_8 rfl (mm_nl_of h) (Nat.le_of_ble_eq_true rfl)
theorem pg_106_9 : mm_prog 106 9 = some (0, .aload_n 3, 10, []) := by decide +kernel
theorem xe_106_9 (a0 a1 a2 : Option MV) (x : Int) (st : List MV) (μ : MM) (G : MG) : ev 106 9 [a0, a1, a2, some (vR x)] st μ G = ev 106 10 [a0, a1, a2, some (vR x)] (vR x :: st) μ G := ev_stp pg_106_9 rfl
theorem pg_106_10 : mm_prog 106 10 = some (0, .ifnull 13, 13, []) := by decide +kernel
theorem xe_106_10 (a0 a1 a2 a3 : Option MV) (x : Int) (st : List MV) (μ : MM) (G : MG) : ev 106 10 [a0, a1, a2, a3] (vR x :: st) μ G = if x = 7 then none else if x = 0 then ev 106 23 [a0, a1, a2, a3] st μ G else ev 106 13 [a0, a1, a2, a3] st μ G := ev_nul pg_106_10 rfl
theorem pg_106_13 : mm_prog 106 13 = some (0, .iload_n 2, 14, []) := by decide +kernel
theorem xe_106_13 (a0 a1 a3 : Option MV) (x : Int) (st : List MV) (μ : MM) (G : MG) : ev 106 13 [a0, a1, some (vI x), a3] st μ G = ev 106 14 [a0, a1, some (vI x), a3] (vI x :: st) μ G := ev_stp pg_106_13 rfl
theorem pg_106_14 : mm_prog 106 14 = some (0, .ifCond .lt 9, 17, []) := by decide +kernel
theorem xe_106_14 (a0 a1 a2 a3 : Option MV) (x : Int) (st : List MV) (μ : MM) (G : MG) : ev 106 14 [a0, a1, a2, a3] (vI x :: st) μ G = if x < 0 then ev 106 23 [a0, a1, a2, a3] st μ G else ev 106 17 [a0, a1, a2, a3] st μ G := ev_br (mm_cnd_lt x 0) pg_106_14 rfl
theorem pg_106_17 : mm_prog 106 17 = some (0, .iload_n 2, 18, []) := by decide +kernel
theorem xe_106_17 (a0 a1 a3 : Option MV) (x : Int) (st : List MV) (μ : MM) (G : MG) : ev 106 17 [a0, a1, some (vI x), a3] st μ G = ev 106 18 [a0, a1, some (vI x), a3] (vI x :: st) μ G := ev_stp pg_106_17 rfl
theorem pg_106_18 : mm_prog 106 18 = some (0, .bipush 10, 20, []) := by decide +kernel
theorem xe_106_18 (a0 a1 a2 a3 : Option MV) (st : List MV) (μ : MM) (G : MG) : ev 106 18 [a0, a1, a2, a3] st μ G = ev 106 20 [a0, a1, a2, a3] (vI (10) :: st) μ G := ev_stp pg_106_18 rfl
theorem pg_106_20 : mm_prog 106 20 = some (0, .if_icmp .le 6, 23, []) := by decide +kernel
theorem xe_106_20 (a0 a1 a2 a3 : Option MV) (x y : Int) (st : List MV) (μ : MM) (G : MG) : ev 106 20 [a0, a1, a2, a3] (vI y :: vI x :: st) μ G = if x ≤ y then ev 106 26 [a0, a1, a2, a3] st μ G else ev 106 23 [a0, a1, a2, a3] st μ G := ev_br (mm_cnd_le x y) pg_106_20 rfl
theorem pg_106_23 : mm_prog 106 23 = some (0, .bipush (-2), 25, []) := by decide +kernel
theorem xe_106_23 (a0 a1 a2 a3 : Option MV) (st : List MV) (μ : MM) (G : MG) : ev 106 23 [a0, a1, a2, a3] st μ G = ev 106 25 [a0, a1, a2, a3] (vI (-2) :: st) μ G := ev_stp pg_106_23 rfl
theorem pg_106_25 : mm_prog 106 25 = some (2, .ireturn, 26, [0]) := by decide +kernel
theorem xe_106_25 (a0 a1 a2 a3 : Option MV) (x : Int) (μ : MM) (G : MG) : ev 106 25 [a0, a1, a2, a3] [vI x] μ G = some (some (vI x), μ, G) := ev_ret pg_106_25 rfl
theorem pg_106_26 : mm_prog 106 26 = some (0, .aload_n 3, 27, []) := by decide +kernel
theorem xe_106_26 (a0 a1 a2 : Option MV) (x : Int) (st : List MV) (μ : MM) (G : MG) : ev 106 26 [a0, a1, a2, some (vR x)] st μ G = ev 106 27 [a0, a1, a2, some (vR x)] (vR x :: st) μ G := ev_stp pg_106_26 rfl
theorem pg_106_27 : mm_prog 106 27 = some (0, .iload_n 2, 28, []) := by decide +kernel
theorem xe_106_27 (a0 a1 a3 : Option MV) (x : Int) (st : List MV) (μ : MM) (G : MG) : ev 106 27 [a0, a1, some (vI x), a3] st μ G = ev 106 28 [a0, a1, some (vI x), a3] (vI x :: st) μ G := ev_stp pg_106_27 rfl
theorem pg_106_28 : mm_prog 106 28 = some (1, .invokevirtual 177, 31, [1, 67, 1, 7]) := by decide +kernel
theorem xe_106_28 (a0 a1 a2 a3 : Option MV) (x0 z : Int) (μ : MM) (G : MG) : ev 106 28 [a0, a1, a2, a3] (vI x0 :: vR z :: []) μ G = if gk G z = 7 ∧ 0 < z then (ev 67 0 [some (vR z), some (vI x0)] [] μ G).bind (fun q => ev 106 31 [a0, a1, a2, a3] (q.1.toList ++ []) q.2.1 q.2.2) else none := ev_calV (as := [vR z, vI x0]) (r := []) mx_67 pg_106_28 rfl rfl (Nat.le_of_ble_eq_true rfl) (Nat.le_of_ble_eq_true rfl)
theorem pg_106_31 : mm_prog 106 31 = some (2, .ireturn, 32, [0]) := by decide +kernel
theorem xe_106_31 (a0 a1 a2 a3 : Option MV) (x : Int) (μ : MM) (G : MG) : ev 106 31 [a0, a1, a2, a3] [vI x] μ G = some (some (vI x), μ, G) := ev_ret pg_106_31 rfl
-- X10_forged
theorem pg_107_0 : mm_prog 107 0 = some (0, .iload_n 1, 1, []) := by decide +kernel
theorem xe_107_0 (a0 : Option MV) (x : Int) (st : List MV) (μ : MM) (G : MG) : ev 107 0 [a0, some (vI x)] st μ G = ev 107 1 [a0, some (vI x)] (vI x :: st) μ G := ev_stp pg_107_0 rfl
theorem pg_107_1 : mm_prog 107 1 = some (0, .ifCond .lt 10, 4, []) := by decide +kernel
theorem xe_107_1 (a0 a1 : Option MV) (x : Int) (st : List MV) (μ : MM) (G : MG) : ev 107 1 [a0, a1] (vI x :: st) μ G = if x < 0 then ev 107 11 [a0, a1] st μ G else ev 107 4 [a0, a1] st μ G := ev_br (mm_cnd_lt x 0) pg_107_1 rfl
theorem pg_107_4 : mm_prog 107 4 = some (0, .iload_n 1, 5, []) := by decide +kernel
theorem xe_107_4 (a0 : Option MV) (x : Int) (st : List MV) (μ : MM) (G : MG) : ev 107 4 [a0, some (vI x)] st μ G = ev 107 5 [a0, some (vI x)] (vI x :: st) μ G := ev_stp pg_107_4 rfl
theorem pg_107_5 : mm_prog 107 5 = some (0, .sipush 128, 8, []) := by decide +kernel
theorem xe_107_5 (a0 a1 : Option MV) (st : List MV) (μ : MM) (G : MG) : ev 107 5 [a0, a1] st μ G = ev 107 8 [a0, a1] (vI (128) :: st) μ G := ev_stp pg_107_5 rfl
theorem pg_107_8 : mm_prog 107 8 = some (0, .if_icmp .lt 6, 11, []) := by decide +kernel
theorem xe_107_8 (a0 a1 : Option MV) (x y : Int) (st : List MV) (μ : MM) (G : MG) : ev 107 8 [a0, a1] (vI y :: vI x :: st) μ G = if x < y then ev 107 14 [a0, a1] st μ G else ev 107 11 [a0, a1] st μ G := ev_br (mm_cnd_lt x y) pg_107_8 rfl
theorem pg_107_11 : mm_prog 107 11 = some (0, .bipush (-2), 13, []) := by decide +kernel
theorem xe_107_11 (a0 a1 : Option MV) (st : List MV) (μ : MM) (G : MG) : ev 107 11 [a0, a1] st μ G = ev 107 13 [a0, a1] (vI (-2) :: st) μ G := ev_stp pg_107_11 rfl
theorem pg_107_13 : mm_prog 107 13 = some (2, .ireturn, 14, [0]) := by decide +kernel
theorem xe_107_13 (a0 a1 : Option MV) (x : Int) (μ : MM) (G : MG) : ev 107 13 [a0, a1] [vI x] μ G = some (some (vI x), μ, G) := ev_ret pg_107_13 rfl
theorem pg_107_14 : mm_prog 107 14 = some (0, .aload_n 0, 15, []) := by decide +kernel
theorem xe_107_14 (a1 : Option MV) (x : Int) (st : List MV) (μ : MM) (G : MG) : ev 107 14 [some (vR x), a1] st μ G = ev 107 15 [some (vR x), a1] (vR x :: st) μ G := ev_stp pg_107_14 rfl
theorem pg_107_15 : mm_prog 107 15 = some (0, .getfield 29, 18, [10, 3, 2]) := by decide +kernel
theorem xe_107_15 (a0 a1 : Option MV) (x : Int) (st : List MV) (μ : MM) (G : MG) : ev 107 15 [a0, a1] (vR x :: st) μ G = if gk G x = 10 then ev 107 18 [a0, a1] (vR (μ x 3) :: st) μ G else none := ev_if pg_107_15 rfl
theorem pg_107_18 : mm_prog 107 18 = some (0, .getfield 137, 21, [6, 5, 0]) := by decide +kernel
theorem xe_107_18 (a0 a1 : Option MV) (x : Int) (st : List MV) (μ : MM) (G : MG) : ev 107 18 [a0, a1] (vR x :: st) μ G = if gk G x = 6 then ev 107 21 [a0, a1] (vI (μ x 5) :: st) μ G else none := ev_if pg_107_18 rfl
theorem pg_107_21 : mm_prog 107 21 = some (0, .ifCond .ne 6, 24, []) := by decide +kernel
theorem xe_107_21 (a0 a1 : Option MV) (x : Int) (st : List MV) (μ : MM) (G : MG) : ev 107 21 [a0, a1] (vI x :: st) μ G = if ¬ x = 0 then ev 107 27 [a0, a1] st μ G else ev 107 24 [a0, a1] st μ G := ev_br (mm_cnd_ne x 0) pg_107_21 rfl
theorem pg_107_24 : mm_prog 107 24 = some (0, .bipush (-5), 26, []) := by decide +kernel
theorem xe_107_24 (a0 a1 : Option MV) (st : List MV) (μ : MM) (G : MG) : ev 107 24 [a0, a1] st μ G = ev 107 26 [a0, a1] (vI (-5) :: st) μ G := ev_stp pg_107_24 rfl
theorem pg_107_26 : mm_prog 107 26 = some (2, .ireturn, 27, [0]) := by decide +kernel
theorem xe_107_26 (a0 a1 : Option MV) (x : Int) (μ : MM) (G : MG) : ev 107 26 [a0, a1] [vI x] μ G = some (some (vI x), μ, G) := ev_ret pg_107_26 rfl
theorem pg_107_27 : mm_prog 107 27 = some (0, .aload_n 0, 28, []) := by decide +kernel
theorem xe_107_27 (a1 : Option MV) (x : Int) (st : List MV) (μ : MM) (G : MG) : ev 107 27 [some (vR x), a1] st μ G = ev 107 28 [some (vR x), a1] (vR x :: st) μ G := ev_stp pg_107_27 rfl
theorem pg_107_28 : mm_prog 107 28 = some (0, .getfield 43, 31, [10, 5, 2]) := by decide +kernel
theorem xe_107_28 (a0 a1 : Option MV) (x : Int) (st : List MV) (μ : MM) (G : MG) : ev 107 28 [a0, a1] (vR x :: st) μ G = if gk G x = 10 then ev 107 31 [a0, a1] (vR (μ x 5) :: st) μ G else none := ev_if pg_107_28 rfl
theorem pg_107_31 : mm_prog 107 31 = some (0, .getfield 180, 34, [1, 1, 1]) := by decide +kernel
theorem xe_107_31 (a0 a1 : Option MV) (x : Int) (st : List MV) (μ : MM) (G : MG) : ev 107 31 [a0, a1] (vR x :: st) μ G = if gk G x = 1 then ev 107 34 [a0, a1] (vI (μ x 1) :: st) μ G else none := ev_if pg_107_31 rfl
theorem pg_107_34 : mm_prog 107 34 = some (0, .ifCond .eq 14, 37, []) := by decide +kernel
theorem xe_107_34 (a0 a1 : Option MV) (x : Int) (st : List MV) (μ : MM) (G : MG) : ev 107 34 [a0, a1] (vI x :: st) μ G = if x = 0 then ev 107 48 [a0, a1] st μ G else ev 107 37 [a0, a1] st μ G := ev_br (mm_cnd_eq x 0) pg_107_34 rfl
theorem pg_107_37 : mm_prog 107 37 = some (0, .aload_n 0, 38, []) := by decide +kernel
theorem xe_107_37 (a1 : Option MV) (x : Int) (st : List MV) (μ : MM) (G : MG) : ev 107 37 [some (vR x), a1] st μ G = ev 107 38 [some (vR x), a1] (vR x :: st) μ G := ev_stp pg_107_37 rfl
theorem pg_107_38 : mm_prog 107 38 = some (0, .getfield 43, 41, [10, 5, 2]) := by decide +kernel
theorem xe_107_38 (a0 a1 : Option MV) (x : Int) (st : List MV) (μ : MM) (G : MG) : ev 107 38 [a0, a1] (vR x :: st) μ G = if gk G x = 10 then ev 107 41 [a0, a1] (vR (μ x 5) :: st) μ G else none := ev_if pg_107_38 rfl
theorem pg_107_41 : mm_prog 107 41 = some (0, .iload_n 1, 42, []) := by decide +kernel
theorem xe_107_41 (a0 : Option MV) (x : Int) (st : List MV) (μ : MM) (G : MG) : ev 107 41 [a0, some (vI x)] st μ G = ev 107 42 [a0, some (vI x)] (vI x :: st) μ G := ev_stp pg_107_41 rfl
theorem pg_107_42 : mm_prog 107 42 = some (1, .invokevirtual 184, 45, [1, 7, 1, 1]) := by decide +kernel
theorem xe_107_42 (a0 a1 : Option MV) (x0 z : Int) (μ : MM) (G : MG) : ev 107 42 [a0, a1] (vI x0 :: vR z :: []) μ G = if gk G z = 1 ∧ 0 < z then (ev 7 0 [some (vR z), some (vI x0)] [] μ G).bind (fun q => ev 107 45 [a0, a1] (q.1.toList ++ []) q.2.1 q.2.2) else none := ev_calV (as := [vR z, vI x0]) (r := []) mx_7 pg_107_42 rfl rfl (Nat.le_of_ble_eq_true rfl) (Nat.le_of_ble_eq_true rfl)
theorem pg_107_45 : mm_prog 107 45 = some (0, .goto 4, 48, []) := by decide +kernel
theorem xe_107_45 (a0 a1 : Option MV) (st : List MV) (μ : MM) (G : MG) : ev 107 45 [a0, a1] st μ G = ev 107 49 [a0, a1] st μ G := ev_stp pg_107_45 rfl
theorem pg_107_48 : mm_prog 107 48 = some (0, .iconst (-1), 49, []) := by decide +kernel
theorem xe_107_48 (a0 a1 : Option MV) (st : List MV) (μ : MM) (G : MG) : ev 107 48 [a0, a1] st μ G = ev 107 49 [a0, a1] (vI (-1) :: st) μ G := ev_stp pg_107_48 rfl
theorem pg_107_49 : mm_prog 107 49 = some (2, .ireturn, 50, [0]) := by decide +kernel
theorem xe_107_49 (a0 a1 : Option MV) (x : Int) (μ : MM) (G : MG) : ev 107 49 [a0, a1] [vI x] μ G = some (some (vI x), μ, G) := ev_ret pg_107_49 rfl
-- X10_mode
theorem pg_108_0 : mm_prog 108 0 = some (0, .aload_n 0, 1, []) := by decide +kernel
theorem xe_108_0 (a1 a2 a3 : Option MV) (x : Int) (st : List MV) (μ : MM) (G : MG) : ev 108 0 [some (vR x), a1, a2, a3] st μ G = ev 108 1 [some (vR x), a1, a2, a3] (vR x :: st) μ G := ev_stp pg_108_0 rfl
theorem pg_108_1 : mm_prog 108 1 = some (0, .getfield 36, 4, [10, 4, 2]) := by decide +kernel
theorem xe_108_1 (a0 a1 a2 a3 : Option MV) (x : Int) (st : List MV) (μ : MM) (G : MG) : ev 108 1 [a0, a1, a2, a3] (vR x :: st) μ G = if gk G x = 10 then ev 108 4 [a0, a1, a2, a3] (vR (μ x 4) :: st) μ G else none := ev_if pg_108_1 rfl
theorem pg_108_4 : mm_prog 108 4 = some (0, .iload_n 1, 5, []) := by decide +kernel
theorem xe_108_4 (a0 a2 a3 : Option MV) (x : Int) (st : List MV) (μ : MM) (G : MG) : ev 108 4 [a0, some (vI x), a2, a3] st μ G = ev 108 5 [a0, some (vI x), a2, a3] (vI x :: st) μ G := ev_stp pg_108_4 rfl
theorem pg_108_5 : mm_prog 108 5 = some (1, .invokevirtual 185, 8, [1, 31, 1, 5]) := by decide +kernel
theorem xe_108_5 (a0 a1 a2 a3 : Option MV) (x0 z : Int) (μ : MM) (G : MG) : ev 108 5 [a0, a1, a2, a3] (vI x0 :: vR z :: []) μ G = if gk G z = 5 ∧ 0 < z then (ev 31 0 [some (vR z), some (vI x0)] [] μ G).bind (fun q => ev 108 8 [a0, a1, a2, a3] (q.1.toList ++ []) q.2.1 q.2.2) else none := ev_calV (as := [vR z, vI x0]) (r := []) mx_31 pg_108_5 rfl rfl (Nat.le_of_ble_eq_true rfl) (Nat.le_of_ble_eq_true rfl)
theorem pg_108_8 : mm_prog 108 8 = some (0, .astore_n 3, 9, []) := by decide +kernel
theorem xe_108_8 (a0 a1 a2 a3 : Option MV) (x : Int) (st : List MV) (μ : MM) (G : MG) (h : mm_nL a2 = true) : ev 108 8 [a0, a1, a2, a3] (vR x :: st) μ G = ev 108 9 [a0, a1, a2, some (vR x)] st μ G := ev_st pg_108_8 rfl (mm_nl_of h) (Nat.le_of_ble_eq_true rfl)
theorem pg_108_9 : mm_prog 108 9 = some (0, .aload_n 3, 10, []) := by decide +kernel
theorem xe_108_9 (a0 a1 a2 : Option MV) (x : Int) (st : List MV) (μ : MM) (G : MG) : ev 108 9 [a0, a1, a2, some (vR x)] st μ G = ev 108 10 [a0, a1, a2, some (vR x)] (vR x :: st) μ G := ev_stp pg_108_9 rfl
theorem pg_108_10 : mm_prog 108 10 = some (0, .ifnonnull 6, 13, []) := by decide +kernel
theorem xe_108_10 (a0 a1 a2 a3 : Option MV) (x : Int) (st : List MV) (μ : MM) (G : MG) : ev 108 10 [a0, a1, a2, a3] (vR x :: st) μ G = if x = 7 then none else if x = 0 then ev 108 13 [a0, a1, a2, a3] st μ G else ev 108 16 [a0, a1, a2, a3] st μ G := ev_nul pg_108_10 rfl
theorem pg_108_13 : mm_prog 108 13 = some (0, .bipush (-2), 15, []) := by decide +kernel
theorem xe_108_13 (a0 a1 a2 a3 : Option MV) (st : List MV) (μ : MM) (G : MG) : ev 108 13 [a0, a1, a2, a3] st μ G = ev 108 15 [a0, a1, a2, a3] (vI (-2) :: st) μ G := ev_stp pg_108_13 rfl
theorem pg_108_15 : mm_prog 108 15 = some (2, .ireturn, 16, [0]) := by decide +kernel
theorem xe_108_15 (a0 a1 a2 a3 : Option MV) (x : Int) (μ : MM) (G : MG) : ev 108 15 [a0, a1, a2, a3] [vI x] μ G = some (some (vI x), μ, G) := ev_ret pg_108_15 rfl
theorem pg_108_16 : mm_prog 108 16 = some (0, .iload_n 2, 17, []) := by decide +kernel
theorem xe_108_16 (a0 a1 a3 : Option MV) (x : Int) (st : List MV) (μ : MM) (G : MG) : ev 108 16 [a0, a1, some (vI x), a3] st μ G = ev 108 17 [a0, a1, some (vI x), a3] (vI x :: st) μ G := ev_stp pg_108_16 rfl
theorem pg_108_17 : mm_prog 108 17 = some (0, .tableswitch 122 0 8 #[51, 59, 67, 72, 80, 88, 96, 101, 114], 68, [139, 0, 68, 1, 76, 2, 84, 3, 89, 4, 97, 5, 105, 6, 113, 7, 118, 8, 131]) := by decide +kernel
theorem xe_108_17 (a0 a1 a2 a3 : Option MV) (x : Int) (st : List MV) (μ : MM) (G : MG) : ev 108 17 [a0, a1, a2, a3] (vI x :: st) μ G = if x = 0 then ev 108 68 [a0, a1, a2, a3] st μ G else if x = 1 then ev 108 76 [a0, a1, a2, a3] st μ G else if x = 2 then ev 108 84 [a0, a1, a2, a3] st μ G else if x = 3 then ev 108 89 [a0, a1, a2, a3] st μ G else if x = 4 then ev 108 97 [a0, a1, a2, a3] st μ G else if x = 5 then ev 108 105 [a0, a1, a2, a3] st μ G else if x = 6 then ev 108 113 [a0, a1, a2, a3] st μ G else if x = 7 then ev 108 118 [a0, a1, a2, a3] st μ G else if x = 8 then ev 108 131 [a0, a1, a2, a3] st μ G else ev 108 139 [a0, a1, a2, a3] st μ G := ev_sw (x := x) (d := 139) (l := [0, 68, 1, 76, 2, 84, 3, 89, 4, 97, 5, 105, 6, 113, 7, 118, 8, 131]) (st' := st) pg_108_17 rfl
theorem pg_108_68 : mm_prog 108 68 = some (0, .aload_n 3, 69, []) := by decide +kernel
theorem xe_108_68 (a0 a1 a2 : Option MV) (x : Int) (st : List MV) (μ : MM) (G : MG) : ev 108 68 [a0, a1, a2, some (vR x)] st μ G = ev 108 69 [a0, a1, a2, some (vR x)] (vR x :: st) μ G := ev_stp pg_108_68 rfl
theorem pg_108_69 : mm_prog 108 69 = some (0, .getfield 188, 72, [4, 0, 2]) := by decide +kernel
theorem xe_108_69 (a0 a1 a2 a3 : Option MV) (x : Int) (st : List MV) (μ : MM) (G : MG) : ev 108 69 [a0, a1, a2, a3] (vR x :: st) μ G = if gk G x = 4 then ev 108 72 [a0, a1, a2, a3] (vR (μ x 0) :: st) μ G else none := ev_if pg_108_69 rfl
theorem pg_108_72 : mm_prog 108 72 = some (0, .getfield 193, 75, [7, 1, 0]) := by decide +kernel
theorem xe_108_72 (a0 a1 a2 a3 : Option MV) (x : Int) (st : List MV) (μ : MM) (G : MG) : ev 108 72 [a0, a1, a2, a3] (vR x :: st) μ G = if gk G x = 7 then ev 108 75 [a0, a1, a2, a3] (vI (μ x 1) :: st) μ G else none := ev_if pg_108_72 rfl
theorem pg_108_75 : mm_prog 108 75 = some (2, .ireturn, 76, [0]) := by decide +kernel
theorem xe_108_75 (a0 a1 a2 a3 : Option MV) (x : Int) (μ : MM) (G : MG) : ev 108 75 [a0, a1, a2, a3] [vI x] μ G = some (some (vI x), μ, G) := ev_ret pg_108_75 rfl
theorem pg_108_76 : mm_prog 108 76 = some (0, .aload_n 3, 77, []) := by decide +kernel
theorem xe_108_76 (a0 a1 a2 : Option MV) (x : Int) (st : List MV) (μ : MM) (G : MG) : ev 108 76 [a0, a1, a2, some (vR x)] st μ G = ev 108 77 [a0, a1, a2, some (vR x)] (vR x :: st) μ G := ev_stp pg_108_76 rfl
theorem pg_108_77 : mm_prog 108 77 = some (0, .getfield 188, 80, [4, 0, 2]) := by decide +kernel
theorem xe_108_77 (a0 a1 a2 a3 : Option MV) (x : Int) (st : List MV) (μ : MM) (G : MG) : ev 108 77 [a0, a1, a2, a3] (vR x :: st) μ G = if gk G x = 4 then ev 108 80 [a0, a1, a2, a3] (vR (μ x 0) :: st) μ G else none := ev_if pg_108_77 rfl
theorem pg_108_80 : mm_prog 108 80 = some (0, .getfield 196, 83, [7, 5, 0]) := by decide +kernel
theorem xe_108_80 (a0 a1 a2 a3 : Option MV) (x : Int) (st : List MV) (μ : MM) (G : MG) : ev 108 80 [a0, a1, a2, a3] (vR x :: st) μ G = if gk G x = 7 then ev 108 83 [a0, a1, a2, a3] (vI (μ x 5) :: st) μ G else none := ev_if pg_108_80 rfl
theorem pg_108_83 : mm_prog 108 83 = some (2, .ireturn, 84, [0]) := by decide +kernel
theorem xe_108_83 (a0 a1 a2 a3 : Option MV) (x : Int) (μ : MM) (G : MG) : ev 108 83 [a0, a1, a2, a3] [vI x] μ G = some (some (vI x), μ, G) := ev_ret pg_108_83 rfl
theorem pg_108_84 : mm_prog 108 84 = some (0, .aload_n 3, 85, []) := by decide +kernel
theorem xe_108_84 (a0 a1 a2 : Option MV) (x : Int) (st : List MV) (μ : MM) (G : MG) : ev 108 84 [a0, a1, a2, some (vR x)] st μ G = ev 108 85 [a0, a1, a2, some (vR x)] (vR x :: st) μ G := ev_stp pg_108_84 rfl
theorem pg_108_85 : mm_prog 108 85 = some (0, .getfield 199, 88, [4, 1, 0]) := by decide +kernel
theorem xe_108_85 (a0 a1 a2 a3 : Option MV) (x : Int) (st : List MV) (μ : MM) (G : MG) : ev 108 85 [a0, a1, a2, a3] (vR x :: st) μ G = if gk G x = 4 then ev 108 88 [a0, a1, a2, a3] (vI (μ x 1) :: st) μ G else none := ev_if pg_108_85 rfl
theorem pg_108_88 : mm_prog 108 88 = some (2, .ireturn, 89, [0]) := by decide +kernel
theorem xe_108_88 (a0 a1 a2 a3 : Option MV) (x : Int) (μ : MM) (G : MG) : ev 108 88 [a0, a1, a2, a3] [vI x] μ G = some (some (vI x), μ, G) := ev_ret pg_108_88 rfl
theorem pg_108_89 : mm_prog 108 89 = some (0, .aload_n 3, 90, []) := by decide +kernel
theorem xe_108_89 (a0 a1 a2 : Option MV) (x : Int) (st : List MV) (μ : MM) (G : MG) : ev 108 89 [a0, a1, a2, some (vR x)] st μ G = ev 108 90 [a0, a1, a2, some (vR x)] (vR x :: st) μ G := ev_stp pg_108_89 rfl
theorem pg_108_90 : mm_prog 108 90 = some (0, .getfield 188, 93, [4, 0, 2]) := by decide +kernel
theorem xe_108_90 (a0 a1 a2 a3 : Option MV) (x : Int) (st : List MV) (μ : MM) (G : MG) : ev 108 90 [a0, a1, a2, a3] (vR x :: st) μ G = if gk G x = 4 then ev 108 93 [a0, a1, a2, a3] (vR (μ x 0) :: st) μ G else none := ev_if pg_108_90 rfl
theorem pg_108_93 : mm_prog 108 93 = some (0, .getfield 202, 96, [7, 0, 0]) := by decide +kernel
theorem xe_108_93 (a0 a1 a2 a3 : Option MV) (x : Int) (st : List MV) (μ : MM) (G : MG) : ev 108 93 [a0, a1, a2, a3] (vR x :: st) μ G = if gk G x = 7 then ev 108 96 [a0, a1, a2, a3] (vI (μ x 0) :: st) μ G else none := ev_if pg_108_93 rfl
theorem pg_108_96 : mm_prog 108 96 = some (2, .ireturn, 97, [0]) := by decide +kernel
theorem xe_108_96 (a0 a1 a2 a3 : Option MV) (x : Int) (μ : MM) (G : MG) : ev 108 96 [a0, a1, a2, a3] [vI x] μ G = some (some (vI x), μ, G) := ev_ret pg_108_96 rfl
theorem pg_108_97 : mm_prog 108 97 = some (0, .aload_n 3, 98, []) := by decide +kernel
theorem xe_108_97 (a0 a1 a2 : Option MV) (x : Int) (st : List MV) (μ : MM) (G : MG) : ev 108 97 [a0, a1, a2, some (vR x)] st μ G = ev 108 98 [a0, a1, a2, some (vR x)] (vR x :: st) μ G := ev_stp pg_108_97 rfl
theorem pg_108_98 : mm_prog 108 98 = some (0, .getfield 188, 101, [4, 0, 2]) := by decide +kernel
theorem xe_108_98 (a0 a1 a2 a3 : Option MV) (x : Int) (st : List MV) (μ : MM) (G : MG) : ev 108 98 [a0, a1, a2, a3] (vR x :: st) μ G = if gk G x = 4 then ev 108 101 [a0, a1, a2, a3] (vR (μ x 0) :: st) μ G else none := ev_if pg_108_98 rfl
theorem pg_108_101 : mm_prog 108 101 = some (1, .invokevirtual 205, 104, [1, 70, 0, 7]) := by decide +kernel
theorem xe_108_101 (a0 a1 a2 a3 : Option MV) (z : Int) (μ : MM) (G : MG) : ev 108 101 [a0, a1, a2, a3] (vR z :: []) μ G = if gk G z = 7 ∧ 0 < z then (ev 70 0 [some (vR z)] [] μ G).bind (fun q => ev 108 104 [a0, a1, a2, a3] (q.1.toList ++ []) q.2.1 q.2.2) else none := ev_calV (as := [vR z]) (r := []) mx_70 pg_108_101 rfl rfl (Nat.le_of_ble_eq_true rfl) (Nat.le_of_ble_eq_true rfl)
theorem pg_108_104 : mm_prog 108 104 = some (2, .ireturn, 105, [0]) := by decide +kernel
theorem xe_108_104 (a0 a1 a2 a3 : Option MV) (x : Int) (μ : MM) (G : MG) : ev 108 104 [a0, a1, a2, a3] [vI x] μ G = some (some (vI x), μ, G) := ev_ret pg_108_104 rfl
theorem pg_108_105 : mm_prog 108 105 = some (0, .aload_n 3, 106, []) := by decide +kernel
theorem xe_108_105 (a0 a1 a2 : Option MV) (x : Int) (st : List MV) (μ : MM) (G : MG) : ev 108 105 [a0, a1, a2, some (vR x)] st μ G = ev 108 106 [a0, a1, a2, some (vR x)] (vR x :: st) μ G := ev_stp pg_108_105 rfl
theorem pg_108_106 : mm_prog 108 106 = some (0, .getfield 188, 109, [4, 0, 2]) := by decide +kernel
theorem xe_108_106 (a0 a1 a2 a3 : Option MV) (x : Int) (st : List MV) (μ : MM) (G : MG) : ev 108 106 [a0, a1, a2, a3] (vR x :: st) μ G = if gk G x = 4 then ev 108 109 [a0, a1, a2, a3] (vR (μ x 0) :: st) μ G else none := ev_if pg_108_106 rfl
theorem pg_108_109 : mm_prog 108 109 = some (1, .invokevirtual 209, 112, [1, 71, 0, 7]) := by decide +kernel
theorem xe_108_109 (a0 a1 a2 a3 : Option MV) (z : Int) (μ : MM) (G : MG) : ev 108 109 [a0, a1, a2, a3] (vR z :: []) μ G = if gk G z = 7 ∧ 0 < z then (ev 71 0 [some (vR z)] [] μ G).bind (fun q => ev 108 112 [a0, a1, a2, a3] (q.1.toList ++ []) q.2.1 q.2.2) else none := ev_calV (as := [vR z]) (r := []) mx_71 pg_108_109 rfl rfl (Nat.le_of_ble_eq_true rfl) (Nat.le_of_ble_eq_true rfl)
theorem pg_108_112 : mm_prog 108 112 = some (2, .ireturn, 113, [0]) := by decide +kernel
theorem xe_108_112 (a0 a1 a2 a3 : Option MV) (x : Int) (μ : MM) (G : MG) : ev 108 112 [a0, a1, a2, a3] [vI x] μ G = some (some (vI x), μ, G) := ev_ret pg_108_112 rfl
theorem pg_108_113 : mm_prog 108 113 = some (0, .aload_n 3, 114, []) := by decide +kernel
theorem xe_108_113 (a0 a1 a2 : Option MV) (x : Int) (st : List MV) (μ : MM) (G : MG) : ev 108 113 [a0, a1, a2, some (vR x)] st μ G = ev 108 114 [a0, a1, a2, some (vR x)] (vR x :: st) μ G := ev_stp pg_108_113 rfl
theorem pg_108_114 : mm_prog 108 114 = some (0, .getfield 212, 117, [4, 2, 0]) := by decide +kernel
theorem xe_108_114 (a0 a1 a2 a3 : Option MV) (x : Int) (st : List MV) (μ : MM) (G : MG) : ev 108 114 [a0, a1, a2, a3] (vR x :: st) μ G = if gk G x = 4 then ev 108 117 [a0, a1, a2, a3] (vI (μ x 2) :: st) μ G else none := ev_if pg_108_114 rfl
theorem pg_108_117 : mm_prog 108 117 = some (2, .ireturn, 118, [0]) := by decide +kernel
theorem xe_108_117 (a0 a1 a2 a3 : Option MV) (x : Int) (μ : MM) (G : MG) : ev 108 117 [a0, a1, a2, a3] [vI x] μ G = some (some (vI x), μ, G) := ev_ret pg_108_117 rfl
theorem pg_108_118 : mm_prog 108 118 = some (0, .aload_n 3, 119, []) := by decide +kernel
theorem xe_108_118 (a0 a1 a2 : Option MV) (x : Int) (st : List MV) (μ : MM) (G : MG) : ev 108 118 [a0, a1, a2, some (vR x)] st μ G = ev 108 119 [a0, a1, a2, some (vR x)] (vR x :: st) μ G := ev_stp pg_108_118 rfl
theorem pg_108_119 : mm_prog 108 119 = some (0, .getfield 215, 122, [4, 3, 1]) := by decide +kernel
theorem xe_108_119 (a0 a1 a2 a3 : Option MV) (x : Int) (st : List MV) (μ : MM) (G : MG) : ev 108 119 [a0, a1, a2, a3] (vR x :: st) μ G = if gk G x = 4 then ev 108 122 [a0, a1, a2, a3] (vI (μ x 3) :: st) μ G else none := ev_if pg_108_119 rfl
theorem pg_108_122 : mm_prog 108 122 = some (0, .ifCond .eq 7, 125, []) := by decide +kernel
theorem xe_108_122 (a0 a1 a2 a3 : Option MV) (x : Int) (st : List MV) (μ : MM) (G : MG) : ev 108 122 [a0, a1, a2, a3] (vI x :: st) μ G = if x = 0 then ev 108 129 [a0, a1, a2, a3] st μ G else ev 108 125 [a0, a1, a2, a3] st μ G := ev_br (mm_cnd_eq x 0) pg_108_122 rfl
theorem pg_108_125 : mm_prog 108 125 = some (0, .iconst 1, 126, []) := by decide +kernel
theorem xe_108_125 (a0 a1 a2 a3 : Option MV) (st : List MV) (μ : MM) (G : MG) : ev 108 125 [a0, a1, a2, a3] st μ G = ev 108 126 [a0, a1, a2, a3] (vI (1) :: st) μ G := ev_stp pg_108_125 rfl
theorem pg_108_126 : mm_prog 108 126 = some (0, .goto 4, 129, []) := by decide +kernel
theorem xe_108_126 (a0 a1 a2 a3 : Option MV) (st : List MV) (μ : MM) (G : MG) : ev 108 126 [a0, a1, a2, a3] st μ G = ev 108 130 [a0, a1, a2, a3] st μ G := ev_stp pg_108_126 rfl
theorem pg_108_129 : mm_prog 108 129 = some (0, .iconst 0, 130, []) := by decide +kernel
theorem xe_108_129 (a0 a1 a2 a3 : Option MV) (st : List MV) (μ : MM) (G : MG) : ev 108 129 [a0, a1, a2, a3] st μ G = ev 108 130 [a0, a1, a2, a3] (vI (0) :: st) μ G := ev_stp pg_108_129 rfl
theorem pg_108_130 : mm_prog 108 130 = some (2, .ireturn, 131, [0]) := by decide +kernel
theorem xe_108_130 (a0 a1 a2 a3 : Option MV) (x : Int) (μ : MM) (G : MG) : ev 108 130 [a0, a1, a2, a3] [vI x] μ G = some (some (vI x), μ, G) := ev_ret pg_108_130 rfl
theorem pg_108_131 : mm_prog 108 131 = some (0, .aload_n 3, 132, []) := by decide +kernel
theorem xe_108_131 (a0 a1 a2 : Option MV) (x : Int) (st : List MV) (μ : MM) (G : MG) : ev 108 131 [a0, a1, a2, some (vR x)] st μ G = ev 108 132 [a0, a1, a2, some (vR x)] (vR x :: st) μ G := ev_stp pg_108_131 rfl
theorem pg_108_132 : mm_prog 108 132 = some (0, .getfield 188, 135, [4, 0, 2]) := by decide +kernel
theorem xe_108_132 (a0 a1 a2 a3 : Option MV) (x : Int) (st : List MV) (μ : MM) (G : MG) : ev 108 132 [a0, a1, a2, a3] (vR x :: st) μ G = if gk G x = 4 then ev 108 135 [a0, a1, a2, a3] (vR (μ x 0) :: st) μ G else none := ev_if pg_108_132 rfl
theorem pg_108_135 : mm_prog 108 135 = some (1, .invokevirtual 218, 138, [1, 74, 0, 7]) := by decide +kernel
theorem xe_108_135 (a0 a1 a2 a3 : Option MV) (z : Int) (μ : MM) (G : MG) : ev 108 135 [a0, a1, a2, a3] (vR z :: []) μ G = if gk G z = 7 ∧ 0 < z then (ev 74 0 [some (vR z), none, none] [] μ G).bind (fun q => ev 108 138 [a0, a1, a2, a3] (q.1.toList ++ []) q.2.1 q.2.2) else none := ev_calV (as := [vR z]) (r := []) mx_74 pg_108_135 rfl rfl (Nat.le_of_ble_eq_true rfl) (Nat.le_of_ble_eq_true rfl)
theorem pg_108_138 : mm_prog 108 138 = some (2, .ireturn, 139, [0]) := by decide +kernel
theorem xe_108_138 (a0 a1 a2 a3 : Option MV) (x : Int) (μ : MM) (G : MG) : ev 108 138 [a0, a1, a2, a3] [vI x] μ G = some (some (vI x), μ, G) := ev_ret pg_108_138 rfl
theorem pg_108_139 : mm_prog 108 139 = some (0, .bipush (-2), 141, []) := by decide +kernel
theorem xe_108_139 (a0 a1 a2 a3 : Option MV) (st : List MV) (μ : MM) (G : MG) : ev 108 139 [a0, a1, a2, a3] st μ G = ev 108 141 [a0, a1, a2, a3] (vI (-2) :: st) μ G := ev_stp pg_108_139 rfl
theorem pg_108_141 : mm_prog 108 141 = some (2, .ireturn, 142, [0]) := by decide +kernel
theorem xe_108_141 (a0 a1 a2 a3 : Option MV) (x : Int) (μ : MM) (G : MG) : ev 108 141 [a0, a1, a2, a3] [vI x] μ G = some (some (vI x), μ, G) := ev_ret pg_108_141 rfl
-- X10_called
theorem pg_109_0 : mm_prog 109 0 = some (0, .aload_n 0, 1, []) := by decide +kernel
theorem xe_109_0 (a1 a2 a3 : Option MV) (x : Int) (st : List MV) (μ : MM) (G : MG) : ev 109 0 [some (vR x), a1, a2, a3] st μ G = ev 109 1 [some (vR x), a1, a2, a3] (vR x :: st) μ G := ev_stp pg_109_0 rfl
theorem pg_109_1 : mm_prog 109 1 = some (0, .getfield 36, 4, [10, 4, 2]) := by decide +kernel
theorem xe_109_1 (a0 a1 a2 a3 : Option MV) (x : Int) (st : List MV) (μ : MM) (G : MG) : ev 109 1 [a0, a1, a2, a3] (vR x :: st) μ G = if gk G x = 10 then ev 109 4 [a0, a1, a2, a3] (vR (μ x 4) :: st) μ G else none := ev_if pg_109_1 rfl
theorem pg_109_4 : mm_prog 109 4 = some (0, .iload_n 1, 5, []) := by decide +kernel
theorem xe_109_4 (a0 a2 a3 : Option MV) (x : Int) (st : List MV) (μ : MM) (G : MG) : ev 109 4 [a0, some (vI x), a2, a3] st μ G = ev 109 5 [a0, some (vI x), a2, a3] (vI x :: st) μ G := ev_stp pg_109_4 rfl
theorem pg_109_5 : mm_prog 109 5 = some (1, .invokevirtual 185, 8, [1, 31, 1, 5]) := by decide +kernel
theorem xe_109_5 (a0 a1 a2 a3 : Option MV) (x0 z : Int) (μ : MM) (G : MG) : ev 109 5 [a0, a1, a2, a3] (vI x0 :: vR z :: []) μ G = if gk G z = 5 ∧ 0 < z then (ev 31 0 [some (vR z), some (vI x0)] [] μ G).bind (fun q => ev 109 8 [a0, a1, a2, a3] (q.1.toList ++ []) q.2.1 q.2.2) else none := ev_calV (as := [vR z, vI x0]) (r := []) mx_31 pg_109_5 rfl rfl (Nat.le_of_ble_eq_true rfl) (Nat.le_of_ble_eq_true rfl)
theorem pg_109_8 : mm_prog 109 8 = some (0, .astore_n 3, 9, []) := by decide +kernel
theorem xe_109_8 (a0 a1 a2 a3 : Option MV) (x : Int) (st : List MV) (μ : MM) (G : MG) (h : mm_nL a2 = true) : ev 109 8 [a0, a1, a2, a3] (vR x :: st) μ G = ev 109 9 [a0, a1, a2, some (vR x)] st μ G := ev_st pg_109_8 rfl (mm_nl_of h) (Nat.le_of_ble_eq_true rfl)
theorem pg_109_9 : mm_prog 109 9 = some (0, .aload_n 3, 10, []) := by decide +kernel
theorem xe_109_9 (a0 a1 a2 : Option MV) (x : Int) (st : List MV) (μ : MM) (G : MG) : ev 109 9 [a0, a1, a2, some (vR x)] st μ G = ev 109 10 [a0, a1, a2, some (vR x)] (vR x :: st) μ G := ev_stp pg_109_9 rfl
theorem pg_109_10 : mm_prog 109 10 = some (0, .ifnonnull 6, 13, []) := by decide +kernel
theorem xe_109_10 (a0 a1 a2 a3 : Option MV) (x : Int) (st : List MV) (μ : MM) (G : MG) : ev 109 10 [a0, a1, a2, a3] (vR x :: st) μ G = if x = 7 then none else if x = 0 then ev 109 13 [a0, a1, a2, a3] st μ G else ev 109 16 [a0, a1, a2, a3] st μ G := ev_nul pg_109_10 rfl
theorem pg_109_13 : mm_prog 109 13 = some (0, .bipush (-2), 15, []) := by decide +kernel
theorem xe_109_13 (a0 a1 a2 a3 : Option MV) (st : List MV) (μ : MM) (G : MG) : ev 109 13 [a0, a1, a2, a3] st μ G = ev 109 15 [a0, a1, a2, a3] (vI (-2) :: st) μ G := ev_stp pg_109_13 rfl
theorem pg_109_15 : mm_prog 109 15 = some (2, .ireturn, 16, [0]) := by decide +kernel
theorem xe_109_15 (a0 a1 a2 a3 : Option MV) (x : Int) (μ : MM) (G : MG) : ev 109 15 [a0, a1, a2, a3] [vI x] μ G = some (some (vI x), μ, G) := ev_ret pg_109_15 rfl
theorem pg_109_16 : mm_prog 109 16 = some (0, .iload_n 2, 17, []) := by decide +kernel
theorem xe_109_16 (a0 a1 a3 : Option MV) (x : Int) (st : List MV) (μ : MM) (G : MG) : ev 109 16 [a0, a1, some (vI x), a3] st μ G = ev 109 17 [a0, a1, some (vI x), a3] (vI x :: st) μ G := ev_stp pg_109_16 rfl
theorem pg_109_17 : mm_prog 109 17 = some (0, .ifCond .ge 6, 20, []) := by decide +kernel
theorem xe_109_17 (a0 a1 a2 a3 : Option MV) (x : Int) (st : List MV) (μ : MM) (G : MG) : ev 109 17 [a0, a1, a2, a3] (vI x :: st) μ G = if 0 ≤ x then ev 109 23 [a0, a1, a2, a3] st μ G else ev 109 20 [a0, a1, a2, a3] st μ G := ev_br (mm_cnd_ge x 0) pg_109_17 rfl
theorem pg_109_20 : mm_prog 109 20 = some (0, .bipush (-3), 22, []) := by decide +kernel
theorem xe_109_20 (a0 a1 a2 a3 : Option MV) (st : List MV) (μ : MM) (G : MG) : ev 109 20 [a0, a1, a2, a3] st μ G = ev 109 22 [a0, a1, a2, a3] (vI (-3) :: st) μ G := ev_stp pg_109_20 rfl
theorem pg_109_22 : mm_prog 109 22 = some (2, .ireturn, 23, [0]) := by decide +kernel
theorem xe_109_22 (a0 a1 a2 a3 : Option MV) (x : Int) (μ : MM) (G : MG) : ev 109 22 [a0, a1, a2, a3] [vI x] μ G = some (some (vI x), μ, G) := ev_ret pg_109_22 rfl
theorem pg_109_23 : mm_prog 109 23 = some (0, .aload_n 0, 24, []) := by decide +kernel
theorem xe_109_23 (a1 a2 a3 : Option MV) (x : Int) (st : List MV) (μ : MM) (G : MG) : ev 109 23 [some (vR x), a1, a2, a3] st μ G = ev 109 24 [some (vR x), a1, a2, a3] (vR x :: st) μ G := ev_stp pg_109_23 rfl
theorem pg_109_24 : mm_prog 109 24 = some (0, .getfield 57, 27, [10, 7, 2]) := by decide +kernel
theorem xe_109_24 (a0 a1 a2 a3 : Option MV) (x : Int) (st : List MV) (μ : MM) (G : MG) : ev 109 24 [a0, a1, a2, a3] (vR x :: st) μ G = if gk G x = 10 then ev 109 27 [a0, a1, a2, a3] (vR (μ x 7) :: st) μ G else none := ev_if pg_109_24 rfl
theorem pg_109_27 : mm_prog 109 27 = some (0, .iconst 0, 28, []) := by decide +kernel
theorem xe_109_27 (a0 a1 a2 a3 : Option MV) (st : List MV) (μ : MM) (G : MG) : ev 109 27 [a0, a1, a2, a3] st μ G = ev 109 28 [a0, a1, a2, a3] (vI (0) :: st) μ G := ev_stp pg_109_27 rfl
theorem pg_109_28 : mm_prog 109 28 = some (1, .invokevirtual 221, 31, [1, 250, 1, 12]) := by decide +kernel
theorem xe_109_28 (a0 a1 a2 a3 : Option MV) (x0 z : Int) (μ : MM) (G : MG) : ev 109 28 [a0, a1, a2, a3] (vI x0 :: vR z :: []) μ G = if gk G z = 12 ∧ 0 < z then (ev 250 0 [some (vR z), some (vI x0)] [] μ G).bind (fun q => ev 109 31 [a0, a1, a2, a3] (q.1.toList ++ []) q.2.1 q.2.2) else none := ev_calV (as := [vR z, vI x0]) (r := []) mx_250 pg_109_28 rfl rfl (Nat.le_of_ble_eq_true rfl) (Nat.le_of_ble_eq_true rfl)
theorem pg_109_31 : mm_prog 109 31 = some (0, .aload_n 0, 32, []) := by decide +kernel
theorem xe_109_31 (a1 a2 a3 : Option MV) (x : Int) (st : List MV) (μ : MM) (G : MG) : ev 109 31 [some (vR x), a1, a2, a3] st μ G = ev 109 32 [some (vR x), a1, a2, a3] (vR x :: st) μ G := ev_stp pg_109_31 rfl
theorem pg_109_32 : mm_prog 109 32 = some (0, .getfield 57, 35, [10, 7, 2]) := by decide +kernel
theorem xe_109_32 (a0 a1 a2 a3 : Option MV) (x : Int) (st : List MV) (μ : MM) (G : MG) : ev 109 32 [a0, a1, a2, a3] (vR x :: st) μ G = if gk G x = 10 then ev 109 35 [a0, a1, a2, a3] (vR (μ x 7) :: st) μ G else none := ev_if pg_109_32 rfl
theorem pg_109_35 : mm_prog 109 35 = some (0, .aload_n 3, 36, []) := by decide +kernel
theorem xe_109_35 (a0 a1 a2 : Option MV) (x : Int) (st : List MV) (μ : MM) (G : MG) : ev 109 35 [a0, a1, a2, some (vR x)] st μ G = ev 109 36 [a0, a1, a2, some (vR x)] (vR x :: st) μ G := ev_stp pg_109_35 rfl
theorem pg_109_36 : mm_prog 109 36 = some (0, .getfield 188, 39, [4, 0, 2]) := by decide +kernel
theorem xe_109_36 (a0 a1 a2 a3 : Option MV) (x : Int) (st : List MV) (μ : MM) (G : MG) : ev 109 36 [a0, a1, a2, a3] (vR x :: st) μ G = if gk G x = 4 then ev 109 39 [a0, a1, a2, a3] (vR (μ x 0) :: st) μ G else none := ev_if pg_109_36 rfl
theorem pg_109_39 : mm_prog 109 39 = some (0, .getfield 193, 42, [7, 1, 0]) := by decide +kernel
theorem xe_109_39 (a0 a1 a2 a3 : Option MV) (x : Int) (st : List MV) (μ : MM) (G : MG) : ev 109 39 [a0, a1, a2, a3] (vR x :: st) μ G = if gk G x = 7 then ev 109 42 [a0, a1, a2, a3] (vI (μ x 1) :: st) μ G else none := ev_if pg_109_39 rfl
theorem pg_109_42 : mm_prog 109 42 = some (1, .invokevirtual 224, 45, [1, 248, 1, 12]) := by decide +kernel
theorem xe_109_42 (a0 a1 a2 a3 : Option MV) (x0 z : Int) (μ : MM) (G : MG) : ev 109 42 [a0, a1, a2, a3] (vI x0 :: vR z :: []) μ G = if gk G z = 12 ∧ 0 < z then (ev 248 0 [some (vR z), some (vI x0)] [] μ G).bind (fun q => ev 109 45 [a0, a1, a2, a3] (q.1.toList ++ []) q.2.1 q.2.2) else none := ev_calV (as := [vR z, vI x0]) (r := []) mx_248 pg_109_42 rfl rfl (Nat.le_of_ble_eq_true rfl) (Nat.le_of_ble_eq_true rfl)
theorem pg_109_45 : mm_prog 109 45 = some (0, .bipush 120, 47, []) := by decide +kernel
theorem xe_109_45 (a0 a1 a2 a3 : Option MV) (st : List MV) (μ : MM) (G : MG) : ev 109 45 [a0, a1, a2, a3] st μ G = ev 109 47 [a0, a1, a2, a3] (vI (120) :: st) μ G := ev_stp pg_109_45 rfl
theorem pg_109_47 : mm_prog 109 47 = some (1, .invokevirtual 228, 50, [1, 247, 1, 12]) := by decide +kernel
theorem xe_109_47 (a0 a1 a2 a3 : Option MV) (x0 z : Int) (μ : MM) (G : MG) : ev 109 47 [a0, a1, a2, a3] (vI x0 :: vR z :: []) μ G = if gk G z = 12 ∧ 0 < z then (ev 247 0 [some (vR z), some (vI x0)] [] μ G).bind (fun q => ev 109 50 [a0, a1, a2, a3] (q.1.toList ++ []) q.2.1 q.2.2) else none := ev_calV (as := [vR z, vI x0]) (r := []) mx_247 pg_109_47 rfl rfl (Nat.le_of_ble_eq_true rfl) (Nat.le_of_ble_eq_true rfl)
theorem pg_109_50 : mm_prog 109 50 = some (0, .aload_n 3, 51, []) := by decide +kernel
theorem xe_109_50 (a0 a1 a2 : Option MV) (x : Int) (st : List MV) (μ : MM) (G : MG) : ev 109 50 [a0, a1, a2, some (vR x)] st μ G = ev 109 51 [a0, a1, a2, some (vR x)] (vR x :: st) μ G := ev_stp pg_109_50 rfl
theorem pg_109_51 : mm_prog 109 51 = some (0, .getfield 188, 54, [4, 0, 2]) := by decide +kernel
theorem xe_109_51 (a0 a1 a2 a3 : Option MV) (x : Int) (st : List MV) (μ : MM) (G : MG) : ev 109 51 [a0, a1, a2, a3] (vR x :: st) μ G = if gk G x = 4 then ev 109 54 [a0, a1, a2, a3] (vR (μ x 0) :: st) μ G else none := ev_if pg_109_51 rfl
theorem pg_109_54 : mm_prog 109 54 = some (0, .getfield 196, 57, [7, 5, 0]) := by decide +kernel
theorem xe_109_54 (a0 a1 a2 a3 : Option MV) (x : Int) (st : List MV) (μ : MM) (G : MG) : ev 109 54 [a0, a1, a2, a3] (vR x :: st) μ G = if gk G x = 7 then ev 109 57 [a0, a1, a2, a3] (vI (μ x 5) :: st) μ G else none := ev_if pg_109_54 rfl
theorem pg_109_57 : mm_prog 109 57 = some (1, .invokevirtual 224, 60, [1, 248, 1, 12]) := by decide +kernel
theorem xe_109_57 (a0 a1 a2 a3 : Option MV) (x0 z : Int) (μ : MM) (G : MG) : ev 109 57 [a0, a1, a2, a3] (vI x0 :: vR z :: []) μ G = if gk G z = 12 ∧ 0 < z then (ev 248 0 [some (vR z), some (vI x0)] [] μ G).bind (fun q => ev 109 60 [a0, a1, a2, a3] (q.1.toList ++ []) q.2.1 q.2.2) else none := ev_calV (as := [vR z, vI x0]) (r := []) mx_248 pg_109_57 rfl rfl (Nat.le_of_ble_eq_true rfl) (Nat.le_of_ble_eq_true rfl)
theorem pg_109_60 : mm_prog 109 60 = some (0, .bipush 64, 62, []) := by decide +kernel
theorem xe_109_60 (a0 a1 a2 a3 : Option MV) (st : List MV) (μ : MM) (G : MG) : ev 109 60 [a0, a1, a2, a3] st μ G = ev 109 62 [a0, a1, a2, a3] (vI (64) :: st) μ G := ev_stp pg_109_60 rfl
theorem pg_109_62 : mm_prog 109 62 = some (1, .invokevirtual 228, 65, [1, 247, 1, 12]) := by decide +kernel
theorem xe_109_62 (a0 a1 a2 a3 : Option MV) (x0 z : Int) (μ : MM) (G : MG) : ev 109 62 [a0, a1, a2, a3] (vI x0 :: vR z :: []) μ G = if gk G z = 12 ∧ 0 < z then (ev 247 0 [some (vR z), some (vI x0)] [] μ G).bind (fun q => ev 109 65 [a0, a1, a2, a3] (q.1.toList ++ []) q.2.1 q.2.2) else none := ev_calV (as := [vR z, vI x0]) (r := []) mx_247 pg_109_62 rfl rfl (Nat.le_of_ble_eq_true rfl) (Nat.le_of_ble_eq_true rfl)
theorem pg_109_65 : mm_prog 109 65 = some (0, .aload_n 3, 66, []) := by decide +kernel
theorem xe_109_65 (a0 a1 a2 : Option MV) (x : Int) (st : List MV) (μ : MM) (G : MG) : ev 109 65 [a0, a1, a2, some (vR x)] st μ G = ev 109 66 [a0, a1, a2, some (vR x)] (vR x :: st) μ G := ev_stp pg_109_65 rfl
theorem pg_109_66 : mm_prog 109 66 = some (0, .getfield 199, 69, [4, 1, 0]) := by decide +kernel
theorem xe_109_66 (a0 a1 a2 a3 : Option MV) (x : Int) (st : List MV) (μ : MM) (G : MG) : ev 109 66 [a0, a1, a2, a3] (vR x :: st) μ G = if gk G x = 4 then ev 109 69 [a0, a1, a2, a3] (vI (μ x 1) :: st) μ G else none := ev_if pg_109_66 rfl
theorem pg_109_69 : mm_prog 109 69 = some (1, .invokevirtual 224, 72, [1, 248, 1, 12]) := by decide +kernel
theorem xe_109_69 (a0 a1 a2 a3 : Option MV) (x0 z : Int) (μ : MM) (G : MG) : ev 109 69 [a0, a1, a2, a3] (vI x0 :: vR z :: []) μ G = if gk G z = 12 ∧ 0 < z then (ev 248 0 [some (vR z), some (vI x0)] [] μ G).bind (fun q => ev 109 72 [a0, a1, a2, a3] (q.1.toList ++ []) q.2.1 q.2.2) else none := ev_calV (as := [vR z, vI x0]) (r := []) mx_248 pg_109_69 rfl rfl (Nat.le_of_ble_eq_true rfl) (Nat.le_of_ble_eq_true rfl)
theorem pg_109_72 : mm_prog 109 72 = some (0, .pop, 73, []) := by decide +kernel
theorem xe_109_72 (a0 a1 a2 a3 : Option MV) (x : Int) (st : List MV) (μ : MM) (G : MG) : ev 109 72 [a0, a1, a2, a3] (vR x :: st) μ G = ev 109 73 [a0, a1, a2, a3] st μ G := ev_stp pg_109_72 rfl
theorem pg_109_73 : mm_prog 109 73 = some (0, .aload_n 3, 74, []) := by decide +kernel
theorem xe_109_73 (a0 a1 a2 : Option MV) (x : Int) (st : List MV) (μ : MM) (G : MG) : ev 109 73 [a0, a1, a2, some (vR x)] st μ G = ev 109 74 [a0, a1, a2, some (vR x)] (vR x :: st) μ G := ev_stp pg_109_73 rfl
theorem pg_109_74 : mm_prog 109 74 = some (0, .getfield 215, 77, [4, 3, 1]) := by decide +kernel
theorem xe_109_74 (a0 a1 a2 a3 : Option MV) (x : Int) (st : List MV) (μ : MM) (G : MG) : ev 109 74 [a0, a1, a2, a3] (vR x :: st) μ G = if gk G x = 4 then ev 109 77 [a0, a1, a2, a3] (vI (μ x 3) :: st) μ G else none := ev_if pg_109_74 rfl
theorem pg_109_77 : mm_prog 109 77 = some (0, .ifCond .eq 13, 80, []) := by decide +kernel
theorem xe_109_77 (a0 a1 a2 a3 : Option MV) (x : Int) (st : List MV) (μ : MM) (G : MG) : ev 109 77 [a0, a1, a2, a3] (vI x :: st) μ G = if x = 0 then ev 109 90 [a0, a1, a2, a3] st μ G else ev 109 80 [a0, a1, a2, a3] st μ G := ev_br (mm_cnd_eq x 0) pg_109_77 rfl
theorem pg_109_80 : mm_prog 109 80 = some (0, .aload_n 0, 81, []) := by decide +kernel
theorem xe_109_80 (a1 a2 a3 : Option MV) (x : Int) (st : List MV) (μ : MM) (G : MG) : ev 109 80 [some (vR x), a1, a2, a3] st μ G = ev 109 81 [some (vR x), a1, a2, a3] (vR x :: st) μ G := ev_stp pg_109_80 rfl
theorem pg_109_81 : mm_prog 109 81 = some (0, .getfield 57, 84, [10, 7, 2]) := by decide +kernel
theorem xe_109_81 (a0 a1 a2 a3 : Option MV) (x : Int) (st : List MV) (μ : MM) (G : MG) : ev 109 81 [a0, a1, a2, a3] (vR x :: st) μ G = if gk G x = 10 then ev 109 84 [a0, a1, a2, a3] (vR (μ x 7) :: st) μ G else none := ev_if pg_109_81 rfl
theorem pg_109_84 : mm_prog 109 84 = some (0, .bipush 33, 86, []) := by decide +kernel
theorem xe_109_84 (a0 a1 a2 a3 : Option MV) (st : List MV) (μ : MM) (G : MG) : ev 109 84 [a0, a1, a2, a3] st μ G = ev 109 86 [a0, a1, a2, a3] (vI (33) :: st) μ G := ev_stp pg_109_84 rfl
theorem pg_109_86 : mm_prog 109 86 = some (1, .invokevirtual 228, 89, [1, 247, 1, 12]) := by decide +kernel
theorem xe_109_86 (a0 a1 a2 a3 : Option MV) (x0 z : Int) (μ : MM) (G : MG) : ev 109 86 [a0, a1, a2, a3] (vI x0 :: vR z :: []) μ G = if gk G z = 12 ∧ 0 < z then (ev 247 0 [some (vR z), some (vI x0)] [] μ G).bind (fun q => ev 109 89 [a0, a1, a2, a3] (q.1.toList ++ []) q.2.1 q.2.2) else none := ev_calV (as := [vR z, vI x0]) (r := []) mx_247 pg_109_86 rfl rfl (Nat.le_of_ble_eq_true rfl) (Nat.le_of_ble_eq_true rfl)
theorem pg_109_89 : mm_prog 109 89 = some (0, .pop, 90, []) := by decide +kernel
theorem xe_109_89 (a0 a1 a2 a3 : Option MV) (x : Int) (st : List MV) (μ : MM) (G : MG) : ev 109 89 [a0, a1, a2, a3] (vR x :: st) μ G = ev 109 90 [a0, a1, a2, a3] st μ G := ev_stp pg_109_89 rfl
theorem pg_109_90 : mm_prog 109 90 = some (0, .iload_n 2, 91, []) := by decide +kernel
theorem xe_109_90 (a0 a1 a3 : Option MV) (x : Int) (st : List MV) (μ : MM) (G : MG) : ev 109 90 [a0, a1, some (vI x), a3] st μ G = ev 109 91 [a0, a1, some (vI x), a3] (vI x :: st) μ G := ev_stp pg_109_90 rfl
theorem pg_109_91 : mm_prog 109 91 = some (0, .aload_n 0, 92, []) := by decide +kernel
theorem xe_109_91 (a1 a2 a3 : Option MV) (x : Int) (st : List MV) (μ : MM) (G : MG) : ev 109 91 [some (vR x), a1, a2, a3] st μ G = ev 109 92 [some (vR x), a1, a2, a3] (vR x :: st) μ G := ev_stp pg_109_91 rfl
theorem pg_109_92 : mm_prog 109 92 = some (0, .getfield 57, 95, [10, 7, 2]) := by decide +kernel
theorem xe_109_92 (a0 a1 a2 a3 : Option MV) (x : Int) (st : List MV) (μ : MM) (G : MG) : ev 109 92 [a0, a1, a2, a3] (vR x :: st) μ G = if gk G x = 10 then ev 109 95 [a0, a1, a2, a3] (vR (μ x 7) :: st) μ G else none := ev_if pg_109_92 rfl
theorem pg_109_95 : mm_prog 109 95 = some (1, .invokevirtual 231, 98, [1, 251, 0, 12]) := by decide +kernel
theorem xe_109_95 (a0 a1 a2 a3 : Option MV) (z r0 : Int) (μ : MM) (G : MG) : ev 109 95 [a0, a1, a2, a3] (vR z :: [vI r0]) μ G = if gk G z = 12 ∧ 0 < z then (ev 251 0 [some (vR z)] [] μ G).bind (fun q => ev 109 98 [a0, a1, a2, a3] (q.1.toList ++ [vI r0]) q.2.1 q.2.2) else none := ev_calV (as := [vR z]) (r := [vI r0]) mx_251 pg_109_95 rfl rfl (Nat.le_of_ble_eq_true rfl) (Nat.le_of_ble_eq_true rfl)
theorem pg_109_98 : mm_prog 109 98 = some (0, .if_icmp .ge 14, 101, []) := by decide +kernel
theorem xe_109_98 (a0 a1 a2 a3 : Option MV) (x y : Int) (st : List MV) (μ : MM) (G : MG) : ev 109 98 [a0, a1, a2, a3] (vI y :: vI x :: st) μ G = if y ≤ x then ev 109 112 [a0, a1, a2, a3] st μ G else ev 109 101 [a0, a1, a2, a3] st μ G := ev_br (mm_cnd_ge x y) pg_109_98 rfl
theorem pg_109_101 : mm_prog 109 101 = some (0, .aload_n 0, 102, []) := by decide +kernel
theorem xe_109_101 (a1 a2 a3 : Option MV) (x : Int) (st : List MV) (μ : MM) (G : MG) : ev 109 101 [some (vR x), a1, a2, a3] st μ G = ev 109 102 [some (vR x), a1, a2, a3] (vR x :: st) μ G := ev_stp pg_109_101 rfl
theorem pg_109_102 : mm_prog 109 102 = some (0, .getfield 57, 105, [10, 7, 2]) := by decide +kernel
theorem xe_109_102 (a0 a1 a2 a3 : Option MV) (x : Int) (st : List MV) (μ : MM) (G : MG) : ev 109 102 [a0, a1, a2, a3] (vR x :: st) μ G = if gk G x = 10 then ev 109 105 [a0, a1, a2, a3] (vR (μ x 7) :: st) μ G else none := ev_if pg_109_102 rfl
theorem pg_109_105 : mm_prog 109 105 = some (0, .iload_n 2, 106, []) := by decide +kernel
theorem xe_109_105 (a0 a1 a3 : Option MV) (x : Int) (st : List MV) (μ : MM) (G : MG) : ev 109 105 [a0, a1, some (vI x), a3] st μ G = ev 109 106 [a0, a1, some (vI x), a3] (vI x :: st) μ G := ev_stp pg_109_105 rfl
theorem pg_109_106 : mm_prog 109 106 = some (1, .invokevirtual 233, 109, [1, 249, 1, 12]) := by decide +kernel
theorem xe_109_106 (a0 a1 a2 a3 : Option MV) (x0 z : Int) (μ : MM) (G : MG) : ev 109 106 [a0, a1, a2, a3] (vI x0 :: vR z :: []) μ G = if gk G z = 12 ∧ 0 < z then (ev 249 0 [some (vR z), some (vI x0)] [] μ G).bind (fun q => ev 109 109 [a0, a1, a2, a3] (q.1.toList ++ []) q.2.1 q.2.2) else none := ev_calV (as := [vR z, vI x0]) (r := []) mx_249 pg_109_106 rfl rfl (Nat.le_of_ble_eq_true rfl) (Nat.le_of_ble_eq_true rfl)
theorem pg_109_109 : mm_prog 109 109 = some (0, .goto 4, 112, []) := by decide +kernel
theorem xe_109_109 (a0 a1 a2 a3 : Option MV) (st : List MV) (μ : MM) (G : MG) : ev 109 109 [a0, a1, a2, a3] st μ G = ev 109 113 [a0, a1, a2, a3] st μ G := ev_stp pg_109_109 rfl
theorem pg_109_112 : mm_prog 109 112 = some (0, .iconst (-1), 113, []) := by decide +kernel
theorem xe_109_112 (a0 a1 a2 a3 : Option MV) (st : List MV) (μ : MM) (G : MG) : ev 109 112 [a0, a1, a2, a3] st μ G = ev 109 113 [a0, a1, a2, a3] (vI (-1) :: st) μ G := ev_stp pg_109_112 rfl
theorem pg_109_113 : mm_prog 109 113 = some (2, .ireturn, 114, [0]) := by decide +kernel
theorem xe_109_113 (a0 a1 a2 a3 : Option MV) (x : Int) (μ : MM) (G : MG) : ev 109 113 [a0, a1, a2, a3] [vI x] μ G = some (some (vI x), μ, G) := ev_ret pg_109_113 rfl
-- X10_find
theorem pg_110_0 : mm_prog 110 0 = some (0, .aload_n 0, 1, []) := by decide +kernel
theorem xe_110_0 (a1 a2 a3 : Option MV) (x : Int) (st : List MV) (μ : MM) (G : MG) : ev 110 0 [some (vR x), a1, a2, a3] st μ G = ev 110 1 [some (vR x), a1, a2, a3] (vR x :: st) μ G := ev_stp pg_110_0 rfl
theorem pg_110_1 : mm_prog 110 1 = some (0, .getfield 36, 4, [10, 4, 2]) := by decide +kernel
theorem xe_110_1 (a0 a1 a2 a3 : Option MV) (x : Int) (st : List MV) (μ : MM) (G : MG) : ev 110 1 [a0, a1, a2, a3] (vR x :: st) μ G = if gk G x = 10 then ev 110 4 [a0, a1, a2, a3] (vR (μ x 4) :: st) μ G else none := ev_if pg_110_1 rfl
theorem pg_110_4 : mm_prog 110 4 = some (0, .iload_n 1, 5, []) := by decide +kernel
theorem xe_110_4 (a0 a2 a3 : Option MV) (x : Int) (st : List MV) (μ : MM) (G : MG) : ev 110 4 [a0, some (vI x), a2, a3] st μ G = ev 110 5 [a0, some (vI x), a2, a3] (vI x :: st) μ G := ev_stp pg_110_4 rfl
theorem pg_110_5 : mm_prog 110 5 = some (0, .iload_n 2, 6, []) := by decide +kernel
theorem xe_110_5 (a0 a1 a3 : Option MV) (x : Int) (st : List MV) (μ : MM) (G : MG) : ev 110 5 [a0, a1, some (vI x), a3] st μ G = ev 110 6 [a0, a1, some (vI x), a3] (vI x :: st) μ G := ev_stp pg_110_5 rfl
theorem pg_110_6 : mm_prog 110 6 = some (0, .iload_n 3, 7, []) := by decide +kernel
theorem xe_110_6 (a0 a1 a2 : Option MV) (x : Int) (st : List MV) (μ : MM) (G : MG) : ev 110 6 [a0, a1, a2, some (vI x)] st μ G = ev 110 7 [a0, a1, a2, some (vI x)] (vI x :: st) μ G := ev_stp pg_110_6 rfl
theorem pg_110_7 : mm_prog 110 7 = some (1, .invokevirtual 237, 10, [1, 33, 3, 5]) := by decide +kernel
theorem xe_110_7 (a0 a1 a2 a3 : Option MV) (x0 x1 x2 z : Int) (μ : MM) (G : MG) : ev 110 7 [a0, a1, a2, a3] (vI x2 :: vI x1 :: vI x0 :: vR z :: []) μ G = if gk G z = 5 ∧ 0 < z then (ev 33 0 [some (vR z), some (vI x0), some (vI x1), some (vI x2), none] [] μ G).bind (fun q => ev 110 10 [a0, a1, a2, a3] (q.1.toList ++ []) q.2.1 q.2.2) else none := ev_calV (as := [vR z, vI x0, vI x1, vI x2]) (r := []) mx_33 pg_110_7 rfl rfl (Nat.le_of_ble_eq_true rfl) (Nat.le_of_ble_eq_true rfl)
theorem pg_110_10 : mm_prog 110 10 = some (2, .ireturn, 11, [0]) := by decide +kernel
theorem xe_110_10 (a0 a1 a2 a3 : Option MV) (x : Int) (μ : MM) (G : MG) : ev 110 10 [a0, a1, a2, a3] [vI x] μ G = some (some (vI x), μ, G) := ev_ret pg_110_10 rfl
-- X10_formula
theorem pg_111_0 : mm_prog 111 0 = some (0, .iload_n 1, 1, []) := by decide +kernel
theorem xe_111_0 (a0 a2 a3 a4 a5 : Option MV) (x : Int) (st : List MV) (μ : MM) (G : MG) : ev 111 0 [a0, some (vI x), a2, a3, a4, a5] st μ G = ev 111 1 [a0, some (vI x), a2, a3, a4, a5] (vI x :: st) μ G := ev_stp pg_111_0 rfl
theorem pg_111_1 : mm_prog 111 1 = some (1, .invokestatic 241, 4, [0, 114, 1, 0]) := by decide +kernel
theorem xe_111_1 (a0 a1 a2 a3 a4 a5 : Option MV) (x0 : Int) (μ : MM) (G : MG) : ev 111 1 [a0, a1, a2, a3, a4, a5] (vI x0 :: []) μ G = (ev 114 0 [some (vI x0)] [] μ G).bind (fun q => ev 111 4 [a0, a1, a2, a3, a4, a5] (q.1.toList ++ []) q.2.1 q.2.2) := ev_calS (as := [vI x0]) (r := []) mx_114 pg_111_1 rfl rfl (Nat.le_of_ble_eq_true rfl) (Nat.le_of_ble_eq_true rfl)
theorem pg_111_4 : mm_prog 111 4 = some (0, .ifCond .eq 15, 7, []) := by decide +kernel
theorem xe_111_4 (a0 a1 a2 a3 a4 a5 : Option MV) (x : Int) (st : List MV) (μ : MM) (G : MG) : ev 111 4 [a0, a1, a2, a3, a4, a5] (vI x :: st) μ G = if x = 0 then ev 111 19 [a0, a1, a2, a3, a4, a5] st μ G else ev 111 7 [a0, a1, a2, a3, a4, a5] st μ G := ev_br (mm_cnd_eq x 0) pg_111_4 rfl
theorem pg_111_7 : mm_prog 111 7 = some (0, .iload 5, 9, []) := by decide +kernel
theorem xe_111_7 (a0 a1 a2 a3 a4 : Option MV) (x : Int) (st : List MV) (μ : MM) (G : MG) : ev 111 7 [a0, a1, a2, a3, a4, some (vI x)] st μ G = ev 111 9 [a0, a1, a2, a3, a4, some (vI x)] (vI x :: st) μ G := ev_stp pg_111_7 rfl
theorem pg_111_9 : mm_prog 111 9 = some (0, .ifCond .lt 10, 12, []) := by decide +kernel
theorem xe_111_9 (a0 a1 a2 a3 a4 a5 : Option MV) (x : Int) (st : List MV) (μ : MM) (G : MG) : ev 111 9 [a0, a1, a2, a3, a4, a5] (vI x :: st) μ G = if x < 0 then ev 111 19 [a0, a1, a2, a3, a4, a5] st μ G else ev 111 12 [a0, a1, a2, a3, a4, a5] st μ G := ev_br (mm_cnd_lt x 0) pg_111_9 rfl
theorem pg_111_12 : mm_prog 111 12 = some (0, .iload 5, 14, []) := by decide +kernel
theorem xe_111_12 (a0 a1 a2 a3 a4 : Option MV) (x : Int) (st : List MV) (μ : MM) (G : MG) : ev 111 12 [a0, a1, a2, a3, a4, some (vI x)] st μ G = ev 111 14 [a0, a1, a2, a3, a4, some (vI x)] (vI x :: st) μ G := ev_stp pg_111_12 rfl
theorem pg_111_14 : mm_prog 111 14 = some (0, .bipush 9, 16, []) := by decide +kernel
theorem xe_111_14 (a0 a1 a2 a3 a4 a5 : Option MV) (st : List MV) (μ : MM) (G : MG) : ev 111 14 [a0, a1, a2, a3, a4, a5] st μ G = ev 111 16 [a0, a1, a2, a3, a4, a5] (vI (9) :: st) μ G := ev_stp pg_111_14 rfl
theorem pg_111_16 : mm_prog 111 16 = some (0, .if_icmp .le 6, 19, []) := by decide +kernel
theorem xe_111_16 (a0 a1 a2 a3 a4 a5 : Option MV) (x y : Int) (st : List MV) (μ : MM) (G : MG) : ev 111 16 [a0, a1, a2, a3, a4, a5] (vI y :: vI x :: st) μ G = if x ≤ y then ev 111 22 [a0, a1, a2, a3, a4, a5] st μ G else ev 111 19 [a0, a1, a2, a3, a4, a5] st μ G := ev_br (mm_cnd_le x y) pg_111_16 rfl
theorem pg_111_19 : mm_prog 111 19 = some (0, .bipush (-2), 21, []) := by decide +kernel
theorem xe_111_19 (a0 a1 a2 a3 a4 a5 : Option MV) (st : List MV) (μ : MM) (G : MG) : ev 111 19 [a0, a1, a2, a3, a4, a5] st μ G = ev 111 21 [a0, a1, a2, a3, a4, a5] (vI (-2) :: st) μ G := ev_stp pg_111_19 rfl
theorem pg_111_21 : mm_prog 111 21 = some (2, .ireturn, 22, [0]) := by decide +kernel
theorem xe_111_21 (a0 a1 a2 a3 a4 a5 : Option MV) (x : Int) (μ : MM) (G : MG) : ev 111 21 [a0, a1, a2, a3, a4, a5] [vI x] μ G = some (some (vI x), μ, G) := ev_ret pg_111_21 rfl
theorem pg_111_22 : mm_prog 111 22 = some (0, .iload_n 2, 23, []) := by decide +kernel
theorem xe_111_22 (a0 a1 a3 a4 a5 : Option MV) (x : Int) (st : List MV) (μ : MM) (G : MG) : ev 111 22 [a0, a1, some (vI x), a3, a4, a5] st μ G = ev 111 23 [a0, a1, some (vI x), a3, a4, a5] (vI x :: st) μ G := ev_stp pg_111_22 rfl
theorem pg_111_23 : mm_prog 111 23 = some (0, .iload_n 3, 24, []) := by decide +kernel
theorem xe_111_23 (a0 a1 a2 a4 a5 : Option MV) (x : Int) (st : List MV) (μ : MM) (G : MG) : ev 111 23 [a0, a1, a2, some (vI x), a4, a5] st μ G = ev 111 24 [a0, a1, a2, some (vI x), a4, a5] (vI x :: st) μ G := ev_stp pg_111_23 rfl
theorem pg_111_24 : mm_prog 111 24 = some (1, .invokestatic 245, 27, [0, 115, 2, 0]) := by decide +kernel
theorem xe_111_24 (a0 a1 a2 a3 a4 a5 : Option MV) (x0 x1 : Int) (μ : MM) (G : MG) : ev 111 24 [a0, a1, a2, a3, a4, a5] (vI x1 :: vI x0 :: []) μ G = (ev 115 0 [some (vI x0), some (vI x1)] [] μ G).bind (fun q => ev 111 27 [a0, a1, a2, a3, a4, a5] (q.1.toList ++ []) q.2.1 q.2.2) := ev_calS (as := [vI x0, vI x1]) (r := []) mx_115 pg_111_24 rfl rfl (Nat.le_of_ble_eq_true rfl) (Nat.le_of_ble_eq_true rfl)
theorem pg_111_27 : mm_prog 111 27 = some (0, .ifCond .eq 11, 30, []) := by decide +kernel
theorem xe_111_27 (a0 a1 a2 a3 a4 a5 : Option MV) (x : Int) (st : List MV) (μ : MM) (G : MG) : ev 111 27 [a0, a1, a2, a3, a4, a5] (vI x :: st) μ G = if x = 0 then ev 111 38 [a0, a1, a2, a3, a4, a5] st μ G else ev 111 30 [a0, a1, a2, a3, a4, a5] st μ G := ev_br (mm_cnd_eq x 0) pg_111_27 rfl
theorem pg_111_30 : mm_prog 111 30 = some (0, .iload 4, 32, []) := by decide +kernel
theorem xe_111_30 (a0 a1 a2 a3 a5 : Option MV) (x : Int) (st : List MV) (μ : MM) (G : MG) : ev 111 30 [a0, a1, a2, a3, some (vI x), a5] st μ G = ev 111 32 [a0, a1, a2, a3, some (vI x), a5] (vI x :: st) μ G := ev_stp pg_111_30 rfl
theorem pg_111_32 : mm_prog 111 32 = some (1, .invokestatic 249, 35, [0, 116, 1, 0]) := by decide +kernel
theorem xe_111_32 (a0 a1 a2 a3 a4 a5 : Option MV) (x0 : Int) (μ : MM) (G : MG) : ev 111 32 [a0, a1, a2, a3, a4, a5] (vI x0 :: []) μ G = (ev 116 0 [some (vI x0)] [] μ G).bind (fun q => ev 111 35 [a0, a1, a2, a3, a4, a5] (q.1.toList ++ []) q.2.1 q.2.2) := ev_calS (as := [vI x0]) (r := []) mx_116 pg_111_32 rfl rfl (Nat.le_of_ble_eq_true rfl) (Nat.le_of_ble_eq_true rfl)
theorem pg_111_35 : mm_prog 111 35 = some (0, .ifCond .ne 6, 38, []) := by decide +kernel
theorem xe_111_35 (a0 a1 a2 a3 a4 a5 : Option MV) (x : Int) (st : List MV) (μ : MM) (G : MG) : ev 111 35 [a0, a1, a2, a3, a4, a5] (vI x :: st) μ G = if ¬ x = 0 then ev 111 41 [a0, a1, a2, a3, a4, a5] st μ G else ev 111 38 [a0, a1, a2, a3, a4, a5] st μ G := ev_br (mm_cnd_ne x 0) pg_111_35 rfl
theorem pg_111_38 : mm_prog 111 38 = some (0, .bipush (-3), 40, []) := by decide +kernel
theorem xe_111_38 (a0 a1 a2 a3 a4 a5 : Option MV) (st : List MV) (μ : MM) (G : MG) : ev 111 38 [a0, a1, a2, a3, a4, a5] st μ G = ev 111 40 [a0, a1, a2, a3, a4, a5] (vI (-3) :: st) μ G := ev_stp pg_111_38 rfl
theorem pg_111_40 : mm_prog 111 40 = some (2, .ireturn, 41, [0]) := by decide +kernel
theorem xe_111_40 (a0 a1 a2 a3 a4 a5 : Option MV) (x : Int) (μ : MM) (G : MG) : ev 111 40 [a0, a1, a2, a3, a4, a5] [vI x] μ G = some (some (vI x), μ, G) := ev_ret pg_111_40 rfl
theorem pg_111_41 : mm_prog 111 41 = some (0, .aload_n 0, 42, []) := by decide +kernel
theorem xe_111_41 (a1 a2 a3 a4 a5 : Option MV) (x : Int) (st : List MV) (μ : MM) (G : MG) : ev 111 41 [some (vR x), a1, a2, a3, a4, a5] st μ G = ev 111 42 [some (vR x), a1, a2, a3, a4, a5] (vR x :: st) μ G := ev_stp pg_111_41 rfl
theorem pg_111_42 : mm_prog 111 42 = some (0, .getfield 50, 45, [10, 6, 2]) := by decide +kernel
theorem xe_111_42 (a0 a1 a2 a3 a4 a5 : Option MV) (x : Int) (st : List MV) (μ : MM) (G : MG) : ev 111 42 [a0, a1, a2, a3, a4, a5] (vR x :: st) μ G = if gk G x = 10 then ev 111 45 [a0, a1, a2, a3, a4, a5] (vR (μ x 6) :: st) μ G else none := ev_if pg_111_42 rfl
theorem pg_111_45 : mm_prog 111 45 = some (0, .iload_n 1, 46, []) := by decide +kernel
theorem xe_111_45 (a0 a2 a3 a4 a5 : Option MV) (x : Int) (st : List MV) (μ : MM) (G : MG) : ev 111 45 [a0, some (vI x), a2, a3, a4, a5] st μ G = ev 111 46 [a0, some (vI x), a2, a3, a4, a5] (vI x :: st) μ G := ev_stp pg_111_45 rfl
theorem pg_111_46 : mm_prog 111 46 = some (0, .iload_n 2, 47, []) := by decide +kernel
theorem xe_111_46 (a0 a1 a3 a4 a5 : Option MV) (x : Int) (st : List MV) (μ : MM) (G : MG) : ev 111 46 [a0, a1, some (vI x), a3, a4, a5] st μ G = ev 111 47 [a0, a1, some (vI x), a3, a4, a5] (vI x :: st) μ G := ev_stp pg_111_46 rfl
theorem pg_111_47 : mm_prog 111 47 = some (0, .iload_n 3, 48, []) := by decide +kernel
theorem xe_111_47 (a0 a1 a2 a4 a5 : Option MV) (x : Int) (st : List MV) (μ : MM) (G : MG) : ev 111 47 [a0, a1, a2, some (vI x), a4, a5] st μ G = ev 111 48 [a0, a1, a2, some (vI x), a4, a5] (vI x :: st) μ G := ev_stp pg_111_47 rfl
theorem pg_111_48 : mm_prog 111 48 = some (0, .iload 4, 50, []) := by decide +kernel
theorem xe_111_48 (a0 a1 a2 a3 a5 : Option MV) (x : Int) (st : List MV) (μ : MM) (G : MG) : ev 111 48 [a0, a1, a2, a3, some (vI x), a5] st μ G = ev 111 50 [a0, a1, a2, a3, some (vI x), a5] (vI x :: st) μ G := ev_stp pg_111_48 rfl
theorem pg_111_50 : mm_prog 111 50 = some (1, .invokevirtual 252, 53, [1, 62, 4, 7]) := by decide +kernel
theorem xe_111_50 (a0 a1 a2 a3 a4 a5 : Option MV) (x0 x1 x2 x3 z : Int) (μ : MM) (G : MG) : ev 111 50 [a0, a1, a2, a3, a4, a5] (vI x3 :: vI x2 :: vI x1 :: vI x0 :: vR z :: []) μ G = if gk G z = 7 ∧ 0 < z then (ev 62 0 [some (vR z), some (vI x0), some (vI x1), some (vI x2), some (vI x3), none] [] μ G).bind (fun q => ev 111 53 [a0, a1, a2, a3, a4, a5] (q.1.toList ++ []) q.2.1 q.2.2) else none := ev_calV (as := [vR z, vI x0, vI x1, vI x2, vI x3]) (r := []) mx_62 pg_111_50 rfl rfl (Nat.le_of_ble_eq_true rfl) (Nat.le_of_ble_eq_true rfl)
theorem pg_111_53 : mm_prog 111 53 = some (0, .iload 5, 55, []) := by decide +kernel
theorem xe_111_53 (a0 a1 a2 a3 a4 : Option MV) (x : Int) (st : List MV) (μ : MM) (G : MG) : ev 111 53 [a0, a1, a2, a3, a4, some (vI x)] st μ G = ev 111 55 [a0, a1, a2, a3, a4, some (vI x)] (vI x :: st) μ G := ev_stp pg_111_53 rfl
theorem pg_111_55 : mm_prog 111 55 = some (0, .lookupswitch 41 #[(8, 25), (9, 33)], 80, [96, 8, 80, 9, 88]) := by decide +kernel
theorem xe_111_55 (a0 a1 a2 a3 a4 a5 : Option MV) (x : Int) (st : List MV) (μ : MM) (G : MG) : ev 111 55 [a0, a1, a2, a3, a4, a5] (vI x :: st) μ G = if x = 8 then ev 111 80 [a0, a1, a2, a3, a4, a5] st μ G else if x = 9 then ev 111 88 [a0, a1, a2, a3, a4, a5] st μ G else ev 111 96 [a0, a1, a2, a3, a4, a5] st μ G := ev_sw (x := x) (d := 96) (l := [8, 80, 9, 88]) (st' := st) pg_111_55 rfl
theorem pg_111_80 : mm_prog 111 80 = some (0, .aload_n 0, 81, []) := by decide +kernel
theorem xe_111_80 (a1 a2 a3 a4 a5 : Option MV) (x : Int) (st : List MV) (μ : MM) (G : MG) : ev 111 80 [some (vR x), a1, a2, a3, a4, a5] st μ G = ev 111 81 [some (vR x), a1, a2, a3, a4, a5] (vR x :: st) μ G := ev_stp pg_111_80 rfl
theorem pg_111_81 : mm_prog 111 81 = some (0, .getfield 50, 84, [10, 6, 2]) := by decide +kernel
theorem xe_111_81 (a0 a1 a2 a3 a4 a5 : Option MV) (x : Int) (st : List MV) (μ : MM) (G : MG) : ev 111 81 [a0, a1, a2, a3, a4, a5] (vR x :: st) μ G = if gk G x = 10 then ev 111 84 [a0, a1, a2, a3, a4, a5] (vR (μ x 6) :: st) μ G else none := ev_if pg_111_81 rfl
theorem pg_111_84 : mm_prog 111 84 = some (0, .getfield 202, 87, [7, 0, 0]) := by decide +kernel
theorem xe_111_84 (a0 a1 a2 a3 a4 a5 : Option MV) (x : Int) (st : List MV) (μ : MM) (G : MG) : ev 111 84 [a0, a1, a2, a3, a4, a5] (vR x :: st) μ G = if gk G x = 7 then ev 111 87 [a0, a1, a2, a3, a4, a5] (vI (μ x 0) :: st) μ G else none := ev_if pg_111_84 rfl
theorem pg_111_87 : mm_prog 111 87 = some (2, .ireturn, 88, [0]) := by decide +kernel
theorem xe_111_87 (a0 a1 a2 a3 a4 a5 : Option MV) (x : Int) (μ : MM) (G : MG) : ev 111 87 [a0, a1, a2, a3, a4, a5] [vI x] μ G = some (some (vI x), μ, G) := ev_ret pg_111_87 rfl
theorem pg_111_88 : mm_prog 111 88 = some (0, .aload_n 0, 89, []) := by decide +kernel
theorem xe_111_88 (a1 a2 a3 a4 a5 : Option MV) (x : Int) (st : List MV) (μ : MM) (G : MG) : ev 111 88 [some (vR x), a1, a2, a3, a4, a5] st μ G = ev 111 89 [some (vR x), a1, a2, a3, a4, a5] (vR x :: st) μ G := ev_stp pg_111_88 rfl
theorem pg_111_89 : mm_prog 111 89 = some (0, .getfield 50, 92, [10, 6, 2]) := by decide +kernel
theorem xe_111_89 (a0 a1 a2 a3 a4 a5 : Option MV) (x : Int) (st : List MV) (μ : MM) (G : MG) : ev 111 89 [a0, a1, a2, a3, a4, a5] (vR x :: st) μ G = if gk G x = 10 then ev 111 92 [a0, a1, a2, a3, a4, a5] (vR (μ x 6) :: st) μ G else none := ev_if pg_111_89 rfl
theorem pg_111_92 : mm_prog 111 92 = some (1, .invokevirtual 218, 95, [1, 74, 0, 7]) := by decide +kernel
theorem xe_111_92 (a0 a1 a2 a3 a4 a5 : Option MV) (z : Int) (μ : MM) (G : MG) : ev 111 92 [a0, a1, a2, a3, a4, a5] (vR z :: []) μ G = if gk G z = 7 ∧ 0 < z then (ev 74 0 [some (vR z), none, none] [] μ G).bind (fun q => ev 111 95 [a0, a1, a2, a3, a4, a5] (q.1.toList ++ []) q.2.1 q.2.2) else none := ev_calV (as := [vR z]) (r := []) mx_74 pg_111_92 rfl rfl (Nat.le_of_ble_eq_true rfl) (Nat.le_of_ble_eq_true rfl)
theorem pg_111_95 : mm_prog 111 95 = some (2, .ireturn, 96, [0]) := by decide +kernel
theorem xe_111_95 (a0 a1 a2 a3 a4 a5 : Option MV) (x : Int) (μ : MM) (G : MG) : ev 111 95 [a0, a1, a2, a3, a4, a5] [vI x] μ G = some (some (vI x), μ, G) := ev_ret pg_111_95 rfl
theorem pg_111_96 : mm_prog 111 96 = some (0, .aload_n 0, 97, []) := by decide +kernel
theorem xe_111_96 (a1 a2 a3 a4 a5 : Option MV) (x : Int) (st : List MV) (μ : MM) (G : MG) : ev 111 96 [some (vR x), a1, a2, a3, a4, a5] st μ G = ev 111 97 [some (vR x), a1, a2, a3, a4, a5] (vR x :: st) μ G := ev_stp pg_111_96 rfl
theorem pg_111_97 : mm_prog 111 97 = some (0, .getfield 50, 100, [10, 6, 2]) := by decide +kernel
theorem xe_111_97 (a0 a1 a2 a3 a4 a5 : Option MV) (x : Int) (st : List MV) (μ : MM) (G : MG) : ev 111 97 [a0, a1, a2, a3, a4, a5] (vR x :: st) μ G = if gk G x = 10 then ev 111 100 [a0, a1, a2, a3, a4, a5] (vR (μ x 6) :: st) μ G else none := ev_if pg_111_97 rfl
theorem pg_111_100 : mm_prog 111 100 = some (0, .iload 5, 102, []) := by decide +kernel
theorem xe_111_100 (a0 a1 a2 a3 a4 : Option MV) (x : Int) (st : List MV) (μ : MM) (G : MG) : ev 111 100 [a0, a1, a2, a3, a4, some (vI x)] st μ G = ev 111 102 [a0, a1, a2, a3, a4, some (vI x)] (vI x :: st) μ G := ev_stp pg_111_100 rfl
theorem pg_111_102 : mm_prog 111 102 = some (0, .iconst 1, 103, []) := by decide +kernel
theorem xe_111_102 (a0 a1 a2 a3 a4 a5 : Option MV) (st : List MV) (μ : MM) (G : MG) : ev 111 102 [a0, a1, a2, a3, a4, a5] st μ G = ev 111 103 [a0, a1, a2, a3, a4, a5] (vI (1) :: st) μ G := ev_stp pg_111_102 rfl
theorem pg_111_103 : mm_prog 111 103 = some (0, .iadd, 104, []) := by decide +kernel
theorem xe_111_103 (a0 a1 a2 a3 a4 a5 : Option MV) (x y : Int) (st : List MV) (μ : MM) (G : MG) : ev 111 103 [a0, a1, a2, a3, a4, a5] (vI y :: vI x :: st) μ G = ev 111 104 [a0, a1, a2, a3, a4, a5] (vI (w32 (x + y)) :: st) μ G := ev_stp pg_111_103 rfl
theorem pg_111_104 : mm_prog 111 104 = some (1, .invokevirtual 177, 107, [1, 67, 1, 7]) := by decide +kernel
theorem xe_111_104 (a0 a1 a2 a3 a4 a5 : Option MV) (x0 z : Int) (μ : MM) (G : MG) : ev 111 104 [a0, a1, a2, a3, a4, a5] (vI x0 :: vR z :: []) μ G = if gk G z = 7 ∧ 0 < z then (ev 67 0 [some (vR z), some (vI x0)] [] μ G).bind (fun q => ev 111 107 [a0, a1, a2, a3, a4, a5] (q.1.toList ++ []) q.2.1 q.2.2) else none := ev_calV (as := [vR z, vI x0]) (r := []) mx_67 pg_111_104 rfl rfl (Nat.le_of_ble_eq_true rfl) (Nat.le_of_ble_eq_true rfl)
theorem pg_111_107 : mm_prog 111 107 = some (2, .ireturn, 108, [0]) := by decide +kernel
theorem xe_111_107 (a0 a1 a2 a3 a4 a5 : Option MV) (x : Int) (μ : MM) (G : MG) : ev 111 107 [a0, a1, a2, a3, a4, a5] [vI x] μ G = some (some (vI x), μ, G) := ev_ret pg_111_107 rfl
-- X10_descriptor
theorem pg_112_0 : mm_prog 112 0 = some (0, .iload_n 1, 1, []) := by decide +kernel
theorem xe_112_0 (a0 a2 a3 a4 a5 : Option MV) (x : Int) (st : List MV) (μ : MM) (G : MG) : ev 112 0 [a0, some (vI x), a2, a3, a4, a5] st μ G = ev 112 1 [a0, some (vI x), a2, a3, a4, a5] (vI x :: st) μ G := ev_stp pg_112_0 rfl
theorem pg_112_1 : mm_prog 112 1 = some (1, .invokestatic 241, 4, [0, 114, 1, 0]) := by decide +kernel
theorem xe_112_1 (a0 a1 a2 a3 a4 a5 : Option MV) (x0 : Int) (μ : MM) (G : MG) : ev 112 1 [a0, a1, a2, a3, a4, a5] (vI x0 :: []) μ G = (ev 114 0 [some (vI x0)] [] μ G).bind (fun q => ev 112 4 [a0, a1, a2, a3, a4, a5] (q.1.toList ++ []) q.2.1 q.2.2) := ev_calS (as := [vI x0]) (r := []) mx_114 pg_112_1 rfl rfl (Nat.le_of_ble_eq_true rfl) (Nat.le_of_ble_eq_true rfl)
theorem pg_112_4 : mm_prog 112 4 = some (0, .ifCond .eq 15, 7, []) := by decide +kernel
theorem xe_112_4 (a0 a1 a2 a3 a4 a5 : Option MV) (x : Int) (st : List MV) (μ : MM) (G : MG) : ev 112 4 [a0, a1, a2, a3, a4, a5] (vI x :: st) μ G = if x = 0 then ev 112 19 [a0, a1, a2, a3, a4, a5] st μ G else ev 112 7 [a0, a1, a2, a3, a4, a5] st μ G := ev_br (mm_cnd_eq x 0) pg_112_4 rfl
theorem pg_112_7 : mm_prog 112 7 = some (0, .iload 5, 9, []) := by decide +kernel
theorem xe_112_7 (a0 a1 a2 a3 a4 : Option MV) (x : Int) (st : List MV) (μ : MM) (G : MG) : ev 112 7 [a0, a1, a2, a3, a4, some (vI x)] st μ G = ev 112 9 [a0, a1, a2, a3, a4, some (vI x)] (vI x :: st) μ G := ev_stp pg_112_7 rfl
theorem pg_112_9 : mm_prog 112 9 = some (0, .ifCond .lt 10, 12, []) := by decide +kernel
theorem xe_112_9 (a0 a1 a2 a3 a4 a5 : Option MV) (x : Int) (st : List MV) (μ : MM) (G : MG) : ev 112 9 [a0, a1, a2, a3, a4, a5] (vI x :: st) μ G = if x < 0 then ev 112 19 [a0, a1, a2, a3, a4, a5] st μ G else ev 112 12 [a0, a1, a2, a3, a4, a5] st μ G := ev_br (mm_cnd_lt x 0) pg_112_9 rfl
theorem pg_112_12 : mm_prog 112 12 = some (0, .iload 5, 14, []) := by decide +kernel
theorem xe_112_12 (a0 a1 a2 a3 a4 : Option MV) (x : Int) (st : List MV) (μ : MM) (G : MG) : ev 112 12 [a0, a1, a2, a3, a4, some (vI x)] st μ G = ev 112 14 [a0, a1, a2, a3, a4, some (vI x)] (vI x :: st) μ G := ev_stp pg_112_12 rfl
theorem pg_112_14 : mm_prog 112 14 = some (0, .bipush 18, 16, []) := by decide +kernel
theorem xe_112_14 (a0 a1 a2 a3 a4 a5 : Option MV) (st : List MV) (μ : MM) (G : MG) : ev 112 14 [a0, a1, a2, a3, a4, a5] st μ G = ev 112 16 [a0, a1, a2, a3, a4, a5] (vI (18) :: st) μ G := ev_stp pg_112_14 rfl
theorem pg_112_16 : mm_prog 112 16 = some (0, .if_icmp .lt 6, 19, []) := by decide +kernel
theorem xe_112_16 (a0 a1 a2 a3 a4 a5 : Option MV) (x y : Int) (st : List MV) (μ : MM) (G : MG) : ev 112 16 [a0, a1, a2, a3, a4, a5] (vI y :: vI x :: st) μ G = if x < y then ev 112 22 [a0, a1, a2, a3, a4, a5] st μ G else ev 112 19 [a0, a1, a2, a3, a4, a5] st μ G := ev_br (mm_cnd_lt x y) pg_112_16 rfl
theorem pg_112_19 : mm_prog 112 19 = some (0, .bipush (-2), 21, []) := by decide +kernel
theorem xe_112_19 (a0 a1 a2 a3 a4 a5 : Option MV) (st : List MV) (μ : MM) (G : MG) : ev 112 19 [a0, a1, a2, a3, a4, a5] st μ G = ev 112 21 [a0, a1, a2, a3, a4, a5] (vI (-2) :: st) μ G := ev_stp pg_112_19 rfl
theorem pg_112_21 : mm_prog 112 21 = some (2, .ireturn, 22, [0]) := by decide +kernel
theorem xe_112_21 (a0 a1 a2 a3 a4 a5 : Option MV) (x : Int) (μ : MM) (G : MG) : ev 112 21 [a0, a1, a2, a3, a4, a5] [vI x] μ G = some (some (vI x), μ, G) := ev_ret pg_112_21 rfl
theorem pg_112_22 : mm_prog 112 22 = some (0, .iload_n 2, 23, []) := by decide +kernel
theorem xe_112_22 (a0 a1 a3 a4 a5 : Option MV) (x : Int) (st : List MV) (μ : MM) (G : MG) : ev 112 22 [a0, a1, some (vI x), a3, a4, a5] st μ G = ev 112 23 [a0, a1, some (vI x), a3, a4, a5] (vI x :: st) μ G := ev_stp pg_112_22 rfl
theorem pg_112_23 : mm_prog 112 23 = some (0, .iload_n 3, 24, []) := by decide +kernel
theorem xe_112_23 (a0 a1 a2 a4 a5 : Option MV) (x : Int) (st : List MV) (μ : MM) (G : MG) : ev 112 23 [a0, a1, a2, some (vI x), a4, a5] st μ G = ev 112 24 [a0, a1, a2, some (vI x), a4, a5] (vI x :: st) μ G := ev_stp pg_112_23 rfl
theorem pg_112_24 : mm_prog 112 24 = some (1, .invokestatic 245, 27, [0, 115, 2, 0]) := by decide +kernel
theorem xe_112_24 (a0 a1 a2 a3 a4 a5 : Option MV) (x0 x1 : Int) (μ : MM) (G : MG) : ev 112 24 [a0, a1, a2, a3, a4, a5] (vI x1 :: vI x0 :: []) μ G = (ev 115 0 [some (vI x0), some (vI x1)] [] μ G).bind (fun q => ev 112 27 [a0, a1, a2, a3, a4, a5] (q.1.toList ++ []) q.2.1 q.2.2) := ev_calS (as := [vI x0, vI x1]) (r := []) mx_115 pg_112_24 rfl rfl (Nat.le_of_ble_eq_true rfl) (Nat.le_of_ble_eq_true rfl)
theorem pg_112_27 : mm_prog 112 27 = some (0, .ifCond .eq 11, 30, []) := by decide +kernel
theorem xe_112_27 (a0 a1 a2 a3 a4 a5 : Option MV) (x : Int) (st : List MV) (μ : MM) (G : MG) : ev 112 27 [a0, a1, a2, a3, a4, a5] (vI x :: st) μ G = if x = 0 then ev 112 38 [a0, a1, a2, a3, a4, a5] st μ G else ev 112 30 [a0, a1, a2, a3, a4, a5] st μ G := ev_br (mm_cnd_eq x 0) pg_112_27 rfl
theorem pg_112_30 : mm_prog 112 30 = some (0, .iload 4, 32, []) := by decide +kernel
theorem xe_112_30 (a0 a1 a2 a3 a5 : Option MV) (x : Int) (st : List MV) (μ : MM) (G : MG) : ev 112 30 [a0, a1, a2, a3, some (vI x), a5] st μ G = ev 112 32 [a0, a1, a2, a3, some (vI x), a5] (vI x :: st) μ G := ev_stp pg_112_30 rfl
theorem pg_112_32 : mm_prog 112 32 = some (1, .invokestatic 249, 35, [0, 116, 1, 0]) := by decide +kernel
theorem xe_112_32 (a0 a1 a2 a3 a4 a5 : Option MV) (x0 : Int) (μ : MM) (G : MG) : ev 112 32 [a0, a1, a2, a3, a4, a5] (vI x0 :: []) μ G = (ev 116 0 [some (vI x0)] [] μ G).bind (fun q => ev 112 35 [a0, a1, a2, a3, a4, a5] (q.1.toList ++ []) q.2.1 q.2.2) := ev_calS (as := [vI x0]) (r := []) mx_116 pg_112_32 rfl rfl (Nat.le_of_ble_eq_true rfl) (Nat.le_of_ble_eq_true rfl)
theorem pg_112_35 : mm_prog 112 35 = some (0, .ifCond .ne 6, 38, []) := by decide +kernel
theorem xe_112_35 (a0 a1 a2 a3 a4 a5 : Option MV) (x : Int) (st : List MV) (μ : MM) (G : MG) : ev 112 35 [a0, a1, a2, a3, a4, a5] (vI x :: st) μ G = if ¬ x = 0 then ev 112 41 [a0, a1, a2, a3, a4, a5] st μ G else ev 112 38 [a0, a1, a2, a3, a4, a5] st μ G := ev_br (mm_cnd_ne x 0) pg_112_35 rfl
theorem pg_112_38 : mm_prog 112 38 = some (0, .bipush (-3), 40, []) := by decide +kernel
theorem xe_112_38 (a0 a1 a2 a3 a4 a5 : Option MV) (st : List MV) (μ : MM) (G : MG) : ev 112 38 [a0, a1, a2, a3, a4, a5] st μ G = ev 112 40 [a0, a1, a2, a3, a4, a5] (vI (-3) :: st) μ G := ev_stp pg_112_38 rfl
theorem pg_112_40 : mm_prog 112 40 = some (2, .ireturn, 41, [0]) := by decide +kernel
theorem xe_112_40 (a0 a1 a2 a3 a4 a5 : Option MV) (x : Int) (μ : MM) (G : MG) : ev 112 40 [a0, a1, a2, a3, a4, a5] [vI x] μ G = some (some (vI x), μ, G) := ev_ret pg_112_40 rfl
theorem pg_112_41 : mm_prog 112 41 = some (0, .aload_n 0, 42, []) := by decide +kernel
theorem xe_112_41 (a1 a2 a3 a4 a5 : Option MV) (x : Int) (st : List MV) (μ : MM) (G : MG) : ev 112 41 [some (vR x), a1, a2, a3, a4, a5] st μ G = ev 112 42 [some (vR x), a1, a2, a3, a4, a5] (vR x :: st) μ G := ev_stp pg_112_41 rfl
theorem pg_112_42 : mm_prog 112 42 = some (0, .getfield 50, 45, [10, 6, 2]) := by decide +kernel
theorem xe_112_42 (a0 a1 a2 a3 a4 a5 : Option MV) (x : Int) (st : List MV) (μ : MM) (G : MG) : ev 112 42 [a0, a1, a2, a3, a4, a5] (vR x :: st) μ G = if gk G x = 10 then ev 112 45 [a0, a1, a2, a3, a4, a5] (vR (μ x 6) :: st) μ G else none := ev_if pg_112_42 rfl
theorem pg_112_45 : mm_prog 112 45 = some (0, .iload_n 1, 46, []) := by decide +kernel
theorem xe_112_45 (a0 a2 a3 a4 a5 : Option MV) (x : Int) (st : List MV) (μ : MM) (G : MG) : ev 112 45 [a0, some (vI x), a2, a3, a4, a5] st μ G = ev 112 46 [a0, some (vI x), a2, a3, a4, a5] (vI x :: st) μ G := ev_stp pg_112_45 rfl
theorem pg_112_46 : mm_prog 112 46 = some (0, .iload_n 2, 47, []) := by decide +kernel
theorem xe_112_46 (a0 a1 a3 a4 a5 : Option MV) (x : Int) (st : List MV) (μ : MM) (G : MG) : ev 112 46 [a0, a1, some (vI x), a3, a4, a5] st μ G = ev 112 47 [a0, a1, some (vI x), a3, a4, a5] (vI x :: st) μ G := ev_stp pg_112_46 rfl
theorem pg_112_47 : mm_prog 112 47 = some (0, .iload_n 3, 48, []) := by decide +kernel
theorem xe_112_47 (a0 a1 a2 a4 a5 : Option MV) (x : Int) (st : List MV) (μ : MM) (G : MG) : ev 112 47 [a0, a1, a2, some (vI x), a4, a5] st μ G = ev 112 48 [a0, a1, a2, some (vI x), a4, a5] (vI x :: st) μ G := ev_stp pg_112_47 rfl
theorem pg_112_48 : mm_prog 112 48 = some (0, .iload 4, 50, []) := by decide +kernel
theorem xe_112_48 (a0 a1 a2 a3 a5 : Option MV) (x : Int) (st : List MV) (μ : MM) (G : MG) : ev 112 48 [a0, a1, a2, a3, some (vI x), a5] st μ G = ev 112 50 [a0, a1, a2, a3, some (vI x), a5] (vI x :: st) μ G := ev_stp pg_112_48 rfl
theorem pg_112_50 : mm_prog 112 50 = some (1, .invokevirtual 252, 53, [1, 62, 4, 7]) := by decide +kernel
theorem xe_112_50 (a0 a1 a2 a3 a4 a5 : Option MV) (x0 x1 x2 x3 z : Int) (μ : MM) (G : MG) : ev 112 50 [a0, a1, a2, a3, a4, a5] (vI x3 :: vI x2 :: vI x1 :: vI x0 :: vR z :: []) μ G = if gk G z = 7 ∧ 0 < z then (ev 62 0 [some (vR z), some (vI x0), some (vI x1), some (vI x2), some (vI x3), none] [] μ G).bind (fun q => ev 112 53 [a0, a1, a2, a3, a4, a5] (q.1.toList ++ []) q.2.1 q.2.2) else none := ev_calV (as := [vR z, vI x0, vI x1, vI x2, vI x3]) (r := []) mx_62 pg_112_50 rfl rfl (Nat.le_of_ble_eq_true rfl) (Nat.le_of_ble_eq_true rfl)
theorem pg_112_53 : mm_prog 112 53 = some (0, .aload_n 0, 54, []) := by decide +kernel
theorem xe_112_53 (a1 a2 a3 a4 a5 : Option MV) (x : Int) (st : List MV) (μ : MM) (G : MG) : ev 112 53 [some (vR x), a1, a2, a3, a4, a5] st μ G = ev 112 54 [some (vR x), a1, a2, a3, a4, a5] (vR x :: st) μ G := ev_stp pg_112_53 rfl
theorem pg_112_54 : mm_prog 112 54 = some (0, .getfield 50, 57, [10, 6, 2]) := by decide +kernel
theorem xe_112_54 (a0 a1 a2 a3 a4 a5 : Option MV) (x : Int) (st : List MV) (μ : MM) (G : MG) : ev 112 54 [a0, a1, a2, a3, a4, a5] (vR x :: st) μ G = if gk G x = 10 then ev 112 57 [a0, a1, a2, a3, a4, a5] (vR (μ x 6) :: st) μ G else none := ev_if pg_112_54 rfl
theorem pg_112_57 : mm_prog 112 57 = some (1, .invokevirtual 256, 60, [1, 69, 0, 7]) := by decide +kernel
theorem xe_112_57 (a0 a1 a2 a3 a4 a5 : Option MV) (z : Int) (μ : MM) (G : MG) : ev 112 57 [a0, a1, a2, a3, a4, a5] (vR z :: []) μ G = if gk G z = 7 ∧ 0 < z then (ev 69 0 [some (vR z)] [] μ G).bind (fun q => ev 112 60 [a0, a1, a2, a3, a4, a5] (q.1.toList ++ []) q.2.1 q.2.2) else none := ev_calV (as := [vR z]) (r := []) mx_69 pg_112_57 rfl rfl (Nat.le_of_ble_eq_true rfl) (Nat.le_of_ble_eq_true rfl)
theorem pg_112_60 : mm_prog 112 60 = some (0, .ifCond .eq 15, 63, []) := by decide +kernel
theorem xe_112_60 (a0 a1 a2 a3 a4 a5 : Option MV) (x : Int) (st : List MV) (μ : MM) (G : MG) : ev 112 60 [a0, a1, a2, a3, a4, a5] (vI x :: st) μ G = if x = 0 then ev 112 75 [a0, a1, a2, a3, a4, a5] st μ G else ev 112 63 [a0, a1, a2, a3, a4, a5] st μ G := ev_br (mm_cnd_eq x 0) pg_112_60 rfl
theorem pg_112_63 : mm_prog 112 63 = some (0, .aload_n 0, 64, []) := by decide +kernel
theorem xe_112_63 (a1 a2 a3 a4 a5 : Option MV) (x : Int) (st : List MV) (μ : MM) (G : MG) : ev 112 63 [some (vR x), a1, a2, a3, a4, a5] st μ G = ev 112 64 [some (vR x), a1, a2, a3, a4, a5] (vR x :: st) μ G := ev_stp pg_112_63 rfl
theorem pg_112_64 : mm_prog 112 64 = some (0, .getfield 50, 67, [10, 6, 2]) := by decide +kernel
theorem xe_112_64 (a0 a1 a2 a3 a4 a5 : Option MV) (x : Int) (st : List MV) (μ : MM) (G : MG) : ev 112 64 [a0, a1, a2, a3, a4, a5] (vR x :: st) μ G = if gk G x = 10 then ev 112 67 [a0, a1, a2, a3, a4, a5] (vR (μ x 6) :: st) μ G else none := ev_if pg_112_64 rfl
theorem pg_112_67 : mm_prog 112 67 = some (0, .iload 5, 69, []) := by decide +kernel
theorem xe_112_67 (a0 a1 a2 a3 a4 : Option MV) (x : Int) (st : List MV) (μ : MM) (G : MG) : ev 112 67 [a0, a1, a2, a3, a4, some (vI x)] st μ G = ev 112 69 [a0, a1, a2, a3, a4, some (vI x)] (vI x :: st) μ G := ev_stp pg_112_67 rfl
theorem pg_112_69 : mm_prog 112 69 = some (1, .invokevirtual 260, 72, [1, 61, 1, 7]) := by decide +kernel
theorem xe_112_69 (a0 a1 a2 a3 a4 a5 : Option MV) (x0 z : Int) (μ : MM) (G : MG) : ev 112 69 [a0, a1, a2, a3, a4, a5] (vI x0 :: vR z :: []) μ G = if gk G z = 7 ∧ 0 < z then (ev 61 0 [some (vR z), some (vI x0)] [] μ G).bind (fun q => ev 112 72 [a0, a1, a2, a3, a4, a5] (q.1.toList ++ []) q.2.1 q.2.2) else none := ev_calV (as := [vR z, vI x0]) (r := []) mx_61 pg_112_69 rfl rfl (Nat.le_of_ble_eq_true rfl) (Nat.le_of_ble_eq_true rfl)
theorem pg_112_72 : mm_prog 112 72 = some (0, .goto 5, 75, []) := by decide +kernel
theorem xe_112_72 (a0 a1 a2 a3 a4 a5 : Option MV) (st : List MV) (μ : MM) (G : MG) : ev 112 72 [a0, a1, a2, a3, a4, a5] st μ G = ev 112 77 [a0, a1, a2, a3, a4, a5] st μ G := ev_stp pg_112_72 rfl
theorem pg_112_75 : mm_prog 112 75 = some (0, .bipush (-5), 77, []) := by decide +kernel
theorem xe_112_75 (a0 a1 a2 a3 a4 a5 : Option MV) (st : List MV) (μ : MM) (G : MG) : ev 112 75 [a0, a1, a2, a3, a4, a5] st μ G = ev 112 77 [a0, a1, a2, a3, a4, a5] (vI (-5) :: st) μ G := ev_stp pg_112_75 rfl
theorem pg_112_77 : mm_prog 112 77 = some (2, .ireturn, 78, [0]) := by decide +kernel
theorem xe_112_77 (a0 a1 a2 a3 a4 a5 : Option MV) (x : Int) (μ : MM) (G : MG) : ev 112 77 [a0, a1, a2, a3, a4, a5] [vI x] μ G = some (some (vI x), μ, G) := ev_ret pg_112_77 rfl
-- X10_fastest
theorem pg_113_0 : mm_prog 113 0 = some (0, .iload_n 1, 1, []) := by decide +kernel
theorem xe_113_0 (a0 a2 a3 a4 a5 a6 a7 a8 a9 : Option MV) (x : Int) (st : List MV) (μ : MM) (G : MG) : ev 113 0 [a0, some (vI x), a2, a3, a4, a5, a6, a7, a8, a9] st μ G = ev 113 1 [a0, some (vI x), a2, a3, a4, a5, a6, a7, a8, a9] (vI x :: st) μ G := ev_stp pg_113_0 rfl
theorem pg_113_1 : mm_prog 113 1 = some (1, .invokestatic 241, 4, [0, 114, 1, 0]) := by decide +kernel
theorem xe_113_1 (a0 a1 a2 a3 a4 a5 a6 a7 a8 a9 : Option MV) (x0 : Int) (μ : MM) (G : MG) : ev 113 1 [a0, a1, a2, a3, a4, a5, a6, a7, a8, a9] (vI x0 :: []) μ G = (ev 114 0 [some (vI x0)] [] μ G).bind (fun q => ev 113 4 [a0, a1, a2, a3, a4, a5, a6, a7, a8, a9] (q.1.toList ++ []) q.2.1 q.2.2) := ev_calS (as := [vI x0]) (r := []) mx_114 pg_113_1 rfl rfl (Nat.le_of_ble_eq_true rfl) (Nat.le_of_ble_eq_true rfl)
theorem pg_113_4 : mm_prog 113 4 = some (0, .ifCond .ne 6, 7, []) := by decide +kernel
theorem xe_113_4 (a0 a1 a2 a3 a4 a5 a6 a7 a8 a9 : Option MV) (x : Int) (st : List MV) (μ : MM) (G : MG) : ev 113 4 [a0, a1, a2, a3, a4, a5, a6, a7, a8, a9] (vI x :: st) μ G = if ¬ x = 0 then ev 113 10 [a0, a1, a2, a3, a4, a5, a6, a7, a8, a9] st μ G else ev 113 7 [a0, a1, a2, a3, a4, a5, a6, a7, a8, a9] st μ G := ev_br (mm_cnd_ne x 0) pg_113_4 rfl
theorem pg_113_7 : mm_prog 113 7 = some (0, .bipush (-2), 9, []) := by decide +kernel
theorem xe_113_7 (a0 a1 a2 a3 a4 a5 a6 a7 a8 a9 : Option MV) (st : List MV) (μ : MM) (G : MG) : ev 113 7 [a0, a1, a2, a3, a4, a5, a6, a7, a8, a9] st μ G = ev 113 9 [a0, a1, a2, a3, a4, a5, a6, a7, a8, a9] (vI (-2) :: st) μ G := ev_stp pg_113_7 rfl
theorem pg_113_9 : mm_prog 113 9 = some (2, .ireturn, 10, [0]) := by decide +kernel
theorem xe_113_9 (a0 a1 a2 a3 a4 a5 a6 a7 a8 a9 : Option MV) (x : Int) (μ : MM) (G : MG) : ev 113 9 [a0, a1, a2, a3, a4, a5, a6, a7, a8, a9] [vI x] μ G = some (some (vI x), μ, G) := ev_ret pg_113_9 rfl
theorem pg_113_10 : mm_prog 113 10 = some (0, .iload_n 2, 11, []) := by decide +kernel
theorem xe_113_10 (a0 a1 a3 a4 a5 a6 a7 a8 a9 : Option MV) (x : Int) (st : List MV) (μ : MM) (G : MG) : ev 113 10 [a0, a1, some (vI x), a3, a4, a5, a6, a7, a8, a9] st μ G = ev 113 11 [a0, a1, some (vI x), a3, a4, a5, a6, a7, a8, a9] (vI x :: st) μ G := ev_stp pg_113_10 rfl
theorem pg_113_11 : mm_prog 113 11 = some (0, .iload_n 3, 12, []) := by decide +kernel
theorem xe_113_11 (a0 a1 a2 a4 a5 a6 a7 a8 a9 : Option MV) (x : Int) (st : List MV) (μ : MM) (G : MG) : ev 113 11 [a0, a1, a2, some (vI x), a4, a5, a6, a7, a8, a9] st μ G = ev 113 12 [a0, a1, a2, some (vI x), a4, a5, a6, a7, a8, a9] (vI x :: st) μ G := ev_stp pg_113_11 rfl
theorem pg_113_12 : mm_prog 113 12 = some (1, .invokestatic 245, 15, [0, 115, 2, 0]) := by decide +kernel
theorem xe_113_12 (a0 a1 a2 a3 a4 a5 a6 a7 a8 a9 : Option MV) (x0 x1 : Int) (μ : MM) (G : MG) : ev 113 12 [a0, a1, a2, a3, a4, a5, a6, a7, a8, a9] (vI x1 :: vI x0 :: []) μ G = (ev 115 0 [some (vI x0), some (vI x1)] [] μ G).bind (fun q => ev 113 15 [a0, a1, a2, a3, a4, a5, a6, a7, a8, a9] (q.1.toList ++ []) q.2.1 q.2.2) := ev_calS (as := [vI x0, vI x1]) (r := []) mx_115 pg_113_12 rfl rfl (Nat.le_of_ble_eq_true rfl) (Nat.le_of_ble_eq_true rfl)
theorem pg_113_15 : mm_prog 113 15 = some (0, .ifCond .eq 21, 18, []) := by decide +kernel
theorem xe_113_15 (a0 a1 a2 a3 a4 a5 a6 a7 a8 a9 : Option MV) (x : Int) (st : List MV) (μ : MM) (G : MG) : ev 113 15 [a0, a1, a2, a3, a4, a5, a6, a7, a8, a9] (vI x :: st) μ G = if x = 0 then ev 113 36 [a0, a1, a2, a3, a4, a5, a6, a7, a8, a9] st μ G else ev 113 18 [a0, a1, a2, a3, a4, a5, a6, a7, a8, a9] st μ G := ev_br (mm_cnd_eq x 0) pg_113_15 rfl
theorem pg_113_18 : mm_prog 113 18 = some (0, .iload 4, 20, []) := by decide +kernel
theorem xe_113_18 (a0 a1 a2 a3 a5 a6 a7 a8 a9 : Option MV) (x : Int) (st : List MV) (μ : MM) (G : MG) : ev 113 18 [a0, a1, a2, a3, some (vI x), a5, a6, a7, a8, a9] st μ G = ev 113 20 [a0, a1, a2, a3, some (vI x), a5, a6, a7, a8, a9] (vI x :: st) μ G := ev_stp pg_113_18 rfl
theorem pg_113_20 : mm_prog 113 20 = some (0, .iload 5, 22, []) := by decide +kernel
theorem xe_113_20 (a0 a1 a2 a3 a4 a6 a7 a8 a9 : Option MV) (x : Int) (st : List MV) (μ : MM) (G : MG) : ev 113 20 [a0, a1, a2, a3, a4, some (vI x), a6, a7, a8, a9] st μ G = ev 113 22 [a0, a1, a2, a3, a4, some (vI x), a6, a7, a8, a9] (vI x :: st) μ G := ev_stp pg_113_20 rfl
theorem pg_113_22 : mm_prog 113 22 = some (1, .invokestatic 263, 25, [0, 122, 2, 0]) := by decide +kernel
theorem xe_113_22 (a0 a1 a2 a3 a4 a5 a6 a7 a8 a9 : Option MV) (x0 x1 : Int) (μ : MM) (G : MG) : ev 113 22 [a0, a1, a2, a3, a4, a5, a6, a7, a8, a9] (vI x1 :: vI x0 :: []) μ G = (ev 122 0 [some (vI x0), some (vI x1)] [] μ G).bind (fun q => ev 113 25 [a0, a1, a2, a3, a4, a5, a6, a7, a8, a9] (q.1.toList ++ []) q.2.1 q.2.2) := ev_calS (as := [vI x0, vI x1]) (r := []) mx_122 pg_113_22 rfl rfl (Nat.le_of_ble_eq_true rfl) (Nat.le_of_ble_eq_true rfl)
theorem pg_113_25 : mm_prog 113 25 = some (0, .ifCond .eq 11, 28, []) := by decide +kernel
theorem xe_113_25 (a0 a1 a2 a3 a4 a5 a6 a7 a8 a9 : Option MV) (x : Int) (st : List MV) (μ : MM) (G : MG) : ev 113 25 [a0, a1, a2, a3, a4, a5, a6, a7, a8, a9] (vI x :: st) μ G = if x = 0 then ev 113 36 [a0, a1, a2, a3, a4, a5, a6, a7, a8, a9] st μ G else ev 113 28 [a0, a1, a2, a3, a4, a5, a6, a7, a8, a9] st μ G := ev_br (mm_cnd_eq x 0) pg_113_25 rfl
theorem pg_113_28 : mm_prog 113 28 = some (0, .iload 6, 30, []) := by decide +kernel
theorem xe_113_28 (a0 a1 a2 a3 a4 a5 a7 a8 a9 : Option MV) (x : Int) (st : List MV) (μ : MM) (G : MG) : ev 113 28 [a0, a1, a2, a3, a4, a5, some (vI x), a7, a8, a9] st μ G = ev 113 30 [a0, a1, a2, a3, a4, a5, some (vI x), a7, a8, a9] (vI x :: st) μ G := ev_stp pg_113_28 rfl
theorem pg_113_30 : mm_prog 113 30 = some (1, .invokestatic 266, 33, [0, 123, 1, 0]) := by decide +kernel
theorem xe_113_30 (a0 a1 a2 a3 a4 a5 a6 a7 a8 a9 : Option MV) (x0 : Int) (μ : MM) (G : MG) : ev 113 30 [a0, a1, a2, a3, a4, a5, a6, a7, a8, a9] (vI x0 :: []) μ G = (ev 123 0 [some (vI x0)] [] μ G).bind (fun q => ev 113 33 [a0, a1, a2, a3, a4, a5, a6, a7, a8, a9] (q.1.toList ++ []) q.2.1 q.2.2) := ev_calS (as := [vI x0]) (r := []) mx_123 pg_113_30 rfl rfl (Nat.le_of_ble_eq_true rfl) (Nat.le_of_ble_eq_true rfl)
theorem pg_113_33 : mm_prog 113 33 = some (0, .ifCond .ne 6, 36, []) := by decide +kernel
theorem xe_113_33 (a0 a1 a2 a3 a4 a5 a6 a7 a8 a9 : Option MV) (x : Int) (st : List MV) (μ : MM) (G : MG) : ev 113 33 [a0, a1, a2, a3, a4, a5, a6, a7, a8, a9] (vI x :: st) μ G = if ¬ x = 0 then ev 113 39 [a0, a1, a2, a3, a4, a5, a6, a7, a8, a9] st μ G else ev 113 36 [a0, a1, a2, a3, a4, a5, a6, a7, a8, a9] st μ G := ev_br (mm_cnd_ne x 0) pg_113_33 rfl
theorem pg_113_36 : mm_prog 113 36 = some (0, .bipush (-3), 38, []) := by decide +kernel
theorem xe_113_36 (a0 a1 a2 a3 a4 a5 a6 a7 a8 a9 : Option MV) (st : List MV) (μ : MM) (G : MG) : ev 113 36 [a0, a1, a2, a3, a4, a5, a6, a7, a8, a9] st μ G = ev 113 38 [a0, a1, a2, a3, a4, a5, a6, a7, a8, a9] (vI (-3) :: st) μ G := ev_stp pg_113_36 rfl
theorem pg_113_38 : mm_prog 113 38 = some (2, .ireturn, 39, [0]) := by decide +kernel
theorem xe_113_38 (a0 a1 a2 a3 a4 a5 a6 a7 a8 a9 : Option MV) (x : Int) (μ : MM) (G : MG) : ev 113 38 [a0, a1, a2, a3, a4, a5, a6, a7, a8, a9] [vI x] μ G = some (some (vI x), μ, G) := ev_ret pg_113_38 rfl
theorem pg_113_39 : mm_prog 113 39 = some (0, .iload 4, 41, []) := by decide +kernel
theorem xe_113_39 (a0 a1 a2 a3 a5 a6 a7 a8 a9 : Option MV) (x : Int) (st : List MV) (μ : MM) (G : MG) : ev 113 39 [a0, a1, a2, a3, some (vI x), a5, a6, a7, a8, a9] st μ G = ev 113 41 [a0, a1, a2, a3, some (vI x), a5, a6, a7, a8, a9] (vI x :: st) μ G := ev_stp pg_113_39 rfl
theorem pg_113_41 : mm_prog 113 41 = some (0, .iload 5, 43, []) := by decide +kernel
theorem xe_113_41 (a0 a1 a2 a3 a4 a6 a7 a8 a9 : Option MV) (x : Int) (st : List MV) (μ : MM) (G : MG) : ev 113 41 [a0, a1, a2, a3, a4, some (vI x), a6, a7, a8, a9] st μ G = ev 113 43 [a0, a1, a2, a3, a4, some (vI x), a6, a7, a8, a9] (vI x :: st) μ G := ev_stp pg_113_41 rfl
theorem pg_113_43 : mm_prog 113 43 = some (1, .invokestatic 269, 46, [0, 124, 2, 0]) := by decide +kernel
theorem xe_113_43 (a0 a1 a2 a3 a4 a5 a6 a7 a8 a9 : Option MV) (x0 x1 : Int) (μ : MM) (G : MG) : ev 113 43 [a0, a1, a2, a3, a4, a5, a6, a7, a8, a9] (vI x1 :: vI x0 :: []) μ G = (ev 124 0 [some (vI x0), some (vI x1)] [] μ G).bind (fun q => ev 113 46 [a0, a1, a2, a3, a4, a5, a6, a7, a8, a9] (q.1.toList ++ []) q.2.1 q.2.2) := ev_calS (as := [vI x0, vI x1]) (r := []) mx_124 pg_113_43 rfl rfl (Nat.le_of_ble_eq_true rfl) (Nat.le_of_ble_eq_true rfl)
theorem pg_113_46 : mm_prog 113 46 = some (0, .i2l, 47, []) := by decide +kernel
theorem xe_113_46 (a0 a1 a2 a3 a4 a5 a6 a7 a8 a9 : Option MV) (x : Int) (st : List MV) (μ : MM) (G : MG) : ev 113 46 [a0, a1, a2, a3, a4, a5, a6, a7, a8, a9] (vI x :: st) μ G = ev 113 47 [a0, a1, a2, a3, a4, a5, a6, a7, a8, a9] (vL x :: st) μ G := ev_stp pg_113_46 rfl
theorem pg_113_47 : mm_prog 113 47 = some (0, .lstore 7, 49, []) := by decide +kernel
theorem xe_113_47 (a0 a1 a2 a3 a4 a5 a6 a7 a8 a9 : Option MV) (x : Int) (st : List MV) (μ : MM) (G : MG) (h : mm_nL a6 = true) : ev 113 47 [a0, a1, a2, a3, a4, a5, a6, a7, a8, a9] (vL x :: st) μ G = ev 113 49 [a0, a1, a2, a3, a4, a5, a6, some (vL x), none, a9] st μ G := ev_st pg_113_47 rfl (mm_nl_of h) (Nat.le_of_ble_eq_true rfl)
theorem pg_113_49 : mm_prog 113 49 = some (0, .sipush 240, 52, []) := by decide +kernel
theorem xe_113_49 (a0 a1 a2 a3 a4 a5 a6 a7 a8 a9 : Option MV) (st : List MV) (μ : MM) (G : MG) : ev 113 49 [a0, a1, a2, a3, a4, a5, a6, a7, a8, a9] st μ G = ev 113 52 [a0, a1, a2, a3, a4, a5, a6, a7, a8, a9] (vI (240) :: st) μ G := ev_stp pg_113_49 rfl
theorem pg_113_52 : mm_prog 113 52 = some (0, .istore 9, 54, []) := by decide +kernel
theorem xe_113_52 (a0 a1 a2 a3 a4 a5 a6 a7 a8 a9 : Option MV) (x : Int) (st : List MV) (μ : MM) (G : MG) (h : mm_nL a8 = true) : ev 113 52 [a0, a1, a2, a3, a4, a5, a6, a7, a8, a9] (vI x :: st) μ G = ev 113 54 [a0, a1, a2, a3, a4, a5, a6, a7, a8, some (vI x)] st μ G := ev_st pg_113_52 rfl (mm_nl_of h) (Nat.le_of_ble_eq_true rfl)
theorem pg_113_54 : mm_prog 113 54 = some (0, .iload 9, 56, []) := by decide +kernel
theorem xe_113_54 (a0 a1 a2 a3 a4 a5 a6 a7 a8 : Option MV) (x : Int) (st : List MV) (μ : MM) (G : MG) : ev 113 54 [a0, a1, a2, a3, a4, a5, a6, a7, a8, some (vI x)] st μ G = ev 113 56 [a0, a1, a2, a3, a4, a5, a6, a7, a8, some (vI x)] (vI x :: st) μ G := ev_stp pg_113_54 rfl
theorem pg_113_56 : mm_prog 113 56 = some (0, .bipush 20, 58, []) := by decide +kernel
theorem xe_113_56 (a0 a1 a2 a3 a4 a5 a6 a7 a8 a9 : Option MV) (st : List MV) (μ : MM) (G : MG) : ev 113 56 [a0, a1, a2, a3, a4, a5, a6, a7, a8, a9] st μ G = ev 113 58 [a0, a1, a2, a3, a4, a5, a6, a7, a8, a9] (vI (20) :: st) μ G := ev_stp pg_113_56 rfl
theorem pg_113_58 : mm_prog 113 58 = some (0, .if_icmp .lt 42, 61, []) := by decide +kernel
theorem xe_113_58 (a0 a1 a2 a3 a4 a5 a6 a7 a8 a9 : Option MV) (x y : Int) (st : List MV) (μ : MM) (G : MG) : ev 113 58 [a0, a1, a2, a3, a4, a5, a6, a7, a8, a9] (vI y :: vI x :: st) μ G = if x < y then ev 113 100 [a0, a1, a2, a3, a4, a5, a6, a7, a8, a9] st μ G else ev 113 61 [a0, a1, a2, a3, a4, a5, a6, a7, a8, a9] st μ G := ev_br (mm_cnd_lt x y) pg_113_58 rfl
theorem pg_113_61 : mm_prog 113 61 = some (0, .aload_n 0, 62, []) := by decide +kernel
theorem xe_113_61 (a1 a2 a3 a4 a5 a6 a7 a8 a9 : Option MV) (x : Int) (st : List MV) (μ : MM) (G : MG) : ev 113 61 [some (vR x), a1, a2, a3, a4, a5, a6, a7, a8, a9] st μ G = ev 113 62 [some (vR x), a1, a2, a3, a4, a5, a6, a7, a8, a9] (vR x :: st) μ G := ev_stp pg_113_61 rfl
theorem pg_113_62 : mm_prog 113 62 = some (0, .getfield 50, 65, [10, 6, 2]) := by decide +kernel
theorem xe_113_62 (a0 a1 a2 a3 a4 a5 a6 a7 a8 a9 : Option MV) (x : Int) (st : List MV) (μ : MM) (G : MG) : ev 113 62 [a0, a1, a2, a3, a4, a5, a6, a7, a8, a9] (vR x :: st) μ G = if gk G x = 10 then ev 113 65 [a0, a1, a2, a3, a4, a5, a6, a7, a8, a9] (vR (μ x 6) :: st) μ G else none := ev_if pg_113_62 rfl
theorem pg_113_65 : mm_prog 113 65 = some (0, .iload_n 1, 66, []) := by decide +kernel
theorem xe_113_65 (a0 a2 a3 a4 a5 a6 a7 a8 a9 : Option MV) (x : Int) (st : List MV) (μ : MM) (G : MG) : ev 113 65 [a0, some (vI x), a2, a3, a4, a5, a6, a7, a8, a9] st μ G = ev 113 66 [a0, some (vI x), a2, a3, a4, a5, a6, a7, a8, a9] (vI x :: st) μ G := ev_stp pg_113_65 rfl
theorem pg_113_66 : mm_prog 113 66 = some (0, .iload_n 2, 67, []) := by decide +kernel
theorem xe_113_66 (a0 a1 a3 a4 a5 a6 a7 a8 a9 : Option MV) (x : Int) (st : List MV) (μ : MM) (G : MG) : ev 113 66 [a0, a1, some (vI x), a3, a4, a5, a6, a7, a8, a9] st μ G = ev 113 67 [a0, a1, some (vI x), a3, a4, a5, a6, a7, a8, a9] (vI x :: st) μ G := ev_stp pg_113_66 rfl
theorem pg_113_67 : mm_prog 113 67 = some (0, .iload_n 3, 68, []) := by decide +kernel
theorem xe_113_67 (a0 a1 a2 a4 a5 a6 a7 a8 a9 : Option MV) (x : Int) (st : List MV) (μ : MM) (G : MG) : ev 113 67 [a0, a1, a2, some (vI x), a4, a5, a6, a7, a8, a9] st μ G = ev 113 68 [a0, a1, a2, some (vI x), a4, a5, a6, a7, a8, a9] (vI x :: st) μ G := ev_stp pg_113_67 rfl
theorem pg_113_68 : mm_prog 113 68 = some (0, .iload 9, 70, []) := by decide +kernel
theorem xe_113_68 (a0 a1 a2 a3 a4 a5 a6 a7 a8 : Option MV) (x : Int) (st : List MV) (μ : MM) (G : MG) : ev 113 68 [a0, a1, a2, a3, a4, a5, a6, a7, a8, some (vI x)] st μ G = ev 113 70 [a0, a1, a2, a3, a4, a5, a6, a7, a8, some (vI x)] (vI x :: st) μ G := ev_stp pg_113_68 rfl
theorem pg_113_70 : mm_prog 113 70 = some (1, .invokevirtual 252, 73, [1, 62, 4, 7]) := by decide +kernel
theorem xe_113_70 (a0 a1 a2 a3 a4 a5 a6 a7 a8 a9 : Option MV) (x0 x1 x2 x3 z : Int) (μ : MM) (G : MG) : ev 113 70 [a0, a1, a2, a3, a4, a5, a6, a7, a8, a9] (vI x3 :: vI x2 :: vI x1 :: vI x0 :: vR z :: []) μ G = if gk G z = 7 ∧ 0 < z then (ev 62 0 [some (vR z), some (vI x0), some (vI x1), some (vI x2), some (vI x3), none] [] μ G).bind (fun q => ev 113 73 [a0, a1, a2, a3, a4, a5, a6, a7, a8, a9] (q.1.toList ++ []) q.2.1 q.2.2) else none := ev_calV (as := [vR z, vI x0, vI x1, vI x2, vI x3]) (r := []) mx_62 pg_113_70 rfl rfl (Nat.le_of_ble_eq_true rfl) (Nat.le_of_ble_eq_true rfl)
theorem pg_113_73 : mm_prog 113 73 = some (0, .aload_n 0, 74, []) := by decide +kernel
theorem xe_113_73 (a1 a2 a3 a4 a5 a6 a7 a8 a9 : Option MV) (x : Int) (st : List MV) (μ : MM) (G : MG) : ev 113 73 [some (vR x), a1, a2, a3, a4, a5, a6, a7, a8, a9] st μ G = ev 113 74 [some (vR x), a1, a2, a3, a4, a5, a6, a7, a8, a9] (vR x :: st) μ G := ev_stp pg_113_73 rfl
theorem pg_113_74 : mm_prog 113 74 = some (0, .getfield 50, 77, [10, 6, 2]) := by decide +kernel
theorem xe_113_74 (a0 a1 a2 a3 a4 a5 a6 a7 a8 a9 : Option MV) (x : Int) (st : List MV) (μ : MM) (G : MG) : ev 113 74 [a0, a1, a2, a3, a4, a5, a6, a7, a8, a9] (vR x :: st) μ G = if gk G x = 10 then ev 113 77 [a0, a1, a2, a3, a4, a5, a6, a7, a8, a9] (vR (μ x 6) :: st) μ G else none := ev_if pg_113_74 rfl
theorem pg_113_77 : mm_prog 113 77 = some (0, .getfield 202, 80, [7, 0, 0]) := by decide +kernel
theorem xe_113_77 (a0 a1 a2 a3 a4 a5 a6 a7 a8 a9 : Option MV) (x : Int) (st : List MV) (μ : MM) (G : MG) : ev 113 77 [a0, a1, a2, a3, a4, a5, a6, a7, a8, a9] (vR x :: st) μ G = if gk G x = 7 then ev 113 80 [a0, a1, a2, a3, a4, a5, a6, a7, a8, a9] (vI (μ x 0) :: st) μ G else none := ev_if pg_113_77 rfl
theorem pg_113_80 : mm_prog 113 80 = some (0, .iload 6, 82, []) := by decide +kernel
theorem xe_113_80 (a0 a1 a2 a3 a4 a5 a7 a8 a9 : Option MV) (x : Int) (st : List MV) (μ : MM) (G : MG) : ev 113 80 [a0, a1, a2, a3, a4, a5, some (vI x), a7, a8, a9] st μ G = ev 113 82 [a0, a1, a2, a3, a4, a5, some (vI x), a7, a8, a9] (vI x :: st) μ G := ev_stp pg_113_80 rfl
theorem pg_113_82 : mm_prog 113 82 = some (1, .invokestatic 273, 85, [0, 125, 2, 0]) := by decide +kernel
theorem xe_113_82 (a0 a1 a2 a3 a4 a5 a6 a7 a8 a9 : Option MV) (x0 x1 : Int) (μ : MM) (G : MG) : ev 113 82 [a0, a1, a2, a3, a4, a5, a6, a7, a8, a9] (vI x1 :: vI x0 :: []) μ G = (ev 125 0 [some (vI x0), some (vI x1)] [] μ G).bind (fun q => ev 113 85 [a0, a1, a2, a3, a4, a5, a6, a7, a8, a9] (q.1.toList ++ []) q.2.1 q.2.2) := ev_calS (as := [vI x0, vI x1]) (r := []) mx_125 pg_113_82 rfl rfl (Nat.le_of_ble_eq_true rfl) (Nat.le_of_ble_eq_true rfl)
theorem pg_113_85 : mm_prog 113 85 = some (0, .lload 7, 87, []) := by decide +kernel
theorem xe_113_85 (a0 a1 a2 a3 a4 a5 a6 a8 a9 : Option MV) (x : Int) (st : List MV) (μ : MM) (G : MG) : ev 113 85 [a0, a1, a2, a3, a4, a5, a6, some (vL x), a8, a9] st μ G = ev 113 87 [a0, a1, a2, a3, a4, a5, a6, some (vL x), a8, a9] (vL x :: st) μ G := ev_stp pg_113_85 rfl
theorem pg_113_87 : mm_prog 113 87 = some (0, .lcmp, 88, []) := by decide +kernel
theorem xe_113_87 (a0 a1 a2 a3 a4 a5 a6 a7 a8 a9 : Option MV) (x y : Int) (st : List MV) (μ : MM) (G : MG) : ev 113 87 [a0, a1, a2, a3, a4, a5, a6, a7, a8, a9] (vL y :: vL x :: st) μ G = ev 113 88 [a0, a1, a2, a3, a4, a5, a6, a7, a8, a9] (vI (mm_cmp x y) :: st) μ G := ev_stp pg_113_87 rfl
theorem pg_113_88 : mm_prog 113 88 = some (0, .ifCond .gt 6, 91, []) := by decide +kernel
theorem xe_113_88 (a0 a1 a2 a3 a4 a5 a6 a7 a8 a9 : Option MV) (x : Int) (st : List MV) (μ : MM) (G : MG) : ev 113 88 [a0, a1, a2, a3, a4, a5, a6, a7, a8, a9] (vI x :: st) μ G = if 0 < x then ev 113 94 [a0, a1, a2, a3, a4, a5, a6, a7, a8, a9] st μ G else ev 113 91 [a0, a1, a2, a3, a4, a5, a6, a7, a8, a9] st μ G := ev_br (mm_cnd_gt x 0) pg_113_88 rfl
theorem pg_113_91 : mm_prog 113 91 = some (0, .iload 9, 93, []) := by decide +kernel
theorem xe_113_91 (a0 a1 a2 a3 a4 a5 a6 a7 a8 : Option MV) (x : Int) (st : List MV) (μ : MM) (G : MG) : ev 113 91 [a0, a1, a2, a3, a4, a5, a6, a7, a8, some (vI x)] st μ G = ev 113 93 [a0, a1, a2, a3, a4, a5, a6, a7, a8, some (vI x)] (vI x :: st) μ G := ev_stp pg_113_91 rfl
theorem pg_113_93 : mm_prog 113 93 = some (2, .ireturn, 94, [0]) := by decide +kernel
theorem xe_113_93 (a0 a1 a2 a3 a4 a5 a6 a7 a8 a9 : Option MV) (x : Int) (μ : MM) (G : MG) : ev 113 93 [a0, a1, a2, a3, a4, a5, a6, a7, a8, a9] [vI x] μ G = some (some (vI x), μ, G) := ev_ret pg_113_93 rfl
theorem pg_113_94 : mm_prog 113 94 = some (0, .iinc 9 (-1), 97, []) := by decide +kernel
theorem xe_113_94 (a0 a1 a2 a3 a4 a5 a6 a7 a8 : Option MV) (x : Int) (st : List MV) (μ : MM) (G : MG) (h : mm_nL a8 = true) : ev 113 94 [a0, a1, a2, a3, a4, a5, a6, a7, a8, some (vI x)] st μ G = ev 113 97 [a0, a1, a2, a3, a4, a5, a6, a7, a8, some (vI (w32 (x + (-1))))] st μ G := ev_st pg_113_94 rfl (mm_nl_of h) (Nat.le_of_ble_eq_true rfl)
theorem pg_113_97 : mm_prog 113 97 = some (0, .goto (-43), 100, []) := by decide +kernel
theorem xe_113_97 (a0 a1 a2 a3 a4 a5 a6 a7 a8 a9 : Option MV) (st : List MV) (μ : MM) (G : MG) : ev 113 97 [a0, a1, a2, a3, a4, a5, a6, a7, a8, a9] st μ G = ev 113 54 [a0, a1, a2, a3, a4, a5, a6, a7, a8, a9] st μ G := ev_stp pg_113_97 rfl
theorem pg_113_100 : mm_prog 113 100 = some (0, .iconst (-1), 101, []) := by decide +kernel
theorem xe_113_100 (a0 a1 a2 a3 a4 a5 a6 a7 a8 a9 : Option MV) (st : List MV) (μ : MM) (G : MG) : ev 113 100 [a0, a1, a2, a3, a4, a5, a6, a7, a8, a9] st μ G = ev 113 101 [a0, a1, a2, a3, a4, a5, a6, a7, a8, a9] (vI (-1) :: st) μ G := ev_stp pg_113_100 rfl
theorem pg_113_101 : mm_prog 113 101 = some (2, .ireturn, 102, [0]) := by decide +kernel
theorem xe_113_101 (a0 a1 a2 a3 a4 a5 a6 a7 a8 a9 : Option MV) (x : Int) (μ : MM) (G : MG) : ev 113 101 [a0, a1, a2, a3, a4, a5, a6, a7, a8, a9] [vI x] μ G = some (some (vI x), μ, G) := ev_ret pg_113_101 rfl
-- X10_isFormula
theorem pg_114_0 : mm_prog 114 0 = some (0, .iload_n 0, 1, []) := by decide +kernel
theorem xe_114_0 (x : Int) (st : List MV) (μ : MM) (G : MG) : ev 114 0 [some (vI x)] st μ G = ev 114 1 [some (vI x)] (vI x :: st) μ G := ev_stp pg_114_0 rfl
theorem pg_114_1 : mm_prog 114 1 = some (0, .ifCond .eq 8, 4, []) := by decide +kernel
theorem xe_114_1 (a0 : Option MV) (x : Int) (st : List MV) (μ : MM) (G : MG) : ev 114 1 [a0] (vI x :: st) μ G = if x = 0 then ev 114 9 [a0] st μ G else ev 114 4 [a0] st μ G := ev_br (mm_cnd_eq x 0) pg_114_1 rfl
theorem pg_114_4 : mm_prog 114 4 = some (0, .iload_n 0, 5, []) := by decide +kernel
theorem xe_114_4 (x : Int) (st : List MV) (μ : MM) (G : MG) : ev 114 4 [some (vI x)] st μ G = ev 114 5 [some (vI x)] (vI x :: st) μ G := ev_stp pg_114_4 rfl
theorem pg_114_5 : mm_prog 114 5 = some (0, .iconst 1, 6, []) := by decide +kernel
theorem xe_114_5 (a0 : Option MV) (st : List MV) (μ : MM) (G : MG) : ev 114 5 [a0] st μ G = ev 114 6 [a0] (vI (1) :: st) μ G := ev_stp pg_114_5 rfl
theorem pg_114_6 : mm_prog 114 6 = some (0, .if_icmp .ne 7, 9, []) := by decide +kernel
theorem xe_114_6 (a0 : Option MV) (x y : Int) (st : List MV) (μ : MM) (G : MG) : ev 114 6 [a0] (vI y :: vI x :: st) μ G = if ¬ x = y then ev 114 13 [a0] st μ G else ev 114 9 [a0] st μ G := ev_br (mm_cnd_ne x y) pg_114_6 rfl
theorem pg_114_9 : mm_prog 114 9 = some (0, .iconst 1, 10, []) := by decide +kernel
theorem xe_114_9 (a0 : Option MV) (st : List MV) (μ : MM) (G : MG) : ev 114 9 [a0] st μ G = ev 114 10 [a0] (vI (1) :: st) μ G := ev_stp pg_114_9 rfl
theorem pg_114_10 : mm_prog 114 10 = some (0, .goto 4, 13, []) := by decide +kernel
theorem xe_114_10 (a0 : Option MV) (st : List MV) (μ : MM) (G : MG) : ev 114 10 [a0] st μ G = ev 114 14 [a0] st μ G := ev_stp pg_114_10 rfl
theorem pg_114_13 : mm_prog 114 13 = some (0, .iconst 0, 14, []) := by decide +kernel
theorem xe_114_13 (a0 : Option MV) (st : List MV) (μ : MM) (G : MG) : ev 114 13 [a0] st μ G = ev 114 14 [a0] (vI (0) :: st) μ G := ev_stp pg_114_13 rfl
theorem pg_114_14 : mm_prog 114 14 = some (2, .ireturn, 15, [1]) := by decide +kernel
theorem xe_114_14 (a0 : Option MV) (x : Int) (μ : MM) (G : MG) : ev 114 14 [a0] [vI x] μ G = if x = 0 ∨ x = 1 then some (some (vI x), μ, G) else none := ev_retB pg_114_14
-- X10_isSize
theorem pg_115_0 : mm_prog 115 0 = some (0, .iload_n 0, 1, []) := by decide +kernel
theorem xe_115_0 (a1 : Option MV) (x : Int) (st : List MV) (μ : MM) (G : MG) : ev 115 0 [some (vI x), a1] st μ G = ev 115 1 [some (vI x), a1] (vI x :: st) μ G := ev_stp pg_115_0 rfl
theorem pg_115_1 : mm_prog 115 1 = some (0, .bipush 64, 3, []) := by decide +kernel
theorem xe_115_1 (a0 a1 : Option MV) (st : List MV) (μ : MM) (G : MG) : ev 115 1 [a0, a1] st μ G = ev 115 3 [a0, a1] (vI (64) :: st) μ G := ev_stp pg_115_1 rfl
theorem pg_115_3 : mm_prog 115 3 = some (0, .if_icmp .lt 27, 6, []) := by decide +kernel
theorem xe_115_3 (a0 a1 : Option MV) (x y : Int) (st : List MV) (μ : MM) (G : MG) : ev 115 3 [a0, a1] (vI y :: vI x :: st) μ G = if x < y then ev 115 30 [a0, a1] st μ G else ev 115 6 [a0, a1] st μ G := ev_br (mm_cnd_lt x y) pg_115_3 rfl
theorem pg_115_6 : mm_prog 115 6 = some (0, .iload_n 0, 7, []) := by decide +kernel
theorem xe_115_6 (a1 : Option MV) (x : Int) (st : List MV) (μ : MM) (G : MG) : ev 115 6 [some (vI x), a1] st μ G = ev 115 7 [some (vI x), a1] (vI x :: st) μ G := ev_stp pg_115_6 rfl
theorem pg_115_7 : mm_prog 115 7 = some (0, .sipush 4095, 10, []) := by decide +kernel
theorem xe_115_7 (a0 a1 : Option MV) (st : List MV) (μ : MM) (G : MG) : ev 115 7 [a0, a1] st μ G = ev 115 10 [a0, a1] (vI (4095) :: st) μ G := ev_stp pg_115_7 rfl
theorem pg_115_10 : mm_prog 115 10 = some (0, .if_icmp .gt 20, 13, []) := by decide +kernel
theorem xe_115_10 (a0 a1 : Option MV) (x y : Int) (st : List MV) (μ : MM) (G : MG) : ev 115 10 [a0, a1] (vI y :: vI x :: st) μ G = if y < x then ev 115 30 [a0, a1] st μ G else ev 115 13 [a0, a1] st μ G := ev_br (mm_cnd_gt x y) pg_115_10 rfl
theorem pg_115_13 : mm_prog 115 13 = some (0, .iload_n 1, 14, []) := by decide +kernel
theorem xe_115_13 (a0 : Option MV) (x : Int) (st : List MV) (μ : MM) (G : MG) : ev 115 13 [a0, some (vI x)] st μ G = ev 115 14 [a0, some (vI x)] (vI x :: st) μ G := ev_stp pg_115_13 rfl
theorem pg_115_14 : mm_prog 115 14 = some (0, .bipush 48, 16, []) := by decide +kernel
theorem xe_115_14 (a0 a1 : Option MV) (st : List MV) (μ : MM) (G : MG) : ev 115 14 [a0, a1] st μ G = ev 115 16 [a0, a1] (vI (48) :: st) μ G := ev_stp pg_115_14 rfl
theorem pg_115_16 : mm_prog 115 16 = some (0, .if_icmp .lt 14, 19, []) := by decide +kernel
theorem xe_115_16 (a0 a1 : Option MV) (x y : Int) (st : List MV) (μ : MM) (G : MG) : ev 115 16 [a0, a1] (vI y :: vI x :: st) μ G = if x < y then ev 115 30 [a0, a1] st μ G else ev 115 19 [a0, a1] st μ G := ev_br (mm_cnd_lt x y) pg_115_16 rfl
theorem pg_115_19 : mm_prog 115 19 = some (0, .iload_n 1, 20, []) := by decide +kernel
theorem xe_115_19 (a0 : Option MV) (x : Int) (st : List MV) (μ : MM) (G : MG) : ev 115 19 [a0, some (vI x)] st μ G = ev 115 20 [a0, some (vI x)] (vI x :: st) μ G := ev_stp pg_115_19 rfl
theorem pg_115_20 : mm_prog 115 20 = some (0, .sipush 4095, 23, []) := by decide +kernel
theorem xe_115_20 (a0 a1 : Option MV) (st : List MV) (μ : MM) (G : MG) : ev 115 20 [a0, a1] st μ G = ev 115 23 [a0, a1] (vI (4095) :: st) μ G := ev_stp pg_115_20 rfl
theorem pg_115_23 : mm_prog 115 23 = some (0, .if_icmp .gt 7, 26, []) := by decide +kernel
theorem xe_115_23 (a0 a1 : Option MV) (x y : Int) (st : List MV) (μ : MM) (G : MG) : ev 115 23 [a0, a1] (vI y :: vI x :: st) μ G = if y < x then ev 115 30 [a0, a1] st μ G else ev 115 26 [a0, a1] st μ G := ev_br (mm_cnd_gt x y) pg_115_23 rfl
theorem pg_115_26 : mm_prog 115 26 = some (0, .iconst 1, 27, []) := by decide +kernel
theorem xe_115_26 (a0 a1 : Option MV) (st : List MV) (μ : MM) (G : MG) : ev 115 26 [a0, a1] st μ G = ev 115 27 [a0, a1] (vI (1) :: st) μ G := ev_stp pg_115_26 rfl
theorem pg_115_27 : mm_prog 115 27 = some (0, .goto 4, 30, []) := by decide +kernel
theorem xe_115_27 (a0 a1 : Option MV) (st : List MV) (μ : MM) (G : MG) : ev 115 27 [a0, a1] st μ G = ev 115 31 [a0, a1] st μ G := ev_stp pg_115_27 rfl
theorem pg_115_30 : mm_prog 115 30 = some (0, .iconst 0, 31, []) := by decide +kernel
theorem xe_115_30 (a0 a1 : Option MV) (st : List MV) (μ : MM) (G : MG) : ev 115 30 [a0, a1] st μ G = ev 115 31 [a0, a1] (vI (0) :: st) μ G := ev_stp pg_115_30 rfl
theorem pg_115_31 : mm_prog 115 31 = some (2, .ireturn, 32, [1]) := by decide +kernel
theorem xe_115_31 (a0 a1 : Option MV) (x : Int) (μ : MM) (G : MG) : ev 115 31 [a0, a1] [vI x] μ G = if x = 0 ∨ x = 1 then some (some (vI x), μ, G) else none := ev_retB pg_115_31
-- X10_isHertz
theorem pg_116_0 : mm_prog 116 0 = some (0, .iload_n 0, 1, []) := by decide +kernel
theorem xe_116_0 (x : Int) (st : List MV) (μ : MM) (G : MG) : ev 116 0 [some (vI x)] st μ G = ev 116 1 [some (vI x)] (vI x :: st) μ G := ev_stp pg_116_0 rfl
theorem pg_116_1 : mm_prog 116 1 = some (0, .bipush 20, 3, []) := by decide +kernel
theorem xe_116_1 (a0 : Option MV) (st : List MV) (μ : MM) (G : MG) : ev 116 1 [a0] st μ G = ev 116 3 [a0] (vI (20) :: st) μ G := ev_stp pg_116_1 rfl
theorem pg_116_3 : mm_prog 116 3 = some (0, .if_icmp .lt 14, 6, []) := by decide +kernel
theorem xe_116_3 (a0 : Option MV) (x y : Int) (st : List MV) (μ : MM) (G : MG) : ev 116 3 [a0] (vI y :: vI x :: st) μ G = if x < y then ev 116 17 [a0] st μ G else ev 116 6 [a0] st μ G := ev_br (mm_cnd_lt x y) pg_116_3 rfl
theorem pg_116_6 : mm_prog 116 6 = some (0, .iload_n 0, 7, []) := by decide +kernel
theorem xe_116_6 (x : Int) (st : List MV) (μ : MM) (G : MG) : ev 116 6 [some (vI x)] st μ G = ev 116 7 [some (vI x)] (vI x :: st) μ G := ev_stp pg_116_6 rfl
theorem pg_116_7 : mm_prog 116 7 = some (0, .sipush 240, 10, []) := by decide +kernel
theorem xe_116_7 (a0 : Option MV) (st : List MV) (μ : MM) (G : MG) : ev 116 7 [a0] st μ G = ev 116 10 [a0] (vI (240) :: st) μ G := ev_stp pg_116_7 rfl
theorem pg_116_10 : mm_prog 116 10 = some (0, .if_icmp .gt 7, 13, []) := by decide +kernel
theorem xe_116_10 (a0 : Option MV) (x y : Int) (st : List MV) (μ : MM) (G : MG) : ev 116 10 [a0] (vI y :: vI x :: st) μ G = if y < x then ev 116 17 [a0] st μ G else ev 116 13 [a0] st μ G := ev_br (mm_cnd_gt x y) pg_116_10 rfl
theorem pg_116_13 : mm_prog 116 13 = some (0, .iconst 1, 14, []) := by decide +kernel
theorem xe_116_13 (a0 : Option MV) (st : List MV) (μ : MM) (G : MG) : ev 116 13 [a0] st μ G = ev 116 14 [a0] (vI (1) :: st) μ G := ev_stp pg_116_13 rfl
theorem pg_116_14 : mm_prog 116 14 = some (0, .goto 4, 17, []) := by decide +kernel
theorem xe_116_14 (a0 : Option MV) (st : List MV) (μ : MM) (G : MG) : ev 116 14 [a0] st μ G = ev 116 18 [a0] st μ G := ev_stp pg_116_14 rfl
theorem pg_116_17 : mm_prog 116 17 = some (0, .iconst 0, 18, []) := by decide +kernel
theorem xe_116_17 (a0 : Option MV) (st : List MV) (μ : MM) (G : MG) : ev 116 17 [a0] st μ G = ev 116 18 [a0] (vI (0) :: st) μ G := ev_stp pg_116_17 rfl
theorem pg_116_18 : mm_prog 116 18 = some (2, .ireturn, 19, [1]) := by decide +kernel
theorem xe_116_18 (a0 : Option MV) (x : Int) (μ : MM) (G : MG) : ev 116 18 [a0] [vI x] μ G = if x = 0 ∨ x = 1 then some (some (vI x), μ, G) else none := ev_retB pg_116_18
-- X10_wish
theorem pg_117_0 : mm_prog 117 0 = some (0, .iload_n 1, 1, []) := by decide +kernel
theorem xe_117_0 (a0 a2 : Option MV) (x : Int) (st : List MV) (μ : MM) (G : MG) : ev 117 0 [a0, some (vI x), a2] st μ G = ev 117 1 [a0, some (vI x), a2] (vI x :: st) μ G := ev_stp pg_117_0 rfl
theorem pg_117_1 : mm_prog 117 1 = some (1, .invokestatic 266, 4, [0, 123, 1, 0]) := by decide +kernel
theorem xe_117_1 (a0 a1 a2 : Option MV) (x0 : Int) (μ : MM) (G : MG) : ev 117 1 [a0, a1, a2] (vI x0 :: []) μ G = (ev 123 0 [some (vI x0)] [] μ G).bind (fun q => ev 117 4 [a0, a1, a2] (q.1.toList ++ []) q.2.1 q.2.2) := ev_calS (as := [vI x0]) (r := []) mx_123 pg_117_1 rfl rfl (Nat.le_of_ble_eq_true rfl) (Nat.le_of_ble_eq_true rfl)
theorem pg_117_4 : mm_prog 117 4 = some (0, .ifCond .ne 6, 7, []) := by decide +kernel
theorem xe_117_4 (a0 a1 a2 : Option MV) (x : Int) (st : List MV) (μ : MM) (G : MG) : ev 117 4 [a0, a1, a2] (vI x :: st) μ G = if ¬ x = 0 then ev 117 10 [a0, a1, a2] st μ G else ev 117 7 [a0, a1, a2] st μ G := ev_br (mm_cnd_ne x 0) pg_117_4 rfl
theorem pg_117_7 : mm_prog 117 7 = some (0, .bipush (-3), 9, []) := by decide +kernel
theorem xe_117_7 (a0 a1 a2 : Option MV) (st : List MV) (μ : MM) (G : MG) : ev 117 7 [a0, a1, a2] st μ G = ev 117 9 [a0, a1, a2] (vI (-3) :: st) μ G := ev_stp pg_117_7 rfl
theorem pg_117_9 : mm_prog 117 9 = some (2, .ireturn, 10, [0]) := by decide +kernel
theorem xe_117_9 (a0 a1 a2 : Option MV) (x : Int) (μ : MM) (G : MG) : ev 117 9 [a0, a1, a2] [vI x] μ G = some (some (vI x), μ, G) := ev_ret pg_117_9 rfl
theorem pg_117_10 : mm_prog 117 10 = some (0, .aload_n 0, 11, []) := by decide +kernel
theorem xe_117_10 (a1 a2 : Option MV) (x : Int) (st : List MV) (μ : MM) (G : MG) : ev 117 10 [some (vR x), a1, a2] st μ G = ev 117 11 [some (vR x), a1, a2] (vR x :: st) μ G := ev_stp pg_117_10 rfl
theorem pg_117_11 : mm_prog 117 11 = some (0, .getfield 88, 14, [10, 13, 0]) := by decide +kernel
theorem xe_117_11 (a0 a1 a2 : Option MV) (x : Int) (st : List MV) (μ : MM) (G : MG) : ev 117 11 [a0, a1, a2] (vR x :: st) μ G = if gk G x = 10 then ev 117 14 [a0, a1, a2] (vI (μ x 13) :: st) μ G else none := ev_if pg_117_11 rfl
theorem pg_117_14 : mm_prog 117 14 = some (0, .istore_n 2, 15, []) := by decide +kernel
theorem xe_117_14 (a0 a1 a2 : Option MV) (x : Int) (st : List MV) (μ : MM) (G : MG) (h : mm_nL a1 = true) : ev 117 14 [a0, a1, a2] (vI x :: st) μ G = ev 117 15 [a0, a1, some (vI x)] st μ G := ev_st pg_117_14 rfl (mm_nl_of h) (Nat.le_of_ble_eq_true rfl)
theorem pg_117_15 : mm_prog 117 15 = some (0, .aload_n 0, 16, []) := by decide +kernel
theorem xe_117_15 (a1 a2 : Option MV) (x : Int) (st : List MV) (μ : MM) (G : MG) : ev 117 15 [some (vR x), a1, a2] st μ G = ev 117 16 [some (vR x), a1, a2] (vR x :: st) μ G := ev_stp pg_117_15 rfl
theorem pg_117_16 : mm_prog 117 16 = some (0, .iload_n 1, 17, []) := by decide +kernel
theorem xe_117_16 (a0 a2 : Option MV) (x : Int) (st : List MV) (μ : MM) (G : MG) : ev 117 16 [a0, some (vI x), a2] st μ G = ev 117 17 [a0, some (vI x), a2] (vI x :: st) μ G := ev_stp pg_117_16 rfl
theorem pg_117_17 : mm_prog 117 17 = some (0, .putfield 88, 20, [10, 13, 0]) := by decide +kernel
theorem xe_117_17 (a0 a1 a2 : Option MV) (x y : Int) (st : List MV) (μ : MM) (G : MG) : ev 117 17 [a0, a1, a2] (vI x :: vR y :: st) μ G = if gk G y = 10 then ev 117 20 [a0, a1, a2] st (mset μ y 13 x) G else none := ev_put0 pg_117_17
theorem pg_117_20 : mm_prog 117 20 = some (0, .iload_n 2, 21, []) := by decide +kernel
theorem xe_117_20 (a0 a1 : Option MV) (x : Int) (st : List MV) (μ : MM) (G : MG) : ev 117 20 [a0, a1, some (vI x)] st μ G = ev 117 21 [a0, a1, some (vI x)] (vI x :: st) μ G := ev_stp pg_117_20 rfl
theorem pg_117_21 : mm_prog 117 21 = some (2, .ireturn, 22, [0]) := by decide +kernel
theorem xe_117_21 (a0 a1 a2 : Option MV) (x : Int) (μ : MM) (G : MG) : ev 117 21 [a0, a1, a2] [vI x] μ G = some (some (vI x), μ, G) := ev_ret pg_117_21 rfl
-- X10_room
theorem pg_118_0 : mm_prog 118 0 = some (0, .iload_n 1, 1, []) := by decide +kernel
theorem xe_118_0 (a0 a2 : Option MV) (x : Int) (st : List MV) (μ : MM) (G : MG) : ev 118 0 [a0, some (vI x), a2] st μ G = ev 118 1 [a0, some (vI x), a2] (vI x :: st) μ G := ev_stp pg_118_0 rfl
theorem pg_118_1 : mm_prog 118 1 = some (0, .iload_n 2, 2, []) := by decide +kernel
theorem xe_118_1 (a0 a1 : Option MV) (x : Int) (st : List MV) (μ : MM) (G : MG) : ev 118 1 [a0, a1, some (vI x)] st μ G = ev 118 2 [a0, a1, some (vI x)] (vI x :: st) μ G := ev_stp pg_118_1 rfl
theorem pg_118_2 : mm_prog 118 2 = some (1, .invokestatic 263, 5, [0, 122, 2, 0]) := by decide +kernel
theorem xe_118_2 (a0 a1 a2 : Option MV) (x0 x1 : Int) (μ : MM) (G : MG) : ev 118 2 [a0, a1, a2] (vI x1 :: vI x0 :: []) μ G = (ev 122 0 [some (vI x0), some (vI x1)] [] μ G).bind (fun q => ev 118 5 [a0, a1, a2] (q.1.toList ++ []) q.2.1 q.2.2) := ev_calS (as := [vI x0, vI x1]) (r := []) mx_122 pg_118_2 rfl rfl (Nat.le_of_ble_eq_true rfl) (Nat.le_of_ble_eq_true rfl)
theorem pg_118_5 : mm_prog 118 5 = some (0, .ifCond .eq 11, 8, []) := by decide +kernel
theorem xe_118_5 (a0 a1 a2 : Option MV) (x : Int) (st : List MV) (μ : MM) (G : MG) : ev 118 5 [a0, a1, a2] (vI x :: st) μ G = if x = 0 then ev 118 16 [a0, a1, a2] st μ G else ev 118 8 [a0, a1, a2] st μ G := ev_br (mm_cnd_eq x 0) pg_118_5 rfl
theorem pg_118_8 : mm_prog 118 8 = some (0, .iload_n 1, 9, []) := by decide +kernel
theorem xe_118_8 (a0 a2 : Option MV) (x : Int) (st : List MV) (μ : MM) (G : MG) : ev 118 8 [a0, some (vI x), a2] st μ G = ev 118 9 [a0, some (vI x), a2] (vI x :: st) μ G := ev_stp pg_118_8 rfl
theorem pg_118_9 : mm_prog 118 9 = some (0, .iload_n 2, 10, []) := by decide +kernel
theorem xe_118_9 (a0 a1 : Option MV) (x : Int) (st : List MV) (μ : MM) (G : MG) : ev 118 9 [a0, a1, some (vI x)] st μ G = ev 118 10 [a0, a1, some (vI x)] (vI x :: st) μ G := ev_stp pg_118_9 rfl
theorem pg_118_10 : mm_prog 118 10 = some (1, .invokestatic 269, 13, [0, 124, 2, 0]) := by decide +kernel
theorem xe_118_10 (a0 a1 a2 : Option MV) (x0 x1 : Int) (μ : MM) (G : MG) : ev 118 10 [a0, a1, a2] (vI x1 :: vI x0 :: []) μ G = (ev 124 0 [some (vI x0), some (vI x1)] [] μ G).bind (fun q => ev 118 13 [a0, a1, a2] (q.1.toList ++ []) q.2.1 q.2.2) := ev_calS (as := [vI x0, vI x1]) (r := []) mx_124 pg_118_10 rfl rfl (Nat.le_of_ble_eq_true rfl) (Nat.le_of_ble_eq_true rfl)
theorem pg_118_13 : mm_prog 118 13 = some (0, .goto 5, 16, []) := by decide +kernel
theorem xe_118_13 (a0 a1 a2 : Option MV) (st : List MV) (μ : MM) (G : MG) : ev 118 13 [a0, a1, a2] st μ G = ev 118 18 [a0, a1, a2] st μ G := ev_stp pg_118_13 rfl
theorem pg_118_16 : mm_prog 118 16 = some (0, .bipush (-3), 18, []) := by decide +kernel
theorem xe_118_16 (a0 a1 a2 : Option MV) (st : List MV) (μ : MM) (G : MG) : ev 118 16 [a0, a1, a2] st μ G = ev 118 18 [a0, a1, a2] (vI (-3) :: st) μ G := ev_stp pg_118_16 rfl
theorem pg_118_18 : mm_prog 118 18 = some (2, .ireturn, 19, [0]) := by decide +kernel
theorem xe_118_18 (a0 a1 a2 : Option MV) (x : Int) (μ : MM) (G : MG) : ev 118 18 [a0, a1, a2] [vI x] μ G = some (some (vI x), μ, G) := ev_ret pg_118_18 rfl
-- X10_need
theorem pg_119_0 : mm_prog 119 0 = some (0, .aload_n 0, 1, []) := by decide +kernel
theorem xe_119_0 (a1 a2 a3 : Option MV) (x : Int) (st : List MV) (μ : MM) (G : MG) : ev 119 0 [some (vR x), a1, a2, a3] st μ G = ev 119 1 [some (vR x), a1, a2, a3] (vR x :: st) μ G := ev_stp pg_119_0 rfl
theorem pg_119_1 : mm_prog 119 1 = some (0, .getfield 36, 4, [10, 4, 2]) := by decide +kernel
theorem xe_119_1 (a0 a1 a2 a3 : Option MV) (x : Int) (st : List MV) (μ : MM) (G : MG) : ev 119 1 [a0, a1, a2, a3] (vR x :: st) μ G = if gk G x = 10 then ev 119 4 [a0, a1, a2, a3] (vR (μ x 4) :: st) μ G else none := ev_if pg_119_1 rfl
theorem pg_119_4 : mm_prog 119 4 = some (0, .iload_n 1, 5, []) := by decide +kernel
theorem xe_119_4 (a0 a2 a3 : Option MV) (x : Int) (st : List MV) (μ : MM) (G : MG) : ev 119 4 [a0, some (vI x), a2, a3] st μ G = ev 119 5 [a0, some (vI x), a2, a3] (vI x :: st) μ G := ev_stp pg_119_4 rfl
theorem pg_119_5 : mm_prog 119 5 = some (1, .invokevirtual 185, 8, [1, 31, 1, 5]) := by decide +kernel
theorem xe_119_5 (a0 a1 a2 a3 : Option MV) (x0 z : Int) (μ : MM) (G : MG) : ev 119 5 [a0, a1, a2, a3] (vI x0 :: vR z :: []) μ G = if gk G z = 5 ∧ 0 < z then (ev 31 0 [some (vR z), some (vI x0)] [] μ G).bind (fun q => ev 119 8 [a0, a1, a2, a3] (q.1.toList ++ []) q.2.1 q.2.2) else none := ev_calV (as := [vR z, vI x0]) (r := []) mx_31 pg_119_5 rfl rfl (Nat.le_of_ble_eq_true rfl) (Nat.le_of_ble_eq_true rfl)
theorem pg_119_8 : mm_prog 119 8 = some (0, .astore_n 3, 9, []) := by decide +kernel
theorem xe_119_8 (a0 a1 a2 a3 : Option MV) (x : Int) (st : List MV) (μ : MM) (G : MG) (h : mm_nL a2 = true) : ev 119 8 [a0, a1, a2, a3] (vR x :: st) μ G = ev 119 9 [a0, a1, a2, some (vR x)] st μ G := ev_st pg_119_8 rfl (mm_nl_of h) (Nat.le_of_ble_eq_true rfl)
theorem pg_119_9 : mm_prog 119 9 = some (0, .aload_n 3, 10, []) := by decide +kernel
theorem xe_119_9 (a0 a1 a2 : Option MV) (x : Int) (st : List MV) (μ : MM) (G : MG) : ev 119 9 [a0, a1, a2, some (vR x)] st μ G = ev 119 10 [a0, a1, a2, some (vR x)] (vR x :: st) μ G := ev_stp pg_119_9 rfl
theorem pg_119_10 : mm_prog 119 10 = some (0, .ifnonnull 6, 13, []) := by decide +kernel
theorem xe_119_10 (a0 a1 a2 a3 : Option MV) (x : Int) (st : List MV) (μ : MM) (G : MG) : ev 119 10 [a0, a1, a2, a3] (vR x :: st) μ G = if x = 7 then none else if x = 0 then ev 119 13 [a0, a1, a2, a3] st μ G else ev 119 16 [a0, a1, a2, a3] st μ G := ev_nul pg_119_10 rfl
theorem pg_119_13 : mm_prog 119 13 = some (0, .bipush (-2), 15, []) := by decide +kernel
theorem xe_119_13 (a0 a1 a2 a3 : Option MV) (st : List MV) (μ : MM) (G : MG) : ev 119 13 [a0, a1, a2, a3] st μ G = ev 119 15 [a0, a1, a2, a3] (vI (-2) :: st) μ G := ev_stp pg_119_13 rfl
theorem pg_119_15 : mm_prog 119 15 = some (2, .ireturn, 16, [0]) := by decide +kernel
theorem xe_119_15 (a0 a1 a2 a3 : Option MV) (x : Int) (μ : MM) (G : MG) : ev 119 15 [a0, a1, a2, a3] [vI x] μ G = some (some (vI x), μ, G) := ev_ret pg_119_15 rfl
theorem pg_119_16 : mm_prog 119 16 = some (0, .iload_n 2, 17, []) := by decide +kernel
theorem xe_119_16 (a0 a1 a3 : Option MV) (x : Int) (st : List MV) (μ : MM) (G : MG) : ev 119 16 [a0, a1, some (vI x), a3] st μ G = ev 119 17 [a0, a1, some (vI x), a3] (vI x :: st) μ G := ev_stp pg_119_16 rfl
theorem pg_119_17 : mm_prog 119 17 = some (1, .invokestatic 266, 20, [0, 123, 1, 0]) := by decide +kernel
theorem xe_119_17 (a0 a1 a2 a3 : Option MV) (x0 : Int) (μ : MM) (G : MG) : ev 119 17 [a0, a1, a2, a3] (vI x0 :: []) μ G = (ev 123 0 [some (vI x0)] [] μ G).bind (fun q => ev 119 20 [a0, a1, a2, a3] (q.1.toList ++ []) q.2.1 q.2.2) := ev_calS (as := [vI x0]) (r := []) mx_123 pg_119_17 rfl rfl (Nat.le_of_ble_eq_true rfl) (Nat.le_of_ble_eq_true rfl)
theorem pg_119_20 : mm_prog 119 20 = some (0, .ifCond .ne 6, 23, []) := by decide +kernel
theorem xe_119_20 (a0 a1 a2 a3 : Option MV) (x : Int) (st : List MV) (μ : MM) (G : MG) : ev 119 20 [a0, a1, a2, a3] (vI x :: st) μ G = if ¬ x = 0 then ev 119 26 [a0, a1, a2, a3] st μ G else ev 119 23 [a0, a1, a2, a3] st μ G := ev_br (mm_cnd_ne x 0) pg_119_20 rfl
theorem pg_119_23 : mm_prog 119 23 = some (0, .bipush (-3), 25, []) := by decide +kernel
theorem xe_119_23 (a0 a1 a2 a3 : Option MV) (st : List MV) (μ : MM) (G : MG) : ev 119 23 [a0, a1, a2, a3] st μ G = ev 119 25 [a0, a1, a2, a3] (vI (-3) :: st) μ G := ev_stp pg_119_23 rfl
theorem pg_119_25 : mm_prog 119 25 = some (2, .ireturn, 26, [0]) := by decide +kernel
theorem xe_119_25 (a0 a1 a2 a3 : Option MV) (x : Int) (μ : MM) (G : MG) : ev 119 25 [a0, a1, a2, a3] [vI x] μ G = some (some (vI x), μ, G) := ev_ret pg_119_25 rfl
theorem pg_119_26 : mm_prog 119 26 = some (0, .aload_n 3, 27, []) := by decide +kernel
theorem xe_119_26 (a0 a1 a2 : Option MV) (x : Int) (st : List MV) (μ : MM) (G : MG) : ev 119 26 [a0, a1, a2, some (vR x)] st μ G = ev 119 27 [a0, a1, a2, some (vR x)] (vR x :: st) μ G := ev_stp pg_119_26 rfl
theorem pg_119_27 : mm_prog 119 27 = some (0, .getfield 188, 30, [4, 0, 2]) := by decide +kernel
theorem xe_119_27 (a0 a1 a2 a3 : Option MV) (x : Int) (st : List MV) (μ : MM) (G : MG) : ev 119 27 [a0, a1, a2, a3] (vR x :: st) μ G = if gk G x = 4 then ev 119 30 [a0, a1, a2, a3] (vR (μ x 0) :: st) μ G else none := ev_if pg_119_27 rfl
theorem pg_119_30 : mm_prog 119 30 = some (0, .getfield 202, 33, [7, 0, 0]) := by decide +kernel
theorem xe_119_30 (a0 a1 a2 a3 : Option MV) (x : Int) (st : List MV) (μ : MM) (G : MG) : ev 119 30 [a0, a1, a2, a3] (vR x :: st) μ G = if gk G x = 7 then ev 119 33 [a0, a1, a2, a3] (vI (μ x 0) :: st) μ G else none := ev_if pg_119_30 rfl
theorem pg_119_33 : mm_prog 119 33 = some (0, .iload_n 2, 34, []) := by decide +kernel
theorem xe_119_33 (a0 a1 a3 : Option MV) (x : Int) (st : List MV) (μ : MM) (G : MG) : ev 119 33 [a0, a1, some (vI x), a3] st μ G = ev 119 34 [a0, a1, some (vI x), a3] (vI x :: st) μ G := ev_stp pg_119_33 rfl
theorem pg_119_34 : mm_prog 119 34 = some (1, .invokestatic 273, 37, [0, 125, 2, 0]) := by decide +kernel
theorem xe_119_34 (a0 a1 a2 a3 : Option MV) (x0 x1 : Int) (μ : MM) (G : MG) : ev 119 34 [a0, a1, a2, a3] (vI x1 :: vI x0 :: []) μ G = (ev 125 0 [some (vI x0), some (vI x1)] [] μ G).bind (fun q => ev 119 37 [a0, a1, a2, a3] (q.1.toList ++ []) q.2.1 q.2.2) := ev_calS (as := [vI x0, vI x1]) (r := []) mx_125 pg_119_34 rfl rfl (Nat.le_of_ble_eq_true rfl) (Nat.le_of_ble_eq_true rfl)
theorem pg_119_37 : mm_prog 119 37 = some (0, .l2i, 38, []) := by decide +kernel
theorem xe_119_37 (a0 a1 a2 a3 : Option MV) (x : Int) (st : List MV) (μ : MM) (G : MG) : ev 119 37 [a0, a1, a2, a3] (vL x :: st) μ G = ev 119 38 [a0, a1, a2, a3] (vI (w32 x) :: st) μ G := ev_stp pg_119_37 rfl
theorem pg_119_38 : mm_prog 119 38 = some (2, .ireturn, 39, [0]) := by decide +kernel
theorem xe_119_38 (a0 a1 a2 a3 : Option MV) (x : Int) (μ : MM) (G : MG) : ev 119 38 [a0, a1, a2, a3] [vI x] μ G = some (some (vI x), μ, G) := ev_ret pg_119_38 rfl
-- X10_best
theorem pg_120_0 : mm_prog 120 0 = some (0, .iload_n 3, 1, []) := by decide +kernel
theorem xe_120_0 (a0 a1 a2 : Option MV) (x : Int) (st : List MV) (μ : MM) (G : MG) : ev 120 0 [a0, a1, a2, some (vI x)] st μ G = ev 120 1 [a0, a1, a2, some (vI x)] (vI x :: st) μ G := ev_stp pg_120_0 rfl
theorem pg_120_1 : mm_prog 120 1 = some (0, .ifCond .lt 8, 4, []) := by decide +kernel
theorem xe_120_1 (a0 a1 a2 a3 : Option MV) (x : Int) (st : List MV) (μ : MM) (G : MG) : ev 120 1 [a0, a1, a2, a3] (vI x :: st) μ G = if x < 0 then ev 120 9 [a0, a1, a2, a3] st μ G else ev 120 4 [a0, a1, a2, a3] st μ G := ev_br (mm_cnd_lt x 0) pg_120_1 rfl
theorem pg_120_4 : mm_prog 120 4 = some (0, .iload_n 3, 5, []) := by decide +kernel
theorem xe_120_4 (a0 a1 a2 : Option MV) (x : Int) (st : List MV) (μ : MM) (G : MG) : ev 120 4 [a0, a1, a2, some (vI x)] st μ G = ev 120 5 [a0, a1, a2, some (vI x)] (vI x :: st) μ G := ev_stp pg_120_4 rfl
theorem pg_120_5 : mm_prog 120 5 = some (0, .iconst 1, 6, []) := by decide +kernel
theorem xe_120_5 (a0 a1 a2 a3 : Option MV) (st : List MV) (μ : MM) (G : MG) : ev 120 5 [a0, a1, a2, a3] st μ G = ev 120 6 [a0, a1, a2, a3] (vI (1) :: st) μ G := ev_stp pg_120_5 rfl
theorem pg_120_6 : mm_prog 120 6 = some (0, .if_icmp .le 6, 9, []) := by decide +kernel
theorem xe_120_6 (a0 a1 a2 a3 : Option MV) (x y : Int) (st : List MV) (μ : MM) (G : MG) : ev 120 6 [a0, a1, a2, a3] (vI y :: vI x :: st) μ G = if x ≤ y then ev 120 12 [a0, a1, a2, a3] st μ G else ev 120 9 [a0, a1, a2, a3] st μ G := ev_br (mm_cnd_le x y) pg_120_6 rfl
theorem pg_120_9 : mm_prog 120 9 = some (0, .bipush (-2), 11, []) := by decide +kernel
theorem xe_120_9 (a0 a1 a2 a3 : Option MV) (st : List MV) (μ : MM) (G : MG) : ev 120 9 [a0, a1, a2, a3] st μ G = ev 120 11 [a0, a1, a2, a3] (vI (-2) :: st) μ G := ev_stp pg_120_9 rfl
theorem pg_120_11 : mm_prog 120 11 = some (2, .ireturn, 12, [0]) := by decide +kernel
theorem xe_120_11 (a0 a1 a2 a3 : Option MV) (x : Int) (μ : MM) (G : MG) : ev 120 11 [a0, a1, a2, a3] [vI x] μ G = some (some (vI x), μ, G) := ev_ret pg_120_11 rfl
theorem pg_120_12 : mm_prog 120 12 = some (0, .iload_n 1, 13, []) := by decide +kernel
theorem xe_120_12 (a0 a2 a3 : Option MV) (x : Int) (st : List MV) (μ : MM) (G : MG) : ev 120 12 [a0, some (vI x), a2, a3] st μ G = ev 120 13 [a0, some (vI x), a2, a3] (vI x :: st) μ G := ev_stp pg_120_12 rfl
theorem pg_120_13 : mm_prog 120 13 = some (0, .iload_n 2, 14, []) := by decide +kernel
theorem xe_120_13 (a0 a1 a3 : Option MV) (x : Int) (st : List MV) (μ : MM) (G : MG) : ev 120 13 [a0, a1, some (vI x), a3] st μ G = ev 120 14 [a0, a1, some (vI x), a3] (vI x :: st) μ G := ev_stp pg_120_13 rfl
theorem pg_120_14 : mm_prog 120 14 = some (1, .invokestatic 263, 17, [0, 122, 2, 0]) := by decide +kernel
theorem xe_120_14 (a0 a1 a2 a3 : Option MV) (x0 x1 : Int) (μ : MM) (G : MG) : ev 120 14 [a0, a1, a2, a3] (vI x1 :: vI x0 :: []) μ G = (ev 122 0 [some (vI x0), some (vI x1)] [] μ G).bind (fun q => ev 120 17 [a0, a1, a2, a3] (q.1.toList ++ []) q.2.1 q.2.2) := ev_calS (as := [vI x0, vI x1]) (r := []) mx_122 pg_120_14 rfl rfl (Nat.le_of_ble_eq_true rfl) (Nat.le_of_ble_eq_true rfl)
theorem pg_120_17 : mm_prog 120 17 = some (0, .ifCond .ne 6, 20, []) := by decide +kernel
theorem xe_120_17 (a0 a1 a2 a3 : Option MV) (x : Int) (st : List MV) (μ : MM) (G : MG) : ev 120 17 [a0, a1, a2, a3] (vI x :: st) μ G = if ¬ x = 0 then ev 120 23 [a0, a1, a2, a3] st μ G else ev 120 20 [a0, a1, a2, a3] st μ G := ev_br (mm_cnd_ne x 0) pg_120_17 rfl
theorem pg_120_20 : mm_prog 120 20 = some (0, .bipush (-3), 22, []) := by decide +kernel
theorem xe_120_20 (a0 a1 a2 a3 : Option MV) (st : List MV) (μ : MM) (G : MG) : ev 120 20 [a0, a1, a2, a3] st μ G = ev 120 22 [a0, a1, a2, a3] (vI (-3) :: st) μ G := ev_stp pg_120_20 rfl
theorem pg_120_22 : mm_prog 120 22 = some (2, .ireturn, 23, [0]) := by decide +kernel
theorem xe_120_22 (a0 a1 a2 a3 : Option MV) (x : Int) (μ : MM) (G : MG) : ev 120 22 [a0, a1, a2, a3] [vI x] μ G = some (some (vI x), μ, G) := ev_ret pg_120_22 rfl
theorem pg_120_23 : mm_prog 120 23 = some (0, .aload_n 0, 24, []) := by decide +kernel
theorem xe_120_23 (a1 a2 a3 : Option MV) (x : Int) (st : List MV) (μ : MM) (G : MG) : ev 120 23 [some (vR x), a1, a2, a3] st μ G = ev 120 24 [some (vR x), a1, a2, a3] (vR x :: st) μ G := ev_stp pg_120_23 rfl
theorem pg_120_24 : mm_prog 120 24 = some (0, .iload_n 1, 25, []) := by decide +kernel
theorem xe_120_24 (a0 a2 a3 : Option MV) (x : Int) (st : List MV) (μ : MM) (G : MG) : ev 120 24 [a0, some (vI x), a2, a3] st μ G = ev 120 25 [a0, some (vI x), a2, a3] (vI x :: st) μ G := ev_stp pg_120_24 rfl
theorem pg_120_25 : mm_prog 120 25 = some (0, .iload_n 2, 26, []) := by decide +kernel
theorem xe_120_25 (a0 a1 a3 : Option MV) (x : Int) (st : List MV) (μ : MM) (G : MG) : ev 120 25 [a0, a1, some (vI x), a3] st μ G = ev 120 26 [a0, a1, some (vI x), a3] (vI x :: st) μ G := ev_stp pg_120_25 rfl
theorem pg_120_26 : mm_prog 120 26 = some (1, .invokestatic 269, 29, [0, 124, 2, 0]) := by decide +kernel
theorem xe_120_26 (a0 a1 a2 a3 : Option MV) (x0 x1 r0 : Int) (μ : MM) (G : MG) : ev 120 26 [a0, a1, a2, a3] (vI x1 :: vI x0 :: [vR r0]) μ G = (ev 124 0 [some (vI x0), some (vI x1)] [] μ G).bind (fun q => ev 120 29 [a0, a1, a2, a3] (q.1.toList ++ [vR r0]) q.2.1 q.2.2) := ev_calS (as := [vI x0, vI x1]) (r := [vR r0]) mx_124 pg_120_26 rfl rfl (Nat.le_of_ble_eq_true rfl) (Nat.le_of_ble_eq_true rfl)
theorem pg_120_29 : mm_prog 120 29 = some (0, .iload_n 3, 30, []) := by decide +kernel
theorem xe_120_29 (a0 a1 a2 : Option MV) (x : Int) (st : List MV) (μ : MM) (G : MG) : ev 120 29 [a0, a1, a2, some (vI x)] st μ G = ev 120 30 [a0, a1, a2, some (vI x)] (vI x :: st) μ G := ev_stp pg_120_29 rfl
theorem pg_120_30 : mm_prog 120 30 = some (1, .invokevirtual 277, 33, [1, 127, 2, 10]) := by decide +kernel
theorem xe_120_30 (a0 a1 a2 a3 : Option MV) (x0 x1 z : Int) (μ : MM) (G : MG) : ev 120 30 [a0, a1, a2, a3] (vI x1 :: vI x0 :: vR z :: []) μ G = if gk G z = 10 ∧ 0 < z then (ev 127 0 [some (vR z), some (vI x0), some (vI x1), none, none, none] [] μ G).bind (fun q => ev 120 33 [a0, a1, a2, a3] (q.1.toList ++ []) q.2.1 q.2.2) else none := ev_calV (as := [vR z, vI x0, vI x1]) (r := []) mx_127 pg_120_30 rfl rfl (Nat.le_of_ble_eq_true rfl) (Nat.le_of_ble_eq_true rfl)
theorem pg_120_33 : mm_prog 120 33 = some (2, .ireturn, 34, [0]) := by decide +kernel
theorem xe_120_33 (a0 a1 a2 a3 : Option MV) (x : Int) (μ : MM) (G : MG) : ev 120 33 [a0, a1, a2, a3] [vI x] μ G = some (some (vI x), μ, G) := ev_ret pg_120_33 rfl
-- X10_cheapest
theorem pg_121_0 : mm_prog 121 0 = some (0, .aload_n 0, 1, []) := by decide +kernel
theorem xe_121_0 (a1 a2 a3 a4 a5 a6 a7 a8 a9 a10 : Option MV) (x : Int) (st : List MV) (μ : MM) (G : MG) : ev 121 0 [some (vR x), a1, a2, a3, a4, a5, a6, a7, a8, a9, a10] st μ G = ev 121 1 [some (vR x), a1, a2, a3, a4, a5, a6, a7, a8, a9, a10] (vR x :: st) μ G := ev_stp pg_121_0 rfl
theorem pg_121_1 : mm_prog 121 1 = some (0, .getfield 36, 4, [10, 4, 2]) := by decide +kernel
theorem xe_121_1 (a0 a1 a2 a3 a4 a5 a6 a7 a8 a9 a10 : Option MV) (x : Int) (st : List MV) (μ : MM) (G : MG) : ev 121 1 [a0, a1, a2, a3, a4, a5, a6, a7, a8, a9, a10] (vR x :: st) μ G = if gk G x = 10 then ev 121 4 [a0, a1, a2, a3, a4, a5, a6, a7, a8, a9, a10] (vR (μ x 4) :: st) μ G else none := ev_if pg_121_1 rfl
theorem pg_121_4 : mm_prog 121 4 = some (0, .iload_n 1, 5, []) := by decide +kernel
theorem xe_121_4 (a0 a2 a3 a4 a5 a6 a7 a8 a9 a10 : Option MV) (x : Int) (st : List MV) (μ : MM) (G : MG) : ev 121 4 [a0, some (vI x), a2, a3, a4, a5, a6, a7, a8, a9, a10] st μ G = ev 121 5 [a0, some (vI x), a2, a3, a4, a5, a6, a7, a8, a9, a10] (vI x :: st) μ G := ev_stp pg_121_4 rfl
theorem pg_121_5 : mm_prog 121 5 = some (1, .invokevirtual 185, 8, [1, 31, 1, 5]) := by decide +kernel
theorem xe_121_5 (a0 a1 a2 a3 a4 a5 a6 a7 a8 a9 a10 : Option MV) (x0 z : Int) (μ : MM) (G : MG) : ev 121 5 [a0, a1, a2, a3, a4, a5, a6, a7, a8, a9, a10] (vI x0 :: vR z :: []) μ G = if gk G z = 5 ∧ 0 < z then (ev 31 0 [some (vR z), some (vI x0)] [] μ G).bind (fun q => ev 121 8 [a0, a1, a2, a3, a4, a5, a6, a7, a8, a9, a10] (q.1.toList ++ []) q.2.1 q.2.2) else none := ev_calV (as := [vR z, vI x0]) (r := []) mx_31 pg_121_5 rfl rfl (Nat.le_of_ble_eq_true rfl) (Nat.le_of_ble_eq_true rfl)
theorem pg_121_8 : mm_prog 121 8 = some (0, .astore_n 3, 9, []) := by decide +kernel
theorem xe_121_8 (a0 a1 a2 a3 a4 a5 a6 a7 a8 a9 a10 : Option MV) (x : Int) (st : List MV) (μ : MM) (G : MG) (h : mm_nL a2 = true) : ev 121 8 [a0, a1, a2, a3, a4, a5, a6, a7, a8, a9, a10] (vR x :: st) μ G = ev 121 9 [a0, a1, a2, some (vR x), a4, a5, a6, a7, a8, a9, a10] st μ G := ev_st pg_121_8 rfl (mm_nl_of h) (Nat.le_of_ble_eq_true rfl)
theorem pg_121_9 : mm_prog 121 9 = some (0, .aload_n 3, 10, []) := by decide +kernel
theorem xe_121_9 (a0 a1 a2 a4 a5 a6 a7 a8 a9 a10 : Option MV) (x : Int) (st : List MV) (μ : MM) (G : MG) : ev 121 9 [a0, a1, a2, some (vR x), a4, a5, a6, a7, a8, a9, a10] st μ G = ev 121 10 [a0, a1, a2, some (vR x), a4, a5, a6, a7, a8, a9, a10] (vR x :: st) μ G := ev_stp pg_121_9 rfl
theorem pg_121_10 : mm_prog 121 10 = some (0, .ifnonnull 6, 13, []) := by decide +kernel
theorem xe_121_10 (a0 a1 a2 a3 a4 a5 a6 a7 a8 a9 a10 : Option MV) (x : Int) (st : List MV) (μ : MM) (G : MG) : ev 121 10 [a0, a1, a2, a3, a4, a5, a6, a7, a8, a9, a10] (vR x :: st) μ G = if x = 7 then none else if x = 0 then ev 121 13 [a0, a1, a2, a3, a4, a5, a6, a7, a8, a9, a10] st μ G else ev 121 16 [a0, a1, a2, a3, a4, a5, a6, a7, a8, a9, a10] st μ G := ev_nul pg_121_10 rfl
theorem pg_121_13 : mm_prog 121 13 = some (0, .bipush (-2), 15, []) := by decide +kernel
theorem xe_121_13 (a0 a1 a2 a3 a4 a5 a6 a7 a8 a9 a10 : Option MV) (st : List MV) (μ : MM) (G : MG) : ev 121 13 [a0, a1, a2, a3, a4, a5, a6, a7, a8, a9, a10] st μ G = ev 121 15 [a0, a1, a2, a3, a4, a5, a6, a7, a8, a9, a10] (vI (-2) :: st) μ G := ev_stp pg_121_13 rfl
theorem pg_121_15 : mm_prog 121 15 = some (2, .ireturn, 16, [0]) := by decide +kernel
theorem xe_121_15 (a0 a1 a2 a3 a4 a5 a6 a7 a8 a9 a10 : Option MV) (x : Int) (μ : MM) (G : MG) : ev 121 15 [a0, a1, a2, a3, a4, a5, a6, a7, a8, a9, a10] [vI x] μ G = some (some (vI x), μ, G) := ev_ret pg_121_15 rfl
theorem pg_121_16 : mm_prog 121 16 = some (0, .iload_n 2, 17, []) := by decide +kernel
theorem xe_121_16 (a0 a1 a3 a4 a5 a6 a7 a8 a9 a10 : Option MV) (x : Int) (st : List MV) (μ : MM) (G : MG) : ev 121 16 [a0, a1, some (vI x), a3, a4, a5, a6, a7, a8, a9, a10] st μ G = ev 121 17 [a0, a1, some (vI x), a3, a4, a5, a6, a7, a8, a9, a10] (vI x :: st) μ G := ev_stp pg_121_16 rfl
theorem pg_121_17 : mm_prog 121 17 = some (1, .invokestatic 266, 20, [0, 123, 1, 0]) := by decide +kernel
theorem xe_121_17 (a0 a1 a2 a3 a4 a5 a6 a7 a8 a9 a10 : Option MV) (x0 : Int) (μ : MM) (G : MG) : ev 121 17 [a0, a1, a2, a3, a4, a5, a6, a7, a8, a9, a10] (vI x0 :: []) μ G = (ev 123 0 [some (vI x0)] [] μ G).bind (fun q => ev 121 20 [a0, a1, a2, a3, a4, a5, a6, a7, a8, a9, a10] (q.1.toList ++ []) q.2.1 q.2.2) := ev_calS (as := [vI x0]) (r := []) mx_123 pg_121_17 rfl rfl (Nat.le_of_ble_eq_true rfl) (Nat.le_of_ble_eq_true rfl)
theorem pg_121_20 : mm_prog 121 20 = some (0, .ifCond .ne 6, 23, []) := by decide +kernel
theorem xe_121_20 (a0 a1 a2 a3 a4 a5 a6 a7 a8 a9 a10 : Option MV) (x : Int) (st : List MV) (μ : MM) (G : MG) : ev 121 20 [a0, a1, a2, a3, a4, a5, a6, a7, a8, a9, a10] (vI x :: st) μ G = if ¬ x = 0 then ev 121 26 [a0, a1, a2, a3, a4, a5, a6, a7, a8, a9, a10] st μ G else ev 121 23 [a0, a1, a2, a3, a4, a5, a6, a7, a8, a9, a10] st μ G := ev_br (mm_cnd_ne x 0) pg_121_20 rfl
theorem pg_121_23 : mm_prog 121 23 = some (0, .bipush (-3), 25, []) := by decide +kernel
theorem xe_121_23 (a0 a1 a2 a3 a4 a5 a6 a7 a8 a9 a10 : Option MV) (st : List MV) (μ : MM) (G : MG) : ev 121 23 [a0, a1, a2, a3, a4, a5, a6, a7, a8, a9, a10] st μ G = ev 121 25 [a0, a1, a2, a3, a4, a5, a6, a7, a8, a9, a10] (vI (-3) :: st) μ G := ev_stp pg_121_23 rfl
theorem pg_121_25 : mm_prog 121 25 = some (2, .ireturn, 26, [0]) := by decide +kernel
theorem xe_121_25 (a0 a1 a2 a3 a4 a5 a6 a7 a8 a9 a10 : Option MV) (x : Int) (μ : MM) (G : MG) : ev 121 25 [a0, a1, a2, a3, a4, a5, a6, a7, a8, a9, a10] [vI x] μ G = some (some (vI x), μ, G) := ev_ret pg_121_25 rfl
theorem pg_121_26 : mm_prog 121 26 = some (0, .aload_n 3, 27, []) := by decide +kernel
theorem xe_121_26 (a0 a1 a2 a4 a5 a6 a7 a8 a9 a10 : Option MV) (x : Int) (st : List MV) (μ : MM) (G : MG) : ev 121 26 [a0, a1, a2, some (vR x), a4, a5, a6, a7, a8, a9, a10] st μ G = ev 121 27 [a0, a1, a2, some (vR x), a4, a5, a6, a7, a8, a9, a10] (vR x :: st) μ G := ev_stp pg_121_26 rfl
theorem pg_121_27 : mm_prog 121 27 = some (0, .getfield 188, 30, [4, 0, 2]) := by decide +kernel
theorem xe_121_27 (a0 a1 a2 a3 a4 a5 a6 a7 a8 a9 a10 : Option MV) (x : Int) (st : List MV) (μ : MM) (G : MG) : ev 121 27 [a0, a1, a2, a3, a4, a5, a6, a7, a8, a9, a10] (vR x :: st) μ G = if gk G x = 4 then ev 121 30 [a0, a1, a2, a3, a4, a5, a6, a7, a8, a9, a10] (vR (μ x 0) :: st) μ G else none := ev_if pg_121_27 rfl
theorem pg_121_30 : mm_prog 121 30 = some (0, .getfield 202, 33, [7, 0, 0]) := by decide +kernel
theorem xe_121_30 (a0 a1 a2 a3 a4 a5 a6 a7 a8 a9 a10 : Option MV) (x : Int) (st : List MV) (μ : MM) (G : MG) : ev 121 30 [a0, a1, a2, a3, a4, a5, a6, a7, a8, a9, a10] (vR x :: st) μ G = if gk G x = 7 then ev 121 33 [a0, a1, a2, a3, a4, a5, a6, a7, a8, a9, a10] (vI (μ x 0) :: st) μ G else none := ev_if pg_121_30 rfl
theorem pg_121_33 : mm_prog 121 33 = some (0, .iload_n 2, 34, []) := by decide +kernel
theorem xe_121_33 (a0 a1 a3 a4 a5 a6 a7 a8 a9 a10 : Option MV) (x : Int) (st : List MV) (μ : MM) (G : MG) : ev 121 33 [a0, a1, some (vI x), a3, a4, a5, a6, a7, a8, a9, a10] st μ G = ev 121 34 [a0, a1, some (vI x), a3, a4, a5, a6, a7, a8, a9, a10] (vI x :: st) μ G := ev_stp pg_121_33 rfl
theorem pg_121_34 : mm_prog 121 34 = some (1, .invokestatic 273, 37, [0, 125, 2, 0]) := by decide +kernel
theorem xe_121_34 (a0 a1 a2 a3 a4 a5 a6 a7 a8 a9 a10 : Option MV) (x0 x1 : Int) (μ : MM) (G : MG) : ev 121 34 [a0, a1, a2, a3, a4, a5, a6, a7, a8, a9, a10] (vI x1 :: vI x0 :: []) μ G = (ev 125 0 [some (vI x0), some (vI x1)] [] μ G).bind (fun q => ev 121 37 [a0, a1, a2, a3, a4, a5, a6, a7, a8, a9, a10] (q.1.toList ++ []) q.2.1 q.2.2) := ev_calS (as := [vI x0, vI x1]) (r := []) mx_125 pg_121_34 rfl rfl (Nat.le_of_ble_eq_true rfl) (Nat.le_of_ble_eq_true rfl)
theorem pg_121_37 : mm_prog 121 37 = some (0, .lstore 4, 39, []) := by decide +kernel
theorem xe_121_37 (a0 a1 a2 a3 a4 a5 a6 a7 a8 a9 a10 : Option MV) (x : Int) (st : List MV) (μ : MM) (G : MG) (h : mm_nL a3 = true) : ev 121 37 [a0, a1, a2, a3, a4, a5, a6, a7, a8, a9, a10] (vL x :: st) μ G = ev 121 39 [a0, a1, a2, a3, some (vL x), none, a6, a7, a8, a9, a10] st μ G := ev_st pg_121_37 rfl (mm_nl_of h) (Nat.le_of_ble_eq_true rfl)
theorem pg_121_39 : mm_prog 121 39 = some (0, .iconst (-1), 40, []) := by decide +kernel
theorem xe_121_39 (a0 a1 a2 a3 a4 a5 a6 a7 a8 a9 a10 : Option MV) (st : List MV) (μ : MM) (G : MG) : ev 121 39 [a0, a1, a2, a3, a4, a5, a6, a7, a8, a9, a10] st μ G = ev 121 40 [a0, a1, a2, a3, a4, a5, a6, a7, a8, a9, a10] (vI (-1) :: st) μ G := ev_stp pg_121_39 rfl
theorem pg_121_40 : mm_prog 121 40 = some (0, .istore 6, 42, []) := by decide +kernel
theorem xe_121_40 (a0 a1 a2 a3 a4 a5 a6 a7 a8 a9 a10 : Option MV) (x : Int) (st : List MV) (μ : MM) (G : MG) (h : mm_nL a5 = true) : ev 121 40 [a0, a1, a2, a3, a4, a5, a6, a7, a8, a9, a10] (vI x :: st) μ G = ev 121 42 [a0, a1, a2, a3, a4, a5, some (vI x), a7, a8, a9, a10] st μ G := ev_st pg_121_40 rfl (mm_nl_of h) (Nat.le_of_ble_eq_true rfl)
theorem pg_121_42 : mm_prog 121 42 = some (0, .ldc_w 280, 45, [2147483647]) := by decide +kernel
theorem xe_121_42 (a0 a1 a2 a3 a4 a5 a6 a7 a8 a9 a10 : Option MV) (st : List MV) (μ : MM) (G : MG) : ev 121 42 [a0, a1, a2, a3, a4, a5, a6, a7, a8, a9, a10] st μ G = ev 121 45 [a0, a1, a2, a3, a4, a5, a6, a7, a8, a9, a10] (vI (2147483647) :: st) μ G := ev_stp pg_121_42 rfl
theorem pg_121_45 : mm_prog 121 45 = some (0, .istore 7, 47, []) := by decide +kernel
theorem xe_121_45 (a0 a1 a2 a3 a4 a5 a6 a7 a8 a9 a10 : Option MV) (x : Int) (st : List MV) (μ : MM) (G : MG) (h : mm_nL a6 = true) : ev 121 45 [a0, a1, a2, a3, a4, a5, a6, a7, a8, a9, a10] (vI x :: st) μ G = ev 121 47 [a0, a1, a2, a3, a4, a5, a6, some (vI x), a8, a9, a10] st μ G := ev_st pg_121_45 rfl (mm_nl_of h) (Nat.le_of_ble_eq_true rfl)
theorem pg_121_47 : mm_prog 121 47 = some (0, .iconst 1, 48, []) := by decide +kernel
theorem xe_121_47 (a0 a1 a2 a3 a4 a5 a6 a7 a8 a9 a10 : Option MV) (st : List MV) (μ : MM) (G : MG) : ev 121 47 [a0, a1, a2, a3, a4, a5, a6, a7, a8, a9, a10] st μ G = ev 121 48 [a0, a1, a2, a3, a4, a5, a6, a7, a8, a9, a10] (vI (1) :: st) μ G := ev_stp pg_121_47 rfl
theorem pg_121_48 : mm_prog 121 48 = some (0, .istore 8, 50, []) := by decide +kernel
theorem xe_121_48 (a0 a1 a2 a3 a4 a5 a6 a7 a8 a9 a10 : Option MV) (x : Int) (st : List MV) (μ : MM) (G : MG) (h : mm_nL a7 = true) : ev 121 48 [a0, a1, a2, a3, a4, a5, a6, a7, a8, a9, a10] (vI x :: st) μ G = ev 121 50 [a0, a1, a2, a3, a4, a5, a6, a7, some (vI x), a9, a10] st μ G := ev_st pg_121_48 rfl (mm_nl_of h) (Nat.le_of_ble_eq_true rfl)
theorem pg_121_50 : mm_prog 121 50 = some (0, .iload 8, 52, []) := by decide +kernel
theorem xe_121_50 (a0 a1 a2 a3 a4 a5 a6 a7 a9 a10 : Option MV) (x : Int) (st : List MV) (μ : MM) (G : MG) : ev 121 50 [a0, a1, a2, a3, a4, a5, a6, a7, some (vI x), a9, a10] st μ G = ev 121 52 [a0, a1, a2, a3, a4, a5, a6, a7, some (vI x), a9, a10] (vI x :: st) μ G := ev_stp pg_121_50 rfl
theorem pg_121_52 : mm_prog 121 52 = some (0, .iconst 4, 53, []) := by decide +kernel
theorem xe_121_52 (a0 a1 a2 a3 a4 a5 a6 a7 a8 a9 a10 : Option MV) (st : List MV) (μ : MM) (G : MG) : ev 121 52 [a0, a1, a2, a3, a4, a5, a6, a7, a8, a9, a10] st μ G = ev 121 53 [a0, a1, a2, a3, a4, a5, a6, a7, a8, a9, a10] (vI (4) :: st) μ G := ev_stp pg_121_52 rfl
theorem pg_121_53 : mm_prog 121 53 = some (0, .if_icmp .gt 66, 56, []) := by decide +kernel
theorem xe_121_53 (a0 a1 a2 a3 a4 a5 a6 a7 a8 a9 a10 : Option MV) (x y : Int) (st : List MV) (μ : MM) (G : MG) : ev 121 53 [a0, a1, a2, a3, a4, a5, a6, a7, a8, a9, a10] (vI y :: vI x :: st) μ G = if y < x then ev 121 119 [a0, a1, a2, a3, a4, a5, a6, a7, a8, a9, a10] st μ G else ev 121 56 [a0, a1, a2, a3, a4, a5, a6, a7, a8, a9, a10] st μ G := ev_br (mm_cnd_gt x y) pg_121_53 rfl
theorem pg_121_56 : mm_prog 121 56 = some (0, .iconst 0, 57, []) := by decide +kernel
theorem xe_121_56 (a0 a1 a2 a3 a4 a5 a6 a7 a8 a9 a10 : Option MV) (st : List MV) (μ : MM) (G : MG) : ev 121 56 [a0, a1, a2, a3, a4, a5, a6, a7, a8, a9, a10] st μ G = ev 121 57 [a0, a1, a2, a3, a4, a5, a6, a7, a8, a9, a10] (vI (0) :: st) μ G := ev_stp pg_121_56 rfl
theorem pg_121_57 : mm_prog 121 57 = some (0, .istore 9, 59, []) := by decide +kernel
theorem xe_121_57 (a0 a1 a2 a3 a4 a5 a6 a7 a8 a9 a10 : Option MV) (x : Int) (st : List MV) (μ : MM) (G : MG) (h : mm_nL a8 = true) : ev 121 57 [a0, a1, a2, a3, a4, a5, a6, a7, a8, a9, a10] (vI x :: st) μ G = ev 121 59 [a0, a1, a2, a3, a4, a5, a6, a7, a8, some (vI x), a10] st μ G := ev_st pg_121_57 rfl (mm_nl_of h) (Nat.le_of_ble_eq_true rfl)
theorem pg_121_59 : mm_prog 121 59 = some (0, .iload 9, 61, []) := by decide +kernel
theorem xe_121_59 (a0 a1 a2 a3 a4 a5 a6 a7 a8 a10 : Option MV) (x : Int) (st : List MV) (μ : MM) (G : MG) : ev 121 59 [a0, a1, a2, a3, a4, a5, a6, a7, a8, some (vI x), a10] st μ G = ev 121 61 [a0, a1, a2, a3, a4, a5, a6, a7, a8, some (vI x), a10] (vI x :: st) μ G := ev_stp pg_121_59 rfl
theorem pg_121_61 : mm_prog 121 61 = some (0, .iconst 3, 62, []) := by decide +kernel
theorem xe_121_61 (a0 a1 a2 a3 a4 a5 a6 a7 a8 a9 a10 : Option MV) (st : List MV) (μ : MM) (G : MG) : ev 121 61 [a0, a1, a2, a3, a4, a5, a6, a7, a8, a9, a10] st μ G = ev 121 62 [a0, a1, a2, a3, a4, a5, a6, a7, a8, a9, a10] (vI (3) :: st) μ G := ev_stp pg_121_61 rfl
theorem pg_121_62 : mm_prog 121 62 = some (0, .if_icmp .gt 48, 65, []) := by decide +kernel
theorem xe_121_62 (a0 a1 a2 a3 a4 a5 a6 a7 a8 a9 a10 : Option MV) (x y : Int) (st : List MV) (μ : MM) (G : MG) : ev 121 62 [a0, a1, a2, a3, a4, a5, a6, a7, a8, a9, a10] (vI y :: vI x :: st) μ G = if y < x then ev 121 110 [a0, a1, a2, a3, a4, a5, a6, a7, a8, a9, a10] st μ G else ev 121 65 [a0, a1, a2, a3, a4, a5, a6, a7, a8, a9, a10] st μ G := ev_br (mm_cnd_gt x y) pg_121_62 rfl
theorem pg_121_65 : mm_prog 121 65 = some (0, .iload 8, 67, []) := by decide +kernel
theorem xe_121_65 (a0 a1 a2 a3 a4 a5 a6 a7 a9 a10 : Option MV) (x : Int) (st : List MV) (μ : MM) (G : MG) : ev 121 65 [a0, a1, a2, a3, a4, a5, a6, a7, some (vI x), a9, a10] st μ G = ev 121 67 [a0, a1, a2, a3, a4, a5, a6, a7, some (vI x), a9, a10] (vI x :: st) μ G := ev_stp pg_121_65 rfl
theorem pg_121_67 : mm_prog 121 67 = some (0, .iload 9, 69, []) := by decide +kernel
theorem xe_121_67 (a0 a1 a2 a3 a4 a5 a6 a7 a8 a10 : Option MV) (x : Int) (st : List MV) (μ : MM) (G : MG) : ev 121 67 [a0, a1, a2, a3, a4, a5, a6, a7, a8, some (vI x), a10] st μ G = ev 121 69 [a0, a1, a2, a3, a4, a5, a6, a7, a8, some (vI x), a10] (vI x :: st) μ G := ev_stp pg_121_67 rfl
theorem pg_121_69 : mm_prog 121 69 = some (1, .invokestatic 269, 72, [0, 124, 2, 0]) := by decide +kernel
theorem xe_121_69 (a0 a1 a2 a3 a4 a5 a6 a7 a8 a9 a10 : Option MV) (x0 x1 : Int) (μ : MM) (G : MG) : ev 121 69 [a0, a1, a2, a3, a4, a5, a6, a7, a8, a9, a10] (vI x1 :: vI x0 :: []) μ G = (ev 124 0 [some (vI x0), some (vI x1)] [] μ G).bind (fun q => ev 121 72 [a0, a1, a2, a3, a4, a5, a6, a7, a8, a9, a10] (q.1.toList ++ []) q.2.1 q.2.2) := ev_calS (as := [vI x0, vI x1]) (r := []) mx_124 pg_121_69 rfl rfl (Nat.le_of_ble_eq_true rfl) (Nat.le_of_ble_eq_true rfl)
theorem pg_121_72 : mm_prog 121 72 = some (0, .istore 10, 74, []) := by decide +kernel
theorem xe_121_72 (a0 a1 a2 a3 a4 a5 a6 a7 a8 a9 a10 : Option MV) (x : Int) (st : List MV) (μ : MM) (G : MG) (h : mm_nL a9 = true) : ev 121 72 [a0, a1, a2, a3, a4, a5, a6, a7, a8, a9, a10] (vI x :: st) μ G = ev 121 74 [a0, a1, a2, a3, a4, a5, a6, a7, a8, a9, some (vI x)] st μ G := ev_st pg_121_72 rfl (mm_nl_of h) (Nat.le_of_ble_eq_true rfl)
theorem pg_121_74 : mm_prog 121 74 = some (0, .lload 4, 76, []) := by decide +kernel
theorem xe_121_74 (a0 a1 a2 a3 a5 a6 a7 a8 a9 a10 : Option MV) (x : Int) (st : List MV) (μ : MM) (G : MG) : ev 121 74 [a0, a1, a2, a3, some (vL x), a5, a6, a7, a8, a9, a10] st μ G = ev 121 76 [a0, a1, a2, a3, some (vL x), a5, a6, a7, a8, a9, a10] (vL x :: st) μ G := ev_stp pg_121_74 rfl
theorem pg_121_76 : mm_prog 121 76 = some (0, .iload 10, 78, []) := by decide +kernel
theorem xe_121_76 (a0 a1 a2 a3 a4 a5 a6 a7 a8 a9 : Option MV) (x : Int) (st : List MV) (μ : MM) (G : MG) : ev 121 76 [a0, a1, a2, a3, a4, a5, a6, a7, a8, a9, some (vI x)] st μ G = ev 121 78 [a0, a1, a2, a3, a4, a5, a6, a7, a8, a9, some (vI x)] (vI x :: st) μ G := ev_stp pg_121_76 rfl
theorem pg_121_78 : mm_prog 121 78 = some (0, .i2l, 79, []) := by decide +kernel
theorem xe_121_78 (a0 a1 a2 a3 a4 a5 a6 a7 a8 a9 a10 : Option MV) (x : Int) (st : List MV) (μ : MM) (G : MG) : ev 121 78 [a0, a1, a2, a3, a4, a5, a6, a7, a8, a9, a10] (vI x :: st) μ G = ev 121 79 [a0, a1, a2, a3, a4, a5, a6, a7, a8, a9, a10] (vL x :: st) μ G := ev_stp pg_121_78 rfl
theorem pg_121_79 : mm_prog 121 79 = some (0, .lcmp, 80, []) := by decide +kernel
theorem xe_121_79 (a0 a1 a2 a3 a4 a5 a6 a7 a8 a9 a10 : Option MV) (x y : Int) (st : List MV) (μ : MM) (G : MG) : ev 121 79 [a0, a1, a2, a3, a4, a5, a6, a7, a8, a9, a10] (vL y :: vL x :: st) μ G = ev 121 80 [a0, a1, a2, a3, a4, a5, a6, a7, a8, a9, a10] (vI (mm_cmp x y) :: st) μ G := ev_stp pg_121_79 rfl
theorem pg_121_80 : mm_prog 121 80 = some (0, .ifCond .gt 24, 83, []) := by decide +kernel
theorem xe_121_80 (a0 a1 a2 a3 a4 a5 a6 a7 a8 a9 a10 : Option MV) (x : Int) (st : List MV) (μ : MM) (G : MG) : ev 121 80 [a0, a1, a2, a3, a4, a5, a6, a7, a8, a9, a10] (vI x :: st) μ G = if 0 < x then ev 121 104 [a0, a1, a2, a3, a4, a5, a6, a7, a8, a9, a10] st μ G else ev 121 83 [a0, a1, a2, a3, a4, a5, a6, a7, a8, a9, a10] st μ G := ev_br (mm_cnd_gt x 0) pg_121_80 rfl
theorem pg_121_83 : mm_prog 121 83 = some (0, .iload 10, 85, []) := by decide +kernel
theorem xe_121_83 (a0 a1 a2 a3 a4 a5 a6 a7 a8 a9 : Option MV) (x : Int) (st : List MV) (μ : MM) (G : MG) : ev 121 83 [a0, a1, a2, a3, a4, a5, a6, a7, a8, a9, some (vI x)] st μ G = ev 121 85 [a0, a1, a2, a3, a4, a5, a6, a7, a8, a9, some (vI x)] (vI x :: st) μ G := ev_stp pg_121_83 rfl
theorem pg_121_85 : mm_prog 121 85 = some (0, .iload 7, 87, []) := by decide +kernel
theorem xe_121_85 (a0 a1 a2 a3 a4 a5 a6 a8 a9 a10 : Option MV) (x : Int) (st : List MV) (μ : MM) (G : MG) : ev 121 85 [a0, a1, a2, a3, a4, a5, a6, some (vI x), a8, a9, a10] st μ G = ev 121 87 [a0, a1, a2, a3, a4, a5, a6, some (vI x), a8, a9, a10] (vI x :: st) μ G := ev_stp pg_121_85 rfl
theorem pg_121_87 : mm_prog 121 87 = some (0, .if_icmp .ge 17, 90, []) := by decide +kernel
theorem xe_121_87 (a0 a1 a2 a3 a4 a5 a6 a7 a8 a9 a10 : Option MV) (x y : Int) (st : List MV) (μ : MM) (G : MG) : ev 121 87 [a0, a1, a2, a3, a4, a5, a6, a7, a8, a9, a10] (vI y :: vI x :: st) μ G = if y ≤ x then ev 121 104 [a0, a1, a2, a3, a4, a5, a6, a7, a8, a9, a10] st μ G else ev 121 90 [a0, a1, a2, a3, a4, a5, a6, a7, a8, a9, a10] st μ G := ev_br (mm_cnd_ge x y) pg_121_87 rfl
theorem pg_121_90 : mm_prog 121 90 = some (0, .iload 10, 92, []) := by decide +kernel
theorem xe_121_90 (a0 a1 a2 a3 a4 a5 a6 a7 a8 a9 : Option MV) (x : Int) (st : List MV) (μ : MM) (G : MG) : ev 121 90 [a0, a1, a2, a3, a4, a5, a6, a7, a8, a9, some (vI x)] st μ G = ev 121 92 [a0, a1, a2, a3, a4, a5, a6, a7, a8, a9, some (vI x)] (vI x :: st) μ G := ev_stp pg_121_90 rfl
theorem pg_121_92 : mm_prog 121 92 = some (0, .istore 7, 94, []) := by decide +kernel
theorem xe_121_92 (a0 a1 a2 a3 a4 a5 a6 a7 a8 a9 a10 : Option MV) (x : Int) (st : List MV) (μ : MM) (G : MG) (h : mm_nL a6 = true) : ev 121 92 [a0, a1, a2, a3, a4, a5, a6, a7, a8, a9, a10] (vI x :: st) μ G = ev 121 94 [a0, a1, a2, a3, a4, a5, a6, some (vI x), a8, a9, a10] st μ G := ev_st pg_121_92 rfl (mm_nl_of h) (Nat.le_of_ble_eq_true rfl)
theorem pg_121_94 : mm_prog 121 94 = some (0, .bipush 10, 96, []) := by decide +kernel
theorem xe_121_94 (a0 a1 a2 a3 a4 a5 a6 a7 a8 a9 a10 : Option MV) (st : List MV) (μ : MM) (G : MG) : ev 121 94 [a0, a1, a2, a3, a4, a5, a6, a7, a8, a9, a10] st μ G = ev 121 96 [a0, a1, a2, a3, a4, a5, a6, a7, a8, a9, a10] (vI (10) :: st) μ G := ev_stp pg_121_94 rfl
theorem pg_121_96 : mm_prog 121 96 = some (0, .iload 8, 98, []) := by decide +kernel
theorem xe_121_96 (a0 a1 a2 a3 a4 a5 a6 a7 a9 a10 : Option MV) (x : Int) (st : List MV) (μ : MM) (G : MG) : ev 121 96 [a0, a1, a2, a3, a4, a5, a6, a7, some (vI x), a9, a10] st μ G = ev 121 98 [a0, a1, a2, a3, a4, a5, a6, a7, some (vI x), a9, a10] (vI x :: st) μ G := ev_stp pg_121_96 rfl
theorem pg_121_98 : mm_prog 121 98 = some (0, .imul, 99, []) := by decide +kernel
theorem xe_121_98 (a0 a1 a2 a3 a4 a5 a6 a7 a8 a9 a10 : Option MV) (x y : Int) (st : List MV) (μ : MM) (G : MG) : ev 121 98 [a0, a1, a2, a3, a4, a5, a6, a7, a8, a9, a10] (vI y :: vI x :: st) μ G = ev 121 99 [a0, a1, a2, a3, a4, a5, a6, a7, a8, a9, a10] (vI (w32 (x * y)) :: st) μ G := ev_stp pg_121_98 rfl
theorem pg_121_99 : mm_prog 121 99 = some (0, .iload 9, 101, []) := by decide +kernel
theorem xe_121_99 (a0 a1 a2 a3 a4 a5 a6 a7 a8 a10 : Option MV) (x : Int) (st : List MV) (μ : MM) (G : MG) : ev 121 99 [a0, a1, a2, a3, a4, a5, a6, a7, a8, some (vI x), a10] st μ G = ev 121 101 [a0, a1, a2, a3, a4, a5, a6, a7, a8, some (vI x), a10] (vI x :: st) μ G := ev_stp pg_121_99 rfl
theorem pg_121_101 : mm_prog 121 101 = some (0, .iadd, 102, []) := by decide +kernel
theorem xe_121_101 (a0 a1 a2 a3 a4 a5 a6 a7 a8 a9 a10 : Option MV) (x y : Int) (st : List MV) (μ : MM) (G : MG) : ev 121 101 [a0, a1, a2, a3, a4, a5, a6, a7, a8, a9, a10] (vI y :: vI x :: st) μ G = ev 121 102 [a0, a1, a2, a3, a4, a5, a6, a7, a8, a9, a10] (vI (w32 (x + y)) :: st) μ G := ev_stp pg_121_101 rfl
theorem pg_121_102 : mm_prog 121 102 = some (0, .istore 6, 104, []) := by decide +kernel
theorem xe_121_102 (a0 a1 a2 a3 a4 a5 a6 a7 a8 a9 a10 : Option MV) (x : Int) (st : List MV) (μ : MM) (G : MG) (h : mm_nL a5 = true) : ev 121 102 [a0, a1, a2, a3, a4, a5, a6, a7, a8, a9, a10] (vI x :: st) μ G = ev 121 104 [a0, a1, a2, a3, a4, a5, some (vI x), a7, a8, a9, a10] st μ G := ev_st pg_121_102 rfl (mm_nl_of h) (Nat.le_of_ble_eq_true rfl)
theorem pg_121_104 : mm_prog 121 104 = some (0, .iinc 9 1, 107, []) := by decide +kernel
theorem xe_121_104 (a0 a1 a2 a3 a4 a5 a6 a7 a8 a10 : Option MV) (x : Int) (st : List MV) (μ : MM) (G : MG) (h : mm_nL a8 = true) : ev 121 104 [a0, a1, a2, a3, a4, a5, a6, a7, a8, some (vI x), a10] st μ G = ev 121 107 [a0, a1, a2, a3, a4, a5, a6, a7, a8, some (vI (w32 (x + (1)))), a10] st μ G := ev_st pg_121_104 rfl (mm_nl_of h) (Nat.le_of_ble_eq_true rfl)
theorem pg_121_107 : mm_prog 121 107 = some (0, .goto (-48), 110, []) := by decide +kernel
theorem xe_121_107 (a0 a1 a2 a3 a4 a5 a6 a7 a8 a9 a10 : Option MV) (st : List MV) (μ : MM) (G : MG) : ev 121 107 [a0, a1, a2, a3, a4, a5, a6, a7, a8, a9, a10] st μ G = ev 121 59 [a0, a1, a2, a3, a4, a5, a6, a7, a8, a9, a10] st μ G := ev_stp pg_121_107 rfl
theorem pg_121_110 : mm_prog 121 110 = some (0, .iload 8, 112, []) := by decide +kernel
theorem xe_121_110 (a0 a1 a2 a3 a4 a5 a6 a7 a9 a10 : Option MV) (x : Int) (st : List MV) (μ : MM) (G : MG) : ev 121 110 [a0, a1, a2, a3, a4, a5, a6, a7, some (vI x), a9, a10] st μ G = ev 121 112 [a0, a1, a2, a3, a4, a5, a6, a7, some (vI x), a9, a10] (vI x :: st) μ G := ev_stp pg_121_110 rfl
theorem pg_121_112 : mm_prog 121 112 = some (0, .iconst 2, 113, []) := by decide +kernel
theorem xe_121_112 (a0 a1 a2 a3 a4 a5 a6 a7 a8 a9 a10 : Option MV) (st : List MV) (μ : MM) (G : MG) : ev 121 112 [a0, a1, a2, a3, a4, a5, a6, a7, a8, a9, a10] st μ G = ev 121 113 [a0, a1, a2, a3, a4, a5, a6, a7, a8, a9, a10] (vI (2) :: st) μ G := ev_stp pg_121_112 rfl
theorem pg_121_113 : mm_prog 121 113 = some (0, .imul, 114, []) := by decide +kernel
theorem xe_121_113 (a0 a1 a2 a3 a4 a5 a6 a7 a8 a9 a10 : Option MV) (x y : Int) (st : List MV) (μ : MM) (G : MG) : ev 121 113 [a0, a1, a2, a3, a4, a5, a6, a7, a8, a9, a10] (vI y :: vI x :: st) μ G = ev 121 114 [a0, a1, a2, a3, a4, a5, a6, a7, a8, a9, a10] (vI (w32 (x * y)) :: st) μ G := ev_stp pg_121_113 rfl
theorem pg_121_114 : mm_prog 121 114 = some (0, .istore 8, 116, []) := by decide +kernel
theorem xe_121_114 (a0 a1 a2 a3 a4 a5 a6 a7 a8 a9 a10 : Option MV) (x : Int) (st : List MV) (μ : MM) (G : MG) (h : mm_nL a7 = true) : ev 121 114 [a0, a1, a2, a3, a4, a5, a6, a7, a8, a9, a10] (vI x :: st) μ G = ev 121 116 [a0, a1, a2, a3, a4, a5, a6, a7, some (vI x), a9, a10] st μ G := ev_st pg_121_114 rfl (mm_nl_of h) (Nat.le_of_ble_eq_true rfl)
theorem pg_121_116 : mm_prog 121 116 = some (0, .goto (-66), 119, []) := by decide +kernel
theorem xe_121_116 (a0 a1 a2 a3 a4 a5 a6 a7 a8 a9 a10 : Option MV) (st : List MV) (μ : MM) (G : MG) : ev 121 116 [a0, a1, a2, a3, a4, a5, a6, a7, a8, a9, a10] st μ G = ev 121 50 [a0, a1, a2, a3, a4, a5, a6, a7, a8, a9, a10] st μ G := ev_stp pg_121_116 rfl
theorem pg_121_119 : mm_prog 121 119 = some (0, .iload 6, 121, []) := by decide +kernel
theorem xe_121_119 (a0 a1 a2 a3 a4 a5 a7 a8 a9 a10 : Option MV) (x : Int) (st : List MV) (μ : MM) (G : MG) : ev 121 119 [a0, a1, a2, a3, a4, a5, some (vI x), a7, a8, a9, a10] st μ G = ev 121 121 [a0, a1, a2, a3, a4, a5, some (vI x), a7, a8, a9, a10] (vI x :: st) μ G := ev_stp pg_121_119 rfl
theorem pg_121_121 : mm_prog 121 121 = some (2, .ireturn, 122, [0]) := by decide +kernel
theorem xe_121_121 (a0 a1 a2 a3 a4 a5 a6 a7 a8 a9 a10 : Option MV) (x : Int) (μ : MM) (G : MG) : ev 121 121 [a0, a1, a2, a3, a4, a5, a6, a7, a8, a9, a10] [vI x] μ G = some (some (vI x), μ, G) := ev_ret pg_121_121 rfl
-- X10_isLink
theorem pg_122_0 : mm_prog 122 0 = some (0, .iload_n 0, 1, []) := by decide +kernel
theorem xe_122_0 (a1 : Option MV) (x : Int) (st : List MV) (μ : MM) (G : MG) : ev 122 0 [some (vI x), a1] st μ G = ev 122 1 [some (vI x), a1] (vI x :: st) μ G := ev_stp pg_122_0 rfl
theorem pg_122_1 : mm_prog 122 1 = some (0, .iconst 1, 2, []) := by decide +kernel
theorem xe_122_1 (a0 a1 : Option MV) (st : List MV) (μ : MM) (G : MG) : ev 122 1 [a0, a1] st μ G = ev 122 2 [a0, a1] (vI (1) :: st) μ G := ev_stp pg_122_1 rfl
theorem pg_122_2 : mm_prog 122 2 = some (0, .if_icmp .eq 13, 5, []) := by decide +kernel
theorem xe_122_2 (a0 a1 : Option MV) (x y : Int) (st : List MV) (μ : MM) (G : MG) : ev 122 2 [a0, a1] (vI y :: vI x :: st) μ G = if x = y then ev 122 15 [a0, a1] st μ G else ev 122 5 [a0, a1] st μ G := ev_br (mm_cnd_eq x y) pg_122_2 rfl
theorem pg_122_5 : mm_prog 122 5 = some (0, .iload_n 0, 6, []) := by decide +kernel
theorem xe_122_5 (a1 : Option MV) (x : Int) (st : List MV) (μ : MM) (G : MG) : ev 122 5 [some (vI x), a1] st μ G = ev 122 6 [some (vI x), a1] (vI x :: st) μ G := ev_stp pg_122_5 rfl
theorem pg_122_6 : mm_prog 122 6 = some (0, .iconst 2, 7, []) := by decide +kernel
theorem xe_122_6 (a0 a1 : Option MV) (st : List MV) (μ : MM) (G : MG) : ev 122 6 [a0, a1] st μ G = ev 122 7 [a0, a1] (vI (2) :: st) μ G := ev_stp pg_122_6 rfl
theorem pg_122_7 : mm_prog 122 7 = some (0, .if_icmp .eq 8, 10, []) := by decide +kernel
theorem xe_122_7 (a0 a1 : Option MV) (x y : Int) (st : List MV) (μ : MM) (G : MG) : ev 122 7 [a0, a1] (vI y :: vI x :: st) μ G = if x = y then ev 122 15 [a0, a1] st μ G else ev 122 10 [a0, a1] st μ G := ev_br (mm_cnd_eq x y) pg_122_7 rfl
theorem pg_122_10 : mm_prog 122 10 = some (0, .iload_n 0, 11, []) := by decide +kernel
theorem xe_122_10 (a1 : Option MV) (x : Int) (st : List MV) (μ : MM) (G : MG) : ev 122 10 [some (vI x), a1] st μ G = ev 122 11 [some (vI x), a1] (vI x :: st) μ G := ev_stp pg_122_10 rfl
theorem pg_122_11 : mm_prog 122 11 = some (0, .iconst 4, 12, []) := by decide +kernel
theorem xe_122_11 (a0 a1 : Option MV) (st : List MV) (μ : MM) (G : MG) : ev 122 11 [a0, a1] st μ G = ev 122 12 [a0, a1] (vI (4) :: st) μ G := ev_stp pg_122_11 rfl
theorem pg_122_12 : mm_prog 122 12 = some (0, .if_icmp .ne 16, 15, []) := by decide +kernel
theorem xe_122_12 (a0 a1 : Option MV) (x y : Int) (st : List MV) (μ : MM) (G : MG) : ev 122 12 [a0, a1] (vI y :: vI x :: st) μ G = if ¬ x = y then ev 122 28 [a0, a1] st μ G else ev 122 15 [a0, a1] st μ G := ev_br (mm_cnd_ne x y) pg_122_12 rfl
theorem pg_122_15 : mm_prog 122 15 = some (0, .iload_n 1, 16, []) := by decide +kernel
theorem xe_122_15 (a0 : Option MV) (x : Int) (st : List MV) (μ : MM) (G : MG) : ev 122 15 [a0, some (vI x)] st μ G = ev 122 16 [a0, some (vI x)] (vI x :: st) μ G := ev_stp pg_122_15 rfl
theorem pg_122_16 : mm_prog 122 16 = some (0, .ifCond .lt 12, 19, []) := by decide +kernel
theorem xe_122_16 (a0 a1 : Option MV) (x : Int) (st : List MV) (μ : MM) (G : MG) : ev 122 16 [a0, a1] (vI x :: st) μ G = if x < 0 then ev 122 28 [a0, a1] st μ G else ev 122 19 [a0, a1] st μ G := ev_br (mm_cnd_lt x 0) pg_122_16 rfl
theorem pg_122_19 : mm_prog 122 19 = some (0, .iload_n 1, 20, []) := by decide +kernel
theorem xe_122_19 (a0 : Option MV) (x : Int) (st : List MV) (μ : MM) (G : MG) : ev 122 19 [a0, some (vI x)] st μ G = ev 122 20 [a0, some (vI x)] (vI x :: st) μ G := ev_stp pg_122_19 rfl
theorem pg_122_20 : mm_prog 122 20 = some (0, .iconst 3, 21, []) := by decide +kernel
theorem xe_122_20 (a0 a1 : Option MV) (st : List MV) (μ : MM) (G : MG) : ev 122 20 [a0, a1] st μ G = ev 122 21 [a0, a1] (vI (3) :: st) μ G := ev_stp pg_122_20 rfl
theorem pg_122_21 : mm_prog 122 21 = some (0, .if_icmp .gt 7, 24, []) := by decide +kernel
theorem xe_122_21 (a0 a1 : Option MV) (x y : Int) (st : List MV) (μ : MM) (G : MG) : ev 122 21 [a0, a1] (vI y :: vI x :: st) μ G = if y < x then ev 122 28 [a0, a1] st μ G else ev 122 24 [a0, a1] st μ G := ev_br (mm_cnd_gt x y) pg_122_21 rfl
theorem pg_122_24 : mm_prog 122 24 = some (0, .iconst 1, 25, []) := by decide +kernel
theorem xe_122_24 (a0 a1 : Option MV) (st : List MV) (μ : MM) (G : MG) : ev 122 24 [a0, a1] st μ G = ev 122 25 [a0, a1] (vI (1) :: st) μ G := ev_stp pg_122_24 rfl
theorem pg_122_25 : mm_prog 122 25 = some (0, .goto 4, 28, []) := by decide +kernel
theorem xe_122_25 (a0 a1 : Option MV) (st : List MV) (μ : MM) (G : MG) : ev 122 25 [a0, a1] st μ G = ev 122 29 [a0, a1] st μ G := ev_stp pg_122_25 rfl
theorem pg_122_28 : mm_prog 122 28 = some (0, .iconst 0, 29, []) := by decide +kernel
theorem xe_122_28 (a0 a1 : Option MV) (st : List MV) (μ : MM) (G : MG) : ev 122 28 [a0, a1] st μ G = ev 122 29 [a0, a1] (vI (0) :: st) μ G := ev_stp pg_122_28 rfl
theorem pg_122_29 : mm_prog 122 29 = some (2, .ireturn, 30, [1]) := by decide +kernel
theorem xe_122_29 (a0 a1 : Option MV) (x : Int) (μ : MM) (G : MG) : ev 122 29 [a0, a1] [vI x] μ G = if x = 0 ∨ x = 1 then some (some (vI x), μ, G) else none := ev_retB pg_122_29
-- X10_isDepth
theorem pg_123_0 : mm_prog 123 0 = some (0, .iload_n 0, 1, []) := by decide +kernel
theorem xe_123_0 (x : Int) (st : List MV) (μ : MM) (G : MG) : ev 123 0 [some (vI x)] st μ G = ev 123 1 [some (vI x)] (vI x :: st) μ G := ev_stp pg_123_0 rfl
theorem pg_123_1 : mm_prog 123 1 = some (0, .bipush 6, 3, []) := by decide +kernel
theorem xe_123_1 (a0 : Option MV) (st : List MV) (μ : MM) (G : MG) : ev 123 1 [a0] st μ G = ev 123 3 [a0] (vI (6) :: st) μ G := ev_stp pg_123_1 rfl
theorem pg_123_3 : mm_prog 123 3 = some (0, .if_icmp .eq 21, 6, []) := by decide +kernel
theorem xe_123_3 (a0 : Option MV) (x y : Int) (st : List MV) (μ : MM) (G : MG) : ev 123 3 [a0] (vI y :: vI x :: st) μ G = if x = y then ev 123 24 [a0] st μ G else ev 123 6 [a0] st μ G := ev_br (mm_cnd_eq x y) pg_123_3 rfl
theorem pg_123_6 : mm_prog 123 6 = some (0, .iload_n 0, 7, []) := by decide +kernel
theorem xe_123_6 (x : Int) (st : List MV) (μ : MM) (G : MG) : ev 123 6 [some (vI x)] st μ G = ev 123 7 [some (vI x)] (vI x :: st) μ G := ev_stp pg_123_6 rfl
theorem pg_123_7 : mm_prog 123 7 = some (0, .bipush 8, 9, []) := by decide +kernel
theorem xe_123_7 (a0 : Option MV) (st : List MV) (μ : MM) (G : MG) : ev 123 7 [a0] st μ G = ev 123 9 [a0] (vI (8) :: st) μ G := ev_stp pg_123_7 rfl
theorem pg_123_9 : mm_prog 123 9 = some (0, .if_icmp .eq 15, 12, []) := by decide +kernel
theorem xe_123_9 (a0 : Option MV) (x y : Int) (st : List MV) (μ : MM) (G : MG) : ev 123 9 [a0] (vI y :: vI x :: st) μ G = if x = y then ev 123 24 [a0] st μ G else ev 123 12 [a0] st μ G := ev_br (mm_cnd_eq x y) pg_123_9 rfl
theorem pg_123_12 : mm_prog 123 12 = some (0, .iload_n 0, 13, []) := by decide +kernel
theorem xe_123_12 (x : Int) (st : List MV) (μ : MM) (G : MG) : ev 123 12 [some (vI x)] st μ G = ev 123 13 [some (vI x)] (vI x :: st) μ G := ev_stp pg_123_12 rfl
theorem pg_123_13 : mm_prog 123 13 = some (0, .bipush 10, 15, []) := by decide +kernel
theorem xe_123_13 (a0 : Option MV) (st : List MV) (μ : MM) (G : MG) : ev 123 13 [a0] st μ G = ev 123 15 [a0] (vI (10) :: st) μ G := ev_stp pg_123_13 rfl
theorem pg_123_15 : mm_prog 123 15 = some (0, .if_icmp .eq 9, 18, []) := by decide +kernel
theorem xe_123_15 (a0 : Option MV) (x y : Int) (st : List MV) (μ : MM) (G : MG) : ev 123 15 [a0] (vI y :: vI x :: st) μ G = if x = y then ev 123 24 [a0] st μ G else ev 123 18 [a0] st μ G := ev_br (mm_cnd_eq x y) pg_123_15 rfl
theorem pg_123_18 : mm_prog 123 18 = some (0, .iload_n 0, 19, []) := by decide +kernel
theorem xe_123_18 (x : Int) (st : List MV) (μ : MM) (G : MG) : ev 123 18 [some (vI x)] st μ G = ev 123 19 [some (vI x)] (vI x :: st) μ G := ev_stp pg_123_18 rfl
theorem pg_123_19 : mm_prog 123 19 = some (0, .bipush 12, 21, []) := by decide +kernel
theorem xe_123_19 (a0 : Option MV) (st : List MV) (μ : MM) (G : MG) : ev 123 19 [a0] st μ G = ev 123 21 [a0] (vI (12) :: st) μ G := ev_stp pg_123_19 rfl
theorem pg_123_21 : mm_prog 123 21 = some (0, .if_icmp .ne 7, 24, []) := by decide +kernel
theorem xe_123_21 (a0 : Option MV) (x y : Int) (st : List MV) (μ : MM) (G : MG) : ev 123 21 [a0] (vI y :: vI x :: st) μ G = if ¬ x = y then ev 123 28 [a0] st μ G else ev 123 24 [a0] st μ G := ev_br (mm_cnd_ne x y) pg_123_21 rfl
theorem pg_123_24 : mm_prog 123 24 = some (0, .iconst 1, 25, []) := by decide +kernel
theorem xe_123_24 (a0 : Option MV) (st : List MV) (μ : MM) (G : MG) : ev 123 24 [a0] st μ G = ev 123 25 [a0] (vI (1) :: st) μ G := ev_stp pg_123_24 rfl
theorem pg_123_25 : mm_prog 123 25 = some (0, .goto 4, 28, []) := by decide +kernel
theorem xe_123_25 (a0 : Option MV) (st : List MV) (μ : MM) (G : MG) : ev 123 25 [a0] st μ G = ev 123 29 [a0] st μ G := ev_stp pg_123_25 rfl
theorem pg_123_28 : mm_prog 123 28 = some (0, .iconst 0, 29, []) := by decide +kernel
theorem xe_123_28 (a0 : Option MV) (st : List MV) (μ : MM) (G : MG) : ev 123 28 [a0] st μ G = ev 123 29 [a0] (vI (0) :: st) μ G := ev_stp pg_123_28 rfl
theorem pg_123_29 : mm_prog 123 29 = some (2, .ireturn, 30, [1]) := by decide +kernel
theorem xe_123_29 (a0 : Option MV) (x : Int) (μ : MM) (G : MG) : ev 123 29 [a0] [vI x] μ G = if x = 0 ∨ x = 1 then some (some (vI x), μ, G) else none := ev_retB pg_123_29
-- X10_roomOf
theorem pg_124_0 : mm_prog 124 0 = some (0, .iload_n 1, 1, []) := by decide +kernel
theorem xe_124_0 (a0 : Option MV) (x : Int) (st : List MV) (μ : MM) (G : MG) : ev 124 0 [a0, some (vI x)] st μ G = ev 124 1 [a0, some (vI x)] (vI x :: st) μ G := ev_stp pg_124_0 rfl
theorem pg_124_1 : mm_prog 124 1 = some (0, .ifCond .lt 24, 4, []) := by decide +kernel
theorem xe_124_1 (a0 a1 : Option MV) (x : Int) (st : List MV) (μ : MM) (G : MG) : ev 124 1 [a0, a1] (vI x :: st) μ G = if x < 0 then ev 124 25 [a0, a1] st μ G else ev 124 4 [a0, a1] st μ G := ev_br (mm_cnd_lt x 0) pg_124_1 rfl
theorem pg_124_4 : mm_prog 124 4 = some (0, .iload_n 1, 5, []) := by decide +kernel
theorem xe_124_4 (a0 : Option MV) (x : Int) (st : List MV) (μ : MM) (G : MG) : ev 124 4 [a0, some (vI x)] st μ G = ev 124 5 [a0, some (vI x)] (vI x :: st) μ G := ev_stp pg_124_4 rfl
theorem pg_124_5 : mm_prog 124 5 = some (0, .getstatic 281, 8, [2, 1]) := by decide +kernel
theorem xe_124_5 (a0 a1 : Option MV) (st : List MV) (μ : MM) (G : MG) : ev 124 5 [a0, a1] st μ G = ev 124 8 [a0, a1] (vR 1 :: st) μ G := ev_stp pg_124_5 rfl
theorem pg_124_8 : mm_prog 124 8 = some (0, .arraylength, 9, []) := by decide +kernel
theorem xe_124_8 (a0 a1 : Option MV) (x : Int) (st : List MV) (μ : MM) (G : MG) : ev 124 8 [a0, a1] (vR x :: st) μ G = if 100 ≤ gk G x then ev 124 9 [a0, a1] (vI (gl G x) :: st) μ G else none := ev_if pg_124_8 rfl
theorem pg_124_9 : mm_prog 124 9 = some (0, .if_icmp .ge 16, 12, []) := by decide +kernel
theorem xe_124_9 (a0 a1 : Option MV) (x y : Int) (st : List MV) (μ : MM) (G : MG) : ev 124 9 [a0, a1] (vI y :: vI x :: st) μ G = if y ≤ x then ev 124 25 [a0, a1] st μ G else ev 124 12 [a0, a1] st μ G := ev_br (mm_cnd_ge x y) pg_124_9 rfl
theorem pg_124_12 : mm_prog 124 12 = some (0, .iload_n 0, 13, []) := by decide +kernel
theorem xe_124_12 (a1 : Option MV) (x : Int) (st : List MV) (μ : MM) (G : MG) : ev 124 12 [some (vI x), a1] st μ G = ev 124 13 [some (vI x), a1] (vI x :: st) μ G := ev_stp pg_124_12 rfl
theorem pg_124_13 : mm_prog 124 13 = some (0, .getstatic 281, 16, [2, 1]) := by decide +kernel
theorem xe_124_13 (a0 a1 : Option MV) (st : List MV) (μ : MM) (G : MG) : ev 124 13 [a0, a1] st μ G = ev 124 16 [a0, a1] (vR 1 :: st) μ G := ev_stp pg_124_13 rfl
theorem pg_124_16 : mm_prog 124 16 = some (0, .iload_n 1, 17, []) := by decide +kernel
theorem xe_124_16 (a0 : Option MV) (x : Int) (st : List MV) (μ : MM) (G : MG) : ev 124 16 [a0, some (vI x)] st μ G = ev 124 17 [a0, some (vI x)] (vI x :: st) μ G := ev_stp pg_124_16 rfl
theorem pg_124_17 : mm_prog 124 17 = some (0, .iaload, 18, []) := by decide +kernel
theorem xe_124_17 (a0 a1 : Option MV) (x y : Int) (st : List MV) (μ : MM) (G : MG) : ev 124 17 [a0, a1] (vI x :: vR y :: st) μ G = if gk G y = 100 ∧ 0 ≤ x ∧ x < gl G y then ev 124 18 [a0, a1] (vI (μ y x) :: st) μ G else none := ev_if pg_124_17 rfl
theorem pg_124_18 : mm_prog 124 18 = some (0, .imul, 19, []) := by decide +kernel
theorem xe_124_18 (a0 a1 : Option MV) (x y : Int) (st : List MV) (μ : MM) (G : MG) : ev 124 18 [a0, a1] (vI y :: vI x :: st) μ G = ev 124 19 [a0, a1] (vI (w32 (x * y)) :: st) μ G := ev_stp pg_124_18 rfl
theorem pg_124_19 : mm_prog 124 19 = some (0, .bipush 8, 21, []) := by decide +kernel
theorem xe_124_19 (a0 a1 : Option MV) (st : List MV) (μ : MM) (G : MG) : ev 124 19 [a0, a1] st μ G = ev 124 21 [a0, a1] (vI (8) :: st) μ G := ev_stp pg_124_19 rfl
theorem pg_124_21 : mm_prog 124 21 = some (0, .imul, 22, []) := by decide +kernel
theorem xe_124_21 (a0 a1 : Option MV) (x y : Int) (st : List MV) (μ : MM) (G : MG) : ev 124 21 [a0, a1] (vI y :: vI x :: st) μ G = ev 124 22 [a0, a1] (vI (w32 (x * y)) :: st) μ G := ev_stp pg_124_21 rfl
theorem pg_124_22 : mm_prog 124 22 = some (0, .goto 4, 25, []) := by decide +kernel
theorem xe_124_22 (a0 a1 : Option MV) (st : List MV) (μ : MM) (G : MG) : ev 124 22 [a0, a1] st μ G = ev 124 26 [a0, a1] st μ G := ev_stp pg_124_22 rfl
theorem pg_124_25 : mm_prog 124 25 = some (0, .iconst 0, 26, []) := by decide +kernel
theorem xe_124_25 (a0 a1 : Option MV) (st : List MV) (μ : MM) (G : MG) : ev 124 25 [a0, a1] st μ G = ev 124 26 [a0, a1] (vI (0) :: st) μ G := ev_stp pg_124_25 rfl
theorem pg_124_26 : mm_prog 124 26 = some (2, .ireturn, 27, [0]) := by decide +kernel
theorem xe_124_26 (a0 a1 : Option MV) (x : Int) (μ : MM) (G : MG) : ev 124 26 [a0, a1] [vI x] μ G = some (some (vI x), μ, G) := ev_ret pg_124_26 rfl
-- X10_needOf
theorem pg_125_0 : mm_prog 125 0 = some (0, .iload_n 0, 1, []) := by decide +kernel
theorem xe_125_0 (a1 : Option MV) (x : Int) (st : List MV) (μ : MM) (G : MG) : ev 125 0 [some (vI x), a1] st μ G = ev 125 1 [some (vI x), a1] (vI x :: st) μ G := ev_stp pg_125_0 rfl
theorem pg_125_1 : mm_prog 125 1 = some (0, .i2l, 2, []) := by decide +kernel
theorem xe_125_1 (a0 a1 : Option MV) (x : Int) (st : List MV) (μ : MM) (G : MG) : ev 125 1 [a0, a1] (vI x :: st) μ G = ev 125 2 [a0, a1] (vL x :: st) μ G := ev_stp pg_125_1 rfl
theorem pg_125_2 : mm_prog 125 2 = some (0, .ldc2_w 285, 5, [3]) := by decide +kernel
theorem xe_125_2 (a0 a1 : Option MV) (st : List MV) (μ : MM) (G : MG) : ev 125 2 [a0, a1] st μ G = ev 125 5 [a0, a1] (vL (3) :: st) μ G := ev_stp pg_125_2 rfl
theorem pg_125_5 : mm_prog 125 5 = some (0, .lmul, 6, []) := by decide +kernel
theorem xe_125_5 (a0 a1 : Option MV) (x y : Int) (st : List MV) (μ : MM) (G : MG) : ev 125 5 [a0, a1] (vL y :: vL x :: st) μ G = ev 125 6 [a0, a1] (vL (w64 (x * y)) :: st) μ G := ev_stp pg_125_5 rfl
theorem pg_125_6 : mm_prog 125 6 = some (0, .iload_n 1, 7, []) := by decide +kernel
theorem xe_125_6 (a0 : Option MV) (x : Int) (st : List MV) (μ : MM) (G : MG) : ev 125 6 [a0, some (vI x)] st μ G = ev 125 7 [a0, some (vI x)] (vI x :: st) μ G := ev_stp pg_125_6 rfl
theorem pg_125_7 : mm_prog 125 7 = some (0, .i2l, 8, []) := by decide +kernel
theorem xe_125_7 (a0 a1 : Option MV) (x : Int) (st : List MV) (μ : MM) (G : MG) : ev 125 7 [a0, a1] (vI x :: st) μ G = ev 125 8 [a0, a1] (vL x :: st) μ G := ev_stp pg_125_7 rfl
theorem pg_125_8 : mm_prog 125 8 = some (0, .lmul, 9, []) := by decide +kernel
theorem xe_125_8 (a0 a1 : Option MV) (x y : Int) (st : List MV) (μ : MM) (G : MG) : ev 125 8 [a0, a1] (vL y :: vL x :: st) μ G = ev 125 9 [a0, a1] (vL (w64 (x * y)) :: st) μ G := ev_stp pg_125_8 rfl
theorem pg_125_9 : mm_prog 125 9 = some (2, .lreturn, 10, []) := by decide +kernel
theorem xe_125_9 (a0 a1 : Option MV) (x : Int) (μ : MM) (G : MG) : ev 125 9 [a0, a1] [vL x] μ G = some (some (vL x), μ, G) := ev_ret pg_125_9 rfl
-- X10_depthWithin
theorem pg_126_0 : mm_prog 126 0 = some (0, .aload_n 0, 1, []) := by decide +kernel
theorem xe_126_0 (a1 a2 a3 : Option MV) (x : Int) (st : List MV) (μ : MM) (G : MG) : ev 126 0 [some (vR x), a1, a2, a3] st μ G = ev 126 1 [some (vR x), a1, a2, a3] (vR x :: st) μ G := ev_stp pg_126_0 rfl
theorem pg_126_1 : mm_prog 126 1 = some (0, .getfield 88, 4, [10, 13, 0]) := by decide +kernel
theorem xe_126_1 (a0 a1 a2 a3 : Option MV) (x : Int) (st : List MV) (μ : MM) (G : MG) : ev 126 1 [a0, a1, a2, a3] (vR x :: st) μ G = if gk G x = 10 then ev 126 4 [a0, a1, a2, a3] (vI (μ x 13) :: st) μ G else none := ev_if pg_126_1 rfl
theorem pg_126_4 : mm_prog 126 4 = some (0, .istore_n 3, 5, []) := by decide +kernel
theorem xe_126_4 (a0 a1 a2 a3 : Option MV) (x : Int) (st : List MV) (μ : MM) (G : MG) (h : mm_nL a2 = true) : ev 126 4 [a0, a1, a2, a3] (vI x :: st) μ G = ev 126 5 [a0, a1, a2, some (vI x)] st μ G := ev_st pg_126_4 rfl (mm_nl_of h) (Nat.le_of_ble_eq_true rfl)
theorem pg_126_5 : mm_prog 126 5 = some (0, .iload_n 3, 6, []) := by decide +kernel
theorem xe_126_5 (a0 a1 a2 : Option MV) (x : Int) (st : List MV) (μ : MM) (G : MG) : ev 126 5 [a0, a1, a2, some (vI x)] st μ G = ev 126 6 [a0, a1, a2, some (vI x)] (vI x :: st) μ G := ev_stp pg_126_5 rfl
theorem pg_126_6 : mm_prog 126 6 = some (0, .bipush 6, 8, []) := by decide +kernel
theorem xe_126_6 (a0 a1 a2 a3 : Option MV) (st : List MV) (μ : MM) (G : MG) : ev 126 6 [a0, a1, a2, a3] st μ G = ev 126 8 [a0, a1, a2, a3] (vI (6) :: st) μ G := ev_stp pg_126_6 rfl
theorem pg_126_8 : mm_prog 126 8 = some (0, .if_icmp .lt 22, 11, []) := by decide +kernel
theorem xe_126_8 (a0 a1 a2 a3 : Option MV) (x y : Int) (st : List MV) (μ : MM) (G : MG) : ev 126 8 [a0, a1, a2, a3] (vI y :: vI x :: st) μ G = if x < y then ev 126 30 [a0, a1, a2, a3] st μ G else ev 126 11 [a0, a1, a2, a3] st μ G := ev_br (mm_cnd_lt x y) pg_126_8 rfl
theorem pg_126_11 : mm_prog 126 11 = some (0, .iload_n 1, 12, []) := by decide +kernel
theorem xe_126_11 (a0 a2 a3 : Option MV) (x : Int) (st : List MV) (μ : MM) (G : MG) : ev 126 11 [a0, some (vI x), a2, a3] st μ G = ev 126 12 [a0, some (vI x), a2, a3] (vI x :: st) μ G := ev_stp pg_126_11 rfl
theorem pg_126_12 : mm_prog 126 12 = some (0, .iload_n 3, 13, []) := by decide +kernel
theorem xe_126_12 (a0 a1 a2 : Option MV) (x : Int) (st : List MV) (μ : MM) (G : MG) : ev 126 12 [a0, a1, a2, some (vI x)] st μ G = ev 126 13 [a0, a1, a2, some (vI x)] (vI x :: st) μ G := ev_stp pg_126_12 rfl
theorem pg_126_13 : mm_prog 126 13 = some (1, .invokestatic 273, 16, [0, 125, 2, 0]) := by decide +kernel
theorem xe_126_13 (a0 a1 a2 a3 : Option MV) (x0 x1 : Int) (μ : MM) (G : MG) : ev 126 13 [a0, a1, a2, a3] (vI x1 :: vI x0 :: []) μ G = (ev 125 0 [some (vI x0), some (vI x1)] [] μ G).bind (fun q => ev 126 16 [a0, a1, a2, a3] (q.1.toList ++ []) q.2.1 q.2.2) := ev_calS (as := [vI x0, vI x1]) (r := []) mx_125 pg_126_13 rfl rfl (Nat.le_of_ble_eq_true rfl) (Nat.le_of_ble_eq_true rfl)
theorem pg_126_16 : mm_prog 126 16 = some (0, .iload_n 2, 17, []) := by decide +kernel
theorem xe_126_16 (a0 a1 a3 : Option MV) (x : Int) (st : List MV) (μ : MM) (G : MG) : ev 126 16 [a0, a1, some (vI x), a3] st μ G = ev 126 17 [a0, a1, some (vI x), a3] (vI x :: st) μ G := ev_stp pg_126_16 rfl
theorem pg_126_17 : mm_prog 126 17 = some (0, .i2l, 18, []) := by decide +kernel
theorem xe_126_17 (a0 a1 a2 a3 : Option MV) (x : Int) (st : List MV) (μ : MM) (G : MG) : ev 126 17 [a0, a1, a2, a3] (vI x :: st) μ G = ev 126 18 [a0, a1, a2, a3] (vL x :: st) μ G := ev_stp pg_126_17 rfl
theorem pg_126_18 : mm_prog 126 18 = some (0, .lcmp, 19, []) := by decide +kernel
theorem xe_126_18 (a0 a1 a2 a3 : Option MV) (x y : Int) (st : List MV) (μ : MM) (G : MG) : ev 126 18 [a0, a1, a2, a3] (vL y :: vL x :: st) μ G = ev 126 19 [a0, a1, a2, a3] (vI (mm_cmp x y) :: st) μ G := ev_stp pg_126_18 rfl
theorem pg_126_19 : mm_prog 126 19 = some (0, .ifCond .gt 5, 22, []) := by decide +kernel
theorem xe_126_19 (a0 a1 a2 a3 : Option MV) (x : Int) (st : List MV) (μ : MM) (G : MG) : ev 126 19 [a0, a1, a2, a3] (vI x :: st) μ G = if 0 < x then ev 126 24 [a0, a1, a2, a3] st μ G else ev 126 22 [a0, a1, a2, a3] st μ G := ev_br (mm_cnd_gt x 0) pg_126_19 rfl
theorem pg_126_22 : mm_prog 126 22 = some (0, .iload_n 3, 23, []) := by decide +kernel
theorem xe_126_22 (a0 a1 a2 : Option MV) (x : Int) (st : List MV) (μ : MM) (G : MG) : ev 126 22 [a0, a1, a2, some (vI x)] st μ G = ev 126 23 [a0, a1, a2, some (vI x)] (vI x :: st) μ G := ev_stp pg_126_22 rfl
theorem pg_126_23 : mm_prog 126 23 = some (2, .ireturn, 24, [0]) := by decide +kernel
theorem xe_126_23 (a0 a1 a2 a3 : Option MV) (x : Int) (μ : MM) (G : MG) : ev 126 23 [a0, a1, a2, a3] [vI x] μ G = some (some (vI x), μ, G) := ev_ret pg_126_23 rfl
theorem pg_126_24 : mm_prog 126 24 = some (0, .iinc 3 (-2), 27, []) := by decide +kernel
theorem xe_126_24 (a0 a1 a2 : Option MV) (x : Int) (st : List MV) (μ : MM) (G : MG) (h : mm_nL a2 = true) : ev 126 24 [a0, a1, a2, some (vI x)] st μ G = ev 126 27 [a0, a1, a2, some (vI (w32 (x + (-2))))] st μ G := ev_st pg_126_24 rfl (mm_nl_of h) (Nat.le_of_ble_eq_true rfl)
theorem pg_126_27 : mm_prog 126 27 = some (0, .goto (-22), 30, []) := by decide +kernel
theorem xe_126_27 (a0 a1 a2 a3 : Option MV) (st : List MV) (μ : MM) (G : MG) : ev 126 27 [a0, a1, a2, a3] st μ G = ev 126 5 [a0, a1, a2, a3] st μ G := ev_stp pg_126_27 rfl
theorem pg_126_30 : mm_prog 126 30 = some (0, .iconst 0, 31, []) := by decide +kernel
theorem xe_126_30 (a0 a1 a2 a3 : Option MV) (st : List MV) (μ : MM) (G : MG) : ev 126 30 [a0, a1, a2, a3] st μ G = ev 126 31 [a0, a1, a2, a3] (vI (0) :: st) μ G := ev_stp pg_126_30 rfl
theorem pg_126_31 : mm_prog 126 31 = some (2, .ireturn, 32, [0]) := by decide +kernel
theorem xe_126_31 (a0 a1 a2 a3 : Option MV) (x : Int) (μ : MM) (G : MG) : ev 126 31 [a0, a1, a2, a3] [vI x] μ G = some (some (vI x), μ, G) := ev_ret pg_126_31 rfl
-- X10_bestWithin
theorem pg_127_0 : mm_prog 127 0 = some (0, .iconst 0, 1, []) := by decide +kernel
theorem xe_127_0 (a0 a1 a2 a3 a4 a5 : Option MV) (st : List MV) (μ : MM) (G : MG) : ev 127 0 [a0, a1, a2, a3, a4, a5] st μ G = ev 127 1 [a0, a1, a2, a3, a4, a5] (vI (0) :: st) μ G := ev_stp pg_127_0 rfl
theorem pg_127_1 : mm_prog 127 1 = some (0, .istore_n 3, 2, []) := by decide +kernel
theorem xe_127_1 (a0 a1 a2 a3 a4 a5 : Option MV) (x : Int) (st : List MV) (μ : MM) (G : MG) (h : mm_nL a2 = true) : ev 127 1 [a0, a1, a2, a3, a4, a5] (vI x :: st) μ G = ev 127 2 [a0, a1, a2, some (vI x), a4, a5] st μ G := ev_st pg_127_1 rfl (mm_nl_of h) (Nat.le_of_ble_eq_true rfl)
theorem pg_127_2 : mm_prog 127 2 = some (0, .iload_n 3, 3, []) := by decide +kernel
theorem xe_127_2 (a0 a1 a2 a4 a5 : Option MV) (x : Int) (st : List MV) (μ : MM) (G : MG) : ev 127 2 [a0, a1, a2, some (vI x), a4, a5] st μ G = ev 127 3 [a0, a1, a2, some (vI x), a4, a5] (vI x :: st) μ G := ev_stp pg_127_2 rfl
theorem pg_127_3 : mm_prog 127 3 = some (0, .aload_n 0, 4, []) := by decide +kernel
theorem xe_127_3 (a1 a2 a3 a4 a5 : Option MV) (x : Int) (st : List MV) (μ : MM) (G : MG) : ev 127 3 [some (vR x), a1, a2, a3, a4, a5] st μ G = ev 127 4 [some (vR x), a1, a2, a3, a4, a5] (vR x :: st) μ G := ev_stp pg_127_3 rfl
theorem pg_127_4 : mm_prog 127 4 = some (0, .getfield 36, 7, [10, 4, 2]) := by decide +kernel
theorem xe_127_4 (a0 a1 a2 a3 a4 a5 : Option MV) (x : Int) (st : List MV) (μ : MM) (G : MG) : ev 127 4 [a0, a1, a2, a3, a4, a5] (vR x :: st) μ G = if gk G x = 10 then ev 127 7 [a0, a1, a2, a3, a4, a5] (vR (μ x 4) :: st) μ G else none := ev_if pg_127_4 rfl
theorem pg_127_7 : mm_prog 127 7 = some (0, .getfield 124, 10, [5, 4, 0]) := by decide +kernel
theorem xe_127_7 (a0 a1 a2 a3 a4 a5 : Option MV) (x : Int) (st : List MV) (μ : MM) (G : MG) : ev 127 7 [a0, a1, a2, a3, a4, a5] (vR x :: st) μ G = if gk G x = 5 then ev 127 10 [a0, a1, a2, a3, a4, a5] (vI (μ x 4) :: st) μ G else none := ev_if pg_127_7 rfl
theorem pg_127_10 : mm_prog 127 10 = some (0, .if_icmp .ge 98, 13, []) := by decide +kernel
theorem xe_127_10 (a0 a1 a2 a3 a4 a5 : Option MV) (x y : Int) (st : List MV) (μ : MM) (G : MG) : ev 127 10 [a0, a1, a2, a3, a4, a5] (vI y :: vI x :: st) μ G = if y ≤ x then ev 127 108 [a0, a1, a2, a3, a4, a5] st μ G else ev 127 13 [a0, a1, a2, a3, a4, a5] st μ G := ev_br (mm_cnd_ge x y) pg_127_10 rfl
theorem pg_127_13 : mm_prog 127 13 = some (0, .aload_n 0, 14, []) := by decide +kernel
theorem xe_127_13 (a1 a2 a3 a4 a5 : Option MV) (x : Int) (st : List MV) (μ : MM) (G : MG) : ev 127 13 [some (vR x), a1, a2, a3, a4, a5] st μ G = ev 127 14 [some (vR x), a1, a2, a3, a4, a5] (vR x :: st) μ G := ev_stp pg_127_13 rfl
theorem pg_127_14 : mm_prog 127 14 = some (0, .getfield 36, 17, [10, 4, 2]) := by decide +kernel
theorem xe_127_14 (a0 a1 a2 a3 a4 a5 : Option MV) (x : Int) (st : List MV) (μ : MM) (G : MG) : ev 127 14 [a0, a1, a2, a3, a4, a5] (vR x :: st) μ G = if gk G x = 10 then ev 127 17 [a0, a1, a2, a3, a4, a5] (vR (μ x 4) :: st) μ G else none := ev_if pg_127_14 rfl
theorem pg_127_17 : mm_prog 127 17 = some (0, .iload_n 3, 18, []) := by decide +kernel
theorem xe_127_17 (a0 a1 a2 a4 a5 : Option MV) (x : Int) (st : List MV) (μ : MM) (G : MG) : ev 127 17 [a0, a1, a2, some (vI x), a4, a5] st μ G = ev 127 18 [a0, a1, a2, some (vI x), a4, a5] (vI x :: st) μ G := ev_stp pg_127_17 rfl
theorem pg_127_18 : mm_prog 127 18 = some (1, .invokevirtual 185, 21, [1, 31, 1, 5]) := by decide +kernel
theorem xe_127_18 (a0 a1 a2 a3 a4 a5 : Option MV) (x0 z : Int) (μ : MM) (G : MG) : ev 127 18 [a0, a1, a2, a3, a4, a5] (vI x0 :: vR z :: []) μ G = if gk G z = 5 ∧ 0 < z then (ev 31 0 [some (vR z), some (vI x0)] [] μ G).bind (fun q => ev 127 21 [a0, a1, a2, a3, a4, a5] (q.1.toList ++ []) q.2.1 q.2.2) else none := ev_calV (as := [vR z, vI x0]) (r := []) mx_31 pg_127_18 rfl rfl (Nat.le_of_ble_eq_true rfl) (Nat.le_of_ble_eq_true rfl)
theorem pg_127_21 : mm_prog 127 21 = some (0, .astore 4, 23, []) := by decide +kernel
theorem xe_127_21 (a0 a1 a2 a3 a4 a5 : Option MV) (x : Int) (st : List MV) (μ : MM) (G : MG) (h : mm_nL a3 = true) : ev 127 21 [a0, a1, a2, a3, a4, a5] (vR x :: st) μ G = ev 127 23 [a0, a1, a2, a3, some (vR x), a5] st μ G := ev_st pg_127_21 rfl (mm_nl_of h) (Nat.le_of_ble_eq_true rfl)
theorem pg_127_23 : mm_prog 127 23 = some (0, .aload 4, 25, []) := by decide +kernel
theorem xe_127_23 (a0 a1 a2 a3 a5 : Option MV) (x : Int) (st : List MV) (μ : MM) (G : MG) : ev 127 23 [a0, a1, a2, a3, some (vR x), a5] st μ G = ev 127 25 [a0, a1, a2, a3, some (vR x), a5] (vR x :: st) μ G := ev_stp pg_127_23 rfl
theorem pg_127_25 : mm_prog 127 25 = some (0, .ifnonnull 7, 28, []) := by decide +kernel
theorem xe_127_25 (a0 a1 a2 a3 a4 a5 : Option MV) (x : Int) (st : List MV) (μ : MM) (G : MG) : ev 127 25 [a0, a1, a2, a3, a4, a5] (vR x :: st) μ G = if x = 7 then none else if x = 0 then ev 127 28 [a0, a1, a2, a3, a4, a5] st μ G else ev 127 32 [a0, a1, a2, a3, a4, a5] st μ G := ev_nul pg_127_25 rfl
theorem pg_127_28 : mm_prog 127 28 = some (0, .iconst 0, 29, []) := by decide +kernel
theorem xe_127_28 (a0 a1 a2 a3 a4 a5 : Option MV) (st : List MV) (μ : MM) (G : MG) : ev 127 28 [a0, a1, a2, a3, a4, a5] st μ G = ev 127 29 [a0, a1, a2, a3, a4, a5] (vI (0) :: st) μ G := ev_stp pg_127_28 rfl
theorem pg_127_29 : mm_prog 127 29 = some (0, .goto 16, 32, []) := by decide +kernel
theorem xe_127_29 (a0 a1 a2 a3 a4 a5 : Option MV) (st : List MV) (μ : MM) (G : MG) : ev 127 29 [a0, a1, a2, a3, a4, a5] st μ G = ev 127 45 [a0, a1, a2, a3, a4, a5] st μ G := ev_stp pg_127_29 rfl
theorem pg_127_32 : mm_prog 127 32 = some (0, .aload_n 0, 33, []) := by decide +kernel
theorem xe_127_32 (a1 a2 a3 a4 a5 : Option MV) (x : Int) (st : List MV) (μ : MM) (G : MG) : ev 127 32 [some (vR x), a1, a2, a3, a4, a5] st μ G = ev 127 33 [some (vR x), a1, a2, a3, a4, a5] (vR x :: st) μ G := ev_stp pg_127_32 rfl
theorem pg_127_33 : mm_prog 127 33 = some (0, .aload 4, 35, []) := by decide +kernel
theorem xe_127_33 (a0 a1 a2 a3 a5 : Option MV) (x : Int) (st : List MV) (μ : MM) (G : MG) : ev 127 33 [a0, a1, a2, a3, some (vR x), a5] st μ G = ev 127 35 [a0, a1, a2, a3, some (vR x), a5] (vR x :: st) μ G := ev_stp pg_127_33 rfl
theorem pg_127_35 : mm_prog 127 35 = some (0, .getfield 188, 38, [4, 0, 2]) := by decide +kernel
theorem xe_127_35 (a0 a1 a2 a3 a4 a5 : Option MV) (x : Int) (st : List MV) (μ : MM) (G : MG) : ev 127 35 [a0, a1, a2, a3, a4, a5] (vR x :: st) μ G = if gk G x = 4 then ev 127 38 [a0, a1, a2, a3, a4, a5] (vR (μ x 0) :: st) μ G else none := ev_if pg_127_35 rfl
theorem pg_127_38 : mm_prog 127 38 = some (0, .getfield 202, 41, [7, 0, 0]) := by decide +kernel
theorem xe_127_38 (a0 a1 a2 a3 a4 a5 : Option MV) (x : Int) (st : List MV) (μ : MM) (G : MG) : ev 127 38 [a0, a1, a2, a3, a4, a5] (vR x :: st) μ G = if gk G x = 7 then ev 127 41 [a0, a1, a2, a3, a4, a5] (vI (μ x 0) :: st) μ G else none := ev_if pg_127_38 rfl
theorem pg_127_41 : mm_prog 127 41 = some (0, .iload_n 1, 42, []) := by decide +kernel
theorem xe_127_41 (a0 a2 a3 a4 a5 : Option MV) (x : Int) (st : List MV) (μ : MM) (G : MG) : ev 127 41 [a0, some (vI x), a2, a3, a4, a5] st μ G = ev 127 42 [a0, some (vI x), a2, a3, a4, a5] (vI x :: st) μ G := ev_stp pg_127_41 rfl
theorem pg_127_42 : mm_prog 127 42 = some (1, .invokevirtual 287, 45, [1, 126, 2, 10]) := by decide +kernel
theorem xe_127_42 (a0 a1 a2 a3 a4 a5 : Option MV) (x0 x1 z : Int) (μ : MM) (G : MG) : ev 127 42 [a0, a1, a2, a3, a4, a5] (vI x1 :: vI x0 :: vR z :: []) μ G = if gk G z = 10 ∧ 0 < z then (ev 126 0 [some (vR z), some (vI x0), some (vI x1), none] [] μ G).bind (fun q => ev 127 45 [a0, a1, a2, a3, a4, a5] (q.1.toList ++ []) q.2.1 q.2.2) else none := ev_calV (as := [vR z, vI x0, vI x1]) (r := []) mx_126 pg_127_42 rfl rfl (Nat.le_of_ble_eq_true rfl) (Nat.le_of_ble_eq_true rfl)
theorem pg_127_45 : mm_prog 127 45 = some (0, .istore 5, 47, []) := by decide +kernel
theorem xe_127_45 (a0 a1 a2 a3 a4 a5 : Option MV) (x : Int) (st : List MV) (μ : MM) (G : MG) (h : mm_nL a4 = true) : ev 127 45 [a0, a1, a2, a3, a4, a5] (vI x :: st) μ G = ev 127 47 [a0, a1, a2, a3, a4, some (vI x)] st μ G := ev_st pg_127_45 rfl (mm_nl_of h) (Nat.le_of_ble_eq_true rfl)
theorem pg_127_47 : mm_prog 127 47 = some (0, .iload 5, 49, []) := by decide +kernel
theorem xe_127_47 (a0 a1 a2 a3 a4 : Option MV) (x : Int) (st : List MV) (μ : MM) (G : MG) : ev 127 47 [a0, a1, a2, a3, a4, some (vI x)] st μ G = ev 127 49 [a0, a1, a2, a3, a4, some (vI x)] (vI x :: st) μ G := ev_stp pg_127_47 rfl
theorem pg_127_49 : mm_prog 127 49 = some (0, .ifCond .le 53, 52, []) := by decide +kernel
theorem xe_127_49 (a0 a1 a2 a3 a4 a5 : Option MV) (x : Int) (st : List MV) (μ : MM) (G : MG) : ev 127 49 [a0, a1, a2, a3, a4, a5] (vI x :: st) μ G = if x ≤ 0 then ev 127 102 [a0, a1, a2, a3, a4, a5] st μ G else ev 127 52 [a0, a1, a2, a3, a4, a5] st μ G := ev_br (mm_cnd_le x 0) pg_127_49 rfl
theorem pg_127_52 : mm_prog 127 52 = some (0, .iload_n 2, 53, []) := by decide +kernel
theorem xe_127_52 (a0 a1 a3 a4 a5 : Option MV) (x : Int) (st : List MV) (μ : MM) (G : MG) : ev 127 52 [a0, a1, some (vI x), a3, a4, a5] st μ G = ev 127 53 [a0, a1, some (vI x), a3, a4, a5] (vI x :: st) μ G := ev_stp pg_127_52 rfl
theorem pg_127_53 : mm_prog 127 53 = some (0, .lookupswitch 32 #[(0, 27), (1, 29)], 80, [85, 0, 80, 1, 82]) := by decide +kernel
theorem xe_127_53 (a0 a1 a2 a3 a4 a5 : Option MV) (x : Int) (st : List MV) (μ : MM) (G : MG) : ev 127 53 [a0, a1, a2, a3, a4, a5] (vI x :: st) μ G = if x = 0 then ev 127 80 [a0, a1, a2, a3, a4, a5] st μ G else if x = 1 then ev 127 82 [a0, a1, a2, a3, a4, a5] st μ G else ev 127 85 [a0, a1, a2, a3, a4, a5] st μ G := ev_sw (x := x) (d := 85) (l := [0, 80, 1, 82]) (st' := st) pg_127_53 rfl
theorem pg_127_80 : mm_prog 127 80 = some (0, .iload_n 3, 81, []) := by decide +kernel
theorem xe_127_80 (a0 a1 a2 a4 a5 : Option MV) (x : Int) (st : List MV) (μ : MM) (G : MG) : ev 127 80 [a0, a1, a2, some (vI x), a4, a5] st μ G = ev 127 81 [a0, a1, a2, some (vI x), a4, a5] (vI x :: st) μ G := ev_stp pg_127_80 rfl
theorem pg_127_81 : mm_prog 127 81 = some (2, .ireturn, 82, [0]) := by decide +kernel
theorem xe_127_81 (a0 a1 a2 a3 a4 a5 : Option MV) (x : Int) (μ : MM) (G : MG) : ev 127 81 [a0, a1, a2, a3, a4, a5] [vI x] μ G = some (some (vI x), μ, G) := ev_ret pg_127_81 rfl
theorem pg_127_82 : mm_prog 127 82 = some (0, .iload 5, 84, []) := by decide +kernel
theorem xe_127_82 (a0 a1 a2 a3 a4 : Option MV) (x : Int) (st : List MV) (μ : MM) (G : MG) : ev 127 82 [a0, a1, a2, a3, a4, some (vI x)] st μ G = ev 127 84 [a0, a1, a2, a3, a4, some (vI x)] (vI x :: st) μ G := ev_stp pg_127_82 rfl
theorem pg_127_84 : mm_prog 127 84 = some (2, .ireturn, 85, [0]) := by decide +kernel
theorem xe_127_84 (a0 a1 a2 a3 a4 a5 : Option MV) (x : Int) (μ : MM) (G : MG) : ev 127 84 [a0, a1, a2, a3, a4, a5] [vI x] μ G = some (some (vI x), μ, G) := ev_ret pg_127_84 rfl
theorem pg_127_85 : mm_prog 127 85 = some (0, .iload_n 1, 86, []) := by decide +kernel
theorem xe_127_85 (a0 a2 a3 a4 a5 : Option MV) (x : Int) (st : List MV) (μ : MM) (G : MG) : ev 127 85 [a0, some (vI x), a2, a3, a4, a5] st μ G = ev 127 86 [a0, some (vI x), a2, a3, a4, a5] (vI x :: st) μ G := ev_stp pg_127_85 rfl
theorem pg_127_86 : mm_prog 127 86 = some (0, .aload 4, 88, []) := by decide +kernel
theorem xe_127_86 (a0 a1 a2 a3 a5 : Option MV) (x : Int) (st : List MV) (μ : MM) (G : MG) : ev 127 86 [a0, a1, a2, a3, some (vR x), a5] st μ G = ev 127 88 [a0, a1, a2, a3, some (vR x), a5] (vR x :: st) μ G := ev_stp pg_127_86 rfl
theorem pg_127_88 : mm_prog 127 88 = some (0, .getfield 188, 91, [4, 0, 2]) := by decide +kernel
theorem xe_127_88 (a0 a1 a2 a3 a4 a5 : Option MV) (x : Int) (st : List MV) (μ : MM) (G : MG) : ev 127 88 [a0, a1, a2, a3, a4, a5] (vR x :: st) μ G = if gk G x = 4 then ev 127 91 [a0, a1, a2, a3, a4, a5] (vR (μ x 0) :: st) μ G else none := ev_if pg_127_88 rfl
theorem pg_127_91 : mm_prog 127 91 = some (0, .getfield 202, 94, [7, 0, 0]) := by decide +kernel
theorem xe_127_91 (a0 a1 a2 a3 a4 a5 : Option MV) (x : Int) (st : List MV) (μ : MM) (G : MG) : ev 127 91 [a0, a1, a2, a3, a4, a5] (vR x :: st) μ G = if gk G x = 7 then ev 127 94 [a0, a1, a2, a3, a4, a5] (vI (μ x 0) :: st) μ G else none := ev_if pg_127_91 rfl
theorem pg_127_94 : mm_prog 127 94 = some (0, .iload 5, 96, []) := by decide +kernel
theorem xe_127_94 (a0 a1 a2 a3 a4 : Option MV) (x : Int) (st : List MV) (μ : MM) (G : MG) : ev 127 94 [a0, a1, a2, a3, a4, some (vI x)] st μ G = ev 127 96 [a0, a1, a2, a3, a4, some (vI x)] (vI x :: st) μ G := ev_stp pg_127_94 rfl
theorem pg_127_96 : mm_prog 127 96 = some (1, .invokestatic 273, 99, [0, 125, 2, 0]) := by decide +kernel
theorem xe_127_96 (a0 a1 a2 a3 a4 a5 : Option MV) (x0 x1 r0 : Int) (μ : MM) (G : MG) : ev 127 96 [a0, a1, a2, a3, a4, a5] (vI x1 :: vI x0 :: [vI r0]) μ G = (ev 125 0 [some (vI x0), some (vI x1)] [] μ G).bind (fun q => ev 127 99 [a0, a1, a2, a3, a4, a5] (q.1.toList ++ [vI r0]) q.2.1 q.2.2) := ev_calS (as := [vI x0, vI x1]) (r := [vI r0]) mx_125 pg_127_96 rfl rfl (Nat.le_of_ble_eq_true rfl) (Nat.le_of_ble_eq_true rfl)
theorem pg_127_99 : mm_prog 127 99 = some (0, .l2i, 100, []) := by decide +kernel
theorem xe_127_99 (a0 a1 a2 a3 a4 a5 : Option MV) (x : Int) (st : List MV) (μ : MM) (G : MG) : ev 127 99 [a0, a1, a2, a3, a4, a5] (vL x :: st) μ G = ev 127 100 [a0, a1, a2, a3, a4, a5] (vI (w32 x) :: st) μ G := ev_stp pg_127_99 rfl
theorem pg_127_100 : mm_prog 127 100 = some (0, .isub, 101, []) := by decide +kernel
theorem xe_127_100 (a0 a1 a2 a3 a4 a5 : Option MV) (x y : Int) (st : List MV) (μ : MM) (G : MG) : ev 127 100 [a0, a1, a2, a3, a4, a5] (vI y :: vI x :: st) μ G = ev 127 101 [a0, a1, a2, a3, a4, a5] (vI (w32 (x - y)) :: st) μ G := ev_stp pg_127_100 rfl
theorem pg_127_101 : mm_prog 127 101 = some (2, .ireturn, 102, [0]) := by decide +kernel
theorem xe_127_101 (a0 a1 a2 a3 a4 a5 : Option MV) (x : Int) (μ : MM) (G : MG) : ev 127 101 [a0, a1, a2, a3, a4, a5] [vI x] μ G = some (some (vI x), μ, G) := ev_ret pg_127_101 rfl
theorem pg_127_102 : mm_prog 127 102 = some (0, .iinc 3 1, 105, []) := by decide +kernel
theorem xe_127_102 (a0 a1 a2 a4 a5 : Option MV) (x : Int) (st : List MV) (μ : MM) (G : MG) (h : mm_nL a2 = true) : ev 127 102 [a0, a1, a2, some (vI x), a4, a5] st μ G = ev 127 105 [a0, a1, a2, some (vI (w32 (x + (1)))), a4, a5] st μ G := ev_st pg_127_102 rfl (mm_nl_of h) (Nat.le_of_ble_eq_true rfl)
theorem pg_127_105 : mm_prog 127 105 = some (0, .goto (-103), 108, []) := by decide +kernel
theorem xe_127_105 (a0 a1 a2 a3 a4 a5 : Option MV) (st : List MV) (μ : MM) (G : MG) : ev 127 105 [a0, a1, a2, a3, a4, a5] st μ G = ev 127 2 [a0, a1, a2, a3, a4, a5] st μ G := ev_stp pg_127_105 rfl
theorem pg_127_108 : mm_prog 127 108 = some (0, .iconst (-1), 109, []) := by decide +kernel
theorem xe_127_108 (a0 a1 a2 a3 a4 a5 : Option MV) (st : List MV) (μ : MM) (G : MG) : ev 127 108 [a0, a1, a2, a3, a4, a5] st μ G = ev 127 109 [a0, a1, a2, a3, a4, a5] (vI (-1) :: st) μ G := ev_stp pg_127_108 rfl
theorem pg_127_109 : mm_prog 127 109 = some (2, .ireturn, 110, [0]) := by decide +kernel
theorem xe_127_109 (a0 a1 a2 a3 a4 a5 : Option MV) (x : Int) (μ : MM) (G : MG) : ev 127 109 [a0, a1, a2, a3, a4, a5] [vI x] μ G = some (some (vI x), μ, G) := ev_ret pg_127_109 rfl
-- X10_lane
theorem pg_128_0 : mm_prog 128 0 = some (0, .iload_n 1, 1, []) := by decide +kernel
theorem xe_128_0 (a0 a2 a3 a4 : Option MV) (x : Int) (st : List MV) (μ : MM) (G : MG) : ev 128 0 [a0, some (vI x), a2, a3, a4] st μ G = ev 128 1 [a0, some (vI x), a2, a3, a4] (vI x :: st) μ G := ev_stp pg_128_0 rfl
theorem pg_128_1 : mm_prog 128 1 = some (1, .invokestatic 290, 4, [0, 137, 1, 0]) := by decide +kernel
theorem xe_128_1 (a0 a1 a2 a3 a4 : Option MV) (x0 : Int) (μ : MM) (G : MG) : ev 128 1 [a0, a1, a2, a3, a4] (vI x0 :: []) μ G = (ev 137 0 [some (vI x0)] [] μ G).bind (fun q => ev 128 4 [a0, a1, a2, a3, a4] (q.1.toList ++ []) q.2.1 q.2.2) := ev_calS (as := [vI x0]) (r := []) mx_137 pg_128_1 rfl rfl (Nat.le_of_ble_eq_true rfl) (Nat.le_of_ble_eq_true rfl)
theorem pg_128_4 : mm_prog 128 4 = some (0, .ifCond .ne 6, 7, []) := by decide +kernel
theorem xe_128_4 (a0 a1 a2 a3 a4 : Option MV) (x : Int) (st : List MV) (μ : MM) (G : MG) : ev 128 4 [a0, a1, a2, a3, a4] (vI x :: st) μ G = if ¬ x = 0 then ev 128 10 [a0, a1, a2, a3, a4] st μ G else ev 128 7 [a0, a1, a2, a3, a4] st μ G := ev_br (mm_cnd_ne x 0) pg_128_4 rfl
theorem pg_128_7 : mm_prog 128 7 = some (0, .bipush (-2), 9, []) := by decide +kernel
theorem xe_128_7 (a0 a1 a2 a3 a4 : Option MV) (st : List MV) (μ : MM) (G : MG) : ev 128 7 [a0, a1, a2, a3, a4] st μ G = ev 128 9 [a0, a1, a2, a3, a4] (vI (-2) :: st) μ G := ev_stp pg_128_7 rfl
theorem pg_128_9 : mm_prog 128 9 = some (2, .ireturn, 10, [0]) := by decide +kernel
theorem xe_128_9 (a0 a1 a2 a3 a4 : Option MV) (x : Int) (μ : MM) (G : MG) : ev 128 9 [a0, a1, a2, a3, a4] [vI x] μ G = some (some (vI x), μ, G) := ev_ret pg_128_9 rfl
theorem pg_128_10 : mm_prog 128 10 = some (0, .iload_n 2, 11, []) := by decide +kernel
theorem xe_128_10 (a0 a1 a3 a4 : Option MV) (x : Int) (st : List MV) (μ : MM) (G : MG) : ev 128 10 [a0, a1, some (vI x), a3, a4] st μ G = ev 128 11 [a0, a1, some (vI x), a3, a4] (vI x :: st) μ G := ev_stp pg_128_10 rfl
theorem pg_128_11 : mm_prog 128 11 = some (0, .ifCond .lt 19, 14, []) := by decide +kernel
theorem xe_128_11 (a0 a1 a2 a3 a4 : Option MV) (x : Int) (st : List MV) (μ : MM) (G : MG) : ev 128 11 [a0, a1, a2, a3, a4] (vI x :: st) μ G = if x < 0 then ev 128 30 [a0, a1, a2, a3, a4] st μ G else ev 128 14 [a0, a1, a2, a3, a4] st μ G := ev_br (mm_cnd_lt x 0) pg_128_11 rfl
theorem pg_128_14 : mm_prog 128 14 = some (0, .iload_n 2, 15, []) := by decide +kernel
theorem xe_128_14 (a0 a1 a3 a4 : Option MV) (x : Int) (st : List MV) (μ : MM) (G : MG) : ev 128 14 [a0, a1, some (vI x), a3, a4] st μ G = ev 128 15 [a0, a1, some (vI x), a3, a4] (vI x :: st) μ G := ev_stp pg_128_14 rfl
theorem pg_128_15 : mm_prog 128 15 = some (0, .bipush 30, 17, []) := by decide +kernel
theorem xe_128_15 (a0 a1 a2 a3 a4 : Option MV) (st : List MV) (μ : MM) (G : MG) : ev 128 15 [a0, a1, a2, a3, a4] st μ G = ev 128 17 [a0, a1, a2, a3, a4] (vI (30) :: st) μ G := ev_stp pg_128_15 rfl
theorem pg_128_17 : mm_prog 128 17 = some (0, .if_icmp .gt 13, 20, []) := by decide +kernel
theorem xe_128_17 (a0 a1 a2 a3 a4 : Option MV) (x y : Int) (st : List MV) (μ : MM) (G : MG) : ev 128 17 [a0, a1, a2, a3, a4] (vI y :: vI x :: st) μ G = if y < x then ev 128 30 [a0, a1, a2, a3, a4] st μ G else ev 128 20 [a0, a1, a2, a3, a4] st μ G := ev_br (mm_cnd_gt x y) pg_128_17 rfl
theorem pg_128_20 : mm_prog 128 20 = some (0, .iload_n 3, 21, []) := by decide +kernel
theorem xe_128_20 (a0 a1 a2 a4 : Option MV) (x : Int) (st : List MV) (μ : MM) (G : MG) : ev 128 20 [a0, a1, a2, some (vI x), a4] st μ G = ev 128 21 [a0, a1, a2, some (vI x), a4] (vI x :: st) μ G := ev_stp pg_128_20 rfl
theorem pg_128_21 : mm_prog 128 21 = some (0, .ifCond .lt 9, 24, []) := by decide +kernel
theorem xe_128_21 (a0 a1 a2 a3 a4 : Option MV) (x : Int) (st : List MV) (μ : MM) (G : MG) : ev 128 21 [a0, a1, a2, a3, a4] (vI x :: st) μ G = if x < 0 then ev 128 30 [a0, a1, a2, a3, a4] st μ G else ev 128 24 [a0, a1, a2, a3, a4] st μ G := ev_br (mm_cnd_lt x 0) pg_128_21 rfl
theorem pg_128_24 : mm_prog 128 24 = some (0, .iload_n 3, 25, []) := by decide +kernel
theorem xe_128_24 (a0 a1 a2 a4 : Option MV) (x : Int) (st : List MV) (μ : MM) (G : MG) : ev 128 24 [a0, a1, a2, some (vI x), a4] st μ G = ev 128 25 [a0, a1, a2, some (vI x), a4] (vI x :: st) μ G := ev_stp pg_128_24 rfl
theorem pg_128_25 : mm_prog 128 25 = some (0, .bipush 12, 27, []) := by decide +kernel
theorem xe_128_25 (a0 a1 a2 a3 a4 : Option MV) (st : List MV) (μ : MM) (G : MG) : ev 128 25 [a0, a1, a2, a3, a4] st μ G = ev 128 27 [a0, a1, a2, a3, a4] (vI (12) :: st) μ G := ev_stp pg_128_25 rfl
theorem pg_128_27 : mm_prog 128 27 = some (0, .if_icmp .le 6, 30, []) := by decide +kernel
theorem xe_128_27 (a0 a1 a2 a3 a4 : Option MV) (x y : Int) (st : List MV) (μ : MM) (G : MG) : ev 128 27 [a0, a1, a2, a3, a4] (vI y :: vI x :: st) μ G = if x ≤ y then ev 128 33 [a0, a1, a2, a3, a4] st μ G else ev 128 30 [a0, a1, a2, a3, a4] st μ G := ev_br (mm_cnd_le x y) pg_128_27 rfl
theorem pg_128_30 : mm_prog 128 30 = some (0, .bipush (-3), 32, []) := by decide +kernel
theorem xe_128_30 (a0 a1 a2 a3 a4 : Option MV) (st : List MV) (μ : MM) (G : MG) : ev 128 30 [a0, a1, a2, a3, a4] st μ G = ev 128 32 [a0, a1, a2, a3, a4] (vI (-3) :: st) μ G := ev_stp pg_128_30 rfl
theorem pg_128_32 : mm_prog 128 32 = some (2, .ireturn, 33, [0]) := by decide +kernel
theorem xe_128_32 (a0 a1 a2 a3 a4 : Option MV) (x : Int) (μ : MM) (G : MG) : ev 128 32 [a0, a1, a2, a3, a4] [vI x] μ G = some (some (vI x), μ, G) := ev_ret pg_128_32 rfl
theorem pg_128_33 : mm_prog 128 33 = some (0, .aload_n 0, 34, []) := by decide +kernel
theorem xe_128_33 (a1 a2 a3 a4 : Option MV) (x : Int) (st : List MV) (μ : MM) (G : MG) : ev 128 33 [some (vR x), a1, a2, a3, a4] st μ G = ev 128 34 [some (vR x), a1, a2, a3, a4] (vR x :: st) μ G := ev_stp pg_128_33 rfl
theorem pg_128_34 : mm_prog 128 34 = some (0, .getfield 64, 37, [10, 8, 2]) := by decide +kernel
theorem xe_128_34 (a0 a1 a2 a3 a4 : Option MV) (x : Int) (st : List MV) (μ : MM) (G : MG) : ev 128 34 [a0, a1, a2, a3, a4] (vR x :: st) μ G = if gk G x = 10 then ev 128 37 [a0, a1, a2, a3, a4] (vR (μ x 8) :: st) μ G else none := ev_if pg_128_34 rfl
theorem pg_128_37 : mm_prog 128 37 = some (0, .getfield 293, 40, [9, 0, 2]) := by decide +kernel
theorem xe_128_37 (a0 a1 a2 a3 a4 : Option MV) (x : Int) (st : List MV) (μ : MM) (G : MG) : ev 128 37 [a0, a1, a2, a3, a4] (vR x :: st) μ G = if gk G x = 9 then ev 128 40 [a0, a1, a2, a3, a4] (vR (μ x 0) :: st) μ G else none := ev_if pg_128_37 rfl
theorem pg_128_40 : mm_prog 128 40 = some (0, .iload_n 1, 41, []) := by decide +kernel
theorem xe_128_40 (a0 a2 a3 a4 : Option MV) (x : Int) (st : List MV) (μ : MM) (G : MG) : ev 128 40 [a0, some (vI x), a2, a3, a4] st μ G = ev 128 41 [a0, some (vI x), a2, a3, a4] (vI x :: st) μ G := ev_stp pg_128_40 rfl
theorem pg_128_41 : mm_prog 128 41 = some (0, .iaload, 42, []) := by decide +kernel
theorem xe_128_41 (a0 a1 a2 a3 a4 : Option MV) (x y : Int) (st : List MV) (μ : MM) (G : MG) : ev 128 41 [a0, a1, a2, a3, a4] (vI x :: vR y :: st) μ G = if gk G y = 100 ∧ 0 ≤ x ∧ x < gl G y then ev 128 42 [a0, a1, a2, a3, a4] (vI (μ y x) :: st) μ G else none := ev_if pg_128_41 rfl
theorem pg_128_42 : mm_prog 128 42 = some (0, .istore 4, 44, []) := by decide +kernel
theorem xe_128_42 (a0 a1 a2 a3 a4 : Option MV) (x : Int) (st : List MV) (μ : MM) (G : MG) (h : mm_nL a3 = true) : ev 128 42 [a0, a1, a2, a3, a4] (vI x :: st) μ G = ev 128 44 [a0, a1, a2, a3, some (vI x)] st μ G := ev_st pg_128_42 rfl (mm_nl_of h) (Nat.le_of_ble_eq_true rfl)
theorem pg_128_44 : mm_prog 128 44 = some (0, .aload_n 0, 45, []) := by decide +kernel
theorem xe_128_44 (a1 a2 a3 a4 : Option MV) (x : Int) (st : List MV) (μ : MM) (G : MG) : ev 128 44 [some (vR x), a1, a2, a3, a4] st μ G = ev 128 45 [some (vR x), a1, a2, a3, a4] (vR x :: st) μ G := ev_stp pg_128_44 rfl
theorem pg_128_45 : mm_prog 128 45 = some (0, .getfield 64, 48, [10, 8, 2]) := by decide +kernel
theorem xe_128_45 (a0 a1 a2 a3 a4 : Option MV) (x : Int) (st : List MV) (μ : MM) (G : MG) : ev 128 45 [a0, a1, a2, a3, a4] (vR x :: st) μ G = if gk G x = 10 then ev 128 48 [a0, a1, a2, a3, a4] (vR (μ x 8) :: st) μ G else none := ev_if pg_128_45 rfl
theorem pg_128_48 : mm_prog 128 48 = some (0, .getfield 293, 51, [9, 0, 2]) := by decide +kernel
theorem xe_128_48 (a0 a1 a2 a3 a4 : Option MV) (x : Int) (st : List MV) (μ : MM) (G : MG) : ev 128 48 [a0, a1, a2, a3, a4] (vR x :: st) μ G = if gk G x = 9 then ev 128 51 [a0, a1, a2, a3, a4] (vR (μ x 0) :: st) μ G else none := ev_if pg_128_48 rfl
theorem pg_128_51 : mm_prog 128 51 = some (0, .iload_n 1, 52, []) := by decide +kernel
theorem xe_128_51 (a0 a2 a3 a4 : Option MV) (x : Int) (st : List MV) (μ : MM) (G : MG) : ev 128 51 [a0, some (vI x), a2, a3, a4] st μ G = ev 128 52 [a0, some (vI x), a2, a3, a4] (vI x :: st) μ G := ev_stp pg_128_51 rfl
theorem pg_128_52 : mm_prog 128 52 = some (0, .iload_n 2, 53, []) := by decide +kernel
theorem xe_128_52 (a0 a1 a3 a4 : Option MV) (x : Int) (st : List MV) (μ : MM) (G : MG) : ev 128 52 [a0, a1, some (vI x), a3, a4] st μ G = ev 128 53 [a0, a1, some (vI x), a3, a4] (vI x :: st) μ G := ev_stp pg_128_52 rfl
theorem pg_128_53 : mm_prog 128 53 = some (0, .iastore, 54, []) := by decide +kernel
theorem xe_128_53 (a0 a1 a2 a3 a4 : Option MV) (x y z : Int) (st : List MV) (μ : MM) (G : MG) : ev 128 53 [a0, a1, a2, a3, a4] (vI x :: vI y :: vR z :: st) μ G = if gk G z = 100 ∧ 0 ≤ y ∧ y < gl G z ∧ 10 ≤ z then ev 128 54 [a0, a1, a2, a3, a4] st (mset μ z y x) G else none := ev_if pg_128_53 rfl
theorem pg_128_54 : mm_prog 128 54 = some (0, .aload_n 0, 55, []) := by decide +kernel
theorem xe_128_54 (a1 a2 a3 a4 : Option MV) (x : Int) (st : List MV) (μ : MM) (G : MG) : ev 128 54 [some (vR x), a1, a2, a3, a4] st μ G = ev 128 55 [some (vR x), a1, a2, a3, a4] (vR x :: st) μ G := ev_stp pg_128_54 rfl
theorem pg_128_55 : mm_prog 128 55 = some (0, .getfield 64, 58, [10, 8, 2]) := by decide +kernel
theorem xe_128_55 (a0 a1 a2 a3 a4 : Option MV) (x : Int) (st : List MV) (μ : MM) (G : MG) : ev 128 55 [a0, a1, a2, a3, a4] (vR x :: st) μ G = if gk G x = 10 then ev 128 58 [a0, a1, a2, a3, a4] (vR (μ x 8) :: st) μ G else none := ev_if pg_128_55 rfl
theorem pg_128_58 : mm_prog 128 58 = some (0, .getfield 296, 61, [9, 1, 2]) := by decide +kernel
theorem xe_128_58 (a0 a1 a2 a3 a4 : Option MV) (x : Int) (st : List MV) (μ : MM) (G : MG) : ev 128 58 [a0, a1, a2, a3, a4] (vR x :: st) μ G = if gk G x = 9 then ev 128 61 [a0, a1, a2, a3, a4] (vR (μ x 1) :: st) μ G else none := ev_if pg_128_58 rfl
theorem pg_128_61 : mm_prog 128 61 = some (0, .iload_n 1, 62, []) := by decide +kernel
theorem xe_128_61 (a0 a2 a3 a4 : Option MV) (x : Int) (st : List MV) (μ : MM) (G : MG) : ev 128 61 [a0, some (vI x), a2, a3, a4] st μ G = ev 128 62 [a0, some (vI x), a2, a3, a4] (vI x :: st) μ G := ev_stp pg_128_61 rfl
theorem pg_128_62 : mm_prog 128 62 = some (0, .iload_n 3, 63, []) := by decide +kernel
theorem xe_128_62 (a0 a1 a2 a4 : Option MV) (x : Int) (st : List MV) (μ : MM) (G : MG) : ev 128 62 [a0, a1, a2, some (vI x), a4] st μ G = ev 128 63 [a0, a1, a2, some (vI x), a4] (vI x :: st) μ G := ev_stp pg_128_62 rfl
theorem pg_128_63 : mm_prog 128 63 = some (0, .iastore, 64, []) := by decide +kernel
theorem xe_128_63 (a0 a1 a2 a3 a4 : Option MV) (x y z : Int) (st : List MV) (μ : MM) (G : MG) : ev 128 63 [a0, a1, a2, a3, a4] (vI x :: vI y :: vR z :: st) μ G = if gk G z = 100 ∧ 0 ≤ y ∧ y < gl G z ∧ 10 ≤ z then ev 128 64 [a0, a1, a2, a3, a4] st (mset μ z y x) G else none := ev_if pg_128_63 rfl
theorem pg_128_64 : mm_prog 128 64 = some (0, .aload_n 0, 65, []) := by decide +kernel
theorem xe_128_64 (a1 a2 a3 a4 : Option MV) (x : Int) (st : List MV) (μ : MM) (G : MG) : ev 128 64 [some (vR x), a1, a2, a3, a4] st μ G = ev 128 65 [some (vR x), a1, a2, a3, a4] (vR x :: st) μ G := ev_stp pg_128_64 rfl
theorem pg_128_65 : mm_prog 128 65 = some (1, .invokevirtual 299, 68, [1, 139, 0, 10]) := by decide +kernel
theorem xe_128_65 (a0 a1 a2 a3 a4 : Option MV) (z : Int) (μ : MM) (G : MG) : ev 128 65 [a0, a1, a2, a3, a4] (vR z :: []) μ G = if gk G z = 10 ∧ 0 < z then (ev 139 0 [some (vR z)] [] μ G).bind (fun q => ev 128 68 [a0, a1, a2, a3, a4] (q.1.toList ++ []) q.2.1 q.2.2) else none := ev_calV (as := [vR z]) (r := []) mx_139 pg_128_65 rfl rfl (Nat.le_of_ble_eq_true rfl) (Nat.le_of_ble_eq_true rfl)
theorem pg_128_68 : mm_prog 128 68 = some (0, .iload 4, 70, []) := by decide +kernel
theorem xe_128_68 (a0 a1 a2 a3 : Option MV) (x : Int) (st : List MV) (μ : MM) (G : MG) : ev 128 68 [a0, a1, a2, a3, some (vI x)] st μ G = ev 128 70 [a0, a1, a2, a3, some (vI x)] (vI x :: st) μ G := ev_stp pg_128_68 rfl
theorem pg_128_70 : mm_prog 128 70 = some (2, .ireturn, 71, [0]) := by decide +kernel
theorem xe_128_70 (a0 a1 a2 a3 a4 : Option MV) (x : Int) (μ : MM) (G : MG) : ev 128 70 [a0, a1, a2, a3, a4] [vI x] μ G = some (some (vI x), μ, G) := ev_ret pg_128_70 rfl
-- X10_wire
theorem pg_129_0 : mm_prog 129 0 = some (0, .iload_n 1, 1, []) := by decide +kernel
theorem xe_129_0 (a0 a2 : Option MV) (x : Int) (st : List MV) (μ : MM) (G : MG) : ev 129 0 [a0, some (vI x), a2] st μ G = ev 129 1 [a0, some (vI x), a2] (vI x :: st) μ G := ev_stp pg_129_0 rfl
theorem pg_129_1 : mm_prog 129 1 = some (0, .iload_n 2, 2, []) := by decide +kernel
theorem xe_129_1 (a0 a1 : Option MV) (x : Int) (st : List MV) (μ : MM) (G : MG) : ev 129 1 [a0, a1, some (vI x)] st μ G = ev 129 2 [a0, a1, some (vI x)] (vI x :: st) μ G := ev_stp pg_129_1 rfl
theorem pg_129_2 : mm_prog 129 2 = some (1, .invokestatic 263, 5, [0, 122, 2, 0]) := by decide +kernel
theorem xe_129_2 (a0 a1 a2 : Option MV) (x0 x1 : Int) (μ : MM) (G : MG) : ev 129 2 [a0, a1, a2] (vI x1 :: vI x0 :: []) μ G = (ev 122 0 [some (vI x0), some (vI x1)] [] μ G).bind (fun q => ev 129 5 [a0, a1, a2] (q.1.toList ++ []) q.2.1 q.2.2) := ev_calS (as := [vI x0, vI x1]) (r := []) mx_122 pg_129_2 rfl rfl (Nat.le_of_ble_eq_true rfl) (Nat.le_of_ble_eq_true rfl)
theorem pg_129_5 : mm_prog 129 5 = some (0, .ifCond .ne 6, 8, []) := by decide +kernel
theorem xe_129_5 (a0 a1 a2 : Option MV) (x : Int) (st : List MV) (μ : MM) (G : MG) : ev 129 5 [a0, a1, a2] (vI x :: st) μ G = if ¬ x = 0 then ev 129 11 [a0, a1, a2] st μ G else ev 129 8 [a0, a1, a2] st μ G := ev_br (mm_cnd_ne x 0) pg_129_5 rfl
theorem pg_129_8 : mm_prog 129 8 = some (0, .bipush (-3), 10, []) := by decide +kernel
theorem xe_129_8 (a0 a1 a2 : Option MV) (st : List MV) (μ : MM) (G : MG) : ev 129 8 [a0, a1, a2] st μ G = ev 129 10 [a0, a1, a2] (vI (-3) :: st) μ G := ev_stp pg_129_8 rfl
theorem pg_129_10 : mm_prog 129 10 = some (2, .ireturn, 11, [0]) := by decide +kernel
theorem xe_129_10 (a0 a1 a2 : Option MV) (x : Int) (μ : MM) (G : MG) : ev 129 10 [a0, a1, a2] [vI x] μ G = some (some (vI x), μ, G) := ev_ret pg_129_10 rfl
theorem pg_129_11 : mm_prog 129 11 = some (0, .aload_n 0, 12, []) := by decide +kernel
theorem xe_129_11 (a1 a2 : Option MV) (x : Int) (st : List MV) (μ : MM) (G : MG) : ev 129 11 [some (vR x), a1, a2] st μ G = ev 129 12 [some (vR x), a1, a2] (vR x :: st) μ G := ev_stp pg_129_11 rfl
theorem pg_129_12 : mm_prog 129 12 = some (0, .getfield 64, 15, [10, 8, 2]) := by decide +kernel
theorem xe_129_12 (a0 a1 a2 : Option MV) (x : Int) (st : List MV) (μ : MM) (G : MG) : ev 129 12 [a0, a1, a2] (vR x :: st) μ G = if gk G x = 10 then ev 129 15 [a0, a1, a2] (vR (μ x 8) :: st) μ G else none := ev_if pg_129_12 rfl
theorem pg_129_15 : mm_prog 129 15 = some (0, .iload_n 1, 16, []) := by decide +kernel
theorem xe_129_15 (a0 a2 : Option MV) (x : Int) (st : List MV) (μ : MM) (G : MG) : ev 129 15 [a0, some (vI x), a2] st μ G = ev 129 16 [a0, some (vI x), a2] (vI x :: st) μ G := ev_stp pg_129_15 rfl
theorem pg_129_16 : mm_prog 129 16 = some (0, .putfield 302, 19, [9, 2, 0]) := by decide +kernel
theorem xe_129_16 (a0 a1 a2 : Option MV) (x y : Int) (st : List MV) (μ : MM) (G : MG) : ev 129 16 [a0, a1, a2] (vI x :: vR y :: st) μ G = if gk G y = 9 then ev 129 19 [a0, a1, a2] st (mset μ y 2 x) G else none := ev_put0 pg_129_16
theorem pg_129_19 : mm_prog 129 19 = some (0, .aload_n 0, 20, []) := by decide +kernel
theorem xe_129_19 (a1 a2 : Option MV) (x : Int) (st : List MV) (μ : MM) (G : MG) : ev 129 19 [some (vR x), a1, a2] st μ G = ev 129 20 [some (vR x), a1, a2] (vR x :: st) μ G := ev_stp pg_129_19 rfl
theorem pg_129_20 : mm_prog 129 20 = some (0, .getfield 64, 23, [10, 8, 2]) := by decide +kernel
theorem xe_129_20 (a0 a1 a2 : Option MV) (x : Int) (st : List MV) (μ : MM) (G : MG) : ev 129 20 [a0, a1, a2] (vR x :: st) μ G = if gk G x = 10 then ev 129 23 [a0, a1, a2] (vR (μ x 8) :: st) μ G else none := ev_if pg_129_20 rfl
theorem pg_129_23 : mm_prog 129 23 = some (0, .iload_n 2, 24, []) := by decide +kernel
theorem xe_129_23 (a0 a1 : Option MV) (x : Int) (st : List MV) (μ : MM) (G : MG) : ev 129 23 [a0, a1, some (vI x)] st μ G = ev 129 24 [a0, a1, some (vI x)] (vI x :: st) μ G := ev_stp pg_129_23 rfl
theorem pg_129_24 : mm_prog 129 24 = some (0, .putfield 305, 27, [9, 3, 0]) := by decide +kernel
theorem xe_129_24 (a0 a1 a2 : Option MV) (x y : Int) (st : List MV) (μ : MM) (G : MG) : ev 129 24 [a0, a1, a2] (vI x :: vR y :: st) μ G = if gk G y = 9 then ev 129 27 [a0, a1, a2] st (mset μ y 3 x) G else none := ev_put0 pg_129_24
theorem pg_129_27 : mm_prog 129 27 = some (0, .aload_n 0, 28, []) := by decide +kernel
theorem xe_129_27 (a1 a2 : Option MV) (x : Int) (st : List MV) (μ : MM) (G : MG) : ev 129 27 [some (vR x), a1, a2] st μ G = ev 129 28 [some (vR x), a1, a2] (vR x :: st) μ G := ev_stp pg_129_27 rfl
theorem pg_129_28 : mm_prog 129 28 = some (1, .invokevirtual 299, 31, [1, 139, 0, 10]) := by decide +kernel
theorem xe_129_28 (a0 a1 a2 : Option MV) (z : Int) (μ : MM) (G : MG) : ev 129 28 [a0, a1, a2] (vR z :: []) μ G = if gk G z = 10 ∧ 0 < z then (ev 139 0 [some (vR z)] [] μ G).bind (fun q => ev 129 31 [a0, a1, a2] (q.1.toList ++ []) q.2.1 q.2.2) else none := ev_calV (as := [vR z]) (r := []) mx_139 pg_129_28 rfl rfl (Nat.le_of_ble_eq_true rfl) (Nat.le_of_ble_eq_true rfl)
theorem pg_129_31 : mm_prog 129 31 = some (0, .iload_n 1, 32, []) := by decide +kernel
theorem xe_129_31 (a0 a2 : Option MV) (x : Int) (st : List MV) (μ : MM) (G : MG) : ev 129 31 [a0, some (vI x), a2] st μ G = ev 129 32 [a0, some (vI x), a2] (vI x :: st) μ G := ev_stp pg_129_31 rfl
theorem pg_129_32 : mm_prog 129 32 = some (0, .iload_n 2, 33, []) := by decide +kernel
theorem xe_129_32 (a0 a1 : Option MV) (x : Int) (st : List MV) (μ : MM) (G : MG) : ev 129 32 [a0, a1, some (vI x)] st μ G = ev 129 33 [a0, a1, some (vI x)] (vI x :: st) μ G := ev_stp pg_129_32 rfl
theorem pg_129_33 : mm_prog 129 33 = some (1, .invokestatic 269, 36, [0, 124, 2, 0]) := by decide +kernel
theorem xe_129_33 (a0 a1 a2 : Option MV) (x0 x1 : Int) (μ : MM) (G : MG) : ev 129 33 [a0, a1, a2] (vI x1 :: vI x0 :: []) μ G = (ev 124 0 [some (vI x0), some (vI x1)] [] μ G).bind (fun q => ev 129 36 [a0, a1, a2] (q.1.toList ++ []) q.2.1 q.2.2) := ev_calS (as := [vI x0, vI x1]) (r := []) mx_124 pg_129_33 rfl rfl (Nat.le_of_ble_eq_true rfl) (Nat.le_of_ble_eq_true rfl)
theorem pg_129_36 : mm_prog 129 36 = some (2, .ireturn, 37, [0]) := by decide +kernel
theorem xe_129_36 (a0 a1 a2 : Option MV) (x : Int) (μ : MM) (G : MG) : ev 129 36 [a0, a1, a2] [vI x] μ G = some (some (vI x), μ, G) := ev_ret pg_129_36 rfl
-- X10_begin
theorem pg_130_0 : mm_prog 130 0 = some (0, .aload_n 0, 1, []) := by decide +kernel
theorem xe_130_0 (x : Int) (st : List MV) (μ : MM) (G : MG) : ev 130 0 [some (vR x)] st μ G = ev 130 1 [some (vR x)] (vR x :: st) μ G := ev_stp pg_130_0 rfl
theorem pg_130_1 : mm_prog 130 1 = some (0, .getfield 71, 4, [10, 9, 2]) := by decide +kernel
theorem xe_130_1 (a0 : Option MV) (x : Int) (st : List MV) (μ : MM) (G : MG) : ev 130 1 [a0] (vR x :: st) μ G = if gk G x = 10 then ev 130 4 [a0] (vR (μ x 9) :: st) μ G else none := ev_if pg_130_1 rfl
theorem pg_130_4 : mm_prog 130 4 = some (0, .aload_n 0, 5, []) := by decide +kernel
theorem xe_130_4 (x : Int) (st : List MV) (μ : MM) (G : MG) : ev 130 4 [some (vR x)] st μ G = ev 130 5 [some (vR x)] (vR x :: st) μ G := ev_stp pg_130_4 rfl
theorem pg_130_5 : mm_prog 130 5 = some (0, .getfield 64, 8, [10, 8, 2]) := by decide +kernel
theorem xe_130_5 (a0 : Option MV) (x : Int) (st : List MV) (μ : MM) (G : MG) : ev 130 5 [a0] (vR x :: st) μ G = if gk G x = 10 then ev 130 8 [a0] (vR (μ x 8) :: st) μ G else none := ev_if pg_130_5 rfl
theorem pg_130_8 : mm_prog 130 8 = some (1, .invokevirtual 308, 11, [1, 78, 1, 8]) := by decide +kernel
theorem xe_130_8 (a0 : Option MV) (x0 z : Int) (μ : MM) (G : MG) : ev 130 8 [a0] (vR x0 :: vR z :: []) μ G = if gk G z = 8 ∧ 0 < z then (ev 78 0 [some (vR z), some (vR x0)] [] μ G).bind (fun q => ev 130 11 [a0] (q.1.toList ++ []) q.2.1 q.2.2) else none := ev_calV (as := [vR z, vR x0]) (r := []) mx_78 pg_130_8 rfl rfl (Nat.le_of_ble_eq_true rfl) (Nat.le_of_ble_eq_true rfl)
theorem pg_130_11 : mm_prog 130 11 = some (0, .aload_n 0, 12, []) := by decide +kernel
theorem xe_130_11 (x : Int) (st : List MV) (μ : MM) (G : MG) : ev 130 11 [some (vR x)] st μ G = ev 130 12 [some (vR x)] (vR x :: st) μ G := ev_stp pg_130_11 rfl
theorem pg_130_12 : mm_prog 130 12 = some (0, .getfield 78, 15, [10, 10, 2]) := by decide +kernel
theorem xe_130_12 (a0 : Option MV) (x : Int) (st : List MV) (μ : MM) (G : MG) : ev 130 12 [a0] (vR x :: st) μ G = if gk G x = 10 then ev 130 15 [a0] (vR (μ x 10) :: st) μ G else none := ev_if pg_130_12 rfl
theorem pg_130_15 : mm_prog 130 15 = some (1, .invokevirtual 312, 18, [1, 20, 0, 3]) := by decide +kernel
theorem xe_130_15 (a0 : Option MV) (z : Int) (μ : MM) (G : MG) : ev 130 15 [a0] (vR z :: []) μ G = if gk G z = 3 ∧ 0 < z then (ev 20 0 [some (vR z)] [] μ G).bind (fun q => ev 130 18 [a0] (q.1.toList ++ []) q.2.1 q.2.2) else none := ev_calV (as := [vR z]) (r := []) mx_20 pg_130_15 rfl rfl (Nat.le_of_ble_eq_true rfl) (Nat.le_of_ble_eq_true rfl)
theorem pg_130_18 : mm_prog 130 18 = some (0, .aload_n 0, 19, []) := by decide +kernel
theorem xe_130_18 (x : Int) (st : List MV) (μ : MM) (G : MG) : ev 130 18 [some (vR x)] st μ G = ev 130 19 [some (vR x)] (vR x :: st) μ G := ev_stp pg_130_18 rfl
theorem pg_130_19 : mm_prog 130 19 = some (0, .getfield 64, 22, [10, 8, 2]) := by decide +kernel
theorem xe_130_19 (a0 : Option MV) (x : Int) (st : List MV) (μ : MM) (G : MG) : ev 130 19 [a0] (vR x :: st) μ G = if gk G x = 10 then ev 130 22 [a0] (vR (μ x 8) :: st) μ G else none := ev_if pg_130_19 rfl
theorem pg_130_22 : mm_prog 130 22 = some (0, .getfield 302, 25, [9, 2, 0]) := by decide +kernel
theorem xe_130_22 (a0 : Option MV) (x : Int) (st : List MV) (μ : MM) (G : MG) : ev 130 22 [a0] (vR x :: st) μ G = if gk G x = 9 then ev 130 25 [a0] (vI (μ x 2) :: st) μ G else none := ev_if pg_130_22 rfl
theorem pg_130_25 : mm_prog 130 25 = some (0, .aload_n 0, 26, []) := by decide +kernel
theorem xe_130_25 (x : Int) (st : List MV) (μ : MM) (G : MG) : ev 130 25 [some (vR x)] st μ G = ev 130 26 [some (vR x)] (vR x :: st) μ G := ev_stp pg_130_25 rfl
theorem pg_130_26 : mm_prog 130 26 = some (0, .getfield 64, 29, [10, 8, 2]) := by decide +kernel
theorem xe_130_26 (a0 : Option MV) (x : Int) (st : List MV) (μ : MM) (G : MG) : ev 130 26 [a0] (vR x :: st) μ G = if gk G x = 10 then ev 130 29 [a0] (vR (μ x 8) :: st) μ G else none := ev_if pg_130_26 rfl
theorem pg_130_29 : mm_prog 130 29 = some (0, .getfield 305, 32, [9, 3, 0]) := by decide +kernel
theorem xe_130_29 (a0 : Option MV) (x : Int) (st : List MV) (μ : MM) (G : MG) : ev 130 29 [a0] (vR x :: st) μ G = if gk G x = 9 then ev 130 32 [a0] (vI (μ x 3) :: st) μ G else none := ev_if pg_130_29 rfl
theorem pg_130_32 : mm_prog 130 32 = some (1, .invokestatic 269, 35, [0, 124, 2, 0]) := by decide +kernel
theorem xe_130_32 (a0 : Option MV) (x0 x1 : Int) (μ : MM) (G : MG) : ev 130 32 [a0] (vI x1 :: vI x0 :: []) μ G = (ev 124 0 [some (vI x0), some (vI x1)] [] μ G).bind (fun q => ev 130 35 [a0] (q.1.toList ++ []) q.2.1 q.2.2) := ev_calS (as := [vI x0, vI x1]) (r := []) mx_124 pg_130_32 rfl rfl (Nat.le_of_ble_eq_true rfl) (Nat.le_of_ble_eq_true rfl)
theorem pg_130_35 : mm_prog 130 35 = some (2, .ireturn, 36, [0]) := by decide +kernel
theorem xe_130_35 (a0 : Option MV) (x : Int) (μ : MM) (G : MG) : ev 130 35 [a0] [vI x] μ G = some (some (vI x), μ, G) := ev_ret pg_130_35 rfl
-- X10_tries
theorem pg_131_0 : mm_prog 131 0 = some (0, .iload_n 1, 1, []) := by decide +kernel
theorem xe_131_0 (a0 a2 a3 : Option MV) (x : Int) (st : List MV) (μ : MM) (G : MG) : ev 131 0 [a0, some (vI x), a2, a3] st μ G = ev 131 1 [a0, some (vI x), a2, a3] (vI x :: st) μ G := ev_stp pg_131_0 rfl
theorem pg_131_1 : mm_prog 131 1 = some (0, .iconst 1, 2, []) := by decide +kernel
theorem xe_131_1 (a0 a1 a2 a3 : Option MV) (st : List MV) (μ : MM) (G : MG) : ev 131 1 [a0, a1, a2, a3] st μ G = ev 131 2 [a0, a1, a2, a3] (vI (1) :: st) μ G := ev_stp pg_131_1 rfl
theorem pg_131_2 : mm_prog 131 2 = some (0, .if_icmp .lt 9, 5, []) := by decide +kernel
theorem xe_131_2 (a0 a1 a2 a3 : Option MV) (x y : Int) (st : List MV) (μ : MM) (G : MG) : ev 131 2 [a0, a1, a2, a3] (vI y :: vI x :: st) μ G = if x < y then ev 131 11 [a0, a1, a2, a3] st μ G else ev 131 5 [a0, a1, a2, a3] st μ G := ev_br (mm_cnd_lt x y) pg_131_2 rfl
theorem pg_131_5 : mm_prog 131 5 = some (0, .iload_n 1, 6, []) := by decide +kernel
theorem xe_131_5 (a0 a2 a3 : Option MV) (x : Int) (st : List MV) (μ : MM) (G : MG) : ev 131 5 [a0, some (vI x), a2, a3] st μ G = ev 131 6 [a0, some (vI x), a2, a3] (vI x :: st) μ G := ev_stp pg_131_5 rfl
theorem pg_131_6 : mm_prog 131 6 = some (0, .bipush 100, 8, []) := by decide +kernel
theorem xe_131_6 (a0 a1 a2 a3 : Option MV) (st : List MV) (μ : MM) (G : MG) : ev 131 6 [a0, a1, a2, a3] st μ G = ev 131 8 [a0, a1, a2, a3] (vI (100) :: st) μ G := ev_stp pg_131_6 rfl
theorem pg_131_8 : mm_prog 131 8 = some (0, .if_icmp .le 6, 11, []) := by decide +kernel
theorem xe_131_8 (a0 a1 a2 a3 : Option MV) (x y : Int) (st : List MV) (μ : MM) (G : MG) : ev 131 8 [a0, a1, a2, a3] (vI y :: vI x :: st) μ G = if x ≤ y then ev 131 14 [a0, a1, a2, a3] st μ G else ev 131 11 [a0, a1, a2, a3] st μ G := ev_br (mm_cnd_le x y) pg_131_8 rfl
theorem pg_131_11 : mm_prog 131 11 = some (0, .bipush (-3), 13, []) := by decide +kernel
theorem xe_131_11 (a0 a1 a2 a3 : Option MV) (st : List MV) (μ : MM) (G : MG) : ev 131 11 [a0, a1, a2, a3] st μ G = ev 131 13 [a0, a1, a2, a3] (vI (-3) :: st) μ G := ev_stp pg_131_11 rfl
theorem pg_131_13 : mm_prog 131 13 = some (2, .ireturn, 14, [0]) := by decide +kernel
theorem xe_131_13 (a0 a1 a2 a3 : Option MV) (x : Int) (μ : MM) (G : MG) : ev 131 13 [a0, a1, a2, a3] [vI x] μ G = some (some (vI x), μ, G) := ev_ret pg_131_13 rfl
theorem pg_131_14 : mm_prog 131 14 = some (0, .aload_n 0, 15, []) := by decide +kernel
theorem xe_131_14 (a1 a2 a3 : Option MV) (x : Int) (st : List MV) (μ : MM) (G : MG) : ev 131 14 [some (vR x), a1, a2, a3] st μ G = ev 131 15 [some (vR x), a1, a2, a3] (vR x :: st) μ G := ev_stp pg_131_14 rfl
theorem pg_131_15 : mm_prog 131 15 = some (0, .getfield 71, 18, [10, 9, 2]) := by decide +kernel
theorem xe_131_15 (a0 a1 a2 a3 : Option MV) (x : Int) (st : List MV) (μ : MM) (G : MG) : ev 131 15 [a0, a1, a2, a3] (vR x :: st) μ G = if gk G x = 10 then ev 131 18 [a0, a1, a2, a3] (vR (μ x 9) :: st) μ G else none := ev_if pg_131_15 rfl
theorem pg_131_18 : mm_prog 131 18 = some (1, .invokevirtual 313, 21, [1, 79, 0, 8]) := by decide +kernel
theorem xe_131_18 (a0 a1 a2 a3 : Option MV) (z : Int) (μ : MM) (G : MG) : ev 131 18 [a0, a1, a2, a3] (vR z :: []) μ G = if gk G z = 8 ∧ 0 < z then (ev 79 0 [some (vR z)] [] μ G).bind (fun q => ev 131 21 [a0, a1, a2, a3] (q.1.toList ++ []) q.2.1 q.2.2) else none := ev_calV (as := [vR z]) (r := []) mx_79 pg_131_18 rfl rfl (Nat.le_of_ble_eq_true rfl) (Nat.le_of_ble_eq_true rfl)
theorem pg_131_21 : mm_prog 131 21 = some (0, .ifCond .ne 6, 24, []) := by decide +kernel
theorem xe_131_21 (a0 a1 a2 a3 : Option MV) (x : Int) (st : List MV) (μ : MM) (G : MG) : ev 131 21 [a0, a1, a2, a3] (vI x :: st) μ G = if ¬ x = 0 then ev 131 27 [a0, a1, a2, a3] st μ G else ev 131 24 [a0, a1, a2, a3] st μ G := ev_br (mm_cnd_ne x 0) pg_131_21 rfl
theorem pg_131_24 : mm_prog 131 24 = some (0, .bipush (-5), 26, []) := by decide +kernel
theorem xe_131_24 (a0 a1 a2 a3 : Option MV) (st : List MV) (μ : MM) (G : MG) : ev 131 24 [a0, a1, a2, a3] st μ G = ev 131 26 [a0, a1, a2, a3] (vI (-5) :: st) μ G := ev_stp pg_131_24 rfl
theorem pg_131_26 : mm_prog 131 26 = some (2, .ireturn, 27, [0]) := by decide +kernel
theorem xe_131_26 (a0 a1 a2 a3 : Option MV) (x : Int) (μ : MM) (G : MG) : ev 131 26 [a0, a1, a2, a3] [vI x] μ G = some (some (vI x), μ, G) := ev_ret pg_131_26 rfl
theorem pg_131_27 : mm_prog 131 27 = some (0, .iconst 0, 28, []) := by decide +kernel
theorem xe_131_27 (a0 a1 a2 a3 : Option MV) (st : List MV) (μ : MM) (G : MG) : ev 131 27 [a0, a1, a2, a3] st μ G = ev 131 28 [a0, a1, a2, a3] (vI (0) :: st) μ G := ev_stp pg_131_27 rfl
theorem pg_131_28 : mm_prog 131 28 = some (0, .istore_n 2, 29, []) := by decide +kernel
theorem xe_131_28 (a0 a1 a2 a3 : Option MV) (x : Int) (st : List MV) (μ : MM) (G : MG) (h : mm_nL a1 = true) : ev 131 28 [a0, a1, a2, a3] (vI x :: st) μ G = ev 131 29 [a0, a1, some (vI x), a3] st μ G := ev_st pg_131_28 rfl (mm_nl_of h) (Nat.le_of_ble_eq_true rfl)
theorem pg_131_29 : mm_prog 131 29 = some (0, .iload_n 2, 30, []) := by decide +kernel
theorem xe_131_29 (a0 a1 a3 : Option MV) (x : Int) (st : List MV) (μ : MM) (G : MG) : ev 131 29 [a0, a1, some (vI x), a3] st μ G = ev 131 30 [a0, a1, some (vI x), a3] (vI x :: st) μ G := ev_stp pg_131_29 rfl
theorem pg_131_30 : mm_prog 131 30 = some (0, .iload_n 1, 31, []) := by decide +kernel
theorem xe_131_30 (a0 a2 a3 : Option MV) (x : Int) (st : List MV) (μ : MM) (G : MG) : ev 131 30 [a0, some (vI x), a2, a3] st μ G = ev 131 31 [a0, some (vI x), a2, a3] (vI x :: st) μ G := ev_stp pg_131_30 rfl
theorem pg_131_31 : mm_prog 131 31 = some (0, .if_icmp .ge 57, 34, []) := by decide +kernel
theorem xe_131_31 (a0 a1 a2 a3 : Option MV) (x y : Int) (st : List MV) (μ : MM) (G : MG) : ev 131 31 [a0, a1, a2, a3] (vI y :: vI x :: st) μ G = if y ≤ x then ev 131 88 [a0, a1, a2, a3] st μ G else ev 131 34 [a0, a1, a2, a3] st μ G := ev_br (mm_cnd_ge x y) pg_131_31 rfl
theorem pg_131_34 : mm_prog 131 34 = some (0, .aload_n 0, 35, []) := by decide +kernel
theorem xe_131_34 (a1 a2 a3 : Option MV) (x : Int) (st : List MV) (μ : MM) (G : MG) : ev 131 34 [some (vR x), a1, a2, a3] st μ G = ev 131 35 [some (vR x), a1, a2, a3] (vR x :: st) μ G := ev_stp pg_131_34 rfl
theorem pg_131_35 : mm_prog 131 35 = some (0, .getfield 71, 38, [10, 9, 2]) := by decide +kernel
theorem xe_131_35 (a0 a1 a2 a3 : Option MV) (x : Int) (st : List MV) (μ : MM) (G : MG) : ev 131 35 [a0, a1, a2, a3] (vR x :: st) μ G = if gk G x = 10 then ev 131 38 [a0, a1, a2, a3] (vR (μ x 9) :: st) μ G else none := ev_if pg_131_35 rfl
theorem pg_131_38 : mm_prog 131 38 = some (1, .invokevirtual 313, 41, [1, 79, 0, 8]) := by decide +kernel
theorem xe_131_38 (a0 a1 a2 a3 : Option MV) (z : Int) (μ : MM) (G : MG) : ev 131 38 [a0, a1, a2, a3] (vR z :: []) μ G = if gk G z = 8 ∧ 0 < z then (ev 79 0 [some (vR z)] [] μ G).bind (fun q => ev 131 41 [a0, a1, a2, a3] (q.1.toList ++ []) q.2.1 q.2.2) else none := ev_calV (as := [vR z]) (r := []) mx_79 pg_131_38 rfl rfl (Nat.le_of_ble_eq_true rfl) (Nat.le_of_ble_eq_true rfl)
theorem pg_131_41 : mm_prog 131 41 = some (0, .ifCond .eq 47, 44, []) := by decide +kernel
theorem xe_131_41 (a0 a1 a2 a3 : Option MV) (x : Int) (st : List MV) (μ : MM) (G : MG) : ev 131 41 [a0, a1, a2, a3] (vI x :: st) μ G = if x = 0 then ev 131 88 [a0, a1, a2, a3] st μ G else ev 131 44 [a0, a1, a2, a3] st μ G := ev_br (mm_cnd_eq x 0) pg_131_41 rfl
theorem pg_131_44 : mm_prog 131 44 = some (0, .aload_n 0, 45, []) := by decide +kernel
theorem xe_131_44 (a1 a2 a3 : Option MV) (x : Int) (st : List MV) (μ : MM) (G : MG) : ev 131 44 [some (vR x), a1, a2, a3] st μ G = ev 131 45 [some (vR x), a1, a2, a3] (vR x :: st) μ G := ev_stp pg_131_44 rfl
theorem pg_131_45 : mm_prog 131 45 = some (0, .getfield 78, 48, [10, 10, 2]) := by decide +kernel
theorem xe_131_45 (a0 a1 a2 a3 : Option MV) (x : Int) (st : List MV) (μ : MM) (G : MG) : ev 131 45 [a0, a1, a2, a3] (vR x :: st) μ G = if gk G x = 10 then ev 131 48 [a0, a1, a2, a3] (vR (μ x 10) :: st) μ G else none := ev_if pg_131_45 rfl
theorem pg_131_48 : mm_prog 131 48 = some (0, .aload_n 0, 49, []) := by decide +kernel
theorem xe_131_48 (a1 a2 a3 : Option MV) (x : Int) (st : List MV) (μ : MM) (G : MG) : ev 131 48 [some (vR x), a1, a2, a3] st μ G = ev 131 49 [some (vR x), a1, a2, a3] (vR x :: st) μ G := ev_stp pg_131_48 rfl
theorem pg_131_49 : mm_prog 131 49 = some (0, .getfield 71, 52, [10, 9, 2]) := by decide +kernel
theorem xe_131_49 (a0 a1 a2 a3 : Option MV) (x : Int) (st : List MV) (μ : MM) (G : MG) : ev 131 49 [a0, a1, a2, a3] (vR x :: st) μ G = if gk G x = 10 then ev 131 52 [a0, a1, a2, a3] (vR (μ x 9) :: st) μ G else none := ev_if pg_131_49 rfl
theorem pg_131_52 : mm_prog 131 52 = some (1, .invokevirtual 316, 55, [1, 21, 1, 3]) := by decide +kernel
theorem xe_131_52 (a0 a1 a2 a3 : Option MV) (x0 z : Int) (μ : MM) (G : MG) : ev 131 52 [a0, a1, a2, a3] (vR x0 :: vR z :: []) μ G = if gk G z = 3 ∧ 0 < z then (ev 21 0 [some (vR z), some (vR x0)] [] μ G).bind (fun q => ev 131 55 [a0, a1, a2, a3] (q.1.toList ++ []) q.2.1 q.2.2) else none := ev_calV (as := [vR z, vR x0]) (r := []) mx_21 pg_131_52 rfl rfl (Nat.le_of_ble_eq_true rfl) (Nat.le_of_ble_eq_true rfl)
theorem pg_131_55 : mm_prog 131 55 = some (0, .aload_n 0, 56, []) := by decide +kernel
theorem xe_131_55 (a1 a2 a3 : Option MV) (x : Int) (st : List MV) (μ : MM) (G : MG) : ev 131 55 [some (vR x), a1, a2, a3] st μ G = ev 131 56 [some (vR x), a1, a2, a3] (vR x :: st) μ G := ev_stp pg_131_55 rfl
theorem pg_131_56 : mm_prog 131 56 = some (0, .getfield 71, 59, [10, 9, 2]) := by decide +kernel
theorem xe_131_56 (a0 a1 a2 a3 : Option MV) (x : Int) (st : List MV) (μ : MM) (G : MG) : ev 131 56 [a0, a1, a2, a3] (vR x :: st) μ G = if gk G x = 10 then ev 131 59 [a0, a1, a2, a3] (vR (μ x 9) :: st) μ G else none := ev_if pg_131_56 rfl
theorem pg_131_59 : mm_prog 131 59 = some (0, .aload_n 0, 60, []) := by decide +kernel
theorem xe_131_59 (a1 a2 a3 : Option MV) (x : Int) (st : List MV) (μ : MM) (G : MG) : ev 131 59 [some (vR x), a1, a2, a3] st μ G = ev 131 60 [some (vR x), a1, a2, a3] (vR x :: st) μ G := ev_stp pg_131_59 rfl
theorem pg_131_60 : mm_prog 131 60 = some (0, .getfield 64, 63, [10, 8, 2]) := by decide +kernel
theorem xe_131_60 (a0 a1 a2 a3 : Option MV) (x : Int) (st : List MV) (μ : MM) (G : MG) : ev 131 60 [a0, a1, a2, a3] (vR x :: st) μ G = if gk G x = 10 then ev 131 63 [a0, a1, a2, a3] (vR (μ x 8) :: st) μ G else none := ev_if pg_131_60 rfl
theorem pg_131_63 : mm_prog 131 63 = some (1, .invokevirtual 320, 66, [1, 82, 1, 8]) := by decide +kernel
theorem xe_131_63 (a0 a1 a2 a3 : Option MV) (x0 z : Int) (μ : MM) (G : MG) : ev 131 63 [a0, a1, a2, a3] (vR x0 :: vR z :: []) μ G = if gk G z = 8 ∧ 0 < z then (ev 82 0 [some (vR z), some (vR x0), none] [] μ G).bind (fun q => ev 131 66 [a0, a1, a2, a3] (q.1.toList ++ []) q.2.1 q.2.2) else none := ev_calV (as := [vR z, vR x0]) (r := []) mx_82 pg_131_63 rfl rfl (Nat.le_of_ble_eq_true rfl) (Nat.le_of_ble_eq_true rfl)
theorem pg_131_66 : mm_prog 131 66 = some (0, .istore_n 3, 67, []) := by decide +kernel
theorem xe_131_66 (a0 a1 a2 a3 : Option MV) (x : Int) (st : List MV) (μ : MM) (G : MG) (h : mm_nL a2 = true) : ev 131 66 [a0, a1, a2, a3] (vI x :: st) μ G = ev 131 67 [a0, a1, a2, some (vI x)] st μ G := ev_st pg_131_66 rfl (mm_nl_of h) (Nat.le_of_ble_eq_true rfl)
theorem pg_131_67 : mm_prog 131 67 = some (0, .aload_n 0, 68, []) := by decide +kernel
theorem xe_131_67 (a1 a2 a3 : Option MV) (x : Int) (st : List MV) (μ : MM) (G : MG) : ev 131 67 [some (vR x), a1, a2, a3] st μ G = ev 131 68 [some (vR x), a1, a2, a3] (vR x :: st) μ G := ev_stp pg_131_67 rfl
theorem pg_131_68 : mm_prog 131 68 = some (0, .getfield 78, 71, [10, 10, 2]) := by decide +kernel
theorem xe_131_68 (a0 a1 a2 a3 : Option MV) (x : Int) (st : List MV) (μ : MM) (G : MG) : ev 131 68 [a0, a1, a2, a3] (vR x :: st) μ G = if gk G x = 10 then ev 131 71 [a0, a1, a2, a3] (vR (μ x 10) :: st) μ G else none := ev_if pg_131_68 rfl
theorem pg_131_71 : mm_prog 131 71 = some (0, .aload_n 0, 72, []) := by decide +kernel
theorem xe_131_71 (a1 a2 a3 : Option MV) (x : Int) (st : List MV) (μ : MM) (G : MG) : ev 131 71 [some (vR x), a1, a2, a3] st μ G = ev 131 72 [some (vR x), a1, a2, a3] (vR x :: st) μ G := ev_stp pg_131_71 rfl
theorem pg_131_72 : mm_prog 131 72 = some (0, .getfield 71, 75, [10, 9, 2]) := by decide +kernel
theorem xe_131_72 (a0 a1 a2 a3 : Option MV) (x : Int) (st : List MV) (μ : MM) (G : MG) : ev 131 72 [a0, a1, a2, a3] (vR x :: st) μ G = if gk G x = 10 then ev 131 75 [a0, a1, a2, a3] (vR (μ x 9) :: st) μ G else none := ev_if pg_131_72 rfl
theorem pg_131_75 : mm_prog 131 75 = some (0, .getfield 324, 78, [8, 12, 0]) := by decide +kernel
theorem xe_131_75 (a0 a1 a2 a3 : Option MV) (x : Int) (st : List MV) (μ : MM) (G : MG) : ev 131 75 [a0, a1, a2, a3] (vR x :: st) μ G = if gk G x = 8 then ev 131 78 [a0, a1, a2, a3] (vI (μ x 12) :: st) μ G else none := ev_if pg_131_75 rfl
theorem pg_131_78 : mm_prog 131 78 = some (0, .iload_n 3, 79, []) := by decide +kernel
theorem xe_131_78 (a0 a1 a2 : Option MV) (x : Int) (st : List MV) (μ : MM) (G : MG) : ev 131 78 [a0, a1, a2, some (vI x)] st μ G = ev 131 79 [a0, a1, a2, some (vI x)] (vI x :: st) μ G := ev_stp pg_131_78 rfl
theorem pg_131_79 : mm_prog 131 79 = some (1, .invokevirtual 327, 82, [1, 22, 2, 3]) := by decide +kernel
theorem xe_131_79 (a0 a1 a2 a3 : Option MV) (x0 x1 z : Int) (μ : MM) (G : MG) : ev 131 79 [a0, a1, a2, a3] (vI x1 :: vI x0 :: vR z :: []) μ G = if gk G z = 3 ∧ 0 < z then (ev 22 0 [some (vR z), some (vI x0), some (vI x1)] [] μ G).bind (fun q => ev 131 82 [a0, a1, a2, a3] (q.1.toList ++ []) q.2.1 q.2.2) else none := ev_calV (as := [vR z, vI x0, vI x1]) (r := []) mx_22 pg_131_79 rfl rfl (Nat.le_of_ble_eq_true rfl) (Nat.le_of_ble_eq_true rfl)
theorem pg_131_82 : mm_prog 131 82 = some (0, .iinc 2 1, 85, []) := by decide +kernel
theorem xe_131_82 (a0 a1 a3 : Option MV) (x : Int) (st : List MV) (μ : MM) (G : MG) (h : mm_nL a1 = true) : ev 131 82 [a0, a1, some (vI x), a3] st μ G = ev 131 85 [a0, a1, some (vI (w32 (x + (1)))), a3] st μ G := ev_st pg_131_82 rfl (mm_nl_of h) (Nat.le_of_ble_eq_true rfl)
theorem pg_131_85 : mm_prog 131 85 = some (0, .goto (-56), 88, []) := by decide +kernel
theorem xe_131_85 (a0 a1 a2 a3 : Option MV) (st : List MV) (μ : MM) (G : MG) : ev 131 85 [a0, a1, a2, a3] st μ G = ev 131 29 [a0, a1, a2, a3] st μ G := ev_stp pg_131_85 rfl
theorem pg_131_88 : mm_prog 131 88 = some (0, .iload_n 2, 89, []) := by decide +kernel
theorem xe_131_88 (a0 a1 a3 : Option MV) (x : Int) (st : List MV) (μ : MM) (G : MG) : ev 131 88 [a0, a1, some (vI x), a3] st μ G = ev 131 89 [a0, a1, some (vI x), a3] (vI x :: st) μ G := ev_stp pg_131_88 rfl
theorem pg_131_89 : mm_prog 131 89 = some (2, .ireturn, 90, [0]) := by decide +kernel
theorem xe_131_89 (a0 a1 a2 a3 : Option MV) (x : Int) (μ : MM) (G : MG) : ev 131 89 [a0, a1, a2, a3] [vI x] μ G = some (some (vI x), μ, G) := ev_ret pg_131_89 rfl
-- X10_state
theorem pg_132_0 : mm_prog 132 0 = some (0, .iload_n 1, 1, []) := by decide +kernel
theorem xe_132_0 (a0 : Option MV) (x : Int) (st : List MV) (μ : MM) (G : MG) : ev 132 0 [a0, some (vI x)] st μ G = ev 132 1 [a0, some (vI x)] (vI x :: st) μ G := ev_stp pg_132_0 rfl
theorem pg_132_1 : mm_prog 132 1 = some (0, .tableswitch 117 0 7 #[47, 55, 63, 71, 79, 87, 95, 106], 48, [118, 0, 48, 1, 56, 2, 64, 3, 72, 4, 80, 5, 88, 6, 96, 7, 107]) := by decide +kernel
theorem xe_132_1 (a0 a1 : Option MV) (x : Int) (st : List MV) (μ : MM) (G : MG) : ev 132 1 [a0, a1] (vI x :: st) μ G = if x = 0 then ev 132 48 [a0, a1] st μ G else if x = 1 then ev 132 56 [a0, a1] st μ G else if x = 2 then ev 132 64 [a0, a1] st μ G else if x = 3 then ev 132 72 [a0, a1] st μ G else if x = 4 then ev 132 80 [a0, a1] st μ G else if x = 5 then ev 132 88 [a0, a1] st μ G else if x = 6 then ev 132 96 [a0, a1] st μ G else if x = 7 then ev 132 107 [a0, a1] st μ G else ev 132 118 [a0, a1] st μ G := ev_sw (x := x) (d := 118) (l := [0, 48, 1, 56, 2, 64, 3, 72, 4, 80, 5, 88, 6, 96, 7, 107]) (st' := st) pg_132_1 rfl
theorem pg_132_48 : mm_prog 132 48 = some (0, .aload_n 0, 49, []) := by decide +kernel
theorem xe_132_48 (a1 : Option MV) (x : Int) (st : List MV) (μ : MM) (G : MG) : ev 132 48 [some (vR x), a1] st μ G = ev 132 49 [some (vR x), a1] (vR x :: st) μ G := ev_stp pg_132_48 rfl
theorem pg_132_49 : mm_prog 132 49 = some (0, .getfield 71, 52, [10, 9, 2]) := by decide +kernel
theorem xe_132_49 (a0 a1 : Option MV) (x : Int) (st : List MV) (μ : MM) (G : MG) : ev 132 49 [a0, a1] (vR x :: st) μ G = if gk G x = 10 then ev 132 52 [a0, a1] (vR (μ x 9) :: st) μ G else none := ev_if pg_132_49 rfl
theorem pg_132_52 : mm_prog 132 52 = some (0, .getfield 331, 55, [8, 2, 0]) := by decide +kernel
theorem xe_132_52 (a0 a1 : Option MV) (x : Int) (st : List MV) (μ : MM) (G : MG) : ev 132 52 [a0, a1] (vR x :: st) μ G = if gk G x = 8 then ev 132 55 [a0, a1] (vI (μ x 2) :: st) μ G else none := ev_if pg_132_52 rfl
theorem pg_132_55 : mm_prog 132 55 = some (2, .ireturn, 56, [0]) := by decide +kernel
theorem xe_132_55 (a0 a1 : Option MV) (x : Int) (μ : MM) (G : MG) : ev 132 55 [a0, a1] [vI x] μ G = some (some (vI x), μ, G) := ev_ret pg_132_55 rfl
theorem pg_132_56 : mm_prog 132 56 = some (0, .aload_n 0, 57, []) := by decide +kernel
theorem xe_132_56 (a1 : Option MV) (x : Int) (st : List MV) (μ : MM) (G : MG) : ev 132 56 [some (vR x), a1] st μ G = ev 132 57 [some (vR x), a1] (vR x :: st) μ G := ev_stp pg_132_56 rfl
theorem pg_132_57 : mm_prog 132 57 = some (0, .getfield 71, 60, [10, 9, 2]) := by decide +kernel
theorem xe_132_57 (a0 a1 : Option MV) (x : Int) (st : List MV) (μ : MM) (G : MG) : ev 132 57 [a0, a1] (vR x :: st) μ G = if gk G x = 10 then ev 132 60 [a0, a1] (vR (μ x 9) :: st) μ G else none := ev_if pg_132_57 rfl
theorem pg_132_60 : mm_prog 132 60 = some (0, .getfield 334, 63, [8, 3, 0]) := by decide +kernel
theorem xe_132_60 (a0 a1 : Option MV) (x : Int) (st : List MV) (μ : MM) (G : MG) : ev 132 60 [a0, a1] (vR x :: st) μ G = if gk G x = 8 then ev 132 63 [a0, a1] (vI (μ x 3) :: st) μ G else none := ev_if pg_132_60 rfl
theorem pg_132_63 : mm_prog 132 63 = some (2, .ireturn, 64, [0]) := by decide +kernel
theorem xe_132_63 (a0 a1 : Option MV) (x : Int) (μ : MM) (G : MG) : ev 132 63 [a0, a1] [vI x] μ G = some (some (vI x), μ, G) := ev_ret pg_132_63 rfl
theorem pg_132_64 : mm_prog 132 64 = some (0, .aload_n 0, 65, []) := by decide +kernel
theorem xe_132_64 (a1 : Option MV) (x : Int) (st : List MV) (μ : MM) (G : MG) : ev 132 64 [some (vR x), a1] st μ G = ev 132 65 [some (vR x), a1] (vR x :: st) μ G := ev_stp pg_132_64 rfl
theorem pg_132_65 : mm_prog 132 65 = some (0, .getfield 71, 68, [10, 9, 2]) := by decide +kernel
theorem xe_132_65 (a0 a1 : Option MV) (x : Int) (st : List MV) (μ : MM) (G : MG) : ev 132 65 [a0, a1] (vR x :: st) μ G = if gk G x = 10 then ev 132 68 [a0, a1] (vR (μ x 9) :: st) μ G else none := ev_if pg_132_65 rfl
theorem pg_132_68 : mm_prog 132 68 = some (0, .getfield 335, 71, [8, 4, 0]) := by decide +kernel
theorem xe_132_68 (a0 a1 : Option MV) (x : Int) (st : List MV) (μ : MM) (G : MG) : ev 132 68 [a0, a1] (vR x :: st) μ G = if gk G x = 8 then ev 132 71 [a0, a1] (vI (μ x 4) :: st) μ G else none := ev_if pg_132_68 rfl
theorem pg_132_71 : mm_prog 132 71 = some (2, .ireturn, 72, [0]) := by decide +kernel
theorem xe_132_71 (a0 a1 : Option MV) (x : Int) (μ : MM) (G : MG) : ev 132 71 [a0, a1] [vI x] μ G = some (some (vI x), μ, G) := ev_ret pg_132_71 rfl
theorem pg_132_72 : mm_prog 132 72 = some (0, .aload_n 0, 73, []) := by decide +kernel
theorem xe_132_72 (a1 : Option MV) (x : Int) (st : List MV) (μ : MM) (G : MG) : ev 132 72 [some (vR x), a1] st μ G = ev 132 73 [some (vR x), a1] (vR x :: st) μ G := ev_stp pg_132_72 rfl
theorem pg_132_73 : mm_prog 132 73 = some (0, .getfield 71, 76, [10, 9, 2]) := by decide +kernel
theorem xe_132_73 (a0 a1 : Option MV) (x : Int) (st : List MV) (μ : MM) (G : MG) : ev 132 73 [a0, a1] (vR x :: st) μ G = if gk G x = 10 then ev 132 76 [a0, a1] (vR (μ x 9) :: st) μ G else none := ev_if pg_132_73 rfl
theorem pg_132_76 : mm_prog 132 76 = some (1, .invokevirtual 336, 79, [1, 80, 0, 8]) := by decide +kernel
theorem xe_132_76 (a0 a1 : Option MV) (z : Int) (μ : MM) (G : MG) : ev 132 76 [a0, a1] (vR z :: []) μ G = if gk G z = 8 ∧ 0 < z then (ev 80 0 [some (vR z)] [] μ G).bind (fun q => ev 132 79 [a0, a1] (q.1.toList ++ []) q.2.1 q.2.2) else none := ev_calV (as := [vR z]) (r := []) mx_80 pg_132_76 rfl rfl (Nat.le_of_ble_eq_true rfl) (Nat.le_of_ble_eq_true rfl)
theorem pg_132_79 : mm_prog 132 79 = some (2, .ireturn, 80, [0]) := by decide +kernel
theorem xe_132_79 (a0 a1 : Option MV) (x : Int) (μ : MM) (G : MG) : ev 132 79 [a0, a1] [vI x] μ G = some (some (vI x), μ, G) := ev_ret pg_132_79 rfl
theorem pg_132_80 : mm_prog 132 80 = some (0, .aload_n 0, 81, []) := by decide +kernel
theorem xe_132_80 (a1 : Option MV) (x : Int) (st : List MV) (μ : MM) (G : MG) : ev 132 80 [some (vR x), a1] st μ G = ev 132 81 [some (vR x), a1] (vR x :: st) μ G := ev_stp pg_132_80 rfl
theorem pg_132_81 : mm_prog 132 81 = some (0, .getfield 71, 84, [10, 9, 2]) := by decide +kernel
theorem xe_132_81 (a0 a1 : Option MV) (x : Int) (st : List MV) (μ : MM) (G : MG) : ev 132 81 [a0, a1] (vR x :: st) μ G = if gk G x = 10 then ev 132 84 [a0, a1] (vR (μ x 9) :: st) μ G else none := ev_if pg_132_81 rfl
theorem pg_132_84 : mm_prog 132 84 = some (0, .getfield 339, 87, [8, 10, 0]) := by decide +kernel
theorem xe_132_84 (a0 a1 : Option MV) (x : Int) (st : List MV) (μ : MM) (G : MG) : ev 132 84 [a0, a1] (vR x :: st) μ G = if gk G x = 8 then ev 132 87 [a0, a1] (vI (μ x 10) :: st) μ G else none := ev_if pg_132_84 rfl
theorem pg_132_87 : mm_prog 132 87 = some (2, .ireturn, 88, [0]) := by decide +kernel
theorem xe_132_87 (a0 a1 : Option MV) (x : Int) (μ : MM) (G : MG) : ev 132 87 [a0, a1] [vI x] μ G = some (some (vI x), μ, G) := ev_ret pg_132_87 rfl
theorem pg_132_88 : mm_prog 132 88 = some (0, .aload_n 0, 89, []) := by decide +kernel
theorem xe_132_88 (a1 : Option MV) (x : Int) (st : List MV) (μ : MM) (G : MG) : ev 132 88 [some (vR x), a1] st μ G = ev 132 89 [some (vR x), a1] (vR x :: st) μ G := ev_stp pg_132_88 rfl
theorem pg_132_89 : mm_prog 132 89 = some (0, .getfield 71, 92, [10, 9, 2]) := by decide +kernel
theorem xe_132_89 (a0 a1 : Option MV) (x : Int) (st : List MV) (μ : MM) (G : MG) : ev 132 89 [a0, a1] (vR x :: st) μ G = if gk G x = 10 then ev 132 92 [a0, a1] (vR (μ x 9) :: st) μ G else none := ev_if pg_132_89 rfl
theorem pg_132_92 : mm_prog 132 92 = some (0, .getfield 342, 95, [8, 11, 0]) := by decide +kernel
theorem xe_132_92 (a0 a1 : Option MV) (x : Int) (st : List MV) (μ : MM) (G : MG) : ev 132 92 [a0, a1] (vR x :: st) μ G = if gk G x = 8 then ev 132 95 [a0, a1] (vI (μ x 11) :: st) μ G else none := ev_if pg_132_92 rfl
theorem pg_132_95 : mm_prog 132 95 = some (2, .ireturn, 96, [0]) := by decide +kernel
theorem xe_132_95 (a0 a1 : Option MV) (x : Int) (μ : MM) (G : MG) : ev 132 95 [a0, a1] [vI x] μ G = some (some (vI x), μ, G) := ev_ret pg_132_95 rfl
theorem pg_132_96 : mm_prog 132 96 = some (0, .aload_n 0, 97, []) := by decide +kernel
theorem xe_132_96 (a1 : Option MV) (x : Int) (st : List MV) (μ : MM) (G : MG) : ev 132 96 [some (vR x), a1] st μ G = ev 132 97 [some (vR x), a1] (vR x :: st) μ G := ev_stp pg_132_96 rfl
theorem pg_132_97 : mm_prog 132 97 = some (0, .getfield 71, 100, [10, 9, 2]) := by decide +kernel
theorem xe_132_97 (a0 a1 : Option MV) (x : Int) (st : List MV) (μ : MM) (G : MG) : ev 132 97 [a0, a1] (vR x :: st) μ G = if gk G x = 10 then ev 132 100 [a0, a1] (vR (μ x 9) :: st) μ G else none := ev_if pg_132_97 rfl
theorem pg_132_100 : mm_prog 132 100 = some (0, .getfield 345, 103, [8, 0, 2]) := by decide +kernel
theorem xe_132_100 (a0 a1 : Option MV) (x : Int) (st : List MV) (μ : MM) (G : MG) : ev 132 100 [a0, a1] (vR x :: st) μ G = if gk G x = 8 then ev 132 103 [a0, a1] (vR (μ x 0) :: st) μ G else none := ev_if pg_132_100 rfl
theorem pg_132_103 : mm_prog 132 103 = some (1, .invokestatic 348, 106, [0, 138, 1, 0]) := by decide +kernel
theorem xe_132_103 (a0 a1 : Option MV) (x0 : Int) (μ : MM) (G : MG) : ev 132 103 [a0, a1] (vR x0 :: []) μ G = (ev 138 0 [some (vR x0), none, none, none, none, none] [] μ G).bind (fun q => ev 132 106 [a0, a1] (q.1.toList ++ []) q.2.1 q.2.2) := ev_calS (as := [vR x0]) (r := []) mx_138 pg_132_103 rfl rfl (Nat.le_of_ble_eq_true rfl) (Nat.le_of_ble_eq_true rfl)
theorem pg_132_106 : mm_prog 132 106 = some (2, .ireturn, 107, [0]) := by decide +kernel
theorem xe_132_106 (a0 a1 : Option MV) (x : Int) (μ : MM) (G : MG) : ev 132 106 [a0, a1] [vI x] μ G = some (some (vI x), μ, G) := ev_ret pg_132_106 rfl
theorem pg_132_107 : mm_prog 132 107 = some (0, .aload_n 0, 108, []) := by decide +kernel
theorem xe_132_107 (a1 : Option MV) (x : Int) (st : List MV) (μ : MM) (G : MG) : ev 132 107 [some (vR x), a1] st μ G = ev 132 108 [some (vR x), a1] (vR x :: st) μ G := ev_stp pg_132_107 rfl
theorem pg_132_108 : mm_prog 132 108 = some (0, .getfield 71, 111, [10, 9, 2]) := by decide +kernel
theorem xe_132_108 (a0 a1 : Option MV) (x : Int) (st : List MV) (μ : MM) (G : MG) : ev 132 108 [a0, a1] (vR x :: st) μ G = if gk G x = 10 then ev 132 111 [a0, a1] (vR (μ x 9) :: st) μ G else none := ev_if pg_132_108 rfl
theorem pg_132_111 : mm_prog 132 111 = some (0, .getfield 352, 114, [8, 1, 2]) := by decide +kernel
theorem xe_132_111 (a0 a1 : Option MV) (x : Int) (st : List MV) (μ : MM) (G : MG) : ev 132 111 [a0, a1] (vR x :: st) μ G = if gk G x = 8 then ev 132 114 [a0, a1] (vR (μ x 1) :: st) μ G else none := ev_if pg_132_111 rfl
theorem pg_132_114 : mm_prog 132 114 = some (1, .invokestatic 348, 117, [0, 138, 1, 0]) := by decide +kernel
theorem xe_132_114 (a0 a1 : Option MV) (x0 : Int) (μ : MM) (G : MG) : ev 132 114 [a0, a1] (vR x0 :: []) μ G = (ev 138 0 [some (vR x0), none, none, none, none, none] [] μ G).bind (fun q => ev 132 117 [a0, a1] (q.1.toList ++ []) q.2.1 q.2.2) := ev_calS (as := [vR x0]) (r := []) mx_138 pg_132_114 rfl rfl (Nat.le_of_ble_eq_true rfl) (Nat.le_of_ble_eq_true rfl)
theorem pg_132_117 : mm_prog 132 117 = some (2, .ireturn, 118, [0]) := by decide +kernel
theorem xe_132_117 (a0 a1 : Option MV) (x : Int) (μ : MM) (G : MG) : ev 132 117 [a0, a1] [vI x] μ G = some (some (vI x), μ, G) := ev_ret pg_132_117 rfl
theorem pg_132_118 : mm_prog 132 118 = some (0, .bipush (-2), 120, []) := by decide +kernel
theorem xe_132_118 (a0 a1 : Option MV) (st : List MV) (μ : MM) (G : MG) : ev 132 118 [a0, a1] st μ G = ev 132 120 [a0, a1] (vI (-2) :: st) μ G := ev_stp pg_132_118 rfl
theorem pg_132_120 : mm_prog 132 120 = some (2, .ireturn, 121, [0]) := by decide +kernel
theorem xe_132_120 (a0 a1 : Option MV) (x : Int) (μ : MM) (G : MG) : ev 132 120 [a0, a1] [vI x] μ G = some (some (vI x), μ, G) := ev_ret pg_132_120 rfl
-- X10_level
theorem pg_133_0 : mm_prog 133 0 = some (0, .iload_n 1, 1, []) := by decide +kernel
theorem xe_133_0 (a0 a2 : Option MV) (x : Int) (st : List MV) (μ : MM) (G : MG) : ev 133 0 [a0, some (vI x), a2] st μ G = ev 133 1 [a0, some (vI x), a2] (vI x :: st) μ G := ev_stp pg_133_0 rfl
theorem pg_133_1 : mm_prog 133 1 = some (1, .invokestatic 290, 4, [0, 137, 1, 0]) := by decide +kernel
theorem xe_133_1 (a0 a1 a2 : Option MV) (x0 : Int) (μ : MM) (G : MG) : ev 133 1 [a0, a1, a2] (vI x0 :: []) μ G = (ev 137 0 [some (vI x0)] [] μ G).bind (fun q => ev 133 4 [a0, a1, a2] (q.1.toList ++ []) q.2.1 q.2.2) := ev_calS (as := [vI x0]) (r := []) mx_137 pg_133_1 rfl rfl (Nat.le_of_ble_eq_true rfl) (Nat.le_of_ble_eq_true rfl)
theorem pg_133_4 : mm_prog 133 4 = some (0, .ifCond .ne 6, 7, []) := by decide +kernel
theorem xe_133_4 (a0 a1 a2 : Option MV) (x : Int) (st : List MV) (μ : MM) (G : MG) : ev 133 4 [a0, a1, a2] (vI x :: st) μ G = if ¬ x = 0 then ev 133 10 [a0, a1, a2] st μ G else ev 133 7 [a0, a1, a2] st μ G := ev_br (mm_cnd_ne x 0) pg_133_4 rfl
theorem pg_133_7 : mm_prog 133 7 = some (0, .bipush (-2), 9, []) := by decide +kernel
theorem xe_133_7 (a0 a1 a2 : Option MV) (st : List MV) (μ : MM) (G : MG) : ev 133 7 [a0, a1, a2] st μ G = ev 133 9 [a0, a1, a2] (vI (-2) :: st) μ G := ev_stp pg_133_7 rfl
theorem pg_133_9 : mm_prog 133 9 = some (2, .ireturn, 10, [0]) := by decide +kernel
theorem xe_133_9 (a0 a1 a2 : Option MV) (x : Int) (μ : MM) (G : MG) : ev 133 9 [a0, a1, a2] [vI x] μ G = some (some (vI x), μ, G) := ev_ret pg_133_9 rfl
theorem pg_133_10 : mm_prog 133 10 = some (0, .iload_n 2, 11, []) := by decide +kernel
theorem xe_133_10 (a0 a1 : Option MV) (x : Int) (st : List MV) (μ : MM) (G : MG) : ev 133 10 [a0, a1, some (vI x)] st μ G = ev 133 11 [a0, a1, some (vI x)] (vI x :: st) μ G := ev_stp pg_133_10 rfl
theorem pg_133_11 : mm_prog 133 11 = some (0, .tableswitch 101 0 5 #[37, 47, 57, 67, 77, 89], 48, [112, 0, 48, 1, 58, 2, 68, 3, 78, 4, 88, 5, 100]) := by decide +kernel
theorem xe_133_11 (a0 a1 a2 : Option MV) (x : Int) (st : List MV) (μ : MM) (G : MG) : ev 133 11 [a0, a1, a2] (vI x :: st) μ G = if x = 0 then ev 133 48 [a0, a1, a2] st μ G else if x = 1 then ev 133 58 [a0, a1, a2] st μ G else if x = 2 then ev 133 68 [a0, a1, a2] st μ G else if x = 3 then ev 133 78 [a0, a1, a2] st μ G else if x = 4 then ev 133 88 [a0, a1, a2] st μ G else if x = 5 then ev 133 100 [a0, a1, a2] st μ G else ev 133 112 [a0, a1, a2] st μ G := ev_sw (x := x) (d := 112) (l := [0, 48, 1, 58, 2, 68, 3, 78, 4, 88, 5, 100]) (st' := st) pg_133_11 rfl
theorem pg_133_48 : mm_prog 133 48 = some (0, .aload_n 0, 49, []) := by decide +kernel
theorem xe_133_48 (a1 a2 : Option MV) (x : Int) (st : List MV) (μ : MM) (G : MG) : ev 133 48 [some (vR x), a1, a2] st μ G = ev 133 49 [some (vR x), a1, a2] (vR x :: st) μ G := ev_stp pg_133_48 rfl
theorem pg_133_49 : mm_prog 133 49 = some (0, .getfield 64, 52, [10, 8, 2]) := by decide +kernel
theorem xe_133_49 (a0 a1 a2 : Option MV) (x : Int) (st : List MV) (μ : MM) (G : MG) : ev 133 49 [a0, a1, a2] (vR x :: st) μ G = if gk G x = 10 then ev 133 52 [a0, a1, a2] (vR (μ x 8) :: st) μ G else none := ev_if pg_133_49 rfl
theorem pg_133_52 : mm_prog 133 52 = some (0, .getfield 293, 55, [9, 0, 2]) := by decide +kernel
theorem xe_133_52 (a0 a1 a2 : Option MV) (x : Int) (st : List MV) (μ : MM) (G : MG) : ev 133 52 [a0, a1, a2] (vR x :: st) μ G = if gk G x = 9 then ev 133 55 [a0, a1, a2] (vR (μ x 0) :: st) μ G else none := ev_if pg_133_52 rfl
theorem pg_133_55 : mm_prog 133 55 = some (0, .iload_n 1, 56, []) := by decide +kernel
theorem xe_133_55 (a0 a2 : Option MV) (x : Int) (st : List MV) (μ : MM) (G : MG) : ev 133 55 [a0, some (vI x), a2] st μ G = ev 133 56 [a0, some (vI x), a2] (vI x :: st) μ G := ev_stp pg_133_55 rfl
theorem pg_133_56 : mm_prog 133 56 = some (0, .iaload, 57, []) := by decide +kernel
theorem xe_133_56 (a0 a1 a2 : Option MV) (x y : Int) (st : List MV) (μ : MM) (G : MG) : ev 133 56 [a0, a1, a2] (vI x :: vR y :: st) μ G = if gk G y = 100 ∧ 0 ≤ x ∧ x < gl G y then ev 133 57 [a0, a1, a2] (vI (μ y x) :: st) μ G else none := ev_if pg_133_56 rfl
theorem pg_133_57 : mm_prog 133 57 = some (2, .ireturn, 58, [0]) := by decide +kernel
theorem xe_133_57 (a0 a1 a2 : Option MV) (x : Int) (μ : MM) (G : MG) : ev 133 57 [a0, a1, a2] [vI x] μ G = some (some (vI x), μ, G) := ev_ret pg_133_57 rfl
theorem pg_133_58 : mm_prog 133 58 = some (0, .aload_n 0, 59, []) := by decide +kernel
theorem xe_133_58 (a1 a2 : Option MV) (x : Int) (st : List MV) (μ : MM) (G : MG) : ev 133 58 [some (vR x), a1, a2] st μ G = ev 133 59 [some (vR x), a1, a2] (vR x :: st) μ G := ev_stp pg_133_58 rfl
theorem pg_133_59 : mm_prog 133 59 = some (0, .getfield 64, 62, [10, 8, 2]) := by decide +kernel
theorem xe_133_59 (a0 a1 a2 : Option MV) (x : Int) (st : List MV) (μ : MM) (G : MG) : ev 133 59 [a0, a1, a2] (vR x :: st) μ G = if gk G x = 10 then ev 133 62 [a0, a1, a2] (vR (μ x 8) :: st) μ G else none := ev_if pg_133_59 rfl
theorem pg_133_62 : mm_prog 133 62 = some (0, .getfield 296, 65, [9, 1, 2]) := by decide +kernel
theorem xe_133_62 (a0 a1 a2 : Option MV) (x : Int) (st : List MV) (μ : MM) (G : MG) : ev 133 62 [a0, a1, a2] (vR x :: st) μ G = if gk G x = 9 then ev 133 65 [a0, a1, a2] (vR (μ x 1) :: st) μ G else none := ev_if pg_133_62 rfl
theorem pg_133_65 : mm_prog 133 65 = some (0, .iload_n 1, 66, []) := by decide +kernel
theorem xe_133_65 (a0 a2 : Option MV) (x : Int) (st : List MV) (μ : MM) (G : MG) : ev 133 65 [a0, some (vI x), a2] st μ G = ev 133 66 [a0, some (vI x), a2] (vI x :: st) μ G := ev_stp pg_133_65 rfl
theorem pg_133_66 : mm_prog 133 66 = some (0, .iaload, 67, []) := by decide +kernel
theorem xe_133_66 (a0 a1 a2 : Option MV) (x y : Int) (st : List MV) (μ : MM) (G : MG) : ev 133 66 [a0, a1, a2] (vI x :: vR y :: st) μ G = if gk G y = 100 ∧ 0 ≤ x ∧ x < gl G y then ev 133 67 [a0, a1, a2] (vI (μ y x) :: st) μ G else none := ev_if pg_133_66 rfl
theorem pg_133_67 : mm_prog 133 67 = some (2, .ireturn, 68, [0]) := by decide +kernel
theorem xe_133_67 (a0 a1 a2 : Option MV) (x : Int) (μ : MM) (G : MG) : ev 133 67 [a0, a1, a2] [vI x] μ G = some (some (vI x), μ, G) := ev_ret pg_133_67 rfl
theorem pg_133_68 : mm_prog 133 68 = some (0, .aload_n 0, 69, []) := by decide +kernel
theorem xe_133_68 (a1 a2 : Option MV) (x : Int) (st : List MV) (μ : MM) (G : MG) : ev 133 68 [some (vR x), a1, a2] st μ G = ev 133 69 [some (vR x), a1, a2] (vR x :: st) μ G := ev_stp pg_133_68 rfl
theorem pg_133_69 : mm_prog 133 69 = some (0, .getfield 71, 72, [10, 9, 2]) := by decide +kernel
theorem xe_133_69 (a0 a1 a2 : Option MV) (x : Int) (st : List MV) (μ : MM) (G : MG) : ev 133 69 [a0, a1, a2] (vR x :: st) μ G = if gk G x = 10 then ev 133 72 [a0, a1, a2] (vR (μ x 9) :: st) μ G else none := ev_if pg_133_69 rfl
theorem pg_133_72 : mm_prog 133 72 = some (0, .getfield 345, 75, [8, 0, 2]) := by decide +kernel
theorem xe_133_72 (a0 a1 a2 : Option MV) (x : Int) (st : List MV) (μ : MM) (G : MG) : ev 133 72 [a0, a1, a2] (vR x :: st) μ G = if gk G x = 8 then ev 133 75 [a0, a1, a2] (vR (μ x 0) :: st) μ G else none := ev_if pg_133_72 rfl
theorem pg_133_75 : mm_prog 133 75 = some (0, .iload_n 1, 76, []) := by decide +kernel
theorem xe_133_75 (a0 a2 : Option MV) (x : Int) (st : List MV) (μ : MM) (G : MG) : ev 133 75 [a0, some (vI x), a2] st μ G = ev 133 76 [a0, some (vI x), a2] (vI x :: st) μ G := ev_stp pg_133_75 rfl
theorem pg_133_76 : mm_prog 133 76 = some (0, .iaload, 77, []) := by decide +kernel
theorem xe_133_76 (a0 a1 a2 : Option MV) (x y : Int) (st : List MV) (μ : MM) (G : MG) : ev 133 76 [a0, a1, a2] (vI x :: vR y :: st) μ G = if gk G y = 100 ∧ 0 ≤ x ∧ x < gl G y then ev 133 77 [a0, a1, a2] (vI (μ y x) :: st) μ G else none := ev_if pg_133_76 rfl
theorem pg_133_77 : mm_prog 133 77 = some (2, .ireturn, 78, [0]) := by decide +kernel
theorem xe_133_77 (a0 a1 a2 : Option MV) (x : Int) (μ : MM) (G : MG) : ev 133 77 [a0, a1, a2] [vI x] μ G = some (some (vI x), μ, G) := ev_ret pg_133_77 rfl
theorem pg_133_78 : mm_prog 133 78 = some (0, .aload_n 0, 79, []) := by decide +kernel
theorem xe_133_78 (a1 a2 : Option MV) (x : Int) (st : List MV) (μ : MM) (G : MG) : ev 133 78 [some (vR x), a1, a2] st μ G = ev 133 79 [some (vR x), a1, a2] (vR x :: st) μ G := ev_stp pg_133_78 rfl
theorem pg_133_79 : mm_prog 133 79 = some (0, .getfield 71, 82, [10, 9, 2]) := by decide +kernel
theorem xe_133_79 (a0 a1 a2 : Option MV) (x : Int) (st : List MV) (μ : MM) (G : MG) : ev 133 79 [a0, a1, a2] (vR x :: st) μ G = if gk G x = 10 then ev 133 82 [a0, a1, a2] (vR (μ x 9) :: st) μ G else none := ev_if pg_133_79 rfl
theorem pg_133_82 : mm_prog 133 82 = some (0, .getfield 352, 85, [8, 1, 2]) := by decide +kernel
theorem xe_133_82 (a0 a1 a2 : Option MV) (x : Int) (st : List MV) (μ : MM) (G : MG) : ev 133 82 [a0, a1, a2] (vR x :: st) μ G = if gk G x = 8 then ev 133 85 [a0, a1, a2] (vR (μ x 1) :: st) μ G else none := ev_if pg_133_82 rfl
theorem pg_133_85 : mm_prog 133 85 = some (0, .iload_n 1, 86, []) := by decide +kernel
theorem xe_133_85 (a0 a2 : Option MV) (x : Int) (st : List MV) (μ : MM) (G : MG) : ev 133 85 [a0, some (vI x), a2] st μ G = ev 133 86 [a0, some (vI x), a2] (vI x :: st) μ G := ev_stp pg_133_85 rfl
theorem pg_133_86 : mm_prog 133 86 = some (0, .iaload, 87, []) := by decide +kernel
theorem xe_133_86 (a0 a1 a2 : Option MV) (x y : Int) (st : List MV) (μ : MM) (G : MG) : ev 133 86 [a0, a1, a2] (vI x :: vR y :: st) μ G = if gk G y = 100 ∧ 0 ≤ x ∧ x < gl G y then ev 133 87 [a0, a1, a2] (vI (μ y x) :: st) μ G else none := ev_if pg_133_86 rfl
theorem pg_133_87 : mm_prog 133 87 = some (2, .ireturn, 88, [0]) := by decide +kernel
theorem xe_133_87 (a0 a1 a2 : Option MV) (x : Int) (μ : MM) (G : MG) : ev 133 87 [a0, a1, a2] [vI x] μ G = some (some (vI x), μ, G) := ev_ret pg_133_87 rfl
theorem pg_133_88 : mm_prog 133 88 = some (0, .aload_n 0, 89, []) := by decide +kernel
theorem xe_133_88 (a1 a2 : Option MV) (x : Int) (st : List MV) (μ : MM) (G : MG) : ev 133 88 [some (vR x), a1, a2] st μ G = ev 133 89 [some (vR x), a1, a2] (vR x :: st) μ G := ev_stp pg_133_88 rfl
theorem pg_133_89 : mm_prog 133 89 = some (0, .getfield 71, 92, [10, 9, 2]) := by decide +kernel
theorem xe_133_89 (a0 a1 a2 : Option MV) (x : Int) (st : List MV) (μ : MM) (G : MG) : ev 133 89 [a0, a1, a2] (vR x :: st) μ G = if gk G x = 10 then ev 133 92 [a0, a1, a2] (vR (μ x 9) :: st) μ G else none := ev_if pg_133_89 rfl
theorem pg_133_92 : mm_prog 133 92 = some (0, .getfield 355, 95, [8, 5, 0]) := by decide +kernel
theorem xe_133_92 (a0 a1 a2 : Option MV) (x : Int) (st : List MV) (μ : MM) (G : MG) : ev 133 92 [a0, a1, a2] (vR x :: st) μ G = if gk G x = 8 then ev 133 95 [a0, a1, a2] (vI (μ x 5) :: st) μ G else none := ev_if pg_133_92 rfl
theorem pg_133_95 : mm_prog 133 95 = some (0, .iload_n 1, 96, []) := by decide +kernel
theorem xe_133_95 (a0 a2 : Option MV) (x : Int) (st : List MV) (μ : MM) (G : MG) : ev 133 95 [a0, some (vI x), a2] st μ G = ev 133 96 [a0, some (vI x), a2] (vI x :: st) μ G := ev_stp pg_133_95 rfl
theorem pg_133_96 : mm_prog 133 96 = some (0, .ishr, 97, []) := by decide +kernel
theorem xe_133_96 (a0 a1 a2 : Option MV) (x y : Int) (st : List MV) (μ : MM) (G : MG) : ev 133 96 [a0, a1, a2] (vI y :: vI x :: st) μ G = ev 133 97 [a0, a1, a2] (vI (mm_shr x y) :: st) μ G := ev_stp pg_133_96 rfl
theorem pg_133_97 : mm_prog 133 97 = some (0, .iconst 1, 98, []) := by decide +kernel
theorem xe_133_97 (a0 a1 a2 : Option MV) (st : List MV) (μ : MM) (G : MG) : ev 133 97 [a0, a1, a2] st μ G = ev 133 98 [a0, a1, a2] (vI (1) :: st) μ G := ev_stp pg_133_97 rfl
theorem pg_133_98 : mm_prog 133 98 = some (0, .iand, 99, []) := by decide +kernel
theorem xe_133_98 (a0 a1 a2 : Option MV) (x y : Int) (st : List MV) (μ : MM) (G : MG) : ev 133 98 [a0, a1, a2] (vI y :: vI x :: st) μ G = ev 133 99 [a0, a1, a2] (vI (mm_and x y) :: st) μ G := ev_stp pg_133_98 rfl
theorem pg_133_99 : mm_prog 133 99 = some (2, .ireturn, 100, [0]) := by decide +kernel
theorem xe_133_99 (a0 a1 a2 : Option MV) (x : Int) (μ : MM) (G : MG) : ev 133 99 [a0, a1, a2] [vI x] μ G = some (some (vI x), μ, G) := ev_ret pg_133_99 rfl
theorem pg_133_100 : mm_prog 133 100 = some (0, .aload_n 0, 101, []) := by decide +kernel
theorem xe_133_100 (a1 a2 : Option MV) (x : Int) (st : List MV) (μ : MM) (G : MG) : ev 133 100 [some (vR x), a1, a2] st μ G = ev 133 101 [some (vR x), a1, a2] (vR x :: st) μ G := ev_stp pg_133_100 rfl
theorem pg_133_101 : mm_prog 133 101 = some (0, .getfield 71, 104, [10, 9, 2]) := by decide +kernel
theorem xe_133_101 (a0 a1 a2 : Option MV) (x : Int) (st : List MV) (μ : MM) (G : MG) : ev 133 101 [a0, a1, a2] (vR x :: st) μ G = if gk G x = 10 then ev 133 104 [a0, a1, a2] (vR (μ x 9) :: st) μ G else none := ev_if pg_133_101 rfl
theorem pg_133_104 : mm_prog 133 104 = some (0, .getfield 358, 107, [8, 6, 0]) := by decide +kernel
theorem xe_133_104 (a0 a1 a2 : Option MV) (x : Int) (st : List MV) (μ : MM) (G : MG) : ev 133 104 [a0, a1, a2] (vR x :: st) μ G = if gk G x = 8 then ev 133 107 [a0, a1, a2] (vI (μ x 6) :: st) μ G else none := ev_if pg_133_104 rfl
theorem pg_133_107 : mm_prog 133 107 = some (0, .iload_n 1, 108, []) := by decide +kernel
theorem xe_133_107 (a0 a2 : Option MV) (x : Int) (st : List MV) (μ : MM) (G : MG) : ev 133 107 [a0, some (vI x), a2] st μ G = ev 133 108 [a0, some (vI x), a2] (vI x :: st) μ G := ev_stp pg_133_107 rfl
theorem pg_133_108 : mm_prog 133 108 = some (0, .ishr, 109, []) := by decide +kernel
theorem xe_133_108 (a0 a1 a2 : Option MV) (x y : Int) (st : List MV) (μ : MM) (G : MG) : ev 133 108 [a0, a1, a2] (vI y :: vI x :: st) μ G = ev 133 109 [a0, a1, a2] (vI (mm_shr x y) :: st) μ G := ev_stp pg_133_108 rfl
theorem pg_133_109 : mm_prog 133 109 = some (0, .iconst 1, 110, []) := by decide +kernel
theorem xe_133_109 (a0 a1 a2 : Option MV) (st : List MV) (μ : MM) (G : MG) : ev 133 109 [a0, a1, a2] st μ G = ev 133 110 [a0, a1, a2] (vI (1) :: st) μ G := ev_stp pg_133_109 rfl
theorem pg_133_110 : mm_prog 133 110 = some (0, .iand, 111, []) := by decide +kernel
theorem xe_133_110 (a0 a1 a2 : Option MV) (x y : Int) (st : List MV) (μ : MM) (G : MG) : ev 133 110 [a0, a1, a2] (vI y :: vI x :: st) μ G = ev 133 111 [a0, a1, a2] (vI (mm_and x y) :: st) μ G := ev_stp pg_133_110 rfl
theorem pg_133_111 : mm_prog 133 111 = some (2, .ireturn, 112, [0]) := by decide +kernel
theorem xe_133_111 (a0 a1 a2 : Option MV) (x : Int) (μ : MM) (G : MG) : ev 133 111 [a0, a1, a2] [vI x] μ G = some (some (vI x), μ, G) := ev_ret pg_133_111 rfl
theorem pg_133_112 : mm_prog 133 112 = some (0, .bipush (-2), 114, []) := by decide +kernel
theorem xe_133_112 (a0 a1 a2 : Option MV) (st : List MV) (μ : MM) (G : MG) : ev 133 112 [a0, a1, a2] st μ G = ev 133 114 [a0, a1, a2] (vI (-2) :: st) μ G := ev_stp pg_133_112 rfl
theorem pg_133_114 : mm_prog 133 114 = some (2, .ireturn, 115, [0]) := by decide +kernel
theorem xe_133_114 (a0 a1 a2 : Option MV) (x : Int) (μ : MM) (G : MG) : ev 133 114 [a0, a1, a2] [vI x] μ G = some (some (vI x), μ, G) := ev_ret pg_133_114 rfl
-- X10_fall
theorem pg_134_0 : mm_prog 134 0 = some (0, .iload_n 1, 1, []) := by decide +kernel
theorem xe_134_0 (a0 a2 : Option MV) (x : Int) (st : List MV) (μ : MM) (G : MG) : ev 134 0 [a0, some (vI x), a2] st μ G = ev 134 1 [a0, some (vI x), a2] (vI x :: st) μ G := ev_stp pg_134_0 rfl
theorem pg_134_1 : mm_prog 134 1 = some (0, .ifCond .lt 23, 4, []) := by decide +kernel
theorem xe_134_1 (a0 a1 a2 : Option MV) (x : Int) (st : List MV) (μ : MM) (G : MG) : ev 134 1 [a0, a1, a2] (vI x :: st) μ G = if x < 0 then ev 134 24 [a0, a1, a2] st μ G else ev 134 4 [a0, a1, a2] st μ G := ev_br (mm_cnd_lt x 0) pg_134_1 rfl
theorem pg_134_4 : mm_prog 134 4 = some (0, .iload_n 1, 5, []) := by decide +kernel
theorem xe_134_4 (a0 a2 : Option MV) (x : Int) (st : List MV) (μ : MM) (G : MG) : ev 134 4 [a0, some (vI x), a2] st μ G = ev 134 5 [a0, some (vI x), a2] (vI x :: st) μ G := ev_stp pg_134_4 rfl
theorem pg_134_5 : mm_prog 134 5 = some (0, .aload_n 0, 6, []) := by decide +kernel
theorem xe_134_5 (a1 a2 : Option MV) (x : Int) (st : List MV) (μ : MM) (G : MG) : ev 134 5 [some (vR x), a1, a2] st μ G = ev 134 6 [some (vR x), a1, a2] (vR x :: st) μ G := ev_stp pg_134_5 rfl
theorem pg_134_6 : mm_prog 134 6 = some (0, .getfield 78, 9, [10, 10, 2]) := by decide +kernel
theorem xe_134_6 (a0 a1 a2 : Option MV) (x : Int) (st : List MV) (μ : MM) (G : MG) : ev 134 6 [a0, a1, a2] (vR x :: st) μ G = if gk G x = 10 then ev 134 9 [a0, a1, a2] (vR (μ x 10) :: st) μ G else none := ev_if pg_134_6 rfl
theorem pg_134_9 : mm_prog 134 9 = some (0, .getfield 361, 12, [3, 3, 0]) := by decide +kernel
theorem xe_134_9 (a0 a1 a2 : Option MV) (x : Int) (st : List MV) (μ : MM) (G : MG) : ev 134 9 [a0, a1, a2] (vR x :: st) μ G = if gk G x = 3 then ev 134 12 [a0, a1, a2] (vI (μ x 3) :: st) μ G else none := ev_if pg_134_9 rfl
theorem pg_134_12 : mm_prog 134 12 = some (0, .if_icmp .ge 12, 15, []) := by decide +kernel
theorem xe_134_12 (a0 a1 a2 : Option MV) (x y : Int) (st : List MV) (μ : MM) (G : MG) : ev 134 12 [a0, a1, a2] (vI y :: vI x :: st) μ G = if y ≤ x then ev 134 24 [a0, a1, a2] st μ G else ev 134 15 [a0, a1, a2] st μ G := ev_br (mm_cnd_ge x y) pg_134_12 rfl
theorem pg_134_15 : mm_prog 134 15 = some (0, .iload_n 2, 16, []) := by decide +kernel
theorem xe_134_15 (a0 a1 : Option MV) (x : Int) (st : List MV) (μ : MM) (G : MG) : ev 134 15 [a0, a1, some (vI x)] st μ G = ev 134 16 [a0, a1, some (vI x)] (vI x :: st) μ G := ev_stp pg_134_15 rfl
theorem pg_134_16 : mm_prog 134 16 = some (0, .ifCond .lt 8, 19, []) := by decide +kernel
theorem xe_134_16 (a0 a1 a2 : Option MV) (x : Int) (st : List MV) (μ : MM) (G : MG) : ev 134 16 [a0, a1, a2] (vI x :: st) μ G = if x < 0 then ev 134 24 [a0, a1, a2] st μ G else ev 134 19 [a0, a1, a2] st μ G := ev_br (mm_cnd_lt x 0) pg_134_16 rfl
theorem pg_134_19 : mm_prog 134 19 = some (0, .iload_n 2, 20, []) := by decide +kernel
theorem xe_134_19 (a0 a1 : Option MV) (x : Int) (st : List MV) (μ : MM) (G : MG) : ev 134 19 [a0, a1, some (vI x)] st μ G = ev 134 20 [a0, a1, some (vI x)] (vI x :: st) μ G := ev_stp pg_134_19 rfl
theorem pg_134_20 : mm_prog 134 20 = some (0, .iconst 3, 21, []) := by decide +kernel
theorem xe_134_20 (a0 a1 a2 : Option MV) (st : List MV) (μ : MM) (G : MG) : ev 134 20 [a0, a1, a2] st μ G = ev 134 21 [a0, a1, a2] (vI (3) :: st) μ G := ev_stp pg_134_20 rfl
theorem pg_134_21 : mm_prog 134 21 = some (0, .if_icmp .le 8, 24, []) := by decide +kernel
theorem xe_134_21 (a0 a1 a2 : Option MV) (x y : Int) (st : List MV) (μ : MM) (G : MG) : ev 134 21 [a0, a1, a2] (vI y :: vI x :: st) μ G = if x ≤ y then ev 134 29 [a0, a1, a2] st μ G else ev 134 24 [a0, a1, a2] st μ G := ev_br (mm_cnd_le x y) pg_134_21 rfl
theorem pg_134_24 : mm_prog 134 24 = some (0, .bipush (-2), 26, []) := by decide +kernel
theorem xe_134_24 (a0 a1 a2 : Option MV) (st : List MV) (μ : MM) (G : MG) : ev 134 24 [a0, a1, a2] st μ G = ev 134 26 [a0, a1, a2] (vI (-2) :: st) μ G := ev_stp pg_134_24 rfl
theorem pg_134_26 : mm_prog 134 26 = some (0, .goto 12, 29, []) := by decide +kernel
theorem xe_134_26 (a0 a1 a2 : Option MV) (st : List MV) (μ : MM) (G : MG) : ev 134 26 [a0, a1, a2] st μ G = ev 134 38 [a0, a1, a2] st μ G := ev_stp pg_134_26 rfl
theorem pg_134_29 : mm_prog 134 29 = some (0, .aload_n 0, 30, []) := by decide +kernel
theorem xe_134_29 (a1 a2 : Option MV) (x : Int) (st : List MV) (μ : MM) (G : MG) : ev 134 29 [some (vR x), a1, a2] st μ G = ev 134 30 [some (vR x), a1, a2] (vR x :: st) μ G := ev_stp pg_134_29 rfl
theorem pg_134_30 : mm_prog 134 30 = some (0, .getfield 78, 33, [10, 10, 2]) := by decide +kernel
theorem xe_134_30 (a0 a1 a2 : Option MV) (x : Int) (st : List MV) (μ : MM) (G : MG) : ev 134 30 [a0, a1, a2] (vR x :: st) μ G = if gk G x = 10 then ev 134 33 [a0, a1, a2] (vR (μ x 10) :: st) μ G else none := ev_if pg_134_30 rfl
theorem pg_134_33 : mm_prog 134 33 = some (0, .iload_n 1, 34, []) := by decide +kernel
theorem xe_134_33 (a0 a2 : Option MV) (x : Int) (st : List MV) (μ : MM) (G : MG) : ev 134 33 [a0, some (vI x), a2] st μ G = ev 134 34 [a0, some (vI x), a2] (vI x :: st) μ G := ev_stp pg_134_33 rfl
theorem pg_134_34 : mm_prog 134 34 = some (0, .iload_n 2, 35, []) := by decide +kernel
theorem xe_134_34 (a0 a1 : Option MV) (x : Int) (st : List MV) (μ : MM) (G : MG) : ev 134 34 [a0, a1, some (vI x)] st μ G = ev 134 35 [a0, a1, some (vI x)] (vI x :: st) μ G := ev_stp pg_134_34 rfl
theorem pg_134_35 : mm_prog 134 35 = some (1, .invokevirtual 362, 38, [1, 26, 2, 3]) := by decide +kernel
theorem xe_134_35 (a0 a1 a2 : Option MV) (x0 x1 z : Int) (μ : MM) (G : MG) : ev 134 35 [a0, a1, a2] (vI x1 :: vI x0 :: vR z :: []) μ G = if gk G z = 3 ∧ 0 < z then (ev 26 0 [some (vR z), some (vI x0), some (vI x1)] [] μ G).bind (fun q => ev 134 38 [a0, a1, a2] (q.1.toList ++ []) q.2.1 q.2.2) else none := ev_calV (as := [vR z, vI x0, vI x1]) (r := []) mx_26 pg_134_35 rfl rfl (Nat.le_of_ble_eq_true rfl) (Nat.le_of_ble_eq_true rfl)
theorem pg_134_38 : mm_prog 134 38 = some (2, .ireturn, 39, [0]) := by decide +kernel
theorem xe_134_38 (a0 a1 a2 : Option MV) (x : Int) (μ : MM) (G : MG) : ev 134 38 [a0, a1, a2] [vI x] μ G = some (some (vI x), μ, G) := ev_ret pg_134_38 rfl
-- X10_step
theorem pg_135_0 : mm_prog 135 0 = some (0, .iload_n 1, 1, []) := by decide +kernel
theorem xe_135_0 (a0 a2 : Option MV) (x : Int) (st : List MV) (μ : MM) (G : MG) : ev 135 0 [a0, some (vI x), a2] st μ G = ev 135 1 [a0, some (vI x), a2] (vI x :: st) μ G := ev_stp pg_135_0 rfl
theorem pg_135_1 : mm_prog 135 1 = some (0, .ifCond .lt 24, 4, []) := by decide +kernel
theorem xe_135_1 (a0 a1 a2 : Option MV) (x : Int) (st : List MV) (μ : MM) (G : MG) : ev 135 1 [a0, a1, a2] (vI x :: st) μ G = if x < 0 then ev 135 25 [a0, a1, a2] st μ G else ev 135 4 [a0, a1, a2] st μ G := ev_br (mm_cnd_lt x 0) pg_135_1 rfl
theorem pg_135_4 : mm_prog 135 4 = some (0, .iload_n 1, 5, []) := by decide +kernel
theorem xe_135_4 (a0 a2 : Option MV) (x : Int) (st : List MV) (μ : MM) (G : MG) : ev 135 4 [a0, some (vI x), a2] st μ G = ev 135 5 [a0, some (vI x), a2] (vI x :: st) μ G := ev_stp pg_135_4 rfl
theorem pg_135_5 : mm_prog 135 5 = some (0, .aload_n 0, 6, []) := by decide +kernel
theorem xe_135_5 (a1 a2 : Option MV) (x : Int) (st : List MV) (μ : MM) (G : MG) : ev 135 5 [some (vR x), a1, a2] st μ G = ev 135 6 [some (vR x), a1, a2] (vR x :: st) μ G := ev_stp pg_135_5 rfl
theorem pg_135_6 : mm_prog 135 6 = some (0, .getfield 78, 9, [10, 10, 2]) := by decide +kernel
theorem xe_135_6 (a0 a1 a2 : Option MV) (x : Int) (st : List MV) (μ : MM) (G : MG) : ev 135 6 [a0, a1, a2] (vR x :: st) μ G = if gk G x = 10 then ev 135 9 [a0, a1, a2] (vR (μ x 10) :: st) μ G else none := ev_if pg_135_6 rfl
theorem pg_135_9 : mm_prog 135 9 = some (0, .getfield 365, 12, [3, 2, 0]) := by decide +kernel
theorem xe_135_9 (a0 a1 a2 : Option MV) (x : Int) (st : List MV) (μ : MM) (G : MG) : ev 135 9 [a0, a1, a2] (vR x :: st) μ G = if gk G x = 3 then ev 135 12 [a0, a1, a2] (vI (μ x 2) :: st) μ G else none := ev_if pg_135_9 rfl
theorem pg_135_12 : mm_prog 135 12 = some (0, .if_icmp .ge 13, 15, []) := by decide +kernel
theorem xe_135_12 (a0 a1 a2 : Option MV) (x y : Int) (st : List MV) (μ : MM) (G : MG) : ev 135 12 [a0, a1, a2] (vI y :: vI x :: st) μ G = if y ≤ x then ev 135 25 [a0, a1, a2] st μ G else ev 135 15 [a0, a1, a2] st μ G := ev_br (mm_cnd_ge x y) pg_135_12 rfl
theorem pg_135_15 : mm_prog 135 15 = some (0, .iload_n 2, 16, []) := by decide +kernel
theorem xe_135_15 (a0 a1 : Option MV) (x : Int) (st : List MV) (μ : MM) (G : MG) : ev 135 15 [a0, a1, some (vI x)] st μ G = ev 135 16 [a0, a1, some (vI x)] (vI x :: st) μ G := ev_stp pg_135_15 rfl
theorem pg_135_16 : mm_prog 135 16 = some (0, .ifCond .lt 9, 19, []) := by decide +kernel
theorem xe_135_16 (a0 a1 a2 : Option MV) (x : Int) (st : List MV) (μ : MM) (G : MG) : ev 135 16 [a0, a1, a2] (vI x :: st) μ G = if x < 0 then ev 135 25 [a0, a1, a2] st μ G else ev 135 19 [a0, a1, a2] st μ G := ev_br (mm_cnd_lt x 0) pg_135_16 rfl
theorem pg_135_19 : mm_prog 135 19 = some (0, .iload_n 2, 20, []) := by decide +kernel
theorem xe_135_19 (a0 a1 : Option MV) (x : Int) (st : List MV) (μ : MM) (G : MG) : ev 135 19 [a0, a1, some (vI x)] st μ G = ev 135 20 [a0, a1, some (vI x)] (vI x :: st) μ G := ev_stp pg_135_19 rfl
theorem pg_135_20 : mm_prog 135 20 = some (0, .bipush 6, 22, []) := by decide +kernel
theorem xe_135_20 (a0 a1 a2 : Option MV) (st : List MV) (μ : MM) (G : MG) : ev 135 20 [a0, a1, a2] st μ G = ev 135 22 [a0, a1, a2] (vI (6) :: st) μ G := ev_stp pg_135_20 rfl
theorem pg_135_22 : mm_prog 135 22 = some (0, .if_icmp .le 8, 25, []) := by decide +kernel
theorem xe_135_22 (a0 a1 a2 : Option MV) (x y : Int) (st : List MV) (μ : MM) (G : MG) : ev 135 22 [a0, a1, a2] (vI y :: vI x :: st) μ G = if x ≤ y then ev 135 30 [a0, a1, a2] st μ G else ev 135 25 [a0, a1, a2] st μ G := ev_br (mm_cnd_le x y) pg_135_22 rfl
theorem pg_135_25 : mm_prog 135 25 = some (0, .bipush (-2), 27, []) := by decide +kernel
theorem xe_135_25 (a0 a1 a2 : Option MV) (st : List MV) (μ : MM) (G : MG) : ev 135 25 [a0, a1, a2] st μ G = ev 135 27 [a0, a1, a2] (vI (-2) :: st) μ G := ev_stp pg_135_25 rfl
theorem pg_135_27 : mm_prog 135 27 = some (0, .goto 12, 30, []) := by decide +kernel
theorem xe_135_27 (a0 a1 a2 : Option MV) (st : List MV) (μ : MM) (G : MG) : ev 135 27 [a0, a1, a2] st μ G = ev 135 39 [a0, a1, a2] st μ G := ev_stp pg_135_27 rfl
theorem pg_135_30 : mm_prog 135 30 = some (0, .aload_n 0, 31, []) := by decide +kernel
theorem xe_135_30 (a1 a2 : Option MV) (x : Int) (st : List MV) (μ : MM) (G : MG) : ev 135 30 [some (vR x), a1, a2] st μ G = ev 135 31 [some (vR x), a1, a2] (vR x :: st) μ G := ev_stp pg_135_30 rfl
theorem pg_135_31 : mm_prog 135 31 = some (0, .getfield 78, 34, [10, 10, 2]) := by decide +kernel
theorem xe_135_31 (a0 a1 a2 : Option MV) (x : Int) (st : List MV) (μ : MM) (G : MG) : ev 135 31 [a0, a1, a2] (vR x :: st) μ G = if gk G x = 10 then ev 135 34 [a0, a1, a2] (vR (μ x 10) :: st) μ G else none := ev_if pg_135_31 rfl
theorem pg_135_34 : mm_prog 135 34 = some (0, .iload_n 1, 35, []) := by decide +kernel
theorem xe_135_34 (a0 a2 : Option MV) (x : Int) (st : List MV) (μ : MM) (G : MG) : ev 135 34 [a0, some (vI x), a2] st μ G = ev 135 35 [a0, some (vI x), a2] (vI x :: st) μ G := ev_stp pg_135_34 rfl
theorem pg_135_35 : mm_prog 135 35 = some (0, .iload_n 2, 36, []) := by decide +kernel
theorem xe_135_35 (a0 a1 : Option MV) (x : Int) (st : List MV) (μ : MM) (G : MG) : ev 135 35 [a0, a1, some (vI x)] st μ G = ev 135 36 [a0, a1, some (vI x)] (vI x :: st) μ G := ev_stp pg_135_35 rfl
theorem pg_135_36 : mm_prog 135 36 = some (1, .invokevirtual 368, 39, [1, 25, 2, 3]) := by decide +kernel
theorem xe_135_36 (a0 a1 a2 : Option MV) (x0 x1 z : Int) (μ : MM) (G : MG) : ev 135 36 [a0, a1, a2] (vI x1 :: vI x0 :: vR z :: []) μ G = if gk G z = 3 ∧ 0 < z then (ev 25 0 [some (vR z), some (vI x0), some (vI x1), none] [] μ G).bind (fun q => ev 135 39 [a0, a1, a2] (q.1.toList ++ []) q.2.1 q.2.2) else none := ev_calV (as := [vR z, vI x0, vI x1]) (r := []) mx_25 pg_135_36 rfl rfl (Nat.le_of_ble_eq_true rfl) (Nat.le_of_ble_eq_true rfl)
theorem pg_135_39 : mm_prog 135 39 = some (2, .ireturn, 40, [0]) := by decide +kernel
theorem xe_135_39 (a0 a1 a2 : Option MV) (x : Int) (μ : MM) (G : MG) : ev 135 39 [a0, a1, a2] [vI x] μ G = some (some (vI x), μ, G) := ev_ret pg_135_39 rfl
-- X10_shown
theorem pg_136_0 : mm_prog 136 0 = some (0, .iload_n 1, 1, []) := by decide +kernel
theorem xe_136_0 (a0 : Option MV) (x : Int) (st : List MV) (μ : MM) (G : MG) : ev 136 0 [a0, some (vI x)] st μ G = ev 136 1 [a0, some (vI x)] (vI x :: st) μ G := ev_stp pg_136_0 rfl
theorem pg_136_1 : mm_prog 136 1 = some (0, .ifCond .lt 8, 4, []) := by decide +kernel
theorem xe_136_1 (a0 a1 : Option MV) (x : Int) (st : List MV) (μ : MM) (G : MG) : ev 136 1 [a0, a1] (vI x :: st) μ G = if x < 0 then ev 136 9 [a0, a1] st μ G else ev 136 4 [a0, a1] st μ G := ev_br (mm_cnd_lt x 0) pg_136_1 rfl
theorem pg_136_4 : mm_prog 136 4 = some (0, .iload_n 1, 5, []) := by decide +kernel
theorem xe_136_4 (a0 : Option MV) (x : Int) (st : List MV) (μ : MM) (G : MG) : ev 136 4 [a0, some (vI x)] st μ G = ev 136 5 [a0, some (vI x)] (vI x :: st) μ G := ev_stp pg_136_4 rfl
theorem pg_136_5 : mm_prog 136 5 = some (0, .iconst 2, 6, []) := by decide +kernel
theorem xe_136_5 (a0 a1 : Option MV) (st : List MV) (μ : MM) (G : MG) : ev 136 5 [a0, a1] st μ G = ev 136 6 [a0, a1] (vI (2) :: st) μ G := ev_stp pg_136_5 rfl
theorem pg_136_6 : mm_prog 136 6 = some (0, .if_icmp .le 6, 9, []) := by decide +kernel
theorem xe_136_6 (a0 a1 : Option MV) (x y : Int) (st : List MV) (μ : MM) (G : MG) : ev 136 6 [a0, a1] (vI y :: vI x :: st) μ G = if x ≤ y then ev 136 12 [a0, a1] st μ G else ev 136 9 [a0, a1] st μ G := ev_br (mm_cnd_le x y) pg_136_6 rfl
theorem pg_136_9 : mm_prog 136 9 = some (0, .bipush (-2), 11, []) := by decide +kernel
theorem xe_136_9 (a0 a1 : Option MV) (st : List MV) (μ : MM) (G : MG) : ev 136 9 [a0, a1] st μ G = ev 136 11 [a0, a1] (vI (-2) :: st) μ G := ev_stp pg_136_9 rfl
theorem pg_136_11 : mm_prog 136 11 = some (2, .ireturn, 12, [0]) := by decide +kernel
theorem xe_136_11 (a0 a1 : Option MV) (x : Int) (μ : MM) (G : MG) : ev 136 11 [a0, a1] [vI x] μ G = some (some (vI x), μ, G) := ev_ret pg_136_11 rfl
theorem pg_136_12 : mm_prog 136 12 = some (0, .aload_n 0, 13, []) := by decide +kernel
theorem xe_136_12 (a1 : Option MV) (x : Int) (st : List MV) (μ : MM) (G : MG) : ev 136 12 [some (vR x), a1] st μ G = ev 136 13 [some (vR x), a1] (vR x :: st) μ G := ev_stp pg_136_12 rfl
theorem pg_136_13 : mm_prog 136 13 = some (0, .getfield 71, 16, [10, 9, 2]) := by decide +kernel
theorem xe_136_13 (a0 a1 : Option MV) (x : Int) (st : List MV) (μ : MM) (G : MG) : ev 136 13 [a0, a1] (vR x :: st) μ G = if gk G x = 10 then ev 136 16 [a0, a1] (vR (μ x 9) :: st) μ G else none := ev_if pg_136_13 rfl
theorem pg_136_16 : mm_prog 136 16 = some (0, .getfield 331, 19, [8, 2, 0]) := by decide +kernel
theorem xe_136_16 (a0 a1 : Option MV) (x : Int) (st : List MV) (μ : MM) (G : MG) : ev 136 16 [a0, a1] (vR x :: st) μ G = if gk G x = 8 then ev 136 19 [a0, a1] (vI (μ x 2) :: st) μ G else none := ev_if pg_136_16 rfl
theorem pg_136_19 : mm_prog 136 19 = some (0, .iconst 3, 20, []) := by decide +kernel
theorem xe_136_19 (a0 a1 : Option MV) (st : List MV) (μ : MM) (G : MG) : ev 136 19 [a0, a1] st μ G = ev 136 20 [a0, a1] (vI (3) :: st) μ G := ev_stp pg_136_19 rfl
theorem pg_136_20 : mm_prog 136 20 = some (0, .if_icmp .eq 6, 23, []) := by decide +kernel
theorem xe_136_20 (a0 a1 : Option MV) (x y : Int) (st : List MV) (μ : MM) (G : MG) : ev 136 20 [a0, a1] (vI y :: vI x :: st) μ G = if x = y then ev 136 26 [a0, a1] st μ G else ev 136 23 [a0, a1] st μ G := ev_br (mm_cnd_eq x y) pg_136_20 rfl
theorem pg_136_23 : mm_prog 136 23 = some (0, .bipush (-5), 25, []) := by decide +kernel
theorem xe_136_23 (a0 a1 : Option MV) (st : List MV) (μ : MM) (G : MG) : ev 136 23 [a0, a1] st μ G = ev 136 25 [a0, a1] (vI (-5) :: st) μ G := ev_stp pg_136_23 rfl
theorem pg_136_25 : mm_prog 136 25 = some (2, .ireturn, 26, [0]) := by decide +kernel
theorem xe_136_25 (a0 a1 : Option MV) (x : Int) (μ : MM) (G : MG) : ev 136 25 [a0, a1] [vI x] μ G = some (some (vI x), μ, G) := ev_ret pg_136_25 rfl
theorem pg_136_26 : mm_prog 136 26 = some (0, .aload_n 0, 27, []) := by decide +kernel
theorem xe_136_26 (a1 : Option MV) (x : Int) (st : List MV) (μ : MM) (G : MG) : ev 136 26 [some (vR x), a1] st μ G = ev 136 27 [some (vR x), a1] (vR x :: st) μ G := ev_stp pg_136_26 rfl
theorem pg_136_27 : mm_prog 136 27 = some (0, .aload_n 0, 28, []) := by decide +kernel
theorem xe_136_27 (a1 : Option MV) (x : Int) (st : List MV) (μ : MM) (G : MG) : ev 136 27 [some (vR x), a1] st μ G = ev 136 28 [some (vR x), a1] (vR x :: st) μ G := ev_stp pg_136_27 rfl
theorem pg_136_28 : mm_prog 136 28 = some (0, .getfield 71, 31, [10, 9, 2]) := by decide +kernel
theorem xe_136_28 (a0 a1 : Option MV) (x : Int) (st : List MV) (μ : MM) (G : MG) : ev 136 28 [a0, a1] (vR x :: st) μ G = if gk G x = 10 then ev 136 31 [a0, a1] (vR (μ x 9) :: st) μ G else none := ev_if pg_136_28 rfl
theorem pg_136_31 : mm_prog 136 31 = some (0, .getfield 334, 34, [8, 3, 0]) := by decide +kernel
theorem xe_136_31 (a0 a1 : Option MV) (x : Int) (st : List MV) (μ : MM) (G : MG) : ev 136 31 [a0, a1] (vR x :: st) μ G = if gk G x = 8 then ev 136 34 [a0, a1] (vI (μ x 3) :: st) μ G else none := ev_if pg_136_31 rfl
theorem pg_136_34 : mm_prog 136 34 = some (0, .aload_n 0, 35, []) := by decide +kernel
theorem xe_136_34 (a1 : Option MV) (x : Int) (st : List MV) (μ : MM) (G : MG) : ev 136 34 [some (vR x), a1] st μ G = ev 136 35 [some (vR x), a1] (vR x :: st) μ G := ev_stp pg_136_34 rfl
theorem pg_136_35 : mm_prog 136 35 = some (0, .getfield 71, 38, [10, 9, 2]) := by decide +kernel
theorem xe_136_35 (a0 a1 : Option MV) (x : Int) (st : List MV) (μ : MM) (G : MG) : ev 136 35 [a0, a1] (vR x :: st) μ G = if gk G x = 10 then ev 136 38 [a0, a1] (vR (μ x 9) :: st) μ G else none := ev_if pg_136_35 rfl
theorem pg_136_38 : mm_prog 136 38 = some (0, .getfield 335, 41, [8, 4, 0]) := by decide +kernel
theorem xe_136_38 (a0 a1 : Option MV) (x : Int) (st : List MV) (μ : MM) (G : MG) : ev 136 38 [a0, a1] (vR x :: st) μ G = if gk G x = 8 then ev 136 41 [a0, a1] (vI (μ x 4) :: st) μ G else none := ev_if pg_136_38 rfl
theorem pg_136_41 : mm_prog 136 41 = some (1, .invokestatic 269, 44, [0, 124, 2, 0]) := by decide +kernel
theorem xe_136_41 (a0 a1 : Option MV) (x0 x1 r0 : Int) (μ : MM) (G : MG) : ev 136 41 [a0, a1] (vI x1 :: vI x0 :: [vR r0]) μ G = (ev 124 0 [some (vI x0), some (vI x1)] [] μ G).bind (fun q => ev 136 44 [a0, a1] (q.1.toList ++ [vR r0]) q.2.1 q.2.2) := ev_calS (as := [vI x0, vI x1]) (r := [vR r0]) mx_124 pg_136_41 rfl rfl (Nat.le_of_ble_eq_true rfl) (Nat.le_of_ble_eq_true rfl)
theorem pg_136_44 : mm_prog 136 44 = some (0, .iload_n 1, 45, []) := by decide +kernel
theorem xe_136_44 (a0 : Option MV) (x : Int) (st : List MV) (μ : MM) (G : MG) : ev 136 44 [a0, some (vI x)] st μ G = ev 136 45 [a0, some (vI x)] (vI x :: st) μ G := ev_stp pg_136_44 rfl
theorem pg_136_45 : mm_prog 136 45 = some (1, .invokevirtual 277, 48, [1, 127, 2, 10]) := by decide +kernel
theorem xe_136_45 (a0 a1 : Option MV) (x0 x1 z : Int) (μ : MM) (G : MG) : ev 136 45 [a0, a1] (vI x1 :: vI x0 :: vR z :: []) μ G = if gk G z = 10 ∧ 0 < z then (ev 127 0 [some (vR z), some (vI x0), some (vI x1), none, none, none] [] μ G).bind (fun q => ev 136 48 [a0, a1] (q.1.toList ++ []) q.2.1 q.2.2) else none := ev_calV (as := [vR z, vI x0, vI x1]) (r := []) mx_127 pg_136_45 rfl rfl (Nat.le_of_ble_eq_true rfl) (Nat.le_of_ble_eq_true rfl)
theorem pg_136_48 : mm_prog 136 48 = some (2, .ireturn, 49, [0]) := by decide +kernel
theorem xe_136_48 (a0 a1 : Option MV) (x : Int) (μ : MM) (G : MG) : ev 136 48 [a0, a1] [vI x] μ G = some (some (vI x), μ, G) := ev_ret pg_136_48 rfl
-- X10_isLane
theorem pg_137_0 : mm_prog 137 0 = some (0, .iload_n 0, 1, []) := by decide +kernel
theorem xe_137_0 (x : Int) (st : List MV) (μ : MM) (G : MG) : ev 137 0 [some (vI x)] st μ G = ev 137 1 [some (vI x)] (vI x :: st) μ G := ev_stp pg_137_0 rfl
theorem pg_137_1 : mm_prog 137 1 = some (0, .ifCond .lt 12, 4, []) := by decide +kernel
theorem xe_137_1 (a0 : Option MV) (x : Int) (st : List MV) (μ : MM) (G : MG) : ev 137 1 [a0] (vI x :: st) μ G = if x < 0 then ev 137 13 [a0] st μ G else ev 137 4 [a0] st μ G := ev_br (mm_cnd_lt x 0) pg_137_1 rfl
theorem pg_137_4 : mm_prog 137 4 = some (0, .iload_n 0, 5, []) := by decide +kernel
theorem xe_137_4 (x : Int) (st : List MV) (μ : MM) (G : MG) : ev 137 4 [some (vI x)] st μ G = ev 137 5 [some (vI x)] (vI x :: st) μ G := ev_stp pg_137_4 rfl
theorem pg_137_5 : mm_prog 137 5 = some (0, .iconst 4, 6, []) := by decide +kernel
theorem xe_137_5 (a0 : Option MV) (st : List MV) (μ : MM) (G : MG) : ev 137 5 [a0] st μ G = ev 137 6 [a0] (vI (4) :: st) μ G := ev_stp pg_137_5 rfl
theorem pg_137_6 : mm_prog 137 6 = some (0, .if_icmp .ge 7, 9, []) := by decide +kernel
theorem xe_137_6 (a0 : Option MV) (x y : Int) (st : List MV) (μ : MM) (G : MG) : ev 137 6 [a0] (vI y :: vI x :: st) μ G = if y ≤ x then ev 137 13 [a0] st μ G else ev 137 9 [a0] st μ G := ev_br (mm_cnd_ge x y) pg_137_6 rfl
theorem pg_137_9 : mm_prog 137 9 = some (0, .iconst 1, 10, []) := by decide +kernel
theorem xe_137_9 (a0 : Option MV) (st : List MV) (μ : MM) (G : MG) : ev 137 9 [a0] st μ G = ev 137 10 [a0] (vI (1) :: st) μ G := ev_stp pg_137_9 rfl
theorem pg_137_10 : mm_prog 137 10 = some (0, .goto 4, 13, []) := by decide +kernel
theorem xe_137_10 (a0 : Option MV) (st : List MV) (μ : MM) (G : MG) : ev 137 10 [a0] st μ G = ev 137 14 [a0] st μ G := ev_stp pg_137_10 rfl
theorem pg_137_13 : mm_prog 137 13 = some (0, .iconst 0, 14, []) := by decide +kernel
theorem xe_137_13 (a0 : Option MV) (st : List MV) (μ : MM) (G : MG) : ev 137 13 [a0] st μ G = ev 137 14 [a0] (vI (0) :: st) μ G := ev_stp pg_137_13 rfl
theorem pg_137_14 : mm_prog 137 14 = some (2, .ireturn, 15, [1]) := by decide +kernel
theorem xe_137_14 (a0 : Option MV) (x : Int) (μ : MM) (G : MG) : ev 137 14 [a0] [vI x] μ G = if x = 0 ∨ x = 1 then some (some (vI x), μ, G) else none := ev_retB pg_137_14
-- X10_greatest
theorem pg_138_0 : mm_prog 138 0 = some (0, .iconst 0, 1, []) := by decide +kernel
theorem xe_138_0 (a0 a1 a2 a3 a4 a5 : Option MV) (st : List MV) (μ : MM) (G : MG) : ev 138 0 [a0, a1, a2, a3, a4, a5] st μ G = ev 138 1 [a0, a1, a2, a3, a4, a5] (vI (0) :: st) μ G := ev_stp pg_138_0 rfl
theorem pg_138_1 : mm_prog 138 1 = some (0, .istore_n 1, 2, []) := by decide +kernel
theorem xe_138_1 (a0 a1 a2 a3 a4 a5 : Option MV) (x : Int) (st : List MV) (μ : MM) (G : MG) (h : mm_nL a0 = true) : ev 138 1 [a0, a1, a2, a3, a4, a5] (vI x :: st) μ G = ev 138 2 [a0, some (vI x), a2, a3, a4, a5] st μ G := ev_st pg_138_1 rfl (mm_nl_of h) (Nat.le_of_ble_eq_true rfl)
theorem pg_138_2 : mm_prog 138 2 = some (0, .aload_n 0, 3, []) := by decide +kernel
theorem xe_138_2 (a1 a2 a3 a4 a5 : Option MV) (x : Int) (st : List MV) (μ : MM) (G : MG) : ev 138 2 [some (vR x), a1, a2, a3, a4, a5] st μ G = ev 138 3 [some (vR x), a1, a2, a3, a4, a5] (vR x :: st) μ G := ev_stp pg_138_2 rfl
theorem pg_138_3 : mm_prog 138 3 = some (0, .astore_n 2, 4, []) := by decide +kernel
theorem xe_138_3 (a0 a1 a2 a3 a4 a5 : Option MV) (x : Int) (st : List MV) (μ : MM) (G : MG) (h : mm_nL a1 = true) : ev 138 3 [a0, a1, a2, a3, a4, a5] (vR x :: st) μ G = ev 138 4 [a0, a1, some (vR x), a3, a4, a5] st μ G := ev_st pg_138_3 rfl (mm_nl_of h) (Nat.le_of_ble_eq_true rfl)
theorem pg_138_4 : mm_prog 138 4 = some (0, .aload_n 2, 5, []) := by decide +kernel
theorem xe_138_4 (a0 a1 a3 a4 a5 : Option MV) (x : Int) (st : List MV) (μ : MM) (G : MG) : ev 138 4 [a0, a1, some (vR x), a3, a4, a5] st μ G = ev 138 5 [a0, a1, some (vR x), a3, a4, a5] (vR x :: st) μ G := ev_stp pg_138_4 rfl
theorem pg_138_5 : mm_prog 138 5 = some (0, .arraylength, 6, []) := by decide +kernel
theorem xe_138_5 (a0 a1 a2 a3 a4 a5 : Option MV) (x : Int) (st : List MV) (μ : MM) (G : MG) : ev 138 5 [a0, a1, a2, a3, a4, a5] (vR x :: st) μ G = if 100 ≤ gk G x then ev 138 6 [a0, a1, a2, a3, a4, a5] (vI (gl G x) :: st) μ G else none := ev_if pg_138_5 rfl
theorem pg_138_6 : mm_prog 138 6 = some (0, .istore_n 3, 7, []) := by decide +kernel
theorem xe_138_6 (a0 a1 a2 a3 a4 a5 : Option MV) (x : Int) (st : List MV) (μ : MM) (G : MG) (h : mm_nL a2 = true) : ev 138 6 [a0, a1, a2, a3, a4, a5] (vI x :: st) μ G = ev 138 7 [a0, a1, a2, some (vI x), a4, a5] st μ G := ev_st pg_138_6 rfl (mm_nl_of h) (Nat.le_of_ble_eq_true rfl)
theorem pg_138_7 : mm_prog 138 7 = some (0, .iconst 0, 8, []) := by decide +kernel
theorem xe_138_7 (a0 a1 a2 a3 a4 a5 : Option MV) (st : List MV) (μ : MM) (G : MG) : ev 138 7 [a0, a1, a2, a3, a4, a5] st μ G = ev 138 8 [a0, a1, a2, a3, a4, a5] (vI (0) :: st) μ G := ev_stp pg_138_7 rfl
theorem pg_138_8 : mm_prog 138 8 = some (0, .istore 4, 10, []) := by decide +kernel
theorem xe_138_8 (a0 a1 a2 a3 a4 a5 : Option MV) (x : Int) (st : List MV) (μ : MM) (G : MG) (h : mm_nL a3 = true) : ev 138 8 [a0, a1, a2, a3, a4, a5] (vI x :: st) μ G = ev 138 10 [a0, a1, a2, a3, some (vI x), a5] st μ G := ev_st pg_138_8 rfl (mm_nl_of h) (Nat.le_of_ble_eq_true rfl)
theorem pg_138_10 : mm_prog 138 10 = some (0, .iload 4, 12, []) := by decide +kernel
theorem xe_138_10 (a0 a1 a2 a3 a5 : Option MV) (x : Int) (st : List MV) (μ : MM) (G : MG) : ev 138 10 [a0, a1, a2, a3, some (vI x), a5] st μ G = ev 138 12 [a0, a1, a2, a3, some (vI x), a5] (vI x :: st) μ G := ev_stp pg_138_10 rfl
theorem pg_138_12 : mm_prog 138 12 = some (0, .iload_n 3, 13, []) := by decide +kernel
theorem xe_138_12 (a0 a1 a2 a4 a5 : Option MV) (x : Int) (st : List MV) (μ : MM) (G : MG) : ev 138 12 [a0, a1, a2, some (vI x), a4, a5] st μ G = ev 138 13 [a0, a1, a2, some (vI x), a4, a5] (vI x :: st) μ G := ev_stp pg_138_12 rfl
theorem pg_138_13 : mm_prog 138 13 = some (0, .if_icmp .ge 22, 16, []) := by decide +kernel
theorem xe_138_13 (a0 a1 a2 a3 a4 a5 : Option MV) (x y : Int) (st : List MV) (μ : MM) (G : MG) : ev 138 13 [a0, a1, a2, a3, a4, a5] (vI y :: vI x :: st) μ G = if y ≤ x then ev 138 35 [a0, a1, a2, a3, a4, a5] st μ G else ev 138 16 [a0, a1, a2, a3, a4, a5] st μ G := ev_br (mm_cnd_ge x y) pg_138_13 rfl
theorem pg_138_16 : mm_prog 138 16 = some (0, .aload_n 2, 17, []) := by decide +kernel
theorem xe_138_16 (a0 a1 a3 a4 a5 : Option MV) (x : Int) (st : List MV) (μ : MM) (G : MG) : ev 138 16 [a0, a1, some (vR x), a3, a4, a5] st μ G = ev 138 17 [a0, a1, some (vR x), a3, a4, a5] (vR x :: st) μ G := ev_stp pg_138_16 rfl
theorem pg_138_17 : mm_prog 138 17 = some (0, .iload 4, 19, []) := by decide +kernel
theorem xe_138_17 (a0 a1 a2 a3 a5 : Option MV) (x : Int) (st : List MV) (μ : MM) (G : MG) : ev 138 17 [a0, a1, a2, a3, some (vI x), a5] st μ G = ev 138 19 [a0, a1, a2, a3, some (vI x), a5] (vI x :: st) μ G := ev_stp pg_138_17 rfl
theorem pg_138_19 : mm_prog 138 19 = some (0, .iaload, 20, []) := by decide +kernel
theorem xe_138_19 (a0 a1 a2 a3 a4 a5 : Option MV) (x y : Int) (st : List MV) (μ : MM) (G : MG) : ev 138 19 [a0, a1, a2, a3, a4, a5] (vI x :: vR y :: st) μ G = if gk G y = 100 ∧ 0 ≤ x ∧ x < gl G y then ev 138 20 [a0, a1, a2, a3, a4, a5] (vI (μ y x) :: st) μ G else none := ev_if pg_138_19 rfl
theorem pg_138_20 : mm_prog 138 20 = some (0, .istore 5, 22, []) := by decide +kernel
theorem xe_138_20 (a0 a1 a2 a3 a4 a5 : Option MV) (x : Int) (st : List MV) (μ : MM) (G : MG) (h : mm_nL a4 = true) : ev 138 20 [a0, a1, a2, a3, a4, a5] (vI x :: st) μ G = ev 138 22 [a0, a1, a2, a3, a4, some (vI x)] st μ G := ev_st pg_138_20 rfl (mm_nl_of h) (Nat.le_of_ble_eq_true rfl)
theorem pg_138_22 : mm_prog 138 22 = some (0, .iload_n 1, 23, []) := by decide +kernel
theorem xe_138_22 (a0 a2 a3 a4 a5 : Option MV) (x : Int) (st : List MV) (μ : MM) (G : MG) : ev 138 22 [a0, some (vI x), a2, a3, a4, a5] st μ G = ev 138 23 [a0, some (vI x), a2, a3, a4, a5] (vI x :: st) μ G := ev_stp pg_138_22 rfl
theorem pg_138_23 : mm_prog 138 23 = some (0, .iload 5, 25, []) := by decide +kernel
theorem xe_138_23 (a0 a1 a2 a3 a4 : Option MV) (x : Int) (st : List MV) (μ : MM) (G : MG) : ev 138 23 [a0, a1, a2, a3, a4, some (vI x)] st μ G = ev 138 25 [a0, a1, a2, a3, a4, some (vI x)] (vI x :: st) μ G := ev_stp pg_138_23 rfl
theorem pg_138_25 : mm_prog 138 25 = some (0, .invokestatic 371, 28, [0]) := by decide +kernel
theorem xe_138_25 (a0 a1 a2 a3 a4 a5 : Option MV) (x y : Int) (st : List MV) (μ : MM) (G : MG) : ev 138 25 [a0, a1, a2, a3, a4, a5] (vI y :: vI x :: st) μ G = if mm_cats st ≤ 8 then ev 138 28 [a0, a1, a2, a3, a4, a5] (vI (max x y) :: st) μ G else none := ev_if pg_138_25 rfl
theorem pg_138_28 : mm_prog 138 28 = some (0, .istore_n 1, 29, []) := by decide +kernel
theorem xe_138_28 (a0 a1 a2 a3 a4 a5 : Option MV) (x : Int) (st : List MV) (μ : MM) (G : MG) (h : mm_nL a0 = true) : ev 138 28 [a0, a1, a2, a3, a4, a5] (vI x :: st) μ G = ev 138 29 [a0, some (vI x), a2, a3, a4, a5] st μ G := ev_st pg_138_28 rfl (mm_nl_of h) (Nat.le_of_ble_eq_true rfl)
theorem pg_138_29 : mm_prog 138 29 = some (0, .iinc 4 1, 32, []) := by decide +kernel
theorem xe_138_29 (a0 a1 a2 a3 a5 : Option MV) (x : Int) (st : List MV) (μ : MM) (G : MG) (h : mm_nL a3 = true) : ev 138 29 [a0, a1, a2, a3, some (vI x), a5] st μ G = ev 138 32 [a0, a1, a2, a3, some (vI (w32 (x + (1)))), a5] st μ G := ev_st pg_138_29 rfl (mm_nl_of h) (Nat.le_of_ble_eq_true rfl)
theorem pg_138_32 : mm_prog 138 32 = some (0, .goto (-22), 35, []) := by decide +kernel
theorem xe_138_32 (a0 a1 a2 a3 a4 a5 : Option MV) (st : List MV) (μ : MM) (G : MG) : ev 138 32 [a0, a1, a2, a3, a4, a5] st μ G = ev 138 10 [a0, a1, a2, a3, a4, a5] st μ G := ev_stp pg_138_32 rfl
theorem pg_138_35 : mm_prog 138 35 = some (0, .iload_n 1, 36, []) := by decide +kernel
theorem xe_138_35 (a0 a2 a3 a4 a5 : Option MV) (x : Int) (st : List MV) (μ : MM) (G : MG) : ev 138 35 [a0, some (vI x), a2, a3, a4, a5] st μ G = ev 138 36 [a0, some (vI x), a2, a3, a4, a5] (vI x :: st) μ G := ev_stp pg_138_35 rfl
theorem pg_138_36 : mm_prog 138 36 = some (2, .ireturn, 37, [0]) := by decide +kernel
theorem xe_138_36 (a0 a1 a2 a3 a4 a5 : Option MV) (x : Int) (μ : MM) (G : MG) : ev 138 36 [a0, a1, a2, a3, a4, a5] [vI x] μ G = some (some (vI x), μ, G) := ev_ret pg_138_36 rfl
-- X10_endTraining
theorem pg_139_0 : mm_prog 139 0 = some (0, .aload_n 0, 1, []) := by decide +kernel
theorem xe_139_0 (x : Int) (st : List MV) (μ : MM) (G : MG) : ev 139 0 [some (vR x)] st μ G = ev 139 1 [some (vR x)] (vR x :: st) μ G := ev_stp pg_139_0 rfl
theorem pg_139_1 : mm_prog 139 1 = some (0, .getfield 71, 4, [10, 9, 2]) := by decide +kernel
theorem xe_139_1 (a0 : Option MV) (x : Int) (st : List MV) (μ : MM) (G : MG) : ev 139 1 [a0] (vR x :: st) μ G = if gk G x = 10 then ev 139 4 [a0] (vR (μ x 9) :: st) μ G else none := ev_if pg_139_1 rfl
theorem pg_139_4 : mm_prog 139 4 = some (1, .invokevirtual 376, 7, [1, 77, 0, 8]) := by decide +kernel
theorem xe_139_4 (a0 : Option MV) (z : Int) (μ : MM) (G : MG) : ev 139 4 [a0] (vR z :: []) μ G = if gk G z = 8 ∧ 0 < z then (ev 77 0 [some (vR z)] [] μ G).bind (fun q => ev 139 7 [a0] (q.1.toList ++ []) q.2.1 q.2.2) else none := ev_calV (as := [vR z]) (r := []) mx_77 pg_139_4 rfl rfl (Nat.le_of_ble_eq_true rfl) (Nat.le_of_ble_eq_true rfl)
theorem pg_139_7 : mm_prog 139 7 = some (0, .aload_n 0, 8, []) := by decide +kernel
theorem xe_139_7 (x : Int) (st : List MV) (μ : MM) (G : MG) : ev 139 7 [some (vR x)] st μ G = ev 139 8 [some (vR x)] (vR x :: st) μ G := ev_stp pg_139_7 rfl
theorem pg_139_8 : mm_prog 139 8 = some (0, .getfield 78, 11, [10, 10, 2]) := by decide +kernel
theorem xe_139_8 (a0 : Option MV) (x : Int) (st : List MV) (μ : MM) (G : MG) : ev 139 8 [a0] (vR x :: st) μ G = if gk G x = 10 then ev 139 11 [a0] (vR (μ x 10) :: st) μ G else none := ev_if pg_139_8 rfl
theorem pg_139_11 : mm_prog 139 11 = some (1, .invokevirtual 312, 14, [1, 20, 0, 3]) := by decide +kernel
theorem xe_139_11 (a0 : Option MV) (z : Int) (μ : MM) (G : MG) : ev 139 11 [a0] (vR z :: []) μ G = if gk G z = 3 ∧ 0 < z then (ev 20 0 [some (vR z)] [] μ G).bind (fun q => ev 139 14 [a0] (q.1.toList ++ []) q.2.1 q.2.2) else none := ev_calV (as := [vR z]) (r := []) mx_20 pg_139_11 rfl rfl (Nat.le_of_ble_eq_true rfl) (Nat.le_of_ble_eq_true rfl)
theorem pg_139_14 : mm_prog 139 14 = some (2, .return_, 15, []) := by decide +kernel
theorem xe_139_14 (a0 : Option MV) (μ : MM) (G : MG) : ev 139 14 [a0] [] μ G = some (none, μ, G) := ev_ret pg_139_14 rfl
-- X10_trained
theorem pg_140_0 : mm_prog 140 0 = some (0, .iload_n 1, 1, []) := by decide +kernel
theorem xe_140_0 (a0 a2 : Option MV) (x : Int) (st : List MV) (μ : MM) (G : MG) : ev 140 0 [a0, some (vI x), a2] st μ G = ev 140 1 [a0, some (vI x), a2] (vI x :: st) μ G := ev_stp pg_140_0 rfl
theorem pg_140_1 : mm_prog 140 1 = some (0, .ifCond .lt 8, 4, []) := by decide +kernel
theorem xe_140_1 (a0 a1 a2 : Option MV) (x : Int) (st : List MV) (μ : MM) (G : MG) : ev 140 1 [a0, a1, a2] (vI x :: st) μ G = if x < 0 then ev 140 9 [a0, a1, a2] st μ G else ev 140 4 [a0, a1, a2] st μ G := ev_br (mm_cnd_lt x 0) pg_140_1 rfl
theorem pg_140_4 : mm_prog 140 4 = some (0, .iload_n 1, 5, []) := by decide +kernel
theorem xe_140_4 (a0 a2 : Option MV) (x : Int) (st : List MV) (μ : MM) (G : MG) : ev 140 4 [a0, some (vI x), a2] st μ G = ev 140 5 [a0, some (vI x), a2] (vI x :: st) μ G := ev_stp pg_140_4 rfl
theorem pg_140_5 : mm_prog 140 5 = some (0, .iconst 5, 6, []) := by decide +kernel
theorem xe_140_5 (a0 a1 a2 : Option MV) (st : List MV) (μ : MM) (G : MG) : ev 140 5 [a0, a1, a2] st μ G = ev 140 6 [a0, a1, a2] (vI (5) :: st) μ G := ev_stp pg_140_5 rfl
theorem pg_140_6 : mm_prog 140 6 = some (0, .if_icmp .le 6, 9, []) := by decide +kernel
theorem xe_140_6 (a0 a1 a2 : Option MV) (x y : Int) (st : List MV) (μ : MM) (G : MG) : ev 140 6 [a0, a1, a2] (vI y :: vI x :: st) μ G = if x ≤ y then ev 140 12 [a0, a1, a2] st μ G else ev 140 9 [a0, a1, a2] st μ G := ev_br (mm_cnd_le x y) pg_140_6 rfl
theorem pg_140_9 : mm_prog 140 9 = some (0, .bipush (-2), 11, []) := by decide +kernel
theorem xe_140_9 (a0 a1 a2 : Option MV) (st : List MV) (μ : MM) (G : MG) : ev 140 9 [a0, a1, a2] st μ G = ev 140 11 [a0, a1, a2] (vI (-2) :: st) μ G := ev_stp pg_140_9 rfl
theorem pg_140_11 : mm_prog 140 11 = some (2, .ireturn, 12, [0]) := by decide +kernel
theorem xe_140_11 (a0 a1 a2 : Option MV) (x : Int) (μ : MM) (G : MG) : ev 140 11 [a0, a1, a2] [vI x] μ G = some (some (vI x), μ, G) := ev_ret pg_140_11 rfl
theorem pg_140_12 : mm_prog 140 12 = some (0, .aload_n 0, 13, []) := by decide +kernel
theorem xe_140_12 (a1 a2 : Option MV) (x : Int) (st : List MV) (μ : MM) (G : MG) : ev 140 12 [some (vR x), a1, a2] st μ G = ev 140 13 [some (vR x), a1, a2] (vR x :: st) μ G := ev_stp pg_140_12 rfl
theorem pg_140_13 : mm_prog 140 13 = some (0, .getfield 85, 16, [10, 12, 2]) := by decide +kernel
theorem xe_140_13 (a0 a1 a2 : Option MV) (x : Int) (st : List MV) (μ : MM) (G : MG) : ev 140 13 [a0, a1, a2] (vR x :: st) μ G = if gk G x = 10 then ev 140 16 [a0, a1, a2] (vR (μ x 12) :: st) μ G else none := ev_if pg_140_13 rfl
theorem pg_140_16 : mm_prog 140 16 = some (0, .aload_n 0, 17, []) := by decide +kernel
theorem xe_140_16 (a1 a2 : Option MV) (x : Int) (st : List MV) (μ : MM) (G : MG) : ev 140 16 [some (vR x), a1, a2] st μ G = ev 140 17 [some (vR x), a1, a2] (vR x :: st) μ G := ev_stp pg_140_16 rfl
theorem pg_140_17 : mm_prog 140 17 = some (0, .getfield 64, 20, [10, 8, 2]) := by decide +kernel
theorem xe_140_17 (a0 a1 a2 : Option MV) (x : Int) (st : List MV) (μ : MM) (G : MG) : ev 140 17 [a0, a1, a2] (vR x :: st) μ G = if gk G x = 10 then ev 140 20 [a0, a1, a2] (vR (μ x 8) :: st) μ G else none := ev_if pg_140_17 rfl
theorem pg_140_20 : mm_prog 140 20 = some (1, .invokevirtual 379, 23, [1, 81, 1, 8]) := by decide +kernel
theorem xe_140_20 (a0 a1 a2 : Option MV) (x0 z : Int) (μ : MM) (G : MG) : ev 140 20 [a0, a1, a2] (vR x0 :: vR z :: []) μ G = if gk G z = 8 ∧ 0 < z then (ev 81 0 [some (vR z), some (vR x0), none] [] μ G).bind (fun q => ev 140 23 [a0, a1, a2] (q.1.toList ++ []) q.2.1 q.2.2) else none := ev_calV (as := [vR z, vR x0]) (r := []) mx_81 pg_140_20 rfl rfl (Nat.le_of_ble_eq_true rfl) (Nat.le_of_ble_eq_true rfl)
theorem pg_140_23 : mm_prog 140 23 = some (0, .istore_n 2, 24, []) := by decide +kernel
theorem xe_140_23 (a0 a1 a2 : Option MV) (x : Int) (st : List MV) (μ : MM) (G : MG) (h : mm_nL a1 = true) : ev 140 23 [a0, a1, a2] (vI x :: st) μ G = ev 140 24 [a0, a1, some (vI x)] st μ G := ev_st pg_140_23 rfl (mm_nl_of h) (Nat.le_of_ble_eq_true rfl)
theorem pg_140_24 : mm_prog 140 24 = some (0, .iload_n 1, 25, []) := by decide +kernel
theorem xe_140_24 (a0 a2 : Option MV) (x : Int) (st : List MV) (μ : MM) (G : MG) : ev 140 24 [a0, some (vI x), a2] st μ G = ev 140 25 [a0, some (vI x), a2] (vI x :: st) μ G := ev_stp pg_140_24 rfl
theorem pg_140_25 : mm_prog 140 25 = some (0, .tableswitch 75 0 4 #[35, 43, 51, 59, 67], 60, [100, 0, 60, 1, 68, 2, 76, 3, 84, 4, 92]) := by decide +kernel
theorem xe_140_25 (a0 a1 a2 : Option MV) (x : Int) (st : List MV) (μ : MM) (G : MG) : ev 140 25 [a0, a1, a2] (vI x :: st) μ G = if x = 0 then ev 140 60 [a0, a1, a2] st μ G else if x = 1 then ev 140 68 [a0, a1, a2] st μ G else if x = 2 then ev 140 76 [a0, a1, a2] st μ G else if x = 3 then ev 140 84 [a0, a1, a2] st μ G else if x = 4 then ev 140 92 [a0, a1, a2] st μ G else ev 140 100 [a0, a1, a2] st μ G := ev_sw (x := x) (d := 100) (l := [0, 60, 1, 68, 2, 76, 3, 84, 4, 92]) (st' := st) pg_140_25 rfl
theorem pg_140_60 : mm_prog 140 60 = some (0, .aload_n 0, 61, []) := by decide +kernel
theorem xe_140_60 (a1 a2 : Option MV) (x : Int) (st : List MV) (μ : MM) (G : MG) : ev 140 60 [some (vR x), a1, a2] st μ G = ev 140 61 [some (vR x), a1, a2] (vR x :: st) μ G := ev_stp pg_140_60 rfl
theorem pg_140_61 : mm_prog 140 61 = some (0, .getfield 85, 64, [10, 12, 2]) := by decide +kernel
theorem xe_140_61 (a0 a1 a2 : Option MV) (x : Int) (st : List MV) (μ : MM) (G : MG) : ev 140 61 [a0, a1, a2] (vR x :: st) μ G = if gk G x = 10 then ev 140 64 [a0, a1, a2] (vR (μ x 12) :: st) μ G else none := ev_if pg_140_61 rfl
theorem pg_140_64 : mm_prog 140 64 = some (0, .getfield 331, 67, [8, 2, 0]) := by decide +kernel
theorem xe_140_64 (a0 a1 a2 : Option MV) (x : Int) (st : List MV) (μ : MM) (G : MG) : ev 140 64 [a0, a1, a2] (vR x :: st) μ G = if gk G x = 8 then ev 140 67 [a0, a1, a2] (vI (μ x 2) :: st) μ G else none := ev_if pg_140_64 rfl
theorem pg_140_67 : mm_prog 140 67 = some (2, .ireturn, 68, [0]) := by decide +kernel
theorem xe_140_67 (a0 a1 a2 : Option MV) (x : Int) (μ : MM) (G : MG) : ev 140 67 [a0, a1, a2] [vI x] μ G = some (some (vI x), μ, G) := ev_ret pg_140_67 rfl
theorem pg_140_68 : mm_prog 140 68 = some (0, .aload_n 0, 69, []) := by decide +kernel
theorem xe_140_68 (a1 a2 : Option MV) (x : Int) (st : List MV) (μ : MM) (G : MG) : ev 140 68 [some (vR x), a1, a2] st μ G = ev 140 69 [some (vR x), a1, a2] (vR x :: st) μ G := ev_stp pg_140_68 rfl
theorem pg_140_69 : mm_prog 140 69 = some (0, .getfield 85, 72, [10, 12, 2]) := by decide +kernel
theorem xe_140_69 (a0 a1 a2 : Option MV) (x : Int) (st : List MV) (μ : MM) (G : MG) : ev 140 69 [a0, a1, a2] (vR x :: st) μ G = if gk G x = 10 then ev 140 72 [a0, a1, a2] (vR (μ x 12) :: st) μ G else none := ev_if pg_140_69 rfl
theorem pg_140_72 : mm_prog 140 72 = some (0, .getfield 334, 75, [8, 3, 0]) := by decide +kernel
theorem xe_140_72 (a0 a1 a2 : Option MV) (x : Int) (st : List MV) (μ : MM) (G : MG) : ev 140 72 [a0, a1, a2] (vR x :: st) μ G = if gk G x = 8 then ev 140 75 [a0, a1, a2] (vI (μ x 3) :: st) μ G else none := ev_if pg_140_72 rfl
theorem pg_140_75 : mm_prog 140 75 = some (2, .ireturn, 76, [0]) := by decide +kernel
theorem xe_140_75 (a0 a1 a2 : Option MV) (x : Int) (μ : MM) (G : MG) : ev 140 75 [a0, a1, a2] [vI x] μ G = some (some (vI x), μ, G) := ev_ret pg_140_75 rfl
theorem pg_140_76 : mm_prog 140 76 = some (0, .aload_n 0, 77, []) := by decide +kernel
theorem xe_140_76 (a1 a2 : Option MV) (x : Int) (st : List MV) (μ : MM) (G : MG) : ev 140 76 [some (vR x), a1, a2] st μ G = ev 140 77 [some (vR x), a1, a2] (vR x :: st) μ G := ev_stp pg_140_76 rfl
theorem pg_140_77 : mm_prog 140 77 = some (0, .getfield 85, 80, [10, 12, 2]) := by decide +kernel
theorem xe_140_77 (a0 a1 a2 : Option MV) (x : Int) (st : List MV) (μ : MM) (G : MG) : ev 140 77 [a0, a1, a2] (vR x :: st) μ G = if gk G x = 10 then ev 140 80 [a0, a1, a2] (vR (μ x 12) :: st) μ G else none := ev_if pg_140_77 rfl
theorem pg_140_80 : mm_prog 140 80 = some (0, .getfield 335, 83, [8, 4, 0]) := by decide +kernel
theorem xe_140_80 (a0 a1 a2 : Option MV) (x : Int) (st : List MV) (μ : MM) (G : MG) : ev 140 80 [a0, a1, a2] (vR x :: st) μ G = if gk G x = 8 then ev 140 83 [a0, a1, a2] (vI (μ x 4) :: st) μ G else none := ev_if pg_140_80 rfl
theorem pg_140_83 : mm_prog 140 83 = some (2, .ireturn, 84, [0]) := by decide +kernel
theorem xe_140_83 (a0 a1 a2 : Option MV) (x : Int) (μ : MM) (G : MG) : ev 140 83 [a0, a1, a2] [vI x] μ G = some (some (vI x), μ, G) := ev_ret pg_140_83 rfl
theorem pg_140_84 : mm_prog 140 84 = some (0, .aload_n 0, 85, []) := by decide +kernel
theorem xe_140_84 (a1 a2 : Option MV) (x : Int) (st : List MV) (μ : MM) (G : MG) : ev 140 84 [some (vR x), a1, a2] st μ G = ev 140 85 [some (vR x), a1, a2] (vR x :: st) μ G := ev_stp pg_140_84 rfl
theorem pg_140_85 : mm_prog 140 85 = some (0, .getfield 85, 88, [10, 12, 2]) := by decide +kernel
theorem xe_140_85 (a0 a1 a2 : Option MV) (x : Int) (st : List MV) (μ : MM) (G : MG) : ev 140 85 [a0, a1, a2] (vR x :: st) μ G = if gk G x = 10 then ev 140 88 [a0, a1, a2] (vR (μ x 12) :: st) μ G else none := ev_if pg_140_85 rfl
theorem pg_140_88 : mm_prog 140 88 = some (0, .getfield 339, 91, [8, 10, 0]) := by decide +kernel
theorem xe_140_88 (a0 a1 a2 : Option MV) (x : Int) (st : List MV) (μ : MM) (G : MG) : ev 140 88 [a0, a1, a2] (vR x :: st) μ G = if gk G x = 8 then ev 140 91 [a0, a1, a2] (vI (μ x 10) :: st) μ G else none := ev_if pg_140_88 rfl
theorem pg_140_91 : mm_prog 140 91 = some (2, .ireturn, 92, [0]) := by decide +kernel
theorem xe_140_91 (a0 a1 a2 : Option MV) (x : Int) (μ : MM) (G : MG) : ev 140 91 [a0, a1, a2] [vI x] μ G = some (some (vI x), μ, G) := ev_ret pg_140_91 rfl
theorem pg_140_92 : mm_prog 140 92 = some (0, .aload_n 0, 93, []) := by decide +kernel
theorem xe_140_92 (a1 a2 : Option MV) (x : Int) (st : List MV) (μ : MM) (G : MG) : ev 140 92 [some (vR x), a1, a2] st μ G = ev 140 93 [some (vR x), a1, a2] (vR x :: st) μ G := ev_stp pg_140_92 rfl
theorem pg_140_93 : mm_prog 140 93 = some (0, .getfield 85, 96, [10, 12, 2]) := by decide +kernel
theorem xe_140_93 (a0 a1 a2 : Option MV) (x : Int) (st : List MV) (μ : MM) (G : MG) : ev 140 93 [a0, a1, a2] (vR x :: st) μ G = if gk G x = 10 then ev 140 96 [a0, a1, a2] (vR (μ x 12) :: st) μ G else none := ev_if pg_140_93 rfl
theorem pg_140_96 : mm_prog 140 96 = some (0, .getfield 342, 99, [8, 11, 0]) := by decide +kernel
theorem xe_140_96 (a0 a1 a2 : Option MV) (x : Int) (st : List MV) (μ : MM) (G : MG) : ev 140 96 [a0, a1, a2] (vR x :: st) μ G = if gk G x = 8 then ev 140 99 [a0, a1, a2] (vI (μ x 11) :: st) μ G else none := ev_if pg_140_96 rfl
theorem pg_140_99 : mm_prog 140 99 = some (2, .ireturn, 100, [0]) := by decide +kernel
theorem xe_140_99 (a0 a1 a2 : Option MV) (x : Int) (μ : MM) (G : MG) : ev 140 99 [a0, a1, a2] [vI x] μ G = some (some (vI x), μ, G) := ev_ret pg_140_99 rfl
theorem pg_140_100 : mm_prog 140 100 = some (0, .iload_n 2, 101, []) := by decide +kernel
theorem xe_140_100 (a0 a1 : Option MV) (x : Int) (st : List MV) (μ : MM) (G : MG) : ev 140 100 [a0, a1, some (vI x)] st μ G = ev 140 101 [a0, a1, some (vI x)] (vI x :: st) μ G := ev_stp pg_140_100 rfl
theorem pg_140_101 : mm_prog 140 101 = some (2, .ireturn, 102, [0]) := by decide +kernel
theorem xe_140_101 (a0 a1 a2 : Option MV) (x : Int) (μ : MM) (G : MG) : ev 140 101 [a0, a1, a2] [vI x] μ G = some (some (vI x), μ, G) := ev_ret pg_140_101 rfl
-- X10_margin
theorem pg_141_0 : mm_prog 141 0 = some (0, .iload_n 1, 1, []) := by decide +kernel
theorem xe_141_0 (a0 a2 a3 : Option MV) (x : Int) (st : List MV) (μ : MM) (G : MG) : ev 141 0 [a0, some (vI x), a2, a3] st μ G = ev 141 1 [a0, some (vI x), a2, a3] (vI x :: st) μ G := ev_stp pg_141_0 rfl
theorem pg_141_1 : mm_prog 141 1 = some (1, .invokestatic 290, 4, [0, 137, 1, 0]) := by decide +kernel
theorem xe_141_1 (a0 a1 a2 a3 : Option MV) (x0 : Int) (μ : MM) (G : MG) : ev 141 1 [a0, a1, a2, a3] (vI x0 :: []) μ G = (ev 137 0 [some (vI x0)] [] μ G).bind (fun q => ev 141 4 [a0, a1, a2, a3] (q.1.toList ++ []) q.2.1 q.2.2) := ev_calS (as := [vI x0]) (r := []) mx_137 pg_141_1 rfl rfl (Nat.le_of_ble_eq_true rfl) (Nat.le_of_ble_eq_true rfl)
theorem pg_141_4 : mm_prog 141 4 = some (0, .ifCond .ne 6, 7, []) := by decide +kernel
theorem xe_141_4 (a0 a1 a2 a3 : Option MV) (x : Int) (st : List MV) (μ : MM) (G : MG) : ev 141 4 [a0, a1, a2, a3] (vI x :: st) μ G = if ¬ x = 0 then ev 141 10 [a0, a1, a2, a3] st μ G else ev 141 7 [a0, a1, a2, a3] st μ G := ev_br (mm_cnd_ne x 0) pg_141_4 rfl
theorem pg_141_7 : mm_prog 141 7 = some (0, .bipush (-2), 9, []) := by decide +kernel
theorem xe_141_7 (a0 a1 a2 a3 : Option MV) (st : List MV) (μ : MM) (G : MG) : ev 141 7 [a0, a1, a2, a3] st μ G = ev 141 9 [a0, a1, a2, a3] (vI (-2) :: st) μ G := ev_stp pg_141_7 rfl
theorem pg_141_9 : mm_prog 141 9 = some (2, .ireturn, 10, [0]) := by decide +kernel
theorem xe_141_9 (a0 a1 a2 a3 : Option MV) (x : Int) (μ : MM) (G : MG) : ev 141 9 [a0, a1, a2, a3] [vI x] μ G = some (some (vI x), μ, G) := ev_ret pg_141_9 rfl
theorem pg_141_10 : mm_prog 141 10 = some (0, .aload_n 0, 11, []) := by decide +kernel
theorem xe_141_10 (a1 a2 a3 : Option MV) (x : Int) (st : List MV) (μ : MM) (G : MG) : ev 141 10 [some (vR x), a1, a2, a3] st μ G = ev 141 11 [some (vR x), a1, a2, a3] (vR x :: st) μ G := ev_stp pg_141_10 rfl
theorem pg_141_11 : mm_prog 141 11 = some (0, .getfield 85, 14, [10, 12, 2]) := by decide +kernel
theorem xe_141_11 (a0 a1 a2 a3 : Option MV) (x : Int) (st : List MV) (μ : MM) (G : MG) : ev 141 11 [a0, a1, a2, a3] (vR x :: st) μ G = if gk G x = 10 then ev 141 14 [a0, a1, a2, a3] (vR (μ x 12) :: st) μ G else none := ev_if pg_141_11 rfl
theorem pg_141_14 : mm_prog 141 14 = some (0, .aload_n 0, 15, []) := by decide +kernel
theorem xe_141_14 (a1 a2 a3 : Option MV) (x : Int) (st : List MV) (μ : MM) (G : MG) : ev 141 14 [some (vR x), a1, a2, a3] st μ G = ev 141 15 [some (vR x), a1, a2, a3] (vR x :: st) μ G := ev_stp pg_141_14 rfl
theorem pg_141_15 : mm_prog 141 15 = some (0, .getfield 64, 18, [10, 8, 2]) := by decide +kernel
theorem xe_141_15 (a0 a1 a2 a3 : Option MV) (x : Int) (st : List MV) (μ : MM) (G : MG) : ev 141 15 [a0, a1, a2, a3] (vR x :: st) μ G = if gk G x = 10 then ev 141 18 [a0, a1, a2, a3] (vR (μ x 8) :: st) μ G else none := ev_if pg_141_15 rfl
theorem pg_141_18 : mm_prog 141 18 = some (1, .invokevirtual 379, 21, [1, 81, 1, 8]) := by decide +kernel
theorem xe_141_18 (a0 a1 a2 a3 : Option MV) (x0 z : Int) (μ : MM) (G : MG) : ev 141 18 [a0, a1, a2, a3] (vR x0 :: vR z :: []) μ G = if gk G z = 8 ∧ 0 < z then (ev 81 0 [some (vR z), some (vR x0), none] [] μ G).bind (fun q => ev 141 21 [a0, a1, a2, a3] (q.1.toList ++ []) q.2.1 q.2.2) else none := ev_calV (as := [vR z, vR x0]) (r := []) mx_81 pg_141_18 rfl rfl (Nat.le_of_ble_eq_true rfl) (Nat.le_of_ble_eq_true rfl)
theorem pg_141_21 : mm_prog 141 21 = some (0, .istore_n 2, 22, []) := by decide +kernel
theorem xe_141_21 (a0 a1 a2 a3 : Option MV) (x : Int) (st : List MV) (μ : MM) (G : MG) (h : mm_nL a1 = true) : ev 141 21 [a0, a1, a2, a3] (vI x :: st) μ G = ev 141 22 [a0, a1, some (vI x), a3] st μ G := ev_st pg_141_21 rfl (mm_nl_of h) (Nat.le_of_ble_eq_true rfl)
theorem pg_141_22 : mm_prog 141 22 = some (0, .aload_n 0, 23, []) := by decide +kernel
theorem xe_141_22 (a1 a2 a3 : Option MV) (x : Int) (st : List MV) (μ : MM) (G : MG) : ev 141 22 [some (vR x), a1, a2, a3] st μ G = ev 141 23 [some (vR x), a1, a2, a3] (vR x :: st) μ G := ev_stp pg_141_22 rfl
theorem pg_141_23 : mm_prog 141 23 = some (0, .getfield 82, 26, [10, 11, 2]) := by decide +kernel
theorem xe_141_23 (a0 a1 a2 a3 : Option MV) (x : Int) (st : List MV) (μ : MM) (G : MG) : ev 141 23 [a0, a1, a2, a3] (vR x :: st) μ G = if gk G x = 10 then ev 141 26 [a0, a1, a2, a3] (vR (μ x 11) :: st) μ G else none := ev_if pg_141_23 rfl
theorem pg_141_26 : mm_prog 141 26 = some (0, .aload_n 0, 27, []) := by decide +kernel
theorem xe_141_26 (a1 a2 a3 : Option MV) (x : Int) (st : List MV) (μ : MM) (G : MG) : ev 141 26 [some (vR x), a1, a2, a3] st μ G = ev 141 27 [some (vR x), a1, a2, a3] (vR x :: st) μ G := ev_stp pg_141_26 rfl
theorem pg_141_27 : mm_prog 141 27 = some (0, .getfield 64, 30, [10, 8, 2]) := by decide +kernel
theorem xe_141_27 (a0 a1 a2 a3 : Option MV) (x : Int) (st : List MV) (μ : MM) (G : MG) : ev 141 27 [a0, a1, a2, a3] (vR x :: st) μ G = if gk G x = 10 then ev 141 30 [a0, a1, a2, a3] (vR (μ x 8) :: st) μ G else none := ev_if pg_141_27 rfl
theorem pg_141_30 : mm_prog 141 30 = some (1, .invokevirtual 382, 33, [1, 97, 1, 9]) := by decide +kernel
theorem xe_141_30 (a0 a1 a2 a3 : Option MV) (x0 z : Int) (μ : MM) (G : MG) : ev 141 30 [a0, a1, a2, a3] (vR x0 :: vR z :: []) μ G = if gk G z = 9 ∧ 0 < z then (ev 97 0 [some (vR z), some (vR x0)] [] μ G).bind (fun q => ev 141 33 [a0, a1, a2, a3] (q.1.toList ++ []) q.2.1 q.2.2) else none := ev_calV (as := [vR z, vR x0]) (r := []) mx_97 pg_141_30 rfl rfl (Nat.le_of_ble_eq_true rfl) (Nat.le_of_ble_eq_true rfl)
theorem pg_141_33 : mm_prog 141 33 = some (0, .bipush 30, 35, []) := by decide +kernel
theorem xe_141_33 (a0 a1 a2 a3 : Option MV) (st : List MV) (μ : MM) (G : MG) : ev 141 33 [a0, a1, a2, a3] st μ G = ev 141 35 [a0, a1, a2, a3] (vI (30) :: st) μ G := ev_stp pg_141_33 rfl
theorem pg_141_35 : mm_prog 141 35 = some (0, .istore_n 3, 36, []) := by decide +kernel
theorem xe_141_35 (a0 a1 a2 a3 : Option MV) (x : Int) (st : List MV) (μ : MM) (G : MG) (h : mm_nL a2 = true) : ev 141 35 [a0, a1, a2, a3] (vI x :: st) μ G = ev 141 36 [a0, a1, a2, some (vI x)] st μ G := ev_st pg_141_35 rfl (mm_nl_of h) (Nat.le_of_ble_eq_true rfl)
theorem pg_141_36 : mm_prog 141 36 = some (0, .iload_n 3, 37, []) := by decide +kernel
theorem xe_141_36 (a0 a1 a2 : Option MV) (x : Int) (st : List MV) (μ : MM) (G : MG) : ev 141 36 [a0, a1, a2, some (vI x)] st μ G = ev 141 37 [a0, a1, a2, some (vI x)] (vI x :: st) μ G := ev_stp pg_141_36 rfl
theorem pg_141_37 : mm_prog 141 37 = some (0, .aload_n 0, 38, []) := by decide +kernel
theorem xe_141_37 (a1 a2 a3 : Option MV) (x : Int) (st : List MV) (μ : MM) (G : MG) : ev 141 37 [some (vR x), a1, a2, a3] st μ G = ev 141 38 [some (vR x), a1, a2, a3] (vR x :: st) μ G := ev_stp pg_141_37 rfl
theorem pg_141_38 : mm_prog 141 38 = some (0, .getfield 64, 41, [10, 8, 2]) := by decide +kernel
theorem xe_141_38 (a0 a1 a2 a3 : Option MV) (x : Int) (st : List MV) (μ : MM) (G : MG) : ev 141 38 [a0, a1, a2, a3] (vR x :: st) μ G = if gk G x = 10 then ev 141 41 [a0, a1, a2, a3] (vR (μ x 8) :: st) μ G else none := ev_if pg_141_38 rfl
theorem pg_141_41 : mm_prog 141 41 = some (0, .getfield 293, 44, [9, 0, 2]) := by decide +kernel
theorem xe_141_41 (a0 a1 a2 a3 : Option MV) (x : Int) (st : List MV) (μ : MM) (G : MG) : ev 141 41 [a0, a1, a2, a3] (vR x :: st) μ G = if gk G x = 9 then ev 141 44 [a0, a1, a2, a3] (vR (μ x 0) :: st) μ G else none := ev_if pg_141_41 rfl
theorem pg_141_44 : mm_prog 141 44 = some (0, .iload_n 1, 45, []) := by decide +kernel
theorem xe_141_44 (a0 a2 a3 : Option MV) (x : Int) (st : List MV) (μ : MM) (G : MG) : ev 141 44 [a0, some (vI x), a2, a3] st μ G = ev 141 45 [a0, some (vI x), a2, a3] (vI x :: st) μ G := ev_stp pg_141_44 rfl
theorem pg_141_45 : mm_prog 141 45 = some (0, .iaload, 46, []) := by decide +kernel
theorem xe_141_45 (a0 a1 a2 a3 : Option MV) (x y : Int) (st : List MV) (μ : MM) (G : MG) : ev 141 45 [a0, a1, a2, a3] (vI x :: vR y :: st) μ G = if gk G y = 100 ∧ 0 ≤ x ∧ x < gl G y then ev 141 46 [a0, a1, a2, a3] (vI (μ y x) :: st) μ G else none := ev_if pg_141_45 rfl
theorem pg_141_46 : mm_prog 141 46 = some (0, .if_icmp .le 36, 49, []) := by decide +kernel
theorem xe_141_46 (a0 a1 a2 a3 : Option MV) (x y : Int) (st : List MV) (μ : MM) (G : MG) : ev 141 46 [a0, a1, a2, a3] (vI y :: vI x :: st) μ G = if x ≤ y then ev 141 82 [a0, a1, a2, a3] st μ G else ev 141 49 [a0, a1, a2, a3] st μ G := ev_br (mm_cnd_le x y) pg_141_46 rfl
theorem pg_141_49 : mm_prog 141 49 = some (0, .aload_n 0, 50, []) := by decide +kernel
theorem xe_141_49 (a1 a2 a3 : Option MV) (x : Int) (st : List MV) (μ : MM) (G : MG) : ev 141 49 [some (vR x), a1, a2, a3] st μ G = ev 141 50 [some (vR x), a1, a2, a3] (vR x :: st) μ G := ev_stp pg_141_49 rfl
theorem pg_141_50 : mm_prog 141 50 = some (0, .getfield 82, 53, [10, 11, 2]) := by decide +kernel
theorem xe_141_50 (a0 a1 a2 a3 : Option MV) (x : Int) (st : List MV) (μ : MM) (G : MG) : ev 141 50 [a0, a1, a2, a3] (vR x :: st) μ G = if gk G x = 10 then ev 141 53 [a0, a1, a2, a3] (vR (μ x 11) :: st) μ G else none := ev_if pg_141_50 rfl
theorem pg_141_53 : mm_prog 141 53 = some (0, .getfield 293, 56, [9, 0, 2]) := by decide +kernel
theorem xe_141_53 (a0 a1 a2 a3 : Option MV) (x : Int) (st : List MV) (μ : MM) (G : MG) : ev 141 53 [a0, a1, a2, a3] (vR x :: st) μ G = if gk G x = 9 then ev 141 56 [a0, a1, a2, a3] (vR (μ x 0) :: st) μ G else none := ev_if pg_141_53 rfl
theorem pg_141_56 : mm_prog 141 56 = some (0, .iload_n 1, 57, []) := by decide +kernel
theorem xe_141_56 (a0 a2 a3 : Option MV) (x : Int) (st : List MV) (μ : MM) (G : MG) : ev 141 56 [a0, some (vI x), a2, a3] st μ G = ev 141 57 [a0, some (vI x), a2, a3] (vI x :: st) μ G := ev_stp pg_141_56 rfl
theorem pg_141_57 : mm_prog 141 57 = some (0, .iload_n 3, 58, []) := by decide +kernel
theorem xe_141_57 (a0 a1 a2 : Option MV) (x : Int) (st : List MV) (μ : MM) (G : MG) : ev 141 57 [a0, a1, a2, some (vI x)] st μ G = ev 141 58 [a0, a1, a2, some (vI x)] (vI x :: st) μ G := ev_stp pg_141_57 rfl
theorem pg_141_58 : mm_prog 141 58 = some (0, .iastore, 59, []) := by decide +kernel
theorem xe_141_58 (a0 a1 a2 a3 : Option MV) (x y z : Int) (st : List MV) (μ : MM) (G : MG) : ev 141 58 [a0, a1, a2, a3] (vI x :: vI y :: vR z :: st) μ G = if gk G z = 100 ∧ 0 ≤ y ∧ y < gl G z ∧ 10 ≤ z then ev 141 59 [a0, a1, a2, a3] st (mset μ z y x) G else none := ev_if pg_141_58 rfl
theorem pg_141_59 : mm_prog 141 59 = some (0, .aload_n 0, 60, []) := by decide +kernel
theorem xe_141_59 (a1 a2 a3 : Option MV) (x : Int) (st : List MV) (μ : MM) (G : MG) : ev 141 59 [some (vR x), a1, a2, a3] st μ G = ev 141 60 [some (vR x), a1, a2, a3] (vR x :: st) μ G := ev_stp pg_141_59 rfl
theorem pg_141_60 : mm_prog 141 60 = some (0, .getfield 85, 63, [10, 12, 2]) := by decide +kernel
theorem xe_141_60 (a0 a1 a2 a3 : Option MV) (x : Int) (st : List MV) (μ : MM) (G : MG) : ev 141 60 [a0, a1, a2, a3] (vR x :: st) μ G = if gk G x = 10 then ev 141 63 [a0, a1, a2, a3] (vR (μ x 12) :: st) μ G else none := ev_if pg_141_60 rfl
theorem pg_141_63 : mm_prog 141 63 = some (0, .aload_n 0, 64, []) := by decide +kernel
theorem xe_141_63 (a1 a2 a3 : Option MV) (x : Int) (st : List MV) (μ : MM) (G : MG) : ev 141 63 [some (vR x), a1, a2, a3] st μ G = ev 141 64 [some (vR x), a1, a2, a3] (vR x :: st) μ G := ev_stp pg_141_63 rfl
theorem pg_141_64 : mm_prog 141 64 = some (0, .getfield 82, 67, [10, 11, 2]) := by decide +kernel
theorem xe_141_64 (a0 a1 a2 a3 : Option MV) (x : Int) (st : List MV) (μ : MM) (G : MG) : ev 141 64 [a0, a1, a2, a3] (vR x :: st) μ G = if gk G x = 10 then ev 141 67 [a0, a1, a2, a3] (vR (μ x 11) :: st) μ G else none := ev_if pg_141_64 rfl
theorem pg_141_67 : mm_prog 141 67 = some (1, .invokevirtual 379, 70, [1, 81, 1, 8]) := by decide +kernel
theorem xe_141_67 (a0 a1 a2 a3 : Option MV) (x0 z : Int) (μ : MM) (G : MG) : ev 141 67 [a0, a1, a2, a3] (vR x0 :: vR z :: []) μ G = if gk G z = 8 ∧ 0 < z then (ev 81 0 [some (vR z), some (vR x0), none] [] μ G).bind (fun q => ev 141 70 [a0, a1, a2, a3] (q.1.toList ++ []) q.2.1 q.2.2) else none := ev_calV (as := [vR z, vR x0]) (r := []) mx_81 pg_141_67 rfl rfl (Nat.le_of_ble_eq_true rfl) (Nat.le_of_ble_eq_true rfl)
theorem pg_141_70 : mm_prog 141 70 = some (0, .iload_n 2, 71, []) := by decide +kernel
theorem xe_141_70 (a0 a1 a3 : Option MV) (x : Int) (st : List MV) (μ : MM) (G : MG) : ev 141 70 [a0, a1, some (vI x), a3] st μ G = ev 141 71 [a0, a1, some (vI x), a3] (vI x :: st) μ G := ev_stp pg_141_70 rfl
theorem pg_141_71 : mm_prog 141 71 = some (0, .if_icmp .lt 5, 74, []) := by decide +kernel
theorem xe_141_71 (a0 a1 a2 a3 : Option MV) (x y : Int) (st : List MV) (μ : MM) (G : MG) : ev 141 71 [a0, a1, a2, a3] (vI y :: vI x :: st) μ G = if x < y then ev 141 76 [a0, a1, a2, a3] st μ G else ev 141 74 [a0, a1, a2, a3] st μ G := ev_br (mm_cnd_lt x y) pg_141_71 rfl
theorem pg_141_74 : mm_prog 141 74 = some (0, .iload_n 3, 75, []) := by decide +kernel
theorem xe_141_74 (a0 a1 a2 : Option MV) (x : Int) (st : List MV) (μ : MM) (G : MG) : ev 141 74 [a0, a1, a2, some (vI x)] st μ G = ev 141 75 [a0, a1, a2, some (vI x)] (vI x :: st) μ G := ev_stp pg_141_74 rfl
theorem pg_141_75 : mm_prog 141 75 = some (2, .ireturn, 76, [0]) := by decide +kernel
theorem xe_141_75 (a0 a1 a2 a3 : Option MV) (x : Int) (μ : MM) (G : MG) : ev 141 75 [a0, a1, a2, a3] [vI x] μ G = some (some (vI x), μ, G) := ev_ret pg_141_75 rfl
theorem pg_141_76 : mm_prog 141 76 = some (0, .iinc 3 (-1), 79, []) := by decide +kernel
theorem xe_141_76 (a0 a1 a2 : Option MV) (x : Int) (st : List MV) (μ : MM) (G : MG) (h : mm_nL a2 = true) : ev 141 76 [a0, a1, a2, some (vI x)] st μ G = ev 141 79 [a0, a1, a2, some (vI (w32 (x + (-1))))] st μ G := ev_st pg_141_76 rfl (mm_nl_of h) (Nat.le_of_ble_eq_true rfl)
theorem pg_141_79 : mm_prog 141 79 = some (0, .goto (-43), 82, []) := by decide +kernel
theorem xe_141_79 (a0 a1 a2 a3 : Option MV) (st : List MV) (μ : MM) (G : MG) : ev 141 79 [a0, a1, a2, a3] st μ G = ev 141 36 [a0, a1, a2, a3] st μ G := ev_stp pg_141_79 rfl
theorem pg_141_82 : mm_prog 141 82 = some (0, .aload_n 0, 83, []) := by decide +kernel
theorem xe_141_82 (a1 a2 a3 : Option MV) (x : Int) (st : List MV) (μ : MM) (G : MG) : ev 141 82 [some (vR x), a1, a2, a3] st μ G = ev 141 83 [some (vR x), a1, a2, a3] (vR x :: st) μ G := ev_stp pg_141_82 rfl
theorem pg_141_83 : mm_prog 141 83 = some (0, .getfield 64, 86, [10, 8, 2]) := by decide +kernel
theorem xe_141_83 (a0 a1 a2 a3 : Option MV) (x : Int) (st : List MV) (μ : MM) (G : MG) : ev 141 83 [a0, a1, a2, a3] (vR x :: st) μ G = if gk G x = 10 then ev 141 86 [a0, a1, a2, a3] (vR (μ x 8) :: st) μ G else none := ev_if pg_141_83 rfl
theorem pg_141_86 : mm_prog 141 86 = some (0, .getfield 293, 89, [9, 0, 2]) := by decide +kernel
theorem xe_141_86 (a0 a1 a2 a3 : Option MV) (x : Int) (st : List MV) (μ : MM) (G : MG) : ev 141 86 [a0, a1, a2, a3] (vR x :: st) μ G = if gk G x = 9 then ev 141 89 [a0, a1, a2, a3] (vR (μ x 0) :: st) μ G else none := ev_if pg_141_86 rfl
theorem pg_141_89 : mm_prog 141 89 = some (0, .iload_n 1, 90, []) := by decide +kernel
theorem xe_141_89 (a0 a2 a3 : Option MV) (x : Int) (st : List MV) (μ : MM) (G : MG) : ev 141 89 [a0, some (vI x), a2, a3] st μ G = ev 141 90 [a0, some (vI x), a2, a3] (vI x :: st) μ G := ev_stp pg_141_89 rfl
theorem pg_141_90 : mm_prog 141 90 = some (0, .iaload, 91, []) := by decide +kernel
theorem xe_141_90 (a0 a1 a2 a3 : Option MV) (x y : Int) (st : List MV) (μ : MM) (G : MG) : ev 141 90 [a0, a1, a2, a3] (vI x :: vR y :: st) μ G = if gk G y = 100 ∧ 0 ≤ x ∧ x < gl G y then ev 141 91 [a0, a1, a2, a3] (vI (μ y x) :: st) μ G else none := ev_if pg_141_90 rfl
theorem pg_141_91 : mm_prog 141 91 = some (2, .ireturn, 92, [0]) := by decide +kernel
theorem xe_141_91 (a0 a1 a2 a3 : Option MV) (x : Int) (μ : MM) (G : MG) : ev 141 91 [a0, a1, a2, a3] [vI x] μ G = some (some (vI x), μ, G) := ev_ret pg_141_91 rfl
-- X10_laid
theorem pg_142_0 : mm_prog 142 0 = some (0, .iload_n 1, 1, []) := by decide +kernel
theorem xe_142_0 (a0 a2 a3 a4 a5 a6 a7 a8 a9 : Option MV) (x : Int) (st : List MV) (μ : MM) (G : MG) : ev 142 0 [a0, some (vI x), a2, a3, a4, a5, a6, a7, a8, a9] st μ G = ev 142 1 [a0, some (vI x), a2, a3, a4, a5, a6, a7, a8, a9] (vI x :: st) μ G := ev_stp pg_142_0 rfl
theorem pg_142_1 : mm_prog 142 1 = some (0, .ifCond .lt 8, 4, []) := by decide +kernel
theorem xe_142_1 (a0 a1 a2 a3 a4 a5 a6 a7 a8 a9 : Option MV) (x : Int) (st : List MV) (μ : MM) (G : MG) : ev 142 1 [a0, a1, a2, a3, a4, a5, a6, a7, a8, a9] (vI x :: st) μ G = if x < 0 then ev 142 9 [a0, a1, a2, a3, a4, a5, a6, a7, a8, a9] st μ G else ev 142 4 [a0, a1, a2, a3, a4, a5, a6, a7, a8, a9] st μ G := ev_br (mm_cnd_lt x 0) pg_142_1 rfl
theorem pg_142_4 : mm_prog 142 4 = some (0, .iload_n 1, 5, []) := by decide +kernel
theorem xe_142_4 (a0 a2 a3 a4 a5 a6 a7 a8 a9 : Option MV) (x : Int) (st : List MV) (μ : MM) (G : MG) : ev 142 4 [a0, some (vI x), a2, a3, a4, a5, a6, a7, a8, a9] st μ G = ev 142 5 [a0, some (vI x), a2, a3, a4, a5, a6, a7, a8, a9] (vI x :: st) μ G := ev_stp pg_142_4 rfl
theorem pg_142_5 : mm_prog 142 5 = some (0, .iconst 1, 6, []) := by decide +kernel
theorem xe_142_5 (a0 a1 a2 a3 a4 a5 a6 a7 a8 a9 : Option MV) (st : List MV) (μ : MM) (G : MG) : ev 142 5 [a0, a1, a2, a3, a4, a5, a6, a7, a8, a9] st μ G = ev 142 6 [a0, a1, a2, a3, a4, a5, a6, a7, a8, a9] (vI (1) :: st) μ G := ev_stp pg_142_5 rfl
theorem pg_142_6 : mm_prog 142 6 = some (0, .if_icmp .le 6, 9, []) := by decide +kernel
theorem xe_142_6 (a0 a1 a2 a3 a4 a5 a6 a7 a8 a9 : Option MV) (x y : Int) (st : List MV) (μ : MM) (G : MG) : ev 142 6 [a0, a1, a2, a3, a4, a5, a6, a7, a8, a9] (vI y :: vI x :: st) μ G = if x ≤ y then ev 142 12 [a0, a1, a2, a3, a4, a5, a6, a7, a8, a9] st μ G else ev 142 9 [a0, a1, a2, a3, a4, a5, a6, a7, a8, a9] st μ G := ev_br (mm_cnd_le x y) pg_142_6 rfl
theorem pg_142_9 : mm_prog 142 9 = some (0, .bipush (-2), 11, []) := by decide +kernel
theorem xe_142_9 (a0 a1 a2 a3 a4 a5 a6 a7 a8 a9 : Option MV) (st : List MV) (μ : MM) (G : MG) : ev 142 9 [a0, a1, a2, a3, a4, a5, a6, a7, a8, a9] st μ G = ev 142 11 [a0, a1, a2, a3, a4, a5, a6, a7, a8, a9] (vI (-2) :: st) μ G := ev_stp pg_142_9 rfl
theorem pg_142_11 : mm_prog 142 11 = some (2, .ireturn, 12, [0]) := by decide +kernel
theorem xe_142_11 (a0 a1 a2 a3 a4 a5 a6 a7 a8 a9 : Option MV) (x : Int) (μ : MM) (G : MG) : ev 142 11 [a0, a1, a2, a3, a4, a5, a6, a7, a8, a9] [vI x] μ G = some (some (vI x), μ, G) := ev_ret pg_142_11 rfl
theorem pg_142_12 : mm_prog 142 12 = some (0, .iconst (-1), 13, []) := by decide +kernel
theorem xe_142_12 (a0 a1 a2 a3 a4 a5 a6 a7 a8 a9 : Option MV) (st : List MV) (μ : MM) (G : MG) : ev 142 12 [a0, a1, a2, a3, a4, a5, a6, a7, a8, a9] st μ G = ev 142 13 [a0, a1, a2, a3, a4, a5, a6, a7, a8, a9] (vI (-1) :: st) μ G := ev_stp pg_142_12 rfl
theorem pg_142_13 : mm_prog 142 13 = some (0, .istore_n 2, 14, []) := by decide +kernel
theorem xe_142_13 (a0 a1 a2 a3 a4 a5 a6 a7 a8 a9 : Option MV) (x : Int) (st : List MV) (μ : MM) (G : MG) (h : mm_nL a1 = true) : ev 142 13 [a0, a1, a2, a3, a4, a5, a6, a7, a8, a9] (vI x :: st) μ G = ev 142 14 [a0, a1, some (vI x), a3, a4, a5, a6, a7, a8, a9] st μ G := ev_st pg_142_13 rfl (mm_nl_of h) (Nat.le_of_ble_eq_true rfl)
theorem pg_142_14 : mm_prog 142 14 = some (0, .iconst (-1), 15, []) := by decide +kernel
theorem xe_142_14 (a0 a1 a2 a3 a4 a5 a6 a7 a8 a9 : Option MV) (st : List MV) (μ : MM) (G : MG) : ev 142 14 [a0, a1, a2, a3, a4, a5, a6, a7, a8, a9] st μ G = ev 142 15 [a0, a1, a2, a3, a4, a5, a6, a7, a8, a9] (vI (-1) :: st) μ G := ev_stp pg_142_14 rfl
theorem pg_142_15 : mm_prog 142 15 = some (0, .istore_n 3, 16, []) := by decide +kernel
theorem xe_142_15 (a0 a1 a2 a3 a4 a5 a6 a7 a8 a9 : Option MV) (x : Int) (st : List MV) (μ : MM) (G : MG) (h : mm_nL a2 = true) : ev 142 15 [a0, a1, a2, a3, a4, a5, a6, a7, a8, a9] (vI x :: st) μ G = ev 142 16 [a0, a1, a2, some (vI x), a4, a5, a6, a7, a8, a9] st μ G := ev_st pg_142_15 rfl (mm_nl_of h) (Nat.le_of_ble_eq_true rfl)
theorem pg_142_16 : mm_prog 142 16 = some (0, .aload_n 0, 17, []) := by decide +kernel
theorem xe_142_16 (a1 a2 a3 a4 a5 a6 a7 a8 a9 : Option MV) (x : Int) (st : List MV) (μ : MM) (G : MG) : ev 142 16 [some (vR x), a1, a2, a3, a4, a5, a6, a7, a8, a9] st μ G = ev 142 17 [some (vR x), a1, a2, a3, a4, a5, a6, a7, a8, a9] (vR x :: st) μ G := ev_stp pg_142_16 rfl
theorem pg_142_17 : mm_prog 142 17 = some (0, .getfield 82, 20, [10, 11, 2]) := by decide +kernel
theorem xe_142_17 (a0 a1 a2 a3 a4 a5 a6 a7 a8 a9 : Option MV) (x : Int) (st : List MV) (μ : MM) (G : MG) : ev 142 17 [a0, a1, a2, a3, a4, a5, a6, a7, a8, a9] (vR x :: st) μ G = if gk G x = 10 then ev 142 20 [a0, a1, a2, a3, a4, a5, a6, a7, a8, a9] (vR (μ x 11) :: st) μ G else none := ev_if pg_142_17 rfl
theorem pg_142_20 : mm_prog 142 20 = some (0, .aload_n 0, 21, []) := by decide +kernel
theorem xe_142_20 (a1 a2 a3 a4 a5 a6 a7 a8 a9 : Option MV) (x : Int) (st : List MV) (μ : MM) (G : MG) : ev 142 20 [some (vR x), a1, a2, a3, a4, a5, a6, a7, a8, a9] st μ G = ev 142 21 [some (vR x), a1, a2, a3, a4, a5, a6, a7, a8, a9] (vR x :: st) μ G := ev_stp pg_142_20 rfl
theorem pg_142_21 : mm_prog 142 21 = some (0, .getfield 64, 24, [10, 8, 2]) := by decide +kernel
theorem xe_142_21 (a0 a1 a2 a3 a4 a5 a6 a7 a8 a9 : Option MV) (x : Int) (st : List MV) (μ : MM) (G : MG) : ev 142 21 [a0, a1, a2, a3, a4, a5, a6, a7, a8, a9] (vR x :: st) μ G = if gk G x = 10 then ev 142 24 [a0, a1, a2, a3, a4, a5, a6, a7, a8, a9] (vR (μ x 8) :: st) μ G else none := ev_if pg_142_21 rfl
theorem pg_142_24 : mm_prog 142 24 = some (1, .invokevirtual 382, 27, [1, 97, 1, 9]) := by decide +kernel
theorem xe_142_24 (a0 a1 a2 a3 a4 a5 a6 a7 a8 a9 : Option MV) (x0 z : Int) (μ : MM) (G : MG) : ev 142 24 [a0, a1, a2, a3, a4, a5, a6, a7, a8, a9] (vR x0 :: vR z :: []) μ G = if gk G z = 9 ∧ 0 < z then (ev 97 0 [some (vR z), some (vR x0)] [] μ G).bind (fun q => ev 142 27 [a0, a1, a2, a3, a4, a5, a6, a7, a8, a9] (q.1.toList ++ []) q.2.1 q.2.2) else none := ev_calV (as := [vR z, vR x0]) (r := []) mx_97 pg_142_24 rfl rfl (Nat.le_of_ble_eq_true rfl) (Nat.le_of_ble_eq_true rfl)
theorem pg_142_27 : mm_prog 142 27 = some (0, .iconst 0, 28, []) := by decide +kernel
theorem xe_142_27 (a0 a1 a2 a3 a4 a5 a6 a7 a8 a9 : Option MV) (st : List MV) (μ : MM) (G : MG) : ev 142 27 [a0, a1, a2, a3, a4, a5, a6, a7, a8, a9] st μ G = ev 142 28 [a0, a1, a2, a3, a4, a5, a6, a7, a8, a9] (vI (0) :: st) μ G := ev_stp pg_142_27 rfl
theorem pg_142_28 : mm_prog 142 28 = some (0, .istore 4, 30, []) := by decide +kernel
theorem xe_142_28 (a0 a1 a2 a3 a4 a5 a6 a7 a8 a9 : Option MV) (x : Int) (st : List MV) (μ : MM) (G : MG) (h : mm_nL a3 = true) : ev 142 28 [a0, a1, a2, a3, a4, a5, a6, a7, a8, a9] (vI x :: st) μ G = ev 142 30 [a0, a1, a2, a3, some (vI x), a5, a6, a7, a8, a9] st μ G := ev_st pg_142_28 rfl (mm_nl_of h) (Nat.le_of_ble_eq_true rfl)
theorem pg_142_30 : mm_prog 142 30 = some (0, .iload 4, 32, []) := by decide +kernel
theorem xe_142_30 (a0 a1 a2 a3 a5 a6 a7 a8 a9 : Option MV) (x : Int) (st : List MV) (μ : MM) (G : MG) : ev 142 30 [a0, a1, a2, a3, some (vI x), a5, a6, a7, a8, a9] st μ G = ev 142 32 [a0, a1, a2, a3, some (vI x), a5, a6, a7, a8, a9] (vI x :: st) μ G := ev_stp pg_142_30 rfl
theorem pg_142_32 : mm_prog 142 32 = some (0, .bipush 64, 34, []) := by decide +kernel
theorem xe_142_32 (a0 a1 a2 a3 a4 a5 a6 a7 a8 a9 : Option MV) (st : List MV) (μ : MM) (G : MG) : ev 142 32 [a0, a1, a2, a3, a4, a5, a6, a7, a8, a9] st μ G = ev 142 34 [a0, a1, a2, a3, a4, a5, a6, a7, a8, a9] (vI (64) :: st) μ G := ev_stp pg_142_32 rfl
theorem pg_142_34 : mm_prog 142 34 = some (0, .if_icmp .ge 139, 37, []) := by decide +kernel
theorem xe_142_34 (a0 a1 a2 a3 a4 a5 a6 a7 a8 a9 : Option MV) (x y : Int) (st : List MV) (μ : MM) (G : MG) : ev 142 34 [a0, a1, a2, a3, a4, a5, a6, a7, a8, a9] (vI y :: vI x :: st) μ G = if y ≤ x then ev 142 173 [a0, a1, a2, a3, a4, a5, a6, a7, a8, a9] st μ G else ev 142 37 [a0, a1, a2, a3, a4, a5, a6, a7, a8, a9] st μ G := ev_br (mm_cnd_ge x y) pg_142_34 rfl
theorem pg_142_37 : mm_prog 142 37 = some (0, .iload 4, 39, []) := by decide +kernel
theorem xe_142_37 (a0 a1 a2 a3 a5 a6 a7 a8 a9 : Option MV) (x : Int) (st : List MV) (μ : MM) (G : MG) : ev 142 37 [a0, a1, a2, a3, some (vI x), a5, a6, a7, a8, a9] st μ G = ev 142 39 [a0, a1, a2, a3, some (vI x), a5, a6, a7, a8, a9] (vI x :: st) μ G := ev_stp pg_142_37 rfl
theorem pg_142_39 : mm_prog 142 39 = some (0, .bipush 16, 41, []) := by decide +kernel
theorem xe_142_39 (a0 a1 a2 a3 a4 a5 a6 a7 a8 a9 : Option MV) (st : List MV) (μ : MM) (G : MG) : ev 142 39 [a0, a1, a2, a3, a4, a5, a6, a7, a8, a9] st μ G = ev 142 41 [a0, a1, a2, a3, a4, a5, a6, a7, a8, a9] (vI (16) :: st) μ G := ev_stp pg_142_39 rfl
theorem pg_142_41 : mm_prog 142 41 = some (0, .idiv, 42, []) := by decide +kernel
theorem xe_142_41 (a0 a1 a2 a3 a4 a5 a6 a7 a8 a9 : Option MV) (x y : Int) (st : List MV) (μ : MM) (G : MG) : ev 142 41 [a0, a1, a2, a3, a4, a5, a6, a7, a8, a9] (vI y :: vI x :: st) μ G = if y = 0 then none else ev 142 42 [a0, a1, a2, a3, a4, a5, a6, a7, a8, a9] (vI (mm_div x y) :: st) μ G := ev_no pg_142_41 rfl
theorem pg_142_42 : mm_prog 142 42 = some (0, .istore 5, 44, []) := by decide +kernel
theorem xe_142_42 (a0 a1 a2 a3 a4 a5 a6 a7 a8 a9 : Option MV) (x : Int) (st : List MV) (μ : MM) (G : MG) (h : mm_nL a4 = true) : ev 142 42 [a0, a1, a2, a3, a4, a5, a6, a7, a8, a9] (vI x :: st) μ G = ev 142 44 [a0, a1, a2, a3, a4, some (vI x), a6, a7, a8, a9] st μ G := ev_st pg_142_42 rfl (mm_nl_of h) (Nat.le_of_ble_eq_true rfl)
theorem pg_142_44 : mm_prog 142 44 = some (0, .iload 4, 46, []) := by decide +kernel
theorem xe_142_44 (a0 a1 a2 a3 a5 a6 a7 a8 a9 : Option MV) (x : Int) (st : List MV) (μ : MM) (G : MG) : ev 142 44 [a0, a1, a2, a3, some (vI x), a5, a6, a7, a8, a9] st μ G = ev 142 46 [a0, a1, a2, a3, some (vI x), a5, a6, a7, a8, a9] (vI x :: st) μ G := ev_stp pg_142_44 rfl
theorem pg_142_46 : mm_prog 142 46 = some (0, .iconst 4, 47, []) := by decide +kernel
theorem xe_142_46 (a0 a1 a2 a3 a4 a5 a6 a7 a8 a9 : Option MV) (st : List MV) (μ : MM) (G : MG) : ev 142 46 [a0, a1, a2, a3, a4, a5, a6, a7, a8, a9] st μ G = ev 142 47 [a0, a1, a2, a3, a4, a5, a6, a7, a8, a9] (vI (4) :: st) μ G := ev_stp pg_142_46 rfl
theorem pg_142_47 : mm_prog 142 47 = some (0, .idiv, 48, []) := by decide +kernel
theorem xe_142_47 (a0 a1 a2 a3 a4 a5 a6 a7 a8 a9 : Option MV) (x y : Int) (st : List MV) (μ : MM) (G : MG) : ev 142 47 [a0, a1, a2, a3, a4, a5, a6, a7, a8, a9] (vI y :: vI x :: st) μ G = if y = 0 then none else ev 142 48 [a0, a1, a2, a3, a4, a5, a6, a7, a8, a9] (vI (mm_div x y) :: st) μ G := ev_no pg_142_47 rfl
theorem pg_142_48 : mm_prog 142 48 = some (0, .iconst 4, 49, []) := by decide +kernel
theorem xe_142_48 (a0 a1 a2 a3 a4 a5 a6 a7 a8 a9 : Option MV) (st : List MV) (μ : MM) (G : MG) : ev 142 48 [a0, a1, a2, a3, a4, a5, a6, a7, a8, a9] st μ G = ev 142 49 [a0, a1, a2, a3, a4, a5, a6, a7, a8, a9] (vI (4) :: st) μ G := ev_stp pg_142_48 rfl
theorem pg_142_49 : mm_prog 142 49 = some (0, .irem, 50, []) := by decide +kernel
theorem xe_142_49 (a0 a1 a2 a3 a4 a5 a6 a7 a8 a9 : Option MV) (x y : Int) (st : List MV) (μ : MM) (G : MG) : ev 142 49 [a0, a1, a2, a3, a4, a5, a6, a7, a8, a9] (vI y :: vI x :: st) μ G = if y = 0 then none else ev 142 50 [a0, a1, a2, a3, a4, a5, a6, a7, a8, a9] (vI (mm_rem x y) :: st) μ G := ev_no pg_142_49 rfl
theorem pg_142_50 : mm_prog 142 50 = some (0, .istore 6, 52, []) := by decide +kernel
theorem xe_142_50 (a0 a1 a2 a3 a4 a5 a6 a7 a8 a9 : Option MV) (x : Int) (st : List MV) (μ : MM) (G : MG) (h : mm_nL a5 = true) : ev 142 50 [a0, a1, a2, a3, a4, a5, a6, a7, a8, a9] (vI x :: st) μ G = ev 142 52 [a0, a1, a2, a3, a4, a5, some (vI x), a7, a8, a9] st μ G := ev_st pg_142_50 rfl (mm_nl_of h) (Nat.le_of_ble_eq_true rfl)
theorem pg_142_52 : mm_prog 142 52 = some (0, .iload 4, 54, []) := by decide +kernel
theorem xe_142_52 (a0 a1 a2 a3 a5 a6 a7 a8 a9 : Option MV) (x : Int) (st : List MV) (μ : MM) (G : MG) : ev 142 52 [a0, a1, a2, a3, some (vI x), a5, a6, a7, a8, a9] st μ G = ev 142 54 [a0, a1, a2, a3, some (vI x), a5, a6, a7, a8, a9] (vI x :: st) μ G := ev_stp pg_142_52 rfl
theorem pg_142_54 : mm_prog 142 54 = some (0, .iconst 4, 55, []) := by decide +kernel
theorem xe_142_54 (a0 a1 a2 a3 a4 a5 a6 a7 a8 a9 : Option MV) (st : List MV) (μ : MM) (G : MG) : ev 142 54 [a0, a1, a2, a3, a4, a5, a6, a7, a8, a9] st μ G = ev 142 55 [a0, a1, a2, a3, a4, a5, a6, a7, a8, a9] (vI (4) :: st) μ G := ev_stp pg_142_54 rfl
theorem pg_142_55 : mm_prog 142 55 = some (0, .irem, 56, []) := by decide +kernel
theorem xe_142_55 (a0 a1 a2 a3 a4 a5 a6 a7 a8 a9 : Option MV) (x y : Int) (st : List MV) (μ : MM) (G : MG) : ev 142 55 [a0, a1, a2, a3, a4, a5, a6, a7, a8, a9] (vI y :: vI x :: st) μ G = if y = 0 then none else ev 142 56 [a0, a1, a2, a3, a4, a5, a6, a7, a8, a9] (vI (mm_rem x y) :: st) μ G := ev_no pg_142_55 rfl
theorem pg_142_56 : mm_prog 142 56 = some (0, .istore 7, 58, []) := by decide +kernel
theorem xe_142_56 (a0 a1 a2 a3 a4 a5 a6 a7 a8 a9 : Option MV) (x : Int) (st : List MV) (μ : MM) (G : MG) (h : mm_nL a6 = true) : ev 142 56 [a0, a1, a2, a3, a4, a5, a6, a7, a8, a9] (vI x :: st) μ G = ev 142 58 [a0, a1, a2, a3, a4, a5, a6, some (vI x), a8, a9] st μ G := ev_st pg_142_56 rfl (mm_nl_of h) (Nat.le_of_ble_eq_true rfl)
theorem pg_142_58 : mm_prog 142 58 = some (0, .iload 5, 60, []) := by decide +kernel
theorem xe_142_58 (a0 a1 a2 a3 a4 a6 a7 a8 a9 : Option MV) (x : Int) (st : List MV) (μ : MM) (G : MG) : ev 142 58 [a0, a1, a2, a3, a4, some (vI x), a6, a7, a8, a9] st μ G = ev 142 60 [a0, a1, a2, a3, a4, some (vI x), a6, a7, a8, a9] (vI x :: st) μ G := ev_stp pg_142_58 rfl
theorem pg_142_60 : mm_prog 142 60 = some (0, .iload 6, 62, []) := by decide +kernel
theorem xe_142_60 (a0 a1 a2 a3 a4 a5 a7 a8 a9 : Option MV) (x : Int) (st : List MV) (μ : MM) (G : MG) : ev 142 60 [a0, a1, a2, a3, a4, a5, some (vI x), a7, a8, a9] st μ G = ev 142 62 [a0, a1, a2, a3, a4, a5, some (vI x), a7, a8, a9] (vI x :: st) μ G := ev_stp pg_142_60 rfl
theorem pg_142_62 : mm_prog 142 62 = some (0, .if_icmp .eq 105, 65, []) := by decide +kernel
theorem xe_142_62 (a0 a1 a2 a3 a4 a5 a6 a7 a8 a9 : Option MV) (x y : Int) (st : List MV) (μ : MM) (G : MG) : ev 142 62 [a0, a1, a2, a3, a4, a5, a6, a7, a8, a9] (vI y :: vI x :: st) μ G = if x = y then ev 142 167 [a0, a1, a2, a3, a4, a5, a6, a7, a8, a9] st μ G else ev 142 65 [a0, a1, a2, a3, a4, a5, a6, a7, a8, a9] st μ G := ev_br (mm_cnd_eq x y) pg_142_62 rfl
theorem pg_142_65 : mm_prog 142 65 = some (0, .iload 5, 67, []) := by decide +kernel
theorem xe_142_65 (a0 a1 a2 a3 a4 a6 a7 a8 a9 : Option MV) (x : Int) (st : List MV) (μ : MM) (G : MG) : ev 142 65 [a0, a1, a2, a3, a4, some (vI x), a6, a7, a8, a9] st μ G = ev 142 67 [a0, a1, a2, a3, a4, some (vI x), a6, a7, a8, a9] (vI x :: st) μ G := ev_stp pg_142_65 rfl
theorem pg_142_67 : mm_prog 142 67 = some (0, .iload 7, 69, []) := by decide +kernel
theorem xe_142_67 (a0 a1 a2 a3 a4 a5 a6 a8 a9 : Option MV) (x : Int) (st : List MV) (μ : MM) (G : MG) : ev 142 67 [a0, a1, a2, a3, a4, a5, a6, some (vI x), a8, a9] st μ G = ev 142 69 [a0, a1, a2, a3, a4, a5, a6, some (vI x), a8, a9] (vI x :: st) μ G := ev_stp pg_142_67 rfl
theorem pg_142_69 : mm_prog 142 69 = some (0, .if_icmp .eq 98, 72, []) := by decide +kernel
theorem xe_142_69 (a0 a1 a2 a3 a4 a5 a6 a7 a8 a9 : Option MV) (x y : Int) (st : List MV) (μ : MM) (G : MG) : ev 142 69 [a0, a1, a2, a3, a4, a5, a6, a7, a8, a9] (vI y :: vI x :: st) μ G = if x = y then ev 142 167 [a0, a1, a2, a3, a4, a5, a6, a7, a8, a9] st μ G else ev 142 72 [a0, a1, a2, a3, a4, a5, a6, a7, a8, a9] st μ G := ev_br (mm_cnd_eq x y) pg_142_69 rfl
theorem pg_142_72 : mm_prog 142 72 = some (0, .iload 6, 74, []) := by decide +kernel
theorem xe_142_72 (a0 a1 a2 a3 a4 a5 a7 a8 a9 : Option MV) (x : Int) (st : List MV) (μ : MM) (G : MG) : ev 142 72 [a0, a1, a2, a3, a4, a5, some (vI x), a7, a8, a9] st μ G = ev 142 74 [a0, a1, a2, a3, a4, a5, some (vI x), a7, a8, a9] (vI x :: st) μ G := ev_stp pg_142_72 rfl
theorem pg_142_74 : mm_prog 142 74 = some (0, .iload 7, 76, []) := by decide +kernel
theorem xe_142_74 (a0 a1 a2 a3 a4 a5 a6 a8 a9 : Option MV) (x : Int) (st : List MV) (μ : MM) (G : MG) : ev 142 74 [a0, a1, a2, a3, a4, a5, a6, some (vI x), a8, a9] st μ G = ev 142 76 [a0, a1, a2, a3, a4, a5, a6, some (vI x), a8, a9] (vI x :: st) μ G := ev_stp pg_142_74 rfl
theorem pg_142_76 : mm_prog 142 76 = some (0, .if_icmp .ne 6, 79, []) := by decide +kernel
theorem xe_142_76 (a0 a1 a2 a3 a4 a5 a6 a7 a8 a9 : Option MV) (x y : Int) (st : List MV) (μ : MM) (G : MG) : ev 142 76 [a0, a1, a2, a3, a4, a5, a6, a7, a8, a9] (vI y :: vI x :: st) μ G = if ¬ x = y then ev 142 82 [a0, a1, a2, a3, a4, a5, a6, a7, a8, a9] st μ G else ev 142 79 [a0, a1, a2, a3, a4, a5, a6, a7, a8, a9] st μ G := ev_br (mm_cnd_ne x y) pg_142_76 rfl
theorem pg_142_79 : mm_prog 142 79 = some (0, .goto 88, 82, []) := by decide +kernel
theorem xe_142_79 (a0 a1 a2 a3 a4 a5 a6 a7 a8 a9 : Option MV) (st : List MV) (μ : MM) (G : MG) : ev 142 79 [a0, a1, a2, a3, a4, a5, a6, a7, a8, a9] st μ G = ev 142 167 [a0, a1, a2, a3, a4, a5, a6, a7, a8, a9] st μ G := ev_stp pg_142_79 rfl
theorem pg_142_82 : mm_prog 142 82 = some (0, .bipush 6, 84, []) := by decide +kernel
theorem xe_142_82 (a0 a1 a2 a3 a4 a5 a6 a7 a8 a9 : Option MV) (st : List MV) (μ : MM) (G : MG) : ev 142 82 [a0, a1, a2, a3, a4, a5, a6, a7, a8, a9] st μ G = ev 142 84 [a0, a1, a2, a3, a4, a5, a6, a7, a8, a9] (vI (6) :: st) μ G := ev_stp pg_142_82 rfl
theorem pg_142_84 : mm_prog 142 84 = some (0, .iload 5, 86, []) := by decide +kernel
theorem xe_142_84 (a0 a1 a2 a3 a4 a6 a7 a8 a9 : Option MV) (x : Int) (st : List MV) (μ : MM) (G : MG) : ev 142 84 [a0, a1, a2, a3, a4, some (vI x), a6, a7, a8, a9] st μ G = ev 142 86 [a0, a1, a2, a3, a4, some (vI x), a6, a7, a8, a9] (vI x :: st) μ G := ev_stp pg_142_84 rfl
theorem pg_142_86 : mm_prog 142 86 = some (0, .isub, 87, []) := by decide +kernel
theorem xe_142_86 (a0 a1 a2 a3 a4 a5 a6 a7 a8 a9 : Option MV) (x y : Int) (st : List MV) (μ : MM) (G : MG) : ev 142 86 [a0, a1, a2, a3, a4, a5, a6, a7, a8, a9] (vI y :: vI x :: st) μ G = ev 142 87 [a0, a1, a2, a3, a4, a5, a6, a7, a8, a9] (vI (w32 (x - y)) :: st) μ G := ev_stp pg_142_86 rfl
theorem pg_142_87 : mm_prog 142 87 = some (0, .iload 6, 89, []) := by decide +kernel
theorem xe_142_87 (a0 a1 a2 a3 a4 a5 a7 a8 a9 : Option MV) (x : Int) (st : List MV) (μ : MM) (G : MG) : ev 142 87 [a0, a1, a2, a3, a4, a5, some (vI x), a7, a8, a9] st μ G = ev 142 89 [a0, a1, a2, a3, a4, a5, some (vI x), a7, a8, a9] (vI x :: st) μ G := ev_stp pg_142_87 rfl
theorem pg_142_89 : mm_prog 142 89 = some (0, .isub, 90, []) := by decide +kernel
theorem xe_142_89 (a0 a1 a2 a3 a4 a5 a6 a7 a8 a9 : Option MV) (x y : Int) (st : List MV) (μ : MM) (G : MG) : ev 142 89 [a0, a1, a2, a3, a4, a5, a6, a7, a8, a9] (vI y :: vI x :: st) μ G = ev 142 90 [a0, a1, a2, a3, a4, a5, a6, a7, a8, a9] (vI (w32 (x - y)) :: st) μ G := ev_stp pg_142_89 rfl
theorem pg_142_90 : mm_prog 142 90 = some (0, .iload 7, 92, []) := by decide +kernel
theorem xe_142_90 (a0 a1 a2 a3 a4 a5 a6 a8 a9 : Option MV) (x : Int) (st : List MV) (μ : MM) (G : MG) : ev 142 90 [a0, a1, a2, a3, a4, a5, a6, some (vI x), a8, a9] st μ G = ev 142 92 [a0, a1, a2, a3, a4, a5, a6, some (vI x), a8, a9] (vI x :: st) μ G := ev_stp pg_142_90 rfl
theorem pg_142_92 : mm_prog 142 92 = some (0, .isub, 93, []) := by decide +kernel
theorem xe_142_92 (a0 a1 a2 a3 a4 a5 a6 a7 a8 a9 : Option MV) (x y : Int) (st : List MV) (μ : MM) (G : MG) : ev 142 92 [a0, a1, a2, a3, a4, a5, a6, a7, a8, a9] (vI y :: vI x :: st) μ G = ev 142 93 [a0, a1, a2, a3, a4, a5, a6, a7, a8, a9] (vI (w32 (x - y)) :: st) μ G := ev_stp pg_142_92 rfl
theorem pg_142_93 : mm_prog 142 93 = some (0, .istore 8, 95, []) := by decide +kernel
theorem xe_142_93 (a0 a1 a2 a3 a4 a5 a6 a7 a8 a9 : Option MV) (x : Int) (st : List MV) (μ : MM) (G : MG) (h : mm_nL a7 = true) : ev 142 93 [a0, a1, a2, a3, a4, a5, a6, a7, a8, a9] (vI x :: st) μ G = ev 142 95 [a0, a1, a2, a3, a4, a5, a6, a7, some (vI x), a9] st μ G := ev_st pg_142_93 rfl (mm_nl_of h) (Nat.le_of_ble_eq_true rfl)
theorem pg_142_95 : mm_prog 142 95 = some (0, .aload_n 0, 96, []) := by decide +kernel
theorem xe_142_95 (a1 a2 a3 a4 a5 a6 a7 a8 a9 : Option MV) (x : Int) (st : List MV) (μ : MM) (G : MG) : ev 142 95 [some (vR x), a1, a2, a3, a4, a5, a6, a7, a8, a9] st μ G = ev 142 96 [some (vR x), a1, a2, a3, a4, a5, a6, a7, a8, a9] (vR x :: st) μ G := ev_stp pg_142_95 rfl
theorem pg_142_96 : mm_prog 142 96 = some (0, .iconst 0, 97, []) := by decide +kernel
theorem xe_142_96 (a0 a1 a2 a3 a4 a5 a6 a7 a8 a9 : Option MV) (st : List MV) (μ : MM) (G : MG) : ev 142 96 [a0, a1, a2, a3, a4, a5, a6, a7, a8, a9] st μ G = ev 142 97 [a0, a1, a2, a3, a4, a5, a6, a7, a8, a9] (vI (0) :: st) μ G := ev_stp pg_142_96 rfl
theorem pg_142_97 : mm_prog 142 97 = some (0, .iload 5, 99, []) := by decide +kernel
theorem xe_142_97 (a0 a1 a2 a3 a4 a6 a7 a8 a9 : Option MV) (x : Int) (st : List MV) (μ : MM) (G : MG) : ev 142 97 [a0, a1, a2, a3, a4, some (vI x), a6, a7, a8, a9] st μ G = ev 142 99 [a0, a1, a2, a3, a4, some (vI x), a6, a7, a8, a9] (vI x :: st) μ G := ev_stp pg_142_97 rfl
theorem pg_142_99 : mm_prog 142 99 = some (1, .invokevirtual 385, 102, [1, 143, 2, 10]) := by decide +kernel
theorem xe_142_99 (a0 a1 a2 a3 a4 a5 a6 a7 a8 a9 : Option MV) (x0 x1 z : Int) (μ : MM) (G : MG) : ev 142 99 [a0, a1, a2, a3, a4, a5, a6, a7, a8, a9] (vI x1 :: vI x0 :: vR z :: []) μ G = if gk G z = 10 ∧ 0 < z then (ev 143 0 [some (vR z), some (vI x0), some (vI x1)] [] μ G).bind (fun q => ev 142 102 [a0, a1, a2, a3, a4, a5, a6, a7, a8, a9] (q.1.toList ++ []) q.2.1 q.2.2) else none := ev_calV (as := [vR z, vI x0, vI x1]) (r := []) mx_143 pg_142_99 rfl rfl (Nat.le_of_ble_eq_true rfl) (Nat.le_of_ble_eq_true rfl)
theorem pg_142_102 : mm_prog 142 102 = some (0, .aload_n 0, 103, []) := by decide +kernel
theorem xe_142_102 (a1 a2 a3 a4 a5 a6 a7 a8 a9 : Option MV) (x : Int) (st : List MV) (μ : MM) (G : MG) : ev 142 102 [some (vR x), a1, a2, a3, a4, a5, a6, a7, a8, a9] st μ G = ev 142 103 [some (vR x), a1, a2, a3, a4, a5, a6, a7, a8, a9] (vR x :: st) μ G := ev_stp pg_142_102 rfl
theorem pg_142_103 : mm_prog 142 103 = some (0, .iconst 1, 104, []) := by decide +kernel
theorem xe_142_103 (a0 a1 a2 a3 a4 a5 a6 a7 a8 a9 : Option MV) (st : List MV) (μ : MM) (G : MG) : ev 142 103 [a0, a1, a2, a3, a4, a5, a6, a7, a8, a9] st μ G = ev 142 104 [a0, a1, a2, a3, a4, a5, a6, a7, a8, a9] (vI (1) :: st) μ G := ev_stp pg_142_103 rfl
theorem pg_142_104 : mm_prog 142 104 = some (0, .iload 6, 106, []) := by decide +kernel
theorem xe_142_104 (a0 a1 a2 a3 a4 a5 a7 a8 a9 : Option MV) (x : Int) (st : List MV) (μ : MM) (G : MG) : ev 142 104 [a0, a1, a2, a3, a4, a5, some (vI x), a7, a8, a9] st μ G = ev 142 106 [a0, a1, a2, a3, a4, a5, some (vI x), a7, a8, a9] (vI x :: st) μ G := ev_stp pg_142_104 rfl
theorem pg_142_106 : mm_prog 142 106 = some (1, .invokevirtual 385, 109, [1, 143, 2, 10]) := by decide +kernel
theorem xe_142_106 (a0 a1 a2 a3 a4 a5 a6 a7 a8 a9 : Option MV) (x0 x1 z : Int) (μ : MM) (G : MG) : ev 142 106 [a0, a1, a2, a3, a4, a5, a6, a7, a8, a9] (vI x1 :: vI x0 :: vR z :: []) μ G = if gk G z = 10 ∧ 0 < z then (ev 143 0 [some (vR z), some (vI x0), some (vI x1)] [] μ G).bind (fun q => ev 142 109 [a0, a1, a2, a3, a4, a5, a6, a7, a8, a9] (q.1.toList ++ []) q.2.1 q.2.2) else none := ev_calV (as := [vR z, vI x0, vI x1]) (r := []) mx_143 pg_142_106 rfl rfl (Nat.le_of_ble_eq_true rfl) (Nat.le_of_ble_eq_true rfl)
theorem pg_142_109 : mm_prog 142 109 = some (0, .aload_n 0, 110, []) := by decide +kernel
theorem xe_142_109 (a1 a2 a3 a4 a5 a6 a7 a8 a9 : Option MV) (x : Int) (st : List MV) (μ : MM) (G : MG) : ev 142 109 [some (vR x), a1, a2, a3, a4, a5, a6, a7, a8, a9] st μ G = ev 142 110 [some (vR x), a1, a2, a3, a4, a5, a6, a7, a8, a9] (vR x :: st) μ G := ev_stp pg_142_109 rfl
theorem pg_142_110 : mm_prog 142 110 = some (0, .iconst 2, 111, []) := by decide +kernel
theorem xe_142_110 (a0 a1 a2 a3 a4 a5 a6 a7 a8 a9 : Option MV) (st : List MV) (μ : MM) (G : MG) : ev 142 110 [a0, a1, a2, a3, a4, a5, a6, a7, a8, a9] st μ G = ev 142 111 [a0, a1, a2, a3, a4, a5, a6, a7, a8, a9] (vI (2) :: st) μ G := ev_stp pg_142_110 rfl
theorem pg_142_111 : mm_prog 142 111 = some (0, .iload 7, 113, []) := by decide +kernel
theorem xe_142_111 (a0 a1 a2 a3 a4 a5 a6 a8 a9 : Option MV) (x : Int) (st : List MV) (μ : MM) (G : MG) : ev 142 111 [a0, a1, a2, a3, a4, a5, a6, some (vI x), a8, a9] st μ G = ev 142 113 [a0, a1, a2, a3, a4, a5, a6, some (vI x), a8, a9] (vI x :: st) μ G := ev_stp pg_142_111 rfl
theorem pg_142_113 : mm_prog 142 113 = some (1, .invokevirtual 385, 116, [1, 143, 2, 10]) := by decide +kernel
theorem xe_142_113 (a0 a1 a2 a3 a4 a5 a6 a7 a8 a9 : Option MV) (x0 x1 z : Int) (μ : MM) (G : MG) : ev 142 113 [a0, a1, a2, a3, a4, a5, a6, a7, a8, a9] (vI x1 :: vI x0 :: vR z :: []) μ G = if gk G z = 10 ∧ 0 < z then (ev 143 0 [some (vR z), some (vI x0), some (vI x1)] [] μ G).bind (fun q => ev 142 116 [a0, a1, a2, a3, a4, a5, a6, a7, a8, a9] (q.1.toList ++ []) q.2.1 q.2.2) else none := ev_calV (as := [vR z, vI x0, vI x1]) (r := []) mx_143 pg_142_113 rfl rfl (Nat.le_of_ble_eq_true rfl) (Nat.le_of_ble_eq_true rfl)
theorem pg_142_116 : mm_prog 142 116 = some (0, .aload_n 0, 117, []) := by decide +kernel
theorem xe_142_116 (a1 a2 a3 a4 a5 a6 a7 a8 a9 : Option MV) (x : Int) (st : List MV) (μ : MM) (G : MG) : ev 142 116 [some (vR x), a1, a2, a3, a4, a5, a6, a7, a8, a9] st μ G = ev 142 117 [some (vR x), a1, a2, a3, a4, a5, a6, a7, a8, a9] (vR x :: st) μ G := ev_stp pg_142_116 rfl
theorem pg_142_117 : mm_prog 142 117 = some (0, .iconst 3, 118, []) := by decide +kernel
theorem xe_142_117 (a0 a1 a2 a3 a4 a5 a6 a7 a8 a9 : Option MV) (st : List MV) (μ : MM) (G : MG) : ev 142 117 [a0, a1, a2, a3, a4, a5, a6, a7, a8, a9] st μ G = ev 142 118 [a0, a1, a2, a3, a4, a5, a6, a7, a8, a9] (vI (3) :: st) μ G := ev_stp pg_142_117 rfl
theorem pg_142_118 : mm_prog 142 118 = some (0, .iload 8, 120, []) := by decide +kernel
theorem xe_142_118 (a0 a1 a2 a3 a4 a5 a6 a7 a9 : Option MV) (x : Int) (st : List MV) (μ : MM) (G : MG) : ev 142 118 [a0, a1, a2, a3, a4, a5, a6, a7, some (vI x), a9] st μ G = ev 142 120 [a0, a1, a2, a3, a4, a5, a6, a7, some (vI x), a9] (vI x :: st) μ G := ev_stp pg_142_118 rfl
theorem pg_142_120 : mm_prog 142 120 = some (1, .invokevirtual 385, 123, [1, 143, 2, 10]) := by decide +kernel
theorem xe_142_120 (a0 a1 a2 a3 a4 a5 a6 a7 a8 a9 : Option MV) (x0 x1 z : Int) (μ : MM) (G : MG) : ev 142 120 [a0, a1, a2, a3, a4, a5, a6, a7, a8, a9] (vI x1 :: vI x0 :: vR z :: []) μ G = if gk G z = 10 ∧ 0 < z then (ev 143 0 [some (vR z), some (vI x0), some (vI x1)] [] μ G).bind (fun q => ev 142 123 [a0, a1, a2, a3, a4, a5, a6, a7, a8, a9] (q.1.toList ++ []) q.2.1 q.2.2) else none := ev_calV (as := [vR z, vI x0, vI x1]) (r := []) mx_143 pg_142_120 rfl rfl (Nat.le_of_ble_eq_true rfl) (Nat.le_of_ble_eq_true rfl)
theorem pg_142_123 : mm_prog 142 123 = some (0, .aload_n 0, 124, []) := by decide +kernel
theorem xe_142_123 (a1 a2 a3 a4 a5 a6 a7 a8 a9 : Option MV) (x : Int) (st : List MV) (μ : MM) (G : MG) : ev 142 123 [some (vR x), a1, a2, a3, a4, a5, a6, a7, a8, a9] st μ G = ev 142 124 [some (vR x), a1, a2, a3, a4, a5, a6, a7, a8, a9] (vR x :: st) μ G := ev_stp pg_142_123 rfl
theorem pg_142_124 : mm_prog 142 124 = some (0, .getfield 85, 127, [10, 12, 2]) := by decide +kernel
theorem xe_142_124 (a0 a1 a2 a3 a4 a5 a6 a7 a8 a9 : Option MV) (x : Int) (st : List MV) (μ : MM) (G : MG) : ev 142 124 [a0, a1, a2, a3, a4, a5, a6, a7, a8, a9] (vR x :: st) μ G = if gk G x = 10 then ev 142 127 [a0, a1, a2, a3, a4, a5, a6, a7, a8, a9] (vR (μ x 12) :: st) μ G else none := ev_if pg_142_124 rfl
theorem pg_142_127 : mm_prog 142 127 = some (0, .aload_n 0, 128, []) := by decide +kernel
theorem xe_142_127 (a1 a2 a3 a4 a5 a6 a7 a8 a9 : Option MV) (x : Int) (st : List MV) (μ : MM) (G : MG) : ev 142 127 [some (vR x), a1, a2, a3, a4, a5, a6, a7, a8, a9] st μ G = ev 142 128 [some (vR x), a1, a2, a3, a4, a5, a6, a7, a8, a9] (vR x :: st) μ G := ev_stp pg_142_127 rfl
theorem pg_142_128 : mm_prog 142 128 = some (0, .getfield 82, 131, [10, 11, 2]) := by decide +kernel
theorem xe_142_128 (a0 a1 a2 a3 a4 a5 a6 a7 a8 a9 : Option MV) (x : Int) (st : List MV) (μ : MM) (G : MG) : ev 142 128 [a0, a1, a2, a3, a4, a5, a6, a7, a8, a9] (vR x :: st) μ G = if gk G x = 10 then ev 142 131 [a0, a1, a2, a3, a4, a5, a6, a7, a8, a9] (vR (μ x 11) :: st) μ G else none := ev_if pg_142_128 rfl
theorem pg_142_131 : mm_prog 142 131 = some (1, .invokevirtual 379, 134, [1, 81, 1, 8]) := by decide +kernel
theorem xe_142_131 (a0 a1 a2 a3 a4 a5 a6 a7 a8 a9 : Option MV) (x0 z : Int) (μ : MM) (G : MG) : ev 142 131 [a0, a1, a2, a3, a4, a5, a6, a7, a8, a9] (vR x0 :: vR z :: []) μ G = if gk G z = 8 ∧ 0 < z then (ev 81 0 [some (vR z), some (vR x0), none] [] μ G).bind (fun q => ev 142 134 [a0, a1, a2, a3, a4, a5, a6, a7, a8, a9] (q.1.toList ++ []) q.2.1 q.2.2) else none := ev_calV (as := [vR z, vR x0]) (r := []) mx_81 pg_142_131 rfl rfl (Nat.le_of_ble_eq_true rfl) (Nat.le_of_ble_eq_true rfl)
theorem pg_142_134 : mm_prog 142 134 = some (0, .istore 9, 136, []) := by decide +kernel
theorem xe_142_134 (a0 a1 a2 a3 a4 a5 a6 a7 a8 a9 : Option MV) (x : Int) (st : List MV) (μ : MM) (G : MG) (h : mm_nL a8 = true) : ev 142 134 [a0, a1, a2, a3, a4, a5, a6, a7, a8, a9] (vI x :: st) μ G = ev 142 136 [a0, a1, a2, a3, a4, a5, a6, a7, a8, some (vI x)] st μ G := ev_st pg_142_134 rfl (mm_nl_of h) (Nat.le_of_ble_eq_true rfl)
theorem pg_142_136 : mm_prog 142 136 = some (0, .iload 9, 138, []) := by decide +kernel
theorem xe_142_136 (a0 a1 a2 a3 a4 a5 a6 a7 a8 : Option MV) (x : Int) (st : List MV) (μ : MM) (G : MG) : ev 142 136 [a0, a1, a2, a3, a4, a5, a6, a7, a8, some (vI x)] st μ G = ev 142 138 [a0, a1, a2, a3, a4, a5, a6, a7, a8, some (vI x)] (vI x :: st) μ G := ev_stp pg_142_136 rfl
theorem pg_142_138 : mm_prog 142 138 = some (0, .iload_n 2, 139, []) := by decide +kernel
theorem xe_142_138 (a0 a1 a3 a4 a5 a6 a7 a8 a9 : Option MV) (x : Int) (st : List MV) (μ : MM) (G : MG) : ev 142 138 [a0, a1, some (vI x), a3, a4, a5, a6, a7, a8, a9] st μ G = ev 142 139 [a0, a1, some (vI x), a3, a4, a5, a6, a7, a8, a9] (vI x :: st) μ G := ev_stp pg_142_138 rfl
theorem pg_142_139 : mm_prog 142 139 = some (0, .if_icmp .le 28, 142, []) := by decide +kernel
theorem xe_142_139 (a0 a1 a2 a3 a4 a5 a6 a7 a8 a9 : Option MV) (x y : Int) (st : List MV) (μ : MM) (G : MG) : ev 142 139 [a0, a1, a2, a3, a4, a5, a6, a7, a8, a9] (vI y :: vI x :: st) μ G = if x ≤ y then ev 142 167 [a0, a1, a2, a3, a4, a5, a6, a7, a8, a9] st μ G else ev 142 142 [a0, a1, a2, a3, a4, a5, a6, a7, a8, a9] st μ G := ev_br (mm_cnd_le x y) pg_142_139 rfl
theorem pg_142_142 : mm_prog 142 142 = some (0, .iload 9, 144, []) := by decide +kernel
theorem xe_142_142 (a0 a1 a2 a3 a4 a5 a6 a7 a8 : Option MV) (x : Int) (st : List MV) (μ : MM) (G : MG) : ev 142 142 [a0, a1, a2, a3, a4, a5, a6, a7, a8, some (vI x)] st μ G = ev 142 144 [a0, a1, a2, a3, a4, a5, a6, a7, a8, some (vI x)] (vI x :: st) μ G := ev_stp pg_142_142 rfl
theorem pg_142_144 : mm_prog 142 144 = some (0, .istore_n 2, 145, []) := by decide +kernel
theorem xe_142_144 (a0 a1 a2 a3 a4 a5 a6 a7 a8 a9 : Option MV) (x : Int) (st : List MV) (μ : MM) (G : MG) (h : mm_nL a1 = true) : ev 142 144 [a0, a1, a2, a3, a4, a5, a6, a7, a8, a9] (vI x :: st) μ G = ev 142 145 [a0, a1, some (vI x), a3, a4, a5, a6, a7, a8, a9] st μ G := ev_st pg_142_144 rfl (mm_nl_of h) (Nat.le_of_ble_eq_true rfl)
theorem pg_142_145 : mm_prog 142 145 = some (0, .sipush 1000, 148, []) := by decide +kernel
theorem xe_142_145 (a0 a1 a2 a3 a4 a5 a6 a7 a8 a9 : Option MV) (st : List MV) (μ : MM) (G : MG) : ev 142 145 [a0, a1, a2, a3, a4, a5, a6, a7, a8, a9] st μ G = ev 142 148 [a0, a1, a2, a3, a4, a5, a6, a7, a8, a9] (vI (1000) :: st) μ G := ev_stp pg_142_145 rfl
theorem pg_142_148 : mm_prog 142 148 = some (0, .iload 5, 150, []) := by decide +kernel
theorem xe_142_148 (a0 a1 a2 a3 a4 a6 a7 a8 a9 : Option MV) (x : Int) (st : List MV) (μ : MM) (G : MG) : ev 142 148 [a0, a1, a2, a3, a4, some (vI x), a6, a7, a8, a9] st μ G = ev 142 150 [a0, a1, a2, a3, a4, some (vI x), a6, a7, a8, a9] (vI x :: st) μ G := ev_stp pg_142_148 rfl
theorem pg_142_150 : mm_prog 142 150 = some (0, .imul, 151, []) := by decide +kernel
theorem xe_142_150 (a0 a1 a2 a3 a4 a5 a6 a7 a8 a9 : Option MV) (x y : Int) (st : List MV) (μ : MM) (G : MG) : ev 142 150 [a0, a1, a2, a3, a4, a5, a6, a7, a8, a9] (vI y :: vI x :: st) μ G = ev 142 151 [a0, a1, a2, a3, a4, a5, a6, a7, a8, a9] (vI (w32 (x * y)) :: st) μ G := ev_stp pg_142_150 rfl
theorem pg_142_151 : mm_prog 142 151 = some (0, .bipush 100, 153, []) := by decide +kernel
theorem xe_142_151 (a0 a1 a2 a3 a4 a5 a6 a7 a8 a9 : Option MV) (st : List MV) (μ : MM) (G : MG) : ev 142 151 [a0, a1, a2, a3, a4, a5, a6, a7, a8, a9] st μ G = ev 142 153 [a0, a1, a2, a3, a4, a5, a6, a7, a8, a9] (vI (100) :: st) μ G := ev_stp pg_142_151 rfl
theorem pg_142_153 : mm_prog 142 153 = some (0, .iload 6, 155, []) := by decide +kernel
theorem xe_142_153 (a0 a1 a2 a3 a4 a5 a7 a8 a9 : Option MV) (x : Int) (st : List MV) (μ : MM) (G : MG) : ev 142 153 [a0, a1, a2, a3, a4, a5, some (vI x), a7, a8, a9] st μ G = ev 142 155 [a0, a1, a2, a3, a4, a5, some (vI x), a7, a8, a9] (vI x :: st) μ G := ev_stp pg_142_153 rfl
theorem pg_142_155 : mm_prog 142 155 = some (0, .imul, 156, []) := by decide +kernel
theorem xe_142_155 (a0 a1 a2 a3 a4 a5 a6 a7 a8 a9 : Option MV) (x y : Int) (st : List MV) (μ : MM) (G : MG) : ev 142 155 [a0, a1, a2, a3, a4, a5, a6, a7, a8, a9] (vI y :: vI x :: st) μ G = ev 142 156 [a0, a1, a2, a3, a4, a5, a6, a7, a8, a9] (vI (w32 (x * y)) :: st) μ G := ev_stp pg_142_155 rfl
theorem pg_142_156 : mm_prog 142 156 = some (0, .iadd, 157, []) := by decide +kernel
theorem xe_142_156 (a0 a1 a2 a3 a4 a5 a6 a7 a8 a9 : Option MV) (x y : Int) (st : List MV) (μ : MM) (G : MG) : ev 142 156 [a0, a1, a2, a3, a4, a5, a6, a7, a8, a9] (vI y :: vI x :: st) μ G = ev 142 157 [a0, a1, a2, a3, a4, a5, a6, a7, a8, a9] (vI (w32 (x + y)) :: st) μ G := ev_stp pg_142_156 rfl
theorem pg_142_157 : mm_prog 142 157 = some (0, .bipush 10, 159, []) := by decide +kernel
theorem xe_142_157 (a0 a1 a2 a3 a4 a5 a6 a7 a8 a9 : Option MV) (st : List MV) (μ : MM) (G : MG) : ev 142 157 [a0, a1, a2, a3, a4, a5, a6, a7, a8, a9] st μ G = ev 142 159 [a0, a1, a2, a3, a4, a5, a6, a7, a8, a9] (vI (10) :: st) μ G := ev_stp pg_142_157 rfl
theorem pg_142_159 : mm_prog 142 159 = some (0, .iload 7, 161, []) := by decide +kernel
theorem xe_142_159 (a0 a1 a2 a3 a4 a5 a6 a8 a9 : Option MV) (x : Int) (st : List MV) (μ : MM) (G : MG) : ev 142 159 [a0, a1, a2, a3, a4, a5, a6, some (vI x), a8, a9] st μ G = ev 142 161 [a0, a1, a2, a3, a4, a5, a6, some (vI x), a8, a9] (vI x :: st) μ G := ev_stp pg_142_159 rfl
theorem pg_142_161 : mm_prog 142 161 = some (0, .imul, 162, []) := by decide +kernel
theorem xe_142_161 (a0 a1 a2 a3 a4 a5 a6 a7 a8 a9 : Option MV) (x y : Int) (st : List MV) (μ : MM) (G : MG) : ev 142 161 [a0, a1, a2, a3, a4, a5, a6, a7, a8, a9] (vI y :: vI x :: st) μ G = ev 142 162 [a0, a1, a2, a3, a4, a5, a6, a7, a8, a9] (vI (w32 (x * y)) :: st) μ G := ev_stp pg_142_161 rfl
theorem pg_142_162 : mm_prog 142 162 = some (0, .iadd, 163, []) := by decide +kernel
theorem xe_142_162 (a0 a1 a2 a3 a4 a5 a6 a7 a8 a9 : Option MV) (x y : Int) (st : List MV) (μ : MM) (G : MG) : ev 142 162 [a0, a1, a2, a3, a4, a5, a6, a7, a8, a9] (vI y :: vI x :: st) μ G = ev 142 163 [a0, a1, a2, a3, a4, a5, a6, a7, a8, a9] (vI (w32 (x + y)) :: st) μ G := ev_stp pg_142_162 rfl
theorem pg_142_163 : mm_prog 142 163 = some (0, .iload 8, 165, []) := by decide +kernel
theorem xe_142_163 (a0 a1 a2 a3 a4 a5 a6 a7 a9 : Option MV) (x : Int) (st : List MV) (μ : MM) (G : MG) : ev 142 163 [a0, a1, a2, a3, a4, a5, a6, a7, some (vI x), a9] st μ G = ev 142 165 [a0, a1, a2, a3, a4, a5, a6, a7, some (vI x), a9] (vI x :: st) μ G := ev_stp pg_142_163 rfl
theorem pg_142_165 : mm_prog 142 165 = some (0, .iadd, 166, []) := by decide +kernel
theorem xe_142_165 (a0 a1 a2 a3 a4 a5 a6 a7 a8 a9 : Option MV) (x y : Int) (st : List MV) (μ : MM) (G : MG) : ev 142 165 [a0, a1, a2, a3, a4, a5, a6, a7, a8, a9] (vI y :: vI x :: st) μ G = ev 142 166 [a0, a1, a2, a3, a4, a5, a6, a7, a8, a9] (vI (w32 (x + y)) :: st) μ G := ev_stp pg_142_165 rfl
theorem pg_142_166 : mm_prog 142 166 = some (0, .istore_n 3, 167, []) := by decide +kernel
theorem xe_142_166 (a0 a1 a2 a3 a4 a5 a6 a7 a8 a9 : Option MV) (x : Int) (st : List MV) (μ : MM) (G : MG) (h : mm_nL a2 = true) : ev 142 166 [a0, a1, a2, a3, a4, a5, a6, a7, a8, a9] (vI x :: st) μ G = ev 142 167 [a0, a1, a2, some (vI x), a4, a5, a6, a7, a8, a9] st μ G := ev_st pg_142_166 rfl (mm_nl_of h) (Nat.le_of_ble_eq_true rfl)
theorem pg_142_167 : mm_prog 142 167 = some (0, .iinc 4 1, 170, []) := by decide +kernel
theorem xe_142_167 (a0 a1 a2 a3 a5 a6 a7 a8 a9 : Option MV) (x : Int) (st : List MV) (μ : MM) (G : MG) (h : mm_nL a3 = true) : ev 142 167 [a0, a1, a2, a3, some (vI x), a5, a6, a7, a8, a9] st μ G = ev 142 170 [a0, a1, a2, a3, some (vI (w32 (x + (1)))), a5, a6, a7, a8, a9] st μ G := ev_st pg_142_167 rfl (mm_nl_of h) (Nat.le_of_ble_eq_true rfl)
theorem pg_142_170 : mm_prog 142 170 = some (0, .goto (-140), 173, []) := by decide +kernel
theorem xe_142_170 (a0 a1 a2 a3 a4 a5 a6 a7 a8 a9 : Option MV) (st : List MV) (μ : MM) (G : MG) : ev 142 170 [a0, a1, a2, a3, a4, a5, a6, a7, a8, a9] st μ G = ev 142 30 [a0, a1, a2, a3, a4, a5, a6, a7, a8, a9] st μ G := ev_stp pg_142_170 rfl
theorem pg_142_173 : mm_prog 142 173 = some (0, .iload_n 1, 174, []) := by decide +kernel
theorem xe_142_173 (a0 a2 a3 a4 a5 a6 a7 a8 a9 : Option MV) (x : Int) (st : List MV) (μ : MM) (G : MG) : ev 142 173 [a0, some (vI x), a2, a3, a4, a5, a6, a7, a8, a9] st μ G = ev 142 174 [a0, some (vI x), a2, a3, a4, a5, a6, a7, a8, a9] (vI x :: st) μ G := ev_stp pg_142_173 rfl
theorem pg_142_174 : mm_prog 142 174 = some (0, .ifCond .ne 7, 177, []) := by decide +kernel
theorem xe_142_174 (a0 a1 a2 a3 a4 a5 a6 a7 a8 a9 : Option MV) (x : Int) (st : List MV) (μ : MM) (G : MG) : ev 142 174 [a0, a1, a2, a3, a4, a5, a6, a7, a8, a9] (vI x :: st) μ G = if ¬ x = 0 then ev 142 181 [a0, a1, a2, a3, a4, a5, a6, a7, a8, a9] st μ G else ev 142 177 [a0, a1, a2, a3, a4, a5, a6, a7, a8, a9] st μ G := ev_br (mm_cnd_ne x 0) pg_142_174 rfl
theorem pg_142_177 : mm_prog 142 177 = some (0, .iload_n 2, 178, []) := by decide +kernel
theorem xe_142_177 (a0 a1 a3 a4 a5 a6 a7 a8 a9 : Option MV) (x : Int) (st : List MV) (μ : MM) (G : MG) : ev 142 177 [a0, a1, some (vI x), a3, a4, a5, a6, a7, a8, a9] st μ G = ev 142 178 [a0, a1, some (vI x), a3, a4, a5, a6, a7, a8, a9] (vI x :: st) μ G := ev_stp pg_142_177 rfl
theorem pg_142_178 : mm_prog 142 178 = some (0, .goto 4, 181, []) := by decide +kernel
theorem xe_142_178 (a0 a1 a2 a3 a4 a5 a6 a7 a8 a9 : Option MV) (st : List MV) (μ : MM) (G : MG) : ev 142 178 [a0, a1, a2, a3, a4, a5, a6, a7, a8, a9] st μ G = ev 142 182 [a0, a1, a2, a3, a4, a5, a6, a7, a8, a9] st μ G := ev_stp pg_142_178 rfl
theorem pg_142_181 : mm_prog 142 181 = some (0, .iload_n 3, 182, []) := by decide +kernel
theorem xe_142_181 (a0 a1 a2 a4 a5 a6 a7 a8 a9 : Option MV) (x : Int) (st : List MV) (μ : MM) (G : MG) : ev 142 181 [a0, a1, a2, some (vI x), a4, a5, a6, a7, a8, a9] st μ G = ev 142 182 [a0, a1, a2, some (vI x), a4, a5, a6, a7, a8, a9] (vI x :: st) μ G := ev_stp pg_142_181 rfl
theorem pg_142_182 : mm_prog 142 182 = some (2, .ireturn, 183, [0]) := by decide +kernel
theorem xe_142_182 (a0 a1 a2 a3 a4 a5 a6 a7 a8 a9 : Option MV) (x : Int) (μ : MM) (G : MG) : ev 142 182 [a0, a1, a2, a3, a4, a5, a6, a7, a8, a9] [vI x] μ G = some (some (vI x), μ, G) := ev_ret pg_142_182 rfl
-- X10_layLane
theorem pg_143_0 : mm_prog 143 0 = some (0, .iload_n 1, 1, []) := by decide +kernel
theorem xe_143_0 (a0 a2 : Option MV) (x : Int) (st : List MV) (μ : MM) (G : MG) : ev 143 0 [a0, some (vI x), a2] st μ G = ev 143 1 [a0, some (vI x), a2] (vI x :: st) μ G := ev_stp pg_143_0 rfl
theorem pg_143_1 : mm_prog 143 1 = some (1, .invokestatic 290, 4, [0, 137, 1, 0]) := by decide +kernel
theorem xe_143_1 (a0 a1 a2 : Option MV) (x0 : Int) (μ : MM) (G : MG) : ev 143 1 [a0, a1, a2] (vI x0 :: []) μ G = (ev 137 0 [some (vI x0)] [] μ G).bind (fun q => ev 143 4 [a0, a1, a2] (q.1.toList ++ []) q.2.1 q.2.2) := ev_calS (as := [vI x0]) (r := []) mx_137 pg_143_1 rfl rfl (Nat.le_of_ble_eq_true rfl) (Nat.le_of_ble_eq_true rfl)
theorem pg_143_4 : mm_prog 143 4 = some (0, .ifCond .eq 46, 7, []) := by decide +kernel
theorem xe_143_4 (a0 a1 a2 : Option MV) (x : Int) (st : List MV) (μ : MM) (G : MG) : ev 143 4 [a0, a1, a2] (vI x :: st) μ G = if x = 0 then ev 143 50 [a0, a1, a2] st μ G else ev 143 7 [a0, a1, a2] st μ G := ev_br (mm_cnd_eq x 0) pg_143_4 rfl
theorem pg_143_7 : mm_prog 143 7 = some (0, .iload_n 2, 8, []) := by decide +kernel
theorem xe_143_7 (a0 a1 : Option MV) (x : Int) (st : List MV) (μ : MM) (G : MG) : ev 143 7 [a0, a1, some (vI x)] st μ G = ev 143 8 [a0, a1, some (vI x)] (vI x :: st) μ G := ev_stp pg_143_7 rfl
theorem pg_143_8 : mm_prog 143 8 = some (1, .invokestatic 290, 11, [0, 137, 1, 0]) := by decide +kernel
theorem xe_143_8 (a0 a1 a2 : Option MV) (x0 : Int) (μ : MM) (G : MG) : ev 143 8 [a0, a1, a2] (vI x0 :: []) μ G = (ev 137 0 [some (vI x0)] [] μ G).bind (fun q => ev 143 11 [a0, a1, a2] (q.1.toList ++ []) q.2.1 q.2.2) := ev_calS (as := [vI x0]) (r := []) mx_137 pg_143_8 rfl rfl (Nat.le_of_ble_eq_true rfl) (Nat.le_of_ble_eq_true rfl)
theorem pg_143_11 : mm_prog 143 11 = some (0, .ifCond .eq 39, 14, []) := by decide +kernel
theorem xe_143_11 (a0 a1 a2 : Option MV) (x : Int) (st : List MV) (μ : MM) (G : MG) : ev 143 11 [a0, a1, a2] (vI x :: st) μ G = if x = 0 then ev 143 50 [a0, a1, a2] st μ G else ev 143 14 [a0, a1, a2] st μ G := ev_br (mm_cnd_eq x 0) pg_143_11 rfl
theorem pg_143_14 : mm_prog 143 14 = some (0, .aload_n 0, 15, []) := by decide +kernel
theorem xe_143_14 (a1 a2 : Option MV) (x : Int) (st : List MV) (μ : MM) (G : MG) : ev 143 14 [some (vR x), a1, a2] st μ G = ev 143 15 [some (vR x), a1, a2] (vR x :: st) μ G := ev_stp pg_143_14 rfl
theorem pg_143_15 : mm_prog 143 15 = some (0, .getfield 82, 18, [10, 11, 2]) := by decide +kernel
theorem xe_143_15 (a0 a1 a2 : Option MV) (x : Int) (st : List MV) (μ : MM) (G : MG) : ev 143 15 [a0, a1, a2] (vR x :: st) μ G = if gk G x = 10 then ev 143 18 [a0, a1, a2] (vR (μ x 11) :: st) μ G else none := ev_if pg_143_15 rfl
theorem pg_143_18 : mm_prog 143 18 = some (0, .getfield 293, 21, [9, 0, 2]) := by decide +kernel
theorem xe_143_18 (a0 a1 a2 : Option MV) (x : Int) (st : List MV) (μ : MM) (G : MG) : ev 143 18 [a0, a1, a2] (vR x :: st) μ G = if gk G x = 9 then ev 143 21 [a0, a1, a2] (vR (μ x 0) :: st) μ G else none := ev_if pg_143_18 rfl
theorem pg_143_21 : mm_prog 143 21 = some (0, .iload_n 1, 22, []) := by decide +kernel
theorem xe_143_21 (a0 a2 : Option MV) (x : Int) (st : List MV) (μ : MM) (G : MG) : ev 143 21 [a0, some (vI x), a2] st μ G = ev 143 22 [a0, some (vI x), a2] (vI x :: st) μ G := ev_stp pg_143_21 rfl
theorem pg_143_22 : mm_prog 143 22 = some (0, .aload_n 0, 23, []) := by decide +kernel
theorem xe_143_22 (a1 a2 : Option MV) (x : Int) (st : List MV) (μ : MM) (G : MG) : ev 143 22 [some (vR x), a1, a2] st μ G = ev 143 23 [some (vR x), a1, a2] (vR x :: st) μ G := ev_stp pg_143_22 rfl
theorem pg_143_23 : mm_prog 143 23 = some (0, .getfield 64, 26, [10, 8, 2]) := by decide +kernel
theorem xe_143_23 (a0 a1 a2 : Option MV) (x : Int) (st : List MV) (μ : MM) (G : MG) : ev 143 23 [a0, a1, a2] (vR x :: st) μ G = if gk G x = 10 then ev 143 26 [a0, a1, a2] (vR (μ x 8) :: st) μ G else none := ev_if pg_143_23 rfl
theorem pg_143_26 : mm_prog 143 26 = some (0, .getfield 293, 29, [9, 0, 2]) := by decide +kernel
theorem xe_143_26 (a0 a1 a2 : Option MV) (x : Int) (st : List MV) (μ : MM) (G : MG) : ev 143 26 [a0, a1, a2] (vR x :: st) μ G = if gk G x = 9 then ev 143 29 [a0, a1, a2] (vR (μ x 0) :: st) μ G else none := ev_if pg_143_26 rfl
theorem pg_143_29 : mm_prog 143 29 = some (0, .iload_n 2, 30, []) := by decide +kernel
theorem xe_143_29 (a0 a1 : Option MV) (x : Int) (st : List MV) (μ : MM) (G : MG) : ev 143 29 [a0, a1, some (vI x)] st μ G = ev 143 30 [a0, a1, some (vI x)] (vI x :: st) μ G := ev_stp pg_143_29 rfl
theorem pg_143_30 : mm_prog 143 30 = some (0, .iaload, 31, []) := by decide +kernel
theorem xe_143_30 (a0 a1 a2 : Option MV) (x y : Int) (st : List MV) (μ : MM) (G : MG) : ev 143 30 [a0, a1, a2] (vI x :: vR y :: st) μ G = if gk G y = 100 ∧ 0 ≤ x ∧ x < gl G y then ev 143 31 [a0, a1, a2] (vI (μ y x) :: st) μ G else none := ev_if pg_143_30 rfl
theorem pg_143_31 : mm_prog 143 31 = some (0, .iastore, 32, []) := by decide +kernel
theorem xe_143_31 (a0 a1 a2 : Option MV) (x y z : Int) (st : List MV) (μ : MM) (G : MG) : ev 143 31 [a0, a1, a2] (vI x :: vI y :: vR z :: st) μ G = if gk G z = 100 ∧ 0 ≤ y ∧ y < gl G z ∧ 10 ≤ z then ev 143 32 [a0, a1, a2] st (mset μ z y x) G else none := ev_if pg_143_31 rfl
theorem pg_143_32 : mm_prog 143 32 = some (0, .aload_n 0, 33, []) := by decide +kernel
theorem xe_143_32 (a1 a2 : Option MV) (x : Int) (st : List MV) (μ : MM) (G : MG) : ev 143 32 [some (vR x), a1, a2] st μ G = ev 143 33 [some (vR x), a1, a2] (vR x :: st) μ G := ev_stp pg_143_32 rfl
theorem pg_143_33 : mm_prog 143 33 = some (0, .getfield 82, 36, [10, 11, 2]) := by decide +kernel
theorem xe_143_33 (a0 a1 a2 : Option MV) (x : Int) (st : List MV) (μ : MM) (G : MG) : ev 143 33 [a0, a1, a2] (vR x :: st) μ G = if gk G x = 10 then ev 143 36 [a0, a1, a2] (vR (μ x 11) :: st) μ G else none := ev_if pg_143_33 rfl
theorem pg_143_36 : mm_prog 143 36 = some (0, .getfield 296, 39, [9, 1, 2]) := by decide +kernel
theorem xe_143_36 (a0 a1 a2 : Option MV) (x : Int) (st : List MV) (μ : MM) (G : MG) : ev 143 36 [a0, a1, a2] (vR x :: st) μ G = if gk G x = 9 then ev 143 39 [a0, a1, a2] (vR (μ x 1) :: st) μ G else none := ev_if pg_143_36 rfl
theorem pg_143_39 : mm_prog 143 39 = some (0, .iload_n 1, 40, []) := by decide +kernel
theorem xe_143_39 (a0 a2 : Option MV) (x : Int) (st : List MV) (μ : MM) (G : MG) : ev 143 39 [a0, some (vI x), a2] st μ G = ev 143 40 [a0, some (vI x), a2] (vI x :: st) μ G := ev_stp pg_143_39 rfl
theorem pg_143_40 : mm_prog 143 40 = some (0, .aload_n 0, 41, []) := by decide +kernel
theorem xe_143_40 (a1 a2 : Option MV) (x : Int) (st : List MV) (μ : MM) (G : MG) : ev 143 40 [some (vR x), a1, a2] st μ G = ev 143 41 [some (vR x), a1, a2] (vR x :: st) μ G := ev_stp pg_143_40 rfl
theorem pg_143_41 : mm_prog 143 41 = some (0, .getfield 64, 44, [10, 8, 2]) := by decide +kernel
theorem xe_143_41 (a0 a1 a2 : Option MV) (x : Int) (st : List MV) (μ : MM) (G : MG) : ev 143 41 [a0, a1, a2] (vR x :: st) μ G = if gk G x = 10 then ev 143 44 [a0, a1, a2] (vR (μ x 8) :: st) μ G else none := ev_if pg_143_41 rfl
theorem pg_143_44 : mm_prog 143 44 = some (0, .getfield 296, 47, [9, 1, 2]) := by decide +kernel
theorem xe_143_44 (a0 a1 a2 : Option MV) (x : Int) (st : List MV) (μ : MM) (G : MG) : ev 143 44 [a0, a1, a2] (vR x :: st) μ G = if gk G x = 9 then ev 143 47 [a0, a1, a2] (vR (μ x 1) :: st) μ G else none := ev_if pg_143_44 rfl
theorem pg_143_47 : mm_prog 143 47 = some (0, .iload_n 2, 48, []) := by decide +kernel
theorem xe_143_47 (a0 a1 : Option MV) (x : Int) (st : List MV) (μ : MM) (G : MG) : ev 143 47 [a0, a1, some (vI x)] st μ G = ev 143 48 [a0, a1, some (vI x)] (vI x :: st) μ G := ev_stp pg_143_47 rfl
theorem pg_143_48 : mm_prog 143 48 = some (0, .iaload, 49, []) := by decide +kernel
theorem xe_143_48 (a0 a1 a2 : Option MV) (x y : Int) (st : List MV) (μ : MM) (G : MG) : ev 143 48 [a0, a1, a2] (vI x :: vR y :: st) μ G = if gk G y = 100 ∧ 0 ≤ x ∧ x < gl G y then ev 143 49 [a0, a1, a2] (vI (μ y x) :: st) μ G else none := ev_if pg_143_48 rfl
theorem pg_143_49 : mm_prog 143 49 = some (0, .iastore, 50, []) := by decide +kernel
theorem xe_143_49 (a0 a1 a2 : Option MV) (x y z : Int) (st : List MV) (μ : MM) (G : MG) : ev 143 49 [a0, a1, a2] (vI x :: vI y :: vR z :: st) μ G = if gk G z = 100 ∧ 0 ≤ y ∧ y < gl G z ∧ 10 ≤ z then ev 143 50 [a0, a1, a2] st (mset μ z y x) G else none := ev_if pg_143_49 rfl
theorem pg_143_50 : mm_prog 143 50 = some (2, .return_, 51, []) := by decide +kernel
theorem xe_143_50 (a0 a1 a2 : Option MV) (μ : MM) (G : MG) : ev 143 50 [a0, a1, a2] [] μ G = some (none, μ, G) := ev_ret pg_143_50 rfl
-- X10_enough
theorem pg_144_0 : mm_prog 144 0 = some (0, .aload_n 0, 1, []) := by decide +kernel
theorem xe_144_0 (a1 a2 : Option MV) (x : Int) (st : List MV) (μ : MM) (G : MG) : ev 144 0 [some (vR x), a1, a2] st μ G = ev 144 1 [some (vR x), a1, a2] (vR x :: st) μ G := ev_stp pg_144_0 rfl
theorem pg_144_1 : mm_prog 144 1 = some (0, .getfield 85, 4, [10, 12, 2]) := by decide +kernel
theorem xe_144_1 (a0 a1 a2 : Option MV) (x : Int) (st : List MV) (μ : MM) (G : MG) : ev 144 1 [a0, a1, a2] (vR x :: st) μ G = if gk G x = 10 then ev 144 4 [a0, a1, a2] (vR (μ x 12) :: st) μ G else none := ev_if pg_144_1 rfl
theorem pg_144_4 : mm_prog 144 4 = some (0, .aload_n 0, 5, []) := by decide +kernel
theorem xe_144_4 (a1 a2 : Option MV) (x : Int) (st : List MV) (μ : MM) (G : MG) : ev 144 4 [some (vR x), a1, a2] st μ G = ev 144 5 [some (vR x), a1, a2] (vR x :: st) μ G := ev_stp pg_144_4 rfl
theorem pg_144_5 : mm_prog 144 5 = some (0, .getfield 64, 8, [10, 8, 2]) := by decide +kernel
theorem xe_144_5 (a0 a1 a2 : Option MV) (x : Int) (st : List MV) (μ : MM) (G : MG) : ev 144 5 [a0, a1, a2] (vR x :: st) μ G = if gk G x = 10 then ev 144 8 [a0, a1, a2] (vR (μ x 8) :: st) μ G else none := ev_if pg_144_5 rfl
theorem pg_144_8 : mm_prog 144 8 = some (1, .invokevirtual 379, 11, [1, 81, 1, 8]) := by decide +kernel
theorem xe_144_8 (a0 a1 a2 : Option MV) (x0 z : Int) (μ : MM) (G : MG) : ev 144 8 [a0, a1, a2] (vR x0 :: vR z :: []) μ G = if gk G z = 8 ∧ 0 < z then (ev 81 0 [some (vR z), some (vR x0), none] [] μ G).bind (fun q => ev 144 11 [a0, a1, a2] (q.1.toList ++ []) q.2.1 q.2.2) else none := ev_calV (as := [vR z, vR x0]) (r := []) mx_81 pg_144_8 rfl rfl (Nat.le_of_ble_eq_true rfl) (Nat.le_of_ble_eq_true rfl)
theorem pg_144_11 : mm_prog 144 11 = some (0, .istore_n 1, 12, []) := by decide +kernel
theorem xe_144_11 (a0 a1 a2 : Option MV) (x : Int) (st : List MV) (μ : MM) (G : MG) (h : mm_nL a0 = true) : ev 144 11 [a0, a1, a2] (vI x :: st) μ G = ev 144 12 [a0, some (vI x), a2] st μ G := ev_st pg_144_11 rfl (mm_nl_of h) (Nat.le_of_ble_eq_true rfl)
theorem pg_144_12 : mm_prog 144 12 = some (0, .aload_n 0, 13, []) := by decide +kernel
theorem xe_144_12 (a1 a2 : Option MV) (x : Int) (st : List MV) (μ : MM) (G : MG) : ev 144 12 [some (vR x), a1, a2] st μ G = ev 144 13 [some (vR x), a1, a2] (vR x :: st) μ G := ev_stp pg_144_12 rfl
theorem pg_144_13 : mm_prog 144 13 = some (0, .getfield 82, 16, [10, 11, 2]) := by decide +kernel
theorem xe_144_13 (a0 a1 a2 : Option MV) (x : Int) (st : List MV) (μ : MM) (G : MG) : ev 144 13 [a0, a1, a2] (vR x :: st) μ G = if gk G x = 10 then ev 144 16 [a0, a1, a2] (vR (μ x 11) :: st) μ G else none := ev_if pg_144_13 rfl
theorem pg_144_16 : mm_prog 144 16 = some (0, .aload_n 0, 17, []) := by decide +kernel
theorem xe_144_16 (a1 a2 : Option MV) (x : Int) (st : List MV) (μ : MM) (G : MG) : ev 144 16 [some (vR x), a1, a2] st μ G = ev 144 17 [some (vR x), a1, a2] (vR x :: st) μ G := ev_stp pg_144_16 rfl
theorem pg_144_17 : mm_prog 144 17 = some (0, .getfield 64, 20, [10, 8, 2]) := by decide +kernel
theorem xe_144_17 (a0 a1 a2 : Option MV) (x : Int) (st : List MV) (μ : MM) (G : MG) : ev 144 17 [a0, a1, a2] (vR x :: st) μ G = if gk G x = 10 then ev 144 20 [a0, a1, a2] (vR (μ x 8) :: st) μ G else none := ev_if pg_144_17 rfl
theorem pg_144_20 : mm_prog 144 20 = some (1, .invokevirtual 382, 23, [1, 97, 1, 9]) := by decide +kernel
theorem xe_144_20 (a0 a1 a2 : Option MV) (x0 z : Int) (μ : MM) (G : MG) : ev 144 20 [a0, a1, a2] (vR x0 :: vR z :: []) μ G = if gk G z = 9 ∧ 0 < z then (ev 97 0 [some (vR z), some (vR x0)] [] μ G).bind (fun q => ev 144 23 [a0, a1, a2] (q.1.toList ++ []) q.2.1 q.2.2) else none := ev_calV (as := [vR z, vR x0]) (r := []) mx_97 pg_144_20 rfl rfl (Nat.le_of_ble_eq_true rfl) (Nat.le_of_ble_eq_true rfl)
theorem pg_144_23 : mm_prog 144 23 = some (0, .iconst 0, 24, []) := by decide +kernel
theorem xe_144_23 (a0 a1 a2 : Option MV) (st : List MV) (μ : MM) (G : MG) : ev 144 23 [a0, a1, a2] st μ G = ev 144 24 [a0, a1, a2] (vI (0) :: st) μ G := ev_stp pg_144_23 rfl
theorem pg_144_24 : mm_prog 144 24 = some (0, .istore_n 2, 25, []) := by decide +kernel
theorem xe_144_24 (a0 a1 a2 : Option MV) (x : Int) (st : List MV) (μ : MM) (G : MG) (h : mm_nL a1 = true) : ev 144 24 [a0, a1, a2] (vI x :: st) μ G = ev 144 25 [a0, a1, some (vI x)] st μ G := ev_st pg_144_24 rfl (mm_nl_of h) (Nat.le_of_ble_eq_true rfl)
theorem pg_144_25 : mm_prog 144 25 = some (0, .iload_n 2, 26, []) := by decide +kernel
theorem xe_144_25 (a0 a1 : Option MV) (x : Int) (st : List MV) (μ : MM) (G : MG) : ev 144 25 [a0, a1, some (vI x)] st μ G = ev 144 26 [a0, a1, some (vI x)] (vI x :: st) μ G := ev_stp pg_144_25 rfl
theorem pg_144_26 : mm_prog 144 26 = some (0, .aload_n 0, 27, []) := by decide +kernel
theorem xe_144_26 (a1 a2 : Option MV) (x : Int) (st : List MV) (μ : MM) (G : MG) : ev 144 26 [some (vR x), a1, a2] st μ G = ev 144 27 [some (vR x), a1, a2] (vR x :: st) μ G := ev_stp pg_144_26 rfl
theorem pg_144_27 : mm_prog 144 27 = some (0, .getfield 64, 30, [10, 8, 2]) := by decide +kernel
theorem xe_144_27 (a0 a1 a2 : Option MV) (x : Int) (st : List MV) (μ : MM) (G : MG) : ev 144 27 [a0, a1, a2] (vR x :: st) μ G = if gk G x = 10 then ev 144 30 [a0, a1, a2] (vR (μ x 8) :: st) μ G else none := ev_if pg_144_27 rfl
theorem pg_144_30 : mm_prog 144 30 = some (0, .getfield 305, 33, [9, 3, 0]) := by decide +kernel
theorem xe_144_30 (a0 a1 a2 : Option MV) (x : Int) (st : List MV) (μ : MM) (G : MG) : ev 144 30 [a0, a1, a2] (vR x :: st) μ G = if gk G x = 9 then ev 144 33 [a0, a1, a2] (vI (μ x 3) :: st) μ G else none := ev_if pg_144_30 rfl
theorem pg_144_33 : mm_prog 144 33 = some (0, .if_icmp .ge 34, 36, []) := by decide +kernel
theorem xe_144_33 (a0 a1 a2 : Option MV) (x y : Int) (st : List MV) (μ : MM) (G : MG) : ev 144 33 [a0, a1, a2] (vI y :: vI x :: st) μ G = if y ≤ x then ev 144 67 [a0, a1, a2] st μ G else ev 144 36 [a0, a1, a2] st μ G := ev_br (mm_cnd_ge x y) pg_144_33 rfl
theorem pg_144_36 : mm_prog 144 36 = some (0, .aload_n 0, 37, []) := by decide +kernel
theorem xe_144_36 (a1 a2 : Option MV) (x : Int) (st : List MV) (μ : MM) (G : MG) : ev 144 36 [some (vR x), a1, a2] st μ G = ev 144 37 [some (vR x), a1, a2] (vR x :: st) μ G := ev_stp pg_144_36 rfl
theorem pg_144_37 : mm_prog 144 37 = some (0, .getfield 82, 40, [10, 11, 2]) := by decide +kernel
theorem xe_144_37 (a0 a1 a2 : Option MV) (x : Int) (st : List MV) (μ : MM) (G : MG) : ev 144 37 [a0, a1, a2] (vR x :: st) μ G = if gk G x = 10 then ev 144 40 [a0, a1, a2] (vR (μ x 11) :: st) μ G else none := ev_if pg_144_37 rfl
theorem pg_144_40 : mm_prog 144 40 = some (0, .iload_n 2, 41, []) := by decide +kernel
theorem xe_144_40 (a0 a1 : Option MV) (x : Int) (st : List MV) (μ : MM) (G : MG) : ev 144 40 [a0, a1, some (vI x)] st μ G = ev 144 41 [a0, a1, some (vI x)] (vI x :: st) μ G := ev_stp pg_144_40 rfl
theorem pg_144_41 : mm_prog 144 41 = some (0, .putfield 305, 44, [9, 3, 0]) := by decide +kernel
theorem xe_144_41 (a0 a1 a2 : Option MV) (x y : Int) (st : List MV) (μ : MM) (G : MG) : ev 144 41 [a0, a1, a2] (vI x :: vR y :: st) μ G = if gk G y = 9 then ev 144 44 [a0, a1, a2] st (mset μ y 3 x) G else none := ev_put0 pg_144_41
theorem pg_144_44 : mm_prog 144 44 = some (0, .aload_n 0, 45, []) := by decide +kernel
theorem xe_144_44 (a1 a2 : Option MV) (x : Int) (st : List MV) (μ : MM) (G : MG) : ev 144 44 [some (vR x), a1, a2] st μ G = ev 144 45 [some (vR x), a1, a2] (vR x :: st) μ G := ev_stp pg_144_44 rfl
theorem pg_144_45 : mm_prog 144 45 = some (0, .getfield 85, 48, [10, 12, 2]) := by decide +kernel
theorem xe_144_45 (a0 a1 a2 : Option MV) (x : Int) (st : List MV) (μ : MM) (G : MG) : ev 144 45 [a0, a1, a2] (vR x :: st) μ G = if gk G x = 10 then ev 144 48 [a0, a1, a2] (vR (μ x 12) :: st) μ G else none := ev_if pg_144_45 rfl
theorem pg_144_48 : mm_prog 144 48 = some (0, .aload_n 0, 49, []) := by decide +kernel
theorem xe_144_48 (a1 a2 : Option MV) (x : Int) (st : List MV) (μ : MM) (G : MG) : ev 144 48 [some (vR x), a1, a2] st μ G = ev 144 49 [some (vR x), a1, a2] (vR x :: st) μ G := ev_stp pg_144_48 rfl
theorem pg_144_49 : mm_prog 144 49 = some (0, .getfield 82, 52, [10, 11, 2]) := by decide +kernel
theorem xe_144_49 (a0 a1 a2 : Option MV) (x : Int) (st : List MV) (μ : MM) (G : MG) : ev 144 49 [a0, a1, a2] (vR x :: st) μ G = if gk G x = 10 then ev 144 52 [a0, a1, a2] (vR (μ x 11) :: st) μ G else none := ev_if pg_144_49 rfl
theorem pg_144_52 : mm_prog 144 52 = some (1, .invokevirtual 379, 55, [1, 81, 1, 8]) := by decide +kernel
theorem xe_144_52 (a0 a1 a2 : Option MV) (x0 z : Int) (μ : MM) (G : MG) : ev 144 52 [a0, a1, a2] (vR x0 :: vR z :: []) μ G = if gk G z = 8 ∧ 0 < z then (ev 81 0 [some (vR z), some (vR x0), none] [] μ G).bind (fun q => ev 144 55 [a0, a1, a2] (q.1.toList ++ []) q.2.1 q.2.2) else none := ev_calV (as := [vR z, vR x0]) (r := []) mx_81 pg_144_52 rfl rfl (Nat.le_of_ble_eq_true rfl) (Nat.le_of_ble_eq_true rfl)
theorem pg_144_55 : mm_prog 144 55 = some (0, .iload_n 1, 56, []) := by decide +kernel
theorem xe_144_55 (a0 a2 : Option MV) (x : Int) (st : List MV) (μ : MM) (G : MG) : ev 144 55 [a0, some (vI x), a2] st μ G = ev 144 56 [a0, some (vI x), a2] (vI x :: st) μ G := ev_stp pg_144_55 rfl
theorem pg_144_56 : mm_prog 144 56 = some (0, .if_icmp .lt 5, 59, []) := by decide +kernel
theorem xe_144_56 (a0 a1 a2 : Option MV) (x y : Int) (st : List MV) (μ : MM) (G : MG) : ev 144 56 [a0, a1, a2] (vI y :: vI x :: st) μ G = if x < y then ev 144 61 [a0, a1, a2] st μ G else ev 144 59 [a0, a1, a2] st μ G := ev_br (mm_cnd_lt x y) pg_144_56 rfl
theorem pg_144_59 : mm_prog 144 59 = some (0, .iload_n 2, 60, []) := by decide +kernel
theorem xe_144_59 (a0 a1 : Option MV) (x : Int) (st : List MV) (μ : MM) (G : MG) : ev 144 59 [a0, a1, some (vI x)] st μ G = ev 144 60 [a0, a1, some (vI x)] (vI x :: st) μ G := ev_stp pg_144_59 rfl
theorem pg_144_60 : mm_prog 144 60 = some (2, .ireturn, 61, [0]) := by decide +kernel
theorem xe_144_60 (a0 a1 a2 : Option MV) (x : Int) (μ : MM) (G : MG) : ev 144 60 [a0, a1, a2] [vI x] μ G = some (some (vI x), μ, G) := ev_ret pg_144_60 rfl
theorem pg_144_61 : mm_prog 144 61 = some (0, .iinc 2 1, 64, []) := by decide +kernel
theorem xe_144_61 (a0 a1 : Option MV) (x : Int) (st : List MV) (μ : MM) (G : MG) (h : mm_nL a1 = true) : ev 144 61 [a0, a1, some (vI x)] st μ G = ev 144 64 [a0, a1, some (vI (w32 (x + (1))))] st μ G := ev_st pg_144_61 rfl (mm_nl_of h) (Nat.le_of_ble_eq_true rfl)
theorem pg_144_64 : mm_prog 144 64 = some (0, .goto (-39), 67, []) := by decide +kernel
theorem xe_144_64 (a0 a1 a2 : Option MV) (st : List MV) (μ : MM) (G : MG) : ev 144 64 [a0, a1, a2] st μ G = ev 144 25 [a0, a1, a2] st μ G := ev_stp pg_144_64 rfl
theorem pg_144_67 : mm_prog 144 67 = some (0, .aload_n 0, 68, []) := by decide +kernel
theorem xe_144_67 (a1 a2 : Option MV) (x : Int) (st : List MV) (μ : MM) (G : MG) : ev 144 67 [some (vR x), a1, a2] st μ G = ev 144 68 [some (vR x), a1, a2] (vR x :: st) μ G := ev_stp pg_144_67 rfl
theorem pg_144_68 : mm_prog 144 68 = some (0, .getfield 64, 71, [10, 8, 2]) := by decide +kernel
theorem xe_144_68 (a0 a1 a2 : Option MV) (x : Int) (st : List MV) (μ : MM) (G : MG) : ev 144 68 [a0, a1, a2] (vR x :: st) μ G = if gk G x = 10 then ev 144 71 [a0, a1, a2] (vR (μ x 8) :: st) μ G else none := ev_if pg_144_68 rfl
theorem pg_144_71 : mm_prog 144 71 = some (0, .getfield 305, 74, [9, 3, 0]) := by decide +kernel
theorem xe_144_71 (a0 a1 a2 : Option MV) (x : Int) (st : List MV) (μ : MM) (G : MG) : ev 144 71 [a0, a1, a2] (vR x :: st) μ G = if gk G x = 9 then ev 144 74 [a0, a1, a2] (vI (μ x 3) :: st) μ G else none := ev_if pg_144_71 rfl
theorem pg_144_74 : mm_prog 144 74 = some (2, .ireturn, 75, [0]) := by decide +kernel
theorem xe_144_74 (a0 a1 a2 : Option MV) (x : Int) (μ : MM) (G : MG) : ev 144 74 [a0, a1, a2] [vI x] μ G = some (some (vI x), μ, G) := ev_ret pg_144_74 rfl
-- X10_would
theorem pg_145_0 : mm_prog 145 0 = some (0, .iload_n 1, 1, []) := by decide +kernel
theorem xe_145_0 (a0 : Option MV) (x : Int) (st : List MV) (μ : MM) (G : MG) : ev 145 0 [a0, some (vI x)] st μ G = ev 145 1 [a0, some (vI x)] (vI x :: st) μ G := ev_stp pg_145_0 rfl
theorem pg_145_1 : mm_prog 145 1 = some (0, .ifCond .lt 8, 4, []) := by decide +kernel
theorem xe_145_1 (a0 a1 : Option MV) (x : Int) (st : List MV) (μ : MM) (G : MG) : ev 145 1 [a0, a1] (vI x :: st) μ G = if x < 0 then ev 145 9 [a0, a1] st μ G else ev 145 4 [a0, a1] st μ G := ev_br (mm_cnd_lt x 0) pg_145_1 rfl
theorem pg_145_4 : mm_prog 145 4 = some (0, .iload_n 1, 5, []) := by decide +kernel
theorem xe_145_4 (a0 : Option MV) (x : Int) (st : List MV) (μ : MM) (G : MG) : ev 145 4 [a0, some (vI x)] st μ G = ev 145 5 [a0, some (vI x)] (vI x :: st) μ G := ev_stp pg_145_4 rfl
theorem pg_145_5 : mm_prog 145 5 = some (0, .iconst 1, 6, []) := by decide +kernel
theorem xe_145_5 (a0 a1 : Option MV) (st : List MV) (μ : MM) (G : MG) : ev 145 5 [a0, a1] st μ G = ev 145 6 [a0, a1] (vI (1) :: st) μ G := ev_stp pg_145_5 rfl
theorem pg_145_6 : mm_prog 145 6 = some (0, .if_icmp .le 6, 9, []) := by decide +kernel
theorem xe_145_6 (a0 a1 : Option MV) (x y : Int) (st : List MV) (μ : MM) (G : MG) : ev 145 6 [a0, a1] (vI y :: vI x :: st) μ G = if x ≤ y then ev 145 12 [a0, a1] st μ G else ev 145 9 [a0, a1] st μ G := ev_br (mm_cnd_le x y) pg_145_6 rfl
theorem pg_145_9 : mm_prog 145 9 = some (0, .bipush (-2), 11, []) := by decide +kernel
theorem xe_145_9 (a0 a1 : Option MV) (st : List MV) (μ : MM) (G : MG) : ev 145 9 [a0, a1] st μ G = ev 145 11 [a0, a1] (vI (-2) :: st) μ G := ev_stp pg_145_9 rfl
theorem pg_145_11 : mm_prog 145 11 = some (2, .ireturn, 12, [0]) := by decide +kernel
theorem xe_145_11 (a0 a1 : Option MV) (x : Int) (μ : MM) (G : MG) : ev 145 11 [a0, a1] [vI x] μ G = some (some (vI x), μ, G) := ev_ret pg_145_11 rfl
theorem pg_145_12 : mm_prog 145 12 = some (0, .aload_n 0, 13, []) := by decide +kernel
theorem xe_145_12 (a1 : Option MV) (x : Int) (st : List MV) (μ : MM) (G : MG) : ev 145 12 [some (vR x), a1] st μ G = ev 145 13 [some (vR x), a1] (vR x :: st) μ G := ev_stp pg_145_12 rfl
theorem pg_145_13 : mm_prog 145 13 = some (0, .aload_n 0, 14, []) := by decide +kernel
theorem xe_145_13 (a1 : Option MV) (x : Int) (st : List MV) (μ : MM) (G : MG) : ev 145 13 [some (vR x), a1] st μ G = ev 145 14 [some (vR x), a1] (vR x :: st) μ G := ev_stp pg_145_13 rfl
theorem pg_145_14 : mm_prog 145 14 = some (0, .getfield 85, 17, [10, 12, 2]) := by decide +kernel
theorem xe_145_14 (a0 a1 : Option MV) (x : Int) (st : List MV) (μ : MM) (G : MG) : ev 145 14 [a0, a1] (vR x :: st) μ G = if gk G x = 10 then ev 145 17 [a0, a1] (vR (μ x 12) :: st) μ G else none := ev_if pg_145_14 rfl
theorem pg_145_17 : mm_prog 145 17 = some (0, .aload_n 0, 18, []) := by decide +kernel
theorem xe_145_17 (a1 : Option MV) (x : Int) (st : List MV) (μ : MM) (G : MG) : ev 145 17 [some (vR x), a1] st μ G = ev 145 18 [some (vR x), a1] (vR x :: st) μ G := ev_stp pg_145_17 rfl
theorem pg_145_18 : mm_prog 145 18 = some (0, .getfield 64, 21, [10, 8, 2]) := by decide +kernel
theorem xe_145_18 (a0 a1 : Option MV) (x : Int) (st : List MV) (μ : MM) (G : MG) : ev 145 18 [a0, a1] (vR x :: st) μ G = if gk G x = 10 then ev 145 21 [a0, a1] (vR (μ x 8) :: st) μ G else none := ev_if pg_145_18 rfl
theorem pg_145_21 : mm_prog 145 21 = some (1, .invokevirtual 379, 24, [1, 81, 1, 8]) := by decide +kernel
theorem xe_145_21 (a0 a1 : Option MV) (x0 z r0 : Int) (μ : MM) (G : MG) : ev 145 21 [a0, a1] (vR x0 :: vR z :: [vR r0]) μ G = if gk G z = 8 ∧ 0 < z then (ev 81 0 [some (vR z), some (vR x0), none] [] μ G).bind (fun q => ev 145 24 [a0, a1] (q.1.toList ++ [vR r0]) q.2.1 q.2.2) else none := ev_calV (as := [vR z, vR x0]) (r := [vR r0]) mx_81 pg_145_21 rfl rfl (Nat.le_of_ble_eq_true rfl) (Nat.le_of_ble_eq_true rfl)
theorem pg_145_24 : mm_prog 145 24 = some (0, .iload_n 1, 25, []) := by decide +kernel
theorem xe_145_24 (a0 : Option MV) (x : Int) (st : List MV) (μ : MM) (G : MG) : ev 145 24 [a0, some (vI x)] st μ G = ev 145 25 [a0, some (vI x)] (vI x :: st) μ G := ev_stp pg_145_24 rfl
theorem pg_145_25 : mm_prog 145 25 = some (1, .invokevirtual 277, 28, [1, 127, 2, 10]) := by decide +kernel
theorem xe_145_25 (a0 a1 : Option MV) (x0 x1 z : Int) (μ : MM) (G : MG) : ev 145 25 [a0, a1] (vI x1 :: vI x0 :: vR z :: []) μ G = if gk G z = 10 ∧ 0 < z then (ev 127 0 [some (vR z), some (vI x0), some (vI x1), none, none, none] [] μ G).bind (fun q => ev 145 28 [a0, a1] (q.1.toList ++ []) q.2.1 q.2.2) else none := ev_calV (as := [vR z, vI x0, vI x1]) (r := []) mx_127 pg_145_25 rfl rfl (Nat.le_of_ble_eq_true rfl) (Nat.le_of_ble_eq_true rfl)
theorem pg_145_28 : mm_prog 145 28 = some (2, .ireturn, 29, [0]) := by decide +kernel
theorem xe_145_28 (a0 a1 : Option MV) (x : Int) (μ : MM) (G : MG) : ev 145 28 [a0, a1] [vI x] μ G = some (some (vI x), μ, G) := ev_ret pg_145_28 rfl
-- X10_count
theorem pg_146_0 : mm_prog 146 0 = some (0, .iload_n 1, 1, []) := by decide +kernel
theorem xe_146_0 (a0 : Option MV) (x : Int) (st : List MV) (μ : MM) (G : MG) : ev 146 0 [a0, some (vI x)] st μ G = ev 146 1 [a0, some (vI x)] (vI x :: st) μ G := ev_stp pg_146_0 rfl
theorem pg_146_1 : mm_prog 146 1 = some (0, .tableswitch 72 0 4 #[35, 43, 51, 56, 64], 36, [73, 0, 36, 1, 44, 2, 52, 3, 57, 4, 65]) := by decide +kernel
theorem xe_146_1 (a0 a1 : Option MV) (x : Int) (st : List MV) (μ : MM) (G : MG) : ev 146 1 [a0, a1] (vI x :: st) μ G = if x = 0 then ev 146 36 [a0, a1] st μ G else if x = 1 then ev 146 44 [a0, a1] st μ G else if x = 2 then ev 146 52 [a0, a1] st μ G else if x = 3 then ev 146 57 [a0, a1] st μ G else if x = 4 then ev 146 65 [a0, a1] st μ G else ev 146 73 [a0, a1] st μ G := ev_sw (x := x) (d := 73) (l := [0, 36, 1, 44, 2, 52, 3, 57, 4, 65]) (st' := st) pg_146_1 rfl
theorem pg_146_36 : mm_prog 146 36 = some (0, .aload_n 0, 37, []) := by decide +kernel
theorem xe_146_36 (a1 : Option MV) (x : Int) (st : List MV) (μ : MM) (G : MG) : ev 146 36 [some (vR x), a1] st μ G = ev 146 37 [some (vR x), a1] (vR x :: st) μ G := ev_stp pg_146_36 rfl
theorem pg_146_37 : mm_prog 146 37 = some (0, .getfield 29, 40, [10, 3, 2]) := by decide +kernel
theorem xe_146_37 (a0 a1 : Option MV) (x : Int) (st : List MV) (μ : MM) (G : MG) : ev 146 37 [a0, a1] (vR x :: st) μ G = if gk G x = 10 then ev 146 40 [a0, a1] (vR (μ x 3) :: st) μ G else none := ev_if pg_146_37 rfl
theorem pg_146_40 : mm_prog 146 40 = some (0, .getfield 137, 43, [6, 5, 0]) := by decide +kernel
theorem xe_146_40 (a0 a1 : Option MV) (x : Int) (st : List MV) (μ : MM) (G : MG) : ev 146 40 [a0, a1] (vR x :: st) μ G = if gk G x = 6 then ev 146 43 [a0, a1] (vI (μ x 5) :: st) μ G else none := ev_if pg_146_40 rfl
theorem pg_146_43 : mm_prog 146 43 = some (2, .ireturn, 44, [0]) := by decide +kernel
theorem xe_146_43 (a0 a1 : Option MV) (x : Int) (μ : MM) (G : MG) : ev 146 43 [a0, a1] [vI x] μ G = some (some (vI x), μ, G) := ev_ret pg_146_43 rfl
theorem pg_146_44 : mm_prog 146 44 = some (0, .aload_n 0, 45, []) := by decide +kernel
theorem xe_146_44 (a1 : Option MV) (x : Int) (st : List MV) (μ : MM) (G : MG) : ev 146 44 [some (vR x), a1] st μ G = ev 146 45 [some (vR x), a1] (vR x :: st) μ G := ev_stp pg_146_44 rfl
theorem pg_146_45 : mm_prog 146 45 = some (0, .getfield 10, 48, [10, 0, 2]) := by decide +kernel
theorem xe_146_45 (a0 a1 : Option MV) (x : Int) (st : List MV) (μ : MM) (G : MG) : ev 146 45 [a0, a1] (vR x :: st) μ G = if gk G x = 10 then ev 146 48 [a0, a1] (vR (μ x 0) :: st) μ G else none := ev_if pg_146_45 rfl
theorem pg_146_48 : mm_prog 146 48 = some (0, .getfield 92, 51, [0, 1, 0]) := by decide +kernel
theorem xe_146_48 (a0 a1 : Option MV) (x : Int) (st : List MV) (μ : MM) (G : MG) : ev 146 48 [a0, a1] (vR x :: st) μ G = if gk G x = 0 then ev 146 51 [a0, a1] (vI (μ x 1) :: st) μ G else none := ev_if pg_146_48 rfl
theorem pg_146_51 : mm_prog 146 51 = some (2, .ireturn, 52, [0]) := by decide +kernel
theorem xe_146_51 (a0 a1 : Option MV) (x : Int) (μ : MM) (G : MG) : ev 146 51 [a0, a1] [vI x] μ G = some (some (vI x), μ, G) := ev_ret pg_146_51 rfl
theorem pg_146_52 : mm_prog 146 52 = some (0, .aload_n 0, 53, []) := by decide +kernel
theorem xe_146_52 (a1 : Option MV) (x : Int) (st : List MV) (μ : MM) (G : MG) : ev 146 52 [some (vR x), a1] st μ G = ev 146 53 [some (vR x), a1] (vR x :: st) μ G := ev_stp pg_146_52 rfl
theorem pg_146_53 : mm_prog 146 53 = some (0, .getfield 88, 56, [10, 13, 0]) := by decide +kernel
theorem xe_146_53 (a0 a1 : Option MV) (x : Int) (st : List MV) (μ : MM) (G : MG) : ev 146 53 [a0, a1] (vR x :: st) μ G = if gk G x = 10 then ev 146 56 [a0, a1] (vI (μ x 13) :: st) μ G else none := ev_if pg_146_53 rfl
theorem pg_146_56 : mm_prog 146 56 = some (2, .ireturn, 57, [0]) := by decide +kernel
theorem xe_146_56 (a0 a1 : Option MV) (x : Int) (μ : MM) (G : MG) : ev 146 56 [a0, a1] [vI x] μ G = some (some (vI x), μ, G) := ev_ret pg_146_56 rfl
theorem pg_146_57 : mm_prog 146 57 = some (0, .aload_n 0, 58, []) := by decide +kernel
theorem xe_146_57 (a1 : Option MV) (x : Int) (st : List MV) (μ : MM) (G : MG) : ev 146 57 [some (vR x), a1] st μ G = ev 146 58 [some (vR x), a1] (vR x :: st) μ G := ev_stp pg_146_57 rfl
theorem pg_146_58 : mm_prog 146 58 = some (0, .getfield 64, 61, [10, 8, 2]) := by decide +kernel
theorem xe_146_58 (a0 a1 : Option MV) (x : Int) (st : List MV) (μ : MM) (G : MG) : ev 146 58 [a0, a1] (vR x :: st) μ G = if gk G x = 10 then ev 146 61 [a0, a1] (vR (μ x 8) :: st) μ G else none := ev_if pg_146_58 rfl
theorem pg_146_61 : mm_prog 146 61 = some (0, .getfield 302, 64, [9, 2, 0]) := by decide +kernel
theorem xe_146_61 (a0 a1 : Option MV) (x : Int) (st : List MV) (μ : MM) (G : MG) : ev 146 61 [a0, a1] (vR x :: st) μ G = if gk G x = 9 then ev 146 64 [a0, a1] (vI (μ x 2) :: st) μ G else none := ev_if pg_146_61 rfl
theorem pg_146_64 : mm_prog 146 64 = some (2, .ireturn, 65, [0]) := by decide +kernel
theorem xe_146_64 (a0 a1 : Option MV) (x : Int) (μ : MM) (G : MG) : ev 146 64 [a0, a1] [vI x] μ G = some (some (vI x), μ, G) := ev_ret pg_146_64 rfl
theorem pg_146_65 : mm_prog 146 65 = some (0, .aload_n 0, 66, []) := by decide +kernel
theorem xe_146_65 (a1 : Option MV) (x : Int) (st : List MV) (μ : MM) (G : MG) : ev 146 65 [some (vR x), a1] st μ G = ev 146 66 [some (vR x), a1] (vR x :: st) μ G := ev_stp pg_146_65 rfl
theorem pg_146_66 : mm_prog 146 66 = some (0, .getfield 64, 69, [10, 8, 2]) := by decide +kernel
theorem xe_146_66 (a0 a1 : Option MV) (x : Int) (st : List MV) (μ : MM) (G : MG) : ev 146 66 [a0, a1] (vR x :: st) μ G = if gk G x = 10 then ev 146 69 [a0, a1] (vR (μ x 8) :: st) μ G else none := ev_if pg_146_66 rfl
theorem pg_146_69 : mm_prog 146 69 = some (0, .getfield 305, 72, [9, 3, 0]) := by decide +kernel
theorem xe_146_69 (a0 a1 : Option MV) (x : Int) (st : List MV) (μ : MM) (G : MG) : ev 146 69 [a0, a1] (vR x :: st) μ G = if gk G x = 9 then ev 146 72 [a0, a1] (vI (μ x 3) :: st) μ G else none := ev_if pg_146_69 rfl
theorem pg_146_72 : mm_prog 146 72 = some (2, .ireturn, 73, [0]) := by decide +kernel
theorem xe_146_72 (a0 a1 : Option MV) (x : Int) (μ : MM) (G : MG) : ev 146 72 [a0, a1] [vI x] μ G = some (some (vI x), μ, G) := ev_ret pg_146_72 rfl
theorem pg_146_73 : mm_prog 146 73 = some (0, .iconst (-1), 74, []) := by decide +kernel
theorem xe_146_73 (a0 a1 : Option MV) (st : List MV) (μ : MM) (G : MG) : ev 146 73 [a0, a1] st μ G = ev 146 74 [a0, a1] (vI (-1) :: st) μ G := ev_stp pg_146_73 rfl
theorem pg_146_74 : mm_prog 146 74 = some (2, .ireturn, 75, [0]) := by decide +kernel
theorem xe_146_74 (a0 a1 : Option MV) (x : Int) (μ : MM) (G : MG) : ev 146 74 [a0, a1] [vI x] μ G = some (some (vI x), μ, G) := ev_ret pg_146_74 rfl
-- X10_headByte
theorem pg_147_0 : mm_prog 147 0 = some (0, .iload_n 0, 1, []) := by decide +kernel
theorem xe_147_0 (x : Int) (st : List MV) (μ : MM) (G : MG) : ev 147 0 [some (vI x)] st μ G = ev 147 1 [some (vI x)] (vI x :: st) μ G := ev_stp pg_147_0 rfl
theorem pg_147_1 : mm_prog 147 1 = some (0, .ifCond .eq 9, 4, []) := by decide +kernel
theorem xe_147_1 (a0 : Option MV) (x : Int) (st : List MV) (μ : MM) (G : MG) : ev 147 1 [a0] (vI x :: st) μ G = if x = 0 then ev 147 10 [a0] st μ G else ev 147 4 [a0] st μ G := ev_br (mm_cnd_eq x 0) pg_147_1 rfl
theorem pg_147_4 : mm_prog 147 4 = some (0, .iload_n 0, 5, []) := by decide +kernel
theorem xe_147_4 (x : Int) (st : List MV) (μ : MM) (G : MG) : ev 147 4 [some (vI x)] st μ G = ev 147 5 [some (vI x)] (vI x :: st) μ G := ev_stp pg_147_4 rfl
theorem pg_147_5 : mm_prog 147 5 = some (0, .bipush 7, 7, []) := by decide +kernel
theorem xe_147_5 (a0 : Option MV) (st : List MV) (μ : MM) (G : MG) : ev 147 5 [a0] st μ G = ev 147 7 [a0] (vI (7) :: st) μ G := ev_stp pg_147_5 rfl
theorem pg_147_7 : mm_prog 147 7 = some (0, .if_icmp .ne 7, 10, []) := by decide +kernel
theorem xe_147_7 (a0 : Option MV) (x y : Int) (st : List MV) (μ : MM) (G : MG) : ev 147 7 [a0] (vI y :: vI x :: st) μ G = if ¬ x = y then ev 147 14 [a0] st μ G else ev 147 10 [a0] st μ G := ev_br (mm_cnd_ne x y) pg_147_7 rfl
theorem pg_147_10 : mm_prog 147 10 = some (0, .iconst 0, 11, []) := by decide +kernel
theorem xe_147_10 (a0 : Option MV) (st : List MV) (μ : MM) (G : MG) : ev 147 10 [a0] st μ G = ev 147 11 [a0] (vI (0) :: st) μ G := ev_stp pg_147_10 rfl
theorem pg_147_11 : mm_prog 147 11 = some (0, .goto 6, 14, []) := by decide +kernel
theorem xe_147_11 (a0 : Option MV) (st : List MV) (μ : MM) (G : MG) : ev 147 11 [a0] st μ G = ev 147 17 [a0] st μ G := ev_stp pg_147_11 rfl
theorem pg_147_14 : mm_prog 147 14 = some (0, .sipush 255, 17, []) := by decide +kernel
theorem xe_147_14 (a0 : Option MV) (st : List MV) (μ : MM) (G : MG) : ev 147 14 [a0] st μ G = ev 147 17 [a0] (vI (255) :: st) μ G := ev_stp pg_147_14 rfl
theorem pg_147_17 : mm_prog 147 17 = some (2, .ireturn, 18, [0]) := by decide +kernel
theorem xe_147_17 (a0 : Option MV) (x : Int) (μ : MM) (G : MG) : ev 147 17 [a0] [vI x] μ G = some (some (vI x), μ, G) := ev_ret pg_147_17 rfl
-- J4_init_da8c8
theorem pg_245_0 : mm_prog 245 0 = some (0, .aload_n 0, 1, []) := by decide +kernel
theorem xe_245_0 (x : Int) (st : List MV) (μ : MM) (G : MG) : ev 245 0 [some (vR x)] st μ G = ev 245 1 [some (vR x)] (vR x :: st) μ G := ev_stp pg_245_0 rfl
theorem pg_245_1 : mm_prog 245 1 = some (0, .bipush 16, 3, []) := by decide +kernel
theorem xe_245_1 (a0 : Option MV) (st : List MV) (μ : MM) (G : MG) : ev 245 1 [a0] st μ G = ev 245 3 [a0] (vI (16) :: st) μ G := ev_stp pg_245_1 rfl
theorem pg_245_3 : mm_prog 245 3 = some (1, .invokespecial 1, 6, [1, 246, 1, 12]) := by decide +kernel
theorem xe_245_3 (a0 : Option MV) (x0 z : Int) (μ : MM) (G : MG) : ev 245 3 [a0] (vI x0 :: vR z :: []) μ G = if gk G z = 12 ∧ 0 < z then (ev 246 0 [some (vR z), some (vI x0)] [] μ G).bind (fun q => ev 245 6 [a0] (q.1.toList ++ []) q.2.1 q.2.2) else none := ev_calV (as := [vR z, vI x0]) (r := []) mx_246 pg_245_3 rfl rfl (Nat.le_of_ble_eq_true rfl) (Nat.le_of_ble_eq_true rfl)
theorem pg_245_6 : mm_prog 245 6 = some (2, .return_, 7, []) := by decide +kernel
theorem xe_245_6 (a0 : Option MV) (μ : MM) (G : MG) : ev 245 6 [a0] [] μ G = some (none, μ, G) := ev_ret pg_245_6 rfl
-- J5_init_d00df
theorem pg_246_0 : mm_prog 246 0 = some (0, .aload_n 0, 1, []) := by decide +kernel
theorem xe_246_0 (a1 : Option MV) (x : Int) (st : List MV) (μ : MM) (G : MG) : ev 246 0 [some (vR x), a1] st μ G = ev 246 1 [some (vR x), a1] (vR x :: st) μ G := ev_stp pg_246_0 rfl
theorem pg_246_1 : mm_prog 246 1 = some (0, .invokespecial 3, 4, []) := by decide +kernel
theorem xe_246_1 (a0 a1 : Option MV) (x : Int) (st : List MV) (μ : MM) (G : MG) : ev 246 1 [a0, a1] (vR x :: st) μ G = if 10 ≤ x ∧ mm_cats st ≤ 8 then ev 246 4 [a0, a1] st μ G else none := ev_if pg_246_1 rfl
theorem pg_246_4 : mm_prog 246 4 = some (0, .getstatic 18, 7, [0, 1]) := by decide +kernel
theorem xe_246_4 (a0 a1 : Option MV) (st : List MV) (μ : MM) (G : MG) : ev 246 4 [a0, a1] st μ G = ev 246 7 [a0, a1] (vI 1 :: st) μ G := ev_stp pg_246_4 rfl
theorem pg_246_7 : mm_prog 246 7 = some (0, .ifCond .eq 18, 10, []) := by decide +kernel
theorem xe_246_7 (a0 a1 : Option MV) (x : Int) (st : List MV) (μ : MM) (G : MG) : ev 246 7 [a0, a1] (vI x :: st) μ G = if x = 0 then ev 246 25 [a0, a1] st μ G else ev 246 10 [a0, a1] st μ G := ev_br (mm_cnd_eq x 0) pg_246_7 rfl
theorem pg_246_10 : mm_prog 246 10 = some (0, .aload_n 0, 11, []) := by decide +kernel
theorem xe_246_10 (a1 : Option MV) (x : Int) (st : List MV) (μ : MM) (G : MG) : ev 246 10 [some (vR x), a1] st μ G = ev 246 11 [some (vR x), a1] (vR x :: st) μ G := ev_stp pg_246_10 rfl
theorem pg_246_11 : mm_prog 246 11 = some (0, .iload_n 1, 12, []) := by decide +kernel
theorem xe_246_11 (a0 : Option MV) (x : Int) (st : List MV) (μ : MM) (G : MG) : ev 246 11 [a0, some (vI x)] st μ G = ev 246 12 [a0, some (vI x)] (vI x :: st) μ G := ev_stp pg_246_11 rfl
theorem pg_246_12 : mm_prog 246 12 = some (0, .newarray .byte, 14, [101]) := by decide +kernel
theorem xe_246_12 (a0 a1 : Option MV) (x : Int) (st : List MV) (μ : MM) (G : MG) : ev 246 12 [a0, a1] (vI x :: st) μ G = if 0 ≤ x ∧ x ≤ 100000 then ev 246 14 [a0, a1] (vR G.2.1 :: st) (mzero μ G.2.1) (gnew G 101 x x) else none := ev_if pg_246_12 rfl
theorem pg_246_14 : mm_prog 246 14 = some (0, .putfield 15, 17, [12, 0, 2]) := by decide +kernel
theorem xe_246_14 (a0 a1 : Option MV) (x y : Int) (st : List MV) (μ : MM) (G : MG) : ev 246 14 [a0, a1] (vR x :: vR y :: st) μ G = if gk G y = 12 then ev 246 17 [a0, a1] st (mset μ y 0 x) G else none := ev_put2 pg_246_14
theorem pg_246_17 : mm_prog 246 17 = some (0, .aload_n 0, 18, []) := by decide +kernel
theorem xe_246_17 (a1 : Option MV) (x : Int) (st : List MV) (μ : MM) (G : MG) : ev 246 17 [some (vR x), a1] st μ G = ev 246 18 [some (vR x), a1] (vR x :: st) μ G := ev_stp pg_246_17 rfl
theorem pg_246_18 : mm_prog 246 18 = some (0, .iconst 0, 19, []) := by decide +kernel
theorem xe_246_18 (a0 a1 : Option MV) (st : List MV) (μ : MM) (G : MG) : ev 246 18 [a0, a1] st μ G = ev 246 19 [a0, a1] (vI (0) :: st) μ G := ev_stp pg_246_18 rfl
theorem pg_246_19 : mm_prog 246 19 = some (0, .putfield 22, 22, [12, 1, 3]) := by decide +kernel
theorem xe_246_19 (a0 a1 : Option MV) (x y : Int) (st : List MV) (μ : MM) (G : MG) : ev 246 19 [a0, a1] (vI x :: vR y :: st) μ G = if gk G y = 12 ∧ (-128 ≤ x ∧ x < 128) then ev 246 22 [a0, a1] st (mset μ y 1 x) G else none := ev_put3 pg_246_19
theorem pg_246_22 : mm_prog 246 22 = some (0, .goto 16, 25, []) := by decide +kernel
theorem xe_246_22 (a0 a1 : Option MV) (st : List MV) (μ : MM) (G : MG) : ev 246 22 [a0, a1] st μ G = ev 246 38 [a0, a1] st μ G := ev_stp pg_246_22 rfl
theorem pg_246_25 : mm_prog 246 25 = some (0, .aload_n 0, 26, []) := by decide +kernel
theorem xe_246_25 (a1 : Option MV) (x : Int) (st : List MV) (μ : MM) (G : MG) : ev 246 25 [some (vR x), a1] st μ G = ev 246 26 [some (vR x), a1] (vR x :: st) μ G := ev_stp pg_246_25 rfl
theorem pg_246_26 : mm_prog 246 26 = some (0, .iload_n 1, 27, []) := by decide +kernel
theorem xe_246_26 (a0 : Option MV) (x : Int) (st : List MV) (μ : MM) (G : MG) : ev 246 26 [a0, some (vI x)] st μ G = ev 246 27 [a0, some (vI x)] (vI x :: st) μ G := ev_stp pg_246_26 rfl
theorem pg_246_38 : mm_prog 246 38 = some (2, .return_, 39, []) := by decide +kernel
theorem xe_246_38 (a0 a1 : Option MV) (μ : MM) (G : MG) : ev 246 38 [a0, a1] [] μ G = some (none, μ, G) := ev_ret pg_246_38 rfl
-- J4_append_cf468
theorem pg_247_0 : mm_prog 247 0 = some (0, .aload_n 0, 1, []) := by decide +kernel
theorem xe_247_0 (a1 : Option MV) (x : Int) (st : List MV) (μ : MM) (G : MG) : ev 247 0 [some (vR x), a1] st μ G = ev 247 1 [some (vR x), a1] (vR x :: st) μ G := ev_stp pg_247_0 rfl
theorem pg_247_1 : mm_prog 247 1 = some (0, .iload_n 1, 2, []) := by decide +kernel
theorem xe_247_1 (a0 : Option MV) (x : Int) (st : List MV) (μ : MM) (G : MG) : ev 247 1 [a0, some (vI x)] st μ G = ev 247 2 [a0, some (vI x)] (vI x :: st) μ G := ev_stp pg_247_1 rfl
theorem pg_247_2 : mm_prog 247 2 = some (1, .invokespecial 50, 5, [1, 256, 1, 12]) := by decide +kernel
theorem xe_247_2 (a0 a1 : Option MV) (x0 z : Int) (μ : MM) (G : MG) : ev 247 2 [a0, a1] (vI x0 :: vR z :: []) μ G = if gk G z = 12 ∧ 0 < z then (ev 256 0 [some (vR z), some (vI x0)] [] μ G).bind (fun q => ev 247 5 [a0, a1] (q.1.toList ++ []) q.2.1 q.2.2) else none := ev_calV (as := [vR z, vI x0]) (r := []) mx_256 pg_247_2 rfl rfl (Nat.le_of_ble_eq_true rfl) (Nat.le_of_ble_eq_true rfl)
theorem pg_247_5 : mm_prog 247 5 = some (0, .pop, 6, []) := by decide +kernel
theorem xe_247_5 (a0 a1 : Option MV) (x : Int) (st : List MV) (μ : MM) (G : MG) : ev 247 5 [a0, a1] (vR x :: st) μ G = ev 247 6 [a0, a1] st μ G := ev_stp pg_247_5 rfl
theorem pg_247_6 : mm_prog 247 6 = some (0, .aload_n 0, 7, []) := by decide +kernel
theorem xe_247_6 (a1 : Option MV) (x : Int) (st : List MV) (μ : MM) (G : MG) : ev 247 6 [some (vR x), a1] st μ G = ev 247 7 [some (vR x), a1] (vR x :: st) μ G := ev_stp pg_247_6 rfl
theorem pg_247_7 : mm_prog 247 7 = some (2, .areturn, 8, []) := by decide +kernel
theorem xe_247_7 (a0 a1 : Option MV) (x : Int) (μ : MM) (G : MG) : ev 247 7 [a0, a1] [vR x] μ G = some (some (vR x), μ, G) := ev_ret pg_247_7 rfl
-- J4_append_bf812
theorem pg_248_0 : mm_prog 248 0 = some (0, .aload_n 0, 1, []) := by decide +kernel
theorem xe_248_0 (a1 : Option MV) (x : Int) (st : List MV) (μ : MM) (G : MG) : ev 248 0 [some (vR x), a1] st μ G = ev 248 1 [some (vR x), a1] (vR x :: st) μ G := ev_stp pg_248_0 rfl
theorem pg_248_1 : mm_prog 248 1 = some (0, .iload_n 1, 2, []) := by decide +kernel
theorem xe_248_1 (a0 : Option MV) (x : Int) (st : List MV) (μ : MM) (G : MG) : ev 248 1 [a0, some (vI x)] st μ G = ev 248 2 [a0, some (vI x)] (vI x :: st) μ G := ev_stp pg_248_1 rfl
theorem pg_248_2 : mm_prog 248 2 = some (1, .invokespecial 53, 5, [1, 257, 1, 12]) := by decide +kernel
theorem xe_248_2 (a0 a1 : Option MV) (x0 z : Int) (μ : MM) (G : MG) : ev 248 2 [a0, a1] (vI x0 :: vR z :: []) μ G = if gk G z = 12 ∧ 0 < z then (ev 257 0 [some (vR z), some (vI x0), none, none] [] μ G).bind (fun q => ev 248 5 [a0, a1] (q.1.toList ++ []) q.2.1 q.2.2) else none := ev_calV (as := [vR z, vI x0]) (r := []) mx_257 pg_248_2 rfl rfl (Nat.le_of_ble_eq_true rfl) (Nat.le_of_ble_eq_true rfl)
theorem pg_248_5 : mm_prog 248 5 = some (0, .pop, 6, []) := by decide +kernel
theorem xe_248_5 (a0 a1 : Option MV) (x : Int) (st : List MV) (μ : MM) (G : MG) : ev 248 5 [a0, a1] (vR x :: st) μ G = ev 248 6 [a0, a1] st μ G := ev_stp pg_248_5 rfl
theorem pg_248_6 : mm_prog 248 6 = some (0, .aload_n 0, 7, []) := by decide +kernel
theorem xe_248_6 (a1 : Option MV) (x : Int) (st : List MV) (μ : MM) (G : MG) : ev 248 6 [some (vR x), a1] st μ G = ev 248 7 [some (vR x), a1] (vR x :: st) μ G := ev_stp pg_248_6 rfl
theorem pg_248_7 : mm_prog 248 7 = some (2, .areturn, 8, []) := by decide +kernel
theorem xe_248_7 (a0 a1 : Option MV) (x : Int) (μ : MM) (G : MG) : ev 248 7 [a0, a1] [vR x] μ G = some (some (vR x), μ, G) := ev_ret pg_248_7 rfl
-- J4_charAt_5068e
theorem pg_249_0 : mm_prog 249 0 = some (0, .aload_n 0, 1, []) := by decide +kernel
theorem xe_249_0 (a1 : Option MV) (x : Int) (st : List MV) (μ : MM) (G : MG) : ev 249 0 [some (vR x), a1] st μ G = ev 249 1 [some (vR x), a1] (vR x :: st) μ G := ev_stp pg_249_0 rfl
theorem pg_249_1 : mm_prog 249 1 = some (0, .iload_n 1, 2, []) := by decide +kernel
theorem xe_249_1 (a0 : Option MV) (x : Int) (st : List MV) (μ : MM) (G : MG) : ev 249 1 [a0, some (vI x)] st μ G = ev 249 2 [a0, some (vI x)] (vI x :: st) μ G := ev_stp pg_249_1 rfl
theorem pg_249_2 : mm_prog 249 2 = some (1, .invokespecial 329, 5, [1, 255, 1, 12]) := by decide +kernel
theorem xe_249_2 (a0 a1 : Option MV) (x0 z : Int) (μ : MM) (G : MG) : ev 249 2 [a0, a1] (vI x0 :: vR z :: []) μ G = if gk G z = 12 ∧ 0 < z then (ev 255 0 [some (vR z), some (vI x0), none, none, none] [] μ G).bind (fun q => ev 249 5 [a0, a1] (q.1.toList ++ []) q.2.1 q.2.2) else none := ev_calV (as := [vR z, vI x0]) (r := []) mx_255 pg_249_2 rfl rfl (Nat.le_of_ble_eq_true rfl) (Nat.le_of_ble_eq_true rfl)
theorem pg_249_5 : mm_prog 249 5 = some (2, .ireturn, 6, [5]) := by decide +kernel
theorem xe_249_5 (a0 a1 : Option MV) (x : Int) (μ : MM) (G : MG) : ev 249 5 [a0, a1] [vI x] μ G = if 0 ≤ x ∧ x < 65536 then some (some (vI x), μ, G) else none := ev_retC pg_249_5
-- J4_setLength_d00df
theorem pg_250_0 : mm_prog 250 0 = some (0, .aload_n 0, 1, []) := by decide +kernel
theorem xe_250_0 (a1 : Option MV) (x : Int) (st : List MV) (μ : MM) (G : MG) : ev 250 0 [some (vR x), a1] st μ G = ev 250 1 [some (vR x), a1] (vR x :: st) μ G := ev_stp pg_250_0 rfl
theorem pg_250_1 : mm_prog 250 1 = some (0, .iload_n 1, 2, []) := by decide +kernel
theorem xe_250_1 (a0 : Option MV) (x : Int) (st : List MV) (μ : MM) (G : MG) : ev 250 1 [a0, some (vI x)] st μ G = ev 250 2 [a0, some (vI x)] (vI x :: st) μ G := ev_stp pg_250_1 rfl
theorem pg_250_2 : mm_prog 250 2 = some (1, .invokespecial 333, 5, [1, 254, 1, 12]) := by decide +kernel
theorem xe_250_2 (a0 a1 : Option MV) (x0 z : Int) (μ : MM) (G : MG) : ev 250 2 [a0, a1] (vI x0 :: vR z :: []) μ G = if gk G z = 12 ∧ 0 < z then (ev 254 0 [some (vR z), some (vI x0)] [] μ G).bind (fun q => ev 250 5 [a0, a1] (q.1.toList ++ []) q.2.1 q.2.2) else none := ev_calV (as := [vR z, vI x0]) (r := []) mx_254 pg_250_2 rfl rfl (Nat.le_of_ble_eq_true rfl) (Nat.le_of_ble_eq_true rfl)
theorem pg_250_5 : mm_prog 250 5 = some (2, .return_, 6, []) := by decide +kernel
theorem xe_250_5 (a0 a1 : Option MV) (μ : MM) (G : MG) : ev 250 5 [a0, a1] [] μ G = some (none, μ, G) := ev_ret pg_250_5 rfl
-- J4_length_8abf5
theorem pg_251_0 : mm_prog 251 0 = some (0, .aload_n 0, 1, []) := by decide +kernel
theorem xe_251_0 (x : Int) (st : List MV) (μ : MM) (G : MG) : ev 251 0 [some (vR x)] st μ G = ev 251 1 [some (vR x)] (vR x :: st) μ G := ev_stp pg_251_0 rfl
theorem pg_251_1 : mm_prog 251 1 = some (1, .invokespecial 343, 4, [1, 252, 0, 12]) := by decide +kernel
theorem xe_251_1 (a0 : Option MV) (z : Int) (μ : MM) (G : MG) : ev 251 1 [a0] (vR z :: []) μ G = if gk G z = 12 ∧ 0 < z then (ev 252 0 [some (vR z)] [] μ G).bind (fun q => ev 251 4 [a0] (q.1.toList ++ []) q.2.1 q.2.2) else none := ev_calV (as := [vR z]) (r := []) mx_252 pg_251_1 rfl rfl (Nat.le_of_ble_eq_true rfl) (Nat.le_of_ble_eq_true rfl)
theorem pg_251_4 : mm_prog 251 4 = some (2, .ireturn, 5, [0]) := by decide +kernel
theorem xe_251_4 (a0 : Option MV) (x : Int) (μ : MM) (G : MG) : ev 251 4 [a0] [vI x] μ G = some (some (vI x), μ, G) := ev_ret pg_251_4 rfl
-- J5_length_8abf5
theorem pg_252_0 : mm_prog 252 0 = some (0, .aload_n 0, 1, []) := by decide +kernel
theorem xe_252_0 (x : Int) (st : List MV) (μ : MM) (G : MG) : ev 252 0 [some (vR x)] st μ G = ev 252 1 [some (vR x)] (vR x :: st) μ G := ev_stp pg_252_0 rfl
theorem pg_252_1 : mm_prog 252 1 = some (0, .getfield 79, 4, [12, 3, 0]) := by decide +kernel
theorem xe_252_1 (a0 : Option MV) (x : Int) (st : List MV) (μ : MM) (G : MG) : ev 252 1 [a0] (vR x :: st) μ G = if gk G x = 12 then ev 252 4 [a0] (vI (μ x 3) :: st) μ G else none := ev_if pg_252_1 rfl
theorem pg_252_4 : mm_prog 252 4 = some (2, .ireturn, 5, [0]) := by decide +kernel
theorem xe_252_4 (a0 : Option MV) (x : Int) (μ : MM) (G : MG) : ev 252 4 [a0] [vI x] μ G = some (some (vI x), μ, G) := ev_ret pg_252_4 rfl
-- J5_ensureCapacityInternal_d00df
theorem pg_253_0 : mm_prog 253 0 = some (0, .aload_n 0, 1, []) := by decide +kernel
theorem xe_253_0 (a1 a2 : Option MV) (x : Int) (st : List MV) (μ : MM) (G : MG) : ev 253 0 [some (vR x), a1, a2] st μ G = ev 253 1 [some (vR x), a1, a2] (vR x :: st) μ G := ev_stp pg_253_0 rfl
theorem pg_253_1 : mm_prog 253 1 = some (0, .getfield 15, 4, [12, 0, 2]) := by decide +kernel
theorem xe_253_1 (a0 a1 a2 : Option MV) (x : Int) (st : List MV) (μ : MM) (G : MG) : ev 253 1 [a0, a1, a2] (vR x :: st) μ G = if gk G x = 12 then ev 253 4 [a0, a1, a2] (vR (μ x 0) :: st) μ G else none := ev_if pg_253_1 rfl
theorem pg_253_4 : mm_prog 253 4 = some (0, .arraylength, 5, []) := by decide +kernel
theorem xe_253_4 (a0 a1 a2 : Option MV) (x : Int) (st : List MV) (μ : MM) (G : MG) : ev 253 4 [a0, a1, a2] (vR x :: st) μ G = if 100 ≤ gk G x then ev 253 5 [a0, a1, a2] (vI (gl G x) :: st) μ G else none := ev_if pg_253_4 rfl
theorem pg_253_5 : mm_prog 253 5 = some (0, .aload_n 0, 6, []) := by decide +kernel
theorem xe_253_5 (a1 a2 : Option MV) (x : Int) (st : List MV) (μ : MM) (G : MG) : ev 253 5 [some (vR x), a1, a2] st μ G = ev 253 6 [some (vR x), a1, a2] (vR x :: st) μ G := ev_stp pg_253_5 rfl
theorem pg_253_6 : mm_prog 253 6 = some (0, .getfield 22, 9, [12, 1, 3]) := by decide +kernel
theorem xe_253_6 (a0 a1 a2 : Option MV) (x : Int) (st : List MV) (μ : MM) (G : MG) : ev 253 6 [a0, a1, a2] (vR x :: st) μ G = if gk G x = 12 then ev 253 9 [a0, a1, a2] (vI (μ x 1) :: st) μ G else none := ev_if pg_253_6 rfl
theorem pg_253_9 : mm_prog 253 9 = some (0, .ishr, 10, []) := by decide +kernel
theorem xe_253_9 (a0 a1 a2 : Option MV) (x y : Int) (st : List MV) (μ : MM) (G : MG) : ev 253 9 [a0, a1, a2] (vI y :: vI x :: st) μ G = ev 253 10 [a0, a1, a2] (vI (mm_shr x y) :: st) μ G := ev_stp pg_253_9 rfl
theorem pg_253_10 : mm_prog 253 10 = some (0, .istore_n 2, 11, []) := by decide +kernel
theorem xe_253_10 (a0 a1 a2 : Option MV) (x : Int) (st : List MV) (μ : MM) (G : MG) (h : mm_nL a1 = true) : ev 253 10 [a0, a1, a2] (vI x :: st) μ G = ev 253 11 [a0, a1, some (vI x)] st μ G := ev_st pg_253_10 rfl (mm_nl_of h) (Nat.le_of_ble_eq_true rfl)
theorem pg_253_11 : mm_prog 253 11 = some (0, .iload_n 1, 12, []) := by decide +kernel
theorem xe_253_11 (a0 a2 : Option MV) (x : Int) (st : List MV) (μ : MM) (G : MG) : ev 253 11 [a0, some (vI x), a2] st μ G = ev 253 12 [a0, some (vI x), a2] (vI x :: st) μ G := ev_stp pg_253_11 rfl
theorem pg_253_12 : mm_prog 253 12 = some (0, .iload_n 2, 13, []) := by decide +kernel
theorem xe_253_12 (a0 a1 : Option MV) (x : Int) (st : List MV) (μ : MM) (G : MG) : ev 253 12 [a0, a1, some (vI x)] st μ G = ev 253 13 [a0, a1, some (vI x)] (vI x :: st) μ G := ev_stp pg_253_12 rfl
theorem pg_253_13 : mm_prog 253 13 = some (0, .isub, 14, []) := by decide +kernel
theorem xe_253_13 (a0 a1 a2 : Option MV) (x y : Int) (st : List MV) (μ : MM) (G : MG) : ev 253 13 [a0, a1, a2] (vI y :: vI x :: st) μ G = ev 253 14 [a0, a1, a2] (vI (w32 (x - y)) :: st) μ G := ev_stp pg_253_13 rfl
theorem pg_253_14 : mm_prog 253 14 = some (0, .ifCond .le 24, 17, []) := by decide +kernel
theorem xe_253_14 (a0 a1 a2 : Option MV) (x : Int) (st : List MV) (μ : MM) (G : MG) : ev 253 14 [a0, a1, a2] (vI x :: st) μ G = if x ≤ 0 then ev 253 38 [a0, a1, a2] st μ G else ev 253 17 [a0, a1, a2] st μ G := ev_br (mm_cnd_le x 0) pg_253_14 rfl
theorem pg_253_17 : mm_prog 253 17 = some (0, .aload_n 0, 18, []) := by decide +kernel
theorem xe_253_17 (a1 a2 : Option MV) (x : Int) (st : List MV) (μ : MM) (G : MG) : ev 253 17 [some (vR x), a1, a2] st μ G = ev 253 18 [some (vR x), a1, a2] (vR x :: st) μ G := ev_stp pg_253_17 rfl
theorem pg_253_18 : mm_prog 253 18 = some (0, .aload_n 0, 19, []) := by decide +kernel
theorem xe_253_18 (a1 a2 : Option MV) (x : Int) (st : List MV) (μ : MM) (G : MG) : ev 253 18 [some (vR x), a1, a2] st μ G = ev 253 19 [some (vR x), a1, a2] (vR x :: st) μ G := ev_stp pg_253_18 rfl
theorem pg_253_19 : mm_prog 253 19 = some (0, .getfield 15, 22, [12, 0, 2]) := by decide +kernel
theorem xe_253_19 (a0 a1 a2 : Option MV) (x : Int) (st : List MV) (μ : MM) (G : MG) : ev 253 19 [a0, a1, a2] (vR x :: st) μ G = if gk G x = 12 then ev 253 22 [a0, a1, a2] (vR (μ x 0) :: st) μ G else none := ev_if pg_253_19 rfl
theorem pg_253_22 : mm_prog 253 22 = some (0, .aload_n 0, 23, []) := by decide +kernel
theorem xe_253_22 (a1 a2 : Option MV) (x : Int) (st : List MV) (μ : MM) (G : MG) : ev 253 22 [some (vR x), a1, a2] st μ G = ev 253 23 [some (vR x), a1, a2] (vR x :: st) μ G := ev_stp pg_253_22 rfl
theorem pg_253_23 : mm_prog 253 23 = some (0, .iload_n 1, 24, []) := by decide +kernel
theorem xe_253_23 (a0 a2 : Option MV) (x : Int) (st : List MV) (μ : MM) (G : MG) : ev 253 23 [a0, some (vI x), a2] st μ G = ev 253 24 [a0, some (vI x), a2] (vI x :: st) μ G := ev_stp pg_253_23 rfl
theorem pg_253_38 : mm_prog 253 38 = some (2, .return_, 39, []) := by decide +kernel
theorem xe_253_38 (a0 a1 a2 : Option MV) (μ : MM) (G : MG) : ev 253 38 [a0, a1, a2] [] μ G = some (none, μ, G) := ev_ret pg_253_38 rfl
-- J5_setLength_d00df
theorem pg_254_0 : mm_prog 254 0 = some (0, .iload_n 1, 1, []) := by decide +kernel
theorem xe_254_0 (a0 : Option MV) (x : Int) (st : List MV) (μ : MM) (G : MG) : ev 254 0 [a0, some (vI x)] st μ G = ev 254 1 [a0, some (vI x)] (vI x :: st) μ G := ev_stp pg_254_0 rfl
theorem pg_254_1 : mm_prog 254 1 = some (0, .ifCond .ge 12, 4, []) := by decide +kernel
theorem xe_254_1 (a0 a1 : Option MV) (x : Int) (st : List MV) (μ : MM) (G : MG) : ev 254 1 [a0, a1] (vI x :: st) μ G = if 0 ≤ x then ev 254 13 [a0, a1] st μ G else ev 254 4 [a0, a1] st μ G := ev_br (mm_cnd_ge x 0) pg_254_1 rfl
theorem pg_254_13 : mm_prog 254 13 = some (0, .aload_n 0, 14, []) := by decide +kernel
theorem xe_254_13 (a1 : Option MV) (x : Int) (st : List MV) (μ : MM) (G : MG) : ev 254 13 [some (vR x), a1] st μ G = ev 254 14 [some (vR x), a1] (vR x :: st) μ G := ev_stp pg_254_13 rfl
theorem pg_254_14 : mm_prog 254 14 = some (0, .iload_n 1, 15, []) := by decide +kernel
theorem xe_254_14 (a0 : Option MV) (x : Int) (st : List MV) (μ : MM) (G : MG) : ev 254 14 [a0, some (vI x)] st μ G = ev 254 15 [a0, some (vI x)] (vI x :: st) μ G := ev_stp pg_254_14 rfl
theorem pg_254_15 : mm_prog 254 15 = some (1, .invokevirtual 100, 18, [1, 253, 1, 12]) := by decide +kernel
theorem xe_254_15 (a0 a1 : Option MV) (x0 z : Int) (μ : MM) (G : MG) : ev 254 15 [a0, a1] (vI x0 :: vR z :: []) μ G = if gk G z = 12 ∧ 0 < z then (ev 253 0 [some (vR z), some (vI x0), none] [] μ G).bind (fun q => ev 254 18 [a0, a1] (q.1.toList ++ []) q.2.1 q.2.2) else none := ev_calV (as := [vR z, vI x0]) (r := []) mx_253 pg_254_15 rfl rfl (Nat.le_of_ble_eq_true rfl) (Nat.le_of_ble_eq_true rfl)
theorem pg_254_18 : mm_prog 254 18 = some (0, .aload_n 0, 19, []) := by decide +kernel
theorem xe_254_18 (a1 : Option MV) (x : Int) (st : List MV) (μ : MM) (G : MG) : ev 254 18 [some (vR x), a1] st μ G = ev 254 19 [some (vR x), a1] (vR x :: st) μ G := ev_stp pg_254_18 rfl
theorem pg_254_19 : mm_prog 254 19 = some (0, .getfield 79, 22, [12, 3, 0]) := by decide +kernel
theorem xe_254_19 (a0 a1 : Option MV) (x : Int) (st : List MV) (μ : MM) (G : MG) : ev 254 19 [a0, a1] (vR x :: st) μ G = if gk G x = 12 then ev 254 22 [a0, a1] (vI (μ x 3) :: st) μ G else none := ev_if pg_254_19 rfl
theorem pg_254_22 : mm_prog 254 22 = some (0, .iload_n 1, 23, []) := by decide +kernel
theorem xe_254_22 (a0 : Option MV) (x : Int) (st : List MV) (μ : MM) (G : MG) : ev 254 22 [a0, some (vI x)] st μ G = ev 254 23 [a0, some (vI x)] (vI x :: st) μ G := ev_stp pg_254_22 rfl
theorem pg_254_23 : mm_prog 254 23 = some (0, .if_icmp .ge 40, 26, []) := by decide +kernel
theorem xe_254_23 (a0 a1 : Option MV) (x y : Int) (st : List MV) (μ : MM) (G : MG) : ev 254 23 [a0, a1] (vI y :: vI x :: st) μ G = if y ≤ x then ev 254 63 [a0, a1] st μ G else ev 254 26 [a0, a1] st μ G := ev_br (mm_cnd_ge x y) pg_254_23 rfl
theorem pg_254_26 : mm_prog 254 26 = some (0, .aload_n 0, 27, []) := by decide +kernel
theorem xe_254_26 (a1 : Option MV) (x : Int) (st : List MV) (μ : MM) (G : MG) : ev 254 26 [some (vR x), a1] st μ G = ev 254 27 [some (vR x), a1] (vR x :: st) μ G := ev_stp pg_254_26 rfl
theorem pg_254_27 : mm_prog 254 27 = some (1, .invokevirtual 83, 30, [1, 258, 0, 12]) := by decide +kernel
theorem xe_254_27 (a0 a1 : Option MV) (z : Int) (μ : MM) (G : MG) : ev 254 27 [a0, a1] (vR z :: []) μ G = if gk G z = 12 ∧ 0 < z then (ev 258 0 [some (vR z)] [] μ G).bind (fun q => ev 254 30 [a0, a1] (q.1.toList ++ []) q.2.1 q.2.2) else none := ev_calV (as := [vR z]) (r := []) mx_258 pg_254_27 rfl rfl (Nat.le_of_ble_eq_true rfl) (Nat.le_of_ble_eq_true rfl)
theorem pg_254_30 : mm_prog 254 30 = some (0, .ifCond .eq 18, 33, []) := by decide +kernel
theorem xe_254_30 (a0 a1 : Option MV) (x : Int) (st : List MV) (μ : MM) (G : MG) : ev 254 30 [a0, a1] (vI x :: st) μ G = if x = 0 then ev 254 48 [a0, a1] st μ G else ev 254 33 [a0, a1] st μ G := ev_br (mm_cnd_eq x 0) pg_254_30 rfl
theorem pg_254_33 : mm_prog 254 33 = some (0, .aload_n 0, 34, []) := by decide +kernel
theorem xe_254_33 (a1 : Option MV) (x : Int) (st : List MV) (μ : MM) (G : MG) : ev 254 33 [some (vR x), a1] st μ G = ev 254 34 [some (vR x), a1] (vR x :: st) μ G := ev_stp pg_254_33 rfl
theorem pg_254_34 : mm_prog 254 34 = some (0, .getfield 15, 37, [12, 0, 2]) := by decide +kernel
theorem xe_254_34 (a0 a1 : Option MV) (x : Int) (st : List MV) (μ : MM) (G : MG) : ev 254 34 [a0, a1] (vR x :: st) μ G = if gk G x = 12 then ev 254 37 [a0, a1] (vR (μ x 0) :: st) μ G else none := ev_if pg_254_34 rfl
theorem pg_254_37 : mm_prog 254 37 = some (0, .aload_n 0, 38, []) := by decide +kernel
theorem xe_254_37 (a1 : Option MV) (x : Int) (st : List MV) (μ : MM) (G : MG) : ev 254 37 [some (vR x), a1] st μ G = ev 254 38 [some (vR x), a1] (vR x :: st) μ G := ev_stp pg_254_37 rfl
theorem pg_254_38 : mm_prog 254 38 = some (0, .getfield 79, 41, [12, 3, 0]) := by decide +kernel
theorem xe_254_38 (a0 a1 : Option MV) (x : Int) (st : List MV) (μ : MM) (G : MG) : ev 254 38 [a0, a1] (vR x :: st) μ G = if gk G x = 12 then ev 254 41 [a0, a1] (vI (μ x 3) :: st) μ G else none := ev_if pg_254_38 rfl
theorem pg_254_41 : mm_prog 254 41 = some (0, .iload_n 1, 42, []) := by decide +kernel
theorem xe_254_41 (a0 : Option MV) (x : Int) (st : List MV) (μ : MM) (G : MG) : ev 254 41 [a0, some (vI x)] st μ G = ev 254 42 [a0, some (vI x)] (vI x :: st) μ G := ev_stp pg_254_41 rfl
theorem pg_254_48 : mm_prog 254 48 = some (0, .aload_n 0, 49, []) := by decide +kernel
theorem xe_254_48 (a1 : Option MV) (x : Int) (st : List MV) (μ : MM) (G : MG) : ev 254 48 [some (vR x), a1] st μ G = ev 254 49 [some (vR x), a1] (vR x :: st) μ G := ev_stp pg_254_48 rfl
theorem pg_254_49 : mm_prog 254 49 = some (0, .getfield 15, 52, [12, 0, 2]) := by decide +kernel
theorem xe_254_49 (a0 a1 : Option MV) (x : Int) (st : List MV) (μ : MM) (G : MG) : ev 254 49 [a0, a1] (vR x :: st) μ G = if gk G x = 12 then ev 254 52 [a0, a1] (vR (μ x 0) :: st) μ G else none := ev_if pg_254_49 rfl
theorem pg_254_52 : mm_prog 254 52 = some (0, .aload_n 0, 53, []) := by decide +kernel
theorem xe_254_52 (a1 : Option MV) (x : Int) (st : List MV) (μ : MM) (G : MG) : ev 254 52 [some (vR x), a1] st μ G = ev 254 53 [some (vR x), a1] (vR x :: st) μ G := ev_stp pg_254_52 rfl
theorem pg_254_53 : mm_prog 254 53 = some (0, .getfield 79, 56, [12, 3, 0]) := by decide +kernel
theorem xe_254_53 (a0 a1 : Option MV) (x : Int) (st : List MV) (μ : MM) (G : MG) : ev 254 53 [a0, a1] (vR x :: st) μ G = if gk G x = 12 then ev 254 56 [a0, a1] (vI (μ x 3) :: st) μ G else none := ev_if pg_254_53 rfl
theorem pg_254_56 : mm_prog 254 56 = some (0, .iload_n 1, 57, []) := by decide +kernel
theorem xe_254_56 (a0 : Option MV) (x : Int) (st : List MV) (μ : MM) (G : MG) : ev 254 56 [a0, some (vI x)] st μ G = ev 254 57 [a0, some (vI x)] (vI x :: st) μ G := ev_stp pg_254_56 rfl
theorem pg_254_63 : mm_prog 254 63 = some (0, .aload_n 0, 64, []) := by decide +kernel
theorem xe_254_63 (a1 : Option MV) (x : Int) (st : List MV) (μ : MM) (G : MG) : ev 254 63 [some (vR x), a1] st μ G = ev 254 64 [some (vR x), a1] (vR x :: st) μ G := ev_stp pg_254_63 rfl
theorem pg_254_64 : mm_prog 254 64 = some (0, .getfield 79, 67, [12, 3, 0]) := by decide +kernel
theorem xe_254_64 (a0 a1 : Option MV) (x : Int) (st : List MV) (μ : MM) (G : MG) : ev 254 64 [a0, a1] (vR x :: st) μ G = if gk G x = 12 then ev 254 67 [a0, a1] (vI (μ x 3) :: st) μ G else none := ev_if pg_254_64 rfl
theorem pg_254_67 : mm_prog 254 67 = some (0, .iload_n 1, 68, []) := by decide +kernel
theorem xe_254_67 (a0 : Option MV) (x : Int) (st : List MV) (μ : MM) (G : MG) : ev 254 67 [a0, some (vI x)] st μ G = ev 254 68 [a0, some (vI x)] (vI x :: st) μ G := ev_stp pg_254_67 rfl
theorem pg_254_68 : mm_prog 254 68 = some (0, .if_icmp .le 8, 71, []) := by decide +kernel
theorem xe_254_68 (a0 a1 : Option MV) (x y : Int) (st : List MV) (μ : MM) (G : MG) : ev 254 68 [a0, a1] (vI y :: vI x :: st) μ G = if x ≤ y then ev 254 76 [a0, a1] st μ G else ev 254 71 [a0, a1] st μ G := ev_br (mm_cnd_le x y) pg_254_68 rfl
theorem pg_254_71 : mm_prog 254 71 = some (0, .aload_n 0, 72, []) := by decide +kernel
theorem xe_254_71 (a1 : Option MV) (x : Int) (st : List MV) (μ : MM) (G : MG) : ev 254 71 [some (vR x), a1] st μ G = ev 254 72 [some (vR x), a1] (vR x :: st) μ G := ev_stp pg_254_71 rfl
theorem pg_254_72 : mm_prog 254 72 = some (0, .iconst 1, 73, []) := by decide +kernel
theorem xe_254_72 (a0 a1 : Option MV) (st : List MV) (μ : MM) (G : MG) : ev 254 72 [a0, a1] st μ G = ev 254 73 [a0, a1] (vI (1) :: st) μ G := ev_stp pg_254_72 rfl
theorem pg_254_73 : mm_prog 254 73 = some (0, .putfield 73, 76, [12, 2, 1]) := by decide +kernel
theorem xe_254_73 (a0 a1 : Option MV) (x y : Int) (st : List MV) (μ : MM) (G : MG) : ev 254 73 [a0, a1] (vI x :: vR y :: st) μ G = if gk G y = 12 ∧ (x = 0 ∨ x = 1) then ev 254 76 [a0, a1] st (mset μ y 2 x) G else none := ev_put1 pg_254_73
theorem pg_254_76 : mm_prog 254 76 = some (0, .aload_n 0, 77, []) := by decide +kernel
theorem xe_254_76 (a1 : Option MV) (x : Int) (st : List MV) (μ : MM) (G : MG) : ev 254 76 [some (vR x), a1] st μ G = ev 254 77 [some (vR x), a1] (vR x :: st) μ G := ev_stp pg_254_76 rfl
theorem pg_254_77 : mm_prog 254 77 = some (0, .iload_n 1, 78, []) := by decide +kernel
theorem xe_254_77 (a0 : Option MV) (x : Int) (st : List MV) (μ : MM) (G : MG) : ev 254 77 [a0, some (vI x)] st μ G = ev 254 78 [a0, some (vI x)] (vI x :: st) μ G := ev_stp pg_254_77 rfl
theorem pg_254_78 : mm_prog 254 78 = some (0, .putfield 79, 81, [12, 3, 0]) := by decide +kernel
theorem xe_254_78 (a0 a1 : Option MV) (x y : Int) (st : List MV) (μ : MM) (G : MG) : ev 254 78 [a0, a1] (vI x :: vR y :: st) μ G = if gk G y = 12 then ev 254 81 [a0, a1] st (mset μ y 3 x) G else none := ev_put0 pg_254_78
theorem pg_254_81 : mm_prog 254 81 = some (2, .return_, 82, []) := by decide +kernel
theorem xe_254_81 (a0 a1 : Option MV) (μ : MM) (G : MG) : ev 254 81 [a0, a1] [] μ G = some (none, μ, G) := ev_ret pg_254_81 rfl
-- J5_charAt_5068e
theorem pg_255_0 : mm_prog 255 0 = some (0, .aload_n 0, 1, []) := by decide +kernel
theorem xe_255_0 (a1 a2 a3 a4 : Option MV) (x : Int) (st : List MV) (μ : MM) (G : MG) : ev 255 0 [some (vR x), a1, a2, a3, a4] st μ G = ev 255 1 [some (vR x), a1, a2, a3, a4] (vR x :: st) μ G := ev_stp pg_255_0 rfl
theorem pg_255_1 : mm_prog 255 1 = some (0, .getfield 22, 4, [12, 1, 3]) := by decide +kernel
theorem xe_255_1 (a0 a1 a2 a3 a4 : Option MV) (x : Int) (st : List MV) (μ : MM) (G : MG) : ev 255 1 [a0, a1, a2, a3, a4] (vR x :: st) μ G = if gk G x = 12 then ev 255 4 [a0, a1, a2, a3, a4] (vI (μ x 1) :: st) μ G else none := ev_if pg_255_1 rfl
theorem pg_255_4 : mm_prog 255 4 = some (0, .istore_n 2, 5, []) := by decide +kernel
theorem xe_255_4 (a0 a1 a2 a3 a4 : Option MV) (x : Int) (st : List MV) (μ : MM) (G : MG) (h : mm_nL a1 = true) : ev 255 4 [a0, a1, a2, a3, a4] (vI x :: st) μ G = ev 255 5 [a0, a1, some (vI x), a3, a4] st μ G := ev_st pg_255_4 rfl (mm_nl_of h) (Nat.le_of_ble_eq_true rfl)
theorem pg_255_5 : mm_prog 255 5 = some (0, .aload_n 0, 6, []) := by decide +kernel
theorem xe_255_5 (a1 a2 a3 a4 : Option MV) (x : Int) (st : List MV) (μ : MM) (G : MG) : ev 255 5 [some (vR x), a1, a2, a3, a4] st μ G = ev 255 6 [some (vR x), a1, a2, a3, a4] (vR x :: st) μ G := ev_stp pg_255_5 rfl
theorem pg_255_6 : mm_prog 255 6 = some (0, .getfield 15, 9, [12, 0, 2]) := by decide +kernel
theorem xe_255_6 (a0 a1 a2 a3 a4 : Option MV) (x : Int) (st : List MV) (μ : MM) (G : MG) : ev 255 6 [a0, a1, a2, a3, a4] (vR x :: st) μ G = if gk G x = 12 then ev 255 9 [a0, a1, a2, a3, a4] (vR (μ x 0) :: st) μ G else none := ev_if pg_255_6 rfl
theorem pg_255_9 : mm_prog 255 9 = some (0, .astore_n 3, 10, []) := by decide +kernel
theorem xe_255_9 (a0 a1 a2 a3 a4 : Option MV) (x : Int) (st : List MV) (μ : MM) (G : MG) (h : mm_nL a2 = true) : ev 255 9 [a0, a1, a2, a3, a4] (vR x :: st) μ G = ev 255 10 [a0, a1, a2, some (vR x), a4] st μ G := ev_st pg_255_9 rfl (mm_nl_of h) (Nat.le_of_ble_eq_true rfl)
theorem pg_255_10 : mm_prog 255 10 = some (0, .aload_n 0, 11, []) := by decide +kernel
theorem xe_255_10 (a1 a2 a3 a4 : Option MV) (x : Int) (st : List MV) (μ : MM) (G : MG) : ev 255 10 [some (vR x), a1, a2, a3, a4] st μ G = ev 255 11 [some (vR x), a1, a2, a3, a4] (vR x :: st) μ G := ev_stp pg_255_10 rfl
theorem pg_255_11 : mm_prog 255 11 = some (0, .getfield 79, 14, [12, 3, 0]) := by decide +kernel
theorem xe_255_11 (a0 a1 a2 a3 a4 : Option MV) (x : Int) (st : List MV) (μ : MM) (G : MG) : ev 255 11 [a0, a1, a2, a3, a4] (vR x :: st) μ G = if gk G x = 12 then ev 255 14 [a0, a1, a2, a3, a4] (vI (μ x 3) :: st) μ G else none := ev_if pg_255_11 rfl
theorem pg_255_14 : mm_prog 255 14 = some (0, .aload_n 3, 15, []) := by decide +kernel
theorem xe_255_14 (a0 a1 a2 a4 : Option MV) (x : Int) (st : List MV) (μ : MM) (G : MG) : ev 255 14 [a0, a1, a2, some (vR x), a4] st μ G = ev 255 15 [a0, a1, a2, some (vR x), a4] (vR x :: st) μ G := ev_stp pg_255_14 rfl
theorem pg_255_15 : mm_prog 255 15 = some (0, .arraylength, 16, []) := by decide +kernel
theorem xe_255_15 (a0 a1 a2 a3 a4 : Option MV) (x : Int) (st : List MV) (μ : MM) (G : MG) : ev 255 15 [a0, a1, a2, a3, a4] (vR x :: st) μ G = if 100 ≤ gk G x then ev 255 16 [a0, a1, a2, a3, a4] (vI (gl G x) :: st) μ G else none := ev_if pg_255_15 rfl
theorem pg_255_16 : mm_prog 255 16 = some (0, .iload_n 2, 17, []) := by decide +kernel
theorem xe_255_16 (a0 a1 a3 a4 : Option MV) (x : Int) (st : List MV) (μ : MM) (G : MG) : ev 255 16 [a0, a1, some (vI x), a3, a4] st μ G = ev 255 17 [a0, a1, some (vI x), a3, a4] (vI x :: st) μ G := ev_stp pg_255_16 rfl
theorem pg_255_17 : mm_prog 255 17 = some (0, .ishr, 18, []) := by decide +kernel
theorem xe_255_17 (a0 a1 a2 a3 a4 : Option MV) (x y : Int) (st : List MV) (μ : MM) (G : MG) : ev 255 17 [a0, a1, a2, a3, a4] (vI y :: vI x :: st) μ G = ev 255 18 [a0, a1, a2, a3, a4] (vI (mm_shr x y) :: st) μ G := ev_stp pg_255_17 rfl
theorem pg_255_18 : mm_prog 255 18 = some (0, .invokestatic 138, 21, [0, 0]) := by decide +kernel
theorem xe_255_18 (a0 a1 a2 a3 a4 : Option MV) (x y : Int) (st : List MV) (μ : MM) (G : MG) : ev 255 18 [a0, a1, a2, a3, a4] (vI y :: vI x :: st) μ G = if mm_cats st ≤ 8 then ev 255 21 [a0, a1, a2, a3, a4] (vI (min x y) :: st) μ G else none := ev_if pg_255_18 rfl
theorem pg_255_21 : mm_prog 255 21 = some (0, .istore 4, 23, []) := by decide +kernel
theorem xe_255_21 (a0 a1 a2 a3 a4 : Option MV) (x : Int) (st : List MV) (μ : MM) (G : MG) (h : mm_nL a3 = true) : ev 255 21 [a0, a1, a2, a3, a4] (vI x :: st) μ G = ev 255 23 [a0, a1, a2, a3, some (vI x)] st μ G := ev_st pg_255_21 rfl (mm_nl_of h) (Nat.le_of_ble_eq_true rfl)
theorem pg_255_23 : mm_prog 255 23 = some (0, .iload_n 1, 24, []) := by decide +kernel
theorem xe_255_23 (a0 a2 a3 a4 : Option MV) (x : Int) (st : List MV) (μ : MM) (G : MG) : ev 255 23 [a0, some (vI x), a2, a3, a4] st μ G = ev 255 24 [a0, some (vI x), a2, a3, a4] (vI x :: st) μ G := ev_stp pg_255_23 rfl
theorem pg_255_24 : mm_prog 255 24 = some (0, .iload 4, 26, []) := by decide +kernel
theorem xe_255_24 (a0 a1 a2 a3 : Option MV) (x : Int) (st : List MV) (μ : MM) (G : MG) : ev 255 24 [a0, a1, a2, a3, some (vI x)] st μ G = ev 255 26 [a0, a1, a2, a3, some (vI x)] (vI x :: st) μ G := ev_stp pg_255_24 rfl
theorem pg_255_26 : mm_prog 255 26 = some (1, .invokestatic 144, 29, [0, 261, 2, 0]) := by decide +kernel
theorem xe_255_26 (a0 a1 a2 a3 a4 : Option MV) (x0 x1 : Int) (μ : MM) (G : MG) : ev 255 26 [a0, a1, a2, a3, a4] (vI x1 :: vI x0 :: []) μ G = (ev 261 0 [some (vI x0), some (vI x1)] [] μ G).bind (fun q => ev 255 29 [a0, a1, a2, a3, a4] (q.1.toList ++ []) q.2.1 q.2.2) := ev_calS (as := [vI x0, vI x1]) (r := []) mx_261 pg_255_26 rfl rfl (Nat.le_of_ble_eq_true rfl) (Nat.le_of_ble_eq_true rfl)
theorem pg_255_29 : mm_prog 255 29 = some (0, .iload_n 2, 30, []) := by decide +kernel
theorem xe_255_29 (a0 a1 a3 a4 : Option MV) (x : Int) (st : List MV) (μ : MM) (G : MG) : ev 255 29 [a0, a1, some (vI x), a3, a4] st μ G = ev 255 30 [a0, a1, some (vI x), a3, a4] (vI x :: st) μ G := ev_stp pg_255_29 rfl
theorem pg_255_30 : mm_prog 255 30 = some (0, .ifCond .ne 12, 33, []) := by decide +kernel
theorem xe_255_30 (a0 a1 a2 a3 a4 : Option MV) (x : Int) (st : List MV) (μ : MM) (G : MG) : ev 255 30 [a0, a1, a2, a3, a4] (vI x :: st) μ G = if ¬ x = 0 then ev 255 42 [a0, a1, a2, a3, a4] st μ G else ev 255 33 [a0, a1, a2, a3, a4] st μ G := ev_br (mm_cnd_ne x 0) pg_255_30 rfl
theorem pg_255_33 : mm_prog 255 33 = some (0, .aload_n 3, 34, []) := by decide +kernel
theorem xe_255_33 (a0 a1 a2 a4 : Option MV) (x : Int) (st : List MV) (μ : MM) (G : MG) : ev 255 33 [a0, a1, a2, some (vR x), a4] st μ G = ev 255 34 [a0, a1, a2, some (vR x), a4] (vR x :: st) μ G := ev_stp pg_255_33 rfl
theorem pg_255_34 : mm_prog 255 34 = some (0, .iload_n 1, 35, []) := by decide +kernel
theorem xe_255_34 (a0 a2 a3 a4 : Option MV) (x : Int) (st : List MV) (μ : MM) (G : MG) : ev 255 34 [a0, some (vI x), a2, a3, a4] st μ G = ev 255 35 [a0, some (vI x), a2, a3, a4] (vI x :: st) μ G := ev_stp pg_255_34 rfl
theorem pg_255_35 : mm_prog 255 35 = some (0, .baload, 36, []) := by decide +kernel
theorem xe_255_35 (a0 a1 a2 a3 a4 : Option MV) (x y : Int) (st : List MV) (μ : MM) (G : MG) : ev 255 35 [a0, a1, a2, a3, a4] (vI x :: vR y :: st) μ G = if gk G y = 101 ∧ 0 ≤ x ∧ x < gl G y then ev 255 36 [a0, a1, a2, a3, a4] (vI (μ y x) :: st) μ G else none := ev_if pg_255_35 rfl
theorem pg_255_36 : mm_prog 255 36 = some (0, .sipush 255, 39, []) := by decide +kernel
theorem xe_255_36 (a0 a1 a2 a3 a4 : Option MV) (st : List MV) (μ : MM) (G : MG) : ev 255 36 [a0, a1, a2, a3, a4] st μ G = ev 255 39 [a0, a1, a2, a3, a4] (vI (255) :: st) μ G := ev_stp pg_255_36 rfl
theorem pg_255_39 : mm_prog 255 39 = some (0, .iand, 40, []) := by decide +kernel
theorem xe_255_39 (a0 a1 a2 a3 a4 : Option MV) (x y : Int) (st : List MV) (μ : MM) (G : MG) : ev 255 39 [a0, a1, a2, a3, a4] (vI y :: vI x :: st) μ G = ev 255 40 [a0, a1, a2, a3, a4] (vI (mm_and x y) :: st) μ G := ev_stp pg_255_39 rfl
theorem pg_255_40 : mm_prog 255 40 = some (0, .i2c, 41, []) := by decide +kernel
theorem xe_255_40 (a0 a1 a2 a3 a4 : Option MV) (x : Int) (st : List MV) (μ : MM) (G : MG) : ev 255 40 [a0, a1, a2, a3, a4] (vI x :: st) μ G = ev 255 41 [a0, a1, a2, a3, a4] (vI (mm_i2c x) :: st) μ G := ev_stp pg_255_40 rfl
theorem pg_255_41 : mm_prog 255 41 = some (2, .ireturn, 42, [5]) := by decide +kernel
theorem xe_255_41 (a0 a1 a2 a3 a4 : Option MV) (x : Int) (μ : MM) (G : MG) : ev 255 41 [a0, a1, a2, a3, a4] [vI x] μ G = if 0 ≤ x ∧ x < 65536 then some (some (vI x), μ, G) else none := ev_retC pg_255_41
theorem pg_255_42 : mm_prog 255 42 = some (0, .aload_n 3, 43, []) := by decide +kernel
theorem xe_255_42 (a0 a1 a2 a4 : Option MV) (x : Int) (st : List MV) (μ : MM) (G : MG) : ev 255 42 [a0, a1, a2, some (vR x), a4] st μ G = ev 255 43 [a0, a1, a2, some (vR x), a4] (vR x :: st) μ G := ev_stp pg_255_42 rfl
theorem pg_255_43 : mm_prog 255 43 = some (0, .iload_n 1, 44, []) := by decide +kernel
theorem xe_255_43 (a0 a2 a3 a4 : Option MV) (x : Int) (st : List MV) (μ : MM) (G : MG) : ev 255 43 [a0, some (vI x), a2, a3, a4] st μ G = ev 255 44 [a0, some (vI x), a2, a3, a4] (vI x :: st) μ G := ev_stp pg_255_43 rfl
-- J5_append_3fe6f
theorem pg_256_0 : mm_prog 256 0 = some (0, .aload_n 0, 1, []) := by decide +kernel
theorem xe_256_0 (a1 : Option MV) (x : Int) (st : List MV) (μ : MM) (G : MG) : ev 256 0 [some (vR x), a1] st μ G = ev 256 1 [some (vR x), a1] (vR x :: st) μ G := ev_stp pg_256_0 rfl
theorem pg_256_1 : mm_prog 256 1 = some (0, .aload_n 0, 2, []) := by decide +kernel
theorem xe_256_1 (a1 : Option MV) (x : Int) (st : List MV) (μ : MM) (G : MG) : ev 256 1 [some (vR x), a1] st μ G = ev 256 2 [some (vR x), a1] (vR x :: st) μ G := ev_stp pg_256_1 rfl
theorem pg_256_2 : mm_prog 256 2 = some (0, .getfield 79, 5, [12, 3, 0]) := by decide +kernel
theorem xe_256_2 (a0 a1 : Option MV) (x : Int) (st : List MV) (μ : MM) (G : MG) : ev 256 2 [a0, a1] (vR x :: st) μ G = if gk G x = 12 then ev 256 5 [a0, a1] (vI (μ x 3) :: st) μ G else none := ev_if pg_256_2 rfl
theorem pg_256_5 : mm_prog 256 5 = some (0, .iconst 1, 6, []) := by decide +kernel
theorem xe_256_5 (a0 a1 : Option MV) (st : List MV) (μ : MM) (G : MG) : ev 256 5 [a0, a1] st μ G = ev 256 6 [a0, a1] (vI (1) :: st) μ G := ev_stp pg_256_5 rfl
theorem pg_256_6 : mm_prog 256 6 = some (0, .iadd, 7, []) := by decide +kernel
theorem xe_256_6 (a0 a1 : Option MV) (x y : Int) (st : List MV) (μ : MM) (G : MG) : ev 256 6 [a0, a1] (vI y :: vI x :: st) μ G = ev 256 7 [a0, a1] (vI (w32 (x + y)) :: st) μ G := ev_stp pg_256_6 rfl
theorem pg_256_7 : mm_prog 256 7 = some (1, .invokevirtual 100, 10, [1, 253, 1, 12]) := by decide +kernel
theorem xe_256_7 (a0 a1 : Option MV) (x0 z : Int) (μ : MM) (G : MG) : ev 256 7 [a0, a1] (vI x0 :: vR z :: []) μ G = if gk G z = 12 ∧ 0 < z then (ev 253 0 [some (vR z), some (vI x0), none] [] μ G).bind (fun q => ev 256 10 [a0, a1] (q.1.toList ++ []) q.2.1 q.2.2) else none := ev_calV (as := [vR z, vI x0]) (r := []) mx_253 pg_256_7 rfl rfl (Nat.le_of_ble_eq_true rfl) (Nat.le_of_ble_eq_true rfl)
theorem pg_256_10 : mm_prog 256 10 = some (0, .aload_n 0, 11, []) := by decide +kernel
theorem xe_256_10 (a1 : Option MV) (x : Int) (st : List MV) (μ : MM) (G : MG) : ev 256 10 [some (vR x), a1] st μ G = ev 256 11 [some (vR x), a1] (vR x :: st) μ G := ev_stp pg_256_10 rfl
theorem pg_256_11 : mm_prog 256 11 = some (1, .invokevirtual 83, 14, [1, 258, 0, 12]) := by decide +kernel
theorem xe_256_11 (a0 a1 : Option MV) (z : Int) (μ : MM) (G : MG) : ev 256 11 [a0, a1] (vR z :: []) μ G = if gk G z = 12 ∧ 0 < z then (ev 258 0 [some (vR z)] [] μ G).bind (fun q => ev 256 14 [a0, a1] (q.1.toList ++ []) q.2.1 q.2.2) else none := ev_calV (as := [vR z]) (r := []) mx_258 pg_256_11 rfl rfl (Nat.le_of_ble_eq_true rfl) (Nat.le_of_ble_eq_true rfl)
theorem pg_256_14 : mm_prog 256 14 = some (0, .ifCond .eq 31, 17, []) := by decide +kernel
theorem xe_256_14 (a0 a1 : Option MV) (x : Int) (st : List MV) (μ : MM) (G : MG) : ev 256 14 [a0, a1] (vI x :: st) μ G = if x = 0 then ev 256 45 [a0, a1] st μ G else ev 256 17 [a0, a1] st μ G := ev_br (mm_cnd_eq x 0) pg_256_14 rfl
theorem pg_256_17 : mm_prog 256 17 = some (0, .iload_n 1, 18, []) := by decide +kernel
theorem xe_256_17 (a0 : Option MV) (x : Int) (st : List MV) (μ : MM) (G : MG) : ev 256 17 [a0, some (vI x)] st μ G = ev 256 18 [a0, some (vI x)] (vI x :: st) μ G := ev_stp pg_256_17 rfl
theorem pg_256_18 : mm_prog 256 18 = some (1, .invokestatic 191, 21, [0, 262, 1, 0]) := by decide +kernel
theorem xe_256_18 (a0 a1 : Option MV) (x0 : Int) (μ : MM) (G : MG) : ev 256 18 [a0, a1] (vI x0 :: []) μ G = (ev 262 0 [some (vI x0)] [] μ G).bind (fun q => ev 256 21 [a0, a1] (q.1.toList ++ []) q.2.1 q.2.2) := ev_calS (as := [vI x0]) (r := []) mx_262 pg_256_18 rfl rfl (Nat.le_of_ble_eq_true rfl) (Nat.le_of_ble_eq_true rfl)
theorem pg_256_21 : mm_prog 256 21 = some (0, .ifCond .eq 24, 24, []) := by decide +kernel
theorem xe_256_21 (a0 a1 : Option MV) (x : Int) (st : List MV) (μ : MM) (G : MG) : ev 256 21 [a0, a1] (vI x :: st) μ G = if x = 0 then ev 256 45 [a0, a1] st μ G else ev 256 24 [a0, a1] st μ G := ev_br (mm_cnd_eq x 0) pg_256_21 rfl
theorem pg_256_24 : mm_prog 256 24 = some (0, .aload_n 0, 25, []) := by decide +kernel
theorem xe_256_24 (a1 : Option MV) (x : Int) (st : List MV) (μ : MM) (G : MG) : ev 256 24 [some (vR x), a1] st μ G = ev 256 25 [some (vR x), a1] (vR x :: st) μ G := ev_stp pg_256_24 rfl
theorem pg_256_25 : mm_prog 256 25 = some (0, .getfield 15, 28, [12, 0, 2]) := by decide +kernel
theorem xe_256_25 (a0 a1 : Option MV) (x : Int) (st : List MV) (μ : MM) (G : MG) : ev 256 25 [a0, a1] (vR x :: st) μ G = if gk G x = 12 then ev 256 28 [a0, a1] (vR (μ x 0) :: st) μ G else none := ev_if pg_256_25 rfl
theorem pg_256_28 : mm_prog 256 28 = some (0, .aload_n 0, 29, []) := by decide +kernel
theorem xe_256_28 (a1 : Option MV) (x : Int) (st : List MV) (μ : MM) (G : MG) : ev 256 28 [some (vR x), a1] st μ G = ev 256 29 [some (vR x), a1] (vR x :: st) μ G := ev_stp pg_256_28 rfl
theorem pg_256_29 : mm_prog 256 29 = some (0, .dup, 30, []) := by decide +kernel
theorem xe_256_29 (a0 a1 : Option MV) (x : Int) (st : List MV) (μ : MM) (G : MG) : ev 256 29 [a0, a1] (vR x :: st) μ G = ev 256 30 [a0, a1] (vR x :: vR x :: st) μ G := ev_stp pg_256_29 rfl
theorem pg_256_30 : mm_prog 256 30 = some (0, .getfield 79, 33, [12, 3, 0]) := by decide +kernel
theorem xe_256_30 (a0 a1 : Option MV) (x : Int) (st : List MV) (μ : MM) (G : MG) : ev 256 30 [a0, a1] (vR x :: st) μ G = if gk G x = 12 then ev 256 33 [a0, a1] (vI (μ x 3) :: st) μ G else none := ev_if pg_256_30 rfl
theorem pg_256_33 : mm_prog 256 33 = some (0, .dup_x1, 34, []) := by decide +kernel
theorem xe_256_33 (a0 a1 : Option MV) (x y : Int) (st : List MV) (μ : MM) (G : MG) : ev 256 33 [a0, a1] (vI x :: vR y :: st) μ G = ev 256 34 [a0, a1] (vI x :: vR y :: vI x :: st) μ G := ev_stp pg_256_33 rfl
theorem pg_256_34 : mm_prog 256 34 = some (0, .iconst 1, 35, []) := by decide +kernel
theorem xe_256_34 (a0 a1 : Option MV) (st : List MV) (μ : MM) (G : MG) : ev 256 34 [a0, a1] st μ G = ev 256 35 [a0, a1] (vI (1) :: st) μ G := ev_stp pg_256_34 rfl
theorem pg_256_35 : mm_prog 256 35 = some (0, .iadd, 36, []) := by decide +kernel
theorem xe_256_35 (a0 a1 : Option MV) (x y : Int) (st : List MV) (μ : MM) (G : MG) : ev 256 35 [a0, a1] (vI y :: vI x :: st) μ G = ev 256 36 [a0, a1] (vI (w32 (x + y)) :: st) μ G := ev_stp pg_256_35 rfl
theorem pg_256_36 : mm_prog 256 36 = some (0, .putfield 79, 39, [12, 3, 0]) := by decide +kernel
theorem xe_256_36 (a0 a1 : Option MV) (x y : Int) (st : List MV) (μ : MM) (G : MG) : ev 256 36 [a0, a1] (vI x :: vR y :: st) μ G = if gk G y = 12 then ev 256 39 [a0, a1] st (mset μ y 3 x) G else none := ev_put0 pg_256_36
theorem pg_256_39 : mm_prog 256 39 = some (0, .iload_n 1, 40, []) := by decide +kernel
theorem xe_256_39 (a0 : Option MV) (x : Int) (st : List MV) (μ : MM) (G : MG) : ev 256 39 [a0, some (vI x)] st μ G = ev 256 40 [a0, some (vI x)] (vI x :: st) μ G := ev_stp pg_256_39 rfl
theorem pg_256_40 : mm_prog 256 40 = some (0, .i2b, 41, []) := by decide +kernel
theorem xe_256_40 (a0 a1 : Option MV) (x : Int) (st : List MV) (μ : MM) (G : MG) : ev 256 40 [a0, a1] (vI x :: st) μ G = ev 256 41 [a0, a1] (vI (mm_i2b x) :: st) μ G := ev_stp pg_256_40 rfl
theorem pg_256_41 : mm_prog 256 41 = some (0, .bastore, 42, []) := by decide +kernel
theorem xe_256_41 (a0 a1 : Option MV) (x y z : Int) (st : List MV) (μ : MM) (G : MG) : ev 256 41 [a0, a1] (vI x :: vI y :: vR z :: st) μ G = if gk G z = 101 ∧ 0 ≤ y ∧ y < gl G z ∧ 10 ≤ z then ev 256 42 [a0, a1] st (mset μ z y (mm_i2b x)) G else none := ev_if pg_256_41 rfl
theorem pg_256_42 : mm_prog 256 42 = some (0, .goto 33, 45, []) := by decide +kernel
theorem xe_256_42 (a0 a1 : Option MV) (st : List MV) (μ : MM) (G : MG) : ev 256 42 [a0, a1] st μ G = ev 256 75 [a0, a1] st μ G := ev_stp pg_256_42 rfl
theorem pg_256_45 : mm_prog 256 45 = some (0, .aload_n 0, 46, []) := by decide +kernel
theorem xe_256_45 (a1 : Option MV) (x : Int) (st : List MV) (μ : MM) (G : MG) : ev 256 45 [some (vR x), a1] st μ G = ev 256 46 [some (vR x), a1] (vR x :: st) μ G := ev_stp pg_256_45 rfl
theorem pg_256_46 : mm_prog 256 46 = some (1, .invokevirtual 83, 49, [1, 258, 0, 12]) := by decide +kernel
theorem xe_256_46 (a0 a1 : Option MV) (z : Int) (μ : MM) (G : MG) : ev 256 46 [a0, a1] (vR z :: []) μ G = if gk G z = 12 ∧ 0 < z then (ev 258 0 [some (vR z)] [] μ G).bind (fun q => ev 256 49 [a0, a1] (q.1.toList ++ []) q.2.1 q.2.2) else none := ev_calV (as := [vR z]) (r := []) mx_258 pg_256_46 rfl rfl (Nat.le_of_ble_eq_true rfl) (Nat.le_of_ble_eq_true rfl)
theorem pg_256_49 : mm_prog 256 49 = some (0, .ifCond .eq 7, 52, []) := by decide +kernel
theorem xe_256_49 (a0 a1 : Option MV) (x : Int) (st : List MV) (μ : MM) (G : MG) : ev 256 49 [a0, a1] (vI x :: st) μ G = if x = 0 then ev 256 56 [a0, a1] st μ G else ev 256 52 [a0, a1] st μ G := ev_br (mm_cnd_eq x 0) pg_256_49 rfl
theorem pg_256_52 : mm_prog 256 52 = some (0, .aload_n 0, 53, []) := by decide +kernel
theorem xe_256_52 (a1 : Option MV) (x : Int) (st : List MV) (μ : MM) (G : MG) : ev 256 52 [some (vR x), a1] st μ G = ev 256 53 [some (vR x), a1] (vR x :: st) μ G := ev_stp pg_256_52 rfl
theorem pg_256_56 : mm_prog 256 56 = some (0, .aload_n 0, 57, []) := by decide +kernel
theorem xe_256_56 (a1 : Option MV) (x : Int) (st : List MV) (μ : MM) (G : MG) : ev 256 56 [some (vR x), a1] st μ G = ev 256 57 [some (vR x), a1] (vR x :: st) μ G := ev_stp pg_256_56 rfl
theorem pg_256_57 : mm_prog 256 57 = some (0, .getfield 15, 60, [12, 0, 2]) := by decide +kernel
theorem xe_256_57 (a0 a1 : Option MV) (x : Int) (st : List MV) (μ : MM) (G : MG) : ev 256 57 [a0, a1] (vR x :: st) μ G = if gk G x = 12 then ev 256 60 [a0, a1] (vR (μ x 0) :: st) μ G else none := ev_if pg_256_57 rfl
theorem pg_256_60 : mm_prog 256 60 = some (0, .aload_n 0, 61, []) := by decide +kernel
theorem xe_256_60 (a1 : Option MV) (x : Int) (st : List MV) (μ : MM) (G : MG) : ev 256 60 [some (vR x), a1] st μ G = ev 256 61 [some (vR x), a1] (vR x :: st) μ G := ev_stp pg_256_60 rfl
theorem pg_256_61 : mm_prog 256 61 = some (0, .dup, 62, []) := by decide +kernel
theorem xe_256_61 (a0 a1 : Option MV) (x : Int) (st : List MV) (μ : MM) (G : MG) : ev 256 61 [a0, a1] (vR x :: st) μ G = ev 256 62 [a0, a1] (vR x :: vR x :: st) μ G := ev_stp pg_256_61 rfl
theorem pg_256_62 : mm_prog 256 62 = some (0, .getfield 79, 65, [12, 3, 0]) := by decide +kernel
theorem xe_256_62 (a0 a1 : Option MV) (x : Int) (st : List MV) (μ : MM) (G : MG) : ev 256 62 [a0, a1] (vR x :: st) μ G = if gk G x = 12 then ev 256 65 [a0, a1] (vI (μ x 3) :: st) μ G else none := ev_if pg_256_62 rfl
theorem pg_256_65 : mm_prog 256 65 = some (0, .dup_x1, 66, []) := by decide +kernel
theorem xe_256_65 (a0 a1 : Option MV) (x y : Int) (st : List MV) (μ : MM) (G : MG) : ev 256 65 [a0, a1] (vI x :: vR y :: st) μ G = ev 256 66 [a0, a1] (vI x :: vR y :: vI x :: st) μ G := ev_stp pg_256_65 rfl
theorem pg_256_66 : mm_prog 256 66 = some (0, .iconst 1, 67, []) := by decide +kernel
theorem xe_256_66 (a0 a1 : Option MV) (st : List MV) (μ : MM) (G : MG) : ev 256 66 [a0, a1] st μ G = ev 256 67 [a0, a1] (vI (1) :: st) μ G := ev_stp pg_256_66 rfl
theorem pg_256_67 : mm_prog 256 67 = some (0, .iadd, 68, []) := by decide +kernel
theorem xe_256_67 (a0 a1 : Option MV) (x y : Int) (st : List MV) (μ : MM) (G : MG) : ev 256 67 [a0, a1] (vI y :: vI x :: st) μ G = ev 256 68 [a0, a1] (vI (w32 (x + y)) :: st) μ G := ev_stp pg_256_67 rfl
theorem pg_256_68 : mm_prog 256 68 = some (0, .putfield 79, 71, [12, 3, 0]) := by decide +kernel
theorem xe_256_68 (a0 a1 : Option MV) (x y : Int) (st : List MV) (μ : MM) (G : MG) : ev 256 68 [a0, a1] (vI x :: vR y :: st) μ G = if gk G y = 12 then ev 256 71 [a0, a1] st (mset μ y 3 x) G else none := ev_put0 pg_256_68
theorem pg_256_71 : mm_prog 256 71 = some (0, .iload_n 1, 72, []) := by decide +kernel
theorem xe_256_71 (a0 : Option MV) (x : Int) (st : List MV) (μ : MM) (G : MG) : ev 256 71 [a0, some (vI x)] st μ G = ev 256 72 [a0, some (vI x)] (vI x :: st) μ G := ev_stp pg_256_71 rfl
theorem pg_256_75 : mm_prog 256 75 = some (0, .aload_n 0, 76, []) := by decide +kernel
theorem xe_256_75 (a1 : Option MV) (x : Int) (st : List MV) (μ : MM) (G : MG) : ev 256 75 [some (vR x), a1] st μ G = ev 256 76 [some (vR x), a1] (vR x :: st) μ G := ev_stp pg_256_75 rfl
theorem pg_256_76 : mm_prog 256 76 = some (2, .areturn, 77, []) := by decide +kernel
theorem xe_256_76 (a0 a1 : Option MV) (x : Int) (μ : MM) (G : MG) : ev 256 76 [a0, a1] [vR x] μ G = some (some (vR x), μ, G) := ev_ret pg_256_76 rfl
-- J5_append_c97b9
theorem pg_257_0 : mm_prog 257 0 = some (0, .aload_n 0, 1, []) := by decide +kernel
theorem xe_257_0 (a1 a2 a3 : Option MV) (x : Int) (st : List MV) (μ : MM) (G : MG) : ev 257 0 [some (vR x), a1, a2, a3] st μ G = ev 257 1 [some (vR x), a1, a2, a3] (vR x :: st) μ G := ev_stp pg_257_0 rfl
theorem pg_257_1 : mm_prog 257 1 = some (0, .getfield 79, 4, [12, 3, 0]) := by decide +kernel
theorem xe_257_1 (a0 a1 a2 a3 : Option MV) (x : Int) (st : List MV) (μ : MM) (G : MG) : ev 257 1 [a0, a1, a2, a3] (vR x :: st) μ G = if gk G x = 12 then ev 257 4 [a0, a1, a2, a3] (vI (μ x 3) :: st) μ G else none := ev_if pg_257_1 rfl
theorem pg_257_4 : mm_prog 257 4 = some (0, .istore_n 2, 5, []) := by decide +kernel
theorem xe_257_4 (a0 a1 a2 a3 : Option MV) (x : Int) (st : List MV) (μ : MM) (G : MG) (h : mm_nL a1 = true) : ev 257 4 [a0, a1, a2, a3] (vI x :: st) μ G = ev 257 5 [a0, a1, some (vI x), a3] st μ G := ev_st pg_257_4 rfl (mm_nl_of h) (Nat.le_of_ble_eq_true rfl)
theorem pg_257_5 : mm_prog 257 5 = some (0, .iload_n 2, 6, []) := by decide +kernel
theorem xe_257_5 (a0 a1 a3 : Option MV) (x : Int) (st : List MV) (μ : MM) (G : MG) : ev 257 5 [a0, a1, some (vI x), a3] st μ G = ev 257 6 [a0, a1, some (vI x), a3] (vI x :: st) μ G := ev_stp pg_257_5 rfl
theorem pg_257_6 : mm_prog 257 6 = some (0, .iload_n 1, 7, []) := by decide +kernel
theorem xe_257_6 (a0 a2 a3 : Option MV) (x : Int) (st : List MV) (μ : MM) (G : MG) : ev 257 6 [a0, some (vI x), a2, a3] st μ G = ev 257 7 [a0, some (vI x), a2, a3] (vI x :: st) μ G := ev_stp pg_257_6 rfl
theorem pg_257_7 : mm_prog 257 7 = some (1, .invokestatic 245, 10, [0, 260, 1, 0]) := by decide +kernel
theorem xe_257_7 (a0 a1 a2 a3 : Option MV) (x0 r0 : Int) (μ : MM) (G : MG) : ev 257 7 [a0, a1, a2, a3] (vI x0 :: [vI r0]) μ G = (ev 260 0 [some (vI x0), none, none, none] [] μ G).bind (fun q => ev 257 10 [a0, a1, a2, a3] (q.1.toList ++ [vI r0]) q.2.1 q.2.2) := ev_calS (as := [vI x0]) (r := [vI r0]) mx_260 pg_257_7 rfl rfl (Nat.le_of_ble_eq_true rfl) (Nat.le_of_ble_eq_true rfl)
theorem pg_257_10 : mm_prog 257 10 = some (0, .iadd, 11, []) := by decide +kernel
theorem xe_257_10 (a0 a1 a2 a3 : Option MV) (x y : Int) (st : List MV) (μ : MM) (G : MG) : ev 257 10 [a0, a1, a2, a3] (vI y :: vI x :: st) μ G = ev 257 11 [a0, a1, a2, a3] (vI (w32 (x + y)) :: st) μ G := ev_stp pg_257_10 rfl
theorem pg_257_11 : mm_prog 257 11 = some (0, .istore_n 3, 12, []) := by decide +kernel
theorem xe_257_11 (a0 a1 a2 a3 : Option MV) (x : Int) (st : List MV) (μ : MM) (G : MG) (h : mm_nL a2 = true) : ev 257 11 [a0, a1, a2, a3] (vI x :: st) μ G = ev 257 12 [a0, a1, a2, some (vI x)] st μ G := ev_st pg_257_11 rfl (mm_nl_of h) (Nat.le_of_ble_eq_true rfl)
theorem pg_257_12 : mm_prog 257 12 = some (0, .aload_n 0, 13, []) := by decide +kernel
theorem xe_257_12 (a1 a2 a3 : Option MV) (x : Int) (st : List MV) (μ : MM) (G : MG) : ev 257 12 [some (vR x), a1, a2, a3] st μ G = ev 257 13 [some (vR x), a1, a2, a3] (vR x :: st) μ G := ev_stp pg_257_12 rfl
theorem pg_257_13 : mm_prog 257 13 = some (0, .iload_n 3, 14, []) := by decide +kernel
theorem xe_257_13 (a0 a1 a2 : Option MV) (x : Int) (st : List MV) (μ : MM) (G : MG) : ev 257 13 [a0, a1, a2, some (vI x)] st μ G = ev 257 14 [a0, a1, a2, some (vI x)] (vI x :: st) μ G := ev_stp pg_257_13 rfl
theorem pg_257_14 : mm_prog 257 14 = some (1, .invokevirtual 100, 17, [1, 253, 1, 12]) := by decide +kernel
theorem xe_257_14 (a0 a1 a2 a3 : Option MV) (x0 z : Int) (μ : MM) (G : MG) : ev 257 14 [a0, a1, a2, a3] (vI x0 :: vR z :: []) μ G = if gk G z = 12 ∧ 0 < z then (ev 253 0 [some (vR z), some (vI x0), none] [] μ G).bind (fun q => ev 257 17 [a0, a1, a2, a3] (q.1.toList ++ []) q.2.1 q.2.2) else none := ev_calV (as := [vR z, vI x0]) (r := []) mx_253 pg_257_14 rfl rfl (Nat.le_of_ble_eq_true rfl) (Nat.le_of_ble_eq_true rfl)
theorem pg_257_17 : mm_prog 257 17 = some (0, .aload_n 0, 18, []) := by decide +kernel
theorem xe_257_17 (a1 a2 a3 : Option MV) (x : Int) (st : List MV) (μ : MM) (G : MG) : ev 257 17 [some (vR x), a1, a2, a3] st μ G = ev 257 18 [some (vR x), a1, a2, a3] (vR x :: st) μ G := ev_stp pg_257_17 rfl
theorem pg_257_18 : mm_prog 257 18 = some (1, .invokevirtual 83, 21, [1, 258, 0, 12]) := by decide +kernel
theorem xe_257_18 (a0 a1 a2 a3 : Option MV) (z : Int) (μ : MM) (G : MG) : ev 257 18 [a0, a1, a2, a3] (vR z :: []) μ G = if gk G z = 12 ∧ 0 < z then (ev 258 0 [some (vR z)] [] μ G).bind (fun q => ev 257 21 [a0, a1, a2, a3] (q.1.toList ++ []) q.2.1 q.2.2) else none := ev_calV (as := [vR z]) (r := []) mx_258 pg_257_18 rfl rfl (Nat.le_of_ble_eq_true rfl) (Nat.le_of_ble_eq_true rfl)
theorem pg_257_21 : mm_prog 257 21 = some (0, .ifCond .eq 16, 24, []) := by decide +kernel
theorem xe_257_21 (a0 a1 a2 a3 : Option MV) (x : Int) (st : List MV) (μ : MM) (G : MG) : ev 257 21 [a0, a1, a2, a3] (vI x :: st) μ G = if x = 0 then ev 257 37 [a0, a1, a2, a3] st μ G else ev 257 24 [a0, a1, a2, a3] st μ G := ev_br (mm_cnd_eq x 0) pg_257_21 rfl
theorem pg_257_24 : mm_prog 257 24 = some (0, .iload_n 1, 25, []) := by decide +kernel
theorem xe_257_24 (a0 a2 a3 : Option MV) (x : Int) (st : List MV) (μ : MM) (G : MG) : ev 257 24 [a0, some (vI x), a2, a3] st μ G = ev 257 25 [a0, some (vI x), a2, a3] (vI x :: st) μ G := ev_stp pg_257_24 rfl
theorem pg_257_25 : mm_prog 257 25 = some (0, .iload_n 3, 26, []) := by decide +kernel
theorem xe_257_25 (a0 a1 a2 : Option MV) (x : Int) (st : List MV) (μ : MM) (G : MG) : ev 257 25 [a0, a1, a2, some (vI x)] st μ G = ev 257 26 [a0, a1, a2, some (vI x)] (vI x :: st) μ G := ev_stp pg_257_25 rfl
theorem pg_257_26 : mm_prog 257 26 = some (0, .aload_n 0, 27, []) := by decide +kernel
theorem xe_257_26 (a1 a2 a3 : Option MV) (x : Int) (st : List MV) (μ : MM) (G : MG) : ev 257 26 [some (vR x), a1, a2, a3] st μ G = ev 257 27 [some (vR x), a1, a2, a3] (vR x :: st) μ G := ev_stp pg_257_26 rfl
theorem pg_257_27 : mm_prog 257 27 = some (0, .getfield 15, 30, [12, 0, 2]) := by decide +kernel
theorem xe_257_27 (a0 a1 a2 a3 : Option MV) (x : Int) (st : List MV) (μ : MM) (G : MG) : ev 257 27 [a0, a1, a2, a3] (vR x :: st) μ G = if gk G x = 12 then ev 257 30 [a0, a1, a2, a3] (vR (μ x 0) :: st) μ G else none := ev_if pg_257_27 rfl
theorem pg_257_30 : mm_prog 257 30 = some (1, .invokestatic 248, 33, [0, 259, 3, 0]) := by decide +kernel
theorem xe_257_30 (a0 a1 a2 a3 : Option MV) (x0 x1 x2 : Int) (μ : MM) (G : MG) : ev 257 30 [a0, a1, a2, a3] (vR x2 :: vI x1 :: vI x0 :: []) μ G = (ev 259 0 [some (vI x0), some (vI x1), some (vR x2), none, none, none, none] [] μ G).bind (fun q => ev 257 33 [a0, a1, a2, a3] (q.1.toList ++ []) q.2.1 q.2.2) := ev_calS (as := [vI x0, vI x1, vR x2]) (r := []) mx_259 pg_257_30 rfl rfl (Nat.le_of_ble_eq_true rfl) (Nat.le_of_ble_eq_true rfl)
theorem pg_257_33 : mm_prog 257 33 = some (0, .pop, 34, []) := by decide +kernel
theorem xe_257_33 (a0 a1 a2 a3 : Option MV) (x : Int) (st : List MV) (μ : MM) (G : MG) : ev 257 33 [a0, a1, a2, a3] (vI x :: st) μ G = ev 257 34 [a0, a1, a2, a3] st μ G := ev_stp pg_257_33 rfl
theorem pg_257_34 : mm_prog 257 34 = some (0, .goto 14, 37, []) := by decide +kernel
theorem xe_257_34 (a0 a1 a2 a3 : Option MV) (st : List MV) (μ : MM) (G : MG) : ev 257 34 [a0, a1, a2, a3] st μ G = ev 257 48 [a0, a1, a2, a3] st μ G := ev_stp pg_257_34 rfl
theorem pg_257_37 : mm_prog 257 37 = some (0, .iload_n 1, 38, []) := by decide +kernel
theorem xe_257_37 (a0 a2 a3 : Option MV) (x : Int) (st : List MV) (μ : MM) (G : MG) : ev 257 37 [a0, some (vI x), a2, a3] st μ G = ev 257 38 [a0, some (vI x), a2, a3] (vI x :: st) μ G := ev_stp pg_257_37 rfl
theorem pg_257_38 : mm_prog 257 38 = some (0, .iload_n 2, 39, []) := by decide +kernel
theorem xe_257_38 (a0 a1 a3 : Option MV) (x : Int) (st : List MV) (μ : MM) (G : MG) : ev 257 38 [a0, a1, some (vI x), a3] st μ G = ev 257 39 [a0, a1, some (vI x), a3] (vI x :: st) μ G := ev_stp pg_257_38 rfl
theorem pg_257_39 : mm_prog 257 39 = some (0, .iload_n 3, 40, []) := by decide +kernel
theorem xe_257_39 (a0 a1 a2 : Option MV) (x : Int) (st : List MV) (μ : MM) (G : MG) : ev 257 39 [a0, a1, a2, some (vI x)] st μ G = ev 257 40 [a0, a1, a2, some (vI x)] (vI x :: st) μ G := ev_stp pg_257_39 rfl
theorem pg_257_40 : mm_prog 257 40 = some (0, .aload_n 0, 41, []) := by decide +kernel
theorem xe_257_40 (a1 a2 a3 : Option MV) (x : Int) (st : List MV) (μ : MM) (G : MG) : ev 257 40 [some (vR x), a1, a2, a3] st μ G = ev 257 41 [some (vR x), a1, a2, a3] (vR x :: st) μ G := ev_stp pg_257_40 rfl
theorem pg_257_41 : mm_prog 257 41 = some (0, .getfield 15, 44, [12, 0, 2]) := by decide +kernel
theorem xe_257_41 (a0 a1 a2 a3 : Option MV) (x : Int) (st : List MV) (μ : MM) (G : MG) : ev 257 41 [a0, a1, a2, a3] (vR x :: st) μ G = if gk G x = 12 then ev 257 44 [a0, a1, a2, a3] (vR (μ x 0) :: st) μ G else none := ev_if pg_257_41 rfl
theorem pg_257_48 : mm_prog 257 48 = some (0, .aload_n 0, 49, []) := by decide +kernel
theorem xe_257_48 (a1 a2 a3 : Option MV) (x : Int) (st : List MV) (μ : MM) (G : MG) : ev 257 48 [some (vR x), a1, a2, a3] st μ G = ev 257 49 [some (vR x), a1, a2, a3] (vR x :: st) μ G := ev_stp pg_257_48 rfl
theorem pg_257_49 : mm_prog 257 49 = some (0, .iload_n 3, 50, []) := by decide +kernel
theorem xe_257_49 (a0 a1 a2 : Option MV) (x : Int) (st : List MV) (μ : MM) (G : MG) : ev 257 49 [a0, a1, a2, some (vI x)] st μ G = ev 257 50 [a0, a1, a2, some (vI x)] (vI x :: st) μ G := ev_stp pg_257_49 rfl
theorem pg_257_50 : mm_prog 257 50 = some (0, .putfield 79, 53, [12, 3, 0]) := by decide +kernel
theorem xe_257_50 (a0 a1 a2 a3 : Option MV) (x y : Int) (st : List MV) (μ : MM) (G : MG) : ev 257 50 [a0, a1, a2, a3] (vI x :: vR y :: st) μ G = if gk G y = 12 then ev 257 53 [a0, a1, a2, a3] st (mset μ y 3 x) G else none := ev_put0 pg_257_50
theorem pg_257_53 : mm_prog 257 53 = some (0, .aload_n 0, 54, []) := by decide +kernel
theorem xe_257_53 (a1 a2 a3 : Option MV) (x : Int) (st : List MV) (μ : MM) (G : MG) : ev 257 53 [some (vR x), a1, a2, a3] st μ G = ev 257 54 [some (vR x), a1, a2, a3] (vR x :: st) μ G := ev_stp pg_257_53 rfl
theorem pg_257_54 : mm_prog 257 54 = some (2, .areturn, 55, []) := by decide +kernel
theorem xe_257_54 (a0 a1 a2 a3 : Option MV) (x : Int) (μ : MM) (G : MG) : ev 257 54 [a0, a1, a2, a3] [vR x] μ G = some (some (vR x), μ, G) := ev_ret pg_257_54 rfl
-- J5_isLatin1_aae02
theorem pg_258_0 : mm_prog 258 0 = some (0, .getstatic 18, 3, [0, 1]) := by decide +kernel
theorem xe_258_0 (a0 : Option MV) (st : List MV) (μ : MM) (G : MG) : ev 258 0 [a0] st μ G = ev 258 3 [a0] (vI 1 :: st) μ G := ev_stp pg_258_0 rfl
theorem pg_258_3 : mm_prog 258 3 = some (0, .ifCond .eq 14, 6, []) := by decide +kernel
theorem xe_258_3 (a0 : Option MV) (x : Int) (st : List MV) (μ : MM) (G : MG) : ev 258 3 [a0] (vI x :: st) μ G = if x = 0 then ev 258 17 [a0] st μ G else ev 258 6 [a0] st μ G := ev_br (mm_cnd_eq x 0) pg_258_3 rfl
theorem pg_258_6 : mm_prog 258 6 = some (0, .aload_n 0, 7, []) := by decide +kernel
theorem xe_258_6 (x : Int) (st : List MV) (μ : MM) (G : MG) : ev 258 6 [some (vR x)] st μ G = ev 258 7 [some (vR x)] (vR x :: st) μ G := ev_stp pg_258_6 rfl
theorem pg_258_7 : mm_prog 258 7 = some (0, .getfield 22, 10, [12, 1, 3]) := by decide +kernel
theorem xe_258_7 (a0 : Option MV) (x : Int) (st : List MV) (μ : MM) (G : MG) : ev 258 7 [a0] (vR x :: st) μ G = if gk G x = 12 then ev 258 10 [a0] (vI (μ x 1) :: st) μ G else none := ev_if pg_258_7 rfl
theorem pg_258_10 : mm_prog 258 10 = some (0, .ifCond .ne 7, 13, []) := by decide +kernel
theorem xe_258_10 (a0 : Option MV) (x : Int) (st : List MV) (μ : MM) (G : MG) : ev 258 10 [a0] (vI x :: st) μ G = if ¬ x = 0 then ev 258 17 [a0] st μ G else ev 258 13 [a0] st μ G := ev_br (mm_cnd_ne x 0) pg_258_10 rfl
theorem pg_258_13 : mm_prog 258 13 = some (0, .iconst 1, 14, []) := by decide +kernel
theorem xe_258_13 (a0 : Option MV) (st : List MV) (μ : MM) (G : MG) : ev 258 13 [a0] st μ G = ev 258 14 [a0] (vI (1) :: st) μ G := ev_stp pg_258_13 rfl
theorem pg_258_14 : mm_prog 258 14 = some (0, .goto 4, 17, []) := by decide +kernel
theorem xe_258_14 (a0 : Option MV) (st : List MV) (μ : MM) (G : MG) : ev 258 14 [a0] st μ G = ev 258 18 [a0] st μ G := ev_stp pg_258_14 rfl
theorem pg_258_17 : mm_prog 258 17 = some (0, .iconst 0, 18, []) := by decide +kernel
theorem xe_258_17 (a0 : Option MV) (st : List MV) (μ : MM) (G : MG) : ev 258 17 [a0] st μ G = ev 258 18 [a0] (vI (0) :: st) μ G := ev_stp pg_258_17 rfl
theorem pg_258_18 : mm_prog 258 18 = some (2, .ireturn, 19, [1]) := by decide +kernel
theorem xe_258_18 (a0 : Option MV) (x : Int) (μ : MM) (G : MG) : ev 258 18 [a0] [vI x] μ G = if x = 0 ∨ x = 1 then some (some (vI x), μ, G) else none := ev_retB pg_258_18
-- J6_getChars_ba4f3
theorem pg_259_0 : mm_prog 259 0 = some (0, .iload_n 1, 1, []) := by decide +kernel
theorem xe_259_0 (a0 a2 a3 a4 a5 a6 : Option MV) (x : Int) (st : List MV) (μ : MM) (G : MG) : ev 259 0 [a0, some (vI x), a2, a3, a4, a5, a6] st μ G = ev 259 1 [a0, some (vI x), a2, a3, a4, a5, a6] (vI x :: st) μ G := ev_stp pg_259_0 rfl
theorem pg_259_1 : mm_prog 259 1 = some (0, .istore 5, 3, []) := by decide +kernel
theorem xe_259_1 (a0 a1 a2 a3 a4 a5 a6 : Option MV) (x : Int) (st : List MV) (μ : MM) (G : MG) (h : mm_nL a4 = true) : ev 259 1 [a0, a1, a2, a3, a4, a5, a6] (vI x :: st) μ G = ev 259 3 [a0, a1, a2, a3, a4, some (vI x), a6] st μ G := ev_st pg_259_1 rfl (mm_nl_of h) (Nat.le_of_ble_eq_true rfl)
theorem pg_259_3 : mm_prog 259 3 = some (0, .iload_n 0, 4, []) := by decide +kernel
theorem xe_259_3 (a1 a2 a3 a4 a5 a6 : Option MV) (x : Int) (st : List MV) (μ : MM) (G : MG) : ev 259 3 [some (vI x), a1, a2, a3, a4, a5, a6] st μ G = ev 259 4 [some (vI x), a1, a2, a3, a4, a5, a6] (vI x :: st) μ G := ev_stp pg_259_3 rfl
theorem pg_259_4 : mm_prog 259 4 = some (0, .ifCond .ge 7, 7, []) := by decide +kernel
theorem xe_259_4 (a0 a1 a2 a3 a4 a5 a6 : Option MV) (x : Int) (st : List MV) (μ : MM) (G : MG) : ev 259 4 [a0, a1, a2, a3, a4, a5, a6] (vI x :: st) μ G = if 0 ≤ x then ev 259 11 [a0, a1, a2, a3, a4, a5, a6] st μ G else ev 259 7 [a0, a1, a2, a3, a4, a5, a6] st μ G := ev_br (mm_cnd_ge x 0) pg_259_4 rfl
theorem pg_259_7 : mm_prog 259 7 = some (0, .iconst 1, 8, []) := by decide +kernel
theorem xe_259_7 (a0 a1 a2 a3 a4 a5 a6 : Option MV) (st : List MV) (μ : MM) (G : MG) : ev 259 7 [a0, a1, a2, a3, a4, a5, a6] st μ G = ev 259 8 [a0, a1, a2, a3, a4, a5, a6] (vI (1) :: st) μ G := ev_stp pg_259_7 rfl
theorem pg_259_8 : mm_prog 259 8 = some (0, .goto 4, 11, []) := by decide +kernel
theorem xe_259_8 (a0 a1 a2 a3 a4 a5 a6 : Option MV) (st : List MV) (μ : MM) (G : MG) : ev 259 8 [a0, a1, a2, a3, a4, a5, a6] st μ G = ev 259 12 [a0, a1, a2, a3, a4, a5, a6] st μ G := ev_stp pg_259_8 rfl
theorem pg_259_11 : mm_prog 259 11 = some (0, .iconst 0, 12, []) := by decide +kernel
theorem xe_259_11 (a0 a1 a2 a3 a4 a5 a6 : Option MV) (st : List MV) (μ : MM) (G : MG) : ev 259 11 [a0, a1, a2, a3, a4, a5, a6] st μ G = ev 259 12 [a0, a1, a2, a3, a4, a5, a6] (vI (0) :: st) μ G := ev_stp pg_259_11 rfl
theorem pg_259_12 : mm_prog 259 12 = some (0, .istore 6, 14, []) := by decide +kernel
theorem xe_259_12 (a0 a1 a2 a3 a4 a5 a6 : Option MV) (x : Int) (st : List MV) (μ : MM) (G : MG) (h : mm_nL a5 = true) : ev 259 12 [a0, a1, a2, a3, a4, a5, a6] (vI x :: st) μ G = ev 259 14 [a0, a1, a2, a3, a4, a5, some (vI x)] st μ G := ev_st pg_259_12 rfl (mm_nl_of h) (Nat.le_of_ble_eq_true rfl)
theorem pg_259_14 : mm_prog 259 14 = some (0, .iload 6, 16, []) := by decide +kernel
theorem xe_259_14 (a0 a1 a2 a3 a4 a5 : Option MV) (x : Int) (st : List MV) (μ : MM) (G : MG) : ev 259 14 [a0, a1, a2, a3, a4, a5, some (vI x)] st μ G = ev 259 16 [a0, a1, a2, a3, a4, a5, some (vI x)] (vI x :: st) μ G := ev_stp pg_259_14 rfl
theorem pg_259_16 : mm_prog 259 16 = some (0, .ifCond .ne 6, 19, []) := by decide +kernel
theorem xe_259_16 (a0 a1 a2 a3 a4 a5 a6 : Option MV) (x : Int) (st : List MV) (μ : MM) (G : MG) : ev 259 16 [a0, a1, a2, a3, a4, a5, a6] (vI x :: st) μ G = if ¬ x = 0 then ev 259 22 [a0, a1, a2, a3, a4, a5, a6] st μ G else ev 259 19 [a0, a1, a2, a3, a4, a5, a6] st μ G := ev_br (mm_cnd_ne x 0) pg_259_16 rfl
theorem pg_259_19 : mm_prog 259 19 = some (0, .iload_n 0, 20, []) := by decide +kernel
theorem xe_259_19 (a1 a2 a3 a4 a5 a6 : Option MV) (x : Int) (st : List MV) (μ : MM) (G : MG) : ev 259 19 [some (vI x), a1, a2, a3, a4, a5, a6] st μ G = ev 259 20 [some (vI x), a1, a2, a3, a4, a5, a6] (vI x :: st) μ G := ev_stp pg_259_19 rfl
theorem pg_259_20 : mm_prog 259 20 = some (0, .ineg, 21, []) := by decide +kernel
theorem xe_259_20 (a0 a1 a2 a3 a4 a5 a6 : Option MV) (x : Int) (st : List MV) (μ : MM) (G : MG) : ev 259 20 [a0, a1, a2, a3, a4, a5, a6] (vI x :: st) μ G = ev 259 21 [a0, a1, a2, a3, a4, a5, a6] (vI (w32 (-x)) :: st) μ G := ev_stp pg_259_20 rfl
theorem pg_259_21 : mm_prog 259 21 = some (0, .istore_n 0, 22, []) := by decide +kernel
theorem xe_259_21 (a0 a1 a2 a3 a4 a5 a6 : Option MV) (x : Int) (st : List MV) (μ : MM) (G : MG) : ev 259 21 [a0, a1, a2, a3, a4, a5, a6] (vI x :: st) μ G = ev 259 22 [some (vI x), a1, a2, a3, a4, a5, a6] st μ G := ev_st0 pg_259_21 rfl (Nat.le_of_ble_eq_true rfl)
theorem pg_259_22 : mm_prog 259 22 = some (0, .iload_n 0, 23, []) := by decide +kernel
theorem xe_259_22 (a1 a2 a3 a4 a5 a6 : Option MV) (x : Int) (st : List MV) (μ : MM) (G : MG) : ev 259 22 [some (vI x), a1, a2, a3, a4, a5, a6] st μ G = ev 259 23 [some (vI x), a1, a2, a3, a4, a5, a6] (vI x :: st) μ G := ev_stp pg_259_22 rfl
theorem pg_259_23 : mm_prog 259 23 = some (0, .bipush (-100), 25, []) := by decide +kernel
theorem xe_259_23 (a0 a1 a2 a3 a4 a5 a6 : Option MV) (st : List MV) (μ : MM) (G : MG) : ev 259 23 [a0, a1, a2, a3, a4, a5, a6] st μ G = ev 259 25 [a0, a1, a2, a3, a4, a5, a6] (vI (-100) :: st) μ G := ev_stp pg_259_23 rfl
theorem pg_259_25 : mm_prog 259 25 = some (0, .if_icmp .gt 47, 28, []) := by decide +kernel
theorem xe_259_25 (a0 a1 a2 a3 a4 a5 a6 : Option MV) (x y : Int) (st : List MV) (μ : MM) (G : MG) : ev 259 25 [a0, a1, a2, a3, a4, a5, a6] (vI y :: vI x :: st) μ G = if y < x then ev 259 72 [a0, a1, a2, a3, a4, a5, a6] st μ G else ev 259 28 [a0, a1, a2, a3, a4, a5, a6] st μ G := ev_br (mm_cnd_gt x y) pg_259_25 rfl
theorem pg_259_28 : mm_prog 259 28 = some (0, .iload_n 0, 29, []) := by decide +kernel
theorem xe_259_28 (a1 a2 a3 a4 a5 a6 : Option MV) (x : Int) (st : List MV) (μ : MM) (G : MG) : ev 259 28 [some (vI x), a1, a2, a3, a4, a5, a6] st μ G = ev 259 29 [some (vI x), a1, a2, a3, a4, a5, a6] (vI x :: st) μ G := ev_stp pg_259_28 rfl
theorem pg_259_29 : mm_prog 259 29 = some (0, .bipush 100, 31, []) := by decide +kernel
theorem xe_259_29 (a0 a1 a2 a3 a4 a5 a6 : Option MV) (st : List MV) (μ : MM) (G : MG) : ev 259 29 [a0, a1, a2, a3, a4, a5, a6] st μ G = ev 259 31 [a0, a1, a2, a3, a4, a5, a6] (vI (100) :: st) μ G := ev_stp pg_259_29 rfl
theorem pg_259_31 : mm_prog 259 31 = some (0, .idiv, 32, []) := by decide +kernel
theorem xe_259_31 (a0 a1 a2 a3 a4 a5 a6 : Option MV) (x y : Int) (st : List MV) (μ : MM) (G : MG) : ev 259 31 [a0, a1, a2, a3, a4, a5, a6] (vI y :: vI x :: st) μ G = if y = 0 then none else ev 259 32 [a0, a1, a2, a3, a4, a5, a6] (vI (mm_div x y) :: st) μ G := ev_no pg_259_31 rfl
theorem pg_259_32 : mm_prog 259 32 = some (0, .istore_n 3, 33, []) := by decide +kernel
theorem xe_259_32 (a0 a1 a2 a3 a4 a5 a6 : Option MV) (x : Int) (st : List MV) (μ : MM) (G : MG) (h : mm_nL a2 = true) : ev 259 32 [a0, a1, a2, a3, a4, a5, a6] (vI x :: st) μ G = ev 259 33 [a0, a1, a2, some (vI x), a4, a5, a6] st μ G := ev_st pg_259_32 rfl (mm_nl_of h) (Nat.le_of_ble_eq_true rfl)
theorem pg_259_33 : mm_prog 259 33 = some (0, .iload_n 3, 34, []) := by decide +kernel
theorem xe_259_33 (a0 a1 a2 a4 a5 a6 : Option MV) (x : Int) (st : List MV) (μ : MM) (G : MG) : ev 259 33 [a0, a1, a2, some (vI x), a4, a5, a6] st μ G = ev 259 34 [a0, a1, a2, some (vI x), a4, a5, a6] (vI x :: st) μ G := ev_stp pg_259_33 rfl
theorem pg_259_34 : mm_prog 259 34 = some (0, .bipush 100, 36, []) := by decide +kernel
theorem xe_259_34 (a0 a1 a2 a3 a4 a5 a6 : Option MV) (st : List MV) (μ : MM) (G : MG) : ev 259 34 [a0, a1, a2, a3, a4, a5, a6] st μ G = ev 259 36 [a0, a1, a2, a3, a4, a5, a6] (vI (100) :: st) μ G := ev_stp pg_259_34 rfl
theorem pg_259_36 : mm_prog 259 36 = some (0, .imul, 37, []) := by decide +kernel
theorem xe_259_36 (a0 a1 a2 a3 a4 a5 a6 : Option MV) (x y : Int) (st : List MV) (μ : MM) (G : MG) : ev 259 36 [a0, a1, a2, a3, a4, a5, a6] (vI y :: vI x :: st) μ G = ev 259 37 [a0, a1, a2, a3, a4, a5, a6] (vI (w32 (x * y)) :: st) μ G := ev_stp pg_259_36 rfl
theorem pg_259_37 : mm_prog 259 37 = some (0, .iload_n 0, 38, []) := by decide +kernel
theorem xe_259_37 (a1 a2 a3 a4 a5 a6 : Option MV) (x : Int) (st : List MV) (μ : MM) (G : MG) : ev 259 37 [some (vI x), a1, a2, a3, a4, a5, a6] st μ G = ev 259 38 [some (vI x), a1, a2, a3, a4, a5, a6] (vI x :: st) μ G := ev_stp pg_259_37 rfl
theorem pg_259_38 : mm_prog 259 38 = some (0, .isub, 39, []) := by decide +kernel
theorem xe_259_38 (a0 a1 a2 a3 a4 a5 a6 : Option MV) (x y : Int) (st : List MV) (μ : MM) (G : MG) : ev 259 38 [a0, a1, a2, a3, a4, a5, a6] (vI y :: vI x :: st) μ G = ev 259 39 [a0, a1, a2, a3, a4, a5, a6] (vI (w32 (x - y)) :: st) μ G := ev_stp pg_259_38 rfl
theorem pg_259_39 : mm_prog 259 39 = some (0, .istore 4, 41, []) := by decide +kernel
theorem xe_259_39 (a0 a1 a2 a3 a4 a5 a6 : Option MV) (x : Int) (st : List MV) (μ : MM) (G : MG) (h : mm_nL a3 = true) : ev 259 39 [a0, a1, a2, a3, a4, a5, a6] (vI x :: st) μ G = ev 259 41 [a0, a1, a2, a3, some (vI x), a5, a6] st μ G := ev_st pg_259_39 rfl (mm_nl_of h) (Nat.le_of_ble_eq_true rfl)
theorem pg_259_41 : mm_prog 259 41 = some (0, .iload_n 3, 42, []) := by decide +kernel
theorem xe_259_41 (a0 a1 a2 a4 a5 a6 : Option MV) (x : Int) (st : List MV) (μ : MM) (G : MG) : ev 259 41 [a0, a1, a2, some (vI x), a4, a5, a6] st μ G = ev 259 42 [a0, a1, a2, some (vI x), a4, a5, a6] (vI x :: st) μ G := ev_stp pg_259_41 rfl
theorem pg_259_42 : mm_prog 259 42 = some (0, .istore_n 0, 43, []) := by decide +kernel
theorem xe_259_42 (a0 a1 a2 a3 a4 a5 a6 : Option MV) (x : Int) (st : List MV) (μ : MM) (G : MG) : ev 259 42 [a0, a1, a2, a3, a4, a5, a6] (vI x :: st) μ G = ev 259 43 [some (vI x), a1, a2, a3, a4, a5, a6] st μ G := ev_st0 pg_259_42 rfl (Nat.le_of_ble_eq_true rfl)
theorem pg_259_43 : mm_prog 259 43 = some (0, .aload_n 2, 44, []) := by decide +kernel
theorem xe_259_43 (a0 a1 a3 a4 a5 a6 : Option MV) (x : Int) (st : List MV) (μ : MM) (G : MG) : ev 259 43 [a0, a1, some (vR x), a3, a4, a5, a6] st μ G = ev 259 44 [a0, a1, some (vR x), a3, a4, a5, a6] (vR x :: st) μ G := ev_stp pg_259_43 rfl
theorem pg_259_44 : mm_prog 259 44 = some (0, .iinc 5 (-1), 47, []) := by decide +kernel
theorem xe_259_44 (a0 a1 a2 a3 a4 a6 : Option MV) (x : Int) (st : List MV) (μ : MM) (G : MG) (h : mm_nL a4 = true) : ev 259 44 [a0, a1, a2, a3, a4, some (vI x), a6] st μ G = ev 259 47 [a0, a1, a2, a3, a4, some (vI (w32 (x + (-1)))), a6] st μ G := ev_st pg_259_44 rfl (mm_nl_of h) (Nat.le_of_ble_eq_true rfl)
theorem pg_259_47 : mm_prog 259 47 = some (0, .iload 5, 49, []) := by decide +kernel
theorem xe_259_47 (a0 a1 a2 a3 a4 a6 : Option MV) (x : Int) (st : List MV) (μ : MM) (G : MG) : ev 259 47 [a0, a1, a2, a3, a4, some (vI x), a6] st μ G = ev 259 49 [a0, a1, a2, a3, a4, some (vI x), a6] (vI x :: st) μ G := ev_stp pg_259_47 rfl
theorem pg_259_49 : mm_prog 259 49 = some (0, .getstatic 83, 52, [2, 4]) := by decide +kernel
theorem xe_259_49 (a0 a1 a2 a3 a4 a5 a6 : Option MV) (st : List MV) (μ : MM) (G : MG) : ev 259 49 [a0, a1, a2, a3, a4, a5, a6] st μ G = ev 259 52 [a0, a1, a2, a3, a4, a5, a6] (vR 4 :: st) μ G := ev_stp pg_259_49 rfl
theorem pg_259_52 : mm_prog 259 52 = some (0, .iload 4, 54, []) := by decide +kernel
theorem xe_259_52 (a0 a1 a2 a3 a5 a6 : Option MV) (x : Int) (st : List MV) (μ : MM) (G : MG) : ev 259 52 [a0, a1, a2, a3, some (vI x), a5, a6] st μ G = ev 259 54 [a0, a1, a2, a3, some (vI x), a5, a6] (vI x :: st) μ G := ev_stp pg_259_52 rfl
theorem pg_259_54 : mm_prog 259 54 = some (0, .baload, 55, []) := by decide +kernel
theorem xe_259_54 (a0 a1 a2 a3 a4 a5 a6 : Option MV) (x y : Int) (st : List MV) (μ : MM) (G : MG) : ev 259 54 [a0, a1, a2, a3, a4, a5, a6] (vI x :: vR y :: st) μ G = if gk G y = 101 ∧ 0 ≤ x ∧ x < gl G y then ev 259 55 [a0, a1, a2, a3, a4, a5, a6] (vI (μ y x) :: st) μ G else none := ev_if pg_259_54 rfl
theorem pg_259_55 : mm_prog 259 55 = some (0, .bastore, 56, []) := by decide +kernel
theorem xe_259_55 (a0 a1 a2 a3 a4 a5 a6 : Option MV) (x y z : Int) (st : List MV) (μ : MM) (G : MG) : ev 259 55 [a0, a1, a2, a3, a4, a5, a6] (vI x :: vI y :: vR z :: st) μ G = if gk G z = 101 ∧ 0 ≤ y ∧ y < gl G z ∧ 10 ≤ z then ev 259 56 [a0, a1, a2, a3, a4, a5, a6] st (mset μ z y (mm_i2b x)) G else none := ev_if pg_259_55 rfl
theorem pg_259_56 : mm_prog 259 56 = some (0, .aload_n 2, 57, []) := by decide +kernel
theorem xe_259_56 (a0 a1 a3 a4 a5 a6 : Option MV) (x : Int) (st : List MV) (μ : MM) (G : MG) : ev 259 56 [a0, a1, some (vR x), a3, a4, a5, a6] st μ G = ev 259 57 [a0, a1, some (vR x), a3, a4, a5, a6] (vR x :: st) μ G := ev_stp pg_259_56 rfl
theorem pg_259_57 : mm_prog 259 57 = some (0, .iinc 5 (-1), 60, []) := by decide +kernel
theorem xe_259_57 (a0 a1 a2 a3 a4 a6 : Option MV) (x : Int) (st : List MV) (μ : MM) (G : MG) (h : mm_nL a4 = true) : ev 259 57 [a0, a1, a2, a3, a4, some (vI x), a6] st μ G = ev 259 60 [a0, a1, a2, a3, a4, some (vI (w32 (x + (-1)))), a6] st μ G := ev_st pg_259_57 rfl (mm_nl_of h) (Nat.le_of_ble_eq_true rfl)
theorem pg_259_60 : mm_prog 259 60 = some (0, .iload 5, 62, []) := by decide +kernel
theorem xe_259_60 (a0 a1 a2 a3 a4 a6 : Option MV) (x : Int) (st : List MV) (μ : MM) (G : MG) : ev 259 60 [a0, a1, a2, a3, a4, some (vI x), a6] st μ G = ev 259 62 [a0, a1, a2, a3, a4, some (vI x), a6] (vI x :: st) μ G := ev_stp pg_259_60 rfl
theorem pg_259_62 : mm_prog 259 62 = some (0, .getstatic 87, 65, [2, 5]) := by decide +kernel
theorem xe_259_62 (a0 a1 a2 a3 a4 a5 a6 : Option MV) (st : List MV) (μ : MM) (G : MG) : ev 259 62 [a0, a1, a2, a3, a4, a5, a6] st μ G = ev 259 65 [a0, a1, a2, a3, a4, a5, a6] (vR 5 :: st) μ G := ev_stp pg_259_62 rfl
theorem pg_259_65 : mm_prog 259 65 = some (0, .iload 4, 67, []) := by decide +kernel
theorem xe_259_65 (a0 a1 a2 a3 a5 a6 : Option MV) (x : Int) (st : List MV) (μ : MM) (G : MG) : ev 259 65 [a0, a1, a2, a3, some (vI x), a5, a6] st μ G = ev 259 67 [a0, a1, a2, a3, some (vI x), a5, a6] (vI x :: st) μ G := ev_stp pg_259_65 rfl
theorem pg_259_67 : mm_prog 259 67 = some (0, .baload, 68, []) := by decide +kernel
theorem xe_259_67 (a0 a1 a2 a3 a4 a5 a6 : Option MV) (x y : Int) (st : List MV) (μ : MM) (G : MG) : ev 259 67 [a0, a1, a2, a3, a4, a5, a6] (vI x :: vR y :: st) μ G = if gk G y = 101 ∧ 0 ≤ x ∧ x < gl G y then ev 259 68 [a0, a1, a2, a3, a4, a5, a6] (vI (μ y x) :: st) μ G else none := ev_if pg_259_67 rfl
theorem pg_259_68 : mm_prog 259 68 = some (0, .bastore, 69, []) := by decide +kernel
theorem xe_259_68 (a0 a1 a2 a3 a4 a5 a6 : Option MV) (x y z : Int) (st : List MV) (μ : MM) (G : MG) : ev 259 68 [a0, a1, a2, a3, a4, a5, a6] (vI x :: vI y :: vR z :: st) μ G = if gk G z = 101 ∧ 0 ≤ y ∧ y < gl G z ∧ 10 ≤ z then ev 259 69 [a0, a1, a2, a3, a4, a5, a6] st (mset μ z y (mm_i2b x)) G else none := ev_if pg_259_68 rfl
theorem pg_259_69 : mm_prog 259 69 = some (0, .goto (-47), 72, []) := by decide +kernel
theorem xe_259_69 (a0 a1 a2 a3 a4 a5 a6 : Option MV) (st : List MV) (μ : MM) (G : MG) : ev 259 69 [a0, a1, a2, a3, a4, a5, a6] st μ G = ev 259 22 [a0, a1, a2, a3, a4, a5, a6] st μ G := ev_stp pg_259_69 rfl
theorem pg_259_72 : mm_prog 259 72 = some (0, .aload_n 2, 73, []) := by decide +kernel
theorem xe_259_72 (a0 a1 a3 a4 a5 a6 : Option MV) (x : Int) (st : List MV) (μ : MM) (G : MG) : ev 259 72 [a0, a1, some (vR x), a3, a4, a5, a6] st μ G = ev 259 73 [a0, a1, some (vR x), a3, a4, a5, a6] (vR x :: st) μ G := ev_stp pg_259_72 rfl
theorem pg_259_73 : mm_prog 259 73 = some (0, .iinc 5 (-1), 76, []) := by decide +kernel
theorem xe_259_73 (a0 a1 a2 a3 a4 a6 : Option MV) (x : Int) (st : List MV) (μ : MM) (G : MG) (h : mm_nL a4 = true) : ev 259 73 [a0, a1, a2, a3, a4, some (vI x), a6] st μ G = ev 259 76 [a0, a1, a2, a3, a4, some (vI (w32 (x + (-1)))), a6] st μ G := ev_st pg_259_73 rfl (mm_nl_of h) (Nat.le_of_ble_eq_true rfl)
theorem pg_259_76 : mm_prog 259 76 = some (0, .iload 5, 78, []) := by decide +kernel
theorem xe_259_76 (a0 a1 a2 a3 a4 a6 : Option MV) (x : Int) (st : List MV) (μ : MM) (G : MG) : ev 259 76 [a0, a1, a2, a3, a4, some (vI x), a6] st μ G = ev 259 78 [a0, a1, a2, a3, a4, some (vI x), a6] (vI x :: st) μ G := ev_stp pg_259_76 rfl
theorem pg_259_78 : mm_prog 259 78 = some (0, .getstatic 83, 81, [2, 4]) := by decide +kernel
theorem xe_259_78 (a0 a1 a2 a3 a4 a5 a6 : Option MV) (st : List MV) (μ : MM) (G : MG) : ev 259 78 [a0, a1, a2, a3, a4, a5, a6] st μ G = ev 259 81 [a0, a1, a2, a3, a4, a5, a6] (vR 4 :: st) μ G := ev_stp pg_259_78 rfl
theorem pg_259_81 : mm_prog 259 81 = some (0, .iload_n 0, 82, []) := by decide +kernel
theorem xe_259_81 (a1 a2 a3 a4 a5 a6 : Option MV) (x : Int) (st : List MV) (μ : MM) (G : MG) : ev 259 81 [some (vI x), a1, a2, a3, a4, a5, a6] st μ G = ev 259 82 [some (vI x), a1, a2, a3, a4, a5, a6] (vI x :: st) μ G := ev_stp pg_259_81 rfl
theorem pg_259_82 : mm_prog 259 82 = some (0, .ineg, 83, []) := by decide +kernel
theorem xe_259_82 (a0 a1 a2 a3 a4 a5 a6 : Option MV) (x : Int) (st : List MV) (μ : MM) (G : MG) : ev 259 82 [a0, a1, a2, a3, a4, a5, a6] (vI x :: st) μ G = ev 259 83 [a0, a1, a2, a3, a4, a5, a6] (vI (w32 (-x)) :: st) μ G := ev_stp pg_259_82 rfl
theorem pg_259_83 : mm_prog 259 83 = some (0, .baload, 84, []) := by decide +kernel
theorem xe_259_83 (a0 a1 a2 a3 a4 a5 a6 : Option MV) (x y : Int) (st : List MV) (μ : MM) (G : MG) : ev 259 83 [a0, a1, a2, a3, a4, a5, a6] (vI x :: vR y :: st) μ G = if gk G y = 101 ∧ 0 ≤ x ∧ x < gl G y then ev 259 84 [a0, a1, a2, a3, a4, a5, a6] (vI (μ y x) :: st) μ G else none := ev_if pg_259_83 rfl
theorem pg_259_84 : mm_prog 259 84 = some (0, .bastore, 85, []) := by decide +kernel
theorem xe_259_84 (a0 a1 a2 a3 a4 a5 a6 : Option MV) (x y z : Int) (st : List MV) (μ : MM) (G : MG) : ev 259 84 [a0, a1, a2, a3, a4, a5, a6] (vI x :: vI y :: vR z :: st) μ G = if gk G z = 101 ∧ 0 ≤ y ∧ y < gl G z ∧ 10 ≤ z then ev 259 85 [a0, a1, a2, a3, a4, a5, a6] st (mset μ z y (mm_i2b x)) G else none := ev_if pg_259_84 rfl
theorem pg_259_85 : mm_prog 259 85 = some (0, .iload_n 0, 86, []) := by decide +kernel
theorem xe_259_85 (a1 a2 a3 a4 a5 a6 : Option MV) (x : Int) (st : List MV) (μ : MM) (G : MG) : ev 259 85 [some (vI x), a1, a2, a3, a4, a5, a6] st μ G = ev 259 86 [some (vI x), a1, a2, a3, a4, a5, a6] (vI x :: st) μ G := ev_stp pg_259_85 rfl
theorem pg_259_86 : mm_prog 259 86 = some (0, .bipush (-9), 88, []) := by decide +kernel
theorem xe_259_86 (a0 a1 a2 a3 a4 a5 a6 : Option MV) (st : List MV) (μ : MM) (G : MG) : ev 259 86 [a0, a1, a2, a3, a4, a5, a6] st μ G = ev 259 88 [a0, a1, a2, a3, a4, a5, a6] (vI (-9) :: st) μ G := ev_stp pg_259_86 rfl
theorem pg_259_88 : mm_prog 259 88 = some (0, .if_icmp .ge 16, 91, []) := by decide +kernel
theorem xe_259_88 (a0 a1 a2 a3 a4 a5 a6 : Option MV) (x y : Int) (st : List MV) (μ : MM) (G : MG) : ev 259 88 [a0, a1, a2, a3, a4, a5, a6] (vI y :: vI x :: st) μ G = if y ≤ x then ev 259 104 [a0, a1, a2, a3, a4, a5, a6] st μ G else ev 259 91 [a0, a1, a2, a3, a4, a5, a6] st μ G := ev_br (mm_cnd_ge x y) pg_259_88 rfl
theorem pg_259_91 : mm_prog 259 91 = some (0, .aload_n 2, 92, []) := by decide +kernel
theorem xe_259_91 (a0 a1 a3 a4 a5 a6 : Option MV) (x : Int) (st : List MV) (μ : MM) (G : MG) : ev 259 91 [a0, a1, some (vR x), a3, a4, a5, a6] st μ G = ev 259 92 [a0, a1, some (vR x), a3, a4, a5, a6] (vR x :: st) μ G := ev_stp pg_259_91 rfl
theorem pg_259_92 : mm_prog 259 92 = some (0, .iinc 5 (-1), 95, []) := by decide +kernel
theorem xe_259_92 (a0 a1 a2 a3 a4 a6 : Option MV) (x : Int) (st : List MV) (μ : MM) (G : MG) (h : mm_nL a4 = true) : ev 259 92 [a0, a1, a2, a3, a4, some (vI x), a6] st μ G = ev 259 95 [a0, a1, a2, a3, a4, some (vI (w32 (x + (-1)))), a6] st μ G := ev_st pg_259_92 rfl (mm_nl_of h) (Nat.le_of_ble_eq_true rfl)
theorem pg_259_95 : mm_prog 259 95 = some (0, .iload 5, 97, []) := by decide +kernel
theorem xe_259_95 (a0 a1 a2 a3 a4 a6 : Option MV) (x : Int) (st : List MV) (μ : MM) (G : MG) : ev 259 95 [a0, a1, a2, a3, a4, some (vI x), a6] st μ G = ev 259 97 [a0, a1, a2, a3, a4, some (vI x), a6] (vI x :: st) μ G := ev_stp pg_259_95 rfl
theorem pg_259_97 : mm_prog 259 97 = some (0, .getstatic 87, 100, [2, 5]) := by decide +kernel
theorem xe_259_97 (a0 a1 a2 a3 a4 a5 a6 : Option MV) (st : List MV) (μ : MM) (G : MG) : ev 259 97 [a0, a1, a2, a3, a4, a5, a6] st μ G = ev 259 100 [a0, a1, a2, a3, a4, a5, a6] (vR 5 :: st) μ G := ev_stp pg_259_97 rfl
theorem pg_259_100 : mm_prog 259 100 = some (0, .iload_n 0, 101, []) := by decide +kernel
theorem xe_259_100 (a1 a2 a3 a4 a5 a6 : Option MV) (x : Int) (st : List MV) (μ : MM) (G : MG) : ev 259 100 [some (vI x), a1, a2, a3, a4, a5, a6] st μ G = ev 259 101 [some (vI x), a1, a2, a3, a4, a5, a6] (vI x :: st) μ G := ev_stp pg_259_100 rfl
theorem pg_259_101 : mm_prog 259 101 = some (0, .ineg, 102, []) := by decide +kernel
theorem xe_259_101 (a0 a1 a2 a3 a4 a5 a6 : Option MV) (x : Int) (st : List MV) (μ : MM) (G : MG) : ev 259 101 [a0, a1, a2, a3, a4, a5, a6] (vI x :: st) μ G = ev 259 102 [a0, a1, a2, a3, a4, a5, a6] (vI (w32 (-x)) :: st) μ G := ev_stp pg_259_101 rfl
theorem pg_259_102 : mm_prog 259 102 = some (0, .baload, 103, []) := by decide +kernel
theorem xe_259_102 (a0 a1 a2 a3 a4 a5 a6 : Option MV) (x y : Int) (st : List MV) (μ : MM) (G : MG) : ev 259 102 [a0, a1, a2, a3, a4, a5, a6] (vI x :: vR y :: st) μ G = if gk G y = 101 ∧ 0 ≤ x ∧ x < gl G y then ev 259 103 [a0, a1, a2, a3, a4, a5, a6] (vI (μ y x) :: st) μ G else none := ev_if pg_259_102 rfl
theorem pg_259_103 : mm_prog 259 103 = some (0, .bastore, 104, []) := by decide +kernel
theorem xe_259_103 (a0 a1 a2 a3 a4 a5 a6 : Option MV) (x y z : Int) (st : List MV) (μ : MM) (G : MG) : ev 259 103 [a0, a1, a2, a3, a4, a5, a6] (vI x :: vI y :: vR z :: st) μ G = if gk G z = 101 ∧ 0 ≤ y ∧ y < gl G z ∧ 10 ≤ z then ev 259 104 [a0, a1, a2, a3, a4, a5, a6] st (mset μ z y (mm_i2b x)) G else none := ev_if pg_259_103 rfl
theorem pg_259_104 : mm_prog 259 104 = some (0, .iload 6, 106, []) := by decide +kernel
theorem xe_259_104 (a0 a1 a2 a3 a4 a5 : Option MV) (x : Int) (st : List MV) (μ : MM) (G : MG) : ev 259 104 [a0, a1, a2, a3, a4, a5, some (vI x)] st μ G = ev 259 106 [a0, a1, a2, a3, a4, a5, some (vI x)] (vI x :: st) μ G := ev_stp pg_259_104 rfl
theorem pg_259_106 : mm_prog 259 106 = some (0, .ifCond .eq 12, 109, []) := by decide +kernel
theorem xe_259_106 (a0 a1 a2 a3 a4 a5 a6 : Option MV) (x : Int) (st : List MV) (μ : MM) (G : MG) : ev 259 106 [a0, a1, a2, a3, a4, a5, a6] (vI x :: st) μ G = if x = 0 then ev 259 118 [a0, a1, a2, a3, a4, a5, a6] st μ G else ev 259 109 [a0, a1, a2, a3, a4, a5, a6] st μ G := ev_br (mm_cnd_eq x 0) pg_259_106 rfl
theorem pg_259_109 : mm_prog 259 109 = some (0, .aload_n 2, 110, []) := by decide +kernel
theorem xe_259_109 (a0 a1 a3 a4 a5 a6 : Option MV) (x : Int) (st : List MV) (μ : MM) (G : MG) : ev 259 109 [a0, a1, some (vR x), a3, a4, a5, a6] st μ G = ev 259 110 [a0, a1, some (vR x), a3, a4, a5, a6] (vR x :: st) μ G := ev_stp pg_259_109 rfl
theorem pg_259_110 : mm_prog 259 110 = some (0, .iinc 5 (-1), 113, []) := by decide +kernel
theorem xe_259_110 (a0 a1 a2 a3 a4 a6 : Option MV) (x : Int) (st : List MV) (μ : MM) (G : MG) (h : mm_nL a4 = true) : ev 259 110 [a0, a1, a2, a3, a4, some (vI x), a6] st μ G = ev 259 113 [a0, a1, a2, a3, a4, some (vI (w32 (x + (-1)))), a6] st μ G := ev_st pg_259_110 rfl (mm_nl_of h) (Nat.le_of_ble_eq_true rfl)
theorem pg_259_113 : mm_prog 259 113 = some (0, .iload 5, 115, []) := by decide +kernel
theorem xe_259_113 (a0 a1 a2 a3 a4 a6 : Option MV) (x : Int) (st : List MV) (μ : MM) (G : MG) : ev 259 113 [a0, a1, a2, a3, a4, some (vI x), a6] st μ G = ev 259 115 [a0, a1, a2, a3, a4, some (vI x), a6] (vI x :: st) μ G := ev_stp pg_259_113 rfl
theorem pg_259_115 : mm_prog 259 115 = some (0, .bipush 45, 117, []) := by decide +kernel
theorem xe_259_115 (a0 a1 a2 a3 a4 a5 a6 : Option MV) (st : List MV) (μ : MM) (G : MG) : ev 259 115 [a0, a1, a2, a3, a4, a5, a6] st μ G = ev 259 117 [a0, a1, a2, a3, a4, a5, a6] (vI (45) :: st) μ G := ev_stp pg_259_115 rfl
theorem pg_259_117 : mm_prog 259 117 = some (0, .bastore, 118, []) := by decide +kernel
theorem xe_259_117 (a0 a1 a2 a3 a4 a5 a6 : Option MV) (x y z : Int) (st : List MV) (μ : MM) (G : MG) : ev 259 117 [a0, a1, a2, a3, a4, a5, a6] (vI x :: vI y :: vR z :: st) μ G = if gk G z = 101 ∧ 0 ≤ y ∧ y < gl G z ∧ 10 ≤ z then ev 259 118 [a0, a1, a2, a3, a4, a5, a6] st (mset μ z y (mm_i2b x)) G else none := ev_if pg_259_117 rfl
theorem pg_259_118 : mm_prog 259 118 = some (0, .iload 5, 120, []) := by decide +kernel
theorem xe_259_118 (a0 a1 a2 a3 a4 a6 : Option MV) (x : Int) (st : List MV) (μ : MM) (G : MG) : ev 259 118 [a0, a1, a2, a3, a4, some (vI x), a6] st μ G = ev 259 120 [a0, a1, a2, a3, a4, some (vI x), a6] (vI x :: st) μ G := ev_stp pg_259_118 rfl
theorem pg_259_120 : mm_prog 259 120 = some (2, .ireturn, 121, [0]) := by decide +kernel
theorem xe_259_120 (a0 a1 a2 a3 a4 a5 a6 : Option MV) (x : Int) (μ : MM) (G : MG) : ev 259 120 [a0, a1, a2, a3, a4, a5, a6] [vI x] μ G = some (some (vI x), μ, G) := ev_ret pg_259_120 rfl
-- J6_stringSize_0f7a4
theorem pg_260_0 : mm_prog 260 0 = some (0, .iconst 1, 1, []) := by decide +kernel
theorem xe_260_0 (a0 a1 a2 a3 : Option MV) (st : List MV) (μ : MM) (G : MG) : ev 260 0 [a0, a1, a2, a3] st μ G = ev 260 1 [a0, a1, a2, a3] (vI (1) :: st) μ G := ev_stp pg_260_0 rfl
theorem pg_260_1 : mm_prog 260 1 = some (0, .istore_n 1, 2, []) := by decide +kernel
theorem xe_260_1 (a0 a1 a2 a3 : Option MV) (x : Int) (st : List MV) (μ : MM) (G : MG) (h : mm_nL a0 = true) : ev 260 1 [a0, a1, a2, a3] (vI x :: st) μ G = ev 260 2 [a0, some (vI x), a2, a3] st μ G := ev_st pg_260_1 rfl (mm_nl_of h) (Nat.le_of_ble_eq_true rfl)
theorem pg_260_2 : mm_prog 260 2 = some (0, .iload_n 0, 3, []) := by decide +kernel
theorem xe_260_2 (a1 a2 a3 : Option MV) (x : Int) (st : List MV) (μ : MM) (G : MG) : ev 260 2 [some (vI x), a1, a2, a3] st μ G = ev 260 3 [some (vI x), a1, a2, a3] (vI x :: st) μ G := ev_stp pg_260_2 rfl
theorem pg_260_3 : mm_prog 260 3 = some (0, .ifCond .lt 8, 6, []) := by decide +kernel
theorem xe_260_3 (a0 a1 a2 a3 : Option MV) (x : Int) (st : List MV) (μ : MM) (G : MG) : ev 260 3 [a0, a1, a2, a3] (vI x :: st) μ G = if x < 0 then ev 260 11 [a0, a1, a2, a3] st μ G else ev 260 6 [a0, a1, a2, a3] st μ G := ev_br (mm_cnd_lt x 0) pg_260_3 rfl
theorem pg_260_6 : mm_prog 260 6 = some (0, .iconst 0, 7, []) := by decide +kernel
theorem xe_260_6 (a0 a1 a2 a3 : Option MV) (st : List MV) (μ : MM) (G : MG) : ev 260 6 [a0, a1, a2, a3] st μ G = ev 260 7 [a0, a1, a2, a3] (vI (0) :: st) μ G := ev_stp pg_260_6 rfl
theorem pg_260_7 : mm_prog 260 7 = some (0, .istore_n 1, 8, []) := by decide +kernel
theorem xe_260_7 (a0 a1 a2 a3 : Option MV) (x : Int) (st : List MV) (μ : MM) (G : MG) (h : mm_nL a0 = true) : ev 260 7 [a0, a1, a2, a3] (vI x :: st) μ G = ev 260 8 [a0, some (vI x), a2, a3] st μ G := ev_st pg_260_7 rfl (mm_nl_of h) (Nat.le_of_ble_eq_true rfl)
theorem pg_260_8 : mm_prog 260 8 = some (0, .iload_n 0, 9, []) := by decide +kernel
theorem xe_260_8 (a1 a2 a3 : Option MV) (x : Int) (st : List MV) (μ : MM) (G : MG) : ev 260 8 [some (vI x), a1, a2, a3] st μ G = ev 260 9 [some (vI x), a1, a2, a3] (vI x :: st) μ G := ev_stp pg_260_8 rfl
theorem pg_260_9 : mm_prog 260 9 = some (0, .ineg, 10, []) := by decide +kernel
theorem xe_260_9 (a0 a1 a2 a3 : Option MV) (x : Int) (st : List MV) (μ : MM) (G : MG) : ev 260 9 [a0, a1, a2, a3] (vI x :: st) μ G = ev 260 10 [a0, a1, a2, a3] (vI (w32 (-x)) :: st) μ G := ev_stp pg_260_9 rfl
theorem pg_260_10 : mm_prog 260 10 = some (0, .istore_n 0, 11, []) := by decide +kernel
theorem xe_260_10 (a0 a1 a2 a3 : Option MV) (x : Int) (st : List MV) (μ : MM) (G : MG) : ev 260 10 [a0, a1, a2, a3] (vI x :: st) μ G = ev 260 11 [some (vI x), a1, a2, a3] st μ G := ev_st0 pg_260_10 rfl (Nat.le_of_ble_eq_true rfl)
theorem pg_260_11 : mm_prog 260 11 = some (0, .bipush (-10), 13, []) := by decide +kernel
theorem xe_260_11 (a0 a1 a2 a3 : Option MV) (st : List MV) (μ : MM) (G : MG) : ev 260 11 [a0, a1, a2, a3] st μ G = ev 260 13 [a0, a1, a2, a3] (vI (-10) :: st) μ G := ev_stp pg_260_11 rfl
theorem pg_260_13 : mm_prog 260 13 = some (0, .istore_n 2, 14, []) := by decide +kernel
theorem xe_260_13 (a0 a1 a2 a3 : Option MV) (x : Int) (st : List MV) (μ : MM) (G : MG) (h : mm_nL a1 = true) : ev 260 13 [a0, a1, a2, a3] (vI x :: st) μ G = ev 260 14 [a0, a1, some (vI x), a3] st μ G := ev_st pg_260_13 rfl (mm_nl_of h) (Nat.le_of_ble_eq_true rfl)
theorem pg_260_14 : mm_prog 260 14 = some (0, .iconst 1, 15, []) := by decide +kernel
theorem xe_260_14 (a0 a1 a2 a3 : Option MV) (st : List MV) (μ : MM) (G : MG) : ev 260 14 [a0, a1, a2, a3] st μ G = ev 260 15 [a0, a1, a2, a3] (vI (1) :: st) μ G := ev_stp pg_260_14 rfl
theorem pg_260_15 : mm_prog 260 15 = some (0, .istore_n 3, 16, []) := by decide +kernel
theorem xe_260_15 (a0 a1 a2 a3 : Option MV) (x : Int) (st : List MV) (μ : MM) (G : MG) (h : mm_nL a2 = true) : ev 260 15 [a0, a1, a2, a3] (vI x :: st) μ G = ev 260 16 [a0, a1, a2, some (vI x)] st μ G := ev_st pg_260_15 rfl (mm_nl_of h) (Nat.le_of_ble_eq_true rfl)
theorem pg_260_16 : mm_prog 260 16 = some (0, .iload_n 3, 17, []) := by decide +kernel
theorem xe_260_16 (a0 a1 a2 : Option MV) (x : Int) (st : List MV) (μ : MM) (G : MG) : ev 260 16 [a0, a1, a2, some (vI x)] st μ G = ev 260 17 [a0, a1, a2, some (vI x)] (vI x :: st) μ G := ev_stp pg_260_16 rfl
theorem pg_260_17 : mm_prog 260 17 = some (0, .bipush 10, 19, []) := by decide +kernel
theorem xe_260_17 (a0 a1 a2 a3 : Option MV) (st : List MV) (μ : MM) (G : MG) : ev 260 17 [a0, a1, a2, a3] st μ G = ev 260 19 [a0, a1, a2, a3] (vI (10) :: st) μ G := ev_stp pg_260_17 rfl
theorem pg_260_19 : mm_prog 260 19 = some (0, .if_icmp .ge 23, 22, []) := by decide +kernel
theorem xe_260_19 (a0 a1 a2 a3 : Option MV) (x y : Int) (st : List MV) (μ : MM) (G : MG) : ev 260 19 [a0, a1, a2, a3] (vI y :: vI x :: st) μ G = if y ≤ x then ev 260 42 [a0, a1, a2, a3] st μ G else ev 260 22 [a0, a1, a2, a3] st μ G := ev_br (mm_cnd_ge x y) pg_260_19 rfl
theorem pg_260_22 : mm_prog 260 22 = some (0, .iload_n 0, 23, []) := by decide +kernel
theorem xe_260_22 (a1 a2 a3 : Option MV) (x : Int) (st : List MV) (μ : MM) (G : MG) : ev 260 22 [some (vI x), a1, a2, a3] st μ G = ev 260 23 [some (vI x), a1, a2, a3] (vI x :: st) μ G := ev_stp pg_260_22 rfl
theorem pg_260_23 : mm_prog 260 23 = some (0, .iload_n 2, 24, []) := by decide +kernel
theorem xe_260_23 (a0 a1 a3 : Option MV) (x : Int) (st : List MV) (μ : MM) (G : MG) : ev 260 23 [a0, a1, some (vI x), a3] st μ G = ev 260 24 [a0, a1, some (vI x), a3] (vI x :: st) μ G := ev_stp pg_260_23 rfl
theorem pg_260_24 : mm_prog 260 24 = some (0, .if_icmp .le 7, 27, []) := by decide +kernel
theorem xe_260_24 (a0 a1 a2 a3 : Option MV) (x y : Int) (st : List MV) (μ : MM) (G : MG) : ev 260 24 [a0, a1, a2, a3] (vI y :: vI x :: st) μ G = if x ≤ y then ev 260 31 [a0, a1, a2, a3] st μ G else ev 260 27 [a0, a1, a2, a3] st μ G := ev_br (mm_cnd_le x y) pg_260_24 rfl
theorem pg_260_27 : mm_prog 260 27 = some (0, .iload_n 3, 28, []) := by decide +kernel
theorem xe_260_27 (a0 a1 a2 : Option MV) (x : Int) (st : List MV) (μ : MM) (G : MG) : ev 260 27 [a0, a1, a2, some (vI x)] st μ G = ev 260 28 [a0, a1, a2, some (vI x)] (vI x :: st) μ G := ev_stp pg_260_27 rfl
theorem pg_260_28 : mm_prog 260 28 = some (0, .iload_n 1, 29, []) := by decide +kernel
theorem xe_260_28 (a0 a2 a3 : Option MV) (x : Int) (st : List MV) (μ : MM) (G : MG) : ev 260 28 [a0, some (vI x), a2, a3] st μ G = ev 260 29 [a0, some (vI x), a2, a3] (vI x :: st) μ G := ev_stp pg_260_28 rfl
theorem pg_260_29 : mm_prog 260 29 = some (0, .iadd, 30, []) := by decide +kernel
theorem xe_260_29 (a0 a1 a2 a3 : Option MV) (x y : Int) (st : List MV) (μ : MM) (G : MG) : ev 260 29 [a0, a1, a2, a3] (vI y :: vI x :: st) μ G = ev 260 30 [a0, a1, a2, a3] (vI (w32 (x + y)) :: st) μ G := ev_stp pg_260_29 rfl
theorem pg_260_30 : mm_prog 260 30 = some (2, .ireturn, 31, [0]) := by decide +kernel
theorem xe_260_30 (a0 a1 a2 a3 : Option MV) (x : Int) (μ : MM) (G : MG) : ev 260 30 [a0, a1, a2, a3] [vI x] μ G = some (some (vI x), μ, G) := ev_ret pg_260_30 rfl
theorem pg_260_31 : mm_prog 260 31 = some (0, .bipush 10, 33, []) := by decide +kernel
theorem xe_260_31 (a0 a1 a2 a3 : Option MV) (st : List MV) (μ : MM) (G : MG) : ev 260 31 [a0, a1, a2, a3] st μ G = ev 260 33 [a0, a1, a2, a3] (vI (10) :: st) μ G := ev_stp pg_260_31 rfl
theorem pg_260_33 : mm_prog 260 33 = some (0, .iload_n 2, 34, []) := by decide +kernel
theorem xe_260_33 (a0 a1 a3 : Option MV) (x : Int) (st : List MV) (μ : MM) (G : MG) : ev 260 33 [a0, a1, some (vI x), a3] st μ G = ev 260 34 [a0, a1, some (vI x), a3] (vI x :: st) μ G := ev_stp pg_260_33 rfl
theorem pg_260_34 : mm_prog 260 34 = some (0, .imul, 35, []) := by decide +kernel
theorem xe_260_34 (a0 a1 a2 a3 : Option MV) (x y : Int) (st : List MV) (μ : MM) (G : MG) : ev 260 34 [a0, a1, a2, a3] (vI y :: vI x :: st) μ G = ev 260 35 [a0, a1, a2, a3] (vI (w32 (x * y)) :: st) μ G := ev_stp pg_260_34 rfl
theorem pg_260_35 : mm_prog 260 35 = some (0, .istore_n 2, 36, []) := by decide +kernel
theorem xe_260_35 (a0 a1 a2 a3 : Option MV) (x : Int) (st : List MV) (μ : MM) (G : MG) (h : mm_nL a1 = true) : ev 260 35 [a0, a1, a2, a3] (vI x :: st) μ G = ev 260 36 [a0, a1, some (vI x), a3] st μ G := ev_st pg_260_35 rfl (mm_nl_of h) (Nat.le_of_ble_eq_true rfl)
theorem pg_260_36 : mm_prog 260 36 = some (0, .iinc 3 1, 39, []) := by decide +kernel
theorem xe_260_36 (a0 a1 a2 : Option MV) (x : Int) (st : List MV) (μ : MM) (G : MG) (h : mm_nL a2 = true) : ev 260 36 [a0, a1, a2, some (vI x)] st μ G = ev 260 39 [a0, a1, a2, some (vI (w32 (x + (1))))] st μ G := ev_st pg_260_36 rfl (mm_nl_of h) (Nat.le_of_ble_eq_true rfl)
theorem pg_260_39 : mm_prog 260 39 = some (0, .goto (-23), 42, []) := by decide +kernel
theorem xe_260_39 (a0 a1 a2 a3 : Option MV) (st : List MV) (μ : MM) (G : MG) : ev 260 39 [a0, a1, a2, a3] st μ G = ev 260 16 [a0, a1, a2, a3] st μ G := ev_stp pg_260_39 rfl
theorem pg_260_42 : mm_prog 260 42 = some (0, .bipush 10, 44, []) := by decide +kernel
theorem xe_260_42 (a0 a1 a2 a3 : Option MV) (st : List MV) (μ : MM) (G : MG) : ev 260 42 [a0, a1, a2, a3] st μ G = ev 260 44 [a0, a1, a2, a3] (vI (10) :: st) μ G := ev_stp pg_260_42 rfl
theorem pg_260_44 : mm_prog 260 44 = some (0, .iload_n 1, 45, []) := by decide +kernel
theorem xe_260_44 (a0 a2 a3 : Option MV) (x : Int) (st : List MV) (μ : MM) (G : MG) : ev 260 44 [a0, some (vI x), a2, a3] st μ G = ev 260 45 [a0, some (vI x), a2, a3] (vI x :: st) μ G := ev_stp pg_260_44 rfl
theorem pg_260_45 : mm_prog 260 45 = some (0, .iadd, 46, []) := by decide +kernel
theorem xe_260_45 (a0 a1 a2 a3 : Option MV) (x y : Int) (st : List MV) (μ : MM) (G : MG) : ev 260 45 [a0, a1, a2, a3] (vI y :: vI x :: st) μ G = ev 260 46 [a0, a1, a2, a3] (vI (w32 (x + y)) :: st) μ G := ev_stp pg_260_45 rfl
theorem pg_260_46 : mm_prog 260 46 = some (2, .ireturn, 47, [0]) := by decide +kernel
theorem xe_260_46 (a0 a1 a2 a3 : Option MV) (x : Int) (μ : MM) (G : MG) : ev 260 46 [a0, a1, a2, a3] [vI x] μ G = some (some (vI x), μ, G) := ev_ret pg_260_46 rfl
-- J0_checkIndex_df160
theorem pg_261_0 : mm_prog 261 0 = some (0, .iload_n 0, 1, []) := by decide +kernel
theorem xe_261_0 (a1 : Option MV) (x : Int) (st : List MV) (μ : MM) (G : MG) : ev 261 0 [some (vI x), a1] st μ G = ev 261 1 [some (vI x), a1] (vI x :: st) μ G := ev_stp pg_261_0 rfl
theorem pg_261_1 : mm_prog 261 1 = some (0, .iload_n 1, 2, []) := by decide +kernel
theorem xe_261_1 (a0 : Option MV) (x : Int) (st : List MV) (μ : MM) (G : MG) : ev 261 1 [a0, some (vI x)] st μ G = ev 261 2 [a0, some (vI x)] (vI x :: st) μ G := ev_stp pg_261_1 rfl
theorem pg_261_2 : mm_prog 261 2 = some (0, .getstatic 1053, 5, [2, 7]) := by decide +kernel
theorem xe_261_2 (a0 a1 : Option MV) (st : List MV) (μ : MM) (G : MG) : ev 261 2 [a0, a1] st μ G = ev 261 5 [a0, a1] (vR 7 :: st) μ G := ev_stp pg_261_2 rfl
theorem pg_261_5 : mm_prog 261 5 = some (1, .invokestatic 1059, 8, [0, 264, 3, 0]) := by decide +kernel
theorem xe_261_5 (a0 a1 : Option MV) (x0 x1 x2 : Int) (μ : MM) (G : MG) : ev 261 5 [a0, a1] (vR x2 :: vI x1 :: vI x0 :: []) μ G = (ev 264 0 [some (vI x0), some (vI x1), some (vR x2)] [] μ G).bind (fun q => ev 261 8 [a0, a1] (q.1.toList ++ []) q.2.1 q.2.2) := ev_calS (as := [vI x0, vI x1, vR x2]) (r := []) mx_264 pg_261_5 rfl rfl (Nat.le_of_ble_eq_true rfl) (Nat.le_of_ble_eq_true rfl)
theorem pg_261_8 : mm_prog 261 8 = some (0, .pop, 9, []) := by decide +kernel
theorem xe_261_8 (a0 a1 : Option MV) (x : Int) (st : List MV) (μ : MM) (G : MG) : ev 261 8 [a0, a1] (vI x :: st) μ G = ev 261 9 [a0, a1] st μ G := ev_stp pg_261_8 rfl
theorem pg_261_9 : mm_prog 261 9 = some (2, .return_, 10, []) := by decide +kernel
theorem xe_261_9 (a0 a1 : Option MV) (μ : MM) (G : MG) : ev 261 9 [a0, a1] [] μ G = some (none, μ, G) := ev_ret pg_261_9 rfl
-- J1_canEncode_fc78d
theorem pg_262_0 : mm_prog 262 0 = some (0, .iload_n 0, 1, []) := by decide +kernel
theorem xe_262_0 (x : Int) (st : List MV) (μ : MM) (G : MG) : ev 262 0 [some (vI x)] st μ G = ev 262 1 [some (vI x)] (vI x :: st) μ G := ev_stp pg_262_0 rfl
theorem pg_262_1 : mm_prog 262 1 = some (0, .sipush 255, 4, []) := by decide +kernel
theorem xe_262_1 (a0 : Option MV) (st : List MV) (μ : MM) (G : MG) : ev 262 1 [a0] st μ G = ev 262 4 [a0] (vI (255) :: st) μ G := ev_stp pg_262_1 rfl
theorem pg_262_4 : mm_prog 262 4 = some (0, .if_icmp .gt 7, 7, []) := by decide +kernel
theorem xe_262_4 (a0 : Option MV) (x y : Int) (st : List MV) (μ : MM) (G : MG) : ev 262 4 [a0] (vI y :: vI x :: st) μ G = if y < x then ev 262 11 [a0] st μ G else ev 262 7 [a0] st μ G := ev_br (mm_cnd_gt x y) pg_262_4 rfl
theorem pg_262_7 : mm_prog 262 7 = some (0, .iconst 1, 8, []) := by decide +kernel
theorem xe_262_7 (a0 : Option MV) (st : List MV) (μ : MM) (G : MG) : ev 262 7 [a0] st μ G = ev 262 8 [a0] (vI (1) :: st) μ G := ev_stp pg_262_7 rfl
theorem pg_262_8 : mm_prog 262 8 = some (0, .goto 4, 11, []) := by decide +kernel
theorem xe_262_8 (a0 : Option MV) (st : List MV) (μ : MM) (G : MG) : ev 262 8 [a0] st μ G = ev 262 12 [a0] st μ G := ev_stp pg_262_8 rfl
theorem pg_262_11 : mm_prog 262 11 = some (0, .iconst 0, 12, []) := by decide +kernel
theorem xe_262_11 (a0 : Option MV) (st : List MV) (μ : MM) (G : MG) : ev 262 11 [a0] st μ G = ev 262 12 [a0] (vI (0) :: st) μ G := ev_stp pg_262_11 rfl
theorem pg_262_12 : mm_prog 262 12 = some (2, .ireturn, 13, [1]) := by decide +kernel
theorem xe_262_12 (a0 : Option MV) (x : Int) (μ : MM) (G : MG) : ev 262 12 [a0] [vI x] μ G = if x = 0 ∨ x = 1 then some (some (vI x), μ, G) else none := ev_retB pg_262_12
-- J7_fill_53178
theorem pg_263_0 : mm_prog 263 0 = some (0, .iconst 0, 1, []) := by decide +kernel
theorem xe_263_0 (a0 a1 a2 a3 : Option MV) (st : List MV) (μ : MM) (G : MG) : ev 263 0 [a0, a1, a2, a3] st μ G = ev 263 1 [a0, a1, a2, a3] (vI (0) :: st) μ G := ev_stp pg_263_0 rfl
theorem pg_263_1 : mm_prog 263 1 = some (0, .istore_n 2, 2, []) := by decide +kernel
theorem xe_263_1 (a0 a1 a2 a3 : Option MV) (x : Int) (st : List MV) (μ : MM) (G : MG) (h : mm_nL a1 = true) : ev 263 1 [a0, a1, a2, a3] (vI x :: st) μ G = ev 263 2 [a0, a1, some (vI x), a3] st μ G := ev_st pg_263_1 rfl (mm_nl_of h) (Nat.le_of_ble_eq_true rfl)
theorem pg_263_2 : mm_prog 263 2 = some (0, .aload_n 0, 3, []) := by decide +kernel
theorem xe_263_2 (a1 a2 a3 : Option MV) (x : Int) (st : List MV) (μ : MM) (G : MG) : ev 263 2 [some (vR x), a1, a2, a3] st μ G = ev 263 3 [some (vR x), a1, a2, a3] (vR x :: st) μ G := ev_stp pg_263_2 rfl
theorem pg_263_3 : mm_prog 263 3 = some (0, .arraylength, 4, []) := by decide +kernel
theorem xe_263_3 (a0 a1 a2 a3 : Option MV) (x : Int) (st : List MV) (μ : MM) (G : MG) : ev 263 3 [a0, a1, a2, a3] (vR x :: st) μ G = if 100 ≤ gk G x then ev 263 4 [a0, a1, a2, a3] (vI (gl G x) :: st) μ G else none := ev_if pg_263_3 rfl
theorem pg_263_4 : mm_prog 263 4 = some (0, .istore_n 3, 5, []) := by decide +kernel
theorem xe_263_4 (a0 a1 a2 a3 : Option MV) (x : Int) (st : List MV) (μ : MM) (G : MG) (h : mm_nL a2 = true) : ev 263 4 [a0, a1, a2, a3] (vI x :: st) μ G = ev 263 5 [a0, a1, a2, some (vI x)] st μ G := ev_st pg_263_4 rfl (mm_nl_of h) (Nat.le_of_ble_eq_true rfl)
theorem pg_263_5 : mm_prog 263 5 = some (0, .iload_n 2, 6, []) := by decide +kernel
theorem xe_263_5 (a0 a1 a3 : Option MV) (x : Int) (st : List MV) (μ : MM) (G : MG) : ev 263 5 [a0, a1, some (vI x), a3] st μ G = ev 263 6 [a0, a1, some (vI x), a3] (vI x :: st) μ G := ev_stp pg_263_5 rfl
theorem pg_263_6 : mm_prog 263 6 = some (0, .iload_n 3, 7, []) := by decide +kernel
theorem xe_263_6 (a0 a1 a2 : Option MV) (x : Int) (st : List MV) (μ : MM) (G : MG) : ev 263 6 [a0, a1, a2, some (vI x)] st μ G = ev 263 7 [a0, a1, a2, some (vI x)] (vI x :: st) μ G := ev_stp pg_263_6 rfl
theorem pg_263_7 : mm_prog 263 7 = some (0, .if_icmp .ge 13, 10, []) := by decide +kernel
theorem xe_263_7 (a0 a1 a2 a3 : Option MV) (x y : Int) (st : List MV) (μ : MM) (G : MG) : ev 263 7 [a0, a1, a2, a3] (vI y :: vI x :: st) μ G = if y ≤ x then ev 263 20 [a0, a1, a2, a3] st μ G else ev 263 10 [a0, a1, a2, a3] st μ G := ev_br (mm_cnd_ge x y) pg_263_7 rfl
theorem pg_263_10 : mm_prog 263 10 = some (0, .aload_n 0, 11, []) := by decide +kernel
theorem xe_263_10 (a1 a2 a3 : Option MV) (x : Int) (st : List MV) (μ : MM) (G : MG) : ev 263 10 [some (vR x), a1, a2, a3] st μ G = ev 263 11 [some (vR x), a1, a2, a3] (vR x :: st) μ G := ev_stp pg_263_10 rfl
theorem pg_263_11 : mm_prog 263 11 = some (0, .iload_n 2, 12, []) := by decide +kernel
theorem xe_263_11 (a0 a1 a3 : Option MV) (x : Int) (st : List MV) (μ : MM) (G : MG) : ev 263 11 [a0, a1, some (vI x), a3] st μ G = ev 263 12 [a0, a1, some (vI x), a3] (vI x :: st) μ G := ev_stp pg_263_11 rfl
theorem pg_263_12 : mm_prog 263 12 = some (0, .iload_n 1, 13, []) := by decide +kernel
theorem xe_263_12 (a0 a2 a3 : Option MV) (x : Int) (st : List MV) (μ : MM) (G : MG) : ev 263 12 [a0, some (vI x), a2, a3] st μ G = ev 263 13 [a0, some (vI x), a2, a3] (vI x :: st) μ G := ev_stp pg_263_12 rfl
theorem pg_263_13 : mm_prog 263 13 = some (0, .iastore, 14, []) := by decide +kernel
theorem xe_263_13 (a0 a1 a2 a3 : Option MV) (x y z : Int) (st : List MV) (μ : MM) (G : MG) : ev 263 13 [a0, a1, a2, a3] (vI x :: vI y :: vR z :: st) μ G = if gk G z = 100 ∧ 0 ≤ y ∧ y < gl G z ∧ 10 ≤ z then ev 263 14 [a0, a1, a2, a3] st (mset μ z y x) G else none := ev_if pg_263_13 rfl
theorem pg_263_14 : mm_prog 263 14 = some (0, .iinc 2 1, 17, []) := by decide +kernel
theorem xe_263_14 (a0 a1 a3 : Option MV) (x : Int) (st : List MV) (μ : MM) (G : MG) (h : mm_nL a1 = true) : ev 263 14 [a0, a1, some (vI x), a3] st μ G = ev 263 17 [a0, a1, some (vI (w32 (x + (1)))), a3] st μ G := ev_st pg_263_14 rfl (mm_nl_of h) (Nat.le_of_ble_eq_true rfl)
theorem pg_263_17 : mm_prog 263 17 = some (0, .goto (-12), 20, []) := by decide +kernel
theorem xe_263_17 (a0 a1 a2 a3 : Option MV) (st : List MV) (μ : MM) (G : MG) : ev 263 17 [a0, a1, a2, a3] st μ G = ev 263 5 [a0, a1, a2, a3] st μ G := ev_stp pg_263_17 rfl
theorem pg_263_20 : mm_prog 263 20 = some (2, .return_, 21, []) := by decide +kernel
theorem xe_263_20 (a0 a1 a2 a3 : Option MV) (μ : MM) (G : MG) : ev 263 20 [a0, a1, a2, a3] [] μ G = some (none, μ, G) := ev_ret pg_263_20 rfl
-- J3_checkIndex_8e157
theorem pg_264_0 : mm_prog 264 0 = some (0, .iload_n 0, 1, []) := by decide +kernel
theorem xe_264_0 (a1 a2 : Option MV) (x : Int) (st : List MV) (μ : MM) (G : MG) : ev 264 0 [some (vI x), a1, a2] st μ G = ev 264 1 [some (vI x), a1, a2] (vI x :: st) μ G := ev_stp pg_264_0 rfl
theorem pg_264_1 : mm_prog 264 1 = some (0, .ifCond .lt 8, 4, []) := by decide +kernel
theorem xe_264_1 (a0 a1 a2 : Option MV) (x : Int) (st : List MV) (μ : MM) (G : MG) : ev 264 1 [a0, a1, a2] (vI x :: st) μ G = if x < 0 then ev 264 9 [a0, a1, a2] st μ G else ev 264 4 [a0, a1, a2] st μ G := ev_br (mm_cnd_lt x 0) pg_264_1 rfl
theorem pg_264_4 : mm_prog 264 4 = some (0, .iload_n 0, 5, []) := by decide +kernel
theorem xe_264_4 (a1 a2 : Option MV) (x : Int) (st : List MV) (μ : MM) (G : MG) : ev 264 4 [some (vI x), a1, a2] st μ G = ev 264 5 [some (vI x), a1, a2] (vI x :: st) μ G := ev_stp pg_264_4 rfl
theorem pg_264_5 : mm_prog 264 5 = some (0, .iload_n 1, 6, []) := by decide +kernel
theorem xe_264_5 (a0 a2 : Option MV) (x : Int) (st : List MV) (μ : MM) (G : MG) : ev 264 5 [a0, some (vI x), a2] st μ G = ev 264 6 [a0, some (vI x), a2] (vI x :: st) μ G := ev_stp pg_264_5 rfl
theorem pg_264_6 : mm_prog 264 6 = some (0, .if_icmp .lt 10, 9, []) := by decide +kernel
theorem xe_264_6 (a0 a1 a2 : Option MV) (x y : Int) (st : List MV) (μ : MM) (G : MG) : ev 264 6 [a0, a1, a2] (vI y :: vI x :: st) μ G = if x < y then ev 264 16 [a0, a1, a2] st μ G else ev 264 9 [a0, a1, a2] st μ G := ev_br (mm_cnd_lt x y) pg_264_6 rfl
theorem pg_264_9 : mm_prog 264 9 = some (0, .aload_n 2, 10, []) := by decide +kernel
theorem xe_264_9 (a0 a1 : Option MV) (x : Int) (st : List MV) (μ : MM) (G : MG) : ev 264 9 [a0, a1, some (vR x)] st μ G = ev 264 10 [a0, a1, some (vR x)] (vR x :: st) μ G := ev_stp pg_264_9 rfl
theorem pg_264_10 : mm_prog 264 10 = some (0, .iload_n 0, 11, []) := by decide +kernel
theorem xe_264_10 (a1 a2 : Option MV) (x : Int) (st : List MV) (μ : MM) (G : MG) : ev 264 10 [some (vI x), a1, a2] st μ G = ev 264 11 [some (vI x), a1, a2] (vI x :: st) μ G := ev_stp pg_264_10 rfl
theorem pg_264_11 : mm_prog 264 11 = some (0, .iload_n 1, 12, []) := by decide +kernel
theorem xe_264_11 (a0 a2 : Option MV) (x : Int) (st : List MV) (μ : MM) (G : MG) : ev 264 11 [a0, some (vI x), a2] st μ G = ev 264 12 [a0, some (vI x), a2] (vI x :: st) μ G := ev_stp pg_264_11 rfl
theorem pg_264_16 : mm_prog 264 16 = some (0, .iload_n 0, 17, []) := by decide +kernel
theorem xe_264_16 (a1 a2 : Option MV) (x : Int) (st : List MV) (μ : MM) (G : MG) : ev 264 16 [some (vI x), a1, a2] st μ G = ev 264 17 [some (vI x), a1, a2] (vI x :: st) μ G := ev_stp pg_264_16 rfl
theorem pg_264_17 : mm_prog 264 17 = some (2, .ireturn, 18, [0]) := by decide +kernel
theorem xe_264_17 (a0 a1 a2 : Option MV) (x : Int) (μ : MM) (G : MG) : ev 264 17 [a0, a1, a2] [vI x] μ G = some (some (vI x), μ, G) := ev_ret pg_264_17 rfl
