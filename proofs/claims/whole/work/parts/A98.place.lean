/-! THE CONSTRUCTORS: places made one after the other -/
def gp (L k s : Int) : MG := (fun a => if a = 6 then (100, L) else if a < k then kd_c a else (50, 0), k, s)
theorem gp_n (L k s : Int) : (gp L k s).2.1 = k := rfl
theorem gp_k {L k s a : Int} (h : a < k) (h6 : ¬ a = 6) : gk (gp L k s) a = (kd_c a).1 := by simp [gk, gp, h, h6]
theorem gp_l {L k s a : Int} (h : a < k) (h6 : ¬ a = 6) : gl (gp L k s) a = (kd_c a).2 := by simp [gl, gp, h, h6]
theorem gp_new {L k s kd ln d : Int} (h : kd_c k = (kd, ln)) (h6 : 10 ≤ k) : gnew (gp L k s) kd ln d = gp L (k + 1) (s + d) := by
  unfold gnew gp
  refine Prod.ext (funext fun a => ?_) rfl
  show (if a = k then (kd, ln) else if a = 6 then (100, L) else if a < k then kd_c a else (50, 0)) = if a = 6 then (100, L) else if a < k + 1 then kd_c a else (50, 0)
  by_cases e : a = k
  · subst e; rw [if_pos rfl, if_neg (by omega), if_pos (by omega), h]
  · rw [if_neg e]
    by_cases e6 : a = 6
    · rw [if_pos e6, if_pos e6]
    · rw [if_neg e6, if_neg e6]
      by_cases q : a < k
      · rw [if_pos q, if_pos (by omega)]
      · rw [if_neg q, if_neg (by omega)]
theorem gp_all (L : Int) : gp L 172 9797 = g_1 L := by
  unfold gp g_1
  refine Prod.ext (funext fun a => ?_) rfl
  show (if a = 6 then (100, L) else if a < 172 then kd_c a else (50, 0)) = if a = 6 then (100, L) else kd_c a
  by_cases e6 : a = 6
  · rw [if_pos e6, if_pos e6]
  · rw [if_neg e6, if_neg e6]
    by_cases q : a < 172
    · rw [if_pos q]
    · rw [if_neg q]
      have hl : kd_l.length = 172 := by decide +kernel
      unfold kd_c
      rw [if_neg (by omega), List.getD_eq_getElem?_getD, List.getElem?_eq_none (by omega)]; rfl
theorem kc_mo : ∀ i : Nat, i < 40 → kd_c (49 + 2 * (i : Int)) = (4, 0) ∧ kd_c (49 + 2 * (i : Int) + 1) = (7, 0) := by decide +kernel
theorem kc_ti : ∀ i : Nat, i < 22 → kd_c (23 + (i : Int)) = (7, 0) := by decide +kernel
theorem mset_ap (μ : MM) (a k v b j : Int) : mset μ a k v b j = if b = a ∧ j = k then v else μ b j := rfl
theorem mzero_ap (μ : MM) (a b j : Int) : mzero μ a b j = if b = a then 0 else μ b j := rfl
theorem kc_10 : kd_c 10 = (10, 0) := by decide +kernel
theorem kc_11 : kd_c 11 = (0, 0) := by decide +kernel
theorem kc_12 : kd_c 12 = (100, 520) := by decide +kernel
theorem kc_13 : kd_c 13 = (0, 0) := by decide +kernel
theorem kc_14 : kd_c 14 = (100, 520) := by decide +kernel
theorem kc_15 : kd_c 15 = (2, 0) := by decide +kernel
theorem kc_16 : kd_c 16 = (6, 0) := by decide +kernel
theorem kc_17 : kd_c 17 = (0, 0) := by decide +kernel
theorem kc_18 : kd_c 18 = (100, 520) := by decide +kernel
theorem kc_19 : kd_c 19 = (103, 22) := by decide +kernel
theorem kc_20 : kd_c 20 = (100, 384) := by decide +kernel
theorem kc_21 : kd_c 21 = (100, 13) := by decide +kernel
theorem kc_22 : kd_c 22 = (100, 5) := by decide +kernel
theorem kc_23 : kd_c 23 = (7, 0) := by decide +kernel
theorem kc_24 : kd_c 24 = (7, 0) := by decide +kernel
theorem kc_25 : kd_c 25 = (7, 0) := by decide +kernel
theorem kc_26 : kd_c 26 = (7, 0) := by decide +kernel
theorem kc_27 : kd_c 27 = (7, 0) := by decide +kernel
theorem kc_28 : kd_c 28 = (7, 0) := by decide +kernel
theorem kc_29 : kd_c 29 = (7, 0) := by decide +kernel
theorem kc_30 : kd_c 30 = (7, 0) := by decide +kernel
theorem kc_31 : kd_c 31 = (7, 0) := by decide +kernel
theorem kc_32 : kd_c 32 = (7, 0) := by decide +kernel
theorem kc_33 : kd_c 33 = (7, 0) := by decide +kernel
theorem kc_34 : kd_c 34 = (7, 0) := by decide +kernel
theorem kc_35 : kd_c 35 = (7, 0) := by decide +kernel
theorem kc_36 : kd_c 36 = (7, 0) := by decide +kernel
theorem kc_37 : kd_c 37 = (7, 0) := by decide +kernel
theorem kc_38 : kd_c 38 = (7, 0) := by decide +kernel
theorem kc_39 : kd_c 39 = (7, 0) := by decide +kernel
theorem kc_40 : kd_c 40 = (7, 0) := by decide +kernel
theorem kc_41 : kd_c 41 = (7, 0) := by decide +kernel
theorem kc_42 : kd_c 42 = (7, 0) := by decide +kernel
theorem kc_43 : kd_c 43 = (7, 0) := by decide +kernel
theorem kc_44 : kd_c 44 = (7, 0) := by decide +kernel
theorem kc_45 : kd_c 45 = (5, 0) := by decide +kernel
theorem kc_46 : kd_c 46 = (102, 40) := by decide +kernel
theorem kc_47 : kd_c 47 = (100, 7) := by decide +kernel
theorem kc_48 : kd_c 48 = (7, 0) := by decide +kernel
theorem kc_49 : kd_c 49 = (4, 0) := by decide +kernel
theorem kc_50 : kd_c 50 = (7, 0) := by decide +kernel
theorem kc_51 : kd_c 51 = (4, 0) := by decide +kernel
theorem kc_52 : kd_c 52 = (7, 0) := by decide +kernel
theorem kc_53 : kd_c 53 = (4, 0) := by decide +kernel
theorem kc_54 : kd_c 54 = (7, 0) := by decide +kernel
theorem kc_55 : kd_c 55 = (4, 0) := by decide +kernel
theorem kc_56 : kd_c 56 = (7, 0) := by decide +kernel
theorem kc_57 : kd_c 57 = (4, 0) := by decide +kernel
theorem kc_58 : kd_c 58 = (7, 0) := by decide +kernel
theorem kc_59 : kd_c 59 = (4, 0) := by decide +kernel
theorem kc_60 : kd_c 60 = (7, 0) := by decide +kernel
theorem kc_61 : kd_c 61 = (4, 0) := by decide +kernel
theorem kc_62 : kd_c 62 = (7, 0) := by decide +kernel
theorem kc_63 : kd_c 63 = (4, 0) := by decide +kernel
theorem kc_64 : kd_c 64 = (7, 0) := by decide +kernel
theorem kc_65 : kd_c 65 = (4, 0) := by decide +kernel
theorem kc_66 : kd_c 66 = (7, 0) := by decide +kernel
theorem kc_67 : kd_c 67 = (4, 0) := by decide +kernel
theorem kc_68 : kd_c 68 = (7, 0) := by decide +kernel
theorem kc_69 : kd_c 69 = (4, 0) := by decide +kernel
theorem kc_70 : kd_c 70 = (7, 0) := by decide +kernel
theorem kc_71 : kd_c 71 = (4, 0) := by decide +kernel
theorem kc_72 : kd_c 72 = (7, 0) := by decide +kernel
theorem kc_73 : kd_c 73 = (4, 0) := by decide +kernel
theorem kc_74 : kd_c 74 = (7, 0) := by decide +kernel
theorem kc_75 : kd_c 75 = (4, 0) := by decide +kernel
theorem kc_76 : kd_c 76 = (7, 0) := by decide +kernel
theorem kc_77 : kd_c 77 = (4, 0) := by decide +kernel
theorem kc_78 : kd_c 78 = (7, 0) := by decide +kernel
theorem kc_79 : kd_c 79 = (4, 0) := by decide +kernel
theorem kc_80 : kd_c 80 = (7, 0) := by decide +kernel
theorem kc_81 : kd_c 81 = (4, 0) := by decide +kernel
theorem kc_82 : kd_c 82 = (7, 0) := by decide +kernel
theorem kc_83 : kd_c 83 = (4, 0) := by decide +kernel
theorem kc_84 : kd_c 84 = (7, 0) := by decide +kernel
theorem kc_85 : kd_c 85 = (4, 0) := by decide +kernel
theorem kc_86 : kd_c 86 = (7, 0) := by decide +kernel
theorem kc_87 : kd_c 87 = (4, 0) := by decide +kernel
theorem kc_88 : kd_c 88 = (7, 0) := by decide +kernel
theorem kc_89 : kd_c 89 = (4, 0) := by decide +kernel
theorem kc_90 : kd_c 90 = (7, 0) := by decide +kernel
theorem kc_91 : kd_c 91 = (4, 0) := by decide +kernel
theorem kc_92 : kd_c 92 = (7, 0) := by decide +kernel
theorem kc_93 : kd_c 93 = (4, 0) := by decide +kernel
theorem kc_94 : kd_c 94 = (7, 0) := by decide +kernel
theorem kc_95 : kd_c 95 = (4, 0) := by decide +kernel
theorem kc_96 : kd_c 96 = (7, 0) := by decide +kernel
theorem kc_97 : kd_c 97 = (4, 0) := by decide +kernel
theorem kc_98 : kd_c 98 = (7, 0) := by decide +kernel
theorem kc_99 : kd_c 99 = (4, 0) := by decide +kernel
theorem kc_100 : kd_c 100 = (7, 0) := by decide +kernel
theorem kc_101 : kd_c 101 = (4, 0) := by decide +kernel
theorem kc_102 : kd_c 102 = (7, 0) := by decide +kernel
theorem kc_103 : kd_c 103 = (4, 0) := by decide +kernel
theorem kc_104 : kd_c 104 = (7, 0) := by decide +kernel
theorem kc_105 : kd_c 105 = (4, 0) := by decide +kernel
theorem kc_106 : kd_c 106 = (7, 0) := by decide +kernel
theorem kc_107 : kd_c 107 = (4, 0) := by decide +kernel
theorem kc_108 : kd_c 108 = (7, 0) := by decide +kernel
theorem kc_109 : kd_c 109 = (4, 0) := by decide +kernel
theorem kc_110 : kd_c 110 = (7, 0) := by decide +kernel
theorem kc_111 : kd_c 111 = (4, 0) := by decide +kernel
theorem kc_112 : kd_c 112 = (7, 0) := by decide +kernel
theorem kc_113 : kd_c 113 = (4, 0) := by decide +kernel
theorem kc_114 : kd_c 114 = (7, 0) := by decide +kernel
theorem kc_115 : kd_c 115 = (4, 0) := by decide +kernel
theorem kc_116 : kd_c 116 = (7, 0) := by decide +kernel
theorem kc_117 : kd_c 117 = (4, 0) := by decide +kernel
theorem kc_118 : kd_c 118 = (7, 0) := by decide +kernel
theorem kc_119 : kd_c 119 = (4, 0) := by decide +kernel
theorem kc_120 : kd_c 120 = (7, 0) := by decide +kernel
theorem kc_121 : kd_c 121 = (4, 0) := by decide +kernel
theorem kc_122 : kd_c 122 = (7, 0) := by decide +kernel
theorem kc_123 : kd_c 123 = (4, 0) := by decide +kernel
theorem kc_124 : kd_c 124 = (7, 0) := by decide +kernel
theorem kc_125 : kd_c 125 = (4, 0) := by decide +kernel
theorem kc_126 : kd_c 126 = (7, 0) := by decide +kernel
theorem kc_127 : kd_c 127 = (4, 0) := by decide +kernel
theorem kc_128 : kd_c 128 = (7, 0) := by decide +kernel
theorem kc_129 : kd_c 129 = (1, 0) := by decide +kernel
theorem kc_130 : kd_c 130 = (100, 128) := by decide +kernel
theorem kc_131 : kd_c 131 = (7, 0) := by decide +kernel
theorem kc_132 : kd_c 132 = (12, 0) := by decide +kernel
theorem kc_133 : kd_c 133 = (101, 16) := by decide +kernel
theorem kc_134 : kd_c 134 = (9, 0) := by decide +kernel
theorem kc_135 : kd_c 135 = (100, 4) := by decide +kernel
theorem kc_136 : kd_c 136 = (100, 4) := by decide +kernel
theorem kc_137 : kd_c 137 = (8, 0) := by decide +kernel
theorem kc_138 : kd_c 138 = (100, 4) := by decide +kernel
theorem kc_139 : kd_c 139 = (100, 4) := by decide +kernel
theorem kc_140 : kd_c 140 = (3, 0) := by decide +kernel
theorem kc_141 : kd_c 141 = (100, 1536) := by decide +kernel
theorem kc_142 : kd_c 142 = (100, 12) := by decide +kernel
theorem kc_143 : kd_c 143 = (9, 0) := by decide +kernel
theorem kc_144 : kd_c 144 = (100, 4) := by decide +kernel
theorem kc_145 : kd_c 145 = (100, 4) := by decide +kernel
theorem kc_146 : kd_c 146 = (8, 0) := by decide +kernel
theorem kc_147 : kd_c 147 = (100, 4) := by decide +kernel
theorem kc_148 : kd_c 148 = (100, 4) := by decide +kernel
theorem kc_149 : kd_c 149 = (11, 0) := by decide +kernel
theorem kc_150 : kd_c 150 = (100, 520) := by decide +kernel
theorem kc_151 : kd_c 151 = (100, 520) := by decide +kernel
theorem kc_152 : kd_c 152 = (100, 512) := by decide +kernel
theorem kc_153 : kd_c 153 = (100, 286) := by decide +kernel
theorem kc_154 : kd_c 154 = (100, 13) := by decide +kernel
theorem kc_155 : kd_c 155 = (100, 5) := by decide +kernel
theorem kc_156 : kd_c 156 = (100, 512) := by decide +kernel
theorem kc_157 : kd_c 157 = (100, 480) := by decide +kernel
theorem kc_158 : kd_c 158 = (100, 40) := by decide +kernel
theorem kc_159 : kd_c 159 = (100, 7) := by decide +kernel
theorem kc_160 : kd_c 160 = (100, 77) := by decide +kernel
theorem kc_161 : kd_c 161 = (100, 30) := by decide +kernel
theorem kc_162 : kd_c 162 = (100, 128) := by decide +kernel
theorem kc_163 : kd_c 163 = (100, 30) := by decide +kernel
theorem kc_164 : kd_c 164 = (100, 9) := by decide +kernel
theorem kc_165 : kd_c 165 = (100, 88) := by decide +kernel
theorem kc_166 : kd_c 166 = (100, 88) := by decide +kernel
theorem kc_167 : kd_c 167 = (100, 4) := by decide +kernel
theorem kc_168 : kd_c 168 = (100, 4) := by decide +kernel
theorem kc_169 : kd_c 169 = (100, 4) := by decide +kernel
theorem kc_170 : kd_c 170 = (100, 4) := by decide +kernel
theorem kc_171 : kd_c 171 = (100, 1750) := by decide +kernel
