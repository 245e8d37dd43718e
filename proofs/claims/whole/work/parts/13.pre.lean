def mm_nL (a : Option MV) : Bool := match a with
  | some (Sum.inr (Sum.inl _)) => false
  | _ => true
theorem mm_nL_I (x : Int) : mm_nL (some (vI x)) = true := rfl
theorem mm_nL_R (x : Int) : mm_nL (some (vR x)) = true := rfl
theorem mm_nL_0 : mm_nL none = true := rfl
theorem mm_nl_of {ls : ML} {j : Nat} {a : Option MV} (h : mm_nL a = true) (hj : ls[j]? = some a := by rfl) : mm_nl ls (j + 1) = true := by
  rcases a with _ | (x | x | x)
  · simp [mm_nl, hj]
  · simp [mm_nl, hj]
  · cases h
  · simp [mm_nl, hj]
section PUT
variable {m pc nx idx : Nat} {c k : Int} {ls : ML} {st : List MV} {μ : MM} {G : MG} {x a : Int}
theorem ev_put0 (hs : mm_prog m pc = some (0, .putfield idx, nx, [c, k, 0])) : ev m pc ls (vI x :: vR a :: st) μ G = if gk G a = c then ev m nx ls st (mset μ a k x) G else none := by
  have h : mm_stp (.putfield idx) pc nx [c, k, 0] ls (vI x :: vR a :: st) μ G = if gk G a = c then some (nx, ls, st, mset μ a k x, G) else none := by
    simp [mm_stp, mm_putI, mm_fits]
  exact ev_if hs h
theorem ev_put1 (hs : mm_prog m pc = some (0, .putfield idx, nx, [c, k, 1])) : ev m pc ls (vI x :: vR a :: st) μ G = if gk G a = c ∧ (x = 0 ∨ x = 1) then ev m nx ls st (mset μ a k x) G else none := by
  have h : mm_stp (.putfield idx) pc nx [c, k, 1] ls (vI x :: vR a :: st) μ G = if gk G a = c ∧ (x = 0 ∨ x = 1) then some (nx, ls, st, mset μ a k x, G) else none := by
    simp [mm_stp, mm_putI, mm_fits]
  exact ev_if hs h
theorem ev_put3 (hs : mm_prog m pc = some (0, .putfield idx, nx, [c, k, 3])) : ev m pc ls (vI x :: vR a :: st) μ G = if gk G a = c ∧ (-128 ≤ x ∧ x < 128) then ev m nx ls st (mset μ a k x) G else none := by
  have h : mm_stp (.putfield idx) pc nx [c, k, 3] ls (vI x :: vR a :: st) μ G = if gk G a = c ∧ (-128 ≤ x ∧ x < 128) then some (nx, ls, st, mset μ a k x, G) else none := by
    simp [mm_stp, mm_putI, mm_fits]
  exact ev_if hs h
theorem ev_put2 (hs : mm_prog m pc = some (0, .putfield idx, nx, [c, k, 2])) : ev m pc ls (vR x :: vR a :: st) μ G = if gk G a = c then ev m nx ls st (mset μ a k x) G else none := by
  have h : mm_stp (.putfield idx) pc nx [c, k, 2] ls (vR x :: vR a :: st) μ G = if gk G a = c then some (nx, ls, st, mset μ a k x, G) else none := by
    simp [mm_stp, mm_putI]
  exact ev_if hs h
end PUT
theorem mx_0 : mm_max 0 = 1 := by decide +kernel
theorem mx_1 : mm_max 1 = 1 := by decide +kernel
theorem mx_2 : mm_max 2 = 3 := by decide +kernel
theorem mx_3 : mm_max 3 = 2 := by decide +kernel
theorem mx_4 : mm_max 4 = 3 := by decide +kernel
theorem mx_5 : mm_max 5 = 4 := by decide +kernel
theorem mx_6 : mm_max 6 = 1 := by decide +kernel
theorem mx_7 : mm_max 7 = 2 := by decide +kernel
theorem mx_8 : mm_max 8 = 5 := by decide +kernel
theorem mx_9 : mm_max 9 = 5 := by decide +kernel
theorem mx_10 : mm_max 10 = 4 := by decide +kernel
theorem mx_11 : mm_max 11 = 4 := by decide +kernel
theorem mx_12 : mm_max 12 = 4 := by decide +kernel
theorem mx_13 : mm_max 13 = 6 := by decide +kernel
theorem mx_14 : mm_max 14 = 1 := by decide +kernel
theorem mx_15 : mm_max 15 = 4 := by decide +kernel
theorem mx_16 : mm_max 16 = 3 := by decide +kernel
theorem mx_17 : mm_max 17 = 4 := by decide +kernel
theorem mx_18 : mm_max 18 = 6 := by decide +kernel
theorem mx_19 : mm_max 19 = 1 := by decide +kernel
theorem mx_20 : mm_max 20 = 1 := by decide +kernel
theorem mx_21 : mm_max 21 = 2 := by decide +kernel
theorem mx_22 : mm_max 22 = 3 := by decide +kernel
theorem mx_23 : mm_max 23 = 4 := by decide +kernel
theorem mx_24 : mm_max 24 = 6 := by decide +kernel
theorem mx_25 : mm_max 25 = 4 := by decide +kernel
theorem mx_26 : mm_max 26 = 3 := by decide +kernel
theorem mx_27 : mm_max 27 = 1 := by decide +kernel
theorem mx_28 : mm_max 28 = 4 := by decide +kernel
theorem mx_29 : mm_max 29 = 4 := by decide +kernel
theorem mx_30 : mm_max 30 = 2 := by decide +kernel
theorem mx_31 : mm_max 31 = 2 := by decide +kernel
theorem mx_32 : mm_max 32 = 2 := by decide +kernel
theorem mx_33 : mm_max 33 = 5 := by decide +kernel
theorem mx_34 : mm_max 34 = 5 := by decide +kernel
theorem mx_35 : mm_max 35 = 4 := by decide +kernel
theorem mx_36 : mm_max 36 = 5 := by decide +kernel
theorem mx_37 : mm_max 37 = 2 := by decide +kernel
theorem mx_38 : mm_max 38 = 5 := by decide +kernel
theorem mx_39 : mm_max 39 = 2 := by decide +kernel
theorem mx_40 : mm_max 40 = 5 := by decide +kernel
theorem mx_41 : mm_max 41 = 2 := by decide +kernel
theorem mx_42 : mm_max 42 = 4 := by decide +kernel
theorem mx_43 : mm_max 43 = 2 := by decide +kernel
theorem mx_44 : mm_max 44 = 3 := by decide +kernel
theorem mx_45 : mm_max 45 = 2 := by decide +kernel
theorem mx_46 : mm_max 46 = 2 := by decide +kernel
theorem mx_47 : mm_max 47 = 4 := by decide +kernel
theorem mx_48 : mm_max 48 = 7 := by decide +kernel
theorem mx_49 : mm_max 49 = 4 := by decide +kernel
theorem mx_50 : mm_max 50 = 2 := by decide +kernel
theorem mx_51 : mm_max 51 = 4 := by decide +kernel
theorem mx_52 : mm_max 52 = 2 := by decide +kernel
theorem mx_53 : mm_max 53 = 2 := by decide +kernel
theorem mx_54 : mm_max 54 = 2 := by decide +kernel
theorem mx_55 : mm_max 55 = 3 := by decide +kernel
theorem mx_56 : mm_max 56 = 2 := by decide +kernel
theorem mx_57 : mm_max 57 = 2 := by decide +kernel
theorem mx_58 : mm_max 58 = 4 := by decide +kernel
theorem mx_59 : mm_max 59 = 1 := by decide +kernel
theorem mx_60 : mm_max 60 = 7 := by decide +kernel
theorem mx_61 : mm_max 61 = 2 := by decide +kernel
theorem mx_62 : mm_max 62 = 6 := by decide +kernel
theorem mx_63 : mm_max 63 = 4 := by decide +kernel
theorem mx_64 : mm_max 64 = 2 := by decide +kernel
theorem mx_65 : mm_max 65 = 2 := by decide +kernel
theorem mx_66 : mm_max 66 = 2 := by decide +kernel
theorem mx_67 : mm_max 67 = 2 := by decide +kernel
theorem mx_68 : mm_max 68 = 1 := by decide +kernel
theorem mx_69 : mm_max 69 = 1 := by decide +kernel
theorem mx_70 : mm_max 70 = 1 := by decide +kernel
theorem mx_71 : mm_max 71 = 1 := by decide +kernel
theorem mx_72 : mm_max 72 = 1 := by decide +kernel
theorem mx_73 : mm_max 73 = 3 := by decide +kernel
theorem mx_74 : mm_max 74 = 3 := by decide +kernel
theorem mx_75 : mm_max 75 = 2 := by decide +kernel
theorem mx_76 : mm_max 76 = 1 := by decide +kernel
theorem mx_77 : mm_max 77 = 1 := by decide +kernel
theorem mx_78 : mm_max 78 = 2 := by decide +kernel
theorem mx_79 : mm_max 79 = 1 := by decide +kernel
theorem mx_80 : mm_max 80 = 1 := by decide +kernel
theorem mx_81 : mm_max 81 = 3 := by decide +kernel
theorem mx_82 : mm_max 82 = 3 := by decide +kernel
theorem mx_83 : mm_max 83 = 1 := by decide +kernel
theorem mx_84 : mm_max 84 = 3 := by decide +kernel
theorem mx_85 : mm_max 85 = 3 := by decide +kernel
theorem mx_86 : mm_max 86 = 4 := by decide +kernel
theorem mx_87 : mm_max 87 = 4 := by decide +kernel
theorem mx_88 : mm_max 88 = 5 := by decide +kernel
theorem mx_89 : mm_max 89 = 3 := by decide +kernel
theorem mx_90 : mm_max 90 = 3 := by decide +kernel
theorem mx_91 : mm_max 91 = 3 := by decide +kernel
theorem mx_92 : mm_max 92 = 2 := by decide +kernel
theorem mx_93 : mm_max 93 = 2 := by decide +kernel
theorem mx_94 : mm_max 94 = 1 := by decide +kernel
theorem mx_95 : mm_max 95 = 1 := by decide +kernel
theorem mx_96 : mm_max 96 = 1 := by decide +kernel
theorem mx_97 : mm_max 97 = 2 := by decide +kernel
theorem mx_98 : mm_max 98 = 1 := by decide +kernel
theorem mx_99 : mm_max 99 = 6 := by decide +kernel
theorem mx_100 : mm_max 100 = 2 := by decide +kernel
theorem mx_101 : mm_max 101 = 2 := by decide +kernel
theorem mx_102 : mm_max 102 = 2 := by decide +kernel
theorem mx_103 : mm_max 103 = 2 := by decide +kernel
theorem mx_104 : mm_max 104 = 2 := by decide +kernel
theorem mx_105 : mm_max 105 = 2 := by decide +kernel
theorem mx_106 : mm_max 106 = 4 := by decide +kernel
theorem mx_107 : mm_max 107 = 2 := by decide +kernel
theorem mx_108 : mm_max 108 = 4 := by decide +kernel
theorem mx_109 : mm_max 109 = 4 := by decide +kernel
theorem mx_110 : mm_max 110 = 4 := by decide +kernel
theorem mx_111 : mm_max 111 = 6 := by decide +kernel
theorem mx_112 : mm_max 112 = 6 := by decide +kernel
theorem mx_113 : mm_max 113 = 10 := by decide +kernel
theorem mx_114 : mm_max 114 = 1 := by decide +kernel
theorem mx_115 : mm_max 115 = 2 := by decide +kernel
theorem mx_116 : mm_max 116 = 1 := by decide +kernel
theorem mx_117 : mm_max 117 = 3 := by decide +kernel
theorem mx_118 : mm_max 118 = 3 := by decide +kernel
theorem mx_119 : mm_max 119 = 4 := by decide +kernel
theorem mx_120 : mm_max 120 = 4 := by decide +kernel
theorem mx_121 : mm_max 121 = 11 := by decide +kernel
theorem mx_122 : mm_max 122 = 2 := by decide +kernel
theorem mx_123 : mm_max 123 = 1 := by decide +kernel
theorem mx_124 : mm_max 124 = 2 := by decide +kernel
theorem mx_125 : mm_max 125 = 2 := by decide +kernel
theorem mx_126 : mm_max 126 = 4 := by decide +kernel
theorem mx_127 : mm_max 127 = 6 := by decide +kernel
theorem mx_128 : mm_max 128 = 5 := by decide +kernel
theorem mx_129 : mm_max 129 = 3 := by decide +kernel
theorem mx_130 : mm_max 130 = 1 := by decide +kernel
theorem mx_131 : mm_max 131 = 4 := by decide +kernel
theorem mx_132 : mm_max 132 = 2 := by decide +kernel
theorem mx_133 : mm_max 133 = 3 := by decide +kernel
theorem mx_134 : mm_max 134 = 3 := by decide +kernel
theorem mx_135 : mm_max 135 = 3 := by decide +kernel
theorem mx_136 : mm_max 136 = 2 := by decide +kernel
theorem mx_137 : mm_max 137 = 1 := by decide +kernel
theorem mx_138 : mm_max 138 = 6 := by decide +kernel
theorem mx_139 : mm_max 139 = 1 := by decide +kernel
theorem mx_140 : mm_max 140 = 3 := by decide +kernel
theorem mx_141 : mm_max 141 = 4 := by decide +kernel
theorem mx_142 : mm_max 142 = 10 := by decide +kernel
theorem mx_143 : mm_max 143 = 3 := by decide +kernel
theorem mx_144 : mm_max 144 = 3 := by decide +kernel
theorem mx_145 : mm_max 145 = 2 := by decide +kernel
theorem mx_146 : mm_max 146 = 2 := by decide +kernel
theorem mx_147 : mm_max 147 = 1 := by decide +kernel
theorem mx_148 : mm_max 148 = 6 := by decide +kernel
theorem mx_149 : mm_max 149 = 2 := by decide +kernel
theorem mx_150 : mm_max 150 = 2 := by decide +kernel
theorem mx_151 : mm_max 151 = 1 := by decide +kernel
theorem mx_152 : mm_max 152 = 8 := by decide +kernel
theorem mx_153 : mm_max 153 = 3 := by decide +kernel
theorem mx_154 : mm_max 154 = 4 := by decide +kernel
theorem mx_155 : mm_max 155 = 3 := by decide +kernel
theorem mx_156 : mm_max 156 = 5 := by decide +kernel
theorem mx_157 : mm_max 157 = 3 := by decide +kernel
theorem mx_158 : mm_max 158 = 2 := by decide +kernel
theorem mx_159 : mm_max 159 = 3 := by decide +kernel
theorem mx_160 : mm_max 160 = 2 := by decide +kernel
theorem mx_161 : mm_max 161 = 4 := by decide +kernel
theorem mx_162 : mm_max 162 = 2 := by decide +kernel
theorem mx_163 : mm_max 163 = 2 := by decide +kernel
theorem mx_164 : mm_max 164 = 3 := by decide +kernel
theorem mx_165 : mm_max 165 = 5 := by decide +kernel
theorem mx_166 : mm_max 166 = 5 := by decide +kernel
theorem mx_167 : mm_max 167 = 2 := by decide +kernel
theorem mx_168 : mm_max 168 = 3 := by decide +kernel
theorem mx_169 : mm_max 169 = 4 := by decide +kernel
theorem mx_170 : mm_max 170 = 5 := by decide +kernel
theorem mx_171 : mm_max 171 = 11 := by decide +kernel
theorem mx_172 : mm_max 172 = 6 := by decide +kernel
theorem mx_173 : mm_max 173 = 4 := by decide +kernel
theorem mx_174 : mm_max 174 = 4 := by decide +kernel
theorem mx_175 : mm_max 175 = 5 := by decide +kernel
theorem mx_176 : mm_max 176 = 5 := by decide +kernel
theorem mx_177 : mm_max 177 = 6 := by decide +kernel
theorem mx_178 : mm_max 178 = 3 := by decide +kernel
theorem mx_179 : mm_max 179 = 2 := by decide +kernel
theorem mx_180 : mm_max 180 = 3 := by decide +kernel
theorem mx_181 : mm_max 181 = 2 := by decide +kernel
theorem mx_182 : mm_max 182 = 3 := by decide +kernel
theorem mx_183 : mm_max 183 = 4 := by decide +kernel
theorem mx_184 : mm_max 184 = 2 := by decide +kernel
theorem mx_185 : mm_max 185 = 3 := by decide +kernel
theorem mx_186 : mm_max 186 = 3 := by decide +kernel
theorem mx_187 : mm_max 187 = 4 := by decide +kernel
theorem mx_188 : mm_max 188 = 2 := by decide +kernel
theorem mx_189 : mm_max 189 = 2 := by decide +kernel
theorem mx_190 : mm_max 190 = 3 := by decide +kernel
theorem mx_191 : mm_max 191 = 3 := by decide +kernel
theorem mx_192 : mm_max 192 = 5 := by decide +kernel
theorem mx_193 : mm_max 193 = 2 := by decide +kernel
theorem mx_194 : mm_max 194 = 9 := by decide +kernel
theorem mx_195 : mm_max 195 = 3 := by decide +kernel
theorem mx_196 : mm_max 196 = 6 := by decide +kernel
theorem mx_197 : mm_max 197 = 1 := by decide +kernel
theorem mx_198 : mm_max 198 = 2 := by decide +kernel
theorem mx_199 : mm_max 199 = 6 := by decide +kernel
theorem mx_200 : mm_max 200 = 1 := by decide +kernel
theorem mx_201 : mm_max 201 = 2 := by decide +kernel
theorem mx_202 : mm_max 202 = 3 := by decide +kernel
theorem mx_203 : mm_max 203 = 3 := by decide +kernel
theorem mx_204 : mm_max 204 = 3 := by decide +kernel
theorem mx_205 : mm_max 205 = 3 := by decide +kernel
theorem mx_206 : mm_max 206 = 3 := by decide +kernel
theorem mx_207 : mm_max 207 = 4 := by decide +kernel
theorem mx_208 : mm_max 208 = 4 := by decide +kernel
theorem mx_209 : mm_max 209 = 8 := by decide +kernel
theorem mx_210 : mm_max 210 = 8 := by decide +kernel
theorem mx_211 : mm_max 211 = 1 := by decide +kernel
theorem mx_212 : mm_max 212 = 2 := by decide +kernel
theorem mx_213 : mm_max 213 = 5 := by decide +kernel
theorem mx_214 : mm_max 214 = 3 := by decide +kernel
theorem mx_215 : mm_max 215 = 2 := by decide +kernel
theorem mx_216 : mm_max 216 = 1 := by decide +kernel
theorem mx_217 : mm_max 217 = 1 := by decide +kernel
theorem mx_218 : mm_max 218 = 2 := by decide +kernel
theorem mx_219 : mm_max 219 = 2 := by decide +kernel
theorem mx_220 : mm_max 220 = 5 := by decide +kernel
theorem mx_221 : mm_max 221 = 5 := by decide +kernel
theorem mx_222 : mm_max 222 = 6 := by decide +kernel
theorem mx_223 : mm_max 223 = 1 := by decide +kernel
theorem mx_224 : mm_max 224 = 4 := by decide +kernel
theorem mx_225 : mm_max 225 = 2 := by decide +kernel
theorem mx_226 : mm_max 226 = 3 := by decide +kernel
theorem mx_227 : mm_max 227 = 3 := by decide +kernel
theorem mx_228 : mm_max 228 = 4 := by decide +kernel
theorem mx_229 : mm_max 229 = 2 := by decide +kernel
theorem mx_230 : mm_max 230 = 3 := by decide +kernel
theorem mx_231 : mm_max 231 = 3 := by decide +kernel
theorem mx_232 : mm_max 232 = 3 := by decide +kernel
theorem mx_233 : mm_max 233 = 2 := by decide +kernel
theorem mx_234 : mm_max 234 = 2 := by decide +kernel
theorem mx_235 : mm_max 235 = 1 := by decide +kernel
theorem mx_236 : mm_max 236 = 3 := by decide +kernel
theorem mx_237 : mm_max 237 = 3 := by decide +kernel
theorem mx_238 : mm_max 238 = 4 := by decide +kernel
theorem mx_239 : mm_max 239 = 4 := by decide +kernel
theorem mx_240 : mm_max 240 = 4 := by decide +kernel
theorem mx_241 : mm_max 241 = 3 := by decide +kernel
theorem mx_242 : mm_max 242 = 4 := by decide +kernel
theorem mx_243 : mm_max 243 = 3 := by decide +kernel
theorem mx_244 : mm_max 244 = 2 := by decide +kernel
theorem mx_245 : mm_max 245 = 1 := by decide +kernel
theorem mx_246 : mm_max 246 = 2 := by decide +kernel
theorem mx_247 : mm_max 247 = 2 := by decide +kernel
theorem mx_248 : mm_max 248 = 2 := by decide +kernel
theorem mx_249 : mm_max 249 = 2 := by decide +kernel
theorem mx_250 : mm_max 250 = 2 := by decide +kernel
theorem mx_251 : mm_max 251 = 1 := by decide +kernel
theorem mx_252 : mm_max 252 = 1 := by decide +kernel
theorem mx_253 : mm_max 253 = 3 := by decide +kernel
theorem mx_254 : mm_max 254 = 2 := by decide +kernel
theorem mx_255 : mm_max 255 = 5 := by decide +kernel
theorem mx_256 : mm_max 256 = 2 := by decide +kernel
theorem mx_257 : mm_max 257 = 4 := by decide +kernel
theorem mx_258 : mm_max 258 = 1 := by decide +kernel
theorem mx_259 : mm_max 259 = 7 := by decide +kernel
theorem mx_260 : mm_max 260 = 4 := by decide +kernel
theorem mx_261 : mm_max 261 = 2 := by decide +kernel
theorem mx_262 : mm_max 262 = 1 := by decide +kernel
theorem mx_263 : mm_max 263 = 4 := by decide +kernel
theorem mx_264 : mm_max 264 = 3 := by decide +kernel
theorem mx_265 : mm_max 265 = 4 := by decide +kernel
