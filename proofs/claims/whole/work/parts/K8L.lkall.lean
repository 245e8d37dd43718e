theorem mm_lookup_mem {α : Type} : ∀ (l : List (Nat × α)) (k : Nat) (v : α), l.lookup k = some v → (k, v) ∈ l
  | [], _, _, h => by cases h
  | (a, b) :: r, k, v, h => by
    rw [List.lookup_cons] at h
    split at h
    · rename_i hk
      have hk : k = a := by simpa using hk
      cases h; subst hk; exact List.mem_cons_self
    · exact List.mem_cons_of_mem _ (mm_lookup_mem r k v h)
theorem ltc_0 : ∀ (i : Nat) (l : List (Nat × ME)), ([mt_0, mt_1, mt_2, mt_3, mt_4, mt_5, mt_6, mt_7, mt_8, mt_9, mt_10, mt_11, mt_12, mt_13, mt_14, mt_15, mt_16, mt_17, mt_18, mt_19, mt_20, mt_21, mt_22, mt_23, mt_24, mt_25, mt_26, mt_27, mt_28, mt_29] : List (List (Nat × ME)))[i]? = some l → ∀ e ∈ l, mm_Lk (0 + i) e := by
  intro i l h
  match i, h with
  | 0, h => cases h; exact lmt_0
  | 1, h => cases h; exact lmt_1
  | 2, h => cases h; exact lmt_2
  | 3, h => cases h; exact lmt_3
  | 4, h => cases h; exact lmt_4
  | 5, h => cases h; exact lmt_5
  | 6, h => cases h; exact lmt_6
  | 7, h => cases h; exact lmt_7
  | 8, h => cases h; exact lmt_8
  | 9, h => cases h; exact lmt_9
  | 10, h => cases h; exact lmt_10
  | 11, h => cases h; exact lmt_11
  | 12, h => cases h; exact lmt_12
  | 13, h => cases h; exact lmt_13
  | 14, h => cases h; exact lmt_14
  | 15, h => cases h; exact lmt_15
  | 16, h => cases h; exact lmt_16
  | 17, h => cases h; exact lmt_17
  | 18, h => cases h; exact lmt_18
  | 19, h => cases h; exact lmt_19
  | 20, h => cases h; exact lmt_20
  | 21, h => cases h; exact lmt_21
  | 22, h => cases h; exact lmt_22
  | 23, h => cases h; exact lmt_23
  | 24, h => cases h; exact lmt_24
  | 25, h => cases h; exact lmt_25
  | 26, h => cases h; exact lmt_26
  | 27, h => cases h; exact lmt_27
  | 28, h => cases h; exact lmt_28
  | 29, h => cases h; exact lmt_29
  | i + 30, h => simp at h
theorem ltc_1 : ∀ (i : Nat) (l : List (Nat × ME)), ([mt_30, mt_31, mt_32, mt_33, mt_34, mt_35, mt_36, mt_37, mt_38, mt_39, mt_40, mt_41, mt_42, mt_43, mt_44, mt_45, mt_46, mt_47, mt_48, mt_49, mt_50, mt_51, mt_52, mt_53, mt_54, mt_55, mt_56, mt_57, mt_58, mt_59] : List (List (Nat × ME)))[i]? = some l → ∀ e ∈ l, mm_Lk (30 + i) e := by
  intro i l h
  match i, h with
  | 0, h => cases h; exact lmt_30
  | 1, h => cases h; exact lmt_31
  | 2, h => cases h; exact lmt_32
  | 3, h => cases h; exact lmt_33
  | 4, h => cases h; exact lmt_34
  | 5, h => cases h; exact lmt_35
  | 6, h => cases h; exact lmt_36
  | 7, h => cases h; exact lmt_37
  | 8, h => cases h; exact lmt_38
  | 9, h => cases h; exact lmt_39
  | 10, h => cases h; exact lmt_40
  | 11, h => cases h; exact lmt_41
  | 12, h => cases h; exact lmt_42
  | 13, h => cases h; exact lmt_43
  | 14, h => cases h; exact lmt_44
  | 15, h => cases h; exact lmt_45
  | 16, h => cases h; exact lmt_46
  | 17, h => cases h; exact lmt_47
  | 18, h => cases h; exact lmt_48
  | 19, h => cases h; exact lmt_49
  | 20, h => cases h; exact lmt_50
  | 21, h => cases h; exact lmt_51
  | 22, h => cases h; exact lmt_52
  | 23, h => cases h; exact lmt_53
  | 24, h => cases h; exact lmt_54
  | 25, h => cases h; exact lmt_55
  | 26, h => cases h; exact lmt_56
  | 27, h => cases h; exact lmt_57
  | 28, h => cases h; exact lmt_58
  | 29, h => cases h; exact lmt_59
  | i + 30, h => simp at h
theorem ltc_2 : ∀ (i : Nat) (l : List (Nat × ME)), ([mt_60, mt_61, mt_62, mt_63, mt_64, mt_65, mt_66, mt_67, mt_68, mt_69, mt_70, mt_71, mt_72, mt_73, mt_74, mt_75, mt_76, mt_77, mt_78, mt_79, mt_80, mt_81, mt_82, mt_83, mt_84, mt_85, mt_86, mt_87, mt_88, mt_89] : List (List (Nat × ME)))[i]? = some l → ∀ e ∈ l, mm_Lk (60 + i) e := by
  intro i l h
  match i, h with
  | 0, h => cases h; exact lmt_60
  | 1, h => cases h; exact lmt_61
  | 2, h => cases h; exact lmt_62
  | 3, h => cases h; exact lmt_63
  | 4, h => cases h; exact lmt_64
  | 5, h => cases h; exact lmt_65
  | 6, h => cases h; exact lmt_66
  | 7, h => cases h; exact lmt_67
  | 8, h => cases h; exact lmt_68
  | 9, h => cases h; exact lmt_69
  | 10, h => cases h; exact lmt_70
  | 11, h => cases h; exact lmt_71
  | 12, h => cases h; exact lmt_72
  | 13, h => cases h; exact lmt_73
  | 14, h => cases h; exact lmt_74
  | 15, h => cases h; exact lmt_75
  | 16, h => cases h; exact lmt_76
  | 17, h => cases h; exact lmt_77
  | 18, h => cases h; exact lmt_78
  | 19, h => cases h; exact lmt_79
  | 20, h => cases h; exact lmt_80
  | 21, h => cases h; exact lmt_81
  | 22, h => cases h; exact lmt_82
  | 23, h => cases h; exact lmt_83
  | 24, h => cases h; exact lmt_84
  | 25, h => cases h; exact lmt_85
  | 26, h => cases h; exact lmt_86
  | 27, h => cases h; exact lmt_87
  | 28, h => cases h; exact lmt_88
  | 29, h => cases h; exact lmt_89
  | i + 30, h => simp at h
theorem ltc_3 : ∀ (i : Nat) (l : List (Nat × ME)), ([mt_90, mt_91, mt_92, mt_93, mt_94, mt_95, mt_96, mt_97, mt_98, mt_99, mt_100, mt_101, mt_102, mt_103, mt_104, mt_105, mt_106, mt_107, mt_108, mt_109, mt_110, mt_111, mt_112, mt_113, mt_114, mt_115, mt_116, mt_117, mt_118, mt_119] : List (List (Nat × ME)))[i]? = some l → ∀ e ∈ l, mm_Lk (90 + i) e := by
  intro i l h
  match i, h with
  | 0, h => cases h; exact lmt_90
  | 1, h => cases h; exact lmt_91
  | 2, h => cases h; exact lmt_92
  | 3, h => cases h; exact lmt_93
  | 4, h => cases h; exact lmt_94
  | 5, h => cases h; exact lmt_95
  | 6, h => cases h; exact lmt_96
  | 7, h => cases h; exact lmt_97
  | 8, h => cases h; exact lmt_98
  | 9, h => cases h; exact lmt_99
  | 10, h => cases h; exact lmt_100
  | 11, h => cases h; exact lmt_101
  | 12, h => cases h; exact lmt_102
  | 13, h => cases h; exact lmt_103
  | 14, h => cases h; exact lmt_104
  | 15, h => cases h; exact lmt_105
  | 16, h => cases h; exact lmt_106
  | 17, h => cases h; exact lmt_107
  | 18, h => cases h; exact lmt_108
  | 19, h => cases h; exact lmt_109
  | 20, h => cases h; exact lmt_110
  | 21, h => cases h; exact lmt_111
  | 22, h => cases h; exact lmt_112
  | 23, h => cases h; exact lmt_113
  | 24, h => cases h; exact lmt_114
  | 25, h => cases h; exact lmt_115
  | 26, h => cases h; exact lmt_116
  | 27, h => cases h; exact lmt_117
  | 28, h => cases h; exact lmt_118
  | 29, h => cases h; exact lmt_119
  | i + 30, h => simp at h
theorem ltc_4 : ∀ (i : Nat) (l : List (Nat × ME)), ([mt_120, mt_121, mt_122, mt_123, mt_124, mt_125, mt_126, mt_127, mt_128, mt_129, mt_130, mt_131, mt_132, mt_133, mt_134, mt_135, mt_136, mt_137, mt_138, mt_139, mt_140, mt_141, mt_142, mt_143, mt_144, mt_145, mt_146, mt_147, mt_148, mt_149] : List (List (Nat × ME)))[i]? = some l → ∀ e ∈ l, mm_Lk (120 + i) e := by
  intro i l h
  match i, h with
  | 0, h => cases h; exact lmt_120
  | 1, h => cases h; exact lmt_121
  | 2, h => cases h; exact lmt_122
  | 3, h => cases h; exact lmt_123
  | 4, h => cases h; exact lmt_124
  | 5, h => cases h; exact lmt_125
  | 6, h => cases h; exact lmt_126
  | 7, h => cases h; exact lmt_127
  | 8, h => cases h; exact lmt_128
  | 9, h => cases h; exact lmt_129
  | 10, h => cases h; exact lmt_130
  | 11, h => cases h; exact lmt_131
  | 12, h => cases h; exact lmt_132
  | 13, h => cases h; exact lmt_133
  | 14, h => cases h; exact lmt_134
  | 15, h => cases h; exact lmt_135
  | 16, h => cases h; exact lmt_136
  | 17, h => cases h; exact lmt_137
  | 18, h => cases h; exact lmt_138
  | 19, h => cases h; exact lmt_139
  | 20, h => cases h; exact lmt_140
  | 21, h => cases h; exact lmt_141
  | 22, h => cases h; exact lmt_142
  | 23, h => cases h; exact lmt_143
  | 24, h => cases h; exact lmt_144
  | 25, h => cases h; exact lmt_145
  | 26, h => cases h; exact lmt_146
  | 27, h => cases h; exact lmt_147
  | 28, h => cases h; exact lmt_148
  | 29, h => cases h; exact lmt_149
  | i + 30, h => simp at h
theorem ltc_5 : ∀ (i : Nat) (l : List (Nat × ME)), ([mt_150, mt_151, mt_152, mt_153, mt_154, mt_155, mt_156, mt_157, mt_158, mt_159, mt_160, mt_161, mt_162, mt_163, mt_164, mt_165, mt_166, mt_167, mt_168, mt_169, mt_170, mt_171, mt_172, mt_173, mt_174, mt_175, mt_176, mt_177, mt_178, mt_179] : List (List (Nat × ME)))[i]? = some l → ∀ e ∈ l, mm_Lk (150 + i) e := by
  intro i l h
  match i, h with
  | 0, h => cases h; exact lmt_150
  | 1, h => cases h; exact lmt_151
  | 2, h => cases h; exact lmt_152
  | 3, h => cases h; exact lmt_153
  | 4, h => cases h; exact lmt_154
  | 5, h => cases h; exact lmt_155
  | 6, h => cases h; exact lmt_156
  | 7, h => cases h; exact lmt_157
  | 8, h => cases h; exact lmt_158
  | 9, h => cases h; exact lmt_159
  | 10, h => cases h; exact lmt_160
  | 11, h => cases h; exact lmt_161
  | 12, h => cases h; exact lmt_162
  | 13, h => cases h; exact lmt_163
  | 14, h => cases h; exact lmt_164
  | 15, h => cases h; exact lmt_165
  | 16, h => cases h; exact lmt_166
  | 17, h => cases h; exact lmt_167
  | 18, h => cases h; exact lmt_168
  | 19, h => cases h; exact lmt_169
  | 20, h => cases h; exact lmt_170
  | 21, h => cases h; exact lmt_171
  | 22, h => cases h; exact lmt_172
  | 23, h => cases h; exact lmt_173
  | 24, h => cases h; exact lmt_174
  | 25, h => cases h; exact lmt_175
  | 26, h => cases h; exact lmt_176
  | 27, h => cases h; exact lmt_177
  | 28, h => cases h; exact lmt_178
  | 29, h => cases h; exact lmt_179
  | i + 30, h => simp at h
theorem ltc_6 : ∀ (i : Nat) (l : List (Nat × ME)), ([mt_180, mt_181, mt_182, mt_183, mt_184, mt_185, mt_186, mt_187, mt_188, mt_189, mt_190, mt_191, mt_192, mt_193, mt_194, mt_195, mt_196, mt_197, mt_198, mt_199, mt_200, mt_201, mt_202, mt_203, mt_204, mt_205, mt_206, mt_207, mt_208, mt_209] : List (List (Nat × ME)))[i]? = some l → ∀ e ∈ l, mm_Lk (180 + i) e := by
  intro i l h
  match i, h with
  | 0, h => cases h; exact lmt_180
  | 1, h => cases h; exact lmt_181
  | 2, h => cases h; exact lmt_182
  | 3, h => cases h; exact lmt_183
  | 4, h => cases h; exact lmt_184
  | 5, h => cases h; exact lmt_185
  | 6, h => cases h; exact lmt_186
  | 7, h => cases h; exact lmt_187
  | 8, h => cases h; exact lmt_188
  | 9, h => cases h; exact lmt_189
  | 10, h => cases h; exact lmt_190
  | 11, h => cases h; exact lmt_191
  | 12, h => cases h; exact lmt_192
  | 13, h => cases h; exact lmt_193
  | 14, h => cases h; exact lmt_194
  | 15, h => cases h; exact lmt_195
  | 16, h => cases h; exact lmt_196
  | 17, h => cases h; exact lmt_197
  | 18, h => cases h; exact lmt_198
  | 19, h => cases h; exact lmt_199
  | 20, h => cases h; exact lmt_200
  | 21, h => cases h; exact lmt_201
  | 22, h => cases h; exact lmt_202
  | 23, h => cases h; exact lmt_203
  | 24, h => cases h; exact lmt_204
  | 25, h => cases h; exact lmt_205
  | 26, h => cases h; exact lmt_206
  | 27, h => cases h; exact lmt_207
  | 28, h => cases h; exact lmt_208
  | 29, h => cases h; exact lmt_209
  | i + 30, h => simp at h
theorem ltc_7 : ∀ (i : Nat) (l : List (Nat × ME)), ([mt_210, mt_211, mt_212, mt_213, mt_214, mt_215, mt_216, mt_217, mt_218, mt_219, mt_220, mt_221, mt_222, mt_223, mt_224, mt_225, mt_226, mt_227, mt_228, mt_229, mt_230, mt_231, mt_232, mt_233, mt_234, mt_235, mt_236, mt_237, mt_238, mt_239] : List (List (Nat × ME)))[i]? = some l → ∀ e ∈ l, mm_Lk (210 + i) e := by
  intro i l h
  match i, h with
  | 0, h => cases h; exact lmt_210
  | 1, h => cases h; exact lmt_211
  | 2, h => cases h; exact lmt_212
  | 3, h => cases h; exact lmt_213
  | 4, h => cases h; exact lmt_214
  | 5, h => cases h; exact lmt_215
  | 6, h => cases h; exact lmt_216
  | 7, h => cases h; exact lmt_217
  | 8, h => cases h; exact lmt_218
  | 9, h => cases h; exact lmt_219
  | 10, h => cases h; exact lmt_220
  | 11, h => cases h; exact lmt_221
  | 12, h => cases h; exact lmt_222
  | 13, h => cases h; exact lmt_223
  | 14, h => cases h; exact lmt_224
  | 15, h => cases h; exact lmt_225
  | 16, h => cases h; exact lmt_226
  | 17, h => cases h; exact lmt_227
  | 18, h => cases h; exact lmt_228
  | 19, h => cases h; exact lmt_229
  | 20, h => cases h; exact lmt_230
  | 21, h => cases h; exact lmt_231
  | 22, h => cases h; exact lmt_232
  | 23, h => cases h; exact lmt_233
  | 24, h => cases h; exact lmt_234
  | 25, h => cases h; exact lmt_235
  | 26, h => cases h; exact lmt_236
  | 27, h => cases h; exact lmt_237
  | 28, h => cases h; exact lmt_238
  | 29, h => cases h; exact lmt_239
  | i + 30, h => simp at h
theorem ltc_8 : ∀ (i : Nat) (l : List (Nat × ME)), ([mt_240, mt_241, mt_242, mt_243, mt_244, mt_245, mt_246, mt_247, mt_248, mt_249, mt_250, mt_251, mt_252, mt_253, mt_254, mt_255, mt_256, mt_257, mt_258, mt_259, mt_260, mt_261, mt_262, mt_263, mt_264, mt_265] : List (List (Nat × ME)))[i]? = some l → ∀ e ∈ l, mm_Lk (240 + i) e := by
  intro i l h
  match i, h with
  | 0, h => cases h; exact lmt_240
  | 1, h => cases h; exact lmt_241
  | 2, h => cases h; exact lmt_242
  | 3, h => cases h; exact lmt_243
  | 4, h => cases h; exact lmt_244
  | 5, h => cases h; exact lmt_245
  | 6, h => cases h; exact lmt_246
  | 7, h => cases h; exact lmt_247
  | 8, h => cases h; exact lmt_248
  | 9, h => cases h; exact lmt_249
  | 10, h => cases h; exact lmt_250
  | 11, h => cases h; exact lmt_251
  | 12, h => cases h; exact lmt_252
  | 13, h => cases h; exact lmt_253
  | 14, h => cases h; exact lmt_254
  | 15, h => cases h; exact lmt_255
  | 16, h => cases h; exact lmt_256
  | 17, h => cases h; exact lmt_257
  | 18, h => cases h; exact lmt_258
  | 19, h => cases h; exact lmt_259
  | 20, h => cases h; exact lmt_260
  | 21, h => cases h; exact lmt_261
  | 22, h => cases h; exact lmt_262
  | 23, h => cases h; exact lmt_263
  | 24, h => cases h; exact lmt_264
  | 25, h => cases h; exact lmt_265
  | i + 26, h => simp at h
set_option maxRecDepth 50000 in
theorem mm_tabs_eq : mm_tabs = [mt_0, mt_1, mt_2, mt_3, mt_4, mt_5, mt_6, mt_7, mt_8, mt_9, mt_10, mt_11, mt_12, mt_13, mt_14, mt_15, mt_16, mt_17, mt_18, mt_19, mt_20, mt_21, mt_22, mt_23, mt_24, mt_25, mt_26, mt_27, mt_28, mt_29] ++ ([mt_30, mt_31, mt_32, mt_33, mt_34, mt_35, mt_36, mt_37, mt_38, mt_39, mt_40, mt_41, mt_42, mt_43, mt_44, mt_45, mt_46, mt_47, mt_48, mt_49, mt_50, mt_51, mt_52, mt_53, mt_54, mt_55, mt_56, mt_57, mt_58, mt_59] ++ ([mt_60, mt_61, mt_62, mt_63, mt_64, mt_65, mt_66, mt_67, mt_68, mt_69, mt_70, mt_71, mt_72, mt_73, mt_74, mt_75, mt_76, mt_77, mt_78, mt_79, mt_80, mt_81, mt_82, mt_83, mt_84, mt_85, mt_86, mt_87, mt_88, mt_89] ++ ([mt_90, mt_91, mt_92, mt_93, mt_94, mt_95, mt_96, mt_97, mt_98, mt_99, mt_100, mt_101, mt_102, mt_103, mt_104, mt_105, mt_106, mt_107, mt_108, mt_109, mt_110, mt_111, mt_112, mt_113, mt_114, mt_115, mt_116, mt_117, mt_118, mt_119] ++ ([mt_120, mt_121, mt_122, mt_123, mt_124, mt_125, mt_126, mt_127, mt_128, mt_129, mt_130, mt_131, mt_132, mt_133, mt_134, mt_135, mt_136, mt_137, mt_138, mt_139, mt_140, mt_141, mt_142, mt_143, mt_144, mt_145, mt_146, mt_147, mt_148, mt_149] ++ ([mt_150, mt_151, mt_152, mt_153, mt_154, mt_155, mt_156, mt_157, mt_158, mt_159, mt_160, mt_161, mt_162, mt_163, mt_164, mt_165, mt_166, mt_167, mt_168, mt_169, mt_170, mt_171, mt_172, mt_173, mt_174, mt_175, mt_176, mt_177, mt_178, mt_179] ++ ([mt_180, mt_181, mt_182, mt_183, mt_184, mt_185, mt_186, mt_187, mt_188, mt_189, mt_190, mt_191, mt_192, mt_193, mt_194, mt_195, mt_196, mt_197, mt_198, mt_199, mt_200, mt_201, mt_202, mt_203, mt_204, mt_205, mt_206, mt_207, mt_208, mt_209] ++ ([mt_210, mt_211, mt_212, mt_213, mt_214, mt_215, mt_216, mt_217, mt_218, mt_219, mt_220, mt_221, mt_222, mt_223, mt_224, mt_225, mt_226, mt_227, mt_228, mt_229, mt_230, mt_231, mt_232, mt_233, mt_234, mt_235, mt_236, mt_237, mt_238, mt_239] ++ ([mt_240, mt_241, mt_242, mt_243, mt_244, mt_245, mt_246, mt_247, mt_248, mt_249, mt_250, mt_251, mt_252, mt_253, mt_254, mt_255, mt_256, mt_257, mt_258, mt_259, mt_260, mt_261, mt_262, mt_263, mt_264, mt_265])))))))) := rfl
set_option maxRecDepth 50000 in
theorem mm_Lk_all : ∀ (m pc : Nat) (e : ME), mm_prog m pc = some e → mm_Lk m (pc, e) := by
  intro m pc e h
  have hm := mm_lookup_mem _ _ _ h
  have key : ∀ (i : Nat) (l : List (Nat × ME)), mm_tabs[i]? = some l → ∀ e ∈ l, mm_Lk i e := by
    intro i l hl
    rw [mm_tabs_eq] at hl
    by_cases h0 : i < 30
    · rw [List.getElem?_append_left (by simp only [List.length_cons, List.length_nil]; omega)] at hl
      have := ltc_0 _ _ hl
      rwa [show 0 + i = i by omega] at this
    · rw [List.getElem?_append_right (by simp only [List.length_cons, List.length_nil]; omega)] at hl
      simp only [List.length_cons, List.length_nil] at hl
      by_cases h1 : i - 30 < 30
      · rw [List.getElem?_append_left (by simp only [List.length_cons, List.length_nil]; omega)] at hl
        have := ltc_1 _ _ hl
        rwa [show 30 + (i - 30) = i by omega] at this
      · rw [List.getElem?_append_right (by simp only [List.length_cons, List.length_nil]; omega)] at hl
        simp only [List.length_cons, List.length_nil] at hl
        by_cases h2 : i - 60 < 30
        · rw [List.getElem?_append_left (by simp only [List.length_cons, List.length_nil]; omega)] at hl
          have := ltc_2 _ _ hl
          rwa [show 60 + (i - 30 - 30) = i by omega] at this
        · rw [List.getElem?_append_right (by simp only [List.length_cons, List.length_nil]; omega)] at hl
          simp only [List.length_cons, List.length_nil] at hl
          by_cases h3 : i - 90 < 30
          · rw [List.getElem?_append_left (by simp only [List.length_cons, List.length_nil]; omega)] at hl
            have := ltc_3 _ _ hl
            rwa [show 90 + (i - 30 - 30 - 30) = i by omega] at this
          · rw [List.getElem?_append_right (by simp only [List.length_cons, List.length_nil]; omega)] at hl
            simp only [List.length_cons, List.length_nil] at hl
            by_cases h4 : i - 120 < 30
            · rw [List.getElem?_append_left (by simp only [List.length_cons, List.length_nil]; omega)] at hl
              have := ltc_4 _ _ hl
              rwa [show 120 + (i - 30 - 30 - 30 - 30) = i by omega] at this
            · rw [List.getElem?_append_right (by simp only [List.length_cons, List.length_nil]; omega)] at hl
              simp only [List.length_cons, List.length_nil] at hl
              by_cases h5 : i - 150 < 30
              · rw [List.getElem?_append_left (by simp only [List.length_cons, List.length_nil]; omega)] at hl
                have := ltc_5 _ _ hl
                rwa [show 150 + (i - 30 - 30 - 30 - 30 - 30) = i by omega] at this
              · rw [List.getElem?_append_right (by simp only [List.length_cons, List.length_nil]; omega)] at hl
                simp only [List.length_cons, List.length_nil] at hl
                by_cases h6 : i - 180 < 30
                · rw [List.getElem?_append_left (by simp only [List.length_cons, List.length_nil]; omega)] at hl
                  have := ltc_6 _ _ hl
                  rwa [show 180 + (i - 30 - 30 - 30 - 30 - 30 - 30) = i by omega] at this
                · rw [List.getElem?_append_right (by simp only [List.length_cons, List.length_nil]; omega)] at hl
                  simp only [List.length_cons, List.length_nil] at hl
                  by_cases h7 : i - 210 < 30
                  · rw [List.getElem?_append_left (by simp only [List.length_cons, List.length_nil]; omega)] at hl
                    have := ltc_7 _ _ hl
                    rwa [show 210 + (i - 30 - 30 - 30 - 30 - 30 - 30 - 30) = i by omega] at this
                  · rw [List.getElem?_append_right (by simp only [List.length_cons, List.length_nil]; omega)] at hl
                    simp only [List.length_cons, List.length_nil] at hl
                    have := ltc_8 _ _ hl
                    rwa [show 240 + (i - 30 - 30 - 30 - 30 - 30 - 30 - 30 - 30) = i by omega] at this
  unfold List.getD at hm
  cases ht : mm_tabs[m]? with
  | none => rw [ht] at hm; simp at hm
  | some l => rw [ht] at hm; exact key m l ht _ hm
