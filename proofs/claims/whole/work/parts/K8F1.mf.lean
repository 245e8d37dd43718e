set_option maxRecDepth 20000 in
theorem mc_0 : Cond.code yX0_init cX0_init 1 (none) ∈ lw_tbl := List.mem_of_getElem? (i := 126) rfl
theorem mf_0 : mm_MF 0 0 := ⟨⟨mc_0, rfl⟩, wi_91, by decide +kernel, by decide +kernel, by decide +kernel⟩
set_option maxRecDepth 20000 in
theorem mc_1 : Cond.code yX0_clear cX0_clear 1 (none) ∈ lw_tbl := List.mem_of_getElem? (i := 548) rfl
theorem mf_1 : mm_MF 1 0 := ⟨⟨mc_1, rfl⟩, wi_91, by decide +kernel, by decide +kernel, by decide +kernel⟩
set_option maxRecDepth 20000 in
theorem mc_10 : Cond.code yX1_putTiming cX1_putTiming 4 (none) ∈ lw_tbl := List.mem_of_getElem? (i := 744) rfl
theorem mf_10 : mm_MF 10 2 := ⟨⟨mc_10, rfl⟩, wi_97, by decide +kernel, by decide +kernel, by decide +kernel⟩
set_option maxRecDepth 20000 in
theorem mc_100 : Cond.code yX10_load cX10_load 2 (some (.int)) ∈ lw_tbl := List.mem_of_getElem? (i := 531) rfl
theorem mf_100 : mm_MF 100 1 := ⟨⟨mc_100, rfl⟩, wi_90, by decide +kernel, by decide +kernel, by decide +kernel⟩
set_option maxRecDepth 20000 in
theorem mc_101 : Cond.code yX10_fault cX10_fault 2 (some (.int)) ∈ lw_tbl := List.mem_of_getElem? (i := 781) rfl
theorem mf_101 : mm_MF 101 1 := ⟨⟨mc_101, rfl⟩, wi_90, by decide +kernel, by decide +kernel, by decide +kernel⟩
set_option maxRecDepth 20000 in
theorem mc_102 : Cond.code yX10_mend cX10_mend 2 (some (.int)) ∈ lw_tbl := List.mem_of_getElem? (i := 785) rfl
theorem mf_102 : mm_MF 102 1 := ⟨⟨mc_102, rfl⟩, wi_90, by decide +kernel, by decide +kernel, by decide +kernel⟩
set_option maxRecDepth 20000 in
theorem mc_103 : Cond.code yX10_told cX10_told 2 (some (.int)) ∈ lw_tbl := List.mem_of_getElem? (i := 791) rfl
theorem mf_103 : mm_MF 103 1 := ⟨⟨mc_103, rfl⟩, wi_90, by decide +kernel, by decide +kernel, by decide +kernel⟩
set_option maxRecDepth 20000 in
theorem mc_104 : Cond.code yX10_toldPlainly cX10_toldPlainly 2 (some (.int)) ∈ lw_tbl := List.mem_of_getElem? (i := 804) rfl
theorem mf_104 : mm_MF 104 1 := ⟨⟨mc_104, rfl⟩, wi_90, by decide +kernel, by decide +kernel, by decide +kernel⟩
set_option maxRecDepth 20000 in
theorem mc_105 : Cond.code yX10_name cX10_name 2 (some (.int)) ∈ lw_tbl := List.mem_of_getElem? (i := 812) rfl
theorem mf_105 : mm_MF 105 1 := ⟨⟨mc_105, rfl⟩, wi_90, by decide +kernel, by decide +kernel, by decide +kernel⟩
set_option maxRecDepth 20000 in
theorem mc_106 : Cond.code yX10_detailed cX10_detailed 4 (some (.int)) ∈ lw_tbl := List.mem_of_getElem? (i := 817) rfl
theorem mf_106 : mm_MF 106 2 := ⟨⟨mc_106, rfl⟩, wi_90, by decide +kernel, by decide +kernel, by decide +kernel⟩
set_option maxRecDepth 20000 in
theorem mc_107 : Cond.code yX10_forged cX10_forged 2 (some (.int)) ∈ lw_tbl := List.mem_of_getElem? (i := 827) rfl
theorem mf_107 : mm_MF 107 1 := ⟨⟨mc_107, rfl⟩, wi_90, by decide +kernel, by decide +kernel, by decide +kernel⟩
set_option maxRecDepth 20000 in
theorem mc_108 : Cond.code yX10_mode cX10_mode 4 (some (.int)) ∈ lw_tbl := List.mem_of_getElem? (i := 835) rfl
theorem mf_108 : mm_MF 108 2 := ⟨⟨mc_108, rfl⟩, wi_90, by decide +kernel, by decide +kernel, by decide +kernel⟩
set_option maxRecDepth 20000 in
theorem mc_109 : Cond.code yX10_called cX10_called 4 (some (.int)) ∈ lw_tbl := List.mem_of_getElem? (i := 853) rfl
theorem mf_109 : mm_MF 109 2 := ⟨⟨mc_109, rfl⟩, wi_90, by decide +kernel, by decide +kernel, by decide +kernel⟩
set_option maxRecDepth 20000 in
theorem mc_11 : Cond.code yX1_putName cX1_putName 4 (none) ∈ lw_tbl := List.mem_of_getElem? (i := 761) rfl
theorem mf_11 : mm_MF 11 2 := ⟨⟨mc_11, rfl⟩, wi_97, by decide +kernel, by decide +kernel, by decide +kernel⟩
set_option maxRecDepth 20000 in
theorem mc_110 : Cond.code yX10_find cX10_find 4 (some (.int)) ∈ lw_tbl := List.mem_of_getElem? (i := 1019) rfl
theorem mf_110 : mm_MF 110 3 := ⟨⟨mc_110, rfl⟩, wi_90, by decide +kernel, by decide +kernel, by decide +kernel⟩
set_option maxRecDepth 20000 in
theorem mc_111 : Cond.code yX10_formula cX10_formula 6 (some (.int)) ∈ lw_tbl := List.mem_of_getElem? (i := 1024) rfl
theorem mf_111 : mm_MF 111 5 := ⟨⟨mc_111, rfl⟩, wi_90, by decide +kernel, by decide +kernel, by decide +kernel⟩
set_option maxRecDepth 20000 in
theorem mc_112 : Cond.code yX10_descriptor cX10_descriptor 6 (some (.int)) ∈ lw_tbl := List.mem_of_getElem? (i := 1038) rfl
theorem mf_112 : mm_MF 112 5 := ⟨⟨mc_112, rfl⟩, wi_90, by decide +kernel, by decide +kernel, by decide +kernel⟩
set_option maxRecDepth 20000 in
theorem mc_113 : Cond.code yX10_fastest cX10_fastest 10 (some (.int)) ∈ lw_tbl := List.mem_of_getElem? (i := 1044) rfl
theorem mf_113 : mm_MF 113 6 := ⟨⟨mc_113, rfl⟩, wi_90, by decide +kernel, by decide +kernel, by decide +kernel⟩
set_option maxRecDepth 20000 in
theorem mc_114 : Cond.code yX10_isFormula cX10_isFormula 1 (some (.boolean)) ∈ lw_tbl := List.mem_of_getElem? (i := 1027) rfl
theorem mf_114 : mm_MF 114 1 := ⟨⟨mc_114, rfl⟩, wi_90, by decide +kernel, by decide +kernel, by decide +kernel⟩
set_option maxRecDepth 20000 in
theorem mc_115 : Cond.code yX10_isSize cX10_isSize 2 (some (.boolean)) ∈ lw_tbl := List.mem_of_getElem? (i := 1030) rfl
theorem mf_115 : mm_MF 115 2 := ⟨⟨mc_115, rfl⟩, wi_90, by decide +kernel, by decide +kernel, by decide +kernel⟩
set_option maxRecDepth 20000 in
theorem mc_116 : Cond.code yX10_isHertz cX10_isHertz 1 (some (.boolean)) ∈ lw_tbl := List.mem_of_getElem? (i := 1033) rfl
theorem mf_116 : mm_MF 116 1 := ⟨⟨mc_116, rfl⟩, wi_90, by decide +kernel, by decide +kernel, by decide +kernel⟩
set_option maxRecDepth 20000 in
theorem mc_117 : Cond.code yX10_wish cX10_wish 3 (some (.int)) ∈ lw_tbl := List.mem_of_getElem? (i := 1063) rfl
theorem mf_117 : mm_MF 117 1 := ⟨⟨mc_117, rfl⟩, wi_90, by decide +kernel, by decide +kernel, by decide +kernel⟩
set_option maxRecDepth 20000 in
theorem mc_118 : Cond.code yX10_room cX10_room 3 (some (.int)) ∈ lw_tbl := List.mem_of_getElem? (i := 1067) rfl
theorem mf_118 : mm_MF 118 2 := ⟨⟨mc_118, rfl⟩, wi_90, by decide +kernel, by decide +kernel, by decide +kernel⟩
set_option maxRecDepth 20000 in
theorem mc_119 : Cond.code yX10_need cX10_need 4 (some (.int)) ∈ lw_tbl := List.mem_of_getElem? (i := 1071) rfl
theorem mf_119 : mm_MF 119 2 := ⟨⟨mc_119, rfl⟩, wi_90, by decide +kernel, by decide +kernel, by decide +kernel⟩
set_option maxRecDepth 20000 in
theorem mc_12 : Cond.code yX1_putRange cX1_putRange 4 (none) ∈ lw_tbl := List.mem_of_getElem? (i := 769) rfl
theorem mf_12 : mm_MF 12 2 := ⟨⟨mc_12, rfl⟩, wi_97, by decide +kernel, by decide +kernel, by decide +kernel⟩
set_option maxRecDepth 20000 in
theorem mc_120 : Cond.code yX10_best cX10_best 4 (some (.int)) ∈ lw_tbl := List.mem_of_getElem? (i := 1075) rfl
theorem mf_120 : mm_MF 120 3 := ⟨⟨mc_120, rfl⟩, wi_90, by decide +kernel, by decide +kernel, by decide +kernel⟩
set_option maxRecDepth 20000 in
theorem mc_121 : Cond.code yX10_cheapest cX10_cheapest 11 (some (.int)) ∈ lw_tbl := List.mem_of_getElem? (i := 1087) rfl
theorem mf_121 : mm_MF 121 2 := ⟨⟨mc_121, rfl⟩, wi_90, by decide +kernel, by decide +kernel, by decide +kernel⟩
set_option maxRecDepth 20000 in
theorem mc_122 : Cond.code yX10_isLink cX10_isLink 2 (some (.boolean)) ∈ lw_tbl := List.mem_of_getElem? (i := 1047) rfl
theorem mf_122 : mm_MF 122 2 := ⟨⟨mc_122, rfl⟩, wi_90, by decide +kernel, by decide +kernel, by decide +kernel⟩
set_option maxRecDepth 20000 in
theorem mc_123 : Cond.code yX10_isDepth cX10_isDepth 1 (some (.boolean)) ∈ lw_tbl := List.mem_of_getElem? (i := 1050) rfl
theorem mf_123 : mm_MF 123 1 := ⟨⟨mc_123, rfl⟩, wi_90, by decide +kernel, by decide +kernel, by decide +kernel⟩
set_option maxRecDepth 20000 in
theorem mc_124 : Cond.code yX10_roomOf cX10_roomOf 2 (some (.int)) ∈ lw_tbl := List.mem_of_getElem? (i := 1053) rfl
theorem mf_124 : mm_MF 124 2 := ⟨⟨mc_124, rfl⟩, wi_90, by decide +kernel, by decide +kernel, by decide +kernel⟩
set_option maxRecDepth 20000 in
theorem mc_125 : Cond.code yX10_needOf cX10_needOf 2 (some (.long)) ∈ lw_tbl := List.mem_of_getElem? (i := 1058) rfl
theorem mf_125 : mm_MF 125 2 := ⟨⟨mc_125, rfl⟩, wi_90, by decide +kernel, by decide +kernel, by decide +kernel⟩
set_option maxRecDepth 20000 in
theorem mc_126 : Cond.code yX10_depthWithin cX10_depthWithin 4 (some (.int)) ∈ lw_tbl := List.mem_of_getElem? (i := 1083) rfl
theorem mf_126 : mm_MF 126 2 := ⟨⟨mc_126, rfl⟩, wi_90, by decide +kernel, by decide +kernel, by decide +kernel⟩
set_option maxRecDepth 20000 in
theorem mc_127 : Cond.code yX10_bestWithin cX10_bestWithin 6 (some (.int)) ∈ lw_tbl := List.mem_of_getElem? (i := 1079) rfl
theorem mf_127 : mm_MF 127 2 := ⟨⟨mc_127, rfl⟩, wi_90, by decide +kernel, by decide +kernel, by decide +kernel⟩
set_option maxRecDepth 20000 in
theorem mc_128 : Cond.code yX10_lane cX10_lane 5 (some (.int)) ∈ lw_tbl := List.mem_of_getElem? (i := 1092) rfl
theorem mf_128 : mm_MF 128 3 := ⟨⟨mc_128, rfl⟩, wi_90, by decide +kernel, by decide +kernel, by decide +kernel⟩
set_option maxRecDepth 20000 in
theorem mc_129 : Cond.code yX10_wire cX10_wire 3 (some (.int)) ∈ lw_tbl := List.mem_of_getElem? (i := 1116) rfl
theorem mf_129 : mm_MF 129 2 := ⟨⟨mc_129, rfl⟩, wi_90, by decide +kernel, by decide +kernel, by decide +kernel⟩
set_option maxRecDepth 20000 in
theorem mc_13 : Cond.code yX1_putSum cX1_putSum 6 (none) ∈ lw_tbl := List.mem_of_getElem? (i := 777) rfl
theorem mf_13 : mm_MF 13 0 := ⟨⟨mc_13, rfl⟩, wi_97, by decide +kernel, by decide +kernel, by decide +kernel⟩
set_option maxRecDepth 20000 in
theorem mc_130 : Cond.code yX10_begin cX10_begin 1 (some (.int)) ∈ lw_tbl := List.mem_of_getElem? (i := 1120) rfl
theorem mf_130 : mm_MF 130 0 := ⟨⟨mc_130, rfl⟩, wi_90, by decide +kernel, by decide +kernel, by decide +kernel⟩
set_option maxRecDepth 20000 in
theorem mc_131 : Cond.code yX10_tries cX10_tries 4 (some (.int)) ∈ lw_tbl := List.mem_of_getElem? (i := 1129) rfl
theorem mf_131 : mm_MF 131 1 := ⟨⟨mc_131, rfl⟩, wi_90, by decide +kernel, by decide +kernel, by decide +kernel⟩
set_option maxRecDepth 20000 in
theorem mc_132 : Cond.code yX10_state cX10_state 2 (some (.int)) ∈ lw_tbl := List.mem_of_getElem? (i := 1206) rfl
theorem mf_132 : mm_MF 132 1 := ⟨⟨mc_132, rfl⟩, wi_90, by decide +kernel, by decide +kernel, by decide +kernel⟩
set_option maxRecDepth 20000 in
theorem mc_133 : Cond.code yX10_level cX10_level 3 (some (.int)) ∈ lw_tbl := List.mem_of_getElem? (i := 1215) rfl
theorem mf_133 : mm_MF 133 2 := ⟨⟨mc_133, rfl⟩, wi_90, by decide +kernel, by decide +kernel, by decide +kernel⟩
set_option maxRecDepth 20000 in
theorem mc_134 : Cond.code yX10_fall cX10_fall 3 (some (.int)) ∈ lw_tbl := List.mem_of_getElem? (i := 1219) rfl
theorem mf_134 : mm_MF 134 2 := ⟨⟨mc_134, rfl⟩, wi_90, by decide +kernel, by decide +kernel, by decide +kernel⟩
set_option maxRecDepth 20000 in
theorem mc_135 : Cond.code yX10_step cX10_step 3 (some (.int)) ∈ lw_tbl := List.mem_of_getElem? (i := 1231) rfl
theorem mf_135 : mm_MF 135 2 := ⟨⟨mc_135, rfl⟩, wi_90, by decide +kernel, by decide +kernel, by decide +kernel⟩
set_option maxRecDepth 20000 in
theorem mc_136 : Cond.code yX10_shown cX10_shown 2 (some (.int)) ∈ lw_tbl := List.mem_of_getElem? (i := 1236) rfl
theorem mf_136 : mm_MF 136 1 := ⟨⟨mc_136, rfl⟩, wi_90, by decide +kernel, by decide +kernel, by decide +kernel⟩
set_option maxRecDepth 20000 in
theorem mc_137 : Cond.code yX10_isLane cX10_isLane 1 (some (.boolean)) ∈ lw_tbl := List.mem_of_getElem? (i := 1095) rfl
theorem mf_137 : mm_MF 137 1 := ⟨⟨mc_137, rfl⟩, wi_90, by decide +kernel, by decide +kernel, by decide +kernel⟩
set_option maxRecDepth 20000 in
theorem mc_138 : Cond.code yX10_greatest cX10_greatest 6 (some (.int)) ∈ lw_tbl := List.mem_of_getElem? (i := 1210) rfl
theorem mf_138 : mm_MF 138 1 := ⟨⟨mc_138, rfl⟩, wi_90, by decide +kernel, by decide +kernel, by decide +kernel⟩
set_option maxRecDepth 20000 in
theorem mc_139 : Cond.code yX10_endTraining cX10_endTraining 1 (none) ∈ lw_tbl := List.mem_of_getElem? (i := 1099) rfl
theorem mf_139 : mm_MF 139 0 := ⟨⟨mc_139, rfl⟩, wi_90, by decide +kernel, by decide +kernel, by decide +kernel⟩
set_option maxRecDepth 20000 in
theorem mc_14 : Cond.code yX2_init cX2_init 1 (none) ∈ lw_tbl := List.mem_of_getElem? (i := 143) rfl
theorem mf_14 : mm_MF 14 0 := ⟨⟨mc_14, rfl⟩, wi_92, by decide +kernel, by decide +kernel, by decide +kernel⟩
set_option maxRecDepth 20000 in
theorem mc_140 : Cond.code yX10_trained cX10_trained 3 (some (.int)) ∈ lw_tbl := List.mem_of_getElem? (i := 1240) rfl
theorem mf_140 : mm_MF 140 1 := ⟨⟨mc_140, rfl⟩, wi_90, by decide +kernel, by decide +kernel, by decide +kernel⟩
set_option maxRecDepth 20000 in
theorem mc_141 : Cond.code yX10_margin cX10_margin 4 (some (.int)) ∈ lw_tbl := List.mem_of_getElem? (i := 1252) rfl
theorem mf_141 : mm_MF 141 1 := ⟨⟨mc_141, rfl⟩, wi_90, by decide +kernel, by decide +kernel, by decide +kernel⟩
set_option maxRecDepth 20000 in
theorem mc_142 : Cond.code yX10_laid cX10_laid 10 (some (.int)) ∈ lw_tbl := List.mem_of_getElem? (i := 1261) rfl
theorem mf_142 : mm_MF 142 1 := ⟨⟨mc_142, rfl⟩, wi_90, by decide +kernel, by decide +kernel, by decide +kernel⟩
set_option maxRecDepth 20000 in
theorem mc_143 : Cond.code yX10_layLane cX10_layLane 3 (none) ∈ lw_tbl := List.mem_of_getElem? (i := 1265) rfl
theorem mf_143 : mm_MF 143 2 := ⟨⟨mc_143, rfl⟩, wi_90, by decide +kernel, by decide +kernel, by decide +kernel⟩
set_option maxRecDepth 20000 in
theorem mc_144 : Cond.code yX10_enough cX10_enough 3 (some (.int)) ∈ lw_tbl := List.mem_of_getElem? (i := 1269) rfl
theorem mf_144 : mm_MF 144 0 := ⟨⟨mc_144, rfl⟩, wi_90, by decide +kernel, by decide +kernel, by decide +kernel⟩
set_option maxRecDepth 20000 in
theorem mc_145 : Cond.code yX10_would cX10_would 2 (some (.int)) ∈ lw_tbl := List.mem_of_getElem? (i := 1273) rfl
theorem mf_145 : mm_MF 145 1 := ⟨⟨mc_145, rfl⟩, wi_90, by decide +kernel, by decide +kernel, by decide +kernel⟩
set_option maxRecDepth 20000 in
theorem mc_146 : Cond.code yX10_count cX10_count 2 (some (.int)) ∈ lw_tbl := List.mem_of_getElem? (i := 1277) rfl
theorem mf_146 : mm_MF 146 1 := ⟨⟨mc_146, rfl⟩, wi_90, by decide +kernel, by decide +kernel, by decide +kernel⟩
set_option maxRecDepth 20000 in
theorem mc_147 : Cond.code yX10_headByte cX10_headByte 1 (some (.int)) ∈ lw_tbl := List.mem_of_getElem? (i := 567) rfl
theorem mf_147 : mm_MF 147 1 := ⟨⟨mc_147, rfl⟩, wi_90, by decide +kernel, by decide +kernel, by decide +kernel⟩
set_option maxRecDepth 20000 in
theorem mc_148 : Cond.code yX11_isIn cX11_isIn 6 (some (.boolean)) ∈ lw_tbl := List.mem_of_getElem? (i := 1440) rfl
theorem mf_148 : mm_MF 148 3 := ⟨⟨mc_148, rfl⟩, wi_105, by decide +kernel, by decide +kernel, by decide +kernel⟩
set_option maxRecDepth 20000 in
theorem mc_149 : Cond.code yX11_has cX11_has 2 (some (.boolean)) ∈ lw_tbl := List.mem_of_getElem? (i := 1541) rfl
theorem mf_149 : mm_MF 149 2 := ⟨⟨mc_149, rfl⟩, wi_105, by decide +kernel, by decide +kernel, by decide +kernel⟩
set_option maxRecDepth 20000 in
theorem mc_15 : Cond.code yX2_inspect cX2_inspect 4 (none) ∈ lw_tbl := List.mem_of_getElem? (i := 552) rfl
theorem mf_15 : mm_MF 15 1 := ⟨⟨mc_15, rfl⟩, wi_92, by decide +kernel, by decide +kernel, by decide +kernel⟩
set_option maxRecDepth 20000 in
theorem mc_150 : Cond.code yX11_greater cX11_greater 2 (some (.int)) ∈ lw_tbl := List.mem_of_getElem? (i := 1536) rfl
theorem mf_150 : mm_MF 150 2 := ⟨⟨mc_150, rfl⟩, wi_105, by decide +kernel, by decide +kernel, by decide +kernel⟩
set_option maxRecDepth 20000 in
theorem mc_151 : Cond.code yX11_init cX11_init 1 (none) ∈ lw_tbl := List.mem_of_getElem? (i := 1282) rfl
theorem mf_151 : mm_MF 151 0 := ⟨⟨mc_151, rfl⟩, wi_105, by decide +kernel, by decide +kernel, by decide +kernel⟩
set_option maxRecDepth 20000 in
theorem mc_152 : Cond.code yX11_feed cX11_feed 8 (some (.int)) ∈ lw_tbl := List.mem_of_getElem? (i := 1433) rfl
theorem mf_152 : mm_MF 152 5 := ⟨⟨mc_152, rfl⟩, wi_105, by decide +kernel, by decide +kernel, by decide +kernel⟩
set_option maxRecDepth 20000 in
theorem mc_153 : Cond.code yX11_fails cX11_fails 3 (none) ∈ lw_tbl := List.mem_of_getElem? (i := 1449) rfl
theorem mf_153 : mm_MF 153 2 := ⟨⟨mc_153, rfl⟩, wi_105, by decide +kernel, by decide +kernel, by decide +kernel⟩
set_option maxRecDepth 20000 in
theorem mc_154 : Cond.code yX11_sumOf cX11_sumOf 4 (some (.int)) ∈ lw_tbl := List.mem_of_getElem? (i := 1453) rfl
theorem mf_154 : mm_MF 154 1 := ⟨⟨mc_154, rfl⟩, wi_105, by decide +kernel, by decide +kernel, by decide +kernel⟩
set_option maxRecDepth 20000 in
theorem mc_155 : Cond.code yX11_checks cX11_checks 3 (none) ∈ lw_tbl := List.mem_of_getElem? (i := 1444) rfl
theorem mf_155 : mm_MF 155 0 := ⟨⟨mc_155, rfl⟩, wi_105, by decide +kernel, by decide +kernel, by decide +kernel⟩
set_option maxRecDepth 20000 in
theorem mc_156 : Cond.code yX11_checksExtension cX11_checksExtension 5 (none) ∈ lw_tbl := List.mem_of_getElem? (i := 1457) rfl
theorem mf_156 : mm_MF 156 1 := ⟨⟨mc_156, rfl⟩, wi_105, by decide +kernel, by decide +kernel, by decide +kernel⟩
set_option maxRecDepth 20000 in
theorem mc_157 : Cond.code yX11_load cX11_load 3 (some (.int)) ∈ lw_tbl := List.mem_of_getElem? (i := 1437) rfl
theorem mf_157 : mm_MF 157 1 := ⟨⟨mc_157, rfl⟩, wi_105, by decide +kernel, by decide +kernel, by decide +kernel⟩
set_option maxRecDepth 20000 in
theorem mc_158 : Cond.code yX11_fault cX11_fault 2 (some (.int)) ∈ lw_tbl := List.mem_of_getElem? (i := 1549) rfl
theorem mf_158 : mm_MF 158 1 := ⟨⟨mc_158, rfl⟩, wi_105, by decide +kernel, by decide +kernel, by decide +kernel⟩
set_option maxRecDepth 20000 in
theorem mc_159 : Cond.code yX11_mend cX11_mend 3 (some (.int)) ∈ lw_tbl := List.mem_of_getElem? (i := 1553) rfl
theorem mf_159 : mm_MF 159 1 := ⟨⟨mc_159, rfl⟩, wi_105, by decide +kernel, by decide +kernel, by decide +kernel⟩
set_option maxRecDepth 20000 in
theorem mc_16 : Cond.code yX2_note cX2_note 3 (none) ∈ lw_tbl := List.mem_of_getElem? (i := 556) rfl
theorem mf_16 : mm_MF 16 2 := ⟨⟨mc_16, rfl⟩, wi_92, by decide +kernel, by decide +kernel, by decide +kernel⟩
set_option maxRecDepth 20000 in
theorem mc_160 : Cond.code yX11_at cX11_at 2 (some (.int)) ∈ lw_tbl := List.mem_of_getElem? (i := 1474) rfl
theorem mfx_160 : mm_MF 160 1 := ⟨⟨mc_160, rfl⟩, wi_105, by decide +kernel, by decide +kernel, by decide +kernel⟩
set_option maxRecDepth 20000 in
theorem mc_161 : Cond.code yX11_readsDetailed cX11_readsDetailed 4 (none) ∈ lw_tbl := List.mem_of_getElem? (i := 1478) rfl
theorem mfx_161 : mm_MF 161 1 := ⟨⟨mc_161, rfl⟩, wi_105, by decide +kernel, by decide +kernel, by decide +kernel⟩
set_option maxRecDepth 20000 in
theorem mc_162 : Cond.code yX11_isBroken cX11_isBroken 2 (some (.boolean)) ∈ lw_tbl := List.mem_of_getElem? (i := 1482) rfl
theorem mf_162 : mm_MF 162 1 := ⟨⟨mc_162, rfl⟩, wi_105, by decide +kernel, by decide +kernel, by decide +kernel⟩
set_option maxRecDepth 20000 in
theorem mc_163 : Cond.code yX11_isDetailed cX11_isDetailed 2 (some (.boolean)) ∈ lw_tbl := List.mem_of_getElem? (i := 1470) rfl
theorem mf_163 : mm_MF 163 1 := ⟨⟨mc_163, rfl⟩, wi_105, by decide +kernel, by decide +kernel, by decide +kernel⟩
set_option maxRecDepth 20000 in
theorem mc_164 : Cond.code yX11_readsOther cX11_readsOther 3 (none) ∈ lw_tbl := List.mem_of_getElem? (i := 1486) rfl
theorem mf_164 : mm_MF 164 1 := ⟨⟨mc_164, rfl⟩, wi_105, by decide +kernel, by decide +kernel, by decide +kernel⟩
set_option maxRecDepth 20000 in
theorem mc_165 : Cond.code yX11_readsData cX11_readsData 5 (none) ∈ lw_tbl := List.mem_of_getElem? (i := 1492) rfl
theorem mf_165 : mm_MF 165 2 := ⟨⟨mc_165, rfl⟩, wi_105, by decide +kernel, by decide +kernel, by decide +kernel⟩
set_option maxRecDepth 20000 in
theorem mc_166 : Cond.code yX11_readsAll cX11_readsAll 5 (none) ∈ lw_tbl := List.mem_of_getElem? (i := 1466) rfl
theorem mf_166 : mm_MF 166 0 := ⟨⟨mc_166, rfl⟩, wi_105, by decide +kernel, by decide +kernel, by decide +kernel⟩
set_option maxRecDepth 20000 in
theorem mc_167 : Cond.code yX11_hertzOf cX11_hertzOf 2 (some (.int)) ∈ lw_tbl := List.mem_of_getElem? (i := 1503) rfl
theorem mf_167 : mm_MF 167 2 := ⟨⟨mc_167, rfl⟩, wi_105, by decide +kernel, by decide +kernel, by decide +kernel⟩
set_option maxRecDepth 20000 in
theorem mc_168 : Cond.code yX11_ofMode cX11_ofMode 3 (some (.int)) ∈ lw_tbl := List.mem_of_getElem? (i := 1584) rfl
theorem mf_168 : mm_MF 168 2 := ⟨⟨mc_168, rfl⟩, wi_105, by decide +kernel, by decide +kernel, by decide +kernel⟩
set_option maxRecDepth 20000 in
theorem mc_169 : Cond.code yX11_isOut cX11_isOut 4 (some (.boolean)) ∈ lw_tbl := List.mem_of_getElem? (i := 1509) rfl
theorem mf_169 : mm_MF 169 3 := ⟨⟨mc_169, rfl⟩, wi_105, by decide +kernel, by decide +kernel, by decide +kernel⟩
set_option maxRecDepth 20000 in
theorem mc_17 : Cond.code yX2_inspectHead cX2_inspectHead 4 (none) ∈ lw_tbl := List.mem_of_getElem? (i := 560) rfl
theorem mf_17 : mm_MF 17 2 := ⟨⟨mc_17, rfl⟩, wi_92, by decide +kernel, by decide +kernel, by decide +kernel⟩
set_option maxRecDepth 20000 in
theorem mc_170 : Cond.code yX11_isFound cX11_isFound 5 (some (.boolean)) ∈ lw_tbl := List.mem_of_getElem? (i := 1513) rfl
theorem mf_170 : mm_MF 170 3 := ⟨⟨mc_170, rfl⟩, wi_105, by decide +kernel, by decide +kernel, by decide +kernel⟩
set_option maxRecDepth 20000 in
theorem mc_171 : Cond.code yX11_offers cX11_offers 11 (some (.boolean)) ∈ lw_tbl := List.mem_of_getElem? (i := 1500) rfl
theorem mf_171 : mm_MF 171 6 := ⟨⟨mc_171, rfl⟩, wi_105, by decide +kernel, by decide +kernel, by decide +kernel⟩
set_option maxRecDepth 20000 in
theorem mc_172 : Cond.code yX11_laysFronts cX11_laysFronts 6 (none) ∈ lw_tbl := List.mem_of_getElem? (i := 1517) rfl
theorem mf_172 : mm_MF 172 4 := ⟨⟨mc_172, rfl⟩, wi_105, by decide +kernel, by decide +kernel, by decide +kernel⟩
set_option maxRecDepth 20000 in
theorem mc_173 : Cond.code yX11_offersDetailed cX11_offersDetailed 4 (none) ∈ lw_tbl := List.mem_of_getElem? (i := 1496) rfl
theorem mf_173 : mm_MF 173 1 := ⟨⟨mc_173, rfl⟩, wi_105, by decide +kernel, by decide +kernel, by decide +kernel⟩
set_option maxRecDepth 20000 in
theorem mc_174 : Cond.code yX11_offersCode cX11_offersCode 4 (none) ∈ lw_tbl := List.mem_of_getElem? (i := 1521) rfl
theorem mf_174 : mm_MF 174 1 := ⟨⟨mc_174, rfl⟩, wi_105, by decide +kernel, by decide +kernel, by decide +kernel⟩
set_option maxRecDepth 20000 in
theorem mc_175 : Cond.code yX11_offersPlain cX11_offersPlain 5 (none) ∈ lw_tbl := List.mem_of_getElem? (i := 1525) rfl
theorem mf_175 : mm_MF 175 4 := ⟨⟨mc_175, rfl⟩, wi_105, by decide +kernel, by decide +kernel, by decide +kernel⟩
set_option maxRecDepth 20000 in
theorem mc_176 : Cond.code yX11_reads cX11_reads 5 (none) ∈ lw_tbl := List.mem_of_getElem? (i := 1462) rfl
theorem mf_176 : mm_MF 176 0 := ⟨⟨mc_176, rfl⟩, wi_105, by decide +kernel, by decide +kernel, by decide +kernel⟩
set_option maxRecDepth 20000 in
theorem mc_177 : Cond.code yX11_isAhead cX11_isAhead 6 (some (.boolean)) ∈ lw_tbl := List.mem_of_getElem? (i := 1545) rfl
theorem mf_177 : mm_MF 177 2 := ⟨⟨mc_177, rfl⟩, wi_105, by decide +kernel, by decide +kernel, by decide +kernel⟩
set_option maxRecDepth 20000 in
theorem mc_178 : Cond.code yX11_told cX11_told 3 (some (.int)) ∈ lw_tbl := List.mem_of_getElem? (i := 1557) rfl
theorem mf_178 : mm_MF 178 1 := ⟨⟨mc_178, rfl⟩, wi_105, by decide +kernel, by decide +kernel, by decide +kernel⟩
set_option maxRecDepth 20000 in
theorem mc_179 : Cond.code yX11_name cX11_name 2 (some (.int)) ∈ lw_tbl := List.mem_of_getElem? (i := 1566) rfl
theorem mf_179 : mm_MF 179 1 := ⟨⟨mc_179, rfl⟩, wi_105, by decide +kernel, by decide +kernel, by decide +kernel⟩
set_option maxRecDepth 20000 in
theorem mc_18 : Cond.code yX2_inspectExtension cX2_inspectExtension 6 (none) ∈ lw_tbl := List.mem_of_getElem? (i := 576) rfl
theorem mf_18 : mm_MF 18 2 := ⟨⟨mc_18, rfl⟩, wi_92, by decide +kernel, by decide +kernel, by decide +kernel⟩
set_option maxRecDepth 20000 in
theorem mc_180 : Cond.code yX11_detailed cX11_detailed 3 (some (.int)) ∈ lw_tbl := List.mem_of_getElem? (i := 1570) rfl
theorem mf_180 : mm_MF 180 2 := ⟨⟨mc_180, rfl⟩, wi_105, by decide +kernel, by decide +kernel, by decide +kernel⟩
set_option maxRecDepth 20000 in
theorem mc_181 : Cond.code yX11_isMode cX11_isMode 2 (some (.boolean)) ∈ lw_tbl := List.mem_of_getElem? (i := 1579) rfl
theorem mf_181 : mm_MF 181 1 := ⟨⟨mc_181, rfl⟩, wi_105, by decide +kernel, by decide +kernel, by decide +kernel⟩
set_option maxRecDepth 20000 in
theorem mc_182 : Cond.code yX11_mode cX11_mode 3 (some (.int)) ∈ lw_tbl := List.mem_of_getElem? (i := 1575) rfl
theorem mf_182 : mm_MF 182 2 := ⟨⟨mc_182, rfl⟩, wi_105, by decide +kernel, by decide +kernel, by decide +kernel⟩
set_option maxRecDepth 20000 in
theorem mc_183 : Cond.code yX11_thousandths cX11_thousandths 4 (some (.int)) ∈ lw_tbl := List.mem_of_getElem? (i := 1587) rfl
theorem mf_183 : mm_MF 183 2 := ⟨⟨mc_183, rfl⟩, wi_105, by decide +kernel, by decide +kernel, by decide +kernel⟩
set_option maxRecDepth 20000 in
theorem mc_184 : Cond.code yX11_laysMode cX11_laysMode 2 (none) ∈ lw_tbl := List.mem_of_getElem? (i := 1602) rfl
theorem mf_184 : mm_MF 184 1 := ⟨⟨mc_184, rfl⟩, wi_105, by decide +kernel, by decide +kernel, by decide +kernel⟩
set_option maxRecDepth 20000 in
theorem mc_185 : Cond.code yX11_forgesName cX11_forgesName 3 (none) ∈ lw_tbl := List.mem_of_getElem? (i := 1615) rfl
theorem mf_185 : mm_MF 185 1 := ⟨⟨mc_185, rfl⟩, wi_105, by decide +kernel, by decide +kernel, by decide +kernel⟩
set_option maxRecDepth 20000 in
theorem mc_186 : Cond.code yX11_forgesRange cX11_forgesRange 3 (none) ∈ lw_tbl := List.mem_of_getElem? (i := 1619) rfl
theorem mf_186 : mm_MF 186 1 := ⟨⟨mc_186, rfl⟩, wi_105, by decide +kernel, by decide +kernel, by decide +kernel⟩
set_option maxRecDepth 20000 in
theorem mc_187 : Cond.code yX11_forges cX11_forges 4 (some (.boolean)) ∈ lw_tbl := List.mem_of_getElem? (i := 1598) rfl
theorem mf_187 : mm_MF 187 0 := ⟨⟨mc_187, rfl⟩, wi_105, by decide +kernel, by decide +kernel, by decide +kernel⟩
set_option maxRecDepth 20000 in
theorem mc_188 : Cond.code yX11_forged cX11_forged 2 (some (.int)) ∈ lw_tbl := List.mem_of_getElem? (i := 1594) rfl
theorem mf_188 : mm_MF 188 1 := ⟨⟨mc_188, rfl⟩, wi_105, by decide +kernel, by decide +kernel, by decide +kernel⟩
set_option maxRecDepth 20000 in
theorem mc_189 : Cond.code yX11_calls cX11_calls 2 (none) ∈ lw_tbl := List.mem_of_getElem? (i := 1631) rfl
theorem mf_189 : mm_MF 189 1 := ⟨⟨mc_189, rfl⟩, wi_105, by decide +kernel, by decide +kernel, by decide +kernel⟩
set_option maxRecDepth 20000 in
theorem mc_19 : Cond.code yX3_init cX3_init 1 (none) ∈ lw_tbl := List.mem_of_getElem? (i := 460) rfl
theorem mf_19 : mm_MF 19 0 := ⟨⟨mc_19, rfl⟩, wi_104, by decide +kernel, by decide +kernel, by decide +kernel⟩
set_option maxRecDepth 20000 in
theorem mc_190 : Cond.code yX11_callsNumber cX11_callsNumber 3 (none) ∈ lw_tbl := List.mem_of_getElem? (i := 1627) rfl
theorem mf_190 : mm_MF 190 1 := ⟨⟨mc_190, rfl⟩, wi_105, by decide +kernel, by decide +kernel, by decide +kernel⟩
set_option maxRecDepth 20000 in
theorem mc_191 : Cond.code yX11_called cX11_called 3 (some (.int)) ∈ lw_tbl := List.mem_of_getElem? (i := 1623) rfl
theorem mf_191 : mm_MF 191 2 := ⟨⟨mc_191, rfl⟩, wi_105, by decide +kernel, by decide +kernel, by decide +kernel⟩
set_option maxRecDepth 20000 in
theorem mc_192 : Cond.code yX11_find cX11_find 5 (some (.int)) ∈ lw_tbl := List.mem_of_getElem? (i := 1635) rfl
theorem mf_192 : mm_MF 192 3 := ⟨⟨mc_192, rfl⟩, wi_105, by decide +kernel, by decide +kernel, by decide +kernel⟩
set_option maxRecDepth 20000 in
theorem mc_193 : Cond.code yX11_syncOf cX11_syncOf 2 (some (.int)) ∈ lw_tbl := List.mem_of_getElem? (i := 1533) rfl
theorem mf_193 : mm_MF 193 2 := ⟨⟨mc_193, rfl⟩, wi_105, by decide +kernel, by decide +kernel, by decide +kernel⟩
set_option maxRecDepth 20000 in
theorem mc_194 : Cond.code yX11_works cX11_works 9 (none) ∈ lw_tbl := List.mem_of_getElem? (i := 1529) rfl
theorem mf_194 : mm_MF 194 4 := ⟨⟨mc_194, rfl⟩, wi_105, by decide +kernel, by decide +kernel, by decide +kernel⟩
set_option maxRecDepth 20000 in
theorem mc_195 : Cond.code yX11_refuses cX11_refuses 3 (some (.int)) ∈ lw_tbl := List.mem_of_getElem? (i := 1642) rfl
theorem mf_195 : mm_MF 195 3 := ⟨⟨mc_195, rfl⟩, wi_105, by decide +kernel, by decide +kernel, by decide +kernel⟩
set_option maxRecDepth 20000 in
theorem mc_196 : Cond.code yX11_formula cX11_formula 6 (some (.int)) ∈ lw_tbl := List.mem_of_getElem? (i := 1639) rfl
theorem mf_196 : mm_MF 196 5 := ⟨⟨mc_196, rfl⟩, wi_105, by decide +kernel, by decide +kernel, by decide +kernel⟩
set_option maxRecDepth 20000 in
theorem mc_197 : Cond.code yX11_hasRoom cX11_hasRoom 1 (some (.boolean)) ∈ lw_tbl := List.mem_of_getElem? (i := 1606) rfl
theorem mf_197 : mm_MF 197 0 := ⟨⟨mc_197, rfl⟩, wi_105, by decide +kernel, by decide +kernel, by decide +kernel⟩
set_option maxRecDepth 20000 in
theorem mc_198 : Cond.code yX11_descriptorByte cX11_descriptorByte 2 (some (.int)) ∈ lw_tbl := List.mem_of_getElem? (i := 1611) rfl
theorem mf_198 : mm_MF 198 1 := ⟨⟨mc_198, rfl⟩, wi_105, by decide +kernel, by decide +kernel, by decide +kernel⟩
set_option maxRecDepth 20000 in
theorem mc_199 : Cond.code yX11_descriptor cX11_descriptor 6 (some (.int)) ∈ lw_tbl := List.mem_of_getElem? (i := 1650) rfl
theorem mf_199 : mm_MF 199 5 := ⟨⟨mc_199, rfl⟩, wi_105, by decide +kernel, by decide +kernel, by decide +kernel⟩
set_option maxRecDepth 20000 in
theorem mc_2 : Cond.code yX0_addInt cX0_addInt 3 (none) ∈ lw_tbl := List.mem_of_getElem? (i := 527) rfl
theorem mf_2 : mm_MF 2 1 := ⟨⟨mc_2, rfl⟩, wi_91, by decide +kernel, by decide +kernel, by decide +kernel⟩
set_option maxRecDepth 20000 in
theorem mc_20 : Cond.code yX3_clear cX3_clear 1 (none) ∈ lw_tbl := List.mem_of_getElem? (i := 1112) rfl
theorem mf_20 : mm_MF 20 0 := ⟨⟨mc_20, rfl⟩, wi_104, by decide +kernel, by decide +kernel, by decide +kernel⟩
set_option maxRecDepth 20000 in
theorem mc_200 : Cond.code yX11_isDepth cX11_isDepth 1 (some (.boolean)) ∈ lw_tbl := List.mem_of_getElem? (i := 1658) rfl
theorem mf_200 : mm_MF 200 1 := ⟨⟨mc_200, rfl⟩, wi_105, by decide +kernel, by decide +kernel, by decide +kernel⟩
set_option maxRecDepth 20000 in
theorem mc_201 : Cond.code yX11_isLink cX11_isLink 2 (some (.boolean)) ∈ lw_tbl := List.mem_of_getElem? (i := 1667) rfl
theorem mf_201 : mm_MF 201 2 := ⟨⟨mc_201, rfl⟩, wi_105, by decide +kernel, by decide +kernel, by decide +kernel⟩
set_option maxRecDepth 20000 in
theorem mc_202 : Cond.code yX11_roomOf cX11_roomOf 3 (some (.int)) ∈ lw_tbl := List.mem_of_getElem? (i := 1671) rfl
theorem mf_202 : mm_MF 202 2 := ⟨⟨mc_202, rfl⟩, wi_105, by decide +kernel, by decide +kernel, by decide +kernel⟩
set_option maxRecDepth 20000 in
theorem mc_203 : Cond.code yX11_needOf cX11_needOf 3 (some (.int)) ∈ lw_tbl := List.mem_of_getElem? (i := 1683) rfl
theorem mf_203 : mm_MF 203 2 := ⟨⟨mc_203, rfl⟩, wi_105, by decide +kernel, by decide +kernel, by decide +kernel⟩
set_option maxRecDepth 20000 in
theorem mc_204 : Cond.code yX11_wish cX11_wish 3 (some (.int)) ∈ lw_tbl := List.mem_of_getElem? (i := 1655) rfl
theorem mf_204 : mm_MF 204 1 := ⟨⟨mc_204, rfl⟩, wi_105, by decide +kernel, by decide +kernel, by decide +kernel⟩
set_option maxRecDepth 20000 in
theorem mc_205 : Cond.code yX11_room cX11_room 3 (some (.int)) ∈ lw_tbl := List.mem_of_getElem? (i := 1664) rfl
theorem mf_205 : mm_MF 205 2 := ⟨⟨mc_205, rfl⟩, wi_105, by decide +kernel, by decide +kernel, by decide +kernel⟩
set_option maxRecDepth 20000 in
theorem mc_206 : Cond.code yX11_need cX11_need 3 (some (.int)) ∈ lw_tbl := List.mem_of_getElem? (i := 1679) rfl
theorem mf_206 : mm_MF 206 2 := ⟨⟨mc_206, rfl⟩, wi_105, by decide +kernel, by decide +kernel, by decide +kernel⟩
set_option maxRecDepth 20000 in
theorem mc_207 : Cond.code yX11_laysBest cX11_laysBest 4 (none) ∈ lw_tbl := List.mem_of_getElem? (i := 1691) rfl
theorem mf_207 : mm_MF 207 1 := ⟨⟨mc_207, rfl⟩, wi_105, by decide +kernel, by decide +kernel, by decide +kernel⟩
set_option maxRecDepth 20000 in
theorem mc_208 : Cond.code yX11_best cX11_best 4 (some (.int)) ∈ lw_tbl := List.mem_of_getElem? (i := 1687) rfl
theorem mf_208 : mm_MF 208 3 := ⟨⟨mc_208, rfl⟩, wi_105, by decide +kernel, by decide +kernel, by decide +kernel⟩
set_option maxRecDepth 20000 in
theorem mc_209 : Cond.code yX11_cheapest cX11_cheapest 8 (some (.int)) ∈ lw_tbl := List.mem_of_getElem? (i := 1695) rfl
theorem mf_209 : mm_MF 209 2 := ⟨⟨mc_209, rfl⟩, wi_105, by decide +kernel, by decide +kernel, by decide +kernel⟩
set_option maxRecDepth 20000 in
theorem mc_21 : Cond.code yX3_open cX3_open 2 (none) ∈ lw_tbl := List.mem_of_getElem? (i := 1137) rfl
theorem mf_21 : mm_MF 21 1 := ⟨⟨mc_21, rfl⟩, wi_104, by decide +kernel, by decide +kernel, by decide +kernel⟩
set_option maxRecDepth 20000 in
theorem mc_210 : Cond.code yX11_fastest cX11_fastest 8 (some (.int)) ∈ lw_tbl := List.mem_of_getElem? (i := 1699) rfl
theorem mf_210 : mm_MF 210 6 := ⟨⟨mc_210, rfl⟩, wi_105, by decide +kernel, by decide +kernel, by decide +kernel⟩
set_option maxRecDepth 20000 in
theorem mc_211 : Cond.code yX11_isLane cX11_isLane 1 (some (.boolean)) ∈ lw_tbl := List.mem_of_getElem? (i := 1706) rfl
theorem mf_211 : mm_MF 211 1 := ⟨⟨mc_211, rfl⟩, wi_105, by decide +kernel, by decide +kernel, by decide +kernel⟩
set_option maxRecDepth 20000 in
theorem mc_212 : Cond.code yX11_ends cX11_ends 2 (none) ∈ lw_tbl := List.mem_of_getElem? (i := 1711) rfl
theorem mf_212 : mm_MF 212 0 := ⟨⟨mc_212, rfl⟩, wi_105, by decide +kernel, by decide +kernel, by decide +kernel⟩
set_option maxRecDepth 20000 in
theorem mc_213 : Cond.code yX11_lane cX11_lane 5 (some (.int)) ∈ lw_tbl := List.mem_of_getElem? (i := 1703) rfl
theorem mf_213 : mm_MF 213 3 := ⟨⟨mc_213, rfl⟩, wi_105, by decide +kernel, by decide +kernel, by decide +kernel⟩
set_option maxRecDepth 20000 in
theorem mc_214 : Cond.code yX11_wire cX11_wire 3 (some (.int)) ∈ lw_tbl := List.mem_of_getElem? (i := 1715) rfl
theorem mf_214 : mm_MF 214 2 := ⟨⟨mc_214, rfl⟩, wi_105, by decide +kernel, by decide +kernel, by decide +kernel⟩
set_option maxRecDepth 20000 in
theorem mc_215 : Cond.code yX11_foots cX11_foots 2 (none) ∈ lw_tbl := List.mem_of_getElem? (i := 1727) rfl
theorem mf_215 : mm_MF 215 0 := ⟨⟨mc_215, rfl⟩, wi_105, by decide +kernel, by decide +kernel, by decide +kernel⟩
set_option maxRecDepth 20000 in
theorem mc_216 : Cond.code yX11_begins cX11_begins 1 (none) ∈ lw_tbl := List.mem_of_getElem? (i := 1723) rfl
theorem mf_216 : mm_MF 216 0 := ⟨⟨mc_216, rfl⟩, wi_105, by decide +kernel, by decide +kernel, by decide +kernel⟩
set_option maxRecDepth 20000 in
theorem mc_217 : Cond.code yX11_begin cX11_begin 1 (some (.int)) ∈ lw_tbl := List.mem_of_getElem? (i := 1719) rfl
theorem mf_217 : mm_MF 217 0 := ⟨⟨mc_217, rfl⟩, wi_105, by decide +kernel, by decide +kernel, by decide +kernel⟩
set_option maxRecDepth 20000 in
theorem mc_218 : Cond.code yX11_wantsSwing cX11_wantsSwing 2 (some (.boolean)) ∈ lw_tbl := List.mem_of_getElem? (i := 1756) rfl
theorem mf_218 : mm_MF 218 1 := ⟨⟨mc_218, rfl⟩, wi_105, by decide +kernel, by decide +kernel, by decide +kernel⟩
set_option maxRecDepth 20000 in
theorem mc_219 : Cond.code yX11_wantsEmphasis cX11_wantsEmphasis 2 (some (.boolean)) ∈ lw_tbl := List.mem_of_getElem? (i := 1768) rfl
theorem mf_219 : mm_MF 219 1 := ⟨⟨mc_219, rfl⟩, wi_105, by decide +kernel, by decide +kernel, by decide +kernel⟩
set_option maxRecDepth 20000 in
theorem mc_22 : Cond.code yX3_close cX3_close 3 (none) ∈ lw_tbl := List.mem_of_getElem? (i := 1202) rfl
theorem mf_22 : mm_MF 22 2 := ⟨⟨mc_22, rfl⟩, wi_104, by decide +kernel, by decide +kernel, by decide +kernel⟩
set_option maxRecDepth 20000 in
theorem mc_220 : Cond.code yX11_falls cX11_falls 5 (none) ∈ lw_tbl := List.mem_of_getElem? (i := 1760) rfl
theorem mf_220 : mm_MF 220 1 := ⟨⟨mc_220, rfl⟩, wi_105, by decide +kernel, by decide +kernel, by decide +kernel⟩
set_option maxRecDepth 20000 in
theorem mc_221 : Cond.code yX11_triesClock cX11_triesClock 5 (none) ∈ lw_tbl := List.mem_of_getElem? (i := 1752) rfl
theorem mf_221 : mm_MF 221 0 := ⟨⟨mc_221, rfl⟩, wi_105, by decide +kernel, by decide +kernel, by decide +kernel⟩
set_option maxRecDepth 20000 in
theorem mc_222 : Cond.code yX11_triesEven cX11_triesEven 6 (none) ∈ lw_tbl := List.mem_of_getElem? (i := 1764) rfl
theorem mf_222 : mm_MF 222 0 := ⟨⟨mc_222, rfl⟩, wi_105, by decide +kernel, by decide +kernel, by decide +kernel⟩
set_option maxRecDepth 20000 in
theorem mc_223 : Cond.code yX11_isTraining cX11_isTraining 1 (some (.boolean)) ∈ lw_tbl := List.mem_of_getElem? (i := 1740) rfl
theorem mf_223 : mm_MF 223 0 := ⟨⟨mc_223, rfl⟩, wi_105, by decide +kernel, by decide +kernel, by decide +kernel⟩
set_option maxRecDepth 20000 in
theorem mc_224 : Cond.code yX11_digits cX11_digits 4 (some (.int)) ∈ lw_tbl := List.mem_of_getElem? (i := 1748) rfl
theorem mf_224 : mm_MF 224 1 := ⟨⟨mc_224, rfl⟩, wi_105, by decide +kernel, by decide +kernel, by decide +kernel⟩
set_option maxRecDepth 20000 in
theorem mc_225 : Cond.code yX11_triesOnce cX11_triesOnce 2 (none) ∈ lw_tbl := List.mem_of_getElem? (i := 1744) rfl
theorem mf_225 : mm_MF 225 0 := ⟨⟨mc_225, rfl⟩, wi_105, by decide +kernel, by decide +kernel, by decide +kernel⟩
set_option maxRecDepth 20000 in
theorem mc_226 : Cond.code yX11_step cX11_step 3 (some (.int)) ∈ lw_tbl := List.mem_of_getElem? (i := 1731) rfl
theorem mf_226 : mm_MF 226 2 := ⟨⟨mc_226, rfl⟩, wi_105, by decide +kernel, by decide +kernel, by decide +kernel⟩
set_option maxRecDepth 20000 in
theorem mc_227 : Cond.code yX11_tries cX11_tries 3 (some (.int)) ∈ lw_tbl := List.mem_of_getElem? (i := 1735) rfl
theorem mf_227 : mm_MF 227 1 := ⟨⟨mc_227, rfl⟩, wi_105, by decide +kernel, by decide +kernel, by decide +kernel⟩
set_option maxRecDepth 20000 in
theorem mc_228 : Cond.code yX11_mostOf cX11_mostOf 4 (some (.int)) ∈ lw_tbl := List.mem_of_getElem? (i := 1776) rfl
theorem mf_228 : mm_MF 228 1 := ⟨⟨mc_228, rfl⟩, wi_105, by decide +kernel, by decide +kernel, by decide +kernel⟩
set_option maxRecDepth 20000 in
theorem mc_229 : Cond.code yX11_state cX11_state 2 (some (.int)) ∈ lw_tbl := List.mem_of_getElem? (i := 1772) rfl
theorem mf_229 : mm_MF 229 1 := ⟨⟨mc_229, rfl⟩, wi_105, by decide +kernel, by decide +kernel, by decide +kernel⟩
set_option maxRecDepth 20000 in
theorem mc_23 : Cond.code yX3_put cX3_put 4 (none) ∈ lw_tbl := List.mem_of_getElem? (i := 1141) rfl
theorem mf_23 : mm_MF 23 2 := ⟨⟨mc_23, rfl⟩, wi_104, by decide +kernel, by decide +kernel, by decide +kernel⟩
set_option maxRecDepth 20000 in
theorem mc_230 : Cond.code yX11_level cX11_level 3 (some (.int)) ∈ lw_tbl := List.mem_of_getElem? (i := 1780) rfl
theorem mf_230 : mm_MF 230 2 := ⟨⟨mc_230, rfl⟩, wi_105, by decide +kernel, by decide +kernel, by decide +kernel⟩
set_option maxRecDepth 20000 in
theorem mc_231 : Cond.code yX11_fall cX11_fall 3 (some (.int)) ∈ lw_tbl := List.mem_of_getElem? (i := 1784) rfl
theorem mf_231 : mm_MF 231 2 := ⟨⟨mc_231, rfl⟩, wi_105, by decide +kernel, by decide +kernel, by decide +kernel⟩
set_option maxRecDepth 20000 in
theorem mc_232 : Cond.code yX11_shown cX11_shown 3 (some (.int)) ∈ lw_tbl := List.mem_of_getElem? (i := 1788) rfl
theorem mf_232 : mm_MF 232 1 := ⟨⟨mc_232, rfl⟩, wi_105, by decide +kernel, by decide +kernel, by decide +kernel⟩
set_option maxRecDepth 20000 in
theorem mc_233 : Cond.code yX11_opens cX11_opens 2 (none) ∈ lw_tbl := List.mem_of_getElem? (i := 1797) rfl
theorem mf_233 : mm_MF 233 0 := ⟨⟨mc_233, rfl⟩, wi_105, by decide +kernel, by decide +kernel, by decide +kernel⟩
set_option maxRecDepth 20000 in
theorem mc_234 : Cond.code yX11_closes cX11_closes 2 (none) ∈ lw_tbl := List.mem_of_getElem? (i := 1809) rfl
theorem mf_234 : mm_MF 234 0 := ⟨⟨mc_234, rfl⟩, wi_105, by decide +kernel, by decide +kernel, by decide +kernel⟩
set_option maxRecDepth 20000 in
theorem mc_235 : Cond.code yX11_trains cX11_trains 1 (some (.int)) ∈ lw_tbl := List.mem_of_getElem? (i := 1801) rfl
theorem mf_235 : mm_MF 235 0 := ⟨⟨mc_235, rfl⟩, wi_105, by decide +kernel, by decide +kernel, by decide +kernel⟩
set_option maxRecDepth 20000 in
theorem mc_236 : Cond.code yX11_toldOf cX11_toldOf 3 (some (.int)) ∈ lw_tbl := List.mem_of_getElem? (i := 1805) rfl
theorem mf_236 : mm_MF 236 2 := ⟨⟨mc_236, rfl⟩, wi_105, by decide +kernel, by decide +kernel, by decide +kernel⟩
set_option maxRecDepth 20000 in
theorem mc_237 : Cond.code yX11_trained cX11_trained 3 (some (.int)) ∈ lw_tbl := List.mem_of_getElem? (i := 1792) rfl
theorem mf_237 : mm_MF 237 1 := ⟨⟨mc_237, rfl⟩, wi_105, by decide +kernel, by decide +kernel, by decide +kernel⟩
set_option maxRecDepth 20000 in
theorem mc_238 : Cond.code yX11_margin cX11_margin 4 (some (.int)) ∈ lw_tbl := List.mem_of_getElem? (i := 1813) rfl
theorem mf_238 : mm_MF 238 1 := ⟨⟨mc_238, rfl⟩, wi_105, by decide +kernel, by decide +kernel, by decide +kernel⟩
set_option maxRecDepth 20000 in
theorem mc_239 : Cond.code yX11_triesOrder cX11_triesOrder 4 (none) ∈ lw_tbl := List.mem_of_getElem? (i := 1824) rfl
theorem mf_239 : mm_MF 239 1 := ⟨⟨mc_239, rfl⟩, wi_105, by decide +kernel, by decide +kernel, by decide +kernel⟩
set_option maxRecDepth 20000 in
theorem mc_24 : Cond.code yX3_digits cX3_digits 6 (some (.int)) ∈ lw_tbl := List.mem_of_getElem? (i := 1144) rfl
theorem mf_24 : mm_MF 24 1 := ⟨⟨mc_24, rfl⟩, wi_104, by decide +kernel, by decide +kernel, by decide +kernel⟩
set_option maxRecDepth 20000 in
theorem mc_240 : Cond.code yX11_isOrder cX11_isOrder 4 (some (.boolean)) ∈ lw_tbl := List.mem_of_getElem? (i := 1820) rfl
theorem mf_240 : mm_MF 240 1 := ⟨⟨mc_240, rfl⟩, wi_105, by decide +kernel, by decide +kernel, by decide +kernel⟩
set_option maxRecDepth 20000 in
theorem mc_241 : Cond.code yX11_laid cX11_laid 3 (some (.int)) ∈ lw_tbl := List.mem_of_getElem? (i := 1817) rfl
theorem mf_241 : mm_MF 241 1 := ⟨⟨mc_241, rfl⟩, wi_105, by decide +kernel, by decide +kernel, by decide +kernel⟩
set_option maxRecDepth 20000 in
theorem mc_242 : Cond.code yX11_enough cX11_enough 4 (some (.int)) ∈ lw_tbl := List.mem_of_getElem? (i := 1828) rfl
theorem mf_242 : mm_MF 242 0 := ⟨⟨mc_242, rfl⟩, wi_105, by decide +kernel, by decide +kernel, by decide +kernel⟩
set_option maxRecDepth 20000 in
theorem mc_243 : Cond.code yX11_would cX11_would 3 (some (.int)) ∈ lw_tbl := List.mem_of_getElem? (i := 1832) rfl
theorem mf_243 : mm_MF 243 1 := ⟨⟨mc_243, rfl⟩, wi_105, by decide +kernel, by decide +kernel, by decide +kernel⟩
set_option maxRecDepth 20000 in
theorem mc_244 : Cond.code yX11_count cX11_count 2 (some (.int)) ∈ lw_tbl := List.mem_of_getElem? (i := 1836) rfl
theorem mf_244 : mm_MF 244 1 := ⟨⟨mc_244, rfl⟩, wi_105, by decide +kernel, by decide +kernel, by decide +kernel⟩
set_option maxRecDepth 20000 in
theorem mc_245 : Cond.code yJ4_init_da8c8 cJ4_init_da8c8 1 (none) ∈ lw_tbl := List.mem_of_getElem? (i := 340) rfl
theorem mf_245 : mm_MF 245 0 := ⟨⟨mc_245, rfl⟩, wi_99, by decide +kernel, by decide +kernel, by decide +kernel⟩
set_option maxRecDepth 20000 in
theorem mc_246 : Cond.code yJ5_init_d00df cJ5_init_d00df 2 (none) ∈ lw_tbl := List.mem_of_getElem? (i := 343) rfl
theorem mf_246 : mm_MF 246 1 := ⟨⟨mc_246, rfl⟩, wi_98, by decide +kernel, by decide +kernel, by decide +kernel⟩
set_option maxRecDepth 20000 in
theorem mc_247 : Cond.code yJ4_append_cf468 cJ4_append_cf468 2 (some (.object "java/lang/StringBuilder")) ∈ lw_tbl := List.mem_of_getElem? (i := 959) rfl
theorem mf_247 : mm_MF 247 1 := ⟨⟨mc_247, rfl⟩, wi_99, by decide +kernel, by decide +kernel, by decide +kernel⟩
set_option maxRecDepth 20000 in
theorem mc_248 : Cond.code yJ4_append_bf812 cJ4_append_bf812 2 (some (.object "java/lang/StringBuilder")) ∈ lw_tbl := List.mem_of_getElem? (i := 911) rfl
theorem mf_248 : mm_MF 248 1 := ⟨⟨mc_248, rfl⟩, wi_99, by decide +kernel, by decide +kernel, by decide +kernel⟩
set_option maxRecDepth 20000 in
theorem mc_249 : Cond.code yJ4_charAt_5068e cJ4_charAt_5068e 2 (some (.char)) ∈ lw_tbl := List.mem_of_getElem? (i := 1007) rfl
theorem mf_249 : mm_MF 249 1 := ⟨⟨mc_249, rfl⟩, wi_99, by decide +kernel, by decide +kernel, by decide +kernel⟩
set_option maxRecDepth 20000 in
theorem mc_25 : Cond.code yX3_stepPart cX3_stepPart 4 (some (.int)) ∈ lw_tbl := List.mem_of_getElem? (i := 1227) rfl
theorem mf_25 : mm_MF 25 2 := ⟨⟨mc_25, rfl⟩, wi_104, by decide +kernel, by decide +kernel, by decide +kernel⟩
set_option maxRecDepth 20000 in
theorem mc_250 : Cond.code yJ4_setLength_d00df cJ4_setLength_d00df 2 (none) ∈ lw_tbl := List.mem_of_getElem? (i := 857) rfl
theorem mf_250 : mm_MF 250 1 := ⟨⟨mc_250, rfl⟩, wi_99, by decide +kernel, by decide +kernel, by decide +kernel⟩
set_option maxRecDepth 20000 in
theorem mc_251 : Cond.code yJ4_length_8abf5 cJ4_length_8abf5 1 (some (.int)) ∈ lw_tbl := List.mem_of_getElem? (i := 1000) rfl
theorem mf_251 : mm_MF 251 0 := ⟨⟨mc_251, rfl⟩, wi_99, by decide +kernel, by decide +kernel, by decide +kernel⟩
set_option maxRecDepth 20000 in
theorem mc_252 : Cond.code yJ5_length_8abf5 cJ5_length_8abf5 1 (some (.int)) ∈ lw_tbl := List.mem_of_getElem? (i := 1003) rfl
theorem mf_252 : mm_MF 252 0 := ⟨⟨mc_252, rfl⟩, wi_98, by decide +kernel, by decide +kernel, by decide +kernel⟩
set_option maxRecDepth 20000 in
theorem mc_253 : Cond.code yJ5_ensureCapacityInternal_d00df cJ5_ensureCapacityInternal_d00df 3 (none) ∈ lw_tbl := List.mem_of_getElem? (i := 864) rfl
theorem mf_253 : mm_MF 253 1 := ⟨⟨mc_253, rfl⟩, wi_98, by decide +kernel, by decide +kernel, by decide +kernel⟩
set_option maxRecDepth 20000 in
theorem mc_254 : Cond.code yJ5_setLength_d00df cJ5_setLength_d00df 2 (none) ∈ lw_tbl := List.mem_of_getElem? (i := 860) rfl
theorem mf_254 : mm_MF 254 1 := ⟨⟨mc_254, rfl⟩, wi_98, by decide +kernel, by decide +kernel, by decide +kernel⟩
set_option maxRecDepth 20000 in
theorem mc_255 : Cond.code yJ5_charAt_5068e cJ5_charAt_5068e 5 (some (.char)) ∈ lw_tbl := List.mem_of_getElem? (i := 1010) rfl
theorem mf_255 : mm_MF 255 1 := ⟨⟨mc_255, rfl⟩, wi_98, by decide +kernel, by decide +kernel, by decide +kernel⟩
set_option maxRecDepth 20000 in
theorem mc_256 : Cond.code yJ5_append_3fe6f cJ5_append_3fe6f 2 (some (.object "java/lang/AbstractStringBuilder")) ∈ lw_tbl := List.mem_of_getElem? (i := 962) rfl
theorem mf_256 : mm_MF 256 1 := ⟨⟨mc_256, rfl⟩, wi_98, by decide +kernel, by decide +kernel, by decide +kernel⟩
set_option maxRecDepth 20000 in
theorem mc_257 : Cond.code yJ5_append_c97b9 cJ5_append_c97b9 4 (some (.object "java/lang/AbstractStringBuilder")) ∈ lw_tbl := List.mem_of_getElem? (i := 914) rfl
theorem mf_257 : mm_MF 257 1 := ⟨⟨mc_257, rfl⟩, wi_98, by decide +kernel, by decide +kernel, by decide +kernel⟩
set_option maxRecDepth 20000 in
theorem mc_258 : Cond.code yJ5_isLatin1_aae02 cJ5_isLatin1_aae02 1 (some (.boolean)) ∈ lw_tbl := List.mem_of_getElem? (i := 894) rfl
theorem mf_258 : mm_MF 258 0 := ⟨⟨mc_258, rfl⟩, wi_98, by decide +kernel, by decide +kernel, by decide +kernel⟩
set_option maxRecDepth 20000 in
theorem mc_259 : Cond.code yJ6_getChars_ba4f3 cJ6_getChars_ba4f3 7 (some (.int)) ∈ lw_tbl := List.mem_of_getElem? (i := 920) rfl
theorem mf_259 : mm_MF 259 3 := ⟨⟨mc_259, rfl⟩, wi_112, by decide +kernel, by decide +kernel, by decide +kernel⟩
set_option maxRecDepth 20000 in
theorem mc_26 : Cond.code yX3_fallPart cX3_fallPart 3 (some (.int)) ∈ lw_tbl := List.mem_of_getElem? (i := 1223) rfl
theorem mf_26 : mm_MF 26 2 := ⟨⟨mc_26, rfl⟩, wi_104, by decide +kernel, by decide +kernel, by decide +kernel⟩
set_option maxRecDepth 20000 in
theorem mc_260 : Cond.code yJ6_stringSize_0f7a4 cJ6_stringSize_0f7a4 4 (some (.int)) ∈ lw_tbl := List.mem_of_getElem? (i := 917) rfl
theorem mf_260 : mm_MF 260 1 := ⟨⟨mc_260, rfl⟩, wi_112, by decide +kernel, by decide +kernel, by decide +kernel⟩
set_option maxRecDepth 20000 in
theorem mc_261 : Cond.code yJ0_checkIndex_df160 cJ0_checkIndex_df160 2 (none) ∈ lw_tbl := List.mem_of_getElem? (i := 993) rfl
theorem mf_261 : mm_MF 261 2 := ⟨⟨mc_261, rfl⟩, wi_100, by decide +kernel, by decide +kernel, by decide +kernel⟩
set_option maxRecDepth 20000 in
theorem mc_262 : Cond.code yJ1_canEncode_fc78d cJ1_canEncode_fc78d 1 (some (.boolean)) ∈ lw_tbl := List.mem_of_getElem? (i := 965) rfl
theorem mf_262 : mm_MF 262 1 := ⟨⟨mc_262, rfl⟩, wi_110, by decide +kernel, by decide +kernel, by decide +kernel⟩
set_option maxRecDepth 20000 in
theorem mc_263 : Cond.code yJ7_fill_53178 cJ7_fill_53178 4 (none) ∈ lw_tbl := List.mem_of_getElem? (i := 630) rfl
theorem mf_263 : mm_MF 263 2 := ⟨⟨mc_263, rfl⟩, wi_108, by decide +kernel, by decide +kernel, by decide +kernel⟩
set_option maxRecDepth 20000 in
theorem mc_264 : Cond.code yJ3_checkIndex_8e157 cJ3_checkIndex_8e157 3 (some (.int)) ∈ lw_tbl := List.mem_of_getElem? (i := 996) rfl
theorem mf_264 : mm_MF 264 3 := ⟨⟨mc_264, rfl⟩, wi_113, by decide +kernel, by decide +kernel, by decide +kernel⟩
set_option maxRecDepth 20000 in
theorem mc_27 : Cond.code yX4_init cX4_init 1 (none) ∈ lw_tbl := List.mem_of_getElem? (i := 277) rfl
theorem mf_27 : mm_MF 27 0 := ⟨⟨mc_27, rfl⟩, wi_96, by decide +kernel, by decide +kernel, by decide +kernel⟩
set_option maxRecDepth 20000 in
theorem mc_28 : Cond.code yX4_isLike cX4_isLike 4 (some (.boolean)) ∈ lw_tbl := List.mem_of_getElem? (i := 681) rfl
theorem mf_28 : mm_MF 28 3 := ⟨⟨mc_28, rfl⟩, wi_96, by decide +kernel, by decide +kernel, by decide +kernel⟩
set_option maxRecDepth 20000 in
theorem mc_29 : Cond.code yX4_comesAhead cX4_comesAhead 4 (some (.boolean)) ∈ lw_tbl := List.mem_of_getElem? (i := 689) rfl
theorem mf_29 : mm_MF 29 1 := ⟨⟨mc_29, rfl⟩, wi_96, by decide +kernel, by decide +kernel, by decide +kernel⟩
set_option maxRecDepth 20000 in
theorem mc_3 : Cond.code yX0_at cX0_at 2 (some (.int)) ∈ lw_tbl := List.mem_of_getElem? (i := 564) rfl
theorem mf_3 : mm_MF 3 1 := ⟨⟨mc_3, rfl⟩, wi_91, by decide +kernel, by decide +kernel, by decide +kernel⟩
set_option maxRecDepth 20000 in
theorem mc_30 : Cond.code yX5_init cX5_init 2 (none) ∈ lw_tbl := List.mem_of_getElem? (i := 268) rfl
theorem mf_30 : mm_MF 30 0 := ⟨⟨mc_30, rfl⟩, wi_95, by decide +kernel, by decide +kernel, by decide +kernel⟩
set_option maxRecDepth 20000 in
theorem mc_31 : Cond.code yX5_at cX5_at 2 (some (.object "ScreenTalk$Mode")) ∈ lw_tbl := List.mem_of_getElem? (i := 740) rfl
theorem mf_31 : mm_MF 31 1 := ⟨⟨mc_31, rfl⟩, wi_95, by decide +kernel, by decide +kernel, by decide +kernel⟩
set_option maxRecDepth 20000 in
theorem mc_32 : Cond.code yX5_leftOutBy cX5_leftOutBy 2 (some (.int)) ∈ lw_tbl := List.mem_of_getElem? (i := 795) rfl
theorem mf_32 : mm_MF 32 1 := ⟨⟨mc_32, rfl⟩, wi_95, by decide +kernel, by decide +kernel, by decide +kernel⟩
set_option maxRecDepth 20000 in
theorem mc_33 : Cond.code yX5_indexOf cX5_indexOf 5 (some (.int)) ∈ lw_tbl := List.mem_of_getElem? (i := 677) rfl
theorem mf_33 : mm_MF 33 3 := ⟨⟨mc_33, rfl⟩, wi_95, by decide +kernel, by decide +kernel, by decide +kernel⟩
set_option maxRecDepth 20000 in
theorem mc_34 : Cond.code yX5_collect cX5_collect 5 (none) ∈ lw_tbl := List.mem_of_getElem? (i := 627) rfl
theorem mf_34 : mm_MF 34 1 := ⟨⟨mc_34, rfl⟩, wi_95, by decide +kernel, by decide +kernel, by decide +kernel⟩
set_option maxRecDepth 20000 in
theorem mc_35 : Cond.code yX5_offerCode cX5_offerCode 4 (none) ∈ lw_tbl := List.mem_of_getElem? (i := 697) rfl
theorem mf_35 : mm_MF 35 2 := ⟨⟨mc_35, rfl⟩, wi_95, by decide +kernel, by decide +kernel, by decide +kernel⟩
set_option maxRecDepth 20000 in
theorem mc_36 : Cond.code yX5_offerStandard cX5_offerStandard 5 (none) ∈ lw_tbl := List.mem_of_getElem? (i := 709) rfl
theorem mf_36 : mm_MF 36 3 := ⟨⟨mc_36, rfl⟩, wi_95, by decide +kernel, by decide +kernel, by decide +kernel⟩
set_option maxRecDepth 20000 in
theorem mc_37 : Cond.code yX5_standardHeight cX5_standardHeight 2 (some (.int)) ∈ lw_tbl := List.mem_of_getElem? (i := 712) rfl
theorem mf_37 : mm_MF 37 2 := ⟨⟨mc_37, rfl⟩, wi_95, by decide +kernel, by decide +kernel, by decide +kernel⟩
set_option maxRecDepth 20000 in
theorem mc_38 : Cond.code yX5_offer cX5_offer 5 (none) ∈ lw_tbl := List.mem_of_getElem? (i := 643) rfl
theorem mf_38 : mm_MF 38 3 := ⟨⟨mc_38, rfl⟩, wi_95, by decide +kernel, by decide +kernel, by decide +kernel⟩
set_option maxRecDepth 20000 in
theorem mc_39 : Cond.code yX5_whyLeftOut cX5_whyLeftOut 2 (some (.int)) ∈ lw_tbl := List.mem_of_getElem? (i := 657) rfl
theorem mf_39 : mm_MF 39 1 := ⟨⟨mc_39, rfl⟩, wi_95, by decide +kernel, by decide +kernel, by decide +kernel⟩
set_option maxRecDepth 20000 in
theorem mc_4 : Cond.code yX0_take cX0_take 3 (none) ∈ lw_tbl := List.mem_of_getElem? (i := 535) rfl
theorem mf_4 : mm_MF 4 2 := ⟨⟨mc_4, rfl⟩, wi_91, by decide +kernel, by decide +kernel, by decide +kernel⟩
set_option maxRecDepth 20000 in
theorem mc_40 : Cond.code yX5_insert cX5_insert 5 (none) ∈ lw_tbl := List.mem_of_getElem? (i := 685) rfl
theorem mf_40 : mm_MF 40 2 := ⟨⟨mc_40, rfl⟩, wi_95, by decide +kernel, by decide +kernel, by decide +kernel⟩
set_option maxRecDepth 20000 in
theorem mc_41 : Cond.code yX6_init cX6_init 2 (none) ∈ lw_tbl := List.mem_of_getElem? (i := 158) rfl
theorem mf_41 : mm_MF 41 0 := ⟨⟨mc_41, rfl⟩, wi_93, by decide +kernel, by decide +kernel, by decide +kernel⟩
set_option maxRecDepth 20000 in
theorem mc_42 : Cond.code yX6_read cX6_read 4 (none) ∈ lw_tbl := List.mem_of_getElem? (i := 580) rfl
theorem mf_42 : mm_MF 42 1 := ⟨⟨mc_42, rfl⟩, wi_93, by decide +kernel, by decide +kernel, by decide +kernel⟩
set_option maxRecDepth 20000 in
theorem mc_43 : Cond.code yX6_readBaseDescriptor cX6_readBaseDescriptor 2 (none) ∈ lw_tbl := List.mem_of_getElem? (i := 585) rfl
theorem mf_43 : mm_MF 43 1 := ⟨⟨mc_43, rfl⟩, wi_93, by decide +kernel, by decide +kernel, by decide +kernel⟩
set_option maxRecDepth 20000 in
theorem mc_44 : Cond.code yX6_readRange cX6_readRange 3 (none) ∈ lw_tbl := List.mem_of_getElem? (i := 607) rfl
theorem mf_44 : mm_MF 44 1 := ⟨⟨mc_44, rfl⟩, wi_93, by decide +kernel, by decide +kernel, by decide +kernel⟩
set_option maxRecDepth 20000 in
theorem mc_45 : Cond.code yX6_hasClock cX6_hasClock 2 (some (.boolean)) ∈ lw_tbl := List.mem_of_getElem? (i := 589) rfl
theorem mf_45 : mm_MF 45 1 := ⟨⟨mc_45, rfl⟩, wi_93, by decide +kernel, by decide +kernel, by decide +kernel⟩
set_option maxRecDepth 20000 in
theorem mc_46 : Cond.code yX6_addDetailed cX6_addDetailed 2 (none) ∈ lw_tbl := List.mem_of_getElem? (i := 594) rfl
theorem mf_46 : mm_MF 46 1 := ⟨⟨mc_46, rfl⟩, wi_93, by decide +kernel, by decide +kernel, by decide +kernel⟩
set_option maxRecDepth 20000 in
theorem mc_47 : Cond.code yX6_readName cX6_readName 4 (none) ∈ lw_tbl := List.mem_of_getElem? (i := 603) rfl
theorem mf_47 : mm_MF 47 1 := ⟨⟨mc_47, rfl⟩, wi_93, by decide +kernel, by decide +kernel, by decide +kernel⟩
set_option maxRecDepth 20000 in
theorem mc_48 : Cond.code yX6_readData cX6_readData 7 (none) ∈ lw_tbl := List.mem_of_getElem? (i := 611) rfl
theorem mf_48 : mm_MF 48 2 := ⟨⟨mc_48, rfl⟩, wi_93, by decide +kernel, by decide +kernel, by decide +kernel⟩
set_option maxRecDepth 20000 in
theorem mc_49 : Cond.code yX6_readCodes cX6_readCodes 4 (none) ∈ lw_tbl := List.mem_of_getElem? (i := 615) rfl
theorem mf_49 : mm_MF 49 2 := ⟨⟨mc_49, rfl⟩, wi_93, by decide +kernel, by decide +kernel, by decide +kernel⟩
set_option maxRecDepth 20000 in
theorem mc_5 : Cond.code yX0_sumOfBlock cX0_sumOfBlock 4 (some (.int)) ∈ lw_tbl := List.mem_of_getElem? (i := 571) rfl
theorem mf_5 : mm_MF 5 1 := ⟨⟨mc_5, rfl⟩, wi_91, by decide +kernel, by decide +kernel, by decide +kernel⟩
set_option maxRecDepth 20000 in
theorem mc_50 : Cond.code yX6_readMost cX6_readMost 2 (none) ∈ lw_tbl := List.mem_of_getElem? (i := 619) rfl
theorem mf_50 : mm_MF 50 1 := ⟨⟨mc_50, rfl⟩, wi_93, by decide +kernel, by decide +kernel, by decide +kernel⟩
set_option maxRecDepth 20000 in
theorem mc_51 : Cond.code yX6_readDetailedFrom cX6_readDetailedFrom 4 (none) ∈ lw_tbl := List.mem_of_getElem? (i := 623) rfl
theorem mf_51 : mm_MF 51 2 := ⟨⟨mc_51, rfl⟩, wi_93, by decide +kernel, by decide +kernel, by decide +kernel⟩
set_option maxRecDepth 20000 in
theorem mc_52 : Cond.code yX6_detailedAt cX6_detailedAt 2 (some (.object "ScreenTalk$Timing")) ∈ lw_tbl := List.mem_of_getElem? (i := 635) rfl
theorem mf_52 : mm_MF 52 1 := ⟨⟨mc_52, rfl⟩, wi_93, by decide +kernel, by decide +kernel, by decide +kernel⟩
set_option maxRecDepth 20000 in
theorem mc_53 : Cond.code yX6_codeAt cX6_codeAt 2 (some (.int)) ∈ lw_tbl := List.mem_of_getElem? (i := 693) rfl
theorem mf_53 : mm_MF 53 1 := ⟨⟨mc_53, rfl⟩, wi_93, by decide +kernel, by decide +kernel, by decide +kernel⟩
set_option maxRecDepth 20000 in
theorem mc_54 : Cond.code yX6_nameByte cX6_nameByte 2 (some (.int)) ∈ lw_tbl := List.mem_of_getElem? (i := 765) rfl
theorem mf_54 : mm_MF 54 1 := ⟨⟨mc_54, rfl⟩, wi_93, by decide +kernel, by decide +kernel, by decide +kernel⟩
set_option maxRecDepth 20000 in
theorem mc_55 : Cond.code yX6_makerLetter cX6_makerLetter 3 (some (.int)) ∈ lw_tbl := List.mem_of_getElem? (i := 808) rfl
theorem mf_55 : mm_MF 55 1 := ⟨⟨mc_55, rfl⟩, wi_93, by decide +kernel, by decide +kernel, by decide +kernel⟩
set_option maxRecDepth 20000 in
theorem mc_56 : Cond.code yX6_rangeByte cX6_rangeByte 2 (some (.int)) ∈ lw_tbl := List.mem_of_getElem? (i := 773) rfl
theorem mf_56 : mm_MF 56 1 := ⟨⟨mc_56, rfl⟩, wi_93, by decide +kernel, by decide +kernel, by decide +kernel⟩
set_option maxRecDepth 20000 in
theorem mc_57 : Cond.code yX6_rangePart cX6_rangePart 2 (some (.int)) ∈ lw_tbl := List.mem_of_getElem? (i := 799) rfl
theorem mf_57 : mm_MF 57 1 := ⟨⟨mc_57, rfl⟩, wi_93, by decide +kernel, by decide +kernel, by decide +kernel⟩
set_option maxRecDepth 20000 in
theorem mc_58 : Cond.code yX6_isInRange cX6_isInRange 4 (some (.boolean)) ∈ lw_tbl := List.mem_of_getElem? (i := 673) rfl
theorem mf_58 : mm_MF 58 3 := ⟨⟨mc_58, rfl⟩, wi_93, by decide +kernel, by decide +kernel, by decide +kernel⟩
set_option maxRecDepth 20000 in
theorem mc_59 : Cond.code yX7_init cX7_init 1 (none) ∈ lw_tbl := List.mem_of_getElem? (i := 167) rfl
theorem mf_59 : mm_MF 59 0 := ⟨⟨mc_59, rfl⟩, wi_94, by decide +kernel, by decide +kernel, by decide +kernel⟩
set_option maxRecDepth 20000 in
theorem mc_6 : Cond.code yX1_init cX1_init 1 (none) ∈ lw_tbl := List.mem_of_getElem? (i := 324) rfl
theorem mf_6 : mm_MF 6 0 := ⟨⟨mc_6, rfl⟩, wi_97, by decide +kernel, by decide +kernel, by decide +kernel⟩
set_option maxRecDepth 20000 in
theorem mc_60 : Cond.code yX7_read cX7_read 7 (none) ∈ lw_tbl := List.mem_of_getElem? (i := 598) rfl
theorem mf_60 : mm_MF 60 2 := ⟨⟨mc_60, rfl⟩, wi_94, by decide +kernel, by decide +kernel, by decide +kernel⟩
set_option maxRecDepth 20000 in
theorem mc_61 : Cond.code yX7_descriptorByte cX7_descriptorByte 2 (some (.int)) ∈ lw_tbl := List.mem_of_getElem? (i := 753) rfl
theorem mf_61 : mm_MF 61 1 := ⟨⟨mc_61, rfl⟩, wi_94, by decide +kernel, by decide +kernel, by decide +kernel⟩
set_option maxRecDepth 20000 in
theorem mc_62 : Cond.code yX7_draw cX7_draw 6 (none) ∈ lw_tbl := List.mem_of_getElem? (i := 716) rfl
theorem mf_62 : mm_MF 62 4 := ⟨⟨mc_62, rfl⟩, wi_94, by decide +kernel, by decide +kernel, by decide +kernel⟩
set_option maxRecDepth 20000 in
theorem mc_63 : Cond.code yX7_blankLines cX7_blankLines 4 (some (.int)) ∈ lw_tbl := List.mem_of_getElem? (i := 719) rfl
theorem mf_63 : mm_MF 63 2 := ⟨⟨mc_63, rfl⟩, wi_94, by decide +kernel, by decide +kernel, by decide +kernel⟩
set_option maxRecDepth 20000 in
theorem mc_64 : Cond.code yX7_plainSync cX7_plainSync 2 (some (.int)) ∈ lw_tbl := List.mem_of_getElem? (i := 724) rfl
theorem mf_64 : mm_MF 64 2 := ⟨⟨mc_64, rfl⟩, wi_94, by decide +kernel, by decide +kernel, by decide +kernel⟩
set_option maxRecDepth 20000 in
theorem mc_65 : Cond.code yX7_copy cX7_copy 2 (none) ∈ lw_tbl := List.mem_of_getElem? (i := 639) rfl
theorem mf_65 : mm_MF 65 1 := ⟨⟨mc_65, rfl⟩, wi_94, by decide +kernel, by decide +kernel, by decide +kernel⟩
set_option maxRecDepth 20000 in
theorem mc_66 : Cond.code yX7_setByTable cX7_setByTable 2 (none) ∈ lw_tbl := List.mem_of_getElem? (i := 703) rfl
theorem mf_66 : mm_MF 66 1 := ⟨⟨mc_66, rfl⟩, wi_94, by decide +kernel, by decide +kernel, by decide +kernel⟩
set_option maxRecDepth 20000 in
theorem mc_67 : Cond.code yX7_part cX7_part 2 (some (.int)) ∈ lw_tbl := List.mem_of_getElem? (i := 822) rfl
theorem mf_67 : mm_MF 67 1 := ⟨⟨mc_67, rfl⟩, wi_94, by decide +kernel, by decide +kernel, by decide +kernel⟩
set_option maxRecDepth 20000 in
theorem mc_68 : Cond.code yX7_isBroken cX7_isBroken 1 (some (.boolean)) ∈ lw_tbl := List.mem_of_getElem? (i := 661) rfl
theorem mf_68 : mm_MF 68 0 := ⟨⟨mc_68, rfl⟩, wi_94, by decide +kernel, by decide +kernel, by decide +kernel⟩
set_option maxRecDepth 20000 in
theorem mc_69 : Cond.code yX7_fits cX7_fits 1 (some (.boolean)) ∈ lw_tbl := List.mem_of_getElem? (i := 748) rfl
theorem mf_69 : mm_MF 69 0 := ⟨⟨mc_69, rfl⟩, wi_94, by decide +kernel, by decide +kernel, by decide +kernel⟩
set_option maxRecDepth 20000 in
theorem mc_7 : Cond.code yX1_at cX1_at 2 (some (.int)) ∈ lw_tbl := List.mem_of_getElem? (i := 831) rfl
theorem mf_7 : mm_MF 7 1 := ⟨⟨mc_7, rfl⟩, wi_97, by decide +kernel, by decide +kernel, by decide +kernel⟩
set_option maxRecDepth 20000 in
theorem mc_70 : Cond.code yX7_wholeH cX7_wholeH 1 (some (.int)) ∈ lw_tbl := List.mem_of_getElem? (i := 669) rfl
theorem mf_70 : mm_MF 70 0 := ⟨⟨mc_70, rfl⟩, wi_94, by decide +kernel, by decide +kernel, by decide +kernel⟩
set_option maxRecDepth 20000 in
theorem mc_71 : Cond.code yX7_wholeV cX7_wholeV 1 (some (.int)) ∈ lw_tbl := List.mem_of_getElem? (i := 841) rfl
theorem mf_71 : mm_MF 71 0 := ⟨⟨mc_71, rfl⟩, wi_94, by decide +kernel, by decide +kernel, by decide +kernel⟩
set_option maxRecDepth 20000 in
theorem mc_72 : Cond.code yX7_pixels cX7_pixels 1 (some (.long)) ∈ lw_tbl := List.mem_of_getElem? (i := 651) rfl
theorem mf_72 : mm_MF 72 0 := ⟨⟨mc_72, rfl⟩, wi_94, by decide +kernel, by decide +kernel, by decide +kernel⟩
set_option maxRecDepth 20000 in
theorem mc_73 : Cond.code yX7_nearestHertz cX7_nearestHertz 3 (some (.int)) ∈ lw_tbl := List.mem_of_getElem? (i := 647) rfl
theorem mf_73 : mm_MF 73 0 := ⟨⟨mc_73, rfl⟩, wi_94, by decide +kernel, by decide +kernel, by decide +kernel⟩
set_option maxRecDepth 20000 in
theorem mc_74 : Cond.code yX7_thousandths cX7_thousandths 3 (some (.int)) ∈ lw_tbl := List.mem_of_getElem? (i := 845) rfl
theorem mf_74 : mm_MF 74 0 := ⟨⟨mc_74, rfl⟩, wi_94, by decide +kernel, by decide +kernel, by decide +kernel⟩
set_option maxRecDepth 20000 in
theorem mc_75 : Cond.code yX7_lineRate cX7_lineRate 2 (some (.int)) ∈ lw_tbl := List.mem_of_getElem? (i := 665) rfl
theorem mf_75 : mm_MF 75 0 := ⟨⟨mc_75, rfl⟩, wi_94, by decide +kernel, by decide +kernel, by decide +kernel⟩
set_option maxRecDepth 20000 in
theorem mc_76 : Cond.code yX8_init cX8_init 1 (none) ∈ lw_tbl := List.mem_of_getElem? (i := 399) rfl
theorem mf_76 : mm_MF 76 0 := ⟨⟨mc_76, rfl⟩, wi_103, by decide +kernel, by decide +kernel, by decide +kernel⟩
set_option maxRecDepth 20000 in
theorem mc_77 : Cond.code yX8_stop cX8_stop 1 (none) ∈ lw_tbl := List.mem_of_getElem? (i := 1103) rfl
theorem mf_77 : mm_MF 77 0 := ⟨⟨mc_77, rfl⟩, wi_103, by decide +kernel, by decide +kernel, by decide +kernel⟩
set_option maxRecDepth 20000 in
theorem mc_78 : Cond.code yX8_start cX8_start 2 (none) ∈ lw_tbl := List.mem_of_getElem? (i := 1124) rfl
theorem mf_78 : mm_MF 78 1 := ⟨⟨mc_78, rfl⟩, wi_103, by decide +kernel, by decide +kernel, by decide +kernel⟩
set_option maxRecDepth 20000 in
theorem mc_79 : Cond.code yX8_isRunning cX8_isRunning 1 (some (.boolean)) ∈ lw_tbl := List.mem_of_getElem? (i := 1133) rfl
theorem mf_79 : mm_MF 79 0 := ⟨⟨mc_79, rfl⟩, wi_103, by decide +kernel, by decide +kernel, by decide +kernel⟩
set_option maxRecDepth 20000 in
theorem mc_8 : Cond.code yX1_make cX1_make 5 (none) ∈ lw_tbl := List.mem_of_getElem? (i := 733) rfl
theorem mf_8 : mm_MF 8 2 := ⟨⟨mc_8, rfl⟩, wi_97, by decide +kernel, by decide +kernel, by decide +kernel⟩
set_option maxRecDepth 20000 in
theorem mc_80 : Cond.code yX8_triesOfPhase cX8_triesOfPhase 1 (some (.int)) ∈ lw_tbl := List.mem_of_getElem? (i := 1148) rfl
theorem mf_80 : mm_MF 80 0 := ⟨⟨mc_80, rfl⟩, wi_103, by decide +kernel, by decide +kernel, by decide +kernel⟩
set_option maxRecDepth 20000 in
theorem mc_81 : Cond.code yX8_finish cX8_finish 3 (some (.int)) ∈ lw_tbl := List.mem_of_getElem? (i := 1244) rfl
theorem mf_81 : mm_MF 81 1 := ⟨⟨mc_81, rfl⟩, wi_103, by decide +kernel, by decide +kernel, by decide +kernel⟩
set_option maxRecDepth 20000 in
theorem mc_82 : Cond.code yX8_attempt cX8_attempt 3 (some (.int)) ∈ lw_tbl := List.mem_of_getElem? (i := 1152) rfl
theorem mf_82 : mm_MF 82 1 := ⟨⟨mc_82, rfl⟩, wi_103, by decide +kernel, by decide +kernel, by decide +kernel⟩
set_option maxRecDepth 20000 in
theorem mc_83 : Cond.code yX8_allLanes cX8_allLanes 1 (some (.int)) ∈ lw_tbl := List.mem_of_getElem? (i := 1168) rfl
theorem mf_83 : mm_MF 83 0 := ⟨⟨mc_83, rfl⟩, wi_103, by decide +kernel, by decide +kernel, by decide +kernel⟩
set_option maxRecDepth 20000 in
theorem mc_84 : Cond.code yX8_attemptClock cX8_attemptClock 3 (some (.int)) ∈ lw_tbl := List.mem_of_getElem? (i := 1156) rfl
theorem mf_84 : mm_MF 84 1 := ⟨⟨mc_84, rfl⟩, wi_103, by decide +kernel, by decide +kernel, by decide +kernel⟩
set_option maxRecDepth 20000 in
theorem mc_85 : Cond.code yX8_attemptEven cX8_attemptEven 3 (some (.int)) ∈ lw_tbl := List.mem_of_getElem? (i := 1178) rfl
theorem mf_85 : mm_MF 85 1 := ⟨⟨mc_85, rfl⟩, wi_103, by decide +kernel, by decide +kernel, by decide +kernel⟩
set_option maxRecDepth 20000 in
theorem mc_86 : Cond.code yX8_wantSwing cX8_wantSwing 4 (some (.int)) ∈ lw_tbl := List.mem_of_getElem? (i := 1160) rfl
theorem mf_86 : mm_MF 86 1 := ⟨⟨mc_86, rfl⟩, wi_103, by decide +kernel, by decide +kernel, by decide +kernel⟩
set_option maxRecDepth 20000 in
theorem mc_87 : Cond.code yX8_wantEmphasis cX8_wantEmphasis 4 (some (.int)) ∈ lw_tbl := List.mem_of_getElem? (i := 1182) rfl
theorem mf_87 : mm_MF 87 1 := ⟨⟨mc_87, rfl⟩, wi_103, by decide +kernel, by decide +kernel, by decide +kernel⟩
set_option maxRecDepth 20000 in
theorem mc_88 : Cond.code yX8_fastLanes cX8_fastLanes 5 (some (.int)) ∈ lw_tbl := List.mem_of_getElem? (i := 1164) rfl
theorem mf_88 : mm_MF 88 2 := ⟨⟨mc_88, rfl⟩, wi_103, by decide +kernel, by decide +kernel, by decide +kernel⟩
set_option maxRecDepth 20000 in
theorem mc_89 : Cond.code yX8_isOneAtTop cX8_isOneAtTop 3 (some (.boolean)) ∈ lw_tbl := List.mem_of_getElem? (i := 1171) rfl
theorem mf_89 : mm_MF 89 2 := ⟨⟨mc_89, rfl⟩, wi_103, by decide +kernel, by decide +kernel, by decide +kernel⟩
set_option maxRecDepth 20000 in
theorem mc_9 : Cond.code yX1_put cX1_put 5 (none) ∈ lw_tbl := List.mem_of_getElem? (i := 757) rfl
theorem mf_9 : mm_MF 9 3 := ⟨⟨mc_9, rfl⟩, wi_97, by decide +kernel, by decide +kernel, by decide +kernel⟩
set_option maxRecDepth 20000 in
theorem mc_90 : Cond.code yX8_raise cX8_raise 3 (none) ∈ lw_tbl := List.mem_of_getElem? (i := 1174) rfl
theorem mf_90 : mm_MF 90 2 := ⟨⟨mc_90, rfl⟩, wi_103, by decide +kernel, by decide +kernel, by decide +kernel⟩
set_option maxRecDepth 20000 in
theorem mc_91 : Cond.code yX8_easeSwing cX8_easeSwing 3 (none) ∈ lw_tbl := List.mem_of_getElem? (i := 1186) rfl
theorem mf_91 : mm_MF 91 1 := ⟨⟨mc_91, rfl⟩, wi_103, by decide +kernel, by decide +kernel, by decide +kernel⟩
set_option maxRecDepth 20000 in
theorem mc_92 : Cond.code yX8_drop cX8_drop 2 (none) ∈ lw_tbl := List.mem_of_getElem? (i := 1190) rfl
theorem mf_92 : mm_MF 92 1 := ⟨⟨mc_92, rfl⟩, wi_103, by decide +kernel, by decide +kernel, by decide +kernel⟩
set_option maxRecDepth 20000 in
theorem mc_93 : Cond.code yX8_dropFromClock cX8_dropFromClock 2 (none) ∈ lw_tbl := List.mem_of_getElem? (i := 1194) rfl
theorem mf_93 : mm_MF 93 1 := ⟨⟨mc_93, rfl⟩, wi_103, by decide +kernel, by decide +kernel, by decide +kernel⟩
set_option maxRecDepth 20000 in
theorem mc_94 : Cond.code yX8_dropFromEven cX8_dropFromEven 1 (none) ∈ lw_tbl := List.mem_of_getElem? (i := 1198) rfl
theorem mf_94 : mm_MF 94 0 := ⟨⟨mc_94, rfl⟩, wi_103, by decide +kernel, by decide +kernel, by decide +kernel⟩
set_option maxRecDepth 20000 in
theorem mc_95 : Cond.code yX8_toFoot cX8_toFoot 1 (none) ∈ lw_tbl := List.mem_of_getElem? (i := 1107) rfl
theorem mf_95 : mm_MF 95 0 := ⟨⟨mc_95, rfl⟩, wi_103, by decide +kernel, by decide +kernel, by decide +kernel⟩
set_option maxRecDepth 20000 in
theorem mc_96 : Cond.code yX9_init cX9_init 1 (none) ∈ lw_tbl := List.mem_of_getElem? (i := 372) rfl
theorem mf_96 : mm_MF 96 0 := ⟨⟨mc_96, rfl⟩, wi_102, by decide +kernel, by decide +kernel, by decide +kernel⟩
set_option maxRecDepth 20000 in
theorem mc_97 : Cond.code yX9_copy cX9_copy 2 (none) ∈ lw_tbl := List.mem_of_getElem? (i := 1256) rfl
theorem mf_97 : mm_MF 97 1 := ⟨⟨mc_97, rfl⟩, wi_102, by decide +kernel, by decide +kernel, by decide +kernel⟩
set_option maxRecDepth 20000 in
theorem mc_98 : Cond.code yX10_init cX10_init 1 (none) ∈ lw_tbl := List.mem_of_getElem? (i := 118) rfl
theorem mf_98 : mm_MF 98 0 := ⟨⟨mc_98, rfl⟩, wi_90, by decide +kernel, by decide +kernel, by decide +kernel⟩
set_option maxRecDepth 20000 in
theorem mc_99 : Cond.code yX10_feed cX10_feed 6 (some (.int)) ∈ lw_tbl := List.mem_of_getElem? (i := 523) rfl
theorem mf_99 : mm_MF 99 5 := ⟨⟨mc_99, rfl⟩, wi_90, by decide +kernel, by decide +kernel, by decide +kernel⟩
