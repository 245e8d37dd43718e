theorem mm_dec_of {m pc nx len : Nat} {ins : Instr} {cd : ByteArray} (hc : mm_code m = cd) (h : decode cd pc = .ok (ins, len)) (hn : nx = pc + len) (hl : mm_len ins = len ∨ mm_len ins = 0) : mm_dec m pc ins nx := ⟨len, by rw [hc]; exact h, hn, hl⟩
theorem hc_0 : mm_code 0 = cX0_init := rfl
theorem ho_0 : mm_own 0 = "ScreenTalk$Bytes" := rfl
theorem rt_0 : mm_rt 0 = none := rfl
theorem rk_0 : 1 ≤ mm_rk 0 := by decide +kernel
theorem wt_0 : 40 ≤ mm_wt 0 := by decide +kernel
theorem hc_1 : mm_code 1 = cX0_clear := rfl
theorem ho_1 : mm_own 1 = "ScreenTalk$Bytes" := rfl
theorem rt_1 : mm_rt 1 = none := rfl
theorem hc_2 : mm_code 2 = cX0_addInt := rfl
theorem ho_2 : mm_own 2 = "ScreenTalk$Bytes" := rfl
theorem rt_2 : mm_rt 2 = none := rfl
theorem hc_3 : mm_code 3 = cX0_at := rfl
theorem ho_3 : mm_own 3 = "ScreenTalk$Bytes" := rfl
theorem rt_3 : mm_rt 3 = some (.int) := rfl
theorem hc_4 : mm_code 4 = cX0_take := rfl
theorem ho_4 : mm_own 4 = "ScreenTalk$Bytes" := rfl
theorem rt_4 : mm_rt 4 = none := rfl
theorem rk_4 : 1 ≤ mm_rk 4 := by decide +kernel
theorem wt_4 : 40 ≤ mm_wt 4 := by decide +kernel
theorem hc_5 : mm_code 5 = cX0_sumOfBlock := rfl
theorem ho_5 : mm_own 5 = "ScreenTalk$Bytes" := rfl
theorem rt_5 : mm_rt 5 = some (.int) := rfl
theorem hc_6 : mm_code 6 = cX1_init := rfl
theorem ho_6 : mm_own 6 = "ScreenTalk$Forge" := rfl
theorem rt_6 : mm_rt 6 = none := rfl
theorem rk_6 : 1 ≤ mm_rk 6 := by decide +kernel
theorem wt_6 : 40 ≤ mm_wt 6 := by decide +kernel
theorem hc_7 : mm_code 7 = cX1_at := rfl
theorem ho_7 : mm_own 7 = "ScreenTalk$Forge" := rfl
theorem rt_7 : mm_rt 7 = some (.int) := rfl
theorem hc_8 : mm_code 8 = cX1_make := rfl
theorem ho_8 : mm_own 8 = "ScreenTalk$Forge" := rfl
theorem rt_8 : mm_rt 8 = none := rfl
theorem hc_9 : mm_code 9 = cX1_put := rfl
theorem ho_9 : mm_own 9 = "ScreenTalk$Forge" := rfl
theorem rt_9 : mm_rt 9 = none := rfl
theorem hc_10 : mm_code 10 = cX1_putTiming := rfl
theorem ho_10 : mm_own 10 = "ScreenTalk$Forge" := rfl
theorem rt_10 : mm_rt 10 = none := rfl
theorem hc_11 : mm_code 11 = cX1_putName := rfl
theorem ho_11 : mm_own 11 = "ScreenTalk$Forge" := rfl
theorem rt_11 : mm_rt 11 = none := rfl
theorem hc_12 : mm_code 12 = cX1_putRange := rfl
theorem ho_12 : mm_own 12 = "ScreenTalk$Forge" := rfl
theorem rt_12 : mm_rt 12 = none := rfl
theorem hc_13 : mm_code 13 = cX1_putSum := rfl
theorem ho_13 : mm_own 13 = "ScreenTalk$Forge" := rfl
theorem rt_13 : mm_rt 13 = none := rfl
theorem hc_14 : mm_code 14 = cX2_init := rfl
theorem ho_14 : mm_own 14 = "ScreenTalk$Inspection" := rfl
theorem rt_14 : mm_rt 14 = none := rfl
theorem rk_14 : 1 ≤ mm_rk 14 := by decide +kernel
theorem wt_14 : 40 ≤ mm_wt 14 := by decide +kernel
theorem hc_15 : mm_code 15 = cX2_inspect := rfl
theorem ho_15 : mm_own 15 = "ScreenTalk$Inspection" := rfl
theorem rt_15 : mm_rt 15 = none := rfl
theorem hc_16 : mm_code 16 = cX2_note := rfl
theorem ho_16 : mm_own 16 = "ScreenTalk$Inspection" := rfl
theorem rt_16 : mm_rt 16 = none := rfl
theorem hc_17 : mm_code 17 = cX2_inspectHead := rfl
theorem ho_17 : mm_own 17 = "ScreenTalk$Inspection" := rfl
theorem rt_17 : mm_rt 17 = none := rfl
theorem hc_18 : mm_code 18 = cX2_inspectExtension := rfl
theorem ho_18 : mm_own 18 = "ScreenTalk$Inspection" := rfl
theorem rt_18 : mm_rt 18 = none := rfl
theorem hc_19 : mm_code 19 = cX3_init := rfl
theorem ho_19 : mm_own 19 = "ScreenTalk$Journal" := rfl
theorem rt_19 : mm_rt 19 = none := rfl
theorem rk_19 : 1 ≤ mm_rk 19 := by decide +kernel
theorem wt_19 : 40 ≤ mm_wt 19 := by decide +kernel
theorem hc_20 : mm_code 20 = cX3_clear := rfl
theorem ho_20 : mm_own 20 = "ScreenTalk$Journal" := rfl
theorem rt_20 : mm_rt 20 = none := rfl
theorem hc_21 : mm_code 21 = cX3_open := rfl
theorem ho_21 : mm_own 21 = "ScreenTalk$Journal" := rfl
theorem rt_21 : mm_rt 21 = none := rfl
theorem hc_22 : mm_code 22 = cX3_close := rfl
theorem ho_22 : mm_own 22 = "ScreenTalk$Journal" := rfl
theorem rt_22 : mm_rt 22 = none := rfl
theorem hc_23 : mm_code 23 = cX3_put := rfl
theorem ho_23 : mm_own 23 = "ScreenTalk$Journal" := rfl
theorem rt_23 : mm_rt 23 = none := rfl
theorem hc_24 : mm_code 24 = cX3_digits := rfl
theorem ho_24 : mm_own 24 = "ScreenTalk$Journal" := rfl
theorem rt_24 : mm_rt 24 = some (.int) := rfl
theorem hc_25 : mm_code 25 = cX3_stepPart := rfl
theorem ho_25 : mm_own 25 = "ScreenTalk$Journal" := rfl
theorem rt_25 : mm_rt 25 = some (.int) := rfl
theorem hc_26 : mm_code 26 = cX3_fallPart := rfl
theorem ho_26 : mm_own 26 = "ScreenTalk$Journal" := rfl
theorem rt_26 : mm_rt 26 = some (.int) := rfl
theorem hc_27 : mm_code 27 = cX4_init := rfl
theorem ho_27 : mm_own 27 = "ScreenTalk$Mode" := rfl
theorem rt_27 : mm_rt 27 = none := rfl
theorem rk_27 : 1 ≤ mm_rk 27 := by decide +kernel
theorem wt_27 : 40 ≤ mm_wt 27 := by decide +kernel
theorem hc_28 : mm_code 28 = cX4_isLike := rfl
theorem ho_28 : mm_own 28 = "ScreenTalk$Mode" := rfl
theorem rt_28 : mm_rt 28 = some (.boolean) := rfl
theorem hc_29 : mm_code 29 = cX4_comesAhead := rfl
theorem ho_29 : mm_own 29 = "ScreenTalk$Mode" := rfl
theorem rt_29 : mm_rt 29 = some (.boolean) := rfl
theorem hc_30 : mm_code 30 = cX5_init := rfl
theorem ho_30 : mm_own 30 = "ScreenTalk$ModeList" := rfl
theorem rt_30 : mm_rt 30 = none := rfl
theorem rk_30 : 1 ≤ mm_rk 30 := by decide +kernel
theorem wt_30 : 40 ≤ mm_wt 30 := by decide +kernel
theorem hc_31 : mm_code 31 = cX5_at := rfl
theorem ho_31 : mm_own 31 = "ScreenTalk$ModeList" := rfl
theorem rt_31 : mm_rt 31 = some (.object "ScreenTalk$Mode") := rfl
theorem hc_32 : mm_code 32 = cX5_leftOutBy := rfl
theorem ho_32 : mm_own 32 = "ScreenTalk$ModeList" := rfl
theorem rt_32 : mm_rt 32 = some (.int) := rfl
theorem hc_33 : mm_code 33 = cX5_indexOf := rfl
theorem ho_33 : mm_own 33 = "ScreenTalk$ModeList" := rfl
theorem rt_33 : mm_rt 33 = some (.int) := rfl
theorem hc_34 : mm_code 34 = cX5_collect := rfl
theorem ho_34 : mm_own 34 = "ScreenTalk$ModeList" := rfl
theorem rt_34 : mm_rt 34 = none := rfl
theorem hc_35 : mm_code 35 = cX5_offerCode := rfl
theorem ho_35 : mm_own 35 = "ScreenTalk$ModeList" := rfl
theorem rt_35 : mm_rt 35 = none := rfl
theorem hc_36 : mm_code 36 = cX5_offerStandard := rfl
theorem ho_36 : mm_own 36 = "ScreenTalk$ModeList" := rfl
theorem rt_36 : mm_rt 36 = none := rfl
theorem hc_37 : mm_code 37 = cX5_standardHeight := rfl
theorem ho_37 : mm_own 37 = "ScreenTalk$ModeList" := rfl
theorem rt_37 : mm_rt 37 = some (.int) := rfl
theorem hc_38 : mm_code 38 = cX5_offer := rfl
theorem ho_38 : mm_own 38 = "ScreenTalk$ModeList" := rfl
theorem rt_38 : mm_rt 38 = none := rfl
theorem hc_39 : mm_code 39 = cX5_whyLeftOut := rfl
theorem ho_39 : mm_own 39 = "ScreenTalk$ModeList" := rfl
theorem rt_39 : mm_rt 39 = some (.int) := rfl
theorem hc_40 : mm_code 40 = cX5_insert := rfl
theorem ho_40 : mm_own 40 = "ScreenTalk$ModeList" := rfl
theorem rt_40 : mm_rt 40 = none := rfl
theorem hc_41 : mm_code 41 = cX6_init := rfl
theorem ho_41 : mm_own 41 = "ScreenTalk$Screen" := rfl
theorem rt_41 : mm_rt 41 = none := rfl
theorem rk_41 : 1 ≤ mm_rk 41 := by decide +kernel
theorem wt_41 : 40 ≤ mm_wt 41 := by decide +kernel
theorem hc_42 : mm_code 42 = cX6_read := rfl
theorem ho_42 : mm_own 42 = "ScreenTalk$Screen" := rfl
theorem rt_42 : mm_rt 42 = none := rfl
theorem hc_43 : mm_code 43 = cX6_readBaseDescriptor := rfl
theorem ho_43 : mm_own 43 = "ScreenTalk$Screen" := rfl
theorem rt_43 : mm_rt 43 = none := rfl
theorem hc_44 : mm_code 44 = cX6_readRange := rfl
theorem ho_44 : mm_own 44 = "ScreenTalk$Screen" := rfl
theorem rt_44 : mm_rt 44 = none := rfl
theorem hc_45 : mm_code 45 = cX6_hasClock := rfl
theorem ho_45 : mm_own 45 = "ScreenTalk$Screen" := rfl
theorem rt_45 : mm_rt 45 = some (.boolean) := rfl
theorem hc_46 : mm_code 46 = cX6_addDetailed := rfl
theorem ho_46 : mm_own 46 = "ScreenTalk$Screen" := rfl
theorem rt_46 : mm_rt 46 = none := rfl
theorem hc_47 : mm_code 47 = cX6_readName := rfl
theorem ho_47 : mm_own 47 = "ScreenTalk$Screen" := rfl
theorem rt_47 : mm_rt 47 = none := rfl
theorem hc_48 : mm_code 48 = cX6_readData := rfl
theorem ho_48 : mm_own 48 = "ScreenTalk$Screen" := rfl
theorem rt_48 : mm_rt 48 = none := rfl
theorem hc_49 : mm_code 49 = cX6_readCodes := rfl
theorem ho_49 : mm_own 49 = "ScreenTalk$Screen" := rfl
theorem rt_49 : mm_rt 49 = none := rfl
theorem hc_50 : mm_code 50 = cX6_readMost := rfl
theorem ho_50 : mm_own 50 = "ScreenTalk$Screen" := rfl
theorem rt_50 : mm_rt 50 = none := rfl
theorem hc_51 : mm_code 51 = cX6_readDetailedFrom := rfl
theorem ho_51 : mm_own 51 = "ScreenTalk$Screen" := rfl
theorem rt_51 : mm_rt 51 = none := rfl
theorem hc_52 : mm_code 52 = cX6_detailedAt := rfl
theorem ho_52 : mm_own 52 = "ScreenTalk$Screen" := rfl
theorem rt_52 : mm_rt 52 = some (.object "ScreenTalk$Timing") := rfl
theorem hc_53 : mm_code 53 = cX6_codeAt := rfl
theorem ho_53 : mm_own 53 = "ScreenTalk$Screen" := rfl
theorem rt_53 : mm_rt 53 = some (.int) := rfl
theorem hc_54 : mm_code 54 = cX6_nameByte := rfl
theorem ho_54 : mm_own 54 = "ScreenTalk$Screen" := rfl
theorem rt_54 : mm_rt 54 = some (.int) := rfl
theorem hc_55 : mm_code 55 = cX6_makerLetter := rfl
theorem ho_55 : mm_own 55 = "ScreenTalk$Screen" := rfl
theorem rt_55 : mm_rt 55 = some (.int) := rfl
theorem hc_56 : mm_code 56 = cX6_rangeByte := rfl
theorem ho_56 : mm_own 56 = "ScreenTalk$Screen" := rfl
theorem rt_56 : mm_rt 56 = some (.int) := rfl
theorem hc_57 : mm_code 57 = cX6_rangePart := rfl
theorem ho_57 : mm_own 57 = "ScreenTalk$Screen" := rfl
theorem rt_57 : mm_rt 57 = some (.int) := rfl
theorem hc_58 : mm_code 58 = cX6_isInRange := rfl
theorem ho_58 : mm_own 58 = "ScreenTalk$Screen" := rfl
theorem rt_58 : mm_rt 58 = some (.boolean) := rfl
theorem hc_59 : mm_code 59 = cX7_init := rfl
theorem ho_59 : mm_own 59 = "ScreenTalk$Timing" := rfl
theorem rt_59 : mm_rt 59 = none := rfl
theorem rk_59 : 1 ≤ mm_rk 59 := by decide +kernel
theorem wt_59 : 40 ≤ mm_wt 59 := by decide +kernel
theorem hc_60 : mm_code 60 = cX7_read := rfl
theorem ho_60 : mm_own 60 = "ScreenTalk$Timing" := rfl
theorem rt_60 : mm_rt 60 = none := rfl
theorem hc_61 : mm_code 61 = cX7_descriptorByte := rfl
theorem ho_61 : mm_own 61 = "ScreenTalk$Timing" := rfl
theorem rt_61 : mm_rt 61 = some (.int) := rfl
theorem hc_62 : mm_code 62 = cX7_draw := rfl
theorem ho_62 : mm_own 62 = "ScreenTalk$Timing" := rfl
theorem rt_62 : mm_rt 62 = none := rfl
theorem rk_62 : 1 ≤ mm_rk 62 := by decide +kernel
theorem wt_62 : 40 ≤ mm_wt 62 := by decide +kernel
theorem hc_63 : mm_code 63 = cX7_blankLines := rfl
theorem ho_63 : mm_own 63 = "ScreenTalk$Timing" := rfl
theorem rt_63 : mm_rt 63 = some (.int) := rfl
theorem hc_64 : mm_code 64 = cX7_plainSync := rfl
theorem ho_64 : mm_own 64 = "ScreenTalk$Timing" := rfl
theorem rt_64 : mm_rt 64 = some (.int) := rfl
theorem hc_65 : mm_code 65 = cX7_copy := rfl
theorem ho_65 : mm_own 65 = "ScreenTalk$Timing" := rfl
theorem rt_65 : mm_rt 65 = none := rfl
theorem hc_66 : mm_code 66 = cX7_setByTable := rfl
theorem ho_66 : mm_own 66 = "ScreenTalk$Timing" := rfl
theorem rt_66 : mm_rt 66 = none := rfl
theorem hc_67 : mm_code 67 = cX7_part := rfl
theorem ho_67 : mm_own 67 = "ScreenTalk$Timing" := rfl
theorem rt_67 : mm_rt 67 = some (.int) := rfl
theorem hc_68 : mm_code 68 = cX7_isBroken := rfl
theorem ho_68 : mm_own 68 = "ScreenTalk$Timing" := rfl
theorem rt_68 : mm_rt 68 = some (.boolean) := rfl
theorem hc_69 : mm_code 69 = cX7_fits := rfl
theorem ho_69 : mm_own 69 = "ScreenTalk$Timing" := rfl
theorem rt_69 : mm_rt 69 = some (.boolean) := rfl
theorem hc_70 : mm_code 70 = cX7_wholeH := rfl
theorem ho_70 : mm_own 70 = "ScreenTalk$Timing" := rfl
theorem rt_70 : mm_rt 70 = some (.int) := rfl
theorem hc_71 : mm_code 71 = cX7_wholeV := rfl
theorem ho_71 : mm_own 71 = "ScreenTalk$Timing" := rfl
theorem rt_71 : mm_rt 71 = some (.int) := rfl
theorem hc_72 : mm_code 72 = cX7_pixels := rfl
theorem ho_72 : mm_own 72 = "ScreenTalk$Timing" := rfl
theorem rt_72 : mm_rt 72 = some (.long) := rfl
theorem hc_73 : mm_code 73 = cX7_nearestHertz := rfl
theorem ho_73 : mm_own 73 = "ScreenTalk$Timing" := rfl
theorem rt_73 : mm_rt 73 = some (.int) := rfl
theorem hc_74 : mm_code 74 = cX7_thousandths := rfl
theorem ho_74 : mm_own 74 = "ScreenTalk$Timing" := rfl
theorem rt_74 : mm_rt 74 = some (.int) := rfl
theorem rk_74 : 1 ≤ mm_rk 74 := by decide +kernel
theorem wt_74 : 40 ≤ mm_wt 74 := by decide +kernel
theorem hc_75 : mm_code 75 = cX7_lineRate := rfl
theorem ho_75 : mm_own 75 = "ScreenTalk$Timing" := rfl
theorem rt_75 : mm_rt 75 = some (.int) := rfl
theorem hc_76 : mm_code 76 = cX8_init := rfl
theorem ho_76 : mm_own 76 = "ScreenTalk$Training" := rfl
theorem rt_76 : mm_rt 76 = none := rfl
theorem rk_76 : 1 ≤ mm_rk 76 := by decide +kernel
theorem wt_76 : 40 ≤ mm_wt 76 := by decide +kernel
theorem hc_77 : mm_code 77 = cX8_stop := rfl
theorem ho_77 : mm_own 77 = "ScreenTalk$Training" := rfl
theorem rt_77 : mm_rt 77 = none := rfl
theorem hc_78 : mm_code 78 = cX8_start := rfl
theorem ho_78 : mm_own 78 = "ScreenTalk$Training" := rfl
theorem rt_78 : mm_rt 78 = none := rfl
theorem hc_79 : mm_code 79 = cX8_isRunning := rfl
theorem ho_79 : mm_own 79 = "ScreenTalk$Training" := rfl
theorem rt_79 : mm_rt 79 = some (.boolean) := rfl
theorem hc_80 : mm_code 80 = cX8_triesOfPhase := rfl
theorem ho_80 : mm_own 80 = "ScreenTalk$Training" := rfl
theorem rt_80 : mm_rt 80 = some (.int) := rfl
theorem hc_81 : mm_code 81 = cX8_finish := rfl
theorem ho_81 : mm_own 81 = "ScreenTalk$Training" := rfl
theorem rt_81 : mm_rt 81 = some (.int) := rfl
theorem hc_82 : mm_code 82 = cX8_attempt := rfl
theorem ho_82 : mm_own 82 = "ScreenTalk$Training" := rfl
theorem rt_82 : mm_rt 82 = some (.int) := rfl
theorem hc_83 : mm_code 83 = cX8_allLanes := rfl
theorem ho_83 : mm_own 83 = "ScreenTalk$Training" := rfl
theorem rt_83 : mm_rt 83 = some (.int) := rfl
theorem hc_84 : mm_code 84 = cX8_attemptClock := rfl
theorem ho_84 : mm_own 84 = "ScreenTalk$Training" := rfl
theorem rt_84 : mm_rt 84 = some (.int) := rfl
theorem hc_85 : mm_code 85 = cX8_attemptEven := rfl
theorem ho_85 : mm_own 85 = "ScreenTalk$Training" := rfl
theorem rt_85 : mm_rt 85 = some (.int) := rfl
theorem hc_86 : mm_code 86 = cX8_wantSwing := rfl
theorem ho_86 : mm_own 86 = "ScreenTalk$Training" := rfl
theorem rt_86 : mm_rt 86 = some (.int) := rfl
theorem hc_87 : mm_code 87 = cX8_wantEmphasis := rfl
theorem ho_87 : mm_own 87 = "ScreenTalk$Training" := rfl
theorem rt_87 : mm_rt 87 = some (.int) := rfl
theorem hc_88 : mm_code 88 = cX8_fastLanes := rfl
theorem ho_88 : mm_own 88 = "ScreenTalk$Training" := rfl
theorem rt_88 : mm_rt 88 = some (.int) := rfl
theorem hc_89 : mm_code 89 = cX8_isOneAtTop := rfl
theorem ho_89 : mm_own 89 = "ScreenTalk$Training" := rfl
theorem rt_89 : mm_rt 89 = some (.boolean) := rfl
theorem hc_90 : mm_code 90 = cX8_raise := rfl
theorem ho_90 : mm_own 90 = "ScreenTalk$Training" := rfl
theorem rt_90 : mm_rt 90 = none := rfl
theorem hc_91 : mm_code 91 = cX8_easeSwing := rfl
theorem ho_91 : mm_own 91 = "ScreenTalk$Training" := rfl
theorem rt_91 : mm_rt 91 = none := rfl
theorem hc_92 : mm_code 92 = cX8_drop := rfl
theorem ho_92 : mm_own 92 = "ScreenTalk$Training" := rfl
theorem rt_92 : mm_rt 92 = none := rfl
theorem hc_93 : mm_code 93 = cX8_dropFromClock := rfl
theorem ho_93 : mm_own 93 = "ScreenTalk$Training" := rfl
theorem rt_93 : mm_rt 93 = none := rfl
theorem hc_94 : mm_code 94 = cX8_dropFromEven := rfl
theorem ho_94 : mm_own 94 = "ScreenTalk$Training" := rfl
theorem rt_94 : mm_rt 94 = none := rfl
theorem hc_95 : mm_code 95 = cX8_toFoot := rfl
theorem ho_95 : mm_own 95 = "ScreenTalk$Training" := rfl
theorem rt_95 : mm_rt 95 = none := rfl
theorem hc_96 : mm_code 96 = cX9_init := rfl
theorem ho_96 : mm_own 96 = "ScreenTalk$Wiring" := rfl
theorem rt_96 : mm_rt 96 = none := rfl
theorem rk_96 : 1 ≤ mm_rk 96 := by decide +kernel
theorem wt_96 : 40 ≤ mm_wt 96 := by decide +kernel
theorem hc_97 : mm_code 97 = cX9_copy := rfl
theorem ho_97 : mm_own 97 = "ScreenTalk$Wiring" := rfl
theorem rt_97 : mm_rt 97 = none := rfl
theorem rk_97 : 1 ≤ mm_rk 97 := by decide +kernel
theorem wt_97 : 40 ≤ mm_wt 97 := by decide +kernel
theorem hc_98 : mm_code 98 = cX10_init := rfl
theorem ho_98 : mm_own 98 = "ScreenTalk" := rfl
theorem rt_98 : mm_rt 98 = none := rfl
theorem rk_98 : 1 ≤ mm_rk 98 := by decide +kernel
theorem wt_98 : 40 ≤ mm_wt 98 := by decide +kernel
theorem hc_99 : mm_code 99 = cX10_feed := rfl
theorem ho_99 : mm_own 99 = "ScreenTalk" := rfl
theorem rt_99 : mm_rt 99 = some (.int) := rfl
theorem hc_100 : mm_code 100 = cX10_load := rfl
theorem ho_100 : mm_own 100 = "ScreenTalk" := rfl
theorem rt_100 : mm_rt 100 = some (.int) := rfl
theorem hc_101 : mm_code 101 = cX10_fault := rfl
theorem ho_101 : mm_own 101 = "ScreenTalk" := rfl
theorem rt_101 : mm_rt 101 = some (.int) := rfl
theorem hc_102 : mm_code 102 = cX10_mend := rfl
theorem ho_102 : mm_own 102 = "ScreenTalk" := rfl
theorem rt_102 : mm_rt 102 = some (.int) := rfl
theorem hc_103 : mm_code 103 = cX10_told := rfl
theorem ho_103 : mm_own 103 = "ScreenTalk" := rfl
theorem rt_103 : mm_rt 103 = some (.int) := rfl
theorem hc_104 : mm_code 104 = cX10_toldPlainly := rfl
theorem ho_104 : mm_own 104 = "ScreenTalk" := rfl
theorem rt_104 : mm_rt 104 = some (.int) := rfl
theorem hc_105 : mm_code 105 = cX10_name := rfl
theorem ho_105 : mm_own 105 = "ScreenTalk" := rfl
theorem rt_105 : mm_rt 105 = some (.int) := rfl
theorem hc_106 : mm_code 106 = cX10_detailed := rfl
theorem ho_106 : mm_own 106 = "ScreenTalk" := rfl
theorem rt_106 : mm_rt 106 = some (.int) := rfl
theorem hc_107 : mm_code 107 = cX10_forged := rfl
theorem ho_107 : mm_own 107 = "ScreenTalk" := rfl
theorem rt_107 : mm_rt 107 = some (.int) := rfl
theorem hc_108 : mm_code 108 = cX10_mode := rfl
theorem ho_108 : mm_own 108 = "ScreenTalk" := rfl
theorem rt_108 : mm_rt 108 = some (.int) := rfl
theorem hc_109 : mm_code 109 = cX10_called := rfl
theorem ho_109 : mm_own 109 = "ScreenTalk" := rfl
theorem rt_109 : mm_rt 109 = some (.int) := rfl
theorem hc_110 : mm_code 110 = cX10_find := rfl
theorem ho_110 : mm_own 110 = "ScreenTalk" := rfl
theorem rt_110 : mm_rt 110 = some (.int) := rfl
theorem hc_111 : mm_code 111 = cX10_formula := rfl
theorem ho_111 : mm_own 111 = "ScreenTalk" := rfl
theorem rt_111 : mm_rt 111 = some (.int) := rfl
theorem hc_112 : mm_code 112 = cX10_descriptor := rfl
theorem ho_112 : mm_own 112 = "ScreenTalk" := rfl
theorem rt_112 : mm_rt 112 = some (.int) := rfl
theorem hc_113 : mm_code 113 = cX10_fastest := rfl
theorem ho_113 : mm_own 113 = "ScreenTalk" := rfl
theorem rt_113 : mm_rt 113 = some (.int) := rfl
theorem hc_114 : mm_code 114 = cX10_isFormula := rfl
theorem ho_114 : mm_own 114 = "ScreenTalk" := rfl
theorem rt_114 : mm_rt 114 = some (.boolean) := rfl
theorem hc_115 : mm_code 115 = cX10_isSize := rfl
theorem ho_115 : mm_own 115 = "ScreenTalk" := rfl
theorem rt_115 : mm_rt 115 = some (.boolean) := rfl
theorem hc_116 : mm_code 116 = cX10_isHertz := rfl
theorem ho_116 : mm_own 116 = "ScreenTalk" := rfl
theorem rt_116 : mm_rt 116 = some (.boolean) := rfl
theorem hc_117 : mm_code 117 = cX10_wish := rfl
theorem ho_117 : mm_own 117 = "ScreenTalk" := rfl
theorem rt_117 : mm_rt 117 = some (.int) := rfl
theorem hc_118 : mm_code 118 = cX10_room := rfl
theorem ho_118 : mm_own 118 = "ScreenTalk" := rfl
theorem rt_118 : mm_rt 118 = some (.int) := rfl
theorem hc_119 : mm_code 119 = cX10_need := rfl
theorem ho_119 : mm_own 119 = "ScreenTalk" := rfl
theorem rt_119 : mm_rt 119 = some (.int) := rfl
theorem hc_120 : mm_code 120 = cX10_best := rfl
theorem ho_120 : mm_own 120 = "ScreenTalk" := rfl
theorem rt_120 : mm_rt 120 = some (.int) := rfl
theorem hc_121 : mm_code 121 = cX10_cheapest := rfl
theorem ho_121 : mm_own 121 = "ScreenTalk" := rfl
theorem rt_121 : mm_rt 121 = some (.int) := rfl
theorem hc_122 : mm_code 122 = cX10_isLink := rfl
theorem ho_122 : mm_own 122 = "ScreenTalk" := rfl
theorem rt_122 : mm_rt 122 = some (.boolean) := rfl
theorem hc_123 : mm_code 123 = cX10_isDepth := rfl
theorem ho_123 : mm_own 123 = "ScreenTalk" := rfl
theorem rt_123 : mm_rt 123 = some (.boolean) := rfl
theorem hc_124 : mm_code 124 = cX10_roomOf := rfl
theorem ho_124 : mm_own 124 = "ScreenTalk" := rfl
theorem rt_124 : mm_rt 124 = some (.int) := rfl
theorem hc_125 : mm_code 125 = cX10_needOf := rfl
theorem ho_125 : mm_own 125 = "ScreenTalk" := rfl
theorem rt_125 : mm_rt 125 = some (.long) := rfl
theorem hc_126 : mm_code 126 = cX10_depthWithin := rfl
theorem ho_126 : mm_own 126 = "ScreenTalk" := rfl
theorem rt_126 : mm_rt 126 = some (.int) := rfl
theorem hc_127 : mm_code 127 = cX10_bestWithin := rfl
theorem ho_127 : mm_own 127 = "ScreenTalk" := rfl
theorem rt_127 : mm_rt 127 = some (.int) := rfl
theorem hc_128 : mm_code 128 = cX10_lane := rfl
theorem ho_128 : mm_own 128 = "ScreenTalk" := rfl
theorem rt_128 : mm_rt 128 = some (.int) := rfl
theorem hc_129 : mm_code 129 = cX10_wire := rfl
theorem ho_129 : mm_own 129 = "ScreenTalk" := rfl
theorem rt_129 : mm_rt 129 = some (.int) := rfl
theorem hc_130 : mm_code 130 = cX10_begin := rfl
theorem ho_130 : mm_own 130 = "ScreenTalk" := rfl
theorem rt_130 : mm_rt 130 = some (.int) := rfl
theorem hc_131 : mm_code 131 = cX10_tries := rfl
theorem ho_131 : mm_own 131 = "ScreenTalk" := rfl
theorem rt_131 : mm_rt 131 = some (.int) := rfl
theorem hc_132 : mm_code 132 = cX10_state := rfl
theorem ho_132 : mm_own 132 = "ScreenTalk" := rfl
theorem rt_132 : mm_rt 132 = some (.int) := rfl
theorem hc_133 : mm_code 133 = cX10_level := rfl
theorem ho_133 : mm_own 133 = "ScreenTalk" := rfl
theorem rt_133 : mm_rt 133 = some (.int) := rfl
theorem hc_134 : mm_code 134 = cX10_fall := rfl
theorem ho_134 : mm_own 134 = "ScreenTalk" := rfl
theorem rt_134 : mm_rt 134 = some (.int) := rfl
theorem hc_135 : mm_code 135 = cX10_step := rfl
theorem ho_135 : mm_own 135 = "ScreenTalk" := rfl
theorem rt_135 : mm_rt 135 = some (.int) := rfl
theorem hc_136 : mm_code 136 = cX10_shown := rfl
theorem ho_136 : mm_own 136 = "ScreenTalk" := rfl
theorem rt_136 : mm_rt 136 = some (.int) := rfl
theorem hc_137 : mm_code 137 = cX10_isLane := rfl
theorem ho_137 : mm_own 137 = "ScreenTalk" := rfl
theorem rt_137 : mm_rt 137 = some (.boolean) := rfl
theorem hc_138 : mm_code 138 = cX10_greatest := rfl
theorem ho_138 : mm_own 138 = "ScreenTalk" := rfl
theorem rt_138 : mm_rt 138 = some (.int) := rfl
theorem rk_138 : 1 ≤ mm_rk 138 := by decide +kernel
theorem wt_138 : 40 ≤ mm_wt 138 := by decide +kernel
theorem hc_139 : mm_code 139 = cX10_endTraining := rfl
theorem ho_139 : mm_own 139 = "ScreenTalk" := rfl
theorem rt_139 : mm_rt 139 = none := rfl
theorem hc_140 : mm_code 140 = cX10_trained := rfl
theorem ho_140 : mm_own 140 = "ScreenTalk" := rfl
theorem rt_140 : mm_rt 140 = some (.int) := rfl
theorem hc_141 : mm_code 141 = cX10_margin := rfl
theorem ho_141 : mm_own 141 = "ScreenTalk" := rfl
theorem rt_141 : mm_rt 141 = some (.int) := rfl
theorem hc_142 : mm_code 142 = cX10_laid := rfl
theorem ho_142 : mm_own 142 = "ScreenTalk" := rfl
theorem rt_142 : mm_rt 142 = some (.int) := rfl
theorem hc_143 : mm_code 143 = cX10_layLane := rfl
theorem ho_143 : mm_own 143 = "ScreenTalk" := rfl
theorem rt_143 : mm_rt 143 = none := rfl
theorem hc_144 : mm_code 144 = cX10_enough := rfl
theorem ho_144 : mm_own 144 = "ScreenTalk" := rfl
theorem rt_144 : mm_rt 144 = some (.int) := rfl
theorem hc_145 : mm_code 145 = cX10_would := rfl
theorem ho_145 : mm_own 145 = "ScreenTalk" := rfl
theorem rt_145 : mm_rt 145 = some (.int) := rfl
theorem hc_146 : mm_code 146 = cX10_count := rfl
theorem ho_146 : mm_own 146 = "ScreenTalk" := rfl
theorem rt_146 : mm_rt 146 = some (.int) := rfl
theorem hc_147 : mm_code 147 = cX10_headByte := rfl
theorem ho_147 : mm_own 147 = "ScreenTalk" := rfl
theorem rt_147 : mm_rt 147 = some (.int) := rfl
theorem hc_148 : mm_code 148 = cX11_isIn := rfl
theorem ho_148 : mm_own 148 = "ScreenTalkModel" := rfl
theorem rt_148 : mm_rt 148 = some (.boolean) := rfl
theorem hc_149 : mm_code 149 = cX11_has := rfl
theorem ho_149 : mm_own 149 = "ScreenTalkModel" := rfl
theorem rt_149 : mm_rt 149 = some (.boolean) := rfl
theorem hc_150 : mm_code 150 = cX11_greater := rfl
theorem ho_150 : mm_own 150 = "ScreenTalkModel" := rfl
theorem rt_150 : mm_rt 150 = some (.int) := rfl
theorem hc_151 : mm_code 151 = cX11_init := rfl
theorem ho_151 : mm_own 151 = "ScreenTalkModel" := rfl
theorem rt_151 : mm_rt 151 = none := rfl
theorem rk_151 : 1 ≤ mm_rk 151 := by decide +kernel
theorem wt_151 : 40 ≤ mm_wt 151 := by decide +kernel
theorem hc_152 : mm_code 152 = cX11_feed := rfl
theorem ho_152 : mm_own 152 = "ScreenTalkModel" := rfl
theorem rt_152 : mm_rt 152 = some (.int) := rfl
theorem hc_153 : mm_code 153 = cX11_fails := rfl
theorem ho_153 : mm_own 153 = "ScreenTalkModel" := rfl
theorem rt_153 : mm_rt 153 = none := rfl
theorem hc_154 : mm_code 154 = cX11_sumOf := rfl
theorem ho_154 : mm_own 154 = "ScreenTalkModel" := rfl
theorem rt_154 : mm_rt 154 = some (.int) := rfl
theorem hc_155 : mm_code 155 = cX11_checks := rfl
theorem ho_155 : mm_own 155 = "ScreenTalkModel" := rfl
theorem rt_155 : mm_rt 155 = none := rfl
theorem hc_156 : mm_code 156 = cX11_checksExtension := rfl
theorem ho_156 : mm_own 156 = "ScreenTalkModel" := rfl
theorem rt_156 : mm_rt 156 = none := rfl
theorem hc_157 : mm_code 157 = cX11_load := rfl
theorem ho_157 : mm_own 157 = "ScreenTalkModel" := rfl
theorem rt_157 : mm_rt 157 = some (.int) := rfl
theorem hc_158 : mm_code 158 = cX11_fault := rfl
theorem ho_158 : mm_own 158 = "ScreenTalkModel" := rfl
theorem rt_158 : mm_rt 158 = some (.int) := rfl
theorem hc_159 : mm_code 159 = cX11_mend := rfl
theorem ho_159 : mm_own 159 = "ScreenTalkModel" := rfl
theorem rt_159 : mm_rt 159 = some (.int) := rfl
theorem hc_160 : mm_code 160 = cX11_at := rfl
theorem ho_160 : mm_own 160 = "ScreenTalkModel" := rfl
theorem rt_160 : mm_rt 160 = some (.int) := rfl
theorem hc_161 : mm_code 161 = cX11_readsDetailed := rfl
theorem ho_161 : mm_own 161 = "ScreenTalkModel" := rfl
theorem rt_161 : mm_rt 161 = none := rfl
theorem hc_162 : mm_code 162 = cX11_isBroken := rfl
theorem ho_162 : mm_own 162 = "ScreenTalkModel" := rfl
theorem rt_162 : mm_rt 162 = some (.boolean) := rfl
theorem hc_163 : mm_code 163 = cX11_isDetailed := rfl
theorem ho_163 : mm_own 163 = "ScreenTalkModel" := rfl
theorem rt_163 : mm_rt 163 = some (.boolean) := rfl
theorem hc_164 : mm_code 164 = cX11_readsOther := rfl
theorem ho_164 : mm_own 164 = "ScreenTalkModel" := rfl
theorem rt_164 : mm_rt 164 = none := rfl
theorem hc_165 : mm_code 165 = cX11_readsData := rfl
theorem ho_165 : mm_own 165 = "ScreenTalkModel" := rfl
theorem rt_165 : mm_rt 165 = none := rfl
theorem hc_166 : mm_code 166 = cX11_readsAll := rfl
theorem ho_166 : mm_own 166 = "ScreenTalkModel" := rfl
theorem rt_166 : mm_rt 166 = none := rfl
theorem hc_167 : mm_code 167 = cX11_hertzOf := rfl
theorem ho_167 : mm_own 167 = "ScreenTalkModel" := rfl
theorem rt_167 : mm_rt 167 = some (.int) := rfl
theorem hc_168 : mm_code 168 = cX11_ofMode := rfl
theorem ho_168 : mm_own 168 = "ScreenTalkModel" := rfl
theorem rt_168 : mm_rt 168 = some (.int) := rfl
theorem hc_169 : mm_code 169 = cX11_isOut := rfl
theorem ho_169 : mm_own 169 = "ScreenTalkModel" := rfl
theorem rt_169 : mm_rt 169 = some (.boolean) := rfl
theorem hc_170 : mm_code 170 = cX11_isFound := rfl
theorem ho_170 : mm_own 170 = "ScreenTalkModel" := rfl
theorem rt_170 : mm_rt 170 = some (.boolean) := rfl
theorem hc_171 : mm_code 171 = cX11_offers := rfl
theorem ho_171 : mm_own 171 = "ScreenTalkModel" := rfl
theorem rt_171 : mm_rt 171 = some (.boolean) := rfl
theorem hc_172 : mm_code 172 = cX11_laysFronts := rfl
theorem ho_172 : mm_own 172 = "ScreenTalkModel" := rfl
theorem rt_172 : mm_rt 172 = none := rfl
theorem hc_173 : mm_code 173 = cX11_offersDetailed := rfl
theorem ho_173 : mm_own 173 = "ScreenTalkModel" := rfl
theorem rt_173 : mm_rt 173 = none := rfl
theorem hc_174 : mm_code 174 = cX11_offersCode := rfl
theorem ho_174 : mm_own 174 = "ScreenTalkModel" := rfl
theorem rt_174 : mm_rt 174 = none := rfl
theorem hc_175 : mm_code 175 = cX11_offersPlain := rfl
theorem ho_175 : mm_own 175 = "ScreenTalkModel" := rfl
theorem rt_175 : mm_rt 175 = none := rfl
theorem hc_176 : mm_code 176 = cX11_reads := rfl
theorem ho_176 : mm_own 176 = "ScreenTalkModel" := rfl
theorem rt_176 : mm_rt 176 = none := rfl
theorem hc_177 : mm_code 177 = cX11_isAhead := rfl
theorem ho_177 : mm_own 177 = "ScreenTalkModel" := rfl
theorem rt_177 : mm_rt 177 = some (.boolean) := rfl
theorem hc_178 : mm_code 178 = cX11_told := rfl
theorem ho_178 : mm_own 178 = "ScreenTalkModel" := rfl
theorem rt_178 : mm_rt 178 = some (.int) := rfl
theorem hc_179 : mm_code 179 = cX11_name := rfl
theorem ho_179 : mm_own 179 = "ScreenTalkModel" := rfl
theorem rt_179 : mm_rt 179 = some (.int) := rfl
theorem hc_180 : mm_code 180 = cX11_detailed := rfl
theorem ho_180 : mm_own 180 = "ScreenTalkModel" := rfl
theorem rt_180 : mm_rt 180 = some (.int) := rfl
theorem hc_181 : mm_code 181 = cX11_isMode := rfl
theorem ho_181 : mm_own 181 = "ScreenTalkModel" := rfl
theorem rt_181 : mm_rt 181 = some (.boolean) := rfl
theorem hc_182 : mm_code 182 = cX11_mode := rfl
theorem ho_182 : mm_own 182 = "ScreenTalkModel" := rfl
theorem rt_182 : mm_rt 182 = some (.int) := rfl
theorem hc_183 : mm_code 183 = cX11_thousandths := rfl
theorem ho_183 : mm_own 183 = "ScreenTalkModel" := rfl
theorem rt_183 : mm_rt 183 = some (.int) := rfl
theorem hc_184 : mm_code 184 = cX11_laysMode := rfl
theorem ho_184 : mm_own 184 = "ScreenTalkModel" := rfl
theorem rt_184 : mm_rt 184 = none := rfl
theorem hc_185 : mm_code 185 = cX11_forgesName := rfl
theorem ho_185 : mm_own 185 = "ScreenTalkModel" := rfl
theorem rt_185 : mm_rt 185 = none := rfl
theorem hc_186 : mm_code 186 = cX11_forgesRange := rfl
theorem ho_186 : mm_own 186 = "ScreenTalkModel" := rfl
theorem rt_186 : mm_rt 186 = none := rfl
theorem hc_187 : mm_code 187 = cX11_forges := rfl
theorem ho_187 : mm_own 187 = "ScreenTalkModel" := rfl
theorem rt_187 : mm_rt 187 = some (.boolean) := rfl
theorem hc_188 : mm_code 188 = cX11_forged := rfl
theorem ho_188 : mm_own 188 = "ScreenTalkModel" := rfl
theorem rt_188 : mm_rt 188 = some (.int) := rfl
theorem hc_189 : mm_code 189 = cX11_calls := rfl
theorem ho_189 : mm_own 189 = "ScreenTalkModel" := rfl
theorem rt_189 : mm_rt 189 = none := rfl
theorem hc_190 : mm_code 190 = cX11_callsNumber := rfl
theorem ho_190 : mm_own 190 = "ScreenTalkModel" := rfl
theorem rt_190 : mm_rt 190 = none := rfl
theorem hc_191 : mm_code 191 = cX11_called := rfl
theorem ho_191 : mm_own 191 = "ScreenTalkModel" := rfl
theorem rt_191 : mm_rt 191 = some (.int) := rfl
theorem hc_192 : mm_code 192 = cX11_find := rfl
theorem ho_192 : mm_own 192 = "ScreenTalkModel" := rfl
theorem rt_192 : mm_rt 192 = some (.int) := rfl
theorem hc_193 : mm_code 193 = cX11_syncOf := rfl
theorem ho_193 : mm_own 193 = "ScreenTalkModel" := rfl
theorem rt_193 : mm_rt 193 = some (.int) := rfl
theorem hc_194 : mm_code 194 = cX11_works := rfl
theorem ho_194 : mm_own 194 = "ScreenTalkModel" := rfl
theorem rt_194 : mm_rt 194 = none := rfl
theorem hc_195 : mm_code 195 = cX11_refuses := rfl
theorem ho_195 : mm_own 195 = "ScreenTalkModel" := rfl
theorem rt_195 : mm_rt 195 = some (.int) := rfl
theorem hc_196 : mm_code 196 = cX11_formula := rfl
theorem ho_196 : mm_own 196 = "ScreenTalkModel" := rfl
theorem rt_196 : mm_rt 196 = some (.int) := rfl
theorem hc_197 : mm_code 197 = cX11_hasRoom := rfl
theorem ho_197 : mm_own 197 = "ScreenTalkModel" := rfl
theorem rt_197 : mm_rt 197 = some (.boolean) := rfl
theorem hc_198 : mm_code 198 = cX11_descriptorByte := rfl
theorem ho_198 : mm_own 198 = "ScreenTalkModel" := rfl
theorem rt_198 : mm_rt 198 = some (.int) := rfl
theorem hc_199 : mm_code 199 = cX11_descriptor := rfl
theorem ho_199 : mm_own 199 = "ScreenTalkModel" := rfl
theorem rt_199 : mm_rt 199 = some (.int) := rfl
theorem hc_200 : mm_code 200 = cX11_isDepth := rfl
theorem ho_200 : mm_own 200 = "ScreenTalkModel" := rfl
theorem rt_200 : mm_rt 200 = some (.boolean) := rfl
theorem hc_201 : mm_code 201 = cX11_isLink := rfl
theorem ho_201 : mm_own 201 = "ScreenTalkModel" := rfl
theorem rt_201 : mm_rt 201 = some (.boolean) := rfl
theorem hc_202 : mm_code 202 = cX11_roomOf := rfl
theorem ho_202 : mm_own 202 = "ScreenTalkModel" := rfl
theorem rt_202 : mm_rt 202 = some (.int) := rfl
theorem hc_203 : mm_code 203 = cX11_needOf := rfl
theorem ho_203 : mm_own 203 = "ScreenTalkModel" := rfl
theorem rt_203 : mm_rt 203 = some (.int) := rfl
theorem hc_204 : mm_code 204 = cX11_wish := rfl
theorem ho_204 : mm_own 204 = "ScreenTalkModel" := rfl
theorem rt_204 : mm_rt 204 = some (.int) := rfl
theorem hc_205 : mm_code 205 = cX11_room := rfl
theorem ho_205 : mm_own 205 = "ScreenTalkModel" := rfl
theorem rt_205 : mm_rt 205 = some (.int) := rfl
theorem hc_206 : mm_code 206 = cX11_need := rfl
theorem ho_206 : mm_own 206 = "ScreenTalkModel" := rfl
theorem rt_206 : mm_rt 206 = some (.int) := rfl
theorem hc_207 : mm_code 207 = cX11_laysBest := rfl
theorem ho_207 : mm_own 207 = "ScreenTalkModel" := rfl
theorem rt_207 : mm_rt 207 = none := rfl
theorem hc_208 : mm_code 208 = cX11_best := rfl
theorem ho_208 : mm_own 208 = "ScreenTalkModel" := rfl
theorem rt_208 : mm_rt 208 = some (.int) := rfl
theorem hc_209 : mm_code 209 = cX11_cheapest := rfl
theorem ho_209 : mm_own 209 = "ScreenTalkModel" := rfl
theorem rt_209 : mm_rt 209 = some (.int) := rfl
theorem hc_210 : mm_code 210 = cX11_fastest := rfl
theorem ho_210 : mm_own 210 = "ScreenTalkModel" := rfl
theorem rt_210 : mm_rt 210 = some (.int) := rfl
theorem hc_211 : mm_code 211 = cX11_isLane := rfl
theorem ho_211 : mm_own 211 = "ScreenTalkModel" := rfl
theorem rt_211 : mm_rt 211 = some (.boolean) := rfl
theorem hc_212 : mm_code 212 = cX11_ends := rfl
theorem ho_212 : mm_own 212 = "ScreenTalkModel" := rfl
theorem rt_212 : mm_rt 212 = none := rfl
theorem hc_213 : mm_code 213 = cX11_lane := rfl
theorem ho_213 : mm_own 213 = "ScreenTalkModel" := rfl
theorem rt_213 : mm_rt 213 = some (.int) := rfl
theorem hc_214 : mm_code 214 = cX11_wire := rfl
theorem ho_214 : mm_own 214 = "ScreenTalkModel" := rfl
theorem rt_214 : mm_rt 214 = some (.int) := rfl
theorem hc_215 : mm_code 215 = cX11_foots := rfl
theorem ho_215 : mm_own 215 = "ScreenTalkModel" := rfl
theorem rt_215 : mm_rt 215 = none := rfl
theorem hc_216 : mm_code 216 = cX11_begins := rfl
theorem ho_216 : mm_own 216 = "ScreenTalkModel" := rfl
theorem rt_216 : mm_rt 216 = none := rfl
theorem hc_217 : mm_code 217 = cX11_begin := rfl
theorem ho_217 : mm_own 217 = "ScreenTalkModel" := rfl
theorem rt_217 : mm_rt 217 = some (.int) := rfl
theorem hc_218 : mm_code 218 = cX11_wantsSwing := rfl
theorem ho_218 : mm_own 218 = "ScreenTalkModel" := rfl
theorem rt_218 : mm_rt 218 = some (.boolean) := rfl
theorem hc_219 : mm_code 219 = cX11_wantsEmphasis := rfl
theorem ho_219 : mm_own 219 = "ScreenTalkModel" := rfl
theorem rt_219 : mm_rt 219 = some (.boolean) := rfl
theorem hc_220 : mm_code 220 = cX11_falls := rfl
theorem ho_220 : mm_own 220 = "ScreenTalkModel" := rfl
theorem rt_220 : mm_rt 220 = none := rfl
theorem hc_221 : mm_code 221 = cX11_triesClock := rfl
theorem ho_221 : mm_own 221 = "ScreenTalkModel" := rfl
theorem rt_221 : mm_rt 221 = none := rfl
theorem hc_222 : mm_code 222 = cX11_triesEven := rfl
theorem ho_222 : mm_own 222 = "ScreenTalkModel" := rfl
theorem rt_222 : mm_rt 222 = none := rfl
theorem hc_223 : mm_code 223 = cX11_isTraining := rfl
theorem ho_223 : mm_own 223 = "ScreenTalkModel" := rfl
theorem rt_223 : mm_rt 223 = some (.boolean) := rfl
theorem hc_224 : mm_code 224 = cX11_digits := rfl
theorem ho_224 : mm_own 224 = "ScreenTalkModel" := rfl
theorem rt_224 : mm_rt 224 = some (.int) := rfl
theorem hc_225 : mm_code 225 = cX11_triesOnce := rfl
theorem ho_225 : mm_own 225 = "ScreenTalkModel" := rfl
theorem rt_225 : mm_rt 225 = none := rfl
theorem hc_226 : mm_code 226 = cX11_step := rfl
theorem ho_226 : mm_own 226 = "ScreenTalkModel" := rfl
theorem rt_226 : mm_rt 226 = some (.int) := rfl
theorem hc_227 : mm_code 227 = cX11_tries := rfl
theorem ho_227 : mm_own 227 = "ScreenTalkModel" := rfl
theorem rt_227 : mm_rt 227 = some (.int) := rfl
theorem hc_228 : mm_code 228 = cX11_mostOf := rfl
theorem ho_228 : mm_own 228 = "ScreenTalkModel" := rfl
theorem rt_228 : mm_rt 228 = some (.int) := rfl
theorem hc_229 : mm_code 229 = cX11_state := rfl
theorem ho_229 : mm_own 229 = "ScreenTalkModel" := rfl
theorem rt_229 : mm_rt 229 = some (.int) := rfl
theorem hc_230 : mm_code 230 = cX11_level := rfl
theorem ho_230 : mm_own 230 = "ScreenTalkModel" := rfl
theorem rt_230 : mm_rt 230 = some (.int) := rfl
theorem hc_231 : mm_code 231 = cX11_fall := rfl
theorem ho_231 : mm_own 231 = "ScreenTalkModel" := rfl
theorem rt_231 : mm_rt 231 = some (.int) := rfl
theorem hc_232 : mm_code 232 = cX11_shown := rfl
theorem ho_232 : mm_own 232 = "ScreenTalkModel" := rfl
theorem rt_232 : mm_rt 232 = some (.int) := rfl
theorem hc_233 : mm_code 233 = cX11_opens := rfl
theorem ho_233 : mm_own 233 = "ScreenTalkModel" := rfl
theorem rt_233 : mm_rt 233 = none := rfl
theorem hc_234 : mm_code 234 = cX11_closes := rfl
theorem ho_234 : mm_own 234 = "ScreenTalkModel" := rfl
theorem rt_234 : mm_rt 234 = none := rfl
theorem hc_235 : mm_code 235 = cX11_trains := rfl
theorem ho_235 : mm_own 235 = "ScreenTalkModel" := rfl
theorem rt_235 : mm_rt 235 = some (.int) := rfl
theorem hc_236 : mm_code 236 = cX11_toldOf := rfl
theorem ho_236 : mm_own 236 = "ScreenTalkModel" := rfl
theorem rt_236 : mm_rt 236 = some (.int) := rfl
theorem hc_237 : mm_code 237 = cX11_trained := rfl
theorem ho_237 : mm_own 237 = "ScreenTalkModel" := rfl
theorem rt_237 : mm_rt 237 = some (.int) := rfl
theorem hc_238 : mm_code 238 = cX11_margin := rfl
theorem ho_238 : mm_own 238 = "ScreenTalkModel" := rfl
theorem rt_238 : mm_rt 238 = some (.int) := rfl
theorem hc_239 : mm_code 239 = cX11_triesOrder := rfl
theorem ho_239 : mm_own 239 = "ScreenTalkModel" := rfl
theorem rt_239 : mm_rt 239 = none := rfl
theorem hc_240 : mm_code 240 = cX11_isOrder := rfl
theorem ho_240 : mm_own 240 = "ScreenTalkModel" := rfl
theorem rt_240 : mm_rt 240 = some (.boolean) := rfl
theorem hc_241 : mm_code 241 = cX11_laid := rfl
theorem ho_241 : mm_own 241 = "ScreenTalkModel" := rfl
theorem rt_241 : mm_rt 241 = some (.int) := rfl
theorem hc_242 : mm_code 242 = cX11_enough := rfl
theorem ho_242 : mm_own 242 = "ScreenTalkModel" := rfl
theorem rt_242 : mm_rt 242 = some (.int) := rfl
theorem hc_243 : mm_code 243 = cX11_would := rfl
theorem ho_243 : mm_own 243 = "ScreenTalkModel" := rfl
theorem rt_243 : mm_rt 243 = some (.int) := rfl
theorem hc_244 : mm_code 244 = cX11_count := rfl
theorem ho_244 : mm_own 244 = "ScreenTalkModel" := rfl
theorem rt_244 : mm_rt 244 = some (.int) := rfl
theorem hc_245 : mm_code 245 = cJ4_init_da8c8 := rfl
theorem ho_245 : mm_own 245 = "java/lang/StringBuilder" := rfl
theorem rt_245 : mm_rt 245 = none := rfl
theorem hc_246 : mm_code 246 = cJ5_init_d00df := rfl
theorem ho_246 : mm_own 246 = "java/lang/AbstractStringBuilder" := rfl
theorem rt_246 : mm_rt 246 = none := rfl
theorem rk_246 : 1 ≤ mm_rk 246 := by decide +kernel
theorem wt_246 : 40 ≤ mm_wt 246 := by decide +kernel
theorem hc_247 : mm_code 247 = cJ4_append_cf468 := rfl
theorem ho_247 : mm_own 247 = "java/lang/StringBuilder" := rfl
theorem rt_247 : mm_rt 247 = some (.object "java/lang/StringBuilder") := rfl
theorem hc_248 : mm_code 248 = cJ4_append_bf812 := rfl
theorem ho_248 : mm_own 248 = "java/lang/StringBuilder" := rfl
theorem rt_248 : mm_rt 248 = some (.object "java/lang/StringBuilder") := rfl
theorem hc_249 : mm_code 249 = cJ4_charAt_5068e := rfl
theorem ho_249 : mm_own 249 = "java/lang/StringBuilder" := rfl
theorem rt_249 : mm_rt 249 = some (.char) := rfl
theorem hc_250 : mm_code 250 = cJ4_setLength_d00df := rfl
theorem ho_250 : mm_own 250 = "java/lang/StringBuilder" := rfl
theorem rt_250 : mm_rt 250 = none := rfl
theorem hc_251 : mm_code 251 = cJ4_length_8abf5 := rfl
theorem ho_251 : mm_own 251 = "java/lang/StringBuilder" := rfl
theorem rt_251 : mm_rt 251 = some (.int) := rfl
theorem hc_252 : mm_code 252 = cJ5_length_8abf5 := rfl
theorem ho_252 : mm_own 252 = "java/lang/AbstractStringBuilder" := rfl
theorem rt_252 : mm_rt 252 = some (.int) := rfl
theorem hc_253 : mm_code 253 = cJ5_ensureCapacityInternal_d00df := rfl
theorem ho_253 : mm_own 253 = "java/lang/AbstractStringBuilder" := rfl
theorem rt_253 : mm_rt 253 = none := rfl
theorem hc_254 : mm_code 254 = cJ5_setLength_d00df := rfl
theorem ho_254 : mm_own 254 = "java/lang/AbstractStringBuilder" := rfl
theorem rt_254 : mm_rt 254 = none := rfl
theorem hc_255 : mm_code 255 = cJ5_charAt_5068e := rfl
theorem ho_255 : mm_own 255 = "java/lang/AbstractStringBuilder" := rfl
theorem rt_255 : mm_rt 255 = some (.char) := rfl
theorem rk_255 : 1 ≤ mm_rk 255 := by decide +kernel
theorem wt_255 : 40 ≤ mm_wt 255 := by decide +kernel
theorem hc_256 : mm_code 256 = cJ5_append_3fe6f := rfl
theorem ho_256 : mm_own 256 = "java/lang/AbstractStringBuilder" := rfl
theorem rt_256 : mm_rt 256 = some (.object "java/lang/AbstractStringBuilder") := rfl
theorem hc_257 : mm_code 257 = cJ5_append_c97b9 := rfl
theorem ho_257 : mm_own 257 = "java/lang/AbstractStringBuilder" := rfl
theorem rt_257 : mm_rt 257 = some (.object "java/lang/AbstractStringBuilder") := rfl
theorem hc_258 : mm_code 258 = cJ5_isLatin1_aae02 := rfl
theorem ho_258 : mm_own 258 = "java/lang/AbstractStringBuilder" := rfl
theorem rt_258 : mm_rt 258 = some (.boolean) := rfl
theorem hc_259 : mm_code 259 = cJ6_getChars_ba4f3 := rfl
theorem ho_259 : mm_own 259 = "java/lang/Integer" := rfl
theorem rt_259 : mm_rt 259 = some (.int) := rfl
theorem hc_260 : mm_code 260 = cJ6_stringSize_0f7a4 := rfl
theorem ho_260 : mm_own 260 = "java/lang/Integer" := rfl
theorem rt_260 : mm_rt 260 = some (.int) := rfl
theorem hc_261 : mm_code 261 = cJ0_checkIndex_df160 := rfl
theorem ho_261 : mm_own 261 = "java/lang/String" := rfl
theorem rt_261 : mm_rt 261 = none := rfl
theorem hc_262 : mm_code 262 = cJ1_canEncode_fc78d := rfl
theorem ho_262 : mm_own 262 = "java/lang/StringLatin1" := rfl
theorem rt_262 : mm_rt 262 = some (.boolean) := rfl
theorem hc_263 : mm_code 263 = cJ7_fill_53178 := rfl
theorem ho_263 : mm_own 263 = "java/util/Arrays" := rfl
theorem rt_263 : mm_rt 263 = none := rfl
theorem hc_264 : mm_code 264 = cJ3_checkIndex_8e157 := rfl
theorem ho_264 : mm_own 264 = "jdk/internal/util/Preconditions" := rfl
theorem rt_264 : mm_rt 264 = some (.int) := rfl
theorem hc_265 : mm_code 265 = cL_law := rfl
theorem ho_265 : mm_own 265 = "ScreenTalkLaw" := rfl
theorem rt_265 : mm_rt 265 = some (.boolean) := rfl
theorem xf_0_0 : ([0, 0, 2] : List Int) = [((0 : Nat) : Int), ((0 : Nat) : Int), mm_ft 0 0] := by decide +kernel
theorem xf_0_1 : ([0, 1, 0] : List Int) = [((0 : Nat) : Int), ((1 : Nat) : Int), mm_ft 0 1] := by decide +kernel
theorem xf_10_0 : ([10, 0, 2] : List Int) = [((10 : Nat) : Int), ((0 : Nat) : Int), mm_ft 10 0] := by decide +kernel
theorem xf_10_1 : ([10, 1, 2] : List Int) = [((10 : Nat) : Int), ((1 : Nat) : Int), mm_ft 10 1] := by decide +kernel
theorem xf_10_10 : ([10, 10, 2] : List Int) = [((10 : Nat) : Int), ((10 : Nat) : Int), mm_ft 10 10] := by decide +kernel
theorem xf_10_11 : ([10, 11, 2] : List Int) = [((10 : Nat) : Int), ((11 : Nat) : Int), mm_ft 10 11] := by decide +kernel
theorem xf_10_12 : ([10, 12, 2] : List Int) = [((10 : Nat) : Int), ((12 : Nat) : Int), mm_ft 10 12] := by decide +kernel
theorem xf_10_13 : ([10, 13, 0] : List Int) = [((10 : Nat) : Int), ((13 : Nat) : Int), mm_ft 10 13] := by decide +kernel
theorem xf_10_2 : ([10, 2, 2] : List Int) = [((10 : Nat) : Int), ((2 : Nat) : Int), mm_ft 10 2] := by decide +kernel
theorem xf_10_3 : ([10, 3, 2] : List Int) = [((10 : Nat) : Int), ((3 : Nat) : Int), mm_ft 10 3] := by decide +kernel
theorem xf_10_4 : ([10, 4, 2] : List Int) = [((10 : Nat) : Int), ((4 : Nat) : Int), mm_ft 10 4] := by decide +kernel
theorem xf_10_5 : ([10, 5, 2] : List Int) = [((10 : Nat) : Int), ((5 : Nat) : Int), mm_ft 10 5] := by decide +kernel
theorem xf_10_6 : ([10, 6, 2] : List Int) = [((10 : Nat) : Int), ((6 : Nat) : Int), mm_ft 10 6] := by decide +kernel
theorem xf_10_7 : ([10, 7, 2] : List Int) = [((10 : Nat) : Int), ((7 : Nat) : Int), mm_ft 10 7] := by decide +kernel
theorem xf_10_8 : ([10, 8, 2] : List Int) = [((10 : Nat) : Int), ((8 : Nat) : Int), mm_ft 10 8] := by decide +kernel
theorem xf_10_9 : ([10, 9, 2] : List Int) = [((10 : Nat) : Int), ((9 : Nat) : Int), mm_ft 10 9] := by decide +kernel
theorem xf_11_0 : ([11, 0, 0] : List Int) = [((11 : Nat) : Int), ((0 : Nat) : Int), mm_ft 11 0] := by decide +kernel
theorem xf_11_1 : ([11, 1, 2] : List Int) = [((11 : Nat) : Int), ((1 : Nat) : Int), mm_ft 11 1] := by decide +kernel
theorem xf_11_10 : ([11, 10, 2] : List Int) = [((11 : Nat) : Int), ((10 : Nat) : Int), mm_ft 11 10] := by decide +kernel
theorem xf_11_11 : ([11, 11, 2] : List Int) = [((11 : Nat) : Int), ((11 : Nat) : Int), mm_ft 11 11] := by decide +kernel
theorem xf_11_12 : ([11, 12, 2] : List Int) = [((11 : Nat) : Int), ((12 : Nat) : Int), mm_ft 11 12] := by decide +kernel
theorem xf_11_13 : ([11, 13, 0] : List Int) = [((11 : Nat) : Int), ((13 : Nat) : Int), mm_ft 11 13] := by decide +kernel
theorem xf_11_14 : ([11, 14, 0] : List Int) = [((11 : Nat) : Int), ((14 : Nat) : Int), mm_ft 11 14] := by decide +kernel
theorem xf_11_15 : ([11, 15, 0] : List Int) = [((11 : Nat) : Int), ((15 : Nat) : Int), mm_ft 11 15] := by decide +kernel
theorem xf_11_16 : ([11, 16, 0] : List Int) = [((11 : Nat) : Int), ((16 : Nat) : Int), mm_ft 11 16] := by decide +kernel
theorem xf_11_17 : ([11, 17, 0] : List Int) = [((11 : Nat) : Int), ((17 : Nat) : Int), mm_ft 11 17] := by decide +kernel
theorem xf_11_18 : ([11, 18, 1] : List Int) = [((11 : Nat) : Int), ((18 : Nat) : Int), mm_ft 11 18] := by decide +kernel
theorem xf_11_19 : ([11, 19, 0] : List Int) = [((11 : Nat) : Int), ((19 : Nat) : Int), mm_ft 11 19] := by decide +kernel
theorem xf_11_2 : ([11, 2, 2] : List Int) = [((11 : Nat) : Int), ((2 : Nat) : Int), mm_ft 11 2] := by decide +kernel
theorem xf_11_20 : ([11, 20, 2] : List Int) = [((11 : Nat) : Int), ((20 : Nat) : Int), mm_ft 11 20] := by decide +kernel
theorem xf_11_21 : ([11, 21, 2] : List Int) = [((11 : Nat) : Int), ((21 : Nat) : Int), mm_ft 11 21] := by decide +kernel
theorem xf_11_22 : ([11, 22, 2] : List Int) = [((11 : Nat) : Int), ((22 : Nat) : Int), mm_ft 11 22] := by decide +kernel
theorem xf_11_23 : ([11, 23, 0] : List Int) = [((11 : Nat) : Int), ((23 : Nat) : Int), mm_ft 11 23] := by decide +kernel
theorem xf_11_24 : ([11, 24, 2] : List Int) = [((11 : Nat) : Int), ((24 : Nat) : Int), mm_ft 11 24] := by decide +kernel
theorem xf_11_25 : ([11, 25, 2] : List Int) = [((11 : Nat) : Int), ((25 : Nat) : Int), mm_ft 11 25] := by decide +kernel
theorem xf_11_26 : ([11, 26, 2] : List Int) = [((11 : Nat) : Int), ((26 : Nat) : Int), mm_ft 11 26] := by decide +kernel
theorem xf_11_27 : ([11, 27, 2] : List Int) = [((11 : Nat) : Int), ((27 : Nat) : Int), mm_ft 11 27] := by decide +kernel
theorem xf_11_28 : ([11, 28, 0] : List Int) = [((11 : Nat) : Int), ((28 : Nat) : Int), mm_ft 11 28] := by decide +kernel
theorem xf_11_29 : ([11, 29, 2] : List Int) = [((11 : Nat) : Int), ((29 : Nat) : Int), mm_ft 11 29] := by decide +kernel
theorem xf_11_3 : ([11, 3, 2] : List Int) = [((11 : Nat) : Int), ((3 : Nat) : Int), mm_ft 11 3] := by decide +kernel
theorem xf_11_30 : ([11, 30, 0] : List Int) = [((11 : Nat) : Int), ((30 : Nat) : Int), mm_ft 11 30] := by decide +kernel
theorem xf_11_31 : ([11, 31, 0] : List Int) = [((11 : Nat) : Int), ((31 : Nat) : Int), mm_ft 11 31] := by decide +kernel
theorem xf_11_32 : ([11, 32, 0] : List Int) = [((11 : Nat) : Int), ((32 : Nat) : Int), mm_ft 11 32] := by decide +kernel
theorem xf_11_33 : ([11, 33, 0] : List Int) = [((11 : Nat) : Int), ((33 : Nat) : Int), mm_ft 11 33] := by decide +kernel
theorem xf_11_34 : ([11, 34, 0] : List Int) = [((11 : Nat) : Int), ((34 : Nat) : Int), mm_ft 11 34] := by decide +kernel
theorem xf_11_35 : ([11, 35, 2] : List Int) = [((11 : Nat) : Int), ((35 : Nat) : Int), mm_ft 11 35] := by decide +kernel
theorem xf_11_36 : ([11, 36, 2] : List Int) = [((11 : Nat) : Int), ((36 : Nat) : Int), mm_ft 11 36] := by decide +kernel
theorem xf_11_37 : ([11, 37, 2] : List Int) = [((11 : Nat) : Int), ((37 : Nat) : Int), mm_ft 11 37] := by decide +kernel
theorem xf_11_38 : ([11, 38, 2] : List Int) = [((11 : Nat) : Int), ((38 : Nat) : Int), mm_ft 11 38] := by decide +kernel
theorem xf_11_39 : ([11, 39, 2] : List Int) = [((11 : Nat) : Int), ((39 : Nat) : Int), mm_ft 11 39] := by decide +kernel
theorem xf_11_4 : ([11, 4, 0] : List Int) = [((11 : Nat) : Int), ((4 : Nat) : Int), mm_ft 11 4] := by decide +kernel
theorem xf_11_40 : ([11, 40, 2] : List Int) = [((11 : Nat) : Int), ((40 : Nat) : Int), mm_ft 11 40] := by decide +kernel
theorem xf_11_41 : ([11, 41, 2] : List Int) = [((11 : Nat) : Int), ((41 : Nat) : Int), mm_ft 11 41] := by decide +kernel
theorem xf_11_42 : ([11, 42, 1] : List Int) = [((11 : Nat) : Int), ((42 : Nat) : Int), mm_ft 11 42] := by decide +kernel
theorem xf_11_43 : ([11, 43, 0] : List Int) = [((11 : Nat) : Int), ((43 : Nat) : Int), mm_ft 11 43] := by decide +kernel
theorem xf_11_44 : ([11, 44, 0] : List Int) = [((11 : Nat) : Int), ((44 : Nat) : Int), mm_ft 11 44] := by decide +kernel
theorem xf_11_45 : ([11, 45, 0] : List Int) = [((11 : Nat) : Int), ((45 : Nat) : Int), mm_ft 11 45] := by decide +kernel
theorem xf_11_46 : ([11, 46, 0] : List Int) = [((11 : Nat) : Int), ((46 : Nat) : Int), mm_ft 11 46] := by decide +kernel
theorem xf_11_5 : ([11, 5, 0] : List Int) = [((11 : Nat) : Int), ((5 : Nat) : Int), mm_ft 11 5] := by decide +kernel
theorem xf_11_6 : ([11, 6, 0] : List Int) = [((11 : Nat) : Int), ((6 : Nat) : Int), mm_ft 11 6] := by decide +kernel
theorem xf_11_7 : ([11, 7, 0] : List Int) = [((11 : Nat) : Int), ((7 : Nat) : Int), mm_ft 11 7] := by decide +kernel
theorem xf_11_8 : ([11, 8, 0] : List Int) = [((11 : Nat) : Int), ((8 : Nat) : Int), mm_ft 11 8] := by decide +kernel
theorem xf_11_9 : ([11, 9, 2] : List Int) = [((11 : Nat) : Int), ((9 : Nat) : Int), mm_ft 11 9] := by decide +kernel
theorem xf_12_0 : ([12, 0, 2] : List Int) = [((12 : Nat) : Int), ((0 : Nat) : Int), mm_ft 12 0] := by decide +kernel
theorem xf_12_1 : ([12, 1, 3] : List Int) = [((12 : Nat) : Int), ((1 : Nat) : Int), mm_ft 12 1] := by decide +kernel
theorem xf_12_2 : ([12, 2, 1] : List Int) = [((12 : Nat) : Int), ((2 : Nat) : Int), mm_ft 12 2] := by decide +kernel
theorem xf_12_3 : ([12, 3, 0] : List Int) = [((12 : Nat) : Int), ((3 : Nat) : Int), mm_ft 12 3] := by decide +kernel
theorem xf_1_0 : ([1, 0, 2] : List Int) = [((1 : Nat) : Int), ((0 : Nat) : Int), mm_ft 1 0] := by decide +kernel
theorem xf_1_1 : ([1, 1, 1] : List Int) = [((1 : Nat) : Int), ((1 : Nat) : Int), mm_ft 1 1] := by decide +kernel
theorem xf_2_0 : ([2, 0, 0] : List Int) = [((2 : Nat) : Int), ((0 : Nat) : Int), mm_ft 2 0] := by decide +kernel
theorem xf_2_1 : ([2, 1, 0] : List Int) = [((2 : Nat) : Int), ((1 : Nat) : Int), mm_ft 2 1] := by decide +kernel
theorem xf_3_0 : ([3, 0, 2] : List Int) = [((3 : Nat) : Int), ((0 : Nat) : Int), mm_ft 3 0] := by decide +kernel
theorem xf_3_1 : ([3, 1, 2] : List Int) = [((3 : Nat) : Int), ((1 : Nat) : Int), mm_ft 3 1] := by decide +kernel
theorem xf_3_2 : ([3, 2, 0] : List Int) = [((3 : Nat) : Int), ((2 : Nat) : Int), mm_ft 3 2] := by decide +kernel
theorem xf_3_3 : ([3, 3, 0] : List Int) = [((3 : Nat) : Int), ((3 : Nat) : Int), mm_ft 3 3] := by decide +kernel
theorem xf_4_0 : ([4, 0, 2] : List Int) = [((4 : Nat) : Int), ((0 : Nat) : Int), mm_ft 4 0] := by decide +kernel
theorem xf_4_1 : ([4, 1, 0] : List Int) = [((4 : Nat) : Int), ((1 : Nat) : Int), mm_ft 4 1] := by decide +kernel
theorem xf_4_2 : ([4, 2, 0] : List Int) = [((4 : Nat) : Int), ((2 : Nat) : Int), mm_ft 4 2] := by decide +kernel
theorem xf_4_3 : ([4, 3, 1] : List Int) = [((4 : Nat) : Int), ((3 : Nat) : Int), mm_ft 4 3] := by decide +kernel
theorem xf_5_0 : ([5, 0, 2] : List Int) = [((5 : Nat) : Int), ((0 : Nat) : Int), mm_ft 5 0] := by decide +kernel
theorem xf_5_1 : ([5, 1, 2] : List Int) = [((5 : Nat) : Int), ((1 : Nat) : Int), mm_ft 5 1] := by decide +kernel
theorem xf_5_2 : ([5, 2, 2] : List Int) = [((5 : Nat) : Int), ((2 : Nat) : Int), mm_ft 5 2] := by decide +kernel
theorem xf_5_3 : ([5, 3, 0] : List Int) = [((5 : Nat) : Int), ((3 : Nat) : Int), mm_ft 5 3] := by decide +kernel
theorem xf_5_4 : ([5, 4, 0] : List Int) = [((5 : Nat) : Int), ((4 : Nat) : Int), mm_ft 5 4] := by decide +kernel
theorem xf_6_0 : ([6, 0, 2] : List Int) = [((6 : Nat) : Int), ((0 : Nat) : Int), mm_ft 6 0] := by decide +kernel
theorem xf_6_1 : ([6, 1, 2] : List Int) = [((6 : Nat) : Int), ((1 : Nat) : Int), mm_ft 6 1] := by decide +kernel
theorem xf_6_10 : ([6, 10, 0] : List Int) = [((6 : Nat) : Int), ((10 : Nat) : Int), mm_ft 6 10] := by decide +kernel
theorem xf_6_11 : ([6, 11, 0] : List Int) = [((6 : Nat) : Int), ((11 : Nat) : Int), mm_ft 6 11] := by decide +kernel
theorem xf_6_12 : ([6, 12, 1] : List Int) = [((6 : Nat) : Int), ((12 : Nat) : Int), mm_ft 6 12] := by decide +kernel
theorem xf_6_2 : ([6, 2, 2] : List Int) = [((6 : Nat) : Int), ((2 : Nat) : Int), mm_ft 6 2] := by decide +kernel
theorem xf_6_3 : ([6, 3, 2] : List Int) = [((6 : Nat) : Int), ((3 : Nat) : Int), mm_ft 6 3] := by decide +kernel
theorem xf_6_4 : ([6, 4, 2] : List Int) = [((6 : Nat) : Int), ((4 : Nat) : Int), mm_ft 6 4] := by decide +kernel
theorem xf_6_5 : ([6, 5, 0] : List Int) = [((6 : Nat) : Int), ((5 : Nat) : Int), mm_ft 6 5] := by decide +kernel
theorem xf_6_6 : ([6, 6, 0] : List Int) = [((6 : Nat) : Int), ((6 : Nat) : Int), mm_ft 6 6] := by decide +kernel
theorem xf_6_7 : ([6, 7, 0] : List Int) = [((6 : Nat) : Int), ((7 : Nat) : Int), mm_ft 6 7] := by decide +kernel
theorem xf_6_8 : ([6, 8, 0] : List Int) = [((6 : Nat) : Int), ((8 : Nat) : Int), mm_ft 6 8] := by decide +kernel
theorem xf_6_9 : ([6, 9, 0] : List Int) = [((6 : Nat) : Int), ((9 : Nat) : Int), mm_ft 6 9] := by decide +kernel
theorem xf_7_0 : ([7, 0, 0] : List Int) = [((7 : Nat) : Int), ((0 : Nat) : Int), mm_ft 7 0] := by decide +kernel
theorem xf_7_1 : ([7, 1, 0] : List Int) = [((7 : Nat) : Int), ((1 : Nat) : Int), mm_ft 7 1] := by decide +kernel
theorem xf_7_2 : ([7, 2, 0] : List Int) = [((7 : Nat) : Int), ((2 : Nat) : Int), mm_ft 7 2] := by decide +kernel
theorem xf_7_3 : ([7, 3, 0] : List Int) = [((7 : Nat) : Int), ((3 : Nat) : Int), mm_ft 7 3] := by decide +kernel
theorem xf_7_4 : ([7, 4, 0] : List Int) = [((7 : Nat) : Int), ((4 : Nat) : Int), mm_ft 7 4] := by decide +kernel
theorem xf_7_5 : ([7, 5, 0] : List Int) = [((7 : Nat) : Int), ((5 : Nat) : Int), mm_ft 7 5] := by decide +kernel
theorem xf_7_6 : ([7, 6, 0] : List Int) = [((7 : Nat) : Int), ((6 : Nat) : Int), mm_ft 7 6] := by decide +kernel
theorem xf_7_7 : ([7, 7, 0] : List Int) = [((7 : Nat) : Int), ((7 : Nat) : Int), mm_ft 7 7] := by decide +kernel
theorem xf_7_8 : ([7, 8, 0] : List Int) = [((7 : Nat) : Int), ((8 : Nat) : Int), mm_ft 7 8] := by decide +kernel
theorem xf_7_9 : ([7, 9, 1] : List Int) = [((7 : Nat) : Int), ((9 : Nat) : Int), mm_ft 7 9] := by decide +kernel
theorem xf_8_0 : ([8, 0, 2] : List Int) = [((8 : Nat) : Int), ((0 : Nat) : Int), mm_ft 8 0] := by decide +kernel
theorem xf_8_1 : ([8, 1, 2] : List Int) = [((8 : Nat) : Int), ((1 : Nat) : Int), mm_ft 8 1] := by decide +kernel
theorem xf_8_10 : ([8, 10, 0] : List Int) = [((8 : Nat) : Int), ((10 : Nat) : Int), mm_ft 8 10] := by decide +kernel
theorem xf_8_11 : ([8, 11, 0] : List Int) = [((8 : Nat) : Int), ((11 : Nat) : Int), mm_ft 8 11] := by decide +kernel
theorem xf_8_12 : ([8, 12, 0] : List Int) = [((8 : Nat) : Int), ((12 : Nat) : Int), mm_ft 8 12] := by decide +kernel
theorem xf_8_2 : ([8, 2, 0] : List Int) = [((8 : Nat) : Int), ((2 : Nat) : Int), mm_ft 8 2] := by decide +kernel
theorem xf_8_3 : ([8, 3, 0] : List Int) = [((8 : Nat) : Int), ((3 : Nat) : Int), mm_ft 8 3] := by decide +kernel
theorem xf_8_4 : ([8, 4, 0] : List Int) = [((8 : Nat) : Int), ((4 : Nat) : Int), mm_ft 8 4] := by decide +kernel
theorem xf_8_5 : ([8, 5, 0] : List Int) = [((8 : Nat) : Int), ((5 : Nat) : Int), mm_ft 8 5] := by decide +kernel
theorem xf_8_6 : ([8, 6, 0] : List Int) = [((8 : Nat) : Int), ((6 : Nat) : Int), mm_ft 8 6] := by decide +kernel
theorem xf_8_7 : ([8, 7, 0] : List Int) = [((8 : Nat) : Int), ((7 : Nat) : Int), mm_ft 8 7] := by decide +kernel
theorem xf_8_8 : ([8, 8, 0] : List Int) = [((8 : Nat) : Int), ((8 : Nat) : Int), mm_ft 8 8] := by decide +kernel
theorem xf_8_9 : ([8, 9, 0] : List Int) = [((8 : Nat) : Int), ((9 : Nat) : Int), mm_ft 8 9] := by decide +kernel
theorem xf_9_0 : ([9, 0, 2] : List Int) = [((9 : Nat) : Int), ((0 : Nat) : Int), mm_ft 9 0] := by decide +kernel
theorem xf_9_1 : ([9, 1, 2] : List Int) = [((9 : Nat) : Int), ((1 : Nat) : Int), mm_ft 9 1] := by decide +kernel
theorem xf_9_2 : ([9, 2, 0] : List Int) = [((9 : Nat) : Int), ((2 : Nat) : Int), mm_ft 9 2] := by decide +kernel
theorem xf_9_3 : ([9, 3, 0] : List Int) = [((9 : Nat) : Int), ((3 : Nat) : Int), mm_ft 9 3] := by decide +kernel
theorem lp_0_9 (nm : String) (h : nm = "<init>") : mm_lp "ScreenTalk$Bytes" nm 9 0 0 := ⟨(RX0, TX0, 2), rfl, by decide, Or.inr ⟨rfl, rfl, rfl, h, wi_128⟩⟩
theorem lp_0_15 (nm : String) : mm_lp "ScreenTalk$Bytes" nm 15 0 1 := ⟨(RX0, TX0, 2), rfl, by decide, Or.inl ⟨rfl, Or.inl wi_129⟩⟩
theorem lf_0_15 : mm_lf "ScreenTalk$Bytes" 15 0 1 := ⟨(RX0, TX0, 2), rfl, by decide, Or.inl wi_129⟩
theorem lf_0_9 : mm_lf "ScreenTalk$Bytes" 9 0 0 := ⟨(RX0, TX0, 2), rfl, by decide, Or.inl wi_128⟩
theorem lm_0_34 : mm_lm "ScreenTalk$Bytes" 34 3 := Or.inl wi_572
theorem lp_1_9 (nm : String) (h : nm = "<init>") : mm_lp "ScreenTalk$Forge" nm 9 1 0 := ⟨(RX1, TX1, 2), rfl, by decide, Or.inr ⟨rfl, rfl, rfl, h, wi_326⟩⟩
theorem lf_1_9 : mm_lf "ScreenTalk$Forge" 9 1 0 := ⟨(RX1, TX1, 2), rfl, by decide, Or.inl wi_326⟩
theorem lm_1_15 : mm_lm "ScreenTalk$Forge" 15 263 := Or.inl wi_734
theorem lp_1_21 (nm : String) : mm_lp "ScreenTalk$Forge" nm 21 1 1 := ⟨(RX1, TX1, 2), rfl, by decide, Or.inl ⟨rfl, Or.inl wi_327⟩⟩
theorem lm_1_25 : mm_lm "ScreenTalk$Forge" 25 147 := Or.inr ⟨"ScreenTalk", wi_735⟩
theorem lf_1_29 : mm_lf "ScreenTalk$Forge" 29 6 0 := ⟨(RX6, TX6, 13), rfl, by decide, Or.inr ⟨"ScreenTalk", wi_210⟩⟩
theorem lm_1_35 : mm_lm "ScreenTalk$Forge" 35 3 := Or.inl wi_736
theorem lm_1_40 : mm_lm "ScreenTalk$Forge" 40 31 := Or.inl wi_737
theorem lf_1_45 : mm_lf "ScreenTalk$Forge" 45 4 0 := ⟨(RX4, TX4, 4), rfl, by decide, Or.inr ⟨"ScreenTalk", wi_282⟩⟩
theorem lm_1_51 : mm_lm "ScreenTalk$Forge" 51 10 := Or.inl wi_741
theorem lf_1_55 : mm_lf "ScreenTalk$Forge" 55 5 4 := ⟨(RX5, TX5, 5), rfl, by decide, Or.inr ⟨"ScreenTalk", wi_308⟩⟩
theorem lm_1_59 : mm_lm "ScreenTalk$Forge" 59 11 := Or.inl wi_758
theorem lm_1_63 : mm_lm "ScreenTalk$Forge" 63 12 := Or.inl wi_766
theorem lm_1_66 : mm_lm "ScreenTalk$Forge" 66 13 := Or.inl wi_774
theorem lm_1_69 : mm_lm "ScreenTalk$Forge" 69 69 := Or.inl wi_745
theorem lm_1_75 : mm_lm "ScreenTalk$Forge" 75 61 := Or.inl wi_750
theorem lm_1_78 : mm_lm "ScreenTalk$Forge" 78 9 := Or.inl wi_754
theorem lf_1_82 : mm_lf "ScreenTalk$Forge" 82 6 9 := ⟨(RX6, TX6, 13), rfl, by decide, Or.inr ⟨"ScreenTalk", wi_228⟩⟩
theorem lm_1_85 : mm_lm "ScreenTalk$Forge" 85 54 := Or.inl wi_762
theorem lf_1_88 : mm_lf "ScreenTalk$Forge" 88 6 12 := ⟨(RX6, TX6, 13), rfl, by decide, Or.inr ⟨"ScreenTalk", wi_236⟩⟩
theorem lm_1_91 : mm_lm "ScreenTalk$Forge" 91 56 := Or.inl wi_770
theorem lp_2_9 (nm : String) : mm_lp "ScreenTalk$Inspection" nm 9 2 1 := ⟨(RX2, TX2, 2), rfl, by decide, Or.inl ⟨rfl, Or.inl wi_147⟩⟩
theorem lp_2_15 (nm : String) : mm_lp "ScreenTalk$Inspection" nm 15 2 0 := ⟨(RX2, TX2, 2), rfl, by decide, Or.inl ⟨rfl, Or.inl wi_145⟩⟩
theorem lf_2_18 : mm_lf "ScreenTalk$Inspection" 18 0 1 := ⟨(RX0, TX0, 2), rfl, by decide, Or.inr ⟨"ScreenTalk", wi_132⟩⟩
theorem lm_2_23 : mm_lm "ScreenTalk$Inspection" 23 16 := Or.inl wi_553
theorem lm_2_27 : mm_lm "ScreenTalk$Inspection" 27 17 := Or.inl wi_557
theorem lm_2_31 : mm_lm "ScreenTalk$Inspection" 31 5 := Or.inl wi_568
theorem lm_2_35 : mm_lm "ScreenTalk$Inspection" 35 3 := Or.inl wi_561
theorem lm_2_38 : mm_lm "ScreenTalk$Inspection" 38 18 := Or.inl wi_573
theorem lf_2_15 : mm_lf "ScreenTalk$Inspection" 15 2 0 := ⟨(RX2, TX2, 2), rfl, by decide, Or.inl wi_145⟩
theorem lm_2_41 : mm_lm "ScreenTalk$Inspection" 41 147 := Or.inr ⟨"ScreenTalk", wi_565⟩
theorem lp_3_11 (nm : String) (h : nm = "<init>") : mm_lp "ScreenTalk$Journal" nm 11 3 0 := ⟨(RX3, TX3, 4), rfl, by decide, Or.inr ⟨rfl, rfl, rfl, h, wi_462⟩⟩
theorem lp_3_15 (nm : String) (h : nm = "<init>") : mm_lp "ScreenTalk$Journal" nm 15 3 1 := ⟨(RX3, TX3, 4), rfl, by decide, Or.inr ⟨rfl, rfl, rfl, h, wi_463⟩⟩
theorem lp_3_18 (nm : String) : mm_lp "ScreenTalk$Journal" nm 18 3 2 := ⟨(RX3, TX3, 4), rfl, by decide, Or.inl ⟨rfl, Or.inl wi_464⟩⟩
theorem lp_3_22 (nm : String) : mm_lp "ScreenTalk$Journal" nm 22 3 3 := ⟨(RX3, TX3, 4), rfl, by decide, Or.inl ⟨rfl, Or.inl wi_466⟩⟩
theorem lf_3_25 : mm_lf "ScreenTalk$Journal" 25 8 2 := ⟨(RX8, TX8, 13), rfl, by decide, Or.inr ⟨"ScreenTalk", wi_408⟩⟩
theorem lm_3_30 : mm_lm "ScreenTalk$Journal" 30 23 := Or.inl wi_1138
theorem lf_3_34 : mm_lf "ScreenTalk$Journal" 34 8 3 := ⟨(RX8, TX8, 13), rfl, by decide, Or.inr ⟨"ScreenTalk", wi_411⟩⟩
theorem lf_3_37 : mm_lf "ScreenTalk$Journal" 37 8 4 := ⟨(RX8, TX8, 13), rfl, by decide, Or.inr ⟨"ScreenTalk", wi_414⟩⟩
theorem lf_3_40 : mm_lf "ScreenTalk$Journal" 40 8 0 := ⟨(RX8, TX8, 13), rfl, by decide, Or.inr ⟨"ScreenTalk", wi_402⟩⟩
theorem lm_3_43 : mm_lm "ScreenTalk$Journal" 43 24 := Or.inl wi_1142
theorem lf_3_47 : mm_lf "ScreenTalk$Journal" 47 8 1 := ⟨(RX8, TX8, 13), rfl, by decide, Or.inr ⟨"ScreenTalk", wi_405⟩⟩
theorem lm_3_50 : mm_lm "ScreenTalk$Journal" 50 80 := Or.inl wi_1145
theorem lf_3_22 : mm_lf "ScreenTalk$Journal" 22 3 3 := ⟨(RX3, TX3, 4), rfl, by decide, Or.inl wi_466⟩
theorem lf_3_15 : mm_lf "ScreenTalk$Journal" 15 3 1 := ⟨(RX3, TX3, 4), rfl, by decide, Or.inl wi_463⟩
theorem lf_3_18 : mm_lf "ScreenTalk$Journal" 18 3 2 := ⟨(RX3, TX3, 4), rfl, by decide, Or.inl wi_464⟩
theorem lf_3_11 : mm_lf "ScreenTalk$Journal" 11 3 0 := ⟨(RX3, TX3, 4), rfl, by decide, Or.inl wi_462⟩
theorem lm_3_54 : mm_lm "ScreenTalk$Journal" 54 25 := Or.inl wi_1224
theorem lm_4_9 : mm_lm "ScreenTalk$Mode" 9 59 := Or.inr ⟨"ScreenTalk", wi_280⟩
theorem lp_4_10 (nm : String) (h : nm = "<init>") : mm_lp "ScreenTalk$Mode" nm 10 4 0 := ⟨(RX4, TX4, 4), rfl, by decide, Or.inr ⟨rfl, rfl, rfl, h, wi_281⟩⟩
theorem lf_4_10 : mm_lf "ScreenTalk$Mode" 10 4 0 := ⟨(RX4, TX4, 4), rfl, by decide, Or.inl wi_281⟩
theorem lf_4_16 : mm_lf "ScreenTalk$Mode" 16 7 1 := ⟨(RX7, TX7, 10), rfl, by decide, Or.inr ⟨"ScreenTalk", wi_172⟩⟩
theorem lf_4_20 : mm_lf "ScreenTalk$Mode" 20 7 5 := ⟨(RX7, TX7, 10), rfl, by decide, Or.inr ⟨"ScreenTalk", wi_179⟩⟩
theorem lf_4_23 : mm_lf "ScreenTalk$Mode" 23 4 1 := ⟨(RX4, TX4, 4), rfl, by decide, Or.inl wi_285⟩
theorem lf_4_26 : mm_lf "ScreenTalk$Mode" 26 4 3 := ⟨(RX4, TX4, 4), rfl, by decide, Or.inl wi_290⟩
theorem lp_5_11 (nm : String) (h : nm = "<init>") : mm_lp "ScreenTalk$ModeList" nm 11 5 0 := ⟨(RX5, TX5, 5), rfl, by decide, Or.inr ⟨rfl, rfl, rfl, h, wi_302⟩⟩
theorem lp_5_17 (nm : String) (h : nm = "<init>") : mm_lp "ScreenTalk$ModeList" nm 17 5 1 := ⟨(RX5, TX5, 5), rfl, by decide, Or.inr ⟨rfl, rfl, rfl, h, wi_303⟩⟩
theorem lm_5_23 : mm_lm "ScreenTalk$ModeList" 23 59 := Or.inr ⟨"ScreenTalk", wi_273⟩
theorem lp_5_24 (nm : String) (h : nm = "<init>") : mm_lp "ScreenTalk$ModeList" nm 24 5 2 := ⟨(RX5, TX5, 5), rfl, by decide, Or.inr ⟨rfl, rfl, rfl, h, wi_304⟩⟩
theorem lf_5_11 : mm_lf "ScreenTalk$ModeList" 11 5 0 := ⟨(RX5, TX5, 5), rfl, by decide, Or.inl wi_302⟩
theorem lm_5_28 : mm_lm "ScreenTalk$ModeList" 28 27 := Or.inr ⟨"ScreenTalk", wi_275⟩
theorem lf_5_29 : mm_lf "ScreenTalk$ModeList" 29 5 4 := ⟨(RX5, TX5, 5), rfl, by decide, Or.inl wi_306⟩
theorem lf_5_17 : mm_lf "ScreenTalk$ModeList" 17 5 1 := ⟨(RX5, TX5, 5), rfl, by decide, Or.inl wi_303⟩
theorem lm_5_33 : mm_lm "ScreenTalk$ModeList" 33 28 := Or.inl wi_678
theorem lp_5_29 (nm : String) : mm_lp "ScreenTalk$ModeList" nm 29 5 4 := ⟨(RX5, TX5, 5), rfl, by decide, Or.inl ⟨rfl, Or.inl wi_306⟩⟩
theorem lm_5_37 : mm_lm "ScreenTalk$ModeList" 37 263 := Or.inl wi_628
theorem lm_5_43 : mm_lm "ScreenTalk$ModeList" 43 45 := Or.inr ⟨"ScreenTalk", wi_631⟩
theorem lf_5_49 : mm_lf "ScreenTalk$ModeList" 49 6 6 := ⟨(RX6, TX6, 13), rfl, by decide, Or.inr ⟨"ScreenTalk", wi_220⟩⟩
theorem lm_5_52 : mm_lm "ScreenTalk$ModeList" 52 52 := Or.inl wi_632
theorem lf_5_24 : mm_lf "ScreenTalk$ModeList" 24 5 2 := ⟨(RX5, TX5, 5), rfl, by decide, Or.inl wi_304⟩
theorem lm_5_56 : mm_lm "ScreenTalk$ModeList" 56 65 := Or.inl wi_636
theorem lf_5_60 : mm_lf "ScreenTalk$ModeList" 60 6 7 := ⟨(RX6, TX6, 13), rfl, by decide, Or.inr ⟨"ScreenTalk", wi_223⟩⟩
theorem lm_5_63 : mm_lm "ScreenTalk$ModeList" 63 38 := Or.inl wi_640
theorem lf_5_67 : mm_lf "ScreenTalk$ModeList" 67 6 8 := ⟨(RX6, TX6, 13), rfl, by decide, Or.inr ⟨"ScreenTalk", wi_225⟩⟩
theorem lm_5_70 : mm_lm "ScreenTalk$ModeList" 70 53 := Or.inl wi_690
theorem lm_5_74 : mm_lm "ScreenTalk$ModeList" 74 35 := Or.inl wi_694
theorem lf_5_78 : mm_lf "ScreenTalk$ModeList" 78 6 0 := ⟨(RX6, TX6, 13), rfl, by decide, Or.inr ⟨"ScreenTalk", wi_211⟩⟩
theorem lm_5_82 : mm_lm "ScreenTalk$ModeList" 82 3 := Or.inl wi_705
theorem lm_5_87 : mm_lm "ScreenTalk$ModeList" 87 36 := Or.inl wi_706
theorem ls_5_91 : mm_ls "ScreenTalk$ModeList" 91 2 3 := ⟨("ScreenTalk", "ESTABLISHED_ROWS", "[I", 2, 3), List.mem_of_getElem? (i := 2) rfl, rfl, rfl, Or.inr ⟨"ScreenTalk", wi_728⟩⟩
theorem lm_5_94 : mm_lm "ScreenTalk$ModeList" 94 62 := Or.inl wi_713
theorem ls_5_98 : mm_ls "ScreenTalk$ModeList" 98 2 2 := ⟨("ScreenTalk", "CODE_ROWS", "[I", 2, 2), List.mem_of_getElem? (i := 1) rfl, rfl, rfl, Or.inr ⟨"ScreenTalk", wi_698⟩⟩
theorem lm_5_101 : mm_lm "ScreenTalk$ModeList" 101 66 := Or.inl wi_700
theorem lm_5_105 : mm_lm "ScreenTalk$ModeList" 105 37 := Or.inl wi_710
theorem lm_5_109 : mm_lm "ScreenTalk$ModeList" 109 73 := Or.inl wi_644
theorem lp_5_113 (nm : String) : mm_lp "ScreenTalk$ModeList" nm 113 5 3 := ⟨(RX5, TX5, 5), rfl, by decide, Or.inl ⟨rfl, Or.inl wi_305⟩⟩
theorem lm_5_116 : mm_lm "ScreenTalk$ModeList" 116 39 := Or.inl wi_654
theorem lm_5_120 : mm_lm "ScreenTalk$ModeList" 120 40 := Or.inl wi_682
theorem lm_5_124 : mm_lm "ScreenTalk$ModeList" 124 68 := Or.inl wi_658
theorem lf_5_128 : mm_lf "ScreenTalk$ModeList" 128 7 9 := ⟨(RX7, TX7, 10), rfl, by decide, Or.inr ⟨"ScreenTalk", wi_187⟩⟩
theorem lf_5_113 : mm_lf "ScreenTalk$ModeList" 113 5 3 := ⟨(RX5, TX5, 5), rfl, by decide, Or.inl wi_305⟩
theorem lm_5_132 : mm_lm "ScreenTalk$ModeList" 132 75 := Or.inl wi_662
theorem lf_5_135 : mm_lf "ScreenTalk$ModeList" 135 7 0 := ⟨(RX7, TX7, 10), rfl, by decide, Or.inr ⟨"ScreenTalk", wi_170⟩⟩
theorem lm_5_138 : mm_lm "ScreenTalk$ModeList" 138 58 := Or.inl wi_670
theorem lf_5_141 : mm_lf "ScreenTalk$ModeList" 141 6 11 := ⟨(RX6, TX6, 13), rfl, by decide, Or.inr ⟨"ScreenTalk", wi_234⟩⟩
theorem lf_5_144 : mm_lf "ScreenTalk$ModeList" 144 7 1 := ⟨(RX7, TX7, 10), rfl, by decide, Or.inr ⟨"ScreenTalk", wi_174⟩⟩
theorem lf_5_147 : mm_lf "ScreenTalk$ModeList" 147 7 5 := ⟨(RX7, TX7, 10), rfl, by decide, Or.inr ⟨"ScreenTalk", wi_181⟩⟩
theorem lm_5_150 : mm_lm "ScreenTalk$ModeList" 150 33 := Or.inl wi_674
theorem lf_5_154 : mm_lf "ScreenTalk$ModeList" 154 4 0 := ⟨(RX4, TX4, 4), rfl, by decide, Or.inr ⟨"ScreenTalk", wi_283⟩⟩
theorem lp_5_157 (nm : String) : mm_lp "ScreenTalk$ModeList" nm 157 4 1 := ⟨(RX4, TX4, 4), rfl, by decide, Or.inl ⟨rfl, Or.inr ⟨"ScreenTalk", wi_286⟩⟩⟩
theorem lp_5_160 (nm : String) : mm_lp "ScreenTalk$ModeList" nm 160 4 2 := ⟨(RX4, TX4, 4), rfl, by decide, Or.inl ⟨rfl, Or.inr ⟨"ScreenTalk", wi_288⟩⟩⟩
theorem lp_5_163 (nm : String) : mm_lp "ScreenTalk$ModeList" nm 163 4 3 := ⟨(RX4, TX4, 4), rfl, by decide, Or.inl ⟨rfl, Or.inr ⟨"ScreenTalk", wi_291⟩⟩⟩
theorem lm_5_166 : mm_lm "ScreenTalk$ModeList" 166 29 := Or.inl wi_686
theorem lm_6_11 : mm_lm "ScreenTalk$Screen" 11 0 := Or.inr ⟨"ScreenTalk", wi_161⟩
theorem lp_6_12 (nm : String) (h : nm = "<init>") : mm_lp "ScreenTalk$Screen" nm 12 6 0 := ⟨(RX6, TX6, 13), rfl, by decide, Or.inr ⟨rfl, rfl, rfl, h, wi_209⟩⟩
theorem lp_6_20 (nm : String) (h : nm = "<init>") : mm_lp "ScreenTalk$Screen" nm 20 6 1 := ⟨(RX6, TX6, 13), rfl, by decide, Or.inr ⟨rfl, rfl, rfl, h, wi_213⟩⟩
theorem lp_6_24 (nm : String) (h : nm = "<init>") : mm_lp "ScreenTalk$Screen" nm 24 6 2 := ⟨(RX6, TX6, 13), rfl, by decide, Or.inr ⟨rfl, rfl, rfl, h, wi_214⟩⟩
theorem lp_6_28 (nm : String) (h : nm = "<init>") : mm_lp "ScreenTalk$Screen" nm 28 6 3 := ⟨(RX6, TX6, 13), rfl, by decide, Or.inr ⟨rfl, rfl, rfl, h, wi_215⟩⟩
theorem lp_6_31 (nm : String) (h : nm = "<init>") : mm_lp "ScreenTalk$Screen" nm 31 6 4 := ⟨(RX6, TX6, 13), rfl, by decide, Or.inr ⟨rfl, rfl, rfl, h, wi_216⟩⟩
theorem lf_6_20 : mm_lf "ScreenTalk$Screen" 20 6 1 := ⟨(RX6, TX6, 13), rfl, by decide, Or.inl wi_213⟩
theorem lm_6_34 : mm_lm "ScreenTalk$Screen" 34 59 := Or.inr ⟨"ScreenTalk", wi_165⟩
theorem lf_6_12 : mm_lf "ScreenTalk$Screen" 12 6 0 := ⟨(RX6, TX6, 13), rfl, by decide, Or.inl wi_209⟩
theorem lf_6_35 : mm_lf "ScreenTalk$Screen" 35 0 1 := ⟨(RX0, TX0, 2), rfl, by decide, Or.inr ⟨"ScreenTalk", wi_131⟩⟩
theorem lm_6_39 : mm_lm "ScreenTalk$Screen" 39 4 := Or.inl wi_581
theorem lp_6_43 (nm : String) : mm_lp "ScreenTalk$Screen" nm 43 6 5 := ⟨(RX6, TX6, 13), rfl, by decide, Or.inl ⟨rfl, Or.inl wi_217⟩⟩
theorem lp_6_46 (nm : String) : mm_lp "ScreenTalk$Screen" nm 46 6 6 := ⟨(RX6, TX6, 13), rfl, by decide, Or.inl ⟨rfl, Or.inl wi_219⟩⟩
theorem lp_6_49 (nm : String) : mm_lp "ScreenTalk$Screen" nm 49 6 8 := ⟨(RX6, TX6, 13), rfl, by decide, Or.inl ⟨rfl, Or.inl wi_224⟩⟩
theorem lp_6_52 (nm : String) : mm_lp "ScreenTalk$Screen" nm 52 6 9 := ⟨(RX6, TX6, 13), rfl, by decide, Or.inl ⟨rfl, Or.inl wi_227⟩⟩
theorem lp_6_55 (nm : String) : mm_lp "ScreenTalk$Screen" nm 55 6 10 := ⟨(RX6, TX6, 13), rfl, by decide, Or.inl ⟨rfl, Or.inl wi_230⟩⟩
theorem lp_6_58 (nm : String) : mm_lp "ScreenTalk$Screen" nm 58 6 11 := ⟨(RX6, TX6, 13), rfl, by decide, Or.inl ⟨rfl, Or.inl wi_232⟩⟩
theorem lp_6_61 (nm : String) : mm_lp "ScreenTalk$Screen" nm 61 6 12 := ⟨(RX6, TX6, 13), rfl, by decide, Or.inl ⟨rfl, Or.inl wi_235⟩⟩
theorem lm_6_65 : mm_lm "ScreenTalk$Screen" 65 43 := Or.inl wi_582
theorem lf_6_46 : mm_lf "ScreenTalk$Screen" 46 6 6 := ⟨(RX6, TX6, 13), rfl, by decide, Or.inl wi_219⟩
theorem lp_6_69 (nm : String) : mm_lp "ScreenTalk$Screen" nm 69 6 7 := ⟨(RX6, TX6, 13), rfl, by decide, Or.inl ⟨rfl, Or.inl wi_222⟩⟩
theorem lf_6_43 : mm_lf "ScreenTalk$Screen" 43 6 5 := ⟨(RX6, TX6, 13), rfl, by decide, Or.inl wi_217⟩
theorem lm_6_72 : mm_lm "ScreenTalk$Screen" 72 3 := Or.inl wi_590
theorem lm_6_76 : mm_lm "ScreenTalk$Screen" 76 48 := Or.inl wi_608
theorem lm_6_80 : mm_lm "ScreenTalk$Screen" 80 51 := Or.inl wi_620
theorem lm_6_83 : mm_lm "ScreenTalk$Screen" 83 45 := Or.inl wi_586
theorem lm_6_87 : mm_lm "ScreenTalk$Screen" 87 46 := Or.inl wi_591
theorem lm_6_90 : mm_lm "ScreenTalk$Screen" 90 47 := Or.inl wi_600
theorem lm_6_93 : mm_lm "ScreenTalk$Screen" 93 44 := Or.inl wi_604
theorem lf_6_31 : mm_lf "ScreenTalk$Screen" 31 6 4 := ⟨(RX6, TX6, 13), rfl, by decide, Or.inl wi_216⟩
theorem lm_6_96 : mm_lm "ScreenTalk$Screen" 96 60 := Or.inl wi_595
theorem lf_6_28 : mm_lf "ScreenTalk$Screen" 28 6 3 := ⟨(RX6, TX6, 13), rfl, by decide, Or.inl wi_215⟩
theorem lf_6_55 : mm_lf "ScreenTalk$Screen" 55 6 10 := ⟨(RX6, TX6, 13), rfl, by decide, Or.inl wi_230⟩
theorem lm_6_99 : mm_lm "ScreenTalk$Screen" 99 49 := Or.inl wi_612
theorem lm_6_102 : mm_lm "ScreenTalk$Screen" 102 50 := Or.inl wi_616
theorem lf_6_49 : mm_lf "ScreenTalk$Screen" 49 6 8 := ⟨(RX6, TX6, 13), rfl, by decide, Or.inl wi_224⟩
theorem lf_6_24 : mm_lf "ScreenTalk$Screen" 24 6 2 := ⟨(RX6, TX6, 13), rfl, by decide, Or.inl wi_214⟩
theorem lf_6_52 : mm_lf "ScreenTalk$Screen" 52 6 9 := ⟨(RX6, TX6, 13), rfl, by decide, Or.inl wi_227⟩
theorem lf_6_61 : mm_lf "ScreenTalk$Screen" 61 6 12 := ⟨(RX6, TX6, 13), rfl, by decide, Or.inl wi_235⟩
theorem lm_6_105 : mm_lm "ScreenTalk$Screen" 105 56 := Or.inl wi_800
theorem lm_7_9 : mm_lm "ScreenTalk$Timing" 9 3 := Or.inl wi_599
theorem lp_7_15 (nm : String) : mm_lp "ScreenTalk$Timing" nm 15 7 0 := ⟨(RX7, TX7, 10), rfl, by decide, Or.inl ⟨rfl, Or.inl wi_169⟩⟩
theorem lp_7_21 (nm : String) : mm_lp "ScreenTalk$Timing" nm 21 7 1 := ⟨(RX7, TX7, 10), rfl, by decide, Or.inl ⟨rfl, Or.inl wi_173⟩⟩
theorem lp_7_24 (nm : String) : mm_lp "ScreenTalk$Timing" nm 24 7 2 := ⟨(RX7, TX7, 10), rfl, by decide, Or.inl ⟨rfl, Or.inl wi_176⟩⟩
theorem lp_7_27 (nm : String) : mm_lp "ScreenTalk$Timing" nm 27 7 5 := ⟨(RX7, TX7, 10), rfl, by decide, Or.inl ⟨rfl, Or.inl wi_180⟩⟩
theorem lp_7_30 (nm : String) : mm_lp "ScreenTalk$Timing" nm 30 7 6 := ⟨(RX7, TX7, 10), rfl, by decide, Or.inl ⟨rfl, Or.inl wi_183⟩⟩
theorem lp_7_33 (nm : String) : mm_lp "ScreenTalk$Timing" nm 33 7 3 := ⟨(RX7, TX7, 10), rfl, by decide, Or.inl ⟨rfl, Or.inl wi_177⟩⟩
theorem lp_7_36 (nm : String) : mm_lp "ScreenTalk$Timing" nm 36 7 4 := ⟨(RX7, TX7, 10), rfl, by decide, Or.inl ⟨rfl, Or.inl wi_178⟩⟩
theorem lp_7_39 (nm : String) : mm_lp "ScreenTalk$Timing" nm 39 7 7 := ⟨(RX7, TX7, 10), rfl, by decide, Or.inl ⟨rfl, Or.inl wi_184⟩⟩
theorem lp_7_42 (nm : String) : mm_lp "ScreenTalk$Timing" nm 42 7 8 := ⟨(RX7, TX7, 10), rfl, by decide, Or.inl ⟨rfl, Or.inl wi_185⟩⟩
theorem lp_7_45 (nm : String) : mm_lp "ScreenTalk$Timing" nm 45 7 9 := ⟨(RX7, TX7, 10), rfl, by decide, Or.inl ⟨rfl, Or.inl wi_186⟩⟩
theorem lf_7_15 : mm_lf "ScreenTalk$Timing" 15 7 0 := ⟨(RX7, TX7, 10), rfl, by decide, Or.inl wi_169⟩
theorem lf_7_21 : mm_lf "ScreenTalk$Timing" 21 7 1 := ⟨(RX7, TX7, 10), rfl, by decide, Or.inl wi_173⟩
theorem lf_7_24 : mm_lf "ScreenTalk$Timing" 24 7 2 := ⟨(RX7, TX7, 10), rfl, by decide, Or.inl wi_176⟩
theorem lf_7_27 : mm_lf "ScreenTalk$Timing" 27 7 5 := ⟨(RX7, TX7, 10), rfl, by decide, Or.inl wi_180⟩
theorem lf_7_30 : mm_lf "ScreenTalk$Timing" 30 7 6 := ⟨(RX7, TX7, 10), rfl, by decide, Or.inl wi_183⟩
theorem lf_7_33 : mm_lf "ScreenTalk$Timing" 33 7 3 := ⟨(RX7, TX7, 10), rfl, by decide, Or.inl wi_177⟩
theorem lf_7_36 : mm_lf "ScreenTalk$Timing" 36 7 4 := ⟨(RX7, TX7, 10), rfl, by decide, Or.inl wi_178⟩
theorem lf_7_39 : mm_lf "ScreenTalk$Timing" 39 7 7 := ⟨(RX7, TX7, 10), rfl, by decide, Or.inl wi_184⟩
theorem lf_7_42 : mm_lf "ScreenTalk$Timing" 42 7 8 := ⟨(RX7, TX7, 10), rfl, by decide, Or.inl wi_185⟩
theorem lm_7_49 : mm_lm "ScreenTalk$Timing" 49 63 := Or.inl wi_717
theorem lm_7_53 : mm_lm "ScreenTalk$Timing" 53 64 := Or.inl wi_722
theorem lm_7_61 : mm_lm "ScreenTalk$Timing" 61 72 := Or.inl wi_648
theorem lf_7_45 : mm_lf "ScreenTalk$Timing" 45 7 9 := ⟨(RX7, TX7, 10), rfl, by decide, Or.inl wi_186⟩
theorem ls_7_73 : mm_ls "ScreenTalk$Timing" 73 2 2 := ⟨("ScreenTalk", "CODE_ROWS", "[I", 2, 2), List.mem_of_getElem? (i := 1) rfl, rfl, rfl, Or.inr ⟨"ScreenTalk", wi_704⟩⟩
theorem lm_7_77 : mm_lm "ScreenTalk$Timing" 77 68 := Or.inl wi_823
theorem lm_7_92 : mm_lm "ScreenTalk$Timing" 92 70 := Or.inl wi_666
theorem lp_8_9 (nm : String) (h : nm = "<init>") : mm_lp "ScreenTalk$Training" nm 9 8 0 := ⟨(RX8, TX8, 13), rfl, by decide, Or.inr ⟨rfl, rfl, rfl, h, wi_401⟩⟩
theorem lp_8_15 (nm : String) (h : nm = "<init>") : mm_lp "ScreenTalk$Training" nm 15 8 1 := ⟨(RX8, TX8, 13), rfl, by decide, Or.inr ⟨rfl, rfl, rfl, h, wi_404⟩⟩
theorem lp_8_18 (nm : String) : mm_lp "ScreenTalk$Training" nm 18 8 2 := ⟨(RX8, TX8, 13), rfl, by decide, Or.inl ⟨rfl, Or.inl wi_407⟩⟩
theorem lp_8_22 (nm : String) : mm_lp "ScreenTalk$Training" nm 22 8 3 := ⟨(RX8, TX8, 13), rfl, by decide, Or.inl ⟨rfl, Or.inl wi_410⟩⟩
theorem lp_8_25 (nm : String) : mm_lp "ScreenTalk$Training" nm 25 8 4 := ⟨(RX8, TX8, 13), rfl, by decide, Or.inl ⟨rfl, Or.inl wi_413⟩⟩
theorem lp_8_28 (nm : String) : mm_lp "ScreenTalk$Training" nm 28 8 10 := ⟨(RX8, TX8, 13), rfl, by decide, Or.inl ⟨rfl, Or.inl wi_423⟩⟩
theorem lp_8_31 (nm : String) : mm_lp "ScreenTalk$Training" nm 31 8 11 := ⟨(RX8, TX8, 13), rfl, by decide, Or.inl ⟨rfl, Or.inl wi_425⟩⟩
theorem lm_8_34 : mm_lm "ScreenTalk$Training" 34 95 := Or.inl wi_1104
theorem lm_8_37 : mm_lm "ScreenTalk$Training" 37 77 := Or.inl wi_1125
theorem lf_8_40 : mm_lf "ScreenTalk$Training" 40 9 2 := ⟨(RX9, TX9, 4), rfl, by decide, Or.inr ⟨"ScreenTalk", wi_381⟩⟩
theorem lf_8_43 : mm_lf "ScreenTalk$Training" 43 9 3 := ⟨(RX9, TX9, 4), rfl, by decide, Or.inr ⟨"ScreenTalk", wi_384⟩⟩
theorem lf_8_18 : mm_lf "ScreenTalk$Training" 18 8 2 := ⟨(RX8, TX8, 13), rfl, by decide, Or.inl wi_407⟩
theorem lf_8_44 : mm_lf "ScreenTalk$Training" 44 8 7 := ⟨(RX8, TX8, 13), rfl, by decide, Or.inl wi_420⟩
theorem lf_8_47 : mm_lf "ScreenTalk$Training" 47 8 8 := ⟨(RX8, TX8, 13), rfl, by decide, Or.inl wi_421⟩
theorem lm_8_50 : mm_lm "ScreenTalk$Training" 50 78 := Or.inl wi_1245
theorem lm_8_54 : mm_lm "ScreenTalk$Training" 54 79 := Or.inl wi_1246
theorem lm_8_58 : mm_lm "ScreenTalk$Training" 58 82 := Or.inl wi_1247
theorem lf_8_22 : mm_lf "ScreenTalk$Training" 22 8 3 := ⟨(RX8, TX8, 13), rfl, by decide, Or.inl wi_410⟩
theorem lf_8_25 : mm_lf "ScreenTalk$Training" 25 8 4 := ⟨(RX8, TX8, 13), rfl, by decide, Or.inl wi_413⟩
theorem lm_8_62 : mm_lm "ScreenTalk$Training" 62 124 := Or.inr ⟨"ScreenTalk", wi_1248⟩
theorem lf_8_28 : mm_lf "ScreenTalk$Training" 28 8 10 := ⟨(RX8, TX8, 13), rfl, by decide, Or.inl wi_423⟩
theorem lm_8_66 : mm_lm "ScreenTalk$Training" 66 84 := Or.inl wi_1153
theorem lm_8_69 : mm_lm "ScreenTalk$Training" 69 85 := Or.inl wi_1175
theorem lm_8_72 : mm_lm "ScreenTalk$Training" 72 92 := Or.inl wi_1187
theorem lp_8_44 (nm : String) : mm_lp "ScreenTalk$Training" nm 44 8 7 := ⟨(RX8, TX8, 13), rfl, by decide, Or.inl ⟨rfl, Or.inl wi_420⟩⟩
theorem lf_8_75 : mm_lf "ScreenTalk$Training" 75 8 9 := ⟨(RX8, TX8, 13), rfl, by decide, Or.inl wi_422⟩
theorem lp_8_75 (nm : String) : mm_lp "ScreenTalk$Training" nm 75 8 9 := ⟨(RX8, TX8, 13), rfl, by decide, Or.inl ⟨rfl, Or.inl wi_422⟩⟩
theorem lm_8_78 : mm_lm "ScreenTalk$Training" 78 86 := Or.inl wi_1157
theorem lm_8_81 : mm_lm "ScreenTalk$Training" 81 88 := Or.inl wi_1161
theorem lp_8_85 (nm : String) : mm_lp "ScreenTalk$Training" nm 85 8 5 := ⟨(RX8, TX8, 13), rfl, by decide, Or.inl ⟨rfl, Or.inl wi_416⟩⟩
theorem lf_8_85 : mm_lf "ScreenTalk$Training" 85 8 5 := ⟨(RX8, TX8, 13), rfl, by decide, Or.inl wi_416⟩
theorem lp_8_88 (nm : String) : mm_lp "ScreenTalk$Training" nm 88 8 12 := ⟨(RX8, TX8, 13), rfl, by decide, Or.inl ⟨rfl, Or.inl wi_427⟩⟩
theorem lm_8_91 : mm_lm "ScreenTalk$Training" 91 83 := Or.inl wi_1165
theorem lf_8_9 : mm_lf "ScreenTalk$Training" 9 8 0 := ⟨(RX8, TX8, 13), rfl, by decide, Or.inl wi_401⟩
theorem lm_8_95 : mm_lm "ScreenTalk$Training" 95 89 := Or.inl wi_1169
theorem lm_8_99 : mm_lm "ScreenTalk$Training" 99 90 := Or.inl wi_1172
theorem lp_8_47 (nm : String) : mm_lp "ScreenTalk$Training" nm 47 8 8 := ⟨(RX8, TX8, 13), rfl, by decide, Or.inl ⟨rfl, Or.inl wi_421⟩⟩
theorem lp_8_103 (nm : String) : mm_lp "ScreenTalk$Training" nm 103 8 6 := ⟨(RX8, TX8, 13), rfl, by decide, Or.inl ⟨rfl, Or.inl wi_418⟩⟩
theorem lm_8_106 : mm_lm "ScreenTalk$Training" 106 87 := Or.inl wi_1179
theorem lf_8_103 : mm_lf "ScreenTalk$Training" 103 8 6 := ⟨(RX8, TX8, 13), rfl, by decide, Or.inl wi_418⟩
theorem lf_8_15 : mm_lf "ScreenTalk$Training" 15 8 1 := ⟨(RX8, TX8, 13), rfl, by decide, Or.inl wi_404⟩
theorem lm_8_109 : mm_lm "ScreenTalk$Training" 109 91 := Or.inl wi_1183
theorem lf_8_113 : mm_lf "ScreenTalk$Training" 113 9 0 := ⟨(RX9, TX9, 4), rfl, by decide, Or.inr ⟨"ScreenTalk", wi_375⟩⟩
theorem lf_8_116 : mm_lf "ScreenTalk$Training" 116 9 1 := ⟨(RX9, TX9, 4), rfl, by decide, Or.inr ⟨"ScreenTalk", wi_378⟩⟩
theorem lf_8_31 : mm_lf "ScreenTalk$Training" 31 8 11 := ⟨(RX8, TX8, 13), rfl, by decide, Or.inl wi_425⟩
theorem lm_8_119 : mm_lm "ScreenTalk$Training" 119 93 := Or.inl wi_1191
theorem lm_8_122 : mm_lm "ScreenTalk$Training" 122 94 := Or.inl wi_1195
theorem lm_8_125 : mm_lm "ScreenTalk$Training" 125 263 := Or.inl wi_1108
theorem lp_9_9 (nm : String) (h : nm = "<init>") : mm_lp "ScreenTalk$Wiring" nm 9 9 0 := ⟨(RX9, TX9, 4), rfl, by decide, Or.inr ⟨rfl, rfl, rfl, h, wi_374⟩⟩
theorem lp_9_15 (nm : String) (h : nm = "<init>") : mm_lp "ScreenTalk$Wiring" nm 15 9 1 := ⟨(RX9, TX9, 4), rfl, by decide, Or.inr ⟨rfl, rfl, rfl, h, wi_377⟩⟩
theorem lp_9_18 (nm : String) : mm_lp "ScreenTalk$Wiring" nm 18 9 2 := ⟨(RX9, TX9, 4), rfl, by decide, Or.inl ⟨rfl, Or.inl wi_380⟩⟩
theorem lp_9_22 (nm : String) : mm_lp "ScreenTalk$Wiring" nm 22 9 3 := ⟨(RX9, TX9, 4), rfl, by decide, Or.inl ⟨rfl, Or.inl wi_383⟩⟩
theorem lf_9_9 : mm_lf "ScreenTalk$Wiring" 9 9 0 := ⟨(RX9, TX9, 4), rfl, by decide, Or.inl wi_374⟩
theorem lf_9_15 : mm_lf "ScreenTalk$Wiring" 15 9 1 := ⟨(RX9, TX9, 4), rfl, by decide, Or.inl wi_377⟩
theorem lf_9_18 : mm_lf "ScreenTalk$Wiring" 18 9 2 := ⟨(RX9, TX9, 4), rfl, by decide, Or.inl wi_380⟩
theorem lf_9_22 : mm_lf "ScreenTalk$Wiring" 22 9 3 := ⟨(RX9, TX9, 4), rfl, by decide, Or.inl wi_383⟩
theorem lm_10_9 : mm_lm "ScreenTalk" 9 0 := Or.inr ⟨"ScreenTalk", wi_124⟩
theorem lp_10_10 (nm : String) (h : nm = "<init>") : mm_lp "ScreenTalk" nm 10 10 0 := ⟨(RX10, TX10, 14), rfl, by decide, Or.inr ⟨rfl, rfl, rfl, h, wi_477⟩⟩
theorem lp_10_16 (nm : String) (h : nm = "<init>") : mm_lp "ScreenTalk" nm 16 10 1 := ⟨(RX10, TX10, 14), rfl, by decide, Or.inr ⟨rfl, rfl, rfl, h, wi_478⟩⟩
theorem lm_10_21 : mm_lm "ScreenTalk" 21 14 := Or.inr ⟨"ScreenTalk", wi_141⟩
theorem lp_10_22 (nm : String) (h : nm = "<init>") : mm_lp "ScreenTalk" nm 22 10 2 := ⟨(RX10, TX10, 14), rfl, by decide, Or.inr ⟨rfl, rfl, rfl, h, wi_479⟩⟩
theorem lm_10_28 : mm_lm "ScreenTalk" 28 41 := Or.inl wi_156
theorem lp_10_29 (nm : String) (h : nm = "<init>") : mm_lp "ScreenTalk" nm 29 10 3 := ⟨(RX10, TX10, 14), rfl, by decide, Or.inr ⟨rfl, rfl, rfl, h, wi_480⟩⟩
theorem lm_10_35 : mm_lm "ScreenTalk" 35 30 := Or.inl wi_266
theorem lp_10_36 (nm : String) (h : nm = "<init>") : mm_lp "ScreenTalk" nm 36 10 4 := ⟨(RX10, TX10, 14), rfl, by decide, Or.inr ⟨rfl, rfl, rfl, h, wi_481⟩⟩
theorem lm_10_42 : mm_lm "ScreenTalk" 42 6 := Or.inr ⟨"ScreenTalk", wi_322⟩
theorem lp_10_43 (nm : String) (h : nm = "<init>") : mm_lp "ScreenTalk" nm 43 10 5 := ⟨(RX10, TX10, 14), rfl, by decide, Or.inr ⟨rfl, rfl, rfl, h, wi_482⟩⟩
theorem lm_10_49 : mm_lm "ScreenTalk" 49 59 := Or.inr ⟨"ScreenTalk", wi_335⟩
theorem lp_10_50 (nm : String) (h : nm = "<init>") : mm_lp "ScreenTalk" nm 50 10 6 := ⟨(RX10, TX10, 14), rfl, by decide, Or.inr ⟨rfl, rfl, rfl, h, wi_483⟩⟩
theorem lm_10_56 : mm_lm "ScreenTalk" 56 245 := Or.inl wi_338
theorem lp_10_57 (nm : String) (h : nm = "<init>") : mm_lp "ScreenTalk" nm 57 10 7 := ⟨(RX10, TX10, 14), rfl, by decide, Or.inr ⟨rfl, rfl, rfl, h, wi_484⟩⟩
theorem lm_10_63 : mm_lm "ScreenTalk" 63 96 := Or.inr ⟨"ScreenTalk", wi_370⟩
theorem lp_10_64 (nm : String) (h : nm = "<init>") : mm_lp "ScreenTalk" nm 64 10 8 := ⟨(RX10, TX10, 14), rfl, by decide, Or.inr ⟨rfl, rfl, rfl, h, wi_485⟩⟩
theorem lm_10_70 : mm_lm "ScreenTalk" 70 76 := Or.inr ⟨"ScreenTalk", wi_397⟩
theorem lp_10_71 (nm : String) (h : nm = "<init>") : mm_lp "ScreenTalk" nm 71 10 9 := ⟨(RX10, TX10, 14), rfl, by decide, Or.inr ⟨rfl, rfl, rfl, h, wi_486⟩⟩
theorem lm_10_77 : mm_lm "ScreenTalk" 77 19 := Or.inr ⟨"ScreenTalk", wi_458⟩
theorem lp_10_78 (nm : String) (h : nm = "<init>") : mm_lp "ScreenTalk" nm 78 10 10 := ⟨(RX10, TX10, 14), rfl, by decide, Or.inr ⟨rfl, rfl, rfl, h, wi_487⟩⟩
theorem lp_10_82 (nm : String) (h : nm = "<init>") : mm_lp "ScreenTalk" nm 82 10 11 := ⟨(RX10, TX10, 14), rfl, by decide, Or.inr ⟨rfl, rfl, rfl, h, wi_488⟩⟩
theorem lp_10_85 (nm : String) (h : nm = "<init>") : mm_lp "ScreenTalk" nm 85 10 12 := ⟨(RX10, TX10, 14), rfl, by decide, Or.inr ⟨rfl, rfl, rfl, h, wi_489⟩⟩
theorem lp_10_88 (nm : String) : mm_lp "ScreenTalk" nm 88 10 13 := ⟨(RX10, TX10, 14), rfl, by decide, Or.inl ⟨rfl, Or.inl wi_490⟩⟩
theorem lf_10_10 : mm_lf "ScreenTalk" 10 10 0 := ⟨(RX10, TX10, 14), rfl, by decide, Or.inl wi_477⟩
theorem lf_10_92 : mm_lf "ScreenTalk" 92 0 1 := ⟨(RX0, TX0, 2), rfl, by decide, Or.inr ⟨"ScreenTalk", wi_130⟩⟩
theorem lm_10_95 : mm_lm "ScreenTalk" 95 2 := Or.inl wi_524
theorem lf_10_16 : mm_lf "ScreenTalk" 16 10 1 := ⟨(RX10, TX10, 14), rfl, by decide, Or.inl wi_478⟩
theorem lm_10_99 : mm_lm "ScreenTalk" 99 4 := Or.inl wi_532
theorem lm_10_103 : mm_lm "ScreenTalk" 103 1 := Or.inl wi_545
theorem lf_10_22 : mm_lf "ScreenTalk" 22 10 2 := ⟨(RX10, TX10, 14), rfl, by decide, Or.inl wi_479⟩
theorem lm_10_106 : mm_lm "ScreenTalk" 106 15 := Or.inl wi_549
theorem lf_10_110 : mm_lf "ScreenTalk" 110 2 0 := ⟨(RX2, TX2, 2), rfl, by decide, Or.inr ⟨"ScreenTalk", wi_146⟩⟩
theorem lf_10_29 : mm_lf "ScreenTalk" 29 10 3 := ⟨(RX10, TX10, 14), rfl, by decide, Or.inl wi_480⟩
theorem lm_10_113 : mm_lm "ScreenTalk" 113 42 := Or.inl wi_577
theorem lf_10_36 : mm_lf "ScreenTalk" 36 10 4 := ⟨(RX10, TX10, 14), rfl, by decide, Or.inl wi_481⟩
theorem lm_10_116 : mm_lm "ScreenTalk" 116 34 := Or.inl wi_624
theorem lf_10_43 : mm_lf "ScreenTalk" 43 10 5 := ⟨(RX10, TX10, 14), rfl, by decide, Or.inl wi_482⟩
theorem lm_10_120 : mm_lm "ScreenTalk" 120 8 := Or.inl wi_730
theorem lf_10_124 : mm_lf "ScreenTalk" 124 5 4 := ⟨(RX5, TX5, 5), rfl, by decide, Or.inr ⟨"ScreenTalk", wi_307⟩⟩
theorem lf_10_127 : mm_lf "ScreenTalk" 127 2 1 := ⟨(RX2, TX2, 2), rfl, by decide, Or.inr ⟨"ScreenTalk", wi_148⟩⟩
theorem lm_10_130 : mm_lm "ScreenTalk" 130 3 := Or.inl wi_786
theorem lm_10_134 : mm_lm "ScreenTalk" 134 5 := Or.inl wi_787
theorem lf_10_137 : mm_lf "ScreenTalk" 137 6 5 := ⟨(RX6, TX6, 13), rfl, by decide, Or.inr ⟨"ScreenTalk", wi_218⟩⟩
theorem lm_10_140 : mm_lm "ScreenTalk" 140 32 := Or.inl wi_792
theorem lm_10_143 : mm_lm "ScreenTalk" 143 57 := Or.inl wi_796
theorem lm_10_146 : mm_lm "ScreenTalk" 146 104 := Or.inl wi_801
theorem lm_10_149 : mm_lm "ScreenTalk" 149 55 := Or.inl wi_805
theorem lf_10_152 : mm_lf "ScreenTalk" 152 6 0 := ⟨(RX6, TX6, 13), rfl, by decide, Or.inr ⟨"ScreenTalk", wi_212⟩⟩
theorem lf_10_155 : mm_lf "ScreenTalk" 155 6 6 := ⟨(RX6, TX6, 13), rfl, by decide, Or.inr ⟨"ScreenTalk", wi_221⟩⟩
theorem lf_10_158 : mm_lf "ScreenTalk" 158 6 10 := ⟨(RX6, TX6, 13), rfl, by decide, Or.inr ⟨"ScreenTalk", wi_231⟩⟩
theorem lf_10_161 : mm_lf "ScreenTalk" 161 6 8 := ⟨(RX6, TX6, 13), rfl, by decide, Or.inr ⟨"ScreenTalk", wi_226⟩⟩
theorem lf_10_164 : mm_lf "ScreenTalk" 164 6 11 := ⟨(RX6, TX6, 13), rfl, by decide, Or.inr ⟨"ScreenTalk", wi_233⟩⟩
theorem lf_10_167 : mm_lf "ScreenTalk" 167 6 9 := ⟨(RX6, TX6, 13), rfl, by decide, Or.inr ⟨"ScreenTalk", wi_229⟩⟩
theorem lm_10_170 : mm_lm "ScreenTalk" 170 54 := Or.inl wi_813
theorem lm_10_173 : mm_lm "ScreenTalk" 173 52 := Or.inl wi_818
theorem lm_10_177 : mm_lm "ScreenTalk" 177 67 := Or.inl wi_819
theorem lf_10_180 : mm_lf "ScreenTalk" 180 1 1 := ⟨(RX1, TX1, 2), rfl, by decide, Or.inr ⟨"ScreenTalk", wi_328⟩⟩
theorem lm_10_184 : mm_lm "ScreenTalk" 184 7 := Or.inl wi_828
theorem lm_10_185 : mm_lm "ScreenTalk" 185 31 := Or.inl wi_836
theorem lf_10_188 : mm_lf "ScreenTalk" 188 4 0 := ⟨(RX4, TX4, 4), rfl, by decide, Or.inr ⟨"ScreenTalk", wi_284⟩⟩
theorem lf_10_193 : mm_lf "ScreenTalk" 193 7 1 := ⟨(RX7, TX7, 10), rfl, by decide, Or.inr ⟨"ScreenTalk", wi_175⟩⟩
theorem lf_10_196 : mm_lf "ScreenTalk" 196 7 5 := ⟨(RX7, TX7, 10), rfl, by decide, Or.inr ⟨"ScreenTalk", wi_182⟩⟩
theorem lf_10_199 : mm_lf "ScreenTalk" 199 4 1 := ⟨(RX4, TX4, 4), rfl, by decide, Or.inr ⟨"ScreenTalk", wi_287⟩⟩
theorem lf_10_202 : mm_lf "ScreenTalk" 202 7 0 := ⟨(RX7, TX7, 10), rfl, by decide, Or.inr ⟨"ScreenTalk", wi_171⟩⟩
theorem lm_10_205 : mm_lm "ScreenTalk" 205 70 := Or.inl wi_837
theorem lm_10_209 : mm_lm "ScreenTalk" 209 71 := Or.inl wi_838
theorem lf_10_212 : mm_lf "ScreenTalk" 212 4 2 := ⟨(RX4, TX4, 4), rfl, by decide, Or.inr ⟨"ScreenTalk", wi_289⟩⟩
theorem lf_10_215 : mm_lf "ScreenTalk" 215 4 3 := ⟨(RX4, TX4, 4), rfl, by decide, Or.inr ⟨"ScreenTalk", wi_292⟩⟩
theorem lm_10_218 : mm_lm "ScreenTalk" 218 74 := Or.inl wi_842
theorem lf_10_57 : mm_lf "ScreenTalk" 57 10 7 := ⟨(RX10, TX10, 14), rfl, by decide, Or.inl wi_484⟩
theorem lm_10_221 : mm_lm "ScreenTalk" 221 250 := Or.inl wi_854
theorem lm_10_224 : mm_lm "ScreenTalk" 224 248 := Or.inl wi_908
theorem lm_10_228 : mm_lm "ScreenTalk" 228 247 := Or.inl wi_956
theorem lm_10_231 : mm_lm "ScreenTalk" 231 251 := Or.inl wi_997
theorem lm_10_233 : mm_lm "ScreenTalk" 233 249 := Or.inl wi_1004
theorem lm_10_237 : mm_lm "ScreenTalk" 237 33 := Or.inl wi_1020
theorem lm_10_241 : mm_lm "ScreenTalk" 241 114 := Or.inl wi_1025
theorem lm_10_245 : mm_lm "ScreenTalk" 245 115 := Or.inl wi_1028
theorem lm_10_249 : mm_lm "ScreenTalk" 249 116 := Or.inl wi_1031
theorem lf_10_50 : mm_lf "ScreenTalk" 50 10 6 := ⟨(RX10, TX10, 14), rfl, by decide, Or.inl wi_483⟩
theorem lm_10_252 : mm_lm "ScreenTalk" 252 62 := Or.inl wi_1034
theorem lm_10_256 : mm_lm "ScreenTalk" 256 69 := Or.inl wi_1039
theorem lm_10_260 : mm_lm "ScreenTalk" 260 61 := Or.inl wi_1040
theorem lm_10_263 : mm_lm "ScreenTalk" 263 122 := Or.inl wi_1045
theorem lm_10_266 : mm_lm "ScreenTalk" 266 123 := Or.inl wi_1048
theorem lm_10_269 : mm_lm "ScreenTalk" 269 124 := Or.inl wi_1051
theorem lm_10_273 : mm_lm "ScreenTalk" 273 125 := Or.inl wi_1056
theorem lf_10_88 : mm_lf "ScreenTalk" 88 10 13 := ⟨(RX10, TX10, 14), rfl, by decide, Or.inl wi_490⟩
theorem lm_10_277 : mm_lm "ScreenTalk" 277 127 := Or.inl wi_1076
theorem ls_10_281 : mm_ls "ScreenTalk" 281 2 1 := ⟨("ScreenTalk", "RATES", "[I", 2, 1), List.mem_of_getElem? (i := 0) rfl, rfl, rfl, Or.inl wi_1054⟩
theorem lm_10_287 : mm_lm "ScreenTalk" 287 126 := Or.inl wi_1080
theorem lm_10_290 : mm_lm "ScreenTalk" 290 137 := Or.inl wi_1093
theorem lf_10_64 : mm_lf "ScreenTalk" 64 10 8 := ⟨(RX10, TX10, 14), rfl, by decide, Or.inl wi_485⟩
theorem lf_10_293 : mm_lf "ScreenTalk" 293 9 0 := ⟨(RX9, TX9, 4), rfl, by decide, Or.inr ⟨"ScreenTalk", wi_376⟩⟩
theorem lf_10_296 : mm_lf "ScreenTalk" 296 9 1 := ⟨(RX9, TX9, 4), rfl, by decide, Or.inr ⟨"ScreenTalk", wi_379⟩⟩
theorem lm_10_299 : mm_lm "ScreenTalk" 299 139 := Or.inl wi_1096
theorem lp_10_302 (nm : String) : mm_lp "ScreenTalk" nm 302 9 2 := ⟨(RX9, TX9, 4), rfl, by decide, Or.inl ⟨rfl, Or.inr ⟨"ScreenTalk", wi_382⟩⟩⟩
theorem lp_10_305 (nm : String) : mm_lp "ScreenTalk" nm 305 9 3 := ⟨(RX9, TX9, 4), rfl, by decide, Or.inl ⟨rfl, Or.inr ⟨"ScreenTalk", wi_385⟩⟩⟩
theorem lf_10_71 : mm_lf "ScreenTalk" 71 10 9 := ⟨(RX10, TX10, 14), rfl, by decide, Or.inl wi_486⟩
theorem lm_10_308 : mm_lm "ScreenTalk" 308 78 := Or.inl wi_1121
theorem lf_10_78 : mm_lf "ScreenTalk" 78 10 10 := ⟨(RX10, TX10, 14), rfl, by decide, Or.inl wi_487⟩
theorem lm_10_312 : mm_lm "ScreenTalk" 312 20 := Or.inl wi_1109
theorem lf_10_302 : mm_lf "ScreenTalk" 302 9 2 := ⟨(RX9, TX9, 4), rfl, by decide, Or.inr ⟨"ScreenTalk", wi_382⟩⟩
theorem lf_10_305 : mm_lf "ScreenTalk" 305 9 3 := ⟨(RX9, TX9, 4), rfl, by decide, Or.inr ⟨"ScreenTalk", wi_385⟩⟩
theorem lm_10_313 : mm_lm "ScreenTalk" 313 79 := Or.inl wi_1130
theorem lm_10_316 : mm_lm "ScreenTalk" 316 21 := Or.inl wi_1134
theorem lm_10_320 : mm_lm "ScreenTalk" 320 82 := Or.inl wi_1149
theorem lf_10_324 : mm_lf "ScreenTalk" 324 8 12 := ⟨(RX8, TX8, 13), rfl, by decide, Or.inr ⟨"ScreenTalk", wi_428⟩⟩
theorem lm_10_327 : mm_lm "ScreenTalk" 327 22 := Or.inl wi_1199
theorem lf_10_331 : mm_lf "ScreenTalk" 331 8 2 := ⟨(RX8, TX8, 13), rfl, by decide, Or.inr ⟨"ScreenTalk", wi_409⟩⟩
theorem lf_10_334 : mm_lf "ScreenTalk" 334 8 3 := ⟨(RX8, TX8, 13), rfl, by decide, Or.inr ⟨"ScreenTalk", wi_412⟩⟩
theorem lf_10_335 : mm_lf "ScreenTalk" 335 8 4 := ⟨(RX8, TX8, 13), rfl, by decide, Or.inr ⟨"ScreenTalk", wi_415⟩⟩
theorem lm_10_336 : mm_lm "ScreenTalk" 336 80 := Or.inl wi_1207
theorem lf_10_339 : mm_lf "ScreenTalk" 339 8 10 := ⟨(RX8, TX8, 13), rfl, by decide, Or.inr ⟨"ScreenTalk", wi_424⟩⟩
theorem lf_10_342 : mm_lf "ScreenTalk" 342 8 11 := ⟨(RX8, TX8, 13), rfl, by decide, Or.inr ⟨"ScreenTalk", wi_426⟩⟩
theorem lf_10_345 : mm_lf "ScreenTalk" 345 8 0 := ⟨(RX8, TX8, 13), rfl, by decide, Or.inr ⟨"ScreenTalk", wi_403⟩⟩
theorem lm_10_348 : mm_lm "ScreenTalk" 348 138 := Or.inl wi_1208
theorem lf_10_352 : mm_lf "ScreenTalk" 352 8 1 := ⟨(RX8, TX8, 13), rfl, by decide, Or.inr ⟨"ScreenTalk", wi_406⟩⟩
theorem lf_10_355 : mm_lf "ScreenTalk" 355 8 5 := ⟨(RX8, TX8, 13), rfl, by decide, Or.inr ⟨"ScreenTalk", wi_417⟩⟩
theorem lf_10_358 : mm_lf "ScreenTalk" 358 8 6 := ⟨(RX8, TX8, 13), rfl, by decide, Or.inr ⟨"ScreenTalk", wi_419⟩⟩
theorem lf_10_361 : mm_lf "ScreenTalk" 361 3 3 := ⟨(RX3, TX3, 4), rfl, by decide, Or.inr ⟨"ScreenTalk", wi_467⟩⟩
theorem lm_10_362 : mm_lm "ScreenTalk" 362 26 := Or.inl wi_1220
theorem lf_10_365 : mm_lf "ScreenTalk" 365 3 2 := ⟨(RX3, TX3, 4), rfl, by decide, Or.inr ⟨"ScreenTalk", wi_465⟩⟩
theorem lm_10_368 : mm_lm "ScreenTalk" 368 25 := Or.inl wi_1232
theorem lm_10_376 : mm_lm "ScreenTalk" 376 77 := Or.inl wi_1100
theorem lf_10_85 : mm_lf "ScreenTalk" 85 10 12 := ⟨(RX10, TX10, 14), rfl, by decide, Or.inl wi_489⟩
theorem lm_10_379 : mm_lm "ScreenTalk" 379 81 := Or.inl wi_1241
theorem lf_10_82 : mm_lf "ScreenTalk" 82 10 11 := ⟨(RX10, TX10, 14), rfl, by decide, Or.inl wi_488⟩
theorem lm_10_382 : mm_lm "ScreenTalk" 382 97 := Or.inl wi_1253
theorem lm_10_385 : mm_lm "ScreenTalk" 385 143 := Or.inl wi_1262
theorem lp_11_13 (nm : String) (h : nm = "<init>") : mm_lp "ScreenTalkModel" nm 13 11 1 := ⟨(RX11, TX11, 47), rfl, by decide, Or.inr ⟨rfl, rfl, rfl, h, wi_1289⟩⟩
theorem lp_11_17 (nm : String) (h : nm = "<init>") : mm_lp "ScreenTalkModel" nm 17 11 2 := ⟨(RX11, TX11, 47), rfl, by decide, Or.inr ⟨rfl, rfl, rfl, h, wi_1290⟩⟩
theorem lp_11_20 (nm : String) (h : nm = "<init>") : mm_lp "ScreenTalkModel" nm 20 11 3 := ⟨(RX11, TX11, 47), rfl, by decide, Or.inr ⟨rfl, rfl, rfl, h, wi_1291⟩⟩
theorem lp_11_23 (nm : String) : mm_lp "ScreenTalkModel" nm 23 11 8 := ⟨(RX11, TX11, 47), rfl, by decide, Or.inl ⟨rfl, Or.inl wi_1296⟩⟩
theorem lp_11_26 (nm : String) (h : nm = "<init>") : mm_lp "ScreenTalkModel" nm 26 11 9 := ⟨(RX11, TX11, 47), rfl, by decide, Or.inr ⟨rfl, rfl, rfl, h, wi_1297⟩⟩
theorem lp_11_29 (nm : String) (h : nm = "<init>") : mm_lp "ScreenTalkModel" nm 29 11 10 := ⟨(RX11, TX11, 47), rfl, by decide, Or.inr ⟨rfl, rfl, rfl, h, wi_1298⟩⟩
theorem lp_11_32 (nm : String) (h : nm = "<init>") : mm_lp "ScreenTalkModel" nm 32 11 11 := ⟨(RX11, TX11, 47), rfl, by decide, Or.inr ⟨rfl, rfl, rfl, h, wi_1299⟩⟩
theorem lp_11_35 (nm : String) (h : nm = "<init>") : mm_lp "ScreenTalkModel" nm 35 11 12 := ⟨(RX11, TX11, 47), rfl, by decide, Or.inr ⟨rfl, rfl, rfl, h, wi_1300⟩⟩
theorem lp_11_38 (nm : String) (h : nm = "<init>") : mm_lp "ScreenTalkModel" nm 38 11 20 := ⟨(RX11, TX11, 47), rfl, by decide, Or.inr ⟨rfl, rfl, rfl, h, wi_1308⟩⟩
theorem lp_11_41 (nm : String) (h : nm = "<init>") : mm_lp "ScreenTalkModel" nm 41 11 21 := ⟨(RX11, TX11, 47), rfl, by decide, Or.inr ⟨rfl, rfl, rfl, h, wi_1309⟩⟩
theorem lp_11_44 (nm : String) (h : nm = "<init>") : mm_lp "ScreenTalkModel" nm 44 11 22 := ⟨(RX11, TX11, 47), rfl, by decide, Or.inr ⟨rfl, rfl, rfl, h, wi_1310⟩⟩
theorem lp_11_51 (nm : String) (h : nm = "<init>") : mm_lp "ScreenTalkModel" nm 51 11 24 := ⟨(RX11, TX11, 47), rfl, by decide, Or.inr ⟨rfl, rfl, rfl, h, wi_1312⟩⟩
theorem lp_11_54 (nm : String) (h : nm = "<init>") : mm_lp "ScreenTalkModel" nm 54 11 25 := ⟨(RX11, TX11, 47), rfl, by decide, Or.inr ⟨rfl, rfl, rfl, h, wi_1313⟩⟩
theorem lp_11_57 (nm : String) (h : nm = "<init>") : mm_lp "ScreenTalkModel" nm 57 11 26 := ⟨(RX11, TX11, 47), rfl, by decide, Or.inr ⟨rfl, rfl, rfl, h, wi_1314⟩⟩
theorem lp_11_60 (nm : String) (h : nm = "<init>") : mm_lp "ScreenTalkModel" nm 60 11 27 := ⟨(RX11, TX11, 47), rfl, by decide, Or.inr ⟨rfl, rfl, rfl, h, wi_1315⟩⟩
theorem lp_11_63 (nm : String) (h : nm = "<init>") : mm_lp "ScreenTalkModel" nm 63 11 29 := ⟨(RX11, TX11, 47), rfl, by decide, Or.inr ⟨rfl, rfl, rfl, h, wi_1317⟩⟩
theorem lp_11_66 (nm : String) : mm_lp "ScreenTalkModel" nm 66 11 30 := ⟨(RX11, TX11, 47), rfl, by decide, Or.inl ⟨rfl, Or.inl wi_1318⟩⟩
theorem lp_11_69 (nm : String) : mm_lp "ScreenTalkModel" nm 69 11 31 := ⟨(RX11, TX11, 47), rfl, by decide, Or.inl ⟨rfl, Or.inl wi_1319⟩⟩
theorem lp_11_72 (nm : String) : mm_lp "ScreenTalkModel" nm 72 11 32 := ⟨(RX11, TX11, 47), rfl, by decide, Or.inl ⟨rfl, Or.inl wi_1320⟩⟩
theorem lp_11_75 (nm : String) (h : nm = "<init>") : mm_lp "ScreenTalkModel" nm 75 11 35 := ⟨(RX11, TX11, 47), rfl, by decide, Or.inr ⟨rfl, rfl, rfl, h, wi_1323⟩⟩
theorem lp_11_78 (nm : String) (h : nm = "<init>") : mm_lp "ScreenTalkModel" nm 78 11 36 := ⟨(RX11, TX11, 47), rfl, by decide, Or.inr ⟨rfl, rfl, rfl, h, wi_1324⟩⟩
theorem lp_11_81 (nm : String) (h : nm = "<init>") : mm_lp "ScreenTalkModel" nm 81 11 37 := ⟨(RX11, TX11, 47), rfl, by decide, Or.inr ⟨rfl, rfl, rfl, h, wi_1325⟩⟩
theorem lp_11_84 (nm : String) (h : nm = "<init>") : mm_lp "ScreenTalkModel" nm 84 11 38 := ⟨(RX11, TX11, 47), rfl, by decide, Or.inr ⟨rfl, rfl, rfl, h, wi_1326⟩⟩
theorem lp_11_87 (nm : String) (h : nm = "<init>") : mm_lp "ScreenTalkModel" nm 87 11 39 := ⟨(RX11, TX11, 47), rfl, by decide, Or.inr ⟨rfl, rfl, rfl, h, wi_1327⟩⟩
theorem lp_11_90 (nm : String) (h : nm = "<init>") : mm_lp "ScreenTalkModel" nm 90 11 40 := ⟨(RX11, TX11, 47), rfl, by decide, Or.inr ⟨rfl, rfl, rfl, h, wi_1328⟩⟩
theorem lp_11_93 (nm : String) (h : nm = "<init>") : mm_lp "ScreenTalkModel" nm 93 11 41 := ⟨(RX11, TX11, 47), rfl, by decide, Or.inr ⟨rfl, rfl, rfl, h, wi_1329⟩⟩
theorem lp_11_1 (nm : String) : mm_lp "ScreenTalkModel" nm 1 11 0 := ⟨(RX11, TX11, 47), rfl, by decide, Or.inl ⟨rfl, Or.inl wi_1288⟩⟩
theorem lf_11_96 : mm_lf "ScreenTalkModel" 96 11 4 := ⟨(RX11, TX11, 47), rfl, by decide, Or.inl wi_1292⟩
theorem lf_11_13 : mm_lf "ScreenTalkModel" 13 11 1 := ⟨(RX11, TX11, 47), rfl, by decide, Or.inl wi_1289⟩
theorem lp_11_96 (nm : String) : mm_lp "ScreenTalkModel" nm 96 11 4 := ⟨(RX11, TX11, 47), rfl, by decide, Or.inl ⟨rfl, Or.inl wi_1292⟩⟩
theorem lf_11_99 : mm_lf "ScreenTalkModel" 99 11 7 := ⟨(RX11, TX11, 47), rfl, by decide, Or.inl wi_1295⟩
theorem lp_11_99 (nm : String) : mm_lp "ScreenTalkModel" nm 99 11 7 := ⟨(RX11, TX11, 47), rfl, by decide, Or.inl ⟨rfl, Or.inl wi_1295⟩⟩
theorem lf_11_17 : mm_lf "ScreenTalkModel" 17 11 2 := ⟨(RX11, TX11, 47), rfl, by decide, Or.inl wi_1290⟩
theorem lf_11_102 : mm_lf "ScreenTalkModel" 102 11 5 := ⟨(RX11, TX11, 47), rfl, by decide, Or.inl wi_1293⟩
theorem lm_11_107 : mm_lm "ScreenTalkModel" 107 148 := Or.inl wi_1438
theorem lm_11_111 : mm_lm "ScreenTalkModel" 111 153 := Or.inl wi_1446
theorem lm_11_115 : mm_lm "ScreenTalkModel" 115 154 := Or.inl wi_1450
theorem lm_11_119 : mm_lm "ScreenTalkModel" 119 156 := Or.inl wi_1454
theorem lp_11_102 (nm : String) : mm_lp "ScreenTalkModel" nm 102 11 5 := ⟨(RX11, TX11, 47), rfl, by decide, Or.inl ⟨rfl, Or.inl wi_1293⟩⟩
theorem lm_11_125 : mm_lm "ScreenTalkModel" 125 155 := Or.inl wi_1441
theorem lf_11_20 : mm_lf "ScreenTalkModel" 20 11 3 := ⟨(RX11, TX11, 47), rfl, by decide, Or.inl wi_1291⟩
theorem lp_11_128 (nm : String) : mm_lp "ScreenTalkModel" nm 128 11 6 := ⟨(RX11, TX11, 47), rfl, by decide, Or.inl ⟨rfl, Or.inl wi_1294⟩⟩
theorem lm_11_131 : mm_lm "ScreenTalkModel" 131 176 := Or.inl wi_1459
theorem lf_11_134 : mm_lf "ScreenTalkModel" 134 11 23 := ⟨(RX11, TX11, 47), rfl, by decide, Or.inl wi_1311⟩
theorem lf_11_23 : mm_lf "ScreenTalkModel" 23 11 8 := ⟨(RX11, TX11, 47), rfl, by decide, Or.inl wi_1296⟩
theorem lf_11_137 : mm_lf "ScreenTalkModel" 137 11 13 := ⟨(RX11, TX11, 47), rfl, by decide, Or.inl wi_1301⟩
theorem lm_11_140 : mm_lm "ScreenTalkModel" 140 160 := Or.inl wi_1471
theorem lf_11_26 : mm_lf "ScreenTalkModel" 26 11 9 := ⟨(RX11, TX11, 47), rfl, by decide, Or.inl wi_1297⟩
theorem lm_11_143 : mm_lm "ScreenTalkModel" 143 162 := Or.inl wi_1479
theorem lp_11_137 (nm : String) : mm_lp "ScreenTalkModel" nm 137 11 13 := ⟨(RX11, TX11, 47), rfl, by decide, Or.inl ⟨rfl, Or.inl wi_1301⟩⟩
theorem lp_11_147 (nm : String) : mm_lp "ScreenTalkModel" nm 147 11 14 := ⟨(RX11, TX11, 47), rfl, by decide, Or.inl ⟨rfl, Or.inl wi_1302⟩⟩
theorem lf_11_29 : mm_lf "ScreenTalkModel" 29 11 10 := ⟨(RX11, TX11, 47), rfl, by decide, Or.inl wi_1298⟩
theorem lf_11_147 : mm_lf "ScreenTalkModel" 147 11 14 := ⟨(RX11, TX11, 47), rfl, by decide, Or.inl wi_1302⟩
theorem lp_11_154 (nm : String) : mm_lp "ScreenTalkModel" nm 154 11 18 := ⟨(RX11, TX11, 47), rfl, by decide, Or.inl ⟨rfl, Or.inl wi_1306⟩⟩
theorem lf_11_32 : mm_lf "ScreenTalkModel" 32 11 11 := ⟨(RX11, TX11, 47), rfl, by decide, Or.inl wi_1299⟩
theorem lf_11_158 : mm_lf "ScreenTalkModel" 158 11 16 := ⟨(RX11, TX11, 47), rfl, by decide, Or.inl wi_1304⟩
theorem lp_11_158 (nm : String) : mm_lp "ScreenTalkModel" nm 158 11 16 := ⟨(RX11, TX11, 47), rfl, by decide, Or.inl ⟨rfl, Or.inl wi_1304⟩⟩
theorem lf_11_35 : mm_lf "ScreenTalkModel" 35 11 12 := ⟨(RX11, TX11, 47), rfl, by decide, Or.inl wi_1300⟩
theorem lf_11_161 : mm_lf "ScreenTalkModel" 161 11 17 := ⟨(RX11, TX11, 47), rfl, by decide, Or.inl wi_1305⟩
theorem lp_11_161 (nm : String) : mm_lp "ScreenTalkModel" nm 161 11 17 := ⟨(RX11, TX11, 47), rfl, by decide, Or.inl ⟨rfl, Or.inl wi_1305⟩⟩
theorem lp_11_164 (nm : String) : mm_lp "ScreenTalkModel" nm 164 11 15 := ⟨(RX11, TX11, 47), rfl, by decide, Or.inl ⟨rfl, Or.inl wi_1303⟩⟩
theorem lm_11_167 : mm_lm "ScreenTalkModel" 167 163 := Or.inl wi_1467
theorem lm_11_170 : mm_lm "ScreenTalkModel" 170 161 := Or.inl wi_1475
theorem lm_11_173 : mm_lm "ScreenTalkModel" 173 164 := Or.inl wi_1483
theorem lp_11_176 (nm : String) : mm_lp "ScreenTalkModel" nm 176 11 19 := ⟨(RX11, TX11, 47), rfl, by decide, Or.inl ⟨rfl, Or.inl wi_1307⟩⟩
theorem lf_11_128 : mm_lf "ScreenTalkModel" 128 11 6 := ⟨(RX11, TX11, 47), rfl, by decide, Or.inl wi_1294⟩
theorem lm_11_179 : mm_lm "ScreenTalkModel" 179 165 := Or.inl wi_1489
theorem lf_11_38 : mm_lf "ScreenTalkModel" 38 11 20 := ⟨(RX11, TX11, 47), rfl, by decide, Or.inl wi_1308⟩
theorem lf_11_41 : mm_lf "ScreenTalkModel" 41 11 21 := ⟨(RX11, TX11, 47), rfl, by decide, Or.inl wi_1309⟩
theorem lf_11_154 : mm_lf "ScreenTalkModel" 154 11 18 := ⟨(RX11, TX11, 47), rfl, by decide, Or.inl wi_1306⟩
theorem lm_11_186 : mm_lm "ScreenTalkModel" 186 167 := Or.inl wi_1501
theorem lm_11_190 : mm_lm "ScreenTalkModel" 190 169 := Or.inl wi_1506
theorem lf_11_164 : mm_lf "ScreenTalkModel" 164 11 15 := ⟨(RX11, TX11, 47), rfl, by decide, Or.inl wi_1303⟩
theorem lm_11_194 : mm_lm "ScreenTalkModel" 194 170 := Or.inl wi_1510
theorem lf_11_44 : mm_lf "ScreenTalkModel" 44 11 22 := ⟨(RX11, TX11, 47), rfl, by decide, Or.inl wi_1310⟩
theorem lp_11_134 (nm : String) : mm_lp "ScreenTalkModel" nm 134 11 23 := ⟨(RX11, TX11, 47), rfl, by decide, Or.inl ⟨rfl, Or.inl wi_1311⟩⟩
theorem lf_11_176 : mm_lf "ScreenTalkModel" 176 11 19 := ⟨(RX11, TX11, 47), rfl, by decide, Or.inl wi_1307⟩
theorem lm_11_197 : mm_lm "ScreenTalkModel" 197 171 := Or.inl wi_1497
theorem lm_11_201 : mm_lm "ScreenTalkModel" 201 172 := Or.inl wi_1514
theorem lf_11_51 : mm_lf "ScreenTalkModel" 51 11 24 := ⟨(RX11, TX11, 47), rfl, by decide, Or.inl wi_1312⟩
theorem lm_11_205 : mm_lm "ScreenTalkModel" 205 194 := Or.inl wi_1526
theorem lf_11_63 : mm_lf "ScreenTalkModel" 63 11 29 := ⟨(RX11, TX11, 47), rfl, by decide, Or.inl wi_1317⟩
theorem lm_11_208 : mm_lm "ScreenTalkModel" 208 166 := Or.inl wi_1463
theorem lm_11_211 : mm_lm "ScreenTalkModel" 211 173 := Or.inl wi_1493
theorem lm_11_214 : mm_lm "ScreenTalkModel" 214 174 := Or.inl wi_1518
theorem lm_11_217 : mm_lm "ScreenTalkModel" 217 175 := Or.inl wi_1522
theorem lf_11_54 : mm_lf "ScreenTalkModel" 54 11 25 := ⟨(RX11, TX11, 47), rfl, by decide, Or.inl wi_1313⟩
theorem lm_11_220 : mm_lm "ScreenTalkModel" 220 149 := Or.inl wi_1539
theorem lm_11_224 : mm_lm "ScreenTalkModel" 224 177 := Or.inl wi_1542
theorem lm_11_239 : mm_lm "ScreenTalkModel" 239 181 := Or.inl wi_1576
theorem lm_11_244 : mm_lm "ScreenTalkModel" 244 168 := Or.inl wi_1581
theorem lm_11_247 : mm_lm "ScreenTalkModel" 247 183 := Or.inl wi_1585
theorem lf_11_57 : mm_lf "ScreenTalkModel" 57 11 26 := ⟨(RX11, TX11, 47), rfl, by decide, Or.inl wi_1314⟩
theorem lm_11_257 : mm_lm "ScreenTalkModel" 257 184 := Or.inl wi_1599
theorem lm_11_260 : mm_lm "ScreenTalkModel" 260 197 := Or.inl wi_1603
theorem lm_11_264 : mm_lm "ScreenTalkModel" 264 198 := Or.inl wi_1608
theorem lm_11_267 : mm_lm "ScreenTalkModel" 267 185 := Or.inl wi_1612
theorem lm_11_270 : mm_lm "ScreenTalkModel" 270 186 := Or.inl wi_1616
theorem lm_11_273 : mm_lm "ScreenTalkModel" 273 187 := Or.inl wi_1595
theorem lf_11_60 : mm_lf "ScreenTalkModel" 60 11 27 := ⟨(RX11, TX11, 47), rfl, by decide, Or.inl wi_1315⟩
theorem lf_11_276 : mm_lf "ScreenTalkModel" 276 11 28 := ⟨(RX11, TX11, 47), rfl, by decide, Or.inl wi_1316⟩
theorem lp_11_276 (nm : String) : mm_lp "ScreenTalkModel" nm 276 11 28 := ⟨(RX11, TX11, 47), rfl, by decide, Or.inl ⟨rfl, Or.inl wi_1316⟩⟩
theorem lm_11_279 : mm_lm "ScreenTalkModel" 279 189 := Or.inl wi_1628
theorem lm_11_282 : mm_lm "ScreenTalkModel" 282 190 := Or.inl wi_1624
theorem lm_11_286 : mm_lm "ScreenTalkModel" 286 193 := Or.inl wi_1531
theorem lm_11_289 : mm_lm "ScreenTalkModel" 289 150 := Or.inl wi_1534
theorem lm_11_304 : mm_lm "ScreenTalkModel" 304 195 := Or.inl wi_1640
theorem lm_11_321 : mm_lm "ScreenTalkModel" 321 200 := Or.inl wi_1656
theorem lf_11_66 : mm_lf "ScreenTalkModel" 66 11 30 := ⟨(RX11, TX11, 47), rfl, by decide, Or.inl wi_1318⟩
theorem lm_11_324 : mm_lm "ScreenTalkModel" 324 201 := Or.inl wi_1665
theorem lm_11_327 : mm_lm "ScreenTalkModel" 327 202 := Or.inl wi_1669
theorem lm_11_330 : mm_lm "ScreenTalkModel" 330 203 := Or.inl wi_1680
theorem lp_11_333 (nm : String) : mm_lp "ScreenTalkModel" nm 333 11 33 := ⟨(RX11, TX11, 47), rfl, by decide, Or.inl ⟨rfl, Or.inl wi_1321⟩⟩
theorem lp_11_336 (nm : String) : mm_lp "ScreenTalkModel" nm 336 11 34 := ⟨(RX11, TX11, 47), rfl, by decide, Or.inl ⟨rfl, Or.inl wi_1322⟩⟩
theorem lf_11_333 : mm_lf "ScreenTalkModel" 333 11 33 := ⟨(RX11, TX11, 47), rfl, by decide, Or.inl wi_1321⟩
theorem lm_11_339 : mm_lm "ScreenTalkModel" 339 207 := Or.inl wi_1688
theorem lf_11_336 : mm_lf "ScreenTalkModel" 336 11 34 := ⟨(RX11, TX11, 47), rfl, by decide, Or.inl wi_1322⟩
theorem lf_11_75 : mm_lf "ScreenTalkModel" 75 11 35 := ⟨(RX11, TX11, 47), rfl, by decide, Or.inl wi_1323⟩
theorem lm_11_342 : mm_lm "ScreenTalkModel" 342 211 := Or.inl wi_1704
theorem lf_11_81 : mm_lf "ScreenTalkModel" 81 11 37 := ⟨(RX11, TX11, 47), rfl, by decide, Or.inl wi_1325⟩
theorem lf_11_84 : mm_lf "ScreenTalkModel" 84 11 38 := ⟨(RX11, TX11, 47), rfl, by decide, Or.inl wi_1326⟩
theorem lm_11_347 : mm_lm "ScreenTalkModel" 347 212 := Or.inl wi_1708
theorem lf_11_69 : mm_lf "ScreenTalkModel" 69 11 31 := ⟨(RX11, TX11, 47), rfl, by decide, Or.inl wi_1319⟩
theorem lf_11_72 : mm_lf "ScreenTalkModel" 72 11 32 := ⟨(RX11, TX11, 47), rfl, by decide, Or.inl wi_1320⟩
theorem lm_11_350 : mm_lm "ScreenTalkModel" 350 215 := Or.inl wi_1724
theorem lm_11_353 : mm_lm "ScreenTalkModel" 353 216 := Or.inl wi_1720
theorem lp_11_356 (nm : String) : mm_lp "ScreenTalkModel" nm 356 11 44 := ⟨(RX11, TX11, 47), rfl, by decide, Or.inl ⟨rfl, Or.inl wi_1332⟩⟩
theorem lm_11_359 : mm_lm "ScreenTalkModel" 359 218 := Or.inl wi_1753
theorem lf_11_362 : mm_lf "ScreenTalkModel" 362 11 43 := ⟨(RX11, TX11, 47), rfl, by decide, Or.inl wi_1331⟩
theorem lp_11_362 (nm : String) : mm_lp "ScreenTalkModel" nm 362 11 43 := ⟨(RX11, TX11, 47), rfl, by decide, Or.inl ⟨rfl, Or.inl wi_1331⟩⟩
theorem lm_11_365 : mm_lm "ScreenTalkModel" 365 220 := Or.inl wi_1757
theorem lm_11_368 : mm_lm "ScreenTalkModel" 368 219 := Or.inl wi_1765
theorem lf_11_371 : mm_lf "ScreenTalkModel" 371 11 42 := ⟨(RX11, TX11, 47), rfl, by decide, Or.inl wi_1330⟩
theorem lf_11_93 : mm_lf "ScreenTalkModel" 93 11 41 := ⟨(RX11, TX11, 47), rfl, by decide, Or.inl wi_1329⟩
theorem lm_11_374 : mm_lm "ScreenTalkModel" 374 224 := Or.inl wi_1745
theorem lm_11_377 : mm_lm "ScreenTalkModel" 377 221 := Or.inl wi_1749
theorem lm_11_380 : mm_lm "ScreenTalkModel" 380 222 := Or.inl wi_1761
theorem lf_11_356 : mm_lf "ScreenTalkModel" 356 11 44 := ⟨(RX11, TX11, 47), rfl, by decide, Or.inl wi_1332⟩
theorem lm_11_385 : mm_lm "ScreenTalkModel" 385 223 := Or.inl wi_1737
theorem lm_11_388 : mm_lm "ScreenTalkModel" 388 225 := Or.inl wi_1741
theorem lm_11_391 : mm_lm "ScreenTalkModel" 391 228 := Or.inl wi_1773
theorem lp_11_371 (nm : String) : mm_lp "ScreenTalkModel" nm 371 11 42 := ⟨(RX11, TX11, 47), rfl, by decide, Or.inl ⟨rfl, Or.inl wi_1330⟩⟩
theorem lf_11_78 : mm_lf "ScreenTalkModel" 78 11 36 := ⟨(RX11, TX11, 47), rfl, by decide, Or.inl wi_1324⟩
theorem lf_11_87 : mm_lf "ScreenTalkModel" 87 11 39 := ⟨(RX11, TX11, 47), rfl, by decide, Or.inl wi_1327⟩
theorem lf_11_90 : mm_lf "ScreenTalkModel" 90 11 40 := ⟨(RX11, TX11, 47), rfl, by decide, Or.inl wi_1328⟩
theorem lm_11_396 : mm_lm "ScreenTalkModel" 396 233 := Or.inl wi_1794
theorem lm_11_399 : mm_lm "ScreenTalkModel" 399 235 := Or.inl wi_1798
theorem lm_11_403 : mm_lm "ScreenTalkModel" 403 236 := Or.inl wi_1802
theorem lm_11_406 : mm_lm "ScreenTalkModel" 406 234 := Or.inl wi_1806
theorem lf_11_409 : mm_lf "ScreenTalkModel" 409 11 45 := ⟨(RX11, TX11, 47), rfl, by decide, Or.inl wi_1333⟩
theorem lp_11_409 (nm : String) : mm_lp "ScreenTalkModel" nm 409 11 45 := ⟨(RX11, TX11, 47), rfl, by decide, Or.inl ⟨rfl, Or.inl wi_1333⟩⟩
theorem lp_11_412 (nm : String) : mm_lp "ScreenTalkModel" nm 412 11 46 := ⟨(RX11, TX11, 47), rfl, by decide, Or.inl ⟨rfl, Or.inl wi_1334⟩⟩
theorem lm_11_415 : mm_lm "ScreenTalkModel" 415 240 := Or.inl wi_1818
theorem lm_11_418 : mm_lm "ScreenTalkModel" 418 239 := Or.inl wi_1821
theorem lf_11_412 : mm_lf "ScreenTalkModel" 412 11 46 := ⟨(RX11, TX11, 47), rfl, by decide, Or.inl wi_1334⟩
theorem lm_12_1 : mm_lm "java/lang/StringBuilder" 1 246 := Or.inl wi_341
theorem ls_13_18 : mm_ls "java/lang/AbstractStringBuilder" 18 0 1 := ⟨("java/lang/String", "COMPACT_STRINGS", "Z", 0, 1), List.mem_of_getElem? (i := 5) rfl, rfl, rfl, Or.inl wi_345⟩
theorem lp_13_15 (nm : String) : mm_lp "java/lang/AbstractStringBuilder" nm 15 12 0 := ⟨(RJ4, TJ4, 4), rfl, by decide, Or.inl ⟨rfl, Or.inl wi_354⟩⟩
theorem lp_13_22 (nm : String) : mm_lp "java/lang/AbstractStringBuilder" nm 22 12 1 := ⟨(RJ4, TJ4, 4), rfl, by decide, Or.inl ⟨rfl, Or.inl wi_355⟩⟩
theorem lf_13_79 : mm_lf "java/lang/AbstractStringBuilder" 79 12 3 := ⟨(RJ4, TJ4, 4), rfl, by decide, Or.inl wi_357⟩
theorem lf_13_15 : mm_lf "java/lang/AbstractStringBuilder" 15 12 0 := ⟨(RJ4, TJ4, 4), rfl, by decide, Or.inl wi_354⟩
theorem lf_13_22 : mm_lf "java/lang/AbstractStringBuilder" 22 12 1 := ⟨(RJ4, TJ4, 4), rfl, by decide, Or.inl wi_355⟩
theorem lm_13_100 : mm_lm "java/lang/AbstractStringBuilder" 100 253 := Or.inl wi_861
theorem lm_13_83 : mm_lm "java/lang/AbstractStringBuilder" 83 258 := Or.inl wi_890
theorem lp_13_73 (nm : String) : mm_lp "java/lang/AbstractStringBuilder" nm 73 12 2 := ⟨(RJ4, TJ4, 4), rfl, by decide, Or.inl ⟨rfl, Or.inl wi_356⟩⟩
theorem lp_13_79 (nm : String) : mm_lp "java/lang/AbstractStringBuilder" nm 79 12 3 := ⟨(RJ4, TJ4, 4), rfl, by decide, Or.inl ⟨rfl, Or.inl wi_357⟩⟩
theorem lm_13_144 : mm_lm "java/lang/AbstractStringBuilder" 144 261 := Or.inl wi_1012
theorem lm_13_191 : mm_lm "java/lang/AbstractStringBuilder" 191 262 := Or.inl wi_963
theorem lm_13_245 : mm_lm "java/lang/AbstractStringBuilder" 245 260 := Or.inl wi_915
theorem lm_13_248 : mm_lm "java/lang/AbstractStringBuilder" 248 259 := Or.inl wi_918
theorem ls_14_83 : mm_ls "java/lang/Integer" 83 2 4 := ⟨("java/lang/Integer", "DigitOnes", "[B", 2, 4), List.mem_of_getElem? (i := 3) rfl, rfl, rfl, Or.inl wi_921⟩
theorem ls_14_87 : mm_ls "java/lang/Integer" 87 2 5 := ⟨("java/lang/Integer", "DigitTens", "[B", 2, 5), List.mem_of_getElem? (i := 4) rfl, rfl, rfl, Or.inl wi_923⟩
theorem ls_15_1053 : mm_ls "java/lang/String" 1053 2 7 := ⟨("jdk/internal/util/Preconditions", "SIOOBE_FORMATTER", "Ljava/util/function/BiFunction;", 2, 7), List.mem_of_getElem? (i := 6) rfl, rfl, rfl, Or.inl wi_937⟩
theorem lm_15_1059 : mm_lm "java/lang/String" 1059 264 := Or.inl wi_994
theorem lm_16_9 : mm_lm "ScreenTalkLaw" 9 98 := Or.inl wi_116
theorem lm_16_12 : mm_lm "ScreenTalkLaw" 12 151 := Or.inl wi_1280
theorem lm_16_13 : mm_lm "ScreenTalkLaw" 13 99 := Or.inl wi_520
theorem lm_16_17 : mm_lm "ScreenTalkLaw" 17 152 := Or.inl wi_1430
theorem lm_16_18 : mm_lm "ScreenTalkLaw" 18 100 := Or.inl wi_528
theorem lm_16_22 : mm_lm "ScreenTalkLaw" 22 157 := Or.inl wi_1434
theorem lm_16_23 : mm_lm "ScreenTalkLaw" 23 101 := Or.inl wi_778
theorem lm_16_26 : mm_lm "ScreenTalkLaw" 26 158 := Or.inl wi_1546
theorem lm_16_27 : mm_lm "ScreenTalkLaw" 27 102 := Or.inl wi_782
theorem lm_16_30 : mm_lm "ScreenTalkLaw" 30 159 := Or.inl wi_1550
theorem lm_16_31 : mm_lm "ScreenTalkLaw" 31 103 := Or.inl wi_788
theorem lm_16_34 : mm_lm "ScreenTalkLaw" 34 178 := Or.inl wi_1554
theorem lm_16_35 : mm_lm "ScreenTalkLaw" 35 105 := Or.inl wi_809
theorem lm_16_38 : mm_lm "ScreenTalkLaw" 38 179 := Or.inl wi_1563
theorem lm_16_39 : mm_lm "ScreenTalkLaw" 39 106 := Or.inl wi_814
theorem lm_16_43 : mm_lm "ScreenTalkLaw" 43 180 := Or.inl wi_1567
theorem lm_16_44 : mm_lm "ScreenTalkLaw" 44 107 := Or.inl wi_824
theorem lm_16_47 : mm_lm "ScreenTalkLaw" 47 188 := Or.inl wi_1591
theorem lm_16_48 : mm_lm "ScreenTalkLaw" 48 108 := Or.inl wi_832
theorem lm_16_51 : mm_lm "ScreenTalkLaw" 51 182 := Or.inl wi_1572
theorem lm_16_52 : mm_lm "ScreenTalkLaw" 52 109 := Or.inl wi_850
theorem lm_16_55 : mm_lm "ScreenTalkLaw" 55 191 := Or.inl wi_1620
theorem lm_16_56 : mm_lm "ScreenTalkLaw" 56 110 := Or.inl wi_1016
theorem lm_16_60 : mm_lm "ScreenTalkLaw" 60 192 := Or.inl wi_1632
theorem lm_16_61 : mm_lm "ScreenTalkLaw" 61 111 := Or.inl wi_1021
theorem lm_16_64 : mm_lm "ScreenTalkLaw" 64 196 := Or.inl wi_1636
theorem lm_16_65 : mm_lm "ScreenTalkLaw" 65 112 := Or.inl wi_1035
theorem lm_16_68 : mm_lm "ScreenTalkLaw" 68 199 := Or.inl wi_1647
theorem lm_16_69 : mm_lm "ScreenTalkLaw" 69 113 := Or.inl wi_1041
theorem lm_16_73 : mm_lm "ScreenTalkLaw" 73 210 := Or.inl wi_1696
theorem lm_16_74 : mm_lm "ScreenTalkLaw" 74 117 := Or.inl wi_1060
theorem lm_16_77 : mm_lm "ScreenTalkLaw" 77 204 := Or.inl wi_1652
theorem lm_16_78 : mm_lm "ScreenTalkLaw" 78 118 := Or.inl wi_1064
theorem lm_16_81 : mm_lm "ScreenTalkLaw" 81 205 := Or.inl wi_1661
theorem lm_16_82 : mm_lm "ScreenTalkLaw" 82 119 := Or.inl wi_1068
theorem lm_16_85 : mm_lm "ScreenTalkLaw" 85 206 := Or.inl wi_1676
theorem lm_16_86 : mm_lm "ScreenTalkLaw" 86 120 := Or.inl wi_1072
theorem lm_16_89 : mm_lm "ScreenTalkLaw" 89 208 := Or.inl wi_1684
theorem lm_16_90 : mm_lm "ScreenTalkLaw" 90 121 := Or.inl wi_1084
theorem lm_16_93 : mm_lm "ScreenTalkLaw" 93 209 := Or.inl wi_1692
theorem lm_16_94 : mm_lm "ScreenTalkLaw" 94 128 := Or.inl wi_1089
theorem lm_16_97 : mm_lm "ScreenTalkLaw" 97 213 := Or.inl wi_1700
theorem lm_16_98 : mm_lm "ScreenTalkLaw" 98 129 := Or.inl wi_1113
theorem lm_16_101 : mm_lm "ScreenTalkLaw" 101 214 := Or.inl wi_1712
theorem lm_16_102 : mm_lm "ScreenTalkLaw" 102 130 := Or.inl wi_1117
theorem lm_16_106 : mm_lm "ScreenTalkLaw" 106 217 := Or.inl wi_1716
theorem lm_16_107 : mm_lm "ScreenTalkLaw" 107 131 := Or.inl wi_1126
theorem lm_16_110 : mm_lm "ScreenTalkLaw" 110 227 := Or.inl wi_1732
theorem lm_16_111 : mm_lm "ScreenTalkLaw" 111 132 := Or.inl wi_1203
theorem lm_16_114 : mm_lm "ScreenTalkLaw" 114 229 := Or.inl wi_1769
theorem lm_16_115 : mm_lm "ScreenTalkLaw" 115 133 := Or.inl wi_1212
theorem lm_16_118 : mm_lm "ScreenTalkLaw" 118 230 := Or.inl wi_1777
theorem lm_16_119 : mm_lm "ScreenTalkLaw" 119 134 := Or.inl wi_1216
theorem lm_16_122 : mm_lm "ScreenTalkLaw" 122 231 := Or.inl wi_1781
theorem lm_16_123 : mm_lm "ScreenTalkLaw" 123 135 := Or.inl wi_1228
theorem lm_16_126 : mm_lm "ScreenTalkLaw" 126 226 := Or.inl wi_1728
theorem lm_16_127 : mm_lm "ScreenTalkLaw" 127 136 := Or.inl wi_1233
theorem lm_16_130 : mm_lm "ScreenTalkLaw" 130 232 := Or.inl wi_1785
theorem lm_16_131 : mm_lm "ScreenTalkLaw" 131 140 := Or.inl wi_1237
theorem lm_16_134 : mm_lm "ScreenTalkLaw" 134 237 := Or.inl wi_1789
theorem lm_16_135 : mm_lm "ScreenTalkLaw" 135 141 := Or.inl wi_1249
theorem lm_16_138 : mm_lm "ScreenTalkLaw" 138 238 := Or.inl wi_1810
theorem lm_16_139 : mm_lm "ScreenTalkLaw" 139 142 := Or.inl wi_1258
theorem lm_16_142 : mm_lm "ScreenTalkLaw" 142 241 := Or.inl wi_1814
theorem lm_16_143 : mm_lm "ScreenTalkLaw" 143 144 := Or.inl wi_1266
theorem lm_16_146 : mm_lm "ScreenTalkLaw" 146 242 := Or.inl wi_1825
theorem lm_16_147 : mm_lm "ScreenTalkLaw" 147 145 := Or.inl wi_1270
theorem lm_16_150 : mm_lm "ScreenTalkLaw" 150 243 := Or.inl wi_1829
theorem lm_16_151 : mm_lm "ScreenTalkLaw" 151 146 := Or.inl wi_1274
theorem lm_16_154 : mm_lm "ScreenTalkLaw" 154 244 := Or.inl wi_1833
