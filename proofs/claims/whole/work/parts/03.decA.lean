theorem dX0_init_0 : decode cX0_init 0 = .ok (.aload_n 0, 1) := by decide +kernel
theorem dX0_init_1 : decode cX0_init 1 = .ok (.invokespecial 3, 3) := by decide +kernel
theorem dX0_init_4 : decode cX0_init 4 = .ok (.aload_n 0, 1) := by decide +kernel
theorem dX0_init_5 : decode cX0_init 5 = .ok (.sipush 520, 3) := by decide +kernel
theorem dX0_init_8 : decode cX0_init 8 = .ok (.newarray .int, 2) := by decide +kernel
theorem dX0_init_10 : decode cX0_init 10 = .ok (.putfield 9, 3) := by decide +kernel
theorem dX0_init_13 : decode cX0_init 13 = .ok (.return_, 1) := by decide +kernel
theorem dX0_clear_0 : decode cX0_clear 0 = .ok (.aload_n 0, 1) := by decide +kernel
theorem dX0_clear_1 : decode cX0_clear 1 = .ok (.iconst 0, 1) := by decide +kernel
theorem dX0_clear_2 : decode cX0_clear 2 = .ok (.putfield 15, 3) := by decide +kernel
theorem dX0_clear_5 : decode cX0_clear 5 = .ok (.return_, 1) := by decide +kernel
theorem dX0_addInt_0 : decode cX0_addInt 0 = .ok (.bipush 24, 2) := by decide +kernel
theorem dX0_addInt_2 : decode cX0_addInt 2 = .ok (.istore_n 2, 1) := by decide +kernel
theorem dX0_addInt_3 : decode cX0_addInt 3 = .ok (.iload_n 2, 1) := by decide +kernel
theorem dX0_addInt_4 : decode cX0_addInt 4 = .ok (.ifCond .lt 54, 3) := by decide +kernel
theorem dX0_addInt_7 : decode cX0_addInt 7 = .ok (.aload_n 0, 1) := by decide +kernel
theorem dX0_addInt_8 : decode cX0_addInt 8 = .ok (.getfield 15, 3) := by decide +kernel
theorem dX0_addInt_11 : decode cX0_addInt 11 = .ok (.ifCond .lt 41, 3) := by decide +kernel
theorem dX0_addInt_14 : decode cX0_addInt 14 = .ok (.aload_n 0, 1) := by decide +kernel
theorem dX0_addInt_15 : decode cX0_addInt 15 = .ok (.getfield 15, 3) := by decide +kernel
theorem dX0_addInt_18 : decode cX0_addInt 18 = .ok (.aload_n 0, 1) := by decide +kernel
theorem dX0_addInt_19 : decode cX0_addInt 19 = .ok (.getfield 9, 3) := by decide +kernel
theorem dX0_addInt_22 : decode cX0_addInt 22 = .ok (.arraylength, 1) := by decide +kernel
theorem dX0_addInt_23 : decode cX0_addInt 23 = .ok (.if_icmp .ge 29, 3) := by decide +kernel
theorem dX0_addInt_26 : decode cX0_addInt 26 = .ok (.aload_n 0, 1) := by decide +kernel
theorem dX0_addInt_27 : decode cX0_addInt 27 = .ok (.getfield 9, 3) := by decide +kernel
theorem dX0_addInt_30 : decode cX0_addInt 30 = .ok (.aload_n 0, 1) := by decide +kernel
theorem dX0_addInt_31 : decode cX0_addInt 31 = .ok (.getfield 15, 3) := by decide +kernel
theorem dX0_addInt_34 : decode cX0_addInt 34 = .ok (.iload_n 1, 1) := by decide +kernel
theorem dX0_addInt_35 : decode cX0_addInt 35 = .ok (.iload_n 2, 1) := by decide +kernel
theorem dX0_addInt_36 : decode cX0_addInt 36 = .ok (.ishr, 1) := by decide +kernel
theorem dX0_addInt_37 : decode cX0_addInt 37 = .ok (.sipush 255, 3) := by decide +kernel
theorem dX0_addInt_40 : decode cX0_addInt 40 = .ok (.iand, 1) := by decide +kernel
theorem dX0_addInt_41 : decode cX0_addInt 41 = .ok (.iastore, 1) := by decide +kernel
theorem dX0_addInt_42 : decode cX0_addInt 42 = .ok (.aload_n 0, 1) := by decide +kernel
theorem dX0_addInt_43 : decode cX0_addInt 43 = .ok (.dup, 1) := by decide +kernel
theorem dX0_addInt_44 : decode cX0_addInt 44 = .ok (.getfield 15, 3) := by decide +kernel
theorem dX0_addInt_47 : decode cX0_addInt 47 = .ok (.iconst 1, 1) := by decide +kernel
theorem dX0_addInt_48 : decode cX0_addInt 48 = .ok (.iadd, 1) := by decide +kernel
theorem dX0_addInt_49 : decode cX0_addInt 49 = .ok (.putfield 15, 3) := by decide +kernel
theorem dX0_addInt_52 : decode cX0_addInt 52 = .ok (.iinc 2 (-8), 3) := by decide +kernel
theorem dX0_addInt_55 : decode cX0_addInt 55 = .ok (.goto (-52), 3) := by decide +kernel
theorem dX0_addInt_58 : decode cX0_addInt 58 = .ok (.return_, 1) := by decide +kernel
theorem dX0_at_0 : decode cX0_at 0 = .ok (.iload_n 1, 1) := by decide +kernel
theorem dX0_at_1 : decode cX0_at 1 = .ok (.ifCond .lt 29, 3) := by decide +kernel
theorem dX0_at_4 : decode cX0_at 4 = .ok (.iload_n 1, 1) := by decide +kernel
theorem dX0_at_5 : decode cX0_at 5 = .ok (.aload_n 0, 1) := by decide +kernel
theorem dX0_at_6 : decode cX0_at 6 = .ok (.getfield 15, 3) := by decide +kernel
theorem dX0_at_9 : decode cX0_at 9 = .ok (.if_icmp .ge 21, 3) := by decide +kernel
theorem dX0_at_12 : decode cX0_at 12 = .ok (.iload_n 1, 1) := by decide +kernel
theorem dX0_at_13 : decode cX0_at 13 = .ok (.aload_n 0, 1) := by decide +kernel
theorem dX0_at_14 : decode cX0_at 14 = .ok (.getfield 9, 3) := by decide +kernel
theorem dX0_at_17 : decode cX0_at 17 = .ok (.arraylength, 1) := by decide +kernel
theorem dX0_at_18 : decode cX0_at 18 = .ok (.if_icmp .ge 12, 3) := by decide +kernel
theorem dX0_at_21 : decode cX0_at 21 = .ok (.aload_n 0, 1) := by decide +kernel
theorem dX0_at_22 : decode cX0_at 22 = .ok (.getfield 9, 3) := by decide +kernel
theorem dX0_at_25 : decode cX0_at 25 = .ok (.iload_n 1, 1) := by decide +kernel
theorem dX0_at_26 : decode cX0_at 26 = .ok (.iaload, 1) := by decide +kernel
theorem dX0_at_27 : decode cX0_at 27 = .ok (.goto 4, 3) := by decide +kernel
theorem dX0_at_30 : decode cX0_at 30 = .ok (.iconst 0, 1) := by decide +kernel
theorem dX0_at_31 : decode cX0_at 31 = .ok (.ireturn, 1) := by decide +kernel
theorem dX0_take_0 : decode cX0_take 0 = .ok (.aload_n 0, 1) := by decide +kernel
theorem dX0_take_1 : decode cX0_take 1 = .ok (.iconst 0, 1) := by decide +kernel
theorem dX0_take_2 : decode cX0_take 2 = .ok (.iload_n 2, 1) := by decide +kernel
theorem dX0_take_3 : decode cX0_take 3 = .ok (.aload_n 1, 1) := by decide +kernel
theorem dX0_take_4 : decode cX0_take 4 = .ok (.getfield 15, 3) := by decide +kernel
theorem dX0_take_7 : decode cX0_take 7 = .ok (.invokestatic 19, 3) := by decide +kernel
theorem dX0_take_10 : decode cX0_take 10 = .ok (.invokestatic 25, 3) := by decide +kernel
theorem dX0_take_13 : decode cX0_take 13 = .ok (.putfield 15, 3) := by decide +kernel
theorem dX0_take_16 : decode cX0_take 16 = .ok (.aload_n 1, 1) := by decide +kernel
theorem dX0_take_17 : decode cX0_take 17 = .ok (.getfield 9, 3) := by decide +kernel
theorem dX0_take_20 : decode cX0_take 20 = .ok (.iconst 0, 1) := by decide +kernel
theorem dX0_take_21 : decode cX0_take 21 = .ok (.aload_n 0, 1) := by decide +kernel
theorem dX0_take_22 : decode cX0_take 22 = .ok (.getfield 9, 3) := by decide +kernel
theorem dX0_take_25 : decode cX0_take 25 = .ok (.iconst 0, 1) := by decide +kernel
theorem dX0_take_26 : decode cX0_take 26 = .ok (.aload_n 0, 1) := by decide +kernel
theorem dX0_take_27 : decode cX0_take 27 = .ok (.getfield 15, 3) := by decide +kernel
theorem dX0_take_30 : decode cX0_take 30 = .ok (.invokestatic 28, 3) := by decide +kernel
theorem dX0_take_33 : decode cX0_take 33 = .ok (.return_, 1) := by decide +kernel
theorem dX0_sumOfBlock_0 : decode cX0_sumOfBlock 0 = .ok (.iconst 0, 1) := by decide +kernel
theorem dX0_sumOfBlock_1 : decode cX0_sumOfBlock 1 = .ok (.istore_n 2, 1) := by decide +kernel
theorem dX0_sumOfBlock_2 : decode cX0_sumOfBlock 2 = .ok (.iconst 0, 1) := by decide +kernel
theorem dX0_sumOfBlock_3 : decode cX0_sumOfBlock 3 = .ok (.istore_n 3, 1) := by decide +kernel
theorem dX0_sumOfBlock_4 : decode cX0_sumOfBlock 4 = .ok (.iload_n 3, 1) := by decide +kernel
theorem dX0_sumOfBlock_5 : decode cX0_sumOfBlock 5 = .ok (.sipush 128, 3) := by decide +kernel
theorem dX0_sumOfBlock_8 : decode cX0_sumOfBlock 8 = .ok (.if_icmp .ge 23, 3) := by decide +kernel
theorem dX0_sumOfBlock_11 : decode cX0_sumOfBlock 11 = .ok (.iload_n 2, 1) := by decide +kernel
theorem dX0_sumOfBlock_12 : decode cX0_sumOfBlock 12 = .ok (.aload_n 0, 1) := by decide +kernel
theorem dX0_sumOfBlock_13 : decode cX0_sumOfBlock 13 = .ok (.iload_n 1, 1) := by decide +kernel
theorem dX0_sumOfBlock_14 : decode cX0_sumOfBlock 14 = .ok (.sipush 128, 3) := by decide +kernel
theorem dX0_sumOfBlock_17 : decode cX0_sumOfBlock 17 = .ok (.imul, 1) := by decide +kernel
theorem dX0_sumOfBlock_18 : decode cX0_sumOfBlock 18 = .ok (.iload_n 3, 1) := by decide +kernel
theorem dX0_sumOfBlock_19 : decode cX0_sumOfBlock 19 = .ok (.iadd, 1) := by decide +kernel
theorem dX0_sumOfBlock_20 : decode cX0_sumOfBlock 20 = .ok (.invokevirtual 34, 3) := by decide +kernel
theorem dX0_sumOfBlock_23 : decode cX0_sumOfBlock 23 = .ok (.iadd, 1) := by decide +kernel
theorem dX0_sumOfBlock_24 : decode cX0_sumOfBlock 24 = .ok (.istore_n 2, 1) := by decide +kernel
theorem dX0_sumOfBlock_25 : decode cX0_sumOfBlock 25 = .ok (.iinc 3 1, 3) := by decide +kernel
theorem dX0_sumOfBlock_28 : decode cX0_sumOfBlock 28 = .ok (.goto (-24), 3) := by decide +kernel
theorem dX0_sumOfBlock_31 : decode cX0_sumOfBlock 31 = .ok (.iload_n 2, 1) := by decide +kernel
theorem dX0_sumOfBlock_32 : decode cX0_sumOfBlock 32 = .ok (.sipush 255, 3) := by decide +kernel
theorem dX0_sumOfBlock_35 : decode cX0_sumOfBlock 35 = .ok (.iand, 1) := by decide +kernel
theorem dX0_sumOfBlock_36 : decode cX0_sumOfBlock 36 = .ok (.ireturn, 1) := by decide +kernel
theorem dX1_init_0 : decode cX1_init 0 = .ok (.aload_n 0, 1) := by decide +kernel
theorem dX1_init_1 : decode cX1_init 1 = .ok (.invokespecial 3, 3) := by decide +kernel
theorem dX1_init_4 : decode cX1_init 4 = .ok (.aload_n 0, 1) := by decide +kernel
theorem dX1_init_5 : decode cX1_init 5 = .ok (.sipush 128, 3) := by decide +kernel
theorem dX1_init_8 : decode cX1_init 8 = .ok (.newarray .int, 2) := by decide +kernel
theorem dX1_init_10 : decode cX1_init 10 = .ok (.putfield 9, 3) := by decide +kernel
theorem dX1_init_13 : decode cX1_init 13 = .ok (.return_, 1) := by decide +kernel
theorem dX1_at_0 : decode cX1_at 0 = .ok (.iload_n 1, 1) := by decide +kernel
theorem dX1_at_1 : decode cX1_at 1 = .ok (.ifCond .lt 21, 3) := by decide +kernel
theorem dX1_at_4 : decode cX1_at 4 = .ok (.iload_n 1, 1) := by decide +kernel
theorem dX1_at_5 : decode cX1_at 5 = .ok (.aload_n 0, 1) := by decide +kernel
theorem dX1_at_6 : decode cX1_at 6 = .ok (.getfield 9, 3) := by decide +kernel
theorem dX1_at_9 : decode cX1_at 9 = .ok (.arraylength, 1) := by decide +kernel
theorem dX1_at_10 : decode cX1_at 10 = .ok (.if_icmp .ge 12, 3) := by decide +kernel
theorem dX1_at_13 : decode cX1_at 13 = .ok (.aload_n 0, 1) := by decide +kernel
theorem dX1_at_14 : decode cX1_at 14 = .ok (.getfield 9, 3) := by decide +kernel
theorem dX1_at_17 : decode cX1_at 17 = .ok (.iload_n 1, 1) := by decide +kernel
theorem dX1_at_18 : decode cX1_at 18 = .ok (.iaload, 1) := by decide +kernel
theorem dX1_at_19 : decode cX1_at 19 = .ok (.goto 4, 3) := by decide +kernel
theorem dX1_at_22 : decode cX1_at 22 = .ok (.iconst 0, 1) := by decide +kernel
theorem dX1_at_23 : decode cX1_at 23 = .ok (.ireturn, 1) := by decide +kernel
theorem dX1_make_0 : decode cX1_make 0 = .ok (.aload_n 0, 1) := by decide +kernel
theorem dX1_make_1 : decode cX1_make 1 = .ok (.getfield 9, 3) := by decide +kernel
theorem dX1_make_4 : decode cX1_make 4 = .ok (.iconst 0, 1) := by decide +kernel
theorem dX1_make_5 : decode cX1_make 5 = .ok (.invokestatic 15, 3) := by decide +kernel
theorem dX1_make_8 : decode cX1_make 8 = .ok (.aload_n 0, 1) := by decide +kernel
theorem dX1_make_9 : decode cX1_make 9 = .ok (.iconst 1, 1) := by decide +kernel
theorem dX1_make_10 : decode cX1_make 10 = .ok (.putfield 21, 3) := by decide +kernel
theorem dX1_make_13 : decode cX1_make 13 = .ok (.iconst 0, 1) := by decide +kernel
theorem dX1_make_14 : decode cX1_make 14 = .ok (.istore_n 3, 1) := by decide +kernel
theorem dX1_make_15 : decode cX1_make 15 = .ok (.iload_n 3, 1) := by decide +kernel
theorem dX1_make_16 : decode cX1_make 16 = .ok (.bipush 8, 2) := by decide +kernel
theorem dX1_make_18 : decode cX1_make 18 = .ok (.if_icmp .ge 19, 3) := by decide +kernel
theorem dX1_make_21 : decode cX1_make 21 = .ok (.aload_n 0, 1) := by decide +kernel
theorem dX1_make_22 : decode cX1_make 22 = .ok (.getfield 9, 3) := by decide +kernel
theorem dX1_make_25 : decode cX1_make 25 = .ok (.iload_n 3, 1) := by decide +kernel
theorem dX1_make_26 : decode cX1_make 26 = .ok (.iload_n 3, 1) := by decide +kernel
theorem dX1_make_27 : decode cX1_make 27 = .ok (.invokestatic 25, 3) := by decide +kernel
theorem dX1_make_30 : decode cX1_make 30 = .ok (.iastore, 1) := by decide +kernel
theorem dX1_make_31 : decode cX1_make 31 = .ok (.iinc 3 1, 3) := by decide +kernel
theorem dX1_make_34 : decode cX1_make 34 = .ok (.goto (-19), 3) := by decide +kernel
theorem dX1_make_37 : decode cX1_make 37 = .ok (.aload_n 0, 1) := by decide +kernel
theorem dX1_make_38 : decode cX1_make 38 = .ok (.getfield 9, 3) := by decide +kernel
theorem dX1_make_41 : decode cX1_make 41 = .ok (.bipush 8, 2) := by decide +kernel
theorem dX1_make_43 : decode cX1_make 43 = .ok (.aload_n 1, 1) := by decide +kernel
theorem dX1_make_44 : decode cX1_make 44 = .ok (.getfield 29, 3) := by decide +kernel
theorem dX1_make_47 : decode cX1_make 47 = .ok (.bipush 8, 2) := by decide +kernel
theorem dX1_make_49 : decode cX1_make 49 = .ok (.invokevirtual 35, 3) := by decide +kernel
theorem dX1_make_52 : decode cX1_make 52 = .ok (.iastore, 1) := by decide +kernel
theorem dX1_make_53 : decode cX1_make 53 = .ok (.aload_n 0, 1) := by decide +kernel
theorem dX1_make_54 : decode cX1_make 54 = .ok (.getfield 9, 3) := by decide +kernel
theorem dX1_make_57 : decode cX1_make 57 = .ok (.bipush 9, 2) := by decide +kernel
theorem dX1_make_59 : decode cX1_make 59 = .ok (.aload_n 1, 1) := by decide +kernel
theorem dX1_make_60 : decode cX1_make 60 = .ok (.getfield 29, 3) := by decide +kernel
theorem dX1_make_63 : decode cX1_make 63 = .ok (.bipush 9, 2) := by decide +kernel
theorem dX1_make_65 : decode cX1_make 65 = .ok (.invokevirtual 35, 3) := by decide +kernel
theorem dX1_make_68 : decode cX1_make 68 = .ok (.iastore, 1) := by decide +kernel
theorem dX1_make_69 : decode cX1_make 69 = .ok (.aload_n 0, 1) := by decide +kernel
theorem dX1_make_70 : decode cX1_make 70 = .ok (.getfield 9, 3) := by decide +kernel
theorem dX1_make_73 : decode cX1_make 73 = .ok (.bipush 18, 2) := by decide +kernel
theorem dX1_make_75 : decode cX1_make 75 = .ok (.iconst 1, 1) := by decide +kernel
theorem dX1_make_76 : decode cX1_make 76 = .ok (.iastore, 1) := by decide +kernel
theorem dX1_make_77 : decode cX1_make 77 = .ok (.aload_n 0, 1) := by decide +kernel
theorem dX1_make_78 : decode cX1_make 78 = .ok (.getfield 9, 3) := by decide +kernel
theorem dX1_make_81 : decode cX1_make 81 = .ok (.bipush 21, 2) := by decide +kernel
theorem dX1_make_83 : decode cX1_make 83 = .ok (.aload_n 1, 1) := by decide +kernel
theorem dX1_make_84 : decode cX1_make 84 = .ok (.getfield 29, 3) := by decide +kernel
theorem dX1_make_87 : decode cX1_make 87 = .ok (.bipush 21, 2) := by decide +kernel
theorem dX1_make_89 : decode cX1_make 89 = .ok (.invokevirtual 35, 3) := by decide +kernel
theorem dX1_make_92 : decode cX1_make 92 = .ok (.iastore, 1) := by decide +kernel
theorem dX1_make_93 : decode cX1_make 93 = .ok (.aload_n 0, 1) := by decide +kernel
theorem dX1_make_94 : decode cX1_make 94 = .ok (.getfield 9, 3) := by decide +kernel
theorem dX1_make_97 : decode cX1_make 97 = .ok (.bipush 22, 2) := by decide +kernel
theorem dX1_make_99 : decode cX1_make 99 = .ok (.aload_n 1, 1) := by decide +kernel
theorem dX1_make_100 : decode cX1_make 100 = .ok (.getfield 29, 3) := by decide +kernel
theorem dX1_make_103 : decode cX1_make 103 = .ok (.bipush 22, 2) := by decide +kernel
theorem dX1_make_105 : decode cX1_make 105 = .ok (.invokevirtual 35, 3) := by decide +kernel
theorem dX1_make_108 : decode cX1_make 108 = .ok (.iastore, 1) := by decide +kernel
theorem dX1_make_109 : decode cX1_make 109 = .ok (.iconst 0, 1) := by decide +kernel
theorem dX1_make_110 : decode cX1_make 110 = .ok (.istore_n 3, 1) := by decide +kernel
theorem dX1_make_111 : decode cX1_make 111 = .ok (.iload_n 3, 1) := by decide +kernel
theorem dX1_make_112 : decode cX1_make 112 = .ok (.iconst 4, 1) := by decide +kernel
theorem dX1_make_113 : decode cX1_make 113 = .ok (.if_icmp .ge 31, 3) := by decide +kernel
theorem dX1_make_116 : decode cX1_make 116 = .ok (.aload_n 2, 1) := by decide +kernel
theorem dX1_make_117 : decode cX1_make 117 = .ok (.iload_n 3, 1) := by decide +kernel
theorem dX1_make_118 : decode cX1_make 118 = .ok (.invokevirtual 40, 3) := by decide +kernel
theorem dX1_make_121 : decode cX1_make 121 = .ok (.astore 4, 2) := by decide +kernel
theorem dX1_make_123 : decode cX1_make 123 = .ok (.aload 4, 2) := by decide +kernel
theorem dX1_make_125 : decode cX1_make 125 = .ok (.ifnull 13, 3) := by decide +kernel
theorem dX1_make_128 : decode cX1_make 128 = .ok (.aload_n 0, 1) := by decide +kernel
theorem dX1_make_129 : decode cX1_make 129 = .ok (.iload_n 3, 1) := by decide +kernel
theorem dX1_make_130 : decode cX1_make 130 = .ok (.aload 4, 2) := by decide +kernel
theorem dX1_make_132 : decode cX1_make 132 = .ok (.getfield 45, 3) := by decide +kernel
theorem dX1_make_135 : decode cX1_make 135 = .ok (.invokevirtual 51, 3) := by decide +kernel
theorem dX1_make_138 : decode cX1_make 138 = .ok (.iinc 3 1, 3) := by decide +kernel
theorem dX1_make_141 : decode cX1_make 141 = .ok (.goto (-30), 3) := by decide +kernel
theorem dX1_make_144 : decode cX1_make 144 = .ok (.aload_n 0, 1) := by decide +kernel
theorem dX1_make_145 : decode cX1_make 145 = .ok (.aload_n 2, 1) := by decide +kernel
theorem dX1_make_146 : decode cX1_make 146 = .ok (.getfield 55, 3) := by decide +kernel
theorem dX1_make_149 : decode cX1_make 149 = .ok (.aload_n 1, 1) := by decide +kernel
theorem dX1_make_150 : decode cX1_make 150 = .ok (.invokevirtual 59, 3) := by decide +kernel
theorem dX1_make_153 : decode cX1_make 153 = .ok (.aload_n 0, 1) := by decide +kernel
theorem dX1_make_154 : decode cX1_make 154 = .ok (.aload_n 2, 1) := by decide +kernel
theorem dX1_make_155 : decode cX1_make 155 = .ok (.getfield 55, 3) := by decide +kernel
theorem dX1_make_158 : decode cX1_make 158 = .ok (.iconst 1, 1) := by decide +kernel
theorem dX1_make_159 : decode cX1_make 159 = .ok (.iadd, 1) := by decide +kernel
theorem dX1_make_160 : decode cX1_make 160 = .ok (.aload_n 1, 1) := by decide +kernel
theorem dX1_make_161 : decode cX1_make 161 = .ok (.invokevirtual 63, 3) := by decide +kernel
theorem dX1_make_164 : decode cX1_make 164 = .ok (.aload_n 0, 1) := by decide +kernel
theorem dX1_make_165 : decode cX1_make 165 = .ok (.invokevirtual 66, 3) := by decide +kernel
theorem dX1_make_168 : decode cX1_make 168 = .ok (.return_, 1) := by decide +kernel
theorem dX1_put_0 : decode cX1_put 0 = .ok (.bipush 54, 2) := by decide +kernel
theorem dX1_put_2 : decode cX1_put 2 = .ok (.iload_n 1, 1) := by decide +kernel
theorem dX1_put_3 : decode cX1_put 3 = .ok (.bipush 18, 2) := by decide +kernel
theorem dX1_put_5 : decode cX1_put 5 = .ok (.imul, 1) := by decide +kernel
theorem dX1_put_6 : decode cX1_put 6 = .ok (.iadd, 1) := by decide +kernel
theorem dX1_put_7 : decode cX1_put 7 = .ok (.iload_n 2, 1) := by decide +kernel
theorem dX1_put_8 : decode cX1_put 8 = .ok (.iadd, 1) := by decide +kernel
theorem dX1_put_9 : decode cX1_put 9 = .ok (.istore 4, 2) := by decide +kernel
theorem dX1_put_11 : decode cX1_put 11 = .ok (.iload 4, 2) := by decide +kernel
theorem dX1_put_13 : decode cX1_put 13 = .ok (.ifCond .lt 21, 3) := by decide +kernel
theorem dX1_put_16 : decode cX1_put 16 = .ok (.iload 4, 2) := by decide +kernel
theorem dX1_put_18 : decode cX1_put 18 = .ok (.aload_n 0, 1) := by decide +kernel
theorem dX1_put_19 : decode cX1_put 19 = .ok (.getfield 9, 3) := by decide +kernel
theorem dX1_put_22 : decode cX1_put 22 = .ok (.arraylength, 1) := by decide +kernel
theorem dX1_put_23 : decode cX1_put 23 = .ok (.if_icmp .ge 11, 3) := by decide +kernel
theorem dX1_put_26 : decode cX1_put 26 = .ok (.aload_n 0, 1) := by decide +kernel
theorem dX1_put_27 : decode cX1_put 27 = .ok (.getfield 9, 3) := by decide +kernel
theorem dX1_put_30 : decode cX1_put 30 = .ok (.iload 4, 2) := by decide +kernel
theorem dX1_put_32 : decode cX1_put 32 = .ok (.iload_n 3, 1) := by decide +kernel
theorem dX1_put_33 : decode cX1_put 33 = .ok (.iastore, 1) := by decide +kernel
theorem dX1_put_34 : decode cX1_put 34 = .ok (.return_, 1) := by decide +kernel
theorem dX1_putTiming_0 : decode cX1_putTiming 0 = .ok (.aload_n 2, 1) := by decide +kernel
theorem dX1_putTiming_1 : decode cX1_putTiming 1 = .ok (.invokevirtual 69, 3) := by decide +kernel
theorem dX1_putTiming_4 : decode cX1_putTiming 4 = .ok (.ifCond .ne 8, 3) := by decide +kernel
theorem dX1_putTiming_7 : decode cX1_putTiming 7 = .ok (.aload_n 0, 1) := by decide +kernel
theorem dX1_putTiming_8 : decode cX1_putTiming 8 = .ok (.iconst 0, 1) := by decide +kernel
theorem dX1_putTiming_9 : decode cX1_putTiming 9 = .ok (.putfield 21, 3) := by decide +kernel
theorem dX1_putTiming_12 : decode cX1_putTiming 12 = .ok (.iconst 0, 1) := by decide +kernel
theorem dX1_putTiming_13 : decode cX1_putTiming 13 = .ok (.istore_n 3, 1) := by decide +kernel
theorem dX1_putTiming_14 : decode cX1_putTiming 14 = .ok (.iload_n 3, 1) := by decide +kernel
theorem dX1_putTiming_15 : decode cX1_putTiming 15 = .ok (.bipush 18, 2) := by decide +kernel
theorem dX1_putTiming_17 : decode cX1_putTiming 17 = .ok (.if_icmp .ge 20, 3) := by decide +kernel
theorem dX1_putTiming_20 : decode cX1_putTiming 20 = .ok (.aload_n 0, 1) := by decide +kernel
theorem dX1_putTiming_21 : decode cX1_putTiming 21 = .ok (.iload_n 1, 1) := by decide +kernel
theorem dX1_putTiming_22 : decode cX1_putTiming 22 = .ok (.iload_n 3, 1) := by decide +kernel
theorem dX1_putTiming_23 : decode cX1_putTiming 23 = .ok (.aload_n 2, 1) := by decide +kernel
theorem dX1_putTiming_24 : decode cX1_putTiming 24 = .ok (.iload_n 3, 1) := by decide +kernel
theorem dX1_putTiming_25 : decode cX1_putTiming 25 = .ok (.invokevirtual 75, 3) := by decide +kernel
theorem dX1_putTiming_28 : decode cX1_putTiming 28 = .ok (.invokevirtual 78, 3) := by decide +kernel
theorem dX1_putTiming_31 : decode cX1_putTiming 31 = .ok (.iinc 3 1, 3) := by decide +kernel
theorem dX1_putTiming_34 : decode cX1_putTiming 34 = .ok (.goto (-20), 3) := by decide +kernel
theorem dX1_putTiming_37 : decode cX1_putTiming 37 = .ok (.return_, 1) := by decide +kernel
theorem dX1_putName_0 : decode cX1_putName 0 = .ok (.iload_n 1, 1) := by decide +kernel
theorem dX1_putName_1 : decode cX1_putName 1 = .ok (.iconst 4, 1) := by decide +kernel
theorem dX1_putName_2 : decode cX1_putName 2 = .ok (.if_icmp .ge 10, 3) := by decide +kernel
theorem dX1_putName_5 : decode cX1_putName 5 = .ok (.aload_n 2, 1) := by decide +kernel
theorem dX1_putName_6 : decode cX1_putName 6 = .ok (.getfield 82, 3) := by decide +kernel
theorem dX1_putName_9 : decode cX1_putName 9 = .ok (.ifCond .ne 4, 3) := by decide +kernel
theorem dX1_putName_12 : decode cX1_putName 12 = .ok (.return_, 1) := by decide +kernel
theorem dX1_putName_13 : decode cX1_putName 13 = .ok (.aload_n 0, 1) := by decide +kernel
theorem dX1_putName_14 : decode cX1_putName 14 = .ok (.iload_n 1, 1) := by decide +kernel
theorem dX1_putName_15 : decode cX1_putName 15 = .ok (.iconst 3, 1) := by decide +kernel
theorem dX1_putName_16 : decode cX1_putName 16 = .ok (.sipush 252, 3) := by decide +kernel
theorem dX1_putName_19 : decode cX1_putName 19 = .ok (.invokevirtual 78, 3) := by decide +kernel
theorem dX1_putName_22 : decode cX1_putName 22 = .ok (.iconst 0, 1) := by decide +kernel
theorem dX1_putName_23 : decode cX1_putName 23 = .ok (.istore_n 3, 1) := by decide +kernel
theorem dX1_putName_24 : decode cX1_putName 24 = .ok (.iload_n 3, 1) := by decide +kernel
theorem dX1_putName_25 : decode cX1_putName 25 = .ok (.bipush 13, 2) := by decide +kernel
theorem dX1_putName_27 : decode cX1_putName 27 = .ok (.if_icmp .ge 56, 3) := by decide +kernel
theorem dX1_putName_30 : decode cX1_putName 30 = .ok (.iload_n 3, 1) := by decide +kernel
theorem dX1_putName_31 : decode cX1_putName 31 = .ok (.aload_n 2, 1) := by decide +kernel
theorem dX1_putName_32 : decode cX1_putName 32 = .ok (.getfield 82, 3) := by decide +kernel
theorem dX1_putName_35 : decode cX1_putName 35 = .ok (.if_icmp .ge 19, 3) := by decide +kernel
theorem dX1_putName_38 : decode cX1_putName 38 = .ok (.aload_n 0, 1) := by decide +kernel
theorem dX1_putName_39 : decode cX1_putName 39 = .ok (.iload_n 1, 1) := by decide +kernel
theorem dX1_putName_40 : decode cX1_putName 40 = .ok (.iconst 5, 1) := by decide +kernel
theorem dX1_putName_41 : decode cX1_putName 41 = .ok (.iload_n 3, 1) := by decide +kernel
theorem dX1_putName_42 : decode cX1_putName 42 = .ok (.iadd, 1) := by decide +kernel
theorem dX1_putName_43 : decode cX1_putName 43 = .ok (.aload_n 2, 1) := by decide +kernel
theorem dX1_putName_44 : decode cX1_putName 44 = .ok (.iload_n 3, 1) := by decide +kernel
theorem dX1_putName_45 : decode cX1_putName 45 = .ok (.invokevirtual 85, 3) := by decide +kernel
theorem dX1_putName_48 : decode cX1_putName 48 = .ok (.invokevirtual 78, 3) := by decide +kernel
theorem dX1_putName_51 : decode cX1_putName 51 = .ok (.goto 26, 3) := by decide +kernel
theorem dX1_putName_54 : decode cX1_putName 54 = .ok (.aload_n 0, 1) := by decide +kernel
theorem dX1_putName_55 : decode cX1_putName 55 = .ok (.iload_n 1, 1) := by decide +kernel
theorem dX1_putName_56 : decode cX1_putName 56 = .ok (.iconst 5, 1) := by decide +kernel
theorem dX1_putName_57 : decode cX1_putName 57 = .ok (.iload_n 3, 1) := by decide +kernel
theorem dX1_putName_58 : decode cX1_putName 58 = .ok (.iadd, 1) := by decide +kernel
theorem dX1_putName_59 : decode cX1_putName 59 = .ok (.iload_n 3, 1) := by decide +kernel
theorem dX1_putName_60 : decode cX1_putName 60 = .ok (.aload_n 2, 1) := by decide +kernel
theorem dX1_putName_61 : decode cX1_putName 61 = .ok (.getfield 82, 3) := by decide +kernel
theorem dX1_putName_64 : decode cX1_putName 64 = .ok (.if_icmp .ne 8, 3) := by decide +kernel
theorem dX1_putName_67 : decode cX1_putName 67 = .ok (.bipush 10, 2) := by decide +kernel
theorem dX1_putName_69 : decode cX1_putName 69 = .ok (.goto 5, 3) := by decide +kernel
theorem dX1_putName_72 : decode cX1_putName 72 = .ok (.bipush 32, 2) := by decide +kernel
theorem dX1_putName_74 : decode cX1_putName 74 = .ok (.invokevirtual 78, 3) := by decide +kernel
theorem dX1_putName_77 : decode cX1_putName 77 = .ok (.iinc 3 1, 3) := by decide +kernel
theorem dX1_putName_80 : decode cX1_putName 80 = .ok (.goto (-56), 3) := by decide +kernel
theorem dX1_putName_83 : decode cX1_putName 83 = .ok (.return_, 1) := by decide +kernel
theorem dX1_putRange_0 : decode cX1_putRange 0 = .ok (.iload_n 1, 1) := by decide +kernel
theorem dX1_putRange_1 : decode cX1_putRange 1 = .ok (.iconst 4, 1) := by decide +kernel
theorem dX1_putRange_2 : decode cX1_putRange 2 = .ok (.if_icmp .ge 10, 3) := by decide +kernel
theorem dX1_putRange_5 : decode cX1_putRange 5 = .ok (.aload_n 2, 1) := by decide +kernel
theorem dX1_putRange_6 : decode cX1_putRange 6 = .ok (.getfield 88, 3) := by decide +kernel
theorem dX1_putRange_9 : decode cX1_putRange 9 = .ok (.ifCond .ne 4, 3) := by decide +kernel
theorem dX1_putRange_12 : decode cX1_putRange 12 = .ok (.return_, 1) := by decide +kernel
theorem dX1_putRange_13 : decode cX1_putRange 13 = .ok (.aload_n 0, 1) := by decide +kernel
theorem dX1_putRange_14 : decode cX1_putRange 14 = .ok (.iload_n 1, 1) := by decide +kernel
theorem dX1_putRange_15 : decode cX1_putRange 15 = .ok (.iconst 3, 1) := by decide +kernel
theorem dX1_putRange_16 : decode cX1_putRange 16 = .ok (.sipush 253, 3) := by decide +kernel
theorem dX1_putRange_19 : decode cX1_putRange 19 = .ok (.invokevirtual 78, 3) := by decide +kernel
theorem dX1_putRange_22 : decode cX1_putRange 22 = .ok (.iconst 0, 1) := by decide +kernel
theorem dX1_putRange_23 : decode cX1_putRange 23 = .ok (.istore_n 3, 1) := by decide +kernel
theorem dX1_putRange_24 : decode cX1_putRange 24 = .ok (.iload_n 3, 1) := by decide +kernel
theorem dX1_putRange_25 : decode cX1_putRange 25 = .ok (.iconst 5, 1) := by decide +kernel
theorem dX1_putRange_26 : decode cX1_putRange 26 = .ok (.if_icmp .ge 22, 3) := by decide +kernel
theorem dX1_putRange_29 : decode cX1_putRange 29 = .ok (.aload_n 0, 1) := by decide +kernel
theorem dX1_putRange_30 : decode cX1_putRange 30 = .ok (.iload_n 1, 1) := by decide +kernel
theorem dX1_putRange_31 : decode cX1_putRange 31 = .ok (.iconst 5, 1) := by decide +kernel
theorem dX1_putRange_32 : decode cX1_putRange 32 = .ok (.iload_n 3, 1) := by decide +kernel
theorem dX1_putRange_33 : decode cX1_putRange 33 = .ok (.iadd, 1) := by decide +kernel
theorem dX1_putRange_34 : decode cX1_putRange 34 = .ok (.aload_n 2, 1) := by decide +kernel
theorem dX1_putRange_35 : decode cX1_putRange 35 = .ok (.iload_n 3, 1) := by decide +kernel
theorem dX1_putRange_36 : decode cX1_putRange 36 = .ok (.invokevirtual 91, 3) := by decide +kernel
theorem dX1_putRange_39 : decode cX1_putRange 39 = .ok (.invokevirtual 78, 3) := by decide +kernel
theorem dX1_putRange_42 : decode cX1_putRange 42 = .ok (.iinc 3 1, 3) := by decide +kernel
theorem dX1_putRange_45 : decode cX1_putRange 45 = .ok (.goto (-21), 3) := by decide +kernel
theorem dX1_putRange_48 : decode cX1_putRange 48 = .ok (.return_, 1) := by decide +kernel
theorem dX1_putSum_0 : decode cX1_putSum 0 = .ok (.iconst 0, 1) := by decide +kernel
theorem dX1_putSum_1 : decode cX1_putSum 1 = .ok (.istore_n 1, 1) := by decide +kernel
theorem dX1_putSum_2 : decode cX1_putSum 2 = .ok (.aload_n 0, 1) := by decide +kernel
theorem dX1_putSum_3 : decode cX1_putSum 3 = .ok (.getfield 9, 3) := by decide +kernel
theorem dX1_putSum_6 : decode cX1_putSum 6 = .ok (.astore_n 2, 1) := by decide +kernel
theorem dX1_putSum_7 : decode cX1_putSum 7 = .ok (.aload_n 2, 1) := by decide +kernel
theorem dX1_putSum_8 : decode cX1_putSum 8 = .ok (.arraylength, 1) := by decide +kernel
theorem dX1_putSum_9 : decode cX1_putSum 9 = .ok (.istore_n 3, 1) := by decide +kernel
theorem dX1_putSum_10 : decode cX1_putSum 10 = .ok (.iconst 0, 1) := by decide +kernel
theorem dX1_putSum_11 : decode cX1_putSum 11 = .ok (.istore 4, 2) := by decide +kernel
theorem dX1_putSum_13 : decode cX1_putSum 13 = .ok (.iload 4, 2) := by decide +kernel
theorem dX1_putSum_15 : decode cX1_putSum 15 = .ok (.iload_n 3, 1) := by decide +kernel
theorem dX1_putSum_16 : decode cX1_putSum 16 = .ok (.if_icmp .ge 20, 3) := by decide +kernel
theorem dX1_putSum_19 : decode cX1_putSum 19 = .ok (.aload_n 2, 1) := by decide +kernel
theorem dX1_putSum_20 : decode cX1_putSum 20 = .ok (.iload 4, 2) := by decide +kernel
theorem dX1_putSum_22 : decode cX1_putSum 22 = .ok (.iaload, 1) := by decide +kernel
theorem dX1_putSum_23 : decode cX1_putSum 23 = .ok (.istore 5, 2) := by decide +kernel
theorem dX1_putSum_25 : decode cX1_putSum 25 = .ok (.iload_n 1, 1) := by decide +kernel
theorem dX1_putSum_26 : decode cX1_putSum 26 = .ok (.iload 5, 2) := by decide +kernel
theorem dX1_putSum_28 : decode cX1_putSum 28 = .ok (.iadd, 1) := by decide +kernel
theorem dX1_putSum_29 : decode cX1_putSum 29 = .ok (.istore_n 1, 1) := by decide +kernel
theorem dX1_putSum_30 : decode cX1_putSum 30 = .ok (.iinc 4 1, 3) := by decide +kernel
theorem dX1_putSum_33 : decode cX1_putSum 33 = .ok (.goto (-20), 3) := by decide +kernel
theorem dX1_putSum_36 : decode cX1_putSum 36 = .ok (.aload_n 0, 1) := by decide +kernel
theorem dX1_putSum_37 : decode cX1_putSum 37 = .ok (.getfield 9, 3) := by decide +kernel
theorem dX1_putSum_40 : decode cX1_putSum 40 = .ok (.bipush 127, 2) := by decide +kernel
theorem dX1_putSum_42 : decode cX1_putSum 42 = .ok (.iload_n 1, 1) := by decide +kernel
theorem dX1_putSum_43 : decode cX1_putSum 43 = .ok (.ineg, 1) := by decide +kernel
theorem dX1_putSum_44 : decode cX1_putSum 44 = .ok (.sipush 255, 3) := by decide +kernel
theorem dX1_putSum_47 : decode cX1_putSum 47 = .ok (.iand, 1) := by decide +kernel
theorem dX1_putSum_48 : decode cX1_putSum 48 = .ok (.iastore, 1) := by decide +kernel
theorem dX1_putSum_49 : decode cX1_putSum 49 = .ok (.return_, 1) := by decide +kernel
theorem dX2_init_0 : decode cX2_init 0 = .ok (.aload_n 0, 1) := by decide +kernel
theorem dX2_init_1 : decode cX2_init 1 = .ok (.invokespecial 3, 3) := by decide +kernel
theorem dX2_init_4 : decode cX2_init 4 = .ok (.aload_n 0, 1) := by decide +kernel
theorem dX2_init_5 : decode cX2_init 5 = .ok (.iconst (-1), 1) := by decide +kernel
theorem dX2_init_6 : decode cX2_init 6 = .ok (.putfield 9, 3) := by decide +kernel
theorem dX2_init_9 : decode cX2_init 9 = .ok (.return_, 1) := by decide +kernel
theorem dX2_inspect_0 : decode cX2_inspect 0 = .ok (.aload_n 0, 1) := by decide +kernel
theorem dX2_inspect_1 : decode cX2_inspect 1 = .ok (.iconst 0, 1) := by decide +kernel
theorem dX2_inspect_2 : decode cX2_inspect 2 = .ok (.putfield 15, 3) := by decide +kernel
theorem dX2_inspect_5 : decode cX2_inspect 5 = .ok (.aload_n 0, 1) := by decide +kernel
theorem dX2_inspect_6 : decode cX2_inspect 6 = .ok (.iconst (-1), 1) := by decide +kernel
theorem dX2_inspect_7 : decode cX2_inspect 7 = .ok (.putfield 9, 3) := by decide +kernel
theorem dX2_inspect_10 : decode cX2_inspect 10 = .ok (.aload_n 1, 1) := by decide +kernel
theorem dX2_inspect_11 : decode cX2_inspect 11 = .ok (.getfield 18, 3) := by decide +kernel
theorem dX2_inspect_14 : decode cX2_inspect 14 = .ok (.sipush 128, 3) := by decide +kernel
theorem dX2_inspect_17 : decode cX2_inspect 17 = .ok (.idiv, 1) := by decide +kernel
theorem dX2_inspect_18 : decode cX2_inspect 18 = .ok (.istore_n 2, 1) := by decide +kernel
theorem dX2_inspect_19 : decode cX2_inspect 19 = .ok (.aload_n 1, 1) := by decide +kernel
theorem dX2_inspect_20 : decode cX2_inspect 20 = .ok (.getfield 18, 3) := by decide +kernel
theorem dX2_inspect_23 : decode cX2_inspect 23 = .ok (.sipush 128, 3) := by decide +kernel
theorem dX2_inspect_26 : decode cX2_inspect 26 = .ok (.irem, 1) := by decide +kernel
theorem dX2_inspect_27 : decode cX2_inspect 27 = .ok (.ifCond .ne 13, 3) := by decide +kernel
theorem dX2_inspect_30 : decode cX2_inspect 30 = .ok (.iload_n 2, 1) := by decide +kernel
theorem dX2_inspect_31 : decode cX2_inspect 31 = .ok (.iconst 1, 1) := by decide +kernel
theorem dX2_inspect_32 : decode cX2_inspect 32 = .ok (.if_icmp .lt 8, 3) := by decide +kernel
theorem dX2_inspect_35 : decode cX2_inspect 35 = .ok (.iload_n 2, 1) := by decide +kernel
theorem dX2_inspect_36 : decode cX2_inspect 36 = .ok (.iconst 4, 1) := by decide +kernel
theorem dX2_inspect_37 : decode cX2_inspect 37 = .ok (.if_icmp .le 13, 3) := by decide +kernel
theorem dX2_inspect_40 : decode cX2_inspect 40 = .ok (.aload_n 0, 1) := by decide +kernel
theorem dX2_inspect_41 : decode cX2_inspect 41 = .ok (.iconst 1, 1) := by decide +kernel
theorem dX2_inspect_42 : decode cX2_inspect 42 = .ok (.aload_n 1, 1) := by decide +kernel
theorem dX2_inspect_43 : decode cX2_inspect 43 = .ok (.getfield 18, 3) := by decide +kernel
theorem dX2_inspect_46 : decode cX2_inspect 46 = .ok (.invokevirtual 23, 3) := by decide +kernel
theorem dX2_inspect_49 : decode cX2_inspect 49 = .ok (.return_, 1) := by decide +kernel
theorem dX2_inspect_50 : decode cX2_inspect 50 = .ok (.iconst 0, 1) := by decide +kernel
theorem dX2_inspect_51 : decode cX2_inspect 51 = .ok (.istore_n 3, 1) := by decide +kernel
theorem dX2_inspect_52 : decode cX2_inspect 52 = .ok (.iload_n 3, 1) := by decide +kernel
theorem dX2_inspect_53 : decode cX2_inspect 53 = .ok (.iload_n 2, 1) := by decide +kernel
theorem dX2_inspect_54 : decode cX2_inspect 54 = .ok (.if_icmp .ge 36, 3) := by decide +kernel
theorem dX2_inspect_57 : decode cX2_inspect 57 = .ok (.aload_n 0, 1) := by decide +kernel
theorem dX2_inspect_58 : decode cX2_inspect 58 = .ok (.aload_n 1, 1) := by decide +kernel
theorem dX2_inspect_59 : decode cX2_inspect 59 = .ok (.iload_n 3, 1) := by decide +kernel
theorem dX2_inspect_60 : decode cX2_inspect 60 = .ok (.invokevirtual 27, 3) := by decide +kernel
theorem dX2_inspect_63 : decode cX2_inspect 63 = .ok (.aload_n 1, 1) := by decide +kernel
theorem dX2_inspect_64 : decode cX2_inspect 64 = .ok (.iload_n 3, 1) := by decide +kernel
theorem dX2_inspect_65 : decode cX2_inspect 65 = .ok (.invokevirtual 31, 3) := by decide +kernel
theorem dX2_inspect_68 : decode cX2_inspect 68 = .ok (.ifCond .eq 16, 3) := by decide +kernel
theorem dX2_inspect_71 : decode cX2_inspect 71 = .ok (.aload_n 0, 1) := by decide +kernel
theorem dX2_inspect_72 : decode cX2_inspect 72 = .ok (.iconst 3, 1) := by decide +kernel
theorem dX2_inspect_73 : decode cX2_inspect 73 = .ok (.iload_n 3, 1) := by decide +kernel
theorem dX2_inspect_74 : decode cX2_inspect 74 = .ok (.sipush 128, 3) := by decide +kernel
theorem dX2_inspect_77 : decode cX2_inspect 77 = .ok (.imul, 1) := by decide +kernel
theorem dX2_inspect_78 : decode cX2_inspect 78 = .ok (.bipush 127, 2) := by decide +kernel
theorem dX2_inspect_80 : decode cX2_inspect 80 = .ok (.iadd, 1) := by decide +kernel
theorem dX2_inspect_81 : decode cX2_inspect 81 = .ok (.invokevirtual 23, 3) := by decide +kernel
theorem dX2_inspect_84 : decode cX2_inspect 84 = .ok (.iinc 3 1, 3) := by decide +kernel
theorem dX2_inspect_87 : decode cX2_inspect 87 = .ok (.goto (-35), 3) := by decide +kernel
theorem dX2_inspect_90 : decode cX2_inspect 90 = .ok (.aload_n 1, 1) := by decide +kernel
theorem dX2_inspect_91 : decode cX2_inspect 91 = .ok (.bipush 18, 2) := by decide +kernel
theorem dX2_inspect_93 : decode cX2_inspect 93 = .ok (.invokevirtual 35, 3) := by decide +kernel
theorem dX2_inspect_96 : decode cX2_inspect 96 = .ok (.iconst 1, 1) := by decide +kernel
theorem dX2_inspect_97 : decode cX2_inspect 97 = .ok (.if_icmp .eq 10, 3) := by decide +kernel
theorem dX2_inspect_100 : decode cX2_inspect 100 = .ok (.aload_n 0, 1) := by decide +kernel
theorem dX2_inspect_101 : decode cX2_inspect 101 = .ok (.iconst 4, 1) := by decide +kernel
theorem dX2_inspect_102 : decode cX2_inspect 102 = .ok (.bipush 18, 2) := by decide +kernel
theorem dX2_inspect_104 : decode cX2_inspect 104 = .ok (.invokevirtual 23, 3) := by decide +kernel
theorem dX2_inspect_107 : decode cX2_inspect 107 = .ok (.aload_n 1, 1) := by decide +kernel
theorem dX2_inspect_108 : decode cX2_inspect 108 = .ok (.bipush 126, 2) := by decide +kernel
theorem dX2_inspect_110 : decode cX2_inspect 110 = .ok (.invokevirtual 35, 3) := by decide +kernel
theorem dX2_inspect_113 : decode cX2_inspect 113 = .ok (.iload_n 2, 1) := by decide +kernel
theorem dX2_inspect_114 : decode cX2_inspect 114 = .ok (.iconst 1, 1) := by decide +kernel
theorem dX2_inspect_115 : decode cX2_inspect 115 = .ok (.isub, 1) := by decide +kernel
theorem dX2_inspect_116 : decode cX2_inspect 116 = .ok (.if_icmp .eq 10, 3) := by decide +kernel
theorem dX2_inspect_119 : decode cX2_inspect 119 = .ok (.aload_n 0, 1) := by decide +kernel
theorem dX2_inspect_120 : decode cX2_inspect 120 = .ok (.iconst 5, 1) := by decide +kernel
theorem dX2_inspect_121 : decode cX2_inspect 121 = .ok (.bipush 126, 2) := by decide +kernel
theorem dX2_inspect_123 : decode cX2_inspect 123 = .ok (.invokevirtual 23, 3) := by decide +kernel
theorem dX2_inspect_126 : decode cX2_inspect 126 = .ok (.iconst 1, 1) := by decide +kernel
theorem dX2_inspect_127 : decode cX2_inspect 127 = .ok (.istore_n 3, 1) := by decide +kernel
theorem dX2_inspect_128 : decode cX2_inspect 128 = .ok (.iload_n 3, 1) := by decide +kernel
theorem dX2_inspect_129 : decode cX2_inspect 129 = .ok (.iload_n 2, 1) := by decide +kernel
theorem dX2_inspect_130 : decode cX2_inspect 130 = .ok (.if_icmp .ge 19, 3) := by decide +kernel
theorem dX2_inspect_133 : decode cX2_inspect 133 = .ok (.aload_n 0, 1) := by decide +kernel
theorem dX2_inspect_134 : decode cX2_inspect 134 = .ok (.aload_n 1, 1) := by decide +kernel
theorem dX2_inspect_135 : decode cX2_inspect 135 = .ok (.iload_n 3, 1) := by decide +kernel
theorem dX2_inspect_136 : decode cX2_inspect 136 = .ok (.sipush 128, 3) := by decide +kernel
theorem dX2_inspect_139 : decode cX2_inspect 139 = .ok (.imul, 1) := by decide +kernel
theorem dX2_inspect_140 : decode cX2_inspect 140 = .ok (.invokevirtual 38, 3) := by decide +kernel
theorem dX2_inspect_143 : decode cX2_inspect 143 = .ok (.iinc 3 1, 3) := by decide +kernel
theorem dX2_inspect_146 : decode cX2_inspect 146 = .ok (.goto (-18), 3) := by decide +kernel
theorem dX2_inspect_149 : decode cX2_inspect 149 = .ok (.return_, 1) := by decide +kernel
theorem dX2_note_0 : decode cX2_note 0 = .ok (.aload_n 0, 1) := by decide +kernel
theorem dX2_note_1 : decode cX2_note 1 = .ok (.getfield 15, 3) := by decide +kernel
theorem dX2_note_4 : decode cX2_note 4 = .ok (.ifCond .ne 13, 3) := by decide +kernel
theorem dX2_note_7 : decode cX2_note 7 = .ok (.aload_n 0, 1) := by decide +kernel
theorem dX2_note_8 : decode cX2_note 8 = .ok (.iload_n 1, 1) := by decide +kernel
theorem dX2_note_9 : decode cX2_note 9 = .ok (.putfield 15, 3) := by decide +kernel
theorem dX2_note_12 : decode cX2_note 12 = .ok (.aload_n 0, 1) := by decide +kernel
theorem dX2_note_13 : decode cX2_note 13 = .ok (.iload_n 2, 1) := by decide +kernel
theorem dX2_note_14 : decode cX2_note 14 = .ok (.putfield 9, 3) := by decide +kernel
theorem dX2_note_17 : decode cX2_note 17 = .ok (.return_, 1) := by decide +kernel
theorem dX2_inspectHead_0 : decode cX2_inspectHead 0 = .ok (.iload_n 2, 1) := by decide +kernel
theorem dX2_inspectHead_1 : decode cX2_inspectHead 1 = .ok (.ifCond .le 27, 3) := by decide +kernel
theorem dX2_inspectHead_4 : decode cX2_inspectHead 4 = .ok (.aload_n 1, 1) := by decide +kernel
theorem dX2_inspectHead_5 : decode cX2_inspectHead 5 = .ok (.iload_n 2, 1) := by decide +kernel
theorem dX2_inspectHead_6 : decode cX2_inspectHead 6 = .ok (.sipush 128, 3) := by decide +kernel
theorem dX2_inspectHead_9 : decode cX2_inspectHead 9 = .ok (.imul, 1) := by decide +kernel
theorem dX2_inspectHead_10 : decode cX2_inspectHead 10 = .ok (.invokevirtual 35, 3) := by decide +kernel
theorem dX2_inspectHead_13 : decode cX2_inspectHead 13 = .ok (.iconst 2, 1) := by decide +kernel
theorem dX2_inspectHead_14 : decode cX2_inspectHead 14 = .ok (.if_icmp .eq 13, 3) := by decide +kernel
theorem dX2_inspectHead_17 : decode cX2_inspectHead 17 = .ok (.aload_n 0, 1) := by decide +kernel
theorem dX2_inspectHead_18 : decode cX2_inspectHead 18 = .ok (.iconst 2, 1) := by decide +kernel
theorem dX2_inspectHead_19 : decode cX2_inspectHead 19 = .ok (.iload_n 2, 1) := by decide +kernel
theorem dX2_inspectHead_20 : decode cX2_inspectHead 20 = .ok (.sipush 128, 3) := by decide +kernel
theorem dX2_inspectHead_23 : decode cX2_inspectHead 23 = .ok (.imul, 1) := by decide +kernel
theorem dX2_inspectHead_24 : decode cX2_inspectHead 24 = .ok (.invokevirtual 23, 3) := by decide +kernel
theorem dX2_inspectHead_27 : decode cX2_inspectHead 27 = .ok (.return_, 1) := by decide +kernel
theorem dX2_inspectHead_28 : decode cX2_inspectHead 28 = .ok (.iconst 0, 1) := by decide +kernel
theorem dX2_inspectHead_29 : decode cX2_inspectHead 29 = .ok (.istore_n 3, 1) := by decide +kernel
theorem dX2_inspectHead_30 : decode cX2_inspectHead 30 = .ok (.iload_n 3, 1) := by decide +kernel
theorem dX2_inspectHead_31 : decode cX2_inspectHead 31 = .ok (.bipush 8, 2) := by decide +kernel
theorem dX2_inspectHead_33 : decode cX2_inspectHead 33 = .ok (.if_icmp .ge 27, 3) := by decide +kernel
theorem dX2_inspectHead_36 : decode cX2_inspectHead 36 = .ok (.aload_n 1, 1) := by decide +kernel
theorem dX2_inspectHead_37 : decode cX2_inspectHead 37 = .ok (.iload_n 3, 1) := by decide +kernel
theorem dX2_inspectHead_38 : decode cX2_inspectHead 38 = .ok (.invokevirtual 35, 3) := by decide +kernel
theorem dX2_inspectHead_41 : decode cX2_inspectHead 41 = .ok (.iload_n 3, 1) := by decide +kernel
theorem dX2_inspectHead_42 : decode cX2_inspectHead 42 = .ok (.invokestatic 41, 3) := by decide +kernel
theorem dX2_inspectHead_45 : decode cX2_inspectHead 45 = .ok (.if_icmp .eq 9, 3) := by decide +kernel
theorem dX2_inspectHead_48 : decode cX2_inspectHead 48 = .ok (.aload_n 0, 1) := by decide +kernel
theorem dX2_inspectHead_49 : decode cX2_inspectHead 49 = .ok (.iconst 2, 1) := by decide +kernel
theorem dX2_inspectHead_50 : decode cX2_inspectHead 50 = .ok (.iload_n 3, 1) := by decide +kernel
theorem dX2_inspectHead_51 : decode cX2_inspectHead 51 = .ok (.invokevirtual 23, 3) := by decide +kernel
theorem dX2_inspectHead_54 : decode cX2_inspectHead 54 = .ok (.iinc 3 1, 3) := by decide +kernel
theorem dX2_inspectHead_57 : decode cX2_inspectHead 57 = .ok (.goto (-27), 3) := by decide +kernel
theorem dX2_inspectHead_60 : decode cX2_inspectHead 60 = .ok (.return_, 1) := by decide +kernel
theorem dX2_inspectExtension_0 : decode cX2_inspectExtension 0 = .ok (.aload_n 1, 1) := by decide +kernel
theorem dX2_inspectExtension_1 : decode cX2_inspectExtension 1 = .ok (.iload_n 2, 1) := by decide +kernel
theorem dX2_inspectExtension_2 : decode cX2_inspectExtension 2 = .ok (.iconst 2, 1) := by decide +kernel
theorem dX2_inspectExtension_3 : decode cX2_inspectExtension 3 = .ok (.iadd, 1) := by decide +kernel
theorem dX2_inspectExtension_4 : decode cX2_inspectExtension 4 = .ok (.invokevirtual 35, 3) := by decide +kernel
theorem dX2_inspectExtension_7 : decode cX2_inspectExtension 7 = .ok (.istore_n 3, 1) := by decide +kernel
theorem dX2_inspectExtension_8 : decode cX2_inspectExtension 8 = .ok (.iload_n 3, 1) := by decide +kernel
theorem dX2_inspectExtension_9 : decode cX2_inspectExtension 9 = .ok (.ifCond .eq 24, 3) := by decide +kernel
theorem dX2_inspectExtension_12 : decode cX2_inspectExtension 12 = .ok (.iload_n 3, 1) := by decide +kernel
theorem dX2_inspectExtension_13 : decode cX2_inspectExtension 13 = .ok (.iconst 4, 1) := by decide +kernel
theorem dX2_inspectExtension_14 : decode cX2_inspectExtension 14 = .ok (.if_icmp .lt 9, 3) := by decide +kernel
theorem dX2_inspectExtension_17 : decode cX2_inspectExtension 17 = .ok (.iload_n 3, 1) := by decide +kernel
theorem dX2_inspectExtension_18 : decode cX2_inspectExtension 18 = .ok (.bipush 127, 2) := by decide +kernel
theorem dX2_inspectExtension_20 : decode cX2_inspectExtension 20 = .ok (.if_icmp .le 13, 3) := by decide +kernel
theorem dX2_inspectExtension_23 : decode cX2_inspectExtension 23 = .ok (.aload_n 0, 1) := by decide +kernel
theorem dX2_inspectExtension_24 : decode cX2_inspectExtension 24 = .ok (.bipush 6, 2) := by decide +kernel
theorem dX2_inspectExtension_26 : decode cX2_inspectExtension 26 = .ok (.iload_n 2, 1) := by decide +kernel
theorem dX2_inspectExtension_27 : decode cX2_inspectExtension 27 = .ok (.iconst 2, 1) := by decide +kernel
theorem dX2_inspectExtension_28 : decode cX2_inspectExtension 28 = .ok (.iadd, 1) := by decide +kernel
theorem dX2_inspectExtension_29 : decode cX2_inspectExtension 29 = .ok (.invokevirtual 23, 3) := by decide +kernel
theorem dX2_inspectExtension_32 : decode cX2_inspectExtension 32 = .ok (.return_, 1) := by decide +kernel
theorem dX2_inspectExtension_33 : decode cX2_inspectExtension 33 = .ok (.iconst 4, 1) := by decide +kernel
theorem dX2_inspectExtension_34 : decode cX2_inspectExtension 34 = .ok (.istore 4, 2) := by decide +kernel
theorem dX2_inspectExtension_36 : decode cX2_inspectExtension 36 = .ok (.iload 4, 2) := by decide +kernel
theorem dX2_inspectExtension_38 : decode cX2_inspectExtension 38 = .ok (.iload_n 3, 1) := by decide +kernel
theorem dX2_inspectExtension_39 : decode cX2_inspectExtension 39 = .ok (.if_icmp .ge 44, 3) := by decide +kernel
theorem dX2_inspectExtension_42 : decode cX2_inspectExtension 42 = .ok (.iload 4, 2) := by decide +kernel
theorem dX2_inspectExtension_44 : decode cX2_inspectExtension 44 = .ok (.iconst 1, 1) := by decide +kernel
theorem dX2_inspectExtension_45 : decode cX2_inspectExtension 45 = .ok (.iadd, 1) := by decide +kernel
theorem dX2_inspectExtension_46 : decode cX2_inspectExtension 46 = .ok (.aload_n 1, 1) := by decide +kernel
theorem dX2_inspectExtension_47 : decode cX2_inspectExtension 47 = .ok (.iload_n 2, 1) := by decide +kernel
theorem dX2_inspectExtension_48 : decode cX2_inspectExtension 48 = .ok (.iload 4, 2) := by decide +kernel
theorem dX2_inspectExtension_50 : decode cX2_inspectExtension 50 = .ok (.iadd, 1) := by decide +kernel
theorem dX2_inspectExtension_51 : decode cX2_inspectExtension 51 = .ok (.invokevirtual 35, 3) := by decide +kernel
theorem dX2_inspectExtension_54 : decode cX2_inspectExtension 54 = .ok (.bipush 31, 2) := by decide +kernel
theorem dX2_inspectExtension_56 : decode cX2_inspectExtension 56 = .ok (.iand, 1) := by decide +kernel
theorem dX2_inspectExtension_57 : decode cX2_inspectExtension 57 = .ok (.iadd, 1) := by decide +kernel
theorem dX2_inspectExtension_58 : decode cX2_inspectExtension 58 = .ok (.istore 5, 2) := by decide +kernel
theorem dX2_inspectExtension_60 : decode cX2_inspectExtension 60 = .ok (.iload 5, 2) := by decide +kernel
theorem dX2_inspectExtension_62 : decode cX2_inspectExtension 62 = .ok (.iload_n 3, 1) := by decide +kernel
theorem dX2_inspectExtension_63 : decode cX2_inspectExtension 63 = .ok (.if_icmp .le 13, 3) := by decide +kernel
theorem dX2_inspectExtension_66 : decode cX2_inspectExtension 66 = .ok (.aload_n 0, 1) := by decide +kernel
theorem dX2_inspectExtension_67 : decode cX2_inspectExtension 67 = .ok (.bipush 7, 2) := by decide +kernel
theorem dX2_inspectExtension_69 : decode cX2_inspectExtension 69 = .ok (.iload_n 2, 1) := by decide +kernel
theorem dX2_inspectExtension_70 : decode cX2_inspectExtension 70 = .ok (.iload 4, 2) := by decide +kernel
theorem dX2_inspectExtension_72 : decode cX2_inspectExtension 72 = .ok (.iadd, 1) := by decide +kernel
theorem dX2_inspectExtension_73 : decode cX2_inspectExtension 73 = .ok (.invokevirtual 23, 3) := by decide +kernel
theorem dX2_inspectExtension_76 : decode cX2_inspectExtension 76 = .ok (.iload 5, 2) := by decide +kernel
theorem dX2_inspectExtension_78 : decode cX2_inspectExtension 78 = .ok (.istore 4, 2) := by decide +kernel
theorem dX2_inspectExtension_80 : decode cX2_inspectExtension 80 = .ok (.goto (-44), 3) := by decide +kernel
theorem dX2_inspectExtension_83 : decode cX2_inspectExtension 83 = .ok (.return_, 1) := by decide +kernel
theorem dX3_init_0 : decode cX3_init 0 = .ok (.aload_n 0, 1) := by decide +kernel
theorem dX3_init_1 : decode cX3_init 1 = .ok (.invokespecial 3, 3) := by decide +kernel
theorem dX3_init_4 : decode cX3_init 4 = .ok (.aload_n 0, 1) := by decide +kernel
theorem dX3_init_5 : decode cX3_init 5 = .ok (.sipush 1536, 3) := by decide +kernel
theorem dX3_init_8 : decode cX3_init 8 = .ok (.newarray .int, 2) := by decide +kernel
theorem dX3_init_10 : decode cX3_init 10 = .ok (.putfield 11, 3) := by decide +kernel
theorem dX3_init_13 : decode cX3_init 13 = .ok (.aload_n 0, 1) := by decide +kernel
theorem dX3_init_14 : decode cX3_init 14 = .ok (.bipush 12, 2) := by decide +kernel
theorem dX3_init_16 : decode cX3_init 16 = .ok (.newarray .int, 2) := by decide +kernel
theorem dX3_init_18 : decode cX3_init 18 = .ok (.putfield 15, 3) := by decide +kernel
theorem dX3_init_21 : decode cX3_init 21 = .ok (.return_, 1) := by decide +kernel
theorem dX3_clear_0 : decode cX3_clear 0 = .ok (.aload_n 0, 1) := by decide +kernel
theorem dX3_clear_1 : decode cX3_clear 1 = .ok (.iconst 0, 1) := by decide +kernel
theorem dX3_clear_2 : decode cX3_clear 2 = .ok (.putfield 18, 3) := by decide +kernel
theorem dX3_clear_5 : decode cX3_clear 5 = .ok (.aload_n 0, 1) := by decide +kernel
theorem dX3_clear_6 : decode cX3_clear 6 = .ok (.iconst 0, 1) := by decide +kernel
theorem dX3_clear_7 : decode cX3_clear 7 = .ok (.putfield 22, 3) := by decide +kernel
theorem dX3_clear_10 : decode cX3_clear 10 = .ok (.return_, 1) := by decide +kernel
theorem dX3_open_0 : decode cX3_open 0 = .ok (.aload_n 0, 1) := by decide +kernel
theorem dX3_open_1 : decode cX3_open 1 = .ok (.iconst 0, 1) := by decide +kernel
theorem dX3_open_2 : decode cX3_open 2 = .ok (.aload_n 1, 1) := by decide +kernel
theorem dX3_open_3 : decode cX3_open 3 = .ok (.getfield 25, 3) := by decide +kernel
theorem dX3_open_6 : decode cX3_open 6 = .ok (.invokevirtual 30, 3) := by decide +kernel
theorem dX3_open_9 : decode cX3_open 9 = .ok (.aload_n 0, 1) := by decide +kernel
theorem dX3_open_10 : decode cX3_open 10 = .ok (.iconst 1, 1) := by decide +kernel
theorem dX3_open_11 : decode cX3_open 11 = .ok (.aload_n 1, 1) := by decide +kernel
theorem dX3_open_12 : decode cX3_open 12 = .ok (.getfield 34, 3) := by decide +kernel
theorem dX3_open_15 : decode cX3_open 15 = .ok (.invokevirtual 30, 3) := by decide +kernel
theorem dX3_open_18 : decode cX3_open 18 = .ok (.aload_n 0, 1) := by decide +kernel
theorem dX3_open_19 : decode cX3_open 19 = .ok (.iconst 2, 1) := by decide +kernel
theorem dX3_open_20 : decode cX3_open 20 = .ok (.aload_n 1, 1) := by decide +kernel
theorem dX3_open_21 : decode cX3_open 21 = .ok (.getfield 37, 3) := by decide +kernel
theorem dX3_open_24 : decode cX3_open 24 = .ok (.invokevirtual 30, 3) := by decide +kernel
theorem dX3_open_27 : decode cX3_open 27 = .ok (.aload_n 0, 1) := by decide +kernel
theorem dX3_open_28 : decode cX3_open 28 = .ok (.iconst 3, 1) := by decide +kernel
theorem dX3_open_29 : decode cX3_open 29 = .ok (.aload_n 1, 1) := by decide +kernel
theorem dX3_open_30 : decode cX3_open 30 = .ok (.getfield 40, 3) := by decide +kernel
theorem dX3_open_33 : decode cX3_open 33 = .ok (.invokestatic 43, 3) := by decide +kernel
theorem dX3_open_36 : decode cX3_open 36 = .ok (.invokevirtual 30, 3) := by decide +kernel
theorem dX3_open_39 : decode cX3_open 39 = .ok (.aload_n 0, 1) := by decide +kernel
theorem dX3_open_40 : decode cX3_open 40 = .ok (.iconst 4, 1) := by decide +kernel
theorem dX3_open_41 : decode cX3_open 41 = .ok (.aload_n 1, 1) := by decide +kernel
theorem dX3_open_42 : decode cX3_open 42 = .ok (.getfield 47, 3) := by decide +kernel
theorem dX3_open_45 : decode cX3_open 45 = .ok (.invokestatic 43, 3) := by decide +kernel
theorem dX3_open_48 : decode cX3_open 48 = .ok (.invokevirtual 30, 3) := by decide +kernel
theorem dX3_open_51 : decode cX3_open 51 = .ok (.aload_n 0, 1) := by decide +kernel
theorem dX3_open_52 : decode cX3_open 52 = .ok (.bipush 7, 2) := by decide +kernel
theorem dX3_open_54 : decode cX3_open 54 = .ok (.aload_n 1, 1) := by decide +kernel
theorem dX3_open_55 : decode cX3_open 55 = .ok (.invokevirtual 50, 3) := by decide +kernel
theorem dX3_open_58 : decode cX3_open 58 = .ok (.iconst 1, 1) := by decide +kernel
theorem dX3_open_59 : decode cX3_open 59 = .ok (.iadd, 1) := by decide +kernel
theorem dX3_open_60 : decode cX3_open 60 = .ok (.invokevirtual 30, 3) := by decide +kernel
theorem dX3_open_63 : decode cX3_open 63 = .ok (.return_, 1) := by decide +kernel
theorem dX3_close_0 : decode cX3_close 0 = .ok (.aload_n 0, 1) := by decide +kernel
theorem dX3_close_1 : decode cX3_close 1 = .ok (.iconst 5, 1) := by decide +kernel
theorem dX3_close_2 : decode cX3_close 2 = .ok (.iload_n 1, 1) := by decide +kernel
theorem dX3_close_3 : decode cX3_close 3 = .ok (.invokevirtual 30, 3) := by decide +kernel
theorem dX3_close_6 : decode cX3_close 6 = .ok (.aload_n 0, 1) := by decide +kernel
theorem dX3_close_7 : decode cX3_close 7 = .ok (.bipush 6, 2) := by decide +kernel
theorem dX3_close_9 : decode cX3_close 9 = .ok (.iload_n 2, 1) := by decide +kernel
theorem dX3_close_10 : decode cX3_close 10 = .ok (.invokevirtual 30, 3) := by decide +kernel
theorem dX3_close_13 : decode cX3_close 13 = .ok (.iload_n 2, 1) := by decide +kernel
theorem dX3_close_14 : decode cX3_close 14 = .ok (.iconst 1, 1) := by decide +kernel
theorem dX3_close_15 : decode cX3_close 15 = .ok (.if_icmp .lt 51, 3) := by decide +kernel
theorem dX3_close_18 : decode cX3_close 18 = .ok (.iload_n 2, 1) := by decide +kernel
theorem dX3_close_19 : decode cX3_close 19 = .ok (.bipush 6, 2) := by decide +kernel
theorem dX3_close_21 : decode cX3_close 21 = .ok (.if_icmp .gt 45, 3) := by decide +kernel
theorem dX3_close_24 : decode cX3_close 24 = .ok (.aload_n 0, 1) := by decide +kernel
theorem dX3_close_25 : decode cX3_close 25 = .ok (.getfield 22, 3) := by decide +kernel
theorem dX3_close_28 : decode cX3_close 28 = .ok (.ifCond .lt 38, 3) := by decide +kernel
theorem dX3_close_31 : decode cX3_close 31 = .ok (.aload_n 0, 1) := by decide +kernel
theorem dX3_close_32 : decode cX3_close 32 = .ok (.getfield 22, 3) := by decide +kernel
theorem dX3_close_35 : decode cX3_close 35 = .ok (.aload_n 0, 1) := by decide +kernel
theorem dX3_close_36 : decode cX3_close 36 = .ok (.getfield 15, 3) := by decide +kernel
theorem dX3_close_39 : decode cX3_close 39 = .ok (.arraylength, 1) := by decide +kernel
theorem dX3_close_40 : decode cX3_close 40 = .ok (.if_icmp .ge 26, 3) := by decide +kernel
theorem dX3_close_43 : decode cX3_close 43 = .ok (.aload_n 0, 1) := by decide +kernel
theorem dX3_close_44 : decode cX3_close 44 = .ok (.getfield 15, 3) := by decide +kernel
theorem dX3_close_47 : decode cX3_close 47 = .ok (.aload_n 0, 1) := by decide +kernel
theorem dX3_close_48 : decode cX3_close 48 = .ok (.getfield 22, 3) := by decide +kernel
theorem dX3_close_51 : decode cX3_close 51 = .ok (.aload_n 0, 1) := by decide +kernel
theorem dX3_close_52 : decode cX3_close 52 = .ok (.getfield 18, 3) := by decide +kernel
theorem dX3_close_55 : decode cX3_close 55 = .ok (.iastore, 1) := by decide +kernel
theorem dX3_close_56 : decode cX3_close 56 = .ok (.aload_n 0, 1) := by decide +kernel
theorem dX3_close_57 : decode cX3_close 57 = .ok (.dup, 1) := by decide +kernel
theorem dX3_close_58 : decode cX3_close 58 = .ok (.getfield 22, 3) := by decide +kernel
theorem dX3_close_61 : decode cX3_close 61 = .ok (.iconst 1, 1) := by decide +kernel
theorem dX3_close_62 : decode cX3_close 62 = .ok (.iadd, 1) := by decide +kernel
theorem dX3_close_63 : decode cX3_close 63 = .ok (.putfield 22, 3) := by decide +kernel
theorem dX3_close_66 : decode cX3_close 66 = .ok (.aload_n 0, 1) := by decide +kernel
theorem dX3_close_67 : decode cX3_close 67 = .ok (.getfield 18, 3) := by decide +kernel
theorem dX3_close_70 : decode cX3_close 70 = .ok (.sipush 192, 3) := by decide +kernel
theorem dX3_close_73 : decode cX3_close 73 = .ok (.if_icmp .ge 13, 3) := by decide +kernel
theorem dX3_close_76 : decode cX3_close 76 = .ok (.aload_n 0, 1) := by decide +kernel
theorem dX3_close_77 : decode cX3_close 77 = .ok (.dup, 1) := by decide +kernel
theorem dX3_close_78 : decode cX3_close 78 = .ok (.getfield 18, 3) := by decide +kernel
theorem dX3_close_81 : decode cX3_close 81 = .ok (.iconst 1, 1) := by decide +kernel
theorem dX3_close_82 : decode cX3_close 82 = .ok (.iadd, 1) := by decide +kernel
theorem dX3_close_83 : decode cX3_close 83 = .ok (.putfield 18, 3) := by decide +kernel
theorem dX3_close_86 : decode cX3_close 86 = .ok (.return_, 1) := by decide +kernel
theorem dX3_put_0 : decode cX3_put 0 = .ok (.aload_n 0, 1) := by decide +kernel
theorem dX3_put_1 : decode cX3_put 1 = .ok (.getfield 18, 3) := by decide +kernel
theorem dX3_put_4 : decode cX3_put 4 = .ok (.bipush 8, 2) := by decide +kernel
theorem dX3_put_6 : decode cX3_put 6 = .ok (.imul, 1) := by decide +kernel
theorem dX3_put_7 : decode cX3_put 7 = .ok (.iload_n 1, 1) := by decide +kernel
theorem dX3_put_8 : decode cX3_put 8 = .ok (.iadd, 1) := by decide +kernel
theorem dX3_put_9 : decode cX3_put 9 = .ok (.istore_n 3, 1) := by decide +kernel
theorem dX3_put_10 : decode cX3_put 10 = .ok (.iload_n 3, 1) := by decide +kernel
theorem dX3_put_11 : decode cX3_put 11 = .ok (.ifCond .lt 19, 3) := by decide +kernel
theorem dX3_put_14 : decode cX3_put 14 = .ok (.iload_n 3, 1) := by decide +kernel
theorem dX3_put_15 : decode cX3_put 15 = .ok (.aload_n 0, 1) := by decide +kernel
theorem dX3_put_16 : decode cX3_put 16 = .ok (.getfield 11, 3) := by decide +kernel
theorem dX3_put_19 : decode cX3_put 19 = .ok (.arraylength, 1) := by decide +kernel
theorem dX3_put_20 : decode cX3_put 20 = .ok (.if_icmp .ge 10, 3) := by decide +kernel
theorem dX3_put_23 : decode cX3_put 23 = .ok (.aload_n 0, 1) := by decide +kernel
theorem dX3_put_24 : decode cX3_put 24 = .ok (.getfield 11, 3) := by decide +kernel
theorem dX3_put_27 : decode cX3_put 27 = .ok (.iload_n 3, 1) := by decide +kernel
theorem dX3_put_28 : decode cX3_put 28 = .ok (.iload_n 2, 1) := by decide +kernel
theorem dX3_put_29 : decode cX3_put 29 = .ok (.iastore, 1) := by decide +kernel
theorem dX3_put_30 : decode cX3_put 30 = .ok (.return_, 1) := by decide +kernel
theorem dX3_digits_0 : decode cX3_digits 0 = .ok (.iconst 0, 1) := by decide +kernel
theorem dX3_digits_1 : decode cX3_digits 1 = .ok (.istore_n 1, 1) := by decide +kernel
theorem dX3_digits_2 : decode cX3_digits 2 = .ok (.aload_n 0, 1) := by decide +kernel
theorem dX3_digits_3 : decode cX3_digits 3 = .ok (.astore_n 2, 1) := by decide +kernel
theorem dX3_digits_4 : decode cX3_digits 4 = .ok (.aload_n 2, 1) := by decide +kernel
theorem dX3_digits_5 : decode cX3_digits 5 = .ok (.arraylength, 1) := by decide +kernel
theorem dX3_digits_6 : decode cX3_digits 6 = .ok (.istore_n 3, 1) := by decide +kernel
theorem dX3_digits_7 : decode cX3_digits 7 = .ok (.iconst 0, 1) := by decide +kernel
theorem dX3_digits_8 : decode cX3_digits 8 = .ok (.istore 4, 2) := by decide +kernel
theorem dX3_digits_10 : decode cX3_digits 10 = .ok (.iload 4, 2) := by decide +kernel
theorem dX3_digits_12 : decode cX3_digits 12 = .ok (.iload_n 3, 1) := by decide +kernel
theorem dX3_digits_13 : decode cX3_digits 13 = .ok (.if_icmp .ge 23, 3) := by decide +kernel
theorem dX3_digits_16 : decode cX3_digits 16 = .ok (.aload_n 2, 1) := by decide +kernel
theorem dX3_digits_17 : decode cX3_digits 17 = .ok (.iload 4, 2) := by decide +kernel
theorem dX3_digits_19 : decode cX3_digits 19 = .ok (.iaload, 1) := by decide +kernel
theorem dX3_digits_20 : decode cX3_digits 20 = .ok (.istore 5, 2) := by decide +kernel
theorem dX3_digits_22 : decode cX3_digits 22 = .ok (.iload_n 1, 1) := by decide +kernel
theorem dX3_digits_23 : decode cX3_digits 23 = .ok (.bipush 10, 2) := by decide +kernel
theorem dX3_digits_25 : decode cX3_digits 25 = .ok (.imul, 1) := by decide +kernel
theorem dX3_digits_26 : decode cX3_digits 26 = .ok (.iload 5, 2) := by decide +kernel
theorem dX3_digits_28 : decode cX3_digits 28 = .ok (.iadd, 1) := by decide +kernel
theorem dX3_digits_29 : decode cX3_digits 29 = .ok (.istore_n 1, 1) := by decide +kernel
theorem dX3_digits_30 : decode cX3_digits 30 = .ok (.iinc 4 1, 3) := by decide +kernel
theorem dX3_digits_33 : decode cX3_digits 33 = .ok (.goto (-23), 3) := by decide +kernel
theorem dX3_digits_36 : decode cX3_digits 36 = .ok (.iload_n 1, 1) := by decide +kernel
theorem dX3_digits_37 : decode cX3_digits 37 = .ok (.ireturn, 1) := by decide +kernel
theorem dX3_stepPart_0 : decode cX3_stepPart 0 = .ok (.iload_n 1, 1) := by decide +kernel
theorem dX3_stepPart_1 : decode cX3_stepPart 1 = .ok (.bipush 8, 2) := by decide +kernel
theorem dX3_stepPart_3 : decode cX3_stepPart 3 = .ok (.imul, 1) := by decide +kernel
theorem dX3_stepPart_4 : decode cX3_stepPart 4 = .ok (.iload_n 2, 1) := by decide +kernel
theorem dX3_stepPart_5 : decode cX3_stepPart 5 = .ok (.iadd, 1) := by decide +kernel
theorem dX3_stepPart_6 : decode cX3_stepPart 6 = .ok (.istore_n 3, 1) := by decide +kernel
theorem dX3_stepPart_7 : decode cX3_stepPart 7 = .ok (.iload_n 3, 1) := by decide +kernel
theorem dX3_stepPart_8 : decode cX3_stepPart 8 = .ok (.ifCond .lt 21, 3) := by decide +kernel
theorem dX3_stepPart_11 : decode cX3_stepPart 11 = .ok (.iload_n 3, 1) := by decide +kernel
theorem dX3_stepPart_12 : decode cX3_stepPart 12 = .ok (.aload_n 0, 1) := by decide +kernel
theorem dX3_stepPart_13 : decode cX3_stepPart 13 = .ok (.getfield 11, 3) := by decide +kernel
theorem dX3_stepPart_16 : decode cX3_stepPart 16 = .ok (.arraylength, 1) := by decide +kernel
theorem dX3_stepPart_17 : decode cX3_stepPart 17 = .ok (.if_icmp .ge 12, 3) := by decide +kernel
theorem dX3_stepPart_20 : decode cX3_stepPart 20 = .ok (.aload_n 0, 1) := by decide +kernel
theorem dX3_stepPart_21 : decode cX3_stepPart 21 = .ok (.getfield 11, 3) := by decide +kernel
theorem dX3_stepPart_24 : decode cX3_stepPart 24 = .ok (.iload_n 3, 1) := by decide +kernel
theorem dX3_stepPart_25 : decode cX3_stepPart 25 = .ok (.iaload, 1) := by decide +kernel
theorem dX3_stepPart_26 : decode cX3_stepPart 26 = .ok (.goto 4, 3) := by decide +kernel
theorem dX3_stepPart_29 : decode cX3_stepPart 29 = .ok (.iconst 0, 1) := by decide +kernel
theorem dX3_stepPart_30 : decode cX3_stepPart 30 = .ok (.ireturn, 1) := by decide +kernel
theorem dX3_fallPart_0 : decode cX3_fallPart 0 = .ok (.iload_n 1, 1) := by decide +kernel
theorem dX3_fallPart_1 : decode cX3_fallPart 1 = .ok (.ifCond .lt 12, 3) := by decide +kernel
theorem dX3_fallPart_4 : decode cX3_fallPart 4 = .ok (.iload_n 1, 1) := by decide +kernel
theorem dX3_fallPart_5 : decode cX3_fallPart 5 = .ok (.aload_n 0, 1) := by decide +kernel
theorem dX3_fallPart_6 : decode cX3_fallPart 6 = .ok (.getfield 15, 3) := by decide +kernel
theorem dX3_fallPart_9 : decode cX3_fallPart 9 = .ok (.arraylength, 1) := by decide +kernel
theorem dX3_fallPart_10 : decode cX3_fallPart 10 = .ok (.if_icmp .lt 5, 3) := by decide +kernel
theorem dX3_fallPart_13 : decode cX3_fallPart 13 = .ok (.iconst 0, 1) := by decide +kernel
theorem dX3_fallPart_14 : decode cX3_fallPart 14 = .ok (.ireturn, 1) := by decide +kernel
theorem dX3_fallPart_15 : decode cX3_fallPart 15 = .ok (.iload_n 2, 1) := by decide +kernel
theorem dX3_fallPart_16 : decode cX3_fallPart 16 = .ok (.tableswitch 65 0 2 #[28, 41, 53], 28) := by decide +kernel
theorem dX3_fallPart_44 : decode cX3_fallPart 44 = .ok (.aload_n 0, 1) := by decide +kernel
theorem dX3_fallPart_45 : decode cX3_fallPart 45 = .ok (.aload_n 0, 1) := by decide +kernel
theorem dX3_fallPart_46 : decode cX3_fallPart 46 = .ok (.getfield 15, 3) := by decide +kernel
theorem dX3_fallPart_49 : decode cX3_fallPart 49 = .ok (.iload_n 1, 1) := by decide +kernel
theorem dX3_fallPart_50 : decode cX3_fallPart 50 = .ok (.iaload, 1) := by decide +kernel
theorem dX3_fallPart_51 : decode cX3_fallPart 51 = .ok (.bipush 6, 2) := by decide +kernel
theorem dX3_fallPart_53 : decode cX3_fallPart 53 = .ok (.invokevirtual 54, 3) := by decide +kernel
theorem dX3_fallPart_56 : decode cX3_fallPart 56 = .ok (.ireturn, 1) := by decide +kernel
theorem dX3_fallPart_57 : decode cX3_fallPart 57 = .ok (.aload_n 0, 1) := by decide +kernel
theorem dX3_fallPart_58 : decode cX3_fallPart 58 = .ok (.aload_n 0, 1) := by decide +kernel
theorem dX3_fallPart_59 : decode cX3_fallPart 59 = .ok (.getfield 15, 3) := by decide +kernel
theorem dX3_fallPart_62 : decode cX3_fallPart 62 = .ok (.iload_n 1, 1) := by decide +kernel
theorem dX3_fallPart_63 : decode cX3_fallPart 63 = .ok (.iaload, 1) := by decide +kernel
theorem dX3_fallPart_64 : decode cX3_fallPart 64 = .ok (.iconst 1, 1) := by decide +kernel
theorem dX3_fallPart_65 : decode cX3_fallPart 65 = .ok (.invokevirtual 54, 3) := by decide +kernel
theorem dX3_fallPart_68 : decode cX3_fallPart 68 = .ok (.ireturn, 1) := by decide +kernel
theorem dX3_fallPart_69 : decode cX3_fallPart 69 = .ok (.aload_n 0, 1) := by decide +kernel
theorem dX3_fallPart_70 : decode cX3_fallPart 70 = .ok (.aload_n 0, 1) := by decide +kernel
theorem dX3_fallPart_71 : decode cX3_fallPart 71 = .ok (.getfield 15, 3) := by decide +kernel
theorem dX3_fallPart_74 : decode cX3_fallPart 74 = .ok (.iload_n 1, 1) := by decide +kernel
theorem dX3_fallPart_75 : decode cX3_fallPart 75 = .ok (.iaload, 1) := by decide +kernel
theorem dX3_fallPart_76 : decode cX3_fallPart 76 = .ok (.iconst 2, 1) := by decide +kernel
theorem dX3_fallPart_77 : decode cX3_fallPart 77 = .ok (.invokevirtual 54, 3) := by decide +kernel
theorem dX3_fallPart_80 : decode cX3_fallPart 80 = .ok (.ireturn, 1) := by decide +kernel
theorem dX3_fallPart_81 : decode cX3_fallPart 81 = .ok (.aload_n 0, 1) := by decide +kernel
theorem dX3_fallPart_82 : decode cX3_fallPart 82 = .ok (.aload_n 0, 1) := by decide +kernel
theorem dX3_fallPart_83 : decode cX3_fallPart 83 = .ok (.getfield 15, 3) := by decide +kernel
theorem dX3_fallPart_86 : decode cX3_fallPart 86 = .ok (.iload_n 1, 1) := by decide +kernel
theorem dX3_fallPart_87 : decode cX3_fallPart 87 = .ok (.iaload, 1) := by decide +kernel
theorem dX3_fallPart_88 : decode cX3_fallPart 88 = .ok (.bipush 7, 2) := by decide +kernel
theorem dX3_fallPart_90 : decode cX3_fallPart 90 = .ok (.invokevirtual 54, 3) := by decide +kernel
theorem dX3_fallPart_93 : decode cX3_fallPart 93 = .ok (.ireturn, 1) := by decide +kernel
theorem dX4_init_0 : decode cX4_init 0 = .ok (.aload_n 0, 1) := by decide +kernel
theorem dX4_init_1 : decode cX4_init 1 = .ok (.invokespecial 1, 3) := by decide +kernel
theorem dX4_init_4 : decode cX4_init 4 = .ok (.aload_n 0, 1) := by decide +kernel
theorem dX4_init_5 : decode cX4_init 5 = .ok (.new 7, 3) := by decide +kernel
theorem dX4_init_8 : decode cX4_init 8 = .ok (.dup, 1) := by decide +kernel
theorem dX4_init_9 : decode cX4_init 9 = .ok (.invokespecial 9, 3) := by decide +kernel
theorem dX4_init_12 : decode cX4_init 12 = .ok (.putfield 10, 3) := by decide +kernel
theorem dX4_init_15 : decode cX4_init 15 = .ok (.return_, 1) := by decide +kernel
theorem dX4_isLike_0 : decode cX4_isLike 0 = .ok (.aload_n 0, 1) := by decide +kernel
theorem dX4_isLike_1 : decode cX4_isLike 1 = .ok (.getfield 10, 3) := by decide +kernel
theorem dX4_isLike_4 : decode cX4_isLike 4 = .ok (.getfield 16, 3) := by decide +kernel
theorem dX4_isLike_7 : decode cX4_isLike 7 = .ok (.iload_n 1, 1) := by decide +kernel
theorem dX4_isLike_8 : decode cX4_isLike 8 = .ok (.if_icmp .ne 26, 3) := by decide +kernel
theorem dX4_isLike_11 : decode cX4_isLike 11 = .ok (.aload_n 0, 1) := by decide +kernel
theorem dX4_isLike_12 : decode cX4_isLike 12 = .ok (.getfield 10, 3) := by decide +kernel
theorem dX4_isLike_15 : decode cX4_isLike 15 = .ok (.getfield 20, 3) := by decide +kernel
theorem dX4_isLike_18 : decode cX4_isLike 18 = .ok (.iload_n 2, 1) := by decide +kernel
theorem dX4_isLike_19 : decode cX4_isLike 19 = .ok (.if_icmp .ne 15, 3) := by decide +kernel
theorem dX4_isLike_22 : decode cX4_isLike 22 = .ok (.aload_n 0, 1) := by decide +kernel
theorem dX4_isLike_23 : decode cX4_isLike 23 = .ok (.getfield 23, 3) := by decide +kernel
theorem dX4_isLike_26 : decode cX4_isLike 26 = .ok (.iload_n 3, 1) := by decide +kernel
theorem dX4_isLike_27 : decode cX4_isLike 27 = .ok (.if_icmp .ne 7, 3) := by decide +kernel
theorem dX4_isLike_30 : decode cX4_isLike 30 = .ok (.iconst 1, 1) := by decide +kernel
theorem dX4_isLike_31 : decode cX4_isLike 31 = .ok (.goto 4, 3) := by decide +kernel
theorem dX4_isLike_34 : decode cX4_isLike 34 = .ok (.iconst 0, 1) := by decide +kernel
theorem dX4_isLike_35 : decode cX4_isLike 35 = .ok (.ireturn, 1) := by decide +kernel
theorem dX4_comesAhead_0 : decode cX4_comesAhead 0 = .ok (.aload_n 0, 1) := by decide +kernel
theorem dX4_comesAhead_1 : decode cX4_comesAhead 1 = .ok (.getfield 26, 3) := by decide +kernel
theorem dX4_comesAhead_4 : decode cX4_comesAhead 4 = .ok (.aload_n 1, 1) := by decide +kernel
theorem dX4_comesAhead_5 : decode cX4_comesAhead 5 = .ok (.getfield 26, 3) := by decide +kernel
theorem dX4_comesAhead_8 : decode cX4_comesAhead 8 = .ok (.if_icmp .eq 8, 3) := by decide +kernel
theorem dX4_comesAhead_11 : decode cX4_comesAhead 11 = .ok (.aload_n 0, 1) := by decide +kernel
theorem dX4_comesAhead_12 : decode cX4_comesAhead 12 = .ok (.getfield 26, 3) := by decide +kernel
theorem dX4_comesAhead_15 : decode cX4_comesAhead 15 = .ok (.ireturn, 1) := by decide +kernel
theorem dX4_comesAhead_16 : decode cX4_comesAhead 16 = .ok (.aload_n 0, 1) := by decide +kernel
theorem dX4_comesAhead_17 : decode cX4_comesAhead 17 = .ok (.getfield 10, 3) := by decide +kernel
theorem dX4_comesAhead_20 : decode cX4_comesAhead 20 = .ok (.getfield 16, 3) := by decide +kernel
theorem dX4_comesAhead_23 : decode cX4_comesAhead 23 = .ok (.aload_n 0, 1) := by decide +kernel
theorem dX4_comesAhead_24 : decode cX4_comesAhead 24 = .ok (.getfield 10, 3) := by decide +kernel
theorem dX4_comesAhead_27 : decode cX4_comesAhead 27 = .ok (.getfield 20, 3) := by decide +kernel
theorem dX4_comesAhead_30 : decode cX4_comesAhead 30 = .ok (.imul, 1) := by decide +kernel
theorem dX4_comesAhead_31 : decode cX4_comesAhead 31 = .ok (.istore_n 2, 1) := by decide +kernel
theorem dX4_comesAhead_32 : decode cX4_comesAhead 32 = .ok (.aload_n 1, 1) := by decide +kernel
theorem dX4_comesAhead_33 : decode cX4_comesAhead 33 = .ok (.getfield 10, 3) := by decide +kernel
theorem dX4_comesAhead_36 : decode cX4_comesAhead 36 = .ok (.getfield 16, 3) := by decide +kernel
theorem dX4_comesAhead_39 : decode cX4_comesAhead 39 = .ok (.aload_n 1, 1) := by decide +kernel
theorem dX4_comesAhead_40 : decode cX4_comesAhead 40 = .ok (.getfield 10, 3) := by decide +kernel
theorem dX4_comesAhead_43 : decode cX4_comesAhead 43 = .ok (.getfield 20, 3) := by decide +kernel
theorem dX4_comesAhead_46 : decode cX4_comesAhead 46 = .ok (.imul, 1) := by decide +kernel
theorem dX4_comesAhead_47 : decode cX4_comesAhead 47 = .ok (.istore_n 3, 1) := by decide +kernel
theorem dX4_comesAhead_48 : decode cX4_comesAhead 48 = .ok (.iload_n 2, 1) := by decide +kernel
theorem dX4_comesAhead_49 : decode cX4_comesAhead 49 = .ok (.iload_n 3, 1) := by decide +kernel
theorem dX4_comesAhead_50 : decode cX4_comesAhead 50 = .ok (.if_icmp .gt 19, 3) := by decide +kernel
theorem dX4_comesAhead_53 : decode cX4_comesAhead 53 = .ok (.iload_n 2, 1) := by decide +kernel
theorem dX4_comesAhead_54 : decode cX4_comesAhead 54 = .ok (.iload_n 3, 1) := by decide +kernel
theorem dX4_comesAhead_55 : decode cX4_comesAhead 55 = .ok (.if_icmp .ne 18, 3) := by decide +kernel
theorem dX4_comesAhead_58 : decode cX4_comesAhead 58 = .ok (.aload_n 0, 1) := by decide +kernel
theorem dX4_comesAhead_59 : decode cX4_comesAhead 59 = .ok (.getfield 23, 3) := by decide +kernel
theorem dX4_comesAhead_62 : decode cX4_comesAhead 62 = .ok (.aload_n 1, 1) := by decide +kernel
theorem dX4_comesAhead_63 : decode cX4_comesAhead 63 = .ok (.getfield 23, 3) := by decide +kernel
theorem dX4_comesAhead_66 : decode cX4_comesAhead 66 = .ok (.if_icmp .le 7, 3) := by decide +kernel
theorem dX4_comesAhead_69 : decode cX4_comesAhead 69 = .ok (.iconst 1, 1) := by decide +kernel
theorem dX4_comesAhead_70 : decode cX4_comesAhead 70 = .ok (.goto 4, 3) := by decide +kernel
theorem dX4_comesAhead_73 : decode cX4_comesAhead 73 = .ok (.iconst 0, 1) := by decide +kernel
theorem dX4_comesAhead_74 : decode cX4_comesAhead 74 = .ok (.ireturn, 1) := by decide +kernel
theorem dX5_init_0 : decode cX5_init 0 = .ok (.aload_n 0, 1) := by decide +kernel
theorem dX5_init_1 : decode cX5_init 1 = .ok (.invokespecial 3, 3) := by decide +kernel
theorem dX5_init_4 : decode cX5_init 4 = .ok (.aload_n 0, 1) := by decide +kernel
theorem dX5_init_5 : decode cX5_init 5 = .ok (.bipush 40, 2) := by decide +kernel
theorem dX5_init_7 : decode cX5_init 7 = .ok (.anewarray 9, 3) := by decide +kernel
theorem dX5_init_10 : decode cX5_init 10 = .ok (.putfield 11, 3) := by decide +kernel
theorem dX5_init_13 : decode cX5_init 13 = .ok (.aload_n 0, 1) := by decide +kernel
theorem dX5_init_14 : decode cX5_init 14 = .ok (.bipush 7, 2) := by decide +kernel
theorem dX5_init_16 : decode cX5_init 16 = .ok (.newarray .int, 2) := by decide +kernel
theorem dX5_init_18 : decode cX5_init 18 = .ok (.putfield 17, 3) := by decide +kernel
theorem dX5_init_21 : decode cX5_init 21 = .ok (.aload_n 0, 1) := by decide +kernel
theorem dX5_init_22 : decode cX5_init 22 = .ok (.new 21, 3) := by decide +kernel
theorem dX5_init_25 : decode cX5_init 25 = .ok (.dup, 1) := by decide +kernel
theorem dX5_init_26 : decode cX5_init 26 = .ok (.invokespecial 23, 3) := by decide +kernel
theorem dX5_init_29 : decode cX5_init 29 = .ok (.putfield 24, 3) := by decide +kernel
theorem dX5_init_32 : decode cX5_init 32 = .ok (.iconst 0, 1) := by decide +kernel
theorem dX5_init_33 : decode cX5_init 33 = .ok (.istore_n 1, 1) := by decide +kernel
theorem dX5_init_34 : decode cX5_init 34 = .ok (.iload_n 1, 1) := by decide +kernel
theorem dX5_init_35 : decode cX5_init 35 = .ok (.aload_n 0, 1) := by decide +kernel
theorem dX5_init_36 : decode cX5_init 36 = .ok (.getfield 11, 3) := by decide +kernel
theorem dX5_init_39 : decode cX5_init 39 = .ok (.arraylength, 1) := by decide +kernel
theorem dX5_init_40 : decode cX5_init 40 = .ok (.if_icmp .ge 22, 3) := by decide +kernel
theorem dX5_init_43 : decode cX5_init 43 = .ok (.aload_n 0, 1) := by decide +kernel
theorem dX5_init_44 : decode cX5_init 44 = .ok (.getfield 11, 3) := by decide +kernel
theorem dX5_init_47 : decode cX5_init 47 = .ok (.iload_n 1, 1) := by decide +kernel
theorem dX5_init_48 : decode cX5_init 48 = .ok (.new 9, 3) := by decide +kernel
theorem dX5_init_51 : decode cX5_init 51 = .ok (.dup, 1) := by decide +kernel
theorem dX5_init_52 : decode cX5_init 52 = .ok (.invokespecial 28, 3) := by decide +kernel
theorem dX5_init_55 : decode cX5_init 55 = .ok (.aastore, 1) := by decide +kernel
theorem dX5_init_56 : decode cX5_init 56 = .ok (.iinc 1 1, 3) := by decide +kernel
theorem dX5_init_59 : decode cX5_init 59 = .ok (.goto (-25), 3) := by decide +kernel
theorem dX5_init_62 : decode cX5_init 62 = .ok (.return_, 1) := by decide +kernel
theorem dX5_at_0 : decode cX5_at 0 = .ok (.iload_n 1, 1) := by decide +kernel
theorem dX5_at_1 : decode cX5_at 1 = .ok (.ifCond .lt 29, 3) := by decide +kernel
theorem dX5_at_4 : decode cX5_at 4 = .ok (.iload_n 1, 1) := by decide +kernel
theorem dX5_at_5 : decode cX5_at 5 = .ok (.aload_n 0, 1) := by decide +kernel
theorem dX5_at_6 : decode cX5_at 6 = .ok (.getfield 29, 3) := by decide +kernel
theorem dX5_at_9 : decode cX5_at 9 = .ok (.if_icmp .ge 21, 3) := by decide +kernel
theorem dX5_at_12 : decode cX5_at 12 = .ok (.iload_n 1, 1) := by decide +kernel
theorem dX5_at_13 : decode cX5_at 13 = .ok (.aload_n 0, 1) := by decide +kernel
theorem dX5_at_14 : decode cX5_at 14 = .ok (.getfield 11, 3) := by decide +kernel
theorem dX5_at_17 : decode cX5_at 17 = .ok (.arraylength, 1) := by decide +kernel
theorem dX5_at_18 : decode cX5_at 18 = .ok (.if_icmp .ge 12, 3) := by decide +kernel
theorem dX5_at_21 : decode cX5_at 21 = .ok (.aload_n 0, 1) := by decide +kernel
theorem dX5_at_22 : decode cX5_at 22 = .ok (.getfield 11, 3) := by decide +kernel
theorem dX5_at_25 : decode cX5_at 25 = .ok (.iload_n 1, 1) := by decide +kernel
theorem dX5_at_26 : decode cX5_at 26 = .ok (.aaload, 1) := by decide +kernel
theorem dX5_at_27 : decode cX5_at 27 = .ok (.goto 4, 3) := by decide +kernel
theorem dX5_at_30 : decode cX5_at 30 = .ok (.aconst_null, 1) := by decide +kernel
theorem dX5_at_31 : decode cX5_at 31 = .ok (.areturn, 1) := by decide +kernel
theorem dX5_leftOutBy_0 : decode cX5_leftOutBy 0 = .ok (.iload_n 1, 1) := by decide +kernel
theorem dX5_leftOutBy_1 : decode cX5_leftOutBy 1 = .ok (.ifCond .lt 21, 3) := by decide +kernel
theorem dX5_leftOutBy_4 : decode cX5_leftOutBy 4 = .ok (.iload_n 1, 1) := by decide +kernel
theorem dX5_leftOutBy_5 : decode cX5_leftOutBy 5 = .ok (.aload_n 0, 1) := by decide +kernel
theorem dX5_leftOutBy_6 : decode cX5_leftOutBy 6 = .ok (.getfield 17, 3) := by decide +kernel
theorem dX5_leftOutBy_9 : decode cX5_leftOutBy 9 = .ok (.arraylength, 1) := by decide +kernel
theorem dX5_leftOutBy_10 : decode cX5_leftOutBy 10 = .ok (.if_icmp .ge 12, 3) := by decide +kernel
theorem dX5_leftOutBy_13 : decode cX5_leftOutBy 13 = .ok (.aload_n 0, 1) := by decide +kernel
theorem dX5_leftOutBy_14 : decode cX5_leftOutBy 14 = .ok (.getfield 17, 3) := by decide +kernel
theorem dX5_leftOutBy_17 : decode cX5_leftOutBy 17 = .ok (.iload_n 1, 1) := by decide +kernel
theorem dX5_leftOutBy_18 : decode cX5_leftOutBy 18 = .ok (.iaload, 1) := by decide +kernel
theorem dX5_leftOutBy_19 : decode cX5_leftOutBy 19 = .ok (.goto 4, 3) := by decide +kernel
theorem dX5_leftOutBy_22 : decode cX5_leftOutBy 22 = .ok (.iconst 0, 1) := by decide +kernel
theorem dX5_leftOutBy_23 : decode cX5_leftOutBy 23 = .ok (.ireturn, 1) := by decide +kernel
theorem dX5_indexOf_0 : decode cX5_indexOf 0 = .ok (.iconst 0, 1) := by decide +kernel
theorem dX5_indexOf_1 : decode cX5_indexOf 1 = .ok (.istore 4, 2) := by decide +kernel
theorem dX5_indexOf_3 : decode cX5_indexOf 3 = .ok (.iload 4, 2) := by decide +kernel
theorem dX5_indexOf_5 : decode cX5_indexOf 5 = .ok (.aload_n 0, 1) := by decide +kernel
theorem dX5_indexOf_6 : decode cX5_indexOf 6 = .ok (.getfield 29, 3) := by decide +kernel
theorem dX5_indexOf_9 : decode cX5_indexOf 9 = .ok (.if_icmp .ge 38, 3) := by decide +kernel
theorem dX5_indexOf_12 : decode cX5_indexOf 12 = .ok (.iload 4, 2) := by decide +kernel
theorem dX5_indexOf_14 : decode cX5_indexOf 14 = .ok (.aload_n 0, 1) := by decide +kernel
theorem dX5_indexOf_15 : decode cX5_indexOf 15 = .ok (.getfield 11, 3) := by decide +kernel
theorem dX5_indexOf_18 : decode cX5_indexOf 18 = .ok (.arraylength, 1) := by decide +kernel
theorem dX5_indexOf_19 : decode cX5_indexOf 19 = .ok (.if_icmp .ge 28, 3) := by decide +kernel
theorem dX5_indexOf_22 : decode cX5_indexOf 22 = .ok (.aload_n 0, 1) := by decide +kernel
theorem dX5_indexOf_23 : decode cX5_indexOf 23 = .ok (.getfield 11, 3) := by decide +kernel
theorem dX5_indexOf_26 : decode cX5_indexOf 26 = .ok (.iload 4, 2) := by decide +kernel
theorem dX5_indexOf_28 : decode cX5_indexOf 28 = .ok (.aaload, 1) := by decide +kernel
theorem dX5_indexOf_29 : decode cX5_indexOf 29 = .ok (.iload_n 1, 1) := by decide +kernel
theorem dX5_indexOf_30 : decode cX5_indexOf 30 = .ok (.iload_n 2, 1) := by decide +kernel
theorem dX5_indexOf_31 : decode cX5_indexOf 31 = .ok (.iload_n 3, 1) := by decide +kernel
theorem dX5_indexOf_32 : decode cX5_indexOf 32 = .ok (.invokevirtual 33, 3) := by decide +kernel
theorem dX5_indexOf_35 : decode cX5_indexOf 35 = .ok (.ifCond .eq 6, 3) := by decide +kernel
theorem dX5_indexOf_38 : decode cX5_indexOf 38 = .ok (.iload 4, 2) := by decide +kernel
theorem dX5_indexOf_40 : decode cX5_indexOf 40 = .ok (.ireturn, 1) := by decide +kernel
theorem dX5_indexOf_41 : decode cX5_indexOf 41 = .ok (.iinc 4 1, 3) := by decide +kernel
theorem dX5_indexOf_44 : decode cX5_indexOf 44 = .ok (.goto (-41), 3) := by decide +kernel
theorem dX5_indexOf_47 : decode cX5_indexOf 47 = .ok (.iconst (-1), 1) := by decide +kernel
theorem dX5_indexOf_48 : decode cX5_indexOf 48 = .ok (.ireturn, 1) := by decide +kernel
theorem dX5_collect_0 : decode cX5_collect 0 = .ok (.aload_n 0, 1) := by decide +kernel
theorem dX5_collect_1 : decode cX5_collect 1 = .ok (.iconst 0, 1) := by decide +kernel
theorem dX5_collect_2 : decode cX5_collect 2 = .ok (.putfield 29, 3) := by decide +kernel
theorem dX5_collect_5 : decode cX5_collect 5 = .ok (.aload_n 0, 1) := by decide +kernel
theorem dX5_collect_6 : decode cX5_collect 6 = .ok (.getfield 17, 3) := by decide +kernel
theorem dX5_collect_9 : decode cX5_collect 9 = .ok (.iconst 0, 1) := by decide +kernel
theorem dX5_collect_10 : decode cX5_collect 10 = .ok (.invokestatic 37, 3) := by decide +kernel
theorem dX5_collect_13 : decode cX5_collect 13 = .ok (.aload_n 1, 1) := by decide +kernel
theorem dX5_collect_14 : decode cX5_collect 14 = .ok (.bipush 54, 2) := by decide +kernel
theorem dX5_collect_16 : decode cX5_collect 16 = .ok (.invokevirtual 43, 3) := by decide +kernel
theorem dX5_collect_19 : decode cX5_collect 19 = .ok (.istore_n 2, 1) := by decide +kernel
theorem dX5_collect_20 : decode cX5_collect 20 = .ok (.iconst 0, 1) := by decide +kernel
theorem dX5_collect_21 : decode cX5_collect 21 = .ok (.istore_n 3, 1) := by decide +kernel
theorem dX5_collect_22 : decode cX5_collect 22 = .ok (.iload_n 3, 1) := by decide +kernel
theorem dX5_collect_23 : decode cX5_collect 23 = .ok (.aload_n 1, 1) := by decide +kernel
theorem dX5_collect_24 : decode cX5_collect 24 = .ok (.getfield 49, 3) := by decide +kernel
theorem dX5_collect_27 : decode cX5_collect 27 = .ok (.if_icmp .ge 61, 3) := by decide +kernel
theorem dX5_collect_30 : decode cX5_collect 30 = .ok (.aload_n 1, 1) := by decide +kernel
theorem dX5_collect_31 : decode cX5_collect 31 = .ok (.iload_n 3, 1) := by decide +kernel
theorem dX5_collect_32 : decode cX5_collect 32 = .ok (.invokevirtual 52, 3) := by decide +kernel
theorem dX5_collect_35 : decode cX5_collect 35 = .ok (.astore 4, 2) := by decide +kernel
theorem dX5_collect_37 : decode cX5_collect 37 = .ok (.aload 4, 2) := by decide +kernel
theorem dX5_collect_39 : decode cX5_collect 39 = .ok (.ifnull 43, 3) := by decide +kernel
theorem dX5_collect_42 : decode cX5_collect 42 = .ok (.aload_n 0, 1) := by decide +kernel
theorem dX5_collect_43 : decode cX5_collect 43 = .ok (.getfield 24, 3) := by decide +kernel
theorem dX5_collect_46 : decode cX5_collect 46 = .ok (.aload 4, 2) := by decide +kernel
theorem dX5_collect_48 : decode cX5_collect 48 = .ok (.invokevirtual 56, 3) := by decide +kernel
theorem dX5_collect_51 : decode cX5_collect 51 = .ok (.aload_n 0, 1) := by decide +kernel
theorem dX5_collect_52 : decode cX5_collect 52 = .ok (.aload_n 1, 1) := by decide +kernel
theorem dX5_collect_53 : decode cX5_collect 53 = .ok (.iload_n 3, 1) := by decide +kernel
theorem dX5_collect_54 : decode cX5_collect 54 = .ok (.aload_n 1, 1) := by decide +kernel
theorem dX5_collect_55 : decode cX5_collect 55 = .ok (.getfield 60, 3) := by decide +kernel
theorem dX5_collect_58 : decode cX5_collect 58 = .ok (.if_icmp .ge 7, 3) := by decide +kernel
theorem dX5_collect_61 : decode cX5_collect 61 = .ok (.iconst 0, 1) := by decide +kernel
theorem dX5_collect_62 : decode cX5_collect 62 = .ok (.goto 4, 3) := by decide +kernel
theorem dX5_collect_65 : decode cX5_collect 65 = .ok (.iconst 1, 1) := by decide +kernel
theorem dX5_collect_66 : decode cX5_collect 66 = .ok (.iload_n 3, 1) := by decide +kernel
theorem dX5_collect_67 : decode cX5_collect 67 = .ok (.ifCond .ne 11, 3) := by decide +kernel
theorem dX5_collect_70 : decode cX5_collect 70 = .ok (.iload_n 2, 1) := by decide +kernel
theorem dX5_collect_71 : decode cX5_collect 71 = .ok (.ifCond .eq 7, 3) := by decide +kernel
theorem dX5_collect_74 : decode cX5_collect 74 = .ok (.iconst 1, 1) := by decide +kernel
theorem dX5_collect_75 : decode cX5_collect 75 = .ok (.goto 4, 3) := by decide +kernel
theorem dX5_collect_78 : decode cX5_collect 78 = .ok (.iconst 0, 1) := by decide +kernel
theorem dX5_collect_79 : decode cX5_collect 79 = .ok (.invokevirtual 63, 3) := by decide +kernel
theorem dX5_collect_82 : decode cX5_collect 82 = .ok (.iinc 3 1, 3) := by decide +kernel
theorem dX5_collect_85 : decode cX5_collect 85 = .ok (.goto (-63), 3) := by decide +kernel
theorem dX5_collect_88 : decode cX5_collect 88 = .ok (.iconst 0, 1) := by decide +kernel
theorem dX5_collect_89 : decode cX5_collect 89 = .ok (.istore_n 3, 1) := by decide +kernel
theorem dX5_collect_90 : decode cX5_collect 90 = .ok (.iload_n 3, 1) := by decide +kernel
theorem dX5_collect_91 : decode cX5_collect 91 = .ok (.aload_n 1, 1) := by decide +kernel
theorem dX5_collect_92 : decode cX5_collect 92 = .ok (.getfield 67, 3) := by decide +kernel
theorem dX5_collect_95 : decode cX5_collect 95 = .ok (.if_icmp .ge 19, 3) := by decide +kernel
theorem dX5_collect_98 : decode cX5_collect 98 = .ok (.aload_n 0, 1) := by decide +kernel
theorem dX5_collect_99 : decode cX5_collect 99 = .ok (.aload_n 1, 1) := by decide +kernel
theorem dX5_collect_100 : decode cX5_collect 100 = .ok (.aload_n 1, 1) := by decide +kernel
theorem dX5_collect_101 : decode cX5_collect 101 = .ok (.iload_n 3, 1) := by decide +kernel
theorem dX5_collect_102 : decode cX5_collect 102 = .ok (.invokevirtual 70, 3) := by decide +kernel
theorem dX5_collect_105 : decode cX5_collect 105 = .ok (.invokevirtual 74, 3) := by decide +kernel
theorem dX5_collect_108 : decode cX5_collect 108 = .ok (.iinc 3 1, 3) := by decide +kernel
theorem dX5_collect_111 : decode cX5_collect 111 = .ok (.goto (-21), 3) := by decide +kernel
theorem dX5_collect_114 : decode cX5_collect 114 = .ok (.bipush 38, 2) := by decide +kernel
theorem dX5_collect_116 : decode cX5_collect 116 = .ok (.istore_n 3, 1) := by decide +kernel
theorem dX5_collect_117 : decode cX5_collect 117 = .ok (.iload_n 3, 1) := by decide +kernel
theorem dX5_collect_118 : decode cX5_collect 118 = .ok (.bipush 54, 2) := by decide +kernel
theorem dX5_collect_120 : decode cX5_collect 120 = .ok (.if_icmp .ge 32, 3) := by decide +kernel
theorem dX5_collect_123 : decode cX5_collect 123 = .ok (.aload_n 0, 1) := by decide +kernel
theorem dX5_collect_124 : decode cX5_collect 124 = .ok (.aload_n 1, 1) := by decide +kernel
theorem dX5_collect_125 : decode cX5_collect 125 = .ok (.aload_n 1, 1) := by decide +kernel
theorem dX5_collect_126 : decode cX5_collect 126 = .ok (.getfield 78, 3) := by decide +kernel
theorem dX5_collect_129 : decode cX5_collect 129 = .ok (.iload_n 3, 1) := by decide +kernel
theorem dX5_collect_130 : decode cX5_collect 130 = .ok (.invokevirtual 82, 3) := by decide +kernel
theorem dX5_collect_133 : decode cX5_collect 133 = .ok (.aload_n 1, 1) := by decide +kernel
theorem dX5_collect_134 : decode cX5_collect 134 = .ok (.getfield 78, 3) := by decide +kernel
theorem dX5_collect_137 : decode cX5_collect 137 = .ok (.iload_n 3, 1) := by decide +kernel
theorem dX5_collect_138 : decode cX5_collect 138 = .ok (.iconst 1, 1) := by decide +kernel
theorem dX5_collect_139 : decode cX5_collect 139 = .ok (.iadd, 1) := by decide +kernel
theorem dX5_collect_140 : decode cX5_collect 140 = .ok (.invokevirtual 82, 3) := by decide +kernel
theorem dX5_collect_143 : decode cX5_collect 143 = .ok (.invokevirtual 87, 3) := by decide +kernel
theorem dX5_collect_146 : decode cX5_collect 146 = .ok (.iinc 3 2, 3) := by decide +kernel
theorem dX5_collect_149 : decode cX5_collect 149 = .ok (.goto (-32), 3) := by decide +kernel
theorem dX5_collect_152 : decode cX5_collect 152 = .ok (.iconst 0, 1) := by decide +kernel
theorem dX5_collect_153 : decode cX5_collect 153 = .ok (.istore_n 3, 1) := by decide +kernel
theorem dX5_collect_154 : decode cX5_collect 154 = .ok (.iload_n 3, 1) := by decide +kernel
theorem dX5_collect_155 : decode cX5_collect 155 = .ok (.iconst 5, 1) := by decide +kernel
theorem dX5_collect_156 : decode cX5_collect 156 = .ok (.iadd, 1) := by decide +kernel
theorem dX5_collect_157 : decode cX5_collect 157 = .ok (.getstatic 91, 3) := by decide +kernel
theorem dX5_collect_160 : decode cX5_collect 160 = .ok (.arraylength, 1) := by decide +kernel
theorem dX5_collect_161 : decode cX5_collect 161 = .ok (.if_icmp .gt 70, 3) := by decide +kernel
theorem dX5_collect_164 : decode cX5_collect 164 = .ok (.aload_n 1, 1) := by decide +kernel
theorem dX5_collect_165 : decode cX5_collect 165 = .ok (.getfield 78, 3) := by decide +kernel
theorem dX5_collect_168 : decode cX5_collect 168 = .ok (.getstatic 91, 3) := by decide +kernel
theorem dX5_collect_171 : decode cX5_collect 171 = .ok (.iload_n 3, 1) := by decide +kernel
theorem dX5_collect_172 : decode cX5_collect 172 = .ok (.iaload, 1) := by decide +kernel
theorem dX5_collect_173 : decode cX5_collect 173 = .ok (.invokevirtual 82, 3) := by decide +kernel
theorem dX5_collect_176 : decode cX5_collect 176 = .ok (.getstatic 91, 3) := by decide +kernel
theorem dX5_collect_179 : decode cX5_collect 179 = .ok (.iload_n 3, 1) := by decide +kernel
theorem dX5_collect_180 : decode cX5_collect 180 = .ok (.iconst 1, 1) := by decide +kernel
theorem dX5_collect_181 : decode cX5_collect 181 = .ok (.iadd, 1) := by decide +kernel
theorem dX5_collect_182 : decode cX5_collect 182 = .ok (.iaload, 1) := by decide +kernel
theorem dX5_collect_183 : decode cX5_collect 183 = .ok (.ishr, 1) := by decide +kernel
theorem dX5_collect_184 : decode cX5_collect 184 = .ok (.iconst 1, 1) := by decide +kernel
theorem dX5_collect_185 : decode cX5_collect 185 = .ok (.iand, 1) := by decide +kernel
theorem dX5_collect_186 : decode cX5_collect 186 = .ok (.ifCond .eq 39, 3) := by decide +kernel
theorem dX5_collect_189 : decode cX5_collect 189 = .ok (.aload_n 0, 1) := by decide +kernel
theorem dX5_collect_190 : decode cX5_collect 190 = .ok (.getfield 24, 3) := by decide +kernel
theorem dX5_collect_193 : decode cX5_collect 193 = .ok (.iconst 0, 1) := by decide +kernel
theorem dX5_collect_194 : decode cX5_collect 194 = .ok (.getstatic 91, 3) := by decide +kernel
theorem dX5_collect_197 : decode cX5_collect 197 = .ok (.iload_n 3, 1) := by decide +kernel
theorem dX5_collect_198 : decode cX5_collect 198 = .ok (.iconst 2, 1) := by decide +kernel
theorem dX5_collect_199 : decode cX5_collect 199 = .ok (.iadd, 1) := by decide +kernel
theorem dX5_collect_200 : decode cX5_collect 200 = .ok (.iaload, 1) := by decide +kernel
theorem dX5_collect_201 : decode cX5_collect 201 = .ok (.getstatic 91, 3) := by decide +kernel
theorem dX5_collect_204 : decode cX5_collect 204 = .ok (.iload_n 3, 1) := by decide +kernel
theorem dX5_collect_205 : decode cX5_collect 205 = .ok (.iconst 3, 1) := by decide +kernel
theorem dX5_collect_206 : decode cX5_collect 206 = .ok (.iadd, 1) := by decide +kernel
theorem dX5_collect_207 : decode cX5_collect 207 = .ok (.iaload, 1) := by decide +kernel
theorem dX5_collect_208 : decode cX5_collect 208 = .ok (.getstatic 91, 3) := by decide +kernel
theorem dX5_collect_211 : decode cX5_collect 211 = .ok (.iload_n 3, 1) := by decide +kernel
theorem dX5_collect_212 : decode cX5_collect 212 = .ok (.iconst 4, 1) := by decide +kernel
theorem dX5_collect_213 : decode cX5_collect 213 = .ok (.iadd, 1) := by decide +kernel
theorem dX5_collect_214 : decode cX5_collect 214 = .ok (.iaload, 1) := by decide +kernel
theorem dX5_collect_215 : decode cX5_collect 215 = .ok (.invokevirtual 94, 3) := by decide +kernel
theorem dX5_collect_218 : decode cX5_collect 218 = .ok (.aload_n 0, 1) := by decide +kernel
theorem dX5_collect_219 : decode cX5_collect 219 = .ok (.aload_n 1, 1) := by decide +kernel
theorem dX5_collect_220 : decode cX5_collect 220 = .ok (.iconst 4, 1) := by decide +kernel
theorem dX5_collect_221 : decode cX5_collect 221 = .ok (.iconst 0, 1) := by decide +kernel
theorem dX5_collect_222 : decode cX5_collect 222 = .ok (.invokevirtual 63, 3) := by decide +kernel
theorem dX5_collect_225 : decode cX5_collect 225 = .ok (.iinc 3 5, 3) := by decide +kernel
theorem dX5_collect_228 : decode cX5_collect 228 = .ok (.goto (-74), 3) := by decide +kernel
theorem dX5_collect_231 : decode cX5_collect 231 = .ok (.return_, 1) := by decide +kernel
theorem dX5_offerCode_0 : decode cX5_offerCode 0 = .ok (.iconst 0, 1) := by decide +kernel
theorem dX5_offerCode_1 : decode cX5_offerCode 1 = .ok (.istore_n 3, 1) := by decide +kernel
theorem dX5_offerCode_2 : decode cX5_offerCode 2 = .ok (.iload_n 3, 1) := by decide +kernel
theorem dX5_offerCode_3 : decode cX5_offerCode 3 = .ok (.bipush 6, 2) := by decide +kernel
theorem dX5_offerCode_5 : decode cX5_offerCode 5 = .ok (.iadd, 1) := by decide +kernel
theorem dX5_offerCode_6 : decode cX5_offerCode 6 = .ok (.getstatic 98, 3) := by decide +kernel
theorem dX5_offerCode_9 : decode cX5_offerCode 9 = .ok (.arraylength, 1) := by decide +kernel
theorem dX5_offerCode_10 : decode cX5_offerCode 10 = .ok (.if_icmp .gt 34, 3) := by decide +kernel
theorem dX5_offerCode_13 : decode cX5_offerCode 13 = .ok (.getstatic 98, 3) := by decide +kernel
theorem dX5_offerCode_16 : decode cX5_offerCode 16 = .ok (.iload_n 3, 1) := by decide +kernel
theorem dX5_offerCode_17 : decode cX5_offerCode 17 = .ok (.iaload, 1) := by decide +kernel
theorem dX5_offerCode_18 : decode cX5_offerCode 18 = .ok (.iload_n 2, 1) := by decide +kernel
theorem dX5_offerCode_19 : decode cX5_offerCode 19 = .ok (.if_icmp .ne 19, 3) := by decide +kernel
theorem dX5_offerCode_22 : decode cX5_offerCode 22 = .ok (.aload_n 0, 1) := by decide +kernel
theorem dX5_offerCode_23 : decode cX5_offerCode 23 = .ok (.getfield 24, 3) := by decide +kernel
theorem dX5_offerCode_26 : decode cX5_offerCode 26 = .ok (.iload_n 3, 1) := by decide +kernel
theorem dX5_offerCode_27 : decode cX5_offerCode 27 = .ok (.invokevirtual 101, 3) := by decide +kernel
theorem dX5_offerCode_30 : decode cX5_offerCode 30 = .ok (.aload_n 0, 1) := by decide +kernel
theorem dX5_offerCode_31 : decode cX5_offerCode 31 = .ok (.aload_n 1, 1) := by decide +kernel
theorem dX5_offerCode_32 : decode cX5_offerCode 32 = .ok (.iconst 2, 1) := by decide +kernel
theorem dX5_offerCode_33 : decode cX5_offerCode 33 = .ok (.iconst 0, 1) := by decide +kernel
theorem dX5_offerCode_34 : decode cX5_offerCode 34 = .ok (.invokevirtual 63, 3) := by decide +kernel
theorem dX5_offerCode_37 : decode cX5_offerCode 37 = .ok (.return_, 1) := by decide +kernel
theorem dX5_offerCode_38 : decode cX5_offerCode 38 = .ok (.iinc 3 6, 3) := by decide +kernel
theorem dX5_offerCode_41 : decode cX5_offerCode 41 = .ok (.goto (-39), 3) := by decide +kernel
theorem dX5_offerCode_44 : decode cX5_offerCode 44 = .ok (.aload_n 0, 1) := by decide +kernel
theorem dX5_offerCode_45 : decode cX5_offerCode 45 = .ok (.getfield 17, 3) := by decide +kernel
theorem dX5_offerCode_48 : decode cX5_offerCode 48 = .ok (.iconst 1, 1) := by decide +kernel
theorem dX5_offerCode_49 : decode cX5_offerCode 49 = .ok (.dup2, 1) := by decide +kernel
theorem dX5_offerCode_50 : decode cX5_offerCode 50 = .ok (.iaload, 1) := by decide +kernel
theorem dX5_offerCode_51 : decode cX5_offerCode 51 = .ok (.iconst 1, 1) := by decide +kernel
theorem dX5_offerCode_52 : decode cX5_offerCode 52 = .ok (.iadd, 1) := by decide +kernel
theorem dX5_offerCode_53 : decode cX5_offerCode 53 = .ok (.iastore, 1) := by decide +kernel
theorem dX5_offerCode_54 : decode cX5_offerCode 54 = .ok (.return_, 1) := by decide +kernel
theorem dX5_offerStandard_0 : decode cX5_offerStandard 0 = .ok (.iload_n 2, 1) := by decide +kernel
theorem dX5_offerStandard_1 : decode cX5_offerStandard 1 = .ok (.ifCond .eq 13, 3) := by decide +kernel
theorem dX5_offerStandard_4 : decode cX5_offerStandard 4 = .ok (.iload_n 2, 1) := by decide +kernel
theorem dX5_offerStandard_5 : decode cX5_offerStandard 5 = .ok (.iconst 1, 1) := by decide +kernel
theorem dX5_offerStandard_6 : decode cX5_offerStandard 6 = .ok (.if_icmp .ne 9, 3) := by decide +kernel
theorem dX5_offerStandard_9 : decode cX5_offerStandard 9 = .ok (.iload_n 3, 1) := by decide +kernel
theorem dX5_offerStandard_10 : decode cX5_offerStandard 10 = .ok (.iconst 1, 1) := by decide +kernel
theorem dX5_offerStandard_11 : decode cX5_offerStandard 11 = .ok (.if_icmp .ne 4, 3) := by decide +kernel
theorem dX5_offerStandard_14 : decode cX5_offerStandard 14 = .ok (.return_, 1) := by decide +kernel
theorem dX5_offerStandard_15 : decode cX5_offerStandard 15 = .ok (.bipush 8, 2) := by decide +kernel
theorem dX5_offerStandard_17 : decode cX5_offerStandard 17 = .ok (.iload_n 2, 1) := by decide +kernel
theorem dX5_offerStandard_18 : decode cX5_offerStandard 18 = .ok (.bipush 31, 2) := by decide +kernel
theorem dX5_offerStandard_20 : decode cX5_offerStandard 20 = .ok (.iadd, 1) := by decide +kernel
theorem dX5_offerStandard_21 : decode cX5_offerStandard 21 = .ok (.imul, 1) := by decide +kernel
theorem dX5_offerStandard_22 : decode cX5_offerStandard 22 = .ok (.istore 4, 2) := by decide +kernel
theorem dX5_offerStandard_24 : decode cX5_offerStandard 24 = .ok (.aload_n 0, 1) := by decide +kernel
theorem dX5_offerStandard_25 : decode cX5_offerStandard 25 = .ok (.getfield 24, 3) := by decide +kernel
theorem dX5_offerStandard_28 : decode cX5_offerStandard 28 = .ok (.iconst 0, 1) := by decide +kernel
theorem dX5_offerStandard_29 : decode cX5_offerStandard 29 = .ok (.iload 4, 2) := by decide +kernel
theorem dX5_offerStandard_31 : decode cX5_offerStandard 31 = .ok (.iload 4, 2) := by decide +kernel
theorem dX5_offerStandard_33 : decode cX5_offerStandard 33 = .ok (.iload_n 3, 1) := by decide +kernel
theorem dX5_offerStandard_34 : decode cX5_offerStandard 34 = .ok (.bipush 6, 2) := by decide +kernel
theorem dX5_offerStandard_36 : decode cX5_offerStandard 36 = .ok (.ishr, 1) := by decide +kernel
theorem dX5_offerStandard_37 : decode cX5_offerStandard 37 = .ok (.invokestatic 105, 3) := by decide +kernel
theorem dX5_offerStandard_40 : decode cX5_offerStandard 40 = .ok (.bipush 60, 2) := by decide +kernel
theorem dX5_offerStandard_42 : decode cX5_offerStandard 42 = .ok (.iload_n 3, 1) := by decide +kernel
theorem dX5_offerStandard_43 : decode cX5_offerStandard 43 = .ok (.bipush 63, 2) := by decide +kernel
theorem dX5_offerStandard_45 : decode cX5_offerStandard 45 = .ok (.iand, 1) := by decide +kernel
theorem dX5_offerStandard_46 : decode cX5_offerStandard 46 = .ok (.iadd, 1) := by decide +kernel
theorem dX5_offerStandard_47 : decode cX5_offerStandard 47 = .ok (.invokevirtual 94, 3) := by decide +kernel
theorem dX5_offerStandard_50 : decode cX5_offerStandard 50 = .ok (.aload_n 0, 1) := by decide +kernel
theorem dX5_offerStandard_51 : decode cX5_offerStandard 51 = .ok (.aload_n 1, 1) := by decide +kernel
theorem dX5_offerStandard_52 : decode cX5_offerStandard 52 = .ok (.iconst 3, 1) := by decide +kernel
theorem dX5_offerStandard_53 : decode cX5_offerStandard 53 = .ok (.iconst 0, 1) := by decide +kernel
theorem dX5_offerStandard_54 : decode cX5_offerStandard 54 = .ok (.invokevirtual 63, 3) := by decide +kernel
theorem dX5_offerStandard_57 : decode cX5_offerStandard 57 = .ok (.return_, 1) := by decide +kernel
theorem dX5_standardHeight_0 : decode cX5_standardHeight 0 = .ok (.iload_n 1, 1) := by decide +kernel
theorem dX5_standardHeight_1 : decode cX5_standardHeight 1 = .ok (.tableswitch 47 0 2 #[27, 35, 41], 27) := by decide +kernel
theorem dX5_standardHeight_28 : decode cX5_standardHeight 28 = .ok (.iload_n 0, 1) := by decide +kernel
theorem dX5_standardHeight_29 : decode cX5_standardHeight 29 = .ok (.bipush 10, 2) := by decide +kernel
theorem dX5_standardHeight_31 : decode cX5_standardHeight 31 = .ok (.imul, 1) := by decide +kernel
theorem dX5_standardHeight_32 : decode cX5_standardHeight 32 = .ok (.bipush 16, 2) := by decide +kernel
theorem dX5_standardHeight_34 : decode cX5_standardHeight 34 = .ok (.idiv, 1) := by decide +kernel
theorem dX5_standardHeight_35 : decode cX5_standardHeight 35 = .ok (.ireturn, 1) := by decide +kernel
theorem dX5_standardHeight_36 : decode cX5_standardHeight 36 = .ok (.iload_n 0, 1) := by decide +kernel
theorem dX5_standardHeight_37 : decode cX5_standardHeight 37 = .ok (.iconst 3, 1) := by decide +kernel
theorem dX5_standardHeight_38 : decode cX5_standardHeight 38 = .ok (.imul, 1) := by decide +kernel
theorem dX5_standardHeight_39 : decode cX5_standardHeight 39 = .ok (.iconst 4, 1) := by decide +kernel
theorem dX5_standardHeight_40 : decode cX5_standardHeight 40 = .ok (.idiv, 1) := by decide +kernel
theorem dX5_standardHeight_41 : decode cX5_standardHeight 41 = .ok (.ireturn, 1) := by decide +kernel
theorem dX5_standardHeight_42 : decode cX5_standardHeight 42 = .ok (.iload_n 0, 1) := by decide +kernel
theorem dX5_standardHeight_43 : decode cX5_standardHeight 43 = .ok (.iconst 4, 1) := by decide +kernel
theorem dX5_standardHeight_44 : decode cX5_standardHeight 44 = .ok (.imul, 1) := by decide +kernel
theorem dX5_standardHeight_45 : decode cX5_standardHeight 45 = .ok (.iconst 5, 1) := by decide +kernel
theorem dX5_standardHeight_46 : decode cX5_standardHeight 46 = .ok (.idiv, 1) := by decide +kernel
theorem dX5_standardHeight_47 : decode cX5_standardHeight 47 = .ok (.ireturn, 1) := by decide +kernel
theorem dX5_standardHeight_48 : decode cX5_standardHeight 48 = .ok (.iload_n 0, 1) := by decide +kernel
theorem dX5_standardHeight_49 : decode cX5_standardHeight 49 = .ok (.bipush 9, 2) := by decide +kernel
theorem dX5_standardHeight_51 : decode cX5_standardHeight 51 = .ok (.imul, 1) := by decide +kernel
theorem dX5_standardHeight_52 : decode cX5_standardHeight 52 = .ok (.bipush 16, 2) := by decide +kernel
theorem dX5_standardHeight_54 : decode cX5_standardHeight 54 = .ok (.idiv, 1) := by decide +kernel
theorem dX5_standardHeight_55 : decode cX5_standardHeight 55 = .ok (.ireturn, 1) := by decide +kernel
theorem dX5_offer_0 : decode cX5_offer 0 = .ok (.aload_n 0, 1) := by decide +kernel
theorem dX5_offer_1 : decode cX5_offer 1 = .ok (.aload_n 0, 1) := by decide +kernel
theorem dX5_offer_2 : decode cX5_offer 2 = .ok (.getfield 24, 3) := by decide +kernel
theorem dX5_offer_5 : decode cX5_offer 5 = .ok (.invokevirtual 109, 3) := by decide +kernel
theorem dX5_offer_8 : decode cX5_offer 8 = .ok (.putfield 113, 3) := by decide +kernel
theorem dX5_offer_11 : decode cX5_offer 11 = .ok (.aload_n 0, 1) := by decide +kernel
theorem dX5_offer_12 : decode cX5_offer 12 = .ok (.aload_n 1, 1) := by decide +kernel
theorem dX5_offer_13 : decode cX5_offer 13 = .ok (.invokevirtual 116, 3) := by decide +kernel
theorem dX5_offer_16 : decode cX5_offer 16 = .ok (.istore 4, 2) := by decide +kernel
theorem dX5_offer_18 : decode cX5_offer 18 = .ok (.iload 4, 2) := by decide +kernel
theorem dX5_offer_20 : decode cX5_offer 20 = .ok (.ifCond .lt 27, 3) := by decide +kernel
theorem dX5_offer_23 : decode cX5_offer 23 = .ok (.iload 4, 2) := by decide +kernel
theorem dX5_offer_25 : decode cX5_offer 25 = .ok (.aload_n 0, 1) := by decide +kernel
theorem dX5_offer_26 : decode cX5_offer 26 = .ok (.getfield 17, 3) := by decide +kernel
theorem dX5_offer_29 : decode cX5_offer 29 = .ok (.arraylength, 1) := by decide +kernel
theorem dX5_offer_30 : decode cX5_offer 30 = .ok (.if_icmp .ge 17, 3) := by decide +kernel
theorem dX5_offer_33 : decode cX5_offer 33 = .ok (.aload_n 0, 1) := by decide +kernel
theorem dX5_offer_34 : decode cX5_offer 34 = .ok (.getfield 17, 3) := by decide +kernel
theorem dX5_offer_37 : decode cX5_offer 37 = .ok (.iload 4, 2) := by decide +kernel
theorem dX5_offer_39 : decode cX5_offer 39 = .ok (.dup2, 1) := by decide +kernel
theorem dX5_offer_40 : decode cX5_offer 40 = .ok (.iaload, 1) := by decide +kernel
theorem dX5_offer_41 : decode cX5_offer 41 = .ok (.iconst 1, 1) := by decide +kernel
theorem dX5_offer_42 : decode cX5_offer 42 = .ok (.iadd, 1) := by decide +kernel
theorem dX5_offer_43 : decode cX5_offer 43 = .ok (.iastore, 1) := by decide +kernel
theorem dX5_offer_44 : decode cX5_offer 44 = .ok (.goto 28, 3) := by decide +kernel
theorem dX5_offer_47 : decode cX5_offer 47 = .ok (.aload_n 0, 1) := by decide +kernel
theorem dX5_offer_48 : decode cX5_offer 48 = .ok (.getfield 29, 3) := by decide +kernel
theorem dX5_offer_51 : decode cX5_offer 51 = .ok (.ifCond .lt 21, 3) := by decide +kernel
theorem dX5_offer_54 : decode cX5_offer 54 = .ok (.aload_n 0, 1) := by decide +kernel
theorem dX5_offer_55 : decode cX5_offer 55 = .ok (.getfield 29, 3) := by decide +kernel
theorem dX5_offer_58 : decode cX5_offer 58 = .ok (.aload_n 0, 1) := by decide +kernel
theorem dX5_offer_59 : decode cX5_offer 59 = .ok (.getfield 11, 3) := by decide +kernel
theorem dX5_offer_62 : decode cX5_offer 62 = .ok (.arraylength, 1) := by decide +kernel
theorem dX5_offer_63 : decode cX5_offer 63 = .ok (.if_icmp .ge 9, 3) := by decide +kernel
theorem dX5_offer_66 : decode cX5_offer 66 = .ok (.aload_n 0, 1) := by decide +kernel
theorem dX5_offer_67 : decode cX5_offer 67 = .ok (.iload_n 2, 1) := by decide +kernel
theorem dX5_offer_68 : decode cX5_offer 68 = .ok (.iload_n 3, 1) := by decide +kernel
theorem dX5_offer_69 : decode cX5_offer 69 = .ok (.invokevirtual 120, 3) := by decide +kernel
theorem dX5_offer_72 : decode cX5_offer 72 = .ok (.return_, 1) := by decide +kernel
theorem dX5_whyLeftOut_0 : decode cX5_whyLeftOut 0 = .ok (.aload_n 0, 1) := by decide +kernel
theorem dX5_whyLeftOut_1 : decode cX5_whyLeftOut 1 = .ok (.getfield 24, 3) := by decide +kernel
theorem dX5_whyLeftOut_4 : decode cX5_whyLeftOut 4 = .ok (.invokevirtual 124, 3) := by decide +kernel
theorem dX5_whyLeftOut_7 : decode cX5_whyLeftOut 7 = .ok (.ifCond .eq 5, 3) := by decide +kernel
theorem dX5_whyLeftOut_10 : decode cX5_whyLeftOut 10 = .ok (.iconst 0, 1) := by decide +kernel
theorem dX5_whyLeftOut_11 : decode cX5_whyLeftOut 11 = .ok (.ireturn, 1) := by decide +kernel
theorem dX5_whyLeftOut_12 : decode cX5_whyLeftOut 12 = .ok (.aload_n 0, 1) := by decide +kernel
theorem dX5_whyLeftOut_13 : decode cX5_whyLeftOut 13 = .ok (.getfield 24, 3) := by decide +kernel
theorem dX5_whyLeftOut_16 : decode cX5_whyLeftOut 16 = .ok (.getfield 128, 3) := by decide +kernel
theorem dX5_whyLeftOut_19 : decode cX5_whyLeftOut 19 = .ok (.ifCond .eq 5, 3) := by decide +kernel
theorem dX5_whyLeftOut_22 : decode cX5_whyLeftOut 22 = .ok (.iconst 2, 1) := by decide +kernel
theorem dX5_whyLeftOut_23 : decode cX5_whyLeftOut 23 = .ok (.ireturn, 1) := by decide +kernel
theorem dX5_whyLeftOut_24 : decode cX5_whyLeftOut 24 = .ok (.aload_n 1, 1) := by decide +kernel
theorem dX5_whyLeftOut_25 : decode cX5_whyLeftOut 25 = .ok (.aload_n 0, 1) := by decide +kernel
theorem dX5_whyLeftOut_26 : decode cX5_whyLeftOut 26 = .ok (.getfield 113, 3) := by decide +kernel
theorem dX5_whyLeftOut_29 : decode cX5_whyLeftOut 29 = .ok (.aload_n 0, 1) := by decide +kernel
theorem dX5_whyLeftOut_30 : decode cX5_whyLeftOut 30 = .ok (.getfield 24, 3) := by decide +kernel
theorem dX5_whyLeftOut_33 : decode cX5_whyLeftOut 33 = .ok (.invokevirtual 132, 3) := by decide +kernel
theorem dX5_whyLeftOut_36 : decode cX5_whyLeftOut 36 = .ok (.aload_n 0, 1) := by decide +kernel
theorem dX5_whyLeftOut_37 : decode cX5_whyLeftOut 37 = .ok (.getfield 24, 3) := by decide +kernel
theorem dX5_whyLeftOut_40 : decode cX5_whyLeftOut 40 = .ok (.getfield 135, 3) := by decide +kernel
theorem dX5_whyLeftOut_43 : decode cX5_whyLeftOut 43 = .ok (.invokevirtual 138, 3) := by decide +kernel
theorem dX5_whyLeftOut_46 : decode cX5_whyLeftOut 46 = .ok (.ifCond .ne 5, 3) := by decide +kernel
theorem dX5_whyLeftOut_49 : decode cX5_whyLeftOut 49 = .ok (.iconst 3, 1) := by decide +kernel
theorem dX5_whyLeftOut_50 : decode cX5_whyLeftOut 50 = .ok (.ireturn, 1) := by decide +kernel
theorem dX5_whyLeftOut_51 : decode cX5_whyLeftOut 51 = .ok (.aload_n 1, 1) := by decide +kernel
theorem dX5_whyLeftOut_52 : decode cX5_whyLeftOut 52 = .ok (.getfield 141, 3) := by decide +kernel
theorem dX5_whyLeftOut_55 : decode cX5_whyLeftOut 55 = .ok (.ifCond .eq 19, 3) := by decide +kernel
theorem dX5_whyLeftOut_58 : decode cX5_whyLeftOut 58 = .ok (.aload_n 0, 1) := by decide +kernel
theorem dX5_whyLeftOut_59 : decode cX5_whyLeftOut 59 = .ok (.getfield 24, 3) := by decide +kernel
theorem dX5_whyLeftOut_62 : decode cX5_whyLeftOut 62 = .ok (.getfield 135, 3) := by decide +kernel
theorem dX5_whyLeftOut_65 : decode cX5_whyLeftOut 65 = .ok (.aload_n 1, 1) := by decide +kernel
theorem dX5_whyLeftOut_66 : decode cX5_whyLeftOut 66 = .ok (.getfield 141, 3) := by decide +kernel
theorem dX5_whyLeftOut_69 : decode cX5_whyLeftOut 69 = .ok (.if_icmp .le 5, 3) := by decide +kernel
theorem dX5_whyLeftOut_72 : decode cX5_whyLeftOut 72 = .ok (.iconst 4, 1) := by decide +kernel
theorem dX5_whyLeftOut_73 : decode cX5_whyLeftOut 73 = .ok (.ireturn, 1) := by decide +kernel
theorem dX5_whyLeftOut_74 : decode cX5_whyLeftOut 74 = .ok (.aload_n 0, 1) := by decide +kernel
theorem dX5_whyLeftOut_75 : decode cX5_whyLeftOut 75 = .ok (.aload_n 0, 1) := by decide +kernel
theorem dX5_whyLeftOut_76 : decode cX5_whyLeftOut 76 = .ok (.getfield 24, 3) := by decide +kernel
theorem dX5_whyLeftOut_79 : decode cX5_whyLeftOut 79 = .ok (.getfield 144, 3) := by decide +kernel
theorem dX5_whyLeftOut_82 : decode cX5_whyLeftOut 82 = .ok (.aload_n 0, 1) := by decide +kernel
theorem dX5_whyLeftOut_83 : decode cX5_whyLeftOut 83 = .ok (.getfield 24, 3) := by decide +kernel
theorem dX5_whyLeftOut_86 : decode cX5_whyLeftOut 86 = .ok (.getfield 147, 3) := by decide +kernel
theorem dX5_whyLeftOut_89 : decode cX5_whyLeftOut 89 = .ok (.aload_n 0, 1) := by decide +kernel
theorem dX5_whyLeftOut_90 : decode cX5_whyLeftOut 90 = .ok (.getfield 113, 3) := by decide +kernel
theorem dX5_whyLeftOut_93 : decode cX5_whyLeftOut 93 = .ok (.invokevirtual 150, 3) := by decide +kernel
theorem dX5_whyLeftOut_96 : decode cX5_whyLeftOut 96 = .ok (.iconst (-1), 1) := by decide +kernel
theorem dX5_whyLeftOut_97 : decode cX5_whyLeftOut 97 = .ok (.if_icmp .eq 5, 3) := by decide +kernel
theorem dX5_whyLeftOut_100 : decode cX5_whyLeftOut 100 = .ok (.iconst 5, 1) := by decide +kernel
theorem dX5_whyLeftOut_101 : decode cX5_whyLeftOut 101 = .ok (.ireturn, 1) := by decide +kernel
theorem dX5_whyLeftOut_102 : decode cX5_whyLeftOut 102 = .ok (.aload_n 0, 1) := by decide +kernel
theorem dX5_whyLeftOut_103 : decode cX5_whyLeftOut 103 = .ok (.getfield 29, 3) := by decide +kernel
theorem dX5_whyLeftOut_106 : decode cX5_whyLeftOut 106 = .ok (.bipush 40, 2) := by decide +kernel
theorem dX5_whyLeftOut_108 : decode cX5_whyLeftOut 108 = .ok (.if_icmp .lt 8, 3) := by decide +kernel
theorem dX5_whyLeftOut_111 : decode cX5_whyLeftOut 111 = .ok (.bipush 6, 2) := by decide +kernel
theorem dX5_whyLeftOut_113 : decode cX5_whyLeftOut 113 = .ok (.goto 4, 3) := by decide +kernel
theorem dX5_whyLeftOut_116 : decode cX5_whyLeftOut 116 = .ok (.iconst (-1), 1) := by decide +kernel
theorem dX5_whyLeftOut_117 : decode cX5_whyLeftOut 117 = .ok (.ireturn, 1) := by decide +kernel
theorem dX5_insert_0 : decode cX5_insert 0 = .ok (.aload_n 0, 1) := by decide +kernel
theorem dX5_insert_1 : decode cX5_insert 1 = .ok (.getfield 29, 3) := by decide +kernel
theorem dX5_insert_4 : decode cX5_insert 4 = .ok (.ifCond .lt 15, 3) := by decide +kernel
theorem dX5_insert_7 : decode cX5_insert 7 = .ok (.aload_n 0, 1) := by decide +kernel
theorem dX5_insert_8 : decode cX5_insert 8 = .ok (.getfield 29, 3) := by decide +kernel
theorem dX5_insert_11 : decode cX5_insert 11 = .ok (.aload_n 0, 1) := by decide +kernel
theorem dX5_insert_12 : decode cX5_insert 12 = .ok (.getfield 11, 3) := by decide +kernel
theorem dX5_insert_15 : decode cX5_insert 15 = .ok (.arraylength, 1) := by decide +kernel
theorem dX5_insert_16 : decode cX5_insert 16 = .ok (.if_icmp .lt 4, 3) := by decide +kernel
theorem dX5_insert_19 : decode cX5_insert 19 = .ok (.return_, 1) := by decide +kernel
theorem dX5_insert_20 : decode cX5_insert 20 = .ok (.aload_n 0, 1) := by decide +kernel
theorem dX5_insert_21 : decode cX5_insert 21 = .ok (.getfield 11, 3) := by decide +kernel
theorem dX5_insert_24 : decode cX5_insert 24 = .ok (.aload_n 0, 1) := by decide +kernel
theorem dX5_insert_25 : decode cX5_insert 25 = .ok (.getfield 29, 3) := by decide +kernel
theorem dX5_insert_28 : decode cX5_insert 28 = .ok (.aaload, 1) := by decide +kernel
theorem dX5_insert_29 : decode cX5_insert 29 = .ok (.astore_n 3, 1) := by decide +kernel
theorem dX5_insert_30 : decode cX5_insert 30 = .ok (.aload_n 3, 1) := by decide +kernel
theorem dX5_insert_31 : decode cX5_insert 31 = .ok (.getfield 154, 3) := by decide +kernel
theorem dX5_insert_34 : decode cX5_insert 34 = .ok (.aload_n 0, 1) := by decide +kernel
theorem dX5_insert_35 : decode cX5_insert 35 = .ok (.getfield 24, 3) := by decide +kernel
theorem dX5_insert_38 : decode cX5_insert 38 = .ok (.invokevirtual 56, 3) := by decide +kernel
theorem dX5_insert_41 : decode cX5_insert 41 = .ok (.aload_n 3, 1) := by decide +kernel
theorem dX5_insert_42 : decode cX5_insert 42 = .ok (.aload_n 0, 1) := by decide +kernel
theorem dX5_insert_43 : decode cX5_insert 43 = .ok (.getfield 113, 3) := by decide +kernel
theorem dX5_insert_46 : decode cX5_insert 46 = .ok (.putfield 157, 3) := by decide +kernel
theorem dX5_insert_49 : decode cX5_insert 49 = .ok (.aload_n 3, 1) := by decide +kernel
theorem dX5_insert_50 : decode cX5_insert 50 = .ok (.iload_n 1, 1) := by decide +kernel
theorem dX5_insert_51 : decode cX5_insert 51 = .ok (.putfield 160, 3) := by decide +kernel
theorem dX5_insert_54 : decode cX5_insert 54 = .ok (.aload_n 3, 1) := by decide +kernel
theorem dX5_insert_55 : decode cX5_insert 55 = .ok (.iload_n 2, 1) := by decide +kernel
theorem dX5_insert_56 : decode cX5_insert 56 = .ok (.putfield 163, 3) := by decide +kernel
theorem dX5_insert_59 : decode cX5_insert 59 = .ok (.aload_n 0, 1) := by decide +kernel
theorem dX5_insert_60 : decode cX5_insert 60 = .ok (.getfield 29, 3) := by decide +kernel
theorem dX5_insert_63 : decode cX5_insert 63 = .ok (.istore 4, 2) := by decide +kernel
theorem dX5_insert_65 : decode cX5_insert 65 = .ok (.iload 4, 2) := by decide +kernel
theorem dX5_insert_67 : decode cX5_insert 67 = .ok (.ifCond .le 41, 3) := by decide +kernel
theorem dX5_insert_70 : decode cX5_insert 70 = .ok (.aload_n 3, 1) := by decide +kernel
theorem dX5_insert_71 : decode cX5_insert 71 = .ok (.aload_n 0, 1) := by decide +kernel
theorem dX5_insert_72 : decode cX5_insert 72 = .ok (.getfield 11, 3) := by decide +kernel
theorem dX5_insert_75 : decode cX5_insert 75 = .ok (.iload 4, 2) := by decide +kernel
theorem dX5_insert_77 : decode cX5_insert 77 = .ok (.iconst 1, 1) := by decide +kernel
theorem dX5_insert_78 : decode cX5_insert 78 = .ok (.isub, 1) := by decide +kernel
theorem dX5_insert_79 : decode cX5_insert 79 = .ok (.aaload, 1) := by decide +kernel
theorem dX5_insert_80 : decode cX5_insert 80 = .ok (.invokevirtual 166, 3) := by decide +kernel
theorem dX5_insert_83 : decode cX5_insert 83 = .ok (.ifCond .eq 25, 3) := by decide +kernel
theorem dX5_insert_86 : decode cX5_insert 86 = .ok (.aload_n 0, 1) := by decide +kernel
theorem dX5_insert_87 : decode cX5_insert 87 = .ok (.getfield 11, 3) := by decide +kernel
theorem dX5_insert_90 : decode cX5_insert 90 = .ok (.iload 4, 2) := by decide +kernel
theorem dX5_insert_92 : decode cX5_insert 92 = .ok (.aload_n 0, 1) := by decide +kernel
theorem dX5_insert_93 : decode cX5_insert 93 = .ok (.getfield 11, 3) := by decide +kernel
theorem dX5_insert_96 : decode cX5_insert 96 = .ok (.iload 4, 2) := by decide +kernel
theorem dX5_insert_98 : decode cX5_insert 98 = .ok (.iconst 1, 1) := by decide +kernel
theorem dX5_insert_99 : decode cX5_insert 99 = .ok (.isub, 1) := by decide +kernel
theorem dX5_insert_100 : decode cX5_insert 100 = .ok (.aaload, 1) := by decide +kernel
theorem dX5_insert_101 : decode cX5_insert 101 = .ok (.aastore, 1) := by decide +kernel
theorem dX5_insert_102 : decode cX5_insert 102 = .ok (.iinc 4 (-1), 3) := by decide +kernel
theorem dX5_insert_105 : decode cX5_insert 105 = .ok (.goto (-40), 3) := by decide +kernel
theorem dX5_insert_108 : decode cX5_insert 108 = .ok (.aload_n 0, 1) := by decide +kernel
theorem dX5_insert_109 : decode cX5_insert 109 = .ok (.getfield 11, 3) := by decide +kernel
theorem dX5_insert_112 : decode cX5_insert 112 = .ok (.iload 4, 2) := by decide +kernel
theorem dX5_insert_114 : decode cX5_insert 114 = .ok (.aload_n 3, 1) := by decide +kernel
theorem dX5_insert_115 : decode cX5_insert 115 = .ok (.aastore, 1) := by decide +kernel
theorem dX5_insert_116 : decode cX5_insert 116 = .ok (.aload_n 0, 1) := by decide +kernel
theorem dX5_insert_117 : decode cX5_insert 117 = .ok (.dup, 1) := by decide +kernel
theorem dX5_insert_118 : decode cX5_insert 118 = .ok (.getfield 29, 3) := by decide +kernel
theorem dX5_insert_121 : decode cX5_insert 121 = .ok (.iconst 1, 1) := by decide +kernel
theorem dX5_insert_122 : decode cX5_insert 122 = .ok (.iadd, 1) := by decide +kernel
theorem dX5_insert_123 : decode cX5_insert 123 = .ok (.putfield 29, 3) := by decide +kernel
theorem dX5_insert_126 : decode cX5_insert 126 = .ok (.return_, 1) := by decide +kernel
theorem dX6_init_0 : decode cX6_init 0 = .ok (.aload_n 0, 1) := by decide +kernel
theorem dX6_init_1 : decode cX6_init 1 = .ok (.invokespecial 3, 3) := by decide +kernel
theorem dX6_init_4 : decode cX6_init 4 = .ok (.aload_n 0, 1) := by decide +kernel
theorem dX6_init_5 : decode cX6_init 5 = .ok (.new 9, 3) := by decide +kernel
theorem dX6_init_8 : decode cX6_init 8 = .ok (.dup, 1) := by decide +kernel
theorem dX6_init_9 : decode cX6_init 9 = .ok (.invokespecial 11, 3) := by decide +kernel
theorem dX6_init_12 : decode cX6_init 12 = .ok (.putfield 12, 3) := by decide +kernel
theorem dX6_init_15 : decode cX6_init 15 = .ok (.aload_n 0, 1) := by decide +kernel
theorem dX6_init_16 : decode cX6_init 16 = .ok (.bipush 22, 2) := by decide +kernel
theorem dX6_init_18 : decode cX6_init 18 = .ok (.anewarray 18, 3) := by decide +kernel
theorem dX6_init_21 : decode cX6_init 21 = .ok (.putfield 20, 3) := by decide +kernel
theorem dX6_init_24 : decode cX6_init 24 = .ok (.aload_n 0, 1) := by decide +kernel
theorem dX6_init_25 : decode cX6_init 25 = .ok (.sipush 384, 3) := by decide +kernel
theorem dX6_init_28 : decode cX6_init 28 = .ok (.newarray .int, 2) := by decide +kernel
theorem dX6_init_30 : decode cX6_init 30 = .ok (.putfield 24, 3) := by decide +kernel
theorem dX6_init_33 : decode cX6_init 33 = .ok (.aload_n 0, 1) := by decide +kernel
theorem dX6_init_34 : decode cX6_init 34 = .ok (.bipush 13, 2) := by decide +kernel
theorem dX6_init_36 : decode cX6_init 36 = .ok (.newarray .int, 2) := by decide +kernel
theorem dX6_init_38 : decode cX6_init 38 = .ok (.putfield 28, 3) := by decide +kernel
theorem dX6_init_41 : decode cX6_init 41 = .ok (.aload_n 0, 1) := by decide +kernel
theorem dX6_init_42 : decode cX6_init 42 = .ok (.iconst 5, 1) := by decide +kernel
theorem dX6_init_43 : decode cX6_init 43 = .ok (.newarray .int, 2) := by decide +kernel
theorem dX6_init_45 : decode cX6_init 45 = .ok (.putfield 31, 3) := by decide +kernel
theorem dX6_init_48 : decode cX6_init 48 = .ok (.iconst 0, 1) := by decide +kernel
theorem dX6_init_49 : decode cX6_init 49 = .ok (.istore_n 1, 1) := by decide +kernel
theorem dX6_init_50 : decode cX6_init 50 = .ok (.iload_n 1, 1) := by decide +kernel
theorem dX6_init_51 : decode cX6_init 51 = .ok (.aload_n 0, 1) := by decide +kernel
theorem dX6_init_52 : decode cX6_init 52 = .ok (.getfield 20, 3) := by decide +kernel
theorem dX6_init_55 : decode cX6_init 55 = .ok (.arraylength, 1) := by decide +kernel
theorem dX6_init_56 : decode cX6_init 56 = .ok (.if_icmp .ge 22, 3) := by decide +kernel
theorem dX6_init_59 : decode cX6_init 59 = .ok (.aload_n 0, 1) := by decide +kernel
theorem dX6_init_60 : decode cX6_init 60 = .ok (.getfield 20, 3) := by decide +kernel
theorem dX6_init_63 : decode cX6_init 63 = .ok (.iload_n 1, 1) := by decide +kernel
theorem dX6_init_64 : decode cX6_init 64 = .ok (.new 18, 3) := by decide +kernel
theorem dX6_init_67 : decode cX6_init 67 = .ok (.dup, 1) := by decide +kernel
theorem dX6_init_68 : decode cX6_init 68 = .ok (.invokespecial 34, 3) := by decide +kernel
theorem dX6_init_71 : decode cX6_init 71 = .ok (.aastore, 1) := by decide +kernel
theorem dX6_init_72 : decode cX6_init 72 = .ok (.iinc 1 1, 3) := by decide +kernel
theorem dX6_init_75 : decode cX6_init 75 = .ok (.goto (-25), 3) := by decide +kernel
theorem dX6_init_78 : decode cX6_init 78 = .ok (.return_, 1) := by decide +kernel
theorem dX6_read_0 : decode cX6_read 0 = .ok (.aload_n 0, 1) := by decide +kernel
theorem dX6_read_1 : decode cX6_read 1 = .ok (.getfield 12, 3) := by decide +kernel
theorem dX6_read_4 : decode cX6_read 4 = .ok (.aload_n 1, 1) := by decide +kernel
theorem dX6_read_5 : decode cX6_read 5 = .ok (.aload_n 1, 1) := by decide +kernel
theorem dX6_read_6 : decode cX6_read 6 = .ok (.getfield 35, 3) := by decide +kernel
theorem dX6_read_9 : decode cX6_read 9 = .ok (.invokevirtual 39, 3) := by decide +kernel
theorem dX6_read_12 : decode cX6_read 12 = .ok (.aload_n 0, 1) := by decide +kernel
theorem dX6_read_13 : decode cX6_read 13 = .ok (.aload_n 0, 1) := by decide +kernel
theorem dX6_read_14 : decode cX6_read 14 = .ok (.getfield 12, 3) := by decide +kernel
theorem dX6_read_17 : decode cX6_read 17 = .ok (.getfield 35, 3) := by decide +kernel
theorem dX6_read_20 : decode cX6_read 20 = .ok (.sipush 128, 3) := by decide +kernel
theorem dX6_read_23 : decode cX6_read 23 = .ok (.idiv, 1) := by decide +kernel
theorem dX6_read_24 : decode cX6_read 24 = .ok (.putfield 43, 3) := by decide +kernel
theorem dX6_read_27 : decode cX6_read 27 = .ok (.aload_n 0, 1) := by decide +kernel
theorem dX6_read_28 : decode cX6_read 28 = .ok (.iconst 0, 1) := by decide +kernel
theorem dX6_read_29 : decode cX6_read 29 = .ok (.putfield 46, 3) := by decide +kernel
theorem dX6_read_32 : decode cX6_read 32 = .ok (.aload_n 0, 1) := by decide +kernel
theorem dX6_read_33 : decode cX6_read 33 = .ok (.iconst 0, 1) := by decide +kernel
theorem dX6_read_34 : decode cX6_read 34 = .ok (.putfield 49, 3) := by decide +kernel
theorem dX6_read_37 : decode cX6_read 37 = .ok (.aload_n 0, 1) := by decide +kernel
theorem dX6_read_38 : decode cX6_read 38 = .ok (.iconst 0, 1) := by decide +kernel
theorem dX6_read_39 : decode cX6_read 39 = .ok (.putfield 52, 3) := by decide +kernel
theorem dX6_read_42 : decode cX6_read 42 = .ok (.aload_n 0, 1) := by decide +kernel
theorem dX6_read_43 : decode cX6_read 43 = .ok (.iconst 0, 1) := by decide +kernel
theorem dX6_read_44 : decode cX6_read 44 = .ok (.putfield 55, 3) := by decide +kernel
theorem dX6_read_47 : decode cX6_read 47 = .ok (.aload_n 0, 1) := by decide +kernel
theorem dX6_read_48 : decode cX6_read 48 = .ok (.iconst 0, 1) := by decide +kernel
theorem dX6_read_49 : decode cX6_read 49 = .ok (.putfield 58, 3) := by decide +kernel
theorem dX6_read_52 : decode cX6_read 52 = .ok (.aload_n 0, 1) := by decide +kernel
theorem dX6_read_53 : decode cX6_read 53 = .ok (.iconst 0, 1) := by decide +kernel
theorem dX6_read_54 : decode cX6_read 54 = .ok (.putfield 61, 3) := by decide +kernel
theorem dX6_read_57 : decode cX6_read 57 = .ok (.iconst 0, 1) := by decide +kernel
theorem dX6_read_58 : decode cX6_read 58 = .ok (.istore_n 2, 1) := by decide +kernel
theorem dX6_read_59 : decode cX6_read 59 = .ok (.iload_n 2, 1) := by decide +kernel
theorem dX6_read_60 : decode cX6_read 60 = .ok (.iconst 4, 1) := by decide +kernel
theorem dX6_read_61 : decode cX6_read 61 = .ok (.if_icmp .ge 20, 3) := by decide +kernel
theorem dX6_read_64 : decode cX6_read 64 = .ok (.aload_n 0, 1) := by decide +kernel
theorem dX6_read_65 : decode cX6_read 65 = .ok (.bipush 54, 2) := by decide +kernel
theorem dX6_read_67 : decode cX6_read 67 = .ok (.iload_n 2, 1) := by decide +kernel
theorem dX6_read_68 : decode cX6_read 68 = .ok (.bipush 18, 2) := by decide +kernel
theorem dX6_read_70 : decode cX6_read 70 = .ok (.imul, 1) := by decide +kernel
theorem dX6_read_71 : decode cX6_read 71 = .ok (.iadd, 1) := by decide +kernel
theorem dX6_read_72 : decode cX6_read 72 = .ok (.invokevirtual 65, 3) := by decide +kernel
theorem dX6_read_75 : decode cX6_read 75 = .ok (.iinc 2 1, 3) := by decide +kernel
theorem dX6_read_78 : decode cX6_read 78 = .ok (.goto (-19), 3) := by decide +kernel
theorem dX6_read_81 : decode cX6_read 81 = .ok (.aload_n 0, 1) := by decide +kernel
theorem dX6_read_82 : decode cX6_read 82 = .ok (.aload_n 0, 1) := by decide +kernel
theorem dX6_read_83 : decode cX6_read 83 = .ok (.getfield 46, 3) := by decide +kernel
theorem dX6_read_86 : decode cX6_read 86 = .ok (.putfield 69, 3) := by decide +kernel
theorem dX6_read_89 : decode cX6_read 89 = .ok (.iconst 1, 1) := by decide +kernel
theorem dX6_read_90 : decode cX6_read 90 = .ok (.istore_n 2, 1) := by decide +kernel
theorem dX6_read_91 : decode cX6_read 91 = .ok (.iload_n 2, 1) := by decide +kernel
theorem dX6_read_92 : decode cX6_read 92 = .ok (.aload_n 0, 1) := by decide +kernel
theorem dX6_read_93 : decode cX6_read 93 = .ok (.getfield 43, 3) := by decide +kernel
theorem dX6_read_96 : decode cX6_read 96 = .ok (.if_icmp .ge 45, 3) := by decide +kernel
theorem dX6_read_99 : decode cX6_read 99 = .ok (.iload_n 2, 1) := by decide +kernel
theorem dX6_read_100 : decode cX6_read 100 = .ok (.sipush 128, 3) := by decide +kernel
theorem dX6_read_103 : decode cX6_read 103 = .ok (.imul, 1) := by decide +kernel
theorem dX6_read_104 : decode cX6_read 104 = .ok (.istore_n 3, 1) := by decide +kernel
theorem dX6_read_105 : decode cX6_read 105 = .ok (.aload_n 0, 1) := by decide +kernel
theorem dX6_read_106 : decode cX6_read 106 = .ok (.iload_n 3, 1) := by decide +kernel
theorem dX6_read_107 : decode cX6_read 107 = .ok (.aload_n 0, 1) := by decide +kernel
theorem dX6_read_108 : decode cX6_read 108 = .ok (.getfield 12, 3) := by decide +kernel
theorem dX6_read_111 : decode cX6_read 111 = .ok (.iload_n 3, 1) := by decide +kernel
theorem dX6_read_112 : decode cX6_read 112 = .ok (.iconst 2, 1) := by decide +kernel
theorem dX6_read_113 : decode cX6_read 113 = .ok (.iadd, 1) := by decide +kernel
theorem dX6_read_114 : decode cX6_read 114 = .ok (.invokevirtual 72, 3) := by decide +kernel
theorem dX6_read_117 : decode cX6_read 117 = .ok (.invokevirtual 76, 3) := by decide +kernel
theorem dX6_read_120 : decode cX6_read 120 = .ok (.aload_n 0, 1) := by decide +kernel
theorem dX6_read_121 : decode cX6_read 121 = .ok (.iload_n 3, 1) := by decide +kernel
theorem dX6_read_122 : decode cX6_read 122 = .ok (.aload_n 0, 1) := by decide +kernel
theorem dX6_read_123 : decode cX6_read 123 = .ok (.getfield 12, 3) := by decide +kernel
theorem dX6_read_126 : decode cX6_read 126 = .ok (.iload_n 3, 1) := by decide +kernel
theorem dX6_read_127 : decode cX6_read 127 = .ok (.iconst 2, 1) := by decide +kernel
theorem dX6_read_128 : decode cX6_read 128 = .ok (.iadd, 1) := by decide +kernel
theorem dX6_read_129 : decode cX6_read 129 = .ok (.invokevirtual 72, 3) := by decide +kernel
theorem dX6_read_132 : decode cX6_read 132 = .ok (.invokevirtual 80, 3) := by decide +kernel
theorem dX6_read_135 : decode cX6_read 135 = .ok (.iinc 2 1, 3) := by decide +kernel
theorem dX6_read_138 : decode cX6_read 138 = .ok (.goto (-47), 3) := by decide +kernel
theorem dX6_read_141 : decode cX6_read 141 = .ok (.return_, 1) := by decide +kernel
theorem dX6_readBaseDescriptor_0 : decode cX6_readBaseDescriptor 0 = .ok (.aload_n 0, 1) := by decide +kernel
theorem dX6_readBaseDescriptor_1 : decode cX6_readBaseDescriptor 1 = .ok (.iload_n 1, 1) := by decide +kernel
theorem dX6_readBaseDescriptor_2 : decode cX6_readBaseDescriptor 2 = .ok (.invokevirtual 83, 3) := by decide +kernel
theorem dX6_readBaseDescriptor_5 : decode cX6_readBaseDescriptor 5 = .ok (.ifCond .eq 11, 3) := by decide +kernel
theorem dX6_readBaseDescriptor_8 : decode cX6_readBaseDescriptor 8 = .ok (.aload_n 0, 1) := by decide +kernel
theorem dX6_readBaseDescriptor_9 : decode cX6_readBaseDescriptor 9 = .ok (.iload_n 1, 1) := by decide +kernel
theorem dX6_readBaseDescriptor_10 : decode cX6_readBaseDescriptor 10 = .ok (.invokevirtual 87, 3) := by decide +kernel
theorem dX6_readBaseDescriptor_13 : decode cX6_readBaseDescriptor 13 = .ok (.goto 52, 3) := by decide +kernel
theorem dX6_readBaseDescriptor_16 : decode cX6_readBaseDescriptor 16 = .ok (.aload_n 0, 1) := by decide +kernel
theorem dX6_readBaseDescriptor_17 : decode cX6_readBaseDescriptor 17 = .ok (.getfield 12, 3) := by decide +kernel
theorem dX6_readBaseDescriptor_20 : decode cX6_readBaseDescriptor 20 = .ok (.iload_n 1, 1) := by decide +kernel
theorem dX6_readBaseDescriptor_21 : decode cX6_readBaseDescriptor 21 = .ok (.iconst 3, 1) := by decide +kernel
theorem dX6_readBaseDescriptor_22 : decode cX6_readBaseDescriptor 22 = .ok (.iadd, 1) := by decide +kernel
theorem dX6_readBaseDescriptor_23 : decode cX6_readBaseDescriptor 23 = .ok (.invokevirtual 72, 3) := by decide +kernel
theorem dX6_readBaseDescriptor_26 : decode cX6_readBaseDescriptor 26 = .ok (.sipush 252, 3) := by decide +kernel
theorem dX6_readBaseDescriptor_29 : decode cX6_readBaseDescriptor 29 = .ok (.if_icmp .ne 13, 3) := by decide +kernel
theorem dX6_readBaseDescriptor_32 : decode cX6_readBaseDescriptor 32 = .ok (.aload_n 0, 1) := by decide +kernel
theorem dX6_readBaseDescriptor_33 : decode cX6_readBaseDescriptor 33 = .ok (.iload_n 1, 1) := by decide +kernel
theorem dX6_readBaseDescriptor_34 : decode cX6_readBaseDescriptor 34 = .ok (.iconst 5, 1) := by decide +kernel
theorem dX6_readBaseDescriptor_35 : decode cX6_readBaseDescriptor 35 = .ok (.iadd, 1) := by decide +kernel
theorem dX6_readBaseDescriptor_36 : decode cX6_readBaseDescriptor 36 = .ok (.invokevirtual 90, 3) := by decide +kernel
theorem dX6_readBaseDescriptor_39 : decode cX6_readBaseDescriptor 39 = .ok (.goto 26, 3) := by decide +kernel
theorem dX6_readBaseDescriptor_42 : decode cX6_readBaseDescriptor 42 = .ok (.aload_n 0, 1) := by decide +kernel
theorem dX6_readBaseDescriptor_43 : decode cX6_readBaseDescriptor 43 = .ok (.getfield 12, 3) := by decide +kernel
theorem dX6_readBaseDescriptor_46 : decode cX6_readBaseDescriptor 46 = .ok (.iload_n 1, 1) := by decide +kernel
theorem dX6_readBaseDescriptor_47 : decode cX6_readBaseDescriptor 47 = .ok (.iconst 3, 1) := by decide +kernel
theorem dX6_readBaseDescriptor_48 : decode cX6_readBaseDescriptor 48 = .ok (.iadd, 1) := by decide +kernel
theorem dX6_readBaseDescriptor_49 : decode cX6_readBaseDescriptor 49 = .ok (.invokevirtual 72, 3) := by decide +kernel
theorem dX6_readBaseDescriptor_52 : decode cX6_readBaseDescriptor 52 = .ok (.sipush 253, 3) := by decide +kernel
theorem dX6_readBaseDescriptor_55 : decode cX6_readBaseDescriptor 55 = .ok (.if_icmp .ne 10, 3) := by decide +kernel
theorem dX6_readBaseDescriptor_58 : decode cX6_readBaseDescriptor 58 = .ok (.aload_n 0, 1) := by decide +kernel
theorem dX6_readBaseDescriptor_59 : decode cX6_readBaseDescriptor 59 = .ok (.iload_n 1, 1) := by decide +kernel
theorem dX6_readBaseDescriptor_60 : decode cX6_readBaseDescriptor 60 = .ok (.iconst 5, 1) := by decide +kernel
theorem dX6_readBaseDescriptor_61 : decode cX6_readBaseDescriptor 61 = .ok (.iadd, 1) := by decide +kernel
theorem dX6_readBaseDescriptor_62 : decode cX6_readBaseDescriptor 62 = .ok (.invokevirtual 93, 3) := by decide +kernel
theorem dX6_readBaseDescriptor_65 : decode cX6_readBaseDescriptor 65 = .ok (.return_, 1) := by decide +kernel
theorem dX6_readRange_0 : decode cX6_readRange 0 = .ok (.aload_n 0, 1) := by decide +kernel
theorem dX6_readRange_1 : decode cX6_readRange 1 = .ok (.iconst 1, 1) := by decide +kernel
theorem dX6_readRange_2 : decode cX6_readRange 2 = .ok (.putfield 61, 3) := by decide +kernel
theorem dX6_readRange_5 : decode cX6_readRange 5 = .ok (.iconst 0, 1) := by decide +kernel
theorem dX6_readRange_6 : decode cX6_readRange 6 = .ok (.istore_n 2, 1) := by decide +kernel
theorem dX6_readRange_7 : decode cX6_readRange 7 = .ok (.iload_n 2, 1) := by decide +kernel
theorem dX6_readRange_8 : decode cX6_readRange 8 = .ok (.aload_n 0, 1) := by decide +kernel
theorem dX6_readRange_9 : decode cX6_readRange 9 = .ok (.getfield 31, 3) := by decide +kernel
theorem dX6_readRange_12 : decode cX6_readRange 12 = .ok (.arraylength, 1) := by decide +kernel
theorem dX6_readRange_13 : decode cX6_readRange 13 = .ok (.if_icmp .ge 25, 3) := by decide +kernel
theorem dX6_readRange_16 : decode cX6_readRange 16 = .ok (.aload_n 0, 1) := by decide +kernel
theorem dX6_readRange_17 : decode cX6_readRange 17 = .ok (.getfield 31, 3) := by decide +kernel
theorem dX6_readRange_20 : decode cX6_readRange 20 = .ok (.iload_n 2, 1) := by decide +kernel
theorem dX6_readRange_21 : decode cX6_readRange 21 = .ok (.aload_n 0, 1) := by decide +kernel
theorem dX6_readRange_22 : decode cX6_readRange 22 = .ok (.getfield 12, 3) := by decide +kernel
theorem dX6_readRange_25 : decode cX6_readRange 25 = .ok (.iload_n 1, 1) := by decide +kernel
theorem dX6_readRange_26 : decode cX6_readRange 26 = .ok (.iload_n 2, 1) := by decide +kernel
theorem dX6_readRange_27 : decode cX6_readRange 27 = .ok (.iadd, 1) := by decide +kernel
theorem dX6_readRange_28 : decode cX6_readRange 28 = .ok (.invokevirtual 72, 3) := by decide +kernel
theorem dX6_readRange_31 : decode cX6_readRange 31 = .ok (.iastore, 1) := by decide +kernel
theorem dX6_readRange_32 : decode cX6_readRange 32 = .ok (.iinc 2 1, 3) := by decide +kernel
theorem dX6_readRange_35 : decode cX6_readRange 35 = .ok (.goto (-28), 3) := by decide +kernel
theorem dX6_readRange_38 : decode cX6_readRange 38 = .ok (.return_, 1) := by decide +kernel
theorem dX6_hasClock_0 : decode cX6_hasClock 0 = .ok (.aload_n 0, 1) := by decide +kernel
theorem dX6_hasClock_1 : decode cX6_hasClock 1 = .ok (.getfield 12, 3) := by decide +kernel
theorem dX6_hasClock_4 : decode cX6_hasClock 4 = .ok (.iload_n 1, 1) := by decide +kernel
theorem dX6_hasClock_5 : decode cX6_hasClock 5 = .ok (.invokevirtual 72, 3) := by decide +kernel
theorem dX6_hasClock_8 : decode cX6_hasClock 8 = .ok (.aload_n 0, 1) := by decide +kernel
theorem dX6_hasClock_9 : decode cX6_hasClock 9 = .ok (.getfield 12, 3) := by decide +kernel
theorem dX6_hasClock_12 : decode cX6_hasClock 12 = .ok (.iload_n 1, 1) := by decide +kernel
theorem dX6_hasClock_13 : decode cX6_hasClock 13 = .ok (.iconst 1, 1) := by decide +kernel
theorem dX6_hasClock_14 : decode cX6_hasClock 14 = .ok (.iadd, 1) := by decide +kernel
theorem dX6_hasClock_15 : decode cX6_hasClock 15 = .ok (.invokevirtual 72, 3) := by decide +kernel
theorem dX6_hasClock_18 : decode cX6_hasClock 18 = .ok (.ior, 1) := by decide +kernel
theorem dX6_hasClock_19 : decode cX6_hasClock 19 = .ok (.ifCond .eq 7, 3) := by decide +kernel
theorem dX6_hasClock_22 : decode cX6_hasClock 22 = .ok (.iconst 1, 1) := by decide +kernel
theorem dX6_hasClock_23 : decode cX6_hasClock 23 = .ok (.goto 4, 3) := by decide +kernel
theorem dX6_hasClock_26 : decode cX6_hasClock 26 = .ok (.iconst 0, 1) := by decide +kernel
theorem dX6_hasClock_27 : decode cX6_hasClock 27 = .ok (.ireturn, 1) := by decide +kernel
theorem dX6_addDetailed_0 : decode cX6_addDetailed 0 = .ok (.aload_n 0, 1) := by decide +kernel
theorem dX6_addDetailed_1 : decode cX6_addDetailed 1 = .ok (.getfield 46, 3) := by decide +kernel
theorem dX6_addDetailed_4 : decode cX6_addDetailed 4 = .ok (.ifCond .lt 42, 3) := by decide +kernel
theorem dX6_addDetailed_7 : decode cX6_addDetailed 7 = .ok (.aload_n 0, 1) := by decide +kernel
theorem dX6_addDetailed_8 : decode cX6_addDetailed 8 = .ok (.getfield 46, 3) := by decide +kernel
theorem dX6_addDetailed_11 : decode cX6_addDetailed 11 = .ok (.aload_n 0, 1) := by decide +kernel
theorem dX6_addDetailed_12 : decode cX6_addDetailed 12 = .ok (.getfield 20, 3) := by decide +kernel
theorem dX6_addDetailed_15 : decode cX6_addDetailed 15 = .ok (.arraylength, 1) := by decide +kernel
theorem dX6_addDetailed_16 : decode cX6_addDetailed 16 = .ok (.if_icmp .ge 30, 3) := by decide +kernel
theorem dX6_addDetailed_19 : decode cX6_addDetailed 19 = .ok (.aload_n 0, 1) := by decide +kernel
theorem dX6_addDetailed_20 : decode cX6_addDetailed 20 = .ok (.getfield 20, 3) := by decide +kernel
theorem dX6_addDetailed_23 : decode cX6_addDetailed 23 = .ok (.aload_n 0, 1) := by decide +kernel
theorem dX6_addDetailed_24 : decode cX6_addDetailed 24 = .ok (.getfield 46, 3) := by decide +kernel
theorem dX6_addDetailed_27 : decode cX6_addDetailed 27 = .ok (.aaload, 1) := by decide +kernel
theorem dX6_addDetailed_28 : decode cX6_addDetailed 28 = .ok (.aload_n 0, 1) := by decide +kernel
theorem dX6_addDetailed_29 : decode cX6_addDetailed 29 = .ok (.getfield 12, 3) := by decide +kernel
theorem dX6_addDetailed_32 : decode cX6_addDetailed 32 = .ok (.iload_n 1, 1) := by decide +kernel
theorem dX6_addDetailed_33 : decode cX6_addDetailed 33 = .ok (.invokevirtual 96, 3) := by decide +kernel
theorem dX6_addDetailed_36 : decode cX6_addDetailed 36 = .ok (.aload_n 0, 1) := by decide +kernel
theorem dX6_addDetailed_37 : decode cX6_addDetailed 37 = .ok (.dup, 1) := by decide +kernel
theorem dX6_addDetailed_38 : decode cX6_addDetailed 38 = .ok (.getfield 46, 3) := by decide +kernel
theorem dX6_addDetailed_41 : decode cX6_addDetailed 41 = .ok (.iconst 1, 1) := by decide +kernel
theorem dX6_addDetailed_42 : decode cX6_addDetailed 42 = .ok (.iadd, 1) := by decide +kernel
theorem dX6_addDetailed_43 : decode cX6_addDetailed 43 = .ok (.putfield 46, 3) := by decide +kernel
theorem dX6_addDetailed_46 : decode cX6_addDetailed 46 = .ok (.return_, 1) := by decide +kernel
theorem dX6_readName_0 : decode cX6_readName 0 = .ok (.aload_n 0, 1) := by decide +kernel
theorem dX6_readName_1 : decode cX6_readName 1 = .ok (.iconst 0, 1) := by decide +kernel
theorem dX6_readName_2 : decode cX6_readName 2 = .ok (.putfield 52, 3) := by decide +kernel
theorem dX6_readName_5 : decode cX6_readName 5 = .ok (.iconst 0, 1) := by decide +kernel
theorem dX6_readName_6 : decode cX6_readName 6 = .ok (.istore_n 2, 1) := by decide +kernel
theorem dX6_readName_7 : decode cX6_readName 7 = .ok (.iload_n 2, 1) := by decide +kernel
theorem dX6_readName_8 : decode cX6_readName 8 = .ok (.bipush 13, 2) := by decide +kernel
theorem dX6_readName_10 : decode cX6_readName 10 = .ok (.if_icmp .ge 64, 3) := by decide +kernel
theorem dX6_readName_13 : decode cX6_readName 13 = .ok (.aload_n 0, 1) := by decide +kernel
theorem dX6_readName_14 : decode cX6_readName 14 = .ok (.getfield 12, 3) := by decide +kernel
theorem dX6_readName_17 : decode cX6_readName 17 = .ok (.iload_n 1, 1) := by decide +kernel
theorem dX6_readName_18 : decode cX6_readName 18 = .ok (.iload_n 2, 1) := by decide +kernel
theorem dX6_readName_19 : decode cX6_readName 19 = .ok (.iadd, 1) := by decide +kernel
theorem dX6_readName_20 : decode cX6_readName 20 = .ok (.invokevirtual 72, 3) := by decide +kernel
theorem dX6_readName_23 : decode cX6_readName 23 = .ok (.istore_n 3, 1) := by decide +kernel
theorem dX6_readName_24 : decode cX6_readName 24 = .ok (.iload_n 3, 1) := by decide +kernel
theorem dX6_readName_25 : decode cX6_readName 25 = .ok (.bipush 10, 2) := by decide +kernel
theorem dX6_readName_27 : decode cX6_readName 27 = .ok (.if_icmp .eq 47, 3) := by decide +kernel
theorem dX6_readName_30 : decode cX6_readName 30 = .ok (.iload_n 3, 1) := by decide +kernel
theorem dX6_readName_31 : decode cX6_readName 31 = .ok (.ifCond .ne 6, 3) := by decide +kernel
theorem dX6_readName_34 : decode cX6_readName 34 = .ok (.goto 40, 3) := by decide +kernel
theorem dX6_readName_37 : decode cX6_readName 37 = .ok (.aload_n 0, 1) := by decide +kernel
theorem dX6_readName_38 : decode cX6_readName 38 = .ok (.getfield 28, 3) := by decide +kernel
theorem dX6_readName_41 : decode cX6_readName 41 = .ok (.iload_n 2, 1) := by decide +kernel
theorem dX6_readName_42 : decode cX6_readName 42 = .ok (.iload_n 3, 1) := by decide +kernel
theorem dX6_readName_43 : decode cX6_readName 43 = .ok (.bipush 32, 2) := by decide +kernel
theorem dX6_readName_45 : decode cX6_readName 45 = .ok (.if_icmp .lt 13, 3) := by decide +kernel
theorem dX6_readName_48 : decode cX6_readName 48 = .ok (.iload_n 3, 1) := by decide +kernel
theorem dX6_readName_49 : decode cX6_readName 49 = .ok (.bipush 126, 2) := by decide +kernel
theorem dX6_readName_51 : decode cX6_readName 51 = .ok (.if_icmp .gt 7, 3) := by decide +kernel
theorem dX6_readName_54 : decode cX6_readName 54 = .ok (.iload_n 3, 1) := by decide +kernel
theorem dX6_readName_55 : decode cX6_readName 55 = .ok (.goto 5, 3) := by decide +kernel
theorem dX6_readName_58 : decode cX6_readName 58 = .ok (.bipush 63, 2) := by decide +kernel
theorem dX6_readName_60 : decode cX6_readName 60 = .ok (.iastore, 1) := by decide +kernel
theorem dX6_readName_61 : decode cX6_readName 61 = .ok (.aload_n 0, 1) := by decide +kernel
theorem dX6_readName_62 : decode cX6_readName 62 = .ok (.iload_n 2, 1) := by decide +kernel
theorem dX6_readName_63 : decode cX6_readName 63 = .ok (.iconst 1, 1) := by decide +kernel
theorem dX6_readName_64 : decode cX6_readName 64 = .ok (.iadd, 1) := by decide +kernel
theorem dX6_readName_65 : decode cX6_readName 65 = .ok (.putfield 52, 3) := by decide +kernel
theorem dX6_readName_68 : decode cX6_readName 68 = .ok (.iinc 2 1, 3) := by decide +kernel
theorem dX6_readName_71 : decode cX6_readName 71 = .ok (.goto (-64), 3) := by decide +kernel
theorem dX6_readName_74 : decode cX6_readName 74 = .ok (.return_, 1) := by decide +kernel
theorem dX6_readData_0 : decode cX6_readData 0 = .ok (.iconst 4, 1) := by decide +kernel
theorem dX6_readData_1 : decode cX6_readData 1 = .ok (.istore_n 3, 1) := by decide +kernel
theorem dX6_readData_2 : decode cX6_readData 2 = .ok (.iload_n 3, 1) := by decide +kernel
theorem dX6_readData_3 : decode cX6_readData 3 = .ok (.iload_n 2, 1) := by decide +kernel
theorem dX6_readData_4 : decode cX6_readData 4 = .ok (.if_icmp .ge 107, 3) := by decide +kernel
theorem dX6_readData_7 : decode cX6_readData 7 = .ok (.aload_n 0, 1) := by decide +kernel
theorem dX6_readData_8 : decode cX6_readData 8 = .ok (.getfield 12, 3) := by decide +kernel
theorem dX6_readData_11 : decode cX6_readData 11 = .ok (.iload_n 1, 1) := by decide +kernel
theorem dX6_readData_12 : decode cX6_readData 12 = .ok (.iload_n 3, 1) := by decide +kernel
theorem dX6_readData_13 : decode cX6_readData 13 = .ok (.iadd, 1) := by decide +kernel
theorem dX6_readData_14 : decode cX6_readData 14 = .ok (.invokevirtual 72, 3) := by decide +kernel
theorem dX6_readData_17 : decode cX6_readData 17 = .ok (.iconst 5, 1) := by decide +kernel
theorem dX6_readData_18 : decode cX6_readData 18 = .ok (.ishr, 1) := by decide +kernel
theorem dX6_readData_19 : decode cX6_readData 19 = .ok (.istore 4, 2) := by decide +kernel
theorem dX6_readData_21 : decode cX6_readData 21 = .ok (.aload_n 0, 1) := by decide +kernel
theorem dX6_readData_22 : decode cX6_readData 22 = .ok (.getfield 12, 3) := by decide +kernel
theorem dX6_readData_25 : decode cX6_readData 25 = .ok (.iload_n 1, 1) := by decide +kernel
theorem dX6_readData_26 : decode cX6_readData 26 = .ok (.iload_n 3, 1) := by decide +kernel
theorem dX6_readData_27 : decode cX6_readData 27 = .ok (.iadd, 1) := by decide +kernel
theorem dX6_readData_28 : decode cX6_readData 28 = .ok (.invokevirtual 72, 3) := by decide +kernel
theorem dX6_readData_31 : decode cX6_readData 31 = .ok (.bipush 31, 2) := by decide +kernel
theorem dX6_readData_33 : decode cX6_readData 33 = .ok (.iand, 1) := by decide +kernel
theorem dX6_readData_34 : decode cX6_readData 34 = .ok (.istore 5, 2) := by decide +kernel
theorem dX6_readData_36 : decode cX6_readData 36 = .ok (.iload_n 1, 1) := by decide +kernel
theorem dX6_readData_37 : decode cX6_readData 37 = .ok (.iload_n 3, 1) := by decide +kernel
theorem dX6_readData_38 : decode cX6_readData 38 = .ok (.iadd, 1) := by decide +kernel
theorem dX6_readData_39 : decode cX6_readData 39 = .ok (.iconst 1, 1) := by decide +kernel
theorem dX6_readData_40 : decode cX6_readData 40 = .ok (.iadd, 1) := by decide +kernel
theorem dX6_readData_41 : decode cX6_readData 41 = .ok (.istore 6, 2) := by decide +kernel
theorem dX6_readData_43 : decode cX6_readData 43 = .ok (.iload 4, 2) := by decide +kernel
theorem dX6_readData_45 : decode cX6_readData 45 = .ok (.iconst 1, 1) := by decide +kernel
theorem dX6_readData_46 : decode cX6_readData 46 = .ok (.if_icmp .ne 19, 3) := by decide +kernel
theorem dX6_readData_49 : decode cX6_readData 49 = .ok (.aload_n 0, 1) := by decide +kernel
theorem dX6_readData_50 : decode cX6_readData 50 = .ok (.dup, 1) := by decide +kernel
theorem dX6_readData_51 : decode cX6_readData 51 = .ok (.getfield 55, 3) := by decide +kernel
theorem dX6_readData_54 : decode cX6_readData 54 = .ok (.iload 5, 2) := by decide +kernel
theorem dX6_readData_56 : decode cX6_readData 56 = .ok (.iconst 3, 1) := by decide +kernel
theorem dX6_readData_57 : decode cX6_readData 57 = .ok (.idiv, 1) := by decide +kernel
theorem dX6_readData_58 : decode cX6_readData 58 = .ok (.iadd, 1) := by decide +kernel
theorem dX6_readData_59 : decode cX6_readData 59 = .ok (.putfield 55, 3) := by decide +kernel
theorem dX6_readData_62 : decode cX6_readData 62 = .ok (.goto 39, 3) := by decide +kernel
theorem dX6_readData_65 : decode cX6_readData 65 = .ok (.iload 4, 2) := by decide +kernel
theorem dX6_readData_67 : decode cX6_readData 67 = .ok (.iconst 2, 1) := by decide +kernel
theorem dX6_readData_68 : decode cX6_readData 68 = .ok (.if_icmp .ne 14, 3) := by decide +kernel
theorem dX6_readData_71 : decode cX6_readData 71 = .ok (.aload_n 0, 1) := by decide +kernel
theorem dX6_readData_72 : decode cX6_readData 72 = .ok (.iload 6, 2) := by decide +kernel
theorem dX6_readData_74 : decode cX6_readData 74 = .ok (.iload 5, 2) := by decide +kernel
theorem dX6_readData_76 : decode cX6_readData 76 = .ok (.invokevirtual 99, 3) := by decide +kernel
theorem dX6_readData_79 : decode cX6_readData 79 = .ok (.goto 22, 3) := by decide +kernel
theorem dX6_readData_82 : decode cX6_readData 82 = .ok (.iload 4, 2) := by decide +kernel
theorem dX6_readData_84 : decode cX6_readData 84 = .ok (.iconst 3, 1) := by decide +kernel
theorem dX6_readData_85 : decode cX6_readData 85 = .ok (.if_icmp .ne 16, 3) := by decide +kernel
theorem dX6_readData_88 : decode cX6_readData 88 = .ok (.iload 5, 2) := by decide +kernel
theorem dX6_readData_90 : decode cX6_readData 90 = .ok (.bipush 7, 2) := by decide +kernel
theorem dX6_readData_92 : decode cX6_readData 92 = .ok (.if_icmp .lt 9, 3) := by decide +kernel
theorem dX6_readData_95 : decode cX6_readData 95 = .ok (.aload_n 0, 1) := by decide +kernel
theorem dX6_readData_96 : decode cX6_readData 96 = .ok (.iload 6, 2) := by decide +kernel
theorem dX6_readData_98 : decode cX6_readData 98 = .ok (.invokevirtual 102, 3) := by decide +kernel
theorem dX6_readData_101 : decode cX6_readData 101 = .ok (.iload_n 3, 1) := by decide +kernel
theorem dX6_readData_102 : decode cX6_readData 102 = .ok (.iconst 1, 1) := by decide +kernel
theorem dX6_readData_103 : decode cX6_readData 103 = .ok (.iload 5, 2) := by decide +kernel
theorem dX6_readData_105 : decode cX6_readData 105 = .ok (.iadd, 1) := by decide +kernel
theorem dX6_readData_106 : decode cX6_readData 106 = .ok (.iadd, 1) := by decide +kernel
theorem dX6_readData_107 : decode cX6_readData 107 = .ok (.istore_n 3, 1) := by decide +kernel
theorem dX6_readData_108 : decode cX6_readData 108 = .ok (.goto (-106), 3) := by decide +kernel
theorem dX6_readData_111 : decode cX6_readData 111 = .ok (.return_, 1) := by decide +kernel
theorem dX6_readCodes_0 : decode cX6_readCodes 0 = .ok (.iconst 0, 1) := by decide +kernel
theorem dX6_readCodes_1 : decode cX6_readCodes 1 = .ok (.istore_n 3, 1) := by decide +kernel
theorem dX6_readCodes_2 : decode cX6_readCodes 2 = .ok (.iload_n 3, 1) := by decide +kernel
theorem dX6_readCodes_3 : decode cX6_readCodes 3 = .ok (.iload_n 2, 1) := by decide +kernel
theorem dX6_readCodes_4 : decode cX6_readCodes 4 = .ok (.if_icmp .ge 60, 3) := by decide +kernel
theorem dX6_readCodes_7 : decode cX6_readCodes 7 = .ok (.aload_n 0, 1) := by decide +kernel
theorem dX6_readCodes_8 : decode cX6_readCodes 8 = .ok (.getfield 49, 3) := by decide +kernel
theorem dX6_readCodes_11 : decode cX6_readCodes 11 = .ok (.ifCond .lt 47, 3) := by decide +kernel
theorem dX6_readCodes_14 : decode cX6_readCodes 14 = .ok (.aload_n 0, 1) := by decide +kernel
theorem dX6_readCodes_15 : decode cX6_readCodes 15 = .ok (.getfield 49, 3) := by decide +kernel
theorem dX6_readCodes_18 : decode cX6_readCodes 18 = .ok (.aload_n 0, 1) := by decide +kernel
theorem dX6_readCodes_19 : decode cX6_readCodes 19 = .ok (.getfield 24, 3) := by decide +kernel
theorem dX6_readCodes_22 : decode cX6_readCodes 22 = .ok (.arraylength, 1) := by decide +kernel
theorem dX6_readCodes_23 : decode cX6_readCodes 23 = .ok (.if_icmp .ge 35, 3) := by decide +kernel
theorem dX6_readCodes_26 : decode cX6_readCodes 26 = .ok (.aload_n 0, 1) := by decide +kernel
theorem dX6_readCodes_27 : decode cX6_readCodes 27 = .ok (.getfield 24, 3) := by decide +kernel
theorem dX6_readCodes_30 : decode cX6_readCodes 30 = .ok (.aload_n 0, 1) := by decide +kernel
theorem dX6_readCodes_31 : decode cX6_readCodes 31 = .ok (.getfield 49, 3) := by decide +kernel
theorem dX6_readCodes_34 : decode cX6_readCodes 34 = .ok (.aload_n 0, 1) := by decide +kernel
theorem dX6_readCodes_35 : decode cX6_readCodes 35 = .ok (.getfield 12, 3) := by decide +kernel
theorem dX6_readCodes_38 : decode cX6_readCodes 38 = .ok (.iload_n 1, 1) := by decide +kernel
theorem dX6_readCodes_39 : decode cX6_readCodes 39 = .ok (.iload_n 3, 1) := by decide +kernel
theorem dX6_readCodes_40 : decode cX6_readCodes 40 = .ok (.iadd, 1) := by decide +kernel
theorem dX6_readCodes_41 : decode cX6_readCodes 41 = .ok (.invokevirtual 72, 3) := by decide +kernel
theorem dX6_readCodes_44 : decode cX6_readCodes 44 = .ok (.bipush 127, 2) := by decide +kernel
theorem dX6_readCodes_46 : decode cX6_readCodes 46 = .ok (.iand, 1) := by decide +kernel
theorem dX6_readCodes_47 : decode cX6_readCodes 47 = .ok (.iastore, 1) := by decide +kernel
theorem dX6_readCodes_48 : decode cX6_readCodes 48 = .ok (.aload_n 0, 1) := by decide +kernel
theorem dX6_readCodes_49 : decode cX6_readCodes 49 = .ok (.dup, 1) := by decide +kernel
theorem dX6_readCodes_50 : decode cX6_readCodes 50 = .ok (.getfield 49, 3) := by decide +kernel
theorem dX6_readCodes_53 : decode cX6_readCodes 53 = .ok (.iconst 1, 1) := by decide +kernel
theorem dX6_readCodes_54 : decode cX6_readCodes 54 = .ok (.iadd, 1) := by decide +kernel
theorem dX6_readCodes_55 : decode cX6_readCodes 55 = .ok (.putfield 49, 3) := by decide +kernel
theorem dX6_readCodes_58 : decode cX6_readCodes 58 = .ok (.iinc 3 1, 3) := by decide +kernel
theorem dX6_readCodes_61 : decode cX6_readCodes 61 = .ok (.goto (-59), 3) := by decide +kernel
theorem dX6_readCodes_64 : decode cX6_readCodes 64 = .ok (.return_, 1) := by decide +kernel
theorem dX6_readMost_0 : decode cX6_readMost 0 = .ok (.aload_n 0, 1) := by decide +kernel
theorem dX6_readMost_1 : decode cX6_readMost 1 = .ok (.getfield 12, 3) := by decide +kernel
theorem dX6_readMost_4 : decode cX6_readMost 4 = .ok (.iload_n 1, 1) := by decide +kernel
theorem dX6_readMost_5 : decode cX6_readMost 5 = .ok (.invokevirtual 72, 3) := by decide +kernel
theorem dX6_readMost_8 : decode cX6_readMost 8 = .ok (.iconst 3, 1) := by decide +kernel
theorem dX6_readMost_9 : decode cX6_readMost 9 = .ok (.if_icmp .ne 50, 3) := by decide +kernel
theorem dX6_readMost_12 : decode cX6_readMost 12 = .ok (.aload_n 0, 1) := by decide +kernel
theorem dX6_readMost_13 : decode cX6_readMost 13 = .ok (.getfield 12, 3) := by decide +kernel
theorem dX6_readMost_16 : decode cX6_readMost 16 = .ok (.iload_n 1, 1) := by decide +kernel
theorem dX6_readMost_17 : decode cX6_readMost 17 = .ok (.iconst 1, 1) := by decide +kernel
theorem dX6_readMost_18 : decode cX6_readMost 18 = .ok (.iadd, 1) := by decide +kernel
theorem dX6_readMost_19 : decode cX6_readMost 19 = .ok (.invokevirtual 72, 3) := by decide +kernel
theorem dX6_readMost_22 : decode cX6_readMost 22 = .ok (.bipush 12, 2) := by decide +kernel
theorem dX6_readMost_24 : decode cX6_readMost 24 = .ok (.if_icmp .ne 35, 3) := by decide +kernel
theorem dX6_readMost_27 : decode cX6_readMost 27 = .ok (.aload_n 0, 1) := by decide +kernel
theorem dX6_readMost_28 : decode cX6_readMost 28 = .ok (.getfield 12, 3) := by decide +kernel
theorem dX6_readMost_31 : decode cX6_readMost 31 = .ok (.iload_n 1, 1) := by decide +kernel
theorem dX6_readMost_32 : decode cX6_readMost 32 = .ok (.iconst 2, 1) := by decide +kernel
theorem dX6_readMost_33 : decode cX6_readMost 33 = .ok (.iadd, 1) := by decide +kernel
theorem dX6_readMost_34 : decode cX6_readMost 34 = .ok (.invokevirtual 72, 3) := by decide +kernel
theorem dX6_readMost_37 : decode cX6_readMost 37 = .ok (.ifCond .ne 22, 3) := by decide +kernel
theorem dX6_readMost_40 : decode cX6_readMost 40 = .ok (.aload_n 0, 1) := by decide +kernel
theorem dX6_readMost_41 : decode cX6_readMost 41 = .ok (.sipush 5000, 3) := by decide +kernel
theorem dX6_readMost_44 : decode cX6_readMost 44 = .ok (.aload_n 0, 1) := by decide +kernel
theorem dX6_readMost_45 : decode cX6_readMost 45 = .ok (.getfield 12, 3) := by decide +kernel
theorem dX6_readMost_48 : decode cX6_readMost 48 = .ok (.iload_n 1, 1) := by decide +kernel
theorem dX6_readMost_49 : decode cX6_readMost 49 = .ok (.bipush 6, 2) := by decide +kernel
theorem dX6_readMost_51 : decode cX6_readMost 51 = .ok (.iadd, 1) := by decide +kernel
theorem dX6_readMost_52 : decode cX6_readMost 52 = .ok (.invokevirtual 72, 3) := by decide +kernel
theorem dX6_readMost_55 : decode cX6_readMost 55 = .ok (.imul, 1) := by decide +kernel
theorem dX6_readMost_56 : decode cX6_readMost 56 = .ok (.putfield 58, 3) := by decide +kernel
theorem dX6_readMost_59 : decode cX6_readMost 59 = .ok (.return_, 1) := by decide +kernel
theorem dX6_readDetailedFrom_0 : decode cX6_readDetailedFrom 0 = .ok (.iload_n 2, 1) := by decide +kernel
theorem dX6_readDetailedFrom_1 : decode cX6_readDetailedFrom 1 = .ok (.ifCond .ne 4, 3) := by decide +kernel
theorem dX6_readDetailedFrom_4 : decode cX6_readDetailedFrom 4 = .ok (.return_, 1) := by decide +kernel
theorem dX6_readDetailedFrom_5 : decode cX6_readDetailedFrom 5 = .ok (.iload_n 2, 1) := by decide +kernel
theorem dX6_readDetailedFrom_6 : decode cX6_readDetailedFrom 6 = .ok (.istore_n 3, 1) := by decide +kernel
theorem dX6_readDetailedFrom_7 : decode cX6_readDetailedFrom 7 = .ok (.iload_n 3, 1) := by decide +kernel
theorem dX6_readDetailedFrom_8 : decode cX6_readDetailedFrom 8 = .ok (.bipush 18, 2) := by decide +kernel
theorem dX6_readDetailedFrom_10 : decode cX6_readDetailedFrom 10 = .ok (.iadd, 1) := by decide +kernel
theorem dX6_readDetailedFrom_11 : decode cX6_readDetailedFrom 11 = .ok (.bipush 127, 2) := by decide +kernel
theorem dX6_readDetailedFrom_13 : decode cX6_readDetailedFrom 13 = .ok (.if_icmp .gt 29, 3) := by decide +kernel
theorem dX6_readDetailedFrom_16 : decode cX6_readDetailedFrom 16 = .ok (.aload_n 0, 1) := by decide +kernel
theorem dX6_readDetailedFrom_17 : decode cX6_readDetailedFrom 17 = .ok (.iload_n 1, 1) := by decide +kernel
theorem dX6_readDetailedFrom_18 : decode cX6_readDetailedFrom 18 = .ok (.iload_n 3, 1) := by decide +kernel
theorem dX6_readDetailedFrom_19 : decode cX6_readDetailedFrom 19 = .ok (.iadd, 1) := by decide +kernel
theorem dX6_readDetailedFrom_20 : decode cX6_readDetailedFrom 20 = .ok (.invokevirtual 83, 3) := by decide +kernel
theorem dX6_readDetailedFrom_23 : decode cX6_readDetailedFrom 23 = .ok (.ifCond .ne 6, 3) := by decide +kernel
theorem dX6_readDetailedFrom_26 : decode cX6_readDetailedFrom 26 = .ok (.goto 16, 3) := by decide +kernel
theorem dX6_readDetailedFrom_29 : decode cX6_readDetailedFrom 29 = .ok (.aload_n 0, 1) := by decide +kernel
theorem dX6_readDetailedFrom_30 : decode cX6_readDetailedFrom 30 = .ok (.iload_n 1, 1) := by decide +kernel
theorem dX6_readDetailedFrom_31 : decode cX6_readDetailedFrom 31 = .ok (.iload_n 3, 1) := by decide +kernel
theorem dX6_readDetailedFrom_32 : decode cX6_readDetailedFrom 32 = .ok (.iadd, 1) := by decide +kernel
theorem dX6_readDetailedFrom_33 : decode cX6_readDetailedFrom 33 = .ok (.invokevirtual 87, 3) := by decide +kernel
theorem dX6_readDetailedFrom_36 : decode cX6_readDetailedFrom 36 = .ok (.iinc 3 18, 3) := by decide +kernel
theorem dX6_readDetailedFrom_39 : decode cX6_readDetailedFrom 39 = .ok (.goto (-32), 3) := by decide +kernel
theorem dX6_readDetailedFrom_42 : decode cX6_readDetailedFrom 42 = .ok (.return_, 1) := by decide +kernel
theorem dX6_detailedAt_0 : decode cX6_detailedAt 0 = .ok (.iload_n 1, 1) := by decide +kernel
theorem dX6_detailedAt_1 : decode cX6_detailedAt 1 = .ok (.ifCond .lt 29, 3) := by decide +kernel
theorem dX6_detailedAt_4 : decode cX6_detailedAt 4 = .ok (.iload_n 1, 1) := by decide +kernel
theorem dX6_detailedAt_5 : decode cX6_detailedAt 5 = .ok (.aload_n 0, 1) := by decide +kernel
theorem dX6_detailedAt_6 : decode cX6_detailedAt 6 = .ok (.getfield 46, 3) := by decide +kernel
theorem dX6_detailedAt_9 : decode cX6_detailedAt 9 = .ok (.if_icmp .ge 21, 3) := by decide +kernel
theorem dX6_detailedAt_12 : decode cX6_detailedAt 12 = .ok (.iload_n 1, 1) := by decide +kernel
theorem dX6_detailedAt_13 : decode cX6_detailedAt 13 = .ok (.aload_n 0, 1) := by decide +kernel
theorem dX6_detailedAt_14 : decode cX6_detailedAt 14 = .ok (.getfield 20, 3) := by decide +kernel
theorem dX6_detailedAt_17 : decode cX6_detailedAt 17 = .ok (.arraylength, 1) := by decide +kernel
theorem dX6_detailedAt_18 : decode cX6_detailedAt 18 = .ok (.if_icmp .ge 12, 3) := by decide +kernel
theorem dX6_detailedAt_21 : decode cX6_detailedAt 21 = .ok (.aload_n 0, 1) := by decide +kernel
theorem dX6_detailedAt_22 : decode cX6_detailedAt 22 = .ok (.getfield 20, 3) := by decide +kernel
theorem dX6_detailedAt_25 : decode cX6_detailedAt 25 = .ok (.iload_n 1, 1) := by decide +kernel
theorem dX6_detailedAt_26 : decode cX6_detailedAt 26 = .ok (.aaload, 1) := by decide +kernel
theorem dX6_detailedAt_27 : decode cX6_detailedAt 27 = .ok (.goto 4, 3) := by decide +kernel
theorem dX6_detailedAt_30 : decode cX6_detailedAt 30 = .ok (.aconst_null, 1) := by decide +kernel
theorem dX6_detailedAt_31 : decode cX6_detailedAt 31 = .ok (.areturn, 1) := by decide +kernel
theorem dX6_codeAt_0 : decode cX6_codeAt 0 = .ok (.iload_n 1, 1) := by decide +kernel
theorem dX6_codeAt_1 : decode cX6_codeAt 1 = .ok (.ifCond .lt 29, 3) := by decide +kernel
theorem dX6_codeAt_4 : decode cX6_codeAt 4 = .ok (.iload_n 1, 1) := by decide +kernel
theorem dX6_codeAt_5 : decode cX6_codeAt 5 = .ok (.aload_n 0, 1) := by decide +kernel
theorem dX6_codeAt_6 : decode cX6_codeAt 6 = .ok (.getfield 49, 3) := by decide +kernel
theorem dX6_codeAt_9 : decode cX6_codeAt 9 = .ok (.if_icmp .ge 21, 3) := by decide +kernel
theorem dX6_codeAt_12 : decode cX6_codeAt 12 = .ok (.iload_n 1, 1) := by decide +kernel
theorem dX6_codeAt_13 : decode cX6_codeAt 13 = .ok (.aload_n 0, 1) := by decide +kernel
theorem dX6_codeAt_14 : decode cX6_codeAt 14 = .ok (.getfield 24, 3) := by decide +kernel
theorem dX6_codeAt_17 : decode cX6_codeAt 17 = .ok (.arraylength, 1) := by decide +kernel
theorem dX6_codeAt_18 : decode cX6_codeAt 18 = .ok (.if_icmp .ge 12, 3) := by decide +kernel
theorem dX6_codeAt_21 : decode cX6_codeAt 21 = .ok (.aload_n 0, 1) := by decide +kernel
theorem dX6_codeAt_22 : decode cX6_codeAt 22 = .ok (.getfield 24, 3) := by decide +kernel
theorem dX6_codeAt_25 : decode cX6_codeAt 25 = .ok (.iload_n 1, 1) := by decide +kernel
theorem dX6_codeAt_26 : decode cX6_codeAt 26 = .ok (.iaload, 1) := by decide +kernel
theorem dX6_codeAt_27 : decode cX6_codeAt 27 = .ok (.goto 4, 3) := by decide +kernel
theorem dX6_codeAt_30 : decode cX6_codeAt 30 = .ok (.iconst 0, 1) := by decide +kernel
theorem dX6_codeAt_31 : decode cX6_codeAt 31 = .ok (.ireturn, 1) := by decide +kernel
theorem dX6_nameByte_0 : decode cX6_nameByte 0 = .ok (.iload_n 1, 1) := by decide +kernel
theorem dX6_nameByte_1 : decode cX6_nameByte 1 = .ok (.ifCond .lt 29, 3) := by decide +kernel
theorem dX6_nameByte_4 : decode cX6_nameByte 4 = .ok (.iload_n 1, 1) := by decide +kernel
theorem dX6_nameByte_5 : decode cX6_nameByte 5 = .ok (.aload_n 0, 1) := by decide +kernel
theorem dX6_nameByte_6 : decode cX6_nameByte 6 = .ok (.getfield 52, 3) := by decide +kernel
theorem dX6_nameByte_9 : decode cX6_nameByte 9 = .ok (.if_icmp .ge 21, 3) := by decide +kernel
theorem dX6_nameByte_12 : decode cX6_nameByte 12 = .ok (.iload_n 1, 1) := by decide +kernel
theorem dX6_nameByte_13 : decode cX6_nameByte 13 = .ok (.aload_n 0, 1) := by decide +kernel
theorem dX6_nameByte_14 : decode cX6_nameByte 14 = .ok (.getfield 28, 3) := by decide +kernel
theorem dX6_nameByte_17 : decode cX6_nameByte 17 = .ok (.arraylength, 1) := by decide +kernel
theorem dX6_nameByte_18 : decode cX6_nameByte 18 = .ok (.if_icmp .ge 12, 3) := by decide +kernel
theorem dX6_nameByte_21 : decode cX6_nameByte 21 = .ok (.aload_n 0, 1) := by decide +kernel
theorem dX6_nameByte_22 : decode cX6_nameByte 22 = .ok (.getfield 28, 3) := by decide +kernel
theorem dX6_nameByte_25 : decode cX6_nameByte 25 = .ok (.iload_n 1, 1) := by decide +kernel
theorem dX6_nameByte_26 : decode cX6_nameByte 26 = .ok (.iaload, 1) := by decide +kernel
theorem dX6_nameByte_27 : decode cX6_nameByte 27 = .ok (.goto 4, 3) := by decide +kernel
theorem dX6_nameByte_30 : decode cX6_nameByte 30 = .ok (.iconst 0, 1) := by decide +kernel
theorem dX6_nameByte_31 : decode cX6_nameByte 31 = .ok (.ireturn, 1) := by decide +kernel
theorem dX6_makerLetter_0 : decode cX6_makerLetter 0 = .ok (.aload_n 0, 1) := by decide +kernel
theorem dX6_makerLetter_1 : decode cX6_makerLetter 1 = .ok (.getfield 12, 3) := by decide +kernel
theorem dX6_makerLetter_4 : decode cX6_makerLetter 4 = .ok (.bipush 8, 2) := by decide +kernel
theorem dX6_makerLetter_6 : decode cX6_makerLetter 6 = .ok (.invokevirtual 72, 3) := by decide +kernel
theorem dX6_makerLetter_9 : decode cX6_makerLetter 9 = .ok (.bipush 8, 2) := by decide +kernel
theorem dX6_makerLetter_11 : decode cX6_makerLetter 11 = .ok (.ishl, 1) := by decide +kernel
theorem dX6_makerLetter_12 : decode cX6_makerLetter 12 = .ok (.aload_n 0, 1) := by decide +kernel
theorem dX6_makerLetter_13 : decode cX6_makerLetter 13 = .ok (.getfield 12, 3) := by decide +kernel
theorem dX6_makerLetter_16 : decode cX6_makerLetter 16 = .ok (.bipush 9, 2) := by decide +kernel
theorem dX6_makerLetter_18 : decode cX6_makerLetter 18 = .ok (.invokevirtual 72, 3) := by decide +kernel
theorem dX6_makerLetter_21 : decode cX6_makerLetter 21 = .ok (.ior, 1) := by decide +kernel
theorem dX6_makerLetter_22 : decode cX6_makerLetter 22 = .ok (.istore_n 2, 1) := by decide +kernel
theorem dX6_makerLetter_23 : decode cX6_makerLetter 23 = .ok (.bipush 64, 2) := by decide +kernel
theorem dX6_makerLetter_25 : decode cX6_makerLetter 25 = .ok (.iload_n 2, 1) := by decide +kernel
theorem dX6_makerLetter_26 : decode cX6_makerLetter 26 = .ok (.bipush 10, 2) := by decide +kernel
theorem dX6_makerLetter_28 : decode cX6_makerLetter 28 = .ok (.iconst 5, 1) := by decide +kernel
theorem dX6_makerLetter_29 : decode cX6_makerLetter 29 = .ok (.iload_n 1, 1) := by decide +kernel
theorem dX6_makerLetter_30 : decode cX6_makerLetter 30 = .ok (.imul, 1) := by decide +kernel
theorem dX6_makerLetter_31 : decode cX6_makerLetter 31 = .ok (.isub, 1) := by decide +kernel
theorem dX6_makerLetter_32 : decode cX6_makerLetter 32 = .ok (.ishr, 1) := by decide +kernel
theorem dX6_makerLetter_33 : decode cX6_makerLetter 33 = .ok (.bipush 31, 2) := by decide +kernel
theorem dX6_makerLetter_35 : decode cX6_makerLetter 35 = .ok (.iand, 1) := by decide +kernel
theorem dX6_makerLetter_36 : decode cX6_makerLetter 36 = .ok (.iadd, 1) := by decide +kernel
theorem dX6_makerLetter_37 : decode cX6_makerLetter 37 = .ok (.ireturn, 1) := by decide +kernel
theorem dX6_rangeByte_0 : decode cX6_rangeByte 0 = .ok (.iload_n 1, 1) := by decide +kernel
theorem dX6_rangeByte_1 : decode cX6_rangeByte 1 = .ok (.ifCond .lt 21, 3) := by decide +kernel
theorem dX6_rangeByte_4 : decode cX6_rangeByte 4 = .ok (.iload_n 1, 1) := by decide +kernel
theorem dX6_rangeByte_5 : decode cX6_rangeByte 5 = .ok (.aload_n 0, 1) := by decide +kernel
theorem dX6_rangeByte_6 : decode cX6_rangeByte 6 = .ok (.getfield 31, 3) := by decide +kernel
theorem dX6_rangeByte_9 : decode cX6_rangeByte 9 = .ok (.arraylength, 1) := by decide +kernel
theorem dX6_rangeByte_10 : decode cX6_rangeByte 10 = .ok (.if_icmp .ge 12, 3) := by decide +kernel
theorem dX6_rangeByte_13 : decode cX6_rangeByte 13 = .ok (.aload_n 0, 1) := by decide +kernel
theorem dX6_rangeByte_14 : decode cX6_rangeByte 14 = .ok (.getfield 31, 3) := by decide +kernel
theorem dX6_rangeByte_17 : decode cX6_rangeByte 17 = .ok (.iload_n 1, 1) := by decide +kernel
theorem dX6_rangeByte_18 : decode cX6_rangeByte 18 = .ok (.iaload, 1) := by decide +kernel
theorem dX6_rangeByte_19 : decode cX6_rangeByte 19 = .ok (.goto 4, 3) := by decide +kernel
theorem dX6_rangeByte_22 : decode cX6_rangeByte 22 = .ok (.iconst 0, 1) := by decide +kernel
theorem dX6_rangeByte_23 : decode cX6_rangeByte 23 = .ok (.ireturn, 1) := by decide +kernel
theorem dX6_rangePart_0 : decode cX6_rangePart 0 = .ok (.aload_n 0, 1) := by decide +kernel
theorem dX6_rangePart_1 : decode cX6_rangePart 1 = .ok (.getfield 61, 3) := by decide +kernel
theorem dX6_rangePart_4 : decode cX6_rangePart 4 = .ok (.ifCond .ne 5, 3) := by decide +kernel
theorem dX6_rangePart_7 : decode cX6_rangePart 7 = .ok (.iconst (-1), 1) := by decide +kernel
theorem dX6_rangePart_8 : decode cX6_rangePart 8 = .ok (.ireturn, 1) := by decide +kernel
theorem dX6_rangePart_9 : decode cX6_rangePart 9 = .ok (.iload_n 1, 1) := by decide +kernel
theorem dX6_rangePart_10 : decode cX6_rangePart 10 = .ok (.iconst 4, 1) := by decide +kernel
theorem dX6_rangePart_11 : decode cX6_rangePart 11 = .ok (.if_icmp .ne 15, 3) := by decide +kernel
theorem dX6_rangePart_14 : decode cX6_rangePart 14 = .ok (.aload_n 0, 1) := by decide +kernel
theorem dX6_rangePart_15 : decode cX6_rangePart 15 = .ok (.iload_n 1, 1) := by decide +kernel
theorem dX6_rangePart_16 : decode cX6_rangePart 16 = .ok (.invokevirtual 105, 3) := by decide +kernel
theorem dX6_rangePart_19 : decode cX6_rangePart 19 = .ok (.sipush 10000, 3) := by decide +kernel
theorem dX6_rangePart_22 : decode cX6_rangePart 22 = .ok (.imul, 1) := by decide +kernel
theorem dX6_rangePart_23 : decode cX6_rangePart 23 = .ok (.goto 8, 3) := by decide +kernel
theorem dX6_rangePart_26 : decode cX6_rangePart 26 = .ok (.aload_n 0, 1) := by decide +kernel
theorem dX6_rangePart_27 : decode cX6_rangePart 27 = .ok (.iload_n 1, 1) := by decide +kernel
theorem dX6_rangePart_28 : decode cX6_rangePart 28 = .ok (.invokevirtual 105, 3) := by decide +kernel
theorem dX6_rangePart_31 : decode cX6_rangePart 31 = .ok (.ireturn, 1) := by decide +kernel
theorem dX6_isInRange_0 : decode cX6_isInRange 0 = .ok (.aload_n 0, 1) := by decide +kernel
theorem dX6_isInRange_1 : decode cX6_isInRange 1 = .ok (.getfield 61, 3) := by decide +kernel
theorem dX6_isInRange_4 : decode cX6_isInRange 4 = .ok (.ifCond .eq 57, 3) := by decide +kernel
theorem dX6_isInRange_7 : decode cX6_isInRange 7 = .ok (.iload_n 1, 1) := by decide +kernel
theorem dX6_isInRange_8 : decode cX6_isInRange 8 = .ok (.aload_n 0, 1) := by decide +kernel
theorem dX6_isInRange_9 : decode cX6_isInRange 9 = .ok (.getfield 31, 3) := by decide +kernel
theorem dX6_isInRange_12 : decode cX6_isInRange 12 = .ok (.iconst 0, 1) := by decide +kernel
theorem dX6_isInRange_13 : decode cX6_isInRange 13 = .ok (.iaload, 1) := by decide +kernel
theorem dX6_isInRange_14 : decode cX6_isInRange 14 = .ok (.if_icmp .lt 51, 3) := by decide +kernel
theorem dX6_isInRange_17 : decode cX6_isInRange 17 = .ok (.iload_n 1, 1) := by decide +kernel
theorem dX6_isInRange_18 : decode cX6_isInRange 18 = .ok (.aload_n 0, 1) := by decide +kernel
theorem dX6_isInRange_19 : decode cX6_isInRange 19 = .ok (.getfield 31, 3) := by decide +kernel
theorem dX6_isInRange_22 : decode cX6_isInRange 22 = .ok (.iconst 1, 1) := by decide +kernel
theorem dX6_isInRange_23 : decode cX6_isInRange 23 = .ok (.iaload, 1) := by decide +kernel
theorem dX6_isInRange_24 : decode cX6_isInRange 24 = .ok (.if_icmp .gt 41, 3) := by decide +kernel
theorem dX6_isInRange_27 : decode cX6_isInRange 27 = .ok (.iload_n 2, 1) := by decide +kernel
theorem dX6_isInRange_28 : decode cX6_isInRange 28 = .ok (.aload_n 0, 1) := by decide +kernel
theorem dX6_isInRange_29 : decode cX6_isInRange 29 = .ok (.getfield 31, 3) := by decide +kernel
theorem dX6_isInRange_32 : decode cX6_isInRange 32 = .ok (.iconst 2, 1) := by decide +kernel
theorem dX6_isInRange_33 : decode cX6_isInRange 33 = .ok (.iaload, 1) := by decide +kernel
theorem dX6_isInRange_34 : decode cX6_isInRange 34 = .ok (.if_icmp .lt 31, 3) := by decide +kernel
theorem dX6_isInRange_37 : decode cX6_isInRange 37 = .ok (.iload_n 2, 1) := by decide +kernel
theorem dX6_isInRange_38 : decode cX6_isInRange 38 = .ok (.aload_n 0, 1) := by decide +kernel
theorem dX6_isInRange_39 : decode cX6_isInRange 39 = .ok (.getfield 31, 3) := by decide +kernel
theorem dX6_isInRange_42 : decode cX6_isInRange 42 = .ok (.iconst 3, 1) := by decide +kernel
theorem dX6_isInRange_43 : decode cX6_isInRange 43 = .ok (.iaload, 1) := by decide +kernel
theorem dX6_isInRange_44 : decode cX6_isInRange 44 = .ok (.if_icmp .gt 21, 3) := by decide +kernel
theorem dX6_isInRange_47 : decode cX6_isInRange 47 = .ok (.iload_n 3, 1) := by decide +kernel
theorem dX6_isInRange_48 : decode cX6_isInRange 48 = .ok (.aload_n 0, 1) := by decide +kernel
theorem dX6_isInRange_49 : decode cX6_isInRange 49 = .ok (.getfield 31, 3) := by decide +kernel
theorem dX6_isInRange_52 : decode cX6_isInRange 52 = .ok (.iconst 4, 1) := by decide +kernel
theorem dX6_isInRange_53 : decode cX6_isInRange 53 = .ok (.iaload, 1) := by decide +kernel
theorem dX6_isInRange_54 : decode cX6_isInRange 54 = .ok (.sipush 10000, 3) := by decide +kernel
theorem dX6_isInRange_57 : decode cX6_isInRange 57 = .ok (.imul, 1) := by decide +kernel
theorem dX6_isInRange_58 : decode cX6_isInRange 58 = .ok (.if_icmp .gt 7, 3) := by decide +kernel
theorem dX6_isInRange_61 : decode cX6_isInRange 61 = .ok (.iconst 1, 1) := by decide +kernel
theorem dX6_isInRange_62 : decode cX6_isInRange 62 = .ok (.goto 4, 3) := by decide +kernel
theorem dX6_isInRange_65 : decode cX6_isInRange 65 = .ok (.iconst 0, 1) := by decide +kernel
theorem dX6_isInRange_66 : decode cX6_isInRange 66 = .ok (.ireturn, 1) := by decide +kernel
theorem dX7_init_0 : decode cX7_init 0 = .ok (.aload_n 0, 1) := by decide +kernel
theorem dX7_init_1 : decode cX7_init 1 = .ok (.invokespecial 3, 3) := by decide +kernel
theorem dX7_init_4 : decode cX7_init 4 = .ok (.return_, 1) := by decide +kernel
theorem dX7_read_0 : decode cX7_read 0 = .ok (.aload_n 0, 1) := by decide +kernel
theorem dX7_read_1 : decode cX7_read 1 = .ok (.aload_n 1, 1) := by decide +kernel
theorem dX7_read_2 : decode cX7_read 2 = .ok (.iload_n 2, 1) := by decide +kernel
theorem dX7_read_3 : decode cX7_read 3 = .ok (.iconst 1, 1) := by decide +kernel
theorem dX7_read_4 : decode cX7_read 4 = .ok (.iadd, 1) := by decide +kernel
theorem dX7_read_5 : decode cX7_read 5 = .ok (.invokevirtual 9, 3) := by decide +kernel
theorem dX7_read_8 : decode cX7_read 8 = .ok (.bipush 8, 2) := by decide +kernel
theorem dX7_read_10 : decode cX7_read 10 = .ok (.ishl, 1) := by decide +kernel
theorem dX7_read_11 : decode cX7_read 11 = .ok (.aload_n 1, 1) := by decide +kernel
theorem dX7_read_12 : decode cX7_read 12 = .ok (.iload_n 2, 1) := by decide +kernel
theorem dX7_read_13 : decode cX7_read 13 = .ok (.invokevirtual 9, 3) := by decide +kernel
theorem dX7_read_16 : decode cX7_read 16 = .ok (.ior, 1) := by decide +kernel
theorem dX7_read_17 : decode cX7_read 17 = .ok (.bipush 10, 2) := by decide +kernel
theorem dX7_read_19 : decode cX7_read 19 = .ok (.imul, 1) := by decide +kernel
theorem dX7_read_20 : decode cX7_read 20 = .ok (.putfield 15, 3) := by decide +kernel
theorem dX7_read_23 : decode cX7_read 23 = .ok (.aload_n 1, 1) := by decide +kernel
theorem dX7_read_24 : decode cX7_read 24 = .ok (.iload_n 2, 1) := by decide +kernel
theorem dX7_read_25 : decode cX7_read 25 = .ok (.iconst 4, 1) := by decide +kernel
theorem dX7_read_26 : decode cX7_read 26 = .ok (.iadd, 1) := by decide +kernel
theorem dX7_read_27 : decode cX7_read 27 = .ok (.invokevirtual 9, 3) := by decide +kernel
theorem dX7_read_30 : decode cX7_read 30 = .ok (.istore_n 3, 1) := by decide +kernel
theorem dX7_read_31 : decode cX7_read 31 = .ok (.aload_n 0, 1) := by decide +kernel
theorem dX7_read_32 : decode cX7_read 32 = .ok (.aload_n 1, 1) := by decide +kernel
theorem dX7_read_33 : decode cX7_read 33 = .ok (.iload_n 2, 1) := by decide +kernel
theorem dX7_read_34 : decode cX7_read 34 = .ok (.iconst 2, 1) := by decide +kernel
theorem dX7_read_35 : decode cX7_read 35 = .ok (.iadd, 1) := by decide +kernel
theorem dX7_read_36 : decode cX7_read 36 = .ok (.invokevirtual 9, 3) := by decide +kernel
theorem dX7_read_39 : decode cX7_read 39 = .ok (.iload_n 3, 1) := by decide +kernel
theorem dX7_read_40 : decode cX7_read 40 = .ok (.iconst 4, 1) := by decide +kernel
theorem dX7_read_41 : decode cX7_read 41 = .ok (.ishr, 1) := by decide +kernel
theorem dX7_read_42 : decode cX7_read 42 = .ok (.bipush 8, 2) := by decide +kernel
theorem dX7_read_44 : decode cX7_read 44 = .ok (.ishl, 1) := by decide +kernel
theorem dX7_read_45 : decode cX7_read 45 = .ok (.ior, 1) := by decide +kernel
theorem dX7_read_46 : decode cX7_read 46 = .ok (.putfield 21, 3) := by decide +kernel
theorem dX7_read_49 : decode cX7_read 49 = .ok (.aload_n 0, 1) := by decide +kernel
theorem dX7_read_50 : decode cX7_read 50 = .ok (.aload_n 1, 1) := by decide +kernel
theorem dX7_read_51 : decode cX7_read 51 = .ok (.iload_n 2, 1) := by decide +kernel
theorem dX7_read_52 : decode cX7_read 52 = .ok (.iconst 3, 1) := by decide +kernel
theorem dX7_read_53 : decode cX7_read 53 = .ok (.iadd, 1) := by decide +kernel
theorem dX7_read_54 : decode cX7_read 54 = .ok (.invokevirtual 9, 3) := by decide +kernel
theorem dX7_read_57 : decode cX7_read 57 = .ok (.iload_n 3, 1) := by decide +kernel
theorem dX7_read_58 : decode cX7_read 58 = .ok (.bipush 15, 2) := by decide +kernel
theorem dX7_read_60 : decode cX7_read 60 = .ok (.iand, 1) := by decide +kernel
theorem dX7_read_61 : decode cX7_read 61 = .ok (.bipush 8, 2) := by decide +kernel
theorem dX7_read_63 : decode cX7_read 63 = .ok (.ishl, 1) := by decide +kernel
theorem dX7_read_64 : decode cX7_read 64 = .ok (.ior, 1) := by decide +kernel
theorem dX7_read_65 : decode cX7_read 65 = .ok (.putfield 24, 3) := by decide +kernel
theorem dX7_read_68 : decode cX7_read 68 = .ok (.aload_n 1, 1) := by decide +kernel
theorem dX7_read_69 : decode cX7_read 69 = .ok (.iload_n 2, 1) := by decide +kernel
theorem dX7_read_70 : decode cX7_read 70 = .ok (.bipush 7, 2) := by decide +kernel
theorem dX7_read_72 : decode cX7_read 72 = .ok (.iadd, 1) := by decide +kernel
theorem dX7_read_73 : decode cX7_read 73 = .ok (.invokevirtual 9, 3) := by decide +kernel
theorem dX7_read_76 : decode cX7_read 76 = .ok (.istore 4, 2) := by decide +kernel
theorem dX7_read_78 : decode cX7_read 78 = .ok (.aload_n 0, 1) := by decide +kernel
theorem dX7_read_79 : decode cX7_read 79 = .ok (.aload_n 1, 1) := by decide +kernel
theorem dX7_read_80 : decode cX7_read 80 = .ok (.iload_n 2, 1) := by decide +kernel
theorem dX7_read_81 : decode cX7_read 81 = .ok (.iconst 5, 1) := by decide +kernel
theorem dX7_read_82 : decode cX7_read 82 = .ok (.iadd, 1) := by decide +kernel
theorem dX7_read_83 : decode cX7_read 83 = .ok (.invokevirtual 9, 3) := by decide +kernel
theorem dX7_read_86 : decode cX7_read 86 = .ok (.iload 4, 2) := by decide +kernel
theorem dX7_read_88 : decode cX7_read 88 = .ok (.iconst 4, 1) := by decide +kernel
theorem dX7_read_89 : decode cX7_read 89 = .ok (.ishr, 1) := by decide +kernel
theorem dX7_read_90 : decode cX7_read 90 = .ok (.bipush 8, 2) := by decide +kernel
theorem dX7_read_92 : decode cX7_read 92 = .ok (.ishl, 1) := by decide +kernel
theorem dX7_read_93 : decode cX7_read 93 = .ok (.ior, 1) := by decide +kernel
theorem dX7_read_94 : decode cX7_read 94 = .ok (.putfield 27, 3) := by decide +kernel
theorem dX7_read_97 : decode cX7_read 97 = .ok (.aload_n 0, 1) := by decide +kernel
theorem dX7_read_98 : decode cX7_read 98 = .ok (.aload_n 1, 1) := by decide +kernel
theorem dX7_read_99 : decode cX7_read 99 = .ok (.iload_n 2, 1) := by decide +kernel
theorem dX7_read_100 : decode cX7_read 100 = .ok (.bipush 6, 2) := by decide +kernel
theorem dX7_read_102 : decode cX7_read 102 = .ok (.iadd, 1) := by decide +kernel
theorem dX7_read_103 : decode cX7_read 103 = .ok (.invokevirtual 9, 3) := by decide +kernel
theorem dX7_read_106 : decode cX7_read 106 = .ok (.iload 4, 2) := by decide +kernel
theorem dX7_read_108 : decode cX7_read 108 = .ok (.bipush 15, 2) := by decide +kernel
theorem dX7_read_110 : decode cX7_read 110 = .ok (.iand, 1) := by decide +kernel
theorem dX7_read_111 : decode cX7_read 111 = .ok (.bipush 8, 2) := by decide +kernel
theorem dX7_read_113 : decode cX7_read 113 = .ok (.ishl, 1) := by decide +kernel
theorem dX7_read_114 : decode cX7_read 114 = .ok (.ior, 1) := by decide +kernel
theorem dX7_read_115 : decode cX7_read 115 = .ok (.putfield 30, 3) := by decide +kernel
theorem dX7_read_118 : decode cX7_read 118 = .ok (.aload_n 1, 1) := by decide +kernel
theorem dX7_read_119 : decode cX7_read 119 = .ok (.iload_n 2, 1) := by decide +kernel
theorem dX7_read_120 : decode cX7_read 120 = .ok (.bipush 10, 2) := by decide +kernel
theorem dX7_read_122 : decode cX7_read 122 = .ok (.iadd, 1) := by decide +kernel
theorem dX7_read_123 : decode cX7_read 123 = .ok (.invokevirtual 9, 3) := by decide +kernel
theorem dX7_read_126 : decode cX7_read 126 = .ok (.istore 5, 2) := by decide +kernel
theorem dX7_read_128 : decode cX7_read 128 = .ok (.aload_n 1, 1) := by decide +kernel
theorem dX7_read_129 : decode cX7_read 129 = .ok (.iload_n 2, 1) := by decide +kernel
theorem dX7_read_130 : decode cX7_read 130 = .ok (.bipush 11, 2) := by decide +kernel
theorem dX7_read_132 : decode cX7_read 132 = .ok (.iadd, 1) := by decide +kernel
theorem dX7_read_133 : decode cX7_read 133 = .ok (.invokevirtual 9, 3) := by decide +kernel
theorem dX7_read_136 : decode cX7_read 136 = .ok (.istore 6, 2) := by decide +kernel
theorem dX7_read_138 : decode cX7_read 138 = .ok (.aload_n 0, 1) := by decide +kernel
theorem dX7_read_139 : decode cX7_read 139 = .ok (.aload_n 1, 1) := by decide +kernel
theorem dX7_read_140 : decode cX7_read 140 = .ok (.iload_n 2, 1) := by decide +kernel
theorem dX7_read_141 : decode cX7_read 141 = .ok (.bipush 8, 2) := by decide +kernel
theorem dX7_read_143 : decode cX7_read 143 = .ok (.iadd, 1) := by decide +kernel
theorem dX7_read_144 : decode cX7_read 144 = .ok (.invokevirtual 9, 3) := by decide +kernel
theorem dX7_read_147 : decode cX7_read 147 = .ok (.iload 6, 2) := by decide +kernel
theorem dX7_read_149 : decode cX7_read 149 = .ok (.bipush 6, 2) := by decide +kernel
theorem dX7_read_151 : decode cX7_read 151 = .ok (.ishr, 1) := by decide +kernel
theorem dX7_read_152 : decode cX7_read 152 = .ok (.iconst 3, 1) := by decide +kernel
theorem dX7_read_153 : decode cX7_read 153 = .ok (.iand, 1) := by decide +kernel
theorem dX7_read_154 : decode cX7_read 154 = .ok (.bipush 8, 2) := by decide +kernel
theorem dX7_read_156 : decode cX7_read 156 = .ok (.ishl, 1) := by decide +kernel
theorem dX7_read_157 : decode cX7_read 157 = .ok (.ior, 1) := by decide +kernel
theorem dX7_read_158 : decode cX7_read 158 = .ok (.putfield 33, 3) := by decide +kernel
theorem dX7_read_161 : decode cX7_read 161 = .ok (.aload_n 0, 1) := by decide +kernel
theorem dX7_read_162 : decode cX7_read 162 = .ok (.aload_n 1, 1) := by decide +kernel
theorem dX7_read_163 : decode cX7_read 163 = .ok (.iload_n 2, 1) := by decide +kernel
theorem dX7_read_164 : decode cX7_read 164 = .ok (.bipush 9, 2) := by decide +kernel
theorem dX7_read_166 : decode cX7_read 166 = .ok (.iadd, 1) := by decide +kernel
theorem dX7_read_167 : decode cX7_read 167 = .ok (.invokevirtual 9, 3) := by decide +kernel
theorem dX7_read_170 : decode cX7_read 170 = .ok (.iload 6, 2) := by decide +kernel
theorem dX7_read_172 : decode cX7_read 172 = .ok (.iconst 4, 1) := by decide +kernel
theorem dX7_read_173 : decode cX7_read 173 = .ok (.ishr, 1) := by decide +kernel
theorem dX7_read_174 : decode cX7_read 174 = .ok (.iconst 3, 1) := by decide +kernel
theorem dX7_read_175 : decode cX7_read 175 = .ok (.iand, 1) := by decide +kernel
theorem dX7_read_176 : decode cX7_read 176 = .ok (.bipush 8, 2) := by decide +kernel
theorem dX7_read_178 : decode cX7_read 178 = .ok (.ishl, 1) := by decide +kernel
theorem dX7_read_179 : decode cX7_read 179 = .ok (.ior, 1) := by decide +kernel
theorem dX7_read_180 : decode cX7_read 180 = .ok (.putfield 36, 3) := by decide +kernel
theorem dX7_read_183 : decode cX7_read 183 = .ok (.aload_n 0, 1) := by decide +kernel
theorem dX7_read_184 : decode cX7_read 184 = .ok (.iload 5, 2) := by decide +kernel
theorem dX7_read_186 : decode cX7_read 186 = .ok (.iconst 4, 1) := by decide +kernel
theorem dX7_read_187 : decode cX7_read 187 = .ok (.ishr, 1) := by decide +kernel
theorem dX7_read_188 : decode cX7_read 188 = .ok (.iload 6, 2) := by decide +kernel
theorem dX7_read_190 : decode cX7_read 190 = .ok (.iconst 2, 1) := by decide +kernel
theorem dX7_read_191 : decode cX7_read 191 = .ok (.ishr, 1) := by decide +kernel
theorem dX7_read_192 : decode cX7_read 192 = .ok (.iconst 3, 1) := by decide +kernel
theorem dX7_read_193 : decode cX7_read 193 = .ok (.iand, 1) := by decide +kernel
theorem dX7_read_194 : decode cX7_read 194 = .ok (.iconst 4, 1) := by decide +kernel
theorem dX7_read_195 : decode cX7_read 195 = .ok (.ishl, 1) := by decide +kernel
theorem dX7_read_196 : decode cX7_read 196 = .ok (.ior, 1) := by decide +kernel
theorem dX7_read_197 : decode cX7_read 197 = .ok (.putfield 39, 3) := by decide +kernel
theorem dX7_read_200 : decode cX7_read 200 = .ok (.aload_n 0, 1) := by decide +kernel
theorem dX7_read_201 : decode cX7_read 201 = .ok (.iload 5, 2) := by decide +kernel
theorem dX7_read_203 : decode cX7_read 203 = .ok (.bipush 15, 2) := by decide +kernel
theorem dX7_read_205 : decode cX7_read 205 = .ok (.iand, 1) := by decide +kernel
theorem dX7_read_206 : decode cX7_read 206 = .ok (.iload 6, 2) := by decide +kernel
theorem dX7_read_208 : decode cX7_read 208 = .ok (.iconst 3, 1) := by decide +kernel
theorem dX7_read_209 : decode cX7_read 209 = .ok (.iand, 1) := by decide +kernel
theorem dX7_read_210 : decode cX7_read 210 = .ok (.iconst 4, 1) := by decide +kernel
theorem dX7_read_211 : decode cX7_read 211 = .ok (.ishl, 1) := by decide +kernel
theorem dX7_read_212 : decode cX7_read 212 = .ok (.ior, 1) := by decide +kernel
theorem dX7_read_213 : decode cX7_read 213 = .ok (.putfield 42, 3) := by decide +kernel
theorem dX7_read_216 : decode cX7_read 216 = .ok (.aload_n 0, 1) := by decide +kernel
theorem dX7_read_217 : decode cX7_read 217 = .ok (.aload_n 1, 1) := by decide +kernel
theorem dX7_read_218 : decode cX7_read 218 = .ok (.iload_n 2, 1) := by decide +kernel
theorem dX7_read_219 : decode cX7_read 219 = .ok (.bipush 17, 2) := by decide +kernel
theorem dX7_read_221 : decode cX7_read 221 = .ok (.iadd, 1) := by decide +kernel
theorem dX7_read_222 : decode cX7_read 222 = .ok (.invokevirtual 9, 3) := by decide +kernel
theorem dX7_read_225 : decode cX7_read 225 = .ok (.sipush 128, 3) := by decide +kernel
theorem dX7_read_228 : decode cX7_read 228 = .ok (.if_icmp .lt 7, 3) := by decide +kernel
theorem dX7_read_231 : decode cX7_read 231 = .ok (.iconst 1, 1) := by decide +kernel
theorem dX7_read_232 : decode cX7_read 232 = .ok (.goto 4, 3) := by decide +kernel
theorem dX7_read_235 : decode cX7_read 235 = .ok (.iconst 0, 1) := by decide +kernel
theorem dX7_read_236 : decode cX7_read 236 = .ok (.putfield 45, 3) := by decide +kernel
theorem dX7_read_239 : decode cX7_read 239 = .ok (.return_, 1) := by decide +kernel
theorem dX7_descriptorByte_0 : decode cX7_descriptorByte 0 = .ok (.iload_n 1, 1) := by decide +kernel
theorem dX7_descriptorByte_1 : decode cX7_descriptorByte 1 = .ok (.tableswitch 255 0 11 #[63, 75, 90, 99, 108, 132, 141, 150, 174, 183, 192, 210], 63) := by decide +kernel
theorem dX7_descriptorByte_64 : decode cX7_descriptorByte 64 = .ok (.aload_n 0, 1) := by decide +kernel
theorem dX7_descriptorByte_65 : decode cX7_descriptorByte 65 = .ok (.getfield 15, 3) := by decide +kernel
theorem dX7_descriptorByte_68 : decode cX7_descriptorByte 68 = .ok (.bipush 10, 2) := by decide +kernel
theorem dX7_descriptorByte_70 : decode cX7_descriptorByte 70 = .ok (.idiv, 1) := by decide +kernel
theorem dX7_descriptorByte_71 : decode cX7_descriptorByte 71 = .ok (.sipush 255, 3) := by decide +kernel
theorem dX7_descriptorByte_74 : decode cX7_descriptorByte 74 = .ok (.iand, 1) := by decide +kernel
theorem dX7_descriptorByte_75 : decode cX7_descriptorByte 75 = .ok (.ireturn, 1) := by decide +kernel
theorem dX7_descriptorByte_76 : decode cX7_descriptorByte 76 = .ok (.aload_n 0, 1) := by decide +kernel
theorem dX7_descriptorByte_77 : decode cX7_descriptorByte 77 = .ok (.getfield 15, 3) := by decide +kernel
theorem dX7_descriptorByte_80 : decode cX7_descriptorByte 80 = .ok (.bipush 10, 2) := by decide +kernel
theorem dX7_descriptorByte_82 : decode cX7_descriptorByte 82 = .ok (.idiv, 1) := by decide +kernel
theorem dX7_descriptorByte_83 : decode cX7_descriptorByte 83 = .ok (.bipush 8, 2) := by decide +kernel
theorem dX7_descriptorByte_85 : decode cX7_descriptorByte 85 = .ok (.ishr, 1) := by decide +kernel
theorem dX7_descriptorByte_86 : decode cX7_descriptorByte 86 = .ok (.sipush 255, 3) := by decide +kernel
theorem dX7_descriptorByte_89 : decode cX7_descriptorByte 89 = .ok (.iand, 1) := by decide +kernel
theorem dX7_descriptorByte_90 : decode cX7_descriptorByte 90 = .ok (.ireturn, 1) := by decide +kernel
theorem dX7_descriptorByte_91 : decode cX7_descriptorByte 91 = .ok (.aload_n 0, 1) := by decide +kernel
theorem dX7_descriptorByte_92 : decode cX7_descriptorByte 92 = .ok (.getfield 21, 3) := by decide +kernel
theorem dX7_descriptorByte_95 : decode cX7_descriptorByte 95 = .ok (.sipush 255, 3) := by decide +kernel
theorem dX7_descriptorByte_98 : decode cX7_descriptorByte 98 = .ok (.iand, 1) := by decide +kernel
theorem dX7_descriptorByte_99 : decode cX7_descriptorByte 99 = .ok (.ireturn, 1) := by decide +kernel
theorem dX7_descriptorByte_100 : decode cX7_descriptorByte 100 = .ok (.aload_n 0, 1) := by decide +kernel
theorem dX7_descriptorByte_101 : decode cX7_descriptorByte 101 = .ok (.getfield 24, 3) := by decide +kernel
theorem dX7_descriptorByte_104 : decode cX7_descriptorByte 104 = .ok (.sipush 255, 3) := by decide +kernel
theorem dX7_descriptorByte_107 : decode cX7_descriptorByte 107 = .ok (.iand, 1) := by decide +kernel
theorem dX7_descriptorByte_108 : decode cX7_descriptorByte 108 = .ok (.ireturn, 1) := by decide +kernel
theorem dX7_descriptorByte_109 : decode cX7_descriptorByte 109 = .ok (.aload_n 0, 1) := by decide +kernel
theorem dX7_descriptorByte_110 : decode cX7_descriptorByte 110 = .ok (.getfield 21, 3) := by decide +kernel
theorem dX7_descriptorByte_113 : decode cX7_descriptorByte 113 = .ok (.bipush 8, 2) := by decide +kernel
theorem dX7_descriptorByte_115 : decode cX7_descriptorByte 115 = .ok (.ishr, 1) := by decide +kernel
theorem dX7_descriptorByte_116 : decode cX7_descriptorByte 116 = .ok (.bipush 15, 2) := by decide +kernel
theorem dX7_descriptorByte_118 : decode cX7_descriptorByte 118 = .ok (.iand, 1) := by decide +kernel
theorem dX7_descriptorByte_119 : decode cX7_descriptorByte 119 = .ok (.iconst 4, 1) := by decide +kernel
theorem dX7_descriptorByte_120 : decode cX7_descriptorByte 120 = .ok (.ishl, 1) := by decide +kernel
theorem dX7_descriptorByte_121 : decode cX7_descriptorByte 121 = .ok (.aload_n 0, 1) := by decide +kernel
theorem dX7_descriptorByte_122 : decode cX7_descriptorByte 122 = .ok (.getfield 24, 3) := by decide +kernel
theorem dX7_descriptorByte_125 : decode cX7_descriptorByte 125 = .ok (.bipush 8, 2) := by decide +kernel
theorem dX7_descriptorByte_127 : decode cX7_descriptorByte 127 = .ok (.ishr, 1) := by decide +kernel
theorem dX7_descriptorByte_128 : decode cX7_descriptorByte 128 = .ok (.bipush 15, 2) := by decide +kernel
theorem dX7_descriptorByte_130 : decode cX7_descriptorByte 130 = .ok (.iand, 1) := by decide +kernel
theorem dX7_descriptorByte_131 : decode cX7_descriptorByte 131 = .ok (.ior, 1) := by decide +kernel
theorem dX7_descriptorByte_132 : decode cX7_descriptorByte 132 = .ok (.ireturn, 1) := by decide +kernel
theorem dX7_descriptorByte_133 : decode cX7_descriptorByte 133 = .ok (.aload_n 0, 1) := by decide +kernel
theorem dX7_descriptorByte_134 : decode cX7_descriptorByte 134 = .ok (.getfield 27, 3) := by decide +kernel
theorem dX7_descriptorByte_137 : decode cX7_descriptorByte 137 = .ok (.sipush 255, 3) := by decide +kernel
theorem dX7_descriptorByte_140 : decode cX7_descriptorByte 140 = .ok (.iand, 1) := by decide +kernel
theorem dX7_descriptorByte_141 : decode cX7_descriptorByte 141 = .ok (.ireturn, 1) := by decide +kernel
theorem dX7_descriptorByte_142 : decode cX7_descriptorByte 142 = .ok (.aload_n 0, 1) := by decide +kernel
theorem dX7_descriptorByte_143 : decode cX7_descriptorByte 143 = .ok (.getfield 30, 3) := by decide +kernel
theorem dX7_descriptorByte_146 : decode cX7_descriptorByte 146 = .ok (.sipush 255, 3) := by decide +kernel
theorem dX7_descriptorByte_149 : decode cX7_descriptorByte 149 = .ok (.iand, 1) := by decide +kernel
theorem dX7_descriptorByte_150 : decode cX7_descriptorByte 150 = .ok (.ireturn, 1) := by decide +kernel
theorem dX7_descriptorByte_151 : decode cX7_descriptorByte 151 = .ok (.aload_n 0, 1) := by decide +kernel
theorem dX7_descriptorByte_152 : decode cX7_descriptorByte 152 = .ok (.getfield 27, 3) := by decide +kernel
theorem dX7_descriptorByte_155 : decode cX7_descriptorByte 155 = .ok (.bipush 8, 2) := by decide +kernel
theorem dX7_descriptorByte_157 : decode cX7_descriptorByte 157 = .ok (.ishr, 1) := by decide +kernel
theorem dX7_descriptorByte_158 : decode cX7_descriptorByte 158 = .ok (.bipush 15, 2) := by decide +kernel
theorem dX7_descriptorByte_160 : decode cX7_descriptorByte 160 = .ok (.iand, 1) := by decide +kernel
theorem dX7_descriptorByte_161 : decode cX7_descriptorByte 161 = .ok (.iconst 4, 1) := by decide +kernel
theorem dX7_descriptorByte_162 : decode cX7_descriptorByte 162 = .ok (.ishl, 1) := by decide +kernel
theorem dX7_descriptorByte_163 : decode cX7_descriptorByte 163 = .ok (.aload_n 0, 1) := by decide +kernel
theorem dX7_descriptorByte_164 : decode cX7_descriptorByte 164 = .ok (.getfield 30, 3) := by decide +kernel
theorem dX7_descriptorByte_167 : decode cX7_descriptorByte 167 = .ok (.bipush 8, 2) := by decide +kernel
theorem dX7_descriptorByte_169 : decode cX7_descriptorByte 169 = .ok (.ishr, 1) := by decide +kernel
theorem dX7_descriptorByte_170 : decode cX7_descriptorByte 170 = .ok (.bipush 15, 2) := by decide +kernel
theorem dX7_descriptorByte_172 : decode cX7_descriptorByte 172 = .ok (.iand, 1) := by decide +kernel
theorem dX7_descriptorByte_173 : decode cX7_descriptorByte 173 = .ok (.ior, 1) := by decide +kernel
theorem dX7_descriptorByte_174 : decode cX7_descriptorByte 174 = .ok (.ireturn, 1) := by decide +kernel
theorem dX7_descriptorByte_175 : decode cX7_descriptorByte 175 = .ok (.aload_n 0, 1) := by decide +kernel
theorem dX7_descriptorByte_176 : decode cX7_descriptorByte 176 = .ok (.getfield 33, 3) := by decide +kernel
theorem dX7_descriptorByte_179 : decode cX7_descriptorByte 179 = .ok (.sipush 255, 3) := by decide +kernel
theorem dX7_descriptorByte_182 : decode cX7_descriptorByte 182 = .ok (.iand, 1) := by decide +kernel
theorem dX7_descriptorByte_183 : decode cX7_descriptorByte 183 = .ok (.ireturn, 1) := by decide +kernel
theorem dX7_descriptorByte_184 : decode cX7_descriptorByte 184 = .ok (.aload_n 0, 1) := by decide +kernel
theorem dX7_descriptorByte_185 : decode cX7_descriptorByte 185 = .ok (.getfield 36, 3) := by decide +kernel
theorem dX7_descriptorByte_188 : decode cX7_descriptorByte 188 = .ok (.sipush 255, 3) := by decide +kernel
theorem dX7_descriptorByte_191 : decode cX7_descriptorByte 191 = .ok (.iand, 1) := by decide +kernel
theorem dX7_descriptorByte_192 : decode cX7_descriptorByte 192 = .ok (.ireturn, 1) := by decide +kernel
theorem dX7_descriptorByte_193 : decode cX7_descriptorByte 193 = .ok (.aload_n 0, 1) := by decide +kernel
theorem dX7_descriptorByte_194 : decode cX7_descriptorByte 194 = .ok (.getfield 39, 3) := by decide +kernel
theorem dX7_descriptorByte_197 : decode cX7_descriptorByte 197 = .ok (.bipush 15, 2) := by decide +kernel
theorem dX7_descriptorByte_199 : decode cX7_descriptorByte 199 = .ok (.iand, 1) := by decide +kernel
theorem dX7_descriptorByte_200 : decode cX7_descriptorByte 200 = .ok (.iconst 4, 1) := by decide +kernel
theorem dX7_descriptorByte_201 : decode cX7_descriptorByte 201 = .ok (.ishl, 1) := by decide +kernel
theorem dX7_descriptorByte_202 : decode cX7_descriptorByte 202 = .ok (.aload_n 0, 1) := by decide +kernel
theorem dX7_descriptorByte_203 : decode cX7_descriptorByte 203 = .ok (.getfield 42, 3) := by decide +kernel
theorem dX7_descriptorByte_206 : decode cX7_descriptorByte 206 = .ok (.bipush 15, 2) := by decide +kernel
theorem dX7_descriptorByte_208 : decode cX7_descriptorByte 208 = .ok (.iand, 1) := by decide +kernel
theorem dX7_descriptorByte_209 : decode cX7_descriptorByte 209 = .ok (.ior, 1) := by decide +kernel
theorem dX7_descriptorByte_210 : decode cX7_descriptorByte 210 = .ok (.ireturn, 1) := by decide +kernel
theorem dX7_descriptorByte_211 : decode cX7_descriptorByte 211 = .ok (.aload_n 0, 1) := by decide +kernel
theorem dX7_descriptorByte_212 : decode cX7_descriptorByte 212 = .ok (.getfield 33, 3) := by decide +kernel
theorem dX7_descriptorByte_215 : decode cX7_descriptorByte 215 = .ok (.bipush 8, 2) := by decide +kernel
theorem dX7_descriptorByte_217 : decode cX7_descriptorByte 217 = .ok (.ishr, 1) := by decide +kernel
theorem dX7_descriptorByte_218 : decode cX7_descriptorByte 218 = .ok (.iconst 3, 1) := by decide +kernel
theorem dX7_descriptorByte_219 : decode cX7_descriptorByte 219 = .ok (.iand, 1) := by decide +kernel
theorem dX7_descriptorByte_220 : decode cX7_descriptorByte 220 = .ok (.bipush 6, 2) := by decide +kernel
theorem dX7_descriptorByte_222 : decode cX7_descriptorByte 222 = .ok (.ishl, 1) := by decide +kernel
theorem dX7_descriptorByte_223 : decode cX7_descriptorByte 223 = .ok (.aload_n 0, 1) := by decide +kernel
theorem dX7_descriptorByte_224 : decode cX7_descriptorByte 224 = .ok (.getfield 36, 3) := by decide +kernel
theorem dX7_descriptorByte_227 : decode cX7_descriptorByte 227 = .ok (.bipush 8, 2) := by decide +kernel
theorem dX7_descriptorByte_229 : decode cX7_descriptorByte 229 = .ok (.ishr, 1) := by decide +kernel
theorem dX7_descriptorByte_230 : decode cX7_descriptorByte 230 = .ok (.iconst 3, 1) := by decide +kernel
theorem dX7_descriptorByte_231 : decode cX7_descriptorByte 231 = .ok (.iand, 1) := by decide +kernel
theorem dX7_descriptorByte_232 : decode cX7_descriptorByte 232 = .ok (.iconst 4, 1) := by decide +kernel
theorem dX7_descriptorByte_233 : decode cX7_descriptorByte 233 = .ok (.ishl, 1) := by decide +kernel
theorem dX7_descriptorByte_234 : decode cX7_descriptorByte 234 = .ok (.ior, 1) := by decide +kernel
theorem dX7_descriptorByte_235 : decode cX7_descriptorByte 235 = .ok (.aload_n 0, 1) := by decide +kernel
theorem dX7_descriptorByte_236 : decode cX7_descriptorByte 236 = .ok (.getfield 39, 3) := by decide +kernel
theorem dX7_descriptorByte_239 : decode cX7_descriptorByte 239 = .ok (.iconst 4, 1) := by decide +kernel
theorem dX7_descriptorByte_240 : decode cX7_descriptorByte 240 = .ok (.ishr, 1) := by decide +kernel
theorem dX7_descriptorByte_241 : decode cX7_descriptorByte 241 = .ok (.iconst 3, 1) := by decide +kernel
theorem dX7_descriptorByte_242 : decode cX7_descriptorByte 242 = .ok (.iand, 1) := by decide +kernel
theorem dX7_descriptorByte_243 : decode cX7_descriptorByte 243 = .ok (.iconst 2, 1) := by decide +kernel
theorem dX7_descriptorByte_244 : decode cX7_descriptorByte 244 = .ok (.ishl, 1) := by decide +kernel
theorem dX7_descriptorByte_245 : decode cX7_descriptorByte 245 = .ok (.ior, 1) := by decide +kernel
theorem dX7_descriptorByte_246 : decode cX7_descriptorByte 246 = .ok (.aload_n 0, 1) := by decide +kernel
theorem dX7_descriptorByte_247 : decode cX7_descriptorByte 247 = .ok (.getfield 42, 3) := by decide +kernel
theorem dX7_descriptorByte_250 : decode cX7_descriptorByte 250 = .ok (.iconst 4, 1) := by decide +kernel
theorem dX7_descriptorByte_251 : decode cX7_descriptorByte 251 = .ok (.ishr, 1) := by decide +kernel
theorem dX7_descriptorByte_252 : decode cX7_descriptorByte 252 = .ok (.iconst 3, 1) := by decide +kernel
theorem dX7_descriptorByte_253 : decode cX7_descriptorByte 253 = .ok (.iand, 1) := by decide +kernel
theorem dX7_descriptorByte_254 : decode cX7_descriptorByte 254 = .ok (.ior, 1) := by decide +kernel
theorem dX7_descriptorByte_255 : decode cX7_descriptorByte 255 = .ok (.ireturn, 1) := by decide +kernel
theorem dX7_descriptorByte_256 : decode cX7_descriptorByte 256 = .ok (.iconst 0, 1) := by decide +kernel
theorem dX7_descriptorByte_257 : decode cX7_descriptorByte 257 = .ok (.ireturn, 1) := by decide +kernel
theorem dX7_draw_0 : decode cX7_draw 0 = .ok (.aload_n 0, 1) := by decide +kernel
theorem dX7_draw_1 : decode cX7_draw 1 = .ok (.iconst 0, 1) := by decide +kernel
theorem dX7_draw_2 : decode cX7_draw 2 = .ok (.putfield 45, 3) := by decide +kernel
theorem dX7_draw_5 : decode cX7_draw 5 = .ok (.aload_n 0, 1) := by decide +kernel
theorem dX7_draw_6 : decode cX7_draw 6 = .ok (.iload_n 3, 1) := by decide +kernel
theorem dX7_draw_7 : decode cX7_draw 7 = .ok (.putfield 27, 3) := by decide +kernel
theorem dX7_draw_10 : decode cX7_draw 10 = .ok (.aload_n 0, 1) := by decide +kernel
theorem dX7_draw_11 : decode cX7_draw 11 = .ok (.bipush 32, 2) := by decide +kernel
theorem dX7_draw_13 : decode cX7_draw 13 = .ok (.putfield 36, 3) := by decide +kernel
theorem dX7_draw_16 : decode cX7_draw 16 = .ok (.iload_n 3, 1) := by decide +kernel
theorem dX7_draw_17 : decode cX7_draw 17 = .ok (.iload 4, 2) := by decide +kernel
theorem dX7_draw_19 : decode cX7_draw 19 = .ok (.invokestatic 49, 3) := by decide +kernel
theorem dX7_draw_22 : decode cX7_draw 22 = .ok (.istore 5, 2) := by decide +kernel
theorem dX7_draw_24 : decode cX7_draw 24 = .ok (.iload_n 1, 1) := by decide +kernel
theorem dX7_draw_25 : decode cX7_draw 25 = .ok (.ifCond .ne 84, 3) := by decide +kernel
theorem dX7_draw_28 : decode cX7_draw 28 = .ok (.aload_n 0, 1) := by decide +kernel
theorem dX7_draw_29 : decode cX7_draw 29 = .ok (.iload_n 2, 1) := by decide +kernel
theorem dX7_draw_30 : decode cX7_draw 30 = .ok (.bipush 8, 2) := by decide +kernel
theorem dX7_draw_32 : decode cX7_draw 32 = .ok (.idiv, 1) := by decide +kernel
theorem dX7_draw_33 : decode cX7_draw 33 = .ok (.bipush 8, 2) := by decide +kernel
theorem dX7_draw_35 : decode cX7_draw 35 = .ok (.imul, 1) := by decide +kernel
theorem dX7_draw_36 : decode cX7_draw 36 = .ok (.putfield 21, 3) := by decide +kernel
theorem dX7_draw_39 : decode cX7_draw 39 = .ok (.aload_n 0, 1) := by decide +kernel
theorem dX7_draw_40 : decode cX7_draw 40 = .ok (.sipush 160, 3) := by decide +kernel
theorem dX7_draw_43 : decode cX7_draw 43 = .ok (.putfield 24, 3) := by decide +kernel
theorem dX7_draw_46 : decode cX7_draw 46 = .ok (.aload_n 0, 1) := by decide +kernel
theorem dX7_draw_47 : decode cX7_draw 47 = .ok (.bipush 48, 2) := by decide +kernel
theorem dX7_draw_49 : decode cX7_draw 49 = .ok (.putfield 33, 3) := by decide +kernel
theorem dX7_draw_52 : decode cX7_draw 52 = .ok (.aload_n 0, 1) := by decide +kernel
theorem dX7_draw_53 : decode cX7_draw 53 = .ok (.iconst 3, 1) := by decide +kernel
theorem dX7_draw_54 : decode cX7_draw 54 = .ok (.putfield 39, 3) := by decide +kernel
theorem dX7_draw_57 : decode cX7_draw 57 = .ok (.aload_n 0, 1) := by decide +kernel
theorem dX7_draw_58 : decode cX7_draw 58 = .ok (.aload_n 0, 1) := by decide +kernel
theorem dX7_draw_59 : decode cX7_draw 59 = .ok (.getfield 21, 3) := by decide +kernel
theorem dX7_draw_62 : decode cX7_draw 62 = .ok (.iload_n 3, 1) := by decide +kernel
theorem dX7_draw_63 : decode cX7_draw 63 = .ok (.invokestatic 53, 3) := by decide +kernel
theorem dX7_draw_66 : decode cX7_draw 66 = .ok (.putfield 42, 3) := by decide +kernel
theorem dX7_draw_69 : decode cX7_draw 69 = .ok (.aload_n 0, 1) := by decide +kernel
theorem dX7_draw_70 : decode cX7_draw 70 = .ok (.iload 5, 2) := by decide +kernel
theorem dX7_draw_72 : decode cX7_draw 72 = .ok (.aload_n 0, 1) := by decide +kernel
theorem dX7_draw_73 : decode cX7_draw 73 = .ok (.getfield 42, 3) := by decide +kernel
theorem dX7_draw_76 : decode cX7_draw 76 = .ok (.bipush 9, 2) := by decide +kernel
theorem dX7_draw_78 : decode cX7_draw 78 = .ok (.iadd, 1) := by decide +kernel
theorem dX7_draw_79 : decode cX7_draw 79 = .ok (.invokestatic 56, 3) := by decide +kernel
theorem dX7_draw_82 : decode cX7_draw 82 = .ok (.putfield 30, 3) := by decide +kernel
theorem dX7_draw_85 : decode cX7_draw 85 = .ok (.aload_n 0, 1) := by decide +kernel
theorem dX7_draw_86 : decode cX7_draw 86 = .ok (.iload 4, 2) := by decide +kernel
theorem dX7_draw_88 : decode cX7_draw 88 = .ok (.i2l, 1) := by decide +kernel
theorem dX7_draw_89 : decode cX7_draw 89 = .ok (.aload_n 0, 1) := by decide +kernel
theorem dX7_draw_90 : decode cX7_draw 90 = .ok (.invokevirtual 61, 3) := by decide +kernel
theorem dX7_draw_93 : decode cX7_draw 93 = .ok (.lmul, 1) := by decide +kernel
theorem dX7_draw_94 : decode cX7_draw 94 = .ok (.ldc2_w 65, 3) := by decide +kernel
theorem dX7_draw_97 : decode cX7_draw 97 = .ok (.ldiv, 1) := by decide +kernel
theorem dX7_draw_98 : decode cX7_draw 98 = .ok (.l2i, 1) := by decide +kernel
theorem dX7_draw_99 : decode cX7_draw 99 = .ok (.sipush 250, 3) := by decide +kernel
theorem dX7_draw_102 : decode cX7_draw 102 = .ok (.imul, 1) := by decide +kernel
theorem dX7_draw_103 : decode cX7_draw 103 = .ok (.putfield 15, 3) := by decide +kernel
theorem dX7_draw_106 : decode cX7_draw 106 = .ok (.goto 65, 3) := by decide +kernel
theorem dX7_draw_109 : decode cX7_draw 109 = .ok (.aload_n 0, 1) := by decide +kernel
theorem dX7_draw_110 : decode cX7_draw 110 = .ok (.iload_n 2, 1) := by decide +kernel
theorem dX7_draw_111 : decode cX7_draw 111 = .ok (.putfield 21, 3) := by decide +kernel
theorem dX7_draw_114 : decode cX7_draw 114 = .ok (.aload_n 0, 1) := by decide +kernel
theorem dX7_draw_115 : decode cX7_draw 115 = .ok (.bipush 80, 2) := by decide +kernel
theorem dX7_draw_117 : decode cX7_draw 117 = .ok (.putfield 24, 3) := by decide +kernel
theorem dX7_draw_120 : decode cX7_draw 120 = .ok (.aload_n 0, 1) := by decide +kernel
theorem dX7_draw_121 : decode cX7_draw 121 = .ok (.bipush 8, 2) := by decide +kernel
theorem dX7_draw_123 : decode cX7_draw 123 = .ok (.putfield 33, 3) := by decide +kernel
theorem dX7_draw_126 : decode cX7_draw 126 = .ok (.aload_n 0, 1) := by decide +kernel
theorem dX7_draw_127 : decode cX7_draw 127 = .ok (.bipush 8, 2) := by decide +kernel
theorem dX7_draw_129 : decode cX7_draw 129 = .ok (.putfield 42, 3) := by decide +kernel
theorem dX7_draw_132 : decode cX7_draw 132 = .ok (.aload_n 0, 1) := by decide +kernel
theorem dX7_draw_133 : decode cX7_draw 133 = .ok (.iload 5, 2) := by decide +kernel
theorem dX7_draw_135 : decode cX7_draw 135 = .ok (.bipush 15, 2) := by decide +kernel
theorem dX7_draw_137 : decode cX7_draw 137 = .ok (.invokestatic 56, 3) := by decide +kernel
theorem dX7_draw_140 : decode cX7_draw 140 = .ok (.putfield 30, 3) := by decide +kernel
theorem dX7_draw_143 : decode cX7_draw 143 = .ok (.aload_n 0, 1) := by decide +kernel
theorem dX7_draw_144 : decode cX7_draw 144 = .ok (.aload_n 0, 1) := by decide +kernel
theorem dX7_draw_145 : decode cX7_draw 145 = .ok (.getfield 30, 3) := by decide +kernel
theorem dX7_draw_148 : decode cX7_draw 148 = .ok (.bipush 14, 2) := by decide +kernel
theorem dX7_draw_150 : decode cX7_draw 150 = .ok (.isub, 1) := by decide +kernel
theorem dX7_draw_151 : decode cX7_draw 151 = .ok (.putfield 39, 3) := by decide +kernel
theorem dX7_draw_154 : decode cX7_draw 154 = .ok (.aload_n 0, 1) := by decide +kernel
theorem dX7_draw_155 : decode cX7_draw 155 = .ok (.iload 4, 2) := by decide +kernel
theorem dX7_draw_157 : decode cX7_draw 157 = .ok (.i2l, 1) := by decide +kernel
theorem dX7_draw_158 : decode cX7_draw 158 = .ok (.aload_n 0, 1) := by decide +kernel
theorem dX7_draw_159 : decode cX7_draw 159 = .ok (.invokevirtual 61, 3) := by decide +kernel
theorem dX7_draw_162 : decode cX7_draw 162 = .ok (.lmul, 1) := by decide +kernel
theorem dX7_draw_163 : decode cX7_draw 163 = .ok (.ldc2_w 67, 3) := by decide +kernel
theorem dX7_draw_166 : decode cX7_draw 166 = .ok (.ldiv, 1) := by decide +kernel
theorem dX7_draw_167 : decode cX7_draw 167 = .ok (.l2i, 1) := by decide +kernel
theorem dX7_draw_168 : decode cX7_draw 168 = .ok (.putfield 15, 3) := by decide +kernel
theorem dX7_draw_171 : decode cX7_draw 171 = .ok (.return_, 1) := by decide +kernel
theorem dX7_blankLines_0 : decode cX7_blankLines 0 = .ok (.ldc2_w 69, 3) := by decide +kernel
theorem dX7_blankLines_3 : decode cX7_blankLines 3 = .ok (.ldc2_w 71, 3) := by decide +kernel
theorem dX7_blankLines_6 : decode cX7_blankLines 6 = .ok (.iload_n 1, 1) := by decide +kernel
theorem dX7_blankLines_7 : decode cX7_blankLines 7 = .ok (.i2l, 1) := by decide +kernel
theorem dX7_blankLines_8 : decode cX7_blankLines 8 = .ok (.lmul, 1) := by decide +kernel
theorem dX7_blankLines_9 : decode cX7_blankLines 9 = .ok (.lsub, 1) := by decide +kernel
theorem dX7_blankLines_10 : decode cX7_blankLines 10 = .ok (.lstore_n 2, 1) := by decide +kernel
theorem dX7_blankLines_11 : decode cX7_blankLines 11 = .ok (.lload_n 2, 1) := by decide +kernel
theorem dX7_blankLines_12 : decode cX7_blankLines 12 = .ok (.lconst 0, 1) := by decide +kernel
theorem dX7_blankLines_13 : decode cX7_blankLines 13 = .ok (.lcmp, 1) := by decide +kernel
theorem dX7_blankLines_14 : decode cX7_blankLines 14 = .ok (.ifCond .le 20, 3) := by decide +kernel
theorem dX7_blankLines_17 : decode cX7_blankLines 17 = .ok (.ldc2_w 71, 3) := by decide +kernel
theorem dX7_blankLines_20 : decode cX7_blankLines 20 = .ok (.iload_n 0, 1) := by decide +kernel
theorem dX7_blankLines_21 : decode cX7_blankLines 21 = .ok (.i2l, 1) := by decide +kernel
theorem dX7_blankLines_22 : decode cX7_blankLines 22 = .ok (.lmul, 1) := by decide +kernel
theorem dX7_blankLines_23 : decode cX7_blankLines 23 = .ok (.iload_n 1, 1) := by decide +kernel
theorem dX7_blankLines_24 : decode cX7_blankLines 24 = .ok (.i2l, 1) := by decide +kernel
theorem dX7_blankLines_25 : decode cX7_blankLines 25 = .ok (.lmul, 1) := by decide +kernel
theorem dX7_blankLines_26 : decode cX7_blankLines 26 = .ok (.lload_n 2, 1) := by decide +kernel
theorem dX7_blankLines_27 : decode cX7_blankLines 27 = .ok (.ldiv, 1) := by decide +kernel
theorem dX7_blankLines_28 : decode cX7_blankLines 28 = .ok (.l2i, 1) := by decide +kernel
theorem dX7_blankLines_29 : decode cX7_blankLines 29 = .ok (.iconst 1, 1) := by decide +kernel
theorem dX7_blankLines_30 : decode cX7_blankLines 30 = .ok (.iadd, 1) := by decide +kernel
theorem dX7_blankLines_31 : decode cX7_blankLines 31 = .ok (.goto 4, 3) := by decide +kernel
theorem dX7_blankLines_34 : decode cX7_blankLines 34 = .ok (.iconst 0, 1) := by decide +kernel
theorem dX7_blankLines_35 : decode cX7_blankLines 35 = .ok (.ireturn, 1) := by decide +kernel
theorem dX7_plainSync_0 : decode cX7_plainSync 0 = .ok (.iload_n 0, 1) := by decide +kernel
theorem dX7_plainSync_1 : decode cX7_plainSync 1 = .ok (.iload_n 1, 1) := by decide +kernel
theorem dX7_plainSync_2 : decode cX7_plainSync 2 = .ok (.iconst 4, 1) := by decide +kernel
theorem dX7_plainSync_3 : decode cX7_plainSync 3 = .ok (.imul, 1) := by decide +kernel
theorem dX7_plainSync_4 : decode cX7_plainSync 4 = .ok (.bipush 24, 2) := by decide +kernel
theorem dX7_plainSync_6 : decode cX7_plainSync 6 = .ok (.idiv, 1) := by decide +kernel
theorem dX7_plainSync_7 : decode cX7_plainSync 7 = .ok (.bipush 8, 2) := by decide +kernel
theorem dX7_plainSync_9 : decode cX7_plainSync 9 = .ok (.imul, 1) := by decide +kernel
theorem dX7_plainSync_10 : decode cX7_plainSync 10 = .ok (.if_icmp .ne 5, 3) := by decide +kernel
theorem dX7_plainSync_13 : decode cX7_plainSync 13 = .ok (.iconst 4, 1) := by decide +kernel
theorem dX7_plainSync_14 : decode cX7_plainSync 14 = .ok (.ireturn, 1) := by decide +kernel
theorem dX7_plainSync_15 : decode cX7_plainSync 15 = .ok (.iload_n 0, 1) := by decide +kernel
theorem dX7_plainSync_16 : decode cX7_plainSync 16 = .ok (.iload_n 1, 1) := by decide +kernel
theorem dX7_plainSync_17 : decode cX7_plainSync 17 = .ok (.bipush 16, 2) := by decide +kernel
theorem dX7_plainSync_19 : decode cX7_plainSync 19 = .ok (.imul, 1) := by decide +kernel
theorem dX7_plainSync_20 : decode cX7_plainSync 20 = .ok (.bipush 72, 2) := by decide +kernel
theorem dX7_plainSync_22 : decode cX7_plainSync 22 = .ok (.idiv, 1) := by decide +kernel
theorem dX7_plainSync_23 : decode cX7_plainSync 23 = .ok (.bipush 8, 2) := by decide +kernel
theorem dX7_plainSync_25 : decode cX7_plainSync 25 = .ok (.imul, 1) := by decide +kernel
theorem dX7_plainSync_26 : decode cX7_plainSync 26 = .ok (.if_icmp .ne 5, 3) := by decide +kernel
theorem dX7_plainSync_29 : decode cX7_plainSync 29 = .ok (.iconst 5, 1) := by decide +kernel
theorem dX7_plainSync_30 : decode cX7_plainSync 30 = .ok (.ireturn, 1) := by decide +kernel
theorem dX7_plainSync_31 : decode cX7_plainSync 31 = .ok (.iload_n 0, 1) := by decide +kernel
theorem dX7_plainSync_32 : decode cX7_plainSync 32 = .ok (.iload_n 1, 1) := by decide +kernel
theorem dX7_plainSync_33 : decode cX7_plainSync 33 = .ok (.bipush 16, 2) := by decide +kernel
theorem dX7_plainSync_35 : decode cX7_plainSync 35 = .ok (.imul, 1) := by decide +kernel
theorem dX7_plainSync_36 : decode cX7_plainSync 36 = .ok (.bipush 80, 2) := by decide +kernel
theorem dX7_plainSync_38 : decode cX7_plainSync 38 = .ok (.idiv, 1) := by decide +kernel
theorem dX7_plainSync_39 : decode cX7_plainSync 39 = .ok (.bipush 8, 2) := by decide +kernel
theorem dX7_plainSync_41 : decode cX7_plainSync 41 = .ok (.imul, 1) := by decide +kernel
theorem dX7_plainSync_42 : decode cX7_plainSync 42 = .ok (.if_icmp .ne 6, 3) := by decide +kernel
theorem dX7_plainSync_45 : decode cX7_plainSync 45 = .ok (.bipush 6, 2) := by decide +kernel
theorem dX7_plainSync_47 : decode cX7_plainSync 47 = .ok (.ireturn, 1) := by decide +kernel
theorem dX7_plainSync_48 : decode cX7_plainSync 48 = .ok (.iload_n 0, 1) := by decide +kernel
theorem dX7_plainSync_49 : decode cX7_plainSync 49 = .ok (.iload_n 1, 1) := by decide +kernel
theorem dX7_plainSync_50 : decode cX7_plainSync 50 = .ok (.iconst 5, 1) := by decide +kernel
theorem dX7_plainSync_51 : decode cX7_plainSync 51 = .ok (.imul, 1) := by decide +kernel
theorem dX7_plainSync_52 : decode cX7_plainSync 52 = .ok (.bipush 32, 2) := by decide +kernel
theorem dX7_plainSync_54 : decode cX7_plainSync 54 = .ok (.idiv, 1) := by decide +kernel
theorem dX7_plainSync_55 : decode cX7_plainSync 55 = .ok (.bipush 8, 2) := by decide +kernel
theorem dX7_plainSync_57 : decode cX7_plainSync 57 = .ok (.imul, 1) := by decide +kernel
theorem dX7_plainSync_58 : decode cX7_plainSync 58 = .ok (.if_icmp .eq 17, 3) := by decide +kernel
theorem dX7_plainSync_61 : decode cX7_plainSync 61 = .ok (.iload_n 0, 1) := by decide +kernel
theorem dX7_plainSync_62 : decode cX7_plainSync 62 = .ok (.iload_n 1, 1) := by decide +kernel
theorem dX7_plainSync_63 : decode cX7_plainSync 63 = .ok (.bipush 15, 2) := by decide +kernel
theorem dX7_plainSync_65 : decode cX7_plainSync 65 = .ok (.imul, 1) := by decide +kernel
theorem dX7_plainSync_66 : decode cX7_plainSync 66 = .ok (.bipush 72, 2) := by decide +kernel
theorem dX7_plainSync_68 : decode cX7_plainSync 68 = .ok (.idiv, 1) := by decide +kernel
theorem dX7_plainSync_69 : decode cX7_plainSync 69 = .ok (.bipush 8, 2) := by decide +kernel
theorem dX7_plainSync_71 : decode cX7_plainSync 71 = .ok (.imul, 1) := by decide +kernel
theorem dX7_plainSync_72 : decode cX7_plainSync 72 = .ok (.if_icmp .ne 8, 3) := by decide +kernel
theorem dX7_plainSync_75 : decode cX7_plainSync 75 = .ok (.bipush 7, 2) := by decide +kernel
theorem dX7_plainSync_77 : decode cX7_plainSync 77 = .ok (.goto 5, 3) := by decide +kernel
theorem dX7_plainSync_80 : decode cX7_plainSync 80 = .ok (.bipush 10, 2) := by decide +kernel
theorem dX7_plainSync_82 : decode cX7_plainSync 82 = .ok (.ireturn, 1) := by decide +kernel
theorem dX7_copy_0 : decode cX7_copy 0 = .ok (.aload_n 0, 1) := by decide +kernel
theorem dX7_copy_1 : decode cX7_copy 1 = .ok (.aload_n 1, 1) := by decide +kernel
theorem dX7_copy_2 : decode cX7_copy 2 = .ok (.getfield 15, 3) := by decide +kernel
theorem dX7_copy_5 : decode cX7_copy 5 = .ok (.putfield 15, 3) := by decide +kernel
theorem dX7_copy_8 : decode cX7_copy 8 = .ok (.aload_n 0, 1) := by decide +kernel
theorem dX7_copy_9 : decode cX7_copy 9 = .ok (.aload_n 1, 1) := by decide +kernel
theorem dX7_copy_10 : decode cX7_copy 10 = .ok (.getfield 21, 3) := by decide +kernel
theorem dX7_copy_13 : decode cX7_copy 13 = .ok (.putfield 21, 3) := by decide +kernel
theorem dX7_copy_16 : decode cX7_copy 16 = .ok (.aload_n 0, 1) := by decide +kernel
theorem dX7_copy_17 : decode cX7_copy 17 = .ok (.aload_n 1, 1) := by decide +kernel
theorem dX7_copy_18 : decode cX7_copy 18 = .ok (.getfield 24, 3) := by decide +kernel
theorem dX7_copy_21 : decode cX7_copy 21 = .ok (.putfield 24, 3) := by decide +kernel
theorem dX7_copy_24 : decode cX7_copy 24 = .ok (.aload_n 0, 1) := by decide +kernel
theorem dX7_copy_25 : decode cX7_copy 25 = .ok (.aload_n 1, 1) := by decide +kernel
theorem dX7_copy_26 : decode cX7_copy 26 = .ok (.getfield 33, 3) := by decide +kernel
theorem dX7_copy_29 : decode cX7_copy 29 = .ok (.putfield 33, 3) := by decide +kernel
theorem dX7_copy_32 : decode cX7_copy 32 = .ok (.aload_n 0, 1) := by decide +kernel
theorem dX7_copy_33 : decode cX7_copy 33 = .ok (.aload_n 1, 1) := by decide +kernel
theorem dX7_copy_34 : decode cX7_copy 34 = .ok (.getfield 36, 3) := by decide +kernel
theorem dX7_copy_37 : decode cX7_copy 37 = .ok (.putfield 36, 3) := by decide +kernel
theorem dX7_copy_40 : decode cX7_copy 40 = .ok (.aload_n 0, 1) := by decide +kernel
theorem dX7_copy_41 : decode cX7_copy 41 = .ok (.aload_n 1, 1) := by decide +kernel
theorem dX7_copy_42 : decode cX7_copy 42 = .ok (.getfield 27, 3) := by decide +kernel
theorem dX7_copy_45 : decode cX7_copy 45 = .ok (.putfield 27, 3) := by decide +kernel
theorem dX7_copy_48 : decode cX7_copy 48 = .ok (.aload_n 0, 1) := by decide +kernel
theorem dX7_copy_49 : decode cX7_copy 49 = .ok (.aload_n 1, 1) := by decide +kernel
theorem dX7_copy_50 : decode cX7_copy 50 = .ok (.getfield 30, 3) := by decide +kernel
theorem dX7_copy_53 : decode cX7_copy 53 = .ok (.putfield 30, 3) := by decide +kernel
theorem dX7_copy_56 : decode cX7_copy 56 = .ok (.aload_n 0, 1) := by decide +kernel
theorem dX7_copy_57 : decode cX7_copy 57 = .ok (.aload_n 1, 1) := by decide +kernel
theorem dX7_copy_58 : decode cX7_copy 58 = .ok (.getfield 39, 3) := by decide +kernel
theorem dX7_copy_61 : decode cX7_copy 61 = .ok (.putfield 39, 3) := by decide +kernel
theorem dX7_copy_64 : decode cX7_copy 64 = .ok (.aload_n 0, 1) := by decide +kernel
theorem dX7_copy_65 : decode cX7_copy 65 = .ok (.aload_n 1, 1) := by decide +kernel
theorem dX7_copy_66 : decode cX7_copy 66 = .ok (.getfield 42, 3) := by decide +kernel
theorem dX7_copy_69 : decode cX7_copy 69 = .ok (.putfield 42, 3) := by decide +kernel
theorem dX7_copy_72 : decode cX7_copy 72 = .ok (.aload_n 0, 1) := by decide +kernel
theorem dX7_copy_73 : decode cX7_copy 73 = .ok (.aload_n 1, 1) := by decide +kernel
theorem dX7_copy_74 : decode cX7_copy 74 = .ok (.getfield 45, 3) := by decide +kernel
theorem dX7_copy_77 : decode cX7_copy 77 = .ok (.putfield 45, 3) := by decide +kernel
theorem dX7_copy_80 : decode cX7_copy 80 = .ok (.return_, 1) := by decide +kernel
theorem dX7_setByTable_0 : decode cX7_setByTable 0 = .ok (.iload_n 1, 1) := by decide +kernel
theorem dX7_setByTable_1 : decode cX7_setByTable 1 = .ok (.ifCond .lt 14, 3) := by decide +kernel
theorem dX7_setByTable_4 : decode cX7_setByTable 4 = .ok (.iload_n 1, 1) := by decide +kernel
theorem dX7_setByTable_5 : decode cX7_setByTable 5 = .ok (.bipush 6, 2) := by decide +kernel
theorem dX7_setByTable_7 : decode cX7_setByTable 7 = .ok (.iadd, 1) := by decide +kernel
theorem dX7_setByTable_8 : decode cX7_setByTable 8 = .ok (.getstatic 73, 3) := by decide +kernel
theorem dX7_setByTable_11 : decode cX7_setByTable 11 = .ok (.arraylength, 1) := by decide +kernel
theorem dX7_setByTable_12 : decode cX7_setByTable 12 = .ok (.if_icmp .le 4, 3) := by decide +kernel
theorem dX7_setByTable_15 : decode cX7_setByTable 15 = .ok (.return_, 1) := by decide +kernel
theorem dX7_setByTable_16 : decode cX7_setByTable 16 = .ok (.aload_n 0, 1) := by decide +kernel
theorem dX7_setByTable_17 : decode cX7_setByTable 17 = .ok (.getstatic 73, 3) := by decide +kernel
theorem dX7_setByTable_20 : decode cX7_setByTable 20 = .ok (.iload_n 1, 1) := by decide +kernel
theorem dX7_setByTable_21 : decode cX7_setByTable 21 = .ok (.iconst 1, 1) := by decide +kernel
theorem dX7_setByTable_22 : decode cX7_setByTable 22 = .ok (.iadd, 1) := by decide +kernel
theorem dX7_setByTable_23 : decode cX7_setByTable 23 = .ok (.iaload, 1) := by decide +kernel
theorem dX7_setByTable_24 : decode cX7_setByTable 24 = .ok (.putfield 21, 3) := by decide +kernel
theorem dX7_setByTable_27 : decode cX7_setByTable 27 = .ok (.aload_n 0, 1) := by decide +kernel
theorem dX7_setByTable_28 : decode cX7_setByTable 28 = .ok (.getstatic 73, 3) := by decide +kernel
theorem dX7_setByTable_31 : decode cX7_setByTable 31 = .ok (.iload_n 1, 1) := by decide +kernel
theorem dX7_setByTable_32 : decode cX7_setByTable 32 = .ok (.iconst 2, 1) := by decide +kernel
theorem dX7_setByTable_33 : decode cX7_setByTable 33 = .ok (.iadd, 1) := by decide +kernel
theorem dX7_setByTable_34 : decode cX7_setByTable 34 = .ok (.iaload, 1) := by decide +kernel
theorem dX7_setByTable_35 : decode cX7_setByTable 35 = .ok (.putfield 27, 3) := by decide +kernel
theorem dX7_setByTable_38 : decode cX7_setByTable 38 = .ok (.aload_n 0, 1) := by decide +kernel
theorem dX7_setByTable_39 : decode cX7_setByTable 39 = .ok (.getstatic 73, 3) := by decide +kernel
theorem dX7_setByTable_42 : decode cX7_setByTable 42 = .ok (.iload_n 1, 1) := by decide +kernel
theorem dX7_setByTable_43 : decode cX7_setByTable 43 = .ok (.iconst 3, 1) := by decide +kernel
theorem dX7_setByTable_44 : decode cX7_setByTable 44 = .ok (.iadd, 1) := by decide +kernel
theorem dX7_setByTable_45 : decode cX7_setByTable 45 = .ok (.iaload, 1) := by decide +kernel
theorem dX7_setByTable_46 : decode cX7_setByTable 46 = .ok (.aload_n 0, 1) := by decide +kernel
theorem dX7_setByTable_47 : decode cX7_setByTable 47 = .ok (.getfield 21, 3) := by decide +kernel
theorem dX7_setByTable_50 : decode cX7_setByTable 50 = .ok (.isub, 1) := by decide +kernel
theorem dX7_setByTable_51 : decode cX7_setByTable 51 = .ok (.putfield 24, 3) := by decide +kernel
theorem dX7_setByTable_54 : decode cX7_setByTable 54 = .ok (.aload_n 0, 1) := by decide +kernel
theorem dX7_setByTable_55 : decode cX7_setByTable 55 = .ok (.getstatic 73, 3) := by decide +kernel
theorem dX7_setByTable_58 : decode cX7_setByTable 58 = .ok (.iload_n 1, 1) := by decide +kernel
theorem dX7_setByTable_59 : decode cX7_setByTable 59 = .ok (.iconst 4, 1) := by decide +kernel
theorem dX7_setByTable_60 : decode cX7_setByTable 60 = .ok (.iadd, 1) := by decide +kernel
theorem dX7_setByTable_61 : decode cX7_setByTable 61 = .ok (.iaload, 1) := by decide +kernel
theorem dX7_setByTable_62 : decode cX7_setByTable 62 = .ok (.aload_n 0, 1) := by decide +kernel
theorem dX7_setByTable_63 : decode cX7_setByTable 63 = .ok (.getfield 27, 3) := by decide +kernel
theorem dX7_setByTable_66 : decode cX7_setByTable 66 = .ok (.isub, 1) := by decide +kernel
theorem dX7_setByTable_67 : decode cX7_setByTable 67 = .ok (.putfield 30, 3) := by decide +kernel
theorem dX7_setByTable_70 : decode cX7_setByTable 70 = .ok (.aload_n 0, 1) := by decide +kernel
theorem dX7_setByTable_71 : decode cX7_setByTable 71 = .ok (.getstatic 73, 3) := by decide +kernel
theorem dX7_setByTable_74 : decode cX7_setByTable 74 = .ok (.iload_n 1, 1) := by decide +kernel
theorem dX7_setByTable_75 : decode cX7_setByTable 75 = .ok (.iconst 5, 1) := by decide +kernel
theorem dX7_setByTable_76 : decode cX7_setByTable 76 = .ok (.iadd, 1) := by decide +kernel
theorem dX7_setByTable_77 : decode cX7_setByTable 77 = .ok (.iaload, 1) := by decide +kernel
theorem dX7_setByTable_78 : decode cX7_setByTable 78 = .ok (.putfield 15, 3) := by decide +kernel
theorem dX7_setByTable_81 : decode cX7_setByTable 81 = .ok (.aload_n 0, 1) := by decide +kernel
theorem dX7_setByTable_82 : decode cX7_setByTable 82 = .ok (.iconst 0, 1) := by decide +kernel
theorem dX7_setByTable_83 : decode cX7_setByTable 83 = .ok (.putfield 33, 3) := by decide +kernel
theorem dX7_setByTable_86 : decode cX7_setByTable 86 = .ok (.aload_n 0, 1) := by decide +kernel
theorem dX7_setByTable_87 : decode cX7_setByTable 87 = .ok (.iconst 0, 1) := by decide +kernel
theorem dX7_setByTable_88 : decode cX7_setByTable 88 = .ok (.putfield 36, 3) := by decide +kernel
theorem dX7_setByTable_91 : decode cX7_setByTable 91 = .ok (.aload_n 0, 1) := by decide +kernel
theorem dX7_setByTable_92 : decode cX7_setByTable 92 = .ok (.iconst 0, 1) := by decide +kernel
theorem dX7_setByTable_93 : decode cX7_setByTable 93 = .ok (.putfield 39, 3) := by decide +kernel
theorem dX7_setByTable_96 : decode cX7_setByTable 96 = .ok (.aload_n 0, 1) := by decide +kernel
theorem dX7_setByTable_97 : decode cX7_setByTable 97 = .ok (.iconst 0, 1) := by decide +kernel
theorem dX7_setByTable_98 : decode cX7_setByTable 98 = .ok (.putfield 42, 3) := by decide +kernel
theorem dX7_setByTable_101 : decode cX7_setByTable 101 = .ok (.aload_n 0, 1) := by decide +kernel
theorem dX7_setByTable_102 : decode cX7_setByTable 102 = .ok (.iconst 0, 1) := by decide +kernel
theorem dX7_setByTable_103 : decode cX7_setByTable 103 = .ok (.putfield 45, 3) := by decide +kernel
theorem dX7_setByTable_106 : decode cX7_setByTable 106 = .ok (.return_, 1) := by decide +kernel
theorem dX7_part_0 : decode cX7_part 0 = .ok (.iload_n 1, 1) := by decide +kernel
theorem dX7_part_1 : decode cX7_part 1 = .ok (.tableswitch 113 0 9 #[55, 60, 65, 70, 75, 80, 85, 90, 95, 100], 55) := by decide +kernel
theorem dX7_part_56 : decode cX7_part 56 = .ok (.aload_n 0, 1) := by decide +kernel
theorem dX7_part_57 : decode cX7_part 57 = .ok (.getfield 15, 3) := by decide +kernel
theorem dX7_part_60 : decode cX7_part 60 = .ok (.ireturn, 1) := by decide +kernel
theorem dX7_part_61 : decode cX7_part 61 = .ok (.aload_n 0, 1) := by decide +kernel
theorem dX7_part_62 : decode cX7_part 62 = .ok (.getfield 21, 3) := by decide +kernel
theorem dX7_part_65 : decode cX7_part 65 = .ok (.ireturn, 1) := by decide +kernel
theorem dX7_part_66 : decode cX7_part 66 = .ok (.aload_n 0, 1) := by decide +kernel
theorem dX7_part_67 : decode cX7_part 67 = .ok (.getfield 24, 3) := by decide +kernel
theorem dX7_part_70 : decode cX7_part 70 = .ok (.ireturn, 1) := by decide +kernel
theorem dX7_part_71 : decode cX7_part 71 = .ok (.aload_n 0, 1) := by decide +kernel
theorem dX7_part_72 : decode cX7_part 72 = .ok (.getfield 33, 3) := by decide +kernel
theorem dX7_part_75 : decode cX7_part 75 = .ok (.ireturn, 1) := by decide +kernel
theorem dX7_part_76 : decode cX7_part 76 = .ok (.aload_n 0, 1) := by decide +kernel
theorem dX7_part_77 : decode cX7_part 77 = .ok (.getfield 36, 3) := by decide +kernel
theorem dX7_part_80 : decode cX7_part 80 = .ok (.ireturn, 1) := by decide +kernel
theorem dX7_part_81 : decode cX7_part 81 = .ok (.aload_n 0, 1) := by decide +kernel
theorem dX7_part_82 : decode cX7_part 82 = .ok (.getfield 27, 3) := by decide +kernel
theorem dX7_part_85 : decode cX7_part 85 = .ok (.ireturn, 1) := by decide +kernel
theorem dX7_part_86 : decode cX7_part 86 = .ok (.aload_n 0, 1) := by decide +kernel
theorem dX7_part_87 : decode cX7_part 87 = .ok (.getfield 30, 3) := by decide +kernel
theorem dX7_part_90 : decode cX7_part 90 = .ok (.ireturn, 1) := by decide +kernel
theorem dX7_part_91 : decode cX7_part 91 = .ok (.aload_n 0, 1) := by decide +kernel
theorem dX7_part_92 : decode cX7_part 92 = .ok (.getfield 39, 3) := by decide +kernel
theorem dX7_part_95 : decode cX7_part 95 = .ok (.ireturn, 1) := by decide +kernel
theorem dX7_part_96 : decode cX7_part 96 = .ok (.aload_n 0, 1) := by decide +kernel
theorem dX7_part_97 : decode cX7_part 97 = .ok (.getfield 42, 3) := by decide +kernel
theorem dX7_part_100 : decode cX7_part 100 = .ok (.ireturn, 1) := by decide +kernel
theorem dX7_part_101 : decode cX7_part 101 = .ok (.aload_n 0, 1) := by decide +kernel
theorem dX7_part_102 : decode cX7_part 102 = .ok (.getfield 45, 3) := by decide +kernel
theorem dX7_part_105 : decode cX7_part 105 = .ok (.ifCond .eq 7, 3) := by decide +kernel
theorem dX7_part_108 : decode cX7_part 108 = .ok (.iconst 1, 1) := by decide +kernel
theorem dX7_part_109 : decode cX7_part 109 = .ok (.goto 4, 3) := by decide +kernel
theorem dX7_part_112 : decode cX7_part 112 = .ok (.iconst 0, 1) := by decide +kernel
theorem dX7_part_113 : decode cX7_part 113 = .ok (.ireturn, 1) := by decide +kernel
theorem dX7_part_114 : decode cX7_part 114 = .ok (.aload_n 0, 1) := by decide +kernel
theorem dX7_part_115 : decode cX7_part 115 = .ok (.invokevirtual 77, 3) := by decide +kernel
theorem dX7_part_118 : decode cX7_part 118 = .ok (.ifCond .eq 7, 3) := by decide +kernel
theorem dX7_part_121 : decode cX7_part 121 = .ok (.iconst 1, 1) := by decide +kernel
theorem dX7_part_122 : decode cX7_part 122 = .ok (.goto 4, 3) := by decide +kernel
theorem dX7_part_125 : decode cX7_part 125 = .ok (.iconst 0, 1) := by decide +kernel
theorem dX7_part_126 : decode cX7_part 126 = .ok (.ireturn, 1) := by decide +kernel
theorem dX7_isBroken_0 : decode cX7_isBroken 0 = .ok (.aload_n 0, 1) := by decide +kernel
theorem dX7_isBroken_1 : decode cX7_isBroken 1 = .ok (.getfield 21, 3) := by decide +kernel
theorem dX7_isBroken_4 : decode cX7_isBroken 4 = .ok (.ifCond .eq 42, 3) := by decide +kernel
theorem dX7_isBroken_7 : decode cX7_isBroken 7 = .ok (.aload_n 0, 1) := by decide +kernel
theorem dX7_isBroken_8 : decode cX7_isBroken 8 = .ok (.getfield 27, 3) := by decide +kernel
theorem dX7_isBroken_11 : decode cX7_isBroken 11 = .ok (.ifCond .eq 35, 3) := by decide +kernel
theorem dX7_isBroken_14 : decode cX7_isBroken 14 = .ok (.aload_n 0, 1) := by decide +kernel
theorem dX7_isBroken_15 : decode cX7_isBroken 15 = .ok (.getfield 33, 3) := by decide +kernel
theorem dX7_isBroken_18 : decode cX7_isBroken 18 = .ok (.aload_n 0, 1) := by decide +kernel
theorem dX7_isBroken_19 : decode cX7_isBroken 19 = .ok (.getfield 36, 3) := by decide +kernel
theorem dX7_isBroken_22 : decode cX7_isBroken 22 = .ok (.iadd, 1) := by decide +kernel
theorem dX7_isBroken_23 : decode cX7_isBroken 23 = .ok (.aload_n 0, 1) := by decide +kernel
theorem dX7_isBroken_24 : decode cX7_isBroken 24 = .ok (.getfield 24, 3) := by decide +kernel
theorem dX7_isBroken_27 : decode cX7_isBroken 27 = .ok (.if_icmp .gt 19, 3) := by decide +kernel
theorem dX7_isBroken_30 : decode cX7_isBroken 30 = .ok (.aload_n 0, 1) := by decide +kernel
theorem dX7_isBroken_31 : decode cX7_isBroken 31 = .ok (.getfield 39, 3) := by decide +kernel
theorem dX7_isBroken_34 : decode cX7_isBroken 34 = .ok (.aload_n 0, 1) := by decide +kernel
theorem dX7_isBroken_35 : decode cX7_isBroken 35 = .ok (.getfield 42, 3) := by decide +kernel
theorem dX7_isBroken_38 : decode cX7_isBroken 38 = .ok (.iadd, 1) := by decide +kernel
theorem dX7_isBroken_39 : decode cX7_isBroken 39 = .ok (.aload_n 0, 1) := by decide +kernel
theorem dX7_isBroken_40 : decode cX7_isBroken 40 = .ok (.getfield 30, 3) := by decide +kernel
theorem dX7_isBroken_43 : decode cX7_isBroken 43 = .ok (.if_icmp .le 7, 3) := by decide +kernel
theorem dX7_isBroken_46 : decode cX7_isBroken 46 = .ok (.iconst 1, 1) := by decide +kernel
theorem dX7_isBroken_47 : decode cX7_isBroken 47 = .ok (.goto 4, 3) := by decide +kernel
theorem dX7_isBroken_50 : decode cX7_isBroken 50 = .ok (.iconst 0, 1) := by decide +kernel
theorem dX7_isBroken_51 : decode cX7_isBroken 51 = .ok (.ireturn, 1) := by decide +kernel
theorem dX7_fits_0 : decode cX7_fits 0 = .ok (.aload_n 0, 1) := by decide +kernel
theorem dX7_fits_1 : decode cX7_fits 1 = .ok (.getfield 21, 3) := by decide +kernel
theorem dX7_fits_4 : decode cX7_fits 4 = .ok (.sipush 4095, 3) := by decide +kernel
theorem dX7_fits_7 : decode cX7_fits 7 = .ok (.if_icmp .gt 84, 3) := by decide +kernel
theorem dX7_fits_10 : decode cX7_fits 10 = .ok (.aload_n 0, 1) := by decide +kernel
theorem dX7_fits_11 : decode cX7_fits 11 = .ok (.getfield 24, 3) := by decide +kernel
theorem dX7_fits_14 : decode cX7_fits 14 = .ok (.sipush 4095, 3) := by decide +kernel
theorem dX7_fits_17 : decode cX7_fits 17 = .ok (.if_icmp .gt 74, 3) := by decide +kernel
theorem dX7_fits_20 : decode cX7_fits 20 = .ok (.aload_n 0, 1) := by decide +kernel
theorem dX7_fits_21 : decode cX7_fits 21 = .ok (.getfield 27, 3) := by decide +kernel
theorem dX7_fits_24 : decode cX7_fits 24 = .ok (.sipush 4095, 3) := by decide +kernel
theorem dX7_fits_27 : decode cX7_fits 27 = .ok (.if_icmp .gt 64, 3) := by decide +kernel
theorem dX7_fits_30 : decode cX7_fits 30 = .ok (.aload_n 0, 1) := by decide +kernel
theorem dX7_fits_31 : decode cX7_fits 31 = .ok (.getfield 30, 3) := by decide +kernel
theorem dX7_fits_34 : decode cX7_fits 34 = .ok (.sipush 4095, 3) := by decide +kernel
theorem dX7_fits_37 : decode cX7_fits 37 = .ok (.if_icmp .gt 54, 3) := by decide +kernel
theorem dX7_fits_40 : decode cX7_fits 40 = .ok (.aload_n 0, 1) := by decide +kernel
theorem dX7_fits_41 : decode cX7_fits 41 = .ok (.getfield 33, 3) := by decide +kernel
theorem dX7_fits_44 : decode cX7_fits 44 = .ok (.sipush 1023, 3) := by decide +kernel
theorem dX7_fits_47 : decode cX7_fits 47 = .ok (.if_icmp .gt 44, 3) := by decide +kernel
theorem dX7_fits_50 : decode cX7_fits 50 = .ok (.aload_n 0, 1) := by decide +kernel
theorem dX7_fits_51 : decode cX7_fits 51 = .ok (.getfield 36, 3) := by decide +kernel
theorem dX7_fits_54 : decode cX7_fits 54 = .ok (.sipush 1023, 3) := by decide +kernel
theorem dX7_fits_57 : decode cX7_fits 57 = .ok (.if_icmp .gt 34, 3) := by decide +kernel
theorem dX7_fits_60 : decode cX7_fits 60 = .ok (.aload_n 0, 1) := by decide +kernel
theorem dX7_fits_61 : decode cX7_fits 61 = .ok (.getfield 39, 3) := by decide +kernel
theorem dX7_fits_64 : decode cX7_fits 64 = .ok (.bipush 63, 2) := by decide +kernel
theorem dX7_fits_66 : decode cX7_fits 66 = .ok (.if_icmp .gt 25, 3) := by decide +kernel
theorem dX7_fits_69 : decode cX7_fits 69 = .ok (.aload_n 0, 1) := by decide +kernel
theorem dX7_fits_70 : decode cX7_fits 70 = .ok (.getfield 42, 3) := by decide +kernel
theorem dX7_fits_73 : decode cX7_fits 73 = .ok (.bipush 63, 2) := by decide +kernel
theorem dX7_fits_75 : decode cX7_fits 75 = .ok (.if_icmp .gt 16, 3) := by decide +kernel
theorem dX7_fits_78 : decode cX7_fits 78 = .ok (.aload_n 0, 1) := by decide +kernel
theorem dX7_fits_79 : decode cX7_fits 79 = .ok (.getfield 15, 3) := by decide +kernel
theorem dX7_fits_82 : decode cX7_fits 82 = .ok (.ldc 81, 2) := by decide +kernel
theorem dX7_fits_84 : decode cX7_fits 84 = .ok (.if_icmp .gt 7, 3) := by decide +kernel
theorem dX7_fits_87 : decode cX7_fits 87 = .ok (.iconst 1, 1) := by decide +kernel
theorem dX7_fits_88 : decode cX7_fits 88 = .ok (.goto 4, 3) := by decide +kernel
theorem dX7_fits_91 : decode cX7_fits 91 = .ok (.iconst 0, 1) := by decide +kernel
theorem dX7_fits_92 : decode cX7_fits 92 = .ok (.ireturn, 1) := by decide +kernel
theorem dX7_wholeH_0 : decode cX7_wholeH 0 = .ok (.aload_n 0, 1) := by decide +kernel
theorem dX7_wholeH_1 : decode cX7_wholeH 1 = .ok (.getfield 21, 3) := by decide +kernel
theorem dX7_wholeH_4 : decode cX7_wholeH 4 = .ok (.aload_n 0, 1) := by decide +kernel
theorem dX7_wholeH_5 : decode cX7_wholeH 5 = .ok (.getfield 24, 3) := by decide +kernel
theorem dX7_wholeH_8 : decode cX7_wholeH 8 = .ok (.iadd, 1) := by decide +kernel
theorem dX7_wholeH_9 : decode cX7_wholeH 9 = .ok (.ireturn, 1) := by decide +kernel
theorem dX7_wholeV_0 : decode cX7_wholeV 0 = .ok (.aload_n 0, 1) := by decide +kernel
theorem dX7_wholeV_1 : decode cX7_wholeV 1 = .ok (.getfield 27, 3) := by decide +kernel
theorem dX7_wholeV_4 : decode cX7_wholeV 4 = .ok (.aload_n 0, 1) := by decide +kernel
theorem dX7_wholeV_5 : decode cX7_wholeV 5 = .ok (.getfield 30, 3) := by decide +kernel
theorem dX7_wholeV_8 : decode cX7_wholeV 8 = .ok (.iadd, 1) := by decide +kernel
theorem dX7_wholeV_9 : decode cX7_wholeV 9 = .ok (.ireturn, 1) := by decide +kernel
theorem dX7_pixels_0 : decode cX7_pixels 0 = .ok (.aload_n 0, 1) := by decide +kernel
theorem dX7_pixels_1 : decode cX7_pixels 1 = .ok (.getfield 21, 3) := by decide +kernel
theorem dX7_pixels_4 : decode cX7_pixels 4 = .ok (.aload_n 0, 1) := by decide +kernel
theorem dX7_pixels_5 : decode cX7_pixels 5 = .ok (.getfield 24, 3) := by decide +kernel
theorem dX7_pixels_8 : decode cX7_pixels 8 = .ok (.iadd, 1) := by decide +kernel
theorem dX7_pixels_9 : decode cX7_pixels 9 = .ok (.i2l, 1) := by decide +kernel
theorem dX7_pixels_10 : decode cX7_pixels 10 = .ok (.aload_n 0, 1) := by decide +kernel
theorem dX7_pixels_11 : decode cX7_pixels 11 = .ok (.getfield 27, 3) := by decide +kernel
theorem dX7_pixels_14 : decode cX7_pixels 14 = .ok (.aload_n 0, 1) := by decide +kernel
theorem dX7_pixels_15 : decode cX7_pixels 15 = .ok (.getfield 30, 3) := by decide +kernel
theorem dX7_pixels_18 : decode cX7_pixels 18 = .ok (.iadd, 1) := by decide +kernel
theorem dX7_pixels_19 : decode cX7_pixels 19 = .ok (.i2l, 1) := by decide +kernel
theorem dX7_pixels_20 : decode cX7_pixels 20 = .ok (.lmul, 1) := by decide +kernel
theorem dX7_pixels_21 : decode cX7_pixels 21 = .ok (.lreturn, 1) := by decide +kernel
theorem dX7_nearestHertz_0 : decode cX7_nearestHertz 0 = .ok (.aload_n 0, 1) := by decide +kernel
theorem dX7_nearestHertz_1 : decode cX7_nearestHertz 1 = .ok (.invokevirtual 61, 3) := by decide +kernel
theorem dX7_nearestHertz_4 : decode cX7_nearestHertz 4 = .ok (.lstore_n 1, 1) := by decide +kernel
theorem dX7_nearestHertz_5 : decode cX7_nearestHertz 5 = .ok (.lload_n 1, 1) := by decide +kernel
theorem dX7_nearestHertz_6 : decode cX7_nearestHertz 6 = .ok (.lconst 0, 1) := by decide +kernel
theorem dX7_nearestHertz_7 : decode cX7_nearestHertz 7 = .ok (.lcmp, 1) := by decide +kernel
theorem dX7_nearestHertz_8 : decode cX7_nearestHertz 8 = .ok (.ifCond .le 24, 3) := by decide +kernel
theorem dX7_nearestHertz_11 : decode cX7_nearestHertz 11 = .ok (.aload_n 0, 1) := by decide +kernel
theorem dX7_nearestHertz_12 : decode cX7_nearestHertz 12 = .ok (.getfield 15, 3) := by decide +kernel
theorem dX7_nearestHertz_15 : decode cX7_nearestHertz 15 = .ok (.i2l, 1) := by decide +kernel
theorem dX7_nearestHertz_16 : decode cX7_nearestHertz 16 = .ok (.ldc2_w 82, 3) := by decide +kernel
theorem dX7_nearestHertz_19 : decode cX7_nearestHertz 19 = .ok (.lmul, 1) := by decide +kernel
theorem dX7_nearestHertz_20 : decode cX7_nearestHertz 20 = .ok (.lload_n 1, 1) := by decide +kernel
theorem dX7_nearestHertz_21 : decode cX7_nearestHertz 21 = .ok (.ladd, 1) := by decide +kernel
theorem dX7_nearestHertz_22 : decode cX7_nearestHertz 22 = .ok (.ldc2_w 84, 3) := by decide +kernel
theorem dX7_nearestHertz_25 : decode cX7_nearestHertz 25 = .ok (.lload_n 1, 1) := by decide +kernel
theorem dX7_nearestHertz_26 : decode cX7_nearestHertz 26 = .ok (.lmul, 1) := by decide +kernel
theorem dX7_nearestHertz_27 : decode cX7_nearestHertz 27 = .ok (.ldiv, 1) := by decide +kernel
theorem dX7_nearestHertz_28 : decode cX7_nearestHertz 28 = .ok (.l2i, 1) := by decide +kernel
theorem dX7_nearestHertz_29 : decode cX7_nearestHertz 29 = .ok (.goto 4, 3) := by decide +kernel
theorem dX7_nearestHertz_32 : decode cX7_nearestHertz 32 = .ok (.iconst 0, 1) := by decide +kernel
theorem dX7_nearestHertz_33 : decode cX7_nearestHertz 33 = .ok (.ireturn, 1) := by decide +kernel
theorem dX7_thousandths_0 : decode cX7_thousandths 0 = .ok (.aload_n 0, 1) := by decide +kernel
theorem dX7_thousandths_1 : decode cX7_thousandths 1 = .ok (.invokevirtual 61, 3) := by decide +kernel
theorem dX7_thousandths_4 : decode cX7_thousandths 4 = .ok (.lstore_n 1, 1) := by decide +kernel
theorem dX7_thousandths_5 : decode cX7_thousandths 5 = .ok (.lload_n 1, 1) := by decide +kernel
theorem dX7_thousandths_6 : decode cX7_thousandths 6 = .ok (.lconst 0, 1) := by decide +kernel
theorem dX7_thousandths_7 : decode cX7_thousandths 7 = .ok (.lcmp, 1) := by decide +kernel
theorem dX7_thousandths_8 : decode cX7_thousandths 8 = .ok (.ifCond .le 24, 3) := by decide +kernel
theorem dX7_thousandths_11 : decode cX7_thousandths 11 = .ok (.aload_n 0, 1) := by decide +kernel
theorem dX7_thousandths_12 : decode cX7_thousandths 12 = .ok (.getfield 15, 3) := by decide +kernel
theorem dX7_thousandths_15 : decode cX7_thousandths 15 = .ok (.i2l, 1) := by decide +kernel
theorem dX7_thousandths_16 : decode cX7_thousandths 16 = .ok (.ldc2_w 69, 3) := by decide +kernel
theorem dX7_thousandths_19 : decode cX7_thousandths 19 = .ok (.lmul, 1) := by decide +kernel
theorem dX7_thousandths_20 : decode cX7_thousandths 20 = .ok (.lload_n 1, 1) := by decide +kernel
theorem dX7_thousandths_21 : decode cX7_thousandths 21 = .ok (.ldiv, 1) := by decide +kernel
theorem dX7_thousandths_22 : decode cX7_thousandths 22 = .ok (.ldc2_w 86, 3) := by decide +kernel
theorem dX7_thousandths_25 : decode cX7_thousandths 25 = .ok (.invokestatic 88, 3) := by decide +kernel
theorem dX7_thousandths_28 : decode cX7_thousandths 28 = .ok (.l2i, 1) := by decide +kernel
theorem dX7_thousandths_29 : decode cX7_thousandths 29 = .ok (.goto 4, 3) := by decide +kernel
theorem dX7_thousandths_32 : decode cX7_thousandths 32 = .ok (.iconst 0, 1) := by decide +kernel
theorem dX7_thousandths_33 : decode cX7_thousandths 33 = .ok (.ireturn, 1) := by decide +kernel
theorem dX7_lineRate_0 : decode cX7_lineRate 0 = .ok (.aload_n 0, 1) := by decide +kernel
theorem dX7_lineRate_1 : decode cX7_lineRate 1 = .ok (.invokevirtual 92, 3) := by decide +kernel
theorem dX7_lineRate_4 : decode cX7_lineRate 4 = .ok (.istore_n 1, 1) := by decide +kernel
theorem dX7_lineRate_5 : decode cX7_lineRate 5 = .ok (.iload_n 1, 1) := by decide +kernel
theorem dX7_lineRate_6 : decode cX7_lineRate 6 = .ok (.ifCond .le 12, 3) := by decide +kernel
theorem dX7_lineRate_9 : decode cX7_lineRate 9 = .ok (.aload_n 0, 1) := by decide +kernel
theorem dX7_lineRate_10 : decode cX7_lineRate 10 = .ok (.getfield 15, 3) := by decide +kernel
theorem dX7_lineRate_13 : decode cX7_lineRate 13 = .ok (.iload_n 1, 1) := by decide +kernel
theorem dX7_lineRate_14 : decode cX7_lineRate 14 = .ok (.idiv, 1) := by decide +kernel
theorem dX7_lineRate_15 : decode cX7_lineRate 15 = .ok (.goto 4, 3) := by decide +kernel
theorem dX7_lineRate_18 : decode cX7_lineRate 18 = .ok (.iconst 0, 1) := by decide +kernel
theorem dX7_lineRate_19 : decode cX7_lineRate 19 = .ok (.ireturn, 1) := by decide +kernel
theorem dX8_init_0 : decode cX8_init 0 = .ok (.aload_n 0, 1) := by decide +kernel
theorem dX8_init_1 : decode cX8_init 1 = .ok (.invokespecial 3, 3) := by decide +kernel
theorem dX8_init_4 : decode cX8_init 4 = .ok (.aload_n 0, 1) := by decide +kernel
theorem dX8_init_5 : decode cX8_init 5 = .ok (.iconst 4, 1) := by decide +kernel
theorem dX8_init_6 : decode cX8_init 6 = .ok (.newarray .int, 2) := by decide +kernel
theorem dX8_init_8 : decode cX8_init 8 = .ok (.putfield 9, 3) := by decide +kernel
theorem dX8_init_11 : decode cX8_init 11 = .ok (.aload_n 0, 1) := by decide +kernel
theorem dX8_init_12 : decode cX8_init 12 = .ok (.iconst 4, 1) := by decide +kernel
theorem dX8_init_13 : decode cX8_init 13 = .ok (.newarray .int, 2) := by decide +kernel
theorem dX8_init_15 : decode cX8_init 15 = .ok (.putfield 15, 3) := by decide +kernel
theorem dX8_init_18 : decode cX8_init 18 = .ok (.return_, 1) := by decide +kernel
theorem dX8_stop_0 : decode cX8_stop 0 = .ok (.aload_n 0, 1) := by decide +kernel
theorem dX8_stop_1 : decode cX8_stop 1 = .ok (.iconst 0, 1) := by decide +kernel
theorem dX8_stop_2 : decode cX8_stop 2 = .ok (.putfield 18, 3) := by decide +kernel
theorem dX8_stop_5 : decode cX8_stop 5 = .ok (.aload_n 0, 1) := by decide +kernel
theorem dX8_stop_6 : decode cX8_stop 6 = .ok (.iconst 0, 1) := by decide +kernel
theorem dX8_stop_7 : decode cX8_stop 7 = .ok (.putfield 22, 3) := by decide +kernel
theorem dX8_stop_10 : decode cX8_stop 10 = .ok (.aload_n 0, 1) := by decide +kernel
theorem dX8_stop_11 : decode cX8_stop 11 = .ok (.iconst 0, 1) := by decide +kernel
theorem dX8_stop_12 : decode cX8_stop 12 = .ok (.putfield 25, 3) := by decide +kernel
theorem dX8_stop_15 : decode cX8_stop 15 = .ok (.aload_n 0, 1) := by decide +kernel
theorem dX8_stop_16 : decode cX8_stop 16 = .ok (.iconst 0, 1) := by decide +kernel
theorem dX8_stop_17 : decode cX8_stop 17 = .ok (.putfield 28, 3) := by decide +kernel
theorem dX8_stop_20 : decode cX8_stop 20 = .ok (.aload_n 0, 1) := by decide +kernel
theorem dX8_stop_21 : decode cX8_stop 21 = .ok (.iconst 0, 1) := by decide +kernel
theorem dX8_stop_22 : decode cX8_stop 22 = .ok (.putfield 31, 3) := by decide +kernel
theorem dX8_stop_25 : decode cX8_stop 25 = .ok (.aload_n 0, 1) := by decide +kernel
theorem dX8_stop_26 : decode cX8_stop 26 = .ok (.invokevirtual 34, 3) := by decide +kernel
theorem dX8_stop_29 : decode cX8_stop 29 = .ok (.return_, 1) := by decide +kernel
theorem dX8_start_0 : decode cX8_start 0 = .ok (.aload_n 0, 1) := by decide +kernel
theorem dX8_start_1 : decode cX8_start 1 = .ok (.invokevirtual 37, 3) := by decide +kernel
theorem dX8_start_4 : decode cX8_start 4 = .ok (.aload_n 0, 1) := by decide +kernel
theorem dX8_start_5 : decode cX8_start 5 = .ok (.iconst 1, 1) := by decide +kernel
theorem dX8_start_6 : decode cX8_start 6 = .ok (.putfield 18, 3) := by decide +kernel
theorem dX8_start_9 : decode cX8_start 9 = .ok (.aload_n 0, 1) := by decide +kernel
theorem dX8_start_10 : decode cX8_start 10 = .ok (.aload_n 1, 1) := by decide +kernel
theorem dX8_start_11 : decode cX8_start 11 = .ok (.getfield 40, 3) := by decide +kernel
theorem dX8_start_14 : decode cX8_start 14 = .ok (.putfield 22, 3) := by decide +kernel
theorem dX8_start_17 : decode cX8_start 17 = .ok (.aload_n 0, 1) := by decide +kernel
theorem dX8_start_18 : decode cX8_start 18 = .ok (.aload_n 1, 1) := by decide +kernel
theorem dX8_start_19 : decode cX8_start 19 = .ok (.getfield 43, 3) := by decide +kernel
theorem dX8_start_22 : decode cX8_start 22 = .ok (.putfield 25, 3) := by decide +kernel
theorem dX8_start_25 : decode cX8_start 25 = .ok (.return_, 1) := by decide +kernel
theorem dX8_isRunning_0 : decode cX8_isRunning 0 = .ok (.aload_n 0, 1) := by decide +kernel
theorem dX8_isRunning_1 : decode cX8_isRunning 1 = .ok (.getfield 18, 3) := by decide +kernel
theorem dX8_isRunning_4 : decode cX8_isRunning 4 = .ok (.iconst 1, 1) := by decide +kernel
theorem dX8_isRunning_5 : decode cX8_isRunning 5 = .ok (.if_icmp .eq 11, 3) := by decide +kernel
theorem dX8_isRunning_8 : decode cX8_isRunning 8 = .ok (.aload_n 0, 1) := by decide +kernel
theorem dX8_isRunning_9 : decode cX8_isRunning 9 = .ok (.getfield 18, 3) := by decide +kernel
theorem dX8_isRunning_12 : decode cX8_isRunning 12 = .ok (.iconst 2, 1) := by decide +kernel
theorem dX8_isRunning_13 : decode cX8_isRunning 13 = .ok (.if_icmp .ne 7, 3) := by decide +kernel
theorem dX8_isRunning_16 : decode cX8_isRunning 16 = .ok (.iconst 1, 1) := by decide +kernel
theorem dX8_isRunning_17 : decode cX8_isRunning 17 = .ok (.goto 4, 3) := by decide +kernel
theorem dX8_isRunning_20 : decode cX8_isRunning 20 = .ok (.iconst 0, 1) := by decide +kernel
theorem dX8_isRunning_21 : decode cX8_isRunning 21 = .ok (.ireturn, 1) := by decide +kernel
theorem dX8_triesOfPhase_0 : decode cX8_triesOfPhase 0 = .ok (.aload_n 0, 1) := by decide +kernel
theorem dX8_triesOfPhase_1 : decode cX8_triesOfPhase 1 = .ok (.getfield 18, 3) := by decide +kernel
theorem dX8_triesOfPhase_4 : decode cX8_triesOfPhase 4 = .ok (.iconst 1, 1) := by decide +kernel
theorem dX8_triesOfPhase_5 : decode cX8_triesOfPhase 5 = .ok (.if_icmp .ne 8, 3) := by decide +kernel
theorem dX8_triesOfPhase_8 : decode cX8_triesOfPhase 8 = .ok (.aload_n 0, 1) := by decide +kernel
theorem dX8_triesOfPhase_9 : decode cX8_triesOfPhase 9 = .ok (.getfield 44, 3) := by decide +kernel
theorem dX8_triesOfPhase_12 : decode cX8_triesOfPhase 12 = .ok (.ireturn, 1) := by decide +kernel
theorem dX8_triesOfPhase_13 : decode cX8_triesOfPhase 13 = .ok (.aload_n 0, 1) := by decide +kernel
theorem dX8_triesOfPhase_14 : decode cX8_triesOfPhase 14 = .ok (.getfield 18, 3) := by decide +kernel
theorem dX8_triesOfPhase_17 : decode cX8_triesOfPhase 17 = .ok (.iconst 2, 1) := by decide +kernel
theorem dX8_triesOfPhase_18 : decode cX8_triesOfPhase 18 = .ok (.if_icmp .ne 10, 3) := by decide +kernel
theorem dX8_triesOfPhase_21 : decode cX8_triesOfPhase 21 = .ok (.aload_n 0, 1) := by decide +kernel
theorem dX8_triesOfPhase_22 : decode cX8_triesOfPhase 22 = .ok (.getfield 47, 3) := by decide +kernel
theorem dX8_triesOfPhase_25 : decode cX8_triesOfPhase 25 = .ok (.goto 4, 3) := by decide +kernel
theorem dX8_triesOfPhase_28 : decode cX8_triesOfPhase 28 = .ok (.iconst 0, 1) := by decide +kernel
theorem dX8_triesOfPhase_29 : decode cX8_triesOfPhase 29 = .ok (.ireturn, 1) := by decide +kernel
theorem dX8_finish_0 : decode cX8_finish 0 = .ok (.aload_n 0, 1) := by decide +kernel
theorem dX8_finish_1 : decode cX8_finish 1 = .ok (.aload_n 1, 1) := by decide +kernel
theorem dX8_finish_2 : decode cX8_finish 2 = .ok (.invokevirtual 50, 3) := by decide +kernel
theorem dX8_finish_5 : decode cX8_finish 5 = .ok (.iconst 0, 1) := by decide +kernel
theorem dX8_finish_6 : decode cX8_finish 6 = .ok (.istore_n 2, 1) := by decide +kernel
theorem dX8_finish_7 : decode cX8_finish 7 = .ok (.iload_n 2, 1) := by decide +kernel
theorem dX8_finish_8 : decode cX8_finish 8 = .ok (.sipush 192, 3) := by decide +kernel
theorem dX8_finish_11 : decode cX8_finish 11 = .ok (.if_icmp .ge 22, 3) := by decide +kernel
theorem dX8_finish_14 : decode cX8_finish 14 = .ok (.aload_n 0, 1) := by decide +kernel
theorem dX8_finish_15 : decode cX8_finish 15 = .ok (.invokevirtual 54, 3) := by decide +kernel
theorem dX8_finish_18 : decode cX8_finish 18 = .ok (.ifCond .eq 15, 3) := by decide +kernel
theorem dX8_finish_21 : decode cX8_finish 21 = .ok (.aload_n 0, 1) := by decide +kernel
theorem dX8_finish_22 : decode cX8_finish 22 = .ok (.aload_n 1, 1) := by decide +kernel
theorem dX8_finish_23 : decode cX8_finish 23 = .ok (.invokevirtual 58, 3) := by decide +kernel
theorem dX8_finish_26 : decode cX8_finish 26 = .ok (.pop, 1) := by decide +kernel
theorem dX8_finish_27 : decode cX8_finish 27 = .ok (.iinc 2 1, 3) := by decide +kernel
theorem dX8_finish_30 : decode cX8_finish 30 = .ok (.goto (-23), 3) := by decide +kernel
theorem dX8_finish_33 : decode cX8_finish 33 = .ok (.aload_n 0, 1) := by decide +kernel
theorem dX8_finish_34 : decode cX8_finish 34 = .ok (.getfield 18, 3) := by decide +kernel
theorem dX8_finish_37 : decode cX8_finish 37 = .ok (.iconst 3, 1) := by decide +kernel
theorem dX8_finish_38 : decode cX8_finish 38 = .ok (.if_icmp .ne 17, 3) := by decide +kernel
theorem dX8_finish_41 : decode cX8_finish 41 = .ok (.aload_n 0, 1) := by decide +kernel
theorem dX8_finish_42 : decode cX8_finish 42 = .ok (.getfield 22, 3) := by decide +kernel
theorem dX8_finish_45 : decode cX8_finish 45 = .ok (.aload_n 0, 1) := by decide +kernel
theorem dX8_finish_46 : decode cX8_finish 46 = .ok (.getfield 25, 3) := by decide +kernel
theorem dX8_finish_49 : decode cX8_finish 49 = .ok (.invokestatic 62, 3) := by decide +kernel
theorem dX8_finish_52 : decode cX8_finish 52 = .ok (.goto 4, 3) := by decide +kernel
theorem dX8_finish_55 : decode cX8_finish 55 = .ok (.iconst 0, 1) := by decide +kernel
theorem dX8_finish_56 : decode cX8_finish 56 = .ok (.ireturn, 1) := by decide +kernel
theorem dX8_attempt_0 : decode cX8_attempt 0 = .ok (.aload_n 0, 1) := by decide +kernel
theorem dX8_attempt_1 : decode cX8_attempt 1 = .ok (.dup, 1) := by decide +kernel
theorem dX8_attempt_2 : decode cX8_attempt 2 = .ok (.getfield 28, 3) := by decide +kernel
theorem dX8_attempt_5 : decode cX8_attempt 5 = .ok (.iconst 1, 1) := by decide +kernel
theorem dX8_attempt_6 : decode cX8_attempt 6 = .ok (.iadd, 1) := by decide +kernel
theorem dX8_attempt_7 : decode cX8_attempt 7 = .ok (.putfield 28, 3) := by decide +kernel
theorem dX8_attempt_10 : decode cX8_attempt 10 = .ok (.aload_n 0, 1) := by decide +kernel
theorem dX8_attempt_11 : decode cX8_attempt 11 = .ok (.getfield 18, 3) := by decide +kernel
theorem dX8_attempt_14 : decode cX8_attempt 14 = .ok (.iconst 1, 1) := by decide +kernel
theorem dX8_attempt_15 : decode cX8_attempt 15 = .ok (.if_icmp .ne 11, 3) := by decide +kernel
theorem dX8_attempt_18 : decode cX8_attempt 18 = .ok (.aload_n 0, 1) := by decide +kernel
theorem dX8_attempt_19 : decode cX8_attempt 19 = .ok (.aload_n 1, 1) := by decide +kernel
theorem dX8_attempt_20 : decode cX8_attempt 20 = .ok (.invokevirtual 66, 3) := by decide +kernel
theorem dX8_attempt_23 : decode cX8_attempt 23 = .ok (.goto 8, 3) := by decide +kernel
theorem dX8_attempt_26 : decode cX8_attempt 26 = .ok (.aload_n 0, 1) := by decide +kernel
theorem dX8_attempt_27 : decode cX8_attempt 27 = .ok (.aload_n 1, 1) := by decide +kernel
theorem dX8_attempt_28 : decode cX8_attempt 28 = .ok (.invokevirtual 69, 3) := by decide +kernel
theorem dX8_attempt_31 : decode cX8_attempt 31 = .ok (.istore_n 2, 1) := by decide +kernel
theorem dX8_attempt_32 : decode cX8_attempt 32 = .ok (.iload_n 2, 1) := by decide +kernel
theorem dX8_attempt_33 : decode cX8_attempt 33 = .ok (.iconst 1, 1) := by decide +kernel
theorem dX8_attempt_34 : decode cX8_attempt 34 = .ok (.if_icmp .lt 14, 3) := by decide +kernel
theorem dX8_attempt_37 : decode cX8_attempt 37 = .ok (.iload_n 2, 1) := by decide +kernel
theorem dX8_attempt_38 : decode cX8_attempt 38 = .ok (.bipush 6, 2) := by decide +kernel
theorem dX8_attempt_40 : decode cX8_attempt 40 = .ok (.if_icmp .gt 8, 3) := by decide +kernel
theorem dX8_attempt_43 : decode cX8_attempt 43 = .ok (.aload_n 0, 1) := by decide +kernel
theorem dX8_attempt_44 : decode cX8_attempt 44 = .ok (.aload_n 1, 1) := by decide +kernel
theorem dX8_attempt_45 : decode cX8_attempt 45 = .ok (.invokevirtual 72, 3) := by decide +kernel
theorem dX8_attempt_48 : decode cX8_attempt 48 = .ok (.iload_n 2, 1) := by decide +kernel
theorem dX8_attempt_49 : decode cX8_attempt 49 = .ok (.ireturn, 1) := by decide +kernel
theorem dX8_allLanes_0 : decode cX8_allLanes 0 = .ok (.iconst 1, 1) := by decide +kernel
theorem dX8_allLanes_1 : decode cX8_allLanes 1 = .ok (.aload_n 0, 1) := by decide +kernel
theorem dX8_allLanes_2 : decode cX8_allLanes 2 = .ok (.getfield 22, 3) := by decide +kernel
theorem dX8_allLanes_5 : decode cX8_allLanes 5 = .ok (.ishl, 1) := by decide +kernel
theorem dX8_allLanes_6 : decode cX8_allLanes 6 = .ok (.iconst 1, 1) := by decide +kernel
theorem dX8_allLanes_7 : decode cX8_allLanes 7 = .ok (.isub, 1) := by decide +kernel
theorem dX8_allLanes_8 : decode cX8_allLanes 8 = .ok (.ireturn, 1) := by decide +kernel
theorem dX8_attemptClock_0 : decode cX8_attemptClock 0 = .ok (.aload_n 0, 1) := by decide +kernel
theorem dX8_attemptClock_1 : decode cX8_attemptClock 1 = .ok (.dup, 1) := by decide +kernel
theorem dX8_attemptClock_2 : decode cX8_attemptClock 2 = .ok (.getfield 44, 3) := by decide +kernel
theorem dX8_attemptClock_5 : decode cX8_attemptClock 5 = .ok (.iconst 1, 1) := by decide +kernel
theorem dX8_attemptClock_6 : decode cX8_attemptClock 6 = .ok (.iadd, 1) := by decide +kernel
theorem dX8_attemptClock_7 : decode cX8_attemptClock 7 = .ok (.putfield 44, 3) := by decide +kernel
theorem dX8_attemptClock_10 : decode cX8_attemptClock 10 = .ok (.aload_n 0, 1) := by decide +kernel
theorem dX8_attemptClock_11 : decode cX8_attemptClock 11 = .ok (.dup, 1) := by decide +kernel
theorem dX8_attemptClock_12 : decode cX8_attemptClock 12 = .ok (.getfield 75, 3) := by decide +kernel
theorem dX8_attemptClock_15 : decode cX8_attemptClock 15 = .ok (.iconst 1, 1) := by decide +kernel
theorem dX8_attemptClock_16 : decode cX8_attemptClock 16 = .ok (.iadd, 1) := by decide +kernel
theorem dX8_attemptClock_17 : decode cX8_attemptClock 17 = .ok (.putfield 75, 3) := by decide +kernel
theorem dX8_attemptClock_20 : decode cX8_attemptClock 20 = .ok (.aload_n 0, 1) := by decide +kernel
theorem dX8_attemptClock_21 : decode cX8_attemptClock 21 = .ok (.aload_n 1, 1) := by decide +kernel
theorem dX8_attemptClock_22 : decode cX8_attemptClock 22 = .ok (.invokevirtual 78, 3) := by decide +kernel
theorem dX8_attemptClock_25 : decode cX8_attemptClock 25 = .ok (.istore_n 2, 1) := by decide +kernel
theorem dX8_attemptClock_26 : decode cX8_attemptClock 26 = .ok (.aload_n 0, 1) := by decide +kernel
theorem dX8_attemptClock_27 : decode cX8_attemptClock 27 = .ok (.aload_n 0, 1) := by decide +kernel
theorem dX8_attemptClock_28 : decode cX8_attemptClock 28 = .ok (.aload_n 1, 1) := by decide +kernel
theorem dX8_attemptClock_29 : decode cX8_attemptClock 29 = .ok (.aload_n 0, 1) := by decide +kernel
theorem dX8_attemptClock_30 : decode cX8_attemptClock 30 = .ok (.getfield 44, 3) := by decide +kernel
theorem dX8_attemptClock_33 : decode cX8_attemptClock 33 = .ok (.invokevirtual 81, 3) := by decide +kernel
theorem dX8_attemptClock_36 : decode cX8_attemptClock 36 = .ok (.iload_n 2, 1) := by decide +kernel
theorem dX8_attemptClock_37 : decode cX8_attemptClock 37 = .ok (.iconst (-1), 1) := by decide +kernel
theorem dX8_attemptClock_38 : decode cX8_attemptClock 38 = .ok (.ixor, 1) := by decide +kernel
theorem dX8_attemptClock_39 : decode cX8_attemptClock 39 = .ok (.iand, 1) := by decide +kernel
theorem dX8_attemptClock_40 : decode cX8_attemptClock 40 = .ok (.putfield 85, 3) := by decide +kernel
theorem dX8_attemptClock_43 : decode cX8_attemptClock 43 = .ok (.aload_n 0, 1) := by decide +kernel
theorem dX8_attemptClock_44 : decode cX8_attemptClock 44 = .ok (.aload_n 0, 1) := by decide +kernel
theorem dX8_attemptClock_45 : decode cX8_attemptClock 45 = .ok (.getfield 85, 3) := by decide +kernel
theorem dX8_attemptClock_48 : decode cX8_attemptClock 48 = .ok (.putfield 88, 3) := by decide +kernel
theorem dX8_attemptClock_51 : decode cX8_attemptClock 51 = .ok (.aload_n 0, 1) := by decide +kernel
theorem dX8_attemptClock_52 : decode cX8_attemptClock 52 = .ok (.getfield 85, 3) := by decide +kernel
theorem dX8_attemptClock_55 : decode cX8_attemptClock 55 = .ok (.aload_n 0, 1) := by decide +kernel
theorem dX8_attemptClock_56 : decode cX8_attemptClock 56 = .ok (.invokevirtual 91, 3) := by decide +kernel
theorem dX8_attemptClock_59 : decode cX8_attemptClock 59 = .ok (.if_icmp .ne 11, 3) := by decide +kernel
theorem dX8_attemptClock_62 : decode cX8_attemptClock 62 = .ok (.aload_n 0, 1) := by decide +kernel
theorem dX8_attemptClock_63 : decode cX8_attemptClock 63 = .ok (.iconst 2, 1) := by decide +kernel
theorem dX8_attemptClock_64 : decode cX8_attemptClock 64 = .ok (.putfield 18, 3) := by decide +kernel
theorem dX8_attemptClock_67 : decode cX8_attemptClock 67 = .ok (.bipush 7, 2) := by decide +kernel
theorem dX8_attemptClock_69 : decode cX8_attemptClock 69 = .ok (.ireturn, 1) := by decide +kernel
theorem dX8_attemptClock_70 : decode cX8_attemptClock 70 = .ok (.aload_n 0, 1) := by decide +kernel
theorem dX8_attemptClock_71 : decode cX8_attemptClock 71 = .ok (.getfield 9, 3) := by decide +kernel
theorem dX8_attemptClock_74 : decode cX8_attemptClock 74 = .ok (.iload_n 2, 1) := by decide +kernel
theorem dX8_attemptClock_75 : decode cX8_attemptClock 75 = .ok (.invokestatic 95, 3) := by decide +kernel
theorem dX8_attemptClock_78 : decode cX8_attemptClock 78 = .ok (.ifCond .eq 5, 3) := by decide +kernel
theorem dX8_attemptClock_81 : decode cX8_attemptClock 81 = .ok (.iconst 1, 1) := by decide +kernel
theorem dX8_attemptClock_82 : decode cX8_attemptClock 82 = .ok (.ireturn, 1) := by decide +kernel
theorem dX8_attemptClock_83 : decode cX8_attemptClock 83 = .ok (.aload_n 0, 1) := by decide +kernel
theorem dX8_attemptClock_84 : decode cX8_attemptClock 84 = .ok (.getfield 44, 3) := by decide +kernel
theorem dX8_attemptClock_87 : decode cX8_attemptClock 87 = .ok (.bipush 10, 2) := by decide +kernel
theorem dX8_attemptClock_89 : decode cX8_attemptClock 89 = .ok (.if_icmp .lt 5, 3) := by decide +kernel
theorem dX8_attemptClock_92 : decode cX8_attemptClock 92 = .ok (.iconst 2, 1) := by decide +kernel
theorem dX8_attemptClock_93 : decode cX8_attemptClock 93 = .ok (.ireturn, 1) := by decide +kernel
theorem dX8_attemptClock_94 : decode cX8_attemptClock 94 = .ok (.aload_n 0, 1) := by decide +kernel
theorem dX8_attemptClock_95 : decode cX8_attemptClock 95 = .ok (.getfield 75, 3) := by decide +kernel
theorem dX8_attemptClock_98 : decode cX8_attemptClock 98 = .ok (.bipush 7, 2) := by decide +kernel
theorem dX8_attemptClock_100 : decode cX8_attemptClock 100 = .ok (.if_icmp .lt 5, 3) := by decide +kernel
theorem dX8_attemptClock_103 : decode cX8_attemptClock 103 = .ok (.iconst 3, 1) := by decide +kernel
theorem dX8_attemptClock_104 : decode cX8_attemptClock 104 = .ok (.ireturn, 1) := by decide +kernel
theorem dX8_attemptClock_105 : decode cX8_attemptClock 105 = .ok (.iload_n 2, 1) := by decide +kernel
theorem dX8_attemptClock_106 : decode cX8_attemptClock 106 = .ok (.ifCond .eq 16, 3) := by decide +kernel
theorem dX8_attemptClock_109 : decode cX8_attemptClock 109 = .ok (.aload_n 0, 1) := by decide +kernel
theorem dX8_attemptClock_110 : decode cX8_attemptClock 110 = .ok (.getfield 9, 3) := by decide +kernel
theorem dX8_attemptClock_113 : decode cX8_attemptClock 113 = .ok (.iload_n 2, 1) := by decide +kernel
theorem dX8_attemptClock_114 : decode cX8_attemptClock 114 = .ok (.invokestatic 99, 3) := by decide +kernel
theorem dX8_attemptClock_117 : decode cX8_attemptClock 117 = .ok (.aload_n 0, 1) := by decide +kernel
theorem dX8_attemptClock_118 : decode cX8_attemptClock 118 = .ok (.iconst 0, 1) := by decide +kernel
theorem dX8_attemptClock_119 : decode cX8_attemptClock 119 = .ok (.putfield 75, 3) := by decide +kernel
theorem dX8_attemptClock_122 : decode cX8_attemptClock 122 = .ok (.iconst 0, 1) := by decide +kernel
theorem dX8_attemptClock_123 : decode cX8_attemptClock 123 = .ok (.ireturn, 1) := by decide +kernel
theorem dX8_attemptEven_0 : decode cX8_attemptEven 0 = .ok (.aload_n 0, 1) := by decide +kernel
theorem dX8_attemptEven_1 : decode cX8_attemptEven 1 = .ok (.dup, 1) := by decide +kernel
theorem dX8_attemptEven_2 : decode cX8_attemptEven 2 = .ok (.getfield 47, 3) := by decide +kernel
theorem dX8_attemptEven_5 : decode cX8_attemptEven 5 = .ok (.iconst 1, 1) := by decide +kernel
theorem dX8_attemptEven_6 : decode cX8_attemptEven 6 = .ok (.iadd, 1) := by decide +kernel
theorem dX8_attemptEven_7 : decode cX8_attemptEven 7 = .ok (.putfield 47, 3) := by decide +kernel
theorem dX8_attemptEven_10 : decode cX8_attemptEven 10 = .ok (.aload_n 0, 1) := by decide +kernel
theorem dX8_attemptEven_11 : decode cX8_attemptEven 11 = .ok (.iconst 0, 1) := by decide +kernel
theorem dX8_attemptEven_12 : decode cX8_attemptEven 12 = .ok (.putfield 88, 3) := by decide +kernel
theorem dX8_attemptEven_15 : decode cX8_attemptEven 15 = .ok (.aload_n 0, 1) := by decide +kernel
theorem dX8_attemptEven_16 : decode cX8_attemptEven 16 = .ok (.iconst 0, 1) := by decide +kernel
theorem dX8_attemptEven_17 : decode cX8_attemptEven 17 = .ok (.putfield 103, 3) := by decide +kernel
theorem dX8_attemptEven_20 : decode cX8_attemptEven 20 = .ok (.aload_n 0, 1) := by decide +kernel
theorem dX8_attemptEven_21 : decode cX8_attemptEven 21 = .ok (.aload_n 1, 1) := by decide +kernel
theorem dX8_attemptEven_22 : decode cX8_attemptEven 22 = .ok (.invokevirtual 78, 3) := by decide +kernel
theorem dX8_attemptEven_25 : decode cX8_attemptEven 25 = .ok (.ifCond .eq 5, 3) := by decide +kernel
theorem dX8_attemptEven_28 : decode cX8_attemptEven 28 = .ok (.iconst 4, 1) := by decide +kernel
theorem dX8_attemptEven_29 : decode cX8_attemptEven 29 = .ok (.ireturn, 1) := by decide +kernel
theorem dX8_attemptEven_30 : decode cX8_attemptEven 30 = .ok (.aload_n 0, 1) := by decide +kernel
theorem dX8_attemptEven_31 : decode cX8_attemptEven 31 = .ok (.aload_n 1, 1) := by decide +kernel
theorem dX8_attemptEven_32 : decode cX8_attemptEven 32 = .ok (.invokevirtual 106, 3) := by decide +kernel
theorem dX8_attemptEven_35 : decode cX8_attemptEven 35 = .ok (.istore_n 2, 1) := by decide +kernel
theorem dX8_attemptEven_36 : decode cX8_attemptEven 36 = .ok (.aload_n 0, 1) := by decide +kernel
theorem dX8_attemptEven_37 : decode cX8_attemptEven 37 = .ok (.aload_n 0, 1) := by decide +kernel
theorem dX8_attemptEven_38 : decode cX8_attemptEven 38 = .ok (.aload_n 1, 1) := by decide +kernel
theorem dX8_attemptEven_39 : decode cX8_attemptEven 39 = .ok (.aload_n 0, 1) := by decide +kernel
theorem dX8_attemptEven_40 : decode cX8_attemptEven 40 = .ok (.getfield 47, 3) := by decide +kernel
theorem dX8_attemptEven_43 : decode cX8_attemptEven 43 = .ok (.iconst 2, 1) := by decide +kernel
theorem dX8_attemptEven_44 : decode cX8_attemptEven 44 = .ok (.iadd, 1) := by decide +kernel
theorem dX8_attemptEven_45 : decode cX8_attemptEven 45 = .ok (.invokevirtual 81, 3) := by decide +kernel
theorem dX8_attemptEven_48 : decode cX8_attemptEven 48 = .ok (.iload_n 2, 1) := by decide +kernel
theorem dX8_attemptEven_49 : decode cX8_attemptEven 49 = .ok (.iconst (-1), 1) := by decide +kernel
theorem dX8_attemptEven_50 : decode cX8_attemptEven 50 = .ok (.ixor, 1) := by decide +kernel
theorem dX8_attemptEven_51 : decode cX8_attemptEven 51 = .ok (.iand, 1) := by decide +kernel
theorem dX8_attemptEven_52 : decode cX8_attemptEven 52 = .ok (.putfield 103, 3) := by decide +kernel
theorem dX8_attemptEven_55 : decode cX8_attemptEven 55 = .ok (.aload_n 0, 1) := by decide +kernel
theorem dX8_attemptEven_56 : decode cX8_attemptEven 56 = .ok (.aload_n 0, 1) := by decide +kernel
theorem dX8_attemptEven_57 : decode cX8_attemptEven 57 = .ok (.getfield 103, 3) := by decide +kernel
theorem dX8_attemptEven_60 : decode cX8_attemptEven 60 = .ok (.putfield 88, 3) := by decide +kernel
theorem dX8_attemptEven_63 : decode cX8_attemptEven 63 = .ok (.aload_n 0, 1) := by decide +kernel
theorem dX8_attemptEven_64 : decode cX8_attemptEven 64 = .ok (.getfield 103, 3) := by decide +kernel
theorem dX8_attemptEven_67 : decode cX8_attemptEven 67 = .ok (.aload_n 0, 1) := by decide +kernel
theorem dX8_attemptEven_68 : decode cX8_attemptEven 68 = .ok (.invokevirtual 91, 3) := by decide +kernel
theorem dX8_attemptEven_71 : decode cX8_attemptEven 71 = .ok (.if_icmp .ne 11, 3) := by decide +kernel
theorem dX8_attemptEven_74 : decode cX8_attemptEven 74 = .ok (.aload_n 0, 1) := by decide +kernel
theorem dX8_attemptEven_75 : decode cX8_attemptEven 75 = .ok (.iconst 3, 1) := by decide +kernel
theorem dX8_attemptEven_76 : decode cX8_attemptEven 76 = .ok (.putfield 18, 3) := by decide +kernel
theorem dX8_attemptEven_79 : decode cX8_attemptEven 79 = .ok (.bipush 8, 2) := by decide +kernel
theorem dX8_attemptEven_81 : decode cX8_attemptEven 81 = .ok (.ireturn, 1) := by decide +kernel
theorem dX8_attemptEven_82 : decode cX8_attemptEven 82 = .ok (.aload_n 0, 1) := by decide +kernel
theorem dX8_attemptEven_83 : decode cX8_attemptEven 83 = .ok (.getfield 47, 3) := by decide +kernel
theorem dX8_attemptEven_86 : decode cX8_attemptEven 86 = .ok (.bipush 6, 2) := by decide +kernel
theorem dX8_attemptEven_88 : decode cX8_attemptEven 88 = .ok (.if_icmp .lt 5, 3) := by decide +kernel
theorem dX8_attemptEven_91 : decode cX8_attemptEven 91 = .ok (.iconst 5, 1) := by decide +kernel
theorem dX8_attemptEven_92 : decode cX8_attemptEven 92 = .ok (.ireturn, 1) := by decide +kernel
theorem dX8_attemptEven_93 : decode cX8_attemptEven 93 = .ok (.aload_n 0, 1) := by decide +kernel
theorem dX8_attemptEven_94 : decode cX8_attemptEven 94 = .ok (.getfield 15, 3) := by decide +kernel
theorem dX8_attemptEven_97 : decode cX8_attemptEven 97 = .ok (.iload_n 2, 1) := by decide +kernel
theorem dX8_attemptEven_98 : decode cX8_attemptEven 98 = .ok (.invokestatic 95, 3) := by decide +kernel
theorem dX8_attemptEven_101 : decode cX8_attemptEven 101 = .ok (.ifCond .eq 6, 3) := by decide +kernel
theorem dX8_attemptEven_104 : decode cX8_attemptEven 104 = .ok (.bipush 6, 2) := by decide +kernel
theorem dX8_attemptEven_106 : decode cX8_attemptEven 106 = .ok (.ireturn, 1) := by decide +kernel
theorem dX8_attemptEven_107 : decode cX8_attemptEven 107 = .ok (.aload_n 0, 1) := by decide +kernel
theorem dX8_attemptEven_108 : decode cX8_attemptEven 108 = .ok (.getfield 15, 3) := by decide +kernel
theorem dX8_attemptEven_111 : decode cX8_attemptEven 111 = .ok (.iload_n 2, 1) := by decide +kernel
theorem dX8_attemptEven_112 : decode cX8_attemptEven 112 = .ok (.invokestatic 99, 3) := by decide +kernel
theorem dX8_attemptEven_115 : decode cX8_attemptEven 115 = .ok (.aload_n 0, 1) := by decide +kernel
theorem dX8_attemptEven_116 : decode cX8_attemptEven 116 = .ok (.iload_n 2, 1) := by decide +kernel
theorem dX8_attemptEven_117 : decode cX8_attemptEven 117 = .ok (.invokevirtual 109, 3) := by decide +kernel
theorem dX8_attemptEven_120 : decode cX8_attemptEven 120 = .ok (.iconst 0, 1) := by decide +kernel
theorem dX8_attemptEven_121 : decode cX8_attemptEven 121 = .ok (.ireturn, 1) := by decide +kernel
theorem dX8_wantSwing_0 : decode cX8_wantSwing 0 = .ok (.iconst 0, 1) := by decide +kernel
theorem dX8_wantSwing_1 : decode cX8_wantSwing 1 = .ok (.istore_n 2, 1) := by decide +kernel
theorem dX8_wantSwing_2 : decode cX8_wantSwing 2 = .ok (.iconst 0, 1) := by decide +kernel
theorem dX8_wantSwing_3 : decode cX8_wantSwing 3 = .ok (.istore_n 3, 1) := by decide +kernel
theorem dX8_wantSwing_4 : decode cX8_wantSwing 4 = .ok (.iload_n 3, 1) := by decide +kernel
theorem dX8_wantSwing_5 : decode cX8_wantSwing 5 = .ok (.iconst 4, 1) := by decide +kernel
theorem dX8_wantSwing_6 : decode cX8_wantSwing 6 = .ok (.if_icmp .ge 50, 3) := by decide +kernel
theorem dX8_wantSwing_9 : decode cX8_wantSwing 9 = .ok (.iload_n 3, 1) := by decide +kernel
theorem dX8_wantSwing_10 : decode cX8_wantSwing 10 = .ok (.aload_n 0, 1) := by decide +kernel
theorem dX8_wantSwing_11 : decode cX8_wantSwing 11 = .ok (.getfield 22, 3) := by decide +kernel
theorem dX8_wantSwing_14 : decode cX8_wantSwing 14 = .ok (.if_icmp .ge 36, 3) := by decide +kernel
theorem dX8_wantSwing_17 : decode cX8_wantSwing 17 = .ok (.iconst 5, 1) := by decide +kernel
theorem dX8_wantSwing_18 : decode cX8_wantSwing 18 = .ok (.aload_n 0, 1) := by decide +kernel
theorem dX8_wantSwing_19 : decode cX8_wantSwing 19 = .ok (.getfield 9, 3) := by decide +kernel
theorem dX8_wantSwing_22 : decode cX8_wantSwing 22 = .ok (.iload_n 3, 1) := by decide +kernel
theorem dX8_wantSwing_23 : decode cX8_wantSwing 23 = .ok (.iaload, 1) := by decide +kernel
theorem dX8_wantSwing_24 : decode cX8_wantSwing 24 = .ok (.imul, 1) := by decide +kernel
theorem dX8_wantSwing_25 : decode cX8_wantSwing 25 = .ok (.bipush 14, 2) := by decide +kernel
theorem dX8_wantSwing_27 : decode cX8_wantSwing 27 = .ok (.iadd, 1) := by decide +kernel
theorem dX8_wantSwing_28 : decode cX8_wantSwing 28 = .ok (.aload_n 1, 1) := by decide +kernel
theorem dX8_wantSwing_29 : decode cX8_wantSwing 29 = .ok (.getfield 113, 3) := by decide +kernel
theorem dX8_wantSwing_32 : decode cX8_wantSwing 32 = .ok (.iload_n 3, 1) := by decide +kernel
theorem dX8_wantSwing_33 : decode cX8_wantSwing 33 = .ok (.iaload, 1) := by decide +kernel
theorem dX8_wantSwing_34 : decode cX8_wantSwing 34 = .ok (.iconst 2, 1) := by decide +kernel
theorem dX8_wantSwing_35 : decode cX8_wantSwing 35 = .ok (.aload_n 0, 1) := by decide +kernel
theorem dX8_wantSwing_36 : decode cX8_wantSwing 36 = .ok (.getfield 25, 3) := by decide +kernel
theorem dX8_wantSwing_39 : decode cX8_wantSwing 39 = .ok (.imul, 1) := by decide +kernel
theorem dX8_wantSwing_40 : decode cX8_wantSwing 40 = .ok (.iadd, 1) := by decide +kernel
theorem dX8_wantSwing_41 : decode cX8_wantSwing 41 = .ok (.if_icmp .ge 9, 3) := by decide +kernel
theorem dX8_wantSwing_44 : decode cX8_wantSwing 44 = .ok (.iload_n 2, 1) := by decide +kernel
theorem dX8_wantSwing_45 : decode cX8_wantSwing 45 = .ok (.iconst 1, 1) := by decide +kernel
theorem dX8_wantSwing_46 : decode cX8_wantSwing 46 = .ok (.iload_n 3, 1) := by decide +kernel
theorem dX8_wantSwing_47 : decode cX8_wantSwing 47 = .ok (.ishl, 1) := by decide +kernel
theorem dX8_wantSwing_48 : decode cX8_wantSwing 48 = .ok (.ior, 1) := by decide +kernel
theorem dX8_wantSwing_49 : decode cX8_wantSwing 49 = .ok (.istore_n 2, 1) := by decide +kernel
theorem dX8_wantSwing_50 : decode cX8_wantSwing 50 = .ok (.iinc 3 1, 3) := by decide +kernel
theorem dX8_wantSwing_53 : decode cX8_wantSwing 53 = .ok (.goto (-49), 3) := by decide +kernel
theorem dX8_wantSwing_56 : decode cX8_wantSwing 56 = .ok (.iload_n 2, 1) := by decide +kernel
theorem dX8_wantSwing_57 : decode cX8_wantSwing 57 = .ok (.ireturn, 1) := by decide +kernel
theorem dX8_wantEmphasis_0 : decode cX8_wantEmphasis 0 = .ok (.iconst 0, 1) := by decide +kernel
theorem dX8_wantEmphasis_1 : decode cX8_wantEmphasis 1 = .ok (.istore_n 2, 1) := by decide +kernel
theorem dX8_wantEmphasis_2 : decode cX8_wantEmphasis 2 = .ok (.iconst 0, 1) := by decide +kernel
theorem dX8_wantEmphasis_3 : decode cX8_wantEmphasis 3 = .ok (.istore_n 3, 1) := by decide +kernel
theorem dX8_wantEmphasis_4 : decode cX8_wantEmphasis 4 = .ok (.iload_n 3, 1) := by decide +kernel
theorem dX8_wantEmphasis_5 : decode cX8_wantEmphasis 5 = .ok (.iconst 4, 1) := by decide +kernel
theorem dX8_wantEmphasis_6 : decode cX8_wantEmphasis 6 = .ok (.if_icmp .ge 52, 3) := by decide +kernel
theorem dX8_wantEmphasis_9 : decode cX8_wantEmphasis 9 = .ok (.iload_n 3, 1) := by decide +kernel
theorem dX8_wantEmphasis_10 : decode cX8_wantEmphasis 10 = .ok (.aload_n 0, 1) := by decide +kernel
theorem dX8_wantEmphasis_11 : decode cX8_wantEmphasis 11 = .ok (.getfield 22, 3) := by decide +kernel
theorem dX8_wantEmphasis_14 : decode cX8_wantEmphasis 14 = .ok (.if_icmp .ge 38, 3) := by decide +kernel
theorem dX8_wantEmphasis_17 : decode cX8_wantEmphasis 17 = .ok (.iconst 3, 1) := by decide +kernel
theorem dX8_wantEmphasis_18 : decode cX8_wantEmphasis 18 = .ok (.aload_n 0, 1) := by decide +kernel
theorem dX8_wantEmphasis_19 : decode cX8_wantEmphasis 19 = .ok (.getfield 15, 3) := by decide +kernel
theorem dX8_wantEmphasis_22 : decode cX8_wantEmphasis 22 = .ok (.iload_n 3, 1) := by decide +kernel
theorem dX8_wantEmphasis_23 : decode cX8_wantEmphasis 23 = .ok (.iaload, 1) := by decide +kernel
theorem dX8_wantEmphasis_24 : decode cX8_wantEmphasis 24 = .ok (.imul, 1) := by decide +kernel
theorem dX8_wantEmphasis_25 : decode cX8_wantEmphasis 25 = .ok (.bipush 8, 2) := by decide +kernel
theorem dX8_wantEmphasis_27 : decode cX8_wantEmphasis 27 = .ok (.iadd, 1) := by decide +kernel
theorem dX8_wantEmphasis_28 : decode cX8_wantEmphasis 28 = .ok (.aload_n 1, 1) := by decide +kernel
theorem dX8_wantEmphasis_29 : decode cX8_wantEmphasis 29 = .ok (.getfield 113, 3) := by decide +kernel
theorem dX8_wantEmphasis_32 : decode cX8_wantEmphasis 32 = .ok (.iload_n 3, 1) := by decide +kernel
theorem dX8_wantEmphasis_33 : decode cX8_wantEmphasis 33 = .ok (.iaload, 1) := by decide +kernel
theorem dX8_wantEmphasis_34 : decode cX8_wantEmphasis 34 = .ok (.iconst 2, 1) := by decide +kernel
theorem dX8_wantEmphasis_35 : decode cX8_wantEmphasis 35 = .ok (.idiv, 1) := by decide +kernel
theorem dX8_wantEmphasis_36 : decode cX8_wantEmphasis 36 = .ok (.iconst 5, 1) := by decide +kernel
theorem dX8_wantEmphasis_37 : decode cX8_wantEmphasis 37 = .ok (.aload_n 0, 1) := by decide +kernel
theorem dX8_wantEmphasis_38 : decode cX8_wantEmphasis 38 = .ok (.getfield 25, 3) := by decide +kernel
theorem dX8_wantEmphasis_41 : decode cX8_wantEmphasis 41 = .ok (.imul, 1) := by decide +kernel
theorem dX8_wantEmphasis_42 : decode cX8_wantEmphasis 42 = .ok (.iadd, 1) := by decide +kernel
theorem dX8_wantEmphasis_43 : decode cX8_wantEmphasis 43 = .ok (.if_icmp .ge 9, 3) := by decide +kernel
theorem dX8_wantEmphasis_46 : decode cX8_wantEmphasis 46 = .ok (.iload_n 2, 1) := by decide +kernel
theorem dX8_wantEmphasis_47 : decode cX8_wantEmphasis 47 = .ok (.iconst 1, 1) := by decide +kernel
theorem dX8_wantEmphasis_48 : decode cX8_wantEmphasis 48 = .ok (.iload_n 3, 1) := by decide +kernel
theorem dX8_wantEmphasis_49 : decode cX8_wantEmphasis 49 = .ok (.ishl, 1) := by decide +kernel
theorem dX8_wantEmphasis_50 : decode cX8_wantEmphasis 50 = .ok (.ior, 1) := by decide +kernel
theorem dX8_wantEmphasis_51 : decode cX8_wantEmphasis 51 = .ok (.istore_n 2, 1) := by decide +kernel
theorem dX8_wantEmphasis_52 : decode cX8_wantEmphasis 52 = .ok (.iinc 3 1, 3) := by decide +kernel
theorem dX8_wantEmphasis_55 : decode cX8_wantEmphasis 55 = .ok (.goto (-51), 3) := by decide +kernel
theorem dX8_wantEmphasis_58 : decode cX8_wantEmphasis 58 = .ok (.iload_n 2, 1) := by decide +kernel
theorem dX8_wantEmphasis_59 : decode cX8_wantEmphasis 59 = .ok (.ireturn, 1) := by decide +kernel
theorem dX8_fastLanes_0 : decode cX8_fastLanes 0 = .ok (.iconst 0, 1) := by decide +kernel
theorem dX8_fastLanes_1 : decode cX8_fastLanes 1 = .ok (.istore_n 3, 1) := by decide +kernel
theorem dX8_fastLanes_2 : decode cX8_fastLanes 2 = .ok (.iconst 0, 1) := by decide +kernel
theorem dX8_fastLanes_3 : decode cX8_fastLanes 3 = .ok (.istore 4, 2) := by decide +kernel
theorem dX8_fastLanes_5 : decode cX8_fastLanes 5 = .ok (.iload 4, 2) := by decide +kernel
theorem dX8_fastLanes_7 : decode cX8_fastLanes 7 = .ok (.iconst 4, 1) := by decide +kernel
theorem dX8_fastLanes_8 : decode cX8_fastLanes 8 = .ok (.if_icmp .ge 36, 3) := by decide +kernel
theorem dX8_fastLanes_11 : decode cX8_fastLanes 11 = .ok (.iload 4, 2) := by decide +kernel
theorem dX8_fastLanes_13 : decode cX8_fastLanes 13 = .ok (.aload_n 0, 1) := by decide +kernel
theorem dX8_fastLanes_14 : decode cX8_fastLanes 14 = .ok (.getfield 22, 3) := by decide +kernel
theorem dX8_fastLanes_17 : decode cX8_fastLanes 17 = .ok (.if_icmp .ge 21, 3) := by decide +kernel
theorem dX8_fastLanes_20 : decode cX8_fastLanes 20 = .ok (.iload_n 2, 1) := by decide +kernel
theorem dX8_fastLanes_21 : decode cX8_fastLanes 21 = .ok (.aload_n 1, 1) := by decide +kernel
theorem dX8_fastLanes_22 : decode cX8_fastLanes 22 = .ok (.getfield 116, 3) := by decide +kernel
theorem dX8_fastLanes_25 : decode cX8_fastLanes 25 = .ok (.iload 4, 2) := by decide +kernel
theorem dX8_fastLanes_27 : decode cX8_fastLanes 27 = .ok (.iaload, 1) := by decide +kernel
theorem dX8_fastLanes_28 : decode cX8_fastLanes 28 = .ok (.if_icmp .le 10, 3) := by decide +kernel
theorem dX8_fastLanes_31 : decode cX8_fastLanes 31 = .ok (.iload_n 3, 1) := by decide +kernel
theorem dX8_fastLanes_32 : decode cX8_fastLanes 32 = .ok (.iconst 1, 1) := by decide +kernel
theorem dX8_fastLanes_33 : decode cX8_fastLanes 33 = .ok (.iload 4, 2) := by decide +kernel
theorem dX8_fastLanes_35 : decode cX8_fastLanes 35 = .ok (.ishl, 1) := by decide +kernel
theorem dX8_fastLanes_36 : decode cX8_fastLanes 36 = .ok (.ior, 1) := by decide +kernel
theorem dX8_fastLanes_37 : decode cX8_fastLanes 37 = .ok (.istore_n 3, 1) := by decide +kernel
theorem dX8_fastLanes_38 : decode cX8_fastLanes 38 = .ok (.iinc 4 1, 3) := by decide +kernel
theorem dX8_fastLanes_41 : decode cX8_fastLanes 41 = .ok (.goto (-36), 3) := by decide +kernel
theorem dX8_fastLanes_44 : decode cX8_fastLanes 44 = .ok (.iload_n 3, 1) := by decide +kernel
theorem dX8_fastLanes_45 : decode cX8_fastLanes 45 = .ok (.ireturn, 1) := by decide +kernel
theorem dX8_isOneAtTop_0 : decode cX8_isOneAtTop 0 = .ok (.iconst 0, 1) := by decide +kernel
theorem dX8_isOneAtTop_1 : decode cX8_isOneAtTop 1 = .ok (.istore_n 2, 1) := by decide +kernel
theorem dX8_isOneAtTop_2 : decode cX8_isOneAtTop 2 = .ok (.iload_n 2, 1) := by decide +kernel
theorem dX8_isOneAtTop_3 : decode cX8_isOneAtTop 3 = .ok (.aload_n 0, 1) := by decide +kernel
theorem dX8_isOneAtTop_4 : decode cX8_isOneAtTop 4 = .ok (.arraylength, 1) := by decide +kernel
theorem dX8_isOneAtTop_5 : decode cX8_isOneAtTop 5 = .ok (.if_icmp .ge 26, 3) := by decide +kernel
theorem dX8_isOneAtTop_8 : decode cX8_isOneAtTop 8 = .ok (.iload_n 1, 1) := by decide +kernel
theorem dX8_isOneAtTop_9 : decode cX8_isOneAtTop 9 = .ok (.iload_n 2, 1) := by decide +kernel
theorem dX8_isOneAtTop_10 : decode cX8_isOneAtTop 10 = .ok (.ishr, 1) := by decide +kernel
theorem dX8_isOneAtTop_11 : decode cX8_isOneAtTop 11 = .ok (.iconst 1, 1) := by decide +kernel
theorem dX8_isOneAtTop_12 : decode cX8_isOneAtTop 12 = .ok (.iand, 1) := by decide +kernel
theorem dX8_isOneAtTop_13 : decode cX8_isOneAtTop 13 = .ok (.ifCond .eq 12, 3) := by decide +kernel
theorem dX8_isOneAtTop_16 : decode cX8_isOneAtTop 16 = .ok (.aload_n 0, 1) := by decide +kernel
theorem dX8_isOneAtTop_17 : decode cX8_isOneAtTop 17 = .ok (.iload_n 2, 1) := by decide +kernel
theorem dX8_isOneAtTop_18 : decode cX8_isOneAtTop 18 = .ok (.iaload, 1) := by decide +kernel
theorem dX8_isOneAtTop_19 : decode cX8_isOneAtTop 19 = .ok (.iconst 3, 1) := by decide +kernel
theorem dX8_isOneAtTop_20 : decode cX8_isOneAtTop 20 = .ok (.if_icmp .lt 5, 3) := by decide +kernel
theorem dX8_isOneAtTop_23 : decode cX8_isOneAtTop 23 = .ok (.iconst 1, 1) := by decide +kernel
theorem dX8_isOneAtTop_24 : decode cX8_isOneAtTop 24 = .ok (.ireturn, 1) := by decide +kernel
theorem dX8_isOneAtTop_25 : decode cX8_isOneAtTop 25 = .ok (.iinc 2 1, 3) := by decide +kernel
theorem dX8_isOneAtTop_28 : decode cX8_isOneAtTop 28 = .ok (.goto (-26), 3) := by decide +kernel
theorem dX8_isOneAtTop_31 : decode cX8_isOneAtTop 31 = .ok (.iconst 0, 1) := by decide +kernel
theorem dX8_isOneAtTop_32 : decode cX8_isOneAtTop 32 = .ok (.ireturn, 1) := by decide +kernel
theorem dX8_raise_0 : decode cX8_raise 0 = .ok (.iconst 0, 1) := by decide +kernel
theorem dX8_raise_1 : decode cX8_raise 1 = .ok (.istore_n 2, 1) := by decide +kernel
theorem dX8_raise_2 : decode cX8_raise 2 = .ok (.iload_n 2, 1) := by decide +kernel
theorem dX8_raise_3 : decode cX8_raise 3 = .ok (.aload_n 0, 1) := by decide +kernel
theorem dX8_raise_4 : decode cX8_raise 4 = .ok (.arraylength, 1) := by decide +kernel
theorem dX8_raise_5 : decode cX8_raise 5 = .ok (.if_icmp .ge 20, 3) := by decide +kernel
theorem dX8_raise_8 : decode cX8_raise 8 = .ok (.aload_n 0, 1) := by decide +kernel
theorem dX8_raise_9 : decode cX8_raise 9 = .ok (.iload_n 2, 1) := by decide +kernel
theorem dX8_raise_10 : decode cX8_raise 10 = .ok (.dup2, 1) := by decide +kernel
theorem dX8_raise_11 : decode cX8_raise 11 = .ok (.iaload, 1) := by decide +kernel
theorem dX8_raise_12 : decode cX8_raise 12 = .ok (.iload_n 1, 1) := by decide +kernel
theorem dX8_raise_13 : decode cX8_raise 13 = .ok (.iload_n 2, 1) := by decide +kernel
theorem dX8_raise_14 : decode cX8_raise 14 = .ok (.ishr, 1) := by decide +kernel
theorem dX8_raise_15 : decode cX8_raise 15 = .ok (.iconst 1, 1) := by decide +kernel
theorem dX8_raise_16 : decode cX8_raise 16 = .ok (.iand, 1) := by decide +kernel
theorem dX8_raise_17 : decode cX8_raise 17 = .ok (.iadd, 1) := by decide +kernel
theorem dX8_raise_18 : decode cX8_raise 18 = .ok (.iastore, 1) := by decide +kernel
theorem dX8_raise_19 : decode cX8_raise 19 = .ok (.iinc 2 1, 3) := by decide +kernel
theorem dX8_raise_22 : decode cX8_raise 22 = .ok (.goto (-20), 3) := by decide +kernel
theorem dX8_raise_25 : decode cX8_raise 25 = .ok (.return_, 1) := by decide +kernel
theorem dX8_easeSwing_0 : decode cX8_easeSwing 0 = .ok (.iconst 0, 1) := by decide +kernel
theorem dX8_easeSwing_1 : decode cX8_easeSwing 1 = .ok (.istore_n 2, 1) := by decide +kernel
theorem dX8_easeSwing_2 : decode cX8_easeSwing 2 = .ok (.iload_n 2, 1) := by decide +kernel
theorem dX8_easeSwing_3 : decode cX8_easeSwing 3 = .ok (.iconst 4, 1) := by decide +kernel
theorem dX8_easeSwing_4 : decode cX8_easeSwing 4 = .ok (.if_icmp .ge 44, 3) := by decide +kernel
theorem dX8_easeSwing_7 : decode cX8_easeSwing 7 = .ok (.iload_n 1, 1) := by decide +kernel
theorem dX8_easeSwing_8 : decode cX8_easeSwing 8 = .ok (.iload_n 2, 1) := by decide +kernel
theorem dX8_easeSwing_9 : decode cX8_easeSwing 9 = .ok (.ishr, 1) := by decide +kernel
theorem dX8_easeSwing_10 : decode cX8_easeSwing 10 = .ok (.iconst 1, 1) := by decide +kernel
theorem dX8_easeSwing_11 : decode cX8_easeSwing 11 = .ok (.iand, 1) := by decide +kernel
theorem dX8_easeSwing_12 : decode cX8_easeSwing 12 = .ok (.ifCond .eq 30, 3) := by decide +kernel
theorem dX8_easeSwing_15 : decode cX8_easeSwing 15 = .ok (.aload_n 0, 1) := by decide +kernel
theorem dX8_easeSwing_16 : decode cX8_easeSwing 16 = .ok (.getfield 9, 3) := by decide +kernel
theorem dX8_easeSwing_19 : decode cX8_easeSwing 19 = .ok (.iload_n 2, 1) := by decide +kernel
theorem dX8_easeSwing_20 : decode cX8_easeSwing 20 = .ok (.iaload, 1) := by decide +kernel
theorem dX8_easeSwing_21 : decode cX8_easeSwing 21 = .ok (.aload_n 0, 1) := by decide +kernel
theorem dX8_easeSwing_22 : decode cX8_easeSwing 22 = .ok (.getfield 15, 3) := by decide +kernel
theorem dX8_easeSwing_25 : decode cX8_easeSwing 25 = .ok (.iload_n 2, 1) := by decide +kernel
theorem dX8_easeSwing_26 : decode cX8_easeSwing 26 = .ok (.iaload, 1) := by decide +kernel
theorem dX8_easeSwing_27 : decode cX8_easeSwing 27 = .ok (.iadd, 1) := by decide +kernel
theorem dX8_easeSwing_28 : decode cX8_easeSwing 28 = .ok (.iconst 3, 1) := by decide +kernel
theorem dX8_easeSwing_29 : decode cX8_easeSwing 29 = .ok (.if_icmp .le 13, 3) := by decide +kernel
theorem dX8_easeSwing_32 : decode cX8_easeSwing 32 = .ok (.aload_n 0, 1) := by decide +kernel
theorem dX8_easeSwing_33 : decode cX8_easeSwing 33 = .ok (.getfield 9, 3) := by decide +kernel
theorem dX8_easeSwing_36 : decode cX8_easeSwing 36 = .ok (.iload_n 2, 1) := by decide +kernel
theorem dX8_easeSwing_37 : decode cX8_easeSwing 37 = .ok (.dup2, 1) := by decide +kernel
theorem dX8_easeSwing_38 : decode cX8_easeSwing 38 = .ok (.iaload, 1) := by decide +kernel
theorem dX8_easeSwing_39 : decode cX8_easeSwing 39 = .ok (.iconst 1, 1) := by decide +kernel
theorem dX8_easeSwing_40 : decode cX8_easeSwing 40 = .ok (.isub, 1) := by decide +kernel
theorem dX8_easeSwing_41 : decode cX8_easeSwing 41 = .ok (.iastore, 1) := by decide +kernel
theorem dX8_easeSwing_42 : decode cX8_easeSwing 42 = .ok (.iinc 2 1, 3) := by decide +kernel
theorem dX8_easeSwing_45 : decode cX8_easeSwing 45 = .ok (.goto (-43), 3) := by decide +kernel
theorem dX8_easeSwing_48 : decode cX8_easeSwing 48 = .ok (.return_, 1) := by decide +kernel
theorem dX8_drop_0 : decode cX8_drop 0 = .ok (.aload_n 0, 1) := by decide +kernel
theorem dX8_drop_1 : decode cX8_drop 1 = .ok (.dup, 1) := by decide +kernel
theorem dX8_drop_2 : decode cX8_drop 2 = .ok (.getfield 31, 3) := by decide +kernel
theorem dX8_drop_5 : decode cX8_drop 5 = .ok (.iconst 1, 1) := by decide +kernel
theorem dX8_drop_6 : decode cX8_drop 6 = .ok (.iadd, 1) := by decide +kernel
theorem dX8_drop_7 : decode cX8_drop 7 = .ok (.putfield 31, 3) := by decide +kernel
theorem dX8_drop_10 : decode cX8_drop 10 = .ok (.aload_n 0, 1) := by decide +kernel
theorem dX8_drop_11 : decode cX8_drop 11 = .ok (.getfield 22, 3) := by decide +kernel
theorem dX8_drop_14 : decode cX8_drop 14 = .ok (.iconst 1, 1) := by decide +kernel
theorem dX8_drop_15 : decode cX8_drop 15 = .ok (.if_icmp .gt 18, 3) := by decide +kernel
theorem dX8_drop_18 : decode cX8_drop 18 = .ok (.aload_n 0, 1) := by decide +kernel
theorem dX8_drop_19 : decode cX8_drop 19 = .ok (.getfield 25, 3) := by decide +kernel
theorem dX8_drop_22 : decode cX8_drop 22 = .ok (.ifCond .gt 11, 3) := by decide +kernel
theorem dX8_drop_25 : decode cX8_drop 25 = .ok (.aload_n 0, 1) := by decide +kernel
theorem dX8_drop_26 : decode cX8_drop 26 = .ok (.iconst 4, 1) := by decide +kernel
theorem dX8_drop_27 : decode cX8_drop 27 = .ok (.putfield 18, 3) := by decide +kernel
theorem dX8_drop_30 : decode cX8_drop 30 = .ok (.goto 23, 3) := by decide +kernel
theorem dX8_drop_33 : decode cX8_drop 33 = .ok (.aload_n 0, 1) := by decide +kernel
theorem dX8_drop_34 : decode cX8_drop 34 = .ok (.getfield 18, 3) := by decide +kernel
theorem dX8_drop_37 : decode cX8_drop 37 = .ok (.iconst 1, 1) := by decide +kernel
theorem dX8_drop_38 : decode cX8_drop 38 = .ok (.if_icmp .ne 11, 3) := by decide +kernel
theorem dX8_drop_41 : decode cX8_drop 41 = .ok (.aload_n 0, 1) := by decide +kernel
theorem dX8_drop_42 : decode cX8_drop 42 = .ok (.aload_n 1, 1) := by decide +kernel
theorem dX8_drop_43 : decode cX8_drop 43 = .ok (.invokevirtual 119, 3) := by decide +kernel
theorem dX8_drop_46 : decode cX8_drop 46 = .ok (.goto 7, 3) := by decide +kernel
theorem dX8_drop_49 : decode cX8_drop 49 = .ok (.aload_n 0, 1) := by decide +kernel
theorem dX8_drop_50 : decode cX8_drop 50 = .ok (.invokevirtual 122, 3) := by decide +kernel
theorem dX8_drop_53 : decode cX8_drop 53 = .ok (.aload_n 0, 1) := by decide +kernel
theorem dX8_drop_54 : decode cX8_drop 54 = .ok (.invokevirtual 34, 3) := by decide +kernel
theorem dX8_drop_57 : decode cX8_drop 57 = .ok (.return_, 1) := by decide +kernel
theorem dX8_dropFromClock_0 : decode cX8_dropFromClock 0 = .ok (.aload_n 0, 1) := by decide +kernel
theorem dX8_dropFromClock_1 : decode cX8_dropFromClock 1 = .ok (.getfield 25, 3) := by decide +kernel
theorem dX8_dropFromClock_4 : decode cX8_dropFromClock 4 = .ok (.ifCond .le 16, 3) := by decide +kernel
theorem dX8_dropFromClock_7 : decode cX8_dropFromClock 7 = .ok (.aload_n 0, 1) := by decide +kernel
theorem dX8_dropFromClock_8 : decode cX8_dropFromClock 8 = .ok (.dup, 1) := by decide +kernel
theorem dX8_dropFromClock_9 : decode cX8_dropFromClock 9 = .ok (.getfield 25, 3) := by decide +kernel
theorem dX8_dropFromClock_12 : decode cX8_dropFromClock 12 = .ok (.iconst 1, 1) := by decide +kernel
theorem dX8_dropFromClock_13 : decode cX8_dropFromClock 13 = .ok (.isub, 1) := by decide +kernel
theorem dX8_dropFromClock_14 : decode cX8_dropFromClock 14 = .ok (.putfield 25, 3) := by decide +kernel
theorem dX8_dropFromClock_17 : decode cX8_dropFromClock 17 = .ok (.goto 21, 3) := by decide +kernel
theorem dX8_dropFromClock_20 : decode cX8_dropFromClock 20 = .ok (.aload_n 0, 1) := by decide +kernel
theorem dX8_dropFromClock_21 : decode cX8_dropFromClock 21 = .ok (.dup, 1) := by decide +kernel
theorem dX8_dropFromClock_22 : decode cX8_dropFromClock 22 = .ok (.getfield 22, 3) := by decide +kernel
theorem dX8_dropFromClock_25 : decode cX8_dropFromClock 25 = .ok (.iconst 2, 1) := by decide +kernel
theorem dX8_dropFromClock_26 : decode cX8_dropFromClock 26 = .ok (.idiv, 1) := by decide +kernel
theorem dX8_dropFromClock_27 : decode cX8_dropFromClock 27 = .ok (.putfield 22, 3) := by decide +kernel
theorem dX8_dropFromClock_30 : decode cX8_dropFromClock 30 = .ok (.aload_n 0, 1) := by decide +kernel
theorem dX8_dropFromClock_31 : decode cX8_dropFromClock 31 = .ok (.aload_n 1, 1) := by decide +kernel
theorem dX8_dropFromClock_32 : decode cX8_dropFromClock 32 = .ok (.getfield 43, 3) := by decide +kernel
theorem dX8_dropFromClock_35 : decode cX8_dropFromClock 35 = .ok (.putfield 25, 3) := by decide +kernel
theorem dX8_dropFromClock_38 : decode cX8_dropFromClock 38 = .ok (.return_, 1) := by decide +kernel
theorem dX8_dropFromEven_0 : decode cX8_dropFromEven 0 = .ok (.aload_n 0, 1) := by decide +kernel
theorem dX8_dropFromEven_1 : decode cX8_dropFromEven 1 = .ok (.iconst 1, 1) := by decide +kernel
theorem dX8_dropFromEven_2 : decode cX8_dropFromEven 2 = .ok (.putfield 18, 3) := by decide +kernel
theorem dX8_dropFromEven_5 : decode cX8_dropFromEven 5 = .ok (.aload_n 0, 1) := by decide +kernel
theorem dX8_dropFromEven_6 : decode cX8_dropFromEven 6 = .ok (.getfield 22, 3) := by decide +kernel
theorem dX8_dropFromEven_9 : decode cX8_dropFromEven 9 = .ok (.iconst 1, 1) := by decide +kernel
theorem dX8_dropFromEven_10 : decode cX8_dropFromEven 10 = .ok (.if_icmp .le 16, 3) := by decide +kernel
theorem dX8_dropFromEven_13 : decode cX8_dropFromEven 13 = .ok (.aload_n 0, 1) := by decide +kernel
theorem dX8_dropFromEven_14 : decode cX8_dropFromEven 14 = .ok (.dup, 1) := by decide +kernel
theorem dX8_dropFromEven_15 : decode cX8_dropFromEven 15 = .ok (.getfield 22, 3) := by decide +kernel
theorem dX8_dropFromEven_18 : decode cX8_dropFromEven 18 = .ok (.iconst 2, 1) := by decide +kernel
theorem dX8_dropFromEven_19 : decode cX8_dropFromEven 19 = .ok (.idiv, 1) := by decide +kernel
theorem dX8_dropFromEven_20 : decode cX8_dropFromEven 20 = .ok (.putfield 22, 3) := by decide +kernel
theorem dX8_dropFromEven_23 : decode cX8_dropFromEven 23 = .ok (.goto 13, 3) := by decide +kernel
theorem dX8_dropFromEven_26 : decode cX8_dropFromEven 26 = .ok (.aload_n 0, 1) := by decide +kernel
theorem dX8_dropFromEven_27 : decode cX8_dropFromEven 27 = .ok (.dup, 1) := by decide +kernel
theorem dX8_dropFromEven_28 : decode cX8_dropFromEven 28 = .ok (.getfield 25, 3) := by decide +kernel
theorem dX8_dropFromEven_31 : decode cX8_dropFromEven 31 = .ok (.iconst 1, 1) := by decide +kernel
theorem dX8_dropFromEven_32 : decode cX8_dropFromEven 32 = .ok (.isub, 1) := by decide +kernel
theorem dX8_dropFromEven_33 : decode cX8_dropFromEven 33 = .ok (.putfield 25, 3) := by decide +kernel
theorem dX8_dropFromEven_36 : decode cX8_dropFromEven 36 = .ok (.return_, 1) := by decide +kernel
theorem dX8_toFoot_0 : decode cX8_toFoot 0 = .ok (.aload_n 0, 1) := by decide +kernel
theorem dX8_toFoot_1 : decode cX8_toFoot 1 = .ok (.getfield 9, 3) := by decide +kernel
theorem dX8_toFoot_4 : decode cX8_toFoot 4 = .ok (.iconst 0, 1) := by decide +kernel
theorem dX8_toFoot_5 : decode cX8_toFoot 5 = .ok (.invokestatic 125, 3) := by decide +kernel
theorem dX8_toFoot_8 : decode cX8_toFoot 8 = .ok (.aload_n 0, 1) := by decide +kernel
theorem dX8_toFoot_9 : decode cX8_toFoot 9 = .ok (.getfield 15, 3) := by decide +kernel
theorem dX8_toFoot_12 : decode cX8_toFoot 12 = .ok (.iconst 0, 1) := by decide +kernel
theorem dX8_toFoot_13 : decode cX8_toFoot 13 = .ok (.invokestatic 125, 3) := by decide +kernel
theorem dX8_toFoot_16 : decode cX8_toFoot 16 = .ok (.aload_n 0, 1) := by decide +kernel
theorem dX8_toFoot_17 : decode cX8_toFoot 17 = .ok (.iconst 0, 1) := by decide +kernel
theorem dX8_toFoot_18 : decode cX8_toFoot 18 = .ok (.putfield 85, 3) := by decide +kernel
theorem dX8_toFoot_21 : decode cX8_toFoot 21 = .ok (.aload_n 0, 1) := by decide +kernel
theorem dX8_toFoot_22 : decode cX8_toFoot 22 = .ok (.iconst 0, 1) := by decide +kernel
theorem dX8_toFoot_23 : decode cX8_toFoot 23 = .ok (.putfield 103, 3) := by decide +kernel
theorem dX8_toFoot_26 : decode cX8_toFoot 26 = .ok (.aload_n 0, 1) := by decide +kernel
theorem dX8_toFoot_27 : decode cX8_toFoot 27 = .ok (.iconst 0, 1) := by decide +kernel
theorem dX8_toFoot_28 : decode cX8_toFoot 28 = .ok (.putfield 44, 3) := by decide +kernel
theorem dX8_toFoot_31 : decode cX8_toFoot 31 = .ok (.aload_n 0, 1) := by decide +kernel
theorem dX8_toFoot_32 : decode cX8_toFoot 32 = .ok (.iconst 0, 1) := by decide +kernel
theorem dX8_toFoot_33 : decode cX8_toFoot 33 = .ok (.putfield 47, 3) := by decide +kernel
theorem dX8_toFoot_36 : decode cX8_toFoot 36 = .ok (.aload_n 0, 1) := by decide +kernel
theorem dX8_toFoot_37 : decode cX8_toFoot 37 = .ok (.iconst 0, 1) := by decide +kernel
theorem dX8_toFoot_38 : decode cX8_toFoot 38 = .ok (.putfield 75, 3) := by decide +kernel
theorem dX8_toFoot_41 : decode cX8_toFoot 41 = .ok (.return_, 1) := by decide +kernel
theorem dX9_init_0 : decode cX9_init 0 = .ok (.aload_n 0, 1) := by decide +kernel
theorem dX9_init_1 : decode cX9_init 1 = .ok (.invokespecial 3, 3) := by decide +kernel
theorem dX9_init_4 : decode cX9_init 4 = .ok (.aload_n 0, 1) := by decide +kernel
theorem dX9_init_5 : decode cX9_init 5 = .ok (.iconst 4, 1) := by decide +kernel
theorem dX9_init_6 : decode cX9_init 6 = .ok (.newarray .int, 2) := by decide +kernel
theorem dX9_init_8 : decode cX9_init 8 = .ok (.putfield 9, 3) := by decide +kernel
theorem dX9_init_11 : decode cX9_init 11 = .ok (.aload_n 0, 1) := by decide +kernel
theorem dX9_init_12 : decode cX9_init 12 = .ok (.iconst 4, 1) := by decide +kernel
theorem dX9_init_13 : decode cX9_init 13 = .ok (.newarray .int, 2) := by decide +kernel
theorem dX9_init_15 : decode cX9_init 15 = .ok (.putfield 15, 3) := by decide +kernel
theorem dX9_init_18 : decode cX9_init 18 = .ok (.aload_n 0, 1) := by decide +kernel
theorem dX9_init_19 : decode cX9_init 19 = .ok (.iconst 4, 1) := by decide +kernel
theorem dX9_init_20 : decode cX9_init 20 = .ok (.putfield 18, 3) := by decide +kernel
theorem dX9_init_23 : decode cX9_init 23 = .ok (.aload_n 0, 1) := by decide +kernel
theorem dX9_init_24 : decode cX9_init 24 = .ok (.iconst 2, 1) := by decide +kernel
theorem dX9_init_25 : decode cX9_init 25 = .ok (.putfield 22, 3) := by decide +kernel
theorem dX9_init_28 : decode cX9_init 28 = .ok (.return_, 1) := by decide +kernel
theorem dX9_copy_0 : decode cX9_copy 0 = .ok (.aload_n 1, 1) := by decide +kernel
theorem dX9_copy_1 : decode cX9_copy 1 = .ok (.getfield 9, 3) := by decide +kernel
theorem dX9_copy_4 : decode cX9_copy 4 = .ok (.iconst 0, 1) := by decide +kernel
theorem dX9_copy_5 : decode cX9_copy 5 = .ok (.aload_n 0, 1) := by decide +kernel
theorem dX9_copy_6 : decode cX9_copy 6 = .ok (.getfield 9, 3) := by decide +kernel
theorem dX9_copy_9 : decode cX9_copy 9 = .ok (.iconst 0, 1) := by decide +kernel
theorem dX9_copy_10 : decode cX9_copy 10 = .ok (.iconst 4, 1) := by decide +kernel
theorem dX9_copy_11 : decode cX9_copy 11 = .ok (.invokestatic 25, 3) := by decide +kernel
theorem dX9_copy_14 : decode cX9_copy 14 = .ok (.aload_n 1, 1) := by decide +kernel
theorem dX9_copy_15 : decode cX9_copy 15 = .ok (.getfield 15, 3) := by decide +kernel
theorem dX9_copy_18 : decode cX9_copy 18 = .ok (.iconst 0, 1) := by decide +kernel
theorem dX9_copy_19 : decode cX9_copy 19 = .ok (.aload_n 0, 1) := by decide +kernel
theorem dX9_copy_20 : decode cX9_copy 20 = .ok (.getfield 15, 3) := by decide +kernel
theorem dX9_copy_23 : decode cX9_copy 23 = .ok (.iconst 0, 1) := by decide +kernel
theorem dX9_copy_24 : decode cX9_copy 24 = .ok (.iconst 4, 1) := by decide +kernel
theorem dX9_copy_25 : decode cX9_copy 25 = .ok (.invokestatic 25, 3) := by decide +kernel
theorem dX9_copy_28 : decode cX9_copy 28 = .ok (.aload_n 0, 1) := by decide +kernel
theorem dX9_copy_29 : decode cX9_copy 29 = .ok (.aload_n 1, 1) := by decide +kernel
theorem dX9_copy_30 : decode cX9_copy 30 = .ok (.getfield 18, 3) := by decide +kernel
theorem dX9_copy_33 : decode cX9_copy 33 = .ok (.putfield 18, 3) := by decide +kernel
theorem dX9_copy_36 : decode cX9_copy 36 = .ok (.aload_n 0, 1) := by decide +kernel
theorem dX9_copy_37 : decode cX9_copy 37 = .ok (.aload_n 1, 1) := by decide +kernel
theorem dX9_copy_38 : decode cX9_copy 38 = .ok (.getfield 22, 3) := by decide +kernel
theorem dX9_copy_41 : decode cX9_copy 41 = .ok (.putfield 22, 3) := by decide +kernel
theorem dX9_copy_44 : decode cX9_copy 44 = .ok (.return_, 1) := by decide +kernel
theorem dJ5_init_d00df_0 : decode cJ5_init_d00df 0 = .ok (.aload_n 0, 1) := by decide +kernel
theorem dJ5_init_d00df_1 : decode cJ5_init_d00df 1 = .ok (.invokespecial 3, 3) := by decide +kernel
theorem dJ5_init_d00df_4 : decode cJ5_init_d00df 4 = .ok (.getstatic 18, 3) := by decide +kernel
theorem dJ5_init_d00df_7 : decode cJ5_init_d00df 7 = .ok (.ifCond .eq 18, 3) := by decide +kernel
theorem dJ5_init_d00df_10 : decode cJ5_init_d00df 10 = .ok (.aload_n 0, 1) := by decide +kernel
theorem dJ5_init_d00df_11 : decode cJ5_init_d00df 11 = .ok (.iload_n 1, 1) := by decide +kernel
theorem dJ5_init_d00df_12 : decode cJ5_init_d00df 12 = .ok (.newarray .byte, 2) := by decide +kernel
theorem dJ5_init_d00df_14 : decode cJ5_init_d00df 14 = .ok (.putfield 15, 3) := by decide +kernel
theorem dJ5_init_d00df_17 : decode cJ5_init_d00df 17 = .ok (.aload_n 0, 1) := by decide +kernel
theorem dJ5_init_d00df_18 : decode cJ5_init_d00df 18 = .ok (.iconst 0, 1) := by decide +kernel
theorem dJ5_init_d00df_19 : decode cJ5_init_d00df 19 = .ok (.putfield 22, 3) := by decide +kernel
theorem dJ5_init_d00df_22 : decode cJ5_init_d00df 22 = .ok (.goto 16, 3) := by decide +kernel
theorem dJ5_init_d00df_25 : decode cJ5_init_d00df 25 = .ok (.aload_n 0, 1) := by decide +kernel
theorem dJ5_init_d00df_26 : decode cJ5_init_d00df 26 = .ok (.iload_n 1, 1) := by decide +kernel
theorem dJ5_init_d00df_27 : decode cJ5_init_d00df 27 = .ok (.invokestatic 26, 3) := by decide +kernel
theorem dJ5_init_d00df_30 : decode cJ5_init_d00df 30 = .ok (.putfield 15, 3) := by decide +kernel
theorem dJ5_init_d00df_33 : decode cJ5_init_d00df 33 = .ok (.aload_n 0, 1) := by decide +kernel
theorem dJ5_init_d00df_34 : decode cJ5_init_d00df 34 = .ok (.iconst 1, 1) := by decide +kernel
theorem dJ5_init_d00df_35 : decode cJ5_init_d00df 35 = .ok (.putfield 22, 3) := by decide +kernel
theorem dJ5_init_d00df_38 : decode cJ5_init_d00df 38 = .ok (.return_, 1) := by decide +kernel
theorem dJ5_length_8abf5_0 : decode cJ5_length_8abf5 0 = .ok (.aload_n 0, 1) := by decide +kernel
theorem dJ5_length_8abf5_1 : decode cJ5_length_8abf5 1 = .ok (.getfield 79, 3) := by decide +kernel
theorem dJ5_length_8abf5_4 : decode cJ5_length_8abf5 4 = .ok (.ireturn, 1) := by decide +kernel
theorem dJ5_ensureCapacityInternal_d00df_0 : decode cJ5_ensureCapacityInternal_d00df 0 = .ok (.aload_n 0, 1) := by decide +kernel
theorem dJ5_ensureCapacityInternal_d00df_1 : decode cJ5_ensureCapacityInternal_d00df 1 = .ok (.getfield 15, 3) := by decide +kernel
theorem dJ5_ensureCapacityInternal_d00df_4 : decode cJ5_ensureCapacityInternal_d00df 4 = .ok (.arraylength, 1) := by decide +kernel
theorem dJ5_ensureCapacityInternal_d00df_5 : decode cJ5_ensureCapacityInternal_d00df 5 = .ok (.aload_n 0, 1) := by decide +kernel
theorem dJ5_ensureCapacityInternal_d00df_6 : decode cJ5_ensureCapacityInternal_d00df 6 = .ok (.getfield 22, 3) := by decide +kernel
theorem dJ5_ensureCapacityInternal_d00df_9 : decode cJ5_ensureCapacityInternal_d00df 9 = .ok (.ishr, 1) := by decide +kernel
theorem dJ5_ensureCapacityInternal_d00df_10 : decode cJ5_ensureCapacityInternal_d00df 10 = .ok (.istore_n 2, 1) := by decide +kernel
theorem dJ5_ensureCapacityInternal_d00df_11 : decode cJ5_ensureCapacityInternal_d00df 11 = .ok (.iload_n 1, 1) := by decide +kernel
theorem dJ5_ensureCapacityInternal_d00df_12 : decode cJ5_ensureCapacityInternal_d00df 12 = .ok (.iload_n 2, 1) := by decide +kernel
theorem dJ5_ensureCapacityInternal_d00df_13 : decode cJ5_ensureCapacityInternal_d00df 13 = .ok (.isub, 1) := by decide +kernel
theorem dJ5_ensureCapacityInternal_d00df_14 : decode cJ5_ensureCapacityInternal_d00df 14 = .ok (.ifCond .le 24, 3) := by decide +kernel
theorem dJ5_ensureCapacityInternal_d00df_17 : decode cJ5_ensureCapacityInternal_d00df 17 = .ok (.aload_n 0, 1) := by decide +kernel
theorem dJ5_ensureCapacityInternal_d00df_18 : decode cJ5_ensureCapacityInternal_d00df 18 = .ok (.aload_n 0, 1) := by decide +kernel
theorem dJ5_ensureCapacityInternal_d00df_19 : decode cJ5_ensureCapacityInternal_d00df 19 = .ok (.getfield 15, 3) := by decide +kernel
theorem dJ5_ensureCapacityInternal_d00df_22 : decode cJ5_ensureCapacityInternal_d00df 22 = .ok (.aload_n 0, 1) := by decide +kernel
theorem dJ5_ensureCapacityInternal_d00df_23 : decode cJ5_ensureCapacityInternal_d00df 23 = .ok (.iload_n 1, 1) := by decide +kernel
theorem dJ5_ensureCapacityInternal_d00df_24 : decode cJ5_ensureCapacityInternal_d00df 24 = .ok (.invokevirtual 104, 3) := by decide +kernel
theorem dJ5_ensureCapacityInternal_d00df_27 : decode cJ5_ensureCapacityInternal_d00df 27 = .ok (.aload_n 0, 1) := by decide +kernel
theorem dJ5_ensureCapacityInternal_d00df_28 : decode cJ5_ensureCapacityInternal_d00df 28 = .ok (.getfield 22, 3) := by decide +kernel
theorem dJ5_ensureCapacityInternal_d00df_31 : decode cJ5_ensureCapacityInternal_d00df 31 = .ok (.ishl, 1) := by decide +kernel
theorem dJ5_ensureCapacityInternal_d00df_32 : decode cJ5_ensureCapacityInternal_d00df 32 = .ok (.invokestatic 108, 3) := by decide +kernel
theorem dJ5_ensureCapacityInternal_d00df_35 : decode cJ5_ensureCapacityInternal_d00df 35 = .ok (.putfield 15, 3) := by decide +kernel
theorem dJ5_ensureCapacityInternal_d00df_38 : decode cJ5_ensureCapacityInternal_d00df 38 = .ok (.return_, 1) := by decide +kernel
theorem dJ5_newCapacity_0f7a4_0 : decode cJ5_newCapacity_0f7a4 0 = .ok (.aload_n 0, 1) := by decide +kernel
theorem dJ5_newCapacity_0f7a4_1 : decode cJ5_newCapacity_0f7a4 1 = .ok (.getfield 15, 3) := by decide +kernel
theorem dJ5_newCapacity_0f7a4_4 : decode cJ5_newCapacity_0f7a4 4 = .ok (.arraylength, 1) := by decide +kernel
theorem dJ5_newCapacity_0f7a4_5 : decode cJ5_newCapacity_0f7a4 5 = .ok (.istore_n 2, 1) := by decide +kernel
theorem dJ5_newCapacity_0f7a4_6 : decode cJ5_newCapacity_0f7a4 6 = .ok (.iload_n 1, 1) := by decide +kernel
theorem dJ5_newCapacity_0f7a4_7 : decode cJ5_newCapacity_0f7a4 7 = .ok (.aload_n 0, 1) := by decide +kernel
theorem dJ5_newCapacity_0f7a4_8 : decode cJ5_newCapacity_0f7a4 8 = .ok (.getfield 22, 3) := by decide +kernel
theorem dJ5_newCapacity_0f7a4_11 : decode cJ5_newCapacity_0f7a4 11 = .ok (.ishl, 1) := by decide +kernel
theorem dJ5_newCapacity_0f7a4_12 : decode cJ5_newCapacity_0f7a4 12 = .ok (.istore_n 3, 1) := by decide +kernel
theorem dJ5_newCapacity_0f7a4_13 : decode cJ5_newCapacity_0f7a4 13 = .ok (.iload_n 3, 1) := by decide +kernel
theorem dJ5_newCapacity_0f7a4_14 : decode cJ5_newCapacity_0f7a4 14 = .ok (.iload_n 2, 1) := by decide +kernel
theorem dJ5_newCapacity_0f7a4_15 : decode cJ5_newCapacity_0f7a4 15 = .ok (.isub, 1) := by decide +kernel
theorem dJ5_newCapacity_0f7a4_16 : decode cJ5_newCapacity_0f7a4 16 = .ok (.istore 4, 2) := by decide +kernel
theorem dJ5_newCapacity_0f7a4_18 : decode cJ5_newCapacity_0f7a4 18 = .ok (.iload_n 2, 1) := by decide +kernel
theorem dJ5_newCapacity_0f7a4_19 : decode cJ5_newCapacity_0f7a4 19 = .ok (.iload 4, 2) := by decide +kernel
theorem dJ5_newCapacity_0f7a4_21 : decode cJ5_newCapacity_0f7a4 21 = .ok (.iload_n 2, 1) := by decide +kernel
theorem dJ5_newCapacity_0f7a4_22 : decode cJ5_newCapacity_0f7a4 22 = .ok (.iconst 2, 1) := by decide +kernel
theorem dJ5_newCapacity_0f7a4_23 : decode cJ5_newCapacity_0f7a4 23 = .ok (.aload_n 0, 1) := by decide +kernel
theorem dJ5_newCapacity_0f7a4_24 : decode cJ5_newCapacity_0f7a4 24 = .ok (.getfield 22, 3) := by decide +kernel
theorem dJ5_newCapacity_0f7a4_27 : decode cJ5_newCapacity_0f7a4 27 = .ok (.ishl, 1) := by decide +kernel
theorem dJ5_newCapacity_0f7a4_28 : decode cJ5_newCapacity_0f7a4 28 = .ok (.iadd, 1) := by decide +kernel
theorem dJ5_newCapacity_0f7a4_29 : decode cJ5_newCapacity_0f7a4 29 = .ok (.invokestatic 114, 3) := by decide +kernel
theorem dJ5_newCapacity_0f7a4_32 : decode cJ5_newCapacity_0f7a4 32 = .ok (.istore 5, 2) := by decide +kernel
theorem dJ5_newCapacity_0f7a4_34 : decode cJ5_newCapacity_0f7a4 34 = .ok (.iload 5, 2) := by decide +kernel
theorem dJ5_newCapacity_0f7a4_36 : decode cJ5_newCapacity_0f7a4 36 = .ok (.ldc 39, 2) := by decide +kernel
theorem dJ5_newCapacity_0f7a4_38 : decode cJ5_newCapacity_0f7a4 38 = .ok (.if_icmp .ne 13, 3) := by decide +kernel
theorem dJ5_newCapacity_0f7a4_41 : decode cJ5_newCapacity_0f7a4 41 = .ok (.new 120, 3) := by decide +kernel
theorem dJ5_newCapacity_0f7a4_44 : decode cJ5_newCapacity_0f7a4 44 = .ok (.dup, 1) := by decide +kernel
theorem dJ5_newCapacity_0f7a4_45 : decode cJ5_newCapacity_0f7a4 45 = .ok (.ldc 122, 2) := by decide +kernel
theorem dJ5_newCapacity_0f7a4_47 : decode cJ5_newCapacity_0f7a4 47 = .ok (.invokespecial 124, 3) := by decide +kernel
theorem dJ5_newCapacity_0f7a4_50 : decode cJ5_newCapacity_0f7a4 50 = .ok (.athrow, 1) := by decide +kernel
theorem dJ5_newCapacity_0f7a4_51 : decode cJ5_newCapacity_0f7a4 51 = .ok (.iload 5, 2) := by decide +kernel
theorem dJ5_newCapacity_0f7a4_53 : decode cJ5_newCapacity_0f7a4 53 = .ok (.aload_n 0, 1) := by decide +kernel
theorem dJ5_newCapacity_0f7a4_54 : decode cJ5_newCapacity_0f7a4 54 = .ok (.getfield 22, 3) := by decide +kernel
theorem dJ5_newCapacity_0f7a4_57 : decode cJ5_newCapacity_0f7a4 57 = .ok (.ishr, 1) := by decide +kernel
theorem dJ5_newCapacity_0f7a4_58 : decode cJ5_newCapacity_0f7a4 58 = .ok (.ireturn, 1) := by decide +kernel
theorem dJ5_inflate_da8c8_0 : decode cJ5_inflate_da8c8 0 = .ok (.aload_n 0, 1) := by decide +kernel
theorem dJ5_inflate_da8c8_1 : decode cJ5_inflate_da8c8 1 = .ok (.invokevirtual 83, 3) := by decide +kernel
theorem dJ5_inflate_da8c8_4 : decode cJ5_inflate_da8c8 4 = .ok (.ifCond .ne 4, 3) := by decide +kernel
theorem dJ5_inflate_da8c8_7 : decode cJ5_inflate_da8c8 7 = .ok (.return_, 1) := by decide +kernel
theorem dJ5_inflate_da8c8_8 : decode cJ5_inflate_da8c8 8 = .ok (.aload_n 0, 1) := by decide +kernel
theorem dJ5_inflate_da8c8_9 : decode cJ5_inflate_da8c8 9 = .ok (.getfield 15, 3) := by decide +kernel
theorem dJ5_inflate_da8c8_12 : decode cJ5_inflate_da8c8 12 = .ok (.arraylength, 1) := by decide +kernel
theorem dJ5_inflate_da8c8_13 : decode cJ5_inflate_da8c8 13 = .ok (.invokestatic 26, 3) := by decide +kernel
theorem dJ5_inflate_da8c8_16 : decode cJ5_inflate_da8c8 16 = .ok (.astore_n 1, 1) := by decide +kernel
theorem dJ5_inflate_da8c8_17 : decode cJ5_inflate_da8c8 17 = .ok (.aload_n 0, 1) := by decide +kernel
theorem dJ5_inflate_da8c8_18 : decode cJ5_inflate_da8c8 18 = .ok (.getfield 15, 3) := by decide +kernel
theorem dJ5_inflate_da8c8_21 : decode cJ5_inflate_da8c8 21 = .ok (.iconst 0, 1) := by decide +kernel
theorem dJ5_inflate_da8c8_22 : decode cJ5_inflate_da8c8 22 = .ok (.aload_n 1, 1) := by decide +kernel
theorem dJ5_inflate_da8c8_23 : decode cJ5_inflate_da8c8 23 = .ok (.iconst 0, 1) := by decide +kernel
theorem dJ5_inflate_da8c8_24 : decode cJ5_inflate_da8c8 24 = .ok (.aload_n 0, 1) := by decide +kernel
theorem dJ5_inflate_da8c8_25 : decode cJ5_inflate_da8c8 25 = .ok (.getfield 79, 3) := by decide +kernel
theorem dJ5_inflate_da8c8_28 : decode cJ5_inflate_da8c8 28 = .ok (.invokestatic 125, 3) := by decide +kernel
theorem dJ5_inflate_da8c8_31 : decode cJ5_inflate_da8c8 31 = .ok (.aload_n 0, 1) := by decide +kernel
theorem dJ5_inflate_da8c8_32 : decode cJ5_inflate_da8c8 32 = .ok (.aload_n 1, 1) := by decide +kernel
theorem dJ5_inflate_da8c8_33 : decode cJ5_inflate_da8c8 33 = .ok (.putfield 15, 3) := by decide +kernel
theorem dJ5_inflate_da8c8_36 : decode cJ5_inflate_da8c8 36 = .ok (.aload_n 0, 1) := by decide +kernel
theorem dJ5_inflate_da8c8_37 : decode cJ5_inflate_da8c8 37 = .ok (.iconst 1, 1) := by decide +kernel
theorem dJ5_inflate_da8c8_38 : decode cJ5_inflate_da8c8 38 = .ok (.putfield 22, 3) := by decide +kernel
theorem dJ5_inflate_da8c8_41 : decode cJ5_inflate_da8c8 41 = .ok (.return_, 1) := by decide +kernel
theorem dJ5_setLength_d00df_0 : decode cJ5_setLength_d00df 0 = .ok (.iload_n 1, 1) := by decide +kernel
theorem dJ5_setLength_d00df_1 : decode cJ5_setLength_d00df 1 = .ok (.ifCond .ge 12, 3) := by decide +kernel
theorem dJ5_setLength_d00df_4 : decode cJ5_setLength_d00df 4 = .ok (.new 129, 3) := by decide +kernel
theorem dJ5_setLength_d00df_7 : decode cJ5_setLength_d00df 7 = .ok (.dup, 1) := by decide +kernel
theorem dJ5_setLength_d00df_8 : decode cJ5_setLength_d00df 8 = .ok (.iload_n 1, 1) := by decide +kernel
theorem dJ5_setLength_d00df_9 : decode cJ5_setLength_d00df 9 = .ok (.invokespecial 131, 3) := by decide +kernel
theorem dJ5_setLength_d00df_12 : decode cJ5_setLength_d00df 12 = .ok (.athrow, 1) := by decide +kernel
theorem dJ5_setLength_d00df_13 : decode cJ5_setLength_d00df 13 = .ok (.aload_n 0, 1) := by decide +kernel
theorem dJ5_setLength_d00df_14 : decode cJ5_setLength_d00df 14 = .ok (.iload_n 1, 1) := by decide +kernel
theorem dJ5_setLength_d00df_15 : decode cJ5_setLength_d00df 15 = .ok (.invokevirtual 100, 3) := by decide +kernel
theorem dJ5_setLength_d00df_18 : decode cJ5_setLength_d00df 18 = .ok (.aload_n 0, 1) := by decide +kernel
theorem dJ5_setLength_d00df_19 : decode cJ5_setLength_d00df 19 = .ok (.getfield 79, 3) := by decide +kernel
theorem dJ5_setLength_d00df_22 : decode cJ5_setLength_d00df 22 = .ok (.iload_n 1, 1) := by decide +kernel
theorem dJ5_setLength_d00df_23 : decode cJ5_setLength_d00df 23 = .ok (.if_icmp .ge 40, 3) := by decide +kernel
theorem dJ5_setLength_d00df_26 : decode cJ5_setLength_d00df 26 = .ok (.aload_n 0, 1) := by decide +kernel
theorem dJ5_setLength_d00df_27 : decode cJ5_setLength_d00df 27 = .ok (.invokevirtual 83, 3) := by decide +kernel
theorem dJ5_setLength_d00df_30 : decode cJ5_setLength_d00df 30 = .ok (.ifCond .eq 18, 3) := by decide +kernel
theorem dJ5_setLength_d00df_33 : decode cJ5_setLength_d00df 33 = .ok (.aload_n 0, 1) := by decide +kernel
theorem dJ5_setLength_d00df_34 : decode cJ5_setLength_d00df 34 = .ok (.getfield 15, 3) := by decide +kernel
theorem dJ5_setLength_d00df_37 : decode cJ5_setLength_d00df 37 = .ok (.aload_n 0, 1) := by decide +kernel
theorem dJ5_setLength_d00df_38 : decode cJ5_setLength_d00df 38 = .ok (.getfield 79, 3) := by decide +kernel
theorem dJ5_setLength_d00df_41 : decode cJ5_setLength_d00df 41 = .ok (.iload_n 1, 1) := by decide +kernel
theorem dJ5_setLength_d00df_42 : decode cJ5_setLength_d00df 42 = .ok (.invokestatic 133, 3) := by decide +kernel
theorem dJ5_setLength_d00df_45 : decode cJ5_setLength_d00df 45 = .ok (.goto 31, 3) := by decide +kernel
theorem dJ5_setLength_d00df_48 : decode cJ5_setLength_d00df 48 = .ok (.aload_n 0, 1) := by decide +kernel
theorem dJ5_setLength_d00df_49 : decode cJ5_setLength_d00df 49 = .ok (.getfield 15, 3) := by decide +kernel
theorem dJ5_setLength_d00df_52 : decode cJ5_setLength_d00df 52 = .ok (.aload_n 0, 1) := by decide +kernel
theorem dJ5_setLength_d00df_53 : decode cJ5_setLength_d00df 53 = .ok (.getfield 79, 3) := by decide +kernel
theorem dJ5_setLength_d00df_56 : decode cJ5_setLength_d00df 56 = .ok (.iload_n 1, 1) := by decide +kernel
theorem dJ5_setLength_d00df_57 : decode cJ5_setLength_d00df 57 = .ok (.invokestatic 137, 3) := by decide +kernel
theorem dJ5_setLength_d00df_60 : decode cJ5_setLength_d00df 60 = .ok (.goto 16, 3) := by decide +kernel
theorem dJ5_setLength_d00df_63 : decode cJ5_setLength_d00df 63 = .ok (.aload_n 0, 1) := by decide +kernel
theorem dJ5_setLength_d00df_64 : decode cJ5_setLength_d00df 64 = .ok (.getfield 79, 3) := by decide +kernel
theorem dJ5_setLength_d00df_67 : decode cJ5_setLength_d00df 67 = .ok (.iload_n 1, 1) := by decide +kernel
theorem dJ5_setLength_d00df_68 : decode cJ5_setLength_d00df 68 = .ok (.if_icmp .le 8, 3) := by decide +kernel
theorem dJ5_setLength_d00df_71 : decode cJ5_setLength_d00df 71 = .ok (.aload_n 0, 1) := by decide +kernel
theorem dJ5_setLength_d00df_72 : decode cJ5_setLength_d00df 72 = .ok (.iconst 1, 1) := by decide +kernel
theorem dJ5_setLength_d00df_73 : decode cJ5_setLength_d00df 73 = .ok (.putfield 73, 3) := by decide +kernel
theorem dJ5_setLength_d00df_76 : decode cJ5_setLength_d00df 76 = .ok (.aload_n 0, 1) := by decide +kernel
theorem dJ5_setLength_d00df_77 : decode cJ5_setLength_d00df 77 = .ok (.iload_n 1, 1) := by decide +kernel
theorem dJ5_setLength_d00df_78 : decode cJ5_setLength_d00df 78 = .ok (.putfield 79, 3) := by decide +kernel
theorem dJ5_setLength_d00df_81 : decode cJ5_setLength_d00df 81 = .ok (.return_, 1) := by decide +kernel
theorem dJ5_charAt_5068e_0 : decode cJ5_charAt_5068e 0 = .ok (.aload_n 0, 1) := by decide +kernel
theorem dJ5_charAt_5068e_1 : decode cJ5_charAt_5068e 1 = .ok (.getfield 22, 3) := by decide +kernel
theorem dJ5_charAt_5068e_4 : decode cJ5_charAt_5068e 4 = .ok (.istore_n 2, 1) := by decide +kernel
theorem dJ5_charAt_5068e_5 : decode cJ5_charAt_5068e 5 = .ok (.aload_n 0, 1) := by decide +kernel
theorem dJ5_charAt_5068e_6 : decode cJ5_charAt_5068e 6 = .ok (.getfield 15, 3) := by decide +kernel
theorem dJ5_charAt_5068e_9 : decode cJ5_charAt_5068e 9 = .ok (.astore_n 3, 1) := by decide +kernel
theorem dJ5_charAt_5068e_10 : decode cJ5_charAt_5068e 10 = .ok (.aload_n 0, 1) := by decide +kernel
theorem dJ5_charAt_5068e_11 : decode cJ5_charAt_5068e 11 = .ok (.getfield 79, 3) := by decide +kernel
theorem dJ5_charAt_5068e_14 : decode cJ5_charAt_5068e 14 = .ok (.aload_n 3, 1) := by decide +kernel
theorem dJ5_charAt_5068e_15 : decode cJ5_charAt_5068e 15 = .ok (.arraylength, 1) := by decide +kernel
theorem dJ5_charAt_5068e_16 : decode cJ5_charAt_5068e 16 = .ok (.iload_n 2, 1) := by decide +kernel
theorem dJ5_charAt_5068e_17 : decode cJ5_charAt_5068e 17 = .ok (.ishr, 1) := by decide +kernel
theorem dJ5_charAt_5068e_18 : decode cJ5_charAt_5068e 18 = .ok (.invokestatic 138, 3) := by decide +kernel
theorem dJ5_charAt_5068e_21 : decode cJ5_charAt_5068e 21 = .ok (.istore 4, 2) := by decide +kernel
theorem dJ5_charAt_5068e_23 : decode cJ5_charAt_5068e 23 = .ok (.iload_n 1, 1) := by decide +kernel
theorem dJ5_charAt_5068e_24 : decode cJ5_charAt_5068e 24 = .ok (.iload 4, 2) := by decide +kernel
theorem dJ5_charAt_5068e_26 : decode cJ5_charAt_5068e 26 = .ok (.invokestatic 144, 3) := by decide +kernel
theorem dJ5_charAt_5068e_29 : decode cJ5_charAt_5068e 29 = .ok (.iload_n 2, 1) := by decide +kernel
theorem dJ5_charAt_5068e_30 : decode cJ5_charAt_5068e 30 = .ok (.ifCond .ne 12, 3) := by decide +kernel
theorem dJ5_charAt_5068e_33 : decode cJ5_charAt_5068e 33 = .ok (.aload_n 3, 1) := by decide +kernel
theorem dJ5_charAt_5068e_34 : decode cJ5_charAt_5068e 34 = .ok (.iload_n 1, 1) := by decide +kernel
theorem dJ5_charAt_5068e_35 : decode cJ5_charAt_5068e 35 = .ok (.baload, 1) := by decide +kernel
theorem dJ5_charAt_5068e_36 : decode cJ5_charAt_5068e 36 = .ok (.sipush 255, 3) := by decide +kernel
theorem dJ5_charAt_5068e_39 : decode cJ5_charAt_5068e 39 = .ok (.iand, 1) := by decide +kernel
theorem dJ5_charAt_5068e_40 : decode cJ5_charAt_5068e 40 = .ok (.i2c, 1) := by decide +kernel
theorem dJ5_charAt_5068e_41 : decode cJ5_charAt_5068e 41 = .ok (.ireturn, 1) := by decide +kernel
theorem dJ5_charAt_5068e_42 : decode cJ5_charAt_5068e 42 = .ok (.aload_n 3, 1) := by decide +kernel
theorem dJ5_charAt_5068e_43 : decode cJ5_charAt_5068e 43 = .ok (.iload_n 1, 1) := by decide +kernel
theorem dJ5_charAt_5068e_44 : decode cJ5_charAt_5068e 44 = .ok (.invokestatic 148, 3) := by decide +kernel
theorem dJ5_charAt_5068e_47 : decode cJ5_charAt_5068e 47 = .ok (.ireturn, 1) := by decide +kernel
theorem dJ5_append_3fe6f_0 : decode cJ5_append_3fe6f 0 = .ok (.aload_n 0, 1) := by decide +kernel
theorem dJ5_append_3fe6f_1 : decode cJ5_append_3fe6f 1 = .ok (.aload_n 0, 1) := by decide +kernel
theorem dJ5_append_3fe6f_2 : decode cJ5_append_3fe6f 2 = .ok (.getfield 79, 3) := by decide +kernel
theorem dJ5_append_3fe6f_5 : decode cJ5_append_3fe6f 5 = .ok (.iconst 1, 1) := by decide +kernel
theorem dJ5_append_3fe6f_6 : decode cJ5_append_3fe6f 6 = .ok (.iadd, 1) := by decide +kernel
theorem dJ5_append_3fe6f_7 : decode cJ5_append_3fe6f 7 = .ok (.invokevirtual 100, 3) := by decide +kernel
theorem dJ5_append_3fe6f_10 : decode cJ5_append_3fe6f 10 = .ok (.aload_n 0, 1) := by decide +kernel
theorem dJ5_append_3fe6f_11 : decode cJ5_append_3fe6f 11 = .ok (.invokevirtual 83, 3) := by decide +kernel
theorem dJ5_append_3fe6f_14 : decode cJ5_append_3fe6f 14 = .ok (.ifCond .eq 31, 3) := by decide +kernel
theorem dJ5_append_3fe6f_17 : decode cJ5_append_3fe6f 17 = .ok (.iload_n 1, 1) := by decide +kernel
theorem dJ5_append_3fe6f_18 : decode cJ5_append_3fe6f 18 = .ok (.invokestatic 191, 3) := by decide +kernel
theorem dJ5_append_3fe6f_21 : decode cJ5_append_3fe6f 21 = .ok (.ifCond .eq 24, 3) := by decide +kernel
theorem dJ5_append_3fe6f_24 : decode cJ5_append_3fe6f 24 = .ok (.aload_n 0, 1) := by decide +kernel
theorem dJ5_append_3fe6f_25 : decode cJ5_append_3fe6f 25 = .ok (.getfield 15, 3) := by decide +kernel
theorem dJ5_append_3fe6f_28 : decode cJ5_append_3fe6f 28 = .ok (.aload_n 0, 1) := by decide +kernel
theorem dJ5_append_3fe6f_29 : decode cJ5_append_3fe6f 29 = .ok (.dup, 1) := by decide +kernel
theorem dJ5_append_3fe6f_30 : decode cJ5_append_3fe6f 30 = .ok (.getfield 79, 3) := by decide +kernel
theorem dJ5_append_3fe6f_33 : decode cJ5_append_3fe6f 33 = .ok (.dup_x1, 1) := by decide +kernel
theorem dJ5_append_3fe6f_34 : decode cJ5_append_3fe6f 34 = .ok (.iconst 1, 1) := by decide +kernel
theorem dJ5_append_3fe6f_35 : decode cJ5_append_3fe6f 35 = .ok (.iadd, 1) := by decide +kernel
theorem dJ5_append_3fe6f_36 : decode cJ5_append_3fe6f 36 = .ok (.putfield 79, 3) := by decide +kernel
theorem dJ5_append_3fe6f_39 : decode cJ5_append_3fe6f 39 = .ok (.iload_n 1, 1) := by decide +kernel
theorem dJ5_append_3fe6f_40 : decode cJ5_append_3fe6f 40 = .ok (.i2b, 1) := by decide +kernel
theorem dJ5_append_3fe6f_41 : decode cJ5_append_3fe6f 41 = .ok (.bastore, 1) := by decide +kernel
theorem dJ5_append_3fe6f_42 : decode cJ5_append_3fe6f 42 = .ok (.goto 33, 3) := by decide +kernel
theorem dJ5_append_3fe6f_45 : decode cJ5_append_3fe6f 45 = .ok (.aload_n 0, 1) := by decide +kernel
theorem dJ5_append_3fe6f_46 : decode cJ5_append_3fe6f 46 = .ok (.invokevirtual 83, 3) := by decide +kernel
theorem dJ5_append_3fe6f_49 : decode cJ5_append_3fe6f 49 = .ok (.ifCond .eq 7, 3) := by decide +kernel
theorem dJ5_append_3fe6f_52 : decode cJ5_append_3fe6f 52 = .ok (.aload_n 0, 1) := by decide +kernel
theorem dJ5_append_3fe6f_53 : decode cJ5_append_3fe6f 53 = .ok (.invokevirtual 195, 3) := by decide +kernel
theorem dJ5_append_3fe6f_56 : decode cJ5_append_3fe6f 56 = .ok (.aload_n 0, 1) := by decide +kernel
theorem dJ5_append_3fe6f_57 : decode cJ5_append_3fe6f 57 = .ok (.getfield 15, 3) := by decide +kernel
theorem dJ5_append_3fe6f_60 : decode cJ5_append_3fe6f 60 = .ok (.aload_n 0, 1) := by decide +kernel
theorem dJ5_append_3fe6f_61 : decode cJ5_append_3fe6f 61 = .ok (.dup, 1) := by decide +kernel
theorem dJ5_append_3fe6f_62 : decode cJ5_append_3fe6f 62 = .ok (.getfield 79, 3) := by decide +kernel
theorem dJ5_append_3fe6f_65 : decode cJ5_append_3fe6f 65 = .ok (.dup_x1, 1) := by decide +kernel
theorem dJ5_append_3fe6f_66 : decode cJ5_append_3fe6f 66 = .ok (.iconst 1, 1) := by decide +kernel
theorem dJ5_append_3fe6f_67 : decode cJ5_append_3fe6f 67 = .ok (.iadd, 1) := by decide +kernel
theorem dJ5_append_3fe6f_68 : decode cJ5_append_3fe6f 68 = .ok (.putfield 79, 3) := by decide +kernel
theorem dJ5_append_3fe6f_71 : decode cJ5_append_3fe6f 71 = .ok (.iload_n 1, 1) := by decide +kernel
theorem dJ5_append_3fe6f_72 : decode cJ5_append_3fe6f 72 = .ok (.invokestatic 197, 3) := by decide +kernel
theorem dJ5_append_3fe6f_75 : decode cJ5_append_3fe6f 75 = .ok (.aload_n 0, 1) := by decide +kernel
theorem dJ5_append_3fe6f_76 : decode cJ5_append_3fe6f 76 = .ok (.areturn, 1) := by decide +kernel
theorem dJ5_append_c97b9_0 : decode cJ5_append_c97b9 0 = .ok (.aload_n 0, 1) := by decide +kernel
theorem dJ5_append_c97b9_1 : decode cJ5_append_c97b9 1 = .ok (.getfield 79, 3) := by decide +kernel
theorem dJ5_append_c97b9_4 : decode cJ5_append_c97b9 4 = .ok (.istore_n 2, 1) := by decide +kernel
theorem dJ5_append_c97b9_5 : decode cJ5_append_c97b9 5 = .ok (.iload_n 2, 1) := by decide +kernel
theorem dJ5_append_c97b9_6 : decode cJ5_append_c97b9 6 = .ok (.iload_n 1, 1) := by decide +kernel
theorem dJ5_append_c97b9_7 : decode cJ5_append_c97b9 7 = .ok (.invokestatic 245, 3) := by decide +kernel
theorem dJ5_append_c97b9_10 : decode cJ5_append_c97b9 10 = .ok (.iadd, 1) := by decide +kernel
theorem dJ5_append_c97b9_11 : decode cJ5_append_c97b9 11 = .ok (.istore_n 3, 1) := by decide +kernel
theorem dJ5_append_c97b9_12 : decode cJ5_append_c97b9 12 = .ok (.aload_n 0, 1) := by decide +kernel
theorem dJ5_append_c97b9_13 : decode cJ5_append_c97b9 13 = .ok (.iload_n 3, 1) := by decide +kernel
theorem dJ5_append_c97b9_14 : decode cJ5_append_c97b9 14 = .ok (.invokevirtual 100, 3) := by decide +kernel
theorem dJ5_append_c97b9_17 : decode cJ5_append_c97b9 17 = .ok (.aload_n 0, 1) := by decide +kernel
theorem dJ5_append_c97b9_18 : decode cJ5_append_c97b9 18 = .ok (.invokevirtual 83, 3) := by decide +kernel
theorem dJ5_append_c97b9_21 : decode cJ5_append_c97b9 21 = .ok (.ifCond .eq 16, 3) := by decide +kernel
theorem dJ5_append_c97b9_24 : decode cJ5_append_c97b9 24 = .ok (.iload_n 1, 1) := by decide +kernel
theorem dJ5_append_c97b9_25 : decode cJ5_append_c97b9 25 = .ok (.iload_n 3, 1) := by decide +kernel
theorem dJ5_append_c97b9_26 : decode cJ5_append_c97b9 26 = .ok (.aload_n 0, 1) := by decide +kernel
theorem dJ5_append_c97b9_27 : decode cJ5_append_c97b9 27 = .ok (.getfield 15, 3) := by decide +kernel
theorem dJ5_append_c97b9_30 : decode cJ5_append_c97b9 30 = .ok (.invokestatic 248, 3) := by decide +kernel
theorem dJ5_append_c97b9_33 : decode cJ5_append_c97b9 33 = .ok (.pop, 1) := by decide +kernel
theorem dJ5_append_c97b9_34 : decode cJ5_append_c97b9 34 = .ok (.goto 14, 3) := by decide +kernel
theorem dJ5_append_c97b9_37 : decode cJ5_append_c97b9 37 = .ok (.iload_n 1, 1) := by decide +kernel
theorem dJ5_append_c97b9_38 : decode cJ5_append_c97b9 38 = .ok (.iload_n 2, 1) := by decide +kernel
theorem dJ5_append_c97b9_39 : decode cJ5_append_c97b9 39 = .ok (.iload_n 3, 1) := by decide +kernel
theorem dJ5_append_c97b9_40 : decode cJ5_append_c97b9 40 = .ok (.aload_n 0, 1) := by decide +kernel
theorem dJ5_append_c97b9_41 : decode cJ5_append_c97b9 41 = .ok (.getfield 15, 3) := by decide +kernel
theorem dJ5_append_c97b9_44 : decode cJ5_append_c97b9 44 = .ok (.invokestatic 251, 3) := by decide +kernel
theorem dJ5_append_c97b9_47 : decode cJ5_append_c97b9 47 = .ok (.pop, 1) := by decide +kernel
theorem dJ5_append_c97b9_48 : decode cJ5_append_c97b9 48 = .ok (.aload_n 0, 1) := by decide +kernel
theorem dJ5_append_c97b9_49 : decode cJ5_append_c97b9 49 = .ok (.iload_n 3, 1) := by decide +kernel
theorem dJ5_append_c97b9_50 : decode cJ5_append_c97b9 50 = .ok (.putfield 79, 3) := by decide +kernel
theorem dJ5_append_c97b9_53 : decode cJ5_append_c97b9 53 = .ok (.aload_n 0, 1) := by decide +kernel
theorem dJ5_append_c97b9_54 : decode cJ5_append_c97b9 54 = .ok (.areturn, 1) := by decide +kernel
theorem dJ5_isLatin1_aae02_0 : decode cJ5_isLatin1_aae02 0 = .ok (.getstatic 18, 3) := by decide +kernel
theorem dJ5_isLatin1_aae02_3 : decode cJ5_isLatin1_aae02 3 = .ok (.ifCond .eq 14, 3) := by decide +kernel
theorem dJ5_isLatin1_aae02_6 : decode cJ5_isLatin1_aae02 6 = .ok (.aload_n 0, 1) := by decide +kernel
theorem dJ5_isLatin1_aae02_7 : decode cJ5_isLatin1_aae02 7 = .ok (.getfield 22, 3) := by decide +kernel
theorem dJ5_isLatin1_aae02_10 : decode cJ5_isLatin1_aae02 10 = .ok (.ifCond .ne 7, 3) := by decide +kernel
theorem dJ5_isLatin1_aae02_13 : decode cJ5_isLatin1_aae02 13 = .ok (.iconst 1, 1) := by decide +kernel
theorem dJ5_isLatin1_aae02_14 : decode cJ5_isLatin1_aae02 14 = .ok (.goto 4, 3) := by decide +kernel
theorem dJ5_isLatin1_aae02_17 : decode cJ5_isLatin1_aae02 17 = .ok (.iconst 0, 1) := by decide +kernel
theorem dJ5_isLatin1_aae02_18 : decode cJ5_isLatin1_aae02 18 = .ok (.ireturn, 1) := by decide +kernel
theorem dJ6_getChars_ba4f3_0 : decode cJ6_getChars_ba4f3 0 = .ok (.iload_n 1, 1) := by decide +kernel
theorem dJ6_getChars_ba4f3_1 : decode cJ6_getChars_ba4f3 1 = .ok (.istore 5, 2) := by decide +kernel
theorem dJ6_getChars_ba4f3_3 : decode cJ6_getChars_ba4f3 3 = .ok (.iload_n 0, 1) := by decide +kernel
theorem dJ6_getChars_ba4f3_4 : decode cJ6_getChars_ba4f3 4 = .ok (.ifCond .ge 7, 3) := by decide +kernel
theorem dJ6_getChars_ba4f3_7 : decode cJ6_getChars_ba4f3 7 = .ok (.iconst 1, 1) := by decide +kernel
theorem dJ6_getChars_ba4f3_8 : decode cJ6_getChars_ba4f3 8 = .ok (.goto 4, 3) := by decide +kernel
theorem dJ6_getChars_ba4f3_11 : decode cJ6_getChars_ba4f3 11 = .ok (.iconst 0, 1) := by decide +kernel
theorem dJ6_getChars_ba4f3_12 : decode cJ6_getChars_ba4f3 12 = .ok (.istore 6, 2) := by decide +kernel
theorem dJ6_getChars_ba4f3_14 : decode cJ6_getChars_ba4f3 14 = .ok (.iload 6, 2) := by decide +kernel
theorem dJ6_getChars_ba4f3_16 : decode cJ6_getChars_ba4f3 16 = .ok (.ifCond .ne 6, 3) := by decide +kernel
theorem dJ6_getChars_ba4f3_19 : decode cJ6_getChars_ba4f3 19 = .ok (.iload_n 0, 1) := by decide +kernel
theorem dJ6_getChars_ba4f3_20 : decode cJ6_getChars_ba4f3 20 = .ok (.ineg, 1) := by decide +kernel
theorem dJ6_getChars_ba4f3_21 : decode cJ6_getChars_ba4f3 21 = .ok (.istore_n 0, 1) := by decide +kernel
theorem dJ6_getChars_ba4f3_22 : decode cJ6_getChars_ba4f3 22 = .ok (.iload_n 0, 1) := by decide +kernel
theorem dJ6_getChars_ba4f3_23 : decode cJ6_getChars_ba4f3 23 = .ok (.bipush (-100), 2) := by decide +kernel
theorem dJ6_getChars_ba4f3_25 : decode cJ6_getChars_ba4f3 25 = .ok (.if_icmp .gt 47, 3) := by decide +kernel
theorem dJ6_getChars_ba4f3_28 : decode cJ6_getChars_ba4f3 28 = .ok (.iload_n 0, 1) := by decide +kernel
theorem dJ6_getChars_ba4f3_29 : decode cJ6_getChars_ba4f3 29 = .ok (.bipush 100, 2) := by decide +kernel
theorem dJ6_getChars_ba4f3_31 : decode cJ6_getChars_ba4f3 31 = .ok (.idiv, 1) := by decide +kernel
theorem dJ6_getChars_ba4f3_32 : decode cJ6_getChars_ba4f3 32 = .ok (.istore_n 3, 1) := by decide +kernel
theorem dJ6_getChars_ba4f3_33 : decode cJ6_getChars_ba4f3 33 = .ok (.iload_n 3, 1) := by decide +kernel
theorem dJ6_getChars_ba4f3_34 : decode cJ6_getChars_ba4f3 34 = .ok (.bipush 100, 2) := by decide +kernel
theorem dJ6_getChars_ba4f3_36 : decode cJ6_getChars_ba4f3 36 = .ok (.imul, 1) := by decide +kernel
theorem dJ6_getChars_ba4f3_37 : decode cJ6_getChars_ba4f3 37 = .ok (.iload_n 0, 1) := by decide +kernel
theorem dJ6_getChars_ba4f3_38 : decode cJ6_getChars_ba4f3 38 = .ok (.isub, 1) := by decide +kernel
theorem dJ6_getChars_ba4f3_39 : decode cJ6_getChars_ba4f3 39 = .ok (.istore 4, 2) := by decide +kernel
theorem dJ6_getChars_ba4f3_41 : decode cJ6_getChars_ba4f3 41 = .ok (.iload_n 3, 1) := by decide +kernel
theorem dJ6_getChars_ba4f3_42 : decode cJ6_getChars_ba4f3 42 = .ok (.istore_n 0, 1) := by decide +kernel
theorem dJ6_getChars_ba4f3_43 : decode cJ6_getChars_ba4f3 43 = .ok (.aload_n 2, 1) := by decide +kernel
theorem dJ6_getChars_ba4f3_44 : decode cJ6_getChars_ba4f3 44 = .ok (.iinc 5 (-1), 3) := by decide +kernel
theorem dJ6_getChars_ba4f3_47 : decode cJ6_getChars_ba4f3 47 = .ok (.iload 5, 2) := by decide +kernel
theorem dJ6_getChars_ba4f3_49 : decode cJ6_getChars_ba4f3 49 = .ok (.getstatic 83, 3) := by decide +kernel
theorem dJ6_getChars_ba4f3_52 : decode cJ6_getChars_ba4f3 52 = .ok (.iload 4, 2) := by decide +kernel
theorem dJ6_getChars_ba4f3_54 : decode cJ6_getChars_ba4f3 54 = .ok (.baload, 1) := by decide +kernel
theorem dJ6_getChars_ba4f3_55 : decode cJ6_getChars_ba4f3 55 = .ok (.bastore, 1) := by decide +kernel
theorem dJ6_getChars_ba4f3_56 : decode cJ6_getChars_ba4f3 56 = .ok (.aload_n 2, 1) := by decide +kernel
theorem dJ6_getChars_ba4f3_57 : decode cJ6_getChars_ba4f3 57 = .ok (.iinc 5 (-1), 3) := by decide +kernel
theorem dJ6_getChars_ba4f3_60 : decode cJ6_getChars_ba4f3 60 = .ok (.iload 5, 2) := by decide +kernel
theorem dJ6_getChars_ba4f3_62 : decode cJ6_getChars_ba4f3 62 = .ok (.getstatic 87, 3) := by decide +kernel
theorem dJ6_getChars_ba4f3_65 : decode cJ6_getChars_ba4f3 65 = .ok (.iload 4, 2) := by decide +kernel
theorem dJ6_getChars_ba4f3_67 : decode cJ6_getChars_ba4f3 67 = .ok (.baload, 1) := by decide +kernel
theorem dJ6_getChars_ba4f3_68 : decode cJ6_getChars_ba4f3 68 = .ok (.bastore, 1) := by decide +kernel
theorem dJ6_getChars_ba4f3_69 : decode cJ6_getChars_ba4f3 69 = .ok (.goto (-47), 3) := by decide +kernel
theorem dJ6_getChars_ba4f3_72 : decode cJ6_getChars_ba4f3 72 = .ok (.aload_n 2, 1) := by decide +kernel
theorem dJ6_getChars_ba4f3_73 : decode cJ6_getChars_ba4f3 73 = .ok (.iinc 5 (-1), 3) := by decide +kernel
theorem dJ6_getChars_ba4f3_76 : decode cJ6_getChars_ba4f3 76 = .ok (.iload 5, 2) := by decide +kernel
theorem dJ6_getChars_ba4f3_78 : decode cJ6_getChars_ba4f3 78 = .ok (.getstatic 83, 3) := by decide +kernel
theorem dJ6_getChars_ba4f3_81 : decode cJ6_getChars_ba4f3 81 = .ok (.iload_n 0, 1) := by decide +kernel
theorem dJ6_getChars_ba4f3_82 : decode cJ6_getChars_ba4f3 82 = .ok (.ineg, 1) := by decide +kernel
theorem dJ6_getChars_ba4f3_83 : decode cJ6_getChars_ba4f3 83 = .ok (.baload, 1) := by decide +kernel
theorem dJ6_getChars_ba4f3_84 : decode cJ6_getChars_ba4f3 84 = .ok (.bastore, 1) := by decide +kernel
theorem dJ6_getChars_ba4f3_85 : decode cJ6_getChars_ba4f3 85 = .ok (.iload_n 0, 1) := by decide +kernel
theorem dJ6_getChars_ba4f3_86 : decode cJ6_getChars_ba4f3 86 = .ok (.bipush (-9), 2) := by decide +kernel
theorem dJ6_getChars_ba4f3_88 : decode cJ6_getChars_ba4f3 88 = .ok (.if_icmp .ge 16, 3) := by decide +kernel
theorem dJ6_getChars_ba4f3_91 : decode cJ6_getChars_ba4f3 91 = .ok (.aload_n 2, 1) := by decide +kernel
theorem dJ6_getChars_ba4f3_92 : decode cJ6_getChars_ba4f3 92 = .ok (.iinc 5 (-1), 3) := by decide +kernel
theorem dJ6_getChars_ba4f3_95 : decode cJ6_getChars_ba4f3 95 = .ok (.iload 5, 2) := by decide +kernel
theorem dJ6_getChars_ba4f3_97 : decode cJ6_getChars_ba4f3 97 = .ok (.getstatic 87, 3) := by decide +kernel
theorem dJ6_getChars_ba4f3_100 : decode cJ6_getChars_ba4f3 100 = .ok (.iload_n 0, 1) := by decide +kernel
theorem dJ6_getChars_ba4f3_101 : decode cJ6_getChars_ba4f3 101 = .ok (.ineg, 1) := by decide +kernel
theorem dJ6_getChars_ba4f3_102 : decode cJ6_getChars_ba4f3 102 = .ok (.baload, 1) := by decide +kernel
theorem dJ6_getChars_ba4f3_103 : decode cJ6_getChars_ba4f3 103 = .ok (.bastore, 1) := by decide +kernel
theorem dJ6_getChars_ba4f3_104 : decode cJ6_getChars_ba4f3 104 = .ok (.iload 6, 2) := by decide +kernel
theorem dJ6_getChars_ba4f3_106 : decode cJ6_getChars_ba4f3 106 = .ok (.ifCond .eq 12, 3) := by decide +kernel
theorem dJ6_getChars_ba4f3_109 : decode cJ6_getChars_ba4f3 109 = .ok (.aload_n 2, 1) := by decide +kernel
theorem dJ6_getChars_ba4f3_110 : decode cJ6_getChars_ba4f3 110 = .ok (.iinc 5 (-1), 3) := by decide +kernel
theorem dJ6_getChars_ba4f3_113 : decode cJ6_getChars_ba4f3 113 = .ok (.iload 5, 2) := by decide +kernel
theorem dJ6_getChars_ba4f3_115 : decode cJ6_getChars_ba4f3 115 = .ok (.bipush 45, 2) := by decide +kernel
theorem dJ6_getChars_ba4f3_117 : decode cJ6_getChars_ba4f3 117 = .ok (.bastore, 1) := by decide +kernel
theorem dJ6_getChars_ba4f3_118 : decode cJ6_getChars_ba4f3 118 = .ok (.iload 5, 2) := by decide +kernel
theorem dJ6_getChars_ba4f3_120 : decode cJ6_getChars_ba4f3 120 = .ok (.ireturn, 1) := by decide +kernel
theorem dJ6_stringSize_0f7a4_0 : decode cJ6_stringSize_0f7a4 0 = .ok (.iconst 1, 1) := by decide +kernel
theorem dJ6_stringSize_0f7a4_1 : decode cJ6_stringSize_0f7a4 1 = .ok (.istore_n 1, 1) := by decide +kernel
theorem dJ6_stringSize_0f7a4_2 : decode cJ6_stringSize_0f7a4 2 = .ok (.iload_n 0, 1) := by decide +kernel
theorem dJ6_stringSize_0f7a4_3 : decode cJ6_stringSize_0f7a4 3 = .ok (.ifCond .lt 8, 3) := by decide +kernel
theorem dJ6_stringSize_0f7a4_6 : decode cJ6_stringSize_0f7a4 6 = .ok (.iconst 0, 1) := by decide +kernel
theorem dJ6_stringSize_0f7a4_7 : decode cJ6_stringSize_0f7a4 7 = .ok (.istore_n 1, 1) := by decide +kernel
theorem dJ6_stringSize_0f7a4_8 : decode cJ6_stringSize_0f7a4 8 = .ok (.iload_n 0, 1) := by decide +kernel
theorem dJ6_stringSize_0f7a4_9 : decode cJ6_stringSize_0f7a4 9 = .ok (.ineg, 1) := by decide +kernel
theorem dJ6_stringSize_0f7a4_10 : decode cJ6_stringSize_0f7a4 10 = .ok (.istore_n 0, 1) := by decide +kernel
theorem dJ6_stringSize_0f7a4_11 : decode cJ6_stringSize_0f7a4 11 = .ok (.bipush (-10), 2) := by decide +kernel
theorem dJ6_stringSize_0f7a4_13 : decode cJ6_stringSize_0f7a4 13 = .ok (.istore_n 2, 1) := by decide +kernel
theorem dJ6_stringSize_0f7a4_14 : decode cJ6_stringSize_0f7a4 14 = .ok (.iconst 1, 1) := by decide +kernel
theorem dJ6_stringSize_0f7a4_15 : decode cJ6_stringSize_0f7a4 15 = .ok (.istore_n 3, 1) := by decide +kernel
theorem dJ6_stringSize_0f7a4_16 : decode cJ6_stringSize_0f7a4 16 = .ok (.iload_n 3, 1) := by decide +kernel
theorem dJ6_stringSize_0f7a4_17 : decode cJ6_stringSize_0f7a4 17 = .ok (.bipush 10, 2) := by decide +kernel
theorem dJ6_stringSize_0f7a4_19 : decode cJ6_stringSize_0f7a4 19 = .ok (.if_icmp .ge 23, 3) := by decide +kernel
theorem dJ6_stringSize_0f7a4_22 : decode cJ6_stringSize_0f7a4 22 = .ok (.iload_n 0, 1) := by decide +kernel
theorem dJ6_stringSize_0f7a4_23 : decode cJ6_stringSize_0f7a4 23 = .ok (.iload_n 2, 1) := by decide +kernel
theorem dJ6_stringSize_0f7a4_24 : decode cJ6_stringSize_0f7a4 24 = .ok (.if_icmp .le 7, 3) := by decide +kernel
theorem dJ6_stringSize_0f7a4_27 : decode cJ6_stringSize_0f7a4 27 = .ok (.iload_n 3, 1) := by decide +kernel
theorem dJ6_stringSize_0f7a4_28 : decode cJ6_stringSize_0f7a4 28 = .ok (.iload_n 1, 1) := by decide +kernel
theorem dJ6_stringSize_0f7a4_29 : decode cJ6_stringSize_0f7a4 29 = .ok (.iadd, 1) := by decide +kernel
theorem dJ6_stringSize_0f7a4_30 : decode cJ6_stringSize_0f7a4 30 = .ok (.ireturn, 1) := by decide +kernel
theorem dJ6_stringSize_0f7a4_31 : decode cJ6_stringSize_0f7a4 31 = .ok (.bipush 10, 2) := by decide +kernel
theorem dJ6_stringSize_0f7a4_33 : decode cJ6_stringSize_0f7a4 33 = .ok (.iload_n 2, 1) := by decide +kernel
theorem dJ6_stringSize_0f7a4_34 : decode cJ6_stringSize_0f7a4 34 = .ok (.imul, 1) := by decide +kernel
theorem dJ6_stringSize_0f7a4_35 : decode cJ6_stringSize_0f7a4 35 = .ok (.istore_n 2, 1) := by decide +kernel
theorem dJ6_stringSize_0f7a4_36 : decode cJ6_stringSize_0f7a4 36 = .ok (.iinc 3 1, 3) := by decide +kernel
theorem dJ6_stringSize_0f7a4_39 : decode cJ6_stringSize_0f7a4 39 = .ok (.goto (-23), 3) := by decide +kernel
theorem dJ6_stringSize_0f7a4_42 : decode cJ6_stringSize_0f7a4 42 = .ok (.bipush 10, 2) := by decide +kernel
theorem dJ6_stringSize_0f7a4_44 : decode cJ6_stringSize_0f7a4 44 = .ok (.iload_n 1, 1) := by decide +kernel
theorem dJ6_stringSize_0f7a4_45 : decode cJ6_stringSize_0f7a4 45 = .ok (.iadd, 1) := by decide +kernel
theorem dJ6_stringSize_0f7a4_46 : decode cJ6_stringSize_0f7a4 46 = .ok (.ireturn, 1) := by decide +kernel
theorem dJ9_max_7cf53_0 : decode cJ9_max_7cf53 0 = .ok (.iload_n 0, 1) := by decide +kernel
theorem dJ9_max_7cf53_1 : decode cJ9_max_7cf53 1 = .ok (.iload_n 1, 1) := by decide +kernel
theorem dJ9_max_7cf53_2 : decode cJ9_max_7cf53 2 = .ok (.if_icmp .lt 7, 3) := by decide +kernel
theorem dJ9_max_7cf53_5 : decode cJ9_max_7cf53 5 = .ok (.iload_n 0, 1) := by decide +kernel
theorem dJ9_max_7cf53_6 : decode cJ9_max_7cf53 6 = .ok (.goto 4, 3) := by decide +kernel
theorem dJ9_max_7cf53_9 : decode cJ9_max_7cf53 9 = .ok (.iload_n 1, 1) := by decide +kernel
theorem dJ9_max_7cf53_10 : decode cJ9_max_7cf53 10 = .ok (.ireturn, 1) := by decide +kernel
theorem dJ9_min_7cf53_0 : decode cJ9_min_7cf53 0 = .ok (.iload_n 0, 1) := by decide +kernel
theorem dJ9_min_7cf53_1 : decode cJ9_min_7cf53 1 = .ok (.iload_n 1, 1) := by decide +kernel
theorem dJ9_min_7cf53_2 : decode cJ9_min_7cf53 2 = .ok (.if_icmp .gt 7, 3) := by decide +kernel
theorem dJ9_min_7cf53_5 : decode cJ9_min_7cf53 5 = .ok (.iload_n 0, 1) := by decide +kernel
theorem dJ9_min_7cf53_6 : decode cJ9_min_7cf53 6 = .ok (.goto 4, 3) := by decide +kernel
theorem dJ9_min_7cf53_9 : decode cJ9_min_7cf53 9 = .ok (.iload_n 1, 1) := by decide +kernel
theorem dJ9_min_7cf53_10 : decode cJ9_min_7cf53 10 = .ok (.ireturn, 1) := by decide +kernel
theorem dJ9_min_f86c9_0 : decode cJ9_min_f86c9 0 = .ok (.lload_n 0, 1) := by decide +kernel
theorem dJ9_min_f86c9_1 : decode cJ9_min_f86c9 1 = .ok (.lload_n 2, 1) := by decide +kernel
theorem dJ9_min_f86c9_2 : decode cJ9_min_f86c9 2 = .ok (.lcmp, 1) := by decide +kernel
theorem dJ9_min_f86c9_3 : decode cJ9_min_f86c9 3 = .ok (.ifCond .gt 7, 3) := by decide +kernel
theorem dJ9_min_f86c9_6 : decode cJ9_min_f86c9 6 = .ok (.lload_n 0, 1) := by decide +kernel
theorem dJ9_min_f86c9_7 : decode cJ9_min_f86c9 7 = .ok (.goto 4, 3) := by decide +kernel
theorem dJ9_min_f86c9_10 : decode cJ9_min_f86c9 10 = .ok (.lload_n 2, 1) := by decide +kernel
theorem dJ9_min_f86c9_11 : decode cJ9_min_f86c9 11 = .ok (.lreturn, 1) := by decide +kernel
theorem dJ0_checkIndex_df160_0 : decode cJ0_checkIndex_df160 0 = .ok (.iload_n 0, 1) := by decide +kernel
theorem dJ0_checkIndex_df160_1 : decode cJ0_checkIndex_df160 1 = .ok (.iload_n 1, 1) := by decide +kernel
theorem dJ0_checkIndex_df160_2 : decode cJ0_checkIndex_df160 2 = .ok (.getstatic 1053, 3) := by decide +kernel
theorem dJ0_checkIndex_df160_5 : decode cJ0_checkIndex_df160 5 = .ok (.invokestatic 1059, 3) := by decide +kernel
theorem dJ0_checkIndex_df160_8 : decode cJ0_checkIndex_df160 8 = .ok (.pop, 1) := by decide +kernel
theorem dJ0_checkIndex_df160_9 : decode cJ0_checkIndex_df160 9 = .ok (.return_, 1) := by decide +kernel
theorem dJ0_checkBoundsOffCount_cabcc_0 : decode cJ0_checkBoundsOffCount_cabcc 0 = .ok (.iload_n 0, 1) := by decide +kernel
theorem dJ0_checkBoundsOffCount_cabcc_1 : decode cJ0_checkBoundsOffCount_cabcc 1 = .ok (.iload_n 1, 1) := by decide +kernel
theorem dJ0_checkBoundsOffCount_cabcc_2 : decode cJ0_checkBoundsOffCount_cabcc 2 = .ok (.iload_n 2, 1) := by decide +kernel
theorem dJ0_checkBoundsOffCount_cabcc_3 : decode cJ0_checkBoundsOffCount_cabcc 3 = .ok (.getstatic 1053, 3) := by decide +kernel
theorem dJ0_checkBoundsOffCount_cabcc_6 : decode cJ0_checkBoundsOffCount_cabcc 6 = .ok (.invokestatic 1065, 3) := by decide +kernel
theorem dJ0_checkBoundsOffCount_cabcc_9 : decode cJ0_checkBoundsOffCount_cabcc 9 = .ok (.ireturn, 1) := by decide +kernel
theorem dJ0_checkBoundsBeginEnd_23922_0 : decode cJ0_checkBoundsBeginEnd_23922 0 = .ok (.iload_n 0, 1) := by decide +kernel
theorem dJ0_checkBoundsBeginEnd_23922_1 : decode cJ0_checkBoundsBeginEnd_23922 1 = .ok (.iload_n 1, 1) := by decide +kernel
theorem dJ0_checkBoundsBeginEnd_23922_2 : decode cJ0_checkBoundsBeginEnd_23922 2 = .ok (.iload_n 2, 1) := by decide +kernel
theorem dJ0_checkBoundsBeginEnd_23922_3 : decode cJ0_checkBoundsBeginEnd_23922 3 = .ok (.getstatic 1053, 3) := by decide +kernel
theorem dJ0_checkBoundsBeginEnd_23922_6 : decode cJ0_checkBoundsBeginEnd_23922 6 = .ok (.invokestatic 1062, 3) := by decide +kernel
theorem dJ0_checkBoundsBeginEnd_23922_9 : decode cJ0_checkBoundsBeginEnd_23922 9 = .ok (.pop, 1) := by decide +kernel
theorem dJ0_checkBoundsBeginEnd_23922_10 : decode cJ0_checkBoundsBeginEnd_23922 10 = .ok (.return_, 1) := by decide +kernel
theorem dJ4_init_da8c8_0 : decode cJ4_init_da8c8 0 = .ok (.aload_n 0, 1) := by decide +kernel
theorem dJ4_init_da8c8_1 : decode cJ4_init_da8c8 1 = .ok (.bipush 16, 2) := by decide +kernel
theorem dJ4_init_da8c8_3 : decode cJ4_init_da8c8 3 = .ok (.invokespecial 1, 3) := by decide +kernel
theorem dJ4_init_da8c8_6 : decode cJ4_init_da8c8 6 = .ok (.return_, 1) := by decide +kernel
theorem dJ4_append_cf468_0 : decode cJ4_append_cf468 0 = .ok (.aload_n 0, 1) := by decide +kernel
theorem dJ4_append_cf468_1 : decode cJ4_append_cf468 1 = .ok (.iload_n 1, 1) := by decide +kernel
theorem dJ4_append_cf468_2 : decode cJ4_append_cf468 2 = .ok (.invokespecial 50, 3) := by decide +kernel
theorem dJ4_append_cf468_5 : decode cJ4_append_cf468 5 = .ok (.pop, 1) := by decide +kernel
theorem dJ4_append_cf468_6 : decode cJ4_append_cf468 6 = .ok (.aload_n 0, 1) := by decide +kernel
theorem dJ4_append_cf468_7 : decode cJ4_append_cf468 7 = .ok (.areturn, 1) := by decide +kernel
theorem dJ4_append_bf812_0 : decode cJ4_append_bf812 0 = .ok (.aload_n 0, 1) := by decide +kernel
theorem dJ4_append_bf812_1 : decode cJ4_append_bf812 1 = .ok (.iload_n 1, 1) := by decide +kernel
theorem dJ4_append_bf812_2 : decode cJ4_append_bf812 2 = .ok (.invokespecial 53, 3) := by decide +kernel
theorem dJ4_append_bf812_5 : decode cJ4_append_bf812 5 = .ok (.pop, 1) := by decide +kernel
theorem dJ4_append_bf812_6 : decode cJ4_append_bf812 6 = .ok (.aload_n 0, 1) := by decide +kernel
theorem dJ4_append_bf812_7 : decode cJ4_append_bf812 7 = .ok (.areturn, 1) := by decide +kernel
theorem dJ4_charAt_5068e_0 : decode cJ4_charAt_5068e 0 = .ok (.aload_n 0, 1) := by decide +kernel
theorem dJ4_charAt_5068e_1 : decode cJ4_charAt_5068e 1 = .ok (.iload_n 1, 1) := by decide +kernel
theorem dJ4_charAt_5068e_2 : decode cJ4_charAt_5068e 2 = .ok (.invokespecial 329, 3) := by decide +kernel
theorem dJ4_charAt_5068e_5 : decode cJ4_charAt_5068e 5 = .ok (.ireturn, 1) := by decide +kernel
theorem dJ4_setLength_d00df_0 : decode cJ4_setLength_d00df 0 = .ok (.aload_n 0, 1) := by decide +kernel
theorem dJ4_setLength_d00df_1 : decode cJ4_setLength_d00df 1 = .ok (.iload_n 1, 1) := by decide +kernel
theorem dJ4_setLength_d00df_2 : decode cJ4_setLength_d00df 2 = .ok (.invokespecial 333, 3) := by decide +kernel
theorem dJ4_setLength_d00df_5 : decode cJ4_setLength_d00df 5 = .ok (.return_, 1) := by decide +kernel
theorem dJ4_length_8abf5_0 : decode cJ4_length_8abf5 0 = .ok (.aload_n 0, 1) := by decide +kernel
theorem dJ4_length_8abf5_1 : decode cJ4_length_8abf5 1 = .ok (.invokespecial 343, 3) := by decide +kernel
theorem dJ4_length_8abf5_4 : decode cJ4_length_8abf5 4 = .ok (.ireturn, 1) := by decide +kernel
theorem dJ1_canEncode_fc78d_0 : decode cJ1_canEncode_fc78d 0 = .ok (.iload_n 0, 1) := by decide +kernel
theorem dJ1_canEncode_fc78d_1 : decode cJ1_canEncode_fc78d 1 = .ok (.sipush 255, 3) := by decide +kernel
theorem dJ1_canEncode_fc78d_4 : decode cJ1_canEncode_fc78d 4 = .ok (.if_icmp .gt 7, 3) := by decide +kernel
theorem dJ1_canEncode_fc78d_7 : decode cJ1_canEncode_fc78d 7 = .ok (.iconst 1, 1) := by decide +kernel
theorem dJ1_canEncode_fc78d_8 : decode cJ1_canEncode_fc78d 8 = .ok (.goto 4, 3) := by decide +kernel
theorem dJ1_canEncode_fc78d_11 : decode cJ1_canEncode_fc78d 11 = .ok (.iconst 0, 1) := by decide +kernel
theorem dJ1_canEncode_fc78d_12 : decode cJ1_canEncode_fc78d 12 = .ok (.ireturn, 1) := by decide +kernel
theorem dJ1_fillNull_b72d1_0 : decode cJ1_fillNull_b72d1 0 = .ok (.aload_n 0, 1) := by decide +kernel
theorem dJ1_fillNull_b72d1_1 : decode cJ1_fillNull_b72d1 1 = .ok (.iload_n 1, 1) := by decide +kernel
theorem dJ1_fillNull_b72d1_2 : decode cJ1_fillNull_b72d1 2 = .ok (.iload_n 2, 1) := by decide +kernel
theorem dJ1_fillNull_b72d1_3 : decode cJ1_fillNull_b72d1 3 = .ok (.iconst 0, 1) := by decide +kernel
theorem dJ1_fillNull_b72d1_4 : decode cJ1_fillNull_b72d1 4 = .ok (.invokestatic 236, 3) := by decide +kernel
theorem dJ1_fillNull_b72d1_7 : decode cJ1_fillNull_b72d1 7 = .ok (.return_, 1) := by decide +kernel
theorem dJ1_inflate_0e8fd_0 : decode cJ1_inflate_0e8fd 0 = .ok (.aload_n 0, 1) := by decide +kernel
theorem dJ1_inflate_0e8fd_1 : decode cJ1_inflate_0e8fd 1 = .ok (.iload_n 1, 1) := by decide +kernel
theorem dJ1_inflate_0e8fd_2 : decode cJ1_inflate_0e8fd 2 = .ok (.aload_n 2, 1) := by decide +kernel
theorem dJ1_inflate_0e8fd_3 : decode cJ1_inflate_0e8fd 3 = .ok (.iload_n 3, 1) := by decide +kernel
theorem dJ1_inflate_0e8fd_4 : decode cJ1_inflate_0e8fd 4 = .ok (.iload 4, 2) := by decide +kernel
theorem dJ1_inflate_0e8fd_6 : decode cJ1_inflate_0e8fd 6 = .ok (.invokestatic 240, 3) := by decide +kernel
theorem dJ1_inflate_0e8fd_9 : decode cJ1_inflate_0e8fd 9 = .ok (.return_, 1) := by decide +kernel
theorem dJ2_newBytesFor_77867_0 : decode cJ2_newBytesFor_77867 0 = .ok (.iload_n 0, 1) := by decide +kernel
theorem dJ2_newBytesFor_77867_1 : decode cJ2_newBytesFor_77867 1 = .ok (.invokestatic 11, 3) := by decide +kernel
theorem dJ2_newBytesFor_77867_4 : decode cJ2_newBytesFor_77867 4 = .ok (.newarray .byte, 2) := by decide +kernel
theorem dJ2_newBytesFor_77867_6 : decode cJ2_newBytesFor_77867 6 = .ok (.areturn, 1) := by decide +kernel
theorem dJ2_newBytesLength_0f7a4_0 : decode cJ2_newBytesLength_0f7a4 0 = .ok (.iload_n 0, 1) := by decide +kernel
theorem dJ2_newBytesLength_0f7a4_1 : decode cJ2_newBytesLength_0f7a4 1 = .ok (.ifCond .ge 11, 3) := by decide +kernel
theorem dJ2_newBytesLength_0f7a4_4 : decode cJ2_newBytesLength_0f7a4 4 = .ok (.new 17, 3) := by decide +kernel
theorem dJ2_newBytesLength_0f7a4_7 : decode cJ2_newBytesLength_0f7a4 7 = .ok (.dup, 1) := by decide +kernel
theorem dJ2_newBytesLength_0f7a4_8 : decode cJ2_newBytesLength_0f7a4 8 = .ok (.invokespecial 19, 3) := by decide +kernel
theorem dJ2_newBytesLength_0f7a4_11 : decode cJ2_newBytesLength_0f7a4 11 = .ok (.athrow, 1) := by decide +kernel
theorem dJ2_newBytesLength_0f7a4_12 : decode cJ2_newBytesLength_0f7a4 12 = .ok (.iload_n 0, 1) := by decide +kernel
theorem dJ2_newBytesLength_0f7a4_13 : decode cJ2_newBytesLength_0f7a4 13 = .ok (.ldc 20, 2) := by decide +kernel
theorem dJ2_newBytesLength_0f7a4_15 : decode cJ2_newBytesLength_0f7a4 15 = .ok (.if_icmp .lt 40, 3) := by decide +kernel
theorem dJ2_newBytesLength_0f7a4_18 : decode cJ2_newBytesLength_0f7a4 18 = .ok (.new 21, 3) := by decide +kernel
theorem dJ2_newBytesLength_0f7a4_21 : decode cJ2_newBytesLength_0f7a4 21 = .ok (.dup, 1) := by decide +kernel
theorem dJ2_newBytesLength_0f7a4_22 : decode cJ2_newBytesLength_0f7a4 22 = .ok (.new 23, 3) := by decide +kernel
theorem dJ2_newBytesLength_0f7a4_25 : decode cJ2_newBytesLength_0f7a4 25 = .ok (.dup, 1) := by decide +kernel
theorem dJ2_newBytesLength_0f7a4_26 : decode cJ2_newBytesLength_0f7a4 26 = .ok (.invokespecial 25, 3) := by decide +kernel
theorem dJ2_newBytesLength_0f7a4_29 : decode cJ2_newBytesLength_0f7a4 29 = .ok (.ldc 26, 2) := by decide +kernel
theorem dJ2_newBytesLength_0f7a4_31 : decode cJ2_newBytesLength_0f7a4 31 = .ok (.invokevirtual 28, 3) := by decide +kernel
theorem dJ2_newBytesLength_0f7a4_34 : decode cJ2_newBytesLength_0f7a4 34 = .ok (.iload_n 0, 1) := by decide +kernel
theorem dJ2_newBytesLength_0f7a4_35 : decode cJ2_newBytesLength_0f7a4 35 = .ok (.invokevirtual 32, 3) := by decide +kernel
theorem dJ2_newBytesLength_0f7a4_38 : decode cJ2_newBytesLength_0f7a4 38 = .ok (.ldc 35, 2) := by decide +kernel
theorem dJ2_newBytesLength_0f7a4_40 : decode cJ2_newBytesLength_0f7a4 40 = .ok (.invokevirtual 28, 3) := by decide +kernel
theorem dJ2_newBytesLength_0f7a4_43 : decode cJ2_newBytesLength_0f7a4 43 = .ok (.ldc 20, 2) := by decide +kernel
theorem dJ2_newBytesLength_0f7a4_45 : decode cJ2_newBytesLength_0f7a4 45 = .ok (.invokevirtual 32, 3) := by decide +kernel
theorem dJ2_newBytesLength_0f7a4_48 : decode cJ2_newBytesLength_0f7a4 48 = .ok (.invokevirtual 37, 3) := by decide +kernel
theorem dJ2_newBytesLength_0f7a4_51 : decode cJ2_newBytesLength_0f7a4 51 = .ok (.invokespecial 41, 3) := by decide +kernel
theorem dJ2_newBytesLength_0f7a4_54 : decode cJ2_newBytesLength_0f7a4 54 = .ok (.athrow, 1) := by decide +kernel
theorem dJ2_newBytesLength_0f7a4_55 : decode cJ2_newBytesLength_0f7a4 55 = .ok (.iload_n 0, 1) := by decide +kernel
theorem dJ2_newBytesLength_0f7a4_56 : decode cJ2_newBytesLength_0f7a4 56 = .ok (.iconst 1, 1) := by decide +kernel
theorem dJ2_newBytesLength_0f7a4_57 : decode cJ2_newBytesLength_0f7a4 57 = .ok (.ishl, 1) := by decide +kernel
theorem dJ2_newBytesLength_0f7a4_58 : decode cJ2_newBytesLength_0f7a4 58 = .ok (.ireturn, 1) := by decide +kernel
theorem dJ2_putChar_b72d1_0 : decode cJ2_putChar_b72d1 0 = .ok (.getstatic 44, 3) := by decide +kernel
theorem dJ2_putChar_b72d1_3 : decode cJ2_putChar_b72d1 3 = .ok (.ifCond .ne 25, 3) := by decide +kernel
theorem dJ2_putChar_b72d1_6 : decode cJ2_putChar_b72d1 6 = .ok (.iload_n 1, 1) := by decide +kernel
theorem dJ2_putChar_b72d1_7 : decode cJ2_putChar_b72d1 7 = .ok (.ifCond .lt 11, 3) := by decide +kernel
theorem dJ2_putChar_b72d1_10 : decode cJ2_putChar_b72d1 10 = .ok (.iload_n 1, 1) := by decide +kernel
theorem dJ2_putChar_b72d1_11 : decode cJ2_putChar_b72d1 11 = .ok (.aload_n 0, 1) := by decide +kernel
theorem dJ2_putChar_b72d1_12 : decode cJ2_putChar_b72d1 12 = .ok (.invokestatic 48, 3) := by decide +kernel
theorem dJ2_putChar_b72d1_15 : decode cJ2_putChar_b72d1 15 = .ok (.if_icmp .lt 13, 3) := by decide +kernel
theorem dJ2_putChar_b72d1_18 : decode cJ2_putChar_b72d1 18 = .ok (.new 52, 3) := by decide +kernel
theorem dJ2_putChar_b72d1_21 : decode cJ2_putChar_b72d1 21 = .ok (.dup, 1) := by decide +kernel
theorem dJ2_putChar_b72d1_22 : decode cJ2_putChar_b72d1 22 = .ok (.ldc 54, 2) := by decide +kernel
theorem dJ2_putChar_b72d1_24 : decode cJ2_putChar_b72d1 24 = .ok (.invokespecial 56, 3) := by decide +kernel
theorem dJ2_putChar_b72d1_27 : decode cJ2_putChar_b72d1 27 = .ok (.athrow, 1) := by decide +kernel
theorem dJ2_putChar_b72d1_28 : decode cJ2_putChar_b72d1 28 = .ok (.iload_n 1, 1) := by decide +kernel
theorem dJ2_putChar_b72d1_29 : decode cJ2_putChar_b72d1 29 = .ok (.iconst 1, 1) := by decide +kernel
theorem dJ2_putChar_b72d1_30 : decode cJ2_putChar_b72d1 30 = .ok (.ishl, 1) := by decide +kernel
theorem dJ2_putChar_b72d1_31 : decode cJ2_putChar_b72d1 31 = .ok (.istore_n 1, 1) := by decide +kernel
theorem dJ2_putChar_b72d1_32 : decode cJ2_putChar_b72d1 32 = .ok (.aload_n 0, 1) := by decide +kernel
theorem dJ2_putChar_b72d1_33 : decode cJ2_putChar_b72d1 33 = .ok (.iload_n 1, 1) := by decide +kernel
theorem dJ2_putChar_b72d1_34 : decode cJ2_putChar_b72d1 34 = .ok (.iinc 1 1, 3) := by decide +kernel
theorem dJ2_putChar_b72d1_37 : decode cJ2_putChar_b72d1 37 = .ok (.iload_n 2, 1) := by decide +kernel
theorem dJ2_putChar_b72d1_38 : decode cJ2_putChar_b72d1 38 = .ok (.getstatic 59, 3) := by decide +kernel
theorem dJ2_putChar_b72d1_41 : decode cJ2_putChar_b72d1 41 = .ok (.ishr, 1) := by decide +kernel
theorem dJ2_putChar_b72d1_42 : decode cJ2_putChar_b72d1 42 = .ok (.i2b, 1) := by decide +kernel
theorem dJ2_putChar_b72d1_43 : decode cJ2_putChar_b72d1 43 = .ok (.bastore, 1) := by decide +kernel
theorem dJ2_putChar_b72d1_44 : decode cJ2_putChar_b72d1 44 = .ok (.aload_n 0, 1) := by decide +kernel
theorem dJ2_putChar_b72d1_45 : decode cJ2_putChar_b72d1 45 = .ok (.iload_n 1, 1) := by decide +kernel
theorem dJ2_putChar_b72d1_46 : decode cJ2_putChar_b72d1 46 = .ok (.iload_n 2, 1) := by decide +kernel
theorem dJ2_putChar_b72d1_47 : decode cJ2_putChar_b72d1 47 = .ok (.getstatic 63, 3) := by decide +kernel
theorem dJ2_putChar_b72d1_50 : decode cJ2_putChar_b72d1 50 = .ok (.ishr, 1) := by decide +kernel
theorem dJ2_putChar_b72d1_51 : decode cJ2_putChar_b72d1 51 = .ok (.i2b, 1) := by decide +kernel
theorem dJ2_putChar_b72d1_52 : decode cJ2_putChar_b72d1 52 = .ok (.bastore, 1) := by decide +kernel
theorem dJ2_putChar_b72d1_53 : decode cJ2_putChar_b72d1 53 = .ok (.return_, 1) := by decide +kernel
theorem dJ2_getChar_3b067_0 : decode cJ2_getChar_3b067 0 = .ok (.getstatic 44, 3) := by decide +kernel
theorem dJ2_getChar_3b067_3 : decode cJ2_getChar_3b067 3 = .ok (.ifCond .ne 25, 3) := by decide +kernel
theorem dJ2_getChar_3b067_6 : decode cJ2_getChar_3b067 6 = .ok (.iload_n 1, 1) := by decide +kernel
theorem dJ2_getChar_3b067_7 : decode cJ2_getChar_3b067 7 = .ok (.ifCond .lt 11, 3) := by decide +kernel
theorem dJ2_getChar_3b067_10 : decode cJ2_getChar_3b067 10 = .ok (.iload_n 1, 1) := by decide +kernel
theorem dJ2_getChar_3b067_11 : decode cJ2_getChar_3b067 11 = .ok (.aload_n 0, 1) := by decide +kernel
theorem dJ2_getChar_3b067_12 : decode cJ2_getChar_3b067 12 = .ok (.invokestatic 48, 3) := by decide +kernel
theorem dJ2_getChar_3b067_15 : decode cJ2_getChar_3b067 15 = .ok (.if_icmp .lt 13, 3) := by decide +kernel
theorem dJ2_getChar_3b067_18 : decode cJ2_getChar_3b067 18 = .ok (.new 52, 3) := by decide +kernel
theorem dJ2_getChar_3b067_21 : decode cJ2_getChar_3b067 21 = .ok (.dup, 1) := by decide +kernel
theorem dJ2_getChar_3b067_22 : decode cJ2_getChar_3b067 22 = .ok (.ldc 54, 2) := by decide +kernel
theorem dJ2_getChar_3b067_24 : decode cJ2_getChar_3b067 24 = .ok (.invokespecial 56, 3) := by decide +kernel
theorem dJ2_getChar_3b067_27 : decode cJ2_getChar_3b067 27 = .ok (.athrow, 1) := by decide +kernel
theorem dJ2_getChar_3b067_28 : decode cJ2_getChar_3b067 28 = .ok (.iload_n 1, 1) := by decide +kernel
theorem dJ2_getChar_3b067_29 : decode cJ2_getChar_3b067 29 = .ok (.iconst 1, 1) := by decide +kernel
theorem dJ2_getChar_3b067_30 : decode cJ2_getChar_3b067 30 = .ok (.ishl, 1) := by decide +kernel
theorem dJ2_getChar_3b067_31 : decode cJ2_getChar_3b067 31 = .ok (.istore_n 1, 1) := by decide +kernel
theorem dJ2_getChar_3b067_32 : decode cJ2_getChar_3b067 32 = .ok (.aload_n 0, 1) := by decide +kernel
theorem dJ2_getChar_3b067_33 : decode cJ2_getChar_3b067 33 = .ok (.iload_n 1, 1) := by decide +kernel
theorem dJ2_getChar_3b067_34 : decode cJ2_getChar_3b067 34 = .ok (.iinc 1 1, 3) := by decide +kernel
theorem dJ2_getChar_3b067_37 : decode cJ2_getChar_3b067 37 = .ok (.baload, 1) := by decide +kernel
theorem dJ2_getChar_3b067_38 : decode cJ2_getChar_3b067 38 = .ok (.sipush 255, 3) := by decide +kernel
theorem dJ2_getChar_3b067_41 : decode cJ2_getChar_3b067 41 = .ok (.iand, 1) := by decide +kernel
theorem dJ2_getChar_3b067_42 : decode cJ2_getChar_3b067 42 = .ok (.getstatic 59, 3) := by decide +kernel
theorem dJ2_getChar_3b067_45 : decode cJ2_getChar_3b067 45 = .ok (.ishl, 1) := by decide +kernel
theorem dJ2_getChar_3b067_46 : decode cJ2_getChar_3b067 46 = .ok (.aload_n 0, 1) := by decide +kernel
theorem dJ2_getChar_3b067_47 : decode cJ2_getChar_3b067 47 = .ok (.iload_n 1, 1) := by decide +kernel
theorem dJ2_getChar_3b067_48 : decode cJ2_getChar_3b067 48 = .ok (.baload, 1) := by decide +kernel
theorem dJ2_getChar_3b067_49 : decode cJ2_getChar_3b067 49 = .ok (.sipush 255, 3) := by decide +kernel
theorem dJ2_getChar_3b067_52 : decode cJ2_getChar_3b067 52 = .ok (.iand, 1) := by decide +kernel
theorem dJ2_getChar_3b067_53 : decode cJ2_getChar_3b067 53 = .ok (.getstatic 63, 3) := by decide +kernel
theorem dJ2_getChar_3b067_56 : decode cJ2_getChar_3b067 56 = .ok (.ishl, 1) := by decide +kernel
theorem dJ2_getChar_3b067_57 : decode cJ2_getChar_3b067 57 = .ok (.ior, 1) := by decide +kernel
theorem dJ2_getChar_3b067_58 : decode cJ2_getChar_3b067 58 = .ok (.i2c, 1) := by decide +kernel
theorem dJ2_getChar_3b067_59 : decode cJ2_getChar_3b067 59 = .ok (.ireturn, 1) := by decide +kernel
theorem dJ2_length_9d52b_0 : decode cJ2_length_9d52b 0 = .ok (.aload_n 0, 1) := by decide +kernel
theorem dJ2_length_9d52b_1 : decode cJ2_length_9d52b 1 = .ok (.arraylength, 1) := by decide +kernel
theorem dJ2_length_9d52b_2 : decode cJ2_length_9d52b 2 = .ok (.iconst 1, 1) := by decide +kernel
theorem dJ2_length_9d52b_3 : decode cJ2_length_9d52b 3 = .ok (.ishr, 1) := by decide +kernel
theorem dJ2_length_9d52b_4 : decode cJ2_length_9d52b 4 = .ok (.ireturn, 1) := by decide +kernel
theorem dJ2_fillNull_b72d1_0 : decode cJ2_fillNull_b72d1 0 = .ok (.aload_n 0, 1) := by decide +kernel
theorem dJ2_fillNull_b72d1_1 : decode cJ2_fillNull_b72d1 1 = .ok (.iload_n 1, 1) := by decide +kernel
theorem dJ2_fillNull_b72d1_2 : decode cJ2_fillNull_b72d1 2 = .ok (.iconst 1, 1) := by decide +kernel
theorem dJ2_fillNull_b72d1_3 : decode cJ2_fillNull_b72d1 3 = .ok (.ishl, 1) := by decide +kernel
theorem dJ2_fillNull_b72d1_4 : decode cJ2_fillNull_b72d1 4 = .ok (.iload_n 2, 1) := by decide +kernel
theorem dJ2_fillNull_b72d1_5 : decode cJ2_fillNull_b72d1 5 = .ok (.iconst 1, 1) := by decide +kernel
theorem dJ2_fillNull_b72d1_6 : decode cJ2_fillNull_b72d1 6 = .ok (.ishl, 1) := by decide +kernel
theorem dJ2_fillNull_b72d1_7 : decode cJ2_fillNull_b72d1 7 = .ok (.iconst 0, 1) := by decide +kernel
theorem dJ2_fillNull_b72d1_8 : decode cJ2_fillNull_b72d1 8 = .ok (.invokestatic 380, 3) := by decide +kernel
theorem dJ2_fillNull_b72d1_11 : decode cJ2_fillNull_b72d1 11 = .ok (.return_, 1) := by decide +kernel
theorem dJ2_putCharSB_b72d1_0 : decode cJ2_putCharSB_b72d1 0 = .ok (.iload_n 1, 1) := by decide +kernel
theorem dJ2_putCharSB_b72d1_1 : decode cJ2_putCharSB_b72d1 1 = .ok (.aload_n 0, 1) := by decide +kernel
theorem dJ2_putCharSB_b72d1_2 : decode cJ2_putCharSB_b72d1 2 = .ok (.invokestatic 67, 3) := by decide +kernel
theorem dJ2_putCharSB_b72d1_5 : decode cJ2_putCharSB_b72d1 5 = .ok (.aload_n 0, 1) := by decide +kernel
theorem dJ2_putCharSB_b72d1_6 : decode cJ2_putCharSB_b72d1 6 = .ok (.iload_n 1, 1) := by decide +kernel
theorem dJ2_putCharSB_b72d1_7 : decode cJ2_putCharSB_b72d1 7 = .ok (.iload_n 2, 1) := by decide +kernel
theorem dJ2_putCharSB_b72d1_8 : decode cJ2_putCharSB_b72d1 8 = .ok (.invokestatic 111, 3) := by decide +kernel
theorem dJ2_putCharSB_b72d1_11 : decode cJ2_putCharSB_b72d1 11 = .ok (.return_, 1) := by decide +kernel
theorem dJ2_getChars_46870_0 : decode cJ2_getChars_46870 0 = .ok (.iload_n 1, 1) := by decide +kernel
theorem dJ2_getChars_46870_1 : decode cJ2_getChars_46870 1 = .ok (.iload_n 2, 1) := by decide +kernel
theorem dJ2_getChars_46870_2 : decode cJ2_getChars_46870 2 = .ok (.aload_n 3, 1) := by decide +kernel
theorem dJ2_getChars_46870_3 : decode cJ2_getChars_46870 3 = .ok (.invokestatic 96, 3) := by decide +kernel
theorem dJ2_getChars_46870_6 : decode cJ2_getChars_46870 6 = .ok (.iload_n 0, 1) := by decide +kernel
theorem dJ2_getChars_46870_7 : decode cJ2_getChars_46870 7 = .ok (.iload_n 2, 1) := by decide +kernel
theorem dJ2_getChars_46870_8 : decode cJ2_getChars_46870 8 = .ok (.aload_n 3, 1) := by decide +kernel
theorem dJ2_getChars_46870_9 : decode cJ2_getChars_46870 9 = .ok (.invokestatic 393, 3) := by decide +kernel
theorem dJ2_getChars_46870_12 : decode cJ2_getChars_46870 12 = .ok (.istore 4, 2) := by decide +kernel
theorem dJ2_getChars_46870_14 : decode cJ2_getChars_46870 14 = .ok (.getstatic 44, 3) := by decide +kernel
theorem dJ2_getChars_46870_17 : decode cJ2_getChars_46870 17 = .ok (.ifCond .ne 17, 3) := by decide +kernel
theorem dJ2_getChars_46870_20 : decode cJ2_getChars_46870 20 = .ok (.iload_n 1, 1) := by decide +kernel
theorem dJ2_getChars_46870_21 : decode cJ2_getChars_46870 21 = .ok (.iload 4, 2) := by decide +kernel
theorem dJ2_getChars_46870_23 : decode cJ2_getChars_46870 23 = .ok (.if_icmp .eq 11, 3) := by decide +kernel
theorem dJ2_getChars_46870_26 : decode cJ2_getChars_46870 26 = .ok (.new 52, 3) := by decide +kernel
theorem dJ2_getChars_46870_29 : decode cJ2_getChars_46870 29 = .ok (.dup, 1) := by decide +kernel
theorem dJ2_getChars_46870_30 : decode cJ2_getChars_46870 30 = .ok (.invokespecial 66, 3) := by decide +kernel
theorem dJ2_getChars_46870_33 : decode cJ2_getChars_46870 33 = .ok (.athrow, 1) := by decide +kernel
theorem dJ2_getChars_46870_34 : decode cJ2_getChars_46870 34 = .ok (.iload 4, 2) := by decide +kernel
theorem dJ2_getChars_46870_36 : decode cJ2_getChars_46870 36 = .ok (.ireturn, 1) := by decide +kernel
theorem dJ2_inflate_0e8fd_0 : decode cJ2_inflate_0e8fd 0 = .ok (.iload_n 3, 1) := by decide +kernel
theorem dJ2_inflate_0e8fd_1 : decode cJ2_inflate_0e8fd 1 = .ok (.iload 4, 2) := by decide +kernel
theorem dJ2_inflate_0e8fd_3 : decode cJ2_inflate_0e8fd 3 = .ok (.aload_n 2, 1) := by decide +kernel
theorem dJ2_inflate_0e8fd_4 : decode cJ2_inflate_0e8fd 4 = .ok (.invokestatic 173, 3) := by decide +kernel
theorem dJ2_inflate_0e8fd_7 : decode cJ2_inflate_0e8fd 7 = .ok (.iconst 0, 1) := by decide +kernel
theorem dJ2_inflate_0e8fd_8 : decode cJ2_inflate_0e8fd 8 = .ok (.istore 5, 2) := by decide +kernel
theorem dJ2_inflate_0e8fd_10 : decode cJ2_inflate_0e8fd 10 = .ok (.iload 5, 2) := by decide +kernel
theorem dJ2_inflate_0e8fd_12 : decode cJ2_inflate_0e8fd 12 = .ok (.iload 4, 2) := by decide +kernel
theorem dJ2_inflate_0e8fd_14 : decode cJ2_inflate_0e8fd 14 = .ok (.if_icmp .ge 27, 3) := by decide +kernel
theorem dJ2_inflate_0e8fd_17 : decode cJ2_inflate_0e8fd 17 = .ok (.aload_n 2, 1) := by decide +kernel
theorem dJ2_inflate_0e8fd_18 : decode cJ2_inflate_0e8fd 18 = .ok (.iload_n 3, 1) := by decide +kernel
theorem dJ2_inflate_0e8fd_19 : decode cJ2_inflate_0e8fd 19 = .ok (.iinc 3 1, 3) := by decide +kernel
theorem dJ2_inflate_0e8fd_22 : decode cJ2_inflate_0e8fd 22 = .ok (.aload_n 0, 1) := by decide +kernel
theorem dJ2_inflate_0e8fd_23 : decode cJ2_inflate_0e8fd 23 = .ok (.iload_n 1, 1) := by decide +kernel
theorem dJ2_inflate_0e8fd_24 : decode cJ2_inflate_0e8fd 24 = .ok (.iinc 1 1, 3) := by decide +kernel
theorem dJ2_inflate_0e8fd_27 : decode cJ2_inflate_0e8fd 27 = .ok (.baload, 1) := by decide +kernel
theorem dJ2_inflate_0e8fd_28 : decode cJ2_inflate_0e8fd 28 = .ok (.sipush 255, 3) := by decide +kernel
theorem dJ2_inflate_0e8fd_31 : decode cJ2_inflate_0e8fd 31 = .ok (.iand, 1) := by decide +kernel
theorem dJ2_inflate_0e8fd_32 : decode cJ2_inflate_0e8fd 32 = .ok (.invokestatic 111, 3) := by decide +kernel
theorem dJ2_inflate_0e8fd_35 : decode cJ2_inflate_0e8fd 35 = .ok (.iinc 5 1, 3) := by decide +kernel
theorem dJ2_inflate_0e8fd_38 : decode cJ2_inflate_0e8fd 38 = .ok (.goto (-28), 3) := by decide +kernel
theorem dJ2_inflate_0e8fd_41 : decode cJ2_inflate_0e8fd 41 = .ok (.return_, 1) := by decide +kernel
theorem dJ2_getChars_ba4f3_0 : decode cJ2_getChars_ba4f3 0 = .ok (.iload_n 1, 1) := by decide +kernel
theorem dJ2_getChars_ba4f3_1 : decode cJ2_getChars_ba4f3 1 = .ok (.istore 5, 2) := by decide +kernel
theorem dJ2_getChars_ba4f3_3 : decode cJ2_getChars_ba4f3 3 = .ok (.iload_n 0, 1) := by decide +kernel
theorem dJ2_getChars_ba4f3_4 : decode cJ2_getChars_ba4f3 4 = .ok (.ifCond .ge 7, 3) := by decide +kernel
theorem dJ2_getChars_ba4f3_7 : decode cJ2_getChars_ba4f3 7 = .ok (.iconst 1, 1) := by decide +kernel
theorem dJ2_getChars_ba4f3_8 : decode cJ2_getChars_ba4f3 8 = .ok (.goto 4, 3) := by decide +kernel
theorem dJ2_getChars_ba4f3_11 : decode cJ2_getChars_ba4f3 11 = .ok (.iconst 0, 1) := by decide +kernel
theorem dJ2_getChars_ba4f3_12 : decode cJ2_getChars_ba4f3 12 = .ok (.istore 6, 2) := by decide +kernel
theorem dJ2_getChars_ba4f3_14 : decode cJ2_getChars_ba4f3 14 = .ok (.iload 6, 2) := by decide +kernel
theorem dJ2_getChars_ba4f3_16 : decode cJ2_getChars_ba4f3 16 = .ok (.ifCond .ne 6, 3) := by decide +kernel
theorem dJ2_getChars_ba4f3_19 : decode cJ2_getChars_ba4f3 19 = .ok (.iload_n 0, 1) := by decide +kernel
theorem dJ2_getChars_ba4f3_20 : decode cJ2_getChars_ba4f3 20 = .ok (.ineg, 1) := by decide +kernel
theorem dJ2_getChars_ba4f3_21 : decode cJ2_getChars_ba4f3 21 = .ok (.istore_n 0, 1) := by decide +kernel
theorem dJ2_getChars_ba4f3_22 : decode cJ2_getChars_ba4f3 22 = .ok (.iload_n 0, 1) := by decide +kernel
theorem dJ2_getChars_ba4f3_23 : decode cJ2_getChars_ba4f3 23 = .ok (.bipush (-100), 2) := by decide +kernel
theorem dJ2_getChars_ba4f3_25 : decode cJ2_getChars_ba4f3 25 = .ok (.if_icmp .gt 51, 3) := by decide +kernel
theorem dJ2_getChars_ba4f3_28 : decode cJ2_getChars_ba4f3 28 = .ok (.iload_n 0, 1) := by decide +kernel
theorem dJ2_getChars_ba4f3_29 : decode cJ2_getChars_ba4f3 29 = .ok (.bipush 100, 2) := by decide +kernel
theorem dJ2_getChars_ba4f3_31 : decode cJ2_getChars_ba4f3 31 = .ok (.idiv, 1) := by decide +kernel
theorem dJ2_getChars_ba4f3_32 : decode cJ2_getChars_ba4f3 32 = .ok (.istore_n 3, 1) := by decide +kernel
theorem dJ2_getChars_ba4f3_33 : decode cJ2_getChars_ba4f3 33 = .ok (.iload_n 3, 1) := by decide +kernel
theorem dJ2_getChars_ba4f3_34 : decode cJ2_getChars_ba4f3 34 = .ok (.bipush 100, 2) := by decide +kernel
theorem dJ2_getChars_ba4f3_36 : decode cJ2_getChars_ba4f3 36 = .ok (.imul, 1) := by decide +kernel
theorem dJ2_getChars_ba4f3_37 : decode cJ2_getChars_ba4f3 37 = .ok (.iload_n 0, 1) := by decide +kernel
theorem dJ2_getChars_ba4f3_38 : decode cJ2_getChars_ba4f3 38 = .ok (.isub, 1) := by decide +kernel
theorem dJ2_getChars_ba4f3_39 : decode cJ2_getChars_ba4f3 39 = .ok (.istore 4, 2) := by decide +kernel
theorem dJ2_getChars_ba4f3_41 : decode cJ2_getChars_ba4f3 41 = .ok (.iload_n 3, 1) := by decide +kernel
theorem dJ2_getChars_ba4f3_42 : decode cJ2_getChars_ba4f3 42 = .ok (.istore_n 0, 1) := by decide +kernel
theorem dJ2_getChars_ba4f3_43 : decode cJ2_getChars_ba4f3 43 = .ok (.aload_n 2, 1) := by decide +kernel
theorem dJ2_getChars_ba4f3_44 : decode cJ2_getChars_ba4f3 44 = .ok (.iinc 5 (-1), 3) := by decide +kernel
theorem dJ2_getChars_ba4f3_47 : decode cJ2_getChars_ba4f3 47 = .ok (.iload 5, 2) := by decide +kernel
theorem dJ2_getChars_ba4f3_49 : decode cJ2_getChars_ba4f3 49 = .ok (.getstatic 403, 3) := by decide +kernel
theorem dJ2_getChars_ba4f3_52 : decode cJ2_getChars_ba4f3 52 = .ok (.iload 4, 2) := by decide +kernel
theorem dJ2_getChars_ba4f3_54 : decode cJ2_getChars_ba4f3 54 = .ok (.baload, 1) := by decide +kernel
theorem dJ2_getChars_ba4f3_55 : decode cJ2_getChars_ba4f3 55 = .ok (.invokestatic 111, 3) := by decide +kernel
theorem dJ2_getChars_ba4f3_58 : decode cJ2_getChars_ba4f3 58 = .ok (.aload_n 2, 1) := by decide +kernel
theorem dJ2_getChars_ba4f3_59 : decode cJ2_getChars_ba4f3 59 = .ok (.iinc 5 (-1), 3) := by decide +kernel
theorem dJ2_getChars_ba4f3_62 : decode cJ2_getChars_ba4f3 62 = .ok (.iload 5, 2) := by decide +kernel
theorem dJ2_getChars_ba4f3_64 : decode cJ2_getChars_ba4f3 64 = .ok (.getstatic 407, 3) := by decide +kernel
theorem dJ2_getChars_ba4f3_67 : decode cJ2_getChars_ba4f3 67 = .ok (.iload 4, 2) := by decide +kernel
theorem dJ2_getChars_ba4f3_69 : decode cJ2_getChars_ba4f3 69 = .ok (.baload, 1) := by decide +kernel
theorem dJ2_getChars_ba4f3_70 : decode cJ2_getChars_ba4f3 70 = .ok (.invokestatic 111, 3) := by decide +kernel
theorem dJ2_getChars_ba4f3_73 : decode cJ2_getChars_ba4f3 73 = .ok (.goto (-51), 3) := by decide +kernel
theorem dJ2_getChars_ba4f3_76 : decode cJ2_getChars_ba4f3 76 = .ok (.aload_n 2, 1) := by decide +kernel
theorem dJ2_getChars_ba4f3_77 : decode cJ2_getChars_ba4f3 77 = .ok (.iinc 5 (-1), 3) := by decide +kernel
theorem dJ2_getChars_ba4f3_80 : decode cJ2_getChars_ba4f3 80 = .ok (.iload 5, 2) := by decide +kernel
theorem dJ2_getChars_ba4f3_82 : decode cJ2_getChars_ba4f3 82 = .ok (.getstatic 403, 3) := by decide +kernel
theorem dJ2_getChars_ba4f3_85 : decode cJ2_getChars_ba4f3 85 = .ok (.iload_n 0, 1) := by decide +kernel
theorem dJ2_getChars_ba4f3_86 : decode cJ2_getChars_ba4f3 86 = .ok (.ineg, 1) := by decide +kernel
theorem dJ2_getChars_ba4f3_87 : decode cJ2_getChars_ba4f3 87 = .ok (.baload, 1) := by decide +kernel
theorem dJ2_getChars_ba4f3_88 : decode cJ2_getChars_ba4f3 88 = .ok (.invokestatic 111, 3) := by decide +kernel
theorem dJ2_getChars_ba4f3_91 : decode cJ2_getChars_ba4f3 91 = .ok (.iload_n 0, 1) := by decide +kernel
theorem dJ2_getChars_ba4f3_92 : decode cJ2_getChars_ba4f3 92 = .ok (.bipush (-9), 2) := by decide +kernel
theorem dJ2_getChars_ba4f3_94 : decode cJ2_getChars_ba4f3 94 = .ok (.if_icmp .ge 18, 3) := by decide +kernel
theorem dJ2_getChars_ba4f3_97 : decode cJ2_getChars_ba4f3 97 = .ok (.aload_n 2, 1) := by decide +kernel
theorem dJ2_getChars_ba4f3_98 : decode cJ2_getChars_ba4f3 98 = .ok (.iinc 5 (-1), 3) := by decide +kernel
theorem dJ2_getChars_ba4f3_101 : decode cJ2_getChars_ba4f3 101 = .ok (.iload 5, 2) := by decide +kernel
theorem dJ2_getChars_ba4f3_103 : decode cJ2_getChars_ba4f3 103 = .ok (.getstatic 407, 3) := by decide +kernel
theorem dJ2_getChars_ba4f3_106 : decode cJ2_getChars_ba4f3 106 = .ok (.iload_n 0, 1) := by decide +kernel
theorem dJ2_getChars_ba4f3_107 : decode cJ2_getChars_ba4f3 107 = .ok (.ineg, 1) := by decide +kernel
theorem dJ2_getChars_ba4f3_108 : decode cJ2_getChars_ba4f3 108 = .ok (.baload, 1) := by decide +kernel
theorem dJ2_getChars_ba4f3_109 : decode cJ2_getChars_ba4f3 109 = .ok (.invokestatic 111, 3) := by decide +kernel
theorem dJ2_getChars_ba4f3_112 : decode cJ2_getChars_ba4f3 112 = .ok (.iload 6, 2) := by decide +kernel
theorem dJ2_getChars_ba4f3_114 : decode cJ2_getChars_ba4f3 114 = .ok (.ifCond .eq 14, 3) := by decide +kernel
theorem dJ2_getChars_ba4f3_117 : decode cJ2_getChars_ba4f3 117 = .ok (.aload_n 2, 1) := by decide +kernel
theorem dJ2_getChars_ba4f3_118 : decode cJ2_getChars_ba4f3 118 = .ok (.iinc 5 (-1), 3) := by decide +kernel
theorem dJ2_getChars_ba4f3_121 : decode cJ2_getChars_ba4f3 121 = .ok (.iload 5, 2) := by decide +kernel
theorem dJ2_getChars_ba4f3_123 : decode cJ2_getChars_ba4f3 123 = .ok (.bipush 45, 2) := by decide +kernel
theorem dJ2_getChars_ba4f3_125 : decode cJ2_getChars_ba4f3 125 = .ok (.invokestatic 111, 3) := by decide +kernel
theorem dJ2_getChars_ba4f3_128 : decode cJ2_getChars_ba4f3 128 = .ok (.iload 5, 2) := by decide +kernel
theorem dJ2_getChars_ba4f3_130 : decode cJ2_getChars_ba4f3 130 = .ok (.ireturn, 1) := by decide +kernel
theorem dJ2_checkIndex_2214a_0 : decode cJ2_checkIndex_2214a 0 = .ok (.iload_n 0, 1) := by decide +kernel
theorem dJ2_checkIndex_2214a_1 : decode cJ2_checkIndex_2214a 1 = .ok (.aload_n 1, 1) := by decide +kernel
theorem dJ2_checkIndex_2214a_2 : decode cJ2_checkIndex_2214a 2 = .ok (.invokestatic 48, 3) := by decide +kernel
theorem dJ2_checkIndex_2214a_5 : decode cJ2_checkIndex_2214a 5 = .ok (.invokestatic 414, 3) := by decide +kernel
theorem dJ2_checkIndex_2214a_8 : decode cJ2_checkIndex_2214a 8 = .ok (.return_, 1) := by decide +kernel
theorem dJ2_checkBoundsBeginEnd_d044e_0 : decode cJ2_checkBoundsBeginEnd_d044e 0 = .ok (.iload_n 0, 1) := by decide +kernel
theorem dJ2_checkBoundsBeginEnd_d044e_1 : decode cJ2_checkBoundsBeginEnd_d044e 1 = .ok (.iload_n 1, 1) := by decide +kernel
theorem dJ2_checkBoundsBeginEnd_d044e_2 : decode cJ2_checkBoundsBeginEnd_d044e 2 = .ok (.aload_n 2, 1) := by decide +kernel
theorem dJ2_checkBoundsBeginEnd_d044e_3 : decode cJ2_checkBoundsBeginEnd_d044e 3 = .ok (.invokestatic 48, 3) := by decide +kernel
theorem dJ2_checkBoundsBeginEnd_d044e_6 : decode cJ2_checkBoundsBeginEnd_d044e 6 = .ok (.invokestatic 241, 3) := by decide +kernel
theorem dJ2_checkBoundsBeginEnd_d044e_9 : decode cJ2_checkBoundsBeginEnd_d044e 9 = .ok (.return_, 1) := by decide +kernel
theorem dJ2_checkBoundsOffCount_d044e_0 : decode cJ2_checkBoundsOffCount_d044e 0 = .ok (.iload_n 0, 1) := by decide +kernel
theorem dJ2_checkBoundsOffCount_d044e_1 : decode cJ2_checkBoundsOffCount_d044e 1 = .ok (.iload_n 1, 1) := by decide +kernel
theorem dJ2_checkBoundsOffCount_d044e_2 : decode cJ2_checkBoundsOffCount_d044e 2 = .ok (.aload_n 2, 1) := by decide +kernel
theorem dJ2_checkBoundsOffCount_d044e_3 : decode cJ2_checkBoundsOffCount_d044e 3 = .ok (.invokestatic 48, 3) := by decide +kernel
theorem dJ2_checkBoundsOffCount_d044e_6 : decode cJ2_checkBoundsOffCount_d044e 6 = .ok (.invokestatic 419, 3) := by decide +kernel
theorem dJ2_checkBoundsOffCount_d044e_9 : decode cJ2_checkBoundsOffCount_d044e 9 = .ok (.pop, 1) := by decide +kernel
theorem dJ2_checkBoundsOffCount_d044e_10 : decode cJ2_checkBoundsOffCount_d044e 10 = .ok (.return_, 1) := by decide +kernel
theorem dJ7_rangeCheck_23922_0 : decode cJ7_rangeCheck_23922 0 = .ok (.iload_n 1, 1) := by decide +kernel
theorem dJ7_rangeCheck_23922_1 : decode cJ7_rangeCheck_23922 1 = .ok (.iload_n 2, 1) := by decide +kernel
theorem dJ7_rangeCheck_23922_2 : decode cJ7_rangeCheck_23922 2 = .ok (.if_icmp .le 44, 3) := by decide +kernel
theorem dJ7_rangeCheck_23922_5 : decode cJ7_rangeCheck_23922 5 = .ok (.new 43, 3) := by decide +kernel
theorem dJ7_rangeCheck_23922_8 : decode cJ7_rangeCheck_23922 8 = .ok (.dup, 1) := by decide +kernel
theorem dJ7_rangeCheck_23922_9 : decode cJ7_rangeCheck_23922 9 = .ok (.new 45, 3) := by decide +kernel
theorem dJ7_rangeCheck_23922_12 : decode cJ7_rangeCheck_23922 12 = .ok (.dup, 1) := by decide +kernel
theorem dJ7_rangeCheck_23922_13 : decode cJ7_rangeCheck_23922 13 = .ok (.invokespecial 47, 3) := by decide +kernel
theorem dJ7_rangeCheck_23922_16 : decode cJ7_rangeCheck_23922 16 = .ok (.ldc 48, 2) := by decide +kernel
theorem dJ7_rangeCheck_23922_18 : decode cJ7_rangeCheck_23922 18 = .ok (.invokevirtual 50, 3) := by decide +kernel
theorem dJ7_rangeCheck_23922_21 : decode cJ7_rangeCheck_23922 21 = .ok (.iload_n 1, 1) := by decide +kernel
theorem dJ7_rangeCheck_23922_22 : decode cJ7_rangeCheck_23922 22 = .ok (.invokevirtual 54, 3) := by decide +kernel
theorem dJ7_rangeCheck_23922_25 : decode cJ7_rangeCheck_23922 25 = .ok (.ldc 57, 2) := by decide +kernel
theorem dJ7_rangeCheck_23922_27 : decode cJ7_rangeCheck_23922 27 = .ok (.invokevirtual 50, 3) := by decide +kernel
theorem dJ7_rangeCheck_23922_30 : decode cJ7_rangeCheck_23922 30 = .ok (.iload_n 2, 1) := by decide +kernel
theorem dJ7_rangeCheck_23922_31 : decode cJ7_rangeCheck_23922 31 = .ok (.invokevirtual 54, 3) := by decide +kernel
theorem dJ7_rangeCheck_23922_34 : decode cJ7_rangeCheck_23922 34 = .ok (.ldc 59, 2) := by decide +kernel
theorem dJ7_rangeCheck_23922_36 : decode cJ7_rangeCheck_23922 36 = .ok (.invokevirtual 50, 3) := by decide +kernel
theorem dJ7_rangeCheck_23922_39 : decode cJ7_rangeCheck_23922 39 = .ok (.invokevirtual 61, 3) := by decide +kernel
theorem dJ7_rangeCheck_23922_42 : decode cJ7_rangeCheck_23922 42 = .ok (.invokespecial 65, 3) := by decide +kernel
theorem dJ7_rangeCheck_23922_45 : decode cJ7_rangeCheck_23922 45 = .ok (.athrow, 1) := by decide +kernel
theorem dJ7_rangeCheck_23922_46 : decode cJ7_rangeCheck_23922 46 = .ok (.iload_n 1, 1) := by decide +kernel
theorem dJ7_rangeCheck_23922_47 : decode cJ7_rangeCheck_23922 47 = .ok (.ifCond .ge 12, 3) := by decide +kernel
theorem dJ7_rangeCheck_23922_50 : decode cJ7_rangeCheck_23922 50 = .ok (.new 68, 3) := by decide +kernel
theorem dJ7_rangeCheck_23922_53 : decode cJ7_rangeCheck_23922 53 = .ok (.dup, 1) := by decide +kernel
theorem dJ7_rangeCheck_23922_54 : decode cJ7_rangeCheck_23922 54 = .ok (.iload_n 1, 1) := by decide +kernel
theorem dJ7_rangeCheck_23922_55 : decode cJ7_rangeCheck_23922 55 = .ok (.invokespecial 70, 3) := by decide +kernel
theorem dJ7_rangeCheck_23922_58 : decode cJ7_rangeCheck_23922 58 = .ok (.athrow, 1) := by decide +kernel
theorem dJ7_rangeCheck_23922_59 : decode cJ7_rangeCheck_23922 59 = .ok (.iload_n 2, 1) := by decide +kernel
theorem dJ7_rangeCheck_23922_60 : decode cJ7_rangeCheck_23922 60 = .ok (.iload_n 0, 1) := by decide +kernel
theorem dJ7_rangeCheck_23922_61 : decode cJ7_rangeCheck_23922 61 = .ok (.if_icmp .le 12, 3) := by decide +kernel
theorem dJ7_rangeCheck_23922_64 : decode cJ7_rangeCheck_23922 64 = .ok (.new 68, 3) := by decide +kernel
theorem dJ7_rangeCheck_23922_67 : decode cJ7_rangeCheck_23922 67 = .ok (.dup, 1) := by decide +kernel
theorem dJ7_rangeCheck_23922_68 : decode cJ7_rangeCheck_23922 68 = .ok (.iload_n 2, 1) := by decide +kernel
theorem dJ7_rangeCheck_23922_69 : decode cJ7_rangeCheck_23922 69 = .ok (.invokespecial 70, 3) := by decide +kernel
theorem dJ7_rangeCheck_23922_72 : decode cJ7_rangeCheck_23922 72 = .ok (.athrow, 1) := by decide +kernel
theorem dJ7_rangeCheck_23922_73 : decode cJ7_rangeCheck_23922 73 = .ok (.return_, 1) := by decide +kernel
theorem dJ7_fill_53178_0 : decode cJ7_fill_53178 0 = .ok (.iconst 0, 1) := by decide +kernel
theorem dJ7_fill_53178_1 : decode cJ7_fill_53178 1 = .ok (.istore_n 2, 1) := by decide +kernel
theorem dJ7_fill_53178_2 : decode cJ7_fill_53178 2 = .ok (.aload_n 0, 1) := by decide +kernel
theorem dJ7_fill_53178_3 : decode cJ7_fill_53178 3 = .ok (.arraylength, 1) := by decide +kernel
theorem dJ7_fill_53178_4 : decode cJ7_fill_53178 4 = .ok (.istore_n 3, 1) := by decide +kernel
theorem dJ7_fill_53178_5 : decode cJ7_fill_53178 5 = .ok (.iload_n 2, 1) := by decide +kernel
theorem dJ7_fill_53178_6 : decode cJ7_fill_53178 6 = .ok (.iload_n 3, 1) := by decide +kernel
theorem dJ7_fill_53178_7 : decode cJ7_fill_53178 7 = .ok (.if_icmp .ge 13, 3) := by decide +kernel
theorem dJ7_fill_53178_10 : decode cJ7_fill_53178 10 = .ok (.aload_n 0, 1) := by decide +kernel
theorem dJ7_fill_53178_11 : decode cJ7_fill_53178 11 = .ok (.iload_n 2, 1) := by decide +kernel
theorem dJ7_fill_53178_12 : decode cJ7_fill_53178 12 = .ok (.iload_n 1, 1) := by decide +kernel
theorem dJ7_fill_53178_13 : decode cJ7_fill_53178 13 = .ok (.iastore, 1) := by decide +kernel
theorem dJ7_fill_53178_14 : decode cJ7_fill_53178 14 = .ok (.iinc 2 1, 3) := by decide +kernel
theorem dJ7_fill_53178_17 : decode cJ7_fill_53178 17 = .ok (.goto (-12), 3) := by decide +kernel
theorem dJ7_fill_53178_20 : decode cJ7_fill_53178 20 = .ok (.return_, 1) := by decide +kernel
theorem dJ7_fill_eb02e_0 : decode cJ7_fill_eb02e 0 = .ok (.aload_n 0, 1) := by decide +kernel
theorem dJ7_fill_eb02e_1 : decode cJ7_fill_eb02e 1 = .ok (.arraylength, 1) := by decide +kernel
theorem dJ7_fill_eb02e_2 : decode cJ7_fill_eb02e 2 = .ok (.iload_n 1, 1) := by decide +kernel
theorem dJ7_fill_eb02e_3 : decode cJ7_fill_eb02e 3 = .ok (.iload_n 2, 1) := by decide +kernel
theorem dJ7_fill_eb02e_4 : decode cJ7_fill_eb02e 4 = .ok (.invokestatic 13, 3) := by decide +kernel
theorem dJ7_fill_eb02e_7 : decode cJ7_fill_eb02e 7 = .ok (.iload_n 1, 1) := by decide +kernel
theorem dJ7_fill_eb02e_8 : decode cJ7_fill_eb02e 8 = .ok (.istore 4, 2) := by decide +kernel
theorem dJ7_fill_eb02e_10 : decode cJ7_fill_eb02e 10 = .ok (.iload 4, 2) := by decide +kernel
theorem dJ7_fill_eb02e_12 : decode cJ7_fill_eb02e 12 = .ok (.iload_n 2, 1) := by decide +kernel
theorem dJ7_fill_eb02e_13 : decode cJ7_fill_eb02e 13 = .ok (.if_icmp .ge 14, 3) := by decide +kernel
theorem dJ7_fill_eb02e_16 : decode cJ7_fill_eb02e 16 = .ok (.aload_n 0, 1) := by decide +kernel
theorem dJ7_fill_eb02e_17 : decode cJ7_fill_eb02e 17 = .ok (.iload 4, 2) := by decide +kernel
theorem dJ7_fill_eb02e_19 : decode cJ7_fill_eb02e 19 = .ok (.iload_n 3, 1) := by decide +kernel
theorem dJ7_fill_eb02e_20 : decode cJ7_fill_eb02e 20 = .ok (.bastore, 1) := by decide +kernel
theorem dJ7_fill_eb02e_21 : decode cJ7_fill_eb02e 21 = .ok (.iinc 4 1, 3) := by decide +kernel
theorem dJ7_fill_eb02e_24 : decode cJ7_fill_eb02e 24 = .ok (.goto (-14), 3) := by decide +kernel
theorem dJ7_fill_eb02e_27 : decode cJ7_fill_eb02e 27 = .ok (.return_, 1) := by decide +kernel
theorem dJ7_copyOf_9075b_0 : decode cJ7_copyOf_9075b 0 = .ok (.iload_n 1, 1) := by decide +kernel
theorem dJ7_copyOf_9075b_1 : decode cJ7_copyOf_9075b 1 = .ok (.aload_n 0, 1) := by decide +kernel
theorem dJ7_copyOf_9075b_2 : decode cJ7_copyOf_9075b 2 = .ok (.arraylength, 1) := by decide +kernel
theorem dJ7_copyOf_9075b_3 : decode cJ7_copyOf_9075b 3 = .ok (.if_icmp .ne 11, 3) := by decide +kernel
theorem dJ7_copyOf_9075b_6 : decode cJ7_copyOf_9075b 6 = .ok (.aload_n 0, 1) := by decide +kernel
theorem dJ7_copyOf_9075b_7 : decode cJ7_copyOf_9075b 7 = .ok (.invokevirtual 310, 3) := by decide +kernel
theorem dJ7_copyOf_9075b_10 : decode cJ7_copyOf_9075b 10 = .ok (.checkcast 311, 3) := by decide +kernel
theorem dJ7_copyOf_9075b_13 : decode cJ7_copyOf_9075b 13 = .ok (.areturn, 1) := by decide +kernel
theorem dJ7_copyOf_9075b_14 : decode cJ7_copyOf_9075b 14 = .ok (.iload_n 1, 1) := by decide +kernel
theorem dJ7_copyOf_9075b_15 : decode cJ7_copyOf_9075b 15 = .ok (.newarray .byte, 2) := by decide +kernel
theorem dJ7_copyOf_9075b_17 : decode cJ7_copyOf_9075b 17 = .ok (.astore_n 2, 1) := by decide +kernel
theorem dJ7_copyOf_9075b_18 : decode cJ7_copyOf_9075b 18 = .ok (.aload_n 0, 1) := by decide +kernel
theorem dJ7_copyOf_9075b_19 : decode cJ7_copyOf_9075b 19 = .ok (.iconst 0, 1) := by decide +kernel
theorem dJ7_copyOf_9075b_20 : decode cJ7_copyOf_9075b 20 = .ok (.aload_n 2, 1) := by decide +kernel
theorem dJ7_copyOf_9075b_21 : decode cJ7_copyOf_9075b 21 = .ok (.iconst 0, 1) := by decide +kernel
theorem dJ7_copyOf_9075b_22 : decode cJ7_copyOf_9075b 22 = .ok (.aload_n 0, 1) := by decide +kernel
theorem dJ7_copyOf_9075b_23 : decode cJ7_copyOf_9075b 23 = .ok (.arraylength, 1) := by decide +kernel
theorem dJ7_copyOf_9075b_24 : decode cJ7_copyOf_9075b 24 = .ok (.iload_n 1, 1) := by decide +kernel
theorem dJ7_copyOf_9075b_25 : decode cJ7_copyOf_9075b 25 = .ok (.invokestatic 304, 3) := by decide +kernel
theorem dJ7_copyOf_9075b_28 : decode cJ7_copyOf_9075b 28 = .ok (.invokestatic 150, 3) := by decide +kernel
theorem dJ7_copyOf_9075b_31 : decode cJ7_copyOf_9075b 31 = .ok (.aload_n 2, 1) := by decide +kernel
theorem dJ7_copyOf_9075b_32 : decode cJ7_copyOf_9075b 32 = .ok (.areturn, 1) := by decide +kernel
theorem dJ8_newLength_cabcc_0 : decode cJ8_newLength_cabcc 0 = .ok (.iload_n 0, 1) := by decide +kernel
theorem dJ8_newLength_cabcc_1 : decode cJ8_newLength_cabcc 1 = .ok (.iload_n 1, 1) := by decide +kernel
theorem dJ8_newLength_cabcc_2 : decode cJ8_newLength_cabcc 2 = .ok (.iload_n 2, 1) := by decide +kernel
theorem dJ8_newLength_cabcc_3 : decode cJ8_newLength_cabcc 3 = .ok (.invokestatic 194, 3) := by decide +kernel
theorem dJ8_newLength_cabcc_6 : decode cJ8_newLength_cabcc 6 = .ok (.iadd, 1) := by decide +kernel
theorem dJ8_newLength_cabcc_7 : decode cJ8_newLength_cabcc 7 = .ok (.istore_n 3, 1) := by decide +kernel
theorem dJ8_newLength_cabcc_8 : decode cJ8_newLength_cabcc 8 = .ok (.iconst 0, 1) := by decide +kernel
theorem dJ8_newLength_cabcc_9 : decode cJ8_newLength_cabcc 9 = .ok (.iload_n 3, 1) := by decide +kernel
theorem dJ8_newLength_cabcc_10 : decode cJ8_newLength_cabcc 10 = .ok (.if_icmp .ge 11, 3) := by decide +kernel
theorem dJ8_newLength_cabcc_13 : decode cJ8_newLength_cabcc 13 = .ok (.iload_n 3, 1) := by decide +kernel
theorem dJ8_newLength_cabcc_14 : decode cJ8_newLength_cabcc 14 = .ok (.ldc 200, 2) := by decide +kernel
theorem dJ8_newLength_cabcc_16 : decode cJ8_newLength_cabcc 16 = .ok (.if_icmp .gt 5, 3) := by decide +kernel
theorem dJ8_newLength_cabcc_19 : decode cJ8_newLength_cabcc 19 = .ok (.iload_n 3, 1) := by decide +kernel
theorem dJ8_newLength_cabcc_20 : decode cJ8_newLength_cabcc 20 = .ok (.ireturn, 1) := by decide +kernel
theorem dJ8_newLength_cabcc_21 : decode cJ8_newLength_cabcc 21 = .ok (.iload_n 0, 1) := by decide +kernel
theorem dJ8_newLength_cabcc_22 : decode cJ8_newLength_cabcc 22 = .ok (.iload_n 1, 1) := by decide +kernel
theorem dJ8_newLength_cabcc_23 : decode cJ8_newLength_cabcc 23 = .ok (.invokestatic 201, 3) := by decide +kernel
theorem dJ8_newLength_cabcc_26 : decode cJ8_newLength_cabcc 26 = .ok (.ireturn, 1) := by decide +kernel
theorem dJ8_hugeLength_7cf53_0 : decode cJ8_hugeLength_7cf53 0 = .ok (.iload_n 0, 1) := by decide +kernel
theorem dJ8_hugeLength_7cf53_1 : decode cJ8_hugeLength_7cf53 1 = .ok (.iload_n 1, 1) := by decide +kernel
theorem dJ8_hugeLength_7cf53_2 : decode cJ8_hugeLength_7cf53 2 = .ok (.iadd, 1) := by decide +kernel
theorem dJ8_hugeLength_7cf53_3 : decode cJ8_hugeLength_7cf53 3 = .ok (.istore_n 2, 1) := by decide +kernel
theorem dJ8_hugeLength_7cf53_4 : decode cJ8_hugeLength_7cf53 4 = .ok (.iload_n 2, 1) := by decide +kernel
theorem dJ8_hugeLength_7cf53_5 : decode cJ8_hugeLength_7cf53 5 = .ok (.ifCond .ge 44, 3) := by decide +kernel
theorem dJ8_hugeLength_7cf53_8 : decode cJ8_hugeLength_7cf53 8 = .ok (.new 204, 3) := by decide +kernel
theorem dJ8_hugeLength_7cf53_11 : decode cJ8_hugeLength_7cf53 11 = .ok (.dup, 1) := by decide +kernel
theorem dJ8_hugeLength_7cf53_12 : decode cJ8_hugeLength_7cf53 12 = .ok (.new 89, 3) := by decide +kernel
theorem dJ8_hugeLength_7cf53_15 : decode cJ8_hugeLength_7cf53 15 = .ok (.dup, 1) := by decide +kernel
theorem dJ8_hugeLength_7cf53_16 : decode cJ8_hugeLength_7cf53 16 = .ok (.invokespecial 91, 3) := by decide +kernel
theorem dJ8_hugeLength_7cf53_19 : decode cJ8_hugeLength_7cf53 19 = .ok (.ldc 206, 2) := by decide +kernel
theorem dJ8_hugeLength_7cf53_21 : decode cJ8_hugeLength_7cf53 21 = .ok (.invokevirtual 94, 3) := by decide +kernel
theorem dJ8_hugeLength_7cf53_24 : decode cJ8_hugeLength_7cf53 24 = .ok (.iload_n 0, 1) := by decide +kernel
theorem dJ8_hugeLength_7cf53_25 : decode cJ8_hugeLength_7cf53 25 = .ok (.invokevirtual 98, 3) := by decide +kernel
theorem dJ8_hugeLength_7cf53_28 : decode cJ8_hugeLength_7cf53 28 = .ok (.ldc 208, 2) := by decide +kernel
theorem dJ8_hugeLength_7cf53_30 : decode cJ8_hugeLength_7cf53 30 = .ok (.invokevirtual 94, 3) := by decide +kernel
theorem dJ8_hugeLength_7cf53_33 : decode cJ8_hugeLength_7cf53 33 = .ok (.iload_n 1, 1) := by decide +kernel
theorem dJ8_hugeLength_7cf53_34 : decode cJ8_hugeLength_7cf53 34 = .ok (.invokevirtual 98, 3) := by decide +kernel
theorem dJ8_hugeLength_7cf53_37 : decode cJ8_hugeLength_7cf53 37 = .ok (.ldc 210, 2) := by decide +kernel
theorem dJ8_hugeLength_7cf53_39 : decode cJ8_hugeLength_7cf53 39 = .ok (.invokevirtual 94, 3) := by decide +kernel
theorem dJ8_hugeLength_7cf53_42 : decode cJ8_hugeLength_7cf53 42 = .ok (.invokevirtual 101, 3) := by decide +kernel
theorem dJ8_hugeLength_7cf53_45 : decode cJ8_hugeLength_7cf53 45 = .ok (.invokespecial 212, 3) := by decide +kernel
theorem dJ8_hugeLength_7cf53_48 : decode cJ8_hugeLength_7cf53 48 = .ok (.athrow, 1) := by decide +kernel
theorem dJ8_hugeLength_7cf53_49 : decode cJ8_hugeLength_7cf53 49 = .ok (.iload_n 2, 1) := by decide +kernel
theorem dJ8_hugeLength_7cf53_50 : decode cJ8_hugeLength_7cf53 50 = .ok (.ldc 200, 2) := by decide +kernel
theorem dJ8_hugeLength_7cf53_52 : decode cJ8_hugeLength_7cf53 52 = .ok (.if_icmp .gt 6, 3) := by decide +kernel
theorem dJ8_hugeLength_7cf53_55 : decode cJ8_hugeLength_7cf53 55 = .ok (.ldc 200, 2) := by decide +kernel
theorem dJ8_hugeLength_7cf53_57 : decode cJ8_hugeLength_7cf53 57 = .ok (.ireturn, 1) := by decide +kernel
theorem dJ8_hugeLength_7cf53_58 : decode cJ8_hugeLength_7cf53 58 = .ok (.iload_n 2, 1) := by decide +kernel
theorem dJ8_hugeLength_7cf53_59 : decode cJ8_hugeLength_7cf53 59 = .ok (.ireturn, 1) := by decide +kernel
theorem dJ3_checkIndex_8e157_0 : decode cJ3_checkIndex_8e157 0 = .ok (.iload_n 0, 1) := by decide +kernel
theorem dJ3_checkIndex_8e157_1 : decode cJ3_checkIndex_8e157 1 = .ok (.ifCond .lt 8, 3) := by decide +kernel
theorem dJ3_checkIndex_8e157_4 : decode cJ3_checkIndex_8e157 4 = .ok (.iload_n 0, 1) := by decide +kernel
theorem dJ3_checkIndex_8e157_5 : decode cJ3_checkIndex_8e157 5 = .ok (.iload_n 1, 1) := by decide +kernel
theorem dJ3_checkIndex_8e157_6 : decode cJ3_checkIndex_8e157 6 = .ok (.if_icmp .lt 10, 3) := by decide +kernel
theorem dJ3_checkIndex_8e157_9 : decode cJ3_checkIndex_8e157 9 = .ok (.aload_n 2, 1) := by decide +kernel
theorem dJ3_checkIndex_8e157_10 : decode cJ3_checkIndex_8e157 10 = .ok (.iload_n 0, 1) := by decide +kernel
theorem dJ3_checkIndex_8e157_11 : decode cJ3_checkIndex_8e157 11 = .ok (.iload_n 1, 1) := by decide +kernel
theorem dJ3_checkIndex_8e157_12 : decode cJ3_checkIndex_8e157 12 = .ok (.invokestatic 95, 3) := by decide +kernel
theorem dJ3_checkIndex_8e157_15 : decode cJ3_checkIndex_8e157 15 = .ok (.athrow, 1) := by decide +kernel
theorem dJ3_checkIndex_8e157_16 : decode cJ3_checkIndex_8e157 16 = .ok (.iload_n 0, 1) := by decide +kernel
theorem dJ3_checkIndex_8e157_17 : decode cJ3_checkIndex_8e157 17 = .ok (.ireturn, 1) := by decide +kernel
theorem dJ3_checkFromToIndex_8c36e_0 : decode cJ3_checkFromToIndex_8c36e 0 = .ok (.iload_n 0, 1) := by decide +kernel
theorem dJ3_checkFromToIndex_8c36e_1 : decode cJ3_checkFromToIndex_8c36e 1 = .ok (.ifCond .lt 13, 3) := by decide +kernel
theorem dJ3_checkFromToIndex_8c36e_4 : decode cJ3_checkFromToIndex_8c36e 4 = .ok (.iload_n 0, 1) := by decide +kernel
theorem dJ3_checkFromToIndex_8c36e_5 : decode cJ3_checkFromToIndex_8c36e 5 = .ok (.iload_n 1, 1) := by decide +kernel
theorem dJ3_checkFromToIndex_8c36e_6 : decode cJ3_checkFromToIndex_8c36e 6 = .ok (.if_icmp .gt 8, 3) := by decide +kernel
theorem dJ3_checkFromToIndex_8c36e_9 : decode cJ3_checkFromToIndex_8c36e 9 = .ok (.iload_n 1, 1) := by decide +kernel
theorem dJ3_checkFromToIndex_8c36e_10 : decode cJ3_checkFromToIndex_8c36e 10 = .ok (.iload_n 2, 1) := by decide +kernel
theorem dJ3_checkFromToIndex_8c36e_11 : decode cJ3_checkFromToIndex_8c36e 11 = .ok (.if_icmp .le 11, 3) := by decide +kernel
theorem dJ3_checkFromToIndex_8c36e_14 : decode cJ3_checkFromToIndex_8c36e 14 = .ok (.aload_n 3, 1) := by decide +kernel
theorem dJ3_checkFromToIndex_8c36e_15 : decode cJ3_checkFromToIndex_8c36e 15 = .ok (.iload_n 0, 1) := by decide +kernel
theorem dJ3_checkFromToIndex_8c36e_16 : decode cJ3_checkFromToIndex_8c36e 16 = .ok (.iload_n 1, 1) := by decide +kernel
theorem dJ3_checkFromToIndex_8c36e_17 : decode cJ3_checkFromToIndex_8c36e 17 = .ok (.iload_n 2, 1) := by decide +kernel
theorem dJ3_checkFromToIndex_8c36e_18 : decode cJ3_checkFromToIndex_8c36e 18 = .ok (.invokestatic 99, 3) := by decide +kernel
theorem dJ3_checkFromToIndex_8c36e_21 : decode cJ3_checkFromToIndex_8c36e 21 = .ok (.athrow, 1) := by decide +kernel
theorem dJ3_checkFromToIndex_8c36e_22 : decode cJ3_checkFromToIndex_8c36e 22 = .ok (.iload_n 0, 1) := by decide +kernel
theorem dJ3_checkFromToIndex_8c36e_23 : decode cJ3_checkFromToIndex_8c36e 23 = .ok (.ireturn, 1) := by decide +kernel
theorem dJ3_checkFromIndexSize_8c36e_0 : decode cJ3_checkFromIndexSize_8c36e 0 = .ok (.iload_n 2, 1) := by decide +kernel
theorem dJ3_checkFromIndexSize_8c36e_1 : decode cJ3_checkFromIndexSize_8c36e 1 = .ok (.iload_n 0, 1) := by decide +kernel
theorem dJ3_checkFromIndexSize_8c36e_2 : decode cJ3_checkFromIndexSize_8c36e 2 = .ok (.ior, 1) := by decide +kernel
theorem dJ3_checkFromIndexSize_8c36e_3 : decode cJ3_checkFromIndexSize_8c36e 3 = .ok (.iload_n 1, 1) := by decide +kernel
theorem dJ3_checkFromIndexSize_8c36e_4 : decode cJ3_checkFromIndexSize_8c36e 4 = .ok (.ior, 1) := by decide +kernel
theorem dJ3_checkFromIndexSize_8c36e_5 : decode cJ3_checkFromIndexSize_8c36e 5 = .ok (.ifCond .lt 10, 3) := by decide +kernel
theorem dJ3_checkFromIndexSize_8c36e_8 : decode cJ3_checkFromIndexSize_8c36e 8 = .ok (.iload_n 1, 1) := by decide +kernel
theorem dJ3_checkFromIndexSize_8c36e_9 : decode cJ3_checkFromIndexSize_8c36e 9 = .ok (.iload_n 2, 1) := by decide +kernel
theorem dJ3_checkFromIndexSize_8c36e_10 : decode cJ3_checkFromIndexSize_8c36e 10 = .ok (.iload_n 0, 1) := by decide +kernel
theorem dJ3_checkFromIndexSize_8c36e_11 : decode cJ3_checkFromIndexSize_8c36e 11 = .ok (.isub, 1) := by decide +kernel
theorem dJ3_checkFromIndexSize_8c36e_12 : decode cJ3_checkFromIndexSize_8c36e 12 = .ok (.if_icmp .le 11, 3) := by decide +kernel
theorem dJ3_checkFromIndexSize_8c36e_15 : decode cJ3_checkFromIndexSize_8c36e 15 = .ok (.aload_n 3, 1) := by decide +kernel
theorem dJ3_checkFromIndexSize_8c36e_16 : decode cJ3_checkFromIndexSize_8c36e 16 = .ok (.iload_n 0, 1) := by decide +kernel
theorem dJ3_checkFromIndexSize_8c36e_17 : decode cJ3_checkFromIndexSize_8c36e 17 = .ok (.iload_n 1, 1) := by decide +kernel
theorem dJ3_checkFromIndexSize_8c36e_18 : decode cJ3_checkFromIndexSize_8c36e 18 = .ok (.iload_n 2, 1) := by decide +kernel
theorem dJ3_checkFromIndexSize_8c36e_19 : decode cJ3_checkFromIndexSize_8c36e 19 = .ok (.invokestatic 103, 3) := by decide +kernel
theorem dJ3_checkFromIndexSize_8c36e_22 : decode cJ3_checkFromIndexSize_8c36e 22 = .ok (.athrow, 1) := by decide +kernel
theorem dJ3_checkFromIndexSize_8c36e_23 : decode cJ3_checkFromIndexSize_8c36e 23 = .ok (.iload_n 0, 1) := by decide +kernel
theorem dJ3_checkFromIndexSize_8c36e_24 : decode cJ3_checkFromIndexSize_8c36e 24 = .ok (.ireturn, 1) := by decide +kernel
