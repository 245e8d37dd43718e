theorem dX10_init_0 : decode cX10_init 0 = .ok (.aload_n 0, 1) := by decide +kernel
theorem dX10_init_1 : decode cX10_init 1 = .ok (.invokespecial 1, 3) := by decide +kernel
theorem dX10_init_4 : decode cX10_init 4 = .ok (.aload_n 0, 1) := by decide +kernel
theorem dX10_init_5 : decode cX10_init 5 = .ok (.new 7, 3) := by decide +kernel
theorem dX10_init_8 : decode cX10_init 8 = .ok (.dup, 1) := by decide +kernel
theorem dX10_init_9 : decode cX10_init 9 = .ok (.invokespecial 9, 3) := by decide +kernel
theorem dX10_init_12 : decode cX10_init 12 = .ok (.putfield 10, 3) := by decide +kernel
theorem dX10_init_15 : decode cX10_init 15 = .ok (.aload_n 0, 1) := by decide +kernel
theorem dX10_init_16 : decode cX10_init 16 = .ok (.new 7, 3) := by decide +kernel
theorem dX10_init_19 : decode cX10_init 19 = .ok (.dup, 1) := by decide +kernel
theorem dX10_init_20 : decode cX10_init 20 = .ok (.invokespecial 9, 3) := by decide +kernel
theorem dX10_init_23 : decode cX10_init 23 = .ok (.putfield 16, 3) := by decide +kernel
theorem dX10_init_26 : decode cX10_init 26 = .ok (.aload_n 0, 1) := by decide +kernel
theorem dX10_init_27 : decode cX10_init 27 = .ok (.new 19, 3) := by decide +kernel
theorem dX10_init_30 : decode cX10_init 30 = .ok (.dup, 1) := by decide +kernel
theorem dX10_init_31 : decode cX10_init 31 = .ok (.invokespecial 21, 3) := by decide +kernel
theorem dX10_init_34 : decode cX10_init 34 = .ok (.putfield 22, 3) := by decide +kernel
theorem dX10_init_37 : decode cX10_init 37 = .ok (.aload_n 0, 1) := by decide +kernel
theorem dX10_init_38 : decode cX10_init 38 = .ok (.new 26, 3) := by decide +kernel
theorem dX10_init_41 : decode cX10_init 41 = .ok (.dup, 1) := by decide +kernel
theorem dX10_init_42 : decode cX10_init 42 = .ok (.invokespecial 28, 3) := by decide +kernel
theorem dX10_init_45 : decode cX10_init 45 = .ok (.putfield 29, 3) := by decide +kernel
theorem dX10_init_48 : decode cX10_init 48 = .ok (.aload_n 0, 1) := by decide +kernel
theorem dX10_init_49 : decode cX10_init 49 = .ok (.new 33, 3) := by decide +kernel
theorem dX10_init_52 : decode cX10_init 52 = .ok (.dup, 1) := by decide +kernel
theorem dX10_init_53 : decode cX10_init 53 = .ok (.invokespecial 35, 3) := by decide +kernel
theorem dX10_init_56 : decode cX10_init 56 = .ok (.putfield 36, 3) := by decide +kernel
theorem dX10_init_59 : decode cX10_init 59 = .ok (.aload_n 0, 1) := by decide +kernel
theorem dX10_init_60 : decode cX10_init 60 = .ok (.new 40, 3) := by decide +kernel
theorem dX10_init_63 : decode cX10_init 63 = .ok (.dup, 1) := by decide +kernel
theorem dX10_init_64 : decode cX10_init 64 = .ok (.invokespecial 42, 3) := by decide +kernel
theorem dX10_init_67 : decode cX10_init 67 = .ok (.putfield 43, 3) := by decide +kernel
theorem dX10_init_70 : decode cX10_init 70 = .ok (.aload_n 0, 1) := by decide +kernel
theorem dX10_init_71 : decode cX10_init 71 = .ok (.new 47, 3) := by decide +kernel
theorem dX10_init_74 : decode cX10_init 74 = .ok (.dup, 1) := by decide +kernel
theorem dX10_init_75 : decode cX10_init 75 = .ok (.invokespecial 49, 3) := by decide +kernel
theorem dX10_init_78 : decode cX10_init 78 = .ok (.putfield 50, 3) := by decide +kernel
theorem dX10_init_81 : decode cX10_init 81 = .ok (.aload_n 0, 1) := by decide +kernel
theorem dX10_init_82 : decode cX10_init 82 = .ok (.new 54, 3) := by decide +kernel
theorem dX10_init_85 : decode cX10_init 85 = .ok (.dup, 1) := by decide +kernel
theorem dX10_init_86 : decode cX10_init 86 = .ok (.invokespecial 56, 3) := by decide +kernel
theorem dX10_init_89 : decode cX10_init 89 = .ok (.putfield 57, 3) := by decide +kernel
theorem dX10_init_92 : decode cX10_init 92 = .ok (.aload_n 0, 1) := by decide +kernel
theorem dX10_init_93 : decode cX10_init 93 = .ok (.new 61, 3) := by decide +kernel
theorem dX10_init_96 : decode cX10_init 96 = .ok (.dup, 1) := by decide +kernel
theorem dX10_init_97 : decode cX10_init 97 = .ok (.invokespecial 63, 3) := by decide +kernel
theorem dX10_init_100 : decode cX10_init 100 = .ok (.putfield 64, 3) := by decide +kernel
theorem dX10_init_103 : decode cX10_init 103 = .ok (.aload_n 0, 1) := by decide +kernel
theorem dX10_init_104 : decode cX10_init 104 = .ok (.new 68, 3) := by decide +kernel
theorem dX10_init_107 : decode cX10_init 107 = .ok (.dup, 1) := by decide +kernel
theorem dX10_init_108 : decode cX10_init 108 = .ok (.invokespecial 70, 3) := by decide +kernel
theorem dX10_init_111 : decode cX10_init 111 = .ok (.putfield 71, 3) := by decide +kernel
theorem dX10_init_114 : decode cX10_init 114 = .ok (.aload_n 0, 1) := by decide +kernel
theorem dX10_init_115 : decode cX10_init 115 = .ok (.new 75, 3) := by decide +kernel
theorem dX10_init_118 : decode cX10_init 118 = .ok (.dup, 1) := by decide +kernel
theorem dX10_init_119 : decode cX10_init 119 = .ok (.invokespecial 77, 3) := by decide +kernel
theorem dX10_init_122 : decode cX10_init 122 = .ok (.putfield 78, 3) := by decide +kernel
theorem dX10_init_125 : decode cX10_init 125 = .ok (.aload_n 0, 1) := by decide +kernel
theorem dX10_init_126 : decode cX10_init 126 = .ok (.new 61, 3) := by decide +kernel
theorem dX10_init_129 : decode cX10_init 129 = .ok (.dup, 1) := by decide +kernel
theorem dX10_init_130 : decode cX10_init 130 = .ok (.invokespecial 63, 3) := by decide +kernel
theorem dX10_init_133 : decode cX10_init 133 = .ok (.putfield 82, 3) := by decide +kernel
theorem dX10_init_136 : decode cX10_init 136 = .ok (.aload_n 0, 1) := by decide +kernel
theorem dX10_init_137 : decode cX10_init 137 = .ok (.new 68, 3) := by decide +kernel
theorem dX10_init_140 : decode cX10_init 140 = .ok (.dup, 1) := by decide +kernel
theorem dX10_init_141 : decode cX10_init 141 = .ok (.invokespecial 70, 3) := by decide +kernel
theorem dX10_init_144 : decode cX10_init 144 = .ok (.putfield 85, 3) := by decide +kernel
theorem dX10_init_147 : decode cX10_init 147 = .ok (.aload_n 0, 1) := by decide +kernel
theorem dX10_init_148 : decode cX10_init 148 = .ok (.bipush 8, 2) := by decide +kernel
theorem dX10_init_150 : decode cX10_init 150 = .ok (.putfield 88, 3) := by decide +kernel
theorem dX10_init_153 : decode cX10_init 153 = .ok (.return_, 1) := by decide +kernel
theorem dX10_feed_0 : decode cX10_feed 0 = .ok (.aload_n 0, 1) := by decide +kernel
theorem dX10_feed_1 : decode cX10_feed 1 = .ok (.getfield 10, 3) := by decide +kernel
theorem dX10_feed_4 : decode cX10_feed 4 = .ok (.getfield 92, 3) := by decide +kernel
theorem dX10_feed_7 : decode cX10_feed 7 = .ok (.bipush 20, 2) := by decide +kernel
theorem dX10_feed_9 : decode cX10_feed 9 = .ok (.iadd, 1) := by decide +kernel
theorem dX10_feed_10 : decode cX10_feed 10 = .ok (.sipush 520, 3) := by decide +kernel
theorem dX10_feed_13 : decode cX10_feed 13 = .ok (.if_icmp .le 6, 3) := by decide +kernel
theorem dX10_feed_16 : decode cX10_feed 16 = .ok (.bipush (-4), 2) := by decide +kernel
theorem dX10_feed_18 : decode cX10_feed 18 = .ok (.ireturn, 1) := by decide +kernel
theorem dX10_feed_19 : decode cX10_feed 19 = .ok (.aload_n 0, 1) := by decide +kernel
theorem dX10_feed_20 : decode cX10_feed 20 = .ok (.getfield 10, 3) := by decide +kernel
theorem dX10_feed_23 : decode cX10_feed 23 = .ok (.iload_n 1, 1) := by decide +kernel
theorem dX10_feed_24 : decode cX10_feed 24 = .ok (.invokevirtual 95, 3) := by decide +kernel
theorem dX10_feed_27 : decode cX10_feed 27 = .ok (.aload_n 0, 1) := by decide +kernel
theorem dX10_feed_28 : decode cX10_feed 28 = .ok (.getfield 10, 3) := by decide +kernel
theorem dX10_feed_31 : decode cX10_feed 31 = .ok (.iload_n 2, 1) := by decide +kernel
theorem dX10_feed_32 : decode cX10_feed 32 = .ok (.invokevirtual 95, 3) := by decide +kernel
theorem dX10_feed_35 : decode cX10_feed 35 = .ok (.aload_n 0, 1) := by decide +kernel
theorem dX10_feed_36 : decode cX10_feed 36 = .ok (.getfield 10, 3) := by decide +kernel
theorem dX10_feed_39 : decode cX10_feed 39 = .ok (.iload_n 3, 1) := by decide +kernel
theorem dX10_feed_40 : decode cX10_feed 40 = .ok (.invokevirtual 95, 3) := by decide +kernel
theorem dX10_feed_43 : decode cX10_feed 43 = .ok (.aload_n 0, 1) := by decide +kernel
theorem dX10_feed_44 : decode cX10_feed 44 = .ok (.getfield 10, 3) := by decide +kernel
theorem dX10_feed_47 : decode cX10_feed 47 = .ok (.iload 4, 2) := by decide +kernel
theorem dX10_feed_49 : decode cX10_feed 49 = .ok (.invokevirtual 95, 3) := by decide +kernel
theorem dX10_feed_52 : decode cX10_feed 52 = .ok (.aload_n 0, 1) := by decide +kernel
theorem dX10_feed_53 : decode cX10_feed 53 = .ok (.getfield 10, 3) := by decide +kernel
theorem dX10_feed_56 : decode cX10_feed 56 = .ok (.iload 5, 2) := by decide +kernel
theorem dX10_feed_58 : decode cX10_feed 58 = .ok (.invokevirtual 95, 3) := by decide +kernel
theorem dX10_feed_61 : decode cX10_feed 61 = .ok (.aload_n 0, 1) := by decide +kernel
theorem dX10_feed_62 : decode cX10_feed 62 = .ok (.getfield 10, 3) := by decide +kernel
theorem dX10_feed_65 : decode cX10_feed 65 = .ok (.getfield 92, 3) := by decide +kernel
theorem dX10_feed_68 : decode cX10_feed 68 = .ok (.ireturn, 1) := by decide +kernel
theorem dX10_load_0 : decode cX10_load 0 = .ok (.iload_n 1, 1) := by decide +kernel
theorem dX10_load_1 : decode cX10_load 1 = .ok (.ifCond .lt 14, 3) := by decide +kernel
theorem dX10_load_4 : decode cX10_load 4 = .ok (.iload_n 1, 1) := by decide +kernel
theorem dX10_load_5 : decode cX10_load 5 = .ok (.aload_n 0, 1) := by decide +kernel
theorem dX10_load_6 : decode cX10_load 6 = .ok (.getfield 10, 3) := by decide +kernel
theorem dX10_load_9 : decode cX10_load 9 = .ok (.getfield 92, 3) := by decide +kernel
theorem dX10_load_12 : decode cX10_load 12 = .ok (.if_icmp .le 6, 3) := by decide +kernel
theorem dX10_load_15 : decode cX10_load 15 = .ok (.bipush (-3), 2) := by decide +kernel
theorem dX10_load_17 : decode cX10_load 17 = .ok (.ireturn, 1) := by decide +kernel
theorem dX10_load_18 : decode cX10_load 18 = .ok (.aload_n 0, 1) := by decide +kernel
theorem dX10_load_19 : decode cX10_load 19 = .ok (.getfield 16, 3) := by decide +kernel
theorem dX10_load_22 : decode cX10_load 22 = .ok (.aload_n 0, 1) := by decide +kernel
theorem dX10_load_23 : decode cX10_load 23 = .ok (.getfield 10, 3) := by decide +kernel
theorem dX10_load_26 : decode cX10_load 26 = .ok (.iload_n 1, 1) := by decide +kernel
theorem dX10_load_27 : decode cX10_load 27 = .ok (.invokevirtual 99, 3) := by decide +kernel
theorem dX10_load_30 : decode cX10_load 30 = .ok (.aload_n 0, 1) := by decide +kernel
theorem dX10_load_31 : decode cX10_load 31 = .ok (.getfield 10, 3) := by decide +kernel
theorem dX10_load_34 : decode cX10_load 34 = .ok (.invokevirtual 103, 3) := by decide +kernel
theorem dX10_load_37 : decode cX10_load 37 = .ok (.aload_n 0, 1) := by decide +kernel
theorem dX10_load_38 : decode cX10_load 38 = .ok (.getfield 22, 3) := by decide +kernel
theorem dX10_load_41 : decode cX10_load 41 = .ok (.aload_n 0, 1) := by decide +kernel
theorem dX10_load_42 : decode cX10_load 42 = .ok (.getfield 16, 3) := by decide +kernel
theorem dX10_load_45 : decode cX10_load 45 = .ok (.invokevirtual 106, 3) := by decide +kernel
theorem dX10_load_48 : decode cX10_load 48 = .ok (.aload_n 0, 1) := by decide +kernel
theorem dX10_load_49 : decode cX10_load 49 = .ok (.getfield 22, 3) := by decide +kernel
theorem dX10_load_52 : decode cX10_load 52 = .ok (.getfield 110, 3) := by decide +kernel
theorem dX10_load_55 : decode cX10_load 55 = .ok (.ifCond .eq 14, 3) := by decide +kernel
theorem dX10_load_58 : decode cX10_load 58 = .ok (.bipush (-30), 2) := by decide +kernel
theorem dX10_load_60 : decode cX10_load 60 = .ok (.aload_n 0, 1) := by decide +kernel
theorem dX10_load_61 : decode cX10_load 61 = .ok (.getfield 22, 3) := by decide +kernel
theorem dX10_load_64 : decode cX10_load 64 = .ok (.getfield 110, 3) := by decide +kernel
theorem dX10_load_67 : decode cX10_load 67 = .ok (.isub, 1) := by decide +kernel
theorem dX10_load_68 : decode cX10_load 68 = .ok (.ireturn, 1) := by decide +kernel
theorem dX10_load_69 : decode cX10_load 69 = .ok (.aload_n 0, 1) := by decide +kernel
theorem dX10_load_70 : decode cX10_load 70 = .ok (.getfield 29, 3) := by decide +kernel
theorem dX10_load_73 : decode cX10_load 73 = .ok (.aload_n 0, 1) := by decide +kernel
theorem dX10_load_74 : decode cX10_load 74 = .ok (.getfield 16, 3) := by decide +kernel
theorem dX10_load_77 : decode cX10_load 77 = .ok (.invokevirtual 113, 3) := by decide +kernel
theorem dX10_load_80 : decode cX10_load 80 = .ok (.aload_n 0, 1) := by decide +kernel
theorem dX10_load_81 : decode cX10_load 81 = .ok (.getfield 36, 3) := by decide +kernel
theorem dX10_load_84 : decode cX10_load 84 = .ok (.aload_n 0, 1) := by decide +kernel
theorem dX10_load_85 : decode cX10_load 85 = .ok (.getfield 29, 3) := by decide +kernel
theorem dX10_load_88 : decode cX10_load 88 = .ok (.invokevirtual 116, 3) := by decide +kernel
theorem dX10_load_91 : decode cX10_load 91 = .ok (.aload_n 0, 1) := by decide +kernel
theorem dX10_load_92 : decode cX10_load 92 = .ok (.getfield 43, 3) := by decide +kernel
theorem dX10_load_95 : decode cX10_load 95 = .ok (.aload_n 0, 1) := by decide +kernel
theorem dX10_load_96 : decode cX10_load 96 = .ok (.getfield 29, 3) := by decide +kernel
theorem dX10_load_99 : decode cX10_load 99 = .ok (.aload_n 0, 1) := by decide +kernel
theorem dX10_load_100 : decode cX10_load 100 = .ok (.getfield 36, 3) := by decide +kernel
theorem dX10_load_103 : decode cX10_load 103 = .ok (.invokevirtual 120, 3) := by decide +kernel
theorem dX10_load_106 : decode cX10_load 106 = .ok (.aload_n 0, 1) := by decide +kernel
theorem dX10_load_107 : decode cX10_load 107 = .ok (.getfield 36, 3) := by decide +kernel
theorem dX10_load_110 : decode cX10_load 110 = .ok (.getfield 124, 3) := by decide +kernel
theorem dX10_load_113 : decode cX10_load 113 = .ok (.ireturn, 1) := by decide +kernel
theorem dX10_fault_0 : decode cX10_fault 0 = .ok (.iload_n 1, 1) := by decide +kernel
theorem dX10_fault_1 : decode cX10_fault 1 = .ok (.lookupswitch 43 #[(0, 27), (1, 35)], 27) := by decide +kernel
theorem dX10_fault_28 : decode cX10_fault 28 = .ok (.aload_n 0, 1) := by decide +kernel
theorem dX10_fault_29 : decode cX10_fault 29 = .ok (.getfield 22, 3) := by decide +kernel
theorem dX10_fault_32 : decode cX10_fault 32 = .ok (.getfield 110, 3) := by decide +kernel
theorem dX10_fault_35 : decode cX10_fault 35 = .ok (.ireturn, 1) := by decide +kernel
theorem dX10_fault_36 : decode cX10_fault 36 = .ok (.aload_n 0, 1) := by decide +kernel
theorem dX10_fault_37 : decode cX10_fault 37 = .ok (.getfield 22, 3) := by decide +kernel
theorem dX10_fault_40 : decode cX10_fault 40 = .ok (.getfield 127, 3) := by decide +kernel
theorem dX10_fault_43 : decode cX10_fault 43 = .ok (.ireturn, 1) := by decide +kernel
theorem dX10_fault_44 : decode cX10_fault 44 = .ok (.iconst (-1), 1) := by decide +kernel
theorem dX10_fault_45 : decode cX10_fault 45 = .ok (.ireturn, 1) := by decide +kernel
theorem dX10_mend_0 : decode cX10_mend 0 = .ok (.iload_n 1, 1) := by decide +kernel
theorem dX10_mend_1 : decode cX10_mend 1 = .ok (.ifCond .ge 6, 3) := by decide +kernel
theorem dX10_mend_4 : decode cX10_mend 4 = .ok (.bipush (-3), 2) := by decide +kernel
theorem dX10_mend_6 : decode cX10_mend 6 = .ok (.ireturn, 1) := by decide +kernel
theorem dX10_mend_7 : decode cX10_mend 7 = .ok (.iload_n 1, 1) := by decide +kernel
theorem dX10_mend_8 : decode cX10_mend 8 = .ok (.aload_n 0, 1) := by decide +kernel
theorem dX10_mend_9 : decode cX10_mend 9 = .ok (.getfield 16, 3) := by decide +kernel
theorem dX10_mend_12 : decode cX10_mend 12 = .ok (.getfield 92, 3) := by decide +kernel
theorem dX10_mend_15 : decode cX10_mend 15 = .ok (.sipush 128, 3) := by decide +kernel
theorem dX10_mend_18 : decode cX10_mend 18 = .ok (.idiv, 1) := by decide +kernel
theorem dX10_mend_19 : decode cX10_mend 19 = .ok (.sipush 128, 3) := by decide +kernel
theorem dX10_mend_22 : decode cX10_mend 22 = .ok (.imul, 1) := by decide +kernel
theorem dX10_mend_23 : decode cX10_mend 23 = .ok (.if_icmp .lt 5, 3) := by decide +kernel
theorem dX10_mend_26 : decode cX10_mend 26 = .ok (.iconst (-1), 1) := by decide +kernel
theorem dX10_mend_27 : decode cX10_mend 27 = .ok (.ireturn, 1) := by decide +kernel
theorem dX10_mend_28 : decode cX10_mend 28 = .ok (.aload_n 0, 1) := by decide +kernel
theorem dX10_mend_29 : decode cX10_mend 29 = .ok (.getfield 16, 3) := by decide +kernel
theorem dX10_mend_32 : decode cX10_mend 32 = .ok (.iload_n 1, 1) := by decide +kernel
theorem dX10_mend_33 : decode cX10_mend 33 = .ok (.invokevirtual 130, 3) := by decide +kernel
theorem dX10_mend_36 : decode cX10_mend 36 = .ok (.aload_n 0, 1) := by decide +kernel
theorem dX10_mend_37 : decode cX10_mend 37 = .ok (.getfield 16, 3) := by decide +kernel
theorem dX10_mend_40 : decode cX10_mend 40 = .ok (.iload_n 1, 1) := by decide +kernel
theorem dX10_mend_41 : decode cX10_mend 41 = .ok (.sipush 128, 3) := by decide +kernel
theorem dX10_mend_44 : decode cX10_mend 44 = .ok (.idiv, 1) := by decide +kernel
theorem dX10_mend_45 : decode cX10_mend 45 = .ok (.invokevirtual 134, 3) := by decide +kernel
theorem dX10_mend_48 : decode cX10_mend 48 = .ok (.isub, 1) := by decide +kernel
theorem dX10_mend_49 : decode cX10_mend 49 = .ok (.sipush 255, 3) := by decide +kernel
theorem dX10_mend_52 : decode cX10_mend 52 = .ok (.iand, 1) := by decide +kernel
theorem dX10_mend_53 : decode cX10_mend 53 = .ok (.ireturn, 1) := by decide +kernel
theorem dX10_told_0 : decode cX10_told 0 = .ok (.iload_n 1, 1) := by decide +kernel
theorem dX10_told_1 : decode cX10_told 1 = .ok (.ifCond .lt 21, 3) := by decide +kernel
theorem dX10_told_4 : decode cX10_told 4 = .ok (.iload_n 1, 1) := by decide +kernel
theorem dX10_told_5 : decode cX10_told 5 = .ok (.bipush 26, 2) := by decide +kernel
theorem dX10_told_7 : decode cX10_told 7 = .ok (.if_icmp .gt 15, 3) := by decide +kernel
theorem dX10_told_10 : decode cX10_told 10 = .ok (.iload_n 1, 1) := by decide +kernel
theorem dX10_told_11 : decode cX10_told 11 = .ok (.bipush 16, 2) := by decide +kernel
theorem dX10_told_13 : decode cX10_told 13 = .ok (.if_icmp .le 12, 3) := by decide +kernel
theorem dX10_told_16 : decode cX10_told 16 = .ok (.iload_n 1, 1) := by decide +kernel
theorem dX10_told_17 : decode cX10_told 17 = .ok (.bipush 20, 2) := by decide +kernel
theorem dX10_told_19 : decode cX10_told 19 = .ok (.if_icmp .ge 6, 3) := by decide +kernel
theorem dX10_told_22 : decode cX10_told 22 = .ok (.bipush (-2), 2) := by decide +kernel
theorem dX10_told_24 : decode cX10_told 24 = .ok (.ireturn, 1) := by decide +kernel
theorem dX10_told_25 : decode cX10_told 25 = .ok (.aload_n 0, 1) := by decide +kernel
theorem dX10_told_26 : decode cX10_told 26 = .ok (.getfield 29, 3) := by decide +kernel
theorem dX10_told_29 : decode cX10_told 29 = .ok (.getfield 137, 3) := by decide +kernel
theorem dX10_told_32 : decode cX10_told 32 = .ok (.ifCond .ne 6, 3) := by decide +kernel
theorem dX10_told_35 : decode cX10_told 35 = .ok (.bipush (-5), 2) := by decide +kernel
theorem dX10_told_37 : decode cX10_told 37 = .ok (.ireturn, 1) := by decide +kernel
theorem dX10_told_38 : decode cX10_told 38 = .ok (.iload_n 1, 1) := by decide +kernel
theorem dX10_told_39 : decode cX10_told 39 = .ok (.bipush 20, 2) := by decide +kernel
theorem dX10_told_41 : decode cX10_told 41 = .ok (.if_icmp .lt 15, 3) := by decide +kernel
theorem dX10_told_44 : decode cX10_told 44 = .ok (.aload_n 0, 1) := by decide +kernel
theorem dX10_told_45 : decode cX10_told 45 = .ok (.getfield 36, 3) := by decide +kernel
theorem dX10_told_48 : decode cX10_told 48 = .ok (.iload_n 1, 1) := by decide +kernel
theorem dX10_told_49 : decode cX10_told 49 = .ok (.bipush 20, 2) := by decide +kernel
theorem dX10_told_51 : decode cX10_told 51 = .ok (.isub, 1) := by decide +kernel
theorem dX10_told_52 : decode cX10_told 52 = .ok (.invokevirtual 140, 3) := by decide +kernel
theorem dX10_told_55 : decode cX10_told 55 = .ok (.ireturn, 1) := by decide +kernel
theorem dX10_told_56 : decode cX10_told 56 = .ok (.iload_n 1, 1) := by decide +kernel
theorem dX10_told_57 : decode cX10_told 57 = .ok (.bipush 9, 2) := by decide +kernel
theorem dX10_told_59 : decode cX10_told 59 = .ok (.if_icmp .lt 21, 3) := by decide +kernel
theorem dX10_told_62 : decode cX10_told 62 = .ok (.iload_n 1, 1) := by decide +kernel
theorem dX10_told_63 : decode cX10_told 63 = .ok (.bipush 13, 2) := by decide +kernel
theorem dX10_told_65 : decode cX10_told 65 = .ok (.if_icmp .gt 15, 3) := by decide +kernel
theorem dX10_told_68 : decode cX10_told 68 = .ok (.aload_n 0, 1) := by decide +kernel
theorem dX10_told_69 : decode cX10_told 69 = .ok (.getfield 29, 3) := by decide +kernel
theorem dX10_told_72 : decode cX10_told 72 = .ok (.iload_n 1, 1) := by decide +kernel
theorem dX10_told_73 : decode cX10_told 73 = .ok (.bipush 9, 2) := by decide +kernel
theorem dX10_told_75 : decode cX10_told 75 = .ok (.isub, 1) := by decide +kernel
theorem dX10_told_76 : decode cX10_told 76 = .ok (.invokevirtual 143, 3) := by decide +kernel
theorem dX10_told_79 : decode cX10_told 79 = .ok (.ireturn, 1) := by decide +kernel
theorem dX10_told_80 : decode cX10_told 80 = .ok (.aload_n 0, 1) := by decide +kernel
theorem dX10_told_81 : decode cX10_told 81 = .ok (.iload_n 1, 1) := by decide +kernel
theorem dX10_told_82 : decode cX10_told 82 = .ok (.invokevirtual 146, 3) := by decide +kernel
theorem dX10_told_85 : decode cX10_told 85 = .ok (.ireturn, 1) := by decide +kernel
theorem dX10_toldPlainly_0 : decode cX10_toldPlainly 0 = .ok (.iload_n 1, 1) := by decide +kernel
theorem dX10_toldPlainly_1 : decode cX10_toldPlainly 1 = .ok (.tableswitch 164 0 15 #[79, 79, 79, 88, 101, 114, 124, 132, 140, 164, 164, 164, 164, 164, 148, 156], 79) := by decide +kernel
theorem dX10_toldPlainly_80 : decode cX10_toldPlainly 80 = .ok (.aload_n 0, 1) := by decide +kernel
theorem dX10_toldPlainly_81 : decode cX10_toldPlainly 81 = .ok (.getfield 29, 3) := by decide +kernel
theorem dX10_toldPlainly_84 : decode cX10_toldPlainly 84 = .ok (.iload_n 1, 1) := by decide +kernel
theorem dX10_toldPlainly_85 : decode cX10_toldPlainly 85 = .ok (.invokevirtual 149, 3) := by decide +kernel
theorem dX10_toldPlainly_88 : decode cX10_toldPlainly 88 = .ok (.ireturn, 1) := by decide +kernel
theorem dX10_toldPlainly_89 : decode cX10_toldPlainly 89 = .ok (.aload_n 0, 1) := by decide +kernel
theorem dX10_toldPlainly_90 : decode cX10_toldPlainly 90 = .ok (.getfield 29, 3) := by decide +kernel
theorem dX10_toldPlainly_93 : decode cX10_toldPlainly 93 = .ok (.getfield 152, 3) := by decide +kernel
theorem dX10_toldPlainly_96 : decode cX10_toldPlainly 96 = .ok (.bipush 21, 2) := by decide +kernel
theorem dX10_toldPlainly_98 : decode cX10_toldPlainly 98 = .ok (.invokevirtual 130, 3) := by decide +kernel
theorem dX10_toldPlainly_101 : decode cX10_toldPlainly 101 = .ok (.ireturn, 1) := by decide +kernel
theorem dX10_toldPlainly_102 : decode cX10_toldPlainly 102 = .ok (.aload_n 0, 1) := by decide +kernel
theorem dX10_toldPlainly_103 : decode cX10_toldPlainly 103 = .ok (.getfield 29, 3) := by decide +kernel
theorem dX10_toldPlainly_106 : decode cX10_toldPlainly 106 = .ok (.getfield 152, 3) := by decide +kernel
theorem dX10_toldPlainly_109 : decode cX10_toldPlainly 109 = .ok (.bipush 22, 2) := by decide +kernel
theorem dX10_toldPlainly_111 : decode cX10_toldPlainly 111 = .ok (.invokevirtual 130, 3) := by decide +kernel
theorem dX10_toldPlainly_114 : decode cX10_toldPlainly 114 = .ok (.ireturn, 1) := by decide +kernel
theorem dX10_toldPlainly_115 : decode cX10_toldPlainly 115 = .ok (.aload_n 0, 1) := by decide +kernel
theorem dX10_toldPlainly_116 : decode cX10_toldPlainly 116 = .ok (.getfield 29, 3) := by decide +kernel
theorem dX10_toldPlainly_119 : decode cX10_toldPlainly 119 = .ok (.getfield 137, 3) := by decide +kernel
theorem dX10_toldPlainly_122 : decode cX10_toldPlainly 122 = .ok (.iconst 1, 1) := by decide +kernel
theorem dX10_toldPlainly_123 : decode cX10_toldPlainly 123 = .ok (.isub, 1) := by decide +kernel
theorem dX10_toldPlainly_124 : decode cX10_toldPlainly 124 = .ok (.ireturn, 1) := by decide +kernel
theorem dX10_toldPlainly_125 : decode cX10_toldPlainly 125 = .ok (.aload_n 0, 1) := by decide +kernel
theorem dX10_toldPlainly_126 : decode cX10_toldPlainly 126 = .ok (.getfield 29, 3) := by decide +kernel
theorem dX10_toldPlainly_129 : decode cX10_toldPlainly 129 = .ok (.getfield 155, 3) := by decide +kernel
theorem dX10_toldPlainly_132 : decode cX10_toldPlainly 132 = .ok (.ireturn, 1) := by decide +kernel
theorem dX10_toldPlainly_133 : decode cX10_toldPlainly 133 = .ok (.aload_n 0, 1) := by decide +kernel
theorem dX10_toldPlainly_134 : decode cX10_toldPlainly 134 = .ok (.getfield 29, 3) := by decide +kernel
theorem dX10_toldPlainly_137 : decode cX10_toldPlainly 137 = .ok (.getfield 158, 3) := by decide +kernel
theorem dX10_toldPlainly_140 : decode cX10_toldPlainly 140 = .ok (.ireturn, 1) := by decide +kernel
theorem dX10_toldPlainly_141 : decode cX10_toldPlainly 141 = .ok (.aload_n 0, 1) := by decide +kernel
theorem dX10_toldPlainly_142 : decode cX10_toldPlainly 142 = .ok (.getfield 29, 3) := by decide +kernel
theorem dX10_toldPlainly_145 : decode cX10_toldPlainly 145 = .ok (.getfield 161, 3) := by decide +kernel
theorem dX10_toldPlainly_148 : decode cX10_toldPlainly 148 = .ok (.ireturn, 1) := by decide +kernel
theorem dX10_toldPlainly_149 : decode cX10_toldPlainly 149 = .ok (.aload_n 0, 1) := by decide +kernel
theorem dX10_toldPlainly_150 : decode cX10_toldPlainly 150 = .ok (.getfield 29, 3) := by decide +kernel
theorem dX10_toldPlainly_153 : decode cX10_toldPlainly 153 = .ok (.getfield 164, 3) := by decide +kernel
theorem dX10_toldPlainly_156 : decode cX10_toldPlainly 156 = .ok (.ireturn, 1) := by decide +kernel
theorem dX10_toldPlainly_157 : decode cX10_toldPlainly 157 = .ok (.aload_n 0, 1) := by decide +kernel
theorem dX10_toldPlainly_158 : decode cX10_toldPlainly 158 = .ok (.getfield 29, 3) := by decide +kernel
theorem dX10_toldPlainly_161 : decode cX10_toldPlainly 161 = .ok (.getfield 167, 3) := by decide +kernel
theorem dX10_toldPlainly_164 : decode cX10_toldPlainly 164 = .ok (.ireturn, 1) := by decide +kernel
theorem dX10_toldPlainly_165 : decode cX10_toldPlainly 165 = .ok (.aload_n 0, 1) := by decide +kernel
theorem dX10_toldPlainly_166 : decode cX10_toldPlainly 166 = .ok (.getfield 36, 3) := by decide +kernel
theorem dX10_toldPlainly_169 : decode cX10_toldPlainly 169 = .ok (.getfield 124, 3) := by decide +kernel
theorem dX10_toldPlainly_172 : decode cX10_toldPlainly 172 = .ok (.ireturn, 1) := by decide +kernel
theorem dX10_name_0 : decode cX10_name 0 = .ok (.iload_n 1, 1) := by decide +kernel
theorem dX10_name_1 : decode cX10_name 1 = .ok (.ifCond .ge 6, 3) := by decide +kernel
theorem dX10_name_4 : decode cX10_name 4 = .ok (.bipush (-3), 2) := by decide +kernel
theorem dX10_name_6 : decode cX10_name 6 = .ok (.ireturn, 1) := by decide +kernel
theorem dX10_name_7 : decode cX10_name 7 = .ok (.iload_n 1, 1) := by decide +kernel
theorem dX10_name_8 : decode cX10_name 8 = .ok (.aload_n 0, 1) := by decide +kernel
theorem dX10_name_9 : decode cX10_name 9 = .ok (.getfield 29, 3) := by decide +kernel
theorem dX10_name_12 : decode cX10_name 12 = .ok (.getfield 167, 3) := by decide +kernel
theorem dX10_name_15 : decode cX10_name 15 = .ok (.if_icmp .ge 14, 3) := by decide +kernel
theorem dX10_name_18 : decode cX10_name 18 = .ok (.aload_n 0, 1) := by decide +kernel
theorem dX10_name_19 : decode cX10_name 19 = .ok (.getfield 29, 3) := by decide +kernel
theorem dX10_name_22 : decode cX10_name 22 = .ok (.iload_n 1, 1) := by decide +kernel
theorem dX10_name_23 : decode cX10_name 23 = .ok (.invokevirtual 170, 3) := by decide +kernel
theorem dX10_name_26 : decode cX10_name 26 = .ok (.goto 4, 3) := by decide +kernel
theorem dX10_name_29 : decode cX10_name 29 = .ok (.iconst (-1), 1) := by decide +kernel
theorem dX10_name_30 : decode cX10_name 30 = .ok (.ireturn, 1) := by decide +kernel
theorem dX10_detailed_0 : decode cX10_detailed 0 = .ok (.aload_n 0, 1) := by decide +kernel
theorem dX10_detailed_1 : decode cX10_detailed 1 = .ok (.getfield 29, 3) := by decide +kernel
theorem dX10_detailed_4 : decode cX10_detailed 4 = .ok (.iload_n 1, 1) := by decide +kernel
theorem dX10_detailed_5 : decode cX10_detailed 5 = .ok (.invokevirtual 173, 3) := by decide +kernel
theorem dX10_detailed_8 : decode cX10_detailed 8 = .ok (.astore_n 3, 1) := by decide +kernel
theorem dX10_detailed_9 : decode cX10_detailed 9 = .ok (.aload_n 3, 1) := by decide +kernel
theorem dX10_detailed_10 : decode cX10_detailed 10 = .ok (.ifnull 13, 3) := by decide +kernel
theorem dX10_detailed_13 : decode cX10_detailed 13 = .ok (.iload_n 2, 1) := by decide +kernel
theorem dX10_detailed_14 : decode cX10_detailed 14 = .ok (.ifCond .lt 9, 3) := by decide +kernel
theorem dX10_detailed_17 : decode cX10_detailed 17 = .ok (.iload_n 2, 1) := by decide +kernel
theorem dX10_detailed_18 : decode cX10_detailed 18 = .ok (.bipush 10, 2) := by decide +kernel
theorem dX10_detailed_20 : decode cX10_detailed 20 = .ok (.if_icmp .le 6, 3) := by decide +kernel
theorem dX10_detailed_23 : decode cX10_detailed 23 = .ok (.bipush (-2), 2) := by decide +kernel
theorem dX10_detailed_25 : decode cX10_detailed 25 = .ok (.ireturn, 1) := by decide +kernel
theorem dX10_detailed_26 : decode cX10_detailed 26 = .ok (.aload_n 3, 1) := by decide +kernel
theorem dX10_detailed_27 : decode cX10_detailed 27 = .ok (.iload_n 2, 1) := by decide +kernel
theorem dX10_detailed_28 : decode cX10_detailed 28 = .ok (.invokevirtual 177, 3) := by decide +kernel
theorem dX10_detailed_31 : decode cX10_detailed 31 = .ok (.ireturn, 1) := by decide +kernel
theorem dX10_forged_0 : decode cX10_forged 0 = .ok (.iload_n 1, 1) := by decide +kernel
theorem dX10_forged_1 : decode cX10_forged 1 = .ok (.ifCond .lt 10, 3) := by decide +kernel
theorem dX10_forged_4 : decode cX10_forged 4 = .ok (.iload_n 1, 1) := by decide +kernel
theorem dX10_forged_5 : decode cX10_forged 5 = .ok (.sipush 128, 3) := by decide +kernel
theorem dX10_forged_8 : decode cX10_forged 8 = .ok (.if_icmp .lt 6, 3) := by decide +kernel
theorem dX10_forged_11 : decode cX10_forged 11 = .ok (.bipush (-2), 2) := by decide +kernel
theorem dX10_forged_13 : decode cX10_forged 13 = .ok (.ireturn, 1) := by decide +kernel
theorem dX10_forged_14 : decode cX10_forged 14 = .ok (.aload_n 0, 1) := by decide +kernel
theorem dX10_forged_15 : decode cX10_forged 15 = .ok (.getfield 29, 3) := by decide +kernel
theorem dX10_forged_18 : decode cX10_forged 18 = .ok (.getfield 137, 3) := by decide +kernel
theorem dX10_forged_21 : decode cX10_forged 21 = .ok (.ifCond .ne 6, 3) := by decide +kernel
theorem dX10_forged_24 : decode cX10_forged 24 = .ok (.bipush (-5), 2) := by decide +kernel
theorem dX10_forged_26 : decode cX10_forged 26 = .ok (.ireturn, 1) := by decide +kernel
theorem dX10_forged_27 : decode cX10_forged 27 = .ok (.aload_n 0, 1) := by decide +kernel
theorem dX10_forged_28 : decode cX10_forged 28 = .ok (.getfield 43, 3) := by decide +kernel
theorem dX10_forged_31 : decode cX10_forged 31 = .ok (.getfield 180, 3) := by decide +kernel
theorem dX10_forged_34 : decode cX10_forged 34 = .ok (.ifCond .eq 14, 3) := by decide +kernel
theorem dX10_forged_37 : decode cX10_forged 37 = .ok (.aload_n 0, 1) := by decide +kernel
theorem dX10_forged_38 : decode cX10_forged 38 = .ok (.getfield 43, 3) := by decide +kernel
theorem dX10_forged_41 : decode cX10_forged 41 = .ok (.iload_n 1, 1) := by decide +kernel
theorem dX10_forged_42 : decode cX10_forged 42 = .ok (.invokevirtual 184, 3) := by decide +kernel
theorem dX10_forged_45 : decode cX10_forged 45 = .ok (.goto 4, 3) := by decide +kernel
theorem dX10_forged_48 : decode cX10_forged 48 = .ok (.iconst (-1), 1) := by decide +kernel
theorem dX10_forged_49 : decode cX10_forged 49 = .ok (.ireturn, 1) := by decide +kernel
theorem dX10_mode_0 : decode cX10_mode 0 = .ok (.aload_n 0, 1) := by decide +kernel
theorem dX10_mode_1 : decode cX10_mode 1 = .ok (.getfield 36, 3) := by decide +kernel
theorem dX10_mode_4 : decode cX10_mode 4 = .ok (.iload_n 1, 1) := by decide +kernel
theorem dX10_mode_5 : decode cX10_mode 5 = .ok (.invokevirtual 185, 3) := by decide +kernel
theorem dX10_mode_8 : decode cX10_mode 8 = .ok (.astore_n 3, 1) := by decide +kernel
theorem dX10_mode_9 : decode cX10_mode 9 = .ok (.aload_n 3, 1) := by decide +kernel
theorem dX10_mode_10 : decode cX10_mode 10 = .ok (.ifnonnull 6, 3) := by decide +kernel
theorem dX10_mode_13 : decode cX10_mode 13 = .ok (.bipush (-2), 2) := by decide +kernel
theorem dX10_mode_15 : decode cX10_mode 15 = .ok (.ireturn, 1) := by decide +kernel
theorem dX10_mode_16 : decode cX10_mode 16 = .ok (.iload_n 2, 1) := by decide +kernel
theorem dX10_mode_17 : decode cX10_mode 17 = .ok (.tableswitch 122 0 8 #[51, 59, 67, 72, 80, 88, 96, 101, 114], 51) := by decide +kernel
theorem dX10_mode_68 : decode cX10_mode 68 = .ok (.aload_n 3, 1) := by decide +kernel
theorem dX10_mode_69 : decode cX10_mode 69 = .ok (.getfield 188, 3) := by decide +kernel
theorem dX10_mode_72 : decode cX10_mode 72 = .ok (.getfield 193, 3) := by decide +kernel
theorem dX10_mode_75 : decode cX10_mode 75 = .ok (.ireturn, 1) := by decide +kernel
theorem dX10_mode_76 : decode cX10_mode 76 = .ok (.aload_n 3, 1) := by decide +kernel
theorem dX10_mode_77 : decode cX10_mode 77 = .ok (.getfield 188, 3) := by decide +kernel
theorem dX10_mode_80 : decode cX10_mode 80 = .ok (.getfield 196, 3) := by decide +kernel
theorem dX10_mode_83 : decode cX10_mode 83 = .ok (.ireturn, 1) := by decide +kernel
theorem dX10_mode_84 : decode cX10_mode 84 = .ok (.aload_n 3, 1) := by decide +kernel
theorem dX10_mode_85 : decode cX10_mode 85 = .ok (.getfield 199, 3) := by decide +kernel
theorem dX10_mode_88 : decode cX10_mode 88 = .ok (.ireturn, 1) := by decide +kernel
theorem dX10_mode_89 : decode cX10_mode 89 = .ok (.aload_n 3, 1) := by decide +kernel
theorem dX10_mode_90 : decode cX10_mode 90 = .ok (.getfield 188, 3) := by decide +kernel
theorem dX10_mode_93 : decode cX10_mode 93 = .ok (.getfield 202, 3) := by decide +kernel
theorem dX10_mode_96 : decode cX10_mode 96 = .ok (.ireturn, 1) := by decide +kernel
theorem dX10_mode_97 : decode cX10_mode 97 = .ok (.aload_n 3, 1) := by decide +kernel
theorem dX10_mode_98 : decode cX10_mode 98 = .ok (.getfield 188, 3) := by decide +kernel
theorem dX10_mode_101 : decode cX10_mode 101 = .ok (.invokevirtual 205, 3) := by decide +kernel
theorem dX10_mode_104 : decode cX10_mode 104 = .ok (.ireturn, 1) := by decide +kernel
theorem dX10_mode_105 : decode cX10_mode 105 = .ok (.aload_n 3, 1) := by decide +kernel
theorem dX10_mode_106 : decode cX10_mode 106 = .ok (.getfield 188, 3) := by decide +kernel
theorem dX10_mode_109 : decode cX10_mode 109 = .ok (.invokevirtual 209, 3) := by decide +kernel
theorem dX10_mode_112 : decode cX10_mode 112 = .ok (.ireturn, 1) := by decide +kernel
theorem dX10_mode_113 : decode cX10_mode 113 = .ok (.aload_n 3, 1) := by decide +kernel
theorem dX10_mode_114 : decode cX10_mode 114 = .ok (.getfield 212, 3) := by decide +kernel
theorem dX10_mode_117 : decode cX10_mode 117 = .ok (.ireturn, 1) := by decide +kernel
theorem dX10_mode_118 : decode cX10_mode 118 = .ok (.aload_n 3, 1) := by decide +kernel
theorem dX10_mode_119 : decode cX10_mode 119 = .ok (.getfield 215, 3) := by decide +kernel
theorem dX10_mode_122 : decode cX10_mode 122 = .ok (.ifCond .eq 7, 3) := by decide +kernel
theorem dX10_mode_125 : decode cX10_mode 125 = .ok (.iconst 1, 1) := by decide +kernel
theorem dX10_mode_126 : decode cX10_mode 126 = .ok (.goto 4, 3) := by decide +kernel
theorem dX10_mode_129 : decode cX10_mode 129 = .ok (.iconst 0, 1) := by decide +kernel
theorem dX10_mode_130 : decode cX10_mode 130 = .ok (.ireturn, 1) := by decide +kernel
theorem dX10_mode_131 : decode cX10_mode 131 = .ok (.aload_n 3, 1) := by decide +kernel
theorem dX10_mode_132 : decode cX10_mode 132 = .ok (.getfield 188, 3) := by decide +kernel
theorem dX10_mode_135 : decode cX10_mode 135 = .ok (.invokevirtual 218, 3) := by decide +kernel
theorem dX10_mode_138 : decode cX10_mode 138 = .ok (.ireturn, 1) := by decide +kernel
theorem dX10_mode_139 : decode cX10_mode 139 = .ok (.bipush (-2), 2) := by decide +kernel
theorem dX10_mode_141 : decode cX10_mode 141 = .ok (.ireturn, 1) := by decide +kernel
theorem dX10_called_0 : decode cX10_called 0 = .ok (.aload_n 0, 1) := by decide +kernel
theorem dX10_called_1 : decode cX10_called 1 = .ok (.getfield 36, 3) := by decide +kernel
theorem dX10_called_4 : decode cX10_called 4 = .ok (.iload_n 1, 1) := by decide +kernel
theorem dX10_called_5 : decode cX10_called 5 = .ok (.invokevirtual 185, 3) := by decide +kernel
theorem dX10_called_8 : decode cX10_called 8 = .ok (.astore_n 3, 1) := by decide +kernel
theorem dX10_called_9 : decode cX10_called 9 = .ok (.aload_n 3, 1) := by decide +kernel
theorem dX10_called_10 : decode cX10_called 10 = .ok (.ifnonnull 6, 3) := by decide +kernel
theorem dX10_called_13 : decode cX10_called 13 = .ok (.bipush (-2), 2) := by decide +kernel
theorem dX10_called_15 : decode cX10_called 15 = .ok (.ireturn, 1) := by decide +kernel
theorem dX10_called_16 : decode cX10_called 16 = .ok (.iload_n 2, 1) := by decide +kernel
theorem dX10_called_17 : decode cX10_called 17 = .ok (.ifCond .ge 6, 3) := by decide +kernel
theorem dX10_called_20 : decode cX10_called 20 = .ok (.bipush (-3), 2) := by decide +kernel
theorem dX10_called_22 : decode cX10_called 22 = .ok (.ireturn, 1) := by decide +kernel
theorem dX10_called_23 : decode cX10_called 23 = .ok (.aload_n 0, 1) := by decide +kernel
theorem dX10_called_24 : decode cX10_called 24 = .ok (.getfield 57, 3) := by decide +kernel
theorem dX10_called_27 : decode cX10_called 27 = .ok (.iconst 0, 1) := by decide +kernel
theorem dX10_called_28 : decode cX10_called 28 = .ok (.invokevirtual 221, 3) := by decide +kernel
theorem dX10_called_31 : decode cX10_called 31 = .ok (.aload_n 0, 1) := by decide +kernel
theorem dX10_called_32 : decode cX10_called 32 = .ok (.getfield 57, 3) := by decide +kernel
theorem dX10_called_35 : decode cX10_called 35 = .ok (.aload_n 3, 1) := by decide +kernel
theorem dX10_called_36 : decode cX10_called 36 = .ok (.getfield 188, 3) := by decide +kernel
theorem dX10_called_39 : decode cX10_called 39 = .ok (.getfield 193, 3) := by decide +kernel
theorem dX10_called_42 : decode cX10_called 42 = .ok (.invokevirtual 224, 3) := by decide +kernel
theorem dX10_called_45 : decode cX10_called 45 = .ok (.bipush 120, 2) := by decide +kernel
theorem dX10_called_47 : decode cX10_called 47 = .ok (.invokevirtual 228, 3) := by decide +kernel
theorem dX10_called_50 : decode cX10_called 50 = .ok (.aload_n 3, 1) := by decide +kernel
theorem dX10_called_51 : decode cX10_called 51 = .ok (.getfield 188, 3) := by decide +kernel
theorem dX10_called_54 : decode cX10_called 54 = .ok (.getfield 196, 3) := by decide +kernel
theorem dX10_called_57 : decode cX10_called 57 = .ok (.invokevirtual 224, 3) := by decide +kernel
theorem dX10_called_60 : decode cX10_called 60 = .ok (.bipush 64, 2) := by decide +kernel
theorem dX10_called_62 : decode cX10_called 62 = .ok (.invokevirtual 228, 3) := by decide +kernel
theorem dX10_called_65 : decode cX10_called 65 = .ok (.aload_n 3, 1) := by decide +kernel
theorem dX10_called_66 : decode cX10_called 66 = .ok (.getfield 199, 3) := by decide +kernel
theorem dX10_called_69 : decode cX10_called 69 = .ok (.invokevirtual 224, 3) := by decide +kernel
theorem dX10_called_72 : decode cX10_called 72 = .ok (.pop, 1) := by decide +kernel
theorem dX10_called_73 : decode cX10_called 73 = .ok (.aload_n 3, 1) := by decide +kernel
theorem dX10_called_74 : decode cX10_called 74 = .ok (.getfield 215, 3) := by decide +kernel
theorem dX10_called_77 : decode cX10_called 77 = .ok (.ifCond .eq 13, 3) := by decide +kernel
theorem dX10_called_80 : decode cX10_called 80 = .ok (.aload_n 0, 1) := by decide +kernel
theorem dX10_called_81 : decode cX10_called 81 = .ok (.getfield 57, 3) := by decide +kernel
theorem dX10_called_84 : decode cX10_called 84 = .ok (.bipush 33, 2) := by decide +kernel
theorem dX10_called_86 : decode cX10_called 86 = .ok (.invokevirtual 228, 3) := by decide +kernel
theorem dX10_called_89 : decode cX10_called 89 = .ok (.pop, 1) := by decide +kernel
theorem dX10_called_90 : decode cX10_called 90 = .ok (.iload_n 2, 1) := by decide +kernel
theorem dX10_called_91 : decode cX10_called 91 = .ok (.aload_n 0, 1) := by decide +kernel
theorem dX10_called_92 : decode cX10_called 92 = .ok (.getfield 57, 3) := by decide +kernel
theorem dX10_called_95 : decode cX10_called 95 = .ok (.invokevirtual 231, 3) := by decide +kernel
theorem dX10_called_98 : decode cX10_called 98 = .ok (.if_icmp .ge 14, 3) := by decide +kernel
theorem dX10_called_101 : decode cX10_called 101 = .ok (.aload_n 0, 1) := by decide +kernel
theorem dX10_called_102 : decode cX10_called 102 = .ok (.getfield 57, 3) := by decide +kernel
theorem dX10_called_105 : decode cX10_called 105 = .ok (.iload_n 2, 1) := by decide +kernel
theorem dX10_called_106 : decode cX10_called 106 = .ok (.invokevirtual 233, 3) := by decide +kernel
theorem dX10_called_109 : decode cX10_called 109 = .ok (.goto 4, 3) := by decide +kernel
theorem dX10_called_112 : decode cX10_called 112 = .ok (.iconst (-1), 1) := by decide +kernel
theorem dX10_called_113 : decode cX10_called 113 = .ok (.ireturn, 1) := by decide +kernel
theorem dX10_find_0 : decode cX10_find 0 = .ok (.aload_n 0, 1) := by decide +kernel
theorem dX10_find_1 : decode cX10_find 1 = .ok (.getfield 36, 3) := by decide +kernel
theorem dX10_find_4 : decode cX10_find 4 = .ok (.iload_n 1, 1) := by decide +kernel
theorem dX10_find_5 : decode cX10_find 5 = .ok (.iload_n 2, 1) := by decide +kernel
theorem dX10_find_6 : decode cX10_find 6 = .ok (.iload_n 3, 1) := by decide +kernel
theorem dX10_find_7 : decode cX10_find 7 = .ok (.invokevirtual 237, 3) := by decide +kernel
theorem dX10_find_10 : decode cX10_find 10 = .ok (.ireturn, 1) := by decide +kernel
theorem dX10_formula_0 : decode cX10_formula 0 = .ok (.iload_n 1, 1) := by decide +kernel
theorem dX10_formula_1 : decode cX10_formula 1 = .ok (.invokestatic 241, 3) := by decide +kernel
theorem dX10_formula_4 : decode cX10_formula 4 = .ok (.ifCond .eq 15, 3) := by decide +kernel
theorem dX10_formula_7 : decode cX10_formula 7 = .ok (.iload 5, 2) := by decide +kernel
theorem dX10_formula_9 : decode cX10_formula 9 = .ok (.ifCond .lt 10, 3) := by decide +kernel
theorem dX10_formula_12 : decode cX10_formula 12 = .ok (.iload 5, 2) := by decide +kernel
theorem dX10_formula_14 : decode cX10_formula 14 = .ok (.bipush 9, 2) := by decide +kernel
theorem dX10_formula_16 : decode cX10_formula 16 = .ok (.if_icmp .le 6, 3) := by decide +kernel
theorem dX10_formula_19 : decode cX10_formula 19 = .ok (.bipush (-2), 2) := by decide +kernel
theorem dX10_formula_21 : decode cX10_formula 21 = .ok (.ireturn, 1) := by decide +kernel
theorem dX10_formula_22 : decode cX10_formula 22 = .ok (.iload_n 2, 1) := by decide +kernel
theorem dX10_formula_23 : decode cX10_formula 23 = .ok (.iload_n 3, 1) := by decide +kernel
theorem dX10_formula_24 : decode cX10_formula 24 = .ok (.invokestatic 245, 3) := by decide +kernel
theorem dX10_formula_27 : decode cX10_formula 27 = .ok (.ifCond .eq 11, 3) := by decide +kernel
theorem dX10_formula_30 : decode cX10_formula 30 = .ok (.iload 4, 2) := by decide +kernel
theorem dX10_formula_32 : decode cX10_formula 32 = .ok (.invokestatic 249, 3) := by decide +kernel
theorem dX10_formula_35 : decode cX10_formula 35 = .ok (.ifCond .ne 6, 3) := by decide +kernel
theorem dX10_formula_38 : decode cX10_formula 38 = .ok (.bipush (-3), 2) := by decide +kernel
theorem dX10_formula_40 : decode cX10_formula 40 = .ok (.ireturn, 1) := by decide +kernel
theorem dX10_formula_41 : decode cX10_formula 41 = .ok (.aload_n 0, 1) := by decide +kernel
theorem dX10_formula_42 : decode cX10_formula 42 = .ok (.getfield 50, 3) := by decide +kernel
theorem dX10_formula_45 : decode cX10_formula 45 = .ok (.iload_n 1, 1) := by decide +kernel
theorem dX10_formula_46 : decode cX10_formula 46 = .ok (.iload_n 2, 1) := by decide +kernel
theorem dX10_formula_47 : decode cX10_formula 47 = .ok (.iload_n 3, 1) := by decide +kernel
theorem dX10_formula_48 : decode cX10_formula 48 = .ok (.iload 4, 2) := by decide +kernel
theorem dX10_formula_50 : decode cX10_formula 50 = .ok (.invokevirtual 252, 3) := by decide +kernel
theorem dX10_formula_53 : decode cX10_formula 53 = .ok (.iload 5, 2) := by decide +kernel
theorem dX10_formula_55 : decode cX10_formula 55 = .ok (.lookupswitch 41 #[(8, 25), (9, 33)], 25) := by decide +kernel
theorem dX10_formula_80 : decode cX10_formula 80 = .ok (.aload_n 0, 1) := by decide +kernel
theorem dX10_formula_81 : decode cX10_formula 81 = .ok (.getfield 50, 3) := by decide +kernel
theorem dX10_formula_84 : decode cX10_formula 84 = .ok (.getfield 202, 3) := by decide +kernel
theorem dX10_formula_87 : decode cX10_formula 87 = .ok (.ireturn, 1) := by decide +kernel
theorem dX10_formula_88 : decode cX10_formula 88 = .ok (.aload_n 0, 1) := by decide +kernel
theorem dX10_formula_89 : decode cX10_formula 89 = .ok (.getfield 50, 3) := by decide +kernel
theorem dX10_formula_92 : decode cX10_formula 92 = .ok (.invokevirtual 218, 3) := by decide +kernel
theorem dX10_formula_95 : decode cX10_formula 95 = .ok (.ireturn, 1) := by decide +kernel
theorem dX10_formula_96 : decode cX10_formula 96 = .ok (.aload_n 0, 1) := by decide +kernel
theorem dX10_formula_97 : decode cX10_formula 97 = .ok (.getfield 50, 3) := by decide +kernel
theorem dX10_formula_100 : decode cX10_formula 100 = .ok (.iload 5, 2) := by decide +kernel
theorem dX10_formula_102 : decode cX10_formula 102 = .ok (.iconst 1, 1) := by decide +kernel
theorem dX10_formula_103 : decode cX10_formula 103 = .ok (.iadd, 1) := by decide +kernel
theorem dX10_formula_104 : decode cX10_formula 104 = .ok (.invokevirtual 177, 3) := by decide +kernel
theorem dX10_formula_107 : decode cX10_formula 107 = .ok (.ireturn, 1) := by decide +kernel
theorem dX10_descriptor_0 : decode cX10_descriptor 0 = .ok (.iload_n 1, 1) := by decide +kernel
theorem dX10_descriptor_1 : decode cX10_descriptor 1 = .ok (.invokestatic 241, 3) := by decide +kernel
theorem dX10_descriptor_4 : decode cX10_descriptor 4 = .ok (.ifCond .eq 15, 3) := by decide +kernel
theorem dX10_descriptor_7 : decode cX10_descriptor 7 = .ok (.iload 5, 2) := by decide +kernel
theorem dX10_descriptor_9 : decode cX10_descriptor 9 = .ok (.ifCond .lt 10, 3) := by decide +kernel
theorem dX10_descriptor_12 : decode cX10_descriptor 12 = .ok (.iload 5, 2) := by decide +kernel
theorem dX10_descriptor_14 : decode cX10_descriptor 14 = .ok (.bipush 18, 2) := by decide +kernel
theorem dX10_descriptor_16 : decode cX10_descriptor 16 = .ok (.if_icmp .lt 6, 3) := by decide +kernel
theorem dX10_descriptor_19 : decode cX10_descriptor 19 = .ok (.bipush (-2), 2) := by decide +kernel
theorem dX10_descriptor_21 : decode cX10_descriptor 21 = .ok (.ireturn, 1) := by decide +kernel
theorem dX10_descriptor_22 : decode cX10_descriptor 22 = .ok (.iload_n 2, 1) := by decide +kernel
theorem dX10_descriptor_23 : decode cX10_descriptor 23 = .ok (.iload_n 3, 1) := by decide +kernel
theorem dX10_descriptor_24 : decode cX10_descriptor 24 = .ok (.invokestatic 245, 3) := by decide +kernel
theorem dX10_descriptor_27 : decode cX10_descriptor 27 = .ok (.ifCond .eq 11, 3) := by decide +kernel
theorem dX10_descriptor_30 : decode cX10_descriptor 30 = .ok (.iload 4, 2) := by decide +kernel
theorem dX10_descriptor_32 : decode cX10_descriptor 32 = .ok (.invokestatic 249, 3) := by decide +kernel
theorem dX10_descriptor_35 : decode cX10_descriptor 35 = .ok (.ifCond .ne 6, 3) := by decide +kernel
theorem dX10_descriptor_38 : decode cX10_descriptor 38 = .ok (.bipush (-3), 2) := by decide +kernel
theorem dX10_descriptor_40 : decode cX10_descriptor 40 = .ok (.ireturn, 1) := by decide +kernel
theorem dX10_descriptor_41 : decode cX10_descriptor 41 = .ok (.aload_n 0, 1) := by decide +kernel
theorem dX10_descriptor_42 : decode cX10_descriptor 42 = .ok (.getfield 50, 3) := by decide +kernel
theorem dX10_descriptor_45 : decode cX10_descriptor 45 = .ok (.iload_n 1, 1) := by decide +kernel
theorem dX10_descriptor_46 : decode cX10_descriptor 46 = .ok (.iload_n 2, 1) := by decide +kernel
theorem dX10_descriptor_47 : decode cX10_descriptor 47 = .ok (.iload_n 3, 1) := by decide +kernel
theorem dX10_descriptor_48 : decode cX10_descriptor 48 = .ok (.iload 4, 2) := by decide +kernel
theorem dX10_descriptor_50 : decode cX10_descriptor 50 = .ok (.invokevirtual 252, 3) := by decide +kernel
theorem dX10_descriptor_53 : decode cX10_descriptor 53 = .ok (.aload_n 0, 1) := by decide +kernel
theorem dX10_descriptor_54 : decode cX10_descriptor 54 = .ok (.getfield 50, 3) := by decide +kernel
theorem dX10_descriptor_57 : decode cX10_descriptor 57 = .ok (.invokevirtual 256, 3) := by decide +kernel
theorem dX10_descriptor_60 : decode cX10_descriptor 60 = .ok (.ifCond .eq 15, 3) := by decide +kernel
theorem dX10_descriptor_63 : decode cX10_descriptor 63 = .ok (.aload_n 0, 1) := by decide +kernel
theorem dX10_descriptor_64 : decode cX10_descriptor 64 = .ok (.getfield 50, 3) := by decide +kernel
theorem dX10_descriptor_67 : decode cX10_descriptor 67 = .ok (.iload 5, 2) := by decide +kernel
theorem dX10_descriptor_69 : decode cX10_descriptor 69 = .ok (.invokevirtual 260, 3) := by decide +kernel
theorem dX10_descriptor_72 : decode cX10_descriptor 72 = .ok (.goto 5, 3) := by decide +kernel
theorem dX10_descriptor_75 : decode cX10_descriptor 75 = .ok (.bipush (-5), 2) := by decide +kernel
theorem dX10_descriptor_77 : decode cX10_descriptor 77 = .ok (.ireturn, 1) := by decide +kernel
theorem dX10_fastest_0 : decode cX10_fastest 0 = .ok (.iload_n 1, 1) := by decide +kernel
theorem dX10_fastest_1 : decode cX10_fastest 1 = .ok (.invokestatic 241, 3) := by decide +kernel
theorem dX10_fastest_4 : decode cX10_fastest 4 = .ok (.ifCond .ne 6, 3) := by decide +kernel
theorem dX10_fastest_7 : decode cX10_fastest 7 = .ok (.bipush (-2), 2) := by decide +kernel
theorem dX10_fastest_9 : decode cX10_fastest 9 = .ok (.ireturn, 1) := by decide +kernel
theorem dX10_fastest_10 : decode cX10_fastest 10 = .ok (.iload_n 2, 1) := by decide +kernel
theorem dX10_fastest_11 : decode cX10_fastest 11 = .ok (.iload_n 3, 1) := by decide +kernel
theorem dX10_fastest_12 : decode cX10_fastest 12 = .ok (.invokestatic 245, 3) := by decide +kernel
theorem dX10_fastest_15 : decode cX10_fastest 15 = .ok (.ifCond .eq 21, 3) := by decide +kernel
theorem dX10_fastest_18 : decode cX10_fastest 18 = .ok (.iload 4, 2) := by decide +kernel
theorem dX10_fastest_20 : decode cX10_fastest 20 = .ok (.iload 5, 2) := by decide +kernel
theorem dX10_fastest_22 : decode cX10_fastest 22 = .ok (.invokestatic 263, 3) := by decide +kernel
theorem dX10_fastest_25 : decode cX10_fastest 25 = .ok (.ifCond .eq 11, 3) := by decide +kernel
theorem dX10_fastest_28 : decode cX10_fastest 28 = .ok (.iload 6, 2) := by decide +kernel
theorem dX10_fastest_30 : decode cX10_fastest 30 = .ok (.invokestatic 266, 3) := by decide +kernel
theorem dX10_fastest_33 : decode cX10_fastest 33 = .ok (.ifCond .ne 6, 3) := by decide +kernel
theorem dX10_fastest_36 : decode cX10_fastest 36 = .ok (.bipush (-3), 2) := by decide +kernel
theorem dX10_fastest_38 : decode cX10_fastest 38 = .ok (.ireturn, 1) := by decide +kernel
theorem dX10_fastest_39 : decode cX10_fastest 39 = .ok (.iload 4, 2) := by decide +kernel
theorem dX10_fastest_41 : decode cX10_fastest 41 = .ok (.iload 5, 2) := by decide +kernel
theorem dX10_fastest_43 : decode cX10_fastest 43 = .ok (.invokestatic 269, 3) := by decide +kernel
theorem dX10_fastest_46 : decode cX10_fastest 46 = .ok (.i2l, 1) := by decide +kernel
theorem dX10_fastest_47 : decode cX10_fastest 47 = .ok (.lstore 7, 2) := by decide +kernel
theorem dX10_fastest_49 : decode cX10_fastest 49 = .ok (.sipush 240, 3) := by decide +kernel
theorem dX10_fastest_52 : decode cX10_fastest 52 = .ok (.istore 9, 2) := by decide +kernel
theorem dX10_fastest_54 : decode cX10_fastest 54 = .ok (.iload 9, 2) := by decide +kernel
theorem dX10_fastest_56 : decode cX10_fastest 56 = .ok (.bipush 20, 2) := by decide +kernel
theorem dX10_fastest_58 : decode cX10_fastest 58 = .ok (.if_icmp .lt 42, 3) := by decide +kernel
theorem dX10_fastest_61 : decode cX10_fastest 61 = .ok (.aload_n 0, 1) := by decide +kernel
theorem dX10_fastest_62 : decode cX10_fastest 62 = .ok (.getfield 50, 3) := by decide +kernel
theorem dX10_fastest_65 : decode cX10_fastest 65 = .ok (.iload_n 1, 1) := by decide +kernel
theorem dX10_fastest_66 : decode cX10_fastest 66 = .ok (.iload_n 2, 1) := by decide +kernel
theorem dX10_fastest_67 : decode cX10_fastest 67 = .ok (.iload_n 3, 1) := by decide +kernel
theorem dX10_fastest_68 : decode cX10_fastest 68 = .ok (.iload 9, 2) := by decide +kernel
theorem dX10_fastest_70 : decode cX10_fastest 70 = .ok (.invokevirtual 252, 3) := by decide +kernel
theorem dX10_fastest_73 : decode cX10_fastest 73 = .ok (.aload_n 0, 1) := by decide +kernel
theorem dX10_fastest_74 : decode cX10_fastest 74 = .ok (.getfield 50, 3) := by decide +kernel
theorem dX10_fastest_77 : decode cX10_fastest 77 = .ok (.getfield 202, 3) := by decide +kernel
theorem dX10_fastest_80 : decode cX10_fastest 80 = .ok (.iload 6, 2) := by decide +kernel
theorem dX10_fastest_82 : decode cX10_fastest 82 = .ok (.invokestatic 273, 3) := by decide +kernel
theorem dX10_fastest_85 : decode cX10_fastest 85 = .ok (.lload 7, 2) := by decide +kernel
theorem dX10_fastest_87 : decode cX10_fastest 87 = .ok (.lcmp, 1) := by decide +kernel
theorem dX10_fastest_88 : decode cX10_fastest 88 = .ok (.ifCond .gt 6, 3) := by decide +kernel
theorem dX10_fastest_91 : decode cX10_fastest 91 = .ok (.iload 9, 2) := by decide +kernel
theorem dX10_fastest_93 : decode cX10_fastest 93 = .ok (.ireturn, 1) := by decide +kernel
theorem dX10_fastest_94 : decode cX10_fastest 94 = .ok (.iinc 9 (-1), 3) := by decide +kernel
theorem dX10_fastest_97 : decode cX10_fastest 97 = .ok (.goto (-43), 3) := by decide +kernel
theorem dX10_fastest_100 : decode cX10_fastest 100 = .ok (.iconst (-1), 1) := by decide +kernel
theorem dX10_fastest_101 : decode cX10_fastest 101 = .ok (.ireturn, 1) := by decide +kernel
theorem dX10_isFormula_0 : decode cX10_isFormula 0 = .ok (.iload_n 0, 1) := by decide +kernel
theorem dX10_isFormula_1 : decode cX10_isFormula 1 = .ok (.ifCond .eq 8, 3) := by decide +kernel
theorem dX10_isFormula_4 : decode cX10_isFormula 4 = .ok (.iload_n 0, 1) := by decide +kernel
theorem dX10_isFormula_5 : decode cX10_isFormula 5 = .ok (.iconst 1, 1) := by decide +kernel
theorem dX10_isFormula_6 : decode cX10_isFormula 6 = .ok (.if_icmp .ne 7, 3) := by decide +kernel
theorem dX10_isFormula_9 : decode cX10_isFormula 9 = .ok (.iconst 1, 1) := by decide +kernel
theorem dX10_isFormula_10 : decode cX10_isFormula 10 = .ok (.goto 4, 3) := by decide +kernel
theorem dX10_isFormula_13 : decode cX10_isFormula 13 = .ok (.iconst 0, 1) := by decide +kernel
theorem dX10_isFormula_14 : decode cX10_isFormula 14 = .ok (.ireturn, 1) := by decide +kernel
theorem dX10_isSize_0 : decode cX10_isSize 0 = .ok (.iload_n 0, 1) := by decide +kernel
theorem dX10_isSize_1 : decode cX10_isSize 1 = .ok (.bipush 64, 2) := by decide +kernel
theorem dX10_isSize_3 : decode cX10_isSize 3 = .ok (.if_icmp .lt 27, 3) := by decide +kernel
theorem dX10_isSize_6 : decode cX10_isSize 6 = .ok (.iload_n 0, 1) := by decide +kernel
theorem dX10_isSize_7 : decode cX10_isSize 7 = .ok (.sipush 4095, 3) := by decide +kernel
theorem dX10_isSize_10 : decode cX10_isSize 10 = .ok (.if_icmp .gt 20, 3) := by decide +kernel
theorem dX10_isSize_13 : decode cX10_isSize 13 = .ok (.iload_n 1, 1) := by decide +kernel
theorem dX10_isSize_14 : decode cX10_isSize 14 = .ok (.bipush 48, 2) := by decide +kernel
theorem dX10_isSize_16 : decode cX10_isSize 16 = .ok (.if_icmp .lt 14, 3) := by decide +kernel
theorem dX10_isSize_19 : decode cX10_isSize 19 = .ok (.iload_n 1, 1) := by decide +kernel
theorem dX10_isSize_20 : decode cX10_isSize 20 = .ok (.sipush 4095, 3) := by decide +kernel
theorem dX10_isSize_23 : decode cX10_isSize 23 = .ok (.if_icmp .gt 7, 3) := by decide +kernel
theorem dX10_isSize_26 : decode cX10_isSize 26 = .ok (.iconst 1, 1) := by decide +kernel
theorem dX10_isSize_27 : decode cX10_isSize 27 = .ok (.goto 4, 3) := by decide +kernel
theorem dX10_isSize_30 : decode cX10_isSize 30 = .ok (.iconst 0, 1) := by decide +kernel
theorem dX10_isSize_31 : decode cX10_isSize 31 = .ok (.ireturn, 1) := by decide +kernel
theorem dX10_isHertz_0 : decode cX10_isHertz 0 = .ok (.iload_n 0, 1) := by decide +kernel
theorem dX10_isHertz_1 : decode cX10_isHertz 1 = .ok (.bipush 20, 2) := by decide +kernel
theorem dX10_isHertz_3 : decode cX10_isHertz 3 = .ok (.if_icmp .lt 14, 3) := by decide +kernel
theorem dX10_isHertz_6 : decode cX10_isHertz 6 = .ok (.iload_n 0, 1) := by decide +kernel
theorem dX10_isHertz_7 : decode cX10_isHertz 7 = .ok (.sipush 240, 3) := by decide +kernel
theorem dX10_isHertz_10 : decode cX10_isHertz 10 = .ok (.if_icmp .gt 7, 3) := by decide +kernel
theorem dX10_isHertz_13 : decode cX10_isHertz 13 = .ok (.iconst 1, 1) := by decide +kernel
theorem dX10_isHertz_14 : decode cX10_isHertz 14 = .ok (.goto 4, 3) := by decide +kernel
theorem dX10_isHertz_17 : decode cX10_isHertz 17 = .ok (.iconst 0, 1) := by decide +kernel
theorem dX10_isHertz_18 : decode cX10_isHertz 18 = .ok (.ireturn, 1) := by decide +kernel
theorem dX10_wish_0 : decode cX10_wish 0 = .ok (.iload_n 1, 1) := by decide +kernel
theorem dX10_wish_1 : decode cX10_wish 1 = .ok (.invokestatic 266, 3) := by decide +kernel
theorem dX10_wish_4 : decode cX10_wish 4 = .ok (.ifCond .ne 6, 3) := by decide +kernel
theorem dX10_wish_7 : decode cX10_wish 7 = .ok (.bipush (-3), 2) := by decide +kernel
theorem dX10_wish_9 : decode cX10_wish 9 = .ok (.ireturn, 1) := by decide +kernel
theorem dX10_wish_10 : decode cX10_wish 10 = .ok (.aload_n 0, 1) := by decide +kernel
theorem dX10_wish_11 : decode cX10_wish 11 = .ok (.getfield 88, 3) := by decide +kernel
theorem dX10_wish_14 : decode cX10_wish 14 = .ok (.istore_n 2, 1) := by decide +kernel
theorem dX10_wish_15 : decode cX10_wish 15 = .ok (.aload_n 0, 1) := by decide +kernel
theorem dX10_wish_16 : decode cX10_wish 16 = .ok (.iload_n 1, 1) := by decide +kernel
theorem dX10_wish_17 : decode cX10_wish 17 = .ok (.putfield 88, 3) := by decide +kernel
theorem dX10_wish_20 : decode cX10_wish 20 = .ok (.iload_n 2, 1) := by decide +kernel
theorem dX10_wish_21 : decode cX10_wish 21 = .ok (.ireturn, 1) := by decide +kernel
theorem dX10_room_0 : decode cX10_room 0 = .ok (.iload_n 1, 1) := by decide +kernel
theorem dX10_room_1 : decode cX10_room 1 = .ok (.iload_n 2, 1) := by decide +kernel
theorem dX10_room_2 : decode cX10_room 2 = .ok (.invokestatic 263, 3) := by decide +kernel
theorem dX10_room_5 : decode cX10_room 5 = .ok (.ifCond .eq 11, 3) := by decide +kernel
theorem dX10_room_8 : decode cX10_room 8 = .ok (.iload_n 1, 1) := by decide +kernel
theorem dX10_room_9 : decode cX10_room 9 = .ok (.iload_n 2, 1) := by decide +kernel
theorem dX10_room_10 : decode cX10_room 10 = .ok (.invokestatic 269, 3) := by decide +kernel
theorem dX10_room_13 : decode cX10_room 13 = .ok (.goto 5, 3) := by decide +kernel
theorem dX10_room_16 : decode cX10_room 16 = .ok (.bipush (-3), 2) := by decide +kernel
theorem dX10_room_18 : decode cX10_room 18 = .ok (.ireturn, 1) := by decide +kernel
theorem dX10_need_0 : decode cX10_need 0 = .ok (.aload_n 0, 1) := by decide +kernel
theorem dX10_need_1 : decode cX10_need 1 = .ok (.getfield 36, 3) := by decide +kernel
theorem dX10_need_4 : decode cX10_need 4 = .ok (.iload_n 1, 1) := by decide +kernel
theorem dX10_need_5 : decode cX10_need 5 = .ok (.invokevirtual 185, 3) := by decide +kernel
theorem dX10_need_8 : decode cX10_need 8 = .ok (.astore_n 3, 1) := by decide +kernel
theorem dX10_need_9 : decode cX10_need 9 = .ok (.aload_n 3, 1) := by decide +kernel
theorem dX10_need_10 : decode cX10_need 10 = .ok (.ifnonnull 6, 3) := by decide +kernel
theorem dX10_need_13 : decode cX10_need 13 = .ok (.bipush (-2), 2) := by decide +kernel
theorem dX10_need_15 : decode cX10_need 15 = .ok (.ireturn, 1) := by decide +kernel
theorem dX10_need_16 : decode cX10_need 16 = .ok (.iload_n 2, 1) := by decide +kernel
theorem dX10_need_17 : decode cX10_need 17 = .ok (.invokestatic 266, 3) := by decide +kernel
theorem dX10_need_20 : decode cX10_need 20 = .ok (.ifCond .ne 6, 3) := by decide +kernel
theorem dX10_need_23 : decode cX10_need 23 = .ok (.bipush (-3), 2) := by decide +kernel
theorem dX10_need_25 : decode cX10_need 25 = .ok (.ireturn, 1) := by decide +kernel
theorem dX10_need_26 : decode cX10_need 26 = .ok (.aload_n 3, 1) := by decide +kernel
theorem dX10_need_27 : decode cX10_need 27 = .ok (.getfield 188, 3) := by decide +kernel
theorem dX10_need_30 : decode cX10_need 30 = .ok (.getfield 202, 3) := by decide +kernel
theorem dX10_need_33 : decode cX10_need 33 = .ok (.iload_n 2, 1) := by decide +kernel
theorem dX10_need_34 : decode cX10_need 34 = .ok (.invokestatic 273, 3) := by decide +kernel
theorem dX10_need_37 : decode cX10_need 37 = .ok (.l2i, 1) := by decide +kernel
theorem dX10_need_38 : decode cX10_need 38 = .ok (.ireturn, 1) := by decide +kernel
theorem dX10_best_0 : decode cX10_best 0 = .ok (.iload_n 3, 1) := by decide +kernel
theorem dX10_best_1 : decode cX10_best 1 = .ok (.ifCond .lt 8, 3) := by decide +kernel
theorem dX10_best_4 : decode cX10_best 4 = .ok (.iload_n 3, 1) := by decide +kernel
theorem dX10_best_5 : decode cX10_best 5 = .ok (.iconst 1, 1) := by decide +kernel
theorem dX10_best_6 : decode cX10_best 6 = .ok (.if_icmp .le 6, 3) := by decide +kernel
theorem dX10_best_9 : decode cX10_best 9 = .ok (.bipush (-2), 2) := by decide +kernel
theorem dX10_best_11 : decode cX10_best 11 = .ok (.ireturn, 1) := by decide +kernel
theorem dX10_best_12 : decode cX10_best 12 = .ok (.iload_n 1, 1) := by decide +kernel
theorem dX10_best_13 : decode cX10_best 13 = .ok (.iload_n 2, 1) := by decide +kernel
theorem dX10_best_14 : decode cX10_best 14 = .ok (.invokestatic 263, 3) := by decide +kernel
theorem dX10_best_17 : decode cX10_best 17 = .ok (.ifCond .ne 6, 3) := by decide +kernel
theorem dX10_best_20 : decode cX10_best 20 = .ok (.bipush (-3), 2) := by decide +kernel
theorem dX10_best_22 : decode cX10_best 22 = .ok (.ireturn, 1) := by decide +kernel
theorem dX10_best_23 : decode cX10_best 23 = .ok (.aload_n 0, 1) := by decide +kernel
theorem dX10_best_24 : decode cX10_best 24 = .ok (.iload_n 1, 1) := by decide +kernel
theorem dX10_best_25 : decode cX10_best 25 = .ok (.iload_n 2, 1) := by decide +kernel
theorem dX10_best_26 : decode cX10_best 26 = .ok (.invokestatic 269, 3) := by decide +kernel
theorem dX10_best_29 : decode cX10_best 29 = .ok (.iload_n 3, 1) := by decide +kernel
theorem dX10_best_30 : decode cX10_best 30 = .ok (.invokevirtual 277, 3) := by decide +kernel
theorem dX10_best_33 : decode cX10_best 33 = .ok (.ireturn, 1) := by decide +kernel
theorem dX10_cheapest_0 : decode cX10_cheapest 0 = .ok (.aload_n 0, 1) := by decide +kernel
theorem dX10_cheapest_1 : decode cX10_cheapest 1 = .ok (.getfield 36, 3) := by decide +kernel
theorem dX10_cheapest_4 : decode cX10_cheapest 4 = .ok (.iload_n 1, 1) := by decide +kernel
theorem dX10_cheapest_5 : decode cX10_cheapest 5 = .ok (.invokevirtual 185, 3) := by decide +kernel
theorem dX10_cheapest_8 : decode cX10_cheapest 8 = .ok (.astore_n 3, 1) := by decide +kernel
theorem dX10_cheapest_9 : decode cX10_cheapest 9 = .ok (.aload_n 3, 1) := by decide +kernel
theorem dX10_cheapest_10 : decode cX10_cheapest 10 = .ok (.ifnonnull 6, 3) := by decide +kernel
theorem dX10_cheapest_13 : decode cX10_cheapest 13 = .ok (.bipush (-2), 2) := by decide +kernel
theorem dX10_cheapest_15 : decode cX10_cheapest 15 = .ok (.ireturn, 1) := by decide +kernel
theorem dX10_cheapest_16 : decode cX10_cheapest 16 = .ok (.iload_n 2, 1) := by decide +kernel
theorem dX10_cheapest_17 : decode cX10_cheapest 17 = .ok (.invokestatic 266, 3) := by decide +kernel
theorem dX10_cheapest_20 : decode cX10_cheapest 20 = .ok (.ifCond .ne 6, 3) := by decide +kernel
theorem dX10_cheapest_23 : decode cX10_cheapest 23 = .ok (.bipush (-3), 2) := by decide +kernel
theorem dX10_cheapest_25 : decode cX10_cheapest 25 = .ok (.ireturn, 1) := by decide +kernel
theorem dX10_cheapest_26 : decode cX10_cheapest 26 = .ok (.aload_n 3, 1) := by decide +kernel
theorem dX10_cheapest_27 : decode cX10_cheapest 27 = .ok (.getfield 188, 3) := by decide +kernel
theorem dX10_cheapest_30 : decode cX10_cheapest 30 = .ok (.getfield 202, 3) := by decide +kernel
theorem dX10_cheapest_33 : decode cX10_cheapest 33 = .ok (.iload_n 2, 1) := by decide +kernel
theorem dX10_cheapest_34 : decode cX10_cheapest 34 = .ok (.invokestatic 273, 3) := by decide +kernel
theorem dX10_cheapest_37 : decode cX10_cheapest 37 = .ok (.lstore 4, 2) := by decide +kernel
theorem dX10_cheapest_39 : decode cX10_cheapest 39 = .ok (.iconst (-1), 1) := by decide +kernel
theorem dX10_cheapest_40 : decode cX10_cheapest 40 = .ok (.istore 6, 2) := by decide +kernel
theorem dX10_cheapest_42 : decode cX10_cheapest 42 = .ok (.ldc_w 280, 3) := by decide +kernel
theorem dX10_cheapest_45 : decode cX10_cheapest 45 = .ok (.istore 7, 2) := by decide +kernel
theorem dX10_cheapest_47 : decode cX10_cheapest 47 = .ok (.iconst 1, 1) := by decide +kernel
theorem dX10_cheapest_48 : decode cX10_cheapest 48 = .ok (.istore 8, 2) := by decide +kernel
theorem dX10_cheapest_50 : decode cX10_cheapest 50 = .ok (.iload 8, 2) := by decide +kernel
theorem dX10_cheapest_52 : decode cX10_cheapest 52 = .ok (.iconst 4, 1) := by decide +kernel
theorem dX10_cheapest_53 : decode cX10_cheapest 53 = .ok (.if_icmp .gt 66, 3) := by decide +kernel
theorem dX10_cheapest_56 : decode cX10_cheapest 56 = .ok (.iconst 0, 1) := by decide +kernel
theorem dX10_cheapest_57 : decode cX10_cheapest 57 = .ok (.istore 9, 2) := by decide +kernel
theorem dX10_cheapest_59 : decode cX10_cheapest 59 = .ok (.iload 9, 2) := by decide +kernel
theorem dX10_cheapest_61 : decode cX10_cheapest 61 = .ok (.iconst 3, 1) := by decide +kernel
theorem dX10_cheapest_62 : decode cX10_cheapest 62 = .ok (.if_icmp .gt 48, 3) := by decide +kernel
theorem dX10_cheapest_65 : decode cX10_cheapest 65 = .ok (.iload 8, 2) := by decide +kernel
theorem dX10_cheapest_67 : decode cX10_cheapest 67 = .ok (.iload 9, 2) := by decide +kernel
theorem dX10_cheapest_69 : decode cX10_cheapest 69 = .ok (.invokestatic 269, 3) := by decide +kernel
theorem dX10_cheapest_72 : decode cX10_cheapest 72 = .ok (.istore 10, 2) := by decide +kernel
theorem dX10_cheapest_74 : decode cX10_cheapest 74 = .ok (.lload 4, 2) := by decide +kernel
theorem dX10_cheapest_76 : decode cX10_cheapest 76 = .ok (.iload 10, 2) := by decide +kernel
theorem dX10_cheapest_78 : decode cX10_cheapest 78 = .ok (.i2l, 1) := by decide +kernel
theorem dX10_cheapest_79 : decode cX10_cheapest 79 = .ok (.lcmp, 1) := by decide +kernel
theorem dX10_cheapest_80 : decode cX10_cheapest 80 = .ok (.ifCond .gt 24, 3) := by decide +kernel
theorem dX10_cheapest_83 : decode cX10_cheapest 83 = .ok (.iload 10, 2) := by decide +kernel
theorem dX10_cheapest_85 : decode cX10_cheapest 85 = .ok (.iload 7, 2) := by decide +kernel
theorem dX10_cheapest_87 : decode cX10_cheapest 87 = .ok (.if_icmp .ge 17, 3) := by decide +kernel
theorem dX10_cheapest_90 : decode cX10_cheapest 90 = .ok (.iload 10, 2) := by decide +kernel
theorem dX10_cheapest_92 : decode cX10_cheapest 92 = .ok (.istore 7, 2) := by decide +kernel
theorem dX10_cheapest_94 : decode cX10_cheapest 94 = .ok (.bipush 10, 2) := by decide +kernel
theorem dX10_cheapest_96 : decode cX10_cheapest 96 = .ok (.iload 8, 2) := by decide +kernel
theorem dX10_cheapest_98 : decode cX10_cheapest 98 = .ok (.imul, 1) := by decide +kernel
theorem dX10_cheapest_99 : decode cX10_cheapest 99 = .ok (.iload 9, 2) := by decide +kernel
theorem dX10_cheapest_101 : decode cX10_cheapest 101 = .ok (.iadd, 1) := by decide +kernel
theorem dX10_cheapest_102 : decode cX10_cheapest 102 = .ok (.istore 6, 2) := by decide +kernel
theorem dX10_cheapest_104 : decode cX10_cheapest 104 = .ok (.iinc 9 1, 3) := by decide +kernel
theorem dX10_cheapest_107 : decode cX10_cheapest 107 = .ok (.goto (-48), 3) := by decide +kernel
theorem dX10_cheapest_110 : decode cX10_cheapest 110 = .ok (.iload 8, 2) := by decide +kernel
theorem dX10_cheapest_112 : decode cX10_cheapest 112 = .ok (.iconst 2, 1) := by decide +kernel
theorem dX10_cheapest_113 : decode cX10_cheapest 113 = .ok (.imul, 1) := by decide +kernel
theorem dX10_cheapest_114 : decode cX10_cheapest 114 = .ok (.istore 8, 2) := by decide +kernel
theorem dX10_cheapest_116 : decode cX10_cheapest 116 = .ok (.goto (-66), 3) := by decide +kernel
theorem dX10_cheapest_119 : decode cX10_cheapest 119 = .ok (.iload 6, 2) := by decide +kernel
theorem dX10_cheapest_121 : decode cX10_cheapest 121 = .ok (.ireturn, 1) := by decide +kernel
theorem dX10_isLink_0 : decode cX10_isLink 0 = .ok (.iload_n 0, 1) := by decide +kernel
theorem dX10_isLink_1 : decode cX10_isLink 1 = .ok (.iconst 1, 1) := by decide +kernel
theorem dX10_isLink_2 : decode cX10_isLink 2 = .ok (.if_icmp .eq 13, 3) := by decide +kernel
theorem dX10_isLink_5 : decode cX10_isLink 5 = .ok (.iload_n 0, 1) := by decide +kernel
theorem dX10_isLink_6 : decode cX10_isLink 6 = .ok (.iconst 2, 1) := by decide +kernel
theorem dX10_isLink_7 : decode cX10_isLink 7 = .ok (.if_icmp .eq 8, 3) := by decide +kernel
theorem dX10_isLink_10 : decode cX10_isLink 10 = .ok (.iload_n 0, 1) := by decide +kernel
theorem dX10_isLink_11 : decode cX10_isLink 11 = .ok (.iconst 4, 1) := by decide +kernel
theorem dX10_isLink_12 : decode cX10_isLink 12 = .ok (.if_icmp .ne 16, 3) := by decide +kernel
theorem dX10_isLink_15 : decode cX10_isLink 15 = .ok (.iload_n 1, 1) := by decide +kernel
theorem dX10_isLink_16 : decode cX10_isLink 16 = .ok (.ifCond .lt 12, 3) := by decide +kernel
theorem dX10_isLink_19 : decode cX10_isLink 19 = .ok (.iload_n 1, 1) := by decide +kernel
theorem dX10_isLink_20 : decode cX10_isLink 20 = .ok (.iconst 3, 1) := by decide +kernel
theorem dX10_isLink_21 : decode cX10_isLink 21 = .ok (.if_icmp .gt 7, 3) := by decide +kernel
theorem dX10_isLink_24 : decode cX10_isLink 24 = .ok (.iconst 1, 1) := by decide +kernel
theorem dX10_isLink_25 : decode cX10_isLink 25 = .ok (.goto 4, 3) := by decide +kernel
theorem dX10_isLink_28 : decode cX10_isLink 28 = .ok (.iconst 0, 1) := by decide +kernel
theorem dX10_isLink_29 : decode cX10_isLink 29 = .ok (.ireturn, 1) := by decide +kernel
theorem dX10_isDepth_0 : decode cX10_isDepth 0 = .ok (.iload_n 0, 1) := by decide +kernel
theorem dX10_isDepth_1 : decode cX10_isDepth 1 = .ok (.bipush 6, 2) := by decide +kernel
theorem dX10_isDepth_3 : decode cX10_isDepth 3 = .ok (.if_icmp .eq 21, 3) := by decide +kernel
theorem dX10_isDepth_6 : decode cX10_isDepth 6 = .ok (.iload_n 0, 1) := by decide +kernel
theorem dX10_isDepth_7 : decode cX10_isDepth 7 = .ok (.bipush 8, 2) := by decide +kernel
theorem dX10_isDepth_9 : decode cX10_isDepth 9 = .ok (.if_icmp .eq 15, 3) := by decide +kernel
theorem dX10_isDepth_12 : decode cX10_isDepth 12 = .ok (.iload_n 0, 1) := by decide +kernel
theorem dX10_isDepth_13 : decode cX10_isDepth 13 = .ok (.bipush 10, 2) := by decide +kernel
theorem dX10_isDepth_15 : decode cX10_isDepth 15 = .ok (.if_icmp .eq 9, 3) := by decide +kernel
theorem dX10_isDepth_18 : decode cX10_isDepth 18 = .ok (.iload_n 0, 1) := by decide +kernel
theorem dX10_isDepth_19 : decode cX10_isDepth 19 = .ok (.bipush 12, 2) := by decide +kernel
theorem dX10_isDepth_21 : decode cX10_isDepth 21 = .ok (.if_icmp .ne 7, 3) := by decide +kernel
theorem dX10_isDepth_24 : decode cX10_isDepth 24 = .ok (.iconst 1, 1) := by decide +kernel
theorem dX10_isDepth_25 : decode cX10_isDepth 25 = .ok (.goto 4, 3) := by decide +kernel
theorem dX10_isDepth_28 : decode cX10_isDepth 28 = .ok (.iconst 0, 1) := by decide +kernel
theorem dX10_isDepth_29 : decode cX10_isDepth 29 = .ok (.ireturn, 1) := by decide +kernel
theorem dX10_roomOf_0 : decode cX10_roomOf 0 = .ok (.iload_n 1, 1) := by decide +kernel
theorem dX10_roomOf_1 : decode cX10_roomOf 1 = .ok (.ifCond .lt 24, 3) := by decide +kernel
theorem dX10_roomOf_4 : decode cX10_roomOf 4 = .ok (.iload_n 1, 1) := by decide +kernel
theorem dX10_roomOf_5 : decode cX10_roomOf 5 = .ok (.getstatic 281, 3) := by decide +kernel
theorem dX10_roomOf_8 : decode cX10_roomOf 8 = .ok (.arraylength, 1) := by decide +kernel
theorem dX10_roomOf_9 : decode cX10_roomOf 9 = .ok (.if_icmp .ge 16, 3) := by decide +kernel
theorem dX10_roomOf_12 : decode cX10_roomOf 12 = .ok (.iload_n 0, 1) := by decide +kernel
theorem dX10_roomOf_13 : decode cX10_roomOf 13 = .ok (.getstatic 281, 3) := by decide +kernel
theorem dX10_roomOf_16 : decode cX10_roomOf 16 = .ok (.iload_n 1, 1) := by decide +kernel
theorem dX10_roomOf_17 : decode cX10_roomOf 17 = .ok (.iaload, 1) := by decide +kernel
theorem dX10_roomOf_18 : decode cX10_roomOf 18 = .ok (.imul, 1) := by decide +kernel
theorem dX10_roomOf_19 : decode cX10_roomOf 19 = .ok (.bipush 8, 2) := by decide +kernel
theorem dX10_roomOf_21 : decode cX10_roomOf 21 = .ok (.imul, 1) := by decide +kernel
theorem dX10_roomOf_22 : decode cX10_roomOf 22 = .ok (.goto 4, 3) := by decide +kernel
theorem dX10_roomOf_25 : decode cX10_roomOf 25 = .ok (.iconst 0, 1) := by decide +kernel
theorem dX10_roomOf_26 : decode cX10_roomOf 26 = .ok (.ireturn, 1) := by decide +kernel
theorem dX10_needOf_0 : decode cX10_needOf 0 = .ok (.iload_n 0, 1) := by decide +kernel
theorem dX10_needOf_1 : decode cX10_needOf 1 = .ok (.i2l, 1) := by decide +kernel
theorem dX10_needOf_2 : decode cX10_needOf 2 = .ok (.ldc2_w 285, 3) := by decide +kernel
theorem dX10_needOf_5 : decode cX10_needOf 5 = .ok (.lmul, 1) := by decide +kernel
theorem dX10_needOf_6 : decode cX10_needOf 6 = .ok (.iload_n 1, 1) := by decide +kernel
theorem dX10_needOf_7 : decode cX10_needOf 7 = .ok (.i2l, 1) := by decide +kernel
theorem dX10_needOf_8 : decode cX10_needOf 8 = .ok (.lmul, 1) := by decide +kernel
theorem dX10_needOf_9 : decode cX10_needOf 9 = .ok (.lreturn, 1) := by decide +kernel
theorem dX10_depthWithin_0 : decode cX10_depthWithin 0 = .ok (.aload_n 0, 1) := by decide +kernel
theorem dX10_depthWithin_1 : decode cX10_depthWithin 1 = .ok (.getfield 88, 3) := by decide +kernel
theorem dX10_depthWithin_4 : decode cX10_depthWithin 4 = .ok (.istore_n 3, 1) := by decide +kernel
theorem dX10_depthWithin_5 : decode cX10_depthWithin 5 = .ok (.iload_n 3, 1) := by decide +kernel
theorem dX10_depthWithin_6 : decode cX10_depthWithin 6 = .ok (.bipush 6, 2) := by decide +kernel
theorem dX10_depthWithin_8 : decode cX10_depthWithin 8 = .ok (.if_icmp .lt 22, 3) := by decide +kernel
theorem dX10_depthWithin_11 : decode cX10_depthWithin 11 = .ok (.iload_n 1, 1) := by decide +kernel
theorem dX10_depthWithin_12 : decode cX10_depthWithin 12 = .ok (.iload_n 3, 1) := by decide +kernel
theorem dX10_depthWithin_13 : decode cX10_depthWithin 13 = .ok (.invokestatic 273, 3) := by decide +kernel
theorem dX10_depthWithin_16 : decode cX10_depthWithin 16 = .ok (.iload_n 2, 1) := by decide +kernel
theorem dX10_depthWithin_17 : decode cX10_depthWithin 17 = .ok (.i2l, 1) := by decide +kernel
theorem dX10_depthWithin_18 : decode cX10_depthWithin 18 = .ok (.lcmp, 1) := by decide +kernel
theorem dX10_depthWithin_19 : decode cX10_depthWithin 19 = .ok (.ifCond .gt 5, 3) := by decide +kernel
theorem dX10_depthWithin_22 : decode cX10_depthWithin 22 = .ok (.iload_n 3, 1) := by decide +kernel
theorem dX10_depthWithin_23 : decode cX10_depthWithin 23 = .ok (.ireturn, 1) := by decide +kernel
theorem dX10_depthWithin_24 : decode cX10_depthWithin 24 = .ok (.iinc 3 (-2), 3) := by decide +kernel
theorem dX10_depthWithin_27 : decode cX10_depthWithin 27 = .ok (.goto (-22), 3) := by decide +kernel
theorem dX10_depthWithin_30 : decode cX10_depthWithin 30 = .ok (.iconst 0, 1) := by decide +kernel
theorem dX10_depthWithin_31 : decode cX10_depthWithin 31 = .ok (.ireturn, 1) := by decide +kernel
theorem dX10_bestWithin_0 : decode cX10_bestWithin 0 = .ok (.iconst 0, 1) := by decide +kernel
theorem dX10_bestWithin_1 : decode cX10_bestWithin 1 = .ok (.istore_n 3, 1) := by decide +kernel
theorem dX10_bestWithin_2 : decode cX10_bestWithin 2 = .ok (.iload_n 3, 1) := by decide +kernel
theorem dX10_bestWithin_3 : decode cX10_bestWithin 3 = .ok (.aload_n 0, 1) := by decide +kernel
theorem dX10_bestWithin_4 : decode cX10_bestWithin 4 = .ok (.getfield 36, 3) := by decide +kernel
theorem dX10_bestWithin_7 : decode cX10_bestWithin 7 = .ok (.getfield 124, 3) := by decide +kernel
theorem dX10_bestWithin_10 : decode cX10_bestWithin 10 = .ok (.if_icmp .ge 98, 3) := by decide +kernel
theorem dX10_bestWithin_13 : decode cX10_bestWithin 13 = .ok (.aload_n 0, 1) := by decide +kernel
theorem dX10_bestWithin_14 : decode cX10_bestWithin 14 = .ok (.getfield 36, 3) := by decide +kernel
theorem dX10_bestWithin_17 : decode cX10_bestWithin 17 = .ok (.iload_n 3, 1) := by decide +kernel
theorem dX10_bestWithin_18 : decode cX10_bestWithin 18 = .ok (.invokevirtual 185, 3) := by decide +kernel
theorem dX10_bestWithin_21 : decode cX10_bestWithin 21 = .ok (.astore 4, 2) := by decide +kernel
theorem dX10_bestWithin_23 : decode cX10_bestWithin 23 = .ok (.aload 4, 2) := by decide +kernel
theorem dX10_bestWithin_25 : decode cX10_bestWithin 25 = .ok (.ifnonnull 7, 3) := by decide +kernel
theorem dX10_bestWithin_28 : decode cX10_bestWithin 28 = .ok (.iconst 0, 1) := by decide +kernel
theorem dX10_bestWithin_29 : decode cX10_bestWithin 29 = .ok (.goto 16, 3) := by decide +kernel
theorem dX10_bestWithin_32 : decode cX10_bestWithin 32 = .ok (.aload_n 0, 1) := by decide +kernel
theorem dX10_bestWithin_33 : decode cX10_bestWithin 33 = .ok (.aload 4, 2) := by decide +kernel
theorem dX10_bestWithin_35 : decode cX10_bestWithin 35 = .ok (.getfield 188, 3) := by decide +kernel
theorem dX10_bestWithin_38 : decode cX10_bestWithin 38 = .ok (.getfield 202, 3) := by decide +kernel
theorem dX10_bestWithin_41 : decode cX10_bestWithin 41 = .ok (.iload_n 1, 1) := by decide +kernel
theorem dX10_bestWithin_42 : decode cX10_bestWithin 42 = .ok (.invokevirtual 287, 3) := by decide +kernel
theorem dX10_bestWithin_45 : decode cX10_bestWithin 45 = .ok (.istore 5, 2) := by decide +kernel
theorem dX10_bestWithin_47 : decode cX10_bestWithin 47 = .ok (.iload 5, 2) := by decide +kernel
theorem dX10_bestWithin_49 : decode cX10_bestWithin 49 = .ok (.ifCond .le 53, 3) := by decide +kernel
theorem dX10_bestWithin_52 : decode cX10_bestWithin 52 = .ok (.iload_n 2, 1) := by decide +kernel
theorem dX10_bestWithin_53 : decode cX10_bestWithin 53 = .ok (.lookupswitch 32 #[(0, 27), (1, 29)], 27) := by decide +kernel
theorem dX10_bestWithin_80 : decode cX10_bestWithin 80 = .ok (.iload_n 3, 1) := by decide +kernel
theorem dX10_bestWithin_81 : decode cX10_bestWithin 81 = .ok (.ireturn, 1) := by decide +kernel
theorem dX10_bestWithin_82 : decode cX10_bestWithin 82 = .ok (.iload 5, 2) := by decide +kernel
theorem dX10_bestWithin_84 : decode cX10_bestWithin 84 = .ok (.ireturn, 1) := by decide +kernel
theorem dX10_bestWithin_85 : decode cX10_bestWithin 85 = .ok (.iload_n 1, 1) := by decide +kernel
theorem dX10_bestWithin_86 : decode cX10_bestWithin 86 = .ok (.aload 4, 2) := by decide +kernel
theorem dX10_bestWithin_88 : decode cX10_bestWithin 88 = .ok (.getfield 188, 3) := by decide +kernel
theorem dX10_bestWithin_91 : decode cX10_bestWithin 91 = .ok (.getfield 202, 3) := by decide +kernel
theorem dX10_bestWithin_94 : decode cX10_bestWithin 94 = .ok (.iload 5, 2) := by decide +kernel
theorem dX10_bestWithin_96 : decode cX10_bestWithin 96 = .ok (.invokestatic 273, 3) := by decide +kernel
theorem dX10_bestWithin_99 : decode cX10_bestWithin 99 = .ok (.l2i, 1) := by decide +kernel
theorem dX10_bestWithin_100 : decode cX10_bestWithin 100 = .ok (.isub, 1) := by decide +kernel
theorem dX10_bestWithin_101 : decode cX10_bestWithin 101 = .ok (.ireturn, 1) := by decide +kernel
theorem dX10_bestWithin_102 : decode cX10_bestWithin 102 = .ok (.iinc 3 1, 3) := by decide +kernel
theorem dX10_bestWithin_105 : decode cX10_bestWithin 105 = .ok (.goto (-103), 3) := by decide +kernel
theorem dX10_bestWithin_108 : decode cX10_bestWithin 108 = .ok (.iconst (-1), 1) := by decide +kernel
theorem dX10_bestWithin_109 : decode cX10_bestWithin 109 = .ok (.ireturn, 1) := by decide +kernel
theorem dX10_lane_0 : decode cX10_lane 0 = .ok (.iload_n 1, 1) := by decide +kernel
theorem dX10_lane_1 : decode cX10_lane 1 = .ok (.invokestatic 290, 3) := by decide +kernel
theorem dX10_lane_4 : decode cX10_lane 4 = .ok (.ifCond .ne 6, 3) := by decide +kernel
theorem dX10_lane_7 : decode cX10_lane 7 = .ok (.bipush (-2), 2) := by decide +kernel
theorem dX10_lane_9 : decode cX10_lane 9 = .ok (.ireturn, 1) := by decide +kernel
theorem dX10_lane_10 : decode cX10_lane 10 = .ok (.iload_n 2, 1) := by decide +kernel
theorem dX10_lane_11 : decode cX10_lane 11 = .ok (.ifCond .lt 19, 3) := by decide +kernel
theorem dX10_lane_14 : decode cX10_lane 14 = .ok (.iload_n 2, 1) := by decide +kernel
theorem dX10_lane_15 : decode cX10_lane 15 = .ok (.bipush 30, 2) := by decide +kernel
theorem dX10_lane_17 : decode cX10_lane 17 = .ok (.if_icmp .gt 13, 3) := by decide +kernel
theorem dX10_lane_20 : decode cX10_lane 20 = .ok (.iload_n 3, 1) := by decide +kernel
theorem dX10_lane_21 : decode cX10_lane 21 = .ok (.ifCond .lt 9, 3) := by decide +kernel
theorem dX10_lane_24 : decode cX10_lane 24 = .ok (.iload_n 3, 1) := by decide +kernel
theorem dX10_lane_25 : decode cX10_lane 25 = .ok (.bipush 12, 2) := by decide +kernel
theorem dX10_lane_27 : decode cX10_lane 27 = .ok (.if_icmp .le 6, 3) := by decide +kernel
theorem dX10_lane_30 : decode cX10_lane 30 = .ok (.bipush (-3), 2) := by decide +kernel
theorem dX10_lane_32 : decode cX10_lane 32 = .ok (.ireturn, 1) := by decide +kernel
theorem dX10_lane_33 : decode cX10_lane 33 = .ok (.aload_n 0, 1) := by decide +kernel
theorem dX10_lane_34 : decode cX10_lane 34 = .ok (.getfield 64, 3) := by decide +kernel
theorem dX10_lane_37 : decode cX10_lane 37 = .ok (.getfield 293, 3) := by decide +kernel
theorem dX10_lane_40 : decode cX10_lane 40 = .ok (.iload_n 1, 1) := by decide +kernel
theorem dX10_lane_41 : decode cX10_lane 41 = .ok (.iaload, 1) := by decide +kernel
theorem dX10_lane_42 : decode cX10_lane 42 = .ok (.istore 4, 2) := by decide +kernel
theorem dX10_lane_44 : decode cX10_lane 44 = .ok (.aload_n 0, 1) := by decide +kernel
theorem dX10_lane_45 : decode cX10_lane 45 = .ok (.getfield 64, 3) := by decide +kernel
theorem dX10_lane_48 : decode cX10_lane 48 = .ok (.getfield 293, 3) := by decide +kernel
theorem dX10_lane_51 : decode cX10_lane 51 = .ok (.iload_n 1, 1) := by decide +kernel
theorem dX10_lane_52 : decode cX10_lane 52 = .ok (.iload_n 2, 1) := by decide +kernel
theorem dX10_lane_53 : decode cX10_lane 53 = .ok (.iastore, 1) := by decide +kernel
theorem dX10_lane_54 : decode cX10_lane 54 = .ok (.aload_n 0, 1) := by decide +kernel
theorem dX10_lane_55 : decode cX10_lane 55 = .ok (.getfield 64, 3) := by decide +kernel
theorem dX10_lane_58 : decode cX10_lane 58 = .ok (.getfield 296, 3) := by decide +kernel
theorem dX10_lane_61 : decode cX10_lane 61 = .ok (.iload_n 1, 1) := by decide +kernel
theorem dX10_lane_62 : decode cX10_lane 62 = .ok (.iload_n 3, 1) := by decide +kernel
theorem dX10_lane_63 : decode cX10_lane 63 = .ok (.iastore, 1) := by decide +kernel
theorem dX10_lane_64 : decode cX10_lane 64 = .ok (.aload_n 0, 1) := by decide +kernel
theorem dX10_lane_65 : decode cX10_lane 65 = .ok (.invokevirtual 299, 3) := by decide +kernel
theorem dX10_lane_68 : decode cX10_lane 68 = .ok (.iload 4, 2) := by decide +kernel
theorem dX10_lane_70 : decode cX10_lane 70 = .ok (.ireturn, 1) := by decide +kernel
theorem dX10_wire_0 : decode cX10_wire 0 = .ok (.iload_n 1, 1) := by decide +kernel
theorem dX10_wire_1 : decode cX10_wire 1 = .ok (.iload_n 2, 1) := by decide +kernel
theorem dX10_wire_2 : decode cX10_wire 2 = .ok (.invokestatic 263, 3) := by decide +kernel
theorem dX10_wire_5 : decode cX10_wire 5 = .ok (.ifCond .ne 6, 3) := by decide +kernel
theorem dX10_wire_8 : decode cX10_wire 8 = .ok (.bipush (-3), 2) := by decide +kernel
theorem dX10_wire_10 : decode cX10_wire 10 = .ok (.ireturn, 1) := by decide +kernel
theorem dX10_wire_11 : decode cX10_wire 11 = .ok (.aload_n 0, 1) := by decide +kernel
theorem dX10_wire_12 : decode cX10_wire 12 = .ok (.getfield 64, 3) := by decide +kernel
theorem dX10_wire_15 : decode cX10_wire 15 = .ok (.iload_n 1, 1) := by decide +kernel
theorem dX10_wire_16 : decode cX10_wire 16 = .ok (.putfield 302, 3) := by decide +kernel
theorem dX10_wire_19 : decode cX10_wire 19 = .ok (.aload_n 0, 1) := by decide +kernel
theorem dX10_wire_20 : decode cX10_wire 20 = .ok (.getfield 64, 3) := by decide +kernel
theorem dX10_wire_23 : decode cX10_wire 23 = .ok (.iload_n 2, 1) := by decide +kernel
theorem dX10_wire_24 : decode cX10_wire 24 = .ok (.putfield 305, 3) := by decide +kernel
theorem dX10_wire_27 : decode cX10_wire 27 = .ok (.aload_n 0, 1) := by decide +kernel
theorem dX10_wire_28 : decode cX10_wire 28 = .ok (.invokevirtual 299, 3) := by decide +kernel
theorem dX10_wire_31 : decode cX10_wire 31 = .ok (.iload_n 1, 1) := by decide +kernel
theorem dX10_wire_32 : decode cX10_wire 32 = .ok (.iload_n 2, 1) := by decide +kernel
theorem dX10_wire_33 : decode cX10_wire 33 = .ok (.invokestatic 269, 3) := by decide +kernel
theorem dX10_wire_36 : decode cX10_wire 36 = .ok (.ireturn, 1) := by decide +kernel
theorem dX10_begin_0 : decode cX10_begin 0 = .ok (.aload_n 0, 1) := by decide +kernel
theorem dX10_begin_1 : decode cX10_begin 1 = .ok (.getfield 71, 3) := by decide +kernel
theorem dX10_begin_4 : decode cX10_begin 4 = .ok (.aload_n 0, 1) := by decide +kernel
theorem dX10_begin_5 : decode cX10_begin 5 = .ok (.getfield 64, 3) := by decide +kernel
theorem dX10_begin_8 : decode cX10_begin 8 = .ok (.invokevirtual 308, 3) := by decide +kernel
theorem dX10_begin_11 : decode cX10_begin 11 = .ok (.aload_n 0, 1) := by decide +kernel
theorem dX10_begin_12 : decode cX10_begin 12 = .ok (.getfield 78, 3) := by decide +kernel
theorem dX10_begin_15 : decode cX10_begin 15 = .ok (.invokevirtual 312, 3) := by decide +kernel
theorem dX10_begin_18 : decode cX10_begin 18 = .ok (.aload_n 0, 1) := by decide +kernel
theorem dX10_begin_19 : decode cX10_begin 19 = .ok (.getfield 64, 3) := by decide +kernel
theorem dX10_begin_22 : decode cX10_begin 22 = .ok (.getfield 302, 3) := by decide +kernel
theorem dX10_begin_25 : decode cX10_begin 25 = .ok (.aload_n 0, 1) := by decide +kernel
theorem dX10_begin_26 : decode cX10_begin 26 = .ok (.getfield 64, 3) := by decide +kernel
theorem dX10_begin_29 : decode cX10_begin 29 = .ok (.getfield 305, 3) := by decide +kernel
theorem dX10_begin_32 : decode cX10_begin 32 = .ok (.invokestatic 269, 3) := by decide +kernel
theorem dX10_begin_35 : decode cX10_begin 35 = .ok (.ireturn, 1) := by decide +kernel
theorem dX10_tries_0 : decode cX10_tries 0 = .ok (.iload_n 1, 1) := by decide +kernel
theorem dX10_tries_1 : decode cX10_tries 1 = .ok (.iconst 1, 1) := by decide +kernel
theorem dX10_tries_2 : decode cX10_tries 2 = .ok (.if_icmp .lt 9, 3) := by decide +kernel
theorem dX10_tries_5 : decode cX10_tries 5 = .ok (.iload_n 1, 1) := by decide +kernel
theorem dX10_tries_6 : decode cX10_tries 6 = .ok (.bipush 100, 2) := by decide +kernel
theorem dX10_tries_8 : decode cX10_tries 8 = .ok (.if_icmp .le 6, 3) := by decide +kernel
theorem dX10_tries_11 : decode cX10_tries 11 = .ok (.bipush (-3), 2) := by decide +kernel
theorem dX10_tries_13 : decode cX10_tries 13 = .ok (.ireturn, 1) := by decide +kernel
theorem dX10_tries_14 : decode cX10_tries 14 = .ok (.aload_n 0, 1) := by decide +kernel
theorem dX10_tries_15 : decode cX10_tries 15 = .ok (.getfield 71, 3) := by decide +kernel
theorem dX10_tries_18 : decode cX10_tries 18 = .ok (.invokevirtual 313, 3) := by decide +kernel
theorem dX10_tries_21 : decode cX10_tries 21 = .ok (.ifCond .ne 6, 3) := by decide +kernel
theorem dX10_tries_24 : decode cX10_tries 24 = .ok (.bipush (-5), 2) := by decide +kernel
theorem dX10_tries_26 : decode cX10_tries 26 = .ok (.ireturn, 1) := by decide +kernel
theorem dX10_tries_27 : decode cX10_tries 27 = .ok (.iconst 0, 1) := by decide +kernel
theorem dX10_tries_28 : decode cX10_tries 28 = .ok (.istore_n 2, 1) := by decide +kernel
theorem dX10_tries_29 : decode cX10_tries 29 = .ok (.iload_n 2, 1) := by decide +kernel
theorem dX10_tries_30 : decode cX10_tries 30 = .ok (.iload_n 1, 1) := by decide +kernel
theorem dX10_tries_31 : decode cX10_tries 31 = .ok (.if_icmp .ge 57, 3) := by decide +kernel
theorem dX10_tries_34 : decode cX10_tries 34 = .ok (.aload_n 0, 1) := by decide +kernel
theorem dX10_tries_35 : decode cX10_tries 35 = .ok (.getfield 71, 3) := by decide +kernel
theorem dX10_tries_38 : decode cX10_tries 38 = .ok (.invokevirtual 313, 3) := by decide +kernel
theorem dX10_tries_41 : decode cX10_tries 41 = .ok (.ifCond .eq 47, 3) := by decide +kernel
theorem dX10_tries_44 : decode cX10_tries 44 = .ok (.aload_n 0, 1) := by decide +kernel
theorem dX10_tries_45 : decode cX10_tries 45 = .ok (.getfield 78, 3) := by decide +kernel
theorem dX10_tries_48 : decode cX10_tries 48 = .ok (.aload_n 0, 1) := by decide +kernel
theorem dX10_tries_49 : decode cX10_tries 49 = .ok (.getfield 71, 3) := by decide +kernel
theorem dX10_tries_52 : decode cX10_tries 52 = .ok (.invokevirtual 316, 3) := by decide +kernel
theorem dX10_tries_55 : decode cX10_tries 55 = .ok (.aload_n 0, 1) := by decide +kernel
theorem dX10_tries_56 : decode cX10_tries 56 = .ok (.getfield 71, 3) := by decide +kernel
theorem dX10_tries_59 : decode cX10_tries 59 = .ok (.aload_n 0, 1) := by decide +kernel
theorem dX10_tries_60 : decode cX10_tries 60 = .ok (.getfield 64, 3) := by decide +kernel
theorem dX10_tries_63 : decode cX10_tries 63 = .ok (.invokevirtual 320, 3) := by decide +kernel
theorem dX10_tries_66 : decode cX10_tries 66 = .ok (.istore_n 3, 1) := by decide +kernel
theorem dX10_tries_67 : decode cX10_tries 67 = .ok (.aload_n 0, 1) := by decide +kernel
theorem dX10_tries_68 : decode cX10_tries 68 = .ok (.getfield 78, 3) := by decide +kernel
theorem dX10_tries_71 : decode cX10_tries 71 = .ok (.aload_n 0, 1) := by decide +kernel
theorem dX10_tries_72 : decode cX10_tries 72 = .ok (.getfield 71, 3) := by decide +kernel
theorem dX10_tries_75 : decode cX10_tries 75 = .ok (.getfield 324, 3) := by decide +kernel
theorem dX10_tries_78 : decode cX10_tries 78 = .ok (.iload_n 3, 1) := by decide +kernel
theorem dX10_tries_79 : decode cX10_tries 79 = .ok (.invokevirtual 327, 3) := by decide +kernel
theorem dX10_tries_82 : decode cX10_tries 82 = .ok (.iinc 2 1, 3) := by decide +kernel
theorem dX10_tries_85 : decode cX10_tries 85 = .ok (.goto (-56), 3) := by decide +kernel
theorem dX10_tries_88 : decode cX10_tries 88 = .ok (.iload_n 2, 1) := by decide +kernel
theorem dX10_tries_89 : decode cX10_tries 89 = .ok (.ireturn, 1) := by decide +kernel
theorem dX10_state_0 : decode cX10_state 0 = .ok (.iload_n 1, 1) := by decide +kernel
theorem dX10_state_1 : decode cX10_state 1 = .ok (.tableswitch 117 0 7 #[47, 55, 63, 71, 79, 87, 95, 106], 47) := by decide +kernel
theorem dX10_state_48 : decode cX10_state 48 = .ok (.aload_n 0, 1) := by decide +kernel
theorem dX10_state_49 : decode cX10_state 49 = .ok (.getfield 71, 3) := by decide +kernel
theorem dX10_state_52 : decode cX10_state 52 = .ok (.getfield 331, 3) := by decide +kernel
theorem dX10_state_55 : decode cX10_state 55 = .ok (.ireturn, 1) := by decide +kernel
theorem dX10_state_56 : decode cX10_state 56 = .ok (.aload_n 0, 1) := by decide +kernel
theorem dX10_state_57 : decode cX10_state 57 = .ok (.getfield 71, 3) := by decide +kernel
theorem dX10_state_60 : decode cX10_state 60 = .ok (.getfield 334, 3) := by decide +kernel
theorem dX10_state_63 : decode cX10_state 63 = .ok (.ireturn, 1) := by decide +kernel
theorem dX10_state_64 : decode cX10_state 64 = .ok (.aload_n 0, 1) := by decide +kernel
theorem dX10_state_65 : decode cX10_state 65 = .ok (.getfield 71, 3) := by decide +kernel
theorem dX10_state_68 : decode cX10_state 68 = .ok (.getfield 335, 3) := by decide +kernel
theorem dX10_state_71 : decode cX10_state 71 = .ok (.ireturn, 1) := by decide +kernel
theorem dX10_state_72 : decode cX10_state 72 = .ok (.aload_n 0, 1) := by decide +kernel
theorem dX10_state_73 : decode cX10_state 73 = .ok (.getfield 71, 3) := by decide +kernel
theorem dX10_state_76 : decode cX10_state 76 = .ok (.invokevirtual 336, 3) := by decide +kernel
theorem dX10_state_79 : decode cX10_state 79 = .ok (.ireturn, 1) := by decide +kernel
theorem dX10_state_80 : decode cX10_state 80 = .ok (.aload_n 0, 1) := by decide +kernel
theorem dX10_state_81 : decode cX10_state 81 = .ok (.getfield 71, 3) := by decide +kernel
theorem dX10_state_84 : decode cX10_state 84 = .ok (.getfield 339, 3) := by decide +kernel
theorem dX10_state_87 : decode cX10_state 87 = .ok (.ireturn, 1) := by decide +kernel
theorem dX10_state_88 : decode cX10_state 88 = .ok (.aload_n 0, 1) := by decide +kernel
theorem dX10_state_89 : decode cX10_state 89 = .ok (.getfield 71, 3) := by decide +kernel
theorem dX10_state_92 : decode cX10_state 92 = .ok (.getfield 342, 3) := by decide +kernel
theorem dX10_state_95 : decode cX10_state 95 = .ok (.ireturn, 1) := by decide +kernel
theorem dX10_state_96 : decode cX10_state 96 = .ok (.aload_n 0, 1) := by decide +kernel
theorem dX10_state_97 : decode cX10_state 97 = .ok (.getfield 71, 3) := by decide +kernel
theorem dX10_state_100 : decode cX10_state 100 = .ok (.getfield 345, 3) := by decide +kernel
theorem dX10_state_103 : decode cX10_state 103 = .ok (.invokestatic 348, 3) := by decide +kernel
theorem dX10_state_106 : decode cX10_state 106 = .ok (.ireturn, 1) := by decide +kernel
theorem dX10_state_107 : decode cX10_state 107 = .ok (.aload_n 0, 1) := by decide +kernel
theorem dX10_state_108 : decode cX10_state 108 = .ok (.getfield 71, 3) := by decide +kernel
theorem dX10_state_111 : decode cX10_state 111 = .ok (.getfield 352, 3) := by decide +kernel
theorem dX10_state_114 : decode cX10_state 114 = .ok (.invokestatic 348, 3) := by decide +kernel
theorem dX10_state_117 : decode cX10_state 117 = .ok (.ireturn, 1) := by decide +kernel
theorem dX10_state_118 : decode cX10_state 118 = .ok (.bipush (-2), 2) := by decide +kernel
theorem dX10_state_120 : decode cX10_state 120 = .ok (.ireturn, 1) := by decide +kernel
theorem dX10_level_0 : decode cX10_level 0 = .ok (.iload_n 1, 1) := by decide +kernel
theorem dX10_level_1 : decode cX10_level 1 = .ok (.invokestatic 290, 3) := by decide +kernel
theorem dX10_level_4 : decode cX10_level 4 = .ok (.ifCond .ne 6, 3) := by decide +kernel
theorem dX10_level_7 : decode cX10_level 7 = .ok (.bipush (-2), 2) := by decide +kernel
theorem dX10_level_9 : decode cX10_level 9 = .ok (.ireturn, 1) := by decide +kernel
theorem dX10_level_10 : decode cX10_level 10 = .ok (.iload_n 2, 1) := by decide +kernel
theorem dX10_level_11 : decode cX10_level 11 = .ok (.tableswitch 101 0 5 #[37, 47, 57, 67, 77, 89], 37) := by decide +kernel
theorem dX10_level_48 : decode cX10_level 48 = .ok (.aload_n 0, 1) := by decide +kernel
theorem dX10_level_49 : decode cX10_level 49 = .ok (.getfield 64, 3) := by decide +kernel
theorem dX10_level_52 : decode cX10_level 52 = .ok (.getfield 293, 3) := by decide +kernel
theorem dX10_level_55 : decode cX10_level 55 = .ok (.iload_n 1, 1) := by decide +kernel
theorem dX10_level_56 : decode cX10_level 56 = .ok (.iaload, 1) := by decide +kernel
theorem dX10_level_57 : decode cX10_level 57 = .ok (.ireturn, 1) := by decide +kernel
theorem dX10_level_58 : decode cX10_level 58 = .ok (.aload_n 0, 1) := by decide +kernel
theorem dX10_level_59 : decode cX10_level 59 = .ok (.getfield 64, 3) := by decide +kernel
theorem dX10_level_62 : decode cX10_level 62 = .ok (.getfield 296, 3) := by decide +kernel
theorem dX10_level_65 : decode cX10_level 65 = .ok (.iload_n 1, 1) := by decide +kernel
theorem dX10_level_66 : decode cX10_level 66 = .ok (.iaload, 1) := by decide +kernel
theorem dX10_level_67 : decode cX10_level 67 = .ok (.ireturn, 1) := by decide +kernel
theorem dX10_level_68 : decode cX10_level 68 = .ok (.aload_n 0, 1) := by decide +kernel
theorem dX10_level_69 : decode cX10_level 69 = .ok (.getfield 71, 3) := by decide +kernel
theorem dX10_level_72 : decode cX10_level 72 = .ok (.getfield 345, 3) := by decide +kernel
theorem dX10_level_75 : decode cX10_level 75 = .ok (.iload_n 1, 1) := by decide +kernel
theorem dX10_level_76 : decode cX10_level 76 = .ok (.iaload, 1) := by decide +kernel
theorem dX10_level_77 : decode cX10_level 77 = .ok (.ireturn, 1) := by decide +kernel
theorem dX10_level_78 : decode cX10_level 78 = .ok (.aload_n 0, 1) := by decide +kernel
theorem dX10_level_79 : decode cX10_level 79 = .ok (.getfield 71, 3) := by decide +kernel
theorem dX10_level_82 : decode cX10_level 82 = .ok (.getfield 352, 3) := by decide +kernel
theorem dX10_level_85 : decode cX10_level 85 = .ok (.iload_n 1, 1) := by decide +kernel
theorem dX10_level_86 : decode cX10_level 86 = .ok (.iaload, 1) := by decide +kernel
theorem dX10_level_87 : decode cX10_level 87 = .ok (.ireturn, 1) := by decide +kernel
theorem dX10_level_88 : decode cX10_level 88 = .ok (.aload_n 0, 1) := by decide +kernel
theorem dX10_level_89 : decode cX10_level 89 = .ok (.getfield 71, 3) := by decide +kernel
theorem dX10_level_92 : decode cX10_level 92 = .ok (.getfield 355, 3) := by decide +kernel
theorem dX10_level_95 : decode cX10_level 95 = .ok (.iload_n 1, 1) := by decide +kernel
theorem dX10_level_96 : decode cX10_level 96 = .ok (.ishr, 1) := by decide +kernel
theorem dX10_level_97 : decode cX10_level 97 = .ok (.iconst 1, 1) := by decide +kernel
theorem dX10_level_98 : decode cX10_level 98 = .ok (.iand, 1) := by decide +kernel
theorem dX10_level_99 : decode cX10_level 99 = .ok (.ireturn, 1) := by decide +kernel
theorem dX10_level_100 : decode cX10_level 100 = .ok (.aload_n 0, 1) := by decide +kernel
theorem dX10_level_101 : decode cX10_level 101 = .ok (.getfield 71, 3) := by decide +kernel
theorem dX10_level_104 : decode cX10_level 104 = .ok (.getfield 358, 3) := by decide +kernel
theorem dX10_level_107 : decode cX10_level 107 = .ok (.iload_n 1, 1) := by decide +kernel
theorem dX10_level_108 : decode cX10_level 108 = .ok (.ishr, 1) := by decide +kernel
theorem dX10_level_109 : decode cX10_level 109 = .ok (.iconst 1, 1) := by decide +kernel
theorem dX10_level_110 : decode cX10_level 110 = .ok (.iand, 1) := by decide +kernel
theorem dX10_level_111 : decode cX10_level 111 = .ok (.ireturn, 1) := by decide +kernel
theorem dX10_level_112 : decode cX10_level 112 = .ok (.bipush (-2), 2) := by decide +kernel
theorem dX10_level_114 : decode cX10_level 114 = .ok (.ireturn, 1) := by decide +kernel
theorem dX10_fall_0 : decode cX10_fall 0 = .ok (.iload_n 1, 1) := by decide +kernel
theorem dX10_fall_1 : decode cX10_fall 1 = .ok (.ifCond .lt 23, 3) := by decide +kernel
theorem dX10_fall_4 : decode cX10_fall 4 = .ok (.iload_n 1, 1) := by decide +kernel
theorem dX10_fall_5 : decode cX10_fall 5 = .ok (.aload_n 0, 1) := by decide +kernel
theorem dX10_fall_6 : decode cX10_fall 6 = .ok (.getfield 78, 3) := by decide +kernel
theorem dX10_fall_9 : decode cX10_fall 9 = .ok (.getfield 361, 3) := by decide +kernel
theorem dX10_fall_12 : decode cX10_fall 12 = .ok (.if_icmp .ge 12, 3) := by decide +kernel
theorem dX10_fall_15 : decode cX10_fall 15 = .ok (.iload_n 2, 1) := by decide +kernel
theorem dX10_fall_16 : decode cX10_fall 16 = .ok (.ifCond .lt 8, 3) := by decide +kernel
theorem dX10_fall_19 : decode cX10_fall 19 = .ok (.iload_n 2, 1) := by decide +kernel
theorem dX10_fall_20 : decode cX10_fall 20 = .ok (.iconst 3, 1) := by decide +kernel
theorem dX10_fall_21 : decode cX10_fall 21 = .ok (.if_icmp .le 8, 3) := by decide +kernel
theorem dX10_fall_24 : decode cX10_fall 24 = .ok (.bipush (-2), 2) := by decide +kernel
theorem dX10_fall_26 : decode cX10_fall 26 = .ok (.goto 12, 3) := by decide +kernel
theorem dX10_fall_29 : decode cX10_fall 29 = .ok (.aload_n 0, 1) := by decide +kernel
theorem dX10_fall_30 : decode cX10_fall 30 = .ok (.getfield 78, 3) := by decide +kernel
theorem dX10_fall_33 : decode cX10_fall 33 = .ok (.iload_n 1, 1) := by decide +kernel
theorem dX10_fall_34 : decode cX10_fall 34 = .ok (.iload_n 2, 1) := by decide +kernel
theorem dX10_fall_35 : decode cX10_fall 35 = .ok (.invokevirtual 362, 3) := by decide +kernel
theorem dX10_fall_38 : decode cX10_fall 38 = .ok (.ireturn, 1) := by decide +kernel
theorem dX10_step_0 : decode cX10_step 0 = .ok (.iload_n 1, 1) := by decide +kernel
theorem dX10_step_1 : decode cX10_step 1 = .ok (.ifCond .lt 24, 3) := by decide +kernel
theorem dX10_step_4 : decode cX10_step 4 = .ok (.iload_n 1, 1) := by decide +kernel
theorem dX10_step_5 : decode cX10_step 5 = .ok (.aload_n 0, 1) := by decide +kernel
theorem dX10_step_6 : decode cX10_step 6 = .ok (.getfield 78, 3) := by decide +kernel
theorem dX10_step_9 : decode cX10_step 9 = .ok (.getfield 365, 3) := by decide +kernel
theorem dX10_step_12 : decode cX10_step 12 = .ok (.if_icmp .ge 13, 3) := by decide +kernel
theorem dX10_step_15 : decode cX10_step 15 = .ok (.iload_n 2, 1) := by decide +kernel
theorem dX10_step_16 : decode cX10_step 16 = .ok (.ifCond .lt 9, 3) := by decide +kernel
theorem dX10_step_19 : decode cX10_step 19 = .ok (.iload_n 2, 1) := by decide +kernel
theorem dX10_step_20 : decode cX10_step 20 = .ok (.bipush 6, 2) := by decide +kernel
theorem dX10_step_22 : decode cX10_step 22 = .ok (.if_icmp .le 8, 3) := by decide +kernel
theorem dX10_step_25 : decode cX10_step 25 = .ok (.bipush (-2), 2) := by decide +kernel
theorem dX10_step_27 : decode cX10_step 27 = .ok (.goto 12, 3) := by decide +kernel
theorem dX10_step_30 : decode cX10_step 30 = .ok (.aload_n 0, 1) := by decide +kernel
theorem dX10_step_31 : decode cX10_step 31 = .ok (.getfield 78, 3) := by decide +kernel
theorem dX10_step_34 : decode cX10_step 34 = .ok (.iload_n 1, 1) := by decide +kernel
theorem dX10_step_35 : decode cX10_step 35 = .ok (.iload_n 2, 1) := by decide +kernel
theorem dX10_step_36 : decode cX10_step 36 = .ok (.invokevirtual 368, 3) := by decide +kernel
theorem dX10_step_39 : decode cX10_step 39 = .ok (.ireturn, 1) := by decide +kernel
theorem dX10_shown_0 : decode cX10_shown 0 = .ok (.iload_n 1, 1) := by decide +kernel
theorem dX10_shown_1 : decode cX10_shown 1 = .ok (.ifCond .lt 8, 3) := by decide +kernel
theorem dX10_shown_4 : decode cX10_shown 4 = .ok (.iload_n 1, 1) := by decide +kernel
theorem dX10_shown_5 : decode cX10_shown 5 = .ok (.iconst 2, 1) := by decide +kernel
theorem dX10_shown_6 : decode cX10_shown 6 = .ok (.if_icmp .le 6, 3) := by decide +kernel
theorem dX10_shown_9 : decode cX10_shown 9 = .ok (.bipush (-2), 2) := by decide +kernel
theorem dX10_shown_11 : decode cX10_shown 11 = .ok (.ireturn, 1) := by decide +kernel
theorem dX10_shown_12 : decode cX10_shown 12 = .ok (.aload_n 0, 1) := by decide +kernel
theorem dX10_shown_13 : decode cX10_shown 13 = .ok (.getfield 71, 3) := by decide +kernel
theorem dX10_shown_16 : decode cX10_shown 16 = .ok (.getfield 331, 3) := by decide +kernel
theorem dX10_shown_19 : decode cX10_shown 19 = .ok (.iconst 3, 1) := by decide +kernel
theorem dX10_shown_20 : decode cX10_shown 20 = .ok (.if_icmp .eq 6, 3) := by decide +kernel
theorem dX10_shown_23 : decode cX10_shown 23 = .ok (.bipush (-5), 2) := by decide +kernel
theorem dX10_shown_25 : decode cX10_shown 25 = .ok (.ireturn, 1) := by decide +kernel
theorem dX10_shown_26 : decode cX10_shown 26 = .ok (.aload_n 0, 1) := by decide +kernel
theorem dX10_shown_27 : decode cX10_shown 27 = .ok (.aload_n 0, 1) := by decide +kernel
theorem dX10_shown_28 : decode cX10_shown 28 = .ok (.getfield 71, 3) := by decide +kernel
theorem dX10_shown_31 : decode cX10_shown 31 = .ok (.getfield 334, 3) := by decide +kernel
theorem dX10_shown_34 : decode cX10_shown 34 = .ok (.aload_n 0, 1) := by decide +kernel
theorem dX10_shown_35 : decode cX10_shown 35 = .ok (.getfield 71, 3) := by decide +kernel
theorem dX10_shown_38 : decode cX10_shown 38 = .ok (.getfield 335, 3) := by decide +kernel
theorem dX10_shown_41 : decode cX10_shown 41 = .ok (.invokestatic 269, 3) := by decide +kernel
theorem dX10_shown_44 : decode cX10_shown 44 = .ok (.iload_n 1, 1) := by decide +kernel
theorem dX10_shown_45 : decode cX10_shown 45 = .ok (.invokevirtual 277, 3) := by decide +kernel
theorem dX10_shown_48 : decode cX10_shown 48 = .ok (.ireturn, 1) := by decide +kernel
theorem dX10_isLane_0 : decode cX10_isLane 0 = .ok (.iload_n 0, 1) := by decide +kernel
theorem dX10_isLane_1 : decode cX10_isLane 1 = .ok (.ifCond .lt 12, 3) := by decide +kernel
theorem dX10_isLane_4 : decode cX10_isLane 4 = .ok (.iload_n 0, 1) := by decide +kernel
theorem dX10_isLane_5 : decode cX10_isLane 5 = .ok (.iconst 4, 1) := by decide +kernel
theorem dX10_isLane_6 : decode cX10_isLane 6 = .ok (.if_icmp .ge 7, 3) := by decide +kernel
theorem dX10_isLane_9 : decode cX10_isLane 9 = .ok (.iconst 1, 1) := by decide +kernel
theorem dX10_isLane_10 : decode cX10_isLane 10 = .ok (.goto 4, 3) := by decide +kernel
theorem dX10_isLane_13 : decode cX10_isLane 13 = .ok (.iconst 0, 1) := by decide +kernel
theorem dX10_isLane_14 : decode cX10_isLane 14 = .ok (.ireturn, 1) := by decide +kernel
theorem dX10_greatest_0 : decode cX10_greatest 0 = .ok (.iconst 0, 1) := by decide +kernel
theorem dX10_greatest_1 : decode cX10_greatest 1 = .ok (.istore_n 1, 1) := by decide +kernel
theorem dX10_greatest_2 : decode cX10_greatest 2 = .ok (.aload_n 0, 1) := by decide +kernel
theorem dX10_greatest_3 : decode cX10_greatest 3 = .ok (.astore_n 2, 1) := by decide +kernel
theorem dX10_greatest_4 : decode cX10_greatest 4 = .ok (.aload_n 2, 1) := by decide +kernel
theorem dX10_greatest_5 : decode cX10_greatest 5 = .ok (.arraylength, 1) := by decide +kernel
theorem dX10_greatest_6 : decode cX10_greatest 6 = .ok (.istore_n 3, 1) := by decide +kernel
theorem dX10_greatest_7 : decode cX10_greatest 7 = .ok (.iconst 0, 1) := by decide +kernel
theorem dX10_greatest_8 : decode cX10_greatest 8 = .ok (.istore 4, 2) := by decide +kernel
theorem dX10_greatest_10 : decode cX10_greatest 10 = .ok (.iload 4, 2) := by decide +kernel
theorem dX10_greatest_12 : decode cX10_greatest 12 = .ok (.iload_n 3, 1) := by decide +kernel
theorem dX10_greatest_13 : decode cX10_greatest 13 = .ok (.if_icmp .ge 22, 3) := by decide +kernel
theorem dX10_greatest_16 : decode cX10_greatest 16 = .ok (.aload_n 2, 1) := by decide +kernel
theorem dX10_greatest_17 : decode cX10_greatest 17 = .ok (.iload 4, 2) := by decide +kernel
theorem dX10_greatest_19 : decode cX10_greatest 19 = .ok (.iaload, 1) := by decide +kernel
theorem dX10_greatest_20 : decode cX10_greatest 20 = .ok (.istore 5, 2) := by decide +kernel
theorem dX10_greatest_22 : decode cX10_greatest 22 = .ok (.iload_n 1, 1) := by decide +kernel
theorem dX10_greatest_23 : decode cX10_greatest 23 = .ok (.iload 5, 2) := by decide +kernel
theorem dX10_greatest_25 : decode cX10_greatest 25 = .ok (.invokestatic 371, 3) := by decide +kernel
theorem dX10_greatest_28 : decode cX10_greatest 28 = .ok (.istore_n 1, 1) := by decide +kernel
theorem dX10_greatest_29 : decode cX10_greatest 29 = .ok (.iinc 4 1, 3) := by decide +kernel
theorem dX10_greatest_32 : decode cX10_greatest 32 = .ok (.goto (-22), 3) := by decide +kernel
theorem dX10_greatest_35 : decode cX10_greatest 35 = .ok (.iload_n 1, 1) := by decide +kernel
theorem dX10_greatest_36 : decode cX10_greatest 36 = .ok (.ireturn, 1) := by decide +kernel
theorem dX10_endTraining_0 : decode cX10_endTraining 0 = .ok (.aload_n 0, 1) := by decide +kernel
theorem dX10_endTraining_1 : decode cX10_endTraining 1 = .ok (.getfield 71, 3) := by decide +kernel
theorem dX10_endTraining_4 : decode cX10_endTraining 4 = .ok (.invokevirtual 376, 3) := by decide +kernel
theorem dX10_endTraining_7 : decode cX10_endTraining 7 = .ok (.aload_n 0, 1) := by decide +kernel
theorem dX10_endTraining_8 : decode cX10_endTraining 8 = .ok (.getfield 78, 3) := by decide +kernel
theorem dX10_endTraining_11 : decode cX10_endTraining 11 = .ok (.invokevirtual 312, 3) := by decide +kernel
theorem dX10_endTraining_14 : decode cX10_endTraining 14 = .ok (.return_, 1) := by decide +kernel
theorem dX10_trained_0 : decode cX10_trained 0 = .ok (.iload_n 1, 1) := by decide +kernel
theorem dX10_trained_1 : decode cX10_trained 1 = .ok (.ifCond .lt 8, 3) := by decide +kernel
theorem dX10_trained_4 : decode cX10_trained 4 = .ok (.iload_n 1, 1) := by decide +kernel
theorem dX10_trained_5 : decode cX10_trained 5 = .ok (.iconst 5, 1) := by decide +kernel
theorem dX10_trained_6 : decode cX10_trained 6 = .ok (.if_icmp .le 6, 3) := by decide +kernel
theorem dX10_trained_9 : decode cX10_trained 9 = .ok (.bipush (-2), 2) := by decide +kernel
theorem dX10_trained_11 : decode cX10_trained 11 = .ok (.ireturn, 1) := by decide +kernel
theorem dX10_trained_12 : decode cX10_trained 12 = .ok (.aload_n 0, 1) := by decide +kernel
theorem dX10_trained_13 : decode cX10_trained 13 = .ok (.getfield 85, 3) := by decide +kernel
theorem dX10_trained_16 : decode cX10_trained 16 = .ok (.aload_n 0, 1) := by decide +kernel
theorem dX10_trained_17 : decode cX10_trained 17 = .ok (.getfield 64, 3) := by decide +kernel
theorem dX10_trained_20 : decode cX10_trained 20 = .ok (.invokevirtual 379, 3) := by decide +kernel
theorem dX10_trained_23 : decode cX10_trained 23 = .ok (.istore_n 2, 1) := by decide +kernel
theorem dX10_trained_24 : decode cX10_trained 24 = .ok (.iload_n 1, 1) := by decide +kernel
theorem dX10_trained_25 : decode cX10_trained 25 = .ok (.tableswitch 75 0 4 #[35, 43, 51, 59, 67], 35) := by decide +kernel
theorem dX10_trained_60 : decode cX10_trained 60 = .ok (.aload_n 0, 1) := by decide +kernel
theorem dX10_trained_61 : decode cX10_trained 61 = .ok (.getfield 85, 3) := by decide +kernel
theorem dX10_trained_64 : decode cX10_trained 64 = .ok (.getfield 331, 3) := by decide +kernel
theorem dX10_trained_67 : decode cX10_trained 67 = .ok (.ireturn, 1) := by decide +kernel
theorem dX10_trained_68 : decode cX10_trained 68 = .ok (.aload_n 0, 1) := by decide +kernel
theorem dX10_trained_69 : decode cX10_trained 69 = .ok (.getfield 85, 3) := by decide +kernel
theorem dX10_trained_72 : decode cX10_trained 72 = .ok (.getfield 334, 3) := by decide +kernel
theorem dX10_trained_75 : decode cX10_trained 75 = .ok (.ireturn, 1) := by decide +kernel
theorem dX10_trained_76 : decode cX10_trained 76 = .ok (.aload_n 0, 1) := by decide +kernel
theorem dX10_trained_77 : decode cX10_trained 77 = .ok (.getfield 85, 3) := by decide +kernel
theorem dX10_trained_80 : decode cX10_trained 80 = .ok (.getfield 335, 3) := by decide +kernel
theorem dX10_trained_83 : decode cX10_trained 83 = .ok (.ireturn, 1) := by decide +kernel
theorem dX10_trained_84 : decode cX10_trained 84 = .ok (.aload_n 0, 1) := by decide +kernel
theorem dX10_trained_85 : decode cX10_trained 85 = .ok (.getfield 85, 3) := by decide +kernel
theorem dX10_trained_88 : decode cX10_trained 88 = .ok (.getfield 339, 3) := by decide +kernel
theorem dX10_trained_91 : decode cX10_trained 91 = .ok (.ireturn, 1) := by decide +kernel
theorem dX10_trained_92 : decode cX10_trained 92 = .ok (.aload_n 0, 1) := by decide +kernel
theorem dX10_trained_93 : decode cX10_trained 93 = .ok (.getfield 85, 3) := by decide +kernel
theorem dX10_trained_96 : decode cX10_trained 96 = .ok (.getfield 342, 3) := by decide +kernel
theorem dX10_trained_99 : decode cX10_trained 99 = .ok (.ireturn, 1) := by decide +kernel
theorem dX10_trained_100 : decode cX10_trained 100 = .ok (.iload_n 2, 1) := by decide +kernel
theorem dX10_trained_101 : decode cX10_trained 101 = .ok (.ireturn, 1) := by decide +kernel
theorem dX10_margin_0 : decode cX10_margin 0 = .ok (.iload_n 1, 1) := by decide +kernel
theorem dX10_margin_1 : decode cX10_margin 1 = .ok (.invokestatic 290, 3) := by decide +kernel
theorem dX10_margin_4 : decode cX10_margin 4 = .ok (.ifCond .ne 6, 3) := by decide +kernel
theorem dX10_margin_7 : decode cX10_margin 7 = .ok (.bipush (-2), 2) := by decide +kernel
theorem dX10_margin_9 : decode cX10_margin 9 = .ok (.ireturn, 1) := by decide +kernel
theorem dX10_margin_10 : decode cX10_margin 10 = .ok (.aload_n 0, 1) := by decide +kernel
theorem dX10_margin_11 : decode cX10_margin 11 = .ok (.getfield 85, 3) := by decide +kernel
theorem dX10_margin_14 : decode cX10_margin 14 = .ok (.aload_n 0, 1) := by decide +kernel
theorem dX10_margin_15 : decode cX10_margin 15 = .ok (.getfield 64, 3) := by decide +kernel
theorem dX10_margin_18 : decode cX10_margin 18 = .ok (.invokevirtual 379, 3) := by decide +kernel
theorem dX10_margin_21 : decode cX10_margin 21 = .ok (.istore_n 2, 1) := by decide +kernel
theorem dX10_margin_22 : decode cX10_margin 22 = .ok (.aload_n 0, 1) := by decide +kernel
theorem dX10_margin_23 : decode cX10_margin 23 = .ok (.getfield 82, 3) := by decide +kernel
theorem dX10_margin_26 : decode cX10_margin 26 = .ok (.aload_n 0, 1) := by decide +kernel
theorem dX10_margin_27 : decode cX10_margin 27 = .ok (.getfield 64, 3) := by decide +kernel
theorem dX10_margin_30 : decode cX10_margin 30 = .ok (.invokevirtual 382, 3) := by decide +kernel
theorem dX10_margin_33 : decode cX10_margin 33 = .ok (.bipush 30, 2) := by decide +kernel
theorem dX10_margin_35 : decode cX10_margin 35 = .ok (.istore_n 3, 1) := by decide +kernel
theorem dX10_margin_36 : decode cX10_margin 36 = .ok (.iload_n 3, 1) := by decide +kernel
theorem dX10_margin_37 : decode cX10_margin 37 = .ok (.aload_n 0, 1) := by decide +kernel
theorem dX10_margin_38 : decode cX10_margin 38 = .ok (.getfield 64, 3) := by decide +kernel
theorem dX10_margin_41 : decode cX10_margin 41 = .ok (.getfield 293, 3) := by decide +kernel
theorem dX10_margin_44 : decode cX10_margin 44 = .ok (.iload_n 1, 1) := by decide +kernel
theorem dX10_margin_45 : decode cX10_margin 45 = .ok (.iaload, 1) := by decide +kernel
theorem dX10_margin_46 : decode cX10_margin 46 = .ok (.if_icmp .le 36, 3) := by decide +kernel
theorem dX10_margin_49 : decode cX10_margin 49 = .ok (.aload_n 0, 1) := by decide +kernel
theorem dX10_margin_50 : decode cX10_margin 50 = .ok (.getfield 82, 3) := by decide +kernel
theorem dX10_margin_53 : decode cX10_margin 53 = .ok (.getfield 293, 3) := by decide +kernel
theorem dX10_margin_56 : decode cX10_margin 56 = .ok (.iload_n 1, 1) := by decide +kernel
theorem dX10_margin_57 : decode cX10_margin 57 = .ok (.iload_n 3, 1) := by decide +kernel
theorem dX10_margin_58 : decode cX10_margin 58 = .ok (.iastore, 1) := by decide +kernel
theorem dX10_margin_59 : decode cX10_margin 59 = .ok (.aload_n 0, 1) := by decide +kernel
theorem dX10_margin_60 : decode cX10_margin 60 = .ok (.getfield 85, 3) := by decide +kernel
theorem dX10_margin_63 : decode cX10_margin 63 = .ok (.aload_n 0, 1) := by decide +kernel
theorem dX10_margin_64 : decode cX10_margin 64 = .ok (.getfield 82, 3) := by decide +kernel
theorem dX10_margin_67 : decode cX10_margin 67 = .ok (.invokevirtual 379, 3) := by decide +kernel
theorem dX10_margin_70 : decode cX10_margin 70 = .ok (.iload_n 2, 1) := by decide +kernel
theorem dX10_margin_71 : decode cX10_margin 71 = .ok (.if_icmp .lt 5, 3) := by decide +kernel
theorem dX10_margin_74 : decode cX10_margin 74 = .ok (.iload_n 3, 1) := by decide +kernel
theorem dX10_margin_75 : decode cX10_margin 75 = .ok (.ireturn, 1) := by decide +kernel
theorem dX10_margin_76 : decode cX10_margin 76 = .ok (.iinc 3 (-1), 3) := by decide +kernel
theorem dX10_margin_79 : decode cX10_margin 79 = .ok (.goto (-43), 3) := by decide +kernel
theorem dX10_margin_82 : decode cX10_margin 82 = .ok (.aload_n 0, 1) := by decide +kernel
theorem dX10_margin_83 : decode cX10_margin 83 = .ok (.getfield 64, 3) := by decide +kernel
theorem dX10_margin_86 : decode cX10_margin 86 = .ok (.getfield 293, 3) := by decide +kernel
theorem dX10_margin_89 : decode cX10_margin 89 = .ok (.iload_n 1, 1) := by decide +kernel
theorem dX10_margin_90 : decode cX10_margin 90 = .ok (.iaload, 1) := by decide +kernel
theorem dX10_margin_91 : decode cX10_margin 91 = .ok (.ireturn, 1) := by decide +kernel
theorem dX10_laid_0 : decode cX10_laid 0 = .ok (.iload_n 1, 1) := by decide +kernel
theorem dX10_laid_1 : decode cX10_laid 1 = .ok (.ifCond .lt 8, 3) := by decide +kernel
theorem dX10_laid_4 : decode cX10_laid 4 = .ok (.iload_n 1, 1) := by decide +kernel
theorem dX10_laid_5 : decode cX10_laid 5 = .ok (.iconst 1, 1) := by decide +kernel
theorem dX10_laid_6 : decode cX10_laid 6 = .ok (.if_icmp .le 6, 3) := by decide +kernel
theorem dX10_laid_9 : decode cX10_laid 9 = .ok (.bipush (-2), 2) := by decide +kernel
theorem dX10_laid_11 : decode cX10_laid 11 = .ok (.ireturn, 1) := by decide +kernel
theorem dX10_laid_12 : decode cX10_laid 12 = .ok (.iconst (-1), 1) := by decide +kernel
theorem dX10_laid_13 : decode cX10_laid 13 = .ok (.istore_n 2, 1) := by decide +kernel
theorem dX10_laid_14 : decode cX10_laid 14 = .ok (.iconst (-1), 1) := by decide +kernel
theorem dX10_laid_15 : decode cX10_laid 15 = .ok (.istore_n 3, 1) := by decide +kernel
theorem dX10_laid_16 : decode cX10_laid 16 = .ok (.aload_n 0, 1) := by decide +kernel
theorem dX10_laid_17 : decode cX10_laid 17 = .ok (.getfield 82, 3) := by decide +kernel
theorem dX10_laid_20 : decode cX10_laid 20 = .ok (.aload_n 0, 1) := by decide +kernel
theorem dX10_laid_21 : decode cX10_laid 21 = .ok (.getfield 64, 3) := by decide +kernel
theorem dX10_laid_24 : decode cX10_laid 24 = .ok (.invokevirtual 382, 3) := by decide +kernel
theorem dX10_laid_27 : decode cX10_laid 27 = .ok (.iconst 0, 1) := by decide +kernel
theorem dX10_laid_28 : decode cX10_laid 28 = .ok (.istore 4, 2) := by decide +kernel
theorem dX10_laid_30 : decode cX10_laid 30 = .ok (.iload 4, 2) := by decide +kernel
theorem dX10_laid_32 : decode cX10_laid 32 = .ok (.bipush 64, 2) := by decide +kernel
theorem dX10_laid_34 : decode cX10_laid 34 = .ok (.if_icmp .ge 139, 3) := by decide +kernel
theorem dX10_laid_37 : decode cX10_laid 37 = .ok (.iload 4, 2) := by decide +kernel
theorem dX10_laid_39 : decode cX10_laid 39 = .ok (.bipush 16, 2) := by decide +kernel
theorem dX10_laid_41 : decode cX10_laid 41 = .ok (.idiv, 1) := by decide +kernel
theorem dX10_laid_42 : decode cX10_laid 42 = .ok (.istore 5, 2) := by decide +kernel
theorem dX10_laid_44 : decode cX10_laid 44 = .ok (.iload 4, 2) := by decide +kernel
theorem dX10_laid_46 : decode cX10_laid 46 = .ok (.iconst 4, 1) := by decide +kernel
theorem dX10_laid_47 : decode cX10_laid 47 = .ok (.idiv, 1) := by decide +kernel
theorem dX10_laid_48 : decode cX10_laid 48 = .ok (.iconst 4, 1) := by decide +kernel
theorem dX10_laid_49 : decode cX10_laid 49 = .ok (.irem, 1) := by decide +kernel
theorem dX10_laid_50 : decode cX10_laid 50 = .ok (.istore 6, 2) := by decide +kernel
theorem dX10_laid_52 : decode cX10_laid 52 = .ok (.iload 4, 2) := by decide +kernel
theorem dX10_laid_54 : decode cX10_laid 54 = .ok (.iconst 4, 1) := by decide +kernel
theorem dX10_laid_55 : decode cX10_laid 55 = .ok (.irem, 1) := by decide +kernel
theorem dX10_laid_56 : decode cX10_laid 56 = .ok (.istore 7, 2) := by decide +kernel
theorem dX10_laid_58 : decode cX10_laid 58 = .ok (.iload 5, 2) := by decide +kernel
theorem dX10_laid_60 : decode cX10_laid 60 = .ok (.iload 6, 2) := by decide +kernel
theorem dX10_laid_62 : decode cX10_laid 62 = .ok (.if_icmp .eq 105, 3) := by decide +kernel
theorem dX10_laid_65 : decode cX10_laid 65 = .ok (.iload 5, 2) := by decide +kernel
theorem dX10_laid_67 : decode cX10_laid 67 = .ok (.iload 7, 2) := by decide +kernel
theorem dX10_laid_69 : decode cX10_laid 69 = .ok (.if_icmp .eq 98, 3) := by decide +kernel
theorem dX10_laid_72 : decode cX10_laid 72 = .ok (.iload 6, 2) := by decide +kernel
theorem dX10_laid_74 : decode cX10_laid 74 = .ok (.iload 7, 2) := by decide +kernel
theorem dX10_laid_76 : decode cX10_laid 76 = .ok (.if_icmp .ne 6, 3) := by decide +kernel
theorem dX10_laid_79 : decode cX10_laid 79 = .ok (.goto 88, 3) := by decide +kernel
theorem dX10_laid_82 : decode cX10_laid 82 = .ok (.bipush 6, 2) := by decide +kernel
theorem dX10_laid_84 : decode cX10_laid 84 = .ok (.iload 5, 2) := by decide +kernel
theorem dX10_laid_86 : decode cX10_laid 86 = .ok (.isub, 1) := by decide +kernel
theorem dX10_laid_87 : decode cX10_laid 87 = .ok (.iload 6, 2) := by decide +kernel
theorem dX10_laid_89 : decode cX10_laid 89 = .ok (.isub, 1) := by decide +kernel
theorem dX10_laid_90 : decode cX10_laid 90 = .ok (.iload 7, 2) := by decide +kernel
theorem dX10_laid_92 : decode cX10_laid 92 = .ok (.isub, 1) := by decide +kernel
theorem dX10_laid_93 : decode cX10_laid 93 = .ok (.istore 8, 2) := by decide +kernel
theorem dX10_laid_95 : decode cX10_laid 95 = .ok (.aload_n 0, 1) := by decide +kernel
theorem dX10_laid_96 : decode cX10_laid 96 = .ok (.iconst 0, 1) := by decide +kernel
theorem dX10_laid_97 : decode cX10_laid 97 = .ok (.iload 5, 2) := by decide +kernel
theorem dX10_laid_99 : decode cX10_laid 99 = .ok (.invokevirtual 385, 3) := by decide +kernel
theorem dX10_laid_102 : decode cX10_laid 102 = .ok (.aload_n 0, 1) := by decide +kernel
theorem dX10_laid_103 : decode cX10_laid 103 = .ok (.iconst 1, 1) := by decide +kernel
theorem dX10_laid_104 : decode cX10_laid 104 = .ok (.iload 6, 2) := by decide +kernel
theorem dX10_laid_106 : decode cX10_laid 106 = .ok (.invokevirtual 385, 3) := by decide +kernel
theorem dX10_laid_109 : decode cX10_laid 109 = .ok (.aload_n 0, 1) := by decide +kernel
theorem dX10_laid_110 : decode cX10_laid 110 = .ok (.iconst 2, 1) := by decide +kernel
theorem dX10_laid_111 : decode cX10_laid 111 = .ok (.iload 7, 2) := by decide +kernel
theorem dX10_laid_113 : decode cX10_laid 113 = .ok (.invokevirtual 385, 3) := by decide +kernel
theorem dX10_laid_116 : decode cX10_laid 116 = .ok (.aload_n 0, 1) := by decide +kernel
theorem dX10_laid_117 : decode cX10_laid 117 = .ok (.iconst 3, 1) := by decide +kernel
theorem dX10_laid_118 : decode cX10_laid 118 = .ok (.iload 8, 2) := by decide +kernel
theorem dX10_laid_120 : decode cX10_laid 120 = .ok (.invokevirtual 385, 3) := by decide +kernel
theorem dX10_laid_123 : decode cX10_laid 123 = .ok (.aload_n 0, 1) := by decide +kernel
theorem dX10_laid_124 : decode cX10_laid 124 = .ok (.getfield 85, 3) := by decide +kernel
theorem dX10_laid_127 : decode cX10_laid 127 = .ok (.aload_n 0, 1) := by decide +kernel
theorem dX10_laid_128 : decode cX10_laid 128 = .ok (.getfield 82, 3) := by decide +kernel
theorem dX10_laid_131 : decode cX10_laid 131 = .ok (.invokevirtual 379, 3) := by decide +kernel
theorem dX10_laid_134 : decode cX10_laid 134 = .ok (.istore 9, 2) := by decide +kernel
theorem dX10_laid_136 : decode cX10_laid 136 = .ok (.iload 9, 2) := by decide +kernel
theorem dX10_laid_138 : decode cX10_laid 138 = .ok (.iload_n 2, 1) := by decide +kernel
theorem dX10_laid_139 : decode cX10_laid 139 = .ok (.if_icmp .le 28, 3) := by decide +kernel
theorem dX10_laid_142 : decode cX10_laid 142 = .ok (.iload 9, 2) := by decide +kernel
theorem dX10_laid_144 : decode cX10_laid 144 = .ok (.istore_n 2, 1) := by decide +kernel
theorem dX10_laid_145 : decode cX10_laid 145 = .ok (.sipush 1000, 3) := by decide +kernel
theorem dX10_laid_148 : decode cX10_laid 148 = .ok (.iload 5, 2) := by decide +kernel
theorem dX10_laid_150 : decode cX10_laid 150 = .ok (.imul, 1) := by decide +kernel
theorem dX10_laid_151 : decode cX10_laid 151 = .ok (.bipush 100, 2) := by decide +kernel
theorem dX10_laid_153 : decode cX10_laid 153 = .ok (.iload 6, 2) := by decide +kernel
theorem dX10_laid_155 : decode cX10_laid 155 = .ok (.imul, 1) := by decide +kernel
theorem dX10_laid_156 : decode cX10_laid 156 = .ok (.iadd, 1) := by decide +kernel
theorem dX10_laid_157 : decode cX10_laid 157 = .ok (.bipush 10, 2) := by decide +kernel
theorem dX10_laid_159 : decode cX10_laid 159 = .ok (.iload 7, 2) := by decide +kernel
theorem dX10_laid_161 : decode cX10_laid 161 = .ok (.imul, 1) := by decide +kernel
theorem dX10_laid_162 : decode cX10_laid 162 = .ok (.iadd, 1) := by decide +kernel
theorem dX10_laid_163 : decode cX10_laid 163 = .ok (.iload 8, 2) := by decide +kernel
theorem dX10_laid_165 : decode cX10_laid 165 = .ok (.iadd, 1) := by decide +kernel
theorem dX10_laid_166 : decode cX10_laid 166 = .ok (.istore_n 3, 1) := by decide +kernel
theorem dX10_laid_167 : decode cX10_laid 167 = .ok (.iinc 4 1, 3) := by decide +kernel
theorem dX10_laid_170 : decode cX10_laid 170 = .ok (.goto (-140), 3) := by decide +kernel
theorem dX10_laid_173 : decode cX10_laid 173 = .ok (.iload_n 1, 1) := by decide +kernel
theorem dX10_laid_174 : decode cX10_laid 174 = .ok (.ifCond .ne 7, 3) := by decide +kernel
theorem dX10_laid_177 : decode cX10_laid 177 = .ok (.iload_n 2, 1) := by decide +kernel
theorem dX10_laid_178 : decode cX10_laid 178 = .ok (.goto 4, 3) := by decide +kernel
theorem dX10_laid_181 : decode cX10_laid 181 = .ok (.iload_n 3, 1) := by decide +kernel
theorem dX10_laid_182 : decode cX10_laid 182 = .ok (.ireturn, 1) := by decide +kernel
theorem dX10_layLane_0 : decode cX10_layLane 0 = .ok (.iload_n 1, 1) := by decide +kernel
theorem dX10_layLane_1 : decode cX10_layLane 1 = .ok (.invokestatic 290, 3) := by decide +kernel
theorem dX10_layLane_4 : decode cX10_layLane 4 = .ok (.ifCond .eq 46, 3) := by decide +kernel
theorem dX10_layLane_7 : decode cX10_layLane 7 = .ok (.iload_n 2, 1) := by decide +kernel
theorem dX10_layLane_8 : decode cX10_layLane 8 = .ok (.invokestatic 290, 3) := by decide +kernel
theorem dX10_layLane_11 : decode cX10_layLane 11 = .ok (.ifCond .eq 39, 3) := by decide +kernel
theorem dX10_layLane_14 : decode cX10_layLane 14 = .ok (.aload_n 0, 1) := by decide +kernel
theorem dX10_layLane_15 : decode cX10_layLane 15 = .ok (.getfield 82, 3) := by decide +kernel
theorem dX10_layLane_18 : decode cX10_layLane 18 = .ok (.getfield 293, 3) := by decide +kernel
theorem dX10_layLane_21 : decode cX10_layLane 21 = .ok (.iload_n 1, 1) := by decide +kernel
theorem dX10_layLane_22 : decode cX10_layLane 22 = .ok (.aload_n 0, 1) := by decide +kernel
theorem dX10_layLane_23 : decode cX10_layLane 23 = .ok (.getfield 64, 3) := by decide +kernel
theorem dX10_layLane_26 : decode cX10_layLane 26 = .ok (.getfield 293, 3) := by decide +kernel
theorem dX10_layLane_29 : decode cX10_layLane 29 = .ok (.iload_n 2, 1) := by decide +kernel
theorem dX10_layLane_30 : decode cX10_layLane 30 = .ok (.iaload, 1) := by decide +kernel
theorem dX10_layLane_31 : decode cX10_layLane 31 = .ok (.iastore, 1) := by decide +kernel
theorem dX10_layLane_32 : decode cX10_layLane 32 = .ok (.aload_n 0, 1) := by decide +kernel
theorem dX10_layLane_33 : decode cX10_layLane 33 = .ok (.getfield 82, 3) := by decide +kernel
theorem dX10_layLane_36 : decode cX10_layLane 36 = .ok (.getfield 296, 3) := by decide +kernel
theorem dX10_layLane_39 : decode cX10_layLane 39 = .ok (.iload_n 1, 1) := by decide +kernel
theorem dX10_layLane_40 : decode cX10_layLane 40 = .ok (.aload_n 0, 1) := by decide +kernel
theorem dX10_layLane_41 : decode cX10_layLane 41 = .ok (.getfield 64, 3) := by decide +kernel
theorem dX10_layLane_44 : decode cX10_layLane 44 = .ok (.getfield 296, 3) := by decide +kernel
theorem dX10_layLane_47 : decode cX10_layLane 47 = .ok (.iload_n 2, 1) := by decide +kernel
theorem dX10_layLane_48 : decode cX10_layLane 48 = .ok (.iaload, 1) := by decide +kernel
theorem dX10_layLane_49 : decode cX10_layLane 49 = .ok (.iastore, 1) := by decide +kernel
theorem dX10_layLane_50 : decode cX10_layLane 50 = .ok (.return_, 1) := by decide +kernel
theorem dX10_enough_0 : decode cX10_enough 0 = .ok (.aload_n 0, 1) := by decide +kernel
theorem dX10_enough_1 : decode cX10_enough 1 = .ok (.getfield 85, 3) := by decide +kernel
theorem dX10_enough_4 : decode cX10_enough 4 = .ok (.aload_n 0, 1) := by decide +kernel
theorem dX10_enough_5 : decode cX10_enough 5 = .ok (.getfield 64, 3) := by decide +kernel
theorem dX10_enough_8 : decode cX10_enough 8 = .ok (.invokevirtual 379, 3) := by decide +kernel
theorem dX10_enough_11 : decode cX10_enough 11 = .ok (.istore_n 1, 1) := by decide +kernel
theorem dX10_enough_12 : decode cX10_enough 12 = .ok (.aload_n 0, 1) := by decide +kernel
theorem dX10_enough_13 : decode cX10_enough 13 = .ok (.getfield 82, 3) := by decide +kernel
theorem dX10_enough_16 : decode cX10_enough 16 = .ok (.aload_n 0, 1) := by decide +kernel
theorem dX10_enough_17 : decode cX10_enough 17 = .ok (.getfield 64, 3) := by decide +kernel
theorem dX10_enough_20 : decode cX10_enough 20 = .ok (.invokevirtual 382, 3) := by decide +kernel
theorem dX10_enough_23 : decode cX10_enough 23 = .ok (.iconst 0, 1) := by decide +kernel
theorem dX10_enough_24 : decode cX10_enough 24 = .ok (.istore_n 2, 1) := by decide +kernel
theorem dX10_enough_25 : decode cX10_enough 25 = .ok (.iload_n 2, 1) := by decide +kernel
theorem dX10_enough_26 : decode cX10_enough 26 = .ok (.aload_n 0, 1) := by decide +kernel
theorem dX10_enough_27 : decode cX10_enough 27 = .ok (.getfield 64, 3) := by decide +kernel
theorem dX10_enough_30 : decode cX10_enough 30 = .ok (.getfield 305, 3) := by decide +kernel
theorem dX10_enough_33 : decode cX10_enough 33 = .ok (.if_icmp .ge 34, 3) := by decide +kernel
theorem dX10_enough_36 : decode cX10_enough 36 = .ok (.aload_n 0, 1) := by decide +kernel
theorem dX10_enough_37 : decode cX10_enough 37 = .ok (.getfield 82, 3) := by decide +kernel
theorem dX10_enough_40 : decode cX10_enough 40 = .ok (.iload_n 2, 1) := by decide +kernel
theorem dX10_enough_41 : decode cX10_enough 41 = .ok (.putfield 305, 3) := by decide +kernel
theorem dX10_enough_44 : decode cX10_enough 44 = .ok (.aload_n 0, 1) := by decide +kernel
theorem dX10_enough_45 : decode cX10_enough 45 = .ok (.getfield 85, 3) := by decide +kernel
theorem dX10_enough_48 : decode cX10_enough 48 = .ok (.aload_n 0, 1) := by decide +kernel
theorem dX10_enough_49 : decode cX10_enough 49 = .ok (.getfield 82, 3) := by decide +kernel
theorem dX10_enough_52 : decode cX10_enough 52 = .ok (.invokevirtual 379, 3) := by decide +kernel
theorem dX10_enough_55 : decode cX10_enough 55 = .ok (.iload_n 1, 1) := by decide +kernel
theorem dX10_enough_56 : decode cX10_enough 56 = .ok (.if_icmp .lt 5, 3) := by decide +kernel
theorem dX10_enough_59 : decode cX10_enough 59 = .ok (.iload_n 2, 1) := by decide +kernel
theorem dX10_enough_60 : decode cX10_enough 60 = .ok (.ireturn, 1) := by decide +kernel
theorem dX10_enough_61 : decode cX10_enough 61 = .ok (.iinc 2 1, 3) := by decide +kernel
theorem dX10_enough_64 : decode cX10_enough 64 = .ok (.goto (-39), 3) := by decide +kernel
theorem dX10_enough_67 : decode cX10_enough 67 = .ok (.aload_n 0, 1) := by decide +kernel
theorem dX10_enough_68 : decode cX10_enough 68 = .ok (.getfield 64, 3) := by decide +kernel
theorem dX10_enough_71 : decode cX10_enough 71 = .ok (.getfield 305, 3) := by decide +kernel
theorem dX10_enough_74 : decode cX10_enough 74 = .ok (.ireturn, 1) := by decide +kernel
theorem dX10_would_0 : decode cX10_would 0 = .ok (.iload_n 1, 1) := by decide +kernel
theorem dX10_would_1 : decode cX10_would 1 = .ok (.ifCond .lt 8, 3) := by decide +kernel
theorem dX10_would_4 : decode cX10_would 4 = .ok (.iload_n 1, 1) := by decide +kernel
theorem dX10_would_5 : decode cX10_would 5 = .ok (.iconst 1, 1) := by decide +kernel
theorem dX10_would_6 : decode cX10_would 6 = .ok (.if_icmp .le 6, 3) := by decide +kernel
theorem dX10_would_9 : decode cX10_would 9 = .ok (.bipush (-2), 2) := by decide +kernel
theorem dX10_would_11 : decode cX10_would 11 = .ok (.ireturn, 1) := by decide +kernel
theorem dX10_would_12 : decode cX10_would 12 = .ok (.aload_n 0, 1) := by decide +kernel
theorem dX10_would_13 : decode cX10_would 13 = .ok (.aload_n 0, 1) := by decide +kernel
theorem dX10_would_14 : decode cX10_would 14 = .ok (.getfield 85, 3) := by decide +kernel
theorem dX10_would_17 : decode cX10_would 17 = .ok (.aload_n 0, 1) := by decide +kernel
theorem dX10_would_18 : decode cX10_would 18 = .ok (.getfield 64, 3) := by decide +kernel
theorem dX10_would_21 : decode cX10_would 21 = .ok (.invokevirtual 379, 3) := by decide +kernel
theorem dX10_would_24 : decode cX10_would 24 = .ok (.iload_n 1, 1) := by decide +kernel
theorem dX10_would_25 : decode cX10_would 25 = .ok (.invokevirtual 277, 3) := by decide +kernel
theorem dX10_would_28 : decode cX10_would 28 = .ok (.ireturn, 1) := by decide +kernel
theorem dX10_count_0 : decode cX10_count 0 = .ok (.iload_n 1, 1) := by decide +kernel
theorem dX10_count_1 : decode cX10_count 1 = .ok (.tableswitch 72 0 4 #[35, 43, 51, 56, 64], 35) := by decide +kernel
theorem dX10_count_36 : decode cX10_count 36 = .ok (.aload_n 0, 1) := by decide +kernel
theorem dX10_count_37 : decode cX10_count 37 = .ok (.getfield 29, 3) := by decide +kernel
theorem dX10_count_40 : decode cX10_count 40 = .ok (.getfield 137, 3) := by decide +kernel
theorem dX10_count_43 : decode cX10_count 43 = .ok (.ireturn, 1) := by decide +kernel
theorem dX10_count_44 : decode cX10_count 44 = .ok (.aload_n 0, 1) := by decide +kernel
theorem dX10_count_45 : decode cX10_count 45 = .ok (.getfield 10, 3) := by decide +kernel
theorem dX10_count_48 : decode cX10_count 48 = .ok (.getfield 92, 3) := by decide +kernel
theorem dX10_count_51 : decode cX10_count 51 = .ok (.ireturn, 1) := by decide +kernel
theorem dX10_count_52 : decode cX10_count 52 = .ok (.aload_n 0, 1) := by decide +kernel
theorem dX10_count_53 : decode cX10_count 53 = .ok (.getfield 88, 3) := by decide +kernel
theorem dX10_count_56 : decode cX10_count 56 = .ok (.ireturn, 1) := by decide +kernel
theorem dX10_count_57 : decode cX10_count 57 = .ok (.aload_n 0, 1) := by decide +kernel
theorem dX10_count_58 : decode cX10_count 58 = .ok (.getfield 64, 3) := by decide +kernel
theorem dX10_count_61 : decode cX10_count 61 = .ok (.getfield 302, 3) := by decide +kernel
theorem dX10_count_64 : decode cX10_count 64 = .ok (.ireturn, 1) := by decide +kernel
theorem dX10_count_65 : decode cX10_count 65 = .ok (.aload_n 0, 1) := by decide +kernel
theorem dX10_count_66 : decode cX10_count 66 = .ok (.getfield 64, 3) := by decide +kernel
theorem dX10_count_69 : decode cX10_count 69 = .ok (.getfield 305, 3) := by decide +kernel
theorem dX10_count_72 : decode cX10_count 72 = .ok (.ireturn, 1) := by decide +kernel
theorem dX10_count_73 : decode cX10_count 73 = .ok (.iconst (-1), 1) := by decide +kernel
theorem dX10_count_74 : decode cX10_count 74 = .ok (.ireturn, 1) := by decide +kernel
theorem dX10_headByte_0 : decode cX10_headByte 0 = .ok (.iload_n 0, 1) := by decide +kernel
theorem dX10_headByte_1 : decode cX10_headByte 1 = .ok (.ifCond .eq 9, 3) := by decide +kernel
theorem dX10_headByte_4 : decode cX10_headByte 4 = .ok (.iload_n 0, 1) := by decide +kernel
theorem dX10_headByte_5 : decode cX10_headByte 5 = .ok (.bipush 7, 2) := by decide +kernel
theorem dX10_headByte_7 : decode cX10_headByte 7 = .ok (.if_icmp .ne 7, 3) := by decide +kernel
theorem dX10_headByte_10 : decode cX10_headByte 10 = .ok (.iconst 0, 1) := by decide +kernel
theorem dX10_headByte_11 : decode cX10_headByte 11 = .ok (.goto 6, 3) := by decide +kernel
theorem dX10_headByte_14 : decode cX10_headByte 14 = .ok (.sipush 255, 3) := by decide +kernel
theorem dX10_headByte_17 : decode cX10_headByte 17 = .ok (.ireturn, 1) := by decide +kernel
