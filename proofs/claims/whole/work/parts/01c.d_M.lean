theorem dX11_init_0 : decode cX11_init 0 = .ok (.aload_n 0, 1) := by decide +kernel
theorem dX11_init_1 : decode cX11_init 1 = .ok (.invokespecial 1, 3) := by decide +kernel
theorem dX11_init_4 : decode cX11_init 4 = .ok (.aload_n 0, 1) := by decide +kernel
theorem dX11_init_5 : decode cX11_init 5 = .ok (.bipush 7, 2) := by decide +kernel
theorem dX11_init_7 : decode cX11_init 7 = .ok (.newarray .int, 2) := by decide +kernel
theorem dX11_init_9 : decode cX11_init 9 = .ok (.putfield 7, 3) := by decide +kernel
theorem dX11_init_12 : decode cX11_init 12 = .ok (.aload_n 0, 1) := by decide +kernel
theorem dX11_init_13 : decode cX11_init 13 = .ok (.bipush 7, 2) := by decide +kernel
theorem dX11_init_15 : decode cX11_init 15 = .ok (.newarray .int, 2) := by decide +kernel
theorem dX11_init_17 : decode cX11_init 17 = .ok (.putfield 13, 3) := by decide +kernel
theorem dX11_init_20 : decode cX11_init 20 = .ok (.aload_n 0, 1) := by decide +kernel
theorem dX11_init_21 : decode cX11_init 21 = .ok (.bipush 7, 2) := by decide +kernel
theorem dX11_init_23 : decode cX11_init 23 = .ok (.newarray .int, 2) := by decide +kernel
theorem dX11_init_25 : decode cX11_init 25 = .ok (.putfield 16, 3) := by decide +kernel
theorem dX11_init_28 : decode cX11_init 28 = .ok (.aload_n 0, 1) := by decide +kernel
theorem dX11_init_29 : decode cX11_init 29 = .ok (.bipush 7, 2) := by decide +kernel
theorem dX11_init_31 : decode cX11_init 31 = .ok (.newarray .int, 2) := by decide +kernel
theorem dX11_init_33 : decode cX11_init 33 = .ok (.putfield 19, 3) := by decide +kernel
theorem dX11_init_36 : decode cX11_init 36 = .ok (.aload_n 0, 1) := by decide +kernel
theorem dX11_init_37 : decode cX11_init 37 = .ok (.bipush 7, 2) := by decide +kernel
theorem dX11_init_39 : decode cX11_init 39 = .ok (.newarray .int, 2) := by decide +kernel
theorem dX11_init_41 : decode cX11_init 41 = .ok (.putfield 22, 3) := by decide +kernel
theorem dX11_init_44 : decode cX11_init 44 = .ok (.aload_n 0, 1) := by decide +kernel
theorem dX11_init_45 : decode cX11_init 45 = .ok (.bipush 7, 2) := by decide +kernel
theorem dX11_init_47 : decode cX11_init 47 = .ok (.newarray .int, 2) := by decide +kernel
theorem dX11_init_49 : decode cX11_init 49 = .ok (.putfield 25, 3) := by decide +kernel
theorem dX11_init_52 : decode cX11_init 52 = .ok (.aload_n 0, 1) := by decide +kernel
theorem dX11_init_53 : decode cX11_init 53 = .ok (.bipush 7, 2) := by decide +kernel
theorem dX11_init_55 : decode cX11_init 55 = .ok (.newarray .int, 2) := by decide +kernel
theorem dX11_init_57 : decode cX11_init 57 = .ok (.putfield 28, 3) := by decide +kernel
theorem dX11_init_60 : decode cX11_init 60 = .ok (.aload_n 0, 1) := by decide +kernel
theorem dX11_init_61 : decode cX11_init 61 = .ok (.bipush 7, 2) := by decide +kernel
theorem dX11_init_63 : decode cX11_init 63 = .ok (.newarray .int, 2) := by decide +kernel
theorem dX11_init_65 : decode cX11_init 65 = .ok (.putfield 31, 3) := by decide +kernel
theorem dX11_init_68 : decode cX11_init 68 = .ok (.aload_n 0, 1) := by decide +kernel
theorem dX11_init_69 : decode cX11_init 69 = .ok (.bipush 7, 2) := by decide +kernel
theorem dX11_init_71 : decode cX11_init 71 = .ok (.newarray .int, 2) := by decide +kernel
theorem dX11_init_73 : decode cX11_init 73 = .ok (.putfield 34, 3) := by decide +kernel
theorem dX11_init_76 : decode cX11_init 76 = .ok (.aload_n 0, 1) := by decide +kernel
theorem dX11_init_77 : decode cX11_init 77 = .ok (.bipush 7, 2) := by decide +kernel
theorem dX11_init_79 : decode cX11_init 79 = .ok (.newarray .int, 2) := by decide +kernel
theorem dX11_init_81 : decode cX11_init 81 = .ok (.putfield 37, 3) := by decide +kernel
theorem dX11_init_84 : decode cX11_init 84 = .ok (.aload_n 0, 1) := by decide +kernel
theorem dX11_init_85 : decode cX11_init 85 = .ok (.bipush 7, 2) := by decide +kernel
theorem dX11_init_87 : decode cX11_init 87 = .ok (.newarray .int, 2) := by decide +kernel
theorem dX11_init_89 : decode cX11_init 89 = .ok (.putfield 40, 3) := by decide +kernel
theorem dX11_init_92 : decode cX11_init 92 = .ok (.aload_n 0, 1) := by decide +kernel
theorem dX11_init_93 : decode cX11_init 93 = .ok (.bipush 8, 2) := by decide +kernel
theorem dX11_init_95 : decode cX11_init 95 = .ok (.newarray .int, 2) := by decide +kernel
theorem dX11_init_97 : decode cX11_init 97 = .ok (.putfield 43, 3) := by decide +kernel
theorem dX11_init_100 : decode cX11_init 100 = .ok (.aload_n 0, 1) := by decide +kernel
theorem dX11_init_101 : decode cX11_init 101 = .ok (.bipush 8, 2) := by decide +kernel
theorem dX11_init_103 : decode cX11_init 103 = .ok (.newarray .int, 2) := by decide +kernel
theorem dX11_init_105 : decode cX11_init 105 = .ok (.putfield 46, 3) := by decide +kernel
theorem dX11_init_108 : decode cX11_init 108 = .ok (.aload_n 0, 1) := by decide +kernel
theorem dX11_init_109 : decode cX11_init 109 = .ok (.bipush 8, 2) := by decide +kernel
theorem dX11_init_111 : decode cX11_init 111 = .ok (.newarray .boolean, 2) := by decide +kernel
theorem dX11_init_113 : decode cX11_init 113 = .ok (.putfield 49, 3) := by decide +kernel
theorem dX11_init_116 : decode cX11_init 116 = .ok (.aload_n 0, 1) := by decide +kernel
theorem dX11_init_117 : decode cX11_init 117 = .ok (.iconst 4, 1) := by decide +kernel
theorem dX11_init_118 : decode cX11_init 118 = .ok (.newarray .int, 2) := by decide +kernel
theorem dX11_init_120 : decode cX11_init 120 = .ok (.putfield 53, 3) := by decide +kernel
theorem dX11_init_123 : decode cX11_init 123 = .ok (.aload_n 0, 1) := by decide +kernel
theorem dX11_init_124 : decode cX11_init 124 = .ok (.iconst 4, 1) := by decide +kernel
theorem dX11_init_125 : decode cX11_init 125 = .ok (.newarray .int, 2) := by decide +kernel
theorem dX11_init_127 : decode cX11_init 127 = .ok (.putfield 56, 3) := by decide +kernel
theorem dX11_init_130 : decode cX11_init 130 = .ok (.aload_n 0, 1) := by decide +kernel
theorem dX11_init_131 : decode cX11_init 131 = .ok (.sipush 240, 3) := by decide +kernel
theorem dX11_init_134 : decode cX11_init 134 = .ok (.newarray .int, 2) := by decide +kernel
theorem dX11_init_136 : decode cX11_init 136 = .ok (.putfield 59, 3) := by decide +kernel
theorem dX11_init_139 : decode cX11_init 139 = .ok (.aload_n 0, 1) := by decide +kernel
theorem dX11_init_140 : decode cX11_init 140 = .ok (.bipush 60, 2) := by decide +kernel
theorem dX11_init_142 : decode cX11_init 142 = .ok (.newarray .int, 2) := by decide +kernel
theorem dX11_init_144 : decode cX11_init 144 = .ok (.putfield 62, 3) := by decide +kernel
theorem dX11_init_147 : decode cX11_init 147 = .ok (.iconst 0, 1) := by decide +kernel
theorem dX11_init_148 : decode cX11_init 148 = .ok (.istore_n 1, 1) := by decide +kernel
theorem dX11_init_149 : decode cX11_init 149 = .ok (.iload_n 1, 1) := by decide +kernel
theorem dX11_init_150 : decode cX11_init 150 = .ok (.iconst 4, 1) := by decide +kernel
theorem dX11_init_151 : decode cX11_init 151 = .ok (.if_icmp .ge 16, 3) := by decide +kernel
theorem dX11_init_154 : decode cX11_init 154 = .ok (.aload_n 0, 1) := by decide +kernel
theorem dX11_init_155 : decode cX11_init 155 = .ok (.getfield 53, 3) := by decide +kernel
theorem dX11_init_158 : decode cX11_init 158 = .ok (.iload_n 1, 1) := by decide +kernel
theorem dX11_init_159 : decode cX11_init 159 = .ok (.iconst (-1), 1) := by decide +kernel
theorem dX11_init_160 : decode cX11_init 160 = .ok (.iastore, 1) := by decide +kernel
theorem dX11_init_161 : decode cX11_init 161 = .ok (.iinc 1 1, 3) := by decide +kernel
theorem dX11_init_164 : decode cX11_init 164 = .ok (.goto (-15), 3) := by decide +kernel
theorem dX11_init_167 : decode cX11_init 167 = .ok (.return_, 1) := by decide +kernel
theorem dX11_in_0 : decode cX11_in 0 = .ok (.lload_n 0, 1) := by decide +kernel
theorem dX11_in_1 : decode cX11_in 1 = .ok (.lload_n 2, 1) := by decide +kernel
theorem dX11_in_2 : decode cX11_in 2 = .ok (.lcmp, 1) := by decide +kernel
theorem dX11_in_3 : decode cX11_in 3 = .ok (.ifCond .lt 14, 3) := by decide +kernel
theorem dX11_in_6 : decode cX11_in 6 = .ok (.lload_n 0, 1) := by decide +kernel
theorem dX11_in_7 : decode cX11_in 7 = .ok (.lload 4, 2) := by decide +kernel
theorem dX11_in_9 : decode cX11_in 9 = .ok (.lcmp, 1) := by decide +kernel
theorem dX11_in_10 : decode cX11_in 10 = .ok (.ifCond .gt 7, 3) := by decide +kernel
theorem dX11_in_13 : decode cX11_in 13 = .ok (.iconst 1, 1) := by decide +kernel
theorem dX11_in_14 : decode cX11_in 14 = .ok (.goto 4, 3) := by decide +kernel
theorem dX11_in_17 : decode cX11_in 17 = .ok (.iconst 0, 1) := by decide +kernel
theorem dX11_in_18 : decode cX11_in 18 = .ok (.ireturn, 1) := by decide +kernel
theorem dX11_lost_0 : decode cX11_lost 0 = .ok (.ldc2_w 65, 3) := by decide +kernel
theorem dX11_lost_3 : decode cX11_lost 3 = .ok (.lreturn, 1) := by decide +kernel
theorem dX11_isIn_0 : decode cX11_isIn 0 = .ok (.iload_n 0, 1) := by decide +kernel
theorem dX11_isIn_1 : decode cX11_isIn 1 = .ok (.iload_n 1, 1) := by decide +kernel
theorem dX11_isIn_2 : decode cX11_isIn 2 = .ok (.ishr, 1) := by decide +kernel
theorem dX11_isIn_3 : decode cX11_isIn 3 = .ok (.iconst 1, 1) := by decide +kernel
theorem dX11_isIn_4 : decode cX11_isIn 4 = .ok (.iand, 1) := by decide +kernel
theorem dX11_isIn_5 : decode cX11_isIn 5 = .ok (.iconst 1, 1) := by decide +kernel
theorem dX11_isIn_6 : decode cX11_isIn 6 = .ok (.if_icmp .ne 7, 3) := by decide +kernel
theorem dX11_isIn_9 : decode cX11_isIn 9 = .ok (.iconst 1, 1) := by decide +kernel
theorem dX11_isIn_10 : decode cX11_isIn 10 = .ok (.goto 4, 3) := by decide +kernel
theorem dX11_isIn_13 : decode cX11_isIn 13 = .ok (.iconst 0, 1) := by decide +kernel
theorem dX11_isIn_14 : decode cX11_isIn 14 = .ok (.ireturn, 1) := by decide +kernel
theorem dX11_bits_0 : decode cX11_bits 0 = .ok (.iconst 0, 1) := by decide +kernel
theorem dX11_bits_1 : decode cX11_bits 1 = .ok (.istore_n 1, 1) := by decide +kernel
theorem dX11_bits_2 : decode cX11_bits 2 = .ok (.iload_n 0, 1) := by decide +kernel
theorem dX11_bits_3 : decode cX11_bits 3 = .ok (.istore_n 2, 1) := by decide +kernel
theorem dX11_bits_4 : decode cX11_bits 4 = .ok (.iload_n 2, 1) := by decide +kernel
theorem dX11_bits_5 : decode cX11_bits 5 = .ok (.ifCond .le 16, 3) := by decide +kernel
theorem dX11_bits_8 : decode cX11_bits 8 = .ok (.iload_n 1, 1) := by decide +kernel
theorem dX11_bits_9 : decode cX11_bits 9 = .ok (.iload_n 2, 1) := by decide +kernel
theorem dX11_bits_10 : decode cX11_bits 10 = .ok (.iconst 1, 1) := by decide +kernel
theorem dX11_bits_11 : decode cX11_bits 11 = .ok (.iand, 1) := by decide +kernel
theorem dX11_bits_12 : decode cX11_bits 12 = .ok (.iadd, 1) := by decide +kernel
theorem dX11_bits_13 : decode cX11_bits 13 = .ok (.istore_n 1, 1) := by decide +kernel
theorem dX11_bits_14 : decode cX11_bits 14 = .ok (.iload_n 2, 1) := by decide +kernel
theorem dX11_bits_15 : decode cX11_bits 15 = .ok (.iconst 1, 1) := by decide +kernel
theorem dX11_bits_16 : decode cX11_bits 16 = .ok (.ishr, 1) := by decide +kernel
theorem dX11_bits_17 : decode cX11_bits 17 = .ok (.istore_n 2, 1) := by decide +kernel
theorem dX11_bits_18 : decode cX11_bits 18 = .ok (.goto (-14), 3) := by decide +kernel
theorem dX11_bits_21 : decode cX11_bits 21 = .ok (.iload_n 1, 1) := by decide +kernel
theorem dX11_bits_22 : decode cX11_bits 22 = .ok (.ireturn, 1) := by decide +kernel
theorem dX11_told_0 : decode cX11_told 0 = .ok (.lload_n 0, 1) := by decide +kernel
theorem dX11_told_1 : decode cX11_told 1 = .ok (.lstore 5, 2) := by decide +kernel
theorem dX11_told_3 : decode cX11_told 3 = .ok (.lload_n 2, 1) := by decide +kernel
theorem dX11_told_4 : decode cX11_told 4 = .ok (.lstore 7, 2) := by decide +kernel
theorem dX11_told_6 : decode cX11_told 6 = .ok (.lload 7, 2) := by decide +kernel
theorem dX11_told_8 : decode cX11_told 8 = .ok (.lconst 0, 1) := by decide +kernel
theorem dX11_told_9 : decode cX11_told 9 = .ok (.lcmp, 1) := by decide +kernel
theorem dX11_told_10 : decode cX11_told 10 = .ok (.ifCond .eq 21, 3) := by decide +kernel
theorem dX11_told_13 : decode cX11_told 13 = .ok (.lload 5, 2) := by decide +kernel
theorem dX11_told_15 : decode cX11_told 15 = .ok (.lload 7, 2) := by decide +kernel
theorem dX11_told_17 : decode cX11_told 17 = .ok (.lrem, 1) := by decide +kernel
theorem dX11_told_18 : decode cX11_told 18 = .ok (.lstore 9, 2) := by decide +kernel
theorem dX11_told_20 : decode cX11_told 20 = .ok (.lload 7, 2) := by decide +kernel
theorem dX11_told_22 : decode cX11_told 22 = .ok (.lstore 5, 2) := by decide +kernel
theorem dX11_told_24 : decode cX11_told 24 = .ok (.lload 9, 2) := by decide +kernel
theorem dX11_told_26 : decode cX11_told 26 = .ok (.lstore 7, 2) := by decide +kernel
theorem dX11_told_28 : decode cX11_told 28 = .ok (.goto (-22), 3) := by decide +kernel
theorem dX11_told_31 : decode cX11_told 31 = .ok (.iload 4, 2) := by decide +kernel
theorem dX11_told_33 : decode cX11_told 33 = .ok (.ifCond .ne 7, 3) := by decide +kernel
theorem dX11_told_36 : decode cX11_told 36 = .ok (.lload_n 0, 1) := by decide +kernel
theorem dX11_told_37 : decode cX11_told 37 = .ok (.goto 4, 3) := by decide +kernel
theorem dX11_told_40 : decode cX11_told 40 = .ok (.lload_n 2, 1) := by decide +kernel
theorem dX11_told_41 : decode cX11_told 41 = .ok (.lload 5, 2) := by decide +kernel
theorem dX11_told_43 : decode cX11_told 43 = .ok (.ldiv, 1) := by decide +kernel
theorem dX11_told_44 : decode cX11_told 44 = .ok (.lreturn, 1) := by decide +kernel
theorem dX11_refused_0 : decode cX11_refused 0 = .ok (.aload_n 0, 1) := by decide +kernel
theorem dX11_refused_1 : decode cX11_refused 1 = .ok (.iconst 0, 1) := by decide +kernel
theorem dX11_refused_2 : decode cX11_refused 2 = .ok (.putfield 67, 3) := by decide +kernel
theorem dX11_refused_5 : decode cX11_refused 5 = .ok (.iload_n 1, 1) := by decide +kernel
theorem dX11_refused_6 : decode cX11_refused 6 = .ok (.ireturn, 1) := by decide +kernel
theorem dX11_failed_0 : decode cX11_failed 0 = .ok (.aload_n 0, 1) := by decide +kernel
theorem dX11_failed_1 : decode cX11_failed 1 = .ok (.iload_n 1, 1) := by decide +kernel
theorem dX11_failed_2 : decode cX11_failed 2 = .ok (.putfield 67, 3) := by decide +kernel
theorem dX11_failed_5 : decode cX11_failed 5 = .ok (.bipush (-10), 2) := by decide +kernel
theorem dX11_failed_7 : decode cX11_failed 7 = .ok (.iload_n 1, 1) := by decide +kernel
theorem dX11_failed_8 : decode cX11_failed 8 = .ok (.isub, 1) := by decide +kernel
theorem dX11_failed_9 : decode cX11_failed 9 = .ok (.ireturn, 1) := by decide +kernel
theorem dX11_failedLong_0 : decode cX11_failedLong 0 = .ok (.aload_n 0, 1) := by decide +kernel
theorem dX11_failedLong_1 : decode cX11_failedLong 1 = .ok (.iload_n 1, 1) := by decide +kernel
theorem dX11_failedLong_2 : decode cX11_failedLong 2 = .ok (.putfield 67, 3) := by decide +kernel
theorem dX11_failedLong_5 : decode cX11_failedLong 5 = .ok (.invokestatic 71, 3) := by decide +kernel
theorem dX11_failedLong_8 : decode cX11_failedLong 8 = .ok (.lreturn, 1) := by decide +kernel
theorem dX11_noPerson_0 : decode cX11_noPerson 0 = .ok (.iload_n 1, 1) := by decide +kernel
theorem dX11_noPerson_1 : decode cX11_noPerson 1 = .ok (.i2l, 1) := by decide +kernel
theorem dX11_noPerson_2 : decode cX11_noPerson 2 = .ok (.lconst 0, 1) := by decide +kernel
theorem dX11_noPerson_3 : decode cX11_noPerson 3 = .ok (.aload_n 0, 1) := by decide +kernel
theorem dX11_noPerson_4 : decode cX11_noPerson 4 = .ok (.getfield 75, 3) := by decide +kernel
theorem dX11_noPerson_7 : decode cX11_noPerson 7 = .ok (.i2l, 1) := by decide +kernel
theorem dX11_noPerson_8 : decode cX11_noPerson 8 = .ok (.lconst 1, 1) := by decide +kernel
theorem dX11_noPerson_9 : decode cX11_noPerson 9 = .ok (.lsub, 1) := by decide +kernel
theorem dX11_noPerson_10 : decode cX11_noPerson 10 = .ok (.invokestatic 78, 3) := by decide +kernel
theorem dX11_noPerson_13 : decode cX11_noPerson 13 = .ok (.ifCond .ne 7, 3) := by decide +kernel
theorem dX11_noPerson_16 : decode cX11_noPerson 16 = .ok (.iconst 1, 1) := by decide +kernel
theorem dX11_noPerson_17 : decode cX11_noPerson 17 = .ok (.goto 4, 3) := by decide +kernel
theorem dX11_noPerson_20 : decode cX11_noPerson 20 = .ok (.iconst 0, 1) := by decide +kernel
theorem dX11_noPerson_21 : decode cX11_noPerson 21 = .ok (.ireturn, 1) := by decide +kernel
theorem dX11_isDay_0 : decode cX11_isDay 0 = .ok (.iload_n 0, 1) := by decide +kernel
theorem dX11_isDay_1 : decode cX11_isDay 1 = .ok (.i2l, 1) := by decide +kernel
theorem dX11_isDay_2 : decode cX11_isDay 2 = .ok (.lconst 0, 1) := by decide +kernel
theorem dX11_isDay_3 : decode cX11_isDay 3 = .ok (.ldc2_w 82, 3) := by decide +kernel
theorem dX11_isDay_6 : decode cX11_isDay 6 = .ok (.invokestatic 78, 3) := by decide +kernel
theorem dX11_isDay_9 : decode cX11_isDay 9 = .ok (.ireturn, 1) := by decide +kernel
theorem dX11_all_0 : decode cX11_all 0 = .ok (.iconst 1, 1) := by decide +kernel
theorem dX11_all_1 : decode cX11_all 1 = .ok (.aload_n 0, 1) := by decide +kernel
theorem dX11_all_2 : decode cX11_all 2 = .ok (.getfield 75, 3) := by decide +kernel
theorem dX11_all_5 : decode cX11_all 5 = .ok (.ishl, 1) := by decide +kernel
theorem dX11_all_6 : decode cX11_all 6 = .ok (.iconst 1, 1) := by decide +kernel
theorem dX11_all_7 : decode cX11_all 7 = .ok (.isub, 1) := by decide +kernel
theorem dX11_all_8 : decode cX11_all 8 = .ok (.ireturn, 1) := by decide +kernel
theorem dX11_codeAt_0 : decode cX11_codeAt 0 = .ok (.aload_n 0, 1) := by decide +kernel
theorem dX11_codeAt_1 : decode cX11_codeAt 1 = .ok (.getfield 84, 3) := by decide +kernel
theorem dX11_codeAt_4 : decode cX11_codeAt 4 = .ok (.iload_n 2, 1) := by decide +kernel
theorem dX11_codeAt_5 : decode cX11_codeAt 5 = .ok (.if_icmp .ge 17, 3) := by decide +kernel
theorem dX11_codeAt_8 : decode cX11_codeAt 8 = .ok (.aload_n 0, 1) := by decide +kernel
theorem dX11_codeAt_9 : decode cX11_codeAt 9 = .ok (.getfield 59, 3) := by decide +kernel
theorem dX11_codeAt_12 : decode cX11_codeAt 12 = .ok (.iload_n 1, 1) := by decide +kernel
theorem dX11_codeAt_13 : decode cX11_codeAt 13 = .ok (.aload_n 0, 1) := by decide +kernel
theorem dX11_codeAt_14 : decode cX11_codeAt 14 = .ok (.getfield 84, 3) := by decide +kernel
theorem dX11_codeAt_17 : decode cX11_codeAt 17 = .ok (.iadd, 1) := by decide +kernel
theorem dX11_codeAt_18 : decode cX11_codeAt 18 = .ok (.iaload, 1) := by decide +kernel
theorem dX11_codeAt_19 : decode cX11_codeAt 19 = .ok (.goto 5, 3) := by decide +kernel
theorem dX11_codeAt_22 : decode cX11_codeAt 22 = .ok (.bipush (-9), 2) := by decide +kernel
theorem dX11_codeAt_24 : decode cX11_codeAt 24 = .ok (.ireturn, 1) := by decide +kernel
theorem dX11_figure_0 : decode cX11_figure 0 = .ok (.aload_n 0, 1) := by decide +kernel
theorem dX11_figure_1 : decode cX11_figure 1 = .ok (.iload_n 1, 1) := by decide +kernel
theorem dX11_figure_2 : decode cX11_figure 2 = .ok (.iload_n 2, 1) := by decide +kernel
theorem dX11_figure_3 : decode cX11_figure 3 = .ok (.invokevirtual 87, 3) := by decide +kernel
theorem dX11_figure_6 : decode cX11_figure 6 = .ok (.bipush 48, 2) := by decide +kernel
theorem dX11_figure_8 : decode cX11_figure 8 = .ok (.isub, 1) := by decide +kernel
theorem dX11_figure_9 : decode cX11_figure 9 = .ok (.istore 4, 2) := by decide +kernel
theorem dX11_figure_11 : decode cX11_figure 11 = .ok (.iload 4, 2) := by decide +kernel
theorem dX11_figure_13 : decode cX11_figure 13 = .ok (.i2l, 1) := by decide +kernel
theorem dX11_figure_14 : decode cX11_figure 14 = .ok (.lconst 0, 1) := by decide +kernel
theorem dX11_figure_15 : decode cX11_figure 15 = .ok (.iload_n 3, 1) := by decide +kernel
theorem dX11_figure_16 : decode cX11_figure 16 = .ok (.i2l, 1) := by decide +kernel
theorem dX11_figure_17 : decode cX11_figure 17 = .ok (.invokestatic 78, 3) := by decide +kernel
theorem dX11_figure_20 : decode cX11_figure 20 = .ok (.istore 5, 2) := by decide +kernel
theorem dX11_figure_22 : decode cX11_figure 22 = .ok (.aload_n 0, 1) := by decide +kernel
theorem dX11_figure_23 : decode cX11_figure 23 = .ok (.dup, 1) := by decide +kernel
theorem dX11_figure_24 : decode cX11_figure 24 = .ok (.getfield 84, 3) := by decide +kernel
theorem dX11_figure_27 : decode cX11_figure 27 = .ok (.iload 5, 2) := by decide +kernel
theorem dX11_figure_29 : decode cX11_figure 29 = .ok (.ifCond .eq 7, 3) := by decide +kernel
theorem dX11_figure_32 : decode cX11_figure 32 = .ok (.iconst 1, 1) := by decide +kernel
theorem dX11_figure_33 : decode cX11_figure 33 = .ok (.goto 4, 3) := by decide +kernel
theorem dX11_figure_36 : decode cX11_figure 36 = .ok (.iconst 0, 1) := by decide +kernel
theorem dX11_figure_37 : decode cX11_figure 37 = .ok (.iadd, 1) := by decide +kernel
theorem dX11_figure_38 : decode cX11_figure 38 = .ok (.putfield 84, 3) := by decide +kernel
theorem dX11_figure_41 : decode cX11_figure 41 = .ok (.iload 5, 2) := by decide +kernel
theorem dX11_figure_43 : decode cX11_figure 43 = .ok (.ifCond .eq 8, 3) := by decide +kernel
theorem dX11_figure_46 : decode cX11_figure 46 = .ok (.iload 4, 2) := by decide +kernel
theorem dX11_figure_48 : decode cX11_figure 48 = .ok (.goto 5, 3) := by decide +kernel
theorem dX11_figure_51 : decode cX11_figure 51 = .ok (.bipush (-9), 2) := by decide +kernel
theorem dX11_figure_53 : decode cX11_figure 53 = .ok (.ireturn, 1) := by decide +kernel
theorem dX11_readsPerson_0 : decode cX11_readsPerson 0 = .ok (.aload_n 0, 1) := by decide +kernel
theorem dX11_readsPerson_1 : decode cX11_readsPerson 1 = .ok (.getfield 91, 3) := by decide +kernel
theorem dX11_readsPerson_4 : decode cX11_readsPerson 4 = .ok (.bipush 7, 2) := by decide +kernel
theorem dX11_readsPerson_6 : decode cX11_readsPerson 6 = .ok (.if_icmp .eq 14, 3) := by decide +kernel
theorem dX11_readsPerson_9 : decode cX11_readsPerson 9 = .ok (.aload_n 0, 1) := by decide +kernel
theorem dX11_readsPerson_10 : decode cX11_readsPerson 10 = .ok (.iload_n 1, 1) := by decide +kernel
theorem dX11_readsPerson_11 : decode cX11_readsPerson 11 = .ok (.iload_n 2, 1) := by decide +kernel
theorem dX11_readsPerson_12 : decode cX11_readsPerson 12 = .ok (.invokevirtual 87, 3) := by decide +kernel
theorem dX11_readsPerson_15 : decode cX11_readsPerson 15 = .ok (.bipush 59, 2) := by decide +kernel
theorem dX11_readsPerson_17 : decode cX11_readsPerson 17 = .ok (.if_icmp .eq 5, 3) := by decide +kernel
theorem dX11_readsPerson_20 : decode cX11_readsPerson 20 = .ok (.iconst 0, 1) := by decide +kernel
theorem dX11_readsPerson_21 : decode cX11_readsPerson 21 = .ok (.ireturn, 1) := by decide +kernel
theorem dX11_readsPerson_22 : decode cX11_readsPerson 22 = .ok (.aload_n 0, 1) := by decide +kernel
theorem dX11_readsPerson_23 : decode cX11_readsPerson 23 = .ok (.dup, 1) := by decide +kernel
theorem dX11_readsPerson_24 : decode cX11_readsPerson 24 = .ok (.getfield 84, 3) := by decide +kernel
theorem dX11_readsPerson_27 : decode cX11_readsPerson 27 = .ok (.iconst 1, 1) := by decide +kernel
theorem dX11_readsPerson_28 : decode cX11_readsPerson 28 = .ok (.iadd, 1) := by decide +kernel
theorem dX11_readsPerson_29 : decode cX11_readsPerson 29 = .ok (.putfield 84, 3) := by decide +kernel
theorem dX11_readsPerson_32 : decode cX11_readsPerson 32 = .ok (.aload_n 0, 1) := by decide +kernel
theorem dX11_readsPerson_33 : decode cX11_readsPerson 33 = .ok (.iload_n 1, 1) := by decide +kernel
theorem dX11_readsPerson_34 : decode cX11_readsPerson 34 = .ok (.iload_n 2, 1) := by decide +kernel
theorem dX11_readsPerson_35 : decode cX11_readsPerson 35 = .ok (.invokevirtual 87, 3) := by decide +kernel
theorem dX11_readsPerson_38 : decode cX11_readsPerson 38 = .ok (.istore_n 3, 1) := by decide +kernel
theorem dX11_readsPerson_39 : decode cX11_readsPerson 39 = .ok (.iload_n 3, 1) := by decide +kernel
theorem dX11_readsPerson_40 : decode cX11_readsPerson 40 = .ok (.bipush 115, 2) := by decide +kernel
theorem dX11_readsPerson_42 : decode cX11_readsPerson 42 = .ok (.if_icmp .eq 17, 3) := by decide +kernel
theorem dX11_readsPerson_45 : decode cX11_readsPerson 45 = .ok (.iload_n 3, 1) := by decide +kernel
theorem dX11_readsPerson_46 : decode cX11_readsPerson 46 = .ok (.bipush 99, 2) := by decide +kernel
theorem dX11_readsPerson_48 : decode cX11_readsPerson 48 = .ok (.if_icmp .eq 11, 3) := by decide +kernel
theorem dX11_readsPerson_51 : decode cX11_readsPerson 51 = .ok (.iload_n 3, 1) := by decide +kernel
theorem dX11_readsPerson_52 : decode cX11_readsPerson 52 = .ok (.bipush 116, 2) := by decide +kernel
theorem dX11_readsPerson_54 : decode cX11_readsPerson 54 = .ok (.if_icmp .eq 5, 3) := by decide +kernel
theorem dX11_readsPerson_57 : decode cX11_readsPerson 57 = .ok (.iconst 0, 1) := by decide +kernel
theorem dX11_readsPerson_58 : decode cX11_readsPerson 58 = .ok (.ireturn, 1) := by decide +kernel
theorem dX11_readsPerson_59 : decode cX11_readsPerson 59 = .ok (.aload_n 0, 1) := by decide +kernel
theorem dX11_readsPerson_60 : decode cX11_readsPerson 60 = .ok (.dup, 1) := by decide +kernel
theorem dX11_readsPerson_61 : decode cX11_readsPerson 61 = .ok (.getfield 84, 3) := by decide +kernel
theorem dX11_readsPerson_64 : decode cX11_readsPerson 64 = .ok (.iconst 1, 1) := by decide +kernel
theorem dX11_readsPerson_65 : decode cX11_readsPerson 65 = .ok (.iadd, 1) := by decide +kernel
theorem dX11_readsPerson_66 : decode cX11_readsPerson 66 = .ok (.putfield 84, 3) := by decide +kernel
theorem dX11_readsPerson_69 : decode cX11_readsPerson 69 = .ok (.aload_n 0, 1) := by decide +kernel
theorem dX11_readsPerson_70 : decode cX11_readsPerson 70 = .ok (.iload_n 1, 1) := by decide +kernel
theorem dX11_readsPerson_71 : decode cX11_readsPerson 71 = .ok (.iload_n 2, 1) := by decide +kernel
theorem dX11_readsPerson_72 : decode cX11_readsPerson 72 = .ok (.iconst 5, 1) := by decide +kernel
theorem dX11_readsPerson_73 : decode cX11_readsPerson 73 = .ok (.invokevirtual 94, 3) := by decide +kernel
theorem dX11_readsPerson_76 : decode cX11_readsPerson 76 = .ok (.istore 4, 2) := by decide +kernel
theorem dX11_readsPerson_78 : decode cX11_readsPerson 78 = .ok (.iload 4, 2) := by decide +kernel
theorem dX11_readsPerson_80 : decode cX11_readsPerson 80 = .ok (.ifCond .ge 8, 3) := by decide +kernel
theorem dX11_readsPerson_83 : decode cX11_readsPerson 83 = .ok (.bipush (-9), 2) := by decide +kernel
theorem dX11_readsPerson_85 : decode cX11_readsPerson 85 = .ok (.goto 11, 3) := by decide +kernel
theorem dX11_readsPerson_88 : decode cX11_readsPerson 88 = .ok (.aload_n 0, 1) := by decide +kernel
theorem dX11_readsPerson_89 : decode cX11_readsPerson 89 = .ok (.iload_n 1, 1) := by decide +kernel
theorem dX11_readsPerson_90 : decode cX11_readsPerson 90 = .ok (.iload_n 2, 1) := by decide +kernel
theorem dX11_readsPerson_91 : decode cX11_readsPerson 91 = .ok (.bipush 6, 2) := by decide +kernel
theorem dX11_readsPerson_93 : decode cX11_readsPerson 93 = .ok (.invokevirtual 94, 3) := by decide +kernel
theorem dX11_readsPerson_96 : decode cX11_readsPerson 96 = .ok (.istore 5, 2) := by decide +kernel
theorem dX11_readsPerson_98 : decode cX11_readsPerson 98 = .ok (.iload 5, 2) := by decide +kernel
theorem dX11_readsPerson_100 : decode cX11_readsPerson 100 = .ok (.ifCond .ge 5, 3) := by decide +kernel
theorem dX11_readsPerson_103 : decode cX11_readsPerson 103 = .ok (.iconst 0, 1) := by decide +kernel
theorem dX11_readsPerson_104 : decode cX11_readsPerson 104 = .ok (.ireturn, 1) := by decide +kernel
theorem dX11_readsPerson_105 : decode cX11_readsPerson 105 = .ok (.aload_n 0, 1) := by decide +kernel
theorem dX11_readsPerson_106 : decode cX11_readsPerson 106 = .ok (.getfield 19, 3) := by decide +kernel
theorem dX11_readsPerson_109 : decode cX11_readsPerson 109 = .ok (.aload_n 0, 1) := by decide +kernel
theorem dX11_readsPerson_110 : decode cX11_readsPerson 110 = .ok (.getfield 91, 3) := by decide +kernel
theorem dX11_readsPerson_113 : decode cX11_readsPerson 113 = .ok (.iload_n 3, 1) := by decide +kernel
theorem dX11_readsPerson_114 : decode cX11_readsPerson 114 = .ok (.bipush 115, 2) := by decide +kernel
theorem dX11_readsPerson_116 : decode cX11_readsPerson 116 = .ok (.if_icmp .ne 7, 3) := by decide +kernel
theorem dX11_readsPerson_119 : decode cX11_readsPerson 119 = .ok (.iconst 0, 1) := by decide +kernel
theorem dX11_readsPerson_120 : decode cX11_readsPerson 120 = .ok (.goto 14, 3) := by decide +kernel
theorem dX11_readsPerson_123 : decode cX11_readsPerson 123 = .ok (.iload_n 3, 1) := by decide +kernel
theorem dX11_readsPerson_124 : decode cX11_readsPerson 124 = .ok (.bipush 99, 2) := by decide +kernel
theorem dX11_readsPerson_126 : decode cX11_readsPerson 126 = .ok (.if_icmp .ne 7, 3) := by decide +kernel
theorem dX11_readsPerson_129 : decode cX11_readsPerson 129 = .ok (.iconst 1, 1) := by decide +kernel
theorem dX11_readsPerson_130 : decode cX11_readsPerson 130 = .ok (.goto 4, 3) := by decide +kernel
theorem dX11_readsPerson_133 : decode cX11_readsPerson 133 = .ok (.iconst 2, 1) := by decide +kernel
theorem dX11_readsPerson_134 : decode cX11_readsPerson 134 = .ok (.iastore, 1) := by decide +kernel
theorem dX11_readsPerson_135 : decode cX11_readsPerson 135 = .ok (.aload_n 0, 1) := by decide +kernel
theorem dX11_readsPerson_136 : decode cX11_readsPerson 136 = .ok (.getfield 22, 3) := by decide +kernel
theorem dX11_readsPerson_139 : decode cX11_readsPerson 139 = .ok (.aload_n 0, 1) := by decide +kernel
theorem dX11_readsPerson_140 : decode cX11_readsPerson 140 = .ok (.getfield 91, 3) := by decide +kernel
theorem dX11_readsPerson_143 : decode cX11_readsPerson 143 = .ok (.iload 4, 2) := by decide +kernel
theorem dX11_readsPerson_145 : decode cX11_readsPerson 145 = .ok (.iastore, 1) := by decide +kernel
theorem dX11_readsPerson_146 : decode cX11_readsPerson 146 = .ok (.aload_n 0, 1) := by decide +kernel
theorem dX11_readsPerson_147 : decode cX11_readsPerson 147 = .ok (.getfield 25, 3) := by decide +kernel
theorem dX11_readsPerson_150 : decode cX11_readsPerson 150 = .ok (.aload_n 0, 1) := by decide +kernel
theorem dX11_readsPerson_151 : decode cX11_readsPerson 151 = .ok (.getfield 91, 3) := by decide +kernel
theorem dX11_readsPerson_154 : decode cX11_readsPerson 154 = .ok (.iload 5, 2) := by decide +kernel
theorem dX11_readsPerson_156 : decode cX11_readsPerson 156 = .ok (.iastore, 1) := by decide +kernel
theorem dX11_readsPerson_157 : decode cX11_readsPerson 157 = .ok (.aload_n 0, 1) := by decide +kernel
theorem dX11_readsPerson_158 : decode cX11_readsPerson 158 = .ok (.dup, 1) := by decide +kernel
theorem dX11_readsPerson_159 : decode cX11_readsPerson 159 = .ok (.getfield 91, 3) := by decide +kernel
theorem dX11_readsPerson_162 : decode cX11_readsPerson 162 = .ok (.iconst 1, 1) := by decide +kernel
theorem dX11_readsPerson_163 : decode cX11_readsPerson 163 = .ok (.iadd, 1) := by decide +kernel
theorem dX11_readsPerson_164 : decode cX11_readsPerson 164 = .ok (.putfield 91, 3) := by decide +kernel
theorem dX11_readsPerson_167 : decode cX11_readsPerson 167 = .ok (.iconst 1, 1) := by decide +kernel
theorem dX11_readsPerson_168 : decode cX11_readsPerson 168 = .ok (.ireturn, 1) := by decide +kernel
theorem dX11_readsStreet_0 : decode cX11_readsStreet 0 = .ok (.aload_n 0, 1) := by decide +kernel
theorem dX11_readsStreet_1 : decode cX11_readsStreet 1 = .ok (.iconst 0, 1) := by decide +kernel
theorem dX11_readsStreet_2 : decode cX11_readsStreet 2 = .ok (.putfield 84, 3) := by decide +kernel
theorem dX11_readsStreet_5 : decode cX11_readsStreet 5 = .ok (.aload_n 0, 1) := by decide +kernel
theorem dX11_readsStreet_6 : decode cX11_readsStreet 6 = .ok (.iconst 0, 1) := by decide +kernel
theorem dX11_readsStreet_7 : decode cX11_readsStreet 7 = .ok (.putfield 91, 3) := by decide +kernel
theorem dX11_readsStreet_10 : decode cX11_readsStreet 10 = .ok (.aload_n 0, 1) := by decide +kernel
theorem dX11_readsStreet_11 : decode cX11_readsStreet 11 = .ok (.iload_n 1, 1) := by decide +kernel
theorem dX11_readsStreet_12 : decode cX11_readsStreet 12 = .ok (.iload_n 2, 1) := by decide +kernel
theorem dX11_readsStreet_13 : decode cX11_readsStreet 13 = .ok (.invokevirtual 87, 3) := by decide +kernel
theorem dX11_readsStreet_16 : decode cX11_readsStreet 16 = .ok (.bipush 110, 2) := by decide +kernel
theorem dX11_readsStreet_18 : decode cX11_readsStreet 18 = .ok (.if_icmp .ne 7, 3) := by decide +kernel
theorem dX11_readsStreet_21 : decode cX11_readsStreet 21 = .ok (.iconst 1, 1) := by decide +kernel
theorem dX11_readsStreet_22 : decode cX11_readsStreet 22 = .ok (.goto 4, 3) := by decide +kernel
theorem dX11_readsStreet_25 : decode cX11_readsStreet 25 = .ok (.iconst 0, 1) := by decide +kernel
theorem dX11_readsStreet_26 : decode cX11_readsStreet 26 = .ok (.istore_n 3, 1) := by decide +kernel
theorem dX11_readsStreet_27 : decode cX11_readsStreet 27 = .ok (.aload_n 0, 1) := by decide +kernel
theorem dX11_readsStreet_28 : decode cX11_readsStreet 28 = .ok (.dup, 1) := by decide +kernel
theorem dX11_readsStreet_29 : decode cX11_readsStreet 29 = .ok (.getfield 84, 3) := by decide +kernel
theorem dX11_readsStreet_32 : decode cX11_readsStreet 32 = .ok (.iload_n 3, 1) := by decide +kernel
theorem dX11_readsStreet_33 : decode cX11_readsStreet 33 = .ok (.ifCond .eq 7, 3) := by decide +kernel
theorem dX11_readsStreet_36 : decode cX11_readsStreet 36 = .ok (.iconst 1, 1) := by decide +kernel
theorem dX11_readsStreet_37 : decode cX11_readsStreet 37 = .ok (.goto 4, 3) := by decide +kernel
theorem dX11_readsStreet_40 : decode cX11_readsStreet 40 = .ok (.iconst 0, 1) := by decide +kernel
theorem dX11_readsStreet_41 : decode cX11_readsStreet 41 = .ok (.iadd, 1) := by decide +kernel
theorem dX11_readsStreet_42 : decode cX11_readsStreet 42 = .ok (.putfield 84, 3) := by decide +kernel
theorem dX11_readsStreet_45 : decode cX11_readsStreet 45 = .ok (.iload_n 3, 1) := by decide +kernel
theorem dX11_readsStreet_46 : decode cX11_readsStreet 46 = .ok (.ifCond .eq 29, 3) := by decide +kernel
theorem dX11_readsStreet_49 : decode cX11_readsStreet 49 = .ok (.aload_n 0, 1) := by decide +kernel
theorem dX11_readsStreet_50 : decode cX11_readsStreet 50 = .ok (.getfield 91, 3) := by decide +kernel
theorem dX11_readsStreet_53 : decode cX11_readsStreet 53 = .ok (.iconst 2, 1) := by decide +kernel
theorem dX11_readsStreet_54 : decode cX11_readsStreet 54 = .ok (.if_icmp .lt 11, 3) := by decide +kernel
theorem dX11_readsStreet_57 : decode cX11_readsStreet 57 = .ok (.aload_n 0, 1) := by decide +kernel
theorem dX11_readsStreet_58 : decode cX11_readsStreet 58 = .ok (.getfield 84, 3) := by decide +kernel
theorem dX11_readsStreet_61 : decode cX11_readsStreet 61 = .ok (.iload_n 2, 1) := by decide +kernel
theorem dX11_readsStreet_62 : decode cX11_readsStreet 62 = .ok (.if_icmp .ge 13, 3) := by decide +kernel
theorem dX11_readsStreet_65 : decode cX11_readsStreet 65 = .ok (.aload_n 0, 1) := by decide +kernel
theorem dX11_readsStreet_66 : decode cX11_readsStreet 66 = .ok (.iload_n 1, 1) := by decide +kernel
theorem dX11_readsStreet_67 : decode cX11_readsStreet 67 = .ok (.iload_n 2, 1) := by decide +kernel
theorem dX11_readsStreet_68 : decode cX11_readsStreet 68 = .ok (.invokevirtual 98, 3) := by decide +kernel
theorem dX11_readsStreet_71 : decode cX11_readsStreet 71 = .ok (.istore_n 3, 1) := by decide +kernel
theorem dX11_readsStreet_72 : decode cX11_readsStreet 72 = .ok (.goto (-27), 3) := by decide +kernel
theorem dX11_readsStreet_75 : decode cX11_readsStreet 75 = .ok (.iload_n 3, 1) := by decide +kernel
theorem dX11_readsStreet_76 : decode cX11_readsStreet 76 = .ok (.ireturn, 1) := by decide +kernel
theorem dX11_cellsBarred_0 : decode cX11_cellsBarred 0 = .ok (.aload_n 0, 1) := by decide +kernel
theorem dX11_cellsBarred_1 : decode cX11_cellsBarred 1 = .ok (.getfield 53, 3) := by decide +kernel
theorem dX11_cellsBarred_4 : decode cX11_cellsBarred 4 = .ok (.iload_n 1, 1) := by decide +kernel
theorem dX11_cellsBarred_5 : decode cX11_cellsBarred 5 = .ok (.iaload, 1) := by decide +kernel
theorem dX11_cellsBarred_6 : decode cX11_cellsBarred 6 = .ok (.ifCond .lt 19, 3) := by decide +kernel
theorem dX11_cellsBarred_9 : decode cX11_cellsBarred 9 = .ok (.aload_n 0, 1) := by decide +kernel
theorem dX11_cellsBarred_10 : decode cX11_cellsBarred 10 = .ok (.getfield 56, 3) := by decide +kernel
theorem dX11_cellsBarred_13 : decode cX11_cellsBarred 13 = .ok (.iload_n 1, 1) := by decide +kernel
theorem dX11_cellsBarred_14 : decode cX11_cellsBarred 14 = .ok (.iaload, 1) := by decide +kernel
theorem dX11_cellsBarred_15 : decode cX11_cellsBarred 15 = .ok (.iload_n 2, 1) := by decide +kernel
theorem dX11_cellsBarred_16 : decode cX11_cellsBarred 16 = .ok (.if_icmp .eq 9, 3) := by decide +kernel
theorem dX11_cellsBarred_19 : decode cX11_cellsBarred 19 = .ok (.aload_n 0, 1) := by decide +kernel
theorem dX11_cellsBarred_20 : decode cX11_cellsBarred 20 = .ok (.iconst 2, 1) := by decide +kernel
theorem dX11_cellsBarred_21 : decode cX11_cellsBarred 21 = .ok (.invokevirtual 102, 3) := by decide +kernel
theorem dX11_cellsBarred_24 : decode cX11_cellsBarred 24 = .ok (.ireturn, 1) := by decide +kernel
theorem dX11_cellsBarred_25 : decode cX11_cellsBarred 25 = .ok (.aload_n 0, 1) := by decide +kernel
theorem dX11_cellsBarred_26 : decode cX11_cellsBarred 26 = .ok (.getfield 53, 3) := by decide +kernel
theorem dX11_cellsBarred_29 : decode cX11_cellsBarred 29 = .ok (.iload_n 1, 1) := by decide +kernel
theorem dX11_cellsBarred_30 : decode cX11_cellsBarred 30 = .ok (.iaload, 1) := by decide +kernel
theorem dX11_cellsBarred_31 : decode cX11_cellsBarred 31 = .ok (.ifCond .ge 9, 3) := by decide +kernel
theorem dX11_cellsBarred_34 : decode cX11_cellsBarred 34 = .ok (.aload_n 0, 1) := by decide +kernel
theorem dX11_cellsBarred_35 : decode cX11_cellsBarred 35 = .ok (.iconst 1, 1) := by decide +kernel
theorem dX11_cellsBarred_36 : decode cX11_cellsBarred 36 = .ok (.invokevirtual 102, 3) := by decide +kernel
theorem dX11_cellsBarred_39 : decode cX11_cellsBarred 39 = .ok (.ireturn, 1) := by decide +kernel
theorem dX11_cellsBarred_40 : decode cX11_cellsBarred 40 = .ok (.lload 4, 2) := by decide +kernel
theorem dX11_cellsBarred_42 : decode cX11_cellsBarred 42 = .ok (.lconst 0, 1) := by decide +kernel
theorem dX11_cellsBarred_43 : decode cX11_cellsBarred 43 = .ok (.lcmp, 1) := by decide +kernel
theorem dX11_cellsBarred_44 : decode cX11_cellsBarred 44 = .ok (.ifCond .ge 9, 3) := by decide +kernel
theorem dX11_cellsBarred_47 : decode cX11_cellsBarred 47 = .ok (.aload_n 0, 1) := by decide +kernel
theorem dX11_cellsBarred_48 : decode cX11_cellsBarred 48 = .ok (.iconst 4, 1) := by decide +kernel
theorem dX11_cellsBarred_49 : decode cX11_cellsBarred 49 = .ok (.invokevirtual 102, 3) := by decide +kernel
theorem dX11_cellsBarred_52 : decode cX11_cellsBarred 52 = .ok (.ireturn, 1) := by decide +kernel
theorem dX11_cellsBarred_53 : decode cX11_cellsBarred 53 = .ok (.iload_n 3, 1) := by decide +kernel
theorem dX11_cellsBarred_54 : decode cX11_cellsBarred 54 = .ok (.lload 4, 2) := by decide +kernel
theorem dX11_cellsBarred_56 : decode cX11_cellsBarred 56 = .ok (.aload_n 0, 1) := by decide +kernel
theorem dX11_cellsBarred_57 : decode cX11_cellsBarred 57 = .ok (.getfield 53, 3) := by decide +kernel
theorem dX11_cellsBarred_60 : decode cX11_cellsBarred 60 = .ok (.iload_n 1, 1) := by decide +kernel
theorem dX11_cellsBarred_61 : decode cX11_cellsBarred 61 = .ok (.iaload, 1) := by decide +kernel
theorem dX11_cellsBarred_62 : decode cX11_cellsBarred 62 = .ok (.invokestatic 106, 3) := by decide +kernel
theorem dX11_cellsBarred_65 : decode cX11_cellsBarred 65 = .ok (.ifCond .eq 11, 3) := by decide +kernel
theorem dX11_cellsBarred_68 : decode cX11_cellsBarred 68 = .ok (.aload_n 0, 1) := by decide +kernel
theorem dX11_cellsBarred_69 : decode cX11_cellsBarred 69 = .ok (.iconst 3, 1) := by decide +kernel
theorem dX11_cellsBarred_70 : decode cX11_cellsBarred 70 = .ok (.invokevirtual 102, 3) := by decide +kernel
theorem dX11_cellsBarred_73 : decode cX11_cellsBarred 73 = .ok (.goto 4, 3) := by decide +kernel
theorem dX11_cellsBarred_76 : decode cX11_cellsBarred 76 = .ok (.iconst 0, 1) := by decide +kernel
theorem dX11_cellsBarred_77 : decode cX11_cellsBarred 77 = .ok (.ireturn, 1) := by decide +kernel
theorem dX11_street_0 : decode cX11_street 0 = .ok (.iload_n 1, 1) := by decide +kernel
theorem dX11_street_1 : decode cX11_street 1 = .ok (.invokestatic 110, 3) := by decide +kernel
theorem dX11_street_4 : decode cX11_street 4 = .ok (.ifCond .eq 9, 3) := by decide +kernel
theorem dX11_street_7 : decode cX11_street 7 = .ok (.aload_n 0, 1) := by decide +kernel
theorem dX11_street_8 : decode cX11_street 8 = .ok (.iconst (-1), 1) := by decide +kernel
theorem dX11_street_9 : decode cX11_street 9 = .ok (.invokevirtual 114, 3) := by decide +kernel
theorem dX11_street_12 : decode cX11_street 12 = .ok (.ireturn, 1) := by decide +kernel
theorem dX11_street_13 : decode cX11_street 13 = .ok (.iload_n 2, 1) := by decide +kernel
theorem dX11_street_14 : decode cX11_street 14 = .ok (.i2l, 1) := by decide +kernel
theorem dX11_street_15 : decode cX11_street 15 = .ok (.lconst 0, 1) := by decide +kernel
theorem dX11_street_16 : decode cX11_street 16 = .ok (.ldc2_w 117, 3) := by decide +kernel
theorem dX11_street_19 : decode cX11_street 19 = .ok (.invokestatic 78, 3) := by decide +kernel
theorem dX11_street_22 : decode cX11_street 22 = .ok (.ifCond .ne 10, 3) := by decide +kernel
theorem dX11_street_25 : decode cX11_street 25 = .ok (.aload_n 0, 1) := by decide +kernel
theorem dX11_street_26 : decode cX11_street 26 = .ok (.bipush (-2), 2) := by decide +kernel
theorem dX11_street_28 : decode cX11_street 28 = .ok (.invokevirtual 114, 3) := by decide +kernel
theorem dX11_street_31 : decode cX11_street 31 = .ok (.ireturn, 1) := by decide +kernel
theorem dX11_street_32 : decode cX11_street 32 = .ok (.aload_n 0, 1) := by decide +kernel
theorem dX11_street_33 : decode cX11_street 33 = .ok (.iload_n 1, 1) := by decide +kernel
theorem dX11_street_34 : decode cX11_street 34 = .ok (.iload_n 2, 1) := by decide +kernel
theorem dX11_street_35 : decode cX11_street 35 = .ok (.iload_n 3, 1) := by decide +kernel
theorem dX11_street_36 : decode cX11_street 36 = .ok (.iload 4, 2) := by decide +kernel
theorem dX11_street_38 : decode cX11_street 38 = .ok (.i2l, 1) := by decide +kernel
theorem dX11_street_39 : decode cX11_street 39 = .ok (.invokevirtual 119, 3) := by decide +kernel
theorem dX11_street_42 : decode cX11_street 42 = .ok (.istore 5, 2) := by decide +kernel
theorem dX11_street_44 : decode cX11_street 44 = .ok (.iload 5, 2) := by decide +kernel
theorem dX11_street_46 : decode cX11_street 46 = .ok (.ifCond .ge 6, 3) := by decide +kernel
theorem dX11_street_49 : decode cX11_street 49 = .ok (.iload 5, 2) := by decide +kernel
theorem dX11_street_51 : decode cX11_street 51 = .ok (.ireturn, 1) := by decide +kernel
theorem dX11_street_52 : decode cX11_street 52 = .ok (.aload_n 0, 1) := by decide +kernel
theorem dX11_street_53 : decode cX11_street 53 = .ok (.bipush 60, 2) := by decide +kernel
theorem dX11_street_55 : decode cX11_street 55 = .ok (.iload_n 1, 1) := by decide +kernel
theorem dX11_street_56 : decode cX11_street 56 = .ok (.imul, 1) := by decide +kernel
theorem dX11_street_57 : decode cX11_street 57 = .ok (.iload_n 3, 1) := by decide +kernel
theorem dX11_street_58 : decode cX11_street 58 = .ok (.iadd, 1) := by decide +kernel
theorem dX11_street_59 : decode cX11_street 59 = .ok (.iload 4, 2) := by decide +kernel
theorem dX11_street_61 : decode cX11_street 61 = .ok (.invokevirtual 123, 3) := by decide +kernel
theorem dX11_street_64 : decode cX11_street 64 = .ok (.ifCond .ne 15, 3) := by decide +kernel
theorem dX11_street_67 : decode cX11_street 67 = .ok (.aload_n 0, 1) := by decide +kernel
theorem dX11_street_68 : decode cX11_street 68 = .ok (.bipush (-100), 2) := by decide +kernel
theorem dX11_street_70 : decode cX11_street 70 = .ok (.aload_n 0, 1) := by decide +kernel
theorem dX11_street_71 : decode cX11_street 71 = .ok (.getfield 84, 3) := by decide +kernel
theorem dX11_street_74 : decode cX11_street 74 = .ok (.isub, 1) := by decide +kernel
theorem dX11_street_75 : decode cX11_street 75 = .ok (.invokevirtual 114, 3) := by decide +kernel
theorem dX11_street_78 : decode cX11_street 78 = .ok (.ireturn, 1) := by decide +kernel
theorem dX11_street_79 : decode cX11_street 79 = .ok (.aload_n 0, 1) := by decide +kernel
theorem dX11_street_80 : decode cX11_street 80 = .ok (.aload_n 0, 1) := by decide +kernel
theorem dX11_street_81 : decode cX11_street 81 = .ok (.getfield 91, 3) := by decide +kernel
theorem dX11_street_84 : decode cX11_street 84 = .ok (.putfield 75, 3) := by decide +kernel
theorem dX11_street_87 : decode cX11_street 87 = .ok (.iconst 0, 1) := by decide +kernel
theorem dX11_street_88 : decode cX11_street 88 = .ok (.istore 6, 2) := by decide +kernel
theorem dX11_street_90 : decode cX11_street 90 = .ok (.iload 6, 2) := by decide +kernel
theorem dX11_street_92 : decode cX11_street 92 = .ok (.aload_n 0, 1) := by decide +kernel
theorem dX11_street_93 : decode cX11_street 93 = .ok (.getfield 75, 3) := by decide +kernel
theorem dX11_street_96 : decode cX11_street 96 = .ok (.if_icmp .ge 51, 3) := by decide +kernel
theorem dX11_street_99 : decode cX11_street 99 = .ok (.aload_n 0, 1) := by decide +kernel
theorem dX11_street_100 : decode cX11_street 100 = .ok (.getfield 7, 3) := by decide +kernel
theorem dX11_street_103 : decode cX11_street 103 = .ok (.iload 6, 2) := by decide +kernel
theorem dX11_street_105 : decode cX11_street 105 = .ok (.aload_n 0, 1) := by decide +kernel
theorem dX11_street_106 : decode cX11_street 106 = .ok (.getfield 19, 3) := by decide +kernel
theorem dX11_street_109 : decode cX11_street 109 = .ok (.iload 6, 2) := by decide +kernel
theorem dX11_street_111 : decode cX11_street 111 = .ok (.iaload, 1) := by decide +kernel
theorem dX11_street_112 : decode cX11_street 112 = .ok (.iastore, 1) := by decide +kernel
theorem dX11_street_113 : decode cX11_street 113 = .ok (.aload_n 0, 1) := by decide +kernel
theorem dX11_street_114 : decode cX11_street 114 = .ok (.getfield 13, 3) := by decide +kernel
theorem dX11_street_117 : decode cX11_street 117 = .ok (.iload 6, 2) := by decide +kernel
theorem dX11_street_119 : decode cX11_street 119 = .ok (.aload_n 0, 1) := by decide +kernel
theorem dX11_street_120 : decode cX11_street 120 = .ok (.getfield 22, 3) := by decide +kernel
theorem dX11_street_123 : decode cX11_street 123 = .ok (.iload 6, 2) := by decide +kernel
theorem dX11_street_125 : decode cX11_street 125 = .ok (.iaload, 1) := by decide +kernel
theorem dX11_street_126 : decode cX11_street 126 = .ok (.iastore, 1) := by decide +kernel
theorem dX11_street_127 : decode cX11_street 127 = .ok (.aload_n 0, 1) := by decide +kernel
theorem dX11_street_128 : decode cX11_street 128 = .ok (.getfield 16, 3) := by decide +kernel
theorem dX11_street_131 : decode cX11_street 131 = .ok (.iload 6, 2) := by decide +kernel
theorem dX11_street_133 : decode cX11_street 133 = .ok (.aload_n 0, 1) := by decide +kernel
theorem dX11_street_134 : decode cX11_street 134 = .ok (.getfield 25, 3) := by decide +kernel
theorem dX11_street_137 : decode cX11_street 137 = .ok (.iload 6, 2) := by decide +kernel
theorem dX11_street_139 : decode cX11_street 139 = .ok (.iaload, 1) := by decide +kernel
theorem dX11_street_140 : decode cX11_street 140 = .ok (.iastore, 1) := by decide +kernel
theorem dX11_street_141 : decode cX11_street 141 = .ok (.iinc 6 1, 3) := by decide +kernel
theorem dX11_street_144 : decode cX11_street 144 = .ok (.goto (-54), 3) := by decide +kernel
theorem dX11_street_147 : decode cX11_street 147 = .ok (.aload_n 0, 1) := by decide +kernel
theorem dX11_street_148 : decode cX11_street 148 = .ok (.iconst 0, 1) := by decide +kernel
theorem dX11_street_149 : decode cX11_street 149 = .ok (.putfield 126, 3) := by decide +kernel
theorem dX11_street_152 : decode cX11_street 152 = .ok (.aload_n 0, 1) := by decide +kernel
theorem dX11_street_153 : decode cX11_street 153 = .ok (.iconst 0, 1) := by decide +kernel
theorem dX11_street_154 : decode cX11_street 154 = .ok (.putfield 129, 3) := by decide +kernel
theorem dX11_street_157 : decode cX11_street 157 = .ok (.aload_n 0, 1) := by decide +kernel
theorem dX11_street_158 : decode cX11_street 158 = .ok (.iconst 0, 1) := by decide +kernel
theorem dX11_street_159 : decode cX11_street 159 = .ok (.putfield 132, 3) := by decide +kernel
theorem dX11_street_162 : decode cX11_street 162 = .ok (.aload_n 0, 1) := by decide +kernel
theorem dX11_street_163 : decode cX11_street 163 = .ok (.iconst 0, 1) := by decide +kernel
theorem dX11_street_164 : decode cX11_street 164 = .ok (.putfield 135, 3) := by decide +kernel
theorem dX11_street_167 : decode cX11_street 167 = .ok (.aload_n 0, 1) := by decide +kernel
theorem dX11_street_168 : decode cX11_street 168 = .ok (.aload_n 0, 1) := by decide +kernel
theorem dX11_street_169 : decode cX11_street 169 = .ok (.getfield 75, 3) := by decide +kernel
theorem dX11_street_172 : decode cX11_street 172 = .ok (.invokevirtual 114, 3) := by decide +kernel
theorem dX11_street_175 : decode cX11_street 175 = .ok (.ireturn, 1) := by decide +kernel
theorem dX11_daresOf_0 : decode cX11_daresOf 0 = .ok (.aload_n 0, 1) := by decide +kernel
theorem dX11_daresOf_1 : decode cX11_daresOf 1 = .ok (.getfield 13, 3) := by decide +kernel
theorem dX11_daresOf_4 : decode cX11_daresOf 4 = .ok (.iload_n 1, 1) := by decide +kernel
theorem dX11_daresOf_5 : decode cX11_daresOf 5 = .ok (.iaload, 1) := by decide +kernel
theorem dX11_daresOf_6 : decode cX11_daresOf 6 = .ok (.istore_n 2, 1) := by decide +kernel
theorem dX11_daresOf_7 : decode cX11_daresOf 7 = .ok (.aload_n 0, 1) := by decide +kernel
theorem dX11_daresOf_8 : decode cX11_daresOf 8 = .ok (.getfield 7, 3) := by decide +kernel
theorem dX11_daresOf_11 : decode cX11_daresOf 11 = .ok (.iload_n 1, 1) := by decide +kernel
theorem dX11_daresOf_12 : decode cX11_daresOf 12 = .ok (.iaload, 1) := by decide +kernel
theorem dX11_daresOf_13 : decode cX11_daresOf 13 = .ok (.ifCond .ne 7, 3) := by decide +kernel
theorem dX11_daresOf_16 : decode cX11_daresOf 16 = .ok (.iload_n 2, 1) := by decide +kernel
theorem dX11_daresOf_17 : decode cX11_daresOf 17 = .ok (.goto 24, 3) := by decide +kernel
theorem dX11_daresOf_20 : decode cX11_daresOf 20 = .ok (.aload_n 0, 1) := by decide +kernel
theorem dX11_daresOf_21 : decode cX11_daresOf 21 = .ok (.getfield 7, 3) := by decide +kernel
theorem dX11_daresOf_24 : decode cX11_daresOf 24 = .ok (.iload_n 1, 1) := by decide +kernel
theorem dX11_daresOf_25 : decode cX11_daresOf 25 = .ok (.iaload, 1) := by decide +kernel
theorem dX11_daresOf_26 : decode cX11_daresOf 26 = .ok (.iconst 1, 1) := by decide +kernel
theorem dX11_daresOf_27 : decode cX11_daresOf 27 = .ok (.if_icmp .ne 9, 3) := by decide +kernel
theorem dX11_daresOf_30 : decode cX11_daresOf 30 = .ok (.iload_n 2, 1) := by decide +kernel
theorem dX11_daresOf_31 : decode cX11_daresOf 31 = .ok (.iconst 1, 1) := by decide +kernel
theorem dX11_daresOf_32 : decode cX11_daresOf 32 = .ok (.iadd, 1) := by decide +kernel
theorem dX11_daresOf_33 : decode cX11_daresOf 33 = .ok (.goto 8, 3) := by decide +kernel
theorem dX11_daresOf_36 : decode cX11_daresOf 36 = .ok (.iconst 2, 1) := by decide +kernel
theorem dX11_daresOf_37 : decode cX11_daresOf 37 = .ok (.iload_n 2, 1) := by decide +kernel
theorem dX11_daresOf_38 : decode cX11_daresOf 38 = .ok (.iconst 1, 1) := by decide +kernel
theorem dX11_daresOf_39 : decode cX11_daresOf 39 = .ok (.iadd, 1) := by decide +kernel
theorem dX11_daresOf_40 : decode cX11_daresOf 40 = .ok (.imul, 1) := by decide +kernel
theorem dX11_daresOf_41 : decode cX11_daresOf 41 = .ok (.ireturn, 1) := by decide +kernel
theorem dX11_ofPerson_0 : decode cX11_ofPerson 0 = .ok (.aload_n 0, 1) := by decide +kernel
theorem dX11_ofPerson_1 : decode cX11_ofPerson 1 = .ok (.iload_n 1, 1) := by decide +kernel
theorem dX11_ofPerson_2 : decode cX11_ofPerson 2 = .ok (.invokevirtual 138, 3) := by decide +kernel
theorem dX11_ofPerson_5 : decode cX11_ofPerson 5 = .ok (.ifCond .eq 5, 3) := by decide +kernel
theorem dX11_ofPerson_8 : decode cX11_ofPerson 8 = .ok (.iconst (-1), 1) := by decide +kernel
theorem dX11_ofPerson_9 : decode cX11_ofPerson 9 = .ok (.ireturn, 1) := by decide +kernel
theorem dX11_ofPerson_10 : decode cX11_ofPerson 10 = .ok (.iload_n 2, 1) := by decide +kernel
theorem dX11_ofPerson_11 : decode cX11_ofPerson 11 = .ok (.tableswitch 77 0 4 #[33, 40, 47, 54, 60], 33) := by decide +kernel
theorem dX11_ofPerson_44 : decode cX11_ofPerson 44 = .ok (.aload_n 0, 1) := by decide +kernel
theorem dX11_ofPerson_45 : decode cX11_ofPerson 45 = .ok (.getfield 7, 3) := by decide +kernel
theorem dX11_ofPerson_48 : decode cX11_ofPerson 48 = .ok (.iload_n 1, 1) := by decide +kernel
theorem dX11_ofPerson_49 : decode cX11_ofPerson 49 = .ok (.iaload, 1) := by decide +kernel
theorem dX11_ofPerson_50 : decode cX11_ofPerson 50 = .ok (.ireturn, 1) := by decide +kernel
theorem dX11_ofPerson_51 : decode cX11_ofPerson 51 = .ok (.aload_n 0, 1) := by decide +kernel
theorem dX11_ofPerson_52 : decode cX11_ofPerson 52 = .ok (.getfield 13, 3) := by decide +kernel
theorem dX11_ofPerson_55 : decode cX11_ofPerson 55 = .ok (.iload_n 1, 1) := by decide +kernel
theorem dX11_ofPerson_56 : decode cX11_ofPerson 56 = .ok (.iaload, 1) := by decide +kernel
theorem dX11_ofPerson_57 : decode cX11_ofPerson 57 = .ok (.ireturn, 1) := by decide +kernel
theorem dX11_ofPerson_58 : decode cX11_ofPerson 58 = .ok (.aload_n 0, 1) := by decide +kernel
theorem dX11_ofPerson_59 : decode cX11_ofPerson 59 = .ok (.getfield 16, 3) := by decide +kernel
theorem dX11_ofPerson_62 : decode cX11_ofPerson 62 = .ok (.iload_n 1, 1) := by decide +kernel
theorem dX11_ofPerson_63 : decode cX11_ofPerson 63 = .ok (.iaload, 1) := by decide +kernel
theorem dX11_ofPerson_64 : decode cX11_ofPerson 64 = .ok (.ireturn, 1) := by decide +kernel
theorem dX11_ofPerson_65 : decode cX11_ofPerson 65 = .ok (.aload_n 0, 1) := by decide +kernel
theorem dX11_ofPerson_66 : decode cX11_ofPerson 66 = .ok (.iload_n 1, 1) := by decide +kernel
theorem dX11_ofPerson_67 : decode cX11_ofPerson 67 = .ok (.invokevirtual 141, 3) := by decide +kernel
theorem dX11_ofPerson_70 : decode cX11_ofPerson 70 = .ok (.ireturn, 1) := by decide +kernel
theorem dX11_ofPerson_71 : decode cX11_ofPerson 71 = .ok (.aload_n 0, 1) := by decide +kernel
theorem dX11_ofPerson_72 : decode cX11_ofPerson 72 = .ok (.getfield 126, 3) := by decide +kernel
theorem dX11_ofPerson_75 : decode cX11_ofPerson 75 = .ok (.iload_n 1, 1) := by decide +kernel
theorem dX11_ofPerson_76 : decode cX11_ofPerson 76 = .ok (.invokestatic 144, 3) := by decide +kernel
theorem dX11_ofPerson_79 : decode cX11_ofPerson 79 = .ok (.ifCond .eq 7, 3) := by decide +kernel
theorem dX11_ofPerson_82 : decode cX11_ofPerson 82 = .ok (.iconst 1, 1) := by decide +kernel
theorem dX11_ofPerson_83 : decode cX11_ofPerson 83 = .ok (.goto 4, 3) := by decide +kernel
theorem dX11_ofPerson_86 : decode cX11_ofPerson 86 = .ok (.iconst 0, 1) := by decide +kernel
theorem dX11_ofPerson_87 : decode cX11_ofPerson 87 = .ok (.ireturn, 1) := by decide +kernel
theorem dX11_ofPerson_88 : decode cX11_ofPerson 88 = .ok (.bipush (-2), 2) := by decide +kernel
theorem dX11_ofPerson_90 : decode cX11_ofPerson 90 = .ok (.ireturn, 1) := by decide +kernel
theorem dX11_word_0 : decode cX11_word 0 = .ok (.aload_n 0, 1) := by decide +kernel
theorem dX11_word_1 : decode cX11_word 1 = .ok (.iload_n 1, 1) := by decide +kernel
theorem dX11_word_2 : decode cX11_word 2 = .ok (.invokevirtual 138, 3) := by decide +kernel
theorem dX11_word_5 : decode cX11_word 5 = .ok (.ifCond .eq 5, 3) := by decide +kernel
theorem dX11_word_8 : decode cX11_word 8 = .ok (.iconst (-1), 1) := by decide +kernel
theorem dX11_word_9 : decode cX11_word 9 = .ok (.ireturn, 1) := by decide +kernel
theorem dX11_word_10 : decode cX11_word 10 = .ok (.iload_n 2, 1) := by decide +kernel
theorem dX11_word_11 : decode cX11_word 11 = .ok (.invokestatic 147, 3) := by decide +kernel
theorem dX11_word_14 : decode cX11_word 14 = .ok (.ifCond .ne 6, 3) := by decide +kernel
theorem dX11_word_17 : decode cX11_word 17 = .ok (.bipush (-2), 2) := by decide +kernel
theorem dX11_word_19 : decode cX11_word 19 = .ok (.ireturn, 1) := by decide +kernel
theorem dX11_word_20 : decode cX11_word 20 = .ok (.aload_n 0, 1) := by decide +kernel
theorem dX11_word_21 : decode cX11_word 21 = .ok (.getfield 129, 3) := by decide +kernel
theorem dX11_word_24 : decode cX11_word 24 = .ok (.bipush 6, 2) := by decide +kernel
theorem dX11_word_26 : decode cX11_word 26 = .ok (.if_icmp .ne 6, 3) := by decide +kernel
theorem dX11_word_29 : decode cX11_word 29 = .ok (.bipush (-4), 2) := by decide +kernel
theorem dX11_word_31 : decode cX11_word 31 = .ok (.ireturn, 1) := by decide +kernel
theorem dX11_word_32 : decode cX11_word 32 = .ok (.aload_n 0, 1) := by decide +kernel
theorem dX11_word_33 : decode cX11_word 33 = .ok (.getfield 28, 3) := by decide +kernel
theorem dX11_word_36 : decode cX11_word 36 = .ok (.aload_n 0, 1) := by decide +kernel
theorem dX11_word_37 : decode cX11_word 37 = .ok (.getfield 129, 3) := by decide +kernel
theorem dX11_word_40 : decode cX11_word 40 = .ok (.iload_n 1, 1) := by decide +kernel
theorem dX11_word_41 : decode cX11_word 41 = .ok (.iastore, 1) := by decide +kernel
theorem dX11_word_42 : decode cX11_word 42 = .ok (.aload_n 0, 1) := by decide +kernel
theorem dX11_word_43 : decode cX11_word 43 = .ok (.getfield 31, 3) := by decide +kernel
theorem dX11_word_46 : decode cX11_word 46 = .ok (.aload_n 0, 1) := by decide +kernel
theorem dX11_word_47 : decode cX11_word 47 = .ok (.getfield 129, 3) := by decide +kernel
theorem dX11_word_50 : decode cX11_word 50 = .ok (.iload_n 2, 1) := by decide +kernel
theorem dX11_word_51 : decode cX11_word 51 = .ok (.iastore, 1) := by decide +kernel
theorem dX11_word_52 : decode cX11_word 52 = .ok (.aload_n 0, 1) := by decide +kernel
theorem dX11_word_53 : decode cX11_word 53 = .ok (.dup, 1) := by decide +kernel
theorem dX11_word_54 : decode cX11_word 54 = .ok (.getfield 129, 3) := by decide +kernel
theorem dX11_word_57 : decode cX11_word 57 = .ok (.iconst 1, 1) := by decide +kernel
theorem dX11_word_58 : decode cX11_word 58 = .ok (.iadd, 1) := by decide +kernel
theorem dX11_word_59 : decode cX11_word 59 = .ok (.putfield 129, 3) := by decide +kernel
theorem dX11_word_62 : decode cX11_word 62 = .ok (.aload_n 0, 1) := by decide +kernel
theorem dX11_word_63 : decode cX11_word 63 = .ok (.getfield 129, 3) := by decide +kernel
theorem dX11_word_66 : decode cX11_word 66 = .ok (.iconst 1, 1) := by decide +kernel
theorem dX11_word_67 : decode cX11_word 67 = .ok (.isub, 1) := by decide +kernel
theorem dX11_word_68 : decode cX11_word 68 = .ok (.ireturn, 1) := by decide +kernel
theorem dX11_unsay_0 : decode cX11_unsay 0 = .ok (.iload_n 1, 1) := by decide +kernel
theorem dX11_unsay_1 : decode cX11_unsay 1 = .ok (.i2l, 1) := by decide +kernel
theorem dX11_unsay_2 : decode cX11_unsay 2 = .ok (.lconst 0, 1) := by decide +kernel
theorem dX11_unsay_3 : decode cX11_unsay 3 = .ok (.aload_n 0, 1) := by decide +kernel
theorem dX11_unsay_4 : decode cX11_unsay 4 = .ok (.getfield 129, 3) := by decide +kernel
theorem dX11_unsay_7 : decode cX11_unsay 7 = .ok (.i2l, 1) := by decide +kernel
theorem dX11_unsay_8 : decode cX11_unsay 8 = .ok (.invokestatic 78, 3) := by decide +kernel
theorem dX11_unsay_11 : decode cX11_unsay 11 = .ok (.ifCond .ne 6, 3) := by decide +kernel
theorem dX11_unsay_14 : decode cX11_unsay 14 = .ok (.bipush (-2), 2) := by decide +kernel
theorem dX11_unsay_16 : decode cX11_unsay 16 = .ok (.ireturn, 1) := by decide +kernel
theorem dX11_unsay_17 : decode cX11_unsay 17 = .ok (.aload_n 0, 1) := by decide +kernel
theorem dX11_unsay_18 : decode cX11_unsay 18 = .ok (.dup, 1) := by decide +kernel
theorem dX11_unsay_19 : decode cX11_unsay 19 = .ok (.getfield 129, 3) := by decide +kernel
theorem dX11_unsay_22 : decode cX11_unsay 22 = .ok (.iload_n 1, 1) := by decide +kernel
theorem dX11_unsay_23 : decode cX11_unsay 23 = .ok (.isub, 1) := by decide +kernel
theorem dX11_unsay_24 : decode cX11_unsay 24 = .ok (.putfield 129, 3) := by decide +kernel
theorem dX11_unsay_27 : decode cX11_unsay 27 = .ok (.aload_n 0, 1) := by decide +kernel
theorem dX11_unsay_28 : decode cX11_unsay 28 = .ok (.getfield 129, 3) := by decide +kernel
theorem dX11_unsay_31 : decode cX11_unsay 31 = .ok (.ireturn, 1) := by decide +kernel
theorem dX11_bribe_0 : decode cX11_bribe 0 = .ok (.aload_n 0, 1) := by decide +kernel
theorem dX11_bribe_1 : decode cX11_bribe 1 = .ok (.iload_n 1, 1) := by decide +kernel
theorem dX11_bribe_2 : decode cX11_bribe 2 = .ok (.invokevirtual 138, 3) := by decide +kernel
theorem dX11_bribe_5 : decode cX11_bribe 5 = .ok (.ifCond .eq 5, 3) := by decide +kernel
theorem dX11_bribe_8 : decode cX11_bribe 8 = .ok (.iconst (-1), 1) := by decide +kernel
theorem dX11_bribe_9 : decode cX11_bribe 9 = .ok (.ireturn, 1) := by decide +kernel
theorem dX11_bribe_10 : decode cX11_bribe 10 = .ok (.aload_n 0, 1) := by decide +kernel
theorem dX11_bribe_11 : decode cX11_bribe 11 = .ok (.getfield 126, 3) := by decide +kernel
theorem dX11_bribe_14 : decode cX11_bribe 14 = .ok (.iload_n 1, 1) := by decide +kernel
theorem dX11_bribe_15 : decode cX11_bribe 15 = .ok (.invokestatic 144, 3) := by decide +kernel
theorem dX11_bribe_18 : decode cX11_bribe 18 = .ok (.istore_n 3, 1) := by decide +kernel
theorem dX11_bribe_19 : decode cX11_bribe 19 = .ok (.aload_n 0, 1) := by decide +kernel
theorem dX11_bribe_20 : decode cX11_bribe 20 = .ok (.iload_n 2, 1) := by decide +kernel
theorem dX11_bribe_21 : decode cX11_bribe 21 = .ok (.ifCond .eq 14, 3) := by decide +kernel
theorem dX11_bribe_24 : decode cX11_bribe 24 = .ok (.aload_n 0, 1) := by decide +kernel
theorem dX11_bribe_25 : decode cX11_bribe 25 = .ok (.getfield 126, 3) := by decide +kernel
theorem dX11_bribe_28 : decode cX11_bribe 28 = .ok (.iconst 1, 1) := by decide +kernel
theorem dX11_bribe_29 : decode cX11_bribe 29 = .ok (.iload_n 1, 1) := by decide +kernel
theorem dX11_bribe_30 : decode cX11_bribe 30 = .ok (.ishl, 1) := by decide +kernel
theorem dX11_bribe_31 : decode cX11_bribe 31 = .ok (.ior, 1) := by decide +kernel
theorem dX11_bribe_32 : decode cX11_bribe 32 = .ok (.goto 13, 3) := by decide +kernel
theorem dX11_bribe_35 : decode cX11_bribe 35 = .ok (.aload_n 0, 1) := by decide +kernel
theorem dX11_bribe_36 : decode cX11_bribe 36 = .ok (.getfield 126, 3) := by decide +kernel
theorem dX11_bribe_39 : decode cX11_bribe 39 = .ok (.iconst 1, 1) := by decide +kernel
theorem dX11_bribe_40 : decode cX11_bribe 40 = .ok (.iload_n 1, 1) := by decide +kernel
theorem dX11_bribe_41 : decode cX11_bribe 41 = .ok (.ishl, 1) := by decide +kernel
theorem dX11_bribe_42 : decode cX11_bribe 42 = .ok (.iconst (-1), 1) := by decide +kernel
theorem dX11_bribe_43 : decode cX11_bribe 43 = .ok (.ixor, 1) := by decide +kernel
theorem dX11_bribe_44 : decode cX11_bribe 44 = .ok (.iand, 1) := by decide +kernel
theorem dX11_bribe_45 : decode cX11_bribe 45 = .ok (.putfield 126, 3) := by decide +kernel
theorem dX11_bribe_48 : decode cX11_bribe 48 = .ok (.iload_n 3, 1) := by decide +kernel
theorem dX11_bribe_49 : decode cX11_bribe 49 = .ok (.iload_n 2, 1) := by decide +kernel
theorem dX11_bribe_50 : decode cX11_bribe 50 = .ok (.if_icmp .ne 7, 3) := by decide +kernel
theorem dX11_bribe_53 : decode cX11_bribe 53 = .ok (.iconst 0, 1) := by decide +kernel
theorem dX11_bribe_54 : decode cX11_bribe 54 = .ok (.goto 4, 3) := by decide +kernel
theorem dX11_bribe_57 : decode cX11_bribe 57 = .ok (.iconst 1, 1) := by decide +kernel
theorem dX11_bribe_58 : decode cX11_bribe 58 = .ok (.ireturn, 1) := by decide +kernel
theorem dX11_whisper_0 : decode cX11_whisper 0 = .ok (.aload_n 0, 1) := by decide +kernel
theorem dX11_whisper_1 : decode cX11_whisper 1 = .ok (.iload_n 1, 1) := by decide +kernel
theorem dX11_whisper_2 : decode cX11_whisper 2 = .ok (.invokevirtual 138, 3) := by decide +kernel
theorem dX11_whisper_5 : decode cX11_whisper 5 = .ok (.ifCond .ne 16, 3) := by decide +kernel
theorem dX11_whisper_8 : decode cX11_whisper 8 = .ok (.aload_n 0, 1) := by decide +kernel
theorem dX11_whisper_9 : decode cX11_whisper 9 = .ok (.iload_n 2, 1) := by decide +kernel
theorem dX11_whisper_10 : decode cX11_whisper 10 = .ok (.invokevirtual 138, 3) := by decide +kernel
theorem dX11_whisper_13 : decode cX11_whisper 13 = .ok (.ifCond .ne 8, 3) := by decide +kernel
theorem dX11_whisper_16 : decode cX11_whisper 16 = .ok (.iload_n 1, 1) := by decide +kernel
theorem dX11_whisper_17 : decode cX11_whisper 17 = .ok (.iload_n 2, 1) := by decide +kernel
theorem dX11_whisper_18 : decode cX11_whisper 18 = .ok (.if_icmp .ne 5, 3) := by decide +kernel
theorem dX11_whisper_21 : decode cX11_whisper 21 = .ok (.iconst (-1), 1) := by decide +kernel
theorem dX11_whisper_22 : decode cX11_whisper 22 = .ok (.ireturn, 1) := by decide +kernel
theorem dX11_whisper_23 : decode cX11_whisper 23 = .ok (.aload_n 0, 1) := by decide +kernel
theorem dX11_whisper_24 : decode cX11_whisper 24 = .ok (.getfield 132, 3) := by decide +kernel
theorem dX11_whisper_27 : decode cX11_whisper 27 = .ok (.bipush 6, 2) := by decide +kernel
theorem dX11_whisper_29 : decode cX11_whisper 29 = .ok (.if_icmp .ne 6, 3) := by decide +kernel
theorem dX11_whisper_32 : decode cX11_whisper 32 = .ok (.bipush (-4), 2) := by decide +kernel
theorem dX11_whisper_34 : decode cX11_whisper 34 = .ok (.ireturn, 1) := by decide +kernel
theorem dX11_whisper_35 : decode cX11_whisper 35 = .ok (.aload_n 0, 1) := by decide +kernel
theorem dX11_whisper_36 : decode cX11_whisper 36 = .ok (.getfield 34, 3) := by decide +kernel
theorem dX11_whisper_39 : decode cX11_whisper 39 = .ok (.aload_n 0, 1) := by decide +kernel
theorem dX11_whisper_40 : decode cX11_whisper 40 = .ok (.getfield 132, 3) := by decide +kernel
theorem dX11_whisper_43 : decode cX11_whisper 43 = .ok (.iload_n 1, 1) := by decide +kernel
theorem dX11_whisper_44 : decode cX11_whisper 44 = .ok (.iastore, 1) := by decide +kernel
theorem dX11_whisper_45 : decode cX11_whisper 45 = .ok (.aload_n 0, 1) := by decide +kernel
theorem dX11_whisper_46 : decode cX11_whisper 46 = .ok (.getfield 37, 3) := by decide +kernel
theorem dX11_whisper_49 : decode cX11_whisper 49 = .ok (.aload_n 0, 1) := by decide +kernel
theorem dX11_whisper_50 : decode cX11_whisper 50 = .ok (.getfield 132, 3) := by decide +kernel
theorem dX11_whisper_53 : decode cX11_whisper 53 = .ok (.iload_n 2, 1) := by decide +kernel
theorem dX11_whisper_54 : decode cX11_whisper 54 = .ok (.iastore, 1) := by decide +kernel
theorem dX11_whisper_55 : decode cX11_whisper 55 = .ok (.aload_n 0, 1) := by decide +kernel
theorem dX11_whisper_56 : decode cX11_whisper 56 = .ok (.dup, 1) := by decide +kernel
theorem dX11_whisper_57 : decode cX11_whisper 57 = .ok (.getfield 132, 3) := by decide +kernel
theorem dX11_whisper_60 : decode cX11_whisper 60 = .ok (.iconst 1, 1) := by decide +kernel
theorem dX11_whisper_61 : decode cX11_whisper 61 = .ok (.iadd, 1) := by decide +kernel
theorem dX11_whisper_62 : decode cX11_whisper 62 = .ok (.putfield 132, 3) := by decide +kernel
theorem dX11_whisper_65 : decode cX11_whisper 65 = .ok (.aload_n 0, 1) := by decide +kernel
theorem dX11_whisper_66 : decode cX11_whisper 66 = .ok (.getfield 132, 3) := by decide +kernel
theorem dX11_whisper_69 : decode cX11_whisper 69 = .ok (.iconst 1, 1) := by decide +kernel
theorem dX11_whisper_70 : decode cX11_whisper 70 = .ok (.isub, 1) := by decide +kernel
theorem dX11_whisper_71 : decode cX11_whisper 71 = .ok (.ireturn, 1) := by decide +kernel
theorem dX11_forget_0 : decode cX11_forget 0 = .ok (.iload_n 1, 1) := by decide +kernel
theorem dX11_forget_1 : decode cX11_forget 1 = .ok (.i2l, 1) := by decide +kernel
theorem dX11_forget_2 : decode cX11_forget 2 = .ok (.lconst 0, 1) := by decide +kernel
theorem dX11_forget_3 : decode cX11_forget 3 = .ok (.aload_n 0, 1) := by decide +kernel
theorem dX11_forget_4 : decode cX11_forget 4 = .ok (.getfield 132, 3) := by decide +kernel
theorem dX11_forget_7 : decode cX11_forget 7 = .ok (.i2l, 1) := by decide +kernel
theorem dX11_forget_8 : decode cX11_forget 8 = .ok (.invokestatic 78, 3) := by decide +kernel
theorem dX11_forget_11 : decode cX11_forget 11 = .ok (.ifCond .ne 6, 3) := by decide +kernel
theorem dX11_forget_14 : decode cX11_forget 14 = .ok (.bipush (-2), 2) := by decide +kernel
theorem dX11_forget_16 : decode cX11_forget 16 = .ok (.ireturn, 1) := by decide +kernel
theorem dX11_forget_17 : decode cX11_forget 17 = .ok (.aload_n 0, 1) := by decide +kernel
theorem dX11_forget_18 : decode cX11_forget 18 = .ok (.dup, 1) := by decide +kernel
theorem dX11_forget_19 : decode cX11_forget 19 = .ok (.getfield 132, 3) := by decide +kernel
theorem dX11_forget_22 : decode cX11_forget 22 = .ok (.iload_n 1, 1) := by decide +kernel
theorem dX11_forget_23 : decode cX11_forget 23 = .ok (.isub, 1) := by decide +kernel
theorem dX11_forget_24 : decode cX11_forget 24 = .ok (.putfield 132, 3) := by decide +kernel
theorem dX11_forget_27 : decode cX11_forget 27 = .ok (.aload_n 0, 1) := by decide +kernel
theorem dX11_forget_28 : decode cX11_forget 28 = .ok (.getfield 132, 3) := by decide +kernel
theorem dX11_forget_31 : decode cX11_forget 31 = .ok (.ireturn, 1) := by decide +kernel
theorem dX11_isNear_0 : decode cX11_isNear 0 = .ok (.iload_n 1, 1) := by decide +kernel
theorem dX11_isNear_1 : decode cX11_isNear 1 = .ok (.iload_n 2, 1) := by decide +kernel
theorem dX11_isNear_2 : decode cX11_isNear 2 = .ok (.if_icmp .le 9, 3) := by decide +kernel
theorem dX11_isNear_5 : decode cX11_isNear 5 = .ok (.iload_n 1, 1) := by decide +kernel
theorem dX11_isNear_6 : decode cX11_isNear 6 = .ok (.iload_n 2, 1) := by decide +kernel
theorem dX11_isNear_7 : decode cX11_isNear 7 = .ok (.isub, 1) := by decide +kernel
theorem dX11_isNear_8 : decode cX11_isNear 8 = .ok (.goto 6, 3) := by decide +kernel
theorem dX11_isNear_11 : decode cX11_isNear 11 = .ok (.iload_n 2, 1) := by decide +kernel
theorem dX11_isNear_12 : decode cX11_isNear 12 = .ok (.iload_n 1, 1) := by decide +kernel
theorem dX11_isNear_13 : decode cX11_isNear 13 = .ok (.isub, 1) := by decide +kernel
theorem dX11_isNear_14 : decode cX11_isNear 14 = .ok (.istore_n 3, 1) := by decide +kernel
theorem dX11_isNear_15 : decode cX11_isNear 15 = .ok (.iload_n 3, 1) := by decide +kernel
theorem dX11_isNear_16 : decode cX11_isNear 16 = .ok (.aload_n 0, 1) := by decide +kernel
theorem dX11_isNear_17 : decode cX11_isNear 17 = .ok (.getfield 16, 3) := by decide +kernel
theorem dX11_isNear_20 : decode cX11_isNear 20 = .ok (.iload_n 1, 1) := by decide +kernel
theorem dX11_isNear_21 : decode cX11_isNear 21 = .ok (.iaload, 1) := by decide +kernel
theorem dX11_isNear_22 : decode cX11_isNear 22 = .ok (.if_icmp .gt 7, 3) := by decide +kernel
theorem dX11_isNear_25 : decode cX11_isNear 25 = .ok (.iconst 1, 1) := by decide +kernel
theorem dX11_isNear_26 : decode cX11_isNear 26 = .ok (.goto 4, 3) := by decide +kernel
theorem dX11_isNear_29 : decode cX11_isNear 29 = .ok (.iconst 0, 1) := by decide +kernel
theorem dX11_isNear_30 : decode cX11_isNear 30 = .ok (.ireturn, 1) := by decide +kernel
theorem dX11_heardBy_0 : decode cX11_heardBy 0 = .ok (.iconst 0, 1) := by decide +kernel
theorem dX11_heardBy_1 : decode cX11_heardBy 1 = .ok (.istore_n 3, 1) := by decide +kernel
theorem dX11_heardBy_2 : decode cX11_heardBy 2 = .ok (.iconst 0, 1) := by decide +kernel
theorem dX11_heardBy_3 : decode cX11_heardBy 3 = .ok (.istore 4, 2) := by decide +kernel
theorem dX11_heardBy_5 : decode cX11_heardBy 5 = .ok (.iload 4, 2) := by decide +kernel
theorem dX11_heardBy_7 : decode cX11_heardBy 7 = .ok (.aload_n 0, 1) := by decide +kernel
theorem dX11_heardBy_8 : decode cX11_heardBy 8 = .ok (.getfield 75, 3) := by decide +kernel
theorem dX11_heardBy_11 : decode cX11_heardBy 11 = .ok (.if_icmp .ge 41, 3) := by decide +kernel
theorem dX11_heardBy_14 : decode cX11_heardBy 14 = .ok (.iload_n 3, 1) := by decide +kernel
theorem dX11_heardBy_15 : decode cX11_heardBy 15 = .ok (.aload_n 0, 1) := by decide +kernel
theorem dX11_heardBy_16 : decode cX11_heardBy 16 = .ok (.getfield 40, 3) := by decide +kernel
theorem dX11_heardBy_19 : decode cX11_heardBy 19 = .ok (.iload 4, 2) := by decide +kernel
theorem dX11_heardBy_21 : decode cX11_heardBy 21 = .ok (.iaload, 1) := by decide +kernel
theorem dX11_heardBy_22 : decode cX11_heardBy 22 = .ok (.iload_n 2, 1) := by decide +kernel
theorem dX11_heardBy_23 : decode cX11_heardBy 23 = .ok (.if_icmp .ge 20, 3) := by decide +kernel
theorem dX11_heardBy_26 : decode cX11_heardBy 26 = .ok (.aload_n 0, 1) := by decide +kernel
theorem dX11_heardBy_27 : decode cX11_heardBy 27 = .ok (.iload_n 1, 1) := by decide +kernel
theorem dX11_heardBy_28 : decode cX11_heardBy 28 = .ok (.iload 4, 2) := by decide +kernel
theorem dX11_heardBy_30 : decode cX11_heardBy 30 = .ok (.invokevirtual 150, 3) := by decide +kernel
theorem dX11_heardBy_33 : decode cX11_heardBy 33 = .ok (.ifCond .eq 10, 3) := by decide +kernel
theorem dX11_heardBy_36 : decode cX11_heardBy 36 = .ok (.iconst 1, 1) := by decide +kernel
theorem dX11_heardBy_37 : decode cX11_heardBy 37 = .ok (.iload 4, 2) := by decide +kernel
theorem dX11_heardBy_39 : decode cX11_heardBy 39 = .ok (.ishl, 1) := by decide +kernel
theorem dX11_heardBy_40 : decode cX11_heardBy 40 = .ok (.goto 4, 3) := by decide +kernel
theorem dX11_heardBy_43 : decode cX11_heardBy 43 = .ok (.iconst 0, 1) := by decide +kernel
theorem dX11_heardBy_44 : decode cX11_heardBy 44 = .ok (.ior, 1) := by decide +kernel
theorem dX11_heardBy_45 : decode cX11_heardBy 45 = .ok (.istore_n 3, 1) := by decide +kernel
theorem dX11_heardBy_46 : decode cX11_heardBy 46 = .ok (.iinc 4 1, 3) := by decide +kernel
theorem dX11_heardBy_49 : decode cX11_heardBy 49 = .ok (.goto (-44), 3) := by decide +kernel
theorem dX11_heardBy_52 : decode cX11_heardBy 52 = .ok (.iload_n 3, 1) := by decide +kernel
theorem dX11_heardBy_53 : decode cX11_heardBy 53 = .ok (.ireturn, 1) := by decide +kernel
theorem dX11_wordsFor_0 : decode cX11_wordsFor 0 = .ok (.iconst 0, 1) := by decide +kernel
theorem dX11_wordsFor_1 : decode cX11_wordsFor 1 = .ok (.istore 4, 2) := by decide +kernel
theorem dX11_wordsFor_3 : decode cX11_wordsFor 3 = .ok (.iconst 0, 1) := by decide +kernel
theorem dX11_wordsFor_4 : decode cX11_wordsFor 4 = .ok (.istore 5, 2) := by decide +kernel
theorem dX11_wordsFor_6 : decode cX11_wordsFor 6 = .ok (.iload 5, 2) := by decide +kernel
theorem dX11_wordsFor_8 : decode cX11_wordsFor 8 = .ok (.aload_n 0, 1) := by decide +kernel
theorem dX11_wordsFor_9 : decode cX11_wordsFor 9 = .ok (.getfield 129, 3) := by decide +kernel
theorem dX11_wordsFor_12 : decode cX11_wordsFor 12 = .ok (.if_icmp .ge 51, 3) := by decide +kernel
theorem dX11_wordsFor_15 : decode cX11_wordsFor 15 = .ok (.iload 4, 2) := by decide +kernel
theorem dX11_wordsFor_17 : decode cX11_wordsFor 17 = .ok (.iload 5, 2) := by decide +kernel
theorem dX11_wordsFor_19 : decode cX11_wordsFor 19 = .ok (.iload_n 3, 1) := by decide +kernel
theorem dX11_wordsFor_20 : decode cX11_wordsFor 20 = .ok (.if_icmp .eq 33, 3) := by decide +kernel
theorem dX11_wordsFor_23 : decode cX11_wordsFor 23 = .ok (.aload_n 0, 1) := by decide +kernel
theorem dX11_wordsFor_24 : decode cX11_wordsFor 24 = .ok (.getfield 31, 3) := by decide +kernel
theorem dX11_wordsFor_27 : decode cX11_wordsFor 27 = .ok (.iload 5, 2) := by decide +kernel
theorem dX11_wordsFor_29 : decode cX11_wordsFor 29 = .ok (.iaload, 1) := by decide +kernel
theorem dX11_wordsFor_30 : decode cX11_wordsFor 30 = .ok (.iload_n 2, 1) := by decide +kernel
theorem dX11_wordsFor_31 : decode cX11_wordsFor 31 = .ok (.if_icmp .gt 22, 3) := by decide +kernel
theorem dX11_wordsFor_34 : decode cX11_wordsFor 34 = .ok (.aload_n 0, 1) := by decide +kernel
theorem dX11_wordsFor_35 : decode cX11_wordsFor 35 = .ok (.iload_n 1, 1) := by decide +kernel
theorem dX11_wordsFor_36 : decode cX11_wordsFor 36 = .ok (.aload_n 0, 1) := by decide +kernel
theorem dX11_wordsFor_37 : decode cX11_wordsFor 37 = .ok (.getfield 28, 3) := by decide +kernel
theorem dX11_wordsFor_40 : decode cX11_wordsFor 40 = .ok (.iload 5, 2) := by decide +kernel
theorem dX11_wordsFor_42 : decode cX11_wordsFor 42 = .ok (.iaload, 1) := by decide +kernel
theorem dX11_wordsFor_43 : decode cX11_wordsFor 43 = .ok (.invokevirtual 150, 3) := by decide +kernel
theorem dX11_wordsFor_46 : decode cX11_wordsFor 46 = .ok (.ifCond .eq 7, 3) := by decide +kernel
theorem dX11_wordsFor_49 : decode cX11_wordsFor 49 = .ok (.iconst 1, 1) := by decide +kernel
theorem dX11_wordsFor_50 : decode cX11_wordsFor 50 = .ok (.goto 4, 3) := by decide +kernel
theorem dX11_wordsFor_53 : decode cX11_wordsFor 53 = .ok (.iconst 0, 1) := by decide +kernel
theorem dX11_wordsFor_54 : decode cX11_wordsFor 54 = .ok (.iadd, 1) := by decide +kernel
theorem dX11_wordsFor_55 : decode cX11_wordsFor 55 = .ok (.istore 4, 2) := by decide +kernel
theorem dX11_wordsFor_57 : decode cX11_wordsFor 57 = .ok (.iinc 5 1, 3) := by decide +kernel
theorem dX11_wordsFor_60 : decode cX11_wordsFor 60 = .ok (.goto (-54), 3) := by decide +kernel
theorem dX11_wordsFor_63 : decode cX11_wordsFor 63 = .ok (.iconst 0, 1) := by decide +kernel
theorem dX11_wordsFor_64 : decode cX11_wordsFor 64 = .ok (.istore 5, 2) := by decide +kernel
theorem dX11_wordsFor_66 : decode cX11_wordsFor 66 = .ok (.iload 5, 2) := by decide +kernel
theorem dX11_wordsFor_68 : decode cX11_wordsFor 68 = .ok (.aload_n 0, 1) := by decide +kernel
theorem dX11_wordsFor_69 : decode cX11_wordsFor 69 = .ok (.getfield 75, 3) := by decide +kernel
theorem dX11_wordsFor_72 : decode cX11_wordsFor 72 = .ok (.if_icmp .ge 41, 3) := by decide +kernel
theorem dX11_wordsFor_75 : decode cX11_wordsFor 75 = .ok (.iload 4, 2) := by decide +kernel
theorem dX11_wordsFor_77 : decode cX11_wordsFor 77 = .ok (.aload_n 0, 1) := by decide +kernel
theorem dX11_wordsFor_78 : decode cX11_wordsFor 78 = .ok (.getfield 153, 3) := by decide +kernel
theorem dX11_wordsFor_81 : decode cX11_wordsFor 81 = .ok (.iload 5, 2) := by decide +kernel
theorem dX11_wordsFor_83 : decode cX11_wordsFor 83 = .ok (.invokestatic 144, 3) := by decide +kernel
theorem dX11_wordsFor_86 : decode cX11_wordsFor 86 = .ok (.ifCond .eq 17, 3) := by decide +kernel
theorem dX11_wordsFor_89 : decode cX11_wordsFor 89 = .ok (.aload_n 0, 1) := by decide +kernel
theorem dX11_wordsFor_90 : decode cX11_wordsFor 90 = .ok (.iload_n 1, 1) := by decide +kernel
theorem dX11_wordsFor_91 : decode cX11_wordsFor 91 = .ok (.iload 5, 2) := by decide +kernel
theorem dX11_wordsFor_93 : decode cX11_wordsFor 93 = .ok (.invokevirtual 150, 3) := by decide +kernel
theorem dX11_wordsFor_96 : decode cX11_wordsFor 96 = .ok (.ifCond .eq 7, 3) := by decide +kernel
theorem dX11_wordsFor_99 : decode cX11_wordsFor 99 = .ok (.iconst 1, 1) := by decide +kernel
theorem dX11_wordsFor_100 : decode cX11_wordsFor 100 = .ok (.goto 4, 3) := by decide +kernel
theorem dX11_wordsFor_103 : decode cX11_wordsFor 103 = .ok (.iconst 0, 1) := by decide +kernel
theorem dX11_wordsFor_104 : decode cX11_wordsFor 104 = .ok (.iadd, 1) := by decide +kernel
theorem dX11_wordsFor_105 : decode cX11_wordsFor 105 = .ok (.istore 4, 2) := by decide +kernel
theorem dX11_wordsFor_107 : decode cX11_wordsFor 107 = .ok (.iinc 5 1, 3) := by decide +kernel
theorem dX11_wordsFor_110 : decode cX11_wordsFor 110 = .ok (.goto (-44), 3) := by decide +kernel
theorem dX11_wordsFor_113 : decode cX11_wordsFor 113 = .ok (.iload 4, 2) := by decide +kernel
theorem dX11_wordsFor_115 : decode cX11_wordsFor 115 = .ok (.ireturn, 1) := by decide +kernel
theorem dX11_whispersOf_0 : decode cX11_whispersOf 0 = .ok (.iconst 0, 1) := by decide +kernel
theorem dX11_whispersOf_1 : decode cX11_whispersOf 1 = .ok (.istore_n 2, 1) := by decide +kernel
theorem dX11_whispersOf_2 : decode cX11_whispersOf 2 = .ok (.iconst 0, 1) := by decide +kernel
theorem dX11_whispersOf_3 : decode cX11_whispersOf 3 = .ok (.istore_n 3, 1) := by decide +kernel
theorem dX11_whispersOf_4 : decode cX11_whispersOf 4 = .ok (.iload_n 3, 1) := by decide +kernel
theorem dX11_whispersOf_5 : decode cX11_whispersOf 5 = .ok (.aload_n 0, 1) := by decide +kernel
theorem dX11_whispersOf_6 : decode cX11_whispersOf 6 = .ok (.getfield 132, 3) := by decide +kernel
theorem dX11_whispersOf_9 : decode cX11_whispersOf 9 = .ok (.if_icmp .ge 37, 3) := by decide +kernel
theorem dX11_whispersOf_12 : decode cX11_whispersOf 12 = .ok (.iload_n 2, 1) := by decide +kernel
theorem dX11_whispersOf_13 : decode cX11_whispersOf 13 = .ok (.aload_n 0, 1) := by decide +kernel
theorem dX11_whispersOf_14 : decode cX11_whispersOf 14 = .ok (.getfield 34, 3) := by decide +kernel
theorem dX11_whispersOf_17 : decode cX11_whispersOf 17 = .ok (.iload_n 3, 1) := by decide +kernel
theorem dX11_whispersOf_18 : decode cX11_whispersOf 18 = .ok (.iaload, 1) := by decide +kernel
theorem dX11_whispersOf_19 : decode cX11_whispersOf 19 = .ok (.iload_n 1, 1) := by decide +kernel
theorem dX11_whispersOf_20 : decode cX11_whispersOf 20 = .ok (.if_icmp .eq 13, 3) := by decide +kernel
theorem dX11_whispersOf_23 : decode cX11_whispersOf 23 = .ok (.aload_n 0, 1) := by decide +kernel
theorem dX11_whispersOf_24 : decode cX11_whispersOf 24 = .ok (.getfield 37, 3) := by decide +kernel
theorem dX11_whispersOf_27 : decode cX11_whispersOf 27 = .ok (.iload_n 3, 1) := by decide +kernel
theorem dX11_whispersOf_28 : decode cX11_whispersOf 28 = .ok (.iaload, 1) := by decide +kernel
theorem dX11_whispersOf_29 : decode cX11_whispersOf 29 = .ok (.iload_n 1, 1) := by decide +kernel
theorem dX11_whispersOf_30 : decode cX11_whispersOf 30 = .ok (.if_icmp .ne 7, 3) := by decide +kernel
theorem dX11_whispersOf_33 : decode cX11_whispersOf 33 = .ok (.iconst 1, 1) := by decide +kernel
theorem dX11_whispersOf_34 : decode cX11_whispersOf 34 = .ok (.goto 4, 3) := by decide +kernel
theorem dX11_whispersOf_37 : decode cX11_whispersOf 37 = .ok (.iconst 0, 1) := by decide +kernel
theorem dX11_whispersOf_38 : decode cX11_whispersOf 38 = .ok (.iadd, 1) := by decide +kernel
theorem dX11_whispersOf_39 : decode cX11_whispersOf 39 = .ok (.istore_n 2, 1) := by decide +kernel
theorem dX11_whispersOf_40 : decode cX11_whispersOf 40 = .ok (.iinc 3 1, 3) := by decide +kernel
theorem dX11_whispersOf_43 : decode cX11_whispersOf 43 = .ok (.goto (-39), 3) := by decide +kernel
theorem dX11_whispersOf_46 : decode cX11_whispersOf 46 = .ok (.iload_n 2, 1) := by decide +kernel
theorem dX11_whispersOf_47 : decode cX11_whispersOf 47 = .ok (.ireturn, 1) := by decide +kernel
theorem dX11_heldBy_0 : decode cX11_heldBy 0 = .ok (.aload_n 0, 1) := by decide +kernel
theorem dX11_heldBy_1 : decode cX11_heldBy 1 = .ok (.iload_n 1, 1) := by decide +kernel
theorem dX11_heldBy_2 : decode cX11_heldBy 2 = .ok (.iload_n 2, 1) := by decide +kernel
theorem dX11_heldBy_3 : decode cX11_heldBy 3 = .ok (.invokevirtual 156, 3) := by decide +kernel
theorem dX11_heldBy_6 : decode cX11_heldBy 6 = .ok (.invokestatic 159, 3) := by decide +kernel
theorem dX11_heldBy_9 : decode cX11_heldBy 9 = .ok (.aload_n 0, 1) := by decide +kernel
theorem dX11_heldBy_10 : decode cX11_heldBy 10 = .ok (.iload_n 1, 1) := by decide +kernel
theorem dX11_heldBy_11 : decode cX11_heldBy 11 = .ok (.iload_n 2, 1) := by decide +kernel
theorem dX11_heldBy_12 : decode cX11_heldBy 12 = .ok (.iload_n 3, 1) := by decide +kernel
theorem dX11_heldBy_13 : decode cX11_heldBy 13 = .ok (.invokevirtual 162, 3) := by decide +kernel
theorem dX11_heldBy_16 : decode cX11_heldBy 16 = .ok (.iadd, 1) := by decide +kernel
theorem dX11_heldBy_17 : decode cX11_heldBy 17 = .ok (.aload_n 0, 1) := by decide +kernel
theorem dX11_heldBy_18 : decode cX11_heldBy 18 = .ok (.iload_n 1, 1) := by decide +kernel
theorem dX11_heldBy_19 : decode cX11_heldBy 19 = .ok (.invokevirtual 165, 3) := by decide +kernel
theorem dX11_heldBy_22 : decode cX11_heldBy 22 = .ok (.iadd, 1) := by decide +kernel
theorem dX11_heldBy_23 : decode cX11_heldBy 23 = .ok (.ireturn, 1) := by decide +kernel
theorem dX11_go_0 : decode cX11_go 0 = .ok (.iconst 0, 1) := by decide +kernel
theorem dX11_go_1 : decode cX11_go 1 = .ok (.istore_n 2, 1) := by decide +kernel
theorem dX11_go_2 : decode cX11_go 2 = .ok (.iload_n 2, 1) := by decide +kernel
theorem dX11_go_3 : decode cX11_go 3 = .ok (.bipush 7, 2) := by decide +kernel
theorem dX11_go_5 : decode cX11_go 5 = .ok (.if_icmp .ge 17, 3) := by decide +kernel
theorem dX11_go_8 : decode cX11_go 8 = .ok (.aload_n 0, 1) := by decide +kernel
theorem dX11_go_9 : decode cX11_go 9 = .ok (.getfield 40, 3) := by decide +kernel
theorem dX11_go_12 : decode cX11_go 12 = .ok (.iload_n 2, 1) := by decide +kernel
theorem dX11_go_13 : decode cX11_go 13 = .ok (.bipush 99, 2) := by decide +kernel
theorem dX11_go_15 : decode cX11_go 15 = .ok (.iastore, 1) := by decide +kernel
theorem dX11_go_16 : decode cX11_go 16 = .ok (.iinc 2 1, 3) := by decide +kernel
theorem dX11_go_19 : decode cX11_go 19 = .ok (.goto (-17), 3) := by decide +kernel
theorem dX11_go_22 : decode cX11_go 22 = .ok (.iconst 0, 1) := by decide +kernel
theorem dX11_go_23 : decode cX11_go 23 = .ok (.istore_n 2, 1) := by decide +kernel
theorem dX11_go_24 : decode cX11_go 24 = .ok (.iload_n 2, 1) := by decide +kernel
theorem dX11_go_25 : decode cX11_go 25 = .ok (.bipush 40, 2) := by decide +kernel
theorem dX11_go_27 : decode cX11_go 27 = .ok (.if_icmp .ge 90, 3) := by decide +kernel
theorem dX11_go_30 : decode cX11_go 30 = .ok (.iconst 0, 1) := by decide +kernel
theorem dX11_go_31 : decode cX11_go 31 = .ok (.istore_n 3, 1) := by decide +kernel
theorem dX11_go_32 : decode cX11_go 32 = .ok (.iload_n 3, 1) := by decide +kernel
theorem dX11_go_33 : decode cX11_go 33 = .ok (.aload_n 0, 1) := by decide +kernel
theorem dX11_go_34 : decode cX11_go 34 = .ok (.getfield 75, 3) := by decide +kernel
theorem dX11_go_37 : decode cX11_go 37 = .ok (.if_icmp .ge 74, 3) := by decide +kernel
theorem dX11_go_40 : decode cX11_go 40 = .ok (.aload_n 0, 1) := by decide +kernel
theorem dX11_go_41 : decode cX11_go 41 = .ok (.getfield 40, 3) := by decide +kernel
theorem dX11_go_44 : decode cX11_go 44 = .ok (.iload_n 3, 1) := by decide +kernel
theorem dX11_go_45 : decode cX11_go 45 = .ok (.iaload, 1) := by decide +kernel
theorem dX11_go_46 : decode cX11_go 46 = .ok (.bipush 99, 2) := by decide +kernel
theorem dX11_go_48 : decode cX11_go 48 = .ok (.if_icmp .ne 18, 3) := by decide +kernel
theorem dX11_go_51 : decode cX11_go 51 = .ok (.aload_n 0, 1) := by decide +kernel
theorem dX11_go_52 : decode cX11_go 52 = .ok (.getfield 126, 3) := by decide +kernel
theorem dX11_go_55 : decode cX11_go 55 = .ok (.iload_n 3, 1) := by decide +kernel
theorem dX11_go_56 : decode cX11_go 56 = .ok (.invokestatic 144, 3) := by decide +kernel
theorem dX11_go_59 : decode cX11_go 59 = .ok (.ifCond .ne 7, 3) := by decide +kernel
theorem dX11_go_62 : decode cX11_go 62 = .ok (.iconst 1, 1) := by decide +kernel
theorem dX11_go_63 : decode cX11_go 63 = .ok (.goto 4, 3) := by decide +kernel
theorem dX11_go_66 : decode cX11_go 66 = .ok (.iconst 0, 1) := by decide +kernel
theorem dX11_go_67 : decode cX11_go 67 = .ok (.istore 4, 2) := by decide +kernel
theorem dX11_go_69 : decode cX11_go 69 = .ok (.aload_n 0, 1) := by decide +kernel
theorem dX11_go_70 : decode cX11_go 70 = .ok (.getfield 40, 3) := by decide +kernel
theorem dX11_go_73 : decode cX11_go 73 = .ok (.iload_n 3, 1) := by decide +kernel
theorem dX11_go_74 : decode cX11_go 74 = .ok (.iload 4, 2) := by decide +kernel
theorem dX11_go_76 : decode cX11_go 76 = .ok (.ifCond .eq 22, 3) := by decide +kernel
theorem dX11_go_79 : decode cX11_go 79 = .ok (.aload_n 0, 1) := by decide +kernel
theorem dX11_go_80 : decode cX11_go 80 = .ok (.iload_n 3, 1) := by decide +kernel
theorem dX11_go_81 : decode cX11_go 81 = .ok (.iload_n 2, 1) := by decide +kernel
theorem dX11_go_82 : decode cX11_go 82 = .ok (.iload_n 1, 1) := by decide +kernel
theorem dX11_go_83 : decode cX11_go 83 = .ok (.invokevirtual 168, 3) := by decide +kernel
theorem dX11_go_86 : decode cX11_go 86 = .ok (.aload_n 0, 1) := by decide +kernel
theorem dX11_go_87 : decode cX11_go 87 = .ok (.iload_n 3, 1) := by decide +kernel
theorem dX11_go_88 : decode cX11_go 88 = .ok (.invokevirtual 141, 3) := by decide +kernel
theorem dX11_go_91 : decode cX11_go 91 = .ok (.if_icmp .lt 7, 3) := by decide +kernel
theorem dX11_go_94 : decode cX11_go 94 = .ok (.iload_n 2, 1) := by decide +kernel
theorem dX11_go_95 : decode cX11_go 95 = .ok (.goto 9, 3) := by decide +kernel
theorem dX11_go_98 : decode cX11_go 98 = .ok (.aload_n 0, 1) := by decide +kernel
theorem dX11_go_99 : decode cX11_go 99 = .ok (.getfield 40, 3) := by decide +kernel
theorem dX11_go_102 : decode cX11_go 102 = .ok (.iload_n 3, 1) := by decide +kernel
theorem dX11_go_103 : decode cX11_go 103 = .ok (.iaload, 1) := by decide +kernel
theorem dX11_go_104 : decode cX11_go 104 = .ok (.iastore, 1) := by decide +kernel
theorem dX11_go_105 : decode cX11_go 105 = .ok (.iinc 3 1, 3) := by decide +kernel
theorem dX11_go_108 : decode cX11_go 108 = .ok (.goto (-76), 3) := by decide +kernel
theorem dX11_go_111 : decode cX11_go 111 = .ok (.iinc 2 1, 3) := by decide +kernel
theorem dX11_go_114 : decode cX11_go 114 = .ok (.goto (-90), 3) := by decide +kernel
theorem dX11_go_117 : decode cX11_go 117 = .ok (.return_, 1) := by decide +kernel
theorem dX11_goTold_0 : decode cX11_goTold 0 = .ok (.aload_n 0, 1) := by decide +kernel
theorem dX11_goTold_1 : decode cX11_goTold 1 = .ok (.bipush (-9), 2) := by decide +kernel
theorem dX11_goTold_3 : decode cX11_goTold 3 = .ok (.invokevirtual 171, 3) := by decide +kernel
theorem dX11_goTold_6 : decode cX11_goTold 6 = .ok (.return_, 1) := by decide +kernel
theorem dX11_says_0 : decode cX11_says 0 = .ok (.aload_n 0, 1) := by decide +kernel
theorem dX11_says_1 : decode cX11_says 1 = .ok (.iload_n 1, 1) := by decide +kernel
theorem dX11_says_2 : decode cX11_says 2 = .ok (.invokevirtual 138, 3) := by decide +kernel
theorem dX11_says_5 : decode cX11_says 5 = .ok (.ifCond .eq 5, 3) := by decide +kernel
theorem dX11_says_8 : decode cX11_says 8 = .ok (.iconst (-1), 1) := by decide +kernel
theorem dX11_says_9 : decode cX11_says 9 = .ok (.ireturn, 1) := by decide +kernel
theorem dX11_says_10 : decode cX11_says 10 = .ok (.aload_n 0, 1) := by decide +kernel
theorem dX11_says_11 : decode cX11_says 11 = .ok (.invokevirtual 175, 3) := by decide +kernel
theorem dX11_says_14 : decode cX11_says 14 = .ok (.aload_n 0, 1) := by decide +kernel
theorem dX11_says_15 : decode cX11_says 15 = .ok (.getfield 40, 3) := by decide +kernel
theorem dX11_says_18 : decode cX11_says 18 = .ok (.iload_n 1, 1) := by decide +kernel
theorem dX11_says_19 : decode cX11_says 19 = .ok (.iaload, 1) := by decide +kernel
theorem dX11_says_20 : decode cX11_says 20 = .ok (.bipush 99, 2) := by decide +kernel
theorem dX11_says_22 : decode cX11_says 22 = .ok (.if_icmp .ne 8, 3) := by decide +kernel
theorem dX11_says_25 : decode cX11_says 25 = .ok (.bipush (-9), 2) := by decide +kernel
theorem dX11_says_27 : decode cX11_says 27 = .ok (.goto 9, 3) := by decide +kernel
theorem dX11_says_30 : decode cX11_says 30 = .ok (.aload_n 0, 1) := by decide +kernel
theorem dX11_says_31 : decode cX11_says 31 = .ok (.getfield 40, 3) := by decide +kernel
theorem dX11_says_34 : decode cX11_says 34 = .ok (.iload_n 1, 1) := by decide +kernel
theorem dX11_says_35 : decode cX11_says 35 = .ok (.iaload, 1) := by decide +kernel
theorem dX11_says_36 : decode cX11_says 36 = .ok (.ireturn, 1) := by decide +kernel
theorem dX11_saidBy_0 : decode cX11_saidBy 0 = .ok (.iconst 0, 1) := by decide +kernel
theorem dX11_saidBy_1 : decode cX11_saidBy 1 = .ok (.istore_n 2, 1) := by decide +kernel
theorem dX11_saidBy_2 : decode cX11_saidBy 2 = .ok (.iconst 0, 1) := by decide +kernel
theorem dX11_saidBy_3 : decode cX11_saidBy 3 = .ok (.istore_n 3, 1) := by decide +kernel
theorem dX11_saidBy_4 : decode cX11_saidBy 4 = .ok (.iload_n 3, 1) := by decide +kernel
theorem dX11_saidBy_5 : decode cX11_saidBy 5 = .ok (.aload_n 0, 1) := by decide +kernel
theorem dX11_saidBy_6 : decode cX11_saidBy 6 = .ok (.getfield 75, 3) := by decide +kernel
theorem dX11_saidBy_9 : decode cX11_saidBy 9 = .ok (.if_icmp .ge 29, 3) := by decide +kernel
theorem dX11_saidBy_12 : decode cX11_saidBy 12 = .ok (.iload_n 2, 1) := by decide +kernel
theorem dX11_saidBy_13 : decode cX11_saidBy 13 = .ok (.aload_n 0, 1) := by decide +kernel
theorem dX11_saidBy_14 : decode cX11_saidBy 14 = .ok (.getfield 40, 3) := by decide +kernel
theorem dX11_saidBy_17 : decode cX11_saidBy 17 = .ok (.iload_n 3, 1) := by decide +kernel
theorem dX11_saidBy_18 : decode cX11_saidBy 18 = .ok (.iaload, 1) := by decide +kernel
theorem dX11_saidBy_19 : decode cX11_saidBy 19 = .ok (.iload_n 1, 1) := by decide +kernel
theorem dX11_saidBy_20 : decode cX11_saidBy 20 = .ok (.if_icmp .gt 9, 3) := by decide +kernel
theorem dX11_saidBy_23 : decode cX11_saidBy 23 = .ok (.iconst 1, 1) := by decide +kernel
theorem dX11_saidBy_24 : decode cX11_saidBy 24 = .ok (.iload_n 3, 1) := by decide +kernel
theorem dX11_saidBy_25 : decode cX11_saidBy 25 = .ok (.ishl, 1) := by decide +kernel
theorem dX11_saidBy_26 : decode cX11_saidBy 26 = .ok (.goto 4, 3) := by decide +kernel
theorem dX11_saidBy_29 : decode cX11_saidBy 29 = .ok (.iconst 0, 1) := by decide +kernel
theorem dX11_saidBy_30 : decode cX11_saidBy 30 = .ok (.ior, 1) := by decide +kernel
theorem dX11_saidBy_31 : decode cX11_saidBy 31 = .ok (.istore_n 2, 1) := by decide +kernel
theorem dX11_saidBy_32 : decode cX11_saidBy 32 = .ok (.iinc 3 1, 3) := by decide +kernel
theorem dX11_saidBy_35 : decode cX11_saidBy 35 = .ok (.goto (-31), 3) := by decide +kernel
theorem dX11_saidBy_38 : decode cX11_saidBy 38 = .ok (.iload_n 2, 1) := by decide +kernel
theorem dX11_saidBy_39 : decode cX11_saidBy 39 = .ok (.ireturn, 1) := by decide +kernel
theorem dX11_saidNow_0 : decode cX11_saidNow 0 = .ok (.aload_n 0, 1) := by decide +kernel
theorem dX11_saidNow_1 : decode cX11_saidNow 1 = .ok (.bipush 39, 2) := by decide +kernel
theorem dX11_saidNow_3 : decode cX11_saidNow 3 = .ok (.invokevirtual 178, 3) := by decide +kernel
theorem dX11_saidNow_6 : decode cX11_saidNow 6 = .ok (.ireturn, 1) := by decide +kernel
theorem dX11_crowd_0 : decode cX11_crowd 0 = .ok (.iload_n 1, 1) := by decide +kernel
theorem dX11_crowd_1 : decode cX11_crowd 1 = .ok (.invokestatic 147, 3) := by decide +kernel
theorem dX11_crowd_4 : decode cX11_crowd 4 = .ok (.ifCond .ne 6, 3) := by decide +kernel
theorem dX11_crowd_7 : decode cX11_crowd 7 = .ok (.bipush (-2), 2) := by decide +kernel
theorem dX11_crowd_9 : decode cX11_crowd 9 = .ok (.ireturn, 1) := by decide +kernel
theorem dX11_crowd_10 : decode cX11_crowd 10 = .ok (.aload_n 0, 1) := by decide +kernel
theorem dX11_crowd_11 : decode cX11_crowd 11 = .ok (.getfield 75, 3) := by decide +kernel
theorem dX11_crowd_14 : decode cX11_crowd 14 = .ok (.ifCond .ne 6, 3) := by decide +kernel
theorem dX11_crowd_17 : decode cX11_crowd 17 = .ok (.bipush (-3), 2) := by decide +kernel
theorem dX11_crowd_19 : decode cX11_crowd 19 = .ok (.ireturn, 1) := by decide +kernel
theorem dX11_crowd_20 : decode cX11_crowd 20 = .ok (.aload_n 0, 1) := by decide +kernel
theorem dX11_crowd_21 : decode cX11_crowd 21 = .ok (.invokevirtual 175, 3) := by decide +kernel
theorem dX11_crowd_24 : decode cX11_crowd 24 = .ok (.aload_n 0, 1) := by decide +kernel
theorem dX11_crowd_25 : decode cX11_crowd 25 = .ok (.iload_n 1, 1) := by decide +kernel
theorem dX11_crowd_26 : decode cX11_crowd 26 = .ok (.invokevirtual 178, 3) := by decide +kernel
theorem dX11_crowd_29 : decode cX11_crowd 29 = .ok (.ireturn, 1) := by decide +kernel
theorem dX11_heard_0 : decode cX11_heard 0 = .ok (.aload_n 0, 1) := by decide +kernel
theorem dX11_heard_1 : decode cX11_heard 1 = .ok (.iload_n 1, 1) := by decide +kernel
theorem dX11_heard_2 : decode cX11_heard 2 = .ok (.invokevirtual 138, 3) := by decide +kernel
theorem dX11_heard_5 : decode cX11_heard 5 = .ok (.ifCond .eq 5, 3) := by decide +kernel
theorem dX11_heard_8 : decode cX11_heard 8 = .ok (.iconst (-1), 1) := by decide +kernel
theorem dX11_heard_9 : decode cX11_heard 9 = .ok (.ireturn, 1) := by decide +kernel
theorem dX11_heard_10 : decode cX11_heard 10 = .ok (.iload_n 2, 1) := by decide +kernel
theorem dX11_heard_11 : decode cX11_heard 11 = .ok (.invokestatic 147, 3) := by decide +kernel
theorem dX11_heard_14 : decode cX11_heard 14 = .ok (.ifCond .eq 13, 3) := by decide +kernel
theorem dX11_heard_17 : decode cX11_heard 17 = .ok (.iload_n 3, 1) := by decide +kernel
theorem dX11_heard_18 : decode cX11_heard 18 = .ok (.i2l, 1) := by decide +kernel
theorem dX11_heard_19 : decode cX11_heard 19 = .ok (.lconst 0, 1) := by decide +kernel
theorem dX11_heard_20 : decode cX11_heard 20 = .ok (.lconst 1, 1) := by decide +kernel
theorem dX11_heard_21 : decode cX11_heard 21 = .ok (.invokestatic 78, 3) := by decide +kernel
theorem dX11_heard_24 : decode cX11_heard 24 = .ok (.ifCond .ne 6, 3) := by decide +kernel
theorem dX11_heard_27 : decode cX11_heard 27 = .ok (.bipush (-2), 2) := by decide +kernel
theorem dX11_heard_29 : decode cX11_heard 29 = .ok (.ireturn, 1) := by decide +kernel
theorem dX11_heard_30 : decode cX11_heard 30 = .ok (.aload_n 0, 1) := by decide +kernel
theorem dX11_heard_31 : decode cX11_heard 31 = .ok (.invokevirtual 175, 3) := by decide +kernel
theorem dX11_heard_34 : decode cX11_heard 34 = .ok (.iload_n 3, 1) := by decide +kernel
theorem dX11_heard_35 : decode cX11_heard 35 = .ok (.ifCond .ne 12, 3) := by decide +kernel
theorem dX11_heard_38 : decode cX11_heard 38 = .ok (.aload_n 0, 1) := by decide +kernel
theorem dX11_heard_39 : decode cX11_heard 39 = .ok (.iload_n 1, 1) := by decide +kernel
theorem dX11_heard_40 : decode cX11_heard 40 = .ok (.iload_n 2, 1) := by decide +kernel
theorem dX11_heard_41 : decode cX11_heard 41 = .ok (.invokevirtual 156, 3) := by decide +kernel
theorem dX11_heard_44 : decode cX11_heard 44 = .ok (.goto 11, 3) := by decide +kernel
theorem dX11_heard_47 : decode cX11_heard 47 = .ok (.aload_n 0, 1) := by decide +kernel
theorem dX11_heard_48 : decode cX11_heard 48 = .ok (.iload_n 1, 1) := by decide +kernel
theorem dX11_heard_49 : decode cX11_heard 49 = .ok (.iload_n 2, 1) := by decide +kernel
theorem dX11_heard_50 : decode cX11_heard 50 = .ok (.bipush (-9), 2) := by decide +kernel
theorem dX11_heard_52 : decode cX11_heard 52 = .ok (.invokevirtual 168, 3) := by decide +kernel
theorem dX11_heard_55 : decode cX11_heard 55 = .ok (.ireturn, 1) := by decide +kernel
theorem dX11_silence_0 : decode cX11_silence 0 = .ok (.aload_n 0, 1) := by decide +kernel
theorem dX11_silence_1 : decode cX11_silence 1 = .ok (.getfield 75, 3) := by decide +kernel
theorem dX11_silence_4 : decode cX11_silence 4 = .ok (.ifCond .ne 6, 3) := by decide +kernel
theorem dX11_silence_7 : decode cX11_silence 7 = .ok (.bipush (-3), 2) := by decide +kernel
theorem dX11_silence_9 : decode cX11_silence 9 = .ok (.ireturn, 1) := by decide +kernel
theorem dX11_silence_10 : decode cX11_silence 10 = .ok (.aload_n 0, 1) := by decide +kernel
theorem dX11_silence_11 : decode cX11_silence 11 = .ok (.invokevirtual 175, 3) := by decide +kernel
theorem dX11_silence_14 : decode cX11_silence 14 = .ok (.aload_n 0, 1) := by decide +kernel
theorem dX11_silence_15 : decode cX11_silence 15 = .ok (.invokevirtual 181, 3) := by decide +kernel
theorem dX11_silence_18 : decode cX11_silence 18 = .ok (.ifCond .ne 7, 3) := by decide +kernel
theorem dX11_silence_21 : decode cX11_silence 21 = .ok (.iconst 1, 1) := by decide +kernel
theorem dX11_silence_22 : decode cX11_silence 22 = .ok (.goto 4, 3) := by decide +kernel
theorem dX11_silence_25 : decode cX11_silence 25 = .ok (.iconst 0, 1) := by decide +kernel
theorem dX11_silence_26 : decode cX11_silence 26 = .ok (.ireturn, 1) := by decide +kernel
theorem dX11_noticed_0 : decode cX11_noticed 0 = .ok (.aload_n 0, 1) := by decide +kernel
theorem dX11_noticed_1 : decode cX11_noticed 1 = .ok (.getfield 75, 3) := by decide +kernel
theorem dX11_noticed_4 : decode cX11_noticed 4 = .ok (.ifCond .ne 6, 3) := by decide +kernel
theorem dX11_noticed_7 : decode cX11_noticed 7 = .ok (.bipush (-3), 2) := by decide +kernel
theorem dX11_noticed_9 : decode cX11_noticed 9 = .ok (.ireturn, 1) := by decide +kernel
theorem dX11_noticed_10 : decode cX11_noticed 10 = .ok (.aload_n 0, 1) := by decide +kernel
theorem dX11_noticed_11 : decode cX11_noticed 11 = .ok (.invokevirtual 175, 3) := by decide +kernel
theorem dX11_noticed_14 : decode cX11_noticed 14 = .ok (.iconst 0, 1) := by decide +kernel
theorem dX11_noticed_15 : decode cX11_noticed 15 = .ok (.istore_n 1, 1) := by decide +kernel
theorem dX11_noticed_16 : decode cX11_noticed 16 = .ok (.iload_n 1, 1) := by decide +kernel
theorem dX11_noticed_17 : decode cX11_noticed 17 = .ok (.bipush 40, 2) := by decide +kernel
theorem dX11_noticed_19 : decode cX11_noticed 19 = .ok (.if_icmp .ge 28, 3) := by decide +kernel
theorem dX11_noticed_22 : decode cX11_noticed 22 = .ok (.iconst 2, 1) := by decide +kernel
theorem dX11_noticed_23 : decode cX11_noticed 23 = .ok (.aload_n 0, 1) := by decide +kernel
theorem dX11_noticed_24 : decode cX11_noticed 24 = .ok (.iload_n 1, 1) := by decide +kernel
theorem dX11_noticed_25 : decode cX11_noticed 25 = .ok (.invokevirtual 178, 3) := by decide +kernel
theorem dX11_noticed_28 : decode cX11_noticed 28 = .ok (.invokestatic 159, 3) := by decide +kernel
theorem dX11_noticed_31 : decode cX11_noticed 31 = .ok (.imul, 1) := by decide +kernel
theorem dX11_noticed_32 : decode cX11_noticed 32 = .ok (.aload_n 0, 1) := by decide +kernel
theorem dX11_noticed_33 : decode cX11_noticed 33 = .ok (.getfield 75, 3) := by decide +kernel
theorem dX11_noticed_36 : decode cX11_noticed 36 = .ok (.if_icmp .lt 5, 3) := by decide +kernel
theorem dX11_noticed_39 : decode cX11_noticed 39 = .ok (.iload_n 1, 1) := by decide +kernel
theorem dX11_noticed_40 : decode cX11_noticed 40 = .ok (.ireturn, 1) := by decide +kernel
theorem dX11_noticed_41 : decode cX11_noticed 41 = .ok (.iinc 1 1, 3) := by decide +kernel
theorem dX11_noticed_44 : decode cX11_noticed 44 = .ok (.goto (-28), 3) := by decide +kernel
theorem dX11_noticed_47 : decode cX11_noticed 47 = .ok (.bipush (-9), 2) := by decide +kernel
theorem dX11_noticed_49 : decode cX11_noticed 49 = .ok (.ireturn, 1) := by decide +kernel
theorem dX11_fewest_0 : decode cX11_fewest 0 = .ok (.aload_n 0, 1) := by decide +kernel
theorem dX11_fewest_1 : decode cX11_fewest 1 = .ok (.getfield 75, 3) := by decide +kernel
theorem dX11_fewest_4 : decode cX11_fewest 4 = .ok (.ifCond .ne 6, 3) := by decide +kernel
theorem dX11_fewest_7 : decode cX11_fewest 7 = .ok (.bipush (-3), 2) := by decide +kernel
theorem dX11_fewest_9 : decode cX11_fewest 9 = .ok (.ireturn, 1) := by decide +kernel
theorem dX11_fewest_10 : decode cX11_fewest 10 = .ok (.bipush (-9), 2) := by decide +kernel
theorem dX11_fewest_12 : decode cX11_fewest 12 = .ok (.istore_n 1, 1) := by decide +kernel
theorem dX11_fewest_13 : decode cX11_fewest 13 = .ok (.iconst 0, 1) := by decide +kernel
theorem dX11_fewest_14 : decode cX11_fewest 14 = .ok (.istore_n 2, 1) := by decide +kernel
theorem dX11_fewest_15 : decode cX11_fewest 15 = .ok (.iload_n 2, 1) := by decide +kernel
theorem dX11_fewest_16 : decode cX11_fewest 16 = .ok (.aload_n 0, 1) := by decide +kernel
theorem dX11_fewest_17 : decode cX11_fewest 17 = .ok (.invokevirtual 185, 3) := by decide +kernel
theorem dX11_fewest_20 : decode cX11_fewest 20 = .ok (.if_icmp .gt 60, 3) := by decide +kernel
theorem dX11_fewest_23 : decode cX11_fewest 23 = .ok (.iload_n 1, 1) := by decide +kernel
theorem dX11_fewest_24 : decode cX11_fewest 24 = .ok (.ifCond .lt 14, 3) := by decide +kernel
theorem dX11_fewest_27 : decode cX11_fewest 27 = .ok (.iload_n 2, 1) := by decide +kernel
theorem dX11_fewest_28 : decode cX11_fewest 28 = .ok (.invokestatic 159, 3) := by decide +kernel
theorem dX11_fewest_31 : decode cX11_fewest 31 = .ok (.iload_n 1, 1) := by decide +kernel
theorem dX11_fewest_32 : decode cX11_fewest 32 = .ok (.invokestatic 159, 3) := by decide +kernel
theorem dX11_fewest_35 : decode cX11_fewest 35 = .ok (.if_icmp .ge 39, 3) := by decide +kernel
theorem dX11_fewest_38 : decode cX11_fewest 38 = .ok (.aload_n 0, 1) := by decide +kernel
theorem dX11_fewest_39 : decode cX11_fewest 39 = .ok (.iload_n 2, 1) := by decide +kernel
theorem dX11_fewest_40 : decode cX11_fewest 40 = .ok (.putfield 153, 3) := by decide +kernel
theorem dX11_fewest_43 : decode cX11_fewest 43 = .ok (.aload_n 0, 1) := by decide +kernel
theorem dX11_fewest_44 : decode cX11_fewest 44 = .ok (.invokevirtual 175, 3) := by decide +kernel
theorem dX11_fewest_47 : decode cX11_fewest 47 = .ok (.aload_n 0, 1) := by decide +kernel
theorem dX11_fewest_48 : decode cX11_fewest 48 = .ok (.invokevirtual 185, 3) := by decide +kernel
theorem dX11_fewest_51 : decode cX11_fewest 51 = .ok (.aload_n 0, 1) := by decide +kernel
theorem dX11_fewest_52 : decode cX11_fewest 52 = .ok (.getfield 126, 3) := by decide +kernel
theorem dX11_fewest_55 : decode cX11_fewest 55 = .ok (.iconst (-1), 1) := by decide +kernel
theorem dX11_fewest_56 : decode cX11_fewest 56 = .ok (.ixor, 1) := by decide +kernel
theorem dX11_fewest_57 : decode cX11_fewest 57 = .ok (.iand, 1) := by decide +kernel
theorem dX11_fewest_58 : decode cX11_fewest 58 = .ok (.aload_n 0, 1) := by decide +kernel
theorem dX11_fewest_59 : decode cX11_fewest 59 = .ok (.invokevirtual 181, 3) := by decide +kernel
theorem dX11_fewest_62 : decode cX11_fewest 62 = .ok (.iconst (-1), 1) := by decide +kernel
theorem dX11_fewest_63 : decode cX11_fewest 63 = .ok (.ixor, 1) := by decide +kernel
theorem dX11_fewest_64 : decode cX11_fewest 64 = .ok (.iand, 1) := by decide +kernel
theorem dX11_fewest_65 : decode cX11_fewest 65 = .ok (.ifCond .ne 7, 3) := by decide +kernel
theorem dX11_fewest_68 : decode cX11_fewest 68 = .ok (.iload_n 2, 1) := by decide +kernel
theorem dX11_fewest_69 : decode cX11_fewest 69 = .ok (.goto 4, 3) := by decide +kernel
theorem dX11_fewest_72 : decode cX11_fewest 72 = .ok (.iload_n 1, 1) := by decide +kernel
theorem dX11_fewest_73 : decode cX11_fewest 73 = .ok (.istore_n 1, 1) := by decide +kernel
theorem dX11_fewest_74 : decode cX11_fewest 74 = .ok (.iinc 2 1, 3) := by decide +kernel
theorem dX11_fewest_77 : decode cX11_fewest 77 = .ok (.goto (-62), 3) := by decide +kernel
theorem dX11_fewest_80 : decode cX11_fewest 80 = .ok (.aload_n 0, 1) := by decide +kernel
theorem dX11_fewest_81 : decode cX11_fewest 81 = .ok (.iconst 0, 1) := by decide +kernel
theorem dX11_fewest_82 : decode cX11_fewest 82 = .ok (.putfield 153, 3) := by decide +kernel
theorem dX11_fewest_85 : decode cX11_fewest 85 = .ok (.iload_n 1, 1) := by decide +kernel
theorem dX11_fewest_86 : decode cX11_fewest 86 = .ok (.ireturn, 1) := by decide +kernel
theorem dX11_bribes_0 : decode cX11_bribes 0 = .ok (.aload_n 0, 1) := by decide +kernel
theorem dX11_bribes_1 : decode cX11_bribes 1 = .ok (.iload_n 1, 1) := by decide +kernel
theorem dX11_bribes_2 : decode cX11_bribes 2 = .ok (.invokevirtual 138, 3) := by decide +kernel
theorem dX11_bribes_5 : decode cX11_bribes 5 = .ok (.ifCond .eq 5, 3) := by decide +kernel
theorem dX11_bribes_8 : decode cX11_bribes 8 = .ok (.iconst (-1), 1) := by decide +kernel
theorem dX11_bribes_9 : decode cX11_bribes 9 = .ok (.ireturn, 1) := by decide +kernel
theorem dX11_bribes_10 : decode cX11_bribes 10 = .ok (.aload_n 0, 1) := by decide +kernel
theorem dX11_bribes_11 : decode cX11_bribes 11 = .ok (.getfield 126, 3) := by decide +kernel
theorem dX11_bribes_14 : decode cX11_bribes 14 = .ok (.istore_n 2, 1) := by decide +kernel
theorem dX11_bribes_15 : decode cX11_bribes 15 = .ok (.bipush (-9), 2) := by decide +kernel
theorem dX11_bribes_17 : decode cX11_bribes 17 = .ok (.istore_n 3, 1) := by decide +kernel
theorem dX11_bribes_18 : decode cX11_bribes 18 = .ok (.iconst 0, 1) := by decide +kernel
theorem dX11_bribes_19 : decode cX11_bribes 19 = .ok (.istore 4, 2) := by decide +kernel
theorem dX11_bribes_21 : decode cX11_bribes 21 = .ok (.iload 4, 2) := by decide +kernel
theorem dX11_bribes_23 : decode cX11_bribes 23 = .ok (.aload_n 0, 1) := by decide +kernel
theorem dX11_bribes_24 : decode cX11_bribes 24 = .ok (.invokevirtual 185, 3) := by decide +kernel
theorem dX11_bribes_27 : decode cX11_bribes 27 = .ok (.if_icmp .gt 71, 3) := by decide +kernel
theorem dX11_bribes_30 : decode cX11_bribes 30 = .ok (.iload 4, 2) := by decide +kernel
theorem dX11_bribes_32 : decode cX11_bribes 32 = .ok (.iload_n 1, 1) := by decide +kernel
theorem dX11_bribes_33 : decode cX11_bribes 33 = .ok (.invokestatic 144, 3) := by decide +kernel
theorem dX11_bribes_36 : decode cX11_bribes 36 = .ok (.ifCond .ne 56, 3) := by decide +kernel
theorem dX11_bribes_39 : decode cX11_bribes 39 = .ok (.iload 4, 2) := by decide +kernel
theorem dX11_bribes_41 : decode cX11_bribes 41 = .ok (.iload_n 2, 1) := by decide +kernel
theorem dX11_bribes_42 : decode cX11_bribes 42 = .ok (.iand, 1) := by decide +kernel
theorem dX11_bribes_43 : decode cX11_bribes 43 = .ok (.ifCond .ne 49, 3) := by decide +kernel
theorem dX11_bribes_46 : decode cX11_bribes 46 = .ok (.iload_n 3, 1) := by decide +kernel
theorem dX11_bribes_47 : decode cX11_bribes 47 = .ok (.ifCond .lt 15, 3) := by decide +kernel
theorem dX11_bribes_50 : decode cX11_bribes 50 = .ok (.iload 4, 2) := by decide +kernel
theorem dX11_bribes_52 : decode cX11_bribes 52 = .ok (.invokestatic 159, 3) := by decide +kernel
theorem dX11_bribes_55 : decode cX11_bribes 55 = .ok (.iload_n 3, 1) := by decide +kernel
theorem dX11_bribes_56 : decode cX11_bribes 56 = .ok (.invokestatic 159, 3) := by decide +kernel
theorem dX11_bribes_59 : decode cX11_bribes 59 = .ok (.if_icmp .ge 33, 3) := by decide +kernel
theorem dX11_bribes_62 : decode cX11_bribes 62 = .ok (.aload_n 0, 1) := by decide +kernel
theorem dX11_bribes_63 : decode cX11_bribes 63 = .ok (.iload_n 2, 1) := by decide +kernel
theorem dX11_bribes_64 : decode cX11_bribes 64 = .ok (.iload 4, 2) := by decide +kernel
theorem dX11_bribes_66 : decode cX11_bribes 66 = .ok (.ior, 1) := by decide +kernel
theorem dX11_bribes_67 : decode cX11_bribes 67 = .ok (.putfield 126, 3) := by decide +kernel
theorem dX11_bribes_70 : decode cX11_bribes 70 = .ok (.aload_n 0, 1) := by decide +kernel
theorem dX11_bribes_71 : decode cX11_bribes 71 = .ok (.invokevirtual 175, 3) := by decide +kernel
theorem dX11_bribes_74 : decode cX11_bribes 74 = .ok (.aload_n 0, 1) := by decide +kernel
theorem dX11_bribes_75 : decode cX11_bribes 75 = .ok (.getfield 40, 3) := by decide +kernel
theorem dX11_bribes_78 : decode cX11_bribes 78 = .ok (.iload_n 1, 1) := by decide +kernel
theorem dX11_bribes_79 : decode cX11_bribes 79 = .ok (.iaload, 1) := by decide +kernel
theorem dX11_bribes_80 : decode cX11_bribes 80 = .ok (.bipush 99, 2) := by decide +kernel
theorem dX11_bribes_82 : decode cX11_bribes 82 = .ok (.if_icmp .ne 8, 3) := by decide +kernel
theorem dX11_bribes_85 : decode cX11_bribes 85 = .ok (.iload 4, 2) := by decide +kernel
theorem dX11_bribes_87 : decode cX11_bribes 87 = .ok (.goto 4, 3) := by decide +kernel
theorem dX11_bribes_90 : decode cX11_bribes 90 = .ok (.iload_n 3, 1) := by decide +kernel
theorem dX11_bribes_91 : decode cX11_bribes 91 = .ok (.istore_n 3, 1) := by decide +kernel
theorem dX11_bribes_92 : decode cX11_bribes 92 = .ok (.iinc 4 1, 3) := by decide +kernel
theorem dX11_bribes_95 : decode cX11_bribes 95 = .ok (.goto (-74), 3) := by decide +kernel
theorem dX11_bribes_98 : decode cX11_bribes 98 = .ok (.aload_n 0, 1) := by decide +kernel
theorem dX11_bribes_99 : decode cX11_bribes 99 = .ok (.iload_n 2, 1) := by decide +kernel
theorem dX11_bribes_100 : decode cX11_bribes 100 = .ok (.putfield 126, 3) := by decide +kernel
theorem dX11_bribes_103 : decode cX11_bribes 103 = .ok (.iload_n 3, 1) := by decide +kernel
theorem dX11_bribes_104 : decode cX11_bribes 104 = .ok (.ireturn, 1) := by decide +kernel
theorem dX11_whispers_0 : decode cX11_whispers 0 = .ok (.iload_n 1, 1) := by decide +kernel
theorem dX11_whispers_1 : decode cX11_whispers 1 = .ok (.i2l, 1) := by decide +kernel
theorem dX11_whispers_2 : decode cX11_whispers 2 = .ok (.lconst 0, 1) := by decide +kernel
theorem dX11_whispers_3 : decode cX11_whispers 3 = .ok (.lconst 1, 1) := by decide +kernel
theorem dX11_whispers_4 : decode cX11_whispers 4 = .ok (.invokestatic 78, 3) := by decide +kernel
theorem dX11_whispers_7 : decode cX11_whispers 7 = .ok (.ifCond .ne 6, 3) := by decide +kernel
theorem dX11_whispers_10 : decode cX11_whispers 10 = .ok (.bipush (-2), 2) := by decide +kernel
theorem dX11_whispers_12 : decode cX11_whispers 12 = .ok (.ireturn, 1) := by decide +kernel
theorem dX11_whispers_13 : decode cX11_whispers 13 = .ok (.aload_n 0, 1) := by decide +kernel
theorem dX11_whispers_14 : decode cX11_whispers 14 = .ok (.getfield 75, 3) := by decide +kernel
theorem dX11_whispers_17 : decode cX11_whispers 17 = .ok (.ifCond .ne 6, 3) := by decide +kernel
theorem dX11_whispers_20 : decode cX11_whispers 20 = .ok (.bipush (-3), 2) := by decide +kernel
theorem dX11_whispers_22 : decode cX11_whispers 22 = .ok (.ireturn, 1) := by decide +kernel
theorem dX11_whispers_23 : decode cX11_whispers 23 = .ok (.aload_n 0, 1) := by decide +kernel
theorem dX11_whispers_24 : decode cX11_whispers 24 = .ok (.invokevirtual 175, 3) := by decide +kernel
theorem dX11_whispers_27 : decode cX11_whispers 27 = .ok (.aload_n 0, 1) := by decide +kernel
theorem dX11_whispers_28 : decode cX11_whispers 28 = .ok (.invokevirtual 181, 3) := by decide +kernel
theorem dX11_whispers_31 : decode cX11_whispers 31 = .ok (.invokestatic 159, 3) := by decide +kernel
theorem dX11_whispers_34 : decode cX11_whispers 34 = .ok (.istore_n 2, 1) := by decide +kernel
theorem dX11_whispers_35 : decode cX11_whispers 35 = .ok (.bipush (-9), 2) := by decide +kernel
theorem dX11_whispers_37 : decode cX11_whispers 37 = .ok (.istore_n 3, 1) := by decide +kernel
theorem dX11_whispers_38 : decode cX11_whispers 38 = .ok (.aload_n 0, 1) := by decide +kernel
theorem dX11_whispers_39 : decode cX11_whispers 39 = .ok (.dup, 1) := by decide +kernel
theorem dX11_whispers_40 : decode cX11_whispers 40 = .ok (.getfield 132, 3) := by decide +kernel
theorem dX11_whispers_43 : decode cX11_whispers 43 = .ok (.iconst 1, 1) := by decide +kernel
theorem dX11_whispers_44 : decode cX11_whispers 44 = .ok (.iadd, 1) := by decide +kernel
theorem dX11_whispers_45 : decode cX11_whispers 45 = .ok (.putfield 132, 3) := by decide +kernel
theorem dX11_whispers_48 : decode cX11_whispers 48 = .ok (.iconst 0, 1) := by decide +kernel
theorem dX11_whispers_49 : decode cX11_whispers 49 = .ok (.istore 4, 2) := by decide +kernel
theorem dX11_whispers_51 : decode cX11_whispers 51 = .ok (.iload 4, 2) := by decide +kernel
theorem dX11_whispers_53 : decode cX11_whispers 53 = .ok (.aload_n 0, 1) := by decide +kernel
theorem dX11_whispers_54 : decode cX11_whispers 54 = .ok (.getfield 75, 3) := by decide +kernel
theorem dX11_whispers_57 : decode cX11_whispers 57 = .ok (.aload_n 0, 1) := by decide +kernel
theorem dX11_whispers_58 : decode cX11_whispers 58 = .ok (.getfield 75, 3) := by decide +kernel
theorem dX11_whispers_61 : decode cX11_whispers 61 = .ok (.imul, 1) := by decide +kernel
theorem dX11_whispers_62 : decode cX11_whispers 62 = .ok (.if_icmp .ge 105, 3) := by decide +kernel
theorem dX11_whispers_65 : decode cX11_whispers 65 = .ok (.iload 4, 2) := by decide +kernel
theorem dX11_whispers_67 : decode cX11_whispers 67 = .ok (.aload_n 0, 1) := by decide +kernel
theorem dX11_whispers_68 : decode cX11_whispers 68 = .ok (.getfield 75, 3) := by decide +kernel
theorem dX11_whispers_71 : decode cX11_whispers 71 = .ok (.idiv, 1) := by decide +kernel
theorem dX11_whispers_72 : decode cX11_whispers 72 = .ok (.istore 5, 2) := by decide +kernel
theorem dX11_whispers_74 : decode cX11_whispers 74 = .ok (.iload 4, 2) := by decide +kernel
theorem dX11_whispers_76 : decode cX11_whispers 76 = .ok (.aload_n 0, 1) := by decide +kernel
theorem dX11_whispers_77 : decode cX11_whispers 77 = .ok (.getfield 75, 3) := by decide +kernel
theorem dX11_whispers_80 : decode cX11_whispers 80 = .ok (.irem, 1) := by decide +kernel
theorem dX11_whispers_81 : decode cX11_whispers 81 = .ok (.istore 6, 2) := by decide +kernel
theorem dX11_whispers_83 : decode cX11_whispers 83 = .ok (.iload 5, 2) := by decide +kernel
theorem dX11_whispers_85 : decode cX11_whispers 85 = .ok (.iload 6, 2) := by decide +kernel
theorem dX11_whispers_87 : decode cX11_whispers 87 = .ok (.if_icmp .ge 74, 3) := by decide +kernel
theorem dX11_whispers_90 : decode cX11_whispers 90 = .ok (.aload_n 0, 1) := by decide +kernel
theorem dX11_whispers_91 : decode cX11_whispers 91 = .ok (.getfield 34, 3) := by decide +kernel
theorem dX11_whispers_94 : decode cX11_whispers 94 = .ok (.aload_n 0, 1) := by decide +kernel
theorem dX11_whispers_95 : decode cX11_whispers 95 = .ok (.getfield 132, 3) := by decide +kernel
theorem dX11_whispers_98 : decode cX11_whispers 98 = .ok (.iconst 1, 1) := by decide +kernel
theorem dX11_whispers_99 : decode cX11_whispers 99 = .ok (.isub, 1) := by decide +kernel
theorem dX11_whispers_100 : decode cX11_whispers 100 = .ok (.iload 5, 2) := by decide +kernel
theorem dX11_whispers_102 : decode cX11_whispers 102 = .ok (.iastore, 1) := by decide +kernel
theorem dX11_whispers_103 : decode cX11_whispers 103 = .ok (.aload_n 0, 1) := by decide +kernel
theorem dX11_whispers_104 : decode cX11_whispers 104 = .ok (.getfield 37, 3) := by decide +kernel
theorem dX11_whispers_107 : decode cX11_whispers 107 = .ok (.aload_n 0, 1) := by decide +kernel
theorem dX11_whispers_108 : decode cX11_whispers 108 = .ok (.getfield 132, 3) := by decide +kernel
theorem dX11_whispers_111 : decode cX11_whispers 111 = .ok (.iconst 1, 1) := by decide +kernel
theorem dX11_whispers_112 : decode cX11_whispers 112 = .ok (.isub, 1) := by decide +kernel
theorem dX11_whispers_113 : decode cX11_whispers 113 = .ok (.iload 6, 2) := by decide +kernel
theorem dX11_whispers_115 : decode cX11_whispers 115 = .ok (.iastore, 1) := by decide +kernel
theorem dX11_whispers_116 : decode cX11_whispers 116 = .ok (.aload_n 0, 1) := by decide +kernel
theorem dX11_whispers_117 : decode cX11_whispers 117 = .ok (.invokevirtual 175, 3) := by decide +kernel
theorem dX11_whispers_120 : decode cX11_whispers 120 = .ok (.aload_n 0, 1) := by decide +kernel
theorem dX11_whispers_121 : decode cX11_whispers 121 = .ok (.invokevirtual 181, 3) := by decide +kernel
theorem dX11_whispers_124 : decode cX11_whispers 124 = .ok (.invokestatic 159, 3) := by decide +kernel
theorem dX11_whispers_127 : decode cX11_whispers 127 = .ok (.istore 7, 2) := by decide +kernel
theorem dX11_whispers_129 : decode cX11_whispers 129 = .ok (.iload 7, 2) := by decide +kernel
theorem dX11_whispers_131 : decode cX11_whispers 131 = .ok (.iload_n 2, 1) := by decide +kernel
theorem dX11_whispers_132 : decode cX11_whispers 132 = .ok (.if_icmp .le 14, 3) := by decide +kernel
theorem dX11_whispers_135 : decode cX11_whispers 135 = .ok (.bipush 10, 2) := by decide +kernel
theorem dX11_whispers_137 : decode cX11_whispers 137 = .ok (.iload 5, 2) := by decide +kernel
theorem dX11_whispers_139 : decode cX11_whispers 139 = .ok (.imul, 1) := by decide +kernel
theorem dX11_whispers_140 : decode cX11_whispers 140 = .ok (.iload 6, 2) := by decide +kernel
theorem dX11_whispers_142 : decode cX11_whispers 142 = .ok (.iadd, 1) := by decide +kernel
theorem dX11_whispers_143 : decode cX11_whispers 143 = .ok (.goto 4, 3) := by decide +kernel
theorem dX11_whispers_146 : decode cX11_whispers 146 = .ok (.iload_n 3, 1) := by decide +kernel
theorem dX11_whispers_147 : decode cX11_whispers 147 = .ok (.istore_n 3, 1) := by decide +kernel
theorem dX11_whispers_148 : decode cX11_whispers 148 = .ok (.iload 7, 2) := by decide +kernel
theorem dX11_whispers_150 : decode cX11_whispers 150 = .ok (.iload_n 2, 1) := by decide +kernel
theorem dX11_whispers_151 : decode cX11_whispers 151 = .ok (.if_icmp .le 8, 3) := by decide +kernel
theorem dX11_whispers_154 : decode cX11_whispers 154 = .ok (.iload 7, 2) := by decide +kernel
theorem dX11_whispers_156 : decode cX11_whispers 156 = .ok (.goto 4, 3) := by decide +kernel
theorem dX11_whispers_159 : decode cX11_whispers 159 = .ok (.iload_n 2, 1) := by decide +kernel
theorem dX11_whispers_160 : decode cX11_whispers 160 = .ok (.istore_n 2, 1) := by decide +kernel
theorem dX11_whispers_161 : decode cX11_whispers 161 = .ok (.iinc 4 1, 3) := by decide +kernel
theorem dX11_whispers_164 : decode cX11_whispers 164 = .ok (.goto (-113), 3) := by decide +kernel
theorem dX11_whispers_167 : decode cX11_whispers 167 = .ok (.aload_n 0, 1) := by decide +kernel
theorem dX11_whispers_168 : decode cX11_whispers 168 = .ok (.dup, 1) := by decide +kernel
theorem dX11_whispers_169 : decode cX11_whispers 169 = .ok (.getfield 132, 3) := by decide +kernel
theorem dX11_whispers_172 : decode cX11_whispers 172 = .ok (.iconst 1, 1) := by decide +kernel
theorem dX11_whispers_173 : decode cX11_whispers 173 = .ok (.isub, 1) := by decide +kernel
theorem dX11_whispers_174 : decode cX11_whispers 174 = .ok (.putfield 132, 3) := by decide +kernel
theorem dX11_whispers_177 : decode cX11_whispers 177 = .ok (.iload_n 1, 1) := by decide +kernel
theorem dX11_whispers_178 : decode cX11_whispers 178 = .ok (.ifCond .ne 7, 3) := by decide +kernel
theorem dX11_whispers_181 : decode cX11_whispers 181 = .ok (.iload_n 3, 1) := by decide +kernel
theorem dX11_whispers_182 : decode cX11_whispers 182 = .ok (.goto 4, 3) := by decide +kernel
theorem dX11_whispers_185 : decode cX11_whispers 185 = .ok (.iload_n 2, 1) := by decide +kernel
theorem dX11_whispers_186 : decode cX11_whispers 186 = .ok (.ireturn, 1) := by decide +kernel
theorem dX11_worth_0 : decode cX11_worth 0 = .ok (.iload_n 1, 1) := by decide +kernel
theorem dX11_worth_1 : decode cX11_worth 1 = .ok (.i2l, 1) := by decide +kernel
theorem dX11_worth_2 : decode cX11_worth 2 = .ok (.lconst 0, 1) := by decide +kernel
theorem dX11_worth_3 : decode cX11_worth 3 = .ok (.aload_n 0, 1) := by decide +kernel
theorem dX11_worth_4 : decode cX11_worth 4 = .ok (.getfield 129, 3) := by decide +kernel
theorem dX11_worth_7 : decode cX11_worth 7 = .ok (.i2l, 1) := by decide +kernel
theorem dX11_worth_8 : decode cX11_worth 8 = .ok (.lconst 1, 1) := by decide +kernel
theorem dX11_worth_9 : decode cX11_worth 9 = .ok (.lsub, 1) := by decide +kernel
theorem dX11_worth_10 : decode cX11_worth 10 = .ok (.invokestatic 78, 3) := by decide +kernel
theorem dX11_worth_13 : decode cX11_worth 13 = .ok (.ifCond .ne 5, 3) := by decide +kernel
theorem dX11_worth_16 : decode cX11_worth 16 = .ok (.iconst (-1), 1) := by decide +kernel
theorem dX11_worth_17 : decode cX11_worth 17 = .ok (.ireturn, 1) := by decide +kernel
theorem dX11_worth_18 : decode cX11_worth 18 = .ok (.aload_n 0, 1) := by decide +kernel
theorem dX11_worth_19 : decode cX11_worth 19 = .ok (.invokevirtual 175, 3) := by decide +kernel
theorem dX11_worth_22 : decode cX11_worth 22 = .ok (.aload_n 0, 1) := by decide +kernel
theorem dX11_worth_23 : decode cX11_worth 23 = .ok (.invokevirtual 181, 3) := by decide +kernel
theorem dX11_worth_26 : decode cX11_worth 26 = .ok (.invokestatic 159, 3) := by decide +kernel
theorem dX11_worth_29 : decode cX11_worth 29 = .ok (.istore_n 2, 1) := by decide +kernel
theorem dX11_worth_30 : decode cX11_worth 30 = .ok (.aload_n 0, 1) := by decide +kernel
theorem dX11_worth_31 : decode cX11_worth 31 = .ok (.iload_n 1, 1) := by decide +kernel
theorem dX11_worth_32 : decode cX11_worth 32 = .ok (.invokevirtual 171, 3) := by decide +kernel
theorem dX11_worth_35 : decode cX11_worth 35 = .ok (.iload_n 2, 1) := by decide +kernel
theorem dX11_worth_36 : decode cX11_worth 36 = .ok (.aload_n 0, 1) := by decide +kernel
theorem dX11_worth_37 : decode cX11_worth 37 = .ok (.invokevirtual 181, 3) := by decide +kernel
theorem dX11_worth_40 : decode cX11_worth 40 = .ok (.invokestatic 159, 3) := by decide +kernel
theorem dX11_worth_43 : decode cX11_worth 43 = .ok (.isub, 1) := by decide +kernel
theorem dX11_worth_44 : decode cX11_worth 44 = .ok (.bipush 100, 2) := by decide +kernel
theorem dX11_worth_46 : decode cX11_worth 46 = .ok (.iadd, 1) := by decide +kernel
theorem dX11_worth_47 : decode cX11_worth 47 = .ok (.ireturn, 1) := by decide +kernel
theorem dX11_askedBy_0 : decode cX11_askedBy 0 = .ok (.iconst 0, 1) := by decide +kernel
theorem dX11_askedBy_1 : decode cX11_askedBy 1 = .ok (.istore_n 3, 1) := by decide +kernel
theorem dX11_askedBy_2 : decode cX11_askedBy 2 = .ok (.iconst 0, 1) := by decide +kernel
theorem dX11_askedBy_3 : decode cX11_askedBy 3 = .ok (.istore 4, 2) := by decide +kernel
theorem dX11_askedBy_5 : decode cX11_askedBy 5 = .ok (.iload 4, 2) := by decide +kernel
theorem dX11_askedBy_7 : decode cX11_askedBy 7 = .ok (.iload_n 2, 1) := by decide +kernel
theorem dX11_askedBy_8 : decode cX11_askedBy 8 = .ok (.if_icmp .ge 120, 3) := by decide +kernel
theorem dX11_askedBy_11 : decode cX11_askedBy 11 = .ok (.aload_n 0, 1) := by decide +kernel
theorem dX11_askedBy_12 : decode cX11_askedBy 12 = .ok (.getfield 59, 3) := by decide +kernel
theorem dX11_askedBy_15 : decode cX11_askedBy 15 = .ok (.iload_n 1, 1) := by decide +kernel
theorem dX11_askedBy_16 : decode cX11_askedBy 16 = .ok (.iload 4, 2) := by decide +kernel
theorem dX11_askedBy_18 : decode cX11_askedBy 18 = .ok (.iadd, 1) := by decide +kernel
theorem dX11_askedBy_19 : decode cX11_askedBy 19 = .ok (.iaload, 1) := by decide +kernel
theorem dX11_askedBy_20 : decode cX11_askedBy 20 = .ok (.istore 5, 2) := by decide +kernel
theorem dX11_askedBy_22 : decode cX11_askedBy 22 = .ok (.aload_n 0, 1) := by decide +kernel
theorem dX11_askedBy_23 : decode cX11_askedBy 23 = .ok (.iload 5, 2) := by decide +kernel
theorem dX11_askedBy_25 : decode cX11_askedBy 25 = .ok (.iconst 0, 1) := by decide +kernel
theorem dX11_askedBy_26 : decode cX11_askedBy 26 = .ok (.bipush (-9), 2) := by decide +kernel
theorem dX11_askedBy_28 : decode cX11_askedBy 28 = .ok (.invokevirtual 162, 3) := by decide +kernel
theorem dX11_askedBy_31 : decode cX11_askedBy 31 = .ok (.aload_n 0, 1) := by decide +kernel
theorem dX11_askedBy_32 : decode cX11_askedBy 32 = .ok (.iload 5, 2) := by decide +kernel
theorem dX11_askedBy_34 : decode cX11_askedBy 34 = .ok (.invokevirtual 165, 3) := by decide +kernel
theorem dX11_askedBy_37 : decode cX11_askedBy 37 = .ok (.iadd, 1) := by decide +kernel
theorem dX11_askedBy_38 : decode cX11_askedBy 38 = .ok (.istore 6, 2) := by decide +kernel
theorem dX11_askedBy_40 : decode cX11_askedBy 40 = .ok (.iconst 0, 1) := by decide +kernel
theorem dX11_askedBy_41 : decode cX11_askedBy 41 = .ok (.istore 7, 2) := by decide +kernel
theorem dX11_askedBy_43 : decode cX11_askedBy 43 = .ok (.iload 7, 2) := by decide +kernel
theorem dX11_askedBy_45 : decode cX11_askedBy 45 = .ok (.aload_n 0, 1) := by decide +kernel
theorem dX11_askedBy_46 : decode cX11_askedBy 46 = .ok (.getfield 75, 3) := by decide +kernel
theorem dX11_askedBy_49 : decode cX11_askedBy 49 = .ok (.if_icmp .ge 39, 3) := by decide +kernel
theorem dX11_askedBy_52 : decode cX11_askedBy 52 = .ok (.iload 6, 2) := by decide +kernel
theorem dX11_askedBy_54 : decode cX11_askedBy 54 = .ok (.iload_n 3, 1) := by decide +kernel
theorem dX11_askedBy_55 : decode cX11_askedBy 55 = .ok (.iload 7, 2) := by decide +kernel
theorem dX11_askedBy_57 : decode cX11_askedBy 57 = .ok (.invokestatic 144, 3) := by decide +kernel
theorem dX11_askedBy_60 : decode cX11_askedBy 60 = .ok (.ifCond .eq 18, 3) := by decide +kernel
theorem dX11_askedBy_63 : decode cX11_askedBy 63 = .ok (.aload_n 0, 1) := by decide +kernel
theorem dX11_askedBy_64 : decode cX11_askedBy 64 = .ok (.iload 5, 2) := by decide +kernel
theorem dX11_askedBy_66 : decode cX11_askedBy 66 = .ok (.iload 7, 2) := by decide +kernel
theorem dX11_askedBy_68 : decode cX11_askedBy 68 = .ok (.invokevirtual 150, 3) := by decide +kernel
theorem dX11_askedBy_71 : decode cX11_askedBy 71 = .ok (.ifCond .eq 7, 3) := by decide +kernel
theorem dX11_askedBy_74 : decode cX11_askedBy 74 = .ok (.iconst 1, 1) := by decide +kernel
theorem dX11_askedBy_75 : decode cX11_askedBy 75 = .ok (.goto 4, 3) := by decide +kernel
theorem dX11_askedBy_78 : decode cX11_askedBy 78 = .ok (.iconst 0, 1) := by decide +kernel
theorem dX11_askedBy_79 : decode cX11_askedBy 79 = .ok (.iadd, 1) := by decide +kernel
theorem dX11_askedBy_80 : decode cX11_askedBy 80 = .ok (.istore 6, 2) := by decide +kernel
theorem dX11_askedBy_82 : decode cX11_askedBy 82 = .ok (.iinc 7 1, 3) := by decide +kernel
theorem dX11_askedBy_85 : decode cX11_askedBy 85 = .ok (.goto (-42), 3) := by decide +kernel
theorem dX11_askedBy_88 : decode cX11_askedBy 88 = .ok (.iload_n 3, 1) := by decide +kernel
theorem dX11_askedBy_89 : decode cX11_askedBy 89 = .ok (.aload_n 0, 1) := by decide +kernel
theorem dX11_askedBy_90 : decode cX11_askedBy 90 = .ok (.getfield 126, 3) := by decide +kernel
theorem dX11_askedBy_93 : decode cX11_askedBy 93 = .ok (.iload 5, 2) := by decide +kernel
theorem dX11_askedBy_95 : decode cX11_askedBy 95 = .ok (.invokestatic 144, 3) := by decide +kernel
theorem dX11_askedBy_98 : decode cX11_askedBy 98 = .ok (.ifCond .ne 21, 3) := by decide +kernel
theorem dX11_askedBy_101 : decode cX11_askedBy 101 = .ok (.iload 6, 2) := by decide +kernel
theorem dX11_askedBy_103 : decode cX11_askedBy 103 = .ok (.aload_n 0, 1) := by decide +kernel
theorem dX11_askedBy_104 : decode cX11_askedBy 104 = .ok (.iload 5, 2) := by decide +kernel
theorem dX11_askedBy_106 : decode cX11_askedBy 106 = .ok (.invokevirtual 141, 3) := by decide +kernel
theorem dX11_askedBy_109 : decode cX11_askedBy 109 = .ok (.if_icmp .lt 10, 3) := by decide +kernel
theorem dX11_askedBy_112 : decode cX11_askedBy 112 = .ok (.iconst 1, 1) := by decide +kernel
theorem dX11_askedBy_113 : decode cX11_askedBy 113 = .ok (.iload 5, 2) := by decide +kernel
theorem dX11_askedBy_115 : decode cX11_askedBy 115 = .ok (.ishl, 1) := by decide +kernel
theorem dX11_askedBy_116 : decode cX11_askedBy 116 = .ok (.goto 4, 3) := by decide +kernel
theorem dX11_askedBy_119 : decode cX11_askedBy 119 = .ok (.iconst 0, 1) := by decide +kernel
theorem dX11_askedBy_120 : decode cX11_askedBy 120 = .ok (.ior, 1) := by decide +kernel
theorem dX11_askedBy_121 : decode cX11_askedBy 121 = .ok (.istore_n 3, 1) := by decide +kernel
theorem dX11_askedBy_122 : decode cX11_askedBy 122 = .ok (.iinc 4 1, 3) := by decide +kernel
theorem dX11_askedBy_125 : decode cX11_askedBy 125 = .ok (.goto (-120), 3) := by decide +kernel
theorem dX11_askedBy_128 : decode cX11_askedBy 128 = .ok (.iload_n 3, 1) := by decide +kernel
theorem dX11_askedBy_129 : decode cX11_askedBy 129 = .ok (.ireturn, 1) := by decide +kernel
theorem dX11_asked_0 : decode cX11_asked 0 = .ok (.iload_n 1, 1) := by decide +kernel
theorem dX11_asked_1 : decode cX11_asked 1 = .ok (.invokestatic 110, 3) := by decide +kernel
theorem dX11_asked_4 : decode cX11_asked 4 = .ok (.ifCond .eq 9, 3) := by decide +kernel
theorem dX11_asked_7 : decode cX11_asked 7 = .ok (.aload_n 0, 1) := by decide +kernel
theorem dX11_asked_8 : decode cX11_asked 8 = .ok (.iconst (-1), 1) := by decide +kernel
theorem dX11_asked_9 : decode cX11_asked 9 = .ok (.invokevirtual 114, 3) := by decide +kernel
theorem dX11_asked_12 : decode cX11_asked 12 = .ok (.ireturn, 1) := by decide +kernel
theorem dX11_asked_13 : decode cX11_asked 13 = .ok (.iload_n 2, 1) := by decide +kernel
theorem dX11_asked_14 : decode cX11_asked 14 = .ok (.i2l, 1) := by decide +kernel
theorem dX11_asked_15 : decode cX11_asked 15 = .ok (.lconst 0, 1) := by decide +kernel
theorem dX11_asked_16 : decode cX11_asked 16 = .ok (.ldc2_w 117, 3) := by decide +kernel
theorem dX11_asked_19 : decode cX11_asked 19 = .ok (.invokestatic 78, 3) := by decide +kernel
theorem dX11_asked_22 : decode cX11_asked 22 = .ok (.ifCond .ne 10, 3) := by decide +kernel
theorem dX11_asked_25 : decode cX11_asked 25 = .ok (.aload_n 0, 1) := by decide +kernel
theorem dX11_asked_26 : decode cX11_asked 26 = .ok (.bipush (-2), 2) := by decide +kernel
theorem dX11_asked_28 : decode cX11_asked 28 = .ok (.invokevirtual 114, 3) := by decide +kernel
theorem dX11_asked_31 : decode cX11_asked 31 = .ok (.ireturn, 1) := by decide +kernel
theorem dX11_asked_32 : decode cX11_asked 32 = .ok (.aload_n 0, 1) := by decide +kernel
theorem dX11_asked_33 : decode cX11_asked 33 = .ok (.getfield 75, 3) := by decide +kernel
theorem dX11_asked_36 : decode cX11_asked 36 = .ok (.ifCond .ne 10, 3) := by decide +kernel
theorem dX11_asked_39 : decode cX11_asked 39 = .ok (.aload_n 0, 1) := by decide +kernel
theorem dX11_asked_40 : decode cX11_asked 40 = .ok (.bipush (-3), 2) := by decide +kernel
theorem dX11_asked_42 : decode cX11_asked 42 = .ok (.invokevirtual 114, 3) := by decide +kernel
theorem dX11_asked_45 : decode cX11_asked 45 = .ok (.ireturn, 1) := by decide +kernel
theorem dX11_asked_46 : decode cX11_asked 46 = .ok (.aload_n 0, 1) := by decide +kernel
theorem dX11_asked_47 : decode cX11_asked 47 = .ok (.iload_n 1, 1) := by decide +kernel
theorem dX11_asked_48 : decode cX11_asked 48 = .ok (.iload_n 2, 1) := by decide +kernel
theorem dX11_asked_49 : decode cX11_asked 49 = .ok (.iload_n 3, 1) := by decide +kernel
theorem dX11_asked_50 : decode cX11_asked 50 = .ok (.iload 4, 2) := by decide +kernel
theorem dX11_asked_52 : decode cX11_asked 52 = .ok (.i2l, 1) := by decide +kernel
theorem dX11_asked_53 : decode cX11_asked 53 = .ok (.invokevirtual 119, 3) := by decide +kernel
theorem dX11_asked_56 : decode cX11_asked 56 = .ok (.istore 5, 2) := by decide +kernel
theorem dX11_asked_58 : decode cX11_asked 58 = .ok (.iload 5, 2) := by decide +kernel
theorem dX11_asked_60 : decode cX11_asked 60 = .ok (.ifCond .ge 6, 3) := by decide +kernel
theorem dX11_asked_63 : decode cX11_asked 63 = .ok (.iload 5, 2) := by decide +kernel
theorem dX11_asked_65 : decode cX11_asked 65 = .ok (.ireturn, 1) := by decide +kernel
theorem dX11_asked_66 : decode cX11_asked 66 = .ok (.iload 4, 2) := by decide +kernel
theorem dX11_asked_68 : decode cX11_asked 68 = .ok (.bipush 20, 2) := by decide +kernel
theorem dX11_asked_70 : decode cX11_asked 70 = .ok (.if_icmp .le 10, 3) := by decide +kernel
theorem dX11_asked_73 : decode cX11_asked 73 = .ok (.aload_n 0, 1) := by decide +kernel
theorem dX11_asked_74 : decode cX11_asked 74 = .ok (.bipush (-2), 2) := by decide +kernel
theorem dX11_asked_76 : decode cX11_asked 76 = .ok (.invokevirtual 114, 3) := by decide +kernel
theorem dX11_asked_79 : decode cX11_asked 79 = .ok (.ireturn, 1) := by decide +kernel
theorem dX11_asked_80 : decode cX11_asked 80 = .ok (.iconst 0, 1) := by decide +kernel
theorem dX11_asked_81 : decode cX11_asked 81 = .ok (.istore 6, 2) := by decide +kernel
theorem dX11_asked_83 : decode cX11_asked 83 = .ok (.iconst 0, 1) := by decide +kernel
theorem dX11_asked_84 : decode cX11_asked 84 = .ok (.istore 7, 2) := by decide +kernel
theorem dX11_asked_86 : decode cX11_asked 86 = .ok (.iload 7, 2) := by decide +kernel
theorem dX11_asked_88 : decode cX11_asked 88 = .ok (.iload 4, 2) := by decide +kernel
theorem dX11_asked_90 : decode cX11_asked 90 = .ok (.if_icmp .ge 59, 3) := by decide +kernel
theorem dX11_asked_93 : decode cX11_asked 93 = .ok (.aload_n 0, 1) := by decide +kernel
theorem dX11_asked_94 : decode cX11_asked 94 = .ok (.getfield 59, 3) := by decide +kernel
theorem dX11_asked_97 : decode cX11_asked 97 = .ok (.bipush 60, 2) := by decide +kernel
theorem dX11_asked_99 : decode cX11_asked 99 = .ok (.iload_n 1, 1) := by decide +kernel
theorem dX11_asked_100 : decode cX11_asked 100 = .ok (.imul, 1) := by decide +kernel
theorem dX11_asked_101 : decode cX11_asked 101 = .ok (.iload_n 3, 1) := by decide +kernel
theorem dX11_asked_102 : decode cX11_asked 102 = .ok (.iadd, 1) := by decide +kernel
theorem dX11_asked_103 : decode cX11_asked 103 = .ok (.iload 7, 2) := by decide +kernel
theorem dX11_asked_105 : decode cX11_asked 105 = .ok (.iadd, 1) := by decide +kernel
theorem dX11_asked_106 : decode cX11_asked 106 = .ok (.iaload, 1) := by decide +kernel
theorem dX11_asked_107 : decode cX11_asked 107 = .ok (.istore 8, 2) := by decide +kernel
theorem dX11_asked_109 : decode cX11_asked 109 = .ok (.aload_n 0, 1) := by decide +kernel
theorem dX11_asked_110 : decode cX11_asked 110 = .ok (.iload 8, 2) := by decide +kernel
theorem dX11_asked_112 : decode cX11_asked 112 = .ok (.invokevirtual 138, 3) := by decide +kernel
theorem dX11_asked_115 : decode cX11_asked 115 = .ok (.ifCond .ne 13, 3) := by decide +kernel
theorem dX11_asked_118 : decode cX11_asked 118 = .ok (.iload 6, 2) := by decide +kernel
theorem dX11_asked_120 : decode cX11_asked 120 = .ok (.iload 8, 2) := by decide +kernel
theorem dX11_asked_122 : decode cX11_asked 122 = .ok (.invokestatic 144, 3) := by decide +kernel
theorem dX11_asked_125 : decode cX11_asked 125 = .ok (.ifCond .eq 9, 3) := by decide +kernel
theorem dX11_asked_128 : decode cX11_asked 128 = .ok (.aload_n 0, 1) := by decide +kernel
theorem dX11_asked_129 : decode cX11_asked 129 = .ok (.iconst (-1), 1) := by decide +kernel
theorem dX11_asked_130 : decode cX11_asked 130 = .ok (.invokevirtual 114, 3) := by decide +kernel
theorem dX11_asked_133 : decode cX11_asked 133 = .ok (.ireturn, 1) := by decide +kernel
theorem dX11_asked_134 : decode cX11_asked 134 = .ok (.iload 6, 2) := by decide +kernel
theorem dX11_asked_136 : decode cX11_asked 136 = .ok (.iconst 1, 1) := by decide +kernel
theorem dX11_asked_137 : decode cX11_asked 137 = .ok (.iload 8, 2) := by decide +kernel
theorem dX11_asked_139 : decode cX11_asked 139 = .ok (.ishl, 1) := by decide +kernel
theorem dX11_asked_140 : decode cX11_asked 140 = .ok (.ior, 1) := by decide +kernel
theorem dX11_asked_141 : decode cX11_asked 141 = .ok (.istore 6, 2) := by decide +kernel
theorem dX11_asked_143 : decode cX11_asked 143 = .ok (.iinc 7 1, 3) := by decide +kernel
theorem dX11_asked_146 : decode cX11_asked 146 = .ok (.goto (-60), 3) := by decide +kernel
theorem dX11_asked_149 : decode cX11_asked 149 = .ok (.aload_n 0, 1) := by decide +kernel
theorem dX11_asked_150 : decode cX11_asked 150 = .ok (.aload_n 0, 1) := by decide +kernel
theorem dX11_asked_151 : decode cX11_asked 151 = .ok (.bipush 60, 2) := by decide +kernel
theorem dX11_asked_153 : decode cX11_asked 153 = .ok (.iload_n 1, 1) := by decide +kernel
theorem dX11_asked_154 : decode cX11_asked 154 = .ok (.imul, 1) := by decide +kernel
theorem dX11_asked_155 : decode cX11_asked 155 = .ok (.iload_n 3, 1) := by decide +kernel
theorem dX11_asked_156 : decode cX11_asked 156 = .ok (.iadd, 1) := by decide +kernel
theorem dX11_asked_157 : decode cX11_asked 157 = .ok (.iload 4, 2) := by decide +kernel
theorem dX11_asked_159 : decode cX11_asked 159 = .ok (.invokevirtual 188, 3) := by decide +kernel
theorem dX11_asked_162 : decode cX11_asked 162 = .ok (.invokevirtual 114, 3) := by decide +kernel
theorem dX11_asked_165 : decode cX11_asked 165 = .ok (.ireturn, 1) := by decide +kernel
theorem dX11_reading_0 : decode cX11_reading 0 = .ok (.aload_n 0, 1) := by decide +kernel
theorem dX11_reading_1 : decode cX11_reading 1 = .ok (.iload_n 1, 1) := by decide +kernel
theorem dX11_reading_2 : decode cX11_reading 2 = .ok (.invokevirtual 138, 3) := by decide +kernel
theorem dX11_reading_5 : decode cX11_reading 5 = .ok (.ifCond .eq 5, 3) := by decide +kernel
theorem dX11_reading_8 : decode cX11_reading 8 = .ok (.iconst (-1), 1) := by decide +kernel
theorem dX11_reading_9 : decode cX11_reading 9 = .ok (.ireturn, 1) := by decide +kernel
theorem dX11_reading_10 : decode cX11_reading 10 = .ok (.iload_n 2, 1) := by decide +kernel
theorem dX11_reading_11 : decode cX11_reading 11 = .ok (.invokestatic 147, 3) := by decide +kernel
theorem dX11_reading_14 : decode cX11_reading 14 = .ok (.ifCond .ne 6, 3) := by decide +kernel
theorem dX11_reading_17 : decode cX11_reading 17 = .ok (.bipush (-2), 2) := by decide +kernel
theorem dX11_reading_19 : decode cX11_reading 19 = .ok (.ireturn, 1) := by decide +kernel
theorem dX11_reading_20 : decode cX11_reading 20 = .ok (.aload_n 0, 1) := by decide +kernel
theorem dX11_reading_21 : decode cX11_reading 21 = .ok (.getfield 135, 3) := by decide +kernel
theorem dX11_reading_24 : decode cX11_reading 24 = .ok (.bipush 8, 2) := by decide +kernel
theorem dX11_reading_26 : decode cX11_reading 26 = .ok (.if_icmp .ne 6, 3) := by decide +kernel
theorem dX11_reading_29 : decode cX11_reading 29 = .ok (.bipush (-4), 2) := by decide +kernel
theorem dX11_reading_31 : decode cX11_reading 31 = .ok (.ireturn, 1) := by decide +kernel
theorem dX11_reading_32 : decode cX11_reading 32 = .ok (.aload_n 0, 1) := by decide +kernel
theorem dX11_reading_33 : decode cX11_reading 33 = .ok (.getfield 43, 3) := by decide +kernel
theorem dX11_reading_36 : decode cX11_reading 36 = .ok (.aload_n 0, 1) := by decide +kernel
theorem dX11_reading_37 : decode cX11_reading 37 = .ok (.getfield 135, 3) := by decide +kernel
theorem dX11_reading_40 : decode cX11_reading 40 = .ok (.iload_n 1, 1) := by decide +kernel
theorem dX11_reading_41 : decode cX11_reading 41 = .ok (.iastore, 1) := by decide +kernel
theorem dX11_reading_42 : decode cX11_reading 42 = .ok (.aload_n 0, 1) := by decide +kernel
theorem dX11_reading_43 : decode cX11_reading 43 = .ok (.getfield 46, 3) := by decide +kernel
theorem dX11_reading_46 : decode cX11_reading 46 = .ok (.aload_n 0, 1) := by decide +kernel
theorem dX11_reading_47 : decode cX11_reading 47 = .ok (.getfield 135, 3) := by decide +kernel
theorem dX11_reading_50 : decode cX11_reading 50 = .ok (.iload_n 2, 1) := by decide +kernel
theorem dX11_reading_51 : decode cX11_reading 51 = .ok (.iastore, 1) := by decide +kernel
theorem dX11_reading_52 : decode cX11_reading 52 = .ok (.aload_n 0, 1) := by decide +kernel
theorem dX11_reading_53 : decode cX11_reading 53 = .ok (.getfield 49, 3) := by decide +kernel
theorem dX11_reading_56 : decode cX11_reading 56 = .ok (.aload_n 0, 1) := by decide +kernel
theorem dX11_reading_57 : decode cX11_reading 57 = .ok (.getfield 135, 3) := by decide +kernel
theorem dX11_reading_60 : decode cX11_reading 60 = .ok (.iload_n 3, 1) := by decide +kernel
theorem dX11_reading_61 : decode cX11_reading 61 = .ok (.bastore, 1) := by decide +kernel
theorem dX11_reading_62 : decode cX11_reading 62 = .ok (.aload_n 0, 1) := by decide +kernel
theorem dX11_reading_63 : decode cX11_reading 63 = .ok (.dup, 1) := by decide +kernel
theorem dX11_reading_64 : decode cX11_reading 64 = .ok (.getfield 135, 3) := by decide +kernel
theorem dX11_reading_67 : decode cX11_reading 67 = .ok (.iconst 1, 1) := by decide +kernel
theorem dX11_reading_68 : decode cX11_reading 68 = .ok (.iadd, 1) := by decide +kernel
theorem dX11_reading_69 : decode cX11_reading 69 = .ok (.putfield 135, 3) := by decide +kernel
theorem dX11_reading_72 : decode cX11_reading 72 = .ok (.aload_n 0, 1) := by decide +kernel
theorem dX11_reading_73 : decode cX11_reading 73 = .ok (.getfield 135, 3) := by decide +kernel
theorem dX11_reading_76 : decode cX11_reading 76 = .ok (.iconst 1, 1) := by decide +kernel
theorem dX11_reading_77 : decode cX11_reading 77 = .ok (.isub, 1) := by decide +kernel
theorem dX11_reading_78 : decode cX11_reading 78 = .ok (.ireturn, 1) := by decide +kernel
theorem dX11_back_0 : decode cX11_back 0 = .ok (.iload_n 1, 1) := by decide +kernel
theorem dX11_back_1 : decode cX11_back 1 = .ok (.i2l, 1) := by decide +kernel
theorem dX11_back_2 : decode cX11_back 2 = .ok (.lconst 0, 1) := by decide +kernel
theorem dX11_back_3 : decode cX11_back 3 = .ok (.aload_n 0, 1) := by decide +kernel
theorem dX11_back_4 : decode cX11_back 4 = .ok (.getfield 135, 3) := by decide +kernel
theorem dX11_back_7 : decode cX11_back 7 = .ok (.i2l, 1) := by decide +kernel
theorem dX11_back_8 : decode cX11_back 8 = .ok (.invokestatic 78, 3) := by decide +kernel
theorem dX11_back_11 : decode cX11_back 11 = .ok (.ifCond .ne 6, 3) := by decide +kernel
theorem dX11_back_14 : decode cX11_back 14 = .ok (.bipush (-2), 2) := by decide +kernel
theorem dX11_back_16 : decode cX11_back 16 = .ok (.ireturn, 1) := by decide +kernel
theorem dX11_back_17 : decode cX11_back 17 = .ok (.aload_n 0, 1) := by decide +kernel
theorem dX11_back_18 : decode cX11_back 18 = .ok (.dup, 1) := by decide +kernel
theorem dX11_back_19 : decode cX11_back 19 = .ok (.getfield 135, 3) := by decide +kernel
theorem dX11_back_22 : decode cX11_back 22 = .ok (.iload_n 1, 1) := by decide +kernel
theorem dX11_back_23 : decode cX11_back 23 = .ok (.isub, 1) := by decide +kernel
theorem dX11_back_24 : decode cX11_back 24 = .ok (.putfield 135, 3) := by decide +kernel
theorem dX11_back_27 : decode cX11_back 27 = .ok (.aload_n 0, 1) := by decide +kernel
theorem dX11_back_28 : decode cX11_back 28 = .ok (.getfield 135, 3) := by decide +kernel
theorem dX11_back_31 : decode cX11_back 31 = .ok (.ireturn, 1) := by decide +kernel
theorem dX11_areSo_0 : decode cX11_areSo 0 = .ok (.aload_n 0, 1) := by decide +kernel
theorem dX11_areSo_1 : decode cX11_areSo 1 = .ok (.invokevirtual 175, 3) := by decide +kernel
theorem dX11_areSo_4 : decode cX11_areSo 4 = .ok (.iconst 1, 1) := by decide +kernel
theorem dX11_areSo_5 : decode cX11_areSo 5 = .ok (.istore_n 1, 1) := by decide +kernel
theorem dX11_areSo_6 : decode cX11_areSo 6 = .ok (.iconst 0, 1) := by decide +kernel
theorem dX11_areSo_7 : decode cX11_areSo 7 = .ok (.istore_n 2, 1) := by decide +kernel
theorem dX11_areSo_8 : decode cX11_areSo 8 = .ok (.iload_n 2, 1) := by decide +kernel
theorem dX11_areSo_9 : decode cX11_areSo 9 = .ok (.aload_n 0, 1) := by decide +kernel
theorem dX11_areSo_10 : decode cX11_areSo 10 = .ok (.getfield 135, 3) := by decide +kernel
theorem dX11_areSo_13 : decode cX11_areSo 13 = .ok (.if_icmp .ge 53, 3) := by decide +kernel
theorem dX11_areSo_16 : decode cX11_areSo 16 = .ok (.iload_n 1, 1) := by decide +kernel
theorem dX11_areSo_17 : decode cX11_areSo 17 = .ok (.ifCond .eq 41, 3) := by decide +kernel
theorem dX11_areSo_20 : decode cX11_areSo 20 = .ok (.aload_n 0, 1) := by decide +kernel
theorem dX11_areSo_21 : decode cX11_areSo 21 = .ok (.getfield 40, 3) := by decide +kernel
theorem dX11_areSo_24 : decode cX11_areSo 24 = .ok (.aload_n 0, 1) := by decide +kernel
theorem dX11_areSo_25 : decode cX11_areSo 25 = .ok (.getfield 43, 3) := by decide +kernel
theorem dX11_areSo_28 : decode cX11_areSo 28 = .ok (.iload_n 2, 1) := by decide +kernel
theorem dX11_areSo_29 : decode cX11_areSo 29 = .ok (.iaload, 1) := by decide +kernel
theorem dX11_areSo_30 : decode cX11_areSo 30 = .ok (.iaload, 1) := by decide +kernel
theorem dX11_areSo_31 : decode cX11_areSo 31 = .ok (.aload_n 0, 1) := by decide +kernel
theorem dX11_areSo_32 : decode cX11_areSo 32 = .ok (.getfield 46, 3) := by decide +kernel
theorem dX11_areSo_35 : decode cX11_areSo 35 = .ok (.iload_n 2, 1) := by decide +kernel
theorem dX11_areSo_36 : decode cX11_areSo 36 = .ok (.iaload, 1) := by decide +kernel
theorem dX11_areSo_37 : decode cX11_areSo 37 = .ok (.if_icmp .gt 7, 3) := by decide +kernel
theorem dX11_areSo_40 : decode cX11_areSo 40 = .ok (.iconst 1, 1) := by decide +kernel
theorem dX11_areSo_41 : decode cX11_areSo 41 = .ok (.goto 4, 3) := by decide +kernel
theorem dX11_areSo_44 : decode cX11_areSo 44 = .ok (.iconst 0, 1) := by decide +kernel
theorem dX11_areSo_45 : decode cX11_areSo 45 = .ok (.aload_n 0, 1) := by decide +kernel
theorem dX11_areSo_46 : decode cX11_areSo 46 = .ok (.getfield 49, 3) := by decide +kernel
theorem dX11_areSo_49 : decode cX11_areSo 49 = .ok (.iload_n 2, 1) := by decide +kernel
theorem dX11_areSo_50 : decode cX11_areSo 50 = .ok (.baload, 1) := by decide +kernel
theorem dX11_areSo_51 : decode cX11_areSo 51 = .ok (.if_icmp .ne 7, 3) := by decide +kernel
theorem dX11_areSo_54 : decode cX11_areSo 54 = .ok (.iconst 1, 1) := by decide +kernel
theorem dX11_areSo_55 : decode cX11_areSo 55 = .ok (.goto 4, 3) := by decide +kernel
theorem dX11_areSo_58 : decode cX11_areSo 58 = .ok (.iconst 0, 1) := by decide +kernel
theorem dX11_areSo_59 : decode cX11_areSo 59 = .ok (.istore_n 1, 1) := by decide +kernel
theorem dX11_areSo_60 : decode cX11_areSo 60 = .ok (.iinc 2 1, 3) := by decide +kernel
theorem dX11_areSo_63 : decode cX11_areSo 63 = .ok (.goto (-55), 3) := by decide +kernel
theorem dX11_areSo_66 : decode cX11_areSo 66 = .ok (.iload_n 1, 1) := by decide +kernel
theorem dX11_areSo_67 : decode cX11_areSo 67 = .ok (.ireturn, 1) := by decide +kernel
theorem dX11_where_0 : decode cX11_where 0 = .ok (.iload_n 1, 1) := by decide +kernel
theorem dX11_where_1 : decode cX11_where 1 = .ok (.invokestatic 147, 3) := by decide +kernel
theorem dX11_where_4 : decode cX11_where 4 = .ok (.ifCond .ne 6, 3) := by decide +kernel
theorem dX11_where_7 : decode cX11_where 7 = .ok (.bipush (-2), 2) := by decide +kernel
theorem dX11_where_9 : decode cX11_where 9 = .ok (.ireturn, 1) := by decide +kernel
theorem dX11_where_10 : decode cX11_where 10 = .ok (.aload_n 0, 1) := by decide +kernel
theorem dX11_where_11 : decode cX11_where 11 = .ok (.getfield 75, 3) := by decide +kernel
theorem dX11_where_14 : decode cX11_where 14 = .ok (.ifCond .ne 6, 3) := by decide +kernel
theorem dX11_where_17 : decode cX11_where 17 = .ok (.bipush (-3), 2) := by decide +kernel
theorem dX11_where_19 : decode cX11_where 19 = .ok (.ireturn, 1) := by decide +kernel
theorem dX11_where_20 : decode cX11_where 20 = .ok (.iconst 0, 1) := by decide +kernel
theorem dX11_where_21 : decode cX11_where 21 = .ok (.istore_n 2, 1) := by decide +kernel
theorem dX11_where_22 : decode cX11_where 22 = .ok (.aload_n 0, 1) := by decide +kernel
theorem dX11_where_23 : decode cX11_where 23 = .ok (.dup, 1) := by decide +kernel
theorem dX11_where_24 : decode cX11_where 24 = .ok (.getfield 129, 3) := by decide +kernel
theorem dX11_where_27 : decode cX11_where 27 = .ok (.iconst 1, 1) := by decide +kernel
theorem dX11_where_28 : decode cX11_where 28 = .ok (.iadd, 1) := by decide +kernel
theorem dX11_where_29 : decode cX11_where 29 = .ok (.putfield 129, 3) := by decide +kernel
theorem dX11_where_32 : decode cX11_where 32 = .ok (.aload_n 0, 1) := by decide +kernel
theorem dX11_where_33 : decode cX11_where 33 = .ok (.getfield 31, 3) := by decide +kernel
theorem dX11_where_36 : decode cX11_where 36 = .ok (.aload_n 0, 1) := by decide +kernel
theorem dX11_where_37 : decode cX11_where 37 = .ok (.getfield 129, 3) := by decide +kernel
theorem dX11_where_40 : decode cX11_where 40 = .ok (.iconst 1, 1) := by decide +kernel
theorem dX11_where_41 : decode cX11_where 41 = .ok (.isub, 1) := by decide +kernel
theorem dX11_where_42 : decode cX11_where 42 = .ok (.iload_n 1, 1) := by decide +kernel
theorem dX11_where_43 : decode cX11_where 43 = .ok (.iastore, 1) := by decide +kernel
theorem dX11_where_44 : decode cX11_where 44 = .ok (.iconst 0, 1) := by decide +kernel
theorem dX11_where_45 : decode cX11_where 45 = .ok (.istore_n 3, 1) := by decide +kernel
theorem dX11_where_46 : decode cX11_where 46 = .ok (.iload_n 3, 1) := by decide +kernel
theorem dX11_where_47 : decode cX11_where 47 = .ok (.aload_n 0, 1) := by decide +kernel
theorem dX11_where_48 : decode cX11_where 48 = .ok (.getfield 75, 3) := by decide +kernel
theorem dX11_where_51 : decode cX11_where 51 = .ok (.if_icmp .ge 38, 3) := by decide +kernel
theorem dX11_where_54 : decode cX11_where 54 = .ok (.aload_n 0, 1) := by decide +kernel
theorem dX11_where_55 : decode cX11_where 55 = .ok (.getfield 28, 3) := by decide +kernel
theorem dX11_where_58 : decode cX11_where 58 = .ok (.aload_n 0, 1) := by decide +kernel
theorem dX11_where_59 : decode cX11_where 59 = .ok (.getfield 129, 3) := by decide +kernel
theorem dX11_where_62 : decode cX11_where 62 = .ok (.iconst 1, 1) := by decide +kernel
theorem dX11_where_63 : decode cX11_where 63 = .ok (.isub, 1) := by decide +kernel
theorem dX11_where_64 : decode cX11_where 64 = .ok (.iload_n 3, 1) := by decide +kernel
theorem dX11_where_65 : decode cX11_where 65 = .ok (.iastore, 1) := by decide +kernel
theorem dX11_where_66 : decode cX11_where 66 = .ok (.iload_n 2, 1) := by decide +kernel
theorem dX11_where_67 : decode cX11_where 67 = .ok (.aload_n 0, 1) := by decide +kernel
theorem dX11_where_68 : decode cX11_where 68 = .ok (.invokevirtual 191, 3) := by decide +kernel
theorem dX11_where_71 : decode cX11_where 71 = .ok (.ifCond .eq 9, 3) := by decide +kernel
theorem dX11_where_74 : decode cX11_where 74 = .ok (.iconst 1, 1) := by decide +kernel
theorem dX11_where_75 : decode cX11_where 75 = .ok (.iload_n 3, 1) := by decide +kernel
theorem dX11_where_76 : decode cX11_where 76 = .ok (.ishl, 1) := by decide +kernel
theorem dX11_where_77 : decode cX11_where 77 = .ok (.goto 4, 3) := by decide +kernel
theorem dX11_where_80 : decode cX11_where 80 = .ok (.iconst 0, 1) := by decide +kernel
theorem dX11_where_81 : decode cX11_where 81 = .ok (.ior, 1) := by decide +kernel
theorem dX11_where_82 : decode cX11_where 82 = .ok (.istore_n 2, 1) := by decide +kernel
theorem dX11_where_83 : decode cX11_where 83 = .ok (.iinc 3 1, 3) := by decide +kernel
theorem dX11_where_86 : decode cX11_where 86 = .ok (.goto (-40), 3) := by decide +kernel
theorem dX11_where_89 : decode cX11_where 89 = .ok (.aload_n 0, 1) := by decide +kernel
theorem dX11_where_90 : decode cX11_where 90 = .ok (.dup, 1) := by decide +kernel
theorem dX11_where_91 : decode cX11_where 91 = .ok (.getfield 129, 3) := by decide +kernel
theorem dX11_where_94 : decode cX11_where 94 = .ok (.iconst 1, 1) := by decide +kernel
theorem dX11_where_95 : decode cX11_where 95 = .ok (.isub, 1) := by decide +kernel
theorem dX11_where_96 : decode cX11_where 96 = .ok (.putfield 129, 3) := by decide +kernel
theorem dX11_where_99 : decode cX11_where 99 = .ok (.iload_n 2, 1) := by decide +kernel
theorem dX11_where_100 : decode cX11_where 100 = .ok (.ireturn, 1) := by decide +kernel
theorem dX11_paid_0 : decode cX11_paid 0 = .ok (.aload_n 0, 1) := by decide +kernel
theorem dX11_paid_1 : decode cX11_paid 1 = .ok (.getfield 75, 3) := by decide +kernel
theorem dX11_paid_4 : decode cX11_paid 4 = .ok (.ifCond .ne 6, 3) := by decide +kernel
theorem dX11_paid_7 : decode cX11_paid 7 = .ok (.bipush (-3), 2) := by decide +kernel
theorem dX11_paid_9 : decode cX11_paid 9 = .ok (.ireturn, 1) := by decide +kernel
theorem dX11_paid_10 : decode cX11_paid 10 = .ok (.aload_n 0, 1) := by decide +kernel
theorem dX11_paid_11 : decode cX11_paid 11 = .ok (.getfield 126, 3) := by decide +kernel
theorem dX11_paid_14 : decode cX11_paid 14 = .ok (.istore_n 1, 1) := by decide +kernel
theorem dX11_paid_15 : decode cX11_paid 15 = .ok (.iconst 0, 1) := by decide +kernel
theorem dX11_paid_16 : decode cX11_paid 16 = .ok (.istore_n 2, 1) := by decide +kernel
theorem dX11_paid_17 : decode cX11_paid 17 = .ok (.iconst 0, 1) := by decide +kernel
theorem dX11_paid_18 : decode cX11_paid 18 = .ok (.istore_n 3, 1) := by decide +kernel
theorem dX11_paid_19 : decode cX11_paid 19 = .ok (.iload_n 3, 1) := by decide +kernel
theorem dX11_paid_20 : decode cX11_paid 20 = .ok (.aload_n 0, 1) := by decide +kernel
theorem dX11_paid_21 : decode cX11_paid 21 = .ok (.getfield 75, 3) := by decide +kernel
theorem dX11_paid_24 : decode cX11_paid 24 = .ok (.if_icmp .ge 35, 3) := by decide +kernel
theorem dX11_paid_27 : decode cX11_paid 27 = .ok (.aload_n 0, 1) := by decide +kernel
theorem dX11_paid_28 : decode cX11_paid 28 = .ok (.iload_n 1, 1) := by decide +kernel
theorem dX11_paid_29 : decode cX11_paid 29 = .ok (.iconst 1, 1) := by decide +kernel
theorem dX11_paid_30 : decode cX11_paid 30 = .ok (.iload_n 3, 1) := by decide +kernel
theorem dX11_paid_31 : decode cX11_paid 31 = .ok (.ishl, 1) := by decide +kernel
theorem dX11_paid_32 : decode cX11_paid 32 = .ok (.ior, 1) := by decide +kernel
theorem dX11_paid_33 : decode cX11_paid 33 = .ok (.putfield 126, 3) := by decide +kernel
theorem dX11_paid_36 : decode cX11_paid 36 = .ok (.iload_n 2, 1) := by decide +kernel
theorem dX11_paid_37 : decode cX11_paid 37 = .ok (.aload_n 0, 1) := by decide +kernel
theorem dX11_paid_38 : decode cX11_paid 38 = .ok (.invokevirtual 191, 3) := by decide +kernel
theorem dX11_paid_41 : decode cX11_paid 41 = .ok (.ifCond .eq 9, 3) := by decide +kernel
theorem dX11_paid_44 : decode cX11_paid 44 = .ok (.iconst 1, 1) := by decide +kernel
theorem dX11_paid_45 : decode cX11_paid 45 = .ok (.iload_n 3, 1) := by decide +kernel
theorem dX11_paid_46 : decode cX11_paid 46 = .ok (.ishl, 1) := by decide +kernel
theorem dX11_paid_47 : decode cX11_paid 47 = .ok (.goto 4, 3) := by decide +kernel
theorem dX11_paid_50 : decode cX11_paid 50 = .ok (.iconst 0, 1) := by decide +kernel
theorem dX11_paid_51 : decode cX11_paid 51 = .ok (.ior, 1) := by decide +kernel
theorem dX11_paid_52 : decode cX11_paid 52 = .ok (.istore_n 2, 1) := by decide +kernel
theorem dX11_paid_53 : decode cX11_paid 53 = .ok (.iinc 3 1, 3) := by decide +kernel
theorem dX11_paid_56 : decode cX11_paid 56 = .ok (.goto (-37), 3) := by decide +kernel
theorem dX11_paid_59 : decode cX11_paid 59 = .ok (.aload_n 0, 1) := by decide +kernel
theorem dX11_paid_60 : decode cX11_paid 60 = .ok (.iload_n 1, 1) := by decide +kernel
theorem dX11_paid_61 : decode cX11_paid 61 = .ok (.putfield 126, 3) := by decide +kernel
theorem dX11_paid_64 : decode cX11_paid 64 = .ok (.iload_n 2, 1) := by decide +kernel
theorem dX11_paid_65 : decode cX11_paid 65 = .ok (.ireturn, 1) := by decide +kernel
theorem dX11_odds_0 : decode cX11_odds 0 = .ok (.aload_n 0, 1) := by decide +kernel
theorem dX11_odds_1 : decode cX11_odds 1 = .ok (.iload_n 1, 1) := by decide +kernel
theorem dX11_odds_2 : decode cX11_odds 2 = .ok (.invokevirtual 138, 3) := by decide +kernel
theorem dX11_odds_5 : decode cX11_odds 5 = .ok (.ifCond .ne 20, 3) := by decide +kernel
theorem dX11_odds_8 : decode cX11_odds 8 = .ok (.iload_n 2, 1) := by decide +kernel
theorem dX11_odds_9 : decode cX11_odds 9 = .ok (.invokestatic 147, 3) := by decide +kernel
theorem dX11_odds_12 : decode cX11_odds 12 = .ok (.ifCond .eq 13, 3) := by decide +kernel
theorem dX11_odds_15 : decode cX11_odds 15 = .ok (.iload_n 3, 1) := by decide +kernel
theorem dX11_odds_16 : decode cX11_odds 16 = .ok (.i2l, 1) := by decide +kernel
theorem dX11_odds_17 : decode cX11_odds 17 = .ok (.lconst 0, 1) := by decide +kernel
theorem dX11_odds_18 : decode cX11_odds 18 = .ok (.lconst 1, 1) := by decide +kernel
theorem dX11_odds_19 : decode cX11_odds 19 = .ok (.invokestatic 78, 3) := by decide +kernel
theorem dX11_odds_22 : decode cX11_odds 22 = .ok (.ifCond .ne 7, 3) := by decide +kernel
theorem dX11_odds_25 : decode cX11_odds 25 = .ok (.invokestatic 71, 3) := by decide +kernel
theorem dX11_odds_28 : decode cX11_odds 28 = .ok (.lreturn, 1) := by decide +kernel
theorem dX11_odds_29 : decode cX11_odds 29 = .ok (.aload_n 0, 1) := by decide +kernel
theorem dX11_odds_30 : decode cX11_odds 30 = .ok (.getfield 126, 3) := by decide +kernel
theorem dX11_odds_33 : decode cX11_odds 33 = .ok (.istore 4, 2) := by decide +kernel
theorem dX11_odds_35 : decode cX11_odds 35 = .ok (.lconst 0, 1) := by decide +kernel
theorem dX11_odds_36 : decode cX11_odds 36 = .ok (.lstore 5, 2) := by decide +kernel
theorem dX11_odds_38 : decode cX11_odds 38 = .ok (.iconst 0, 1) := by decide +kernel
theorem dX11_odds_39 : decode cX11_odds 39 = .ok (.istore 7, 2) := by decide +kernel
theorem dX11_odds_41 : decode cX11_odds 41 = .ok (.iload 7, 2) := by decide +kernel
theorem dX11_odds_43 : decode cX11_odds 43 = .ok (.aload_n 0, 1) := by decide +kernel
theorem dX11_odds_44 : decode cX11_odds 44 = .ok (.invokevirtual 185, 3) := by decide +kernel
theorem dX11_odds_47 : decode cX11_odds 47 = .ok (.if_icmp .gt 39, 3) := by decide +kernel
theorem dX11_odds_50 : decode cX11_odds 50 = .ok (.aload_n 0, 1) := by decide +kernel
theorem dX11_odds_51 : decode cX11_odds 51 = .ok (.iload 7, 2) := by decide +kernel
theorem dX11_odds_53 : decode cX11_odds 53 = .ok (.putfield 126, 3) := by decide +kernel
theorem dX11_odds_56 : decode cX11_odds 56 = .ok (.aload_n 0, 1) := by decide +kernel
theorem dX11_odds_57 : decode cX11_odds 57 = .ok (.invokevirtual 175, 3) := by decide +kernel
theorem dX11_odds_60 : decode cX11_odds 60 = .ok (.lload 5, 2) := by decide +kernel
theorem dX11_odds_62 : decode cX11_odds 62 = .ok (.aload_n 0, 1) := by decide +kernel
theorem dX11_odds_63 : decode cX11_odds 63 = .ok (.getfield 40, 3) := by decide +kernel
theorem dX11_odds_66 : decode cX11_odds 66 = .ok (.iload_n 1, 1) := by decide +kernel
theorem dX11_odds_67 : decode cX11_odds 67 = .ok (.iaload, 1) := by decide +kernel
theorem dX11_odds_68 : decode cX11_odds 68 = .ok (.iload_n 2, 1) := by decide +kernel
theorem dX11_odds_69 : decode cX11_odds 69 = .ok (.if_icmp .gt 7, 3) := by decide +kernel
theorem dX11_odds_72 : decode cX11_odds 72 = .ok (.lconst 1, 1) := by decide +kernel
theorem dX11_odds_73 : decode cX11_odds 73 = .ok (.goto 4, 3) := by decide +kernel
theorem dX11_odds_76 : decode cX11_odds 76 = .ok (.lconst 0, 1) := by decide +kernel
theorem dX11_odds_77 : decode cX11_odds 77 = .ok (.ladd, 1) := by decide +kernel
theorem dX11_odds_78 : decode cX11_odds 78 = .ok (.lstore 5, 2) := by decide +kernel
theorem dX11_odds_80 : decode cX11_odds 80 = .ok (.iinc 7 1, 3) := by decide +kernel
theorem dX11_odds_83 : decode cX11_odds 83 = .ok (.goto (-42), 3) := by decide +kernel
theorem dX11_odds_86 : decode cX11_odds 86 = .ok (.aload_n 0, 1) := by decide +kernel
theorem dX11_odds_87 : decode cX11_odds 87 = .ok (.iload 4, 2) := by decide +kernel
theorem dX11_odds_89 : decode cX11_odds 89 = .ok (.putfield 126, 3) := by decide +kernel
theorem dX11_odds_92 : decode cX11_odds 92 = .ok (.lload 5, 2) := by decide +kernel
theorem dX11_odds_94 : decode cX11_odds 94 = .ok (.aload_n 0, 1) := by decide +kernel
theorem dX11_odds_95 : decode cX11_odds 95 = .ok (.invokevirtual 185, 3) := by decide +kernel
theorem dX11_odds_98 : decode cX11_odds 98 = .ok (.i2l, 1) := by decide +kernel
theorem dX11_odds_99 : decode cX11_odds 99 = .ok (.lconst 1, 1) := by decide +kernel
theorem dX11_odds_100 : decode cX11_odds 100 = .ok (.ladd, 1) := by decide +kernel
theorem dX11_odds_101 : decode cX11_odds 101 = .ok (.iload_n 3, 1) := by decide +kernel
theorem dX11_odds_102 : decode cX11_odds 102 = .ok (.invokestatic 195, 3) := by decide +kernel
theorem dX11_odds_105 : decode cX11_odds 105 = .ok (.lreturn, 1) := by decide +kernel
theorem dX11_noSheet_0 : decode cX11_noSheet 0 = .ok (.iload_n 0, 1) := by decide +kernel
theorem dX11_noSheet_1 : decode cX11_noSheet 1 = .ok (.i2l, 1) := by decide +kernel
theorem dX11_noSheet_2 : decode cX11_noSheet 2 = .ok (.lconst 0, 1) := by decide +kernel
theorem dX11_noSheet_3 : decode cX11_noSheet 3 = .ok (.ldc2_w 199, 3) := by decide +kernel
theorem dX11_noSheet_6 : decode cX11_noSheet 6 = .ok (.invokestatic 78, 3) := by decide +kernel
theorem dX11_noSheet_9 : decode cX11_noSheet 9 = .ok (.ifCond .ne 7, 3) := by decide +kernel
theorem dX11_noSheet_12 : decode cX11_noSheet 12 = .ok (.iconst 1, 1) := by decide +kernel
theorem dX11_noSheet_13 : decode cX11_noSheet 13 = .ok (.goto 4, 3) := by decide +kernel
theorem dX11_noSheet_16 : decode cX11_noSheet 16 = .ok (.iconst 0, 1) := by decide +kernel
theorem dX11_noSheet_17 : decode cX11_noSheet 17 = .ok (.ireturn, 1) := by decide +kernel
theorem dX11_sheet_0 : decode cX11_sheet 0 = .ok (.iload_n 1, 1) := by decide +kernel
theorem dX11_sheet_1 : decode cX11_sheet 1 = .ok (.invokestatic 110, 3) := by decide +kernel
theorem dX11_sheet_4 : decode cX11_sheet 4 = .ok (.ifCond .eq 9, 3) := by decide +kernel
theorem dX11_sheet_7 : decode cX11_sheet 7 = .ok (.aload_n 0, 1) := by decide +kernel
theorem dX11_sheet_8 : decode cX11_sheet 8 = .ok (.iconst (-1), 1) := by decide +kernel
theorem dX11_sheet_9 : decode cX11_sheet 9 = .ok (.invokevirtual 114, 3) := by decide +kernel
theorem dX11_sheet_12 : decode cX11_sheet 12 = .ok (.ireturn, 1) := by decide +kernel
theorem dX11_sheet_13 : decode cX11_sheet 13 = .ok (.iload_n 2, 1) := by decide +kernel
theorem dX11_sheet_14 : decode cX11_sheet 14 = .ok (.i2l, 1) := by decide +kernel
theorem dX11_sheet_15 : decode cX11_sheet 15 = .ok (.lconst 0, 1) := by decide +kernel
theorem dX11_sheet_16 : decode cX11_sheet 16 = .ok (.ldc2_w 117, 3) := by decide +kernel
theorem dX11_sheet_19 : decode cX11_sheet 19 = .ok (.invokestatic 78, 3) := by decide +kernel
theorem dX11_sheet_22 : decode cX11_sheet 22 = .ok (.ifCond .eq 9, 3) := by decide +kernel
theorem dX11_sheet_25 : decode cX11_sheet 25 = .ok (.iload_n 3, 1) := by decide +kernel
theorem dX11_sheet_26 : decode cX11_sheet 26 = .ok (.bipush 60, 2) := by decide +kernel
theorem dX11_sheet_28 : decode cX11_sheet 28 = .ok (.if_icmp .le 10, 3) := by decide +kernel
theorem dX11_sheet_31 : decode cX11_sheet 31 = .ok (.aload_n 0, 1) := by decide +kernel
theorem dX11_sheet_32 : decode cX11_sheet 32 = .ok (.bipush (-2), 2) := by decide +kernel
theorem dX11_sheet_34 : decode cX11_sheet 34 = .ok (.invokevirtual 114, 3) := by decide +kernel
theorem dX11_sheet_37 : decode cX11_sheet 37 = .ok (.ireturn, 1) := by decide +kernel
theorem dX11_sheet_38 : decode cX11_sheet 38 = .ok (.iload_n 3, 1) := by decide +kernel
theorem dX11_sheet_39 : decode cX11_sheet 39 = .ok (.ifCond .ge 9, 3) := by decide +kernel
theorem dX11_sheet_42 : decode cX11_sheet 42 = .ok (.aload_n 0, 1) := by decide +kernel
theorem dX11_sheet_43 : decode cX11_sheet 43 = .ok (.iconst 4, 1) := by decide +kernel
theorem dX11_sheet_44 : decode cX11_sheet 44 = .ok (.invokevirtual 102, 3) := by decide +kernel
theorem dX11_sheet_47 : decode cX11_sheet 47 = .ok (.ireturn, 1) := by decide +kernel
theorem dX11_sheet_48 : decode cX11_sheet 48 = .ok (.aload_n 0, 1) := by decide +kernel
theorem dX11_sheet_49 : decode cX11_sheet 49 = .ok (.getfield 53, 3) := by decide +kernel
theorem dX11_sheet_52 : decode cX11_sheet 52 = .ok (.iload_n 1, 1) := by decide +kernel
theorem dX11_sheet_53 : decode cX11_sheet 53 = .ok (.iload_n 3, 1) := by decide +kernel
theorem dX11_sheet_54 : decode cX11_sheet 54 = .ok (.iastore, 1) := by decide +kernel
theorem dX11_sheet_55 : decode cX11_sheet 55 = .ok (.aload_n 0, 1) := by decide +kernel
theorem dX11_sheet_56 : decode cX11_sheet 56 = .ok (.getfield 56, 3) := by decide +kernel
theorem dX11_sheet_59 : decode cX11_sheet 59 = .ok (.iload_n 1, 1) := by decide +kernel
theorem dX11_sheet_60 : decode cX11_sheet 60 = .ok (.iload_n 2, 1) := by decide +kernel
theorem dX11_sheet_61 : decode cX11_sheet 61 = .ok (.iastore, 1) := by decide +kernel
theorem dX11_sheet_62 : decode cX11_sheet 62 = .ok (.iconst 0, 1) := by decide +kernel
theorem dX11_sheet_63 : decode cX11_sheet 63 = .ok (.istore 4, 2) := by decide +kernel
theorem dX11_sheet_65 : decode cX11_sheet 65 = .ok (.iload 4, 2) := by decide +kernel
theorem dX11_sheet_67 : decode cX11_sheet 67 = .ok (.iload_n 3, 1) := by decide +kernel
theorem dX11_sheet_68 : decode cX11_sheet 68 = .ok (.if_icmp .ge 22, 3) := by decide +kernel
theorem dX11_sheet_71 : decode cX11_sheet 71 = .ok (.aload_n 0, 1) := by decide +kernel
theorem dX11_sheet_72 : decode cX11_sheet 72 = .ok (.getfield 59, 3) := by decide +kernel
theorem dX11_sheet_75 : decode cX11_sheet 75 = .ok (.bipush 60, 2) := by decide +kernel
theorem dX11_sheet_77 : decode cX11_sheet 77 = .ok (.iload_n 1, 1) := by decide +kernel
theorem dX11_sheet_78 : decode cX11_sheet 78 = .ok (.imul, 1) := by decide +kernel
theorem dX11_sheet_79 : decode cX11_sheet 79 = .ok (.iload 4, 2) := by decide +kernel
theorem dX11_sheet_81 : decode cX11_sheet 81 = .ok (.iadd, 1) := by decide +kernel
theorem dX11_sheet_82 : decode cX11_sheet 82 = .ok (.iconst 0, 1) := by decide +kernel
theorem dX11_sheet_83 : decode cX11_sheet 83 = .ok (.iastore, 1) := by decide +kernel
theorem dX11_sheet_84 : decode cX11_sheet 84 = .ok (.iinc 4 1, 3) := by decide +kernel
theorem dX11_sheet_87 : decode cX11_sheet 87 = .ok (.goto (-22), 3) := by decide +kernel
theorem dX11_sheet_90 : decode cX11_sheet 90 = .ok (.aload_n 0, 1) := by decide +kernel
theorem dX11_sheet_91 : decode cX11_sheet 91 = .ok (.iconst 1, 1) := by decide +kernel
theorem dX11_sheet_92 : decode cX11_sheet 92 = .ok (.invokevirtual 114, 3) := by decide +kernel
theorem dX11_sheet_95 : decode cX11_sheet 95 = .ok (.ireturn, 1) := by decide +kernel
theorem dX11_lose_0 : decode cX11_lose 0 = .ok (.iload_n 1, 1) := by decide +kernel
theorem dX11_lose_1 : decode cX11_lose 1 = .ok (.invokestatic 110, 3) := by decide +kernel
theorem dX11_lose_4 : decode cX11_lose 4 = .ok (.ifCond .eq 5, 3) := by decide +kernel
theorem dX11_lose_7 : decode cX11_lose 7 = .ok (.iconst (-1), 1) := by decide +kernel
theorem dX11_lose_8 : decode cX11_lose 8 = .ok (.ireturn, 1) := by decide +kernel
theorem dX11_lose_9 : decode cX11_lose 9 = .ok (.aload_n 0, 1) := by decide +kernel
theorem dX11_lose_10 : decode cX11_lose 10 = .ok (.getfield 53, 3) := by decide +kernel
theorem dX11_lose_13 : decode cX11_lose 13 = .ok (.iload_n 1, 1) := by decide +kernel
theorem dX11_lose_14 : decode cX11_lose 14 = .ok (.iaload, 1) := by decide +kernel
theorem dX11_lose_15 : decode cX11_lose 15 = .ok (.ifCond .ge 7, 3) := by decide +kernel
theorem dX11_lose_18 : decode cX11_lose 18 = .ok (.iconst 0, 1) := by decide +kernel
theorem dX11_lose_19 : decode cX11_lose 19 = .ok (.goto 4, 3) := by decide +kernel
theorem dX11_lose_22 : decode cX11_lose 22 = .ok (.iconst 1, 1) := by decide +kernel
theorem dX11_lose_23 : decode cX11_lose 23 = .ok (.istore_n 2, 1) := by decide +kernel
theorem dX11_lose_24 : decode cX11_lose 24 = .ok (.aload_n 0, 1) := by decide +kernel
theorem dX11_lose_25 : decode cX11_lose 25 = .ok (.getfield 53, 3) := by decide +kernel
theorem dX11_lose_28 : decode cX11_lose 28 = .ok (.iload_n 1, 1) := by decide +kernel
theorem dX11_lose_29 : decode cX11_lose 29 = .ok (.iconst (-1), 1) := by decide +kernel
theorem dX11_lose_30 : decode cX11_lose 30 = .ok (.iastore, 1) := by decide +kernel
theorem dX11_lose_31 : decode cX11_lose 31 = .ok (.iload_n 2, 1) := by decide +kernel
theorem dX11_lose_32 : decode cX11_lose 32 = .ok (.ireturn, 1) := by decide +kernel
theorem dX11_noCell_0 : decode cX11_noCell 0 = .ok (.aload_n 0, 1) := by decide +kernel
theorem dX11_noCell_1 : decode cX11_noCell 1 = .ok (.getfield 53, 3) := by decide +kernel
theorem dX11_noCell_4 : decode cX11_noCell 4 = .ok (.iload_n 1, 1) := by decide +kernel
theorem dX11_noCell_5 : decode cX11_noCell 5 = .ok (.iaload, 1) := by decide +kernel
theorem dX11_noCell_6 : decode cX11_noCell 6 = .ok (.ifCond .ge 7, 3) := by decide +kernel
theorem dX11_noCell_9 : decode cX11_noCell 9 = .ok (.iconst 1, 1) := by decide +kernel
theorem dX11_noCell_10 : decode cX11_noCell 10 = .ok (.goto 26, 3) := by decide +kernel
theorem dX11_noCell_13 : decode cX11_noCell 13 = .ok (.iload_n 2, 1) := by decide +kernel
theorem dX11_noCell_14 : decode cX11_noCell 14 = .ok (.i2l, 1) := by decide +kernel
theorem dX11_noCell_15 : decode cX11_noCell 15 = .ok (.lconst 0, 1) := by decide +kernel
theorem dX11_noCell_16 : decode cX11_noCell 16 = .ok (.aload_n 0, 1) := by decide +kernel
theorem dX11_noCell_17 : decode cX11_noCell 17 = .ok (.getfield 53, 3) := by decide +kernel
theorem dX11_noCell_20 : decode cX11_noCell 20 = .ok (.iload_n 1, 1) := by decide +kernel
theorem dX11_noCell_21 : decode cX11_noCell 21 = .ok (.iaload, 1) := by decide +kernel
theorem dX11_noCell_22 : decode cX11_noCell 22 = .ok (.i2l, 1) := by decide +kernel
theorem dX11_noCell_23 : decode cX11_noCell 23 = .ok (.lconst 1, 1) := by decide +kernel
theorem dX11_noCell_24 : decode cX11_noCell 24 = .ok (.lsub, 1) := by decide +kernel
theorem dX11_noCell_25 : decode cX11_noCell 25 = .ok (.invokestatic 78, 3) := by decide +kernel
theorem dX11_noCell_28 : decode cX11_noCell 28 = .ok (.ifCond .eq 7, 3) := by decide +kernel
theorem dX11_noCell_31 : decode cX11_noCell 31 = .ok (.iconst 0, 1) := by decide +kernel
theorem dX11_noCell_32 : decode cX11_noCell 32 = .ok (.goto 4, 3) := by decide +kernel
theorem dX11_noCell_35 : decode cX11_noCell 35 = .ok (.iconst 3, 1) := by decide +kernel
theorem dX11_noCell_36 : decode cX11_noCell 36 = .ok (.ireturn, 1) := by decide +kernel
theorem dX11_put_0 : decode cX11_put 0 = .ok (.iload_n 1, 1) := by decide +kernel
theorem dX11_put_1 : decode cX11_put 1 = .ok (.invokestatic 110, 3) := by decide +kernel
theorem dX11_put_4 : decode cX11_put 4 = .ok (.ifCond .eq 9, 3) := by decide +kernel
theorem dX11_put_7 : decode cX11_put 7 = .ok (.aload_n 0, 1) := by decide +kernel
theorem dX11_put_8 : decode cX11_put 8 = .ok (.iconst (-1), 1) := by decide +kernel
theorem dX11_put_9 : decode cX11_put 9 = .ok (.invokevirtual 114, 3) := by decide +kernel
theorem dX11_put_12 : decode cX11_put 12 = .ok (.ireturn, 1) := by decide +kernel
theorem dX11_put_13 : decode cX11_put 13 = .ok (.aload_n 0, 1) := by decide +kernel
theorem dX11_put_14 : decode cX11_put 14 = .ok (.iload_n 1, 1) := by decide +kernel
theorem dX11_put_15 : decode cX11_put 15 = .ok (.iload_n 2, 1) := by decide +kernel
theorem dX11_put_16 : decode cX11_put 16 = .ok (.invokevirtual 201, 3) := by decide +kernel
theorem dX11_put_19 : decode cX11_put 19 = .ok (.ifCond .le 14, 3) := by decide +kernel
theorem dX11_put_22 : decode cX11_put 22 = .ok (.aload_n 0, 1) := by decide +kernel
theorem dX11_put_23 : decode cX11_put 23 = .ok (.aload_n 0, 1) := by decide +kernel
theorem dX11_put_24 : decode cX11_put 24 = .ok (.iload_n 1, 1) := by decide +kernel
theorem dX11_put_25 : decode cX11_put 25 = .ok (.iload_n 2, 1) := by decide +kernel
theorem dX11_put_26 : decode cX11_put 26 = .ok (.invokevirtual 201, 3) := by decide +kernel
theorem dX11_put_29 : decode cX11_put 29 = .ok (.invokevirtual 102, 3) := by decide +kernel
theorem dX11_put_32 : decode cX11_put 32 = .ok (.ireturn, 1) := by decide +kernel
theorem dX11_put_33 : decode cX11_put 33 = .ok (.aload_n 0, 1) := by decide +kernel
theorem dX11_put_34 : decode cX11_put 34 = .ok (.getfield 59, 3) := by decide +kernel
theorem dX11_put_37 : decode cX11_put 37 = .ok (.bipush 60, 2) := by decide +kernel
theorem dX11_put_39 : decode cX11_put 39 = .ok (.iload_n 1, 1) := by decide +kernel
theorem dX11_put_40 : decode cX11_put 40 = .ok (.imul, 1) := by decide +kernel
theorem dX11_put_41 : decode cX11_put 41 = .ok (.iload_n 2, 1) := by decide +kernel
theorem dX11_put_42 : decode cX11_put 42 = .ok (.iadd, 1) := by decide +kernel
theorem dX11_put_43 : decode cX11_put 43 = .ok (.aload_n 0, 1) := by decide +kernel
theorem dX11_put_44 : decode cX11_put 44 = .ok (.getfield 56, 3) := by decide +kernel
theorem dX11_put_47 : decode cX11_put 47 = .ok (.iload_n 1, 1) := by decide +kernel
theorem dX11_put_48 : decode cX11_put 48 = .ok (.iaload, 1) := by decide +kernel
theorem dX11_put_49 : decode cX11_put 49 = .ok (.ifCond .ne 8, 3) := by decide +kernel
theorem dX11_put_52 : decode cX11_put 52 = .ok (.iload_n 3, 1) := by decide +kernel
theorem dX11_put_53 : decode cX11_put 53 = .ok (.i2b, 1) := by decide +kernel
theorem dX11_put_54 : decode cX11_put 54 = .ok (.goto 19, 3) := by decide +kernel
theorem dX11_put_57 : decode cX11_put 57 = .ok (.aload_n 0, 1) := by decide +kernel
theorem dX11_put_58 : decode cX11_put 58 = .ok (.getfield 56, 3) := by decide +kernel
theorem dX11_put_61 : decode cX11_put 61 = .ok (.iload_n 1, 1) := by decide +kernel
theorem dX11_put_62 : decode cX11_put 62 = .ok (.iaload, 1) := by decide +kernel
theorem dX11_put_63 : decode cX11_put 63 = .ok (.iconst 1, 1) := by decide +kernel
theorem dX11_put_64 : decode cX11_put 64 = .ok (.if_icmp .ne 8, 3) := by decide +kernel
theorem dX11_put_67 : decode cX11_put 67 = .ok (.iload_n 3, 1) := by decide +kernel
theorem dX11_put_68 : decode cX11_put 68 = .ok (.i2s, 1) := by decide +kernel
theorem dX11_put_69 : decode cX11_put 69 = .ok (.goto 4, 3) := by decide +kernel
theorem dX11_put_72 : decode cX11_put 72 = .ok (.iload_n 3, 1) := by decide +kernel
theorem dX11_put_73 : decode cX11_put 73 = .ok (.iastore, 1) := by decide +kernel
theorem dX11_put_74 : decode cX11_put 74 = .ok (.aload_n 0, 1) := by decide +kernel
theorem dX11_put_75 : decode cX11_put 75 = .ok (.iconst 1, 1) := by decide +kernel
theorem dX11_put_76 : decode cX11_put 76 = .ok (.invokevirtual 114, 3) := by decide +kernel
theorem dX11_put_79 : decode cX11_put 79 = .ok (.ireturn, 1) := by decide +kernel
theorem dX11_cell_0 : decode cX11_cell 0 = .ok (.aload_n 0, 1) := by decide +kernel
theorem dX11_cell_1 : decode cX11_cell 1 = .ok (.iconst 0, 1) := by decide +kernel
theorem dX11_cell_2 : decode cX11_cell 2 = .ok (.putfield 67, 3) := by decide +kernel
theorem dX11_cell_5 : decode cX11_cell 5 = .ok (.iload_n 1, 1) := by decide +kernel
theorem dX11_cell_6 : decode cX11_cell 6 = .ok (.invokestatic 110, 3) := by decide +kernel
theorem dX11_cell_9 : decode cX11_cell 9 = .ok (.ifCond .ne 15, 3) := by decide +kernel
theorem dX11_cell_12 : decode cX11_cell 12 = .ok (.iload_n 3, 1) := by decide +kernel
theorem dX11_cell_13 : decode cX11_cell 13 = .ok (.i2l, 1) := by decide +kernel
theorem dX11_cell_14 : decode cX11_cell 14 = .ok (.lconst 0, 1) := by decide +kernel
theorem dX11_cell_15 : decode cX11_cell 15 = .ok (.ldc2_w 117, 3) := by decide +kernel
theorem dX11_cell_18 : decode cX11_cell 18 = .ok (.invokestatic 78, 3) := by decide +kernel
theorem dX11_cell_21 : decode cX11_cell 21 = .ok (.ifCond .ne 7, 3) := by decide +kernel
theorem dX11_cell_24 : decode cX11_cell 24 = .ok (.invokestatic 71, 3) := by decide +kernel
theorem dX11_cell_27 : decode cX11_cell 27 = .ok (.lreturn, 1) := by decide +kernel
theorem dX11_cell_28 : decode cX11_cell 28 = .ok (.aload_n 0, 1) := by decide +kernel
theorem dX11_cell_29 : decode cX11_cell 29 = .ok (.getfield 53, 3) := by decide +kernel
theorem dX11_cell_32 : decode cX11_cell 32 = .ok (.iload_n 1, 1) := by decide +kernel
theorem dX11_cell_33 : decode cX11_cell 33 = .ok (.iaload, 1) := by decide +kernel
theorem dX11_cell_34 : decode cX11_cell 34 = .ok (.ifCond .lt 19, 3) := by decide +kernel
theorem dX11_cell_37 : decode cX11_cell 37 = .ok (.aload_n 0, 1) := by decide +kernel
theorem dX11_cell_38 : decode cX11_cell 38 = .ok (.getfield 56, 3) := by decide +kernel
theorem dX11_cell_41 : decode cX11_cell 41 = .ok (.iload_n 1, 1) := by decide +kernel
theorem dX11_cell_42 : decode cX11_cell 42 = .ok (.iaload, 1) := by decide +kernel
theorem dX11_cell_43 : decode cX11_cell 43 = .ok (.iload_n 3, 1) := by decide +kernel
theorem dX11_cell_44 : decode cX11_cell 44 = .ok (.if_icmp .eq 9, 3) := by decide +kernel
theorem dX11_cell_47 : decode cX11_cell 47 = .ok (.aload_n 0, 1) := by decide +kernel
theorem dX11_cell_48 : decode cX11_cell 48 = .ok (.iconst 2, 1) := by decide +kernel
theorem dX11_cell_49 : decode cX11_cell 49 = .ok (.invokevirtual 204, 3) := by decide +kernel
theorem dX11_cell_52 : decode cX11_cell 52 = .ok (.lreturn, 1) := by decide +kernel
theorem dX11_cell_53 : decode cX11_cell 53 = .ok (.aload_n 0, 1) := by decide +kernel
theorem dX11_cell_54 : decode cX11_cell 54 = .ok (.iload_n 1, 1) := by decide +kernel
theorem dX11_cell_55 : decode cX11_cell 55 = .ok (.iload_n 2, 1) := by decide +kernel
theorem dX11_cell_56 : decode cX11_cell 56 = .ok (.invokevirtual 201, 3) := by decide +kernel
theorem dX11_cell_59 : decode cX11_cell 59 = .ok (.ifCond .le 16, 3) := by decide +kernel
theorem dX11_cell_62 : decode cX11_cell 62 = .ok (.aload_n 0, 1) := by decide +kernel
theorem dX11_cell_63 : decode cX11_cell 63 = .ok (.aload_n 0, 1) := by decide +kernel
theorem dX11_cell_64 : decode cX11_cell 64 = .ok (.iload_n 1, 1) := by decide +kernel
theorem dX11_cell_65 : decode cX11_cell 65 = .ok (.iload_n 2, 1) := by decide +kernel
theorem dX11_cell_66 : decode cX11_cell 66 = .ok (.invokevirtual 201, 3) := by decide +kernel
theorem dX11_cell_69 : decode cX11_cell 69 = .ok (.invokevirtual 204, 3) := by decide +kernel
theorem dX11_cell_72 : decode cX11_cell 72 = .ok (.goto 15, 3) := by decide +kernel
theorem dX11_cell_75 : decode cX11_cell 75 = .ok (.aload_n 0, 1) := by decide +kernel
theorem dX11_cell_76 : decode cX11_cell 76 = .ok (.getfield 59, 3) := by decide +kernel
theorem dX11_cell_79 : decode cX11_cell 79 = .ok (.bipush 60, 2) := by decide +kernel
theorem dX11_cell_81 : decode cX11_cell 81 = .ok (.iload_n 1, 1) := by decide +kernel
theorem dX11_cell_82 : decode cX11_cell 82 = .ok (.imul, 1) := by decide +kernel
theorem dX11_cell_83 : decode cX11_cell 83 = .ok (.iload_n 2, 1) := by decide +kernel
theorem dX11_cell_84 : decode cX11_cell 84 = .ok (.iadd, 1) := by decide +kernel
theorem dX11_cell_85 : decode cX11_cell 85 = .ok (.iaload, 1) := by decide +kernel
theorem dX11_cell_86 : decode cX11_cell 86 = .ok (.i2l, 1) := by decide +kernel
theorem dX11_cell_87 : decode cX11_cell 87 = .ok (.lreturn, 1) := by decide +kernel
theorem dX11_isBeyond_0 : decode cX11_isBeyond 0 = .ok (.iload_n 0, 1) := by decide +kernel
theorem dX11_isBeyond_1 : decode cX11_isBeyond 1 = .ok (.ifCond .lt 19, 3) := by decide +kernel
theorem dX11_isBeyond_4 : decode cX11_isBeyond 4 = .ok (.lload_n 1, 1) := by decide +kernel
theorem dX11_isBeyond_5 : decode cX11_isBeyond 5 = .ok (.lconst 0, 1) := by decide +kernel
theorem dX11_isBeyond_6 : decode cX11_isBeyond 6 = .ok (.lcmp, 1) := by decide +kernel
theorem dX11_isBeyond_7 : decode cX11_isBeyond 7 = .ok (.ifCond .lt 13, 3) := by decide +kernel
theorem dX11_isBeyond_10 : decode cX11_isBeyond 10 = .ok (.iload_n 0, 1) := by decide +kernel
theorem dX11_isBeyond_11 : decode cX11_isBeyond 11 = .ok (.i2l, 1) := by decide +kernel
theorem dX11_isBeyond_12 : decode cX11_isBeyond 12 = .ok (.lload_n 1, 1) := by decide +kernel
theorem dX11_isBeyond_13 : decode cX11_isBeyond 13 = .ok (.ladd, 1) := by decide +kernel
theorem dX11_isBeyond_14 : decode cX11_isBeyond 14 = .ok (.iload_n 3, 1) := by decide +kernel
theorem dX11_isBeyond_15 : decode cX11_isBeyond 15 = .ok (.i2l, 1) := by decide +kernel
theorem dX11_isBeyond_16 : decode cX11_isBeyond 16 = .ok (.lcmp, 1) := by decide +kernel
theorem dX11_isBeyond_17 : decode cX11_isBeyond 17 = .ok (.ifCond .le 7, 3) := by decide +kernel
theorem dX11_isBeyond_20 : decode cX11_isBeyond 20 = .ok (.iconst 1, 1) := by decide +kernel
theorem dX11_isBeyond_21 : decode cX11_isBeyond 21 = .ok (.goto 4, 3) := by decide +kernel
theorem dX11_isBeyond_24 : decode cX11_isBeyond 24 = .ok (.iconst 0, 1) := by decide +kernel
theorem dX11_isBeyond_25 : decode cX11_isBeyond 25 = .ok (.ireturn, 1) := by decide +kernel
theorem dX11_copy_0 : decode cX11_copy 0 = .ok (.iload_n 1, 1) := by decide +kernel
theorem dX11_copy_1 : decode cX11_copy 1 = .ok (.invokestatic 110, 3) := by decide +kernel
theorem dX11_copy_4 : decode cX11_copy 4 = .ok (.ifCond .ne 10, 3) := by decide +kernel
theorem dX11_copy_7 : decode cX11_copy 7 = .ok (.iload_n 3, 1) := by decide +kernel
theorem dX11_copy_8 : decode cX11_copy 8 = .ok (.invokestatic 110, 3) := by decide +kernel
theorem dX11_copy_11 : decode cX11_copy 11 = .ok (.ifCond .eq 9, 3) := by decide +kernel
theorem dX11_copy_14 : decode cX11_copy 14 = .ok (.aload_n 0, 1) := by decide +kernel
theorem dX11_copy_15 : decode cX11_copy 15 = .ok (.iconst (-1), 1) := by decide +kernel
theorem dX11_copy_16 : decode cX11_copy 16 = .ok (.invokevirtual 114, 3) := by decide +kernel
theorem dX11_copy_19 : decode cX11_copy 19 = .ok (.ireturn, 1) := by decide +kernel
theorem dX11_copy_20 : decode cX11_copy 20 = .ok (.aload_n 0, 1) := by decide +kernel
theorem dX11_copy_21 : decode cX11_copy 21 = .ok (.getfield 53, 3) := by decide +kernel
theorem dX11_copy_24 : decode cX11_copy 24 = .ok (.iload_n 1, 1) := by decide +kernel
theorem dX11_copy_25 : decode cX11_copy 25 = .ok (.iaload, 1) := by decide +kernel
theorem dX11_copy_26 : decode cX11_copy 26 = .ok (.ifCond .lt 12, 3) := by decide +kernel
theorem dX11_copy_29 : decode cX11_copy 29 = .ok (.aload_n 0, 1) := by decide +kernel
theorem dX11_copy_30 : decode cX11_copy 30 = .ok (.getfield 53, 3) := by decide +kernel
theorem dX11_copy_33 : decode cX11_copy 33 = .ok (.iload_n 3, 1) := by decide +kernel
theorem dX11_copy_34 : decode cX11_copy 34 = .ok (.iaload, 1) := by decide +kernel
theorem dX11_copy_35 : decode cX11_copy 35 = .ok (.ifCond .ge 9, 3) := by decide +kernel
theorem dX11_copy_38 : decode cX11_copy 38 = .ok (.aload_n 0, 1) := by decide +kernel
theorem dX11_copy_39 : decode cX11_copy 39 = .ok (.iconst 1, 1) := by decide +kernel
theorem dX11_copy_40 : decode cX11_copy 40 = .ok (.invokevirtual 102, 3) := by decide +kernel
theorem dX11_copy_43 : decode cX11_copy 43 = .ok (.ireturn, 1) := by decide +kernel
theorem dX11_copy_44 : decode cX11_copy 44 = .ok (.aload_n 0, 1) := by decide +kernel
theorem dX11_copy_45 : decode cX11_copy 45 = .ok (.getfield 56, 3) := by decide +kernel
theorem dX11_copy_48 : decode cX11_copy 48 = .ok (.iload_n 1, 1) := by decide +kernel
theorem dX11_copy_49 : decode cX11_copy 49 = .ok (.iaload, 1) := by decide +kernel
theorem dX11_copy_50 : decode cX11_copy 50 = .ok (.aload_n 0, 1) := by decide +kernel
theorem dX11_copy_51 : decode cX11_copy 51 = .ok (.getfield 56, 3) := by decide +kernel
theorem dX11_copy_54 : decode cX11_copy 54 = .ok (.iload_n 3, 1) := by decide +kernel
theorem dX11_copy_55 : decode cX11_copy 55 = .ok (.iaload, 1) := by decide +kernel
theorem dX11_copy_56 : decode cX11_copy 56 = .ok (.if_icmp .eq 9, 3) := by decide +kernel
theorem dX11_copy_59 : decode cX11_copy 59 = .ok (.aload_n 0, 1) := by decide +kernel
theorem dX11_copy_60 : decode cX11_copy 60 = .ok (.iconst 2, 1) := by decide +kernel
theorem dX11_copy_61 : decode cX11_copy 61 = .ok (.invokevirtual 102, 3) := by decide +kernel
theorem dX11_copy_64 : decode cX11_copy 64 = .ok (.ireturn, 1) := by decide +kernel
theorem dX11_copy_65 : decode cX11_copy 65 = .ok (.iload_n 2, 1) := by decide +kernel
theorem dX11_copy_66 : decode cX11_copy 66 = .ok (.iload 5, 2) := by decide +kernel
theorem dX11_copy_68 : decode cX11_copy 68 = .ok (.i2l, 1) := by decide +kernel
theorem dX11_copy_69 : decode cX11_copy 69 = .ok (.aload_n 0, 1) := by decide +kernel
theorem dX11_copy_70 : decode cX11_copy 70 = .ok (.getfield 53, 3) := by decide +kernel
theorem dX11_copy_73 : decode cX11_copy 73 = .ok (.iload_n 1, 1) := by decide +kernel
theorem dX11_copy_74 : decode cX11_copy 74 = .ok (.iaload, 1) := by decide +kernel
theorem dX11_copy_75 : decode cX11_copy 75 = .ok (.invokestatic 106, 3) := by decide +kernel
theorem dX11_copy_78 : decode cX11_copy 78 = .ok (.ifCond .ne 20, 3) := by decide +kernel
theorem dX11_copy_81 : decode cX11_copy 81 = .ok (.iload 4, 2) := by decide +kernel
theorem dX11_copy_83 : decode cX11_copy 83 = .ok (.iload 5, 2) := by decide +kernel
theorem dX11_copy_85 : decode cX11_copy 85 = .ok (.i2l, 1) := by decide +kernel
theorem dX11_copy_86 : decode cX11_copy 86 = .ok (.aload_n 0, 1) := by decide +kernel
theorem dX11_copy_87 : decode cX11_copy 87 = .ok (.getfield 53, 3) := by decide +kernel
theorem dX11_copy_90 : decode cX11_copy 90 = .ok (.iload_n 3, 1) := by decide +kernel
theorem dX11_copy_91 : decode cX11_copy 91 = .ok (.iaload, 1) := by decide +kernel
theorem dX11_copy_92 : decode cX11_copy 92 = .ok (.invokestatic 106, 3) := by decide +kernel
theorem dX11_copy_95 : decode cX11_copy 95 = .ok (.ifCond .eq 9, 3) := by decide +kernel
theorem dX11_copy_98 : decode cX11_copy 98 = .ok (.aload_n 0, 1) := by decide +kernel
theorem dX11_copy_99 : decode cX11_copy 99 = .ok (.iconst 3, 1) := by decide +kernel
theorem dX11_copy_100 : decode cX11_copy 100 = .ok (.invokevirtual 102, 3) := by decide +kernel
theorem dX11_copy_103 : decode cX11_copy 103 = .ok (.ireturn, 1) := by decide +kernel
theorem dX11_copy_104 : decode cX11_copy 104 = .ok (.iconst 0, 1) := by decide +kernel
theorem dX11_copy_105 : decode cX11_copy 105 = .ok (.istore 6, 2) := by decide +kernel
theorem dX11_copy_107 : decode cX11_copy 107 = .ok (.iload 6, 2) := by decide +kernel
theorem dX11_copy_109 : decode cX11_copy 109 = .ok (.iload 5, 2) := by decide +kernel
theorem dX11_copy_111 : decode cX11_copy 111 = .ok (.if_icmp .ge 30, 3) := by decide +kernel
theorem dX11_copy_114 : decode cX11_copy 114 = .ok (.aload_n 0, 1) := by decide +kernel
theorem dX11_copy_115 : decode cX11_copy 115 = .ok (.getfield 62, 3) := by decide +kernel
theorem dX11_copy_118 : decode cX11_copy 118 = .ok (.iload 6, 2) := by decide +kernel
theorem dX11_copy_120 : decode cX11_copy 120 = .ok (.aload_n 0, 1) := by decide +kernel
theorem dX11_copy_121 : decode cX11_copy 121 = .ok (.getfield 59, 3) := by decide +kernel
theorem dX11_copy_124 : decode cX11_copy 124 = .ok (.bipush 60, 2) := by decide +kernel
theorem dX11_copy_126 : decode cX11_copy 126 = .ok (.iload_n 1, 1) := by decide +kernel
theorem dX11_copy_127 : decode cX11_copy 127 = .ok (.imul, 1) := by decide +kernel
theorem dX11_copy_128 : decode cX11_copy 128 = .ok (.iload_n 2, 1) := by decide +kernel
theorem dX11_copy_129 : decode cX11_copy 129 = .ok (.iadd, 1) := by decide +kernel
theorem dX11_copy_130 : decode cX11_copy 130 = .ok (.iload 6, 2) := by decide +kernel
theorem dX11_copy_132 : decode cX11_copy 132 = .ok (.iadd, 1) := by decide +kernel
theorem dX11_copy_133 : decode cX11_copy 133 = .ok (.iaload, 1) := by decide +kernel
theorem dX11_copy_134 : decode cX11_copy 134 = .ok (.iastore, 1) := by decide +kernel
theorem dX11_copy_135 : decode cX11_copy 135 = .ok (.iinc 6 1, 3) := by decide +kernel
theorem dX11_copy_138 : decode cX11_copy 138 = .ok (.goto (-31), 3) := by decide +kernel
theorem dX11_copy_141 : decode cX11_copy 141 = .ok (.iconst 0, 1) := by decide +kernel
theorem dX11_copy_142 : decode cX11_copy 142 = .ok (.istore 6, 2) := by decide +kernel
theorem dX11_copy_144 : decode cX11_copy 144 = .ok (.iload 6, 2) := by decide +kernel
theorem dX11_copy_146 : decode cX11_copy 146 = .ok (.iload 5, 2) := by decide +kernel
theorem dX11_copy_148 : decode cX11_copy 148 = .ok (.if_icmp .ge 31, 3) := by decide +kernel
theorem dX11_copy_151 : decode cX11_copy 151 = .ok (.aload_n 0, 1) := by decide +kernel
theorem dX11_copy_152 : decode cX11_copy 152 = .ok (.getfield 59, 3) := by decide +kernel
theorem dX11_copy_155 : decode cX11_copy 155 = .ok (.bipush 60, 2) := by decide +kernel
theorem dX11_copy_157 : decode cX11_copy 157 = .ok (.iload_n 3, 1) := by decide +kernel
theorem dX11_copy_158 : decode cX11_copy 158 = .ok (.imul, 1) := by decide +kernel
theorem dX11_copy_159 : decode cX11_copy 159 = .ok (.iload 4, 2) := by decide +kernel
theorem dX11_copy_161 : decode cX11_copy 161 = .ok (.iadd, 1) := by decide +kernel
theorem dX11_copy_162 : decode cX11_copy 162 = .ok (.iload 6, 2) := by decide +kernel
theorem dX11_copy_164 : decode cX11_copy 164 = .ok (.iadd, 1) := by decide +kernel
theorem dX11_copy_165 : decode cX11_copy 165 = .ok (.aload_n 0, 1) := by decide +kernel
theorem dX11_copy_166 : decode cX11_copy 166 = .ok (.getfield 62, 3) := by decide +kernel
theorem dX11_copy_169 : decode cX11_copy 169 = .ok (.iload 6, 2) := by decide +kernel
theorem dX11_copy_171 : decode cX11_copy 171 = .ok (.iaload, 1) := by decide +kernel
theorem dX11_copy_172 : decode cX11_copy 172 = .ok (.iastore, 1) := by decide +kernel
theorem dX11_copy_173 : decode cX11_copy 173 = .ok (.iinc 6 1, 3) := by decide +kernel
theorem dX11_copy_176 : decode cX11_copy 176 = .ok (.goto (-32), 3) := by decide +kernel
theorem dX11_copy_179 : decode cX11_copy 179 = .ok (.aload_n 0, 1) := by decide +kernel
theorem dX11_copy_180 : decode cX11_copy 180 = .ok (.iload 5, 2) := by decide +kernel
theorem dX11_copy_182 : decode cX11_copy 182 = .ok (.invokevirtual 114, 3) := by decide +kernel
theorem dX11_copy_185 : decode cX11_copy 185 = .ok (.ireturn, 1) := by decide +kernel
theorem dX11_traced_0 : decode cX11_traced 0 = .ok (.aload_n 0, 1) := by decide +kernel
theorem dX11_traced_1 : decode cX11_traced 1 = .ok (.bipush 31, 2) := by decide +kernel
theorem dX11_traced_3 : decode cX11_traced 3 = .ok (.aload_n 0, 1) := by decide +kernel
theorem dX11_traced_4 : decode cX11_traced 4 = .ok (.getfield 208, 3) := by decide +kernel
theorem dX11_traced_7 : decode cX11_traced 7 = .ok (.imul, 1) := by decide +kernel
theorem dX11_traced_8 : decode cX11_traced 8 = .ok (.iload_n 1, 1) := by decide +kernel
theorem dX11_traced_9 : decode cX11_traced 9 = .ok (.iadd, 1) := by decide +kernel
theorem dX11_traced_10 : decode cX11_traced 10 = .ok (.putfield 208, 3) := by decide +kernel
theorem dX11_traced_13 : decode cX11_traced 13 = .ok (.return_, 1) := by decide +kernel
theorem dX11_tell_0 : decode cX11_tell 0 = .ok (.aload_n 0, 1) := by decide +kernel
theorem dX11_tell_1 : decode cX11_tell 1 = .ok (.iload_n 1, 1) := by decide +kernel
theorem dX11_tell_2 : decode cX11_tell 2 = .ok (.invokevirtual 138, 3) := by decide +kernel
theorem dX11_tell_5 : decode cX11_tell 5 = .ok (.ifCond .eq 5, 3) := by decide +kernel
theorem dX11_tell_8 : decode cX11_tell 8 = .ok (.iconst (-1), 1) := by decide +kernel
theorem dX11_tell_9 : decode cX11_tell 9 = .ok (.ireturn, 1) := by decide +kernel
theorem dX11_tell_10 : decode cX11_tell 10 = .ok (.aload_n 0, 1) := by decide +kernel
theorem dX11_tell_11 : decode cX11_tell 11 = .ok (.getfield 7, 3) := by decide +kernel
theorem dX11_tell_14 : decode cX11_tell 14 = .ok (.iload_n 1, 1) := by decide +kernel
theorem dX11_tell_15 : decode cX11_tell 15 = .ok (.iaload, 1) := by decide +kernel
theorem dX11_tell_16 : decode cX11_tell 16 = .ok (.istore_n 2, 1) := by decide +kernel
theorem dX11_tell_17 : decode cX11_tell 17 = .ok (.iload_n 2, 1) := by decide +kernel
theorem dX11_tell_18 : decode cX11_tell 18 = .ok (.iconst 2, 1) := by decide +kernel
theorem dX11_tell_19 : decode cX11_tell 19 = .ok (.if_icmp .ne 8, 3) := by decide +kernel
theorem dX11_tell_22 : decode cX11_tell 22 = .ok (.aload_n 0, 1) := by decide +kernel
theorem dX11_tell_23 : decode cX11_tell 23 = .ok (.iconst 3, 1) := by decide +kernel
theorem dX11_tell_24 : decode cX11_tell 24 = .ok (.invokevirtual 211, 3) := by decide +kernel
theorem dX11_tell_27 : decode cX11_tell 27 = .ok (.iload_n 2, 1) := by decide +kernel
theorem dX11_tell_28 : decode cX11_tell 28 = .ok (.ifCond .le 8, 3) := by decide +kernel
theorem dX11_tell_31 : decode cX11_tell 31 = .ok (.aload_n 0, 1) := by decide +kernel
theorem dX11_tell_32 : decode cX11_tell 32 = .ok (.iconst 2, 1) := by decide +kernel
theorem dX11_tell_33 : decode cX11_tell 33 = .ok (.invokevirtual 211, 3) := by decide +kernel
theorem dX11_tell_36 : decode cX11_tell 36 = .ok (.aload_n 0, 1) := by decide +kernel
theorem dX11_tell_37 : decode cX11_tell 37 = .ok (.iconst 1, 1) := by decide +kernel
theorem dX11_tell_38 : decode cX11_tell 38 = .ok (.invokevirtual 211, 3) := by decide +kernel
theorem dX11_tell_41 : decode cX11_tell 41 = .ok (.iload_n 2, 1) := by decide +kernel
theorem dX11_tell_42 : decode cX11_tell 42 = .ok (.iconst 2, 1) := by decide +kernel
theorem dX11_tell_43 : decode cX11_tell 43 = .ok (.if_icmp .ne 8, 3) := by decide +kernel
theorem dX11_tell_46 : decode cX11_tell 46 = .ok (.aload_n 0, 1) := by decide +kernel
theorem dX11_tell_47 : decode cX11_tell 47 = .ok (.iconst 1, 1) := by decide +kernel
theorem dX11_tell_48 : decode cX11_tell 48 = .ok (.invokevirtual 211, 3) := by decide +kernel
theorem dX11_tell_51 : decode cX11_tell 51 = .ok (.aload_n 0, 1) := by decide +kernel
theorem dX11_tell_52 : decode cX11_tell 52 = .ok (.getfield 13, 3) := by decide +kernel
theorem dX11_tell_55 : decode cX11_tell 55 = .ok (.iload_n 1, 1) := by decide +kernel
theorem dX11_tell_56 : decode cX11_tell 56 = .ok (.iaload, 1) := by decide +kernel
theorem dX11_tell_57 : decode cX11_tell 57 = .ok (.istore_n 3, 1) := by decide +kernel
theorem dX11_tell_58 : decode cX11_tell 58 = .ok (.iload_n 2, 1) := by decide +kernel
theorem dX11_tell_59 : decode cX11_tell 59 = .ok (.ifCond .ne 7, 3) := by decide +kernel
theorem dX11_tell_62 : decode cX11_tell 62 = .ok (.iload_n 3, 1) := by decide +kernel
theorem dX11_tell_63 : decode cX11_tell 63 = .ok (.goto 21, 3) := by decide +kernel
theorem dX11_tell_66 : decode cX11_tell 66 = .ok (.iload_n 2, 1) := by decide +kernel
theorem dX11_tell_67 : decode cX11_tell 67 = .ok (.iconst 1, 1) := by decide +kernel
theorem dX11_tell_68 : decode cX11_tell 68 = .ok (.if_icmp .ne 10, 3) := by decide +kernel
theorem dX11_tell_71 : decode cX11_tell 71 = .ok (.iload_n 3, 1) := by decide +kernel
theorem dX11_tell_72 : decode cX11_tell 72 = .ok (.bipush 100, 2) := by decide +kernel
theorem dX11_tell_74 : decode cX11_tell 74 = .ok (.iadd, 1) := by decide +kernel
theorem dX11_tell_75 : decode cX11_tell 75 = .ok (.goto 9, 3) := by decide +kernel
theorem dX11_tell_78 : decode cX11_tell 78 = .ok (.iconst 2, 1) := by decide +kernel
theorem dX11_tell_79 : decode cX11_tell 79 = .ok (.iload_n 3, 1) := by decide +kernel
theorem dX11_tell_80 : decode cX11_tell 80 = .ok (.imul, 1) := by decide +kernel
theorem dX11_tell_81 : decode cX11_tell 81 = .ok (.bipush 100, 2) := by decide +kernel
theorem dX11_tell_83 : decode cX11_tell 83 = .ok (.iadd, 1) := by decide +kernel
theorem dX11_tell_84 : decode cX11_tell 84 = .ok (.ireturn, 1) := by decide +kernel
theorem dX11_bow_0 : decode cX11_bow 0 = .ok (.aload_n 0, 1) := by decide +kernel
theorem dX11_bow_1 : decode cX11_bow 1 = .ok (.iload_n 1, 1) := by decide +kernel
theorem dX11_bow_2 : decode cX11_bow 2 = .ok (.invokevirtual 138, 3) := by decide +kernel
theorem dX11_bow_5 : decode cX11_bow 5 = .ok (.ifCond .eq 5, 3) := by decide +kernel
theorem dX11_bow_8 : decode cX11_bow 8 = .ok (.iconst (-1), 1) := by decide +kernel
theorem dX11_bow_9 : decode cX11_bow 9 = .ok (.ireturn, 1) := by decide +kernel
theorem dX11_bow_10 : decode cX11_bow 10 = .ok (.aload_n 0, 1) := by decide +kernel
theorem dX11_bow_11 : decode cX11_bow 11 = .ok (.aload_n 0, 1) := by decide +kernel
theorem dX11_bow_12 : decode cX11_bow 12 = .ok (.getfield 7, 3) := by decide +kernel
theorem dX11_bow_15 : decode cX11_bow 15 = .ok (.iload_n 1, 1) := by decide +kernel
theorem dX11_bow_16 : decode cX11_bow 16 = .ok (.iaload, 1) := by decide +kernel
theorem dX11_bow_17 : decode cX11_bow 17 = .ok (.iconst 2, 1) := by decide +kernel
theorem dX11_bow_18 : decode cX11_bow 18 = .ok (.if_icmp .ne 7, 3) := by decide +kernel
theorem dX11_bow_21 : decode cX11_bow 21 = .ok (.iconst 5, 1) := by decide +kernel
theorem dX11_bow_22 : decode cX11_bow 22 = .ok (.goto 4, 3) := by decide +kernel
theorem dX11_bow_25 : decode cX11_bow 25 = .ok (.iconst 4, 1) := by decide +kernel
theorem dX11_bow_26 : decode cX11_bow 26 = .ok (.invokevirtual 211, 3) := by decide +kernel
theorem dX11_bow_29 : decode cX11_bow 29 = .ok (.aload_n 0, 1) := by decide +kernel
theorem dX11_bow_30 : decode cX11_bow 30 = .ok (.getfield 7, 3) := by decide +kernel
theorem dX11_bow_33 : decode cX11_bow 33 = .ok (.iload_n 1, 1) := by decide +kernel
theorem dX11_bow_34 : decode cX11_bow 34 = .ok (.iaload, 1) := by decide +kernel
theorem dX11_bow_35 : decode cX11_bow 35 = .ok (.iconst 2, 1) := by decide +kernel
theorem dX11_bow_36 : decode cX11_bow 36 = .ok (.if_icmp .ne 8, 3) := by decide +kernel
theorem dX11_bow_39 : decode cX11_bow 39 = .ok (.bipush 90, 2) := by decide +kernel
theorem dX11_bow_41 : decode cX11_bow 41 = .ok (.goto 4, 3) := by decide +kernel
theorem dX11_bow_44 : decode cX11_bow 44 = .ok (.iload_n 1, 1) := by decide +kernel
theorem dX11_bow_45 : decode cX11_bow 45 = .ok (.ireturn, 1) := by decide +kernel
theorem dX11_as_0 : decode cX11_as 0 = .ok (.aload_n 0, 1) := by decide +kernel
theorem dX11_as_1 : decode cX11_as 1 = .ok (.iload_n 1, 1) := by decide +kernel
theorem dX11_as_2 : decode cX11_as 2 = .ok (.invokevirtual 138, 3) := by decide +kernel
theorem dX11_as_5 : decode cX11_as 5 = .ok (.ifCond .eq 9, 3) := by decide +kernel
theorem dX11_as_8 : decode cX11_as 8 = .ok (.aload_n 0, 1) := by decide +kernel
theorem dX11_as_9 : decode cX11_as 9 = .ok (.iconst (-1), 1) := by decide +kernel
theorem dX11_as_10 : decode cX11_as 10 = .ok (.invokevirtual 114, 3) := by decide +kernel
theorem dX11_as_13 : decode cX11_as 13 = .ok (.ireturn, 1) := by decide +kernel
theorem dX11_as_14 : decode cX11_as 14 = .ok (.iload_n 2, 1) := by decide +kernel
theorem dX11_as_15 : decode cX11_as 15 = .ok (.i2l, 1) := by decide +kernel
theorem dX11_as_16 : decode cX11_as 16 = .ok (.lconst 0, 1) := by decide +kernel
theorem dX11_as_17 : decode cX11_as 17 = .ok (.ldc2_w 117, 3) := by decide +kernel
theorem dX11_as_20 : decode cX11_as 20 = .ok (.invokestatic 78, 3) := by decide +kernel
theorem dX11_as_23 : decode cX11_as 23 = .ok (.ifCond .ne 10, 3) := by decide +kernel
theorem dX11_as_26 : decode cX11_as 26 = .ok (.aload_n 0, 1) := by decide +kernel
theorem dX11_as_27 : decode cX11_as 27 = .ok (.bipush (-2), 2) := by decide +kernel
theorem dX11_as_29 : decode cX11_as 29 = .ok (.invokevirtual 114, 3) := by decide +kernel
theorem dX11_as_32 : decode cX11_as 32 = .ok (.ireturn, 1) := by decide +kernel
theorem dX11_as_33 : decode cX11_as 33 = .ok (.aload_n 0, 1) := by decide +kernel
theorem dX11_as_34 : decode cX11_as 34 = .ok (.getfield 7, 3) := by decide +kernel
theorem dX11_as_37 : decode cX11_as 37 = .ok (.iload_n 1, 1) := by decide +kernel
theorem dX11_as_38 : decode cX11_as 38 = .ok (.iaload, 1) := by decide +kernel
theorem dX11_as_39 : decode cX11_as 39 = .ok (.iload_n 2, 1) := by decide +kernel
theorem dX11_as_40 : decode cX11_as 40 = .ok (.if_icmp .lt 11, 3) := by decide +kernel
theorem dX11_as_43 : decode cX11_as 43 = .ok (.aload_n 0, 1) := by decide +kernel
theorem dX11_as_44 : decode cX11_as 44 = .ok (.iconst 1, 1) := by decide +kernel
theorem dX11_as_45 : decode cX11_as 45 = .ok (.invokevirtual 114, 3) := by decide +kernel
theorem dX11_as_48 : decode cX11_as 48 = .ok (.goto 8, 3) := by decide +kernel
theorem dX11_as_51 : decode cX11_as 51 = .ok (.aload_n 0, 1) := by decide +kernel
theorem dX11_as_52 : decode cX11_as 52 = .ok (.iconst 2, 1) := by decide +kernel
theorem dX11_as_53 : decode cX11_as 53 = .ok (.invokevirtual 102, 3) := by decide +kernel
theorem dX11_as_56 : decode cX11_as 56 = .ok (.ireturn, 1) := by decide +kernel
theorem dX11_trace_0 : decode cX11_trace 0 = .ok (.aload_n 0, 1) := by decide +kernel
theorem dX11_trace_1 : decode cX11_trace 1 = .ok (.getfield 208, 3) := by decide +kernel
theorem dX11_trace_4 : decode cX11_trace 4 = .ok (.ireturn, 1) := by decide +kernel
theorem dX11_fault_0 : decode cX11_fault 0 = .ok (.aload_n 0, 1) := by decide +kernel
theorem dX11_fault_1 : decode cX11_fault 1 = .ok (.getfield 67, 3) := by decide +kernel
theorem dX11_fault_4 : decode cX11_fault 4 = .ok (.ireturn, 1) := by decide +kernel
theorem dX11_many_0 : decode cX11_many 0 = .ok (.iload_n 1, 1) := by decide +kernel
theorem dX11_many_1 : decode cX11_many 1 = .ok (.tableswitch 51 0 3 #[31, 36, 41, 46], 31) := by decide +kernel
theorem dX11_many_32 : decode cX11_many 32 = .ok (.aload_n 0, 1) := by decide +kernel
theorem dX11_many_33 : decode cX11_many 33 = .ok (.getfield 75, 3) := by decide +kernel
theorem dX11_many_36 : decode cX11_many 36 = .ok (.ireturn, 1) := by decide +kernel
theorem dX11_many_37 : decode cX11_many 37 = .ok (.aload_n 0, 1) := by decide +kernel
theorem dX11_many_38 : decode cX11_many 38 = .ok (.getfield 129, 3) := by decide +kernel
theorem dX11_many_41 : decode cX11_many 41 = .ok (.ireturn, 1) := by decide +kernel
theorem dX11_many_42 : decode cX11_many 42 = .ok (.aload_n 0, 1) := by decide +kernel
theorem dX11_many_43 : decode cX11_many 43 = .ok (.getfield 132, 3) := by decide +kernel
theorem dX11_many_46 : decode cX11_many 46 = .ok (.ireturn, 1) := by decide +kernel
theorem dX11_many_47 : decode cX11_many 47 = .ok (.aload_n 0, 1) := by decide +kernel
theorem dX11_many_48 : decode cX11_many 48 = .ok (.getfield 135, 3) := by decide +kernel
theorem dX11_many_51 : decode cX11_many 51 = .ok (.ireturn, 1) := by decide +kernel
theorem dX11_many_52 : decode cX11_many 52 = .ok (.bipush (-2), 2) := by decide +kernel
theorem dX11_many_54 : decode cX11_many 54 = .ok (.ireturn, 1) := by decide +kernel
