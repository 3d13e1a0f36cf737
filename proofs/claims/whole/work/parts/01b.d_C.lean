theorem dX0_init_0 : decode cX0_init 0 = .ok (.aload_n 0, 1) := by decide +kernel
theorem dX0_init_1 : decode cX0_init 1 = .ok (.iload_n 1, 1) := by decide +kernel
theorem dX0_init_2 : decode cX0_init 2 = .ok (.iload_n 2, 1) := by decide +kernel
theorem dX0_init_3 : decode cX0_init 3 = .ok (.iload_n 3, 1) := by decide +kernel
theorem dX0_init_4 : decode cX0_init 4 = .ok (.invokespecial 3, 3) := by decide +kernel
theorem dX0_init_7 : decode cX0_init 7 = .ok (.return_, 1) := by decide +kernel
theorem dX0_kind_0 : decode cX0_kind 0 = .ok (.iconst 1, 1) := by decide +kernel
theorem dX0_kind_1 : decode cX0_kind 1 = .ok (.ireturn, 1) := by decide +kernel
theorem dX0_dares_0 : decode cX0_dares 0 = .ok (.aload_n 0, 1) := by decide +kernel
theorem dX0_dares_1 : decode cX0_dares 1 = .ok (.invokespecial 9, 3) := by decide +kernel
theorem dX0_dares_4 : decode cX0_dares 4 = .ok (.iconst 1, 1) := by decide +kernel
theorem dX0_dares_5 : decode cX0_dares 5 = .ok (.iadd, 1) := by decide +kernel
theorem dX0_dares_6 : decode cX0_dares 6 = .ok (.ireturn, 1) := by decide +kernel
theorem dX0_told_0 : decode cX0_told 0 = .ok (.aload_n 1, 1) := by decide +kernel
theorem dX0_told_1 : decode cX0_told 1 = .ok (.iconst 2, 1) := by decide +kernel
theorem dX0_told_2 : decode cX0_told 2 = .ok (.invokevirtual 13, 3) := by decide +kernel
theorem dX0_told_5 : decode cX0_told 5 = .ok (.aload_n 0, 1) := by decide +kernel
theorem dX0_told_6 : decode cX0_told 6 = .ok (.aload_n 1, 1) := by decide +kernel
theorem dX0_told_7 : decode cX0_told 7 = .ok (.invokespecial 19, 3) := by decide +kernel
theorem dX0_told_10 : decode cX0_told 10 = .ok (.bipush 100, 2) := by decide +kernel
theorem dX0_told_12 : decode cX0_told 12 = .ok (.iadd, 1) := by decide +kernel
theorem dX0_told_13 : decode cX0_told 13 = .ok (.ireturn, 1) := by decide +kernel
theorem dX1_init_0 : decode cX1_init 0 = .ok (.aload_n 0, 1) := by decide +kernel
theorem dX1_init_1 : decode cX1_init 1 = .ok (.invokespecial 3, 3) := by decide +kernel
theorem dX1_init_4 : decode cX1_init 4 = .ok (.aload_n 0, 1) := by decide +kernel
theorem dX1_init_5 : decode cX1_init 5 = .ok (.bipush 40, 2) := by decide +kernel
theorem dX1_init_7 : decode cX1_init 7 = .ok (.newarray .int, 2) := by decide +kernel
theorem dX1_init_9 : decode cX1_init 9 = .ok (.putfield 9, 3) := by decide +kernel
theorem dX1_init_12 : decode cX1_init 12 = .ok (.aload_n 0, 1) := by decide +kernel
theorem dX1_init_13 : decode cX1_init 13 = .ok (.bipush 7, 2) := by decide +kernel
theorem dX1_init_15 : decode cX1_init 15 = .ok (.newarray .int, 2) := by decide +kernel
theorem dX1_init_17 : decode cX1_init 17 = .ok (.putfield 15, 3) := by decide +kernel
theorem dX1_init_20 : decode cX1_init 20 = .ok (.return_, 1) := by decide +kernel
theorem dX1_pass_0 : decode cX1_pass 0 = .ok (.aload_n 2, 1) := by decide +kernel
theorem dX1_pass_1 : decode cX1_pass 1 = .ok (.invokevirtual 18, 3) := by decide +kernel
theorem dX1_pass_4 : decode cX1_pass 4 = .ok (.lstore_n 3, 1) := by decide +kernel
theorem dX1_pass_5 : decode cX1_pass 5 = .ok (.iconst 0, 1) := by decide +kernel
theorem dX1_pass_6 : decode cX1_pass 6 = .ok (.istore 5, 2) := by decide +kernel
theorem dX1_pass_8 : decode cX1_pass 8 = .ok (.iconst 1, 1) := by decide +kernel
theorem dX1_pass_9 : decode cX1_pass 9 = .ok (.istore 6, 2) := by decide +kernel
theorem dX1_pass_11 : decode cX1_pass 11 = .ok (.iconst 0, 1) := by decide +kernel
theorem dX1_pass_12 : decode cX1_pass 12 = .ok (.istore 7, 2) := by decide +kernel
theorem dX1_pass_14 : decode cX1_pass 14 = .ok (.iload 7, 2) := by decide +kernel
theorem dX1_pass_16 : decode cX1_pass 16 = .ok (.bipush 40, 2) := by decide +kernel
theorem dX1_pass_18 : decode cX1_pass 18 = .ok (.if_icmp .ge 93, 3) := by decide +kernel
theorem dX1_pass_21 : decode cX1_pass 21 = .ok (.iload 7, 2) := by decide +kernel
theorem dX1_pass_23 : decode cX1_pass 23 = .ok (.ifCond .eq 14, 3) := by decide +kernel
theorem dX1_pass_26 : decode cX1_pass 26 = .ok (.lload_n 3, 1) := by decide +kernel
theorem dX1_pass_27 : decode cX1_pass 27 = .ok (.iload 7, 2) := by decide +kernel
theorem dX1_pass_29 : decode cX1_pass 29 = .ok (.lshr, 1) := by decide +kernel
theorem dX1_pass_30 : decode cX1_pass 30 = .ok (.lconst 1, 1) := by decide +kernel
theorem dX1_pass_31 : decode cX1_pass 31 = .ok (.land, 1) := by decide +kernel
theorem dX1_pass_32 : decode cX1_pass 32 = .ok (.lconst 0, 1) := by decide +kernel
theorem dX1_pass_33 : decode cX1_pass 33 = .ok (.lcmp, 1) := by decide +kernel
theorem dX1_pass_34 : decode cX1_pass 34 = .ok (.ifCond .eq 7, 3) := by decide +kernel
theorem dX1_pass_37 : decode cX1_pass 37 = .ok (.iconst 1, 1) := by decide +kernel
theorem dX1_pass_38 : decode cX1_pass 38 = .ok (.goto 4, 3) := by decide +kernel
theorem dX1_pass_41 : decode cX1_pass 41 = .ok (.iconst 0, 1) := by decide +kernel
theorem dX1_pass_42 : decode cX1_pass 42 = .ok (.istore 8, 2) := by decide +kernel
theorem dX1_pass_44 : decode cX1_pass 44 = .ok (.iload 8, 2) := by decide +kernel
theorem dX1_pass_46 : decode cX1_pass 46 = .ok (.ifCond .eq 11, 3) := by decide +kernel
theorem dX1_pass_49 : decode cX1_pass 49 = .ok (.aload_n 0, 1) := by decide +kernel
theorem dX1_pass_50 : decode cX1_pass 50 = .ok (.aload_n 1, 1) := by decide +kernel
theorem dX1_pass_51 : decode cX1_pass 51 = .ok (.aload_n 2, 1) := by decide +kernel
theorem dX1_pass_52 : decode cX1_pass 52 = .ok (.iload 7, 2) := by decide +kernel
theorem dX1_pass_54 : decode cX1_pass 54 = .ok (.invokevirtual 24, 3) := by decide +kernel
theorem dX1_pass_57 : decode cX1_pass 57 = .ok (.iload 8, 2) := by decide +kernel
theorem dX1_pass_59 : decode cX1_pass 59 = .ok (.ifCond .ne 8, 3) := by decide +kernel
theorem dX1_pass_62 : decode cX1_pass 62 = .ok (.iload 6, 2) := by decide +kernel
theorem dX1_pass_64 : decode cX1_pass 64 = .ok (.ifCond .eq 32, 3) := by decide +kernel
theorem dX1_pass_67 : decode cX1_pass 67 = .ok (.aload_n 0, 1) := by decide +kernel
theorem dX1_pass_68 : decode cX1_pass 68 = .ok (.aload_n 1, 1) := by decide +kernel
theorem dX1_pass_69 : decode cX1_pass 69 = .ok (.aload_n 2, 1) := by decide +kernel
theorem dX1_pass_70 : decode cX1_pass 70 = .ok (.iload 5, 2) := by decide +kernel
theorem dX1_pass_72 : decode cX1_pass 72 = .ok (.invokevirtual 28, 3) := by decide +kernel
theorem dX1_pass_75 : decode cX1_pass 75 = .ok (.istore 9, 2) := by decide +kernel
theorem dX1_pass_77 : decode cX1_pass 77 = .ok (.iload 9, 2) := by decide +kernel
theorem dX1_pass_79 : decode cX1_pass 79 = .ok (.ifCond .eq 7, 3) := by decide +kernel
theorem dX1_pass_82 : decode cX1_pass 82 = .ok (.iconst 1, 1) := by decide +kernel
theorem dX1_pass_83 : decode cX1_pass 83 = .ok (.goto 4, 3) := by decide +kernel
theorem dX1_pass_86 : decode cX1_pass 86 = .ok (.iconst 0, 1) := by decide +kernel
theorem dX1_pass_87 : decode cX1_pass 87 = .ok (.istore 6, 2) := by decide +kernel
theorem dX1_pass_89 : decode cX1_pass 89 = .ok (.iload 5, 2) := by decide +kernel
theorem dX1_pass_91 : decode cX1_pass 91 = .ok (.iload 9, 2) := by decide +kernel
theorem dX1_pass_93 : decode cX1_pass 93 = .ok (.ior, 1) := by decide +kernel
theorem dX1_pass_94 : decode cX1_pass 94 = .ok (.istore 5, 2) := by decide +kernel
theorem dX1_pass_96 : decode cX1_pass 96 = .ok (.aload_n 0, 1) := by decide +kernel
theorem dX1_pass_97 : decode cX1_pass 97 = .ok (.getfield 9, 3) := by decide +kernel
theorem dX1_pass_100 : decode cX1_pass 100 = .ok (.iload 7, 2) := by decide +kernel
theorem dX1_pass_102 : decode cX1_pass 102 = .ok (.iload 5, 2) := by decide +kernel
theorem dX1_pass_104 : decode cX1_pass 104 = .ok (.iastore, 1) := by decide +kernel
theorem dX1_pass_105 : decode cX1_pass 105 = .ok (.iinc 7 1, 3) := by decide +kernel
theorem dX1_pass_108 : decode cX1_pass 108 = .ok (.goto (-94), 3) := by decide +kernel
theorem dX1_pass_111 : decode cX1_pass 111 = .ok (.return_, 1) := by decide +kernel
theorem dX1_reach_0 : decode cX1_reach 0 = .ok (.iconst 0, 1) := by decide +kernel
theorem dX1_reach_1 : decode cX1_reach 1 = .ok (.istore 4, 2) := by decide +kernel
theorem dX1_reach_3 : decode cX1_reach 3 = .ok (.iload 4, 2) := by decide +kernel
theorem dX1_reach_5 : decode cX1_reach 5 = .ok (.aload_n 1, 1) := by decide +kernel
theorem dX1_reach_6 : decode cX1_reach 6 = .ok (.invokevirtual 32, 3) := by decide +kernel
theorem dX1_reach_9 : decode cX1_reach 9 = .ok (.if_icmp .ge 39, 3) := by decide +kernel
theorem dX1_reach_12 : decode cX1_reach 12 = .ok (.iload 4, 2) := by decide +kernel
theorem dX1_reach_14 : decode cX1_reach 14 = .ok (.aload_n 0, 1) := by decide +kernel
theorem dX1_reach_15 : decode cX1_reach 15 = .ok (.getfield 15, 3) := by decide +kernel
theorem dX1_reach_18 : decode cX1_reach 18 = .ok (.arraylength, 1) := by decide +kernel
theorem dX1_reach_19 : decode cX1_reach 19 = .ok (.if_icmp .ge 29, 3) := by decide +kernel
theorem dX1_reach_22 : decode cX1_reach 22 = .ok (.aload_n 0, 1) := by decide +kernel
theorem dX1_reach_23 : decode cX1_reach 23 = .ok (.getfield 15, 3) := by decide +kernel
theorem dX1_reach_26 : decode cX1_reach 26 = .ok (.iload 4, 2) := by decide +kernel
theorem dX1_reach_28 : decode cX1_reach 28 = .ok (.aload_n 2, 1) := by decide +kernel
theorem dX1_reach_29 : decode cX1_reach 29 = .ok (.iload 4, 2) := by decide +kernel
theorem dX1_reach_31 : decode cX1_reach 31 = .ok (.aload_n 1, 1) := by decide +kernel
theorem dX1_reach_32 : decode cX1_reach 32 = .ok (.iload 4, 2) := by decide +kernel
theorem dX1_reach_34 : decode cX1_reach 34 = .ok (.invokevirtual 38, 3) := by decide +kernel
theorem dX1_reach_37 : decode cX1_reach 37 = .ok (.iload_n 3, 1) := by decide +kernel
theorem dX1_reach_38 : decode cX1_reach 38 = .ok (.invokevirtual 42, 3) := by decide +kernel
theorem dX1_reach_41 : decode cX1_reach 41 = .ok (.iastore, 1) := by decide +kernel
theorem dX1_reach_42 : decode cX1_reach 42 = .ok (.iinc 4 1, 3) := by decide +kernel
theorem dX1_reach_45 : decode cX1_reach 45 = .ok (.goto (-42), 3) := by decide +kernel
theorem dX1_reach_48 : decode cX1_reach 48 = .ok (.return_, 1) := by decide +kernel
theorem dX1_speaking_0 : decode cX1_speaking 0 = .ok (.aload_n 1, 1) := by decide +kernel
theorem dX1_speaking_1 : decode cX1_speaking 1 = .ok (.invokevirtual 46, 3) := by decide +kernel
theorem dX1_speaking_4 : decode cX1_speaking 4 = .ok (.iload_n 3, 1) := by decide +kernel
theorem dX1_speaking_5 : decode cX1_speaking 5 = .ok (.iconst (-1), 1) := by decide +kernel
theorem dX1_speaking_6 : decode cX1_speaking 6 = .ok (.ixor, 1) := by decide +kernel
theorem dX1_speaking_7 : decode cX1_speaking 7 = .ok (.iand, 1) := by decide +kernel
theorem dX1_speaking_8 : decode cX1_speaking 8 = .ok (.aload_n 2, 1) := by decide +kernel
theorem dX1_speaking_9 : decode cX1_speaking 9 = .ok (.invokevirtual 49, 3) := by decide +kernel
theorem dX1_speaking_12 : decode cX1_speaking 12 = .ok (.iconst (-1), 1) := by decide +kernel
theorem dX1_speaking_13 : decode cX1_speaking 13 = .ok (.ixor, 1) := by decide +kernel
theorem dX1_speaking_14 : decode cX1_speaking 14 = .ok (.iand, 1) := by decide +kernel
theorem dX1_speaking_15 : decode cX1_speaking 15 = .ok (.istore 4, 2) := by decide +kernel
theorem dX1_speaking_17 : decode cX1_speaking 17 = .ok (.iconst 0, 1) := by decide +kernel
theorem dX1_speaking_18 : decode cX1_speaking 18 = .ok (.istore 5, 2) := by decide +kernel
theorem dX1_speaking_20 : decode cX1_speaking 20 = .ok (.iconst 0, 1) := by decide +kernel
theorem dX1_speaking_21 : decode cX1_speaking 21 = .ok (.istore 6, 2) := by decide +kernel
theorem dX1_speaking_23 : decode cX1_speaking 23 = .ok (.iload 6, 2) := by decide +kernel
theorem dX1_speaking_25 : decode cX1_speaking 25 = .ok (.aload_n 1, 1) := by decide +kernel
theorem dX1_speaking_26 : decode cX1_speaking 26 = .ok (.invokevirtual 32, 3) := by decide +kernel
theorem dX1_speaking_29 : decode cX1_speaking 29 = .ok (.if_icmp .ge 70, 3) := by decide +kernel
theorem dX1_speaking_32 : decode cX1_speaking 32 = .ok (.iload 6, 2) := by decide +kernel
theorem dX1_speaking_34 : decode cX1_speaking 34 = .ok (.aload_n 0, 1) := by decide +kernel
theorem dX1_speaking_35 : decode cX1_speaking 35 = .ok (.getfield 15, 3) := by decide +kernel
theorem dX1_speaking_38 : decode cX1_speaking 38 = .ok (.arraylength, 1) := by decide +kernel
theorem dX1_speaking_39 : decode cX1_speaking 39 = .ok (.if_icmp .ge 60, 3) := by decide +kernel
theorem dX1_speaking_42 : decode cX1_speaking 42 = .ok (.iload_n 3, 1) := by decide +kernel
theorem dX1_speaking_43 : decode cX1_speaking 43 = .ok (.aload_n 1, 1) := by decide +kernel
theorem dX1_speaking_44 : decode cX1_speaking 44 = .ok (.iload 6, 2) := by decide +kernel
theorem dX1_speaking_46 : decode cX1_speaking 46 = .ok (.invokevirtual 38, 3) := by decide +kernel
theorem dX1_speaking_49 : decode cX1_speaking 49 = .ok (.iand, 1) := by decide +kernel
theorem dX1_speaking_50 : decode cX1_speaking 50 = .ok (.invokestatic 52, 3) := by decide +kernel
theorem dX1_speaking_53 : decode cX1_speaking 53 = .ok (.aload_n 0, 1) := by decide +kernel
theorem dX1_speaking_54 : decode cX1_speaking 54 = .ok (.getfield 15, 3) := by decide +kernel
theorem dX1_speaking_57 : decode cX1_speaking 57 = .ok (.iload 6, 2) := by decide +kernel
theorem dX1_speaking_59 : decode cX1_speaking 59 = .ok (.iaload, 1) := by decide +kernel
theorem dX1_speaking_60 : decode cX1_speaking 60 = .ok (.iadd, 1) := by decide +kernel
theorem dX1_speaking_61 : decode cX1_speaking 61 = .ok (.istore 7, 2) := by decide +kernel
theorem dX1_speaking_63 : decode cX1_speaking 63 = .ok (.iload 4, 2) := by decide +kernel
theorem dX1_speaking_65 : decode cX1_speaking 65 = .ok (.iload 6, 2) := by decide +kernel
theorem dX1_speaking_67 : decode cX1_speaking 67 = .ok (.invokestatic 57, 3) := by decide +kernel
theorem dX1_speaking_70 : decode cX1_speaking 70 = .ok (.ifCond .eq 23, 3) := by decide +kernel
theorem dX1_speaking_73 : decode cX1_speaking 73 = .ok (.iload 7, 2) := by decide +kernel
theorem dX1_speaking_75 : decode cX1_speaking 75 = .ok (.aload_n 1, 1) := by decide +kernel
theorem dX1_speaking_76 : decode cX1_speaking 76 = .ok (.iload 6, 2) := by decide +kernel
theorem dX1_speaking_78 : decode cX1_speaking 78 = .ok (.invokevirtual 61, 3) := by decide +kernel
theorem dX1_speaking_81 : decode cX1_speaking 81 = .ok (.if_icmp .lt 12, 3) := by decide +kernel
theorem dX1_speaking_84 : decode cX1_speaking 84 = .ok (.iload 5, 2) := by decide +kernel
theorem dX1_speaking_86 : decode cX1_speaking 86 = .ok (.iconst 1, 1) := by decide +kernel
theorem dX1_speaking_87 : decode cX1_speaking 87 = .ok (.iload 6, 2) := by decide +kernel
theorem dX1_speaking_89 : decode cX1_speaking 89 = .ok (.ishl, 1) := by decide +kernel
theorem dX1_speaking_90 : decode cX1_speaking 90 = .ok (.ior, 1) := by decide +kernel
theorem dX1_speaking_91 : decode cX1_speaking 91 = .ok (.istore 5, 2) := by decide +kernel
theorem dX1_speaking_93 : decode cX1_speaking 93 = .ok (.iinc 6 1, 3) := by decide +kernel
theorem dX1_speaking_96 : decode cX1_speaking 96 = .ok (.goto (-73), 3) := by decide +kernel
theorem dX1_speaking_99 : decode cX1_speaking 99 = .ok (.iload 5, 2) := by decide +kernel
theorem dX1_speaking_101 : decode cX1_speaking 101 = .ok (.ireturn, 1) := by decide +kernel
theorem dX1_saidBy_0 : decode cX1_saidBy 0 = .ok (.iload_n 1, 1) := by decide +kernel
theorem dX1_saidBy_1 : decode cX1_saidBy 1 = .ok (.invokestatic 64, 3) := by decide +kernel
theorem dX1_saidBy_4 : decode cX1_saidBy 4 = .ok (.ifCond .eq 12, 3) := by decide +kernel
theorem dX1_saidBy_7 : decode cX1_saidBy 7 = .ok (.aload_n 0, 1) := by decide +kernel
theorem dX1_saidBy_8 : decode cX1_saidBy 8 = .ok (.getfield 9, 3) := by decide +kernel
theorem dX1_saidBy_11 : decode cX1_saidBy 11 = .ok (.iload_n 1, 1) := by decide +kernel
theorem dX1_saidBy_12 : decode cX1_saidBy 12 = .ok (.iaload, 1) := by decide +kernel
theorem dX1_saidBy_13 : decode cX1_saidBy 13 = .ok (.goto 4, 3) := by decide +kernel
theorem dX1_saidBy_16 : decode cX1_saidBy 16 = .ok (.iconst 0, 1) := by decide +kernel
theorem dX1_saidBy_17 : decode cX1_saidBy 17 = .ok (.ireturn, 1) := by decide +kernel
theorem dX1_firstWith_0 : decode cX1_firstWith 0 = .ok (.iconst 0, 1) := by decide +kernel
theorem dX1_firstWith_1 : decode cX1_firstWith 1 = .ok (.istore_n 2, 1) := by decide +kernel
theorem dX1_firstWith_2 : decode cX1_firstWith 2 = .ok (.iload_n 2, 1) := by decide +kernel
theorem dX1_firstWith_3 : decode cX1_firstWith 3 = .ok (.bipush 40, 2) := by decide +kernel
theorem dX1_firstWith_5 : decode cX1_firstWith 5 = .ok (.if_icmp .ge 24, 3) := by decide +kernel
theorem dX1_firstWith_8 : decode cX1_firstWith 8 = .ok (.aload_n 0, 1) := by decide +kernel
theorem dX1_firstWith_9 : decode cX1_firstWith 9 = .ok (.getfield 9, 3) := by decide +kernel
theorem dX1_firstWith_12 : decode cX1_firstWith 12 = .ok (.iload_n 2, 1) := by decide +kernel
theorem dX1_firstWith_13 : decode cX1_firstWith 13 = .ok (.iaload, 1) := by decide +kernel
theorem dX1_firstWith_14 : decode cX1_firstWith 14 = .ok (.iload_n 1, 1) := by decide +kernel
theorem dX1_firstWith_15 : decode cX1_firstWith 15 = .ok (.invokestatic 57, 3) := by decide +kernel
theorem dX1_firstWith_18 : decode cX1_firstWith 18 = .ok (.ifCond .eq 5, 3) := by decide +kernel
theorem dX1_firstWith_21 : decode cX1_firstWith 21 = .ok (.iload_n 2, 1) := by decide +kernel
theorem dX1_firstWith_22 : decode cX1_firstWith 22 = .ok (.ireturn, 1) := by decide +kernel
theorem dX1_firstWith_23 : decode cX1_firstWith 23 = .ok (.iinc 2 1, 3) := by decide +kernel
theorem dX1_firstWith_26 : decode cX1_firstWith 26 = .ok (.goto (-24), 3) := by decide +kernel
theorem dX1_firstWith_29 : decode cX1_firstWith 29 = .ok (.bipush (-9), 2) := by decide +kernel
theorem dX1_firstWith_31 : decode cX1_firstWith 31 = .ok (.ireturn, 1) := by decide +kernel
theorem dX1_firstWithHalfOf_0 : decode cX1_firstWithHalfOf 0 = .ok (.iconst 0, 1) := by decide +kernel
theorem dX1_firstWithHalfOf_1 : decode cX1_firstWithHalfOf 1 = .ok (.istore_n 2, 1) := by decide +kernel
theorem dX1_firstWithHalfOf_2 : decode cX1_firstWithHalfOf 2 = .ok (.iload_n 2, 1) := by decide +kernel
theorem dX1_firstWithHalfOf_3 : decode cX1_firstWithHalfOf 3 = .ok (.bipush 40, 2) := by decide +kernel
theorem dX1_firstWithHalfOf_5 : decode cX1_firstWithHalfOf 5 = .ok (.if_icmp .ge 26, 3) := by decide +kernel
theorem dX1_firstWithHalfOf_8 : decode cX1_firstWithHalfOf 8 = .ok (.iconst 2, 1) := by decide +kernel
theorem dX1_firstWithHalfOf_9 : decode cX1_firstWithHalfOf 9 = .ok (.aload_n 0, 1) := by decide +kernel
theorem dX1_firstWithHalfOf_10 : decode cX1_firstWithHalfOf 10 = .ok (.getfield 9, 3) := by decide +kernel
theorem dX1_firstWithHalfOf_13 : decode cX1_firstWithHalfOf 13 = .ok (.iload_n 2, 1) := by decide +kernel
theorem dX1_firstWithHalfOf_14 : decode cX1_firstWithHalfOf 14 = .ok (.iaload, 1) := by decide +kernel
theorem dX1_firstWithHalfOf_15 : decode cX1_firstWithHalfOf 15 = .ok (.invokestatic 52, 3) := by decide +kernel
theorem dX1_firstWithHalfOf_18 : decode cX1_firstWithHalfOf 18 = .ok (.imul, 1) := by decide +kernel
theorem dX1_firstWithHalfOf_19 : decode cX1_firstWithHalfOf 19 = .ok (.iload_n 1, 1) := by decide +kernel
theorem dX1_firstWithHalfOf_20 : decode cX1_firstWithHalfOf 20 = .ok (.if_icmp .lt 5, 3) := by decide +kernel
theorem dX1_firstWithHalfOf_23 : decode cX1_firstWithHalfOf 23 = .ok (.iload_n 2, 1) := by decide +kernel
theorem dX1_firstWithHalfOf_24 : decode cX1_firstWithHalfOf 24 = .ok (.ireturn, 1) := by decide +kernel
theorem dX1_firstWithHalfOf_25 : decode cX1_firstWithHalfOf 25 = .ok (.iinc 2 1, 3) := by decide +kernel
theorem dX1_firstWithHalfOf_28 : decode cX1_firstWithHalfOf 28 = .ok (.goto (-26), 3) := by decide +kernel
theorem dX1_firstWithHalfOf_31 : decode cX1_firstWithHalfOf 31 = .ok (.bipush (-9), 2) := by decide +kernel
theorem dX1_firstWithHalfOf_33 : decode cX1_firstWithHalfOf 33 = .ok (.ireturn, 1) := by decide +kernel
theorem dX2_init_0 : decode cX2_init 0 = .ok (.aload_n 0, 1) := by decide +kernel
theorem dX2_init_1 : decode cX2_init 1 = .ok (.invokespecial 3, 3) := by decide +kernel
theorem dX2_init_4 : decode cX2_init 4 = .ok (.aload_n 0, 1) := by decide +kernel
theorem dX2_init_5 : decode cX2_init 5 = .ok (.bipush 8, 2) := by decide +kernel
theorem dX2_init_7 : decode cX2_init 7 = .ok (.newarray .int, 2) := by decide +kernel
theorem dX2_init_9 : decode cX2_init 9 = .ok (.putfield 9, 3) := by decide +kernel
theorem dX2_init_12 : decode cX2_init 12 = .ok (.aload_n 0, 1) := by decide +kernel
theorem dX2_init_13 : decode cX2_init 13 = .ok (.bipush 8, 2) := by decide +kernel
theorem dX2_init_15 : decode cX2_init 15 = .ok (.newarray .int, 2) := by decide +kernel
theorem dX2_init_17 : decode cX2_init 17 = .ok (.putfield 15, 3) := by decide +kernel
theorem dX2_init_20 : decode cX2_init 20 = .ok (.aload_n 0, 1) := by decide +kernel
theorem dX2_init_21 : decode cX2_init 21 = .ok (.bipush 8, 2) := by decide +kernel
theorem dX2_init_23 : decode cX2_init 23 = .ok (.newarray .boolean, 2) := by decide +kernel
theorem dX2_init_25 : decode cX2_init 25 = .ok (.putfield 18, 3) := by decide +kernel
theorem dX2_init_28 : decode cX2_init 28 = .ok (.return_, 1) := by decide +kernel
theorem dX2_clear_0 : decode cX2_clear 0 = .ok (.aload_n 0, 1) := by decide +kernel
theorem dX2_clear_1 : decode cX2_clear 1 = .ok (.iconst 0, 1) := by decide +kernel
theorem dX2_clear_2 : decode cX2_clear 2 = .ok (.putfield 22, 3) := by decide +kernel
theorem dX2_clear_5 : decode cX2_clear 5 = .ok (.return_, 1) := by decide +kernel
theorem dX2_size_0 : decode cX2_size 0 = .ok (.aload_n 0, 1) := by decide +kernel
theorem dX2_size_1 : decode cX2_size 1 = .ok (.getfield 22, 3) := by decide +kernel
theorem dX2_size_4 : decode cX2_size 4 = .ok (.ireturn, 1) := by decide +kernel
theorem dX2_add_0 : decode cX2_add 0 = .ok (.aload_n 0, 1) := by decide +kernel
theorem dX2_add_1 : decode cX2_add 1 = .ok (.getfield 22, 3) := by decide +kernel
theorem dX2_add_4 : decode cX2_add 4 = .ok (.bipush 8, 2) := by decide +kernel
theorem dX2_add_6 : decode cX2_add 6 = .ok (.if_icmp .ge 43, 3) := by decide +kernel
theorem dX2_add_9 : decode cX2_add 9 = .ok (.aload_n 0, 1) := by decide +kernel
theorem dX2_add_10 : decode cX2_add 10 = .ok (.getfield 9, 3) := by decide +kernel
theorem dX2_add_13 : decode cX2_add 13 = .ok (.aload_n 0, 1) := by decide +kernel
theorem dX2_add_14 : decode cX2_add 14 = .ok (.getfield 22, 3) := by decide +kernel
theorem dX2_add_17 : decode cX2_add 17 = .ok (.iload_n 1, 1) := by decide +kernel
theorem dX2_add_18 : decode cX2_add 18 = .ok (.iastore, 1) := by decide +kernel
theorem dX2_add_19 : decode cX2_add 19 = .ok (.aload_n 0, 1) := by decide +kernel
theorem dX2_add_20 : decode cX2_add 20 = .ok (.getfield 15, 3) := by decide +kernel
theorem dX2_add_23 : decode cX2_add 23 = .ok (.aload_n 0, 1) := by decide +kernel
theorem dX2_add_24 : decode cX2_add 24 = .ok (.getfield 22, 3) := by decide +kernel
theorem dX2_add_27 : decode cX2_add 27 = .ok (.iload_n 2, 1) := by decide +kernel
theorem dX2_add_28 : decode cX2_add 28 = .ok (.iastore, 1) := by decide +kernel
theorem dX2_add_29 : decode cX2_add 29 = .ok (.aload_n 0, 1) := by decide +kernel
theorem dX2_add_30 : decode cX2_add 30 = .ok (.getfield 18, 3) := by decide +kernel
theorem dX2_add_33 : decode cX2_add 33 = .ok (.aload_n 0, 1) := by decide +kernel
theorem dX2_add_34 : decode cX2_add 34 = .ok (.getfield 22, 3) := by decide +kernel
theorem dX2_add_37 : decode cX2_add 37 = .ok (.iload_n 3, 1) := by decide +kernel
theorem dX2_add_38 : decode cX2_add 38 = .ok (.bastore, 1) := by decide +kernel
theorem dX2_add_39 : decode cX2_add 39 = .ok (.aload_n 0, 1) := by decide +kernel
theorem dX2_add_40 : decode cX2_add 40 = .ok (.dup, 1) := by decide +kernel
theorem dX2_add_41 : decode cX2_add 41 = .ok (.getfield 22, 3) := by decide +kernel
theorem dX2_add_44 : decode cX2_add 44 = .ok (.iconst 1, 1) := by decide +kernel
theorem dX2_add_45 : decode cX2_add 45 = .ok (.iadd, 1) := by decide +kernel
theorem dX2_add_46 : decode cX2_add 46 = .ok (.putfield 22, 3) := by decide +kernel
theorem dX2_add_49 : decode cX2_add 49 = .ok (.return_, 1) := by decide +kernel
theorem dX2_drop_0 : decode cX2_drop 0 = .ok (.aload_n 0, 1) := by decide +kernel
theorem dX2_drop_1 : decode cX2_drop 1 = .ok (.iconst 0, 1) := by decide +kernel
theorem dX2_drop_2 : decode cX2_drop 2 = .ok (.aload_n 0, 1) := by decide +kernel
theorem dX2_drop_3 : decode cX2_drop 3 = .ok (.getfield 22, 3) := by decide +kernel
theorem dX2_drop_6 : decode cX2_drop 6 = .ok (.iload_n 1, 1) := by decide +kernel
theorem dX2_drop_7 : decode cX2_drop 7 = .ok (.isub, 1) := by decide +kernel
theorem dX2_drop_8 : decode cX2_drop 8 = .ok (.invokestatic 26, 3) := by decide +kernel
theorem dX2_drop_11 : decode cX2_drop 11 = .ok (.putfield 22, 3) := by decide +kernel
theorem dX2_drop_14 : decode cX2_drop 14 = .ok (.return_, 1) := by decide +kernel
theorem dX2_areAllSo_0 : decode cX2_areAllSo 0 = .ok (.iconst 0, 1) := by decide +kernel
theorem dX2_areAllSo_1 : decode cX2_areAllSo 1 = .ok (.istore_n 2, 1) := by decide +kernel
theorem dX2_areAllSo_2 : decode cX2_areAllSo 2 = .ok (.iload_n 2, 1) := by decide +kernel
theorem dX2_areAllSo_3 : decode cX2_areAllSo 3 = .ok (.aload_n 0, 1) := by decide +kernel
theorem dX2_areAllSo_4 : decode cX2_areAllSo 4 = .ok (.getfield 22, 3) := by decide +kernel
theorem dX2_areAllSo_7 : decode cX2_areAllSo 7 = .ok (.if_icmp .ge 39, 3) := by decide +kernel
theorem dX2_areAllSo_10 : decode cX2_areAllSo 10 = .ok (.aload_n 1, 1) := by decide +kernel
theorem dX2_areAllSo_11 : decode cX2_areAllSo 11 = .ok (.aload_n 0, 1) := by decide +kernel
theorem dX2_areAllSo_12 : decode cX2_areAllSo 12 = .ok (.getfield 15, 3) := by decide +kernel
theorem dX2_areAllSo_15 : decode cX2_areAllSo 15 = .ok (.iload_n 2, 1) := by decide +kernel
theorem dX2_areAllSo_16 : decode cX2_areAllSo 16 = .ok (.iaload, 1) := by decide +kernel
theorem dX2_areAllSo_17 : decode cX2_areAllSo 17 = .ok (.invokevirtual 32, 3) := by decide +kernel
theorem dX2_areAllSo_20 : decode cX2_areAllSo 20 = .ok (.aload_n 0, 1) := by decide +kernel
theorem dX2_areAllSo_21 : decode cX2_areAllSo 21 = .ok (.getfield 9, 3) := by decide +kernel
theorem dX2_areAllSo_24 : decode cX2_areAllSo 24 = .ok (.iload_n 2, 1) := by decide +kernel
theorem dX2_areAllSo_25 : decode cX2_areAllSo 25 = .ok (.iaload, 1) := by decide +kernel
theorem dX2_areAllSo_26 : decode cX2_areAllSo 26 = .ok (.invokestatic 38, 3) := by decide +kernel
theorem dX2_areAllSo_29 : decode cX2_areAllSo 29 = .ok (.aload_n 0, 1) := by decide +kernel
theorem dX2_areAllSo_30 : decode cX2_areAllSo 30 = .ok (.getfield 18, 3) := by decide +kernel
theorem dX2_areAllSo_33 : decode cX2_areAllSo 33 = .ok (.iload_n 2, 1) := by decide +kernel
theorem dX2_areAllSo_34 : decode cX2_areAllSo 34 = .ok (.baload, 1) := by decide +kernel
theorem dX2_areAllSo_35 : decode cX2_areAllSo 35 = .ok (.if_icmp .eq 5, 3) := by decide +kernel
theorem dX2_areAllSo_38 : decode cX2_areAllSo 38 = .ok (.iconst 0, 1) := by decide +kernel
theorem dX2_areAllSo_39 : decode cX2_areAllSo 39 = .ok (.ireturn, 1) := by decide +kernel
theorem dX2_areAllSo_40 : decode cX2_areAllSo 40 = .ok (.iinc 2 1, 3) := by decide +kernel
theorem dX2_areAllSo_43 : decode cX2_areAllSo 43 = .ok (.goto (-41), 3) := by decide +kernel
theorem dX2_areAllSo_46 : decode cX2_areAllSo 46 = .ok (.iconst 1, 1) := by decide +kernel
theorem dX2_areAllSo_47 : decode cX2_areAllSo 47 = .ok (.ireturn, 1) := by decide +kernel
theorem dX3_init_0 : decode cX3_init 0 = .ok (.aload_n 0, 1) := by decide +kernel
theorem dX3_init_1 : decode cX3_init 1 = .ok (.invokespecial 3, 3) := by decide +kernel
theorem dX3_init_4 : decode cX3_init 4 = .ok (.aload_n 0, 1) := by decide +kernel
theorem dX3_init_5 : decode cX3_init 5 = .ok (.bipush 60, 2) := by decide +kernel
theorem dX3_init_7 : decode cX3_init 7 = .ok (.newarray .int, 2) := by decide +kernel
theorem dX3_init_9 : decode cX3_init 9 = .ok (.putfield 9, 3) := by decide +kernel
theorem dX3_init_12 : decode cX3_init 12 = .ok (.return_, 1) := by decide +kernel
theorem dX3_isNothing_0 : decode cX3_isNothing 0 = .ok (.aload_n 0, 1) := by decide +kernel
theorem dX3_isNothing_1 : decode cX3_isNothing 1 = .ok (.getfield 15, 3) := by decide +kernel
theorem dX3_isNothing_4 : decode cX3_isNothing 4 = .ok (.ifCond .ne 7, 3) := by decide +kernel
theorem dX3_isNothing_7 : decode cX3_isNothing 7 = .ok (.iconst 1, 1) := by decide +kernel
theorem dX3_isNothing_8 : decode cX3_isNothing 8 = .ok (.goto 4, 3) := by decide +kernel
theorem dX3_isNothing_11 : decode cX3_isNothing 11 = .ok (.iconst 0, 1) := by decide +kernel
theorem dX3_isNothing_12 : decode cX3_isNothing 12 = .ok (.ireturn, 1) := by decide +kernel
theorem dX3_lane_0 : decode cX3_lane 0 = .ok (.aload_n 0, 1) := by decide +kernel
theorem dX3_lane_1 : decode cX3_lane 1 = .ok (.getfield 19, 3) := by decide +kernel
theorem dX3_lane_4 : decode cX3_lane 4 = .ok (.ireturn, 1) := by decide +kernel
theorem dX3_renew_0 : decode cX3_renew 0 = .ok (.iconst 0, 1) := by decide +kernel
theorem dX3_renew_1 : decode cX3_renew 1 = .ok (.istore_n 3, 1) := by decide +kernel
theorem dX3_renew_2 : decode cX3_renew 2 = .ok (.iload_n 3, 1) := by decide +kernel
theorem dX3_renew_3 : decode cX3_renew 3 = .ok (.aload_n 0, 1) := by decide +kernel
theorem dX3_renew_4 : decode cX3_renew 4 = .ok (.getfield 9, 3) := by decide +kernel
theorem dX3_renew_7 : decode cX3_renew 7 = .ok (.arraylength, 1) := by decide +kernel
theorem dX3_renew_8 : decode cX3_renew 8 = .ok (.if_icmp .ge 16, 3) := by decide +kernel
theorem dX3_renew_11 : decode cX3_renew 11 = .ok (.aload_n 0, 1) := by decide +kernel
theorem dX3_renew_12 : decode cX3_renew 12 = .ok (.getfield 9, 3) := by decide +kernel
theorem dX3_renew_15 : decode cX3_renew 15 = .ok (.iload_n 3, 1) := by decide +kernel
theorem dX3_renew_16 : decode cX3_renew 16 = .ok (.iconst 0, 1) := by decide +kernel
theorem dX3_renew_17 : decode cX3_renew 17 = .ok (.iastore, 1) := by decide +kernel
theorem dX3_renew_18 : decode cX3_renew 18 = .ok (.iinc 3 1, 3) := by decide +kernel
theorem dX3_renew_21 : decode cX3_renew 21 = .ok (.goto (-19), 3) := by decide +kernel
theorem dX3_renew_24 : decode cX3_renew 24 = .ok (.aload_n 0, 1) := by decide +kernel
theorem dX3_renew_25 : decode cX3_renew 25 = .ok (.iconst 1, 1) := by decide +kernel
theorem dX3_renew_26 : decode cX3_renew 26 = .ok (.putfield 15, 3) := by decide +kernel
theorem dX3_renew_29 : decode cX3_renew 29 = .ok (.aload_n 0, 1) := by decide +kernel
theorem dX3_renew_30 : decode cX3_renew 30 = .ok (.iload_n 1, 1) := by decide +kernel
theorem dX3_renew_31 : decode cX3_renew 31 = .ok (.putfield 19, 3) := by decide +kernel
theorem dX3_renew_34 : decode cX3_renew 34 = .ok (.aload_n 0, 1) := by decide +kernel
theorem dX3_renew_35 : decode cX3_renew 35 = .ok (.iload_n 2, 1) := by decide +kernel
theorem dX3_renew_36 : decode cX3_renew 36 = .ok (.ifCond .ge 7, 3) := by decide +kernel
theorem dX3_renew_39 : decode cX3_renew 39 = .ok (.iconst 0, 1) := by decide +kernel
theorem dX3_renew_40 : decode cX3_renew 40 = .ok (.goto 12, 3) := by decide +kernel
theorem dX3_renew_43 : decode cX3_renew 43 = .ok (.iload_n 2, 1) := by decide +kernel
theorem dX3_renew_44 : decode cX3_renew 44 = .ok (.aload_n 0, 1) := by decide +kernel
theorem dX3_renew_45 : decode cX3_renew 45 = .ok (.getfield 9, 3) := by decide +kernel
theorem dX3_renew_48 : decode cX3_renew 48 = .ok (.arraylength, 1) := by decide +kernel
theorem dX3_renew_49 : decode cX3_renew 49 = .ok (.invokestatic 23, 3) := by decide +kernel
theorem dX3_renew_52 : decode cX3_renew 52 = .ok (.putfield 29, 3) := by decide +kernel
theorem dX3_renew_55 : decode cX3_renew 55 = .ok (.return_, 1) := by decide +kernel
theorem dX3_drop_0 : decode cX3_drop 0 = .ok (.aload_n 0, 1) := by decide +kernel
theorem dX3_drop_1 : decode cX3_drop 1 = .ok (.iconst 0, 1) := by decide +kernel
theorem dX3_drop_2 : decode cX3_drop 2 = .ok (.putfield 15, 3) := by decide +kernel
theorem dX3_drop_5 : decode cX3_drop 5 = .ok (.aload_n 0, 1) := by decide +kernel
theorem dX3_drop_6 : decode cX3_drop 6 = .ok (.iconst 0, 1) := by decide +kernel
theorem dX3_drop_7 : decode cX3_drop 7 = .ok (.putfield 29, 3) := by decide +kernel
theorem dX3_drop_10 : decode cX3_drop 10 = .ok (.return_, 1) := by decide +kernel
theorem dX3_hasCell_0 : decode cX3_hasCell 0 = .ok (.iload_n 1, 1) := by decide +kernel
theorem dX3_hasCell_1 : decode cX3_hasCell 1 = .ok (.ifCond .lt 15, 3) := by decide +kernel
theorem dX3_hasCell_4 : decode cX3_hasCell 4 = .ok (.iload_n 1, 1) := by decide +kernel
theorem dX3_hasCell_5 : decode cX3_hasCell 5 = .ok (.aload_n 0, 1) := by decide +kernel
theorem dX3_hasCell_6 : decode cX3_hasCell 6 = .ok (.getfield 29, 3) := by decide +kernel
theorem dX3_hasCell_9 : decode cX3_hasCell 9 = .ok (.if_icmp .ge 7, 3) := by decide +kernel
theorem dX3_hasCell_12 : decode cX3_hasCell 12 = .ok (.iconst 1, 1) := by decide +kernel
theorem dX3_hasCell_13 : decode cX3_hasCell 13 = .ok (.goto 4, 3) := by decide +kernel
theorem dX3_hasCell_16 : decode cX3_hasCell 16 = .ok (.iconst 0, 1) := by decide +kernel
theorem dX3_hasCell_17 : decode cX3_hasCell 17 = .ok (.ireturn, 1) := by decide +kernel
theorem dX3_hasCells_0 : decode cX3_hasCells 0 = .ok (.iload_n 1, 1) := by decide +kernel
theorem dX3_hasCells_1 : decode cX3_hasCells 1 = .ok (.ifCond .lt 29, 3) := by decide +kernel
theorem dX3_hasCells_4 : decode cX3_hasCells 4 = .ok (.iload_n 1, 1) := by decide +kernel
theorem dX3_hasCells_5 : decode cX3_hasCells 5 = .ok (.aload_n 0, 1) := by decide +kernel
theorem dX3_hasCells_6 : decode cX3_hasCells 6 = .ok (.getfield 29, 3) := by decide +kernel
theorem dX3_hasCells_9 : decode cX3_hasCells 9 = .ok (.if_icmp .gt 21, 3) := by decide +kernel
theorem dX3_hasCells_12 : decode cX3_hasCells 12 = .ok (.iload_n 2, 1) := by decide +kernel
theorem dX3_hasCells_13 : decode cX3_hasCells 13 = .ok (.ifCond .lt 17, 3) := by decide +kernel
theorem dX3_hasCells_16 : decode cX3_hasCells 16 = .ok (.iload_n 2, 1) := by decide +kernel
theorem dX3_hasCells_17 : decode cX3_hasCells 17 = .ok (.aload_n 0, 1) := by decide +kernel
theorem dX3_hasCells_18 : decode cX3_hasCells 18 = .ok (.getfield 29, 3) := by decide +kernel
theorem dX3_hasCells_21 : decode cX3_hasCells 21 = .ok (.iload_n 1, 1) := by decide +kernel
theorem dX3_hasCells_22 : decode cX3_hasCells 22 = .ok (.isub, 1) := by decide +kernel
theorem dX3_hasCells_23 : decode cX3_hasCells 23 = .ok (.if_icmp .gt 7, 3) := by decide +kernel
theorem dX3_hasCells_26 : decode cX3_hasCells 26 = .ok (.iconst 1, 1) := by decide +kernel
theorem dX3_hasCells_27 : decode cX3_hasCells 27 = .ok (.goto 4, 3) := by decide +kernel
theorem dX3_hasCells_30 : decode cX3_hasCells 30 = .ok (.iconst 0, 1) := by decide +kernel
theorem dX3_hasCells_31 : decode cX3_hasCells 31 = .ok (.ireturn, 1) := by decide +kernel
theorem dX3_at_0 : decode cX3_at 0 = .ok (.aload_n 0, 1) := by decide +kernel
theorem dX3_at_1 : decode cX3_at 1 = .ok (.iload_n 1, 1) := by decide +kernel
theorem dX3_at_2 : decode cX3_at 2 = .ok (.invokevirtual 32, 3) := by decide +kernel
theorem dX3_at_5 : decode cX3_at 5 = .ok (.ifCond .eq 12, 3) := by decide +kernel
theorem dX3_at_8 : decode cX3_at 8 = .ok (.aload_n 0, 1) := by decide +kernel
theorem dX3_at_9 : decode cX3_at 9 = .ok (.getfield 9, 3) := by decide +kernel
theorem dX3_at_12 : decode cX3_at 12 = .ok (.iload_n 1, 1) := by decide +kernel
theorem dX3_at_13 : decode cX3_at 13 = .ok (.iaload, 1) := by decide +kernel
theorem dX3_at_14 : decode cX3_at 14 = .ok (.goto 4, 3) := by decide +kernel
theorem dX3_at_17 : decode cX3_at 17 = .ok (.iconst 0, 1) := by decide +kernel
theorem dX3_at_18 : decode cX3_at 18 = .ok (.ireturn, 1) := by decide +kernel
theorem dX3_set_0 : decode cX3_set 0 = .ok (.aload_n 0, 1) := by decide +kernel
theorem dX3_set_1 : decode cX3_set 1 = .ok (.iload_n 1, 1) := by decide +kernel
theorem dX3_set_2 : decode cX3_set 2 = .ok (.invokevirtual 32, 3) := by decide +kernel
theorem dX3_set_5 : decode cX3_set 5 = .ok (.ifCond .eq 14, 3) := by decide +kernel
theorem dX3_set_8 : decode cX3_set 8 = .ok (.aload_n 0, 1) := by decide +kernel
theorem dX3_set_9 : decode cX3_set 9 = .ok (.getfield 9, 3) := by decide +kernel
theorem dX3_set_12 : decode cX3_set 12 = .ok (.iload_n 1, 1) := by decide +kernel
theorem dX3_set_13 : decode cX3_set 13 = .ok (.aload_n 0, 1) := by decide +kernel
theorem dX3_set_14 : decode cX3_set 14 = .ok (.iload_n 2, 1) := by decide +kernel
theorem dX3_set_15 : decode cX3_set 15 = .ok (.invokevirtual 36, 3) := by decide +kernel
theorem dX3_set_18 : decode cX3_set 18 = .ok (.iastore, 1) := by decide +kernel
theorem dX3_set_19 : decode cX3_set 19 = .ok (.return_, 1) := by decide +kernel
theorem dX3_takeCells_0 : decode cX3_takeCells 0 = .ok (.aload_n 0, 1) := by decide +kernel
theorem dX3_takeCells_1 : decode cX3_takeCells 1 = .ok (.iload_n 1, 1) := by decide +kernel
theorem dX3_takeCells_2 : decode cX3_takeCells 2 = .ok (.iload 4, 2) := by decide +kernel
theorem dX3_takeCells_4 : decode cX3_takeCells 4 = .ok (.invokevirtual 40, 3) := by decide +kernel
theorem dX3_takeCells_7 : decode cX3_takeCells 7 = .ok (.ifCond .eq 28, 3) := by decide +kernel
theorem dX3_takeCells_10 : decode cX3_takeCells 10 = .ok (.aload_n 2, 1) := by decide +kernel
theorem dX3_takeCells_11 : decode cX3_takeCells 11 = .ok (.iload_n 3, 1) := by decide +kernel
theorem dX3_takeCells_12 : decode cX3_takeCells 12 = .ok (.iload 4, 2) := by decide +kernel
theorem dX3_takeCells_14 : decode cX3_takeCells 14 = .ok (.invokevirtual 40, 3) := by decide +kernel
theorem dX3_takeCells_17 : decode cX3_takeCells 17 = .ok (.ifCond .eq 18, 3) := by decide +kernel
theorem dX3_takeCells_20 : decode cX3_takeCells 20 = .ok (.aload_n 2, 1) := by decide +kernel
theorem dX3_takeCells_21 : decode cX3_takeCells 21 = .ok (.getfield 9, 3) := by decide +kernel
theorem dX3_takeCells_24 : decode cX3_takeCells 24 = .ok (.iload_n 3, 1) := by decide +kernel
theorem dX3_takeCells_25 : decode cX3_takeCells 25 = .ok (.aload_n 0, 1) := by decide +kernel
theorem dX3_takeCells_26 : decode cX3_takeCells 26 = .ok (.getfield 9, 3) := by decide +kernel
theorem dX3_takeCells_29 : decode cX3_takeCells 29 = .ok (.iload_n 1, 1) := by decide +kernel
theorem dX3_takeCells_30 : decode cX3_takeCells 30 = .ok (.iload 4, 2) := by decide +kernel
theorem dX3_takeCells_32 : decode cX3_takeCells 32 = .ok (.invokestatic 44, 3) := by decide +kernel
theorem dX3_takeCells_35 : decode cX3_takeCells 35 = .ok (.return_, 1) := by decide +kernel
theorem dX3_faultOfLane_0 : decode cX3_faultOfLane 0 = .ok (.aload_n 0, 1) := by decide +kernel
theorem dX3_faultOfLane_1 : decode cX3_faultOfLane 1 = .ok (.getfield 15, 3) := by decide +kernel
theorem dX3_faultOfLane_4 : decode cX3_faultOfLane 4 = .ok (.ifCond .ne 5, 3) := by decide +kernel
theorem dX3_faultOfLane_7 : decode cX3_faultOfLane 7 = .ok (.iconst 1, 1) := by decide +kernel
theorem dX3_faultOfLane_8 : decode cX3_faultOfLane 8 = .ok (.ireturn, 1) := by decide +kernel
theorem dX3_faultOfLane_9 : decode cX3_faultOfLane 9 = .ok (.iload_n 1, 1) := by decide +kernel
theorem dX3_faultOfLane_10 : decode cX3_faultOfLane 10 = .ok (.aload_n 0, 1) := by decide +kernel
theorem dX3_faultOfLane_11 : decode cX3_faultOfLane 11 = .ok (.getfield 19, 3) := by decide +kernel
theorem dX3_faultOfLane_14 : decode cX3_faultOfLane 14 = .ok (.if_icmp .ne 7, 3) := by decide +kernel
theorem dX3_faultOfLane_17 : decode cX3_faultOfLane 17 = .ok (.iconst 0, 1) := by decide +kernel
theorem dX3_faultOfLane_18 : decode cX3_faultOfLane 18 = .ok (.goto 4, 3) := by decide +kernel
theorem dX3_faultOfLane_21 : decode cX3_faultOfLane 21 = .ok (.iconst 2, 1) := by decide +kernel
theorem dX3_faultOfLane_22 : decode cX3_faultOfLane 22 = .ok (.ireturn, 1) := by decide +kernel
theorem dX3_faultOfTaking_0 : decode cX3_faultOfTaking 0 = .ok (.aload_n 0, 1) := by decide +kernel
theorem dX3_faultOfTaking_1 : decode cX3_faultOfTaking 1 = .ok (.iload_n 1, 1) := by decide +kernel
theorem dX3_faultOfTaking_2 : decode cX3_faultOfTaking 2 = .ok (.invokevirtual 50, 3) := by decide +kernel
theorem dX3_faultOfTaking_5 : decode cX3_faultOfTaking 5 = .ok (.istore 4, 2) := by decide +kernel
theorem dX3_faultOfTaking_7 : decode cX3_faultOfTaking 7 = .ok (.iload 4, 2) := by decide +kernel
theorem dX3_faultOfTaking_9 : decode cX3_faultOfTaking 9 = .ok (.ifCond .eq 6, 3) := by decide +kernel
theorem dX3_faultOfTaking_12 : decode cX3_faultOfTaking 12 = .ok (.iload 4, 2) := by decide +kernel
theorem dX3_faultOfTaking_14 : decode cX3_faultOfTaking 14 = .ok (.ireturn, 1) := by decide +kernel
theorem dX3_faultOfTaking_15 : decode cX3_faultOfTaking 15 = .ok (.iload_n 3, 1) := by decide +kernel
theorem dX3_faultOfTaking_16 : decode cX3_faultOfTaking 16 = .ok (.ifCond .ge 5, 3) := by decide +kernel
theorem dX3_faultOfTaking_19 : decode cX3_faultOfTaking 19 = .ok (.iconst 4, 1) := by decide +kernel
theorem dX3_faultOfTaking_20 : decode cX3_faultOfTaking 20 = .ok (.ireturn, 1) := by decide +kernel
theorem dX3_faultOfTaking_21 : decode cX3_faultOfTaking 21 = .ok (.aload_n 0, 1) := by decide +kernel
theorem dX3_faultOfTaking_22 : decode cX3_faultOfTaking 22 = .ok (.iload_n 2, 1) := by decide +kernel
theorem dX3_faultOfTaking_23 : decode cX3_faultOfTaking 23 = .ok (.iload_n 3, 1) := by decide +kernel
theorem dX3_faultOfTaking_24 : decode cX3_faultOfTaking 24 = .ok (.invokevirtual 40, 3) := by decide +kernel
theorem dX3_faultOfTaking_27 : decode cX3_faultOfTaking 27 = .ok (.ifCond .eq 7, 3) := by decide +kernel
theorem dX3_faultOfTaking_30 : decode cX3_faultOfTaking 30 = .ok (.iconst 0, 1) := by decide +kernel
theorem dX3_faultOfTaking_31 : decode cX3_faultOfTaking 31 = .ok (.goto 4, 3) := by decide +kernel
theorem dX3_faultOfTaking_34 : decode cX3_faultOfTaking 34 = .ok (.iconst 3, 1) := by decide +kernel
theorem dX3_faultOfTaking_35 : decode cX3_faultOfTaking 35 = .ok (.ireturn, 1) := by decide +kernel
theorem dX3_cut_0 : decode cX3_cut 0 = .ok (.aload_n 0, 1) := by decide +kernel
theorem dX3_cut_1 : decode cX3_cut 1 = .ok (.getfield 19, 3) := by decide +kernel
theorem dX3_cut_4 : decode cX3_cut 4 = .ok (.ifCond .ne 6, 3) := by decide +kernel
theorem dX3_cut_7 : decode cX3_cut 7 = .ok (.iload_n 1, 1) := by decide +kernel
theorem dX3_cut_8 : decode cX3_cut 8 = .ok (.i2b, 1) := by decide +kernel
theorem dX3_cut_9 : decode cX3_cut 9 = .ok (.ireturn, 1) := by decide +kernel
theorem dX3_cut_10 : decode cX3_cut 10 = .ok (.aload_n 0, 1) := by decide +kernel
theorem dX3_cut_11 : decode cX3_cut 11 = .ok (.getfield 19, 3) := by decide +kernel
theorem dX3_cut_14 : decode cX3_cut 14 = .ok (.iconst 1, 1) := by decide +kernel
theorem dX3_cut_15 : decode cX3_cut 15 = .ok (.if_icmp .ne 8, 3) := by decide +kernel
theorem dX3_cut_18 : decode cX3_cut 18 = .ok (.iload_n 1, 1) := by decide +kernel
theorem dX3_cut_19 : decode cX3_cut 19 = .ok (.i2s, 1) := by decide +kernel
theorem dX3_cut_20 : decode cX3_cut 20 = .ok (.goto 4, 3) := by decide +kernel
theorem dX3_cut_23 : decode cX3_cut 23 = .ok (.iload_n 1, 1) := by decide +kernel
theorem dX3_cut_24 : decode cX3_cut 24 = .ok (.ireturn, 1) := by decide +kernel
theorem dX4_init_0 : decode cX4_init 0 = .ok (.aload_n 0, 1) := by decide +kernel
theorem dX4_init_1 : decode cX4_init 1 = .ok (.invokespecial 3, 3) := by decide +kernel
theorem dX4_init_4 : decode cX4_init 4 = .ok (.aload_n 0, 1) := by decide +kernel
theorem dX4_init_5 : decode cX4_init 5 = .ok (.bipush 7, 2) := by decide +kernel
theorem dX4_init_7 : decode cX4_init 7 = .ok (.anewarray 9, 3) := by decide +kernel
theorem dX4_init_10 : decode cX4_init 10 = .ok (.putfield 11, 3) := by decide +kernel
theorem dX4_init_13 : decode cX4_init 13 = .ok (.aload_n 0, 1) := by decide +kernel
theorem dX4_init_14 : decode cX4_init 14 = .ok (.bipush 7, 2) := by decide +kernel
theorem dX4_init_16 : decode cX4_init 16 = .ok (.newarray .int, 2) := by decide +kernel
theorem dX4_init_18 : decode cX4_init 18 = .ok (.putfield 17, 3) := by decide +kernel
theorem dX4_init_21 : decode cX4_init 21 = .ok (.aload_n 0, 1) := by decide +kernel
theorem dX4_init_22 : decode cX4_init 22 = .ok (.bipush 7, 2) := by decide +kernel
theorem dX4_init_24 : decode cX4_init 24 = .ok (.newarray .int, 2) := by decide +kernel
theorem dX4_init_26 : decode cX4_init 26 = .ok (.putfield 21, 3) := by decide +kernel
theorem dX4_init_29 : decode cX4_init 29 = .ok (.return_, 1) := by decide +kernel
theorem dX4_firstWrong_0 : decode cX4_firstWrong 0 = .ok (.iconst 0, 1) := by decide +kernel
theorem dX4_firstWrong_1 : decode cX4_firstWrong 1 = .ok (.istore_n 3, 1) := by decide +kernel
theorem dX4_firstWrong_2 : decode cX4_firstWrong 2 = .ok (.iload_n 3, 1) := by decide +kernel
theorem dX4_firstWrong_3 : decode cX4_firstWrong 3 = .ok (.iload_n 2, 1) := by decide +kernel
theorem dX4_firstWrong_4 : decode cX4_firstWrong 4 = .ok (.if_icmp .ge 25, 3) := by decide +kernel
theorem dX4_firstWrong_7 : decode cX4_firstWrong 7 = .ok (.iload_n 3, 1) := by decide +kernel
theorem dX4_firstWrong_8 : decode cX4_firstWrong 8 = .ok (.aload_n 0, 1) := by decide +kernel
theorem dX4_firstWrong_9 : decode cX4_firstWrong 9 = .ok (.iload_n 1, 1) := by decide +kernel
theorem dX4_firstWrong_10 : decode cX4_firstWrong 10 = .ok (.iload_n 3, 1) := by decide +kernel
theorem dX4_firstWrong_11 : decode cX4_firstWrong 11 = .ok (.iadd, 1) := by decide +kernel
theorem dX4_firstWrong_12 : decode cX4_firstWrong 12 = .ok (.invokevirtual 24, 3) := by decide +kernel
theorem dX4_firstWrong_15 : decode cX4_firstWrong 15 = .ok (.invokestatic 30, 3) := by decide +kernel
theorem dX4_firstWrong_18 : decode cX4_firstWrong 18 = .ok (.ifCond .ne 5, 3) := by decide +kernel
theorem dX4_firstWrong_21 : decode cX4_firstWrong 21 = .ok (.iload_n 3, 1) := by decide +kernel
theorem dX4_firstWrong_22 : decode cX4_firstWrong 22 = .ok (.ireturn, 1) := by decide +kernel
theorem dX4_firstWrong_23 : decode cX4_firstWrong 23 = .ok (.iinc 3 1, 3) := by decide +kernel
theorem dX4_firstWrong_26 : decode cX4_firstWrong 26 = .ok (.goto (-24), 3) := by decide +kernel
theorem dX4_firstWrong_29 : decode cX4_firstWrong 29 = .ok (.iload_n 2, 1) := by decide +kernel
theorem dX4_firstWrong_30 : decode cX4_firstWrong 30 = .ok (.bipush 8, 2) := by decide +kernel
theorem dX4_firstWrong_32 : decode cX4_firstWrong 32 = .ok (.if_icmp .le 14, 3) := by decide +kernel
theorem dX4_firstWrong_35 : decode cX4_firstWrong 35 = .ok (.iload_n 2, 1) := by decide +kernel
theorem dX4_firstWrong_36 : decode cX4_firstWrong 36 = .ok (.iconst 4, 1) := by decide +kernel
theorem dX4_firstWrong_37 : decode cX4_firstWrong 37 = .ok (.irem, 1) := by decide +kernel
theorem dX4_firstWrong_38 : decode cX4_firstWrong 38 = .ok (.iconst 1, 1) := by decide +kernel
theorem dX4_firstWrong_39 : decode cX4_firstWrong 39 = .ok (.if_icmp .ne 7, 3) := by decide +kernel
theorem dX4_firstWrong_42 : decode cX4_firstWrong 42 = .ok (.iconst 1, 1) := by decide +kernel
theorem dX4_firstWrong_43 : decode cX4_firstWrong 43 = .ok (.goto 4, 3) := by decide +kernel
theorem dX4_firstWrong_46 : decode cX4_firstWrong 46 = .ok (.iconst 0, 1) := by decide +kernel
theorem dX4_firstWrong_47 : decode cX4_firstWrong 47 = .ok (.istore_n 3, 1) := by decide +kernel
theorem dX4_firstWrong_48 : decode cX4_firstWrong 48 = .ok (.iload_n 3, 1) := by decide +kernel
theorem dX4_firstWrong_49 : decode cX4_firstWrong 49 = .ok (.ifCond .eq 8, 3) := by decide +kernel
theorem dX4_firstWrong_52 : decode cX4_firstWrong 52 = .ok (.bipush (-9), 2) := by decide +kernel
theorem dX4_firstWrong_54 : decode cX4_firstWrong 54 = .ok (.goto 4, 3) := by decide +kernel
theorem dX4_firstWrong_57 : decode cX4_firstWrong 57 = .ok (.iload_n 2, 1) := by decide +kernel
theorem dX4_firstWrong_58 : decode cX4_firstWrong 58 = .ok (.ireturn, 1) := by decide +kernel
theorem dX4_goesOn_0 : decode cX4_goesOn 0 = .ok (.iload_n 0, 1) := by decide +kernel
theorem dX4_goesOn_1 : decode cX4_goesOn 1 = .ok (.ifCond .ne 15, 3) := by decide +kernel
theorem dX4_goesOn_4 : decode cX4_goesOn 4 = .ok (.iload_n 1, 1) := by decide +kernel
theorem dX4_goesOn_5 : decode cX4_goesOn 5 = .ok (.bipush 110, 2) := by decide +kernel
theorem dX4_goesOn_7 : decode cX4_goesOn 7 = .ok (.if_icmp .ne 7, 3) := by decide +kernel
theorem dX4_goesOn_10 : decode cX4_goesOn 10 = .ok (.iconst 1, 1) := by decide +kernel
theorem dX4_goesOn_11 : decode cX4_goesOn 11 = .ok (.goto 4, 3) := by decide +kernel
theorem dX4_goesOn_14 : decode cX4_goesOn 14 = .ok (.iconst 0, 1) := by decide +kernel
theorem dX4_goesOn_15 : decode cX4_goesOn 15 = .ok (.ireturn, 1) := by decide +kernel
theorem dX4_goesOn_16 : decode cX4_goesOn 16 = .ok (.iload_n 0, 1) := by decide +kernel
theorem dX4_goesOn_17 : decode cX4_goesOn 17 = .ok (.iconst 4, 1) := by decide +kernel
theorem dX4_goesOn_18 : decode cX4_goesOn 18 = .ok (.irem, 1) := by decide +kernel
theorem dX4_goesOn_19 : decode cX4_goesOn 19 = .ok (.tableswitch 85 1 3 #[25, 43, 67], 25) := by decide +kernel
theorem dX4_goesOn_44 : decode cX4_goesOn 44 = .ok (.iload_n 1, 1) := by decide +kernel
theorem dX4_goesOn_45 : decode cX4_goesOn 45 = .ok (.bipush 59, 2) := by decide +kernel
theorem dX4_goesOn_47 : decode cX4_goesOn 47 = .ok (.if_icmp .ne 13, 3) := by decide +kernel
theorem dX4_goesOn_50 : decode cX4_goesOn 50 = .ok (.iload_n 0, 1) := by decide +kernel
theorem dX4_goesOn_51 : decode cX4_goesOn 51 = .ok (.bipush 28, 2) := by decide +kernel
theorem dX4_goesOn_53 : decode cX4_goesOn 53 = .ok (.if_icmp .ge 7, 3) := by decide +kernel
theorem dX4_goesOn_56 : decode cX4_goesOn 56 = .ok (.iconst 1, 1) := by decide +kernel
theorem dX4_goesOn_57 : decode cX4_goesOn 57 = .ok (.goto 4, 3) := by decide +kernel
theorem dX4_goesOn_60 : decode cX4_goesOn 60 = .ok (.iconst 0, 1) := by decide +kernel
theorem dX4_goesOn_61 : decode cX4_goesOn 61 = .ok (.ireturn, 1) := by decide +kernel
theorem dX4_goesOn_62 : decode cX4_goesOn 62 = .ok (.iload_n 1, 1) := by decide +kernel
theorem dX4_goesOn_63 : decode cX4_goesOn 63 = .ok (.bipush 115, 2) := by decide +kernel
theorem dX4_goesOn_65 : decode cX4_goesOn 65 = .ok (.if_icmp .eq 15, 3) := by decide +kernel
theorem dX4_goesOn_68 : decode cX4_goesOn 68 = .ok (.iload_n 1, 1) := by decide +kernel
theorem dX4_goesOn_69 : decode cX4_goesOn 69 = .ok (.bipush 99, 2) := by decide +kernel
theorem dX4_goesOn_71 : decode cX4_goesOn 71 = .ok (.if_icmp .eq 9, 3) := by decide +kernel
theorem dX4_goesOn_74 : decode cX4_goesOn 74 = .ok (.iload_n 1, 1) := by decide +kernel
theorem dX4_goesOn_75 : decode cX4_goesOn 75 = .ok (.bipush 116, 2) := by decide +kernel
theorem dX4_goesOn_77 : decode cX4_goesOn 77 = .ok (.if_icmp .ne 7, 3) := by decide +kernel
theorem dX4_goesOn_80 : decode cX4_goesOn 80 = .ok (.iconst 1, 1) := by decide +kernel
theorem dX4_goesOn_81 : decode cX4_goesOn 81 = .ok (.goto 4, 3) := by decide +kernel
theorem dX4_goesOn_84 : decode cX4_goesOn 84 = .ok (.iconst 0, 1) := by decide +kernel
theorem dX4_goesOn_85 : decode cX4_goesOn 85 = .ok (.ireturn, 1) := by decide +kernel
theorem dX4_goesOn_86 : decode cX4_goesOn 86 = .ok (.iload_n 1, 1) := by decide +kernel
theorem dX4_goesOn_87 : decode cX4_goesOn 87 = .ok (.bipush 48, 2) := by decide +kernel
theorem dX4_goesOn_89 : decode cX4_goesOn 89 = .ok (.if_icmp .lt 13, 3) := by decide +kernel
theorem dX4_goesOn_92 : decode cX4_goesOn 92 = .ok (.iload_n 1, 1) := by decide +kernel
theorem dX4_goesOn_93 : decode cX4_goesOn 93 = .ok (.bipush 53, 2) := by decide +kernel
theorem dX4_goesOn_95 : decode cX4_goesOn 95 = .ok (.if_icmp .gt 7, 3) := by decide +kernel
theorem dX4_goesOn_98 : decode cX4_goesOn 98 = .ok (.iconst 1, 1) := by decide +kernel
theorem dX4_goesOn_99 : decode cX4_goesOn 99 = .ok (.goto 4, 3) := by decide +kernel
theorem dX4_goesOn_102 : decode cX4_goesOn 102 = .ok (.iconst 0, 1) := by decide +kernel
theorem dX4_goesOn_103 : decode cX4_goesOn 103 = .ok (.ireturn, 1) := by decide +kernel
theorem dX4_goesOn_104 : decode cX4_goesOn 104 = .ok (.iload_n 1, 1) := by decide +kernel
theorem dX4_goesOn_105 : decode cX4_goesOn 105 = .ok (.bipush 48, 2) := by decide +kernel
theorem dX4_goesOn_107 : decode cX4_goesOn 107 = .ok (.if_icmp .lt 13, 3) := by decide +kernel
theorem dX4_goesOn_110 : decode cX4_goesOn 110 = .ok (.iload_n 1, 1) := by decide +kernel
theorem dX4_goesOn_111 : decode cX4_goesOn 111 = .ok (.bipush 54, 2) := by decide +kernel
theorem dX4_goesOn_113 : decode cX4_goesOn 113 = .ok (.if_icmp .gt 7, 3) := by decide +kernel
theorem dX4_goesOn_116 : decode cX4_goesOn 116 = .ok (.iconst 1, 1) := by decide +kernel
theorem dX4_goesOn_117 : decode cX4_goesOn 117 = .ok (.goto 4, 3) := by decide +kernel
theorem dX4_goesOn_120 : decode cX4_goesOn 120 = .ok (.iconst 0, 1) := by decide +kernel
theorem dX4_goesOn_121 : decode cX4_goesOn 121 = .ok (.ireturn, 1) := by decide +kernel
theorem dX4_settle_0 : decode cX4_settle 0 = .ok (.aload_n 0, 1) := by decide +kernel
theorem dX4_settle_1 : decode cX4_settle 1 = .ok (.iload_n 3, 1) := by decide +kernel
theorem dX4_settle_2 : decode cX4_settle 2 = .ok (.iconst 4, 1) := by decide +kernel
theorem dX4_settle_3 : decode cX4_settle 3 = .ok (.idiv, 1) := by decide +kernel
theorem dX4_settle_4 : decode cX4_settle 4 = .ok (.bipush 7, 2) := by decide +kernel
theorem dX4_settle_6 : decode cX4_settle 6 = .ok (.invokestatic 34, 3) := by decide +kernel
theorem dX4_settle_9 : decode cX4_settle 9 = .ok (.putfield 40, 3) := by decide +kernel
theorem dX4_settle_12 : decode cX4_settle 12 = .ok (.iconst 0, 1) := by decide +kernel
theorem dX4_settle_13 : decode cX4_settle 13 = .ok (.istore 4, 2) := by decide +kernel
theorem dX4_settle_15 : decode cX4_settle 15 = .ok (.iload 4, 2) := by decide +kernel
theorem dX4_settle_17 : decode cX4_settle 17 = .ok (.aload_n 0, 1) := by decide +kernel
theorem dX4_settle_18 : decode cX4_settle 18 = .ok (.getfield 40, 3) := by decide +kernel
theorem dX4_settle_21 : decode cX4_settle 21 = .ok (.if_icmp .ge 93, 3) := by decide +kernel
theorem dX4_settle_24 : decode cX4_settle 24 = .ok (.iload_n 2, 1) := by decide +kernel
theorem dX4_settle_25 : decode cX4_settle 25 = .ok (.iconst 2, 1) := by decide +kernel
theorem dX4_settle_26 : decode cX4_settle 26 = .ok (.iadd, 1) := by decide +kernel
theorem dX4_settle_27 : decode cX4_settle 27 = .ok (.iload 4, 2) := by decide +kernel
theorem dX4_settle_29 : decode cX4_settle 29 = .ok (.iconst 4, 1) := by decide +kernel
theorem dX4_settle_30 : decode cX4_settle 30 = .ok (.imul, 1) := by decide +kernel
theorem dX4_settle_31 : decode cX4_settle 31 = .ok (.iadd, 1) := by decide +kernel
theorem dX4_settle_32 : decode cX4_settle 32 = .ok (.istore 5, 2) := by decide +kernel
theorem dX4_settle_34 : decode cX4_settle 34 = .ok (.aload_n 1, 1) := by decide +kernel
theorem dX4_settle_35 : decode cX4_settle 35 = .ok (.iload 5, 2) := by decide +kernel
theorem dX4_settle_37 : decode cX4_settle 37 = .ok (.invokevirtual 24, 3) := by decide +kernel
theorem dX4_settle_40 : decode cX4_settle 40 = .ok (.iload 4, 2) := by decide +kernel
theorem dX4_settle_42 : decode cX4_settle 42 = .ok (.aload_n 1, 1) := by decide +kernel
theorem dX4_settle_43 : decode cX4_settle 43 = .ok (.iload 5, 2) := by decide +kernel
theorem dX4_settle_45 : decode cX4_settle 45 = .ok (.iconst 1, 1) := by decide +kernel
theorem dX4_settle_46 : decode cX4_settle 46 = .ok (.iadd, 1) := by decide +kernel
theorem dX4_settle_47 : decode cX4_settle 47 = .ok (.invokevirtual 24, 3) := by decide +kernel
theorem dX4_settle_50 : decode cX4_settle 50 = .ok (.bipush 48, 2) := by decide +kernel
theorem dX4_settle_52 : decode cX4_settle 52 = .ok (.isub, 1) := by decide +kernel
theorem dX4_settle_53 : decode cX4_settle 53 = .ok (.aload_n 1, 1) := by decide +kernel
theorem dX4_settle_54 : decode cX4_settle 54 = .ok (.iload 5, 2) := by decide +kernel
theorem dX4_settle_56 : decode cX4_settle 56 = .ok (.iconst 2, 1) := by decide +kernel
theorem dX4_settle_57 : decode cX4_settle 57 = .ok (.iadd, 1) := by decide +kernel
theorem dX4_settle_58 : decode cX4_settle 58 = .ok (.invokevirtual 24, 3) := by decide +kernel
theorem dX4_settle_61 : decode cX4_settle 61 = .ok (.bipush 48, 2) := by decide +kernel
theorem dX4_settle_63 : decode cX4_settle 63 = .ok (.isub, 1) := by decide +kernel
theorem dX4_settle_64 : decode cX4_settle 64 = .ok (.invokestatic 44, 3) := by decide +kernel
theorem dX4_settle_67 : decode cX4_settle 67 = .ok (.astore 6, 2) := by decide +kernel
theorem dX4_settle_69 : decode cX4_settle 69 = .ok (.aload_n 0, 1) := by decide +kernel
theorem dX4_settle_70 : decode cX4_settle 70 = .ok (.getfield 11, 3) := by decide +kernel
theorem dX4_settle_73 : decode cX4_settle 73 = .ok (.iload 4, 2) := by decide +kernel
theorem dX4_settle_75 : decode cX4_settle 75 = .ok (.aload 6, 2) := by decide +kernel
theorem dX4_settle_77 : decode cX4_settle 77 = .ok (.aastore, 1) := by decide +kernel
theorem dX4_settle_78 : decode cX4_settle 78 = .ok (.aload_n 0, 1) := by decide +kernel
theorem dX4_settle_79 : decode cX4_settle 79 = .ok (.getfield 17, 3) := by decide +kernel
theorem dX4_settle_82 : decode cX4_settle 82 = .ok (.iload 4, 2) := by decide +kernel
theorem dX4_settle_84 : decode cX4_settle 84 = .ok (.aload_n 0, 1) := by decide +kernel
theorem dX4_settle_85 : decode cX4_settle 85 = .ok (.iload 4, 2) := by decide +kernel
theorem dX4_settle_87 : decode cX4_settle 87 = .ok (.aload 6, 2) := by decide +kernel
theorem dX4_settle_89 : decode cX4_settle 89 = .ok (.getfield 48, 3) := by decide +kernel
theorem dX4_settle_92 : decode cX4_settle 92 = .ok (.invokevirtual 51, 3) := by decide +kernel
theorem dX4_settle_95 : decode cX4_settle 95 = .ok (.iastore, 1) := by decide +kernel
theorem dX4_settle_96 : decode cX4_settle 96 = .ok (.aload_n 0, 1) := by decide +kernel
theorem dX4_settle_97 : decode cX4_settle 97 = .ok (.getfield 21, 3) := by decide +kernel
theorem dX4_settle_100 : decode cX4_settle 100 = .ok (.iload 4, 2) := by decide +kernel
theorem dX4_settle_102 : decode cX4_settle 102 = .ok (.aload 6, 2) := by decide +kernel
theorem dX4_settle_104 : decode cX4_settle 104 = .ok (.invokevirtual 54, 3) := by decide +kernel
theorem dX4_settle_107 : decode cX4_settle 107 = .ok (.iastore, 1) := by decide +kernel
theorem dX4_settle_108 : decode cX4_settle 108 = .ok (.iinc 4 1, 3) := by decide +kernel
theorem dX4_settle_111 : decode cX4_settle 111 = .ok (.goto (-96), 3) := by decide +kernel
theorem dX4_settle_114 : decode cX4_settle 114 = .ok (.return_, 1) := by decide +kernel
theorem dX4_born_0 : decode cX4_born 0 = .ok (.iload_n 0, 1) := by decide +kernel
theorem dX4_born_1 : decode cX4_born 1 = .ok (.bipush 116, 2) := by decide +kernel
theorem dX4_born_3 : decode cX4_born 3 = .ok (.if_icmp .ne 14, 3) := by decide +kernel
theorem dX4_born_6 : decode cX4_born 6 = .ok (.new 58, 3) := by decide +kernel
theorem dX4_born_9 : decode cX4_born 9 = .ok (.dup, 1) := by decide +kernel
theorem dX4_born_10 : decode cX4_born 10 = .ok (.iload_n 1, 1) := by decide +kernel
theorem dX4_born_11 : decode cX4_born 11 = .ok (.iload_n 2, 1) := by decide +kernel
theorem dX4_born_12 : decode cX4_born 12 = .ok (.iload_n 3, 1) := by decide +kernel
theorem dX4_born_13 : decode cX4_born 13 = .ok (.invokespecial 60, 3) := by decide +kernel
theorem dX4_born_16 : decode cX4_born 16 = .ok (.areturn, 1) := by decide +kernel
theorem dX4_born_17 : decode cX4_born 17 = .ok (.iload_n 0, 1) := by decide +kernel
theorem dX4_born_18 : decode cX4_born 18 = .ok (.bipush 99, 2) := by decide +kernel
theorem dX4_born_20 : decode cX4_born 20 = .ok (.if_icmp .ne 16, 3) := by decide +kernel
theorem dX4_born_23 : decode cX4_born 23 = .ok (.new 63, 3) := by decide +kernel
theorem dX4_born_26 : decode cX4_born 26 = .ok (.dup, 1) := by decide +kernel
theorem dX4_born_27 : decode cX4_born 27 = .ok (.iload_n 1, 1) := by decide +kernel
theorem dX4_born_28 : decode cX4_born 28 = .ok (.iload_n 2, 1) := by decide +kernel
theorem dX4_born_29 : decode cX4_born 29 = .ok (.iload_n 3, 1) := by decide +kernel
theorem dX4_born_30 : decode cX4_born 30 = .ok (.invokespecial 65, 3) := by decide +kernel
theorem dX4_born_33 : decode cX4_born 33 = .ok (.goto 13, 3) := by decide +kernel
theorem dX4_born_36 : decode cX4_born 36 = .ok (.new 9, 3) := by decide +kernel
theorem dX4_born_39 : decode cX4_born 39 = .ok (.dup, 1) := by decide +kernel
theorem dX4_born_40 : decode cX4_born 40 = .ok (.iload_n 1, 1) := by decide +kernel
theorem dX4_born_41 : decode cX4_born 41 = .ok (.iload_n 2, 1) := by decide +kernel
theorem dX4_born_42 : decode cX4_born 42 = .ok (.iload_n 3, 1) := by decide +kernel
theorem dX4_born_43 : decode cX4_born 43 = .ok (.invokespecial 66, 3) := by decide +kernel
theorem dX4_born_46 : decode cX4_born 46 = .ok (.areturn, 1) := by decide +kernel
theorem dX4_placesWithin_0 : decode cX4_placesWithin 0 = .ok (.iconst 0, 1) := by decide +kernel
theorem dX4_placesWithin_1 : decode cX4_placesWithin 1 = .ok (.istore_n 3, 1) := by decide +kernel
theorem dX4_placesWithin_2 : decode cX4_placesWithin 2 = .ok (.iconst 0, 1) := by decide +kernel
theorem dX4_placesWithin_3 : decode cX4_placesWithin 3 = .ok (.istore 4, 2) := by decide +kernel
theorem dX4_placesWithin_5 : decode cX4_placesWithin 5 = .ok (.iload 4, 2) := by decide +kernel
theorem dX4_placesWithin_7 : decode cX4_placesWithin 7 = .ok (.aload_n 0, 1) := by decide +kernel
theorem dX4_placesWithin_8 : decode cX4_placesWithin 8 = .ok (.getfield 40, 3) := by decide +kernel
theorem dX4_placesWithin_11 : decode cX4_placesWithin 11 = .ok (.if_icmp .ge 27, 3) := by decide +kernel
theorem dX4_placesWithin_14 : decode cX4_placesWithin 14 = .ok (.iload 4, 2) := by decide +kernel
theorem dX4_placesWithin_16 : decode cX4_placesWithin 16 = .ok (.iload_n 1, 1) := by decide +kernel
theorem dX4_placesWithin_17 : decode cX4_placesWithin 17 = .ok (.isub, 1) := by decide +kernel
theorem dX4_placesWithin_18 : decode cX4_placesWithin 18 = .ok (.invokestatic 67, 3) := by decide +kernel
theorem dX4_placesWithin_21 : decode cX4_placesWithin 21 = .ok (.iload_n 2, 1) := by decide +kernel
theorem dX4_placesWithin_22 : decode cX4_placesWithin 22 = .ok (.if_icmp .gt 10, 3) := by decide +kernel
theorem dX4_placesWithin_25 : decode cX4_placesWithin 25 = .ok (.iload_n 3, 1) := by decide +kernel
theorem dX4_placesWithin_26 : decode cX4_placesWithin 26 = .ok (.iconst 1, 1) := by decide +kernel
theorem dX4_placesWithin_27 : decode cX4_placesWithin 27 = .ok (.iload 4, 2) := by decide +kernel
theorem dX4_placesWithin_29 : decode cX4_placesWithin 29 = .ok (.ishl, 1) := by decide +kernel
theorem dX4_placesWithin_30 : decode cX4_placesWithin 30 = .ok (.ior, 1) := by decide +kernel
theorem dX4_placesWithin_31 : decode cX4_placesWithin 31 = .ok (.istore_n 3, 1) := by decide +kernel
theorem dX4_placesWithin_32 : decode cX4_placesWithin 32 = .ok (.iinc 4 1, 3) := by decide +kernel
theorem dX4_placesWithin_35 : decode cX4_placesWithin 35 = .ok (.goto (-30), 3) := by decide +kernel
theorem dX4_placesWithin_38 : decode cX4_placesWithin 38 = .ok (.iload_n 3, 1) := by decide +kernel
theorem dX4_placesWithin_39 : decode cX4_placesWithin 39 = .ok (.ireturn, 1) := by decide +kernel
theorem dX4_isEmpty_0 : decode cX4_isEmpty 0 = .ok (.aload_n 0, 1) := by decide +kernel
theorem dX4_isEmpty_1 : decode cX4_isEmpty 1 = .ok (.getfield 40, 3) := by decide +kernel
theorem dX4_isEmpty_4 : decode cX4_isEmpty 4 = .ok (.ifCond .ne 7, 3) := by decide +kernel
theorem dX4_isEmpty_7 : decode cX4_isEmpty 7 = .ok (.iconst 1, 1) := by decide +kernel
theorem dX4_isEmpty_8 : decode cX4_isEmpty 8 = .ok (.goto 4, 3) := by decide +kernel
theorem dX4_isEmpty_11 : decode cX4_isEmpty 11 = .ok (.iconst 0, 1) := by decide +kernel
theorem dX4_isEmpty_12 : decode cX4_isEmpty 12 = .ok (.ireturn, 1) := by decide +kernel
theorem dX4_size_0 : decode cX4_size 0 = .ok (.aload_n 0, 1) := by decide +kernel
theorem dX4_size_1 : decode cX4_size 1 = .ok (.getfield 40, 3) := by decide +kernel
theorem dX4_size_4 : decode cX4_size 4 = .ok (.ireturn, 1) := by decide +kernel
theorem dX4_everyone_0 : decode cX4_everyone 0 = .ok (.iconst 1, 1) := by decide +kernel
theorem dX4_everyone_1 : decode cX4_everyone 1 = .ok (.aload_n 0, 1) := by decide +kernel
theorem dX4_everyone_2 : decode cX4_everyone 2 = .ok (.getfield 40, 3) := by decide +kernel
theorem dX4_everyone_5 : decode cX4_everyone 5 = .ok (.ishl, 1) := by decide +kernel
theorem dX4_everyone_6 : decode cX4_everyone 6 = .ok (.iconst 1, 1) := by decide +kernel
theorem dX4_everyone_7 : decode cX4_everyone 7 = .ok (.isub, 1) := by decide +kernel
theorem dX4_everyone_8 : decode cX4_everyone 8 = .ok (.ireturn, 1) := by decide +kernel
theorem dX4_has_0 : decode cX4_has 0 = .ok (.iload_n 1, 1) := by decide +kernel
theorem dX4_has_1 : decode cX4_has 1 = .ok (.ifCond .lt 15, 3) := by decide +kernel
theorem dX4_has_4 : decode cX4_has 4 = .ok (.iload_n 1, 1) := by decide +kernel
theorem dX4_has_5 : decode cX4_has 5 = .ok (.aload_n 0, 1) := by decide +kernel
theorem dX4_has_6 : decode cX4_has 6 = .ok (.getfield 40, 3) := by decide +kernel
theorem dX4_has_9 : decode cX4_has 9 = .ok (.if_icmp .ge 7, 3) := by decide +kernel
theorem dX4_has_12 : decode cX4_has 12 = .ok (.iconst 1, 1) := by decide +kernel
theorem dX4_has_13 : decode cX4_has 13 = .ok (.goto 4, 3) := by decide +kernel
theorem dX4_has_16 : decode cX4_has 16 = .ok (.iconst 0, 1) := by decide +kernel
theorem dX4_has_17 : decode cX4_has 17 = .ok (.ireturn, 1) := by decide +kernel
theorem dX4_at_0 : decode cX4_at 0 = .ok (.aload_n 0, 1) := by decide +kernel
theorem dX4_at_1 : decode cX4_at 1 = .ok (.iload_n 1, 1) := by decide +kernel
theorem dX4_at_2 : decode cX4_at 2 = .ok (.invokevirtual 70, 3) := by decide +kernel
theorem dX4_at_5 : decode cX4_at 5 = .ok (.ifCond .eq 12, 3) := by decide +kernel
theorem dX4_at_8 : decode cX4_at 8 = .ok (.aload_n 0, 1) := by decide +kernel
theorem dX4_at_9 : decode cX4_at 9 = .ok (.getfield 11, 3) := by decide +kernel
theorem dX4_at_12 : decode cX4_at 12 = .ok (.iload_n 1, 1) := by decide +kernel
theorem dX4_at_13 : decode cX4_at 13 = .ok (.aaload, 1) := by decide +kernel
theorem dX4_at_14 : decode cX4_at 14 = .ok (.goto 4, 3) := by decide +kernel
theorem dX4_at_17 : decode cX4_at 17 = .ok (.aconst_null, 1) := by decide +kernel
theorem dX4_at_18 : decode cX4_at 18 = .ok (.areturn, 1) := by decide +kernel
theorem dX4_inEar_0 : decode cX4_inEar 0 = .ok (.iload_n 1, 1) := by decide +kernel
theorem dX4_inEar_1 : decode cX4_inEar 1 = .ok (.ifCond .lt 20, 3) := by decide +kernel
theorem dX4_inEar_4 : decode cX4_inEar 4 = .ok (.iload_n 1, 1) := by decide +kernel
theorem dX4_inEar_5 : decode cX4_inEar 5 = .ok (.aload_n 0, 1) := by decide +kernel
theorem dX4_inEar_6 : decode cX4_inEar 6 = .ok (.getfield 40, 3) := by decide +kernel
theorem dX4_inEar_9 : decode cX4_inEar 9 = .ok (.if_icmp .ge 12, 3) := by decide +kernel
theorem dX4_inEar_12 : decode cX4_inEar 12 = .ok (.aload_n 0, 1) := by decide +kernel
theorem dX4_inEar_13 : decode cX4_inEar 13 = .ok (.getfield 17, 3) := by decide +kernel
theorem dX4_inEar_16 : decode cX4_inEar 16 = .ok (.iload_n 1, 1) := by decide +kernel
theorem dX4_inEar_17 : decode cX4_inEar 17 = .ok (.iaload, 1) := by decide +kernel
theorem dX4_inEar_18 : decode cX4_inEar 18 = .ok (.goto 4, 3) := by decide +kernel
theorem dX4_inEar_21 : decode cX4_inEar 21 = .ok (.iconst 0, 1) := by decide +kernel
theorem dX4_inEar_22 : decode cX4_inEar 22 = .ok (.ireturn, 1) := by decide +kernel
theorem dX4_dares_0 : decode cX4_dares 0 = .ok (.iload_n 1, 1) := by decide +kernel
theorem dX4_dares_1 : decode cX4_dares 1 = .ok (.ifCond .lt 20, 3) := by decide +kernel
theorem dX4_dares_4 : decode cX4_dares 4 = .ok (.iload_n 1, 1) := by decide +kernel
theorem dX4_dares_5 : decode cX4_dares 5 = .ok (.aload_n 0, 1) := by decide +kernel
theorem dX4_dares_6 : decode cX4_dares 6 = .ok (.getfield 40, 3) := by decide +kernel
theorem dX4_dares_9 : decode cX4_dares 9 = .ok (.if_icmp .ge 12, 3) := by decide +kernel
theorem dX4_dares_12 : decode cX4_dares 12 = .ok (.aload_n 0, 1) := by decide +kernel
theorem dX4_dares_13 : decode cX4_dares 13 = .ok (.getfield 21, 3) := by decide +kernel
theorem dX4_dares_16 : decode cX4_dares 16 = .ok (.iload_n 1, 1) := by decide +kernel
theorem dX4_dares_17 : decode cX4_dares 17 = .ok (.iaload, 1) := by decide +kernel
theorem dX4_dares_18 : decode cX4_dares 18 = .ok (.goto 4, 3) := by decide +kernel
theorem dX4_dares_21 : decode cX4_dares 21 = .ok (.iconst 0, 1) := by decide +kernel
theorem dX4_dares_22 : decode cX4_dares 22 = .ok (.ireturn, 1) := by decide +kernel
theorem dX5_init_0 : decode cX5_init 0 = .ok (.aload_n 0, 1) := by decide +kernel
theorem dX5_init_1 : decode cX5_init 1 = .ok (.invokespecial 3, 3) := by decide +kernel
theorem dX5_init_4 : decode cX5_init 4 = .ok (.aload_n 0, 1) := by decide +kernel
theorem dX5_init_5 : decode cX5_init 5 = .ok (.iload_n 1, 1) := by decide +kernel
theorem dX5_init_6 : decode cX5_init 6 = .ok (.putfield 9, 3) := by decide +kernel
theorem dX5_init_9 : decode cX5_init 9 = .ok (.aload_n 0, 1) := by decide +kernel
theorem dX5_init_10 : decode cX5_init 10 = .ok (.iload_n 2, 1) := by decide +kernel
theorem dX5_init_11 : decode cX5_init 11 = .ok (.putfield 15, 3) := by decide +kernel
theorem dX5_init_14 : decode cX5_init 14 = .ok (.aload_n 0, 1) := by decide +kernel
theorem dX5_init_15 : decode cX5_init 15 = .ok (.iload_n 3, 1) := by decide +kernel
theorem dX5_init_16 : decode cX5_init 16 = .ok (.putfield 18, 3) := by decide +kernel
theorem dX5_init_19 : decode cX5_init 19 = .ok (.return_, 1) := by decide +kernel
theorem dX5_kind_0 : decode cX5_kind 0 = .ok (.iconst 0, 1) := by decide +kernel
theorem dX5_kind_1 : decode cX5_kind 1 = .ok (.ireturn, 1) := by decide +kernel
theorem dX5_dares_0 : decode cX5_dares 0 = .ok (.aload_n 0, 1) := by decide +kernel
theorem dX5_dares_1 : decode cX5_dares 1 = .ok (.getfield 15, 3) := by decide +kernel
theorem dX5_dares_4 : decode cX5_dares 4 = .ok (.ireturn, 1) := by decide +kernel
theorem dX5_told_0 : decode cX5_told 0 = .ok (.aload_n 0, 1) := by decide +kernel
theorem dX5_told_1 : decode cX5_told 1 = .ok (.aload_n 1, 1) := by decide +kernel
theorem dX5_told_2 : decode cX5_told 2 = .ok (.invokevirtual 21, 3) := by decide +kernel
theorem dX5_told_5 : decode cX5_told 5 = .ok (.ireturn, 1) := by decide +kernel
theorem dX5_toldAsSubject_0 : decode cX5_toldAsSubject 0 = .ok (.aload_n 1, 1) := by decide +kernel
theorem dX5_toldAsSubject_1 : decode cX5_toldAsSubject 1 = .ok (.iconst 1, 1) := by decide +kernel
theorem dX5_toldAsSubject_2 : decode cX5_toldAsSubject 2 = .ok (.invokevirtual 25, 3) := by decide +kernel
theorem dX5_toldAsSubject_5 : decode cX5_toldAsSubject 5 = .ok (.aload_n 0, 1) := by decide +kernel
theorem dX5_toldAsSubject_6 : decode cX5_toldAsSubject 6 = .ok (.getfield 15, 3) := by decide +kernel
theorem dX5_toldAsSubject_9 : decode cX5_toldAsSubject 9 = .ok (.ireturn, 1) := by decide +kernel
theorem dX5_bowedTo_0 : decode cX5_bowedTo 0 = .ok (.aload_n 1, 1) := by decide +kernel
theorem dX5_bowedTo_1 : decode cX5_bowedTo 1 = .ok (.iconst 4, 1) := by decide +kernel
theorem dX5_bowedTo_2 : decode cX5_bowedTo 2 = .ok (.invokevirtual 25, 3) := by decide +kernel
theorem dX5_bowedTo_5 : decode cX5_bowedTo 5 = .ok (.aload_n 0, 1) := by decide +kernel
theorem dX5_bowedTo_6 : decode cX5_bowedTo 6 = .ok (.getfield 9, 3) := by decide +kernel
theorem dX5_bowedTo_9 : decode cX5_bowedTo 9 = .ok (.ireturn, 1) := by decide +kernel
theorem dX6_init_0 : decode cX6_init 0 = .ok (.aload_n 0, 1) := by decide +kernel
theorem dX6_init_1 : decode cX6_init 1 = .ok (.iload_n 1, 1) := by decide +kernel
theorem dX6_init_2 : decode cX6_init 2 = .ok (.iload_n 2, 1) := by decide +kernel
theorem dX6_init_3 : decode cX6_init 3 = .ok (.iload_n 3, 1) := by decide +kernel
theorem dX6_init_4 : decode cX6_init 4 = .ok (.invokespecial 3, 3) := by decide +kernel
theorem dX6_init_7 : decode cX6_init 7 = .ok (.return_, 1) := by decide +kernel
theorem dX6_kind_0 : decode cX6_kind 0 = .ok (.iconst 2, 1) := by decide +kernel
theorem dX6_kind_1 : decode cX6_kind 1 = .ok (.ireturn, 1) := by decide +kernel
theorem dX6_dares_0 : decode cX6_dares 0 = .ok (.iconst 2, 1) := by decide +kernel
theorem dX6_dares_1 : decode cX6_dares 1 = .ok (.aload_n 0, 1) := by decide +kernel
theorem dX6_dares_2 : decode cX6_dares 2 = .ok (.invokespecial 9, 3) := by decide +kernel
theorem dX6_dares_5 : decode cX6_dares 5 = .ok (.imul, 1) := by decide +kernel
theorem dX6_dares_6 : decode cX6_dares 6 = .ok (.ireturn, 1) := by decide +kernel
theorem dX6_told_0 : decode cX6_told 0 = .ok (.aload_n 1, 1) := by decide +kernel
theorem dX6_told_1 : decode cX6_told 1 = .ok (.iconst 3, 1) := by decide +kernel
theorem dX6_told_2 : decode cX6_told 2 = .ok (.invokevirtual 13, 3) := by decide +kernel
theorem dX6_told_5 : decode cX6_told 5 = .ok (.aload_n 0, 1) := by decide +kernel
theorem dX6_told_6 : decode cX6_told 6 = .ok (.aload_n 1, 1) := by decide +kernel
theorem dX6_told_7 : decode cX6_told 7 = .ok (.invokespecial 19, 3) := by decide +kernel
theorem dX6_told_10 : decode cX6_told 10 = .ok (.istore_n 2, 1) := by decide +kernel
theorem dX6_told_11 : decode cX6_told 11 = .ok (.iload_n 2, 1) := by decide +kernel
theorem dX6_told_12 : decode cX6_told 12 = .ok (.aload_n 0, 1) := by decide +kernel
theorem dX6_told_13 : decode cX6_told 13 = .ok (.aload_n 1, 1) := by decide +kernel
theorem dX6_told_14 : decode cX6_told 14 = .ok (.invokevirtual 23, 3) := by decide +kernel
theorem dX6_told_17 : decode cX6_told 17 = .ok (.iadd, 1) := by decide +kernel
theorem dX6_told_18 : decode cX6_told 18 = .ok (.ireturn, 1) := by decide +kernel
theorem dX6_bowedTo_0 : decode cX6_bowedTo 0 = .ok (.aload_n 1, 1) := by decide +kernel
theorem dX6_bowedTo_1 : decode cX6_bowedTo 1 = .ok (.iconst 5, 1) := by decide +kernel
theorem dX6_bowedTo_2 : decode cX6_bowedTo 2 = .ok (.invokevirtual 13, 3) := by decide +kernel
theorem dX6_bowedTo_5 : decode cX6_bowedTo 5 = .ok (.bipush 90, 2) := by decide +kernel
theorem dX6_bowedTo_7 : decode cX6_bowedTo 7 = .ok (.ireturn, 1) := by decide +kernel
theorem dX7_init_0 : decode cX7_init 0 = .ok (.aload_n 0, 1) := by decide +kernel
theorem dX7_init_1 : decode cX7_init 1 = .ok (.invokespecial 3, 3) := by decide +kernel
theorem dX7_init_4 : decode cX7_init 4 = .ok (.aload_n 0, 1) := by decide +kernel
theorem dX7_init_5 : decode cX7_init 5 = .ok (.bipush 13, 2) := by decide +kernel
theorem dX7_init_7 : decode cX7_init 7 = .ok (.newarray .int, 2) := by decide +kernel
theorem dX7_init_9 : decode cX7_init 9 = .ok (.putfield 9, 3) := by decide +kernel
theorem dX7_init_12 : decode cX7_init 12 = .ok (.aload_n 0, 1) := by decide +kernel
theorem dX7_init_13 : decode cX7_init 13 = .ok (.bipush 13, 2) := by decide +kernel
theorem dX7_init_15 : decode cX7_init 15 = .ok (.newarray .int, 2) := by decide +kernel
theorem dX7_init_17 : decode cX7_init 17 = .ok (.putfield 15, 3) := by decide +kernel
theorem dX7_init_20 : decode cX7_init 20 = .ok (.aload_n 0, 1) := by decide +kernel
theorem dX7_init_21 : decode cX7_init 21 = .ok (.bipush 7, 2) := by decide +kernel
theorem dX7_init_23 : decode cX7_init 23 = .ok (.newarray .int, 2) := by decide +kernel
theorem dX7_init_25 : decode cX7_init 25 = .ok (.putfield 18, 3) := by decide +kernel
theorem dX7_init_28 : decode cX7_init 28 = .ok (.aload_n 0, 1) := by decide +kernel
theorem dX7_init_29 : decode cX7_init 29 = .ok (.bipush 7, 2) := by decide +kernel
theorem dX7_init_31 : decode cX7_init 31 = .ok (.newarray .int, 2) := by decide +kernel
theorem dX7_init_33 : decode cX7_init 33 = .ok (.putfield 21, 3) := by decide +kernel
theorem dX7_init_36 : decode cX7_init 36 = .ok (.return_, 1) := by decide +kernel
theorem dX7_clear_0 : decode cX7_clear 0 = .ok (.aload_n 0, 1) := by decide +kernel
theorem dX7_clear_1 : decode cX7_clear 1 = .ok (.iconst 0, 1) := by decide +kernel
theorem dX7_clear_2 : decode cX7_clear 2 = .ok (.putfield 24, 3) := by decide +kernel
theorem dX7_clear_5 : decode cX7_clear 5 = .ok (.aload_n 0, 1) := by decide +kernel
theorem dX7_clear_6 : decode cX7_clear 6 = .ok (.iconst 0, 1) := by decide +kernel
theorem dX7_clear_7 : decode cX7_clear 7 = .ok (.putfield 28, 3) := by decide +kernel
theorem dX7_clear_10 : decode cX7_clear 10 = .ok (.aload_n 0, 1) := by decide +kernel
theorem dX7_clear_11 : decode cX7_clear 11 = .ok (.iconst 0, 1) := by decide +kernel
theorem dX7_clear_12 : decode cX7_clear 12 = .ok (.putfield 31, 3) := by decide +kernel
theorem dX7_clear_15 : decode cX7_clear 15 = .ok (.return_, 1) := by decide +kernel
theorem dX7_takeAll_0 : decode cX7_takeAll 0 = .ok (.aload_n 0, 1) := by decide +kernel
theorem dX7_takeAll_1 : decode cX7_takeAll 1 = .ok (.invokevirtual 34, 3) := by decide +kernel
theorem dX7_takeAll_4 : decode cX7_takeAll 4 = .ok (.iconst 0, 1) := by decide +kernel
theorem dX7_takeAll_5 : decode cX7_takeAll 5 = .ok (.istore_n 2, 1) := by decide +kernel
theorem dX7_takeAll_6 : decode cX7_takeAll 6 = .ok (.iload_n 2, 1) := by decide +kernel
theorem dX7_takeAll_7 : decode cX7_takeAll 7 = .ok (.aload_n 1, 1) := by decide +kernel
theorem dX7_takeAll_8 : decode cX7_takeAll 8 = .ok (.getfield 24, 3) := by decide +kernel
theorem dX7_takeAll_11 : decode cX7_takeAll 11 = .ok (.if_icmp .ge 25, 3) := by decide +kernel
theorem dX7_takeAll_14 : decode cX7_takeAll 14 = .ok (.aload_n 0, 1) := by decide +kernel
theorem dX7_takeAll_15 : decode cX7_takeAll 15 = .ok (.aload_n 1, 1) := by decide +kernel
theorem dX7_takeAll_16 : decode cX7_takeAll 16 = .ok (.getfield 9, 3) := by decide +kernel
theorem dX7_takeAll_19 : decode cX7_takeAll 19 = .ok (.iload_n 2, 1) := by decide +kernel
theorem dX7_takeAll_20 : decode cX7_takeAll 20 = .ok (.iaload, 1) := by decide +kernel
theorem dX7_takeAll_21 : decode cX7_takeAll 21 = .ok (.aload_n 1, 1) := by decide +kernel
theorem dX7_takeAll_22 : decode cX7_takeAll 22 = .ok (.getfield 15, 3) := by decide +kernel
theorem dX7_takeAll_25 : decode cX7_takeAll 25 = .ok (.iload_n 2, 1) := by decide +kernel
theorem dX7_takeAll_26 : decode cX7_takeAll 26 = .ok (.iaload, 1) := by decide +kernel
theorem dX7_takeAll_27 : decode cX7_takeAll 27 = .ok (.invokevirtual 37, 3) := by decide +kernel
theorem dX7_takeAll_30 : decode cX7_takeAll 30 = .ok (.iinc 2 1, 3) := by decide +kernel
theorem dX7_takeAll_33 : decode cX7_takeAll 33 = .ok (.goto (-27), 3) := by decide +kernel
theorem dX7_takeAll_36 : decode cX7_takeAll 36 = .ok (.iconst 0, 1) := by decide +kernel
theorem dX7_takeAll_37 : decode cX7_takeAll 37 = .ok (.istore_n 2, 1) := by decide +kernel
theorem dX7_takeAll_38 : decode cX7_takeAll 38 = .ok (.iload_n 2, 1) := by decide +kernel
theorem dX7_takeAll_39 : decode cX7_takeAll 39 = .ok (.aload_n 1, 1) := by decide +kernel
theorem dX7_takeAll_40 : decode cX7_takeAll 40 = .ok (.getfield 28, 3) := by decide +kernel
theorem dX7_takeAll_43 : decode cX7_takeAll 43 = .ok (.if_icmp .ge 25, 3) := by decide +kernel
theorem dX7_takeAll_46 : decode cX7_takeAll 46 = .ok (.aload_n 0, 1) := by decide +kernel
theorem dX7_takeAll_47 : decode cX7_takeAll 47 = .ok (.aload_n 1, 1) := by decide +kernel
theorem dX7_takeAll_48 : decode cX7_takeAll 48 = .ok (.getfield 18, 3) := by decide +kernel
theorem dX7_takeAll_51 : decode cX7_takeAll 51 = .ok (.iload_n 2, 1) := by decide +kernel
theorem dX7_takeAll_52 : decode cX7_takeAll 52 = .ok (.iaload, 1) := by decide +kernel
theorem dX7_takeAll_53 : decode cX7_takeAll 53 = .ok (.aload_n 1, 1) := by decide +kernel
theorem dX7_takeAll_54 : decode cX7_takeAll 54 = .ok (.getfield 21, 3) := by decide +kernel
theorem dX7_takeAll_57 : decode cX7_takeAll 57 = .ok (.iload_n 2, 1) := by decide +kernel
theorem dX7_takeAll_58 : decode cX7_takeAll 58 = .ok (.iaload, 1) := by decide +kernel
theorem dX7_takeAll_59 : decode cX7_takeAll 59 = .ok (.invokevirtual 41, 3) := by decide +kernel
theorem dX7_takeAll_62 : decode cX7_takeAll 62 = .ok (.iinc 2 1, 3) := by decide +kernel
theorem dX7_takeAll_65 : decode cX7_takeAll 65 = .ok (.goto (-27), 3) := by decide +kernel
theorem dX7_takeAll_68 : decode cX7_takeAll 68 = .ok (.aload_n 0, 1) := by decide +kernel
theorem dX7_takeAll_69 : decode cX7_takeAll 69 = .ok (.aload_n 1, 1) := by decide +kernel
theorem dX7_takeAll_70 : decode cX7_takeAll 70 = .ok (.getfield 31, 3) := by decide +kernel
theorem dX7_takeAll_73 : decode cX7_takeAll 73 = .ok (.putfield 31, 3) := by decide +kernel
theorem dX7_takeAll_76 : decode cX7_takeAll 76 = .ok (.return_, 1) := by decide +kernel
theorem dX7_words_0 : decode cX7_words 0 = .ok (.aload_n 0, 1) := by decide +kernel
theorem dX7_words_1 : decode cX7_words 1 = .ok (.getfield 24, 3) := by decide +kernel
theorem dX7_words_4 : decode cX7_words 4 = .ok (.ireturn, 1) := by decide +kernel
theorem dX7_addWord_0 : decode cX7_addWord 0 = .ok (.aload_n 0, 1) := by decide +kernel
theorem dX7_addWord_1 : decode cX7_addWord 1 = .ok (.getfield 24, 3) := by decide +kernel
theorem dX7_addWord_4 : decode cX7_addWord 4 = .ok (.aload_n 0, 1) := by decide +kernel
theorem dX7_addWord_5 : decode cX7_addWord 5 = .ok (.getfield 9, 3) := by decide +kernel
theorem dX7_addWord_8 : decode cX7_addWord 8 = .ok (.arraylength, 1) := by decide +kernel
theorem dX7_addWord_9 : decode cX7_addWord 9 = .ok (.if_icmp .ge 33, 3) := by decide +kernel
theorem dX7_addWord_12 : decode cX7_addWord 12 = .ok (.aload_n 0, 1) := by decide +kernel
theorem dX7_addWord_13 : decode cX7_addWord 13 = .ok (.getfield 9, 3) := by decide +kernel
theorem dX7_addWord_16 : decode cX7_addWord 16 = .ok (.aload_n 0, 1) := by decide +kernel
theorem dX7_addWord_17 : decode cX7_addWord 17 = .ok (.getfield 24, 3) := by decide +kernel
theorem dX7_addWord_20 : decode cX7_addWord 20 = .ok (.iload_n 1, 1) := by decide +kernel
theorem dX7_addWord_21 : decode cX7_addWord 21 = .ok (.iastore, 1) := by decide +kernel
theorem dX7_addWord_22 : decode cX7_addWord 22 = .ok (.aload_n 0, 1) := by decide +kernel
theorem dX7_addWord_23 : decode cX7_addWord 23 = .ok (.getfield 15, 3) := by decide +kernel
theorem dX7_addWord_26 : decode cX7_addWord 26 = .ok (.aload_n 0, 1) := by decide +kernel
theorem dX7_addWord_27 : decode cX7_addWord 27 = .ok (.getfield 24, 3) := by decide +kernel
theorem dX7_addWord_30 : decode cX7_addWord 30 = .ok (.iload_n 2, 1) := by decide +kernel
theorem dX7_addWord_31 : decode cX7_addWord 31 = .ok (.iastore, 1) := by decide +kernel
theorem dX7_addWord_32 : decode cX7_addWord 32 = .ok (.aload_n 0, 1) := by decide +kernel
theorem dX7_addWord_33 : decode cX7_addWord 33 = .ok (.dup, 1) := by decide +kernel
theorem dX7_addWord_34 : decode cX7_addWord 34 = .ok (.getfield 24, 3) := by decide +kernel
theorem dX7_addWord_37 : decode cX7_addWord 37 = .ok (.iconst 1, 1) := by decide +kernel
theorem dX7_addWord_38 : decode cX7_addWord 38 = .ok (.iadd, 1) := by decide +kernel
theorem dX7_addWord_39 : decode cX7_addWord 39 = .ok (.putfield 24, 3) := by decide +kernel
theorem dX7_addWord_42 : decode cX7_addWord 42 = .ok (.return_, 1) := by decide +kernel
theorem dX7_dropWords_0 : decode cX7_dropWords 0 = .ok (.aload_n 0, 1) := by decide +kernel
theorem dX7_dropWords_1 : decode cX7_dropWords 1 = .ok (.iconst 0, 1) := by decide +kernel
theorem dX7_dropWords_2 : decode cX7_dropWords 2 = .ok (.aload_n 0, 1) := by decide +kernel
theorem dX7_dropWords_3 : decode cX7_dropWords 3 = .ok (.getfield 24, 3) := by decide +kernel
theorem dX7_dropWords_6 : decode cX7_dropWords 6 = .ok (.iload_n 1, 1) := by decide +kernel
theorem dX7_dropWords_7 : decode cX7_dropWords 7 = .ok (.isub, 1) := by decide +kernel
theorem dX7_dropWords_8 : decode cX7_dropWords 8 = .ok (.invokestatic 44, 3) := by decide +kernel
theorem dX7_dropWords_11 : decode cX7_dropWords 11 = .ok (.putfield 24, 3) := by decide +kernel
theorem dX7_dropWords_14 : decode cX7_dropWords 14 = .ok (.return_, 1) := by decide +kernel
theorem dX7_dropWordAt_0 : decode cX7_dropWordAt 0 = .ok (.iload_n 1, 1) := by decide +kernel
theorem dX7_dropWordAt_1 : decode cX7_dropWordAt 1 = .ok (.iconst 1, 1) := by decide +kernel
theorem dX7_dropWordAt_2 : decode cX7_dropWordAt 2 = .ok (.iadd, 1) := by decide +kernel
theorem dX7_dropWordAt_3 : decode cX7_dropWordAt 3 = .ok (.istore_n 2, 1) := by decide +kernel
theorem dX7_dropWordAt_4 : decode cX7_dropWordAt 4 = .ok (.iload_n 1, 1) := by decide +kernel
theorem dX7_dropWordAt_5 : decode cX7_dropWordAt 5 = .ok (.ifCond .lt 45, 3) := by decide +kernel
theorem dX7_dropWordAt_8 : decode cX7_dropWordAt 8 = .ok (.iload_n 2, 1) := by decide +kernel
theorem dX7_dropWordAt_9 : decode cX7_dropWordAt 9 = .ok (.aload_n 0, 1) := by decide +kernel
theorem dX7_dropWordAt_10 : decode cX7_dropWordAt 10 = .ok (.getfield 24, 3) := by decide +kernel
theorem dX7_dropWordAt_13 : decode cX7_dropWordAt 13 = .ok (.if_icmp .ge 37, 3) := by decide +kernel
theorem dX7_dropWordAt_16 : decode cX7_dropWordAt 16 = .ok (.aload_n 0, 1) := by decide +kernel
theorem dX7_dropWordAt_17 : decode cX7_dropWordAt 17 = .ok (.getfield 9, 3) := by decide +kernel
theorem dX7_dropWordAt_20 : decode cX7_dropWordAt 20 = .ok (.iload_n 2, 1) := by decide +kernel
theorem dX7_dropWordAt_21 : decode cX7_dropWordAt 21 = .ok (.iconst 1, 1) := by decide +kernel
theorem dX7_dropWordAt_22 : decode cX7_dropWordAt 22 = .ok (.isub, 1) := by decide +kernel
theorem dX7_dropWordAt_23 : decode cX7_dropWordAt 23 = .ok (.aload_n 0, 1) := by decide +kernel
theorem dX7_dropWordAt_24 : decode cX7_dropWordAt 24 = .ok (.getfield 9, 3) := by decide +kernel
theorem dX7_dropWordAt_27 : decode cX7_dropWordAt 27 = .ok (.iload_n 2, 1) := by decide +kernel
theorem dX7_dropWordAt_28 : decode cX7_dropWordAt 28 = .ok (.iaload, 1) := by decide +kernel
theorem dX7_dropWordAt_29 : decode cX7_dropWordAt 29 = .ok (.iastore, 1) := by decide +kernel
theorem dX7_dropWordAt_30 : decode cX7_dropWordAt 30 = .ok (.aload_n 0, 1) := by decide +kernel
theorem dX7_dropWordAt_31 : decode cX7_dropWordAt 31 = .ok (.getfield 15, 3) := by decide +kernel
theorem dX7_dropWordAt_34 : decode cX7_dropWordAt 34 = .ok (.iload_n 2, 1) := by decide +kernel
theorem dX7_dropWordAt_35 : decode cX7_dropWordAt 35 = .ok (.iconst 1, 1) := by decide +kernel
theorem dX7_dropWordAt_36 : decode cX7_dropWordAt 36 = .ok (.isub, 1) := by decide +kernel
theorem dX7_dropWordAt_37 : decode cX7_dropWordAt 37 = .ok (.aload_n 0, 1) := by decide +kernel
theorem dX7_dropWordAt_38 : decode cX7_dropWordAt 38 = .ok (.getfield 15, 3) := by decide +kernel
theorem dX7_dropWordAt_41 : decode cX7_dropWordAt 41 = .ok (.iload_n 2, 1) := by decide +kernel
theorem dX7_dropWordAt_42 : decode cX7_dropWordAt 42 = .ok (.iaload, 1) := by decide +kernel
theorem dX7_dropWordAt_43 : decode cX7_dropWordAt 43 = .ok (.iastore, 1) := by decide +kernel
theorem dX7_dropWordAt_44 : decode cX7_dropWordAt 44 = .ok (.iinc 2 1, 3) := by decide +kernel
theorem dX7_dropWordAt_47 : decode cX7_dropWordAt 47 = .ok (.goto (-43), 3) := by decide +kernel
theorem dX7_dropWordAt_50 : decode cX7_dropWordAt 50 = .ok (.aload_n 0, 1) := by decide +kernel
theorem dX7_dropWordAt_51 : decode cX7_dropWordAt 51 = .ok (.iconst 1, 1) := by decide +kernel
theorem dX7_dropWordAt_52 : decode cX7_dropWordAt 52 = .ok (.invokevirtual 50, 3) := by decide +kernel
theorem dX7_dropWordAt_55 : decode cX7_dropWordAt 55 = .ok (.return_, 1) := by decide +kernel
theorem dX7_daysOfWords_0 : decode cX7_daysOfWords 0 = .ok (.lconst 0, 1) := by decide +kernel
theorem dX7_daysOfWords_1 : decode cX7_daysOfWords 1 = .ok (.lstore_n 1, 1) := by decide +kernel
theorem dX7_daysOfWords_2 : decode cX7_daysOfWords 2 = .ok (.iconst 0, 1) := by decide +kernel
theorem dX7_daysOfWords_3 : decode cX7_daysOfWords 3 = .ok (.istore_n 3, 1) := by decide +kernel
theorem dX7_daysOfWords_4 : decode cX7_daysOfWords 4 = .ok (.iload_n 3, 1) := by decide +kernel
theorem dX7_daysOfWords_5 : decode cX7_daysOfWords 5 = .ok (.aload_n 0, 1) := by decide +kernel
theorem dX7_daysOfWords_6 : decode cX7_daysOfWords 6 = .ok (.getfield 24, 3) := by decide +kernel
theorem dX7_daysOfWords_9 : decode cX7_daysOfWords 9 = .ok (.if_icmp .ge 20, 3) := by decide +kernel
theorem dX7_daysOfWords_12 : decode cX7_daysOfWords 12 = .ok (.lload_n 1, 1) := by decide +kernel
theorem dX7_daysOfWords_13 : decode cX7_daysOfWords 13 = .ok (.lconst 1, 1) := by decide +kernel
theorem dX7_daysOfWords_14 : decode cX7_daysOfWords 14 = .ok (.aload_n 0, 1) := by decide +kernel
theorem dX7_daysOfWords_15 : decode cX7_daysOfWords 15 = .ok (.getfield 15, 3) := by decide +kernel
theorem dX7_daysOfWords_18 : decode cX7_daysOfWords 18 = .ok (.iload_n 3, 1) := by decide +kernel
theorem dX7_daysOfWords_19 : decode cX7_daysOfWords 19 = .ok (.iaload, 1) := by decide +kernel
theorem dX7_daysOfWords_20 : decode cX7_daysOfWords 20 = .ok (.lshl, 1) := by decide +kernel
theorem dX7_daysOfWords_21 : decode cX7_daysOfWords 21 = .ok (.lor, 1) := by decide +kernel
theorem dX7_daysOfWords_22 : decode cX7_daysOfWords 22 = .ok (.lstore_n 1, 1) := by decide +kernel
theorem dX7_daysOfWords_23 : decode cX7_daysOfWords 23 = .ok (.iinc 3 1, 3) := by decide +kernel
theorem dX7_daysOfWords_26 : decode cX7_daysOfWords 26 = .ok (.goto (-22), 3) := by decide +kernel
theorem dX7_daysOfWords_29 : decode cX7_daysOfWords 29 = .ok (.lload_n 1, 1) := by decide +kernel
theorem dX7_daysOfWords_30 : decode cX7_daysOfWords 30 = .ok (.lreturn, 1) := by decide +kernel
theorem dX7_whispersKept_0 : decode cX7_whispersKept 0 = .ok (.aload_n 0, 1) := by decide +kernel
theorem dX7_whispersKept_1 : decode cX7_whispersKept 1 = .ok (.getfield 28, 3) := by decide +kernel
theorem dX7_whispersKept_4 : decode cX7_whispersKept 4 = .ok (.ireturn, 1) := by decide +kernel
theorem dX7_addWhisper_0 : decode cX7_addWhisper 0 = .ok (.aload_n 0, 1) := by decide +kernel
theorem dX7_addWhisper_1 : decode cX7_addWhisper 1 = .ok (.getfield 28, 3) := by decide +kernel
theorem dX7_addWhisper_4 : decode cX7_addWhisper 4 = .ok (.aload_n 0, 1) := by decide +kernel
theorem dX7_addWhisper_5 : decode cX7_addWhisper 5 = .ok (.getfield 18, 3) := by decide +kernel
theorem dX7_addWhisper_8 : decode cX7_addWhisper 8 = .ok (.arraylength, 1) := by decide +kernel
theorem dX7_addWhisper_9 : decode cX7_addWhisper 9 = .ok (.if_icmp .ge 33, 3) := by decide +kernel
theorem dX7_addWhisper_12 : decode cX7_addWhisper 12 = .ok (.aload_n 0, 1) := by decide +kernel
theorem dX7_addWhisper_13 : decode cX7_addWhisper 13 = .ok (.getfield 18, 3) := by decide +kernel
theorem dX7_addWhisper_16 : decode cX7_addWhisper 16 = .ok (.aload_n 0, 1) := by decide +kernel
theorem dX7_addWhisper_17 : decode cX7_addWhisper 17 = .ok (.getfield 28, 3) := by decide +kernel
theorem dX7_addWhisper_20 : decode cX7_addWhisper 20 = .ok (.iload_n 1, 1) := by decide +kernel
theorem dX7_addWhisper_21 : decode cX7_addWhisper 21 = .ok (.iastore, 1) := by decide +kernel
theorem dX7_addWhisper_22 : decode cX7_addWhisper 22 = .ok (.aload_n 0, 1) := by decide +kernel
theorem dX7_addWhisper_23 : decode cX7_addWhisper 23 = .ok (.getfield 21, 3) := by decide +kernel
theorem dX7_addWhisper_26 : decode cX7_addWhisper 26 = .ok (.aload_n 0, 1) := by decide +kernel
theorem dX7_addWhisper_27 : decode cX7_addWhisper 27 = .ok (.getfield 28, 3) := by decide +kernel
theorem dX7_addWhisper_30 : decode cX7_addWhisper 30 = .ok (.iload_n 2, 1) := by decide +kernel
theorem dX7_addWhisper_31 : decode cX7_addWhisper 31 = .ok (.iastore, 1) := by decide +kernel
theorem dX7_addWhisper_32 : decode cX7_addWhisper 32 = .ok (.aload_n 0, 1) := by decide +kernel
theorem dX7_addWhisper_33 : decode cX7_addWhisper 33 = .ok (.dup, 1) := by decide +kernel
theorem dX7_addWhisper_34 : decode cX7_addWhisper 34 = .ok (.getfield 28, 3) := by decide +kernel
theorem dX7_addWhisper_37 : decode cX7_addWhisper 37 = .ok (.iconst 1, 1) := by decide +kernel
theorem dX7_addWhisper_38 : decode cX7_addWhisper 38 = .ok (.iadd, 1) := by decide +kernel
theorem dX7_addWhisper_39 : decode cX7_addWhisper 39 = .ok (.putfield 28, 3) := by decide +kernel
theorem dX7_addWhisper_42 : decode cX7_addWhisper 42 = .ok (.return_, 1) := by decide +kernel
theorem dX7_dropWhispers_0 : decode cX7_dropWhispers 0 = .ok (.aload_n 0, 1) := by decide +kernel
theorem dX7_dropWhispers_1 : decode cX7_dropWhispers 1 = .ok (.iconst 0, 1) := by decide +kernel
theorem dX7_dropWhispers_2 : decode cX7_dropWhispers 2 = .ok (.aload_n 0, 1) := by decide +kernel
theorem dX7_dropWhispers_3 : decode cX7_dropWhispers 3 = .ok (.getfield 28, 3) := by decide +kernel
theorem dX7_dropWhispers_6 : decode cX7_dropWhispers 6 = .ok (.iload_n 1, 1) := by decide +kernel
theorem dX7_dropWhispers_7 : decode cX7_dropWhispers 7 = .ok (.isub, 1) := by decide +kernel
theorem dX7_dropWhispers_8 : decode cX7_dropWhispers 8 = .ok (.invokestatic 44, 3) := by decide +kernel
theorem dX7_dropWhispers_11 : decode cX7_dropWhispers 11 = .ok (.putfield 28, 3) := by decide +kernel
theorem dX7_dropWhispers_14 : decode cX7_dropWhispers 14 = .ok (.return_, 1) := by decide +kernel
theorem dX7_bribed_0 : decode cX7_bribed 0 = .ok (.aload_n 0, 1) := by decide +kernel
theorem dX7_bribed_1 : decode cX7_bribed 1 = .ok (.getfield 31, 3) := by decide +kernel
theorem dX7_bribed_4 : decode cX7_bribed 4 = .ok (.iload_n 1, 1) := by decide +kernel
theorem dX7_bribed_5 : decode cX7_bribed 5 = .ok (.invokestatic 54, 3) := by decide +kernel
theorem dX7_bribed_8 : decode cX7_bribed 8 = .ok (.ireturn, 1) := by decide +kernel
theorem dX7_bribedSet_0 : decode cX7_bribedSet 0 = .ok (.aload_n 0, 1) := by decide +kernel
theorem dX7_bribedSet_1 : decode cX7_bribedSet 1 = .ok (.getfield 31, 3) := by decide +kernel
theorem dX7_bribedSet_4 : decode cX7_bribedSet 4 = .ok (.ireturn, 1) := by decide +kernel
theorem dX7_setBribed_0 : decode cX7_setBribed 0 = .ok (.aload_n 0, 1) := by decide +kernel
theorem dX7_setBribed_1 : decode cX7_setBribed 1 = .ok (.iload_n 1, 1) := by decide +kernel
theorem dX7_setBribed_2 : decode cX7_setBribed 2 = .ok (.putfield 31, 3) := by decide +kernel
theorem dX7_setBribed_5 : decode cX7_setBribed 5 = .ok (.return_, 1) := by decide +kernel
theorem dX7_reaching_0 : decode cX7_reaching 0 = .ok (.iconst 0, 1) := by decide +kernel
theorem dX7_reaching_1 : decode cX7_reaching 1 = .ok (.istore 4, 2) := by decide +kernel
theorem dX7_reaching_3 : decode cX7_reaching 3 = .ok (.iconst 0, 1) := by decide +kernel
theorem dX7_reaching_4 : decode cX7_reaching 4 = .ok (.istore 5, 2) := by decide +kernel
theorem dX7_reaching_6 : decode cX7_reaching 6 = .ok (.iload 5, 2) := by decide +kernel
theorem dX7_reaching_8 : decode cX7_reaching 8 = .ok (.aload_n 0, 1) := by decide +kernel
theorem dX7_reaching_9 : decode cX7_reaching 9 = .ok (.getfield 24, 3) := by decide +kernel
theorem dX7_reaching_12 : decode cX7_reaching 12 = .ok (.if_icmp .ge 36, 3) := by decide +kernel
theorem dX7_reaching_15 : decode cX7_reaching 15 = .ok (.aload_n 0, 1) := by decide +kernel
theorem dX7_reaching_16 : decode cX7_reaching 16 = .ok (.getfield 15, 3) := by decide +kernel
theorem dX7_reaching_19 : decode cX7_reaching 19 = .ok (.iload 5, 2) := by decide +kernel
theorem dX7_reaching_21 : decode cX7_reaching 21 = .ok (.iaload, 1) := by decide +kernel
theorem dX7_reaching_22 : decode cX7_reaching 22 = .ok (.iload_n 3, 1) := by decide +kernel
theorem dX7_reaching_23 : decode cX7_reaching 23 = .ok (.if_icmp .gt 19, 3) := by decide +kernel
theorem dX7_reaching_26 : decode cX7_reaching 26 = .ok (.iload 4, 2) := by decide +kernel
theorem dX7_reaching_28 : decode cX7_reaching 28 = .ok (.iload_n 2, 1) := by decide +kernel
theorem dX7_reaching_29 : decode cX7_reaching 29 = .ok (.aload_n 0, 1) := by decide +kernel
theorem dX7_reaching_30 : decode cX7_reaching 30 = .ok (.getfield 9, 3) := by decide +kernel
theorem dX7_reaching_33 : decode cX7_reaching 33 = .ok (.iload 5, 2) := by decide +kernel
theorem dX7_reaching_35 : decode cX7_reaching 35 = .ok (.iaload, 1) := by decide +kernel
theorem dX7_reaching_36 : decode cX7_reaching 36 = .ok (.ishr, 1) := by decide +kernel
theorem dX7_reaching_37 : decode cX7_reaching 37 = .ok (.iconst 1, 1) := by decide +kernel
theorem dX7_reaching_38 : decode cX7_reaching 38 = .ok (.iand, 1) := by decide +kernel
theorem dX7_reaching_39 : decode cX7_reaching 39 = .ok (.iadd, 1) := by decide +kernel
theorem dX7_reaching_40 : decode cX7_reaching 40 = .ok (.istore 4, 2) := by decide +kernel
theorem dX7_reaching_42 : decode cX7_reaching 42 = .ok (.iinc 5 1, 3) := by decide +kernel
theorem dX7_reaching_45 : decode cX7_reaching 45 = .ok (.goto (-39), 3) := by decide +kernel
theorem dX7_reaching_48 : decode cX7_reaching 48 = .ok (.iconst 0, 1) := by decide +kernel
theorem dX7_reaching_49 : decode cX7_reaching 49 = .ok (.istore 5, 2) := by decide +kernel
theorem dX7_reaching_51 : decode cX7_reaching 51 = .ok (.iload 5, 2) := by decide +kernel
theorem dX7_reaching_53 : decode cX7_reaching 53 = .ok (.aload_n 0, 1) := by decide +kernel
theorem dX7_reaching_54 : decode cX7_reaching 54 = .ok (.getfield 28, 3) := by decide +kernel
theorem dX7_reaching_57 : decode cX7_reaching 57 = .ok (.if_icmp .ge 34, 3) := by decide +kernel
theorem dX7_reaching_60 : decode cX7_reaching 60 = .ok (.aload_n 0, 1) := by decide +kernel
theorem dX7_reaching_61 : decode cX7_reaching 61 = .ok (.getfield 18, 3) := by decide +kernel
theorem dX7_reaching_64 : decode cX7_reaching 64 = .ok (.iload 5, 2) := by decide +kernel
theorem dX7_reaching_66 : decode cX7_reaching 66 = .ok (.iaload, 1) := by decide +kernel
theorem dX7_reaching_67 : decode cX7_reaching 67 = .ok (.iload_n 1, 1) := by decide +kernel
theorem dX7_reaching_68 : decode cX7_reaching 68 = .ok (.if_icmp .eq 14, 3) := by decide +kernel
theorem dX7_reaching_71 : decode cX7_reaching 71 = .ok (.aload_n 0, 1) := by decide +kernel
theorem dX7_reaching_72 : decode cX7_reaching 72 = .ok (.getfield 21, 3) := by decide +kernel
theorem dX7_reaching_75 : decode cX7_reaching 75 = .ok (.iload 5, 2) := by decide +kernel
theorem dX7_reaching_77 : decode cX7_reaching 77 = .ok (.iaload, 1) := by decide +kernel
theorem dX7_reaching_78 : decode cX7_reaching 78 = .ok (.iload_n 1, 1) := by decide +kernel
theorem dX7_reaching_79 : decode cX7_reaching 79 = .ok (.if_icmp .ne 6, 3) := by decide +kernel
theorem dX7_reaching_82 : decode cX7_reaching 82 = .ok (.iinc 4 1, 3) := by decide +kernel
theorem dX7_reaching_85 : decode cX7_reaching 85 = .ok (.iinc 5 1, 3) := by decide +kernel
theorem dX7_reaching_88 : decode cX7_reaching 88 = .ok (.goto (-37), 3) := by decide +kernel
theorem dX7_reaching_91 : decode cX7_reaching 91 = .ok (.iload 4, 2) := by decide +kernel
theorem dX7_reaching_93 : decode cX7_reaching 93 = .ok (.ireturn, 1) := by decide +kernel
theorem dX8_init_0 : decode cX8_init 0 = .ok (.aload_n 0, 1) := by decide +kernel
theorem dX8_init_1 : decode cX8_init 1 = .ok (.invokespecial 1, 3) := by decide +kernel
theorem dX8_init_4 : decode cX8_init 4 = .ok (.return_, 1) := by decide +kernel
theorem dX8_leave_0 : decode cX8_leave 0 = .ok (.aload_n 0, 1) := by decide +kernel
theorem dX8_leave_1 : decode cX8_leave 1 = .ok (.bipush 31, 2) := by decide +kernel
theorem dX8_leave_3 : decode cX8_leave 3 = .ok (.aload_n 0, 1) := by decide +kernel
theorem dX8_leave_4 : decode cX8_leave 4 = .ok (.getfield 7, 3) := by decide +kernel
theorem dX8_leave_7 : decode cX8_leave 7 = .ok (.imul, 1) := by decide +kernel
theorem dX8_leave_8 : decode cX8_leave 8 = .ok (.iload_n 1, 1) := by decide +kernel
theorem dX8_leave_9 : decode cX8_leave 9 = .ok (.iadd, 1) := by decide +kernel
theorem dX8_leave_10 : decode cX8_leave 10 = .ok (.putfield 7, 3) := by decide +kernel
theorem dX8_leave_13 : decode cX8_leave 13 = .ok (.return_, 1) := by decide +kernel
theorem dX8_number_0 : decode cX8_number 0 = .ok (.aload_n 0, 1) := by decide +kernel
theorem dX8_number_1 : decode cX8_number 1 = .ok (.getfield 7, 3) := by decide +kernel
theorem dX8_number_4 : decode cX8_number 4 = .ok (.ireturn, 1) := by decide +kernel
theorem dX9_init_0 : decode cX9_init 0 = .ok (.aload_n 0, 1) := by decide +kernel
theorem dX9_init_1 : decode cX9_init 1 = .ok (.invokespecial 3, 3) := by decide +kernel
theorem dX9_init_4 : decode cX9_init 4 = .ok (.aload_n 0, 1) := by decide +kernel
theorem dX9_init_5 : decode cX9_init 5 = .ok (.new 9, 3) := by decide +kernel
theorem dX9_init_8 : decode cX9_init 8 = .ok (.dup, 1) := by decide +kernel
theorem dX9_init_9 : decode cX9_init 9 = .ok (.invokespecial 11, 3) := by decide +kernel
theorem dX9_init_12 : decode cX9_init 12 = .ok (.putfield 12, 3) := by decide +kernel
theorem dX9_init_15 : decode cX9_init 15 = .ok (.aload_n 0, 1) := by decide +kernel
theorem dX9_init_16 : decode cX9_init 16 = .ok (.new 18, 3) := by decide +kernel
theorem dX9_init_19 : decode cX9_init 19 = .ok (.dup, 1) := by decide +kernel
theorem dX9_init_20 : decode cX9_init 20 = .ok (.invokespecial 20, 3) := by decide +kernel
theorem dX9_init_23 : decode cX9_init 23 = .ok (.putfield 21, 3) := by decide +kernel
theorem dX9_init_26 : decode cX9_init 26 = .ok (.aload_n 0, 1) := by decide +kernel
theorem dX9_init_27 : decode cX9_init 27 = .ok (.aload_n 1, 1) := by decide +kernel
theorem dX9_init_28 : decode cX9_init 28 = .ok (.putfield 25, 3) := by decide +kernel
theorem dX9_init_31 : decode cX9_init 31 = .ok (.aload_n 0, 1) := by decide +kernel
theorem dX9_init_32 : decode cX9_init 32 = .ok (.aload_n 2, 1) := by decide +kernel
theorem dX9_init_33 : decode cX9_init 33 = .ok (.putfield 29, 3) := by decide +kernel
theorem dX9_init_36 : decode cX9_init 36 = .ok (.aload_n 0, 1) := by decide +kernel
theorem dX9_init_37 : decode cX9_init 37 = .ok (.aload_n 3, 1) := by decide +kernel
theorem dX9_init_38 : decode cX9_init 38 = .ok (.putfield 32, 3) := by decide +kernel
theorem dX9_init_41 : decode cX9_init 41 = .ok (.return_, 1) := by decide +kernel
theorem dX9_fewestWords_0 : decode cX9_fewestWords 0 = .ok (.bipush (-9), 2) := by decide +kernel
theorem dX9_fewestWords_2 : decode cX9_fewestWords 2 = .ok (.istore_n 1, 1) := by decide +kernel
theorem dX9_fewestWords_3 : decode cX9_fewestWords 3 = .ok (.iconst 0, 1) := by decide +kernel
theorem dX9_fewestWords_4 : decode cX9_fewestWords 4 = .ok (.istore_n 2, 1) := by decide +kernel
theorem dX9_fewestWords_5 : decode cX9_fewestWords 5 = .ok (.iload_n 2, 1) := by decide +kernel
theorem dX9_fewestWords_6 : decode cX9_fewestWords 6 = .ok (.aload_n 0, 1) := by decide +kernel
theorem dX9_fewestWords_7 : decode cX9_fewestWords 7 = .ok (.getfield 25, 3) := by decide +kernel
theorem dX9_fewestWords_10 : decode cX9_fewestWords 10 = .ok (.invokevirtual 36, 3) := by decide +kernel
theorem dX9_fewestWords_13 : decode cX9_fewestWords 13 = .ok (.if_icmp .gt 27, 3) := by decide +kernel
theorem dX9_fewestWords_16 : decode cX9_fewestWords 16 = .ok (.iload_n 2, 1) := by decide +kernel
theorem dX9_fewestWords_17 : decode cX9_fewestWords 17 = .ok (.iload_n 1, 1) := by decide +kernel
theorem dX9_fewestWords_18 : decode cX9_fewestWords 18 = .ok (.invokestatic 42, 3) := by decide +kernel
theorem dX9_fewestWords_21 : decode cX9_fewestWords 21 = .ok (.ifCond .eq 13, 3) := by decide +kernel
theorem dX9_fewestWords_24 : decode cX9_fewestWords 24 = .ok (.aload_n 0, 1) := by decide +kernel
theorem dX9_fewestWords_25 : decode cX9_fewestWords 25 = .ok (.iload_n 2, 1) := by decide +kernel
theorem dX9_fewestWords_26 : decode cX9_fewestWords 26 = .ok (.invokevirtual 46, 3) := by decide +kernel
theorem dX9_fewestWords_29 : decode cX9_fewestWords 29 = .ok (.ifCond .eq 5, 3) := by decide +kernel
theorem dX9_fewestWords_32 : decode cX9_fewestWords 32 = .ok (.iload_n 2, 1) := by decide +kernel
theorem dX9_fewestWords_33 : decode cX9_fewestWords 33 = .ok (.istore_n 1, 1) := by decide +kernel
theorem dX9_fewestWords_34 : decode cX9_fewestWords 34 = .ok (.iinc 2 1, 3) := by decide +kernel
theorem dX9_fewestWords_37 : decode cX9_fewestWords 37 = .ok (.goto (-32), 3) := by decide +kernel
theorem dX9_fewestWords_40 : decode cX9_fewestWords 40 = .ok (.iload_n 1, 1) := by decide +kernel
theorem dX9_fewestWords_41 : decode cX9_fewestWords 41 = .ok (.ireturn, 1) := by decide +kernel
theorem dX9_allSayWithWordsAt_0 : decode cX9_allSayWithWordsAt 0 = .ok (.aload_n 0, 1) := by decide +kernel
theorem dX9_allSayWithWordsAt_1 : decode cX9_allSayWithWordsAt 1 = .ok (.getfield 12, 3) := by decide +kernel
theorem dX9_allSayWithWordsAt_4 : decode cX9_allSayWithWordsAt 4 = .ok (.aload_n 0, 1) := by decide +kernel
theorem dX9_allSayWithWordsAt_5 : decode cX9_allSayWithWordsAt 5 = .ok (.getfield 29, 3) := by decide +kernel
theorem dX9_allSayWithWordsAt_8 : decode cX9_allSayWithWordsAt 8 = .ok (.invokevirtual 50, 3) := by decide +kernel
theorem dX9_allSayWithWordsAt_11 : decode cX9_allSayWithWordsAt 11 = .ok (.iconst 0, 1) := by decide +kernel
theorem dX9_allSayWithWordsAt_12 : decode cX9_allSayWithWordsAt 12 = .ok (.istore_n 2, 1) := by decide +kernel
theorem dX9_allSayWithWordsAt_13 : decode cX9_allSayWithWordsAt 13 = .ok (.iload_n 2, 1) := by decide +kernel
theorem dX9_allSayWithWordsAt_14 : decode cX9_allSayWithWordsAt 14 = .ok (.aload_n 0, 1) := by decide +kernel
theorem dX9_allSayWithWordsAt_15 : decode cX9_allSayWithWordsAt 15 = .ok (.getfield 25, 3) := by decide +kernel
theorem dX9_allSayWithWordsAt_18 : decode cX9_allSayWithWordsAt 18 = .ok (.invokevirtual 54, 3) := by decide +kernel
theorem dX9_allSayWithWordsAt_21 : decode cX9_allSayWithWordsAt 21 = .ok (.if_icmp .ge 26, 3) := by decide +kernel
theorem dX9_allSayWithWordsAt_24 : decode cX9_allSayWithWordsAt 24 = .ok (.iload_n 1, 1) := by decide +kernel
theorem dX9_allSayWithWordsAt_25 : decode cX9_allSayWithWordsAt 25 = .ok (.iload_n 2, 1) := by decide +kernel
theorem dX9_allSayWithWordsAt_26 : decode cX9_allSayWithWordsAt 26 = .ok (.invokestatic 57, 3) := by decide +kernel
theorem dX9_allSayWithWordsAt_29 : decode cX9_allSayWithWordsAt 29 = .ok (.ifCond .eq 12, 3) := by decide +kernel
theorem dX9_allSayWithWordsAt_32 : decode cX9_allSayWithWordsAt 32 = .ok (.aload_n 0, 1) := by decide +kernel
theorem dX9_allSayWithWordsAt_33 : decode cX9_allSayWithWordsAt 33 = .ok (.getfield 12, 3) := by decide +kernel
theorem dX9_allSayWithWordsAt_36 : decode cX9_allSayWithWordsAt 36 = .ok (.iload_n 2, 1) := by decide +kernel
theorem dX9_allSayWithWordsAt_37 : decode cX9_allSayWithWordsAt 37 = .ok (.iconst 0, 1) := by decide +kernel
theorem dX9_allSayWithWordsAt_38 : decode cX9_allSayWithWordsAt 38 = .ok (.invokevirtual 60, 3) := by decide +kernel
theorem dX9_allSayWithWordsAt_41 : decode cX9_allSayWithWordsAt 41 = .ok (.iinc 2 1, 3) := by decide +kernel
theorem dX9_allSayWithWordsAt_44 : decode cX9_allSayWithWordsAt 44 = .ok (.goto (-31), 3) := by decide +kernel
theorem dX9_allSayWithWordsAt_47 : decode cX9_allSayWithWordsAt 47 = .ok (.aload_n 0, 1) := by decide +kernel
theorem dX9_allSayWithWordsAt_48 : decode cX9_allSayWithWordsAt 48 = .ok (.invokevirtual 64, 3) := by decide +kernel
theorem dX9_allSayWithWordsAt_51 : decode cX9_allSayWithWordsAt 51 = .ok (.aload_n 0, 1) := by decide +kernel
theorem dX9_allSayWithWordsAt_52 : decode cX9_allSayWithWordsAt 52 = .ok (.getfield 29, 3) := by decide +kernel
theorem dX9_allSayWithWordsAt_55 : decode cX9_allSayWithWordsAt 55 = .ok (.invokevirtual 67, 3) := by decide +kernel
theorem dX9_allSayWithWordsAt_58 : decode cX9_allSayWithWordsAt 58 = .ok (.ior, 1) := by decide +kernel
theorem dX9_allSayWithWordsAt_59 : decode cX9_allSayWithWordsAt 59 = .ok (.aload_n 0, 1) := by decide +kernel
theorem dX9_allSayWithWordsAt_60 : decode cX9_allSayWithWordsAt 60 = .ok (.getfield 25, 3) := by decide +kernel
theorem dX9_allSayWithWordsAt_63 : decode cX9_allSayWithWordsAt 63 = .ok (.invokevirtual 36, 3) := by decide +kernel
theorem dX9_allSayWithWordsAt_66 : decode cX9_allSayWithWordsAt 66 = .ok (.if_icmp .ne 7, 3) := by decide +kernel
theorem dX9_allSayWithWordsAt_69 : decode cX9_allSayWithWordsAt 69 = .ok (.iconst 1, 1) := by decide +kernel
theorem dX9_allSayWithWordsAt_70 : decode cX9_allSayWithWordsAt 70 = .ok (.goto 4, 3) := by decide +kernel
theorem dX9_allSayWithWordsAt_73 : decode cX9_allSayWithWordsAt 73 = .ok (.iconst 0, 1) := by decide +kernel
theorem dX9_allSayWithWordsAt_74 : decode cX9_allSayWithWordsAt 74 = .ok (.ireturn, 1) := by decide +kernel
theorem dX9_fewestBribes_0 : decode cX9_fewestBribes 0 = .ok (.bipush (-9), 2) := by decide +kernel
theorem dX9_fewestBribes_2 : decode cX9_fewestBribes 2 = .ok (.istore_n 2, 1) := by decide +kernel
theorem dX9_fewestBribes_3 : decode cX9_fewestBribes 3 = .ok (.iconst 0, 1) := by decide +kernel
theorem dX9_fewestBribes_4 : decode cX9_fewestBribes 4 = .ok (.istore_n 3, 1) := by decide +kernel
theorem dX9_fewestBribes_5 : decode cX9_fewestBribes 5 = .ok (.iload_n 3, 1) := by decide +kernel
theorem dX9_fewestBribes_6 : decode cX9_fewestBribes 6 = .ok (.aload_n 0, 1) := by decide +kernel
theorem dX9_fewestBribes_7 : decode cX9_fewestBribes 7 = .ok (.getfield 25, 3) := by decide +kernel
theorem dX9_fewestBribes_10 : decode cX9_fewestBribes 10 = .ok (.invokevirtual 36, 3) := by decide +kernel
theorem dX9_fewestBribes_13 : decode cX9_fewestBribes 13 = .ok (.if_icmp .gt 69, 3) := by decide +kernel
theorem dX9_fewestBribes_16 : decode cX9_fewestBribes 16 = .ok (.iload_n 3, 1) := by decide +kernel
theorem dX9_fewestBribes_17 : decode cX9_fewestBribes 17 = .ok (.iload_n 1, 1) := by decide +kernel
theorem dX9_fewestBribes_18 : decode cX9_fewestBribes 18 = .ok (.invokestatic 57, 3) := by decide +kernel
theorem dX9_fewestBribes_21 : decode cX9_fewestBribes 21 = .ok (.ifCond .ne 55, 3) := by decide +kernel
theorem dX9_fewestBribes_24 : decode cX9_fewestBribes 24 = .ok (.iload_n 3, 1) := by decide +kernel
theorem dX9_fewestBribes_25 : decode cX9_fewestBribes 25 = .ok (.iload_n 2, 1) := by decide +kernel
theorem dX9_fewestBribes_26 : decode cX9_fewestBribes 26 = .ok (.invokestatic 42, 3) := by decide +kernel
theorem dX9_fewestBribes_29 : decode cX9_fewestBribes 29 = .ok (.ifCond .eq 47, 3) := by decide +kernel
theorem dX9_fewestBribes_32 : decode cX9_fewestBribes 32 = .ok (.aload_n 0, 1) := by decide +kernel
theorem dX9_fewestBribes_33 : decode cX9_fewestBribes 33 = .ok (.getfield 12, 3) := by decide +kernel
theorem dX9_fewestBribes_36 : decode cX9_fewestBribes 36 = .ok (.aload_n 0, 1) := by decide +kernel
theorem dX9_fewestBribes_37 : decode cX9_fewestBribes 37 = .ok (.getfield 29, 3) := by decide +kernel
theorem dX9_fewestBribes_40 : decode cX9_fewestBribes 40 = .ok (.invokevirtual 50, 3) := by decide +kernel
theorem dX9_fewestBribes_43 : decode cX9_fewestBribes 43 = .ok (.aload_n 0, 1) := by decide +kernel
theorem dX9_fewestBribes_44 : decode cX9_fewestBribes 44 = .ok (.getfield 12, 3) := by decide +kernel
theorem dX9_fewestBribes_47 : decode cX9_fewestBribes 47 = .ok (.aload_n 0, 1) := by decide +kernel
theorem dX9_fewestBribes_48 : decode cX9_fewestBribes 48 = .ok (.getfield 29, 3) := by decide +kernel
theorem dX9_fewestBribes_51 : decode cX9_fewestBribes 51 = .ok (.invokevirtual 67, 3) := by decide +kernel
theorem dX9_fewestBribes_54 : decode cX9_fewestBribes 54 = .ok (.iload_n 3, 1) := by decide +kernel
theorem dX9_fewestBribes_55 : decode cX9_fewestBribes 55 = .ok (.ior, 1) := by decide +kernel
theorem dX9_fewestBribes_56 : decode cX9_fewestBribes 56 = .ok (.invokevirtual 70, 3) := by decide +kernel
theorem dX9_fewestBribes_59 : decode cX9_fewestBribes 59 = .ok (.aload_n 0, 1) := by decide +kernel
theorem dX9_fewestBribes_60 : decode cX9_fewestBribes 60 = .ok (.invokevirtual 64, 3) := by decide +kernel
theorem dX9_fewestBribes_63 : decode cX9_fewestBribes 63 = .ok (.iload_n 1, 1) := by decide +kernel
theorem dX9_fewestBribes_64 : decode cX9_fewestBribes 64 = .ok (.invokestatic 57, 3) := by decide +kernel
theorem dX9_fewestBribes_67 : decode cX9_fewestBribes 67 = .ok (.ifCond .eq 7, 3) := by decide +kernel
theorem dX9_fewestBribes_70 : decode cX9_fewestBribes 70 = .ok (.iload_n 2, 1) := by decide +kernel
theorem dX9_fewestBribes_71 : decode cX9_fewestBribes 71 = .ok (.goto 4, 3) := by decide +kernel
theorem dX9_fewestBribes_74 : decode cX9_fewestBribes 74 = .ok (.iload_n 3, 1) := by decide +kernel
theorem dX9_fewestBribes_75 : decode cX9_fewestBribes 75 = .ok (.istore_n 2, 1) := by decide +kernel
theorem dX9_fewestBribes_76 : decode cX9_fewestBribes 76 = .ok (.iinc 3 1, 3) := by decide +kernel
theorem dX9_fewestBribes_79 : decode cX9_fewestBribes 79 = .ok (.goto (-74), 3) := by decide +kernel
theorem dX9_fewestBribes_82 : decode cX9_fewestBribes 82 = .ok (.iload_n 2, 1) := by decide +kernel
theorem dX9_fewestBribes_83 : decode cX9_fewestBribes 83 = .ok (.ireturn, 1) := by decide +kernel
theorem dX9_isFewer_0 : decode cX9_isFewer 0 = .ok (.iload_n 1, 1) := by decide +kernel
theorem dX9_isFewer_1 : decode cX9_isFewer 1 = .ok (.bipush (-9), 2) := by decide +kernel
theorem dX9_isFewer_3 : decode cX9_isFewer 3 = .ok (.if_icmp .eq 14, 3) := by decide +kernel
theorem dX9_isFewer_6 : decode cX9_isFewer 6 = .ok (.iload_n 0, 1) := by decide +kernel
theorem dX9_isFewer_7 : decode cX9_isFewer 7 = .ok (.invokestatic 74, 3) := by decide +kernel
theorem dX9_isFewer_10 : decode cX9_isFewer 10 = .ok (.iload_n 1, 1) := by decide +kernel
theorem dX9_isFewer_11 : decode cX9_isFewer 11 = .ok (.invokestatic 74, 3) := by decide +kernel
theorem dX9_isFewer_14 : decode cX9_isFewer 14 = .ok (.if_icmp .ge 7, 3) := by decide +kernel
theorem dX9_isFewer_17 : decode cX9_isFewer 17 = .ok (.iconst 1, 1) := by decide +kernel
theorem dX9_isFewer_18 : decode cX9_isFewer 18 = .ok (.goto 4, 3) := by decide +kernel
theorem dX9_isFewer_21 : decode cX9_isFewer 21 = .ok (.iconst 0, 1) := by decide +kernel
theorem dX9_isFewer_22 : decode cX9_isFewer 22 = .ok (.ireturn, 1) := by decide +kernel
theorem dX9_bestWhisper_0 : decode cX9_bestWhisper 0 = .ok (.bipush (-9), 2) := by decide +kernel
theorem dX9_bestWhisper_2 : decode cX9_bestWhisper 2 = .ok (.istore_n 1, 1) := by decide +kernel
theorem dX9_bestWhisper_3 : decode cX9_bestWhisper 3 = .ok (.aload_n 0, 1) := by decide +kernel
theorem dX9_bestWhisper_4 : decode cX9_bestWhisper 4 = .ok (.invokevirtual 80, 3) := by decide +kernel
theorem dX9_bestWhisper_7 : decode cX9_bestWhisper 7 = .ok (.istore_n 2, 1) := by decide +kernel
theorem dX9_bestWhisper_8 : decode cX9_bestWhisper 8 = .ok (.iconst 0, 1) := by decide +kernel
theorem dX9_bestWhisper_9 : decode cX9_bestWhisper 9 = .ok (.istore_n 3, 1) := by decide +kernel
theorem dX9_bestWhisper_10 : decode cX9_bestWhisper 10 = .ok (.iload_n 3, 1) := by decide +kernel
theorem dX9_bestWhisper_11 : decode cX9_bestWhisper 11 = .ok (.aload_n 0, 1) := by decide +kernel
theorem dX9_bestWhisper_12 : decode cX9_bestWhisper 12 = .ok (.getfield 25, 3) := by decide +kernel
theorem dX9_bestWhisper_15 : decode cX9_bestWhisper 15 = .ok (.invokevirtual 54, 3) := by decide +kernel
theorem dX9_bestWhisper_18 : decode cX9_bestWhisper 18 = .ok (.if_icmp .ge 62, 3) := by decide +kernel
theorem dX9_bestWhisper_21 : decode cX9_bestWhisper 21 = .ok (.iload_n 3, 1) := by decide +kernel
theorem dX9_bestWhisper_22 : decode cX9_bestWhisper 22 = .ok (.iconst 1, 1) := by decide +kernel
theorem dX9_bestWhisper_23 : decode cX9_bestWhisper 23 = .ok (.iadd, 1) := by decide +kernel
theorem dX9_bestWhisper_24 : decode cX9_bestWhisper 24 = .ok (.istore 4, 2) := by decide +kernel
theorem dX9_bestWhisper_26 : decode cX9_bestWhisper 26 = .ok (.iload 4, 2) := by decide +kernel
theorem dX9_bestWhisper_28 : decode cX9_bestWhisper 28 = .ok (.aload_n 0, 1) := by decide +kernel
theorem dX9_bestWhisper_29 : decode cX9_bestWhisper 29 = .ok (.getfield 25, 3) := by decide +kernel
theorem dX9_bestWhisper_32 : decode cX9_bestWhisper 32 = .ok (.invokevirtual 54, 3) := by decide +kernel
theorem dX9_bestWhisper_35 : decode cX9_bestWhisper 35 = .ok (.if_icmp .ge 39, 3) := by decide +kernel
theorem dX9_bestWhisper_38 : decode cX9_bestWhisper 38 = .ok (.aload_n 0, 1) := by decide +kernel
theorem dX9_bestWhisper_39 : decode cX9_bestWhisper 39 = .ok (.bipush 10, 2) := by decide +kernel
theorem dX9_bestWhisper_41 : decode cX9_bestWhisper 41 = .ok (.iload_n 3, 1) := by decide +kernel
theorem dX9_bestWhisper_42 : decode cX9_bestWhisper 42 = .ok (.imul, 1) := by decide +kernel
theorem dX9_bestWhisper_43 : decode cX9_bestWhisper 43 = .ok (.iload 4, 2) := by decide +kernel
theorem dX9_bestWhisper_45 : decode cX9_bestWhisper 45 = .ok (.iadd, 1) := by decide +kernel
theorem dX9_bestWhisper_46 : decode cX9_bestWhisper 46 = .ok (.invokevirtual 83, 3) := by decide +kernel
theorem dX9_bestWhisper_49 : decode cX9_bestWhisper 49 = .ok (.istore 5, 2) := by decide +kernel
theorem dX9_bestWhisper_51 : decode cX9_bestWhisper 51 = .ok (.iload 5, 2) := by decide +kernel
theorem dX9_bestWhisper_53 : decode cX9_bestWhisper 53 = .ok (.iload_n 2, 1) := by decide +kernel
theorem dX9_bestWhisper_54 : decode cX9_bestWhisper 54 = .ok (.if_icmp .le 14, 3) := by decide +kernel
theorem dX9_bestWhisper_57 : decode cX9_bestWhisper 57 = .ok (.iload 5, 2) := by decide +kernel
theorem dX9_bestWhisper_59 : decode cX9_bestWhisper 59 = .ok (.istore_n 2, 1) := by decide +kernel
theorem dX9_bestWhisper_60 : decode cX9_bestWhisper 60 = .ok (.bipush 10, 2) := by decide +kernel
theorem dX9_bestWhisper_62 : decode cX9_bestWhisper 62 = .ok (.iload_n 3, 1) := by decide +kernel
theorem dX9_bestWhisper_63 : decode cX9_bestWhisper 63 = .ok (.imul, 1) := by decide +kernel
theorem dX9_bestWhisper_64 : decode cX9_bestWhisper 64 = .ok (.iload 4, 2) := by decide +kernel
theorem dX9_bestWhisper_66 : decode cX9_bestWhisper 66 = .ok (.iadd, 1) := by decide +kernel
theorem dX9_bestWhisper_67 : decode cX9_bestWhisper 67 = .ok (.istore_n 1, 1) := by decide +kernel
theorem dX9_bestWhisper_68 : decode cX9_bestWhisper 68 = .ok (.iinc 4 1, 3) := by decide +kernel
theorem dX9_bestWhisper_71 : decode cX9_bestWhisper 71 = .ok (.goto (-45), 3) := by decide +kernel
theorem dX9_bestWhisper_74 : decode cX9_bestWhisper 74 = .ok (.iinc 3 1, 3) := by decide +kernel
theorem dX9_bestWhisper_77 : decode cX9_bestWhisper 77 = .ok (.goto (-67), 3) := by decide +kernel
theorem dX9_bestWhisper_80 : decode cX9_bestWhisper 80 = .ok (.iload_n 1, 1) := by decide +kernel
theorem dX9_bestWhisper_81 : decode cX9_bestWhisper 81 = .ok (.ireturn, 1) := by decide +kernel
theorem dX9_countWithWhisper_0 : decode cX9_countWithWhisper 0 = .ok (.iload_n 1, 1) := by decide +kernel
theorem dX9_countWithWhisper_1 : decode cX9_countWithWhisper 1 = .ok (.bipush (-9), 2) := by decide +kernel
theorem dX9_countWithWhisper_3 : decode cX9_countWithWhisper 3 = .ok (.if_icmp .ne 8, 3) := by decide +kernel
theorem dX9_countWithWhisper_6 : decode cX9_countWithWhisper 6 = .ok (.aload_n 0, 1) := by decide +kernel
theorem dX9_countWithWhisper_7 : decode cX9_countWithWhisper 7 = .ok (.invokevirtual 80, 3) := by decide +kernel
theorem dX9_countWithWhisper_10 : decode cX9_countWithWhisper 10 = .ok (.ireturn, 1) := by decide +kernel
theorem dX9_countWithWhisper_11 : decode cX9_countWithWhisper 11 = .ok (.aload_n 0, 1) := by decide +kernel
theorem dX9_countWithWhisper_12 : decode cX9_countWithWhisper 12 = .ok (.getfield 12, 3) := by decide +kernel
theorem dX9_countWithWhisper_15 : decode cX9_countWithWhisper 15 = .ok (.aload_n 0, 1) := by decide +kernel
theorem dX9_countWithWhisper_16 : decode cX9_countWithWhisper 16 = .ok (.getfield 29, 3) := by decide +kernel
theorem dX9_countWithWhisper_19 : decode cX9_countWithWhisper 19 = .ok (.invokevirtual 50, 3) := by decide +kernel
theorem dX9_countWithWhisper_22 : decode cX9_countWithWhisper 22 = .ok (.aload_n 0, 1) := by decide +kernel
theorem dX9_countWithWhisper_23 : decode cX9_countWithWhisper 23 = .ok (.getfield 12, 3) := by decide +kernel
theorem dX9_countWithWhisper_26 : decode cX9_countWithWhisper 26 = .ok (.iload_n 1, 1) := by decide +kernel
theorem dX9_countWithWhisper_27 : decode cX9_countWithWhisper 27 = .ok (.bipush 10, 2) := by decide +kernel
theorem dX9_countWithWhisper_29 : decode cX9_countWithWhisper 29 = .ok (.idiv, 1) := by decide +kernel
theorem dX9_countWithWhisper_30 : decode cX9_countWithWhisper 30 = .ok (.iload_n 1, 1) := by decide +kernel
theorem dX9_countWithWhisper_31 : decode cX9_countWithWhisper 31 = .ok (.bipush 10, 2) := by decide +kernel
theorem dX9_countWithWhisper_33 : decode cX9_countWithWhisper 33 = .ok (.irem, 1) := by decide +kernel
theorem dX9_countWithWhisper_34 : decode cX9_countWithWhisper 34 = .ok (.invokevirtual 86, 3) := by decide +kernel
theorem dX9_countWithWhisper_37 : decode cX9_countWithWhisper 37 = .ok (.aload_n 0, 1) := by decide +kernel
theorem dX9_countWithWhisper_38 : decode cX9_countWithWhisper 38 = .ok (.invokevirtual 64, 3) := by decide +kernel
theorem dX9_countWithWhisper_41 : decode cX9_countWithWhisper 41 = .ok (.invokestatic 74, 3) := by decide +kernel
theorem dX9_countWithWhisper_44 : decode cX9_countWithWhisper 44 = .ok (.ireturn, 1) := by decide +kernel
theorem dX9_countNow_0 : decode cX9_countNow 0 = .ok (.aload_n 0, 1) := by decide +kernel
theorem dX9_countNow_1 : decode cX9_countNow 1 = .ok (.getfield 12, 3) := by decide +kernel
theorem dX9_countNow_4 : decode cX9_countNow 4 = .ok (.aload_n 0, 1) := by decide +kernel
theorem dX9_countNow_5 : decode cX9_countNow 5 = .ok (.getfield 29, 3) := by decide +kernel
theorem dX9_countNow_8 : decode cX9_countNow 8 = .ok (.invokevirtual 50, 3) := by decide +kernel
theorem dX9_countNow_11 : decode cX9_countNow 11 = .ok (.aload_n 0, 1) := by decide +kernel
theorem dX9_countNow_12 : decode cX9_countNow 12 = .ok (.invokevirtual 64, 3) := by decide +kernel
theorem dX9_countNow_15 : decode cX9_countNow 15 = .ok (.invokestatic 74, 3) := by decide +kernel
theorem dX9_countNow_18 : decode cX9_countNow 18 = .ok (.ireturn, 1) := by decide +kernel
theorem dX9_fewerWithout_0 : decode cX9_fewerWithout 0 = .ok (.aload_n 0, 1) := by decide +kernel
theorem dX9_fewerWithout_1 : decode cX9_fewerWithout 1 = .ok (.invokevirtual 80, 3) := by decide +kernel
theorem dX9_fewerWithout_4 : decode cX9_fewerWithout 4 = .ok (.istore_n 2, 1) := by decide +kernel
theorem dX9_fewerWithout_5 : decode cX9_fewerWithout 5 = .ok (.aload_n 0, 1) := by decide +kernel
theorem dX9_fewerWithout_6 : decode cX9_fewerWithout 6 = .ok (.getfield 12, 3) := by decide +kernel
theorem dX9_fewerWithout_9 : decode cX9_fewerWithout 9 = .ok (.aload_n 0, 1) := by decide +kernel
theorem dX9_fewerWithout_10 : decode cX9_fewerWithout 10 = .ok (.getfield 29, 3) := by decide +kernel
theorem dX9_fewerWithout_13 : decode cX9_fewerWithout 13 = .ok (.invokevirtual 50, 3) := by decide +kernel
theorem dX9_fewerWithout_16 : decode cX9_fewerWithout 16 = .ok (.aload_n 0, 1) := by decide +kernel
theorem dX9_fewerWithout_17 : decode cX9_fewerWithout 17 = .ok (.getfield 12, 3) := by decide +kernel
theorem dX9_fewerWithout_20 : decode cX9_fewerWithout 20 = .ok (.iload_n 1, 1) := by decide +kernel
theorem dX9_fewerWithout_21 : decode cX9_fewerWithout 21 = .ok (.invokevirtual 89, 3) := by decide +kernel
theorem dX9_fewerWithout_24 : decode cX9_fewerWithout 24 = .ok (.iload_n 2, 1) := by decide +kernel
theorem dX9_fewerWithout_25 : decode cX9_fewerWithout 25 = .ok (.aload_n 0, 1) := by decide +kernel
theorem dX9_fewerWithout_26 : decode cX9_fewerWithout 26 = .ok (.invokevirtual 64, 3) := by decide +kernel
theorem dX9_fewerWithout_29 : decode cX9_fewerWithout 29 = .ok (.invokestatic 74, 3) := by decide +kernel
theorem dX9_fewerWithout_32 : decode cX9_fewerWithout 32 = .ok (.isub, 1) := by decide +kernel
theorem dX9_fewerWithout_33 : decode cX9_fewerWithout 33 = .ok (.ireturn, 1) := by decide +kernel
theorem dX9_placesThatFit_0 : decode cX9_placesThatFit 0 = .ok (.iconst 0, 1) := by decide +kernel
theorem dX9_placesThatFit_1 : decode cX9_placesThatFit 1 = .ok (.istore_n 2, 1) := by decide +kernel
theorem dX9_placesThatFit_2 : decode cX9_placesThatFit 2 = .ok (.iconst 0, 1) := by decide +kernel
theorem dX9_placesThatFit_3 : decode cX9_placesThatFit 3 = .ok (.istore_n 3, 1) := by decide +kernel
theorem dX9_placesThatFit_4 : decode cX9_placesThatFit 4 = .ok (.iload_n 3, 1) := by decide +kernel
theorem dX9_placesThatFit_5 : decode cX9_placesThatFit 5 = .ok (.aload_n 0, 1) := by decide +kernel
theorem dX9_placesThatFit_6 : decode cX9_placesThatFit 6 = .ok (.getfield 25, 3) := by decide +kernel
theorem dX9_placesThatFit_9 : decode cX9_placesThatFit 9 = .ok (.invokevirtual 54, 3) := by decide +kernel
theorem dX9_placesThatFit_12 : decode cX9_placesThatFit 12 = .ok (.if_icmp .ge 64, 3) := by decide +kernel
theorem dX9_placesThatFit_15 : decode cX9_placesThatFit 15 = .ok (.aload_n 0, 1) := by decide +kernel
theorem dX9_placesThatFit_16 : decode cX9_placesThatFit 16 = .ok (.getfield 12, 3) := by decide +kernel
theorem dX9_placesThatFit_19 : decode cX9_placesThatFit 19 = .ok (.aload_n 0, 1) := by decide +kernel
theorem dX9_placesThatFit_20 : decode cX9_placesThatFit 20 = .ok (.getfield 29, 3) := by decide +kernel
theorem dX9_placesThatFit_23 : decode cX9_placesThatFit 23 = .ok (.invokevirtual 50, 3) := by decide +kernel
theorem dX9_placesThatFit_26 : decode cX9_placesThatFit 26 = .ok (.aload_n 0, 1) := by decide +kernel
theorem dX9_placesThatFit_27 : decode cX9_placesThatFit 27 = .ok (.getfield 12, 3) := by decide +kernel
theorem dX9_placesThatFit_30 : decode cX9_placesThatFit 30 = .ok (.iload_n 3, 1) := by decide +kernel
theorem dX9_placesThatFit_31 : decode cX9_placesThatFit 31 = .ok (.iload_n 1, 1) := by decide +kernel
theorem dX9_placesThatFit_32 : decode cX9_placesThatFit 32 = .ok (.invokevirtual 60, 3) := by decide +kernel
theorem dX9_placesThatFit_35 : decode cX9_placesThatFit 35 = .ok (.aload_n 0, 1) := by decide +kernel
theorem dX9_placesThatFit_36 : decode cX9_placesThatFit 36 = .ok (.getfield 21, 3) := by decide +kernel
theorem dX9_placesThatFit_39 : decode cX9_placesThatFit 39 = .ok (.aload_n 0, 1) := by decide +kernel
theorem dX9_placesThatFit_40 : decode cX9_placesThatFit 40 = .ok (.getfield 25, 3) := by decide +kernel
theorem dX9_placesThatFit_43 : decode cX9_placesThatFit 43 = .ok (.aload_n 0, 1) := by decide +kernel
theorem dX9_placesThatFit_44 : decode cX9_placesThatFit 44 = .ok (.getfield 12, 3) := by decide +kernel
theorem dX9_placesThatFit_47 : decode cX9_placesThatFit 47 = .ok (.invokevirtual 92, 3) := by decide +kernel
theorem dX9_placesThatFit_50 : decode cX9_placesThatFit 50 = .ok (.aload_n 0, 1) := by decide +kernel
theorem dX9_placesThatFit_51 : decode cX9_placesThatFit 51 = .ok (.getfield 32, 3) := by decide +kernel
theorem dX9_placesThatFit_54 : decode cX9_placesThatFit 54 = .ok (.aload_n 0, 1) := by decide +kernel
theorem dX9_placesThatFit_55 : decode cX9_placesThatFit 55 = .ok (.getfield 21, 3) := by decide +kernel
theorem dX9_placesThatFit_58 : decode cX9_placesThatFit 58 = .ok (.invokevirtual 96, 3) := by decide +kernel
theorem dX9_placesThatFit_61 : decode cX9_placesThatFit 61 = .ok (.ifCond .eq 9, 3) := by decide +kernel
theorem dX9_placesThatFit_64 : decode cX9_placesThatFit 64 = .ok (.iload_n 2, 1) := by decide +kernel
theorem dX9_placesThatFit_65 : decode cX9_placesThatFit 65 = .ok (.iconst 1, 1) := by decide +kernel
theorem dX9_placesThatFit_66 : decode cX9_placesThatFit 66 = .ok (.iload_n 3, 1) := by decide +kernel
theorem dX9_placesThatFit_67 : decode cX9_placesThatFit 67 = .ok (.ishl, 1) := by decide +kernel
theorem dX9_placesThatFit_68 : decode cX9_placesThatFit 68 = .ok (.ior, 1) := by decide +kernel
theorem dX9_placesThatFit_69 : decode cX9_placesThatFit 69 = .ok (.istore_n 2, 1) := by decide +kernel
theorem dX9_placesThatFit_70 : decode cX9_placesThatFit 70 = .ok (.iinc 3 1, 3) := by decide +kernel
theorem dX9_placesThatFit_73 : decode cX9_placesThatFit 73 = .ok (.goto (-69), 3) := by decide +kernel
theorem dX9_placesThatFit_76 : decode cX9_placesThatFit 76 = .ok (.iload_n 2, 1) := by decide +kernel
theorem dX9_placesThatFit_77 : decode cX9_placesThatFit 77 = .ok (.ireturn, 1) := by decide +kernel
theorem dX9_bribesThatFit_0 : decode cX9_bribesThatFit 0 = .ok (.iconst 0, 1) := by decide +kernel
theorem dX9_bribesThatFit_1 : decode cX9_bribesThatFit 1 = .ok (.istore_n 1, 1) := by decide +kernel
theorem dX9_bribesThatFit_2 : decode cX9_bribesThatFit 2 = .ok (.iconst 0, 1) := by decide +kernel
theorem dX9_bribesThatFit_3 : decode cX9_bribesThatFit 3 = .ok (.istore_n 2, 1) := by decide +kernel
theorem dX9_bribesThatFit_4 : decode cX9_bribesThatFit 4 = .ok (.iload_n 2, 1) := by decide +kernel
theorem dX9_bribesThatFit_5 : decode cX9_bribesThatFit 5 = .ok (.aload_n 0, 1) := by decide +kernel
theorem dX9_bribesThatFit_6 : decode cX9_bribesThatFit 6 = .ok (.getfield 25, 3) := by decide +kernel
theorem dX9_bribesThatFit_9 : decode cX9_bribesThatFit 9 = .ok (.invokevirtual 54, 3) := by decide +kernel
theorem dX9_bribesThatFit_12 : decode cX9_bribesThatFit 12 = .ok (.if_icmp .ge 73, 3) := by decide +kernel
theorem dX9_bribesThatFit_15 : decode cX9_bribesThatFit 15 = .ok (.aload_n 0, 1) := by decide +kernel
theorem dX9_bribesThatFit_16 : decode cX9_bribesThatFit 16 = .ok (.getfield 12, 3) := by decide +kernel
theorem dX9_bribesThatFit_19 : decode cX9_bribesThatFit 19 = .ok (.aload_n 0, 1) := by decide +kernel
theorem dX9_bribesThatFit_20 : decode cX9_bribesThatFit 20 = .ok (.getfield 29, 3) := by decide +kernel
theorem dX9_bribesThatFit_23 : decode cX9_bribesThatFit 23 = .ok (.invokevirtual 50, 3) := by decide +kernel
theorem dX9_bribesThatFit_26 : decode cX9_bribesThatFit 26 = .ok (.aload_n 0, 1) := by decide +kernel
theorem dX9_bribesThatFit_27 : decode cX9_bribesThatFit 27 = .ok (.getfield 12, 3) := by decide +kernel
theorem dX9_bribesThatFit_30 : decode cX9_bribesThatFit 30 = .ok (.aload_n 0, 1) := by decide +kernel
theorem dX9_bribesThatFit_31 : decode cX9_bribesThatFit 31 = .ok (.getfield 29, 3) := by decide +kernel
theorem dX9_bribesThatFit_34 : decode cX9_bribesThatFit 34 = .ok (.invokevirtual 67, 3) := by decide +kernel
theorem dX9_bribesThatFit_37 : decode cX9_bribesThatFit 37 = .ok (.iconst 1, 1) := by decide +kernel
theorem dX9_bribesThatFit_38 : decode cX9_bribesThatFit 38 = .ok (.iload_n 2, 1) := by decide +kernel
theorem dX9_bribesThatFit_39 : decode cX9_bribesThatFit 39 = .ok (.ishl, 1) := by decide +kernel
theorem dX9_bribesThatFit_40 : decode cX9_bribesThatFit 40 = .ok (.ior, 1) := by decide +kernel
theorem dX9_bribesThatFit_41 : decode cX9_bribesThatFit 41 = .ok (.invokevirtual 70, 3) := by decide +kernel
theorem dX9_bribesThatFit_44 : decode cX9_bribesThatFit 44 = .ok (.aload_n 0, 1) := by decide +kernel
theorem dX9_bribesThatFit_45 : decode cX9_bribesThatFit 45 = .ok (.getfield 21, 3) := by decide +kernel
theorem dX9_bribesThatFit_48 : decode cX9_bribesThatFit 48 = .ok (.aload_n 0, 1) := by decide +kernel
theorem dX9_bribesThatFit_49 : decode cX9_bribesThatFit 49 = .ok (.getfield 25, 3) := by decide +kernel
theorem dX9_bribesThatFit_52 : decode cX9_bribesThatFit 52 = .ok (.aload_n 0, 1) := by decide +kernel
theorem dX9_bribesThatFit_53 : decode cX9_bribesThatFit 53 = .ok (.getfield 12, 3) := by decide +kernel
theorem dX9_bribesThatFit_56 : decode cX9_bribesThatFit 56 = .ok (.invokevirtual 92, 3) := by decide +kernel
theorem dX9_bribesThatFit_59 : decode cX9_bribesThatFit 59 = .ok (.aload_n 0, 1) := by decide +kernel
theorem dX9_bribesThatFit_60 : decode cX9_bribesThatFit 60 = .ok (.getfield 32, 3) := by decide +kernel
theorem dX9_bribesThatFit_63 : decode cX9_bribesThatFit 63 = .ok (.aload_n 0, 1) := by decide +kernel
theorem dX9_bribesThatFit_64 : decode cX9_bribesThatFit 64 = .ok (.getfield 21, 3) := by decide +kernel
theorem dX9_bribesThatFit_67 : decode cX9_bribesThatFit 67 = .ok (.invokevirtual 96, 3) := by decide +kernel
theorem dX9_bribesThatFit_70 : decode cX9_bribesThatFit 70 = .ok (.ifCond .eq 9, 3) := by decide +kernel
theorem dX9_bribesThatFit_73 : decode cX9_bribesThatFit 73 = .ok (.iload_n 1, 1) := by decide +kernel
theorem dX9_bribesThatFit_74 : decode cX9_bribesThatFit 74 = .ok (.iconst 1, 1) := by decide +kernel
theorem dX9_bribesThatFit_75 : decode cX9_bribesThatFit 75 = .ok (.iload_n 2, 1) := by decide +kernel
theorem dX9_bribesThatFit_76 : decode cX9_bribesThatFit 76 = .ok (.ishl, 1) := by decide +kernel
theorem dX9_bribesThatFit_77 : decode cX9_bribesThatFit 77 = .ok (.ior, 1) := by decide +kernel
theorem dX9_bribesThatFit_78 : decode cX9_bribesThatFit 78 = .ok (.istore_n 1, 1) := by decide +kernel
theorem dX9_bribesThatFit_79 : decode cX9_bribesThatFit 79 = .ok (.iinc 2 1, 3) := by decide +kernel
theorem dX9_bribesThatFit_82 : decode cX9_bribesThatFit 82 = .ok (.goto (-78), 3) := by decide +kernel
theorem dX9_bribesThatFit_85 : decode cX9_bribesThatFit 85 = .ok (.iload_n 1, 1) := by decide +kernel
theorem dX9_bribesThatFit_86 : decode cX9_bribesThatFit 86 = .ok (.ireturn, 1) := by decide +kernel
theorem dX9_shareOfSaying_0 : decode cX9_shareOfSaying 0 = .ok (.iconst 0, 1) := by decide +kernel
theorem dX9_shareOfSaying_1 : decode cX9_shareOfSaying 1 = .ok (.istore 4, 2) := by decide +kernel
theorem dX9_shareOfSaying_3 : decode cX9_shareOfSaying 3 = .ok (.aload_n 0, 1) := by decide +kernel
theorem dX9_shareOfSaying_4 : decode cX9_shareOfSaying 4 = .ok (.getfield 12, 3) := by decide +kernel
theorem dX9_shareOfSaying_7 : decode cX9_shareOfSaying 7 = .ok (.aload_n 0, 1) := by decide +kernel
theorem dX9_shareOfSaying_8 : decode cX9_shareOfSaying 8 = .ok (.getfield 29, 3) := by decide +kernel
theorem dX9_shareOfSaying_11 : decode cX9_shareOfSaying 11 = .ok (.invokevirtual 50, 3) := by decide +kernel
theorem dX9_shareOfSaying_14 : decode cX9_shareOfSaying 14 = .ok (.iconst 0, 1) := by decide +kernel
theorem dX9_shareOfSaying_15 : decode cX9_shareOfSaying 15 = .ok (.istore 5, 2) := by decide +kernel
theorem dX9_shareOfSaying_17 : decode cX9_shareOfSaying 17 = .ok (.iload 5, 2) := by decide +kernel
theorem dX9_shareOfSaying_19 : decode cX9_shareOfSaying 19 = .ok (.aload_n 0, 1) := by decide +kernel
theorem dX9_shareOfSaying_20 : decode cX9_shareOfSaying 20 = .ok (.getfield 25, 3) := by decide +kernel
theorem dX9_shareOfSaying_23 : decode cX9_shareOfSaying 23 = .ok (.invokevirtual 36, 3) := by decide +kernel
theorem dX9_shareOfSaying_26 : decode cX9_shareOfSaying 26 = .ok (.if_icmp .gt 58, 3) := by decide +kernel
theorem dX9_shareOfSaying_29 : decode cX9_shareOfSaying 29 = .ok (.aload_n 0, 1) := by decide +kernel
theorem dX9_shareOfSaying_30 : decode cX9_shareOfSaying 30 = .ok (.getfield 12, 3) := by decide +kernel
theorem dX9_shareOfSaying_33 : decode cX9_shareOfSaying 33 = .ok (.iload 5, 2) := by decide +kernel
theorem dX9_shareOfSaying_35 : decode cX9_shareOfSaying 35 = .ok (.invokevirtual 70, 3) := by decide +kernel
theorem dX9_shareOfSaying_38 : decode cX9_shareOfSaying 38 = .ok (.aload_n 0, 1) := by decide +kernel
theorem dX9_shareOfSaying_39 : decode cX9_shareOfSaying 39 = .ok (.getfield 21, 3) := by decide +kernel
theorem dX9_shareOfSaying_42 : decode cX9_shareOfSaying 42 = .ok (.aload_n 0, 1) := by decide +kernel
theorem dX9_shareOfSaying_43 : decode cX9_shareOfSaying 43 = .ok (.getfield 25, 3) := by decide +kernel
theorem dX9_shareOfSaying_46 : decode cX9_shareOfSaying 46 = .ok (.aload_n 0, 1) := by decide +kernel
theorem dX9_shareOfSaying_47 : decode cX9_shareOfSaying 47 = .ok (.getfield 12, 3) := by decide +kernel
theorem dX9_shareOfSaying_50 : decode cX9_shareOfSaying 50 = .ok (.invokevirtual 92, 3) := by decide +kernel
theorem dX9_shareOfSaying_53 : decode cX9_shareOfSaying 53 = .ok (.iload 4, 2) := by decide +kernel
theorem dX9_shareOfSaying_55 : decode cX9_shareOfSaying 55 = .ok (.aload_n 0, 1) := by decide +kernel
theorem dX9_shareOfSaying_56 : decode cX9_shareOfSaying 56 = .ok (.getfield 21, 3) := by decide +kernel
theorem dX9_shareOfSaying_59 : decode cX9_shareOfSaying 59 = .ok (.iload_n 2, 1) := by decide +kernel
theorem dX9_shareOfSaying_60 : decode cX9_shareOfSaying 60 = .ok (.invokevirtual 102, 3) := by decide +kernel
theorem dX9_shareOfSaying_63 : decode cX9_shareOfSaying 63 = .ok (.iload_n 1, 1) := by decide +kernel
theorem dX9_shareOfSaying_64 : decode cX9_shareOfSaying 64 = .ok (.invokestatic 57, 3) := by decide +kernel
theorem dX9_shareOfSaying_67 : decode cX9_shareOfSaying 67 = .ok (.ifCond .eq 7, 3) := by decide +kernel
theorem dX9_shareOfSaying_70 : decode cX9_shareOfSaying 70 = .ok (.iconst 1, 1) := by decide +kernel
theorem dX9_shareOfSaying_71 : decode cX9_shareOfSaying 71 = .ok (.goto 4, 3) := by decide +kernel
theorem dX9_shareOfSaying_74 : decode cX9_shareOfSaying 74 = .ok (.iconst 0, 1) := by decide +kernel
theorem dX9_shareOfSaying_75 : decode cX9_shareOfSaying 75 = .ok (.iadd, 1) := by decide +kernel
theorem dX9_shareOfSaying_76 : decode cX9_shareOfSaying 76 = .ok (.istore 4, 2) := by decide +kernel
theorem dX9_shareOfSaying_78 : decode cX9_shareOfSaying 78 = .ok (.iinc 5 1, 3) := by decide +kernel
theorem dX9_shareOfSaying_81 : decode cX9_shareOfSaying 81 = .ok (.goto (-64), 3) := by decide +kernel
theorem dX9_shareOfSaying_84 : decode cX9_shareOfSaying 84 = .ok (.aload_n 0, 1) := by decide +kernel
theorem dX9_shareOfSaying_85 : decode cX9_shareOfSaying 85 = .ok (.getfield 25, 3) := by decide +kernel
theorem dX9_shareOfSaying_88 : decode cX9_shareOfSaying 88 = .ok (.invokevirtual 36, 3) := by decide +kernel
theorem dX9_shareOfSaying_91 : decode cX9_shareOfSaying 91 = .ok (.iconst 1, 1) := by decide +kernel
theorem dX9_shareOfSaying_92 : decode cX9_shareOfSaying 92 = .ok (.iadd, 1) := by decide +kernel
theorem dX9_shareOfSaying_93 : decode cX9_shareOfSaying 93 = .ok (.istore 5, 2) := by decide +kernel
theorem dX9_shareOfSaying_95 : decode cX9_shareOfSaying 95 = .ok (.iconst 0, 1) := by decide +kernel
theorem dX9_shareOfSaying_96 : decode cX9_shareOfSaying 96 = .ok (.istore 6, 2) := by decide +kernel
theorem dX9_shareOfSaying_98 : decode cX9_shareOfSaying 98 = .ok (.iload 6, 2) := by decide +kernel
theorem dX9_shareOfSaying_100 : decode cX9_shareOfSaying 100 = .ok (.aload_n 0, 1) := by decide +kernel
theorem dX9_shareOfSaying_101 : decode cX9_shareOfSaying 101 = .ok (.getfield 25, 3) := by decide +kernel
theorem dX9_shareOfSaying_104 : decode cX9_shareOfSaying 104 = .ok (.invokevirtual 54, 3) := by decide +kernel
theorem dX9_shareOfSaying_107 : decode cX9_shareOfSaying 107 = .ok (.if_icmp .ge 28, 3) := by decide +kernel
theorem dX9_shareOfSaying_110 : decode cX9_shareOfSaying 110 = .ok (.iload 4, 2) := by decide +kernel
theorem dX9_shareOfSaying_112 : decode cX9_shareOfSaying 112 = .ok (.iconst 2, 1) := by decide +kernel
theorem dX9_shareOfSaying_113 : decode cX9_shareOfSaying 113 = .ok (.irem, 1) := by decide +kernel
theorem dX9_shareOfSaying_114 : decode cX9_shareOfSaying 114 = .ok (.ifCond .ne 21, 3) := by decide +kernel
theorem dX9_shareOfSaying_117 : decode cX9_shareOfSaying 117 = .ok (.iload 4, 2) := by decide +kernel
theorem dX9_shareOfSaying_119 : decode cX9_shareOfSaying 119 = .ok (.iconst 2, 1) := by decide +kernel
theorem dX9_shareOfSaying_120 : decode cX9_shareOfSaying 120 = .ok (.idiv, 1) := by decide +kernel
theorem dX9_shareOfSaying_121 : decode cX9_shareOfSaying 121 = .ok (.istore 4, 2) := by decide +kernel
theorem dX9_shareOfSaying_123 : decode cX9_shareOfSaying 123 = .ok (.iload 5, 2) := by decide +kernel
theorem dX9_shareOfSaying_125 : decode cX9_shareOfSaying 125 = .ok (.iconst 2, 1) := by decide +kernel
theorem dX9_shareOfSaying_126 : decode cX9_shareOfSaying 126 = .ok (.idiv, 1) := by decide +kernel
theorem dX9_shareOfSaying_127 : decode cX9_shareOfSaying 127 = .ok (.istore 5, 2) := by decide +kernel
theorem dX9_shareOfSaying_129 : decode cX9_shareOfSaying 129 = .ok (.iinc 6 1, 3) := by decide +kernel
theorem dX9_shareOfSaying_132 : decode cX9_shareOfSaying 132 = .ok (.goto (-34), 3) := by decide +kernel
theorem dX9_shareOfSaying_135 : decode cX9_shareOfSaying 135 = .ok (.iload_n 3, 1) := by decide +kernel
theorem dX9_shareOfSaying_136 : decode cX9_shareOfSaying 136 = .ok (.ifCond .eq 8, 3) := by decide +kernel
theorem dX9_shareOfSaying_139 : decode cX9_shareOfSaying 139 = .ok (.iload 4, 2) := by decide +kernel
theorem dX9_shareOfSaying_141 : decode cX9_shareOfSaying 141 = .ok (.goto 5, 3) := by decide +kernel
theorem dX9_shareOfSaying_144 : decode cX9_shareOfSaying 144 = .ok (.iload 5, 2) := by decide +kernel
theorem dX9_shareOfSaying_146 : decode cX9_shareOfSaying 146 = .ok (.ireturn, 1) := by decide +kernel
theorem dX9_sayAtLast_0 : decode cX9_sayAtLast 0 = .ok (.aload_n 0, 1) := by decide +kernel
theorem dX9_sayAtLast_1 : decode cX9_sayAtLast 1 = .ok (.getfield 21, 3) := by decide +kernel
theorem dX9_sayAtLast_4 : decode cX9_sayAtLast 4 = .ok (.aload_n 0, 1) := by decide +kernel
theorem dX9_sayAtLast_5 : decode cX9_sayAtLast 5 = .ok (.getfield 25, 3) := by decide +kernel
theorem dX9_sayAtLast_8 : decode cX9_sayAtLast 8 = .ok (.aload_n 0, 1) := by decide +kernel
theorem dX9_sayAtLast_9 : decode cX9_sayAtLast 9 = .ok (.getfield 12, 3) := by decide +kernel
theorem dX9_sayAtLast_12 : decode cX9_sayAtLast 12 = .ok (.invokevirtual 92, 3) := by decide +kernel
theorem dX9_sayAtLast_15 : decode cX9_sayAtLast 15 = .ok (.aload_n 0, 1) := by decide +kernel
theorem dX9_sayAtLast_16 : decode cX9_sayAtLast 16 = .ok (.getfield 21, 3) := by decide +kernel
theorem dX9_sayAtLast_19 : decode cX9_sayAtLast 19 = .ok (.bipush 39, 2) := by decide +kernel
theorem dX9_sayAtLast_21 : decode cX9_sayAtLast 21 = .ok (.invokevirtual 102, 3) := by decide +kernel
theorem dX9_sayAtLast_24 : decode cX9_sayAtLast 24 = .ok (.ireturn, 1) := by decide +kernel
theorem dX10_init_0 : decode cX10_init 0 = .ok (.aload_n 0, 1) := by decide +kernel
theorem dX10_init_1 : decode cX10_init 1 = .ok (.invokespecial 5, 3) := by decide +kernel
theorem dX10_init_4 : decode cX10_init 4 = .ok (.aload_n 0, 1) := by decide +kernel
theorem dX10_init_5 : decode cX10_init 5 = .ok (.iconst 4, 1) := by decide +kernel
theorem dX10_init_6 : decode cX10_init 6 = .ok (.anewarray 11, 3) := by decide +kernel
theorem dX10_init_9 : decode cX10_init 9 = .ok (.putfield 13, 3) := by decide +kernel
theorem dX10_init_12 : decode cX10_init 12 = .ok (.iconst 0, 1) := by decide +kernel
theorem dX10_init_13 : decode cX10_init 13 = .ok (.istore_n 1, 1) := by decide +kernel
theorem dX10_init_14 : decode cX10_init 14 = .ok (.iload_n 1, 1) := by decide +kernel
theorem dX10_init_15 : decode cX10_init 15 = .ok (.iconst 4, 1) := by decide +kernel
theorem dX10_init_16 : decode cX10_init 16 = .ok (.if_icmp .ge 22, 3) := by decide +kernel
theorem dX10_init_19 : decode cX10_init 19 = .ok (.aload_n 0, 1) := by decide +kernel
theorem dX10_init_20 : decode cX10_init 20 = .ok (.getfield 13, 3) := by decide +kernel
theorem dX10_init_23 : decode cX10_init 23 = .ok (.iload_n 1, 1) := by decide +kernel
theorem dX10_init_24 : decode cX10_init 24 = .ok (.new 11, 3) := by decide +kernel
theorem dX10_init_27 : decode cX10_init 27 = .ok (.dup, 1) := by decide +kernel
theorem dX10_init_28 : decode cX10_init 28 = .ok (.invokespecial 17, 3) := by decide +kernel
theorem dX10_init_31 : decode cX10_init 31 = .ok (.aastore, 1) := by decide +kernel
theorem dX10_init_32 : decode cX10_init 32 = .ok (.iinc 1 1, 3) := by decide +kernel
theorem dX10_init_35 : decode cX10_init 35 = .ok (.goto (-21), 3) := by decide +kernel
theorem dX10_init_38 : decode cX10_init 38 = .ok (.aload_n 0, 1) := by decide +kernel
theorem dX10_init_39 : decode cX10_init 39 = .ok (.new 18, 3) := by decide +kernel
theorem dX10_init_42 : decode cX10_init 42 = .ok (.dup, 1) := by decide +kernel
theorem dX10_init_43 : decode cX10_init 43 = .ok (.invokespecial 20, 3) := by decide +kernel
theorem dX10_init_46 : decode cX10_init 46 = .ok (.putfield 21, 3) := by decide +kernel
theorem dX10_init_49 : decode cX10_init 49 = .ok (.aload_n 0, 1) := by decide +kernel
theorem dX10_init_50 : decode cX10_init 50 = .ok (.new 25, 3) := by decide +kernel
theorem dX10_init_53 : decode cX10_init 53 = .ok (.dup, 1) := by decide +kernel
theorem dX10_init_54 : decode cX10_init 54 = .ok (.invokespecial 27, 3) := by decide +kernel
theorem dX10_init_57 : decode cX10_init 57 = .ok (.putfield 28, 3) := by decide +kernel
theorem dX10_init_60 : decode cX10_init 60 = .ok (.aload_n 0, 1) := by decide +kernel
theorem dX10_init_61 : decode cX10_init 61 = .ok (.new 32, 3) := by decide +kernel
theorem dX10_init_64 : decode cX10_init 64 = .ok (.dup, 1) := by decide +kernel
theorem dX10_init_65 : decode cX10_init 65 = .ok (.invokespecial 34, 3) := by decide +kernel
theorem dX10_init_68 : decode cX10_init 68 = .ok (.putfield 35, 3) := by decide +kernel
theorem dX10_init_71 : decode cX10_init 71 = .ok (.aload_n 0, 1) := by decide +kernel
theorem dX10_init_72 : decode cX10_init 72 = .ok (.new 39, 3) := by decide +kernel
theorem dX10_init_75 : decode cX10_init 75 = .ok (.dup, 1) := by decide +kernel
theorem dX10_init_76 : decode cX10_init 76 = .ok (.invokespecial 41, 3) := by decide +kernel
theorem dX10_init_79 : decode cX10_init 79 = .ok (.putfield 42, 3) := by decide +kernel
theorem dX10_init_82 : decode cX10_init 82 = .ok (.aload_n 0, 1) := by decide +kernel
theorem dX10_init_83 : decode cX10_init 83 = .ok (.new 46, 3) := by decide +kernel
theorem dX10_init_86 : decode cX10_init 86 = .ok (.dup, 1) := by decide +kernel
theorem dX10_init_87 : decode cX10_init 87 = .ok (.aload_n 0, 1) := by decide +kernel
theorem dX10_init_88 : decode cX10_init 88 = .ok (.getfield 21, 3) := by decide +kernel
theorem dX10_init_91 : decode cX10_init 91 = .ok (.aload_n 0, 1) := by decide +kernel
theorem dX10_init_92 : decode cX10_init 92 = .ok (.getfield 28, 3) := by decide +kernel
theorem dX10_init_95 : decode cX10_init 95 = .ok (.aload_n 0, 1) := by decide +kernel
theorem dX10_init_96 : decode cX10_init 96 = .ok (.getfield 42, 3) := by decide +kernel
theorem dX10_init_99 : decode cX10_init 99 = .ok (.invokespecial 48, 3) := by decide +kernel
theorem dX10_init_102 : decode cX10_init 102 = .ok (.putfield 51, 3) := by decide +kernel
theorem dX10_init_105 : decode cX10_init 105 = .ok (.aload_n 0, 1) := by decide +kernel
theorem dX10_init_106 : decode cX10_init 106 = .ok (.new 55, 3) := by decide +kernel
theorem dX10_init_109 : decode cX10_init 109 = .ok (.dup, 1) := by decide +kernel
theorem dX10_init_110 : decode cX10_init 110 = .ok (.invokespecial 57, 3) := by decide +kernel
theorem dX10_init_113 : decode cX10_init 113 = .ok (.putfield 58, 3) := by decide +kernel
theorem dX10_init_116 : decode cX10_init 116 = .ok (.aload_n 0, 1) := by decide +kernel
theorem dX10_init_117 : decode cX10_init 117 = .ok (.iconst 0, 1) := by decide +kernel
theorem dX10_init_118 : decode cX10_init 118 = .ok (.putfield 62, 3) := by decide +kernel
theorem dX10_init_121 : decode cX10_init 121 = .ok (.return_, 1) := by decide +kernel
theorem dX10_street_0 : decode cX10_street 0 = .ok (.aload_n 0, 1) := by decide +kernel
theorem dX10_street_1 : decode cX10_street 1 = .ok (.iconst 0, 1) := by decide +kernel
theorem dX10_street_2 : decode cX10_street 2 = .ok (.putfield 62, 3) := by decide +kernel
theorem dX10_street_5 : decode cX10_street 5 = .ok (.aload_n 0, 1) := by decide +kernel
theorem dX10_street_6 : decode cX10_street 6 = .ok (.iload_n 1, 1) := by decide +kernel
theorem dX10_street_7 : decode cX10_street 7 = .ok (.invokevirtual 66, 3) := by decide +kernel
theorem dX10_street_10 : decode cX10_street 10 = .ok (.astore 5, 2) := by decide +kernel
theorem dX10_street_12 : decode cX10_street 12 = .ok (.aload 5, 2) := by decide +kernel
theorem dX10_street_14 : decode cX10_street 14 = .ok (.ifnonnull 5, 3) := by decide +kernel
theorem dX10_street_17 : decode cX10_street 17 = .ok (.iconst (-1), 1) := by decide +kernel
theorem dX10_street_18 : decode cX10_street 18 = .ok (.ireturn, 1) := by decide +kernel
theorem dX10_street_19 : decode cX10_street 19 = .ok (.iload_n 2, 1) := by decide +kernel
theorem dX10_street_20 : decode cX10_street 20 = .ok (.invokestatic 70, 3) := by decide +kernel
theorem dX10_street_23 : decode cX10_street 23 = .ok (.ifCond .ne 6, 3) := by decide +kernel
theorem dX10_street_26 : decode cX10_street 26 = .ok (.bipush (-2), 2) := by decide +kernel
theorem dX10_street_28 : decode cX10_street 28 = .ok (.ireturn, 1) := by decide +kernel
theorem dX10_street_29 : decode cX10_street 29 = .ok (.aload 5, 2) := by decide +kernel
theorem dX10_street_31 : decode cX10_street 31 = .ok (.iload_n 2, 1) := by decide +kernel
theorem dX10_street_32 : decode cX10_street 32 = .ok (.iload_n 3, 1) := by decide +kernel
theorem dX10_street_33 : decode cX10_street 33 = .ok (.iload 4, 2) := by decide +kernel
theorem dX10_street_35 : decode cX10_street 35 = .ok (.invokevirtual 74, 3) := by decide +kernel
theorem dX10_street_38 : decode cX10_street 38 = .ok (.istore 6, 2) := by decide +kernel
theorem dX10_street_40 : decode cX10_street 40 = .ok (.iload 6, 2) := by decide +kernel
theorem dX10_street_42 : decode cX10_street 42 = .ok (.ifCond .eq 10, 3) := by decide +kernel
theorem dX10_street_45 : decode cX10_street 45 = .ok (.aload_n 0, 1) := by decide +kernel
theorem dX10_street_46 : decode cX10_street 46 = .ok (.iload 6, 2) := by decide +kernel
theorem dX10_street_48 : decode cX10_street 48 = .ok (.invokevirtual 78, 3) := by decide +kernel
theorem dX10_street_51 : decode cX10_street 51 = .ok (.ireturn, 1) := by decide +kernel
theorem dX10_street_52 : decode cX10_street 52 = .ok (.aload 5, 2) := by decide +kernel
theorem dX10_street_54 : decode cX10_street 54 = .ok (.iload_n 3, 1) := by decide +kernel
theorem dX10_street_55 : decode cX10_street 55 = .ok (.iload 4, 2) := by decide +kernel
theorem dX10_street_57 : decode cX10_street 57 = .ok (.invokestatic 82, 3) := by decide +kernel
theorem dX10_street_60 : decode cX10_street 60 = .ok (.istore 7, 2) := by decide +kernel
theorem dX10_street_62 : decode cX10_street 62 = .ok (.iload 7, 2) := by decide +kernel
theorem dX10_street_64 : decode cX10_street 64 = .ok (.bipush (-9), 2) := by decide +kernel
theorem dX10_street_66 : decode cX10_street 66 = .ok (.if_icmp .eq 9, 3) := by decide +kernel
theorem dX10_street_69 : decode cX10_street 69 = .ok (.bipush (-100), 2) := by decide +kernel
theorem dX10_street_71 : decode cX10_street 71 = .ok (.iload 7, 2) := by decide +kernel
theorem dX10_street_73 : decode cX10_street 73 = .ok (.isub, 1) := by decide +kernel
theorem dX10_street_74 : decode cX10_street 74 = .ok (.ireturn, 1) := by decide +kernel
theorem dX10_street_75 : decode cX10_street 75 = .ok (.aload_n 0, 1) := by decide +kernel
theorem dX10_street_76 : decode cX10_street 76 = .ok (.getfield 21, 3) := by decide +kernel
theorem dX10_street_79 : decode cX10_street 79 = .ok (.aload 5, 2) := by decide +kernel
theorem dX10_street_81 : decode cX10_street 81 = .ok (.iload_n 3, 1) := by decide +kernel
theorem dX10_street_82 : decode cX10_street 82 = .ok (.iload 4, 2) := by decide +kernel
theorem dX10_street_84 : decode cX10_street 84 = .ok (.invokevirtual 86, 3) := by decide +kernel
theorem dX10_street_87 : decode cX10_street 87 = .ok (.aload_n 0, 1) := by decide +kernel
theorem dX10_street_88 : decode cX10_street 88 = .ok (.getfield 28, 3) := by decide +kernel
theorem dX10_street_91 : decode cX10_street 91 = .ok (.invokevirtual 90, 3) := by decide +kernel
theorem dX10_street_94 : decode cX10_street 94 = .ok (.aload_n 0, 1) := by decide +kernel
theorem dX10_street_95 : decode cX10_street 95 = .ok (.getfield 42, 3) := by decide +kernel
theorem dX10_street_98 : decode cX10_street 98 = .ok (.invokevirtual 93, 3) := by decide +kernel
theorem dX10_street_101 : decode cX10_street 101 = .ok (.aload_n 0, 1) := by decide +kernel
theorem dX10_street_102 : decode cX10_street 102 = .ok (.getfield 21, 3) := by decide +kernel
theorem dX10_street_105 : decode cX10_street 105 = .ok (.invokevirtual 94, 3) := by decide +kernel
theorem dX10_street_108 : decode cX10_street 108 = .ok (.ireturn, 1) := by decide +kernel
theorem dX10_ofPerson_0 : decode cX10_ofPerson 0 = .ok (.aload_n 0, 1) := by decide +kernel
theorem dX10_ofPerson_1 : decode cX10_ofPerson 1 = .ok (.getfield 21, 3) := by decide +kernel
theorem dX10_ofPerson_4 : decode cX10_ofPerson 4 = .ok (.iload_n 1, 1) := by decide +kernel
theorem dX10_ofPerson_5 : decode cX10_ofPerson 5 = .ok (.invokevirtual 98, 3) := by decide +kernel
theorem dX10_ofPerson_8 : decode cX10_ofPerson 8 = .ok (.astore_n 3, 1) := by decide +kernel
theorem dX10_ofPerson_9 : decode cX10_ofPerson 9 = .ok (.aload_n 3, 1) := by decide +kernel
theorem dX10_ofPerson_10 : decode cX10_ofPerson 10 = .ok (.ifnonnull 5, 3) := by decide +kernel
theorem dX10_ofPerson_13 : decode cX10_ofPerson 13 = .ok (.iconst (-1), 1) := by decide +kernel
theorem dX10_ofPerson_14 : decode cX10_ofPerson 14 = .ok (.ireturn, 1) := by decide +kernel
theorem dX10_ofPerson_15 : decode cX10_ofPerson 15 = .ok (.iload_n 2, 1) := by decide +kernel
theorem dX10_ofPerson_16 : decode cX10_ofPerson 16 = .ok (.tableswitch 73 0 4 #[36, 41, 46, 51, 56], 36) := by decide +kernel
theorem dX10_ofPerson_52 : decode cX10_ofPerson 52 = .ok (.aload_n 3, 1) := by decide +kernel
theorem dX10_ofPerson_53 : decode cX10_ofPerson 53 = .ok (.invokevirtual 102, 3) := by decide +kernel
theorem dX10_ofPerson_56 : decode cX10_ofPerson 56 = .ok (.ireturn, 1) := by decide +kernel
theorem dX10_ofPerson_57 : decode cX10_ofPerson 57 = .ok (.aload_n 3, 1) := by decide +kernel
theorem dX10_ofPerson_58 : decode cX10_ofPerson 58 = .ok (.getfield 107, 3) := by decide +kernel
theorem dX10_ofPerson_61 : decode cX10_ofPerson 61 = .ok (.ireturn, 1) := by decide +kernel
theorem dX10_ofPerson_62 : decode cX10_ofPerson 62 = .ok (.aload_n 3, 1) := by decide +kernel
theorem dX10_ofPerson_63 : decode cX10_ofPerson 63 = .ok (.getfield 110, 3) := by decide +kernel
theorem dX10_ofPerson_66 : decode cX10_ofPerson 66 = .ok (.ireturn, 1) := by decide +kernel
theorem dX10_ofPerson_67 : decode cX10_ofPerson 67 = .ok (.aload_n 3, 1) := by decide +kernel
theorem dX10_ofPerson_68 : decode cX10_ofPerson 68 = .ok (.invokevirtual 113, 3) := by decide +kernel
theorem dX10_ofPerson_71 : decode cX10_ofPerson 71 = .ok (.ireturn, 1) := by decide +kernel
theorem dX10_ofPerson_72 : decode cX10_ofPerson 72 = .ok (.aload_n 0, 1) := by decide +kernel
theorem dX10_ofPerson_73 : decode cX10_ofPerson 73 = .ok (.getfield 28, 3) := by decide +kernel
theorem dX10_ofPerson_76 : decode cX10_ofPerson 76 = .ok (.iload_n 1, 1) := by decide +kernel
theorem dX10_ofPerson_77 : decode cX10_ofPerson 77 = .ok (.invokevirtual 116, 3) := by decide +kernel
theorem dX10_ofPerson_80 : decode cX10_ofPerson 80 = .ok (.ifCond .eq 7, 3) := by decide +kernel
theorem dX10_ofPerson_83 : decode cX10_ofPerson 83 = .ok (.iconst 1, 1) := by decide +kernel
theorem dX10_ofPerson_84 : decode cX10_ofPerson 84 = .ok (.goto 4, 3) := by decide +kernel
theorem dX10_ofPerson_87 : decode cX10_ofPerson 87 = .ok (.iconst 0, 1) := by decide +kernel
theorem dX10_ofPerson_88 : decode cX10_ofPerson 88 = .ok (.ireturn, 1) := by decide +kernel
theorem dX10_ofPerson_89 : decode cX10_ofPerson 89 = .ok (.bipush (-2), 2) := by decide +kernel
theorem dX10_ofPerson_91 : decode cX10_ofPerson 91 = .ok (.ireturn, 1) := by decide +kernel
theorem dX10_word_0 : decode cX10_word 0 = .ok (.aload_n 0, 1) := by decide +kernel
theorem dX10_word_1 : decode cX10_word 1 = .ok (.getfield 21, 3) := by decide +kernel
theorem dX10_word_4 : decode cX10_word 4 = .ok (.iload_n 1, 1) := by decide +kernel
theorem dX10_word_5 : decode cX10_word 5 = .ok (.invokevirtual 119, 3) := by decide +kernel
theorem dX10_word_8 : decode cX10_word 8 = .ok (.ifCond .ne 5, 3) := by decide +kernel
theorem dX10_word_11 : decode cX10_word 11 = .ok (.iconst (-1), 1) := by decide +kernel
theorem dX10_word_12 : decode cX10_word 12 = .ok (.ireturn, 1) := by decide +kernel
theorem dX10_word_13 : decode cX10_word 13 = .ok (.iload_n 2, 1) := by decide +kernel
theorem dX10_word_14 : decode cX10_word 14 = .ok (.invokestatic 122, 3) := by decide +kernel
theorem dX10_word_17 : decode cX10_word 17 = .ok (.ifCond .ne 6, 3) := by decide +kernel
theorem dX10_word_20 : decode cX10_word 20 = .ok (.bipush (-2), 2) := by decide +kernel
theorem dX10_word_22 : decode cX10_word 22 = .ok (.ireturn, 1) := by decide +kernel
theorem dX10_word_23 : decode cX10_word 23 = .ok (.aload_n 0, 1) := by decide +kernel
theorem dX10_word_24 : decode cX10_word 24 = .ok (.getfield 28, 3) := by decide +kernel
theorem dX10_word_27 : decode cX10_word 27 = .ok (.invokevirtual 125, 3) := by decide +kernel
theorem dX10_word_30 : decode cX10_word 30 = .ok (.bipush 6, 2) := by decide +kernel
theorem dX10_word_32 : decode cX10_word 32 = .ok (.if_icmp .lt 6, 3) := by decide +kernel
theorem dX10_word_35 : decode cX10_word 35 = .ok (.bipush (-4), 2) := by decide +kernel
theorem dX10_word_37 : decode cX10_word 37 = .ok (.ireturn, 1) := by decide +kernel
theorem dX10_word_38 : decode cX10_word 38 = .ok (.aload_n 0, 1) := by decide +kernel
theorem dX10_word_39 : decode cX10_word 39 = .ok (.getfield 28, 3) := by decide +kernel
theorem dX10_word_42 : decode cX10_word 42 = .ok (.iload_n 1, 1) := by decide +kernel
theorem dX10_word_43 : decode cX10_word 43 = .ok (.iload_n 2, 1) := by decide +kernel
theorem dX10_word_44 : decode cX10_word 44 = .ok (.invokevirtual 128, 3) := by decide +kernel
theorem dX10_word_47 : decode cX10_word 47 = .ok (.aload_n 0, 1) := by decide +kernel
theorem dX10_word_48 : decode cX10_word 48 = .ok (.getfield 28, 3) := by decide +kernel
theorem dX10_word_51 : decode cX10_word 51 = .ok (.invokevirtual 125, 3) := by decide +kernel
theorem dX10_word_54 : decode cX10_word 54 = .ok (.iconst 1, 1) := by decide +kernel
theorem dX10_word_55 : decode cX10_word 55 = .ok (.isub, 1) := by decide +kernel
theorem dX10_word_56 : decode cX10_word 56 = .ok (.ireturn, 1) := by decide +kernel
theorem dX10_unsay_0 : decode cX10_unsay 0 = .ok (.iload_n 1, 1) := by decide +kernel
theorem dX10_unsay_1 : decode cX10_unsay 1 = .ok (.ifCond .lt 14, 3) := by decide +kernel
theorem dX10_unsay_4 : decode cX10_unsay 4 = .ok (.iload_n 1, 1) := by decide +kernel
theorem dX10_unsay_5 : decode cX10_unsay 5 = .ok (.aload_n 0, 1) := by decide +kernel
theorem dX10_unsay_6 : decode cX10_unsay 6 = .ok (.getfield 28, 3) := by decide +kernel
theorem dX10_unsay_9 : decode cX10_unsay 9 = .ok (.invokevirtual 125, 3) := by decide +kernel
theorem dX10_unsay_12 : decode cX10_unsay 12 = .ok (.if_icmp .le 6, 3) := by decide +kernel
theorem dX10_unsay_15 : decode cX10_unsay 15 = .ok (.bipush (-2), 2) := by decide +kernel
theorem dX10_unsay_17 : decode cX10_unsay 17 = .ok (.ireturn, 1) := by decide +kernel
theorem dX10_unsay_18 : decode cX10_unsay 18 = .ok (.aload_n 0, 1) := by decide +kernel
theorem dX10_unsay_19 : decode cX10_unsay 19 = .ok (.getfield 28, 3) := by decide +kernel
theorem dX10_unsay_22 : decode cX10_unsay 22 = .ok (.iload_n 1, 1) := by decide +kernel
theorem dX10_unsay_23 : decode cX10_unsay 23 = .ok (.invokevirtual 132, 3) := by decide +kernel
theorem dX10_unsay_26 : decode cX10_unsay 26 = .ok (.aload_n 0, 1) := by decide +kernel
theorem dX10_unsay_27 : decode cX10_unsay 27 = .ok (.getfield 28, 3) := by decide +kernel
theorem dX10_unsay_30 : decode cX10_unsay 30 = .ok (.invokevirtual 125, 3) := by decide +kernel
theorem dX10_unsay_33 : decode cX10_unsay 33 = .ok (.ireturn, 1) := by decide +kernel
theorem dX10_bribe_0 : decode cX10_bribe 0 = .ok (.aload_n 0, 1) := by decide +kernel
theorem dX10_bribe_1 : decode cX10_bribe 1 = .ok (.getfield 21, 3) := by decide +kernel
theorem dX10_bribe_4 : decode cX10_bribe 4 = .ok (.iload_n 1, 1) := by decide +kernel
theorem dX10_bribe_5 : decode cX10_bribe 5 = .ok (.invokevirtual 119, 3) := by decide +kernel
theorem dX10_bribe_8 : decode cX10_bribe 8 = .ok (.ifCond .ne 5, 3) := by decide +kernel
theorem dX10_bribe_11 : decode cX10_bribe 11 = .ok (.iconst (-1), 1) := by decide +kernel
theorem dX10_bribe_12 : decode cX10_bribe 12 = .ok (.ireturn, 1) := by decide +kernel
theorem dX10_bribe_13 : decode cX10_bribe 13 = .ok (.aload_n 0, 1) := by decide +kernel
theorem dX10_bribe_14 : decode cX10_bribe 14 = .ok (.getfield 28, 3) := by decide +kernel
theorem dX10_bribe_17 : decode cX10_bribe 17 = .ok (.iload_n 1, 1) := by decide +kernel
theorem dX10_bribe_18 : decode cX10_bribe 18 = .ok (.invokevirtual 116, 3) := by decide +kernel
theorem dX10_bribe_21 : decode cX10_bribe 21 = .ok (.iload_n 2, 1) := by decide +kernel
theorem dX10_bribe_22 : decode cX10_bribe 22 = .ok (.if_icmp .ne 5, 3) := by decide +kernel
theorem dX10_bribe_25 : decode cX10_bribe 25 = .ok (.iconst 0, 1) := by decide +kernel
theorem dX10_bribe_26 : decode cX10_bribe 26 = .ok (.ireturn, 1) := by decide +kernel
theorem dX10_bribe_27 : decode cX10_bribe 27 = .ok (.aload_n 0, 1) := by decide +kernel
theorem dX10_bribe_28 : decode cX10_bribe 28 = .ok (.getfield 28, 3) := by decide +kernel
theorem dX10_bribe_31 : decode cX10_bribe 31 = .ok (.aload_n 0, 1) := by decide +kernel
theorem dX10_bribe_32 : decode cX10_bribe 32 = .ok (.getfield 28, 3) := by decide +kernel
theorem dX10_bribe_35 : decode cX10_bribe 35 = .ok (.invokevirtual 136, 3) := by decide +kernel
theorem dX10_bribe_38 : decode cX10_bribe 38 = .ok (.iconst 1, 1) := by decide +kernel
theorem dX10_bribe_39 : decode cX10_bribe 39 = .ok (.iload_n 1, 1) := by decide +kernel
theorem dX10_bribe_40 : decode cX10_bribe 40 = .ok (.ishl, 1) := by decide +kernel
theorem dX10_bribe_41 : decode cX10_bribe 41 = .ok (.ixor, 1) := by decide +kernel
theorem dX10_bribe_42 : decode cX10_bribe 42 = .ok (.invokevirtual 139, 3) := by decide +kernel
theorem dX10_bribe_45 : decode cX10_bribe 45 = .ok (.iconst 1, 1) := by decide +kernel
theorem dX10_bribe_46 : decode cX10_bribe 46 = .ok (.ireturn, 1) := by decide +kernel
theorem dX10_whisper_0 : decode cX10_whisper 0 = .ok (.aload_n 0, 1) := by decide +kernel
theorem dX10_whisper_1 : decode cX10_whisper 1 = .ok (.getfield 21, 3) := by decide +kernel
theorem dX10_whisper_4 : decode cX10_whisper 4 = .ok (.iload_n 1, 1) := by decide +kernel
theorem dX10_whisper_5 : decode cX10_whisper 5 = .ok (.invokevirtual 119, 3) := by decide +kernel
theorem dX10_whisper_8 : decode cX10_whisper 8 = .ok (.ifCond .eq 19, 3) := by decide +kernel
theorem dX10_whisper_11 : decode cX10_whisper 11 = .ok (.aload_n 0, 1) := by decide +kernel
theorem dX10_whisper_12 : decode cX10_whisper 12 = .ok (.getfield 21, 3) := by decide +kernel
theorem dX10_whisper_15 : decode cX10_whisper 15 = .ok (.iload_n 2, 1) := by decide +kernel
theorem dX10_whisper_16 : decode cX10_whisper 16 = .ok (.invokevirtual 119, 3) := by decide +kernel
theorem dX10_whisper_19 : decode cX10_whisper 19 = .ok (.ifCond .eq 8, 3) := by decide +kernel
theorem dX10_whisper_22 : decode cX10_whisper 22 = .ok (.iload_n 1, 1) := by decide +kernel
theorem dX10_whisper_23 : decode cX10_whisper 23 = .ok (.iload_n 2, 1) := by decide +kernel
theorem dX10_whisper_24 : decode cX10_whisper 24 = .ok (.if_icmp .ne 5, 3) := by decide +kernel
theorem dX10_whisper_27 : decode cX10_whisper 27 = .ok (.iconst (-1), 1) := by decide +kernel
theorem dX10_whisper_28 : decode cX10_whisper 28 = .ok (.ireturn, 1) := by decide +kernel
theorem dX10_whisper_29 : decode cX10_whisper 29 = .ok (.aload_n 0, 1) := by decide +kernel
theorem dX10_whisper_30 : decode cX10_whisper 30 = .ok (.getfield 28, 3) := by decide +kernel
theorem dX10_whisper_33 : decode cX10_whisper 33 = .ok (.invokevirtual 142, 3) := by decide +kernel
theorem dX10_whisper_36 : decode cX10_whisper 36 = .ok (.bipush 6, 2) := by decide +kernel
theorem dX10_whisper_38 : decode cX10_whisper 38 = .ok (.if_icmp .lt 6, 3) := by decide +kernel
theorem dX10_whisper_41 : decode cX10_whisper 41 = .ok (.bipush (-4), 2) := by decide +kernel
theorem dX10_whisper_43 : decode cX10_whisper 43 = .ok (.ireturn, 1) := by decide +kernel
theorem dX10_whisper_44 : decode cX10_whisper 44 = .ok (.aload_n 0, 1) := by decide +kernel
theorem dX10_whisper_45 : decode cX10_whisper 45 = .ok (.getfield 28, 3) := by decide +kernel
theorem dX10_whisper_48 : decode cX10_whisper 48 = .ok (.iload_n 1, 1) := by decide +kernel
theorem dX10_whisper_49 : decode cX10_whisper 49 = .ok (.iload_n 2, 1) := by decide +kernel
theorem dX10_whisper_50 : decode cX10_whisper 50 = .ok (.invokevirtual 145, 3) := by decide +kernel
theorem dX10_whisper_53 : decode cX10_whisper 53 = .ok (.aload_n 0, 1) := by decide +kernel
theorem dX10_whisper_54 : decode cX10_whisper 54 = .ok (.getfield 28, 3) := by decide +kernel
theorem dX10_whisper_57 : decode cX10_whisper 57 = .ok (.invokevirtual 142, 3) := by decide +kernel
theorem dX10_whisper_60 : decode cX10_whisper 60 = .ok (.iconst 1, 1) := by decide +kernel
theorem dX10_whisper_61 : decode cX10_whisper 61 = .ok (.isub, 1) := by decide +kernel
theorem dX10_whisper_62 : decode cX10_whisper 62 = .ok (.ireturn, 1) := by decide +kernel
theorem dX10_forget_0 : decode cX10_forget 0 = .ok (.iload_n 1, 1) := by decide +kernel
theorem dX10_forget_1 : decode cX10_forget 1 = .ok (.ifCond .lt 14, 3) := by decide +kernel
theorem dX10_forget_4 : decode cX10_forget 4 = .ok (.iload_n 1, 1) := by decide +kernel
theorem dX10_forget_5 : decode cX10_forget 5 = .ok (.aload_n 0, 1) := by decide +kernel
theorem dX10_forget_6 : decode cX10_forget 6 = .ok (.getfield 28, 3) := by decide +kernel
theorem dX10_forget_9 : decode cX10_forget 9 = .ok (.invokevirtual 142, 3) := by decide +kernel
theorem dX10_forget_12 : decode cX10_forget 12 = .ok (.if_icmp .le 6, 3) := by decide +kernel
theorem dX10_forget_15 : decode cX10_forget 15 = .ok (.bipush (-2), 2) := by decide +kernel
theorem dX10_forget_17 : decode cX10_forget 17 = .ok (.ireturn, 1) := by decide +kernel
theorem dX10_forget_18 : decode cX10_forget 18 = .ok (.aload_n 0, 1) := by decide +kernel
theorem dX10_forget_19 : decode cX10_forget 19 = .ok (.getfield 28, 3) := by decide +kernel
theorem dX10_forget_22 : decode cX10_forget 22 = .ok (.iload_n 1, 1) := by decide +kernel
theorem dX10_forget_23 : decode cX10_forget 23 = .ok (.invokevirtual 148, 3) := by decide +kernel
theorem dX10_forget_26 : decode cX10_forget 26 = .ok (.aload_n 0, 1) := by decide +kernel
theorem dX10_forget_27 : decode cX10_forget 27 = .ok (.getfield 28, 3) := by decide +kernel
theorem dX10_forget_30 : decode cX10_forget 30 = .ok (.invokevirtual 142, 3) := by decide +kernel
theorem dX10_forget_33 : decode cX10_forget 33 = .ok (.ireturn, 1) := by decide +kernel
theorem dX10_says_0 : decode cX10_says 0 = .ok (.aload_n 0, 1) := by decide +kernel
theorem dX10_says_1 : decode cX10_says 1 = .ok (.getfield 21, 3) := by decide +kernel
theorem dX10_says_4 : decode cX10_says 4 = .ok (.iload_n 1, 1) := by decide +kernel
theorem dX10_says_5 : decode cX10_says 5 = .ok (.invokevirtual 119, 3) := by decide +kernel
theorem dX10_says_8 : decode cX10_says 8 = .ok (.ifCond .ne 5, 3) := by decide +kernel
theorem dX10_says_11 : decode cX10_says 11 = .ok (.iconst (-1), 1) := by decide +kernel
theorem dX10_says_12 : decode cX10_says 12 = .ok (.ireturn, 1) := by decide +kernel
theorem dX10_says_13 : decode cX10_says 13 = .ok (.aload_n 0, 1) := by decide +kernel
theorem dX10_says_14 : decode cX10_says 14 = .ok (.getfield 35, 3) := by decide +kernel
theorem dX10_says_17 : decode cX10_says 17 = .ok (.aload_n 0, 1) := by decide +kernel
theorem dX10_says_18 : decode cX10_says 18 = .ok (.getfield 21, 3) := by decide +kernel
theorem dX10_says_21 : decode cX10_says 21 = .ok (.aload_n 0, 1) := by decide +kernel
theorem dX10_says_22 : decode cX10_says 22 = .ok (.getfield 28, 3) := by decide +kernel
theorem dX10_says_25 : decode cX10_says 25 = .ok (.invokevirtual 151, 3) := by decide +kernel
theorem dX10_says_28 : decode cX10_says 28 = .ok (.aload_n 0, 1) := by decide +kernel
theorem dX10_says_29 : decode cX10_says 29 = .ok (.getfield 35, 3) := by decide +kernel
theorem dX10_says_32 : decode cX10_says 32 = .ok (.iload_n 1, 1) := by decide +kernel
theorem dX10_says_33 : decode cX10_says 33 = .ok (.invokevirtual 155, 3) := by decide +kernel
theorem dX10_says_36 : decode cX10_says 36 = .ok (.ireturn, 1) := by decide +kernel
theorem dX10_crowd_0 : decode cX10_crowd 0 = .ok (.iload_n 1, 1) := by decide +kernel
theorem dX10_crowd_1 : decode cX10_crowd 1 = .ok (.invokestatic 122, 3) := by decide +kernel
theorem dX10_crowd_4 : decode cX10_crowd 4 = .ok (.ifCond .ne 6, 3) := by decide +kernel
theorem dX10_crowd_7 : decode cX10_crowd 7 = .ok (.bipush (-2), 2) := by decide +kernel
theorem dX10_crowd_9 : decode cX10_crowd 9 = .ok (.ireturn, 1) := by decide +kernel
theorem dX10_crowd_10 : decode cX10_crowd 10 = .ok (.aload_n 0, 1) := by decide +kernel
theorem dX10_crowd_11 : decode cX10_crowd 11 = .ok (.getfield 21, 3) := by decide +kernel
theorem dX10_crowd_14 : decode cX10_crowd 14 = .ok (.invokevirtual 158, 3) := by decide +kernel
theorem dX10_crowd_17 : decode cX10_crowd 17 = .ok (.ifCond .eq 6, 3) := by decide +kernel
theorem dX10_crowd_20 : decode cX10_crowd 20 = .ok (.bipush (-3), 2) := by decide +kernel
theorem dX10_crowd_22 : decode cX10_crowd 22 = .ok (.ireturn, 1) := by decide +kernel
theorem dX10_crowd_23 : decode cX10_crowd 23 = .ok (.aload_n 0, 1) := by decide +kernel
theorem dX10_crowd_24 : decode cX10_crowd 24 = .ok (.getfield 35, 3) := by decide +kernel
theorem dX10_crowd_27 : decode cX10_crowd 27 = .ok (.aload_n 0, 1) := by decide +kernel
theorem dX10_crowd_28 : decode cX10_crowd 28 = .ok (.getfield 21, 3) := by decide +kernel
theorem dX10_crowd_31 : decode cX10_crowd 31 = .ok (.aload_n 0, 1) := by decide +kernel
theorem dX10_crowd_32 : decode cX10_crowd 32 = .ok (.getfield 28, 3) := by decide +kernel
theorem dX10_crowd_35 : decode cX10_crowd 35 = .ok (.invokevirtual 151, 3) := by decide +kernel
theorem dX10_crowd_38 : decode cX10_crowd 38 = .ok (.aload_n 0, 1) := by decide +kernel
theorem dX10_crowd_39 : decode cX10_crowd 39 = .ok (.getfield 35, 3) := by decide +kernel
theorem dX10_crowd_42 : decode cX10_crowd 42 = .ok (.iload_n 1, 1) := by decide +kernel
theorem dX10_crowd_43 : decode cX10_crowd 43 = .ok (.invokevirtual 162, 3) := by decide +kernel
theorem dX10_crowd_46 : decode cX10_crowd 46 = .ok (.ireturn, 1) := by decide +kernel
theorem dX10_heard_0 : decode cX10_heard 0 = .ok (.aload_n 0, 1) := by decide +kernel
theorem dX10_heard_1 : decode cX10_heard 1 = .ok (.getfield 21, 3) := by decide +kernel
theorem dX10_heard_4 : decode cX10_heard 4 = .ok (.iload_n 1, 1) := by decide +kernel
theorem dX10_heard_5 : decode cX10_heard 5 = .ok (.invokevirtual 119, 3) := by decide +kernel
theorem dX10_heard_8 : decode cX10_heard 8 = .ok (.ifCond .ne 5, 3) := by decide +kernel
theorem dX10_heard_11 : decode cX10_heard 11 = .ok (.iconst (-1), 1) := by decide +kernel
theorem dX10_heard_12 : decode cX10_heard 12 = .ok (.ireturn, 1) := by decide +kernel
theorem dX10_heard_13 : decode cX10_heard 13 = .ok (.iload_n 2, 1) := by decide +kernel
theorem dX10_heard_14 : decode cX10_heard 14 = .ok (.invokestatic 122, 3) := by decide +kernel
theorem dX10_heard_17 : decode cX10_heard 17 = .ok (.ifCond .eq 12, 3) := by decide +kernel
theorem dX10_heard_20 : decode cX10_heard 20 = .ok (.iload_n 3, 1) := by decide +kernel
theorem dX10_heard_21 : decode cX10_heard 21 = .ok (.ifCond .lt 8, 3) := by decide +kernel
theorem dX10_heard_24 : decode cX10_heard 24 = .ok (.iload_n 3, 1) := by decide +kernel
theorem dX10_heard_25 : decode cX10_heard 25 = .ok (.iconst 1, 1) := by decide +kernel
theorem dX10_heard_26 : decode cX10_heard 26 = .ok (.if_icmp .le 6, 3) := by decide +kernel
theorem dX10_heard_29 : decode cX10_heard 29 = .ok (.bipush (-2), 2) := by decide +kernel
theorem dX10_heard_31 : decode cX10_heard 31 = .ok (.ireturn, 1) := by decide +kernel
theorem dX10_heard_32 : decode cX10_heard 32 = .ok (.aload_n 0, 1) := by decide +kernel
theorem dX10_heard_33 : decode cX10_heard 33 = .ok (.getfield 35, 3) := by decide +kernel
theorem dX10_heard_36 : decode cX10_heard 36 = .ok (.aload_n 0, 1) := by decide +kernel
theorem dX10_heard_37 : decode cX10_heard 37 = .ok (.getfield 21, 3) := by decide +kernel
theorem dX10_heard_40 : decode cX10_heard 40 = .ok (.aload_n 0, 1) := by decide +kernel
theorem dX10_heard_41 : decode cX10_heard 41 = .ok (.getfield 28, 3) := by decide +kernel
theorem dX10_heard_44 : decode cX10_heard 44 = .ok (.invokevirtual 151, 3) := by decide +kernel
theorem dX10_heard_47 : decode cX10_heard 47 = .ok (.aload_n 0, 1) := by decide +kernel
theorem dX10_heard_48 : decode cX10_heard 48 = .ok (.getfield 35, 3) := by decide +kernel
theorem dX10_heard_51 : decode cX10_heard 51 = .ok (.iload_n 2, 1) := by decide +kernel
theorem dX10_heard_52 : decode cX10_heard 52 = .ok (.iconst 1, 1) := by decide +kernel
theorem dX10_heard_53 : decode cX10_heard 53 = .ok (.isub, 1) := by decide +kernel
theorem dX10_heard_54 : decode cX10_heard 54 = .ok (.invokevirtual 162, 3) := by decide +kernel
theorem dX10_heard_57 : decode cX10_heard 57 = .ok (.aload_n 0, 1) := by decide +kernel
theorem dX10_heard_58 : decode cX10_heard 58 = .ok (.getfield 21, 3) := by decide +kernel
theorem dX10_heard_61 : decode cX10_heard 61 = .ok (.iload_n 1, 1) := by decide +kernel
theorem dX10_heard_62 : decode cX10_heard 62 = .ok (.invokevirtual 165, 3) := by decide +kernel
theorem dX10_heard_65 : decode cX10_heard 65 = .ok (.iand, 1) := by decide +kernel
theorem dX10_heard_66 : decode cX10_heard 66 = .ok (.istore 4, 2) := by decide +kernel
theorem dX10_heard_68 : decode cX10_heard 68 = .ok (.iload_n 3, 1) := by decide +kernel
theorem dX10_heard_69 : decode cX10_heard 69 = .ok (.ifCond .ne 6, 3) := by decide +kernel
theorem dX10_heard_72 : decode cX10_heard 72 = .ok (.iload 4, 2) := by decide +kernel
theorem dX10_heard_74 : decode cX10_heard 74 = .ok (.ireturn, 1) := by decide +kernel
theorem dX10_heard_75 : decode cX10_heard 75 = .ok (.iload 4, 2) := by decide +kernel
theorem dX10_heard_77 : decode cX10_heard 77 = .ok (.invokestatic 168, 3) := by decide +kernel
theorem dX10_heard_80 : decode cX10_heard 80 = .ok (.aload_n 0, 1) := by decide +kernel
theorem dX10_heard_81 : decode cX10_heard 81 = .ok (.getfield 28, 3) := by decide +kernel
theorem dX10_heard_84 : decode cX10_heard 84 = .ok (.iload_n 1, 1) := by decide +kernel
theorem dX10_heard_85 : decode cX10_heard 85 = .ok (.aload_n 0, 1) := by decide +kernel
theorem dX10_heard_86 : decode cX10_heard 86 = .ok (.getfield 21, 3) := by decide +kernel
theorem dX10_heard_89 : decode cX10_heard 89 = .ok (.iload_n 1, 1) := by decide +kernel
theorem dX10_heard_90 : decode cX10_heard 90 = .ok (.invokevirtual 165, 3) := by decide +kernel
theorem dX10_heard_93 : decode cX10_heard 93 = .ok (.iload_n 2, 1) := by decide +kernel
theorem dX10_heard_94 : decode cX10_heard 94 = .ok (.invokevirtual 173, 3) := by decide +kernel
theorem dX10_heard_97 : decode cX10_heard 97 = .ok (.iadd, 1) := by decide +kernel
theorem dX10_heard_98 : decode cX10_heard 98 = .ok (.ireturn, 1) := by decide +kernel
theorem dX10_silence_0 : decode cX10_silence 0 = .ok (.aload_n 0, 1) := by decide +kernel
theorem dX10_silence_1 : decode cX10_silence 1 = .ok (.getfield 21, 3) := by decide +kernel
theorem dX10_silence_4 : decode cX10_silence 4 = .ok (.invokevirtual 158, 3) := by decide +kernel
theorem dX10_silence_7 : decode cX10_silence 7 = .ok (.ifCond .eq 6, 3) := by decide +kernel
theorem dX10_silence_10 : decode cX10_silence 10 = .ok (.bipush (-3), 2) := by decide +kernel
theorem dX10_silence_12 : decode cX10_silence 12 = .ok (.ireturn, 1) := by decide +kernel
theorem dX10_silence_13 : decode cX10_silence 13 = .ok (.aload_n 0, 1) := by decide +kernel
theorem dX10_silence_14 : decode cX10_silence 14 = .ok (.getfield 35, 3) := by decide +kernel
theorem dX10_silence_17 : decode cX10_silence 17 = .ok (.aload_n 0, 1) := by decide +kernel
theorem dX10_silence_18 : decode cX10_silence 18 = .ok (.getfield 21, 3) := by decide +kernel
theorem dX10_silence_21 : decode cX10_silence 21 = .ok (.aload_n 0, 1) := by decide +kernel
theorem dX10_silence_22 : decode cX10_silence 22 = .ok (.getfield 28, 3) := by decide +kernel
theorem dX10_silence_25 : decode cX10_silence 25 = .ok (.invokevirtual 151, 3) := by decide +kernel
theorem dX10_silence_28 : decode cX10_silence 28 = .ok (.aload_n 0, 1) := by decide +kernel
theorem dX10_silence_29 : decode cX10_silence 29 = .ok (.getfield 35, 3) := by decide +kernel
theorem dX10_silence_32 : decode cX10_silence 32 = .ok (.bipush 39, 2) := by decide +kernel
theorem dX10_silence_34 : decode cX10_silence 34 = .ok (.invokevirtual 162, 3) := by decide +kernel
theorem dX10_silence_37 : decode cX10_silence 37 = .ok (.ifCond .ne 7, 3) := by decide +kernel
theorem dX10_silence_40 : decode cX10_silence 40 = .ok (.iconst 1, 1) := by decide +kernel
theorem dX10_silence_41 : decode cX10_silence 41 = .ok (.goto 4, 3) := by decide +kernel
theorem dX10_silence_44 : decode cX10_silence 44 = .ok (.iconst 0, 1) := by decide +kernel
theorem dX10_silence_45 : decode cX10_silence 45 = .ok (.ireturn, 1) := by decide +kernel
theorem dX10_noticed_0 : decode cX10_noticed 0 = .ok (.aload_n 0, 1) := by decide +kernel
theorem dX10_noticed_1 : decode cX10_noticed 1 = .ok (.getfield 21, 3) := by decide +kernel
theorem dX10_noticed_4 : decode cX10_noticed 4 = .ok (.invokevirtual 158, 3) := by decide +kernel
theorem dX10_noticed_7 : decode cX10_noticed 7 = .ok (.ifCond .eq 6, 3) := by decide +kernel
theorem dX10_noticed_10 : decode cX10_noticed 10 = .ok (.bipush (-3), 2) := by decide +kernel
theorem dX10_noticed_12 : decode cX10_noticed 12 = .ok (.ireturn, 1) := by decide +kernel
theorem dX10_noticed_13 : decode cX10_noticed 13 = .ok (.aload_n 0, 1) := by decide +kernel
theorem dX10_noticed_14 : decode cX10_noticed 14 = .ok (.getfield 35, 3) := by decide +kernel
theorem dX10_noticed_17 : decode cX10_noticed 17 = .ok (.aload_n 0, 1) := by decide +kernel
theorem dX10_noticed_18 : decode cX10_noticed 18 = .ok (.getfield 21, 3) := by decide +kernel
theorem dX10_noticed_21 : decode cX10_noticed 21 = .ok (.aload_n 0, 1) := by decide +kernel
theorem dX10_noticed_22 : decode cX10_noticed 22 = .ok (.getfield 28, 3) := by decide +kernel
theorem dX10_noticed_25 : decode cX10_noticed 25 = .ok (.invokevirtual 151, 3) := by decide +kernel
theorem dX10_noticed_28 : decode cX10_noticed 28 = .ok (.aload_n 0, 1) := by decide +kernel
theorem dX10_noticed_29 : decode cX10_noticed 29 = .ok (.getfield 35, 3) := by decide +kernel
theorem dX10_noticed_32 : decode cX10_noticed 32 = .ok (.aload_n 0, 1) := by decide +kernel
theorem dX10_noticed_33 : decode cX10_noticed 33 = .ok (.getfield 21, 3) := by decide +kernel
theorem dX10_noticed_36 : decode cX10_noticed 36 = .ok (.invokevirtual 94, 3) := by decide +kernel
theorem dX10_noticed_39 : decode cX10_noticed 39 = .ok (.invokevirtual 176, 3) := by decide +kernel
theorem dX10_noticed_42 : decode cX10_noticed 42 = .ok (.ireturn, 1) := by decide +kernel
theorem dX10_fewest_0 : decode cX10_fewest 0 = .ok (.aload_n 0, 1) := by decide +kernel
theorem dX10_fewest_1 : decode cX10_fewest 1 = .ok (.getfield 21, 3) := by decide +kernel
theorem dX10_fewest_4 : decode cX10_fewest 4 = .ok (.invokevirtual 158, 3) := by decide +kernel
theorem dX10_fewest_7 : decode cX10_fewest 7 = .ok (.ifCond .eq 6, 3) := by decide +kernel
theorem dX10_fewest_10 : decode cX10_fewest 10 = .ok (.bipush (-3), 2) := by decide +kernel
theorem dX10_fewest_12 : decode cX10_fewest 12 = .ok (.ireturn, 1) := by decide +kernel
theorem dX10_fewest_13 : decode cX10_fewest 13 = .ok (.aload_n 0, 1) := by decide +kernel
theorem dX10_fewest_14 : decode cX10_fewest 14 = .ok (.getfield 51, 3) := by decide +kernel
theorem dX10_fewest_17 : decode cX10_fewest 17 = .ok (.invokevirtual 179, 3) := by decide +kernel
theorem dX10_fewest_20 : decode cX10_fewest 20 = .ok (.ireturn, 1) := by decide +kernel
theorem dX10_bribes_0 : decode cX10_bribes 0 = .ok (.aload_n 0, 1) := by decide +kernel
theorem dX10_bribes_1 : decode cX10_bribes 1 = .ok (.getfield 21, 3) := by decide +kernel
theorem dX10_bribes_4 : decode cX10_bribes 4 = .ok (.iload_n 1, 1) := by decide +kernel
theorem dX10_bribes_5 : decode cX10_bribes 5 = .ok (.invokevirtual 119, 3) := by decide +kernel
theorem dX10_bribes_8 : decode cX10_bribes 8 = .ok (.ifCond .ne 5, 3) := by decide +kernel
theorem dX10_bribes_11 : decode cX10_bribes 11 = .ok (.iconst (-1), 1) := by decide +kernel
theorem dX10_bribes_12 : decode cX10_bribes 12 = .ok (.ireturn, 1) := by decide +kernel
theorem dX10_bribes_13 : decode cX10_bribes 13 = .ok (.aload_n 0, 1) := by decide +kernel
theorem dX10_bribes_14 : decode cX10_bribes 14 = .ok (.getfield 51, 3) := by decide +kernel
theorem dX10_bribes_17 : decode cX10_bribes 17 = .ok (.iload_n 1, 1) := by decide +kernel
theorem dX10_bribes_18 : decode cX10_bribes 18 = .ok (.invokevirtual 182, 3) := by decide +kernel
theorem dX10_bribes_21 : decode cX10_bribes 21 = .ok (.ireturn, 1) := by decide +kernel
theorem dX10_whispers_0 : decode cX10_whispers 0 = .ok (.iload_n 1, 1) := by decide +kernel
theorem dX10_whispers_1 : decode cX10_whispers 1 = .ok (.ifCond .lt 8, 3) := by decide +kernel
theorem dX10_whispers_4 : decode cX10_whispers 4 = .ok (.iload_n 1, 1) := by decide +kernel
theorem dX10_whispers_5 : decode cX10_whispers 5 = .ok (.iconst 1, 1) := by decide +kernel
theorem dX10_whispers_6 : decode cX10_whispers 6 = .ok (.if_icmp .le 6, 3) := by decide +kernel
theorem dX10_whispers_9 : decode cX10_whispers 9 = .ok (.bipush (-2), 2) := by decide +kernel
theorem dX10_whispers_11 : decode cX10_whispers 11 = .ok (.ireturn, 1) := by decide +kernel
theorem dX10_whispers_12 : decode cX10_whispers 12 = .ok (.aload_n 0, 1) := by decide +kernel
theorem dX10_whispers_13 : decode cX10_whispers 13 = .ok (.getfield 21, 3) := by decide +kernel
theorem dX10_whispers_16 : decode cX10_whispers 16 = .ok (.invokevirtual 158, 3) := by decide +kernel
theorem dX10_whispers_19 : decode cX10_whispers 19 = .ok (.ifCond .eq 6, 3) := by decide +kernel
theorem dX10_whispers_22 : decode cX10_whispers 22 = .ok (.bipush (-3), 2) := by decide +kernel
theorem dX10_whispers_24 : decode cX10_whispers 24 = .ok (.ireturn, 1) := by decide +kernel
theorem dX10_whispers_25 : decode cX10_whispers 25 = .ok (.aload_n 0, 1) := by decide +kernel
theorem dX10_whispers_26 : decode cX10_whispers 26 = .ok (.getfield 51, 3) := by decide +kernel
theorem dX10_whispers_29 : decode cX10_whispers 29 = .ok (.invokevirtual 185, 3) := by decide +kernel
theorem dX10_whispers_32 : decode cX10_whispers 32 = .ok (.istore_n 2, 1) := by decide +kernel
theorem dX10_whispers_33 : decode cX10_whispers 33 = .ok (.iload_n 1, 1) := by decide +kernel
theorem dX10_whispers_34 : decode cX10_whispers 34 = .ok (.ifCond .ne 7, 3) := by decide +kernel
theorem dX10_whispers_37 : decode cX10_whispers 37 = .ok (.iload_n 2, 1) := by decide +kernel
theorem dX10_whispers_38 : decode cX10_whispers 38 = .ok (.goto 11, 3) := by decide +kernel
theorem dX10_whispers_41 : decode cX10_whispers 41 = .ok (.aload_n 0, 1) := by decide +kernel
theorem dX10_whispers_42 : decode cX10_whispers 42 = .ok (.getfield 51, 3) := by decide +kernel
theorem dX10_whispers_45 : decode cX10_whispers 45 = .ok (.iload_n 2, 1) := by decide +kernel
theorem dX10_whispers_46 : decode cX10_whispers 46 = .ok (.invokevirtual 188, 3) := by decide +kernel
theorem dX10_whispers_49 : decode cX10_whispers 49 = .ok (.ireturn, 1) := by decide +kernel
theorem dX10_worth_0 : decode cX10_worth 0 = .ok (.iload_n 1, 1) := by decide +kernel
theorem dX10_worth_1 : decode cX10_worth 1 = .ok (.ifCond .lt 14, 3) := by decide +kernel
theorem dX10_worth_4 : decode cX10_worth 4 = .ok (.iload_n 1, 1) := by decide +kernel
theorem dX10_worth_5 : decode cX10_worth 5 = .ok (.aload_n 0, 1) := by decide +kernel
theorem dX10_worth_6 : decode cX10_worth 6 = .ok (.getfield 28, 3) := by decide +kernel
theorem dX10_worth_9 : decode cX10_worth 9 = .ok (.invokevirtual 125, 3) := by decide +kernel
theorem dX10_worth_12 : decode cX10_worth 12 = .ok (.if_icmp .lt 5, 3) := by decide +kernel
theorem dX10_worth_15 : decode cX10_worth 15 = .ok (.iconst (-1), 1) := by decide +kernel
theorem dX10_worth_16 : decode cX10_worth 16 = .ok (.ireturn, 1) := by decide +kernel
theorem dX10_worth_17 : decode cX10_worth 17 = .ok (.bipush 100, 2) := by decide +kernel
theorem dX10_worth_19 : decode cX10_worth 19 = .ok (.aload_n 0, 1) := by decide +kernel
theorem dX10_worth_20 : decode cX10_worth 20 = .ok (.getfield 51, 3) := by decide +kernel
theorem dX10_worth_23 : decode cX10_worth 23 = .ok (.iload_n 1, 1) := by decide +kernel
theorem dX10_worth_24 : decode cX10_worth 24 = .ok (.invokevirtual 191, 3) := by decide +kernel
theorem dX10_worth_27 : decode cX10_worth 27 = .ok (.iadd, 1) := by decide +kernel
theorem dX10_worth_28 : decode cX10_worth 28 = .ok (.ireturn, 1) := by decide +kernel
theorem dX10_asked_0 : decode cX10_asked 0 = .ok (.aload_n 0, 1) := by decide +kernel
theorem dX10_asked_1 : decode cX10_asked 1 = .ok (.iconst 0, 1) := by decide +kernel
theorem dX10_asked_2 : decode cX10_asked 2 = .ok (.putfield 62, 3) := by decide +kernel
theorem dX10_asked_5 : decode cX10_asked 5 = .ok (.aload_n 0, 1) := by decide +kernel
theorem dX10_asked_6 : decode cX10_asked 6 = .ok (.iload_n 1, 1) := by decide +kernel
theorem dX10_asked_7 : decode cX10_asked 7 = .ok (.invokevirtual 66, 3) := by decide +kernel
theorem dX10_asked_10 : decode cX10_asked 10 = .ok (.astore 5, 2) := by decide +kernel
theorem dX10_asked_12 : decode cX10_asked 12 = .ok (.aload 5, 2) := by decide +kernel
theorem dX10_asked_14 : decode cX10_asked 14 = .ok (.ifnonnull 5, 3) := by decide +kernel
theorem dX10_asked_17 : decode cX10_asked 17 = .ok (.iconst (-1), 1) := by decide +kernel
theorem dX10_asked_18 : decode cX10_asked 18 = .ok (.ireturn, 1) := by decide +kernel
theorem dX10_asked_19 : decode cX10_asked 19 = .ok (.iload_n 2, 1) := by decide +kernel
theorem dX10_asked_20 : decode cX10_asked 20 = .ok (.invokestatic 70, 3) := by decide +kernel
theorem dX10_asked_23 : decode cX10_asked 23 = .ok (.ifCond .ne 6, 3) := by decide +kernel
theorem dX10_asked_26 : decode cX10_asked 26 = .ok (.bipush (-2), 2) := by decide +kernel
theorem dX10_asked_28 : decode cX10_asked 28 = .ok (.ireturn, 1) := by decide +kernel
theorem dX10_asked_29 : decode cX10_asked 29 = .ok (.aload_n 0, 1) := by decide +kernel
theorem dX10_asked_30 : decode cX10_asked 30 = .ok (.getfield 21, 3) := by decide +kernel
theorem dX10_asked_33 : decode cX10_asked 33 = .ok (.invokevirtual 158, 3) := by decide +kernel
theorem dX10_asked_36 : decode cX10_asked 36 = .ok (.ifCond .eq 6, 3) := by decide +kernel
theorem dX10_asked_39 : decode cX10_asked 39 = .ok (.bipush (-3), 2) := by decide +kernel
theorem dX10_asked_41 : decode cX10_asked 41 = .ok (.ireturn, 1) := by decide +kernel
theorem dX10_asked_42 : decode cX10_asked 42 = .ok (.aload 5, 2) := by decide +kernel
theorem dX10_asked_44 : decode cX10_asked 44 = .ok (.iload_n 2, 1) := by decide +kernel
theorem dX10_asked_45 : decode cX10_asked 45 = .ok (.iload_n 3, 1) := by decide +kernel
theorem dX10_asked_46 : decode cX10_asked 46 = .ok (.iload 4, 2) := by decide +kernel
theorem dX10_asked_48 : decode cX10_asked 48 = .ok (.invokevirtual 74, 3) := by decide +kernel
theorem dX10_asked_51 : decode cX10_asked 51 = .ok (.istore 6, 2) := by decide +kernel
theorem dX10_asked_53 : decode cX10_asked 53 = .ok (.iload 6, 2) := by decide +kernel
theorem dX10_asked_55 : decode cX10_asked 55 = .ok (.ifCond .eq 10, 3) := by decide +kernel
theorem dX10_asked_58 : decode cX10_asked 58 = .ok (.aload_n 0, 1) := by decide +kernel
theorem dX10_asked_59 : decode cX10_asked 59 = .ok (.iload 6, 2) := by decide +kernel
theorem dX10_asked_61 : decode cX10_asked 61 = .ok (.invokevirtual 78, 3) := by decide +kernel
theorem dX10_asked_64 : decode cX10_asked 64 = .ok (.ireturn, 1) := by decide +kernel
theorem dX10_asked_65 : decode cX10_asked 65 = .ok (.iload 4, 2) := by decide +kernel
theorem dX10_asked_67 : decode cX10_asked 67 = .ok (.bipush 20, 2) := by decide +kernel
theorem dX10_asked_69 : decode cX10_asked 69 = .ok (.if_icmp .le 6, 3) := by decide +kernel
theorem dX10_asked_72 : decode cX10_asked 72 = .ok (.bipush (-2), 2) := by decide +kernel
theorem dX10_asked_74 : decode cX10_asked 74 = .ok (.ireturn, 1) := by decide +kernel
theorem dX10_asked_75 : decode cX10_asked 75 = .ok (.aload_n 0, 1) := by decide +kernel
theorem dX10_asked_76 : decode cX10_asked 76 = .ok (.aload 5, 2) := by decide +kernel
theorem dX10_asked_78 : decode cX10_asked 78 = .ok (.iload_n 3, 1) := by decide +kernel
theorem dX10_asked_79 : decode cX10_asked 79 = .ok (.iload 4, 2) := by decide +kernel
theorem dX10_asked_81 : decode cX10_asked 81 = .ok (.invokevirtual 194, 3) := by decide +kernel
theorem dX10_asked_84 : decode cX10_asked 84 = .ok (.ireturn, 1) := by decide +kernel
theorem dX10_sayingInTurn_0 : decode cX10_sayingInTurn 0 = .ok (.iconst 0, 1) := by decide +kernel
theorem dX10_sayingInTurn_1 : decode cX10_sayingInTurn 1 = .ok (.istore 4, 2) := by decide +kernel
theorem dX10_sayingInTurn_3 : decode cX10_sayingInTurn 3 = .ok (.iconst 0, 1) := by decide +kernel
theorem dX10_sayingInTurn_4 : decode cX10_sayingInTurn 4 = .ok (.istore 5, 2) := by decide +kernel
theorem dX10_sayingInTurn_6 : decode cX10_sayingInTurn 6 = .ok (.iconst 0, 1) := by decide +kernel
theorem dX10_sayingInTurn_7 : decode cX10_sayingInTurn 7 = .ok (.istore 6, 2) := by decide +kernel
theorem dX10_sayingInTurn_9 : decode cX10_sayingInTurn 9 = .ok (.iload 6, 2) := by decide +kernel
theorem dX10_sayingInTurn_11 : decode cX10_sayingInTurn 11 = .ok (.iload_n 3, 1) := by decide +kernel
theorem dX10_sayingInTurn_12 : decode cX10_sayingInTurn 12 = .ok (.if_icmp .ge 124, 3) := by decide +kernel
theorem dX10_sayingInTurn_15 : decode cX10_sayingInTurn 15 = .ok (.aload_n 1, 1) := by decide +kernel
theorem dX10_sayingInTurn_16 : decode cX10_sayingInTurn 16 = .ok (.iload_n 2, 1) := by decide +kernel
theorem dX10_sayingInTurn_17 : decode cX10_sayingInTurn 17 = .ok (.iload 6, 2) := by decide +kernel
theorem dX10_sayingInTurn_19 : decode cX10_sayingInTurn 19 = .ok (.iadd, 1) := by decide +kernel
theorem dX10_sayingInTurn_20 : decode cX10_sayingInTurn 20 = .ok (.invokevirtual 197, 3) := by decide +kernel
theorem dX10_sayingInTurn_23 : decode cX10_sayingInTurn 23 = .ok (.istore 7, 2) := by decide +kernel
theorem dX10_sayingInTurn_25 : decode cX10_sayingInTurn 25 = .ok (.aload_n 0, 1) := by decide +kernel
theorem dX10_sayingInTurn_26 : decode cX10_sayingInTurn 26 = .ok (.getfield 21, 3) := by decide +kernel
theorem dX10_sayingInTurn_29 : decode cX10_sayingInTurn 29 = .ok (.iload 7, 2) := by decide +kernel
theorem dX10_sayingInTurn_31 : decode cX10_sayingInTurn 31 = .ok (.invokevirtual 119, 3) := by decide +kernel
theorem dX10_sayingInTurn_34 : decode cX10_sayingInTurn 34 = .ok (.ifCond .eq 13, 3) := by decide +kernel
theorem dX10_sayingInTurn_37 : decode cX10_sayingInTurn 37 = .ok (.iload 4, 2) := by decide +kernel
theorem dX10_sayingInTurn_39 : decode cX10_sayingInTurn 39 = .ok (.iload 7, 2) := by decide +kernel
theorem dX10_sayingInTurn_41 : decode cX10_sayingInTurn 41 = .ok (.invokestatic 199, 3) := by decide +kernel
theorem dX10_sayingInTurn_44 : decode cX10_sayingInTurn 44 = .ok (.ifCond .eq 5, 3) := by decide +kernel
theorem dX10_sayingInTurn_47 : decode cX10_sayingInTurn 47 = .ok (.iconst (-1), 1) := by decide +kernel
theorem dX10_sayingInTurn_48 : decode cX10_sayingInTurn 48 = .ok (.ireturn, 1) := by decide +kernel
theorem dX10_sayingInTurn_49 : decode cX10_sayingInTurn 49 = .ok (.iload 4, 2) := by decide +kernel
theorem dX10_sayingInTurn_51 : decode cX10_sayingInTurn 51 = .ok (.iconst 1, 1) := by decide +kernel
theorem dX10_sayingInTurn_52 : decode cX10_sayingInTurn 52 = .ok (.iload 7, 2) := by decide +kernel
theorem dX10_sayingInTurn_54 : decode cX10_sayingInTurn 54 = .ok (.ishl, 1) := by decide +kernel
theorem dX10_sayingInTurn_55 : decode cX10_sayingInTurn 55 = .ok (.ior, 1) := by decide +kernel
theorem dX10_sayingInTurn_56 : decode cX10_sayingInTurn 56 = .ok (.istore 4, 2) := by decide +kernel
theorem dX10_sayingInTurn_58 : decode cX10_sayingInTurn 58 = .ok (.iload 5, 2) := by decide +kernel
theorem dX10_sayingInTurn_60 : decode cX10_sayingInTurn 60 = .ok (.aload_n 0, 1) := by decide +kernel
theorem dX10_sayingInTurn_61 : decode cX10_sayingInTurn 61 = .ok (.getfield 21, 3) := by decide +kernel
theorem dX10_sayingInTurn_64 : decode cX10_sayingInTurn 64 = .ok (.iload 7, 2) := by decide +kernel
theorem dX10_sayingInTurn_66 : decode cX10_sayingInTurn 66 = .ok (.invokevirtual 165, 3) := by decide +kernel
theorem dX10_sayingInTurn_69 : decode cX10_sayingInTurn 69 = .ok (.iand, 1) := by decide +kernel
theorem dX10_sayingInTurn_70 : decode cX10_sayingInTurn 70 = .ok (.invokestatic 168, 3) := by decide +kernel
theorem dX10_sayingInTurn_73 : decode cX10_sayingInTurn 73 = .ok (.aload_n 0, 1) := by decide +kernel
theorem dX10_sayingInTurn_74 : decode cX10_sayingInTurn 74 = .ok (.getfield 28, 3) := by decide +kernel
theorem dX10_sayingInTurn_77 : decode cX10_sayingInTurn 77 = .ok (.iload 7, 2) := by decide +kernel
theorem dX10_sayingInTurn_79 : decode cX10_sayingInTurn 79 = .ok (.aload_n 0, 1) := by decide +kernel
theorem dX10_sayingInTurn_80 : decode cX10_sayingInTurn 80 = .ok (.getfield 21, 3) := by decide +kernel
theorem dX10_sayingInTurn_83 : decode cX10_sayingInTurn 83 = .ok (.iload 7, 2) := by decide +kernel
theorem dX10_sayingInTurn_85 : decode cX10_sayingInTurn 85 = .ok (.invokevirtual 165, 3) := by decide +kernel
theorem dX10_sayingInTurn_88 : decode cX10_sayingInTurn 88 = .ok (.iconst 0, 1) := by decide +kernel
theorem dX10_sayingInTurn_89 : decode cX10_sayingInTurn 89 = .ok (.invokevirtual 173, 3) := by decide +kernel
theorem dX10_sayingInTurn_92 : decode cX10_sayingInTurn 92 = .ok (.iadd, 1) := by decide +kernel
theorem dX10_sayingInTurn_93 : decode cX10_sayingInTurn 93 = .ok (.istore 8, 2) := by decide +kernel
theorem dX10_sayingInTurn_95 : decode cX10_sayingInTurn 95 = .ok (.aload_n 0, 1) := by decide +kernel
theorem dX10_sayingInTurn_96 : decode cX10_sayingInTurn 96 = .ok (.getfield 28, 3) := by decide +kernel
theorem dX10_sayingInTurn_99 : decode cX10_sayingInTurn 99 = .ok (.iload 7, 2) := by decide +kernel
theorem dX10_sayingInTurn_101 : decode cX10_sayingInTurn 101 = .ok (.invokevirtual 116, 3) := by decide +kernel
theorem dX10_sayingInTurn_104 : decode cX10_sayingInTurn 104 = .ok (.ifCond .ne 26, 3) := by decide +kernel
theorem dX10_sayingInTurn_107 : decode cX10_sayingInTurn 107 = .ok (.iload 8, 2) := by decide +kernel
theorem dX10_sayingInTurn_109 : decode cX10_sayingInTurn 109 = .ok (.aload_n 0, 1) := by decide +kernel
theorem dX10_sayingInTurn_110 : decode cX10_sayingInTurn 110 = .ok (.getfield 21, 3) := by decide +kernel
theorem dX10_sayingInTurn_113 : decode cX10_sayingInTurn 113 = .ok (.iload 7, 2) := by decide +kernel
theorem dX10_sayingInTurn_115 : decode cX10_sayingInTurn 115 = .ok (.invokevirtual 203, 3) := by decide +kernel
theorem dX10_sayingInTurn_118 : decode cX10_sayingInTurn 118 = .ok (.if_icmp .lt 12, 3) := by decide +kernel
theorem dX10_sayingInTurn_121 : decode cX10_sayingInTurn 121 = .ok (.iload 5, 2) := by decide +kernel
theorem dX10_sayingInTurn_123 : decode cX10_sayingInTurn 123 = .ok (.iconst 1, 1) := by decide +kernel
theorem dX10_sayingInTurn_124 : decode cX10_sayingInTurn 124 = .ok (.iload 7, 2) := by decide +kernel
theorem dX10_sayingInTurn_126 : decode cX10_sayingInTurn 126 = .ok (.ishl, 1) := by decide +kernel
theorem dX10_sayingInTurn_127 : decode cX10_sayingInTurn 127 = .ok (.ior, 1) := by decide +kernel
theorem dX10_sayingInTurn_128 : decode cX10_sayingInTurn 128 = .ok (.istore 5, 2) := by decide +kernel
theorem dX10_sayingInTurn_130 : decode cX10_sayingInTurn 130 = .ok (.iinc 6 1, 3) := by decide +kernel
theorem dX10_sayingInTurn_133 : decode cX10_sayingInTurn 133 = .ok (.goto (-124), 3) := by decide +kernel
theorem dX10_sayingInTurn_136 : decode cX10_sayingInTurn 136 = .ok (.iload 5, 2) := by decide +kernel
theorem dX10_sayingInTurn_138 : decode cX10_sayingInTurn 138 = .ok (.ireturn, 1) := by decide +kernel
theorem dX10_reading_0 : decode cX10_reading 0 = .ok (.aload_n 0, 1) := by decide +kernel
theorem dX10_reading_1 : decode cX10_reading 1 = .ok (.getfield 21, 3) := by decide +kernel
theorem dX10_reading_4 : decode cX10_reading 4 = .ok (.iload_n 1, 1) := by decide +kernel
theorem dX10_reading_5 : decode cX10_reading 5 = .ok (.invokevirtual 119, 3) := by decide +kernel
theorem dX10_reading_8 : decode cX10_reading 8 = .ok (.ifCond .ne 5, 3) := by decide +kernel
theorem dX10_reading_11 : decode cX10_reading 11 = .ok (.iconst (-1), 1) := by decide +kernel
theorem dX10_reading_12 : decode cX10_reading 12 = .ok (.ireturn, 1) := by decide +kernel
theorem dX10_reading_13 : decode cX10_reading 13 = .ok (.iload_n 2, 1) := by decide +kernel
theorem dX10_reading_14 : decode cX10_reading 14 = .ok (.invokestatic 122, 3) := by decide +kernel
theorem dX10_reading_17 : decode cX10_reading 17 = .ok (.ifCond .ne 6, 3) := by decide +kernel
theorem dX10_reading_20 : decode cX10_reading 20 = .ok (.bipush (-2), 2) := by decide +kernel
theorem dX10_reading_22 : decode cX10_reading 22 = .ok (.ireturn, 1) := by decide +kernel
theorem dX10_reading_23 : decode cX10_reading 23 = .ok (.aload_n 0, 1) := by decide +kernel
theorem dX10_reading_24 : decode cX10_reading 24 = .ok (.getfield 42, 3) := by decide +kernel
theorem dX10_reading_27 : decode cX10_reading 27 = .ok (.invokevirtual 205, 3) := by decide +kernel
theorem dX10_reading_30 : decode cX10_reading 30 = .ok (.bipush 8, 2) := by decide +kernel
theorem dX10_reading_32 : decode cX10_reading 32 = .ok (.if_icmp .lt 6, 3) := by decide +kernel
theorem dX10_reading_35 : decode cX10_reading 35 = .ok (.bipush (-4), 2) := by decide +kernel
theorem dX10_reading_37 : decode cX10_reading 37 = .ok (.ireturn, 1) := by decide +kernel
theorem dX10_reading_38 : decode cX10_reading 38 = .ok (.aload_n 0, 1) := by decide +kernel
theorem dX10_reading_39 : decode cX10_reading 39 = .ok (.getfield 42, 3) := by decide +kernel
theorem dX10_reading_42 : decode cX10_reading 42 = .ok (.iload_n 1, 1) := by decide +kernel
theorem dX10_reading_43 : decode cX10_reading 43 = .ok (.iload_n 2, 1) := by decide +kernel
theorem dX10_reading_44 : decode cX10_reading 44 = .ok (.iload_n 3, 1) := by decide +kernel
theorem dX10_reading_45 : decode cX10_reading 45 = .ok (.invokevirtual 206, 3) := by decide +kernel
theorem dX10_reading_48 : decode cX10_reading 48 = .ok (.aload_n 0, 1) := by decide +kernel
theorem dX10_reading_49 : decode cX10_reading 49 = .ok (.getfield 42, 3) := by decide +kernel
theorem dX10_reading_52 : decode cX10_reading 52 = .ok (.invokevirtual 205, 3) := by decide +kernel
theorem dX10_reading_55 : decode cX10_reading 55 = .ok (.iconst 1, 1) := by decide +kernel
theorem dX10_reading_56 : decode cX10_reading 56 = .ok (.isub, 1) := by decide +kernel
theorem dX10_reading_57 : decode cX10_reading 57 = .ok (.ireturn, 1) := by decide +kernel
theorem dX10_back_0 : decode cX10_back 0 = .ok (.iload_n 1, 1) := by decide +kernel
theorem dX10_back_1 : decode cX10_back 1 = .ok (.ifCond .lt 14, 3) := by decide +kernel
theorem dX10_back_4 : decode cX10_back 4 = .ok (.iload_n 1, 1) := by decide +kernel
theorem dX10_back_5 : decode cX10_back 5 = .ok (.aload_n 0, 1) := by decide +kernel
theorem dX10_back_6 : decode cX10_back 6 = .ok (.getfield 42, 3) := by decide +kernel
theorem dX10_back_9 : decode cX10_back 9 = .ok (.invokevirtual 205, 3) := by decide +kernel
theorem dX10_back_12 : decode cX10_back 12 = .ok (.if_icmp .le 6, 3) := by decide +kernel
theorem dX10_back_15 : decode cX10_back 15 = .ok (.bipush (-2), 2) := by decide +kernel
theorem dX10_back_17 : decode cX10_back 17 = .ok (.ireturn, 1) := by decide +kernel
theorem dX10_back_18 : decode cX10_back 18 = .ok (.aload_n 0, 1) := by decide +kernel
theorem dX10_back_19 : decode cX10_back 19 = .ok (.getfield 42, 3) := by decide +kernel
theorem dX10_back_22 : decode cX10_back 22 = .ok (.iload_n 1, 1) := by decide +kernel
theorem dX10_back_23 : decode cX10_back 23 = .ok (.invokevirtual 210, 3) := by decide +kernel
theorem dX10_back_26 : decode cX10_back 26 = .ok (.aload_n 0, 1) := by decide +kernel
theorem dX10_back_27 : decode cX10_back 27 = .ok (.getfield 42, 3) := by decide +kernel
theorem dX10_back_30 : decode cX10_back 30 = .ok (.invokevirtual 205, 3) := by decide +kernel
theorem dX10_back_33 : decode cX10_back 33 = .ok (.ireturn, 1) := by decide +kernel
theorem dX10_where_0 : decode cX10_where 0 = .ok (.iload_n 1, 1) := by decide +kernel
theorem dX10_where_1 : decode cX10_where 1 = .ok (.invokestatic 122, 3) := by decide +kernel
theorem dX10_where_4 : decode cX10_where 4 = .ok (.ifCond .ne 6, 3) := by decide +kernel
theorem dX10_where_7 : decode cX10_where 7 = .ok (.bipush (-2), 2) := by decide +kernel
theorem dX10_where_9 : decode cX10_where 9 = .ok (.ireturn, 1) := by decide +kernel
theorem dX10_where_10 : decode cX10_where 10 = .ok (.aload_n 0, 1) := by decide +kernel
theorem dX10_where_11 : decode cX10_where 11 = .ok (.getfield 21, 3) := by decide +kernel
theorem dX10_where_14 : decode cX10_where 14 = .ok (.invokevirtual 158, 3) := by decide +kernel
theorem dX10_where_17 : decode cX10_where 17 = .ok (.ifCond .eq 6, 3) := by decide +kernel
theorem dX10_where_20 : decode cX10_where 20 = .ok (.bipush (-3), 2) := by decide +kernel
theorem dX10_where_22 : decode cX10_where 22 = .ok (.ireturn, 1) := by decide +kernel
theorem dX10_where_23 : decode cX10_where 23 = .ok (.aload_n 0, 1) := by decide +kernel
theorem dX10_where_24 : decode cX10_where 24 = .ok (.getfield 51, 3) := by decide +kernel
theorem dX10_where_27 : decode cX10_where 27 = .ok (.iload_n 1, 1) := by decide +kernel
theorem dX10_where_28 : decode cX10_where 28 = .ok (.invokevirtual 213, 3) := by decide +kernel
theorem dX10_where_31 : decode cX10_where 31 = .ok (.ireturn, 1) := by decide +kernel
theorem dX10_paid_0 : decode cX10_paid 0 = .ok (.aload_n 0, 1) := by decide +kernel
theorem dX10_paid_1 : decode cX10_paid 1 = .ok (.getfield 21, 3) := by decide +kernel
theorem dX10_paid_4 : decode cX10_paid 4 = .ok (.invokevirtual 158, 3) := by decide +kernel
theorem dX10_paid_7 : decode cX10_paid 7 = .ok (.ifCond .eq 6, 3) := by decide +kernel
theorem dX10_paid_10 : decode cX10_paid 10 = .ok (.bipush (-3), 2) := by decide +kernel
theorem dX10_paid_12 : decode cX10_paid 12 = .ok (.ireturn, 1) := by decide +kernel
theorem dX10_paid_13 : decode cX10_paid 13 = .ok (.aload_n 0, 1) := by decide +kernel
theorem dX10_paid_14 : decode cX10_paid 14 = .ok (.getfield 51, 3) := by decide +kernel
theorem dX10_paid_17 : decode cX10_paid 17 = .ok (.invokevirtual 216, 3) := by decide +kernel
theorem dX10_paid_20 : decode cX10_paid 20 = .ok (.ireturn, 1) := by decide +kernel
theorem dX10_odds_0 : decode cX10_odds 0 = .ok (.aload_n 0, 1) := by decide +kernel
theorem dX10_odds_1 : decode cX10_odds 1 = .ok (.getfield 21, 3) := by decide +kernel
theorem dX10_odds_4 : decode cX10_odds 4 = .ok (.iload_n 1, 1) := by decide +kernel
theorem dX10_odds_5 : decode cX10_odds 5 = .ok (.invokevirtual 119, 3) := by decide +kernel
theorem dX10_odds_8 : decode cX10_odds 8 = .ok (.ifCond .eq 19, 3) := by decide +kernel
theorem dX10_odds_11 : decode cX10_odds 11 = .ok (.iload_n 2, 1) := by decide +kernel
theorem dX10_odds_12 : decode cX10_odds 12 = .ok (.invokestatic 122, 3) := by decide +kernel
theorem dX10_odds_15 : decode cX10_odds 15 = .ok (.ifCond .eq 12, 3) := by decide +kernel
theorem dX10_odds_18 : decode cX10_odds 18 = .ok (.iload_n 3, 1) := by decide +kernel
theorem dX10_odds_19 : decode cX10_odds 19 = .ok (.ifCond .lt 8, 3) := by decide +kernel
theorem dX10_odds_22 : decode cX10_odds 22 = .ok (.iload_n 3, 1) := by decide +kernel
theorem dX10_odds_23 : decode cX10_odds 23 = .ok (.iconst 1, 1) := by decide +kernel
theorem dX10_odds_24 : decode cX10_odds 24 = .ok (.if_icmp .le 7, 3) := by decide +kernel
theorem dX10_odds_27 : decode cX10_odds 27 = .ok (.ldc2_w 219, 3) := by decide +kernel
theorem dX10_odds_30 : decode cX10_odds 30 = .ok (.lreturn, 1) := by decide +kernel
theorem dX10_odds_31 : decode cX10_odds 31 = .ok (.aload_n 0, 1) := by decide +kernel
theorem dX10_odds_32 : decode cX10_odds 32 = .ok (.getfield 51, 3) := by decide +kernel
theorem dX10_odds_35 : decode cX10_odds 35 = .ok (.iload_n 1, 1) := by decide +kernel
theorem dX10_odds_36 : decode cX10_odds 36 = .ok (.iload_n 2, 1) := by decide +kernel
theorem dX10_odds_37 : decode cX10_odds 37 = .ok (.iload_n 3, 1) := by decide +kernel
theorem dX10_odds_38 : decode cX10_odds 38 = .ok (.ifCond .ne 7, 3) := by decide +kernel
theorem dX10_odds_41 : decode cX10_odds 41 = .ok (.iconst 1, 1) := by decide +kernel
theorem dX10_odds_42 : decode cX10_odds 42 = .ok (.goto 4, 3) := by decide +kernel
theorem dX10_odds_45 : decode cX10_odds 45 = .ok (.iconst 0, 1) := by decide +kernel
theorem dX10_odds_46 : decode cX10_odds 46 = .ok (.invokevirtual 221, 3) := by decide +kernel
theorem dX10_odds_49 : decode cX10_odds 49 = .ok (.i2l, 1) := by decide +kernel
theorem dX10_odds_50 : decode cX10_odds 50 = .ok (.lreturn, 1) := by decide +kernel
theorem dX10_sheet_0 : decode cX10_sheet 0 = .ok (.aload_n 0, 1) := by decide +kernel
theorem dX10_sheet_1 : decode cX10_sheet 1 = .ok (.iconst 0, 1) := by decide +kernel
theorem dX10_sheet_2 : decode cX10_sheet 2 = .ok (.putfield 62, 3) := by decide +kernel
theorem dX10_sheet_5 : decode cX10_sheet 5 = .ok (.aload_n 0, 1) := by decide +kernel
theorem dX10_sheet_6 : decode cX10_sheet 6 = .ok (.iload_n 1, 1) := by decide +kernel
theorem dX10_sheet_7 : decode cX10_sheet 7 = .ok (.invokevirtual 66, 3) := by decide +kernel
theorem dX10_sheet_10 : decode cX10_sheet 10 = .ok (.astore 4, 2) := by decide +kernel
theorem dX10_sheet_12 : decode cX10_sheet 12 = .ok (.aload 4, 2) := by decide +kernel
theorem dX10_sheet_14 : decode cX10_sheet 14 = .ok (.ifnonnull 5, 3) := by decide +kernel
theorem dX10_sheet_17 : decode cX10_sheet 17 = .ok (.iconst (-1), 1) := by decide +kernel
theorem dX10_sheet_18 : decode cX10_sheet 18 = .ok (.ireturn, 1) := by decide +kernel
theorem dX10_sheet_19 : decode cX10_sheet 19 = .ok (.iload_n 2, 1) := by decide +kernel
theorem dX10_sheet_20 : decode cX10_sheet 20 = .ok (.invokestatic 70, 3) := by decide +kernel
theorem dX10_sheet_23 : decode cX10_sheet 23 = .ok (.ifCond .eq 9, 3) := by decide +kernel
theorem dX10_sheet_26 : decode cX10_sheet 26 = .ok (.iload_n 3, 1) := by decide +kernel
theorem dX10_sheet_27 : decode cX10_sheet 27 = .ok (.bipush 60, 2) := by decide +kernel
theorem dX10_sheet_29 : decode cX10_sheet 29 = .ok (.if_icmp .le 6, 3) := by decide +kernel
theorem dX10_sheet_32 : decode cX10_sheet 32 = .ok (.bipush (-2), 2) := by decide +kernel
theorem dX10_sheet_34 : decode cX10_sheet 34 = .ok (.ireturn, 1) := by decide +kernel
theorem dX10_sheet_35 : decode cX10_sheet 35 = .ok (.iload_n 3, 1) := by decide +kernel
theorem dX10_sheet_36 : decode cX10_sheet 36 = .ok (.ifCond .ge 9, 3) := by decide +kernel
theorem dX10_sheet_39 : decode cX10_sheet 39 = .ok (.aload_n 0, 1) := by decide +kernel
theorem dX10_sheet_40 : decode cX10_sheet 40 = .ok (.iconst 4, 1) := by decide +kernel
theorem dX10_sheet_41 : decode cX10_sheet 41 = .ok (.invokevirtual 78, 3) := by decide +kernel
theorem dX10_sheet_44 : decode cX10_sheet 44 = .ok (.ireturn, 1) := by decide +kernel
theorem dX10_sheet_45 : decode cX10_sheet 45 = .ok (.aload 4, 2) := by decide +kernel
theorem dX10_sheet_47 : decode cX10_sheet 47 = .ok (.iload_n 2, 1) := by decide +kernel
theorem dX10_sheet_48 : decode cX10_sheet 48 = .ok (.iload_n 3, 1) := by decide +kernel
theorem dX10_sheet_49 : decode cX10_sheet 49 = .ok (.invokevirtual 225, 3) := by decide +kernel
theorem dX10_sheet_52 : decode cX10_sheet 52 = .ok (.iconst 1, 1) := by decide +kernel
theorem dX10_sheet_53 : decode cX10_sheet 53 = .ok (.ireturn, 1) := by decide +kernel
theorem dX10_lose_0 : decode cX10_lose 0 = .ok (.aload_n 0, 1) := by decide +kernel
theorem dX10_lose_1 : decode cX10_lose 1 = .ok (.iload_n 1, 1) := by decide +kernel
theorem dX10_lose_2 : decode cX10_lose 2 = .ok (.invokevirtual 66, 3) := by decide +kernel
theorem dX10_lose_5 : decode cX10_lose 5 = .ok (.astore_n 2, 1) := by decide +kernel
theorem dX10_lose_6 : decode cX10_lose 6 = .ok (.aload_n 2, 1) := by decide +kernel
theorem dX10_lose_7 : decode cX10_lose 7 = .ok (.ifnonnull 5, 3) := by decide +kernel
theorem dX10_lose_10 : decode cX10_lose 10 = .ok (.iconst (-1), 1) := by decide +kernel
theorem dX10_lose_11 : decode cX10_lose 11 = .ok (.ireturn, 1) := by decide +kernel
theorem dX10_lose_12 : decode cX10_lose 12 = .ok (.aload_n 2, 1) := by decide +kernel
theorem dX10_lose_13 : decode cX10_lose 13 = .ok (.invokevirtual 228, 3) := by decide +kernel
theorem dX10_lose_16 : decode cX10_lose 16 = .ok (.ifCond .eq 5, 3) := by decide +kernel
theorem dX10_lose_19 : decode cX10_lose 19 = .ok (.iconst 0, 1) := by decide +kernel
theorem dX10_lose_20 : decode cX10_lose 20 = .ok (.ireturn, 1) := by decide +kernel
theorem dX10_lose_21 : decode cX10_lose 21 = .ok (.aload_n 2, 1) := by decide +kernel
theorem dX10_lose_22 : decode cX10_lose 22 = .ok (.invokevirtual 231, 3) := by decide +kernel
theorem dX10_lose_25 : decode cX10_lose 25 = .ok (.iconst 1, 1) := by decide +kernel
theorem dX10_lose_26 : decode cX10_lose 26 = .ok (.ireturn, 1) := by decide +kernel
theorem dX10_put_0 : decode cX10_put 0 = .ok (.aload_n 0, 1) := by decide +kernel
theorem dX10_put_1 : decode cX10_put 1 = .ok (.iconst 0, 1) := by decide +kernel
theorem dX10_put_2 : decode cX10_put 2 = .ok (.putfield 62, 3) := by decide +kernel
theorem dX10_put_5 : decode cX10_put 5 = .ok (.aload_n 0, 1) := by decide +kernel
theorem dX10_put_6 : decode cX10_put 6 = .ok (.iload_n 1, 1) := by decide +kernel
theorem dX10_put_7 : decode cX10_put 7 = .ok (.invokevirtual 66, 3) := by decide +kernel
theorem dX10_put_10 : decode cX10_put 10 = .ok (.astore 4, 2) := by decide +kernel
theorem dX10_put_12 : decode cX10_put 12 = .ok (.aload 4, 2) := by decide +kernel
theorem dX10_put_14 : decode cX10_put 14 = .ok (.ifnonnull 5, 3) := by decide +kernel
theorem dX10_put_17 : decode cX10_put 17 = .ok (.iconst (-1), 1) := by decide +kernel
theorem dX10_put_18 : decode cX10_put 18 = .ok (.ireturn, 1) := by decide +kernel
theorem dX10_put_19 : decode cX10_put 19 = .ok (.aload 4, 2) := by decide +kernel
theorem dX10_put_21 : decode cX10_put 21 = .ok (.invokevirtual 228, 3) := by decide +kernel
theorem dX10_put_24 : decode cX10_put 24 = .ok (.ifCond .eq 9, 3) := by decide +kernel
theorem dX10_put_27 : decode cX10_put 27 = .ok (.aload_n 0, 1) := by decide +kernel
theorem dX10_put_28 : decode cX10_put 28 = .ok (.iconst 1, 1) := by decide +kernel
theorem dX10_put_29 : decode cX10_put 29 = .ok (.invokevirtual 78, 3) := by decide +kernel
theorem dX10_put_32 : decode cX10_put 32 = .ok (.ireturn, 1) := by decide +kernel
theorem dX10_put_33 : decode cX10_put 33 = .ok (.aload 4, 2) := by decide +kernel
theorem dX10_put_35 : decode cX10_put 35 = .ok (.iload_n 2, 1) := by decide +kernel
theorem dX10_put_36 : decode cX10_put 36 = .ok (.invokevirtual 233, 3) := by decide +kernel
theorem dX10_put_39 : decode cX10_put 39 = .ok (.ifCond .ne 9, 3) := by decide +kernel
theorem dX10_put_42 : decode cX10_put 42 = .ok (.aload_n 0, 1) := by decide +kernel
theorem dX10_put_43 : decode cX10_put 43 = .ok (.iconst 3, 1) := by decide +kernel
theorem dX10_put_44 : decode cX10_put 44 = .ok (.invokevirtual 78, 3) := by decide +kernel
theorem dX10_put_47 : decode cX10_put 47 = .ok (.ireturn, 1) := by decide +kernel
theorem dX10_put_48 : decode cX10_put 48 = .ok (.aload 4, 2) := by decide +kernel
theorem dX10_put_50 : decode cX10_put 50 = .ok (.iload_n 2, 1) := by decide +kernel
theorem dX10_put_51 : decode cX10_put 51 = .ok (.iload_n 3, 1) := by decide +kernel
theorem dX10_put_52 : decode cX10_put 52 = .ok (.invokevirtual 236, 3) := by decide +kernel
theorem dX10_put_55 : decode cX10_put 55 = .ok (.iconst 1, 1) := by decide +kernel
theorem dX10_put_56 : decode cX10_put 56 = .ok (.ireturn, 1) := by decide +kernel
theorem dX10_cell_0 : decode cX10_cell 0 = .ok (.aload_n 0, 1) := by decide +kernel
theorem dX10_cell_1 : decode cX10_cell 1 = .ok (.iconst 0, 1) := by decide +kernel
theorem dX10_cell_2 : decode cX10_cell 2 = .ok (.putfield 62, 3) := by decide +kernel
theorem dX10_cell_5 : decode cX10_cell 5 = .ok (.aload_n 0, 1) := by decide +kernel
theorem dX10_cell_6 : decode cX10_cell 6 = .ok (.iload_n 1, 1) := by decide +kernel
theorem dX10_cell_7 : decode cX10_cell 7 = .ok (.invokevirtual 66, 3) := by decide +kernel
theorem dX10_cell_10 : decode cX10_cell 10 = .ok (.astore 4, 2) := by decide +kernel
theorem dX10_cell_12 : decode cX10_cell 12 = .ok (.aload 4, 2) := by decide +kernel
theorem dX10_cell_14 : decode cX10_cell 14 = .ok (.ifnull 10, 3) := by decide +kernel
theorem dX10_cell_17 : decode cX10_cell 17 = .ok (.iload_n 3, 1) := by decide +kernel
theorem dX10_cell_18 : decode cX10_cell 18 = .ok (.invokestatic 70, 3) := by decide +kernel
theorem dX10_cell_21 : decode cX10_cell 21 = .ok (.ifCond .ne 7, 3) := by decide +kernel
theorem dX10_cell_24 : decode cX10_cell 24 = .ok (.ldc2_w 219, 3) := by decide +kernel
theorem dX10_cell_27 : decode cX10_cell 27 = .ok (.lreturn, 1) := by decide +kernel
theorem dX10_cell_28 : decode cX10_cell 28 = .ok (.aload_n 0, 1) := by decide +kernel
theorem dX10_cell_29 : decode cX10_cell 29 = .ok (.aload 4, 2) := by decide +kernel
theorem dX10_cell_31 : decode cX10_cell 31 = .ok (.iload_n 3, 1) := by decide +kernel
theorem dX10_cell_32 : decode cX10_cell 32 = .ok (.invokevirtual 239, 3) := by decide +kernel
theorem dX10_cell_35 : decode cX10_cell 35 = .ok (.putfield 62, 3) := by decide +kernel
theorem dX10_cell_38 : decode cX10_cell 38 = .ok (.aload_n 0, 1) := by decide +kernel
theorem dX10_cell_39 : decode cX10_cell 39 = .ok (.getfield 62, 3) := by decide +kernel
theorem dX10_cell_42 : decode cX10_cell 42 = .ok (.ifCond .eq 7, 3) := by decide +kernel
theorem dX10_cell_45 : decode cX10_cell 45 = .ok (.ldc2_w 219, 3) := by decide +kernel
theorem dX10_cell_48 : decode cX10_cell 48 = .ok (.lreturn, 1) := by decide +kernel
theorem dX10_cell_49 : decode cX10_cell 49 = .ok (.aload 4, 2) := by decide +kernel
theorem dX10_cell_51 : decode cX10_cell 51 = .ok (.iload_n 2, 1) := by decide +kernel
theorem dX10_cell_52 : decode cX10_cell 52 = .ok (.invokevirtual 233, 3) := by decide +kernel
theorem dX10_cell_55 : decode cX10_cell 55 = .ok (.ifCond .ne 12, 3) := by decide +kernel
theorem dX10_cell_58 : decode cX10_cell 58 = .ok (.aload_n 0, 1) := by decide +kernel
theorem dX10_cell_59 : decode cX10_cell 59 = .ok (.iconst 3, 1) := by decide +kernel
theorem dX10_cell_60 : decode cX10_cell 60 = .ok (.putfield 62, 3) := by decide +kernel
theorem dX10_cell_63 : decode cX10_cell 63 = .ok (.ldc2_w 219, 3) := by decide +kernel
theorem dX10_cell_66 : decode cX10_cell 66 = .ok (.lreturn, 1) := by decide +kernel
theorem dX10_cell_67 : decode cX10_cell 67 = .ok (.aload 4, 2) := by decide +kernel
theorem dX10_cell_69 : decode cX10_cell 69 = .ok (.iload_n 2, 1) := by decide +kernel
theorem dX10_cell_70 : decode cX10_cell 70 = .ok (.invokevirtual 197, 3) := by decide +kernel
theorem dX10_cell_73 : decode cX10_cell 73 = .ok (.i2l, 1) := by decide +kernel
theorem dX10_cell_74 : decode cX10_cell 74 = .ok (.lreturn, 1) := by decide +kernel
theorem dX10_copy_0 : decode cX10_copy 0 = .ok (.aload_n 0, 1) := by decide +kernel
theorem dX10_copy_1 : decode cX10_copy 1 = .ok (.iconst 0, 1) := by decide +kernel
theorem dX10_copy_2 : decode cX10_copy 2 = .ok (.putfield 62, 3) := by decide +kernel
theorem dX10_copy_5 : decode cX10_copy 5 = .ok (.aload_n 0, 1) := by decide +kernel
theorem dX10_copy_6 : decode cX10_copy 6 = .ok (.iload_n 1, 1) := by decide +kernel
theorem dX10_copy_7 : decode cX10_copy 7 = .ok (.invokevirtual 66, 3) := by decide +kernel
theorem dX10_copy_10 : decode cX10_copy 10 = .ok (.astore 6, 2) := by decide +kernel
theorem dX10_copy_12 : decode cX10_copy 12 = .ok (.aload_n 0, 1) := by decide +kernel
theorem dX10_copy_13 : decode cX10_copy 13 = .ok (.iload_n 3, 1) := by decide +kernel
theorem dX10_copy_14 : decode cX10_copy 14 = .ok (.invokevirtual 66, 3) := by decide +kernel
theorem dX10_copy_17 : decode cX10_copy 17 = .ok (.astore 7, 2) := by decide +kernel
theorem dX10_copy_19 : decode cX10_copy 19 = .ok (.aload 6, 2) := by decide +kernel
theorem dX10_copy_21 : decode cX10_copy 21 = .ok (.ifnull 8, 3) := by decide +kernel
theorem dX10_copy_24 : decode cX10_copy 24 = .ok (.aload 7, 2) := by decide +kernel
theorem dX10_copy_26 : decode cX10_copy 26 = .ok (.ifnonnull 5, 3) := by decide +kernel
theorem dX10_copy_29 : decode cX10_copy 29 = .ok (.iconst (-1), 1) := by decide +kernel
theorem dX10_copy_30 : decode cX10_copy 30 = .ok (.ireturn, 1) := by decide +kernel
theorem dX10_copy_31 : decode cX10_copy 31 = .ok (.aload 6, 2) := by decide +kernel
theorem dX10_copy_33 : decode cX10_copy 33 = .ok (.invokevirtual 228, 3) := by decide +kernel
theorem dX10_copy_36 : decode cX10_copy 36 = .ok (.ifCond .ne 11, 3) := by decide +kernel
theorem dX10_copy_39 : decode cX10_copy 39 = .ok (.aload 7, 2) := by decide +kernel
theorem dX10_copy_41 : decode cX10_copy 41 = .ok (.invokevirtual 228, 3) := by decide +kernel
theorem dX10_copy_44 : decode cX10_copy 44 = .ok (.ifCond .eq 9, 3) := by decide +kernel
theorem dX10_copy_47 : decode cX10_copy 47 = .ok (.aload_n 0, 1) := by decide +kernel
theorem dX10_copy_48 : decode cX10_copy 48 = .ok (.iconst 1, 1) := by decide +kernel
theorem dX10_copy_49 : decode cX10_copy 49 = .ok (.invokevirtual 78, 3) := by decide +kernel
theorem dX10_copy_52 : decode cX10_copy 52 = .ok (.ireturn, 1) := by decide +kernel
theorem dX10_copy_53 : decode cX10_copy 53 = .ok (.aload 6, 2) := by decide +kernel
theorem dX10_copy_55 : decode cX10_copy 55 = .ok (.aload 7, 2) := by decide +kernel
theorem dX10_copy_57 : decode cX10_copy 57 = .ok (.invokevirtual 242, 3) := by decide +kernel
theorem dX10_copy_60 : decode cX10_copy 60 = .ok (.invokevirtual 239, 3) := by decide +kernel
theorem dX10_copy_63 : decode cX10_copy 63 = .ok (.ifCond .eq 9, 3) := by decide +kernel
theorem dX10_copy_66 : decode cX10_copy 66 = .ok (.aload_n 0, 1) := by decide +kernel
theorem dX10_copy_67 : decode cX10_copy 67 = .ok (.iconst 2, 1) := by decide +kernel
theorem dX10_copy_68 : decode cX10_copy 68 = .ok (.invokevirtual 78, 3) := by decide +kernel
theorem dX10_copy_71 : decode cX10_copy 71 = .ok (.ireturn, 1) := by decide +kernel
theorem dX10_copy_72 : decode cX10_copy 72 = .ok (.aload 6, 2) := by decide +kernel
theorem dX10_copy_74 : decode cX10_copy 74 = .ok (.iload_n 2, 1) := by decide +kernel
theorem dX10_copy_75 : decode cX10_copy 75 = .ok (.iload 5, 2) := by decide +kernel
theorem dX10_copy_77 : decode cX10_copy 77 = .ok (.invokevirtual 245, 3) := by decide +kernel
theorem dX10_copy_80 : decode cX10_copy 80 = .ok (.ifCond .eq 15, 3) := by decide +kernel
theorem dX10_copy_83 : decode cX10_copy 83 = .ok (.aload 7, 2) := by decide +kernel
theorem dX10_copy_85 : decode cX10_copy 85 = .ok (.iload 4, 2) := by decide +kernel
theorem dX10_copy_87 : decode cX10_copy 87 = .ok (.iload 5, 2) := by decide +kernel
theorem dX10_copy_89 : decode cX10_copy 89 = .ok (.invokevirtual 245, 3) := by decide +kernel
theorem dX10_copy_92 : decode cX10_copy 92 = .ok (.ifCond .ne 9, 3) := by decide +kernel
theorem dX10_copy_95 : decode cX10_copy 95 = .ok (.aload_n 0, 1) := by decide +kernel
theorem dX10_copy_96 : decode cX10_copy 96 = .ok (.iconst 3, 1) := by decide +kernel
theorem dX10_copy_97 : decode cX10_copy 97 = .ok (.invokevirtual 78, 3) := by decide +kernel
theorem dX10_copy_100 : decode cX10_copy 100 = .ok (.ireturn, 1) := by decide +kernel
theorem dX10_copy_101 : decode cX10_copy 101 = .ok (.aload 7, 2) := by decide +kernel
theorem dX10_copy_103 : decode cX10_copy 103 = .ok (.iload 4, 2) := by decide +kernel
theorem dX10_copy_105 : decode cX10_copy 105 = .ok (.aload 6, 2) := by decide +kernel
theorem dX10_copy_107 : decode cX10_copy 107 = .ok (.iload_n 2, 1) := by decide +kernel
theorem dX10_copy_108 : decode cX10_copy 108 = .ok (.iload 5, 2) := by decide +kernel
theorem dX10_copy_110 : decode cX10_copy 110 = .ok (.invokevirtual 248, 3) := by decide +kernel
theorem dX10_copy_113 : decode cX10_copy 113 = .ok (.iload 5, 2) := by decide +kernel
theorem dX10_copy_115 : decode cX10_copy 115 = .ok (.ireturn, 1) := by decide +kernel
theorem dX10_tell_0 : decode cX10_tell 0 = .ok (.aload_n 0, 1) := by decide +kernel
theorem dX10_tell_1 : decode cX10_tell 1 = .ok (.getfield 21, 3) := by decide +kernel
theorem dX10_tell_4 : decode cX10_tell 4 = .ok (.iload_n 1, 1) := by decide +kernel
theorem dX10_tell_5 : decode cX10_tell 5 = .ok (.invokevirtual 98, 3) := by decide +kernel
theorem dX10_tell_8 : decode cX10_tell 8 = .ok (.astore_n 2, 1) := by decide +kernel
theorem dX10_tell_9 : decode cX10_tell 9 = .ok (.aload_n 2, 1) := by decide +kernel
theorem dX10_tell_10 : decode cX10_tell 10 = .ok (.ifnonnull 7, 3) := by decide +kernel
theorem dX10_tell_13 : decode cX10_tell 13 = .ok (.iconst (-1), 1) := by decide +kernel
theorem dX10_tell_14 : decode cX10_tell 14 = .ok (.goto 11, 3) := by decide +kernel
theorem dX10_tell_17 : decode cX10_tell 17 = .ok (.aload_n 2, 1) := by decide +kernel
theorem dX10_tell_18 : decode cX10_tell 18 = .ok (.aload_n 0, 1) := by decide +kernel
theorem dX10_tell_19 : decode cX10_tell 19 = .ok (.getfield 58, 3) := by decide +kernel
theorem dX10_tell_22 : decode cX10_tell 22 = .ok (.invokevirtual 252, 3) := by decide +kernel
theorem dX10_tell_25 : decode cX10_tell 25 = .ok (.ireturn, 1) := by decide +kernel
theorem dX10_bow_0 : decode cX10_bow 0 = .ok (.aload_n 0, 1) := by decide +kernel
theorem dX10_bow_1 : decode cX10_bow 1 = .ok (.getfield 21, 3) := by decide +kernel
theorem dX10_bow_4 : decode cX10_bow 4 = .ok (.iload_n 1, 1) := by decide +kernel
theorem dX10_bow_5 : decode cX10_bow 5 = .ok (.invokevirtual 98, 3) := by decide +kernel
theorem dX10_bow_8 : decode cX10_bow 8 = .ok (.astore_n 2, 1) := by decide +kernel
theorem dX10_bow_9 : decode cX10_bow 9 = .ok (.aload_n 2, 1) := by decide +kernel
theorem dX10_bow_10 : decode cX10_bow 10 = .ok (.ifnonnull 7, 3) := by decide +kernel
theorem dX10_bow_13 : decode cX10_bow 13 = .ok (.iconst (-1), 1) := by decide +kernel
theorem dX10_bow_14 : decode cX10_bow 14 = .ok (.goto 11, 3) := by decide +kernel
theorem dX10_bow_17 : decode cX10_bow 17 = .ok (.aload_n 2, 1) := by decide +kernel
theorem dX10_bow_18 : decode cX10_bow 18 = .ok (.aload_n 0, 1) := by decide +kernel
theorem dX10_bow_19 : decode cX10_bow 19 = .ok (.getfield 58, 3) := by decide +kernel
theorem dX10_bow_22 : decode cX10_bow 22 = .ok (.invokevirtual 256, 3) := by decide +kernel
theorem dX10_bow_25 : decode cX10_bow 25 = .ok (.ireturn, 1) := by decide +kernel
theorem dX10_as_0 : decode cX10_as 0 = .ok (.aload_n 0, 1) := by decide +kernel
theorem dX10_as_1 : decode cX10_as 1 = .ok (.iconst 0, 1) := by decide +kernel
theorem dX10_as_2 : decode cX10_as 2 = .ok (.putfield 62, 3) := by decide +kernel
theorem dX10_as_5 : decode cX10_as 5 = .ok (.aload_n 0, 1) := by decide +kernel
theorem dX10_as_6 : decode cX10_as 6 = .ok (.getfield 21, 3) := by decide +kernel
theorem dX10_as_9 : decode cX10_as 9 = .ok (.iload_n 1, 1) := by decide +kernel
theorem dX10_as_10 : decode cX10_as 10 = .ok (.invokevirtual 98, 3) := by decide +kernel
theorem dX10_as_13 : decode cX10_as 13 = .ok (.astore_n 3, 1) := by decide +kernel
theorem dX10_as_14 : decode cX10_as 14 = .ok (.aload_n 3, 1) := by decide +kernel
theorem dX10_as_15 : decode cX10_as 15 = .ok (.ifnonnull 5, 3) := by decide +kernel
theorem dX10_as_18 : decode cX10_as 18 = .ok (.iconst (-1), 1) := by decide +kernel
theorem dX10_as_19 : decode cX10_as 19 = .ok (.ireturn, 1) := by decide +kernel
theorem dX10_as_20 : decode cX10_as 20 = .ok (.iload_n 2, 1) := by decide +kernel
theorem dX10_as_21 : decode cX10_as 21 = .ok (.ifCond .lt 8, 3) := by decide +kernel
theorem dX10_as_24 : decode cX10_as 24 = .ok (.iload_n 2, 1) := by decide +kernel
theorem dX10_as_25 : decode cX10_as 25 = .ok (.iconst 2, 1) := by decide +kernel
theorem dX10_as_26 : decode cX10_as 26 = .ok (.if_icmp .le 6, 3) := by decide +kernel
theorem dX10_as_29 : decode cX10_as 29 = .ok (.bipush (-2), 2) := by decide +kernel
theorem dX10_as_31 : decode cX10_as 31 = .ok (.ireturn, 1) := by decide +kernel
theorem dX10_as_32 : decode cX10_as 32 = .ok (.aload_n 3, 1) := by decide +kernel
theorem dX10_as_33 : decode cX10_as 33 = .ok (.invokevirtual 102, 3) := by decide +kernel
theorem dX10_as_36 : decode cX10_as 36 = .ok (.iload_n 2, 1) := by decide +kernel
theorem dX10_as_37 : decode cX10_as 37 = .ok (.if_icmp .lt 7, 3) := by decide +kernel
theorem dX10_as_40 : decode cX10_as 40 = .ok (.iconst 1, 1) := by decide +kernel
theorem dX10_as_41 : decode cX10_as 41 = .ok (.goto 8, 3) := by decide +kernel
theorem dX10_as_44 : decode cX10_as 44 = .ok (.aload_n 0, 1) := by decide +kernel
theorem dX10_as_45 : decode cX10_as 45 = .ok (.iconst 2, 1) := by decide +kernel
theorem dX10_as_46 : decode cX10_as 46 = .ok (.invokevirtual 78, 3) := by decide +kernel
theorem dX10_as_49 : decode cX10_as 49 = .ok (.ireturn, 1) := by decide +kernel
theorem dX10_trace_0 : decode cX10_trace 0 = .ok (.aload_n 0, 1) := by decide +kernel
theorem dX10_trace_1 : decode cX10_trace 1 = .ok (.getfield 58, 3) := by decide +kernel
theorem dX10_trace_4 : decode cX10_trace 4 = .ok (.invokevirtual 259, 3) := by decide +kernel
theorem dX10_trace_7 : decode cX10_trace 7 = .ok (.ireturn, 1) := by decide +kernel
theorem dX10_fault_0 : decode cX10_fault 0 = .ok (.aload_n 0, 1) := by decide +kernel
theorem dX10_fault_1 : decode cX10_fault 1 = .ok (.getfield 62, 3) := by decide +kernel
theorem dX10_fault_4 : decode cX10_fault 4 = .ok (.ireturn, 1) := by decide +kernel
theorem dX10_many_0 : decode cX10_many 0 = .ok (.iload_n 1, 1) := by decide +kernel
theorem dX10_many_1 : decode cX10_many 1 = .ok (.tableswitch 63 0 3 #[31, 39, 47, 55], 31) := by decide +kernel
theorem dX10_many_32 : decode cX10_many 32 = .ok (.aload_n 0, 1) := by decide +kernel
theorem dX10_many_33 : decode cX10_many 33 = .ok (.getfield 21, 3) := by decide +kernel
theorem dX10_many_36 : decode cX10_many 36 = .ok (.invokevirtual 94, 3) := by decide +kernel
theorem dX10_many_39 : decode cX10_many 39 = .ok (.ireturn, 1) := by decide +kernel
theorem dX10_many_40 : decode cX10_many 40 = .ok (.aload_n 0, 1) := by decide +kernel
theorem dX10_many_41 : decode cX10_many 41 = .ok (.getfield 28, 3) := by decide +kernel
theorem dX10_many_44 : decode cX10_many 44 = .ok (.invokevirtual 125, 3) := by decide +kernel
theorem dX10_many_47 : decode cX10_many 47 = .ok (.ireturn, 1) := by decide +kernel
theorem dX10_many_48 : decode cX10_many 48 = .ok (.aload_n 0, 1) := by decide +kernel
theorem dX10_many_49 : decode cX10_many 49 = .ok (.getfield 28, 3) := by decide +kernel
theorem dX10_many_52 : decode cX10_many 52 = .ok (.invokevirtual 142, 3) := by decide +kernel
theorem dX10_many_55 : decode cX10_many 55 = .ok (.ireturn, 1) := by decide +kernel
theorem dX10_many_56 : decode cX10_many 56 = .ok (.aload_n 0, 1) := by decide +kernel
theorem dX10_many_57 : decode cX10_many 57 = .ok (.getfield 42, 3) := by decide +kernel
theorem dX10_many_60 : decode cX10_many 60 = .ok (.invokevirtual 205, 3) := by decide +kernel
theorem dX10_many_63 : decode cX10_many 63 = .ok (.ireturn, 1) := by decide +kernel
theorem dX10_many_64 : decode cX10_many 64 = .ok (.bipush (-2), 2) := by decide +kernel
theorem dX10_many_66 : decode cX10_many 66 = .ok (.ireturn, 1) := by decide +kernel
theorem dX10_sheetAt_0 : decode cX10_sheetAt 0 = .ok (.iload_n 1, 1) := by decide +kernel
theorem dX10_sheetAt_1 : decode cX10_sheetAt 1 = .ok (.ifCond .lt 12, 3) := by decide +kernel
theorem dX10_sheetAt_4 : decode cX10_sheetAt 4 = .ok (.iload_n 1, 1) := by decide +kernel
theorem dX10_sheetAt_5 : decode cX10_sheetAt 5 = .ok (.aload_n 0, 1) := by decide +kernel
theorem dX10_sheetAt_6 : decode cX10_sheetAt 6 = .ok (.getfield 13, 3) := by decide +kernel
theorem dX10_sheetAt_9 : decode cX10_sheetAt 9 = .ok (.arraylength, 1) := by decide +kernel
theorem dX10_sheetAt_10 : decode cX10_sheetAt 10 = .ok (.if_icmp .lt 7, 3) := by decide +kernel
theorem dX10_sheetAt_13 : decode cX10_sheetAt 13 = .ok (.aconst_null, 1) := by decide +kernel
theorem dX10_sheetAt_14 : decode cX10_sheetAt 14 = .ok (.goto 9, 3) := by decide +kernel
theorem dX10_sheetAt_17 : decode cX10_sheetAt 17 = .ok (.aload_n 0, 1) := by decide +kernel
theorem dX10_sheetAt_18 : decode cX10_sheetAt 18 = .ok (.getfield 13, 3) := by decide +kernel
theorem dX10_sheetAt_21 : decode cX10_sheetAt 21 = .ok (.iload_n 1, 1) := by decide +kernel
theorem dX10_sheetAt_22 : decode cX10_sheetAt 22 = .ok (.aaload, 1) := by decide +kernel
theorem dX10_sheetAt_23 : decode cX10_sheetAt 23 = .ok (.areturn, 1) := by decide +kernel
theorem dX10_faulted_0 : decode cX10_faulted 0 = .ok (.aload_n 0, 1) := by decide +kernel
theorem dX10_faulted_1 : decode cX10_faulted 1 = .ok (.iload_n 1, 1) := by decide +kernel
theorem dX10_faulted_2 : decode cX10_faulted 2 = .ok (.putfield 62, 3) := by decide +kernel
theorem dX10_faulted_5 : decode cX10_faulted 5 = .ok (.bipush (-10), 2) := by decide +kernel
theorem dX10_faulted_7 : decode cX10_faulted 7 = .ok (.iload_n 1, 1) := by decide +kernel
theorem dX10_faulted_8 : decode cX10_faulted 8 = .ok (.isub, 1) := by decide +kernel
theorem dX10_faulted_9 : decode cX10_faulted 9 = .ok (.ireturn, 1) := by decide +kernel
theorem dX10_isLane_0 : decode cX10_isLane 0 = .ok (.iload_n 0, 1) := by decide +kernel
theorem dX10_isLane_1 : decode cX10_isLane 1 = .ok (.ifCond .lt 12, 3) := by decide +kernel
theorem dX10_isLane_4 : decode cX10_isLane 4 = .ok (.iload_n 0, 1) := by decide +kernel
theorem dX10_isLane_5 : decode cX10_isLane 5 = .ok (.iconst 3, 1) := by decide +kernel
theorem dX10_isLane_6 : decode cX10_isLane 6 = .ok (.if_icmp .ge 7, 3) := by decide +kernel
theorem dX10_isLane_9 : decode cX10_isLane 9 = .ok (.iconst 1, 1) := by decide +kernel
theorem dX10_isLane_10 : decode cX10_isLane 10 = .ok (.goto 4, 3) := by decide +kernel
theorem dX10_isLane_13 : decode cX10_isLane 13 = .ok (.iconst 0, 1) := by decide +kernel
theorem dX10_isLane_14 : decode cX10_isLane 14 = .ok (.ireturn, 1) := by decide +kernel
theorem dX10_isDay_0 : decode cX10_isDay 0 = .ok (.iload_n 0, 1) := by decide +kernel
theorem dX10_isDay_1 : decode cX10_isDay 1 = .ok (.ifCond .lt 13, 3) := by decide +kernel
theorem dX10_isDay_4 : decode cX10_isDay 4 = .ok (.iload_n 0, 1) := by decide +kernel
theorem dX10_isDay_5 : decode cX10_isDay 5 = .ok (.bipush 40, 2) := by decide +kernel
theorem dX10_isDay_7 : decode cX10_isDay 7 = .ok (.if_icmp .ge 7, 3) := by decide +kernel
theorem dX10_isDay_10 : decode cX10_isDay 10 = .ok (.iconst 1, 1) := by decide +kernel
theorem dX10_isDay_11 : decode cX10_isDay 11 = .ok (.goto 4, 3) := by decide +kernel
theorem dX10_isDay_14 : decode cX10_isDay 14 = .ok (.iconst 0, 1) := by decide +kernel
theorem dX10_isDay_15 : decode cX10_isDay 15 = .ok (.ireturn, 1) := by decide +kernel
theorem dX10_isIn_0 : decode cX10_isIn 0 = .ok (.iload_n 0, 1) := by decide +kernel
theorem dX10_isIn_1 : decode cX10_isIn 1 = .ok (.iload_n 1, 1) := by decide +kernel
theorem dX10_isIn_2 : decode cX10_isIn 2 = .ok (.ishr, 1) := by decide +kernel
theorem dX10_isIn_3 : decode cX10_isIn 3 = .ok (.iconst 1, 1) := by decide +kernel
theorem dX10_isIn_4 : decode cX10_isIn 4 = .ok (.iand, 1) := by decide +kernel
theorem dX10_isIn_5 : decode cX10_isIn 5 = .ok (.ifCond .eq 7, 3) := by decide +kernel
theorem dX10_isIn_8 : decode cX10_isIn 8 = .ok (.iconst 1, 1) := by decide +kernel
theorem dX10_isIn_9 : decode cX10_isIn 9 = .ok (.goto 4, 3) := by decide +kernel
theorem dX10_isIn_12 : decode cX10_isIn 12 = .ok (.iconst 0, 1) := by decide +kernel
theorem dX10_isIn_13 : decode cX10_isIn 13 = .ok (.ireturn, 1) := by decide +kernel
theorem dJ6_bitCount_0f7a4_0 : decode cJ6_bitCount_0f7a4 0 = .ok (.iload_n 0, 1) := by decide +kernel
theorem dJ6_bitCount_0f7a4_1 : decode cJ6_bitCount_0f7a4 1 = .ok (.iload_n 0, 1) := by decide +kernel
theorem dJ6_bitCount_0f7a4_2 : decode cJ6_bitCount_0f7a4 2 = .ok (.iconst 1, 1) := by decide +kernel
theorem dJ6_bitCount_0f7a4_3 : decode cJ6_bitCount_0f7a4 3 = .ok (.iushr, 1) := by decide +kernel
theorem dJ6_bitCount_0f7a4_4 : decode cJ6_bitCount_0f7a4 4 = .ok (.ldc_w 265, 3) := by decide +kernel
theorem dJ6_bitCount_0f7a4_7 : decode cJ6_bitCount_0f7a4 7 = .ok (.iand, 1) := by decide +kernel
theorem dJ6_bitCount_0f7a4_8 : decode cJ6_bitCount_0f7a4 8 = .ok (.isub, 1) := by decide +kernel
theorem dJ6_bitCount_0f7a4_9 : decode cJ6_bitCount_0f7a4 9 = .ok (.istore_n 0, 1) := by decide +kernel
theorem dJ6_bitCount_0f7a4_10 : decode cJ6_bitCount_0f7a4 10 = .ok (.iload_n 0, 1) := by decide +kernel
theorem dJ6_bitCount_0f7a4_11 : decode cJ6_bitCount_0f7a4 11 = .ok (.ldc_w 266, 3) := by decide +kernel
theorem dJ6_bitCount_0f7a4_14 : decode cJ6_bitCount_0f7a4 14 = .ok (.iand, 1) := by decide +kernel
theorem dJ6_bitCount_0f7a4_15 : decode cJ6_bitCount_0f7a4 15 = .ok (.iload_n 0, 1) := by decide +kernel
theorem dJ6_bitCount_0f7a4_16 : decode cJ6_bitCount_0f7a4 16 = .ok (.iconst 2, 1) := by decide +kernel
theorem dJ6_bitCount_0f7a4_17 : decode cJ6_bitCount_0f7a4 17 = .ok (.iushr, 1) := by decide +kernel
theorem dJ6_bitCount_0f7a4_18 : decode cJ6_bitCount_0f7a4 18 = .ok (.ldc_w 266, 3) := by decide +kernel
theorem dJ6_bitCount_0f7a4_21 : decode cJ6_bitCount_0f7a4 21 = .ok (.iand, 1) := by decide +kernel
theorem dJ6_bitCount_0f7a4_22 : decode cJ6_bitCount_0f7a4 22 = .ok (.iadd, 1) := by decide +kernel
theorem dJ6_bitCount_0f7a4_23 : decode cJ6_bitCount_0f7a4 23 = .ok (.istore_n 0, 1) := by decide +kernel
theorem dJ6_bitCount_0f7a4_24 : decode cJ6_bitCount_0f7a4 24 = .ok (.iload_n 0, 1) := by decide +kernel
theorem dJ6_bitCount_0f7a4_25 : decode cJ6_bitCount_0f7a4 25 = .ok (.iload_n 0, 1) := by decide +kernel
theorem dJ6_bitCount_0f7a4_26 : decode cJ6_bitCount_0f7a4 26 = .ok (.iconst 4, 1) := by decide +kernel
theorem dJ6_bitCount_0f7a4_27 : decode cJ6_bitCount_0f7a4 27 = .ok (.iushr, 1) := by decide +kernel
theorem dJ6_bitCount_0f7a4_28 : decode cJ6_bitCount_0f7a4 28 = .ok (.iadd, 1) := by decide +kernel
theorem dJ6_bitCount_0f7a4_29 : decode cJ6_bitCount_0f7a4 29 = .ok (.ldc_w 267, 3) := by decide +kernel
theorem dJ6_bitCount_0f7a4_32 : decode cJ6_bitCount_0f7a4 32 = .ok (.iand, 1) := by decide +kernel
theorem dJ6_bitCount_0f7a4_33 : decode cJ6_bitCount_0f7a4 33 = .ok (.istore_n 0, 1) := by decide +kernel
theorem dJ6_bitCount_0f7a4_34 : decode cJ6_bitCount_0f7a4 34 = .ok (.iload_n 0, 1) := by decide +kernel
theorem dJ6_bitCount_0f7a4_35 : decode cJ6_bitCount_0f7a4 35 = .ok (.iload_n 0, 1) := by decide +kernel
theorem dJ6_bitCount_0f7a4_36 : decode cJ6_bitCount_0f7a4 36 = .ok (.bipush 8, 2) := by decide +kernel
theorem dJ6_bitCount_0f7a4_38 : decode cJ6_bitCount_0f7a4 38 = .ok (.iushr, 1) := by decide +kernel
theorem dJ6_bitCount_0f7a4_39 : decode cJ6_bitCount_0f7a4 39 = .ok (.iadd, 1) := by decide +kernel
theorem dJ6_bitCount_0f7a4_40 : decode cJ6_bitCount_0f7a4 40 = .ok (.istore_n 0, 1) := by decide +kernel
theorem dJ6_bitCount_0f7a4_41 : decode cJ6_bitCount_0f7a4 41 = .ok (.iload_n 0, 1) := by decide +kernel
theorem dJ6_bitCount_0f7a4_42 : decode cJ6_bitCount_0f7a4 42 = .ok (.iload_n 0, 1) := by decide +kernel
theorem dJ6_bitCount_0f7a4_43 : decode cJ6_bitCount_0f7a4 43 = .ok (.bipush 16, 2) := by decide +kernel
theorem dJ6_bitCount_0f7a4_45 : decode cJ6_bitCount_0f7a4 45 = .ok (.iushr, 1) := by decide +kernel
theorem dJ6_bitCount_0f7a4_46 : decode cJ6_bitCount_0f7a4 46 = .ok (.iadd, 1) := by decide +kernel
theorem dJ6_bitCount_0f7a4_47 : decode cJ6_bitCount_0f7a4 47 = .ok (.istore_n 0, 1) := by decide +kernel
theorem dJ6_bitCount_0f7a4_48 : decode cJ6_bitCount_0f7a4 48 = .ok (.iload_n 0, 1) := by decide +kernel
theorem dJ6_bitCount_0f7a4_49 : decode cJ6_bitCount_0f7a4 49 = .ok (.bipush 63, 2) := by decide +kernel
theorem dJ6_bitCount_0f7a4_51 : decode cJ6_bitCount_0f7a4 51 = .ok (.iand, 1) := by decide +kernel
theorem dJ6_bitCount_0f7a4_52 : decode cJ6_bitCount_0f7a4 52 = .ok (.ireturn, 1) := by decide +kernel
theorem dJ9_abs_0f7a4_0 : decode cJ9_abs_0f7a4 0 = .ok (.iload_n 0, 1) := by decide +kernel
theorem dJ9_abs_0f7a4_1 : decode cJ9_abs_0f7a4 1 = .ok (.ifCond .ge 8, 3) := by decide +kernel
theorem dJ9_abs_0f7a4_4 : decode cJ9_abs_0f7a4 4 = .ok (.iload_n 0, 1) := by decide +kernel
theorem dJ9_abs_0f7a4_5 : decode cJ9_abs_0f7a4 5 = .ok (.ineg, 1) := by decide +kernel
theorem dJ9_abs_0f7a4_6 : decode cJ9_abs_0f7a4 6 = .ok (.goto 4, 3) := by decide +kernel
theorem dJ9_abs_0f7a4_9 : decode cJ9_abs_0f7a4 9 = .ok (.iload_n 0, 1) := by decide +kernel
theorem dJ9_abs_0f7a4_10 : decode cJ9_abs_0f7a4 10 = .ok (.ireturn, 1) := by decide +kernel
theorem dJ9_max_7cf53_0 : decode cJ9_max_7cf53 0 = .ok (.iload_n 0, 1) := by decide +kernel
theorem dJ9_max_7cf53_1 : decode cJ9_max_7cf53 1 = .ok (.iload_n 1, 1) := by decide +kernel
theorem dJ9_max_7cf53_2 : decode cJ9_max_7cf53 2 = .ok (.if_icmp .lt 7, 3) := by decide +kernel
theorem dJ9_max_7cf53_5 : decode cJ9_max_7cf53 5 = .ok (.iload_n 0, 1) := by decide +kernel
theorem dJ9_max_7cf53_6 : decode cJ9_max_7cf53 6 = .ok (.goto 4, 3) := by decide +kernel
theorem dJ9_max_7cf53_9 : decode cJ9_max_7cf53 9 = .ok (.iload_n 1, 1) := by decide +kernel
theorem dJ9_max_7cf53_10 : decode cJ9_max_7cf53 10 = .ok (.ireturn, 1) := by decide +kernel
theorem dJ9_min_7cf53_0 : decode cJ9_min_7cf53 0 = .ok (.iload_n 0, 1) := by decide +kernel
theorem dJ9_min_7cf53_1 : decode cJ9_min_7cf53 1 = .ok (.iload_n 1, 1) := by decide +kernel
theorem dJ9_min_7cf53_2 : decode cJ9_min_7cf53 2 = .ok (.if_icmp .gt 7, 3) := by decide +kernel
theorem dJ9_min_7cf53_5 : decode cJ9_min_7cf53 5 = .ok (.iload_n 0, 1) := by decide +kernel
theorem dJ9_min_7cf53_6 : decode cJ9_min_7cf53 6 = .ok (.goto 4, 3) := by decide +kernel
theorem dJ9_min_7cf53_9 : decode cJ9_min_7cf53 9 = .ok (.iload_n 1, 1) := by decide +kernel
theorem dJ9_min_7cf53_10 : decode cJ9_min_7cf53 10 = .ok (.ireturn, 1) := by decide +kernel
