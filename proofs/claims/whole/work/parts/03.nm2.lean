theorem dX0_init_0 : decode cX0_init 0 = .ok (.aload_n 0, 1) := by decide +kernel
theorem dX0_init_1 : decode cX0_init 1 = .ok (.invokespecial 3, 3) := by decide +kernel
theorem dX0_init_4 : decode cX0_init 4 = .ok (.aload_n 0, 1) := by decide +kernel
theorem dX0_init_5 : decode cX0_init 5 = .ok (.bipush 12, 2) := by decide +kernel
theorem dX0_init_7 : decode cX0_init 7 = .ok (.newarray .int, 2) := by decide +kernel
theorem dX0_init_9 : decode cX0_init 9 = .ok (.putfield 9, 3) := by decide +kernel
theorem dX0_init_12 : decode cX0_init 12 = .ok (.aload_n 0, 1) := by decide +kernel
theorem dX0_init_13 : decode cX0_init 13 = .ok (.bipush 12, 2) := by decide +kernel
theorem dX0_init_15 : decode cX0_init 15 = .ok (.newarray .int, 2) := by decide +kernel
theorem dX0_init_17 : decode cX0_init 17 = .ok (.putfield 15, 3) := by decide +kernel
theorem dX0_init_20 : decode cX0_init 20 = .ok (.return_, 1) := by decide +kernel
theorem dX0_gather_0 : decode cX0_gather 0 = .ok (.aload_n 0, 1) := by decide +kernel
theorem dX0_gather_1 : decode cX0_gather 1 = .ok (.iconst 0, 1) := by decide +kernel
theorem dX0_gather_2 : decode cX0_gather 2 = .ok (.putfield 18, 3) := by decide +kernel
theorem dX0_gather_5 : decode cX0_gather 5 = .ok (.aload_n 0, 1) := by decide +kernel
theorem dX0_gather_6 : decode cX0_gather 6 = .ok (.iconst 0, 1) := by decide +kernel
theorem dX0_gather_7 : decode cX0_gather 7 = .ok (.putfield 22, 3) := by decide +kernel
theorem dX0_gather_10 : decode cX0_gather 10 = .ok (.aload_n 0, 1) := by decide +kernel
theorem dX0_gather_11 : decode cX0_gather 11 = .ok (.iload_n 3, 1) := by decide +kernel
theorem dX0_gather_12 : decode cX0_gather 12 = .ok (.putfield 25, 3) := by decide +kernel
theorem dX0_gather_15 : decode cX0_gather 15 = .ok (.aload_n 0, 1) := by decide +kernel
theorem dX0_gather_16 : decode cX0_gather 16 = .ok (.lload 4, 2) := by decide +kernel
theorem dX0_gather_18 : decode cX0_gather 18 = .ok (.putfield 28, 3) := by decide +kernel
theorem dX0_gather_21 : decode cX0_gather 21 = .ok (.iconst 0, 1) := by decide +kernel
theorem dX0_gather_22 : decode cX0_gather 22 = .ok (.istore 6, 2) := by decide +kernel
theorem dX0_gather_24 : decode cX0_gather 24 = .ok (.iload 6, 2) := by decide +kernel
theorem dX0_gather_26 : decode cX0_gather 26 = .ok (.bipush 12, 2) := by decide +kernel
theorem dX0_gather_28 : decode cX0_gather 28 = .ok (.if_icmp .ge 108, 3) := by decide +kernel
theorem dX0_gather_31 : decode cX0_gather 31 = .ok (.aload_n 1, 1) := by decide +kernel
theorem dX0_gather_32 : decode cX0_gather 32 = .ok (.iload 6, 2) := by decide +kernel
theorem dX0_gather_34 : decode cX0_gather 34 = .ok (.aaload, 1) := by decide +kernel
theorem dX0_gather_35 : decode cX0_gather 35 = .ok (.astore 7, 2) := by decide +kernel
theorem dX0_gather_37 : decode cX0_gather 37 = .ok (.aload 7, 2) := by decide +kernel
theorem dX0_gather_39 : decode cX0_gather 39 = .ok (.getfield 32, 3) := by decide +kernel
theorem dX0_gather_42 : decode cX0_gather 42 = .ok (.ifCond .eq 21, 3) := by decide +kernel
theorem dX0_gather_45 : decode cX0_gather 45 = .ok (.aload 7, 2) := by decide +kernel
theorem dX0_gather_47 : decode cX0_gather 47 = .ok (.invokevirtual 38, 3) := by decide +kernel
theorem dX0_gather_50 : decode cX0_gather 50 = .ok (.ifCond .eq 9, 3) := by decide +kernel
theorem dX0_gather_53 : decode cX0_gather 53 = .ok (.iload 6, 2) := by decide +kernel
theorem dX0_gather_55 : decode cX0_gather 55 = .ok (.iload_n 2, 1) := by decide +kernel
theorem dX0_gather_56 : decode cX0_gather 56 = .ok (.if_icmp .ne 7, 3) := by decide +kernel
theorem dX0_gather_59 : decode cX0_gather 59 = .ok (.iconst 1, 1) := by decide +kernel
theorem dX0_gather_60 : decode cX0_gather 60 = .ok (.goto 4, 3) := by decide +kernel
theorem dX0_gather_63 : decode cX0_gather 63 = .ok (.iconst 0, 1) := by decide +kernel
theorem dX0_gather_64 : decode cX0_gather 64 = .ok (.istore 8, 2) := by decide +kernel
theorem dX0_gather_66 : decode cX0_gather 66 = .ok (.aload_n 0, 1) := by decide +kernel
theorem dX0_gather_67 : decode cX0_gather 67 = .ok (.getfield 9, 3) := by decide +kernel
theorem dX0_gather_70 : decode cX0_gather 70 = .ok (.iload 6, 2) := by decide +kernel
theorem dX0_gather_72 : decode cX0_gather 72 = .ok (.iload 8, 2) := by decide +kernel
theorem dX0_gather_74 : decode cX0_gather 74 = .ok (.ifCond .eq 11, 3) := by decide +kernel
theorem dX0_gather_77 : decode cX0_gather 77 = .ok (.aload 7, 2) := by decide +kernel
theorem dX0_gather_79 : decode cX0_gather 79 = .ok (.getfield 42, 3) := by decide +kernel
theorem dX0_gather_82 : decode cX0_gather 82 = .ok (.goto 4, 3) := by decide +kernel
theorem dX0_gather_85 : decode cX0_gather 85 = .ok (.iconst 0, 1) := by decide +kernel
theorem dX0_gather_86 : decode cX0_gather 86 = .ok (.iastore, 1) := by decide +kernel
theorem dX0_gather_87 : decode cX0_gather 87 = .ok (.aload_n 0, 1) := by decide +kernel
theorem dX0_gather_88 : decode cX0_gather 88 = .ok (.getfield 15, 3) := by decide +kernel
theorem dX0_gather_91 : decode cX0_gather 91 = .ok (.iload 6, 2) := by decide +kernel
theorem dX0_gather_93 : decode cX0_gather 93 = .ok (.aload 7, 2) := by decide +kernel
theorem dX0_gather_95 : decode cX0_gather 95 = .ok (.getfield 45, 3) := by decide +kernel
theorem dX0_gather_98 : decode cX0_gather 98 = .ok (.iastore, 1) := by decide +kernel
theorem dX0_gather_99 : decode cX0_gather 99 = .ok (.aload_n 0, 1) := by decide +kernel
theorem dX0_gather_100 : decode cX0_gather 100 = .ok (.dup, 1) := by decide +kernel
theorem dX0_gather_101 : decode cX0_gather 101 = .ok (.getfield 22, 3) := by decide +kernel
theorem dX0_gather_104 : decode cX0_gather 104 = .ok (.aload_n 0, 1) := by decide +kernel
theorem dX0_gather_105 : decode cX0_gather 105 = .ok (.getfield 9, 3) := by decide +kernel
theorem dX0_gather_108 : decode cX0_gather 108 = .ok (.iload 6, 2) := by decide +kernel
theorem dX0_gather_110 : decode cX0_gather 110 = .ok (.iaload, 1) := by decide +kernel
theorem dX0_gather_111 : decode cX0_gather 111 = .ok (.iadd, 1) := by decide +kernel
theorem dX0_gather_112 : decode cX0_gather 112 = .ok (.putfield 22, 3) := by decide +kernel
theorem dX0_gather_115 : decode cX0_gather 115 = .ok (.iload 8, 2) := by decide +kernel
theorem dX0_gather_117 : decode cX0_gather 117 = .ok (.ifCond .eq 13, 3) := by decide +kernel
theorem dX0_gather_120 : decode cX0_gather 120 = .ok (.aload_n 0, 1) := by decide +kernel
theorem dX0_gather_121 : decode cX0_gather 121 = .ok (.dup, 1) := by decide +kernel
theorem dX0_gather_122 : decode cX0_gather 122 = .ok (.getfield 18, 3) := by decide +kernel
theorem dX0_gather_125 : decode cX0_gather 125 = .ok (.iconst 1, 1) := by decide +kernel
theorem dX0_gather_126 : decode cX0_gather 126 = .ok (.iadd, 1) := by decide +kernel
theorem dX0_gather_127 : decode cX0_gather 127 = .ok (.putfield 18, 3) := by decide +kernel
theorem dX0_gather_130 : decode cX0_gather 130 = .ok (.iinc 6 1, 3) := by decide +kernel
theorem dX0_gather_133 : decode cX0_gather 133 = .ok (.goto (-109), 3) := by decide +kernel
theorem dX0_gather_136 : decode cX0_gather 136 = .ok (.return_, 1) := by decide +kernel
theorem dX0_nextLeader_0 : decode cX0_nextLeader 0 = .ok (.aload_n 0, 1) := by decide +kernel
theorem dX0_nextLeader_1 : decode cX0_nextLeader 1 = .ok (.iconst 0, 1) := by decide +kernel
theorem dX0_nextLeader_2 : decode cX0_nextLeader 2 = .ok (.putfield 48, 3) := by decide +kernel
theorem dX0_nextLeader_5 : decode cX0_nextLeader 5 = .ok (.aload_n 0, 1) := by decide +kernel
theorem dX0_nextLeader_6 : decode cX0_nextLeader 6 = .ok (.invokevirtual 51, 3) := by decide +kernel
theorem dX0_nextLeader_9 : decode cX0_nextLeader 9 = .ok (.istore_n 1, 1) := by decide +kernel
theorem dX0_nextLeader_10 : decode cX0_nextLeader 10 = .ok (.iload_n 1, 1) := by decide +kernel
theorem dX0_nextLeader_11 : decode cX0_nextLeader 11 = .ok (.bipush (-2), 2) := by decide +kernel
theorem dX0_nextLeader_13 : decode cX0_nextLeader 13 = .ok (.if_icmp .ne 12, 3) := by decide +kernel
theorem dX0_nextLeader_16 : decode cX0_nextLeader 16 = .ok (.aload_n 0, 1) := by decide +kernel
theorem dX0_nextLeader_17 : decode cX0_nextLeader 17 = .ok (.aload_n 0, 1) := by decide +kernel
theorem dX0_nextLeader_18 : decode cX0_nextLeader 18 = .ok (.invokevirtual 55, 3) := by decide +kernel
theorem dX0_nextLeader_21 : decode cX0_nextLeader 21 = .ok (.invokevirtual 59, 3) := by decide +kernel
theorem dX0_nextLeader_24 : decode cX0_nextLeader 24 = .ok (.istore_n 1, 1) := by decide +kernel
theorem dX0_nextLeader_25 : decode cX0_nextLeader 25 = .ok (.aload_n 0, 1) := by decide +kernel
theorem dX0_nextLeader_26 : decode cX0_nextLeader 26 = .ok (.iload_n 1, 1) := by decide +kernel
theorem dX0_nextLeader_27 : decode cX0_nextLeader 27 = .ok (.invokevirtual 63, 3) := by decide +kernel
theorem dX0_nextLeader_30 : decode cX0_nextLeader 30 = .ok (.iload_n 1, 1) := by decide +kernel
theorem dX0_nextLeader_31 : decode cX0_nextLeader 31 = .ok (.ireturn, 1) := by decide +kernel
theorem dX0_mostOverdue_0 : decode cX0_mostOverdue 0 = .ok (.aload_n 0, 1) := by decide +kernel
theorem dX0_mostOverdue_1 : decode cX0_mostOverdue 1 = .ok (.getfield 25, 3) := by decide +kernel
theorem dX0_mostOverdue_4 : decode cX0_mostOverdue 4 = .ok (.ifCond .gt 6, 3) := by decide +kernel
theorem dX0_mostOverdue_7 : decode cX0_mostOverdue 7 = .ok (.bipush (-2), 2) := by decide +kernel
theorem dX0_mostOverdue_9 : decode cX0_mostOverdue 9 = .ok (.ireturn, 1) := by decide +kernel
theorem dX0_mostOverdue_10 : decode cX0_mostOverdue 10 = .ok (.bipush (-2), 2) := by decide +kernel
theorem dX0_mostOverdue_12 : decode cX0_mostOverdue 12 = .ok (.istore_n 1, 1) := by decide +kernel
theorem dX0_mostOverdue_13 : decode cX0_mostOverdue 13 = .ok (.aload_n 0, 1) := by decide +kernel
theorem dX0_mostOverdue_14 : decode cX0_mostOverdue 14 = .ok (.getfield 25, 3) := by decide +kernel
theorem dX0_mostOverdue_17 : decode cX0_mostOverdue 17 = .ok (.i2l, 1) := by decide +kernel
theorem dX0_mostOverdue_18 : decode cX0_mostOverdue 18 = .ok (.aload_n 0, 1) := by decide +kernel
theorem dX0_mostOverdue_19 : decode cX0_mostOverdue 19 = .ok (.getfield 22, 3) := by decide +kernel
theorem dX0_mostOverdue_22 : decode cX0_mostOverdue 22 = .ok (.i2l, 1) := by decide +kernel
theorem dX0_mostOverdue_23 : decode cX0_mostOverdue 23 = .ok (.lmul, 1) := by decide +kernel
theorem dX0_mostOverdue_24 : decode cX0_mostOverdue 24 = .ok (.lconst 1, 1) := by decide +kernel
theorem dX0_mostOverdue_25 : decode cX0_mostOverdue 25 = .ok (.lsub, 1) := by decide +kernel
theorem dX0_mostOverdue_26 : decode cX0_mostOverdue 26 = .ok (.lstore_n 2, 1) := by decide +kernel
theorem dX0_mostOverdue_27 : decode cX0_mostOverdue 27 = .ok (.iconst 0, 1) := by decide +kernel
theorem dX0_mostOverdue_28 : decode cX0_mostOverdue 28 = .ok (.istore 4, 2) := by decide +kernel
theorem dX0_mostOverdue_30 : decode cX0_mostOverdue 30 = .ok (.iload 4, 2) := by decide +kernel
theorem dX0_mostOverdue_32 : decode cX0_mostOverdue 32 = .ok (.bipush 12, 2) := by decide +kernel
theorem dX0_mostOverdue_34 : decode cX0_mostOverdue 34 = .ok (.if_icmp .ge 51, 3) := by decide +kernel
theorem dX0_mostOverdue_37 : decode cX0_mostOverdue 37 = .ok (.aload_n 0, 1) := by decide +kernel
theorem dX0_mostOverdue_38 : decode cX0_mostOverdue 38 = .ok (.getfield 15, 3) := by decide +kernel
theorem dX0_mostOverdue_41 : decode cX0_mostOverdue 41 = .ok (.iload 4, 2) := by decide +kernel
theorem dX0_mostOverdue_43 : decode cX0_mostOverdue 43 = .ok (.iaload, 1) := by decide +kernel
theorem dX0_mostOverdue_44 : decode cX0_mostOverdue 44 = .ok (.i2l, 1) := by decide +kernel
theorem dX0_mostOverdue_45 : decode cX0_mostOverdue 45 = .ok (.aload_n 0, 1) := by decide +kernel
theorem dX0_mostOverdue_46 : decode cX0_mostOverdue 46 = .ok (.getfield 9, 3) := by decide +kernel
theorem dX0_mostOverdue_49 : decode cX0_mostOverdue 49 = .ok (.iload 4, 2) := by decide +kernel
theorem dX0_mostOverdue_51 : decode cX0_mostOverdue 51 = .ok (.iaload, 1) := by decide +kernel
theorem dX0_mostOverdue_52 : decode cX0_mostOverdue 52 = .ok (.i2l, 1) := by decide +kernel
theorem dX0_mostOverdue_53 : decode cX0_mostOverdue 53 = .ok (.lmul, 1) := by decide +kernel
theorem dX0_mostOverdue_54 : decode cX0_mostOverdue 54 = .ok (.lstore 5, 2) := by decide +kernel
theorem dX0_mostOverdue_56 : decode cX0_mostOverdue 56 = .ok (.aload_n 0, 1) := by decide +kernel
theorem dX0_mostOverdue_57 : decode cX0_mostOverdue 57 = .ok (.getfield 9, 3) := by decide +kernel
theorem dX0_mostOverdue_60 : decode cX0_mostOverdue 60 = .ok (.iload 4, 2) := by decide +kernel
theorem dX0_mostOverdue_62 : decode cX0_mostOverdue 62 = .ok (.iaload, 1) := by decide +kernel
theorem dX0_mostOverdue_63 : decode cX0_mostOverdue 63 = .ok (.ifCond .le 16, 3) := by decide +kernel
theorem dX0_mostOverdue_66 : decode cX0_mostOverdue 66 = .ok (.lload 5, 2) := by decide +kernel
theorem dX0_mostOverdue_68 : decode cX0_mostOverdue 68 = .ok (.lload_n 2, 1) := by decide +kernel
theorem dX0_mostOverdue_69 : decode cX0_mostOverdue 69 = .ok (.lcmp, 1) := by decide +kernel
theorem dX0_mostOverdue_70 : decode cX0_mostOverdue 70 = .ok (.ifCond .le 9, 3) := by decide +kernel
theorem dX0_mostOverdue_73 : decode cX0_mostOverdue 73 = .ok (.iload 4, 2) := by decide +kernel
theorem dX0_mostOverdue_75 : decode cX0_mostOverdue 75 = .ok (.istore_n 1, 1) := by decide +kernel
theorem dX0_mostOverdue_76 : decode cX0_mostOverdue 76 = .ok (.lload 5, 2) := by decide +kernel
theorem dX0_mostOverdue_78 : decode cX0_mostOverdue 78 = .ok (.lstore_n 2, 1) := by decide +kernel
theorem dX0_mostOverdue_79 : decode cX0_mostOverdue 79 = .ok (.iinc 4 1, 3) := by decide +kernel
theorem dX0_mostOverdue_82 : decode cX0_mostOverdue 82 = .ok (.goto (-52), 3) := by decide +kernel
theorem dX0_mostOverdue_85 : decode cX0_mostOverdue 85 = .ok (.iload_n 1, 1) := by decide +kernel
theorem dX0_mostOverdue_86 : decode cX0_mostOverdue 86 = .ok (.ireturn, 1) := by decide +kernel
theorem dX0_drawBelowSum_0 : decode cX0_drawBelowSum 0 = .ok (.aload_n 0, 1) := by decide +kernel
theorem dX0_drawBelowSum_1 : decode cX0_drawBelowSum 1 = .ok (.getfield 22, 3) := by decide +kernel
theorem dX0_drawBelowSum_4 : decode cX0_drawBelowSum 4 = .ok (.ineg, 1) := by decide +kernel
theorem dX0_drawBelowSum_5 : decode cX0_drawBelowSum 5 = .ok (.i2l, 1) := by decide +kernel
theorem dX0_drawBelowSum_6 : decode cX0_drawBelowSum 6 = .ok (.aload_n 0, 1) := by decide +kernel
theorem dX0_drawBelowSum_7 : decode cX0_drawBelowSum 7 = .ok (.getfield 22, 3) := by decide +kernel
theorem dX0_drawBelowSum_10 : decode cX0_drawBelowSum 10 = .ok (.invokestatic 67, 3) := by decide +kernel
theorem dX0_drawBelowSum_13 : decode cX0_drawBelowSum 13 = .ok (.lstore_n 1, 1) := by decide +kernel
theorem dX0_drawBelowSum_14 : decode cX0_drawBelowSum 14 = .ok (.lconst 0, 1) := by decide +kernel
theorem dX0_drawBelowSum_15 : decode cX0_drawBelowSum 15 = .ok (.lstore_n 3, 1) := by decide +kernel
theorem dX0_drawBelowSum_16 : decode cX0_drawBelowSum 16 = .ok (.iconst 0, 1) := by decide +kernel
theorem dX0_drawBelowSum_17 : decode cX0_drawBelowSum 17 = .ok (.istore 5, 2) := by decide +kernel
theorem dX0_drawBelowSum_19 : decode cX0_drawBelowSum 19 = .ok (.iload 5, 2) := by decide +kernel
theorem dX0_drawBelowSum_21 : decode cX0_drawBelowSum 21 = .ok (.ifCond .ne 65, 3) := by decide +kernel
theorem dX0_drawBelowSum_24 : decode cX0_drawBelowSum 24 = .ok (.aload_n 0, 1) := by decide +kernel
theorem dX0_drawBelowSum_25 : decode cX0_drawBelowSum 25 = .ok (.getfield 48, 3) := by decide +kernel
theorem dX0_drawBelowSum_28 : decode cX0_drawBelowSum 28 = .ok (.ldc 71, 2) := by decide +kernel
theorem dX0_drawBelowSum_30 : decode cX0_drawBelowSum 30 = .ok (.if_icmp .ge 56, 3) := by decide +kernel
theorem dX0_drawBelowSum_33 : decode cX0_drawBelowSum 33 = .ok (.aload_n 0, 1) := by decide +kernel
theorem dX0_drawBelowSum_34 : decode cX0_drawBelowSum 34 = .ok (.dup, 1) := by decide +kernel
theorem dX0_drawBelowSum_35 : decode cX0_drawBelowSum 35 = .ok (.getfield 28, 3) := by decide +kernel
theorem dX0_drawBelowSum_38 : decode cX0_drawBelowSum 38 = .ok (.ldc2_w 72, 3) := by decide +kernel
theorem dX0_drawBelowSum_41 : decode cX0_drawBelowSum 41 = .ok (.ladd, 1) := by decide +kernel
theorem dX0_drawBelowSum_42 : decode cX0_drawBelowSum 42 = .ok (.putfield 28, 3) := by decide +kernel
theorem dX0_drawBelowSum_45 : decode cX0_drawBelowSum 45 = .ok (.aload_n 0, 1) := by decide +kernel
theorem dX0_drawBelowSum_46 : decode cX0_drawBelowSum 46 = .ok (.dup, 1) := by decide +kernel
theorem dX0_drawBelowSum_47 : decode cX0_drawBelowSum 47 = .ok (.getfield 48, 3) := by decide +kernel
theorem dX0_drawBelowSum_50 : decode cX0_drawBelowSum 50 = .ok (.iconst 1, 1) := by decide +kernel
theorem dX0_drawBelowSum_51 : decode cX0_drawBelowSum 51 = .ok (.iadd, 1) := by decide +kernel
theorem dX0_drawBelowSum_52 : decode cX0_drawBelowSum 52 = .ok (.putfield 48, 3) := by decide +kernel
theorem dX0_drawBelowSum_55 : decode cX0_drawBelowSum 55 = .ok (.aload_n 0, 1) := by decide +kernel
theorem dX0_drawBelowSum_56 : decode cX0_drawBelowSum 56 = .ok (.getfield 28, 3) := by decide +kernel
theorem dX0_drawBelowSum_59 : decode cX0_drawBelowSum 59 = .ok (.invokestatic 74, 3) := by decide +kernel
theorem dX0_drawBelowSum_62 : decode cX0_drawBelowSum 62 = .ok (.lstore_n 3, 1) := by decide +kernel
theorem dX0_drawBelowSum_63 : decode cX0_drawBelowSum 63 = .ok (.lload_n 3, 1) := by decide +kernel
theorem dX0_drawBelowSum_64 : decode cX0_drawBelowSum 64 = .ok (.lconst 0, 1) := by decide +kernel
theorem dX0_drawBelowSum_65 : decode cX0_drawBelowSum 65 = .ok (.lcmp, 1) := by decide +kernel
theorem dX0_drawBelowSum_66 : decode cX0_drawBelowSum 66 = .ok (.ifCond .ge 10, 3) := by decide +kernel
theorem dX0_drawBelowSum_69 : decode cX0_drawBelowSum 69 = .ok (.lload_n 3, 1) := by decide +kernel
theorem dX0_drawBelowSum_70 : decode cX0_drawBelowSum 70 = .ok (.lload_n 1, 1) := by decide +kernel
theorem dX0_drawBelowSum_71 : decode cX0_drawBelowSum 71 = .ok (.lneg, 1) := by decide +kernel
theorem dX0_drawBelowSum_72 : decode cX0_drawBelowSum 72 = .ok (.lcmp, 1) := by decide +kernel
theorem dX0_drawBelowSum_73 : decode cX0_drawBelowSum 73 = .ok (.ifCond .ge 7, 3) := by decide +kernel
theorem dX0_drawBelowSum_76 : decode cX0_drawBelowSum 76 = .ok (.iconst 1, 1) := by decide +kernel
theorem dX0_drawBelowSum_77 : decode cX0_drawBelowSum 77 = .ok (.goto 4, 3) := by decide +kernel
theorem dX0_drawBelowSum_80 : decode cX0_drawBelowSum 80 = .ok (.iconst 0, 1) := by decide +kernel
theorem dX0_drawBelowSum_81 : decode cX0_drawBelowSum 81 = .ok (.istore 5, 2) := by decide +kernel
theorem dX0_drawBelowSum_83 : decode cX0_drawBelowSum 83 = .ok (.goto (-64), 3) := by decide +kernel
theorem dX0_drawBelowSum_86 : decode cX0_drawBelowSum 86 = .ok (.lload_n 3, 1) := by decide +kernel
theorem dX0_drawBelowSum_87 : decode cX0_drawBelowSum 87 = .ok (.aload_n 0, 1) := by decide +kernel
theorem dX0_drawBelowSum_88 : decode cX0_drawBelowSum 88 = .ok (.getfield 22, 3) := by decide +kernel
theorem dX0_drawBelowSum_91 : decode cX0_drawBelowSum 91 = .ok (.invokestatic 67, 3) := by decide +kernel
theorem dX0_drawBelowSum_94 : decode cX0_drawBelowSum 94 = .ok (.lreturn, 1) := by decide +kernel
theorem dX0_remainderUnsigned_0 : decode cX0_remainderUnsigned 0 = .ok (.iload_n 2, 1) := by decide +kernel
theorem dX0_remainderUnsigned_1 : decode cX0_remainderUnsigned 1 = .ok (.ifCond .gt 5, 3) := by decide +kernel
theorem dX0_remainderUnsigned_4 : decode cX0_remainderUnsigned 4 = .ok (.lconst 0, 1) := by decide +kernel
theorem dX0_remainderUnsigned_5 : decode cX0_remainderUnsigned 5 = .ok (.lreturn, 1) := by decide +kernel
theorem dX0_remainderUnsigned_6 : decode cX0_remainderUnsigned 6 = .ok (.lload_n 0, 1) := by decide +kernel
theorem dX0_remainderUnsigned_7 : decode cX0_remainderUnsigned 7 = .ok (.iconst 1, 1) := by decide +kernel
theorem dX0_remainderUnsigned_8 : decode cX0_remainderUnsigned 8 = .ok (.lushr, 1) := by decide +kernel
theorem dX0_remainderUnsigned_9 : decode cX0_remainderUnsigned 9 = .ok (.iload_n 2, 1) := by decide +kernel
theorem dX0_remainderUnsigned_10 : decode cX0_remainderUnsigned 10 = .ok (.i2l, 1) := by decide +kernel
theorem dX0_remainderUnsigned_11 : decode cX0_remainderUnsigned 11 = .ok (.lrem, 1) := by decide +kernel
theorem dX0_remainderUnsigned_12 : decode cX0_remainderUnsigned 12 = .ok (.ldc2_w 78, 3) := by decide +kernel
theorem dX0_remainderUnsigned_15 : decode cX0_remainderUnsigned 15 = .ok (.lmul, 1) := by decide +kernel
theorem dX0_remainderUnsigned_16 : decode cX0_remainderUnsigned 16 = .ok (.lload_n 0, 1) := by decide +kernel
theorem dX0_remainderUnsigned_17 : decode cX0_remainderUnsigned 17 = .ok (.lconst 1, 1) := by decide +kernel
theorem dX0_remainderUnsigned_18 : decode cX0_remainderUnsigned 18 = .ok (.land, 1) := by decide +kernel
theorem dX0_remainderUnsigned_19 : decode cX0_remainderUnsigned 19 = .ok (.ladd, 1) := by decide +kernel
theorem dX0_remainderUnsigned_20 : decode cX0_remainderUnsigned 20 = .ok (.iload_n 2, 1) := by decide +kernel
theorem dX0_remainderUnsigned_21 : decode cX0_remainderUnsigned 21 = .ok (.i2l, 1) := by decide +kernel
theorem dX0_remainderUnsigned_22 : decode cX0_remainderUnsigned 22 = .ok (.lrem, 1) := by decide +kernel
theorem dX0_remainderUnsigned_23 : decode cX0_remainderUnsigned 23 = .ok (.lreturn, 1) := by decide +kernel
theorem dX0_holderOf_0 : decode cX0_holderOf 0 = .ok (.lconst 0, 1) := by decide +kernel
theorem dX0_holderOf_1 : decode cX0_holderOf 1 = .ok (.lstore_n 3, 1) := by decide +kernel
theorem dX0_holderOf_2 : decode cX0_holderOf 2 = .ok (.iconst 0, 1) := by decide +kernel
theorem dX0_holderOf_3 : decode cX0_holderOf 3 = .ok (.istore 5, 2) := by decide +kernel
theorem dX0_holderOf_5 : decode cX0_holderOf 5 = .ok (.iload 5, 2) := by decide +kernel
theorem dX0_holderOf_7 : decode cX0_holderOf 7 = .ok (.bipush 12, 2) := by decide +kernel
theorem dX0_holderOf_9 : decode cX0_holderOf 9 = .ok (.if_icmp .ge 29, 3) := by decide +kernel
theorem dX0_holderOf_12 : decode cX0_holderOf 12 = .ok (.lload_n 3, 1) := by decide +kernel
theorem dX0_holderOf_13 : decode cX0_holderOf 13 = .ok (.aload_n 0, 1) := by decide +kernel
theorem dX0_holderOf_14 : decode cX0_holderOf 14 = .ok (.getfield 9, 3) := by decide +kernel
theorem dX0_holderOf_17 : decode cX0_holderOf 17 = .ok (.iload 5, 2) := by decide +kernel
theorem dX0_holderOf_19 : decode cX0_holderOf 19 = .ok (.iaload, 1) := by decide +kernel
theorem dX0_holderOf_20 : decode cX0_holderOf 20 = .ok (.i2l, 1) := by decide +kernel
theorem dX0_holderOf_21 : decode cX0_holderOf 21 = .ok (.ladd, 1) := by decide +kernel
theorem dX0_holderOf_22 : decode cX0_holderOf 22 = .ok (.lstore_n 3, 1) := by decide +kernel
theorem dX0_holderOf_23 : decode cX0_holderOf 23 = .ok (.lload_n 3, 1) := by decide +kernel
theorem dX0_holderOf_24 : decode cX0_holderOf 24 = .ok (.lload_n 1, 1) := by decide +kernel
theorem dX0_holderOf_25 : decode cX0_holderOf 25 = .ok (.lcmp, 1) := by decide +kernel
theorem dX0_holderOf_26 : decode cX0_holderOf 26 = .ok (.ifCond .le 6, 3) := by decide +kernel
theorem dX0_holderOf_29 : decode cX0_holderOf 29 = .ok (.iload 5, 2) := by decide +kernel
theorem dX0_holderOf_31 : decode cX0_holderOf 31 = .ok (.ireturn, 1) := by decide +kernel
theorem dX0_holderOf_32 : decode cX0_holderOf 32 = .ok (.iinc 5 1, 3) := by decide +kernel
theorem dX0_holderOf_35 : decode cX0_holderOf 35 = .ok (.goto (-30), 3) := by decide +kernel
theorem dX0_holderOf_38 : decode cX0_holderOf 38 = .ok (.bipush (-2), 2) := by decide +kernel
theorem dX0_holderOf_40 : decode cX0_holderOf 40 = .ok (.ireturn, 1) := by decide +kernel
theorem dX0_passTurn_0 : decode cX0_passTurn 0 = .ok (.iconst 0, 1) := by decide +kernel
theorem dX0_passTurn_1 : decode cX0_passTurn 1 = .ok (.istore_n 2, 1) := by decide +kernel
theorem dX0_passTurn_2 : decode cX0_passTurn 2 = .ok (.iload_n 2, 1) := by decide +kernel
theorem dX0_passTurn_3 : decode cX0_passTurn 3 = .ok (.bipush 12, 2) := by decide +kernel
theorem dX0_passTurn_5 : decode cX0_passTurn 5 = .ok (.if_icmp .ge 41, 3) := by decide +kernel
theorem dX0_passTurn_8 : decode cX0_passTurn 8 = .ok (.aload_n 0, 1) := by decide +kernel
theorem dX0_passTurn_9 : decode cX0_passTurn 9 = .ok (.getfield 9, 3) := by decide +kernel
theorem dX0_passTurn_12 : decode cX0_passTurn 12 = .ok (.iload_n 2, 1) := by decide +kernel
theorem dX0_passTurn_13 : decode cX0_passTurn 13 = .ok (.iaload, 1) := by decide +kernel
theorem dX0_passTurn_14 : decode cX0_passTurn 14 = .ok (.ifCond .le 26, 3) := by decide +kernel
theorem dX0_passTurn_17 : decode cX0_passTurn 17 = .ok (.aload_n 0, 1) := by decide +kernel
theorem dX0_passTurn_18 : decode cX0_passTurn 18 = .ok (.getfield 15, 3) := by decide +kernel
theorem dX0_passTurn_21 : decode cX0_passTurn 21 = .ok (.iload_n 2, 1) := by decide +kernel
theorem dX0_passTurn_22 : decode cX0_passTurn 22 = .ok (.iload_n 2, 1) := by decide +kernel
theorem dX0_passTurn_23 : decode cX0_passTurn 23 = .ok (.iload_n 1, 1) := by decide +kernel
theorem dX0_passTurn_24 : decode cX0_passTurn 24 = .ok (.if_icmp .ne 7, 3) := by decide +kernel
theorem dX0_passTurn_27 : decode cX0_passTurn 27 = .ok (.iconst 0, 1) := by decide +kernel
theorem dX0_passTurn_28 : decode cX0_passTurn 28 = .ok (.goto 11, 3) := by decide +kernel
theorem dX0_passTurn_31 : decode cX0_passTurn 31 = .ok (.aload_n 0, 1) := by decide +kernel
theorem dX0_passTurn_32 : decode cX0_passTurn 32 = .ok (.getfield 15, 3) := by decide +kernel
theorem dX0_passTurn_35 : decode cX0_passTurn 35 = .ok (.iload_n 2, 1) := by decide +kernel
theorem dX0_passTurn_36 : decode cX0_passTurn 36 = .ok (.iaload, 1) := by decide +kernel
theorem dX0_passTurn_37 : decode cX0_passTurn 37 = .ok (.iconst 1, 1) := by decide +kernel
theorem dX0_passTurn_38 : decode cX0_passTurn 38 = .ok (.iadd, 1) := by decide +kernel
theorem dX0_passTurn_39 : decode cX0_passTurn 39 = .ok (.iastore, 1) := by decide +kernel
theorem dX0_passTurn_40 : decode cX0_passTurn 40 = .ok (.iinc 2 1, 3) := by decide +kernel
theorem dX0_passTurn_43 : decode cX0_passTurn 43 = .ok (.goto (-41), 3) := by decide +kernel
theorem dX0_passTurn_46 : decode cX0_passTurn 46 = .ok (.return_, 1) := by decide +kernel
theorem dX1_init_0 : decode cX1_init 0 = .ok (.aload_n 0, 1) := by decide +kernel
theorem dX1_init_1 : decode cX1_init 1 = .ok (.invokespecial 3, 3) := by decide +kernel
theorem dX1_init_4 : decode cX1_init 4 = .ok (.return_, 1) := by decide +kernel
theorem dX1_enterEpoch_0 : decode cX1_enterEpoch 0 = .ok (.aload_n 0, 1) := by decide +kernel
theorem dX1_enterEpoch_1 : decode cX1_enterEpoch 1 = .ok (.getfield 9, 3) := by decide +kernel
theorem dX1_enterEpoch_4 : decode cX1_enterEpoch 4 = .ok (.iload_n 1, 1) := by decide +kernel
theorem dX1_enterEpoch_5 : decode cX1_enterEpoch 5 = .ok (.if_icmp .ge 8, 3) := by decide +kernel
theorem dX1_enterEpoch_8 : decode cX1_enterEpoch 8 = .ok (.aload_n 0, 1) := by decide +kernel
theorem dX1_enterEpoch_9 : decode cX1_enterEpoch 9 = .ok (.iconst 0, 1) := by decide +kernel
theorem dX1_enterEpoch_10 : decode cX1_enterEpoch 10 = .ok (.putfield 9, 3) := by decide +kernel
theorem dX1_enterEpoch_13 : decode cX1_enterEpoch 13 = .ok (.aload_n 0, 1) := by decide +kernel
theorem dX1_enterEpoch_14 : decode cX1_enterEpoch 14 = .ok (.aload_n 0, 1) := by decide +kernel
theorem dX1_enterEpoch_15 : decode cX1_enterEpoch 15 = .ok (.getfield 9, 3) := by decide +kernel
theorem dX1_enterEpoch_18 : decode cX1_enterEpoch 18 = .ok (.ifCond .ne 23, 3) := by decide +kernel
theorem dX1_enterEpoch_21 : decode cX1_enterEpoch 21 = .ok (.aload_n 0, 1) := by decide +kernel
theorem dX1_enterEpoch_22 : decode cX1_enterEpoch 22 = .ok (.getfield 15, 3) := by decide +kernel
theorem dX1_enterEpoch_25 : decode cX1_enterEpoch 25 = .ok (.ifCond .le 16, 3) := by decide +kernel
theorem dX1_enterEpoch_28 : decode cX1_enterEpoch 28 = .ok (.aload_n 0, 1) := by decide +kernel
theorem dX1_enterEpoch_29 : decode cX1_enterEpoch 29 = .ok (.getfield 18, 3) := by decide +kernel
theorem dX1_enterEpoch_32 : decode cX1_enterEpoch 32 = .ok (.lconst 0, 1) := by decide +kernel
theorem dX1_enterEpoch_33 : decode cX1_enterEpoch 33 = .ok (.lcmp, 1) := by decide +kernel
theorem dX1_enterEpoch_34 : decode cX1_enterEpoch 34 = .ok (.ifCond .le 7, 3) := by decide +kernel
theorem dX1_enterEpoch_37 : decode cX1_enterEpoch 37 = .ok (.iconst 1, 1) := by decide +kernel
theorem dX1_enterEpoch_38 : decode cX1_enterEpoch 38 = .ok (.goto 4, 3) := by decide +kernel
theorem dX1_enterEpoch_41 : decode cX1_enterEpoch 41 = .ok (.iconst 0, 1) := by decide +kernel
theorem dX1_enterEpoch_42 : decode cX1_enterEpoch 42 = .ok (.putfield 22, 3) := by decide +kernel
theorem dX1_enterEpoch_45 : decode cX1_enterEpoch 45 = .ok (.return_, 1) := by decide +kernel
theorem dX1_leaveEpoch_0 : decode cX1_leaveEpoch 0 = .ok (.aload_n 0, 1) := by decide +kernel
theorem dX1_leaveEpoch_1 : decode cX1_leaveEpoch 1 = .ok (.iconst 0, 1) := by decide +kernel
theorem dX1_leaveEpoch_2 : decode cX1_leaveEpoch 2 = .ok (.putfield 22, 3) := by decide +kernel
theorem dX1_leaveEpoch_5 : decode cX1_leaveEpoch 5 = .ok (.aload_n 0, 1) := by decide +kernel
theorem dX1_leaveEpoch_6 : decode cX1_leaveEpoch 6 = .ok (.iconst 0, 1) := by decide +kernel
theorem dX1_leaveEpoch_7 : decode cX1_leaveEpoch 7 = .ok (.putfield 26, 3) := by decide +kernel
theorem dX1_leaveEpoch_10 : decode cX1_leaveEpoch 10 = .ok (.aload_n 0, 1) := by decide +kernel
theorem dX1_leaveEpoch_11 : decode cX1_leaveEpoch 11 = .ok (.iconst 0, 1) := by decide +kernel
theorem dX1_leaveEpoch_12 : decode cX1_leaveEpoch 12 = .ok (.putfield 29, 3) := by decide +kernel
theorem dX1_leaveEpoch_15 : decode cX1_leaveEpoch 15 = .ok (.return_, 1) := by decide +kernel
theorem dX1_withholds_0 : decode cX1_withholds 0 = .ok (.aload_n 0, 1) := by decide +kernel
theorem dX1_withholds_1 : decode cX1_withholds 1 = .ok (.getfield 26, 3) := by decide +kernel
theorem dX1_withholds_4 : decode cX1_withholds 4 = .ok (.ifCond .eq 14, 3) := by decide +kernel
theorem dX1_withholds_7 : decode cX1_withholds 7 = .ok (.aload_n 0, 1) := by decide +kernel
theorem dX1_withholds_8 : decode cX1_withholds 8 = .ok (.getfield 29, 3) := by decide +kernel
theorem dX1_withholds_11 : decode cX1_withholds 11 = .ok (.ifCond .ne 7, 3) := by decide +kernel
theorem dX1_withholds_14 : decode cX1_withholds 14 = .ok (.iconst 1, 1) := by decide +kernel
theorem dX1_withholds_15 : decode cX1_withholds 15 = .ok (.goto 4, 3) := by decide +kernel
theorem dX1_withholds_18 : decode cX1_withholds 18 = .ok (.iconst 0, 1) := by decide +kernel
theorem dX1_withholds_19 : decode cX1_withholds 19 = .ok (.ireturn, 1) := by decide +kernel
theorem dX1_fine_0 : decode cX1_fine 0 = .ok (.aload_n 0, 1) := by decide +kernel
theorem dX1_fine_1 : decode cX1_fine 1 = .ok (.getfield 18, 3) := by decide +kernel
theorem dX1_fine_4 : decode cX1_fine 4 = .ok (.iload_n 1, 1) := by decide +kernel
theorem dX1_fine_5 : decode cX1_fine 5 = .ok (.i2l, 1) := by decide +kernel
theorem dX1_fine_6 : decode cX1_fine 6 = .ok (.lmul, 1) := by decide +kernel
theorem dX1_fine_7 : decode cX1_fine 7 = .ok (.ldc2_w 32, 3) := by decide +kernel
theorem dX1_fine_10 : decode cX1_fine 10 = .ok (.ldiv, 1) := by decide +kernel
theorem dX1_fine_11 : decode cX1_fine 11 = .ok (.lstore_n 2, 1) := by decide +kernel
theorem dX1_fine_12 : decode cX1_fine 12 = .ok (.aload_n 0, 1) := by decide +kernel
theorem dX1_fine_13 : decode cX1_fine 13 = .ok (.dup, 1) := by decide +kernel
theorem dX1_fine_14 : decode cX1_fine 14 = .ok (.getfield 18, 3) := by decide +kernel
theorem dX1_fine_17 : decode cX1_fine 17 = .ok (.lload_n 2, 1) := by decide +kernel
theorem dX1_fine_18 : decode cX1_fine 18 = .ok (.lsub, 1) := by decide +kernel
theorem dX1_fine_19 : decode cX1_fine 19 = .ok (.putfield 18, 3) := by decide +kernel
theorem dX1_fine_22 : decode cX1_fine 22 = .ok (.lload_n 2, 1) := by decide +kernel
theorem dX1_fine_23 : decode cX1_fine 23 = .ok (.lreturn, 1) := by decide +kernel
theorem dX1_putAside_0 : decode cX1_putAside 0 = .ok (.aload_n 0, 1) := by decide +kernel
theorem dX1_putAside_1 : decode cX1_putAside 1 = .ok (.aload_n 0, 1) := by decide +kernel
theorem dX1_putAside_2 : decode cX1_putAside 2 = .ok (.getfield 9, 3) := by decide +kernel
theorem dX1_putAside_5 : decode cX1_putAside 5 = .ok (.iload_n 1, 1) := by decide +kernel
theorem dX1_putAside_6 : decode cX1_putAside 6 = .ok (.invokestatic 34, 3) := by decide +kernel
theorem dX1_putAside_9 : decode cX1_putAside 9 = .ok (.putfield 9, 3) := by decide +kernel
theorem dX1_putAside_12 : decode cX1_putAside 12 = .ok (.return_, 1) := by decide +kernel
theorem dX1_lead_0 : decode cX1_lead 0 = .ok (.aload_n 0, 1) := by decide +kernel
theorem dX1_lead_1 : decode cX1_lead 1 = .ok (.dup, 1) := by decide +kernel
theorem dX1_lead_2 : decode cX1_lead 2 = .ok (.getfield 40, 3) := by decide +kernel
theorem dX1_lead_5 : decode cX1_lead 5 = .ok (.iconst 1, 1) := by decide +kernel
theorem dX1_lead_6 : decode cX1_lead 6 = .ok (.iadd, 1) := by decide +kernel
theorem dX1_lead_7 : decode cX1_lead 7 = .ok (.putfield 40, 3) := by decide +kernel
theorem dX1_lead_10 : decode cX1_lead 10 = .ok (.aload_n 0, 1) := by decide +kernel
theorem dX1_lead_11 : decode cX1_lead 11 = .ok (.iconst 0, 1) := by decide +kernel
theorem dX1_lead_12 : decode cX1_lead 12 = .ok (.putfield 43, 3) := by decide +kernel
theorem dX1_lead_15 : decode cX1_lead 15 = .ok (.return_, 1) := by decide +kernel
theorem dX1_miss_0 : decode cX1_miss 0 = .ok (.aload_n 0, 1) := by decide +kernel
theorem dX1_miss_1 : decode cX1_miss 1 = .ok (.dup, 1) := by decide +kernel
theorem dX1_miss_2 : decode cX1_miss 2 = .ok (.getfield 46, 3) := by decide +kernel
theorem dX1_miss_5 : decode cX1_miss 5 = .ok (.iconst 1, 1) := by decide +kernel
theorem dX1_miss_6 : decode cX1_miss 6 = .ok (.iadd, 1) := by decide +kernel
theorem dX1_miss_7 : decode cX1_miss 7 = .ok (.putfield 46, 3) := by decide +kernel
theorem dX1_miss_10 : decode cX1_miss 10 = .ok (.aload_n 0, 1) := by decide +kernel
theorem dX1_miss_11 : decode cX1_miss 11 = .ok (.dup, 1) := by decide +kernel
theorem dX1_miss_12 : decode cX1_miss 12 = .ok (.getfield 43, 3) := by decide +kernel
theorem dX1_miss_15 : decode cX1_miss 15 = .ok (.iconst 1, 1) := by decide +kernel
theorem dX1_miss_16 : decode cX1_miss 16 = .ok (.iadd, 1) := by decide +kernel
theorem dX1_miss_17 : decode cX1_miss 17 = .ok (.putfield 43, 3) := by decide +kernel
theorem dX1_miss_20 : decode cX1_miss 20 = .ok (.aload_n 0, 1) := by decide +kernel
theorem dX1_miss_21 : decode cX1_miss 21 = .ok (.getfield 43, 3) := by decide +kernel
theorem dX1_miss_24 : decode cX1_miss 24 = .ok (.iload_n 1, 1) := by decide +kernel
theorem dX1_miss_25 : decode cX1_miss 25 = .ok (.if_icmp .lt 13, 3) := by decide +kernel
theorem dX1_miss_28 : decode cX1_miss 28 = .ok (.aload_n 0, 1) := by decide +kernel
theorem dX1_miss_29 : decode cX1_miss 29 = .ok (.iload_n 2, 1) := by decide +kernel
theorem dX1_miss_30 : decode cX1_miss 30 = .ok (.invokevirtual 49, 3) := by decide +kernel
theorem dX1_miss_33 : decode cX1_miss 33 = .ok (.aload_n 0, 1) := by decide +kernel
theorem dX1_miss_34 : decode cX1_miss 34 = .ok (.iconst 0, 1) := by decide +kernel
theorem dX1_miss_35 : decode cX1_miss 35 = .ok (.putfield 43, 3) := by decide +kernel
theorem dX1_miss_38 : decode cX1_miss 38 = .ok (.return_, 1) := by decide +kernel
theorem dX1_tell_0 : decode cX1_tell 0 = .ok (.iload_n 1, 1) := by decide +kernel
theorem dX1_tell_1 : decode cX1_tell 1 = .ok (.tableswitch 120 0 8 #[51, 56, 61, 66, 71, 76, 89, 102, 115], 51) := by decide +kernel
theorem dX1_tell_52 : decode cX1_tell 52 = .ok (.aload_n 0, 1) := by decide +kernel
theorem dX1_tell_53 : decode cX1_tell 53 = .ok (.getfield 15, 3) := by decide +kernel
theorem dX1_tell_56 : decode cX1_tell 56 = .ok (.ireturn, 1) := by decide +kernel
theorem dX1_tell_57 : decode cX1_tell 57 = .ok (.aload_n 0, 1) := by decide +kernel
theorem dX1_tell_58 : decode cX1_tell 58 = .ok (.getfield 53, 3) := by decide +kernel
theorem dX1_tell_61 : decode cX1_tell 61 = .ok (.ireturn, 1) := by decide +kernel
theorem dX1_tell_62 : decode cX1_tell 62 = .ok (.aload_n 0, 1) := by decide +kernel
theorem dX1_tell_63 : decode cX1_tell 63 = .ok (.getfield 40, 3) := by decide +kernel
theorem dX1_tell_66 : decode cX1_tell 66 = .ok (.ireturn, 1) := by decide +kernel
theorem dX1_tell_67 : decode cX1_tell 67 = .ok (.aload_n 0, 1) := by decide +kernel
theorem dX1_tell_68 : decode cX1_tell 68 = .ok (.getfield 46, 3) := by decide +kernel
theorem dX1_tell_71 : decode cX1_tell 71 = .ok (.ireturn, 1) := by decide +kernel
theorem dX1_tell_72 : decode cX1_tell 72 = .ok (.aload_n 0, 1) := by decide +kernel
theorem dX1_tell_73 : decode cX1_tell 73 = .ok (.getfield 9, 3) := by decide +kernel
theorem dX1_tell_76 : decode cX1_tell 76 = .ok (.ireturn, 1) := by decide +kernel
theorem dX1_tell_77 : decode cX1_tell 77 = .ok (.aload_n 0, 1) := by decide +kernel
theorem dX1_tell_78 : decode cX1_tell 78 = .ok (.getfield 22, 3) := by decide +kernel
theorem dX1_tell_81 : decode cX1_tell 81 = .ok (.ifCond .eq 7, 3) := by decide +kernel
theorem dX1_tell_84 : decode cX1_tell 84 = .ok (.iconst 1, 1) := by decide +kernel
theorem dX1_tell_85 : decode cX1_tell 85 = .ok (.goto 4, 3) := by decide +kernel
theorem dX1_tell_88 : decode cX1_tell 88 = .ok (.iconst 0, 1) := by decide +kernel
theorem dX1_tell_89 : decode cX1_tell 89 = .ok (.ireturn, 1) := by decide +kernel
theorem dX1_tell_90 : decode cX1_tell 90 = .ok (.aload_n 0, 1) := by decide +kernel
theorem dX1_tell_91 : decode cX1_tell 91 = .ok (.getfield 26, 3) := by decide +kernel
theorem dX1_tell_94 : decode cX1_tell 94 = .ok (.ifCond .eq 7, 3) := by decide +kernel
theorem dX1_tell_97 : decode cX1_tell 97 = .ok (.iconst 1, 1) := by decide +kernel
theorem dX1_tell_98 : decode cX1_tell 98 = .ok (.goto 4, 3) := by decide +kernel
theorem dX1_tell_101 : decode cX1_tell 101 = .ok (.iconst 0, 1) := by decide +kernel
theorem dX1_tell_102 : decode cX1_tell 102 = .ok (.ireturn, 1) := by decide +kernel
theorem dX1_tell_103 : decode cX1_tell 103 = .ok (.aload_n 0, 1) := by decide +kernel
theorem dX1_tell_104 : decode cX1_tell 104 = .ok (.getfield 29, 3) := by decide +kernel
theorem dX1_tell_107 : decode cX1_tell 107 = .ok (.ifCond .eq 7, 3) := by decide +kernel
theorem dX1_tell_110 : decode cX1_tell 110 = .ok (.iconst 1, 1) := by decide +kernel
theorem dX1_tell_111 : decode cX1_tell 111 = .ok (.goto 4, 3) := by decide +kernel
theorem dX1_tell_114 : decode cX1_tell 114 = .ok (.iconst 0, 1) := by decide +kernel
theorem dX1_tell_115 : decode cX1_tell 115 = .ok (.ireturn, 1) := by decide +kernel
theorem dX1_tell_116 : decode cX1_tell 116 = .ok (.aload_n 0, 1) := by decide +kernel
theorem dX1_tell_117 : decode cX1_tell 117 = .ok (.getfield 43, 3) := by decide +kernel
theorem dX1_tell_120 : decode cX1_tell 120 = .ok (.ireturn, 1) := by decide +kernel
theorem dX1_tell_121 : decode cX1_tell 121 = .ok (.iconst (-1), 1) := by decide +kernel
theorem dX1_tell_122 : decode cX1_tell 122 = .ok (.ireturn, 1) := by decide +kernel
theorem dX2_init_0 : decode cX2_init 0 = .ok (.aload_n 0, 1) := by decide +kernel
theorem dX2_init_1 : decode cX2_init 1 = .ok (.invokespecial 3, 3) := by decide +kernel
theorem dX2_init_4 : decode cX2_init 4 = .ok (.aload_n 0, 1) := by decide +kernel
theorem dX2_init_5 : decode cX2_init 5 = .ok (.bipush 60, 2) := by decide +kernel
theorem dX2_init_7 : decode cX2_init 7 = .ok (.newarray .int, 2) := by decide +kernel
theorem dX2_init_9 : decode cX2_init 9 = .ok (.putfield 9, 3) := by decide +kernel
theorem dX2_init_12 : decode cX2_init 12 = .ok (.aload_n 0, 1) := by decide +kernel
theorem dX2_init_13 : decode cX2_init 13 = .ok (.bipush 60, 2) := by decide +kernel
theorem dX2_init_15 : decode cX2_init 15 = .ok (.newarray .int, 2) := by decide +kernel
theorem dX2_init_17 : decode cX2_init 17 = .ok (.putfield 15, 3) := by decide +kernel
theorem dX2_init_20 : decode cX2_init 20 = .ok (.return_, 1) := by decide +kernel
theorem dX2_clear_0 : decode cX2_clear 0 = .ok (.aload_n 0, 1) := by decide +kernel
theorem dX2_clear_1 : decode cX2_clear 1 = .ok (.iconst 0, 1) := by decide +kernel
theorem dX2_clear_2 : decode cX2_clear 2 = .ok (.putfield 18, 3) := by decide +kernel
theorem dX2_clear_5 : decode cX2_clear 5 = .ok (.aload_n 0, 1) := by decide +kernel
theorem dX2_clear_6 : decode cX2_clear 6 = .ok (.iload_n 1, 1) := by decide +kernel
theorem dX2_clear_7 : decode cX2_clear 7 = .ok (.putfield 22, 3) := by decide +kernel
theorem dX2_clear_10 : decode cX2_clear 10 = .ok (.return_, 1) := by decide +kernel
theorem dX2_append_0 : decode cX2_append 0 = .ok (.aload_n 0, 1) := by decide +kernel
theorem dX2_append_1 : decode cX2_append 1 = .ok (.getfield 18, 3) := by decide +kernel
theorem dX2_append_4 : decode cX2_append 4 = .ok (.bipush 60, 2) := by decide +kernel
theorem dX2_append_6 : decode cX2_append 6 = .ok (.if_icmp .ge 33, 3) := by decide +kernel
theorem dX2_append_9 : decode cX2_append 9 = .ok (.aload_n 0, 1) := by decide +kernel
theorem dX2_append_10 : decode cX2_append 10 = .ok (.getfield 9, 3) := by decide +kernel
theorem dX2_append_13 : decode cX2_append 13 = .ok (.aload_n 0, 1) := by decide +kernel
theorem dX2_append_14 : decode cX2_append 14 = .ok (.getfield 18, 3) := by decide +kernel
theorem dX2_append_17 : decode cX2_append 17 = .ok (.iload_n 1, 1) := by decide +kernel
theorem dX2_append_18 : decode cX2_append 18 = .ok (.iastore, 1) := by decide +kernel
theorem dX2_append_19 : decode cX2_append 19 = .ok (.aload_n 0, 1) := by decide +kernel
theorem dX2_append_20 : decode cX2_append 20 = .ok (.getfield 15, 3) := by decide +kernel
theorem dX2_append_23 : decode cX2_append 23 = .ok (.aload_n 0, 1) := by decide +kernel
theorem dX2_append_24 : decode cX2_append 24 = .ok (.getfield 18, 3) := by decide +kernel
theorem dX2_append_27 : decode cX2_append 27 = .ok (.iload_n 2, 1) := by decide +kernel
theorem dX2_append_28 : decode cX2_append 28 = .ok (.iastore, 1) := by decide +kernel
theorem dX2_append_29 : decode cX2_append 29 = .ok (.aload_n 0, 1) := by decide +kernel
theorem dX2_append_30 : decode cX2_append 30 = .ok (.dup, 1) := by decide +kernel
theorem dX2_append_31 : decode cX2_append 31 = .ok (.getfield 18, 3) := by decide +kernel
theorem dX2_append_34 : decode cX2_append 34 = .ok (.iconst 1, 1) := by decide +kernel
theorem dX2_append_35 : decode cX2_append 35 = .ok (.iadd, 1) := by decide +kernel
theorem dX2_append_36 : decode cX2_append 36 = .ok (.putfield 18, 3) := by decide +kernel
theorem dX2_append_39 : decode cX2_append 39 = .ok (.return_, 1) := by decide +kernel
theorem dX2_has_0 : decode cX2_has 0 = .ok (.iload_n 1, 1) := by decide +kernel
theorem dX2_has_1 : decode cX2_has 1 = .ok (.ifCond .lt 15, 3) := by decide +kernel
theorem dX2_has_4 : decode cX2_has 4 = .ok (.iload_n 1, 1) := by decide +kernel
theorem dX2_has_5 : decode cX2_has 5 = .ok (.aload_n 0, 1) := by decide +kernel
theorem dX2_has_6 : decode cX2_has 6 = .ok (.getfield 18, 3) := by decide +kernel
theorem dX2_has_9 : decode cX2_has 9 = .ok (.if_icmp .ge 7, 3) := by decide +kernel
theorem dX2_has_12 : decode cX2_has 12 = .ok (.iconst 1, 1) := by decide +kernel
theorem dX2_has_13 : decode cX2_has 13 = .ok (.goto 4, 3) := by decide +kernel
theorem dX2_has_16 : decode cX2_has 16 = .ok (.iconst 0, 1) := by decide +kernel
theorem dX2_has_17 : decode cX2_has 17 = .ok (.ireturn, 1) := by decide +kernel
theorem dX2_leaderOf_0 : decode cX2_leaderOf 0 = .ok (.aload_n 0, 1) := by decide +kernel
theorem dX2_leaderOf_1 : decode cX2_leaderOf 1 = .ok (.iload_n 1, 1) := by decide +kernel
theorem dX2_leaderOf_2 : decode cX2_leaderOf 2 = .ok (.invokevirtual 25, 3) := by decide +kernel
theorem dX2_leaderOf_5 : decode cX2_leaderOf 5 = .ok (.ifCond .eq 12, 3) := by decide +kernel
theorem dX2_leaderOf_8 : decode cX2_leaderOf 8 = .ok (.aload_n 0, 1) := by decide +kernel
theorem dX2_leaderOf_9 : decode cX2_leaderOf 9 = .ok (.getfield 9, 3) := by decide +kernel
theorem dX2_leaderOf_12 : decode cX2_leaderOf 12 = .ok (.iload_n 1, 1) := by decide +kernel
theorem dX2_leaderOf_13 : decode cX2_leaderOf 13 = .ok (.iaload, 1) := by decide +kernel
theorem dX2_leaderOf_14 : decode cX2_leaderOf 14 = .ok (.goto 5, 3) := by decide +kernel
theorem dX2_leaderOf_17 : decode cX2_leaderOf 17 = .ok (.bipush (-2), 2) := by decide +kernel
theorem dX2_leaderOf_19 : decode cX2_leaderOf 19 = .ok (.ireturn, 1) := by decide +kernel
theorem dX2_numbersOf_0 : decode cX2_numbersOf 0 = .ok (.aload_n 0, 1) := by decide +kernel
theorem dX2_numbersOf_1 : decode cX2_numbersOf 1 = .ok (.iload_n 1, 1) := by decide +kernel
theorem dX2_numbersOf_2 : decode cX2_numbersOf 2 = .ok (.invokevirtual 25, 3) := by decide +kernel
theorem dX2_numbersOf_5 : decode cX2_numbersOf 5 = .ok (.ifCond .eq 12, 3) := by decide +kernel
theorem dX2_numbersOf_8 : decode cX2_numbersOf 8 = .ok (.aload_n 0, 1) := by decide +kernel
theorem dX2_numbersOf_9 : decode cX2_numbersOf 9 = .ok (.getfield 15, 3) := by decide +kernel
theorem dX2_numbersOf_12 : decode cX2_numbersOf 12 = .ok (.iload_n 1, 1) := by decide +kernel
theorem dX2_numbersOf_13 : decode cX2_numbersOf 13 = .ok (.iaload, 1) := by decide +kernel
theorem dX2_numbersOf_14 : decode cX2_numbersOf 14 = .ok (.goto 5, 3) := by decide +kernel
theorem dX2_numbersOf_17 : decode cX2_numbersOf 17 = .ok (.bipush (-2), 2) := by decide +kernel
theorem dX2_numbersOf_19 : decode cX2_numbersOf 19 = .ok (.ireturn, 1) := by decide +kernel
theorem dX3_init_0 : decode cX3_init 0 = .ok (.aload_n 0, 1) := by decide +kernel
theorem dX3_init_1 : decode cX3_init 1 = .ok (.invokespecial 1, 3) := by decide +kernel
theorem dX3_init_4 : decode cX3_init 4 = .ok (.aload_n 0, 1) := by decide +kernel
theorem dX3_init_5 : decode cX3_init 5 = .ok (.bipush 12, 2) := by decide +kernel
theorem dX3_init_7 : decode cX3_init 7 = .ok (.anewarray 9, 3) := by decide +kernel
theorem dX3_init_10 : decode cX3_init 10 = .ok (.putfield 11, 3) := by decide +kernel
theorem dX3_init_13 : decode cX3_init 13 = .ok (.iconst 0, 1) := by decide +kernel
theorem dX3_init_14 : decode cX3_init 14 = .ok (.istore_n 1, 1) := by decide +kernel
theorem dX3_init_15 : decode cX3_init 15 = .ok (.iload_n 1, 1) := by decide +kernel
theorem dX3_init_16 : decode cX3_init 16 = .ok (.bipush 12, 2) := by decide +kernel
theorem dX3_init_18 : decode cX3_init 18 = .ok (.if_icmp .ge 22, 3) := by decide +kernel
theorem dX3_init_21 : decode cX3_init 21 = .ok (.aload_n 0, 1) := by decide +kernel
theorem dX3_init_22 : decode cX3_init 22 = .ok (.getfield 11, 3) := by decide +kernel
theorem dX3_init_25 : decode cX3_init 25 = .ok (.iload_n 1, 1) := by decide +kernel
theorem dX3_init_26 : decode cX3_init 26 = .ok (.new 9, 3) := by decide +kernel
theorem dX3_init_29 : decode cX3_init 29 = .ok (.dup, 1) := by decide +kernel
theorem dX3_init_30 : decode cX3_init 30 = .ok (.invokespecial 15, 3) := by decide +kernel
theorem dX3_init_33 : decode cX3_init 33 = .ok (.aastore, 1) := by decide +kernel
theorem dX3_init_34 : decode cX3_init 34 = .ok (.iinc 1 1, 3) := by decide +kernel
theorem dX3_init_37 : decode cX3_init 37 = .ok (.goto (-22), 3) := by decide +kernel
theorem dX3_init_40 : decode cX3_init 40 = .ok (.aload_n 0, 1) := by decide +kernel
theorem dX3_init_41 : decode cX3_init 41 = .ok (.iconst 4, 1) := by decide +kernel
theorem dX3_init_42 : decode cX3_init 42 = .ok (.newarray .int, 2) := by decide +kernel
theorem dX3_init_44 : decode cX3_init 44 = .ok (.dup, 1) := by decide +kernel
theorem dX3_init_45 : decode cX3_init 45 = .ok (.iconst 0, 1) := by decide +kernel
theorem dX3_init_46 : decode cX3_init 46 = .ok (.iconst 3, 1) := by decide +kernel
theorem dX3_init_47 : decode cX3_init 47 = .ok (.iastore, 1) := by decide +kernel
theorem dX3_init_48 : decode cX3_init 48 = .ok (.dup, 1) := by decide +kernel
theorem dX3_init_49 : decode cX3_init 49 = .ok (.iconst 1, 1) := by decide +kernel
theorem dX3_init_50 : decode cX3_init 50 = .ok (.bipush 10, 2) := by decide +kernel
theorem dX3_init_52 : decode cX3_init 52 = .ok (.iastore, 1) := by decide +kernel
theorem dX3_init_53 : decode cX3_init 53 = .ok (.dup, 1) := by decide +kernel
theorem dX3_init_54 : decode cX3_init 54 = .ok (.iconst 2, 1) := by decide +kernel
theorem dX3_init_55 : decode cX3_init 55 = .ok (.iconst 2, 1) := by decide +kernel
theorem dX3_init_56 : decode cX3_init 56 = .ok (.iastore, 1) := by decide +kernel
theorem dX3_init_57 : decode cX3_init 57 = .ok (.dup, 1) := by decide +kernel
theorem dX3_init_58 : decode cX3_init 58 = .ok (.iconst 3, 1) := by decide +kernel
theorem dX3_init_59 : decode cX3_init 59 = .ok (.iconst 3, 1) := by decide +kernel
theorem dX3_init_60 : decode cX3_init 60 = .ok (.iastore, 1) := by decide +kernel
theorem dX3_init_61 : decode cX3_init 61 = .ok (.putfield 16, 3) := by decide +kernel
theorem dX3_init_64 : decode cX3_init 64 = .ok (.aload_n 0, 1) := by decide +kernel
theorem dX3_init_65 : decode cX3_init 65 = .ok (.new 20, 3) := by decide +kernel
theorem dX3_init_68 : decode cX3_init 68 = .ok (.dup, 1) := by decide +kernel
theorem dX3_init_69 : decode cX3_init 69 = .ok (.invokespecial 22, 3) := by decide +kernel
theorem dX3_init_72 : decode cX3_init 72 = .ok (.putfield 23, 3) := by decide +kernel
theorem dX3_init_75 : decode cX3_init 75 = .ok (.aload_n 0, 1) := by decide +kernel
theorem dX3_init_76 : decode cX3_init 76 = .ok (.new 27, 3) := by decide +kernel
theorem dX3_init_79 : decode cX3_init 79 = .ok (.dup, 1) := by decide +kernel
theorem dX3_init_80 : decode cX3_init 80 = .ok (.invokespecial 29, 3) := by decide +kernel
theorem dX3_init_83 : decode cX3_init 83 = .ok (.putfield 30, 3) := by decide +kernel
theorem dX3_init_86 : decode cX3_init 86 = .ok (.aload_n 0, 1) := by decide +kernel
theorem dX3_init_87 : decode cX3_init 87 = .ok (.bipush 60, 2) := by decide +kernel
theorem dX3_init_89 : decode cX3_init 89 = .ok (.newarray .int, 2) := by decide +kernel
theorem dX3_init_91 : decode cX3_init 91 = .ok (.putfield 34, 3) := by decide +kernel
theorem dX3_init_94 : decode cX3_init 94 = .ok (.return_, 1) := by decide +kernel
theorem dX3_weight_0 : decode cX3_weight 0 = .ok (.iload_n 1, 1) := by decide +kernel
theorem dX3_weight_1 : decode cX3_weight 1 = .ok (.invokestatic 37, 3) := by decide +kernel
theorem dX3_weight_4 : decode cX3_weight 4 = .ok (.ifCond .eq 14, 3) := by decide +kernel
theorem dX3_weight_7 : decode cX3_weight 7 = .ok (.iload_n 2, 1) := by decide +kernel
theorem dX3_weight_8 : decode cX3_weight 8 = .ok (.ifCond .lt 10, 3) := by decide +kernel
theorem dX3_weight_11 : decode cX3_weight 11 = .ok (.iload_n 2, 1) := by decide +kernel
theorem dX3_weight_12 : decode cX3_weight 12 = .ok (.sipush 1000, 3) := by decide +kernel
theorem dX3_weight_15 : decode cX3_weight 15 = .ok (.if_icmp .le 5, 3) := by decide +kernel
theorem dX3_weight_18 : decode cX3_weight 18 = .ok (.iconst (-1), 1) := by decide +kernel
theorem dX3_weight_19 : decode cX3_weight 19 = .ok (.ireturn, 1) := by decide +kernel
theorem dX3_weight_20 : decode cX3_weight 20 = .ok (.aload_n 0, 1) := by decide +kernel
theorem dX3_weight_21 : decode cX3_weight 21 = .ok (.getfield 41, 3) := by decide +kernel
theorem dX3_weight_24 : decode cX3_weight 24 = .ok (.ifCond .eq 6, 3) := by decide +kernel
theorem dX3_weight_27 : decode cX3_weight 27 = .ok (.bipush (-3), 2) := by decide +kernel
theorem dX3_weight_29 : decode cX3_weight 29 = .ok (.ireturn, 1) := by decide +kernel
theorem dX3_weight_30 : decode cX3_weight 30 = .ok (.aload_n 0, 1) := by decide +kernel
theorem dX3_weight_31 : decode cX3_weight 31 = .ok (.getfield 11, 3) := by decide +kernel
theorem dX3_weight_34 : decode cX3_weight 34 = .ok (.iload_n 1, 1) := by decide +kernel
theorem dX3_weight_35 : decode cX3_weight 35 = .ok (.aaload, 1) := by decide +kernel
theorem dX3_weight_36 : decode cX3_weight 36 = .ok (.getfield 45, 3) := by decide +kernel
theorem dX3_weight_39 : decode cX3_weight 39 = .ok (.istore_n 3, 1) := by decide +kernel
theorem dX3_weight_40 : decode cX3_weight 40 = .ok (.aload_n 0, 1) := by decide +kernel
theorem dX3_weight_41 : decode cX3_weight 41 = .ok (.getfield 11, 3) := by decide +kernel
theorem dX3_weight_44 : decode cX3_weight 44 = .ok (.iload_n 1, 1) := by decide +kernel
theorem dX3_weight_45 : decode cX3_weight 45 = .ok (.aaload, 1) := by decide +kernel
theorem dX3_weight_46 : decode cX3_weight 46 = .ok (.iload_n 2, 1) := by decide +kernel
theorem dX3_weight_47 : decode cX3_weight 47 = .ok (.putfield 45, 3) := by decide +kernel
theorem dX3_weight_50 : decode cX3_weight 50 = .ok (.iload_n 3, 1) := by decide +kernel
theorem dX3_weight_51 : decode cX3_weight 51 = .ok (.ireturn, 1) := by decide +kernel
theorem dX3_deposit_0 : decode cX3_deposit 0 = .ok (.iload_n 1, 1) := by decide +kernel
theorem dX3_deposit_1 : decode cX3_deposit 1 = .ok (.invokestatic 37, 3) := by decide +kernel
theorem dX3_deposit_4 : decode cX3_deposit 4 = .ok (.ifCond .ne 7, 3) := by decide +kernel
theorem dX3_deposit_7 : decode cX3_deposit 7 = .ok (.ldc2_w 48, 3) := by decide +kernel
theorem dX3_deposit_10 : decode cX3_deposit 10 = .ok (.lreturn, 1) := by decide +kernel
theorem dX3_deposit_11 : decode cX3_deposit 11 = .ok (.aload_n 0, 1) := by decide +kernel
theorem dX3_deposit_12 : decode cX3_deposit 12 = .ok (.getfield 11, 3) := by decide +kernel
theorem dX3_deposit_15 : decode cX3_deposit 15 = .ok (.iload_n 1, 1) := by decide +kernel
theorem dX3_deposit_16 : decode cX3_deposit 16 = .ok (.aaload, 1) := by decide +kernel
theorem dX3_deposit_17 : decode cX3_deposit 17 = .ok (.getfield 50, 3) := by decide +kernel
theorem dX3_deposit_20 : decode cX3_deposit 20 = .ok (.lstore 4, 2) := by decide +kernel
theorem dX3_deposit_22 : decode cX3_deposit 22 = .ok (.lload_n 2, 1) := by decide +kernel
theorem dX3_deposit_23 : decode cX3_deposit 23 = .ok (.lload 4, 2) := by decide +kernel
theorem dX3_deposit_25 : decode cX3_deposit 25 = .ok (.lneg, 1) := by decide +kernel
theorem dX3_deposit_26 : decode cX3_deposit 26 = .ok (.lcmp, 1) := by decide +kernel
theorem dX3_deposit_27 : decode cX3_deposit 27 = .ok (.ifCond .lt 14, 3) := by decide +kernel
theorem dX3_deposit_30 : decode cX3_deposit 30 = .ok (.lload_n 2, 1) := by decide +kernel
theorem dX3_deposit_31 : decode cX3_deposit 31 = .ok (.ldc2_w 54, 3) := by decide +kernel
theorem dX3_deposit_34 : decode cX3_deposit 34 = .ok (.lload 4, 2) := by decide +kernel
theorem dX3_deposit_36 : decode cX3_deposit 36 = .ok (.lsub, 1) := by decide +kernel
theorem dX3_deposit_37 : decode cX3_deposit 37 = .ok (.lcmp, 1) := by decide +kernel
theorem dX3_deposit_38 : decode cX3_deposit 38 = .ok (.ifCond .le 7, 3) := by decide +kernel
theorem dX3_deposit_41 : decode cX3_deposit 41 = .ok (.ldc2_w 48, 3) := by decide +kernel
theorem dX3_deposit_44 : decode cX3_deposit 44 = .ok (.lreturn, 1) := by decide +kernel
theorem dX3_deposit_45 : decode cX3_deposit 45 = .ok (.aload_n 0, 1) := by decide +kernel
theorem dX3_deposit_46 : decode cX3_deposit 46 = .ok (.getfield 41, 3) := by decide +kernel
theorem dX3_deposit_49 : decode cX3_deposit 49 = .ok (.ifCond .eq 7, 3) := by decide +kernel
theorem dX3_deposit_52 : decode cX3_deposit 52 = .ok (.ldc2_w 56, 3) := by decide +kernel
theorem dX3_deposit_55 : decode cX3_deposit 55 = .ok (.lreturn, 1) := by decide +kernel
theorem dX3_deposit_56 : decode cX3_deposit 56 = .ok (.aload_n 0, 1) := by decide +kernel
theorem dX3_deposit_57 : decode cX3_deposit 57 = .ok (.getfield 11, 3) := by decide +kernel
theorem dX3_deposit_60 : decode cX3_deposit 60 = .ok (.iload_n 1, 1) := by decide +kernel
theorem dX3_deposit_61 : decode cX3_deposit 61 = .ok (.aaload, 1) := by decide +kernel
theorem dX3_deposit_62 : decode cX3_deposit 62 = .ok (.lload 4, 2) := by decide +kernel
theorem dX3_deposit_64 : decode cX3_deposit 64 = .ok (.lload_n 2, 1) := by decide +kernel
theorem dX3_deposit_65 : decode cX3_deposit 65 = .ok (.ladd, 1) := by decide +kernel
theorem dX3_deposit_66 : decode cX3_deposit 66 = .ok (.putfield 50, 3) := by decide +kernel
theorem dX3_deposit_69 : decode cX3_deposit 69 = .ok (.lload 4, 2) := by decide +kernel
theorem dX3_deposit_71 : decode cX3_deposit 71 = .ok (.lload_n 2, 1) := by decide +kernel
theorem dX3_deposit_72 : decode cX3_deposit 72 = .ok (.ladd, 1) := by decide +kernel
theorem dX3_deposit_73 : decode cX3_deposit 73 = .ok (.lreturn, 1) := by decide +kernel
theorem dX3_term_0 : decode cX3_term 0 = .ok (.iload_n 1, 1) := by decide +kernel
theorem dX3_term_1 : decode cX3_term 1 = .ok (.ifCond .lt 26, 3) := by decide +kernel
theorem dX3_term_4 : decode cX3_term 4 = .ok (.iload_n 1, 1) := by decide +kernel
theorem dX3_term_5 : decode cX3_term 5 = .ok (.iconst 4, 1) := by decide +kernel
theorem dX3_term_6 : decode cX3_term 6 = .ok (.if_icmp .ge 21, 3) := by decide +kernel
theorem dX3_term_9 : decode cX3_term 9 = .ok (.iload_n 2, 1) := by decide +kernel
theorem dX3_term_10 : decode cX3_term 10 = .ok (.getstatic 58, 3) := by decide +kernel
theorem dX3_term_13 : decode cX3_term 13 = .ok (.iload_n 1, 1) := by decide +kernel
theorem dX3_term_14 : decode cX3_term 14 = .ok (.iaload, 1) := by decide +kernel
theorem dX3_term_15 : decode cX3_term 15 = .ok (.if_icmp .lt 12, 3) := by decide +kernel
theorem dX3_term_18 : decode cX3_term 18 = .ok (.iload_n 2, 1) := by decide +kernel
theorem dX3_term_19 : decode cX3_term 19 = .ok (.getstatic 61, 3) := by decide +kernel
theorem dX3_term_22 : decode cX3_term 22 = .ok (.iload_n 1, 1) := by decide +kernel
theorem dX3_term_23 : decode cX3_term 23 = .ok (.iaload, 1) := by decide +kernel
theorem dX3_term_24 : decode cX3_term 24 = .ok (.if_icmp .le 5, 3) := by decide +kernel
theorem dX3_term_27 : decode cX3_term 27 = .ok (.iconst (-1), 1) := by decide +kernel
theorem dX3_term_28 : decode cX3_term 28 = .ok (.ireturn, 1) := by decide +kernel
theorem dX3_term_29 : decode cX3_term 29 = .ok (.aload_n 0, 1) := by decide +kernel
theorem dX3_term_30 : decode cX3_term 30 = .ok (.getfield 41, 3) := by decide +kernel
theorem dX3_term_33 : decode cX3_term 33 = .ok (.ifCond .eq 6, 3) := by decide +kernel
theorem dX3_term_36 : decode cX3_term 36 = .ok (.bipush (-3), 2) := by decide +kernel
theorem dX3_term_38 : decode cX3_term 38 = .ok (.ireturn, 1) := by decide +kernel
theorem dX3_term_39 : decode cX3_term 39 = .ok (.aload_n 0, 1) := by decide +kernel
theorem dX3_term_40 : decode cX3_term 40 = .ok (.getfield 16, 3) := by decide +kernel
theorem dX3_term_43 : decode cX3_term 43 = .ok (.iload_n 1, 1) := by decide +kernel
theorem dX3_term_44 : decode cX3_term 44 = .ok (.iaload, 1) := by decide +kernel
theorem dX3_term_45 : decode cX3_term 45 = .ok (.istore_n 3, 1) := by decide +kernel
theorem dX3_term_46 : decode cX3_term 46 = .ok (.aload_n 0, 1) := by decide +kernel
theorem dX3_term_47 : decode cX3_term 47 = .ok (.getfield 16, 3) := by decide +kernel
theorem dX3_term_50 : decode cX3_term 50 = .ok (.iload_n 1, 1) := by decide +kernel
theorem dX3_term_51 : decode cX3_term 51 = .ok (.iload_n 2, 1) := by decide +kernel
theorem dX3_term_52 : decode cX3_term 52 = .ok (.iastore, 1) := by decide +kernel
theorem dX3_term_53 : decode cX3_term 53 = .ok (.iload_n 3, 1) := by decide +kernel
theorem dX3_term_54 : decode cX3_term 54 = .ok (.ireturn, 1) := by decide +kernel
theorem dX3_begin_0 : decode cX3_begin 0 = .ok (.aload_n 0, 1) := by decide +kernel
theorem dX3_begin_1 : decode cX3_begin 1 = .ok (.getfield 41, 3) := by decide +kernel
theorem dX3_begin_4 : decode cX3_begin 4 = .ok (.ifCond .eq 6, 3) := by decide +kernel
theorem dX3_begin_7 : decode cX3_begin 7 = .ok (.bipush (-3), 2) := by decide +kernel
theorem dX3_begin_9 : decode cX3_begin 9 = .ok (.ireturn, 1) := by decide +kernel
theorem dX3_begin_10 : decode cX3_begin 10 = .ok (.aload_n 0, 1) := by decide +kernel
theorem dX3_begin_11 : decode cX3_begin 11 = .ok (.iconst 1, 1) := by decide +kernel
theorem dX3_begin_12 : decode cX3_begin 12 = .ok (.putfield 41, 3) := by decide +kernel
theorem dX3_begin_15 : decode cX3_begin 15 = .ok (.aload_n 0, 1) := by decide +kernel
theorem dX3_begin_16 : decode cX3_begin 16 = .ok (.dup, 1) := by decide +kernel
theorem dX3_begin_17 : decode cX3_begin 17 = .ok (.getfield 64, 3) := by decide +kernel
theorem dX3_begin_20 : decode cX3_begin 20 = .ok (.iconst 1, 1) := by decide +kernel
theorem dX3_begin_21 : decode cX3_begin 21 = .ok (.iadd, 1) := by decide +kernel
theorem dX3_begin_22 : decode cX3_begin 22 = .ok (.putfield 64, 3) := by decide +kernel
theorem dX3_begin_25 : decode cX3_begin 25 = .ok (.iconst 0, 1) := by decide +kernel
theorem dX3_begin_26 : decode cX3_begin 26 = .ok (.istore_n 1, 1) := by decide +kernel
theorem dX3_begin_27 : decode cX3_begin 27 = .ok (.iconst 0, 1) := by decide +kernel
theorem dX3_begin_28 : decode cX3_begin 28 = .ok (.istore_n 2, 1) := by decide +kernel
theorem dX3_begin_29 : decode cX3_begin 29 = .ok (.iload_n 2, 1) := by decide +kernel
theorem dX3_begin_30 : decode cX3_begin 30 = .ok (.bipush 12, 2) := by decide +kernel
theorem dX3_begin_32 : decode cX3_begin 32 = .ok (.if_icmp .ge 37, 3) := by decide +kernel
theorem dX3_begin_35 : decode cX3_begin 35 = .ok (.aload_n 0, 1) := by decide +kernel
theorem dX3_begin_36 : decode cX3_begin 36 = .ok (.getfield 11, 3) := by decide +kernel
theorem dX3_begin_39 : decode cX3_begin 39 = .ok (.iload_n 2, 1) := by decide +kernel
theorem dX3_begin_40 : decode cX3_begin 40 = .ok (.aaload, 1) := by decide +kernel
theorem dX3_begin_41 : decode cX3_begin 41 = .ok (.aload_n 0, 1) := by decide +kernel
theorem dX3_begin_42 : decode cX3_begin 42 = .ok (.getfield 64, 3) := by decide +kernel
theorem dX3_begin_45 : decode cX3_begin 45 = .ok (.invokevirtual 67, 3) := by decide +kernel
theorem dX3_begin_48 : decode cX3_begin 48 = .ok (.aload_n 0, 1) := by decide +kernel
theorem dX3_begin_49 : decode cX3_begin 49 = .ok (.getfield 11, 3) := by decide +kernel
theorem dX3_begin_52 : decode cX3_begin 52 = .ok (.iload_n 2, 1) := by decide +kernel
theorem dX3_begin_53 : decode cX3_begin 53 = .ok (.aaload, 1) := by decide +kernel
theorem dX3_begin_54 : decode cX3_begin 54 = .ok (.getfield 71, 3) := by decide +kernel
theorem dX3_begin_57 : decode cX3_begin 57 = .ok (.ifCond .eq 6, 3) := by decide +kernel
theorem dX3_begin_60 : decode cX3_begin 60 = .ok (.iinc 1 1, 3) := by decide +kernel
theorem dX3_begin_63 : decode cX3_begin 63 = .ok (.iinc 2 1, 3) := by decide +kernel
theorem dX3_begin_66 : decode cX3_begin 66 = .ok (.goto (-37), 3) := by decide +kernel
theorem dX3_begin_69 : decode cX3_begin 69 = .ok (.iload_n 1, 1) := by decide +kernel
theorem dX3_begin_70 : decode cX3_begin 70 = .ok (.ireturn, 1) := by decide +kernel
theorem dX3_commit_0 : decode cX3_commit 0 = .ok (.iload_n 1, 1) := by decide +kernel
theorem dX3_commit_1 : decode cX3_commit 1 = .ok (.invokestatic 37, 3) := by decide +kernel
theorem dX3_commit_4 : decode cX3_commit 4 = .ok (.ifCond .ne 5, 3) := by decide +kernel
theorem dX3_commit_7 : decode cX3_commit 7 = .ok (.iconst (-1), 1) := by decide +kernel
theorem dX3_commit_8 : decode cX3_commit 8 = .ok (.ireturn, 1) := by decide +kernel
theorem dX3_commit_9 : decode cX3_commit 9 = .ok (.aload_n 0, 1) := by decide +kernel
theorem dX3_commit_10 : decode cX3_commit 10 = .ok (.getfield 11, 3) := by decide +kernel
theorem dX3_commit_13 : decode cX3_commit 13 = .ok (.iload_n 1, 1) := by decide +kernel
theorem dX3_commit_14 : decode cX3_commit 14 = .ok (.aaload, 1) := by decide +kernel
theorem dX3_commit_15 : decode cX3_commit 15 = .ok (.astore 4, 2) := by decide +kernel
theorem dX3_commit_17 : decode cX3_commit 17 = .ok (.aload_n 0, 1) := by decide +kernel
theorem dX3_commit_18 : decode cX3_commit 18 = .ok (.getfield 41, 3) := by decide +kernel
theorem dX3_commit_21 : decode cX3_commit 21 = .ok (.iconst 1, 1) := by decide +kernel
theorem dX3_commit_22 : decode cX3_commit 22 = .ok (.if_icmp .ne 19, 3) := by decide +kernel
theorem dX3_commit_25 : decode cX3_commit 25 = .ok (.aload 4, 2) := by decide +kernel
theorem dX3_commit_27 : decode cX3_commit 27 = .ok (.getfield 71, 3) := by decide +kernel
theorem dX3_commit_30 : decode cX3_commit 30 = .ok (.ifCond .eq 11, 3) := by decide +kernel
theorem dX3_commit_33 : decode cX3_commit 33 = .ok (.aload 4, 2) := by decide +kernel
theorem dX3_commit_35 : decode cX3_commit 35 = .ok (.getfield 75, 3) := by decide +kernel
theorem dX3_commit_38 : decode cX3_commit 38 = .ok (.ifCond .eq 6, 3) := by decide +kernel
theorem dX3_commit_41 : decode cX3_commit 41 = .ok (.bipush (-3), 2) := by decide +kernel
theorem dX3_commit_43 : decode cX3_commit 43 = .ok (.ireturn, 1) := by decide +kernel
theorem dX3_commit_44 : decode cX3_commit 44 = .ok (.aload 4, 2) := by decide +kernel
theorem dX3_commit_46 : decode cX3_commit 46 = .ok (.iconst 1, 1) := by decide +kernel
theorem dX3_commit_47 : decode cX3_commit 47 = .ok (.putfield 75, 3) := by decide +kernel
theorem dX3_commit_50 : decode cX3_commit 50 = .ok (.aload 4, 2) := by decide +kernel
theorem dX3_commit_52 : decode cX3_commit 52 = .ok (.lload_n 2, 1) := by decide +kernel
theorem dX3_commit_53 : decode cX3_commit 53 = .ok (.putfield 78, 3) := by decide +kernel
theorem dX3_commit_56 : decode cX3_commit 56 = .ok (.aload_n 0, 1) := by decide +kernel
theorem dX3_commit_57 : decode cX3_commit 57 = .ok (.invokevirtual 81, 3) := by decide +kernel
theorem dX3_commit_60 : decode cX3_commit 60 = .ok (.ireturn, 1) := by decide +kernel
theorem dX3_opening_0 : decode cX3_opening 0 = .ok (.aload_n 0, 1) := by decide +kernel
theorem dX3_opening_1 : decode cX3_opening 1 = .ok (.getfield 41, 3) := by decide +kernel
theorem dX3_opening_4 : decode cX3_opening 4 = .ok (.iconst 1, 1) := by decide +kernel
theorem dX3_opening_5 : decode cX3_opening 5 = .ok (.if_icmp .eq 6, 3) := by decide +kernel
theorem dX3_opening_8 : decode cX3_opening 8 = .ok (.bipush (-3), 2) := by decide +kernel
theorem dX3_opening_10 : decode cX3_opening 10 = .ok (.ireturn, 1) := by decide +kernel
theorem dX3_opening_11 : decode cX3_opening 11 = .ok (.aload_n 0, 1) := by decide +kernel
theorem dX3_opening_12 : decode cX3_opening 12 = .ok (.iconst 2, 1) := by decide +kernel
theorem dX3_opening_13 : decode cX3_opening 13 = .ok (.putfield 41, 3) := by decide +kernel
theorem dX3_opening_16 : decode cX3_opening 16 = .ok (.aload_n 0, 1) := by decide +kernel
theorem dX3_opening_17 : decode cX3_opening 17 = .ok (.invokevirtual 81, 3) := by decide +kernel
theorem dX3_opening_20 : decode cX3_opening 20 = .ok (.ireturn, 1) := by decide +kernel
theorem dX3_open_0 : decode cX3_open 0 = .ok (.iload_n 1, 1) := by decide +kernel
theorem dX3_open_1 : decode cX3_open 1 = .ok (.invokestatic 37, 3) := by decide +kernel
theorem dX3_open_4 : decode cX3_open 4 = .ok (.ifCond .ne 5, 3) := by decide +kernel
theorem dX3_open_7 : decode cX3_open 7 = .ok (.iconst (-1), 1) := by decide +kernel
theorem dX3_open_8 : decode cX3_open 8 = .ok (.ireturn, 1) := by decide +kernel
theorem dX3_open_9 : decode cX3_open 9 = .ok (.aload_n 0, 1) := by decide +kernel
theorem dX3_open_10 : decode cX3_open 10 = .ok (.getfield 11, 3) := by decide +kernel
theorem dX3_open_13 : decode cX3_open 13 = .ok (.iload_n 1, 1) := by decide +kernel
theorem dX3_open_14 : decode cX3_open 14 = .ok (.aaload, 1) := by decide +kernel
theorem dX3_open_15 : decode cX3_open 15 = .ok (.astore 4, 2) := by decide +kernel
theorem dX3_open_17 : decode cX3_open 17 = .ok (.aload_n 0, 1) := by decide +kernel
theorem dX3_open_18 : decode cX3_open 18 = .ok (.getfield 41, 3) := by decide +kernel
theorem dX3_open_21 : decode cX3_open 21 = .ok (.iconst 2, 1) := by decide +kernel
theorem dX3_open_22 : decode cX3_open 22 = .ok (.if_icmp .ne 25, 3) := by decide +kernel
theorem dX3_open_25 : decode cX3_open 25 = .ok (.aload 4, 2) := by decide +kernel
theorem dX3_open_27 : decode cX3_open 27 = .ok (.invokevirtual 85, 3) := by decide +kernel
theorem dX3_open_30 : decode cX3_open 30 = .ok (.ifCond .eq 17, 3) := by decide +kernel
theorem dX3_open_33 : decode cX3_open 33 = .ok (.aload 4, 2) := by decide +kernel
theorem dX3_open_35 : decode cX3_open 35 = .ok (.getfield 78, 3) := by decide +kernel
theorem dX3_open_38 : decode cX3_open 38 = .ok (.iload_n 1, 1) := by decide +kernel
theorem dX3_open_39 : decode cX3_open 39 = .ok (.lload_n 2, 1) := by decide +kernel
theorem dX3_open_40 : decode cX3_open 40 = .ok (.invokestatic 89, 3) := by decide +kernel
theorem dX3_open_43 : decode cX3_open 43 = .ok (.lcmp, 1) := by decide +kernel
theorem dX3_open_44 : decode cX3_open 44 = .ok (.ifCond .eq 6, 3) := by decide +kernel
theorem dX3_open_47 : decode cX3_open 47 = .ok (.bipush (-3), 2) := by decide +kernel
theorem dX3_open_49 : decode cX3_open 49 = .ok (.ireturn, 1) := by decide +kernel
theorem dX3_open_50 : decode cX3_open 50 = .ok (.aload 4, 2) := by decide +kernel
theorem dX3_open_52 : decode cX3_open 52 = .ok (.iconst 1, 1) := by decide +kernel
theorem dX3_open_53 : decode cX3_open 53 = .ok (.putfield 93, 3) := by decide +kernel
theorem dX3_open_56 : decode cX3_open 56 = .ok (.aload 4, 2) := by decide +kernel
theorem dX3_open_58 : decode cX3_open 58 = .ok (.lload_n 2, 1) := by decide +kernel
theorem dX3_open_59 : decode cX3_open 59 = .ok (.putfield 96, 3) := by decide +kernel
theorem dX3_open_62 : decode cX3_open 62 = .ok (.aload_n 0, 1) := by decide +kernel
theorem dX3_open_63 : decode cX3_open 63 = .ok (.invokevirtual 99, 3) := by decide +kernel
theorem dX3_open_66 : decode cX3_open 66 = .ok (.ireturn, 1) := by decide +kernel
theorem dX3_draw_0 : decode cX3_draw 0 = .ok (.iload_n 1, 1) := by decide +kernel
theorem dX3_draw_1 : decode cX3_draw 1 = .ok (.invokestatic 102, 3) := by decide +kernel
theorem dX3_draw_4 : decode cX3_draw 4 = .ok (.ifCond .ne 5, 3) := by decide +kernel
theorem dX3_draw_7 : decode cX3_draw 7 = .ok (.iconst (-1), 1) := by decide +kernel
theorem dX3_draw_8 : decode cX3_draw 8 = .ok (.ireturn, 1) := by decide +kernel
theorem dX3_draw_9 : decode cX3_draw 9 = .ok (.aload_n 0, 1) := by decide +kernel
theorem dX3_draw_10 : decode cX3_draw 10 = .ok (.getfield 41, 3) := by decide +kernel
theorem dX3_draw_13 : decode cX3_draw 13 = .ok (.iconst 2, 1) := by decide +kernel
theorem dX3_draw_14 : decode cX3_draw 14 = .ok (.if_icmp .eq 6, 3) := by decide +kernel
theorem dX3_draw_17 : decode cX3_draw 17 = .ok (.bipush (-3), 2) := by decide +kernel
theorem dX3_draw_19 : decode cX3_draw 19 = .ok (.ireturn, 1) := by decide +kernel
theorem dX3_draw_20 : decode cX3_draw 20 = .ok (.aload_n 0, 1) := by decide +kernel
theorem dX3_draw_21 : decode cX3_draw 21 = .ok (.aload_n 0, 1) := by decide +kernel
theorem dX3_draw_22 : decode cX3_draw 22 = .ok (.bipush (-2), 2) := by decide +kernel
theorem dX3_draw_24 : decode cX3_draw 24 = .ok (.lconst 0, 1) := by decide +kernel
theorem dX3_draw_25 : decode cX3_draw 25 = .ok (.invokevirtual 105, 3) := by decide +kernel
theorem dX3_draw_28 : decode cX3_draw 28 = .ok (.putfield 108, 3) := by decide +kernel
theorem dX3_draw_31 : decode cX3_draw 31 = .ok (.aload_n 0, 1) := by decide +kernel
theorem dX3_draw_32 : decode cX3_draw 32 = .ok (.getfield 23, 3) := by decide +kernel
theorem dX3_draw_35 : decode cX3_draw 35 = .ok (.aload_n 0, 1) := by decide +kernel
theorem dX3_draw_36 : decode cX3_draw 36 = .ok (.getfield 11, 3) := by decide +kernel
theorem dX3_draw_39 : decode cX3_draw 39 = .ok (.bipush (-2), 2) := by decide +kernel
theorem dX3_draw_41 : decode cX3_draw 41 = .ok (.aload_n 0, 1) := by decide +kernel
theorem dX3_draw_42 : decode cX3_draw 42 = .ok (.getfield 16, 3) := by decide +kernel
theorem dX3_draw_45 : decode cX3_draw 45 = .ok (.iconst 0, 1) := by decide +kernel
theorem dX3_draw_46 : decode cX3_draw 46 = .ok (.iaload, 1) := by decide +kernel
theorem dX3_draw_47 : decode cX3_draw 47 = .ok (.aload_n 0, 1) := by decide +kernel
theorem dX3_draw_48 : decode cX3_draw 48 = .ok (.getfield 108, 3) := by decide +kernel
theorem dX3_draw_51 : decode cX3_draw 51 = .ok (.invokevirtual 111, 3) := by decide +kernel
theorem dX3_draw_54 : decode cX3_draw 54 = .ok (.aload_n 0, 1) := by decide +kernel
theorem dX3_draw_55 : decode cX3_draw 55 = .ok (.invokevirtual 115, 3) := by decide +kernel
theorem dX3_draw_58 : decode cX3_draw 58 = .ok (.aload_n 0, 1) := by decide +kernel
theorem dX3_draw_59 : decode cX3_draw 59 = .ok (.getfield 30, 3) := by decide +kernel
theorem dX3_draw_62 : decode cX3_draw 62 = .ok (.aload_n 0, 1) := by decide +kernel
theorem dX3_draw_63 : decode cX3_draw 63 = .ok (.getfield 23, 3) := by decide +kernel
theorem dX3_draw_66 : decode cX3_draw 66 = .ok (.getfield 118, 3) := by decide +kernel
theorem dX3_draw_69 : decode cX3_draw 69 = .ok (.invokevirtual 121, 3) := by decide +kernel
theorem dX3_draw_72 : decode cX3_draw 72 = .ok (.aload_n 0, 1) := by decide +kernel
theorem dX3_draw_73 : decode cX3_draw 73 = .ok (.getfield 23, 3) := by decide +kernel
theorem dX3_draw_76 : decode cX3_draw 76 = .ok (.getfield 124, 3) := by decide +kernel
theorem dX3_draw_79 : decode cX3_draw 79 = .ok (.ifCond .ne 9, 3) := by decide +kernel
theorem dX3_draw_82 : decode cX3_draw 82 = .ok (.aload_n 0, 1) := by decide +kernel
theorem dX3_draw_83 : decode cX3_draw 83 = .ok (.invokevirtual 127, 3) := by decide +kernel
theorem dX3_draw_86 : decode cX3_draw 86 = .ok (.iconst 0, 1) := by decide +kernel
theorem dX3_draw_87 : decode cX3_draw 87 = .ok (.ireturn, 1) := by decide +kernel
theorem dX3_draw_88 : decode cX3_draw 88 = .ok (.iconst 0, 1) := by decide +kernel
theorem dX3_draw_89 : decode cX3_draw 89 = .ok (.istore_n 2, 1) := by decide +kernel
theorem dX3_draw_90 : decode cX3_draw 90 = .ok (.iload_n 2, 1) := by decide +kernel
theorem dX3_draw_91 : decode cX3_draw 91 = .ok (.iload_n 1, 1) := by decide +kernel
theorem dX3_draw_92 : decode cX3_draw 92 = .ok (.if_icmp .ge 32, 3) := by decide +kernel
theorem dX3_draw_95 : decode cX3_draw 95 = .ok (.aload_n 0, 1) := by decide +kernel
theorem dX3_draw_96 : decode cX3_draw 96 = .ok (.getfield 23, 3) := by decide +kernel
theorem dX3_draw_99 : decode cX3_draw 99 = .ok (.invokevirtual 130, 3) := by decide +kernel
theorem dX3_draw_102 : decode cX3_draw 102 = .ok (.istore_n 3, 1) := by decide +kernel
theorem dX3_draw_103 : decode cX3_draw 103 = .ok (.aload_n 0, 1) := by decide +kernel
theorem dX3_draw_104 : decode cX3_draw 104 = .ok (.getfield 30, 3) := by decide +kernel
theorem dX3_draw_107 : decode cX3_draw 107 = .ok (.iload_n 3, 1) := by decide +kernel
theorem dX3_draw_108 : decode cX3_draw 108 = .ok (.aload_n 0, 1) := by decide +kernel
theorem dX3_draw_109 : decode cX3_draw 109 = .ok (.getfield 23, 3) := by decide +kernel
theorem dX3_draw_112 : decode cX3_draw 112 = .ok (.getfield 133, 3) := by decide +kernel
theorem dX3_draw_115 : decode cX3_draw 115 = .ok (.invokevirtual 136, 3) := by decide +kernel
theorem dX3_draw_118 : decode cX3_draw 118 = .ok (.iinc 2 1, 3) := by decide +kernel
theorem dX3_draw_121 : decode cX3_draw 121 = .ok (.goto (-31), 3) := by decide +kernel
theorem dX3_draw_124 : decode cX3_draw 124 = .ok (.aload_n 0, 1) := by decide +kernel
theorem dX3_draw_125 : decode cX3_draw 125 = .ok (.invokevirtual 140, 3) := by decide +kernel
theorem dX3_draw_128 : decode cX3_draw 128 = .ok (.aload_n 0, 1) := by decide +kernel
theorem dX3_draw_129 : decode cX3_draw 129 = .ok (.iconst 3, 1) := by decide +kernel
theorem dX3_draw_130 : decode cX3_draw 130 = .ok (.putfield 41, 3) := by decide +kernel
theorem dX3_draw_133 : decode cX3_draw 133 = .ok (.aload_n 0, 1) := by decide +kernel
theorem dX3_draw_134 : decode cX3_draw 134 = .ok (.getfield 23, 3) := by decide +kernel
theorem dX3_draw_137 : decode cX3_draw 137 = .ok (.getfield 124, 3) := by decide +kernel
theorem dX3_draw_140 : decode cX3_draw 140 = .ok (.ireturn, 1) := by decide +kernel
theorem dX3_turn_0 : decode cX3_turn 0 = .ok (.aload_n 0, 1) := by decide +kernel
theorem dX3_turn_1 : decode cX3_turn 1 = .ok (.getfield 41, 3) := by decide +kernel
theorem dX3_turn_4 : decode cX3_turn 4 = .ok (.iconst 3, 1) := by decide +kernel
theorem dX3_turn_5 : decode cX3_turn 5 = .ok (.if_icmp .ne 17, 3) := by decide +kernel
theorem dX3_turn_8 : decode cX3_turn 8 = .ok (.aload_n 0, 1) := by decide +kernel
theorem dX3_turn_9 : decode cX3_turn 9 = .ok (.getfield 30, 3) := by decide +kernel
theorem dX3_turn_12 : decode cX3_turn 12 = .ok (.aload_n 0, 1) := by decide +kernel
theorem dX3_turn_13 : decode cX3_turn 13 = .ok (.getfield 143, 3) := by decide +kernel
theorem dX3_turn_16 : decode cX3_turn 16 = .ok (.invokevirtual 146, 3) := by decide +kernel
theorem dX3_turn_19 : decode cX3_turn 19 = .ok (.goto 5, 3) := by decide +kernel
theorem dX3_turn_22 : decode cX3_turn 22 = .ok (.bipush (-2), 2) := by decide +kernel
theorem dX3_turn_24 : decode cX3_turn 24 = .ok (.istore_n 2, 1) := by decide +kernel
theorem dX3_turn_25 : decode cX3_turn 25 = .ok (.iload_n 2, 1) := by decide +kernel
theorem dX3_turn_26 : decode cX3_turn 26 = .ok (.invokestatic 37, 3) := by decide +kernel
theorem dX3_turn_29 : decode cX3_turn 29 = .ok (.ifCond .ne 6, 3) := by decide +kernel
theorem dX3_turn_32 : decode cX3_turn 32 = .ok (.bipush (-3), 2) := by decide +kernel
theorem dX3_turn_34 : decode cX3_turn 34 = .ok (.ireturn, 1) := by decide +kernel
theorem dX3_turn_35 : decode cX3_turn 35 = .ok (.iload_n 1, 1) := by decide +kernel
theorem dX3_turn_36 : decode cX3_turn 36 = .ok (.ifCond .eq 15, 3) := by decide +kernel
theorem dX3_turn_39 : decode cX3_turn 39 = .ok (.aload_n 0, 1) := by decide +kernel
theorem dX3_turn_40 : decode cX3_turn 40 = .ok (.getfield 11, 3) := by decide +kernel
theorem dX3_turn_43 : decode cX3_turn 43 = .ok (.iload_n 2, 1) := by decide +kernel
theorem dX3_turn_44 : decode cX3_turn 44 = .ok (.aaload, 1) := by decide +kernel
theorem dX3_turn_45 : decode cX3_turn 45 = .ok (.invokevirtual 150, 3) := by decide +kernel
theorem dX3_turn_48 : decode cX3_turn 48 = .ok (.goto 29, 3) := by decide +kernel
theorem dX3_turn_51 : decode cX3_turn 51 = .ok (.aload_n 0, 1) := by decide +kernel
theorem dX3_turn_52 : decode cX3_turn 52 = .ok (.getfield 11, 3) := by decide +kernel
theorem dX3_turn_55 : decode cX3_turn 55 = .ok (.iload_n 2, 1) := by decide +kernel
theorem dX3_turn_56 : decode cX3_turn 56 = .ok (.aaload, 1) := by decide +kernel
theorem dX3_turn_57 : decode cX3_turn 57 = .ok (.aload_n 0, 1) := by decide +kernel
theorem dX3_turn_58 : decode cX3_turn 58 = .ok (.getfield 16, 3) := by decide +kernel
theorem dX3_turn_61 : decode cX3_turn 61 = .ok (.iconst 3, 1) := by decide +kernel
theorem dX3_turn_62 : decode cX3_turn 62 = .ok (.iaload, 1) := by decide +kernel
theorem dX3_turn_63 : decode cX3_turn 63 = .ok (.aload_n 0, 1) := by decide +kernel
theorem dX3_turn_64 : decode cX3_turn 64 = .ok (.getfield 64, 3) := by decide +kernel
theorem dX3_turn_67 : decode cX3_turn 67 = .ok (.aload_n 0, 1) := by decide +kernel
theorem dX3_turn_68 : decode cX3_turn 68 = .ok (.getfield 16, 3) := by decide +kernel
theorem dX3_turn_71 : decode cX3_turn 71 = .ok (.iconst 2, 1) := by decide +kernel
theorem dX3_turn_72 : decode cX3_turn 72 = .ok (.iaload, 1) := by decide +kernel
theorem dX3_turn_73 : decode cX3_turn 73 = .ok (.iadd, 1) := by decide +kernel
theorem dX3_turn_74 : decode cX3_turn 74 = .ok (.invokevirtual 153, 3) := by decide +kernel
theorem dX3_turn_77 : decode cX3_turn 77 = .ok (.aload_n 0, 1) := by decide +kernel
theorem dX3_turn_78 : decode cX3_turn 78 = .ok (.dup, 1) := by decide +kernel
theorem dX3_turn_79 : decode cX3_turn 79 = .ok (.getfield 143, 3) := by decide +kernel
theorem dX3_turn_82 : decode cX3_turn 82 = .ok (.iconst 1, 1) := by decide +kernel
theorem dX3_turn_83 : decode cX3_turn 83 = .ok (.iadd, 1) := by decide +kernel
theorem dX3_turn_84 : decode cX3_turn 84 = .ok (.putfield 143, 3) := by decide +kernel
theorem dX3_turn_87 : decode cX3_turn 87 = .ok (.aload_n 0, 1) := by decide +kernel
theorem dX3_turn_88 : decode cX3_turn 88 = .ok (.getfield 30, 3) := by decide +kernel
theorem dX3_turn_91 : decode cX3_turn 91 = .ok (.getfield 156, 3) := by decide +kernel
theorem dX3_turn_94 : decode cX3_turn 94 = .ok (.aload_n 0, 1) := by decide +kernel
theorem dX3_turn_95 : decode cX3_turn 95 = .ok (.getfield 143, 3) := by decide +kernel
theorem dX3_turn_98 : decode cX3_turn 98 = .ok (.isub, 1) := by decide +kernel
theorem dX3_turn_99 : decode cX3_turn 99 = .ok (.istore_n 3, 1) := by decide +kernel
theorem dX3_turn_100 : decode cX3_turn 100 = .ok (.iload_n 3, 1) := by decide +kernel
theorem dX3_turn_101 : decode cX3_turn 101 = .ok (.ifCond .gt 7, 3) := by decide +kernel
theorem dX3_turn_104 : decode cX3_turn 104 = .ok (.aload_n 0, 1) := by decide +kernel
theorem dX3_turn_105 : decode cX3_turn 105 = .ok (.invokevirtual 127, 3) := by decide +kernel
theorem dX3_turn_108 : decode cX3_turn 108 = .ok (.iload_n 3, 1) := by decide +kernel
theorem dX3_turn_109 : decode cX3_turn 109 = .ok (.ireturn, 1) := by decide +kernel
theorem dX3_leader_0 : decode cX3_leader 0 = .ok (.iload_n 1, 1) := by decide +kernel
theorem dX3_leader_1 : decode cX3_leader 1 = .ok (.ifCond .ge 7, 3) := by decide +kernel
theorem dX3_leader_4 : decode cX3_leader 4 = .ok (.iconst (-1), 1) := by decide +kernel
theorem dX3_leader_5 : decode cX3_leader 5 = .ok (.goto 11, 3) := by decide +kernel
theorem dX3_leader_8 : decode cX3_leader 8 = .ok (.aload_n 0, 1) := by decide +kernel
theorem dX3_leader_9 : decode cX3_leader 9 = .ok (.getfield 30, 3) := by decide +kernel
theorem dX3_leader_12 : decode cX3_leader 12 = .ok (.iload_n 1, 1) := by decide +kernel
theorem dX3_leader_13 : decode cX3_leader 13 = .ok (.invokevirtual 146, 3) := by decide +kernel
theorem dX3_leader_16 : decode cX3_leader 16 = .ok (.ireturn, 1) := by decide +kernel
theorem dX3_drawn_0 : decode cX3_drawn 0 = .ok (.iload_n 1, 1) := by decide +kernel
theorem dX3_drawn_1 : decode cX3_drawn 1 = .ok (.ifCond .ge 7, 3) := by decide +kernel
theorem dX3_drawn_4 : decode cX3_drawn 4 = .ok (.iconst (-1), 1) := by decide +kernel
theorem dX3_drawn_5 : decode cX3_drawn 5 = .ok (.goto 11, 3) := by decide +kernel
theorem dX3_drawn_8 : decode cX3_drawn 8 = .ok (.aload_n 0, 1) := by decide +kernel
theorem dX3_drawn_9 : decode cX3_drawn 9 = .ok (.getfield 30, 3) := by decide +kernel
theorem dX3_drawn_12 : decode cX3_drawn 12 = .ok (.iload_n 1, 1) := by decide +kernel
theorem dX3_drawn_13 : decode cX3_drawn 13 = .ok (.invokevirtual 159, 3) := by decide +kernel
theorem dX3_drawn_16 : decode cX3_drawn 16 = .ok (.ireturn, 1) := by decide +kernel
theorem dX3_claim_0 : decode cX3_claim 0 = .ok (.iload_n 1, 1) := by decide +kernel
theorem dX3_claim_1 : decode cX3_claim 1 = .ok (.invokestatic 37, 3) := by decide +kernel
theorem dX3_claim_4 : decode cX3_claim 4 = .ok (.ifCond .ne 5, 3) := by decide +kernel
theorem dX3_claim_7 : decode cX3_claim 7 = .ok (.iconst (-1), 1) := by decide +kernel
theorem dX3_claim_8 : decode cX3_claim 8 = .ok (.ireturn, 1) := by decide +kernel
theorem dX3_claim_9 : decode cX3_claim 9 = .ok (.aload_n 0, 1) := by decide +kernel
theorem dX3_claim_10 : decode cX3_claim 10 = .ok (.getfield 162, 3) := by decide +kernel
theorem dX3_claim_13 : decode cX3_claim 13 = .ok (.bipush 60, 2) := by decide +kernel
theorem dX3_claim_15 : decode cX3_claim 15 = .ok (.if_icmp .lt 6, 3) := by decide +kernel
theorem dX3_claim_18 : decode cX3_claim 18 = .ok (.bipush (-3), 2) := by decide +kernel
theorem dX3_claim_20 : decode cX3_claim 20 = .ok (.ireturn, 1) := by decide +kernel
theorem dX3_claim_21 : decode cX3_claim 21 = .ok (.aload_n 0, 1) := by decide +kernel
theorem dX3_claim_22 : decode cX3_claim 22 = .ok (.getfield 34, 3) := by decide +kernel
