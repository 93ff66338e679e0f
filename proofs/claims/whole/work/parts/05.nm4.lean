theorem dX4_prepare_63 : decode cX4_prepare 63 = .ok (.iload 6, 2) := by decide +kernel
theorem dX4_prepare_65 : decode cX4_prepare 65 = .ok (.aload_n 0, 1) := by decide +kernel
theorem dX4_prepare_66 : decode cX4_prepare 66 = .ok (.getfield 35, 3) := by decide +kernel
theorem dX4_prepare_69 : decode cX4_prepare 69 = .ok (.iload 6, 2) := by decide +kernel
theorem dX4_prepare_71 : decode cX4_prepare 71 = .ok (.baload, 1) := by decide +kernel
theorem dX4_prepare_72 : decode cX4_prepare 72 = .ok (.ifCond .eq 22, 3) := by decide +kernel
theorem dX4_prepare_75 : decode cX4_prepare 75 = .ok (.iload 7, 2) := by decide +kernel
theorem dX4_prepare_77 : decode cX4_prepare 77 = .ok (.ifCond .ne 13, 3) := by decide +kernel
theorem dX4_prepare_80 : decode cX4_prepare 80 = .ok (.aload_n 0, 1) := by decide +kernel
theorem dX4_prepare_81 : decode cX4_prepare 81 = .ok (.getfield 39, 3) := by decide +kernel
theorem dX4_prepare_84 : decode cX4_prepare 84 = .ok (.iload 6, 2) := by decide +kernel
theorem dX4_prepare_86 : decode cX4_prepare 86 = .ok (.baload, 1) := by decide +kernel
theorem dX4_prepare_87 : decode cX4_prepare 87 = .ok (.ifCond .ne 7, 3) := by decide +kernel
theorem dX4_prepare_90 : decode cX4_prepare 90 = .ok (.iconst 1, 1) := by decide +kernel
theorem dX4_prepare_91 : decode cX4_prepare 91 = .ok (.goto 4, 3) := by decide +kernel
theorem dX4_prepare_94 : decode cX4_prepare 94 = .ok (.iconst 0, 1) := by decide +kernel
theorem dX4_prepare_95 : decode cX4_prepare 95 = .ok (.bastore, 1) := by decide +kernel
theorem dX4_prepare_96 : decode cX4_prepare 96 = .ok (.aload_n 0, 1) := by decide +kernel
theorem dX4_prepare_97 : decode cX4_prepare 97 = .ok (.getfield 63, 3) := by decide +kernel
theorem dX4_prepare_100 : decode cX4_prepare 100 = .ok (.iload 6, 2) := by decide +kernel
theorem dX4_prepare_102 : decode cX4_prepare 102 = .ok (.aload_n 0, 1) := by decide +kernel
theorem dX4_prepare_103 : decode cX4_prepare 103 = .ok (.getfield 20, 3) := by decide +kernel
theorem dX4_prepare_106 : decode cX4_prepare 106 = .ok (.iload 6, 2) := by decide +kernel
theorem dX4_prepare_108 : decode cX4_prepare 108 = .ok (.iaload, 1) := by decide +kernel
theorem dX4_prepare_109 : decode cX4_prepare 109 = .ok (.iastore, 1) := by decide +kernel
theorem dX4_prepare_110 : decode cX4_prepare 110 = .ok (.iload 7, 2) := by decide +kernel
theorem dX4_prepare_112 : decode cX4_prepare 112 = .ok (.ifCond .eq 44, 3) := by decide +kernel
theorem dX4_prepare_115 : decode cX4_prepare 115 = .ok (.iload 6, 2) := by decide +kernel
theorem dX4_prepare_117 : decode cX4_prepare 117 = .ok (.iload_n 1, 1) := by decide +kernel
theorem dX4_prepare_118 : decode cX4_prepare 118 = .ok (.if_icmp .ne 7, 3) := by decide +kernel
theorem dX4_prepare_121 : decode cX4_prepare 121 = .ok (.lload_n 2, 1) := by decide +kernel
theorem dX4_prepare_122 : decode cX4_prepare 122 = .ok (.goto 10, 3) := by decide +kernel
theorem dX4_prepare_125 : decode cX4_prepare 125 = .ok (.aload_n 0, 1) := by decide +kernel
theorem dX4_prepare_126 : decode cX4_prepare 126 = .ok (.getfield 48, 3) := by decide +kernel
theorem dX4_prepare_129 : decode cX4_prepare 129 = .ok (.iload 6, 2) := by decide +kernel
theorem dX4_prepare_131 : decode cX4_prepare 131 = .ok (.laload, 1) := by decide +kernel
theorem dX4_prepare_132 : decode cX4_prepare 132 = .ok (.lstore 8, 2) := by decide +kernel
theorem dX4_prepare_134 : decode cX4_prepare 134 = .ok (.aload_n 0, 1) := by decide +kernel
theorem dX4_prepare_135 : decode cX4_prepare 135 = .ok (.aload_n 0, 1) := by decide +kernel
theorem dX4_prepare_136 : decode cX4_prepare 136 = .ok (.getfield 130, 3) := by decide +kernel
theorem dX4_prepare_139 : decode cX4_prepare 139 = .ok (.iload 6, 2) := by decide +kernel
theorem dX4_prepare_141 : decode cX4_prepare 141 = .ok (.lload 8, 2) := by decide +kernel
theorem dX4_prepare_143 : decode cX4_prepare 143 = .ok (.invokestatic 119, 3) := by decide +kernel
theorem dX4_prepare_146 : decode cX4_prepare 146 = .ok (.lxor, 1) := by decide +kernel
theorem dX4_prepare_147 : decode cX4_prepare 147 = .ok (.lload 8, 2) := by decide +kernel
theorem dX4_prepare_149 : decode cX4_prepare 149 = .ok (.lxor, 1) := by decide +kernel
theorem dX4_prepare_150 : decode cX4_prepare 150 = .ok (.invokestatic 82, 3) := by decide +kernel
theorem dX4_prepare_153 : decode cX4_prepare 153 = .ok (.putfield 130, 3) := by decide +kernel
theorem dX4_prepare_156 : decode cX4_prepare 156 = .ok (.aload_n 0, 1) := by decide +kernel
theorem dX4_prepare_157 : decode cX4_prepare 157 = .ok (.getfield 60, 3) := by decide +kernel
theorem dX4_prepare_160 : decode cX4_prepare 160 = .ok (.iload 6, 2) := by decide +kernel
theorem dX4_prepare_162 : decode cX4_prepare 162 = .ok (.baload, 1) := by decide +kernel
theorem dX4_prepare_163 : decode cX4_prepare 163 = .ok (.ifCond .eq 22, 3) := by decide +kernel
theorem dX4_prepare_166 : decode cX4_prepare 166 = .ok (.iinc 5 1, 3) := by decide +kernel
theorem dX4_prepare_169 : decode cX4_prepare 169 = .ok (.aload_n 0, 1) := by decide +kernel
theorem dX4_prepare_170 : decode cX4_prepare 170 = .ok (.dup, 1) := by decide +kernel
theorem dX4_prepare_171 : decode cX4_prepare 171 = .ok (.getfield 123, 3) := by decide +kernel
theorem dX4_prepare_174 : decode cX4_prepare 174 = .ok (.aload_n 0, 1) := by decide +kernel
theorem dX4_prepare_175 : decode cX4_prepare 175 = .ok (.getfield 13, 3) := by decide +kernel
theorem dX4_prepare_178 : decode cX4_prepare 178 = .ok (.iload 6, 2) := by decide +kernel
theorem dX4_prepare_180 : decode cX4_prepare 180 = .ok (.iaload, 1) := by decide +kernel
theorem dX4_prepare_181 : decode cX4_prepare 181 = .ok (.iadd, 1) := by decide +kernel
theorem dX4_prepare_182 : decode cX4_prepare 182 = .ok (.putfield 123, 3) := by decide +kernel
theorem dX4_prepare_185 : decode cX4_prepare 185 = .ok (.iinc 6 1, 3) := by decide +kernel
theorem dX4_prepare_188 : decode cX4_prepare 188 = .ok (.goto (-156), 3) := by decide +kernel
theorem dX4_prepare_191 : decode cX4_prepare 191 = .ok (.iload 5, 2) := by decide +kernel
theorem dX4_prepare_193 : decode cX4_prepare 193 = .ok (.ireturn, 1) := by decide +kernel
theorem dX4_below_0 : decode cX4_below 0 = .ok (.aload_n 0, 1) := by decide +kernel
theorem dX4_below_1 : decode cX4_below 1 = .ok (.getfield 123, 3) := by decide +kernel
theorem dX4_below_4 : decode cX4_below 4 = .ok (.i2l, 1) := by decide +kernel
theorem dX4_below_5 : decode cX4_below 5 = .ok (.lstore_n 2, 1) := by decide +kernel
theorem dX4_below_6 : decode cX4_below 6 = .ok (.ldc2_w 133, 3) := by decide +kernel
theorem dX4_below_9 : decode cX4_below 9 = .ok (.lload_n 2, 1) := by decide +kernel
theorem dX4_below_10 : decode cX4_below 10 = .ok (.lrem, 1) := by decide +kernel
theorem dX4_below_11 : decode cX4_below 11 = .ok (.lconst 1, 1) := by decide +kernel
theorem dX4_below_12 : decode cX4_below 12 = .ok (.ladd, 1) := by decide +kernel
theorem dX4_below_13 : decode cX4_below 13 = .ok (.lload_n 2, 1) := by decide +kernel
theorem dX4_below_14 : decode cX4_below 14 = .ok (.lrem, 1) := by decide +kernel
theorem dX4_below_15 : decode cX4_below 15 = .ok (.ldc2_w 135, 3) := by decide +kernel
theorem dX4_below_18 : decode cX4_below 18 = .ok (.lmul, 1) := by decide +kernel
theorem dX4_below_19 : decode cX4_below 19 = .ok (.lload_n 2, 1) := by decide +kernel
theorem dX4_below_20 : decode cX4_below 20 = .ok (.lrem, 1) := by decide +kernel
theorem dX4_below_21 : decode cX4_below 21 = .ok (.lstore 4, 2) := by decide +kernel
theorem dX4_below_23 : decode cX4_below 23 = .ok (.lconst 0, 1) := by decide +kernel
theorem dX4_below_24 : decode cX4_below 24 = .ok (.lstore 6, 2) := by decide +kernel
theorem dX4_below_26 : decode cX4_below 26 = .ok (.iconst 0, 1) := by decide +kernel
theorem dX4_below_27 : decode cX4_below 27 = .ok (.istore 8, 2) := by decide +kernel
theorem dX4_below_29 : decode cX4_below 29 = .ok (.iload 8, 2) := by decide +kernel
theorem dX4_below_31 : decode cX4_below 31 = .ok (.ifCond .ne 68, 3) := by decide +kernel
theorem dX4_below_34 : decode cX4_below 34 = .ok (.aload_n 0, 1) := by decide +kernel
theorem dX4_below_35 : decode cX4_below 35 = .ok (.dup, 1) := by decide +kernel
theorem dX4_below_36 : decode cX4_below 36 = .ok (.getfield 137, 3) := by decide +kernel
theorem dX4_below_39 : decode cX4_below 39 = .ok (.ldc2_w 86, 3) := by decide +kernel
theorem dX4_below_42 : decode cX4_below 42 = .ok (.ladd, 1) := by decide +kernel
theorem dX4_below_43 : decode cX4_below 43 = .ok (.putfield 137, 3) := by decide +kernel
theorem dX4_below_46 : decode cX4_below 46 = .ok (.aload_n 0, 1) := by decide +kernel
theorem dX4_below_47 : decode cX4_below 47 = .ok (.getfield 137, 3) := by decide +kernel
theorem dX4_below_50 : decode cX4_below 50 = .ok (.invokestatic 82, 3) := by decide +kernel
theorem dX4_below_53 : decode cX4_below 53 = .ok (.lstore 6, 2) := by decide +kernel
theorem dX4_below_55 : decode cX4_below 55 = .ok (.aload_n 0, 1) := by decide +kernel
theorem dX4_below_56 : decode cX4_below 56 = .ok (.getfield 69, 3) := by decide +kernel
theorem dX4_below_59 : decode cX4_below 59 = .ok (.iload_n 1, 1) := by decide +kernel
theorem dX4_below_60 : decode cX4_below 60 = .ok (.dup2, 1) := by decide +kernel
theorem dX4_below_61 : decode cX4_below 61 = .ok (.iaload, 1) := by decide +kernel
theorem dX4_below_62 : decode cX4_below 62 = .ok (.iconst 1, 1) := by decide +kernel
theorem dX4_below_63 : decode cX4_below 63 = .ok (.iadd, 1) := by decide +kernel
theorem dX4_below_64 : decode cX4_below 64 = .ok (.iastore, 1) := by decide +kernel
theorem dX4_below_65 : decode cX4_below 65 = .ok (.lload 4, 2) := by decide +kernel
theorem dX4_below_67 : decode cX4_below 67 = .ok (.lconst 0, 1) := by decide +kernel
theorem dX4_below_68 : decode cX4_below 68 = .ok (.lcmp, 1) := by decide +kernel
theorem dX4_below_69 : decode cX4_below 69 = .ok (.ifCond .eq 20, 3) := by decide +kernel
theorem dX4_below_72 : decode cX4_below 72 = .ok (.lload 6, 2) := by decide +kernel
theorem dX4_below_74 : decode cX4_below 74 = .ok (.ldc2_w 140, 3) := by decide +kernel
theorem dX4_below_77 : decode cX4_below 77 = .ok (.lxor, 1) := by decide +kernel
theorem dX4_below_78 : decode cX4_below 78 = .ok (.lload 4, 2) := by decide +kernel
theorem dX4_below_80 : decode cX4_below 80 = .ok (.lneg, 1) := by decide +kernel
theorem dX4_below_81 : decode cX4_below 81 = .ok (.ldc2_w 140, 3) := by decide +kernel
theorem dX4_below_84 : decode cX4_below 84 = .ok (.lxor, 1) := by decide +kernel
theorem dX4_below_85 : decode cX4_below 85 = .ok (.lcmp, 1) := by decide +kernel
theorem dX4_below_86 : decode cX4_below 86 = .ok (.ifCond .ge 7, 3) := by decide +kernel
theorem dX4_below_89 : decode cX4_below 89 = .ok (.iconst 1, 1) := by decide +kernel
theorem dX4_below_90 : decode cX4_below 90 = .ok (.goto 4, 3) := by decide +kernel
theorem dX4_below_93 : decode cX4_below 93 = .ok (.iconst 0, 1) := by decide +kernel
theorem dX4_below_94 : decode cX4_below 94 = .ok (.istore 8, 2) := by decide +kernel
theorem dX4_below_96 : decode cX4_below 96 = .ok (.goto (-67), 3) := by decide +kernel
theorem dX4_below_99 : decode cX4_below 99 = .ok (.lload 6, 2) := by decide +kernel
theorem dX4_below_101 : decode cX4_below 101 = .ok (.iconst 1, 1) := by decide +kernel
theorem dX4_below_102 : decode cX4_below 102 = .ok (.lushr, 1) := by decide +kernel
theorem dX4_below_103 : decode cX4_below 103 = .ok (.lload_n 2, 1) := by decide +kernel
theorem dX4_below_104 : decode cX4_below 104 = .ok (.lrem, 1) := by decide +kernel
theorem dX4_below_105 : decode cX4_below 105 = .ok (.ldc2_w 135, 3) := by decide +kernel
theorem dX4_below_108 : decode cX4_below 108 = .ok (.lmul, 1) := by decide +kernel
theorem dX4_below_109 : decode cX4_below 109 = .ok (.lload 6, 2) := by decide +kernel
theorem dX4_below_111 : decode cX4_below 111 = .ok (.lconst 1, 1) := by decide +kernel
theorem dX4_below_112 : decode cX4_below 112 = .ok (.land, 1) := by decide +kernel
theorem dX4_below_113 : decode cX4_below 113 = .ok (.ladd, 1) := by decide +kernel
theorem dX4_below_114 : decode cX4_below 114 = .ok (.lload_n 2, 1) := by decide +kernel
theorem dX4_below_115 : decode cX4_below 115 = .ok (.lrem, 1) := by decide +kernel
theorem dX4_below_116 : decode cX4_below 116 = .ok (.l2i, 1) := by decide +kernel
theorem dX4_below_117 : decode cX4_below 117 = .ok (.ireturn, 1) := by decide +kernel
theorem dX4_overdue_0 : decode cX4_overdue 0 = .ok (.iconst (-1), 1) := by decide +kernel
theorem dX4_overdue_1 : decode cX4_overdue 1 = .ok (.istore_n 1, 1) := by decide +kernel
theorem dX4_overdue_2 : decode cX4_overdue 2 = .ok (.iconst 0, 1) := by decide +kernel
theorem dX4_overdue_3 : decode cX4_overdue 3 = .ok (.istore_n 2, 1) := by decide +kernel
theorem dX4_overdue_4 : decode cX4_overdue 4 = .ok (.iload_n 2, 1) := by decide +kernel
theorem dX4_overdue_5 : decode cX4_overdue 5 = .ok (.bipush 12, 2) := by decide +kernel
theorem dX4_overdue_7 : decode cX4_overdue 7 = .ok (.if_icmp .ge 103, 3) := by decide +kernel
theorem dX4_overdue_10 : decode cX4_overdue 10 = .ok (.aload_n 0, 1) := by decide +kernel
theorem dX4_overdue_11 : decode cX4_overdue 11 = .ok (.getfield 63, 3) := by decide +kernel
theorem dX4_overdue_14 : decode cX4_overdue 14 = .ok (.iload_n 2, 1) := by decide +kernel
theorem dX4_overdue_15 : decode cX4_overdue 15 = .ok (.iaload, 1) := by decide +kernel
theorem dX4_overdue_16 : decode cX4_overdue 16 = .ok (.i2l, 1) := by decide +kernel
theorem dX4_overdue_17 : decode cX4_overdue 17 = .ok (.aload_n 0, 1) := by decide +kernel
theorem dX4_overdue_18 : decode cX4_overdue 18 = .ok (.getfield 13, 3) := by decide +kernel
theorem dX4_overdue_21 : decode cX4_overdue 21 = .ok (.iload_n 2, 1) := by decide +kernel
theorem dX4_overdue_22 : decode cX4_overdue 22 = .ok (.iaload, 1) := by decide +kernel
theorem dX4_overdue_23 : decode cX4_overdue 23 = .ok (.i2l, 1) := by decide +kernel
theorem dX4_overdue_24 : decode cX4_overdue 24 = .ok (.lmul, 1) := by decide +kernel
theorem dX4_overdue_25 : decode cX4_overdue 25 = .ok (.lstore_n 3, 1) := by decide +kernel
theorem dX4_overdue_26 : decode cX4_overdue 26 = .ok (.aload_n 0, 1) := by decide +kernel
theorem dX4_overdue_27 : decode cX4_overdue 27 = .ok (.getfield 60, 3) := by decide +kernel
theorem dX4_overdue_30 : decode cX4_overdue 30 = .ok (.iload_n 2, 1) := by decide +kernel
theorem dX4_overdue_31 : decode cX4_overdue 31 = .ok (.baload, 1) := by decide +kernel
theorem dX4_overdue_32 : decode cX4_overdue 32 = .ok (.ifCond .eq 34, 3) := by decide +kernel
theorem dX4_overdue_35 : decode cX4_overdue 35 = .ok (.aload_n 0, 1) := by decide +kernel
theorem dX4_overdue_36 : decode cX4_overdue 36 = .ok (.getfield 7, 3) := by decide +kernel
theorem dX4_overdue_39 : decode cX4_overdue 39 = .ok (.iconst 0, 1) := by decide +kernel
theorem dX4_overdue_40 : decode cX4_overdue 40 = .ok (.iaload, 1) := by decide +kernel
theorem dX4_overdue_41 : decode cX4_overdue 41 = .ok (.ifCond .le 25, 3) := by decide +kernel
theorem dX4_overdue_44 : decode cX4_overdue 44 = .ok (.lload_n 3, 1) := by decide +kernel
theorem dX4_overdue_45 : decode cX4_overdue 45 = .ok (.aload_n 0, 1) := by decide +kernel
theorem dX4_overdue_46 : decode cX4_overdue 46 = .ok (.getfield 7, 3) := by decide +kernel
theorem dX4_overdue_49 : decode cX4_overdue 49 = .ok (.iconst 0, 1) := by decide +kernel
theorem dX4_overdue_50 : decode cX4_overdue 50 = .ok (.iaload, 1) := by decide +kernel
theorem dX4_overdue_51 : decode cX4_overdue 51 = .ok (.i2l, 1) := by decide +kernel
theorem dX4_overdue_52 : decode cX4_overdue 52 = .ok (.aload_n 0, 1) := by decide +kernel
theorem dX4_overdue_53 : decode cX4_overdue 53 = .ok (.getfield 123, 3) := by decide +kernel
theorem dX4_overdue_56 : decode cX4_overdue 56 = .ok (.i2l, 1) := by decide +kernel
theorem dX4_overdue_57 : decode cX4_overdue 57 = .ok (.lmul, 1) := by decide +kernel
theorem dX4_overdue_58 : decode cX4_overdue 58 = .ok (.lcmp, 1) := by decide +kernel
theorem dX4_overdue_59 : decode cX4_overdue 59 = .ok (.ifCond .lt 7, 3) := by decide +kernel
theorem dX4_overdue_62 : decode cX4_overdue 62 = .ok (.iconst 1, 1) := by decide +kernel
theorem dX4_overdue_63 : decode cX4_overdue 63 = .ok (.goto 4, 3) := by decide +kernel
theorem dX4_overdue_66 : decode cX4_overdue 66 = .ok (.iconst 0, 1) := by decide +kernel
theorem dX4_overdue_67 : decode cX4_overdue 67 = .ok (.istore 5, 2) := by decide +kernel
theorem dX4_overdue_69 : decode cX4_overdue 69 = .ok (.iload 5, 2) := by decide +kernel
theorem dX4_overdue_71 : decode cX4_overdue 71 = .ok (.ifCond .eq 31, 3) := by decide +kernel
theorem dX4_overdue_74 : decode cX4_overdue 74 = .ok (.iload_n 1, 1) := by decide +kernel
theorem dX4_overdue_75 : decode cX4_overdue 75 = .ok (.ifCond .lt 23, 3) := by decide +kernel
theorem dX4_overdue_78 : decode cX4_overdue 78 = .ok (.lload_n 3, 1) := by decide +kernel
theorem dX4_overdue_79 : decode cX4_overdue 79 = .ok (.aload_n 0, 1) := by decide +kernel
theorem dX4_overdue_80 : decode cX4_overdue 80 = .ok (.getfield 63, 3) := by decide +kernel
theorem dX4_overdue_83 : decode cX4_overdue 83 = .ok (.iload_n 1, 1) := by decide +kernel
theorem dX4_overdue_84 : decode cX4_overdue 84 = .ok (.iaload, 1) := by decide +kernel
theorem dX4_overdue_85 : decode cX4_overdue 85 = .ok (.i2l, 1) := by decide +kernel
theorem dX4_overdue_86 : decode cX4_overdue 86 = .ok (.aload_n 0, 1) := by decide +kernel
theorem dX4_overdue_87 : decode cX4_overdue 87 = .ok (.getfield 13, 3) := by decide +kernel
theorem dX4_overdue_90 : decode cX4_overdue 90 = .ok (.iload_n 1, 1) := by decide +kernel
theorem dX4_overdue_91 : decode cX4_overdue 91 = .ok (.iaload, 1) := by decide +kernel
theorem dX4_overdue_92 : decode cX4_overdue 92 = .ok (.i2l, 1) := by decide +kernel
theorem dX4_overdue_93 : decode cX4_overdue 93 = .ok (.lmul, 1) := by decide +kernel
theorem dX4_overdue_94 : decode cX4_overdue 94 = .ok (.lcmp, 1) := by decide +kernel
theorem dX4_overdue_95 : decode cX4_overdue 95 = .ok (.ifCond .le 7, 3) := by decide +kernel
theorem dX4_overdue_98 : decode cX4_overdue 98 = .ok (.iload_n 2, 1) := by decide +kernel
theorem dX4_overdue_99 : decode cX4_overdue 99 = .ok (.goto 4, 3) := by decide +kernel
theorem dX4_overdue_102 : decode cX4_overdue 102 = .ok (.iload_n 1, 1) := by decide +kernel
theorem dX4_overdue_103 : decode cX4_overdue 103 = .ok (.istore_n 1, 1) := by decide +kernel
theorem dX4_overdue_104 : decode cX4_overdue 104 = .ok (.iinc 2 1, 3) := by decide +kernel
theorem dX4_overdue_107 : decode cX4_overdue 107 = .ok (.goto (-103), 3) := by decide +kernel
theorem dX4_overdue_110 : decode cX4_overdue 110 = .ok (.iload_n 1, 1) := by decide +kernel
theorem dX4_overdue_111 : decode cX4_overdue 111 = .ok (.ireturn, 1) := by decide +kernel
theorem dX4_electorAt_0 : decode cX4_electorAt 0 = .ok (.lconst 0, 1) := by decide +kernel
theorem dX4_electorAt_1 : decode cX4_electorAt 1 = .ok (.lstore_n 3, 1) := by decide +kernel
theorem dX4_electorAt_2 : decode cX4_electorAt 2 = .ok (.iconst 0, 1) := by decide +kernel
theorem dX4_electorAt_3 : decode cX4_electorAt 3 = .ok (.istore 5, 2) := by decide +kernel
theorem dX4_electorAt_5 : decode cX4_electorAt 5 = .ok (.iload 5, 2) := by decide +kernel
theorem dX4_electorAt_7 : decode cX4_electorAt 7 = .ok (.bipush 12, 2) := by decide +kernel
theorem dX4_electorAt_9 : decode cX4_electorAt 9 = .ok (.if_icmp .ge 53, 3) := by decide +kernel
theorem dX4_electorAt_12 : decode cX4_electorAt 12 = .ok (.lload_n 3, 1) := by decide +kernel
theorem dX4_electorAt_13 : decode cX4_electorAt 13 = .ok (.aload_n 0, 1) := by decide +kernel
theorem dX4_electorAt_14 : decode cX4_electorAt 14 = .ok (.getfield 60, 3) := by decide +kernel
theorem dX4_electorAt_17 : decode cX4_electorAt 17 = .ok (.iload 5, 2) := by decide +kernel
theorem dX4_electorAt_19 : decode cX4_electorAt 19 = .ok (.baload, 1) := by decide +kernel
theorem dX4_electorAt_20 : decode cX4_electorAt 20 = .ok (.ifCond .eq 14, 3) := by decide +kernel
theorem dX4_electorAt_23 : decode cX4_electorAt 23 = .ok (.aload_n 0, 1) := by decide +kernel
theorem dX4_electorAt_24 : decode cX4_electorAt 24 = .ok (.getfield 13, 3) := by decide +kernel
theorem dX4_electorAt_27 : decode cX4_electorAt 27 = .ok (.iload 5, 2) := by decide +kernel
theorem dX4_electorAt_29 : decode cX4_electorAt 29 = .ok (.iaload, 1) := by decide +kernel
theorem dX4_electorAt_30 : decode cX4_electorAt 30 = .ok (.i2l, 1) := by decide +kernel
theorem dX4_electorAt_31 : decode cX4_electorAt 31 = .ok (.goto 4, 3) := by decide +kernel
theorem dX4_electorAt_34 : decode cX4_electorAt 34 = .ok (.lconst 0, 1) := by decide +kernel
theorem dX4_electorAt_35 : decode cX4_electorAt 35 = .ok (.ladd, 1) := by decide +kernel
theorem dX4_electorAt_36 : decode cX4_electorAt 36 = .ok (.lstore_n 3, 1) := by decide +kernel
theorem dX4_electorAt_37 : decode cX4_electorAt 37 = .ok (.aload_n 0, 1) := by decide +kernel
theorem dX4_electorAt_38 : decode cX4_electorAt 38 = .ok (.getfield 60, 3) := by decide +kernel
theorem dX4_electorAt_41 : decode cX4_electorAt 41 = .ok (.iload 5, 2) := by decide +kernel
theorem dX4_electorAt_43 : decode cX4_electorAt 43 = .ok (.baload, 1) := by decide +kernel
theorem dX4_electorAt_44 : decode cX4_electorAt 44 = .ok (.ifCond .eq 12, 3) := by decide +kernel
theorem dX4_electorAt_47 : decode cX4_electorAt 47 = .ok (.lload_n 3, 1) := by decide +kernel
theorem dX4_electorAt_48 : decode cX4_electorAt 48 = .ok (.lload_n 1, 1) := by decide +kernel
theorem dX4_electorAt_49 : decode cX4_electorAt 49 = .ok (.lcmp, 1) := by decide +kernel
theorem dX4_electorAt_50 : decode cX4_electorAt 50 = .ok (.ifCond .le 6, 3) := by decide +kernel
theorem dX4_electorAt_53 : decode cX4_electorAt 53 = .ok (.iload 5, 2) := by decide +kernel
theorem dX4_electorAt_55 : decode cX4_electorAt 55 = .ok (.ireturn, 1) := by decide +kernel
theorem dX4_electorAt_56 : decode cX4_electorAt 56 = .ok (.iinc 5 1, 3) := by decide +kernel
theorem dX4_electorAt_59 : decode cX4_electorAt 59 = .ok (.goto (-54), 3) := by decide +kernel
theorem dX4_electorAt_62 : decode cX4_electorAt 62 = .ok (.iconst (-1), 1) := by decide +kernel
theorem dX4_electorAt_63 : decode cX4_electorAt 63 = .ok (.ireturn, 1) := by decide +kernel
theorem dX4_make_0 : decode cX4_make 0 = .ok (.aload_n 0, 1) := by decide +kernel
theorem dX4_make_1 : decode cX4_make 1 = .ok (.aload_n 0, 1) := by decide +kernel
theorem dX4_make_2 : decode cX4_make 2 = .ok (.getfield 130, 3) := by decide +kernel
theorem dX4_make_5 : decode cX4_make 5 = .ok (.putfield 137, 3) := by decide +kernel
theorem dX4_make_8 : decode cX4_make 8 = .ok (.iconst 0, 1) := by decide +kernel
theorem dX4_make_9 : decode cX4_make 9 = .ok (.istore_n 2, 1) := by decide +kernel
theorem dX4_make_10 : decode cX4_make 10 = .ok (.iload_n 2, 1) := by decide +kernel
theorem dX4_make_11 : decode cX4_make 11 = .ok (.iload_n 1, 1) := by decide +kernel
theorem dX4_make_12 : decode cX4_make 12 = .ok (.if_icmp .ge 105, 3) := by decide +kernel
theorem dX4_make_15 : decode cX4_make 15 = .ok (.aload_n 0, 1) := by decide +kernel
theorem dX4_make_16 : decode cX4_make 16 = .ok (.getfield 69, 3) := by decide +kernel
theorem dX4_make_19 : decode cX4_make 19 = .ok (.iload_n 2, 1) := by decide +kernel
theorem dX4_make_20 : decode cX4_make 20 = .ok (.iconst 0, 1) := by decide +kernel
theorem dX4_make_21 : decode cX4_make 21 = .ok (.iastore, 1) := by decide +kernel
theorem dX4_make_22 : decode cX4_make 22 = .ok (.aload_n 0, 1) := by decide +kernel
theorem dX4_make_23 : decode cX4_make 23 = .ok (.invokevirtual 142, 3) := by decide +kernel
theorem dX4_make_26 : decode cX4_make 26 = .ok (.istore_n 3, 1) := by decide +kernel
theorem dX4_make_27 : decode cX4_make 27 = .ok (.iload_n 3, 1) := by decide +kernel
theorem dX4_make_28 : decode cX4_make 28 = .ok (.ifCond .ge 14, 3) := by decide +kernel
theorem dX4_make_31 : decode cX4_make 31 = .ok (.aload_n 0, 1) := by decide +kernel
theorem dX4_make_32 : decode cX4_make 32 = .ok (.aload_n 0, 1) := by decide +kernel
theorem dX4_make_33 : decode cX4_make 33 = .ok (.iload_n 2, 1) := by decide +kernel
theorem dX4_make_34 : decode cX4_make 34 = .ok (.invokevirtual 146, 3) := by decide +kernel
theorem dX4_make_37 : decode cX4_make 37 = .ok (.i2l, 1) := by decide +kernel
theorem dX4_make_38 : decode cX4_make 38 = .ok (.invokevirtual 150, 3) := by decide +kernel
theorem dX4_make_41 : decode cX4_make 41 = .ok (.istore_n 3, 1) := by decide +kernel
theorem dX4_make_42 : decode cX4_make 42 = .ok (.aload_n 0, 1) := by decide +kernel
theorem dX4_make_43 : decode cX4_make 43 = .ok (.getfield 66, 3) := by decide +kernel
theorem dX4_make_46 : decode cX4_make 46 = .ok (.iload_n 2, 1) := by decide +kernel
theorem dX4_make_47 : decode cX4_make 47 = .ok (.iload_n 3, 1) := by decide +kernel
theorem dX4_make_48 : decode cX4_make 48 = .ok (.iastore, 1) := by decide +kernel
theorem dX4_make_49 : decode cX4_make 49 = .ok (.iconst 0, 1) := by decide +kernel
theorem dX4_make_50 : decode cX4_make 50 = .ok (.istore 4, 2) := by decide +kernel
theorem dX4_make_52 : decode cX4_make 52 = .ok (.iload 4, 2) := by decide +kernel
theorem dX4_make_54 : decode cX4_make 54 = .ok (.bipush 12, 2) := by decide +kernel
theorem dX4_make_56 : decode cX4_make 56 = .ok (.if_icmp .ge 55, 3) := by decide +kernel
theorem dX4_make_59 : decode cX4_make 59 = .ok (.aload_n 0, 1) := by decide +kernel
theorem dX4_make_60 : decode cX4_make 60 = .ok (.getfield 63, 3) := by decide +kernel
theorem dX4_make_63 : decode cX4_make 63 = .ok (.iload 4, 2) := by decide +kernel
theorem dX4_make_65 : decode cX4_make 65 = .ok (.iload 4, 2) := by decide +kernel
theorem dX4_make_67 : decode cX4_make 67 = .ok (.iload_n 3, 1) := by decide +kernel
theorem dX4_make_68 : decode cX4_make 68 = .ok (.if_icmp .ne 7, 3) := by decide +kernel
theorem dX4_make_71 : decode cX4_make 71 = .ok (.iconst 0, 1) := by decide +kernel
theorem dX4_make_72 : decode cX4_make 72 = .ok (.goto 32, 3) := by decide +kernel
theorem dX4_make_75 : decode cX4_make 75 = .ok (.aload_n 0, 1) := by decide +kernel
theorem dX4_make_76 : decode cX4_make 76 = .ok (.getfield 60, 3) := by decide +kernel
theorem dX4_make_79 : decode cX4_make 79 = .ok (.iload 4, 2) := by decide +kernel
theorem dX4_make_81 : decode cX4_make 81 = .ok (.baload, 1) := by decide +kernel
theorem dX4_make_82 : decode cX4_make 82 = .ok (.ifCond .eq 15, 3) := by decide +kernel
theorem dX4_make_85 : decode cX4_make 85 = .ok (.aload_n 0, 1) := by decide +kernel
theorem dX4_make_86 : decode cX4_make 86 = .ok (.getfield 63, 3) := by decide +kernel
theorem dX4_make_89 : decode cX4_make 89 = .ok (.iload 4, 2) := by decide +kernel
theorem dX4_make_91 : decode cX4_make 91 = .ok (.iaload, 1) := by decide +kernel
theorem dX4_make_92 : decode cX4_make 92 = .ok (.iconst 1, 1) := by decide +kernel
theorem dX4_make_93 : decode cX4_make 93 = .ok (.iadd, 1) := by decide +kernel
theorem dX4_make_94 : decode cX4_make 94 = .ok (.goto 10, 3) := by decide +kernel
theorem dX4_make_97 : decode cX4_make 97 = .ok (.aload_n 0, 1) := by decide +kernel
theorem dX4_make_98 : decode cX4_make 98 = .ok (.getfield 63, 3) := by decide +kernel
theorem dX4_make_101 : decode cX4_make 101 = .ok (.iload 4, 2) := by decide +kernel
theorem dX4_make_103 : decode cX4_make 103 = .ok (.iaload, 1) := by decide +kernel
theorem dX4_make_104 : decode cX4_make 104 = .ok (.iastore, 1) := by decide +kernel
theorem dX4_make_105 : decode cX4_make 105 = .ok (.iinc 4 1, 3) := by decide +kernel
theorem dX4_make_108 : decode cX4_make 108 = .ok (.goto (-56), 3) := by decide +kernel
theorem dX4_make_111 : decode cX4_make 111 = .ok (.iinc 2 1, 3) := by decide +kernel
theorem dX4_make_114 : decode cX4_make 114 = .ok (.goto (-104), 3) := by decide +kernel
theorem dX4_make_117 : decode cX4_make 117 = .ok (.return_, 1) := by decide +kernel
theorem dX4_draw_0 : decode cX4_draw 0 = .ok (.iload_n 1, 1) := by decide +kernel
theorem dX4_draw_1 : decode cX4_draw 1 = .ok (.i2l, 1) := by decide +kernel
theorem dX4_draw_2 : decode cX4_draw 2 = .ok (.lconst 1, 1) := by decide +kernel
theorem dX4_draw_3 : decode cX4_draw 3 = .ok (.ldc2_w 154, 3) := by decide +kernel
theorem dX4_draw_6 : decode cX4_draw 6 = .ok (.invokestatic 74, 3) := by decide +kernel
theorem dX4_draw_9 : decode cX4_draw 9 = .ok (.ifCond .ne 5, 3) := by decide +kernel
theorem dX4_draw_12 : decode cX4_draw 12 = .ok (.iconst (-1), 1) := by decide +kernel
theorem dX4_draw_13 : decode cX4_draw 13 = .ok (.ireturn, 1) := by decide +kernel
theorem dX4_draw_14 : decode cX4_draw 14 = .ok (.aload_n 0, 1) := by decide +kernel
theorem dX4_draw_15 : decode cX4_draw 15 = .ok (.getfield 94, 3) := by decide +kernel
theorem dX4_draw_18 : decode cX4_draw 18 = .ok (.iconst 2, 1) := by decide +kernel
theorem dX4_draw_19 : decode cX4_draw 19 = .ok (.if_icmp .eq 6, 3) := by decide +kernel
theorem dX4_draw_22 : decode cX4_draw 22 = .ok (.bipush (-3), 2) := by decide +kernel
theorem dX4_draw_24 : decode cX4_draw 24 = .ok (.ireturn, 1) := by decide +kernel
theorem dX4_draw_25 : decode cX4_draw 25 = .ok (.aload_n 0, 1) := by decide +kernel
theorem dX4_draw_26 : decode cX4_draw 26 = .ok (.iconst (-1), 1) := by decide +kernel
theorem dX4_draw_27 : decode cX4_draw 27 = .ok (.lconst 0, 1) := by decide +kernel
theorem dX4_draw_28 : decode cX4_draw 28 = .ok (.iconst 0, 1) := by decide +kernel
theorem dX4_draw_29 : decode cX4_draw 29 = .ok (.invokevirtual 156, 3) := by decide +kernel
theorem dX4_draw_32 : decode cX4_draw 32 = .ok (.istore_n 2, 1) := by decide +kernel
theorem dX4_draw_33 : decode cX4_draw 33 = .ok (.aload_n 0, 1) := by decide +kernel
theorem dX4_draw_34 : decode cX4_draw 34 = .ok (.aload_n 0, 1) := by decide +kernel
theorem dX4_draw_35 : decode cX4_draw 35 = .ok (.getfield 130, 3) := by decide +kernel
theorem dX4_draw_38 : decode cX4_draw 38 = .ok (.putfield 126, 3) := by decide +kernel
theorem dX4_draw_41 : decode cX4_draw 41 = .ok (.aload_n 0, 1) := by decide +kernel
theorem dX4_draw_42 : decode cX4_draw 42 = .ok (.aload_n 0, 1) := by decide +kernel
theorem dX4_draw_43 : decode cX4_draw 43 = .ok (.getfield 123, 3) := by decide +kernel
theorem dX4_draw_46 : decode cX4_draw 46 = .ok (.putfield 160, 3) := by decide +kernel
theorem dX4_draw_49 : decode cX4_draw 49 = .ok (.iconst 0, 1) := by decide +kernel
theorem dX4_draw_50 : decode cX4_draw 50 = .ok (.istore_n 3, 1) := by decide +kernel
theorem dX4_draw_51 : decode cX4_draw 51 = .ok (.iload_n 3, 1) := by decide +kernel
theorem dX4_draw_52 : decode cX4_draw 52 = .ok (.bipush 12, 2) := by decide +kernel
theorem dX4_draw_54 : decode cX4_draw 54 = .ok (.if_icmp .ge 86, 3) := by decide +kernel
theorem dX4_draw_57 : decode cX4_draw 57 = .ok (.aload_n 0, 1) := by decide +kernel
theorem dX4_draw_58 : decode cX4_draw 58 = .ok (.getfield 39, 3) := by decide +kernel
theorem dX4_draw_61 : decode cX4_draw 61 = .ok (.iload_n 3, 1) := by decide +kernel
theorem dX4_draw_62 : decode cX4_draw 62 = .ok (.baload, 1) := by decide +kernel
theorem dX4_draw_63 : decode cX4_draw 63 = .ok (.ifCond .eq 71, 3) := by decide +kernel
theorem dX4_draw_66 : decode cX4_draw 66 = .ok (.aload_n 0, 1) := by decide +kernel
theorem dX4_draw_67 : decode cX4_draw 67 = .ok (.getfield 42, 3) := by decide +kernel
theorem dX4_draw_70 : decode cX4_draw 70 = .ok (.iload_n 3, 1) := by decide +kernel
theorem dX4_draw_71 : decode cX4_draw 71 = .ok (.baload, 1) := by decide +kernel
theorem dX4_draw_72 : decode cX4_draw 72 = .ok (.ifCond .ne 62, 3) := by decide +kernel
theorem dX4_draw_75 : decode cX4_draw 75 = .ok (.aload_n 0, 1) := by decide +kernel
theorem dX4_draw_76 : decode cX4_draw 76 = .ok (.getfield 16, 3) := by decide +kernel
theorem dX4_draw_79 : decode cX4_draw 79 = .ok (.iload_n 3, 1) := by decide +kernel
theorem dX4_draw_80 : decode cX4_draw 80 = .ok (.laload, 1) := by decide +kernel
theorem dX4_draw_81 : decode cX4_draw 81 = .ok (.aload_n 0, 1) := by decide +kernel
theorem dX4_draw_82 : decode cX4_draw 82 = .ok (.getfield 7, 3) := by decide +kernel
theorem dX4_draw_85 : decode cX4_draw 85 = .ok (.iconst 1, 1) := by decide +kernel
theorem dX4_draw_86 : decode cX4_draw 86 = .ok (.iaload, 1) := by decide +kernel
theorem dX4_draw_87 : decode cX4_draw 87 = .ok (.i2l, 1) := by decide +kernel
theorem dX4_draw_88 : decode cX4_draw 88 = .ok (.lmul, 1) := by decide +kernel
theorem dX4_draw_89 : decode cX4_draw 89 = .ok (.ldc2_w 108, 3) := by decide +kernel
theorem dX4_draw_92 : decode cX4_draw 92 = .ok (.ldiv, 1) := by decide +kernel
theorem dX4_draw_93 : decode cX4_draw 93 = .ok (.lstore 4, 2) := by decide +kernel
theorem dX4_draw_95 : decode cX4_draw 95 = .ok (.aload_n 0, 1) := by decide +kernel
theorem dX4_draw_96 : decode cX4_draw 96 = .ok (.getfield 16, 3) := by decide +kernel
theorem dX4_draw_99 : decode cX4_draw 99 = .ok (.iload_n 3, 1) := by decide +kernel
theorem dX4_draw_100 : decode cX4_draw 100 = .ok (.dup2, 1) := by decide +kernel
theorem dX4_draw_101 : decode cX4_draw 101 = .ok (.laload, 1) := by decide +kernel
theorem dX4_draw_102 : decode cX4_draw 102 = .ok (.lload 4, 2) := by decide +kernel
theorem dX4_draw_104 : decode cX4_draw 104 = .ok (.lsub, 1) := by decide +kernel
theorem dX4_draw_105 : decode cX4_draw 105 = .ok (.lastore, 1) := by decide +kernel
theorem dX4_draw_106 : decode cX4_draw 106 = .ok (.aload_n 0, 1) := by decide +kernel
theorem dX4_draw_107 : decode cX4_draw 107 = .ok (.dup, 1) := by decide +kernel
theorem dX4_draw_108 : decode cX4_draw 108 = .ok (.getfield 163, 3) := by decide +kernel
theorem dX4_draw_111 : decode cX4_draw 111 = .ok (.lload 4, 2) := by decide +kernel
theorem dX4_draw_113 : decode cX4_draw 113 = .ok (.ladd, 1) := by decide +kernel
theorem dX4_draw_114 : decode cX4_draw 114 = .ok (.putfield 163, 3) := by decide +kernel
theorem dX4_draw_117 : decode cX4_draw 117 = .ok (.aload_n 0, 1) := by decide +kernel
theorem dX4_draw_118 : decode cX4_draw 118 = .ok (.getfield 32, 3) := by decide +kernel
theorem dX4_draw_121 : decode cX4_draw 121 = .ok (.iload_n 3, 1) := by decide +kernel
theorem dX4_draw_122 : decode cX4_draw 122 = .ok (.aload_n 0, 1) := by decide +kernel
theorem dX4_draw_123 : decode cX4_draw 123 = .ok (.getfield 112, 3) := by decide +kernel
theorem dX4_draw_126 : decode cX4_draw 126 = .ok (.aload_n 0, 1) := by decide +kernel
theorem dX4_draw_127 : decode cX4_draw 127 = .ok (.getfield 7, 3) := by decide +kernel
theorem dX4_draw_130 : decode cX4_draw 130 = .ok (.iconst 2, 1) := by decide +kernel
theorem dX4_draw_131 : decode cX4_draw 131 = .ok (.iaload, 1) := by decide +kernel
theorem dX4_draw_132 : decode cX4_draw 132 = .ok (.iadd, 1) := by decide +kernel
theorem dX4_draw_133 : decode cX4_draw 133 = .ok (.iastore, 1) := by decide +kernel
theorem dX4_draw_134 : decode cX4_draw 134 = .ok (.iinc 3 1, 3) := by decide +kernel
theorem dX4_draw_137 : decode cX4_draw 137 = .ok (.goto (-86), 3) := by decide +kernel
theorem dX4_draw_140 : decode cX4_draw 140 = .ok (.aload_n 0, 1) := by decide +kernel
theorem dX4_draw_141 : decode cX4_draw 141 = .ok (.iconst 0, 1) := by decide +kernel
theorem dX4_draw_142 : decode cX4_draw 142 = .ok (.putfield 166, 3) := by decide +kernel
theorem dX4_draw_145 : decode cX4_draw 145 = .ok (.aload_n 0, 1) := by decide +kernel
theorem dX4_draw_146 : decode cX4_draw 146 = .ok (.iload_n 2, 1) := by decide +kernel
theorem dX4_draw_147 : decode cX4_draw 147 = .ok (.ifCond .ne 7, 3) := by decide +kernel
theorem dX4_draw_150 : decode cX4_draw 150 = .ok (.iconst 0, 1) := by decide +kernel
theorem dX4_draw_151 : decode cX4_draw 151 = .ok (.goto 4, 3) := by decide +kernel
theorem dX4_draw_154 : decode cX4_draw 154 = .ok (.iload_n 1, 1) := by decide +kernel
theorem dX4_draw_155 : decode cX4_draw 155 = .ok (.putfield 169, 3) := by decide +kernel
theorem dX4_draw_158 : decode cX4_draw 158 = .ok (.aload_n 0, 1) := by decide +kernel
theorem dX4_draw_159 : decode cX4_draw 159 = .ok (.iload_n 2, 1) := by decide +kernel
theorem dX4_draw_160 : decode cX4_draw 160 = .ok (.ifCond .ne 7, 3) := by decide +kernel
theorem dX4_draw_163 : decode cX4_draw 163 = .ok (.iconst 0, 1) := by decide +kernel
theorem dX4_draw_164 : decode cX4_draw 164 = .ok (.goto 4, 3) := by decide +kernel
theorem dX4_draw_167 : decode cX4_draw 167 = .ok (.iconst 3, 1) := by decide +kernel
theorem dX4_draw_168 : decode cX4_draw 168 = .ok (.putfield 94, 3) := by decide +kernel
theorem dX4_draw_171 : decode cX4_draw 171 = .ok (.aload_n 0, 1) := by decide +kernel
theorem dX4_draw_172 : decode cX4_draw 172 = .ok (.aload_n 0, 1) := by decide +kernel
theorem dX4_draw_173 : decode cX4_draw 173 = .ok (.getfield 169, 3) := by decide +kernel
theorem dX4_draw_176 : decode cX4_draw 176 = .ok (.invokevirtual 172, 3) := by decide +kernel
theorem dX4_draw_179 : decode cX4_draw 179 = .ok (.iconst 0, 1) := by decide +kernel
theorem dX4_draw_180 : decode cX4_draw 180 = .ok (.istore_n 3, 1) := by decide +kernel
theorem dX4_draw_181 : decode cX4_draw 181 = .ok (.iload_n 3, 1) := by decide +kernel
theorem dX4_draw_182 : decode cX4_draw 182 = .ok (.aload_n 0, 1) := by decide +kernel
theorem dX4_draw_183 : decode cX4_draw 183 = .ok (.getfield 169, 3) := by decide +kernel
theorem dX4_draw_186 : decode cX4_draw 186 = .ok (.if_icmp .ge 33, 3) := by decide +kernel
theorem dX4_draw_189 : decode cX4_draw 189 = .ok (.aload_n 0, 1) := by decide +kernel
theorem dX4_draw_190 : decode cX4_draw 190 = .ok (.getfield 51, 3) := by decide +kernel
theorem dX4_draw_193 : decode cX4_draw 193 = .ok (.iload_n 3, 1) := by decide +kernel
theorem dX4_draw_194 : decode cX4_draw 194 = .ok (.aload_n 0, 1) := by decide +kernel
theorem dX4_draw_195 : decode cX4_draw 195 = .ok (.getfield 66, 3) := by decide +kernel
theorem dX4_draw_198 : decode cX4_draw 198 = .ok (.iload_n 3, 1) := by decide +kernel
theorem dX4_draw_199 : decode cX4_draw 199 = .ok (.iaload, 1) := by decide +kernel
theorem dX4_draw_200 : decode cX4_draw 200 = .ok (.iastore, 1) := by decide +kernel
theorem dX4_draw_201 : decode cX4_draw 201 = .ok (.aload_n 0, 1) := by decide +kernel
theorem dX4_draw_202 : decode cX4_draw 202 = .ok (.getfield 54, 3) := by decide +kernel
theorem dX4_draw_205 : decode cX4_draw 205 = .ok (.iload_n 3, 1) := by decide +kernel
theorem dX4_draw_206 : decode cX4_draw 206 = .ok (.aload_n 0, 1) := by decide +kernel
theorem dX4_draw_207 : decode cX4_draw 207 = .ok (.getfield 69, 3) := by decide +kernel
theorem dX4_draw_210 : decode cX4_draw 210 = .ok (.iload_n 3, 1) := by decide +kernel
theorem dX4_draw_211 : decode cX4_draw 211 = .ok (.iaload, 1) := by decide +kernel
theorem dX4_draw_212 : decode cX4_draw 212 = .ok (.iastore, 1) := by decide +kernel
theorem dX4_draw_213 : decode cX4_draw 213 = .ok (.iinc 3 1, 3) := by decide +kernel
theorem dX4_draw_216 : decode cX4_draw 216 = .ok (.goto (-35), 3) := by decide +kernel
theorem dX4_draw_219 : decode cX4_draw 219 = .ok (.iconst 0, 1) := by decide +kernel
theorem dX4_draw_220 : decode cX4_draw 220 = .ok (.istore_n 3, 1) := by decide +kernel
theorem dX4_draw_221 : decode cX4_draw 221 = .ok (.iload_n 3, 1) := by decide +kernel
theorem dX4_draw_222 : decode cX4_draw 222 = .ok (.bipush 12, 2) := by decide +kernel
theorem dX4_draw_224 : decode cX4_draw 224 = .ok (.if_icmp .ge 21, 3) := by decide +kernel
theorem dX4_draw_227 : decode cX4_draw 227 = .ok (.aload_n 0, 1) := by decide +kernel
theorem dX4_draw_228 : decode cX4_draw 228 = .ok (.getfield 20, 3) := by decide +kernel
theorem dX4_draw_231 : decode cX4_draw 231 = .ok (.iload_n 3, 1) := by decide +kernel
theorem dX4_draw_232 : decode cX4_draw 232 = .ok (.aload_n 0, 1) := by decide +kernel
theorem dX4_draw_233 : decode cX4_draw 233 = .ok (.getfield 63, 3) := by decide +kernel
theorem dX4_draw_236 : decode cX4_draw 236 = .ok (.iload_n 3, 1) := by decide +kernel
theorem dX4_draw_237 : decode cX4_draw 237 = .ok (.iaload, 1) := by decide +kernel
theorem dX4_draw_238 : decode cX4_draw 238 = .ok (.iastore, 1) := by decide +kernel
theorem dX4_draw_239 : decode cX4_draw 239 = .ok (.iinc 3 1, 3) := by decide +kernel
theorem dX4_draw_242 : decode cX4_draw 242 = .ok (.goto (-21), 3) := by decide +kernel
theorem dX4_draw_245 : decode cX4_draw 245 = .ok (.iload_n 2, 1) := by decide +kernel
theorem dX4_draw_246 : decode cX4_draw 246 = .ok (.ireturn, 1) := by decide +kernel
theorem dX4_turn_0 : decode cX4_turn 0 = .ok (.aload_n 0, 1) := by decide +kernel
theorem dX4_turn_1 : decode cX4_turn 1 = .ok (.getfield 94, 3) := by decide +kernel
theorem dX4_turn_4 : decode cX4_turn 4 = .ok (.iconst 3, 1) := by decide +kernel
theorem dX4_turn_5 : decode cX4_turn 5 = .ok (.if_icmp .eq 6, 3) := by decide +kernel
theorem dX4_turn_8 : decode cX4_turn 8 = .ok (.bipush (-3), 2) := by decide +kernel
theorem dX4_turn_10 : decode cX4_turn 10 = .ok (.ireturn, 1) := by decide +kernel
theorem dX4_turn_11 : decode cX4_turn 11 = .ok (.aload_n 0, 1) := by decide +kernel
theorem dX4_turn_12 : decode cX4_turn 12 = .ok (.getfield 51, 3) := by decide +kernel
theorem dX4_turn_15 : decode cX4_turn 15 = .ok (.aload_n 0, 1) := by decide +kernel
theorem dX4_turn_16 : decode cX4_turn 16 = .ok (.getfield 166, 3) := by decide +kernel
theorem dX4_turn_19 : decode cX4_turn 19 = .ok (.iaload, 1) := by decide +kernel
theorem dX4_turn_20 : decode cX4_turn 20 = .ok (.istore_n 2, 1) := by decide +kernel
theorem dX4_turn_21 : decode cX4_turn 21 = .ok (.aload_n 0, 1) := by decide +kernel
theorem dX4_turn_22 : decode cX4_turn 22 = .ok (.dup, 1) := by decide +kernel
theorem dX4_turn_23 : decode cX4_turn 23 = .ok (.getfield 166, 3) := by decide +kernel
theorem dX4_turn_26 : decode cX4_turn 26 = .ok (.iconst 1, 1) := by decide +kernel
theorem dX4_turn_27 : decode cX4_turn 27 = .ok (.iadd, 1) := by decide +kernel
theorem dX4_turn_28 : decode cX4_turn 28 = .ok (.putfield 166, 3) := by decide +kernel
theorem dX4_turn_31 : decode cX4_turn 31 = .ok (.iload_n 1, 1) := by decide +kernel
theorem dX4_turn_32 : decode cX4_turn 32 = .ok (.ifCond .eq 23, 3) := by decide +kernel
theorem dX4_turn_35 : decode cX4_turn 35 = .ok (.aload_n 0, 1) := by decide +kernel
theorem dX4_turn_36 : decode cX4_turn 36 = .ok (.getfield 23, 3) := by decide +kernel
theorem dX4_turn_39 : decode cX4_turn 39 = .ok (.iload_n 2, 1) := by decide +kernel
theorem dX4_turn_40 : decode cX4_turn 40 = .ok (.dup2, 1) := by decide +kernel
theorem dX4_turn_41 : decode cX4_turn 41 = .ok (.iaload, 1) := by decide +kernel
theorem dX4_turn_42 : decode cX4_turn 42 = .ok (.iconst 1, 1) := by decide +kernel
theorem dX4_turn_43 : decode cX4_turn 43 = .ok (.iadd, 1) := by decide +kernel
theorem dX4_turn_44 : decode cX4_turn 44 = .ok (.iastore, 1) := by decide +kernel
theorem dX4_turn_45 : decode cX4_turn 45 = .ok (.aload_n 0, 1) := by decide +kernel
theorem dX4_turn_46 : decode cX4_turn 46 = .ok (.getfield 29, 3) := by decide +kernel
theorem dX4_turn_49 : decode cX4_turn 49 = .ok (.iload_n 2, 1) := by decide +kernel
theorem dX4_turn_50 : decode cX4_turn 50 = .ok (.iconst 0, 1) := by decide +kernel
theorem dX4_turn_51 : decode cX4_turn 51 = .ok (.iastore, 1) := by decide +kernel
theorem dX4_turn_52 : decode cX4_turn 52 = .ok (.goto 83, 3) := by decide +kernel
theorem dX4_turn_55 : decode cX4_turn 55 = .ok (.aload_n 0, 1) := by decide +kernel
theorem dX4_turn_56 : decode cX4_turn 56 = .ok (.getfield 26, 3) := by decide +kernel
theorem dX4_turn_59 : decode cX4_turn 59 = .ok (.iload_n 2, 1) := by decide +kernel
theorem dX4_turn_60 : decode cX4_turn 60 = .ok (.dup2, 1) := by decide +kernel
theorem dX4_turn_61 : decode cX4_turn 61 = .ok (.iaload, 1) := by decide +kernel
theorem dX4_turn_62 : decode cX4_turn 62 = .ok (.iconst 1, 1) := by decide +kernel
theorem dX4_turn_63 : decode cX4_turn 63 = .ok (.iadd, 1) := by decide +kernel
theorem dX4_turn_64 : decode cX4_turn 64 = .ok (.iastore, 1) := by decide +kernel
theorem dX4_turn_65 : decode cX4_turn 65 = .ok (.aload_n 0, 1) := by decide +kernel
theorem dX4_turn_66 : decode cX4_turn 66 = .ok (.getfield 29, 3) := by decide +kernel
theorem dX4_turn_69 : decode cX4_turn 69 = .ok (.iload_n 2, 1) := by decide +kernel
theorem dX4_turn_70 : decode cX4_turn 70 = .ok (.dup2, 1) := by decide +kernel
theorem dX4_turn_71 : decode cX4_turn 71 = .ok (.iaload, 1) := by decide +kernel
theorem dX4_turn_72 : decode cX4_turn 72 = .ok (.iconst 1, 1) := by decide +kernel
theorem dX4_turn_73 : decode cX4_turn 73 = .ok (.iadd, 1) := by decide +kernel
theorem dX4_turn_74 : decode cX4_turn 74 = .ok (.iastore, 1) := by decide +kernel
theorem dX4_turn_75 : decode cX4_turn 75 = .ok (.aload_n 0, 1) := by decide +kernel
theorem dX4_turn_76 : decode cX4_turn 76 = .ok (.getfield 29, 3) := by decide +kernel
theorem dX4_turn_79 : decode cX4_turn 79 = .ok (.iload_n 2, 1) := by decide +kernel
theorem dX4_turn_80 : decode cX4_turn 80 = .ok (.iaload, 1) := by decide +kernel
theorem dX4_turn_81 : decode cX4_turn 81 = .ok (.aload_n 0, 1) := by decide +kernel
theorem dX4_turn_82 : decode cX4_turn 82 = .ok (.getfield 7, 3) := by decide +kernel
theorem dX4_turn_85 : decode cX4_turn 85 = .ok (.iconst 3, 1) := by decide +kernel
theorem dX4_turn_86 : decode cX4_turn 86 = .ok (.iaload, 1) := by decide +kernel
theorem dX4_turn_87 : decode cX4_turn 87 = .ok (.if_icmp .lt 48, 3) := by decide +kernel
theorem dX4_turn_90 : decode cX4_turn 90 = .ok (.aload_n 0, 1) := by decide +kernel
theorem dX4_turn_91 : decode cX4_turn 91 = .ok (.getfield 112, 3) := by decide +kernel
theorem dX4_turn_94 : decode cX4_turn 94 = .ok (.aload_n 0, 1) := by decide +kernel
theorem dX4_turn_95 : decode cX4_turn 95 = .ok (.getfield 7, 3) := by decide +kernel
theorem dX4_turn_98 : decode cX4_turn 98 = .ok (.iconst 2, 1) := by decide +kernel
theorem dX4_turn_99 : decode cX4_turn 99 = .ok (.iaload, 1) := by decide +kernel
theorem dX4_turn_100 : decode cX4_turn 100 = .ok (.iadd, 1) := by decide +kernel
theorem dX4_turn_101 : decode cX4_turn 101 = .ok (.istore_n 3, 1) := by decide +kernel
theorem dX4_turn_102 : decode cX4_turn 102 = .ok (.aload_n 0, 1) := by decide +kernel
theorem dX4_turn_103 : decode cX4_turn 103 = .ok (.getfield 32, 3) := by decide +kernel
theorem dX4_turn_106 : decode cX4_turn 106 = .ok (.iload_n 2, 1) := by decide +kernel
theorem dX4_turn_107 : decode cX4_turn 107 = .ok (.aload_n 0, 1) := by decide +kernel
theorem dX4_turn_108 : decode cX4_turn 108 = .ok (.getfield 32, 3) := by decide +kernel
theorem dX4_turn_111 : decode cX4_turn 111 = .ok (.iload_n 2, 1) := by decide +kernel
theorem dX4_turn_112 : decode cX4_turn 112 = .ok (.iaload, 1) := by decide +kernel
theorem dX4_turn_113 : decode cX4_turn 113 = .ok (.iload_n 3, 1) := by decide +kernel
theorem dX4_turn_114 : decode cX4_turn 114 = .ok (.if_icmp .le 12, 3) := by decide +kernel
theorem dX4_turn_117 : decode cX4_turn 117 = .ok (.aload_n 0, 1) := by decide +kernel
theorem dX4_turn_118 : decode cX4_turn 118 = .ok (.getfield 32, 3) := by decide +kernel
theorem dX4_turn_121 : decode cX4_turn 121 = .ok (.iload_n 2, 1) := by decide +kernel
theorem dX4_turn_122 : decode cX4_turn 122 = .ok (.iaload, 1) := by decide +kernel
theorem dX4_turn_123 : decode cX4_turn 123 = .ok (.goto 4, 3) := by decide +kernel
theorem dX4_turn_126 : decode cX4_turn 126 = .ok (.iload_n 3, 1) := by decide +kernel
theorem dX4_turn_127 : decode cX4_turn 127 = .ok (.iastore, 1) := by decide +kernel
theorem dX4_turn_128 : decode cX4_turn 128 = .ok (.aload_n 0, 1) := by decide +kernel
theorem dX4_turn_129 : decode cX4_turn 129 = .ok (.getfield 29, 3) := by decide +kernel
theorem dX4_turn_132 : decode cX4_turn 132 = .ok (.iload_n 2, 1) := by decide +kernel
theorem dX4_turn_133 : decode cX4_turn 133 = .ok (.iconst 0, 1) := by decide +kernel
theorem dX4_turn_134 : decode cX4_turn 134 = .ok (.iastore, 1) := by decide +kernel
theorem dX4_turn_135 : decode cX4_turn 135 = .ok (.aload_n 0, 1) := by decide +kernel
theorem dX4_turn_136 : decode cX4_turn 136 = .ok (.getfield 166, 3) := by decide +kernel
theorem dX4_turn_139 : decode cX4_turn 139 = .ok (.aload_n 0, 1) := by decide +kernel
theorem dX4_turn_140 : decode cX4_turn 140 = .ok (.getfield 169, 3) := by decide +kernel
theorem dX4_turn_143 : decode cX4_turn 143 = .ok (.if_icmp .ne 8, 3) := by decide +kernel
theorem dX4_turn_146 : decode cX4_turn 146 = .ok (.aload_n 0, 1) := by decide +kernel
theorem dX4_turn_147 : decode cX4_turn 147 = .ok (.iconst 0, 1) := by decide +kernel
theorem dX4_turn_148 : decode cX4_turn 148 = .ok (.putfield 94, 3) := by decide +kernel
theorem dX4_turn_151 : decode cX4_turn 151 = .ok (.aload_n 0, 1) := by decide +kernel
theorem dX4_turn_152 : decode cX4_turn 152 = .ok (.getfield 169, 3) := by decide +kernel
theorem dX4_turn_155 : decode cX4_turn 155 = .ok (.aload_n 0, 1) := by decide +kernel
theorem dX4_turn_156 : decode cX4_turn 156 = .ok (.getfield 166, 3) := by decide +kernel
theorem dX4_turn_159 : decode cX4_turn 159 = .ok (.isub, 1) := by decide +kernel
theorem dX4_turn_160 : decode cX4_turn 160 = .ok (.ireturn, 1) := by decide +kernel
theorem dX4_leader_0 : decode cX4_leader 0 = .ok (.iload_n 1, 1) := by decide +kernel
theorem dX4_leader_1 : decode cX4_leader 1 = .ok (.ifCond .ge 7, 3) := by decide +kernel
theorem dX4_leader_4 : decode cX4_leader 4 = .ok (.iconst (-1), 1) := by decide +kernel
theorem dX4_leader_5 : decode cX4_leader 5 = .ok (.goto 22, 3) := by decide +kernel
theorem dX4_leader_8 : decode cX4_leader 8 = .ok (.iload_n 1, 1) := by decide +kernel
theorem dX4_leader_9 : decode cX4_leader 9 = .ok (.aload_n 0, 1) := by decide +kernel
theorem dX4_leader_10 : decode cX4_leader 10 = .ok (.getfield 169, 3) := by decide +kernel
theorem dX4_leader_13 : decode cX4_leader 13 = .ok (.if_icmp .lt 8, 3) := by decide +kernel
theorem dX4_leader_16 : decode cX4_leader 16 = .ok (.bipush (-2), 2) := by decide +kernel
theorem dX4_leader_18 : decode cX4_leader 18 = .ok (.goto 9, 3) := by decide +kernel
theorem dX4_leader_21 : decode cX4_leader 21 = .ok (.aload_n 0, 1) := by decide +kernel
theorem dX4_leader_22 : decode cX4_leader 22 = .ok (.getfield 51, 3) := by decide +kernel
theorem dX4_leader_25 : decode cX4_leader 25 = .ok (.iload_n 1, 1) := by decide +kernel
theorem dX4_leader_26 : decode cX4_leader 26 = .ok (.iaload, 1) := by decide +kernel
theorem dX4_leader_27 : decode cX4_leader 27 = .ok (.ireturn, 1) := by decide +kernel
theorem dX4_drawn_0 : decode cX4_drawn 0 = .ok (.iload_n 1, 1) := by decide +kernel
theorem dX4_drawn_1 : decode cX4_drawn 1 = .ok (.ifCond .ge 7, 3) := by decide +kernel
theorem dX4_drawn_4 : decode cX4_drawn 4 = .ok (.iconst (-1), 1) := by decide +kernel
theorem dX4_drawn_5 : decode cX4_drawn 5 = .ok (.goto 22, 3) := by decide +kernel
theorem dX4_drawn_8 : decode cX4_drawn 8 = .ok (.iload_n 1, 1) := by decide +kernel
theorem dX4_drawn_9 : decode cX4_drawn 9 = .ok (.aload_n 0, 1) := by decide +kernel
theorem dX4_drawn_10 : decode cX4_drawn 10 = .ok (.getfield 169, 3) := by decide +kernel
theorem dX4_drawn_13 : decode cX4_drawn 13 = .ok (.if_icmp .lt 8, 3) := by decide +kernel
theorem dX4_drawn_16 : decode cX4_drawn 16 = .ok (.bipush (-2), 2) := by decide +kernel
theorem dX4_drawn_18 : decode cX4_drawn 18 = .ok (.goto 9, 3) := by decide +kernel
theorem dX4_drawn_21 : decode cX4_drawn 21 = .ok (.aload_n 0, 1) := by decide +kernel
theorem dX4_drawn_22 : decode cX4_drawn 22 = .ok (.getfield 54, 3) := by decide +kernel
theorem dX4_drawn_25 : decode cX4_drawn 25 = .ok (.iload_n 1, 1) := by decide +kernel
theorem dX4_drawn_26 : decode cX4_drawn 26 = .ok (.iaload, 1) := by decide +kernel
theorem dX4_drawn_27 : decode cX4_drawn 27 = .ok (.ireturn, 1) := by decide +kernel
theorem dX4_claim_0 : decode cX4_claim 0 = .ok (.iload_n 1, 1) := by decide +kernel
theorem dX4_claim_1 : decode cX4_claim 1 = .ok (.invokestatic 88, 3) := by decide +kernel
theorem dX4_claim_4 : decode cX4_claim 4 = .ok (.ifCond .ne 5, 3) := by decide +kernel
theorem dX4_claim_7 : decode cX4_claim 7 = .ok (.iconst (-1), 1) := by decide +kernel
theorem dX4_claim_8 : decode cX4_claim 8 = .ok (.ireturn, 1) := by decide +kernel
theorem dX4_claim_9 : decode cX4_claim 9 = .ok (.aload_n 0, 1) := by decide +kernel
theorem dX4_claim_10 : decode cX4_claim 10 = .ok (.getfield 176, 3) := by decide +kernel
theorem dX4_claim_13 : decode cX4_claim 13 = .ok (.bipush 60, 2) := by decide +kernel
theorem dX4_claim_15 : decode cX4_claim 15 = .ok (.if_icmp .ne 6, 3) := by decide +kernel
theorem dX4_claim_18 : decode cX4_claim 18 = .ok (.bipush (-3), 2) := by decide +kernel
theorem dX4_claim_20 : decode cX4_claim 20 = .ok (.ireturn, 1) := by decide +kernel
theorem dX4_claim_21 : decode cX4_claim 21 = .ok (.aload_n 0, 1) := by decide +kernel
theorem dX4_claim_22 : decode cX4_claim 22 = .ok (.getfield 57, 3) := by decide +kernel
theorem dX4_claim_25 : decode cX4_claim 25 = .ok (.aload_n 0, 1) := by decide +kernel
theorem dX4_claim_26 : decode cX4_claim 26 = .ok (.getfield 176, 3) := by decide +kernel
theorem dX4_claim_29 : decode cX4_claim 29 = .ok (.iload_n 1, 1) := by decide +kernel
theorem dX4_claim_30 : decode cX4_claim 30 = .ok (.iastore, 1) := by decide +kernel
theorem dX4_claim_31 : decode cX4_claim 31 = .ok (.aload_n 0, 1) := by decide +kernel
theorem dX4_claim_32 : decode cX4_claim 32 = .ok (.dup, 1) := by decide +kernel
theorem dX4_claim_33 : decode cX4_claim 33 = .ok (.getfield 176, 3) := by decide +kernel
theorem dX4_claim_36 : decode cX4_claim 36 = .ok (.iconst 1, 1) := by decide +kernel
theorem dX4_claim_37 : decode cX4_claim 37 = .ok (.iadd, 1) := by decide +kernel
theorem dX4_claim_38 : decode cX4_claim 38 = .ok (.putfield 176, 3) := by decide +kernel
theorem dX4_claim_41 : decode cX4_claim 41 = .ok (.aload_n 0, 1) := by decide +kernel
theorem dX4_claim_42 : decode cX4_claim 42 = .ok (.getfield 176, 3) := by decide +kernel
theorem dX4_claim_45 : decode cX4_claim 45 = .ok (.ireturn, 1) := by decide +kernel
theorem dX4_check_0 : decode cX4_check 0 = .ok (.aload_n 0, 1) := by decide +kernel
theorem dX4_check_1 : decode cX4_check 1 = .ok (.getfield 176, 3) := by decide +kernel
theorem dX4_check_4 : decode cX4_check 4 = .ok (.aload_n 0, 1) := by decide +kernel
theorem dX4_check_5 : decode cX4_check 5 = .ok (.getfield 169, 3) := by decide +kernel
theorem dX4_check_8 : decode cX4_check 8 = .ok (.if_icmp .ge 10, 3) := by decide +kernel
theorem dX4_check_11 : decode cX4_check 11 = .ok (.aload_n 0, 1) := by decide +kernel
theorem dX4_check_12 : decode cX4_check 12 = .ok (.getfield 176, 3) := by decide +kernel
theorem dX4_check_15 : decode cX4_check 15 = .ok (.goto 7, 3) := by decide +kernel
theorem dX4_check_18 : decode cX4_check 18 = .ok (.aload_n 0, 1) := by decide +kernel
theorem dX4_check_19 : decode cX4_check 19 = .ok (.getfield 169, 3) := by decide +kernel
theorem dX4_check_22 : decode cX4_check 22 = .ok (.istore_n 1, 1) := by decide +kernel
theorem dX4_check_23 : decode cX4_check 23 = .ok (.aload_n 0, 1) := by decide +kernel
theorem dX4_check_24 : decode cX4_check 24 = .ok (.getfield 176, 3) := by decide +kernel
theorem dX4_check_27 : decode cX4_check 27 = .ok (.aload_n 0, 1) := by decide +kernel
theorem dX4_check_28 : decode cX4_check 28 = .ok (.getfield 169, 3) := by decide +kernel
theorem dX4_check_31 : decode cX4_check 31 = .ok (.if_icmp .ne 8, 3) := by decide +kernel
theorem dX4_check_34 : decode cX4_check 34 = .ok (.bipush (-2), 2) := by decide +kernel
theorem dX4_check_36 : decode cX4_check 36 = .ok (.goto 4, 3) := by decide +kernel
theorem dX4_check_39 : decode cX4_check 39 = .ok (.iload_n 1, 1) := by decide +kernel
theorem dX4_check_40 : decode cX4_check 40 = .ok (.istore_n 2, 1) := by decide +kernel
theorem dX4_check_41 : decode cX4_check 41 = .ok (.iload_n 1, 1) := by decide +kernel
theorem dX4_check_42 : decode cX4_check 42 = .ok (.iconst 1, 1) := by decide +kernel
theorem dX4_check_43 : decode cX4_check 43 = .ok (.isub, 1) := by decide +kernel
theorem dX4_check_44 : decode cX4_check 44 = .ok (.istore_n 3, 1) := by decide +kernel
theorem dX4_check_45 : decode cX4_check 45 = .ok (.iload_n 3, 1) := by decide +kernel
theorem dX4_check_46 : decode cX4_check 46 = .ok (.ifCond .lt 30, 3) := by decide +kernel
theorem dX4_check_49 : decode cX4_check 49 = .ok (.aload_n 0, 1) := by decide +kernel
theorem dX4_check_50 : decode cX4_check 50 = .ok (.getfield 57, 3) := by decide +kernel
theorem dX4_check_53 : decode cX4_check 53 = .ok (.iload_n 3, 1) := by decide +kernel
theorem dX4_check_54 : decode cX4_check 54 = .ok (.iaload, 1) := by decide +kernel
theorem dX4_check_55 : decode cX4_check 55 = .ok (.aload_n 0, 1) := by decide +kernel
theorem dX4_check_56 : decode cX4_check 56 = .ok (.getfield 51, 3) := by decide +kernel
theorem dX4_check_59 : decode cX4_check 59 = .ok (.iload_n 3, 1) := by decide +kernel
theorem dX4_check_60 : decode cX4_check 60 = .ok (.iaload, 1) := by decide +kernel
theorem dX4_check_61 : decode cX4_check 61 = .ok (.if_icmp .eq 7, 3) := by decide +kernel
theorem dX4_check_64 : decode cX4_check 64 = .ok (.iload_n 3, 1) := by decide +kernel
theorem dX4_check_65 : decode cX4_check 65 = .ok (.goto 4, 3) := by decide +kernel
theorem dX4_check_68 : decode cX4_check 68 = .ok (.iload_n 2, 1) := by decide +kernel
theorem dX4_check_69 : decode cX4_check 69 = .ok (.istore_n 2, 1) := by decide +kernel
theorem dX4_check_70 : decode cX4_check 70 = .ok (.iinc 3 (-1), 3) := by decide +kernel
theorem dX4_check_73 : decode cX4_check 73 = .ok (.goto (-28), 3) := by decide +kernel
theorem dX4_check_76 : decode cX4_check 76 = .ok (.aload_n 0, 1) := by decide +kernel
theorem dX4_check_77 : decode cX4_check 77 = .ok (.iconst 0, 1) := by decide +kernel
theorem dX4_check_78 : decode cX4_check 78 = .ok (.putfield 176, 3) := by decide +kernel
theorem dX4_check_81 : decode cX4_check 81 = .ok (.iload_n 2, 1) := by decide +kernel
theorem dX4_check_82 : decode cX4_check 82 = .ok (.ireturn, 1) := by decide +kernel
theorem dX4_would_0 : decode cX4_would 0 = .ok (.iload_n 1, 1) := by decide +kernel
theorem dX4_would_1 : decode cX4_would 1 = .ok (.invokestatic 88, 3) := by decide +kernel
theorem dX4_would_4 : decode cX4_would 4 = .ok (.ifCond .eq 16, 3) := by decide +kernel
theorem dX4_would_7 : decode cX4_would 7 = .ok (.iload 5, 2) := by decide +kernel
theorem dX4_would_9 : decode cX4_would 9 = .ok (.i2l, 1) := by decide +kernel
theorem dX4_would_10 : decode cX4_would 10 = .ok (.lconst 1, 1) := by decide +kernel
theorem dX4_would_11 : decode cX4_would 11 = .ok (.ldc2_w 154, 3) := by decide +kernel
theorem dX4_would_14 : decode cX4_would 14 = .ok (.invokestatic 74, 3) := by decide +kernel
theorem dX4_would_17 : decode cX4_would 17 = .ok (.ifCond .ne 5, 3) := by decide +kernel
theorem dX4_would_20 : decode cX4_would 20 = .ok (.iconst (-1), 1) := by decide +kernel
theorem dX4_would_21 : decode cX4_would 21 = .ok (.ireturn, 1) := by decide +kernel
theorem dX4_would_22 : decode cX4_would 22 = .ok (.aload_n 0, 1) := by decide +kernel
theorem dX4_would_23 : decode cX4_would 23 = .ok (.getfield 94, 3) := by decide +kernel
theorem dX4_would_26 : decode cX4_would 26 = .ok (.iconst 2, 1) := by decide +kernel
theorem dX4_would_27 : decode cX4_would 27 = .ok (.if_icmp .ne 41, 3) := by decide +kernel
theorem dX4_would_30 : decode cX4_would 30 = .ok (.aload_n 0, 1) := by decide +kernel
theorem dX4_would_31 : decode cX4_would 31 = .ok (.getfield 39, 3) := by decide +kernel
theorem dX4_would_34 : decode cX4_would 34 = .ok (.iload_n 1, 1) := by decide +kernel
theorem dX4_would_35 : decode cX4_would 35 = .ok (.baload, 1) := by decide +kernel
theorem dX4_would_36 : decode cX4_would 36 = .ok (.ifCond .eq 32, 3) := by decide +kernel
theorem dX4_would_39 : decode cX4_would 39 = .ok (.aload_n 0, 1) := by decide +kernel
theorem dX4_would_40 : decode cX4_would 40 = .ok (.getfield 42, 3) := by decide +kernel
theorem dX4_would_43 : decode cX4_would 43 = .ok (.iload_n 1, 1) := by decide +kernel
theorem dX4_would_44 : decode cX4_would 44 = .ok (.baload, 1) := by decide +kernel
theorem dX4_would_45 : decode cX4_would 45 = .ok (.ifCond .ne 23, 3) := by decide +kernel
theorem dX4_would_48 : decode cX4_would 48 = .ok (.iload 4, 2) := by decide +kernel
theorem dX4_would_50 : decode cX4_would 50 = .ok (.ifCond .eq 21, 3) := by decide +kernel
theorem dX4_would_53 : decode cX4_would 53 = .ok (.iload_n 1, 1) := by decide +kernel
theorem dX4_would_54 : decode cX4_would 54 = .ok (.lload_n 2, 1) := by decide +kernel
theorem dX4_would_55 : decode cX4_would 55 = .ok (.invokestatic 119, 3) := by decide +kernel
theorem dX4_would_58 : decode cX4_would 58 = .ok (.aload_n 0, 1) := by decide +kernel
theorem dX4_would_59 : decode cX4_would 59 = .ok (.getfield 45, 3) := by decide +kernel
theorem dX4_would_62 : decode cX4_would 62 = .ok (.iload_n 1, 1) := by decide +kernel
theorem dX4_would_63 : decode cX4_would 63 = .ok (.laload, 1) := by decide +kernel
theorem dX4_would_64 : decode cX4_would 64 = .ok (.lcmp, 1) := by decide +kernel
theorem dX4_would_65 : decode cX4_would 65 = .ok (.ifCond .eq 6, 3) := by decide +kernel
theorem dX4_would_68 : decode cX4_would 68 = .ok (.bipush (-3), 2) := by decide +kernel
theorem dX4_would_70 : decode cX4_would 70 = .ok (.ireturn, 1) := by decide +kernel
theorem dX4_would_71 : decode cX4_would 71 = .ok (.aload_n 0, 1) := by decide +kernel
theorem dX4_would_72 : decode cX4_would 72 = .ok (.iload_n 1, 1) := by decide +kernel
theorem dX4_would_73 : decode cX4_would 73 = .ok (.lload_n 2, 1) := by decide +kernel
theorem dX4_would_74 : decode cX4_would 74 = .ok (.iload 4, 2) := by decide +kernel
theorem dX4_would_76 : decode cX4_would 76 = .ok (.invokevirtual 156, 3) := by decide +kernel
theorem dX4_would_79 : decode cX4_would 79 = .ok (.istore 6, 2) := by decide +kernel
theorem dX4_would_81 : decode cX4_would 81 = .ok (.iconst 0, 1) := by decide +kernel
theorem dX4_would_82 : decode cX4_would 82 = .ok (.istore 7, 2) := by decide +kernel
theorem dX4_would_84 : decode cX4_would 84 = .ok (.iload 6, 2) := by decide +kernel
theorem dX4_would_86 : decode cX4_would 86 = .ok (.ifCond .le 9, 3) := by decide +kernel
theorem dX4_would_89 : decode cX4_would 89 = .ok (.aload_n 0, 1) := by decide +kernel
theorem dX4_would_90 : decode cX4_would 90 = .ok (.iload 5, 2) := by decide +kernel
theorem dX4_would_92 : decode cX4_would 92 = .ok (.invokevirtual 172, 3) := by decide +kernel
theorem dX4_would_95 : decode cX4_would 95 = .ok (.iconst 0, 1) := by decide +kernel
theorem dX4_would_96 : decode cX4_would 96 = .ok (.istore 8, 2) := by decide +kernel
theorem dX4_would_98 : decode cX4_would 98 = .ok (.iload 8, 2) := by decide +kernel
theorem dX4_would_100 : decode cX4_would 100 = .ok (.iload 5, 2) := by decide +kernel
theorem dX4_would_102 : decode cX4_would 102 = .ok (.if_icmp .ge 35, 3) := by decide +kernel
theorem dX4_would_105 : decode cX4_would 105 = .ok (.iload 6, 2) := by decide +kernel
theorem dX4_would_107 : decode cX4_would 107 = .ok (.ifCond .le 30, 3) := by decide +kernel
theorem dX4_would_110 : decode cX4_would 110 = .ok (.iload 7, 2) := by decide +kernel
theorem dX4_would_112 : decode cX4_would 112 = .ok (.aload_n 0, 1) := by decide +kernel
theorem dX4_would_113 : decode cX4_would 113 = .ok (.getfield 66, 3) := by decide +kernel
theorem dX4_would_116 : decode cX4_would 116 = .ok (.iload 8, 2) := by decide +kernel
theorem dX4_would_118 : decode cX4_would 118 = .ok (.iaload, 1) := by decide +kernel
theorem dX4_would_119 : decode cX4_would 119 = .ok (.iload_n 1, 1) := by decide +kernel
theorem dX4_would_120 : decode cX4_would 120 = .ok (.if_icmp .ne 7, 3) := by decide +kernel
theorem dX4_would_123 : decode cX4_would 123 = .ok (.iconst 1, 1) := by decide +kernel
theorem dX4_would_124 : decode cX4_would 124 = .ok (.goto 4, 3) := by decide +kernel
theorem dX4_would_127 : decode cX4_would 127 = .ok (.iconst 0, 1) := by decide +kernel
theorem dX4_would_128 : decode cX4_would 128 = .ok (.iadd, 1) := by decide +kernel
theorem dX4_would_129 : decode cX4_would 129 = .ok (.istore 7, 2) := by decide +kernel
theorem dX4_would_131 : decode cX4_would 131 = .ok (.iinc 8 1, 3) := by decide +kernel
theorem dX4_would_134 : decode cX4_would 134 = .ok (.goto (-36), 3) := by decide +kernel
theorem dX4_would_137 : decode cX4_would 137 = .ok (.iload 7, 2) := by decide +kernel
theorem dX4_would_139 : decode cX4_would 139 = .ok (.ireturn, 1) := by decide +kernel
theorem dX4_choices_0 : decode cX4_choices 0 = .ok (.aload_n 0, 1) := by decide +kernel
theorem dX4_choices_1 : decode cX4_choices 1 = .ok (.getfield 94, 3) := by decide +kernel
theorem dX4_choices_4 : decode cX4_choices 4 = .ok (.iconst 2, 1) := by decide +kernel
theorem dX4_choices_5 : decode cX4_choices 5 = .ok (.if_icmp .ne 17, 3) := by decide +kernel
theorem dX4_choices_8 : decode cX4_choices 8 = .ok (.aload_n 0, 1) := by decide +kernel
theorem dX4_choices_9 : decode cX4_choices 9 = .ok (.iconst 0, 1) := by decide +kernel
theorem dX4_choices_10 : decode cX4_choices 10 = .ok (.invokevirtual 115, 3) := by decide +kernel
theorem dX4_choices_13 : decode cX4_choices 13 = .ok (.aload_n 0, 1) := by decide +kernel
theorem dX4_choices_14 : decode cX4_choices 14 = .ok (.iconst 1, 1) := by decide +kernel
theorem dX4_choices_15 : decode cX4_choices 15 = .ok (.invokevirtual 115, 3) := by decide +kernel
theorem dX4_choices_18 : decode cX4_choices 18 = .ok (.isub, 1) := by decide +kernel
theorem dX4_choices_19 : decode cX4_choices 19 = .ok (.goto 4, 3) := by decide +kernel
theorem dX4_choices_22 : decode cX4_choices 22 = .ok (.iconst 0, 1) := by decide +kernel
theorem dX4_choices_23 : decode cX4_choices 23 = .ok (.ireturn, 1) := by decide +kernel
theorem dX4_digest_0 : decode cX4_digest 0 = .ok (.iload_n 1, 1) := by decide +kernel
theorem dX4_digest_1 : decode cX4_digest 1 = .ok (.invokestatic 88, 3) := by decide +kernel
theorem dX4_digest_4 : decode cX4_digest 4 = .ok (.ifCond .eq 11, 3) := by decide +kernel
theorem dX4_digest_7 : decode cX4_digest 7 = .ok (.iload_n 1, 1) := by decide +kernel
theorem dX4_digest_8 : decode cX4_digest 8 = .ok (.lload_n 2, 1) := by decide +kernel
theorem dX4_digest_9 : decode cX4_digest 9 = .ok (.invokestatic 119, 3) := by decide +kernel
theorem dX4_digest_12 : decode cX4_digest 12 = .ok (.goto 4, 3) := by decide +kernel
theorem dX4_digest_15 : decode cX4_digest 15 = .ok (.lconst 0, 1) := by decide +kernel
theorem dX4_digest_16 : decode cX4_digest 16 = .ok (.lreturn, 1) := by decide +kernel
theorem dX4_node_0 : decode cX4_node 0 = .ok (.iload_n 1, 1) := by decide +kernel
theorem dX4_node_1 : decode cX4_node 1 = .ok (.invokestatic 88, 3) := by decide +kernel
theorem dX4_node_4 : decode cX4_node 4 = .ok (.ifCond .eq 15, 3) := by decide +kernel
theorem dX4_node_7 : decode cX4_node 7 = .ok (.iload_n 2, 1) := by decide +kernel
theorem dX4_node_8 : decode cX4_node 8 = .ok (.i2l, 1) := by decide +kernel
theorem dX4_node_9 : decode cX4_node 9 = .ok (.lconst 0, 1) := by decide +kernel
theorem dX4_node_10 : decode cX4_node 10 = .ok (.ldc2_w 179, 3) := by decide +kernel
theorem dX4_node_13 : decode cX4_node 13 = .ok (.invokestatic 74, 3) := by decide +kernel
theorem dX4_node_16 : decode cX4_node 16 = .ok (.ifCond .ne 5, 3) := by decide +kernel
theorem dX4_node_19 : decode cX4_node 19 = .ok (.iconst (-1), 1) := by decide +kernel
theorem dX4_node_20 : decode cX4_node 20 = .ok (.ireturn, 1) := by decide +kernel
theorem dX4_node_21 : decode cX4_node 21 = .ok (.aload_n 0, 1) := by decide +kernel
theorem dX4_node_22 : decode cX4_node 22 = .ok (.getfield 94, 3) := by decide +kernel
theorem dX4_node_25 : decode cX4_node 25 = .ok (.ifCond .le 7, 3) := by decide +kernel
theorem dX4_node_28 : decode cX4_node 28 = .ok (.iconst 1, 1) := by decide +kernel
theorem dX4_node_29 : decode cX4_node 29 = .ok (.goto 4, 3) := by decide +kernel
theorem dX4_node_32 : decode cX4_node 32 = .ok (.iconst 0, 1) := by decide +kernel
theorem dX4_node_33 : decode cX4_node 33 = .ok (.istore_n 3, 1) := by decide +kernel
theorem dX4_node_34 : decode cX4_node 34 = .ok (.iload_n 2, 1) := by decide +kernel
theorem dX4_node_35 : decode cX4_node 35 = .ok (.tableswitch 137 0 7 #[45, 52, 59, 66, 73, 80, 99, 118], 45) := by decide +kernel
theorem dX4_node_80 : decode cX4_node 80 = .ok (.aload_n 0, 1) := by decide +kernel
theorem dX4_node_81 : decode cX4_node 81 = .ok (.getfield 13, 3) := by decide +kernel
theorem dX4_node_84 : decode cX4_node 84 = .ok (.iload_n 1, 1) := by decide +kernel
theorem dX4_node_85 : decode cX4_node 85 = .ok (.iaload, 1) := by decide +kernel
theorem dX4_node_86 : decode cX4_node 86 = .ok (.ireturn, 1) := by decide +kernel
theorem dX4_node_87 : decode cX4_node 87 = .ok (.aload_n 0, 1) := by decide +kernel
theorem dX4_node_88 : decode cX4_node 88 = .ok (.getfield 20, 3) := by decide +kernel
theorem dX4_node_91 : decode cX4_node 91 = .ok (.iload_n 1, 1) := by decide +kernel
theorem dX4_node_92 : decode cX4_node 92 = .ok (.iaload, 1) := by decide +kernel
theorem dX4_node_93 : decode cX4_node 93 = .ok (.ireturn, 1) := by decide +kernel
theorem dX4_node_94 : decode cX4_node 94 = .ok (.aload_n 0, 1) := by decide +kernel
theorem dX4_node_95 : decode cX4_node 95 = .ok (.getfield 23, 3) := by decide +kernel
theorem dX4_node_98 : decode cX4_node 98 = .ok (.iload_n 1, 1) := by decide +kernel
theorem dX4_node_99 : decode cX4_node 99 = .ok (.iaload, 1) := by decide +kernel
theorem dX4_node_100 : decode cX4_node 100 = .ok (.ireturn, 1) := by decide +kernel
theorem dX4_node_101 : decode cX4_node 101 = .ok (.aload_n 0, 1) := by decide +kernel
theorem dX4_node_102 : decode cX4_node 102 = .ok (.getfield 26, 3) := by decide +kernel
theorem dX4_node_105 : decode cX4_node 105 = .ok (.iload_n 1, 1) := by decide +kernel
theorem dX4_node_106 : decode cX4_node 106 = .ok (.iaload, 1) := by decide +kernel
theorem dX4_node_107 : decode cX4_node 107 = .ok (.ireturn, 1) := by decide +kernel
theorem dX4_node_108 : decode cX4_node 108 = .ok (.aload_n 0, 1) := by decide +kernel
theorem dX4_node_109 : decode cX4_node 109 = .ok (.getfield 32, 3) := by decide +kernel
theorem dX4_node_112 : decode cX4_node 112 = .ok (.iload_n 1, 1) := by decide +kernel
theorem dX4_node_113 : decode cX4_node 113 = .ok (.iaload, 1) := by decide +kernel
theorem dX4_node_114 : decode cX4_node 114 = .ok (.ireturn, 1) := by decide +kernel
theorem dX4_node_115 : decode cX4_node 115 = .ok (.iload_n 3, 1) := by decide +kernel
theorem dX4_node_116 : decode cX4_node 116 = .ok (.ifCond .eq 16, 3) := by decide +kernel
theorem dX4_node_119 : decode cX4_node 119 = .ok (.aload_n 0, 1) := by decide +kernel
theorem dX4_node_120 : decode cX4_node 120 = .ok (.getfield 35, 3) := by decide +kernel
theorem dX4_node_123 : decode cX4_node 123 = .ok (.iload_n 1, 1) := by decide +kernel
theorem dX4_node_124 : decode cX4_node 124 = .ok (.baload, 1) := by decide +kernel
theorem dX4_node_125 : decode cX4_node 125 = .ok (.ifCond .eq 7, 3) := by decide +kernel
theorem dX4_node_128 : decode cX4_node 128 = .ok (.iconst 1, 1) := by decide +kernel
theorem dX4_node_129 : decode cX4_node 129 = .ok (.goto 4, 3) := by decide +kernel
theorem dX4_node_132 : decode cX4_node 132 = .ok (.iconst 0, 1) := by decide +kernel
theorem dX4_node_133 : decode cX4_node 133 = .ok (.ireturn, 1) := by decide +kernel
theorem dX4_node_134 : decode cX4_node 134 = .ok (.iload_n 3, 1) := by decide +kernel
theorem dX4_node_135 : decode cX4_node 135 = .ok (.ifCond .eq 16, 3) := by decide +kernel
theorem dX4_node_138 : decode cX4_node 138 = .ok (.aload_n 0, 1) := by decide +kernel
theorem dX4_node_139 : decode cX4_node 139 = .ok (.getfield 39, 3) := by decide +kernel
theorem dX4_node_142 : decode cX4_node 142 = .ok (.iload_n 1, 1) := by decide +kernel
theorem dX4_node_143 : decode cX4_node 143 = .ok (.baload, 1) := by decide +kernel
theorem dX4_node_144 : decode cX4_node 144 = .ok (.ifCond .eq 7, 3) := by decide +kernel
theorem dX4_node_147 : decode cX4_node 147 = .ok (.iconst 1, 1) := by decide +kernel
theorem dX4_node_148 : decode cX4_node 148 = .ok (.goto 4, 3) := by decide +kernel
theorem dX4_node_151 : decode cX4_node 151 = .ok (.iconst 0, 1) := by decide +kernel
theorem dX4_node_152 : decode cX4_node 152 = .ok (.ireturn, 1) := by decide +kernel
theorem dX4_node_153 : decode cX4_node 153 = .ok (.iload_n 3, 1) := by decide +kernel
theorem dX4_node_154 : decode cX4_node 154 = .ok (.ifCond .eq 16, 3) := by decide +kernel
theorem dX4_node_157 : decode cX4_node 157 = .ok (.aload_n 0, 1) := by decide +kernel
theorem dX4_node_158 : decode cX4_node 158 = .ok (.getfield 42, 3) := by decide +kernel
theorem dX4_node_161 : decode cX4_node 161 = .ok (.iload_n 1, 1) := by decide +kernel
theorem dX4_node_162 : decode cX4_node 162 = .ok (.baload, 1) := by decide +kernel
theorem dX4_node_163 : decode cX4_node 163 = .ok (.ifCond .eq 7, 3) := by decide +kernel
theorem dX4_node_166 : decode cX4_node 166 = .ok (.iconst 1, 1) := by decide +kernel
theorem dX4_node_167 : decode cX4_node 167 = .ok (.goto 4, 3) := by decide +kernel
theorem dX4_node_170 : decode cX4_node 170 = .ok (.iconst 0, 1) := by decide +kernel
theorem dX4_node_171 : decode cX4_node 171 = .ok (.ireturn, 1) := by decide +kernel
theorem dX4_node_172 : decode cX4_node 172 = .ok (.aload_n 0, 1) := by decide +kernel
theorem dX4_node_173 : decode cX4_node 173 = .ok (.getfield 29, 3) := by decide +kernel
theorem dX4_node_176 : decode cX4_node 176 = .ok (.iload_n 1, 1) := by decide +kernel
theorem dX4_node_177 : decode cX4_node 177 = .ok (.iaload, 1) := by decide +kernel
theorem dX4_node_178 : decode cX4_node 178 = .ok (.ireturn, 1) := by decide +kernel
theorem dX4_amount_0 : decode cX4_amount 0 = .ok (.iload_n 1, 1) := by decide +kernel
theorem dX4_amount_1 : decode cX4_amount 1 = .ok (.ifCond .ne 10, 3) := by decide +kernel
theorem dX4_amount_4 : decode cX4_amount 4 = .ok (.aload_n 0, 1) := by decide +kernel
theorem dX4_amount_5 : decode cX4_amount 5 = .ok (.getfield 126, 3) := by decide +kernel
theorem dX4_amount_8 : decode cX4_amount 8 = .ok (.goto 41, 3) := by decide +kernel
theorem dX4_amount_11 : decode cX4_amount 11 = .ok (.iload_n 1, 1) := by decide +kernel
theorem dX4_amount_12 : decode cX4_amount 12 = .ok (.iconst 1, 1) := by decide +kernel
theorem dX4_amount_13 : decode cX4_amount 13 = .ok (.if_icmp .ne 10, 3) := by decide +kernel
theorem dX4_amount_16 : decode cX4_amount 16 = .ok (.aload_n 0, 1) := by decide +kernel
theorem dX4_amount_17 : decode cX4_amount 17 = .ok (.getfield 163, 3) := by decide +kernel
theorem dX4_amount_20 : decode cX4_amount 20 = .ok (.goto 29, 3) := by decide +kernel
theorem dX4_amount_23 : decode cX4_amount 23 = .ok (.iload_n 1, 1) := by decide +kernel
theorem dX4_amount_24 : decode cX4_amount 24 = .ok (.i2l, 1) := by decide +kernel
theorem dX4_amount_25 : decode cX4_amount 25 = .ok (.ldc2_w 135, 3) := by decide +kernel
theorem dX4_amount_28 : decode cX4_amount 28 = .ok (.ldc2_w 181, 3) := by decide +kernel
theorem dX4_amount_31 : decode cX4_amount 31 = .ok (.invokestatic 74, 3) := by decide +kernel
theorem dX4_amount_34 : decode cX4_amount 34 = .ok (.ifCond .eq 14, 3) := by decide +kernel
theorem dX4_amount_37 : decode cX4_amount 37 = .ok (.aload_n 0, 1) := by decide +kernel
theorem dX4_amount_38 : decode cX4_amount 38 = .ok (.getfield 16, 3) := by decide +kernel
theorem dX4_amount_41 : decode cX4_amount 41 = .ok (.iload_n 1, 1) := by decide +kernel
theorem dX4_amount_42 : decode cX4_amount 42 = .ok (.iconst 2, 1) := by decide +kernel
theorem dX4_amount_43 : decode cX4_amount 43 = .ok (.isub, 1) := by decide +kernel
theorem dX4_amount_44 : decode cX4_amount 44 = .ok (.laload, 1) := by decide +kernel
theorem dX4_amount_45 : decode cX4_amount 45 = .ok (.goto 4, 3) := by decide +kernel
theorem dX4_amount_48 : decode cX4_amount 48 = .ok (.lconst 0, 1) := by decide +kernel
theorem dX4_amount_49 : decode cX4_amount 49 = .ok (.lreturn, 1) := by decide +kernel
theorem dX4_told_0 : decode cX4_told 0 = .ok (.iload_n 1, 1) := by decide +kernel
theorem dX4_told_1 : decode cX4_told 1 = .ok (.ifCond .ne 10, 3) := by decide +kernel
theorem dX4_told_4 : decode cX4_told 4 = .ok (.aload_n 0, 1) := by decide +kernel
theorem dX4_told_5 : decode cX4_told 5 = .ok (.getfield 94, 3) := by decide +kernel
theorem dX4_told_8 : decode cX4_told 8 = .ok (.goto 89, 3) := by decide +kernel
theorem dX4_told_11 : decode cX4_told 11 = .ok (.iload_n 1, 1) := by decide +kernel
theorem dX4_told_12 : decode cX4_told 12 = .ok (.iconst 1, 1) := by decide +kernel
theorem dX4_told_13 : decode cX4_told 13 = .ok (.if_icmp .ne 10, 3) := by decide +kernel
theorem dX4_told_16 : decode cX4_told 16 = .ok (.aload_n 0, 1) := by decide +kernel
theorem dX4_told_17 : decode cX4_told 17 = .ok (.getfield 112, 3) := by decide +kernel
theorem dX4_told_20 : decode cX4_told 20 = .ok (.goto 77, 3) := by decide +kernel
theorem dX4_told_23 : decode cX4_told 23 = .ok (.iload_n 1, 1) := by decide +kernel
theorem dX4_told_24 : decode cX4_told 24 = .ok (.iconst 2, 1) := by decide +kernel
theorem dX4_told_25 : decode cX4_told 25 = .ok (.if_icmp .ne 10, 3) := by decide +kernel
theorem dX4_told_28 : decode cX4_told 28 = .ok (.aload_n 0, 1) := by decide +kernel
theorem dX4_told_29 : decode cX4_told 29 = .ok (.getfield 169, 3) := by decide +kernel
theorem dX4_told_32 : decode cX4_told 32 = .ok (.goto 65, 3) := by decide +kernel
theorem dX4_told_35 : decode cX4_told 35 = .ok (.iload_n 1, 1) := by decide +kernel
theorem dX4_told_36 : decode cX4_told 36 = .ok (.iconst 3, 1) := by decide +kernel
theorem dX4_told_37 : decode cX4_told 37 = .ok (.if_icmp .ne 22, 3) := by decide +kernel
theorem dX4_told_40 : decode cX4_told 40 = .ok (.aload_n 0, 1) := by decide +kernel
theorem dX4_told_41 : decode cX4_told 41 = .ok (.getfield 94, 3) := by decide +kernel
theorem dX4_told_44 : decode cX4_told 44 = .ok (.iconst 3, 1) := by decide +kernel
theorem dX4_told_45 : decode cX4_told 45 = .ok (.if_icmp .ne 10, 3) := by decide +kernel
theorem dX4_told_48 : decode cX4_told 48 = .ok (.aload_n 0, 1) := by decide +kernel
theorem dX4_told_49 : decode cX4_told 49 = .ok (.getfield 166, 3) := by decide +kernel
theorem dX4_told_52 : decode cX4_told 52 = .ok (.goto 45, 3) := by decide +kernel
theorem dX4_told_55 : decode cX4_told 55 = .ok (.iconst 0, 1) := by decide +kernel
theorem dX4_told_56 : decode cX4_told 56 = .ok (.goto 41, 3) := by decide +kernel
theorem dX4_told_59 : decode cX4_told 59 = .ok (.iload_n 1, 1) := by decide +kernel
theorem dX4_told_60 : decode cX4_told 60 = .ok (.iconst 4, 1) := by decide +kernel
theorem dX4_told_61 : decode cX4_told 61 = .ok (.if_icmp .ne 10, 3) := by decide +kernel
theorem dX4_told_64 : decode cX4_told 64 = .ok (.aload_n 0, 1) := by decide +kernel
theorem dX4_told_65 : decode cX4_told 65 = .ok (.getfield 160, 3) := by decide +kernel
theorem dX4_told_68 : decode cX4_told 68 = .ok (.goto 29, 3) := by decide +kernel
theorem dX4_told_71 : decode cX4_told 71 = .ok (.iload_n 1, 1) := by decide +kernel
theorem dX4_told_72 : decode cX4_told 72 = .ok (.i2l, 1) := by decide +kernel
theorem dX4_told_73 : decode cX4_told 73 = .ok (.ldc2_w 183, 3) := by decide +kernel
theorem dX4_told_76 : decode cX4_told 76 = .ok (.ldc2_w 179, 3) := by decide +kernel
theorem dX4_told_79 : decode cX4_told 79 = .ok (.invokestatic 74, 3) := by decide +kernel
theorem dX4_told_82 : decode cX4_told 82 = .ok (.ifCond .eq 14, 3) := by decide +kernel
theorem dX4_told_85 : decode cX4_told 85 = .ok (.aload_n 0, 1) := by decide +kernel
theorem dX4_told_86 : decode cX4_told 86 = .ok (.getfield 7, 3) := by decide +kernel
theorem dX4_told_89 : decode cX4_told 89 = .ok (.iload_n 1, 1) := by decide +kernel
theorem dX4_told_90 : decode cX4_told 90 = .ok (.iconst 5, 1) := by decide +kernel
theorem dX4_told_91 : decode cX4_told 91 = .ok (.isub, 1) := by decide +kernel
theorem dX4_told_92 : decode cX4_told 92 = .ok (.iaload, 1) := by decide +kernel
theorem dX4_told_93 : decode cX4_told 93 = .ok (.goto 4, 3) := by decide +kernel
theorem dX4_told_96 : decode cX4_told 96 = .ok (.iconst (-1), 1) := by decide +kernel
theorem dX4_told_97 : decode cX4_told 97 = .ok (.ireturn, 1) := by decide +kernel
theorem dJ9_max_7cf53_0 : decode cJ9_max_7cf53 0 = .ok (.iload_n 0, 1) := by decide +kernel
theorem dJ9_max_7cf53_1 : decode cJ9_max_7cf53 1 = .ok (.iload_n 1, 1) := by decide +kernel
theorem dJ9_max_7cf53_2 : decode cJ9_max_7cf53 2 = .ok (.if_icmp .lt 7, 3) := by decide +kernel
theorem dJ9_max_7cf53_5 : decode cJ9_max_7cf53 5 = .ok (.iload_n 0, 1) := by decide +kernel
theorem dJ9_max_7cf53_6 : decode cJ9_max_7cf53 6 = .ok (.goto 4, 3) := by decide +kernel
theorem dJ9_max_7cf53_9 : decode cJ9_max_7cf53 9 = .ok (.iload_n 1, 1) := by decide +kernel
theorem dJ9_max_7cf53_10 : decode cJ9_max_7cf53 10 = .ok (.ireturn, 1) := by decide +kernel
theorem dJ9_min_7cf53_0 : decode cJ9_min_7cf53 0 = .ok (.iload_n 0, 1) := by decide +kernel
theorem dJ9_min_7cf53_1 : decode cJ9_min_7cf53 1 = .ok (.iload_n 1, 1) := by decide +kernel
theorem dJ9_min_7cf53_2 : decode cJ9_min_7cf53 2 = .ok (.if_icmp .gt 7, 3) := by decide +kernel
theorem dJ9_min_7cf53_5 : decode cJ9_min_7cf53 5 = .ok (.iload_n 0, 1) := by decide +kernel
theorem dJ9_min_7cf53_6 : decode cJ9_min_7cf53 6 = .ok (.goto 4, 3) := by decide +kernel
theorem dJ9_min_7cf53_9 : decode cJ9_min_7cf53 9 = .ok (.iload_n 1, 1) := by decide +kernel
theorem dJ9_min_7cf53_10 : decode cJ9_min_7cf53 10 = .ok (.ireturn, 1) := by decide +kernel
