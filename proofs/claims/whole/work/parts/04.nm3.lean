theorem dX3_claim_25 : decode cX3_claim 25 = .ok (.aload_n 0, 1) := by decide +kernel
theorem dX3_claim_26 : decode cX3_claim 26 = .ok (.getfield 162, 3) := by decide +kernel
theorem dX3_claim_29 : decode cX3_claim 29 = .ok (.iload_n 1, 1) := by decide +kernel
theorem dX3_claim_30 : decode cX3_claim 30 = .ok (.iastore, 1) := by decide +kernel
theorem dX3_claim_31 : decode cX3_claim 31 = .ok (.aload_n 0, 1) := by decide +kernel
theorem dX3_claim_32 : decode cX3_claim 32 = .ok (.dup, 1) := by decide +kernel
theorem dX3_claim_33 : decode cX3_claim 33 = .ok (.getfield 162, 3) := by decide +kernel
theorem dX3_claim_36 : decode cX3_claim 36 = .ok (.iconst 1, 1) := by decide +kernel
theorem dX3_claim_37 : decode cX3_claim 37 = .ok (.iadd, 1) := by decide +kernel
theorem dX3_claim_38 : decode cX3_claim 38 = .ok (.putfield 162, 3) := by decide +kernel
theorem dX3_claim_41 : decode cX3_claim 41 = .ok (.aload_n 0, 1) := by decide +kernel
theorem dX3_claim_42 : decode cX3_claim 42 = .ok (.getfield 162, 3) := by decide +kernel
theorem dX3_claim_45 : decode cX3_claim 45 = .ok (.ireturn, 1) := by decide +kernel
theorem dX3_check_0 : decode cX3_check 0 = .ok (.aload_n 0, 1) := by decide +kernel
theorem dX3_check_1 : decode cX3_check 1 = .ok (.invokevirtual 165, 3) := by decide +kernel
theorem dX3_check_4 : decode cX3_check 4 = .ok (.istore_n 1, 1) := by decide +kernel
theorem dX3_check_5 : decode cX3_check 5 = .ok (.aload_n 0, 1) := by decide +kernel
theorem dX3_check_6 : decode cX3_check 6 = .ok (.iconst 0, 1) := by decide +kernel
theorem dX3_check_7 : decode cX3_check 7 = .ok (.putfield 162, 3) := by decide +kernel
theorem dX3_check_10 : decode cX3_check 10 = .ok (.iload_n 1, 1) := by decide +kernel
theorem dX3_check_11 : decode cX3_check 11 = .ok (.ireturn, 1) := by decide +kernel
theorem dX3_would_0 : decode cX3_would 0 = .ok (.iload_n 1, 1) := by decide +kernel
theorem dX3_would_1 : decode cX3_would 1 = .ok (.invokestatic 37, 3) := by decide +kernel
theorem dX3_would_4 : decode cX3_would 4 = .ok (.ifCond .eq 11, 3) := by decide +kernel
theorem dX3_would_7 : decode cX3_would 7 = .ok (.iload 5, 2) := by decide +kernel
theorem dX3_would_9 : decode cX3_would 9 = .ok (.invokestatic 102, 3) := by decide +kernel
theorem dX3_would_12 : decode cX3_would 12 = .ok (.ifCond .ne 5, 3) := by decide +kernel
theorem dX3_would_15 : decode cX3_would 15 = .ok (.iconst (-1), 1) := by decide +kernel
theorem dX3_would_16 : decode cX3_would 16 = .ok (.ireturn, 1) := by decide +kernel
theorem dX3_would_17 : decode cX3_would 17 = .ok (.aload_n 0, 1) := by decide +kernel
theorem dX3_would_18 : decode cX3_would 18 = .ok (.getfield 11, 3) := by decide +kernel
theorem dX3_would_21 : decode cX3_would 21 = .ok (.iload_n 1, 1) := by decide +kernel
theorem dX3_would_22 : decode cX3_would 22 = .ok (.aaload, 1) := by decide +kernel
theorem dX3_would_23 : decode cX3_would 23 = .ok (.astore 6, 2) := by decide +kernel
theorem dX3_would_25 : decode cX3_would 25 = .ok (.aload_n 0, 1) := by decide +kernel
theorem dX3_would_26 : decode cX3_would 26 = .ok (.getfield 41, 3) := by decide +kernel
theorem dX3_would_29 : decode cX3_would 29 = .ok (.iconst 2, 1) := by decide +kernel
theorem dX3_would_30 : decode cX3_would 30 = .ok (.if_icmp .ne 11, 3) := by decide +kernel
theorem dX3_would_33 : decode cX3_would 33 = .ok (.aload 6, 2) := by decide +kernel
theorem dX3_would_35 : decode cX3_would 35 = .ok (.invokevirtual 85, 3) := by decide +kernel
theorem dX3_would_38 : decode cX3_would 38 = .ok (.ifCond .ne 6, 3) := by decide +kernel
theorem dX3_would_41 : decode cX3_would 41 = .ok (.bipush (-3), 2) := by decide +kernel
theorem dX3_would_43 : decode cX3_would 43 = .ok (.ireturn, 1) := by decide +kernel
theorem dX3_would_44 : decode cX3_would 44 = .ok (.iload 4, 2) := by decide +kernel
theorem dX3_would_46 : decode cX3_would 46 = .ok (.ifCond .eq 20, 3) := by decide +kernel
theorem dX3_would_49 : decode cX3_would 49 = .ok (.aload 6, 2) := by decide +kernel
theorem dX3_would_51 : decode cX3_would 51 = .ok (.getfield 78, 3) := by decide +kernel
theorem dX3_would_54 : decode cX3_would 54 = .ok (.iload_n 1, 1) := by decide +kernel
theorem dX3_would_55 : decode cX3_would 55 = .ok (.lload_n 2, 1) := by decide +kernel
theorem dX3_would_56 : decode cX3_would 56 = .ok (.invokestatic 89, 3) := by decide +kernel
theorem dX3_would_59 : decode cX3_would 59 = .ok (.lcmp, 1) := by decide +kernel
theorem dX3_would_60 : decode cX3_would 60 = .ok (.ifCond .eq 6, 3) := by decide +kernel
theorem dX3_would_63 : decode cX3_would 63 = .ok (.bipush (-3), 2) := by decide +kernel
theorem dX3_would_65 : decode cX3_would 65 = .ok (.ireturn, 1) := by decide +kernel
theorem dX3_would_66 : decode cX3_would 66 = .ok (.iload 4, 2) := by decide +kernel
theorem dX3_would_68 : decode cX3_would 68 = .ok (.ifCond .eq 7, 3) := by decide +kernel
theorem dX3_would_71 : decode cX3_would 71 = .ok (.iload_n 1, 1) := by decide +kernel
theorem dX3_would_72 : decode cX3_would 72 = .ok (.goto 5, 3) := by decide +kernel
theorem dX3_would_75 : decode cX3_would 75 = .ok (.bipush (-2), 2) := by decide +kernel
theorem dX3_would_77 : decode cX3_would 77 = .ok (.istore 7, 2) := by decide +kernel
theorem dX3_would_79 : decode cX3_would 79 = .ok (.aload_n 0, 1) := by decide +kernel
theorem dX3_would_80 : decode cX3_would 80 = .ok (.getfield 23, 3) := by decide +kernel
theorem dX3_would_83 : decode cX3_would 83 = .ok (.aload_n 0, 1) := by decide +kernel
theorem dX3_would_84 : decode cX3_would 84 = .ok (.getfield 11, 3) := by decide +kernel
theorem dX3_would_87 : decode cX3_would 87 = .ok (.iload 7, 2) := by decide +kernel
theorem dX3_would_89 : decode cX3_would 89 = .ok (.aload_n 0, 1) := by decide +kernel
theorem dX3_would_90 : decode cX3_would 90 = .ok (.getfield 16, 3) := by decide +kernel
theorem dX3_would_93 : decode cX3_would 93 = .ok (.iconst 0, 1) := by decide +kernel
theorem dX3_would_94 : decode cX3_would 94 = .ok (.iaload, 1) := by decide +kernel
theorem dX3_would_95 : decode cX3_would 95 = .ok (.aload_n 0, 1) := by decide +kernel
theorem dX3_would_96 : decode cX3_would 96 = .ok (.iload 7, 2) := by decide +kernel
theorem dX3_would_98 : decode cX3_would 98 = .ok (.lload_n 2, 1) := by decide +kernel
theorem dX3_would_99 : decode cX3_would 99 = .ok (.invokevirtual 105, 3) := by decide +kernel
theorem dX3_would_102 : decode cX3_would 102 = .ok (.invokevirtual 111, 3) := by decide +kernel
theorem dX3_would_105 : decode cX3_would 105 = .ok (.iconst 0, 1) := by decide +kernel
theorem dX3_would_106 : decode cX3_would 106 = .ok (.istore 8, 2) := by decide +kernel
theorem dX3_would_108 : decode cX3_would 108 = .ok (.iconst 0, 1) := by decide +kernel
theorem dX3_would_109 : decode cX3_would 109 = .ok (.istore 9, 2) := by decide +kernel
theorem dX3_would_111 : decode cX3_would 111 = .ok (.iload 9, 2) := by decide +kernel
theorem dX3_would_113 : decode cX3_would 113 = .ok (.iload 5, 2) := by decide +kernel
theorem dX3_would_115 : decode cX3_would 115 = .ok (.if_icmp .ge 23, 3) := by decide +kernel
theorem dX3_would_118 : decode cX3_would 118 = .ok (.aload_n 0, 1) := by decide +kernel
theorem dX3_would_119 : decode cX3_would 119 = .ok (.getfield 23, 3) := by decide +kernel
theorem dX3_would_122 : decode cX3_would 122 = .ok (.invokevirtual 130, 3) := by decide +kernel
theorem dX3_would_125 : decode cX3_would 125 = .ok (.iload_n 1, 1) := by decide +kernel
theorem dX3_would_126 : decode cX3_would 126 = .ok (.if_icmp .ne 6, 3) := by decide +kernel
theorem dX3_would_129 : decode cX3_would 129 = .ok (.iinc 8 1, 3) := by decide +kernel
theorem dX3_would_132 : decode cX3_would 132 = .ok (.iinc 9 1, 3) := by decide +kernel
theorem dX3_would_135 : decode cX3_would 135 = .ok (.goto (-24), 3) := by decide +kernel
theorem dX3_would_138 : decode cX3_would 138 = .ok (.iload 8, 2) := by decide +kernel
theorem dX3_would_140 : decode cX3_would 140 = .ok (.ireturn, 1) := by decide +kernel
theorem dX3_choices_0 : decode cX3_choices 0 = .ok (.aload_n 0, 1) := by decide +kernel
theorem dX3_choices_1 : decode cX3_choices 1 = .ok (.getfield 41, 3) := by decide +kernel
theorem dX3_choices_4 : decode cX3_choices 4 = .ok (.iconst 2, 1) := by decide +kernel
theorem dX3_choices_5 : decode cX3_choices 5 = .ok (.if_icmp .ne 15, 3) := by decide +kernel
theorem dX3_choices_8 : decode cX3_choices 8 = .ok (.aload_n 0, 1) := by decide +kernel
theorem dX3_choices_9 : decode cX3_choices 9 = .ok (.invokevirtual 81, 3) := by decide +kernel
theorem dX3_choices_12 : decode cX3_choices 12 = .ok (.aload_n 0, 1) := by decide +kernel
theorem dX3_choices_13 : decode cX3_choices 13 = .ok (.invokevirtual 99, 3) := by decide +kernel
theorem dX3_choices_16 : decode cX3_choices 16 = .ok (.isub, 1) := by decide +kernel
theorem dX3_choices_17 : decode cX3_choices 17 = .ok (.goto 4, 3) := by decide +kernel
theorem dX3_choices_20 : decode cX3_choices 20 = .ok (.iconst 0, 1) := by decide +kernel
theorem dX3_choices_21 : decode cX3_choices 21 = .ok (.ireturn, 1) := by decide +kernel
theorem dX3_digest_0 : decode cX3_digest 0 = .ok (.iload_n 1, 1) := by decide +kernel
theorem dX3_digest_1 : decode cX3_digest 1 = .ok (.invokestatic 37, 3) := by decide +kernel
theorem dX3_digest_4 : decode cX3_digest 4 = .ok (.ifCond .eq 11, 3) := by decide +kernel
theorem dX3_digest_7 : decode cX3_digest 7 = .ok (.iload_n 1, 1) := by decide +kernel
theorem dX3_digest_8 : decode cX3_digest 8 = .ok (.lload_n 2, 1) := by decide +kernel
theorem dX3_digest_9 : decode cX3_digest 9 = .ok (.invokestatic 89, 3) := by decide +kernel
theorem dX3_digest_12 : decode cX3_digest 12 = .ok (.goto 4, 3) := by decide +kernel
theorem dX3_digest_15 : decode cX3_digest 15 = .ok (.lconst 0, 1) := by decide +kernel
theorem dX3_digest_16 : decode cX3_digest 16 = .ok (.lreturn, 1) := by decide +kernel
theorem dX3_node_0 : decode cX3_node 0 = .ok (.iload_n 1, 1) := by decide +kernel
theorem dX3_node_1 : decode cX3_node 1 = .ok (.invokestatic 37, 3) := by decide +kernel
theorem dX3_node_4 : decode cX3_node 4 = .ok (.ifCond .eq 16, 3) := by decide +kernel
theorem dX3_node_7 : decode cX3_node 7 = .ok (.aload_n 0, 1) := by decide +kernel
theorem dX3_node_8 : decode cX3_node 8 = .ok (.getfield 11, 3) := by decide +kernel
theorem dX3_node_11 : decode cX3_node 11 = .ok (.iload_n 1, 1) := by decide +kernel
theorem dX3_node_12 : decode cX3_node 12 = .ok (.aaload, 1) := by decide +kernel
theorem dX3_node_13 : decode cX3_node 13 = .ok (.iload_n 2, 1) := by decide +kernel
theorem dX3_node_14 : decode cX3_node 14 = .ok (.invokevirtual 168, 3) := by decide +kernel
theorem dX3_node_17 : decode cX3_node 17 = .ok (.goto 4, 3) := by decide +kernel
theorem dX3_node_20 : decode cX3_node 20 = .ok (.iconst (-1), 1) := by decide +kernel
theorem dX3_node_21 : decode cX3_node 21 = .ok (.ireturn, 1) := by decide +kernel
theorem dX3_amount_0 : decode cX3_amount 0 = .ok (.iload_n 1, 1) := by decide +kernel
theorem dX3_amount_1 : decode cX3_amount 1 = .ok (.ifCond .ne 8, 3) := by decide +kernel
theorem dX3_amount_4 : decode cX3_amount 4 = .ok (.aload_n 0, 1) := by decide +kernel
theorem dX3_amount_5 : decode cX3_amount 5 = .ok (.getfield 108, 3) := by decide +kernel
theorem dX3_amount_8 : decode cX3_amount 8 = .ok (.lreturn, 1) := by decide +kernel
theorem dX3_amount_9 : decode cX3_amount 9 = .ok (.iload_n 1, 1) := by decide +kernel
theorem dX3_amount_10 : decode cX3_amount 10 = .ok (.iconst 1, 1) := by decide +kernel
theorem dX3_amount_11 : decode cX3_amount 11 = .ok (.if_icmp .ne 8, 3) := by decide +kernel
theorem dX3_amount_14 : decode cX3_amount 14 = .ok (.aload_n 0, 1) := by decide +kernel
theorem dX3_amount_15 : decode cX3_amount 15 = .ok (.getfield 171, 3) := by decide +kernel
theorem dX3_amount_18 : decode cX3_amount 18 = .ok (.lreturn, 1) := by decide +kernel
theorem dX3_amount_19 : decode cX3_amount 19 = .ok (.iload_n 1, 1) := by decide +kernel
theorem dX3_amount_20 : decode cX3_amount 20 = .ok (.iconst 2, 1) := by decide +kernel
theorem dX3_amount_21 : decode cX3_amount 21 = .ok (.if_icmp .lt 23, 3) := by decide +kernel
theorem dX3_amount_24 : decode cX3_amount 24 = .ok (.iload_n 1, 1) := by decide +kernel
theorem dX3_amount_25 : decode cX3_amount 25 = .ok (.bipush 14, 2) := by decide +kernel
theorem dX3_amount_27 : decode cX3_amount 27 = .ok (.if_icmp .ge 17, 3) := by decide +kernel
theorem dX3_amount_30 : decode cX3_amount 30 = .ok (.aload_n 0, 1) := by decide +kernel
theorem dX3_amount_31 : decode cX3_amount 31 = .ok (.getfield 11, 3) := by decide +kernel
theorem dX3_amount_34 : decode cX3_amount 34 = .ok (.iload_n 1, 1) := by decide +kernel
theorem dX3_amount_35 : decode cX3_amount 35 = .ok (.iconst 2, 1) := by decide +kernel
theorem dX3_amount_36 : decode cX3_amount 36 = .ok (.isub, 1) := by decide +kernel
theorem dX3_amount_37 : decode cX3_amount 37 = .ok (.aaload, 1) := by decide +kernel
theorem dX3_amount_38 : decode cX3_amount 38 = .ok (.getfield 50, 3) := by decide +kernel
theorem dX3_amount_41 : decode cX3_amount 41 = .ok (.goto 4, 3) := by decide +kernel
theorem dX3_amount_44 : decode cX3_amount 44 = .ok (.lconst 0, 1) := by decide +kernel
theorem dX3_amount_45 : decode cX3_amount 45 = .ok (.lreturn, 1) := by decide +kernel
theorem dX3_told_0 : decode cX3_told 0 = .ok (.iload_n 1, 1) := by decide +kernel
theorem dX3_told_1 : decode cX3_told 1 = .ok (.tableswitch 66 0 4 #[35, 40, 45, 53, 58], 35) := by decide +kernel
theorem dX3_told_36 : decode cX3_told 36 = .ok (.aload_n 0, 1) := by decide +kernel
theorem dX3_told_37 : decode cX3_told 37 = .ok (.getfield 41, 3) := by decide +kernel
theorem dX3_told_40 : decode cX3_told 40 = .ok (.ireturn, 1) := by decide +kernel
theorem dX3_told_41 : decode cX3_told 41 = .ok (.aload_n 0, 1) := by decide +kernel
theorem dX3_told_42 : decode cX3_told 42 = .ok (.getfield 64, 3) := by decide +kernel
theorem dX3_told_45 : decode cX3_told 45 = .ok (.ireturn, 1) := by decide +kernel
theorem dX3_told_46 : decode cX3_told 46 = .ok (.aload_n 0, 1) := by decide +kernel
theorem dX3_told_47 : decode cX3_told 47 = .ok (.getfield 30, 3) := by decide +kernel
theorem dX3_told_50 : decode cX3_told 50 = .ok (.getfield 156, 3) := by decide +kernel
theorem dX3_told_53 : decode cX3_told 53 = .ok (.ireturn, 1) := by decide +kernel
theorem dX3_told_54 : decode cX3_told 54 = .ok (.aload_n 0, 1) := by decide +kernel
theorem dX3_told_55 : decode cX3_told 55 = .ok (.getfield 143, 3) := by decide +kernel
theorem dX3_told_58 : decode cX3_told 58 = .ok (.ireturn, 1) := by decide +kernel
theorem dX3_told_59 : decode cX3_told 59 = .ok (.aload_n 0, 1) := by decide +kernel
theorem dX3_told_60 : decode cX3_told 60 = .ok (.getfield 30, 3) := by decide +kernel
theorem dX3_told_63 : decode cX3_told 63 = .ok (.getfield 174, 3) := by decide +kernel
theorem dX3_told_66 : decode cX3_told 66 = .ok (.ireturn, 1) := by decide +kernel
theorem dX3_told_67 : decode cX3_told 67 = .ok (.iload_n 1, 1) := by decide +kernel
theorem dX3_told_68 : decode cX3_told 68 = .ok (.iconst 5, 1) := by decide +kernel
theorem dX3_told_69 : decode cX3_told 69 = .ok (.if_icmp .lt 20, 3) := by decide +kernel
theorem dX3_told_72 : decode cX3_told 72 = .ok (.iload_n 1, 1) := by decide +kernel
theorem dX3_told_73 : decode cX3_told 73 = .ok (.bipush 9, 2) := by decide +kernel
theorem dX3_told_75 : decode cX3_told 75 = .ok (.if_icmp .ge 14, 3) := by decide +kernel
theorem dX3_told_78 : decode cX3_told 78 = .ok (.aload_n 0, 1) := by decide +kernel
theorem dX3_told_79 : decode cX3_told 79 = .ok (.getfield 16, 3) := by decide +kernel
theorem dX3_told_82 : decode cX3_told 82 = .ok (.iload_n 1, 1) := by decide +kernel
theorem dX3_told_83 : decode cX3_told 83 = .ok (.iconst 5, 1) := by decide +kernel
theorem dX3_told_84 : decode cX3_told 84 = .ok (.isub, 1) := by decide +kernel
theorem dX3_told_85 : decode cX3_told 85 = .ok (.iaload, 1) := by decide +kernel
theorem dX3_told_86 : decode cX3_told 86 = .ok (.goto 4, 3) := by decide +kernel
theorem dX3_told_89 : decode cX3_told 89 = .ok (.iconst (-1), 1) := by decide +kernel
theorem dX3_told_90 : decode cX3_told 90 = .ok (.ireturn, 1) := by decide +kernel
theorem dX3_isNode_0 : decode cX3_isNode 0 = .ok (.iload_n 0, 1) := by decide +kernel
theorem dX3_isNode_1 : decode cX3_isNode 1 = .ok (.ifCond .lt 13, 3) := by decide +kernel
theorem dX3_isNode_4 : decode cX3_isNode 4 = .ok (.iload_n 0, 1) := by decide +kernel
theorem dX3_isNode_5 : decode cX3_isNode 5 = .ok (.bipush 12, 2) := by decide +kernel
theorem dX3_isNode_7 : decode cX3_isNode 7 = .ok (.if_icmp .ge 7, 3) := by decide +kernel
theorem dX3_isNode_10 : decode cX3_isNode 10 = .ok (.iconst 1, 1) := by decide +kernel
theorem dX3_isNode_11 : decode cX3_isNode 11 = .ok (.goto 4, 3) := by decide +kernel
theorem dX3_isNode_14 : decode cX3_isNode 14 = .ok (.iconst 0, 1) := by decide +kernel
theorem dX3_isNode_15 : decode cX3_isNode 15 = .ok (.ireturn, 1) := by decide +kernel
theorem dX3_isLengthOfRow_0 : decode cX3_isLengthOfRow 0 = .ok (.iload_n 0, 1) := by decide +kernel
theorem dX3_isLengthOfRow_1 : decode cX3_isLengthOfRow 1 = .ok (.iconst 1, 1) := by decide +kernel
theorem dX3_isLengthOfRow_2 : decode cX3_isLengthOfRow 2 = .ok (.if_icmp .lt 13, 3) := by decide +kernel
theorem dX3_isLengthOfRow_5 : decode cX3_isLengthOfRow 5 = .ok (.iload_n 0, 1) := by decide +kernel
theorem dX3_isLengthOfRow_6 : decode cX3_isLengthOfRow 6 = .ok (.bipush 60, 2) := by decide +kernel
theorem dX3_isLengthOfRow_8 : decode cX3_isLengthOfRow 8 = .ok (.if_icmp .gt 7, 3) := by decide +kernel
theorem dX3_isLengthOfRow_11 : decode cX3_isLengthOfRow 11 = .ok (.iconst 1, 1) := by decide +kernel
theorem dX3_isLengthOfRow_12 : decode cX3_isLengthOfRow 12 = .ok (.goto 4, 3) := by decide +kernel
theorem dX3_isLengthOfRow_15 : decode cX3_isLengthOfRow 15 = .ok (.iconst 0, 1) := by decide +kernel
theorem dX3_isLengthOfRow_16 : decode cX3_isLengthOfRow 16 = .ok (.ireturn, 1) := by decide +kernel
theorem dX3_mix_0 : decode cX3_mix 0 = .ok (.lload_n 0, 1) := by decide +kernel
theorem dX3_mix_1 : decode cX3_mix 1 = .ok (.lload_n 0, 1) := by decide +kernel
theorem dX3_mix_2 : decode cX3_mix 2 = .ok (.bipush 30, 2) := by decide +kernel
theorem dX3_mix_4 : decode cX3_mix 4 = .ok (.lushr, 1) := by decide +kernel
theorem dX3_mix_5 : decode cX3_mix 5 = .ok (.lxor, 1) := by decide +kernel
theorem dX3_mix_6 : decode cX3_mix 6 = .ok (.ldc2_w 175, 3) := by decide +kernel
theorem dX3_mix_9 : decode cX3_mix 9 = .ok (.lmul, 1) := by decide +kernel
theorem dX3_mix_10 : decode cX3_mix 10 = .ok (.lstore_n 2, 1) := by decide +kernel
theorem dX3_mix_11 : decode cX3_mix 11 = .ok (.lload_n 2, 1) := by decide +kernel
theorem dX3_mix_12 : decode cX3_mix 12 = .ok (.lload_n 2, 1) := by decide +kernel
theorem dX3_mix_13 : decode cX3_mix 13 = .ok (.bipush 27, 2) := by decide +kernel
theorem dX3_mix_15 : decode cX3_mix 15 = .ok (.lushr, 1) := by decide +kernel
theorem dX3_mix_16 : decode cX3_mix 16 = .ok (.lxor, 1) := by decide +kernel
theorem dX3_mix_17 : decode cX3_mix 17 = .ok (.ldc2_w 177, 3) := by decide +kernel
theorem dX3_mix_20 : decode cX3_mix 20 = .ok (.lmul, 1) := by decide +kernel
theorem dX3_mix_21 : decode cX3_mix 21 = .ok (.lstore_n 2, 1) := by decide +kernel
theorem dX3_mix_22 : decode cX3_mix 22 = .ok (.lload_n 2, 1) := by decide +kernel
theorem dX3_mix_23 : decode cX3_mix 23 = .ok (.lload_n 2, 1) := by decide +kernel
theorem dX3_mix_24 : decode cX3_mix 24 = .ok (.bipush 31, 2) := by decide +kernel
theorem dX3_mix_26 : decode cX3_mix 26 = .ok (.lushr, 1) := by decide +kernel
theorem dX3_mix_27 : decode cX3_mix 27 = .ok (.lxor, 1) := by decide +kernel
theorem dX3_mix_28 : decode cX3_mix 28 = .ok (.lreturn, 1) := by decide +kernel
theorem dX3_digestOf_0 : decode cX3_digestOf 0 = .ok (.lload_n 1, 1) := by decide +kernel
theorem dX3_digestOf_1 : decode cX3_digestOf 1 = .ok (.invokestatic 179, 3) := by decide +kernel
theorem dX3_digestOf_4 : decode cX3_digestOf 4 = .ok (.iload_n 0, 1) := by decide +kernel
theorem dX3_digestOf_5 : decode cX3_digestOf 5 = .ok (.iconst 1, 1) := by decide +kernel
theorem dX3_digestOf_6 : decode cX3_digestOf 6 = .ok (.iadd, 1) := by decide +kernel
theorem dX3_digestOf_7 : decode cX3_digestOf 7 = .ok (.i2l, 1) := by decide +kernel
theorem dX3_digestOf_8 : decode cX3_digestOf 8 = .ok (.ldc2_w 183, 3) := by decide +kernel
theorem dX3_digestOf_11 : decode cX3_digestOf 11 = .ok (.lmul, 1) := by decide +kernel
theorem dX3_digestOf_12 : decode cX3_digestOf 12 = .ok (.ladd, 1) := by decide +kernel
theorem dX3_digestOf_13 : decode cX3_digestOf 13 = .ok (.invokestatic 179, 3) := by decide +kernel
theorem dX3_digestOf_16 : decode cX3_digestOf 16 = .ok (.lreturn, 1) := by decide +kernel
theorem dX3_countCommitted_0 : decode cX3_countCommitted 0 = .ok (.iconst 0, 1) := by decide +kernel
theorem dX3_countCommitted_1 : decode cX3_countCommitted 1 = .ok (.istore_n 1, 1) := by decide +kernel
theorem dX3_countCommitted_2 : decode cX3_countCommitted 2 = .ok (.iconst 0, 1) := by decide +kernel
theorem dX3_countCommitted_3 : decode cX3_countCommitted 3 = .ok (.istore_n 2, 1) := by decide +kernel
theorem dX3_countCommitted_4 : decode cX3_countCommitted 4 = .ok (.iload_n 2, 1) := by decide +kernel
theorem dX3_countCommitted_5 : decode cX3_countCommitted 5 = .ok (.bipush 12, 2) := by decide +kernel
theorem dX3_countCommitted_7 : decode cX3_countCommitted 7 = .ok (.if_icmp .ge 24, 3) := by decide +kernel
theorem dX3_countCommitted_10 : decode cX3_countCommitted 10 = .ok (.aload_n 0, 1) := by decide +kernel
theorem dX3_countCommitted_11 : decode cX3_countCommitted 11 = .ok (.getfield 11, 3) := by decide +kernel
theorem dX3_countCommitted_14 : decode cX3_countCommitted 14 = .ok (.iload_n 2, 1) := by decide +kernel
theorem dX3_countCommitted_15 : decode cX3_countCommitted 15 = .ok (.aaload, 1) := by decide +kernel
theorem dX3_countCommitted_16 : decode cX3_countCommitted 16 = .ok (.getfield 75, 3) := by decide +kernel
theorem dX3_countCommitted_19 : decode cX3_countCommitted 19 = .ok (.ifCond .eq 6, 3) := by decide +kernel
theorem dX3_countCommitted_22 : decode cX3_countCommitted 22 = .ok (.iinc 1 1, 3) := by decide +kernel
theorem dX3_countCommitted_25 : decode cX3_countCommitted 25 = .ok (.iinc 2 1, 3) := by decide +kernel
theorem dX3_countCommitted_28 : decode cX3_countCommitted 28 = .ok (.goto (-24), 3) := by decide +kernel
theorem dX3_countCommitted_31 : decode cX3_countCommitted 31 = .ok (.iload_n 1, 1) := by decide +kernel
theorem dX3_countCommitted_32 : decode cX3_countCommitted 32 = .ok (.ireturn, 1) := by decide +kernel
theorem dX3_countOpened_0 : decode cX3_countOpened 0 = .ok (.iconst 0, 1) := by decide +kernel
theorem dX3_countOpened_1 : decode cX3_countOpened 1 = .ok (.istore_n 1, 1) := by decide +kernel
theorem dX3_countOpened_2 : decode cX3_countOpened 2 = .ok (.iconst 0, 1) := by decide +kernel
theorem dX3_countOpened_3 : decode cX3_countOpened 3 = .ok (.istore_n 2, 1) := by decide +kernel
theorem dX3_countOpened_4 : decode cX3_countOpened 4 = .ok (.iload_n 2, 1) := by decide +kernel
theorem dX3_countOpened_5 : decode cX3_countOpened 5 = .ok (.bipush 12, 2) := by decide +kernel
theorem dX3_countOpened_7 : decode cX3_countOpened 7 = .ok (.if_icmp .ge 24, 3) := by decide +kernel
theorem dX3_countOpened_10 : decode cX3_countOpened 10 = .ok (.aload_n 0, 1) := by decide +kernel
theorem dX3_countOpened_11 : decode cX3_countOpened 11 = .ok (.getfield 11, 3) := by decide +kernel
theorem dX3_countOpened_14 : decode cX3_countOpened 14 = .ok (.iload_n 2, 1) := by decide +kernel
theorem dX3_countOpened_15 : decode cX3_countOpened 15 = .ok (.aaload, 1) := by decide +kernel
theorem dX3_countOpened_16 : decode cX3_countOpened 16 = .ok (.getfield 93, 3) := by decide +kernel
theorem dX3_countOpened_19 : decode cX3_countOpened 19 = .ok (.ifCond .eq 6, 3) := by decide +kernel
theorem dX3_countOpened_22 : decode cX3_countOpened 22 = .ok (.iinc 1 1, 3) := by decide +kernel
theorem dX3_countOpened_25 : decode cX3_countOpened 25 = .ok (.iinc 2 1, 3) := by decide +kernel
theorem dX3_countOpened_28 : decode cX3_countOpened 28 = .ok (.goto (-24), 3) := by decide +kernel
theorem dX3_countOpened_31 : decode cX3_countOpened 31 = .ok (.iload_n 1, 1) := by decide +kernel
theorem dX3_countOpened_32 : decode cX3_countOpened 32 = .ok (.ireturn, 1) := by decide +kernel
theorem dX3_seedOfDraw_0 : decode cX3_seedOfDraw 0 = .ok (.aload_n 0, 1) := by decide +kernel
theorem dX3_seedOfDraw_1 : decode cX3_seedOfDraw 1 = .ok (.getfield 108, 3) := by decide +kernel
theorem dX3_seedOfDraw_4 : decode cX3_seedOfDraw 4 = .ok (.aload_n 0, 1) := by decide +kernel
theorem dX3_seedOfDraw_5 : decode cX3_seedOfDraw 5 = .ok (.getfield 64, 3) := by decide +kernel
theorem dX3_seedOfDraw_8 : decode cX3_seedOfDraw 8 = .ok (.i2l, 1) := by decide +kernel
theorem dX3_seedOfDraw_9 : decode cX3_seedOfDraw 9 = .ok (.ldc2_w 183, 3) := by decide +kernel
theorem dX3_seedOfDraw_12 : decode cX3_seedOfDraw 12 = .ok (.lmul, 1) := by decide +kernel
theorem dX3_seedOfDraw_13 : decode cX3_seedOfDraw 13 = .ok (.ladd, 1) := by decide +kernel
theorem dX3_seedOfDraw_14 : decode cX3_seedOfDraw 14 = .ok (.invokestatic 179, 3) := by decide +kernel
theorem dX3_seedOfDraw_17 : decode cX3_seedOfDraw 17 = .ok (.lstore 4, 2) := by decide +kernel
theorem dX3_seedOfDraw_19 : decode cX3_seedOfDraw 19 = .ok (.iconst 0, 1) := by decide +kernel
theorem dX3_seedOfDraw_20 : decode cX3_seedOfDraw 20 = .ok (.istore 6, 2) := by decide +kernel
theorem dX3_seedOfDraw_22 : decode cX3_seedOfDraw 22 = .ok (.iload 6, 2) := by decide +kernel
theorem dX3_seedOfDraw_24 : decode cX3_seedOfDraw 24 = .ok (.bipush 12, 2) := by decide +kernel
theorem dX3_seedOfDraw_26 : decode cX3_seedOfDraw 26 = .ok (.if_icmp .ge 61, 3) := by decide +kernel
theorem dX3_seedOfDraw_29 : decode cX3_seedOfDraw 29 = .ok (.aload_n 0, 1) := by decide +kernel
theorem dX3_seedOfDraw_30 : decode cX3_seedOfDraw 30 = .ok (.getfield 11, 3) := by decide +kernel
theorem dX3_seedOfDraw_33 : decode cX3_seedOfDraw 33 = .ok (.iload 6, 2) := by decide +kernel
theorem dX3_seedOfDraw_35 : decode cX3_seedOfDraw 35 = .ok (.aaload, 1) := by decide +kernel
theorem dX3_seedOfDraw_36 : decode cX3_seedOfDraw 36 = .ok (.astore 7, 2) := by decide +kernel
theorem dX3_seedOfDraw_38 : decode cX3_seedOfDraw 38 = .ok (.aload 7, 2) := by decide +kernel
theorem dX3_seedOfDraw_40 : decode cX3_seedOfDraw 40 = .ok (.getfield 93, 3) := by decide +kernel
theorem dX3_seedOfDraw_43 : decode cX3_seedOfDraw 43 = .ok (.ifCond .ne 9, 3) := by decide +kernel
theorem dX3_seedOfDraw_46 : decode cX3_seedOfDraw 46 = .ok (.iload 6, 2) := by decide +kernel
theorem dX3_seedOfDraw_48 : decode cX3_seedOfDraw 48 = .ok (.iload_n 1, 1) := by decide +kernel
theorem dX3_seedOfDraw_49 : decode cX3_seedOfDraw 49 = .ok (.if_icmp .ne 32, 3) := by decide +kernel
theorem dX3_seedOfDraw_52 : decode cX3_seedOfDraw 52 = .ok (.lload 4, 2) := by decide +kernel
theorem dX3_seedOfDraw_54 : decode cX3_seedOfDraw 54 = .ok (.aload 7, 2) := by decide +kernel
theorem dX3_seedOfDraw_56 : decode cX3_seedOfDraw 56 = .ok (.getfield 78, 3) := by decide +kernel
theorem dX3_seedOfDraw_59 : decode cX3_seedOfDraw 59 = .ok (.lxor, 1) := by decide +kernel
theorem dX3_seedOfDraw_60 : decode cX3_seedOfDraw 60 = .ok (.iload 6, 2) := by decide +kernel
theorem dX3_seedOfDraw_62 : decode cX3_seedOfDraw 62 = .ok (.iload_n 1, 1) := by decide +kernel
theorem dX3_seedOfDraw_63 : decode cX3_seedOfDraw 63 = .ok (.if_icmp .ne 7, 3) := by decide +kernel
theorem dX3_seedOfDraw_66 : decode cX3_seedOfDraw 66 = .ok (.lload_n 2, 1) := by decide +kernel
theorem dX3_seedOfDraw_67 : decode cX3_seedOfDraw 67 = .ok (.goto 8, 3) := by decide +kernel
theorem dX3_seedOfDraw_70 : decode cX3_seedOfDraw 70 = .ok (.aload 7, 2) := by decide +kernel
theorem dX3_seedOfDraw_72 : decode cX3_seedOfDraw 72 = .ok (.getfield 96, 3) := by decide +kernel
theorem dX3_seedOfDraw_75 : decode cX3_seedOfDraw 75 = .ok (.lxor, 1) := by decide +kernel
theorem dX3_seedOfDraw_76 : decode cX3_seedOfDraw 76 = .ok (.invokestatic 179, 3) := by decide +kernel
theorem dX3_seedOfDraw_79 : decode cX3_seedOfDraw 79 = .ok (.lstore 4, 2) := by decide +kernel
theorem dX3_seedOfDraw_81 : decode cX3_seedOfDraw 81 = .ok (.iinc 6 1, 3) := by decide +kernel
theorem dX3_seedOfDraw_84 : decode cX3_seedOfDraw 84 = .ok (.goto (-62), 3) := by decide +kernel
theorem dX3_seedOfDraw_87 : decode cX3_seedOfDraw 87 = .ok (.lload 4, 2) := by decide +kernel
theorem dX3_seedOfDraw_89 : decode cX3_seedOfDraw 89 = .ok (.lreturn, 1) := by decide +kernel
theorem dX3_fineWithholders_0 : decode cX3_fineWithholders 0 = .ok (.iconst 0, 1) := by decide +kernel
theorem dX3_fineWithholders_1 : decode cX3_fineWithholders 1 = .ok (.istore_n 1, 1) := by decide +kernel
theorem dX3_fineWithholders_2 : decode cX3_fineWithholders 2 = .ok (.iload_n 1, 1) := by decide +kernel
theorem dX3_fineWithholders_3 : decode cX3_fineWithholders 3 = .ok (.bipush 12, 2) := by decide +kernel
theorem dX3_fineWithholders_5 : decode cX3_fineWithholders 5 = .ok (.if_icmp .ge 65, 3) := by decide +kernel
theorem dX3_fineWithholders_8 : decode cX3_fineWithholders 8 = .ok (.aload_n 0, 1) := by decide +kernel
theorem dX3_fineWithholders_9 : decode cX3_fineWithholders 9 = .ok (.getfield 11, 3) := by decide +kernel
theorem dX3_fineWithholders_12 : decode cX3_fineWithholders 12 = .ok (.iload_n 1, 1) := by decide +kernel
theorem dX3_fineWithholders_13 : decode cX3_fineWithholders 13 = .ok (.aaload, 1) := by decide +kernel
theorem dX3_fineWithholders_14 : decode cX3_fineWithholders 14 = .ok (.invokevirtual 85, 3) := by decide +kernel
theorem dX3_fineWithholders_17 : decode cX3_fineWithholders 17 = .ok (.ifCond .eq 47, 3) := by decide +kernel
theorem dX3_fineWithholders_20 : decode cX3_fineWithholders 20 = .ok (.aload_n 0, 1) := by decide +kernel
theorem dX3_fineWithholders_21 : decode cX3_fineWithholders 21 = .ok (.dup, 1) := by decide +kernel
theorem dX3_fineWithholders_22 : decode cX3_fineWithholders 22 = .ok (.getfield 171, 3) := by decide +kernel
theorem dX3_fineWithholders_25 : decode cX3_fineWithholders 25 = .ok (.aload_n 0, 1) := by decide +kernel
theorem dX3_fineWithholders_26 : decode cX3_fineWithholders 26 = .ok (.getfield 11, 3) := by decide +kernel
theorem dX3_fineWithholders_29 : decode cX3_fineWithholders 29 = .ok (.iload_n 1, 1) := by decide +kernel
theorem dX3_fineWithholders_30 : decode cX3_fineWithholders 30 = .ok (.aaload, 1) := by decide +kernel
theorem dX3_fineWithholders_31 : decode cX3_fineWithholders 31 = .ok (.aload_n 0, 1) := by decide +kernel
theorem dX3_fineWithholders_32 : decode cX3_fineWithholders 32 = .ok (.getfield 16, 3) := by decide +kernel
theorem dX3_fineWithholders_35 : decode cX3_fineWithholders 35 = .ok (.iconst 1, 1) := by decide +kernel
theorem dX3_fineWithholders_36 : decode cX3_fineWithholders 36 = .ok (.iaload, 1) := by decide +kernel
theorem dX3_fineWithholders_37 : decode cX3_fineWithholders 37 = .ok (.invokevirtual 185, 3) := by decide +kernel
theorem dX3_fineWithholders_40 : decode cX3_fineWithholders 40 = .ok (.ladd, 1) := by decide +kernel
theorem dX3_fineWithholders_41 : decode cX3_fineWithholders 41 = .ok (.putfield 171, 3) := by decide +kernel
theorem dX3_fineWithholders_44 : decode cX3_fineWithholders 44 = .ok (.aload_n 0, 1) := by decide +kernel
theorem dX3_fineWithholders_45 : decode cX3_fineWithholders 45 = .ok (.getfield 11, 3) := by decide +kernel
theorem dX3_fineWithholders_48 : decode cX3_fineWithholders 48 = .ok (.iload_n 1, 1) := by decide +kernel
theorem dX3_fineWithholders_49 : decode cX3_fineWithholders 49 = .ok (.aaload, 1) := by decide +kernel
theorem dX3_fineWithholders_50 : decode cX3_fineWithholders 50 = .ok (.aload_n 0, 1) := by decide +kernel
theorem dX3_fineWithholders_51 : decode cX3_fineWithholders 51 = .ok (.getfield 64, 3) := by decide +kernel
theorem dX3_fineWithholders_54 : decode cX3_fineWithholders 54 = .ok (.aload_n 0, 1) := by decide +kernel
theorem dX3_fineWithholders_55 : decode cX3_fineWithholders 55 = .ok (.getfield 16, 3) := by decide +kernel
theorem dX3_fineWithholders_58 : decode cX3_fineWithholders 58 = .ok (.iconst 2, 1) := by decide +kernel
theorem dX3_fineWithholders_59 : decode cX3_fineWithholders 59 = .ok (.iaload, 1) := by decide +kernel
theorem dX3_fineWithholders_60 : decode cX3_fineWithholders 60 = .ok (.iadd, 1) := by decide +kernel
theorem dX3_fineWithholders_61 : decode cX3_fineWithholders 61 = .ok (.invokevirtual 189, 3) := by decide +kernel
theorem dX3_fineWithholders_64 : decode cX3_fineWithholders 64 = .ok (.iinc 1 1, 3) := by decide +kernel
theorem dX3_fineWithholders_67 : decode cX3_fineWithholders 67 = .ok (.goto (-65), 3) := by decide +kernel
theorem dX3_fineWithholders_70 : decode cX3_fineWithholders 70 = .ok (.return_, 1) := by decide +kernel
theorem dX3_keepWaits_0 : decode cX3_keepWaits 0 = .ok (.iconst 0, 1) := by decide +kernel
theorem dX3_keepWaits_1 : decode cX3_keepWaits 1 = .ok (.istore_n 1, 1) := by decide +kernel
theorem dX3_keepWaits_2 : decode cX3_keepWaits 2 = .ok (.iload_n 1, 1) := by decide +kernel
theorem dX3_keepWaits_3 : decode cX3_keepWaits 3 = .ok (.bipush 12, 2) := by decide +kernel
theorem dX3_keepWaits_5 : decode cX3_keepWaits 5 = .ok (.if_icmp .ge 27, 3) := by decide +kernel
theorem dX3_keepWaits_8 : decode cX3_keepWaits 8 = .ok (.aload_n 0, 1) := by decide +kernel
theorem dX3_keepWaits_9 : decode cX3_keepWaits 9 = .ok (.getfield 11, 3) := by decide +kernel
theorem dX3_keepWaits_12 : decode cX3_keepWaits 12 = .ok (.iload_n 1, 1) := by decide +kernel
theorem dX3_keepWaits_13 : decode cX3_keepWaits 13 = .ok (.aaload, 1) := by decide +kernel
theorem dX3_keepWaits_14 : decode cX3_keepWaits 14 = .ok (.aload_n 0, 1) := by decide +kernel
theorem dX3_keepWaits_15 : decode cX3_keepWaits 15 = .ok (.getfield 23, 3) := by decide +kernel
theorem dX3_keepWaits_18 : decode cX3_keepWaits 18 = .ok (.getfield 192, 3) := by decide +kernel
theorem dX3_keepWaits_21 : decode cX3_keepWaits 21 = .ok (.iload_n 1, 1) := by decide +kernel
theorem dX3_keepWaits_22 : decode cX3_keepWaits 22 = .ok (.iaload, 1) := by decide +kernel
theorem dX3_keepWaits_23 : decode cX3_keepWaits 23 = .ok (.putfield 195, 3) := by decide +kernel
theorem dX3_keepWaits_26 : decode cX3_keepWaits 26 = .ok (.iinc 1 1, 3) := by decide +kernel
theorem dX3_keepWaits_29 : decode cX3_keepWaits 29 = .ok (.goto (-27), 3) := by decide +kernel
theorem dX3_keepWaits_32 : decode cX3_keepWaits 32 = .ok (.return_, 1) := by decide +kernel
theorem dX3_endEpoch_0 : decode cX3_endEpoch 0 = .ok (.aload_n 0, 1) := by decide +kernel
theorem dX3_endEpoch_1 : decode cX3_endEpoch 1 = .ok (.iconst 0, 1) := by decide +kernel
theorem dX3_endEpoch_2 : decode cX3_endEpoch 2 = .ok (.putfield 41, 3) := by decide +kernel
theorem dX3_endEpoch_5 : decode cX3_endEpoch 5 = .ok (.aload_n 0, 1) := by decide +kernel
theorem dX3_endEpoch_6 : decode cX3_endEpoch 6 = .ok (.iconst 0, 1) := by decide +kernel
theorem dX3_endEpoch_7 : decode cX3_endEpoch 7 = .ok (.putfield 143, 3) := by decide +kernel
theorem dX3_endEpoch_10 : decode cX3_endEpoch 10 = .ok (.iconst 0, 1) := by decide +kernel
theorem dX3_endEpoch_11 : decode cX3_endEpoch 11 = .ok (.istore_n 1, 1) := by decide +kernel
theorem dX3_endEpoch_12 : decode cX3_endEpoch 12 = .ok (.iload_n 1, 1) := by decide +kernel
theorem dX3_endEpoch_13 : decode cX3_endEpoch 13 = .ok (.bipush 12, 2) := by decide +kernel
theorem dX3_endEpoch_15 : decode cX3_endEpoch 15 = .ok (.if_icmp .ge 18, 3) := by decide +kernel
theorem dX3_endEpoch_18 : decode cX3_endEpoch 18 = .ok (.aload_n 0, 1) := by decide +kernel
theorem dX3_endEpoch_19 : decode cX3_endEpoch 19 = .ok (.getfield 11, 3) := by decide +kernel
theorem dX3_endEpoch_22 : decode cX3_endEpoch 22 = .ok (.iload_n 1, 1) := by decide +kernel
theorem dX3_endEpoch_23 : decode cX3_endEpoch 23 = .ok (.aaload, 1) := by decide +kernel
theorem dX3_endEpoch_24 : decode cX3_endEpoch 24 = .ok (.invokevirtual 198, 3) := by decide +kernel
theorem dX3_endEpoch_27 : decode cX3_endEpoch 27 = .ok (.iinc 1 1, 3) := by decide +kernel
theorem dX3_endEpoch_30 : decode cX3_endEpoch 30 = .ok (.goto (-18), 3) := by decide +kernel
theorem dX3_endEpoch_33 : decode cX3_endEpoch 33 = .ok (.return_, 1) := by decide +kernel
theorem dX3_firstUnlike_0 : decode cX3_firstUnlike 0 = .ok (.aload_n 0, 1) := by decide +kernel
theorem dX3_firstUnlike_1 : decode cX3_firstUnlike 1 = .ok (.getfield 162, 3) := by decide +kernel
theorem dX3_firstUnlike_4 : decode cX3_firstUnlike 4 = .ok (.aload_n 0, 1) := by decide +kernel
theorem dX3_firstUnlike_5 : decode cX3_firstUnlike 5 = .ok (.getfield 30, 3) := by decide +kernel
theorem dX3_firstUnlike_8 : decode cX3_firstUnlike 8 = .ok (.getfield 156, 3) := by decide +kernel
theorem dX3_firstUnlike_11 : decode cX3_firstUnlike 11 = .ok (.invokestatic 201, 3) := by decide +kernel
theorem dX3_firstUnlike_14 : decode cX3_firstUnlike 14 = .ok (.istore_n 1, 1) := by decide +kernel
theorem dX3_firstUnlike_15 : decode cX3_firstUnlike 15 = .ok (.iconst 0, 1) := by decide +kernel
theorem dX3_firstUnlike_16 : decode cX3_firstUnlike 16 = .ok (.istore_n 2, 1) := by decide +kernel
theorem dX3_firstUnlike_17 : decode cX3_firstUnlike 17 = .ok (.iload_n 2, 1) := by decide +kernel
theorem dX3_firstUnlike_18 : decode cX3_firstUnlike 18 = .ok (.iload_n 1, 1) := by decide +kernel
theorem dX3_firstUnlike_19 : decode cX3_firstUnlike 19 = .ok (.if_icmp .ge 29, 3) := by decide +kernel
theorem dX3_firstUnlike_22 : decode cX3_firstUnlike 22 = .ok (.aload_n 0, 1) := by decide +kernel
theorem dX3_firstUnlike_23 : decode cX3_firstUnlike 23 = .ok (.getfield 34, 3) := by decide +kernel
theorem dX3_firstUnlike_26 : decode cX3_firstUnlike 26 = .ok (.iload_n 2, 1) := by decide +kernel
theorem dX3_firstUnlike_27 : decode cX3_firstUnlike 27 = .ok (.iaload, 1) := by decide +kernel
theorem dX3_firstUnlike_28 : decode cX3_firstUnlike 28 = .ok (.aload_n 0, 1) := by decide +kernel
theorem dX3_firstUnlike_29 : decode cX3_firstUnlike 29 = .ok (.getfield 30, 3) := by decide +kernel
theorem dX3_firstUnlike_32 : decode cX3_firstUnlike 32 = .ok (.getfield 207, 3) := by decide +kernel
theorem dX3_firstUnlike_35 : decode cX3_firstUnlike 35 = .ok (.iload_n 2, 1) := by decide +kernel
theorem dX3_firstUnlike_36 : decode cX3_firstUnlike 36 = .ok (.iaload, 1) := by decide +kernel
theorem dX3_firstUnlike_37 : decode cX3_firstUnlike 37 = .ok (.if_icmp .eq 5, 3) := by decide +kernel
theorem dX3_firstUnlike_40 : decode cX3_firstUnlike 40 = .ok (.iload_n 2, 1) := by decide +kernel
theorem dX3_firstUnlike_41 : decode cX3_firstUnlike 41 = .ok (.ireturn, 1) := by decide +kernel
theorem dX3_firstUnlike_42 : decode cX3_firstUnlike 42 = .ok (.iinc 2 1, 3) := by decide +kernel
theorem dX3_firstUnlike_45 : decode cX3_firstUnlike 45 = .ok (.goto (-28), 3) := by decide +kernel
theorem dX3_firstUnlike_48 : decode cX3_firstUnlike 48 = .ok (.aload_n 0, 1) := by decide +kernel
theorem dX3_firstUnlike_49 : decode cX3_firstUnlike 49 = .ok (.getfield 162, 3) := by decide +kernel
theorem dX3_firstUnlike_52 : decode cX3_firstUnlike 52 = .ok (.aload_n 0, 1) := by decide +kernel
theorem dX3_firstUnlike_53 : decode cX3_firstUnlike 53 = .ok (.getfield 30, 3) := by decide +kernel
theorem dX3_firstUnlike_56 : decode cX3_firstUnlike 56 = .ok (.getfield 156, 3) := by decide +kernel
theorem dX3_firstUnlike_59 : decode cX3_firstUnlike 59 = .ok (.if_icmp .ne 8, 3) := by decide +kernel
theorem dX3_firstUnlike_62 : decode cX3_firstUnlike 62 = .ok (.bipush (-2), 2) := by decide +kernel
theorem dX3_firstUnlike_64 : decode cX3_firstUnlike 64 = .ok (.goto 4, 3) := by decide +kernel
theorem dX3_firstUnlike_67 : decode cX3_firstUnlike 67 = .ok (.iload_n 1, 1) := by decide +kernel
theorem dX3_firstUnlike_68 : decode cX3_firstUnlike 68 = .ok (.ireturn, 1) := by decide +kernel
theorem dX4_init_0 : decode cX4_init 0 = .ok (.aload_n 0, 1) := by decide +kernel
theorem dX4_init_1 : decode cX4_init 1 = .ok (.invokespecial 1, 3) := by decide +kernel
theorem dX4_init_4 : decode cX4_init 4 = .ok (.aload_n 0, 1) := by decide +kernel
theorem dX4_init_5 : decode cX4_init 5 = .ok (.iconst 4, 1) := by decide +kernel
theorem dX4_init_6 : decode cX4_init 6 = .ok (.newarray .int, 2) := by decide +kernel
theorem dX4_init_8 : decode cX4_init 8 = .ok (.putfield 7, 3) := by decide +kernel
theorem dX4_init_11 : decode cX4_init 11 = .ok (.aload_n 0, 1) := by decide +kernel
theorem dX4_init_12 : decode cX4_init 12 = .ok (.bipush 12, 2) := by decide +kernel
theorem dX4_init_14 : decode cX4_init 14 = .ok (.newarray .int, 2) := by decide +kernel
theorem dX4_init_16 : decode cX4_init 16 = .ok (.putfield 13, 3) := by decide +kernel
theorem dX4_init_19 : decode cX4_init 19 = .ok (.aload_n 0, 1) := by decide +kernel
theorem dX4_init_20 : decode cX4_init 20 = .ok (.bipush 12, 2) := by decide +kernel
theorem dX4_init_22 : decode cX4_init 22 = .ok (.newarray .long, 2) := by decide +kernel
theorem dX4_init_24 : decode cX4_init 24 = .ok (.putfield 16, 3) := by decide +kernel
theorem dX4_init_27 : decode cX4_init 27 = .ok (.aload_n 0, 1) := by decide +kernel
theorem dX4_init_28 : decode cX4_init 28 = .ok (.bipush 12, 2) := by decide +kernel
theorem dX4_init_30 : decode cX4_init 30 = .ok (.newarray .int, 2) := by decide +kernel
theorem dX4_init_32 : decode cX4_init 32 = .ok (.putfield 20, 3) := by decide +kernel
theorem dX4_init_35 : decode cX4_init 35 = .ok (.aload_n 0, 1) := by decide +kernel
theorem dX4_init_36 : decode cX4_init 36 = .ok (.bipush 12, 2) := by decide +kernel
theorem dX4_init_38 : decode cX4_init 38 = .ok (.newarray .int, 2) := by decide +kernel
theorem dX4_init_40 : decode cX4_init 40 = .ok (.putfield 23, 3) := by decide +kernel
theorem dX4_init_43 : decode cX4_init 43 = .ok (.aload_n 0, 1) := by decide +kernel
theorem dX4_init_44 : decode cX4_init 44 = .ok (.bipush 12, 2) := by decide +kernel
theorem dX4_init_46 : decode cX4_init 46 = .ok (.newarray .int, 2) := by decide +kernel
theorem dX4_init_48 : decode cX4_init 48 = .ok (.putfield 26, 3) := by decide +kernel
theorem dX4_init_51 : decode cX4_init 51 = .ok (.aload_n 0, 1) := by decide +kernel
theorem dX4_init_52 : decode cX4_init 52 = .ok (.bipush 12, 2) := by decide +kernel
theorem dX4_init_54 : decode cX4_init 54 = .ok (.newarray .int, 2) := by decide +kernel
theorem dX4_init_56 : decode cX4_init 56 = .ok (.putfield 29, 3) := by decide +kernel
theorem dX4_init_59 : decode cX4_init 59 = .ok (.aload_n 0, 1) := by decide +kernel
theorem dX4_init_60 : decode cX4_init 60 = .ok (.bipush 12, 2) := by decide +kernel
theorem dX4_init_62 : decode cX4_init 62 = .ok (.newarray .int, 2) := by decide +kernel
theorem dX4_init_64 : decode cX4_init 64 = .ok (.putfield 32, 3) := by decide +kernel
theorem dX4_init_67 : decode cX4_init 67 = .ok (.aload_n 0, 1) := by decide +kernel
theorem dX4_init_68 : decode cX4_init 68 = .ok (.bipush 12, 2) := by decide +kernel
theorem dX4_init_70 : decode cX4_init 70 = .ok (.newarray .boolean, 2) := by decide +kernel
theorem dX4_init_72 : decode cX4_init 72 = .ok (.putfield 35, 3) := by decide +kernel
theorem dX4_init_75 : decode cX4_init 75 = .ok (.aload_n 0, 1) := by decide +kernel
theorem dX4_init_76 : decode cX4_init 76 = .ok (.bipush 12, 2) := by decide +kernel
theorem dX4_init_78 : decode cX4_init 78 = .ok (.newarray .boolean, 2) := by decide +kernel
theorem dX4_init_80 : decode cX4_init 80 = .ok (.putfield 39, 3) := by decide +kernel
theorem dX4_init_83 : decode cX4_init 83 = .ok (.aload_n 0, 1) := by decide +kernel
theorem dX4_init_84 : decode cX4_init 84 = .ok (.bipush 12, 2) := by decide +kernel
theorem dX4_init_86 : decode cX4_init 86 = .ok (.newarray .boolean, 2) := by decide +kernel
theorem dX4_init_88 : decode cX4_init 88 = .ok (.putfield 42, 3) := by decide +kernel
theorem dX4_init_91 : decode cX4_init 91 = .ok (.aload_n 0, 1) := by decide +kernel
theorem dX4_init_92 : decode cX4_init 92 = .ok (.bipush 12, 2) := by decide +kernel
theorem dX4_init_94 : decode cX4_init 94 = .ok (.newarray .long, 2) := by decide +kernel
theorem dX4_init_96 : decode cX4_init 96 = .ok (.putfield 45, 3) := by decide +kernel
theorem dX4_init_99 : decode cX4_init 99 = .ok (.aload_n 0, 1) := by decide +kernel
theorem dX4_init_100 : decode cX4_init 100 = .ok (.bipush 12, 2) := by decide +kernel
theorem dX4_init_102 : decode cX4_init 102 = .ok (.newarray .long, 2) := by decide +kernel
theorem dX4_init_104 : decode cX4_init 104 = .ok (.putfield 48, 3) := by decide +kernel
theorem dX4_init_107 : decode cX4_init 107 = .ok (.aload_n 0, 1) := by decide +kernel
theorem dX4_init_108 : decode cX4_init 108 = .ok (.bipush 60, 2) := by decide +kernel
theorem dX4_init_110 : decode cX4_init 110 = .ok (.newarray .int, 2) := by decide +kernel
theorem dX4_init_112 : decode cX4_init 112 = .ok (.putfield 51, 3) := by decide +kernel
theorem dX4_init_115 : decode cX4_init 115 = .ok (.aload_n 0, 1) := by decide +kernel
theorem dX4_init_116 : decode cX4_init 116 = .ok (.bipush 60, 2) := by decide +kernel
theorem dX4_init_118 : decode cX4_init 118 = .ok (.newarray .int, 2) := by decide +kernel
theorem dX4_init_120 : decode cX4_init 120 = .ok (.putfield 54, 3) := by decide +kernel
theorem dX4_init_123 : decode cX4_init 123 = .ok (.aload_n 0, 1) := by decide +kernel
theorem dX4_init_124 : decode cX4_init 124 = .ok (.bipush 60, 2) := by decide +kernel
theorem dX4_init_126 : decode cX4_init 126 = .ok (.newarray .int, 2) := by decide +kernel
theorem dX4_init_128 : decode cX4_init 128 = .ok (.putfield 57, 3) := by decide +kernel
theorem dX4_init_131 : decode cX4_init 131 = .ok (.aload_n 0, 1) := by decide +kernel
theorem dX4_init_132 : decode cX4_init 132 = .ok (.bipush 12, 2) := by decide +kernel
theorem dX4_init_134 : decode cX4_init 134 = .ok (.newarray .boolean, 2) := by decide +kernel
theorem dX4_init_136 : decode cX4_init 136 = .ok (.putfield 60, 3) := by decide +kernel
theorem dX4_init_139 : decode cX4_init 139 = .ok (.aload_n 0, 1) := by decide +kernel
theorem dX4_init_140 : decode cX4_init 140 = .ok (.bipush 12, 2) := by decide +kernel
theorem dX4_init_142 : decode cX4_init 142 = .ok (.newarray .int, 2) := by decide +kernel
theorem dX4_init_144 : decode cX4_init 144 = .ok (.putfield 63, 3) := by decide +kernel
theorem dX4_init_147 : decode cX4_init 147 = .ok (.aload_n 0, 1) := by decide +kernel
theorem dX4_init_148 : decode cX4_init 148 = .ok (.bipush 60, 2) := by decide +kernel
theorem dX4_init_150 : decode cX4_init 150 = .ok (.newarray .int, 2) := by decide +kernel
theorem dX4_init_152 : decode cX4_init 152 = .ok (.putfield 66, 3) := by decide +kernel
theorem dX4_init_155 : decode cX4_init 155 = .ok (.aload_n 0, 1) := by decide +kernel
theorem dX4_init_156 : decode cX4_init 156 = .ok (.bipush 60, 2) := by decide +kernel
theorem dX4_init_158 : decode cX4_init 158 = .ok (.newarray .int, 2) := by decide +kernel
theorem dX4_init_160 : decode cX4_init 160 = .ok (.putfield 69, 3) := by decide +kernel
theorem dX4_init_163 : decode cX4_init 163 = .ok (.aload_n 0, 1) := by decide +kernel
theorem dX4_init_164 : decode cX4_init 164 = .ok (.getfield 7, 3) := by decide +kernel
theorem dX4_init_167 : decode cX4_init 167 = .ok (.iconst 0, 1) := by decide +kernel
theorem dX4_init_168 : decode cX4_init 168 = .ok (.iconst 3, 1) := by decide +kernel
theorem dX4_init_169 : decode cX4_init 169 = .ok (.iastore, 1) := by decide +kernel
theorem dX4_init_170 : decode cX4_init 170 = .ok (.aload_n 0, 1) := by decide +kernel
theorem dX4_init_171 : decode cX4_init 171 = .ok (.getfield 7, 3) := by decide +kernel
theorem dX4_init_174 : decode cX4_init 174 = .ok (.iconst 1, 1) := by decide +kernel
theorem dX4_init_175 : decode cX4_init 175 = .ok (.bipush 10, 2) := by decide +kernel
theorem dX4_init_177 : decode cX4_init 177 = .ok (.iastore, 1) := by decide +kernel
theorem dX4_init_178 : decode cX4_init 178 = .ok (.aload_n 0, 1) := by decide +kernel
theorem dX4_init_179 : decode cX4_init 179 = .ok (.getfield 7, 3) := by decide +kernel
theorem dX4_init_182 : decode cX4_init 182 = .ok (.iconst 2, 1) := by decide +kernel
theorem dX4_init_183 : decode cX4_init 183 = .ok (.iconst 2, 1) := by decide +kernel
theorem dX4_init_184 : decode cX4_init 184 = .ok (.iastore, 1) := by decide +kernel
theorem dX4_init_185 : decode cX4_init 185 = .ok (.aload_n 0, 1) := by decide +kernel
theorem dX4_init_186 : decode cX4_init 186 = .ok (.getfield 7, 3) := by decide +kernel
theorem dX4_init_189 : decode cX4_init 189 = .ok (.iconst 3, 1) := by decide +kernel
theorem dX4_init_190 : decode cX4_init 190 = .ok (.iconst 3, 1) := by decide +kernel
theorem dX4_init_191 : decode cX4_init 191 = .ok (.iastore, 1) := by decide +kernel
theorem dX4_init_192 : decode cX4_init 192 = .ok (.return_, 1) := by decide +kernel
theorem dX4_in_0 : decode cX4_in 0 = .ok (.lload_n 0, 1) := by decide +kernel
theorem dX4_in_1 : decode cX4_in 1 = .ok (.lload_n 2, 1) := by decide +kernel
theorem dX4_in_2 : decode cX4_in 2 = .ok (.lcmp, 1) := by decide +kernel
theorem dX4_in_3 : decode cX4_in 3 = .ok (.ifCond .lt 14, 3) := by decide +kernel
theorem dX4_in_6 : decode cX4_in 6 = .ok (.lload_n 0, 1) := by decide +kernel
theorem dX4_in_7 : decode cX4_in 7 = .ok (.lload 4, 2) := by decide +kernel
theorem dX4_in_9 : decode cX4_in 9 = .ok (.lcmp, 1) := by decide +kernel
theorem dX4_in_10 : decode cX4_in 10 = .ok (.ifCond .gt 7, 3) := by decide +kernel
theorem dX4_in_13 : decode cX4_in 13 = .ok (.iconst 1, 1) := by decide +kernel
theorem dX4_in_14 : decode cX4_in 14 = .ok (.goto 4, 3) := by decide +kernel
theorem dX4_in_17 : decode cX4_in 17 = .ok (.iconst 0, 1) := by decide +kernel
theorem dX4_in_18 : decode cX4_in 18 = .ok (.ireturn, 1) := by decide +kernel
theorem dX4_isNode_0 : decode cX4_isNode 0 = .ok (.iload_n 0, 1) := by decide +kernel
theorem dX4_isNode_1 : decode cX4_isNode 1 = .ok (.i2l, 1) := by decide +kernel
theorem dX4_isNode_2 : decode cX4_isNode 2 = .ok (.lconst 0, 1) := by decide +kernel
theorem dX4_isNode_3 : decode cX4_isNode 3 = .ok (.ldc2_w 72, 3) := by decide +kernel
theorem dX4_isNode_6 : decode cX4_isNode 6 = .ok (.invokestatic 74, 3) := by decide +kernel
theorem dX4_isNode_9 : decode cX4_isNode 9 = .ok (.ireturn, 1) := by decide +kernel
theorem dX4_mix_0 : decode cX4_mix 0 = .ok (.lload_n 0, 1) := by decide +kernel
theorem dX4_mix_1 : decode cX4_mix 1 = .ok (.lstore_n 2, 1) := by decide +kernel
theorem dX4_mix_2 : decode cX4_mix 2 = .ok (.lload_n 2, 1) := by decide +kernel
theorem dX4_mix_3 : decode cX4_mix 3 = .ok (.lload_n 2, 1) := by decide +kernel
theorem dX4_mix_4 : decode cX4_mix 4 = .ok (.bipush 30, 2) := by decide +kernel
theorem dX4_mix_6 : decode cX4_mix 6 = .ok (.lushr, 1) := by decide +kernel
theorem dX4_mix_7 : decode cX4_mix 7 = .ok (.lxor, 1) := by decide +kernel
theorem dX4_mix_8 : decode cX4_mix 8 = .ok (.ldc2_w 78, 3) := by decide +kernel
theorem dX4_mix_11 : decode cX4_mix 11 = .ok (.lmul, 1) := by decide +kernel
theorem dX4_mix_12 : decode cX4_mix 12 = .ok (.lstore_n 2, 1) := by decide +kernel
theorem dX4_mix_13 : decode cX4_mix 13 = .ok (.lload_n 2, 1) := by decide +kernel
theorem dX4_mix_14 : decode cX4_mix 14 = .ok (.lload_n 2, 1) := by decide +kernel
theorem dX4_mix_15 : decode cX4_mix 15 = .ok (.bipush 27, 2) := by decide +kernel
theorem dX4_mix_17 : decode cX4_mix 17 = .ok (.lushr, 1) := by decide +kernel
theorem dX4_mix_18 : decode cX4_mix 18 = .ok (.lxor, 1) := by decide +kernel
theorem dX4_mix_19 : decode cX4_mix 19 = .ok (.ldc2_w 80, 3) := by decide +kernel
theorem dX4_mix_22 : decode cX4_mix 22 = .ok (.lmul, 1) := by decide +kernel
theorem dX4_mix_23 : decode cX4_mix 23 = .ok (.lstore_n 2, 1) := by decide +kernel
theorem dX4_mix_24 : decode cX4_mix 24 = .ok (.lload_n 2, 1) := by decide +kernel
theorem dX4_mix_25 : decode cX4_mix 25 = .ok (.lload_n 2, 1) := by decide +kernel
theorem dX4_mix_26 : decode cX4_mix 26 = .ok (.bipush 31, 2) := by decide +kernel
theorem dX4_mix_28 : decode cX4_mix 28 = .ok (.lushr, 1) := by decide +kernel
theorem dX4_mix_29 : decode cX4_mix 29 = .ok (.lxor, 1) := by decide +kernel
theorem dX4_mix_30 : decode cX4_mix 30 = .ok (.lreturn, 1) := by decide +kernel
theorem dX4_digestOf_0 : decode cX4_digestOf 0 = .ok (.lload_n 1, 1) := by decide +kernel
theorem dX4_digestOf_1 : decode cX4_digestOf 1 = .ok (.invokestatic 82, 3) := by decide +kernel
theorem dX4_digestOf_4 : decode cX4_digestOf 4 = .ok (.iload_n 0, 1) := by decide +kernel
theorem dX4_digestOf_5 : decode cX4_digestOf 5 = .ok (.iconst 1, 1) := by decide +kernel
theorem dX4_digestOf_6 : decode cX4_digestOf 6 = .ok (.iadd, 1) := by decide +kernel
theorem dX4_digestOf_7 : decode cX4_digestOf 7 = .ok (.i2l, 1) := by decide +kernel
theorem dX4_digestOf_8 : decode cX4_digestOf 8 = .ok (.ldc2_w 86, 3) := by decide +kernel
theorem dX4_digestOf_11 : decode cX4_digestOf 11 = .ok (.lmul, 1) := by decide +kernel
theorem dX4_digestOf_12 : decode cX4_digestOf 12 = .ok (.ladd, 1) := by decide +kernel
theorem dX4_digestOf_13 : decode cX4_digestOf 13 = .ok (.invokestatic 82, 3) := by decide +kernel
theorem dX4_digestOf_16 : decode cX4_digestOf 16 = .ok (.lreturn, 1) := by decide +kernel
theorem dX4_weight_0 : decode cX4_weight 0 = .ok (.iload_n 1, 1) := by decide +kernel
theorem dX4_weight_1 : decode cX4_weight 1 = .ok (.invokestatic 88, 3) := by decide +kernel
theorem dX4_weight_4 : decode cX4_weight 4 = .ok (.ifCond .eq 15, 3) := by decide +kernel
theorem dX4_weight_7 : decode cX4_weight 7 = .ok (.iload_n 2, 1) := by decide +kernel
theorem dX4_weight_8 : decode cX4_weight 8 = .ok (.i2l, 1) := by decide +kernel
theorem dX4_weight_9 : decode cX4_weight 9 = .ok (.lconst 0, 1) := by decide +kernel
theorem dX4_weight_10 : decode cX4_weight 10 = .ok (.ldc2_w 92, 3) := by decide +kernel
theorem dX4_weight_13 : decode cX4_weight 13 = .ok (.invokestatic 74, 3) := by decide +kernel
theorem dX4_weight_16 : decode cX4_weight 16 = .ok (.ifCond .ne 5, 3) := by decide +kernel
theorem dX4_weight_19 : decode cX4_weight 19 = .ok (.iconst (-1), 1) := by decide +kernel
theorem dX4_weight_20 : decode cX4_weight 20 = .ok (.ireturn, 1) := by decide +kernel
theorem dX4_weight_21 : decode cX4_weight 21 = .ok (.aload_n 0, 1) := by decide +kernel
theorem dX4_weight_22 : decode cX4_weight 22 = .ok (.getfield 94, 3) := by decide +kernel
theorem dX4_weight_25 : decode cX4_weight 25 = .ok (.ifCond .eq 6, 3) := by decide +kernel
theorem dX4_weight_28 : decode cX4_weight 28 = .ok (.bipush (-3), 2) := by decide +kernel
theorem dX4_weight_30 : decode cX4_weight 30 = .ok (.ireturn, 1) := by decide +kernel
theorem dX4_weight_31 : decode cX4_weight 31 = .ok (.aload_n 0, 1) := by decide +kernel
theorem dX4_weight_32 : decode cX4_weight 32 = .ok (.getfield 13, 3) := by decide +kernel
theorem dX4_weight_35 : decode cX4_weight 35 = .ok (.iload_n 1, 1) := by decide +kernel
theorem dX4_weight_36 : decode cX4_weight 36 = .ok (.iaload, 1) := by decide +kernel
theorem dX4_weight_37 : decode cX4_weight 37 = .ok (.istore_n 3, 1) := by decide +kernel
theorem dX4_weight_38 : decode cX4_weight 38 = .ok (.aload_n 0, 1) := by decide +kernel
theorem dX4_weight_39 : decode cX4_weight 39 = .ok (.getfield 13, 3) := by decide +kernel
theorem dX4_weight_42 : decode cX4_weight 42 = .ok (.iload_n 1, 1) := by decide +kernel
theorem dX4_weight_43 : decode cX4_weight 43 = .ok (.iload_n 2, 1) := by decide +kernel
theorem dX4_weight_44 : decode cX4_weight 44 = .ok (.iastore, 1) := by decide +kernel
theorem dX4_weight_45 : decode cX4_weight 45 = .ok (.iload_n 3, 1) := by decide +kernel
theorem dX4_weight_46 : decode cX4_weight 46 = .ok (.ireturn, 1) := by decide +kernel
theorem dX4_deposit_0 : decode cX4_deposit 0 = .ok (.iload_n 1, 1) := by decide +kernel
theorem dX4_deposit_1 : decode cX4_deposit 1 = .ok (.invokestatic 88, 3) := by decide +kernel
theorem dX4_deposit_4 : decode cX4_deposit 4 = .ok (.ifCond .eq 34, 3) := by decide +kernel
theorem dX4_deposit_7 : decode cX4_deposit 7 = .ok (.lload_n 2, 1) := by decide +kernel
theorem dX4_deposit_8 : decode cX4_deposit 8 = .ok (.ldc2_w 98, 3) := by decide +kernel
theorem dX4_deposit_11 : decode cX4_deposit 11 = .ok (.ldc2_w 100, 3) := by decide +kernel
theorem dX4_deposit_14 : decode cX4_deposit 14 = .ok (.invokestatic 74, 3) := by decide +kernel
theorem dX4_deposit_17 : decode cX4_deposit 17 = .ok (.ifCond .eq 21, 3) := by decide +kernel
theorem dX4_deposit_20 : decode cX4_deposit 20 = .ok (.aload_n 0, 1) := by decide +kernel
theorem dX4_deposit_21 : decode cX4_deposit 21 = .ok (.getfield 16, 3) := by decide +kernel
theorem dX4_deposit_24 : decode cX4_deposit 24 = .ok (.iload_n 1, 1) := by decide +kernel
theorem dX4_deposit_25 : decode cX4_deposit 25 = .ok (.laload, 1) := by decide +kernel
theorem dX4_deposit_26 : decode cX4_deposit 26 = .ok (.lload_n 2, 1) := by decide +kernel
theorem dX4_deposit_27 : decode cX4_deposit 27 = .ok (.ladd, 1) := by decide +kernel
theorem dX4_deposit_28 : decode cX4_deposit 28 = .ok (.lconst 0, 1) := by decide +kernel
theorem dX4_deposit_29 : decode cX4_deposit 29 = .ok (.ldc2_w 100, 3) := by decide +kernel
theorem dX4_deposit_32 : decode cX4_deposit 32 = .ok (.invokestatic 74, 3) := by decide +kernel
theorem dX4_deposit_35 : decode cX4_deposit 35 = .ok (.ifCond .ne 7, 3) := by decide +kernel
theorem dX4_deposit_38 : decode cX4_deposit 38 = .ok (.ldc2_w 102, 3) := by decide +kernel
theorem dX4_deposit_41 : decode cX4_deposit 41 = .ok (.lreturn, 1) := by decide +kernel
theorem dX4_deposit_42 : decode cX4_deposit 42 = .ok (.aload_n 0, 1) := by decide +kernel
theorem dX4_deposit_43 : decode cX4_deposit 43 = .ok (.getfield 94, 3) := by decide +kernel
theorem dX4_deposit_46 : decode cX4_deposit 46 = .ok (.ifCond .eq 7, 3) := by decide +kernel
theorem dX4_deposit_49 : decode cX4_deposit 49 = .ok (.ldc2_w 104, 3) := by decide +kernel
theorem dX4_deposit_52 : decode cX4_deposit 52 = .ok (.lreturn, 1) := by decide +kernel
theorem dX4_deposit_53 : decode cX4_deposit 53 = .ok (.aload_n 0, 1) := by decide +kernel
theorem dX4_deposit_54 : decode cX4_deposit 54 = .ok (.getfield 16, 3) := by decide +kernel
theorem dX4_deposit_57 : decode cX4_deposit 57 = .ok (.iload_n 1, 1) := by decide +kernel
theorem dX4_deposit_58 : decode cX4_deposit 58 = .ok (.dup2, 1) := by decide +kernel
theorem dX4_deposit_59 : decode cX4_deposit 59 = .ok (.laload, 1) := by decide +kernel
theorem dX4_deposit_60 : decode cX4_deposit 60 = .ok (.lload_n 2, 1) := by decide +kernel
theorem dX4_deposit_61 : decode cX4_deposit 61 = .ok (.ladd, 1) := by decide +kernel
theorem dX4_deposit_62 : decode cX4_deposit 62 = .ok (.lastore, 1) := by decide +kernel
theorem dX4_deposit_63 : decode cX4_deposit 63 = .ok (.aload_n 0, 1) := by decide +kernel
theorem dX4_deposit_64 : decode cX4_deposit 64 = .ok (.getfield 16, 3) := by decide +kernel
theorem dX4_deposit_67 : decode cX4_deposit 67 = .ok (.iload_n 1, 1) := by decide +kernel
theorem dX4_deposit_68 : decode cX4_deposit 68 = .ok (.laload, 1) := by decide +kernel
theorem dX4_deposit_69 : decode cX4_deposit 69 = .ok (.lreturn, 1) := by decide +kernel
theorem dX4_term_0 : decode cX4_term 0 = .ok (.iload_n 1, 1) := by decide +kernel
theorem dX4_term_1 : decode cX4_term 1 = .ok (.i2l, 1) := by decide +kernel
theorem dX4_term_2 : decode cX4_term 2 = .ok (.lconst 0, 1) := by decide +kernel
theorem dX4_term_3 : decode cX4_term 3 = .ok (.ldc2_w 106, 3) := by decide +kernel
theorem dX4_term_6 : decode cX4_term 6 = .ok (.invokestatic 74, 3) := by decide +kernel
theorem dX4_term_9 : decode cX4_term 9 = .ok (.ifCond .eq 35, 3) := by decide +kernel
theorem dX4_term_12 : decode cX4_term 12 = .ok (.iload_n 2, 1) := by decide +kernel
theorem dX4_term_13 : decode cX4_term 13 = .ok (.i2l, 1) := by decide +kernel
theorem dX4_term_14 : decode cX4_term 14 = .ok (.iload_n 1, 1) := by decide +kernel
theorem dX4_term_15 : decode cX4_term 15 = .ok (.iconst 2, 1) := by decide +kernel
theorem dX4_term_16 : decode cX4_term 16 = .ok (.if_icmp .ge 7, 3) := by decide +kernel
theorem dX4_term_19 : decode cX4_term 19 = .ok (.lconst 0, 1) := by decide +kernel
theorem dX4_term_20 : decode cX4_term 20 = .ok (.goto 4, 3) := by decide +kernel
theorem dX4_term_23 : decode cX4_term 23 = .ok (.lconst 1, 1) := by decide +kernel
theorem dX4_term_24 : decode cX4_term 24 = .ok (.iload_n 1, 1) := by decide +kernel
theorem dX4_term_25 : decode cX4_term 25 = .ok (.iconst 2, 1) := by decide +kernel
theorem dX4_term_26 : decode cX4_term 26 = .ok (.if_icmp .ge 9, 3) := by decide +kernel
theorem dX4_term_29 : decode cX4_term 29 = .ok (.ldc2_w 108, 3) := by decide +kernel
theorem dX4_term_32 : decode cX4_term 32 = .ok (.goto 6, 3) := by decide +kernel
theorem dX4_term_35 : decode cX4_term 35 = .ok (.ldc2_w 110, 3) := by decide +kernel
theorem dX4_term_38 : decode cX4_term 38 = .ok (.invokestatic 74, 3) := by decide +kernel
theorem dX4_term_41 : decode cX4_term 41 = .ok (.ifCond .ne 5, 3) := by decide +kernel
theorem dX4_term_44 : decode cX4_term 44 = .ok (.iconst (-1), 1) := by decide +kernel
theorem dX4_term_45 : decode cX4_term 45 = .ok (.ireturn, 1) := by decide +kernel
theorem dX4_term_46 : decode cX4_term 46 = .ok (.aload_n 0, 1) := by decide +kernel
theorem dX4_term_47 : decode cX4_term 47 = .ok (.getfield 94, 3) := by decide +kernel
theorem dX4_term_50 : decode cX4_term 50 = .ok (.ifCond .eq 6, 3) := by decide +kernel
theorem dX4_term_53 : decode cX4_term 53 = .ok (.bipush (-3), 2) := by decide +kernel
theorem dX4_term_55 : decode cX4_term 55 = .ok (.ireturn, 1) := by decide +kernel
theorem dX4_term_56 : decode cX4_term 56 = .ok (.aload_n 0, 1) := by decide +kernel
theorem dX4_term_57 : decode cX4_term 57 = .ok (.getfield 7, 3) := by decide +kernel
theorem dX4_term_60 : decode cX4_term 60 = .ok (.iload_n 1, 1) := by decide +kernel
theorem dX4_term_61 : decode cX4_term 61 = .ok (.iaload, 1) := by decide +kernel
theorem dX4_term_62 : decode cX4_term 62 = .ok (.istore_n 3, 1) := by decide +kernel
theorem dX4_term_63 : decode cX4_term 63 = .ok (.aload_n 0, 1) := by decide +kernel
theorem dX4_term_64 : decode cX4_term 64 = .ok (.getfield 7, 3) := by decide +kernel
theorem dX4_term_67 : decode cX4_term 67 = .ok (.iload_n 1, 1) := by decide +kernel
theorem dX4_term_68 : decode cX4_term 68 = .ok (.iload_n 2, 1) := by decide +kernel
theorem dX4_term_69 : decode cX4_term 69 = .ok (.iastore, 1) := by decide +kernel
theorem dX4_term_70 : decode cX4_term 70 = .ok (.iload_n 3, 1) := by decide +kernel
theorem dX4_term_71 : decode cX4_term 71 = .ok (.ireturn, 1) := by decide +kernel
theorem dX4_begin_0 : decode cX4_begin 0 = .ok (.aload_n 0, 1) := by decide +kernel
theorem dX4_begin_1 : decode cX4_begin 1 = .ok (.getfield 94, 3) := by decide +kernel
theorem dX4_begin_4 : decode cX4_begin 4 = .ok (.ifCond .eq 6, 3) := by decide +kernel
theorem dX4_begin_7 : decode cX4_begin 7 = .ok (.bipush (-3), 2) := by decide +kernel
theorem dX4_begin_9 : decode cX4_begin 9 = .ok (.ireturn, 1) := by decide +kernel
theorem dX4_begin_10 : decode cX4_begin 10 = .ok (.aload_n 0, 1) := by decide +kernel
theorem dX4_begin_11 : decode cX4_begin 11 = .ok (.dup, 1) := by decide +kernel
theorem dX4_begin_12 : decode cX4_begin 12 = .ok (.getfield 112, 3) := by decide +kernel
theorem dX4_begin_15 : decode cX4_begin 15 = .ok (.iconst 1, 1) := by decide +kernel
theorem dX4_begin_16 : decode cX4_begin 16 = .ok (.iadd, 1) := by decide +kernel
theorem dX4_begin_17 : decode cX4_begin 17 = .ok (.putfield 112, 3) := by decide +kernel
theorem dX4_begin_20 : decode cX4_begin 20 = .ok (.aload_n 0, 1) := by decide +kernel
theorem dX4_begin_21 : decode cX4_begin 21 = .ok (.iconst 1, 1) := by decide +kernel
theorem dX4_begin_22 : decode cX4_begin 22 = .ok (.putfield 94, 3) := by decide +kernel
theorem dX4_begin_25 : decode cX4_begin 25 = .ok (.iconst 0, 1) := by decide +kernel
theorem dX4_begin_26 : decode cX4_begin 26 = .ok (.istore_n 1, 1) := by decide +kernel
theorem dX4_begin_27 : decode cX4_begin 27 = .ok (.iconst 0, 1) := by decide +kernel
theorem dX4_begin_28 : decode cX4_begin 28 = .ok (.istore_n 2, 1) := by decide +kernel
theorem dX4_begin_29 : decode cX4_begin 29 = .ok (.iload_n 2, 1) := by decide +kernel
theorem dX4_begin_30 : decode cX4_begin 30 = .ok (.bipush 12, 2) := by decide +kernel
theorem dX4_begin_32 : decode cX4_begin 32 = .ok (.if_icmp .ge 109, 3) := by decide +kernel
theorem dX4_begin_35 : decode cX4_begin 35 = .ok (.aload_n 0, 1) := by decide +kernel
theorem dX4_begin_36 : decode cX4_begin 36 = .ok (.getfield 32, 3) := by decide +kernel
theorem dX4_begin_39 : decode cX4_begin 39 = .ok (.iload_n 2, 1) := by decide +kernel
theorem dX4_begin_40 : decode cX4_begin 40 = .ok (.aload_n 0, 1) := by decide +kernel
theorem dX4_begin_41 : decode cX4_begin 41 = .ok (.getfield 32, 3) := by decide +kernel
theorem dX4_begin_44 : decode cX4_begin 44 = .ok (.iload_n 2, 1) := by decide +kernel
theorem dX4_begin_45 : decode cX4_begin 45 = .ok (.iaload, 1) := by decide +kernel
theorem dX4_begin_46 : decode cX4_begin 46 = .ok (.aload_n 0, 1) := by decide +kernel
theorem dX4_begin_47 : decode cX4_begin 47 = .ok (.getfield 112, 3) := by decide +kernel
theorem dX4_begin_50 : decode cX4_begin 50 = .ok (.if_icmp .ge 7, 3) := by decide +kernel
theorem dX4_begin_53 : decode cX4_begin 53 = .ok (.iconst 0, 1) := by decide +kernel
theorem dX4_begin_54 : decode cX4_begin 54 = .ok (.goto 9, 3) := by decide +kernel
theorem dX4_begin_57 : decode cX4_begin 57 = .ok (.aload_n 0, 1) := by decide +kernel
theorem dX4_begin_58 : decode cX4_begin 58 = .ok (.getfield 32, 3) := by decide +kernel
theorem dX4_begin_61 : decode cX4_begin 61 = .ok (.iload_n 2, 1) := by decide +kernel
theorem dX4_begin_62 : decode cX4_begin 62 = .ok (.iaload, 1) := by decide +kernel
theorem dX4_begin_63 : decode cX4_begin 63 = .ok (.iastore, 1) := by decide +kernel
theorem dX4_begin_64 : decode cX4_begin 64 = .ok (.aload_n 0, 1) := by decide +kernel
theorem dX4_begin_65 : decode cX4_begin 65 = .ok (.getfield 35, 3) := by decide +kernel
theorem dX4_begin_68 : decode cX4_begin 68 = .ok (.iload_n 2, 1) := by decide +kernel
theorem dX4_begin_69 : decode cX4_begin 69 = .ok (.aload_n 0, 1) := by decide +kernel
theorem dX4_begin_70 : decode cX4_begin 70 = .ok (.getfield 32, 3) := by decide +kernel
theorem dX4_begin_73 : decode cX4_begin 73 = .ok (.iload_n 2, 1) := by decide +kernel
theorem dX4_begin_74 : decode cX4_begin 74 = .ok (.iaload, 1) := by decide +kernel
theorem dX4_begin_75 : decode cX4_begin 75 = .ok (.ifCond .ne 27, 3) := by decide +kernel
theorem dX4_begin_78 : decode cX4_begin 78 = .ok (.aload_n 0, 1) := by decide +kernel
theorem dX4_begin_79 : decode cX4_begin 79 = .ok (.getfield 13, 3) := by decide +kernel
theorem dX4_begin_82 : decode cX4_begin 82 = .ok (.iload_n 2, 1) := by decide +kernel
theorem dX4_begin_83 : decode cX4_begin 83 = .ok (.iaload, 1) := by decide +kernel
theorem dX4_begin_84 : decode cX4_begin 84 = .ok (.ifCond .le 18, 3) := by decide +kernel
theorem dX4_begin_87 : decode cX4_begin 87 = .ok (.aload_n 0, 1) := by decide +kernel
theorem dX4_begin_88 : decode cX4_begin 88 = .ok (.getfield 16, 3) := by decide +kernel
theorem dX4_begin_91 : decode cX4_begin 91 = .ok (.iload_n 2, 1) := by decide +kernel
theorem dX4_begin_92 : decode cX4_begin 92 = .ok (.laload, 1) := by decide +kernel
theorem dX4_begin_93 : decode cX4_begin 93 = .ok (.lconst 0, 1) := by decide +kernel
theorem dX4_begin_94 : decode cX4_begin 94 = .ok (.lcmp, 1) := by decide +kernel
theorem dX4_begin_95 : decode cX4_begin 95 = .ok (.ifCond .le 7, 3) := by decide +kernel
theorem dX4_begin_98 : decode cX4_begin 98 = .ok (.iconst 1, 1) := by decide +kernel
theorem dX4_begin_99 : decode cX4_begin 99 = .ok (.goto 4, 3) := by decide +kernel
theorem dX4_begin_102 : decode cX4_begin 102 = .ok (.iconst 0, 1) := by decide +kernel
theorem dX4_begin_103 : decode cX4_begin 103 = .ok (.bastore, 1) := by decide +kernel
theorem dX4_begin_104 : decode cX4_begin 104 = .ok (.aload_n 0, 1) := by decide +kernel
theorem dX4_begin_105 : decode cX4_begin 105 = .ok (.getfield 39, 3) := by decide +kernel
theorem dX4_begin_108 : decode cX4_begin 108 = .ok (.iload_n 2, 1) := by decide +kernel
theorem dX4_begin_109 : decode cX4_begin 109 = .ok (.iconst 0, 1) := by decide +kernel
theorem dX4_begin_110 : decode cX4_begin 110 = .ok (.bastore, 1) := by decide +kernel
theorem dX4_begin_111 : decode cX4_begin 111 = .ok (.aload_n 0, 1) := by decide +kernel
theorem dX4_begin_112 : decode cX4_begin 112 = .ok (.getfield 42, 3) := by decide +kernel
theorem dX4_begin_115 : decode cX4_begin 115 = .ok (.iload_n 2, 1) := by decide +kernel
theorem dX4_begin_116 : decode cX4_begin 116 = .ok (.iconst 0, 1) := by decide +kernel
theorem dX4_begin_117 : decode cX4_begin 117 = .ok (.bastore, 1) := by decide +kernel
theorem dX4_begin_118 : decode cX4_begin 118 = .ok (.iload_n 1, 1) := by decide +kernel
theorem dX4_begin_119 : decode cX4_begin 119 = .ok (.aload_n 0, 1) := by decide +kernel
theorem dX4_begin_120 : decode cX4_begin 120 = .ok (.getfield 35, 3) := by decide +kernel
theorem dX4_begin_123 : decode cX4_begin 123 = .ok (.iload_n 2, 1) := by decide +kernel
theorem dX4_begin_124 : decode cX4_begin 124 = .ok (.baload, 1) := by decide +kernel
theorem dX4_begin_125 : decode cX4_begin 125 = .ok (.ifCond .eq 7, 3) := by decide +kernel
theorem dX4_begin_128 : decode cX4_begin 128 = .ok (.iconst 1, 1) := by decide +kernel
theorem dX4_begin_129 : decode cX4_begin 129 = .ok (.goto 4, 3) := by decide +kernel
theorem dX4_begin_132 : decode cX4_begin 132 = .ok (.iconst 0, 1) := by decide +kernel
theorem dX4_begin_133 : decode cX4_begin 133 = .ok (.iadd, 1) := by decide +kernel
theorem dX4_begin_134 : decode cX4_begin 134 = .ok (.istore_n 1, 1) := by decide +kernel
theorem dX4_begin_135 : decode cX4_begin 135 = .ok (.iinc 2 1, 3) := by decide +kernel
theorem dX4_begin_138 : decode cX4_begin 138 = .ok (.goto (-109), 3) := by decide +kernel
theorem dX4_begin_141 : decode cX4_begin 141 = .ok (.iload_n 1, 1) := by decide +kernel
theorem dX4_begin_142 : decode cX4_begin 142 = .ok (.ireturn, 1) := by decide +kernel
theorem dX4_count_0 : decode cX4_count 0 = .ok (.iconst 0, 1) := by decide +kernel
theorem dX4_count_1 : decode cX4_count 1 = .ok (.istore_n 2, 1) := by decide +kernel
theorem dX4_count_2 : decode cX4_count 2 = .ok (.iconst 0, 1) := by decide +kernel
theorem dX4_count_3 : decode cX4_count 3 = .ok (.istore_n 3, 1) := by decide +kernel
theorem dX4_count_4 : decode cX4_count 4 = .ok (.iload_n 3, 1) := by decide +kernel
theorem dX4_count_5 : decode cX4_count 5 = .ok (.bipush 12, 2) := by decide +kernel
theorem dX4_count_7 : decode cX4_count 7 = .ok (.if_icmp .ge 42, 3) := by decide +kernel
theorem dX4_count_10 : decode cX4_count 10 = .ok (.iload_n 2, 1) := by decide +kernel
theorem dX4_count_11 : decode cX4_count 11 = .ok (.iload_n 1, 1) := by decide +kernel
theorem dX4_count_12 : decode cX4_count 12 = .ok (.ifCond .eq 15, 3) := by decide +kernel
theorem dX4_count_15 : decode cX4_count 15 = .ok (.aload_n 0, 1) := by decide +kernel
theorem dX4_count_16 : decode cX4_count 16 = .ok (.getfield 42, 3) := by decide +kernel
theorem dX4_count_19 : decode cX4_count 19 = .ok (.iload_n 3, 1) := by decide +kernel
theorem dX4_count_20 : decode cX4_count 20 = .ok (.baload, 1) := by decide +kernel
theorem dX4_count_21 : decode cX4_count 21 = .ok (.ifCond .eq 19, 3) := by decide +kernel
theorem dX4_count_24 : decode cX4_count 24 = .ok (.goto 12, 3) := by decide +kernel
theorem dX4_count_27 : decode cX4_count 27 = .ok (.aload_n 0, 1) := by decide +kernel
theorem dX4_count_28 : decode cX4_count 28 = .ok (.getfield 39, 3) := by decide +kernel
theorem dX4_count_31 : decode cX4_count 31 = .ok (.iload_n 3, 1) := by decide +kernel
theorem dX4_count_32 : decode cX4_count 32 = .ok (.baload, 1) := by decide +kernel
theorem dX4_count_33 : decode cX4_count 33 = .ok (.ifCond .eq 7, 3) := by decide +kernel
theorem dX4_count_36 : decode cX4_count 36 = .ok (.iconst 1, 1) := by decide +kernel
theorem dX4_count_37 : decode cX4_count 37 = .ok (.goto 4, 3) := by decide +kernel
theorem dX4_count_40 : decode cX4_count 40 = .ok (.iconst 0, 1) := by decide +kernel
theorem dX4_count_41 : decode cX4_count 41 = .ok (.iadd, 1) := by decide +kernel
theorem dX4_count_42 : decode cX4_count 42 = .ok (.istore_n 2, 1) := by decide +kernel
theorem dX4_count_43 : decode cX4_count 43 = .ok (.iinc 3 1, 3) := by decide +kernel
theorem dX4_count_46 : decode cX4_count 46 = .ok (.goto (-42), 3) := by decide +kernel
theorem dX4_count_49 : decode cX4_count 49 = .ok (.iload_n 2, 1) := by decide +kernel
theorem dX4_count_50 : decode cX4_count 50 = .ok (.ireturn, 1) := by decide +kernel
theorem dX4_commit_0 : decode cX4_commit 0 = .ok (.iload_n 1, 1) := by decide +kernel
theorem dX4_commit_1 : decode cX4_commit 1 = .ok (.invokestatic 88, 3) := by decide +kernel
theorem dX4_commit_4 : decode cX4_commit 4 = .ok (.ifCond .ne 5, 3) := by decide +kernel
theorem dX4_commit_7 : decode cX4_commit 7 = .ok (.iconst (-1), 1) := by decide +kernel
theorem dX4_commit_8 : decode cX4_commit 8 = .ok (.ireturn, 1) := by decide +kernel
theorem dX4_commit_9 : decode cX4_commit 9 = .ok (.aload_n 0, 1) := by decide +kernel
theorem dX4_commit_10 : decode cX4_commit 10 = .ok (.getfield 94, 3) := by decide +kernel
theorem dX4_commit_13 : decode cX4_commit 13 = .ok (.iconst 1, 1) := by decide +kernel
theorem dX4_commit_14 : decode cX4_commit 14 = .ok (.if_icmp .ne 21, 3) := by decide +kernel
theorem dX4_commit_17 : decode cX4_commit 17 = .ok (.aload_n 0, 1) := by decide +kernel
theorem dX4_commit_18 : decode cX4_commit 18 = .ok (.getfield 35, 3) := by decide +kernel
theorem dX4_commit_21 : decode cX4_commit 21 = .ok (.iload_n 1, 1) := by decide +kernel
theorem dX4_commit_22 : decode cX4_commit 22 = .ok (.baload, 1) := by decide +kernel
theorem dX4_commit_23 : decode cX4_commit 23 = .ok (.ifCond .eq 12, 3) := by decide +kernel
theorem dX4_commit_26 : decode cX4_commit 26 = .ok (.aload_n 0, 1) := by decide +kernel
theorem dX4_commit_27 : decode cX4_commit 27 = .ok (.getfield 39, 3) := by decide +kernel
theorem dX4_commit_30 : decode cX4_commit 30 = .ok (.iload_n 1, 1) := by decide +kernel
theorem dX4_commit_31 : decode cX4_commit 31 = .ok (.baload, 1) := by decide +kernel
theorem dX4_commit_32 : decode cX4_commit 32 = .ok (.ifCond .eq 6, 3) := by decide +kernel
theorem dX4_commit_35 : decode cX4_commit 35 = .ok (.bipush (-3), 2) := by decide +kernel
theorem dX4_commit_37 : decode cX4_commit 37 = .ok (.ireturn, 1) := by decide +kernel
theorem dX4_commit_38 : decode cX4_commit 38 = .ok (.aload_n 0, 1) := by decide +kernel
theorem dX4_commit_39 : decode cX4_commit 39 = .ok (.getfield 39, 3) := by decide +kernel
theorem dX4_commit_42 : decode cX4_commit 42 = .ok (.iload_n 1, 1) := by decide +kernel
theorem dX4_commit_43 : decode cX4_commit 43 = .ok (.iconst 1, 1) := by decide +kernel
theorem dX4_commit_44 : decode cX4_commit 44 = .ok (.bastore, 1) := by decide +kernel
theorem dX4_commit_45 : decode cX4_commit 45 = .ok (.aload_n 0, 1) := by decide +kernel
theorem dX4_commit_46 : decode cX4_commit 46 = .ok (.getfield 45, 3) := by decide +kernel
theorem dX4_commit_49 : decode cX4_commit 49 = .ok (.iload_n 1, 1) := by decide +kernel
theorem dX4_commit_50 : decode cX4_commit 50 = .ok (.lload_n 2, 1) := by decide +kernel
theorem dX4_commit_51 : decode cX4_commit 51 = .ok (.lastore, 1) := by decide +kernel
theorem dX4_commit_52 : decode cX4_commit 52 = .ok (.aload_n 0, 1) := by decide +kernel
theorem dX4_commit_53 : decode cX4_commit 53 = .ok (.iconst 0, 1) := by decide +kernel
theorem dX4_commit_54 : decode cX4_commit 54 = .ok (.invokevirtual 115, 3) := by decide +kernel
theorem dX4_commit_57 : decode cX4_commit 57 = .ok (.ireturn, 1) := by decide +kernel
theorem dX4_opening_0 : decode cX4_opening 0 = .ok (.aload_n 0, 1) := by decide +kernel
theorem dX4_opening_1 : decode cX4_opening 1 = .ok (.getfield 94, 3) := by decide +kernel
theorem dX4_opening_4 : decode cX4_opening 4 = .ok (.iconst 1, 1) := by decide +kernel
theorem dX4_opening_5 : decode cX4_opening 5 = .ok (.if_icmp .eq 6, 3) := by decide +kernel
theorem dX4_opening_8 : decode cX4_opening 8 = .ok (.bipush (-3), 2) := by decide +kernel
theorem dX4_opening_10 : decode cX4_opening 10 = .ok (.ireturn, 1) := by decide +kernel
theorem dX4_opening_11 : decode cX4_opening 11 = .ok (.aload_n 0, 1) := by decide +kernel
theorem dX4_opening_12 : decode cX4_opening 12 = .ok (.iconst 2, 1) := by decide +kernel
theorem dX4_opening_13 : decode cX4_opening 13 = .ok (.putfield 94, 3) := by decide +kernel
theorem dX4_opening_16 : decode cX4_opening 16 = .ok (.aload_n 0, 1) := by decide +kernel
theorem dX4_opening_17 : decode cX4_opening 17 = .ok (.iconst 0, 1) := by decide +kernel
theorem dX4_opening_18 : decode cX4_opening 18 = .ok (.invokevirtual 115, 3) := by decide +kernel
theorem dX4_opening_21 : decode cX4_opening 21 = .ok (.ireturn, 1) := by decide +kernel
theorem dX4_open_0 : decode cX4_open 0 = .ok (.iload_n 1, 1) := by decide +kernel
theorem dX4_open_1 : decode cX4_open 1 = .ok (.invokestatic 88, 3) := by decide +kernel
theorem dX4_open_4 : decode cX4_open 4 = .ok (.ifCond .ne 5, 3) := by decide +kernel
theorem dX4_open_7 : decode cX4_open 7 = .ok (.iconst (-1), 1) := by decide +kernel
theorem dX4_open_8 : decode cX4_open 8 = .ok (.ireturn, 1) := by decide +kernel
theorem dX4_open_9 : decode cX4_open 9 = .ok (.aload_n 0, 1) := by decide +kernel
theorem dX4_open_10 : decode cX4_open 10 = .ok (.getfield 94, 3) := by decide +kernel
theorem dX4_open_13 : decode cX4_open 13 = .ok (.iconst 2, 1) := by decide +kernel
theorem dX4_open_14 : decode cX4_open 14 = .ok (.if_icmp .ne 36, 3) := by decide +kernel
theorem dX4_open_17 : decode cX4_open 17 = .ok (.aload_n 0, 1) := by decide +kernel
theorem dX4_open_18 : decode cX4_open 18 = .ok (.getfield 39, 3) := by decide +kernel
theorem dX4_open_21 : decode cX4_open 21 = .ok (.iload_n 1, 1) := by decide +kernel
theorem dX4_open_22 : decode cX4_open 22 = .ok (.baload, 1) := by decide +kernel
theorem dX4_open_23 : decode cX4_open 23 = .ok (.ifCond .eq 27, 3) := by decide +kernel
theorem dX4_open_26 : decode cX4_open 26 = .ok (.aload_n 0, 1) := by decide +kernel
theorem dX4_open_27 : decode cX4_open 27 = .ok (.getfield 42, 3) := by decide +kernel
theorem dX4_open_30 : decode cX4_open 30 = .ok (.iload_n 1, 1) := by decide +kernel
theorem dX4_open_31 : decode cX4_open 31 = .ok (.baload, 1) := by decide +kernel
theorem dX4_open_32 : decode cX4_open 32 = .ok (.ifCond .ne 18, 3) := by decide +kernel
theorem dX4_open_35 : decode cX4_open 35 = .ok (.iload_n 1, 1) := by decide +kernel
theorem dX4_open_36 : decode cX4_open 36 = .ok (.lload_n 2, 1) := by decide +kernel
theorem dX4_open_37 : decode cX4_open 37 = .ok (.invokestatic 119, 3) := by decide +kernel
theorem dX4_open_40 : decode cX4_open 40 = .ok (.aload_n 0, 1) := by decide +kernel
theorem dX4_open_41 : decode cX4_open 41 = .ok (.getfield 45, 3) := by decide +kernel
theorem dX4_open_44 : decode cX4_open 44 = .ok (.iload_n 1, 1) := by decide +kernel
theorem dX4_open_45 : decode cX4_open 45 = .ok (.laload, 1) := by decide +kernel
theorem dX4_open_46 : decode cX4_open 46 = .ok (.lcmp, 1) := by decide +kernel
theorem dX4_open_47 : decode cX4_open 47 = .ok (.ifCond .eq 6, 3) := by decide +kernel
theorem dX4_open_50 : decode cX4_open 50 = .ok (.bipush (-3), 2) := by decide +kernel
theorem dX4_open_52 : decode cX4_open 52 = .ok (.ireturn, 1) := by decide +kernel
theorem dX4_open_53 : decode cX4_open 53 = .ok (.aload_n 0, 1) := by decide +kernel
theorem dX4_open_54 : decode cX4_open 54 = .ok (.getfield 42, 3) := by decide +kernel
theorem dX4_open_57 : decode cX4_open 57 = .ok (.iload_n 1, 1) := by decide +kernel
theorem dX4_open_58 : decode cX4_open 58 = .ok (.iconst 1, 1) := by decide +kernel
theorem dX4_open_59 : decode cX4_open 59 = .ok (.bastore, 1) := by decide +kernel
theorem dX4_open_60 : decode cX4_open 60 = .ok (.aload_n 0, 1) := by decide +kernel
theorem dX4_open_61 : decode cX4_open 61 = .ok (.getfield 48, 3) := by decide +kernel
theorem dX4_open_64 : decode cX4_open 64 = .ok (.iload_n 1, 1) := by decide +kernel
theorem dX4_open_65 : decode cX4_open 65 = .ok (.lload_n 2, 1) := by decide +kernel
theorem dX4_open_66 : decode cX4_open 66 = .ok (.lastore, 1) := by decide +kernel
theorem dX4_open_67 : decode cX4_open 67 = .ok (.aload_n 0, 1) := by decide +kernel
theorem dX4_open_68 : decode cX4_open 68 = .ok (.iconst 1, 1) := by decide +kernel
theorem dX4_open_69 : decode cX4_open 69 = .ok (.invokevirtual 115, 3) := by decide +kernel
theorem dX4_open_72 : decode cX4_open 72 = .ok (.ireturn, 1) := by decide +kernel
theorem dX4_prepare_0 : decode cX4_prepare 0 = .ok (.iconst 0, 1) := by decide +kernel
theorem dX4_prepare_1 : decode cX4_prepare 1 = .ok (.istore 5, 2) := by decide +kernel
theorem dX4_prepare_3 : decode cX4_prepare 3 = .ok (.aload_n 0, 1) := by decide +kernel
theorem dX4_prepare_4 : decode cX4_prepare 4 = .ok (.iconst 0, 1) := by decide +kernel
theorem dX4_prepare_5 : decode cX4_prepare 5 = .ok (.putfield 123, 3) := by decide +kernel
theorem dX4_prepare_8 : decode cX4_prepare 8 = .ok (.aload_n 0, 1) := by decide +kernel
theorem dX4_prepare_9 : decode cX4_prepare 9 = .ok (.aload_n 0, 1) := by decide +kernel
theorem dX4_prepare_10 : decode cX4_prepare 10 = .ok (.getfield 126, 3) := by decide +kernel
theorem dX4_prepare_13 : decode cX4_prepare 13 = .ok (.aload_n 0, 1) := by decide +kernel
theorem dX4_prepare_14 : decode cX4_prepare 14 = .ok (.getfield 112, 3) := by decide +kernel
theorem dX4_prepare_17 : decode cX4_prepare 17 = .ok (.i2l, 1) := by decide +kernel
theorem dX4_prepare_18 : decode cX4_prepare 18 = .ok (.ldc2_w 86, 3) := by decide +kernel
theorem dX4_prepare_21 : decode cX4_prepare 21 = .ok (.lmul, 1) := by decide +kernel
theorem dX4_prepare_22 : decode cX4_prepare 22 = .ok (.ladd, 1) := by decide +kernel
theorem dX4_prepare_23 : decode cX4_prepare 23 = .ok (.invokestatic 82, 3) := by decide +kernel
theorem dX4_prepare_26 : decode cX4_prepare 26 = .ok (.putfield 130, 3) := by decide +kernel
theorem dX4_prepare_29 : decode cX4_prepare 29 = .ok (.iconst 0, 1) := by decide +kernel
theorem dX4_prepare_30 : decode cX4_prepare 30 = .ok (.istore 6, 2) := by decide +kernel
theorem dX4_prepare_32 : decode cX4_prepare 32 = .ok (.iload 6, 2) := by decide +kernel
theorem dX4_prepare_34 : decode cX4_prepare 34 = .ok (.bipush 12, 2) := by decide +kernel
theorem dX4_prepare_36 : decode cX4_prepare 36 = .ok (.if_icmp .ge 155, 3) := by decide +kernel
theorem dX4_prepare_39 : decode cX4_prepare 39 = .ok (.iload 6, 2) := by decide +kernel
theorem dX4_prepare_41 : decode cX4_prepare 41 = .ok (.iload_n 1, 1) := by decide +kernel
theorem dX4_prepare_42 : decode cX4_prepare 42 = .ok (.if_icmp .ne 8, 3) := by decide +kernel
theorem dX4_prepare_45 : decode cX4_prepare 45 = .ok (.iload 4, 2) := by decide +kernel
theorem dX4_prepare_47 : decode cX4_prepare 47 = .ok (.goto 10, 3) := by decide +kernel
theorem dX4_prepare_50 : decode cX4_prepare 50 = .ok (.aload_n 0, 1) := by decide +kernel
theorem dX4_prepare_51 : decode cX4_prepare 51 = .ok (.getfield 42, 3) := by decide +kernel
theorem dX4_prepare_54 : decode cX4_prepare 54 = .ok (.iload 6, 2) := by decide +kernel
theorem dX4_prepare_56 : decode cX4_prepare 56 = .ok (.baload, 1) := by decide +kernel
theorem dX4_prepare_57 : decode cX4_prepare 57 = .ok (.istore 7, 2) := by decide +kernel
theorem dX4_prepare_59 : decode cX4_prepare 59 = .ok (.aload_n 0, 1) := by decide +kernel
theorem dX4_prepare_60 : decode cX4_prepare 60 = .ok (.getfield 60, 3) := by decide +kernel
