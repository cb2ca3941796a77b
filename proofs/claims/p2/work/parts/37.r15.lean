theorem dX10_laySwap_0 : decode cX10_laySwap 0 = .ok (.aload_n 0, 1) := by decide +kernel
theorem dX10_laySwap_1 : decode cX10_laySwap 1 = .ok (.getfield 173, 3) := by decide +kernel
theorem dX10_laySwap_4 : decode cX10_laySwap 4 = .ok (.ifCond .eq 10, 3) := by decide +kernel
theorem dX10_laySwap_7 : decode cX10_laySwap 7 = .ok (.aload_n 0, 1) := by decide +kernel
theorem dX10_laySwap_8 : decode cX10_laySwap 8 = .ok (.getfield 177, 3) := by decide +kernel
theorem dX10_laySwap_11 : decode cX10_laySwap 11 = .ok (.ifCond .ne 6, 3) := by decide +kernel
theorem dX10_laySwap_14 : decode cX10_laySwap 14 = .ok (.bipush (-2), 2) := by decide +kernel
theorem dX10_laySwap_16 : decode cX10_laySwap 16 = .ok (.ireturn, 1) := by decide +kernel
theorem dX10_laySwap_17 : decode cX10_laySwap 17 = .ok (.aload_n 0, 1) := by decide +kernel
theorem dX10_laySwap_18 : decode cX10_laySwap 18 = .ok (.iconst 2, 1) := by decide +kernel
theorem dX10_laySwap_19 : decode cX10_laySwap 19 = .ok (.invokevirtual 190, 3) := by decide +kernel
theorem dX10_laySwap_22 : decode cX10_laySwap 22 = .ok (.iconst 0, 1) := by decide +kernel
theorem dX10_laySwap_23 : decode cX10_laySwap 23 = .ok (.ireturn, 1) := by decide +kernel
theorem dX10_startB_0 : decode cX10_startB 0 = .ok (.iload_n 1, 1) := by decide +kernel
theorem dX10_startB_1 : decode cX10_startB 1 = .ok (.i2l, 1) := by decide +kernel
theorem dX10_startB_2 : decode cX10_startB 2 = .ok (.lconst 0, 1) := by decide +kernel
theorem dX10_startB_3 : decode cX10_startB 3 = .ok (.ldc2_w 234, 3) := by decide +kernel
theorem dX10_startB_6 : decode cX10_startB 6 = .ok (.invokestatic 85, 3) := by decide +kernel
theorem dX10_startB_9 : decode cX10_startB 9 = .ok (.ifCond .eq 15, 3) := by decide +kernel
theorem dX10_startB_12 : decode cX10_startB 12 = .ok (.iload_n 2, 1) := by decide +kernel
theorem dX10_startB_13 : decode cX10_startB 13 = .ok (.i2l, 1) := by decide +kernel
theorem dX10_startB_14 : decode cX10_startB 14 = .ok (.lconst 0, 1) := by decide +kernel
theorem dX10_startB_15 : decode cX10_startB 15 = .ok (.ldc2_w 99, 3) := by decide +kernel
theorem dX10_startB_18 : decode cX10_startB 18 = .ok (.invokestatic 85, 3) := by decide +kernel
theorem dX10_startB_21 : decode cX10_startB 21 = .ok (.ifCond .ne 5, 3) := by decide +kernel
theorem dX10_startB_24 : decode cX10_startB 24 = .ok (.iconst (-1), 1) := by decide +kernel
theorem dX10_startB_25 : decode cX10_startB 25 = .ok (.ireturn, 1) := by decide +kernel
theorem dX10_startB_26 : decode cX10_startB 26 = .ok (.aload_n 0, 1) := by decide +kernel
theorem dX10_startB_27 : decode cX10_startB 27 = .ok (.getfield 173, 3) := by decide +kernel
theorem dX10_startB_30 : decode cX10_startB 30 = .ok (.ifCond .eq 11, 3) := by decide +kernel
theorem dX10_startB_33 : decode cX10_startB 33 = .ok (.aload_n 0, 1) := by decide +kernel
theorem dX10_startB_34 : decode cX10_startB 34 = .ok (.iload_n 1, 1) := by decide +kernel
theorem dX10_startB_35 : decode cX10_startB 35 = .ok (.invokevirtual 208, 3) := by decide +kernel
theorem dX10_startB_38 : decode cX10_startB 38 = .ok (.ifCond .ne 6, 3) := by decide +kernel
theorem dX10_startB_41 : decode cX10_startB 41 = .ok (.bipush (-2), 2) := by decide +kernel
theorem dX10_startB_43 : decode cX10_startB 43 = .ok (.ireturn, 1) := by decide +kernel
theorem dX10_startB_44 : decode cX10_startB 44 = .ok (.aload_n 0, 1) := by decide +kernel
theorem dX10_startB_45 : decode cX10_startB 45 = .ok (.getfield 71, 3) := by decide +kernel
theorem dX10_startB_48 : decode cX10_startB 48 = .ok (.iload_n 1, 1) := by decide +kernel
theorem dX10_startB_49 : decode cX10_startB 49 = .ok (.iaload, 1) := by decide +kernel
theorem dX10_startB_50 : decode cX10_startB 50 = .ok (.istore_n 3, 1) := by decide +kernel
theorem dX10_startB_51 : decode cX10_startB 51 = .ok (.aload_n 0, 1) := by decide +kernel
theorem dX10_startB_52 : decode cX10_startB 52 = .ok (.getfield 71, 3) := by decide +kernel
theorem dX10_startB_55 : decode cX10_startB 55 = .ok (.iload_n 1, 1) := by decide +kernel
theorem dX10_startB_56 : decode cX10_startB 56 = .ok (.iload_n 2, 1) := by decide +kernel
theorem dX10_startB_57 : decode cX10_startB 57 = .ok (.iastore, 1) := by decide +kernel
theorem dX10_startB_58 : decode cX10_startB 58 = .ok (.iload_n 3, 1) := by decide +kernel
theorem dX10_startB_59 : decode cX10_startB 59 = .ok (.ireturn, 1) := by decide +kernel
theorem dX10_trial_0 : decode cX10_trial 0 = .ok (.aload_n 0, 1) := by decide +kernel
theorem dX10_trial_1 : decode cX10_trial 1 = .ok (.invokevirtual 274, 3) := by decide +kernel
theorem dX10_trial_4 : decode cX10_trial 4 = .ok (.aload_n 0, 1) := by decide +kernel
theorem dX10_trial_5 : decode cX10_trial 5 = .ok (.iload_n 1, 1) := by decide +kernel
theorem dX10_trial_6 : decode cX10_trial 6 = .ok (.iload_n 3, 1) := by decide +kernel
theorem dX10_trial_7 : decode cX10_trial 7 = .ok (.invokevirtual 186, 3) := by decide +kernel
theorem dX10_trial_10 : decode cX10_trial 10 = .ok (.iconst 0, 1) := by decide +kernel
theorem dX10_trial_11 : decode cX10_trial 11 = .ok (.istore 6, 2) := by decide +kernel
theorem dX10_trial_13 : decode cX10_trial 13 = .ok (.iload 6, 2) := by decide +kernel
theorem dX10_trial_15 : decode cX10_trial 15 = .ok (.iload 5, 2) := by decide +kernel
theorem dX10_trial_17 : decode cX10_trial 17 = .ok (.if_icmp .gt 15, 3) := by decide +kernel
theorem dX10_trial_20 : decode cX10_trial 20 = .ok (.aload_n 0, 1) := by decide +kernel
theorem dX10_trial_21 : decode cX10_trial 21 = .ok (.iload_n 1, 1) := by decide +kernel
theorem dX10_trial_22 : decode cX10_trial 22 = .ok (.iload_n 2, 1) := by decide +kernel
theorem dX10_trial_23 : decode cX10_trial 23 = .ok (.invokevirtual 231, 3) := by decide +kernel
theorem dX10_trial_26 : decode cX10_trial 26 = .ok (.iinc 6 1, 3) := by decide +kernel
theorem dX10_trial_29 : decode cX10_trial 29 = .ok (.goto (-16), 3) := by decide +kernel
theorem dX10_trial_32 : decode cX10_trial 32 = .ok (.aload_n 0, 1) := by decide +kernel
theorem dX10_trial_33 : decode cX10_trial 33 = .ok (.iload 4, 2) := by decide +kernel
theorem dX10_trial_35 : decode cX10_trial 35 = .ok (.invokevirtual 251, 3) := by decide +kernel
theorem dX10_trial_38 : decode cX10_trial 38 = .ok (.lstore 6, 2) := by decide +kernel
theorem dX10_trial_40 : decode cX10_trial 40 = .ok (.aload_n 0, 1) := by decide +kernel
theorem dX10_trial_41 : decode cX10_trial 41 = .ok (.invokevirtual 277, 3) := by decide +kernel
theorem dX10_trial_44 : decode cX10_trial 44 = .ok (.lload 6, 2) := by decide +kernel
theorem dX10_trial_46 : decode cX10_trial 46 = .ok (.lreturn, 1) := by decide +kernel
theorem dX10_blame_0 : decode cX10_blame 0 = .ok (.iload_n 1, 1) := by decide +kernel
theorem dX10_blame_1 : decode cX10_blame 1 = .ok (.i2l, 1) := by decide +kernel
theorem dX10_blame_2 : decode cX10_blame 2 = .ok (.lconst 0, 1) := by decide +kernel
theorem dX10_blame_3 : decode cX10_blame 3 = .ok (.ldc2_w 243, 3) := by decide +kernel
theorem dX10_blame_6 : decode cX10_blame 6 = .ok (.invokestatic 85, 3) := by decide +kernel
theorem dX10_blame_9 : decode cX10_blame 9 = .ok (.ifCond .eq 27, 3) := by decide +kernel
theorem dX10_blame_12 : decode cX10_blame 12 = .ok (.iload_n 2, 1) := by decide +kernel
theorem dX10_blame_13 : decode cX10_blame 13 = .ok (.i2l, 1) := by decide +kernel
theorem dX10_blame_14 : decode cX10_blame 14 = .ok (.lconst 0, 1) := by decide +kernel
theorem dX10_blame_15 : decode cX10_blame 15 = .ok (.ldc2_w 198, 3) := by decide +kernel
theorem dX10_blame_18 : decode cX10_blame 18 = .ok (.invokestatic 85, 3) := by decide +kernel
theorem dX10_blame_21 : decode cX10_blame 21 = .ok (.ifCond .eq 15, 3) := by decide +kernel
theorem dX10_blame_24 : decode cX10_blame 24 = .ok (.iload_n 3, 1) := by decide +kernel
theorem dX10_blame_25 : decode cX10_blame 25 = .ok (.i2l, 1) := by decide +kernel
theorem dX10_blame_26 : decode cX10_blame 26 = .ok (.lconst 0, 1) := by decide +kernel
theorem dX10_blame_27 : decode cX10_blame 27 = .ok (.ldc2_w 243, 3) := by decide +kernel
theorem dX10_blame_30 : decode cX10_blame 30 = .ok (.invokestatic 85, 3) := by decide +kernel
theorem dX10_blame_33 : decode cX10_blame 33 = .ok (.ifCond .ne 7, 3) := by decide +kernel
theorem dX10_blame_36 : decode cX10_blame 36 = .ok (.ldc2_w 313, 3) := by decide +kernel
theorem dX10_blame_39 : decode cX10_blame 39 = .ok (.lreturn, 1) := by decide +kernel
theorem dX10_blame_40 : decode cX10_blame 40 = .ok (.aload_n 0, 1) := by decide +kernel
theorem dX10_blame_41 : decode cX10_blame 41 = .ok (.iload_n 1, 1) := by decide +kernel
theorem dX10_blame_42 : decode cX10_blame 42 = .ok (.invokevirtual 248, 3) := by decide +kernel
theorem dX10_blame_45 : decode cX10_blame 45 = .ok (.ifCond .ne 7, 3) := by decide +kernel
theorem dX10_blame_48 : decode cX10_blame 48 = .ok (.ldc2_w 315, 3) := by decide +kernel
theorem dX10_blame_51 : decode cX10_blame 51 = .ok (.lreturn, 1) := by decide +kernel
theorem dX10_blame_52 : decode cX10_blame 52 = .ok (.aload_n 0, 1) := by decide +kernel
theorem dX10_blame_53 : decode cX10_blame 53 = .ok (.iconst 0, 1) := by decide +kernel
theorem dX10_blame_54 : decode cX10_blame 54 = .ok (.iconst 0, 1) := by decide +kernel
theorem dX10_blame_55 : decode cX10_blame 55 = .ok (.iconst 0, 1) := by decide +kernel
theorem dX10_blame_56 : decode cX10_blame 56 = .ok (.iload_n 1, 1) := by decide +kernel
theorem dX10_blame_57 : decode cX10_blame 57 = .ok (.iload_n 2, 1) := by decide +kernel
theorem dX10_blame_58 : decode cX10_blame 58 = .ok (.invokevirtual 317, 3) := by decide +kernel
theorem dX10_blame_61 : decode cX10_blame 61 = .ok (.lstore 4, 2) := by decide +kernel
theorem dX10_blame_63 : decode cX10_blame 63 = .ok (.aload_n 0, 1) := by decide +kernel
theorem dX10_blame_64 : decode cX10_blame 64 = .ok (.iconst 0, 1) := by decide +kernel
theorem dX10_blame_65 : decode cX10_blame 65 = .ok (.iconst 1, 1) := by decide +kernel
theorem dX10_blame_66 : decode cX10_blame 66 = .ok (.iconst 0, 1) := by decide +kernel
theorem dX10_blame_67 : decode cX10_blame 67 = .ok (.iload_n 1, 1) := by decide +kernel
theorem dX10_blame_68 : decode cX10_blame 68 = .ok (.iload_n 2, 1) := by decide +kernel
theorem dX10_blame_69 : decode cX10_blame 69 = .ok (.invokevirtual 317, 3) := by decide +kernel
theorem dX10_blame_72 : decode cX10_blame 72 = .ok (.lstore 6, 2) := by decide +kernel
theorem dX10_blame_74 : decode cX10_blame 74 = .ok (.aload_n 0, 1) := by decide +kernel
theorem dX10_blame_75 : decode cX10_blame 75 = .ok (.iconst 0, 1) := by decide +kernel
theorem dX10_blame_76 : decode cX10_blame 76 = .ok (.iconst 1, 1) := by decide +kernel
theorem dX10_blame_77 : decode cX10_blame 77 = .ok (.iconst 1, 1) := by decide +kernel
theorem dX10_blame_78 : decode cX10_blame 78 = .ok (.iload_n 1, 1) := by decide +kernel
theorem dX10_blame_79 : decode cX10_blame 79 = .ok (.iload_n 2, 1) := by decide +kernel
theorem dX10_blame_80 : decode cX10_blame 80 = .ok (.invokevirtual 317, 3) := by decide +kernel
theorem dX10_blame_83 : decode cX10_blame 83 = .ok (.lstore 8, 2) := by decide +kernel
theorem dX10_blame_85 : decode cX10_blame 85 = .ok (.aload_n 0, 1) := by decide +kernel
theorem dX10_blame_86 : decode cX10_blame 86 = .ok (.getfield 177, 3) := by decide +kernel
theorem dX10_blame_89 : decode cX10_blame 89 = .ok (.ifCond .eq 15, 3) := by decide +kernel
theorem dX10_blame_92 : decode cX10_blame 92 = .ok (.aload_n 0, 1) := by decide +kernel
theorem dX10_blame_93 : decode cX10_blame 93 = .ok (.iconst 2, 1) := by decide +kernel
theorem dX10_blame_94 : decode cX10_blame 94 = .ok (.iconst 1, 1) := by decide +kernel
theorem dX10_blame_95 : decode cX10_blame 95 = .ok (.iconst 1, 1) := by decide +kernel
theorem dX10_blame_96 : decode cX10_blame 96 = .ok (.iload_n 1, 1) := by decide +kernel
theorem dX10_blame_97 : decode cX10_blame 97 = .ok (.iload_n 2, 1) := by decide +kernel
theorem dX10_blame_98 : decode cX10_blame 98 = .ok (.invokevirtual 317, 3) := by decide +kernel
theorem dX10_blame_101 : decode cX10_blame 101 = .ok (.goto 5, 3) := by decide +kernel
theorem dX10_blame_104 : decode cX10_blame 104 = .ok (.lload 8, 2) := by decide +kernel
theorem dX10_blame_106 : decode cX10_blame 106 = .ok (.lstore 10, 2) := by decide +kernel
theorem dX10_blame_108 : decode cX10_blame 108 = .ok (.iload_n 3, 1) := by decide +kernel
theorem dX10_blame_109 : decode cX10_blame 109 = .ok (.ifCond .ne 11, 3) := by decide +kernel
theorem dX10_blame_112 : decode cX10_blame 112 = .ok (.lload 6, 2) := by decide +kernel
theorem dX10_blame_114 : decode cX10_blame 114 = .ok (.lload 4, 2) := by decide +kernel
theorem dX10_blame_116 : decode cX10_blame 116 = .ok (.lsub, 1) := by decide +kernel
theorem dX10_blame_117 : decode cX10_blame 117 = .ok (.goto 34, 3) := by decide +kernel
theorem dX10_blame_120 : decode cX10_blame 120 = .ok (.iload_n 3, 1) := by decide +kernel
theorem dX10_blame_121 : decode cX10_blame 121 = .ok (.iconst 1, 1) := by decide +kernel
theorem dX10_blame_122 : decode cX10_blame 122 = .ok (.if_icmp .ne 11, 3) := by decide +kernel
theorem dX10_blame_125 : decode cX10_blame 125 = .ok (.lload 8, 2) := by decide +kernel
theorem dX10_blame_127 : decode cX10_blame 127 = .ok (.lload 6, 2) := by decide +kernel
theorem dX10_blame_129 : decode cX10_blame 129 = .ok (.lsub, 1) := by decide +kernel
theorem dX10_blame_130 : decode cX10_blame 130 = .ok (.goto 21, 3) := by decide +kernel
theorem dX10_blame_133 : decode cX10_blame 133 = .ok (.iload_n 3, 1) := by decide +kernel
theorem dX10_blame_134 : decode cX10_blame 134 = .ok (.iconst 2, 1) := by decide +kernel
theorem dX10_blame_135 : decode cX10_blame 135 = .ok (.if_icmp .ne 11, 3) := by decide +kernel
theorem dX10_blame_138 : decode cX10_blame 138 = .ok (.lload 10, 2) := by decide +kernel
theorem dX10_blame_140 : decode cX10_blame 140 = .ok (.lload 8, 2) := by decide +kernel
theorem dX10_blame_142 : decode cX10_blame 142 = .ok (.lsub, 1) := by decide +kernel
theorem dX10_blame_143 : decode cX10_blame 143 = .ok (.goto 8, 3) := by decide +kernel
theorem dX10_blame_146 : decode cX10_blame 146 = .ok (.lload 10, 2) := by decide +kernel
theorem dX10_blame_148 : decode cX10_blame 148 = .ok (.lload 4, 2) := by decide +kernel
theorem dX10_blame_150 : decode cX10_blame 150 = .ok (.lsub, 1) := by decide +kernel
theorem dX10_blame_151 : decode cX10_blame 151 = .ok (.lreturn, 1) := by decide +kernel
theorem dX10_keep_0 : decode cX10_keep 0 = .ok (.aload_n 0, 1) := by decide +kernel
theorem dX10_keep_1 : decode cX10_keep 1 = .ok (.getfield 173, 3) := by decide +kernel
theorem dX10_keep_4 : decode cX10_keep 4 = .ok (.ifCond .ne 6, 3) := by decide +kernel
theorem dX10_keep_7 : decode cX10_keep 7 = .ok (.bipush (-2), 2) := by decide +kernel
theorem dX10_keep_9 : decode cX10_keep 9 = .ok (.ireturn, 1) := by decide +kernel
theorem dX10_keep_10 : decode cX10_keep 10 = .ok (.aload_n 0, 1) := by decide +kernel
theorem dX10_keep_11 : decode cX10_keep 11 = .ok (.getfield 180, 3) := by decide +kernel
theorem dX10_keep_14 : decode cX10_keep 14 = .ok (.iconst 3, 1) := by decide +kernel
theorem dX10_keep_15 : decode cX10_keep 15 = .ok (.if_icmp .ne 6, 3) := by decide +kernel
theorem dX10_keep_18 : decode cX10_keep 18 = .ok (.bipush (-3), 2) := by decide +kernel
theorem dX10_keep_20 : decode cX10_keep 20 = .ok (.ireturn, 1) := by decide +kernel
theorem dX10_keep_21 : decode cX10_keep 21 = .ok (.iconst 0, 1) := by decide +kernel
theorem dX10_keep_22 : decode cX10_keep 22 = .ok (.istore_n 1, 1) := by decide +kernel
theorem dX10_keep_23 : decode cX10_keep 23 = .ok (.iload_n 1, 1) := by decide +kernel
theorem dX10_keep_24 : decode cX10_keep 24 = .ok (.sipush 280, 3) := by decide +kernel
theorem dX10_keep_27 : decode cX10_keep 27 = .ok (.if_icmp .ge 30, 3) := by decide +kernel
theorem dX10_keep_30 : decode cX10_keep 30 = .ok (.aload_n 0, 1) := by decide +kernel
theorem dX10_keep_31 : decode cX10_keep 31 = .ok (.getfield 35, 3) := by decide +kernel
theorem dX10_keep_34 : decode cX10_keep 34 = .ok (.sipush 280, 3) := by decide +kernel
theorem dX10_keep_37 : decode cX10_keep 37 = .ok (.aload_n 0, 1) := by decide +kernel
theorem dX10_keep_38 : decode cX10_keep 38 = .ok (.getfield 180, 3) := by decide +kernel
theorem dX10_keep_41 : decode cX10_keep 41 = .ok (.imul, 1) := by decide +kernel
theorem dX10_keep_42 : decode cX10_keep 42 = .ok (.iload_n 1, 1) := by decide +kernel
theorem dX10_keep_43 : decode cX10_keep 43 = .ok (.iadd, 1) := by decide +kernel
theorem dX10_keep_44 : decode cX10_keep 44 = .ok (.aload_n 0, 1) := by decide +kernel
theorem dX10_keep_45 : decode cX10_keep 45 = .ok (.getfield 28, 3) := by decide +kernel
theorem dX10_keep_48 : decode cX10_keep 48 = .ok (.iload_n 1, 1) := by decide +kernel
theorem dX10_keep_49 : decode cX10_keep 49 = .ok (.laload, 1) := by decide +kernel
theorem dX10_keep_50 : decode cX10_keep 50 = .ok (.lastore, 1) := by decide +kernel
theorem dX10_keep_51 : decode cX10_keep 51 = .ok (.iinc 1 1, 3) := by decide +kernel
theorem dX10_keep_54 : decode cX10_keep 54 = .ok (.goto (-31), 3) := by decide +kernel
theorem dX10_keep_57 : decode cX10_keep 57 = .ok (.aload_n 0, 1) := by decide +kernel
theorem dX10_keep_58 : decode cX10_keep 58 = .ok (.dup, 1) := by decide +kernel
theorem dX10_keep_59 : decode cX10_keep 59 = .ok (.getfield 180, 3) := by decide +kernel
theorem dX10_keep_62 : decode cX10_keep 62 = .ok (.iconst 1, 1) := by decide +kernel
theorem dX10_keep_63 : decode cX10_keep 63 = .ok (.iadd, 1) := by decide +kernel
theorem dX10_keep_64 : decode cX10_keep 64 = .ok (.putfield 180, 3) := by decide +kernel
theorem dX10_keep_67 : decode cX10_keep 67 = .ok (.aload_n 0, 1) := by decide +kernel
theorem dX10_keep_68 : decode cX10_keep 68 = .ok (.getfield 180, 3) := by decide +kernel
theorem dX10_keep_71 : decode cX10_keep 71 = .ok (.ireturn, 1) := by decide +kernel
theorem dX10_back_0 : decode cX10_back 0 = .ok (.aload_n 0, 1) := by decide +kernel
theorem dX10_back_1 : decode cX10_back 1 = .ok (.getfield 180, 3) := by decide +kernel
theorem dX10_back_4 : decode cX10_back 4 = .ok (.ifCond .ne 6, 3) := by decide +kernel
theorem dX10_back_7 : decode cX10_back 7 = .ok (.bipush (-2), 2) := by decide +kernel
theorem dX10_back_9 : decode cX10_back 9 = .ok (.ireturn, 1) := by decide +kernel
theorem dX10_back_10 : decode cX10_back 10 = .ok (.aload_n 0, 1) := by decide +kernel
theorem dX10_back_11 : decode cX10_back 11 = .ok (.dup, 1) := by decide +kernel
theorem dX10_back_12 : decode cX10_back 12 = .ok (.getfield 180, 3) := by decide +kernel
theorem dX10_back_15 : decode cX10_back 15 = .ok (.iconst 1, 1) := by decide +kernel
theorem dX10_back_16 : decode cX10_back 16 = .ok (.isub, 1) := by decide +kernel
theorem dX10_back_17 : decode cX10_back 17 = .ok (.putfield 180, 3) := by decide +kernel
theorem dX10_back_20 : decode cX10_back 20 = .ok (.iconst 0, 1) := by decide +kernel
theorem dX10_back_21 : decode cX10_back 21 = .ok (.istore_n 1, 1) := by decide +kernel
theorem dX10_back_22 : decode cX10_back 22 = .ok (.iload_n 1, 1) := by decide +kernel
theorem dX10_back_23 : decode cX10_back 23 = .ok (.sipush 280, 3) := by decide +kernel
theorem dX10_back_26 : decode cX10_back 26 = .ok (.if_icmp .ge 30, 3) := by decide +kernel
theorem dX10_back_29 : decode cX10_back 29 = .ok (.aload_n 0, 1) := by decide +kernel
theorem dX10_back_30 : decode cX10_back 30 = .ok (.getfield 28, 3) := by decide +kernel
theorem dX10_back_33 : decode cX10_back 33 = .ok (.iload_n 1, 1) := by decide +kernel
theorem dX10_back_34 : decode cX10_back 34 = .ok (.aload_n 0, 1) := by decide +kernel
theorem dX10_back_35 : decode cX10_back 35 = .ok (.getfield 35, 3) := by decide +kernel
theorem dX10_back_38 : decode cX10_back 38 = .ok (.sipush 280, 3) := by decide +kernel
theorem dX10_back_41 : decode cX10_back 41 = .ok (.aload_n 0, 1) := by decide +kernel
theorem dX10_back_42 : decode cX10_back 42 = .ok (.getfield 180, 3) := by decide +kernel
theorem dX10_back_45 : decode cX10_back 45 = .ok (.imul, 1) := by decide +kernel
theorem dX10_back_46 : decode cX10_back 46 = .ok (.iload_n 1, 1) := by decide +kernel
theorem dX10_back_47 : decode cX10_back 47 = .ok (.iadd, 1) := by decide +kernel
theorem dX10_back_48 : decode cX10_back 48 = .ok (.laload, 1) := by decide +kernel
theorem dX10_back_49 : decode cX10_back 49 = .ok (.lastore, 1) := by decide +kernel
theorem dX10_back_50 : decode cX10_back 50 = .ok (.iinc 1 1, 3) := by decide +kernel
theorem dX10_back_53 : decode cX10_back 53 = .ok (.goto (-31), 3) := by decide +kernel
theorem dX10_back_56 : decode cX10_back 56 = .ok (.aload_n 0, 1) := by decide +kernel
theorem dX10_back_57 : decode cX10_back 57 = .ok (.getfield 180, 3) := by decide +kernel
theorem dX10_back_60 : decode cX10_back 60 = .ok (.ireturn, 1) := by decide +kernel
theorem dX10_count_0 : decode cX10_count 0 = .ok (.iconst 0, 1) := by decide +kernel
theorem dX10_count_1 : decode cX10_count 1 = .ok (.istore_n 2, 1) := by decide +kernel
theorem dX10_count_2 : decode cX10_count 2 = .ok (.iconst 0, 1) := by decide +kernel
theorem dX10_count_3 : decode cX10_count 3 = .ok (.istore_n 3, 1) := by decide +kernel
theorem dX10_count_4 : decode cX10_count 4 = .ok (.iconst 0, 1) := by decide +kernel
theorem dX10_count_5 : decode cX10_count 5 = .ok (.istore 4, 2) := by decide +kernel
theorem dX10_count_7 : decode cX10_count 7 = .ok (.iload 4, 2) := by decide +kernel
theorem dX10_count_9 : decode cX10_count 9 = .ok (.sipush 384, 3) := by decide +kernel
theorem dX10_count_12 : decode cX10_count 12 = .ok (.if_icmp .ge 27, 3) := by decide +kernel
theorem dX10_count_15 : decode cX10_count 15 = .ok (.iload_n 2, 1) := by decide +kernel
theorem dX10_count_16 : decode cX10_count 16 = .ok (.aload_n 0, 1) := by decide +kernel
theorem dX10_count_17 : decode cX10_count 17 = .ok (.getfield 44, 3) := by decide +kernel
theorem dX10_count_20 : decode cX10_count 20 = .ok (.iload 4, 2) := by decide +kernel
theorem dX10_count_22 : decode cX10_count 22 = .ok (.iaload, 1) := by decide +kernel
theorem dX10_count_23 : decode cX10_count 23 = .ok (.ifCond .lt 7, 3) := by decide +kernel
theorem dX10_count_26 : decode cX10_count 26 = .ok (.iconst 1, 1) := by decide +kernel
theorem dX10_count_27 : decode cX10_count 27 = .ok (.goto 4, 3) := by decide +kernel
theorem dX10_count_30 : decode cX10_count 30 = .ok (.iconst 0, 1) := by decide +kernel
theorem dX10_count_31 : decode cX10_count 31 = .ok (.iadd, 1) := by decide +kernel
theorem dX10_count_32 : decode cX10_count 32 = .ok (.istore_n 2, 1) := by decide +kernel
theorem dX10_count_33 : decode cX10_count 33 = .ok (.iinc 4 1, 3) := by decide +kernel
theorem dX10_count_36 : decode cX10_count 36 = .ok (.goto (-29), 3) := by decide +kernel
theorem dX10_count_39 : decode cX10_count 39 = .ok (.iconst 0, 1) := by decide +kernel
theorem dX10_count_40 : decode cX10_count 40 = .ok (.istore 4, 2) := by decide +kernel
theorem dX10_count_42 : decode cX10_count 42 = .ok (.iload 4, 2) := by decide +kernel
theorem dX10_count_44 : decode cX10_count 44 = .ok (.iconst 4, 1) := by decide +kernel
theorem dX10_count_45 : decode cX10_count 45 = .ok (.if_icmp .ge 27, 3) := by decide +kernel
theorem dX10_count_48 : decode cX10_count 48 = .ok (.iload_n 3, 1) := by decide +kernel
theorem dX10_count_49 : decode cX10_count 49 = .ok (.aload_n 0, 1) := by decide +kernel
theorem dX10_count_50 : decode cX10_count 50 = .ok (.getfield 38, 3) := by decide +kernel
theorem dX10_count_53 : decode cX10_count 53 = .ok (.iload 4, 2) := by decide +kernel
theorem dX10_count_55 : decode cX10_count 55 = .ok (.iaload, 1) := by decide +kernel
theorem dX10_count_56 : decode cX10_count 56 = .ok (.ifCond .lt 7, 3) := by decide +kernel
theorem dX10_count_59 : decode cX10_count 59 = .ok (.iconst 1, 1) := by decide +kernel
theorem dX10_count_60 : decode cX10_count 60 = .ok (.goto 4, 3) := by decide +kernel
theorem dX10_count_63 : decode cX10_count 63 = .ok (.iconst 0, 1) := by decide +kernel
theorem dX10_count_64 : decode cX10_count 64 = .ok (.iadd, 1) := by decide +kernel
theorem dX10_count_65 : decode cX10_count 65 = .ok (.istore_n 3, 1) := by decide +kernel
theorem dX10_count_66 : decode cX10_count 66 = .ok (.iinc 4 1, 3) := by decide +kernel
theorem dX10_count_69 : decode cX10_count 69 = .ok (.goto (-27), 3) := by decide +kernel
theorem dX10_count_72 : decode cX10_count 72 = .ok (.iload_n 1, 1) := by decide +kernel
theorem dX10_count_73 : decode cX10_count 73 = .ok (.tableswitch 135 0 8 #[51, 56, 72, 79, 86, 96, 126, 128, 130], 51) := by decide +kernel
theorem dX10_count_124 : decode cX10_count 124 = .ok (.aload_n 0, 1) := by decide +kernel
theorem dX10_count_125 : decode cX10_count 125 = .ok (.getfield 89, 3) := by decide +kernel
theorem dX10_count_128 : decode cX10_count 128 = .ok (.ireturn, 1) := by decide +kernel
theorem dX10_count_129 : decode cX10_count 129 = .ok (.aload_n 0, 1) := by decide +kernel
theorem dX10_count_130 : decode cX10_count 130 = .ok (.getfield 173, 3) := by decide +kernel
theorem dX10_count_133 : decode cX10_count 133 = .ok (.ifCond .eq 10, 3) := by decide +kernel
theorem dX10_count_136 : decode cX10_count 136 = .ok (.aload_n 0, 1) := by decide +kernel
theorem dX10_count_137 : decode cX10_count 137 = .ok (.getfield 163, 3) := by decide +kernel
theorem dX10_count_140 : decode cX10_count 140 = .ok (.goto 4, 3) := by decide +kernel
theorem dX10_count_143 : decode cX10_count 143 = .ok (.iconst 0, 1) := by decide +kernel
theorem dX10_count_144 : decode cX10_count 144 = .ok (.ireturn, 1) := by decide +kernel
theorem dX10_count_145 : decode cX10_count 145 = .ok (.aload_n 0, 1) := by decide +kernel
theorem dX10_count_146 : decode cX10_count 146 = .ok (.bipush 115, 2) := by decide +kernel
theorem dX10_count_148 : decode cX10_count 148 = .ok (.invokevirtual 245, 3) := by decide +kernel
theorem dX10_count_151 : decode cX10_count 151 = .ok (.ireturn, 1) := by decide +kernel
theorem dX10_count_152 : decode cX10_count 152 = .ok (.aload_n 0, 1) := by decide +kernel
theorem dX10_count_153 : decode cX10_count 153 = .ok (.bipush 103, 2) := by decide +kernel
theorem dX10_count_155 : decode cX10_count 155 = .ok (.invokevirtual 245, 3) := by decide +kernel
theorem dX10_count_158 : decode cX10_count 158 = .ok (.ireturn, 1) := by decide +kernel
theorem dX10_count_159 : decode cX10_count 159 = .ok (.aload_n 0, 1) := by decide +kernel
theorem dX10_count_160 : decode cX10_count 160 = .ok (.getfield 28, 3) := by decide +kernel
theorem dX10_count_163 : decode cX10_count 163 = .ok (.sipush 231, 3) := by decide +kernel
theorem dX10_count_166 : decode cX10_count 166 = .ok (.laload, 1) := by decide +kernel
theorem dX10_count_167 : decode cX10_count 167 = .ok (.l2i, 1) := by decide +kernel
theorem dX10_count_168 : decode cX10_count 168 = .ok (.ireturn, 1) := by decide +kernel
theorem dX10_count_169 : decode cX10_count 169 = .ok (.aload_n 0, 1) := by decide +kernel
theorem dX10_count_170 : decode cX10_count 170 = .ok (.getfield 59, 3) := by decide +kernel
theorem dX10_count_173 : decode cX10_count 173 = .ok (.iconst 0, 1) := by decide +kernel
theorem dX10_count_174 : decode cX10_count 174 = .ok (.iaload, 1) := by decide +kernel
theorem dX10_count_175 : decode cX10_count 175 = .ok (.ifCond .le 7, 3) := by decide +kernel
theorem dX10_count_178 : decode cX10_count 178 = .ok (.iconst 1, 1) := by decide +kernel
theorem dX10_count_179 : decode cX10_count 179 = .ok (.goto 4, 3) := by decide +kernel
theorem dX10_count_182 : decode cX10_count 182 = .ok (.iconst 0, 1) := by decide +kernel
theorem dX10_count_183 : decode cX10_count 183 = .ok (.aload_n 0, 1) := by decide +kernel
theorem dX10_count_184 : decode cX10_count 184 = .ok (.getfield 59, 3) := by decide +kernel
theorem dX10_count_187 : decode cX10_count 187 = .ok (.iconst 1, 1) := by decide +kernel
theorem dX10_count_188 : decode cX10_count 188 = .ok (.iaload, 1) := by decide +kernel
theorem dX10_count_189 : decode cX10_count 189 = .ok (.ifCond .le 7, 3) := by decide +kernel
theorem dX10_count_192 : decode cX10_count 192 = .ok (.iconst 1, 1) := by decide +kernel
theorem dX10_count_193 : decode cX10_count 193 = .ok (.goto 4, 3) := by decide +kernel
theorem dX10_count_196 : decode cX10_count 196 = .ok (.iconst 0, 1) := by decide +kernel
theorem dX10_count_197 : decode cX10_count 197 = .ok (.iadd, 1) := by decide +kernel
theorem dX10_count_198 : decode cX10_count 198 = .ok (.ireturn, 1) := by decide +kernel
theorem dX10_count_199 : decode cX10_count 199 = .ok (.iload_n 3, 1) := by decide +kernel
theorem dX10_count_200 : decode cX10_count 200 = .ok (.ireturn, 1) := by decide +kernel
theorem dX10_count_201 : decode cX10_count 201 = .ok (.iload_n 2, 1) := by decide +kernel
theorem dX10_count_202 : decode cX10_count 202 = .ok (.ireturn, 1) := by decide +kernel
theorem dX10_count_203 : decode cX10_count 203 = .ok (.aload_n 0, 1) := by decide +kernel
theorem dX10_count_204 : decode cX10_count 204 = .ok (.getfield 180, 3) := by decide +kernel
theorem dX10_count_207 : decode cX10_count 207 = .ok (.ireturn, 1) := by decide +kernel
theorem dX10_count_208 : decode cX10_count 208 = .ok (.iconst (-1), 1) := by decide +kernel
theorem dX10_count_209 : decode cX10_count 209 = .ok (.ireturn, 1) := by decide +kernel
def uX10_laySwap : List Cond := .code yX10_laySwap cX10_laySwap 1 (some .int) :: ([.fieldLink RX10 173 "RiverModelModel" "isBuilt" "Z", .fieldLink RX10 177 "RiverModelModel" "isSwapped" "Z", .methodLink RX10 190 yX10_becomes, .instanceMethod yX10_becomes, .selects RX10 yX10_becomes yX10_becomes, .initialized RX10, .code yX10_becomes cX10_becomes 3 none, .methodLink RX10 170 yX10_copies, .instanceMethod yX10_copies, .selects RX10 yX10_copies yX10_copies, .fieldLink RX10 180 "RiverModelModel" "keptMany" "I", .methodLink RX10 186 yX10_begins, .instanceMethod yX10_begins, .selects RX10 yX10_begins yX10_begins, .fieldLink RX10 71 "RiverModelModel" "startB" "[I", .methodLink RX10 183 yX10_startOf, .instanceMethod yX10_startOf, .selects RX10 yX10_startOf yX10_startOf, .code yX10_copies cX10_copies 4 none, .fieldLink RX10 22 "RiverModelModel" "number" "[I", .fieldLink RX10 13 "RiverModelModel" "kind" "[I", .fieldLink RX10 16 "RiverModelModel" "first" "[I", .fieldLink RX10 19 "RiverModelModel" "second" "[I", .code yX10_begins cX10_begins 4 none, .fieldLink RX10 28 "RiverModelModel" "m" "[J", .methodLink RX10 208 yX10_isStore, .instanceMethod yX10_isStore, .selects RX10 yX10_isStore yX10_isStore, .constantLong RX10 204 (224), .constantLong RX10 206 (227), .methodLink RX10 85 yX10_in, .static yX10_in, .constantLong RX10 196 (5), .code yX10_startOf cX10_startOf 4 (some .int), .methodLink RX10 166 yX10_storeAt, .instanceMethod yX10_storeAt, .selects RX10 yX10_storeAt yX10_storeAt, .code yX10_storeAt cX10_storeAt 5 (some .int), .fieldLink RX10 163 "RiverModelModel" "items" "I", .code yX10_isStore cX10_isStore 2 (some .boolean), .code yX10_in cX10_in 6 (some .boolean)] ++ wsX100)
set_option maxRecDepth 20000 in
theorem gu_X10_laySwap_X10_becomes_190 : GoodIn uX10_laySwap (wsV RX10 190 RX10 yX10_becomes uX10_becomes) := goodIn_r _ [3, 4, 5, 6, 7, 8, 9, 10, 6, 1, 2, 11, 12, 13, 14, 15, 16, 17, 18, 19, 20, 21, 22, 23, 24, 25, 26, 27, 28, 29, 30, 31, 32, 33, 34, 35, 36, 37, 38, 39, 40, 41, 42, 43, 44, 45, 46, 47, 48, 49, 50, 51, 52, 53, 54, 55, 56, 57, 58, 59, 60, 61, 62, 63, 64, 65, 66, 67, 68, 69, 70, 71, 72, 73, 74, 75, 76, 77] rfl (by decide +kernel)
set_option maxHeartbeats 4000000 in
set_option maxRecDepth 100000 in
theorem m_X10_laySwap (l : Launch) (D : va_G) (t : Nat → Nat) (cI cL cC : ClassId) (gC : Int32) (gE : Int32) (gW : Nat → Int32) (gA : Nat → Int32) (gT : Nat → Int32) (gI : Int32) (gS : Int32) (gM : Int32) (K : Nat → Int32) (F : Nat → Int32) (S : Nat → Int32) (N : Nat → Int32) (gH : Int) (gJ : Int) (ge : Int32) (gk : Int32) (gf : Int32) (gs : Int32) (gg : Int32) (gr : Int32) (RN : Nat → Int32) (a0 : Nat) (uq : ∀ b c : Nat, t b = t c → t b ≠ 0 → b = c) (hC0 : 0 ≤ gC.toInt) (hC4 : gC.toInt ≤ 400) (hI0 : 0 ≤ gI.toInt) (hI4 : gI.toInt ≤ 40) (hH0 : 0 ≤ gH) (hH9 : gH ≤ 96) (hm0 : 0 ≤ gM.toInt) (hm3 : gM.toInt ≤ 3) (hO0 : okM K F S N 0 gI.toInt) (hW : swM gS K F S N gI.toInt) (k_a0 : t a0 = 40) : tMx (Z := (Nat → Int32) × (Nat → Int32) × (Nat → Int32) × (Nat → Int32) × (Int32) × (Int32) × (Int)) l yX10_laySwap uX10_laySwap 4 92 D (mF cI cL cC gC gE gW gA gT gI gS gM K F S N gH gJ ge gk gf gs gg gr RN) (fun z => (mF cI cL cC gC gE gW gA gT gI z.2.2.2.2.1 z.2.2.2.2.2.1 z.1 z.2.1 z.2.2.1 z.2.2.2.1 z.2.2.2.2.2.2 gJ ge gk gf gs gg gr RN)) t cI cL cC [.ref a0] wB (xI (fun r (z : (Nat → Int32) × (Nat → Int32) × (Nat → Int32) × (Nat → Int32) × (Int32) × (Int32) × (Int)) => 0 ≤ z.2.2.2.2.2.2 ∧ z.2.2.2.2.2.2 ≤ 96 ∧ 0 ≤ z.2.2.2.2.2.1.toInt ∧ z.2.2.2.2.2.1.toInt ≤ 3 ∧ okM z.1 z.2.1 z.2.2.1 z.2.2.2.1 0 gI.toInt ∧ swM z.2.2.2.2.1 z.1 z.2.1 z.2.2.1 z.2.2.2.1 gI.toInt)) := by
  refine tMx.ofW (cc := cX10_laySwap) (maxL := 1) (ret := (some .int)) (by decide) rfl (Nat.le_of_ble_eq_true rfl) ?_
  intro p e s m below meth c hx hb hr hml hown hts hlk H locs hG hK hE hS ls hl
  have hl : lv_has ls 1 [(0, .ref a0)] := hl
  have in10 : ∀ w ∈ wsX100, w ∈ uX10_laySwap := fun w h => List.mem_cons_of_mem _ (List.mem_append_right _ h)
  refine lv_aload_n hx hb dX10_laySwap_0 rfl (lv_at hl 0 rfl) ?_
  obtain ⟨r_1, v_3, r_4, r_6, r_8, r_10, r_12, r_14, r_16, r_18, r_20, r_22, r_24, r_26, r_28, r_30, r_32, r_34, r_36, r_38, r_40, r_42, r_44, v_46, r_47, at_49, h_2, h_5, h_7, h_9, h_11, h_13, h_15, h_17, h_19, h_21, h_23, h_25, h_27, h_29, h_31, h_33, h_35, h_37, h_39, h_41, h_43, h_45, h_48⟩ := mF_o40 hG k_a0
  refine va_get (D := D) (ci := 9) (v := .int v_3) (C := RX10) (T := TX10) (N := 36) hx hb hts in10 hown hK (va_one at_49) 0 rfl rfl 2 (by decide) (hts (.fieldLink RX10 173 "RiverModelModel" "isBuilt" "Z") (List.mem_of_getElem? (i := 1) rfl)) (fun _ h9 => h9) rfl dX10_laySwap_1 ?_
  refine lv_if_eq (tgt := 14) hx hb dX10_laySwap_4 (by decide) (fun c_50 => ?_) (fun c_50 => ?_)
  · skip
    have c_50 : v_3.toInt = 0 := q_eq c_50
    refine lv_bipush (v := (-2)) hx hb dX10_laySwap_14 (by decide) ?_
    have zi_m2 : ((-2) : Int32).toInt = (-2) := by decide
    exact tx_iret (z := (K, F, S, N, gS, gM, gH)) hx hb hr hlk hG hS ⟨(by show 0 ≤ gH; omega), (by show gH ≤ 96; omega), (by show 0 ≤ gM.toInt; omega), (by show gM.toInt ≤ 3; omega), (show okM K F S N 0 gI.toInt from hO0), (show swM gS K F S N gI.toInt from hW)⟩ dX10_laySwap_16
  · skip
    have c_50 : v_3.toInt ≠ 0 := q_ne c_50
    refine lv_aload_n hx hb dX10_laySwap_7 rfl (lv_at hl 0 rfl) ?_
    refine va_get (D := D) (ci := 9) (v := .int gS) (C := RX10) (T := TX10) (N := 36) hx hb hts in10 hown hK (va_one at_49) 0 rfl rfl 8 (by decide) (hts (.fieldLink RX10 177 "RiverModelModel" "isSwapped" "Z") (List.mem_of_getElem? (i := 2) rfl)) (fun _ h9 => h9) rfl dX10_laySwap_8 ?_
    refine lv_pc (pc2 := 11) rfl ?_
    refine lv_if_ne (tgt := 17) hx hb dX10_laySwap_11 (by decide) (fun c_51 => ?_) (fun c_51 => ?_)
    · skip
      have c_51 : gS.toInt ≠ 0 := q_ne c_51
      have okS := Or.resolve_left hW (by omega)
      refine lv_aload_n hx hb dX10_laySwap_17 rfl (lv_at hl 0 rfl) ?_
      refine lv_iconst (v := 2) hx hb dX10_laySwap_18 (by decide) ?_
      have zi_2 : (2 : Int32).toInt = 2 := by decide
      refine tx_callv (W.runV (As := [.int 2]) (rest := []) ⟨hx, hb, hml, hown, hts⟩ (m_X10_becomes l D t cI cL cC gC gE gW gA gT gI gS gM K F S N gH gJ ge gk gf gs gg gr RN a0 2 80 uq (by omega) (by omega) (by omega) (by omega) (by omega) okS k_a0) (cwV 1 hts gu_X10_laySwap_X10_becomes_190 rfl rfl rfl (by decide +kernel) ⟨Nat.le_of_ble_eq_true rfl, Nat.le_of_ble_eq_true rfl⟩) (tP_V hG hE at_49 rfl) rfl rfl hl.1 rfl (lv_room (Nat.le_of_ble_eq_true rfl)) dX10_laySwap_19 ⟨Nat.le_of_ble_eq_true rfl, Nat.le_of_ble_eq_true rfl⟩) hS (fun _ h => h) (fun zz_55 H locs hp_53 hG hS o_54 => ?_)
      obtain ⟨K_56, F_57, S_58, N_59, gS_60, gM_61, gH_62⟩ := zz_55
      replace hG : tG D (mF cI cL cC gC gE gW gA gT gI gS_60 gM_61 K_56 F_57 S_58 N_59 gH_62 gJ ge gk gf gs gg gr RN) t H := hG
      have hp_53 : gS_60.toInt = 0 ∧ gM_61.toInt = 0 ∧ gH_62 = 0 ∧ okM K_56 F_57 S_58 N_59 0 gI.toInt := hp_53
      obtain ⟨p_63, p_64, p_65, p_66⟩ := hp_53
      have hw_67 : swM gS_60 K_56 F_57 S_58 N_59 gI.toInt := Or.inl p_63
      refine lv_iconst (v := 0) hx hb dX10_laySwap_22 (by decide) ?_
      have zi_0 : (0 : Int32).toInt = 0 := by decide
      exact tx_iret (z := (K_56, F_57, S_58, N_59, gS_60, gM_61, gH_62)) hx hb hr hlk hG hS ⟨(by show 0 ≤ gH_62; omega), (by show gH_62 ≤ 96; omega), (by show 0 ≤ gM_61.toInt; omega), (by show gM_61.toInt ≤ 3; omega), (show okM K_56 F_57 S_58 N_59 0 gI.toInt from p_66), (show swM gS_60 K_56 F_57 S_58 N_59 gI.toInt from hw_67)⟩ dX10_laySwap_23
    · skip
      have c_51 : gS.toInt = 0 := q_eq c_51
      refine lv_bipush (v := (-2)) hx hb dX10_laySwap_14 (by decide) ?_
      have zi_m2 : ((-2) : Int32).toInt = (-2) := by decide
      exact tx_iret (z := (K, F, S, N, gS, gM, gH)) hx hb hr hlk hG hS ⟨(by show 0 ≤ gH; omega), (by show gH ≤ 96; omega), (by show 0 ≤ gM.toInt; omega), (by show gM.toInt ≤ 3; omega), (show okM K F S N 0 gI.toInt from hO0), (show swM gS K F S N gI.toInt from hW)⟩ dX10_laySwap_16

def uX10_startB : List Cond := .code yX10_startB cX10_startB 4 (some .int) :: ([.constantLong RX10 234 (15), .methodLink RX10 85 yX10_in, .static yX10_in, .initialized RX10, .constantLong RX10 99 (1000000), .fieldLink RX10 173 "RiverModelModel" "isBuilt" "Z", .methodLink RX10 208 yX10_isStore, .instanceMethod yX10_isStore, .selects RX10 yX10_isStore yX10_isStore, .fieldLink RX10 71 "RiverModelModel" "startB" "[I", .code yX10_in cX10_in 6 (some .boolean), .code yX10_isStore cX10_isStore 2 (some .boolean), .methodLink RX10 166 yX10_storeAt, .instanceMethod yX10_storeAt, .selects RX10 yX10_storeAt yX10_storeAt, .code yX10_storeAt cX10_storeAt 5 (some .int), .fieldLink RX10 163 "RiverModelModel" "items" "I", .fieldLink RX10 13 "RiverModelModel" "kind" "[I", .fieldLink RX10 16 "RiverModelModel" "first" "[I"] ++ wsX100)
set_option maxRecDepth 20000 in
theorem gu_X10_startB_X10_in_85 : GoodIn uX10_startB (va_wsS RX10 85 yX10_in uX10_in) := goodIn_r _ [2, 3, 4, 11] rfl (by decide +kernel)
set_option maxRecDepth 20000 in
theorem gu_X10_startB_X10_isStore_208 : GoodIn uX10_startB (wsV RX10 208 RX10 yX10_isStore uX10_isStore) := goodIn_r _ [7, 8, 9, 4, 12, 13, 14, 15, 4, 16, 17, 18, 19, 20, 21, 22, 23, 24, 25, 26, 27, 28, 29, 30, 31, 32, 33, 34, 35, 36, 37, 38, 39, 40, 41, 42, 43, 44, 45, 46, 47, 48, 49, 50, 51, 52, 53, 54, 55] rfl (by decide +kernel)
set_option maxHeartbeats 4000000 in
set_option maxRecDepth 100000 in
theorem m_X10_startB (l : Launch) (D : va_G) (t : Nat → Nat) (cI cL cC : ClassId) (gC : Int32) (gE : Int32) (gW : Nat → Int32) (gA : Nat → Int32) (gT : Nat → Int32) (gI : Int32) (gS : Int32) (gM : Int32) (K : Nat → Int32) (F : Nat → Int32) (S : Nat → Int32) (N : Nat → Int32) (gH : Int) (gJ : Int) (ge : Int32) (gk : Int32) (gf : Int32) (gs : Int32) (gg : Int32) (gr : Int32) (RN : Nat → Int32) (a0 : Nat) (a1 : Int32) (a2 : Int32) (uq : ∀ b c : Nat, t b = t c → t b ≠ 0 → b = c) (hC0 : 0 ≤ gC.toInt) (hC4 : gC.toInt ≤ 400) (hI0 : 0 ≤ gI.toInt) (hI4 : gI.toInt ≤ 40) (hH0 : 0 ≤ gH) (hH9 : gH ≤ 96) (hm0 : 0 ≤ gM.toInt) (hm3 : gM.toInt ≤ 3) (hO0 : okM K F S N 0 gI.toInt) (hW : swM gS K F S N gI.toInt) (k_a0 : t a0 = 40) : tM l yX10_startB uX10_startB 2 45 D (mF cI cL cC gC gE gW gA gT gI gS gM K F S N gH gJ ge gk gf gs gg gr RN) (mF cI cL cC gC gE gW gA gT gI gS gM K F S N gH gJ ge gk gf gs gg gr RN) t cI cL cC [.ref a0, .int a1, .int a2] wSB (pI (fun r => True)) := by
  refine tM.ofW (cc := cX10_startB) (maxL := 4) (ret := (some .int)) (by decide) rfl (Nat.le_of_ble_eq_true rfl) ?_
  intro p e s m below meth c hx hb hr hml hown hts hlk H locs hG hK hE hS ls hl
  have hl : lv_has ls 4 [(0, .ref a0), (1, .int a1), (2, .int a2)] := hl
  have in10 : ∀ w ∈ wsX100, w ∈ uX10_startB := fun w h => List.mem_cons_of_mem _ (List.mem_append_right _ h)
  refine lv_iload_n hx hb dX10_startB_0 rfl (lv_at hl 1 rfl) ?_
  refine lv_i2l (v := a1.toInt64) hx hb dX10_startB_1 rfl ?_
  refine lv_lconst (v := 0) hx hb dX10_startB_2 (by decide) ?_
  refine lv_ldc2 hx hb hown (hts (.constantLong RX10 234 (15)) (List.mem_of_getElem? (i := 1) rfl)) dX10_startB_3 ?_
  have zl_0 : (0 : Int64).toInt = 0 := by decide
  have zl_15 : (15 : Int64).toInt = 15 := by decide
  refine ty_calli (W.runS (As := [.long a1.toInt64, .long 0, .long 15]) (rest := []) ⟨hx, hb, hml, hown, hts⟩ (m_X10_in l D t cI cL cC gC gE gW gA gT gI gS gM K F S N gH gJ ge gk gf gs gg gr RN a1.toInt64 0 15 a1.toInt 0 15 uq (q_i2l _) (by decide) (by decide) ) (va_cwS 3 hts gu_X10_startB_X10_in_85 rfl rfl rfl (by decide +kernel) ⟨Nat.le_of_ble_eq_true rfl, Nat.le_of_ble_eq_true rfl⟩) (tP_S hG hE) rfl rfl hl.1 rfl (lv_room (Nat.le_of_ble_eq_true rfl)) dX10_startB_6 ⟨Nat.le_of_ble_eq_true rfl, Nat.le_of_ble_eq_true rfl⟩) hS (fun k h => by simp [wr0] at h) (fun r_1 H locs hp_2 hG hS o_3 => ?_)
  have hp_2 : (r_1 = 1 ∧ 0 ≤ a1.toInt ∧ a1.toInt ≤ 15) ∨ (r_1 = 0 ∧ (a1.toInt < 0 ∨ 15 < a1.toInt)) := hp_2
  rcases hp_2 with ⟨rfl, p_5, p_6⟩ | ⟨rfl, p_7⟩
  · skip
    refine lv_if_eq (tgt := 24) hx hb dX10_startB_9 (by decide) (fun q => absurd q (by decide)) (fun _ => ?_)
    refine lv_iload_n hx hb dX10_startB_12 rfl (lv_at hl 2 rfl) ?_
    refine lv_pc (pc2 := 13) rfl ?_
    refine lv_i2l (v := a2.toInt64) hx hb dX10_startB_13 rfl ?_
    refine lv_lconst (v := 0) hx hb dX10_startB_14 (by decide) ?_
    refine lv_ldc2 hx hb hown (hts (.constantLong RX10 99 (1000000)) (List.mem_of_getElem? (i := 5) rfl)) dX10_startB_15 ?_
    have zl_1000000 : (1000000 : Int64).toInt = 1000000 := by decide
    refine ty_calli (W.runS (As := [.long a2.toInt64, .long 0, .long 1000000]) (rest := []) ⟨hx, hb, hml, hown, hts⟩ (m_X10_in l D t cI cL cC gC gE gW gA gT gI gS gM K F S N gH gJ ge gk gf gs gg gr RN a2.toInt64 0 1000000 a2.toInt 0 1000000 uq (q_i2l _) (by decide) (by decide) ) (va_cwS 3 hts gu_X10_startB_X10_in_85 rfl rfl rfl (by decide +kernel) ⟨Nat.le_of_ble_eq_true rfl, Nat.le_of_ble_eq_true rfl⟩) (tP_S hG hE) rfl rfl hl.1 rfl (lv_room (Nat.le_of_ble_eq_true rfl)) dX10_startB_18 ⟨Nat.le_of_ble_eq_true rfl, Nat.le_of_ble_eq_true rfl⟩) hS (fun k h => by simp [wr0] at h) (fun r_8 H locs hp_9 hG hS o_10 => ?_)
    have hp_9 : (r_8 = 1 ∧ 0 ≤ a2.toInt ∧ a2.toInt ≤ 1000000) ∨ (r_8 = 0 ∧ (a2.toInt < 0 ∨ 1000000 < a2.toInt)) := hp_9
    rcases hp_9 with ⟨rfl, p_12, p_13⟩ | ⟨rfl, p_14⟩
    · skip
      refine lv_if_ne (tgt := 26) hx hb dX10_startB_21 (by decide) (fun _ => ?_) (fun q => absurd q (by decide))
      refine lv_aload_n hx hb dX10_startB_26 rfl (lv_at hl 0 rfl) ?_
      obtain ⟨r_15, v_17, r_18, r_20, r_22, r_24, r_26, r_28, r_30, r_32, r_34, r_36, r_38, r_40, r_42, r_44, r_46, r_48, r_50, r_52, r_54, r_56, r_58, v_60, r_61, at_63, h_16, h_19, h_21, h_23, h_25, h_27, h_29, h_31, h_33, h_35, h_37, h_39, h_41, h_43, h_45, h_47, h_49, h_51, h_53, h_55, h_57, h_59, h_62⟩ := mF_o40 hG k_a0
      refine va_get (D := D) (ci := 9) (v := .int v_17) (C := RX10) (T := TX10) (N := 36) hx hb hts in10 hown hK (va_one at_63) 0 rfl rfl 2 (by decide) (hts (.fieldLink RX10 173 "RiverModelModel" "isBuilt" "Z") (List.mem_of_getElem? (i := 6) rfl)) (fun _ h9 => h9) rfl dX10_startB_27 ?_
      refine lv_if_eq (tgt := 41) hx hb dX10_startB_30 (by decide) (fun c_64 => ?_) (fun c_64 => ?_)
      · skip
        have c_64 : v_17.toInt = 0 := q_eq c_64
        refine lv_pc (pc2 := 41) rfl ?_
        refine lv_bipush (v := (-2)) hx hb dX10_startB_41 (by decide) ?_
        have zi_m2 : ((-2) : Int32).toInt = (-2) := by decide
        exact ty_iret hx hb hr hlk hG hS True.intro dX10_startB_43
      · skip
        have c_64 : v_17.toInt ≠ 0 := q_ne c_64
        refine lv_aload_n hx hb dX10_startB_33 rfl (lv_at hl 0 rfl) ?_
        refine lv_iload_n hx hb dX10_startB_34 rfl (lv_at hl 1 rfl) ?_
        refine ty_calli (W.runV (As := [.int a1]) (rest := []) ⟨hx, hb, hml, hown, hts⟩ (m_X10_isStore l D t cI cL cC gC gE gW gA gT gI gS gM K F S N gH gJ ge gk gf gs gg gr RN a0 a1  uq (by omega) (by omega) k_a0) (cwV 1 hts gu_X10_startB_X10_isStore_208 rfl rfl rfl (by decide +kernel) ⟨Nat.le_of_ble_eq_true rfl, Nat.le_of_ble_eq_true rfl⟩) (tP_V hG hE at_63 rfl) rfl rfl hl.1 rfl (lv_room (Nat.le_of_ble_eq_true rfl)) dX10_startB_35 ⟨Nat.le_of_ble_eq_true rfl, Nat.le_of_ble_eq_true rfl⟩) hS (fun k h => by simp [wr0] at h) (fun r_65 H locs hp_66 hG hS o_67 => ?_)
        have at_63 := va_at.keptC at_63 o_67 k_a0 rfl
        have hp_66 : (r_65 = 1 ∧ hasS K F 0 gI.toInt a1) ∨ (r_65 = 0 ∧ ¬ hasS K F 0 gI.toInt a1) := hp_66
        rcases hp_66 with ⟨rfl, p_69⟩ | ⟨rfl, p_70⟩
        · skip
          refine lv_if_ne (tgt := 44) hx hb dX10_startB_38 (by decide) (fun _ => ?_) (fun q => absurd q (by decide))
          refine lv_aload_n hx hb dX10_startB_44 rfl (lv_at hl 0 rfl) ?_
          refine va_get (D := D) (ci := 9) (v := .ref r_56) (C := RX10) (T := TX10) (N := 36) hx hb hts in10 hown hK (va_one at_63) 0 rfl rfl 26 (by decide) (hts (.fieldLink RX10 71 "RiverModelModel" "startB" "[I") (List.mem_of_getElem? (i := 10) rfl)) (fun _ h9 => h9) rfl dX10_startB_45 ?_
          refine lv_pc (pc2 := 48) rfl ?_
          refine lv_iload_n hx hb dX10_startB_48 rfl (lv_at hl 1 rfl) ?_
          obtain ⟨f_71, at_72⟩ := mF_o61 hG h_57
          have b_73 : vp_in a1 16 := (q_in (by omega) (by omega))
          refine va_iald hx hb hK (va_one at_72) 0 0 rfl rfl b_73 dX10_startB_49 ?_
          refine lv_topi (fun x_74 e_75 => ?_)
          refine lv_istore_n (lv' := [(3, .int x_74), (0, .ref a0), (1, .int a1), (2, .int a2)]) hx hb dX10_startB_50 rfl hl (by decide) rfl (fun ls hl => ?_)
          refine lv_aload_n hx hb dX10_startB_51 rfl (lv_at hl 1 rfl) ?_
          refine va_get (D := D) (ci := 9) (v := .ref r_56) (C := RX10) (T := TX10) (N := 36) hx hb hts in10 hown hK (va_one at_63) 0 rfl rfl 26 (by decide) (hts (.fieldLink RX10 71 "RiverModelModel" "startB" "[I") (List.mem_of_getElem? (i := 10) rfl)) (fun _ h9 => h9) rfl dX10_startB_52 ?_
          refine lv_iload_n hx hb dX10_startB_55 rfl (lv_at hl 2 rfl) ?_
          refine lv_iload_n hx hb dX10_startB_56 rfl (lv_at hl 3 rfl) ?_
          have b_76 : vp_in a1 16 := (q_in (by omega) (by omega))
          refine ty_iast (F2 := (mF cI cL cC gC gE gW gA gT gI gS gM K F S N gH gJ ge gk gf gs gg gr RN)) hx hb hK hG hS 0 at_72 (by rw [h_57]; rfl) rfl b_76 (by rw [h_57]; exact ⟨_, rfl⟩) tFF dX10_startB_57 (fun H locs hG hS at_77 o_78 => ?_)
          have at_63 := va_at.keptK at_63 o_78 h_57 k_a0 rfl
          refine lv_pc (pc2 := 58) rfl ?_
          refine lv_iload_n hx hb dX10_startB_58 rfl (lv_at hl 0 rfl) ?_
          exact ty_iret hx hb hr hlk hG hS True.intro dX10_startB_59
        · skip
          refine lv_if_ne (tgt := 44) hx hb dX10_startB_38 (by decide) (fun q => absurd rfl q) (fun _ => ?_)
          refine lv_bipush (v := (-2)) hx hb dX10_startB_41 (by decide) ?_
          have zi_m2 : ((-2) : Int32).toInt = (-2) := by decide
          exact ty_iret hx hb hr hlk hG hS True.intro dX10_startB_43
    · skip
      refine lv_if_ne (tgt := 26) hx hb dX10_startB_21 (by decide) (fun q => absurd rfl q) (fun _ => ?_)
      refine lv_iconst (v := (-1)) hx hb dX10_startB_24 (by decide) ?_
      have zi_m1 : ((-1) : Int32).toInt = (-1) := by decide
      exact ty_iret hx hb hr hlk hG hS True.intro dX10_startB_25
  · skip
    refine lv_pc (pc2 := 9) rfl ?_
    refine lv_if_eq (tgt := 24) hx hb dX10_startB_9 (by decide) (fun _ => ?_) (fun q => absurd (by decide) q)
    refine lv_iconst (v := (-1)) hx hb dX10_startB_24 (by decide) ?_
    have zi_m1 : ((-1) : Int32).toInt = (-1) := by decide
    exact ty_iret hx hb hr hlk hG hS True.intro dX10_startB_25

def uX10_trial : List Cond := .code yX10_trial cX10_trial 8 (some .long) :: ([.methodLink RX10 274 yX10_asides, .instanceMethod yX10_asides, .selects RX10 yX10_asides yX10_asides, .initialized RX10, .methodLink RX10 186 yX10_begins, .instanceMethod yX10_begins, .selects RX10 yX10_begins yX10_begins, .methodLink RX10 251 yX10_reading, .instanceMethod yX10_reading, .selects RX10 yX10_reading yX10_reading, .methodLink RX10 277 yX10_returns, .instanceMethod yX10_returns, .selects RX10 yX10_returns yX10_returns, .methodLink RX10 231 yX10_goes, .instanceMethod yX10_goes, .selects RX10 yX10_goes yX10_goes, .code yX10_asides cX10_asides 2 none, .fieldLink RX10 32 "RiverModelModel" "aside" "[J", .fieldLink RX10 28 "RiverModelModel" "m" "[J", .code yX10_begins cX10_begins 4 none, .methodLink RX10 183 yX10_startOf, .instanceMethod yX10_startOf, .selects RX10 yX10_startOf yX10_startOf, .methodLink RX10 208 yX10_isStore, .instanceMethod yX10_isStore, .selects RX10 yX10_isStore yX10_isStore, .fieldLink RX10 71 "RiverModelModel" "startB" "[I", .constantLong RX10 204 (224), .constantLong RX10 206 (227), .methodLink RX10 85 yX10_in, .static yX10_in, .constantLong RX10 196 (5), .code yX10_startOf cX10_startOf 4 (some .int), .methodLink RX10 166 yX10_storeAt, .instanceMethod yX10_storeAt, .selects RX10 yX10_storeAt yX10_storeAt, .fieldLink RX10 22 "RiverModelModel" "number" "[I", .code yX10_storeAt cX10_storeAt 5 (some .int), .fieldLink RX10 163 "RiverModelModel" "items" "I", .fieldLink RX10 13 "RiverModelModel" "kind" "[I", .fieldLink RX10 16 "RiverModelModel" "first" "[I", .code yX10_isStore cX10_isStore 2 (some .boolean), .code yX10_in cX10_in 6 (some .boolean), .code yX10_reading cX10_reading 2 (some .long), .fieldLink RX10 38 "RiverModelModel" "gaugeKind" "[I", .fieldLink RX10 41 "RiverModelModel" "gaugeAt" "[I", .code yX10_returns cX10_returns 2 none, .code yX10_goes cX10_goes 4 none, .fieldLink RX10 25 "RiverModelModel" "weather" "[I", .methodLink RX10 225 yX10_passes, .instanceMethod yX10_passes, .selects RX10 yX10_passes yX10_passes, .code yX10_passes cX10_passes 12 none, .methodLink RX10 221 yX10_moves, .instanceMethod yX10_moves, .selects RX10 yX10_moves yX10_moves, .fieldLink RX10 19 "RiverModelModel" "second" "[I", .code yX10_moves cX10_moves 8 (some .long), .constantLong RX10 219 (10), .methodLink RX10 215 yX10_most, .instanceMethod yX10_most, .selects RX10 yX10_most yX10_most, .constantLong RX10 107 (100), .methodLink RX10 211 yX10_capacity, .instanceMethod yX10_capacity, .selects RX10 yX10_capacity yX10_capacity, .code yX10_most cX10_most 4 (some .long), .code yX10_capacity cX10_capacity 3 (some .long)] ++ wsX100)
set_option maxRecDepth 20000 in
theorem gu_X10_trial_X10_asides_274 : GoodIn uX10_trial (wsV RX10 274 RX10 yX10_asides uX10_asides) := goodIn_r _ [1, 2, 3, 4, 17, 18, 19, 69, 70, 71, 72, 73, 74, 75, 76, 77, 78, 79, 80, 81, 82, 83, 84, 85, 86, 87, 88, 89, 90, 91, 92, 93, 94, 95, 96, 97, 98, 99, 100, 101, 102, 103, 104] rfl (by decide +kernel)
set_option maxRecDepth 20000 in
theorem gu_X10_trial_X10_begins_186 : GoodIn uX10_trial (wsV RX10 186 RX10 yX10_begins uX10_begins) := goodIn_r _ [5, 6, 7, 4, 20, 19, 21, 22, 23, 4, 24, 25, 26, 27, 28, 29, 30, 31, 32, 33, 34, 35, 36, 37, 38, 39, 40, 41, 42, 43, 69, 70, 71, 72, 73, 74, 75, 76, 77, 78, 79, 80, 81, 82, 83, 84, 85, 86, 87, 88, 89, 90, 91, 92, 93, 94, 95, 96, 97, 98, 99, 100, 101, 102, 103, 104] rfl (by decide +kernel)
set_option maxRecDepth 20000 in
theorem gu_X10_trial_X10_reading_251 : GoodIn uX10_trial (wsV RX10 251 RX10 yX10_reading uX10_reading) := goodIn_r _ [8, 9, 10, 4, 44, 45, 19, 46, 69, 70, 71, 72, 73, 74, 75, 76, 77, 78, 79, 80, 81, 82, 83, 84, 85, 86, 87, 88, 89, 90, 91, 92, 93, 94, 95, 96, 97, 98, 99, 100, 101, 102, 103, 104] rfl (by decide +kernel)
set_option maxRecDepth 20000 in
theorem gu_X10_trial_X10_returns_277 : GoodIn uX10_trial (wsV RX10 277 RX10 yX10_returns uX10_returns) := goodIn_r _ [11, 12, 13, 4, 47, 19, 18, 69, 70, 71, 72, 73, 74, 75, 76, 77, 78, 79, 80, 81, 82, 83, 84, 85, 86, 87, 88, 89, 90, 91, 92, 93, 94, 95, 96, 97, 98, 99, 100, 101, 102, 103, 104] rfl (by decide +kernel)
set_option maxRecDepth 20000 in
theorem gu_X10_trial_X10_goes_231 : GoodIn uX10_trial (wsV RX10 231 RX10 yX10_goes uX10_goes) := goodIn_r _ [14, 15, 16, 4, 48, 19, 49, 50, 51, 52, 4, 53, 39, 40, 54, 55, 56, 41, 57, 37, 58, 59, 60, 61, 62, 63, 64, 65, 66, 67, 68, 34, 35, 36, 38, 69, 70, 71, 72, 73, 74, 75, 76, 77, 78, 79, 80, 81, 82, 83, 84, 85, 86, 87, 88, 89, 90, 91, 92, 93, 94, 95, 96, 97, 98, 99, 100, 101, 102, 103, 104] rfl (by decide +kernel)
set_option maxHeartbeats 4000000 in
set_option maxRecDepth 100000 in
theorem m_X10_trial (l : Launch) (D : va_G) (t : Nat → Nat) (cI cL cC : ClassId) (gC : Int32) (gE : Int32) (gW : Nat → Int32) (gA : Nat → Int32) (gT : Nat → Int32) (gI : Int32) (gS : Int32) (gM : Int32) (K : Nat → Int32) (F : Nat → Int32) (S : Nat → Int32) (N : Nat → Int32) (gH : Int) (gJ : Int) (ge : Int32) (gk : Int32) (gf : Int32) (gs : Int32) (gg : Int32) (gr : Int32) (RN : Nat → Int32) (a0 : Nat) (a1 : Int32) (a2 : Int32) (a3 : Int32) (a4 : Int32) (a5 : Int32) (M : Int) (uq : ∀ b c : Nat, t b = t c → t b ≠ 0 → b = c) (hMb : 40 * a1.toInt = M) (hM0 : 0 ≤ a1.toInt) (hM2 : a1.toInt ≤ 2) (hI0 : 0 ≤ gI.toInt) (hI4 : gI.toInt ≤ 40) (hO : okM K F S N M gI.toInt) (hH0 : 0 ≤ gH) (hH9 : gH ≤ 96) (hw0 : 0 ≤ a2.toInt) (hw1 : a2.toInt ≤ 1) (hk0 : 0 ≤ a4.toInt) (hk3 : a4.toInt ≤ 3) (hh0 : 0 ≤ a5.toInt) (hh5 : a5.toInt ≤ 95) (k_a0 : t a0 = 40) : tMx (Z := (Int) × (Int)) l yX10_trial uX10_trial 5 127 D (mF cI cL cC gC gE gW gA gT gI gS gM K F S N gH gJ ge gk gf gs gg gr RN) (fun z => (mF cI cL cC gC gE gW gA gT gI gS gM K F S N z.1 z.2 ge gk gf gs gg gr RN)) t cI cL cC [.ref a0, .int a1, .int a2, .int a3, .int a4, .int a5] wmj (xL (fun r (z : (Int) × (Int)) => z.1 = gH)) := by
  refine tMx.ofW (cc := cX10_trial) (maxL := 8) (ret := (some .long)) (by decide) rfl (Nat.le_of_ble_eq_true rfl) ?_
  intro p e s m below meth c hx hb hr hml hown hts hlk H locs hG hK hE hS ls hl
  have hl : lv_has ls 8 [(0, .ref a0), (1, .int a1), (2, .int a2), (3, .int a3), (4, .int a4), (5, .int a5)] := hl
  skip
  refine lv_aload_n hx hb dX10_trial_0 rfl (lv_at hl 0 rfl) ?_
  obtain ⟨r_1, v_3, r_4, r_6, r_8, r_10, r_12, r_14, r_16, r_18, r_20, r_22, r_24, r_26, r_28, r_30, r_32, r_34, r_36, r_38, r_40, r_42, r_44, v_46, r_47, at_49, h_2, h_5, h_7, h_9, h_11, h_13, h_15, h_17, h_19, h_21, h_23, h_25, h_27, h_29, h_31, h_33, h_35, h_37, h_39, h_41, h_43, h_45, h_48⟩ := mF_o40 hG k_a0
  refine tx_callv (W.runV (As := []) (rest := []) ⟨hx, hb, hml, hown, hts⟩ (m_X10_asides l D t cI cL cC gC gE gW gA gT gI gS gM K F S N gH gJ ge gk gf gs gg gr RN a0  uq  k_a0) (cwV 0 hts gu_X10_trial_X10_asides_274 rfl rfl rfl (by decide +kernel) ⟨Nat.le_of_ble_eq_true rfl, Nat.le_of_ble_eq_true rfl⟩) (tP_V hG hE at_49 rfl) rfl rfl hl.1 rfl (lv_room (Nat.le_of_ble_eq_true rfl)) dX10_trial_1 ⟨Nat.le_of_ble_eq_true rfl, Nat.le_of_ble_eq_true rfl⟩) hS (wrL_sub (by decide)) (fun gJ_54 H locs hp_51 hG hS o_52 => ?_)
  have at_49 := va_at.keptC at_49 o_52 k_a0 rfl
  replace hG : tG D (mF cI cL cC gC gE gW gA gT gI gS gM K F S N gH gJ_54 ge gk gf gs gg gr RN) t H := hG
  have hp_51 : gJ_54 = gH := hp_51
  have p_55 := hp_51
  refine lv_aload_n hx hb dX10_trial_4 rfl (lv_at hl 0 rfl) ?_
  refine lv_iload_n hx hb dX10_trial_5 rfl (lv_at hl 1 rfl) ?_
  refine lv_iload_n hx hb dX10_trial_6 rfl (lv_at hl 3 rfl) ?_
  refine tx_callv (W.runV (As := [.int a1, .int a3]) (rest := []) ⟨hx, hb, hml, hown, hts⟩ (m_X10_begins l D t cI cL cC gC gE gW gA gT gI gS gM K F S N gH gJ_54 ge gk gf gs gg gr RN a0 a1 a3 M uq (by omega) (by omega) (by omega) (by omega) (by omega) k_a0) (cwV 2 hts gu_X10_trial_X10_begins_186 rfl rfl rfl (by decide +kernel) ⟨Nat.le_of_ble_eq_true rfl, Nat.le_of_ble_eq_true rfl⟩) (tP_V hG hE at_49 rfl) rfl rfl hl.1 rfl (lv_room (Nat.le_of_ble_eq_true rfl)) dX10_trial_7 ⟨Nat.le_of_ble_eq_true rfl, Nat.le_of_ble_eq_true rfl⟩) hS (wrL_sub (by decide)) (fun gH_60 H locs hp_57 hG hS o_58 => ?_)
  have at_49 := va_at.keptC at_49 o_58 k_a0 rfl
  replace hG : tG D (mF cI cL cC gC gE gW gA gT gI gS gM K F S N gH_60 gJ_54 ge gk gf gs gg gr RN) t H := hG
  have hp_57 : gH_60 = 0 := hp_57
  have p_61 := hp_57
  refine lv_iconst (v := 0) hx hb dX10_trial_10 (by decide) ?_
  refine lv_pc (pc2 := 11) rfl ?_
  refine lv_istore (lv' := [(6, .int 0), (0, .ref a0), (1, .int a1), (2, .int a2), (3, .int a3), (4, .int a4), (5, .int a5)]) hx hb dX10_trial_11 hl (by decide) rfl (fun ls hl => ?_)
  refine lv_pc (pc2 := 13) rfl ?_
  refine lp_gen (fun WW62 hWW62 => ?_)
  have kx62 : ∀ (yh : Int32) (hm : Int) (H1 : Heap) (locs1 : List Loc) (ls1 : Array Slot), (0 ≤ yh.toInt) → (yh.toInt ≤ a5.toInt + 1) → (hm = yh.toInt) → tG D (mF cI cL cC gC gE gW gA gT gI gS gM K F S N hm gJ_54 ge gk gf gs gg gr RN) t H1 → tF t wmj s.heap H1 locs1 → lv_has ls1 8 [(6, .int yh), (0, .ref a0), (1, .int a1), (2, .int a2), (3, .int a3), (4, .int a4), (5, .int a5)] → WW62 H1 locs1 (F0 m 32 ls1 []) := by
    intro yh hm H locs ls v62_0 v62_1 v62_2 hG hS hl
    refine (hWW62 _ _ _).mpr ?_
    refine lv_aload_n hx hb dX10_trial_32 rfl (lv_at hl 1 rfl) ?_
    refine lv_iload hx hb dX10_trial_33 (lv_at hl 5 rfl) ?_
    obtain ⟨r_63, v_65, r_66, r_68, r_70, r_72, r_74, r_76, r_78, r_80, r_82, r_84, r_86, r_88, r_90, r_92, r_94, r_96, r_98, r_100, r_102, r_104, r_106, v_108, r_109, at_111, h_64, h_67, h_69, h_71, h_73, h_75, h_77, h_79, h_81, h_83, h_85, h_87, h_89, h_91, h_93, h_95, h_97, h_99, h_101, h_103, h_105, h_107, h_110⟩ := mF_o40 hG k_a0
    refine ty_calll (W.runV (As := [.int a4]) (rest := []) ⟨hx, hb, hml, hown, hts⟩ (m_X10_reading l D t cI cL cC gC gE gW gA gT gI gS gM K F S N hm gJ_54 ge gk gf gs gg gr RN a0 a4  uq (by omega) (by omega) k_a0) (cwV 1 hts gu_X10_trial_X10_reading_251 rfl rfl rfl (by decide +kernel) ⟨Nat.le_of_ble_eq_true rfl, Nat.le_of_ble_eq_true rfl⟩) (tP_V hG hE at_111 rfl) rfl rfl hl.1 rfl (lv_room (Nat.le_of_ble_eq_true rfl)) dX10_trial_35 ⟨Nat.le_of_ble_eq_true rfl, Nat.le_of_ble_eq_true rfl⟩) hS (fun k h => by simp [wr0] at h) (fun z_112 H locs hp_113 hG hS o_114 => ?_)
    have at_111 := va_at.keptC at_111 o_114 k_a0 rfl
    refine lv_lstore (lv' := [(6, .long z_112), (0, .ref a0), (1, .int a1), (2, .int a2), (3, .int a3), (4, .int a4), (5, .int a5)]) hx hb dX10_trial_38 hl (by decide) rfl (fun ls hl => ?_)
    refine lv_aload_n hx hb dX10_trial_40 rfl (lv_at hl 1 rfl) ?_
    refine tx_callv (W.runV (As := []) (rest := []) ⟨hx, hb, hml, hown, hts⟩ (m_X10_returns l D t cI cL cC gC gE gW gA gT gI gS gM K F S N hm gJ_54 ge gk gf gs gg gr RN a0  uq  k_a0) (cwV 0 hts gu_X10_trial_X10_returns_277 rfl rfl rfl (by decide +kernel) ⟨Nat.le_of_ble_eq_true rfl, Nat.le_of_ble_eq_true rfl⟩) (tP_V hG hE at_111 rfl) rfl rfl hl.1 rfl (lv_room (Nat.le_of_ble_eq_true rfl)) dX10_trial_41 ⟨Nat.le_of_ble_eq_true rfl, Nat.le_of_ble_eq_true rfl⟩) hS (wrL_sub (by decide)) (fun gH_120 H locs hp_117 hG hS o_118 => ?_)
    have at_111 := va_at.keptC at_111 o_118 k_a0 rfl
    replace hG : tG D (mF cI cL cC gC gE gW gA gT gI gS gM K F S N gH_120 gJ_54 ge gk gf gs gg gr RN) t H := hG
    have hp_117 : gH_120 = gJ_54 := hp_117
    have p_121 := hp_117
    refine lv_lload hx hb dX10_trial_44 (lv_at hl 0 rfl) ?_
    refine lv_pc (pc2 := 46) rfl ?_
    exact tx_lret (z := (gH_120, gJ_54)) hx hb hr hlk hG hS (by show gH_120 = gH; omega) dX10_trial_46
  have lp62 : ∀ (kk62 : Nat) (yh : Int32) (hm : Int) (H1 : Heap) (locs1 : List Loc) (ls1 : Array Slot), a5.toInt + 1 - yh.toInt ≤ (kk62 : Int) → (0 ≤ yh.toInt) → (yh.toInt ≤ a5.toInt + 1) → (hm = yh.toInt) → tG D (mF cI cL cC gC gE gW gA gT gI gS gM K F S N hm gJ_54 ge gk gf gs gg gr RN) t H1 → tF t wmj s.heap H1 locs1 → lv_has ls1 8 [(6, .int yh), (0, .ref a0), (1, .int a1), (2, .int a2), (3, .int a3), (4, .int a4), (5, .int a5)] → WW62 H1 locs1 (F0 m 13 ls1 []) := by
    intro kk62
    induction kk62 with
    | zero =>
      intro yh hm H locs ls hk62 v62_0 v62_1 v62_2 hG hS hl
      refine (hWW62 _ _ _).mpr ?_
      refine lv_iload hx hb dX10_trial_13 (lv_at hl 0 rfl) ?_
      refine lv_iload hx hb dX10_trial_15 (lv_at hl 6 rfl) ?_
      refine lv_icmp_gt (tgt := 32) hx hb dX10_trial_17 (by decide) (fun c_122 => ?_) (fun c_122 => ?_)
      · skip
        have c_122 : a5.toInt < yh.toInt := q_lt c_122
        exact (hWW62 _ _ _).mp (kx62 yh hm H locs ls v62_0 v62_1 v62_2 hG hS (lv_sub hl [0, 1, 2, 3, 4, 5, 6] rfl))
      · skip
        have c_122 : yh.toInt ≤ a5.toInt := q_nlt c_122
        exfalso; omega
    | succ kk62 ih62 =>
      intro yh hm H locs ls hk62 v62_0 v62_1 v62_2 hG hS hl
      refine (hWW62 _ _ _).mpr ?_
      refine lv_iload hx hb dX10_trial_13 (lv_at hl 0 rfl) ?_
      refine lv_iload hx hb dX10_trial_15 (lv_at hl 6 rfl) ?_
      refine lv_icmp_gt (tgt := 32) hx hb dX10_trial_17 (by decide) (fun c_123 => ?_) (fun c_123 => ?_)
      · skip
        have c_123 : a5.toInt < yh.toInt := q_lt c_123
        exact (hWW62 _ _ _).mp (kx62 yh hm H locs ls v62_0 v62_1 v62_2 hG hS (lv_sub hl [0, 1, 2, 3, 4, 5, 6] rfl))
      · skip
        have c_123 : yh.toInt ≤ a5.toInt := q_nlt c_123
        refine lv_aload_n hx hb dX10_trial_20 rfl (lv_at hl 1 rfl) ?_
        refine lv_pc (pc2 := 21) rfl ?_
        refine lv_iload_n hx hb dX10_trial_21 rfl (lv_at hl 2 rfl) ?_
        refine lv_iload_n hx hb dX10_trial_22 rfl (lv_at hl 3 rfl) ?_
        obtain ⟨r_124, v_126, r_127, r_129, r_131, r_133, r_135, r_137, r_139, r_141, r_143, r_145, r_147, r_149, r_151, r_153, r_155, r_157, r_159, r_161, r_163, r_165, r_167, v_169, r_170, at_172, h_125, h_128, h_130, h_132, h_134, h_136, h_138, h_140, h_142, h_144, h_146, h_148, h_150, h_152, h_154, h_156, h_158, h_160, h_162, h_164, h_166, h_168, h_171⟩ := mF_o40 hG k_a0
        refine tx_callv (W.runV (As := [.int a1, .int a2]) (rest := []) ⟨hx, hb, hml, hown, hts⟩ (m_X10_goes l D t cI cL cC gC gE gW gA gT gI gS gM K F S N hm gJ_54 ge gk gf gs gg gr RN a0 a1 a2 M uq (by omega) (by omega) (by omega) (by omega) (by omega) hO (by omega) (by omega) (by omega) (by omega) k_a0) (cwV 2 hts gu_X10_trial_X10_goes_231 rfl rfl rfl (by decide +kernel) ⟨Nat.le_of_ble_eq_true rfl, Nat.le_of_ble_eq_true rfl⟩) (tP_V hG hE at_172 rfl) rfl rfl hl.1 rfl (lv_room (Nat.le_of_ble_eq_true rfl)) dX10_trial_23 ⟨Nat.le_of_ble_eq_true rfl, Nat.le_of_ble_eq_true rfl⟩) hS (wrL_sub (by decide)) (fun gH_177 H locs hp_174 hG hS o_175 => ?_)
        have at_172 := va_at.keptC at_172 o_175 k_a0 rfl
        replace hG : tG D (mF cI cL cC gC gE gW gA gT gI gS gM K F S N gH_177 gJ_54 ge gk gf gs gg gr RN) t H := hG
        have hp_174 : gH_177 = hm + 1 := hp_174
        have p_178 := hp_174
        obtain ⟨x_179, e_180⟩ : ∃ y : Int32, y = yh + Int32.ofInt 1 := ⟨_, rfl⟩
        have i_x_179 : x_179.toInt = yh.toInt + 1 := by rw [e_180, show Int32.ofInt 1 = 1 by decide]; exact (q_add (by rw [show (1 : Int32).toInt = 1 by decide]; omega) (by rw [show (1 : Int32).toInt = 1 by decide]; omega)).trans (by rw [show (1 : Int32).toInt = 1 by decide])
        refine lv_iinc (v := x_179) (lv' := [(6, .int x_179), (0, .ref a0), (1, .int a1), (2, .int a2), (3, .int a3), (4, .int a4), (5, .int a5)]) hx hb dX10_trial_26 hl (k := 0) rfl e_180.symm (by decide) rfl (fun ls hl => ?_)
        refine lv_goto (tgt := 13) hx hb dX10_trial_29 (by decide) ?_
        exact (hWW62 _ _ _).mp (ih62 x_179 gH_177 H locs ls (by omega) (by omega) (by omega) (by omega) hG hS (lv_sub hl [0, 1, 2, 3, 4, 5, 6] rfl))
  have zi_0 : (0 : Int32).toInt = 0 := by decide
  exact lp62 (a5.toInt + 1 - (0 : Int32).toInt : Int).toNat 0 gH_60 H locs ls (by omega) (by omega) (by omega) (by omega) hG hS (lv_sub hl [0, 1, 2, 3, 4, 5, 6] rfl)

def uX10_blame : List Cond := .code yX10_blame cX10_blame 12 (some .long) :: ([.constantLong RX10 243 (3), .methodLink RX10 85 yX10_in, .static yX10_in, .initialized RX10, .constantLong RX10 198 (95), .methodLink RX10 248 yX10_isSet, .instanceMethod yX10_isSet, .selects RX10 yX10_isSet yX10_isSet, .methodLink RX10 317 yX10_trial, .instanceMethod yX10_trial, .selects RX10 yX10_trial yX10_trial, .fieldLink RX10 177 "RiverModelModel" "isSwapped" "Z", .constantLong RX10 315 (-1000000000000000001), .constantLong RX10 313 (-1000000000000000000), .code yX10_in cX10_in 6 (some .boolean), .code yX10_isSet cX10_isSet 2 (some .boolean), .fieldLink RX10 173 "RiverModelModel" "isBuilt" "Z", .fieldLink RX10 38 "RiverModelModel" "gaugeKind" "[I", .code yX10_trial cX10_trial 8 (some .long), .methodLink RX10 274 yX10_asides, .instanceMethod yX10_asides, .selects RX10 yX10_asides yX10_asides, .methodLink RX10 186 yX10_begins, .instanceMethod yX10_begins, .selects RX10 yX10_begins yX10_begins, .methodLink RX10 251 yX10_reading, .instanceMethod yX10_reading, .selects RX10 yX10_reading yX10_reading, .methodLink RX10 277 yX10_returns, .instanceMethod yX10_returns, .selects RX10 yX10_returns yX10_returns, .methodLink RX10 231 yX10_goes, .instanceMethod yX10_goes, .selects RX10 yX10_goes yX10_goes, .code yX10_asides cX10_asides 2 none, .fieldLink RX10 32 "RiverModelModel" "aside" "[J", .fieldLink RX10 28 "RiverModelModel" "m" "[J", .code yX10_begins cX10_begins 4 none, .methodLink RX10 183 yX10_startOf, .instanceMethod yX10_startOf, .selects RX10 yX10_startOf yX10_startOf, .methodLink RX10 208 yX10_isStore, .instanceMethod yX10_isStore, .selects RX10 yX10_isStore yX10_isStore, .fieldLink RX10 71 "RiverModelModel" "startB" "[I", .constantLong RX10 204 (224), .constantLong RX10 206 (227), .constantLong RX10 196 (5), .code yX10_startOf cX10_startOf 4 (some .int), .methodLink RX10 166 yX10_storeAt, .instanceMethod yX10_storeAt, .selects RX10 yX10_storeAt yX10_storeAt, .fieldLink RX10 22 "RiverModelModel" "number" "[I", .code yX10_storeAt cX10_storeAt 5 (some .int), .fieldLink RX10 163 "RiverModelModel" "items" "I", .fieldLink RX10 13 "RiverModelModel" "kind" "[I", .fieldLink RX10 16 "RiverModelModel" "first" "[I", .code yX10_isStore cX10_isStore 2 (some .boolean), .code yX10_reading cX10_reading 2 (some .long), .fieldLink RX10 41 "RiverModelModel" "gaugeAt" "[I", .code yX10_returns cX10_returns 2 none, .code yX10_goes cX10_goes 4 none, .fieldLink RX10 25 "RiverModelModel" "weather" "[I", .methodLink RX10 225 yX10_passes, .instanceMethod yX10_passes, .selects RX10 yX10_passes yX10_passes, .code yX10_passes cX10_passes 12 none, .methodLink RX10 221 yX10_moves, .instanceMethod yX10_moves, .selects RX10 yX10_moves yX10_moves, .fieldLink RX10 19 "RiverModelModel" "second" "[I", .code yX10_moves cX10_moves 8 (some .long), .constantLong RX10 219 (10), .methodLink RX10 215 yX10_most, .instanceMethod yX10_most, .selects RX10 yX10_most yX10_most, .constantLong RX10 107 (100), .methodLink RX10 211 yX10_capacity, .instanceMethod yX10_capacity, .selects RX10 yX10_capacity yX10_capacity, .code yX10_most cX10_most 4 (some .long), .code yX10_capacity cX10_capacity 3 (some .long)] ++ wsX100)
set_option maxRecDepth 20000 in
theorem gu_X10_blame_X10_in_85 : GoodIn uX10_blame (va_wsS RX10 85 yX10_in uX10_in) := goodIn_r _ [2, 3, 4, 15] rfl (by decide +kernel)
set_option maxRecDepth 20000 in
theorem gu_X10_blame_X10_isSet_248 : GoodIn uX10_blame (wsV RX10 248 RX10 yX10_isSet uX10_isSet) := goodIn_r _ [6, 7, 8, 4, 16, 17, 18, 83, 84, 85, 86, 87, 88, 89, 90, 91, 92, 93, 94, 95, 96, 97, 98, 99, 100, 101, 102, 103, 104, 105, 106, 107, 108, 109, 110, 111, 112, 113, 114, 115, 116, 117, 118] rfl (by decide +kernel)
set_option maxRecDepth 20000 in
theorem gu_X10_blame_X10_trial_317 : GoodIn uX10_blame (wsV RX10 317 RX10 yX10_trial uX10_trial) := goodIn_r _ [9, 10, 11, 4, 19, 20, 21, 22, 4, 23, 24, 25, 26, 27, 28, 29, 30, 31, 32, 33, 34, 35, 36, 37, 38, 39, 40, 41, 42, 43, 44, 45, 46, 47, 2, 3, 48, 49, 50, 51, 52, 53, 54, 55, 56, 57, 58, 15, 59, 18, 60, 61, 62, 63, 64, 65, 66, 67, 68, 69, 70, 71, 72, 73, 74, 75, 76, 77, 78, 79, 80, 81, 82, 83, 84, 85, 86, 87, 88, 89, 90, 91, 92, 93, 94, 95, 96, 97, 98, 99, 100, 101, 102, 103, 104, 105, 106, 107, 108, 109, 110, 111, 112, 113, 114, 115, 116, 117, 118] rfl (by decide +kernel)
set_option maxHeartbeats 4000000 in
set_option maxRecDepth 100000 in
theorem m_X10_blame (l : Launch) (D : va_G) (t : Nat → Nat) (cI cL cC : ClassId) (gC : Int32) (gE : Int32) (gW : Nat → Int32) (gA : Nat → Int32) (gT : Nat → Int32) (gI : Int32) (gS : Int32) (gM : Int32) (K : Nat → Int32) (F : Nat → Int32) (S : Nat → Int32) (N : Nat → Int32) (gH : Int) (gJ : Int) (ge : Int32) (gk : Int32) (gf : Int32) (gs : Int32) (gg : Int32) (gr : Int32) (RN : Nat → Int32) (a0 : Nat) (a1 : Int32) (a2 : Int32) (a3 : Int32) (uq : ∀ b c : Nat, t b = t c → t b ≠ 0 → b = c) (hC0 : 0 ≤ gC.toInt) (hC4 : gC.toInt ≤ 400) (hI0 : 0 ≤ gI.toInt) (hI4 : gI.toInt ≤ 40) (hH0 : 0 ≤ gH) (hH9 : gH ≤ 96) (hm0 : 0 ≤ gM.toInt) (hm3 : gM.toInt ≤ 3) (hO0 : okM K F S N 0 gI.toInt) (hW : swM gS K F S N gI.toInt) (k_a0 : t a0 = 40) : tMx (Z := (Int) × (Int)) l yX10_blame uX10_blame 6 154 D (mF cI cL cC gC gE gW gA gT gI gS gM K F S N gH gJ ge gk gf gs gg gr RN) (fun z => (mF cI cL cC gC gE gW gA gT gI gS gM K F S N z.1 z.2 ge gk gf gs gg gr RN)) t cI cL cC [.ref a0, .int a1, .int a2, .int a3] wmj (xL (fun r (z : (Int) × (Int)) => 0 ≤ z.1 ∧ z.1 ≤ 96)) := by
  refine tMx.ofW (cc := cX10_blame) (maxL := 12) (ret := (some .long)) (by decide) rfl (Nat.le_of_ble_eq_true rfl) ?_
  intro p e s m below meth c hx hb hr hml hown hts hlk H locs hG hK hE hS ls hl
  have hl : lv_has ls 12 [(0, .ref a0), (1, .int a1), (2, .int a2), (3, .int a3)] := hl
  have in10 : ∀ w ∈ wsX100, w ∈ uX10_blame := fun w h => List.mem_cons_of_mem _ (List.mem_append_right _ h)
  refine lv_iload_n hx hb dX10_blame_0 rfl (lv_at hl 1 rfl) ?_
  refine lv_i2l (v := a1.toInt64) hx hb dX10_blame_1 rfl ?_
  refine lv_lconst (v := 0) hx hb dX10_blame_2 (by decide) ?_
  refine lv_ldc2 hx hb hown (hts (.constantLong RX10 243 (3)) (List.mem_of_getElem? (i := 1) rfl)) dX10_blame_3 ?_
  have zl_0 : (0 : Int64).toInt = 0 := by decide
  have zl_3 : (3 : Int64).toInt = 3 := by decide
  refine ty_calli (W.runS (As := [.long a1.toInt64, .long 0, .long 3]) (rest := []) ⟨hx, hb, hml, hown, hts⟩ (m_X10_in l D t cI cL cC gC gE gW gA gT gI gS gM K F S N gH gJ ge gk gf gs gg gr RN a1.toInt64 0 3 a1.toInt 0 3 uq (q_i2l _) (by decide) (by decide) ) (va_cwS 3 hts gu_X10_blame_X10_in_85 rfl rfl rfl (by decide +kernel) ⟨Nat.le_of_ble_eq_true rfl, Nat.le_of_ble_eq_true rfl⟩) (tP_S hG hE) rfl rfl hl.1 rfl (lv_room (Nat.le_of_ble_eq_true rfl)) dX10_blame_6 ⟨Nat.le_of_ble_eq_true rfl, Nat.le_of_ble_eq_true rfl⟩) hS (fun k h => by simp [wr0] at h) (fun r_1 H locs hp_2 hG hS o_3 => ?_)
  have hp_2 : (r_1 = 1 ∧ 0 ≤ a1.toInt ∧ a1.toInt ≤ 3) ∨ (r_1 = 0 ∧ (a1.toInt < 0 ∨ 3 < a1.toInt)) := hp_2
  rcases hp_2 with ⟨rfl, p_5, p_6⟩ | ⟨rfl, p_7⟩
  · skip
    refine lv_if_eq (tgt := 36) hx hb dX10_blame_9 (by decide) (fun q => absurd q (by decide)) (fun _ => ?_)
    refine lv_iload_n hx hb dX10_blame_12 rfl (lv_at hl 2 rfl) ?_
    refine lv_pc (pc2 := 13) rfl ?_
    refine lv_i2l (v := a2.toInt64) hx hb dX10_blame_13 rfl ?_
    refine lv_lconst (v := 0) hx hb dX10_blame_14 (by decide) ?_
    refine lv_ldc2 hx hb hown (hts (.constantLong RX10 198 (95)) (List.mem_of_getElem? (i := 5) rfl)) dX10_blame_15 ?_
    have zl_95 : (95 : Int64).toInt = 95 := by decide
    refine ty_calli (W.runS (As := [.long a2.toInt64, .long 0, .long 95]) (rest := []) ⟨hx, hb, hml, hown, hts⟩ (m_X10_in l D t cI cL cC gC gE gW gA gT gI gS gM K F S N gH gJ ge gk gf gs gg gr RN a2.toInt64 0 95 a2.toInt 0 95 uq (q_i2l _) (by decide) (by decide) ) (va_cwS 3 hts gu_X10_blame_X10_in_85 rfl rfl rfl (by decide +kernel) ⟨Nat.le_of_ble_eq_true rfl, Nat.le_of_ble_eq_true rfl⟩) (tP_S hG hE) rfl rfl hl.1 rfl (lv_room (Nat.le_of_ble_eq_true rfl)) dX10_blame_18 ⟨Nat.le_of_ble_eq_true rfl, Nat.le_of_ble_eq_true rfl⟩) hS (fun k h => by simp [wr0] at h) (fun r_8 H locs hp_9 hG hS o_10 => ?_)
    have hp_9 : (r_8 = 1 ∧ 0 ≤ a2.toInt ∧ a2.toInt ≤ 95) ∨ (r_8 = 0 ∧ (a2.toInt < 0 ∨ 95 < a2.toInt)) := hp_9
    rcases hp_9 with ⟨rfl, p_12, p_13⟩ | ⟨rfl, p_14⟩
    · skip
      refine lv_if_eq (tgt := 36) hx hb dX10_blame_21 (by decide) (fun q => absurd q (by decide)) (fun _ => ?_)
      refine lv_iload_n hx hb dX10_blame_24 rfl (lv_at hl 3 rfl) ?_
      refine lv_i2l (v := a3.toInt64) hx hb dX10_blame_25 rfl ?_
      refine lv_lconst (v := 0) hx hb dX10_blame_26 (by decide) ?_
      refine lv_pc (pc2 := 27) rfl ?_
      refine lv_ldc2 hx hb hown (hts (.constantLong RX10 243 (3)) (List.mem_of_getElem? (i := 1) rfl)) dX10_blame_27 ?_
      refine ty_calli (W.runS (As := [.long a3.toInt64, .long 0, .long 3]) (rest := []) ⟨hx, hb, hml, hown, hts⟩ (m_X10_in l D t cI cL cC gC gE gW gA gT gI gS gM K F S N gH gJ ge gk gf gs gg gr RN a3.toInt64 0 3 a3.toInt 0 3 uq (q_i2l _) (by decide) (by decide) ) (va_cwS 3 hts gu_X10_blame_X10_in_85 rfl rfl rfl (by decide +kernel) ⟨Nat.le_of_ble_eq_true rfl, Nat.le_of_ble_eq_true rfl⟩) (tP_S hG hE) rfl rfl hl.1 rfl (lv_room (Nat.le_of_ble_eq_true rfl)) dX10_blame_30 ⟨Nat.le_of_ble_eq_true rfl, Nat.le_of_ble_eq_true rfl⟩) hS (fun k h => by simp [wr0] at h) (fun r_15 H locs hp_16 hG hS o_17 => ?_)
      have hp_16 : (r_15 = 1 ∧ 0 ≤ a3.toInt ∧ a3.toInt ≤ 3) ∨ (r_15 = 0 ∧ (a3.toInt < 0 ∨ 3 < a3.toInt)) := hp_16
      rcases hp_16 with ⟨rfl, p_19, p_20⟩ | ⟨rfl, p_21⟩
      · skip
        refine lv_if_ne (tgt := 40) hx hb dX10_blame_33 (by decide) (fun _ => ?_) (fun q => absurd q (by decide))
        refine lv_aload_n hx hb dX10_blame_40 rfl (lv_at hl 0 rfl) ?_
        refine lv_iload_n hx hb dX10_blame_41 rfl (lv_at hl 1 rfl) ?_
        obtain ⟨r_22, v_24, r_25, r_27, r_29, r_31, r_33, r_35, r_37, r_39, r_41, r_43, r_45, r_47, r_49, r_51, r_53, r_55, r_57, r_59, r_61, r_63, r_65, v_67, r_68, at_70, h_23, h_26, h_28, h_30, h_32, h_34, h_36, h_38, h_40, h_42, h_44, h_46, h_48, h_50, h_52, h_54, h_56, h_58, h_60, h_62, h_64, h_66, h_69⟩ := mF_o40 hG k_a0
        refine ty_calli (W.runV (As := [.int a1]) (rest := []) ⟨hx, hb, hml, hown, hts⟩ (m_X10_isSet l D t cI cL cC gC gE gW gA gT gI gS gM K F S N gH gJ ge gk gf gs gg gr RN a0 a1  uq (by omega) (by omega) k_a0) (cwV 1 hts gu_X10_blame_X10_isSet_248 rfl rfl rfl (by decide +kernel) ⟨Nat.le_of_ble_eq_true rfl, Nat.le_of_ble_eq_true rfl⟩) (tP_V hG hE at_70 rfl) rfl rfl hl.1 rfl (lv_room (Nat.le_of_ble_eq_true rfl)) dX10_blame_42 ⟨Nat.le_of_ble_eq_true rfl, Nat.le_of_ble_eq_true rfl⟩) hS (fun k h => by simp [wr0] at h) (fun r_71 H locs hp_72 hG hS o_73 => ?_)
        have at_70 := va_at.keptC at_70 o_73 k_a0 rfl
        have hp_72 : (r_71 = 1) ∨ (r_71 = 0) := hp_72
        rcases hp_72 with rfl | rfl
        · skip
          refine lv_if_ne (tgt := 52) hx hb dX10_blame_45 (by decide) (fun _ => ?_) (fun q => absurd q (by decide))
          refine lv_aload_n hx hb dX10_blame_52 rfl (lv_at hl 0 rfl) ?_
          refine lv_pc (pc2 := 53) rfl ?_
          refine lv_iconst (v := 0) hx hb dX10_blame_53 (by decide) ?_
          refine lv_iconst (v := 0) hx hb dX10_blame_54 (by decide) ?_
          refine lv_iconst (v := 0) hx hb dX10_blame_55 (by decide) ?_
          refine lv_iload_n hx hb dX10_blame_56 rfl (lv_at hl 1 rfl) ?_
          refine lv_iload_n hx hb dX10_blame_57 rfl (lv_at hl 2 rfl) ?_
          have zi_0 : (0 : Int32).toInt = 0 := by decide
          refine tx_calll (W.runV (As := [.int 0, .int 0, .int 0, .int a1, .int a2]) (rest := []) ⟨hx, hb, hml, hown, hts⟩ (m_X10_trial l D t cI cL cC gC gE gW gA gT gI gS gM K F S N gH gJ ge gk gf gs gg gr RN a0 0 0 0 a1 a2 0 uq (by omega) (by omega) (by omega) (by omega) (by omega) hO0 (by omega) (by omega) (by omega) (by omega) (by omega) (by omega) (by omega) (by omega) k_a0) (cwV 5 hts gu_X10_blame_X10_trial_317 rfl rfl rfl (by decide +kernel) ⟨Nat.le_of_ble_eq_true rfl, Nat.le_of_ble_eq_true rfl⟩) (tP_V hG hE at_70 rfl) rfl rfl hl.1 rfl (lv_room (Nat.le_of_ble_eq_true rfl)) dX10_blame_58 ⟨Nat.le_of_ble_eq_true rfl, Nat.le_of_ble_eq_true rfl⟩) hS (fun _ h => h) (fun z_75 zz_78 H locs hp_76 hG hS o_77 => ?_)
          obtain ⟨gH_79, gJ_80⟩ := zz_78
          have at_70 := va_at.keptC at_70 o_77 k_a0 rfl
          replace hG : tG D (mF cI cL cC gC gE gW gA gT gI gS gM K F S N gH_79 gJ_80 ge gk gf gs gg gr RN) t H := hG
          have hp_76 : gH_79 = gH := hp_76
          have p_81 := hp_76
          refine lv_lstore (lv' := [(4, .long z_75), (0, .ref a0), (1, .int a1), (2, .int a2), (3, .int a3)]) hx hb dX10_blame_61 hl (by decide) rfl (fun ls hl => ?_)
          refine lv_aload_n hx hb dX10_blame_63 rfl (lv_at hl 1 rfl) ?_
          refine lv_pc (pc2 := 64) rfl ?_
          refine lv_iconst (v := 0) hx hb dX10_blame_64 (by decide) ?_
          refine lv_iconst (v := 1) hx hb dX10_blame_65 (by decide) ?_
          refine lv_iconst (v := 0) hx hb dX10_blame_66 (by decide) ?_
          refine lv_iload_n hx hb dX10_blame_67 rfl (lv_at hl 2 rfl) ?_
          refine lv_iload_n hx hb dX10_blame_68 rfl (lv_at hl 3 rfl) ?_
          have zi_1 : (1 : Int32).toInt = 1 := by decide
          refine tx_calll (W.runV (As := [.int 0, .int 1, .int 0, .int a1, .int a2]) (rest := []) ⟨hx, hb, hml, hown, hts⟩ (m_X10_trial l D t cI cL cC gC gE gW gA gT gI gS gM K F S N gH_79 gJ_80 ge gk gf gs gg gr RN a0 0 1 0 a1 a2 0 uq (by omega) (by omega) (by omega) (by omega) (by omega) hO0 (by omega) (by omega) (by omega) (by omega) (by omega) (by omega) (by omega) (by omega) k_a0) (cwV 5 hts gu_X10_blame_X10_trial_317 rfl rfl rfl (by decide +kernel) ⟨Nat.le_of_ble_eq_true rfl, Nat.le_of_ble_eq_true rfl⟩) (tP_V hG hE at_70 rfl) rfl rfl hl.1 rfl (lv_room (Nat.le_of_ble_eq_true rfl)) dX10_blame_69 ⟨Nat.le_of_ble_eq_true rfl, Nat.le_of_ble_eq_true rfl⟩) hS (fun _ h => h) (fun z_82 zz_85 H locs hp_83 hG hS o_84 => ?_)
          obtain ⟨gH_86, gJ_87⟩ := zz_85
          have at_70 := va_at.keptC at_70 o_84 k_a0 rfl
          replace hG : tG D (mF cI cL cC gC gE gW gA gT gI gS gM K F S N gH_86 gJ_87 ge gk gf gs gg gr RN) t H := hG
          have hp_83 : gH_86 = gH_79 := hp_83
          have p_88 := hp_83
          refine lv_lstore (lv' := [(6, .long z_82), (4, .long z_75), (0, .ref a0), (1, .int a1), (2, .int a2), (3, .int a3)]) hx hb dX10_blame_72 hl (by decide) rfl (fun ls hl => ?_)
          refine lv_aload_n hx hb dX10_blame_74 rfl (lv_at hl 2 rfl) ?_
          refine lv_pc (pc2 := 75) rfl ?_
          refine lv_iconst (v := 0) hx hb dX10_blame_75 (by decide) ?_
          refine lv_iconst (v := 1) hx hb dX10_blame_76 (by decide) ?_
          refine lv_iconst (v := 1) hx hb dX10_blame_77 (by decide) ?_
          refine lv_iload_n hx hb dX10_blame_78 rfl (lv_at hl 3 rfl) ?_
          refine lv_iload_n hx hb dX10_blame_79 rfl (lv_at hl 4 rfl) ?_
          refine tx_calll (W.runV (As := [.int 0, .int 1, .int 1, .int a1, .int a2]) (rest := []) ⟨hx, hb, hml, hown, hts⟩ (m_X10_trial l D t cI cL cC gC gE gW gA gT gI gS gM K F S N gH_86 gJ_87 ge gk gf gs gg gr RN a0 0 1 1 a1 a2 0 uq (by omega) (by omega) (by omega) (by omega) (by omega) hO0 (by omega) (by omega) (by omega) (by omega) (by omega) (by omega) (by omega) (by omega) k_a0) (cwV 5 hts gu_X10_blame_X10_trial_317 rfl rfl rfl (by decide +kernel) ⟨Nat.le_of_ble_eq_true rfl, Nat.le_of_ble_eq_true rfl⟩) (tP_V hG hE at_70 rfl) rfl rfl hl.1 rfl (lv_room (Nat.le_of_ble_eq_true rfl)) dX10_blame_80 ⟨Nat.le_of_ble_eq_true rfl, Nat.le_of_ble_eq_true rfl⟩) hS (fun _ h => h) (fun z_89 zz_92 H locs hp_90 hG hS o_91 => ?_)
          obtain ⟨gH_93, gJ_94⟩ := zz_92
          have at_70 := va_at.keptC at_70 o_91 k_a0 rfl
          replace hG : tG D (mF cI cL cC gC gE gW gA gT gI gS gM K F S N gH_93 gJ_94 ge gk gf gs gg gr RN) t H := hG
          have hp_90 : gH_93 = gH_86 := hp_90
          have p_95 := hp_90
          refine lv_lstore (lv' := [(8, .long z_89), (6, .long z_82), (4, .long z_75), (0, .ref a0), (1, .int a1), (2, .int a2), (3, .int a3)]) hx hb dX10_blame_83 hl (by decide) rfl (fun ls hl => ?_)
          refine lv_aload_n hx hb dX10_blame_85 rfl (lv_at hl 3 rfl) ?_
          refine lv_pc (pc2 := 86) rfl ?_
          refine va_get (D := D) (ci := 9) (v := .int gS) (C := RX10) (T := TX10) (N := 36) hx hb hts in10 hown hK (va_one at_70) 0 rfl rfl 8 (by decide) (hts (.fieldLink RX10 177 "RiverModelModel" "isSwapped" "Z") (List.mem_of_getElem? (i := 12) rfl)) (fun _ h9 => h9) rfl dX10_blame_86 ?_
          refine lv_if_eq (tgt := 104) hx hb dX10_blame_89 (by decide) (fun c_96 => ?_) (fun c_96 => ?_)
          · skip
            have c_96 : gS.toInt = 0 := q_eq c_96
            refine lv_lload hx hb dX10_blame_104 (lv_at hl 0 rfl) ?_
            refine lv_lstore (lv' := [(10, .long z_89), (8, .long z_89), (6, .long z_82), (4, .long z_75), (0, .ref a0), (1, .int a1), (2, .int a2), (3, .int a3)]) hx hb dX10_blame_106 hl (by decide) rfl (fun ls hl => ?_)
            refine lv_iload_n hx hb dX10_blame_108 rfl (lv_at hl 7 rfl) ?_
            refine lv_if_ne (tgt := 120) hx hb dX10_blame_109 (by decide) (fun c_97 => ?_) (fun c_97 => ?_)
            · skip
              have c_97 : a3.toInt ≠ 0 := q_ne c_97
              refine lv_iload_n hx hb dX10_blame_120 rfl (lv_at hl 7 rfl) ?_
              refine lv_iconst (v := 1) hx hb dX10_blame_121 (by decide) ?_
              refine lv_pc (pc2 := 122) rfl ?_
              refine lv_icmp_ne (tgt := 133) hx hb dX10_blame_122 (by decide) (fun c_98 => ?_) (fun c_98 => ?_)
              · skip
                have c_98 : a3.toInt ≠ 1 := q_ne c_98
                refine lv_iload_n hx hb dX10_blame_133 rfl (lv_at hl 7 rfl) ?_
                refine lv_iconst (v := 2) hx hb dX10_blame_134 (by decide) ?_
                refine lv_icmp_ne (tgt := 146) hx hb dX10_blame_135 (by decide) (fun c_99 => ?_) (fun c_99 => ?_)
                · skip
                  have c_99 : a3.toInt ≠ 2 := q_ne c_99
                  refine lv_lload hx hb dX10_blame_146 (lv_at hl 0 rfl) ?_
                  refine lv_lload hx hb dX10_blame_148 (lv_at hl 3 rfl) ?_
                  refine lv_lsub hx hb dX10_blame_150 ?_
                  refine lv_topl (fun z_100 e_101 => ?_)
                  exact tx_lret (z := (gH_93, gJ_94)) hx hb hr hlk hG hS ⟨(by show 0 ≤ gH_93; omega), (by show gH_93 ≤ 96; omega)⟩ dX10_blame_151
                · skip
                  have c_99 : a3.toInt = 2 := q_eq c_99
                  refine lv_pc (pc2 := 138) rfl ?_
                  refine lv_lload hx hb dX10_blame_138 (lv_at hl 0 rfl) ?_
                  refine lv_lload hx hb dX10_blame_140 (lv_at hl 1 rfl) ?_
                  refine lv_lsub hx hb dX10_blame_142 ?_
                  refine lv_topl (fun z_102 e_103 => ?_)
                  refine lv_goto (tgt := 151) hx hb dX10_blame_143 (by decide) ?_
                  exact tx_lret (z := (gH_93, gJ_94)) hx hb hr hlk hG hS ⟨(by show 0 ≤ gH_93; omega), (by show gH_93 ≤ 96; omega)⟩ dX10_blame_151
              · skip
                have c_98 : a3.toInt = 1 := q_eq c_98
                refine lv_lload hx hb dX10_blame_125 (lv_at hl 1 rfl) ?_
                refine lv_lload hx hb dX10_blame_127 (lv_at hl 2 rfl) ?_
                refine lv_lsub hx hb dX10_blame_129 ?_
                refine lv_topl (fun z_104 e_105 => ?_)
                refine lv_pc (pc2 := 130) rfl ?_
                refine lv_goto (tgt := 151) hx hb dX10_blame_130 (by decide) ?_
                exact tx_lret (z := (gH_93, gJ_94)) hx hb hr hlk hG hS ⟨(by show 0 ≤ gH_93; omega), (by show gH_93 ≤ 96; omega)⟩ dX10_blame_151
            · skip
              have c_97 : a3.toInt = 0 := q_eq c_97
              refine lv_lload hx hb dX10_blame_112 (lv_at hl 2 rfl) ?_
              refine lv_lload hx hb dX10_blame_114 (lv_at hl 3 rfl) ?_
              refine lv_lsub hx hb dX10_blame_116 ?_
              refine lv_topl (fun z_106 e_107 => ?_)
              refine lv_goto (tgt := 151) hx hb dX10_blame_117 (by decide) ?_
              exact tx_lret (z := (gH_93, gJ_94)) hx hb hr hlk hG hS ⟨(by show 0 ≤ gH_93; omega), (by show gH_93 ≤ 96; omega)⟩ dX10_blame_151
          · skip
            have c_96 : gS.toInt ≠ 0 := q_ne c_96
            have okS := Or.resolve_left hW (by omega)
            refine lv_aload_n hx hb dX10_blame_92 rfl (lv_at hl 3 rfl) ?_
            refine lv_pc (pc2 := 93) rfl ?_
            refine lv_iconst (v := 2) hx hb dX10_blame_93 (by decide) ?_
            refine lv_iconst (v := 1) hx hb dX10_blame_94 (by decide) ?_
            refine lv_iconst (v := 1) hx hb dX10_blame_95 (by decide) ?_
            refine lv_iload_n hx hb dX10_blame_96 rfl (lv_at hl 4 rfl) ?_
            refine lv_iload_n hx hb dX10_blame_97 rfl (lv_at hl 5 rfl) ?_
            have zi_2 : (2 : Int32).toInt = 2 := by decide
            refine tx_calll (W.runV (As := [.int 2, .int 1, .int 1, .int a1, .int a2]) (rest := []) ⟨hx, hb, hml, hown, hts⟩ (m_X10_trial l D t cI cL cC gC gE gW gA gT gI gS gM K F S N gH_93 gJ_94 ge gk gf gs gg gr RN a0 2 1 1 a1 a2 80 uq (by omega) (by omega) (by omega) (by omega) (by omega) okS (by omega) (by omega) (by omega) (by omega) (by omega) (by omega) (by omega) (by omega) k_a0) (cwV 5 hts gu_X10_blame_X10_trial_317 rfl rfl rfl (by decide +kernel) ⟨Nat.le_of_ble_eq_true rfl, Nat.le_of_ble_eq_true rfl⟩) (tP_V hG hE at_70 rfl) rfl rfl hl.1 rfl (lv_room (Nat.le_of_ble_eq_true rfl)) dX10_blame_98 ⟨Nat.le_of_ble_eq_true rfl, Nat.le_of_ble_eq_true rfl⟩) hS (fun _ h => h) (fun z_108 zz_111 H locs hp_109 hG hS o_110 => ?_)
            obtain ⟨gH_112, gJ_113⟩ := zz_111
            have at_70 := va_at.keptC at_70 o_110 k_a0 rfl
            replace hG : tG D (mF cI cL cC gC gE gW gA gT gI gS gM K F S N gH_112 gJ_113 ge gk gf gs gg gr RN) t H := hG
            have hp_109 : gH_112 = gH_93 := hp_109
            have p_114 := hp_109
            refine lv_goto (tgt := 106) hx hb dX10_blame_101 (by decide) ?_
            refine lv_lstore (lv' := [(10, .long z_108), (8, .long z_89), (6, .long z_82), (4, .long z_75), (0, .ref a0), (1, .int a1), (2, .int a2), (3, .int a3)]) hx hb dX10_blame_106 hl (by decide) rfl (fun ls hl => ?_)
            refine lv_pc (pc2 := 108) rfl ?_
            refine lv_iload_n hx hb dX10_blame_108 rfl (lv_at hl 7 rfl) ?_
            refine lv_if_ne (tgt := 120) hx hb dX10_blame_109 (by decide) (fun c_115 => ?_) (fun c_115 => ?_)
            · skip
              have c_115 : a3.toInt ≠ 0 := q_ne c_115
              refine lv_iload_n hx hb dX10_blame_120 rfl (lv_at hl 7 rfl) ?_
              refine lv_iconst (v := 1) hx hb dX10_blame_121 (by decide) ?_
              refine lv_icmp_ne (tgt := 133) hx hb dX10_blame_122 (by decide) (fun c_116 => ?_) (fun c_116 => ?_)
              · skip
                have c_116 : a3.toInt ≠ 1 := q_ne c_116
                refine lv_iload_n hx hb dX10_blame_133 rfl (lv_at hl 7 rfl) ?_
                refine lv_iconst (v := 2) hx hb dX10_blame_134 (by decide) ?_
                refine lv_icmp_ne (tgt := 146) hx hb dX10_blame_135 (by decide) (fun c_117 => ?_) (fun c_117 => ?_)
                · skip
                  have c_117 : a3.toInt ≠ 2 := q_ne c_117
                  refine lv_pc (pc2 := 146) rfl ?_
                  refine lv_lload hx hb dX10_blame_146 (lv_at hl 0 rfl) ?_
                  refine lv_lload hx hb dX10_blame_148 (lv_at hl 3 rfl) ?_
                  refine lv_lsub hx hb dX10_blame_150 ?_
                  refine lv_topl (fun z_118 e_119 => ?_)
                  exact tx_lret (z := (gH_112, gJ_113)) hx hb hr hlk hG hS ⟨(by show 0 ≤ gH_112; omega), (by show gH_112 ≤ 96; omega)⟩ dX10_blame_151
                · skip
                  have c_117 : a3.toInt = 2 := q_eq c_117
                  refine lv_lload hx hb dX10_blame_138 (lv_at hl 0 rfl) ?_
                  refine lv_lload hx hb dX10_blame_140 (lv_at hl 1 rfl) ?_
                  refine lv_lsub hx hb dX10_blame_142 ?_
                  refine lv_topl (fun z_120 e_121 => ?_)
                  refine lv_goto (tgt := 151) hx hb dX10_blame_143 (by decide) ?_
                  refine lv_pc (pc2 := 151) rfl ?_
                  exact tx_lret (z := (gH_112, gJ_113)) hx hb hr hlk hG hS ⟨(by show 0 ≤ gH_112; omega), (by show gH_112 ≤ 96; omega)⟩ dX10_blame_151
              · skip
                have c_116 : a3.toInt = 1 := q_eq c_116
                refine lv_lload hx hb dX10_blame_125 (lv_at hl 1 rfl) ?_
                refine lv_lload hx hb dX10_blame_127 (lv_at hl 2 rfl) ?_
                refine lv_lsub hx hb dX10_blame_129 ?_
                refine lv_topl (fun z_122 e_123 => ?_)
                refine lv_goto (tgt := 151) hx hb dX10_blame_130 (by decide) ?_
                exact tx_lret (z := (gH_112, gJ_113)) hx hb hr hlk hG hS ⟨(by show 0 ≤ gH_112; omega), (by show gH_112 ≤ 96; omega)⟩ dX10_blame_151
            · skip
              have c_115 : a3.toInt = 0 := q_eq c_115
              refine lv_lload hx hb dX10_blame_112 (lv_at hl 2 rfl) ?_
              refine lv_lload hx hb dX10_blame_114 (lv_at hl 3 rfl) ?_
              refine lv_pc (pc2 := 116) rfl ?_
              refine lv_lsub hx hb dX10_blame_116 ?_
              refine lv_topl (fun z_124 e_125 => ?_)
              refine lv_goto (tgt := 151) hx hb dX10_blame_117 (by decide) ?_
              exact tx_lret (z := (gH_112, gJ_113)) hx hb hr hlk hG hS ⟨(by show 0 ≤ gH_112; omega), (by show gH_112 ≤ 96; omega)⟩ dX10_blame_151
        · skip
          refine lv_if_ne (tgt := 52) hx hb dX10_blame_45 (by decide) (fun q => absurd rfl q) (fun _ => ?_)
          refine lv_ldc2 hx hb hown (hts (.constantLong RX10 315 (-1000000000000000001)) (List.mem_of_getElem? (i := 13) rfl)) dX10_blame_48 ?_
          have zl_m1000000000000000001 : ((-1000000000000000001) : Int64).toInt = (-1000000000000000001) := by decide
          exact tx_lret (z := (gH, gJ)) hx hb hr hlk hG hS ⟨(by show 0 ≤ gH; omega), (by show gH ≤ 96; omega)⟩ dX10_blame_51
      · skip
        refine lv_if_ne (tgt := 40) hx hb dX10_blame_33 (by decide) (fun q => absurd rfl q) (fun _ => ?_)
        refine lv_ldc2 hx hb hown (hts (.constantLong RX10 313 (-1000000000000000000)) (List.mem_of_getElem? (i := 14) rfl)) dX10_blame_36 ?_
        refine lv_pc (pc2 := 39) rfl ?_
        have zl_m1000000000000000000 : ((-1000000000000000000) : Int64).toInt = (-1000000000000000000) := by decide
        exact tx_lret (z := (gH, gJ)) hx hb hr hlk hG hS ⟨(by show 0 ≤ gH; omega), (by show gH ≤ 96; omega)⟩ dX10_blame_39
    · skip
      refine lv_if_eq (tgt := 36) hx hb dX10_blame_21 (by decide) (fun _ => ?_) (fun q => absurd (by decide) q)
      refine lv_ldc2 hx hb hown (hts (.constantLong RX10 313 (-1000000000000000000)) (List.mem_of_getElem? (i := 14) rfl)) dX10_blame_36 ?_
      have zl_m1000000000000000000 : ((-1000000000000000000) : Int64).toInt = (-1000000000000000000) := by decide
      exact tx_lret (z := (gH, gJ)) hx hb hr hlk hG hS ⟨(by show 0 ≤ gH; omega), (by show gH ≤ 96; omega)⟩ dX10_blame_39
  · skip
    refine lv_if_eq (tgt := 36) hx hb dX10_blame_9 (by decide) (fun _ => ?_) (fun q => absurd (by decide) q)
    refine lv_ldc2 hx hb hown (hts (.constantLong RX10 313 (-1000000000000000000)) (List.mem_of_getElem? (i := 14) rfl)) dX10_blame_36 ?_
    have zl_m1000000000000000000 : ((-1000000000000000000) : Int64).toInt = (-1000000000000000000) := by decide
    exact tx_lret (z := (gH, gJ)) hx hb hr hlk hG hS ⟨(by show 0 ≤ gH; omega), (by show gH ≤ 96; omega)⟩ dX10_blame_39

def uX10_keep : List Cond := .code yX10_keep cX10_keep 2 (some .int) :: ([.fieldLink RX10 173 "RiverModelModel" "isBuilt" "Z", .fieldLink RX10 180 "RiverModelModel" "keptMany" "I", .fieldLink RX10 35 "RiverModelModel" "kept" "[J", .fieldLink RX10 28 "RiverModelModel" "m" "[J"] ++ wsX100)
set_option maxHeartbeats 4000000 in
set_option maxRecDepth 100000 in
theorem m_X10_keep (l : Launch) (D : va_G) (t : Nat → Nat) (cI cL cC : ClassId) (gC : Int32) (gE : Int32) (gW : Nat → Int32) (gA : Nat → Int32) (gT : Nat → Int32) (gI : Int32) (gS : Int32) (gM : Int32) (K : Nat → Int32) (F : Nat → Int32) (S : Nat → Int32) (N : Nat → Int32) (gH : Int) (gJ : Int) (ge : Int32) (gk : Int32) (gf : Int32) (gs : Int32) (gg : Int32) (gr : Int32) (RN : Nat → Int32) (a0 : Nat) (uq : ∀ b c : Nat, t b = t c → t b ≠ 0 → b = c) (hC0 : 0 ≤ gC.toInt) (hC4 : gC.toInt ≤ 400) (hI0 : 0 ≤ gI.toInt) (hI4 : gI.toInt ≤ 40) (hH0 : 0 ≤ gH) (hH9 : gH ≤ 96) (hm0 : 0 ≤ gM.toInt) (hm3 : gM.toInt ≤ 3) (hO0 : okM K F S N 0 gI.toInt) (hW : swM gS K F S N gI.toInt) (k_a0 : t a0 = 40) : tMx (Z := (Int32)) l yX10_keep uX10_keep 0 0 D (mF cI cL cC gC gE gW gA gT gI gS gM K F S N gH gJ ge gk gf gs gg gr RN) (fun z => (mF cI cL cC gC gE gW gA gT gI gS z K F S N gH gJ ge gk gf gs gg gr RN)) t cI cL cC [.ref a0] wKp (xI (fun r (z : (Int32)) => 0 ≤ z.toInt ∧ z.toInt ≤ 3)) := by
  refine tMx.ofW (cc := cX10_keep) (maxL := 2) (ret := (some .int)) (by decide) rfl (Nat.le_of_ble_eq_true rfl) ?_
  intro p e s m below meth c hx hb hr hml hown hts hlk H locs hG hK hE hS ls hl
  have hl : lv_has ls 2 [(0, .ref a0)] := hl
  have in10 : ∀ w ∈ wsX100, w ∈ uX10_keep := fun w h => List.mem_cons_of_mem _ (List.mem_append_right _ h)
  refine lv_aload_n hx hb dX10_keep_0 rfl (lv_at hl 0 rfl) ?_
  obtain ⟨r_1, v_3, r_4, r_6, r_8, r_10, r_12, r_14, r_16, r_18, r_20, r_22, r_24, r_26, r_28, r_30, r_32, r_34, r_36, r_38, r_40, r_42, r_44, v_46, r_47, at_49, h_2, h_5, h_7, h_9, h_11, h_13, h_15, h_17, h_19, h_21, h_23, h_25, h_27, h_29, h_31, h_33, h_35, h_37, h_39, h_41, h_43, h_45, h_48⟩ := mF_o40 hG k_a0
  refine va_get (D := D) (ci := 9) (v := .int v_3) (C := RX10) (T := TX10) (N := 36) hx hb hts in10 hown hK (va_one at_49) 0 rfl rfl 2 (by decide) (hts (.fieldLink RX10 173 "RiverModelModel" "isBuilt" "Z") (List.mem_of_getElem? (i := 1) rfl)) (fun _ h9 => h9) rfl dX10_keep_1 ?_
  refine lv_if_ne (tgt := 10) hx hb dX10_keep_4 (by decide) (fun c_50 => ?_) (fun c_50 => ?_)
  · skip
    have c_50 : v_3.toInt ≠ 0 := q_ne c_50
    refine lv_aload_n hx hb dX10_keep_10 rfl (lv_at hl 0 rfl) ?_
    refine va_get (D := D) (ci := 9) (v := .int gM) (C := RX10) (T := TX10) (N := 36) hx hb hts in10 hown hK (va_one at_49) 0 rfl rfl 13 (by decide) (hts (.fieldLink RX10 180 "RiverModelModel" "keptMany" "I") (List.mem_of_getElem? (i := 2) rfl)) (fun _ h9 => h9) rfl dX10_keep_11 ?_
    refine lv_iconst (v := 3) hx hb dX10_keep_14 (by decide) ?_
    refine lv_icmp_ne (tgt := 21) hx hb dX10_keep_15 (by decide) (fun c_51 => ?_) (fun c_51 => ?_)
    · skip
      have c_51 : gM.toInt ≠ 3 := q_ne c_51
      refine lv_pc (pc2 := 21) rfl ?_
      refine lv_iconst (v := 0) hx hb dX10_keep_21 (by decide) ?_
      refine lv_istore_n (lv' := [(1, .int 0), (0, .ref a0)]) hx hb dX10_keep_22 rfl hl (by decide) rfl (fun ls hl => ?_)
      refine lv_pc (pc2 := 23) rfl ?_
      refine lp_gen (fun WW52 hWW52 => ?_)
      have kx52 : ∀ (yk : Int32) (H1 : Heap) (locs1 : List Loc) (ls1 : Array Slot), (0 ≤ yk.toInt) → (yk.toInt ≤ 280) → tG D (mF cI cL cC gC gE gW gA gT gI gS gM K F S N gH gJ ge gk gf gs gg gr RN) t H1 → tF t wKp s.heap H1 locs1 → lv_has ls1 2 [(1, .int yk), (0, .ref a0)] → WW52 H1 locs1 (F0 m 57 ls1 []) := by
        intro yk H locs ls v52_0 v52_1 hG hS hl
        refine (hWW52 _ _ _).mpr ?_
        refine lv_aload_n hx hb dX10_keep_57 rfl (lv_at hl 1 rfl) ?_
        refine lv_dup hx hb dX10_keep_58 rfl ?_
        obtain ⟨r_53, v_55, r_56, r_58, r_60, r_62, r_64, r_66, r_68, r_70, r_72, r_74, r_76, r_78, r_80, r_82, r_84, r_86, r_88, r_90, r_92, r_94, r_96, v_98, r_99, at_101, h_54, h_57, h_59, h_61, h_63, h_65, h_67, h_69, h_71, h_73, h_75, h_77, h_79, h_81, h_83, h_85, h_87, h_89, h_91, h_93, h_95, h_97, h_100⟩ := mF_o40 hG k_a0
        refine va_get (D := D) (ci := 9) (v := .int gM) (C := RX10) (T := TX10) (N := 36) hx hb hts in10 hown hK (va_one at_101) 0 rfl rfl 13 (by decide) (hts (.fieldLink RX10 180 "RiverModelModel" "keptMany" "I") (List.mem_of_getElem? (i := 2) rfl)) (fun _ h9 => h9) rfl dX10_keep_59 ?_
        refine lv_iconst (v := 1) hx hb dX10_keep_62 (by decide) ?_
        refine lv_iadd hx hb dX10_keep_63 ?_
        refine lv_topi (fun x_102 e_103 => ?_)
        have i_x_102 : x_102.toInt = gM.toInt + 1 := by rw [e_103]; exact (q_add (by rw [show (1 : Int32).toInt = 1 by decide]; omega) (by rw [show (1 : Int32).toInt = 1 by decide]; omega)).trans (by rw [show (1 : Int32).toInt = 1 by decide])
        refine ty_put (D := D) (ci := 9) (v := .int x_102) (ty := .int) (C := RX10) (T := TX10) (N := 36) (F2 := (mF cI cL cC gC gE gW gA gT gI gS x_102 K F S N gH gJ ge gk gf gs gg gr RN)) hx hb hts in10 tyX10 tyX10_ok nmX10 hown hK hG hS at_101 (by rw [k_a0]; rfl) rfl 13 (by decide) (hts (.fieldLink RX10 180 "RiverModelModel" "keptMany" "I") (List.mem_of_getElem? (i := 2) rfl)) (fun _ h9 => h9) rfl (by decide +kernel) rfl rfl (Nat.le_of_ble_eq_true rfl) (by rw [k_a0]; exact ⟨r_53, v_55, r_56, r_58, r_60, r_62, r_64, r_66, r_68, r_70, r_72, r_74, r_76, r_78, r_80, r_82, r_84, r_86, r_88, r_90, r_92, r_94, r_96, v_98, r_99, rfl, h_54, h_57, h_59, h_61, h_63, h_65, h_67, h_69, h_71, h_73, h_75, h_77, h_79, h_81, h_83, h_85, h_87, h_89, h_91, h_93, h_95, h_97, h_100⟩) (fun hG b hb h0 => by obtain ⟨e, g1, g2⟩ := hG b h0; exact ⟨e, g1, mF_gM (fun h => hb (uq b a0 (h.trans k_a0.symm) h0)) g2⟩) dX10_keep_64 (fun H locs hG hS at_104 o_105 => ?_)
        have at_104 : va_at D vwCl (a0, .inr (9, [.int gC, .ref r_53, .int v_55, .int gI, .ref r_56, .ref r_58, .ref r_60, .ref r_62, .int gS, .ref r_64, .ref r_66, .ref r_68, .ref r_70, .int x_102, .ref r_72, .ref r_74, .ref r_76, .int gE, .ref r_78, .ref r_80, .ref r_82, .ref r_84, .ref r_86, .ref r_88, .ref r_90, .ref r_92, .ref r_94, .int ge, .int gk, .int gf, .int gs, .int gg, .ref r_96, .int gr, .int v_98, .ref r_99])) H := at_104
        refine lv_pc (pc2 := 67) rfl ?_
        refine lv_aload_n hx hb dX10_keep_67 rfl (lv_at hl 1 rfl) ?_
        refine va_get (D := D) (ci := 9) (v := .int x_102) (C := RX10) (T := TX10) (N := 36) hx hb hts in10 hown hK (va_one at_104) 0 rfl rfl 13 (by decide) (hts (.fieldLink RX10 180 "RiverModelModel" "keptMany" "I") (List.mem_of_getElem? (i := 2) rfl)) (fun _ h9 => h9) rfl dX10_keep_68 ?_
        exact tx_iret (z := (x_102)) hx hb hr hlk hG hS ⟨(by show 0 ≤ x_102.toInt; omega), (by show x_102.toInt ≤ 3; omega)⟩ dX10_keep_71
      have lp52 : ∀ (kk52 : Nat) (yk : Int32) (H1 : Heap) (locs1 : List Loc) (ls1 : Array Slot), 280 - yk.toInt ≤ (kk52 : Int) → (0 ≤ yk.toInt) → (yk.toInt ≤ 280) → tG D (mF cI cL cC gC gE gW gA gT gI gS gM K F S N gH gJ ge gk gf gs gg gr RN) t H1 → tF t wKp s.heap H1 locs1 → lv_has ls1 2 [(1, .int yk), (0, .ref a0)] → WW52 H1 locs1 (F0 m 23 ls1 []) := by
        intro kk52
        induction kk52 with
        | zero =>
          intro yk H locs ls hk52 v52_0 v52_1 hG hS hl
          refine (hWW52 _ _ _).mpr ?_
          refine lv_iload_n hx hb dX10_keep_23 rfl (lv_at hl 0 rfl) ?_
          refine lv_sipush (v := 280) hx hb dX10_keep_24 (by decide) ?_
          refine lv_icmp_ge (tgt := 57) hx hb dX10_keep_27 (by decide) (fun c_106 => ?_) (fun c_106 => ?_)
          · skip
            have c_106 : 280 ≤ yk.toInt := q_le c_106
            exact (hWW52 _ _ _).mp (kx52 yk H locs ls v52_0 v52_1 hG hS (lv_sub hl [0, 1] rfl))
          · skip
            have c_106 : yk.toInt < 280 := q_nle c_106
            exfalso; omega
        | succ kk52 ih52 =>
          intro yk H locs ls hk52 v52_0 v52_1 hG hS hl
          refine (hWW52 _ _ _).mpr ?_
          refine lv_iload_n hx hb dX10_keep_23 rfl (lv_at hl 0 rfl) ?_
          refine lv_sipush (v := 280) hx hb dX10_keep_24 (by decide) ?_
          refine lv_pc (pc2 := 27) rfl ?_
          refine lv_icmp_ge (tgt := 57) hx hb dX10_keep_27 (by decide) (fun c_107 => ?_) (fun c_107 => ?_)
          · skip
            have c_107 : 280 ≤ yk.toInt := q_le c_107
            exact (hWW52 _ _ _).mp (kx52 yk H locs ls v52_0 v52_1 hG hS (lv_sub hl [0, 1] rfl))
          · skip
            have c_107 : yk.toInt < 280 := q_nle c_107
            refine lv_aload_n hx hb dX10_keep_30 rfl (lv_at hl 1 rfl) ?_
            obtain ⟨r_108, v_110, r_111, r_113, r_115, r_117, r_119, r_121, r_123, r_125, r_127, r_129, r_131, r_133, r_135, r_137, r_139, r_141, r_143, r_145, r_147, r_149, r_151, v_153, r_154, at_156, h_109, h_112, h_114, h_116, h_118, h_120, h_122, h_124, h_126, h_128, h_130, h_132, h_134, h_136, h_138, h_140, h_142, h_144, h_146, h_148, h_150, h_152, h_155⟩ := mF_o40 hG k_a0
            refine va_get (D := D) (ci := 9) (v := .ref r_125) (C := RX10) (T := TX10) (N := 36) hx hb hts in10 hown hK (va_one at_156) 0 rfl rfl 12 (by decide) (hts (.fieldLink RX10 35 "RiverModelModel" "kept" "[J") (List.mem_of_getElem? (i := 3) rfl)) (fun _ h9 => h9) rfl dX10_keep_31 ?_
            refine lv_sipush (v := 280) hx hb dX10_keep_34 (by decide) ?_
            refine lv_aload_n hx hb dX10_keep_37 rfl (lv_at hl 1 rfl) ?_
            refine va_get (D := D) (ci := 9) (v := .int gM) (C := RX10) (T := TX10) (N := 36) hx hb hts in10 hown hK (va_one at_156) 0 rfl rfl 13 (by decide) (hts (.fieldLink RX10 180 "RiverModelModel" "keptMany" "I") (List.mem_of_getElem? (i := 2) rfl)) (fun _ h9 => h9) rfl dX10_keep_38 ?_
            refine lv_imul hx hb dX10_keep_41 ?_
            refine lv_topi (fun x_157 e_158 => ?_)
            have i_x_157 : x_157.toInt = 280 * gM.toInt := by rw [e_158]; exact (q_mul (by rw [show (280 : Int32).toInt = 280 by decide]; omega) (by rw [show (280 : Int32).toInt = 280 by decide]; omega)).trans (by rw [show (280 : Int32).toInt = 280 by decide])
            refine lv_iload_n hx hb dX10_keep_42 rfl (lv_at hl 0 rfl) ?_
            refine lv_pc (pc2 := 43) rfl ?_
            refine lv_iadd hx hb dX10_keep_43 ?_
            refine lv_topi (fun x_159 e_160 => ?_)
            have i_x_159 : x_159.toInt = x_157.toInt + yk.toInt := by rw [e_160]; exact (q_add (by omega) (by omega)).trans (by rfl)
            refine lv_aload_n hx hb dX10_keep_44 rfl (lv_at hl 1 rfl) ?_
            refine va_get (D := D) (ci := 9) (v := .ref r_121) (C := RX10) (T := TX10) (N := 36) hx hb hts in10 hown hK (va_one at_156) 0 rfl rfl 10 (by decide) (hts (.fieldLink RX10 28 "RiverModelModel" "m" "[J") (List.mem_of_getElem? (i := 4) rfl)) (fun _ h9 => h9) rfl dX10_keep_45 ?_
            refine lv_iload_n hx hb dX10_keep_48 rfl (lv_at hl 0 rfl) ?_
            obtain ⟨f_161, at_162, h_163⟩ := mF_o47 hG h_122
            have b_164 : vp_in yk 280 := (q_in (by omega) (by omega))
            refine va_lald hx hb hK (va_one at_162) 0 1 rfl rfl b_164 dX10_keep_49 ?_
            refine lv_topl (fun z_165 e_166 => ?_)
            have i_z_165 : yk.toInt = 231 → z_165.toInt = gH := by rw [e_166]; exact gHr_ld h_163
            obtain ⟨f_167, at_168, h_169⟩ := mF_o49 hG h_126
            have b_170 : vp_in x_159 840 := (q_in (by omega) (by omega))
            refine ty_last (F2 := (mF cI cL cC gC gE gW gA gT gI gS gM K F S N gH gJ ge gk gf gs gg gr RN)) hx hb hK hG hS 1 at_168 (by rw [h_126]; rfl) rfl b_170 (by rw [h_126]; exact ⟨_, rfl, gKp_upd (by omega) h_169 (fun _ => by omega)⟩) tFF dX10_keep_50 (fun H locs hG hS at_171 o_172 => ?_)
            have at_156 := va_at.keptK at_156 o_172 h_126 k_a0 rfl
            have at_162 := va_at.keptK at_162 o_172 h_126 h_122 rfl
            obtain ⟨x_173, e_174⟩ : ∃ y : Int32, y = yk + Int32.ofInt 1 := ⟨_, rfl⟩
            have i_x_173 : x_173.toInt = yk.toInt + 1 := by rw [e_174, show Int32.ofInt 1 = 1 by decide]; exact (q_add (by rw [show (1 : Int32).toInt = 1 by decide]; omega) (by rw [show (1 : Int32).toInt = 1 by decide]; omega)).trans (by rw [show (1 : Int32).toInt = 1 by decide])
            refine lv_iinc (v := x_173) (lv' := [(1, .int x_173), (0, .ref a0)]) hx hb dX10_keep_51 hl (k := 0) rfl e_174.symm (by decide) rfl (fun ls hl => ?_)
            refine lv_goto (tgt := 23) hx hb dX10_keep_54 (by decide) ?_
            exact (hWW52 _ _ _).mp (ih52 x_173 H locs ls (by omega) (by omega) (by omega) hG hS (lv_sub hl [0, 1] rfl))
      have zi_0 : (0 : Int32).toInt = 0 := by decide
      exact lp52 (280 - (0 : Int32).toInt : Int).toNat 0 H locs ls (by omega) (by omega) (by omega) hG hS (lv_sub hl [0, 1] rfl)
    · skip
      have c_51 : gM.toInt = 3 := q_eq c_51
      refine lv_pc (pc2 := 18) rfl ?_
      refine lv_bipush (v := (-3)) hx hb dX10_keep_18 (by decide) ?_
      have zi_m3 : ((-3) : Int32).toInt = (-3) := by decide
      exact tx_iret (z := (gM)) hx hb hr hlk hG hS ⟨(by show 0 ≤ gM.toInt; omega), (by show gM.toInt ≤ 3; omega)⟩ dX10_keep_20
  · skip
    have c_50 : v_3.toInt = 0 := q_eq c_50
    refine lv_bipush (v := (-2)) hx hb dX10_keep_7 (by decide) ?_
    have zi_m2 : ((-2) : Int32).toInt = (-2) := by decide
    exact tx_iret (z := (gM)) hx hb hr hlk hG hS ⟨(by show 0 ≤ gM.toInt; omega), (by show gM.toInt ≤ 3; omega)⟩ dX10_keep_9

def uX10_back : List Cond := .code yX10_back cX10_back 2 (some .int) :: ([.fieldLink RX10 180 "RiverModelModel" "keptMany" "I", .fieldLink RX10 28 "RiverModelModel" "m" "[J", .fieldLink RX10 35 "RiverModelModel" "kept" "[J"] ++ wsX100)
set_option maxHeartbeats 4000000 in
set_option maxRecDepth 100000 in
theorem m_X10_back (l : Launch) (D : va_G) (t : Nat → Nat) (cI cL cC : ClassId) (gC : Int32) (gE : Int32) (gW : Nat → Int32) (gA : Nat → Int32) (gT : Nat → Int32) (gI : Int32) (gS : Int32) (gM : Int32) (K : Nat → Int32) (F : Nat → Int32) (S : Nat → Int32) (N : Nat → Int32) (gH : Int) (gJ : Int) (ge : Int32) (gk : Int32) (gf : Int32) (gs : Int32) (gg : Int32) (gr : Int32) (RN : Nat → Int32) (a0 : Nat) (uq : ∀ b c : Nat, t b = t c → t b ≠ 0 → b = c) (hC0 : 0 ≤ gC.toInt) (hC4 : gC.toInt ≤ 400) (hI0 : 0 ≤ gI.toInt) (hI4 : gI.toInt ≤ 40) (hH0 : 0 ≤ gH) (hH9 : gH ≤ 96) (hm0 : 0 ≤ gM.toInt) (hm3 : gM.toInt ≤ 3) (hO0 : okM K F S N 0 gI.toInt) (hW : swM gS K F S N gI.toInt) (k_a0 : t a0 = 40) : tMx (Z := (Int32) × (Int)) l yX10_back uX10_back 0 0 D (mF cI cL cC gC gE gW gA gT gI gS gM K F S N gH gJ ge gk gf gs gg gr RN) (fun z => (mF cI cL cC gC gE gW gA gT gI gS z.1 K F S N z.2 gJ ge gk gf gs gg gr RN)) t cI cL cC [.ref a0] wBa (xI (fun r (z : (Int32) × (Int)) => 0 ≤ z.2 ∧ z.2 ≤ 96 ∧ 0 ≤ z.1.toInt ∧ z.1.toInt ≤ 3)) := by
  refine tMx.ofW (cc := cX10_back) (maxL := 2) (ret := (some .int)) (by decide) rfl (Nat.le_of_ble_eq_true rfl) ?_
  intro p e s m below meth c hx hb hr hml hown hts hlk H locs hG hK hE hS ls hl
  have hl : lv_has ls 2 [(0, .ref a0)] := hl
  have in10 : ∀ w ∈ wsX100, w ∈ uX10_back := fun w h => List.mem_cons_of_mem _ (List.mem_append_right _ h)
  refine lv_aload_n hx hb dX10_back_0 rfl (lv_at hl 0 rfl) ?_
  obtain ⟨r_1, v_3, r_4, r_6, r_8, r_10, r_12, r_14, r_16, r_18, r_20, r_22, r_24, r_26, r_28, r_30, r_32, r_34, r_36, r_38, r_40, r_42, r_44, v_46, r_47, at_49, h_2, h_5, h_7, h_9, h_11, h_13, h_15, h_17, h_19, h_21, h_23, h_25, h_27, h_29, h_31, h_33, h_35, h_37, h_39, h_41, h_43, h_45, h_48⟩ := mF_o40 hG k_a0
  refine va_get (D := D) (ci := 9) (v := .int gM) (C := RX10) (T := TX10) (N := 36) hx hb hts in10 hown hK (va_one at_49) 0 rfl rfl 13 (by decide) (hts (.fieldLink RX10 180 "RiverModelModel" "keptMany" "I") (List.mem_of_getElem? (i := 1) rfl)) (fun _ h9 => h9) rfl dX10_back_1 ?_
  refine lv_if_ne (tgt := 10) hx hb dX10_back_4 (by decide) (fun c_50 => ?_) (fun c_50 => ?_)
  · skip
    have c_50 : gM.toInt ≠ 0 := q_ne c_50
    refine lv_aload_n hx hb dX10_back_10 rfl (lv_at hl 0 rfl) ?_
    refine lv_dup hx hb dX10_back_11 rfl ?_
    refine va_get (D := D) (ci := 9) (v := .int gM) (C := RX10) (T := TX10) (N := 36) hx hb hts in10 hown hK (va_one at_49) 0 rfl rfl 13 (by decide) (hts (.fieldLink RX10 180 "RiverModelModel" "keptMany" "I") (List.mem_of_getElem? (i := 1) rfl)) (fun _ h9 => h9) rfl dX10_back_12 ?_
    refine lv_iconst (v := 1) hx hb dX10_back_15 (by decide) ?_
    refine lv_pc (pc2 := 16) rfl ?_
    refine lv_isub hx hb dX10_back_16 ?_
    refine lv_topi (fun x_51 e_52 => ?_)
    have i_x_51 : x_51.toInt = gM.toInt - 1 := by rw [e_52]; exact (q_sub (by rw [show (1 : Int32).toInt = 1 by decide]; omega) (by rw [show (1 : Int32).toInt = 1 by decide]; omega)).trans (by rw [show (1 : Int32).toInt = 1 by decide])
    refine ty_put (D := D) (ci := 9) (v := .int x_51) (ty := .int) (C := RX10) (T := TX10) (N := 36) (F2 := (mF cI cL cC gC gE gW gA gT gI gS x_51 K F S N gH gJ ge gk gf gs gg gr RN)) hx hb hts in10 tyX10 tyX10_ok nmX10 hown hK hG hS at_49 (by rw [k_a0]; rfl) rfl 13 (by decide) (hts (.fieldLink RX10 180 "RiverModelModel" "keptMany" "I") (List.mem_of_getElem? (i := 1) rfl)) (fun _ h9 => h9) rfl (by decide +kernel) rfl rfl (Nat.le_of_ble_eq_true rfl) (by rw [k_a0]; exact ⟨r_1, v_3, r_4, r_6, r_8, r_10, r_12, r_14, r_16, r_18, r_20, r_22, r_24, r_26, r_28, r_30, r_32, r_34, r_36, r_38, r_40, r_42, r_44, v_46, r_47, rfl, h_2, h_5, h_7, h_9, h_11, h_13, h_15, h_17, h_19, h_21, h_23, h_25, h_27, h_29, h_31, h_33, h_35, h_37, h_39, h_41, h_43, h_45, h_48⟩) (fun hG b hb h0 => by obtain ⟨e, g1, g2⟩ := hG b h0; exact ⟨e, g1, mF_gM (fun h => hb (uq b a0 (h.trans k_a0.symm) h0)) g2⟩) dX10_back_17 (fun H locs hG hS at_53 o_54 => ?_)
    have at_53 : va_at D vwCl (a0, .inr (9, [.int gC, .ref r_1, .int v_3, .int gI, .ref r_4, .ref r_6, .ref r_8, .ref r_10, .int gS, .ref r_12, .ref r_14, .ref r_16, .ref r_18, .int x_51, .ref r_20, .ref r_22, .ref r_24, .int gE, .ref r_26, .ref r_28, .ref r_30, .ref r_32, .ref r_34, .ref r_36, .ref r_38, .ref r_40, .ref r_42, .int ge, .int gk, .int gf, .int gs, .int gg, .ref r_44, .int gr, .int v_46, .ref r_47])) H := at_53
    refine lv_iconst (v := 0) hx hb dX10_back_20 (by decide) ?_
    refine lv_istore_n (lv' := [(1, .int 0), (0, .ref a0)]) hx hb dX10_back_21 rfl hl (by decide) rfl (fun ls hl => ?_)
    refine lv_pc (pc2 := 22) rfl ?_
    refine lp_gen (fun WW55 hWW55 => ?_)
    have kx55 : ∀ (yk : Int32) (hm : Int) (H1 : Heap) (locs1 : List Loc) (ls1 : Array Slot), (0 ≤ yk.toInt) → (yk.toInt ≤ 280) → (0 ≤ hm) → (hm ≤ 96) → tG D (mF cI cL cC gC gE gW gA gT gI gS x_51 K F S N hm gJ ge gk gf gs gg gr RN) t H1 → tF t wBa s.heap H1 locs1 → lv_has ls1 2 [(1, .int yk), (0, .ref a0)] → WW55 H1 locs1 (F0 m 56 ls1 []) := by
      intro yk hm H locs ls v55_0 v55_1 v55_2 v55_3 hG hS hl
      refine (hWW55 _ _ _).mpr ?_
      refine lv_aload_n hx hb dX10_back_56 rfl (lv_at hl 1 rfl) ?_
      obtain ⟨r_56, v_58, r_59, r_61, r_63, r_65, r_67, r_69, r_71, r_73, r_75, r_77, r_79, r_81, r_83, r_85, r_87, r_89, r_91, r_93, r_95, r_97, r_99, v_101, r_102, at_104, h_57, h_60, h_62, h_64, h_66, h_68, h_70, h_72, h_74, h_76, h_78, h_80, h_82, h_84, h_86, h_88, h_90, h_92, h_94, h_96, h_98, h_100, h_103⟩ := mF_o40 hG k_a0
      refine va_get (D := D) (ci := 9) (v := .int x_51) (C := RX10) (T := TX10) (N := 36) hx hb hts in10 hown hK (va_one at_104) 0 rfl rfl 13 (by decide) (hts (.fieldLink RX10 180 "RiverModelModel" "keptMany" "I") (List.mem_of_getElem? (i := 1) rfl)) (fun _ h9 => h9) rfl dX10_back_57 ?_
      exact tx_iret (z := (x_51, hm)) hx hb hr hlk hG hS ⟨(by show 0 ≤ hm; omega), (by show hm ≤ 96; omega), (by show 0 ≤ x_51.toInt; omega), (by show x_51.toInt ≤ 3; omega)⟩ dX10_back_60
    have lp55 : ∀ (kk55 : Nat) (yk : Int32) (hm : Int) (H1 : Heap) (locs1 : List Loc) (ls1 : Array Slot), 280 - yk.toInt ≤ (kk55 : Int) → (0 ≤ yk.toInt) → (yk.toInt ≤ 280) → (0 ≤ hm) → (hm ≤ 96) → tG D (mF cI cL cC gC gE gW gA gT gI gS x_51 K F S N hm gJ ge gk gf gs gg gr RN) t H1 → tF t wBa s.heap H1 locs1 → lv_has ls1 2 [(1, .int yk), (0, .ref a0)] → WW55 H1 locs1 (F0 m 22 ls1 []) := by
      intro kk55
      induction kk55 with
      | zero =>
        intro yk hm H locs ls hk55 v55_0 v55_1 v55_2 v55_3 hG hS hl
        refine (hWW55 _ _ _).mpr ?_
        refine lv_iload_n hx hb dX10_back_22 rfl (lv_at hl 0 rfl) ?_
        refine lv_pc (pc2 := 23) rfl ?_
        refine lv_sipush (v := 280) hx hb dX10_back_23 (by decide) ?_
        refine lv_icmp_ge (tgt := 56) hx hb dX10_back_26 (by decide) (fun c_105 => ?_) (fun c_105 => ?_)
        · skip
          have c_105 : 280 ≤ yk.toInt := q_le c_105
          exact (hWW55 _ _ _).mp (kx55 yk hm H locs ls v55_0 v55_1 v55_2 v55_3 hG hS (lv_sub hl [0, 1] rfl))
        · skip
          have c_105 : yk.toInt < 280 := q_nle c_105
          exfalso; omega
      | succ kk55 ih55 =>
        intro yk hm H locs ls hk55 v55_0 v55_1 v55_2 v55_3 hG hS hl
        refine (hWW55 _ _ _).mpr ?_
        refine lv_iload_n hx hb dX10_back_22 rfl (lv_at hl 0 rfl) ?_
        refine lv_sipush (v := 280) hx hb dX10_back_23 (by decide) ?_
        refine lv_icmp_ge (tgt := 56) hx hb dX10_back_26 (by decide) (fun c_106 => ?_) (fun c_106 => ?_)
        · skip
          have c_106 : 280 ≤ yk.toInt := q_le c_106
          exact (hWW55 _ _ _).mp (kx55 yk hm H locs ls v55_0 v55_1 v55_2 v55_3 hG hS (lv_sub hl [0, 1] rfl))
        · skip
          have c_106 : yk.toInt < 280 := q_nle c_106
          refine lv_aload_n hx hb dX10_back_29 rfl (lv_at hl 1 rfl) ?_
          obtain ⟨r_107, v_109, r_110, r_112, r_114, r_116, r_118, r_120, r_122, r_124, r_126, r_128, r_130, r_132, r_134, r_136, r_138, r_140, r_142, r_144, r_146, r_148, r_150, v_152, r_153, at_155, h_108, h_111, h_113, h_115, h_117, h_119, h_121, h_123, h_125, h_127, h_129, h_131, h_133, h_135, h_137, h_139, h_141, h_143, h_145, h_147, h_149, h_151, h_154⟩ := mF_o40 hG k_a0
          refine va_get (D := D) (ci := 9) (v := .ref r_120) (C := RX10) (T := TX10) (N := 36) hx hb hts in10 hown hK (va_one at_155) 0 rfl rfl 10 (by decide) (hts (.fieldLink RX10 28 "RiverModelModel" "m" "[J") (List.mem_of_getElem? (i := 2) rfl)) (fun _ h9 => h9) rfl dX10_back_30 ?_
          refine lv_iload_n hx hb dX10_back_33 rfl (lv_at hl 0 rfl) ?_
          refine lv_pc (pc2 := 34) rfl ?_
          refine lv_aload_n hx hb dX10_back_34 rfl (lv_at hl 1 rfl) ?_
          refine va_get (D := D) (ci := 9) (v := .ref r_124) (C := RX10) (T := TX10) (N := 36) hx hb hts in10 hown hK (va_one at_155) 0 rfl rfl 12 (by decide) (hts (.fieldLink RX10 35 "RiverModelModel" "kept" "[J") (List.mem_of_getElem? (i := 3) rfl)) (fun _ h9 => h9) rfl dX10_back_35 ?_
          refine lv_sipush (v := 280) hx hb dX10_back_38 (by decide) ?_
          refine lv_aload_n hx hb dX10_back_41 rfl (lv_at hl 1 rfl) ?_
          refine va_get (D := D) (ci := 9) (v := .int x_51) (C := RX10) (T := TX10) (N := 36) hx hb hts in10 hown hK (va_one at_155) 0 rfl rfl 13 (by decide) (hts (.fieldLink RX10 180 "RiverModelModel" "keptMany" "I") (List.mem_of_getElem? (i := 1) rfl)) (fun _ h9 => h9) rfl dX10_back_42 ?_
          refine lv_imul hx hb dX10_back_45 ?_
          refine lv_topi (fun x_156 e_157 => ?_)
          have i_x_156 : x_156.toInt = 280 * x_51.toInt := by rw [e_157]; exact (q_mul (by rw [show (280 : Int32).toInt = 280 by decide]; omega) (by rw [show (280 : Int32).toInt = 280 by decide]; omega)).trans (by rw [show (280 : Int32).toInt = 280 by decide])
          refine lv_iload_n hx hb dX10_back_46 rfl (lv_at hl 0 rfl) ?_
          refine lv_iadd hx hb dX10_back_47 ?_
          refine lv_topi (fun x_158 e_159 => ?_)
          have i_x_158 : x_158.toInt = x_156.toInt + yk.toInt := by rw [e_159]; exact (q_add (by omega) (by omega)).trans (by rfl)
          refine lv_pc (pc2 := 48) rfl ?_
          obtain ⟨f_160, at_161, h_162⟩ := mF_o49 hG h_125
          have b_163 : vp_in x_158 840 := (q_in (by omega) (by omega))
          refine va_lald hx hb hK (va_one at_161) 0 1 rfl rfl b_163 dX10_back_48 ?_
          refine lv_topl (fun z_164 e_165 => ?_)
          have i_z_164 : x_158.toInt = 231 ∨ x_158.toInt = 511 ∨ x_158.toInt = 791 → 0 ≤ z_164.toInt ∧ z_164.toInt ≤ 96 := by rw [e_165]; exact gKp_ld h_162
          obtain ⟨f_166, at_167, h_168⟩ := mF_o47 hG h_121
          have b_169 : vp_in yk 280 := (q_in (by omega) (by omega))
          obtain ⟨h_170, gh_170, dh_170⟩ := gHr_ex yk z_164 (by omega) h_168
          refine ty_last (F2 := (mF cI cL cC gC gE gW gA gT gI gS x_51 K F S N h_170 gJ ge gk gf gs gg gr RN)) hx hb hK hG hS 1 at_167 (by rw [h_121]; rfl) rfl b_169 (by rw [h_121]; exact ⟨_, rfl, gh_170⟩) (fun hG b hb h0 => by obtain ⟨e, g1, g2⟩ := hG b h0; exact ⟨e, g1, mF_gH (fun h => hb (uq b r_120 (h.trans h_121.symm) h0)) g2⟩) dX10_back_49 (fun H locs hG hS at_171 o_172 => ?_)
          have at_155 := va_at.keptK at_155 o_172 h_121 k_a0 rfl
          have at_161 := va_at.keptK at_161 o_172 h_121 h_125 rfl
          obtain ⟨x_173, e_174⟩ : ∃ y : Int32, y = yk + Int32.ofInt 1 := ⟨_, rfl⟩
          have i_x_173 : x_173.toInt = yk.toInt + 1 := by rw [e_174, show Int32.ofInt 1 = 1 by decide]; exact (q_add (by rw [show (1 : Int32).toInt = 1 by decide]; omega) (by rw [show (1 : Int32).toInt = 1 by decide]; omega)).trans (by rw [show (1 : Int32).toInt = 1 by decide])
          refine lv_iinc (v := x_173) (lv' := [(1, .int x_173), (0, .ref a0)]) hx hb dX10_back_50 hl (k := 0) rfl e_174.symm (by decide) rfl (fun ls hl => ?_)
          refine lv_goto (tgt := 22) hx hb dX10_back_53 (by decide) ?_
          exact (hWW55 _ _ _).mp (ih55 x_173 h_170 H locs ls (by omega) (by omega) (by omega) (by omega) (by omega) hG hS (lv_sub hl [0, 1] rfl))
    have zi_0 : (0 : Int32).toInt = 0 := by decide
    exact lp55 (280 - (0 : Int32).toInt : Int).toNat 0 gH H locs ls (by omega) (by omega) (by omega) (by omega) (by omega) hG hS (lv_sub hl [0, 1] rfl)
  · skip
    have c_50 : gM.toInt = 0 := q_eq c_50
    refine lv_bipush (v := (-2)) hx hb dX10_back_7 (by decide) ?_
    have zi_m2 : ((-2) : Int32).toInt = (-2) := by decide
    exact tx_iret (z := (gM, gH)) hx hb hr hlk hG hS ⟨(by show 0 ≤ gH; omega), (by show gH ≤ 96; omega), (by show 0 ≤ gM.toInt; omega), (by show gM.toInt ≤ 3; omega)⟩ dX10_back_9

def uX10_count : List Cond := .code yX10_count cX10_count 5 (some .int) :: ([.fieldLink RX10 89 "RiverModelModel" "length" "I", .fieldLink RX10 173 "RiverModelModel" "isBuilt" "Z", .fieldLink RX10 163 "RiverModelModel" "items" "I", .methodLink RX10 245 yX10_ofKind, .instanceMethod yX10_ofKind, .selects RX10 yX10_ofKind yX10_ofKind, .initialized RX10, .fieldLink RX10 28 "RiverModelModel" "m" "[J", .fieldLink RX10 59 "RiverModelModel" "knobMany" "[I", .fieldLink RX10 180 "RiverModelModel" "keptMany" "I", .fieldLink RX10 38 "RiverModelModel" "gaugeKind" "[I", .fieldLink RX10 44 "RiverModelModel" "seen" "[I", .code yX10_ofKind cX10_ofKind 4 (some .int), .fieldLink RX10 13 "RiverModelModel" "kind" "[I"] ++ wsX100)
set_option maxRecDepth 20000 in
theorem gu_X10_count_X10_ofKind_245 : GoodIn uX10_count (wsV RX10 245 RX10 yX10_ofKind uX10_ofKind) := goodIn_r _ [4, 5, 6, 7, 13, 3, 2, 14, 15, 16, 17, 18, 19, 20, 21, 22, 23, 24, 25, 26, 27, 28, 29, 30, 31, 32, 33, 34, 35, 36, 37, 38, 39, 40, 41, 42, 43, 44, 45, 46, 47, 48, 49, 50] rfl (by decide +kernel)
set_option maxHeartbeats 4000000 in
set_option maxRecDepth 100000 in
theorem m_X10_count (l : Launch) (D : va_G) (t : Nat → Nat) (cI cL cC : ClassId) (gC : Int32) (gE : Int32) (gW : Nat → Int32) (gA : Nat → Int32) (gT : Nat → Int32) (gI : Int32) (gS : Int32) (gM : Int32) (K : Nat → Int32) (F : Nat → Int32) (S : Nat → Int32) (N : Nat → Int32) (gH : Int) (gJ : Int) (ge : Int32) (gk : Int32) (gf : Int32) (gs : Int32) (gg : Int32) (gr : Int32) (RN : Nat → Int32) (a0 : Nat) (a1 : Int32) (uq : ∀ b c : Nat, t b = t c → t b ≠ 0 → b = c) (hC0 : 0 ≤ gC.toInt) (hC4 : gC.toInt ≤ 400) (hI0 : 0 ≤ gI.toInt) (hI4 : gI.toInt ≤ 40) (hH0 : 0 ≤ gH) (hH9 : gH ≤ 96) (hm0 : 0 ≤ gM.toInt) (hm3 : gM.toInt ≤ 3) (hO0 : okM K F S N 0 gI.toInt) (hW : swM gS K F S N gI.toInt) (k_a0 : t a0 = 40) : tM l yX10_count uX10_count 1 23 D (mF cI cL cC gC gE gW gA gT gI gS gM K F S N gH gJ ge gk gf gs gg gr RN) (mF cI cL cC gC gE gW gA gT gI gS gM K F S N gH gJ ge gk gf gs gg gr RN) t cI cL cC [.ref a0, .int a1] wr0 (pI (fun r => True)) := by
  refine tM.ofW (cc := cX10_count) (maxL := 5) (ret := (some .int)) (by decide) rfl (Nat.le_of_ble_eq_true rfl) ?_
  intro p e s m below meth c hx hb hr hml hown hts hlk H locs hG hK hE hS ls hl
  have hl : lv_has ls 5 [(0, .ref a0), (1, .int a1)] := hl
  have in10 : ∀ w ∈ wsX100, w ∈ uX10_count := fun w h => List.mem_cons_of_mem _ (List.mem_append_right _ h)
  refine lv_iconst (v := 0) hx hb dX10_count_0 (by decide) ?_
  refine lv_istore_n (lv' := [(2, .int 0), (0, .ref a0), (1, .int a1)]) hx hb dX10_count_1 rfl hl (by decide) rfl (fun ls hl => ?_)
  refine lv_iconst (v := 0) hx hb dX10_count_2 (by decide) ?_
  refine lv_istore_n (lv' := [(3, .int 0), (2, .int 0), (0, .ref a0), (1, .int a1)]) hx hb dX10_count_3 rfl hl (by decide) rfl (fun ls hl => ?_)
  refine lv_iconst (v := 0) hx hb dX10_count_4 (by decide) ?_
  refine lv_istore (lv' := [(4, .int 0), (3, .int 0), (2, .int 0), (0, .ref a0), (1, .int a1)]) hx hb dX10_count_5 hl (by decide) rfl (fun ls hl => ?_)
  refine lv_pc (pc2 := 7) rfl ?_
  refine lp_gen (fun WW1 hWW1 => ?_)
  have kx1 : ∀ (yk : Int32) (ys : Int32) (H1 : Heap) (locs1 : List Loc) (ls1 : Array Slot), (0 ≤ yk.toInt) → (yk.toInt ≤ 384) → tG D (mF cI cL cC gC gE gW gA gT gI gS gM K F S N gH gJ ge gk gf gs gg gr RN) t H1 → tF t wr0 s.heap H1 locs1 → lv_has ls1 5 [(4, .int yk), (3, .int 0), (2, .int ys), (0, .ref a0), (1, .int a1)] → WW1 H1 locs1 (F0 m 39 ls1 []) := by
    intro yk ys H locs ls v1_0 v1_1 hG hS hl
    refine (hWW1 _ _ _).mpr ?_
    refine lv_iconst (v := 0) hx hb dX10_count_39 (by decide) ?_
    refine lv_pc (pc2 := 40) rfl ?_
    refine lv_istore (lv' := [(4, .int 0), (3, .int 0), (2, .int ys), (0, .ref a0), (1, .int a1)]) hx hb dX10_count_40 hl (by decide) rfl (fun ls hl => ?_)
    refine lv_pc (pc2 := 42) rfl ?_
    refine lp_gen (fun WW2 hWW2 => ?_)
    have kx2 : ∀ (yk : Int32) (yg : Int32) (H1 : Heap) (locs1 : List Loc) (ls1 : Array Slot), (0 ≤ yk.toInt) → (yk.toInt ≤ 4) → tG D (mF cI cL cC gC gE gW gA gT gI gS gM K F S N gH gJ ge gk gf gs gg gr RN) t H1 → tF t wr0 s.heap H1 locs1 → lv_has ls1 5 [(4, .int yk), (3, .int yg), (2, .int ys), (0, .ref a0), (1, .int a1)] → WW2 H1 locs1 (F0 m 72 ls1 []) := by
      intro yk yg H locs ls v2_0 v2_1 hG hS hl
      refine (hWW2 _ _ _).mpr ?_
      refine lv_iload_n hx hb dX10_count_72 rfl (lv_at hl 4 rfl) ?_
      by_cases k_3 : a1.toInt = 0
      · refine lv_tableIn (tgt := 124) hx hb dX10_count_73 (by rw [k_3]; decide) (by rw [k_3]; decide) (by rw [k_3]; rfl) (by decide) ?_
        refine lv_aload_n hx hb dX10_count_124 rfl (lv_at hl 3 rfl) ?_
        obtain ⟨r_4, v_6, r_7, r_9, r_11, r_13, r_15, r_17, r_19, r_21, r_23, r_25, r_27, r_29, r_31, r_33, r_35, r_37, r_39, r_41, r_43, r_45, r_47, v_49, r_50, at_52, h_5, h_8, h_10, h_12, h_14, h_16, h_18, h_20, h_22, h_24, h_26, h_28, h_30, h_32, h_34, h_36, h_38, h_40, h_42, h_44, h_46, h_48, h_51⟩ := mF_o40 hG k_a0
        refine va_get (D := D) (ci := 9) (v := .int gC) (C := RX10) (T := TX10) (N := 36) hx hb hts in10 hown hK (va_one at_52) 0 rfl rfl 0 (by decide) (hts (.fieldLink RX10 89 "RiverModelModel" "length" "I") (List.mem_of_getElem? (i := 1) rfl)) (fun _ h9 => h9) rfl dX10_count_125 ?_
        exact ty_iret hx hb hr hlk hG hS True.intro dX10_count_128
      by_cases k_53 : a1.toInt = 1
      · refine lv_tableIn (tgt := 129) hx hb dX10_count_73 (by rw [k_53]; decide) (by rw [k_53]; decide) (by rw [k_53]; rfl) (by decide) ?_
        refine lv_aload_n hx hb dX10_count_129 rfl (lv_at hl 3 rfl) ?_
        obtain ⟨r_54, v_56, r_57, r_59, r_61, r_63, r_65, r_67, r_69, r_71, r_73, r_75, r_77, r_79, r_81, r_83, r_85, r_87, r_89, r_91, r_93, r_95, r_97, v_99, r_100, at_102, h_55, h_58, h_60, h_62, h_64, h_66, h_68, h_70, h_72, h_74, h_76, h_78, h_80, h_82, h_84, h_86, h_88, h_90, h_92, h_94, h_96, h_98, h_101⟩ := mF_o40 hG k_a0
        refine va_get (D := D) (ci := 9) (v := .int v_56) (C := RX10) (T := TX10) (N := 36) hx hb hts in10 hown hK (va_one at_102) 0 rfl rfl 2 (by decide) (hts (.fieldLink RX10 173 "RiverModelModel" "isBuilt" "Z") (List.mem_of_getElem? (i := 2) rfl)) (fun _ h9 => h9) rfl dX10_count_130 ?_
        refine lv_pc (pc2 := 133) rfl ?_
        refine lv_if_eq (tgt := 143) hx hb dX10_count_133 (by decide) (fun c_103 => ?_) (fun c_103 => ?_)
        · skip
          have c_103 : v_56.toInt = 0 := q_eq c_103
          refine lv_iconst (v := 0) hx hb dX10_count_143 (by decide) ?_
          have zi_0 : (0 : Int32).toInt = 0 := by decide
          exact ty_iret hx hb hr hlk hG hS True.intro dX10_count_144
        · skip
          have c_103 : v_56.toInt ≠ 0 := q_ne c_103
          refine lv_aload_n hx hb dX10_count_136 rfl (lv_at hl 3 rfl) ?_
          refine va_get (D := D) (ci := 9) (v := .int gI) (C := RX10) (T := TX10) (N := 36) hx hb hts in10 hown hK (va_one at_102) 0 rfl rfl 3 (by decide) (hts (.fieldLink RX10 163 "RiverModelModel" "items" "I") (List.mem_of_getElem? (i := 3) rfl)) (fun _ h9 => h9) rfl dX10_count_137 ?_
          refine lv_goto (tgt := 144) hx hb dX10_count_140 (by decide) ?_
          exact ty_iret hx hb hr hlk hG hS True.intro dX10_count_144
      by_cases k_104 : a1.toInt = 2
      · refine lv_tableIn (tgt := 145) hx hb dX10_count_73 (by rw [k_104]; decide) (by rw [k_104]; decide) (by rw [k_104]; rfl) (by decide) ?_
        refine lv_aload_n hx hb dX10_count_145 rfl (lv_at hl 3 rfl) ?_
        refine lv_pc (pc2 := 146) rfl ?_
        refine lv_bipush (v := 115) hx hb dX10_count_146 (by decide) ?_
        have zi_115 : (115 : Int32).toInt = 115 := by decide
        obtain ⟨r_105, v_107, r_108, r_110, r_112, r_114, r_116, r_118, r_120, r_122, r_124, r_126, r_128, r_130, r_132, r_134, r_136, r_138, r_140, r_142, r_144, r_146, r_148, v_150, r_151, at_153, h_106, h_109, h_111, h_113, h_115, h_117, h_119, h_121, h_123, h_125, h_127, h_129, h_131, h_133, h_135, h_137, h_139, h_141, h_143, h_145, h_147, h_149, h_152⟩ := mF_o40 hG k_a0
        refine ty_calli (W.runV (As := [.int 115]) (rest := []) ⟨hx, hb, hml, hown, hts⟩ (m_X10_ofKind l D t cI cL cC gC gE gW gA gT gI gS gM K F S N gH gJ ge gk gf gs gg gr RN a0 115  uq (by omega) (by omega) k_a0) (cwV 1 hts gu_X10_count_X10_ofKind_245 rfl rfl rfl (by decide +kernel) ⟨Nat.le_of_ble_eq_true rfl, Nat.le_of_ble_eq_true rfl⟩) (tP_V hG hE at_153 rfl) rfl rfl hl.1 rfl (lv_room (Nat.le_of_ble_eq_true rfl)) dX10_count_148 ⟨Nat.le_of_ble_eq_true rfl, Nat.le_of_ble_eq_true rfl⟩) hS (fun _ h => h) (fun r_154 H locs hp_155 hG hS o_156 => ?_)
        have at_153 := va_at.keptC at_153 o_156 k_a0 rfl
        exact ty_iret hx hb hr hlk hG hS True.intro dX10_count_151
      by_cases k_158 : a1.toInt = 3
      · refine lv_tableIn (tgt := 152) hx hb dX10_count_73 (by rw [k_158]; decide) (by rw [k_158]; decide) (by rw [k_158]; rfl) (by decide) ?_
        refine lv_aload_n hx hb dX10_count_152 rfl (lv_at hl 3 rfl) ?_
        refine lv_bipush (v := 103) hx hb dX10_count_153 (by decide) ?_
        have zi_103 : (103 : Int32).toInt = 103 := by decide
        obtain ⟨r_159, v_161, r_162, r_164, r_166, r_168, r_170, r_172, r_174, r_176, r_178, r_180, r_182, r_184, r_186, r_188, r_190, r_192, r_194, r_196, r_198, r_200, r_202, v_204, r_205, at_207, h_160, h_163, h_165, h_167, h_169, h_171, h_173, h_175, h_177, h_179, h_181, h_183, h_185, h_187, h_189, h_191, h_193, h_195, h_197, h_199, h_201, h_203, h_206⟩ := mF_o40 hG k_a0
        refine ty_calli (W.runV (As := [.int 103]) (rest := []) ⟨hx, hb, hml, hown, hts⟩ (m_X10_ofKind l D t cI cL cC gC gE gW gA gT gI gS gM K F S N gH gJ ge gk gf gs gg gr RN a0 103  uq (by omega) (by omega) k_a0) (cwV 1 hts gu_X10_count_X10_ofKind_245 rfl rfl rfl (by decide +kernel) ⟨Nat.le_of_ble_eq_true rfl, Nat.le_of_ble_eq_true rfl⟩) (tP_V hG hE at_207 rfl) rfl rfl hl.1 rfl (lv_room (Nat.le_of_ble_eq_true rfl)) dX10_count_155 ⟨Nat.le_of_ble_eq_true rfl, Nat.le_of_ble_eq_true rfl⟩) hS (fun _ h => h) (fun r_208 H locs hp_209 hG hS o_210 => ?_)
        have at_207 := va_at.keptC at_207 o_210 k_a0 rfl
        exact ty_iret hx hb hr hlk hG hS True.intro dX10_count_158
      by_cases k_212 : a1.toInt = 4
      · refine lv_tableIn (tgt := 159) hx hb dX10_count_73 (by rw [k_212]; decide) (by rw [k_212]; decide) (by rw [k_212]; rfl) (by decide) ?_
        refine lv_aload_n hx hb dX10_count_159 rfl (lv_at hl 3 rfl) ?_
        refine lv_pc (pc2 := 160) rfl ?_
        obtain ⟨r_213, v_215, r_216, r_218, r_220, r_222, r_224, r_226, r_228, r_230, r_232, r_234, r_236, r_238, r_240, r_242, r_244, r_246, r_248, r_250, r_252, r_254, r_256, v_258, r_259, at_261, h_214, h_217, h_219, h_221, h_223, h_225, h_227, h_229, h_231, h_233, h_235, h_237, h_239, h_241, h_243, h_245, h_247, h_249, h_251, h_253, h_255, h_257, h_260⟩ := mF_o40 hG k_a0
        refine va_get (D := D) (ci := 9) (v := .ref r_226) (C := RX10) (T := TX10) (N := 36) hx hb hts in10 hown hK (va_one at_261) 0 rfl rfl 10 (by decide) (hts (.fieldLink RX10 28 "RiverModelModel" "m" "[J") (List.mem_of_getElem? (i := 8) rfl)) (fun _ h9 => h9) rfl dX10_count_160 ?_
        refine lv_sipush (v := 231) hx hb dX10_count_163 (by decide) ?_
        obtain ⟨f_262, at_263, h_264⟩ := mF_o47 hG h_227
        have b_265 : vp_in 231 280 := (q_in (by decide) (by decide))
        refine va_lald hx hb hK (va_one at_263) 0 1 rfl rfl b_265 dX10_count_166 ?_
        refine lv_topl (fun z_266 e_267 => ?_)
        have i_z_266 : z_266.toInt = gH := by rw [e_267]; exact gHr_ld h_264 (by decide)
        refine lv_l2i (v := z_266.toInt32) hx hb dX10_count_167 rfl ?_
        refine lv_topi (fun x_268 e_269 => ?_)
        exact ty_iret hx hb hr hlk hG hS True.intro dX10_count_168
      by_cases k_270 : a1.toInt = 5
      · refine lv_tableIn (tgt := 169) hx hb dX10_count_73 (by rw [k_270]; decide) (by rw [k_270]; decide) (by rw [k_270]; rfl) (by decide) ?_
        refine lv_aload_n hx hb dX10_count_169 rfl (lv_at hl 3 rfl) ?_
        obtain ⟨r_271, v_273, r_274, r_276, r_278, r_280, r_282, r_284, r_286, r_288, r_290, r_292, r_294, r_296, r_298, r_300, r_302, r_304, r_306, r_308, r_310, r_312, r_314, v_316, r_317, at_319, h_272, h_275, h_277, h_279, h_281, h_283, h_285, h_287, h_289, h_291, h_293, h_295, h_297, h_299, h_301, h_303, h_305, h_307, h_309, h_311, h_313, h_315, h_318⟩ := mF_o40 hG k_a0
        refine va_get (D := D) (ci := 9) (v := .ref r_304) (C := RX10) (T := TX10) (N := 36) hx hb hts in10 hown hK (va_one at_319) 0 rfl rfl 22 (by decide) (hts (.fieldLink RX10 59 "RiverModelModel" "knobMany" "[I") (List.mem_of_getElem? (i := 9) rfl)) (fun _ h9 => h9) rfl dX10_count_170 ?_
        refine lv_iconst (v := 0) hx hb dX10_count_173 (by decide) ?_
        refine lv_pc (pc2 := 174) rfl ?_
        obtain ⟨f_320, at_321, h_322⟩ := mF_o57 hG h_305
        have b_323 : vp_in 0 2 := (q_in (by decide) (by decide))
        refine va_iald hx hb hK (va_one at_321) 0 0 rfl rfl b_323 dX10_count_174 ?_
        refine lv_topi (fun x_324 e_325 => ?_)
        have i_x_324 := by have h := h_322 _ (q_inlt b_323); rw [← e_325] at h; exact h
        refine lv_if_le (tgt := 182) hx hb dX10_count_175 (by decide) (fun c_326 => ?_) (fun c_326 => ?_)
        · skip
          have c_326 : x_324.toInt ≤ 0 := q_le c_326
          refine lv_iconst (v := 0) hx hb dX10_count_182 (by decide) ?_
          refine lv_aload_n hx hb dX10_count_183 rfl (lv_at hl 3 rfl) ?_
          refine va_get (D := D) (ci := 9) (v := .ref r_304) (C := RX10) (T := TX10) (N := 36) hx hb hts in10 hown hK (va_one at_319) 0 rfl rfl 22 (by decide) (hts (.fieldLink RX10 59 "RiverModelModel" "knobMany" "[I") (List.mem_of_getElem? (i := 9) rfl)) (fun _ h9 => h9) rfl dX10_count_184 ?_
          refine lv_iconst (v := 1) hx hb dX10_count_187 (by decide) ?_
          have b_327 : vp_in 1 2 := (q_in (by decide) (by decide))
          refine va_iald hx hb hK (va_one at_321) 0 0 rfl rfl b_327 dX10_count_188 ?_
          refine lv_topi (fun x_328 e_329 => ?_)
          have i_x_328 := by have h := h_322 _ (q_inlt b_327); rw [← e_329] at h; exact h
          refine lv_if_le (tgt := 196) hx hb dX10_count_189 (by decide) (fun c_330 => ?_) (fun c_330 => ?_)
          · skip
            have c_330 : x_328.toInt ≤ 0 := q_le c_330
            refine lv_pc (pc2 := 196) rfl ?_
            refine lv_iconst (v := 0) hx hb dX10_count_196 (by decide) ?_
            refine lv_iadd hx hb dX10_count_197 ?_
            refine lv_seti (y := 0) (by decide) ?_
            have zi_0 : (0 : Int32).toInt = 0 := by decide
            exact ty_iret hx hb hr hlk hG hS True.intro dX10_count_198
          · skip
            have c_330 : 0 < x_328.toInt := q_nle c_330
            refine lv_iconst (v := 1) hx hb dX10_count_192 (by decide) ?_
            refine lv_goto (tgt := 197) hx hb dX10_count_193 (by decide) ?_
            refine lv_iadd hx hb dX10_count_197 ?_
            refine lv_seti (y := 1) (by decide) ?_
            have zi_1 : (1 : Int32).toInt = 1 := by decide
            exact ty_iret hx hb hr hlk hG hS True.intro dX10_count_198
        · skip
          have c_326 : 0 < x_324.toInt := q_nle c_326
          refine lv_iconst (v := 1) hx hb dX10_count_178 (by decide) ?_
          refine lv_pc (pc2 := 179) rfl ?_
          refine lv_goto (tgt := 183) hx hb dX10_count_179 (by decide) ?_
          refine lv_aload_n hx hb dX10_count_183 rfl (lv_at hl 3 rfl) ?_
          refine va_get (D := D) (ci := 9) (v := .ref r_304) (C := RX10) (T := TX10) (N := 36) hx hb hts in10 hown hK (va_one at_319) 0 rfl rfl 22 (by decide) (hts (.fieldLink RX10 59 "RiverModelModel" "knobMany" "[I") (List.mem_of_getElem? (i := 9) rfl)) (fun _ h9 => h9) rfl dX10_count_184 ?_
          refine lv_iconst (v := 1) hx hb dX10_count_187 (by decide) ?_
          have b_331 : vp_in 1 2 := (q_in (by decide) (by decide))
          refine va_iald hx hb hK (va_one at_321) 0 0 rfl rfl b_331 dX10_count_188 ?_
          refine lv_topi (fun x_332 e_333 => ?_)
          have i_x_332 := by have h := h_322 _ (q_inlt b_331); rw [← e_333] at h; exact h
          refine lv_if_le (tgt := 196) hx hb dX10_count_189 (by decide) (fun c_334 => ?_) (fun c_334 => ?_)
          · skip
            have c_334 : x_332.toInt ≤ 0 := q_le c_334
            refine lv_iconst (v := 0) hx hb dX10_count_196 (by decide) ?_
            refine lv_iadd hx hb dX10_count_197 ?_
            refine lv_seti (y := 1) (by decide) ?_
            refine lv_pc (pc2 := 198) rfl ?_
            have zi_1 : (1 : Int32).toInt = 1 := by decide
            exact ty_iret hx hb hr hlk hG hS True.intro dX10_count_198
          · skip
            have c_334 : 0 < x_332.toInt := q_nle c_334
            refine lv_iconst (v := 1) hx hb dX10_count_192 (by decide) ?_
            refine lv_goto (tgt := 197) hx hb dX10_count_193 (by decide) ?_
            refine lv_iadd hx hb dX10_count_197 ?_
            refine lv_seti (y := 2) (by decide) ?_
            have zi_2 : (2 : Int32).toInt = 2 := by decide
            exact ty_iret hx hb hr hlk hG hS True.intro dX10_count_198
      by_cases k_335 : a1.toInt = 6
      · refine lv_tableIn (tgt := 199) hx hb dX10_count_73 (by rw [k_335]; decide) (by rw [k_335]; decide) (by rw [k_335]; rfl) (by decide) ?_
        refine lv_iload_n hx hb dX10_count_199 rfl (lv_at hl 1 rfl) ?_
        exact ty_iret hx hb hr hlk hG hS True.intro dX10_count_200
      by_cases k_336 : a1.toInt = 7
      · refine lv_tableIn (tgt := 201) hx hb dX10_count_73 (by rw [k_336]; decide) (by rw [k_336]; decide) (by rw [k_336]; rfl) (by decide) ?_
        refine lv_iload_n hx hb dX10_count_201 rfl (lv_at hl 2 rfl) ?_
        refine lv_pc (pc2 := 202) rfl ?_
        exact ty_iret hx hb hr hlk hG hS True.intro dX10_count_202
      by_cases k_337 : a1.toInt = 8
      · refine lv_tableIn (tgt := 203) hx hb dX10_count_73 (by rw [k_337]; decide) (by rw [k_337]; decide) (by rw [k_337]; rfl) (by decide) ?_
        refine lv_aload_n hx hb dX10_count_203 rfl (lv_at hl 3 rfl) ?_
        obtain ⟨r_338, v_340, r_341, r_343, r_345, r_347, r_349, r_351, r_353, r_355, r_357, r_359, r_361, r_363, r_365, r_367, r_369, r_371, r_373, r_375, r_377, r_379, r_381, v_383, r_384, at_386, h_339, h_342, h_344, h_346, h_348, h_350, h_352, h_354, h_356, h_358, h_360, h_362, h_364, h_366, h_368, h_370, h_372, h_374, h_376, h_378, h_380, h_382, h_385⟩ := mF_o40 hG k_a0
        refine va_get (D := D) (ci := 9) (v := .int gM) (C := RX10) (T := TX10) (N := 36) hx hb hts in10 hown hK (va_one at_386) 0 rfl rfl 13 (by decide) (hts (.fieldLink RX10 180 "RiverModelModel" "keptMany" "I") (List.mem_of_getElem? (i := 10) rfl)) (fun _ h9 => h9) rfl dX10_count_204 ?_
        exact ty_iret hx hb hr hlk hG hS True.intro dX10_count_207
      refine lv_tableOut (tgt := 208) hx hb dX10_count_73 (by omega) (by decide) ?_
      refine lv_iconst (v := (-1)) hx hb dX10_count_208 (by decide) ?_
      have zi_m1 : ((-1) : Int32).toInt = (-1) := by decide
      exact ty_iret hx hb hr hlk hG hS True.intro dX10_count_209
    have lp2 : ∀ (kk2 : Nat) (yk : Int32) (yg : Int32) (H1 : Heap) (locs1 : List Loc) (ls1 : Array Slot), 4 - yk.toInt ≤ (kk2 : Int) → (0 ≤ yk.toInt) → (yk.toInt ≤ 4) → tG D (mF cI cL cC gC gE gW gA gT gI gS gM K F S N gH gJ ge gk gf gs gg gr RN) t H1 → tF t wr0 s.heap H1 locs1 → lv_has ls1 5 [(4, .int yk), (3, .int yg), (2, .int ys), (0, .ref a0), (1, .int a1)] → WW2 H1 locs1 (F0 m 42 ls1 []) := by
      intro kk2
      induction kk2 with
      | zero =>
        intro yk yg H locs ls hk2 v2_0 v2_1 hG hS hl
        refine (hWW2 _ _ _).mpr ?_
        refine lv_iload hx hb dX10_count_42 (lv_at hl 0 rfl) ?_
        refine lv_iconst (v := 4) hx hb dX10_count_44 (by decide) ?_
        refine lv_pc (pc2 := 45) rfl ?_
        refine lv_icmp_ge (tgt := 72) hx hb dX10_count_45 (by decide) (fun c_387 => ?_) (fun c_387 => ?_)
        · skip
          have c_387 : 4 ≤ yk.toInt := q_le c_387
          exact (hWW2 _ _ _).mp (kx2 yk yg H locs ls v2_0 v2_1 hG hS (lv_sub hl [0, 1, 2, 3, 4] rfl))
        · skip
          have c_387 : yk.toInt < 4 := q_nle c_387
          exfalso; omega
      | succ kk2 ih2 =>
        intro yk yg H locs ls hk2 v2_0 v2_1 hG hS hl
        refine (hWW2 _ _ _).mpr ?_
        refine lv_iload hx hb dX10_count_42 (lv_at hl 0 rfl) ?_
        refine lv_iconst (v := 4) hx hb dX10_count_44 (by decide) ?_
        refine lv_icmp_ge (tgt := 72) hx hb dX10_count_45 (by decide) (fun c_388 => ?_) (fun c_388 => ?_)
        · skip
          have c_388 : 4 ≤ yk.toInt := q_le c_388
          exact (hWW2 _ _ _).mp (kx2 yk yg H locs ls v2_0 v2_1 hG hS (lv_sub hl [0, 1, 2, 3, 4] rfl))
        · skip
          have c_388 : yk.toInt < 4 := q_nle c_388
          refine lv_iload_n hx hb dX10_count_48 rfl (lv_at hl 1 rfl) ?_
          refine lv_aload_n hx hb dX10_count_49 rfl (lv_at hl 3 rfl) ?_
          obtain ⟨r_389, v_391, r_392, r_394, r_396, r_398, r_400, r_402, r_404, r_406, r_408, r_410, r_412, r_414, r_416, r_418, r_420, r_422, r_424, r_426, r_428, r_430, r_432, v_434, r_435, at_437, h_390, h_393, h_395, h_397, h_399, h_401, h_403, h_405, h_407, h_409, h_411, h_413, h_415, h_417, h_419, h_421, h_423, h_425, h_427, h_429, h_431, h_433, h_436⟩ := mF_o40 hG k_a0
          refine va_get (D := D) (ci := 9) (v := .ref r_408) (C := RX10) (T := TX10) (N := 36) hx hb hts in10 hown hK (va_one at_437) 0 rfl rfl 14 (by decide) (hts (.fieldLink RX10 38 "RiverModelModel" "gaugeKind" "[I") (List.mem_of_getElem? (i := 11) rfl)) (fun _ h9 => h9) rfl dX10_count_50 ?_
          refine lv_iload hx hb dX10_count_53 (lv_at hl 0 rfl) ?_
          refine lv_pc (pc2 := 55) rfl ?_
          obtain ⟨f_438, at_439⟩ := mF_o50 hG h_409
          have b_440 : vp_in yk 4 := (q_in (by omega) (by omega))
          refine va_iald hx hb hK (va_one at_439) 0 0 rfl rfl b_440 dX10_count_55 ?_
          refine lv_topi (fun x_441 e_442 => ?_)
          refine lv_if_lt (tgt := 63) hx hb dX10_count_56 (by decide) (fun c_443 => ?_) (fun c_443 => ?_)
          · skip
            have c_443 : x_441.toInt < 0 := q_lt c_443
            refine lv_iconst (v := 0) hx hb dX10_count_63 (by decide) ?_
            refine lv_iadd hx hb dX10_count_64 ?_
            refine lv_topi (fun x_444 e_445 => ?_)
            refine lv_istore_n (lv' := [(3, .int x_444), (4, .int yk), (2, .int ys), (0, .ref a0), (1, .int a1)]) hx hb dX10_count_65 rfl hl (by decide) rfl (fun ls hl => ?_)
            obtain ⟨x_446, e_447⟩ : ∃ y : Int32, y = yk + Int32.ofInt 1 := ⟨_, rfl⟩
            have i_x_446 : x_446.toInt = yk.toInt + 1 := by rw [e_447, show Int32.ofInt 1 = 1 by decide]; exact (q_add (by rw [show (1 : Int32).toInt = 1 by decide]; omega) (by rw [show (1 : Int32).toInt = 1 by decide]; omega)).trans (by rw [show (1 : Int32).toInt = 1 by decide])
            refine lv_iinc (v := x_446) (lv' := [(4, .int x_446), (3, .int x_444), (2, .int ys), (0, .ref a0), (1, .int a1)]) hx hb dX10_count_66 hl (k := 1) rfl e_447.symm (by decide) rfl (fun ls hl => ?_)
            refine lv_goto (tgt := 42) hx hb dX10_count_69 (by decide) ?_
            exact (hWW2 _ _ _).mp (ih2 x_446 x_444 H locs ls (by omega) (by omega) (by omega) hG hS (lv_sub hl [0, 1, 2, 3, 4] rfl))
          · skip
            have c_443 : 0 ≤ x_441.toInt := q_nlt c_443
            refine lv_iconst (v := 1) hx hb dX10_count_59 (by decide) ?_
            refine lv_pc (pc2 := 60) rfl ?_
            refine lv_goto (tgt := 64) hx hb dX10_count_60 (by decide) ?_
            refine lv_iadd hx hb dX10_count_64 ?_
            refine lv_topi (fun x_448 e_449 => ?_)
            refine lv_istore_n (lv' := [(3, .int x_448), (4, .int yk), (2, .int ys), (0, .ref a0), (1, .int a1)]) hx hb dX10_count_65 rfl hl (by decide) rfl (fun ls hl => ?_)
            obtain ⟨x_450, e_451⟩ : ∃ y : Int32, y = yk + Int32.ofInt 1 := ⟨_, rfl⟩
            have i_x_450 : x_450.toInt = yk.toInt + 1 := by rw [e_451, show Int32.ofInt 1 = 1 by decide]; exact (q_add (by rw [show (1 : Int32).toInt = 1 by decide]; omega) (by rw [show (1 : Int32).toInt = 1 by decide]; omega)).trans (by rw [show (1 : Int32).toInt = 1 by decide])
            refine lv_iinc (v := x_450) (lv' := [(4, .int x_450), (3, .int x_448), (2, .int ys), (0, .ref a0), (1, .int a1)]) hx hb dX10_count_66 hl (k := 1) rfl e_451.symm (by decide) rfl (fun ls hl => ?_)
            refine lv_goto (tgt := 42) hx hb dX10_count_69 (by decide) ?_
            exact (hWW2 _ _ _).mp (ih2 x_450 x_448 H locs ls (by omega) (by omega) (by omega) hG hS (lv_sub hl [0, 1, 2, 3, 4] rfl))
    have zi_0 : (0 : Int32).toInt = 0 := by decide
    exact lp2 (4 - (0 : Int32).toInt : Int).toNat 0 0 H locs ls (by omega) (by omega) (by omega) hG hS (lv_sub hl [0, 1, 2, 3, 4] rfl)
  have lp1 : ∀ (kk1 : Nat) (yk : Int32) (ys : Int32) (H1 : Heap) (locs1 : List Loc) (ls1 : Array Slot), 384 - yk.toInt ≤ (kk1 : Int) → (0 ≤ yk.toInt) → (yk.toInt ≤ 384) → tG D (mF cI cL cC gC gE gW gA gT gI gS gM K F S N gH gJ ge gk gf gs gg gr RN) t H1 → tF t wr0 s.heap H1 locs1 → lv_has ls1 5 [(4, .int yk), (3, .int 0), (2, .int ys), (0, .ref a0), (1, .int a1)] → WW1 H1 locs1 (F0 m 7 ls1 []) := by
    intro kk1
    induction kk1 with
    | zero =>
      intro yk ys H locs ls hk1 v1_0 v1_1 hG hS hl
      refine (hWW1 _ _ _).mpr ?_
      refine lv_iload hx hb dX10_count_7 (lv_at hl 0 rfl) ?_
      refine lv_sipush (v := 384) hx hb dX10_count_9 (by decide) ?_
      refine lv_icmp_ge (tgt := 39) hx hb dX10_count_12 (by decide) (fun c_452 => ?_) (fun c_452 => ?_)
      · skip
        have c_452 : 384 ≤ yk.toInt := q_le c_452
        exact (hWW1 _ _ _).mp (kx1 yk ys H locs ls v1_0 v1_1 hG hS (lv_sub hl [0, 1, 2, 3, 4] rfl))
      · skip
        have c_452 : yk.toInt < 384 := q_nle c_452
        exfalso; omega
    | succ kk1 ih1 =>
      intro yk ys H locs ls hk1 v1_0 v1_1 hG hS hl
      refine (hWW1 _ _ _).mpr ?_
      refine lv_pc (pc2 := 7) rfl ?_
      refine lv_iload hx hb dX10_count_7 (lv_at hl 0 rfl) ?_
      refine lv_sipush (v := 384) hx hb dX10_count_9 (by decide) ?_
      refine lv_icmp_ge (tgt := 39) hx hb dX10_count_12 (by decide) (fun c_453 => ?_) (fun c_453 => ?_)
      · skip
        have c_453 : 384 ≤ yk.toInt := q_le c_453
        exact (hWW1 _ _ _).mp (kx1 yk ys H locs ls v1_0 v1_1 hG hS (lv_sub hl [0, 1, 2, 3, 4] rfl))
      · skip
        have c_453 : yk.toInt < 384 := q_nle c_453
        refine lv_iload_n hx hb dX10_count_15 rfl (lv_at hl 2 rfl) ?_
        refine lv_aload_n hx hb dX10_count_16 rfl (lv_at hl 3 rfl) ?_
        obtain ⟨r_454, v_456, r_457, r_459, r_461, r_463, r_465, r_467, r_469, r_471, r_473, r_475, r_477, r_479, r_481, r_483, r_485, r_487, r_489, r_491, r_493, r_495, r_497, v_499, r_500, at_502, h_455, h_458, h_460, h_462, h_464, h_466, h_468, h_470, h_472, h_474, h_476, h_478, h_480, h_482, h_484, h_486, h_488, h_490, h_492, h_494, h_496, h_498, h_501⟩ := mF_o40 hG k_a0
        refine va_get (D := D) (ci := 9) (v := .ref r_477) (C := RX10) (T := TX10) (N := 36) hx hb hts in10 hown hK (va_one at_502) 0 rfl rfl 16 (by decide) (hts (.fieldLink RX10 44 "RiverModelModel" "seen" "[I") (List.mem_of_getElem? (i := 12) rfl)) (fun _ h9 => h9) rfl dX10_count_17 ?_
        refine lv_iload hx hb dX10_count_20 (lv_at hl 0 rfl) ?_
        obtain ⟨f_503, at_504⟩ := mF_o52 hG h_478
        have b_505 : vp_in yk 384 := (q_in (by omega) (by omega))
        refine va_iald hx hb hK (va_one at_504) 0 0 rfl rfl b_505 dX10_count_22 ?_
        refine lv_topi (fun x_506 e_507 => ?_)
        refine lv_pc (pc2 := 23) rfl ?_
        refine lv_if_lt (tgt := 30) hx hb dX10_count_23 (by decide) (fun c_508 => ?_) (fun c_508 => ?_)
        · skip
          have c_508 : x_506.toInt < 0 := q_lt c_508
          refine lv_iconst (v := 0) hx hb dX10_count_30 (by decide) ?_
          refine lv_iadd hx hb dX10_count_31 ?_
          refine lv_topi (fun x_509 e_510 => ?_)
          refine lv_istore_n (lv' := [(2, .int x_509), (4, .int yk), (3, .int 0), (0, .ref a0), (1, .int a1)]) hx hb dX10_count_32 rfl hl (by decide) rfl (fun ls hl => ?_)
          obtain ⟨x_511, e_512⟩ : ∃ y : Int32, y = yk + Int32.ofInt 1 := ⟨_, rfl⟩
          have i_x_511 : x_511.toInt = yk.toInt + 1 := by rw [e_512, show Int32.ofInt 1 = 1 by decide]; exact (q_add (by rw [show (1 : Int32).toInt = 1 by decide]; omega) (by rw [show (1 : Int32).toInt = 1 by decide]; omega)).trans (by rw [show (1 : Int32).toInt = 1 by decide])
          refine lv_iinc (v := x_511) (lv' := [(4, .int x_511), (2, .int x_509), (3, .int 0), (0, .ref a0), (1, .int a1)]) hx hb dX10_count_33 hl (k := 1) rfl e_512.symm (by decide) rfl (fun ls hl => ?_)
          refine lv_goto (tgt := 7) hx hb dX10_count_36 (by decide) ?_
          exact (hWW1 _ _ _).mp (ih1 x_511 x_509 H locs ls (by omega) (by omega) (by omega) hG hS (lv_sub hl [0, 2, 1, 3, 4] rfl))
        · skip
          have c_508 : 0 ≤ x_506.toInt := q_nlt c_508
          refine lv_iconst (v := 1) hx hb dX10_count_26 (by decide) ?_
          refine lv_goto (tgt := 31) hx hb dX10_count_27 (by decide) ?_
          refine lv_pc (pc2 := 31) rfl ?_
          refine lv_iadd hx hb dX10_count_31 ?_
          refine lv_topi (fun x_513 e_514 => ?_)
          refine lv_istore_n (lv' := [(2, .int x_513), (4, .int yk), (3, .int 0), (0, .ref a0), (1, .int a1)]) hx hb dX10_count_32 rfl hl (by decide) rfl (fun ls hl => ?_)
          obtain ⟨x_515, e_516⟩ : ∃ y : Int32, y = yk + Int32.ofInt 1 := ⟨_, rfl⟩
          have i_x_515 : x_515.toInt = yk.toInt + 1 := by rw [e_516, show Int32.ofInt 1 = 1 by decide]; exact (q_add (by rw [show (1 : Int32).toInt = 1 by decide]; omega) (by rw [show (1 : Int32).toInt = 1 by decide]; omega)).trans (by rw [show (1 : Int32).toInt = 1 by decide])
          refine lv_iinc (v := x_515) (lv' := [(4, .int x_515), (2, .int x_513), (3, .int 0), (0, .ref a0), (1, .int a1)]) hx hb dX10_count_33 hl (k := 1) rfl e_516.symm (by decide) rfl (fun ls hl => ?_)
          refine lv_goto (tgt := 7) hx hb dX10_count_36 (by decide) ?_
          exact (hWW1 _ _ _).mp (ih1 x_515 x_513 H locs ls (by omega) (by omega) (by omega) hG hS (lv_sub hl [0, 2, 1, 3, 4] rfl))
  have zi_0 : (0 : Int32).toInt = 0 := by decide
  exact lp1 (384 - (0 : Int32).toInt : Int).toNat 0 0 H locs ls (by omega) (by omega) (by omega) hG hS (lv_sub hl [0, 1, 2, 3, 4] rfl)
