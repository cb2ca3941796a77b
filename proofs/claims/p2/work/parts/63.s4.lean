theorem dX5_prepare_0 : decode cX5_prepare 0 = .ok (.aload_n 0, 1) := by decide +kernel
theorem dX5_prepare_1 : decode cX5_prepare 1 = .ok (.iload_n 1, 1) := by decide +kernel
theorem dX5_prepare_2 : decode cX5_prepare 2 = .ok (.putfield 32, 3) := by decide +kernel
theorem dX5_prepare_5 : decode cX5_prepare 5 = .ok (.aload_n 0, 1) := by decide +kernel
theorem dX5_prepare_6 : decode cX5_prepare 6 = .ok (.iload_n 2, 1) := by decide +kernel
theorem dX5_prepare_7 : decode cX5_prepare 7 = .ok (.putfield 36, 3) := by decide +kernel
theorem dX5_prepare_10 : decode cX5_prepare 10 = .ok (.aload_n 0, 1) := by decide +kernel
theorem dX5_prepare_11 : decode cX5_prepare 11 = .ok (.iload_n 3, 1) := by decide +kernel
theorem dX5_prepare_12 : decode cX5_prepare 12 = .ok (.putfield 39, 3) := by decide +kernel
theorem dX5_prepare_15 : decode cX5_prepare 15 = .ok (.aload_n 0, 1) := by decide +kernel
theorem dX5_prepare_16 : decode cX5_prepare 16 = .ok (.iload 4, 2) := by decide +kernel
theorem dX5_prepare_18 : decode cX5_prepare 18 = .ok (.putfield 42, 3) := by decide +kernel
theorem dX5_prepare_21 : decode cX5_prepare 21 = .ok (.aload_n 0, 1) := by decide +kernel
theorem dX5_prepare_22 : decode cX5_prepare 22 = .ok (.lload 5, 2) := by decide +kernel
theorem dX5_prepare_24 : decode cX5_prepare 24 = .ok (.putfield 45, 3) := by decide +kernel
theorem dX5_prepare_27 : decode cX5_prepare 27 = .ok (.aload_n 0, 1) := by decide +kernel
theorem dX5_prepare_28 : decode cX5_prepare 28 = .ok (.iconst 0, 1) := by decide +kernel
theorem dX5_prepare_29 : decode cX5_prepare 29 = .ok (.putfield 24, 3) := by decide +kernel
theorem dX5_prepare_32 : decode cX5_prepare 32 = .ok (.return_, 1) := by decide +kernel
theorem dX5_tryBlock_0 : decode cX5_tryBlock 0 = .ok (.iload 5, 2) := by decide +kernel
theorem dX5_tryBlock_2 : decode cX5_tryBlock 2 = .ok (.iconst 0, 1) := by decide +kernel
theorem dX5_tryBlock_3 : decode cX5_tryBlock 3 = .ok (.iconst 3, 1) := by decide +kernel
theorem dX5_tryBlock_4 : decode cX5_tryBlock 4 = .ok (.invokestatic 49, 3) := by decide +kernel
theorem dX5_tryBlock_7 : decode cX5_tryBlock 7 = .ok (.ifCond .eq 4, 3) := by decide +kernel
theorem dX5_tryBlock_10 : decode cX5_tryBlock 10 = .ok (.return_, 1) := by decide +kernel
theorem dX5_tryBlock_11 : decode cX5_tryBlock 11 = .ok (.aload_n 0, 1) := by decide +kernel
theorem dX5_tryBlock_12 : decode cX5_tryBlock 12 = .ok (.getfield 11, 3) := by decide +kernel
theorem dX5_tryBlock_15 : decode cX5_tryBlock 15 = .ok (.iload 5, 2) := by decide +kernel
theorem dX5_tryBlock_17 : decode cX5_tryBlock 17 = .ok (.aaload, 1) := by decide +kernel
theorem dX5_tryBlock_18 : decode cX5_tryBlock 18 = .ok (.astore 8, 2) := by decide +kernel
theorem dX5_tryBlock_20 : decode cX5_tryBlock 20 = .ok (.iconst 0, 1) := by decide +kernel
theorem dX5_tryBlock_21 : decode cX5_tryBlock 21 = .ok (.istore 9, 2) := by decide +kernel
theorem dX5_tryBlock_23 : decode cX5_tryBlock 23 = .ok (.iload 9, 2) := by decide +kernel
theorem dX5_tryBlock_25 : decode cX5_tryBlock 25 = .ok (.bipush 10, 2) := by decide +kernel
theorem dX5_tryBlock_27 : decode cX5_tryBlock 27 = .ok (.if_icmp .gt 99, 3) := by decide +kernel
theorem dX5_tryBlock_30 : decode cX5_tryBlock 30 = .ok (.aload_n 0, 1) := by decide +kernel
theorem dX5_tryBlock_31 : decode cX5_tryBlock 31 = .ok (.getfield 17, 3) := by decide +kernel
theorem dX5_tryBlock_34 : decode cX5_tryBlock 34 = .ok (.iload 5, 2) := by decide +kernel
theorem dX5_tryBlock_36 : decode cX5_tryBlock 36 = .ok (.iload 9, 2) := by decide +kernel
theorem dX5_tryBlock_38 : decode cX5_tryBlock 38 = .ok (.iastore, 1) := by decide +kernel
theorem dX5_tryBlock_39 : decode cX5_tryBlock 39 = .ok (.aload 8, 2) := by decide +kernel
theorem dX5_tryBlock_41 : decode cX5_tryBlock 41 = .ok (.aload 4, 2) := by decide +kernel
theorem dX5_tryBlock_43 : decode cX5_tryBlock 43 = .ok (.invokevirtual 53, 3) := by decide +kernel
theorem dX5_tryBlock_46 : decode cX5_tryBlock 46 = .ok (.aload_n 0, 1) := by decide +kernel
theorem dX5_tryBlock_47 : decode cX5_tryBlock 47 = .ok (.aload_n 1, 1) := by decide +kernel
theorem dX5_tryBlock_48 : decode cX5_tryBlock 48 = .ok (.aload_n 2, 1) := by decide +kernel
theorem dX5_tryBlock_49 : decode cX5_tryBlock 49 = .ok (.aload_n 3, 1) := by decide +kernel
theorem dX5_tryBlock_50 : decode cX5_tryBlock 50 = .ok (.aload 8, 2) := by decide +kernel
theorem dX5_tryBlock_52 : decode cX5_tryBlock 52 = .ok (.iload 9, 2) := by decide +kernel
theorem dX5_tryBlock_54 : decode cX5_tryBlock 54 = .ok (.lload 6, 2) := by decide +kernel
theorem dX5_tryBlock_56 : decode cX5_tryBlock 56 = .ok (.invokevirtual 57, 3) := by decide +kernel
theorem dX5_tryBlock_59 : decode cX5_tryBlock 59 = .ok (.lstore 10, 2) := by decide +kernel
theorem dX5_tryBlock_61 : decode cX5_tryBlock 61 = .ok (.lload 10, 2) := by decide +kernel
theorem dX5_tryBlock_63 : decode cX5_tryBlock 63 = .ok (.ldc2_w 61, 3) := by decide +kernel
theorem dX5_tryBlock_66 : decode cX5_tryBlock 66 = .ok (.lcmp, 1) := by decide +kernel
theorem dX5_tryBlock_67 : decode cX5_tryBlock 67 = .ok (.ifCond .eq 53, 3) := by decide +kernel
theorem dX5_tryBlock_70 : decode cX5_tryBlock 70 = .ok (.aload_n 0, 1) := by decide +kernel
theorem dX5_tryBlock_71 : decode cX5_tryBlock 71 = .ok (.getfield 24, 3) := by decide +kernel
theorem dX5_tryBlock_74 : decode cX5_tryBlock 74 = .ok (.ifCond .eq 16, 3) := by decide +kernel
theorem dX5_tryBlock_77 : decode cX5_tryBlock 77 = .ok (.lload 10, 2) := by decide +kernel
theorem dX5_tryBlock_79 : decode cX5_tryBlock 79 = .ok (.aload_n 0, 1) := by decide +kernel
theorem dX5_tryBlock_80 : decode cX5_tryBlock 80 = .ok (.getfield 28, 3) := by decide +kernel
theorem dX5_tryBlock_83 : decode cX5_tryBlock 83 = .ok (.lcmp, 1) := by decide +kernel
theorem dX5_tryBlock_84 : decode cX5_tryBlock 84 = .ok (.ifCond .lt 6, 3) := by decide +kernel
theorem dX5_tryBlock_87 : decode cX5_tryBlock 87 = .ok (.goto 33, 3) := by decide +kernel
theorem dX5_tryBlock_90 : decode cX5_tryBlock 90 = .ok (.iload 5, 2) := by decide +kernel
theorem dX5_tryBlock_92 : decode cX5_tryBlock 92 = .ok (.iconst 3, 1) := by decide +kernel
theorem dX5_tryBlock_93 : decode cX5_tryBlock 93 = .ok (.if_icmp .ne 12, 3) := by decide +kernel
theorem dX5_tryBlock_96 : decode cX5_tryBlock 96 = .ok (.aload_n 0, 1) := by decide +kernel
theorem dX5_tryBlock_97 : decode cX5_tryBlock 97 = .ok (.lload 10, 2) := by decide +kernel
theorem dX5_tryBlock_99 : decode cX5_tryBlock 99 = .ok (.invokevirtual 63, 3) := by decide +kernel
theorem dX5_tryBlock_102 : decode cX5_tryBlock 102 = .ok (.goto 18, 3) := by decide +kernel
theorem dX5_tryBlock_105 : decode cX5_tryBlock 105 = .ok (.aload_n 0, 1) := by decide +kernel
theorem dX5_tryBlock_106 : decode cX5_tryBlock 106 = .ok (.aload_n 1, 1) := by decide +kernel
theorem dX5_tryBlock_107 : decode cX5_tryBlock 107 = .ok (.aload_n 2, 1) := by decide +kernel
theorem dX5_tryBlock_108 : decode cX5_tryBlock 108 = .ok (.aload_n 3, 1) := by decide +kernel
theorem dX5_tryBlock_109 : decode cX5_tryBlock 109 = .ok (.aload 8, 2) := by decide +kernel
theorem dX5_tryBlock_111 : decode cX5_tryBlock 111 = .ok (.iload 5, 2) := by decide +kernel
theorem dX5_tryBlock_113 : decode cX5_tryBlock 113 = .ok (.iconst 1, 1) := by decide +kernel
theorem dX5_tryBlock_114 : decode cX5_tryBlock 114 = .ok (.iadd, 1) := by decide +kernel
theorem dX5_tryBlock_115 : decode cX5_tryBlock 115 = .ok (.lload 10, 2) := by decide +kernel
theorem dX5_tryBlock_117 : decode cX5_tryBlock 117 = .ok (.invokevirtual 67, 3) := by decide +kernel
theorem dX5_tryBlock_120 : decode cX5_tryBlock 120 = .ok (.iinc 9 2, 3) := by decide +kernel
theorem dX5_tryBlock_123 : decode cX5_tryBlock 123 = .ok (.goto (-100), 3) := by decide +kernel
theorem dX5_tryBlock_126 : decode cX5_tryBlock 126 = .ok (.return_, 1) := by decide +kernel
theorem dX5_peakOfBlock_0 : decode cX5_peakOfBlock 0 = .ok (.aload_n 0, 1) := by decide +kernel
theorem dX5_peakOfBlock_1 : decode cX5_peakOfBlock 1 = .ok (.getfield 32, 3) := by decide +kernel
theorem dX5_peakOfBlock_4 : decode cX5_peakOfBlock 4 = .ok (.invokestatic 71, 3) := by decide +kernel
theorem dX5_peakOfBlock_7 : decode cX5_peakOfBlock 7 = .ok (.ifCond .ne 13, 3) := by decide +kernel
theorem dX5_peakOfBlock_10 : decode cX5_peakOfBlock 10 = .ok (.aload_n 0, 1) := by decide +kernel
theorem dX5_peakOfBlock_11 : decode cX5_peakOfBlock 11 = .ok (.getfield 42, 3) := by decide +kernel
theorem dX5_peakOfBlock_14 : decode cX5_peakOfBlock 14 = .ok (.invokestatic 75, 3) := by decide +kernel
theorem dX5_peakOfBlock_17 : decode cX5_peakOfBlock 17 = .ok (.ifCond .eq 7, 3) := by decide +kernel
theorem dX5_peakOfBlock_20 : decode cX5_peakOfBlock 20 = .ok (.ldc2_w 61, 3) := by decide +kernel
theorem dX5_peakOfBlock_23 : decode cX5_peakOfBlock 23 = .ok (.lreturn, 1) := by decide +kernel
theorem dX5_peakOfBlock_24 : decode cX5_peakOfBlock 24 = .ok (.aload 4, 2) := by decide +kernel
theorem dX5_peakOfBlock_26 : decode cX5_peakOfBlock 26 = .ok (.getfield 78, 3) := by decide +kernel
theorem dX5_peakOfBlock_29 : decode cX5_peakOfBlock 29 = .ok (.aload_n 0, 1) := by decide +kernel
theorem dX5_peakOfBlock_30 : decode cX5_peakOfBlock 30 = .ok (.getfield 32, 3) := by decide +kernel
theorem dX5_peakOfBlock_33 : decode cX5_peakOfBlock 33 = .ok (.iload 5, 2) := by decide +kernel
theorem dX5_peakOfBlock_35 : decode cX5_peakOfBlock 35 = .ok (.iastore, 1) := by decide +kernel
theorem dX5_peakOfBlock_36 : decode cX5_peakOfBlock 36 = .ok (.lload 6, 2) := by decide +kernel
theorem dX5_peakOfBlock_38 : decode cX5_peakOfBlock 38 = .ok (.lstore 8, 2) := by decide +kernel
theorem dX5_peakOfBlock_40 : decode cX5_peakOfBlock 40 = .ok (.iconst 0, 1) := by decide +kernel
theorem dX5_peakOfBlock_41 : decode cX5_peakOfBlock 41 = .ok (.istore 10, 2) := by decide +kernel
theorem dX5_peakOfBlock_43 : decode cX5_peakOfBlock 43 = .ok (.iload 10, 2) := by decide +kernel
theorem dX5_peakOfBlock_45 : decode cX5_peakOfBlock 45 = .ok (.aload_n 0, 1) := by decide +kernel
theorem dX5_peakOfBlock_46 : decode cX5_peakOfBlock 46 = .ok (.getfield 36, 3) := by decide +kernel
theorem dX5_peakOfBlock_49 : decode cX5_peakOfBlock 49 = .ok (.if_icmp .ge 72, 3) := by decide +kernel
theorem dX5_peakOfBlock_52 : decode cX5_peakOfBlock 52 = .ok (.aload 4, 2) := by decide +kernel
theorem dX5_peakOfBlock_54 : decode cX5_peakOfBlock 54 = .ok (.aload_n 1, 1) := by decide +kernel
theorem dX5_peakOfBlock_55 : decode cX5_peakOfBlock 55 = .ok (.aload_n 2, 1) := by decide +kernel
theorem dX5_peakOfBlock_56 : decode cX5_peakOfBlock 56 = .ok (.aload 4, 2) := by decide +kernel
theorem dX5_peakOfBlock_58 : decode cX5_peakOfBlock 58 = .ok (.getfield 81, 3) := by decide +kernel
theorem dX5_peakOfBlock_61 : decode cX5_peakOfBlock 61 = .ok (.invokevirtual 84, 3) := by decide +kernel
theorem dX5_peakOfBlock_64 : decode cX5_peakOfBlock 64 = .ok (.aload_n 2, 1) := by decide +kernel
theorem dX5_peakOfBlock_65 : decode cX5_peakOfBlock 65 = .ok (.aload 4, 2) := by decide +kernel
theorem dX5_peakOfBlock_67 : decode cX5_peakOfBlock 67 = .ok (.getfield 81, 3) := by decide +kernel
theorem dX5_peakOfBlock_70 : decode cX5_peakOfBlock 70 = .ok (.invokevirtual 90, 3) := by decide +kernel
theorem dX5_peakOfBlock_73 : decode cX5_peakOfBlock 73 = .ok (.invokevirtual 93, 3) := by decide +kernel
theorem dX5_peakOfBlock_76 : decode cX5_peakOfBlock 76 = .ok (.aload 4, 2) := by decide +kernel
theorem dX5_peakOfBlock_78 : decode cX5_peakOfBlock 78 = .ok (.getfield 97, 3) := by decide +kernel
theorem dX5_peakOfBlock_81 : decode cX5_peakOfBlock 81 = .ok (.aload_n 0, 1) := by decide +kernel
theorem dX5_peakOfBlock_82 : decode cX5_peakOfBlock 82 = .ok (.getfield 42, 3) := by decide +kernel
theorem dX5_peakOfBlock_85 : decode cX5_peakOfBlock 85 = .ok (.laload, 1) := by decide +kernel
theorem dX5_peakOfBlock_86 : decode cX5_peakOfBlock 86 = .ok (.aload_n 0, 1) := by decide +kernel
theorem dX5_peakOfBlock_87 : decode cX5_peakOfBlock 87 = .ok (.getfield 45, 3) := by decide +kernel
theorem dX5_peakOfBlock_90 : decode cX5_peakOfBlock 90 = .ok (.lcmp, 1) := by decide +kernel
theorem dX5_peakOfBlock_91 : decode cX5_peakOfBlock 91 = .ok (.ifCond .le 7, 3) := by decide +kernel
theorem dX5_peakOfBlock_94 : decode cX5_peakOfBlock 94 = .ok (.ldc2_w 61, 3) := by decide +kernel
theorem dX5_peakOfBlock_97 : decode cX5_peakOfBlock 97 = .ok (.lreturn, 1) := by decide +kernel
theorem dX5_peakOfBlock_98 : decode cX5_peakOfBlock 98 = .ok (.lload 8, 2) := by decide +kernel
theorem dX5_peakOfBlock_100 : decode cX5_peakOfBlock 100 = .ok (.aload_n 3, 1) := by decide +kernel
theorem dX5_peakOfBlock_101 : decode cX5_peakOfBlock 101 = .ok (.aload 4, 2) := by decide +kernel
theorem dX5_peakOfBlock_103 : decode cX5_peakOfBlock 103 = .ok (.aload_n 0, 1) := by decide +kernel
theorem dX5_peakOfBlock_104 : decode cX5_peakOfBlock 104 = .ok (.getfield 39, 3) := by decide +kernel
theorem dX5_peakOfBlock_107 : decode cX5_peakOfBlock 107 = .ok (.invokevirtual 101, 3) := by decide +kernel
theorem dX5_peakOfBlock_110 : decode cX5_peakOfBlock 110 = .ok (.invokestatic 107, 3) := by decide +kernel
theorem dX5_peakOfBlock_113 : decode cX5_peakOfBlock 113 = .ok (.lstore 8, 2) := by decide +kernel
theorem dX5_peakOfBlock_115 : decode cX5_peakOfBlock 115 = .ok (.iinc 10 1, 3) := by decide +kernel
theorem dX5_peakOfBlock_118 : decode cX5_peakOfBlock 118 = .ok (.goto (-75), 3) := by decide +kernel
theorem dX5_peakOfBlock_121 : decode cX5_peakOfBlock 121 = .ok (.lload 8, 2) := by decide +kernel
theorem dX5_peakOfBlock_123 : decode cX5_peakOfBlock 123 = .ok (.lreturn, 1) := by decide +kernel
theorem dX5_takeTried_0 : decode cX5_takeTried 0 = .ok (.aload_n 0, 1) := by decide +kernel
theorem dX5_takeTried_1 : decode cX5_takeTried 1 = .ok (.iconst 1, 1) := by decide +kernel
theorem dX5_takeTried_2 : decode cX5_takeTried 2 = .ok (.putfield 24, 3) := by decide +kernel
theorem dX5_takeTried_5 : decode cX5_takeTried 5 = .ok (.aload_n 0, 1) := by decide +kernel
theorem dX5_takeTried_6 : decode cX5_takeTried 6 = .ok (.lload_n 1, 1) := by decide +kernel
theorem dX5_takeTried_7 : decode cX5_takeTried 7 = .ok (.putfield 28, 3) := by decide +kernel
theorem dX5_takeTried_10 : decode cX5_takeTried 10 = .ok (.aload_n 0, 1) := by decide +kernel
theorem dX5_takeTried_11 : decode cX5_takeTried 11 = .ok (.getfield 17, 3) := by decide +kernel
theorem dX5_takeTried_14 : decode cX5_takeTried 14 = .ok (.iconst 0, 1) := by decide +kernel
theorem dX5_takeTried_15 : decode cX5_takeTried 15 = .ok (.aload_n 0, 1) := by decide +kernel
theorem dX5_takeTried_16 : decode cX5_takeTried 16 = .ok (.getfield 21, 3) := by decide +kernel
theorem dX5_takeTried_19 : decode cX5_takeTried 19 = .ok (.iconst 0, 1) := by decide +kernel
theorem dX5_takeTried_20 : decode cX5_takeTried 20 = .ok (.iconst 4, 1) := by decide +kernel
theorem dX5_takeTried_21 : decode cX5_takeTried 21 = .ok (.invokestatic 113, 3) := by decide +kernel
theorem dX5_takeTried_24 : decode cX5_takeTried 24 = .ok (.return_, 1) := by decide +kernel
theorem dX8_rainAhead_0 : decode cX8_rainAhead 0 = .ok (.iload_n 1, 1) := by decide +kernel
theorem dX8_rainAhead_1 : decode cX8_rainAhead 1 = .ok (.invokestatic 25, 3) := by decide +kernel
theorem dX8_rainAhead_4 : decode cX8_rainAhead 4 = .ok (.ifCond .ne 13, 3) := by decide +kernel
theorem dX8_rainAhead_7 : decode cX8_rainAhead 7 = .ok (.iload_n 2, 1) := by decide +kernel
theorem dX8_rainAhead_8 : decode cX8_rainAhead 8 = .ok (.iconst 0, 1) := by decide +kernel
theorem dX8_rainAhead_9 : decode cX8_rainAhead 9 = .ok (.bipush 23, 2) := by decide +kernel
theorem dX8_rainAhead_11 : decode cX8_rainAhead 11 = .ok (.invokestatic 29, 3) := by decide +kernel
theorem dX8_rainAhead_14 : decode cX8_rainAhead 14 = .ok (.ifCond .eq 7, 3) := by decide +kernel
theorem dX8_rainAhead_17 : decode cX8_rainAhead 17 = .ok (.iconst 0, 1) := by decide +kernel
theorem dX8_rainAhead_18 : decode cX8_rainAhead 18 = .ok (.goto 14, 3) := by decide +kernel
theorem dX8_rainAhead_21 : decode cX8_rainAhead 21 = .ok (.aload_n 0, 1) := by decide +kernel
theorem dX8_rainAhead_22 : decode cX8_rainAhead 22 = .ok (.getfield 18, 3) := by decide +kernel
theorem dX8_rainAhead_25 : decode cX8_rainAhead 25 = .ok (.iload_n 1, 1) := by decide +kernel
theorem dX8_rainAhead_26 : decode cX8_rainAhead 26 = .ok (.bipush 24, 2) := by decide +kernel
theorem dX8_rainAhead_28 : decode cX8_rainAhead 28 = .ok (.imul, 1) := by decide +kernel
theorem dX8_rainAhead_29 : decode cX8_rainAhead 29 = .ok (.iload_n 2, 1) := by decide +kernel
theorem dX8_rainAhead_30 : decode cX8_rainAhead 30 = .ok (.iadd, 1) := by decide +kernel
theorem dX8_rainAhead_31 : decode cX8_rainAhead 31 = .ok (.iaload, 1) := by decide +kernel
theorem dX8_rainAhead_32 : decode cX8_rainAhead 32 = .ok (.ireturn, 1) := by decide +kernel
theorem dX8_weightOfAll_0 : decode cX8_weightOfAll 0 = .ok (.iconst 0, 1) := by decide +kernel
theorem dX8_weightOfAll_1 : decode cX8_weightOfAll 1 = .ok (.istore_n 1, 1) := by decide +kernel
theorem dX8_weightOfAll_2 : decode cX8_weightOfAll 2 = .ok (.iconst 0, 1) := by decide +kernel
theorem dX8_weightOfAll_3 : decode cX8_weightOfAll 3 = .ok (.istore_n 2, 1) := by decide +kernel
theorem dX8_weightOfAll_4 : decode cX8_weightOfAll 4 = .ok (.iload_n 2, 1) := by decide +kernel
theorem dX8_weightOfAll_5 : decode cX8_weightOfAll 5 = .ok (.iconst 4, 1) := by decide +kernel
theorem dX8_weightOfAll_6 : decode cX8_weightOfAll 6 = .ok (.if_icmp .ge 18, 3) := by decide +kernel
theorem dX8_weightOfAll_9 : decode cX8_weightOfAll 9 = .ok (.iload_n 1, 1) := by decide +kernel
theorem dX8_weightOfAll_10 : decode cX8_weightOfAll 10 = .ok (.aload_n 0, 1) := by decide +kernel
theorem dX8_weightOfAll_11 : decode cX8_weightOfAll 11 = .ok (.getfield 9, 3) := by decide +kernel
theorem dX8_weightOfAll_14 : decode cX8_weightOfAll 14 = .ok (.iload_n 2, 1) := by decide +kernel
theorem dX8_weightOfAll_15 : decode cX8_weightOfAll 15 = .ok (.iaload, 1) := by decide +kernel
theorem dX8_weightOfAll_16 : decode cX8_weightOfAll 16 = .ok (.iadd, 1) := by decide +kernel
theorem dX8_weightOfAll_17 : decode cX8_weightOfAll 17 = .ok (.istore_n 1, 1) := by decide +kernel
theorem dX8_weightOfAll_18 : decode cX8_weightOfAll 18 = .ok (.iinc 2 1, 3) := by decide +kernel
theorem dX8_weightOfAll_21 : decode cX8_weightOfAll 21 = .ok (.goto (-17), 3) := by decide +kernel
theorem dX8_weightOfAll_24 : decode cX8_weightOfAll 24 = .ok (.iload_n 1, 1) := by decide +kernel
theorem dX8_weightOfAll_25 : decode cX8_weightOfAll 25 = .ok (.ireturn, 1) := by decide +kernel
theorem dX8_enter_0 : decode cX8_enter 0 = .ok (.iload_n 1, 1) := by decide +kernel
theorem dX8_enter_1 : decode cX8_enter 1 = .ok (.ifCond .eq 24, 3) := by decide +kernel
theorem dX8_enter_4 : decode cX8_enter 4 = .ok (.aload_n 0, 1) := by decide +kernel
theorem dX8_enter_5 : decode cX8_enter 5 = .ok (.getfield 15, 3) := by decide +kernel
theorem dX8_enter_8 : decode cX8_enter 8 = .ok (.iload_n 2, 1) := by decide +kernel
theorem dX8_enter_9 : decode cX8_enter 9 = .ok (.ifCond .eq 7, 3) := by decide +kernel
theorem dX8_enter_12 : decode cX8_enter 12 = .ok (.iconst 0, 1) := by decide +kernel
theorem dX8_enter_13 : decode cX8_enter 13 = .ok (.goto 4, 3) := by decide +kernel
theorem dX8_enter_16 : decode cX8_enter 16 = .ok (.iconst 1, 1) := by decide +kernel
theorem dX8_enter_17 : decode cX8_enter 17 = .ok (.dup2, 1) := by decide +kernel
theorem dX8_enter_18 : decode cX8_enter 18 = .ok (.iaload, 1) := by decide +kernel
theorem dX8_enter_19 : decode cX8_enter 19 = .ok (.iconst 1, 1) := by decide +kernel
theorem dX8_enter_20 : decode cX8_enter 20 = .ok (.iadd, 1) := by decide +kernel
theorem dX8_enter_21 : decode cX8_enter 21 = .ok (.iastore, 1) := by decide +kernel
theorem dX8_enter_22 : decode cX8_enter 22 = .ok (.goto 21, 3) := by decide +kernel
theorem dX8_enter_25 : decode cX8_enter 25 = .ok (.aload_n 0, 1) := by decide +kernel
theorem dX8_enter_26 : decode cX8_enter 26 = .ok (.getfield 15, 3) := by decide +kernel
theorem dX8_enter_29 : decode cX8_enter 29 = .ok (.iload_n 2, 1) := by decide +kernel
theorem dX8_enter_30 : decode cX8_enter 30 = .ok (.ifCond .eq 7, 3) := by decide +kernel
theorem dX8_enter_33 : decode cX8_enter 33 = .ok (.iconst 2, 1) := by decide +kernel
theorem dX8_enter_34 : decode cX8_enter 34 = .ok (.goto 4, 3) := by decide +kernel
theorem dX8_enter_37 : decode cX8_enter 37 = .ok (.iconst 3, 1) := by decide +kernel
theorem dX8_enter_38 : decode cX8_enter 38 = .ok (.dup2, 1) := by decide +kernel
theorem dX8_enter_39 : decode cX8_enter 39 = .ok (.iaload, 1) := by decide +kernel
theorem dX8_enter_40 : decode cX8_enter 40 = .ok (.iconst 1, 1) := by decide +kernel
theorem dX8_enter_41 : decode cX8_enter 41 = .ok (.iadd, 1) := by decide +kernel
theorem dX8_enter_42 : decode cX8_enter 42 = .ok (.iastore, 1) := by decide +kernel
theorem dX8_enter_43 : decode cX8_enter 43 = .ok (.return_, 1) := by decide +kernel
def uX8_rainAhead : List Cond := .code yX8_rainAhead cX8_rainAhead 3 (some .int) :: ([.initialized RX9, .static yX9_isNoWorld, .static yX9_isOutside, .fieldLink RX8 18 "RiverModel$Worlds" "rains" "[I", .code yX9_isNoWorld cX9_isNoWorld 1 (some .boolean), .code yX9_isOutside cX9_isOutside 3 (some .boolean)] ++ wsX80)
set_option maxRecDepth 20000 in
theorem gu_X8_rainAhead_X9_isNoWorld_n : GoodIn uX8_rainAhead (uX9_isNoWorld) := goodIn_r _ [5] rfl (by decide +kernel)
set_option maxRecDepth 20000 in
theorem gu_X8_rainAhead_X9_isOutside_n : GoodIn uX8_rainAhead (uX9_isOutside) := goodIn_r _ [6] rfl (by decide +kernel)
set_option maxHeartbeats 4000000 in
set_option maxRecDepth 100000 in
theorem s_X8_rainAhead (l : Launch) (D : va_G) (t : Nat → Nat) (cI cL cC : ClassId) (gC : Int32) (gE : Int32) (G : Nat) (gW : Nat → Int32) (gA : Nat → Int32) (a0 : Nat) (a1 : Int32) (a2 : Int32) (k_a0 : t a0 = 8) : tM l yX8_rainAhead uX8_rainAhead 1 22 D (gF cI cL cC gC gE G gW gA) (gF cI cL cC gC gE G gW gA) t cI cL cC [.ref a0, .int a1, .int a2] wr0 (pI (fun r => True)) := by
  refine tM.ofW (cc := cX8_rainAhead) (maxL := 3) (ret := (some .int)) (by decide) rfl (Nat.le_of_ble_eq_true rfl) ?_
  intro p e s m below meth c hx hb hr hml hown hts hlk H locs hG hK hE hS ls hl
  have hl : lv_has ls 3 [(0, .ref a0), (1, .int a1), (2, .int a2)] := hl
  have in8 : ∀ w ∈ wsX80, w ∈ uX8_rainAhead := fun w h => List.mem_cons_of_mem _ (List.mem_append_right _ h)
  refine lv_iload_n hx hb dX8_rainAhead_0 rfl (lv_at hl 1 rfl) ?_
  refine ty_calli (tRun (va_runSN (As := [.int a1]) (rest := []) ⟨hx, hb, hml, hown, hts⟩ (s_X9_isNoWorld l D t cI cL cC gC gE G gW gA a1 ) ⟨(va_cnB 1 hts gu_X8_rainAhead_X9_isNoWorld_n rfl rfl rfl (hE.2.1 _ (List.mem_of_getElem? (i := 20) rfl)) (hts (.initialized RX9) (List.mem_of_getElem? (i := 1) rfl)) (by decide +kernel) ⟨Nat.le_of_ble_eq_true rfl, Nat.le_of_ble_eq_true rfl⟩), (hts (.static yX9_isNoWorld) (List.mem_of_getElem? (i := 2) rfl)), trivial⟩ (tP_S hG hE) rfl rfl hl.1 rfl (lv_room (Nat.le_of_ble_eq_true rfl)) dX8_rainAhead_1 ⟨Nat.le_of_ble_eq_true rfl, Nat.le_of_ble_eq_true rfl⟩)) hS (fun _ h => h) (fun r_1 H locs hp_2 hG hS o_3 => ?_)
  rcases hp_2 with ⟨rfl, hc_97⟩ | ⟨rfl, hc_98, hc_99⟩
  · skip
    refine lv_if_ne (tgt := 17) hx hb dX8_rainAhead_4 (by decide) (fun _ => ?_) (fun q => absurd q (by decide))
    refine lv_iconst (v := 0) hx hb dX8_rainAhead_17 (by decide) ?_
    refine lv_goto (tgt := 32) hx hb dX8_rainAhead_18 (by decide) ?_
    exact ty_iret hx hb hr hlk hG hS True.intro dX8_rainAhead_32
  · skip
    refine lv_if_ne (tgt := 17) hx hb dX8_rainAhead_4 (by decide) (fun q => absurd rfl q) (fun _ => ?_)
    refine lv_pc (pc2 := 7) rfl ?_
    refine lv_iload_n hx hb dX8_rainAhead_7 rfl (lv_at hl 2 rfl) ?_
    refine lv_iconst (v := 0) hx hb dX8_rainAhead_8 (by decide) ?_
    refine lv_bipush (v := 23) hx hb dX8_rainAhead_9 (by decide) ?_
    refine ty_calli (tRun (va_runSN (As := [.int a2, .int 0, .int 23]) (rest := []) ⟨hx, hb, hml, hown, hts⟩ (s_X9_isOutside l D t cI cL cC gC gE G gW gA a2 0 23 0 23 (by decide) (by decide) ) ⟨(va_cnB 3 hts gu_X8_rainAhead_X9_isOutside_n rfl rfl rfl (hE.2.1 _ (List.mem_of_getElem? (i := 21) rfl)) (hts (.initialized RX9) (List.mem_of_getElem? (i := 1) rfl)) (by decide +kernel) ⟨Nat.le_of_ble_eq_true rfl, Nat.le_of_ble_eq_true rfl⟩), (hts (.static yX9_isOutside) (List.mem_of_getElem? (i := 3) rfl)), trivial⟩ (tP_S hG hE) rfl rfl hl.1 rfl (lv_room (Nat.le_of_ble_eq_true rfl)) dX8_rainAhead_11 ⟨Nat.le_of_ble_eq_true rfl, Nat.le_of_ble_eq_true rfl⟩)) hS (fun _ h => h) (fun r_4 H locs hp_5 hG hS o_6 => ?_)
    rcases hp_5 with ⟨rfl, hc_100⟩ | ⟨rfl, hc_101, hc_102⟩
    · skip
      refine lv_if_eq (tgt := 21) hx hb dX8_rainAhead_14 (by decide) (fun q => absurd q (by decide)) (fun _ => ?_)
      refine lv_iconst (v := 0) hx hb dX8_rainAhead_17 (by decide) ?_
      refine lv_goto (tgt := 32) hx hb dX8_rainAhead_18 (by decide) ?_
      exact ty_iret hx hb hr hlk hG hS True.intro dX8_rainAhead_32
    · skip
      refine lv_pc (pc2 := 14) rfl ?_
      refine lv_if_eq (tgt := 21) hx hb dX8_rainAhead_14 (by decide) (fun _ => ?_) (fun q => absurd (by decide) q)
      refine lv_aload_n hx hb dX8_rainAhead_21 rfl (lv_at hl 0 rfl) ?_
      obtain ⟨r_7, r_9, r_11, at_13, h_8, h_10, h_12⟩ := gF_o8 hG k_a0
      refine va_get (D := D) (ci := 7) (v := .ref r_11) (C := RX8) (T := TX8) (N := 3) hx hb hts in8 hown hK (va_one at_13) 0 rfl rfl 2 (by decide) (hts (.fieldLink RX8 18 "RiverModel$Worlds" "rains" "[I") (List.mem_of_getElem? (i := 4) rfl)) (fun _ h9 => h9) rfl dX8_rainAhead_22 ?_
      refine lv_iload_n hx hb dX8_rainAhead_25 rfl (lv_at hl 1 rfl) ?_
      refine lv_bipush (v := 24) hx hb dX8_rainAhead_26 (by decide) ?_
      refine lv_imul hx hb dX8_rainAhead_28 ?_
      refine lv_topi (fun x_14 e_15 => ?_)
      have i_x_14 : x_14.toInt = a1.toInt * 24 := by rw [e_15]; exact (q_mul (by rw [show (24 : Int32).toInt = 24 by decide]; omega) (by rw [show (24 : Int32).toInt = 24 by decide]; omega)).trans (by rw [show (24 : Int32).toInt = 24 by decide])
      refine lv_iload_n hx hb dX8_rainAhead_29 rfl (lv_at hl 2 rfl) ?_
      refine lv_iadd hx hb dX8_rainAhead_30 ?_
      refine lv_topi (fun x_16 e_17 => ?_)
      have i_x_16 : x_16.toInt = x_14.toInt + a2.toInt := by rw [e_17]; exact (q_add (by omega) (by omega)).trans (by rfl)
      refine lv_pc (pc2 := 31) rfl ?_
      obtain ⟨f_18, at_19, h_20⟩ := gF_o31 hG h_12
      have b_21 : vp_in x_16 96 := (q_in (by omega) (by omega))
      refine va_iald hx hb hK (va_one at_19) 0 0 rfl rfl b_21 dX8_rainAhead_31 ?_
      refine lv_topi (fun x_22 e_23 => ?_)
      exact ty_iret hx hb hr hlk hG hS True.intro dX8_rainAhead_32

def uX8_weightOfAll : List Cond := .code yX8_weightOfAll cX8_weightOfAll 3 (some .int) :: ([.fieldLink RX8 9 "RiverModel$Worlds" "weights" "[I"] ++ wsX80)
set_option maxHeartbeats 4000000 in
set_option maxRecDepth 100000 in
theorem s_X8_weightOfAll (l : Launch) (D : va_G) (t : Nat → Nat) (cI cL cC : ClassId) (gC : Int32) (gE : Int32) (G : Nat) (gW : Nat → Int32) (gA : Nat → Int32) (a0 : Nat) (k_a0 : t a0 = 8) : tM l yX8_weightOfAll uX8_weightOfAll 0 0 D (gF cI cL cC gC gE G gW gA) (gF cI cL cC gC gE G gW gA) t cI cL cC [.ref a0] wr0 (pI (fun r => True)) := by
  refine tM.ofW (cc := cX8_weightOfAll) (maxL := 3) (ret := (some .int)) (by decide) rfl (Nat.le_of_ble_eq_true rfl) ?_
  intro p e s m below meth c hx hb hr hml hown hts hlk H locs hG hK hE hS ls hl
  have hl : lv_has ls 3 [(0, .ref a0)] := hl
  have in8 : ∀ w ∈ wsX80, w ∈ uX8_weightOfAll := fun w h => List.mem_cons_of_mem _ (List.mem_append_right _ h)
  refine lv_iconst (v := 0) hx hb dX8_weightOfAll_0 (by decide) ?_
  refine lv_istore_n (lv' := [(1, .int 0), (0, .ref a0)]) hx hb dX8_weightOfAll_1 rfl hl (by decide) rfl (fun ls hl => ?_)
  refine lv_iconst (v := 0) hx hb dX8_weightOfAll_2 (by decide) ?_
  refine lv_istore_n (lv' := [(2, .int 0), (1, .int 0), (0, .ref a0)]) hx hb dX8_weightOfAll_3 rfl hl (by decide) rfl (fun ls hl => ?_)
  refine lv_pc (pc2 := 4) rfl ?_
  refine lp_gen (fun WW hWW => ?_)
  have kx : ∀ (yk : Int32) (ys : Int32) (H1 : Heap) (locs1 : List Loc) (ls1 : Array Slot), 0 ≤ yk.toInt → yk.toInt ≤ 4 → tG D (gF cI cL cC gC gE G gW gA) t H1 → tF t wr0 s.heap H1 locs1 → lv_has ls1 3 [(2, .int yk), (1, .int ys), (0, .ref a0)] → WW H1 locs1 (F0 m 24 ls1 []) := by
    intro yk ys H locs ls v0 v1 hG hS hl
    refine (hWW _ _ _).mpr ?_
    refine lv_iload_n hx hb dX8_weightOfAll_24 rfl (lv_at hl 1 rfl) ?_
    exact ty_iret hx hb hr hlk hG hS True.intro dX8_weightOfAll_25
  have loop : ∀ (k : Nat) (yk : Int32) (ys : Int32) (H1 : Heap) (locs1 : List Loc) (ls1 : Array Slot), 4 - yk.toInt ≤ (k : Int) → 0 ≤ yk.toInt → yk.toInt ≤ 4 → tG D (gF cI cL cC gC gE G gW gA) t H1 → tF t wr0 s.heap H1 locs1 → lv_has ls1 3 [(2, .int yk), (1, .int ys), (0, .ref a0)] → WW H1 locs1 (F0 m 4 ls1 []) := by
    intro k
    induction k with
    | zero =>
      intro yk ys H locs ls hk v0 v1 hG hS hl
      refine (hWW _ _ _).mpr ?_
      refine lv_iload_n hx hb dX8_weightOfAll_4 rfl (lv_at hl 0 rfl) ?_
      refine lv_pc (pc2 := 5) rfl ?_
      refine lv_iconst (v := 4) hx hb dX8_weightOfAll_5 (by decide) ?_
      refine lv_icmp_ge (tgt := 24) hx hb dX8_weightOfAll_6 (by decide) (fun c_1 => ?_) (fun c_1 => ?_)
      · skip
        have c_1 : 4 ≤ yk.toInt := q_le c_1
        exact (hWW _ _ _).mp (kx yk ys H locs ls (by omega) (by omega) hG hS (lv_sub hl [0, 1, 2] rfl))
      · skip
        have c_1 : yk.toInt < 4 := q_nle c_1
        refine lv_iload_n hx hb dX8_weightOfAll_9 rfl (lv_at hl 1 rfl) ?_
        refine lv_aload_n hx hb dX8_weightOfAll_10 rfl (lv_at hl 2 rfl) ?_
        obtain ⟨r_2, r_4, r_6, at_8, h_3, h_5, h_7⟩ := gF_o8 hG k_a0
        refine va_get (D := D) (ci := 7) (v := .ref r_2) (C := RX8) (T := TX8) (N := 3) hx hb hts in8 hown hK (va_one at_8) 0 rfl rfl 0 (by decide) (hts (.fieldLink RX8 9 "RiverModel$Worlds" "weights" "[I") (List.mem_of_getElem? (i := 1) rfl)) (fun _ h9 => h9) rfl dX8_weightOfAll_11 ?_
        refine lv_iload_n hx hb dX8_weightOfAll_14 rfl (lv_at hl 0 rfl) ?_
        obtain ⟨f_9, at_10, h_11⟩ := gF_o29 hG h_3
        have b_12 : vp_in yk 4 := (q_in (by omega) (by omega))
        refine va_iald hx hb hK (va_one at_10) 0 0 rfl rfl b_12 dX8_weightOfAll_15 ?_
        refine lv_topi (fun x_13 e_14 => ?_)
        refine lv_iadd hx hb dX8_weightOfAll_16 ?_
        refine lv_topi (fun x_15 e_16 => ?_)
        refine lv_pc (pc2 := 17) rfl ?_
        refine lv_istore_n (lv' := [(1, .int x_15), (2, .int yk), (0, .ref a0)]) hx hb dX8_weightOfAll_17 rfl hl (by decide) rfl (fun ls hl => ?_)
        obtain ⟨x_17, e_18⟩ : ∃ y : Int32, y = yk + Int32.ofInt 1 := ⟨_, rfl⟩
        have i_x_17 : x_17.toInt = yk.toInt + 1 := by rw [e_18, show Int32.ofInt 1 = 1 by decide]; exact (q_add (by rw [show (1 : Int32).toInt = 1 by decide]; omega) (by rw [show (1 : Int32).toInt = 1 by decide]; omega)).trans (by rw [show (1 : Int32).toInt = 1 by decide])
        refine lv_iinc (v := x_17) (lv' := [(2, .int x_17), (1, .int x_15), (0, .ref a0)]) hx hb dX8_weightOfAll_18 hl (k := 1) rfl e_18.symm (by decide) rfl (fun ls hl => ?_)
        refine lv_goto (tgt := 4) hx hb dX8_weightOfAll_21 (by decide) ?_
        exfalso; omega
    | succ k ih =>
      intro yk ys H locs ls hk v0 v1 hG hS hl
      refine (hWW _ _ _).mpr ?_
      refine lv_iload_n hx hb dX8_weightOfAll_4 rfl (lv_at hl 0 rfl) ?_
      refine lv_iconst (v := 4) hx hb dX8_weightOfAll_5 (by decide) ?_
      refine lv_icmp_ge (tgt := 24) hx hb dX8_weightOfAll_6 (by decide) (fun c_19 => ?_) (fun c_19 => ?_)
      · skip
        have c_19 : 4 ≤ yk.toInt := q_le c_19
        exact (hWW _ _ _).mp (kx yk ys H locs ls (by omega) (by omega) hG hS (lv_sub hl [0, 1, 2] rfl))
      · skip
        have c_19 : yk.toInt < 4 := q_nle c_19
        refine lv_iload_n hx hb dX8_weightOfAll_9 rfl (lv_at hl 1 rfl) ?_
        refine lv_aload_n hx hb dX8_weightOfAll_10 rfl (lv_at hl 2 rfl) ?_
        refine lv_pc (pc2 := 11) rfl ?_
        obtain ⟨r_20, r_22, r_24, at_26, h_21, h_23, h_25⟩ := gF_o8 hG k_a0
        refine va_get (D := D) (ci := 7) (v := .ref r_20) (C := RX8) (T := TX8) (N := 3) hx hb hts in8 hown hK (va_one at_26) 0 rfl rfl 0 (by decide) (hts (.fieldLink RX8 9 "RiverModel$Worlds" "weights" "[I") (List.mem_of_getElem? (i := 1) rfl)) (fun _ h9 => h9) rfl dX8_weightOfAll_11 ?_
        refine lv_iload_n hx hb dX8_weightOfAll_14 rfl (lv_at hl 0 rfl) ?_
        obtain ⟨f_27, at_28, h_29⟩ := gF_o29 hG h_21
        have b_30 : vp_in yk 4 := (q_in (by omega) (by omega))
        refine va_iald hx hb hK (va_one at_28) 0 0 rfl rfl b_30 dX8_weightOfAll_15 ?_
        refine lv_topi (fun x_31 e_32 => ?_)
        refine lv_iadd hx hb dX8_weightOfAll_16 ?_
        refine lv_topi (fun x_33 e_34 => ?_)
        refine lv_istore_n (lv' := [(1, .int x_33), (2, .int yk), (0, .ref a0)]) hx hb dX8_weightOfAll_17 rfl hl (by decide) rfl (fun ls hl => ?_)
        obtain ⟨x_35, e_36⟩ : ∃ y : Int32, y = yk + Int32.ofInt 1 := ⟨_, rfl⟩
        have i_x_35 : x_35.toInt = yk.toInt + 1 := by rw [e_36, show Int32.ofInt 1 = 1 by decide]; exact (q_add (by rw [show (1 : Int32).toInt = 1 by decide]; omega) (by rw [show (1 : Int32).toInt = 1 by decide]; omega)).trans (by rw [show (1 : Int32).toInt = 1 by decide])
        refine lv_iinc (v := x_35) (lv' := [(2, .int x_35), (1, .int x_33), (0, .ref a0)]) hx hb dX8_weightOfAll_18 hl (k := 1) rfl e_36.symm (by decide) rfl (fun ls hl => ?_)
        refine lv_goto (tgt := 4) hx hb dX8_weightOfAll_21 (by decide) ?_
        exact (hWW _ _ _).mp (ih x_35 x_33 H locs ls (by omega) (by omega) (by omega) hG hS (lv_sub hl [0, 1, 2] rfl))
  have hz_yk : (0 : Int32).toInt = 0 := by decide
  have hz_ys : (0 : Int32).toInt = 0 := by decide
  exact loop (4 - 0 : Int).toNat 0 0 H locs ls (by omega) (by omega) (by omega) hG hS (lv_sub hl [0, 1, 2] rfl)

def uX8_enter : List Cond := .code yX8_enter cX8_enter 3 none :: ([.fieldLink RX8 15 "RiverModel$Worlds" "warnings" "[I"] ++ wsX80)
set_option maxHeartbeats 4000000 in
set_option maxRecDepth 100000 in
theorem s_X8_enter (l : Launch) (D : va_G) (t : Nat → Nat) (cI cL cC : ClassId) (gC : Int32) (gE : Int32) (G : Nat) (gW : Nat → Int32) (gA : Nat → Int32) (a0 : Nat) (a1 : Int32) (a2 : Int32) (k_a0 : t a0 = 8) : tM l yX8_enter uX8_enter 0 0 D (gF cI cL cC gC gE G gW gA) (gF cI cL cC gC gE G gW gA) t cI cL cC [.ref a0, .int a1, .int a2] wrWo (pV (True)) := by
  refine tM.ofW (cc := cX8_enter) (maxL := 3) (ret := none) (by decide) rfl (Nat.le_of_ble_eq_true rfl) ?_
  intro p e s m below meth c hx hb hr hml hown hts hlk H locs hG hK hE hS ls hl
  have hl : lv_has ls 3 [(0, .ref a0), (1, .int a1), (2, .int a2)] := hl
  have in8 : ∀ w ∈ wsX80, w ∈ uX8_enter := fun w h => List.mem_cons_of_mem _ (List.mem_append_right _ h)
  refine lv_iload_n hx hb dX8_enter_0 rfl (lv_at hl 1 rfl) ?_
  refine lv_if_eq (tgt := 25) hx hb dX8_enter_1 (by decide) (fun c_1 => ?_) (fun c_1 => ?_)
  · skip
    have c_1 : a1.toInt = 0 := q_eq c_1
    refine lv_aload_n hx hb dX8_enter_25 rfl (lv_at hl 0 rfl) ?_
    obtain ⟨r_2, r_4, r_6, at_8, h_3, h_5, h_7⟩ := gF_o8 hG k_a0
    refine va_get (D := D) (ci := 7) (v := .ref r_4) (C := RX8) (T := TX8) (N := 3) hx hb hts in8 hown hK (va_one at_8) 0 rfl rfl 1 (by decide) (hts (.fieldLink RX8 15 "RiverModel$Worlds" "warnings" "[I") (List.mem_of_getElem? (i := 1) rfl)) (fun _ h9 => h9) rfl dX8_enter_26 ?_
    refine lv_iload_n hx hb dX8_enter_29 rfl (lv_at hl 2 rfl) ?_
    refine lv_if_eq (tgt := 37) hx hb dX8_enter_30 (by decide) (fun c_9 => ?_) (fun c_9 => ?_)
    · skip
      have c_9 : a2.toInt = 0 := q_eq c_9
      refine lv_iconst (v := 3) hx hb dX8_enter_37 (by decide) ?_
      refine lv_pc (pc2 := 38) rfl ?_
      refine lv_dup2_11 hx hb dX8_enter_38 rfl rfl ?_
      obtain ⟨f_10, at_11⟩ := gF_o30 hG h_5
      have b_12 : vp_in 3 4 := (q_in (by decide) (by decide))
      refine va_iald hx hb hK (va_one at_11) 0 0 rfl rfl b_12 dX8_enter_39 ?_
      refine lv_topi (fun x_13 e_14 => ?_)
      refine lv_iconst (v := 1) hx hb dX8_enter_40 (by decide) ?_
      refine lv_iadd hx hb dX8_enter_41 ?_
      refine lv_topi (fun x_15 e_16 => ?_)
      have b_17 : vp_in 3 4 := (q_in (by decide) (by decide))
      refine ty_iast (F2 := (gF cI cL cC gC gE G gW gA)) hx hb hK hG hS 0 at_11 (by rw [h_5]; rfl) rfl b_17 (by rw [h_5]; exact ⟨_, rfl⟩) tFF dX8_enter_42 (fun H locs hG hS at_18 o_19 => ?_)
      have at_8 := va_at.keptK at_8 o_19 h_5 k_a0 rfl
      exact ty_vret hx hb hr hlk hG hS True.intro dX8_enter_43
    · skip
      have c_9 : a2.toInt ≠ 0 := q_ne c_9
      refine lv_iconst (v := 2) hx hb dX8_enter_33 (by decide) ?_
      refine lv_goto (tgt := 38) hx hb dX8_enter_34 (by decide) ?_
      refine lv_pc (pc2 := 38) rfl ?_
      refine lv_dup2_11 hx hb dX8_enter_38 rfl rfl ?_
      obtain ⟨f_20, at_21⟩ := gF_o30 hG h_5
      have b_22 : vp_in 2 4 := (q_in (by decide) (by decide))
      refine va_iald hx hb hK (va_one at_21) 0 0 rfl rfl b_22 dX8_enter_39 ?_
      refine lv_topi (fun x_23 e_24 => ?_)
      refine lv_iconst (v := 1) hx hb dX8_enter_40 (by decide) ?_
      refine lv_iadd hx hb dX8_enter_41 ?_
      refine lv_topi (fun x_25 e_26 => ?_)
      have b_27 : vp_in 2 4 := (q_in (by decide) (by decide))
      refine ty_iast (F2 := (gF cI cL cC gC gE G gW gA)) hx hb hK hG hS 0 at_21 (by rw [h_5]; rfl) rfl b_27 (by rw [h_5]; exact ⟨_, rfl⟩) tFF dX8_enter_42 (fun H locs hG hS at_28 o_29 => ?_)
      have at_8 := va_at.keptK at_8 o_29 h_5 k_a0 rfl
      exact ty_vret hx hb hr hlk hG hS True.intro dX8_enter_43
  · skip
    have c_1 : a1.toInt ≠ 0 := q_ne c_1
    refine lv_aload_n hx hb dX8_enter_4 rfl (lv_at hl 0 rfl) ?_
    obtain ⟨r_30, r_32, r_34, at_36, h_31, h_33, h_35⟩ := gF_o8 hG k_a0
    refine va_get (D := D) (ci := 7) (v := .ref r_32) (C := RX8) (T := TX8) (N := 3) hx hb hts in8 hown hK (va_one at_36) 0 rfl rfl 1 (by decide) (hts (.fieldLink RX8 15 "RiverModel$Worlds" "warnings" "[I") (List.mem_of_getElem? (i := 1) rfl)) (fun _ h9 => h9) rfl dX8_enter_5 ?_
    refine lv_pc (pc2 := 8) rfl ?_
    refine lv_iload_n hx hb dX8_enter_8 rfl (lv_at hl 2 rfl) ?_
    refine lv_if_eq (tgt := 16) hx hb dX8_enter_9 (by decide) (fun c_37 => ?_) (fun c_37 => ?_)
    · skip
      have c_37 : a2.toInt = 0 := q_eq c_37
      refine lv_iconst (v := 1) hx hb dX8_enter_16 (by decide) ?_
      refine lv_dup2_11 hx hb dX8_enter_17 rfl rfl ?_
      obtain ⟨f_38, at_39⟩ := gF_o30 hG h_33
      have b_40 : vp_in 1 4 := (q_in (by decide) (by decide))
      refine va_iald hx hb hK (va_one at_39) 0 0 rfl rfl b_40 dX8_enter_18 ?_
      refine lv_topi (fun x_41 e_42 => ?_)
      refine lv_iconst (v := 1) hx hb dX8_enter_19 (by decide) ?_
      refine lv_iadd hx hb dX8_enter_20 ?_
      refine lv_topi (fun x_43 e_44 => ?_)
      have b_45 : vp_in 1 4 := (q_in (by decide) (by decide))
      refine ty_iast (F2 := (gF cI cL cC gC gE G gW gA)) hx hb hK hG hS 0 at_39 (by rw [h_33]; rfl) rfl b_45 (by rw [h_33]; exact ⟨_, rfl⟩) tFF dX8_enter_21 (fun H locs hG hS at_46 o_47 => ?_)
      have at_36 := va_at.keptK at_36 o_47 h_33 k_a0 rfl
      refine lv_pc (pc2 := 22) rfl ?_
      refine lv_goto (tgt := 43) hx hb dX8_enter_22 (by decide) ?_
      exact ty_vret hx hb hr hlk hG hS True.intro dX8_enter_43
    · skip
      have c_37 : a2.toInt ≠ 0 := q_ne c_37
      refine lv_iconst (v := 0) hx hb dX8_enter_12 (by decide) ?_
      refine lv_goto (tgt := 17) hx hb dX8_enter_13 (by decide) ?_
      refine lv_dup2_11 hx hb dX8_enter_17 rfl rfl ?_
      obtain ⟨f_48, at_49⟩ := gF_o30 hG h_33
      have b_50 : vp_in 0 4 := (q_in (by decide) (by decide))
      refine va_iald hx hb hK (va_one at_49) 0 0 rfl rfl b_50 dX8_enter_18 ?_
      refine lv_topi (fun x_51 e_52 => ?_)
      refine lv_iconst (v := 1) hx hb dX8_enter_19 (by decide) ?_
      refine lv_iadd hx hb dX8_enter_20 ?_
      refine lv_topi (fun x_53 e_54 => ?_)
      refine lv_pc (pc2 := 21) rfl ?_
      have b_55 : vp_in 0 4 := (q_in (by decide) (by decide))
      refine ty_iast (F2 := (gF cI cL cC gC gE G gW gA)) hx hb hK hG hS 0 at_49 (by rw [h_33]; rfl) rfl b_55 (by rw [h_33]; exact ⟨_, rfl⟩) tFF dX8_enter_21 (fun H locs hG hS at_56 o_57 => ?_)
      have at_36 := va_at.keptK at_36 o_57 h_33 k_a0 rfl
      refine lv_goto (tgt := 43) hx hb dX8_enter_22 (by decide) ?_
      exact ty_vret hx hb hr hlk hG hS True.intro dX8_enter_43

def uX5_prepare : List Cond := .code yX5_prepare cX5_prepare 7 none :: ([.fieldLink RX5 32 "RiverModel$Search" "gate" "I", .fieldLink RX5 36 "RiverModel$Search" "blockHours" "I", .fieldLink RX5 39 "RiverModel$Search" "gauge" "I", .fieldLink RX5 42 "RiverModel$Search" "store" "I", .fieldLink RX5 45 "RiverModel$Search" "limit" "J", .fieldLink RX5 24 "RiverModel$Search" "isFound" "Z"] ++ wsX50)
set_option maxHeartbeats 4000000 in
set_option maxRecDepth 100000 in
theorem s_X5_prepare (l : Launch) (D : va_G) (t : Nat → Nat) (cI cL cC : ClassId) (gC : Int32) (gE : Int32) (G : Nat) (gW : Nat → Int32) (gA : Nat → Int32) (a0 : Nat) (a1 : Int32) (a2 : Int32) (a3 : Int32) (a4 : Int32) (a5 : Int64) (h1b : 0 ≤ a2.toInt) (h6b : a2.toInt ≤ 6) (h0g : 0 ≤ a1.toInt) (h3g : a1.toInt ≤ 3) (h0s : 0 ≤ a4.toInt) (h15s : a4.toInt ≤ 15) (k_a0 : t a0 = 9) : tM l yX5_prepare uX5_prepare 0 0 D (gF cI cL cC gC gE G gW gA) (gF cI cL cC gC gE G gW gA) t cI cL cC [.ref a0, .int a1, .int a2, .int a3, .int a4, .long a5] wrS (pV (True)) := by
  refine tM.ofW (cc := cX5_prepare) (maxL := 7) (ret := none) (by decide) rfl (Nat.le_of_ble_eq_true rfl) ?_
  intro p e s m below meth c hx hb hr hml hown hts hlk H locs hG hK hE hS ls hl
  have hl : lv_has ls 7 [(0, .ref a0), (1, .int a1), (2, .int a2), (3, .int a3), (4, .int a4), (5, .long a5)] := hl
  have in5 : ∀ w ∈ wsX50, w ∈ uX5_prepare := fun w h => List.mem_cons_of_mem _ (List.mem_append_right _ h)
  refine lv_aload_n hx hb dX5_prepare_0 rfl (lv_at hl 0 rfl) ?_
  refine lv_iload_n hx hb dX5_prepare_1 rfl (lv_at hl 1 rfl) ?_
  obtain ⟨r_1, r_3, r_5, v_7, v_8, v_9, v_11, v_13, v_14, v_16, at_17, h_2, h_4, h_6, h_10, h_12, h_15⟩ := gF_o9 hG k_a0
  refine ty_put (D := D) (ci := 4) (v := .int a1) (ty := .int) (C := RX5) (T := TX5) (N := 10) (F2 := (gF cI cL cC gC gE G gW gA)) hx hb hts in5 tyX5 tyX5_ok nmX5 hown hK hG hS at_17 (by rw [k_a0]; rfl) rfl 5 (by decide) (hts (.fieldLink RX5 32 "RiverModel$Search" "gate" "I") (List.mem_of_getElem? (i := 1) rfl)) (fun _ h9 => h9) rfl (by decide +kernel) rfl rfl (Nat.le_of_ble_eq_true rfl) (by rw [k_a0]; exact ⟨r_1, r_3, r_5, v_7, v_8, a1, v_11, v_13, v_14, v_16, rfl, h_2, h_4, h_6, (by omega), (by omega), (by omega)⟩) tFF dX5_prepare_2 (fun H locs hG hS at_18 o_19 => ?_)
  have at_18 : va_at D vwCl (a0, .inr (4, [.ref r_1, .ref r_3, .ref r_5, .int v_7, .long v_8, .int a1, .int v_11, .int v_13, .int v_14, .long v_16])) H := at_18
  refine lv_aload_n hx hb dX5_prepare_5 rfl (lv_at hl 0 rfl) ?_
  refine lv_iload_n hx hb dX5_prepare_6 rfl (lv_at hl 2 rfl) ?_
  refine ty_put (D := D) (ci := 4) (v := .int a2) (ty := .int) (C := RX5) (T := TX5) (N := 10) (F2 := (gF cI cL cC gC gE G gW gA)) hx hb hts in5 tyX5 tyX5_ok nmX5 hown hK hG hS at_18 (by rw [k_a0]; rfl) rfl 6 (by decide) (hts (.fieldLink RX5 36 "RiverModel$Search" "blockHours" "I") (List.mem_of_getElem? (i := 2) rfl)) (fun _ h9 => h9) rfl (by decide +kernel) rfl rfl (Nat.le_of_ble_eq_true rfl) (by rw [k_a0]; exact ⟨r_1, r_3, r_5, v_7, v_8, a1, a2, v_13, v_14, v_16, rfl, h_2, h_4, h_6, (by omega), (by omega), (by omega)⟩) tFF dX5_prepare_7 (fun H locs hG hS at_20 o_21 => ?_)
  have at_20 : va_at D vwCl (a0, .inr (4, [.ref r_1, .ref r_3, .ref r_5, .int v_7, .long v_8, .int a1, .int a2, .int v_13, .int v_14, .long v_16])) H := at_20
  refine lv_aload_n hx hb dX5_prepare_10 rfl (lv_at hl 0 rfl) ?_
  refine lv_pc (pc2 := 11) rfl ?_
  refine lv_iload_n hx hb dX5_prepare_11 rfl (lv_at hl 3 rfl) ?_
  refine ty_put (D := D) (ci := 4) (v := .int a3) (ty := .int) (C := RX5) (T := TX5) (N := 10) (F2 := (gF cI cL cC gC gE G gW gA)) hx hb hts in5 tyX5 tyX5_ok nmX5 hown hK hG hS at_20 (by rw [k_a0]; rfl) rfl 7 (by decide) (hts (.fieldLink RX5 39 "RiverModel$Search" "gauge" "I") (List.mem_of_getElem? (i := 3) rfl)) (fun _ h9 => h9) rfl (by decide +kernel) rfl rfl (Nat.le_of_ble_eq_true rfl) (by rw [k_a0]; exact ⟨r_1, r_3, r_5, v_7, v_8, a1, a2, a3, v_14, v_16, rfl, h_2, h_4, h_6, (by omega), (by omega), (by omega)⟩) tFF dX5_prepare_12 (fun H locs hG hS at_22 o_23 => ?_)
  have at_22 : va_at D vwCl (a0, .inr (4, [.ref r_1, .ref r_3, .ref r_5, .int v_7, .long v_8, .int a1, .int a2, .int a3, .int v_14, .long v_16])) H := at_22
  refine lv_aload_n hx hb dX5_prepare_15 rfl (lv_at hl 0 rfl) ?_
  refine lv_iload hx hb dX5_prepare_16 (lv_at hl 4 rfl) ?_
  refine ty_put (D := D) (ci := 4) (v := .int a4) (ty := .int) (C := RX5) (T := TX5) (N := 10) (F2 := (gF cI cL cC gC gE G gW gA)) hx hb hts in5 tyX5 tyX5_ok nmX5 hown hK hG hS at_22 (by rw [k_a0]; rfl) rfl 8 (by decide) (hts (.fieldLink RX5 42 "RiverModel$Search" "store" "I") (List.mem_of_getElem? (i := 4) rfl)) (fun _ h9 => h9) rfl (by decide +kernel) rfl rfl (Nat.le_of_ble_eq_true rfl) (by rw [k_a0]; exact ⟨r_1, r_3, r_5, v_7, v_8, a1, a2, a3, a4, v_16, rfl, h_2, h_4, h_6, (by omega), (by omega), (by omega)⟩) tFF dX5_prepare_18 (fun H locs hG hS at_24 o_25 => ?_)
  have at_24 : va_at D vwCl (a0, .inr (4, [.ref r_1, .ref r_3, .ref r_5, .int v_7, .long v_8, .int a1, .int a2, .int a3, .int a4, .long v_16])) H := at_24
  refine lv_aload_n hx hb dX5_prepare_21 rfl (lv_at hl 0 rfl) ?_
  refine lv_lload hx hb dX5_prepare_22 (lv_at hl 5 rfl) ?_
  refine ty_put (D := D) (ci := 4) (v := .long a5) (ty := .long) (C := RX5) (T := TX5) (N := 10) (F2 := (gF cI cL cC gC gE G gW gA)) hx hb hts in5 tyX5 tyX5_ok nmX5 hown hK hG hS at_24 (by rw [k_a0]; rfl) rfl 9 (by decide) (hts (.fieldLink RX5 45 "RiverModel$Search" "limit" "J") (List.mem_of_getElem? (i := 5) rfl)) (fun _ h9 => h9) rfl (by decide +kernel) rfl rfl (Nat.le_of_ble_eq_true rfl) (by rw [k_a0]; exact ⟨r_1, r_3, r_5, v_7, v_8, a1, a2, a3, a4, a5, rfl, h_2, h_4, h_6, (by omega), (by omega), (by omega)⟩) tFF dX5_prepare_24 (fun H locs hG hS at_26 o_27 => ?_)
  have at_26 : va_at D vwCl (a0, .inr (4, [.ref r_1, .ref r_3, .ref r_5, .int v_7, .long v_8, .int a1, .int a2, .int a3, .int a4, .long a5])) H := at_26
  refine lv_pc (pc2 := 27) rfl ?_
  refine lv_aload_n hx hb dX5_prepare_27 rfl (lv_at hl 0 rfl) ?_
  refine lv_iconst (v := 0) hx hb dX5_prepare_28 (by decide) ?_
  refine ty_put (D := D) (ci := 4) (v := .int 0) (ty := .boolean) (C := RX5) (T := TX5) (N := 10) (F2 := (gF cI cL cC gC gE G gW gA)) hx hb hts in5 tyX5 tyX5_ok nmX5 hown hK hG hS at_26 (by rw [k_a0]; rfl) rfl 3 (by decide) (hts (.fieldLink RX5 24 "RiverModel$Search" "isFound" "Z") (List.mem_of_getElem? (i := 6) rfl)) (fun _ h9 => h9) rfl (by decide +kernel) (by decide) (by decide) (Nat.le_of_ble_eq_true rfl) (by rw [k_a0]; exact ⟨r_1, r_3, r_5, 0, v_8, a1, a2, a3, a4, a5, rfl, h_2, h_4, h_6, (by omega), (by omega), (by omega)⟩) tFF dX5_prepare_29 (fun H locs hG hS at_28 o_29 => ?_)
  have at_28 : va_at D vwCl (a0, .inr (4, [.ref r_1, .ref r_3, .ref r_5, .int 0, .long v_8, .int a1, .int a2, .int a3, .int a4, .long a5])) H := at_28
  exact ty_vret hx hb hr hlk hG hS True.intro dX5_prepare_32

def uX5_takeTried : List Cond := .code yX5_takeTried cX5_takeTried 3 none :: ([.fieldLink RX5 24 "RiverModel$Search" "isFound" "Z", .fieldLink RX5 28 "RiverModel$Search" "leastPeak" "J", .fieldLink RX5 17 "RiverModel$Search" "tried" "[I", .fieldLink RX5 21 "RiverModel$Search" "found" "[I", .methodLink RX5 113 arraycopyName, .native arraycopyName, .static arraycopyName, .initialized "java/lang/System"] ++ wsX50)
set_option maxHeartbeats 4000000 in
set_option maxRecDepth 100000 in
theorem s_X5_takeTried (l : Launch) (D : va_G) (t : Nat → Nat) (cI cL cC : ClassId) (gC : Int32) (gE : Int32) (G : Nat) (gW : Nat → Int32) (gA : Nat → Int32) (a0 : Nat) (a1 : Int64) (k_a0 : t a0 = 9) : tM l yX5_takeTried uX5_takeTried 1 60 D (gF cI cL cC gC gE G gW gA) (gF cI cL cC gC gE G gW gA) t cI cL cC [.ref a0, .long a1] wrS (pV (True)) := by
  refine tM.ofW (cc := cX5_takeTried) (maxL := 3) (ret := none) (by decide) rfl (Nat.le_of_ble_eq_true rfl) ?_
  intro p e s m below meth c hx hb hr hml hown hts hlk H locs hG hK hE hS ls hl
  have hl : lv_has ls 3 [(0, .ref a0), (1, .long a1)] := hl
  have in5 : ∀ w ∈ wsX50, w ∈ uX5_takeTried := fun w h => List.mem_cons_of_mem _ (List.mem_append_right _ h)
  refine lv_aload_n hx hb dX5_takeTried_0 rfl (lv_at hl 0 rfl) ?_
  refine lv_iconst (v := 1) hx hb dX5_takeTried_1 (by decide) ?_
  obtain ⟨r_1, r_3, r_5, v_7, v_8, v_9, v_11, v_13, v_14, v_16, at_17, h_2, h_4, h_6, h_10, h_12, h_15⟩ := gF_o9 hG k_a0
  refine ty_put (D := D) (ci := 4) (v := .int 1) (ty := .boolean) (C := RX5) (T := TX5) (N := 10) (F2 := (gF cI cL cC gC gE G gW gA)) hx hb hts in5 tyX5 tyX5_ok nmX5 hown hK hG hS at_17 (by rw [k_a0]; rfl) rfl 3 (by decide) (hts (.fieldLink RX5 24 "RiverModel$Search" "isFound" "Z") (List.mem_of_getElem? (i := 1) rfl)) (fun _ h9 => h9) rfl (by decide +kernel) (by decide) (by decide) (Nat.le_of_ble_eq_true rfl) (by rw [k_a0]; exact ⟨r_1, r_3, r_5, 1, v_8, v_9, v_11, v_13, v_14, v_16, rfl, h_2, h_4, h_6, (by omega), (by omega), (by omega)⟩) tFF dX5_takeTried_2 (fun H locs hG hS at_18 o_19 => ?_)
  have at_18 : va_at D vwCl (a0, .inr (4, [.ref r_1, .ref r_3, .ref r_5, .int 1, .long v_8, .int v_9, .int v_11, .int v_13, .int v_14, .long v_16])) H := at_18
  refine lv_aload_n hx hb dX5_takeTried_5 rfl (lv_at hl 0 rfl) ?_
  refine lv_lload_n hx hb dX5_takeTried_6 rfl (lv_at hl 1 rfl) ?_
  refine ty_put (D := D) (ci := 4) (v := .long a1) (ty := .long) (C := RX5) (T := TX5) (N := 10) (F2 := (gF cI cL cC gC gE G gW gA)) hx hb hts in5 tyX5 tyX5_ok nmX5 hown hK hG hS at_18 (by rw [k_a0]; rfl) rfl 4 (by decide) (hts (.fieldLink RX5 28 "RiverModel$Search" "leastPeak" "J") (List.mem_of_getElem? (i := 2) rfl)) (fun _ h9 => h9) rfl (by decide +kernel) rfl rfl (Nat.le_of_ble_eq_true rfl) (by rw [k_a0]; exact ⟨r_1, r_3, r_5, 1, a1, v_9, v_11, v_13, v_14, v_16, rfl, h_2, h_4, h_6, (by omega), (by omega), (by omega)⟩) tFF dX5_takeTried_7 (fun H locs hG hS at_20 o_21 => ?_)
  have at_20 : va_at D vwCl (a0, .inr (4, [.ref r_1, .ref r_3, .ref r_5, .int 1, .long a1, .int v_9, .int v_11, .int v_13, .int v_14, .long v_16])) H := at_20
  refine lv_aload_n hx hb dX5_takeTried_10 rfl (lv_at hl 0 rfl) ?_
  refine lv_pc (pc2 := 11) rfl ?_
  refine va_get (D := D) (ci := 4) (v := .ref r_3) (C := RX5) (T := TX5) (N := 10) hx hb hts in5 hown hK (va_one at_20) 0 rfl rfl 1 (by decide) (hts (.fieldLink RX5 17 "RiverModel$Search" "tried" "[I") (List.mem_of_getElem? (i := 3) rfl)) (fun _ h9 => h9) rfl dX5_takeTried_11 ?_
  refine lv_iconst (v := 0) hx hb dX5_takeTried_14 (by decide) ?_
  refine lv_aload_n hx hb dX5_takeTried_15 rfl (lv_at hl 0 rfl) ?_
  refine va_get (D := D) (ci := 4) (v := .ref r_5) (C := RX5) (T := TX5) (N := 10) hx hb hts in5 hown hK (va_one at_20) 0 rfl rfl 2 (by decide) (hts (.fieldLink RX5 21 "RiverModel$Search" "found" "[I") (List.mem_of_getElem? (i := 4) rfl)) (fun _ h9 => h9) rfl dX5_takeTried_16 ?_
  refine lv_iconst (v := 0) hx hb dX5_takeTried_19 (by decide) ?_
  refine lv_iconst (v := 4) hx hb dX5_takeTried_20 (by decide) ?_
  obtain ⟨f_22, at_23⟩ := gF_o33 hG h_4
  obtain ⟨f_24, at_25⟩ := gF_o34 hG h_6
  refine ty_copyi hx hb (by rw [hml]; exact hl.1.symm) hown (hts (.methodLink RX5 113 arraycopyName) (List.mem_of_getElem? (i := 5) rfl)) (hts (.native arraycopyName) (List.mem_of_getElem? (i := 6) rfl)) (hts (.static arraycopyName) (List.mem_of_getElem? (i := 7) rfl)) (hts (.initialized "java/lang/System") (List.mem_of_getElem? (i := 8) rfl)) hK at_23 at_25 (by decide) (by decide) (by decide) (by decide) (by decide) (Nat.le_of_ble_eq_true rfl) (Nat.le_of_ble_eq_true rfl) dX5_takeTried_21 (fun H L at_26 hz_28 o_27 hL_29 => ?_)
  replace hG : tG D (gF cI cL cC gC gE G gW gA) t H := tG.set hG at_26 (by rw [h_6]; exact ⟨_, rfl⟩) o_27
  replace hS := tF.row hS hz_28 o_27 hL_29 (by rw [h_6]; rfl)
  generalize _ ++ L = locs at hS ⊢
  have at_20 := va_at.keptK at_20 o_27 h_6 k_a0 rfl
  have at_23 := va_at.keptK at_23 o_27 h_6 h_4 rfl
  exact ty_vret hx hb hr hlk hG hS True.intro dX5_takeTried_24

def uX5_peakOfBlock : List Cond := .code yX5_peakOfBlock cX5_peakOfBlock 11 (some .long) :: ([.fieldLink RX5 32 "RiverModel$Search" "gate" "I", .initialized RX9, .static yX9_isNoGate, .constantLong RX5 61 (-1), .fieldLink RX5 42 "RiverModel$Search" "store" "I", .static yX9_isNoStore, .fieldLink RX5 78 "RiverModel$Course" "openings" "[I", .fieldLink RX5 36 "RiverModel$Search" "blockHours" "I", .fieldLink RX5 81 "RiverModel$Course" "hours" "I", .methodLink RX5 84 yX6_rainIn, .instanceMethod yX6_rainIn, .selects RX6 yX6_rainIn yX6_rainIn, .initialized RX6, .methodLink RX5 90 yX6_tempIn, .instanceMethod yX6_tempIn, .selects RX6 yX6_tempIn yX6_tempIn, .methodLink RX5 93 yX0_goHour, .instanceMethod yX0_goHour, .selects RX0 yX0_goHour yX0_goHour, .initialized RX0, .fieldLink RX5 97 "RiverModel$Course" "held" "[J", .fieldLink RX5 45 "RiverModel$Search" "limit" "J", .fieldLink RX5 39 "RiverModel$Search" "gauge" "I", .methodLink RX5 101 yX1_reading, .instanceMethod yX1_reading, .selects RX1 yX1_reading yX1_reading, .initialized RX1, .methodLink RX5 107 Lib.MathLoose.max_long.x, .static Lib.MathLoose.max_long.x, .initialized "java/lang/Math", .code Lib.MathLoose.max_long.x Lib.MathLoose.max_long.code 4 (some .long), .code yX9_isNoGate cX9_isNoGate 1 (some .boolean), .code yX9_isNoStore cX9_isNoStore 1 (some .boolean), .code yX6_rainIn cX6_rainIn 2 (some .int), .static yX9_isOutside, .fieldLink RX6 9 "RiverModel$Sky" "rains" "[I", .code yX9_isOutside cX9_isOutside 3 (some .boolean), .code yX6_tempIn cX6_tempIn 2 (some .int), .fieldLink RX6 15 "RiverModel$Sky" "temps" "[I", .code yX0_goHour cX0_goHour 7 none, .methodLink RX0 72 yX0_bringDue, .instanceMethod yX0_bringDue, .selects RX0 yX0_bringDue yX0_bringDue, .fieldLink RX0 35 "RiverModel$Course" "hours" "I", .fieldLink RX0 75 "RiverModel$Model" "many" "I", .methodLink RX0 78 yX0_amountOf, .instanceMethod yX0_amountOf, .selects RX0 yX0_amountOf yX0_amountOf, .fieldLink RX0 15 "RiverModel$Course" "moved" "[J", .methodLink RX0 82 yX0_move, .instanceMethod yX0_move, .selects RX0 yX0_move yX0_move, .code yX0_bringDue cX0_bringDue 3 none, .fieldLink RX0 9 "RiverModel$Course" "held" "[J", .fieldLink RX0 22 "RiverModel$Course" "due" "[J", .code yX0_amountOf cX0_amountOf 11 (some .long), .methodLink RX0 86 yX4_cell, .instanceMethod yX4_cell, .selects RX4 yX4_cell yX4_cell, .initialized RX4, .methodLink RX0 110 yX4_gateOf, .instanceMethod yX4_gateOf, .selects RX4 yX4_gateOf yX4_gateOf, .methodLink RX0 113 yX0_openingOf, .instanceMethod yX0_openingOf, .selects RX0 yX0_openingOf yX0_openingOf, .methodLink RX0 107 Lib.MathLoose.min_long.x, .static Lib.MathLoose.min_long.x, .code Lib.MathLoose.min_long.x Lib.MathLoose.min_long.code 4 (some .long), .methodLink RX0 94 yX0_leakOf, .static yX0_leakOf, .constantLong RX0 117 (100), .methodLink RX0 98 yX4_capacityOf, .instanceMethod yX4_capacityOf, .selects RX4 yX4_capacityOf yX4_capacityOf, .methodLink RX0 101 Lib.MathLoose.max_long.x, .constantLong RX0 119 (10), .code yX4_cell cX4_cell 3 (some .int), .fieldLink RX4 9 "RiverModel$Model" "cells" "[I", .code yX4_gateOf cX4_gateOf 3 (some .int), .fieldLink RX4 28 "RiverModel$Model" "gates" "I", .fieldLink RX4 18 "RiverModel$Model" "gateItems" "[I", .code yX0_openingOf cX0_openingOf 2 (some .long), .fieldLink RX0 18 "RiverModel$Course" "openings" "[I", .code yX0_leakOf cX0_leakOf 8 (some .long), .code yX4_capacityOf cX4_capacityOf 2 (some .int), .methodLink RX4 66 yX4_hasStore, .instanceMethod yX4_hasStore, .selects RX4 yX4_hasStore yX4_hasStore, .fieldLink RX4 15 "RiverModel$Model" "storeItems" "[I", .methodLink RX4 73 yX4_cell, .code yX4_hasStore cX4_hasStore 2 (some .boolean), .code yX0_move cX0_move 8 none, .fieldLink RX0 25 "RiverModel$Course" "rained" "J", .methodLink RX0 124 yX0_send, .instanceMethod yX0_send, .selects RX0 yX0_send yX0_send, .fieldLink RX0 32 "RiverModel$Course" "sea" "J", .fieldLink RX0 29 "RiverModel$Course" "air" "J", .code yX0_send cX0_send 5 none, .code yX1_reading cX1_reading 4 (some .long), .methodLink RX1 35 yX1_isSet, .instanceMethod yX1_isSet, .selects RX1 yX1_isSet yX1_isSet, .fieldLink RX1 15 "RiverModel$Gauges" "places" "[I", .fieldLink RX1 9 "RiverModel$Gauges" "whats" "[I", .fieldLink RX1 50 "RiverModel$Course" "held" "[J", .static yX9_isNoItem, .fieldLink RX1 41 "RiverModel$Course" "moved" "[J", .code yX1_isSet cX1_isSet 2 (some .boolean), .code yX9_isNoItem cX9_isNoItem 1 (some .boolean)] ++ wsX50 ++ wsX00 ++ wsX60 ++ wsX40 ++ wsX10)
set_option maxRecDepth 20000 in
theorem gu_X5_peakOfBlock_X9_isNoGate_n : GoodIn uX5_peakOfBlock (uX9_isNoGate) := goodIn_r _ [32] rfl (by decide +kernel)
set_option maxRecDepth 20000 in
theorem gu_X5_peakOfBlock_X9_isNoStore_n : GoodIn uX5_peakOfBlock (uX9_isNoStore) := goodIn_r _ [33] rfl (by decide +kernel)
set_option maxRecDepth 20000 in
theorem gu_X5_peakOfBlock_X6_rainIn_84 : GoodIn uX5_peakOfBlock (wsV RX5 84 RX6 yX6_rainIn uX6_rainIn) := goodIn_r _ [10, 11, 12, 13, 34, 2, 35, 36, 37, 130, 131] rfl (by decide +kernel)
set_option maxRecDepth 20000 in
theorem gu_X5_peakOfBlock_X6_tempIn_90 : GoodIn uX5_peakOfBlock (wsV RX5 90 RX6 yX6_tempIn uX6_tempIn) := goodIn_r _ [14, 15, 16, 13, 38, 2, 35, 39, 37, 130, 131] rfl (by decide +kernel)
set_option maxRecDepth 20000 in
theorem gu_X5_peakOfBlock_X0_goHour_93 : GoodIn uX5_peakOfBlock (wsV RX5 93 RX0 yX0_goHour uX0_goHour) := goodIn_r _ [17, 18, 19, 20, 40, 41, 42, 43, 20, 44, 45, 46, 47, 48, 49, 50, 51, 52, 53, 54, 55, 56, 57, 58, 59, 60, 2, 6, 61, 62, 63, 64, 65, 66, 67, 68, 30, 69, 70, 71, 72, 73, 74, 75, 76, 29, 31, 77, 78, 79, 33, 80, 81, 82, 83, 3, 84, 32, 85, 86, 87, 88, 89, 90, 91, 92, 93, 94, 95, 96, 97, 98, 99, 100, 35, 37, 122, 123, 124, 125, 126, 127, 128, 129, 132, 133, 134, 135, 136, 137] rfl (by decide +kernel)
set_option maxRecDepth 20000 in
theorem gu_X5_peakOfBlock_X1_reading_101 : GoodIn uX5_peakOfBlock (wsV RX5 101 RX1 yX1_reading uX1_reading) := goodIn_r _ [24, 25, 26, 27, 101, 102, 103, 104, 27, 105, 106, 2, 6, 107, 108, 109, 110, 33, 111, 138, 139, 140, 141, 122, 123, 124, 125, 126, 127, 128, 129] rfl (by decide +kernel)
set_option maxHeartbeats 4000000 in
set_option maxRecDepth 100000 in
theorem s_X5_peakOfBlock (l : Launch) (D : va_G) (t : Nat → Nat) (cI cL cC : ClassId) (gC : Int32) (gE : Int32) (G : Nat) (gW : Nat → Int32) (gA : Nat → Int32) (a0 : Nat) (a1 : Nat) (a2 : Nat) (a3 : Nat) (a4 : Nat) (a5 : Int32) (a6 : Int64) (hGb : G ≤ 190000000) (k_a0 : t a0 = 9) (k_a1 : t a1 = 3) (k_a2 : t a2 = 4) (k_a3 : t a3 = 6) (k_a4 : t a4 = 5) : tM l yX5_peakOfBlock uX5_peakOfBlock 4 99 D (gF cI cL cC gC gE G gW gA) (gF cI cL cC gC gE (G + 6) gW gA) t cI cL cC [.ref a0, .ref a1, .ref a2, .ref a3, .ref a4, .int a5, .long a6] wrC (pL (fun r => True)) := by
  refine tM.ofW (cc := cX5_peakOfBlock) (maxL := 11) (ret := (some .long)) (by decide) rfl (Nat.le_of_ble_eq_true rfl) ?_
  intro p e s m below meth c hx hb hr hml hown hts hlk H locs hG hK hE hS ls hl
  have hl : lv_has ls 11 [(0, .ref a0), (1, .ref a1), (2, .ref a2), (3, .ref a3), (4, .ref a4), (5, .int a5), (6, .long a6)] := hl
  have in5 : ∀ w ∈ wsX50, w ∈ uX5_peakOfBlock := fun w h => List.mem_cons_of_mem _ (List.mem_append_left _ (List.mem_append_left _ (List.mem_append_left _ (List.mem_append_left _ (List.mem_append_right _ h)))))
  have in0 : ∀ w ∈ wsX00, w ∈ uX5_peakOfBlock := fun w h => List.mem_cons_of_mem _ (List.mem_append_left _ (List.mem_append_left _ (List.mem_append_left _ (List.mem_append_right _ h))))
  refine lv_aload_n hx hb dX5_peakOfBlock_0 rfl (lv_at hl 0 rfl) ?_
  obtain ⟨r_1, r_3, r_5, v_7, v_8, v_9, v_11, v_13, v_14, v_16, at_17, h_2, h_4, h_6, h_10, h_12, h_15⟩ := gF_o9 hG k_a0
  refine va_get (D := D) (ci := 4) (v := .int v_9) (C := RX5) (T := TX5) (N := 10) hx hb hts in5 hown hK (va_one at_17) 0 rfl rfl 5 (by decide) (hts (.fieldLink RX5 32 "RiverModel$Search" "gate" "I") (List.mem_of_getElem? (i := 1) rfl)) (fun _ h9 => h9) rfl dX5_peakOfBlock_1 ?_
  refine ty_calli (tRun (va_runSN (As := [.int v_9]) (rest := []) ⟨hx, hb, hml, hown, hts⟩ (s_X9_isNoGate l D t cI cL cC gC gE G gW gA v_9 ) ⟨(va_cnB 1 hts gu_X5_peakOfBlock_X9_isNoGate_n rfl rfl rfl (hE.2.1 _ (List.mem_of_getElem? (i := 24) rfl)) (hts (.initialized RX9) (List.mem_of_getElem? (i := 2) rfl)) (by decide +kernel) ⟨Nat.le_of_ble_eq_true rfl, Nat.le_of_ble_eq_true rfl⟩), (hts (.static yX9_isNoGate) (List.mem_of_getElem? (i := 3) rfl)), trivial⟩ (tP_S hG hE) rfl rfl hl.1 rfl (lv_room (Nat.le_of_ble_eq_true rfl)) dX5_peakOfBlock_4 ⟨Nat.le_of_ble_eq_true rfl, Nat.le_of_ble_eq_true rfl⟩)) hS (fun k h => by simp [wr0] at h) (fun r_18 H locs hp_19 hG hS o_20 => ?_)
  have at_17 := va_at.keptC at_17 o_20 k_a0 rfl
  rcases hp_19 with ⟨rfl, hc_103⟩ | ⟨rfl, hc_104, hc_105⟩
  · skip
    refine lv_if_ne (tgt := 20) hx hb dX5_peakOfBlock_7 (by decide) (fun _ => ?_) (fun q => absurd q (by decide))
    refine lv_ldc2 hx hb hown (hts (.constantLong RX5 61 (-1)) (List.mem_of_getElem? (i := 4) rfl)) dX5_peakOfBlock_20 ?_
    exact ty_lret hx hb hr hlk (hG.weak (fun _ _ => gF_mono (by omega))) hS True.intro dX5_peakOfBlock_23
  · skip
    refine lv_if_ne (tgt := 20) hx hb dX5_peakOfBlock_7 (by decide) (fun q => absurd rfl q) (fun _ => ?_)
    refine lv_pc (pc2 := 10) rfl ?_
    refine lv_aload_n hx hb dX5_peakOfBlock_10 rfl (lv_at hl 0 rfl) ?_
    refine va_get (D := D) (ci := 4) (v := .int v_14) (C := RX5) (T := TX5) (N := 10) hx hb hts in5 hown hK (va_one at_17) 0 rfl rfl 8 (by decide) (hts (.fieldLink RX5 42 "RiverModel$Search" "store" "I") (List.mem_of_getElem? (i := 5) rfl)) (fun _ h9 => h9) rfl dX5_peakOfBlock_11 ?_
    refine ty_calli (tRun (va_runSN (As := [.int v_14]) (rest := []) ⟨hx, hb, hml, hown, hts⟩ (s_X9_isNoStore l D t cI cL cC gC gE G gW gA v_14 ) ⟨(va_cnB 1 hts gu_X5_peakOfBlock_X9_isNoStore_n rfl rfl rfl (hE.2.1 _ (List.mem_of_getElem? (i := 25) rfl)) (hts (.initialized RX9) (List.mem_of_getElem? (i := 2) rfl)) (by decide +kernel) ⟨Nat.le_of_ble_eq_true rfl, Nat.le_of_ble_eq_true rfl⟩), (hts (.static yX9_isNoStore) (List.mem_of_getElem? (i := 6) rfl)), trivial⟩ (tP_S hG hE) rfl rfl hl.1 rfl (lv_room (Nat.le_of_ble_eq_true rfl)) dX5_peakOfBlock_14 ⟨Nat.le_of_ble_eq_true rfl, Nat.le_of_ble_eq_true rfl⟩)) hS (fun k h => by simp [wr0] at h) (fun r_21 H locs hp_22 hG hS o_23 => ?_)
    have at_17 := va_at.keptC at_17 o_23 k_a0 rfl
    rcases hp_22 with ⟨rfl, hc_106⟩ | ⟨rfl, hc_107, hc_108⟩
    · skip
      refine lv_if_eq (tgt := 24) hx hb dX5_peakOfBlock_17 (by decide) (fun q => absurd q (by decide)) (fun _ => ?_)
      refine lv_ldc2 hx hb hown (hts (.constantLong RX5 61 (-1)) (List.mem_of_getElem? (i := 4) rfl)) dX5_peakOfBlock_20 ?_
      exact ty_lret hx hb hr hlk (hG.weak (fun _ _ => gF_mono (by omega))) hS True.intro dX5_peakOfBlock_23
    · skip
      refine lv_if_eq (tgt := 24) hx hb dX5_peakOfBlock_17 (by decide) (fun _ => ?_) (fun q => absurd (by decide) q)
      refine lv_aload hx hb dX5_peakOfBlock_24 (lv_at hl 4 rfl) ?_
      refine lv_pc (pc2 := 26) rfl ?_
      obtain ⟨r_24, r_26, r_28, r_30, v_32, v_33, v_34, v_35, at_37, h_25, h_27, h_29, h_31, h_36⟩ := gF_o5 hG k_a4
      refine va_get (D := D) (ci := 0) (v := .ref r_28) (C := RX0) (T := TX0) (N := 8) hx hb hts in0 hown hK (va_one at_37) 0 rfl rfl 2 (by decide) (hts (.fieldLink RX5 78 "RiverModel$Course" "openings" "[I") (List.mem_of_getElem? (i := 7) rfl)) (fun _ h9 => h9) rfl dX5_peakOfBlock_26 ?_
      refine lv_aload_n hx hb dX5_peakOfBlock_29 rfl (lv_at hl 0 rfl) ?_
      refine va_get (D := D) (ci := 4) (v := .int v_9) (C := RX5) (T := TX5) (N := 10) hx hb hts in5 hown hK (va_one at_17) 0 rfl rfl 5 (by decide) (hts (.fieldLink RX5 32 "RiverModel$Search" "gate" "I") (List.mem_of_getElem? (i := 1) rfl)) (fun _ h9 => h9) rfl dX5_peakOfBlock_30 ?_
      refine lv_iload hx hb dX5_peakOfBlock_33 (lv_at hl 5 rfl) ?_
      obtain ⟨f_38, at_39⟩ := gF_o19 hG h_29
      have b_40 : vp_in v_9 4 := (q_in (by omega) (by omega))
      refine ty_iast (F2 := (gF cI cL cC gC gE G gW gA)) hx hb hK hG hS 0 at_39 (by rw [h_29]; rfl) rfl b_40 (by rw [h_29]; exact ⟨_, rfl⟩) tFF dX5_peakOfBlock_35 (fun H locs hG hS at_41 o_42 => ?_)
      have at_17 := va_at.keptK at_17 o_42 h_29 k_a0 rfl
      have at_37 := va_at.keptK at_37 o_42 h_29 k_a4 rfl
      refine lv_lload hx hb dX5_peakOfBlock_36 (lv_at hl 6 rfl) ?_
      refine lv_lstore (lv' := [(8, .long a6), (0, .ref a0), (1, .ref a1), (2, .ref a2), (3, .ref a3), (4, .ref a4), (5, .int a5), (6, .long a6)]) hx hb dX5_peakOfBlock_38 hl (by decide) rfl (fun ls hl => ?_)
      refine lv_iconst (v := 0) hx hb dX5_peakOfBlock_40 (by decide) ?_
      refine lv_pc (pc2 := 41) rfl ?_
      refine lv_istore (lv' := [(10, .int 0), (8, .long a6), (0, .ref a0), (1, .ref a1), (2, .ref a2), (3, .ref a3), (4, .ref a4), (5, .int a5), (6, .long a6)]) hx hb dX5_peakOfBlock_41 hl (by decide) rfl (fun ls hl => ?_)
      refine lv_pc (pc2 := 43) rfl ?_
      refine lp_gen (fun WW hWW => ?_)
      have kx : ∀ (yh : Int32) (yp : Int64) (g : Nat) (H1 : Heap) (locs1 : List Loc) (ls1 : Array Slot), 0 ≤ yh.toInt → yh.toInt ≤ 6 → (g : Int) + (6 - yh.toInt) ≤ (G : Int) + 6 → tG D (gF cI cL cC gC gE g gW gA) t H1 → tF t wrC s.heap H1 locs1 → lv_has ls1 11 [(10, .int yh), (8, .long yp), (0, .ref a0), (1, .ref a1), (2, .ref a2), (3, .ref a3), (4, .ref a4), (5, .int a5), (6, .long a6)] → WW H1 locs1 (F0 m 121 ls1 []) := by
        intro yh yp g H locs ls v0 v1 v2 hG hS hl
        refine (hWW _ _ _).mpr ?_
        refine lv_lload hx hb dX5_peakOfBlock_121 (lv_at hl 1 rfl) ?_
        exact ty_lret hx hb hr hlk (hG.weak (fun _ _ => gF_mono (by omega))) hS True.intro dX5_peakOfBlock_123
      have loop : ∀ (k : Nat) (yh : Int32) (yp : Int64) (g : Nat) (H1 : Heap) (locs1 : List Loc) (ls1 : Array Slot), 6 - yh.toInt ≤ (k : Int) → 0 ≤ yh.toInt → yh.toInt ≤ 6 → (g : Int) + (6 - yh.toInt) ≤ (G : Int) + 6 → tG D (gF cI cL cC gC gE g gW gA) t H1 → tF t wrC s.heap H1 locs1 → lv_has ls1 11 [(10, .int yh), (8, .long yp), (0, .ref a0), (1, .ref a1), (2, .ref a2), (3, .ref a3), (4, .ref a4), (5, .int a5), (6, .long a6)] → WW H1 locs1 (F0 m 43 ls1 []) := by
        intro k
        induction k with
        | zero =>
          intro yh yp g H locs ls hk v0 v1 v2 hG hS hl
          refine (hWW _ _ _).mpr ?_
          refine lv_iload hx hb dX5_peakOfBlock_43 (lv_at hl 0 rfl) ?_
          refine lv_aload_n hx hb dX5_peakOfBlock_45 rfl (lv_at hl 2 rfl) ?_
          obtain ⟨r_43, r_45, r_47, v_49, v_50, v_51, v_53, v_55, v_56, v_58, at_59, h_44, h_46, h_48, h_52, h_54, h_57⟩ := gF_o9 hG k_a0
          refine va_get (D := D) (ci := 4) (v := .int v_53) (C := RX5) (T := TX5) (N := 10) hx hb hts in5 hown hK (va_one at_59) 0 rfl rfl 6 (by decide) (hts (.fieldLink RX5 36 "RiverModel$Search" "blockHours" "I") (List.mem_of_getElem? (i := 8) rfl)) (fun _ h9 => h9) rfl dX5_peakOfBlock_46 ?_
          refine lv_icmp_ge (tgt := 121) hx hb dX5_peakOfBlock_49 (by decide) (fun c_60 => ?_) (fun c_60 => ?_)
          · skip
            have c_60 : v_53.toInt ≤ yh.toInt := q_le c_60
            exact (hWW _ _ _).mp (kx yh yp g H locs ls (by omega) (by omega) (by omega) hG hS (lv_sub hl [0, 1, 2, 3, 4, 5, 6, 7, 8] rfl))
          · skip
            have c_60 : yh.toInt < v_53.toInt := q_nle c_60
            refine lv_aload hx hb dX5_peakOfBlock_52 (lv_at hl 6 rfl) ?_
            refine lv_pc (pc2 := 54) rfl ?_
            refine lv_aload_n hx hb dX5_peakOfBlock_54 rfl (lv_at hl 3 rfl) ?_
            refine lv_aload_n hx hb dX5_peakOfBlock_55 rfl (lv_at hl 4 rfl) ?_
            refine lv_aload hx hb dX5_peakOfBlock_56 (lv_at hl 6 rfl) ?_
            obtain ⟨r_61, r_63, r_65, r_67, v_69, v_70, v_71, v_72, at_74, h_62, h_64, h_66, h_68, h_73⟩ := gF_o5 hG k_a4
            refine va_get (D := D) (ci := 0) (v := .int v_72) (C := RX0) (T := TX0) (N := 8) hx hb hts in0 hown hK (va_one at_74) 0 rfl rfl 7 (by decide) (hts (.fieldLink RX5 81 "RiverModel$Course" "hours" "I") (List.mem_of_getElem? (i := 9) rfl)) (fun _ h9 => h9) rfl dX5_peakOfBlock_58 ?_
            obtain ⟨r_75, r_77, at_79, h_76, h_78⟩ := gF_o4 hG k_a2
            refine ty_calli ((W.runV (As := [.int v_72]) (rest := [.ref a1, .ref a4]) ⟨hx, hb, hml, hown, hts⟩ (s_X6_rainIn l D t cI cL cC gC gE g gW gA a2 v_72 k_a2) (cwV 1 hts gu_X5_peakOfBlock_X6_rainIn_84 rfl rfl rfl (by decide +kernel) ⟨Nat.le_of_ble_eq_true rfl, Nat.le_of_ble_eq_true rfl⟩) (tP_V hG hE at_79 rfl) rfl rfl hl.1 rfl (lv_room (Nat.le_of_ble_eq_true rfl)) dX5_peakOfBlock_61 ⟨Nat.le_of_ble_eq_true rfl, Nat.le_of_ble_eq_true rfl⟩)) hS (fun k h => by simp [wr0] at h) (fun r_80 H locs hp_81 hG hS o_82 => ?_)
            have at_59 := va_at.keptC at_59 o_82 k_a0 rfl
            have at_74 := va_at.keptC at_74 o_82 k_a4 rfl
            have at_79 := va_at.keptC at_79 o_82 k_a2 rfl
            refine lv_aload_n hx hb dX5_peakOfBlock_64 rfl (lv_at hl 4 rfl) ?_
            refine lv_aload hx hb dX5_peakOfBlock_65 (lv_at hl 6 rfl) ?_
            refine va_get (D := D) (ci := 0) (v := .int v_72) (C := RX0) (T := TX0) (N := 8) hx hb hts in0 hown hK (va_one at_74) 0 rfl rfl 7 (by decide) (hts (.fieldLink RX5 81 "RiverModel$Course" "hours" "I") (List.mem_of_getElem? (i := 9) rfl)) (fun _ h9 => h9) rfl dX5_peakOfBlock_67 ?_
            refine lv_pc (pc2 := 70) rfl ?_
            refine ty_calli ((W.runV (As := [.int v_72]) (rest := [.int r_80, .ref a1, .ref a4]) ⟨hx, hb, hml, hown, hts⟩ (s_X6_tempIn l D t cI cL cC gC gE g gW gA a2 v_72 k_a2) (cwV 1 hts gu_X5_peakOfBlock_X6_tempIn_90 rfl rfl rfl (by decide +kernel) ⟨Nat.le_of_ble_eq_true rfl, Nat.le_of_ble_eq_true rfl⟩) (tP_V hG hE at_79 rfl) rfl rfl hl.1 rfl (lv_room (Nat.le_of_ble_eq_true rfl)) dX5_peakOfBlock_70 ⟨Nat.le_of_ble_eq_true rfl, Nat.le_of_ble_eq_true rfl⟩)) hS (fun k h => by simp [wr0] at h) (fun r_83 H locs hp_84 hG hS o_85 => ?_)
            have at_59 := va_at.keptC at_59 o_85 k_a0 rfl
            have at_74 := va_at.keptC at_74 o_85 k_a4 rfl
            have at_79 := va_at.keptC at_79 o_85 k_a2 rfl
            refine ty_callv ((W.runV (As := [.ref a1, .int r_80, .int r_83]) (rest := []) ⟨hx, hb, hml, hown, hts⟩ (s_X0_goHour l D t cI cL cC gC gE g gW gA a4 a1 r_80 r_83 (by omega) k_a4 k_a1) (cwV 3 hts gu_X5_peakOfBlock_X0_goHour_93 rfl rfl rfl (by decide +kernel) ⟨Nat.le_of_ble_eq_true rfl, Nat.le_of_ble_eq_true rfl⟩) (tP_V hG hE at_74 rfl) rfl rfl hl.1 rfl (lv_room (Nat.le_of_ble_eq_true rfl)) dX5_peakOfBlock_73 ⟨Nat.le_of_ble_eq_true rfl, Nat.le_of_ble_eq_true rfl⟩)) hS (fun _ h => h) (fun H locs hp_87 hG hS o_88 => ?_)
            have at_59 := va_at.keptC at_59 o_88 k_a0 rfl
            have at_79 := va_at.keptC at_79 o_88 k_a2 rfl
            refine lv_aload hx hb dX5_peakOfBlock_76 (lv_at hl 6 rfl) ?_
            obtain ⟨r_89, r_91, r_93, r_95, v_97, v_98, v_99, v_100, at_102, h_90, h_92, h_94, h_96, h_101⟩ := gF_o5 hG k_a4
            refine va_get (D := D) (ci := 0) (v := .ref r_89) (C := RX0) (T := TX0) (N := 8) hx hb hts in0 hown hK (va_one at_102) 0 rfl rfl 0 (by decide) (hts (.fieldLink RX5 97 "RiverModel$Course" "held" "[J") (List.mem_of_getElem? (i := 21) rfl)) (fun _ h9 => h9) rfl dX5_peakOfBlock_78 ?_
            refine lv_aload_n hx hb dX5_peakOfBlock_81 rfl (lv_at hl 2 rfl) ?_
            refine va_get (D := D) (ci := 4) (v := .int v_56) (C := RX5) (T := TX5) (N := 10) hx hb hts in5 hown hK (va_one at_59) 0 rfl rfl 8 (by decide) (hts (.fieldLink RX5 42 "RiverModel$Search" "store" "I") (List.mem_of_getElem? (i := 5) rfl)) (fun _ h9 => h9) rfl dX5_peakOfBlock_82 ?_
            obtain ⟨f_103, at_104⟩ := gF_o17 hG h_90
            have b_105 : vp_in v_56 16 := (q_in (by omega) (by omega))
            refine va_lald hx hb hK (va_one at_104) 0 1 rfl rfl b_105 dX5_peakOfBlock_85 ?_
            refine lv_topl (fun z_106 e_107 => ?_)
            refine lv_aload_n hx hb dX5_peakOfBlock_86 rfl (lv_at hl 2 rfl) ?_
            refine lv_pc (pc2 := 87) rfl ?_
            refine va_get (D := D) (ci := 4) (v := .long v_58) (C := RX5) (T := TX5) (N := 10) hx hb hts in5 hown hK (va_one at_59) 0 rfl rfl 9 (by decide) (hts (.fieldLink RX5 45 "RiverModel$Search" "limit" "J") (List.mem_of_getElem? (i := 22) rfl)) (fun _ h9 => h9) rfl dX5_peakOfBlock_87 ?_
            refine W.lcmp hx hb dX5_peakOfBlock_90 ?_
            refine lv_if_le (tgt := 98) hx hb dX5_peakOfBlock_91 (by decide) (fun c_108 => ?_) (fun c_108 => ?_)
            · skip
              have c_108 : z_106.toInt ≤ v_58.toInt := q_cmp_le c_108
              refine lv_lload hx hb dX5_peakOfBlock_98 (lv_at hl 1 rfl) ?_
              refine lv_aload_n hx hb dX5_peakOfBlock_100 rfl (lv_at hl 5 rfl) ?_
              refine lv_aload hx hb dX5_peakOfBlock_101 (lv_at hl 6 rfl) ?_
              refine lv_aload_n hx hb dX5_peakOfBlock_103 rfl (lv_at hl 2 rfl) ?_
              refine va_get (D := D) (ci := 4) (v := .int v_55) (C := RX5) (T := TX5) (N := 10) hx hb hts in5 hown hK (va_one at_59) 0 rfl rfl 7 (by decide) (hts (.fieldLink RX5 39 "RiverModel$Search" "gauge" "I") (List.mem_of_getElem? (i := 23) rfl)) (fun _ h9 => h9) rfl dX5_peakOfBlock_104 ?_
              refine lv_pc (pc2 := 107) rfl ?_
              obtain ⟨r_109, r_111, r_113, at_115, h_110, h_112, h_114⟩ := gF_o6 hG k_a3
              refine ty_calll ((W.runV (As := [.ref a4, .int v_55]) (rest := [.long yp]) ⟨hx, hb, hml, hown, hts⟩ (s_X1_reading l D t cI cL cC gC gE (g + 1) gW gA a3 a4 v_55 k_a3 k_a4) (cwV 2 hts gu_X5_peakOfBlock_X1_reading_101 rfl rfl rfl (by decide +kernel) ⟨Nat.le_of_ble_eq_true rfl, Nat.le_of_ble_eq_true rfl⟩) (tP_V hG hE at_115 rfl) rfl rfl hl.1 rfl (lv_room (Nat.le_of_ble_eq_true rfl)) dX5_peakOfBlock_107 ⟨Nat.le_of_ble_eq_true rfl, Nat.le_of_ble_eq_true rfl⟩)) hS (fun k h => by simp [wr0] at h) (fun z_116 H locs hp_117 hG hS o_118 => ?_)
              have at_59 := va_at.keptC at_59 o_118 k_a0 rfl
              have at_79 := va_at.keptC at_79 o_118 k_a2 rfl
              have at_102 := va_at.keptC at_102 o_118 k_a4 rfl
              have at_104 := va_at.keptC at_104 o_118 h_90 rfl
              have at_115 := va_at.keptC at_115 o_118 k_a3 rfl
              refine va_mmax_long hx hb (by rw [hml]; exact hl.1.symm) hown (hts (.methodLink RX5 107 Lib.MathLoose.max_long.x) (List.mem_of_getElem? (i := 28) rfl)) (hts (.static Lib.MathLoose.max_long.x) (List.mem_of_getElem? (i := 29) rfl)) (hts (.initialized "java/lang/Math") (List.mem_of_getElem? (i := 30) rfl)) (hts (.code Lib.MathLoose.max_long.x Lib.MathLoose.max_long.code 4 (some .long)) (List.mem_of_getElem? (i := 31) rfl)) (Nat.le_of_ble_eq_true rfl) (Nat.le_of_ble_eq_true rfl) (Nat.zero_le _) (Nat.zero_le _) dX5_peakOfBlock_110 ?_
              refine lv_topl (fun z_119 e_120 => ?_)
              refine lv_lstore (lv' := [(8, .long z_119), (10, .int yh), (0, .ref a0), (1, .ref a1), (2, .ref a2), (3, .ref a3), (4, .ref a4), (5, .int a5), (6, .long a6)]) hx hb dX5_peakOfBlock_113 hl (by decide) rfl (fun ls hl => ?_)
              obtain ⟨x_121, e_122⟩ : ∃ y : Int32, y = yh + Int32.ofInt 1 := ⟨_, rfl⟩
              have i_x_121 : x_121.toInt = yh.toInt + 1 := by rw [e_122, show Int32.ofInt 1 = 1 by decide]; exact (q_add (by rw [show (1 : Int32).toInt = 1 by decide]; omega) (by rw [show (1 : Int32).toInt = 1 by decide]; omega)).trans (by rw [show (1 : Int32).toInt = 1 by decide])
              refine lv_iinc (v := x_121) (lv' := [(10, .int x_121), (8, .long z_119), (0, .ref a0), (1, .ref a1), (2, .ref a2), (3, .ref a3), (4, .ref a4), (5, .int a5), (6, .long a6)]) hx hb dX5_peakOfBlock_115 hl (k := 1) rfl e_122.symm (by decide) rfl (fun ls hl => ?_)
              refine lv_goto (tgt := 43) hx hb dX5_peakOfBlock_118 (by decide) ?_
              exfalso; omega
            · skip
              have c_108 : v_58.toInt < z_106.toInt := q_cmp_nle c_108
              refine lv_ldc2 hx hb hown (hts (.constantLong RX5 61 (-1)) (List.mem_of_getElem? (i := 4) rfl)) dX5_peakOfBlock_94 ?_
              exact ty_lret hx hb hr hlk (hG.weak (fun _ _ => gF_mono (by omega))) hS True.intro dX5_peakOfBlock_97
        | succ k ih =>
          intro yh yp g H locs ls hk v0 v1 v2 hG hS hl
          refine (hWW _ _ _).mpr ?_
          refine lv_iload hx hb dX5_peakOfBlock_43 (lv_at hl 0 rfl) ?_
          refine lv_pc (pc2 := 45) rfl ?_
          refine lv_aload_n hx hb dX5_peakOfBlock_45 rfl (lv_at hl 2 rfl) ?_
          obtain ⟨r_123, r_125, r_127, v_129, v_130, v_131, v_133, v_135, v_136, v_138, at_139, h_124, h_126, h_128, h_132, h_134, h_137⟩ := gF_o9 hG k_a0
          refine va_get (D := D) (ci := 4) (v := .int v_133) (C := RX5) (T := TX5) (N := 10) hx hb hts in5 hown hK (va_one at_139) 0 rfl rfl 6 (by decide) (hts (.fieldLink RX5 36 "RiverModel$Search" "blockHours" "I") (List.mem_of_getElem? (i := 8) rfl)) (fun _ h9 => h9) rfl dX5_peakOfBlock_46 ?_
          refine lv_icmp_ge (tgt := 121) hx hb dX5_peakOfBlock_49 (by decide) (fun c_140 => ?_) (fun c_140 => ?_)
          · skip
            have c_140 : v_133.toInt ≤ yh.toInt := q_le c_140
            exact (hWW _ _ _).mp (kx yh yp g H locs ls (by omega) (by omega) (by omega) hG hS (lv_sub hl [0, 1, 2, 3, 4, 5, 6, 7, 8] rfl))
          · skip
            have c_140 : yh.toInt < v_133.toInt := q_nle c_140
            refine lv_aload hx hb dX5_peakOfBlock_52 (lv_at hl 6 rfl) ?_
            refine lv_aload_n hx hb dX5_peakOfBlock_54 rfl (lv_at hl 3 rfl) ?_
            refine lv_aload_n hx hb dX5_peakOfBlock_55 rfl (lv_at hl 4 rfl) ?_
            refine lv_aload hx hb dX5_peakOfBlock_56 (lv_at hl 6 rfl) ?_
            obtain ⟨r_141, r_143, r_145, r_147, v_149, v_150, v_151, v_152, at_154, h_142, h_144, h_146, h_148, h_153⟩ := gF_o5 hG k_a4
            refine va_get (D := D) (ci := 0) (v := .int v_152) (C := RX0) (T := TX0) (N := 8) hx hb hts in0 hown hK (va_one at_154) 0 rfl rfl 7 (by decide) (hts (.fieldLink RX5 81 "RiverModel$Course" "hours" "I") (List.mem_of_getElem? (i := 9) rfl)) (fun _ h9 => h9) rfl dX5_peakOfBlock_58 ?_
            refine lv_pc (pc2 := 61) rfl ?_
            obtain ⟨r_155, r_157, at_159, h_156, h_158⟩ := gF_o4 hG k_a2
            refine ty_calli ((W.runV (As := [.int v_152]) (rest := [.ref a1, .ref a4]) ⟨hx, hb, hml, hown, hts⟩ (s_X6_rainIn l D t cI cL cC gC gE g gW gA a2 v_152 k_a2) (cwV 1 hts gu_X5_peakOfBlock_X6_rainIn_84 rfl rfl rfl (by decide +kernel) ⟨Nat.le_of_ble_eq_true rfl, Nat.le_of_ble_eq_true rfl⟩) (tP_V hG hE at_159 rfl) rfl rfl hl.1 rfl (lv_room (Nat.le_of_ble_eq_true rfl)) dX5_peakOfBlock_61 ⟨Nat.le_of_ble_eq_true rfl, Nat.le_of_ble_eq_true rfl⟩)) hS (fun k h => by simp [wr0] at h) (fun r_160 H locs hp_161 hG hS o_162 => ?_)
            have at_139 := va_at.keptC at_139 o_162 k_a0 rfl
            have at_154 := va_at.keptC at_154 o_162 k_a4 rfl
            have at_159 := va_at.keptC at_159 o_162 k_a2 rfl
            refine lv_aload_n hx hb dX5_peakOfBlock_64 rfl (lv_at hl 4 rfl) ?_
            refine lv_aload hx hb dX5_peakOfBlock_65 (lv_at hl 6 rfl) ?_
            refine va_get (D := D) (ci := 0) (v := .int v_152) (C := RX0) (T := TX0) (N := 8) hx hb hts in0 hown hK (va_one at_154) 0 rfl rfl 7 (by decide) (hts (.fieldLink RX5 81 "RiverModel$Course" "hours" "I") (List.mem_of_getElem? (i := 9) rfl)) (fun _ h9 => h9) rfl dX5_peakOfBlock_67 ?_
            refine ty_calli ((W.runV (As := [.int v_152]) (rest := [.int r_160, .ref a1, .ref a4]) ⟨hx, hb, hml, hown, hts⟩ (s_X6_tempIn l D t cI cL cC gC gE g gW gA a2 v_152 k_a2) (cwV 1 hts gu_X5_peakOfBlock_X6_tempIn_90 rfl rfl rfl (by decide +kernel) ⟨Nat.le_of_ble_eq_true rfl, Nat.le_of_ble_eq_true rfl⟩) (tP_V hG hE at_159 rfl) rfl rfl hl.1 rfl (lv_room (Nat.le_of_ble_eq_true rfl)) dX5_peakOfBlock_70 ⟨Nat.le_of_ble_eq_true rfl, Nat.le_of_ble_eq_true rfl⟩)) hS (fun k h => by simp [wr0] at h) (fun r_163 H locs hp_164 hG hS o_165 => ?_)
            have at_139 := va_at.keptC at_139 o_165 k_a0 rfl
            have at_154 := va_at.keptC at_154 o_165 k_a4 rfl
            have at_159 := va_at.keptC at_159 o_165 k_a2 rfl
            refine ty_callv ((W.runV (As := [.ref a1, .int r_160, .int r_163]) (rest := []) ⟨hx, hb, hml, hown, hts⟩ (s_X0_goHour l D t cI cL cC gC gE g gW gA a4 a1 r_160 r_163 (by omega) k_a4 k_a1) (cwV 3 hts gu_X5_peakOfBlock_X0_goHour_93 rfl rfl rfl (by decide +kernel) ⟨Nat.le_of_ble_eq_true rfl, Nat.le_of_ble_eq_true rfl⟩) (tP_V hG hE at_154 rfl) rfl rfl hl.1 rfl (lv_room (Nat.le_of_ble_eq_true rfl)) dX5_peakOfBlock_73 ⟨Nat.le_of_ble_eq_true rfl, Nat.le_of_ble_eq_true rfl⟩)) hS (fun _ h => h) (fun H locs hp_167 hG hS o_168 => ?_)
            have at_139 := va_at.keptC at_139 o_168 k_a0 rfl
            have at_159 := va_at.keptC at_159 o_168 k_a2 rfl
            refine lv_aload hx hb dX5_peakOfBlock_76 (lv_at hl 6 rfl) ?_
            obtain ⟨r_169, r_171, r_173, r_175, v_177, v_178, v_179, v_180, at_182, h_170, h_172, h_174, h_176, h_181⟩ := gF_o5 hG k_a4
            refine va_get (D := D) (ci := 0) (v := .ref r_169) (C := RX0) (T := TX0) (N := 8) hx hb hts in0 hown hK (va_one at_182) 0 rfl rfl 0 (by decide) (hts (.fieldLink RX5 97 "RiverModel$Course" "held" "[J") (List.mem_of_getElem? (i := 21) rfl)) (fun _ h9 => h9) rfl dX5_peakOfBlock_78 ?_
            refine lv_pc (pc2 := 81) rfl ?_
            refine lv_aload_n hx hb dX5_peakOfBlock_81 rfl (lv_at hl 2 rfl) ?_
            refine va_get (D := D) (ci := 4) (v := .int v_136) (C := RX5) (T := TX5) (N := 10) hx hb hts in5 hown hK (va_one at_139) 0 rfl rfl 8 (by decide) (hts (.fieldLink RX5 42 "RiverModel$Search" "store" "I") (List.mem_of_getElem? (i := 5) rfl)) (fun _ h9 => h9) rfl dX5_peakOfBlock_82 ?_
            obtain ⟨f_183, at_184⟩ := gF_o17 hG h_170
            have b_185 : vp_in v_136 16 := (q_in (by omega) (by omega))
            refine va_lald hx hb hK (va_one at_184) 0 1 rfl rfl b_185 dX5_peakOfBlock_85 ?_
            refine lv_topl (fun z_186 e_187 => ?_)
            refine lv_aload_n hx hb dX5_peakOfBlock_86 rfl (lv_at hl 2 rfl) ?_
            refine va_get (D := D) (ci := 4) (v := .long v_138) (C := RX5) (T := TX5) (N := 10) hx hb hts in5 hown hK (va_one at_139) 0 rfl rfl 9 (by decide) (hts (.fieldLink RX5 45 "RiverModel$Search" "limit" "J") (List.mem_of_getElem? (i := 22) rfl)) (fun _ h9 => h9) rfl dX5_peakOfBlock_87 ?_
            refine W.lcmp hx hb dX5_peakOfBlock_90 ?_
            refine lv_if_le (tgt := 98) hx hb dX5_peakOfBlock_91 (by decide) (fun c_188 => ?_) (fun c_188 => ?_)
            · skip
              have c_188 : z_186.toInt ≤ v_138.toInt := q_cmp_le c_188
              refine lv_lload hx hb dX5_peakOfBlock_98 (lv_at hl 1 rfl) ?_
              refine lv_pc (pc2 := 100) rfl ?_
              refine lv_aload_n hx hb dX5_peakOfBlock_100 rfl (lv_at hl 5 rfl) ?_
              refine lv_aload hx hb dX5_peakOfBlock_101 (lv_at hl 6 rfl) ?_
              refine lv_aload_n hx hb dX5_peakOfBlock_103 rfl (lv_at hl 2 rfl) ?_
              refine va_get (D := D) (ci := 4) (v := .int v_135) (C := RX5) (T := TX5) (N := 10) hx hb hts in5 hown hK (va_one at_139) 0 rfl rfl 7 (by decide) (hts (.fieldLink RX5 39 "RiverModel$Search" "gauge" "I") (List.mem_of_getElem? (i := 23) rfl)) (fun _ h9 => h9) rfl dX5_peakOfBlock_104 ?_
              obtain ⟨r_189, r_191, r_193, at_195, h_190, h_192, h_194⟩ := gF_o6 hG k_a3
              refine ty_calll ((W.runV (As := [.ref a4, .int v_135]) (rest := [.long yp]) ⟨hx, hb, hml, hown, hts⟩ (s_X1_reading l D t cI cL cC gC gE (g + 1) gW gA a3 a4 v_135 k_a3 k_a4) (cwV 2 hts gu_X5_peakOfBlock_X1_reading_101 rfl rfl rfl (by decide +kernel) ⟨Nat.le_of_ble_eq_true rfl, Nat.le_of_ble_eq_true rfl⟩) (tP_V hG hE at_195 rfl) rfl rfl hl.1 rfl (lv_room (Nat.le_of_ble_eq_true rfl)) dX5_peakOfBlock_107 ⟨Nat.le_of_ble_eq_true rfl, Nat.le_of_ble_eq_true rfl⟩)) hS (fun k h => by simp [wr0] at h) (fun z_196 H locs hp_197 hG hS o_198 => ?_)
              have at_139 := va_at.keptC at_139 o_198 k_a0 rfl
              have at_159 := va_at.keptC at_159 o_198 k_a2 rfl
              have at_182 := va_at.keptC at_182 o_198 k_a4 rfl
              have at_184 := va_at.keptC at_184 o_198 h_170 rfl
              have at_195 := va_at.keptC at_195 o_198 k_a3 rfl
              refine va_mmax_long hx hb (by rw [hml]; exact hl.1.symm) hown (hts (.methodLink RX5 107 Lib.MathLoose.max_long.x) (List.mem_of_getElem? (i := 28) rfl)) (hts (.static Lib.MathLoose.max_long.x) (List.mem_of_getElem? (i := 29) rfl)) (hts (.initialized "java/lang/Math") (List.mem_of_getElem? (i := 30) rfl)) (hts (.code Lib.MathLoose.max_long.x Lib.MathLoose.max_long.code 4 (some .long)) (List.mem_of_getElem? (i := 31) rfl)) (Nat.le_of_ble_eq_true rfl) (Nat.le_of_ble_eq_true rfl) (Nat.zero_le _) (Nat.zero_le _) dX5_peakOfBlock_110 ?_
              refine lv_topl (fun z_199 e_200 => ?_)
              refine lv_lstore (lv' := [(8, .long z_199), (10, .int yh), (0, .ref a0), (1, .ref a1), (2, .ref a2), (3, .ref a3), (4, .ref a4), (5, .int a5), (6, .long a6)]) hx hb dX5_peakOfBlock_113 hl (by decide) rfl (fun ls hl => ?_)
              obtain ⟨x_201, e_202⟩ : ∃ y : Int32, y = yh + Int32.ofInt 1 := ⟨_, rfl⟩
              have i_x_201 : x_201.toInt = yh.toInt + 1 := by rw [e_202, show Int32.ofInt 1 = 1 by decide]; exact (q_add (by rw [show (1 : Int32).toInt = 1 by decide]; omega) (by rw [show (1 : Int32).toInt = 1 by decide]; omega)).trans (by rw [show (1 : Int32).toInt = 1 by decide])
              refine lv_iinc (v := x_201) (lv' := [(10, .int x_201), (8, .long z_199), (0, .ref a0), (1, .ref a1), (2, .ref a2), (3, .ref a3), (4, .ref a4), (5, .int a5), (6, .long a6)]) hx hb dX5_peakOfBlock_115 hl (k := 1) rfl e_202.symm (by decide) rfl (fun ls hl => ?_)
              refine lv_pc (pc2 := 118) rfl ?_
              refine lv_goto (tgt := 43) hx hb dX5_peakOfBlock_118 (by decide) ?_
              exact (hWW _ _ _).mp (ih x_201 z_199 (g + 1) H locs ls (by omega) (by omega) (by omega) (by omega) hG hS (lv_sub hl [0, 1, 2, 3, 4, 5, 6, 7, 8] rfl))
            · skip
              have c_188 : v_138.toInt < z_186.toInt := q_cmp_nle c_188
              refine lv_ldc2 hx hb hown (hts (.constantLong RX5 61 (-1)) (List.mem_of_getElem? (i := 4) rfl)) dX5_peakOfBlock_94 ?_
              exact ty_lret hx hb hr hlk (hG.weak (fun _ _ => gF_mono (by omega))) hS True.intro dX5_peakOfBlock_97
      have hz_yh : (0 : Int32).toInt = 0 := by decide
      exact loop (6 - 0 : Int).toNat 0 a6 G H locs ls (by omega) (by omega) (by omega) (by omega) hG hS (lv_sub hl [0, 1, 2, 3, 4, 5, 6, 7, 8] rfl)

def uX5_tryBlock_3 : List Cond := .code yX5_tryBlock cX5_tryBlock 12 none :: ([.initialized RX9, .static yX9_isOutside, .fieldLink RX5 11 "RiverModel$Search" "blockEnds" "[LRiverModel$Course;", .fieldLink RX5 17 "RiverModel$Search" "tried" "[I", .methodLink RX5 53 yX0_copyFrom, .instanceMethod yX0_copyFrom, .selects RX0 yX0_copyFrom yX0_copyFrom, .initialized RX0, .methodLink RX5 57 yX5_peakOfBlock, .instanceMethod yX5_peakOfBlock, .selects RX5 yX5_peakOfBlock yX5_peakOfBlock, .initialized RX5, .constantLong RX5 61 (-1), .fieldLink RX5 24 "RiverModel$Search" "isFound" "Z", .methodLink RX5 63 yX5_takeTried, .instanceMethod yX5_takeTried, .selects RX5 yX5_takeTried yX5_takeTried, .fieldLink RX5 28 "RiverModel$Search" "leastPeak" "J", .code yX9_isOutside cX9_isOutside 3 (some .boolean), .code yX0_copyFrom cX0_copyFrom 2 none, .fieldLink RX0 9 "RiverModel$Course" "held" "[J", .methodLink RX0 54 arraycopyName, .native arraycopyName, .static arraycopyName, .initialized "java/lang/System", .fieldLink RX0 15 "RiverModel$Course" "moved" "[J", .fieldLink RX0 18 "RiverModel$Course" "openings" "[I", .fieldLink RX0 22 "RiverModel$Course" "due" "[J", .fieldLink RX0 25 "RiverModel$Course" "rained" "J", .fieldLink RX0 29 "RiverModel$Course" "air" "J", .fieldLink RX0 32 "RiverModel$Course" "sea" "J", .fieldLink RX0 35 "RiverModel$Course" "hours" "I", .code yX5_peakOfBlock cX5_peakOfBlock 11 (some .long), .fieldLink RX5 32 "RiverModel$Search" "gate" "I", .static yX9_isNoGate, .fieldLink RX5 42 "RiverModel$Search" "store" "I", .static yX9_isNoStore, .fieldLink RX5 78 "RiverModel$Course" "openings" "[I", .fieldLink RX5 36 "RiverModel$Search" "blockHours" "I", .fieldLink RX5 81 "RiverModel$Course" "hours" "I", .methodLink RX5 84 yX6_rainIn, .instanceMethod yX6_rainIn, .selects RX6 yX6_rainIn yX6_rainIn, .initialized RX6, .methodLink RX5 90 yX6_tempIn, .instanceMethod yX6_tempIn, .selects RX6 yX6_tempIn yX6_tempIn, .methodLink RX5 93 yX0_goHour, .instanceMethod yX0_goHour, .selects RX0 yX0_goHour yX0_goHour, .fieldLink RX5 97 "RiverModel$Course" "held" "[J", .fieldLink RX5 45 "RiverModel$Search" "limit" "J", .fieldLink RX5 39 "RiverModel$Search" "gauge" "I", .methodLink RX5 101 yX1_reading, .instanceMethod yX1_reading, .selects RX1 yX1_reading yX1_reading, .initialized RX1, .methodLink RX5 107 Lib.MathLoose.max_long.x, .static Lib.MathLoose.max_long.x, .initialized "java/lang/Math", .code Lib.MathLoose.max_long.x Lib.MathLoose.max_long.code 4 (some .long), .code yX9_isNoGate cX9_isNoGate 1 (some .boolean), .code yX9_isNoStore cX9_isNoStore 1 (some .boolean), .code yX6_rainIn cX6_rainIn 2 (some .int), .fieldLink RX6 9 "RiverModel$Sky" "rains" "[I", .code yX6_tempIn cX6_tempIn 2 (some .int), .fieldLink RX6 15 "RiverModel$Sky" "temps" "[I", .code yX0_goHour cX0_goHour 7 none, .methodLink RX0 72 yX0_bringDue, .instanceMethod yX0_bringDue, .selects RX0 yX0_bringDue yX0_bringDue, .fieldLink RX0 75 "RiverModel$Model" "many" "I", .methodLink RX0 78 yX0_amountOf, .instanceMethod yX0_amountOf, .selects RX0 yX0_amountOf yX0_amountOf, .methodLink RX0 82 yX0_move, .instanceMethod yX0_move, .selects RX0 yX0_move yX0_move, .code yX0_bringDue cX0_bringDue 3 none, .code yX0_amountOf cX0_amountOf 11 (some .long), .methodLink RX0 86 yX4_cell, .instanceMethod yX4_cell, .selects RX4 yX4_cell yX4_cell, .initialized RX4, .methodLink RX0 110 yX4_gateOf, .instanceMethod yX4_gateOf, .selects RX4 yX4_gateOf yX4_gateOf, .methodLink RX0 113 yX0_openingOf, .instanceMethod yX0_openingOf, .selects RX0 yX0_openingOf yX0_openingOf, .methodLink RX0 107 Lib.MathLoose.min_long.x, .static Lib.MathLoose.min_long.x, .code Lib.MathLoose.min_long.x Lib.MathLoose.min_long.code 4 (some .long), .methodLink RX0 94 yX0_leakOf, .static yX0_leakOf, .constantLong RX0 117 (100), .methodLink RX0 98 yX4_capacityOf, .instanceMethod yX4_capacityOf, .selects RX4 yX4_capacityOf yX4_capacityOf, .methodLink RX0 101 Lib.MathLoose.max_long.x, .constantLong RX0 119 (10), .code yX4_cell cX4_cell 3 (some .int), .fieldLink RX4 9 "RiverModel$Model" "cells" "[I", .code yX4_gateOf cX4_gateOf 3 (some .int), .fieldLink RX4 28 "RiverModel$Model" "gates" "I", .fieldLink RX4 18 "RiverModel$Model" "gateItems" "[I", .code yX0_openingOf cX0_openingOf 2 (some .long), .code yX0_leakOf cX0_leakOf 8 (some .long), .code yX4_capacityOf cX4_capacityOf 2 (some .int), .methodLink RX4 66 yX4_hasStore, .instanceMethod yX4_hasStore, .selects RX4 yX4_hasStore yX4_hasStore, .fieldLink RX4 15 "RiverModel$Model" "storeItems" "[I", .methodLink RX4 73 yX4_cell, .code yX4_hasStore cX4_hasStore 2 (some .boolean), .code yX0_move cX0_move 8 none, .methodLink RX0 124 yX0_send, .instanceMethod yX0_send, .selects RX0 yX0_send yX0_send, .code yX0_send cX0_send 5 none, .code yX1_reading cX1_reading 4 (some .long), .methodLink RX1 35 yX1_isSet, .instanceMethod yX1_isSet, .selects RX1 yX1_isSet yX1_isSet, .fieldLink RX1 15 "RiverModel$Gauges" "places" "[I", .fieldLink RX1 9 "RiverModel$Gauges" "whats" "[I", .fieldLink RX1 50 "RiverModel$Course" "held" "[J", .static yX9_isNoItem, .fieldLink RX1 41 "RiverModel$Course" "moved" "[J", .code yX1_isSet cX1_isSet 2 (some .boolean), .code yX9_isNoItem cX9_isNoItem 1 (some .boolean), .code yX5_takeTried cX5_takeTried 3 none, .fieldLink RX5 21 "RiverModel$Search" "found" "[I", .methodLink RX5 113 arraycopyName] ++ wsX50 ++ wsX00 ++ wsX60 ++ wsX40 ++ wsX10)
set_option maxRecDepth 20000 in
theorem gu_X5_tryBlock_3_X9_isOutside_n : GoodIn uX5_tryBlock_3 (uX9_isOutside) := goodIn_r _ [19] rfl (by decide +kernel)
set_option maxRecDepth 20000 in
theorem gu_X5_tryBlock_3_X0_copyFrom_53 : GoodIn uX5_tryBlock_3 (wsV RX5 53 RX0 yX0_copyFrom uX0_copyFrom) := goodIn_r _ [5, 6, 7, 8, 20, 21, 22, 23, 24, 25, 26, 27, 28, 29, 30, 31, 32, 145, 146, 147, 148, 149, 150, 151, 152] rfl (by decide +kernel)
set_option maxRecDepth 20000 in
theorem gu_X5_tryBlock_3_X5_peakOfBlock_57 : GoodIn uX5_tryBlock_3 (wsV RX5 57 RX5 yX5_peakOfBlock uX5_peakOfBlock) := goodIn_r _ [9, 10, 11, 12, 33, 34, 1, 35, 13, 36, 37, 38, 39, 40, 41, 42, 43, 44, 45, 46, 47, 48, 49, 50, 8, 51, 52, 53, 54, 55, 56, 57, 58, 59, 60, 61, 62, 63, 64, 2, 65, 19, 66, 67, 68, 69, 70, 71, 32, 72, 73, 74, 75, 26, 76, 77, 78, 79, 21, 28, 80, 81, 82, 83, 84, 85, 86, 87, 88, 89, 90, 91, 92, 93, 94, 95, 96, 97, 98, 99, 100, 101, 102, 103, 104, 105, 106, 107, 27, 108, 109, 110, 111, 112, 113, 114, 115, 116, 29, 117, 118, 119, 31, 30, 120, 121, 122, 123, 124, 125, 126, 127, 128, 129, 130, 131, 135, 136, 137, 138, 139, 140, 141, 142, 143, 144, 145, 146, 147, 148, 149, 150, 151, 152, 153, 154, 155, 156, 157, 158, 159, 160, 161, 162, 163, 164] rfl (by decide +kernel)
set_option maxRecDepth 20000 in
theorem gu_X5_tryBlock_3_X5_takeTried_63 : GoodIn uX5_tryBlock_3 (wsV RX5 63 RX5 yX5_takeTried uX5_takeTried) := goodIn_r _ [15, 16, 17, 12, 132, 14, 18, 4, 133, 134, 23, 24, 25, 135, 136, 137, 138, 139, 140, 141, 142, 143, 144] rfl (by decide +kernel)
set_option maxHeartbeats 4000000 in
set_option maxRecDepth 100000 in
theorem s_X5_tryBlock_3 (l : Launch) (D : va_G) (t : Nat → Nat) (cI cL cC : ClassId) (gC : Int32) (gE : Int32) (G : Nat) (gW : Nat → Int32) (gA : Nat → Int32) (a0 : Nat) (a1 : Nat) (a2 : Nat) (a3 : Nat) (a4 : Nat) (a6 : Int64) (hGb : G ≤ 153000000) (k_a0 : t a0 = 9) (k_a1 : t a1 = 3) (k_a2 : t a2 = 4) (k_a3 : t a3 = 6) (k_a4 : t a4 = 5) : tM l yX5_tryBlock uX5_tryBlock_3 5 129 D (gF cI cL cC gC gE G gW gA) (gF cI cL cC gC gE (G + 36) gW gA) t cI cL cC [.ref a0, .ref a1, .ref a2, .ref a3, .ref a4, .int 3, .long a6] wrS (pV (True)) := by
  refine tM.ofW (cc := cX5_tryBlock) (maxL := 12) (ret := none) (by decide) rfl (Nat.le_of_ble_eq_true rfl) ?_
  intro p e s m below meth c hx hb hr hml hown hts hlk H locs hG hK hE hS ls hl
  have hl : lv_has ls 12 [(0, .ref a0), (1, .ref a1), (2, .ref a2), (3, .ref a3), (4, .ref a4), (5, .int 3), (6, .long a6)] := hl
  have in5 : ∀ w ∈ wsX50, w ∈ uX5_tryBlock_3 := fun w h => List.mem_cons_of_mem _ (List.mem_append_left _ (List.mem_append_left _ (List.mem_append_left _ (List.mem_append_left _ (List.mem_append_right _ h)))))
  refine lv_iload hx hb dX5_tryBlock_0 (lv_at hl 5 rfl) ?_
  refine lv_iconst (v := 0) hx hb dX5_tryBlock_2 (by decide) ?_
  refine lv_iconst (v := 3) hx hb dX5_tryBlock_3 (by decide) ?_
  refine ty_calli (tRun (va_runSN (As := [.int 3, .int 0, .int 3]) (rest := []) ⟨hx, hb, hml, hown, hts⟩ (s_X9_isOutside l D t cI cL cC gC gE G gW gA 3 0 3 0 3 (by decide) (by decide) ) ⟨(va_cnB 3 hts gu_X5_tryBlock_3_X9_isOutside_n rfl rfl rfl (hE.2.1 _ (List.mem_of_getElem? (i := 23) rfl)) (hts (.initialized RX9) (List.mem_of_getElem? (i := 1) rfl)) (by decide +kernel) ⟨Nat.le_of_ble_eq_true rfl, Nat.le_of_ble_eq_true rfl⟩), (hts (.static yX9_isOutside) (List.mem_of_getElem? (i := 2) rfl)), trivial⟩ (tP_S hG hE) rfl rfl hl.1 rfl (lv_room (Nat.le_of_ble_eq_true rfl)) dX5_tryBlock_4 ⟨Nat.le_of_ble_eq_true rfl, Nat.le_of_ble_eq_true rfl⟩)) hS (fun k h => by simp [wr0] at h) (fun r_1 H locs hp_2 hG hS o_3 => ?_)
  rcases hp_2 with ⟨rfl, hc_109⟩ | ⟨rfl, hc_110, hc_111⟩
  · skip
    refine lv_if_eq (tgt := 11) hx hb dX5_tryBlock_7 (by decide) (fun q => absurd q (by decide)) (fun _ => ?_)
    exact ty_vret hx hb hr hlk (hG.weak (fun _ _ => gF_mono (by omega))) hS True.intro dX5_tryBlock_10
  · skip
    refine lv_if_eq (tgt := 11) hx hb dX5_tryBlock_7 (by decide) (fun _ => ?_) (fun q => absurd (by decide) q)
    refine lv_pc (pc2 := 11) rfl ?_
    refine lv_aload_n hx hb dX5_tryBlock_11 rfl (lv_at hl 0 rfl) ?_
    obtain ⟨r_4, r_6, r_8, v_10, v_11, v_12, v_14, v_16, v_17, v_19, at_20, h_5, h_7, h_9, h_13, h_15, h_18⟩ := gF_o9 hG k_a0
    refine va_get (D := D) (ci := 4) (v := .ref r_4) (C := RX5) (T := TX5) (N := 10) hx hb hts in5 hown hK (va_one at_20) 0 rfl rfl 0 (by decide) (hts (.fieldLink RX5 11 "RiverModel$Search" "blockEnds" "[LRiverModel$Course;") (List.mem_of_getElem? (i := 3) rfl)) (fun _ h9 => h9) rfl dX5_tryBlock_12 ?_
    refine lv_iload hx hb dX5_tryBlock_15 (lv_at hl 5 rfl) ?_
    obtain ⟨f_21, at_22, h_23⟩ := gF_o32 hG h_5
    have b_24 : vp_in 3 4 := (q_in (by decide) (by decide))
    refine va_aldq hx hb hK (va_one at_22) 0 2 rfl rfl b_24 dX5_tryBlock_17 ?_
    obtain ⟨r_25, e_26, h_27⟩ := h_23 _ (q_inlt b_24)
    rw [e_26]
    show W p l _ _ s m _ below meth c _ _ _ _ _ (F0 m _ ls (.ref r_25 :: _))
    refine lv_astore (lv' := [(8, .ref r_25), (0, .ref a0), (1, .ref a1), (2, .ref a2), (3, .ref a3), (4, .ref a4), (5, .int 3), (6, .long a6)]) hx hb dX5_tryBlock_18 hl (by decide) rfl (fun ls hl => ?_)
    refine lv_iconst (v := 0) hx hb dX5_tryBlock_20 (by decide) ?_
    refine lv_istore (lv' := [(9, .int 0), (8, .ref r_25), (0, .ref a0), (1, .ref a1), (2, .ref a2), (3, .ref a3), (4, .ref a4), (5, .int 3), (6, .long a6)]) hx hb dX5_tryBlock_21 hl (by decide) rfl (fun ls hl => ?_)
    refine lv_pc (pc2 := 23) rfl ?_
    refine lp_gen (fun WW hWW => ?_)
    have kx : ∀ (yo : Int32) (g : Nat) (H1 : Heap) (locs1 : List Loc) (ls1 : Array Slot), 0 ≤ yo.toInt → yo.toInt ≤ 12 → 2 * (g : Int) + 6 * (12 - yo.toInt) ≤ 2 * (G : Int) + 72 → tG D (gF cI cL cC gC gE g gW gA) t H1 → tF t wrS s.heap H1 locs1 → lv_has ls1 12 [(9, .int yo), (8, .ref r_25), (0, .ref a0), (1, .ref a1), (2, .ref a2), (3, .ref a3), (4, .ref a4), (5, .int 3), (6, .long a6)] → WW H1 locs1 (F0 m 126 ls1 []) := by
      intro yo g H locs ls v0 v1 v2 hG hS hl
      refine (hWW _ _ _).mpr ?_
      exact ty_vret hx hb hr hlk (hG.weak (fun _ _ => gF_mono (by omega))) hS True.intro dX5_tryBlock_126
    have loop : ∀ (k : Nat) (yo : Int32) (g : Nat) (H1 : Heap) (locs1 : List Loc) (ls1 : Array Slot), 12 - yo.toInt ≤ (k : Int) → 0 ≤ yo.toInt → yo.toInt ≤ 12 → 2 * (g : Int) + 6 * (12 - yo.toInt) ≤ 2 * (G : Int) + 72 → tG D (gF cI cL cC gC gE g gW gA) t H1 → tF t wrS s.heap H1 locs1 → lv_has ls1 12 [(9, .int yo), (8, .ref r_25), (0, .ref a0), (1, .ref a1), (2, .ref a2), (3, .ref a3), (4, .ref a4), (5, .int 3), (6, .long a6)] → WW H1 locs1 (F0 m 23 ls1 []) := by
      intro k
      induction k with
      | zero =>
        intro yo g H locs ls hk v0 v1 v2 hG hS hl
        refine (hWW _ _ _).mpr ?_
        refine lv_pc (pc2 := 23) rfl ?_
        refine lv_iload hx hb dX5_tryBlock_23 (lv_at hl 0 rfl) ?_
        refine lv_bipush (v := 10) hx hb dX5_tryBlock_25 (by decide) ?_
        refine lv_icmp_gt (tgt := 126) hx hb dX5_tryBlock_27 (by decide) (fun c_28 => ?_) (fun c_28 => ?_)
        · skip
          have c_28 : 10 < yo.toInt := q_lt c_28
          exact (hWW _ _ _).mp (kx yo g H locs ls (by omega) (by omega) (by omega) hG hS (lv_sub hl [0, 1, 2, 3, 4, 5, 6, 7, 8] rfl))
        · skip
          have c_28 : yo.toInt ≤ 10 := q_nlt c_28
          refine lv_aload_n hx hb dX5_tryBlock_30 rfl (lv_at hl 2 rfl) ?_
          obtain ⟨r_29, r_31, r_33, v_35, v_36, v_37, v_39, v_41, v_42, v_44, at_45, h_30, h_32, h_34, h_38, h_40, h_43⟩ := gF_o9 hG k_a0
          refine va_get (D := D) (ci := 4) (v := .ref r_31) (C := RX5) (T := TX5) (N := 10) hx hb hts in5 hown hK (va_one at_45) 0 rfl rfl 1 (by decide) (hts (.fieldLink RX5 17 "RiverModel$Search" "tried" "[I") (List.mem_of_getElem? (i := 4) rfl)) (fun _ h9 => h9) rfl dX5_tryBlock_31 ?_
          refine lv_iload hx hb dX5_tryBlock_34 (lv_at hl 7 rfl) ?_
          refine lv_iload hx hb dX5_tryBlock_36 (lv_at hl 0 rfl) ?_
          obtain ⟨f_46, at_47⟩ := gF_o33 hG h_32
          have b_48 : vp_in 3 4 := (q_in (by decide) (by decide))
          refine ty_iast (F2 := (gF cI cL cC gC gE g gW gA)) hx hb hK hG hS 0 at_47 (by rw [h_32]; rfl) rfl b_48 (by rw [h_32]; exact ⟨_, rfl⟩) tFF dX5_tryBlock_38 (fun H locs hG hS at_49 o_50 => ?_)
          have at_45 := va_at.keptK at_45 o_50 h_32 k_a0 rfl
          refine lv_pc (pc2 := 39) rfl ?_
          refine lv_aload hx hb dX5_tryBlock_39 (lv_at hl 1 rfl) ?_
          refine lv_aload hx hb dX5_tryBlock_41 (lv_at hl 6 rfl) ?_
          obtain ⟨r_51, r_53, r_55, r_57, v_59, v_60, v_61, v_62, at_64, h_52, h_54, h_56, h_58, h_63⟩ := gF_o5 hG h_27
          refine ty_callv ((W.runV (As := [.ref a4]) (rest := []) ⟨hx, hb, hml, hown, hts⟩ (s_X0_copyFrom l D t cI cL cC gC gE g gW gA r_25 a4 h_27 k_a4) (cwV 1 hts gu_X5_tryBlock_3_X0_copyFrom_53 rfl rfl rfl (by decide +kernel) ⟨Nat.le_of_ble_eq_true rfl, Nat.le_of_ble_eq_true rfl⟩) (tP_V hG hE at_64 rfl) rfl rfl hl.1 rfl (lv_room (Nat.le_of_ble_eq_true rfl)) dX5_tryBlock_43 ⟨Nat.le_of_ble_eq_true rfl, Nat.le_of_ble_eq_true rfl⟩)) hS (wrL_sub (by decide)) (fun H locs hp_66 hG hS o_67 => ?_)
          have at_45 := va_at.keptC at_45 o_67 k_a0 rfl
          refine lv_aload_n hx hb dX5_tryBlock_46 rfl (lv_at hl 2 rfl) ?_
          refine lv_aload_n hx hb dX5_tryBlock_47 rfl (lv_at hl 3 rfl) ?_
          refine lv_aload_n hx hb dX5_tryBlock_48 rfl (lv_at hl 4 rfl) ?_
          refine lv_aload_n hx hb dX5_tryBlock_49 rfl (lv_at hl 5 rfl) ?_
          refine lv_aload hx hb dX5_tryBlock_50 (lv_at hl 1 rfl) ?_
          refine lv_pc (pc2 := 52) rfl ?_
          refine lv_iload hx hb dX5_tryBlock_52 (lv_at hl 0 rfl) ?_
          refine lv_lload hx hb dX5_tryBlock_54 (lv_at hl 8 rfl) ?_
          refine ty_calll ((W.runV (As := [.ref a1, .ref a2, .ref a3, .ref r_25, .int yo, .long a6]) (rest := []) ⟨hx, hb, hml, hown, hts⟩ (s_X5_peakOfBlock l D t cI cL cC gC gE g gW gA a0 a1 a2 a3 r_25 yo a6 (by omega) k_a0 k_a1 k_a2 k_a3 h_27) (cwV 6 hts gu_X5_tryBlock_3_X5_peakOfBlock_57 rfl rfl rfl (by decide +kernel) ⟨Nat.le_of_ble_eq_true rfl, Nat.le_of_ble_eq_true rfl⟩) (tP_V hG hE at_45 rfl) rfl rfl hl.1 rfl (lv_room (Nat.le_of_ble_eq_true rfl)) dX5_tryBlock_56 ⟨Nat.le_of_ble_eq_true rfl, Nat.le_of_ble_eq_true rfl⟩)) hS (wrL_sub (by decide)) (fun z_68 H locs hp_69 hG hS o_70 => ?_)
          have at_45 := va_at.keptC at_45 o_70 k_a0 rfl
          refine lv_lstore (lv' := [(10, .long z_68), (9, .int yo), (8, .ref r_25), (0, .ref a0), (1, .ref a1), (2, .ref a2), (3, .ref a3), (4, .ref a4), (5, .int 3), (6, .long a6)]) hx hb dX5_tryBlock_59 hl (by decide) rfl (fun ls hl => ?_)
          refine lv_lload hx hb dX5_tryBlock_61 (lv_at hl 0 rfl) ?_
          refine lv_ldc2 hx hb hown (hts (.constantLong RX5 61 (-1)) (List.mem_of_getElem? (i := 13) rfl)) dX5_tryBlock_63 ?_
          refine W.lcmp hx hb dX5_tryBlock_66 ?_
          refine lv_if_eq (tgt := 120) hx hb dX5_tryBlock_67 (by decide) (fun c_71 => ?_) (fun c_71 => ?_)
          · skip
            have c_71 : z_68.toInt = (-1) := q_cmp_eq c_71
            refine lv_pc (pc2 := 120) rfl ?_
            obtain ⟨x_72, e_73⟩ : ∃ y : Int32, y = yo + Int32.ofInt 2 := ⟨_, rfl⟩
            have i_x_72 : x_72.toInt = yo.toInt + 2 := by rw [e_73, show Int32.ofInt 2 = 2 by decide]; exact (q_add (by rw [show (2 : Int32).toInt = 2 by decide]; omega) (by rw [show (2 : Int32).toInt = 2 by decide]; omega)).trans (by rw [show (2 : Int32).toInt = 2 by decide])
            refine lv_iinc (v := x_72) (lv' := [(9, .int x_72), (10, .long z_68), (8, .ref r_25), (0, .ref a0), (1, .ref a1), (2, .ref a2), (3, .ref a3), (4, .ref a4), (5, .int 3), (6, .long a6)]) hx hb dX5_tryBlock_120 hl (k := 1) rfl e_73.symm (by decide) rfl (fun ls hl => ?_)
            refine lv_goto (tgt := 23) hx hb dX5_tryBlock_123 (by decide) ?_
            exfalso; omega
          · skip
            have c_71 : z_68.toInt ≠ (-1) := q_cmp_ne c_71
            refine lv_aload_n hx hb dX5_tryBlock_70 rfl (lv_at hl 3 rfl) ?_
            refine va_get (D := D) (ci := 4) (v := .int v_35) (C := RX5) (T := TX5) (N := 10) hx hb hts in5 hown hK (va_one at_45) 0 rfl rfl 3 (by decide) (hts (.fieldLink RX5 24 "RiverModel$Search" "isFound" "Z") (List.mem_of_getElem? (i := 14) rfl)) (fun _ h9 => h9) rfl dX5_tryBlock_71 ?_
            refine lv_if_eq (tgt := 90) hx hb dX5_tryBlock_74 (by decide) (fun c_74 => ?_) (fun c_74 => ?_)
            · skip
              have c_74 : v_35.toInt = 0 := q_eq c_74
              refine lv_iload hx hb dX5_tryBlock_90 (lv_at hl 8 rfl) ?_
              refine lv_iconst (v := 3) hx hb dX5_tryBlock_92 (by decide) ?_
              refine lv_icmp_ne (tgt := 105) hx hb dX5_tryBlock_93 (by decide) (fun q => absurd rfl q) (fun _ => ?_)
              refine lv_pc (pc2 := 96) rfl ?_
              refine lv_aload_n hx hb dX5_tryBlock_96 rfl (lv_at hl 3 rfl) ?_
              refine lv_lload hx hb dX5_tryBlock_97 (lv_at hl 0 rfl) ?_
              refine ty_callv ((W.runV (As := [.long z_68]) (rest := []) ⟨hx, hb, hml, hown, hts⟩ (s_X5_takeTried l D t cI cL cC gC gE (g + 6) gW gA a0 z_68 k_a0) (cwV 1 hts gu_X5_tryBlock_3_X5_takeTried_63 rfl rfl rfl (by decide +kernel) ⟨Nat.le_of_ble_eq_true rfl, Nat.le_of_ble_eq_true rfl⟩) (tP_V hG hE at_45 rfl) rfl rfl hl.1 rfl (lv_room (Nat.le_of_ble_eq_true rfl)) dX5_tryBlock_99 ⟨Nat.le_of_ble_eq_true rfl, Nat.le_of_ble_eq_true rfl⟩)) hS (fun _ h => h) (fun H locs hp_76 hG hS o_77 => ?_)
              refine lv_goto (tgt := 120) hx hb dX5_tryBlock_102 (by decide) ?_
              obtain ⟨x_78, e_79⟩ : ∃ y : Int32, y = yo + Int32.ofInt 2 := ⟨_, rfl⟩
              have i_x_78 : x_78.toInt = yo.toInt + 2 := by rw [e_79, show Int32.ofInt 2 = 2 by decide]; exact (q_add (by rw [show (2 : Int32).toInt = 2 by decide]; omega) (by rw [show (2 : Int32).toInt = 2 by decide]; omega)).trans (by rw [show (2 : Int32).toInt = 2 by decide])
              refine lv_iinc (v := x_78) (lv' := [(9, .int x_78), (10, .long z_68), (8, .ref r_25), (0, .ref a0), (1, .ref a1), (2, .ref a2), (3, .ref a3), (4, .ref a4), (5, .int 3), (6, .long a6)]) hx hb dX5_tryBlock_120 hl (k := 1) rfl e_79.symm (by decide) rfl (fun ls hl => ?_)
              refine lv_goto (tgt := 23) hx hb dX5_tryBlock_123 (by decide) ?_
              exfalso; omega
            · skip
              have c_74 : v_35.toInt ≠ 0 := q_ne c_74
              refine lv_lload hx hb dX5_tryBlock_77 (lv_at hl 0 rfl) ?_
              refine lv_aload_n hx hb dX5_tryBlock_79 rfl (lv_at hl 3 rfl) ?_
              refine lv_pc (pc2 := 80) rfl ?_
              refine va_get (D := D) (ci := 4) (v := .long v_36) (C := RX5) (T := TX5) (N := 10) hx hb hts in5 hown hK (va_one at_45) 0 rfl rfl 4 (by decide) (hts (.fieldLink RX5 28 "RiverModel$Search" "leastPeak" "J") (List.mem_of_getElem? (i := 18) rfl)) (fun _ h9 => h9) rfl dX5_tryBlock_80 ?_
              refine W.lcmp hx hb dX5_tryBlock_83 ?_
              refine lv_if_lt (tgt := 90) hx hb dX5_tryBlock_84 (by decide) (fun c_80 => ?_) (fun c_80 => ?_)
              · skip
                have c_80 : z_68.toInt < v_36.toInt := q_cmp_lt c_80
                refine lv_iload hx hb dX5_tryBlock_90 (lv_at hl 8 rfl) ?_
                refine lv_iconst (v := 3) hx hb dX5_tryBlock_92 (by decide) ?_
                refine lv_icmp_ne (tgt := 105) hx hb dX5_tryBlock_93 (by decide) (fun q => absurd rfl q) (fun _ => ?_)
                refine lv_aload_n hx hb dX5_tryBlock_96 rfl (lv_at hl 3 rfl) ?_
                refine lv_lload hx hb dX5_tryBlock_97 (lv_at hl 0 rfl) ?_
                refine lv_pc (pc2 := 99) rfl ?_
                refine ty_callv ((W.runV (As := [.long z_68]) (rest := []) ⟨hx, hb, hml, hown, hts⟩ (s_X5_takeTried l D t cI cL cC gC gE (g + 6) gW gA a0 z_68 k_a0) (cwV 1 hts gu_X5_tryBlock_3_X5_takeTried_63 rfl rfl rfl (by decide +kernel) ⟨Nat.le_of_ble_eq_true rfl, Nat.le_of_ble_eq_true rfl⟩) (tP_V hG hE at_45 rfl) rfl rfl hl.1 rfl (lv_room (Nat.le_of_ble_eq_true rfl)) dX5_tryBlock_99 ⟨Nat.le_of_ble_eq_true rfl, Nat.le_of_ble_eq_true rfl⟩)) hS (fun _ h => h) (fun H locs hp_82 hG hS o_83 => ?_)
                refine lv_goto (tgt := 120) hx hb dX5_tryBlock_102 (by decide) ?_
                obtain ⟨x_84, e_85⟩ : ∃ y : Int32, y = yo + Int32.ofInt 2 := ⟨_, rfl⟩
                have i_x_84 : x_84.toInt = yo.toInt + 2 := by rw [e_85, show Int32.ofInt 2 = 2 by decide]; exact (q_add (by rw [show (2 : Int32).toInt = 2 by decide]; omega) (by rw [show (2 : Int32).toInt = 2 by decide]; omega)).trans (by rw [show (2 : Int32).toInt = 2 by decide])
                refine lv_iinc (v := x_84) (lv' := [(9, .int x_84), (10, .long z_68), (8, .ref r_25), (0, .ref a0), (1, .ref a1), (2, .ref a2), (3, .ref a3), (4, .ref a4), (5, .int 3), (6, .long a6)]) hx hb dX5_tryBlock_120 hl (k := 1) rfl e_85.symm (by decide) rfl (fun ls hl => ?_)
                refine lv_goto (tgt := 23) hx hb dX5_tryBlock_123 (by decide) ?_
                exfalso; omega
              · skip
                have c_80 : v_36.toInt ≤ z_68.toInt := q_cmp_nlt c_80
                refine lv_goto (tgt := 120) hx hb dX5_tryBlock_87 (by decide) ?_
                obtain ⟨x_86, e_87⟩ : ∃ y : Int32, y = yo + Int32.ofInt 2 := ⟨_, rfl⟩
                have i_x_86 : x_86.toInt = yo.toInt + 2 := by rw [e_87, show Int32.ofInt 2 = 2 by decide]; exact (q_add (by rw [show (2 : Int32).toInt = 2 by decide]; omega) (by rw [show (2 : Int32).toInt = 2 by decide]; omega)).trans (by rw [show (2 : Int32).toInt = 2 by decide])
                refine lv_iinc (v := x_86) (lv' := [(9, .int x_86), (10, .long z_68), (8, .ref r_25), (0, .ref a0), (1, .ref a1), (2, .ref a2), (3, .ref a3), (4, .ref a4), (5, .int 3), (6, .long a6)]) hx hb dX5_tryBlock_120 hl (k := 1) rfl e_87.symm (by decide) rfl (fun ls hl => ?_)
                refine lv_goto (tgt := 23) hx hb dX5_tryBlock_123 (by decide) ?_
                exfalso; omega
      | succ k ih =>
        intro yo g H locs ls hk v0 v1 v2 hG hS hl
        refine (hWW _ _ _).mpr ?_
        refine lv_iload hx hb dX5_tryBlock_23 (lv_at hl 0 rfl) ?_
        refine lv_pc (pc2 := 25) rfl ?_
        refine lv_bipush (v := 10) hx hb dX5_tryBlock_25 (by decide) ?_
        refine lv_icmp_gt (tgt := 126) hx hb dX5_tryBlock_27 (by decide) (fun c_88 => ?_) (fun c_88 => ?_)
        · skip
          have c_88 : 10 < yo.toInt := q_lt c_88
          exact (hWW _ _ _).mp (kx yo g H locs ls (by omega) (by omega) (by omega) hG hS (lv_sub hl [0, 1, 2, 3, 4, 5, 6, 7, 8] rfl))
        · skip
          have c_88 : yo.toInt ≤ 10 := q_nlt c_88
          refine lv_aload_n hx hb dX5_tryBlock_30 rfl (lv_at hl 2 rfl) ?_
          obtain ⟨r_89, r_91, r_93, v_95, v_96, v_97, v_99, v_101, v_102, v_104, at_105, h_90, h_92, h_94, h_98, h_100, h_103⟩ := gF_o9 hG k_a0
          refine va_get (D := D) (ci := 4) (v := .ref r_91) (C := RX5) (T := TX5) (N := 10) hx hb hts in5 hown hK (va_one at_105) 0 rfl rfl 1 (by decide) (hts (.fieldLink RX5 17 "RiverModel$Search" "tried" "[I") (List.mem_of_getElem? (i := 4) rfl)) (fun _ h9 => h9) rfl dX5_tryBlock_31 ?_
          refine lv_iload hx hb dX5_tryBlock_34 (lv_at hl 7 rfl) ?_
          refine lv_iload hx hb dX5_tryBlock_36 (lv_at hl 0 rfl) ?_
          obtain ⟨f_106, at_107⟩ := gF_o33 hG h_92
          have b_108 : vp_in 3 4 := (q_in (by decide) (by decide))
          refine ty_iast (F2 := (gF cI cL cC gC gE g gW gA)) hx hb hK hG hS 0 at_107 (by rw [h_92]; rfl) rfl b_108 (by rw [h_92]; exact ⟨_, rfl⟩) tFF dX5_tryBlock_38 (fun H locs hG hS at_109 o_110 => ?_)
          have at_105 := va_at.keptK at_105 o_110 h_92 k_a0 rfl
          refine lv_aload hx hb dX5_tryBlock_39 (lv_at hl 1 rfl) ?_
          refine lv_pc (pc2 := 41) rfl ?_
          refine lv_aload hx hb dX5_tryBlock_41 (lv_at hl 6 rfl) ?_
          obtain ⟨r_111, r_113, r_115, r_117, v_119, v_120, v_121, v_122, at_124, h_112, h_114, h_116, h_118, h_123⟩ := gF_o5 hG h_27
          refine ty_callv ((W.runV (As := [.ref a4]) (rest := []) ⟨hx, hb, hml, hown, hts⟩ (s_X0_copyFrom l D t cI cL cC gC gE g gW gA r_25 a4 h_27 k_a4) (cwV 1 hts gu_X5_tryBlock_3_X0_copyFrom_53 rfl rfl rfl (by decide +kernel) ⟨Nat.le_of_ble_eq_true rfl, Nat.le_of_ble_eq_true rfl⟩) (tP_V hG hE at_124 rfl) rfl rfl hl.1 rfl (lv_room (Nat.le_of_ble_eq_true rfl)) dX5_tryBlock_43 ⟨Nat.le_of_ble_eq_true rfl, Nat.le_of_ble_eq_true rfl⟩)) hS (wrL_sub (by decide)) (fun H locs hp_126 hG hS o_127 => ?_)
          have at_105 := va_at.keptC at_105 o_127 k_a0 rfl
          refine lv_aload_n hx hb dX5_tryBlock_46 rfl (lv_at hl 2 rfl) ?_
          refine lv_aload_n hx hb dX5_tryBlock_47 rfl (lv_at hl 3 rfl) ?_
          refine lv_aload_n hx hb dX5_tryBlock_48 rfl (lv_at hl 4 rfl) ?_
          refine lv_aload_n hx hb dX5_tryBlock_49 rfl (lv_at hl 5 rfl) ?_
          refine lv_aload hx hb dX5_tryBlock_50 (lv_at hl 1 rfl) ?_
          refine lv_iload hx hb dX5_tryBlock_52 (lv_at hl 0 rfl) ?_
          refine lv_pc (pc2 := 54) rfl ?_
          refine lv_lload hx hb dX5_tryBlock_54 (lv_at hl 8 rfl) ?_
          refine ty_calll ((W.runV (As := [.ref a1, .ref a2, .ref a3, .ref r_25, .int yo, .long a6]) (rest := []) ⟨hx, hb, hml, hown, hts⟩ (s_X5_peakOfBlock l D t cI cL cC gC gE g gW gA a0 a1 a2 a3 r_25 yo a6 (by omega) k_a0 k_a1 k_a2 k_a3 h_27) (cwV 6 hts gu_X5_tryBlock_3_X5_peakOfBlock_57 rfl rfl rfl (by decide +kernel) ⟨Nat.le_of_ble_eq_true rfl, Nat.le_of_ble_eq_true rfl⟩) (tP_V hG hE at_105 rfl) rfl rfl hl.1 rfl (lv_room (Nat.le_of_ble_eq_true rfl)) dX5_tryBlock_56 ⟨Nat.le_of_ble_eq_true rfl, Nat.le_of_ble_eq_true rfl⟩)) hS (wrL_sub (by decide)) (fun z_128 H locs hp_129 hG hS o_130 => ?_)
          have at_105 := va_at.keptC at_105 o_130 k_a0 rfl
          refine lv_lstore (lv' := [(10, .long z_128), (9, .int yo), (8, .ref r_25), (0, .ref a0), (1, .ref a1), (2, .ref a2), (3, .ref a3), (4, .ref a4), (5, .int 3), (6, .long a6)]) hx hb dX5_tryBlock_59 hl (by decide) rfl (fun ls hl => ?_)
          refine lv_lload hx hb dX5_tryBlock_61 (lv_at hl 0 rfl) ?_
          refine lv_ldc2 hx hb hown (hts (.constantLong RX5 61 (-1)) (List.mem_of_getElem? (i := 13) rfl)) dX5_tryBlock_63 ?_
          refine W.lcmp hx hb dX5_tryBlock_66 ?_
          refine lv_if_eq (tgt := 120) hx hb dX5_tryBlock_67 (by decide) (fun c_131 => ?_) (fun c_131 => ?_)
          · skip
            have c_131 : z_128.toInt = (-1) := q_cmp_eq c_131
            obtain ⟨x_132, e_133⟩ : ∃ y : Int32, y = yo + Int32.ofInt 2 := ⟨_, rfl⟩
            have i_x_132 : x_132.toInt = yo.toInt + 2 := by rw [e_133, show Int32.ofInt 2 = 2 by decide]; exact (q_add (by rw [show (2 : Int32).toInt = 2 by decide]; omega) (by rw [show (2 : Int32).toInt = 2 by decide]; omega)).trans (by rw [show (2 : Int32).toInt = 2 by decide])
            refine lv_iinc (v := x_132) (lv' := [(9, .int x_132), (10, .long z_128), (8, .ref r_25), (0, .ref a0), (1, .ref a1), (2, .ref a2), (3, .ref a3), (4, .ref a4), (5, .int 3), (6, .long a6)]) hx hb dX5_tryBlock_120 hl (k := 1) rfl e_133.symm (by decide) rfl (fun ls hl => ?_)
            refine lv_pc (pc2 := 123) rfl ?_
            refine lv_goto (tgt := 23) hx hb dX5_tryBlock_123 (by decide) ?_
            exact (hWW _ _ _).mp (ih x_132 (g + 6) H locs ls (by omega) (by omega) (by omega) (by omega) hG hS (lv_sub hl [0, 2, 3, 4, 5, 6, 7, 8, 9] rfl))
          · skip
            have c_131 : z_128.toInt ≠ (-1) := q_cmp_ne c_131
            refine lv_aload_n hx hb dX5_tryBlock_70 rfl (lv_at hl 3 rfl) ?_
            refine va_get (D := D) (ci := 4) (v := .int v_95) (C := RX5) (T := TX5) (N := 10) hx hb hts in5 hown hK (va_one at_105) 0 rfl rfl 3 (by decide) (hts (.fieldLink RX5 24 "RiverModel$Search" "isFound" "Z") (List.mem_of_getElem? (i := 14) rfl)) (fun _ h9 => h9) rfl dX5_tryBlock_71 ?_
            refine lv_if_eq (tgt := 90) hx hb dX5_tryBlock_74 (by decide) (fun c_134 => ?_) (fun c_134 => ?_)
            · skip
              have c_134 : v_95.toInt = 0 := q_eq c_134
              refine lv_iload hx hb dX5_tryBlock_90 (lv_at hl 8 rfl) ?_
              refine lv_iconst (v := 3) hx hb dX5_tryBlock_92 (by decide) ?_
              refine lv_icmp_ne (tgt := 105) hx hb dX5_tryBlock_93 (by decide) (fun q => absurd rfl q) (fun _ => ?_)
              refine lv_aload_n hx hb dX5_tryBlock_96 rfl (lv_at hl 3 rfl) ?_
              refine lv_pc (pc2 := 97) rfl ?_
              refine lv_lload hx hb dX5_tryBlock_97 (lv_at hl 0 rfl) ?_
              refine ty_callv ((W.runV (As := [.long z_128]) (rest := []) ⟨hx, hb, hml, hown, hts⟩ (s_X5_takeTried l D t cI cL cC gC gE (g + 6) gW gA a0 z_128 k_a0) (cwV 1 hts gu_X5_tryBlock_3_X5_takeTried_63 rfl rfl rfl (by decide +kernel) ⟨Nat.le_of_ble_eq_true rfl, Nat.le_of_ble_eq_true rfl⟩) (tP_V hG hE at_105 rfl) rfl rfl hl.1 rfl (lv_room (Nat.le_of_ble_eq_true rfl)) dX5_tryBlock_99 ⟨Nat.le_of_ble_eq_true rfl, Nat.le_of_ble_eq_true rfl⟩)) hS (fun _ h => h) (fun H locs hp_136 hG hS o_137 => ?_)
              refine lv_goto (tgt := 120) hx hb dX5_tryBlock_102 (by decide) ?_
              obtain ⟨x_138, e_139⟩ : ∃ y : Int32, y = yo + Int32.ofInt 2 := ⟨_, rfl⟩
              have i_x_138 : x_138.toInt = yo.toInt + 2 := by rw [e_139, show Int32.ofInt 2 = 2 by decide]; exact (q_add (by rw [show (2 : Int32).toInt = 2 by decide]; omega) (by rw [show (2 : Int32).toInt = 2 by decide]; omega)).trans (by rw [show (2 : Int32).toInt = 2 by decide])
              refine lv_iinc (v := x_138) (lv' := [(9, .int x_138), (10, .long z_128), (8, .ref r_25), (0, .ref a0), (1, .ref a1), (2, .ref a2), (3, .ref a3), (4, .ref a4), (5, .int 3), (6, .long a6)]) hx hb dX5_tryBlock_120 hl (k := 1) rfl e_139.symm (by decide) rfl (fun ls hl => ?_)
              refine lv_goto (tgt := 23) hx hb dX5_tryBlock_123 (by decide) ?_
              exact (hWW _ _ _).mp (ih x_138 (g + 6) H locs ls (by omega) (by omega) (by omega) (by omega) hG hS (lv_sub hl [0, 2, 3, 4, 5, 6, 7, 8, 9] rfl))
            · skip
              have c_134 : v_95.toInt ≠ 0 := q_ne c_134
              refine lv_lload hx hb dX5_tryBlock_77 (lv_at hl 0 rfl) ?_
              refine lv_aload_n hx hb dX5_tryBlock_79 rfl (lv_at hl 3 rfl) ?_
              refine va_get (D := D) (ci := 4) (v := .long v_96) (C := RX5) (T := TX5) (N := 10) hx hb hts in5 hown hK (va_one at_105) 0 rfl rfl 4 (by decide) (hts (.fieldLink RX5 28 "RiverModel$Search" "leastPeak" "J") (List.mem_of_getElem? (i := 18) rfl)) (fun _ h9 => h9) rfl dX5_tryBlock_80 ?_
              refine lv_pc (pc2 := 83) rfl ?_
              refine W.lcmp hx hb dX5_tryBlock_83 ?_
              refine lv_if_lt (tgt := 90) hx hb dX5_tryBlock_84 (by decide) (fun c_140 => ?_) (fun c_140 => ?_)
              · skip
                have c_140 : z_128.toInt < v_96.toInt := q_cmp_lt c_140
                refine lv_iload hx hb dX5_tryBlock_90 (lv_at hl 8 rfl) ?_
                refine lv_iconst (v := 3) hx hb dX5_tryBlock_92 (by decide) ?_
                refine lv_icmp_ne (tgt := 105) hx hb dX5_tryBlock_93 (by decide) (fun q => absurd rfl q) (fun _ => ?_)
                refine lv_aload_n hx hb dX5_tryBlock_96 rfl (lv_at hl 3 rfl) ?_
                refine lv_lload hx hb dX5_tryBlock_97 (lv_at hl 0 rfl) ?_
                refine ty_callv ((W.runV (As := [.long z_128]) (rest := []) ⟨hx, hb, hml, hown, hts⟩ (s_X5_takeTried l D t cI cL cC gC gE (g + 6) gW gA a0 z_128 k_a0) (cwV 1 hts gu_X5_tryBlock_3_X5_takeTried_63 rfl rfl rfl (by decide +kernel) ⟨Nat.le_of_ble_eq_true rfl, Nat.le_of_ble_eq_true rfl⟩) (tP_V hG hE at_105 rfl) rfl rfl hl.1 rfl (lv_room (Nat.le_of_ble_eq_true rfl)) dX5_tryBlock_99 ⟨Nat.le_of_ble_eq_true rfl, Nat.le_of_ble_eq_true rfl⟩)) hS (fun _ h => h) (fun H locs hp_142 hG hS o_143 => ?_)
                refine lv_pc (pc2 := 102) rfl ?_
                refine lv_goto (tgt := 120) hx hb dX5_tryBlock_102 (by decide) ?_
                obtain ⟨x_144, e_145⟩ : ∃ y : Int32, y = yo + Int32.ofInt 2 := ⟨_, rfl⟩
                have i_x_144 : x_144.toInt = yo.toInt + 2 := by rw [e_145, show Int32.ofInt 2 = 2 by decide]; exact (q_add (by rw [show (2 : Int32).toInt = 2 by decide]; omega) (by rw [show (2 : Int32).toInt = 2 by decide]; omega)).trans (by rw [show (2 : Int32).toInt = 2 by decide])
                refine lv_iinc (v := x_144) (lv' := [(9, .int x_144), (10, .long z_128), (8, .ref r_25), (0, .ref a0), (1, .ref a1), (2, .ref a2), (3, .ref a3), (4, .ref a4), (5, .int 3), (6, .long a6)]) hx hb dX5_tryBlock_120 hl (k := 1) rfl e_145.symm (by decide) rfl (fun ls hl => ?_)
                refine lv_goto (tgt := 23) hx hb dX5_tryBlock_123 (by decide) ?_
                exact (hWW _ _ _).mp (ih x_144 (g + 6) H locs ls (by omega) (by omega) (by omega) (by omega) hG hS (lv_sub hl [0, 2, 3, 4, 5, 6, 7, 8, 9] rfl))
              · skip
                have c_140 : v_96.toInt ≤ z_128.toInt := q_cmp_nlt c_140
                refine lv_goto (tgt := 120) hx hb dX5_tryBlock_87 (by decide) ?_
                obtain ⟨x_146, e_147⟩ : ∃ y : Int32, y = yo + Int32.ofInt 2 := ⟨_, rfl⟩
                have i_x_146 : x_146.toInt = yo.toInt + 2 := by rw [e_147, show Int32.ofInt 2 = 2 by decide]; exact (q_add (by rw [show (2 : Int32).toInt = 2 by decide]; omega) (by rw [show (2 : Int32).toInt = 2 by decide]; omega)).trans (by rw [show (2 : Int32).toInt = 2 by decide])
                refine lv_iinc (v := x_146) (lv' := [(9, .int x_146), (10, .long z_128), (8, .ref r_25), (0, .ref a0), (1, .ref a1), (2, .ref a2), (3, .ref a3), (4, .ref a4), (5, .int 3), (6, .long a6)]) hx hb dX5_tryBlock_120 hl (k := 1) rfl e_147.symm (by decide) rfl (fun ls hl => ?_)
                refine lv_goto (tgt := 23) hx hb dX5_tryBlock_123 (by decide) ?_
                exact (hWW _ _ _).mp (ih x_146 (g + 6) H locs ls (by omega) (by omega) (by omega) (by omega) hG hS (lv_sub hl [0, 2, 3, 4, 5, 6, 7, 8, 9] rfl))
    have hz_yo : (0 : Int32).toInt = 0 := by decide
    exact loop (12 - 0 : Int).toNat 0 G H locs ls (by omega) (by omega) (by omega) (by omega) hG hS (lv_sub hl [0, 1, 2, 3, 4, 5, 6, 7, 8] rfl)

def uX5_tryBlock_2 : List Cond := .code yX5_tryBlock cX5_tryBlock 12 none :: ([.initialized RX9, .static yX9_isOutside, .fieldLink RX5 11 "RiverModel$Search" "blockEnds" "[LRiverModel$Course;", .fieldLink RX5 17 "RiverModel$Search" "tried" "[I", .methodLink RX5 53 yX0_copyFrom, .instanceMethod yX0_copyFrom, .selects RX0 yX0_copyFrom yX0_copyFrom, .initialized RX0, .methodLink RX5 57 yX5_peakOfBlock, .instanceMethod yX5_peakOfBlock, .selects RX5 yX5_peakOfBlock yX5_peakOfBlock, .initialized RX5, .constantLong RX5 61 (-1), .fieldLink RX5 24 "RiverModel$Search" "isFound" "Z", .methodLink RX5 67 yX5_tryBlock, .instanceMethod yX5_tryBlock, .selects RX5 yX5_tryBlock yX5_tryBlock, .fieldLink RX5 28 "RiverModel$Search" "leastPeak" "J", .code yX9_isOutside cX9_isOutside 3 (some .boolean), .code yX0_copyFrom cX0_copyFrom 2 none, .fieldLink RX0 9 "RiverModel$Course" "held" "[J", .methodLink RX0 54 arraycopyName, .native arraycopyName, .static arraycopyName, .initialized "java/lang/System", .fieldLink RX0 15 "RiverModel$Course" "moved" "[J", .fieldLink RX0 18 "RiverModel$Course" "openings" "[I", .fieldLink RX0 22 "RiverModel$Course" "due" "[J", .fieldLink RX0 25 "RiverModel$Course" "rained" "J", .fieldLink RX0 29 "RiverModel$Course" "air" "J", .fieldLink RX0 32 "RiverModel$Course" "sea" "J", .fieldLink RX0 35 "RiverModel$Course" "hours" "I", .code yX5_peakOfBlock cX5_peakOfBlock 11 (some .long), .fieldLink RX5 32 "RiverModel$Search" "gate" "I", .static yX9_isNoGate, .fieldLink RX5 42 "RiverModel$Search" "store" "I", .static yX9_isNoStore, .fieldLink RX5 78 "RiverModel$Course" "openings" "[I", .fieldLink RX5 36 "RiverModel$Search" "blockHours" "I", .fieldLink RX5 81 "RiverModel$Course" "hours" "I", .methodLink RX5 84 yX6_rainIn, .instanceMethod yX6_rainIn, .selects RX6 yX6_rainIn yX6_rainIn, .initialized RX6, .methodLink RX5 90 yX6_tempIn, .instanceMethod yX6_tempIn, .selects RX6 yX6_tempIn yX6_tempIn, .methodLink RX5 93 yX0_goHour, .instanceMethod yX0_goHour, .selects RX0 yX0_goHour yX0_goHour, .fieldLink RX5 97 "RiverModel$Course" "held" "[J", .fieldLink RX5 45 "RiverModel$Search" "limit" "J", .fieldLink RX5 39 "RiverModel$Search" "gauge" "I", .methodLink RX5 101 yX1_reading, .instanceMethod yX1_reading, .selects RX1 yX1_reading yX1_reading, .initialized RX1, .methodLink RX5 107 Lib.MathLoose.max_long.x, .static Lib.MathLoose.max_long.x, .initialized "java/lang/Math", .code Lib.MathLoose.max_long.x Lib.MathLoose.max_long.code 4 (some .long), .code yX9_isNoGate cX9_isNoGate 1 (some .boolean), .code yX9_isNoStore cX9_isNoStore 1 (some .boolean), .code yX6_rainIn cX6_rainIn 2 (some .int), .fieldLink RX6 9 "RiverModel$Sky" "rains" "[I", .code yX6_tempIn cX6_tempIn 2 (some .int), .fieldLink RX6 15 "RiverModel$Sky" "temps" "[I", .code yX0_goHour cX0_goHour 7 none, .methodLink RX0 72 yX0_bringDue, .instanceMethod yX0_bringDue, .selects RX0 yX0_bringDue yX0_bringDue, .fieldLink RX0 75 "RiverModel$Model" "many" "I", .methodLink RX0 78 yX0_amountOf, .instanceMethod yX0_amountOf, .selects RX0 yX0_amountOf yX0_amountOf, .methodLink RX0 82 yX0_move, .instanceMethod yX0_move, .selects RX0 yX0_move yX0_move, .code yX0_bringDue cX0_bringDue 3 none, .code yX0_amountOf cX0_amountOf 11 (some .long), .methodLink RX0 86 yX4_cell, .instanceMethod yX4_cell, .selects RX4 yX4_cell yX4_cell, .initialized RX4, .methodLink RX0 110 yX4_gateOf, .instanceMethod yX4_gateOf, .selects RX4 yX4_gateOf yX4_gateOf, .methodLink RX0 113 yX0_openingOf, .instanceMethod yX0_openingOf, .selects RX0 yX0_openingOf yX0_openingOf, .methodLink RX0 107 Lib.MathLoose.min_long.x, .static Lib.MathLoose.min_long.x, .code Lib.MathLoose.min_long.x Lib.MathLoose.min_long.code 4 (some .long), .methodLink RX0 94 yX0_leakOf, .static yX0_leakOf, .constantLong RX0 117 (100), .methodLink RX0 98 yX4_capacityOf, .instanceMethod yX4_capacityOf, .selects RX4 yX4_capacityOf yX4_capacityOf, .methodLink RX0 101 Lib.MathLoose.max_long.x, .constantLong RX0 119 (10), .code yX4_cell cX4_cell 3 (some .int), .fieldLink RX4 9 "RiverModel$Model" "cells" "[I", .code yX4_gateOf cX4_gateOf 3 (some .int), .fieldLink RX4 28 "RiverModel$Model" "gates" "I", .fieldLink RX4 18 "RiverModel$Model" "gateItems" "[I", .code yX0_openingOf cX0_openingOf 2 (some .long), .code yX0_leakOf cX0_leakOf 8 (some .long), .code yX4_capacityOf cX4_capacityOf 2 (some .int), .methodLink RX4 66 yX4_hasStore, .instanceMethod yX4_hasStore, .selects RX4 yX4_hasStore yX4_hasStore, .fieldLink RX4 15 "RiverModel$Model" "storeItems" "[I", .methodLink RX4 73 yX4_cell, .code yX4_hasStore cX4_hasStore 2 (some .boolean), .code yX0_move cX0_move 8 none, .methodLink RX0 124 yX0_send, .instanceMethod yX0_send, .selects RX0 yX0_send yX0_send, .code yX0_send cX0_send 5 none, .code yX1_reading cX1_reading 4 (some .long), .methodLink RX1 35 yX1_isSet, .instanceMethod yX1_isSet, .selects RX1 yX1_isSet yX1_isSet, .fieldLink RX1 15 "RiverModel$Gauges" "places" "[I", .fieldLink RX1 9 "RiverModel$Gauges" "whats" "[I", .fieldLink RX1 50 "RiverModel$Course" "held" "[J", .static yX9_isNoItem, .fieldLink RX1 41 "RiverModel$Course" "moved" "[J", .code yX1_isSet cX1_isSet 2 (some .boolean), .code yX9_isNoItem cX9_isNoItem 1 (some .boolean), .methodLink RX5 63 yX5_takeTried, .instanceMethod yX5_takeTried, .selects RX5 yX5_takeTried yX5_takeTried, .code yX5_takeTried cX5_takeTried 3 none, .fieldLink RX5 21 "RiverModel$Search" "found" "[I", .methodLink RX5 113 arraycopyName] ++ wsX50 ++ wsX00 ++ wsX60 ++ wsX40 ++ wsX10)
set_option maxRecDepth 20000 in
theorem gu_X5_tryBlock_2_X9_isOutside_n : GoodIn uX5_tryBlock_2 (uX9_isOutside) := goodIn_r _ [19] rfl (by decide +kernel)
set_option maxRecDepth 20000 in
theorem gu_X5_tryBlock_2_X0_copyFrom_53 : GoodIn uX5_tryBlock_2 (wsV RX5 53 RX0 yX0_copyFrom uX0_copyFrom) := goodIn_r _ [5, 6, 7, 8, 20, 21, 22, 23, 24, 25, 26, 27, 28, 29, 30, 31, 32, 148, 149, 150, 151, 152, 153, 154, 155] rfl (by decide +kernel)
set_option maxRecDepth 20000 in
theorem gu_X5_tryBlock_2_X5_peakOfBlock_57 : GoodIn uX5_tryBlock_2 (wsV RX5 57 RX5 yX5_peakOfBlock uX5_peakOfBlock) := goodIn_r _ [9, 10, 11, 12, 33, 34, 1, 35, 13, 36, 37, 38, 39, 40, 41, 42, 43, 44, 45, 46, 47, 48, 49, 50, 8, 51, 52, 53, 54, 55, 56, 57, 58, 59, 60, 61, 62, 63, 64, 2, 65, 19, 66, 67, 68, 69, 70, 71, 32, 72, 73, 74, 75, 26, 76, 77, 78, 79, 21, 28, 80, 81, 82, 83, 84, 85, 86, 87, 88, 89, 90, 91, 92, 93, 94, 95, 96, 97, 98, 99, 100, 101, 102, 103, 104, 105, 106, 107, 27, 108, 109, 110, 111, 112, 113, 114, 115, 116, 29, 117, 118, 119, 31, 30, 120, 121, 122, 123, 124, 125, 126, 127, 128, 129, 130, 131, 138, 139, 140, 141, 142, 143, 144, 145, 146, 147, 148, 149, 150, 151, 152, 153, 154, 155, 156, 157, 158, 159, 160, 161, 162, 163, 164, 165, 166, 167] rfl (by decide +kernel)
set_option maxRecDepth 20000 in
theorem gu_X5_tryBlock_2_X5_tryBlock_3_67 : GoodIn uX5_tryBlock_2 (wsV RX5 67 RX5 yX5_tryBlock uX5_tryBlock_3) := goodIn_r _ [15, 16, 17, 12, 0, 1, 2, 3, 4, 5, 6, 7, 8, 9, 10, 11, 12, 13, 14, 132, 133, 134, 18, 19, 20, 21, 22, 23, 24, 25, 26, 27, 28, 29, 30, 31, 32, 33, 34, 35, 36, 37, 38, 39, 40, 41, 42, 43, 44, 45, 46, 47, 48, 49, 50, 51, 52, 53, 54, 55, 56, 57, 58, 59, 60, 61, 62, 63, 64, 65, 66, 67, 68, 69, 70, 71, 72, 73, 74, 75, 76, 77, 78, 79, 80, 81, 82, 83, 84, 85, 86, 87, 88, 89, 90, 91, 92, 93, 94, 95, 96, 97, 98, 99, 100, 101, 102, 103, 104, 105, 106, 107, 108, 109, 110, 111, 112, 113, 114, 115, 116, 117, 118, 119, 120, 121, 122, 123, 124, 125, 126, 127, 128, 129, 130, 131, 135, 136, 137, 138, 139, 140, 141, 142, 143, 144, 145, 146, 147, 148, 149, 150, 151, 152, 153, 154, 155, 156, 157, 158, 159, 160, 161, 162, 163, 164, 165, 166, 167] rfl (by decide +kernel)
set_option maxHeartbeats 4000000 in
set_option maxRecDepth 100000 in
theorem s_X5_tryBlock_2 (l : Launch) (D : va_G) (t : Nat → Nat) (cI cL cC : ClassId) (gC : Int32) (gE : Int32) (G : Nat) (gW : Nat → Int32) (gA : Nat → Int32) (a0 : Nat) (a1 : Nat) (a2 : Nat) (a3 : Nat) (a4 : Nat) (a6 : Int64) (hGb : G ≤ 152000000) (k_a0 : t a0 = 9) (k_a1 : t a1 = 3) (k_a2 : t a2 = 4) (k_a3 : t a3 = 6) (k_a4 : t a4 = 5) : tM l yX5_tryBlock uX5_tryBlock_2 6 160 D (gF cI cL cC gC gE G gW gA) (gF cI cL cC gC gE (G + 252) gW gA) t cI cL cC [.ref a0, .ref a1, .ref a2, .ref a3, .ref a4, .int 2, .long a6] wrS (pV (True)) := by
  refine tM.ofW (cc := cX5_tryBlock) (maxL := 12) (ret := none) (by decide) rfl (Nat.le_of_ble_eq_true rfl) ?_
  intro p e s m below meth c hx hb hr hml hown hts hlk H locs hG hK hE hS ls hl
  have hl : lv_has ls 12 [(0, .ref a0), (1, .ref a1), (2, .ref a2), (3, .ref a3), (4, .ref a4), (5, .int 2), (6, .long a6)] := hl
  have in5 : ∀ w ∈ wsX50, w ∈ uX5_tryBlock_2 := fun w h => List.mem_cons_of_mem _ (List.mem_append_left _ (List.mem_append_left _ (List.mem_append_left _ (List.mem_append_left _ (List.mem_append_right _ h)))))
  refine lv_iload hx hb dX5_tryBlock_0 (lv_at hl 5 rfl) ?_
  refine lv_iconst (v := 0) hx hb dX5_tryBlock_2 (by decide) ?_
  refine lv_iconst (v := 3) hx hb dX5_tryBlock_3 (by decide) ?_
  refine ty_calli (tRun (va_runSN (As := [.int 2, .int 0, .int 3]) (rest := []) ⟨hx, hb, hml, hown, hts⟩ (s_X9_isOutside l D t cI cL cC gC gE G gW gA 2 0 3 0 3 (by decide) (by decide) ) ⟨(va_cnB 3 hts gu_X5_tryBlock_2_X9_isOutside_n rfl rfl rfl (hE.2.1 _ (List.mem_of_getElem? (i := 23) rfl)) (hts (.initialized RX9) (List.mem_of_getElem? (i := 1) rfl)) (by decide +kernel) ⟨Nat.le_of_ble_eq_true rfl, Nat.le_of_ble_eq_true rfl⟩), (hts (.static yX9_isOutside) (List.mem_of_getElem? (i := 2) rfl)), trivial⟩ (tP_S hG hE) rfl rfl hl.1 rfl (lv_room (Nat.le_of_ble_eq_true rfl)) dX5_tryBlock_4 ⟨Nat.le_of_ble_eq_true rfl, Nat.le_of_ble_eq_true rfl⟩)) hS (fun k h => by simp [wr0] at h) (fun r_1 H locs hp_2 hG hS o_3 => ?_)
  rcases hp_2 with ⟨rfl, hc_112⟩ | ⟨rfl, hc_113, hc_114⟩
  · skip
    refine lv_if_eq (tgt := 11) hx hb dX5_tryBlock_7 (by decide) (fun q => absurd q (by decide)) (fun _ => ?_)
    exact ty_vret hx hb hr hlk (hG.weak (fun _ _ => gF_mono (by omega))) hS True.intro dX5_tryBlock_10
  · skip
    refine lv_if_eq (tgt := 11) hx hb dX5_tryBlock_7 (by decide) (fun _ => ?_) (fun q => absurd (by decide) q)
    refine lv_pc (pc2 := 11) rfl ?_
    refine lv_aload_n hx hb dX5_tryBlock_11 rfl (lv_at hl 0 rfl) ?_
    obtain ⟨r_4, r_6, r_8, v_10, v_11, v_12, v_14, v_16, v_17, v_19, at_20, h_5, h_7, h_9, h_13, h_15, h_18⟩ := gF_o9 hG k_a0
    refine va_get (D := D) (ci := 4) (v := .ref r_4) (C := RX5) (T := TX5) (N := 10) hx hb hts in5 hown hK (va_one at_20) 0 rfl rfl 0 (by decide) (hts (.fieldLink RX5 11 "RiverModel$Search" "blockEnds" "[LRiverModel$Course;") (List.mem_of_getElem? (i := 3) rfl)) (fun _ h9 => h9) rfl dX5_tryBlock_12 ?_
    refine lv_iload hx hb dX5_tryBlock_15 (lv_at hl 5 rfl) ?_
    obtain ⟨f_21, at_22, h_23⟩ := gF_o32 hG h_5
    have b_24 : vp_in 2 4 := (q_in (by decide) (by decide))
    refine va_aldq hx hb hK (va_one at_22) 0 2 rfl rfl b_24 dX5_tryBlock_17 ?_
    obtain ⟨r_25, e_26, h_27⟩ := h_23 _ (q_inlt b_24)
    rw [e_26]
    show W p l _ _ s m _ below meth c _ _ _ _ _ (F0 m _ ls (.ref r_25 :: _))
    refine lv_astore (lv' := [(8, .ref r_25), (0, .ref a0), (1, .ref a1), (2, .ref a2), (3, .ref a3), (4, .ref a4), (5, .int 2), (6, .long a6)]) hx hb dX5_tryBlock_18 hl (by decide) rfl (fun ls hl => ?_)
    refine lv_iconst (v := 0) hx hb dX5_tryBlock_20 (by decide) ?_
    refine lv_istore (lv' := [(9, .int 0), (8, .ref r_25), (0, .ref a0), (1, .ref a1), (2, .ref a2), (3, .ref a3), (4, .ref a4), (5, .int 2), (6, .long a6)]) hx hb dX5_tryBlock_21 hl (by decide) rfl (fun ls hl => ?_)
    refine lv_pc (pc2 := 23) rfl ?_
    refine lp_gen (fun WW hWW => ?_)
    have kx : ∀ (yo : Int32) (g : Nat) (H1 : Heap) (locs1 : List Loc) (ls1 : Array Slot), 0 ≤ yo.toInt → yo.toInt ≤ 12 → 2 * (g : Int) + 42 * (12 - yo.toInt) ≤ 2 * (G : Int) + 504 → tG D (gF cI cL cC gC gE g gW gA) t H1 → tF t wrS s.heap H1 locs1 → lv_has ls1 12 [(9, .int yo), (8, .ref r_25), (0, .ref a0), (1, .ref a1), (2, .ref a2), (3, .ref a3), (4, .ref a4), (5, .int 2), (6, .long a6)] → WW H1 locs1 (F0 m 126 ls1 []) := by
      intro yo g H locs ls v0 v1 v2 hG hS hl
      refine (hWW _ _ _).mpr ?_
      exact ty_vret hx hb hr hlk (hG.weak (fun _ _ => gF_mono (by omega))) hS True.intro dX5_tryBlock_126
    have loop : ∀ (k : Nat) (yo : Int32) (g : Nat) (H1 : Heap) (locs1 : List Loc) (ls1 : Array Slot), 12 - yo.toInt ≤ (k : Int) → 0 ≤ yo.toInt → yo.toInt ≤ 12 → 2 * (g : Int) + 42 * (12 - yo.toInt) ≤ 2 * (G : Int) + 504 → tG D (gF cI cL cC gC gE g gW gA) t H1 → tF t wrS s.heap H1 locs1 → lv_has ls1 12 [(9, .int yo), (8, .ref r_25), (0, .ref a0), (1, .ref a1), (2, .ref a2), (3, .ref a3), (4, .ref a4), (5, .int 2), (6, .long a6)] → WW H1 locs1 (F0 m 23 ls1 []) := by
      intro k
      induction k with
      | zero =>
        intro yo g H locs ls hk v0 v1 v2 hG hS hl
        refine (hWW _ _ _).mpr ?_
        refine lv_pc (pc2 := 23) rfl ?_
        refine lv_iload hx hb dX5_tryBlock_23 (lv_at hl 0 rfl) ?_
        refine lv_bipush (v := 10) hx hb dX5_tryBlock_25 (by decide) ?_
        refine lv_icmp_gt (tgt := 126) hx hb dX5_tryBlock_27 (by decide) (fun c_28 => ?_) (fun c_28 => ?_)
        · skip
          have c_28 : 10 < yo.toInt := q_lt c_28
          exact (hWW _ _ _).mp (kx yo g H locs ls (by omega) (by omega) (by omega) hG hS (lv_sub hl [0, 1, 2, 3, 4, 5, 6, 7, 8] rfl))
        · skip
          have c_28 : yo.toInt ≤ 10 := q_nlt c_28
          refine lv_aload_n hx hb dX5_tryBlock_30 rfl (lv_at hl 2 rfl) ?_
          obtain ⟨r_29, r_31, r_33, v_35, v_36, v_37, v_39, v_41, v_42, v_44, at_45, h_30, h_32, h_34, h_38, h_40, h_43⟩ := gF_o9 hG k_a0
          refine va_get (D := D) (ci := 4) (v := .ref r_31) (C := RX5) (T := TX5) (N := 10) hx hb hts in5 hown hK (va_one at_45) 0 rfl rfl 1 (by decide) (hts (.fieldLink RX5 17 "RiverModel$Search" "tried" "[I") (List.mem_of_getElem? (i := 4) rfl)) (fun _ h9 => h9) rfl dX5_tryBlock_31 ?_
          refine lv_iload hx hb dX5_tryBlock_34 (lv_at hl 7 rfl) ?_
          refine lv_iload hx hb dX5_tryBlock_36 (lv_at hl 0 rfl) ?_
          obtain ⟨f_46, at_47⟩ := gF_o33 hG h_32
          have b_48 : vp_in 2 4 := (q_in (by decide) (by decide))
          refine ty_iast (F2 := (gF cI cL cC gC gE g gW gA)) hx hb hK hG hS 0 at_47 (by rw [h_32]; rfl) rfl b_48 (by rw [h_32]; exact ⟨_, rfl⟩) tFF dX5_tryBlock_38 (fun H locs hG hS at_49 o_50 => ?_)
          have at_45 := va_at.keptK at_45 o_50 h_32 k_a0 rfl
          refine lv_pc (pc2 := 39) rfl ?_
          refine lv_aload hx hb dX5_tryBlock_39 (lv_at hl 1 rfl) ?_
          refine lv_aload hx hb dX5_tryBlock_41 (lv_at hl 6 rfl) ?_
          obtain ⟨r_51, r_53, r_55, r_57, v_59, v_60, v_61, v_62, at_64, h_52, h_54, h_56, h_58, h_63⟩ := gF_o5 hG h_27
          refine ty_callv ((W.runV (As := [.ref a4]) (rest := []) ⟨hx, hb, hml, hown, hts⟩ (s_X0_copyFrom l D t cI cL cC gC gE g gW gA r_25 a4 h_27 k_a4) (cwV 1 hts gu_X5_tryBlock_2_X0_copyFrom_53 rfl rfl rfl (by decide +kernel) ⟨Nat.le_of_ble_eq_true rfl, Nat.le_of_ble_eq_true rfl⟩) (tP_V hG hE at_64 rfl) rfl rfl hl.1 rfl (lv_room (Nat.le_of_ble_eq_true rfl)) dX5_tryBlock_43 ⟨Nat.le_of_ble_eq_true rfl, Nat.le_of_ble_eq_true rfl⟩)) hS (wrL_sub (by decide)) (fun H locs hp_66 hG hS o_67 => ?_)
          have at_45 := va_at.keptC at_45 o_67 k_a0 rfl
          refine lv_aload_n hx hb dX5_tryBlock_46 rfl (lv_at hl 2 rfl) ?_
          refine lv_aload_n hx hb dX5_tryBlock_47 rfl (lv_at hl 3 rfl) ?_
          refine lv_aload_n hx hb dX5_tryBlock_48 rfl (lv_at hl 4 rfl) ?_
          refine lv_aload_n hx hb dX5_tryBlock_49 rfl (lv_at hl 5 rfl) ?_
          refine lv_aload hx hb dX5_tryBlock_50 (lv_at hl 1 rfl) ?_
          refine lv_pc (pc2 := 52) rfl ?_
          refine lv_iload hx hb dX5_tryBlock_52 (lv_at hl 0 rfl) ?_
          refine lv_lload hx hb dX5_tryBlock_54 (lv_at hl 8 rfl) ?_
          refine ty_calll ((W.runV (As := [.ref a1, .ref a2, .ref a3, .ref r_25, .int yo, .long a6]) (rest := []) ⟨hx, hb, hml, hown, hts⟩ (s_X5_peakOfBlock l D t cI cL cC gC gE g gW gA a0 a1 a2 a3 r_25 yo a6 (by omega) k_a0 k_a1 k_a2 k_a3 h_27) (cwV 6 hts gu_X5_tryBlock_2_X5_peakOfBlock_57 rfl rfl rfl (by decide +kernel) ⟨Nat.le_of_ble_eq_true rfl, Nat.le_of_ble_eq_true rfl⟩) (tP_V hG hE at_45 rfl) rfl rfl hl.1 rfl (lv_room (Nat.le_of_ble_eq_true rfl)) dX5_tryBlock_56 ⟨Nat.le_of_ble_eq_true rfl, Nat.le_of_ble_eq_true rfl⟩)) hS (wrL_sub (by decide)) (fun z_68 H locs hp_69 hG hS o_70 => ?_)
          have at_45 := va_at.keptC at_45 o_70 k_a0 rfl
          refine lv_lstore (lv' := [(10, .long z_68), (9, .int yo), (8, .ref r_25), (0, .ref a0), (1, .ref a1), (2, .ref a2), (3, .ref a3), (4, .ref a4), (5, .int 2), (6, .long a6)]) hx hb dX5_tryBlock_59 hl (by decide) rfl (fun ls hl => ?_)
          refine lv_lload hx hb dX5_tryBlock_61 (lv_at hl 0 rfl) ?_
          refine lv_ldc2 hx hb hown (hts (.constantLong RX5 61 (-1)) (List.mem_of_getElem? (i := 13) rfl)) dX5_tryBlock_63 ?_
          refine W.lcmp hx hb dX5_tryBlock_66 ?_
          refine lv_if_eq (tgt := 120) hx hb dX5_tryBlock_67 (by decide) (fun c_71 => ?_) (fun c_71 => ?_)
          · skip
            have c_71 : z_68.toInt = (-1) := q_cmp_eq c_71
            refine lv_pc (pc2 := 120) rfl ?_
            obtain ⟨x_72, e_73⟩ : ∃ y : Int32, y = yo + Int32.ofInt 2 := ⟨_, rfl⟩
            have i_x_72 : x_72.toInt = yo.toInt + 2 := by rw [e_73, show Int32.ofInt 2 = 2 by decide]; exact (q_add (by rw [show (2 : Int32).toInt = 2 by decide]; omega) (by rw [show (2 : Int32).toInt = 2 by decide]; omega)).trans (by rw [show (2 : Int32).toInt = 2 by decide])
            refine lv_iinc (v := x_72) (lv' := [(9, .int x_72), (10, .long z_68), (8, .ref r_25), (0, .ref a0), (1, .ref a1), (2, .ref a2), (3, .ref a3), (4, .ref a4), (5, .int 2), (6, .long a6)]) hx hb dX5_tryBlock_120 hl (k := 1) rfl e_73.symm (by decide) rfl (fun ls hl => ?_)
            refine lv_goto (tgt := 23) hx hb dX5_tryBlock_123 (by decide) ?_
            exfalso; omega
          · skip
            have c_71 : z_68.toInt ≠ (-1) := q_cmp_ne c_71
            refine lv_aload_n hx hb dX5_tryBlock_70 rfl (lv_at hl 3 rfl) ?_
            refine va_get (D := D) (ci := 4) (v := .int v_35) (C := RX5) (T := TX5) (N := 10) hx hb hts in5 hown hK (va_one at_45) 0 rfl rfl 3 (by decide) (hts (.fieldLink RX5 24 "RiverModel$Search" "isFound" "Z") (List.mem_of_getElem? (i := 14) rfl)) (fun _ h9 => h9) rfl dX5_tryBlock_71 ?_
            refine lv_if_eq (tgt := 90) hx hb dX5_tryBlock_74 (by decide) (fun c_74 => ?_) (fun c_74 => ?_)
            · skip
              have c_74 : v_35.toInt = 0 := q_eq c_74
              refine lv_iload hx hb dX5_tryBlock_90 (lv_at hl 8 rfl) ?_
              refine lv_iconst (v := 3) hx hb dX5_tryBlock_92 (by decide) ?_
              refine lv_icmp_ne (tgt := 105) hx hb dX5_tryBlock_93 (by decide) (fun _ => ?_) (fun q => absurd q (by decide))
              refine lv_pc (pc2 := 105) rfl ?_
              refine lv_aload_n hx hb dX5_tryBlock_105 rfl (lv_at hl 3 rfl) ?_
              refine lv_aload_n hx hb dX5_tryBlock_106 rfl (lv_at hl 4 rfl) ?_
              refine lv_aload_n hx hb dX5_tryBlock_107 rfl (lv_at hl 5 rfl) ?_
              refine lv_aload_n hx hb dX5_tryBlock_108 rfl (lv_at hl 6 rfl) ?_
              refine lv_aload hx hb dX5_tryBlock_109 (lv_at hl 2 rfl) ?_
              refine lv_iload hx hb dX5_tryBlock_111 (lv_at hl 8 rfl) ?_
              refine lv_iconst (v := 1) hx hb dX5_tryBlock_113 (by decide) ?_
              refine lv_iadd hx hb dX5_tryBlock_114 ?_
              refine lv_seti (y := 3) (by decide) ?_
              refine lv_pc (pc2 := 115) rfl ?_
              refine lv_lload hx hb dX5_tryBlock_115 (lv_at hl 0 rfl) ?_
              refine ty_callv ((W.runV (As := [.ref a1, .ref a2, .ref a3, .ref r_25, .int 3, .long z_68]) (rest := []) ⟨hx, hb, hml, hown, hts⟩ (s_X5_tryBlock_3 l D t cI cL cC gC gE (g + 6) gW gA a0 a1 a2 a3 r_25 z_68 (by omega) k_a0 k_a1 k_a2 k_a3 h_27) (cwV 6 hts gu_X5_tryBlock_2_X5_tryBlock_3_67 rfl rfl rfl (by decide +kernel) ⟨Nat.le_of_ble_eq_true rfl, Nat.le_of_ble_eq_true rfl⟩) (tP_V hG hE at_45 rfl) rfl rfl hl.1 rfl (lv_room (Nat.le_of_ble_eq_true rfl)) dX5_tryBlock_117 ⟨Nat.le_of_ble_eq_true rfl, Nat.le_of_ble_eq_true rfl⟩)) hS (fun _ h => h) (fun H locs hp_76 hG hS o_77 => ?_)
              obtain ⟨x_78, e_79⟩ : ∃ y : Int32, y = yo + Int32.ofInt 2 := ⟨_, rfl⟩
              have i_x_78 : x_78.toInt = yo.toInt + 2 := by rw [e_79, show Int32.ofInt 2 = 2 by decide]; exact (q_add (by rw [show (2 : Int32).toInt = 2 by decide]; omega) (by rw [show (2 : Int32).toInt = 2 by decide]; omega)).trans (by rw [show (2 : Int32).toInt = 2 by decide])
              refine lv_iinc (v := x_78) (lv' := [(9, .int x_78), (10, .long z_68), (8, .ref r_25), (0, .ref a0), (1, .ref a1), (2, .ref a2), (3, .ref a3), (4, .ref a4), (5, .int 2), (6, .long a6)]) hx hb dX5_tryBlock_120 hl (k := 1) rfl e_79.symm (by decide) rfl (fun ls hl => ?_)
              refine lv_goto (tgt := 23) hx hb dX5_tryBlock_123 (by decide) ?_
              exfalso; omega
            · skip
              have c_74 : v_35.toInt ≠ 0 := q_ne c_74
              refine lv_lload hx hb dX5_tryBlock_77 (lv_at hl 0 rfl) ?_
              refine lv_aload_n hx hb dX5_tryBlock_79 rfl (lv_at hl 3 rfl) ?_
              refine va_get (D := D) (ci := 4) (v := .long v_36) (C := RX5) (T := TX5) (N := 10) hx hb hts in5 hown hK (va_one at_45) 0 rfl rfl 4 (by decide) (hts (.fieldLink RX5 28 "RiverModel$Search" "leastPeak" "J") (List.mem_of_getElem? (i := 18) rfl)) (fun _ h9 => h9) rfl dX5_tryBlock_80 ?_
              refine W.lcmp hx hb dX5_tryBlock_83 ?_
              refine lv_pc (pc2 := 84) rfl ?_
              refine lv_if_lt (tgt := 90) hx hb dX5_tryBlock_84 (by decide) (fun c_80 => ?_) (fun c_80 => ?_)
              · skip
                have c_80 : z_68.toInt < v_36.toInt := q_cmp_lt c_80
                refine lv_iload hx hb dX5_tryBlock_90 (lv_at hl 8 rfl) ?_
                refine lv_iconst (v := 3) hx hb dX5_tryBlock_92 (by decide) ?_
                refine lv_icmp_ne (tgt := 105) hx hb dX5_tryBlock_93 (by decide) (fun _ => ?_) (fun q => absurd q (by decide))
                refine lv_aload_n hx hb dX5_tryBlock_105 rfl (lv_at hl 3 rfl) ?_
                refine lv_aload_n hx hb dX5_tryBlock_106 rfl (lv_at hl 4 rfl) ?_
                refine lv_aload_n hx hb dX5_tryBlock_107 rfl (lv_at hl 5 rfl) ?_
                refine lv_aload_n hx hb dX5_tryBlock_108 rfl (lv_at hl 6 rfl) ?_
                refine lv_pc (pc2 := 109) rfl ?_
                refine lv_aload hx hb dX5_tryBlock_109 (lv_at hl 2 rfl) ?_
                refine lv_iload hx hb dX5_tryBlock_111 (lv_at hl 8 rfl) ?_
                refine lv_iconst (v := 1) hx hb dX5_tryBlock_113 (by decide) ?_
                refine lv_iadd hx hb dX5_tryBlock_114 ?_
                refine lv_seti (y := 3) (by decide) ?_
                refine lv_lload hx hb dX5_tryBlock_115 (lv_at hl 0 rfl) ?_
                refine ty_callv ((W.runV (As := [.ref a1, .ref a2, .ref a3, .ref r_25, .int 3, .long z_68]) (rest := []) ⟨hx, hb, hml, hown, hts⟩ (s_X5_tryBlock_3 l D t cI cL cC gC gE (g + 6) gW gA a0 a1 a2 a3 r_25 z_68 (by omega) k_a0 k_a1 k_a2 k_a3 h_27) (cwV 6 hts gu_X5_tryBlock_2_X5_tryBlock_3_67 rfl rfl rfl (by decide +kernel) ⟨Nat.le_of_ble_eq_true rfl, Nat.le_of_ble_eq_true rfl⟩) (tP_V hG hE at_45 rfl) rfl rfl hl.1 rfl (lv_room (Nat.le_of_ble_eq_true rfl)) dX5_tryBlock_117 ⟨Nat.le_of_ble_eq_true rfl, Nat.le_of_ble_eq_true rfl⟩)) hS (fun _ h => h) (fun H locs hp_82 hG hS o_83 => ?_)
                obtain ⟨x_84, e_85⟩ : ∃ y : Int32, y = yo + Int32.ofInt 2 := ⟨_, rfl⟩
                have i_x_84 : x_84.toInt = yo.toInt + 2 := by rw [e_85, show Int32.ofInt 2 = 2 by decide]; exact (q_add (by rw [show (2 : Int32).toInt = 2 by decide]; omega) (by rw [show (2 : Int32).toInt = 2 by decide]; omega)).trans (by rw [show (2 : Int32).toInt = 2 by decide])
                refine lv_iinc (v := x_84) (lv' := [(9, .int x_84), (10, .long z_68), (8, .ref r_25), (0, .ref a0), (1, .ref a1), (2, .ref a2), (3, .ref a3), (4, .ref a4), (5, .int 2), (6, .long a6)]) hx hb dX5_tryBlock_120 hl (k := 1) rfl e_85.symm (by decide) rfl (fun ls hl => ?_)
                refine lv_goto (tgt := 23) hx hb dX5_tryBlock_123 (by decide) ?_
                exfalso; omega
              · skip
                have c_80 : v_36.toInt ≤ z_68.toInt := q_cmp_nlt c_80
                refine lv_pc (pc2 := 87) rfl ?_
                refine lv_goto (tgt := 120) hx hb dX5_tryBlock_87 (by decide) ?_
                obtain ⟨x_86, e_87⟩ : ∃ y : Int32, y = yo + Int32.ofInt 2 := ⟨_, rfl⟩
                have i_x_86 : x_86.toInt = yo.toInt + 2 := by rw [e_87, show Int32.ofInt 2 = 2 by decide]; exact (q_add (by rw [show (2 : Int32).toInt = 2 by decide]; omega) (by rw [show (2 : Int32).toInt = 2 by decide]; omega)).trans (by rw [show (2 : Int32).toInt = 2 by decide])
                refine lv_iinc (v := x_86) (lv' := [(9, .int x_86), (10, .long z_68), (8, .ref r_25), (0, .ref a0), (1, .ref a1), (2, .ref a2), (3, .ref a3), (4, .ref a4), (5, .int 2), (6, .long a6)]) hx hb dX5_tryBlock_120 hl (k := 1) rfl e_87.symm (by decide) rfl (fun ls hl => ?_)
                refine lv_goto (tgt := 23) hx hb dX5_tryBlock_123 (by decide) ?_
                exfalso; omega
      | succ k ih =>
        intro yo g H locs ls hk v0 v1 v2 hG hS hl
        refine (hWW _ _ _).mpr ?_
        refine lv_iload hx hb dX5_tryBlock_23 (lv_at hl 0 rfl) ?_
        refine lv_bipush (v := 10) hx hb dX5_tryBlock_25 (by decide) ?_
        refine lv_icmp_gt (tgt := 126) hx hb dX5_tryBlock_27 (by decide) (fun c_88 => ?_) (fun c_88 => ?_)
        · skip
          have c_88 : 10 < yo.toInt := q_lt c_88
          exact (hWW _ _ _).mp (kx yo g H locs ls (by omega) (by omega) (by omega) hG hS (lv_sub hl [0, 1, 2, 3, 4, 5, 6, 7, 8] rfl))
        · skip
          have c_88 : yo.toInt ≤ 10 := q_nlt c_88
          refine lv_aload_n hx hb dX5_tryBlock_30 rfl (lv_at hl 2 rfl) ?_
          obtain ⟨r_89, r_91, r_93, v_95, v_96, v_97, v_99, v_101, v_102, v_104, at_105, h_90, h_92, h_94, h_98, h_100, h_103⟩ := gF_o9 hG k_a0
          refine va_get (D := D) (ci := 4) (v := .ref r_91) (C := RX5) (T := TX5) (N := 10) hx hb hts in5 hown hK (va_one at_105) 0 rfl rfl 1 (by decide) (hts (.fieldLink RX5 17 "RiverModel$Search" "tried" "[I") (List.mem_of_getElem? (i := 4) rfl)) (fun _ h9 => h9) rfl dX5_tryBlock_31 ?_
          refine lv_pc (pc2 := 34) rfl ?_
          refine lv_iload hx hb dX5_tryBlock_34 (lv_at hl 7 rfl) ?_
          refine lv_iload hx hb dX5_tryBlock_36 (lv_at hl 0 rfl) ?_
          obtain ⟨f_106, at_107⟩ := gF_o33 hG h_92
          have b_108 : vp_in 2 4 := (q_in (by decide) (by decide))
          refine ty_iast (F2 := (gF cI cL cC gC gE g gW gA)) hx hb hK hG hS 0 at_107 (by rw [h_92]; rfl) rfl b_108 (by rw [h_92]; exact ⟨_, rfl⟩) tFF dX5_tryBlock_38 (fun H locs hG hS at_109 o_110 => ?_)
          have at_105 := va_at.keptK at_105 o_110 h_92 k_a0 rfl
          refine lv_aload hx hb dX5_tryBlock_39 (lv_at hl 1 rfl) ?_
          refine lv_aload hx hb dX5_tryBlock_41 (lv_at hl 6 rfl) ?_
          obtain ⟨r_111, r_113, r_115, r_117, v_119, v_120, v_121, v_122, at_124, h_112, h_114, h_116, h_118, h_123⟩ := gF_o5 hG h_27
          refine ty_callv ((W.runV (As := [.ref a4]) (rest := []) ⟨hx, hb, hml, hown, hts⟩ (s_X0_copyFrom l D t cI cL cC gC gE g gW gA r_25 a4 h_27 k_a4) (cwV 1 hts gu_X5_tryBlock_2_X0_copyFrom_53 rfl rfl rfl (by decide +kernel) ⟨Nat.le_of_ble_eq_true rfl, Nat.le_of_ble_eq_true rfl⟩) (tP_V hG hE at_124 rfl) rfl rfl hl.1 rfl (lv_room (Nat.le_of_ble_eq_true rfl)) dX5_tryBlock_43 ⟨Nat.le_of_ble_eq_true rfl, Nat.le_of_ble_eq_true rfl⟩)) hS (wrL_sub (by decide)) (fun H locs hp_126 hG hS o_127 => ?_)
          have at_105 := va_at.keptC at_105 o_127 k_a0 rfl
          refine lv_aload_n hx hb dX5_tryBlock_46 rfl (lv_at hl 2 rfl) ?_
          refine lv_aload_n hx hb dX5_tryBlock_47 rfl (lv_at hl 3 rfl) ?_
          refine lv_pc (pc2 := 48) rfl ?_
          refine lv_aload_n hx hb dX5_tryBlock_48 rfl (lv_at hl 4 rfl) ?_
          refine lv_aload_n hx hb dX5_tryBlock_49 rfl (lv_at hl 5 rfl) ?_
          refine lv_aload hx hb dX5_tryBlock_50 (lv_at hl 1 rfl) ?_
          refine lv_iload hx hb dX5_tryBlock_52 (lv_at hl 0 rfl) ?_
          refine lv_lload hx hb dX5_tryBlock_54 (lv_at hl 8 rfl) ?_
          refine ty_calll ((W.runV (As := [.ref a1, .ref a2, .ref a3, .ref r_25, .int yo, .long a6]) (rest := []) ⟨hx, hb, hml, hown, hts⟩ (s_X5_peakOfBlock l D t cI cL cC gC gE g gW gA a0 a1 a2 a3 r_25 yo a6 (by omega) k_a0 k_a1 k_a2 k_a3 h_27) (cwV 6 hts gu_X5_tryBlock_2_X5_peakOfBlock_57 rfl rfl rfl (by decide +kernel) ⟨Nat.le_of_ble_eq_true rfl, Nat.le_of_ble_eq_true rfl⟩) (tP_V hG hE at_105 rfl) rfl rfl hl.1 rfl (lv_room (Nat.le_of_ble_eq_true rfl)) dX5_tryBlock_56 ⟨Nat.le_of_ble_eq_true rfl, Nat.le_of_ble_eq_true rfl⟩)) hS (wrL_sub (by decide)) (fun z_128 H locs hp_129 hG hS o_130 => ?_)
          have at_105 := va_at.keptC at_105 o_130 k_a0 rfl
          refine lv_lstore (lv' := [(10, .long z_128), (9, .int yo), (8, .ref r_25), (0, .ref a0), (1, .ref a1), (2, .ref a2), (3, .ref a3), (4, .ref a4), (5, .int 2), (6, .long a6)]) hx hb dX5_tryBlock_59 hl (by decide) rfl (fun ls hl => ?_)
          refine lv_lload hx hb dX5_tryBlock_61 (lv_at hl 0 rfl) ?_
          refine lv_pc (pc2 := 63) rfl ?_
          refine lv_ldc2 hx hb hown (hts (.constantLong RX5 61 (-1)) (List.mem_of_getElem? (i := 13) rfl)) dX5_tryBlock_63 ?_
          refine W.lcmp hx hb dX5_tryBlock_66 ?_
          refine lv_if_eq (tgt := 120) hx hb dX5_tryBlock_67 (by decide) (fun c_131 => ?_) (fun c_131 => ?_)
          · skip
            have c_131 : z_128.toInt = (-1) := q_cmp_eq c_131
            obtain ⟨x_132, e_133⟩ : ∃ y : Int32, y = yo + Int32.ofInt 2 := ⟨_, rfl⟩
            have i_x_132 : x_132.toInt = yo.toInt + 2 := by rw [e_133, show Int32.ofInt 2 = 2 by decide]; exact (q_add (by rw [show (2 : Int32).toInt = 2 by decide]; omega) (by rw [show (2 : Int32).toInt = 2 by decide]; omega)).trans (by rw [show (2 : Int32).toInt = 2 by decide])
            refine lv_iinc (v := x_132) (lv' := [(9, .int x_132), (10, .long z_128), (8, .ref r_25), (0, .ref a0), (1, .ref a1), (2, .ref a2), (3, .ref a3), (4, .ref a4), (5, .int 2), (6, .long a6)]) hx hb dX5_tryBlock_120 hl (k := 1) rfl e_133.symm (by decide) rfl (fun ls hl => ?_)
            refine lv_goto (tgt := 23) hx hb dX5_tryBlock_123 (by decide) ?_
            exact (hWW _ _ _).mp (ih x_132 (g + 6) H locs ls (by omega) (by omega) (by omega) (by omega) hG hS (lv_sub hl [0, 2, 3, 4, 5, 6, 7, 8, 9] rfl))
          · skip
            have c_131 : z_128.toInt ≠ (-1) := q_cmp_ne c_131
            refine lv_aload_n hx hb dX5_tryBlock_70 rfl (lv_at hl 3 rfl) ?_
            refine va_get (D := D) (ci := 4) (v := .int v_95) (C := RX5) (T := TX5) (N := 10) hx hb hts in5 hown hK (va_one at_105) 0 rfl rfl 3 (by decide) (hts (.fieldLink RX5 24 "RiverModel$Search" "isFound" "Z") (List.mem_of_getElem? (i := 14) rfl)) (fun _ h9 => h9) rfl dX5_tryBlock_71 ?_
            refine lv_if_eq (tgt := 90) hx hb dX5_tryBlock_74 (by decide) (fun c_134 => ?_) (fun c_134 => ?_)
            · skip
              have c_134 : v_95.toInt = 0 := q_eq c_134
              refine lv_pc (pc2 := 90) rfl ?_
              refine lv_iload hx hb dX5_tryBlock_90 (lv_at hl 8 rfl) ?_
              refine lv_iconst (v := 3) hx hb dX5_tryBlock_92 (by decide) ?_
              refine lv_icmp_ne (tgt := 105) hx hb dX5_tryBlock_93 (by decide) (fun _ => ?_) (fun q => absurd q (by decide))
              refine lv_aload_n hx hb dX5_tryBlock_105 rfl (lv_at hl 3 rfl) ?_
              refine lv_aload_n hx hb dX5_tryBlock_106 rfl (lv_at hl 4 rfl) ?_
              refine lv_aload_n hx hb dX5_tryBlock_107 rfl (lv_at hl 5 rfl) ?_
              refine lv_aload_n hx hb dX5_tryBlock_108 rfl (lv_at hl 6 rfl) ?_
              refine lv_aload hx hb dX5_tryBlock_109 (lv_at hl 2 rfl) ?_
              refine lv_pc (pc2 := 111) rfl ?_
              refine lv_iload hx hb dX5_tryBlock_111 (lv_at hl 8 rfl) ?_
              refine lv_iconst (v := 1) hx hb dX5_tryBlock_113 (by decide) ?_
              refine lv_iadd hx hb dX5_tryBlock_114 ?_
              refine lv_seti (y := 3) (by decide) ?_
              refine lv_lload hx hb dX5_tryBlock_115 (lv_at hl 0 rfl) ?_
              refine ty_callv ((W.runV (As := [.ref a1, .ref a2, .ref a3, .ref r_25, .int 3, .long z_128]) (rest := []) ⟨hx, hb, hml, hown, hts⟩ (s_X5_tryBlock_3 l D t cI cL cC gC gE (g + 6) gW gA a0 a1 a2 a3 r_25 z_128 (by omega) k_a0 k_a1 k_a2 k_a3 h_27) (cwV 6 hts gu_X5_tryBlock_2_X5_tryBlock_3_67 rfl rfl rfl (by decide +kernel) ⟨Nat.le_of_ble_eq_true rfl, Nat.le_of_ble_eq_true rfl⟩) (tP_V hG hE at_105 rfl) rfl rfl hl.1 rfl (lv_room (Nat.le_of_ble_eq_true rfl)) dX5_tryBlock_117 ⟨Nat.le_of_ble_eq_true rfl, Nat.le_of_ble_eq_true rfl⟩)) hS (fun _ h => h) (fun H locs hp_136 hG hS o_137 => ?_)
              obtain ⟨x_138, e_139⟩ : ∃ y : Int32, y = yo + Int32.ofInt 2 := ⟨_, rfl⟩
              have i_x_138 : x_138.toInt = yo.toInt + 2 := by rw [e_139, show Int32.ofInt 2 = 2 by decide]; exact (q_add (by rw [show (2 : Int32).toInt = 2 by decide]; omega) (by rw [show (2 : Int32).toInt = 2 by decide]; omega)).trans (by rw [show (2 : Int32).toInt = 2 by decide])
              refine lv_iinc (v := x_138) (lv' := [(9, .int x_138), (10, .long z_128), (8, .ref r_25), (0, .ref a0), (1, .ref a1), (2, .ref a2), (3, .ref a3), (4, .ref a4), (5, .int 2), (6, .long a6)]) hx hb dX5_tryBlock_120 hl (k := 1) rfl e_139.symm (by decide) rfl (fun ls hl => ?_)
              refine lv_goto (tgt := 23) hx hb dX5_tryBlock_123 (by decide) ?_
              exact (hWW _ _ _).mp (ih x_138 (g + 42) H locs ls (by omega) (by omega) (by omega) (by omega) hG hS (lv_sub hl [0, 2, 3, 4, 5, 6, 7, 8, 9] rfl))
            · skip
              have c_134 : v_95.toInt ≠ 0 := q_ne c_134
              refine lv_lload hx hb dX5_tryBlock_77 (lv_at hl 0 rfl) ?_
              refine lv_pc (pc2 := 79) rfl ?_
              refine lv_aload_n hx hb dX5_tryBlock_79 rfl (lv_at hl 3 rfl) ?_
              refine va_get (D := D) (ci := 4) (v := .long v_96) (C := RX5) (T := TX5) (N := 10) hx hb hts in5 hown hK (va_one at_105) 0 rfl rfl 4 (by decide) (hts (.fieldLink RX5 28 "RiverModel$Search" "leastPeak" "J") (List.mem_of_getElem? (i := 18) rfl)) (fun _ h9 => h9) rfl dX5_tryBlock_80 ?_
              refine W.lcmp hx hb dX5_tryBlock_83 ?_
              refine lv_if_lt (tgt := 90) hx hb dX5_tryBlock_84 (by decide) (fun c_140 => ?_) (fun c_140 => ?_)
              · skip
                have c_140 : z_128.toInt < v_96.toInt := q_cmp_lt c_140
                refine lv_iload hx hb dX5_tryBlock_90 (lv_at hl 8 rfl) ?_
                refine lv_iconst (v := 3) hx hb dX5_tryBlock_92 (by decide) ?_
                refine lv_icmp_ne (tgt := 105) hx hb dX5_tryBlock_93 (by decide) (fun _ => ?_) (fun q => absurd q (by decide))
                refine lv_aload_n hx hb dX5_tryBlock_105 rfl (lv_at hl 3 rfl) ?_
                refine lv_pc (pc2 := 106) rfl ?_
                refine lv_aload_n hx hb dX5_tryBlock_106 rfl (lv_at hl 4 rfl) ?_
                refine lv_aload_n hx hb dX5_tryBlock_107 rfl (lv_at hl 5 rfl) ?_
                refine lv_aload_n hx hb dX5_tryBlock_108 rfl (lv_at hl 6 rfl) ?_
                refine lv_aload hx hb dX5_tryBlock_109 (lv_at hl 2 rfl) ?_
                refine lv_iload hx hb dX5_tryBlock_111 (lv_at hl 8 rfl) ?_
                refine lv_iconst (v := 1) hx hb dX5_tryBlock_113 (by decide) ?_
                refine lv_iadd hx hb dX5_tryBlock_114 ?_
                refine lv_seti (y := 3) (by decide) ?_
                refine lv_lload hx hb dX5_tryBlock_115 (lv_at hl 0 rfl) ?_
                refine lv_pc (pc2 := 117) rfl ?_
                refine ty_callv ((W.runV (As := [.ref a1, .ref a2, .ref a3, .ref r_25, .int 3, .long z_128]) (rest := []) ⟨hx, hb, hml, hown, hts⟩ (s_X5_tryBlock_3 l D t cI cL cC gC gE (g + 6) gW gA a0 a1 a2 a3 r_25 z_128 (by omega) k_a0 k_a1 k_a2 k_a3 h_27) (cwV 6 hts gu_X5_tryBlock_2_X5_tryBlock_3_67 rfl rfl rfl (by decide +kernel) ⟨Nat.le_of_ble_eq_true rfl, Nat.le_of_ble_eq_true rfl⟩) (tP_V hG hE at_105 rfl) rfl rfl hl.1 rfl (lv_room (Nat.le_of_ble_eq_true rfl)) dX5_tryBlock_117 ⟨Nat.le_of_ble_eq_true rfl, Nat.le_of_ble_eq_true rfl⟩)) hS (fun _ h => h) (fun H locs hp_142 hG hS o_143 => ?_)
                obtain ⟨x_144, e_145⟩ : ∃ y : Int32, y = yo + Int32.ofInt 2 := ⟨_, rfl⟩
                have i_x_144 : x_144.toInt = yo.toInt + 2 := by rw [e_145, show Int32.ofInt 2 = 2 by decide]; exact (q_add (by rw [show (2 : Int32).toInt = 2 by decide]; omega) (by rw [show (2 : Int32).toInt = 2 by decide]; omega)).trans (by rw [show (2 : Int32).toInt = 2 by decide])
                refine lv_iinc (v := x_144) (lv' := [(9, .int x_144), (10, .long z_128), (8, .ref r_25), (0, .ref a0), (1, .ref a1), (2, .ref a2), (3, .ref a3), (4, .ref a4), (5, .int 2), (6, .long a6)]) hx hb dX5_tryBlock_120 hl (k := 1) rfl e_145.symm (by decide) rfl (fun ls hl => ?_)
                refine lv_goto (tgt := 23) hx hb dX5_tryBlock_123 (by decide) ?_
                exact (hWW _ _ _).mp (ih x_144 (g + 42) H locs ls (by omega) (by omega) (by omega) (by omega) hG hS (lv_sub hl [0, 2, 3, 4, 5, 6, 7, 8, 9] rfl))
              · skip
                have c_140 : v_96.toInt ≤ z_128.toInt := q_cmp_nlt c_140
                refine lv_goto (tgt := 120) hx hb dX5_tryBlock_87 (by decide) ?_
                obtain ⟨x_146, e_147⟩ : ∃ y : Int32, y = yo + Int32.ofInt 2 := ⟨_, rfl⟩
                have i_x_146 : x_146.toInt = yo.toInt + 2 := by rw [e_147, show Int32.ofInt 2 = 2 by decide]; exact (q_add (by rw [show (2 : Int32).toInt = 2 by decide]; omega) (by rw [show (2 : Int32).toInt = 2 by decide]; omega)).trans (by rw [show (2 : Int32).toInt = 2 by decide])
                refine lv_iinc (v := x_146) (lv' := [(9, .int x_146), (10, .long z_128), (8, .ref r_25), (0, .ref a0), (1, .ref a1), (2, .ref a2), (3, .ref a3), (4, .ref a4), (5, .int 2), (6, .long a6)]) hx hb dX5_tryBlock_120 hl (k := 1) rfl e_147.symm (by decide) rfl (fun ls hl => ?_)
                refine lv_goto (tgt := 23) hx hb dX5_tryBlock_123 (by decide) ?_
                exact (hWW _ _ _).mp (ih x_146 (g + 6) H locs ls (by omega) (by omega) (by omega) (by omega) hG hS (lv_sub hl [0, 2, 3, 4, 5, 6, 7, 8, 9] rfl))
    have hz_yo : (0 : Int32).toInt = 0 := by decide
    exact loop (12 - 0 : Int).toNat 0 G H locs ls (by omega) (by omega) (by omega) (by omega) hG hS (lv_sub hl [0, 1, 2, 3, 4, 5, 6, 7, 8] rfl)

def uX5_tryBlock_1 : List Cond := .code yX5_tryBlock cX5_tryBlock 12 none :: ([.initialized RX9, .static yX9_isOutside, .fieldLink RX5 11 "RiverModel$Search" "blockEnds" "[LRiverModel$Course;", .fieldLink RX5 17 "RiverModel$Search" "tried" "[I", .methodLink RX5 53 yX0_copyFrom, .instanceMethod yX0_copyFrom, .selects RX0 yX0_copyFrom yX0_copyFrom, .initialized RX0, .methodLink RX5 57 yX5_peakOfBlock, .instanceMethod yX5_peakOfBlock, .selects RX5 yX5_peakOfBlock yX5_peakOfBlock, .initialized RX5, .constantLong RX5 61 (-1), .fieldLink RX5 24 "RiverModel$Search" "isFound" "Z", .methodLink RX5 67 yX5_tryBlock, .instanceMethod yX5_tryBlock, .selects RX5 yX5_tryBlock yX5_tryBlock, .fieldLink RX5 28 "RiverModel$Search" "leastPeak" "J", .code yX9_isOutside cX9_isOutside 3 (some .boolean), .code yX0_copyFrom cX0_copyFrom 2 none, .fieldLink RX0 9 "RiverModel$Course" "held" "[J", .methodLink RX0 54 arraycopyName, .native arraycopyName, .static arraycopyName, .initialized "java/lang/System", .fieldLink RX0 15 "RiverModel$Course" "moved" "[J", .fieldLink RX0 18 "RiverModel$Course" "openings" "[I", .fieldLink RX0 22 "RiverModel$Course" "due" "[J", .fieldLink RX0 25 "RiverModel$Course" "rained" "J", .fieldLink RX0 29 "RiverModel$Course" "air" "J", .fieldLink RX0 32 "RiverModel$Course" "sea" "J", .fieldLink RX0 35 "RiverModel$Course" "hours" "I", .code yX5_peakOfBlock cX5_peakOfBlock 11 (some .long), .fieldLink RX5 32 "RiverModel$Search" "gate" "I", .static yX9_isNoGate, .fieldLink RX5 42 "RiverModel$Search" "store" "I", .static yX9_isNoStore, .fieldLink RX5 78 "RiverModel$Course" "openings" "[I", .fieldLink RX5 36 "RiverModel$Search" "blockHours" "I", .fieldLink RX5 81 "RiverModel$Course" "hours" "I", .methodLink RX5 84 yX6_rainIn, .instanceMethod yX6_rainIn, .selects RX6 yX6_rainIn yX6_rainIn, .initialized RX6, .methodLink RX5 90 yX6_tempIn, .instanceMethod yX6_tempIn, .selects RX6 yX6_tempIn yX6_tempIn, .methodLink RX5 93 yX0_goHour, .instanceMethod yX0_goHour, .selects RX0 yX0_goHour yX0_goHour, .fieldLink RX5 97 "RiverModel$Course" "held" "[J", .fieldLink RX5 45 "RiverModel$Search" "limit" "J", .fieldLink RX5 39 "RiverModel$Search" "gauge" "I", .methodLink RX5 101 yX1_reading, .instanceMethod yX1_reading, .selects RX1 yX1_reading yX1_reading, .initialized RX1, .methodLink RX5 107 Lib.MathLoose.max_long.x, .static Lib.MathLoose.max_long.x, .initialized "java/lang/Math", .code Lib.MathLoose.max_long.x Lib.MathLoose.max_long.code 4 (some .long), .code yX9_isNoGate cX9_isNoGate 1 (some .boolean), .code yX9_isNoStore cX9_isNoStore 1 (some .boolean), .code yX6_rainIn cX6_rainIn 2 (some .int), .fieldLink RX6 9 "RiverModel$Sky" "rains" "[I", .code yX6_tempIn cX6_tempIn 2 (some .int), .fieldLink RX6 15 "RiverModel$Sky" "temps" "[I", .code yX0_goHour cX0_goHour 7 none, .methodLink RX0 72 yX0_bringDue, .instanceMethod yX0_bringDue, .selects RX0 yX0_bringDue yX0_bringDue, .fieldLink RX0 75 "RiverModel$Model" "many" "I", .methodLink RX0 78 yX0_amountOf, .instanceMethod yX0_amountOf, .selects RX0 yX0_amountOf yX0_amountOf, .methodLink RX0 82 yX0_move, .instanceMethod yX0_move, .selects RX0 yX0_move yX0_move, .code yX0_bringDue cX0_bringDue 3 none, .code yX0_amountOf cX0_amountOf 11 (some .long), .methodLink RX0 86 yX4_cell, .instanceMethod yX4_cell, .selects RX4 yX4_cell yX4_cell, .initialized RX4, .methodLink RX0 110 yX4_gateOf, .instanceMethod yX4_gateOf, .selects RX4 yX4_gateOf yX4_gateOf, .methodLink RX0 113 yX0_openingOf, .instanceMethod yX0_openingOf, .selects RX0 yX0_openingOf yX0_openingOf, .methodLink RX0 107 Lib.MathLoose.min_long.x, .static Lib.MathLoose.min_long.x, .code Lib.MathLoose.min_long.x Lib.MathLoose.min_long.code 4 (some .long), .methodLink RX0 94 yX0_leakOf, .static yX0_leakOf, .constantLong RX0 117 (100), .methodLink RX0 98 yX4_capacityOf, .instanceMethod yX4_capacityOf, .selects RX4 yX4_capacityOf yX4_capacityOf, .methodLink RX0 101 Lib.MathLoose.max_long.x, .constantLong RX0 119 (10), .code yX4_cell cX4_cell 3 (some .int), .fieldLink RX4 9 "RiverModel$Model" "cells" "[I", .code yX4_gateOf cX4_gateOf 3 (some .int), .fieldLink RX4 28 "RiverModel$Model" "gates" "I", .fieldLink RX4 18 "RiverModel$Model" "gateItems" "[I", .code yX0_openingOf cX0_openingOf 2 (some .long), .code yX0_leakOf cX0_leakOf 8 (some .long), .code yX4_capacityOf cX4_capacityOf 2 (some .int), .methodLink RX4 66 yX4_hasStore, .instanceMethod yX4_hasStore, .selects RX4 yX4_hasStore yX4_hasStore, .fieldLink RX4 15 "RiverModel$Model" "storeItems" "[I", .methodLink RX4 73 yX4_cell, .code yX4_hasStore cX4_hasStore 2 (some .boolean), .code yX0_move cX0_move 8 none, .methodLink RX0 124 yX0_send, .instanceMethod yX0_send, .selects RX0 yX0_send yX0_send, .code yX0_send cX0_send 5 none, .code yX1_reading cX1_reading 4 (some .long), .methodLink RX1 35 yX1_isSet, .instanceMethod yX1_isSet, .selects RX1 yX1_isSet yX1_isSet, .fieldLink RX1 15 "RiverModel$Gauges" "places" "[I", .fieldLink RX1 9 "RiverModel$Gauges" "whats" "[I", .fieldLink RX1 50 "RiverModel$Course" "held" "[J", .static yX9_isNoItem, .fieldLink RX1 41 "RiverModel$Course" "moved" "[J", .code yX1_isSet cX1_isSet 2 (some .boolean), .code yX9_isNoItem cX9_isNoItem 1 (some .boolean), .methodLink RX5 63 yX5_takeTried, .instanceMethod yX5_takeTried, .selects RX5 yX5_takeTried yX5_takeTried, .code yX5_takeTried cX5_takeTried 3 none, .fieldLink RX5 21 "RiverModel$Search" "found" "[I", .methodLink RX5 113 arraycopyName] ++ wsX50 ++ wsX00 ++ wsX60 ++ wsX40 ++ wsX10)
set_option maxRecDepth 20000 in
theorem gu_X5_tryBlock_1_X9_isOutside_n : GoodIn uX5_tryBlock_1 (uX9_isOutside) := goodIn_r _ [19] rfl (by decide +kernel)
set_option maxRecDepth 20000 in
theorem gu_X5_tryBlock_1_X0_copyFrom_53 : GoodIn uX5_tryBlock_1 (wsV RX5 53 RX0 yX0_copyFrom uX0_copyFrom) := goodIn_r _ [5, 6, 7, 8, 20, 21, 22, 23, 24, 25, 26, 27, 28, 29, 30, 31, 32, 148, 149, 150, 151, 152, 153, 154, 155] rfl (by decide +kernel)
set_option maxRecDepth 20000 in
theorem gu_X5_tryBlock_1_X5_peakOfBlock_57 : GoodIn uX5_tryBlock_1 (wsV RX5 57 RX5 yX5_peakOfBlock uX5_peakOfBlock) := goodIn_r _ [9, 10, 11, 12, 33, 34, 1, 35, 13, 36, 37, 38, 39, 40, 41, 42, 43, 44, 45, 46, 47, 48, 49, 50, 8, 51, 52, 53, 54, 55, 56, 57, 58, 59, 60, 61, 62, 63, 64, 2, 65, 19, 66, 67, 68, 69, 70, 71, 32, 72, 73, 74, 75, 26, 76, 77, 78, 79, 21, 28, 80, 81, 82, 83, 84, 85, 86, 87, 88, 89, 90, 91, 92, 93, 94, 95, 96, 97, 98, 99, 100, 101, 102, 103, 104, 105, 106, 107, 27, 108, 109, 110, 111, 112, 113, 114, 115, 116, 29, 117, 118, 119, 31, 30, 120, 121, 122, 123, 124, 125, 126, 127, 128, 129, 130, 131, 138, 139, 140, 141, 142, 143, 144, 145, 146, 147, 148, 149, 150, 151, 152, 153, 154, 155, 156, 157, 158, 159, 160, 161, 162, 163, 164, 165, 166, 167] rfl (by decide +kernel)
set_option maxRecDepth 20000 in
theorem gu_X5_tryBlock_1_X5_tryBlock_2_67 : GoodIn uX5_tryBlock_1 (wsV RX5 67 RX5 yX5_tryBlock uX5_tryBlock_2) := goodIn_r _ [15, 16, 17, 12, 0, 1, 2, 3, 4, 5, 6, 7, 8, 9, 10, 11, 12, 13, 14, 15, 16, 17, 18, 19, 20, 21, 22, 23, 24, 25, 26, 27, 28, 29, 30, 31, 32, 33, 34, 35, 36, 37, 38, 39, 40, 41, 42, 43, 44, 45, 46, 47, 48, 49, 50, 51, 52, 53, 54, 55, 56, 57, 58, 59, 60, 61, 62, 63, 64, 65, 66, 67, 68, 69, 70, 71, 72, 73, 74, 75, 76, 77, 78, 79, 80, 81, 82, 83, 84, 85, 86, 87, 88, 89, 90, 91, 92, 93, 94, 95, 96, 97, 98, 99, 100, 101, 102, 103, 104, 105, 106, 107, 108, 109, 110, 111, 112, 113, 114, 115, 116, 117, 118, 119, 120, 121, 122, 123, 124, 125, 126, 127, 128, 129, 130, 131, 132, 133, 134, 135, 136, 137, 138, 139, 140, 141, 142, 143, 144, 145, 146, 147, 148, 149, 150, 151, 152, 153, 154, 155, 156, 157, 158, 159, 160, 161, 162, 163, 164, 165, 166, 167] rfl (by decide +kernel)
set_option maxHeartbeats 4000000 in
set_option maxRecDepth 100000 in
theorem s_X5_tryBlock_1 (l : Launch) (D : va_G) (t : Nat → Nat) (cI cL cC : ClassId) (gC : Int32) (gE : Int32) (G : Nat) (gW : Nat → Int32) (gA : Nat → Int32) (a0 : Nat) (a1 : Nat) (a2 : Nat) (a3 : Nat) (a4 : Nat) (a6 : Int64) (hGb : G ≤ 151000000) (k_a0 : t a0 = 9) (k_a1 : t a1 = 3) (k_a2 : t a2 = 4) (k_a3 : t a3 = 6) (k_a4 : t a4 = 5) : tM l yX5_tryBlock uX5_tryBlock_1 7 191 D (gF cI cL cC gC gE G gW gA) (gF cI cL cC gC gE (G + 1548) gW gA) t cI cL cC [.ref a0, .ref a1, .ref a2, .ref a3, .ref a4, .int 1, .long a6] wrS (pV (True)) := by
  refine tM.ofW (cc := cX5_tryBlock) (maxL := 12) (ret := none) (by decide) rfl (Nat.le_of_ble_eq_true rfl) ?_
  intro p e s m below meth c hx hb hr hml hown hts hlk H locs hG hK hE hS ls hl
  have hl : lv_has ls 12 [(0, .ref a0), (1, .ref a1), (2, .ref a2), (3, .ref a3), (4, .ref a4), (5, .int 1), (6, .long a6)] := hl
  have in5 : ∀ w ∈ wsX50, w ∈ uX5_tryBlock_1 := fun w h => List.mem_cons_of_mem _ (List.mem_append_left _ (List.mem_append_left _ (List.mem_append_left _ (List.mem_append_left _ (List.mem_append_right _ h)))))
  refine lv_iload hx hb dX5_tryBlock_0 (lv_at hl 5 rfl) ?_
  refine lv_iconst (v := 0) hx hb dX5_tryBlock_2 (by decide) ?_
  refine lv_iconst (v := 3) hx hb dX5_tryBlock_3 (by decide) ?_
  refine ty_calli (tRun (va_runSN (As := [.int 1, .int 0, .int 3]) (rest := []) ⟨hx, hb, hml, hown, hts⟩ (s_X9_isOutside l D t cI cL cC gC gE G gW gA 1 0 3 0 3 (by decide) (by decide) ) ⟨(va_cnB 3 hts gu_X5_tryBlock_1_X9_isOutside_n rfl rfl rfl (hE.2.1 _ (List.mem_of_getElem? (i := 23) rfl)) (hts (.initialized RX9) (List.mem_of_getElem? (i := 1) rfl)) (by decide +kernel) ⟨Nat.le_of_ble_eq_true rfl, Nat.le_of_ble_eq_true rfl⟩), (hts (.static yX9_isOutside) (List.mem_of_getElem? (i := 2) rfl)), trivial⟩ (tP_S hG hE) rfl rfl hl.1 rfl (lv_room (Nat.le_of_ble_eq_true rfl)) dX5_tryBlock_4 ⟨Nat.le_of_ble_eq_true rfl, Nat.le_of_ble_eq_true rfl⟩)) hS (fun k h => by simp [wr0] at h) (fun r_1 H locs hp_2 hG hS o_3 => ?_)
  rcases hp_2 with ⟨rfl, hc_115⟩ | ⟨rfl, hc_116, hc_117⟩
  · skip
    refine lv_if_eq (tgt := 11) hx hb dX5_tryBlock_7 (by decide) (fun q => absurd q (by decide)) (fun _ => ?_)
    exact ty_vret hx hb hr hlk (hG.weak (fun _ _ => gF_mono (by omega))) hS True.intro dX5_tryBlock_10
  · skip
    refine lv_if_eq (tgt := 11) hx hb dX5_tryBlock_7 (by decide) (fun _ => ?_) (fun q => absurd (by decide) q)
    refine lv_pc (pc2 := 11) rfl ?_
    refine lv_aload_n hx hb dX5_tryBlock_11 rfl (lv_at hl 0 rfl) ?_
    obtain ⟨r_4, r_6, r_8, v_10, v_11, v_12, v_14, v_16, v_17, v_19, at_20, h_5, h_7, h_9, h_13, h_15, h_18⟩ := gF_o9 hG k_a0
    refine va_get (D := D) (ci := 4) (v := .ref r_4) (C := RX5) (T := TX5) (N := 10) hx hb hts in5 hown hK (va_one at_20) 0 rfl rfl 0 (by decide) (hts (.fieldLink RX5 11 "RiverModel$Search" "blockEnds" "[LRiverModel$Course;") (List.mem_of_getElem? (i := 3) rfl)) (fun _ h9 => h9) rfl dX5_tryBlock_12 ?_
    refine lv_iload hx hb dX5_tryBlock_15 (lv_at hl 5 rfl) ?_
    obtain ⟨f_21, at_22, h_23⟩ := gF_o32 hG h_5
    have b_24 : vp_in 1 4 := (q_in (by decide) (by decide))
    refine va_aldq hx hb hK (va_one at_22) 0 2 rfl rfl b_24 dX5_tryBlock_17 ?_
    obtain ⟨r_25, e_26, h_27⟩ := h_23 _ (q_inlt b_24)
    rw [e_26]
    show W p l _ _ s m _ below meth c _ _ _ _ _ (F0 m _ ls (.ref r_25 :: _))
    refine lv_astore (lv' := [(8, .ref r_25), (0, .ref a0), (1, .ref a1), (2, .ref a2), (3, .ref a3), (4, .ref a4), (5, .int 1), (6, .long a6)]) hx hb dX5_tryBlock_18 hl (by decide) rfl (fun ls hl => ?_)
    refine lv_iconst (v := 0) hx hb dX5_tryBlock_20 (by decide) ?_
    refine lv_istore (lv' := [(9, .int 0), (8, .ref r_25), (0, .ref a0), (1, .ref a1), (2, .ref a2), (3, .ref a3), (4, .ref a4), (5, .int 1), (6, .long a6)]) hx hb dX5_tryBlock_21 hl (by decide) rfl (fun ls hl => ?_)
    refine lv_pc (pc2 := 23) rfl ?_
    refine lp_gen (fun WW hWW => ?_)
    have kx : ∀ (yo : Int32) (g : Nat) (H1 : Heap) (locs1 : List Loc) (ls1 : Array Slot), 0 ≤ yo.toInt → yo.toInt ≤ 12 → 2 * (g : Int) + 258 * (12 - yo.toInt) ≤ 2 * (G : Int) + 3096 → tG D (gF cI cL cC gC gE g gW gA) t H1 → tF t wrS s.heap H1 locs1 → lv_has ls1 12 [(9, .int yo), (8, .ref r_25), (0, .ref a0), (1, .ref a1), (2, .ref a2), (3, .ref a3), (4, .ref a4), (5, .int 1), (6, .long a6)] → WW H1 locs1 (F0 m 126 ls1 []) := by
      intro yo g H locs ls v0 v1 v2 hG hS hl
      refine (hWW _ _ _).mpr ?_
      exact ty_vret hx hb hr hlk (hG.weak (fun _ _ => gF_mono (by omega))) hS True.intro dX5_tryBlock_126
    have loop : ∀ (k : Nat) (yo : Int32) (g : Nat) (H1 : Heap) (locs1 : List Loc) (ls1 : Array Slot), 12 - yo.toInt ≤ (k : Int) → 0 ≤ yo.toInt → yo.toInt ≤ 12 → 2 * (g : Int) + 258 * (12 - yo.toInt) ≤ 2 * (G : Int) + 3096 → tG D (gF cI cL cC gC gE g gW gA) t H1 → tF t wrS s.heap H1 locs1 → lv_has ls1 12 [(9, .int yo), (8, .ref r_25), (0, .ref a0), (1, .ref a1), (2, .ref a2), (3, .ref a3), (4, .ref a4), (5, .int 1), (6, .long a6)] → WW H1 locs1 (F0 m 23 ls1 []) := by
      intro k
      induction k with
      | zero =>
        intro yo g H locs ls hk v0 v1 v2 hG hS hl
        refine (hWW _ _ _).mpr ?_
        refine lv_pc (pc2 := 23) rfl ?_
        refine lv_iload hx hb dX5_tryBlock_23 (lv_at hl 0 rfl) ?_
        refine lv_bipush (v := 10) hx hb dX5_tryBlock_25 (by decide) ?_
        refine lv_icmp_gt (tgt := 126) hx hb dX5_tryBlock_27 (by decide) (fun c_28 => ?_) (fun c_28 => ?_)
        · skip
          have c_28 : 10 < yo.toInt := q_lt c_28
          exact (hWW _ _ _).mp (kx yo g H locs ls (by omega) (by omega) (by omega) hG hS (lv_sub hl [0, 1, 2, 3, 4, 5, 6, 7, 8] rfl))
        · skip
          have c_28 : yo.toInt ≤ 10 := q_nlt c_28
          refine lv_aload_n hx hb dX5_tryBlock_30 rfl (lv_at hl 2 rfl) ?_
          obtain ⟨r_29, r_31, r_33, v_35, v_36, v_37, v_39, v_41, v_42, v_44, at_45, h_30, h_32, h_34, h_38, h_40, h_43⟩ := gF_o9 hG k_a0
          refine va_get (D := D) (ci := 4) (v := .ref r_31) (C := RX5) (T := TX5) (N := 10) hx hb hts in5 hown hK (va_one at_45) 0 rfl rfl 1 (by decide) (hts (.fieldLink RX5 17 "RiverModel$Search" "tried" "[I") (List.mem_of_getElem? (i := 4) rfl)) (fun _ h9 => h9) rfl dX5_tryBlock_31 ?_
          refine lv_iload hx hb dX5_tryBlock_34 (lv_at hl 7 rfl) ?_
          refine lv_iload hx hb dX5_tryBlock_36 (lv_at hl 0 rfl) ?_
          obtain ⟨f_46, at_47⟩ := gF_o33 hG h_32
          have b_48 : vp_in 1 4 := (q_in (by decide) (by decide))
          refine ty_iast (F2 := (gF cI cL cC gC gE g gW gA)) hx hb hK hG hS 0 at_47 (by rw [h_32]; rfl) rfl b_48 (by rw [h_32]; exact ⟨_, rfl⟩) tFF dX5_tryBlock_38 (fun H locs hG hS at_49 o_50 => ?_)
          have at_45 := va_at.keptK at_45 o_50 h_32 k_a0 rfl
          refine lv_pc (pc2 := 39) rfl ?_
          refine lv_aload hx hb dX5_tryBlock_39 (lv_at hl 1 rfl) ?_
          refine lv_aload hx hb dX5_tryBlock_41 (lv_at hl 6 rfl) ?_
          obtain ⟨r_51, r_53, r_55, r_57, v_59, v_60, v_61, v_62, at_64, h_52, h_54, h_56, h_58, h_63⟩ := gF_o5 hG h_27
          refine ty_callv ((W.runV (As := [.ref a4]) (rest := []) ⟨hx, hb, hml, hown, hts⟩ (s_X0_copyFrom l D t cI cL cC gC gE g gW gA r_25 a4 h_27 k_a4) (cwV 1 hts gu_X5_tryBlock_1_X0_copyFrom_53 rfl rfl rfl (by decide +kernel) ⟨Nat.le_of_ble_eq_true rfl, Nat.le_of_ble_eq_true rfl⟩) (tP_V hG hE at_64 rfl) rfl rfl hl.1 rfl (lv_room (Nat.le_of_ble_eq_true rfl)) dX5_tryBlock_43 ⟨Nat.le_of_ble_eq_true rfl, Nat.le_of_ble_eq_true rfl⟩)) hS (wrL_sub (by decide)) (fun H locs hp_66 hG hS o_67 => ?_)
          have at_45 := va_at.keptC at_45 o_67 k_a0 rfl
          refine lv_aload_n hx hb dX5_tryBlock_46 rfl (lv_at hl 2 rfl) ?_
          refine lv_aload_n hx hb dX5_tryBlock_47 rfl (lv_at hl 3 rfl) ?_
          refine lv_aload_n hx hb dX5_tryBlock_48 rfl (lv_at hl 4 rfl) ?_
          refine lv_aload_n hx hb dX5_tryBlock_49 rfl (lv_at hl 5 rfl) ?_
          refine lv_aload hx hb dX5_tryBlock_50 (lv_at hl 1 rfl) ?_
          refine lv_pc (pc2 := 52) rfl ?_
          refine lv_iload hx hb dX5_tryBlock_52 (lv_at hl 0 rfl) ?_
          refine lv_lload hx hb dX5_tryBlock_54 (lv_at hl 8 rfl) ?_
          refine ty_calll ((W.runV (As := [.ref a1, .ref a2, .ref a3, .ref r_25, .int yo, .long a6]) (rest := []) ⟨hx, hb, hml, hown, hts⟩ (s_X5_peakOfBlock l D t cI cL cC gC gE g gW gA a0 a1 a2 a3 r_25 yo a6 (by omega) k_a0 k_a1 k_a2 k_a3 h_27) (cwV 6 hts gu_X5_tryBlock_1_X5_peakOfBlock_57 rfl rfl rfl (by decide +kernel) ⟨Nat.le_of_ble_eq_true rfl, Nat.le_of_ble_eq_true rfl⟩) (tP_V hG hE at_45 rfl) rfl rfl hl.1 rfl (lv_room (Nat.le_of_ble_eq_true rfl)) dX5_tryBlock_56 ⟨Nat.le_of_ble_eq_true rfl, Nat.le_of_ble_eq_true rfl⟩)) hS (wrL_sub (by decide)) (fun z_68 H locs hp_69 hG hS o_70 => ?_)
          have at_45 := va_at.keptC at_45 o_70 k_a0 rfl
          refine lv_lstore (lv' := [(10, .long z_68), (9, .int yo), (8, .ref r_25), (0, .ref a0), (1, .ref a1), (2, .ref a2), (3, .ref a3), (4, .ref a4), (5, .int 1), (6, .long a6)]) hx hb dX5_tryBlock_59 hl (by decide) rfl (fun ls hl => ?_)
          refine lv_lload hx hb dX5_tryBlock_61 (lv_at hl 0 rfl) ?_
          refine lv_ldc2 hx hb hown (hts (.constantLong RX5 61 (-1)) (List.mem_of_getElem? (i := 13) rfl)) dX5_tryBlock_63 ?_
          refine W.lcmp hx hb dX5_tryBlock_66 ?_
          refine lv_if_eq (tgt := 120) hx hb dX5_tryBlock_67 (by decide) (fun c_71 => ?_) (fun c_71 => ?_)
          · skip
            have c_71 : z_68.toInt = (-1) := q_cmp_eq c_71
            refine lv_pc (pc2 := 120) rfl ?_
            obtain ⟨x_72, e_73⟩ : ∃ y : Int32, y = yo + Int32.ofInt 2 := ⟨_, rfl⟩
            have i_x_72 : x_72.toInt = yo.toInt + 2 := by rw [e_73, show Int32.ofInt 2 = 2 by decide]; exact (q_add (by rw [show (2 : Int32).toInt = 2 by decide]; omega) (by rw [show (2 : Int32).toInt = 2 by decide]; omega)).trans (by rw [show (2 : Int32).toInt = 2 by decide])
            refine lv_iinc (v := x_72) (lv' := [(9, .int x_72), (10, .long z_68), (8, .ref r_25), (0, .ref a0), (1, .ref a1), (2, .ref a2), (3, .ref a3), (4, .ref a4), (5, .int 1), (6, .long a6)]) hx hb dX5_tryBlock_120 hl (k := 1) rfl e_73.symm (by decide) rfl (fun ls hl => ?_)
            refine lv_goto (tgt := 23) hx hb dX5_tryBlock_123 (by decide) ?_
            exfalso; omega
          · skip
            have c_71 : z_68.toInt ≠ (-1) := q_cmp_ne c_71
            refine lv_aload_n hx hb dX5_tryBlock_70 rfl (lv_at hl 3 rfl) ?_
            refine va_get (D := D) (ci := 4) (v := .int v_35) (C := RX5) (T := TX5) (N := 10) hx hb hts in5 hown hK (va_one at_45) 0 rfl rfl 3 (by decide) (hts (.fieldLink RX5 24 "RiverModel$Search" "isFound" "Z") (List.mem_of_getElem? (i := 14) rfl)) (fun _ h9 => h9) rfl dX5_tryBlock_71 ?_
            refine lv_if_eq (tgt := 90) hx hb dX5_tryBlock_74 (by decide) (fun c_74 => ?_) (fun c_74 => ?_)
            · skip
              have c_74 : v_35.toInt = 0 := q_eq c_74
              refine lv_iload hx hb dX5_tryBlock_90 (lv_at hl 8 rfl) ?_
              refine lv_iconst (v := 3) hx hb dX5_tryBlock_92 (by decide) ?_
              refine lv_icmp_ne (tgt := 105) hx hb dX5_tryBlock_93 (by decide) (fun _ => ?_) (fun q => absurd q (by decide))
              refine lv_pc (pc2 := 105) rfl ?_
              refine lv_aload_n hx hb dX5_tryBlock_105 rfl (lv_at hl 3 rfl) ?_
              refine lv_aload_n hx hb dX5_tryBlock_106 rfl (lv_at hl 4 rfl) ?_
              refine lv_aload_n hx hb dX5_tryBlock_107 rfl (lv_at hl 5 rfl) ?_
              refine lv_aload_n hx hb dX5_tryBlock_108 rfl (lv_at hl 6 rfl) ?_
              refine lv_aload hx hb dX5_tryBlock_109 (lv_at hl 2 rfl) ?_
              refine lv_iload hx hb dX5_tryBlock_111 (lv_at hl 8 rfl) ?_
              refine lv_iconst (v := 1) hx hb dX5_tryBlock_113 (by decide) ?_
              refine lv_iadd hx hb dX5_tryBlock_114 ?_
              refine lv_seti (y := 2) (by decide) ?_
              refine lv_pc (pc2 := 115) rfl ?_
              refine lv_lload hx hb dX5_tryBlock_115 (lv_at hl 0 rfl) ?_
              refine ty_callv ((W.runV (As := [.ref a1, .ref a2, .ref a3, .ref r_25, .int 2, .long z_68]) (rest := []) ⟨hx, hb, hml, hown, hts⟩ (s_X5_tryBlock_2 l D t cI cL cC gC gE (g + 6) gW gA a0 a1 a2 a3 r_25 z_68 (by omega) k_a0 k_a1 k_a2 k_a3 h_27) (cwV 6 hts gu_X5_tryBlock_1_X5_tryBlock_2_67 rfl rfl rfl (by decide +kernel) ⟨Nat.le_of_ble_eq_true rfl, Nat.le_of_ble_eq_true rfl⟩) (tP_V hG hE at_45 rfl) rfl rfl hl.1 rfl (lv_room (Nat.le_of_ble_eq_true rfl)) dX5_tryBlock_117 ⟨Nat.le_of_ble_eq_true rfl, Nat.le_of_ble_eq_true rfl⟩)) hS (fun _ h => h) (fun H locs hp_76 hG hS o_77 => ?_)
              obtain ⟨x_78, e_79⟩ : ∃ y : Int32, y = yo + Int32.ofInt 2 := ⟨_, rfl⟩
              have i_x_78 : x_78.toInt = yo.toInt + 2 := by rw [e_79, show Int32.ofInt 2 = 2 by decide]; exact (q_add (by rw [show (2 : Int32).toInt = 2 by decide]; omega) (by rw [show (2 : Int32).toInt = 2 by decide]; omega)).trans (by rw [show (2 : Int32).toInt = 2 by decide])
              refine lv_iinc (v := x_78) (lv' := [(9, .int x_78), (10, .long z_68), (8, .ref r_25), (0, .ref a0), (1, .ref a1), (2, .ref a2), (3, .ref a3), (4, .ref a4), (5, .int 1), (6, .long a6)]) hx hb dX5_tryBlock_120 hl (k := 1) rfl e_79.symm (by decide) rfl (fun ls hl => ?_)
              refine lv_goto (tgt := 23) hx hb dX5_tryBlock_123 (by decide) ?_
              exfalso; omega
            · skip
              have c_74 : v_35.toInt ≠ 0 := q_ne c_74
              refine lv_lload hx hb dX5_tryBlock_77 (lv_at hl 0 rfl) ?_
              refine lv_aload_n hx hb dX5_tryBlock_79 rfl (lv_at hl 3 rfl) ?_
              refine va_get (D := D) (ci := 4) (v := .long v_36) (C := RX5) (T := TX5) (N := 10) hx hb hts in5 hown hK (va_one at_45) 0 rfl rfl 4 (by decide) (hts (.fieldLink RX5 28 "RiverModel$Search" "leastPeak" "J") (List.mem_of_getElem? (i := 18) rfl)) (fun _ h9 => h9) rfl dX5_tryBlock_80 ?_
              refine W.lcmp hx hb dX5_tryBlock_83 ?_
              refine lv_pc (pc2 := 84) rfl ?_
              refine lv_if_lt (tgt := 90) hx hb dX5_tryBlock_84 (by decide) (fun c_80 => ?_) (fun c_80 => ?_)
              · skip
                have c_80 : z_68.toInt < v_36.toInt := q_cmp_lt c_80
                refine lv_iload hx hb dX5_tryBlock_90 (lv_at hl 8 rfl) ?_
                refine lv_iconst (v := 3) hx hb dX5_tryBlock_92 (by decide) ?_
                refine lv_icmp_ne (tgt := 105) hx hb dX5_tryBlock_93 (by decide) (fun _ => ?_) (fun q => absurd q (by decide))
                refine lv_aload_n hx hb dX5_tryBlock_105 rfl (lv_at hl 3 rfl) ?_
                refine lv_aload_n hx hb dX5_tryBlock_106 rfl (lv_at hl 4 rfl) ?_
                refine lv_aload_n hx hb dX5_tryBlock_107 rfl (lv_at hl 5 rfl) ?_
                refine lv_aload_n hx hb dX5_tryBlock_108 rfl (lv_at hl 6 rfl) ?_
                refine lv_pc (pc2 := 109) rfl ?_
                refine lv_aload hx hb dX5_tryBlock_109 (lv_at hl 2 rfl) ?_
                refine lv_iload hx hb dX5_tryBlock_111 (lv_at hl 8 rfl) ?_
                refine lv_iconst (v := 1) hx hb dX5_tryBlock_113 (by decide) ?_
                refine lv_iadd hx hb dX5_tryBlock_114 ?_
                refine lv_seti (y := 2) (by decide) ?_
                refine lv_lload hx hb dX5_tryBlock_115 (lv_at hl 0 rfl) ?_
                refine ty_callv ((W.runV (As := [.ref a1, .ref a2, .ref a3, .ref r_25, .int 2, .long z_68]) (rest := []) ⟨hx, hb, hml, hown, hts⟩ (s_X5_tryBlock_2 l D t cI cL cC gC gE (g + 6) gW gA a0 a1 a2 a3 r_25 z_68 (by omega) k_a0 k_a1 k_a2 k_a3 h_27) (cwV 6 hts gu_X5_tryBlock_1_X5_tryBlock_2_67 rfl rfl rfl (by decide +kernel) ⟨Nat.le_of_ble_eq_true rfl, Nat.le_of_ble_eq_true rfl⟩) (tP_V hG hE at_45 rfl) rfl rfl hl.1 rfl (lv_room (Nat.le_of_ble_eq_true rfl)) dX5_tryBlock_117 ⟨Nat.le_of_ble_eq_true rfl, Nat.le_of_ble_eq_true rfl⟩)) hS (fun _ h => h) (fun H locs hp_82 hG hS o_83 => ?_)
                obtain ⟨x_84, e_85⟩ : ∃ y : Int32, y = yo + Int32.ofInt 2 := ⟨_, rfl⟩
                have i_x_84 : x_84.toInt = yo.toInt + 2 := by rw [e_85, show Int32.ofInt 2 = 2 by decide]; exact (q_add (by rw [show (2 : Int32).toInt = 2 by decide]; omega) (by rw [show (2 : Int32).toInt = 2 by decide]; omega)).trans (by rw [show (2 : Int32).toInt = 2 by decide])
                refine lv_iinc (v := x_84) (lv' := [(9, .int x_84), (10, .long z_68), (8, .ref r_25), (0, .ref a0), (1, .ref a1), (2, .ref a2), (3, .ref a3), (4, .ref a4), (5, .int 1), (6, .long a6)]) hx hb dX5_tryBlock_120 hl (k := 1) rfl e_85.symm (by decide) rfl (fun ls hl => ?_)
                refine lv_goto (tgt := 23) hx hb dX5_tryBlock_123 (by decide) ?_
                exfalso; omega
              · skip
                have c_80 : v_36.toInt ≤ z_68.toInt := q_cmp_nlt c_80
                refine lv_pc (pc2 := 87) rfl ?_
                refine lv_goto (tgt := 120) hx hb dX5_tryBlock_87 (by decide) ?_
                obtain ⟨x_86, e_87⟩ : ∃ y : Int32, y = yo + Int32.ofInt 2 := ⟨_, rfl⟩
                have i_x_86 : x_86.toInt = yo.toInt + 2 := by rw [e_87, show Int32.ofInt 2 = 2 by decide]; exact (q_add (by rw [show (2 : Int32).toInt = 2 by decide]; omega) (by rw [show (2 : Int32).toInt = 2 by decide]; omega)).trans (by rw [show (2 : Int32).toInt = 2 by decide])
                refine lv_iinc (v := x_86) (lv' := [(9, .int x_86), (10, .long z_68), (8, .ref r_25), (0, .ref a0), (1, .ref a1), (2, .ref a2), (3, .ref a3), (4, .ref a4), (5, .int 1), (6, .long a6)]) hx hb dX5_tryBlock_120 hl (k := 1) rfl e_87.symm (by decide) rfl (fun ls hl => ?_)
                refine lv_goto (tgt := 23) hx hb dX5_tryBlock_123 (by decide) ?_
                exfalso; omega
      | succ k ih =>
        intro yo g H locs ls hk v0 v1 v2 hG hS hl
        refine (hWW _ _ _).mpr ?_
        refine lv_iload hx hb dX5_tryBlock_23 (lv_at hl 0 rfl) ?_
        refine lv_bipush (v := 10) hx hb dX5_tryBlock_25 (by decide) ?_
        refine lv_icmp_gt (tgt := 126) hx hb dX5_tryBlock_27 (by decide) (fun c_88 => ?_) (fun c_88 => ?_)
        · skip
          have c_88 : 10 < yo.toInt := q_lt c_88
          exact (hWW _ _ _).mp (kx yo g H locs ls (by omega) (by omega) (by omega) hG hS (lv_sub hl [0, 1, 2, 3, 4, 5, 6, 7, 8] rfl))
        · skip
          have c_88 : yo.toInt ≤ 10 := q_nlt c_88
          refine lv_aload_n hx hb dX5_tryBlock_30 rfl (lv_at hl 2 rfl) ?_
          obtain ⟨r_89, r_91, r_93, v_95, v_96, v_97, v_99, v_101, v_102, v_104, at_105, h_90, h_92, h_94, h_98, h_100, h_103⟩ := gF_o9 hG k_a0
          refine va_get (D := D) (ci := 4) (v := .ref r_91) (C := RX5) (T := TX5) (N := 10) hx hb hts in5 hown hK (va_one at_105) 0 rfl rfl 1 (by decide) (hts (.fieldLink RX5 17 "RiverModel$Search" "tried" "[I") (List.mem_of_getElem? (i := 4) rfl)) (fun _ h9 => h9) rfl dX5_tryBlock_31 ?_
          refine lv_pc (pc2 := 34) rfl ?_
          refine lv_iload hx hb dX5_tryBlock_34 (lv_at hl 7 rfl) ?_
          refine lv_iload hx hb dX5_tryBlock_36 (lv_at hl 0 rfl) ?_
          obtain ⟨f_106, at_107⟩ := gF_o33 hG h_92
          have b_108 : vp_in 1 4 := (q_in (by decide) (by decide))
          refine ty_iast (F2 := (gF cI cL cC gC gE g gW gA)) hx hb hK hG hS 0 at_107 (by rw [h_92]; rfl) rfl b_108 (by rw [h_92]; exact ⟨_, rfl⟩) tFF dX5_tryBlock_38 (fun H locs hG hS at_109 o_110 => ?_)
          have at_105 := va_at.keptK at_105 o_110 h_92 k_a0 rfl
          refine lv_aload hx hb dX5_tryBlock_39 (lv_at hl 1 rfl) ?_
          refine lv_aload hx hb dX5_tryBlock_41 (lv_at hl 6 rfl) ?_
          obtain ⟨r_111, r_113, r_115, r_117, v_119, v_120, v_121, v_122, at_124, h_112, h_114, h_116, h_118, h_123⟩ := gF_o5 hG h_27
          refine ty_callv ((W.runV (As := [.ref a4]) (rest := []) ⟨hx, hb, hml, hown, hts⟩ (s_X0_copyFrom l D t cI cL cC gC gE g gW gA r_25 a4 h_27 k_a4) (cwV 1 hts gu_X5_tryBlock_1_X0_copyFrom_53 rfl rfl rfl (by decide +kernel) ⟨Nat.le_of_ble_eq_true rfl, Nat.le_of_ble_eq_true rfl⟩) (tP_V hG hE at_124 rfl) rfl rfl hl.1 rfl (lv_room (Nat.le_of_ble_eq_true rfl)) dX5_tryBlock_43 ⟨Nat.le_of_ble_eq_true rfl, Nat.le_of_ble_eq_true rfl⟩)) hS (wrL_sub (by decide)) (fun H locs hp_126 hG hS o_127 => ?_)
          have at_105 := va_at.keptC at_105 o_127 k_a0 rfl
          refine lv_aload_n hx hb dX5_tryBlock_46 rfl (lv_at hl 2 rfl) ?_
          refine lv_aload_n hx hb dX5_tryBlock_47 rfl (lv_at hl 3 rfl) ?_
          refine lv_pc (pc2 := 48) rfl ?_
          refine lv_aload_n hx hb dX5_tryBlock_48 rfl (lv_at hl 4 rfl) ?_
          refine lv_aload_n hx hb dX5_tryBlock_49 rfl (lv_at hl 5 rfl) ?_
          refine lv_aload hx hb dX5_tryBlock_50 (lv_at hl 1 rfl) ?_
          refine lv_iload hx hb dX5_tryBlock_52 (lv_at hl 0 rfl) ?_
          refine lv_lload hx hb dX5_tryBlock_54 (lv_at hl 8 rfl) ?_
          refine ty_calll ((W.runV (As := [.ref a1, .ref a2, .ref a3, .ref r_25, .int yo, .long a6]) (rest := []) ⟨hx, hb, hml, hown, hts⟩ (s_X5_peakOfBlock l D t cI cL cC gC gE g gW gA a0 a1 a2 a3 r_25 yo a6 (by omega) k_a0 k_a1 k_a2 k_a3 h_27) (cwV 6 hts gu_X5_tryBlock_1_X5_peakOfBlock_57 rfl rfl rfl (by decide +kernel) ⟨Nat.le_of_ble_eq_true rfl, Nat.le_of_ble_eq_true rfl⟩) (tP_V hG hE at_105 rfl) rfl rfl hl.1 rfl (lv_room (Nat.le_of_ble_eq_true rfl)) dX5_tryBlock_56 ⟨Nat.le_of_ble_eq_true rfl, Nat.le_of_ble_eq_true rfl⟩)) hS (wrL_sub (by decide)) (fun z_128 H locs hp_129 hG hS o_130 => ?_)
          have at_105 := va_at.keptC at_105 o_130 k_a0 rfl
          refine lv_lstore (lv' := [(10, .long z_128), (9, .int yo), (8, .ref r_25), (0, .ref a0), (1, .ref a1), (2, .ref a2), (3, .ref a3), (4, .ref a4), (5, .int 1), (6, .long a6)]) hx hb dX5_tryBlock_59 hl (by decide) rfl (fun ls hl => ?_)
          refine lv_lload hx hb dX5_tryBlock_61 (lv_at hl 0 rfl) ?_
          refine lv_pc (pc2 := 63) rfl ?_
          refine lv_ldc2 hx hb hown (hts (.constantLong RX5 61 (-1)) (List.mem_of_getElem? (i := 13) rfl)) dX5_tryBlock_63 ?_
          refine W.lcmp hx hb dX5_tryBlock_66 ?_
          refine lv_if_eq (tgt := 120) hx hb dX5_tryBlock_67 (by decide) (fun c_131 => ?_) (fun c_131 => ?_)
          · skip
            have c_131 : z_128.toInt = (-1) := q_cmp_eq c_131
            obtain ⟨x_132, e_133⟩ : ∃ y : Int32, y = yo + Int32.ofInt 2 := ⟨_, rfl⟩
            have i_x_132 : x_132.toInt = yo.toInt + 2 := by rw [e_133, show Int32.ofInt 2 = 2 by decide]; exact (q_add (by rw [show (2 : Int32).toInt = 2 by decide]; omega) (by rw [show (2 : Int32).toInt = 2 by decide]; omega)).trans (by rw [show (2 : Int32).toInt = 2 by decide])
            refine lv_iinc (v := x_132) (lv' := [(9, .int x_132), (10, .long z_128), (8, .ref r_25), (0, .ref a0), (1, .ref a1), (2, .ref a2), (3, .ref a3), (4, .ref a4), (5, .int 1), (6, .long a6)]) hx hb dX5_tryBlock_120 hl (k := 1) rfl e_133.symm (by decide) rfl (fun ls hl => ?_)
            refine lv_goto (tgt := 23) hx hb dX5_tryBlock_123 (by decide) ?_
            exact (hWW _ _ _).mp (ih x_132 (g + 6) H locs ls (by omega) (by omega) (by omega) (by omega) hG hS (lv_sub hl [0, 2, 3, 4, 5, 6, 7, 8, 9] rfl))
          · skip
            have c_131 : z_128.toInt ≠ (-1) := q_cmp_ne c_131
            refine lv_aload_n hx hb dX5_tryBlock_70 rfl (lv_at hl 3 rfl) ?_
            refine va_get (D := D) (ci := 4) (v := .int v_95) (C := RX5) (T := TX5) (N := 10) hx hb hts in5 hown hK (va_one at_105) 0 rfl rfl 3 (by decide) (hts (.fieldLink RX5 24 "RiverModel$Search" "isFound" "Z") (List.mem_of_getElem? (i := 14) rfl)) (fun _ h9 => h9) rfl dX5_tryBlock_71 ?_
            refine lv_if_eq (tgt := 90) hx hb dX5_tryBlock_74 (by decide) (fun c_134 => ?_) (fun c_134 => ?_)
            · skip
              have c_134 : v_95.toInt = 0 := q_eq c_134
              refine lv_pc (pc2 := 90) rfl ?_
              refine lv_iload hx hb dX5_tryBlock_90 (lv_at hl 8 rfl) ?_
              refine lv_iconst (v := 3) hx hb dX5_tryBlock_92 (by decide) ?_
              refine lv_icmp_ne (tgt := 105) hx hb dX5_tryBlock_93 (by decide) (fun _ => ?_) (fun q => absurd q (by decide))
              refine lv_aload_n hx hb dX5_tryBlock_105 rfl (lv_at hl 3 rfl) ?_
              refine lv_aload_n hx hb dX5_tryBlock_106 rfl (lv_at hl 4 rfl) ?_
              refine lv_aload_n hx hb dX5_tryBlock_107 rfl (lv_at hl 5 rfl) ?_
              refine lv_aload_n hx hb dX5_tryBlock_108 rfl (lv_at hl 6 rfl) ?_
              refine lv_aload hx hb dX5_tryBlock_109 (lv_at hl 2 rfl) ?_
              refine lv_pc (pc2 := 111) rfl ?_
              refine lv_iload hx hb dX5_tryBlock_111 (lv_at hl 8 rfl) ?_
              refine lv_iconst (v := 1) hx hb dX5_tryBlock_113 (by decide) ?_
              refine lv_iadd hx hb dX5_tryBlock_114 ?_
              refine lv_seti (y := 2) (by decide) ?_
              refine lv_lload hx hb dX5_tryBlock_115 (lv_at hl 0 rfl) ?_
              refine ty_callv ((W.runV (As := [.ref a1, .ref a2, .ref a3, .ref r_25, .int 2, .long z_128]) (rest := []) ⟨hx, hb, hml, hown, hts⟩ (s_X5_tryBlock_2 l D t cI cL cC gC gE (g + 6) gW gA a0 a1 a2 a3 r_25 z_128 (by omega) k_a0 k_a1 k_a2 k_a3 h_27) (cwV 6 hts gu_X5_tryBlock_1_X5_tryBlock_2_67 rfl rfl rfl (by decide +kernel) ⟨Nat.le_of_ble_eq_true rfl, Nat.le_of_ble_eq_true rfl⟩) (tP_V hG hE at_105 rfl) rfl rfl hl.1 rfl (lv_room (Nat.le_of_ble_eq_true rfl)) dX5_tryBlock_117 ⟨Nat.le_of_ble_eq_true rfl, Nat.le_of_ble_eq_true rfl⟩)) hS (fun _ h => h) (fun H locs hp_136 hG hS o_137 => ?_)
              obtain ⟨x_138, e_139⟩ : ∃ y : Int32, y = yo + Int32.ofInt 2 := ⟨_, rfl⟩
              have i_x_138 : x_138.toInt = yo.toInt + 2 := by rw [e_139, show Int32.ofInt 2 = 2 by decide]; exact (q_add (by rw [show (2 : Int32).toInt = 2 by decide]; omega) (by rw [show (2 : Int32).toInt = 2 by decide]; omega)).trans (by rw [show (2 : Int32).toInt = 2 by decide])
              refine lv_iinc (v := x_138) (lv' := [(9, .int x_138), (10, .long z_128), (8, .ref r_25), (0, .ref a0), (1, .ref a1), (2, .ref a2), (3, .ref a3), (4, .ref a4), (5, .int 1), (6, .long a6)]) hx hb dX5_tryBlock_120 hl (k := 1) rfl e_139.symm (by decide) rfl (fun ls hl => ?_)
              refine lv_goto (tgt := 23) hx hb dX5_tryBlock_123 (by decide) ?_
              exact (hWW _ _ _).mp (ih x_138 (g + 258) H locs ls (by omega) (by omega) (by omega) (by omega) hG hS (lv_sub hl [0, 2, 3, 4, 5, 6, 7, 8, 9] rfl))
            · skip
              have c_134 : v_95.toInt ≠ 0 := q_ne c_134
              refine lv_lload hx hb dX5_tryBlock_77 (lv_at hl 0 rfl) ?_
              refine lv_pc (pc2 := 79) rfl ?_
              refine lv_aload_n hx hb dX5_tryBlock_79 rfl (lv_at hl 3 rfl) ?_
              refine va_get (D := D) (ci := 4) (v := .long v_96) (C := RX5) (T := TX5) (N := 10) hx hb hts in5 hown hK (va_one at_105) 0 rfl rfl 4 (by decide) (hts (.fieldLink RX5 28 "RiverModel$Search" "leastPeak" "J") (List.mem_of_getElem? (i := 18) rfl)) (fun _ h9 => h9) rfl dX5_tryBlock_80 ?_
              refine W.lcmp hx hb dX5_tryBlock_83 ?_
              refine lv_if_lt (tgt := 90) hx hb dX5_tryBlock_84 (by decide) (fun c_140 => ?_) (fun c_140 => ?_)
              · skip
                have c_140 : z_128.toInt < v_96.toInt := q_cmp_lt c_140
                refine lv_iload hx hb dX5_tryBlock_90 (lv_at hl 8 rfl) ?_
                refine lv_iconst (v := 3) hx hb dX5_tryBlock_92 (by decide) ?_
                refine lv_icmp_ne (tgt := 105) hx hb dX5_tryBlock_93 (by decide) (fun _ => ?_) (fun q => absurd q (by decide))
                refine lv_aload_n hx hb dX5_tryBlock_105 rfl (lv_at hl 3 rfl) ?_
                refine lv_pc (pc2 := 106) rfl ?_
                refine lv_aload_n hx hb dX5_tryBlock_106 rfl (lv_at hl 4 rfl) ?_
                refine lv_aload_n hx hb dX5_tryBlock_107 rfl (lv_at hl 5 rfl) ?_
                refine lv_aload_n hx hb dX5_tryBlock_108 rfl (lv_at hl 6 rfl) ?_
                refine lv_aload hx hb dX5_tryBlock_109 (lv_at hl 2 rfl) ?_
                refine lv_iload hx hb dX5_tryBlock_111 (lv_at hl 8 rfl) ?_
                refine lv_iconst (v := 1) hx hb dX5_tryBlock_113 (by decide) ?_
                refine lv_iadd hx hb dX5_tryBlock_114 ?_
                refine lv_seti (y := 2) (by decide) ?_
                refine lv_lload hx hb dX5_tryBlock_115 (lv_at hl 0 rfl) ?_
                refine lv_pc (pc2 := 117) rfl ?_
                refine ty_callv ((W.runV (As := [.ref a1, .ref a2, .ref a3, .ref r_25, .int 2, .long z_128]) (rest := []) ⟨hx, hb, hml, hown, hts⟩ (s_X5_tryBlock_2 l D t cI cL cC gC gE (g + 6) gW gA a0 a1 a2 a3 r_25 z_128 (by omega) k_a0 k_a1 k_a2 k_a3 h_27) (cwV 6 hts gu_X5_tryBlock_1_X5_tryBlock_2_67 rfl rfl rfl (by decide +kernel) ⟨Nat.le_of_ble_eq_true rfl, Nat.le_of_ble_eq_true rfl⟩) (tP_V hG hE at_105 rfl) rfl rfl hl.1 rfl (lv_room (Nat.le_of_ble_eq_true rfl)) dX5_tryBlock_117 ⟨Nat.le_of_ble_eq_true rfl, Nat.le_of_ble_eq_true rfl⟩)) hS (fun _ h => h) (fun H locs hp_142 hG hS o_143 => ?_)
                obtain ⟨x_144, e_145⟩ : ∃ y : Int32, y = yo + Int32.ofInt 2 := ⟨_, rfl⟩
                have i_x_144 : x_144.toInt = yo.toInt + 2 := by rw [e_145, show Int32.ofInt 2 = 2 by decide]; exact (q_add (by rw [show (2 : Int32).toInt = 2 by decide]; omega) (by rw [show (2 : Int32).toInt = 2 by decide]; omega)).trans (by rw [show (2 : Int32).toInt = 2 by decide])
                refine lv_iinc (v := x_144) (lv' := [(9, .int x_144), (10, .long z_128), (8, .ref r_25), (0, .ref a0), (1, .ref a1), (2, .ref a2), (3, .ref a3), (4, .ref a4), (5, .int 1), (6, .long a6)]) hx hb dX5_tryBlock_120 hl (k := 1) rfl e_145.symm (by decide) rfl (fun ls hl => ?_)
                refine lv_goto (tgt := 23) hx hb dX5_tryBlock_123 (by decide) ?_
                exact (hWW _ _ _).mp (ih x_144 (g + 258) H locs ls (by omega) (by omega) (by omega) (by omega) hG hS (lv_sub hl [0, 2, 3, 4, 5, 6, 7, 8, 9] rfl))
              · skip
                have c_140 : v_96.toInt ≤ z_128.toInt := q_cmp_nlt c_140
                refine lv_goto (tgt := 120) hx hb dX5_tryBlock_87 (by decide) ?_
                obtain ⟨x_146, e_147⟩ : ∃ y : Int32, y = yo + Int32.ofInt 2 := ⟨_, rfl⟩
                have i_x_146 : x_146.toInt = yo.toInt + 2 := by rw [e_147, show Int32.ofInt 2 = 2 by decide]; exact (q_add (by rw [show (2 : Int32).toInt = 2 by decide]; omega) (by rw [show (2 : Int32).toInt = 2 by decide]; omega)).trans (by rw [show (2 : Int32).toInt = 2 by decide])
                refine lv_iinc (v := x_146) (lv' := [(9, .int x_146), (10, .long z_128), (8, .ref r_25), (0, .ref a0), (1, .ref a1), (2, .ref a2), (3, .ref a3), (4, .ref a4), (5, .int 1), (6, .long a6)]) hx hb dX5_tryBlock_120 hl (k := 1) rfl e_147.symm (by decide) rfl (fun ls hl => ?_)
                refine lv_goto (tgt := 23) hx hb dX5_tryBlock_123 (by decide) ?_
                exact (hWW _ _ _).mp (ih x_146 (g + 6) H locs ls (by omega) (by omega) (by omega) (by omega) hG hS (lv_sub hl [0, 2, 3, 4, 5, 6, 7, 8, 9] rfl))
    have hz_yo : (0 : Int32).toInt = 0 := by decide
    exact loop (12 - 0 : Int).toNat 0 G H locs ls (by omega) (by omega) (by omega) (by omega) hG hS (lv_sub hl [0, 1, 2, 3, 4, 5, 6, 7, 8] rfl)

def uX5_tryBlock_0 : List Cond := .code yX5_tryBlock cX5_tryBlock 12 none :: ([.initialized RX9, .static yX9_isOutside, .fieldLink RX5 11 "RiverModel$Search" "blockEnds" "[LRiverModel$Course;", .fieldLink RX5 17 "RiverModel$Search" "tried" "[I", .methodLink RX5 53 yX0_copyFrom, .instanceMethod yX0_copyFrom, .selects RX0 yX0_copyFrom yX0_copyFrom, .initialized RX0, .methodLink RX5 57 yX5_peakOfBlock, .instanceMethod yX5_peakOfBlock, .selects RX5 yX5_peakOfBlock yX5_peakOfBlock, .initialized RX5, .constantLong RX5 61 (-1), .fieldLink RX5 24 "RiverModel$Search" "isFound" "Z", .methodLink RX5 67 yX5_tryBlock, .instanceMethod yX5_tryBlock, .selects RX5 yX5_tryBlock yX5_tryBlock, .fieldLink RX5 28 "RiverModel$Search" "leastPeak" "J", .code yX9_isOutside cX9_isOutside 3 (some .boolean), .code yX0_copyFrom cX0_copyFrom 2 none, .fieldLink RX0 9 "RiverModel$Course" "held" "[J", .methodLink RX0 54 arraycopyName, .native arraycopyName, .static arraycopyName, .initialized "java/lang/System", .fieldLink RX0 15 "RiverModel$Course" "moved" "[J", .fieldLink RX0 18 "RiverModel$Course" "openings" "[I", .fieldLink RX0 22 "RiverModel$Course" "due" "[J", .fieldLink RX0 25 "RiverModel$Course" "rained" "J", .fieldLink RX0 29 "RiverModel$Course" "air" "J", .fieldLink RX0 32 "RiverModel$Course" "sea" "J", .fieldLink RX0 35 "RiverModel$Course" "hours" "I", .code yX5_peakOfBlock cX5_peakOfBlock 11 (some .long), .fieldLink RX5 32 "RiverModel$Search" "gate" "I", .static yX9_isNoGate, .fieldLink RX5 42 "RiverModel$Search" "store" "I", .static yX9_isNoStore, .fieldLink RX5 78 "RiverModel$Course" "openings" "[I", .fieldLink RX5 36 "RiverModel$Search" "blockHours" "I", .fieldLink RX5 81 "RiverModel$Course" "hours" "I", .methodLink RX5 84 yX6_rainIn, .instanceMethod yX6_rainIn, .selects RX6 yX6_rainIn yX6_rainIn, .initialized RX6, .methodLink RX5 90 yX6_tempIn, .instanceMethod yX6_tempIn, .selects RX6 yX6_tempIn yX6_tempIn, .methodLink RX5 93 yX0_goHour, .instanceMethod yX0_goHour, .selects RX0 yX0_goHour yX0_goHour, .fieldLink RX5 97 "RiverModel$Course" "held" "[J", .fieldLink RX5 45 "RiverModel$Search" "limit" "J", .fieldLink RX5 39 "RiverModel$Search" "gauge" "I", .methodLink RX5 101 yX1_reading, .instanceMethod yX1_reading, .selects RX1 yX1_reading yX1_reading, .initialized RX1, .methodLink RX5 107 Lib.MathLoose.max_long.x, .static Lib.MathLoose.max_long.x, .initialized "java/lang/Math", .code Lib.MathLoose.max_long.x Lib.MathLoose.max_long.code 4 (some .long), .code yX9_isNoGate cX9_isNoGate 1 (some .boolean), .code yX9_isNoStore cX9_isNoStore 1 (some .boolean), .code yX6_rainIn cX6_rainIn 2 (some .int), .fieldLink RX6 9 "RiverModel$Sky" "rains" "[I", .code yX6_tempIn cX6_tempIn 2 (some .int), .fieldLink RX6 15 "RiverModel$Sky" "temps" "[I", .code yX0_goHour cX0_goHour 7 none, .methodLink RX0 72 yX0_bringDue, .instanceMethod yX0_bringDue, .selects RX0 yX0_bringDue yX0_bringDue, .fieldLink RX0 75 "RiverModel$Model" "many" "I", .methodLink RX0 78 yX0_amountOf, .instanceMethod yX0_amountOf, .selects RX0 yX0_amountOf yX0_amountOf, .methodLink RX0 82 yX0_move, .instanceMethod yX0_move, .selects RX0 yX0_move yX0_move, .code yX0_bringDue cX0_bringDue 3 none, .code yX0_amountOf cX0_amountOf 11 (some .long), .methodLink RX0 86 yX4_cell, .instanceMethod yX4_cell, .selects RX4 yX4_cell yX4_cell, .initialized RX4, .methodLink RX0 110 yX4_gateOf, .instanceMethod yX4_gateOf, .selects RX4 yX4_gateOf yX4_gateOf, .methodLink RX0 113 yX0_openingOf, .instanceMethod yX0_openingOf, .selects RX0 yX0_openingOf yX0_openingOf, .methodLink RX0 107 Lib.MathLoose.min_long.x, .static Lib.MathLoose.min_long.x, .code Lib.MathLoose.min_long.x Lib.MathLoose.min_long.code 4 (some .long), .methodLink RX0 94 yX0_leakOf, .static yX0_leakOf, .constantLong RX0 117 (100), .methodLink RX0 98 yX4_capacityOf, .instanceMethod yX4_capacityOf, .selects RX4 yX4_capacityOf yX4_capacityOf, .methodLink RX0 101 Lib.MathLoose.max_long.x, .constantLong RX0 119 (10), .code yX4_cell cX4_cell 3 (some .int), .fieldLink RX4 9 "RiverModel$Model" "cells" "[I", .code yX4_gateOf cX4_gateOf 3 (some .int), .fieldLink RX4 28 "RiverModel$Model" "gates" "I", .fieldLink RX4 18 "RiverModel$Model" "gateItems" "[I", .code yX0_openingOf cX0_openingOf 2 (some .long), .code yX0_leakOf cX0_leakOf 8 (some .long), .code yX4_capacityOf cX4_capacityOf 2 (some .int), .methodLink RX4 66 yX4_hasStore, .instanceMethod yX4_hasStore, .selects RX4 yX4_hasStore yX4_hasStore, .fieldLink RX4 15 "RiverModel$Model" "storeItems" "[I", .methodLink RX4 73 yX4_cell, .code yX4_hasStore cX4_hasStore 2 (some .boolean), .code yX0_move cX0_move 8 none, .methodLink RX0 124 yX0_send, .instanceMethod yX0_send, .selects RX0 yX0_send yX0_send, .code yX0_send cX0_send 5 none, .code yX1_reading cX1_reading 4 (some .long), .methodLink RX1 35 yX1_isSet, .instanceMethod yX1_isSet, .selects RX1 yX1_isSet yX1_isSet, .fieldLink RX1 15 "RiverModel$Gauges" "places" "[I", .fieldLink RX1 9 "RiverModel$Gauges" "whats" "[I", .fieldLink RX1 50 "RiverModel$Course" "held" "[J", .static yX9_isNoItem, .fieldLink RX1 41 "RiverModel$Course" "moved" "[J", .code yX1_isSet cX1_isSet 2 (some .boolean), .code yX9_isNoItem cX9_isNoItem 1 (some .boolean), .methodLink RX5 63 yX5_takeTried, .instanceMethod yX5_takeTried, .selects RX5 yX5_takeTried yX5_takeTried, .code yX5_takeTried cX5_takeTried 3 none, .fieldLink RX5 21 "RiverModel$Search" "found" "[I", .methodLink RX5 113 arraycopyName] ++ wsX50 ++ wsX00 ++ wsX60 ++ wsX40 ++ wsX10)
set_option maxRecDepth 20000 in
theorem gu_X5_tryBlock_0_X9_isOutside_n : GoodIn uX5_tryBlock_0 (uX9_isOutside) := goodIn_r _ [19] rfl (by decide +kernel)
set_option maxRecDepth 20000 in
theorem gu_X5_tryBlock_0_X0_copyFrom_53 : GoodIn uX5_tryBlock_0 (wsV RX5 53 RX0 yX0_copyFrom uX0_copyFrom) := goodIn_r _ [5, 6, 7, 8, 20, 21, 22, 23, 24, 25, 26, 27, 28, 29, 30, 31, 32, 148, 149, 150, 151, 152, 153, 154, 155] rfl (by decide +kernel)
set_option maxRecDepth 20000 in
theorem gu_X5_tryBlock_0_X5_peakOfBlock_57 : GoodIn uX5_tryBlock_0 (wsV RX5 57 RX5 yX5_peakOfBlock uX5_peakOfBlock) := goodIn_r _ [9, 10, 11, 12, 33, 34, 1, 35, 13, 36, 37, 38, 39, 40, 41, 42, 43, 44, 45, 46, 47, 48, 49, 50, 8, 51, 52, 53, 54, 55, 56, 57, 58, 59, 60, 61, 62, 63, 64, 2, 65, 19, 66, 67, 68, 69, 70, 71, 32, 72, 73, 74, 75, 26, 76, 77, 78, 79, 21, 28, 80, 81, 82, 83, 84, 85, 86, 87, 88, 89, 90, 91, 92, 93, 94, 95, 96, 97, 98, 99, 100, 101, 102, 103, 104, 105, 106, 107, 27, 108, 109, 110, 111, 112, 113, 114, 115, 116, 29, 117, 118, 119, 31, 30, 120, 121, 122, 123, 124, 125, 126, 127, 128, 129, 130, 131, 138, 139, 140, 141, 142, 143, 144, 145, 146, 147, 148, 149, 150, 151, 152, 153, 154, 155, 156, 157, 158, 159, 160, 161, 162, 163, 164, 165, 166, 167] rfl (by decide +kernel)
set_option maxRecDepth 20000 in
theorem gu_X5_tryBlock_0_X5_tryBlock_1_67 : GoodIn uX5_tryBlock_0 (wsV RX5 67 RX5 yX5_tryBlock uX5_tryBlock_1) := goodIn_r _ [15, 16, 17, 12, 0, 1, 2, 3, 4, 5, 6, 7, 8, 9, 10, 11, 12, 13, 14, 15, 16, 17, 18, 19, 20, 21, 22, 23, 24, 25, 26, 27, 28, 29, 30, 31, 32, 33, 34, 35, 36, 37, 38, 39, 40, 41, 42, 43, 44, 45, 46, 47, 48, 49, 50, 51, 52, 53, 54, 55, 56, 57, 58, 59, 60, 61, 62, 63, 64, 65, 66, 67, 68, 69, 70, 71, 72, 73, 74, 75, 76, 77, 78, 79, 80, 81, 82, 83, 84, 85, 86, 87, 88, 89, 90, 91, 92, 93, 94, 95, 96, 97, 98, 99, 100, 101, 102, 103, 104, 105, 106, 107, 108, 109, 110, 111, 112, 113, 114, 115, 116, 117, 118, 119, 120, 121, 122, 123, 124, 125, 126, 127, 128, 129, 130, 131, 132, 133, 134, 135, 136, 137, 138, 139, 140, 141, 142, 143, 144, 145, 146, 147, 148, 149, 150, 151, 152, 153, 154, 155, 156, 157, 158, 159, 160, 161, 162, 163, 164, 165, 166, 167] rfl (by decide +kernel)
set_option maxHeartbeats 4000000 in
set_option maxRecDepth 100000 in
theorem s_X5_tryBlock_0 (l : Launch) (D : va_G) (t : Nat → Nat) (cI cL cC : ClassId) (gC : Int32) (gE : Int32) (G : Nat) (gW : Nat → Int32) (gA : Nat → Int32) (a0 : Nat) (a1 : Nat) (a2 : Nat) (a3 : Nat) (a4 : Nat) (a6 : Int64) (hGb : G ≤ 150000000) (k_a0 : t a0 = 9) (k_a1 : t a1 = 3) (k_a2 : t a2 = 4) (k_a3 : t a3 = 6) (k_a4 : t a4 = 5) : tM l yX5_tryBlock uX5_tryBlock_0 8 222 D (gF cI cL cC gC gE G gW gA) (gF cI cL cC gC gE (G + 9324) gW gA) t cI cL cC [.ref a0, .ref a1, .ref a2, .ref a3, .ref a4, .int 0, .long a6] wrS (pV (True)) := by
  refine tM.ofW (cc := cX5_tryBlock) (maxL := 12) (ret := none) (by decide) rfl (Nat.le_of_ble_eq_true rfl) ?_
  intro p e s m below meth c hx hb hr hml hown hts hlk H locs hG hK hE hS ls hl
  have hl : lv_has ls 12 [(0, .ref a0), (1, .ref a1), (2, .ref a2), (3, .ref a3), (4, .ref a4), (5, .int 0), (6, .long a6)] := hl
  have in5 : ∀ w ∈ wsX50, w ∈ uX5_tryBlock_0 := fun w h => List.mem_cons_of_mem _ (List.mem_append_left _ (List.mem_append_left _ (List.mem_append_left _ (List.mem_append_left _ (List.mem_append_right _ h)))))
  refine lv_iload hx hb dX5_tryBlock_0 (lv_at hl 5 rfl) ?_
  refine lv_iconst (v := 0) hx hb dX5_tryBlock_2 (by decide) ?_
  refine lv_iconst (v := 3) hx hb dX5_tryBlock_3 (by decide) ?_
  refine ty_calli (tRun (va_runSN (As := [.int 0, .int 0, .int 3]) (rest := []) ⟨hx, hb, hml, hown, hts⟩ (s_X9_isOutside l D t cI cL cC gC gE G gW gA 0 0 3 0 3 (by decide) (by decide) ) ⟨(va_cnB 3 hts gu_X5_tryBlock_0_X9_isOutside_n rfl rfl rfl (hE.2.1 _ (List.mem_of_getElem? (i := 23) rfl)) (hts (.initialized RX9) (List.mem_of_getElem? (i := 1) rfl)) (by decide +kernel) ⟨Nat.le_of_ble_eq_true rfl, Nat.le_of_ble_eq_true rfl⟩), (hts (.static yX9_isOutside) (List.mem_of_getElem? (i := 2) rfl)), trivial⟩ (tP_S hG hE) rfl rfl hl.1 rfl (lv_room (Nat.le_of_ble_eq_true rfl)) dX5_tryBlock_4 ⟨Nat.le_of_ble_eq_true rfl, Nat.le_of_ble_eq_true rfl⟩)) hS (fun k h => by simp [wr0] at h) (fun r_1 H locs hp_2 hG hS o_3 => ?_)
  rcases hp_2 with ⟨rfl, hc_118⟩ | ⟨rfl, hc_119, hc_120⟩
  · skip
    refine lv_if_eq (tgt := 11) hx hb dX5_tryBlock_7 (by decide) (fun q => absurd q (by decide)) (fun _ => ?_)
    exact ty_vret hx hb hr hlk (hG.weak (fun _ _ => gF_mono (by omega))) hS True.intro dX5_tryBlock_10
  · skip
    refine lv_if_eq (tgt := 11) hx hb dX5_tryBlock_7 (by decide) (fun _ => ?_) (fun q => absurd (by decide) q)
    refine lv_pc (pc2 := 11) rfl ?_
    refine lv_aload_n hx hb dX5_tryBlock_11 rfl (lv_at hl 0 rfl) ?_
    obtain ⟨r_4, r_6, r_8, v_10, v_11, v_12, v_14, v_16, v_17, v_19, at_20, h_5, h_7, h_9, h_13, h_15, h_18⟩ := gF_o9 hG k_a0
    refine va_get (D := D) (ci := 4) (v := .ref r_4) (C := RX5) (T := TX5) (N := 10) hx hb hts in5 hown hK (va_one at_20) 0 rfl rfl 0 (by decide) (hts (.fieldLink RX5 11 "RiverModel$Search" "blockEnds" "[LRiverModel$Course;") (List.mem_of_getElem? (i := 3) rfl)) (fun _ h9 => h9) rfl dX5_tryBlock_12 ?_
    refine lv_iload hx hb dX5_tryBlock_15 (lv_at hl 5 rfl) ?_
    obtain ⟨f_21, at_22, h_23⟩ := gF_o32 hG h_5
    have b_24 : vp_in 0 4 := (q_in (by decide) (by decide))
    refine va_aldq hx hb hK (va_one at_22) 0 2 rfl rfl b_24 dX5_tryBlock_17 ?_
    obtain ⟨r_25, e_26, h_27⟩ := h_23 _ (q_inlt b_24)
    rw [e_26]
    show W p l _ _ s m _ below meth c _ _ _ _ _ (F0 m _ ls (.ref r_25 :: _))
    refine lv_astore (lv' := [(8, .ref r_25), (0, .ref a0), (1, .ref a1), (2, .ref a2), (3, .ref a3), (4, .ref a4), (5, .int 0), (6, .long a6)]) hx hb dX5_tryBlock_18 hl (by decide) rfl (fun ls hl => ?_)
    refine lv_iconst (v := 0) hx hb dX5_tryBlock_20 (by decide) ?_
    refine lv_istore (lv' := [(9, .int 0), (8, .ref r_25), (0, .ref a0), (1, .ref a1), (2, .ref a2), (3, .ref a3), (4, .ref a4), (5, .int 0), (6, .long a6)]) hx hb dX5_tryBlock_21 hl (by decide) rfl (fun ls hl => ?_)
    refine lv_pc (pc2 := 23) rfl ?_
    refine lp_gen (fun WW hWW => ?_)
    have kx : ∀ (yo : Int32) (g : Nat) (H1 : Heap) (locs1 : List Loc) (ls1 : Array Slot), 0 ≤ yo.toInt → yo.toInt ≤ 12 → 2 * (g : Int) + 1554 * (12 - yo.toInt) ≤ 2 * (G : Int) + 18648 → tG D (gF cI cL cC gC gE g gW gA) t H1 → tF t wrS s.heap H1 locs1 → lv_has ls1 12 [(9, .int yo), (8, .ref r_25), (0, .ref a0), (1, .ref a1), (2, .ref a2), (3, .ref a3), (4, .ref a4), (5, .int 0), (6, .long a6)] → WW H1 locs1 (F0 m 126 ls1 []) := by
      intro yo g H locs ls v0 v1 v2 hG hS hl
      refine (hWW _ _ _).mpr ?_
      exact ty_vret hx hb hr hlk (hG.weak (fun _ _ => gF_mono (by omega))) hS True.intro dX5_tryBlock_126
    have loop : ∀ (k : Nat) (yo : Int32) (g : Nat) (H1 : Heap) (locs1 : List Loc) (ls1 : Array Slot), 12 - yo.toInt ≤ (k : Int) → 0 ≤ yo.toInt → yo.toInt ≤ 12 → 2 * (g : Int) + 1554 * (12 - yo.toInt) ≤ 2 * (G : Int) + 18648 → tG D (gF cI cL cC gC gE g gW gA) t H1 → tF t wrS s.heap H1 locs1 → lv_has ls1 12 [(9, .int yo), (8, .ref r_25), (0, .ref a0), (1, .ref a1), (2, .ref a2), (3, .ref a3), (4, .ref a4), (5, .int 0), (6, .long a6)] → WW H1 locs1 (F0 m 23 ls1 []) := by
      intro k
      induction k with
      | zero =>
        intro yo g H locs ls hk v0 v1 v2 hG hS hl
        refine (hWW _ _ _).mpr ?_
        refine lv_pc (pc2 := 23) rfl ?_
        refine lv_iload hx hb dX5_tryBlock_23 (lv_at hl 0 rfl) ?_
        refine lv_bipush (v := 10) hx hb dX5_tryBlock_25 (by decide) ?_
        refine lv_icmp_gt (tgt := 126) hx hb dX5_tryBlock_27 (by decide) (fun c_28 => ?_) (fun c_28 => ?_)
        · skip
          have c_28 : 10 < yo.toInt := q_lt c_28
          exact (hWW _ _ _).mp (kx yo g H locs ls (by omega) (by omega) (by omega) hG hS (lv_sub hl [0, 1, 2, 3, 4, 5, 6, 7, 8] rfl))
        · skip
          have c_28 : yo.toInt ≤ 10 := q_nlt c_28
          refine lv_aload_n hx hb dX5_tryBlock_30 rfl (lv_at hl 2 rfl) ?_
          obtain ⟨r_29, r_31, r_33, v_35, v_36, v_37, v_39, v_41, v_42, v_44, at_45, h_30, h_32, h_34, h_38, h_40, h_43⟩ := gF_o9 hG k_a0
          refine va_get (D := D) (ci := 4) (v := .ref r_31) (C := RX5) (T := TX5) (N := 10) hx hb hts in5 hown hK (va_one at_45) 0 rfl rfl 1 (by decide) (hts (.fieldLink RX5 17 "RiverModel$Search" "tried" "[I") (List.mem_of_getElem? (i := 4) rfl)) (fun _ h9 => h9) rfl dX5_tryBlock_31 ?_
          refine lv_iload hx hb dX5_tryBlock_34 (lv_at hl 7 rfl) ?_
          refine lv_iload hx hb dX5_tryBlock_36 (lv_at hl 0 rfl) ?_
          obtain ⟨f_46, at_47⟩ := gF_o33 hG h_32
          have b_48 : vp_in 0 4 := (q_in (by decide) (by decide))
          refine ty_iast (F2 := (gF cI cL cC gC gE g gW gA)) hx hb hK hG hS 0 at_47 (by rw [h_32]; rfl) rfl b_48 (by rw [h_32]; exact ⟨_, rfl⟩) tFF dX5_tryBlock_38 (fun H locs hG hS at_49 o_50 => ?_)
          have at_45 := va_at.keptK at_45 o_50 h_32 k_a0 rfl
          refine lv_pc (pc2 := 39) rfl ?_
          refine lv_aload hx hb dX5_tryBlock_39 (lv_at hl 1 rfl) ?_
          refine lv_aload hx hb dX5_tryBlock_41 (lv_at hl 6 rfl) ?_
          obtain ⟨r_51, r_53, r_55, r_57, v_59, v_60, v_61, v_62, at_64, h_52, h_54, h_56, h_58, h_63⟩ := gF_o5 hG h_27
          refine ty_callv ((W.runV (As := [.ref a4]) (rest := []) ⟨hx, hb, hml, hown, hts⟩ (s_X0_copyFrom l D t cI cL cC gC gE g gW gA r_25 a4 h_27 k_a4) (cwV 1 hts gu_X5_tryBlock_0_X0_copyFrom_53 rfl rfl rfl (by decide +kernel) ⟨Nat.le_of_ble_eq_true rfl, Nat.le_of_ble_eq_true rfl⟩) (tP_V hG hE at_64 rfl) rfl rfl hl.1 rfl (lv_room (Nat.le_of_ble_eq_true rfl)) dX5_tryBlock_43 ⟨Nat.le_of_ble_eq_true rfl, Nat.le_of_ble_eq_true rfl⟩)) hS (wrL_sub (by decide)) (fun H locs hp_66 hG hS o_67 => ?_)
          have at_45 := va_at.keptC at_45 o_67 k_a0 rfl
          refine lv_aload_n hx hb dX5_tryBlock_46 rfl (lv_at hl 2 rfl) ?_
          refine lv_aload_n hx hb dX5_tryBlock_47 rfl (lv_at hl 3 rfl) ?_
          refine lv_aload_n hx hb dX5_tryBlock_48 rfl (lv_at hl 4 rfl) ?_
          refine lv_aload_n hx hb dX5_tryBlock_49 rfl (lv_at hl 5 rfl) ?_
          refine lv_aload hx hb dX5_tryBlock_50 (lv_at hl 1 rfl) ?_
          refine lv_pc (pc2 := 52) rfl ?_
          refine lv_iload hx hb dX5_tryBlock_52 (lv_at hl 0 rfl) ?_
          refine lv_lload hx hb dX5_tryBlock_54 (lv_at hl 8 rfl) ?_
          refine ty_calll ((W.runV (As := [.ref a1, .ref a2, .ref a3, .ref r_25, .int yo, .long a6]) (rest := []) ⟨hx, hb, hml, hown, hts⟩ (s_X5_peakOfBlock l D t cI cL cC gC gE g gW gA a0 a1 a2 a3 r_25 yo a6 (by omega) k_a0 k_a1 k_a2 k_a3 h_27) (cwV 6 hts gu_X5_tryBlock_0_X5_peakOfBlock_57 rfl rfl rfl (by decide +kernel) ⟨Nat.le_of_ble_eq_true rfl, Nat.le_of_ble_eq_true rfl⟩) (tP_V hG hE at_45 rfl) rfl rfl hl.1 rfl (lv_room (Nat.le_of_ble_eq_true rfl)) dX5_tryBlock_56 ⟨Nat.le_of_ble_eq_true rfl, Nat.le_of_ble_eq_true rfl⟩)) hS (wrL_sub (by decide)) (fun z_68 H locs hp_69 hG hS o_70 => ?_)
          have at_45 := va_at.keptC at_45 o_70 k_a0 rfl
          refine lv_lstore (lv' := [(10, .long z_68), (9, .int yo), (8, .ref r_25), (0, .ref a0), (1, .ref a1), (2, .ref a2), (3, .ref a3), (4, .ref a4), (5, .int 0), (6, .long a6)]) hx hb dX5_tryBlock_59 hl (by decide) rfl (fun ls hl => ?_)
          refine lv_lload hx hb dX5_tryBlock_61 (lv_at hl 0 rfl) ?_
          refine lv_ldc2 hx hb hown (hts (.constantLong RX5 61 (-1)) (List.mem_of_getElem? (i := 13) rfl)) dX5_tryBlock_63 ?_
          refine W.lcmp hx hb dX5_tryBlock_66 ?_
          refine lv_if_eq (tgt := 120) hx hb dX5_tryBlock_67 (by decide) (fun c_71 => ?_) (fun c_71 => ?_)
          · skip
            have c_71 : z_68.toInt = (-1) := q_cmp_eq c_71
            refine lv_pc (pc2 := 120) rfl ?_
            obtain ⟨x_72, e_73⟩ : ∃ y : Int32, y = yo + Int32.ofInt 2 := ⟨_, rfl⟩
            have i_x_72 : x_72.toInt = yo.toInt + 2 := by rw [e_73, show Int32.ofInt 2 = 2 by decide]; exact (q_add (by rw [show (2 : Int32).toInt = 2 by decide]; omega) (by rw [show (2 : Int32).toInt = 2 by decide]; omega)).trans (by rw [show (2 : Int32).toInt = 2 by decide])
            refine lv_iinc (v := x_72) (lv' := [(9, .int x_72), (10, .long z_68), (8, .ref r_25), (0, .ref a0), (1, .ref a1), (2, .ref a2), (3, .ref a3), (4, .ref a4), (5, .int 0), (6, .long a6)]) hx hb dX5_tryBlock_120 hl (k := 1) rfl e_73.symm (by decide) rfl (fun ls hl => ?_)
            refine lv_goto (tgt := 23) hx hb dX5_tryBlock_123 (by decide) ?_
            exfalso; omega
          · skip
            have c_71 : z_68.toInt ≠ (-1) := q_cmp_ne c_71
            refine lv_aload_n hx hb dX5_tryBlock_70 rfl (lv_at hl 3 rfl) ?_
            refine va_get (D := D) (ci := 4) (v := .int v_35) (C := RX5) (T := TX5) (N := 10) hx hb hts in5 hown hK (va_one at_45) 0 rfl rfl 3 (by decide) (hts (.fieldLink RX5 24 "RiverModel$Search" "isFound" "Z") (List.mem_of_getElem? (i := 14) rfl)) (fun _ h9 => h9) rfl dX5_tryBlock_71 ?_
            refine lv_if_eq (tgt := 90) hx hb dX5_tryBlock_74 (by decide) (fun c_74 => ?_) (fun c_74 => ?_)
            · skip
              have c_74 : v_35.toInt = 0 := q_eq c_74
              refine lv_iload hx hb dX5_tryBlock_90 (lv_at hl 8 rfl) ?_
              refine lv_iconst (v := 3) hx hb dX5_tryBlock_92 (by decide) ?_
              refine lv_icmp_ne (tgt := 105) hx hb dX5_tryBlock_93 (by decide) (fun _ => ?_) (fun q => absurd q (by decide))
              refine lv_pc (pc2 := 105) rfl ?_
              refine lv_aload_n hx hb dX5_tryBlock_105 rfl (lv_at hl 3 rfl) ?_
              refine lv_aload_n hx hb dX5_tryBlock_106 rfl (lv_at hl 4 rfl) ?_
              refine lv_aload_n hx hb dX5_tryBlock_107 rfl (lv_at hl 5 rfl) ?_
              refine lv_aload_n hx hb dX5_tryBlock_108 rfl (lv_at hl 6 rfl) ?_
              refine lv_aload hx hb dX5_tryBlock_109 (lv_at hl 2 rfl) ?_
              refine lv_iload hx hb dX5_tryBlock_111 (lv_at hl 8 rfl) ?_
              refine lv_iconst (v := 1) hx hb dX5_tryBlock_113 (by decide) ?_
              refine lv_iadd hx hb dX5_tryBlock_114 ?_
              refine lv_seti (y := 1) (by decide) ?_
              refine lv_pc (pc2 := 115) rfl ?_
              refine lv_lload hx hb dX5_tryBlock_115 (lv_at hl 0 rfl) ?_
              refine ty_callv ((W.runV (As := [.ref a1, .ref a2, .ref a3, .ref r_25, .int 1, .long z_68]) (rest := []) ⟨hx, hb, hml, hown, hts⟩ (s_X5_tryBlock_1 l D t cI cL cC gC gE (g + 6) gW gA a0 a1 a2 a3 r_25 z_68 (by omega) k_a0 k_a1 k_a2 k_a3 h_27) (cwV 6 hts gu_X5_tryBlock_0_X5_tryBlock_1_67 rfl rfl rfl (by decide +kernel) ⟨Nat.le_of_ble_eq_true rfl, Nat.le_of_ble_eq_true rfl⟩) (tP_V hG hE at_45 rfl) rfl rfl hl.1 rfl (lv_room (Nat.le_of_ble_eq_true rfl)) dX5_tryBlock_117 ⟨Nat.le_of_ble_eq_true rfl, Nat.le_of_ble_eq_true rfl⟩)) hS (fun _ h => h) (fun H locs hp_76 hG hS o_77 => ?_)
              obtain ⟨x_78, e_79⟩ : ∃ y : Int32, y = yo + Int32.ofInt 2 := ⟨_, rfl⟩
              have i_x_78 : x_78.toInt = yo.toInt + 2 := by rw [e_79, show Int32.ofInt 2 = 2 by decide]; exact (q_add (by rw [show (2 : Int32).toInt = 2 by decide]; omega) (by rw [show (2 : Int32).toInt = 2 by decide]; omega)).trans (by rw [show (2 : Int32).toInt = 2 by decide])
              refine lv_iinc (v := x_78) (lv' := [(9, .int x_78), (10, .long z_68), (8, .ref r_25), (0, .ref a0), (1, .ref a1), (2, .ref a2), (3, .ref a3), (4, .ref a4), (5, .int 0), (6, .long a6)]) hx hb dX5_tryBlock_120 hl (k := 1) rfl e_79.symm (by decide) rfl (fun ls hl => ?_)
              refine lv_goto (tgt := 23) hx hb dX5_tryBlock_123 (by decide) ?_
              exfalso; omega
            · skip
              have c_74 : v_35.toInt ≠ 0 := q_ne c_74
              refine lv_lload hx hb dX5_tryBlock_77 (lv_at hl 0 rfl) ?_
              refine lv_aload_n hx hb dX5_tryBlock_79 rfl (lv_at hl 3 rfl) ?_
              refine va_get (D := D) (ci := 4) (v := .long v_36) (C := RX5) (T := TX5) (N := 10) hx hb hts in5 hown hK (va_one at_45) 0 rfl rfl 4 (by decide) (hts (.fieldLink RX5 28 "RiverModel$Search" "leastPeak" "J") (List.mem_of_getElem? (i := 18) rfl)) (fun _ h9 => h9) rfl dX5_tryBlock_80 ?_
              refine W.lcmp hx hb dX5_tryBlock_83 ?_
              refine lv_pc (pc2 := 84) rfl ?_
              refine lv_if_lt (tgt := 90) hx hb dX5_tryBlock_84 (by decide) (fun c_80 => ?_) (fun c_80 => ?_)
              · skip
                have c_80 : z_68.toInt < v_36.toInt := q_cmp_lt c_80
                refine lv_iload hx hb dX5_tryBlock_90 (lv_at hl 8 rfl) ?_
                refine lv_iconst (v := 3) hx hb dX5_tryBlock_92 (by decide) ?_
                refine lv_icmp_ne (tgt := 105) hx hb dX5_tryBlock_93 (by decide) (fun _ => ?_) (fun q => absurd q (by decide))
                refine lv_aload_n hx hb dX5_tryBlock_105 rfl (lv_at hl 3 rfl) ?_
                refine lv_aload_n hx hb dX5_tryBlock_106 rfl (lv_at hl 4 rfl) ?_
                refine lv_aload_n hx hb dX5_tryBlock_107 rfl (lv_at hl 5 rfl) ?_
                refine lv_aload_n hx hb dX5_tryBlock_108 rfl (lv_at hl 6 rfl) ?_
                refine lv_pc (pc2 := 109) rfl ?_
                refine lv_aload hx hb dX5_tryBlock_109 (lv_at hl 2 rfl) ?_
                refine lv_iload hx hb dX5_tryBlock_111 (lv_at hl 8 rfl) ?_
                refine lv_iconst (v := 1) hx hb dX5_tryBlock_113 (by decide) ?_
                refine lv_iadd hx hb dX5_tryBlock_114 ?_
                refine lv_seti (y := 1) (by decide) ?_
                refine lv_lload hx hb dX5_tryBlock_115 (lv_at hl 0 rfl) ?_
                refine ty_callv ((W.runV (As := [.ref a1, .ref a2, .ref a3, .ref r_25, .int 1, .long z_68]) (rest := []) ⟨hx, hb, hml, hown, hts⟩ (s_X5_tryBlock_1 l D t cI cL cC gC gE (g + 6) gW gA a0 a1 a2 a3 r_25 z_68 (by omega) k_a0 k_a1 k_a2 k_a3 h_27) (cwV 6 hts gu_X5_tryBlock_0_X5_tryBlock_1_67 rfl rfl rfl (by decide +kernel) ⟨Nat.le_of_ble_eq_true rfl, Nat.le_of_ble_eq_true rfl⟩) (tP_V hG hE at_45 rfl) rfl rfl hl.1 rfl (lv_room (Nat.le_of_ble_eq_true rfl)) dX5_tryBlock_117 ⟨Nat.le_of_ble_eq_true rfl, Nat.le_of_ble_eq_true rfl⟩)) hS (fun _ h => h) (fun H locs hp_82 hG hS o_83 => ?_)
                obtain ⟨x_84, e_85⟩ : ∃ y : Int32, y = yo + Int32.ofInt 2 := ⟨_, rfl⟩
                have i_x_84 : x_84.toInt = yo.toInt + 2 := by rw [e_85, show Int32.ofInt 2 = 2 by decide]; exact (q_add (by rw [show (2 : Int32).toInt = 2 by decide]; omega) (by rw [show (2 : Int32).toInt = 2 by decide]; omega)).trans (by rw [show (2 : Int32).toInt = 2 by decide])
                refine lv_iinc (v := x_84) (lv' := [(9, .int x_84), (10, .long z_68), (8, .ref r_25), (0, .ref a0), (1, .ref a1), (2, .ref a2), (3, .ref a3), (4, .ref a4), (5, .int 0), (6, .long a6)]) hx hb dX5_tryBlock_120 hl (k := 1) rfl e_85.symm (by decide) rfl (fun ls hl => ?_)
                refine lv_goto (tgt := 23) hx hb dX5_tryBlock_123 (by decide) ?_
                exfalso; omega
              · skip
                have c_80 : v_36.toInt ≤ z_68.toInt := q_cmp_nlt c_80
                refine lv_pc (pc2 := 87) rfl ?_
                refine lv_goto (tgt := 120) hx hb dX5_tryBlock_87 (by decide) ?_
                obtain ⟨x_86, e_87⟩ : ∃ y : Int32, y = yo + Int32.ofInt 2 := ⟨_, rfl⟩
                have i_x_86 : x_86.toInt = yo.toInt + 2 := by rw [e_87, show Int32.ofInt 2 = 2 by decide]; exact (q_add (by rw [show (2 : Int32).toInt = 2 by decide]; omega) (by rw [show (2 : Int32).toInt = 2 by decide]; omega)).trans (by rw [show (2 : Int32).toInt = 2 by decide])
                refine lv_iinc (v := x_86) (lv' := [(9, .int x_86), (10, .long z_68), (8, .ref r_25), (0, .ref a0), (1, .ref a1), (2, .ref a2), (3, .ref a3), (4, .ref a4), (5, .int 0), (6, .long a6)]) hx hb dX5_tryBlock_120 hl (k := 1) rfl e_87.symm (by decide) rfl (fun ls hl => ?_)
                refine lv_goto (tgt := 23) hx hb dX5_tryBlock_123 (by decide) ?_
                exfalso; omega
      | succ k ih =>
        intro yo g H locs ls hk v0 v1 v2 hG hS hl
        refine (hWW _ _ _).mpr ?_
        refine lv_iload hx hb dX5_tryBlock_23 (lv_at hl 0 rfl) ?_
        refine lv_bipush (v := 10) hx hb dX5_tryBlock_25 (by decide) ?_
        refine lv_icmp_gt (tgt := 126) hx hb dX5_tryBlock_27 (by decide) (fun c_88 => ?_) (fun c_88 => ?_)
        · skip
          have c_88 : 10 < yo.toInt := q_lt c_88
          exact (hWW _ _ _).mp (kx yo g H locs ls (by omega) (by omega) (by omega) hG hS (lv_sub hl [0, 1, 2, 3, 4, 5, 6, 7, 8] rfl))
        · skip
          have c_88 : yo.toInt ≤ 10 := q_nlt c_88
          refine lv_aload_n hx hb dX5_tryBlock_30 rfl (lv_at hl 2 rfl) ?_
          obtain ⟨r_89, r_91, r_93, v_95, v_96, v_97, v_99, v_101, v_102, v_104, at_105, h_90, h_92, h_94, h_98, h_100, h_103⟩ := gF_o9 hG k_a0
          refine va_get (D := D) (ci := 4) (v := .ref r_91) (C := RX5) (T := TX5) (N := 10) hx hb hts in5 hown hK (va_one at_105) 0 rfl rfl 1 (by decide) (hts (.fieldLink RX5 17 "RiverModel$Search" "tried" "[I") (List.mem_of_getElem? (i := 4) rfl)) (fun _ h9 => h9) rfl dX5_tryBlock_31 ?_
          refine lv_pc (pc2 := 34) rfl ?_
          refine lv_iload hx hb dX5_tryBlock_34 (lv_at hl 7 rfl) ?_
          refine lv_iload hx hb dX5_tryBlock_36 (lv_at hl 0 rfl) ?_
          obtain ⟨f_106, at_107⟩ := gF_o33 hG h_92
          have b_108 : vp_in 0 4 := (q_in (by decide) (by decide))
          refine ty_iast (F2 := (gF cI cL cC gC gE g gW gA)) hx hb hK hG hS 0 at_107 (by rw [h_92]; rfl) rfl b_108 (by rw [h_92]; exact ⟨_, rfl⟩) tFF dX5_tryBlock_38 (fun H locs hG hS at_109 o_110 => ?_)
          have at_105 := va_at.keptK at_105 o_110 h_92 k_a0 rfl
          refine lv_aload hx hb dX5_tryBlock_39 (lv_at hl 1 rfl) ?_
          refine lv_aload hx hb dX5_tryBlock_41 (lv_at hl 6 rfl) ?_
          obtain ⟨r_111, r_113, r_115, r_117, v_119, v_120, v_121, v_122, at_124, h_112, h_114, h_116, h_118, h_123⟩ := gF_o5 hG h_27
          refine ty_callv ((W.runV (As := [.ref a4]) (rest := []) ⟨hx, hb, hml, hown, hts⟩ (s_X0_copyFrom l D t cI cL cC gC gE g gW gA r_25 a4 h_27 k_a4) (cwV 1 hts gu_X5_tryBlock_0_X0_copyFrom_53 rfl rfl rfl (by decide +kernel) ⟨Nat.le_of_ble_eq_true rfl, Nat.le_of_ble_eq_true rfl⟩) (tP_V hG hE at_124 rfl) rfl rfl hl.1 rfl (lv_room (Nat.le_of_ble_eq_true rfl)) dX5_tryBlock_43 ⟨Nat.le_of_ble_eq_true rfl, Nat.le_of_ble_eq_true rfl⟩)) hS (wrL_sub (by decide)) (fun H locs hp_126 hG hS o_127 => ?_)
          have at_105 := va_at.keptC at_105 o_127 k_a0 rfl
          refine lv_aload_n hx hb dX5_tryBlock_46 rfl (lv_at hl 2 rfl) ?_
          refine lv_aload_n hx hb dX5_tryBlock_47 rfl (lv_at hl 3 rfl) ?_
          refine lv_pc (pc2 := 48) rfl ?_
          refine lv_aload_n hx hb dX5_tryBlock_48 rfl (lv_at hl 4 rfl) ?_
          refine lv_aload_n hx hb dX5_tryBlock_49 rfl (lv_at hl 5 rfl) ?_
          refine lv_aload hx hb dX5_tryBlock_50 (lv_at hl 1 rfl) ?_
          refine lv_iload hx hb dX5_tryBlock_52 (lv_at hl 0 rfl) ?_
          refine lv_lload hx hb dX5_tryBlock_54 (lv_at hl 8 rfl) ?_
          refine ty_calll ((W.runV (As := [.ref a1, .ref a2, .ref a3, .ref r_25, .int yo, .long a6]) (rest := []) ⟨hx, hb, hml, hown, hts⟩ (s_X5_peakOfBlock l D t cI cL cC gC gE g gW gA a0 a1 a2 a3 r_25 yo a6 (by omega) k_a0 k_a1 k_a2 k_a3 h_27) (cwV 6 hts gu_X5_tryBlock_0_X5_peakOfBlock_57 rfl rfl rfl (by decide +kernel) ⟨Nat.le_of_ble_eq_true rfl, Nat.le_of_ble_eq_true rfl⟩) (tP_V hG hE at_105 rfl) rfl rfl hl.1 rfl (lv_room (Nat.le_of_ble_eq_true rfl)) dX5_tryBlock_56 ⟨Nat.le_of_ble_eq_true rfl, Nat.le_of_ble_eq_true rfl⟩)) hS (wrL_sub (by decide)) (fun z_128 H locs hp_129 hG hS o_130 => ?_)
          have at_105 := va_at.keptC at_105 o_130 k_a0 rfl
          refine lv_lstore (lv' := [(10, .long z_128), (9, .int yo), (8, .ref r_25), (0, .ref a0), (1, .ref a1), (2, .ref a2), (3, .ref a3), (4, .ref a4), (5, .int 0), (6, .long a6)]) hx hb dX5_tryBlock_59 hl (by decide) rfl (fun ls hl => ?_)
          refine lv_lload hx hb dX5_tryBlock_61 (lv_at hl 0 rfl) ?_
          refine lv_pc (pc2 := 63) rfl ?_
          refine lv_ldc2 hx hb hown (hts (.constantLong RX5 61 (-1)) (List.mem_of_getElem? (i := 13) rfl)) dX5_tryBlock_63 ?_
          refine W.lcmp hx hb dX5_tryBlock_66 ?_
          refine lv_if_eq (tgt := 120) hx hb dX5_tryBlock_67 (by decide) (fun c_131 => ?_) (fun c_131 => ?_)
          · skip
            have c_131 : z_128.toInt = (-1) := q_cmp_eq c_131
            obtain ⟨x_132, e_133⟩ : ∃ y : Int32, y = yo + Int32.ofInt 2 := ⟨_, rfl⟩
            have i_x_132 : x_132.toInt = yo.toInt + 2 := by rw [e_133, show Int32.ofInt 2 = 2 by decide]; exact (q_add (by rw [show (2 : Int32).toInt = 2 by decide]; omega) (by rw [show (2 : Int32).toInt = 2 by decide]; omega)).trans (by rw [show (2 : Int32).toInt = 2 by decide])
            refine lv_iinc (v := x_132) (lv' := [(9, .int x_132), (10, .long z_128), (8, .ref r_25), (0, .ref a0), (1, .ref a1), (2, .ref a2), (3, .ref a3), (4, .ref a4), (5, .int 0), (6, .long a6)]) hx hb dX5_tryBlock_120 hl (k := 1) rfl e_133.symm (by decide) rfl (fun ls hl => ?_)
            refine lv_goto (tgt := 23) hx hb dX5_tryBlock_123 (by decide) ?_
            exact (hWW _ _ _).mp (ih x_132 (g + 6) H locs ls (by omega) (by omega) (by omega) (by omega) hG hS (lv_sub hl [0, 2, 3, 4, 5, 6, 7, 8, 9] rfl))
          · skip
            have c_131 : z_128.toInt ≠ (-1) := q_cmp_ne c_131
            refine lv_aload_n hx hb dX5_tryBlock_70 rfl (lv_at hl 3 rfl) ?_
            refine va_get (D := D) (ci := 4) (v := .int v_95) (C := RX5) (T := TX5) (N := 10) hx hb hts in5 hown hK (va_one at_105) 0 rfl rfl 3 (by decide) (hts (.fieldLink RX5 24 "RiverModel$Search" "isFound" "Z") (List.mem_of_getElem? (i := 14) rfl)) (fun _ h9 => h9) rfl dX5_tryBlock_71 ?_
            refine lv_if_eq (tgt := 90) hx hb dX5_tryBlock_74 (by decide) (fun c_134 => ?_) (fun c_134 => ?_)
            · skip
              have c_134 : v_95.toInt = 0 := q_eq c_134
              refine lv_pc (pc2 := 90) rfl ?_
              refine lv_iload hx hb dX5_tryBlock_90 (lv_at hl 8 rfl) ?_
              refine lv_iconst (v := 3) hx hb dX5_tryBlock_92 (by decide) ?_
              refine lv_icmp_ne (tgt := 105) hx hb dX5_tryBlock_93 (by decide) (fun _ => ?_) (fun q => absurd q (by decide))
              refine lv_aload_n hx hb dX5_tryBlock_105 rfl (lv_at hl 3 rfl) ?_
              refine lv_aload_n hx hb dX5_tryBlock_106 rfl (lv_at hl 4 rfl) ?_
              refine lv_aload_n hx hb dX5_tryBlock_107 rfl (lv_at hl 5 rfl) ?_
              refine lv_aload_n hx hb dX5_tryBlock_108 rfl (lv_at hl 6 rfl) ?_
              refine lv_aload hx hb dX5_tryBlock_109 (lv_at hl 2 rfl) ?_
              refine lv_pc (pc2 := 111) rfl ?_
              refine lv_iload hx hb dX5_tryBlock_111 (lv_at hl 8 rfl) ?_
              refine lv_iconst (v := 1) hx hb dX5_tryBlock_113 (by decide) ?_
              refine lv_iadd hx hb dX5_tryBlock_114 ?_
              refine lv_seti (y := 1) (by decide) ?_
              refine lv_lload hx hb dX5_tryBlock_115 (lv_at hl 0 rfl) ?_
              refine ty_callv ((W.runV (As := [.ref a1, .ref a2, .ref a3, .ref r_25, .int 1, .long z_128]) (rest := []) ⟨hx, hb, hml, hown, hts⟩ (s_X5_tryBlock_1 l D t cI cL cC gC gE (g + 6) gW gA a0 a1 a2 a3 r_25 z_128 (by omega) k_a0 k_a1 k_a2 k_a3 h_27) (cwV 6 hts gu_X5_tryBlock_0_X5_tryBlock_1_67 rfl rfl rfl (by decide +kernel) ⟨Nat.le_of_ble_eq_true rfl, Nat.le_of_ble_eq_true rfl⟩) (tP_V hG hE at_105 rfl) rfl rfl hl.1 rfl (lv_room (Nat.le_of_ble_eq_true rfl)) dX5_tryBlock_117 ⟨Nat.le_of_ble_eq_true rfl, Nat.le_of_ble_eq_true rfl⟩)) hS (fun _ h => h) (fun H locs hp_136 hG hS o_137 => ?_)
              obtain ⟨x_138, e_139⟩ : ∃ y : Int32, y = yo + Int32.ofInt 2 := ⟨_, rfl⟩
              have i_x_138 : x_138.toInt = yo.toInt + 2 := by rw [e_139, show Int32.ofInt 2 = 2 by decide]; exact (q_add (by rw [show (2 : Int32).toInt = 2 by decide]; omega) (by rw [show (2 : Int32).toInt = 2 by decide]; omega)).trans (by rw [show (2 : Int32).toInt = 2 by decide])
              refine lv_iinc (v := x_138) (lv' := [(9, .int x_138), (10, .long z_128), (8, .ref r_25), (0, .ref a0), (1, .ref a1), (2, .ref a2), (3, .ref a3), (4, .ref a4), (5, .int 0), (6, .long a6)]) hx hb dX5_tryBlock_120 hl (k := 1) rfl e_139.symm (by decide) rfl (fun ls hl => ?_)
              refine lv_goto (tgt := 23) hx hb dX5_tryBlock_123 (by decide) ?_
              exact (hWW _ _ _).mp (ih x_138 (g + 1554) H locs ls (by omega) (by omega) (by omega) (by omega) hG hS (lv_sub hl [0, 2, 3, 4, 5, 6, 7, 8, 9] rfl))
            · skip
              have c_134 : v_95.toInt ≠ 0 := q_ne c_134
              refine lv_lload hx hb dX5_tryBlock_77 (lv_at hl 0 rfl) ?_
              refine lv_pc (pc2 := 79) rfl ?_
              refine lv_aload_n hx hb dX5_tryBlock_79 rfl (lv_at hl 3 rfl) ?_
              refine va_get (D := D) (ci := 4) (v := .long v_96) (C := RX5) (T := TX5) (N := 10) hx hb hts in5 hown hK (va_one at_105) 0 rfl rfl 4 (by decide) (hts (.fieldLink RX5 28 "RiverModel$Search" "leastPeak" "J") (List.mem_of_getElem? (i := 18) rfl)) (fun _ h9 => h9) rfl dX5_tryBlock_80 ?_
              refine W.lcmp hx hb dX5_tryBlock_83 ?_
              refine lv_if_lt (tgt := 90) hx hb dX5_tryBlock_84 (by decide) (fun c_140 => ?_) (fun c_140 => ?_)
              · skip
                have c_140 : z_128.toInt < v_96.toInt := q_cmp_lt c_140
                refine lv_iload hx hb dX5_tryBlock_90 (lv_at hl 8 rfl) ?_
                refine lv_iconst (v := 3) hx hb dX5_tryBlock_92 (by decide) ?_
                refine lv_icmp_ne (tgt := 105) hx hb dX5_tryBlock_93 (by decide) (fun _ => ?_) (fun q => absurd q (by decide))
                refine lv_aload_n hx hb dX5_tryBlock_105 rfl (lv_at hl 3 rfl) ?_
                refine lv_pc (pc2 := 106) rfl ?_
                refine lv_aload_n hx hb dX5_tryBlock_106 rfl (lv_at hl 4 rfl) ?_
                refine lv_aload_n hx hb dX5_tryBlock_107 rfl (lv_at hl 5 rfl) ?_
                refine lv_aload_n hx hb dX5_tryBlock_108 rfl (lv_at hl 6 rfl) ?_
                refine lv_aload hx hb dX5_tryBlock_109 (lv_at hl 2 rfl) ?_
                refine lv_iload hx hb dX5_tryBlock_111 (lv_at hl 8 rfl) ?_
                refine lv_iconst (v := 1) hx hb dX5_tryBlock_113 (by decide) ?_
                refine lv_iadd hx hb dX5_tryBlock_114 ?_
                refine lv_seti (y := 1) (by decide) ?_
                refine lv_lload hx hb dX5_tryBlock_115 (lv_at hl 0 rfl) ?_
                refine lv_pc (pc2 := 117) rfl ?_
                refine ty_callv ((W.runV (As := [.ref a1, .ref a2, .ref a3, .ref r_25, .int 1, .long z_128]) (rest := []) ⟨hx, hb, hml, hown, hts⟩ (s_X5_tryBlock_1 l D t cI cL cC gC gE (g + 6) gW gA a0 a1 a2 a3 r_25 z_128 (by omega) k_a0 k_a1 k_a2 k_a3 h_27) (cwV 6 hts gu_X5_tryBlock_0_X5_tryBlock_1_67 rfl rfl rfl (by decide +kernel) ⟨Nat.le_of_ble_eq_true rfl, Nat.le_of_ble_eq_true rfl⟩) (tP_V hG hE at_105 rfl) rfl rfl hl.1 rfl (lv_room (Nat.le_of_ble_eq_true rfl)) dX5_tryBlock_117 ⟨Nat.le_of_ble_eq_true rfl, Nat.le_of_ble_eq_true rfl⟩)) hS (fun _ h => h) (fun H locs hp_142 hG hS o_143 => ?_)
                obtain ⟨x_144, e_145⟩ : ∃ y : Int32, y = yo + Int32.ofInt 2 := ⟨_, rfl⟩
                have i_x_144 : x_144.toInt = yo.toInt + 2 := by rw [e_145, show Int32.ofInt 2 = 2 by decide]; exact (q_add (by rw [show (2 : Int32).toInt = 2 by decide]; omega) (by rw [show (2 : Int32).toInt = 2 by decide]; omega)).trans (by rw [show (2 : Int32).toInt = 2 by decide])
                refine lv_iinc (v := x_144) (lv' := [(9, .int x_144), (10, .long z_128), (8, .ref r_25), (0, .ref a0), (1, .ref a1), (2, .ref a2), (3, .ref a3), (4, .ref a4), (5, .int 0), (6, .long a6)]) hx hb dX5_tryBlock_120 hl (k := 1) rfl e_145.symm (by decide) rfl (fun ls hl => ?_)
                refine lv_goto (tgt := 23) hx hb dX5_tryBlock_123 (by decide) ?_
                exact (hWW _ _ _).mp (ih x_144 (g + 1554) H locs ls (by omega) (by omega) (by omega) (by omega) hG hS (lv_sub hl [0, 2, 3, 4, 5, 6, 7, 8, 9] rfl))
              · skip
                have c_140 : v_96.toInt ≤ z_128.toInt := q_cmp_nlt c_140
                refine lv_goto (tgt := 120) hx hb dX5_tryBlock_87 (by decide) ?_
                obtain ⟨x_146, e_147⟩ : ∃ y : Int32, y = yo + Int32.ofInt 2 := ⟨_, rfl⟩
                have i_x_146 : x_146.toInt = yo.toInt + 2 := by rw [e_147, show Int32.ofInt 2 = 2 by decide]; exact (q_add (by rw [show (2 : Int32).toInt = 2 by decide]; omega) (by rw [show (2 : Int32).toInt = 2 by decide]; omega)).trans (by rw [show (2 : Int32).toInt = 2 by decide])
                refine lv_iinc (v := x_146) (lv' := [(9, .int x_146), (10, .long z_128), (8, .ref r_25), (0, .ref a0), (1, .ref a1), (2, .ref a2), (3, .ref a3), (4, .ref a4), (5, .int 0), (6, .long a6)]) hx hb dX5_tryBlock_120 hl (k := 1) rfl e_147.symm (by decide) rfl (fun ls hl => ?_)
                refine lv_goto (tgt := 23) hx hb dX5_tryBlock_123 (by decide) ?_
                exact (hWW _ _ _).mp (ih x_146 (g + 6) H locs ls (by omega) (by omega) (by omega) (by omega) hG hS (lv_sub hl [0, 2, 3, 4, 5, 6, 7, 8, 9] rfl))
    have hz_yo : (0 : Int32).toInt = 0 := by decide
    exact loop (12 - 0 : Int).toNat 0 G H locs ls (by omega) (by omega) (by omega) (by omega) hG hS (lv_sub hl [0, 1, 2, 3, 4, 5, 6, 7, 8] rfl)
