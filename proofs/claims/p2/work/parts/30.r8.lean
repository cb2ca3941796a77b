theorem dX10_see_0 : decode cX10_see 0 = .ok (.iload_n 1, 1) := by decide +kernel
theorem dX10_see_1 : decode cX10_see 1 = .ok (.i2l, 1) := by decide +kernel
theorem dX10_see_2 : decode cX10_see 2 = .ok (.lconst 0, 1) := by decide +kernel
theorem dX10_see_3 : decode cX10_see 3 = .ok (.ldc2_w 243, 3) := by decide +kernel
theorem dX10_see_6 : decode cX10_see 6 = .ok (.invokestatic 85, 3) := by decide +kernel
theorem dX10_see_9 : decode cX10_see 9 = .ok (.ifCond .eq 29, 3) := by decide +kernel
theorem dX10_see_12 : decode cX10_see 12 = .ok (.iload_n 2, 1) := by decide +kernel
theorem dX10_see_13 : decode cX10_see 13 = .ok (.i2l, 1) := by decide +kernel
theorem dX10_see_14 : decode cX10_see 14 = .ok (.lconst 0, 1) := by decide +kernel
theorem dX10_see_15 : decode cX10_see 15 = .ok (.ldc2_w 198, 3) := by decide +kernel
theorem dX10_see_18 : decode cX10_see 18 = .ok (.invokestatic 85, 3) := by decide +kernel
theorem dX10_see_21 : decode cX10_see 21 = .ok (.ifCond .eq 17, 3) := by decide +kernel
theorem dX10_see_24 : decode cX10_see 24 = .ok (.iload_n 3, 1) := by decide +kernel
theorem dX10_see_25 : decode cX10_see 25 = .ok (.i2l, 1) := by decide +kernel
theorem dX10_see_26 : decode cX10_see 26 = .ok (.ldc2_w 236, 3) := by decide +kernel
theorem dX10_see_29 : decode cX10_see 29 = .ok (.ldc2_w 254, 3) := by decide +kernel
theorem dX10_see_32 : decode cX10_see 32 = .ok (.invokestatic 85, 3) := by decide +kernel
theorem dX10_see_35 : decode cX10_see 35 = .ok (.ifCond .ne 6, 3) := by decide +kernel
theorem dX10_see_38 : decode cX10_see 38 = .ok (.bipush (-100), 2) := by decide +kernel
theorem dX10_see_40 : decode cX10_see 40 = .ok (.ireturn, 1) := by decide +kernel
theorem dX10_see_41 : decode cX10_see 41 = .ok (.aload_n 0, 1) := by decide +kernel
theorem dX10_see_42 : decode cX10_see 42 = .ok (.iload_n 1, 1) := by decide +kernel
theorem dX10_see_43 : decode cX10_see 43 = .ok (.invokevirtual 248, 3) := by decide +kernel
theorem dX10_see_46 : decode cX10_see 46 = .ok (.ifCond .ne 6, 3) := by decide +kernel
theorem dX10_see_49 : decode cX10_see 49 = .ok (.bipush (-102), 2) := by decide +kernel
theorem dX10_see_51 : decode cX10_see 51 = .ok (.ireturn, 1) := by decide +kernel
theorem dX10_see_52 : decode cX10_see 52 = .ok (.aload_n 0, 1) := by decide +kernel
theorem dX10_see_53 : decode cX10_see 53 = .ok (.getfield 44, 3) := by decide +kernel
theorem dX10_see_56 : decode cX10_see 56 = .ok (.bipush 96, 2) := by decide +kernel
theorem dX10_see_58 : decode cX10_see 58 = .ok (.iload_n 1, 1) := by decide +kernel
theorem dX10_see_59 : decode cX10_see 59 = .ok (.imul, 1) := by decide +kernel
theorem dX10_see_60 : decode cX10_see 60 = .ok (.iload_n 2, 1) := by decide +kernel
theorem dX10_see_61 : decode cX10_see 61 = .ok (.iadd, 1) := by decide +kernel
theorem dX10_see_62 : decode cX10_see 62 = .ok (.iaload, 1) := by decide +kernel
theorem dX10_see_63 : decode cX10_see 63 = .ok (.istore 4, 2) := by decide +kernel
theorem dX10_see_65 : decode cX10_see 65 = .ok (.aload_n 0, 1) := by decide +kernel
theorem dX10_see_66 : decode cX10_see 66 = .ok (.getfield 44, 3) := by decide +kernel
theorem dX10_see_69 : decode cX10_see 69 = .ok (.bipush 96, 2) := by decide +kernel
theorem dX10_see_71 : decode cX10_see 71 = .ok (.iload_n 1, 1) := by decide +kernel
theorem dX10_see_72 : decode cX10_see 72 = .ok (.imul, 1) := by decide +kernel
theorem dX10_see_73 : decode cX10_see 73 = .ok (.iload_n 2, 1) := by decide +kernel
theorem dX10_see_74 : decode cX10_see 74 = .ok (.iadd, 1) := by decide +kernel
theorem dX10_see_75 : decode cX10_see 75 = .ok (.iload_n 3, 1) := by decide +kernel
theorem dX10_see_76 : decode cX10_see 76 = .ok (.iastore, 1) := by decide +kernel
theorem dX10_see_77 : decode cX10_see 77 = .ok (.iload 4, 2) := by decide +kernel
theorem dX10_see_79 : decode cX10_see 79 = .ok (.ireturn, 1) := by decide +kernel
theorem dX10_ends_0 : decode cX10_ends 0 = .ok (.iload_n 1, 1) := by decide +kernel
theorem dX10_ends_1 : decode cX10_ends 1 = .ok (.i2l, 1) := by decide +kernel
theorem dX10_ends_2 : decode cX10_ends 2 = .ok (.lconst 0, 1) := by decide +kernel
theorem dX10_ends_3 : decode cX10_ends 3 = .ok (.ldc2_w 256, 3) := by decide +kernel
theorem dX10_ends_6 : decode cX10_ends 6 = .ok (.invokestatic 85, 3) := by decide +kernel
theorem dX10_ends_9 : decode cX10_ends 9 = .ok (.ifCond .ne 5, 3) := by decide +kernel
theorem dX10_ends_12 : decode cX10_ends 12 = .ok (.iconst (-1), 1) := by decide +kernel
theorem dX10_ends_13 : decode cX10_ends 13 = .ok (.ireturn, 1) := by decide +kernel
theorem dX10_ends_14 : decode cX10_ends 14 = .ok (.aload_n 0, 1) := by decide +kernel
theorem dX10_ends_15 : decode cX10_ends 15 = .ok (.getfield 258, 3) := by decide +kernel
theorem dX10_ends_18 : decode cX10_ends 18 = .ok (.istore_n 2, 1) := by decide +kernel
theorem dX10_ends_19 : decode cX10_ends 19 = .ok (.aload_n 0, 1) := by decide +kernel
theorem dX10_ends_20 : decode cX10_ends 20 = .ok (.iload_n 1, 1) := by decide +kernel
theorem dX10_ends_21 : decode cX10_ends 21 = .ok (.putfield 258, 3) := by decide +kernel
theorem dX10_ends_24 : decode cX10_ends 24 = .ok (.iload_n 2, 1) := by decide +kernel
theorem dX10_ends_25 : decode cX10_ends 25 = .ok (.ireturn, 1) := by decide +kernel
theorem dX10_knob_0 : decode cX10_knob 0 = .ok (.iload_n 1, 1) := by decide +kernel
theorem dX10_knob_1 : decode cX10_knob 1 = .ok (.i2l, 1) := by decide +kernel
theorem dX10_knob_2 : decode cX10_knob 2 = .ok (.lconst 0, 1) := by decide +kernel
theorem dX10_knob_3 : decode cX10_knob 3 = .ok (.lconst 1, 1) := by decide +kernel
theorem dX10_knob_4 : decode cX10_knob 4 = .ok (.invokestatic 85, 3) := by decide +kernel
theorem dX10_knob_7 : decode cX10_knob 7 = .ok (.ifCond .eq 66, 3) := by decide +kernel
theorem dX10_knob_10 : decode cX10_knob 10 = .ok (.iload_n 2, 1) := by decide +kernel
theorem dX10_knob_11 : decode cX10_knob 11 = .ok (.i2l, 1) := by decide +kernel
theorem dX10_knob_12 : decode cX10_knob 12 = .ok (.lconst 0, 1) := by decide +kernel
theorem dX10_knob_13 : decode cX10_knob 13 = .ok (.ldc2_w 194, 3) := by decide +kernel
theorem dX10_knob_16 : decode cX10_knob 16 = .ok (.invokestatic 85, 3) := by decide +kernel
theorem dX10_knob_19 : decode cX10_knob 19 = .ok (.ifCond .eq 54, 3) := by decide +kernel
theorem dX10_knob_22 : decode cX10_knob 22 = .ok (.iload_n 3, 1) := by decide +kernel
theorem dX10_knob_23 : decode cX10_knob 23 = .ok (.i2l, 1) := by decide +kernel
theorem dX10_knob_24 : decode cX10_knob 24 = .ok (.lconst 0, 1) := by decide +kernel
theorem dX10_knob_25 : decode cX10_knob 25 = .ok (.ldc2_w 261, 3) := by decide +kernel
theorem dX10_knob_28 : decode cX10_knob 28 = .ok (.invokestatic 85, 3) := by decide +kernel
theorem dX10_knob_31 : decode cX10_knob 31 = .ok (.ifCond .eq 42, 3) := by decide +kernel
theorem dX10_knob_34 : decode cX10_knob 34 = .ok (.iload 4, 2) := by decide +kernel
theorem dX10_knob_36 : decode cX10_knob 36 = .ok (.i2l, 1) := by decide +kernel
theorem dX10_knob_37 : decode cX10_knob 37 = .ok (.lconst 0, 1) := by decide +kernel
theorem dX10_knob_38 : decode cX10_knob 38 = .ok (.ldc2_w 99, 3) := by decide +kernel
theorem dX10_knob_41 : decode cX10_knob 41 = .ok (.invokestatic 85, 3) := by decide +kernel
theorem dX10_knob_44 : decode cX10_knob 44 = .ok (.ifCond .eq 29, 3) := by decide +kernel
theorem dX10_knob_47 : decode cX10_knob 47 = .ok (.iload 5, 2) := by decide +kernel
theorem dX10_knob_49 : decode cX10_knob 49 = .ok (.i2l, 1) := by decide +kernel
theorem dX10_knob_50 : decode cX10_knob 50 = .ok (.lconst 1, 1) := by decide +kernel
theorem dX10_knob_51 : decode cX10_knob 51 = .ok (.ldc2_w 99, 3) := by decide +kernel
theorem dX10_knob_54 : decode cX10_knob 54 = .ok (.invokestatic 85, 3) := by decide +kernel
theorem dX10_knob_57 : decode cX10_knob 57 = .ok (.ifCond .eq 16, 3) := by decide +kernel
theorem dX10_knob_60 : decode cX10_knob 60 = .ok (.iload 6, 2) := by decide +kernel
theorem dX10_knob_62 : decode cX10_knob 62 = .ok (.i2l, 1) := by decide +kernel
theorem dX10_knob_63 : decode cX10_knob 63 = .ok (.lconst 0, 1) := by decide +kernel
theorem dX10_knob_64 : decode cX10_knob 64 = .ok (.ldc2_w 263, 3) := by decide +kernel
theorem dX10_knob_67 : decode cX10_knob 67 = .ok (.invokestatic 85, 3) := by decide +kernel
theorem dX10_knob_70 : decode cX10_knob 70 = .ok (.ifCond .ne 5, 3) := by decide +kernel
theorem dX10_knob_73 : decode cX10_knob 73 = .ok (.iconst (-1), 1) := by decide +kernel
theorem dX10_knob_74 : decode cX10_knob 74 = .ok (.ireturn, 1) := by decide +kernel
theorem dX10_knob_75 : decode cX10_knob 75 = .ok (.aload_n 0, 1) := by decide +kernel
theorem dX10_knob_76 : decode cX10_knob 76 = .ok (.getfield 173, 3) := by decide +kernel
theorem dX10_knob_79 : decode cX10_knob 79 = .ok (.ifCond .eq 24, 3) := by decide +kernel
theorem dX10_knob_82 : decode cX10_knob 82 = .ok (.iload_n 2, 1) := by decide +kernel
theorem dX10_knob_83 : decode cX10_knob 83 = .ok (.aload_n 0, 1) := by decide +kernel
theorem dX10_knob_84 : decode cX10_knob 84 = .ok (.getfield 163, 3) := by decide +kernel
theorem dX10_knob_87 : decode cX10_knob 87 = .ok (.if_icmp .ge 16, 3) := by decide +kernel
theorem dX10_knob_90 : decode cX10_knob 90 = .ok (.aload_n 0, 1) := by decide +kernel
theorem dX10_knob_91 : decode cX10_knob 91 = .ok (.getfield 22, 3) := by decide +kernel
theorem dX10_knob_94 : decode cX10_knob 94 = .ok (.iconst 3, 1) := by decide +kernel
theorem dX10_knob_95 : decode cX10_knob 95 = .ok (.iload_n 2, 1) := by decide +kernel
theorem dX10_knob_96 : decode cX10_knob 96 = .ok (.imul, 1) := by decide +kernel
theorem dX10_knob_97 : decode cX10_knob 97 = .ok (.iload_n 3, 1) := by decide +kernel
theorem dX10_knob_98 : decode cX10_knob 98 = .ok (.iadd, 1) := by decide +kernel
theorem dX10_knob_99 : decode cX10_knob 99 = .ok (.iaload, 1) := by decide +kernel
theorem dX10_knob_100 : decode cX10_knob 100 = .ok (.ifCond .ge 6, 3) := by decide +kernel
theorem dX10_knob_103 : decode cX10_knob 103 = .ok (.bipush (-2), 2) := by decide +kernel
theorem dX10_knob_105 : decode cX10_knob 105 = .ok (.ireturn, 1) := by decide +kernel
theorem dX10_knob_106 : decode cX10_knob 106 = .ok (.aload_n 0, 1) := by decide +kernel
theorem dX10_knob_107 : decode cX10_knob 107 = .ok (.getfield 47, 3) := by decide +kernel
theorem dX10_knob_110 : decode cX10_knob 110 = .ok (.iload_n 1, 1) := by decide +kernel
theorem dX10_knob_111 : decode cX10_knob 111 = .ok (.iload_n 2, 1) := by decide +kernel
theorem dX10_knob_112 : decode cX10_knob 112 = .ok (.iastore, 1) := by decide +kernel
theorem dX10_knob_113 : decode cX10_knob 113 = .ok (.aload_n 0, 1) := by decide +kernel
theorem dX10_knob_114 : decode cX10_knob 114 = .ok (.getfield 50, 3) := by decide +kernel
theorem dX10_knob_117 : decode cX10_knob 117 = .ok (.iload_n 1, 1) := by decide +kernel
theorem dX10_knob_118 : decode cX10_knob 118 = .ok (.iload_n 3, 1) := by decide +kernel
theorem dX10_knob_119 : decode cX10_knob 119 = .ok (.iastore, 1) := by decide +kernel
theorem dX10_knob_120 : decode cX10_knob 120 = .ok (.aload_n 0, 1) := by decide +kernel
theorem dX10_knob_121 : decode cX10_knob 121 = .ok (.getfield 53, 3) := by decide +kernel
theorem dX10_knob_124 : decode cX10_knob 124 = .ok (.iload_n 1, 1) := by decide +kernel
theorem dX10_knob_125 : decode cX10_knob 125 = .ok (.iload 4, 2) := by decide +kernel
theorem dX10_knob_127 : decode cX10_knob 127 = .ok (.iastore, 1) := by decide +kernel
theorem dX10_knob_128 : decode cX10_knob 128 = .ok (.aload_n 0, 1) := by decide +kernel
theorem dX10_knob_129 : decode cX10_knob 129 = .ok (.getfield 56, 3) := by decide +kernel
theorem dX10_knob_132 : decode cX10_knob 132 = .ok (.iload_n 1, 1) := by decide +kernel
theorem dX10_knob_133 : decode cX10_knob 133 = .ok (.iload 5, 2) := by decide +kernel
theorem dX10_knob_135 : decode cX10_knob 135 = .ok (.iastore, 1) := by decide +kernel
theorem dX10_knob_136 : decode cX10_knob 136 = .ok (.aload_n 0, 1) := by decide +kernel
theorem dX10_knob_137 : decode cX10_knob 137 = .ok (.getfield 59, 3) := by decide +kernel
theorem dX10_knob_140 : decode cX10_knob 140 = .ok (.iload_n 1, 1) := by decide +kernel
theorem dX10_knob_141 : decode cX10_knob 141 = .ok (.iload 6, 2) := by decide +kernel
theorem dX10_knob_143 : decode cX10_knob 143 = .ok (.iastore, 1) := by decide +kernel
theorem dX10_knob_144 : decode cX10_knob 144 = .ok (.iconst 0, 1) := by decide +kernel
theorem dX10_knob_145 : decode cX10_knob 145 = .ok (.ireturn, 1) := by decide +kernel
theorem dX10_knobs_0 : decode cX10_knobs 0 = .ok (.aload_n 0, 1) := by decide +kernel
theorem dX10_knobs_1 : decode cX10_knobs 1 = .ok (.getfield 59, 3) := by decide +kernel
theorem dX10_knobs_4 : decode cX10_knobs 4 = .ok (.iload_n 1, 1) := by decide +kernel
theorem dX10_knobs_5 : decode cX10_knobs 5 = .ok (.iaload, 1) := by decide +kernel
theorem dX10_knobs_6 : decode cX10_knobs 6 = .ok (.ifCond .ne 7, 3) := by decide +kernel
theorem dX10_knobs_9 : decode cX10_knobs 9 = .ok (.iconst 1, 1) := by decide +kernel
theorem dX10_knobs_10 : decode cX10_knobs 10 = .ok (.goto 9, 3) := by decide +kernel
theorem dX10_knobs_13 : decode cX10_knobs 13 = .ok (.aload_n 0, 1) := by decide +kernel
theorem dX10_knobs_14 : decode cX10_knobs 14 = .ok (.getfield 59, 3) := by decide +kernel
theorem dX10_knobs_17 : decode cX10_knobs 17 = .ok (.iload_n 1, 1) := by decide +kernel
theorem dX10_knobs_18 : decode cX10_knobs 18 = .ok (.iaload, 1) := by decide +kernel
theorem dX10_knobs_19 : decode cX10_knobs 19 = .ok (.ireturn, 1) := by decide +kernel
theorem dX10_knobValue_0 : decode cX10_knobValue 0 = .ok (.iload_n 1, 1) := by decide +kernel
theorem dX10_knobValue_1 : decode cX10_knobValue 1 = .ok (.ifCond .ne 13, 3) := by decide +kernel
theorem dX10_knobValue_4 : decode cX10_knobValue 4 = .ok (.iload_n 2, 1) := by decide +kernel
theorem dX10_knobValue_5 : decode cX10_knobValue 5 = .ok (.aload_n 0, 1) := by decide +kernel
theorem dX10_knobValue_6 : decode cX10_knobValue 6 = .ok (.iconst 1, 1) := by decide +kernel
theorem dX10_knobValue_7 : decode cX10_knobValue 7 = .ok (.invokevirtual 265, 3) := by decide +kernel
theorem dX10_knobValue_10 : decode cX10_knobValue 10 = .ok (.idiv, 1) := by decide +kernel
theorem dX10_knobValue_11 : decode cX10_knobValue 11 = .ok (.goto 10, 3) := by decide +kernel
theorem dX10_knobValue_14 : decode cX10_knobValue 14 = .ok (.iload_n 2, 1) := by decide +kernel
theorem dX10_knobValue_15 : decode cX10_knobValue 15 = .ok (.aload_n 0, 1) := by decide +kernel
theorem dX10_knobValue_16 : decode cX10_knobValue 16 = .ok (.iconst 1, 1) := by decide +kernel
theorem dX10_knobValue_17 : decode cX10_knobValue 17 = .ok (.invokevirtual 265, 3) := by decide +kernel
theorem dX10_knobValue_20 : decode cX10_knobValue 20 = .ok (.irem, 1) := by decide +kernel
theorem dX10_knobValue_21 : decode cX10_knobValue 21 = .ok (.istore_n 3, 1) := by decide +kernel
theorem dX10_knobValue_22 : decode cX10_knobValue 22 = .ok (.aload_n 0, 1) := by decide +kernel
theorem dX10_knobValue_23 : decode cX10_knobValue 23 = .ok (.getfield 53, 3) := by decide +kernel
theorem dX10_knobValue_26 : decode cX10_knobValue 26 = .ok (.iload_n 1, 1) := by decide +kernel
theorem dX10_knobValue_27 : decode cX10_knobValue 27 = .ok (.iaload, 1) := by decide +kernel
theorem dX10_knobValue_28 : decode cX10_knobValue 28 = .ok (.iload_n 3, 1) := by decide +kernel
theorem dX10_knobValue_29 : decode cX10_knobValue 29 = .ok (.aload_n 0, 1) := by decide +kernel
theorem dX10_knobValue_30 : decode cX10_knobValue 30 = .ok (.getfield 56, 3) := by decide +kernel
theorem dX10_knobValue_33 : decode cX10_knobValue 33 = .ok (.iload_n 1, 1) := by decide +kernel
theorem dX10_knobValue_34 : decode cX10_knobValue 34 = .ok (.iaload, 1) := by decide +kernel
theorem dX10_knobValue_35 : decode cX10_knobValue 35 = .ok (.imul, 1) := by decide +kernel
theorem dX10_knobValue_36 : decode cX10_knobValue 36 = .ok (.iadd, 1) := by decide +kernel
theorem dX10_knobValue_37 : decode cX10_knobValue 37 = .ok (.ireturn, 1) := by decide +kernel
theorem dX10_lastSeen_0 : decode cX10_lastSeen 0 = .ok (.iconst (-1), 1) := by decide +kernel
theorem dX10_lastSeen_1 : decode cX10_lastSeen 1 = .ok (.istore_n 1, 1) := by decide +kernel
theorem dX10_lastSeen_2 : decode cX10_lastSeen 2 = .ok (.iconst 0, 1) := by decide +kernel
theorem dX10_lastSeen_3 : decode cX10_lastSeen 3 = .ok (.istore_n 2, 1) := by decide +kernel
theorem dX10_lastSeen_4 : decode cX10_lastSeen 4 = .ok (.iload_n 2, 1) := by decide +kernel
theorem dX10_lastSeen_5 : decode cX10_lastSeen 5 = .ok (.sipush 384, 3) := by decide +kernel
theorem dX10_lastSeen_8 : decode cX10_lastSeen 8 = .ok (.if_icmp .ge 35, 3) := by decide +kernel
theorem dX10_lastSeen_11 : decode cX10_lastSeen 11 = .ok (.aload_n 0, 1) := by decide +kernel
theorem dX10_lastSeen_12 : decode cX10_lastSeen 12 = .ok (.getfield 44, 3) := by decide +kernel
theorem dX10_lastSeen_15 : decode cX10_lastSeen 15 = .ok (.iload_n 2, 1) := by decide +kernel
theorem dX10_lastSeen_16 : decode cX10_lastSeen 16 = .ok (.iaload, 1) := by decide +kernel
theorem dX10_lastSeen_17 : decode cX10_lastSeen 17 = .ok (.ifCond .lt 18, 3) := by decide +kernel
theorem dX10_lastSeen_20 : decode cX10_lastSeen 20 = .ok (.iload_n 2, 1) := by decide +kernel
theorem dX10_lastSeen_21 : decode cX10_lastSeen 21 = .ok (.bipush 96, 2) := by decide +kernel
theorem dX10_lastSeen_23 : decode cX10_lastSeen 23 = .ok (.irem, 1) := by decide +kernel
theorem dX10_lastSeen_24 : decode cX10_lastSeen 24 = .ok (.iload_n 1, 1) := by decide +kernel
theorem dX10_lastSeen_25 : decode cX10_lastSeen 25 = .ok (.if_icmp .le 10, 3) := by decide +kernel
theorem dX10_lastSeen_28 : decode cX10_lastSeen 28 = .ok (.iload_n 2, 1) := by decide +kernel
theorem dX10_lastSeen_29 : decode cX10_lastSeen 29 = .ok (.bipush 96, 2) := by decide +kernel
theorem dX10_lastSeen_31 : decode cX10_lastSeen 31 = .ok (.irem, 1) := by decide +kernel
theorem dX10_lastSeen_32 : decode cX10_lastSeen 32 = .ok (.goto 4, 3) := by decide +kernel
theorem dX10_lastSeen_35 : decode cX10_lastSeen 35 = .ok (.iload_n 1, 1) := by decide +kernel
theorem dX10_lastSeen_36 : decode cX10_lastSeen 36 = .ok (.istore_n 1, 1) := by decide +kernel
theorem dX10_lastSeen_37 : decode cX10_lastSeen 37 = .ok (.iinc 2 1, 3) := by decide +kernel
theorem dX10_lastSeen_40 : decode cX10_lastSeen 40 = .ok (.goto (-36), 3) := by decide +kernel
theorem dX10_lastSeen_43 : decode cX10_lastSeen 43 = .ok (.iload_n 1, 1) := by decide +kernel
theorem dX10_lastSeen_44 : decode cX10_lastSeen 44 = .ok (.ireturn, 1) := by decide +kernel
def uX10_see : List Cond := .code yX10_see cX10_see 5 (some .int) :: ([.constantLong RX10 243 (3), .methodLink RX10 85 yX10_in, .static yX10_in, .initialized RX10, .constantLong RX10 198 (95), .constantLong RX10 236 (-1), .constantLong RX10 254 (10000000), .methodLink RX10 248 yX10_isSet, .instanceMethod yX10_isSet, .selects RX10 yX10_isSet yX10_isSet, .fieldLink RX10 44 "RiverModelModel" "seen" "[I", .code yX10_in cX10_in 6 (some .boolean), .code yX10_isSet cX10_isSet 2 (some .boolean), .fieldLink RX10 173 "RiverModelModel" "isBuilt" "Z", .fieldLink RX10 38 "RiverModelModel" "gaugeKind" "[I"] ++ wsX100)
set_option maxRecDepth 20000 in
theorem gu_X10_see_X10_in_85 : GoodIn uX10_see (va_wsS RX10 85 yX10_in uX10_in) := goodIn_r _ [2, 3, 4, 12] rfl (by decide +kernel)
set_option maxRecDepth 20000 in
theorem gu_X10_see_X10_isSet_248 : GoodIn uX10_see (wsV RX10 248 RX10 yX10_isSet uX10_isSet) := goodIn_r _ [8, 9, 10, 4, 13, 14, 15, 16, 17, 18, 19, 20, 21, 22, 23, 24, 25, 26, 27, 28, 29, 30, 31, 32, 33, 34, 35, 36, 37, 38, 39, 40, 41, 42, 43, 44, 45, 46, 47, 48, 49, 50, 51] rfl (by decide +kernel)
set_option maxHeartbeats 4000000 in
set_option maxRecDepth 100000 in
theorem m_X10_see (l : Launch) (D : va_G) (t : Nat → Nat) (cI cL cC : ClassId) (gC : Int32) (gE : Int32) (gW : Nat → Int32) (gA : Nat → Int32) (gT : Nat → Int32) (gI : Int32) (gS : Int32) (gM : Int32) (K : Nat → Int32) (F : Nat → Int32) (S : Nat → Int32) (N : Nat → Int32) (gH : Int) (gJ : Int) (ge : Int32) (gk : Int32) (gf : Int32) (gs : Int32) (gg : Int32) (gr : Int32) (RN : Nat → Int32) (a0 : Nat) (a1 : Int32) (a2 : Int32) (a3 : Int32) (uq : ∀ b c : Nat, t b = t c → t b ≠ 0 → b = c) (hC0 : 0 ≤ gC.toInt) (hC4 : gC.toInt ≤ 400) (hI0 : 0 ≤ gI.toInt) (hI4 : gI.toInt ≤ 40) (hH0 : 0 ≤ gH) (hH9 : gH ≤ 96) (hm0 : 0 ≤ gM.toInt) (hm3 : gM.toInt ≤ 3) (hO0 : okM K F S N 0 gI.toInt) (hW : swM gS K F S N gI.toInt) (k_a0 : t a0 = 40) : tM l yX10_see uX10_see 1 25 D (mF cI cL cC gC gE gW gA gT gI gS gM K F S N gH gJ ge gk gf gs gg gr RN) (mF cI cL cC gC gE gW gA gT gI gS gM K F S N gH gJ ge gk gf gs gg gr RN) t cI cL cC [.ref a0, .int a1, .int a2, .int a3] wSe (pI (fun r => True)) := by
  refine tM.ofW (cc := cX10_see) (maxL := 5) (ret := (some .int)) (by decide) rfl (Nat.le_of_ble_eq_true rfl) ?_
  intro p e s m below meth c hx hb hr hml hown hts hlk H locs hG hK hE hS ls hl
  have hl : lv_has ls 5 [(0, .ref a0), (1, .int a1), (2, .int a2), (3, .int a3)] := hl
  have in10 : ∀ w ∈ wsX100, w ∈ uX10_see := fun w h => List.mem_cons_of_mem _ (List.mem_append_right _ h)
  refine lv_iload_n hx hb dX10_see_0 rfl (lv_at hl 1 rfl) ?_
  refine lv_i2l (v := a1.toInt64) hx hb dX10_see_1 rfl ?_
  refine lv_lconst (v := 0) hx hb dX10_see_2 (by decide) ?_
  refine lv_ldc2 hx hb hown (hts (.constantLong RX10 243 (3)) (List.mem_of_getElem? (i := 1) rfl)) dX10_see_3 ?_
  have zl_0 : (0 : Int64).toInt = 0 := by decide
  have zl_3 : (3 : Int64).toInt = 3 := by decide
  refine ty_calli (W.runS (As := [.long a1.toInt64, .long 0, .long 3]) (rest := []) ⟨hx, hb, hml, hown, hts⟩ (m_X10_in l D t cI cL cC gC gE gW gA gT gI gS gM K F S N gH gJ ge gk gf gs gg gr RN a1.toInt64 0 3 a1.toInt 0 3 uq (q_i2l _) (by decide) (by decide) ) (va_cwS 3 hts gu_X10_see_X10_in_85 rfl rfl rfl (by decide +kernel) ⟨Nat.le_of_ble_eq_true rfl, Nat.le_of_ble_eq_true rfl⟩) (tP_S hG hE) rfl rfl hl.1 rfl (lv_room (Nat.le_of_ble_eq_true rfl)) dX10_see_6 ⟨Nat.le_of_ble_eq_true rfl, Nat.le_of_ble_eq_true rfl⟩) hS (fun k h => by simp [wr0] at h) (fun r_1 H locs hp_2 hG hS o_3 => ?_)
  have hp_2 : (r_1 = 1 ∧ 0 ≤ a1.toInt ∧ a1.toInt ≤ 3) ∨ (r_1 = 0 ∧ (a1.toInt < 0 ∨ 3 < a1.toInt)) := hp_2
  rcases hp_2 with ⟨rfl, p_5, p_6⟩ | ⟨rfl, p_7⟩
  · skip
    refine lv_if_eq (tgt := 38) hx hb dX10_see_9 (by decide) (fun q => absurd q (by decide)) (fun _ => ?_)
    refine lv_iload_n hx hb dX10_see_12 rfl (lv_at hl 2 rfl) ?_
    refine lv_pc (pc2 := 13) rfl ?_
    refine lv_i2l (v := a2.toInt64) hx hb dX10_see_13 rfl ?_
    refine lv_lconst (v := 0) hx hb dX10_see_14 (by decide) ?_
    refine lv_ldc2 hx hb hown (hts (.constantLong RX10 198 (95)) (List.mem_of_getElem? (i := 5) rfl)) dX10_see_15 ?_
    have zl_95 : (95 : Int64).toInt = 95 := by decide
    refine ty_calli (W.runS (As := [.long a2.toInt64, .long 0, .long 95]) (rest := []) ⟨hx, hb, hml, hown, hts⟩ (m_X10_in l D t cI cL cC gC gE gW gA gT gI gS gM K F S N gH gJ ge gk gf gs gg gr RN a2.toInt64 0 95 a2.toInt 0 95 uq (q_i2l _) (by decide) (by decide) ) (va_cwS 3 hts gu_X10_see_X10_in_85 rfl rfl rfl (by decide +kernel) ⟨Nat.le_of_ble_eq_true rfl, Nat.le_of_ble_eq_true rfl⟩) (tP_S hG hE) rfl rfl hl.1 rfl (lv_room (Nat.le_of_ble_eq_true rfl)) dX10_see_18 ⟨Nat.le_of_ble_eq_true rfl, Nat.le_of_ble_eq_true rfl⟩) hS (fun k h => by simp [wr0] at h) (fun r_8 H locs hp_9 hG hS o_10 => ?_)
    have hp_9 : (r_8 = 1 ∧ 0 ≤ a2.toInt ∧ a2.toInt ≤ 95) ∨ (r_8 = 0 ∧ (a2.toInt < 0 ∨ 95 < a2.toInt)) := hp_9
    rcases hp_9 with ⟨rfl, p_12, p_13⟩ | ⟨rfl, p_14⟩
    · skip
      refine lv_if_eq (tgt := 38) hx hb dX10_see_21 (by decide) (fun q => absurd q (by decide)) (fun _ => ?_)
      refine lv_iload_n hx hb dX10_see_24 rfl (lv_at hl 3 rfl) ?_
      refine lv_i2l (v := a3.toInt64) hx hb dX10_see_25 rfl ?_
      refine lv_ldc2 hx hb hown (hts (.constantLong RX10 236 (-1)) (List.mem_of_getElem? (i := 6) rfl)) dX10_see_26 ?_
      refine lv_pc (pc2 := 29) rfl ?_
      refine lv_ldc2 hx hb hown (hts (.constantLong RX10 254 (10000000)) (List.mem_of_getElem? (i := 7) rfl)) dX10_see_29 ?_
      have zl_m1 : ((-1) : Int64).toInt = (-1) := by decide
      have zl_10000000 : (10000000 : Int64).toInt = 10000000 := by decide
      refine ty_calli (W.runS (As := [.long a3.toInt64, .long (-1), .long 10000000]) (rest := []) ⟨hx, hb, hml, hown, hts⟩ (m_X10_in l D t cI cL cC gC gE gW gA gT gI gS gM K F S N gH gJ ge gk gf gs gg gr RN a3.toInt64 (-1) 10000000 a3.toInt (-1) 10000000 uq (q_i2l _) (by decide) (by decide) ) (va_cwS 3 hts gu_X10_see_X10_in_85 rfl rfl rfl (by decide +kernel) ⟨Nat.le_of_ble_eq_true rfl, Nat.le_of_ble_eq_true rfl⟩) (tP_S hG hE) rfl rfl hl.1 rfl (lv_room (Nat.le_of_ble_eq_true rfl)) dX10_see_32 ⟨Nat.le_of_ble_eq_true rfl, Nat.le_of_ble_eq_true rfl⟩) hS (fun k h => by simp [wr0] at h) (fun r_15 H locs hp_16 hG hS o_17 => ?_)
      have hp_16 : (r_15 = 1 ∧ (-1) ≤ a3.toInt ∧ a3.toInt ≤ 10000000) ∨ (r_15 = 0 ∧ (a3.toInt < (-1) ∨ 10000000 < a3.toInt)) := hp_16
      rcases hp_16 with ⟨rfl, p_19, p_20⟩ | ⟨rfl, p_21⟩
      · skip
        refine lv_if_ne (tgt := 41) hx hb dX10_see_35 (by decide) (fun _ => ?_) (fun q => absurd q (by decide))
        refine lv_aload_n hx hb dX10_see_41 rfl (lv_at hl 0 rfl) ?_
        refine lv_iload_n hx hb dX10_see_42 rfl (lv_at hl 1 rfl) ?_
        obtain ⟨r_22, v_24, r_25, r_27, r_29, r_31, r_33, r_35, r_37, r_39, r_41, r_43, r_45, r_47, r_49, r_51, r_53, r_55, r_57, r_59, r_61, r_63, r_65, v_67, r_68, at_70, h_23, h_26, h_28, h_30, h_32, h_34, h_36, h_38, h_40, h_42, h_44, h_46, h_48, h_50, h_52, h_54, h_56, h_58, h_60, h_62, h_64, h_66, h_69⟩ := mF_o40 hG k_a0
        refine ty_calli (W.runV (As := [.int a1]) (rest := []) ⟨hx, hb, hml, hown, hts⟩ (m_X10_isSet l D t cI cL cC gC gE gW gA gT gI gS gM K F S N gH gJ ge gk gf gs gg gr RN a0 a1  uq (by omega) (by omega) k_a0) (cwV 1 hts gu_X10_see_X10_isSet_248 rfl rfl rfl (by decide +kernel) ⟨Nat.le_of_ble_eq_true rfl, Nat.le_of_ble_eq_true rfl⟩) (tP_V hG hE at_70 rfl) rfl rfl hl.1 rfl (lv_room (Nat.le_of_ble_eq_true rfl)) dX10_see_43 ⟨Nat.le_of_ble_eq_true rfl, Nat.le_of_ble_eq_true rfl⟩) hS (fun k h => by simp [wr0] at h) (fun r_71 H locs hp_72 hG hS o_73 => ?_)
        have at_70 := va_at.keptC at_70 o_73 k_a0 rfl
        have hp_72 : (r_71 = 1) ∨ (r_71 = 0) := hp_72
        rcases hp_72 with rfl | rfl
        · skip
          refine lv_if_ne (tgt := 52) hx hb dX10_see_46 (by decide) (fun _ => ?_) (fun q => absurd q (by decide))
          refine lv_aload_n hx hb dX10_see_52 rfl (lv_at hl 0 rfl) ?_
          refine lv_pc (pc2 := 53) rfl ?_
          refine va_get (D := D) (ci := 9) (v := .ref r_45) (C := RX10) (T := TX10) (N := 36) hx hb hts in10 hown hK (va_one at_70) 0 rfl rfl 16 (by decide) (hts (.fieldLink RX10 44 "RiverModelModel" "seen" "[I") (List.mem_of_getElem? (i := 11) rfl)) (fun _ h9 => h9) rfl dX10_see_53 ?_
          refine lv_bipush (v := 96) hx hb dX10_see_56 (by decide) ?_
          refine lv_iload_n hx hb dX10_see_58 rfl (lv_at hl 1 rfl) ?_
          refine lv_imul hx hb dX10_see_59 ?_
          refine lv_topi (fun x_75 e_76 => ?_)
          have i_x_75 : x_75.toInt = 96 * a1.toInt := by rw [e_76]; exact (q_mul (by rw [show (96 : Int32).toInt = 96 by decide]; omega) (by rw [show (96 : Int32).toInt = 96 by decide]; omega)).trans (by rw [show (96 : Int32).toInt = 96 by decide])
          refine lv_iload_n hx hb dX10_see_60 rfl (lv_at hl 2 rfl) ?_
          refine lv_iadd hx hb dX10_see_61 ?_
          refine lv_topi (fun x_77 e_78 => ?_)
          have i_x_77 : x_77.toInt = x_75.toInt + a2.toInt := by rw [e_78]; exact (q_add (by omega) (by omega)).trans (by rfl)
          obtain ⟨f_79, at_80⟩ := mF_o52 hG h_46
          have b_81 : vp_in x_77 384 := (q_in (by omega) (by omega))
          refine va_iald hx hb hK (va_one at_80) 0 0 rfl rfl b_81 dX10_see_62 ?_
          refine lv_topi (fun x_82 e_83 => ?_)
          refine lv_istore (lv' := [(4, .int x_82), (0, .ref a0), (1, .int a1), (2, .int a2), (3, .int a3)]) hx hb dX10_see_63 hl (by decide) rfl (fun ls hl => ?_)
          refine lv_pc (pc2 := 65) rfl ?_
          refine lv_aload_n hx hb dX10_see_65 rfl (lv_at hl 1 rfl) ?_
          refine va_get (D := D) (ci := 9) (v := .ref r_45) (C := RX10) (T := TX10) (N := 36) hx hb hts in10 hown hK (va_one at_70) 0 rfl rfl 16 (by decide) (hts (.fieldLink RX10 44 "RiverModelModel" "seen" "[I") (List.mem_of_getElem? (i := 11) rfl)) (fun _ h9 => h9) rfl dX10_see_66 ?_
          refine lv_bipush (v := 96) hx hb dX10_see_69 (by decide) ?_
          refine lv_iload_n hx hb dX10_see_71 rfl (lv_at hl 2 rfl) ?_
          refine lv_imul hx hb dX10_see_72 ?_
          refine lv_topi (fun x_84 e_85 => ?_)
          have i_x_84 : x_84.toInt = 96 * a1.toInt := by rw [e_85]; exact (q_mul (by rw [show (96 : Int32).toInt = 96 by decide]; omega) (by rw [show (96 : Int32).toInt = 96 by decide]; omega)).trans (by rw [show (96 : Int32).toInt = 96 by decide])
          refine lv_iload_n hx hb dX10_see_73 rfl (lv_at hl 3 rfl) ?_
          refine lv_iadd hx hb dX10_see_74 ?_
          refine lv_topi (fun x_86 e_87 => ?_)
          have i_x_86 : x_86.toInt = x_84.toInt + a2.toInt := by rw [e_87]; exact (q_add (by omega) (by omega)).trans (by rfl)
          refine lv_iload_n hx hb dX10_see_75 rfl (lv_at hl 4 rfl) ?_
          refine lv_pc (pc2 := 76) rfl ?_
          have b_88 : vp_in x_86 384 := (q_in (by omega) (by omega))
          refine ty_iast (F2 := (mF cI cL cC gC gE gW gA gT gI gS gM K F S N gH gJ ge gk gf gs gg gr RN)) hx hb hK hG hS 0 at_80 (by rw [h_46]; rfl) rfl b_88 (by rw [h_46]; exact ⟨_, rfl⟩) tFF dX10_see_76 (fun H locs hG hS at_89 o_90 => ?_)
          have at_70 := va_at.keptK at_70 o_90 h_46 k_a0 rfl
          refine lv_iload hx hb dX10_see_77 (lv_at hl 0 rfl) ?_
          exact ty_iret hx hb hr hlk hG hS True.intro dX10_see_79
        · skip
          refine lv_if_ne (tgt := 52) hx hb dX10_see_46 (by decide) (fun q => absurd rfl q) (fun _ => ?_)
          refine lv_bipush (v := (-102)) hx hb dX10_see_49 (by decide) ?_
          have zi_m102 : ((-102) : Int32).toInt = (-102) := by decide
          exact ty_iret hx hb hr hlk hG hS True.intro dX10_see_51
      · skip
        refine lv_if_ne (tgt := 41) hx hb dX10_see_35 (by decide) (fun q => absurd rfl q) (fun _ => ?_)
        refine lv_bipush (v := (-100)) hx hb dX10_see_38 (by decide) ?_
        refine lv_pc (pc2 := 40) rfl ?_
        have zi_m100 : ((-100) : Int32).toInt = (-100) := by decide
        exact ty_iret hx hb hr hlk hG hS True.intro dX10_see_40
    · skip
      refine lv_if_eq (tgt := 38) hx hb dX10_see_21 (by decide) (fun _ => ?_) (fun q => absurd (by decide) q)
      refine lv_bipush (v := (-100)) hx hb dX10_see_38 (by decide) ?_
      have zi_m100 : ((-100) : Int32).toInt = (-100) := by decide
      exact ty_iret hx hb hr hlk hG hS True.intro dX10_see_40
  · skip
    refine lv_if_eq (tgt := 38) hx hb dX10_see_9 (by decide) (fun _ => ?_) (fun q => absurd (by decide) q)
    refine lv_bipush (v := (-100)) hx hb dX10_see_38 (by decide) ?_
    have zi_m100 : ((-100) : Int32).toInt = (-100) := by decide
    exact ty_iret hx hb hr hlk hG hS True.intro dX10_see_40

def uX10_ends : List Cond := .code yX10_ends cX10_ends 3 (some .int) :: ([.constantLong RX10 256 (100000), .methodLink RX10 85 yX10_in, .static yX10_in, .initialized RX10, .fieldLink RX10 258 "RiverModelModel" "ends" "I", .code yX10_in cX10_in 6 (some .boolean)] ++ wsX100)
set_option maxRecDepth 20000 in
theorem gu_X10_ends_X10_in_85 : GoodIn uX10_ends (va_wsS RX10 85 yX10_in uX10_in) := goodIn_r _ [2, 3, 4, 6] rfl (by decide +kernel)
set_option maxHeartbeats 4000000 in
set_option maxRecDepth 100000 in
theorem m_X10_ends (l : Launch) (D : va_G) (t : Nat → Nat) (cI cL cC : ClassId) (gC : Int32) (gE : Int32) (gW : Nat → Int32) (gA : Nat → Int32) (gT : Nat → Int32) (gI : Int32) (gS : Int32) (gM : Int32) (K : Nat → Int32) (F : Nat → Int32) (S : Nat → Int32) (N : Nat → Int32) (gH : Int) (gJ : Int) (ge : Int32) (gk : Int32) (gf : Int32) (gs : Int32) (gg : Int32) (gr : Int32) (RN : Nat → Int32) (a0 : Nat) (a1 : Int32) (uq : ∀ b c : Nat, t b = t c → t b ≠ 0 → b = c) (hC0 : 0 ≤ gC.toInt) (hC4 : gC.toInt ≤ 400) (hI0 : 0 ≤ gI.toInt) (hI4 : gI.toInt ≤ 40) (hH0 : 0 ≤ gH) (hH9 : gH ≤ 96) (hm0 : 0 ≤ gM.toInt) (hm3 : gM.toInt ≤ 3) (hO0 : okM K F S N 0 gI.toInt) (hW : swM gS K F S N gI.toInt) (k_a0 : t a0 = 40) : tMx (Z := (Int32)) l yX10_ends uX10_ends 1 25 D (mF cI cL cC gC gE gW gA gT gI gS gM K F S N gH gJ ge gk gf gs gg gr RN) (fun z => (mF cI cL cC gC z gW gA gT gI gS gM K F S N gH gJ ge gk gf gs gg gr RN)) t cI cL cC [.ref a0, .int a1] w40 (xI (fun r (z : (Int32)) => r = aen gE a1 ∧ z = nen gE a1)) := by
  refine tMx.ofW (cc := cX10_ends) (maxL := 3) (ret := (some .int)) (by decide) rfl (Nat.le_of_ble_eq_true rfl) ?_
  intro p e s m below meth c hx hb hr hml hown hts hlk H locs hG hK hE hS ls hl
  have hl : lv_has ls 3 [(0, .ref a0), (1, .int a1)] := hl
  have in10 : ∀ w ∈ wsX100, w ∈ uX10_ends := fun w h => List.mem_cons_of_mem _ (List.mem_append_right _ h)
  refine lv_iload_n hx hb dX10_ends_0 rfl (lv_at hl 1 rfl) ?_
  refine lv_i2l (v := a1.toInt64) hx hb dX10_ends_1 rfl ?_
  refine lv_lconst (v := 0) hx hb dX10_ends_2 (by decide) ?_
  refine lv_ldc2 hx hb hown (hts (.constantLong RX10 256 (100000)) (List.mem_of_getElem? (i := 1) rfl)) dX10_ends_3 ?_
  have zl_0 : (0 : Int64).toInt = 0 := by decide
  have zl_100000 : (100000 : Int64).toInt = 100000 := by decide
  refine ty_calli (W.runS (As := [.long a1.toInt64, .long 0, .long 100000]) (rest := []) ⟨hx, hb, hml, hown, hts⟩ (m_X10_in l D t cI cL cC gC gE gW gA gT gI gS gM K F S N gH gJ ge gk gf gs gg gr RN a1.toInt64 0 100000 a1.toInt 0 100000 uq (q_i2l _) (by decide) (by decide) ) (va_cwS 3 hts gu_X10_ends_X10_in_85 rfl rfl rfl (by decide +kernel) ⟨Nat.le_of_ble_eq_true rfl, Nat.le_of_ble_eq_true rfl⟩) (tP_S hG hE) rfl rfl hl.1 rfl (lv_room (Nat.le_of_ble_eq_true rfl)) dX10_ends_6 ⟨Nat.le_of_ble_eq_true rfl, Nat.le_of_ble_eq_true rfl⟩) hS (fun k h => by simp [wr0] at h) (fun r_1 H locs hp_2 hG hS o_3 => ?_)
  have hp_2 : (r_1 = 1 ∧ 0 ≤ a1.toInt ∧ a1.toInt ≤ 100000) ∨ (r_1 = 0 ∧ (a1.toInt < 0 ∨ 100000 < a1.toInt)) := hp_2
  rcases hp_2 with ⟨rfl, p_5, p_6⟩ | ⟨rfl, p_7⟩
  · skip
    refine lv_if_ne (tgt := 14) hx hb dX10_ends_9 (by decide) (fun _ => ?_) (fun q => absurd q (by decide))
    refine lv_aload_n hx hb dX10_ends_14 rfl (lv_at hl 0 rfl) ?_
    refine lv_pc (pc2 := 15) rfl ?_
    obtain ⟨r_8, v_10, r_11, r_13, r_15, r_17, r_19, r_21, r_23, r_25, r_27, r_29, r_31, r_33, r_35, r_37, r_39, r_41, r_43, r_45, r_47, r_49, r_51, v_53, r_54, at_56, h_9, h_12, h_14, h_16, h_18, h_20, h_22, h_24, h_26, h_28, h_30, h_32, h_34, h_36, h_38, h_40, h_42, h_44, h_46, h_48, h_50, h_52, h_55⟩ := mF_o40 hG k_a0
    refine va_get (D := D) (ci := 9) (v := .int gE) (C := RX10) (T := TX10) (N := 36) hx hb hts in10 hown hK (va_one at_56) 0 rfl rfl 17 (by decide) (hts (.fieldLink RX10 258 "RiverModelModel" "ends" "I") (List.mem_of_getElem? (i := 5) rfl)) (fun _ h9 => h9) rfl dX10_ends_15 ?_
    refine lv_istore_n (lv' := [(2, .int gE), (0, .ref a0), (1, .int a1)]) hx hb dX10_ends_18 rfl hl (by decide) rfl (fun ls hl => ?_)
    refine lv_aload_n hx hb dX10_ends_19 rfl (lv_at hl 1 rfl) ?_
    refine lv_iload_n hx hb dX10_ends_20 rfl (lv_at hl 2 rfl) ?_
    refine ty_put (D := D) (ci := 9) (v := .int a1) (ty := .int) (C := RX10) (T := TX10) (N := 36) (F2 := (mF cI cL cC gC a1 gW gA gT gI gS gM K F S N gH gJ ge gk gf gs gg gr RN)) hx hb hts in10 tyX10 tyX10_ok nmX10 hown hK hG hS at_56 (by rw [k_a0]; rfl) rfl 17 (by decide) (hts (.fieldLink RX10 258 "RiverModelModel" "ends" "I") (List.mem_of_getElem? (i := 5) rfl)) (fun _ h9 => h9) rfl (by decide +kernel) rfl rfl (Nat.le_of_ble_eq_true rfl) (by rw [k_a0]; exact ⟨r_8, v_10, r_11, r_13, r_15, r_17, r_19, r_21, r_23, r_25, r_27, r_29, r_31, r_33, r_35, r_37, r_39, r_41, r_43, r_45, r_47, r_49, r_51, v_53, r_54, rfl, h_9, h_12, h_14, h_16, h_18, h_20, h_22, h_24, h_26, h_28, h_30, h_32, h_34, h_36, h_38, h_40, h_42, h_44, h_46, h_48, h_50, h_52, h_55⟩) (fun hG b hb h0 => by obtain ⟨e, g1, g2⟩ := hG b h0; exact ⟨e, g1, mF_gE (fun h => hb (uq b a0 (h.trans k_a0.symm) h0)) g2⟩) dX10_ends_21 (fun H locs hG hS at_57 o_58 => ?_)
    have at_57 : va_at D vwCl (a0, .inr (9, [.int gC, .ref r_8, .int v_10, .int gI, .ref r_11, .ref r_13, .ref r_15, .ref r_17, .int gS, .ref r_19, .ref r_21, .ref r_23, .ref r_25, .int gM, .ref r_27, .ref r_29, .ref r_31, .int a1, .ref r_33, .ref r_35, .ref r_37, .ref r_39, .ref r_41, .ref r_43, .ref r_45, .ref r_47, .ref r_49, .int ge, .int gk, .int gf, .int gs, .int gg, .ref r_51, .int gr, .int v_53, .ref r_54])) H := at_57
    refine lv_iload_n hx hb dX10_ends_24 rfl (lv_at hl 0 rfl) ?_
    exact tx_iret (z := (a1)) hx hb hr hlk hG hS ⟨(by show gE = aen gE a1; simp only [aen]; first | (rw [if_pos (by omega)]; done) | (rw [if_neg (by omega)]; done) | (rw [if_neg (by omega), if_pos (by omega)]; done) | (rw [if_neg (by omega), if_neg (by omega)]; done)), (by show a1 = nen gE a1; simp only [nen]; first | (rw [if_pos (by omega)]; done) | (rw [if_neg (by omega)]; done) | (rw [if_neg (by omega), if_pos (by omega)]; done) | (rw [if_neg (by omega), if_neg (by omega)]; done))⟩ dX10_ends_25
  · skip
    refine lv_if_ne (tgt := 14) hx hb dX10_ends_9 (by decide) (fun q => absurd rfl q) (fun _ => ?_)
    refine lv_pc (pc2 := 12) rfl ?_
    refine lv_iconst (v := (-1)) hx hb dX10_ends_12 (by decide) ?_
    have zi_m1 : ((-1) : Int32).toInt = (-1) := by decide
    exact tx_iret (z := (gE)) hx hb hr hlk hG hS ⟨(by show ((-1) : Int32) = aen gE a1; simp only [aen]; first | (rw [if_pos (by omega)]; done) | (rw [if_neg (by omega)]; done) | (rw [if_neg (by omega), if_pos (by omega)]; done) | (rw [if_neg (by omega), if_neg (by omega)]; done)), (by show gE = nen gE a1; simp only [nen]; first | (rw [if_pos (by omega)]; done) | (rw [if_neg (by omega)]; done) | (rw [if_neg (by omega), if_pos (by omega)]; done) | (rw [if_neg (by omega), if_neg (by omega)]; done))⟩ dX10_ends_13

def uX10_knob : List Cond := .code yX10_knob cX10_knob 7 (some .int) :: ([.methodLink RX10 85 yX10_in, .static yX10_in, .initialized RX10, .constantLong RX10 194 (39), .constantLong RX10 261 (2), .constantLong RX10 99 (1000000), .constantLong RX10 263 (16), .fieldLink RX10 173 "RiverModelModel" "isBuilt" "Z", .fieldLink RX10 163 "RiverModelModel" "items" "I", .fieldLink RX10 22 "RiverModelModel" "number" "[I", .fieldLink RX10 47 "RiverModelModel" "knobItem" "[I", .fieldLink RX10 50 "RiverModelModel" "knobAt" "[I", .fieldLink RX10 53 "RiverModelModel" "knobFrom" "[I", .fieldLink RX10 56 "RiverModelModel" "knobStep" "[I", .fieldLink RX10 59 "RiverModelModel" "knobMany" "[I", .code yX10_in cX10_in 6 (some .boolean)] ++ wsX100)
set_option maxRecDepth 20000 in
theorem gu_X10_knob_X10_in_85 : GoodIn uX10_knob (va_wsS RX10 85 yX10_in uX10_in) := goodIn_r _ [1, 2, 3, 16] rfl (by decide +kernel)
set_option maxHeartbeats 4000000 in
set_option maxRecDepth 100000 in
theorem m_X10_knob (l : Launch) (D : va_G) (t : Nat → Nat) (cI cL cC : ClassId) (gC : Int32) (gE : Int32) (gW : Nat → Int32) (gA : Nat → Int32) (gT : Nat → Int32) (gI : Int32) (gS : Int32) (gM : Int32) (K : Nat → Int32) (F : Nat → Int32) (S : Nat → Int32) (N : Nat → Int32) (gH : Int) (gJ : Int) (ge : Int32) (gk : Int32) (gf : Int32) (gs : Int32) (gg : Int32) (gr : Int32) (RN : Nat → Int32) (a0 : Nat) (a1 : Int32) (a2 : Int32) (a3 : Int32) (a4 : Int32) (a5 : Int32) (a6 : Int32) (uq : ∀ b c : Nat, t b = t c → t b ≠ 0 → b = c) (hC0 : 0 ≤ gC.toInt) (hC4 : gC.toInt ≤ 400) (hI0 : 0 ≤ gI.toInt) (hI4 : gI.toInt ≤ 40) (hH0 : 0 ≤ gH) (hH9 : gH ≤ 96) (hm0 : 0 ≤ gM.toInt) (hm3 : gM.toInt ≤ 3) (hO0 : okM K F S N 0 gI.toInt) (hW : swM gS K F S N gI.toInt) (k_a0 : t a0 = 40) : tM l yX10_knob uX10_knob 1 25 D (mF cI cL cC gC gE gW gA gT gI gS gM K F S N gH gJ ge gk gf gs gg gr RN) (mF cI cL cC gC gE gW gA gT gI gS gM K F S N gH gJ ge gk gf gs gg gr RN) t cI cL cC [.ref a0, .int a1, .int a2, .int a3, .int a4, .int a5, .int a6] wKn2 (pI (fun r => True)) := by
  refine tM.ofW (cc := cX10_knob) (maxL := 7) (ret := (some .int)) (by decide) rfl (Nat.le_of_ble_eq_true rfl) ?_
  intro p e s m below meth c hx hb hr hml hown hts hlk H locs hG hK hE hS ls hl
  have hl : lv_has ls 7 [(0, .ref a0), (1, .int a1), (2, .int a2), (3, .int a3), (4, .int a4), (5, .int a5), (6, .int a6)] := hl
  have in10 : ∀ w ∈ wsX100, w ∈ uX10_knob := fun w h => List.mem_cons_of_mem _ (List.mem_append_right _ h)
  refine lv_iload_n hx hb dX10_knob_0 rfl (lv_at hl 1 rfl) ?_
  refine lv_i2l (v := a1.toInt64) hx hb dX10_knob_1 rfl ?_
  refine lv_lconst (v := 0) hx hb dX10_knob_2 (by decide) ?_
  refine lv_lconst (v := 1) hx hb dX10_knob_3 (by decide) ?_
  have zl_0 : (0 : Int64).toInt = 0 := by decide
  have zl_1 : (1 : Int64).toInt = 1 := by decide
  refine ty_calli (W.runS (As := [.long a1.toInt64, .long 0, .long 1]) (rest := []) ⟨hx, hb, hml, hown, hts⟩ (m_X10_in l D t cI cL cC gC gE gW gA gT gI gS gM K F S N gH gJ ge gk gf gs gg gr RN a1.toInt64 0 1 a1.toInt 0 1 uq (q_i2l _) (by decide) (by decide) ) (va_cwS 3 hts gu_X10_knob_X10_in_85 rfl rfl rfl (by decide +kernel) ⟨Nat.le_of_ble_eq_true rfl, Nat.le_of_ble_eq_true rfl⟩) (tP_S hG hE) rfl rfl hl.1 rfl (lv_room (Nat.le_of_ble_eq_true rfl)) dX10_knob_4 ⟨Nat.le_of_ble_eq_true rfl, Nat.le_of_ble_eq_true rfl⟩) hS (fun k h => by simp [wr0] at h) (fun r_1 H locs hp_2 hG hS o_3 => ?_)
  have hp_2 : (r_1 = 1 ∧ 0 ≤ a1.toInt ∧ a1.toInt ≤ 1) ∨ (r_1 = 0 ∧ (a1.toInt < 0 ∨ 1 < a1.toInt)) := hp_2
  rcases hp_2 with ⟨rfl, p_5, p_6⟩ | ⟨rfl, p_7⟩
  · skip
    refine lv_if_eq (tgt := 73) hx hb dX10_knob_7 (by decide) (fun q => absurd q (by decide)) (fun _ => ?_)
    refine lv_iload_n hx hb dX10_knob_10 rfl (lv_at hl 2 rfl) ?_
    refine lv_pc (pc2 := 11) rfl ?_
    refine lv_i2l (v := a2.toInt64) hx hb dX10_knob_11 rfl ?_
    refine lv_lconst (v := 0) hx hb dX10_knob_12 (by decide) ?_
    refine lv_ldc2 hx hb hown (hts (.constantLong RX10 194 (39)) (List.mem_of_getElem? (i := 4) rfl)) dX10_knob_13 ?_
    have zl_39 : (39 : Int64).toInt = 39 := by decide
    refine ty_calli (W.runS (As := [.long a2.toInt64, .long 0, .long 39]) (rest := []) ⟨hx, hb, hml, hown, hts⟩ (m_X10_in l D t cI cL cC gC gE gW gA gT gI gS gM K F S N gH gJ ge gk gf gs gg gr RN a2.toInt64 0 39 a2.toInt 0 39 uq (q_i2l _) (by decide) (by decide) ) (va_cwS 3 hts gu_X10_knob_X10_in_85 rfl rfl rfl (by decide +kernel) ⟨Nat.le_of_ble_eq_true rfl, Nat.le_of_ble_eq_true rfl⟩) (tP_S hG hE) rfl rfl hl.1 rfl (lv_room (Nat.le_of_ble_eq_true rfl)) dX10_knob_16 ⟨Nat.le_of_ble_eq_true rfl, Nat.le_of_ble_eq_true rfl⟩) hS (fun k h => by simp [wr0] at h) (fun r_8 H locs hp_9 hG hS o_10 => ?_)
    have hp_9 : (r_8 = 1 ∧ 0 ≤ a2.toInt ∧ a2.toInt ≤ 39) ∨ (r_8 = 0 ∧ (a2.toInt < 0 ∨ 39 < a2.toInt)) := hp_9
    rcases hp_9 with ⟨rfl, p_12, p_13⟩ | ⟨rfl, p_14⟩
    · skip
      refine lv_if_eq (tgt := 73) hx hb dX10_knob_19 (by decide) (fun q => absurd q (by decide)) (fun _ => ?_)
      refine lv_iload_n hx hb dX10_knob_22 rfl (lv_at hl 3 rfl) ?_
      refine lv_i2l (v := a3.toInt64) hx hb dX10_knob_23 rfl ?_
      refine lv_lconst (v := 0) hx hb dX10_knob_24 (by decide) ?_
      refine lv_pc (pc2 := 25) rfl ?_
      refine lv_ldc2 hx hb hown (hts (.constantLong RX10 261 (2)) (List.mem_of_getElem? (i := 5) rfl)) dX10_knob_25 ?_
      have zl_2 : (2 : Int64).toInt = 2 := by decide
      refine ty_calli (W.runS (As := [.long a3.toInt64, .long 0, .long 2]) (rest := []) ⟨hx, hb, hml, hown, hts⟩ (m_X10_in l D t cI cL cC gC gE gW gA gT gI gS gM K F S N gH gJ ge gk gf gs gg gr RN a3.toInt64 0 2 a3.toInt 0 2 uq (q_i2l _) (by decide) (by decide) ) (va_cwS 3 hts gu_X10_knob_X10_in_85 rfl rfl rfl (by decide +kernel) ⟨Nat.le_of_ble_eq_true rfl, Nat.le_of_ble_eq_true rfl⟩) (tP_S hG hE) rfl rfl hl.1 rfl (lv_room (Nat.le_of_ble_eq_true rfl)) dX10_knob_28 ⟨Nat.le_of_ble_eq_true rfl, Nat.le_of_ble_eq_true rfl⟩) hS (fun k h => by simp [wr0] at h) (fun r_15 H locs hp_16 hG hS o_17 => ?_)
      have hp_16 : (r_15 = 1 ∧ 0 ≤ a3.toInt ∧ a3.toInt ≤ 2) ∨ (r_15 = 0 ∧ (a3.toInt < 0 ∨ 2 < a3.toInt)) := hp_16
      rcases hp_16 with ⟨rfl, p_19, p_20⟩ | ⟨rfl, p_21⟩
      · skip
        refine lv_if_eq (tgt := 73) hx hb dX10_knob_31 (by decide) (fun q => absurd q (by decide)) (fun _ => ?_)
        refine lv_iload hx hb dX10_knob_34 (lv_at hl 4 rfl) ?_
        refine lv_i2l (v := a4.toInt64) hx hb dX10_knob_36 rfl ?_
        refine lv_lconst (v := 0) hx hb dX10_knob_37 (by decide) ?_
        refine lv_ldc2 hx hb hown (hts (.constantLong RX10 99 (1000000)) (List.mem_of_getElem? (i := 6) rfl)) dX10_knob_38 ?_
        have zl_1000000 : (1000000 : Int64).toInt = 1000000 := by decide
        refine ty_calli (W.runS (As := [.long a4.toInt64, .long 0, .long 1000000]) (rest := []) ⟨hx, hb, hml, hown, hts⟩ (m_X10_in l D t cI cL cC gC gE gW gA gT gI gS gM K F S N gH gJ ge gk gf gs gg gr RN a4.toInt64 0 1000000 a4.toInt 0 1000000 uq (q_i2l _) (by decide) (by decide) ) (va_cwS 3 hts gu_X10_knob_X10_in_85 rfl rfl rfl (by decide +kernel) ⟨Nat.le_of_ble_eq_true rfl, Nat.le_of_ble_eq_true rfl⟩) (tP_S hG hE) rfl rfl hl.1 rfl (lv_room (Nat.le_of_ble_eq_true rfl)) dX10_knob_41 ⟨Nat.le_of_ble_eq_true rfl, Nat.le_of_ble_eq_true rfl⟩) hS (fun k h => by simp [wr0] at h) (fun r_22 H locs hp_23 hG hS o_24 => ?_)
        have hp_23 : (r_22 = 1 ∧ 0 ≤ a4.toInt ∧ a4.toInt ≤ 1000000) ∨ (r_22 = 0 ∧ (a4.toInt < 0 ∨ 1000000 < a4.toInt)) := hp_23
        rcases hp_23 with ⟨rfl, p_26, p_27⟩ | ⟨rfl, p_28⟩
        · skip
          refine lv_pc (pc2 := 44) rfl ?_
          refine lv_if_eq (tgt := 73) hx hb dX10_knob_44 (by decide) (fun q => absurd q (by decide)) (fun _ => ?_)
          refine lv_iload hx hb dX10_knob_47 (lv_at hl 5 rfl) ?_
          refine lv_i2l (v := a5.toInt64) hx hb dX10_knob_49 rfl ?_
          refine lv_lconst (v := 1) hx hb dX10_knob_50 (by decide) ?_
          refine lv_ldc2 hx hb hown (hts (.constantLong RX10 99 (1000000)) (List.mem_of_getElem? (i := 6) rfl)) dX10_knob_51 ?_
          refine ty_calli (W.runS (As := [.long a5.toInt64, .long 1, .long 1000000]) (rest := []) ⟨hx, hb, hml, hown, hts⟩ (m_X10_in l D t cI cL cC gC gE gW gA gT gI gS gM K F S N gH gJ ge gk gf gs gg gr RN a5.toInt64 1 1000000 a5.toInt 1 1000000 uq (q_i2l _) (by decide) (by decide) ) (va_cwS 3 hts gu_X10_knob_X10_in_85 rfl rfl rfl (by decide +kernel) ⟨Nat.le_of_ble_eq_true rfl, Nat.le_of_ble_eq_true rfl⟩) (tP_S hG hE) rfl rfl hl.1 rfl (lv_room (Nat.le_of_ble_eq_true rfl)) dX10_knob_54 ⟨Nat.le_of_ble_eq_true rfl, Nat.le_of_ble_eq_true rfl⟩) hS (fun k h => by simp [wr0] at h) (fun r_29 H locs hp_30 hG hS o_31 => ?_)
          have hp_30 : (r_29 = 1 ∧ 1 ≤ a5.toInt ∧ a5.toInt ≤ 1000000) ∨ (r_29 = 0 ∧ (a5.toInt < 1 ∨ 1000000 < a5.toInt)) := hp_30
          rcases hp_30 with ⟨rfl, p_33, p_34⟩ | ⟨rfl, p_35⟩
          · skip
            refine lv_if_eq (tgt := 73) hx hb dX10_knob_57 (by decide) (fun q => absurd q (by decide)) (fun _ => ?_)
            refine lv_iload hx hb dX10_knob_60 (lv_at hl 6 rfl) ?_
            refine lv_pc (pc2 := 62) rfl ?_
            refine lv_i2l (v := a6.toInt64) hx hb dX10_knob_62 rfl ?_
            refine lv_lconst (v := 0) hx hb dX10_knob_63 (by decide) ?_
            refine lv_ldc2 hx hb hown (hts (.constantLong RX10 263 (16)) (List.mem_of_getElem? (i := 7) rfl)) dX10_knob_64 ?_
            have zl_16 : (16 : Int64).toInt = 16 := by decide
            refine ty_calli (W.runS (As := [.long a6.toInt64, .long 0, .long 16]) (rest := []) ⟨hx, hb, hml, hown, hts⟩ (m_X10_in l D t cI cL cC gC gE gW gA gT gI gS gM K F S N gH gJ ge gk gf gs gg gr RN a6.toInt64 0 16 a6.toInt 0 16 uq (q_i2l _) (by decide) (by decide) ) (va_cwS 3 hts gu_X10_knob_X10_in_85 rfl rfl rfl (by decide +kernel) ⟨Nat.le_of_ble_eq_true rfl, Nat.le_of_ble_eq_true rfl⟩) (tP_S hG hE) rfl rfl hl.1 rfl (lv_room (Nat.le_of_ble_eq_true rfl)) dX10_knob_67 ⟨Nat.le_of_ble_eq_true rfl, Nat.le_of_ble_eq_true rfl⟩) hS (fun k h => by simp [wr0] at h) (fun r_36 H locs hp_37 hG hS o_38 => ?_)
            have hp_37 : (r_36 = 1 ∧ 0 ≤ a6.toInt ∧ a6.toInt ≤ 16) ∨ (r_36 = 0 ∧ (a6.toInt < 0 ∨ 16 < a6.toInt)) := hp_37
            rcases hp_37 with ⟨rfl, p_40, p_41⟩ | ⟨rfl, p_42⟩
            · skip
              refine lv_if_ne (tgt := 75) hx hb dX10_knob_70 (by decide) (fun _ => ?_) (fun q => absurd q (by decide))
              refine lv_aload_n hx hb dX10_knob_75 rfl (lv_at hl 0 rfl) ?_
              obtain ⟨r_43, v_45, r_46, r_48, r_50, r_52, r_54, r_56, r_58, r_60, r_62, r_64, r_66, r_68, r_70, r_72, r_74, r_76, r_78, r_80, r_82, r_84, r_86, v_88, r_89, at_91, h_44, h_47, h_49, h_51, h_53, h_55, h_57, h_59, h_61, h_63, h_65, h_67, h_69, h_71, h_73, h_75, h_77, h_79, h_81, h_83, h_85, h_87, h_90⟩ := mF_o40 hG k_a0
              refine va_get (D := D) (ci := 9) (v := .int v_45) (C := RX10) (T := TX10) (N := 36) hx hb hts in10 hown hK (va_one at_91) 0 rfl rfl 2 (by decide) (hts (.fieldLink RX10 173 "RiverModelModel" "isBuilt" "Z") (List.mem_of_getElem? (i := 8) rfl)) (fun _ h9 => h9) rfl dX10_knob_76 ?_
              refine lv_if_eq (tgt := 103) hx hb dX10_knob_79 (by decide) (fun c_92 => ?_) (fun c_92 => ?_)
              · skip
                have c_92 : v_45.toInt = 0 := q_eq c_92
                refine lv_pc (pc2 := 103) rfl ?_
                refine lv_bipush (v := (-2)) hx hb dX10_knob_103 (by decide) ?_
                have zi_m2 : ((-2) : Int32).toInt = (-2) := by decide
                exact ty_iret hx hb hr hlk hG hS True.intro dX10_knob_105
              · skip
                have c_92 : v_45.toInt ≠ 0 := q_ne c_92
                refine lv_iload_n hx hb dX10_knob_82 rfl (lv_at hl 2 rfl) ?_
                refine lv_aload_n hx hb dX10_knob_83 rfl (lv_at hl 0 rfl) ?_
                refine va_get (D := D) (ci := 9) (v := .int gI) (C := RX10) (T := TX10) (N := 36) hx hb hts in10 hown hK (va_one at_91) 0 rfl rfl 3 (by decide) (hts (.fieldLink RX10 163 "RiverModelModel" "items" "I") (List.mem_of_getElem? (i := 9) rfl)) (fun _ h9 => h9) rfl dX10_knob_84 ?_
                refine lv_icmp_ge (tgt := 103) hx hb dX10_knob_87 (by decide) (fun c_93 => ?_) (fun c_93 => ?_)
                · skip
                  have c_93 : gI.toInt ≤ a2.toInt := q_le c_93
                  refine lv_bipush (v := (-2)) hx hb dX10_knob_103 (by decide) ?_
                  have zi_m2 : ((-2) : Int32).toInt = (-2) := by decide
                  exact ty_iret hx hb hr hlk hG hS True.intro dX10_knob_105
                · skip
                  have c_93 : a2.toInt < gI.toInt := q_nle c_93
                  refine lv_pc (pc2 := 90) rfl ?_
                  refine lv_aload_n hx hb dX10_knob_90 rfl (lv_at hl 0 rfl) ?_
                  refine va_get (D := D) (ci := 9) (v := .ref r_52) (C := RX10) (T := TX10) (N := 36) hx hb hts in10 hown hK (va_one at_91) 0 rfl rfl 7 (by decide) (hts (.fieldLink RX10 22 "RiverModelModel" "number" "[I") (List.mem_of_getElem? (i := 10) rfl)) (fun _ h9 => h9) rfl dX10_knob_91 ?_
                  refine lv_iconst (v := 3) hx hb dX10_knob_94 (by decide) ?_
                  refine lv_iload_n hx hb dX10_knob_95 rfl (lv_at hl 2 rfl) ?_
                  refine lv_imul hx hb dX10_knob_96 ?_
                  refine lv_topi (fun x_94 e_95 => ?_)
                  have i_x_94 : x_94.toInt = 3 * a2.toInt := by rw [e_95]; exact (q_mul (by rw [show (3 : Int32).toInt = 3 by decide]; omega) (by rw [show (3 : Int32).toInt = 3 by decide]; omega)).trans (by rw [show (3 : Int32).toInt = 3 by decide])
                  refine lv_iload_n hx hb dX10_knob_97 rfl (lv_at hl 3 rfl) ?_
                  refine lv_iadd hx hb dX10_knob_98 ?_
                  refine lv_topi (fun x_96 e_97 => ?_)
                  have i_x_96 : x_96.toInt = x_94.toInt + a3.toInt := by rw [e_97]; exact (q_add (by omega) (by omega)).trans (by rfl)
                  have at_98 := mF_o45 hG h_53
                  have b_99 : vp_in x_96 360 := (q_in (by omega) (by omega))
                  refine va_iald hx hb hK (va_one at_98) 0 0 rfl rfl b_99 dX10_knob_99 ?_
                  refine lv_topi (fun x_100 e_101 => ?_)
                  have w_x_100 : x_100 = N (x_96.toInt).toNat := by rw [e_101]; exact congrArg (fun q : Int => N q.toNat) (show x_96.toInt = x_96.toInt by omega)
                  have i_x_100 : x_100.toInt = (N (x_96.toInt).toNat).toInt := by rw [w_x_100]
                  refine lv_pc (pc2 := 100) rfl ?_
                  refine lv_if_ge (tgt := 106) hx hb dX10_knob_100 (by decide) (fun c_102 => ?_) (fun c_102 => ?_)
                  · skip
                    have c_102 : 0 ≤ x_100.toInt := q_le c_102
                    refine lv_aload_n hx hb dX10_knob_106 rfl (lv_at hl 0 rfl) ?_
                    refine va_get (D := D) (ci := 9) (v := .ref r_68) (C := RX10) (T := TX10) (N := 36) hx hb hts in10 hown hK (va_one at_91) 0 rfl rfl 18 (by decide) (hts (.fieldLink RX10 47 "RiverModelModel" "knobItem" "[I") (List.mem_of_getElem? (i := 11) rfl)) (fun _ h9 => h9) rfl dX10_knob_107 ?_
                    refine lv_iload_n hx hb dX10_knob_110 rfl (lv_at hl 1 rfl) ?_
                    refine lv_iload_n hx hb dX10_knob_111 rfl (lv_at hl 2 rfl) ?_
                    obtain ⟨f_103, at_104, h_105⟩ := mF_o53 hG h_69
                    have b_106 : vp_in a1 2 := (q_in (by omega) (by omega))
                    refine ty_iast (F2 := (mF cI cL cC gC gE gW gA gT gI gS gM K F S N gH gJ ge gk gf gs gg gr RN)) hx hb hK hG hS 0 at_104 (by rw [h_69]; rfl) rfl b_106 (by rw [h_69]; exact ⟨_, rfl, gBd_upd h_105 (by omega)⟩) tFF dX10_knob_112 (fun H locs hG hS at_107 o_108 => ?_)
                    have at_91 := va_at.keptK at_91 o_108 h_69 k_a0 rfl
                    have at_98 := va_at.keptK at_98 o_108 h_69 h_53 rfl
                    refine lv_aload_n hx hb dX10_knob_113 rfl (lv_at hl 0 rfl) ?_
                    refine va_get (D := D) (ci := 9) (v := .ref r_70) (C := RX10) (T := TX10) (N := 36) hx hb hts in10 hown hK (va_one at_91) 0 rfl rfl 19 (by decide) (hts (.fieldLink RX10 50 "RiverModelModel" "knobAt" "[I") (List.mem_of_getElem? (i := 12) rfl)) (fun _ h9 => h9) rfl dX10_knob_114 ?_
                    refine lv_pc (pc2 := 117) rfl ?_
                    refine lv_iload_n hx hb dX10_knob_117 rfl (lv_at hl 1 rfl) ?_
                    refine lv_iload_n hx hb dX10_knob_118 rfl (lv_at hl 3 rfl) ?_
                    obtain ⟨f_109, at_110, h_111⟩ := mF_o54 hG h_71
                    have b_112 : vp_in a1 2 := (q_in (by omega) (by omega))
                    refine ty_iast (F2 := (mF cI cL cC gC gE gW gA gT gI gS gM K F S N gH gJ ge gk gf gs gg gr RN)) hx hb hK hG hS 0 at_110 (by rw [h_71]; rfl) rfl b_112 (by rw [h_71]; exact ⟨_, rfl, gBd_upd h_111 (by omega)⟩) tFF dX10_knob_119 (fun H locs hG hS at_113 o_114 => ?_)
                    have at_91 := va_at.keptK at_91 o_114 h_71 k_a0 rfl
                    have at_98 := va_at.keptK at_98 o_114 h_71 h_53 rfl
                    refine lv_aload_n hx hb dX10_knob_120 rfl (lv_at hl 0 rfl) ?_
                    refine va_get (D := D) (ci := 9) (v := .ref r_72) (C := RX10) (T := TX10) (N := 36) hx hb hts in10 hown hK (va_one at_91) 0 rfl rfl 20 (by decide) (hts (.fieldLink RX10 53 "RiverModelModel" "knobFrom" "[I") (List.mem_of_getElem? (i := 13) rfl)) (fun _ h9 => h9) rfl dX10_knob_121 ?_
                    refine lv_iload_n hx hb dX10_knob_124 rfl (lv_at hl 1 rfl) ?_
                    refine lv_iload hx hb dX10_knob_125 (lv_at hl 4 rfl) ?_
                    obtain ⟨f_115, at_116⟩ := mF_o55 hG h_73
                    have b_117 : vp_in a1 2 := (q_in (by omega) (by omega))
                    refine ty_iast (F2 := (mF cI cL cC gC gE gW gA gT gI gS gM K F S N gH gJ ge gk gf gs gg gr RN)) hx hb hK hG hS 0 at_116 (by rw [h_73]; rfl) rfl b_117 (by rw [h_73]; exact ⟨_, rfl⟩) tFF dX10_knob_127 (fun H locs hG hS at_118 o_119 => ?_)
                    have at_91 := va_at.keptK at_91 o_119 h_73 k_a0 rfl
                    have at_98 := va_at.keptK at_98 o_119 h_73 h_53 rfl
                    refine lv_pc (pc2 := 128) rfl ?_
                    refine lv_aload_n hx hb dX10_knob_128 rfl (lv_at hl 0 rfl) ?_
                    refine va_get (D := D) (ci := 9) (v := .ref r_74) (C := RX10) (T := TX10) (N := 36) hx hb hts in10 hown hK (va_one at_91) 0 rfl rfl 21 (by decide) (hts (.fieldLink RX10 56 "RiverModelModel" "knobStep" "[I") (List.mem_of_getElem? (i := 14) rfl)) (fun _ h9 => h9) rfl dX10_knob_129 ?_
                    refine lv_iload_n hx hb dX10_knob_132 rfl (lv_at hl 1 rfl) ?_
                    refine lv_iload hx hb dX10_knob_133 (lv_at hl 5 rfl) ?_
                    obtain ⟨f_120, at_121⟩ := mF_o56 hG h_75
                    have b_122 : vp_in a1 2 := (q_in (by omega) (by omega))
                    refine ty_iast (F2 := (mF cI cL cC gC gE gW gA gT gI gS gM K F S N gH gJ ge gk gf gs gg gr RN)) hx hb hK hG hS 0 at_121 (by rw [h_75]; rfl) rfl b_122 (by rw [h_75]; exact ⟨_, rfl⟩) tFF dX10_knob_135 (fun H locs hG hS at_123 o_124 => ?_)
                    have at_91 := va_at.keptK at_91 o_124 h_75 k_a0 rfl
                    have at_98 := va_at.keptK at_98 o_124 h_75 h_53 rfl
                    refine lv_aload_n hx hb dX10_knob_136 rfl (lv_at hl 0 rfl) ?_
                    refine va_get (D := D) (ci := 9) (v := .ref r_76) (C := RX10) (T := TX10) (N := 36) hx hb hts in10 hown hK (va_one at_91) 0 rfl rfl 22 (by decide) (hts (.fieldLink RX10 59 "RiverModelModel" "knobMany" "[I") (List.mem_of_getElem? (i := 15) rfl)) (fun _ h9 => h9) rfl dX10_knob_137 ?_
                    refine lv_iload_n hx hb dX10_knob_140 rfl (lv_at hl 1 rfl) ?_
                    refine lv_pc (pc2 := 141) rfl ?_
                    refine lv_iload hx hb dX10_knob_141 (lv_at hl 6 rfl) ?_
                    obtain ⟨f_125, at_126, h_127⟩ := mF_o57 hG h_77
                    have b_128 : vp_in a1 2 := (q_in (by omega) (by omega))
                    refine ty_iast (F2 := (mF cI cL cC gC gE gW gA gT gI gS gM K F S N gH gJ ge gk gf gs gg gr RN)) hx hb hK hG hS 0 at_126 (by rw [h_77]; rfl) rfl b_128 (by rw [h_77]; exact ⟨_, rfl, gBd_upd h_127 (by omega)⟩) tFF dX10_knob_143 (fun H locs hG hS at_129 o_130 => ?_)
                    have at_91 := va_at.keptK at_91 o_130 h_77 k_a0 rfl
                    have at_98 := va_at.keptK at_98 o_130 h_77 h_53 rfl
                    refine lv_iconst (v := 0) hx hb dX10_knob_144 (by decide) ?_
                    have zi_0 : (0 : Int32).toInt = 0 := by decide
                    exact ty_iret hx hb hr hlk hG hS True.intro dX10_knob_145
                  · skip
                    have c_102 : x_100.toInt < 0 := q_nle c_102
                    refine lv_bipush (v := (-2)) hx hb dX10_knob_103 (by decide) ?_
                    have zi_m2 : ((-2) : Int32).toInt = (-2) := by decide
                    exact ty_iret hx hb hr hlk hG hS True.intro dX10_knob_105
            · skip
              refine lv_if_ne (tgt := 75) hx hb dX10_knob_70 (by decide) (fun q => absurd rfl q) (fun _ => ?_)
              refine lv_iconst (v := (-1)) hx hb dX10_knob_73 (by decide) ?_
              refine lv_pc (pc2 := 74) rfl ?_
              have zi_m1 : ((-1) : Int32).toInt = (-1) := by decide
              exact ty_iret hx hb hr hlk hG hS True.intro dX10_knob_74
          · skip
            refine lv_if_eq (tgt := 73) hx hb dX10_knob_57 (by decide) (fun _ => ?_) (fun q => absurd (by decide) q)
            refine lv_iconst (v := (-1)) hx hb dX10_knob_73 (by decide) ?_
            have zi_m1 : ((-1) : Int32).toInt = (-1) := by decide
            exact ty_iret hx hb hr hlk hG hS True.intro dX10_knob_74
        · skip
          refine lv_if_eq (tgt := 73) hx hb dX10_knob_44 (by decide) (fun _ => ?_) (fun q => absurd (by decide) q)
          refine lv_iconst (v := (-1)) hx hb dX10_knob_73 (by decide) ?_
          have zi_m1 : ((-1) : Int32).toInt = (-1) := by decide
          exact ty_iret hx hb hr hlk hG hS True.intro dX10_knob_74
      · skip
        refine lv_if_eq (tgt := 73) hx hb dX10_knob_31 (by decide) (fun _ => ?_) (fun q => absurd (by decide) q)
        refine lv_pc (pc2 := 73) rfl ?_
        refine lv_iconst (v := (-1)) hx hb dX10_knob_73 (by decide) ?_
        have zi_m1 : ((-1) : Int32).toInt = (-1) := by decide
        exact ty_iret hx hb hr hlk hG hS True.intro dX10_knob_74
    · skip
      refine lv_if_eq (tgt := 73) hx hb dX10_knob_19 (by decide) (fun _ => ?_) (fun q => absurd (by decide) q)
      refine lv_iconst (v := (-1)) hx hb dX10_knob_73 (by decide) ?_
      have zi_m1 : ((-1) : Int32).toInt = (-1) := by decide
      exact ty_iret hx hb hr hlk hG hS True.intro dX10_knob_74
  · skip
    refine lv_if_eq (tgt := 73) hx hb dX10_knob_7 (by decide) (fun _ => ?_) (fun q => absurd (by decide) q)
    refine lv_iconst (v := (-1)) hx hb dX10_knob_73 (by decide) ?_
    have zi_m1 : ((-1) : Int32).toInt = (-1) := by decide
    exact ty_iret hx hb hr hlk hG hS True.intro dX10_knob_74

def uX10_knobs : List Cond := .code yX10_knobs cX10_knobs 2 (some .int) :: ([.fieldLink RX10 59 "RiverModelModel" "knobMany" "[I"] ++ wsX100)
set_option maxHeartbeats 4000000 in
set_option maxRecDepth 100000 in
theorem m_X10_knobs (l : Launch) (D : va_G) (t : Nat → Nat) (cI cL cC : ClassId) (gC : Int32) (gE : Int32) (gW : Nat → Int32) (gA : Nat → Int32) (gT : Nat → Int32) (gI : Int32) (gS : Int32) (gM : Int32) (K : Nat → Int32) (F : Nat → Int32) (S : Nat → Int32) (N : Nat → Int32) (gH : Int) (gJ : Int) (ge : Int32) (gk : Int32) (gf : Int32) (gs : Int32) (gg : Int32) (gr : Int32) (RN : Nat → Int32) (a0 : Nat) (a1 : Int32) (uq : ∀ b c : Nat, t b = t c → t b ≠ 0 → b = c) (hk0 : 0 ≤ a1.toInt) (hk1 : a1.toInt ≤ 1) (k_a0 : t a0 = 40) : tM l yX10_knobs uX10_knobs 0 0 D (mF cI cL cC gC gE gW gA gT gI gS gM K F S N gH gJ ge gk gf gs gg gr RN) (mF cI cL cC gC gE gW gA gT gI gS gM K F S N gH gJ ge gk gf gs gg gr RN) t cI cL cC [.ref a0, .int a1] wr0 (pI (fun r => 1 ≤ r.toInt ∧ r.toInt ≤ 16)) := by
  refine tM.ofW (cc := cX10_knobs) (maxL := 2) (ret := (some .int)) (by decide) rfl (Nat.le_of_ble_eq_true rfl) ?_
  intro p e s m below meth c hx hb hr hml hown hts hlk H locs hG hK hE hS ls hl
  have hl : lv_has ls 2 [(0, .ref a0), (1, .int a1)] := hl
  have in10 : ∀ w ∈ wsX100, w ∈ uX10_knobs := fun w h => List.mem_cons_of_mem _ (List.mem_append_right _ h)
  refine lv_aload_n hx hb dX10_knobs_0 rfl (lv_at hl 0 rfl) ?_
  obtain ⟨r_1, v_3, r_4, r_6, r_8, r_10, r_12, r_14, r_16, r_18, r_20, r_22, r_24, r_26, r_28, r_30, r_32, r_34, r_36, r_38, r_40, r_42, r_44, v_46, r_47, at_49, h_2, h_5, h_7, h_9, h_11, h_13, h_15, h_17, h_19, h_21, h_23, h_25, h_27, h_29, h_31, h_33, h_35, h_37, h_39, h_41, h_43, h_45, h_48⟩ := mF_o40 hG k_a0
  refine va_get (D := D) (ci := 9) (v := .ref r_34) (C := RX10) (T := TX10) (N := 36) hx hb hts in10 hown hK (va_one at_49) 0 rfl rfl 22 (by decide) (hts (.fieldLink RX10 59 "RiverModelModel" "knobMany" "[I") (List.mem_of_getElem? (i := 1) rfl)) (fun _ h9 => h9) rfl dX10_knobs_1 ?_
  refine lv_iload_n hx hb dX10_knobs_4 rfl (lv_at hl 1 rfl) ?_
  obtain ⟨f_50, at_51, h_52⟩ := mF_o57 hG h_35
  have b_53 : vp_in a1 2 := (q_in (by omega) (by omega))
  refine va_iald hx hb hK (va_one at_51) 0 0 rfl rfl b_53 dX10_knobs_5 ?_
  refine lv_topi (fun x_54 e_55 => ?_)
  have i_x_54 := by have h := h_52 _ (q_inlt b_53); rw [← e_55] at h; exact h
  refine lv_if_ne (tgt := 13) hx hb dX10_knobs_6 (by decide) (fun c_56 => ?_) (fun c_56 => ?_)
  · skip
    have c_56 : x_54.toInt ≠ 0 := q_ne c_56
    refine lv_aload_n hx hb dX10_knobs_13 rfl (lv_at hl 0 rfl) ?_
    refine va_get (D := D) (ci := 9) (v := .ref r_34) (C := RX10) (T := TX10) (N := 36) hx hb hts in10 hown hK (va_one at_49) 0 rfl rfl 22 (by decide) (hts (.fieldLink RX10 59 "RiverModelModel" "knobMany" "[I") (List.mem_of_getElem? (i := 1) rfl)) (fun _ h9 => h9) rfl dX10_knobs_14 ?_
    refine lv_pc (pc2 := 17) rfl ?_
    refine lv_iload_n hx hb dX10_knobs_17 rfl (lv_at hl 1 rfl) ?_
    have b_57 : vp_in a1 2 := (q_in (by omega) (by omega))
    refine va_iald hx hb hK (va_one at_51) 0 0 rfl rfl b_57 dX10_knobs_18 ?_
    refine lv_seti (y := x_54) e_55.symm ?_
    exact ty_iret hx hb hr hlk hG hS ⟨(by show 1 ≤ x_54.toInt; omega), (by show x_54.toInt ≤ 16; omega)⟩ dX10_knobs_19
  · skip
    have c_56 : x_54.toInt = 0 := q_eq c_56
    refine lv_iconst (v := 1) hx hb dX10_knobs_9 (by decide) ?_
    refine lv_goto (tgt := 19) hx hb dX10_knobs_10 (by decide) ?_
    have zi_1 : (1 : Int32).toInt = 1 := by decide
    exact ty_iret hx hb hr hlk hG hS ⟨(by show 1 ≤ (1 : Int32).toInt; omega), (by show (1 : Int32).toInt ≤ 16; omega)⟩ dX10_knobs_19

def uX10_knobValue : List Cond := .code yX10_knobValue cX10_knobValue 4 (some .int) :: ([.methodLink RX10 265 yX10_knobs, .instanceMethod yX10_knobs, .selects RX10 yX10_knobs yX10_knobs, .initialized RX10, .fieldLink RX10 53 "RiverModelModel" "knobFrom" "[I", .fieldLink RX10 56 "RiverModelModel" "knobStep" "[I", .code yX10_knobs cX10_knobs 2 (some .int), .fieldLink RX10 59 "RiverModelModel" "knobMany" "[I"] ++ wsX100)
set_option maxRecDepth 20000 in
theorem gu_X10_knobValue_X10_knobs_265 : GoodIn uX10_knobValue (wsV RX10 265 RX10 yX10_knobs uX10_knobs) := goodIn_r _ [1, 2, 3, 4, 7, 8, 9, 10, 11, 12, 13, 14, 15, 16, 17, 18, 19, 20, 21, 22, 23, 24, 25, 26, 27, 28, 29, 30, 31, 32, 33, 34, 35, 36, 37, 38, 39, 40, 41, 42, 43, 44] rfl (by decide +kernel)
set_option maxHeartbeats 4000000 in
set_option maxRecDepth 100000 in
theorem m_X10_knobValue (l : Launch) (D : va_G) (t : Nat → Nat) (cI cL cC : ClassId) (gC : Int32) (gE : Int32) (gW : Nat → Int32) (gA : Nat → Int32) (gT : Nat → Int32) (gI : Int32) (gS : Int32) (gM : Int32) (K : Nat → Int32) (F : Nat → Int32) (S : Nat → Int32) (N : Nat → Int32) (gH : Int) (gJ : Int) (ge : Int32) (gk : Int32) (gf : Int32) (gs : Int32) (gg : Int32) (gr : Int32) (RN : Nat → Int32) (a0 : Nat) (a1 : Int32) (a2 : Int32) (uq : ∀ b c : Nat, t b = t c → t b ≠ 0 → b = c) (hk0 : 0 ≤ a1.toInt) (hk1 : a1.toInt ≤ 1) (k_a0 : t a0 = 40) : tM l yX10_knobValue uX10_knobValue 1 21 D (mF cI cL cC gC gE gW gA gT gI gS gM K F S N gH gJ ge gk gf gs gg gr RN) (mF cI cL cC gC gE gW gA gT gI gS gM K F S N gH gJ ge gk gf gs gg gr RN) t cI cL cC [.ref a0, .int a1, .int a2] wr0 (pI (fun r => True)) := by
  refine tM.ofW (cc := cX10_knobValue) (maxL := 4) (ret := (some .int)) (by decide) rfl (Nat.le_of_ble_eq_true rfl) ?_
  intro p e s m below meth c hx hb hr hml hown hts hlk H locs hG hK hE hS ls hl
  have hl : lv_has ls 4 [(0, .ref a0), (1, .int a1), (2, .int a2)] := hl
  have in10 : ∀ w ∈ wsX100, w ∈ uX10_knobValue := fun w h => List.mem_cons_of_mem _ (List.mem_append_right _ h)
  refine lv_iload_n hx hb dX10_knobValue_0 rfl (lv_at hl 1 rfl) ?_
  refine lv_if_ne (tgt := 14) hx hb dX10_knobValue_1 (by decide) (fun c_1 => ?_) (fun c_1 => ?_)
  · skip
    have c_1 : a1.toInt ≠ 0 := q_ne c_1
    refine lv_iload_n hx hb dX10_knobValue_14 rfl (lv_at hl 2 rfl) ?_
    refine lv_aload_n hx hb dX10_knobValue_15 rfl (lv_at hl 0 rfl) ?_
    refine lv_iconst (v := 1) hx hb dX10_knobValue_16 (by decide) ?_
    have zi_1 : (1 : Int32).toInt = 1 := by decide
    obtain ⟨r_2, v_4, r_5, r_7, r_9, r_11, r_13, r_15, r_17, r_19, r_21, r_23, r_25, r_27, r_29, r_31, r_33, r_35, r_37, r_39, r_41, r_43, r_45, v_47, r_48, at_50, h_3, h_6, h_8, h_10, h_12, h_14, h_16, h_18, h_20, h_22, h_24, h_26, h_28, h_30, h_32, h_34, h_36, h_38, h_40, h_42, h_44, h_46, h_49⟩ := mF_o40 hG k_a0
    refine ty_calli (W.runV (As := [.int 1]) (rest := [.int a2]) ⟨hx, hb, hml, hown, hts⟩ (m_X10_knobs l D t cI cL cC gC gE gW gA gT gI gS gM K F S N gH gJ ge gk gf gs gg gr RN a0 1  uq (by omega) (by omega) k_a0) (cwV 1 hts gu_X10_knobValue_X10_knobs_265 rfl rfl rfl (by decide +kernel) ⟨Nat.le_of_ble_eq_true rfl, Nat.le_of_ble_eq_true rfl⟩) (tP_V hG hE at_50 rfl) rfl rfl hl.1 rfl (lv_room (Nat.le_of_ble_eq_true rfl)) dX10_knobValue_17 ⟨Nat.le_of_ble_eq_true rfl, Nat.le_of_ble_eq_true rfl⟩) hS (fun _ h => h) (fun r_51 H locs hp_52 hG hS o_53 => ?_)
    have at_50 := va_at.keptC at_50 o_53 k_a0 rfl
    have hp_52 : 1 ≤ r_51.toInt ∧ r_51.toInt ≤ 16 := hp_52
    obtain ⟨p_55, p_56⟩ := hp_52
    refine lv_irem hx hb dX10_knobValue_20 (q_nz (by omega)) ?_
    refine lv_topi (fun x_57 e_58 => ?_)
    refine lv_pc (pc2 := 21) rfl ?_
    refine lv_istore_n (lv' := [(3, .int x_57), (0, .ref a0), (1, .int a1), (2, .int a2)]) hx hb dX10_knobValue_21 rfl hl (by decide) rfl (fun ls hl => ?_)
    refine lv_aload_n hx hb dX10_knobValue_22 rfl (lv_at hl 1 rfl) ?_
    refine va_get (D := D) (ci := 9) (v := .ref r_31) (C := RX10) (T := TX10) (N := 36) hx hb hts in10 hown hK (va_one at_50) 0 rfl rfl 20 (by decide) (hts (.fieldLink RX10 53 "RiverModelModel" "knobFrom" "[I") (List.mem_of_getElem? (i := 5) rfl)) (fun _ h9 => h9) rfl dX10_knobValue_23 ?_
    refine lv_iload_n hx hb dX10_knobValue_26 rfl (lv_at hl 2 rfl) ?_
    obtain ⟨f_59, at_60⟩ := mF_o55 hG h_32
    have b_61 : vp_in a1 2 := (q_in (by omega) (by omega))
    refine va_iald hx hb hK (va_one at_60) 0 0 rfl rfl b_61 dX10_knobValue_27 ?_
    refine lv_topi (fun x_62 e_63 => ?_)
    refine lv_iload_n hx hb dX10_knobValue_28 rfl (lv_at hl 0 rfl) ?_
    refine lv_aload_n hx hb dX10_knobValue_29 rfl (lv_at hl 1 rfl) ?_
    refine va_get (D := D) (ci := 9) (v := .ref r_33) (C := RX10) (T := TX10) (N := 36) hx hb hts in10 hown hK (va_one at_50) 0 rfl rfl 21 (by decide) (hts (.fieldLink RX10 56 "RiverModelModel" "knobStep" "[I") (List.mem_of_getElem? (i := 6) rfl)) (fun _ h9 => h9) rfl dX10_knobValue_30 ?_
    refine lv_pc (pc2 := 33) rfl ?_
    refine lv_iload_n hx hb dX10_knobValue_33 rfl (lv_at hl 2 rfl) ?_
    obtain ⟨f_64, at_65⟩ := mF_o56 hG h_34
    have b_66 : vp_in a1 2 := (q_in (by omega) (by omega))
    refine va_iald hx hb hK (va_one at_65) 0 0 rfl rfl b_66 dX10_knobValue_34 ?_
    refine lv_topi (fun x_67 e_68 => ?_)
    refine lv_imul hx hb dX10_knobValue_35 ?_
    refine lv_topi (fun x_69 e_70 => ?_)
    refine lv_iadd hx hb dX10_knobValue_36 ?_
    refine lv_topi (fun x_71 e_72 => ?_)
    exact ty_iret hx hb hr hlk hG hS True.intro dX10_knobValue_37
  · skip
    have c_1 : a1.toInt = 0 := q_eq c_1
    refine lv_iload_n hx hb dX10_knobValue_4 rfl (lv_at hl 2 rfl) ?_
    refine lv_aload_n hx hb dX10_knobValue_5 rfl (lv_at hl 0 rfl) ?_
    refine lv_iconst (v := 1) hx hb dX10_knobValue_6 (by decide) ?_
    refine lv_pc (pc2 := 7) rfl ?_
    have zi_1 : (1 : Int32).toInt = 1 := by decide
    obtain ⟨r_73, v_75, r_76, r_78, r_80, r_82, r_84, r_86, r_88, r_90, r_92, r_94, r_96, r_98, r_100, r_102, r_104, r_106, r_108, r_110, r_112, r_114, r_116, v_118, r_119, at_121, h_74, h_77, h_79, h_81, h_83, h_85, h_87, h_89, h_91, h_93, h_95, h_97, h_99, h_101, h_103, h_105, h_107, h_109, h_111, h_113, h_115, h_117, h_120⟩ := mF_o40 hG k_a0
    refine ty_calli (W.runV (As := [.int 1]) (rest := [.int a2]) ⟨hx, hb, hml, hown, hts⟩ (m_X10_knobs l D t cI cL cC gC gE gW gA gT gI gS gM K F S N gH gJ ge gk gf gs gg gr RN a0 1  uq (by omega) (by omega) k_a0) (cwV 1 hts gu_X10_knobValue_X10_knobs_265 rfl rfl rfl (by decide +kernel) ⟨Nat.le_of_ble_eq_true rfl, Nat.le_of_ble_eq_true rfl⟩) (tP_V hG hE at_121 rfl) rfl rfl hl.1 rfl (lv_room (Nat.le_of_ble_eq_true rfl)) dX10_knobValue_7 ⟨Nat.le_of_ble_eq_true rfl, Nat.le_of_ble_eq_true rfl⟩) hS (fun _ h => h) (fun r_122 H locs hp_123 hG hS o_124 => ?_)
    have at_121 := va_at.keptC at_121 o_124 k_a0 rfl
    have hp_123 : 1 ≤ r_122.toInt ∧ r_122.toInt ≤ 16 := hp_123
    obtain ⟨p_126, p_127⟩ := hp_123
    refine lv_idiv hx hb dX10_knobValue_10 (q_nz (by omega)) ?_
    refine lv_topi (fun x_128 e_129 => ?_)
    refine lv_goto (tgt := 21) hx hb dX10_knobValue_11 (by decide) ?_
    refine lv_istore_n (lv' := [(3, .int x_128), (0, .ref a0), (1, .int a1), (2, .int a2)]) hx hb dX10_knobValue_21 rfl hl (by decide) rfl (fun ls hl => ?_)
    refine lv_aload_n hx hb dX10_knobValue_22 rfl (lv_at hl 1 rfl) ?_
    refine va_get (D := D) (ci := 9) (v := .ref r_102) (C := RX10) (T := TX10) (N := 36) hx hb hts in10 hown hK (va_one at_121) 0 rfl rfl 20 (by decide) (hts (.fieldLink RX10 53 "RiverModelModel" "knobFrom" "[I") (List.mem_of_getElem? (i := 5) rfl)) (fun _ h9 => h9) rfl dX10_knobValue_23 ?_
    refine lv_iload_n hx hb dX10_knobValue_26 rfl (lv_at hl 2 rfl) ?_
    obtain ⟨f_130, at_131⟩ := mF_o55 hG h_103
    have b_132 : vp_in a1 2 := (q_in (by omega) (by omega))
    refine va_iald hx hb hK (va_one at_131) 0 0 rfl rfl b_132 dX10_knobValue_27 ?_
    refine lv_topi (fun x_133 e_134 => ?_)
    refine lv_pc (pc2 := 28) rfl ?_
    refine lv_iload_n hx hb dX10_knobValue_28 rfl (lv_at hl 0 rfl) ?_
    refine lv_aload_n hx hb dX10_knobValue_29 rfl (lv_at hl 1 rfl) ?_
    refine va_get (D := D) (ci := 9) (v := .ref r_104) (C := RX10) (T := TX10) (N := 36) hx hb hts in10 hown hK (va_one at_121) 0 rfl rfl 21 (by decide) (hts (.fieldLink RX10 56 "RiverModelModel" "knobStep" "[I") (List.mem_of_getElem? (i := 6) rfl)) (fun _ h9 => h9) rfl dX10_knobValue_30 ?_
    refine lv_iload_n hx hb dX10_knobValue_33 rfl (lv_at hl 2 rfl) ?_
    obtain ⟨f_135, at_136⟩ := mF_o56 hG h_105
    have b_137 : vp_in a1 2 := (q_in (by omega) (by omega))
    refine va_iald hx hb hK (va_one at_136) 0 0 rfl rfl b_137 dX10_knobValue_34 ?_
    refine lv_topi (fun x_138 e_139 => ?_)
    refine lv_imul hx hb dX10_knobValue_35 ?_
    refine lv_topi (fun x_140 e_141 => ?_)
    refine lv_iadd hx hb dX10_knobValue_36 ?_
    refine lv_topi (fun x_142 e_143 => ?_)
    exact ty_iret hx hb hr hlk hG hS True.intro dX10_knobValue_37

def uX10_lastSeen : List Cond := .code yX10_lastSeen cX10_lastSeen 3 (some .int) :: ([.fieldLink RX10 44 "RiverModelModel" "seen" "[I"] ++ wsX100)
set_option maxHeartbeats 4000000 in
set_option maxRecDepth 100000 in
theorem m_X10_lastSeen (l : Launch) (D : va_G) (t : Nat → Nat) (cI cL cC : ClassId) (gC : Int32) (gE : Int32) (gW : Nat → Int32) (gA : Nat → Int32) (gT : Nat → Int32) (gI : Int32) (gS : Int32) (gM : Int32) (K : Nat → Int32) (F : Nat → Int32) (S : Nat → Int32) (N : Nat → Int32) (gH : Int) (gJ : Int) (ge : Int32) (gk : Int32) (gf : Int32) (gs : Int32) (gg : Int32) (gr : Int32) (RN : Nat → Int32) (a0 : Nat) (uq : ∀ b c : Nat, t b = t c → t b ≠ 0 → b = c) (k_a0 : t a0 = 40) : tM l yX10_lastSeen uX10_lastSeen 0 0 D (mF cI cL cC gC gE gW gA gT gI gS gM K F S N gH gJ ge gk gf gs gg gr RN) (mF cI cL cC gC gE gW gA gT gI gS gM K F S N gH gJ ge gk gf gs gg gr RN) t cI cL cC [.ref a0] wr0 (pI (fun r => -1 ≤ r.toInt ∧ r.toInt ≤ 95)) := by
  refine tM.ofW (cc := cX10_lastSeen) (maxL := 3) (ret := (some .int)) (by decide) rfl (Nat.le_of_ble_eq_true rfl) ?_
  intro p e s m below meth c hx hb hr hml hown hts hlk H locs hG hK hE hS ls hl
  have hl : lv_has ls 3 [(0, .ref a0)] := hl
  have in10 : ∀ w ∈ wsX100, w ∈ uX10_lastSeen := fun w h => List.mem_cons_of_mem _ (List.mem_append_right _ h)
  refine lv_iconst (v := (-1)) hx hb dX10_lastSeen_0 (by decide) ?_
  refine lv_istore_n (lv' := [(1, .int (-1)), (0, .ref a0)]) hx hb dX10_lastSeen_1 rfl hl (by decide) rfl (fun ls hl => ?_)
  refine lv_iconst (v := 0) hx hb dX10_lastSeen_2 (by decide) ?_
  refine lv_istore_n (lv' := [(2, .int 0), (1, .int (-1)), (0, .ref a0)]) hx hb dX10_lastSeen_3 rfl hl (by decide) rfl (fun ls hl => ?_)
  refine lv_pc (pc2 := 4) rfl ?_
  refine lp_gen (fun WW1 hWW1 => ?_)
  have kx1 : ∀ (yk : Int32) (yl : Int32) (H1 : Heap) (locs1 : List Loc) (ls1 : Array Slot), (0 ≤ yk.toInt) → (yk.toInt ≤ 384) → (-1 ≤ yl.toInt) → (yl.toInt ≤ 95) → tG D (mF cI cL cC gC gE gW gA gT gI gS gM K F S N gH gJ ge gk gf gs gg gr RN) t H1 → tF t wr0 s.heap H1 locs1 → lv_has ls1 3 [(2, .int yk), (1, .int yl), (0, .ref a0)] → WW1 H1 locs1 (F0 m 43 ls1 []) := by
    intro yk yl H locs ls v1_0 v1_1 v1_2 v1_3 hG hS hl
    refine (hWW1 _ _ _).mpr ?_
    refine lv_iload_n hx hb dX10_lastSeen_43 rfl (lv_at hl 1 rfl) ?_
    exact ty_iret hx hb hr hlk hG hS ⟨(by show -1 ≤ yl.toInt; omega), (by show yl.toInt ≤ 95; omega)⟩ dX10_lastSeen_44
  have lp1 : ∀ (kk1 : Nat) (yk : Int32) (yl : Int32) (H1 : Heap) (locs1 : List Loc) (ls1 : Array Slot), 384 - yk.toInt ≤ (kk1 : Int) → (0 ≤ yk.toInt) → (yk.toInt ≤ 384) → (-1 ≤ yl.toInt) → (yl.toInt ≤ 95) → tG D (mF cI cL cC gC gE gW gA gT gI gS gM K F S N gH gJ ge gk gf gs gg gr RN) t H1 → tF t wr0 s.heap H1 locs1 → lv_has ls1 3 [(2, .int yk), (1, .int yl), (0, .ref a0)] → WW1 H1 locs1 (F0 m 4 ls1 []) := by
    intro kk1
    induction kk1 with
    | zero =>
      intro yk yl H locs ls hk1 v1_0 v1_1 v1_2 v1_3 hG hS hl
      refine (hWW1 _ _ _).mpr ?_
      refine lv_iload_n hx hb dX10_lastSeen_4 rfl (lv_at hl 0 rfl) ?_
      refine lv_pc (pc2 := 5) rfl ?_
      refine lv_sipush (v := 384) hx hb dX10_lastSeen_5 (by decide) ?_
      refine lv_icmp_ge (tgt := 43) hx hb dX10_lastSeen_8 (by decide) (fun c_2 => ?_) (fun c_2 => ?_)
      · skip
        have c_2 : 384 ≤ yk.toInt := q_le c_2
        exact (hWW1 _ _ _).mp (kx1 yk yl H locs ls v1_0 v1_1 v1_2 v1_3 hG hS (lv_sub hl [0, 1, 2] rfl))
      · skip
        have c_2 : yk.toInt < 384 := q_nle c_2
        exfalso; omega
    | succ kk1 ih1 =>
      intro yk yl H locs ls hk1 v1_0 v1_1 v1_2 v1_3 hG hS hl
      refine (hWW1 _ _ _).mpr ?_
      refine lv_iload_n hx hb dX10_lastSeen_4 rfl (lv_at hl 0 rfl) ?_
      refine lv_sipush (v := 384) hx hb dX10_lastSeen_5 (by decide) ?_
      refine lv_icmp_ge (tgt := 43) hx hb dX10_lastSeen_8 (by decide) (fun c_3 => ?_) (fun c_3 => ?_)
      · skip
        have c_3 : 384 ≤ yk.toInt := q_le c_3
        exact (hWW1 _ _ _).mp (kx1 yk yl H locs ls v1_0 v1_1 v1_2 v1_3 hG hS (lv_sub hl [0, 1, 2] rfl))
      · skip
        have c_3 : yk.toInt < 384 := q_nle c_3
        refine lv_aload_n hx hb dX10_lastSeen_11 rfl (lv_at hl 2 rfl) ?_
        obtain ⟨r_4, v_6, r_7, r_9, r_11, r_13, r_15, r_17, r_19, r_21, r_23, r_25, r_27, r_29, r_31, r_33, r_35, r_37, r_39, r_41, r_43, r_45, r_47, v_49, r_50, at_52, h_5, h_8, h_10, h_12, h_14, h_16, h_18, h_20, h_22, h_24, h_26, h_28, h_30, h_32, h_34, h_36, h_38, h_40, h_42, h_44, h_46, h_48, h_51⟩ := mF_o40 hG k_a0
        refine va_get (D := D) (ci := 9) (v := .ref r_27) (C := RX10) (T := TX10) (N := 36) hx hb hts in10 hown hK (va_one at_52) 0 rfl rfl 16 (by decide) (hts (.fieldLink RX10 44 "RiverModelModel" "seen" "[I") (List.mem_of_getElem? (i := 1) rfl)) (fun _ h9 => h9) rfl dX10_lastSeen_12 ?_
        refine lv_iload_n hx hb dX10_lastSeen_15 rfl (lv_at hl 0 rfl) ?_
        refine lv_pc (pc2 := 16) rfl ?_
        obtain ⟨f_53, at_54⟩ := mF_o52 hG h_28
        have b_55 : vp_in yk 384 := (q_in (by omega) (by omega))
        refine va_iald hx hb hK (va_one at_54) 0 0 rfl rfl b_55 dX10_lastSeen_16 ?_
        refine lv_topi (fun x_56 e_57 => ?_)
        refine lv_if_lt (tgt := 35) hx hb dX10_lastSeen_17 (by decide) (fun c_58 => ?_) (fun c_58 => ?_)
        · skip
          have c_58 : x_56.toInt < 0 := q_lt c_58
          refine lv_iload_n hx hb dX10_lastSeen_35 rfl (lv_at hl 1 rfl) ?_
          refine lv_istore_n (lv' := [(1, .int yl), (2, .int yk), (0, .ref a0)]) hx hb dX10_lastSeen_36 rfl hl (by decide) rfl (fun ls hl => ?_)
          obtain ⟨x_59, e_60⟩ : ∃ y : Int32, y = yk + Int32.ofInt 1 := ⟨_, rfl⟩
          have i_x_59 : x_59.toInt = yk.toInt + 1 := by rw [e_60, show Int32.ofInt 1 = 1 by decide]; exact (q_add (by rw [show (1 : Int32).toInt = 1 by decide]; omega) (by rw [show (1 : Int32).toInt = 1 by decide]; omega)).trans (by rw [show (1 : Int32).toInt = 1 by decide])
          refine lv_iinc (v := x_59) (lv' := [(2, .int x_59), (1, .int yl), (0, .ref a0)]) hx hb dX10_lastSeen_37 hl (k := 1) rfl e_60.symm (by decide) rfl (fun ls hl => ?_)
          refine lv_goto (tgt := 4) hx hb dX10_lastSeen_40 (by decide) ?_
          exact (hWW1 _ _ _).mp (ih1 x_59 yl H locs ls (by omega) (by omega) (by omega) (by omega) (by omega) hG hS (lv_sub hl [0, 1, 2] rfl))
        · skip
          have c_58 : 0 ≤ x_56.toInt := q_nlt c_58
          refine lv_iload_n hx hb dX10_lastSeen_20 rfl (lv_at hl 0 rfl) ?_
          refine lv_bipush (v := 96) hx hb dX10_lastSeen_21 (by decide) ?_
          refine lv_pc (pc2 := 23) rfl ?_
          refine lv_irem hx hb dX10_lastSeen_23 (by decide) ?_
          refine lv_topi (fun x_61 e_62 => ?_)
          have i_x_61 : x_61.toInt = yk.toInt % 96 := by rw [e_62]; exact q_remE (n := 96) rfl (by decide) (by omega)
          refine lv_iload_n hx hb dX10_lastSeen_24 rfl (lv_at hl 1 rfl) ?_
          refine lv_icmp_le (tgt := 35) hx hb dX10_lastSeen_25 (by decide) (fun c_63 => ?_) (fun c_63 => ?_)
          · skip
            have c_63 : x_61.toInt ≤ yl.toInt := q_le c_63
            refine lv_iload_n hx hb dX10_lastSeen_35 rfl (lv_at hl 1 rfl) ?_
            refine lv_istore_n (lv' := [(1, .int yl), (2, .int yk), (0, .ref a0)]) hx hb dX10_lastSeen_36 rfl hl (by decide) rfl (fun ls hl => ?_)
            obtain ⟨x_64, e_65⟩ : ∃ y : Int32, y = yk + Int32.ofInt 1 := ⟨_, rfl⟩
            have i_x_64 : x_64.toInt = yk.toInt + 1 := by rw [e_65, show Int32.ofInt 1 = 1 by decide]; exact (q_add (by rw [show (1 : Int32).toInt = 1 by decide]; omega) (by rw [show (1 : Int32).toInt = 1 by decide]; omega)).trans (by rw [show (1 : Int32).toInt = 1 by decide])
            refine lv_iinc (v := x_64) (lv' := [(2, .int x_64), (1, .int yl), (0, .ref a0)]) hx hb dX10_lastSeen_37 hl (k := 1) rfl e_65.symm (by decide) rfl (fun ls hl => ?_)
            refine lv_goto (tgt := 4) hx hb dX10_lastSeen_40 (by decide) ?_
            exact (hWW1 _ _ _).mp (ih1 x_64 yl H locs ls (by omega) (by omega) (by omega) (by omega) (by omega) hG hS (lv_sub hl [0, 1, 2] rfl))
          · skip
            have c_63 : yl.toInt < x_61.toInt := q_nle c_63
            refine lv_iload_n hx hb dX10_lastSeen_28 rfl (lv_at hl 0 rfl) ?_
            refine lv_pc (pc2 := 29) rfl ?_
            refine lv_bipush (v := 96) hx hb dX10_lastSeen_29 (by decide) ?_
            refine lv_irem hx hb dX10_lastSeen_31 (by decide) ?_
            refine lv_topi (fun x_66 e_67 => ?_)
            have i_x_66 : x_66.toInt = yk.toInt % 96 := by rw [e_67]; exact q_remE (n := 96) rfl (by decide) (by omega)
            refine lv_goto (tgt := 36) hx hb dX10_lastSeen_32 (by decide) ?_
            refine lv_istore_n (lv' := [(1, .int x_66), (2, .int yk), (0, .ref a0)]) hx hb dX10_lastSeen_36 rfl hl (by decide) rfl (fun ls hl => ?_)
            obtain ⟨x_68, e_69⟩ : ∃ y : Int32, y = yk + Int32.ofInt 1 := ⟨_, rfl⟩
            have i_x_68 : x_68.toInt = yk.toInt + 1 := by rw [e_69, show Int32.ofInt 1 = 1 by decide]; exact (q_add (by rw [show (1 : Int32).toInt = 1 by decide]; omega) (by rw [show (1 : Int32).toInt = 1 by decide]; omega)).trans (by rw [show (1 : Int32).toInt = 1 by decide])
            refine lv_iinc (v := x_68) (lv' := [(2, .int x_68), (1, .int x_66), (0, .ref a0)]) hx hb dX10_lastSeen_37 hl (k := 1) rfl e_69.symm (by decide) rfl (fun ls hl => ?_)
            refine lv_goto (tgt := 4) hx hb dX10_lastSeen_40 (by decide) ?_
            exact (hWW1 _ _ _).mp (ih1 x_68 x_66 H locs ls (by omega) (by omega) (by omega) (by omega) (by omega) hG hS (lv_sub hl [0, 1, 2] rfl))
  have zi_0 : (0 : Int32).toInt = 0 := by decide
  have zi_m1 : ((-1) : Int32).toInt = (-1) := by decide
  exact lp1 (384 - (0 : Int32).toInt : Int).toNat 0 (-1) H locs ls (by omega) (by omega) (by omega) (by omega) (by omega) hG hS (lv_sub hl [0, 1, 2] rfl)
