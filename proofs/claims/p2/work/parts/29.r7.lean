theorem dX10_ofKind_0 : decode cX10_ofKind 0 = .ok (.iconst 0, 1) := by decide +kernel
theorem dX10_ofKind_1 : decode cX10_ofKind 1 = .ok (.istore_n 2, 1) := by decide +kernel
theorem dX10_ofKind_2 : decode cX10_ofKind 2 = .ok (.iconst 0, 1) := by decide +kernel
theorem dX10_ofKind_3 : decode cX10_ofKind 3 = .ok (.istore_n 3, 1) := by decide +kernel
theorem dX10_ofKind_4 : decode cX10_ofKind 4 = .ok (.iload_n 3, 1) := by decide +kernel
theorem dX10_ofKind_5 : decode cX10_ofKind 5 = .ok (.aload_n 0, 1) := by decide +kernel
theorem dX10_ofKind_6 : decode cX10_ofKind 6 = .ok (.getfield 163, 3) := by decide +kernel
theorem dX10_ofKind_9 : decode cX10_ofKind 9 = .ok (.if_icmp .ge 34, 3) := by decide +kernel
theorem dX10_ofKind_12 : decode cX10_ofKind 12 = .ok (.aload_n 0, 1) := by decide +kernel
theorem dX10_ofKind_13 : decode cX10_ofKind 13 = .ok (.getfield 173, 3) := by decide +kernel
theorem dX10_ofKind_16 : decode cX10_ofKind 16 = .ok (.ifCond .eq 27, 3) := by decide +kernel
theorem dX10_ofKind_19 : decode cX10_ofKind 19 = .ok (.iload_n 2, 1) := by decide +kernel
theorem dX10_ofKind_20 : decode cX10_ofKind 20 = .ok (.aload_n 0, 1) := by decide +kernel
theorem dX10_ofKind_21 : decode cX10_ofKind 21 = .ok (.getfield 13, 3) := by decide +kernel
theorem dX10_ofKind_24 : decode cX10_ofKind 24 = .ok (.iload_n 3, 1) := by decide +kernel
theorem dX10_ofKind_25 : decode cX10_ofKind 25 = .ok (.iaload, 1) := by decide +kernel
theorem dX10_ofKind_26 : decode cX10_ofKind 26 = .ok (.iload_n 1, 1) := by decide +kernel
theorem dX10_ofKind_27 : decode cX10_ofKind 27 = .ok (.if_icmp .ne 7, 3) := by decide +kernel
theorem dX10_ofKind_30 : decode cX10_ofKind 30 = .ok (.iconst 1, 1) := by decide +kernel
theorem dX10_ofKind_31 : decode cX10_ofKind 31 = .ok (.goto 4, 3) := by decide +kernel
theorem dX10_ofKind_34 : decode cX10_ofKind 34 = .ok (.iconst 0, 1) := by decide +kernel
theorem dX10_ofKind_35 : decode cX10_ofKind 35 = .ok (.iadd, 1) := by decide +kernel
theorem dX10_ofKind_36 : decode cX10_ofKind 36 = .ok (.istore_n 2, 1) := by decide +kernel
theorem dX10_ofKind_37 : decode cX10_ofKind 37 = .ok (.iinc 3 1, 3) := by decide +kernel
theorem dX10_ofKind_40 : decode cX10_ofKind 40 = .ok (.goto (-36), 3) := by decide +kernel
theorem dX10_ofKind_43 : decode cX10_ofKind 43 = .ok (.iload_n 2, 1) := by decide +kernel
theorem dX10_ofKind_44 : decode cX10_ofKind 44 = .ok (.ireturn, 1) := by decide +kernel
theorem dX10_gate_0 : decode cX10_gate 0 = .ok (.iload_n 1, 1) := by decide +kernel
theorem dX10_gate_1 : decode cX10_gate 1 = .ok (.i2l, 1) := by decide +kernel
theorem dX10_gate_2 : decode cX10_gate 2 = .ok (.lconst 0, 1) := by decide +kernel
theorem dX10_gate_3 : decode cX10_gate 3 = .ok (.ldc2_w 243, 3) := by decide +kernel
theorem dX10_gate_6 : decode cX10_gate 6 = .ok (.invokestatic 85, 3) := by decide +kernel
theorem dX10_gate_9 : decode cX10_gate 9 = .ok (.ifCond .eq 15, 3) := by decide +kernel
theorem dX10_gate_12 : decode cX10_gate 12 = .ok (.iload_n 2, 1) := by decide +kernel
theorem dX10_gate_13 : decode cX10_gate 13 = .ok (.i2l, 1) := by decide +kernel
theorem dX10_gate_14 : decode cX10_gate 14 = .ok (.lconst 0, 1) := by decide +kernel
theorem dX10_gate_15 : decode cX10_gate 15 = .ok (.ldc2_w 219, 3) := by decide +kernel
theorem dX10_gate_18 : decode cX10_gate 18 = .ok (.invokestatic 85, 3) := by decide +kernel
theorem dX10_gate_21 : decode cX10_gate 21 = .ok (.ifCond .ne 5, 3) := by decide +kernel
theorem dX10_gate_24 : decode cX10_gate 24 = .ok (.iconst (-1), 1) := by decide +kernel
theorem dX10_gate_25 : decode cX10_gate 25 = .ok (.ireturn, 1) := by decide +kernel
theorem dX10_gate_26 : decode cX10_gate 26 = .ok (.aload_n 0, 1) := by decide +kernel
theorem dX10_gate_27 : decode cX10_gate 27 = .ok (.getfield 173, 3) := by decide +kernel
theorem dX10_gate_30 : decode cX10_gate 30 = .ok (.ifCond .eq 13, 3) := by decide +kernel
theorem dX10_gate_33 : decode cX10_gate 33 = .ok (.iload_n 1, 1) := by decide +kernel
theorem dX10_gate_34 : decode cX10_gate 34 = .ok (.aload_n 0, 1) := by decide +kernel
theorem dX10_gate_35 : decode cX10_gate 35 = .ok (.bipush 103, 2) := by decide +kernel
theorem dX10_gate_37 : decode cX10_gate 37 = .ok (.invokevirtual 245, 3) := by decide +kernel
theorem dX10_gate_40 : decode cX10_gate 40 = .ok (.if_icmp .lt 6, 3) := by decide +kernel
theorem dX10_gate_43 : decode cX10_gate 43 = .ok (.bipush (-2), 2) := by decide +kernel
theorem dX10_gate_45 : decode cX10_gate 45 = .ok (.ireturn, 1) := by decide +kernel
theorem dX10_gate_46 : decode cX10_gate 46 = .ok (.aload_n 0, 1) := by decide +kernel
theorem dX10_gate_47 : decode cX10_gate 47 = .ok (.getfield 28, 3) := by decide +kernel
theorem dX10_gate_50 : decode cX10_gate 50 = .ok (.sipush 224, 3) := by decide +kernel
theorem dX10_gate_53 : decode cX10_gate 53 = .ok (.iload_n 1, 1) := by decide +kernel
theorem dX10_gate_54 : decode cX10_gate 54 = .ok (.iadd, 1) := by decide +kernel
theorem dX10_gate_55 : decode cX10_gate 55 = .ok (.laload, 1) := by decide +kernel
theorem dX10_gate_56 : decode cX10_gate 56 = .ok (.l2i, 1) := by decide +kernel
theorem dX10_gate_57 : decode cX10_gate 57 = .ok (.istore_n 3, 1) := by decide +kernel
theorem dX10_gate_58 : decode cX10_gate 58 = .ok (.aload_n 0, 1) := by decide +kernel
theorem dX10_gate_59 : decode cX10_gate 59 = .ok (.getfield 28, 3) := by decide +kernel
theorem dX10_gate_62 : decode cX10_gate 62 = .ok (.sipush 224, 3) := by decide +kernel
theorem dX10_gate_65 : decode cX10_gate 65 = .ok (.iload_n 1, 1) := by decide +kernel
theorem dX10_gate_66 : decode cX10_gate 66 = .ok (.iadd, 1) := by decide +kernel
theorem dX10_gate_67 : decode cX10_gate 67 = .ok (.iload_n 2, 1) := by decide +kernel
theorem dX10_gate_68 : decode cX10_gate 68 = .ok (.i2l, 1) := by decide +kernel
theorem dX10_gate_69 : decode cX10_gate 69 = .ok (.lastore, 1) := by decide +kernel
theorem dX10_gate_70 : decode cX10_gate 70 = .ok (.iload_n 3, 1) := by decide +kernel
theorem dX10_gate_71 : decode cX10_gate 71 = .ok (.ireturn, 1) := by decide +kernel
theorem dX10_book_0 : decode cX10_book 0 = .ok (.iload_n 1, 1) := by decide +kernel
theorem dX10_book_1 : decode cX10_book 1 = .ok (.i2l, 1) := by decide +kernel
theorem dX10_book_2 : decode cX10_book 2 = .ok (.lconst 0, 1) := by decide +kernel
theorem dX10_book_3 : decode cX10_book 3 = .ok (.ldc2_w 196, 3) := by decide +kernel
theorem dX10_book_6 : decode cX10_book 6 = .ok (.invokestatic 85, 3) := by decide +kernel
theorem dX10_book_9 : decode cX10_book 9 = .ok (.ifCond .ne 7, 3) := by decide +kernel
theorem dX10_book_12 : decode cX10_book 12 = .ok (.ldc2_w 236, 3) := by decide +kernel
theorem dX10_book_15 : decode cX10_book 15 = .ok (.lreturn, 1) := by decide +kernel
theorem dX10_book_16 : decode cX10_book 16 = .ok (.aload_n 0, 1) := by decide +kernel
theorem dX10_book_17 : decode cX10_book 17 = .ok (.getfield 173, 3) := by decide +kernel
theorem dX10_book_20 : decode cX10_book 20 = .ok (.ifCond .ne 7, 3) := by decide +kernel
theorem dX10_book_23 : decode cX10_book 23 = .ok (.ldc2_w 238, 3) := by decide +kernel
theorem dX10_book_26 : decode cX10_book 26 = .ok (.lreturn, 1) := by decide +kernel
theorem dX10_book_27 : decode cX10_book 27 = .ok (.lconst 0, 1) := by decide +kernel
theorem dX10_book_28 : decode cX10_book 28 = .ok (.lstore_n 2, 1) := by decide +kernel
theorem dX10_book_29 : decode cX10_book 29 = .ok (.lconst 0, 1) := by decide +kernel
theorem dX10_book_30 : decode cX10_book 30 = .ok (.lstore 4, 2) := by decide +kernel
theorem dX10_book_32 : decode cX10_book 32 = .ok (.lconst 0, 1) := by decide +kernel
theorem dX10_book_33 : decode cX10_book 33 = .ok (.lstore 6, 2) := by decide +kernel
theorem dX10_book_35 : decode cX10_book 35 = .ok (.iconst 0, 1) := by decide +kernel
theorem dX10_book_36 : decode cX10_book 36 = .ok (.istore 8, 2) := by decide +kernel
theorem dX10_book_38 : decode cX10_book 38 = .ok (.iload 8, 2) := by decide +kernel
theorem dX10_book_40 : decode cX10_book 40 = .ok (.bipush 16, 2) := by decide +kernel
theorem dX10_book_42 : decode cX10_book 42 = .ok (.if_icmp .ge 43, 3) := by decide +kernel
theorem dX10_book_45 : decode cX10_book 45 = .ok (.lload_n 2, 1) := by decide +kernel
theorem dX10_book_46 : decode cX10_book 46 = .ok (.aload_n 0, 1) := by decide +kernel
theorem dX10_book_47 : decode cX10_book 47 = .ok (.getfield 28, 3) := by decide +kernel
theorem dX10_book_50 : decode cX10_book 50 = .ok (.iload 8, 2) := by decide +kernel
theorem dX10_book_52 : decode cX10_book 52 = .ok (.laload, 1) := by decide +kernel
theorem dX10_book_53 : decode cX10_book 53 = .ok (.ladd, 1) := by decide +kernel
theorem dX10_book_54 : decode cX10_book 54 = .ok (.lstore_n 2, 1) := by decide +kernel
theorem dX10_book_55 : decode cX10_book 55 = .ok (.lload 4, 2) := by decide +kernel
theorem dX10_book_57 : decode cX10_book 57 = .ok (.aload_n 0, 1) := by decide +kernel
theorem dX10_book_58 : decode cX10_book 58 = .ok (.iload 8, 2) := by decide +kernel
theorem dX10_book_60 : decode cX10_book 60 = .ok (.invokevirtual 240, 3) := by decide +kernel
theorem dX10_book_63 : decode cX10_book 63 = .ok (.ladd, 1) := by decide +kernel
theorem dX10_book_64 : decode cX10_book 64 = .ok (.lstore 4, 2) := by decide +kernel
theorem dX10_book_66 : decode cX10_book 66 = .ok (.lload 6, 2) := by decide +kernel
theorem dX10_book_68 : decode cX10_book 68 = .ok (.aload_n 0, 1) := by decide +kernel
theorem dX10_book_69 : decode cX10_book 69 = .ok (.iconst 0, 1) := by decide +kernel
theorem dX10_book_70 : decode cX10_book 70 = .ok (.iload 8, 2) := by decide +kernel
theorem dX10_book_72 : decode cX10_book 72 = .ok (.invokevirtual 183, 3) := by decide +kernel
theorem dX10_book_75 : decode cX10_book 75 = .ok (.i2l, 1) := by decide +kernel
theorem dX10_book_76 : decode cX10_book 76 = .ok (.ladd, 1) := by decide +kernel
theorem dX10_book_77 : decode cX10_book 77 = .ok (.lstore 6, 2) := by decide +kernel
theorem dX10_book_79 : decode cX10_book 79 = .ok (.iinc 8 1, 3) := by decide +kernel
theorem dX10_book_82 : decode cX10_book 82 = .ok (.goto (-44), 3) := by decide +kernel
theorem dX10_book_85 : decode cX10_book 85 = .ok (.iload_n 1, 1) := by decide +kernel
theorem dX10_book_86 : decode cX10_book 86 = .ok (.tableswitch 66 0 4 #[34, 43, 52, 61, 63], 34) := by decide +kernel
theorem dX10_book_120 : decode cX10_book 120 = .ok (.aload_n 0, 1) := by decide +kernel
theorem dX10_book_121 : decode cX10_book 121 = .ok (.getfield 28, 3) := by decide +kernel
theorem dX10_book_124 : decode cX10_book 124 = .ok (.sipush 230, 3) := by decide +kernel
theorem dX10_book_127 : decode cX10_book 127 = .ok (.laload, 1) := by decide +kernel
theorem dX10_book_128 : decode cX10_book 128 = .ok (.lreturn, 1) := by decide +kernel
theorem dX10_book_129 : decode cX10_book 129 = .ok (.aload_n 0, 1) := by decide +kernel
theorem dX10_book_130 : decode cX10_book 130 = .ok (.getfield 28, 3) := by decide +kernel
theorem dX10_book_133 : decode cX10_book 133 = .ok (.sipush 228, 3) := by decide +kernel
theorem dX10_book_136 : decode cX10_book 136 = .ok (.laload, 1) := by decide +kernel
theorem dX10_book_137 : decode cX10_book 137 = .ok (.lreturn, 1) := by decide +kernel
theorem dX10_book_138 : decode cX10_book 138 = .ok (.aload_n 0, 1) := by decide +kernel
theorem dX10_book_139 : decode cX10_book 139 = .ok (.getfield 28, 3) := by decide +kernel
theorem dX10_book_142 : decode cX10_book 142 = .ok (.sipush 229, 3) := by decide +kernel
theorem dX10_book_145 : decode cX10_book 145 = .ok (.laload, 1) := by decide +kernel
theorem dX10_book_146 : decode cX10_book 146 = .ok (.lreturn, 1) := by decide +kernel
theorem dX10_book_147 : decode cX10_book 147 = .ok (.lload_n 2, 1) := by decide +kernel
theorem dX10_book_148 : decode cX10_book 148 = .ok (.lreturn, 1) := by decide +kernel
theorem dX10_book_149 : decode cX10_book 149 = .ok (.lload 4, 2) := by decide +kernel
theorem dX10_book_151 : decode cX10_book 151 = .ok (.lreturn, 1) := by decide +kernel
theorem dX10_book_152 : decode cX10_book 152 = .ok (.lload 6, 2) := by decide +kernel
theorem dX10_book_154 : decode cX10_book 154 = .ok (.lreturn, 1) := by decide +kernel
theorem dX10_gauge_0 : decode cX10_gauge 0 = .ok (.iload_n 1, 1) := by decide +kernel
theorem dX10_gauge_1 : decode cX10_gauge 1 = .ok (.i2l, 1) := by decide +kernel
theorem dX10_gauge_2 : decode cX10_gauge 2 = .ok (.lconst 0, 1) := by decide +kernel
theorem dX10_gauge_3 : decode cX10_gauge 3 = .ok (.ldc2_w 243, 3) := by decide +kernel
theorem dX10_gauge_6 : decode cX10_gauge 6 = .ok (.invokestatic 85, 3) := by decide +kernel
theorem dX10_gauge_9 : decode cX10_gauge 9 = .ok (.ifCond .eq 35, 3) := by decide +kernel
theorem dX10_gauge_12 : decode cX10_gauge 12 = .ok (.iload_n 2, 1) := by decide +kernel
theorem dX10_gauge_13 : decode cX10_gauge 13 = .ok (.i2l, 1) := by decide +kernel
theorem dX10_gauge_14 : decode cX10_gauge 14 = .ok (.lconst 0, 1) := by decide +kernel
theorem dX10_gauge_15 : decode cX10_gauge 15 = .ok (.lconst 1, 1) := by decide +kernel
theorem dX10_gauge_16 : decode cX10_gauge 16 = .ok (.invokestatic 85, 3) := by decide +kernel
theorem dX10_gauge_19 : decode cX10_gauge 19 = .ok (.ifCond .eq 25, 3) := by decide +kernel
theorem dX10_gauge_22 : decode cX10_gauge 22 = .ok (.iload_n 3, 1) := by decide +kernel
theorem dX10_gauge_23 : decode cX10_gauge 23 = .ok (.i2l, 1) := by decide +kernel
theorem dX10_gauge_24 : decode cX10_gauge 24 = .ok (.lconst 0, 1) := by decide +kernel
theorem dX10_gauge_25 : decode cX10_gauge 25 = .ok (.iload_n 2, 1) := by decide +kernel
theorem dX10_gauge_26 : decode cX10_gauge 26 = .ok (.ifCond .ne 9, 3) := by decide +kernel
theorem dX10_gauge_29 : decode cX10_gauge 29 = .ok (.ldc2_w 194, 3) := by decide +kernel
theorem dX10_gauge_32 : decode cX10_gauge 32 = .ok (.goto 6, 3) := by decide +kernel
theorem dX10_gauge_35 : decode cX10_gauge 35 = .ok (.ldc2_w 234, 3) := by decide +kernel
theorem dX10_gauge_38 : decode cX10_gauge 38 = .ok (.invokestatic 85, 3) := by decide +kernel
theorem dX10_gauge_41 : decode cX10_gauge 41 = .ok (.ifCond .ne 5, 3) := by decide +kernel
theorem dX10_gauge_44 : decode cX10_gauge 44 = .ok (.iconst (-1), 1) := by decide +kernel
theorem dX10_gauge_45 : decode cX10_gauge 45 = .ok (.ireturn, 1) := by decide +kernel
theorem dX10_gauge_46 : decode cX10_gauge 46 = .ok (.aload_n 0, 1) := by decide +kernel
theorem dX10_gauge_47 : decode cX10_gauge 47 = .ok (.getfield 173, 3) := by decide +kernel
theorem dX10_gauge_50 : decode cX10_gauge 50 = .ok (.ifCond .eq 26, 3) := by decide +kernel
theorem dX10_gauge_53 : decode cX10_gauge 53 = .ok (.iload_n 2, 1) := by decide +kernel
theorem dX10_gauge_54 : decode cX10_gauge 54 = .ok (.ifCond .ne 14, 3) := by decide +kernel
theorem dX10_gauge_57 : decode cX10_gauge 57 = .ok (.iload_n 3, 1) := by decide +kernel
theorem dX10_gauge_58 : decode cX10_gauge 58 = .ok (.aload_n 0, 1) := by decide +kernel
theorem dX10_gauge_59 : decode cX10_gauge 59 = .ok (.getfield 163, 3) := by decide +kernel
theorem dX10_gauge_62 : decode cX10_gauge 62 = .ok (.if_icmp .lt 17, 3) := by decide +kernel
theorem dX10_gauge_65 : decode cX10_gauge 65 = .ok (.goto 11, 3) := by decide +kernel
theorem dX10_gauge_68 : decode cX10_gauge 68 = .ok (.aload_n 0, 1) := by decide +kernel
theorem dX10_gauge_69 : decode cX10_gauge 69 = .ok (.iload_n 3, 1) := by decide +kernel
theorem dX10_gauge_70 : decode cX10_gauge 70 = .ok (.invokevirtual 208, 3) := by decide +kernel
theorem dX10_gauge_73 : decode cX10_gauge 73 = .ok (.ifCond .ne 6, 3) := by decide +kernel
theorem dX10_gauge_76 : decode cX10_gauge 76 = .ok (.bipush (-2), 2) := by decide +kernel
theorem dX10_gauge_78 : decode cX10_gauge 78 = .ok (.ireturn, 1) := by decide +kernel
theorem dX10_gauge_79 : decode cX10_gauge 79 = .ok (.aload_n 0, 1) := by decide +kernel
theorem dX10_gauge_80 : decode cX10_gauge 80 = .ok (.getfield 38, 3) := by decide +kernel
theorem dX10_gauge_83 : decode cX10_gauge 83 = .ok (.iload_n 1, 1) := by decide +kernel
theorem dX10_gauge_84 : decode cX10_gauge 84 = .ok (.iload_n 2, 1) := by decide +kernel
theorem dX10_gauge_85 : decode cX10_gauge 85 = .ok (.iastore, 1) := by decide +kernel
theorem dX10_gauge_86 : decode cX10_gauge 86 = .ok (.aload_n 0, 1) := by decide +kernel
theorem dX10_gauge_87 : decode cX10_gauge 87 = .ok (.getfield 41, 3) := by decide +kernel
theorem dX10_gauge_90 : decode cX10_gauge 90 = .ok (.iload_n 1, 1) := by decide +kernel
theorem dX10_gauge_91 : decode cX10_gauge 91 = .ok (.iload_n 3, 1) := by decide +kernel
theorem dX10_gauge_92 : decode cX10_gauge 92 = .ok (.iastore, 1) := by decide +kernel
theorem dX10_gauge_93 : decode cX10_gauge 93 = .ok (.iconst 0, 1) := by decide +kernel
theorem dX10_gauge_94 : decode cX10_gauge 94 = .ok (.istore 4, 2) := by decide +kernel
theorem dX10_gauge_96 : decode cX10_gauge 96 = .ok (.iload 4, 2) := by decide +kernel
theorem dX10_gauge_98 : decode cX10_gauge 98 = .ok (.bipush 96, 2) := by decide +kernel
theorem dX10_gauge_100 : decode cX10_gauge 100 = .ok (.if_icmp .ge 22, 3) := by decide +kernel
theorem dX10_gauge_103 : decode cX10_gauge 103 = .ok (.aload_n 0, 1) := by decide +kernel
theorem dX10_gauge_104 : decode cX10_gauge 104 = .ok (.getfield 44, 3) := by decide +kernel
theorem dX10_gauge_107 : decode cX10_gauge 107 = .ok (.bipush 96, 2) := by decide +kernel
theorem dX10_gauge_109 : decode cX10_gauge 109 = .ok (.iload_n 1, 1) := by decide +kernel
theorem dX10_gauge_110 : decode cX10_gauge 110 = .ok (.imul, 1) := by decide +kernel
theorem dX10_gauge_111 : decode cX10_gauge 111 = .ok (.iload 4, 2) := by decide +kernel
theorem dX10_gauge_113 : decode cX10_gauge 113 = .ok (.iadd, 1) := by decide +kernel
theorem dX10_gauge_114 : decode cX10_gauge 114 = .ok (.iconst (-1), 1) := by decide +kernel
theorem dX10_gauge_115 : decode cX10_gauge 115 = .ok (.iastore, 1) := by decide +kernel
theorem dX10_gauge_116 : decode cX10_gauge 116 = .ok (.iinc 4 1, 3) := by decide +kernel
theorem dX10_gauge_119 : decode cX10_gauge 119 = .ok (.goto (-23), 3) := by decide +kernel
theorem dX10_gauge_122 : decode cX10_gauge 122 = .ok (.iconst 0, 1) := by decide +kernel
theorem dX10_gauge_123 : decode cX10_gauge 123 = .ok (.ireturn, 1) := by decide +kernel
theorem dX10_isSet_0 : decode cX10_isSet 0 = .ok (.aload_n 0, 1) := by decide +kernel
theorem dX10_isSet_1 : decode cX10_isSet 1 = .ok (.getfield 173, 3) := by decide +kernel
theorem dX10_isSet_4 : decode cX10_isSet 4 = .ok (.ifCond .eq 16, 3) := by decide +kernel
theorem dX10_isSet_7 : decode cX10_isSet 7 = .ok (.aload_n 0, 1) := by decide +kernel
theorem dX10_isSet_8 : decode cX10_isSet 8 = .ok (.getfield 38, 3) := by decide +kernel
theorem dX10_isSet_11 : decode cX10_isSet 11 = .ok (.iload_n 1, 1) := by decide +kernel
theorem dX10_isSet_12 : decode cX10_isSet 12 = .ok (.iaload, 1) := by decide +kernel
theorem dX10_isSet_13 : decode cX10_isSet 13 = .ok (.ifCond .lt 7, 3) := by decide +kernel
theorem dX10_isSet_16 : decode cX10_isSet 16 = .ok (.iconst 1, 1) := by decide +kernel
theorem dX10_isSet_17 : decode cX10_isSet 17 = .ok (.goto 4, 3) := by decide +kernel
theorem dX10_isSet_20 : decode cX10_isSet 20 = .ok (.iconst 0, 1) := by decide +kernel
theorem dX10_isSet_21 : decode cX10_isSet 21 = .ok (.ireturn, 1) := by decide +kernel
theorem dX10_reading_0 : decode cX10_reading 0 = .ok (.aload_n 0, 1) := by decide +kernel
theorem dX10_reading_1 : decode cX10_reading 1 = .ok (.getfield 38, 3) := by decide +kernel
theorem dX10_reading_4 : decode cX10_reading 4 = .ok (.iload_n 1, 1) := by decide +kernel
theorem dX10_reading_5 : decode cX10_reading 5 = .ok (.iaload, 1) := by decide +kernel
theorem dX10_reading_6 : decode cX10_reading 6 = .ok (.ifCond .ne 21, 3) := by decide +kernel
theorem dX10_reading_9 : decode cX10_reading 9 = .ok (.aload_n 0, 1) := by decide +kernel
theorem dX10_reading_10 : decode cX10_reading 10 = .ok (.getfield 28, 3) := by decide +kernel
theorem dX10_reading_13 : decode cX10_reading 13 = .ok (.sipush 240, 3) := by decide +kernel
theorem dX10_reading_16 : decode cX10_reading 16 = .ok (.aload_n 0, 1) := by decide +kernel
theorem dX10_reading_17 : decode cX10_reading 17 = .ok (.getfield 41, 3) := by decide +kernel
theorem dX10_reading_20 : decode cX10_reading 20 = .ok (.iload_n 1, 1) := by decide +kernel
theorem dX10_reading_21 : decode cX10_reading 21 = .ok (.iaload, 1) := by decide +kernel
theorem dX10_reading_22 : decode cX10_reading 22 = .ok (.iadd, 1) := by decide +kernel
theorem dX10_reading_23 : decode cX10_reading 23 = .ok (.laload, 1) := by decide +kernel
theorem dX10_reading_24 : decode cX10_reading 24 = .ok (.goto 14, 3) := by decide +kernel
theorem dX10_reading_27 : decode cX10_reading 27 = .ok (.aload_n 0, 1) := by decide +kernel
theorem dX10_reading_28 : decode cX10_reading 28 = .ok (.getfield 28, 3) := by decide +kernel
theorem dX10_reading_31 : decode cX10_reading 31 = .ok (.aload_n 0, 1) := by decide +kernel
theorem dX10_reading_32 : decode cX10_reading 32 = .ok (.getfield 41, 3) := by decide +kernel
theorem dX10_reading_35 : decode cX10_reading 35 = .ok (.iload_n 1, 1) := by decide +kernel
theorem dX10_reading_36 : decode cX10_reading 36 = .ok (.iaload, 1) := by decide +kernel
theorem dX10_reading_37 : decode cX10_reading 37 = .ok (.laload, 1) := by decide +kernel
theorem dX10_reading_38 : decode cX10_reading 38 = .ok (.lreturn, 1) := by decide +kernel
theorem dX10_reads_0 : decode cX10_reads 0 = .ok (.iload_n 1, 1) := by decide +kernel
theorem dX10_reads_1 : decode cX10_reads 1 = .ok (.i2l, 1) := by decide +kernel
theorem dX10_reads_2 : decode cX10_reads 2 = .ok (.lconst 0, 1) := by decide +kernel
theorem dX10_reads_3 : decode cX10_reads 3 = .ok (.ldc2_w 243, 3) := by decide +kernel
theorem dX10_reads_6 : decode cX10_reads 6 = .ok (.invokestatic 85, 3) := by decide +kernel
theorem dX10_reads_9 : decode cX10_reads 9 = .ok (.ifCond .ne 7, 3) := by decide +kernel
theorem dX10_reads_12 : decode cX10_reads 12 = .ok (.ldc2_w 236, 3) := by decide +kernel
theorem dX10_reads_15 : decode cX10_reads 15 = .ok (.lreturn, 1) := by decide +kernel
theorem dX10_reads_16 : decode cX10_reads 16 = .ok (.aload_n 0, 1) := by decide +kernel
theorem dX10_reads_17 : decode cX10_reads 17 = .ok (.iload_n 1, 1) := by decide +kernel
theorem dX10_reads_18 : decode cX10_reads 18 = .ok (.invokevirtual 248, 3) := by decide +kernel
theorem dX10_reads_21 : decode cX10_reads 21 = .ok (.ifCond .eq 16, 3) := by decide +kernel
theorem dX10_reads_24 : decode cX10_reads 24 = .ok (.aload_n 0, 1) := by decide +kernel
theorem dX10_reads_25 : decode cX10_reads 25 = .ok (.getfield 28, 3) := by decide +kernel
theorem dX10_reads_28 : decode cX10_reads 28 = .ok (.sipush 231, 3) := by decide +kernel
theorem dX10_reads_31 : decode cX10_reads 31 = .ok (.laload, 1) := by decide +kernel
theorem dX10_reads_32 : decode cX10_reads 32 = .ok (.lconst 0, 1) := by decide +kernel
theorem dX10_reads_33 : decode cX10_reads 33 = .ok (.lcmp, 1) := by decide +kernel
theorem dX10_reads_34 : decode cX10_reads 34 = .ok (.ifCond .ne 9, 3) := by decide +kernel
theorem dX10_reads_37 : decode cX10_reads 37 = .ok (.ldc2_w 238, 3) := by decide +kernel
theorem dX10_reads_40 : decode cX10_reads 40 = .ok (.goto 8, 3) := by decide +kernel
theorem dX10_reads_43 : decode cX10_reads 43 = .ok (.aload_n 0, 1) := by decide +kernel
theorem dX10_reads_44 : decode cX10_reads 44 = .ok (.iload_n 1, 1) := by decide +kernel
theorem dX10_reads_45 : decode cX10_reads 45 = .ok (.invokevirtual 251, 3) := by decide +kernel
theorem dX10_reads_48 : decode cX10_reads 48 = .ok (.lreturn, 1) := by decide +kernel
def uX10_ofKind : List Cond := .code yX10_ofKind cX10_ofKind 4 (some .int) :: ([.fieldLink RX10 163 "RiverModelModel" "items" "I", .fieldLink RX10 173 "RiverModelModel" "isBuilt" "Z", .fieldLink RX10 13 "RiverModelModel" "kind" "[I"] ++ wsX100)
set_option maxHeartbeats 4000000 in
set_option maxRecDepth 100000 in
theorem m_X10_ofKind (l : Launch) (D : va_G) (t : Nat → Nat) (cI cL cC : ClassId) (gC : Int32) (gE : Int32) (gW : Nat → Int32) (gA : Nat → Int32) (gT : Nat → Int32) (gI : Int32) (gS : Int32) (gM : Int32) (K : Nat → Int32) (F : Nat → Int32) (S : Nat → Int32) (N : Nat → Int32) (gH : Int) (gJ : Int) (ge : Int32) (gk : Int32) (gf : Int32) (gs : Int32) (gg : Int32) (gr : Int32) (RN : Nat → Int32) (a0 : Nat) (a1 : Int32) (uq : ∀ b c : Nat, t b = t c → t b ≠ 0 → b = c) (hI0 : 0 ≤ gI.toInt) (hI4 : gI.toInt ≤ 40) (k_a0 : t a0 = 40) : tM l yX10_ofKind uX10_ofKind 0 0 D (mF cI cL cC gC gE gW gA gT gI gS gM K F S N gH gJ ge gk gf gs gg gr RN) (mF cI cL cC gC gE gW gA gT gI gS gM K F S N gH gJ ge gk gf gs gg gr RN) t cI cL cC [.ref a0, .int a1] wr0 (pI (fun r => True)) := by
  refine tM.ofW (cc := cX10_ofKind) (maxL := 4) (ret := (some .int)) (by decide) rfl (Nat.le_of_ble_eq_true rfl) ?_
  intro p e s m below meth c hx hb hr hml hown hts hlk H locs hG hK hE hS ls hl
  have hl : lv_has ls 4 [(0, .ref a0), (1, .int a1)] := hl
  have in10 : ∀ w ∈ wsX100, w ∈ uX10_ofKind := fun w h => List.mem_cons_of_mem _ (List.mem_append_right _ h)
  refine lv_iconst (v := 0) hx hb dX10_ofKind_0 (by decide) ?_
  refine lv_istore_n (lv' := [(2, .int 0), (0, .ref a0), (1, .int a1)]) hx hb dX10_ofKind_1 rfl hl (by decide) rfl (fun ls hl => ?_)
  refine lv_iconst (v := 0) hx hb dX10_ofKind_2 (by decide) ?_
  refine lv_istore_n (lv' := [(3, .int 0), (2, .int 0), (0, .ref a0), (1, .int a1)]) hx hb dX10_ofKind_3 rfl hl (by decide) rfl (fun ls hl => ?_)
  refine lv_pc (pc2 := 4) rfl ?_
  refine lp_gen (fun WW1 hWW1 => ?_)
  have kx1 : ∀ (yi : Int32) (yn : Int32) (H1 : Heap) (locs1 : List Loc) (ls1 : Array Slot), (0 ≤ yi.toInt) → (yi.toInt ≤ gI.toInt) → tG D (mF cI cL cC gC gE gW gA gT gI gS gM K F S N gH gJ ge gk gf gs gg gr RN) t H1 → tF t wr0 s.heap H1 locs1 → lv_has ls1 4 [(3, .int yi), (2, .int yn), (0, .ref a0), (1, .int a1)] → WW1 H1 locs1 (F0 m 43 ls1 []) := by
    intro yi yn H locs ls v1_0 v1_1 hG hS hl
    refine (hWW1 _ _ _).mpr ?_
    refine lv_iload_n hx hb dX10_ofKind_43 rfl (lv_at hl 1 rfl) ?_
    exact ty_iret hx hb hr hlk hG hS True.intro dX10_ofKind_44
  have lp1 : ∀ (kk1 : Nat) (yi : Int32) (yn : Int32) (H1 : Heap) (locs1 : List Loc) (ls1 : Array Slot), gI.toInt - yi.toInt ≤ (kk1 : Int) → (0 ≤ yi.toInt) → (yi.toInt ≤ gI.toInt) → tG D (mF cI cL cC gC gE gW gA gT gI gS gM K F S N gH gJ ge gk gf gs gg gr RN) t H1 → tF t wr0 s.heap H1 locs1 → lv_has ls1 4 [(3, .int yi), (2, .int yn), (0, .ref a0), (1, .int a1)] → WW1 H1 locs1 (F0 m 4 ls1 []) := by
    intro kk1
    induction kk1 with
    | zero =>
      intro yi yn H locs ls hk1 v1_0 v1_1 hG hS hl
      refine (hWW1 _ _ _).mpr ?_
      refine lv_iload_n hx hb dX10_ofKind_4 rfl (lv_at hl 0 rfl) ?_
      refine lv_pc (pc2 := 5) rfl ?_
      refine lv_aload_n hx hb dX10_ofKind_5 rfl (lv_at hl 2 rfl) ?_
      obtain ⟨r_2, v_4, r_5, r_7, r_9, r_11, r_13, r_15, r_17, r_19, r_21, r_23, r_25, r_27, r_29, r_31, r_33, r_35, r_37, r_39, r_41, r_43, r_45, v_47, r_48, at_50, h_3, h_6, h_8, h_10, h_12, h_14, h_16, h_18, h_20, h_22, h_24, h_26, h_28, h_30, h_32, h_34, h_36, h_38, h_40, h_42, h_44, h_46, h_49⟩ := mF_o40 hG k_a0
      refine va_get (D := D) (ci := 9) (v := .int gI) (C := RX10) (T := TX10) (N := 36) hx hb hts in10 hown hK (va_one at_50) 0 rfl rfl 3 (by decide) (hts (.fieldLink RX10 163 "RiverModelModel" "items" "I") (List.mem_of_getElem? (i := 1) rfl)) (fun _ h9 => h9) rfl dX10_ofKind_6 ?_
      refine lv_icmp_ge (tgt := 43) hx hb dX10_ofKind_9 (by decide) (fun c_51 => ?_) (fun c_51 => ?_)
      · skip
        have c_51 : gI.toInt ≤ yi.toInt := q_le c_51
        exact (hWW1 _ _ _).mp (kx1 yi yn H locs ls v1_0 v1_1 hG hS (lv_sub hl [0, 1, 2, 3] rfl))
      · skip
        have c_51 : yi.toInt < gI.toInt := q_nle c_51
        exfalso; omega
    | succ kk1 ih1 =>
      intro yi yn H locs ls hk1 v1_0 v1_1 hG hS hl
      refine (hWW1 _ _ _).mpr ?_
      refine lv_iload_n hx hb dX10_ofKind_4 rfl (lv_at hl 0 rfl) ?_
      refine lv_aload_n hx hb dX10_ofKind_5 rfl (lv_at hl 2 rfl) ?_
      obtain ⟨r_52, v_54, r_55, r_57, r_59, r_61, r_63, r_65, r_67, r_69, r_71, r_73, r_75, r_77, r_79, r_81, r_83, r_85, r_87, r_89, r_91, r_93, r_95, v_97, r_98, at_100, h_53, h_56, h_58, h_60, h_62, h_64, h_66, h_68, h_70, h_72, h_74, h_76, h_78, h_80, h_82, h_84, h_86, h_88, h_90, h_92, h_94, h_96, h_99⟩ := mF_o40 hG k_a0
      refine va_get (D := D) (ci := 9) (v := .int gI) (C := RX10) (T := TX10) (N := 36) hx hb hts in10 hown hK (va_one at_100) 0 rfl rfl 3 (by decide) (hts (.fieldLink RX10 163 "RiverModelModel" "items" "I") (List.mem_of_getElem? (i := 1) rfl)) (fun _ h9 => h9) rfl dX10_ofKind_6 ?_
      refine lv_icmp_ge (tgt := 43) hx hb dX10_ofKind_9 (by decide) (fun c_101 => ?_) (fun c_101 => ?_)
      · skip
        have c_101 : gI.toInt ≤ yi.toInt := q_le c_101
        exact (hWW1 _ _ _).mp (kx1 yi yn H locs ls v1_0 v1_1 hG hS (lv_sub hl [0, 1, 2, 3] rfl))
      · skip
        have c_101 : yi.toInt < gI.toInt := q_nle c_101
        refine lv_aload_n hx hb dX10_ofKind_12 rfl (lv_at hl 2 rfl) ?_
        refine lv_pc (pc2 := 13) rfl ?_
        refine va_get (D := D) (ci := 9) (v := .int v_54) (C := RX10) (T := TX10) (N := 36) hx hb hts in10 hown hK (va_one at_100) 0 rfl rfl 2 (by decide) (hts (.fieldLink RX10 173 "RiverModelModel" "isBuilt" "Z") (List.mem_of_getElem? (i := 2) rfl)) (fun _ h9 => h9) rfl dX10_ofKind_13 ?_
        refine lv_if_eq (tgt := 43) hx hb dX10_ofKind_16 (by decide) (fun c_102 => ?_) (fun c_102 => ?_)
        · skip
          have c_102 : v_54.toInt = 0 := q_eq c_102
          exact (hWW1 _ _ _).mp (kx1 yi yn H locs ls v1_0 v1_1 hG hS (lv_sub hl [0, 1, 2, 3] rfl))
        · skip
          have c_102 : v_54.toInt ≠ 0 := q_ne c_102
          refine lv_iload_n hx hb dX10_ofKind_19 rfl (lv_at hl 1 rfl) ?_
          refine lv_aload_n hx hb dX10_ofKind_20 rfl (lv_at hl 2 rfl) ?_
          refine va_get (D := D) (ci := 9) (v := .ref r_55) (C := RX10) (T := TX10) (N := 36) hx hb hts in10 hown hK (va_one at_100) 0 rfl rfl 4 (by decide) (hts (.fieldLink RX10 13 "RiverModelModel" "kind" "[I") (List.mem_of_getElem? (i := 3) rfl)) (fun _ h9 => h9) rfl dX10_ofKind_21 ?_
          refine lv_iload_n hx hb dX10_ofKind_24 rfl (lv_at hl 0 rfl) ?_
          have at_103 := mF_o42 hG h_56
          have b_104 : vp_in yi 120 := (q_in (by omega) (by omega))
          refine va_iald hx hb hK (va_one at_103) 0 0 rfl rfl b_104 dX10_ofKind_25 ?_
          refine lv_topi (fun x_105 e_106 => ?_)
          have w_x_105 : x_105 = K (yi.toInt).toNat := by rw [e_106]; exact congrArg (fun q : Int => K q.toNat) (show yi.toInt = yi.toInt by omega)
          have i_x_105 : x_105.toInt = (K (yi.toInt).toNat).toInt := by rw [w_x_105]
          refine lv_iload_n hx hb dX10_ofKind_26 rfl (lv_at hl 3 rfl) ?_
          refine lv_pc (pc2 := 27) rfl ?_
          refine lv_icmp_ne (tgt := 34) hx hb dX10_ofKind_27 (by decide) (fun c_107 => ?_) (fun c_107 => ?_)
          · skip
            have c_107 : x_105.toInt ≠ a1.toInt := q_ne c_107
            refine lv_iconst (v := 0) hx hb dX10_ofKind_34 (by decide) ?_
            refine lv_iadd hx hb dX10_ofKind_35 ?_
            refine lv_topi (fun x_108 e_109 => ?_)
            refine lv_istore_n (lv' := [(2, .int x_108), (3, .int yi), (0, .ref a0), (1, .int a1)]) hx hb dX10_ofKind_36 rfl hl (by decide) rfl (fun ls hl => ?_)
            obtain ⟨x_110, e_111⟩ : ∃ y : Int32, y = yi + Int32.ofInt 1 := ⟨_, rfl⟩
            have i_x_110 : x_110.toInt = yi.toInt + 1 := by rw [e_111, show Int32.ofInt 1 = 1 by decide]; exact (q_add (by rw [show (1 : Int32).toInt = 1 by decide]; omega) (by rw [show (1 : Int32).toInt = 1 by decide]; omega)).trans (by rw [show (1 : Int32).toInt = 1 by decide])
            refine lv_iinc (v := x_110) (lv' := [(3, .int x_110), (2, .int x_108), (0, .ref a0), (1, .int a1)]) hx hb dX10_ofKind_37 hl (k := 1) rfl e_111.symm (by decide) rfl (fun ls hl => ?_)
            refine lv_goto (tgt := 4) hx hb dX10_ofKind_40 (by decide) ?_
            exact (hWW1 _ _ _).mp (ih1 x_110 x_108 H locs ls (by omega) (by omega) (by omega) hG hS (lv_sub hl [0, 1, 2, 3] rfl))
          · skip
            have c_107 : x_105.toInt = a1.toInt := q_eq c_107
            refine lv_iconst (v := 1) hx hb dX10_ofKind_30 (by decide) ?_
            refine lv_goto (tgt := 35) hx hb dX10_ofKind_31 (by decide) ?_
            refine lv_pc (pc2 := 35) rfl ?_
            refine lv_iadd hx hb dX10_ofKind_35 ?_
            refine lv_topi (fun x_112 e_113 => ?_)
            refine lv_istore_n (lv' := [(2, .int x_112), (3, .int yi), (0, .ref a0), (1, .int a1)]) hx hb dX10_ofKind_36 rfl hl (by decide) rfl (fun ls hl => ?_)
            obtain ⟨x_114, e_115⟩ : ∃ y : Int32, y = yi + Int32.ofInt 1 := ⟨_, rfl⟩
            have i_x_114 : x_114.toInt = yi.toInt + 1 := by rw [e_115, show Int32.ofInt 1 = 1 by decide]; exact (q_add (by rw [show (1 : Int32).toInt = 1 by decide]; omega) (by rw [show (1 : Int32).toInt = 1 by decide]; omega)).trans (by rw [show (1 : Int32).toInt = 1 by decide])
            refine lv_iinc (v := x_114) (lv' := [(3, .int x_114), (2, .int x_112), (0, .ref a0), (1, .int a1)]) hx hb dX10_ofKind_37 hl (k := 1) rfl e_115.symm (by decide) rfl (fun ls hl => ?_)
            refine lv_goto (tgt := 4) hx hb dX10_ofKind_40 (by decide) ?_
            exact (hWW1 _ _ _).mp (ih1 x_114 x_112 H locs ls (by omega) (by omega) (by omega) hG hS (lv_sub hl [0, 1, 2, 3] rfl))
  have zi_0 : (0 : Int32).toInt = 0 := by decide
  exact lp1 (gI.toInt - (0 : Int32).toInt : Int).toNat 0 0 H locs ls (by omega) (by omega) (by omega) hG hS (lv_sub hl [0, 1, 2, 3] rfl)

def uX10_gate : List Cond := .code yX10_gate cX10_gate 4 (some .int) :: ([.constantLong RX10 243 (3), .methodLink RX10 85 yX10_in, .static yX10_in, .initialized RX10, .constantLong RX10 219 (10), .fieldLink RX10 173 "RiverModelModel" "isBuilt" "Z", .methodLink RX10 245 yX10_ofKind, .instanceMethod yX10_ofKind, .selects RX10 yX10_ofKind yX10_ofKind, .fieldLink RX10 28 "RiverModelModel" "m" "[J", .code yX10_in cX10_in 6 (some .boolean), .code yX10_ofKind cX10_ofKind 4 (some .int), .fieldLink RX10 163 "RiverModelModel" "items" "I", .fieldLink RX10 13 "RiverModelModel" "kind" "[I"] ++ wsX100)
set_option maxRecDepth 20000 in
theorem gu_X10_gate_X10_in_85 : GoodIn uX10_gate (va_wsS RX10 85 yX10_in uX10_in) := goodIn_r _ [2, 3, 4, 11] rfl (by decide +kernel)
set_option maxRecDepth 20000 in
theorem gu_X10_gate_X10_ofKind_245 : GoodIn uX10_gate (wsV RX10 245 RX10 yX10_ofKind uX10_ofKind) := goodIn_r _ [7, 8, 9, 4, 12, 13, 6, 14, 15, 16, 17, 18, 19, 20, 21, 22, 23, 24, 25, 26, 27, 28, 29, 30, 31, 32, 33, 34, 35, 36, 37, 38, 39, 40, 41, 42, 43, 44, 45, 46, 47, 48, 49, 50] rfl (by decide +kernel)
set_option maxHeartbeats 4000000 in
set_option maxRecDepth 100000 in
theorem m_X10_gate (l : Launch) (D : va_G) (t : Nat → Nat) (cI cL cC : ClassId) (gC : Int32) (gE : Int32) (gW : Nat → Int32) (gA : Nat → Int32) (gT : Nat → Int32) (gI : Int32) (gS : Int32) (gM : Int32) (K : Nat → Int32) (F : Nat → Int32) (S : Nat → Int32) (N : Nat → Int32) (gH : Int) (gJ : Int) (ge : Int32) (gk : Int32) (gf : Int32) (gs : Int32) (gg : Int32) (gr : Int32) (RN : Nat → Int32) (a0 : Nat) (a1 : Int32) (a2 : Int32) (uq : ∀ b c : Nat, t b = t c → t b ≠ 0 → b = c) (hC0 : 0 ≤ gC.toInt) (hC4 : gC.toInt ≤ 400) (hI0 : 0 ≤ gI.toInt) (hI4 : gI.toInt ≤ 40) (hH0 : 0 ≤ gH) (hH9 : gH ≤ 96) (hm0 : 0 ≤ gM.toInt) (hm3 : gM.toInt ≤ 3) (hO0 : okM K F S N 0 gI.toInt) (hW : swM gS K F S N gI.toInt) (k_a0 : t a0 = 40) : tM l yX10_gate uX10_gate 1 25 D (mF cI cL cC gC gE gW gA gT gI gS gM K F S N gH gJ ge gk gf gs gg gr RN) (mF cI cL cC gC gE gW gA gT gI gS gM K F S N gH gJ ge gk gf gs gg gr RN) t cI cL cC [.ref a0, .int a1, .int a2] wm (pI (fun r => True)) := by
  refine tM.ofW (cc := cX10_gate) (maxL := 4) (ret := (some .int)) (by decide) rfl (Nat.le_of_ble_eq_true rfl) ?_
  intro p e s m below meth c hx hb hr hml hown hts hlk H locs hG hK hE hS ls hl
  have hl : lv_has ls 4 [(0, .ref a0), (1, .int a1), (2, .int a2)] := hl
  have in10 : ∀ w ∈ wsX100, w ∈ uX10_gate := fun w h => List.mem_cons_of_mem _ (List.mem_append_right _ h)
  refine lv_iload_n hx hb dX10_gate_0 rfl (lv_at hl 1 rfl) ?_
  refine lv_i2l (v := a1.toInt64) hx hb dX10_gate_1 rfl ?_
  refine lv_lconst (v := 0) hx hb dX10_gate_2 (by decide) ?_
  refine lv_ldc2 hx hb hown (hts (.constantLong RX10 243 (3)) (List.mem_of_getElem? (i := 1) rfl)) dX10_gate_3 ?_
  have zl_0 : (0 : Int64).toInt = 0 := by decide
  have zl_3 : (3 : Int64).toInt = 3 := by decide
  refine ty_calli (W.runS (As := [.long a1.toInt64, .long 0, .long 3]) (rest := []) ⟨hx, hb, hml, hown, hts⟩ (m_X10_in l D t cI cL cC gC gE gW gA gT gI gS gM K F S N gH gJ ge gk gf gs gg gr RN a1.toInt64 0 3 a1.toInt 0 3 uq (q_i2l _) (by decide) (by decide) ) (va_cwS 3 hts gu_X10_gate_X10_in_85 rfl rfl rfl (by decide +kernel) ⟨Nat.le_of_ble_eq_true rfl, Nat.le_of_ble_eq_true rfl⟩) (tP_S hG hE) rfl rfl hl.1 rfl (lv_room (Nat.le_of_ble_eq_true rfl)) dX10_gate_6 ⟨Nat.le_of_ble_eq_true rfl, Nat.le_of_ble_eq_true rfl⟩) hS (fun k h => by simp [wr0] at h) (fun r_1 H locs hp_2 hG hS o_3 => ?_)
  have hp_2 : (r_1 = 1 ∧ 0 ≤ a1.toInt ∧ a1.toInt ≤ 3) ∨ (r_1 = 0 ∧ (a1.toInt < 0 ∨ 3 < a1.toInt)) := hp_2
  rcases hp_2 with ⟨rfl, p_5, p_6⟩ | ⟨rfl, p_7⟩
  · skip
    refine lv_if_eq (tgt := 24) hx hb dX10_gate_9 (by decide) (fun q => absurd q (by decide)) (fun _ => ?_)
    refine lv_iload_n hx hb dX10_gate_12 rfl (lv_at hl 2 rfl) ?_
    refine lv_pc (pc2 := 13) rfl ?_
    refine lv_i2l (v := a2.toInt64) hx hb dX10_gate_13 rfl ?_
    refine lv_lconst (v := 0) hx hb dX10_gate_14 (by decide) ?_
    refine lv_ldc2 hx hb hown (hts (.constantLong RX10 219 (10)) (List.mem_of_getElem? (i := 5) rfl)) dX10_gate_15 ?_
    have zl_10 : (10 : Int64).toInt = 10 := by decide
    refine ty_calli (W.runS (As := [.long a2.toInt64, .long 0, .long 10]) (rest := []) ⟨hx, hb, hml, hown, hts⟩ (m_X10_in l D t cI cL cC gC gE gW gA gT gI gS gM K F S N gH gJ ge gk gf gs gg gr RN a2.toInt64 0 10 a2.toInt 0 10 uq (q_i2l _) (by decide) (by decide) ) (va_cwS 3 hts gu_X10_gate_X10_in_85 rfl rfl rfl (by decide +kernel) ⟨Nat.le_of_ble_eq_true rfl, Nat.le_of_ble_eq_true rfl⟩) (tP_S hG hE) rfl rfl hl.1 rfl (lv_room (Nat.le_of_ble_eq_true rfl)) dX10_gate_18 ⟨Nat.le_of_ble_eq_true rfl, Nat.le_of_ble_eq_true rfl⟩) hS (fun k h => by simp [wr0] at h) (fun r_8 H locs hp_9 hG hS o_10 => ?_)
    have hp_9 : (r_8 = 1 ∧ 0 ≤ a2.toInt ∧ a2.toInt ≤ 10) ∨ (r_8 = 0 ∧ (a2.toInt < 0 ∨ 10 < a2.toInt)) := hp_9
    rcases hp_9 with ⟨rfl, p_12, p_13⟩ | ⟨rfl, p_14⟩
    · skip
      refine lv_if_ne (tgt := 26) hx hb dX10_gate_21 (by decide) (fun _ => ?_) (fun q => absurd q (by decide))
      refine lv_aload_n hx hb dX10_gate_26 rfl (lv_at hl 0 rfl) ?_
      obtain ⟨r_15, v_17, r_18, r_20, r_22, r_24, r_26, r_28, r_30, r_32, r_34, r_36, r_38, r_40, r_42, r_44, r_46, r_48, r_50, r_52, r_54, r_56, r_58, v_60, r_61, at_63, h_16, h_19, h_21, h_23, h_25, h_27, h_29, h_31, h_33, h_35, h_37, h_39, h_41, h_43, h_45, h_47, h_49, h_51, h_53, h_55, h_57, h_59, h_62⟩ := mF_o40 hG k_a0
      refine va_get (D := D) (ci := 9) (v := .int v_17) (C := RX10) (T := TX10) (N := 36) hx hb hts in10 hown hK (va_one at_63) 0 rfl rfl 2 (by decide) (hts (.fieldLink RX10 173 "RiverModelModel" "isBuilt" "Z") (List.mem_of_getElem? (i := 6) rfl)) (fun _ h9 => h9) rfl dX10_gate_27 ?_
      refine lv_if_eq (tgt := 43) hx hb dX10_gate_30 (by decide) (fun c_64 => ?_) (fun c_64 => ?_)
      · skip
        have c_64 : v_17.toInt = 0 := q_eq c_64
        refine lv_pc (pc2 := 43) rfl ?_
        refine lv_bipush (v := (-2)) hx hb dX10_gate_43 (by decide) ?_
        have zi_m2 : ((-2) : Int32).toInt = (-2) := by decide
        exact ty_iret hx hb hr hlk hG hS True.intro dX10_gate_45
      · skip
        have c_64 : v_17.toInt ≠ 0 := q_ne c_64
        refine lv_iload_n hx hb dX10_gate_33 rfl (lv_at hl 1 rfl) ?_
        refine lv_aload_n hx hb dX10_gate_34 rfl (lv_at hl 0 rfl) ?_
        refine lv_bipush (v := 103) hx hb dX10_gate_35 (by decide) ?_
        have zi_103 : (103 : Int32).toInt = 103 := by decide
        refine ty_calli (W.runV (As := [.int 103]) (rest := [.int a1]) ⟨hx, hb, hml, hown, hts⟩ (m_X10_ofKind l D t cI cL cC gC gE gW gA gT gI gS gM K F S N gH gJ ge gk gf gs gg gr RN a0 103  uq (by omega) (by omega) k_a0) (cwV 1 hts gu_X10_gate_X10_ofKind_245 rfl rfl rfl (by decide +kernel) ⟨Nat.le_of_ble_eq_true rfl, Nat.le_of_ble_eq_true rfl⟩) (tP_V hG hE at_63 rfl) rfl rfl hl.1 rfl (lv_room (Nat.le_of_ble_eq_true rfl)) dX10_gate_37 ⟨Nat.le_of_ble_eq_true rfl, Nat.le_of_ble_eq_true rfl⟩) hS (fun k h => by simp [wr0] at h) (fun r_65 H locs hp_66 hG hS o_67 => ?_)
        have at_63 := va_at.keptC at_63 o_67 k_a0 rfl
        refine lv_icmp_lt (tgt := 46) hx hb dX10_gate_40 (by decide) (fun c_69 => ?_) (fun c_69 => ?_)
        · skip
          have c_69 : a1.toInt < r_65.toInt := q_lt c_69
          refine lv_aload_n hx hb dX10_gate_46 rfl (lv_at hl 0 rfl) ?_
          refine lv_pc (pc2 := 47) rfl ?_
          refine va_get (D := D) (ci := 9) (v := .ref r_28) (C := RX10) (T := TX10) (N := 36) hx hb hts in10 hown hK (va_one at_63) 0 rfl rfl 10 (by decide) (hts (.fieldLink RX10 28 "RiverModelModel" "m" "[J") (List.mem_of_getElem? (i := 10) rfl)) (fun _ h9 => h9) rfl dX10_gate_47 ?_
          refine lv_sipush (v := 224) hx hb dX10_gate_50 (by decide) ?_
          refine lv_iload_n hx hb dX10_gate_53 rfl (lv_at hl 1 rfl) ?_
          refine lv_iadd hx hb dX10_gate_54 ?_
          refine lv_topi (fun x_70 e_71 => ?_)
          have i_x_70 : x_70.toInt = 224 + a1.toInt := by rw [e_71]; exact (q_add (by rw [show (224 : Int32).toInt = 224 by decide]; omega) (by rw [show (224 : Int32).toInt = 224 by decide]; omega)).trans (by rw [show (224 : Int32).toInt = 224 by decide])
          obtain ⟨f_72, at_73, h_74⟩ := mF_o47 hG h_29
          have b_75 : vp_in x_70 280 := (q_in (by omega) (by omega))
          refine va_lald hx hb hK (va_one at_73) 0 1 rfl rfl b_75 dX10_gate_55 ?_
          refine lv_topl (fun z_76 e_77 => ?_)
          refine lv_l2i (v := z_76.toInt32) hx hb dX10_gate_56 rfl ?_
          refine lv_topi (fun x_78 e_79 => ?_)
          refine lv_istore_n (lv' := [(3, .int x_78), (0, .ref a0), (1, .int a1), (2, .int a2)]) hx hb dX10_gate_57 rfl hl (by decide) rfl (fun ls hl => ?_)
          refine lv_aload_n hx hb dX10_gate_58 rfl (lv_at hl 1 rfl) ?_
          refine lv_pc (pc2 := 59) rfl ?_
          refine va_get (D := D) (ci := 9) (v := .ref r_28) (C := RX10) (T := TX10) (N := 36) hx hb hts in10 hown hK (va_one at_63) 0 rfl rfl 10 (by decide) (hts (.fieldLink RX10 28 "RiverModelModel" "m" "[J") (List.mem_of_getElem? (i := 10) rfl)) (fun _ h9 => h9) rfl dX10_gate_59 ?_
          refine lv_sipush (v := 224) hx hb dX10_gate_62 (by decide) ?_
          refine lv_iload_n hx hb dX10_gate_65 rfl (lv_at hl 2 rfl) ?_
          refine lv_iadd hx hb dX10_gate_66 ?_
          refine lv_topi (fun x_80 e_81 => ?_)
          have i_x_80 : x_80.toInt = 224 + a1.toInt := by rw [e_81]; exact (q_add (by rw [show (224 : Int32).toInt = 224 by decide]; omega) (by rw [show (224 : Int32).toInt = 224 by decide]; omega)).trans (by rw [show (224 : Int32).toInt = 224 by decide])
          refine lv_iload_n hx hb dX10_gate_67 rfl (lv_at hl 3 rfl) ?_
          refine lv_i2l (v := a2.toInt64) hx hb dX10_gate_68 rfl ?_
          have b_82 : vp_in x_80 280 := (q_in (by omega) (by omega))
          refine ty_last (F2 := (mF cI cL cC gC gE gW gA gT gI gS gM K F S N gH gJ ge gk gf gs gg gr RN)) hx hb hK hG hS 1 at_73 (by rw [h_29]; rfl) rfl b_82 (by rw [h_29]; exact ⟨_, rfl, gHr_ne ⟨by omega, by omega⟩ h_74⟩) tFF dX10_gate_69 (fun H locs hG hS at_83 o_84 => ?_)
          have at_63 := va_at.keptK at_63 o_84 h_29 k_a0 rfl
          refine lv_iload_n hx hb dX10_gate_70 rfl (lv_at hl 0 rfl) ?_
          refine lv_pc (pc2 := 71) rfl ?_
          exact ty_iret hx hb hr hlk hG hS True.intro dX10_gate_71
        · skip
          have c_69 : r_65.toInt ≤ a1.toInt := q_nlt c_69
          refine lv_bipush (v := (-2)) hx hb dX10_gate_43 (by decide) ?_
          have zi_m2 : ((-2) : Int32).toInt = (-2) := by decide
          exact ty_iret hx hb hr hlk hG hS True.intro dX10_gate_45
    · skip
      refine lv_if_ne (tgt := 26) hx hb dX10_gate_21 (by decide) (fun q => absurd rfl q) (fun _ => ?_)
      refine lv_iconst (v := (-1)) hx hb dX10_gate_24 (by decide) ?_
      have zi_m1 : ((-1) : Int32).toInt = (-1) := by decide
      exact ty_iret hx hb hr hlk hG hS True.intro dX10_gate_25
  · skip
    refine lv_if_eq (tgt := 24) hx hb dX10_gate_9 (by decide) (fun _ => ?_) (fun q => absurd (by decide) q)
    refine lv_iconst (v := (-1)) hx hb dX10_gate_24 (by decide) ?_
    refine lv_pc (pc2 := 25) rfl ?_
    have zi_m1 : ((-1) : Int32).toInt = (-1) := by decide
    exact ty_iret hx hb hr hlk hG hS True.intro dX10_gate_25

def uX10_book : List Cond := .code yX10_book cX10_book 9 (some .long) :: ([.constantLong RX10 196 (5), .methodLink RX10 85 yX10_in, .static yX10_in, .initialized RX10, .fieldLink RX10 173 "RiverModelModel" "isBuilt" "Z", .fieldLink RX10 28 "RiverModelModel" "m" "[J", .methodLink RX10 240 yX10_wayTo, .instanceMethod yX10_wayTo, .selects RX10 yX10_wayTo yX10_wayTo, .methodLink RX10 183 yX10_startOf, .instanceMethod yX10_startOf, .selects RX10 yX10_startOf yX10_startOf, .constantLong RX10 238 (-2), .constantLong RX10 236 (-1), .code yX10_in cX10_in 6 (some .boolean), .code yX10_wayTo cX10_wayTo 5 (some .long), .code yX10_startOf cX10_startOf 4 (some .int), .methodLink RX10 166 yX10_storeAt, .instanceMethod yX10_storeAt, .selects RX10 yX10_storeAt yX10_storeAt, .fieldLink RX10 22 "RiverModelModel" "number" "[I", .code yX10_storeAt cX10_storeAt 5 (some .int), .fieldLink RX10 163 "RiverModelModel" "items" "I", .fieldLink RX10 13 "RiverModelModel" "kind" "[I", .fieldLink RX10 16 "RiverModelModel" "first" "[I"] ++ wsX100)
set_option maxRecDepth 20000 in
theorem gu_X10_book_X10_in_85 : GoodIn uX10_book (va_wsS RX10 85 yX10_in uX10_in) := goodIn_r _ [2, 3, 4, 15] rfl (by decide +kernel)
set_option maxRecDepth 20000 in
theorem gu_X10_book_X10_wayTo_240 : GoodIn uX10_book (wsV RX10 240 RX10 yX10_wayTo uX10_wayTo) := goodIn_r _ [7, 8, 9, 4, 16, 6, 26, 27, 28, 29, 30, 31, 32, 33, 34, 35, 36, 37, 38, 39, 40, 41, 42, 43, 44, 45, 46, 47, 48, 49, 50, 51, 52, 53, 54, 55, 56, 57, 58, 59, 60, 61] rfl (by decide +kernel)
set_option maxRecDepth 20000 in
theorem gu_X10_book_X10_startOf_183 : GoodIn uX10_book (wsV RX10 183 RX10 yX10_startOf uX10_startOf) := goodIn_r _ [10, 11, 12, 4, 17, 18, 19, 20, 4, 21, 22, 23, 24, 25, 26, 27, 28, 29, 30, 31, 32, 33, 34, 35, 36, 37, 38, 39, 40, 41, 42, 43, 44, 45, 46, 47, 48, 49, 50, 51, 52, 53, 54, 55, 56, 57, 58, 59, 60, 61] rfl (by decide +kernel)
set_option maxHeartbeats 4000000 in
set_option maxRecDepth 100000 in
theorem m_X10_book (l : Launch) (D : va_G) (t : Nat → Nat) (cI cL cC : ClassId) (gC : Int32) (gE : Int32) (gW : Nat → Int32) (gA : Nat → Int32) (gT : Nat → Int32) (gI : Int32) (gS : Int32) (gM : Int32) (K : Nat → Int32) (F : Nat → Int32) (S : Nat → Int32) (N : Nat → Int32) (gH : Int) (gJ : Int) (ge : Int32) (gk : Int32) (gf : Int32) (gs : Int32) (gg : Int32) (gr : Int32) (RN : Nat → Int32) (a0 : Nat) (a1 : Int32) (uq : ∀ b c : Nat, t b = t c → t b ≠ 0 → b = c) (hC0 : 0 ≤ gC.toInt) (hC4 : gC.toInt ≤ 400) (hI0 : 0 ≤ gI.toInt) (hI4 : gI.toInt ≤ 40) (hH0 : 0 ≤ gH) (hH9 : gH ≤ 96) (hm0 : 0 ≤ gM.toInt) (hm3 : gM.toInt ≤ 3) (hO0 : okM K F S N 0 gI.toInt) (hW : swM gS K F S N gI.toInt) (k_a0 : t a0 = 40) : tM l yX10_book uX10_book 2 47 D (mF cI cL cC gC gE gW gA gT gI gS gM K F S N gH gJ ge gk gf gs gg gr RN) (mF cI cL cC gC gE gW gA gT gI gS gM K F S N gH gJ ge gk gf gs gg gr RN) t cI cL cC [.ref a0, .int a1] wr0 (pL (fun r => True)) := by
  refine tM.ofW (cc := cX10_book) (maxL := 9) (ret := (some .long)) (by decide) rfl (Nat.le_of_ble_eq_true rfl) ?_
  intro p e s m below meth c hx hb hr hml hown hts hlk H locs hG hK hE hS ls hl
  have hl : lv_has ls 9 [(0, .ref a0), (1, .int a1)] := hl
  have in10 : ∀ w ∈ wsX100, w ∈ uX10_book := fun w h => List.mem_cons_of_mem _ (List.mem_append_right _ h)
  refine lv_iload_n hx hb dX10_book_0 rfl (lv_at hl 1 rfl) ?_
  refine lv_i2l (v := a1.toInt64) hx hb dX10_book_1 rfl ?_
  refine lv_lconst (v := 0) hx hb dX10_book_2 (by decide) ?_
  refine lv_ldc2 hx hb hown (hts (.constantLong RX10 196 (5)) (List.mem_of_getElem? (i := 1) rfl)) dX10_book_3 ?_
  have zl_0 : (0 : Int64).toInt = 0 := by decide
  have zl_5 : (5 : Int64).toInt = 5 := by decide
  refine ty_calli (W.runS (As := [.long a1.toInt64, .long 0, .long 5]) (rest := []) ⟨hx, hb, hml, hown, hts⟩ (m_X10_in l D t cI cL cC gC gE gW gA gT gI gS gM K F S N gH gJ ge gk gf gs gg gr RN a1.toInt64 0 5 a1.toInt 0 5 uq (q_i2l _) (by decide) (by decide) ) (va_cwS 3 hts gu_X10_book_X10_in_85 rfl rfl rfl (by decide +kernel) ⟨Nat.le_of_ble_eq_true rfl, Nat.le_of_ble_eq_true rfl⟩) (tP_S hG hE) rfl rfl hl.1 rfl (lv_room (Nat.le_of_ble_eq_true rfl)) dX10_book_6 ⟨Nat.le_of_ble_eq_true rfl, Nat.le_of_ble_eq_true rfl⟩) hS (fun _ h => h) (fun r_1 H locs hp_2 hG hS o_3 => ?_)
  have hp_2 : (r_1 = 1 ∧ 0 ≤ a1.toInt ∧ a1.toInt ≤ 5) ∨ (r_1 = 0 ∧ (a1.toInt < 0 ∨ 5 < a1.toInt)) := hp_2
  rcases hp_2 with ⟨rfl, p_5, p_6⟩ | ⟨rfl, p_7⟩
  · skip
    refine lv_if_ne (tgt := 16) hx hb dX10_book_9 (by decide) (fun _ => ?_) (fun q => absurd q (by decide))
    refine lv_aload_n hx hb dX10_book_16 rfl (lv_at hl 0 rfl) ?_
    refine lv_pc (pc2 := 17) rfl ?_
    obtain ⟨r_8, v_10, r_11, r_13, r_15, r_17, r_19, r_21, r_23, r_25, r_27, r_29, r_31, r_33, r_35, r_37, r_39, r_41, r_43, r_45, r_47, r_49, r_51, v_53, r_54, at_56, h_9, h_12, h_14, h_16, h_18, h_20, h_22, h_24, h_26, h_28, h_30, h_32, h_34, h_36, h_38, h_40, h_42, h_44, h_46, h_48, h_50, h_52, h_55⟩ := mF_o40 hG k_a0
    refine va_get (D := D) (ci := 9) (v := .int v_10) (C := RX10) (T := TX10) (N := 36) hx hb hts in10 hown hK (va_one at_56) 0 rfl rfl 2 (by decide) (hts (.fieldLink RX10 173 "RiverModelModel" "isBuilt" "Z") (List.mem_of_getElem? (i := 5) rfl)) (fun _ h9 => h9) rfl dX10_book_17 ?_
    refine lv_if_ne (tgt := 27) hx hb dX10_book_20 (by decide) (fun c_57 => ?_) (fun c_57 => ?_)
    · skip
      have c_57 : v_10.toInt ≠ 0 := q_ne c_57
      refine lv_lconst (v := 0) hx hb dX10_book_27 (by decide) ?_
      refine lv_lstore_n (lv' := [(2, .long 0), (0, .ref a0), (1, .int a1)]) hx hb dX10_book_28 rfl hl (by decide) rfl (fun ls hl => ?_)
      refine lv_lconst (v := 0) hx hb dX10_book_29 (by decide) ?_
      refine lv_lstore (lv' := [(4, .long 0), (2, .long 0), (0, .ref a0), (1, .int a1)]) hx hb dX10_book_30 hl (by decide) rfl (fun ls hl => ?_)
      refine lv_lconst (v := 0) hx hb dX10_book_32 (by decide) ?_
      refine lv_lstore (lv' := [(6, .long 0), (4, .long 0), (2, .long 0), (0, .ref a0), (1, .int a1)]) hx hb dX10_book_33 hl (by decide) rfl (fun ls hl => ?_)
      refine lv_pc (pc2 := 35) rfl ?_
      refine lv_iconst (v := 0) hx hb dX10_book_35 (by decide) ?_
      refine lv_istore (lv' := [(8, .int 0), (6, .long 0), (4, .long 0), (2, .long 0), (0, .ref a0), (1, .int a1)]) hx hb dX10_book_36 hl (by decide) rfl (fun ls hl => ?_)
      refine lv_pc (pc2 := 38) rfl ?_
      refine lp_gen (fun WW58 hWW58 => ?_)
      have kx58 : ∀ (yk : Int32) (ys : Int64) (yw : Int64) (ya : Int64) (H1 : Heap) (locs1 : List Loc) (ls1 : Array Slot), (0 ≤ yk.toInt) → (yk.toInt ≤ 16) → tG D (mF cI cL cC gC gE gW gA gT gI gS gM K F S N gH gJ ge gk gf gs gg gr RN) t H1 → tF t wr0 s.heap H1 locs1 → lv_has ls1 9 [(8, .int yk), (6, .long ys), (4, .long yw), (2, .long ya), (0, .ref a0), (1, .int a1)] → WW58 H1 locs1 (F0 m 85 ls1 []) := by
        intro yk ys yw ya H locs ls v58_0 v58_1 hG hS hl
        refine (hWW58 _ _ _).mpr ?_
        refine lv_iload_n hx hb dX10_book_85 rfl (lv_at hl 5 rfl) ?_
        by_cases k_59 : a1.toInt = 0
        · refine lv_tableIn (tgt := 120) hx hb dX10_book_86 (by rw [k_59]; decide) (by rw [k_59]; decide) (by rw [k_59]; rfl) (by decide) ?_
          refine lv_aload_n hx hb dX10_book_120 rfl (lv_at hl 4 rfl) ?_
          obtain ⟨r_60, v_62, r_63, r_65, r_67, r_69, r_71, r_73, r_75, r_77, r_79, r_81, r_83, r_85, r_87, r_89, r_91, r_93, r_95, r_97, r_99, r_101, r_103, v_105, r_106, at_108, h_61, h_64, h_66, h_68, h_70, h_72, h_74, h_76, h_78, h_80, h_82, h_84, h_86, h_88, h_90, h_92, h_94, h_96, h_98, h_100, h_102, h_104, h_107⟩ := mF_o40 hG k_a0
          refine va_get (D := D) (ci := 9) (v := .ref r_73) (C := RX10) (T := TX10) (N := 36) hx hb hts in10 hown hK (va_one at_108) 0 rfl rfl 10 (by decide) (hts (.fieldLink RX10 28 "RiverModelModel" "m" "[J") (List.mem_of_getElem? (i := 6) rfl)) (fun _ h9 => h9) rfl dX10_book_121 ?_
          refine lv_sipush (v := 230) hx hb dX10_book_124 (by decide) ?_
          obtain ⟨f_109, at_110, h_111⟩ := mF_o47 hG h_74
          have b_112 : vp_in 230 280 := (q_in (by decide) (by decide))
          refine va_lald hx hb hK (va_one at_110) 0 1 rfl rfl b_112 dX10_book_127 ?_
          refine lv_topl (fun z_113 e_114 => ?_)
          refine lv_pc (pc2 := 128) rfl ?_
          exact ty_lret hx hb hr hlk hG hS True.intro dX10_book_128
        by_cases k_115 : a1.toInt = 1
        · refine lv_tableIn (tgt := 129) hx hb dX10_book_86 (by rw [k_115]; decide) (by rw [k_115]; decide) (by rw [k_115]; rfl) (by decide) ?_
          refine lv_aload_n hx hb dX10_book_129 rfl (lv_at hl 4 rfl) ?_
          obtain ⟨r_116, v_118, r_119, r_121, r_123, r_125, r_127, r_129, r_131, r_133, r_135, r_137, r_139, r_141, r_143, r_145, r_147, r_149, r_151, r_153, r_155, r_157, r_159, v_161, r_162, at_164, h_117, h_120, h_122, h_124, h_126, h_128, h_130, h_132, h_134, h_136, h_138, h_140, h_142, h_144, h_146, h_148, h_150, h_152, h_154, h_156, h_158, h_160, h_163⟩ := mF_o40 hG k_a0
          refine va_get (D := D) (ci := 9) (v := .ref r_129) (C := RX10) (T := TX10) (N := 36) hx hb hts in10 hown hK (va_one at_164) 0 rfl rfl 10 (by decide) (hts (.fieldLink RX10 28 "RiverModelModel" "m" "[J") (List.mem_of_getElem? (i := 6) rfl)) (fun _ h9 => h9) rfl dX10_book_130 ?_
          refine lv_sipush (v := 228) hx hb dX10_book_133 (by decide) ?_
          obtain ⟨f_165, at_166, h_167⟩ := mF_o47 hG h_130
          have b_168 : vp_in 228 280 := (q_in (by decide) (by decide))
          refine va_lald hx hb hK (va_one at_166) 0 1 rfl rfl b_168 dX10_book_136 ?_
          refine lv_topl (fun z_169 e_170 => ?_)
          exact ty_lret hx hb hr hlk hG hS True.intro dX10_book_137
        by_cases k_171 : a1.toInt = 2
        · refine lv_tableIn (tgt := 138) hx hb dX10_book_86 (by rw [k_171]; decide) (by rw [k_171]; decide) (by rw [k_171]; rfl) (by decide) ?_
          refine lv_aload_n hx hb dX10_book_138 rfl (lv_at hl 4 rfl) ?_
          obtain ⟨r_172, v_174, r_175, r_177, r_179, r_181, r_183, r_185, r_187, r_189, r_191, r_193, r_195, r_197, r_199, r_201, r_203, r_205, r_207, r_209, r_211, r_213, r_215, v_217, r_218, at_220, h_173, h_176, h_178, h_180, h_182, h_184, h_186, h_188, h_190, h_192, h_194, h_196, h_198, h_200, h_202, h_204, h_206, h_208, h_210, h_212, h_214, h_216, h_219⟩ := mF_o40 hG k_a0
          refine va_get (D := D) (ci := 9) (v := .ref r_185) (C := RX10) (T := TX10) (N := 36) hx hb hts in10 hown hK (va_one at_220) 0 rfl rfl 10 (by decide) (hts (.fieldLink RX10 28 "RiverModelModel" "m" "[J") (List.mem_of_getElem? (i := 6) rfl)) (fun _ h9 => h9) rfl dX10_book_139 ?_
          refine lv_pc (pc2 := 142) rfl ?_
          refine lv_sipush (v := 229) hx hb dX10_book_142 (by decide) ?_
          obtain ⟨f_221, at_222, h_223⟩ := mF_o47 hG h_186
          have b_224 : vp_in 229 280 := (q_in (by decide) (by decide))
          refine va_lald hx hb hK (va_one at_222) 0 1 rfl rfl b_224 dX10_book_145 ?_
          refine lv_topl (fun z_225 e_226 => ?_)
          exact ty_lret hx hb hr hlk hG hS True.intro dX10_book_146
        by_cases k_227 : a1.toInt = 3
        · refine lv_tableIn (tgt := 147) hx hb dX10_book_86 (by rw [k_227]; decide) (by rw [k_227]; decide) (by rw [k_227]; rfl) (by decide) ?_
          refine lv_lload_n hx hb dX10_book_147 rfl (lv_at hl 3 rfl) ?_
          exact ty_lret hx hb hr hlk hG hS True.intro dX10_book_148
        by_cases k_228 : a1.toInt = 4
        · refine lv_tableIn (tgt := 149) hx hb dX10_book_86 (by rw [k_228]; decide) (by rw [k_228]; decide) (by rw [k_228]; rfl) (by decide) ?_
          refine lv_lload hx hb dX10_book_149 (lv_at hl 2 rfl) ?_
          exact ty_lret hx hb hr hlk hG hS True.intro dX10_book_151
        refine lv_tableOut (tgt := 152) hx hb dX10_book_86 (by omega) (by decide) ?_
        refine lv_lload hx hb dX10_book_152 (lv_at hl 1 rfl) ?_
        refine lv_pc (pc2 := 154) rfl ?_
        exact ty_lret hx hb hr hlk hG hS True.intro dX10_book_154
      have lp58 : ∀ (kk58 : Nat) (yk : Int32) (ys : Int64) (yw : Int64) (ya : Int64) (H1 : Heap) (locs1 : List Loc) (ls1 : Array Slot), 16 - yk.toInt ≤ (kk58 : Int) → (0 ≤ yk.toInt) → (yk.toInt ≤ 16) → tG D (mF cI cL cC gC gE gW gA gT gI gS gM K F S N gH gJ ge gk gf gs gg gr RN) t H1 → tF t wr0 s.heap H1 locs1 → lv_has ls1 9 [(8, .int yk), (6, .long ys), (4, .long yw), (2, .long ya), (0, .ref a0), (1, .int a1)] → WW58 H1 locs1 (F0 m 38 ls1 []) := by
        intro kk58
        induction kk58 with
        | zero =>
          intro yk ys yw ya H locs ls hk58 v58_0 v58_1 hG hS hl
          refine (hWW58 _ _ _).mpr ?_
          refine lv_iload hx hb dX10_book_38 (lv_at hl 0 rfl) ?_
          refine lv_bipush (v := 16) hx hb dX10_book_40 (by decide) ?_
          refine lv_icmp_ge (tgt := 85) hx hb dX10_book_42 (by decide) (fun c_229 => ?_) (fun c_229 => ?_)
          · skip
            have c_229 : 16 ≤ yk.toInt := q_le c_229
            exact (hWW58 _ _ _).mp (kx58 yk ys yw ya H locs ls v58_0 v58_1 hG hS (lv_sub hl [0, 1, 2, 3, 4, 5] rfl))
          · skip
            have c_229 : yk.toInt < 16 := q_nle c_229
            exfalso; omega
        | succ kk58 ih58 =>
          intro yk ys yw ya H locs ls hk58 v58_0 v58_1 hG hS hl
          refine (hWW58 _ _ _).mpr ?_
          refine lv_iload hx hb dX10_book_38 (lv_at hl 0 rfl) ?_
          refine lv_bipush (v := 16) hx hb dX10_book_40 (by decide) ?_
          refine lv_icmp_ge (tgt := 85) hx hb dX10_book_42 (by decide) (fun c_230 => ?_) (fun c_230 => ?_)
          · skip
            have c_230 : 16 ≤ yk.toInt := q_le c_230
            exact (hWW58 _ _ _).mp (kx58 yk ys yw ya H locs ls v58_0 v58_1 hG hS (lv_sub hl [0, 1, 2, 3, 4, 5] rfl))
          · skip
            have c_230 : yk.toInt < 16 := q_nle c_230
            refine lv_lload_n hx hb dX10_book_45 rfl (lv_at hl 3 rfl) ?_
            refine lv_pc (pc2 := 46) rfl ?_
            refine lv_aload_n hx hb dX10_book_46 rfl (lv_at hl 4 rfl) ?_
            obtain ⟨r_231, v_233, r_234, r_236, r_238, r_240, r_242, r_244, r_246, r_248, r_250, r_252, r_254, r_256, r_258, r_260, r_262, r_264, r_266, r_268, r_270, r_272, r_274, v_276, r_277, at_279, h_232, h_235, h_237, h_239, h_241, h_243, h_245, h_247, h_249, h_251, h_253, h_255, h_257, h_259, h_261, h_263, h_265, h_267, h_269, h_271, h_273, h_275, h_278⟩ := mF_o40 hG k_a0
            refine va_get (D := D) (ci := 9) (v := .ref r_244) (C := RX10) (T := TX10) (N := 36) hx hb hts in10 hown hK (va_one at_279) 0 rfl rfl 10 (by decide) (hts (.fieldLink RX10 28 "RiverModelModel" "m" "[J") (List.mem_of_getElem? (i := 6) rfl)) (fun _ h9 => h9) rfl dX10_book_47 ?_
            refine lv_iload hx hb dX10_book_50 (lv_at hl 0 rfl) ?_
            obtain ⟨f_280, at_281, h_282⟩ := mF_o47 hG h_245
            have b_283 : vp_in yk 280 := (q_in (by omega) (by omega))
            refine va_lald hx hb hK (va_one at_281) 0 1 rfl rfl b_283 dX10_book_52 ?_
            refine lv_topl (fun z_284 e_285 => ?_)
            refine lv_ladd hx hb dX10_book_53 ?_
            refine lv_topl (fun z_286 e_287 => ?_)
            refine lv_lstore_n (lv' := [(2, .long z_286), (8, .int yk), (6, .long ys), (4, .long yw), (0, .ref a0), (1, .int a1)]) hx hb dX10_book_54 rfl hl (by decide) rfl (fun ls hl => ?_)
            refine lv_lload hx hb dX10_book_55 (lv_at hl 3 rfl) ?_
            refine lv_aload_n hx hb dX10_book_57 rfl (lv_at hl 4 rfl) ?_
            refine lv_pc (pc2 := 58) rfl ?_
            refine lv_iload hx hb dX10_book_58 (lv_at hl 1 rfl) ?_
            refine ty_calll (W.runV (As := [.int yk]) (rest := [.long yw]) ⟨hx, hb, hml, hown, hts⟩ (m_X10_wayTo l D t cI cL cC gC gE gW gA gT gI gS gM K F S N gH gJ ge gk gf gs gg gr RN a0 yk  uq (by omega) (by omega) k_a0) (cwV 1 hts gu_X10_book_X10_wayTo_240 rfl rfl rfl (by decide +kernel) ⟨Nat.le_of_ble_eq_true rfl, Nat.le_of_ble_eq_true rfl⟩) (tP_V hG hE at_279 rfl) rfl rfl hl.1 rfl (lv_room (Nat.le_of_ble_eq_true rfl)) dX10_book_60 ⟨Nat.le_of_ble_eq_true rfl, Nat.le_of_ble_eq_true rfl⟩) hS (fun _ h => h) (fun z_288 H locs hp_289 hG hS o_290 => ?_)
            have at_279 := va_at.keptC at_279 o_290 k_a0 rfl
            have at_281 := va_at.keptC at_281 o_290 h_245 rfl
            refine lv_ladd hx hb dX10_book_63 ?_
            refine lv_topl (fun z_292 e_293 => ?_)
            refine lv_lstore (lv' := [(4, .long z_292), (2, .long z_286), (8, .int yk), (6, .long ys), (0, .ref a0), (1, .int a1)]) hx hb dX10_book_64 hl (by decide) rfl (fun ls hl => ?_)
            refine lv_lload hx hb dX10_book_66 (lv_at hl 3 rfl) ?_
            refine lv_aload_n hx hb dX10_book_68 rfl (lv_at hl 4 rfl) ?_
            refine lv_iconst (v := 0) hx hb dX10_book_69 (by decide) ?_
            refine lv_iload hx hb dX10_book_70 (lv_at hl 2 rfl) ?_
            refine lv_pc (pc2 := 72) rfl ?_
            have zi_0 : (0 : Int32).toInt = 0 := by decide
            refine ty_calli (W.runV (As := [.int 0, .int yk]) (rest := [.long ys]) ⟨hx, hb, hml, hown, hts⟩ (m_X10_startOf l D t cI cL cC gC gE gW gA gT gI gS gM K F S N gH gJ ge gk gf gs gg gr RN a0 0 yk 0 uq (by omega) (by omega) (by omega) (by omega) (by omega) k_a0) (cwV 2 hts gu_X10_book_X10_startOf_183 rfl rfl rfl (by decide +kernel) ⟨Nat.le_of_ble_eq_true rfl, Nat.le_of_ble_eq_true rfl⟩) (tP_V hG hE at_279 rfl) rfl rfl hl.1 rfl (lv_room (Nat.le_of_ble_eq_true rfl)) dX10_book_72 ⟨Nat.le_of_ble_eq_true rfl, Nat.le_of_ble_eq_true rfl⟩) hS (fun _ h => h) (fun r_294 H locs hp_295 hG hS o_296 => ?_)
            have at_279 := va_at.keptC at_279 o_296 k_a0 rfl
            have at_281 := va_at.keptC at_281 o_296 h_245 rfl
            refine lv_i2l (v := r_294.toInt64) hx hb dX10_book_75 rfl ?_
            refine lv_ladd hx hb dX10_book_76 ?_
            refine lv_topl (fun z_298 e_299 => ?_)
            refine lv_lstore (lv' := [(6, .long z_298), (4, .long z_292), (2, .long z_286), (8, .int yk), (0, .ref a0), (1, .int a1)]) hx hb dX10_book_77 hl (by decide) rfl (fun ls hl => ?_)
            obtain ⟨x_300, e_301⟩ : ∃ y : Int32, y = yk + Int32.ofInt 1 := ⟨_, rfl⟩
            have i_x_300 : x_300.toInt = yk.toInt + 1 := by rw [e_301, show Int32.ofInt 1 = 1 by decide]; exact (q_add (by rw [show (1 : Int32).toInt = 1 by decide]; omega) (by rw [show (1 : Int32).toInt = 1 by decide]; omega)).trans (by rw [show (1 : Int32).toInt = 1 by decide])
            refine lv_iinc (v := x_300) (lv' := [(8, .int x_300), (6, .long z_298), (4, .long z_292), (2, .long z_286), (0, .ref a0), (1, .int a1)]) hx hb dX10_book_79 hl (k := 3) rfl e_301.symm (by decide) rfl (fun ls hl => ?_)
            refine lv_goto (tgt := 38) hx hb dX10_book_82 (by decide) ?_
            exact (hWW58 _ _ _).mp (ih58 x_300 z_298 z_292 z_286 H locs ls (by omega) (by omega) (by omega) hG hS (lv_sub hl [0, 1, 2, 3, 4, 5] rfl))
      have zi_0 : (0 : Int32).toInt = 0 := by decide
      exact lp58 (16 - (0 : Int32).toInt : Int).toNat 0 0 0 0 H locs ls (by omega) (by omega) (by omega) hG hS (lv_sub hl [0, 1, 2, 3, 4, 5] rfl)
    · skip
      have c_57 : v_10.toInt = 0 := q_eq c_57
      refine lv_ldc2 hx hb hown (hts (.constantLong RX10 238 (-2)) (List.mem_of_getElem? (i := 13) rfl)) dX10_book_23 ?_
      have zl_m2 : ((-2) : Int64).toInt = (-2) := by decide
      exact ty_lret hx hb hr hlk hG hS True.intro dX10_book_26
  · skip
    refine lv_pc (pc2 := 9) rfl ?_
    refine lv_if_ne (tgt := 16) hx hb dX10_book_9 (by decide) (fun q => absurd rfl q) (fun _ => ?_)
    refine lv_ldc2 hx hb hown (hts (.constantLong RX10 236 (-1)) (List.mem_of_getElem? (i := 14) rfl)) dX10_book_12 ?_
    have zl_m1 : ((-1) : Int64).toInt = (-1) := by decide
    exact ty_lret hx hb hr hlk hG hS True.intro dX10_book_15

def uX10_gauge : List Cond := .code yX10_gauge cX10_gauge 5 (some .int) :: ([.constantLong RX10 243 (3), .methodLink RX10 85 yX10_in, .static yX10_in, .initialized RX10, .constantLong RX10 234 (15), .fieldLink RX10 173 "RiverModelModel" "isBuilt" "Z", .methodLink RX10 208 yX10_isStore, .instanceMethod yX10_isStore, .selects RX10 yX10_isStore yX10_isStore, .fieldLink RX10 38 "RiverModelModel" "gaugeKind" "[I", .fieldLink RX10 41 "RiverModelModel" "gaugeAt" "[I", .fieldLink RX10 44 "RiverModelModel" "seen" "[I", .fieldLink RX10 163 "RiverModelModel" "items" "I", .constantLong RX10 194 (39), .code yX10_in cX10_in 6 (some .boolean), .code yX10_isStore cX10_isStore 2 (some .boolean), .methodLink RX10 166 yX10_storeAt, .instanceMethod yX10_storeAt, .selects RX10 yX10_storeAt yX10_storeAt, .code yX10_storeAt cX10_storeAt 5 (some .int), .fieldLink RX10 13 "RiverModelModel" "kind" "[I", .fieldLink RX10 16 "RiverModelModel" "first" "[I"] ++ wsX100)
set_option maxRecDepth 20000 in
theorem gu_X10_gauge_X10_in_85 : GoodIn uX10_gauge (va_wsS RX10 85 yX10_in uX10_in) := goodIn_r _ [2, 3, 4, 15] rfl (by decide +kernel)
set_option maxRecDepth 20000 in
theorem gu_X10_gauge_X10_isStore_208 : GoodIn uX10_gauge (wsV RX10 208 RX10 yX10_isStore uX10_isStore) := goodIn_r _ [7, 8, 9, 4, 16, 17, 18, 19, 4, 20, 13, 21, 22, 23, 24, 25, 26, 27, 28, 29, 30, 31, 32, 33, 34, 35, 36, 37, 38, 39, 40, 41, 42, 43, 44, 45, 46, 47, 48, 49, 50, 51, 52, 53, 54, 55, 56, 57, 58] rfl (by decide +kernel)
set_option maxHeartbeats 4000000 in
set_option maxRecDepth 100000 in
theorem m_X10_gauge (l : Launch) (D : va_G) (t : Nat → Nat) (cI cL cC : ClassId) (gC : Int32) (gE : Int32) (gW : Nat → Int32) (gA : Nat → Int32) (gT : Nat → Int32) (gI : Int32) (gS : Int32) (gM : Int32) (K : Nat → Int32) (F : Nat → Int32) (S : Nat → Int32) (N : Nat → Int32) (gH : Int) (gJ : Int) (ge : Int32) (gk : Int32) (gf : Int32) (gs : Int32) (gg : Int32) (gr : Int32) (RN : Nat → Int32) (a0 : Nat) (a1 : Int32) (a2 : Int32) (a3 : Int32) (uq : ∀ b c : Nat, t b = t c → t b ≠ 0 → b = c) (hC0 : 0 ≤ gC.toInt) (hC4 : gC.toInt ≤ 400) (hI0 : 0 ≤ gI.toInt) (hI4 : gI.toInt ≤ 40) (hH0 : 0 ≤ gH) (hH9 : gH ≤ 96) (hm0 : 0 ≤ gM.toInt) (hm3 : gM.toInt ≤ 3) (hO0 : okM K F S N 0 gI.toInt) (hW : swM gS K F S N gI.toInt) (k_a0 : t a0 = 40) : tM l yX10_gauge uX10_gauge 2 45 D (mF cI cL cC gC gE gW gA gT gI gS gM K F S N gH gJ ge gk gf gs gg gr RN) (mF cI cL cC gC gE gW gA gT gI gS gM K F S N gH gJ ge gk gf gs gg gr RN) t cI cL cC [.ref a0, .int a1, .int a2, .int a3] wG2 (pI (fun r => True)) := by
  refine tM.ofW (cc := cX10_gauge) (maxL := 5) (ret := (some .int)) (by decide) rfl (Nat.le_of_ble_eq_true rfl) ?_
  intro p e s m below meth c hx hb hr hml hown hts hlk H locs hG hK hE hS ls hl
  have hl : lv_has ls 5 [(0, .ref a0), (1, .int a1), (2, .int a2), (3, .int a3)] := hl
  have in10 : ∀ w ∈ wsX100, w ∈ uX10_gauge := fun w h => List.mem_cons_of_mem _ (List.mem_append_right _ h)
  refine lv_iload_n hx hb dX10_gauge_0 rfl (lv_at hl 1 rfl) ?_
  refine lv_i2l (v := a1.toInt64) hx hb dX10_gauge_1 rfl ?_
  refine lv_lconst (v := 0) hx hb dX10_gauge_2 (by decide) ?_
  refine lv_ldc2 hx hb hown (hts (.constantLong RX10 243 (3)) (List.mem_of_getElem? (i := 1) rfl)) dX10_gauge_3 ?_
  have zl_0 : (0 : Int64).toInt = 0 := by decide
  have zl_3 : (3 : Int64).toInt = 3 := by decide
  refine ty_calli (W.runS (As := [.long a1.toInt64, .long 0, .long 3]) (rest := []) ⟨hx, hb, hml, hown, hts⟩ (m_X10_in l D t cI cL cC gC gE gW gA gT gI gS gM K F S N gH gJ ge gk gf gs gg gr RN a1.toInt64 0 3 a1.toInt 0 3 uq (q_i2l _) (by decide) (by decide) ) (va_cwS 3 hts gu_X10_gauge_X10_in_85 rfl rfl rfl (by decide +kernel) ⟨Nat.le_of_ble_eq_true rfl, Nat.le_of_ble_eq_true rfl⟩) (tP_S hG hE) rfl rfl hl.1 rfl (lv_room (Nat.le_of_ble_eq_true rfl)) dX10_gauge_6 ⟨Nat.le_of_ble_eq_true rfl, Nat.le_of_ble_eq_true rfl⟩) hS (fun k h => by simp [wr0] at h) (fun r_1 H locs hp_2 hG hS o_3 => ?_)
  have hp_2 : (r_1 = 1 ∧ 0 ≤ a1.toInt ∧ a1.toInt ≤ 3) ∨ (r_1 = 0 ∧ (a1.toInt < 0 ∨ 3 < a1.toInt)) := hp_2
  rcases hp_2 with ⟨rfl, p_5, p_6⟩ | ⟨rfl, p_7⟩
  · skip
    refine lv_if_eq (tgt := 44) hx hb dX10_gauge_9 (by decide) (fun q => absurd q (by decide)) (fun _ => ?_)
    refine lv_iload_n hx hb dX10_gauge_12 rfl (lv_at hl 2 rfl) ?_
    refine lv_pc (pc2 := 13) rfl ?_
    refine lv_i2l (v := a2.toInt64) hx hb dX10_gauge_13 rfl ?_
    refine lv_lconst (v := 0) hx hb dX10_gauge_14 (by decide) ?_
    refine lv_lconst (v := 1) hx hb dX10_gauge_15 (by decide) ?_
    have zl_1 : (1 : Int64).toInt = 1 := by decide
    refine ty_calli (W.runS (As := [.long a2.toInt64, .long 0, .long 1]) (rest := []) ⟨hx, hb, hml, hown, hts⟩ (m_X10_in l D t cI cL cC gC gE gW gA gT gI gS gM K F S N gH gJ ge gk gf gs gg gr RN a2.toInt64 0 1 a2.toInt 0 1 uq (q_i2l _) (by decide) (by decide) ) (va_cwS 3 hts gu_X10_gauge_X10_in_85 rfl rfl rfl (by decide +kernel) ⟨Nat.le_of_ble_eq_true rfl, Nat.le_of_ble_eq_true rfl⟩) (tP_S hG hE) rfl rfl hl.1 rfl (lv_room (Nat.le_of_ble_eq_true rfl)) dX10_gauge_16 ⟨Nat.le_of_ble_eq_true rfl, Nat.le_of_ble_eq_true rfl⟩) hS (fun k h => by simp [wr0] at h) (fun r_8 H locs hp_9 hG hS o_10 => ?_)
    have hp_9 : (r_8 = 1 ∧ 0 ≤ a2.toInt ∧ a2.toInt ≤ 1) ∨ (r_8 = 0 ∧ (a2.toInt < 0 ∨ 1 < a2.toInt)) := hp_9
    rcases hp_9 with ⟨rfl, p_12, p_13⟩ | ⟨rfl, p_14⟩
    · skip
      refine lv_if_eq (tgt := 44) hx hb dX10_gauge_19 (by decide) (fun q => absurd q (by decide)) (fun _ => ?_)
      refine lv_iload_n hx hb dX10_gauge_22 rfl (lv_at hl 3 rfl) ?_
      refine lv_i2l (v := a3.toInt64) hx hb dX10_gauge_23 rfl ?_
      refine lv_lconst (v := 0) hx hb dX10_gauge_24 (by decide) ?_
      refine lv_pc (pc2 := 25) rfl ?_
      refine lv_iload_n hx hb dX10_gauge_25 rfl (lv_at hl 2 rfl) ?_
      refine lv_if_ne (tgt := 35) hx hb dX10_gauge_26 (by decide) (fun c_15 => ?_) (fun c_15 => ?_)
      · skip
        have c_15 : a2.toInt ≠ 0 := q_ne c_15
        refine lv_ldc2 hx hb hown (hts (.constantLong RX10 234 (15)) (List.mem_of_getElem? (i := 5) rfl)) dX10_gauge_35 ?_
        have zl_15 : (15 : Int64).toInt = 15 := by decide
        refine ty_calli (W.runS (As := [.long a3.toInt64, .long 0, .long 15]) (rest := []) ⟨hx, hb, hml, hown, hts⟩ (m_X10_in l D t cI cL cC gC gE gW gA gT gI gS gM K F S N gH gJ ge gk gf gs gg gr RN a3.toInt64 0 15 a3.toInt 0 15 uq (q_i2l _) (by decide) (by decide) ) (va_cwS 3 hts gu_X10_gauge_X10_in_85 rfl rfl rfl (by decide +kernel) ⟨Nat.le_of_ble_eq_true rfl, Nat.le_of_ble_eq_true rfl⟩) (tP_S hG hE) rfl rfl hl.1 rfl (lv_room (Nat.le_of_ble_eq_true rfl)) dX10_gauge_38 ⟨Nat.le_of_ble_eq_true rfl, Nat.le_of_ble_eq_true rfl⟩) hS (fun k h => by simp [wr0] at h) (fun r_16 H locs hp_17 hG hS o_18 => ?_)
        have hp_17 : (r_16 = 1 ∧ 0 ≤ a3.toInt ∧ a3.toInt ≤ 15) ∨ (r_16 = 0 ∧ (a3.toInt < 0 ∨ 15 < a3.toInt)) := hp_17
        rcases hp_17 with ⟨rfl, p_20, p_21⟩ | ⟨rfl, p_22⟩
        · skip
          refine lv_if_ne (tgt := 46) hx hb dX10_gauge_41 (by decide) (fun _ => ?_) (fun q => absurd q (by decide))
          refine lv_aload_n hx hb dX10_gauge_46 rfl (lv_at hl 0 rfl) ?_
          obtain ⟨r_23, v_25, r_26, r_28, r_30, r_32, r_34, r_36, r_38, r_40, r_42, r_44, r_46, r_48, r_50, r_52, r_54, r_56, r_58, r_60, r_62, r_64, r_66, v_68, r_69, at_71, h_24, h_27, h_29, h_31, h_33, h_35, h_37, h_39, h_41, h_43, h_45, h_47, h_49, h_51, h_53, h_55, h_57, h_59, h_61, h_63, h_65, h_67, h_70⟩ := mF_o40 hG k_a0
          refine va_get (D := D) (ci := 9) (v := .int v_25) (C := RX10) (T := TX10) (N := 36) hx hb hts in10 hown hK (va_one at_71) 0 rfl rfl 2 (by decide) (hts (.fieldLink RX10 173 "RiverModelModel" "isBuilt" "Z") (List.mem_of_getElem? (i := 6) rfl)) (fun _ h9 => h9) rfl dX10_gauge_47 ?_
          refine lv_if_eq (tgt := 76) hx hb dX10_gauge_50 (by decide) (fun c_72 => ?_) (fun c_72 => ?_)
          · skip
            have c_72 : v_25.toInt = 0 := q_eq c_72
            refine lv_pc (pc2 := 76) rfl ?_
            refine lv_bipush (v := (-2)) hx hb dX10_gauge_76 (by decide) ?_
            have zi_m2 : ((-2) : Int32).toInt = (-2) := by decide
            exact ty_iret hx hb hr hlk hG hS True.intro dX10_gauge_78
          · skip
            have c_72 : v_25.toInt ≠ 0 := q_ne c_72
            refine lv_iload_n hx hb dX10_gauge_53 rfl (lv_at hl 2 rfl) ?_
            refine lv_if_ne (tgt := 68) hx hb dX10_gauge_54 (by decide) (fun c_73 => ?_) (fun c_73 => ?_)
            · skip
              have c_73 : a2.toInt ≠ 0 := q_ne c_73
              refine lv_aload_n hx hb dX10_gauge_68 rfl (lv_at hl 0 rfl) ?_
              refine lv_iload_n hx hb dX10_gauge_69 rfl (lv_at hl 3 rfl) ?_
              refine ty_calli (W.runV (As := [.int a3]) (rest := []) ⟨hx, hb, hml, hown, hts⟩ (m_X10_isStore l D t cI cL cC gC gE gW gA gT gI gS gM K F S N gH gJ ge gk gf gs gg gr RN a0 a3  uq (by omega) (by omega) k_a0) (cwV 1 hts gu_X10_gauge_X10_isStore_208 rfl rfl rfl (by decide +kernel) ⟨Nat.le_of_ble_eq_true rfl, Nat.le_of_ble_eq_true rfl⟩) (tP_V hG hE at_71 rfl) rfl rfl hl.1 rfl (lv_room (Nat.le_of_ble_eq_true rfl)) dX10_gauge_70 ⟨Nat.le_of_ble_eq_true rfl, Nat.le_of_ble_eq_true rfl⟩) hS (fun k h => by simp [wr0] at h) (fun r_74 H locs hp_75 hG hS o_76 => ?_)
              have at_71 := va_at.keptC at_71 o_76 k_a0 rfl
              have hp_75 : (r_74 = 1 ∧ hasS K F 0 gI.toInt a3) ∨ (r_74 = 0 ∧ ¬ hasS K F 0 gI.toInt a3) := hp_75
              rcases hp_75 with ⟨rfl, p_78⟩ | ⟨rfl, p_79⟩
              · skip
                refine lv_if_ne (tgt := 79) hx hb dX10_gauge_73 (by decide) (fun _ => ?_) (fun q => absurd q (by decide))
                refine lv_pc (pc2 := 79) rfl ?_
                refine lv_aload_n hx hb dX10_gauge_79 rfl (lv_at hl 0 rfl) ?_
                refine va_get (D := D) (ci := 9) (v := .ref r_42) (C := RX10) (T := TX10) (N := 36) hx hb hts in10 hown hK (va_one at_71) 0 rfl rfl 14 (by decide) (hts (.fieldLink RX10 38 "RiverModelModel" "gaugeKind" "[I") (List.mem_of_getElem? (i := 10) rfl)) (fun _ h9 => h9) rfl dX10_gauge_80 ?_
                refine lv_iload_n hx hb dX10_gauge_83 rfl (lv_at hl 1 rfl) ?_
                refine lv_iload_n hx hb dX10_gauge_84 rfl (lv_at hl 2 rfl) ?_
                obtain ⟨f_80, at_81⟩ := mF_o50 hG h_43
                have b_82 : vp_in a1 4 := (q_in (by omega) (by omega))
                refine ty_iast (F2 := (mF cI cL cC gC gE gW gA gT gI gS gM K F S N gH gJ ge gk gf gs gg gr RN)) hx hb hK hG hS 0 at_81 (by rw [h_43]; rfl) rfl b_82 (by rw [h_43]; exact ⟨_, rfl⟩) tFF dX10_gauge_85 (fun H locs hG hS at_83 o_84 => ?_)
                have at_71 := va_at.keptK at_71 o_84 h_43 k_a0 rfl
                refine lv_aload_n hx hb dX10_gauge_86 rfl (lv_at hl 0 rfl) ?_
                refine va_get (D := D) (ci := 9) (v := .ref r_44) (C := RX10) (T := TX10) (N := 36) hx hb hts in10 hown hK (va_one at_71) 0 rfl rfl 15 (by decide) (hts (.fieldLink RX10 41 "RiverModelModel" "gaugeAt" "[I") (List.mem_of_getElem? (i := 11) rfl)) (fun _ h9 => h9) rfl dX10_gauge_87 ?_
                refine lv_iload_n hx hb dX10_gauge_90 rfl (lv_at hl 1 rfl) ?_
                refine lv_pc (pc2 := 91) rfl ?_
                refine lv_iload_n hx hb dX10_gauge_91 rfl (lv_at hl 3 rfl) ?_
                obtain ⟨f_85, at_86, h_87⟩ := mF_o51 hG h_45
                have b_88 : vp_in a1 4 := (q_in (by omega) (by omega))
                refine ty_iast (F2 := (mF cI cL cC gC gE gW gA gT gI gS gM K F S N gH gJ ge gk gf gs gg gr RN)) hx hb hK hG hS 0 at_86 (by rw [h_45]; rfl) rfl b_88 (by rw [h_45]; exact ⟨_, rfl, gBd_upd h_87 (by omega)⟩) tFF dX10_gauge_92 (fun H locs hG hS at_89 o_90 => ?_)
                have at_71 := va_at.keptK at_71 o_90 h_45 k_a0 rfl
                refine lv_iconst (v := 0) hx hb dX10_gauge_93 (by decide) ?_
                refine lv_istore (lv' := [(4, .int 0), (0, .ref a0), (1, .int a1), (2, .int a2), (3, .int a3)]) hx hb dX10_gauge_94 hl (by decide) rfl (fun ls hl => ?_)
                refine lv_pc (pc2 := 96) rfl ?_
                refine lp_gen (fun WW91 hWW91 => ?_)
                have kx91 : ∀ (yk : Int32) (H1 : Heap) (locs1 : List Loc) (ls1 : Array Slot), (0 ≤ yk.toInt) → (yk.toInt ≤ 96) → tG D (mF cI cL cC gC gE gW gA gT gI gS gM K F S N gH gJ ge gk gf gs gg gr RN) t H1 → tF t wG2 s.heap H1 locs1 → lv_has ls1 5 [(4, .int yk), (0, .ref a0), (1, .int a1), (2, .int a2), (3, .int a3)] → WW91 H1 locs1 (F0 m 122 ls1 []) := by
                  intro yk H locs ls v91_0 v91_1 hG hS hl
                  refine (hWW91 _ _ _).mpr ?_
                  refine lv_iconst (v := 0) hx hb dX10_gauge_122 (by decide) ?_
                  have zi_0 : (0 : Int32).toInt = 0 := by decide
                  exact ty_iret hx hb hr hlk hG hS True.intro dX10_gauge_123
                have lp91 : ∀ (kk91 : Nat) (yk : Int32) (H1 : Heap) (locs1 : List Loc) (ls1 : Array Slot), 96 - yk.toInt ≤ (kk91 : Int) → (0 ≤ yk.toInt) → (yk.toInt ≤ 96) → tG D (mF cI cL cC gC gE gW gA gT gI gS gM K F S N gH gJ ge gk gf gs gg gr RN) t H1 → tF t wG2 s.heap H1 locs1 → lv_has ls1 5 [(4, .int yk), (0, .ref a0), (1, .int a1), (2, .int a2), (3, .int a3)] → WW91 H1 locs1 (F0 m 96 ls1 []) := by
                  intro kk91
                  induction kk91 with
                  | zero =>
                    intro yk H locs ls hk91 v91_0 v91_1 hG hS hl
                    refine (hWW91 _ _ _).mpr ?_
                    refine lv_iload hx hb dX10_gauge_96 (lv_at hl 0 rfl) ?_
                    refine lv_bipush (v := 96) hx hb dX10_gauge_98 (by decide) ?_
                    refine lv_pc (pc2 := 100) rfl ?_
                    refine lv_icmp_ge (tgt := 122) hx hb dX10_gauge_100 (by decide) (fun c_92 => ?_) (fun c_92 => ?_)
                    · skip
                      have c_92 : 96 ≤ yk.toInt := q_le c_92
                      exact (hWW91 _ _ _).mp (kx91 yk H locs ls v91_0 v91_1 hG hS (lv_sub hl [0, 1, 2, 3, 4] rfl))
                    · skip
                      have c_92 : yk.toInt < 96 := q_nle c_92
                      exfalso; omega
                  | succ kk91 ih91 =>
                    intro yk H locs ls hk91 v91_0 v91_1 hG hS hl
                    refine (hWW91 _ _ _).mpr ?_
                    refine lv_iload hx hb dX10_gauge_96 (lv_at hl 0 rfl) ?_
                    refine lv_bipush (v := 96) hx hb dX10_gauge_98 (by decide) ?_
                    refine lv_icmp_ge (tgt := 122) hx hb dX10_gauge_100 (by decide) (fun c_93 => ?_) (fun c_93 => ?_)
                    · skip
                      have c_93 : 96 ≤ yk.toInt := q_le c_93
                      exact (hWW91 _ _ _).mp (kx91 yk H locs ls v91_0 v91_1 hG hS (lv_sub hl [0, 1, 2, 3, 4] rfl))
                    · skip
                      have c_93 : yk.toInt < 96 := q_nle c_93
                      refine lv_aload_n hx hb dX10_gauge_103 rfl (lv_at hl 1 rfl) ?_
                      obtain ⟨r_94, v_96, r_97, r_99, r_101, r_103, r_105, r_107, r_109, r_111, r_113, r_115, r_117, r_119, r_121, r_123, r_125, r_127, r_129, r_131, r_133, r_135, r_137, v_139, r_140, at_142, h_95, h_98, h_100, h_102, h_104, h_106, h_108, h_110, h_112, h_114, h_116, h_118, h_120, h_122, h_124, h_126, h_128, h_130, h_132, h_134, h_136, h_138, h_141⟩ := mF_o40 hG k_a0
                      refine va_get (D := D) (ci := 9) (v := .ref r_117) (C := RX10) (T := TX10) (N := 36) hx hb hts in10 hown hK (va_one at_142) 0 rfl rfl 16 (by decide) (hts (.fieldLink RX10 44 "RiverModelModel" "seen" "[I") (List.mem_of_getElem? (i := 12) rfl)) (fun _ h9 => h9) rfl dX10_gauge_104 ?_
                      refine lv_bipush (v := 96) hx hb dX10_gauge_107 (by decide) ?_
                      refine lv_iload_n hx hb dX10_gauge_109 rfl (lv_at hl 2 rfl) ?_
                      refine lv_pc (pc2 := 110) rfl ?_
                      refine lv_imul hx hb dX10_gauge_110 ?_
                      refine lv_topi (fun x_143 e_144 => ?_)
                      have i_x_143 : x_143.toInt = 96 * a1.toInt := by rw [e_144]; exact (q_mul (by rw [show (96 : Int32).toInt = 96 by decide]; omega) (by rw [show (96 : Int32).toInt = 96 by decide]; omega)).trans (by rw [show (96 : Int32).toInt = 96 by decide])
                      refine lv_iload hx hb dX10_gauge_111 (lv_at hl 0 rfl) ?_
                      refine lv_iadd hx hb dX10_gauge_113 ?_
                      refine lv_topi (fun x_145 e_146 => ?_)
                      have i_x_145 : x_145.toInt = x_143.toInt + yk.toInt := by rw [e_146]; exact (q_add (by omega) (by omega)).trans (by rfl)
                      refine lv_iconst (v := (-1)) hx hb dX10_gauge_114 (by decide) ?_
                      obtain ⟨f_147, at_148⟩ := mF_o52 hG h_118
                      have b_149 : vp_in x_145 384 := (q_in (by omega) (by omega))
                      have zi_m1 : ((-1) : Int32).toInt = (-1) := by decide
                      refine ty_iast (F2 := (mF cI cL cC gC gE gW gA gT gI gS gM K F S N gH gJ ge gk gf gs gg gr RN)) hx hb hK hG hS 0 at_148 (by rw [h_118]; rfl) rfl b_149 (by rw [h_118]; exact ⟨_, rfl⟩) tFF dX10_gauge_115 (fun H locs hG hS at_150 o_151 => ?_)
                      have at_142 := va_at.keptK at_142 o_151 h_118 k_a0 rfl
                      obtain ⟨x_152, e_153⟩ : ∃ y : Int32, y = yk + Int32.ofInt 1 := ⟨_, rfl⟩
                      have i_x_152 : x_152.toInt = yk.toInt + 1 := by rw [e_153, show Int32.ofInt 1 = 1 by decide]; exact (q_add (by rw [show (1 : Int32).toInt = 1 by decide]; omega) (by rw [show (1 : Int32).toInt = 1 by decide]; omega)).trans (by rw [show (1 : Int32).toInt = 1 by decide])
                      refine lv_iinc (v := x_152) (lv' := [(4, .int x_152), (0, .ref a0), (1, .int a1), (2, .int a2), (3, .int a3)]) hx hb dX10_gauge_116 hl (k := 0) rfl e_153.symm (by decide) rfl (fun ls hl => ?_)
                      refine lv_goto (tgt := 96) hx hb dX10_gauge_119 (by decide) ?_
                      exact (hWW91 _ _ _).mp (ih91 x_152 H locs ls (by omega) (by omega) (by omega) hG hS (lv_sub hl [0, 1, 2, 3, 4] rfl))
                have zi_0 : (0 : Int32).toInt = 0 := by decide
                exact lp91 (96 - (0 : Int32).toInt : Int).toNat 0 H locs ls (by omega) (by omega) (by omega) hG hS (lv_sub hl [0, 1, 2, 3, 4] rfl)
              · skip
                refine lv_if_ne (tgt := 79) hx hb dX10_gauge_73 (by decide) (fun q => absurd rfl q) (fun _ => ?_)
                refine lv_pc (pc2 := 76) rfl ?_
                refine lv_bipush (v := (-2)) hx hb dX10_gauge_76 (by decide) ?_
                have zi_m2 : ((-2) : Int32).toInt = (-2) := by decide
                exact ty_iret hx hb hr hlk hG hS True.intro dX10_gauge_78
            · skip
              have c_73 : a2.toInt = 0 := q_eq c_73
              refine lv_iload_n hx hb dX10_gauge_57 rfl (lv_at hl 3 rfl) ?_
              refine lv_aload_n hx hb dX10_gauge_58 rfl (lv_at hl 0 rfl) ?_
              refine va_get (D := D) (ci := 9) (v := .int gI) (C := RX10) (T := TX10) (N := 36) hx hb hts in10 hown hK (va_one at_71) 0 rfl rfl 3 (by decide) (hts (.fieldLink RX10 163 "RiverModelModel" "items" "I") (List.mem_of_getElem? (i := 13) rfl)) (fun _ h9 => h9) rfl dX10_gauge_59 ?_
              refine lv_icmp_lt (tgt := 79) hx hb dX10_gauge_62 (by decide) (fun c_154 => ?_) (fun c_154 => ?_)
              · skip
                have c_154 : a3.toInt < gI.toInt := q_lt c_154
                refine lv_aload_n hx hb dX10_gauge_79 rfl (lv_at hl 0 rfl) ?_
                refine va_get (D := D) (ci := 9) (v := .ref r_42) (C := RX10) (T := TX10) (N := 36) hx hb hts in10 hown hK (va_one at_71) 0 rfl rfl 14 (by decide) (hts (.fieldLink RX10 38 "RiverModelModel" "gaugeKind" "[I") (List.mem_of_getElem? (i := 10) rfl)) (fun _ h9 => h9) rfl dX10_gauge_80 ?_
                refine lv_pc (pc2 := 83) rfl ?_
                refine lv_iload_n hx hb dX10_gauge_83 rfl (lv_at hl 1 rfl) ?_
                refine lv_iload_n hx hb dX10_gauge_84 rfl (lv_at hl 2 rfl) ?_
                obtain ⟨f_155, at_156⟩ := mF_o50 hG h_43
                have b_157 : vp_in a1 4 := (q_in (by omega) (by omega))
                refine ty_iast (F2 := (mF cI cL cC gC gE gW gA gT gI gS gM K F S N gH gJ ge gk gf gs gg gr RN)) hx hb hK hG hS 0 at_156 (by rw [h_43]; rfl) rfl b_157 (by rw [h_43]; exact ⟨_, rfl⟩) tFF dX10_gauge_85 (fun H locs hG hS at_158 o_159 => ?_)
                have at_71 := va_at.keptK at_71 o_159 h_43 k_a0 rfl
                refine lv_aload_n hx hb dX10_gauge_86 rfl (lv_at hl 0 rfl) ?_
                refine va_get (D := D) (ci := 9) (v := .ref r_44) (C := RX10) (T := TX10) (N := 36) hx hb hts in10 hown hK (va_one at_71) 0 rfl rfl 15 (by decide) (hts (.fieldLink RX10 41 "RiverModelModel" "gaugeAt" "[I") (List.mem_of_getElem? (i := 11) rfl)) (fun _ h9 => h9) rfl dX10_gauge_87 ?_
                refine lv_iload_n hx hb dX10_gauge_90 rfl (lv_at hl 1 rfl) ?_
                refine lv_iload_n hx hb dX10_gauge_91 rfl (lv_at hl 3 rfl) ?_
                obtain ⟨f_160, at_161, h_162⟩ := mF_o51 hG h_45
                have b_163 : vp_in a1 4 := (q_in (by omega) (by omega))
                refine ty_iast (F2 := (mF cI cL cC gC gE gW gA gT gI gS gM K F S N gH gJ ge gk gf gs gg gr RN)) hx hb hK hG hS 0 at_161 (by rw [h_45]; rfl) rfl b_163 (by rw [h_45]; exact ⟨_, rfl, gBd_upd h_162 (by omega)⟩) tFF dX10_gauge_92 (fun H locs hG hS at_164 o_165 => ?_)
                have at_71 := va_at.keptK at_71 o_165 h_45 k_a0 rfl
                refine lv_pc (pc2 := 93) rfl ?_
                refine lv_iconst (v := 0) hx hb dX10_gauge_93 (by decide) ?_
                refine lv_istore (lv' := [(4, .int 0), (0, .ref a0), (1, .int a1), (2, .int a2), (3, .int a3)]) hx hb dX10_gauge_94 hl (by decide) rfl (fun ls hl => ?_)
                refine lv_pc (pc2 := 96) rfl ?_
                refine lp_gen (fun WW166 hWW166 => ?_)
                have kx166 : ∀ (yk : Int32) (H1 : Heap) (locs1 : List Loc) (ls1 : Array Slot), (0 ≤ yk.toInt) → (yk.toInt ≤ 96) → tG D (mF cI cL cC gC gE gW gA gT gI gS gM K F S N gH gJ ge gk gf gs gg gr RN) t H1 → tF t wG2 s.heap H1 locs1 → lv_has ls1 5 [(4, .int yk), (0, .ref a0), (1, .int a1), (2, .int a2), (3, .int a3)] → WW166 H1 locs1 (F0 m 122 ls1 []) := by
                  intro yk H locs ls v166_0 v166_1 hG hS hl
                  refine (hWW166 _ _ _).mpr ?_
                  refine lv_iconst (v := 0) hx hb dX10_gauge_122 (by decide) ?_
                  have zi_0 : (0 : Int32).toInt = 0 := by decide
                  exact ty_iret hx hb hr hlk hG hS True.intro dX10_gauge_123
                have lp166 : ∀ (kk166 : Nat) (yk : Int32) (H1 : Heap) (locs1 : List Loc) (ls1 : Array Slot), 96 - yk.toInt ≤ (kk166 : Int) → (0 ≤ yk.toInt) → (yk.toInt ≤ 96) → tG D (mF cI cL cC gC gE gW gA gT gI gS gM K F S N gH gJ ge gk gf gs gg gr RN) t H1 → tF t wG2 s.heap H1 locs1 → lv_has ls1 5 [(4, .int yk), (0, .ref a0), (1, .int a1), (2, .int a2), (3, .int a3)] → WW166 H1 locs1 (F0 m 96 ls1 []) := by
                  intro kk166
                  induction kk166 with
                  | zero =>
                    intro yk H locs ls hk166 v166_0 v166_1 hG hS hl
                    refine (hWW166 _ _ _).mpr ?_
                    refine lv_iload hx hb dX10_gauge_96 (lv_at hl 0 rfl) ?_
                    refine lv_bipush (v := 96) hx hb dX10_gauge_98 (by decide) ?_
                    refine lv_icmp_ge (tgt := 122) hx hb dX10_gauge_100 (by decide) (fun c_167 => ?_) (fun c_167 => ?_)
                    · skip
                      have c_167 : 96 ≤ yk.toInt := q_le c_167
                      exact (hWW166 _ _ _).mp (kx166 yk H locs ls v166_0 v166_1 hG hS (lv_sub hl [0, 1, 2, 3, 4] rfl))
                    · skip
                      have c_167 : yk.toInt < 96 := q_nle c_167
                      exfalso; omega
                  | succ kk166 ih166 =>
                    intro yk H locs ls hk166 v166_0 v166_1 hG hS hl
                    refine (hWW166 _ _ _).mpr ?_
                    refine lv_iload hx hb dX10_gauge_96 (lv_at hl 0 rfl) ?_
                    refine lv_pc (pc2 := 98) rfl ?_
                    refine lv_bipush (v := 96) hx hb dX10_gauge_98 (by decide) ?_
                    refine lv_icmp_ge (tgt := 122) hx hb dX10_gauge_100 (by decide) (fun c_168 => ?_) (fun c_168 => ?_)
                    · skip
                      have c_168 : 96 ≤ yk.toInt := q_le c_168
                      exact (hWW166 _ _ _).mp (kx166 yk H locs ls v166_0 v166_1 hG hS (lv_sub hl [0, 1, 2, 3, 4] rfl))
                    · skip
                      have c_168 : yk.toInt < 96 := q_nle c_168
                      refine lv_aload_n hx hb dX10_gauge_103 rfl (lv_at hl 1 rfl) ?_
                      obtain ⟨r_169, v_171, r_172, r_174, r_176, r_178, r_180, r_182, r_184, r_186, r_188, r_190, r_192, r_194, r_196, r_198, r_200, r_202, r_204, r_206, r_208, r_210, r_212, v_214, r_215, at_217, h_170, h_173, h_175, h_177, h_179, h_181, h_183, h_185, h_187, h_189, h_191, h_193, h_195, h_197, h_199, h_201, h_203, h_205, h_207, h_209, h_211, h_213, h_216⟩ := mF_o40 hG k_a0
                      refine va_get (D := D) (ci := 9) (v := .ref r_192) (C := RX10) (T := TX10) (N := 36) hx hb hts in10 hown hK (va_one at_217) 0 rfl rfl 16 (by decide) (hts (.fieldLink RX10 44 "RiverModelModel" "seen" "[I") (List.mem_of_getElem? (i := 12) rfl)) (fun _ h9 => h9) rfl dX10_gauge_104 ?_
                      refine lv_bipush (v := 96) hx hb dX10_gauge_107 (by decide) ?_
                      refine lv_iload_n hx hb dX10_gauge_109 rfl (lv_at hl 2 rfl) ?_
                      refine lv_imul hx hb dX10_gauge_110 ?_
                      refine lv_topi (fun x_218 e_219 => ?_)
                      have i_x_218 : x_218.toInt = 96 * a1.toInt := by rw [e_219]; exact (q_mul (by rw [show (96 : Int32).toInt = 96 by decide]; omega) (by rw [show (96 : Int32).toInt = 96 by decide]; omega)).trans (by rw [show (96 : Int32).toInt = 96 by decide])
                      refine lv_iload hx hb dX10_gauge_111 (lv_at hl 0 rfl) ?_
                      refine lv_pc (pc2 := 113) rfl ?_
                      refine lv_iadd hx hb dX10_gauge_113 ?_
                      refine lv_topi (fun x_220 e_221 => ?_)
                      have i_x_220 : x_220.toInt = x_218.toInt + yk.toInt := by rw [e_221]; exact (q_add (by omega) (by omega)).trans (by rfl)
                      refine lv_iconst (v := (-1)) hx hb dX10_gauge_114 (by decide) ?_
                      obtain ⟨f_222, at_223⟩ := mF_o52 hG h_193
                      have b_224 : vp_in x_220 384 := (q_in (by omega) (by omega))
                      have zi_m1 : ((-1) : Int32).toInt = (-1) := by decide
                      refine ty_iast (F2 := (mF cI cL cC gC gE gW gA gT gI gS gM K F S N gH gJ ge gk gf gs gg gr RN)) hx hb hK hG hS 0 at_223 (by rw [h_193]; rfl) rfl b_224 (by rw [h_193]; exact ⟨_, rfl⟩) tFF dX10_gauge_115 (fun H locs hG hS at_225 o_226 => ?_)
                      have at_217 := va_at.keptK at_217 o_226 h_193 k_a0 rfl
                      obtain ⟨x_227, e_228⟩ : ∃ y : Int32, y = yk + Int32.ofInt 1 := ⟨_, rfl⟩
                      have i_x_227 : x_227.toInt = yk.toInt + 1 := by rw [e_228, show Int32.ofInt 1 = 1 by decide]; exact (q_add (by rw [show (1 : Int32).toInt = 1 by decide]; omega) (by rw [show (1 : Int32).toInt = 1 by decide]; omega)).trans (by rw [show (1 : Int32).toInt = 1 by decide])
                      refine lv_iinc (v := x_227) (lv' := [(4, .int x_227), (0, .ref a0), (1, .int a1), (2, .int a2), (3, .int a3)]) hx hb dX10_gauge_116 hl (k := 0) rfl e_228.symm (by decide) rfl (fun ls hl => ?_)
                      refine lv_goto (tgt := 96) hx hb dX10_gauge_119 (by decide) ?_
                      exact (hWW166 _ _ _).mp (ih166 x_227 H locs ls (by omega) (by omega) (by omega) hG hS (lv_sub hl [0, 1, 2, 3, 4] rfl))
                have zi_0 : (0 : Int32).toInt = 0 := by decide
                exact lp166 (96 - (0 : Int32).toInt : Int).toNat 0 H locs ls (by omega) (by omega) (by omega) hG hS (lv_sub hl [0, 1, 2, 3, 4] rfl)
              · skip
                have c_154 : gI.toInt ≤ a3.toInt := q_nlt c_154
                refine lv_goto (tgt := 76) hx hb dX10_gauge_65 (by decide) ?_
                refine lv_bipush (v := (-2)) hx hb dX10_gauge_76 (by decide) ?_
                have zi_m2 : ((-2) : Int32).toInt = (-2) := by decide
                exact ty_iret hx hb hr hlk hG hS True.intro dX10_gauge_78
        · skip
          refine lv_pc (pc2 := 41) rfl ?_
          refine lv_if_ne (tgt := 46) hx hb dX10_gauge_41 (by decide) (fun q => absurd rfl q) (fun _ => ?_)
          refine lv_iconst (v := (-1)) hx hb dX10_gauge_44 (by decide) ?_
          have zi_m1 : ((-1) : Int32).toInt = (-1) := by decide
          exact ty_iret hx hb hr hlk hG hS True.intro dX10_gauge_45
      · skip
        have c_15 : a2.toInt = 0 := q_eq c_15
        refine lv_ldc2 hx hb hown (hts (.constantLong RX10 194 (39)) (List.mem_of_getElem? (i := 14) rfl)) dX10_gauge_29 ?_
        refine lv_goto (tgt := 38) hx hb dX10_gauge_32 (by decide) ?_
        have zl_39 : (39 : Int64).toInt = 39 := by decide
        refine ty_calli (W.runS (As := [.long a3.toInt64, .long 0, .long 39]) (rest := []) ⟨hx, hb, hml, hown, hts⟩ (m_X10_in l D t cI cL cC gC gE gW gA gT gI gS gM K F S N gH gJ ge gk gf gs gg gr RN a3.toInt64 0 39 a3.toInt 0 39 uq (q_i2l _) (by decide) (by decide) ) (va_cwS 3 hts gu_X10_gauge_X10_in_85 rfl rfl rfl (by decide +kernel) ⟨Nat.le_of_ble_eq_true rfl, Nat.le_of_ble_eq_true rfl⟩) (tP_S hG hE) rfl rfl hl.1 rfl (lv_room (Nat.le_of_ble_eq_true rfl)) dX10_gauge_38 ⟨Nat.le_of_ble_eq_true rfl, Nat.le_of_ble_eq_true rfl⟩) hS (fun k h => by simp [wr0] at h) (fun r_229 H locs hp_230 hG hS o_231 => ?_)
        have hp_230 : (r_229 = 1 ∧ 0 ≤ a3.toInt ∧ a3.toInt ≤ 39) ∨ (r_229 = 0 ∧ (a3.toInt < 0 ∨ 39 < a3.toInt)) := hp_230
        rcases hp_230 with ⟨rfl, p_233, p_234⟩ | ⟨rfl, p_235⟩
        · skip
          refine lv_if_ne (tgt := 46) hx hb dX10_gauge_41 (by decide) (fun _ => ?_) (fun q => absurd q (by decide))
          refine lv_aload_n hx hb dX10_gauge_46 rfl (lv_at hl 0 rfl) ?_
          refine lv_pc (pc2 := 47) rfl ?_
          obtain ⟨r_236, v_238, r_239, r_241, r_243, r_245, r_247, r_249, r_251, r_253, r_255, r_257, r_259, r_261, r_263, r_265, r_267, r_269, r_271, r_273, r_275, r_277, r_279, v_281, r_282, at_284, h_237, h_240, h_242, h_244, h_246, h_248, h_250, h_252, h_254, h_256, h_258, h_260, h_262, h_264, h_266, h_268, h_270, h_272, h_274, h_276, h_278, h_280, h_283⟩ := mF_o40 hG k_a0
          refine va_get (D := D) (ci := 9) (v := .int v_238) (C := RX10) (T := TX10) (N := 36) hx hb hts in10 hown hK (va_one at_284) 0 rfl rfl 2 (by decide) (hts (.fieldLink RX10 173 "RiverModelModel" "isBuilt" "Z") (List.mem_of_getElem? (i := 6) rfl)) (fun _ h9 => h9) rfl dX10_gauge_47 ?_
          refine lv_if_eq (tgt := 76) hx hb dX10_gauge_50 (by decide) (fun c_285 => ?_) (fun c_285 => ?_)
          · skip
            have c_285 : v_238.toInt = 0 := q_eq c_285
            refine lv_bipush (v := (-2)) hx hb dX10_gauge_76 (by decide) ?_
            have zi_m2 : ((-2) : Int32).toInt = (-2) := by decide
            exact ty_iret hx hb hr hlk hG hS True.intro dX10_gauge_78
          · skip
            have c_285 : v_238.toInt ≠ 0 := q_ne c_285
            refine lv_iload_n hx hb dX10_gauge_53 rfl (lv_at hl 2 rfl) ?_
            refine lv_if_ne (tgt := 68) hx hb dX10_gauge_54 (by decide) (fun c_286 => ?_) (fun c_286 => ?_)
            · skip
              have c_286 : a2.toInt ≠ 0 := q_ne c_286
              refine lv_aload_n hx hb dX10_gauge_68 rfl (lv_at hl 0 rfl) ?_
              refine lv_iload_n hx hb dX10_gauge_69 rfl (lv_at hl 3 rfl) ?_
              refine lv_pc (pc2 := 70) rfl ?_
              refine ty_calli (W.runV (As := [.int a3]) (rest := []) ⟨hx, hb, hml, hown, hts⟩ (m_X10_isStore l D t cI cL cC gC gE gW gA gT gI gS gM K F S N gH gJ ge gk gf gs gg gr RN a0 a3  uq (by omega) (by omega) k_a0) (cwV 1 hts gu_X10_gauge_X10_isStore_208 rfl rfl rfl (by decide +kernel) ⟨Nat.le_of_ble_eq_true rfl, Nat.le_of_ble_eq_true rfl⟩) (tP_V hG hE at_284 rfl) rfl rfl hl.1 rfl (lv_room (Nat.le_of_ble_eq_true rfl)) dX10_gauge_70 ⟨Nat.le_of_ble_eq_true rfl, Nat.le_of_ble_eq_true rfl⟩) hS (fun k h => by simp [wr0] at h) (fun r_287 H locs hp_288 hG hS o_289 => ?_)
              have at_284 := va_at.keptC at_284 o_289 k_a0 rfl
              have hp_288 : (r_287 = 1 ∧ hasS K F 0 gI.toInt a3) ∨ (r_287 = 0 ∧ ¬ hasS K F 0 gI.toInt a3) := hp_288
              rcases hp_288 with ⟨rfl, p_291⟩ | ⟨rfl, p_292⟩
              · skip
                refine lv_if_ne (tgt := 79) hx hb dX10_gauge_73 (by decide) (fun _ => ?_) (fun q => absurd q (by decide))
                refine lv_aload_n hx hb dX10_gauge_79 rfl (lv_at hl 0 rfl) ?_
                refine va_get (D := D) (ci := 9) (v := .ref r_255) (C := RX10) (T := TX10) (N := 36) hx hb hts in10 hown hK (va_one at_284) 0 rfl rfl 14 (by decide) (hts (.fieldLink RX10 38 "RiverModelModel" "gaugeKind" "[I") (List.mem_of_getElem? (i := 10) rfl)) (fun _ h9 => h9) rfl dX10_gauge_80 ?_
                refine lv_iload_n hx hb dX10_gauge_83 rfl (lv_at hl 1 rfl) ?_
                refine lv_iload_n hx hb dX10_gauge_84 rfl (lv_at hl 2 rfl) ?_
                obtain ⟨f_293, at_294⟩ := mF_o50 hG h_256
                have b_295 : vp_in a1 4 := (q_in (by omega) (by omega))
                refine ty_iast (F2 := (mF cI cL cC gC gE gW gA gT gI gS gM K F S N gH gJ ge gk gf gs gg gr RN)) hx hb hK hG hS 0 at_294 (by rw [h_256]; rfl) rfl b_295 (by rw [h_256]; exact ⟨_, rfl⟩) tFF dX10_gauge_85 (fun H locs hG hS at_296 o_297 => ?_)
                have at_284 := va_at.keptK at_284 o_297 h_256 k_a0 rfl
                refine lv_aload_n hx hb dX10_gauge_86 rfl (lv_at hl 0 rfl) ?_
                refine lv_pc (pc2 := 87) rfl ?_
                refine va_get (D := D) (ci := 9) (v := .ref r_257) (C := RX10) (T := TX10) (N := 36) hx hb hts in10 hown hK (va_one at_284) 0 rfl rfl 15 (by decide) (hts (.fieldLink RX10 41 "RiverModelModel" "gaugeAt" "[I") (List.mem_of_getElem? (i := 11) rfl)) (fun _ h9 => h9) rfl dX10_gauge_87 ?_
                refine lv_iload_n hx hb dX10_gauge_90 rfl (lv_at hl 1 rfl) ?_
                refine lv_iload_n hx hb dX10_gauge_91 rfl (lv_at hl 3 rfl) ?_
                obtain ⟨f_298, at_299, h_300⟩ := mF_o51 hG h_258
                have b_301 : vp_in a1 4 := (q_in (by omega) (by omega))
                refine ty_iast (F2 := (mF cI cL cC gC gE gW gA gT gI gS gM K F S N gH gJ ge gk gf gs gg gr RN)) hx hb hK hG hS 0 at_299 (by rw [h_258]; rfl) rfl b_301 (by rw [h_258]; exact ⟨_, rfl, gBd_upd h_300 (by omega)⟩) tFF dX10_gauge_92 (fun H locs hG hS at_302 o_303 => ?_)
                have at_284 := va_at.keptK at_284 o_303 h_258 k_a0 rfl
                refine lv_iconst (v := 0) hx hb dX10_gauge_93 (by decide) ?_
                refine lv_istore (lv' := [(4, .int 0), (0, .ref a0), (1, .int a1), (2, .int a2), (3, .int a3)]) hx hb dX10_gauge_94 hl (by decide) rfl (fun ls hl => ?_)
                refine lv_pc (pc2 := 96) rfl ?_
                refine lp_gen (fun WW304 hWW304 => ?_)
                have kx304 : ∀ (yk : Int32) (H1 : Heap) (locs1 : List Loc) (ls1 : Array Slot), (0 ≤ yk.toInt) → (yk.toInt ≤ 96) → tG D (mF cI cL cC gC gE gW gA gT gI gS gM K F S N gH gJ ge gk gf gs gg gr RN) t H1 → tF t wG2 s.heap H1 locs1 → lv_has ls1 5 [(4, .int yk), (0, .ref a0), (1, .int a1), (2, .int a2), (3, .int a3)] → WW304 H1 locs1 (F0 m 122 ls1 []) := by
                  intro yk H locs ls v304_0 v304_1 hG hS hl
                  refine (hWW304 _ _ _).mpr ?_
                  refine lv_iconst (v := 0) hx hb dX10_gauge_122 (by decide) ?_
                  have zi_0 : (0 : Int32).toInt = 0 := by decide
                  exact ty_iret hx hb hr hlk hG hS True.intro dX10_gauge_123
                have lp304 : ∀ (kk304 : Nat) (yk : Int32) (H1 : Heap) (locs1 : List Loc) (ls1 : Array Slot), 96 - yk.toInt ≤ (kk304 : Int) → (0 ≤ yk.toInt) → (yk.toInt ≤ 96) → tG D (mF cI cL cC gC gE gW gA gT gI gS gM K F S N gH gJ ge gk gf gs gg gr RN) t H1 → tF t wG2 s.heap H1 locs1 → lv_has ls1 5 [(4, .int yk), (0, .ref a0), (1, .int a1), (2, .int a2), (3, .int a3)] → WW304 H1 locs1 (F0 m 96 ls1 []) := by
                  intro kk304
                  induction kk304 with
                  | zero =>
                    intro yk H locs ls hk304 v304_0 v304_1 hG hS hl
                    refine (hWW304 _ _ _).mpr ?_
                    refine lv_pc (pc2 := 96) rfl ?_
                    refine lv_iload hx hb dX10_gauge_96 (lv_at hl 0 rfl) ?_
                    refine lv_bipush (v := 96) hx hb dX10_gauge_98 (by decide) ?_
                    refine lv_icmp_ge (tgt := 122) hx hb dX10_gauge_100 (by decide) (fun c_305 => ?_) (fun c_305 => ?_)
                    · skip
                      have c_305 : 96 ≤ yk.toInt := q_le c_305
                      exact (hWW304 _ _ _).mp (kx304 yk H locs ls v304_0 v304_1 hG hS (lv_sub hl [0, 1, 2, 3, 4] rfl))
                    · skip
                      have c_305 : yk.toInt < 96 := q_nle c_305
                      exfalso; omega
                  | succ kk304 ih304 =>
                    intro yk H locs ls hk304 v304_0 v304_1 hG hS hl
                    refine (hWW304 _ _ _).mpr ?_
                    refine lv_iload hx hb dX10_gauge_96 (lv_at hl 0 rfl) ?_
                    refine lv_bipush (v := 96) hx hb dX10_gauge_98 (by decide) ?_
                    refine lv_icmp_ge (tgt := 122) hx hb dX10_gauge_100 (by decide) (fun c_306 => ?_) (fun c_306 => ?_)
                    · skip
                      have c_306 : 96 ≤ yk.toInt := q_le c_306
                      exact (hWW304 _ _ _).mp (kx304 yk H locs ls v304_0 v304_1 hG hS (lv_sub hl [0, 1, 2, 3, 4] rfl))
                    · skip
                      have c_306 : yk.toInt < 96 := q_nle c_306
                      refine lv_aload_n hx hb dX10_gauge_103 rfl (lv_at hl 1 rfl) ?_
                      obtain ⟨r_307, v_309, r_310, r_312, r_314, r_316, r_318, r_320, r_322, r_324, r_326, r_328, r_330, r_332, r_334, r_336, r_338, r_340, r_342, r_344, r_346, r_348, r_350, v_352, r_353, at_355, h_308, h_311, h_313, h_315, h_317, h_319, h_321, h_323, h_325, h_327, h_329, h_331, h_333, h_335, h_337, h_339, h_341, h_343, h_345, h_347, h_349, h_351, h_354⟩ := mF_o40 hG k_a0
                      refine va_get (D := D) (ci := 9) (v := .ref r_330) (C := RX10) (T := TX10) (N := 36) hx hb hts in10 hown hK (va_one at_355) 0 rfl rfl 16 (by decide) (hts (.fieldLink RX10 44 "RiverModelModel" "seen" "[I") (List.mem_of_getElem? (i := 12) rfl)) (fun _ h9 => h9) rfl dX10_gauge_104 ?_
                      refine lv_pc (pc2 := 107) rfl ?_
                      refine lv_bipush (v := 96) hx hb dX10_gauge_107 (by decide) ?_
                      refine lv_iload_n hx hb dX10_gauge_109 rfl (lv_at hl 2 rfl) ?_
                      refine lv_imul hx hb dX10_gauge_110 ?_
                      refine lv_topi (fun x_356 e_357 => ?_)
                      have i_x_356 : x_356.toInt = 96 * a1.toInt := by rw [e_357]; exact (q_mul (by rw [show (96 : Int32).toInt = 96 by decide]; omega) (by rw [show (96 : Int32).toInt = 96 by decide]; omega)).trans (by rw [show (96 : Int32).toInt = 96 by decide])
                      refine lv_iload hx hb dX10_gauge_111 (lv_at hl 0 rfl) ?_
                      refine lv_iadd hx hb dX10_gauge_113 ?_
                      refine lv_topi (fun x_358 e_359 => ?_)
                      have i_x_358 : x_358.toInt = x_356.toInt + yk.toInt := by rw [e_359]; exact (q_add (by omega) (by omega)).trans (by rfl)
                      refine lv_iconst (v := (-1)) hx hb dX10_gauge_114 (by decide) ?_
                      obtain ⟨f_360, at_361⟩ := mF_o52 hG h_331
                      have b_362 : vp_in x_358 384 := (q_in (by omega) (by omega))
                      have zi_m1 : ((-1) : Int32).toInt = (-1) := by decide
                      refine ty_iast (F2 := (mF cI cL cC gC gE gW gA gT gI gS gM K F S N gH gJ ge gk gf gs gg gr RN)) hx hb hK hG hS 0 at_361 (by rw [h_331]; rfl) rfl b_362 (by rw [h_331]; exact ⟨_, rfl⟩) tFF dX10_gauge_115 (fun H locs hG hS at_363 o_364 => ?_)
                      have at_355 := va_at.keptK at_355 o_364 h_331 k_a0 rfl
                      obtain ⟨x_365, e_366⟩ : ∃ y : Int32, y = yk + Int32.ofInt 1 := ⟨_, rfl⟩
                      have i_x_365 : x_365.toInt = yk.toInt + 1 := by rw [e_366, show Int32.ofInt 1 = 1 by decide]; exact (q_add (by rw [show (1 : Int32).toInt = 1 by decide]; omega) (by rw [show (1 : Int32).toInt = 1 by decide]; omega)).trans (by rw [show (1 : Int32).toInt = 1 by decide])
                      refine lv_iinc (v := x_365) (lv' := [(4, .int x_365), (0, .ref a0), (1, .int a1), (2, .int a2), (3, .int a3)]) hx hb dX10_gauge_116 hl (k := 0) rfl e_366.symm (by decide) rfl (fun ls hl => ?_)
                      refine lv_pc (pc2 := 119) rfl ?_
                      refine lv_goto (tgt := 96) hx hb dX10_gauge_119 (by decide) ?_
                      exact (hWW304 _ _ _).mp (ih304 x_365 H locs ls (by omega) (by omega) (by omega) hG hS (lv_sub hl [0, 1, 2, 3, 4] rfl))
                have zi_0 : (0 : Int32).toInt = 0 := by decide
                exact lp304 (96 - (0 : Int32).toInt : Int).toNat 0 H locs ls (by omega) (by omega) (by omega) hG hS (lv_sub hl [0, 1, 2, 3, 4] rfl)
              · skip
                refine lv_if_ne (tgt := 79) hx hb dX10_gauge_73 (by decide) (fun q => absurd rfl q) (fun _ => ?_)
                refine lv_bipush (v := (-2)) hx hb dX10_gauge_76 (by decide) ?_
                have zi_m2 : ((-2) : Int32).toInt = (-2) := by decide
                exact ty_iret hx hb hr hlk hG hS True.intro dX10_gauge_78
            · skip
              have c_286 : a2.toInt = 0 := q_eq c_286
              refine lv_iload_n hx hb dX10_gauge_57 rfl (lv_at hl 3 rfl) ?_
              refine lv_aload_n hx hb dX10_gauge_58 rfl (lv_at hl 0 rfl) ?_
              refine va_get (D := D) (ci := 9) (v := .int gI) (C := RX10) (T := TX10) (N := 36) hx hb hts in10 hown hK (va_one at_284) 0 rfl rfl 3 (by decide) (hts (.fieldLink RX10 163 "RiverModelModel" "items" "I") (List.mem_of_getElem? (i := 13) rfl)) (fun _ h9 => h9) rfl dX10_gauge_59 ?_
              refine lv_icmp_lt (tgt := 79) hx hb dX10_gauge_62 (by decide) (fun c_367 => ?_) (fun c_367 => ?_)
              · skip
                have c_367 : a3.toInt < gI.toInt := q_lt c_367
                refine lv_pc (pc2 := 79) rfl ?_
                refine lv_aload_n hx hb dX10_gauge_79 rfl (lv_at hl 0 rfl) ?_
                refine va_get (D := D) (ci := 9) (v := .ref r_255) (C := RX10) (T := TX10) (N := 36) hx hb hts in10 hown hK (va_one at_284) 0 rfl rfl 14 (by decide) (hts (.fieldLink RX10 38 "RiverModelModel" "gaugeKind" "[I") (List.mem_of_getElem? (i := 10) rfl)) (fun _ h9 => h9) rfl dX10_gauge_80 ?_
                refine lv_iload_n hx hb dX10_gauge_83 rfl (lv_at hl 1 rfl) ?_
                refine lv_iload_n hx hb dX10_gauge_84 rfl (lv_at hl 2 rfl) ?_
                obtain ⟨f_368, at_369⟩ := mF_o50 hG h_256
                have b_370 : vp_in a1 4 := (q_in (by omega) (by omega))
                refine ty_iast (F2 := (mF cI cL cC gC gE gW gA gT gI gS gM K F S N gH gJ ge gk gf gs gg gr RN)) hx hb hK hG hS 0 at_369 (by rw [h_256]; rfl) rfl b_370 (by rw [h_256]; exact ⟨_, rfl⟩) tFF dX10_gauge_85 (fun H locs hG hS at_371 o_372 => ?_)
                have at_284 := va_at.keptK at_284 o_372 h_256 k_a0 rfl
                refine lv_aload_n hx hb dX10_gauge_86 rfl (lv_at hl 0 rfl) ?_
                refine va_get (D := D) (ci := 9) (v := .ref r_257) (C := RX10) (T := TX10) (N := 36) hx hb hts in10 hown hK (va_one at_284) 0 rfl rfl 15 (by decide) (hts (.fieldLink RX10 41 "RiverModelModel" "gaugeAt" "[I") (List.mem_of_getElem? (i := 11) rfl)) (fun _ h9 => h9) rfl dX10_gauge_87 ?_
                refine lv_iload_n hx hb dX10_gauge_90 rfl (lv_at hl 1 rfl) ?_
                refine lv_pc (pc2 := 91) rfl ?_
                refine lv_iload_n hx hb dX10_gauge_91 rfl (lv_at hl 3 rfl) ?_
                obtain ⟨f_373, at_374, h_375⟩ := mF_o51 hG h_258
                have b_376 : vp_in a1 4 := (q_in (by omega) (by omega))
                refine ty_iast (F2 := (mF cI cL cC gC gE gW gA gT gI gS gM K F S N gH gJ ge gk gf gs gg gr RN)) hx hb hK hG hS 0 at_374 (by rw [h_258]; rfl) rfl b_376 (by rw [h_258]; exact ⟨_, rfl, gBd_upd h_375 (by omega)⟩) tFF dX10_gauge_92 (fun H locs hG hS at_377 o_378 => ?_)
                have at_284 := va_at.keptK at_284 o_378 h_258 k_a0 rfl
                refine lv_iconst (v := 0) hx hb dX10_gauge_93 (by decide) ?_
                refine lv_istore (lv' := [(4, .int 0), (0, .ref a0), (1, .int a1), (2, .int a2), (3, .int a3)]) hx hb dX10_gauge_94 hl (by decide) rfl (fun ls hl => ?_)
                refine lv_pc (pc2 := 96) rfl ?_
                refine lp_gen (fun WW379 hWW379 => ?_)
                have kx379 : ∀ (yk : Int32) (H1 : Heap) (locs1 : List Loc) (ls1 : Array Slot), (0 ≤ yk.toInt) → (yk.toInt ≤ 96) → tG D (mF cI cL cC gC gE gW gA gT gI gS gM K F S N gH gJ ge gk gf gs gg gr RN) t H1 → tF t wG2 s.heap H1 locs1 → lv_has ls1 5 [(4, .int yk), (0, .ref a0), (1, .int a1), (2, .int a2), (3, .int a3)] → WW379 H1 locs1 (F0 m 122 ls1 []) := by
                  intro yk H locs ls v379_0 v379_1 hG hS hl
                  refine (hWW379 _ _ _).mpr ?_
                  refine lv_iconst (v := 0) hx hb dX10_gauge_122 (by decide) ?_
                  have zi_0 : (0 : Int32).toInt = 0 := by decide
                  exact ty_iret hx hb hr hlk hG hS True.intro dX10_gauge_123
                have lp379 : ∀ (kk379 : Nat) (yk : Int32) (H1 : Heap) (locs1 : List Loc) (ls1 : Array Slot), 96 - yk.toInt ≤ (kk379 : Int) → (0 ≤ yk.toInt) → (yk.toInt ≤ 96) → tG D (mF cI cL cC gC gE gW gA gT gI gS gM K F S N gH gJ ge gk gf gs gg gr RN) t H1 → tF t wG2 s.heap H1 locs1 → lv_has ls1 5 [(4, .int yk), (0, .ref a0), (1, .int a1), (2, .int a2), (3, .int a3)] → WW379 H1 locs1 (F0 m 96 ls1 []) := by
                  intro kk379
                  induction kk379 with
                  | zero =>
                    intro yk H locs ls hk379 v379_0 v379_1 hG hS hl
                    refine (hWW379 _ _ _).mpr ?_
                    refine lv_iload hx hb dX10_gauge_96 (lv_at hl 0 rfl) ?_
                    refine lv_bipush (v := 96) hx hb dX10_gauge_98 (by decide) ?_
                    refine lv_pc (pc2 := 100) rfl ?_
                    refine lv_icmp_ge (tgt := 122) hx hb dX10_gauge_100 (by decide) (fun c_380 => ?_) (fun c_380 => ?_)
                    · skip
                      have c_380 : 96 ≤ yk.toInt := q_le c_380
                      exact (hWW379 _ _ _).mp (kx379 yk H locs ls v379_0 v379_1 hG hS (lv_sub hl [0, 1, 2, 3, 4] rfl))
                    · skip
                      have c_380 : yk.toInt < 96 := q_nle c_380
                      exfalso; omega
                  | succ kk379 ih379 =>
                    intro yk H locs ls hk379 v379_0 v379_1 hG hS hl
                    refine (hWW379 _ _ _).mpr ?_
                    refine lv_iload hx hb dX10_gauge_96 (lv_at hl 0 rfl) ?_
                    refine lv_bipush (v := 96) hx hb dX10_gauge_98 (by decide) ?_
                    refine lv_icmp_ge (tgt := 122) hx hb dX10_gauge_100 (by decide) (fun c_381 => ?_) (fun c_381 => ?_)
                    · skip
                      have c_381 : 96 ≤ yk.toInt := q_le c_381
                      exact (hWW379 _ _ _).mp (kx379 yk H locs ls v379_0 v379_1 hG hS (lv_sub hl [0, 1, 2, 3, 4] rfl))
                    · skip
                      have c_381 : yk.toInt < 96 := q_nle c_381
                      refine lv_aload_n hx hb dX10_gauge_103 rfl (lv_at hl 1 rfl) ?_
                      obtain ⟨r_382, v_384, r_385, r_387, r_389, r_391, r_393, r_395, r_397, r_399, r_401, r_403, r_405, r_407, r_409, r_411, r_413, r_415, r_417, r_419, r_421, r_423, r_425, v_427, r_428, at_430, h_383, h_386, h_388, h_390, h_392, h_394, h_396, h_398, h_400, h_402, h_404, h_406, h_408, h_410, h_412, h_414, h_416, h_418, h_420, h_422, h_424, h_426, h_429⟩ := mF_o40 hG k_a0
                      refine va_get (D := D) (ci := 9) (v := .ref r_405) (C := RX10) (T := TX10) (N := 36) hx hb hts in10 hown hK (va_one at_430) 0 rfl rfl 16 (by decide) (hts (.fieldLink RX10 44 "RiverModelModel" "seen" "[I") (List.mem_of_getElem? (i := 12) rfl)) (fun _ h9 => h9) rfl dX10_gauge_104 ?_
                      refine lv_bipush (v := 96) hx hb dX10_gauge_107 (by decide) ?_
                      refine lv_iload_n hx hb dX10_gauge_109 rfl (lv_at hl 2 rfl) ?_
                      refine lv_pc (pc2 := 110) rfl ?_
                      refine lv_imul hx hb dX10_gauge_110 ?_
                      refine lv_topi (fun x_431 e_432 => ?_)
                      have i_x_431 : x_431.toInt = 96 * a1.toInt := by rw [e_432]; exact (q_mul (by rw [show (96 : Int32).toInt = 96 by decide]; omega) (by rw [show (96 : Int32).toInt = 96 by decide]; omega)).trans (by rw [show (96 : Int32).toInt = 96 by decide])
                      refine lv_iload hx hb dX10_gauge_111 (lv_at hl 0 rfl) ?_
                      refine lv_iadd hx hb dX10_gauge_113 ?_
                      refine lv_topi (fun x_433 e_434 => ?_)
                      have i_x_433 : x_433.toInt = x_431.toInt + yk.toInt := by rw [e_434]; exact (q_add (by omega) (by omega)).trans (by rfl)
                      refine lv_iconst (v := (-1)) hx hb dX10_gauge_114 (by decide) ?_
                      obtain ⟨f_435, at_436⟩ := mF_o52 hG h_406
                      have b_437 : vp_in x_433 384 := (q_in (by omega) (by omega))
                      have zi_m1 : ((-1) : Int32).toInt = (-1) := by decide
                      refine ty_iast (F2 := (mF cI cL cC gC gE gW gA gT gI gS gM K F S N gH gJ ge gk gf gs gg gr RN)) hx hb hK hG hS 0 at_436 (by rw [h_406]; rfl) rfl b_437 (by rw [h_406]; exact ⟨_, rfl⟩) tFF dX10_gauge_115 (fun H locs hG hS at_438 o_439 => ?_)
                      have at_430 := va_at.keptK at_430 o_439 h_406 k_a0 rfl
                      obtain ⟨x_440, e_441⟩ : ∃ y : Int32, y = yk + Int32.ofInt 1 := ⟨_, rfl⟩
                      have i_x_440 : x_440.toInt = yk.toInt + 1 := by rw [e_441, show Int32.ofInt 1 = 1 by decide]; exact (q_add (by rw [show (1 : Int32).toInt = 1 by decide]; omega) (by rw [show (1 : Int32).toInt = 1 by decide]; omega)).trans (by rw [show (1 : Int32).toInt = 1 by decide])
                      refine lv_iinc (v := x_440) (lv' := [(4, .int x_440), (0, .ref a0), (1, .int a1), (2, .int a2), (3, .int a3)]) hx hb dX10_gauge_116 hl (k := 0) rfl e_441.symm (by decide) rfl (fun ls hl => ?_)
                      refine lv_goto (tgt := 96) hx hb dX10_gauge_119 (by decide) ?_
                      exact (hWW379 _ _ _).mp (ih379 x_440 H locs ls (by omega) (by omega) (by omega) hG hS (lv_sub hl [0, 1, 2, 3, 4] rfl))
                have zi_0 : (0 : Int32).toInt = 0 := by decide
                exact lp379 (96 - (0 : Int32).toInt : Int).toNat 0 H locs ls (by omega) (by omega) (by omega) hG hS (lv_sub hl [0, 1, 2, 3, 4] rfl)
              · skip
                have c_367 : gI.toInt ≤ a3.toInt := q_nlt c_367
                refine lv_goto (tgt := 76) hx hb dX10_gauge_65 (by decide) ?_
                refine lv_pc (pc2 := 76) rfl ?_
                refine lv_bipush (v := (-2)) hx hb dX10_gauge_76 (by decide) ?_
                have zi_m2 : ((-2) : Int32).toInt = (-2) := by decide
                exact ty_iret hx hb hr hlk hG hS True.intro dX10_gauge_78
        · skip
          refine lv_if_ne (tgt := 46) hx hb dX10_gauge_41 (by decide) (fun q => absurd rfl q) (fun _ => ?_)
          refine lv_iconst (v := (-1)) hx hb dX10_gauge_44 (by decide) ?_
          have zi_m1 : ((-1) : Int32).toInt = (-1) := by decide
          exact ty_iret hx hb hr hlk hG hS True.intro dX10_gauge_45
    · skip
      refine lv_if_eq (tgt := 44) hx hb dX10_gauge_19 (by decide) (fun _ => ?_) (fun q => absurd (by decide) q)
      refine lv_iconst (v := (-1)) hx hb dX10_gauge_44 (by decide) ?_
      have zi_m1 : ((-1) : Int32).toInt = (-1) := by decide
      exact ty_iret hx hb hr hlk hG hS True.intro dX10_gauge_45
  · skip
    refine lv_pc (pc2 := 9) rfl ?_
    refine lv_if_eq (tgt := 44) hx hb dX10_gauge_9 (by decide) (fun _ => ?_) (fun q => absurd (by decide) q)
    refine lv_iconst (v := (-1)) hx hb dX10_gauge_44 (by decide) ?_
    have zi_m1 : ((-1) : Int32).toInt = (-1) := by decide
    exact ty_iret hx hb hr hlk hG hS True.intro dX10_gauge_45

def uX10_isSet : List Cond := .code yX10_isSet cX10_isSet 2 (some .boolean) :: ([.fieldLink RX10 173 "RiverModelModel" "isBuilt" "Z", .fieldLink RX10 38 "RiverModelModel" "gaugeKind" "[I"] ++ wsX100)
set_option maxHeartbeats 4000000 in
set_option maxRecDepth 100000 in
theorem m_X10_isSet (l : Launch) (D : va_G) (t : Nat → Nat) (cI cL cC : ClassId) (gC : Int32) (gE : Int32) (gW : Nat → Int32) (gA : Nat → Int32) (gT : Nat → Int32) (gI : Int32) (gS : Int32) (gM : Int32) (K : Nat → Int32) (F : Nat → Int32) (S : Nat → Int32) (N : Nat → Int32) (gH : Int) (gJ : Int) (ge : Int32) (gk : Int32) (gf : Int32) (gs : Int32) (gg : Int32) (gr : Int32) (RN : Nat → Int32) (a0 : Nat) (a1 : Int32) (uq : ∀ b c : Nat, t b = t c → t b ≠ 0 → b = c) (hg0 : 0 ≤ a1.toInt) (hg3 : a1.toInt ≤ 3) (k_a0 : t a0 = 40) : tM l yX10_isSet uX10_isSet 0 0 D (mF cI cL cC gC gE gW gA gT gI gS gM K F S N gH gJ ge gk gf gs gg gr RN) (mF cI cL cC gC gE gW gA gT gI gS gM K F S N gH gJ ge gk gf gs gg gr RN) t cI cL cC [.ref a0, .int a1] wr0 (pI (fun r => (r = 1) ∨ (r = 0))) := by
  refine tM.ofW (cc := cX10_isSet) (maxL := 2) (ret := (some .boolean)) (by decide) rfl (Nat.le_of_ble_eq_true rfl) ?_
  intro p e s m below meth c hx hb hr hml hown hts hlk H locs hG hK hE hS ls hl
  have hl : lv_has ls 2 [(0, .ref a0), (1, .int a1)] := hl
  have in10 : ∀ w ∈ wsX100, w ∈ uX10_isSet := fun w h => List.mem_cons_of_mem _ (List.mem_append_right _ h)
  refine lv_aload_n hx hb dX10_isSet_0 rfl (lv_at hl 0 rfl) ?_
  obtain ⟨r_1, v_3, r_4, r_6, r_8, r_10, r_12, r_14, r_16, r_18, r_20, r_22, r_24, r_26, r_28, r_30, r_32, r_34, r_36, r_38, r_40, r_42, r_44, v_46, r_47, at_49, h_2, h_5, h_7, h_9, h_11, h_13, h_15, h_17, h_19, h_21, h_23, h_25, h_27, h_29, h_31, h_33, h_35, h_37, h_39, h_41, h_43, h_45, h_48⟩ := mF_o40 hG k_a0
  refine va_get (D := D) (ci := 9) (v := .int v_3) (C := RX10) (T := TX10) (N := 36) hx hb hts in10 hown hK (va_one at_49) 0 rfl rfl 2 (by decide) (hts (.fieldLink RX10 173 "RiverModelModel" "isBuilt" "Z") (List.mem_of_getElem? (i := 1) rfl)) (fun _ h9 => h9) rfl dX10_isSet_1 ?_
  refine lv_if_eq (tgt := 20) hx hb dX10_isSet_4 (by decide) (fun c_50 => ?_) (fun c_50 => ?_)
  · skip
    have c_50 : v_3.toInt = 0 := q_eq c_50
    refine lv_iconst (v := 0) hx hb dX10_isSet_20 (by decide) ?_
    have zi_0 : (0 : Int32).toInt = 0 := by decide
    exact ty_zret hx hb hr hlk rfl hG hS (Or.inr rfl) dX10_isSet_21
  · skip
    have c_50 : v_3.toInt ≠ 0 := q_ne c_50
    refine lv_aload_n hx hb dX10_isSet_7 rfl (lv_at hl 0 rfl) ?_
    refine va_get (D := D) (ci := 9) (v := .ref r_20) (C := RX10) (T := TX10) (N := 36) hx hb hts in10 hown hK (va_one at_49) 0 rfl rfl 14 (by decide) (hts (.fieldLink RX10 38 "RiverModelModel" "gaugeKind" "[I") (List.mem_of_getElem? (i := 2) rfl)) (fun _ h9 => h9) rfl dX10_isSet_8 ?_
    refine lv_pc (pc2 := 11) rfl ?_
    refine lv_iload_n hx hb dX10_isSet_11 rfl (lv_at hl 1 rfl) ?_
    obtain ⟨f_51, at_52⟩ := mF_o50 hG h_21
    have b_53 : vp_in a1 4 := (q_in (by omega) (by omega))
    refine va_iald hx hb hK (va_one at_52) 0 0 rfl rfl b_53 dX10_isSet_12 ?_
    refine lv_topi (fun x_54 e_55 => ?_)
    refine lv_if_lt (tgt := 20) hx hb dX10_isSet_13 (by decide) (fun c_56 => ?_) (fun c_56 => ?_)
    · skip
      have c_56 : x_54.toInt < 0 := q_lt c_56
      refine lv_iconst (v := 0) hx hb dX10_isSet_20 (by decide) ?_
      have zi_0 : (0 : Int32).toInt = 0 := by decide
      exact ty_zret hx hb hr hlk rfl hG hS (Or.inr rfl) dX10_isSet_21
    · skip
      have c_56 : 0 ≤ x_54.toInt := q_nlt c_56
      refine lv_iconst (v := 1) hx hb dX10_isSet_16 (by decide) ?_
      refine lv_goto (tgt := 21) hx hb dX10_isSet_17 (by decide) ?_
      have zi_1 : (1 : Int32).toInt = 1 := by decide
      exact ty_zret hx hb hr hlk rfl hG hS (Or.inl rfl) dX10_isSet_21

def uX10_reading : List Cond := .code yX10_reading cX10_reading 2 (some .long) :: ([.fieldLink RX10 38 "RiverModelModel" "gaugeKind" "[I", .fieldLink RX10 28 "RiverModelModel" "m" "[J", .fieldLink RX10 41 "RiverModelModel" "gaugeAt" "[I"] ++ wsX100)
set_option maxHeartbeats 4000000 in
set_option maxRecDepth 100000 in
theorem m_X10_reading (l : Launch) (D : va_G) (t : Nat → Nat) (cI cL cC : ClassId) (gC : Int32) (gE : Int32) (gW : Nat → Int32) (gA : Nat → Int32) (gT : Nat → Int32) (gI : Int32) (gS : Int32) (gM : Int32) (K : Nat → Int32) (F : Nat → Int32) (S : Nat → Int32) (N : Nat → Int32) (gH : Int) (gJ : Int) (ge : Int32) (gk : Int32) (gf : Int32) (gs : Int32) (gg : Int32) (gr : Int32) (RN : Nat → Int32) (a0 : Nat) (a1 : Int32) (uq : ∀ b c : Nat, t b = t c → t b ≠ 0 → b = c) (hg0 : 0 ≤ a1.toInt) (hg3 : a1.toInt ≤ 3) (k_a0 : t a0 = 40) : tM l yX10_reading uX10_reading 0 0 D (mF cI cL cC gC gE gW gA gT gI gS gM K F S N gH gJ ge gk gf gs gg gr RN) (mF cI cL cC gC gE gW gA gT gI gS gM K F S N gH gJ ge gk gf gs gg gr RN) t cI cL cC [.ref a0, .int a1] wr0 (pL (fun r => True)) := by
  refine tM.ofW (cc := cX10_reading) (maxL := 2) (ret := (some .long)) (by decide) rfl (Nat.le_of_ble_eq_true rfl) ?_
  intro p e s m below meth c hx hb hr hml hown hts hlk H locs hG hK hE hS ls hl
  have hl : lv_has ls 2 [(0, .ref a0), (1, .int a1)] := hl
  have in10 : ∀ w ∈ wsX100, w ∈ uX10_reading := fun w h => List.mem_cons_of_mem _ (List.mem_append_right _ h)
  refine lv_aload_n hx hb dX10_reading_0 rfl (lv_at hl 0 rfl) ?_
  obtain ⟨r_1, v_3, r_4, r_6, r_8, r_10, r_12, r_14, r_16, r_18, r_20, r_22, r_24, r_26, r_28, r_30, r_32, r_34, r_36, r_38, r_40, r_42, r_44, v_46, r_47, at_49, h_2, h_5, h_7, h_9, h_11, h_13, h_15, h_17, h_19, h_21, h_23, h_25, h_27, h_29, h_31, h_33, h_35, h_37, h_39, h_41, h_43, h_45, h_48⟩ := mF_o40 hG k_a0
  refine va_get (D := D) (ci := 9) (v := .ref r_20) (C := RX10) (T := TX10) (N := 36) hx hb hts in10 hown hK (va_one at_49) 0 rfl rfl 14 (by decide) (hts (.fieldLink RX10 38 "RiverModelModel" "gaugeKind" "[I") (List.mem_of_getElem? (i := 1) rfl)) (fun _ h9 => h9) rfl dX10_reading_1 ?_
  refine lv_iload_n hx hb dX10_reading_4 rfl (lv_at hl 1 rfl) ?_
  obtain ⟨f_50, at_51⟩ := mF_o50 hG h_21
  have b_52 : vp_in a1 4 := (q_in (by omega) (by omega))
  refine va_iald hx hb hK (va_one at_51) 0 0 rfl rfl b_52 dX10_reading_5 ?_
  refine lv_topi (fun x_53 e_54 => ?_)
  refine lv_if_ne (tgt := 27) hx hb dX10_reading_6 (by decide) (fun c_55 => ?_) (fun c_55 => ?_)
  · skip
    have c_55 : x_53.toInt ≠ 0 := q_ne c_55
    refine lv_aload_n hx hb dX10_reading_27 rfl (lv_at hl 0 rfl) ?_
    refine va_get (D := D) (ci := 9) (v := .ref r_14) (C := RX10) (T := TX10) (N := 36) hx hb hts in10 hown hK (va_one at_49) 0 rfl rfl 10 (by decide) (hts (.fieldLink RX10 28 "RiverModelModel" "m" "[J") (List.mem_of_getElem? (i := 2) rfl)) (fun _ h9 => h9) rfl dX10_reading_28 ?_
    refine lv_pc (pc2 := 31) rfl ?_
    refine lv_aload_n hx hb dX10_reading_31 rfl (lv_at hl 0 rfl) ?_
    refine va_get (D := D) (ci := 9) (v := .ref r_22) (C := RX10) (T := TX10) (N := 36) hx hb hts in10 hown hK (va_one at_49) 0 rfl rfl 15 (by decide) (hts (.fieldLink RX10 41 "RiverModelModel" "gaugeAt" "[I") (List.mem_of_getElem? (i := 3) rfl)) (fun _ h9 => h9) rfl dX10_reading_32 ?_
    refine lv_iload_n hx hb dX10_reading_35 rfl (lv_at hl 1 rfl) ?_
    obtain ⟨f_56, at_57, h_58⟩ := mF_o51 hG h_23
    have b_59 : vp_in a1 4 := (q_in (by omega) (by omega))
    refine va_iald hx hb hK (va_one at_57) 0 0 rfl rfl b_59 dX10_reading_36 ?_
    refine lv_topi (fun x_60 e_61 => ?_)
    have i_x_60 := by have h := h_58 _ (q_inlt b_59); rw [← e_61] at h; exact h
    obtain ⟨f_62, at_63, h_64⟩ := mF_o47 hG h_15
    have b_65 : vp_in x_60 280 := (q_in (by omega) (by omega))
    refine va_lald hx hb hK (va_one at_63) 0 1 rfl rfl b_65 dX10_reading_37 ?_
    refine lv_topl (fun z_66 e_67 => ?_)
    exact ty_lret hx hb hr hlk hG hS True.intro dX10_reading_38
  · skip
    have c_55 : x_53.toInt = 0 := q_eq c_55
    refine lv_aload_n hx hb dX10_reading_9 rfl (lv_at hl 0 rfl) ?_
    refine va_get (D := D) (ci := 9) (v := .ref r_14) (C := RX10) (T := TX10) (N := 36) hx hb hts in10 hown hK (va_one at_49) 0 rfl rfl 10 (by decide) (hts (.fieldLink RX10 28 "RiverModelModel" "m" "[J") (List.mem_of_getElem? (i := 2) rfl)) (fun _ h9 => h9) rfl dX10_reading_10 ?_
    refine lv_pc (pc2 := 13) rfl ?_
    refine lv_sipush (v := 240) hx hb dX10_reading_13 (by decide) ?_
    refine lv_aload_n hx hb dX10_reading_16 rfl (lv_at hl 0 rfl) ?_
    refine va_get (D := D) (ci := 9) (v := .ref r_22) (C := RX10) (T := TX10) (N := 36) hx hb hts in10 hown hK (va_one at_49) 0 rfl rfl 15 (by decide) (hts (.fieldLink RX10 41 "RiverModelModel" "gaugeAt" "[I") (List.mem_of_getElem? (i := 3) rfl)) (fun _ h9 => h9) rfl dX10_reading_17 ?_
    refine lv_iload_n hx hb dX10_reading_20 rfl (lv_at hl 1 rfl) ?_
    obtain ⟨f_68, at_69, h_70⟩ := mF_o51 hG h_23
    have b_71 : vp_in a1 4 := (q_in (by omega) (by omega))
    refine va_iald hx hb hK (va_one at_69) 0 0 rfl rfl b_71 dX10_reading_21 ?_
    refine lv_topi (fun x_72 e_73 => ?_)
    have i_x_72 := by have h := h_70 _ (q_inlt b_71); rw [← e_73] at h; exact h
    refine lv_iadd hx hb dX10_reading_22 ?_
    refine lv_topi (fun x_74 e_75 => ?_)
    have i_x_74 : x_74.toInt = 240 + x_72.toInt := by rw [e_75]; exact (q_add (by rw [show (240 : Int32).toInt = 240 by decide]; omega) (by rw [show (240 : Int32).toInt = 240 by decide]; omega)).trans (by rw [show (240 : Int32).toInt = 240 by decide])
    obtain ⟨f_76, at_77, h_78⟩ := mF_o47 hG h_15
    have b_79 : vp_in x_74 280 := (q_in (by omega) (by omega))
    refine va_lald hx hb hK (va_one at_77) 0 1 rfl rfl b_79 dX10_reading_23 ?_
    refine lv_topl (fun z_80 e_81 => ?_)
    refine lv_goto (tgt := 38) hx hb dX10_reading_24 (by decide) ?_
    refine lv_pc (pc2 := 38) rfl ?_
    exact ty_lret hx hb hr hlk hG hS True.intro dX10_reading_38

def uX10_reads : List Cond := .code yX10_reads cX10_reads 2 (some .long) :: ([.constantLong RX10 243 (3), .methodLink RX10 85 yX10_in, .static yX10_in, .initialized RX10, .methodLink RX10 248 yX10_isSet, .instanceMethod yX10_isSet, .selects RX10 yX10_isSet yX10_isSet, .fieldLink RX10 28 "RiverModelModel" "m" "[J", .methodLink RX10 251 yX10_reading, .instanceMethod yX10_reading, .selects RX10 yX10_reading yX10_reading, .constantLong RX10 238 (-2), .constantLong RX10 236 (-1), .code yX10_in cX10_in 6 (some .boolean), .code yX10_isSet cX10_isSet 2 (some .boolean), .fieldLink RX10 173 "RiverModelModel" "isBuilt" "Z", .fieldLink RX10 38 "RiverModelModel" "gaugeKind" "[I", .code yX10_reading cX10_reading 2 (some .long), .fieldLink RX10 41 "RiverModelModel" "gaugeAt" "[I"] ++ wsX100)
set_option maxRecDepth 20000 in
theorem gu_X10_reads_X10_in_85 : GoodIn uX10_reads (va_wsS RX10 85 yX10_in uX10_in) := goodIn_r _ [2, 3, 4, 14] rfl (by decide +kernel)
set_option maxRecDepth 20000 in
theorem gu_X10_reads_X10_isSet_248 : GoodIn uX10_reads (wsV RX10 248 RX10 yX10_isSet uX10_isSet) := goodIn_r _ [5, 6, 7, 4, 15, 16, 17, 20, 21, 22, 23, 24, 25, 26, 27, 28, 29, 30, 31, 32, 33, 34, 35, 36, 37, 38, 39, 40, 41, 42, 43, 44, 45, 46, 47, 48, 49, 50, 51, 52, 53, 54, 55] rfl (by decide +kernel)
set_option maxRecDepth 20000 in
theorem gu_X10_reads_X10_reading_251 : GoodIn uX10_reads (wsV RX10 251 RX10 yX10_reading uX10_reading) := goodIn_r _ [9, 10, 11, 4, 18, 17, 8, 19, 20, 21, 22, 23, 24, 25, 26, 27, 28, 29, 30, 31, 32, 33, 34, 35, 36, 37, 38, 39, 40, 41, 42, 43, 44, 45, 46, 47, 48, 49, 50, 51, 52, 53, 54, 55] rfl (by decide +kernel)
set_option maxHeartbeats 4000000 in
set_option maxRecDepth 100000 in
theorem m_X10_reads (l : Launch) (D : va_G) (t : Nat → Nat) (cI cL cC : ClassId) (gC : Int32) (gE : Int32) (gW : Nat → Int32) (gA : Nat → Int32) (gT : Nat → Int32) (gI : Int32) (gS : Int32) (gM : Int32) (K : Nat → Int32) (F : Nat → Int32) (S : Nat → Int32) (N : Nat → Int32) (gH : Int) (gJ : Int) (ge : Int32) (gk : Int32) (gf : Int32) (gs : Int32) (gg : Int32) (gr : Int32) (RN : Nat → Int32) (a0 : Nat) (a1 : Int32) (uq : ∀ b c : Nat, t b = t c → t b ≠ 0 → b = c) (hC0 : 0 ≤ gC.toInt) (hC4 : gC.toInt ≤ 400) (hI0 : 0 ≤ gI.toInt) (hI4 : gI.toInt ≤ 40) (hH0 : 0 ≤ gH) (hH9 : gH ≤ 96) (hm0 : 0 ≤ gM.toInt) (hm3 : gM.toInt ≤ 3) (hO0 : okM K F S N 0 gI.toInt) (hW : swM gS K F S N gI.toInt) (k_a0 : t a0 = 40) : tM l yX10_reads uX10_reads 1 25 D (mF cI cL cC gC gE gW gA gT gI gS gM K F S N gH gJ ge gk gf gs gg gr RN) (mF cI cL cC gC gE gW gA gT gI gS gM K F S N gH gJ ge gk gf gs gg gr RN) t cI cL cC [.ref a0, .int a1] wr0 (pL (fun r => True)) := by
  refine tM.ofW (cc := cX10_reads) (maxL := 2) (ret := (some .long)) (by decide) rfl (Nat.le_of_ble_eq_true rfl) ?_
  intro p e s m below meth c hx hb hr hml hown hts hlk H locs hG hK hE hS ls hl
  have hl : lv_has ls 2 [(0, .ref a0), (1, .int a1)] := hl
  have in10 : ∀ w ∈ wsX100, w ∈ uX10_reads := fun w h => List.mem_cons_of_mem _ (List.mem_append_right _ h)
  refine lv_iload_n hx hb dX10_reads_0 rfl (lv_at hl 1 rfl) ?_
  refine lv_i2l (v := a1.toInt64) hx hb dX10_reads_1 rfl ?_
  refine lv_lconst (v := 0) hx hb dX10_reads_2 (by decide) ?_
  refine lv_ldc2 hx hb hown (hts (.constantLong RX10 243 (3)) (List.mem_of_getElem? (i := 1) rfl)) dX10_reads_3 ?_
  have zl_0 : (0 : Int64).toInt = 0 := by decide
  have zl_3 : (3 : Int64).toInt = 3 := by decide
  refine ty_calli (W.runS (As := [.long a1.toInt64, .long 0, .long 3]) (rest := []) ⟨hx, hb, hml, hown, hts⟩ (m_X10_in l D t cI cL cC gC gE gW gA gT gI gS gM K F S N gH gJ ge gk gf gs gg gr RN a1.toInt64 0 3 a1.toInt 0 3 uq (q_i2l _) (by decide) (by decide) ) (va_cwS 3 hts gu_X10_reads_X10_in_85 rfl rfl rfl (by decide +kernel) ⟨Nat.le_of_ble_eq_true rfl, Nat.le_of_ble_eq_true rfl⟩) (tP_S hG hE) rfl rfl hl.1 rfl (lv_room (Nat.le_of_ble_eq_true rfl)) dX10_reads_6 ⟨Nat.le_of_ble_eq_true rfl, Nat.le_of_ble_eq_true rfl⟩) hS (fun _ h => h) (fun r_1 H locs hp_2 hG hS o_3 => ?_)
  have hp_2 : (r_1 = 1 ∧ 0 ≤ a1.toInt ∧ a1.toInt ≤ 3) ∨ (r_1 = 0 ∧ (a1.toInt < 0 ∨ 3 < a1.toInt)) := hp_2
  rcases hp_2 with ⟨rfl, p_5, p_6⟩ | ⟨rfl, p_7⟩
  · skip
    refine lv_if_ne (tgt := 16) hx hb dX10_reads_9 (by decide) (fun _ => ?_) (fun q => absurd q (by decide))
    refine lv_aload_n hx hb dX10_reads_16 rfl (lv_at hl 0 rfl) ?_
    refine lv_pc (pc2 := 17) rfl ?_
    refine lv_iload_n hx hb dX10_reads_17 rfl (lv_at hl 1 rfl) ?_
    obtain ⟨r_8, v_10, r_11, r_13, r_15, r_17, r_19, r_21, r_23, r_25, r_27, r_29, r_31, r_33, r_35, r_37, r_39, r_41, r_43, r_45, r_47, r_49, r_51, v_53, r_54, at_56, h_9, h_12, h_14, h_16, h_18, h_20, h_22, h_24, h_26, h_28, h_30, h_32, h_34, h_36, h_38, h_40, h_42, h_44, h_46, h_48, h_50, h_52, h_55⟩ := mF_o40 hG k_a0
    refine ty_calli (W.runV (As := [.int a1]) (rest := []) ⟨hx, hb, hml, hown, hts⟩ (m_X10_isSet l D t cI cL cC gC gE gW gA gT gI gS gM K F S N gH gJ ge gk gf gs gg gr RN a0 a1  uq (by omega) (by omega) k_a0) (cwV 1 hts gu_X10_reads_X10_isSet_248 rfl rfl rfl (by decide +kernel) ⟨Nat.le_of_ble_eq_true rfl, Nat.le_of_ble_eq_true rfl⟩) (tP_V hG hE at_56 rfl) rfl rfl hl.1 rfl (lv_room (Nat.le_of_ble_eq_true rfl)) dX10_reads_18 ⟨Nat.le_of_ble_eq_true rfl, Nat.le_of_ble_eq_true rfl⟩) hS (fun _ h => h) (fun r_57 H locs hp_58 hG hS o_59 => ?_)
    have at_56 := va_at.keptC at_56 o_59 k_a0 rfl
    have hp_58 : (r_57 = 1) ∨ (r_57 = 0) := hp_58
    rcases hp_58 with rfl | rfl
    · skip
      refine lv_if_eq (tgt := 37) hx hb dX10_reads_21 (by decide) (fun q => absurd q (by decide)) (fun _ => ?_)
      refine lv_aload_n hx hb dX10_reads_24 rfl (lv_at hl 0 rfl) ?_
      refine va_get (D := D) (ci := 9) (v := .ref r_21) (C := RX10) (T := TX10) (N := 36) hx hb hts in10 hown hK (va_one at_56) 0 rfl rfl 10 (by decide) (hts (.fieldLink RX10 28 "RiverModelModel" "m" "[J") (List.mem_of_getElem? (i := 8) rfl)) (fun _ h9 => h9) rfl dX10_reads_25 ?_
      refine lv_sipush (v := 231) hx hb dX10_reads_28 (by decide) ?_
      obtain ⟨f_61, at_62, h_63⟩ := mF_o47 hG h_22
      have b_64 : vp_in 231 280 := (q_in (by decide) (by decide))
      refine va_lald hx hb hK (va_one at_62) 0 1 rfl rfl b_64 dX10_reads_31 ?_
      refine lv_topl (fun z_65 e_66 => ?_)
      have i_z_65 : z_65.toInt = gH := by rw [e_66]; exact gHr_ld h_63 (by decide)
      refine lv_lconst (v := 0) hx hb dX10_reads_32 (by decide) ?_
      refine lv_pc (pc2 := 33) rfl ?_
      refine W.lcmp hx hb dX10_reads_33 ?_
      refine lv_if_ne (tgt := 43) hx hb dX10_reads_34 (by decide) (fun c_67 => ?_) (fun c_67 => ?_)
      · skip
        have c_67 : z_65.toInt ≠ 0 := q_cmp_ne c_67
        refine lv_aload_n hx hb dX10_reads_43 rfl (lv_at hl 0 rfl) ?_
        refine lv_iload_n hx hb dX10_reads_44 rfl (lv_at hl 1 rfl) ?_
        refine ty_calll (W.runV (As := [.int a1]) (rest := []) ⟨hx, hb, hml, hown, hts⟩ (m_X10_reading l D t cI cL cC gC gE gW gA gT gI gS gM K F S N gH gJ ge gk gf gs gg gr RN a0 a1  uq (by omega) (by omega) k_a0) (cwV 1 hts gu_X10_reads_X10_reading_251 rfl rfl rfl (by decide +kernel) ⟨Nat.le_of_ble_eq_true rfl, Nat.le_of_ble_eq_true rfl⟩) (tP_V hG hE at_56 rfl) rfl rfl hl.1 rfl (lv_room (Nat.le_of_ble_eq_true rfl)) dX10_reads_45 ⟨Nat.le_of_ble_eq_true rfl, Nat.le_of_ble_eq_true rfl⟩) hS (fun _ h => h) (fun z_68 H locs hp_69 hG hS o_70 => ?_)
        have at_56 := va_at.keptC at_56 o_70 k_a0 rfl
        have at_62 := va_at.keptC at_62 o_70 h_22 rfl
        exact ty_lret hx hb hr hlk hG hS True.intro dX10_reads_48
      · skip
        have c_67 : z_65.toInt = 0 := by exact q_cmp_eq c_67
        refine lv_ldc2 hx hb hown (hts (.constantLong RX10 238 (-2)) (List.mem_of_getElem? (i := 12) rfl)) dX10_reads_37 ?_
        refine lv_goto (tgt := 48) hx hb dX10_reads_40 (by decide) ?_
        refine lv_pc (pc2 := 48) rfl ?_
        have zl_m2 : ((-2) : Int64).toInt = (-2) := by decide
        exact ty_lret hx hb hr hlk hG hS True.intro dX10_reads_48
    · skip
      refine lv_if_eq (tgt := 37) hx hb dX10_reads_21 (by decide) (fun _ => ?_) (fun q => absurd (by decide) q)
      refine lv_ldc2 hx hb hown (hts (.constantLong RX10 238 (-2)) (List.mem_of_getElem? (i := 12) rfl)) dX10_reads_37 ?_
      refine lv_goto (tgt := 48) hx hb dX10_reads_40 (by decide) ?_
      have zl_m2 : ((-2) : Int64).toInt = (-2) := by decide
      exact ty_lret hx hb hr hlk hG hS True.intro dX10_reads_48
  · skip
    refine lv_if_ne (tgt := 16) hx hb dX10_reads_9 (by decide) (fun q => absurd rfl q) (fun _ => ?_)
    refine lv_ldc2 hx hb hown (hts (.constantLong RX10 236 (-1)) (List.mem_of_getElem? (i := 13) rfl)) dX10_reads_12 ?_
    have zl_m1 : ((-1) : Int64).toInt = (-1) := by decide
    exact ty_lret hx hb hr hlk hG hS True.intro dX10_reads_15
