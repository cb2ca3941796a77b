theorem dX10_flow_0 : decode cX10_flow 0 = .ok (.iload_n 1, 1) := by decide +kernel
theorem dX10_flow_1 : decode cX10_flow 1 = .ok (.i2l, 1) := by decide +kernel
theorem dX10_flow_2 : decode cX10_flow 2 = .ok (.lconst 0, 1) := by decide +kernel
theorem dX10_flow_3 : decode cX10_flow 3 = .ok (.ldc2_w 194, 3) := by decide +kernel
theorem dX10_flow_6 : decode cX10_flow 6 = .ok (.invokestatic 85, 3) := by decide +kernel
theorem dX10_flow_9 : decode cX10_flow 9 = .ok (.ifCond .ne 7, 3) := by decide +kernel
theorem dX10_flow_12 : decode cX10_flow 12 = .ok (.ldc2_w 236, 3) := by decide +kernel
theorem dX10_flow_15 : decode cX10_flow 15 = .ok (.lreturn, 1) := by decide +kernel
theorem dX10_flow_16 : decode cX10_flow 16 = .ok (.aload_n 0, 1) := by decide +kernel
theorem dX10_flow_17 : decode cX10_flow 17 = .ok (.getfield 173, 3) := by decide +kernel
theorem dX10_flow_20 : decode cX10_flow 20 = .ok (.ifCond .eq 24, 3) := by decide +kernel
theorem dX10_flow_23 : decode cX10_flow 23 = .ok (.iload_n 1, 1) := by decide +kernel
theorem dX10_flow_24 : decode cX10_flow 24 = .ok (.aload_n 0, 1) := by decide +kernel
theorem dX10_flow_25 : decode cX10_flow 25 = .ok (.getfield 163, 3) := by decide +kernel
theorem dX10_flow_28 : decode cX10_flow 28 = .ok (.if_icmp .ge 16, 3) := by decide +kernel
theorem dX10_flow_31 : decode cX10_flow 31 = .ok (.aload_n 0, 1) := by decide +kernel
theorem dX10_flow_32 : decode cX10_flow 32 = .ok (.getfield 28, 3) := by decide +kernel
theorem dX10_flow_35 : decode cX10_flow 35 = .ok (.sipush 231, 3) := by decide +kernel
theorem dX10_flow_38 : decode cX10_flow 38 = .ok (.laload, 1) := by decide +kernel
theorem dX10_flow_39 : decode cX10_flow 39 = .ok (.lconst 0, 1) := by decide +kernel
theorem dX10_flow_40 : decode cX10_flow 40 = .ok (.lcmp, 1) := by decide +kernel
theorem dX10_flow_41 : decode cX10_flow 41 = .ok (.ifCond .ne 9, 3) := by decide +kernel
theorem dX10_flow_44 : decode cX10_flow 44 = .ok (.ldc2_w 238, 3) := by decide +kernel
theorem dX10_flow_47 : decode cX10_flow 47 = .ok (.goto 13, 3) := by decide +kernel
theorem dX10_flow_50 : decode cX10_flow 50 = .ok (.aload_n 0, 1) := by decide +kernel
theorem dX10_flow_51 : decode cX10_flow 51 = .ok (.getfield 28, 3) := by decide +kernel
theorem dX10_flow_54 : decode cX10_flow 54 = .ok (.sipush 240, 3) := by decide +kernel
theorem dX10_flow_57 : decode cX10_flow 57 = .ok (.iload_n 1, 1) := by decide +kernel
theorem dX10_flow_58 : decode cX10_flow 58 = .ok (.iadd, 1) := by decide +kernel
theorem dX10_flow_59 : decode cX10_flow 59 = .ok (.laload, 1) := by decide +kernel
theorem dX10_flow_60 : decode cX10_flow 60 = .ok (.lreturn, 1) := by decide +kernel
theorem dX10_ofKind_0 : decode cX10_ofKind 0 = .ok (.iconst 0, 1) := by decide +kernel
theorem dX10_ofKind_1 : decode cX10_ofKind 1 = .ok (.istore_n 2, 1) := by decide +kernel
theorem dX10_ofKind_2 : decode cX10_ofKind 2 = .ok (.iconst 0, 1) := by decide +kernel
theorem dX10_ofKind_3 : decode cX10_ofKind 3 = .ok (.istore_n 3, 1) := by decide +kernel
theorem dX10_ofKind_4 : decode cX10_ofKind 4 = .ok (.iload_n 3, 1) := by decide +kernel
theorem dX10_ofKind_5 : decode cX10_ofKind 5 = .ok (.aload_n 0, 1) := by decide +kernel
theorem dX10_ofKind_6 : decode cX10_ofKind 6 = .ok (.getfield 163, 3) := by decide +kernel
theorem dX10_ofKind_9 : decode cX10_ofKind 9 = .ok (.if_icmp .ge 34, 3) := by decide +kernel
theorem dX10_ofKind_12 : decode cX10_ofKind 12 = .ok (.aload_n 0, 1) := by decide +kernel
theorem dX10_ofKind_13 : decode cX10_ofKind 13 = .ok (.getfield 173, 3) := by decide +kernel
theorem dX10_ofKind_16 : decode cX10_ofKind 16 = .ok (.ifCond .eq 27, 3) := by decide +kernel
theorem dX10_ofKind_19 : decode cX10_ofKind 19 = .ok (.iload_n 2, 1) := by decide +kernel
theorem dX10_ofKind_20 : decode cX10_ofKind 20 = .ok (.aload_n 0, 1) := by decide +kernel
theorem dX10_ofKind_21 : decode cX10_ofKind 21 = .ok (.getfield 13, 3) := by decide +kernel
theorem dX10_ofKind_24 : decode cX10_ofKind 24 = .ok (.iload_n 3, 1) := by decide +kernel
theorem dX10_ofKind_25 : decode cX10_ofKind 25 = .ok (.iaload, 1) := by decide +kernel
theorem dX10_ofKind_26 : decode cX10_ofKind 26 = .ok (.iload_n 1, 1) := by decide +kernel
theorem dX10_ofKind_27 : decode cX10_ofKind 27 = .ok (.if_icmp .ne 7, 3) := by decide +kernel
theorem dX10_ofKind_30 : decode cX10_ofKind 30 = .ok (.iconst 1, 1) := by decide +kernel
theorem dX10_ofKind_31 : decode cX10_ofKind 31 = .ok (.goto 4, 3) := by decide +kernel
theorem dX10_ofKind_34 : decode cX10_ofKind 34 = .ok (.iconst 0, 1) := by decide +kernel
theorem dX10_ofKind_35 : decode cX10_ofKind 35 = .ok (.iadd, 1) := by decide +kernel
theorem dX10_ofKind_36 : decode cX10_ofKind 36 = .ok (.istore_n 2, 1) := by decide +kernel
theorem dX10_ofKind_37 : decode cX10_ofKind 37 = .ok (.iinc 3 1, 3) := by decide +kernel
theorem dX10_ofKind_40 : decode cX10_ofKind 40 = .ok (.goto (-36), 3) := by decide +kernel
theorem dX10_ofKind_43 : decode cX10_ofKind 43 = .ok (.iload_n 2, 1) := by decide +kernel
theorem dX10_ofKind_44 : decode cX10_ofKind 44 = .ok (.ireturn, 1) := by decide +kernel
theorem dX10_gate_0 : decode cX10_gate 0 = .ok (.iload_n 1, 1) := by decide +kernel
theorem dX10_gate_1 : decode cX10_gate 1 = .ok (.i2l, 1) := by decide +kernel
theorem dX10_gate_2 : decode cX10_gate 2 = .ok (.lconst 0, 1) := by decide +kernel
theorem dX10_gate_3 : decode cX10_gate 3 = .ok (.ldc2_w 243, 3) := by decide +kernel
theorem dX10_gate_6 : decode cX10_gate 6 = .ok (.invokestatic 85, 3) := by decide +kernel
theorem dX10_gate_9 : decode cX10_gate 9 = .ok (.ifCond .eq 15, 3) := by decide +kernel
theorem dX10_gate_12 : decode cX10_gate 12 = .ok (.iload_n 2, 1) := by decide +kernel
theorem dX10_gate_13 : decode cX10_gate 13 = .ok (.i2l, 1) := by decide +kernel
theorem dX10_gate_14 : decode cX10_gate 14 = .ok (.lconst 0, 1) := by decide +kernel
theorem dX10_gate_15 : decode cX10_gate 15 = .ok (.ldc2_w 219, 3) := by decide +kernel
theorem dX10_gate_18 : decode cX10_gate 18 = .ok (.invokestatic 85, 3) := by decide +kernel
theorem dX10_gate_21 : decode cX10_gate 21 = .ok (.ifCond .ne 5, 3) := by decide +kernel
theorem dX10_gate_24 : decode cX10_gate 24 = .ok (.iconst (-1), 1) := by decide +kernel
theorem dX10_gate_25 : decode cX10_gate 25 = .ok (.ireturn, 1) := by decide +kernel
theorem dX10_gate_26 : decode cX10_gate 26 = .ok (.aload_n 0, 1) := by decide +kernel
theorem dX10_gate_27 : decode cX10_gate 27 = .ok (.getfield 173, 3) := by decide +kernel
theorem dX10_gate_30 : decode cX10_gate 30 = .ok (.ifCond .eq 13, 3) := by decide +kernel
theorem dX10_gate_33 : decode cX10_gate 33 = .ok (.iload_n 1, 1) := by decide +kernel
theorem dX10_gate_34 : decode cX10_gate 34 = .ok (.aload_n 0, 1) := by decide +kernel
theorem dX10_gate_35 : decode cX10_gate 35 = .ok (.bipush 103, 2) := by decide +kernel
theorem dX10_gate_37 : decode cX10_gate 37 = .ok (.invokevirtual 245, 3) := by decide +kernel
theorem dX10_gate_40 : decode cX10_gate 40 = .ok (.if_icmp .lt 6, 3) := by decide +kernel
theorem dX10_gate_43 : decode cX10_gate 43 = .ok (.bipush (-2), 2) := by decide +kernel
theorem dX10_gate_45 : decode cX10_gate 45 = .ok (.ireturn, 1) := by decide +kernel
theorem dX10_gate_46 : decode cX10_gate 46 = .ok (.aload_n 0, 1) := by decide +kernel
theorem dX10_gate_47 : decode cX10_gate 47 = .ok (.getfield 28, 3) := by decide +kernel
theorem dX10_gate_50 : decode cX10_gate 50 = .ok (.sipush 224, 3) := by decide +kernel
theorem dX10_gate_53 : decode cX10_gate 53 = .ok (.iload_n 1, 1) := by decide +kernel
theorem dX10_gate_54 : decode cX10_gate 54 = .ok (.iadd, 1) := by decide +kernel
theorem dX10_gate_55 : decode cX10_gate 55 = .ok (.laload, 1) := by decide +kernel
theorem dX10_gate_56 : decode cX10_gate 56 = .ok (.l2i, 1) := by decide +kernel
theorem dX10_gate_57 : decode cX10_gate 57 = .ok (.istore_n 3, 1) := by decide +kernel
theorem dX10_gate_58 : decode cX10_gate 58 = .ok (.aload_n 0, 1) := by decide +kernel
theorem dX10_gate_59 : decode cX10_gate 59 = .ok (.getfield 28, 3) := by decide +kernel
theorem dX10_gate_62 : decode cX10_gate 62 = .ok (.sipush 224, 3) := by decide +kernel
theorem dX10_gate_65 : decode cX10_gate 65 = .ok (.iload_n 1, 1) := by decide +kernel
theorem dX10_gate_66 : decode cX10_gate 66 = .ok (.iadd, 1) := by decide +kernel
theorem dX10_gate_67 : decode cX10_gate 67 = .ok (.iload_n 2, 1) := by decide +kernel
theorem dX10_gate_68 : decode cX10_gate 68 = .ok (.i2l, 1) := by decide +kernel
theorem dX10_gate_69 : decode cX10_gate 69 = .ok (.lastore, 1) := by decide +kernel
theorem dX10_gate_70 : decode cX10_gate 70 = .ok (.iload_n 3, 1) := by decide +kernel
theorem dX10_gate_71 : decode cX10_gate 71 = .ok (.ireturn, 1) := by decide +kernel
theorem dX10_book_0 : decode cX10_book 0 = .ok (.iload_n 1, 1) := by decide +kernel
theorem dX10_book_1 : decode cX10_book 1 = .ok (.i2l, 1) := by decide +kernel
theorem dX10_book_2 : decode cX10_book 2 = .ok (.lconst 0, 1) := by decide +kernel
theorem dX10_book_3 : decode cX10_book 3 = .ok (.ldc2_w 196, 3) := by decide +kernel
theorem dX10_book_6 : decode cX10_book 6 = .ok (.invokestatic 85, 3) := by decide +kernel
theorem dX10_book_9 : decode cX10_book 9 = .ok (.ifCond .ne 7, 3) := by decide +kernel
theorem dX10_book_12 : decode cX10_book 12 = .ok (.ldc2_w 236, 3) := by decide +kernel
theorem dX10_book_15 : decode cX10_book 15 = .ok (.lreturn, 1) := by decide +kernel
theorem dX10_book_16 : decode cX10_book 16 = .ok (.aload_n 0, 1) := by decide +kernel
theorem dX10_book_17 : decode cX10_book 17 = .ok (.getfield 173, 3) := by decide +kernel
theorem dX10_book_20 : decode cX10_book 20 = .ok (.ifCond .ne 7, 3) := by decide +kernel
theorem dX10_book_23 : decode cX10_book 23 = .ok (.ldc2_w 238, 3) := by decide +kernel
theorem dX10_book_26 : decode cX10_book 26 = .ok (.lreturn, 1) := by decide +kernel
theorem dX10_book_27 : decode cX10_book 27 = .ok (.lconst 0, 1) := by decide +kernel
theorem dX10_book_28 : decode cX10_book 28 = .ok (.lstore_n 2, 1) := by decide +kernel
theorem dX10_book_29 : decode cX10_book 29 = .ok (.lconst 0, 1) := by decide +kernel
theorem dX10_book_30 : decode cX10_book 30 = .ok (.lstore 4, 2) := by decide +kernel
theorem dX10_book_32 : decode cX10_book 32 = .ok (.lconst 0, 1) := by decide +kernel
theorem dX10_book_33 : decode cX10_book 33 = .ok (.lstore 6, 2) := by decide +kernel
theorem dX10_book_35 : decode cX10_book 35 = .ok (.iconst 0, 1) := by decide +kernel
theorem dX10_book_36 : decode cX10_book 36 = .ok (.istore 8, 2) := by decide +kernel
theorem dX10_book_38 : decode cX10_book 38 = .ok (.iload 8, 2) := by decide +kernel
theorem dX10_book_40 : decode cX10_book 40 = .ok (.bipush 16, 2) := by decide +kernel
theorem dX10_book_42 : decode cX10_book 42 = .ok (.if_icmp .ge 43, 3) := by decide +kernel
theorem dX10_book_45 : decode cX10_book 45 = .ok (.lload_n 2, 1) := by decide +kernel
theorem dX10_book_46 : decode cX10_book 46 = .ok (.aload_n 0, 1) := by decide +kernel
theorem dX10_book_47 : decode cX10_book 47 = .ok (.getfield 28, 3) := by decide +kernel
theorem dX10_book_50 : decode cX10_book 50 = .ok (.iload 8, 2) := by decide +kernel
theorem dX10_book_52 : decode cX10_book 52 = .ok (.laload, 1) := by decide +kernel
theorem dX10_book_53 : decode cX10_book 53 = .ok (.ladd, 1) := by decide +kernel
theorem dX10_book_54 : decode cX10_book 54 = .ok (.lstore_n 2, 1) := by decide +kernel
theorem dX10_book_55 : decode cX10_book 55 = .ok (.lload 4, 2) := by decide +kernel
theorem dX10_book_57 : decode cX10_book 57 = .ok (.aload_n 0, 1) := by decide +kernel
theorem dX10_book_58 : decode cX10_book 58 = .ok (.iload 8, 2) := by decide +kernel
theorem dX10_book_60 : decode cX10_book 60 = .ok (.invokevirtual 240, 3) := by decide +kernel
theorem dX10_book_63 : decode cX10_book 63 = .ok (.ladd, 1) := by decide +kernel
theorem dX10_book_64 : decode cX10_book 64 = .ok (.lstore 4, 2) := by decide +kernel
theorem dX10_book_66 : decode cX10_book 66 = .ok (.lload 6, 2) := by decide +kernel
theorem dX10_book_68 : decode cX10_book 68 = .ok (.aload_n 0, 1) := by decide +kernel
theorem dX10_book_69 : decode cX10_book 69 = .ok (.iconst 0, 1) := by decide +kernel
theorem dX10_book_70 : decode cX10_book 70 = .ok (.iload 8, 2) := by decide +kernel
theorem dX10_book_72 : decode cX10_book 72 = .ok (.invokevirtual 183, 3) := by decide +kernel
theorem dX10_book_75 : decode cX10_book 75 = .ok (.i2l, 1) := by decide +kernel
theorem dX10_book_76 : decode cX10_book 76 = .ok (.ladd, 1) := by decide +kernel
theorem dX10_book_77 : decode cX10_book 77 = .ok (.lstore 6, 2) := by decide +kernel
theorem dX10_book_79 : decode cX10_book 79 = .ok (.iinc 8 1, 3) := by decide +kernel
theorem dX10_book_82 : decode cX10_book 82 = .ok (.goto (-44), 3) := by decide +kernel
theorem dX10_book_85 : decode cX10_book 85 = .ok (.iload_n 1, 1) := by decide +kernel
theorem dX10_book_86 : decode cX10_book 86 = .ok (.tableswitch 66 0 4 #[34, 43, 52, 61, 63], 34) := by decide +kernel
theorem dX10_book_120 : decode cX10_book 120 = .ok (.aload_n 0, 1) := by decide +kernel
theorem dX10_book_121 : decode cX10_book 121 = .ok (.getfield 28, 3) := by decide +kernel
theorem dX10_book_124 : decode cX10_book 124 = .ok (.sipush 230, 3) := by decide +kernel
theorem dX10_book_127 : decode cX10_book 127 = .ok (.laload, 1) := by decide +kernel
theorem dX10_book_128 : decode cX10_book 128 = .ok (.lreturn, 1) := by decide +kernel
theorem dX10_book_129 : decode cX10_book 129 = .ok (.aload_n 0, 1) := by decide +kernel
theorem dX10_book_130 : decode cX10_book 130 = .ok (.getfield 28, 3) := by decide +kernel
theorem dX10_book_133 : decode cX10_book 133 = .ok (.sipush 228, 3) := by decide +kernel
theorem dX10_book_136 : decode cX10_book 136 = .ok (.laload, 1) := by decide +kernel
theorem dX10_book_137 : decode cX10_book 137 = .ok (.lreturn, 1) := by decide +kernel
theorem dX10_book_138 : decode cX10_book 138 = .ok (.aload_n 0, 1) := by decide +kernel
theorem dX10_book_139 : decode cX10_book 139 = .ok (.getfield 28, 3) := by decide +kernel
theorem dX10_book_142 : decode cX10_book 142 = .ok (.sipush 229, 3) := by decide +kernel
theorem dX10_book_145 : decode cX10_book 145 = .ok (.laload, 1) := by decide +kernel
theorem dX10_book_146 : decode cX10_book 146 = .ok (.lreturn, 1) := by decide +kernel
theorem dX10_book_147 : decode cX10_book 147 = .ok (.lload_n 2, 1) := by decide +kernel
theorem dX10_book_148 : decode cX10_book 148 = .ok (.lreturn, 1) := by decide +kernel
theorem dX10_book_149 : decode cX10_book 149 = .ok (.lload 4, 2) := by decide +kernel
theorem dX10_book_151 : decode cX10_book 151 = .ok (.lreturn, 1) := by decide +kernel
theorem dX10_book_152 : decode cX10_book 152 = .ok (.lload 6, 2) := by decide +kernel
theorem dX10_book_154 : decode cX10_book 154 = .ok (.lreturn, 1) := by decide +kernel
theorem dX10_gauge_0 : decode cX10_gauge 0 = .ok (.iload_n 1, 1) := by decide +kernel
theorem dX10_gauge_1 : decode cX10_gauge 1 = .ok (.i2l, 1) := by decide +kernel
theorem dX10_gauge_2 : decode cX10_gauge 2 = .ok (.lconst 0, 1) := by decide +kernel
theorem dX10_gauge_3 : decode cX10_gauge 3 = .ok (.ldc2_w 243, 3) := by decide +kernel
theorem dX10_gauge_6 : decode cX10_gauge 6 = .ok (.invokestatic 85, 3) := by decide +kernel
theorem dX10_gauge_9 : decode cX10_gauge 9 = .ok (.ifCond .eq 35, 3) := by decide +kernel
theorem dX10_gauge_12 : decode cX10_gauge 12 = .ok (.iload_n 2, 1) := by decide +kernel
theorem dX10_gauge_13 : decode cX10_gauge 13 = .ok (.i2l, 1) := by decide +kernel
theorem dX10_gauge_14 : decode cX10_gauge 14 = .ok (.lconst 0, 1) := by decide +kernel
theorem dX10_gauge_15 : decode cX10_gauge 15 = .ok (.lconst 1, 1) := by decide +kernel
theorem dX10_gauge_16 : decode cX10_gauge 16 = .ok (.invokestatic 85, 3) := by decide +kernel
theorem dX10_gauge_19 : decode cX10_gauge 19 = .ok (.ifCond .eq 25, 3) := by decide +kernel
theorem dX10_gauge_22 : decode cX10_gauge 22 = .ok (.iload_n 3, 1) := by decide +kernel
theorem dX10_gauge_23 : decode cX10_gauge 23 = .ok (.i2l, 1) := by decide +kernel
theorem dX10_gauge_24 : decode cX10_gauge 24 = .ok (.lconst 0, 1) := by decide +kernel
theorem dX10_gauge_25 : decode cX10_gauge 25 = .ok (.iload_n 2, 1) := by decide +kernel
theorem dX10_gauge_26 : decode cX10_gauge 26 = .ok (.ifCond .ne 9, 3) := by decide +kernel
theorem dX10_gauge_29 : decode cX10_gauge 29 = .ok (.ldc2_w 194, 3) := by decide +kernel
theorem dX10_gauge_32 : decode cX10_gauge 32 = .ok (.goto 6, 3) := by decide +kernel
theorem dX10_gauge_35 : decode cX10_gauge 35 = .ok (.ldc2_w 234, 3) := by decide +kernel
theorem dX10_gauge_38 : decode cX10_gauge 38 = .ok (.invokestatic 85, 3) := by decide +kernel
theorem dX10_gauge_41 : decode cX10_gauge 41 = .ok (.ifCond .ne 5, 3) := by decide +kernel
theorem dX10_gauge_44 : decode cX10_gauge 44 = .ok (.iconst (-1), 1) := by decide +kernel
theorem dX10_gauge_45 : decode cX10_gauge 45 = .ok (.ireturn, 1) := by decide +kernel
theorem dX10_gauge_46 : decode cX10_gauge 46 = .ok (.aload_n 0, 1) := by decide +kernel
theorem dX10_gauge_47 : decode cX10_gauge 47 = .ok (.getfield 173, 3) := by decide +kernel
theorem dX10_gauge_50 : decode cX10_gauge 50 = .ok (.ifCond .eq 26, 3) := by decide +kernel
theorem dX10_gauge_53 : decode cX10_gauge 53 = .ok (.iload_n 2, 1) := by decide +kernel
theorem dX10_gauge_54 : decode cX10_gauge 54 = .ok (.ifCond .ne 14, 3) := by decide +kernel
theorem dX10_gauge_57 : decode cX10_gauge 57 = .ok (.iload_n 3, 1) := by decide +kernel
theorem dX10_gauge_58 : decode cX10_gauge 58 = .ok (.aload_n 0, 1) := by decide +kernel
theorem dX10_gauge_59 : decode cX10_gauge 59 = .ok (.getfield 163, 3) := by decide +kernel
theorem dX10_gauge_62 : decode cX10_gauge 62 = .ok (.if_icmp .lt 17, 3) := by decide +kernel
theorem dX10_gauge_65 : decode cX10_gauge 65 = .ok (.goto 11, 3) := by decide +kernel
theorem dX10_gauge_68 : decode cX10_gauge 68 = .ok (.aload_n 0, 1) := by decide +kernel
theorem dX10_gauge_69 : decode cX10_gauge 69 = .ok (.iload_n 3, 1) := by decide +kernel
theorem dX10_gauge_70 : decode cX10_gauge 70 = .ok (.invokevirtual 208, 3) := by decide +kernel
theorem dX10_gauge_73 : decode cX10_gauge 73 = .ok (.ifCond .ne 6, 3) := by decide +kernel
theorem dX10_gauge_76 : decode cX10_gauge 76 = .ok (.bipush (-2), 2) := by decide +kernel
theorem dX10_gauge_78 : decode cX10_gauge 78 = .ok (.ireturn, 1) := by decide +kernel
theorem dX10_gauge_79 : decode cX10_gauge 79 = .ok (.aload_n 0, 1) := by decide +kernel
theorem dX10_gauge_80 : decode cX10_gauge 80 = .ok (.getfield 38, 3) := by decide +kernel
theorem dX10_gauge_83 : decode cX10_gauge 83 = .ok (.iload_n 1, 1) := by decide +kernel
theorem dX10_gauge_84 : decode cX10_gauge 84 = .ok (.iload_n 2, 1) := by decide +kernel
theorem dX10_gauge_85 : decode cX10_gauge 85 = .ok (.iastore, 1) := by decide +kernel
theorem dX10_gauge_86 : decode cX10_gauge 86 = .ok (.aload_n 0, 1) := by decide +kernel
theorem dX10_gauge_87 : decode cX10_gauge 87 = .ok (.getfield 41, 3) := by decide +kernel
theorem dX10_gauge_90 : decode cX10_gauge 90 = .ok (.iload_n 1, 1) := by decide +kernel
theorem dX10_gauge_91 : decode cX10_gauge 91 = .ok (.iload_n 3, 1) := by decide +kernel
theorem dX10_gauge_92 : decode cX10_gauge 92 = .ok (.iastore, 1) := by decide +kernel
theorem dX10_gauge_93 : decode cX10_gauge 93 = .ok (.iconst 0, 1) := by decide +kernel
theorem dX10_gauge_94 : decode cX10_gauge 94 = .ok (.istore 4, 2) := by decide +kernel
theorem dX10_gauge_96 : decode cX10_gauge 96 = .ok (.iload 4, 2) := by decide +kernel
theorem dX10_gauge_98 : decode cX10_gauge 98 = .ok (.bipush 96, 2) := by decide +kernel
theorem dX10_gauge_100 : decode cX10_gauge 100 = .ok (.if_icmp .ge 22, 3) := by decide +kernel
theorem dX10_gauge_103 : decode cX10_gauge 103 = .ok (.aload_n 0, 1) := by decide +kernel
theorem dX10_gauge_104 : decode cX10_gauge 104 = .ok (.getfield 44, 3) := by decide +kernel
theorem dX10_gauge_107 : decode cX10_gauge 107 = .ok (.bipush 96, 2) := by decide +kernel
theorem dX10_gauge_109 : decode cX10_gauge 109 = .ok (.iload_n 1, 1) := by decide +kernel
theorem dX10_gauge_110 : decode cX10_gauge 110 = .ok (.imul, 1) := by decide +kernel
theorem dX10_gauge_111 : decode cX10_gauge 111 = .ok (.iload 4, 2) := by decide +kernel
theorem dX10_gauge_113 : decode cX10_gauge 113 = .ok (.iadd, 1) := by decide +kernel
theorem dX10_gauge_114 : decode cX10_gauge 114 = .ok (.iconst (-1), 1) := by decide +kernel
theorem dX10_gauge_115 : decode cX10_gauge 115 = .ok (.iastore, 1) := by decide +kernel
theorem dX10_gauge_116 : decode cX10_gauge 116 = .ok (.iinc 4 1, 3) := by decide +kernel
theorem dX10_gauge_119 : decode cX10_gauge 119 = .ok (.goto (-23), 3) := by decide +kernel
theorem dX10_gauge_122 : decode cX10_gauge 122 = .ok (.iconst 0, 1) := by decide +kernel
theorem dX10_gauge_123 : decode cX10_gauge 123 = .ok (.ireturn, 1) := by decide +kernel
theorem dX10_isSet_0 : decode cX10_isSet 0 = .ok (.aload_n 0, 1) := by decide +kernel
theorem dX10_isSet_1 : decode cX10_isSet 1 = .ok (.getfield 173, 3) := by decide +kernel
theorem dX10_isSet_4 : decode cX10_isSet 4 = .ok (.ifCond .eq 16, 3) := by decide +kernel
theorem dX10_isSet_7 : decode cX10_isSet 7 = .ok (.aload_n 0, 1) := by decide +kernel
theorem dX10_isSet_8 : decode cX10_isSet 8 = .ok (.getfield 38, 3) := by decide +kernel
theorem dX10_isSet_11 : decode cX10_isSet 11 = .ok (.iload_n 1, 1) := by decide +kernel
theorem dX10_isSet_12 : decode cX10_isSet 12 = .ok (.iaload, 1) := by decide +kernel
theorem dX10_isSet_13 : decode cX10_isSet 13 = .ok (.ifCond .lt 7, 3) := by decide +kernel
theorem dX10_isSet_16 : decode cX10_isSet 16 = .ok (.iconst 1, 1) := by decide +kernel
theorem dX10_isSet_17 : decode cX10_isSet 17 = .ok (.goto 4, 3) := by decide +kernel
theorem dX10_isSet_20 : decode cX10_isSet 20 = .ok (.iconst 0, 1) := by decide +kernel
theorem dX10_isSet_21 : decode cX10_isSet 21 = .ok (.ireturn, 1) := by decide +kernel
def uX10_flow : List Cond := .code yX10_flow cX10_flow 2 (some .long) :: ([.constantLong RX10 194 (39), .methodLink RX10 85 yX10_in, .static yX10_in, .initialized RX10, .fieldLink RX10 173 "RiverModelModel" "isBuilt" "Z", .constantLong RX10 238 (-2), .fieldLink RX10 163 "RiverModelModel" "items" "I", .fieldLink RX10 28 "RiverModelModel" "m" "[J", .constantLong RX10 236 (-1), .code yX10_in cX10_in 6 (some .boolean)] ++ wsX100)
set_option maxRecDepth 20000 in
theorem gu_X10_flow_X10_in_85 : GoodIn uX10_flow (va_wsS RX10 85 yX10_in uX10_in) := goodIn_r _ [2, 3, 4, 10] rfl (by decide +kernel)
set_option maxHeartbeats 4000000 in
set_option maxRecDepth 100000 in
theorem m_X10_flow (l : Launch) (D : va_G) (t : Nat → Nat) (cI cL cC : ClassId) (gC : Int32) (gE : Int32) (gW : Nat → Int32) (gA : Nat → Int32) (gT : Nat → Int32) (gI : Int32) (gS : Int32) (gM : Int32) (K : Nat → Int32) (F : Nat → Int32) (S : Nat → Int32) (N : Nat → Int32) (gH : Int) (gJ : Int) (ge : Int32) (gk : Int32) (gf : Int32) (gs : Int32) (gg : Int32) (gr : Int32) (RN : Nat → Int32) (gb : Int32) (rV : Nat → Int32) (rN : Nat → Int32) (a0 : Nat) (a1 : Int32) (uq : ∀ b c : Nat, t b = t c → t b ≠ 0 → b = c) (hC0 : 0 ≤ gC.toInt) (hC4 : gC.toInt ≤ 400) (hI0 : 0 ≤ gI.toInt) (hI4 : gI.toInt ≤ 40) (hH0 : 0 ≤ gH) (hH9 : gH ≤ 96) (hm0 : 0 ≤ gM.toInt) (hm3 : gM.toInt ≤ 3) (hO0 : okM K F S N 0 gI.toInt) (hW : swM gS K F S N gI.toInt) (hoR : othR gb gS gI K F) (k_a0 : t a0 = 40) : tM l yX10_flow uX10_flow 1 25 D (mF cI cL cC gC gE gW gA gT gI gS gM K F S N gH gJ ge gk gf gs gg gr RN gb rV rN) (mF cI cL cC gC gE gW gA gT gI gS gM K F S N gH gJ ge gk gf gs gg gr RN gb rV rN) t cI cL cC [.ref a0, .int a1] wr0 (pL (fun r => True)) := by
  refine tM.ofW (cc := cX10_flow) (maxL := 2) (ret := (some .long)) (by decide) rfl (Nat.le_of_ble_eq_true rfl) ?_
  intro p e s m below meth c hx hb hr hml hown hts hlk H locs hG hK hE hS ls hl
  have hl : lv_has ls 2 [(0, .ref a0), (1, .int a1)] := hl
  have in10 : ∀ w ∈ wsX100, w ∈ uX10_flow := fun w h => List.mem_cons_of_mem _ (List.mem_append_right _ h)
  refine lv_iload_n hx hb dX10_flow_0 rfl (lv_at hl 1 rfl) ?_
  refine lv_i2l (v := a1.toInt64) hx hb dX10_flow_1 rfl ?_
  refine lv_lconst (v := 0) hx hb dX10_flow_2 (by decide) ?_
  refine lv_ldc2 hx hb hown (hts (.constantLong RX10 194 (39)) (List.mem_of_getElem? (i := 1) rfl)) dX10_flow_3 ?_
  have zl_0 : (0 : Int64).toInt = 0 := by decide
  have zl_39 : (39 : Int64).toInt = 39 := by decide
  refine ty_calli (W.runS (As := [.long a1.toInt64, .long 0, .long 39]) (rest := []) ⟨hx, hb, hml, hown, hts⟩ (m_X10_in l D t cI cL cC gC gE gW gA gT gI gS gM K F S N gH gJ ge gk gf gs gg gr RN gb rV rN a1.toInt64 0 39 a1.toInt 0 39 uq (q_i2l _) (by decide) (by decide) ) (va_cwS 3 hts gu_X10_flow_X10_in_85 rfl rfl rfl (by decide +kernel) ⟨Nat.le_of_ble_eq_true rfl, Nat.le_of_ble_eq_true rfl⟩) (tP_S hG hE) rfl rfl hl.1 rfl (lv_room (Nat.le_of_ble_eq_true rfl)) dX10_flow_6 ⟨Nat.le_of_ble_eq_true rfl, Nat.le_of_ble_eq_true rfl⟩) hS (fun _ h => h) (fun r_1 H locs hp_2 hG hS o_3 => ?_)
  have hp_2 : (r_1 = 1 ∧ 0 ≤ a1.toInt ∧ a1.toInt ≤ 39) ∨ (r_1 = 0 ∧ (a1.toInt < 0 ∨ 39 < a1.toInt)) := hp_2
  rcases hp_2 with ⟨rfl, p_5, p_6⟩ | ⟨rfl, p_7⟩
  · skip
    refine lv_if_ne (tgt := 16) hx hb dX10_flow_9 (by decide) (fun _ => ?_) (fun q => absurd q (by decide))
    refine lv_aload_n hx hb dX10_flow_16 rfl (lv_at hl 0 rfl) ?_
    refine lv_pc (pc2 := 17) rfl ?_
    obtain ⟨r_8, r_10, r_12, r_14, r_16, r_18, r_20, r_22, r_24, r_26, r_28, r_30, r_32, r_34, r_36, r_38, r_40, r_42, r_44, r_46, r_48, r_50, v_52, r_53, at_55, h_9, h_11, h_13, h_15, h_17, h_19, h_21, h_23, h_25, h_27, h_29, h_31, h_33, h_35, h_37, h_39, h_41, h_43, h_45, h_47, h_49, h_51, h_54⟩ := mF_o40 hG k_a0
    refine va_get (D := D) (ci := 9) (v := .int gb) (C := RX10) (T := TX10) (N := 36) hx hb hts in10 hown hK (va_one at_55) 0 rfl rfl 2 (by decide) (hts (.fieldLink RX10 173 "RiverModelModel" "isBuilt" "Z") (List.mem_of_getElem? (i := 5) rfl)) (fun _ h9 => h9) rfl dX10_flow_17 ?_
    refine lv_if_eq (tgt := 44) hx hb dX10_flow_20 (by decide) (fun c_56 => ?_) (fun c_56 => ?_)
    · skip
      have c_56 : gb.toInt = 0 := q_eq c_56
      refine lv_ldc2 hx hb hown (hts (.constantLong RX10 238 (-2)) (List.mem_of_getElem? (i := 6) rfl)) dX10_flow_44 ?_
      refine lv_goto (tgt := 60) hx hb dX10_flow_47 (by decide) ?_
      have zl_m2 : ((-2) : Int64).toInt = (-2) := by decide
      exact ty_lret hx hb hr hlk hG hS True.intro dX10_flow_60
    · skip
      have c_56 : gb.toInt ≠ 0 := q_ne c_56
      refine lv_iload_n hx hb dX10_flow_23 rfl (lv_at hl 1 rfl) ?_
      refine lv_aload_n hx hb dX10_flow_24 rfl (lv_at hl 0 rfl) ?_
      refine va_get (D := D) (ci := 9) (v := .int gI) (C := RX10) (T := TX10) (N := 36) hx hb hts in10 hown hK (va_one at_55) 0 rfl rfl 3 (by decide) (hts (.fieldLink RX10 163 "RiverModelModel" "items" "I") (List.mem_of_getElem? (i := 7) rfl)) (fun _ h9 => h9) rfl dX10_flow_25 ?_
      refine lv_pc (pc2 := 28) rfl ?_
      refine lv_icmp_ge (tgt := 44) hx hb dX10_flow_28 (by decide) (fun c_57 => ?_) (fun c_57 => ?_)
      · skip
        have c_57 : gI.toInt ≤ a1.toInt := q_le c_57
        refine lv_ldc2 hx hb hown (hts (.constantLong RX10 238 (-2)) (List.mem_of_getElem? (i := 6) rfl)) dX10_flow_44 ?_
        refine lv_goto (tgt := 60) hx hb dX10_flow_47 (by decide) ?_
        have zl_m2 : ((-2) : Int64).toInt = (-2) := by decide
        exact ty_lret hx hb hr hlk hG hS True.intro dX10_flow_60
      · skip
        have c_57 : a1.toInt < gI.toInt := q_nle c_57
        refine lv_aload_n hx hb dX10_flow_31 rfl (lv_at hl 0 rfl) ?_
        refine va_get (D := D) (ci := 9) (v := .ref r_20) (C := RX10) (T := TX10) (N := 36) hx hb hts in10 hown hK (va_one at_55) 0 rfl rfl 10 (by decide) (hts (.fieldLink RX10 28 "RiverModelModel" "m" "[J") (List.mem_of_getElem? (i := 8) rfl)) (fun _ h9 => h9) rfl dX10_flow_32 ?_
        refine lv_sipush (v := 231) hx hb dX10_flow_35 (by decide) ?_
        obtain ⟨f_58, at_59, h_60⟩ := mF_o47 hG h_21
        have b_61 : vp_in 231 280 := (q_in (by decide) (by decide))
        refine va_lald hx hb hK (va_one at_59) 0 1 rfl rfl b_61 dX10_flow_38 ?_
        refine lv_topl (fun z_62 e_63 => ?_)
        have i_z_62 : z_62.toInt = gH := by rw [e_63]; exact gHr_ld h_60 (by decide)
        refine lv_pc (pc2 := 39) rfl ?_
        refine lv_lconst (v := 0) hx hb dX10_flow_39 (by decide) ?_
        refine W.lcmp hx hb dX10_flow_40 ?_
        refine lv_if_ne (tgt := 50) hx hb dX10_flow_41 (by decide) (fun c_64 => ?_) (fun c_64 => ?_)
        · skip
          have c_64 : z_62.toInt ≠ 0 := q_cmp_ne c_64
          refine lv_aload_n hx hb dX10_flow_50 rfl (lv_at hl 0 rfl) ?_
          refine va_get (D := D) (ci := 9) (v := .ref r_20) (C := RX10) (T := TX10) (N := 36) hx hb hts in10 hown hK (va_one at_55) 0 rfl rfl 10 (by decide) (hts (.fieldLink RX10 28 "RiverModelModel" "m" "[J") (List.mem_of_getElem? (i := 8) rfl)) (fun _ h9 => h9) rfl dX10_flow_51 ?_
          refine lv_sipush (v := 240) hx hb dX10_flow_54 (by decide) ?_
          refine lv_iload_n hx hb dX10_flow_57 rfl (lv_at hl 1 rfl) ?_
          refine lv_iadd hx hb dX10_flow_58 ?_
          refine lv_topi (fun x_65 e_66 => ?_)
          have i_x_65 : x_65.toInt = 240 + a1.toInt := by rw [e_66]; exact (q_add (by rw [show (240 : Int32).toInt = 240 by decide]; omega) (by rw [show (240 : Int32).toInt = 240 by decide]; omega)).trans (by rw [show (240 : Int32).toInt = 240 by decide])
          refine lv_pc (pc2 := 59) rfl ?_
          have b_67 : vp_in x_65 280 := (q_in (by omega) (by omega))
          refine va_lald hx hb hK (va_one at_59) 0 1 rfl rfl b_67 dX10_flow_59 ?_
          refine lv_topl (fun z_68 e_69 => ?_)
          exact ty_lret hx hb hr hlk hG hS True.intro dX10_flow_60
        · skip
          have c_64 : z_62.toInt = 0 := by exact q_cmp_eq c_64
          refine lv_ldc2 hx hb hown (hts (.constantLong RX10 238 (-2)) (List.mem_of_getElem? (i := 6) rfl)) dX10_flow_44 ?_
          refine lv_goto (tgt := 60) hx hb dX10_flow_47 (by decide) ?_
          have zl_m2 : ((-2) : Int64).toInt = (-2) := by decide
          exact ty_lret hx hb hr hlk hG hS True.intro dX10_flow_60
  · skip
    refine lv_if_ne (tgt := 16) hx hb dX10_flow_9 (by decide) (fun q => absurd rfl q) (fun _ => ?_)
    refine lv_ldc2 hx hb hown (hts (.constantLong RX10 236 (-1)) (List.mem_of_getElem? (i := 9) rfl)) dX10_flow_12 ?_
    have zl_m1 : ((-1) : Int64).toInt = (-1) := by decide
    exact ty_lret hx hb hr hlk hG hS True.intro dX10_flow_15

def uX10_ofKind : List Cond := .code yX10_ofKind cX10_ofKind 4 (some .int) :: ([.fieldLink RX10 163 "RiverModelModel" "items" "I", .fieldLink RX10 173 "RiverModelModel" "isBuilt" "Z", .fieldLink RX10 13 "RiverModelModel" "kind" "[I"] ++ wsX100)
set_option maxHeartbeats 4000000 in
set_option maxRecDepth 100000 in
theorem m_X10_ofKind (l : Launch) (D : va_G) (t : Nat → Nat) (cI cL cC : ClassId) (gC : Int32) (gE : Int32) (gW : Nat → Int32) (gA : Nat → Int32) (gT : Nat → Int32) (gI : Int32) (gS : Int32) (gM : Int32) (K : Nat → Int32) (F : Nat → Int32) (S : Nat → Int32) (N : Nat → Int32) (gH : Int) (gJ : Int) (ge : Int32) (gk : Int32) (gf : Int32) (gs : Int32) (gg : Int32) (gr : Int32) (RN : Nat → Int32) (gb : Int32) (rV : Nat → Int32) (rN : Nat → Int32) (a0 : Nat) (a1 : Int32) (uq : ∀ b c : Nat, t b = t c → t b ≠ 0 → b = c) (hI0 : 0 ≤ gI.toInt) (hI4 : gI.toInt ≤ 40) (k_a0 : t a0 = 40) : tM l yX10_ofKind uX10_ofKind 0 0 D (mF cI cL cC gC gE gW gA gT gI gS gM K F S N gH gJ ge gk gf gs gg gr RN gb rV rN) (mF cI cL cC gC gE gW gA gT gI gS gM K F S N gH gJ ge gk gf gs gg gr RN gb rV rN) t cI cL cC [.ref a0, .int a1] wr0 (pI (fun r => True)) := by
  refine tM.ofW (cc := cX10_ofKind) (maxL := 4) (ret := (some .int)) (by decide) rfl (Nat.le_of_ble_eq_true rfl) ?_
  intro p e s m below meth c hx hb hr hml hown hts hlk H locs hG hK hE hS ls hl
  have hl : lv_has ls 4 [(0, .ref a0), (1, .int a1)] := hl
  have in10 : ∀ w ∈ wsX100, w ∈ uX10_ofKind := fun w h => List.mem_cons_of_mem _ (List.mem_append_right _ h)
  refine lv_iconst (v := 0) hx hb dX10_ofKind_0 (by decide) ?_
  refine lv_istore_n (lv' := [(2, .int 0), (0, .ref a0), (1, .int a1)]) hx hb dX10_ofKind_1 rfl hl (by decide) rfl (fun ls hl => ?_)
  refine lv_iconst (v := 0) hx hb dX10_ofKind_2 (by decide) ?_
  refine lv_istore_n (lv' := [(3, .int 0), (2, .int 0), (0, .ref a0), (1, .int a1)]) hx hb dX10_ofKind_3 rfl hl (by decide) rfl (fun ls hl => ?_)
  refine lv_pc (pc2 := 4) rfl ?_
  refine lp_gen (fun WW1 hWW1 => ?_)
  have kx1 : ∀ (yi : Int32) (yn : Int32) (H1 : Heap) (locs1 : List Loc) (ls1 : Array Slot), (0 ≤ yi.toInt) → (yi.toInt ≤ gI.toInt) → tG D (mF cI cL cC gC gE gW gA gT gI gS gM K F S N gH gJ ge gk gf gs gg gr RN gb rV rN) t H1 → tF t wr0 s.heap H1 locs1 → lv_has ls1 4 [(3, .int yi), (2, .int yn), (0, .ref a0), (1, .int a1)] → WW1 H1 locs1 (F0 m 43 ls1 []) := by
    intro yi yn H locs ls v1_0 v1_1 hG hS hl
    refine (hWW1 _ _ _).mpr ?_
    refine lv_iload_n hx hb dX10_ofKind_43 rfl (lv_at hl 1 rfl) ?_
    exact ty_iret hx hb hr hlk hG hS True.intro dX10_ofKind_44
  have lp1 : ∀ (kk1 : Nat) (yi : Int32) (yn : Int32) (H1 : Heap) (locs1 : List Loc) (ls1 : Array Slot), gI.toInt - yi.toInt ≤ (kk1 : Int) → (0 ≤ yi.toInt) → (yi.toInt ≤ gI.toInt) → tG D (mF cI cL cC gC gE gW gA gT gI gS gM K F S N gH gJ ge gk gf gs gg gr RN gb rV rN) t H1 → tF t wr0 s.heap H1 locs1 → lv_has ls1 4 [(3, .int yi), (2, .int yn), (0, .ref a0), (1, .int a1)] → WW1 H1 locs1 (F0 m 4 ls1 []) := by
    intro kk1
    induction kk1 with
    | zero =>
      intro yi yn H locs ls hk1 v1_0 v1_1 hG hS hl
      refine (hWW1 _ _ _).mpr ?_
      refine lv_iload_n hx hb dX10_ofKind_4 rfl (lv_at hl 0 rfl) ?_
      refine lv_pc (pc2 := 5) rfl ?_
      refine lv_aload_n hx hb dX10_ofKind_5 rfl (lv_at hl 2 rfl) ?_
      obtain ⟨r_2, r_4, r_6, r_8, r_10, r_12, r_14, r_16, r_18, r_20, r_22, r_24, r_26, r_28, r_30, r_32, r_34, r_36, r_38, r_40, r_42, r_44, v_46, r_47, at_49, h_3, h_5, h_7, h_9, h_11, h_13, h_15, h_17, h_19, h_21, h_23, h_25, h_27, h_29, h_31, h_33, h_35, h_37, h_39, h_41, h_43, h_45, h_48⟩ := mF_o40 hG k_a0
      refine va_get (D := D) (ci := 9) (v := .int gI) (C := RX10) (T := TX10) (N := 36) hx hb hts in10 hown hK (va_one at_49) 0 rfl rfl 3 (by decide) (hts (.fieldLink RX10 163 "RiverModelModel" "items" "I") (List.mem_of_getElem? (i := 1) rfl)) (fun _ h9 => h9) rfl dX10_ofKind_6 ?_
      refine lv_icmp_ge (tgt := 43) hx hb dX10_ofKind_9 (by decide) (fun c_50 => ?_) (fun c_50 => ?_)
      · skip
        have c_50 : gI.toInt ≤ yi.toInt := q_le c_50
        exact (hWW1 _ _ _).mp (kx1 yi yn H locs ls v1_0 v1_1 hG hS (lv_sub hl [0, 1, 2, 3] rfl))
      · skip
        have c_50 : yi.toInt < gI.toInt := q_nle c_50
        exfalso; omega
    | succ kk1 ih1 =>
      intro yi yn H locs ls hk1 v1_0 v1_1 hG hS hl
      refine (hWW1 _ _ _).mpr ?_
      refine lv_iload_n hx hb dX10_ofKind_4 rfl (lv_at hl 0 rfl) ?_
      refine lv_aload_n hx hb dX10_ofKind_5 rfl (lv_at hl 2 rfl) ?_
      obtain ⟨r_51, r_53, r_55, r_57, r_59, r_61, r_63, r_65, r_67, r_69, r_71, r_73, r_75, r_77, r_79, r_81, r_83, r_85, r_87, r_89, r_91, r_93, v_95, r_96, at_98, h_52, h_54, h_56, h_58, h_60, h_62, h_64, h_66, h_68, h_70, h_72, h_74, h_76, h_78, h_80, h_82, h_84, h_86, h_88, h_90, h_92, h_94, h_97⟩ := mF_o40 hG k_a0
      refine va_get (D := D) (ci := 9) (v := .int gI) (C := RX10) (T := TX10) (N := 36) hx hb hts in10 hown hK (va_one at_98) 0 rfl rfl 3 (by decide) (hts (.fieldLink RX10 163 "RiverModelModel" "items" "I") (List.mem_of_getElem? (i := 1) rfl)) (fun _ h9 => h9) rfl dX10_ofKind_6 ?_
      refine lv_icmp_ge (tgt := 43) hx hb dX10_ofKind_9 (by decide) (fun c_99 => ?_) (fun c_99 => ?_)
      · skip
        have c_99 : gI.toInt ≤ yi.toInt := q_le c_99
        exact (hWW1 _ _ _).mp (kx1 yi yn H locs ls v1_0 v1_1 hG hS (lv_sub hl [0, 1, 2, 3] rfl))
      · skip
        have c_99 : yi.toInt < gI.toInt := q_nle c_99
        refine lv_aload_n hx hb dX10_ofKind_12 rfl (lv_at hl 2 rfl) ?_
        refine lv_pc (pc2 := 13) rfl ?_
        refine va_get (D := D) (ci := 9) (v := .int gb) (C := RX10) (T := TX10) (N := 36) hx hb hts in10 hown hK (va_one at_98) 0 rfl rfl 2 (by decide) (hts (.fieldLink RX10 173 "RiverModelModel" "isBuilt" "Z") (List.mem_of_getElem? (i := 2) rfl)) (fun _ h9 => h9) rfl dX10_ofKind_13 ?_
        refine lv_if_eq (tgt := 43) hx hb dX10_ofKind_16 (by decide) (fun c_100 => ?_) (fun c_100 => ?_)
        · skip
          have c_100 : gb.toInt = 0 := q_eq c_100
          exact (hWW1 _ _ _).mp (kx1 yi yn H locs ls v1_0 v1_1 hG hS (lv_sub hl [0, 1, 2, 3] rfl))
        · skip
          have c_100 : gb.toInt ≠ 0 := q_ne c_100
          refine lv_iload_n hx hb dX10_ofKind_19 rfl (lv_at hl 1 rfl) ?_
          refine lv_aload_n hx hb dX10_ofKind_20 rfl (lv_at hl 2 rfl) ?_
          refine va_get (D := D) (ci := 9) (v := .ref r_53) (C := RX10) (T := TX10) (N := 36) hx hb hts in10 hown hK (va_one at_98) 0 rfl rfl 4 (by decide) (hts (.fieldLink RX10 13 "RiverModelModel" "kind" "[I") (List.mem_of_getElem? (i := 3) rfl)) (fun _ h9 => h9) rfl dX10_ofKind_21 ?_
          refine lv_iload_n hx hb dX10_ofKind_24 rfl (lv_at hl 0 rfl) ?_
          have at_101 := mF_o42 hG h_54
          have b_102 : vp_in yi 120 := (q_in (by omega) (by omega))
          refine va_iald hx hb hK (va_one at_101) 0 0 rfl rfl b_102 dX10_ofKind_25 ?_
          refine lv_topi (fun x_103 e_104 => ?_)
          have w_x_103 : x_103 = K (yi.toInt).toNat := by rw [e_104]; exact congrArg (fun q : Int => K q.toNat) (show yi.toInt = yi.toInt by omega)
          have i_x_103 : x_103.toInt = (K (yi.toInt).toNat).toInt := by rw [w_x_103]
          refine lv_iload_n hx hb dX10_ofKind_26 rfl (lv_at hl 3 rfl) ?_
          refine lv_pc (pc2 := 27) rfl ?_
          refine lv_icmp_ne (tgt := 34) hx hb dX10_ofKind_27 (by decide) (fun c_105 => ?_) (fun c_105 => ?_)
          · skip
            have c_105 : x_103.toInt ≠ a1.toInt := q_ne c_105
            refine lv_iconst (v := 0) hx hb dX10_ofKind_34 (by decide) ?_
            refine lv_iadd hx hb dX10_ofKind_35 ?_
            refine lv_topi (fun x_106 e_107 => ?_)
            refine lv_istore_n (lv' := [(2, .int x_106), (3, .int yi), (0, .ref a0), (1, .int a1)]) hx hb dX10_ofKind_36 rfl hl (by decide) rfl (fun ls hl => ?_)
            obtain ⟨x_108, e_109⟩ : ∃ y : Int32, y = yi + Int32.ofInt 1 := ⟨_, rfl⟩
            have i_x_108 : x_108.toInt = yi.toInt + 1 := by rw [e_109, show Int32.ofInt 1 = 1 by decide]; exact (q_add (by rw [show (1 : Int32).toInt = 1 by decide]; omega) (by rw [show (1 : Int32).toInt = 1 by decide]; omega)).trans (by rw [show (1 : Int32).toInt = 1 by decide])
            refine lv_iinc (v := x_108) (lv' := [(3, .int x_108), (2, .int x_106), (0, .ref a0), (1, .int a1)]) hx hb dX10_ofKind_37 hl (k := 1) rfl e_109.symm (by decide) rfl (fun ls hl => ?_)
            refine lv_goto (tgt := 4) hx hb dX10_ofKind_40 (by decide) ?_
            exact (hWW1 _ _ _).mp (ih1 x_108 x_106 H locs ls (by omega) (by omega) (by omega) hG hS (lv_sub hl [0, 1, 2, 3] rfl))
          · skip
            have c_105 : x_103.toInt = a1.toInt := q_eq c_105
            refine lv_iconst (v := 1) hx hb dX10_ofKind_30 (by decide) ?_
            refine lv_goto (tgt := 35) hx hb dX10_ofKind_31 (by decide) ?_
            refine lv_pc (pc2 := 35) rfl ?_
            refine lv_iadd hx hb dX10_ofKind_35 ?_
            refine lv_topi (fun x_110 e_111 => ?_)
            refine lv_istore_n (lv' := [(2, .int x_110), (3, .int yi), (0, .ref a0), (1, .int a1)]) hx hb dX10_ofKind_36 rfl hl (by decide) rfl (fun ls hl => ?_)
            obtain ⟨x_112, e_113⟩ : ∃ y : Int32, y = yi + Int32.ofInt 1 := ⟨_, rfl⟩
            have i_x_112 : x_112.toInt = yi.toInt + 1 := by rw [e_113, show Int32.ofInt 1 = 1 by decide]; exact (q_add (by rw [show (1 : Int32).toInt = 1 by decide]; omega) (by rw [show (1 : Int32).toInt = 1 by decide]; omega)).trans (by rw [show (1 : Int32).toInt = 1 by decide])
            refine lv_iinc (v := x_112) (lv' := [(3, .int x_112), (2, .int x_110), (0, .ref a0), (1, .int a1)]) hx hb dX10_ofKind_37 hl (k := 1) rfl e_113.symm (by decide) rfl (fun ls hl => ?_)
            refine lv_goto (tgt := 4) hx hb dX10_ofKind_40 (by decide) ?_
            exact (hWW1 _ _ _).mp (ih1 x_112 x_110 H locs ls (by omega) (by omega) (by omega) hG hS (lv_sub hl [0, 1, 2, 3] rfl))
  have zi_0 : (0 : Int32).toInt = 0 := by decide
  exact lp1 (gI.toInt - (0 : Int32).toInt : Int).toNat 0 0 H locs ls (by omega) (by omega) (by omega) hG hS (lv_sub hl [0, 1, 2, 3] rfl)

def uX10_gate : List Cond := .code yX10_gate cX10_gate 4 (some .int) :: ([.constantLong RX10 243 (3), .methodLink RX10 85 yX10_in, .static yX10_in, .initialized RX10, .constantLong RX10 219 (10), .fieldLink RX10 173 "RiverModelModel" "isBuilt" "Z", .methodLink RX10 245 yX10_ofKind, .instanceMethod yX10_ofKind, .selects RX10 yX10_ofKind yX10_ofKind, .fieldLink RX10 28 "RiverModelModel" "m" "[J", .code yX10_in cX10_in 6 (some .boolean), .code yX10_ofKind cX10_ofKind 4 (some .int), .fieldLink RX10 163 "RiverModelModel" "items" "I", .fieldLink RX10 13 "RiverModelModel" "kind" "[I"] ++ wsX100)
set_option maxRecDepth 20000 in
theorem gu_X10_gate_X10_in_85 : GoodIn uX10_gate (va_wsS RX10 85 yX10_in uX10_in) := goodIn_r _ [2, 3, 4, 11] rfl (by decide +kernel)
set_option maxRecDepth 20000 in
theorem gu_X10_gate_X10_ofKind_245 : GoodIn uX10_gate (wsV RX10 245 RX10 yX10_ofKind uX10_ofKind) := goodIn_r _ [7, 8, 9, 4, 12, 13, 6, 14, 15, 16, 17, 18, 19, 20, 21, 22, 23, 24, 25, 26, 27, 28, 29, 30, 31, 32, 33, 34, 35, 36, 37, 38, 39, 40, 41, 42, 43, 44, 45, 46, 47, 48, 49, 50] rfl (by decide +kernel)
set_option maxHeartbeats 4000000 in
set_option maxRecDepth 100000 in
theorem m_X10_gate (l : Launch) (D : va_G) (t : Nat → Nat) (cI cL cC : ClassId) (gC : Int32) (gE : Int32) (gW : Nat → Int32) (gA : Nat → Int32) (gT : Nat → Int32) (gI : Int32) (gS : Int32) (gM : Int32) (K : Nat → Int32) (F : Nat → Int32) (S : Nat → Int32) (N : Nat → Int32) (gH : Int) (gJ : Int) (ge : Int32) (gk : Int32) (gf : Int32) (gs : Int32) (gg : Int32) (gr : Int32) (RN : Nat → Int32) (gb : Int32) (rV : Nat → Int32) (rN : Nat → Int32) (a0 : Nat) (a1 : Int32) (a2 : Int32) (uq : ∀ b c : Nat, t b = t c → t b ≠ 0 → b = c) (hC0 : 0 ≤ gC.toInt) (hC4 : gC.toInt ≤ 400) (hI0 : 0 ≤ gI.toInt) (hI4 : gI.toInt ≤ 40) (hH0 : 0 ≤ gH) (hH9 : gH ≤ 96) (hm0 : 0 ≤ gM.toInt) (hm3 : gM.toInt ≤ 3) (hO0 : okM K F S N 0 gI.toInt) (hW : swM gS K F S N gI.toInt) (hoR : othR gb gS gI K F) (k_a0 : t a0 = 40) : tM l yX10_gate uX10_gate 1 25 D (mF cI cL cC gC gE gW gA gT gI gS gM K F S N gH gJ ge gk gf gs gg gr RN gb rV rN) (mF cI cL cC gC gE gW gA gT gI gS gM K F S N gH gJ ge gk gf gs gg gr RN gb rV rN) t cI cL cC [.ref a0, .int a1, .int a2] wm (pI (fun r => True)) := by
  refine tM.ofW (cc := cX10_gate) (maxL := 4) (ret := (some .int)) (by decide) rfl (Nat.le_of_ble_eq_true rfl) ?_
  intro p e s m below meth c hx hb hr hml hown hts hlk H locs hG hK hE hS ls hl
  have hl : lv_has ls 4 [(0, .ref a0), (1, .int a1), (2, .int a2)] := hl
  have in10 : ∀ w ∈ wsX100, w ∈ uX10_gate := fun w h => List.mem_cons_of_mem _ (List.mem_append_right _ h)
  refine lv_iload_n hx hb dX10_gate_0 rfl (lv_at hl 1 rfl) ?_
  refine lv_i2l (v := a1.toInt64) hx hb dX10_gate_1 rfl ?_
  refine lv_lconst (v := 0) hx hb dX10_gate_2 (by decide) ?_
  refine lv_ldc2 hx hb hown (hts (.constantLong RX10 243 (3)) (List.mem_of_getElem? (i := 1) rfl)) dX10_gate_3 ?_
  have zl_0 : (0 : Int64).toInt = 0 := by decide
  have zl_3 : (3 : Int64).toInt = 3 := by decide
  refine ty_calli (W.runS (As := [.long a1.toInt64, .long 0, .long 3]) (rest := []) ⟨hx, hb, hml, hown, hts⟩ (m_X10_in l D t cI cL cC gC gE gW gA gT gI gS gM K F S N gH gJ ge gk gf gs gg gr RN gb rV rN a1.toInt64 0 3 a1.toInt 0 3 uq (q_i2l _) (by decide) (by decide) ) (va_cwS 3 hts gu_X10_gate_X10_in_85 rfl rfl rfl (by decide +kernel) ⟨Nat.le_of_ble_eq_true rfl, Nat.le_of_ble_eq_true rfl⟩) (tP_S hG hE) rfl rfl hl.1 rfl (lv_room (Nat.le_of_ble_eq_true rfl)) dX10_gate_6 ⟨Nat.le_of_ble_eq_true rfl, Nat.le_of_ble_eq_true rfl⟩) hS (fun k h => by simp [wr0] at h) (fun r_1 H locs hp_2 hG hS o_3 => ?_)
  have hp_2 : (r_1 = 1 ∧ 0 ≤ a1.toInt ∧ a1.toInt ≤ 3) ∨ (r_1 = 0 ∧ (a1.toInt < 0 ∨ 3 < a1.toInt)) := hp_2
  rcases hp_2 with ⟨rfl, p_5, p_6⟩ | ⟨rfl, p_7⟩
  · skip
    refine lv_if_eq (tgt := 24) hx hb dX10_gate_9 (by decide) (fun q => absurd q (by decide)) (fun _ => ?_)
    refine lv_iload_n hx hb dX10_gate_12 rfl (lv_at hl 2 rfl) ?_
    refine lv_pc (pc2 := 13) rfl ?_
    refine lv_i2l (v := a2.toInt64) hx hb dX10_gate_13 rfl ?_
    refine lv_lconst (v := 0) hx hb dX10_gate_14 (by decide) ?_
    refine lv_ldc2 hx hb hown (hts (.constantLong RX10 219 (10)) (List.mem_of_getElem? (i := 5) rfl)) dX10_gate_15 ?_
    have zl_10 : (10 : Int64).toInt = 10 := by decide
    refine ty_calli (W.runS (As := [.long a2.toInt64, .long 0, .long 10]) (rest := []) ⟨hx, hb, hml, hown, hts⟩ (m_X10_in l D t cI cL cC gC gE gW gA gT gI gS gM K F S N gH gJ ge gk gf gs gg gr RN gb rV rN a2.toInt64 0 10 a2.toInt 0 10 uq (q_i2l _) (by decide) (by decide) ) (va_cwS 3 hts gu_X10_gate_X10_in_85 rfl rfl rfl (by decide +kernel) ⟨Nat.le_of_ble_eq_true rfl, Nat.le_of_ble_eq_true rfl⟩) (tP_S hG hE) rfl rfl hl.1 rfl (lv_room (Nat.le_of_ble_eq_true rfl)) dX10_gate_18 ⟨Nat.le_of_ble_eq_true rfl, Nat.le_of_ble_eq_true rfl⟩) hS (fun k h => by simp [wr0] at h) (fun r_8 H locs hp_9 hG hS o_10 => ?_)
    have hp_9 : (r_8 = 1 ∧ 0 ≤ a2.toInt ∧ a2.toInt ≤ 10) ∨ (r_8 = 0 ∧ (a2.toInt < 0 ∨ 10 < a2.toInt)) := hp_9
    rcases hp_9 with ⟨rfl, p_12, p_13⟩ | ⟨rfl, p_14⟩
    · skip
      refine lv_if_ne (tgt := 26) hx hb dX10_gate_21 (by decide) (fun _ => ?_) (fun q => absurd q (by decide))
      refine lv_aload_n hx hb dX10_gate_26 rfl (lv_at hl 0 rfl) ?_
      obtain ⟨r_15, r_17, r_19, r_21, r_23, r_25, r_27, r_29, r_31, r_33, r_35, r_37, r_39, r_41, r_43, r_45, r_47, r_49, r_51, r_53, r_55, r_57, v_59, r_60, at_62, h_16, h_18, h_20, h_22, h_24, h_26, h_28, h_30, h_32, h_34, h_36, h_38, h_40, h_42, h_44, h_46, h_48, h_50, h_52, h_54, h_56, h_58, h_61⟩ := mF_o40 hG k_a0
      refine va_get (D := D) (ci := 9) (v := .int gb) (C := RX10) (T := TX10) (N := 36) hx hb hts in10 hown hK (va_one at_62) 0 rfl rfl 2 (by decide) (hts (.fieldLink RX10 173 "RiverModelModel" "isBuilt" "Z") (List.mem_of_getElem? (i := 6) rfl)) (fun _ h9 => h9) rfl dX10_gate_27 ?_
      refine lv_if_eq (tgt := 43) hx hb dX10_gate_30 (by decide) (fun c_63 => ?_) (fun c_63 => ?_)
      · skip
        have c_63 : gb.toInt = 0 := q_eq c_63
        refine lv_pc (pc2 := 43) rfl ?_
        refine lv_bipush (v := (-2)) hx hb dX10_gate_43 (by decide) ?_
        have zi_m2 : ((-2) : Int32).toInt = (-2) := by decide
        exact ty_iret hx hb hr hlk hG hS True.intro dX10_gate_45
      · skip
        have c_63 : gb.toInt ≠ 0 := q_ne c_63
        refine lv_iload_n hx hb dX10_gate_33 rfl (lv_at hl 1 rfl) ?_
        refine lv_aload_n hx hb dX10_gate_34 rfl (lv_at hl 0 rfl) ?_
        refine lv_bipush (v := 103) hx hb dX10_gate_35 (by decide) ?_
        have zi_103 : (103 : Int32).toInt = 103 := by decide
        refine ty_calli (W.runV (As := [.int 103]) (rest := [.int a1]) ⟨hx, hb, hml, hown, hts⟩ (m_X10_ofKind l D t cI cL cC gC gE gW gA gT gI gS gM K F S N gH gJ ge gk gf gs gg gr RN gb rV rN a0 103  uq (by omega) (by omega) k_a0) (cwV 1 hts gu_X10_gate_X10_ofKind_245 rfl rfl rfl (by decide +kernel) ⟨Nat.le_of_ble_eq_true rfl, Nat.le_of_ble_eq_true rfl⟩) (tP_V hG hE at_62 rfl) rfl rfl hl.1 rfl (lv_room (Nat.le_of_ble_eq_true rfl)) dX10_gate_37 ⟨Nat.le_of_ble_eq_true rfl, Nat.le_of_ble_eq_true rfl⟩) hS (fun k h => by simp [wr0] at h) (fun r_64 H locs hp_65 hG hS o_66 => ?_)
        have at_62 := va_at.keptC at_62 o_66 k_a0 rfl
        refine lv_icmp_lt (tgt := 46) hx hb dX10_gate_40 (by decide) (fun c_68 => ?_) (fun c_68 => ?_)
        · skip
          have c_68 : a1.toInt < r_64.toInt := q_lt c_68
          refine lv_aload_n hx hb dX10_gate_46 rfl (lv_at hl 0 rfl) ?_
          refine lv_pc (pc2 := 47) rfl ?_
          refine va_get (D := D) (ci := 9) (v := .ref r_27) (C := RX10) (T := TX10) (N := 36) hx hb hts in10 hown hK (va_one at_62) 0 rfl rfl 10 (by decide) (hts (.fieldLink RX10 28 "RiverModelModel" "m" "[J") (List.mem_of_getElem? (i := 10) rfl)) (fun _ h9 => h9) rfl dX10_gate_47 ?_
          refine lv_sipush (v := 224) hx hb dX10_gate_50 (by decide) ?_
          refine lv_iload_n hx hb dX10_gate_53 rfl (lv_at hl 1 rfl) ?_
          refine lv_iadd hx hb dX10_gate_54 ?_
          refine lv_topi (fun x_69 e_70 => ?_)
          have i_x_69 : x_69.toInt = 224 + a1.toInt := by rw [e_70]; exact (q_add (by rw [show (224 : Int32).toInt = 224 by decide]; omega) (by rw [show (224 : Int32).toInt = 224 by decide]; omega)).trans (by rw [show (224 : Int32).toInt = 224 by decide])
          obtain ⟨f_71, at_72, h_73⟩ := mF_o47 hG h_28
          have b_74 : vp_in x_69 280 := (q_in (by omega) (by omega))
          refine va_lald hx hb hK (va_one at_72) 0 1 rfl rfl b_74 dX10_gate_55 ?_
          refine lv_topl (fun z_75 e_76 => ?_)
          refine lv_l2i (v := z_75.toInt32) hx hb dX10_gate_56 rfl ?_
          refine lv_topi (fun x_77 e_78 => ?_)
          refine lv_istore_n (lv' := [(3, .int x_77), (0, .ref a0), (1, .int a1), (2, .int a2)]) hx hb dX10_gate_57 rfl hl (by decide) rfl (fun ls hl => ?_)
          refine lv_aload_n hx hb dX10_gate_58 rfl (lv_at hl 1 rfl) ?_
          refine lv_pc (pc2 := 59) rfl ?_
          refine va_get (D := D) (ci := 9) (v := .ref r_27) (C := RX10) (T := TX10) (N := 36) hx hb hts in10 hown hK (va_one at_62) 0 rfl rfl 10 (by decide) (hts (.fieldLink RX10 28 "RiverModelModel" "m" "[J") (List.mem_of_getElem? (i := 10) rfl)) (fun _ h9 => h9) rfl dX10_gate_59 ?_
          refine lv_sipush (v := 224) hx hb dX10_gate_62 (by decide) ?_
          refine lv_iload_n hx hb dX10_gate_65 rfl (lv_at hl 2 rfl) ?_
          refine lv_iadd hx hb dX10_gate_66 ?_
          refine lv_topi (fun x_79 e_80 => ?_)
          have i_x_79 : x_79.toInt = 224 + a1.toInt := by rw [e_80]; exact (q_add (by rw [show (224 : Int32).toInt = 224 by decide]; omega) (by rw [show (224 : Int32).toInt = 224 by decide]; omega)).trans (by rw [show (224 : Int32).toInt = 224 by decide])
          refine lv_iload_n hx hb dX10_gate_67 rfl (lv_at hl 3 rfl) ?_
          refine lv_i2l (v := a2.toInt64) hx hb dX10_gate_68 rfl ?_
          have b_81 : vp_in x_79 280 := (q_in (by omega) (by omega))
          refine ty_last (F2 := (mF cI cL cC gC gE gW gA gT gI gS gM K F S N gH gJ ge gk gf gs gg gr RN gb rV rN)) hx hb hK hG hS 1 at_72 (by rw [h_28]; rfl) rfl b_81 (by rw [h_28]; exact ⟨_, rfl, gHr_ne ⟨by omega, by omega⟩ h_73⟩) tFF dX10_gate_69 (fun H locs hG hS at_82 o_83 => ?_)
          have at_62 := va_at.keptK at_62 o_83 h_28 k_a0 rfl
          refine lv_iload_n hx hb dX10_gate_70 rfl (lv_at hl 0 rfl) ?_
          refine lv_pc (pc2 := 71) rfl ?_
          exact ty_iret hx hb hr hlk hG hS True.intro dX10_gate_71
        · skip
          have c_68 : r_64.toInt ≤ a1.toInt := q_nlt c_68
          refine lv_bipush (v := (-2)) hx hb dX10_gate_43 (by decide) ?_
          have zi_m2 : ((-2) : Int32).toInt = (-2) := by decide
          exact ty_iret hx hb hr hlk hG hS True.intro dX10_gate_45
    · skip
      refine lv_if_ne (tgt := 26) hx hb dX10_gate_21 (by decide) (fun q => absurd rfl q) (fun _ => ?_)
      refine lv_iconst (v := (-1)) hx hb dX10_gate_24 (by decide) ?_
      have zi_m1 : ((-1) : Int32).toInt = (-1) := by decide
      exact ty_iret hx hb hr hlk hG hS True.intro dX10_gate_25
  · skip
    refine lv_if_eq (tgt := 24) hx hb dX10_gate_9 (by decide) (fun _ => ?_) (fun q => absurd (by decide) q)
    refine lv_iconst (v := (-1)) hx hb dX10_gate_24 (by decide) ?_
    refine lv_pc (pc2 := 25) rfl ?_
    have zi_m1 : ((-1) : Int32).toInt = (-1) := by decide
    exact ty_iret hx hb hr hlk hG hS True.intro dX10_gate_25

def uX10_book : List Cond := .code yX10_book cX10_book 9 (some .long) :: ([.constantLong RX10 196 (5), .methodLink RX10 85 yX10_in, .static yX10_in, .initialized RX10, .fieldLink RX10 173 "RiverModelModel" "isBuilt" "Z", .fieldLink RX10 28 "RiverModelModel" "m" "[J", .methodLink RX10 240 yX10_wayTo, .instanceMethod yX10_wayTo, .selects RX10 yX10_wayTo yX10_wayTo, .methodLink RX10 183 yX10_startOf, .instanceMethod yX10_startOf, .selects RX10 yX10_startOf yX10_startOf, .constantLong RX10 238 (-2), .constantLong RX10 236 (-1), .code yX10_in cX10_in 6 (some .boolean), .code yX10_wayTo cX10_wayTo 5 (some .long), .code yX10_startOf cX10_startOf 4 (some .int), .methodLink RX10 166 yX10_storeAt, .instanceMethod yX10_storeAt, .selects RX10 yX10_storeAt yX10_storeAt, .fieldLink RX10 22 "RiverModelModel" "number" "[I", .code yX10_storeAt cX10_storeAt 5 (some .int), .fieldLink RX10 163 "RiverModelModel" "items" "I", .fieldLink RX10 13 "RiverModelModel" "kind" "[I", .fieldLink RX10 16 "RiverModelModel" "first" "[I"] ++ wsX100)
set_option maxRecDepth 20000 in
theorem gu_X10_book_X10_in_85 : GoodIn uX10_book (va_wsS RX10 85 yX10_in uX10_in) := goodIn_r _ [2, 3, 4, 15] rfl (by decide +kernel)
set_option maxRecDepth 20000 in
theorem gu_X10_book_X10_wayTo_240 : GoodIn uX10_book (wsV RX10 240 RX10 yX10_wayTo uX10_wayTo) := goodIn_r _ [7, 8, 9, 4, 16, 6, 26, 27, 28, 29, 30, 31, 32, 33, 34, 35, 36, 37, 38, 39, 40, 41, 42, 43, 44, 45, 46, 47, 48, 49, 50, 51, 52, 53, 54, 55, 56, 57, 58, 59, 60, 61] rfl (by decide +kernel)
set_option maxRecDepth 20000 in
theorem gu_X10_book_X10_startOf_183 : GoodIn uX10_book (wsV RX10 183 RX10 yX10_startOf uX10_startOf) := goodIn_r _ [10, 11, 12, 4, 17, 18, 19, 20, 4, 21, 22, 23, 24, 25, 26, 27, 28, 29, 30, 31, 32, 33, 34, 35, 36, 37, 38, 39, 40, 41, 42, 43, 44, 45, 46, 47, 48, 49, 50, 51, 52, 53, 54, 55, 56, 57, 58, 59, 60, 61] rfl (by decide +kernel)
set_option maxHeartbeats 4000000 in
set_option maxRecDepth 100000 in
theorem m_X10_book (l : Launch) (D : va_G) (t : Nat → Nat) (cI cL cC : ClassId) (gC : Int32) (gE : Int32) (gW : Nat → Int32) (gA : Nat → Int32) (gT : Nat → Int32) (gI : Int32) (gS : Int32) (gM : Int32) (K : Nat → Int32) (F : Nat → Int32) (S : Nat → Int32) (N : Nat → Int32) (gH : Int) (gJ : Int) (ge : Int32) (gk : Int32) (gf : Int32) (gs : Int32) (gg : Int32) (gr : Int32) (RN : Nat → Int32) (gb : Int32) (rV : Nat → Int32) (rN : Nat → Int32) (a0 : Nat) (a1 : Int32) (uq : ∀ b c : Nat, t b = t c → t b ≠ 0 → b = c) (hC0 : 0 ≤ gC.toInt) (hC4 : gC.toInt ≤ 400) (hI0 : 0 ≤ gI.toInt) (hI4 : gI.toInt ≤ 40) (hH0 : 0 ≤ gH) (hH9 : gH ≤ 96) (hm0 : 0 ≤ gM.toInt) (hm3 : gM.toInt ≤ 3) (hO0 : okM K F S N 0 gI.toInt) (hW : swM gS K F S N gI.toInt) (hoR : othR gb gS gI K F) (k_a0 : t a0 = 40) : tM l yX10_book uX10_book 2 47 D (mF cI cL cC gC gE gW gA gT gI gS gM K F S N gH gJ ge gk gf gs gg gr RN gb rV rN) (mF cI cL cC gC gE gW gA gT gI gS gM K F S N gH gJ ge gk gf gs gg gr RN gb rV rN) t cI cL cC [.ref a0, .int a1] wr0 (pL (fun r => True)) := by
  refine tM.ofW (cc := cX10_book) (maxL := 9) (ret := (some .long)) (by decide) rfl (Nat.le_of_ble_eq_true rfl) ?_
  intro p e s m below meth c hx hb hr hml hown hts hlk H locs hG hK hE hS ls hl
  have hl : lv_has ls 9 [(0, .ref a0), (1, .int a1)] := hl
  have in10 : ∀ w ∈ wsX100, w ∈ uX10_book := fun w h => List.mem_cons_of_mem _ (List.mem_append_right _ h)
  refine lv_iload_n hx hb dX10_book_0 rfl (lv_at hl 1 rfl) ?_
  refine lv_i2l (v := a1.toInt64) hx hb dX10_book_1 rfl ?_
  refine lv_lconst (v := 0) hx hb dX10_book_2 (by decide) ?_
  refine lv_ldc2 hx hb hown (hts (.constantLong RX10 196 (5)) (List.mem_of_getElem? (i := 1) rfl)) dX10_book_3 ?_
  have zl_0 : (0 : Int64).toInt = 0 := by decide
  have zl_5 : (5 : Int64).toInt = 5 := by decide
  refine ty_calli (W.runS (As := [.long a1.toInt64, .long 0, .long 5]) (rest := []) ⟨hx, hb, hml, hown, hts⟩ (m_X10_in l D t cI cL cC gC gE gW gA gT gI gS gM K F S N gH gJ ge gk gf gs gg gr RN gb rV rN a1.toInt64 0 5 a1.toInt 0 5 uq (q_i2l _) (by decide) (by decide) ) (va_cwS 3 hts gu_X10_book_X10_in_85 rfl rfl rfl (by decide +kernel) ⟨Nat.le_of_ble_eq_true rfl, Nat.le_of_ble_eq_true rfl⟩) (tP_S hG hE) rfl rfl hl.1 rfl (lv_room (Nat.le_of_ble_eq_true rfl)) dX10_book_6 ⟨Nat.le_of_ble_eq_true rfl, Nat.le_of_ble_eq_true rfl⟩) hS (fun _ h => h) (fun r_1 H locs hp_2 hG hS o_3 => ?_)
  have hp_2 : (r_1 = 1 ∧ 0 ≤ a1.toInt ∧ a1.toInt ≤ 5) ∨ (r_1 = 0 ∧ (a1.toInt < 0 ∨ 5 < a1.toInt)) := hp_2
  rcases hp_2 with ⟨rfl, p_5, p_6⟩ | ⟨rfl, p_7⟩
  · skip
    refine lv_if_ne (tgt := 16) hx hb dX10_book_9 (by decide) (fun _ => ?_) (fun q => absurd q (by decide))
    refine lv_aload_n hx hb dX10_book_16 rfl (lv_at hl 0 rfl) ?_
    refine lv_pc (pc2 := 17) rfl ?_
    obtain ⟨r_8, r_10, r_12, r_14, r_16, r_18, r_20, r_22, r_24, r_26, r_28, r_30, r_32, r_34, r_36, r_38, r_40, r_42, r_44, r_46, r_48, r_50, v_52, r_53, at_55, h_9, h_11, h_13, h_15, h_17, h_19, h_21, h_23, h_25, h_27, h_29, h_31, h_33, h_35, h_37, h_39, h_41, h_43, h_45, h_47, h_49, h_51, h_54⟩ := mF_o40 hG k_a0
    refine va_get (D := D) (ci := 9) (v := .int gb) (C := RX10) (T := TX10) (N := 36) hx hb hts in10 hown hK (va_one at_55) 0 rfl rfl 2 (by decide) (hts (.fieldLink RX10 173 "RiverModelModel" "isBuilt" "Z") (List.mem_of_getElem? (i := 5) rfl)) (fun _ h9 => h9) rfl dX10_book_17 ?_
    refine lv_if_ne (tgt := 27) hx hb dX10_book_20 (by decide) (fun c_56 => ?_) (fun c_56 => ?_)
    · skip
      have c_56 : gb.toInt ≠ 0 := q_ne c_56
      refine lv_lconst (v := 0) hx hb dX10_book_27 (by decide) ?_
      refine lv_lstore_n (lv' := [(2, .long 0), (0, .ref a0), (1, .int a1)]) hx hb dX10_book_28 rfl hl (by decide) rfl (fun ls hl => ?_)
      refine lv_lconst (v := 0) hx hb dX10_book_29 (by decide) ?_
      refine lv_lstore (lv' := [(4, .long 0), (2, .long 0), (0, .ref a0), (1, .int a1)]) hx hb dX10_book_30 hl (by decide) rfl (fun ls hl => ?_)
      refine lv_lconst (v := 0) hx hb dX10_book_32 (by decide) ?_
      refine lv_lstore (lv' := [(6, .long 0), (4, .long 0), (2, .long 0), (0, .ref a0), (1, .int a1)]) hx hb dX10_book_33 hl (by decide) rfl (fun ls hl => ?_)
      refine lv_pc (pc2 := 35) rfl ?_
      refine lv_iconst (v := 0) hx hb dX10_book_35 (by decide) ?_
      refine lv_istore (lv' := [(8, .int 0), (6, .long 0), (4, .long 0), (2, .long 0), (0, .ref a0), (1, .int a1)]) hx hb dX10_book_36 hl (by decide) rfl (fun ls hl => ?_)
      refine lv_pc (pc2 := 38) rfl ?_
      refine lp_gen (fun WW57 hWW57 => ?_)
      have kx57 : ∀ (yk : Int32) (ys : Int64) (yw : Int64) (ya : Int64) (H1 : Heap) (locs1 : List Loc) (ls1 : Array Slot), (0 ≤ yk.toInt) → (yk.toInt ≤ 16) → tG D (mF cI cL cC gC gE gW gA gT gI gS gM K F S N gH gJ ge gk gf gs gg gr RN gb rV rN) t H1 → tF t wr0 s.heap H1 locs1 → lv_has ls1 9 [(8, .int yk), (6, .long ys), (4, .long yw), (2, .long ya), (0, .ref a0), (1, .int a1)] → WW57 H1 locs1 (F0 m 85 ls1 []) := by
        intro yk ys yw ya H locs ls v57_0 v57_1 hG hS hl
        refine (hWW57 _ _ _).mpr ?_
        refine lv_iload_n hx hb dX10_book_85 rfl (lv_at hl 5 rfl) ?_
        by_cases k_58 : a1.toInt = 0
        · refine lv_tableIn (tgt := 120) hx hb dX10_book_86 (by rw [k_58]; decide) (by rw [k_58]; decide) (by rw [k_58]; rfl) (by decide) ?_
          refine lv_aload_n hx hb dX10_book_120 rfl (lv_at hl 4 rfl) ?_
          obtain ⟨r_59, r_61, r_63, r_65, r_67, r_69, r_71, r_73, r_75, r_77, r_79, r_81, r_83, r_85, r_87, r_89, r_91, r_93, r_95, r_97, r_99, r_101, v_103, r_104, at_106, h_60, h_62, h_64, h_66, h_68, h_70, h_72, h_74, h_76, h_78, h_80, h_82, h_84, h_86, h_88, h_90, h_92, h_94, h_96, h_98, h_100, h_102, h_105⟩ := mF_o40 hG k_a0
          refine va_get (D := D) (ci := 9) (v := .ref r_71) (C := RX10) (T := TX10) (N := 36) hx hb hts in10 hown hK (va_one at_106) 0 rfl rfl 10 (by decide) (hts (.fieldLink RX10 28 "RiverModelModel" "m" "[J") (List.mem_of_getElem? (i := 6) rfl)) (fun _ h9 => h9) rfl dX10_book_121 ?_
          refine lv_sipush (v := 230) hx hb dX10_book_124 (by decide) ?_
          obtain ⟨f_107, at_108, h_109⟩ := mF_o47 hG h_72
          have b_110 : vp_in 230 280 := (q_in (by decide) (by decide))
          refine va_lald hx hb hK (va_one at_108) 0 1 rfl rfl b_110 dX10_book_127 ?_
          refine lv_topl (fun z_111 e_112 => ?_)
          refine lv_pc (pc2 := 128) rfl ?_
          exact ty_lret hx hb hr hlk hG hS True.intro dX10_book_128
        by_cases k_113 : a1.toInt = 1
        · refine lv_tableIn (tgt := 129) hx hb dX10_book_86 (by rw [k_113]; decide) (by rw [k_113]; decide) (by rw [k_113]; rfl) (by decide) ?_
          refine lv_aload_n hx hb dX10_book_129 rfl (lv_at hl 4 rfl) ?_
          obtain ⟨r_114, r_116, r_118, r_120, r_122, r_124, r_126, r_128, r_130, r_132, r_134, r_136, r_138, r_140, r_142, r_144, r_146, r_148, r_150, r_152, r_154, r_156, v_158, r_159, at_161, h_115, h_117, h_119, h_121, h_123, h_125, h_127, h_129, h_131, h_133, h_135, h_137, h_139, h_141, h_143, h_145, h_147, h_149, h_151, h_153, h_155, h_157, h_160⟩ := mF_o40 hG k_a0
          refine va_get (D := D) (ci := 9) (v := .ref r_126) (C := RX10) (T := TX10) (N := 36) hx hb hts in10 hown hK (va_one at_161) 0 rfl rfl 10 (by decide) (hts (.fieldLink RX10 28 "RiverModelModel" "m" "[J") (List.mem_of_getElem? (i := 6) rfl)) (fun _ h9 => h9) rfl dX10_book_130 ?_
          refine lv_sipush (v := 228) hx hb dX10_book_133 (by decide) ?_
          obtain ⟨f_162, at_163, h_164⟩ := mF_o47 hG h_127
          have b_165 : vp_in 228 280 := (q_in (by decide) (by decide))
          refine va_lald hx hb hK (va_one at_163) 0 1 rfl rfl b_165 dX10_book_136 ?_
          refine lv_topl (fun z_166 e_167 => ?_)
          exact ty_lret hx hb hr hlk hG hS True.intro dX10_book_137
        by_cases k_168 : a1.toInt = 2
        · refine lv_tableIn (tgt := 138) hx hb dX10_book_86 (by rw [k_168]; decide) (by rw [k_168]; decide) (by rw [k_168]; rfl) (by decide) ?_
          refine lv_aload_n hx hb dX10_book_138 rfl (lv_at hl 4 rfl) ?_
          obtain ⟨r_169, r_171, r_173, r_175, r_177, r_179, r_181, r_183, r_185, r_187, r_189, r_191, r_193, r_195, r_197, r_199, r_201, r_203, r_205, r_207, r_209, r_211, v_213, r_214, at_216, h_170, h_172, h_174, h_176, h_178, h_180, h_182, h_184, h_186, h_188, h_190, h_192, h_194, h_196, h_198, h_200, h_202, h_204, h_206, h_208, h_210, h_212, h_215⟩ := mF_o40 hG k_a0
          refine va_get (D := D) (ci := 9) (v := .ref r_181) (C := RX10) (T := TX10) (N := 36) hx hb hts in10 hown hK (va_one at_216) 0 rfl rfl 10 (by decide) (hts (.fieldLink RX10 28 "RiverModelModel" "m" "[J") (List.mem_of_getElem? (i := 6) rfl)) (fun _ h9 => h9) rfl dX10_book_139 ?_
          refine lv_pc (pc2 := 142) rfl ?_
          refine lv_sipush (v := 229) hx hb dX10_book_142 (by decide) ?_
          obtain ⟨f_217, at_218, h_219⟩ := mF_o47 hG h_182
          have b_220 : vp_in 229 280 := (q_in (by decide) (by decide))
          refine va_lald hx hb hK (va_one at_218) 0 1 rfl rfl b_220 dX10_book_145 ?_
          refine lv_topl (fun z_221 e_222 => ?_)
          exact ty_lret hx hb hr hlk hG hS True.intro dX10_book_146
        by_cases k_223 : a1.toInt = 3
        · refine lv_tableIn (tgt := 147) hx hb dX10_book_86 (by rw [k_223]; decide) (by rw [k_223]; decide) (by rw [k_223]; rfl) (by decide) ?_
          refine lv_lload_n hx hb dX10_book_147 rfl (lv_at hl 3 rfl) ?_
          exact ty_lret hx hb hr hlk hG hS True.intro dX10_book_148
        by_cases k_224 : a1.toInt = 4
        · refine lv_tableIn (tgt := 149) hx hb dX10_book_86 (by rw [k_224]; decide) (by rw [k_224]; decide) (by rw [k_224]; rfl) (by decide) ?_
          refine lv_lload hx hb dX10_book_149 (lv_at hl 2 rfl) ?_
          exact ty_lret hx hb hr hlk hG hS True.intro dX10_book_151
        refine lv_tableOut (tgt := 152) hx hb dX10_book_86 (by omega) (by decide) ?_
        refine lv_lload hx hb dX10_book_152 (lv_at hl 1 rfl) ?_
        refine lv_pc (pc2 := 154) rfl ?_
        exact ty_lret hx hb hr hlk hG hS True.intro dX10_book_154
      have lp57 : ∀ (kk57 : Nat) (yk : Int32) (ys : Int64) (yw : Int64) (ya : Int64) (H1 : Heap) (locs1 : List Loc) (ls1 : Array Slot), 16 - yk.toInt ≤ (kk57 : Int) → (0 ≤ yk.toInt) → (yk.toInt ≤ 16) → tG D (mF cI cL cC gC gE gW gA gT gI gS gM K F S N gH gJ ge gk gf gs gg gr RN gb rV rN) t H1 → tF t wr0 s.heap H1 locs1 → lv_has ls1 9 [(8, .int yk), (6, .long ys), (4, .long yw), (2, .long ya), (0, .ref a0), (1, .int a1)] → WW57 H1 locs1 (F0 m 38 ls1 []) := by
        intro kk57
        induction kk57 with
        | zero =>
          intro yk ys yw ya H locs ls hk57 v57_0 v57_1 hG hS hl
          refine (hWW57 _ _ _).mpr ?_
          refine lv_iload hx hb dX10_book_38 (lv_at hl 0 rfl) ?_
          refine lv_bipush (v := 16) hx hb dX10_book_40 (by decide) ?_
          refine lv_icmp_ge (tgt := 85) hx hb dX10_book_42 (by decide) (fun c_225 => ?_) (fun c_225 => ?_)
          · skip
            have c_225 : 16 ≤ yk.toInt := q_le c_225
            exact (hWW57 _ _ _).mp (kx57 yk ys yw ya H locs ls v57_0 v57_1 hG hS (lv_sub hl [0, 1, 2, 3, 4, 5] rfl))
          · skip
            have c_225 : yk.toInt < 16 := q_nle c_225
            exfalso; omega
        | succ kk57 ih57 =>
          intro yk ys yw ya H locs ls hk57 v57_0 v57_1 hG hS hl
          refine (hWW57 _ _ _).mpr ?_
          refine lv_iload hx hb dX10_book_38 (lv_at hl 0 rfl) ?_
          refine lv_bipush (v := 16) hx hb dX10_book_40 (by decide) ?_
          refine lv_icmp_ge (tgt := 85) hx hb dX10_book_42 (by decide) (fun c_226 => ?_) (fun c_226 => ?_)
          · skip
            have c_226 : 16 ≤ yk.toInt := q_le c_226
            exact (hWW57 _ _ _).mp (kx57 yk ys yw ya H locs ls v57_0 v57_1 hG hS (lv_sub hl [0, 1, 2, 3, 4, 5] rfl))
          · skip
            have c_226 : yk.toInt < 16 := q_nle c_226
            refine lv_lload_n hx hb dX10_book_45 rfl (lv_at hl 3 rfl) ?_
            refine lv_pc (pc2 := 46) rfl ?_
            refine lv_aload_n hx hb dX10_book_46 rfl (lv_at hl 4 rfl) ?_
            obtain ⟨r_227, r_229, r_231, r_233, r_235, r_237, r_239, r_241, r_243, r_245, r_247, r_249, r_251, r_253, r_255, r_257, r_259, r_261, r_263, r_265, r_267, r_269, v_271, r_272, at_274, h_228, h_230, h_232, h_234, h_236, h_238, h_240, h_242, h_244, h_246, h_248, h_250, h_252, h_254, h_256, h_258, h_260, h_262, h_264, h_266, h_268, h_270, h_273⟩ := mF_o40 hG k_a0
            refine va_get (D := D) (ci := 9) (v := .ref r_239) (C := RX10) (T := TX10) (N := 36) hx hb hts in10 hown hK (va_one at_274) 0 rfl rfl 10 (by decide) (hts (.fieldLink RX10 28 "RiverModelModel" "m" "[J") (List.mem_of_getElem? (i := 6) rfl)) (fun _ h9 => h9) rfl dX10_book_47 ?_
            refine lv_iload hx hb dX10_book_50 (lv_at hl 0 rfl) ?_
            obtain ⟨f_275, at_276, h_277⟩ := mF_o47 hG h_240
            have b_278 : vp_in yk 280 := (q_in (by omega) (by omega))
            refine va_lald hx hb hK (va_one at_276) 0 1 rfl rfl b_278 dX10_book_52 ?_
            refine lv_topl (fun z_279 e_280 => ?_)
            refine lv_ladd hx hb dX10_book_53 ?_
            refine lv_topl (fun z_281 e_282 => ?_)
            refine lv_lstore_n (lv' := [(2, .long z_281), (8, .int yk), (6, .long ys), (4, .long yw), (0, .ref a0), (1, .int a1)]) hx hb dX10_book_54 rfl hl (by decide) rfl (fun ls hl => ?_)
            refine lv_lload hx hb dX10_book_55 (lv_at hl 3 rfl) ?_
            refine lv_aload_n hx hb dX10_book_57 rfl (lv_at hl 4 rfl) ?_
            refine lv_pc (pc2 := 58) rfl ?_
            refine lv_iload hx hb dX10_book_58 (lv_at hl 1 rfl) ?_
            refine ty_calll (W.runV (As := [.int yk]) (rest := [.long yw]) ⟨hx, hb, hml, hown, hts⟩ (m_X10_wayTo l D t cI cL cC gC gE gW gA gT gI gS gM K F S N gH gJ ge gk gf gs gg gr RN gb rV rN a0 yk  uq (by omega) (by omega) k_a0) (cwV 1 hts gu_X10_book_X10_wayTo_240 rfl rfl rfl (by decide +kernel) ⟨Nat.le_of_ble_eq_true rfl, Nat.le_of_ble_eq_true rfl⟩) (tP_V hG hE at_274 rfl) rfl rfl hl.1 rfl (lv_room (Nat.le_of_ble_eq_true rfl)) dX10_book_60 ⟨Nat.le_of_ble_eq_true rfl, Nat.le_of_ble_eq_true rfl⟩) hS (fun _ h => h) (fun z_283 H locs hp_284 hG hS o_285 => ?_)
            have at_274 := va_at.keptC at_274 o_285 k_a0 rfl
            have at_276 := va_at.keptC at_276 o_285 h_240 rfl
            refine lv_ladd hx hb dX10_book_63 ?_
            refine lv_topl (fun z_287 e_288 => ?_)
            refine lv_lstore (lv' := [(4, .long z_287), (2, .long z_281), (8, .int yk), (6, .long ys), (0, .ref a0), (1, .int a1)]) hx hb dX10_book_64 hl (by decide) rfl (fun ls hl => ?_)
            refine lv_lload hx hb dX10_book_66 (lv_at hl 3 rfl) ?_
            refine lv_aload_n hx hb dX10_book_68 rfl (lv_at hl 4 rfl) ?_
            refine lv_iconst (v := 0) hx hb dX10_book_69 (by decide) ?_
            refine lv_iload hx hb dX10_book_70 (lv_at hl 2 rfl) ?_
            refine lv_pc (pc2 := 72) rfl ?_
            have zi_0 : (0 : Int32).toInt = 0 := by decide
            refine ty_calli (W.runV (As := [.int 0, .int yk]) (rest := [.long ys]) ⟨hx, hb, hml, hown, hts⟩ (m_X10_startOf l D t cI cL cC gC gE gW gA gT gI gS gM K F S N gH gJ ge gk gf gs gg gr RN gb rV rN a0 0 yk 0 uq (by omega) (by omega) (by omega) (by omega) (by omega) k_a0) (cwV 2 hts gu_X10_book_X10_startOf_183 rfl rfl rfl (by decide +kernel) ⟨Nat.le_of_ble_eq_true rfl, Nat.le_of_ble_eq_true rfl⟩) (tP_V hG hE at_274 rfl) rfl rfl hl.1 rfl (lv_room (Nat.le_of_ble_eq_true rfl)) dX10_book_72 ⟨Nat.le_of_ble_eq_true rfl, Nat.le_of_ble_eq_true rfl⟩) hS (fun _ h => h) (fun r_289 H locs hp_290 hG hS o_291 => ?_)
            have at_274 := va_at.keptC at_274 o_291 k_a0 rfl
            have at_276 := va_at.keptC at_276 o_291 h_240 rfl
            refine lv_i2l (v := r_289.toInt64) hx hb dX10_book_75 rfl ?_
            refine lv_ladd hx hb dX10_book_76 ?_
            refine lv_topl (fun z_293 e_294 => ?_)
            refine lv_lstore (lv' := [(6, .long z_293), (4, .long z_287), (2, .long z_281), (8, .int yk), (0, .ref a0), (1, .int a1)]) hx hb dX10_book_77 hl (by decide) rfl (fun ls hl => ?_)
            obtain ⟨x_295, e_296⟩ : ∃ y : Int32, y = yk + Int32.ofInt 1 := ⟨_, rfl⟩
            have i_x_295 : x_295.toInt = yk.toInt + 1 := by rw [e_296, show Int32.ofInt 1 = 1 by decide]; exact (q_add (by rw [show (1 : Int32).toInt = 1 by decide]; omega) (by rw [show (1 : Int32).toInt = 1 by decide]; omega)).trans (by rw [show (1 : Int32).toInt = 1 by decide])
            refine lv_iinc (v := x_295) (lv' := [(8, .int x_295), (6, .long z_293), (4, .long z_287), (2, .long z_281), (0, .ref a0), (1, .int a1)]) hx hb dX10_book_79 hl (k := 3) rfl e_296.symm (by decide) rfl (fun ls hl => ?_)
            refine lv_goto (tgt := 38) hx hb dX10_book_82 (by decide) ?_
            exact (hWW57 _ _ _).mp (ih57 x_295 z_293 z_287 z_281 H locs ls (by omega) (by omega) (by omega) hG hS (lv_sub hl [0, 1, 2, 3, 4, 5] rfl))
      have zi_0 : (0 : Int32).toInt = 0 := by decide
      exact lp57 (16 - (0 : Int32).toInt : Int).toNat 0 0 0 0 H locs ls (by omega) (by omega) (by omega) hG hS (lv_sub hl [0, 1, 2, 3, 4, 5] rfl)
    · skip
      have c_56 : gb.toInt = 0 := q_eq c_56
      refine lv_ldc2 hx hb hown (hts (.constantLong RX10 238 (-2)) (List.mem_of_getElem? (i := 13) rfl)) dX10_book_23 ?_
      have zl_m2 : ((-2) : Int64).toInt = (-2) := by decide
      exact ty_lret hx hb hr hlk hG hS True.intro dX10_book_26
  · skip
    refine lv_pc (pc2 := 9) rfl ?_
    refine lv_if_ne (tgt := 16) hx hb dX10_book_9 (by decide) (fun q => absurd rfl q) (fun _ => ?_)
    refine lv_ldc2 hx hb hown (hts (.constantLong RX10 236 (-1)) (List.mem_of_getElem? (i := 14) rfl)) dX10_book_12 ?_
    have zl_m1 : ((-1) : Int64).toInt = (-1) := by decide
    exact ty_lret hx hb hr hlk hG hS True.intro dX10_book_15

def uX10_gauge : List Cond := .code yX10_gauge cX10_gauge 5 (some .int) :: ([.constantLong RX10 243 (3), .methodLink RX10 85 yX10_in, .static yX10_in, .initialized RX10, .constantLong RX10 234 (15), .fieldLink RX10 173 "RiverModelModel" "isBuilt" "Z", .methodLink RX10 208 yX10_isStore, .instanceMethod yX10_isStore, .selects RX10 yX10_isStore yX10_isStore, .fieldLink RX10 38 "RiverModelModel" "gaugeKind" "[I", .fieldLink RX10 41 "RiverModelModel" "gaugeAt" "[I", .fieldLink RX10 44 "RiverModelModel" "seen" "[I", .fieldLink RX10 163 "RiverModelModel" "items" "I", .constantLong RX10 194 (39), .code yX10_in cX10_in 6 (some .boolean), .code yX10_isStore cX10_isStore 2 (some .boolean), .methodLink RX10 166 yX10_storeAt, .instanceMethod yX10_storeAt, .selects RX10 yX10_storeAt yX10_storeAt, .code yX10_storeAt cX10_storeAt 5 (some .int), .fieldLink RX10 13 "RiverModelModel" "kind" "[I", .fieldLink RX10 16 "RiverModelModel" "first" "[I"] ++ wsX100)
set_option maxRecDepth 20000 in
theorem gu_X10_gauge_X10_in_85 : GoodIn uX10_gauge (va_wsS RX10 85 yX10_in uX10_in) := goodIn_r _ [2, 3, 4, 15] rfl (by decide +kernel)
set_option maxRecDepth 20000 in
theorem gu_X10_gauge_X10_isStore_208 : GoodIn uX10_gauge (wsV RX10 208 RX10 yX10_isStore uX10_isStore) := goodIn_r _ [7, 8, 9, 4, 16, 17, 18, 19, 4, 20, 13, 21, 22, 23, 24, 25, 26, 27, 28, 29, 30, 31, 32, 33, 34, 35, 36, 37, 38, 39, 40, 41, 42, 43, 44, 45, 46, 47, 48, 49, 50, 51, 52, 53, 54, 55, 56, 57, 58] rfl (by decide +kernel)
set_option maxHeartbeats 4000000 in
set_option maxRecDepth 100000 in
theorem m_X10_gauge (l : Launch) (D : va_G) (t : Nat → Nat) (cI cL cC : ClassId) (gC : Int32) (gE : Int32) (gW : Nat → Int32) (gA : Nat → Int32) (gT : Nat → Int32) (gI : Int32) (gS : Int32) (gM : Int32) (K : Nat → Int32) (F : Nat → Int32) (S : Nat → Int32) (N : Nat → Int32) (gH : Int) (gJ : Int) (ge : Int32) (gk : Int32) (gf : Int32) (gs : Int32) (gg : Int32) (gr : Int32) (RN : Nat → Int32) (gb : Int32) (rV : Nat → Int32) (rN : Nat → Int32) (a0 : Nat) (a1 : Int32) (a2 : Int32) (a3 : Int32) (uq : ∀ b c : Nat, t b = t c → t b ≠ 0 → b = c) (hC0 : 0 ≤ gC.toInt) (hC4 : gC.toInt ≤ 400) (hI0 : 0 ≤ gI.toInt) (hI4 : gI.toInt ≤ 40) (hH0 : 0 ≤ gH) (hH9 : gH ≤ 96) (hm0 : 0 ≤ gM.toInt) (hm3 : gM.toInt ≤ 3) (hO0 : okM K F S N 0 gI.toInt) (hW : swM gS K F S N gI.toInt) (hoR : othR gb gS gI K F) (k_a0 : t a0 = 40) : tMx (Z := (Nat → Int32) × (Nat → Int32)) l yX10_gauge uX10_gauge 2 45 D (mF cI cL cC gC gE gW gA gT gI gS gM K F S N gH gJ ge gk gf gs gg gr RN gb rV rN) (fun z => (mF cI cL cC gC gE gW gA gT gI gS gM K F S N gH gJ ge gk gf gs gg gr RN gb z.1 z.2)) t cI cL cC [.ref a0, .int a1, .int a2, .int a3] wG2 (xI (fun r (z : (Nat → Int32) × (Nat → Int32)) => (gauR (gb.toInt = 0 ∨ (a2.toInt = 0 ∧ gI.toInt ≤ a3.toInt) ∨ (a2.toInt ≠ 0 ∧ ¬ hasS K F 0 gI.toInt a3)) rV rN a1 a2 a3 r z.1 z.2))) := by
  refine tMx.ofW (cc := cX10_gauge) (maxL := 5) (ret := (some .int)) (by decide) rfl (Nat.le_of_ble_eq_true rfl) ?_
  intro p e s m below meth c hx hb hr hml hown hts hlk H locs hG hK hE hS ls hl
  have hl : lv_has ls 5 [(0, .ref a0), (1, .int a1), (2, .int a2), (3, .int a3)] := hl
  have in10 : ∀ w ∈ wsX100, w ∈ uX10_gauge := fun w h => List.mem_cons_of_mem _ (List.mem_append_right _ h)
  refine lv_iload_n hx hb dX10_gauge_0 rfl (lv_at hl 1 rfl) ?_
  refine lv_i2l (v := a1.toInt64) hx hb dX10_gauge_1 rfl ?_
  refine lv_lconst (v := 0) hx hb dX10_gauge_2 (by decide) ?_
  refine lv_ldc2 hx hb hown (hts (.constantLong RX10 243 (3)) (List.mem_of_getElem? (i := 1) rfl)) dX10_gauge_3 ?_
  have zl_0 : (0 : Int64).toInt = 0 := by decide
  have zl_3 : (3 : Int64).toInt = 3 := by decide
  refine ty_calli (W.runS (As := [.long a1.toInt64, .long 0, .long 3]) (rest := []) ⟨hx, hb, hml, hown, hts⟩ (m_X10_in l D t cI cL cC gC gE gW gA gT gI gS gM K F S N gH gJ ge gk gf gs gg gr RN gb rV rN a1.toInt64 0 3 a1.toInt 0 3 uq (q_i2l _) (by decide) (by decide) ) (va_cwS 3 hts gu_X10_gauge_X10_in_85 rfl rfl rfl (by decide +kernel) ⟨Nat.le_of_ble_eq_true rfl, Nat.le_of_ble_eq_true rfl⟩) (tP_S hG hE) rfl rfl hl.1 rfl (lv_room (Nat.le_of_ble_eq_true rfl)) dX10_gauge_6 ⟨Nat.le_of_ble_eq_true rfl, Nat.le_of_ble_eq_true rfl⟩) hS (fun k h => by simp [wr0] at h) (fun r_1 H locs hp_2 hG hS o_3 => ?_)
  have hp_2 : (r_1 = 1 ∧ 0 ≤ a1.toInt ∧ a1.toInt ≤ 3) ∨ (r_1 = 0 ∧ (a1.toInt < 0 ∨ 3 < a1.toInt)) := hp_2
  rcases hp_2 with ⟨rfl, p_5, p_6⟩ | ⟨rfl, p_7⟩
  · skip
    refine lv_if_eq (tgt := 44) hx hb dX10_gauge_9 (by decide) (fun q => absurd q (by decide)) (fun _ => ?_)
    refine lv_iload_n hx hb dX10_gauge_12 rfl (lv_at hl 2 rfl) ?_
    refine lv_pc (pc2 := 13) rfl ?_
    refine lv_i2l (v := a2.toInt64) hx hb dX10_gauge_13 rfl ?_
    refine lv_lconst (v := 0) hx hb dX10_gauge_14 (by decide) ?_
    refine lv_lconst (v := 1) hx hb dX10_gauge_15 (by decide) ?_
    have zl_1 : (1 : Int64).toInt = 1 := by decide
    refine ty_calli (W.runS (As := [.long a2.toInt64, .long 0, .long 1]) (rest := []) ⟨hx, hb, hml, hown, hts⟩ (m_X10_in l D t cI cL cC gC gE gW gA gT gI gS gM K F S N gH gJ ge gk gf gs gg gr RN gb rV rN a2.toInt64 0 1 a2.toInt 0 1 uq (q_i2l _) (by decide) (by decide) ) (va_cwS 3 hts gu_X10_gauge_X10_in_85 rfl rfl rfl (by decide +kernel) ⟨Nat.le_of_ble_eq_true rfl, Nat.le_of_ble_eq_true rfl⟩) (tP_S hG hE) rfl rfl hl.1 rfl (lv_room (Nat.le_of_ble_eq_true rfl)) dX10_gauge_16 ⟨Nat.le_of_ble_eq_true rfl, Nat.le_of_ble_eq_true rfl⟩) hS (fun k h => by simp [wr0] at h) (fun r_8 H locs hp_9 hG hS o_10 => ?_)
    have hp_9 : (r_8 = 1 ∧ 0 ≤ a2.toInt ∧ a2.toInt ≤ 1) ∨ (r_8 = 0 ∧ (a2.toInt < 0 ∨ 1 < a2.toInt)) := hp_9
    rcases hp_9 with ⟨rfl, p_12, p_13⟩ | ⟨rfl, p_14⟩
    · skip
      refine lv_if_eq (tgt := 44) hx hb dX10_gauge_19 (by decide) (fun q => absurd q (by decide)) (fun _ => ?_)
      refine lv_iload_n hx hb dX10_gauge_22 rfl (lv_at hl 3 rfl) ?_
      refine lv_i2l (v := a3.toInt64) hx hb dX10_gauge_23 rfl ?_
      refine lv_lconst (v := 0) hx hb dX10_gauge_24 (by decide) ?_
      refine lv_pc (pc2 := 25) rfl ?_
      refine lv_iload_n hx hb dX10_gauge_25 rfl (lv_at hl 2 rfl) ?_
      refine lv_if_ne (tgt := 35) hx hb dX10_gauge_26 (by decide) (fun c_15 => ?_) (fun c_15 => ?_)
      · skip
        have c_15 : a2.toInt ≠ 0 := q_ne c_15
        refine lv_ldc2 hx hb hown (hts (.constantLong RX10 234 (15)) (List.mem_of_getElem? (i := 5) rfl)) dX10_gauge_35 ?_
        have zl_15 : (15 : Int64).toInt = 15 := by decide
        refine ty_calli (W.runS (As := [.long a3.toInt64, .long 0, .long 15]) (rest := []) ⟨hx, hb, hml, hown, hts⟩ (m_X10_in l D t cI cL cC gC gE gW gA gT gI gS gM K F S N gH gJ ge gk gf gs gg gr RN gb rV rN a3.toInt64 0 15 a3.toInt 0 15 uq (q_i2l _) (by decide) (by decide) ) (va_cwS 3 hts gu_X10_gauge_X10_in_85 rfl rfl rfl (by decide +kernel) ⟨Nat.le_of_ble_eq_true rfl, Nat.le_of_ble_eq_true rfl⟩) (tP_S hG hE) rfl rfl hl.1 rfl (lv_room (Nat.le_of_ble_eq_true rfl)) dX10_gauge_38 ⟨Nat.le_of_ble_eq_true rfl, Nat.le_of_ble_eq_true rfl⟩) hS (fun k h => by simp [wr0] at h) (fun r_16 H locs hp_17 hG hS o_18 => ?_)
        have hp_17 : (r_16 = 1 ∧ 0 ≤ a3.toInt ∧ a3.toInt ≤ 15) ∨ (r_16 = 0 ∧ (a3.toInt < 0 ∨ 15 < a3.toInt)) := hp_17
        rcases hp_17 with ⟨rfl, p_20, p_21⟩ | ⟨rfl, p_22⟩
        · skip
          refine lv_if_ne (tgt := 46) hx hb dX10_gauge_41 (by decide) (fun _ => ?_) (fun q => absurd q (by decide))
          refine lv_aload_n hx hb dX10_gauge_46 rfl (lv_at hl 0 rfl) ?_
          obtain ⟨r_23, r_25, r_27, r_29, r_31, r_33, r_35, r_37, r_39, r_41, r_43, r_45, r_47, r_49, r_51, r_53, r_55, r_57, r_59, r_61, r_63, r_65, v_67, r_68, at_70, h_24, h_26, h_28, h_30, h_32, h_34, h_36, h_38, h_40, h_42, h_44, h_46, h_48, h_50, h_52, h_54, h_56, h_58, h_60, h_62, h_64, h_66, h_69⟩ := mF_o40 hG k_a0
          refine va_get (D := D) (ci := 9) (v := .int gb) (C := RX10) (T := TX10) (N := 36) hx hb hts in10 hown hK (va_one at_70) 0 rfl rfl 2 (by decide) (hts (.fieldLink RX10 173 "RiverModelModel" "isBuilt" "Z") (List.mem_of_getElem? (i := 6) rfl)) (fun _ h9 => h9) rfl dX10_gauge_47 ?_
          refine lv_if_eq (tgt := 76) hx hb dX10_gauge_50 (by decide) (fun c_71 => ?_) (fun c_71 => ?_)
          · skip
            have c_71 : gb.toInt = 0 := q_eq c_71
            refine lv_pc (pc2 := 76) rfl ?_
            refine lv_bipush (v := (-2)) hx hb dX10_gauge_76 (by decide) ?_
            have zi_m2 : ((-2) : Int32).toInt = (-2) := by decide
            exact tx_iret (z := (rV, rN)) hx hb hr hlk hG hS (by show gauR (gb.toInt = 0 ∨ (a2.toInt = 0 ∧ gI.toInt ≤ a3.toInt) ∨ (a2.toInt ≠ 0 ∧ ¬ hasS K F 0 gI.toInt a3)) rV rN a1 a2 a3 ((-2) : Int32) rV rN; exact Or.inr (Or.inl ⟨by unfold gaB; omega, by first | exact Or.inl (by omega) | exact Or.inr (Or.inl ⟨by omega, by omega⟩), by omega, rfl, rfl⟩)) dX10_gauge_78
          · skip
            have c_71 : gb.toInt ≠ 0 := q_ne c_71
            refine lv_iload_n hx hb dX10_gauge_53 rfl (lv_at hl 2 rfl) ?_
            refine lv_if_ne (tgt := 68) hx hb dX10_gauge_54 (by decide) (fun c_72 => ?_) (fun c_72 => ?_)
            · skip
              have c_72 : a2.toInt ≠ 0 := q_ne c_72
              refine lv_aload_n hx hb dX10_gauge_68 rfl (lv_at hl 0 rfl) ?_
              refine lv_iload_n hx hb dX10_gauge_69 rfl (lv_at hl 3 rfl) ?_
              refine ty_calli (W.runV (As := [.int a3]) (rest := []) ⟨hx, hb, hml, hown, hts⟩ (m_X10_isStore l D t cI cL cC gC gE gW gA gT gI gS gM K F S N gH gJ ge gk gf gs gg gr RN gb rV rN a0 a3  uq (by omega) (by omega) k_a0) (cwV 1 hts gu_X10_gauge_X10_isStore_208 rfl rfl rfl (by decide +kernel) ⟨Nat.le_of_ble_eq_true rfl, Nat.le_of_ble_eq_true rfl⟩) (tP_V hG hE at_70 rfl) rfl rfl hl.1 rfl (lv_room (Nat.le_of_ble_eq_true rfl)) dX10_gauge_70 ⟨Nat.le_of_ble_eq_true rfl, Nat.le_of_ble_eq_true rfl⟩) hS (fun k h => by simp [wr0] at h) (fun r_73 H locs hp_74 hG hS o_75 => ?_)
              have at_70 := va_at.keptC at_70 o_75 k_a0 rfl
              have hp_74 : (r_73 = 1 ∧ hasS K F 0 gI.toInt a3) ∨ (r_73 = 0 ∧ ¬ hasS K F 0 gI.toInt a3) := hp_74
              rcases hp_74 with ⟨rfl, p_77⟩ | ⟨rfl, p_78⟩
              · skip
                refine lv_if_ne (tgt := 79) hx hb dX10_gauge_73 (by decide) (fun _ => ?_) (fun q => absurd q (by decide))
                refine lv_pc (pc2 := 79) rfl ?_
                refine lv_aload_n hx hb dX10_gauge_79 rfl (lv_at hl 0 rfl) ?_
                refine va_get (D := D) (ci := 9) (v := .ref r_41) (C := RX10) (T := TX10) (N := 36) hx hb hts in10 hown hK (va_one at_70) 0 rfl rfl 14 (by decide) (hts (.fieldLink RX10 38 "RiverModelModel" "gaugeKind" "[I") (List.mem_of_getElem? (i := 10) rfl)) (fun _ h9 => h9) rfl dX10_gauge_80 ?_
                refine lv_iload_n hx hb dX10_gauge_83 rfl (lv_at hl 1 rfl) ?_
                refine lv_iload_n hx hb dX10_gauge_84 rfl (lv_at hl 2 rfl) ?_
                have at_79 := mF_o50 hG h_42
                have b_80 : vp_in a1 4 := (q_in (by omega) (by omega))
                obtain ⟨q_81, eq_81⟩ : ∃ q : Nat → Int32, q = upd rV a1.toNatClampNeg a2 := ⟨_, rfl⟩
                refine ty_iast (F2 := (mF cI cL cC gC gE gW gA gT gI gS gM K F S N gH gJ ge gk gf gs gg gr RN gb q_81 rN)) hx hb hK hG hS 0 at_79 (by rw [h_42]; rfl) rfl b_80 (by rw [h_42]; show _ = _; rw [eq_81]) (fun hG b hb h0 => by obtain ⟨e, g1, g2⟩ := hG b h0; exact ⟨e, g1, mF_rV (fun h => hb (uq b r_41 (h.trans h_42.symm) h0)) g2⟩) dX10_gauge_85 (fun H locs hG hS at_82 o_83 => ?_)
                have at_70 := va_at.keptK at_70 o_83 h_42 k_a0 rfl
                refine lv_aload_n hx hb dX10_gauge_86 rfl (lv_at hl 0 rfl) ?_
                refine va_get (D := D) (ci := 9) (v := .ref r_43) (C := RX10) (T := TX10) (N := 36) hx hb hts in10 hown hK (va_one at_70) 0 rfl rfl 15 (by decide) (hts (.fieldLink RX10 41 "RiverModelModel" "gaugeAt" "[I") (List.mem_of_getElem? (i := 11) rfl)) (fun _ h9 => h9) rfl dX10_gauge_87 ?_
                refine lv_iload_n hx hb dX10_gauge_90 rfl (lv_at hl 1 rfl) ?_
                refine lv_pc (pc2 := 91) rfl ?_
                refine lv_iload_n hx hb dX10_gauge_91 rfl (lv_at hl 3 rfl) ?_
                obtain ⟨f_84, at_85, h_86⟩ := mF_o51 hG h_44
                have b_87 : vp_in a1 4 := (q_in (by omega) (by omega))
                refine ty_iast (F2 := (mF cI cL cC gC gE gW gA gT gI gS gM K F S N gH gJ ge gk gf gs gg gr RN gb q_81 rN)) hx hb hK hG hS 0 at_85 (by rw [h_44]; rfl) rfl b_87 (by rw [h_44]; exact ⟨_, rfl, gBd_upd h_86 (by omega)⟩) tFF dX10_gauge_92 (fun H locs hG hS at_88 o_89 => ?_)
                have at_70 := va_at.keptK at_70 o_89 h_44 k_a0 rfl
                refine lv_iconst (v := 0) hx hb dX10_gauge_93 (by decide) ?_
                refine lv_istore (lv' := [(4, .int 0), (0, .ref a0), (1, .int a1), (2, .int a2), (3, .int a3)]) hx hb dX10_gauge_94 hl (by decide) rfl (fun ls hl => ?_)
                refine lv_pc (pc2 := 96) rfl ?_
                refine lp_gen (fun WW90 hWW90 => ?_)
                have kx90 : ∀ (yk : Int32) (n1 : Nat → Int32) (H1 : Heap) (locs1 : List Loc) (ls1 : Array Slot), (0 ≤ yk.toInt) → (yk.toInt ≤ 96) → (cpf rN n1 (96 * a1.toInt) (fun _ => -1) yk.toInt) → (96 ≤ yk.toInt) → tG D (mF cI cL cC gC gE gW gA gT gI gS gM K F S N gH gJ ge gk gf gs gg gr RN gb q_81 n1) t H1 → tF t wG2 s.heap H1 locs1 → lv_has ls1 5 [(4, .int yk), (0, .ref a0), (1, .int a1), (2, .int a2), (3, .int a3)] → WW90 H1 locs1 (F0 m 122 ls1 []) := by
                  intro yk n1 H locs ls v90_0 v90_1 v90_2 xf90_0 hG hS hl
                  refine (hWW90 _ _ _).mpr ?_
                  refine lv_iconst (v := 0) hx hb dX10_gauge_122 (by decide) ?_
                  have zi_0 : (0 : Int32).toInt = 0 := by decide
                  exact tx_iret (z := (q_81, n1)) hx hb hr hlk hG hS (by show gauR (gb.toInt = 0 ∨ (a2.toInt = 0 ∧ gI.toInt ≤ a3.toInt) ∨ (a2.toInt ≠ 0 ∧ ¬ hasS K F 0 gI.toInt a3)) rV rN a1 a2 a3 (0 : Int32) q_81 n1; exact Or.inr (Or.inr ⟨by unfold gaB; omega, fun q => q.elim (fun q => by omega) (fun q => q.elim (fun q => by omega) (fun q => q.2 p_77)), by omega, eq_81, cpf.at v90_2 (by omega)⟩)) dX10_gauge_123
                have lp90 : ∀ (kk90 : Nat) (yk : Int32) (n1 : Nat → Int32) (H1 : Heap) (locs1 : List Loc) (ls1 : Array Slot), 96 - yk.toInt ≤ (kk90 : Int) → (0 ≤ yk.toInt) → (yk.toInt ≤ 96) → (cpf rN n1 (96 * a1.toInt) (fun _ => -1) yk.toInt) → tG D (mF cI cL cC gC gE gW gA gT gI gS gM K F S N gH gJ ge gk gf gs gg gr RN gb q_81 n1) t H1 → tF t wG2 s.heap H1 locs1 → lv_has ls1 5 [(4, .int yk), (0, .ref a0), (1, .int a1), (2, .int a2), (3, .int a3)] → WW90 H1 locs1 (F0 m 96 ls1 []) := by
                  intro kk90
                  induction kk90 with
                  | zero =>
                    intro yk n1 H locs ls hk90 v90_0 v90_1 v90_2 hG hS hl
                    refine (hWW90 _ _ _).mpr ?_
                    refine lv_iload hx hb dX10_gauge_96 (lv_at hl 0 rfl) ?_
                    refine lv_bipush (v := 96) hx hb dX10_gauge_98 (by decide) ?_
                    refine lv_pc (pc2 := 100) rfl ?_
                    refine lv_icmp_ge (tgt := 122) hx hb dX10_gauge_100 (by decide) (fun c_91 => ?_) (fun c_91 => ?_)
                    · skip
                      have c_91 : 96 ≤ yk.toInt := q_le c_91
                      exact (hWW90 _ _ _).mp (kx90 yk n1 H locs ls v90_0 v90_1 v90_2 (by omega) hG hS (lv_sub hl [0, 1, 2, 3, 4] rfl))
                    · skip
                      have c_91 : yk.toInt < 96 := q_nle c_91
                      exfalso; omega
                  | succ kk90 ih90 =>
                    intro yk n1 H locs ls hk90 v90_0 v90_1 v90_2 hG hS hl
                    refine (hWW90 _ _ _).mpr ?_
                    refine lv_iload hx hb dX10_gauge_96 (lv_at hl 0 rfl) ?_
                    refine lv_bipush (v := 96) hx hb dX10_gauge_98 (by decide) ?_
                    refine lv_icmp_ge (tgt := 122) hx hb dX10_gauge_100 (by decide) (fun c_92 => ?_) (fun c_92 => ?_)
                    · skip
                      have c_92 : 96 ≤ yk.toInt := q_le c_92
                      exact (hWW90 _ _ _).mp (kx90 yk n1 H locs ls v90_0 v90_1 v90_2 (by omega) hG hS (lv_sub hl [0, 1, 2, 3, 4] rfl))
                    · skip
                      have c_92 : yk.toInt < 96 := q_nle c_92
                      refine lv_aload_n hx hb dX10_gauge_103 rfl (lv_at hl 1 rfl) ?_
                      obtain ⟨r_93, r_95, r_97, r_99, r_101, r_103, r_105, r_107, r_109, r_111, r_113, r_115, r_117, r_119, r_121, r_123, r_125, r_127, r_129, r_131, r_133, r_135, v_137, r_138, at_140, h_94, h_96, h_98, h_100, h_102, h_104, h_106, h_108, h_110, h_112, h_114, h_116, h_118, h_120, h_122, h_124, h_126, h_128, h_130, h_132, h_134, h_136, h_139⟩ := mF_o40 hG k_a0
                      refine va_get (D := D) (ci := 9) (v := .ref r_115) (C := RX10) (T := TX10) (N := 36) hx hb hts in10 hown hK (va_one at_140) 0 rfl rfl 16 (by decide) (hts (.fieldLink RX10 44 "RiverModelModel" "seen" "[I") (List.mem_of_getElem? (i := 12) rfl)) (fun _ h9 => h9) rfl dX10_gauge_104 ?_
                      refine lv_bipush (v := 96) hx hb dX10_gauge_107 (by decide) ?_
                      refine lv_iload_n hx hb dX10_gauge_109 rfl (lv_at hl 2 rfl) ?_
                      refine lv_pc (pc2 := 110) rfl ?_
                      refine lv_imul hx hb dX10_gauge_110 ?_
                      refine lv_topi (fun x_141 e_142 => ?_)
                      have i_x_141 : x_141.toInt = 96 * a1.toInt := by rw [e_142]; exact (q_mul (by rw [show (96 : Int32).toInt = 96 by decide]; omega) (by rw [show (96 : Int32).toInt = 96 by decide]; omega)).trans (by rw [show (96 : Int32).toInt = 96 by decide])
                      refine lv_iload hx hb dX10_gauge_111 (lv_at hl 0 rfl) ?_
                      refine lv_iadd hx hb dX10_gauge_113 ?_
                      refine lv_topi (fun x_143 e_144 => ?_)
                      have i_x_143 : x_143.toInt = x_141.toInt + yk.toInt := by rw [e_144]; exact (q_add (by omega) (by omega)).trans (by rfl)
                      refine lv_iconst (v := (-1)) hx hb dX10_gauge_114 (by decide) ?_
                      have at_145 := mF_o52 hG h_116
                      have b_146 : vp_in x_143 384 := (q_in (by omega) (by omega))
                      have zi_m1 : ((-1) : Int32).toInt = (-1) := by decide
                      obtain ⟨q_147, eq_147⟩ : ∃ q : Nat → Int32, q = upd n1 x_143.toNatClampNeg (-1) := ⟨_, rfl⟩
                      refine ty_iast (F2 := (mF cI cL cC gC gE gW gA gT gI gS gM K F S N gH gJ ge gk gf gs gg gr RN gb q_81 q_147)) hx hb hK hG hS 0 at_145 (by rw [h_116]; rfl) rfl b_146 (by rw [h_116]; show _ = _; rw [eq_147]) (fun hG b hb h0 => by obtain ⟨e, g1, g2⟩ := hG b h0; exact ⟨e, g1, mF_rN (fun h => hb (uq b r_115 (h.trans h_116.symm) h0)) g2⟩) dX10_gauge_115 (fun H locs hG hS at_148 o_149 => ?_)
                      have at_140 := va_at.keptK at_140 o_149 h_116 k_a0 rfl
                      obtain ⟨x_150, e_151⟩ : ∃ y : Int32, y = yk + Int32.ofInt 1 := ⟨_, rfl⟩
                      have i_x_150 : x_150.toInt = yk.toInt + 1 := by rw [e_151, show Int32.ofInt 1 = 1 by decide]; exact (q_add (by rw [show (1 : Int32).toInt = 1 by decide]; omega) (by rw [show (1 : Int32).toInt = 1 by decide]; omega)).trans (by rw [show (1 : Int32).toInt = 1 by decide])
                      refine lv_iinc (v := x_150) (lv' := [(4, .int x_150), (0, .ref a0), (1, .int a1), (2, .int a2), (3, .int a3)]) hx hb dX10_gauge_116 hl (k := 0) rfl e_151.symm (by decide) rfl (fun ls hl => ?_)
                      refine lv_goto (tgt := 96) hx hb dX10_gauge_119 (by decide) ?_
                      exact (hWW90 _ _ _).mp (ih90 x_150 q_147 H locs ls (by omega) (by omega) (by omega) (cpf.step v90_2 (by omega) (by omega) rfl (i := x_143.toInt) (by omega) eq_147 (by omega)) hG hS (lv_sub hl [0, 1, 2, 3, 4] rfl))
                have zi_0 : (0 : Int32).toInt = 0 := by decide
                exact lp90 (96 - (0 : Int32).toInt : Int).toNat 0 rN H locs ls (by omega) (by omega) (by omega) (by rw [zi_0]; exact cpf.zero) hG hS (lv_sub hl [0, 1, 2, 3, 4] rfl)
              · skip
                refine lv_if_ne (tgt := 79) hx hb dX10_gauge_73 (by decide) (fun q => absurd rfl q) (fun _ => ?_)
                refine lv_pc (pc2 := 76) rfl ?_
                refine lv_bipush (v := (-2)) hx hb dX10_gauge_76 (by decide) ?_
                have zi_m2 : ((-2) : Int32).toInt = (-2) := by decide
                exact tx_iret (z := (rV, rN)) hx hb hr hlk hG hS (by show gauR (gb.toInt = 0 ∨ (a2.toInt = 0 ∧ gI.toInt ≤ a3.toInt) ∨ (a2.toInt ≠ 0 ∧ ¬ hasS K F 0 gI.toInt a3)) rV rN a1 a2 a3 ((-2) : Int32) rV rN; exact Or.inr (Or.inl ⟨by unfold gaB; omega, Or.inr (Or.inr ⟨by omega, p_78⟩), by omega, rfl, rfl⟩)) dX10_gauge_78
            · skip
              have c_72 : a2.toInt = 0 := q_eq c_72
              refine lv_iload_n hx hb dX10_gauge_57 rfl (lv_at hl 3 rfl) ?_
              refine lv_aload_n hx hb dX10_gauge_58 rfl (lv_at hl 0 rfl) ?_
              refine va_get (D := D) (ci := 9) (v := .int gI) (C := RX10) (T := TX10) (N := 36) hx hb hts in10 hown hK (va_one at_70) 0 rfl rfl 3 (by decide) (hts (.fieldLink RX10 163 "RiverModelModel" "items" "I") (List.mem_of_getElem? (i := 13) rfl)) (fun _ h9 => h9) rfl dX10_gauge_59 ?_
              refine lv_icmp_lt (tgt := 79) hx hb dX10_gauge_62 (by decide) (fun c_152 => ?_) (fun c_152 => ?_)
              · skip
                have c_152 : a3.toInt < gI.toInt := q_lt c_152
                refine lv_aload_n hx hb dX10_gauge_79 rfl (lv_at hl 0 rfl) ?_
                refine va_get (D := D) (ci := 9) (v := .ref r_41) (C := RX10) (T := TX10) (N := 36) hx hb hts in10 hown hK (va_one at_70) 0 rfl rfl 14 (by decide) (hts (.fieldLink RX10 38 "RiverModelModel" "gaugeKind" "[I") (List.mem_of_getElem? (i := 10) rfl)) (fun _ h9 => h9) rfl dX10_gauge_80 ?_
                refine lv_pc (pc2 := 83) rfl ?_
                refine lv_iload_n hx hb dX10_gauge_83 rfl (lv_at hl 1 rfl) ?_
                refine lv_iload_n hx hb dX10_gauge_84 rfl (lv_at hl 2 rfl) ?_
                have at_153 := mF_o50 hG h_42
                have b_154 : vp_in a1 4 := (q_in (by omega) (by omega))
                obtain ⟨q_155, eq_155⟩ : ∃ q : Nat → Int32, q = upd rV a1.toNatClampNeg a2 := ⟨_, rfl⟩
                refine ty_iast (F2 := (mF cI cL cC gC gE gW gA gT gI gS gM K F S N gH gJ ge gk gf gs gg gr RN gb q_155 rN)) hx hb hK hG hS 0 at_153 (by rw [h_42]; rfl) rfl b_154 (by rw [h_42]; show _ = _; rw [eq_155]) (fun hG b hb h0 => by obtain ⟨e, g1, g2⟩ := hG b h0; exact ⟨e, g1, mF_rV (fun h => hb (uq b r_41 (h.trans h_42.symm) h0)) g2⟩) dX10_gauge_85 (fun H locs hG hS at_156 o_157 => ?_)
                have at_70 := va_at.keptK at_70 o_157 h_42 k_a0 rfl
                refine lv_aload_n hx hb dX10_gauge_86 rfl (lv_at hl 0 rfl) ?_
                refine va_get (D := D) (ci := 9) (v := .ref r_43) (C := RX10) (T := TX10) (N := 36) hx hb hts in10 hown hK (va_one at_70) 0 rfl rfl 15 (by decide) (hts (.fieldLink RX10 41 "RiverModelModel" "gaugeAt" "[I") (List.mem_of_getElem? (i := 11) rfl)) (fun _ h9 => h9) rfl dX10_gauge_87 ?_
                refine lv_iload_n hx hb dX10_gauge_90 rfl (lv_at hl 1 rfl) ?_
                refine lv_iload_n hx hb dX10_gauge_91 rfl (lv_at hl 3 rfl) ?_
                obtain ⟨f_158, at_159, h_160⟩ := mF_o51 hG h_44
                have b_161 : vp_in a1 4 := (q_in (by omega) (by omega))
                refine ty_iast (F2 := (mF cI cL cC gC gE gW gA gT gI gS gM K F S N gH gJ ge gk gf gs gg gr RN gb q_155 rN)) hx hb hK hG hS 0 at_159 (by rw [h_44]; rfl) rfl b_161 (by rw [h_44]; exact ⟨_, rfl, gBd_upd h_160 (by omega)⟩) tFF dX10_gauge_92 (fun H locs hG hS at_162 o_163 => ?_)
                have at_70 := va_at.keptK at_70 o_163 h_44 k_a0 rfl
                refine lv_pc (pc2 := 93) rfl ?_
                refine lv_iconst (v := 0) hx hb dX10_gauge_93 (by decide) ?_
                refine lv_istore (lv' := [(4, .int 0), (0, .ref a0), (1, .int a1), (2, .int a2), (3, .int a3)]) hx hb dX10_gauge_94 hl (by decide) rfl (fun ls hl => ?_)
                refine lv_pc (pc2 := 96) rfl ?_
                refine lp_gen (fun WW164 hWW164 => ?_)
                have kx164 : ∀ (yk : Int32) (n1 : Nat → Int32) (H1 : Heap) (locs1 : List Loc) (ls1 : Array Slot), (0 ≤ yk.toInt) → (yk.toInt ≤ 96) → (cpf rN n1 (96 * a1.toInt) (fun _ => -1) yk.toInt) → (96 ≤ yk.toInt) → tG D (mF cI cL cC gC gE gW gA gT gI gS gM K F S N gH gJ ge gk gf gs gg gr RN gb q_155 n1) t H1 → tF t wG2 s.heap H1 locs1 → lv_has ls1 5 [(4, .int yk), (0, .ref a0), (1, .int a1), (2, .int a2), (3, .int a3)] → WW164 H1 locs1 (F0 m 122 ls1 []) := by
                  intro yk n1 H locs ls v164_0 v164_1 v164_2 xf164_0 hG hS hl
                  refine (hWW164 _ _ _).mpr ?_
                  refine lv_iconst (v := 0) hx hb dX10_gauge_122 (by decide) ?_
                  have zi_0 : (0 : Int32).toInt = 0 := by decide
                  exact tx_iret (z := (q_155, n1)) hx hb hr hlk hG hS (by show gauR (gb.toInt = 0 ∨ (a2.toInt = 0 ∧ gI.toInt ≤ a3.toInt) ∨ (a2.toInt ≠ 0 ∧ ¬ hasS K F 0 gI.toInt a3)) rV rN a1 a2 a3 (0 : Int32) q_155 n1; exact Or.inr (Or.inr ⟨by unfold gaB; omega, fun q => q.elim (fun q => by omega) (fun q => q.elim (fun q => by omega) (fun q => q.1 (by omega))), by omega, eq_155, cpf.at v164_2 (by omega)⟩)) dX10_gauge_123
                have lp164 : ∀ (kk164 : Nat) (yk : Int32) (n1 : Nat → Int32) (H1 : Heap) (locs1 : List Loc) (ls1 : Array Slot), 96 - yk.toInt ≤ (kk164 : Int) → (0 ≤ yk.toInt) → (yk.toInt ≤ 96) → (cpf rN n1 (96 * a1.toInt) (fun _ => -1) yk.toInt) → tG D (mF cI cL cC gC gE gW gA gT gI gS gM K F S N gH gJ ge gk gf gs gg gr RN gb q_155 n1) t H1 → tF t wG2 s.heap H1 locs1 → lv_has ls1 5 [(4, .int yk), (0, .ref a0), (1, .int a1), (2, .int a2), (3, .int a3)] → WW164 H1 locs1 (F0 m 96 ls1 []) := by
                  intro kk164
                  induction kk164 with
                  | zero =>
                    intro yk n1 H locs ls hk164 v164_0 v164_1 v164_2 hG hS hl
                    refine (hWW164 _ _ _).mpr ?_
                    refine lv_iload hx hb dX10_gauge_96 (lv_at hl 0 rfl) ?_
                    refine lv_bipush (v := 96) hx hb dX10_gauge_98 (by decide) ?_
                    refine lv_icmp_ge (tgt := 122) hx hb dX10_gauge_100 (by decide) (fun c_165 => ?_) (fun c_165 => ?_)
                    · skip
                      have c_165 : 96 ≤ yk.toInt := q_le c_165
                      exact (hWW164 _ _ _).mp (kx164 yk n1 H locs ls v164_0 v164_1 v164_2 (by omega) hG hS (lv_sub hl [0, 1, 2, 3, 4] rfl))
                    · skip
                      have c_165 : yk.toInt < 96 := q_nle c_165
                      exfalso; omega
                  | succ kk164 ih164 =>
                    intro yk n1 H locs ls hk164 v164_0 v164_1 v164_2 hG hS hl
                    refine (hWW164 _ _ _).mpr ?_
                    refine lv_iload hx hb dX10_gauge_96 (lv_at hl 0 rfl) ?_
                    refine lv_pc (pc2 := 98) rfl ?_
                    refine lv_bipush (v := 96) hx hb dX10_gauge_98 (by decide) ?_
                    refine lv_icmp_ge (tgt := 122) hx hb dX10_gauge_100 (by decide) (fun c_166 => ?_) (fun c_166 => ?_)
                    · skip
                      have c_166 : 96 ≤ yk.toInt := q_le c_166
                      exact (hWW164 _ _ _).mp (kx164 yk n1 H locs ls v164_0 v164_1 v164_2 (by omega) hG hS (lv_sub hl [0, 1, 2, 3, 4] rfl))
                    · skip
                      have c_166 : yk.toInt < 96 := q_nle c_166
                      refine lv_aload_n hx hb dX10_gauge_103 rfl (lv_at hl 1 rfl) ?_
                      obtain ⟨r_167, r_169, r_171, r_173, r_175, r_177, r_179, r_181, r_183, r_185, r_187, r_189, r_191, r_193, r_195, r_197, r_199, r_201, r_203, r_205, r_207, r_209, v_211, r_212, at_214, h_168, h_170, h_172, h_174, h_176, h_178, h_180, h_182, h_184, h_186, h_188, h_190, h_192, h_194, h_196, h_198, h_200, h_202, h_204, h_206, h_208, h_210, h_213⟩ := mF_o40 hG k_a0
                      refine va_get (D := D) (ci := 9) (v := .ref r_189) (C := RX10) (T := TX10) (N := 36) hx hb hts in10 hown hK (va_one at_214) 0 rfl rfl 16 (by decide) (hts (.fieldLink RX10 44 "RiverModelModel" "seen" "[I") (List.mem_of_getElem? (i := 12) rfl)) (fun _ h9 => h9) rfl dX10_gauge_104 ?_
                      refine lv_bipush (v := 96) hx hb dX10_gauge_107 (by decide) ?_
                      refine lv_iload_n hx hb dX10_gauge_109 rfl (lv_at hl 2 rfl) ?_
                      refine lv_imul hx hb dX10_gauge_110 ?_
                      refine lv_topi (fun x_215 e_216 => ?_)
                      have i_x_215 : x_215.toInt = 96 * a1.toInt := by rw [e_216]; exact (q_mul (by rw [show (96 : Int32).toInt = 96 by decide]; omega) (by rw [show (96 : Int32).toInt = 96 by decide]; omega)).trans (by rw [show (96 : Int32).toInt = 96 by decide])
                      refine lv_iload hx hb dX10_gauge_111 (lv_at hl 0 rfl) ?_
                      refine lv_pc (pc2 := 113) rfl ?_
                      refine lv_iadd hx hb dX10_gauge_113 ?_
                      refine lv_topi (fun x_217 e_218 => ?_)
                      have i_x_217 : x_217.toInt = x_215.toInt + yk.toInt := by rw [e_218]; exact (q_add (by omega) (by omega)).trans (by rfl)
                      refine lv_iconst (v := (-1)) hx hb dX10_gauge_114 (by decide) ?_
                      have at_219 := mF_o52 hG h_190
                      have b_220 : vp_in x_217 384 := (q_in (by omega) (by omega))
                      have zi_m1 : ((-1) : Int32).toInt = (-1) := by decide
                      obtain ⟨q_221, eq_221⟩ : ∃ q : Nat → Int32, q = upd n1 x_217.toNatClampNeg (-1) := ⟨_, rfl⟩
                      refine ty_iast (F2 := (mF cI cL cC gC gE gW gA gT gI gS gM K F S N gH gJ ge gk gf gs gg gr RN gb q_155 q_221)) hx hb hK hG hS 0 at_219 (by rw [h_190]; rfl) rfl b_220 (by rw [h_190]; show _ = _; rw [eq_221]) (fun hG b hb h0 => by obtain ⟨e, g1, g2⟩ := hG b h0; exact ⟨e, g1, mF_rN (fun h => hb (uq b r_189 (h.trans h_190.symm) h0)) g2⟩) dX10_gauge_115 (fun H locs hG hS at_222 o_223 => ?_)
                      have at_214 := va_at.keptK at_214 o_223 h_190 k_a0 rfl
                      obtain ⟨x_224, e_225⟩ : ∃ y : Int32, y = yk + Int32.ofInt 1 := ⟨_, rfl⟩
                      have i_x_224 : x_224.toInt = yk.toInt + 1 := by rw [e_225, show Int32.ofInt 1 = 1 by decide]; exact (q_add (by rw [show (1 : Int32).toInt = 1 by decide]; omega) (by rw [show (1 : Int32).toInt = 1 by decide]; omega)).trans (by rw [show (1 : Int32).toInt = 1 by decide])
                      refine lv_iinc (v := x_224) (lv' := [(4, .int x_224), (0, .ref a0), (1, .int a1), (2, .int a2), (3, .int a3)]) hx hb dX10_gauge_116 hl (k := 0) rfl e_225.symm (by decide) rfl (fun ls hl => ?_)
                      refine lv_goto (tgt := 96) hx hb dX10_gauge_119 (by decide) ?_
                      exact (hWW164 _ _ _).mp (ih164 x_224 q_221 H locs ls (by omega) (by omega) (by omega) (cpf.step v164_2 (by omega) (by omega) rfl (i := x_217.toInt) (by omega) eq_221 (by omega)) hG hS (lv_sub hl [0, 1, 2, 3, 4] rfl))
                have zi_0 : (0 : Int32).toInt = 0 := by decide
                exact lp164 (96 - (0 : Int32).toInt : Int).toNat 0 rN H locs ls (by omega) (by omega) (by omega) (by rw [zi_0]; exact cpf.zero) hG hS (lv_sub hl [0, 1, 2, 3, 4] rfl)
              · skip
                have c_152 : gI.toInt ≤ a3.toInt := q_nlt c_152
                refine lv_goto (tgt := 76) hx hb dX10_gauge_65 (by decide) ?_
                refine lv_bipush (v := (-2)) hx hb dX10_gauge_76 (by decide) ?_
                have zi_m2 : ((-2) : Int32).toInt = (-2) := by decide
                exact tx_iret (z := (rV, rN)) hx hb hr hlk hG hS (by show gauR (gb.toInt = 0 ∨ (a2.toInt = 0 ∧ gI.toInt ≤ a3.toInt) ∨ (a2.toInt ≠ 0 ∧ ¬ hasS K F 0 gI.toInt a3)) rV rN a1 a2 a3 ((-2) : Int32) rV rN; exact Or.inr (Or.inl ⟨by unfold gaB; omega, by first | exact Or.inl (by omega) | exact Or.inr (Or.inl ⟨by omega, by omega⟩), by omega, rfl, rfl⟩)) dX10_gauge_78
        · skip
          refine lv_pc (pc2 := 41) rfl ?_
          refine lv_if_ne (tgt := 46) hx hb dX10_gauge_41 (by decide) (fun q => absurd rfl q) (fun _ => ?_)
          refine lv_iconst (v := (-1)) hx hb dX10_gauge_44 (by decide) ?_
          have zi_m1 : ((-1) : Int32).toInt = (-1) := by decide
          exact tx_iret (z := (rV, rN)) hx hb hr hlk hG hS (by show gauR (gb.toInt = 0 ∨ (a2.toInt = 0 ∧ gI.toInt ≤ a3.toInt) ∨ (a2.toInt ≠ 0 ∧ ¬ hasS K F 0 gI.toInt a3)) rV rN a1 a2 a3 ((-1) : Int32) rV rN; exact Or.inl ⟨by unfold gaB; omega, by omega, rfl, rfl⟩) dX10_gauge_45
      · skip
        have c_15 : a2.toInt = 0 := q_eq c_15
        refine lv_ldc2 hx hb hown (hts (.constantLong RX10 194 (39)) (List.mem_of_getElem? (i := 14) rfl)) dX10_gauge_29 ?_
        refine lv_goto (tgt := 38) hx hb dX10_gauge_32 (by decide) ?_
        have zl_39 : (39 : Int64).toInt = 39 := by decide
        refine ty_calli (W.runS (As := [.long a3.toInt64, .long 0, .long 39]) (rest := []) ⟨hx, hb, hml, hown, hts⟩ (m_X10_in l D t cI cL cC gC gE gW gA gT gI gS gM K F S N gH gJ ge gk gf gs gg gr RN gb rV rN a3.toInt64 0 39 a3.toInt 0 39 uq (q_i2l _) (by decide) (by decide) ) (va_cwS 3 hts gu_X10_gauge_X10_in_85 rfl rfl rfl (by decide +kernel) ⟨Nat.le_of_ble_eq_true rfl, Nat.le_of_ble_eq_true rfl⟩) (tP_S hG hE) rfl rfl hl.1 rfl (lv_room (Nat.le_of_ble_eq_true rfl)) dX10_gauge_38 ⟨Nat.le_of_ble_eq_true rfl, Nat.le_of_ble_eq_true rfl⟩) hS (fun k h => by simp [wr0] at h) (fun r_226 H locs hp_227 hG hS o_228 => ?_)
        have hp_227 : (r_226 = 1 ∧ 0 ≤ a3.toInt ∧ a3.toInt ≤ 39) ∨ (r_226 = 0 ∧ (a3.toInt < 0 ∨ 39 < a3.toInt)) := hp_227
        rcases hp_227 with ⟨rfl, p_230, p_231⟩ | ⟨rfl, p_232⟩
        · skip
          refine lv_if_ne (tgt := 46) hx hb dX10_gauge_41 (by decide) (fun _ => ?_) (fun q => absurd q (by decide))
          refine lv_aload_n hx hb dX10_gauge_46 rfl (lv_at hl 0 rfl) ?_
          refine lv_pc (pc2 := 47) rfl ?_
          obtain ⟨r_233, r_235, r_237, r_239, r_241, r_243, r_245, r_247, r_249, r_251, r_253, r_255, r_257, r_259, r_261, r_263, r_265, r_267, r_269, r_271, r_273, r_275, v_277, r_278, at_280, h_234, h_236, h_238, h_240, h_242, h_244, h_246, h_248, h_250, h_252, h_254, h_256, h_258, h_260, h_262, h_264, h_266, h_268, h_270, h_272, h_274, h_276, h_279⟩ := mF_o40 hG k_a0
          refine va_get (D := D) (ci := 9) (v := .int gb) (C := RX10) (T := TX10) (N := 36) hx hb hts in10 hown hK (va_one at_280) 0 rfl rfl 2 (by decide) (hts (.fieldLink RX10 173 "RiverModelModel" "isBuilt" "Z") (List.mem_of_getElem? (i := 6) rfl)) (fun _ h9 => h9) rfl dX10_gauge_47 ?_
          refine lv_if_eq (tgt := 76) hx hb dX10_gauge_50 (by decide) (fun c_281 => ?_) (fun c_281 => ?_)
          · skip
            have c_281 : gb.toInt = 0 := q_eq c_281
            refine lv_bipush (v := (-2)) hx hb dX10_gauge_76 (by decide) ?_
            have zi_m2 : ((-2) : Int32).toInt = (-2) := by decide
            exact tx_iret (z := (rV, rN)) hx hb hr hlk hG hS (by show gauR (gb.toInt = 0 ∨ (a2.toInt = 0 ∧ gI.toInt ≤ a3.toInt) ∨ (a2.toInt ≠ 0 ∧ ¬ hasS K F 0 gI.toInt a3)) rV rN a1 a2 a3 ((-2) : Int32) rV rN; exact Or.inr (Or.inl ⟨by unfold gaB; omega, by first | exact Or.inl (by omega) | exact Or.inr (Or.inl ⟨by omega, by omega⟩), by omega, rfl, rfl⟩)) dX10_gauge_78
          · skip
            have c_281 : gb.toInt ≠ 0 := q_ne c_281
            refine lv_iload_n hx hb dX10_gauge_53 rfl (lv_at hl 2 rfl) ?_
            refine lv_if_ne (tgt := 68) hx hb dX10_gauge_54 (by decide) (fun c_282 => ?_) (fun c_282 => ?_)
            · skip
              have c_282 : a2.toInt ≠ 0 := q_ne c_282
              refine lv_aload_n hx hb dX10_gauge_68 rfl (lv_at hl 0 rfl) ?_
              refine lv_iload_n hx hb dX10_gauge_69 rfl (lv_at hl 3 rfl) ?_
              refine lv_pc (pc2 := 70) rfl ?_
              refine ty_calli (W.runV (As := [.int a3]) (rest := []) ⟨hx, hb, hml, hown, hts⟩ (m_X10_isStore l D t cI cL cC gC gE gW gA gT gI gS gM K F S N gH gJ ge gk gf gs gg gr RN gb rV rN a0 a3  uq (by omega) (by omega) k_a0) (cwV 1 hts gu_X10_gauge_X10_isStore_208 rfl rfl rfl (by decide +kernel) ⟨Nat.le_of_ble_eq_true rfl, Nat.le_of_ble_eq_true rfl⟩) (tP_V hG hE at_280 rfl) rfl rfl hl.1 rfl (lv_room (Nat.le_of_ble_eq_true rfl)) dX10_gauge_70 ⟨Nat.le_of_ble_eq_true rfl, Nat.le_of_ble_eq_true rfl⟩) hS (fun k h => by simp [wr0] at h) (fun r_283 H locs hp_284 hG hS o_285 => ?_)
              have at_280 := va_at.keptC at_280 o_285 k_a0 rfl
              have hp_284 : (r_283 = 1 ∧ hasS K F 0 gI.toInt a3) ∨ (r_283 = 0 ∧ ¬ hasS K F 0 gI.toInt a3) := hp_284
              rcases hp_284 with ⟨rfl, p_287⟩ | ⟨rfl, p_288⟩
              · skip
                refine lv_if_ne (tgt := 79) hx hb dX10_gauge_73 (by decide) (fun _ => ?_) (fun q => absurd q (by decide))
                refine lv_aload_n hx hb dX10_gauge_79 rfl (lv_at hl 0 rfl) ?_
                refine va_get (D := D) (ci := 9) (v := .ref r_251) (C := RX10) (T := TX10) (N := 36) hx hb hts in10 hown hK (va_one at_280) 0 rfl rfl 14 (by decide) (hts (.fieldLink RX10 38 "RiverModelModel" "gaugeKind" "[I") (List.mem_of_getElem? (i := 10) rfl)) (fun _ h9 => h9) rfl dX10_gauge_80 ?_
                refine lv_iload_n hx hb dX10_gauge_83 rfl (lv_at hl 1 rfl) ?_
                refine lv_iload_n hx hb dX10_gauge_84 rfl (lv_at hl 2 rfl) ?_
                have at_289 := mF_o50 hG h_252
                have b_290 : vp_in a1 4 := (q_in (by omega) (by omega))
                obtain ⟨q_291, eq_291⟩ : ∃ q : Nat → Int32, q = upd rV a1.toNatClampNeg a2 := ⟨_, rfl⟩
                refine ty_iast (F2 := (mF cI cL cC gC gE gW gA gT gI gS gM K F S N gH gJ ge gk gf gs gg gr RN gb q_291 rN)) hx hb hK hG hS 0 at_289 (by rw [h_252]; rfl) rfl b_290 (by rw [h_252]; show _ = _; rw [eq_291]) (fun hG b hb h0 => by obtain ⟨e, g1, g2⟩ := hG b h0; exact ⟨e, g1, mF_rV (fun h => hb (uq b r_251 (h.trans h_252.symm) h0)) g2⟩) dX10_gauge_85 (fun H locs hG hS at_292 o_293 => ?_)
                have at_280 := va_at.keptK at_280 o_293 h_252 k_a0 rfl
                refine lv_aload_n hx hb dX10_gauge_86 rfl (lv_at hl 0 rfl) ?_
                refine lv_pc (pc2 := 87) rfl ?_
                refine va_get (D := D) (ci := 9) (v := .ref r_253) (C := RX10) (T := TX10) (N := 36) hx hb hts in10 hown hK (va_one at_280) 0 rfl rfl 15 (by decide) (hts (.fieldLink RX10 41 "RiverModelModel" "gaugeAt" "[I") (List.mem_of_getElem? (i := 11) rfl)) (fun _ h9 => h9) rfl dX10_gauge_87 ?_
                refine lv_iload_n hx hb dX10_gauge_90 rfl (lv_at hl 1 rfl) ?_
                refine lv_iload_n hx hb dX10_gauge_91 rfl (lv_at hl 3 rfl) ?_
                obtain ⟨f_294, at_295, h_296⟩ := mF_o51 hG h_254
                have b_297 : vp_in a1 4 := (q_in (by omega) (by omega))
                refine ty_iast (F2 := (mF cI cL cC gC gE gW gA gT gI gS gM K F S N gH gJ ge gk gf gs gg gr RN gb q_291 rN)) hx hb hK hG hS 0 at_295 (by rw [h_254]; rfl) rfl b_297 (by rw [h_254]; exact ⟨_, rfl, gBd_upd h_296 (by omega)⟩) tFF dX10_gauge_92 (fun H locs hG hS at_298 o_299 => ?_)
                have at_280 := va_at.keptK at_280 o_299 h_254 k_a0 rfl
                refine lv_iconst (v := 0) hx hb dX10_gauge_93 (by decide) ?_
                refine lv_istore (lv' := [(4, .int 0), (0, .ref a0), (1, .int a1), (2, .int a2), (3, .int a3)]) hx hb dX10_gauge_94 hl (by decide) rfl (fun ls hl => ?_)
                refine lv_pc (pc2 := 96) rfl ?_
                refine lp_gen (fun WW300 hWW300 => ?_)
                have kx300 : ∀ (yk : Int32) (n1 : Nat → Int32) (H1 : Heap) (locs1 : List Loc) (ls1 : Array Slot), (0 ≤ yk.toInt) → (yk.toInt ≤ 96) → (cpf rN n1 (96 * a1.toInt) (fun _ => -1) yk.toInt) → (96 ≤ yk.toInt) → tG D (mF cI cL cC gC gE gW gA gT gI gS gM K F S N gH gJ ge gk gf gs gg gr RN gb q_291 n1) t H1 → tF t wG2 s.heap H1 locs1 → lv_has ls1 5 [(4, .int yk), (0, .ref a0), (1, .int a1), (2, .int a2), (3, .int a3)] → WW300 H1 locs1 (F0 m 122 ls1 []) := by
                  intro yk n1 H locs ls v300_0 v300_1 v300_2 xf300_0 hG hS hl
                  refine (hWW300 _ _ _).mpr ?_
                  refine lv_iconst (v := 0) hx hb dX10_gauge_122 (by decide) ?_
                  have zi_0 : (0 : Int32).toInt = 0 := by decide
                  exact tx_iret (z := (q_291, n1)) hx hb hr hlk hG hS (by show gauR (gb.toInt = 0 ∨ (a2.toInt = 0 ∧ gI.toInt ≤ a3.toInt) ∨ (a2.toInt ≠ 0 ∧ ¬ hasS K F 0 gI.toInt a3)) rV rN a1 a2 a3 (0 : Int32) q_291 n1; exact Or.inr (Or.inr ⟨by unfold gaB; omega, fun q => q.elim (fun q => by omega) (fun q => q.elim (fun q => by omega) (fun q => q.2 p_287)), by omega, eq_291, cpf.at v300_2 (by omega)⟩)) dX10_gauge_123
                have lp300 : ∀ (kk300 : Nat) (yk : Int32) (n1 : Nat → Int32) (H1 : Heap) (locs1 : List Loc) (ls1 : Array Slot), 96 - yk.toInt ≤ (kk300 : Int) → (0 ≤ yk.toInt) → (yk.toInt ≤ 96) → (cpf rN n1 (96 * a1.toInt) (fun _ => -1) yk.toInt) → tG D (mF cI cL cC gC gE gW gA gT gI gS gM K F S N gH gJ ge gk gf gs gg gr RN gb q_291 n1) t H1 → tF t wG2 s.heap H1 locs1 → lv_has ls1 5 [(4, .int yk), (0, .ref a0), (1, .int a1), (2, .int a2), (3, .int a3)] → WW300 H1 locs1 (F0 m 96 ls1 []) := by
                  intro kk300
                  induction kk300 with
                  | zero =>
                    intro yk n1 H locs ls hk300 v300_0 v300_1 v300_2 hG hS hl
                    refine (hWW300 _ _ _).mpr ?_
                    refine lv_pc (pc2 := 96) rfl ?_
                    refine lv_iload hx hb dX10_gauge_96 (lv_at hl 0 rfl) ?_
                    refine lv_bipush (v := 96) hx hb dX10_gauge_98 (by decide) ?_
                    refine lv_icmp_ge (tgt := 122) hx hb dX10_gauge_100 (by decide) (fun c_301 => ?_) (fun c_301 => ?_)
                    · skip
                      have c_301 : 96 ≤ yk.toInt := q_le c_301
                      exact (hWW300 _ _ _).mp (kx300 yk n1 H locs ls v300_0 v300_1 v300_2 (by omega) hG hS (lv_sub hl [0, 1, 2, 3, 4] rfl))
                    · skip
                      have c_301 : yk.toInt < 96 := q_nle c_301
                      exfalso; omega
                  | succ kk300 ih300 =>
                    intro yk n1 H locs ls hk300 v300_0 v300_1 v300_2 hG hS hl
                    refine (hWW300 _ _ _).mpr ?_
                    refine lv_iload hx hb dX10_gauge_96 (lv_at hl 0 rfl) ?_
                    refine lv_bipush (v := 96) hx hb dX10_gauge_98 (by decide) ?_
                    refine lv_icmp_ge (tgt := 122) hx hb dX10_gauge_100 (by decide) (fun c_302 => ?_) (fun c_302 => ?_)
                    · skip
                      have c_302 : 96 ≤ yk.toInt := q_le c_302
                      exact (hWW300 _ _ _).mp (kx300 yk n1 H locs ls v300_0 v300_1 v300_2 (by omega) hG hS (lv_sub hl [0, 1, 2, 3, 4] rfl))
                    · skip
                      have c_302 : yk.toInt < 96 := q_nle c_302
                      refine lv_aload_n hx hb dX10_gauge_103 rfl (lv_at hl 1 rfl) ?_
                      obtain ⟨r_303, r_305, r_307, r_309, r_311, r_313, r_315, r_317, r_319, r_321, r_323, r_325, r_327, r_329, r_331, r_333, r_335, r_337, r_339, r_341, r_343, r_345, v_347, r_348, at_350, h_304, h_306, h_308, h_310, h_312, h_314, h_316, h_318, h_320, h_322, h_324, h_326, h_328, h_330, h_332, h_334, h_336, h_338, h_340, h_342, h_344, h_346, h_349⟩ := mF_o40 hG k_a0
                      refine va_get (D := D) (ci := 9) (v := .ref r_325) (C := RX10) (T := TX10) (N := 36) hx hb hts in10 hown hK (va_one at_350) 0 rfl rfl 16 (by decide) (hts (.fieldLink RX10 44 "RiverModelModel" "seen" "[I") (List.mem_of_getElem? (i := 12) rfl)) (fun _ h9 => h9) rfl dX10_gauge_104 ?_
                      refine lv_pc (pc2 := 107) rfl ?_
                      refine lv_bipush (v := 96) hx hb dX10_gauge_107 (by decide) ?_
                      refine lv_iload_n hx hb dX10_gauge_109 rfl (lv_at hl 2 rfl) ?_
                      refine lv_imul hx hb dX10_gauge_110 ?_
                      refine lv_topi (fun x_351 e_352 => ?_)
                      have i_x_351 : x_351.toInt = 96 * a1.toInt := by rw [e_352]; exact (q_mul (by rw [show (96 : Int32).toInt = 96 by decide]; omega) (by rw [show (96 : Int32).toInt = 96 by decide]; omega)).trans (by rw [show (96 : Int32).toInt = 96 by decide])
                      refine lv_iload hx hb dX10_gauge_111 (lv_at hl 0 rfl) ?_
                      refine lv_iadd hx hb dX10_gauge_113 ?_
                      refine lv_topi (fun x_353 e_354 => ?_)
                      have i_x_353 : x_353.toInt = x_351.toInt + yk.toInt := by rw [e_354]; exact (q_add (by omega) (by omega)).trans (by rfl)
                      refine lv_iconst (v := (-1)) hx hb dX10_gauge_114 (by decide) ?_
                      have at_355 := mF_o52 hG h_326
                      have b_356 : vp_in x_353 384 := (q_in (by omega) (by omega))
                      have zi_m1 : ((-1) : Int32).toInt = (-1) := by decide
                      obtain ⟨q_357, eq_357⟩ : ∃ q : Nat → Int32, q = upd n1 x_353.toNatClampNeg (-1) := ⟨_, rfl⟩
                      refine ty_iast (F2 := (mF cI cL cC gC gE gW gA gT gI gS gM K F S N gH gJ ge gk gf gs gg gr RN gb q_291 q_357)) hx hb hK hG hS 0 at_355 (by rw [h_326]; rfl) rfl b_356 (by rw [h_326]; show _ = _; rw [eq_357]) (fun hG b hb h0 => by obtain ⟨e, g1, g2⟩ := hG b h0; exact ⟨e, g1, mF_rN (fun h => hb (uq b r_325 (h.trans h_326.symm) h0)) g2⟩) dX10_gauge_115 (fun H locs hG hS at_358 o_359 => ?_)
                      have at_350 := va_at.keptK at_350 o_359 h_326 k_a0 rfl
                      obtain ⟨x_360, e_361⟩ : ∃ y : Int32, y = yk + Int32.ofInt 1 := ⟨_, rfl⟩
                      have i_x_360 : x_360.toInt = yk.toInt + 1 := by rw [e_361, show Int32.ofInt 1 = 1 by decide]; exact (q_add (by rw [show (1 : Int32).toInt = 1 by decide]; omega) (by rw [show (1 : Int32).toInt = 1 by decide]; omega)).trans (by rw [show (1 : Int32).toInt = 1 by decide])
                      refine lv_iinc (v := x_360) (lv' := [(4, .int x_360), (0, .ref a0), (1, .int a1), (2, .int a2), (3, .int a3)]) hx hb dX10_gauge_116 hl (k := 0) rfl e_361.symm (by decide) rfl (fun ls hl => ?_)
                      refine lv_pc (pc2 := 119) rfl ?_
                      refine lv_goto (tgt := 96) hx hb dX10_gauge_119 (by decide) ?_
                      exact (hWW300 _ _ _).mp (ih300 x_360 q_357 H locs ls (by omega) (by omega) (by omega) (cpf.step v300_2 (by omega) (by omega) rfl (i := x_353.toInt) (by omega) eq_357 (by omega)) hG hS (lv_sub hl [0, 1, 2, 3, 4] rfl))
                have zi_0 : (0 : Int32).toInt = 0 := by decide
                exact lp300 (96 - (0 : Int32).toInt : Int).toNat 0 rN H locs ls (by omega) (by omega) (by omega) (by rw [zi_0]; exact cpf.zero) hG hS (lv_sub hl [0, 1, 2, 3, 4] rfl)
              · skip
                refine lv_if_ne (tgt := 79) hx hb dX10_gauge_73 (by decide) (fun q => absurd rfl q) (fun _ => ?_)
                refine lv_bipush (v := (-2)) hx hb dX10_gauge_76 (by decide) ?_
                have zi_m2 : ((-2) : Int32).toInt = (-2) := by decide
                exact tx_iret (z := (rV, rN)) hx hb hr hlk hG hS (by show gauR (gb.toInt = 0 ∨ (a2.toInt = 0 ∧ gI.toInt ≤ a3.toInt) ∨ (a2.toInt ≠ 0 ∧ ¬ hasS K F 0 gI.toInt a3)) rV rN a1 a2 a3 ((-2) : Int32) rV rN; exact Or.inr (Or.inl ⟨by unfold gaB; omega, Or.inr (Or.inr ⟨by omega, p_288⟩), by omega, rfl, rfl⟩)) dX10_gauge_78
            · skip
              have c_282 : a2.toInt = 0 := q_eq c_282
              refine lv_iload_n hx hb dX10_gauge_57 rfl (lv_at hl 3 rfl) ?_
              refine lv_aload_n hx hb dX10_gauge_58 rfl (lv_at hl 0 rfl) ?_
              refine va_get (D := D) (ci := 9) (v := .int gI) (C := RX10) (T := TX10) (N := 36) hx hb hts in10 hown hK (va_one at_280) 0 rfl rfl 3 (by decide) (hts (.fieldLink RX10 163 "RiverModelModel" "items" "I") (List.mem_of_getElem? (i := 13) rfl)) (fun _ h9 => h9) rfl dX10_gauge_59 ?_
              refine lv_icmp_lt (tgt := 79) hx hb dX10_gauge_62 (by decide) (fun c_362 => ?_) (fun c_362 => ?_)
              · skip
                have c_362 : a3.toInt < gI.toInt := q_lt c_362
                refine lv_pc (pc2 := 79) rfl ?_
                refine lv_aload_n hx hb dX10_gauge_79 rfl (lv_at hl 0 rfl) ?_
                refine va_get (D := D) (ci := 9) (v := .ref r_251) (C := RX10) (T := TX10) (N := 36) hx hb hts in10 hown hK (va_one at_280) 0 rfl rfl 14 (by decide) (hts (.fieldLink RX10 38 "RiverModelModel" "gaugeKind" "[I") (List.mem_of_getElem? (i := 10) rfl)) (fun _ h9 => h9) rfl dX10_gauge_80 ?_
                refine lv_iload_n hx hb dX10_gauge_83 rfl (lv_at hl 1 rfl) ?_
                refine lv_iload_n hx hb dX10_gauge_84 rfl (lv_at hl 2 rfl) ?_
                have at_363 := mF_o50 hG h_252
                have b_364 : vp_in a1 4 := (q_in (by omega) (by omega))
                obtain ⟨q_365, eq_365⟩ : ∃ q : Nat → Int32, q = upd rV a1.toNatClampNeg a2 := ⟨_, rfl⟩
                refine ty_iast (F2 := (mF cI cL cC gC gE gW gA gT gI gS gM K F S N gH gJ ge gk gf gs gg gr RN gb q_365 rN)) hx hb hK hG hS 0 at_363 (by rw [h_252]; rfl) rfl b_364 (by rw [h_252]; show _ = _; rw [eq_365]) (fun hG b hb h0 => by obtain ⟨e, g1, g2⟩ := hG b h0; exact ⟨e, g1, mF_rV (fun h => hb (uq b r_251 (h.trans h_252.symm) h0)) g2⟩) dX10_gauge_85 (fun H locs hG hS at_366 o_367 => ?_)
                have at_280 := va_at.keptK at_280 o_367 h_252 k_a0 rfl
                refine lv_aload_n hx hb dX10_gauge_86 rfl (lv_at hl 0 rfl) ?_
                refine va_get (D := D) (ci := 9) (v := .ref r_253) (C := RX10) (T := TX10) (N := 36) hx hb hts in10 hown hK (va_one at_280) 0 rfl rfl 15 (by decide) (hts (.fieldLink RX10 41 "RiverModelModel" "gaugeAt" "[I") (List.mem_of_getElem? (i := 11) rfl)) (fun _ h9 => h9) rfl dX10_gauge_87 ?_
                refine lv_iload_n hx hb dX10_gauge_90 rfl (lv_at hl 1 rfl) ?_
                refine lv_pc (pc2 := 91) rfl ?_
                refine lv_iload_n hx hb dX10_gauge_91 rfl (lv_at hl 3 rfl) ?_
                obtain ⟨f_368, at_369, h_370⟩ := mF_o51 hG h_254
                have b_371 : vp_in a1 4 := (q_in (by omega) (by omega))
                refine ty_iast (F2 := (mF cI cL cC gC gE gW gA gT gI gS gM K F S N gH gJ ge gk gf gs gg gr RN gb q_365 rN)) hx hb hK hG hS 0 at_369 (by rw [h_254]; rfl) rfl b_371 (by rw [h_254]; exact ⟨_, rfl, gBd_upd h_370 (by omega)⟩) tFF dX10_gauge_92 (fun H locs hG hS at_372 o_373 => ?_)
                have at_280 := va_at.keptK at_280 o_373 h_254 k_a0 rfl
                refine lv_iconst (v := 0) hx hb dX10_gauge_93 (by decide) ?_
                refine lv_istore (lv' := [(4, .int 0), (0, .ref a0), (1, .int a1), (2, .int a2), (3, .int a3)]) hx hb dX10_gauge_94 hl (by decide) rfl (fun ls hl => ?_)
                refine lv_pc (pc2 := 96) rfl ?_
                refine lp_gen (fun WW374 hWW374 => ?_)
                have kx374 : ∀ (yk : Int32) (n1 : Nat → Int32) (H1 : Heap) (locs1 : List Loc) (ls1 : Array Slot), (0 ≤ yk.toInt) → (yk.toInt ≤ 96) → (cpf rN n1 (96 * a1.toInt) (fun _ => -1) yk.toInt) → (96 ≤ yk.toInt) → tG D (mF cI cL cC gC gE gW gA gT gI gS gM K F S N gH gJ ge gk gf gs gg gr RN gb q_365 n1) t H1 → tF t wG2 s.heap H1 locs1 → lv_has ls1 5 [(4, .int yk), (0, .ref a0), (1, .int a1), (2, .int a2), (3, .int a3)] → WW374 H1 locs1 (F0 m 122 ls1 []) := by
                  intro yk n1 H locs ls v374_0 v374_1 v374_2 xf374_0 hG hS hl
                  refine (hWW374 _ _ _).mpr ?_
                  refine lv_iconst (v := 0) hx hb dX10_gauge_122 (by decide) ?_
                  have zi_0 : (0 : Int32).toInt = 0 := by decide
                  exact tx_iret (z := (q_365, n1)) hx hb hr hlk hG hS (by show gauR (gb.toInt = 0 ∨ (a2.toInt = 0 ∧ gI.toInt ≤ a3.toInt) ∨ (a2.toInt ≠ 0 ∧ ¬ hasS K F 0 gI.toInt a3)) rV rN a1 a2 a3 (0 : Int32) q_365 n1; exact Or.inr (Or.inr ⟨by unfold gaB; omega, fun q => q.elim (fun q => by omega) (fun q => q.elim (fun q => by omega) (fun q => q.1 (by omega))), by omega, eq_365, cpf.at v374_2 (by omega)⟩)) dX10_gauge_123
                have lp374 : ∀ (kk374 : Nat) (yk : Int32) (n1 : Nat → Int32) (H1 : Heap) (locs1 : List Loc) (ls1 : Array Slot), 96 - yk.toInt ≤ (kk374 : Int) → (0 ≤ yk.toInt) → (yk.toInt ≤ 96) → (cpf rN n1 (96 * a1.toInt) (fun _ => -1) yk.toInt) → tG D (mF cI cL cC gC gE gW gA gT gI gS gM K F S N gH gJ ge gk gf gs gg gr RN gb q_365 n1) t H1 → tF t wG2 s.heap H1 locs1 → lv_has ls1 5 [(4, .int yk), (0, .ref a0), (1, .int a1), (2, .int a2), (3, .int a3)] → WW374 H1 locs1 (F0 m 96 ls1 []) := by
                  intro kk374
                  induction kk374 with
                  | zero =>
                    intro yk n1 H locs ls hk374 v374_0 v374_1 v374_2 hG hS hl
                    refine (hWW374 _ _ _).mpr ?_
                    refine lv_iload hx hb dX10_gauge_96 (lv_at hl 0 rfl) ?_
                    refine lv_bipush (v := 96) hx hb dX10_gauge_98 (by decide) ?_
                    refine lv_pc (pc2 := 100) rfl ?_
                    refine lv_icmp_ge (tgt := 122) hx hb dX10_gauge_100 (by decide) (fun c_375 => ?_) (fun c_375 => ?_)
                    · skip
                      have c_375 : 96 ≤ yk.toInt := q_le c_375
                      exact (hWW374 _ _ _).mp (kx374 yk n1 H locs ls v374_0 v374_1 v374_2 (by omega) hG hS (lv_sub hl [0, 1, 2, 3, 4] rfl))
                    · skip
                      have c_375 : yk.toInt < 96 := q_nle c_375
                      exfalso; omega
                  | succ kk374 ih374 =>
                    intro yk n1 H locs ls hk374 v374_0 v374_1 v374_2 hG hS hl
                    refine (hWW374 _ _ _).mpr ?_
                    refine lv_iload hx hb dX10_gauge_96 (lv_at hl 0 rfl) ?_
                    refine lv_bipush (v := 96) hx hb dX10_gauge_98 (by decide) ?_
                    refine lv_icmp_ge (tgt := 122) hx hb dX10_gauge_100 (by decide) (fun c_376 => ?_) (fun c_376 => ?_)
                    · skip
                      have c_376 : 96 ≤ yk.toInt := q_le c_376
                      exact (hWW374 _ _ _).mp (kx374 yk n1 H locs ls v374_0 v374_1 v374_2 (by omega) hG hS (lv_sub hl [0, 1, 2, 3, 4] rfl))
                    · skip
                      have c_376 : yk.toInt < 96 := q_nle c_376
                      refine lv_aload_n hx hb dX10_gauge_103 rfl (lv_at hl 1 rfl) ?_
                      obtain ⟨r_377, r_379, r_381, r_383, r_385, r_387, r_389, r_391, r_393, r_395, r_397, r_399, r_401, r_403, r_405, r_407, r_409, r_411, r_413, r_415, r_417, r_419, v_421, r_422, at_424, h_378, h_380, h_382, h_384, h_386, h_388, h_390, h_392, h_394, h_396, h_398, h_400, h_402, h_404, h_406, h_408, h_410, h_412, h_414, h_416, h_418, h_420, h_423⟩ := mF_o40 hG k_a0
                      refine va_get (D := D) (ci := 9) (v := .ref r_399) (C := RX10) (T := TX10) (N := 36) hx hb hts in10 hown hK (va_one at_424) 0 rfl rfl 16 (by decide) (hts (.fieldLink RX10 44 "RiverModelModel" "seen" "[I") (List.mem_of_getElem? (i := 12) rfl)) (fun _ h9 => h9) rfl dX10_gauge_104 ?_
                      refine lv_bipush (v := 96) hx hb dX10_gauge_107 (by decide) ?_
                      refine lv_iload_n hx hb dX10_gauge_109 rfl (lv_at hl 2 rfl) ?_
                      refine lv_pc (pc2 := 110) rfl ?_
                      refine lv_imul hx hb dX10_gauge_110 ?_
                      refine lv_topi (fun x_425 e_426 => ?_)
                      have i_x_425 : x_425.toInt = 96 * a1.toInt := by rw [e_426]; exact (q_mul (by rw [show (96 : Int32).toInt = 96 by decide]; omega) (by rw [show (96 : Int32).toInt = 96 by decide]; omega)).trans (by rw [show (96 : Int32).toInt = 96 by decide])
                      refine lv_iload hx hb dX10_gauge_111 (lv_at hl 0 rfl) ?_
                      refine lv_iadd hx hb dX10_gauge_113 ?_
                      refine lv_topi (fun x_427 e_428 => ?_)
                      have i_x_427 : x_427.toInt = x_425.toInt + yk.toInt := by rw [e_428]; exact (q_add (by omega) (by omega)).trans (by rfl)
                      refine lv_iconst (v := (-1)) hx hb dX10_gauge_114 (by decide) ?_
                      have at_429 := mF_o52 hG h_400
                      have b_430 : vp_in x_427 384 := (q_in (by omega) (by omega))
                      have zi_m1 : ((-1) : Int32).toInt = (-1) := by decide
                      obtain ⟨q_431, eq_431⟩ : ∃ q : Nat → Int32, q = upd n1 x_427.toNatClampNeg (-1) := ⟨_, rfl⟩
                      refine ty_iast (F2 := (mF cI cL cC gC gE gW gA gT gI gS gM K F S N gH gJ ge gk gf gs gg gr RN gb q_365 q_431)) hx hb hK hG hS 0 at_429 (by rw [h_400]; rfl) rfl b_430 (by rw [h_400]; show _ = _; rw [eq_431]) (fun hG b hb h0 => by obtain ⟨e, g1, g2⟩ := hG b h0; exact ⟨e, g1, mF_rN (fun h => hb (uq b r_399 (h.trans h_400.symm) h0)) g2⟩) dX10_gauge_115 (fun H locs hG hS at_432 o_433 => ?_)
                      have at_424 := va_at.keptK at_424 o_433 h_400 k_a0 rfl
                      obtain ⟨x_434, e_435⟩ : ∃ y : Int32, y = yk + Int32.ofInt 1 := ⟨_, rfl⟩
                      have i_x_434 : x_434.toInt = yk.toInt + 1 := by rw [e_435, show Int32.ofInt 1 = 1 by decide]; exact (q_add (by rw [show (1 : Int32).toInt = 1 by decide]; omega) (by rw [show (1 : Int32).toInt = 1 by decide]; omega)).trans (by rw [show (1 : Int32).toInt = 1 by decide])
                      refine lv_iinc (v := x_434) (lv' := [(4, .int x_434), (0, .ref a0), (1, .int a1), (2, .int a2), (3, .int a3)]) hx hb dX10_gauge_116 hl (k := 0) rfl e_435.symm (by decide) rfl (fun ls hl => ?_)
                      refine lv_goto (tgt := 96) hx hb dX10_gauge_119 (by decide) ?_
                      exact (hWW374 _ _ _).mp (ih374 x_434 q_431 H locs ls (by omega) (by omega) (by omega) (cpf.step v374_2 (by omega) (by omega) rfl (i := x_427.toInt) (by omega) eq_431 (by omega)) hG hS (lv_sub hl [0, 1, 2, 3, 4] rfl))
                have zi_0 : (0 : Int32).toInt = 0 := by decide
                exact lp374 (96 - (0 : Int32).toInt : Int).toNat 0 rN H locs ls (by omega) (by omega) (by omega) (by rw [zi_0]; exact cpf.zero) hG hS (lv_sub hl [0, 1, 2, 3, 4] rfl)
              · skip
                have c_362 : gI.toInt ≤ a3.toInt := q_nlt c_362
                refine lv_goto (tgt := 76) hx hb dX10_gauge_65 (by decide) ?_
                refine lv_pc (pc2 := 76) rfl ?_
                refine lv_bipush (v := (-2)) hx hb dX10_gauge_76 (by decide) ?_
                have zi_m2 : ((-2) : Int32).toInt = (-2) := by decide
                exact tx_iret (z := (rV, rN)) hx hb hr hlk hG hS (by show gauR (gb.toInt = 0 ∨ (a2.toInt = 0 ∧ gI.toInt ≤ a3.toInt) ∨ (a2.toInt ≠ 0 ∧ ¬ hasS K F 0 gI.toInt a3)) rV rN a1 a2 a3 ((-2) : Int32) rV rN; exact Or.inr (Or.inl ⟨by unfold gaB; omega, by first | exact Or.inl (by omega) | exact Or.inr (Or.inl ⟨by omega, by omega⟩), by omega, rfl, rfl⟩)) dX10_gauge_78
        · skip
          refine lv_if_ne (tgt := 46) hx hb dX10_gauge_41 (by decide) (fun q => absurd rfl q) (fun _ => ?_)
          refine lv_iconst (v := (-1)) hx hb dX10_gauge_44 (by decide) ?_
          have zi_m1 : ((-1) : Int32).toInt = (-1) := by decide
          exact tx_iret (z := (rV, rN)) hx hb hr hlk hG hS (by show gauR (gb.toInt = 0 ∨ (a2.toInt = 0 ∧ gI.toInt ≤ a3.toInt) ∨ (a2.toInt ≠ 0 ∧ ¬ hasS K F 0 gI.toInt a3)) rV rN a1 a2 a3 ((-1) : Int32) rV rN; exact Or.inl ⟨by unfold gaB; omega, by omega, rfl, rfl⟩) dX10_gauge_45
    · skip
      refine lv_if_eq (tgt := 44) hx hb dX10_gauge_19 (by decide) (fun _ => ?_) (fun q => absurd (by decide) q)
      refine lv_iconst (v := (-1)) hx hb dX10_gauge_44 (by decide) ?_
      have zi_m1 : ((-1) : Int32).toInt = (-1) := by decide
      exact tx_iret (z := (rV, rN)) hx hb hr hlk hG hS (by show gauR (gb.toInt = 0 ∨ (a2.toInt = 0 ∧ gI.toInt ≤ a3.toInt) ∨ (a2.toInt ≠ 0 ∧ ¬ hasS K F 0 gI.toInt a3)) rV rN a1 a2 a3 ((-1) : Int32) rV rN; exact Or.inl ⟨by unfold gaB; omega, by omega, rfl, rfl⟩) dX10_gauge_45
  · skip
    refine lv_pc (pc2 := 9) rfl ?_
    refine lv_if_eq (tgt := 44) hx hb dX10_gauge_9 (by decide) (fun _ => ?_) (fun q => absurd (by decide) q)
    refine lv_iconst (v := (-1)) hx hb dX10_gauge_44 (by decide) ?_
    have zi_m1 : ((-1) : Int32).toInt = (-1) := by decide
    exact tx_iret (z := (rV, rN)) hx hb hr hlk hG hS (by show gauR (gb.toInt = 0 ∨ (a2.toInt = 0 ∧ gI.toInt ≤ a3.toInt) ∨ (a2.toInt ≠ 0 ∧ ¬ hasS K F 0 gI.toInt a3)) rV rN a1 a2 a3 ((-1) : Int32) rV rN; exact Or.inl ⟨by unfold gaB; omega, by omega, rfl, rfl⟩) dX10_gauge_45

def uX10_isSet : List Cond := .code yX10_isSet cX10_isSet 2 (some .boolean) :: ([.fieldLink RX10 173 "RiverModelModel" "isBuilt" "Z", .fieldLink RX10 38 "RiverModelModel" "gaugeKind" "[I"] ++ wsX100)
set_option maxHeartbeats 4000000 in
set_option maxRecDepth 100000 in
theorem m_X10_isSet (l : Launch) (D : va_G) (t : Nat → Nat) (cI cL cC : ClassId) (gC : Int32) (gE : Int32) (gW : Nat → Int32) (gA : Nat → Int32) (gT : Nat → Int32) (gI : Int32) (gS : Int32) (gM : Int32) (K : Nat → Int32) (F : Nat → Int32) (S : Nat → Int32) (N : Nat → Int32) (gH : Int) (gJ : Int) (ge : Int32) (gk : Int32) (gf : Int32) (gs : Int32) (gg : Int32) (gr : Int32) (RN : Nat → Int32) (gb : Int32) (rV : Nat → Int32) (rN : Nat → Int32) (a0 : Nat) (a1 : Int32) (uq : ∀ b c : Nat, t b = t c → t b ≠ 0 → b = c) (hg0 : 0 ≤ a1.toInt) (hg3 : a1.toInt ≤ 3) (k_a0 : t a0 = 40) : tM l yX10_isSet uX10_isSet 0 0 D (mF cI cL cC gC gE gW gA gT gI gS gM K F S N gH gJ ge gk gf gs gg gr RN gb rV rN) (mF cI cL cC gC gE gW gA gT gI gS gM K F S N gH gJ ge gk gf gs gg gr RN gb rV rN) t cI cL cC [.ref a0, .int a1] wr0 (pI (fun r => (r = 1 ∧ gb.toInt ≠ 0 ∧ 0 ≤ (rV a1.toInt.toNat).toInt) ∨ (r = 0 ∧ (gb.toInt = 0 ∨ (rV a1.toInt.toNat).toInt < 0)))) := by
  refine tM.ofW (cc := cX10_isSet) (maxL := 2) (ret := (some .boolean)) (by decide) rfl (Nat.le_of_ble_eq_true rfl) ?_
  intro p e s m below meth c hx hb hr hml hown hts hlk H locs hG hK hE hS ls hl
  have hl : lv_has ls 2 [(0, .ref a0), (1, .int a1)] := hl
  have in10 : ∀ w ∈ wsX100, w ∈ uX10_isSet := fun w h => List.mem_cons_of_mem _ (List.mem_append_right _ h)
  refine lv_aload_n hx hb dX10_isSet_0 rfl (lv_at hl 0 rfl) ?_
  obtain ⟨r_1, r_3, r_5, r_7, r_9, r_11, r_13, r_15, r_17, r_19, r_21, r_23, r_25, r_27, r_29, r_31, r_33, r_35, r_37, r_39, r_41, r_43, v_45, r_46, at_48, h_2, h_4, h_6, h_8, h_10, h_12, h_14, h_16, h_18, h_20, h_22, h_24, h_26, h_28, h_30, h_32, h_34, h_36, h_38, h_40, h_42, h_44, h_47⟩ := mF_o40 hG k_a0
  refine va_get (D := D) (ci := 9) (v := .int gb) (C := RX10) (T := TX10) (N := 36) hx hb hts in10 hown hK (va_one at_48) 0 rfl rfl 2 (by decide) (hts (.fieldLink RX10 173 "RiverModelModel" "isBuilt" "Z") (List.mem_of_getElem? (i := 1) rfl)) (fun _ h9 => h9) rfl dX10_isSet_1 ?_
  refine lv_if_eq (tgt := 20) hx hb dX10_isSet_4 (by decide) (fun c_49 => ?_) (fun c_49 => ?_)
  · skip
    have c_49 : gb.toInt = 0 := q_eq c_49
    refine lv_iconst (v := 0) hx hb dX10_isSet_20 (by decide) ?_
    have zi_0 : (0 : Int32).toInt = 0 := by decide
    exact ty_zret hx hb hr hlk rfl hG hS (Or.inr ⟨rfl, (by show gb.toInt = 0 ∨ (rV a1.toInt.toNat).toInt < 0; omega)⟩) dX10_isSet_21
  · skip
    have c_49 : gb.toInt ≠ 0 := q_ne c_49
    refine lv_aload_n hx hb dX10_isSet_7 rfl (lv_at hl 0 rfl) ?_
    refine va_get (D := D) (ci := 9) (v := .ref r_19) (C := RX10) (T := TX10) (N := 36) hx hb hts in10 hown hK (va_one at_48) 0 rfl rfl 14 (by decide) (hts (.fieldLink RX10 38 "RiverModelModel" "gaugeKind" "[I") (List.mem_of_getElem? (i := 2) rfl)) (fun _ h9 => h9) rfl dX10_isSet_8 ?_
    refine lv_pc (pc2 := 11) rfl ?_
    refine lv_iload_n hx hb dX10_isSet_11 rfl (lv_at hl 1 rfl) ?_
    have at_50 := mF_o50 hG h_20
    have b_51 : vp_in a1 4 := (q_in (by omega) (by omega))
    refine va_iald hx hb hK (va_one at_50) 0 0 rfl rfl b_51 dX10_isSet_12 ?_
    refine lv_topi (fun x_52 e_53 => ?_)
    have w_x_52 : x_52 = rV (a1.toInt).toNat := by rw [e_53]; exact congrArg (fun q : Int => rV q.toNat) (show a1.toInt = a1.toInt by omega)
    have i_x_52 : x_52.toInt = (rV (a1.toInt).toNat).toInt := by rw [w_x_52]
    refine lv_if_lt (tgt := 20) hx hb dX10_isSet_13 (by decide) (fun c_54 => ?_) (fun c_54 => ?_)
    · skip
      have c_54 : x_52.toInt < 0 := q_lt c_54
      refine lv_iconst (v := 0) hx hb dX10_isSet_20 (by decide) ?_
      have zi_0 : (0 : Int32).toInt = 0 := by decide
      exact ty_zret hx hb hr hlk rfl hG hS (Or.inr ⟨rfl, (by show gb.toInt = 0 ∨ (rV a1.toInt.toNat).toInt < 0; omega)⟩) dX10_isSet_21
    · skip
      have c_54 : 0 ≤ x_52.toInt := q_nlt c_54
      refine lv_iconst (v := 1) hx hb dX10_isSet_16 (by decide) ?_
      refine lv_goto (tgt := 21) hx hb dX10_isSet_17 (by decide) ?_
      have zi_1 : (1 : Int32).toInt = 1 := by decide
      exact ty_zret hx hb hr hlk rfl hG hS (Or.inl ⟨rfl, (by show gb.toInt ≠ 0; omega), (by show 0 ≤ (rV a1.toInt.toNat).toInt; omega)⟩) dX10_isSet_21
