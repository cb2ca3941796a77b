theorem dX10_becomes_0 : decode cX10_becomes 0 = .ok (.aload_n 0, 1) := by decide +kernel
theorem dX10_becomes_1 : decode cX10_becomes 1 = .ok (.iconst 0, 1) := by decide +kernel
theorem dX10_becomes_2 : decode cX10_becomes 2 = .ok (.iload_n 1, 1) := by decide +kernel
theorem dX10_becomes_3 : decode cX10_becomes 3 = .ok (.invokevirtual 170, 3) := by decide +kernel
theorem dX10_becomes_6 : decode cX10_becomes 6 = .ok (.aload_n 0, 1) := by decide +kernel
theorem dX10_becomes_7 : decode cX10_becomes 7 = .ok (.iconst 1, 1) := by decide +kernel
theorem dX10_becomes_8 : decode cX10_becomes 8 = .ok (.putfield 173, 3) := by decide +kernel
theorem dX10_becomes_11 : decode cX10_becomes 11 = .ok (.aload_n 0, 1) := by decide +kernel
theorem dX10_becomes_12 : decode cX10_becomes 12 = .ok (.iconst 0, 1) := by decide +kernel
theorem dX10_becomes_13 : decode cX10_becomes 13 = .ok (.putfield 177, 3) := by decide +kernel
theorem dX10_becomes_16 : decode cX10_becomes 16 = .ok (.aload_n 0, 1) := by decide +kernel
theorem dX10_becomes_17 : decode cX10_becomes 17 = .ok (.iconst 0, 1) := by decide +kernel
theorem dX10_becomes_18 : decode cX10_becomes 18 = .ok (.putfield 180, 3) := by decide +kernel
theorem dX10_becomes_21 : decode cX10_becomes 21 = .ok (.iconst 0, 1) := by decide +kernel
theorem dX10_becomes_22 : decode cX10_becomes 22 = .ok (.istore_n 2, 1) := by decide +kernel
theorem dX10_becomes_23 : decode cX10_becomes 23 = .ok (.iload_n 2, 1) := by decide +kernel
theorem dX10_becomes_24 : decode cX10_becomes 24 = .ok (.bipush 16, 2) := by decide +kernel
theorem dX10_becomes_26 : decode cX10_becomes 26 = .ok (.if_icmp .ge 21, 3) := by decide +kernel
theorem dX10_becomes_29 : decode cX10_becomes 29 = .ok (.aload_n 0, 1) := by decide +kernel
theorem dX10_becomes_30 : decode cX10_becomes 30 = .ok (.getfield 71, 3) := by decide +kernel
theorem dX10_becomes_33 : decode cX10_becomes 33 = .ok (.iload_n 2, 1) := by decide +kernel
theorem dX10_becomes_34 : decode cX10_becomes 34 = .ok (.aload_n 0, 1) := by decide +kernel
theorem dX10_becomes_35 : decode cX10_becomes 35 = .ok (.iconst 0, 1) := by decide +kernel
theorem dX10_becomes_36 : decode cX10_becomes 36 = .ok (.iload_n 2, 1) := by decide +kernel
theorem dX10_becomes_37 : decode cX10_becomes 37 = .ok (.invokevirtual 183, 3) := by decide +kernel
theorem dX10_becomes_40 : decode cX10_becomes 40 = .ok (.iastore, 1) := by decide +kernel
theorem dX10_becomes_41 : decode cX10_becomes 41 = .ok (.iinc 2 1, 3) := by decide +kernel
theorem dX10_becomes_44 : decode cX10_becomes 44 = .ok (.goto (-21), 3) := by decide +kernel
theorem dX10_becomes_47 : decode cX10_becomes 47 = .ok (.aload_n 0, 1) := by decide +kernel
theorem dX10_becomes_48 : decode cX10_becomes 48 = .ok (.iconst 0, 1) := by decide +kernel
theorem dX10_becomes_49 : decode cX10_becomes 49 = .ok (.iconst 0, 1) := by decide +kernel
theorem dX10_becomes_50 : decode cX10_becomes 50 = .ok (.invokevirtual 186, 3) := by decide +kernel
theorem dX10_becomes_53 : decode cX10_becomes 53 = .ok (.return_, 1) := by decide +kernel
theorem dX10_begins_0 : decode cX10_begins 0 = .ok (.iconst 0, 1) := by decide +kernel
theorem dX10_begins_1 : decode cX10_begins 1 = .ok (.istore_n 3, 1) := by decide +kernel
theorem dX10_begins_2 : decode cX10_begins 2 = .ok (.iload_n 3, 1) := by decide +kernel
theorem dX10_begins_3 : decode cX10_begins 3 = .ok (.sipush 280, 3) := by decide +kernel
theorem dX10_begins_6 : decode cX10_begins 6 = .ok (.if_icmp .ge 36, 3) := by decide +kernel
theorem dX10_begins_9 : decode cX10_begins 9 = .ok (.aload_n 0, 1) := by decide +kernel
theorem dX10_begins_10 : decode cX10_begins 10 = .ok (.getfield 28, 3) := by decide +kernel
theorem dX10_begins_13 : decode cX10_begins 13 = .ok (.iload_n 3, 1) := by decide +kernel
theorem dX10_begins_14 : decode cX10_begins 14 = .ok (.iload_n 3, 1) := by decide +kernel
theorem dX10_begins_15 : decode cX10_begins 15 = .ok (.i2l, 1) := by decide +kernel
theorem dX10_begins_16 : decode cX10_begins 16 = .ok (.ldc2_w 204, 3) := by decide +kernel
theorem dX10_begins_19 : decode cX10_begins 19 = .ok (.ldc2_w 206, 3) := by decide +kernel
theorem dX10_begins_22 : decode cX10_begins 22 = .ok (.invokestatic 85, 3) := by decide +kernel
theorem dX10_begins_25 : decode cX10_begins 25 = .ok (.ifCond .eq 9, 3) := by decide +kernel
theorem dX10_begins_28 : decode cX10_begins 28 = .ok (.ldc2_w 196, 3) := by decide +kernel
theorem dX10_begins_31 : decode cX10_begins 31 = .ok (.goto 4, 3) := by decide +kernel
theorem dX10_begins_34 : decode cX10_begins 34 = .ok (.lconst 0, 1) := by decide +kernel
theorem dX10_begins_35 : decode cX10_begins 35 = .ok (.lastore, 1) := by decide +kernel
theorem dX10_begins_36 : decode cX10_begins 36 = .ok (.iinc 3 1, 3) := by decide +kernel
theorem dX10_begins_39 : decode cX10_begins 39 = .ok (.goto (-37), 3) := by decide +kernel
theorem dX10_begins_42 : decode cX10_begins 42 = .ok (.iconst 0, 1) := by decide +kernel
theorem dX10_begins_43 : decode cX10_begins 43 = .ok (.istore_n 3, 1) := by decide +kernel
theorem dX10_begins_44 : decode cX10_begins 44 = .ok (.iload_n 3, 1) := by decide +kernel
theorem dX10_begins_45 : decode cX10_begins 45 = .ok (.bipush 16, 2) := by decide +kernel
theorem dX10_begins_47 : decode cX10_begins 47 = .ok (.if_icmp .ge 44, 3) := by decide +kernel
theorem dX10_begins_50 : decode cX10_begins 50 = .ok (.aload_n 0, 1) := by decide +kernel
theorem dX10_begins_51 : decode cX10_begins 51 = .ok (.getfield 28, 3) := by decide +kernel
theorem dX10_begins_54 : decode cX10_begins 54 = .ok (.iload_n 3, 1) := by decide +kernel
theorem dX10_begins_55 : decode cX10_begins 55 = .ok (.iload_n 2, 1) := by decide +kernel
theorem dX10_begins_56 : decode cX10_begins 56 = .ok (.ifCond .eq 21, 3) := by decide +kernel
theorem dX10_begins_59 : decode cX10_begins 59 = .ok (.aload_n 0, 1) := by decide +kernel
theorem dX10_begins_60 : decode cX10_begins 60 = .ok (.iload_n 3, 1) := by decide +kernel
theorem dX10_begins_61 : decode cX10_begins 61 = .ok (.invokevirtual 208, 3) := by decide +kernel
theorem dX10_begins_64 : decode cX10_begins 64 = .ok (.ifCond .eq 13, 3) := by decide +kernel
theorem dX10_begins_67 : decode cX10_begins 67 = .ok (.aload_n 0, 1) := by decide +kernel
theorem dX10_begins_68 : decode cX10_begins 68 = .ok (.getfield 71, 3) := by decide +kernel
theorem dX10_begins_71 : decode cX10_begins 71 = .ok (.iload_n 3, 1) := by decide +kernel
theorem dX10_begins_72 : decode cX10_begins 72 = .ok (.iaload, 1) := by decide +kernel
theorem dX10_begins_73 : decode cX10_begins 73 = .ok (.i2l, 1) := by decide +kernel
theorem dX10_begins_74 : decode cX10_begins 74 = .ok (.goto 10, 3) := by decide +kernel
theorem dX10_begins_77 : decode cX10_begins 77 = .ok (.aload_n 0, 1) := by decide +kernel
theorem dX10_begins_78 : decode cX10_begins 78 = .ok (.iload_n 1, 1) := by decide +kernel
theorem dX10_begins_79 : decode cX10_begins 79 = .ok (.iload_n 3, 1) := by decide +kernel
theorem dX10_begins_80 : decode cX10_begins 80 = .ok (.invokevirtual 183, 3) := by decide +kernel
theorem dX10_begins_83 : decode cX10_begins 83 = .ok (.i2l, 1) := by decide +kernel
theorem dX10_begins_84 : decode cX10_begins 84 = .ok (.lastore, 1) := by decide +kernel
theorem dX10_begins_85 : decode cX10_begins 85 = .ok (.iinc 3 1, 3) := by decide +kernel
theorem dX10_begins_88 : decode cX10_begins 88 = .ok (.goto (-44), 3) := by decide +kernel
theorem dX10_begins_91 : decode cX10_begins 91 = .ok (.return_, 1) := by decide +kernel
theorem dX10_passes_0 : decode cX10_passes 0 = .ok (.aload_n 0, 1) := by decide +kernel
theorem dX10_passes_1 : decode cX10_passes 1 = .ok (.getfield 28, 3) := by decide +kernel
theorem dX10_passes_4 : decode cX10_passes 4 = .ok (.sipush 231, 3) := by decide +kernel
theorem dX10_passes_7 : decode cX10_passes 7 = .ok (.laload, 1) := by decide +kernel
theorem dX10_passes_8 : decode cX10_passes 8 = .ok (.l2i, 1) := by decide +kernel
theorem dX10_passes_9 : decode cX10_passes 9 = .ok (.istore 4, 2) := by decide +kernel
theorem dX10_passes_11 : decode cX10_passes 11 = .ok (.iconst 0, 1) := by decide +kernel
theorem dX10_passes_12 : decode cX10_passes 12 = .ok (.istore 5, 2) := by decide +kernel
theorem dX10_passes_14 : decode cX10_passes 14 = .ok (.iload 5, 2) := by decide +kernel
theorem dX10_passes_16 : decode cX10_passes 16 = .ok (.bipush 16, 2) := by decide +kernel
theorem dX10_passes_18 : decode cX10_passes 18 = .ok (.if_icmp .ge 58, 3) := by decide +kernel
theorem dX10_passes_21 : decode cX10_passes 21 = .ok (.aload_n 0, 1) := by decide +kernel
theorem dX10_passes_22 : decode cX10_passes 22 = .ok (.getfield 28, 3) := by decide +kernel
theorem dX10_passes_25 : decode cX10_passes 25 = .ok (.iload 5, 2) := by decide +kernel
theorem dX10_passes_27 : decode cX10_passes 27 = .ok (.dup2, 1) := by decide +kernel
theorem dX10_passes_28 : decode cX10_passes 28 = .ok (.laload, 1) := by decide +kernel
theorem dX10_passes_29 : decode cX10_passes 29 = .ok (.aload_n 0, 1) := by decide +kernel
theorem dX10_passes_30 : decode cX10_passes 30 = .ok (.getfield 28, 3) := by decide +kernel
theorem dX10_passes_33 : decode cX10_passes 33 = .ok (.bipush 16, 2) := by decide +kernel
theorem dX10_passes_35 : decode cX10_passes 35 = .ok (.bipush 13, 2) := by decide +kernel
theorem dX10_passes_37 : decode cX10_passes 37 = .ok (.iload 5, 2) := by decide +kernel
theorem dX10_passes_39 : decode cX10_passes 39 = .ok (.imul, 1) := by decide +kernel
theorem dX10_passes_40 : decode cX10_passes 40 = .ok (.iadd, 1) := by decide +kernel
theorem dX10_passes_41 : decode cX10_passes 41 = .ok (.iload 4, 2) := by decide +kernel
theorem dX10_passes_43 : decode cX10_passes 43 = .ok (.bipush 13, 2) := by decide +kernel
theorem dX10_passes_45 : decode cX10_passes 45 = .ok (.irem, 1) := by decide +kernel
theorem dX10_passes_46 : decode cX10_passes 46 = .ok (.iadd, 1) := by decide +kernel
theorem dX10_passes_47 : decode cX10_passes 47 = .ok (.laload, 1) := by decide +kernel
theorem dX10_passes_48 : decode cX10_passes 48 = .ok (.ladd, 1) := by decide +kernel
theorem dX10_passes_49 : decode cX10_passes 49 = .ok (.lastore, 1) := by decide +kernel
theorem dX10_passes_50 : decode cX10_passes 50 = .ok (.aload_n 0, 1) := by decide +kernel
theorem dX10_passes_51 : decode cX10_passes 51 = .ok (.getfield 28, 3) := by decide +kernel
theorem dX10_passes_54 : decode cX10_passes 54 = .ok (.bipush 16, 2) := by decide +kernel
theorem dX10_passes_56 : decode cX10_passes 56 = .ok (.bipush 13, 2) := by decide +kernel
theorem dX10_passes_58 : decode cX10_passes 58 = .ok (.iload 5, 2) := by decide +kernel
theorem dX10_passes_60 : decode cX10_passes 60 = .ok (.imul, 1) := by decide +kernel
theorem dX10_passes_61 : decode cX10_passes 61 = .ok (.iadd, 1) := by decide +kernel
theorem dX10_passes_62 : decode cX10_passes 62 = .ok (.iload 4, 2) := by decide +kernel
theorem dX10_passes_64 : decode cX10_passes 64 = .ok (.bipush 13, 2) := by decide +kernel
theorem dX10_passes_66 : decode cX10_passes 66 = .ok (.irem, 1) := by decide +kernel
theorem dX10_passes_67 : decode cX10_passes 67 = .ok (.iadd, 1) := by decide +kernel
theorem dX10_passes_68 : decode cX10_passes 68 = .ok (.lconst 0, 1) := by decide +kernel
theorem dX10_passes_69 : decode cX10_passes 69 = .ok (.lastore, 1) := by decide +kernel
theorem dX10_passes_70 : decode cX10_passes 70 = .ok (.iinc 5 1, 3) := by decide +kernel
theorem dX10_passes_73 : decode cX10_passes 73 = .ok (.goto (-59), 3) := by decide +kernel
theorem dX10_passes_76 : decode cX10_passes 76 = .ok (.iconst 0, 1) := by decide +kernel
theorem dX10_passes_77 : decode cX10_passes 77 = .ok (.istore 5, 2) := by decide +kernel
theorem dX10_passes_79 : decode cX10_passes 79 = .ok (.iconst 0, 1) := by decide +kernel
theorem dX10_passes_80 : decode cX10_passes 80 = .ok (.istore 6, 2) := by decide +kernel
theorem dX10_passes_82 : decode cX10_passes 82 = .ok (.iload 6, 2) := by decide +kernel
theorem dX10_passes_84 : decode cX10_passes 84 = .ok (.aload_n 0, 1) := by decide +kernel
theorem dX10_passes_85 : decode cX10_passes 85 = .ok (.getfield 163, 3) := by decide +kernel
theorem dX10_passes_88 : decode cX10_passes 88 = .ok (.if_icmp .ge 275, 3) := by decide +kernel
theorem dX10_passes_91 : decode cX10_passes 91 = .ok (.bipush 40, 2) := by decide +kernel
theorem dX10_passes_93 : decode cX10_passes 93 = .ok (.iload_n 1, 1) := by decide +kernel
theorem dX10_passes_94 : decode cX10_passes 94 = .ok (.imul, 1) := by decide +kernel
theorem dX10_passes_95 : decode cX10_passes 95 = .ok (.iload 6, 2) := by decide +kernel
theorem dX10_passes_97 : decode cX10_passes 97 = .ok (.iadd, 1) := by decide +kernel
theorem dX10_passes_98 : decode cX10_passes 98 = .ok (.istore 7, 2) := by decide +kernel
theorem dX10_passes_100 : decode cX10_passes 100 = .ok (.aload_n 0, 1) := by decide +kernel
theorem dX10_passes_101 : decode cX10_passes 101 = .ok (.getfield 13, 3) := by decide +kernel
theorem dX10_passes_104 : decode cX10_passes 104 = .ok (.iload 7, 2) := by decide +kernel
theorem dX10_passes_106 : decode cX10_passes 106 = .ok (.iaload, 1) := by decide +kernel
theorem dX10_passes_107 : decode cX10_passes 107 = .ok (.istore 8, 2) := by decide +kernel
theorem dX10_passes_109 : decode cX10_passes 109 = .ok (.aload_n 0, 1) := by decide +kernel
theorem dX10_passes_110 : decode cX10_passes 110 = .ok (.iload 7, 2) := by decide +kernel
theorem dX10_passes_112 : decode cX10_passes 112 = .ok (.iload 5, 2) := by decide +kernel
theorem dX10_passes_114 : decode cX10_passes 114 = .ok (.iload_n 2, 1) := by decide +kernel
theorem dX10_passes_115 : decode cX10_passes 115 = .ok (.iload_n 3, 1) := by decide +kernel
theorem dX10_passes_116 : decode cX10_passes 116 = .ok (.invokevirtual 221, 3) := by decide +kernel
theorem dX10_passes_119 : decode cX10_passes 119 = .ok (.lstore 9, 2) := by decide +kernel
theorem dX10_passes_121 : decode cX10_passes 121 = .ok (.iload 5, 2) := by decide +kernel
theorem dX10_passes_123 : decode cX10_passes 123 = .ok (.iload 8, 2) := by decide +kernel
theorem dX10_passes_125 : decode cX10_passes 125 = .ok (.bipush 103, 2) := by decide +kernel
theorem dX10_passes_127 : decode cX10_passes 127 = .ok (.if_icmp .ne 7, 3) := by decide +kernel
theorem dX10_passes_130 : decode cX10_passes 130 = .ok (.iconst 1, 1) := by decide +kernel
theorem dX10_passes_131 : decode cX10_passes 131 = .ok (.goto 4, 3) := by decide +kernel
theorem dX10_passes_134 : decode cX10_passes 134 = .ok (.iconst 0, 1) := by decide +kernel
theorem dX10_passes_135 : decode cX10_passes 135 = .ok (.iadd, 1) := by decide +kernel
theorem dX10_passes_136 : decode cX10_passes 136 = .ok (.istore 5, 2) := by decide +kernel
theorem dX10_passes_138 : decode cX10_passes 138 = .ok (.aload_n 0, 1) := by decide +kernel
theorem dX10_passes_139 : decode cX10_passes 139 = .ok (.getfield 28, 3) := by decide +kernel
theorem dX10_passes_142 : decode cX10_passes 142 = .ok (.sipush 240, 3) := by decide +kernel
theorem dX10_passes_145 : decode cX10_passes 145 = .ok (.iload 6, 2) := by decide +kernel
theorem dX10_passes_147 : decode cX10_passes 147 = .ok (.iadd, 1) := by decide +kernel
theorem dX10_passes_148 : decode cX10_passes 148 = .ok (.lload 9, 2) := by decide +kernel
theorem dX10_passes_150 : decode cX10_passes 150 = .ok (.lastore, 1) := by decide +kernel
theorem dX10_passes_151 : decode cX10_passes 151 = .ok (.iload 8, 2) := by decide +kernel
theorem dX10_passes_153 : decode cX10_passes 153 = .ok (.bipush 114, 2) := by decide +kernel
theorem dX10_passes_155 : decode cX10_passes 155 = .ok (.if_icmp .eq 10, 3) := by decide +kernel
theorem dX10_passes_158 : decode cX10_passes 158 = .ok (.iload 8, 2) := by decide +kernel
theorem dX10_passes_160 : decode cX10_passes 160 = .ok (.bipush 110, 2) := by decide +kernel
theorem dX10_passes_162 : decode cX10_passes 162 = .ok (.if_icmp .ne 7, 3) := by decide +kernel
theorem dX10_passes_165 : decode cX10_passes 165 = .ok (.iconst 1, 1) := by decide +kernel
theorem dX10_passes_166 : decode cX10_passes 166 = .ok (.goto 4, 3) := by decide +kernel
theorem dX10_passes_169 : decode cX10_passes 169 = .ok (.iconst 0, 1) := by decide +kernel
theorem dX10_passes_170 : decode cX10_passes 170 = .ok (.istore 11, 2) := by decide +kernel
theorem dX10_passes_172 : decode cX10_passes 172 = .ok (.aload_n 0, 1) := by decide +kernel
theorem dX10_passes_173 : decode cX10_passes 173 = .ok (.getfield 28, 3) := by decide +kernel
theorem dX10_passes_176 : decode cX10_passes 176 = .ok (.aload_n 0, 1) := by decide +kernel
theorem dX10_passes_177 : decode cX10_passes 177 = .ok (.getfield 16, 3) := by decide +kernel
theorem dX10_passes_180 : decode cX10_passes 180 = .ok (.iload 7, 2) := by decide +kernel
theorem dX10_passes_182 : decode cX10_passes 182 = .ok (.iaload, 1) := by decide +kernel
theorem dX10_passes_183 : decode cX10_passes 183 = .ok (.dup2, 1) := by decide +kernel
theorem dX10_passes_184 : decode cX10_passes 184 = .ok (.laload, 1) := by decide +kernel
theorem dX10_passes_185 : decode cX10_passes 185 = .ok (.iload 11, 2) := by decide +kernel
theorem dX10_passes_187 : decode cX10_passes 187 = .ok (.ifCond .eq 8, 3) := by decide +kernel
theorem dX10_passes_190 : decode cX10_passes 190 = .ok (.lload 9, 2) := by decide +kernel
theorem dX10_passes_192 : decode cX10_passes 192 = .ok (.goto 17, 3) := by decide +kernel
theorem dX10_passes_195 : decode cX10_passes 195 = .ok (.iload 8, 2) := by decide +kernel
theorem dX10_passes_197 : decode cX10_passes 197 = .ok (.bipush 115, 2) := by decide +kernel
theorem dX10_passes_199 : decode cX10_passes 199 = .ok (.if_icmp .ne 7, 3) := by decide +kernel
theorem dX10_passes_202 : decode cX10_passes 202 = .ok (.lconst 0, 1) := by decide +kernel
theorem dX10_passes_203 : decode cX10_passes 203 = .ok (.goto 6, 3) := by decide +kernel
theorem dX10_passes_206 : decode cX10_passes 206 = .ok (.lload 9, 2) := by decide +kernel
theorem dX10_passes_208 : decode cX10_passes 208 = .ok (.lneg, 1) := by decide +kernel
theorem dX10_passes_209 : decode cX10_passes 209 = .ok (.ladd, 1) := by decide +kernel
theorem dX10_passes_210 : decode cX10_passes 210 = .ok (.lastore, 1) := by decide +kernel
theorem dX10_passes_211 : decode cX10_passes 211 = .ok (.aload_n 0, 1) := by decide +kernel
theorem dX10_passes_212 : decode cX10_passes 212 = .ok (.getfield 28, 3) := by decide +kernel
theorem dX10_passes_215 : decode cX10_passes 215 = .ok (.sipush 230, 3) := by decide +kernel
theorem dX10_passes_218 : decode cX10_passes 218 = .ok (.dup2, 1) := by decide +kernel
theorem dX10_passes_219 : decode cX10_passes 219 = .ok (.laload, 1) := by decide +kernel
theorem dX10_passes_220 : decode cX10_passes 220 = .ok (.iload 11, 2) := by decide +kernel
theorem dX10_passes_222 : decode cX10_passes 222 = .ok (.ifCond .eq 8, 3) := by decide +kernel
theorem dX10_passes_225 : decode cX10_passes 225 = .ok (.lload 9, 2) := by decide +kernel
theorem dX10_passes_227 : decode cX10_passes 227 = .ok (.goto 4, 3) := by decide +kernel
theorem dX10_passes_230 : decode cX10_passes 230 = .ok (.lconst 0, 1) := by decide +kernel
theorem dX10_passes_231 : decode cX10_passes 231 = .ok (.ladd, 1) := by decide +kernel
theorem dX10_passes_232 : decode cX10_passes 232 = .ok (.lastore, 1) := by decide +kernel
theorem dX10_passes_233 : decode cX10_passes 233 = .ok (.aload_n 0, 1) := by decide +kernel
theorem dX10_passes_234 : decode cX10_passes 234 = .ok (.getfield 28, 3) := by decide +kernel
theorem dX10_passes_237 : decode cX10_passes 237 = .ok (.sipush 228, 3) := by decide +kernel
theorem dX10_passes_240 : decode cX10_passes 240 = .ok (.dup2, 1) := by decide +kernel
theorem dX10_passes_241 : decode cX10_passes 241 = .ok (.laload, 1) := by decide +kernel
theorem dX10_passes_242 : decode cX10_passes 242 = .ok (.iload 8, 2) := by decide +kernel
theorem dX10_passes_244 : decode cX10_passes 244 = .ok (.bipush 101, 2) := by decide +kernel
theorem dX10_passes_246 : decode cX10_passes 246 = .ok (.if_icmp .ne 8, 3) := by decide +kernel
theorem dX10_passes_249 : decode cX10_passes 249 = .ok (.lload 9, 2) := by decide +kernel
theorem dX10_passes_251 : decode cX10_passes 251 = .ok (.goto 4, 3) := by decide +kernel
theorem dX10_passes_254 : decode cX10_passes 254 = .ok (.lconst 0, 1) := by decide +kernel
theorem dX10_passes_255 : decode cX10_passes 255 = .ok (.ladd, 1) := by decide +kernel
theorem dX10_passes_256 : decode cX10_passes 256 = .ok (.lastore, 1) := by decide +kernel
theorem dX10_passes_257 : decode cX10_passes 257 = .ok (.aload_n 0, 1) := by decide +kernel
theorem dX10_passes_258 : decode cX10_passes 258 = .ok (.getfield 28, 3) := by decide +kernel
theorem dX10_passes_261 : decode cX10_passes 261 = .ok (.sipush 229, 3) := by decide +kernel
theorem dX10_passes_264 : decode cX10_passes 264 = .ok (.dup2, 1) := by decide +kernel
theorem dX10_passes_265 : decode cX10_passes 265 = .ok (.laload, 1) := by decide +kernel
theorem dX10_passes_266 : decode cX10_passes 266 = .ok (.iload 8, 2) := by decide +kernel
theorem dX10_passes_268 : decode cX10_passes 268 = .ok (.bipush 122, 2) := by decide +kernel
theorem dX10_passes_270 : decode cX10_passes 270 = .ok (.if_icmp .ne 8, 3) := by decide +kernel
theorem dX10_passes_273 : decode cX10_passes 273 = .ok (.lload 9, 2) := by decide +kernel
theorem dX10_passes_275 : decode cX10_passes 275 = .ok (.goto 4, 3) := by decide +kernel
theorem dX10_passes_278 : decode cX10_passes 278 = .ok (.lconst 0, 1) := by decide +kernel
theorem dX10_passes_279 : decode cX10_passes 279 = .ok (.ladd, 1) := by decide +kernel
theorem dX10_passes_280 : decode cX10_passes 280 = .ok (.lastore, 1) := by decide +kernel
theorem dX10_passes_281 : decode cX10_passes 281 = .ok (.iload 8, 2) := by decide +kernel
theorem dX10_passes_283 : decode cX10_passes 283 = .ok (.bipush 116, 2) := by decide +kernel
theorem dX10_passes_285 : decode cX10_passes 285 = .ok (.if_icmp .ne 45, 3) := by decide +kernel
theorem dX10_passes_288 : decode cX10_passes 288 = .ok (.aload_n 0, 1) := by decide +kernel
theorem dX10_passes_289 : decode cX10_passes 289 = .ok (.getfield 28, 3) := by decide +kernel
theorem dX10_passes_292 : decode cX10_passes 292 = .ok (.bipush 16, 2) := by decide +kernel
theorem dX10_passes_294 : decode cX10_passes 294 = .ok (.bipush 13, 2) := by decide +kernel
theorem dX10_passes_296 : decode cX10_passes 296 = .ok (.aload_n 0, 1) := by decide +kernel
theorem dX10_passes_297 : decode cX10_passes 297 = .ok (.getfield 19, 3) := by decide +kernel
theorem dX10_passes_300 : decode cX10_passes 300 = .ok (.iload 7, 2) := by decide +kernel
theorem dX10_passes_302 : decode cX10_passes 302 = .ok (.iaload, 1) := by decide +kernel
theorem dX10_passes_303 : decode cX10_passes 303 = .ok (.imul, 1) := by decide +kernel
theorem dX10_passes_304 : decode cX10_passes 304 = .ok (.iadd, 1) := by decide +kernel
theorem dX10_passes_305 : decode cX10_passes 305 = .ok (.iload 4, 2) := by decide +kernel
theorem dX10_passes_307 : decode cX10_passes 307 = .ok (.aload_n 0, 1) := by decide +kernel
theorem dX10_passes_308 : decode cX10_passes 308 = .ok (.getfield 22, 3) := by decide +kernel
theorem dX10_passes_311 : decode cX10_passes 311 = .ok (.iconst 3, 1) := by decide +kernel
theorem dX10_passes_312 : decode cX10_passes 312 = .ok (.iload 7, 2) := by decide +kernel
theorem dX10_passes_314 : decode cX10_passes 314 = .ok (.imul, 1) := by decide +kernel
theorem dX10_passes_315 : decode cX10_passes 315 = .ok (.iaload, 1) := by decide +kernel
theorem dX10_passes_316 : decode cX10_passes 316 = .ok (.iadd, 1) := by decide +kernel
theorem dX10_passes_317 : decode cX10_passes 317 = .ok (.bipush 13, 2) := by decide +kernel
theorem dX10_passes_319 : decode cX10_passes 319 = .ok (.irem, 1) := by decide +kernel
theorem dX10_passes_320 : decode cX10_passes 320 = .ok (.iadd, 1) := by decide +kernel
theorem dX10_passes_321 : decode cX10_passes 321 = .ok (.dup2, 1) := by decide +kernel
theorem dX10_passes_322 : decode cX10_passes 322 = .ok (.laload, 1) := by decide +kernel
theorem dX10_passes_323 : decode cX10_passes 323 = .ok (.lload 9, 2) := by decide +kernel
theorem dX10_passes_325 : decode cX10_passes 325 = .ok (.ladd, 1) := by decide +kernel
theorem dX10_passes_326 : decode cX10_passes 326 = .ok (.lastore, 1) := by decide +kernel
theorem dX10_passes_327 : decode cX10_passes 327 = .ok (.goto 30, 3) := by decide +kernel
theorem dX10_passes_330 : decode cX10_passes 330 = .ok (.aload_n 0, 1) := by decide +kernel
theorem dX10_passes_331 : decode cX10_passes 331 = .ok (.getfield 19, 3) := by decide +kernel
theorem dX10_passes_334 : decode cX10_passes 334 = .ok (.iload 7, 2) := by decide +kernel
theorem dX10_passes_336 : decode cX10_passes 336 = .ok (.iaload, 1) := by decide +kernel
theorem dX10_passes_337 : decode cX10_passes 337 = .ok (.ifCond .lt 20, 3) := by decide +kernel
theorem dX10_passes_340 : decode cX10_passes 340 = .ok (.aload_n 0, 1) := by decide +kernel
theorem dX10_passes_341 : decode cX10_passes 341 = .ok (.getfield 28, 3) := by decide +kernel
theorem dX10_passes_344 : decode cX10_passes 344 = .ok (.aload_n 0, 1) := by decide +kernel
theorem dX10_passes_345 : decode cX10_passes 345 = .ok (.getfield 19, 3) := by decide +kernel
theorem dX10_passes_348 : decode cX10_passes 348 = .ok (.iload 7, 2) := by decide +kernel
theorem dX10_passes_350 : decode cX10_passes 350 = .ok (.iaload, 1) := by decide +kernel
theorem dX10_passes_351 : decode cX10_passes 351 = .ok (.dup2, 1) := by decide +kernel
theorem dX10_passes_352 : decode cX10_passes 352 = .ok (.laload, 1) := by decide +kernel
theorem dX10_passes_353 : decode cX10_passes 353 = .ok (.lload 9, 2) := by decide +kernel
theorem dX10_passes_355 : decode cX10_passes 355 = .ok (.ladd, 1) := by decide +kernel
theorem dX10_passes_356 : decode cX10_passes 356 = .ok (.lastore, 1) := by decide +kernel
theorem dX10_passes_357 : decode cX10_passes 357 = .ok (.iinc 6 1, 3) := by decide +kernel
theorem dX10_passes_360 : decode cX10_passes 360 = .ok (.goto (-278), 3) := by decide +kernel
theorem dX10_passes_363 : decode cX10_passes 363 = .ok (.aload_n 0, 1) := by decide +kernel
theorem dX10_passes_364 : decode cX10_passes 364 = .ok (.getfield 28, 3) := by decide +kernel
theorem dX10_passes_367 : decode cX10_passes 367 = .ok (.sipush 231, 3) := by decide +kernel
theorem dX10_passes_370 : decode cX10_passes 370 = .ok (.dup2, 1) := by decide +kernel
theorem dX10_passes_371 : decode cX10_passes 371 = .ok (.laload, 1) := by decide +kernel
theorem dX10_passes_372 : decode cX10_passes 372 = .ok (.lconst 1, 1) := by decide +kernel
theorem dX10_passes_373 : decode cX10_passes 373 = .ok (.ladd, 1) := by decide +kernel
theorem dX10_passes_374 : decode cX10_passes 374 = .ok (.lastore, 1) := by decide +kernel
theorem dX10_passes_375 : decode cX10_passes 375 = .ok (.return_, 1) := by decide +kernel
theorem dX10_goes_0 : decode cX10_goes 0 = .ok (.aload_n 0, 1) := by decide +kernel
theorem dX10_goes_1 : decode cX10_goes 1 = .ok (.getfield 28, 3) := by decide +kernel
theorem dX10_goes_4 : decode cX10_goes 4 = .ok (.sipush 231, 3) := by decide +kernel
theorem dX10_goes_7 : decode cX10_goes 7 = .ok (.laload, 1) := by decide +kernel
theorem dX10_goes_8 : decode cX10_goes 8 = .ok (.l2i, 1) := by decide +kernel
theorem dX10_goes_9 : decode cX10_goes 9 = .ok (.istore_n 3, 1) := by decide +kernel
theorem dX10_goes_10 : decode cX10_goes 10 = .ok (.aload_n 0, 1) := by decide +kernel
theorem dX10_goes_11 : decode cX10_goes 11 = .ok (.iload_n 1, 1) := by decide +kernel
theorem dX10_goes_12 : decode cX10_goes 12 = .ok (.aload_n 0, 1) := by decide +kernel
theorem dX10_goes_13 : decode cX10_goes 13 = .ok (.getfield 25, 3) := by decide +kernel
theorem dX10_goes_16 : decode cX10_goes 16 = .ok (.sipush 192, 3) := by decide +kernel
theorem dX10_goes_19 : decode cX10_goes 19 = .ok (.iload_n 2, 1) := by decide +kernel
theorem dX10_goes_20 : decode cX10_goes 20 = .ok (.imul, 1) := by decide +kernel
theorem dX10_goes_21 : decode cX10_goes 21 = .ok (.iconst 2, 1) := by decide +kernel
theorem dX10_goes_22 : decode cX10_goes 22 = .ok (.iload_n 3, 1) := by decide +kernel
theorem dX10_goes_23 : decode cX10_goes 23 = .ok (.imul, 1) := by decide +kernel
theorem dX10_goes_24 : decode cX10_goes 24 = .ok (.iadd, 1) := by decide +kernel
theorem dX10_goes_25 : decode cX10_goes 25 = .ok (.iaload, 1) := by decide +kernel
theorem dX10_goes_26 : decode cX10_goes 26 = .ok (.aload_n 0, 1) := by decide +kernel
theorem dX10_goes_27 : decode cX10_goes 27 = .ok (.getfield 25, 3) := by decide +kernel
theorem dX10_goes_30 : decode cX10_goes 30 = .ok (.sipush 192, 3) := by decide +kernel
theorem dX10_goes_33 : decode cX10_goes 33 = .ok (.iload_n 2, 1) := by decide +kernel
theorem dX10_goes_34 : decode cX10_goes 34 = .ok (.imul, 1) := by decide +kernel
theorem dX10_goes_35 : decode cX10_goes 35 = .ok (.iconst 2, 1) := by decide +kernel
theorem dX10_goes_36 : decode cX10_goes 36 = .ok (.iload_n 3, 1) := by decide +kernel
theorem dX10_goes_37 : decode cX10_goes 37 = .ok (.imul, 1) := by decide +kernel
theorem dX10_goes_38 : decode cX10_goes 38 = .ok (.iadd, 1) := by decide +kernel
theorem dX10_goes_39 : decode cX10_goes 39 = .ok (.iconst 1, 1) := by decide +kernel
theorem dX10_goes_40 : decode cX10_goes 40 = .ok (.iadd, 1) := by decide +kernel
theorem dX10_goes_41 : decode cX10_goes 41 = .ok (.iaload, 1) := by decide +kernel
theorem dX10_goes_42 : decode cX10_goes 42 = .ok (.invokevirtual 225, 3) := by decide +kernel
theorem dX10_goes_45 : decode cX10_goes 45 = .ok (.return_, 1) := by decide +kernel
theorem dX10_asides_0 : decode cX10_asides 0 = .ok (.iconst 0, 1) := by decide +kernel
theorem dX10_asides_1 : decode cX10_asides 1 = .ok (.istore_n 1, 1) := by decide +kernel
theorem dX10_asides_2 : decode cX10_asides 2 = .ok (.iload_n 1, 1) := by decide +kernel
theorem dX10_asides_3 : decode cX10_asides 3 = .ok (.sipush 280, 3) := by decide +kernel
theorem dX10_asides_6 : decode cX10_asides 6 = .ok (.if_icmp .ge 21, 3) := by decide +kernel
theorem dX10_asides_9 : decode cX10_asides 9 = .ok (.aload_n 0, 1) := by decide +kernel
theorem dX10_asides_10 : decode cX10_asides 10 = .ok (.getfield 32, 3) := by decide +kernel
theorem dX10_asides_13 : decode cX10_asides 13 = .ok (.iload_n 1, 1) := by decide +kernel
theorem dX10_asides_14 : decode cX10_asides 14 = .ok (.aload_n 0, 1) := by decide +kernel
theorem dX10_asides_15 : decode cX10_asides 15 = .ok (.getfield 28, 3) := by decide +kernel
theorem dX10_asides_18 : decode cX10_asides 18 = .ok (.iload_n 1, 1) := by decide +kernel
theorem dX10_asides_19 : decode cX10_asides 19 = .ok (.laload, 1) := by decide +kernel
theorem dX10_asides_20 : decode cX10_asides 20 = .ok (.lastore, 1) := by decide +kernel
theorem dX10_asides_21 : decode cX10_asides 21 = .ok (.iinc 1 1, 3) := by decide +kernel
theorem dX10_asides_24 : decode cX10_asides 24 = .ok (.goto (-22), 3) := by decide +kernel
theorem dX10_asides_27 : decode cX10_asides 27 = .ok (.return_, 1) := by decide +kernel
theorem dX10_returns_0 : decode cX10_returns 0 = .ok (.iconst 0, 1) := by decide +kernel
theorem dX10_returns_1 : decode cX10_returns 1 = .ok (.istore_n 1, 1) := by decide +kernel
theorem dX10_returns_2 : decode cX10_returns 2 = .ok (.iload_n 1, 1) := by decide +kernel
theorem dX10_returns_3 : decode cX10_returns 3 = .ok (.sipush 280, 3) := by decide +kernel
theorem dX10_returns_6 : decode cX10_returns 6 = .ok (.if_icmp .ge 21, 3) := by decide +kernel
theorem dX10_returns_9 : decode cX10_returns 9 = .ok (.aload_n 0, 1) := by decide +kernel
theorem dX10_returns_10 : decode cX10_returns 10 = .ok (.getfield 28, 3) := by decide +kernel
theorem dX10_returns_13 : decode cX10_returns 13 = .ok (.iload_n 1, 1) := by decide +kernel
theorem dX10_returns_14 : decode cX10_returns 14 = .ok (.aload_n 0, 1) := by decide +kernel
theorem dX10_returns_15 : decode cX10_returns 15 = .ok (.getfield 32, 3) := by decide +kernel
theorem dX10_returns_18 : decode cX10_returns 18 = .ok (.iload_n 1, 1) := by decide +kernel
theorem dX10_returns_19 : decode cX10_returns 19 = .ok (.laload, 1) := by decide +kernel
theorem dX10_returns_20 : decode cX10_returns 20 = .ok (.lastore, 1) := by decide +kernel
theorem dX10_returns_21 : decode cX10_returns 21 = .ok (.iinc 1 1, 3) := by decide +kernel
theorem dX10_returns_24 : decode cX10_returns 24 = .ok (.goto (-22), 3) := by decide +kernel
theorem dX10_returns_27 : decode cX10_returns 27 = .ok (.return_, 1) := by decide +kernel
def uX10_passes : List Cond := .code yX10_passes cX10_passes 12 none :: ([.fieldLink RX10 28 "RiverModelModel" "m" "[J", .fieldLink RX10 163 "RiverModelModel" "items" "I", .fieldLink RX10 13 "RiverModelModel" "kind" "[I", .methodLink RX10 221 yX10_moves, .instanceMethod yX10_moves, .selects RX10 yX10_moves yX10_moves, .initialized RX10, .fieldLink RX10 16 "RiverModelModel" "first" "[I", .fieldLink RX10 19 "RiverModelModel" "second" "[I", .fieldLink RX10 22 "RiverModelModel" "number" "[I", .code yX10_moves cX10_moves 8 (some .long), .constantLong RX10 219 (10), .methodLink RX10 215 yX10_most, .instanceMethod yX10_most, .selects RX10 yX10_most yX10_most, .constantLong RX10 107 (100), .methodLink RX10 211 yX10_capacity, .instanceMethod yX10_capacity, .selects RX10 yX10_capacity yX10_capacity, .code yX10_most cX10_most 4 (some .long), .code yX10_capacity cX10_capacity 3 (some .long), .methodLink RX10 166 yX10_storeAt, .instanceMethod yX10_storeAt, .selects RX10 yX10_storeAt yX10_storeAt, .code yX10_storeAt cX10_storeAt 5 (some .int)] ++ wsX100)
set_option maxRecDepth 20000 in
theorem gu_X10_passes_X10_moves_221 : GoodIn uX10_passes (wsV RX10 221 RX10 yX10_moves uX10_moves) := goodIn_r _ [4, 5, 6, 7, 11, 8, 10, 3, 12, 13, 14, 15, 7, 1, 16, 17, 18, 19, 20, 21, 22, 23, 24, 25, 2, 26, 27, 28, 29, 30, 31, 32, 33, 34, 35, 36, 37, 38, 39, 40, 41, 42, 43, 44, 45, 46, 47, 48, 49, 50, 51, 52, 53, 54, 55, 56, 57, 58, 59, 60, 61] rfl (by decide +kernel)
set_option maxHeartbeats 4000000 in
set_option maxRecDepth 100000 in
theorem m_X10_passes (l : Launch) (D : va_G) (t : Nat → Nat) (cI cL cC : ClassId) (gC : Int32) (gE : Int32) (gW : Nat → Int32) (gA : Nat → Int32) (gT : Nat → Int32) (gI : Int32) (gS : Int32) (gM : Int32) (K : Nat → Int32) (F : Nat → Int32) (S : Nat → Int32) (N : Nat → Int32) (gH : Int) (gJ : Int) (ge : Int32) (gk : Int32) (gf : Int32) (gs : Int32) (gg : Int32) (gr : Int32) (RN : Nat → Int32) (gb : Int32) (rV : Nat → Int32) (rN : Nat → Int32) (a0 : Nat) (a1 : Int32) (a2 : Int32) (a3 : Int32) (M : Int) (uq : ∀ b c : Nat, t b = t c → t b ≠ 0 → b = c) (hMb : 40 * a1.toInt = M) (hM0 : 0 ≤ a1.toInt) (hM2 : a1.toInt ≤ 2) (hI0 : 0 ≤ gI.toInt) (hI4 : gI.toInt ≤ 40) (hO : okM K F S N M gI.toInt) (hH0 : 0 ≤ gH) (hH5 : gH ≤ 95) (k_a0 : t a0 = 40) : tMx (Z := (Int)) l yX10_passes uX10_passes 3 73 D (mF cI cL cC gC gE gW gA gT gI gS gM K F S N gH gJ ge gk gf gs gg gr RN gb rV rN) (fun z => (mF cI cL cC gC gE gW gA gT gI gS gM K F S N z gJ ge gk gf gs gg gr RN gb rV rN)) t cI cL cC [.ref a0, .int a1, .int a2, .int a3] wm (xV (fun (z : (Int)) => z = gH + 1)) := by
  refine tMx.ofW (cc := cX10_passes) (maxL := 12) (ret := none) (by decide) rfl (Nat.le_of_ble_eq_true rfl) ?_
  intro p e s m below meth c hx hb hr hml hown hts hlk H locs hG hK hE hS ls hl
  have hl : lv_has ls 12 [(0, .ref a0), (1, .int a1), (2, .int a2), (3, .int a3)] := hl
  have in10 : ∀ w ∈ wsX100, w ∈ uX10_passes := fun w h => List.mem_cons_of_mem _ (List.mem_append_right _ h)
  refine lv_aload_n hx hb dX10_passes_0 rfl (lv_at hl 0 rfl) ?_
  obtain ⟨r_1, r_3, r_5, r_7, r_9, r_11, r_13, r_15, r_17, r_19, r_21, r_23, r_25, r_27, r_29, r_31, r_33, r_35, r_37, r_39, r_41, r_43, v_45, r_46, at_48, h_2, h_4, h_6, h_8, h_10, h_12, h_14, h_16, h_18, h_20, h_22, h_24, h_26, h_28, h_30, h_32, h_34, h_36, h_38, h_40, h_42, h_44, h_47⟩ := mF_o40 hG k_a0
  refine va_get (D := D) (ci := 9) (v := .ref r_13) (C := RX10) (T := TX10) (N := 36) hx hb hts in10 hown hK (va_one at_48) 0 rfl rfl 10 (by decide) (hts (.fieldLink RX10 28 "RiverModelModel" "m" "[J") (List.mem_of_getElem? (i := 1) rfl)) (fun _ h9 => h9) rfl dX10_passes_1 ?_
  refine lv_sipush (v := 231) hx hb dX10_passes_4 (by decide) ?_
  obtain ⟨f_49, at_50, h_51⟩ := mF_o47 hG h_14
  have b_52 : vp_in 231 280 := (q_in (by decide) (by decide))
  refine va_lald hx hb hK (va_one at_50) 0 1 rfl rfl b_52 dX10_passes_7 ?_
  refine lv_topl (fun z_53 e_54 => ?_)
  have i_z_53 : z_53.toInt = gH := by rw [e_54]; exact gHr_ld h_51 (by decide)
  refine lv_l2i (v := z_53.toInt32) hx hb dX10_passes_8 rfl ?_
  refine lv_topi (fun x_55 e_56 => ?_)
  have i_x_55 : x_55.toInt = z_53.toInt := by rw [e_56]; exact q_l2i (by omega) (by omega)
  refine lv_istore (lv' := [(4, .int x_55), (0, .ref a0), (1, .int a1), (2, .int a2), (3, .int a3)]) hx hb dX10_passes_9 hl (by decide) rfl (fun ls hl => ?_)
  refine lv_iconst (v := 0) hx hb dX10_passes_11 (by decide) ?_
  refine lv_pc (pc2 := 12) rfl ?_
  refine lv_istore (lv' := [(5, .int 0), (4, .int x_55), (0, .ref a0), (1, .int a1), (2, .int a2), (3, .int a3)]) hx hb dX10_passes_12 hl (by decide) rfl (fun ls hl => ?_)
  refine lv_pc (pc2 := 14) rfl ?_
  refine lp_gen (fun WW57 hWW57 => ?_)
  have kx57 : ∀ (yk : Int32) (H1 : Heap) (locs1 : List Loc) (ls1 : Array Slot), (0 ≤ yk.toInt) → (yk.toInt ≤ 16) → tG D (mF cI cL cC gC gE gW gA gT gI gS gM K F S N gH gJ ge gk gf gs gg gr RN gb rV rN) t H1 → tF t wm s.heap H1 locs1 → lv_has ls1 12 [(5, .int yk), (4, .int x_55), (0, .ref a0), (1, .int a1), (2, .int a2), (3, .int a3)] → WW57 H1 locs1 (F0 m 76 ls1 []) := by
    intro yk H locs ls v57_0 v57_1 hG hS hl
    refine (hWW57 _ _ _).mpr ?_
    refine lv_iconst (v := 0) hx hb dX10_passes_76 (by decide) ?_
    refine lv_istore (lv' := [(5, .int 0), (4, .int x_55), (0, .ref a0), (1, .int a1), (2, .int a2), (3, .int a3)]) hx hb dX10_passes_77 hl (by decide) rfl (fun ls hl => ?_)
    refine lv_iconst (v := 0) hx hb dX10_passes_79 (by decide) ?_
    refine lv_istore (lv' := [(6, .int 0), (5, .int 0), (4, .int x_55), (0, .ref a0), (1, .int a1), (2, .int a2), (3, .int a3)]) hx hb dX10_passes_80 hl (by decide) rfl (fun ls hl => ?_)
    refine lv_pc (pc2 := 82) rfl ?_
    refine lp_gen (fun WW58 hWW58 => ?_)
    have kx58 : ∀ (yi : Int32) (yg : Int32) (H1 : Heap) (locs1 : List Loc) (ls1 : Array Slot), (0 ≤ yi.toInt) → (yi.toInt ≤ gI.toInt) → (0 ≤ yg.toInt) → (yg.toInt ≤ yi.toInt) → tG D (mF cI cL cC gC gE gW gA gT gI gS gM K F S N gH gJ ge gk gf gs gg gr RN gb rV rN) t H1 → tF t wm s.heap H1 locs1 → lv_has ls1 12 [(6, .int yi), (5, .int yg), (4, .int x_55), (0, .ref a0), (1, .int a1), (2, .int a2), (3, .int a3)] → WW58 H1 locs1 (F0 m 363 ls1 []) := by
      intro yi yg H locs ls v58_0 v58_1 v58_2 v58_3 hG hS hl
      refine (hWW58 _ _ _).mpr ?_
      refine lv_aload_n hx hb dX10_passes_363 rfl (lv_at hl 3 rfl) ?_
      obtain ⟨r_59, r_61, r_63, r_65, r_67, r_69, r_71, r_73, r_75, r_77, r_79, r_81, r_83, r_85, r_87, r_89, r_91, r_93, r_95, r_97, r_99, r_101, v_103, r_104, at_106, h_60, h_62, h_64, h_66, h_68, h_70, h_72, h_74, h_76, h_78, h_80, h_82, h_84, h_86, h_88, h_90, h_92, h_94, h_96, h_98, h_100, h_102, h_105⟩ := mF_o40 hG k_a0
      refine va_get (D := D) (ci := 9) (v := .ref r_71) (C := RX10) (T := TX10) (N := 36) hx hb hts in10 hown hK (va_one at_106) 0 rfl rfl 10 (by decide) (hts (.fieldLink RX10 28 "RiverModelModel" "m" "[J") (List.mem_of_getElem? (i := 1) rfl)) (fun _ h9 => h9) rfl dX10_passes_364 ?_
      refine lv_sipush (v := 231) hx hb dX10_passes_367 (by decide) ?_
      refine lv_pc (pc2 := 370) rfl ?_
      refine lv_dup2_11 hx hb dX10_passes_370 rfl rfl ?_
      obtain ⟨f_107, at_108, h_109⟩ := mF_o47 hG h_72
      have b_110 : vp_in 231 280 := (q_in (by decide) (by decide))
      refine va_lald hx hb hK (va_one at_108) 0 1 rfl rfl b_110 dX10_passes_371 ?_
      refine lv_topl (fun z_111 e_112 => ?_)
      have i_z_111 : z_111.toInt = gH := by rw [e_112]; exact gHr_ld h_109 (by decide)
      refine lv_lconst (v := 1) hx hb dX10_passes_372 (by decide) ?_
      have zl_1 : (1 : Int64).toInt = 1 := by decide
      refine lv_ladd hx hb dX10_passes_373 ?_
      refine lv_topl (fun z_113 e_114 => ?_)
      have i_z_113 : z_113.toInt = z_111.toInt + 1 := by rw [e_114]; exact (qL_add (by omega) (by omega)).trans (by first | (done) | (omega) | omega)
      have b_115 : vp_in 231 280 := (q_in (by decide) (by decide))
      have zi_231 : (231 : Int32).toInt = 231 := by decide
      obtain ⟨h_116, qh_116⟩ : ∃ h : Int, h = z_113.toInt := ⟨_, rfl⟩
      refine ty_last (F2 := (mF cI cL cC gC gE gW gA gT gI gS gM K F S N h_116 gJ ge gk gf gs gg gr RN gb rV rN)) hx hb hK hG hS 1 at_108 (by rw [h_72]; rfl) rfl b_115 (by rw [h_72]; exact ⟨_, rfl, gHr_eq (by decide) qh_116.symm⟩) (fun hG b hb h0 => by obtain ⟨e, g1, g2⟩ := hG b h0; exact ⟨e, g1, mF_gH (fun h => hb (uq b r_71 (h.trans h_72.symm) h0)) g2⟩) dX10_passes_374 (fun H locs hG hS at_117 o_118 => ?_)
      have at_106 := va_at.keptK at_106 o_118 h_72 k_a0 rfl
      exact tx_vret (z := (h_116)) hx hb hr hlk hG hS (by show h_116 = gH + 1; omega) dX10_passes_375
    have lp58 : ∀ (kk58 : Nat) (yi : Int32) (yg : Int32) (H1 : Heap) (locs1 : List Loc) (ls1 : Array Slot), gI.toInt - yi.toInt ≤ (kk58 : Int) → (0 ≤ yi.toInt) → (yi.toInt ≤ gI.toInt) → (0 ≤ yg.toInt) → (yg.toInt ≤ yi.toInt) → tG D (mF cI cL cC gC gE gW gA gT gI gS gM K F S N gH gJ ge gk gf gs gg gr RN gb rV rN) t H1 → tF t wm s.heap H1 locs1 → lv_has ls1 12 [(6, .int yi), (5, .int yg), (4, .int x_55), (0, .ref a0), (1, .int a1), (2, .int a2), (3, .int a3)] → WW58 H1 locs1 (F0 m 82 ls1 []) := by
      intro kk58
      induction kk58 with
      | zero =>
        intro yi yg H locs ls hk58 v58_0 v58_1 v58_2 v58_3 hG hS hl
        refine (hWW58 _ _ _).mpr ?_
        refine lv_iload hx hb dX10_passes_82 (lv_at hl 0 rfl) ?_
        refine lv_aload_n hx hb dX10_passes_84 rfl (lv_at hl 3 rfl) ?_
        refine lv_pc (pc2 := 85) rfl ?_
        obtain ⟨r_119, r_121, r_123, r_125, r_127, r_129, r_131, r_133, r_135, r_137, r_139, r_141, r_143, r_145, r_147, r_149, r_151, r_153, r_155, r_157, r_159, r_161, v_163, r_164, at_166, h_120, h_122, h_124, h_126, h_128, h_130, h_132, h_134, h_136, h_138, h_140, h_142, h_144, h_146, h_148, h_150, h_152, h_154, h_156, h_158, h_160, h_162, h_165⟩ := mF_o40 hG k_a0
        refine va_get (D := D) (ci := 9) (v := .int gI) (C := RX10) (T := TX10) (N := 36) hx hb hts in10 hown hK (va_one at_166) 0 rfl rfl 3 (by decide) (hts (.fieldLink RX10 163 "RiverModelModel" "items" "I") (List.mem_of_getElem? (i := 2) rfl)) (fun _ h9 => h9) rfl dX10_passes_85 ?_
        refine lv_icmp_ge (tgt := 363) hx hb dX10_passes_88 (by decide) (fun c_167 => ?_) (fun c_167 => ?_)
        · skip
          have c_167 : gI.toInt ≤ yi.toInt := q_le c_167
          exact (hWW58 _ _ _).mp (kx58 yi yg H locs ls v58_0 v58_1 v58_2 v58_3 hG hS (lv_sub hl [0, 1, 2, 3, 4, 5, 6] rfl))
        · skip
          have c_167 : yi.toInt < gI.toInt := q_nle c_167
          exfalso; omega
      | succ kk58 ih58 =>
        intro yi yg H locs ls hk58 v58_0 v58_1 v58_2 v58_3 hG hS hl
        refine (hWW58 _ _ _).mpr ?_
        refine lv_iload hx hb dX10_passes_82 (lv_at hl 0 rfl) ?_
        refine lv_aload_n hx hb dX10_passes_84 rfl (lv_at hl 3 rfl) ?_
        obtain ⟨r_168, r_170, r_172, r_174, r_176, r_178, r_180, r_182, r_184, r_186, r_188, r_190, r_192, r_194, r_196, r_198, r_200, r_202, r_204, r_206, r_208, r_210, v_212, r_213, at_215, h_169, h_171, h_173, h_175, h_177, h_179, h_181, h_183, h_185, h_187, h_189, h_191, h_193, h_195, h_197, h_199, h_201, h_203, h_205, h_207, h_209, h_211, h_214⟩ := mF_o40 hG k_a0
        refine va_get (D := D) (ci := 9) (v := .int gI) (C := RX10) (T := TX10) (N := 36) hx hb hts in10 hown hK (va_one at_215) 0 rfl rfl 3 (by decide) (hts (.fieldLink RX10 163 "RiverModelModel" "items" "I") (List.mem_of_getElem? (i := 2) rfl)) (fun _ h9 => h9) rfl dX10_passes_85 ?_
        refine lv_icmp_ge (tgt := 363) hx hb dX10_passes_88 (by decide) (fun c_216 => ?_) (fun c_216 => ?_)
        · skip
          have c_216 : gI.toInt ≤ yi.toInt := q_le c_216
          exact (hWW58 _ _ _).mp (kx58 yi yg H locs ls v58_0 v58_1 v58_2 v58_3 hG hS (lv_sub hl [0, 1, 2, 3, 4, 5, 6] rfl))
        · skip
          have c_216 : yi.toInt < gI.toInt := q_nle c_216
          have hok := hO yi.toInt (by omega) (by omega)
          have o1 := hok.1
          have o2 := hok.2.1
          have o4 := hok.2.2.2.1
          refine lv_bipush (v := 40) hx hb dX10_passes_91 (by decide) ?_
          refine lv_iload_n hx hb dX10_passes_93 rfl (lv_at hl 4 rfl) ?_
          refine lv_pc (pc2 := 94) rfl ?_
          refine lv_imul hx hb dX10_passes_94 ?_
          refine lv_topi (fun x_217 e_218 => ?_)
          have i_x_217 : x_217.toInt = 40 * a1.toInt := by rw [e_218]; exact (q_mul (by rw [show (40 : Int32).toInt = 40 by decide]; omega) (by rw [show (40 : Int32).toInt = 40 by decide]; omega)).trans (by rw [show (40 : Int32).toInt = 40 by decide])
          refine lv_iload hx hb dX10_passes_95 (lv_at hl 0 rfl) ?_
          refine lv_iadd hx hb dX10_passes_97 ?_
          refine lv_topi (fun x_219 e_220 => ?_)
          have i_x_219 : x_219.toInt = x_217.toInt + yi.toInt := by rw [e_220]; exact (q_add (by omega) (by omega)).trans (by rfl)
          refine lv_istore (lv' := [(7, .int x_219), (6, .int yi), (5, .int yg), (4, .int x_55), (0, .ref a0), (1, .int a1), (2, .int a2), (3, .int a3)]) hx hb dX10_passes_98 hl (by decide) rfl (fun ls hl => ?_)
          refine lv_aload_n hx hb dX10_passes_100 rfl (lv_at hl 4 rfl) ?_
          refine va_get (D := D) (ci := 9) (v := .ref r_170) (C := RX10) (T := TX10) (N := 36) hx hb hts in10 hown hK (va_one at_215) 0 rfl rfl 4 (by decide) (hts (.fieldLink RX10 13 "RiverModelModel" "kind" "[I") (List.mem_of_getElem? (i := 3) rfl)) (fun _ h9 => h9) rfl dX10_passes_101 ?_
          refine lv_iload hx hb dX10_passes_104 (lv_at hl 0 rfl) ?_
          have at_221 := mF_o42 hG h_171
          have b_222 : vp_in x_219 120 := (q_in (by omega) (by omega))
          refine va_iald hx hb hK (va_one at_221) 0 0 rfl rfl b_222 dX10_passes_106 ?_
          refine lv_topi (fun x_223 e_224 => ?_)
          have w_x_223 : x_223 = K (M + yi.toInt).toNat := by rw [e_224]; exact congrArg (fun q : Int => K q.toNat) (show x_219.toInt = M + yi.toInt by omega)
          have i_x_223 : x_223.toInt = (K (M + yi.toInt).toNat).toInt := by rw [w_x_223]
          refine lv_pc (pc2 := 107) rfl ?_
          refine lv_istore (lv' := [(8, .int x_223), (7, .int x_219), (6, .int yi), (5, .int yg), (4, .int x_55), (0, .ref a0), (1, .int a1), (2, .int a2), (3, .int a3)]) hx hb dX10_passes_107 hl (by decide) rfl (fun ls hl => ?_)
          refine lv_aload_n hx hb dX10_passes_109 rfl (lv_at hl 5 rfl) ?_
          refine lv_iload hx hb dX10_passes_110 (lv_at hl 1 rfl) ?_
          refine lv_iload hx hb dX10_passes_112 (lv_at hl 3 rfl) ?_
          refine lv_iload_n hx hb dX10_passes_114 rfl (lv_at hl 7 rfl) ?_
          refine lv_iload_n hx hb dX10_passes_115 rfl (lv_at hl 8 rfl) ?_
          refine ty_calll (W.runV (As := [.int x_219, .int yg, .int a2, .int a3]) (rest := []) ⟨hx, hb, hml, hown, hts⟩ (m_X10_moves l D t cI cL cC gC gE gW gA gT gI gS gM K F S N gH gJ ge gk gf gs gg gr RN gb rV rN a0 x_219 yg a2 a3 M a1.toInt yi.toInt uq (by omega) (by omega) (by omega) (by omega) (by omega) (by omega) (by omega) (by omega) hok (by omega) (by omega) k_a0) (cwV 4 hts gu_X10_passes_X10_moves_221 rfl rfl rfl (by decide +kernel) ⟨Nat.le_of_ble_eq_true rfl, Nat.le_of_ble_eq_true rfl⟩) (tP_V hG hE at_215 rfl) rfl rfl hl.1 rfl (lv_room (Nat.le_of_ble_eq_true rfl)) dX10_passes_116 ⟨Nat.le_of_ble_eq_true rfl, Nat.le_of_ble_eq_true rfl⟩) hS (fun k h => by simp [wr0] at h) (fun z_225 H locs hp_226 hG hS o_227 => ?_)
          have at_215 := va_at.keptC at_215 o_227 k_a0 rfl
          have at_221 := va_at.keptC at_221 o_227 h_171 rfl
          refine lv_lstore (lv' := [(9, .long z_225), (8, .int x_223), (7, .int x_219), (6, .int yi), (5, .int yg), (4, .int x_55), (0, .ref a0), (1, .int a1), (2, .int a2), (3, .int a3)]) hx hb dX10_passes_119 hl (by decide) rfl (fun ls hl => ?_)
          refine lv_pc (pc2 := 121) rfl ?_
          refine lv_iload hx hb dX10_passes_121 (lv_at hl 4 rfl) ?_
          refine lv_pc (pc2 := 123) rfl ?_
          refine lp_gen (fun WW229 hWW229 => ?_)
          have jn229 : ∀ (vj229 : Int32), (0 ≤ vj229.toInt) → (vj229.toInt ≤ 1) → WW229 H locs (F0 m 135 ls (.int vj229 :: .int yg :: [])) := by
            intro vj229 fj229_0 fj229_1
            refine (hWW229 _ _ _).mpr ?_
            refine lv_iadd hx hb dX10_passes_135 ?_
            refine lv_topi (fun x_230 e_231 => ?_)
            have i_x_230 : x_230.toInt = yg.toInt + vj229.toInt := by rw [e_231]; exact (q_add (by omega) (by omega)).trans (by rfl)
            refine lv_istore (lv' := [(5, .int x_230), (9, .long z_225), (8, .int x_223), (7, .int x_219), (6, .int yi), (4, .int x_55), (0, .ref a0), (1, .int a1), (2, .int a2), (3, .int a3)]) hx hb dX10_passes_136 hl (by decide) rfl (fun ls hl => ?_)
            refine lv_aload_n hx hb dX10_passes_138 rfl (lv_at hl 6 rfl) ?_
            refine va_get (D := D) (ci := 9) (v := .ref r_180) (C := RX10) (T := TX10) (N := 36) hx hb hts in10 hown hK (va_one at_215) 0 rfl rfl 10 (by decide) (hts (.fieldLink RX10 28 "RiverModelModel" "m" "[J") (List.mem_of_getElem? (i := 1) rfl)) (fun _ h9 => h9) rfl dX10_passes_139 ?_
            refine lv_sipush (v := 240) hx hb dX10_passes_142 (by decide) ?_
            refine lv_iload hx hb dX10_passes_145 (lv_at hl 4 rfl) ?_
            refine lv_iadd hx hb dX10_passes_147 ?_
            refine lv_topi (fun x_232 e_233 => ?_)
            have i_x_232 : x_232.toInt = 240 + yi.toInt := by rw [e_233]; exact (q_add (by rw [show (240 : Int32).toInt = 240 by decide]; omega) (by rw [show (240 : Int32).toInt = 240 by decide]; omega)).trans (by rw [show (240 : Int32).toInt = 240 by decide])
            refine lv_pc (pc2 := 148) rfl ?_
            refine lv_lload hx hb dX10_passes_148 (lv_at hl 1 rfl) ?_
            obtain ⟨f_234, at_235, h_236⟩ := mF_o47 hG h_181
            have b_237 : vp_in x_232 280 := (q_in (by omega) (by omega))
            refine ty_last (F2 := (mF cI cL cC gC gE gW gA gT gI gS gM K F S N gH gJ ge gk gf gs gg gr RN gb rV rN)) hx hb hK hG hS 1 at_235 (by rw [h_181]; rfl) rfl b_237 (by rw [h_181]; exact ⟨_, rfl, gHr_ne ⟨by omega, by omega⟩ h_236⟩) tFF dX10_passes_150 (fun H locs hG hS at_238 o_239 => ?_)
            have at_215 := va_at.keptK at_215 o_239 h_181 k_a0 rfl
            have at_221 := va_at.keptK at_221 o_239 h_181 h_171 rfl
            refine lv_pc (pc2 := 151) rfl ?_
            refine lp_gen (fun WW240 hWW240 => ?_)
            have jn240 : ∀ (vj240 : Int32), WW240 H locs (F0 m 170 ls (.int vj240 :: [])) := by
              intro vj240
              refine (hWW240 _ _ _).mpr ?_
              refine lv_istore (lv' := [(11, .int vj240), (5, .int x_230), (9, .long z_225), (8, .int x_223), (7, .int x_219), (6, .int yi), (4, .int x_55), (0, .ref a0), (1, .int a1), (2, .int a2), (3, .int a3)]) hx hb dX10_passes_170 hl (by decide) rfl (fun ls hl => ?_)
              refine lv_aload_n hx hb dX10_passes_172 rfl (lv_at hl 7 rfl) ?_
              refine va_get (D := D) (ci := 9) (v := .ref r_180) (C := RX10) (T := TX10) (N := 36) hx hb hts in10 hown hK (va_one at_215) 0 rfl rfl 10 (by decide) (hts (.fieldLink RX10 28 "RiverModelModel" "m" "[J") (List.mem_of_getElem? (i := 1) rfl)) (fun _ h9 => h9) rfl dX10_passes_173 ?_
              refine lv_aload_n hx hb dX10_passes_176 rfl (lv_at hl 7 rfl) ?_
              refine va_get (D := D) (ci := 9) (v := .ref r_172) (C := RX10) (T := TX10) (N := 36) hx hb hts in10 hown hK (va_one at_215) 0 rfl rfl 5 (by decide) (hts (.fieldLink RX10 16 "RiverModelModel" "first" "[I") (List.mem_of_getElem? (i := 8) rfl)) (fun _ h9 => h9) rfl dX10_passes_177 ?_
              refine lv_iload hx hb dX10_passes_180 (lv_at hl 4 rfl) ?_
              refine lv_pc (pc2 := 182) rfl ?_
              have at_241 := mF_o43 hG h_173
              have b_242 : vp_in x_219 120 := (q_in (by omega) (by omega))
              refine va_iald hx hb hK (va_one at_241) 0 0 rfl rfl b_242 dX10_passes_182 ?_
              refine lv_topi (fun x_243 e_244 => ?_)
              have w_x_243 : x_243 = F (M + yi.toInt).toNat := by rw [e_244]; exact congrArg (fun q : Int => F q.toNat) (show x_219.toInt = M + yi.toInt by omega)
              have i_x_243 : x_243.toInt = (F (M + yi.toInt).toNat).toInt := by rw [w_x_243]
              refine lv_dup2_11 hx hb dX10_passes_183 rfl rfl ?_
              obtain ⟨f_245, at_246, h_247⟩ := mF_o47 hG h_181
              have b_248 : vp_in x_243 280 := (q_in (by omega) (by omega))
              refine va_lald hx hb hK (va_one at_246) 0 1 rfl rfl b_248 dX10_passes_184 ?_
              refine lv_topl (fun z_249 e_250 => ?_)
              refine lv_pc (pc2 := 185) rfl ?_
              refine lp_gen (fun WW251 hWW251 => ?_)
              have jn251 : ∀ (vj251 : Int64), WW251 H locs (F0 m 209 ls (.long vj251 :: .long z_249 :: .int x_243 :: .ref r_180 :: [])) := by
                intro vj251
                refine (hWW251 _ _ _).mpr ?_
                refine lv_ladd hx hb dX10_passes_209 ?_
                refine lv_topl (fun z_252 e_253 => ?_)
                have b_254 : vp_in x_243 280 := (q_in (by omega) (by omega))
                refine ty_last (F2 := (mF cI cL cC gC gE gW gA gT gI gS gM K F S N gH gJ ge gk gf gs gg gr RN gb rV rN)) hx hb hK hG hS 1 at_246 (by rw [h_181]; rfl) rfl b_254 (by rw [h_181]; exact ⟨_, rfl, gHr_ne ⟨by omega, by omega⟩ h_247⟩) tFF dX10_passes_210 (fun H locs hG hS at_255 o_256 => ?_)
                have at_215 := va_at.keptK at_215 o_256 h_181 k_a0 rfl
                have at_221 := va_at.keptK at_221 o_256 h_181 h_171 rfl
                have at_241 := va_at.keptK at_241 o_256 h_181 h_173 rfl
                refine lv_aload_n hx hb dX10_passes_211 rfl (lv_at hl 7 rfl) ?_
                refine va_get (D := D) (ci := 9) (v := .ref r_180) (C := RX10) (T := TX10) (N := 36) hx hb hts in10 hown hK (va_one at_215) 0 rfl rfl 10 (by decide) (hts (.fieldLink RX10 28 "RiverModelModel" "m" "[J") (List.mem_of_getElem? (i := 1) rfl)) (fun _ h9 => h9) rfl dX10_passes_212 ?_
                refine lv_sipush (v := 230) hx hb dX10_passes_215 (by decide) ?_
                refine lv_pc (pc2 := 218) rfl ?_
                refine lv_dup2_11 hx hb dX10_passes_218 rfl rfl ?_
                obtain ⟨f_257, at_258, h_259⟩ := mF_o47 hG h_181
                have b_260 : vp_in 230 280 := (q_in (by decide) (by decide))
                refine va_lald hx hb hK (va_one at_258) 0 1 rfl rfl b_260 dX10_passes_219 ?_
                refine lv_topl (fun z_261 e_262 => ?_)
                refine lv_pc (pc2 := 220) rfl ?_
                refine lp_gen (fun WW263 hWW263 => ?_)
                have jn263 : ∀ (vj263 : Int64), WW263 H locs (F0 m 231 ls (.long vj263 :: .long z_261 :: .int 230 :: .ref r_180 :: [])) := by
                  intro vj263
                  refine (hWW263 _ _ _).mpr ?_
                  refine lv_ladd hx hb dX10_passes_231 ?_
                  refine lv_topl (fun z_264 e_265 => ?_)
                  have b_266 : vp_in 230 280 := (q_in (by decide) (by decide))
                  have zi_230 : (230 : Int32).toInt = 230 := by decide
                  refine ty_last (F2 := (mF cI cL cC gC gE gW gA gT gI gS gM K F S N gH gJ ge gk gf gs gg gr RN gb rV rN)) hx hb hK hG hS 1 at_258 (by rw [h_181]; rfl) rfl b_266 (by rw [h_181]; exact ⟨_, rfl, gHr_ne (by decide) h_259⟩) tFF dX10_passes_232 (fun H locs hG hS at_267 o_268 => ?_)
                  have at_215 := va_at.keptK at_215 o_268 h_181 k_a0 rfl
                  have at_221 := va_at.keptK at_221 o_268 h_181 h_171 rfl
                  have at_241 := va_at.keptK at_241 o_268 h_181 h_173 rfl
                  refine lv_aload_n hx hb dX10_passes_233 rfl (lv_at hl 7 rfl) ?_
                  refine va_get (D := D) (ci := 9) (v := .ref r_180) (C := RX10) (T := TX10) (N := 36) hx hb hts in10 hown hK (va_one at_215) 0 rfl rfl 10 (by decide) (hts (.fieldLink RX10 28 "RiverModelModel" "m" "[J") (List.mem_of_getElem? (i := 1) rfl)) (fun _ h9 => h9) rfl dX10_passes_234 ?_
                  refine lv_sipush (v := 228) hx hb dX10_passes_237 (by decide) ?_
                  refine lv_dup2_11 hx hb dX10_passes_240 rfl rfl ?_
                  refine lv_pc (pc2 := 241) rfl ?_
                  obtain ⟨f_269, at_270, h_271⟩ := mF_o47 hG h_181
                  have b_272 : vp_in 228 280 := (q_in (by decide) (by decide))
                  refine va_lald hx hb hK (va_one at_270) 0 1 rfl rfl b_272 dX10_passes_241 ?_
                  refine lv_topl (fun z_273 e_274 => ?_)
                  refine lv_pc (pc2 := 242) rfl ?_
                  refine lp_gen (fun WW275 hWW275 => ?_)
                  have jn275 : ∀ (vj275 : Int64), WW275 H locs (F0 m 255 ls (.long vj275 :: .long z_273 :: .int 228 :: .ref r_180 :: [])) := by
                    intro vj275
                    refine (hWW275 _ _ _).mpr ?_
                    refine lv_ladd hx hb dX10_passes_255 ?_
                    refine lv_topl (fun z_276 e_277 => ?_)
                    have b_278 : vp_in 228 280 := (q_in (by decide) (by decide))
                    have zi_228 : (228 : Int32).toInt = 228 := by decide
                    refine ty_last (F2 := (mF cI cL cC gC gE gW gA gT gI gS gM K F S N gH gJ ge gk gf gs gg gr RN gb rV rN)) hx hb hK hG hS 1 at_270 (by rw [h_181]; rfl) rfl b_278 (by rw [h_181]; exact ⟨_, rfl, gHr_ne (by decide) h_271⟩) tFF dX10_passes_256 (fun H locs hG hS at_279 o_280 => ?_)
                    have at_215 := va_at.keptK at_215 o_280 h_181 k_a0 rfl
                    have at_221 := va_at.keptK at_221 o_280 h_181 h_171 rfl
                    have at_241 := va_at.keptK at_241 o_280 h_181 h_173 rfl
                    refine lv_aload_n hx hb dX10_passes_257 rfl (lv_at hl 7 rfl) ?_
                    refine va_get (D := D) (ci := 9) (v := .ref r_180) (C := RX10) (T := TX10) (N := 36) hx hb hts in10 hown hK (va_one at_215) 0 rfl rfl 10 (by decide) (hts (.fieldLink RX10 28 "RiverModelModel" "m" "[J") (List.mem_of_getElem? (i := 1) rfl)) (fun _ h9 => h9) rfl dX10_passes_258 ?_
                    refine lv_sipush (v := 229) hx hb dX10_passes_261 (by decide) ?_
                    refine lv_dup2_11 hx hb dX10_passes_264 rfl rfl ?_
                    obtain ⟨f_281, at_282, h_283⟩ := mF_o47 hG h_181
                    have b_284 : vp_in 229 280 := (q_in (by decide) (by decide))
                    refine va_lald hx hb hK (va_one at_282) 0 1 rfl rfl b_284 dX10_passes_265 ?_
                    refine lv_topl (fun z_285 e_286 => ?_)
                    refine lv_pc (pc2 := 266) rfl ?_
                    refine lp_gen (fun WW287 hWW287 => ?_)
                    have jn287 : ∀ (vj287 : Int64), WW287 H locs (F0 m 279 ls (.long vj287 :: .long z_285 :: .int 229 :: .ref r_180 :: [])) := by
                      intro vj287
                      refine (hWW287 _ _ _).mpr ?_
                      refine lv_pc (pc2 := 279) rfl ?_
                      refine lv_ladd hx hb dX10_passes_279 ?_
                      refine lv_topl (fun z_288 e_289 => ?_)
                      have b_290 : vp_in 229 280 := (q_in (by decide) (by decide))
                      have zi_229 : (229 : Int32).toInt = 229 := by decide
                      refine ty_last (F2 := (mF cI cL cC gC gE gW gA gT gI gS gM K F S N gH gJ ge gk gf gs gg gr RN gb rV rN)) hx hb hK hG hS 1 at_282 (by rw [h_181]; rfl) rfl b_290 (by rw [h_181]; exact ⟨_, rfl, gHr_ne (by decide) h_283⟩) tFF dX10_passes_280 (fun H locs hG hS at_291 o_292 => ?_)
                      have at_215 := va_at.keptK at_215 o_292 h_181 k_a0 rfl
                      have at_221 := va_at.keptK at_221 o_292 h_181 h_171 rfl
                      have at_241 := va_at.keptK at_241 o_292 h_181 h_173 rfl
                      refine lv_iload hx hb dX10_passes_281 (lv_at hl 3 rfl) ?_
                      refine lv_bipush (v := 116) hx hb dX10_passes_283 (by decide) ?_
                      refine lv_icmp_ne (tgt := 330) hx hb dX10_passes_285 (by decide) (fun c_293 => ?_) (fun c_293 => ?_)
                      · skip
                        have c_293 : x_223.toInt ≠ 116 := q_ne c_293
                        refine lv_aload_n hx hb dX10_passes_330 rfl (lv_at hl 7 rfl) ?_
                        refine va_get (D := D) (ci := 9) (v := .ref r_174) (C := RX10) (T := TX10) (N := 36) hx hb hts in10 hown hK (va_one at_215) 0 rfl rfl 6 (by decide) (hts (.fieldLink RX10 19 "RiverModelModel" "second" "[I") (List.mem_of_getElem? (i := 9) rfl)) (fun _ h9 => h9) rfl dX10_passes_331 ?_
                        refine lv_iload hx hb dX10_passes_334 (lv_at hl 4 rfl) ?_
                        refine lv_pc (pc2 := 336) rfl ?_
                        have at_294 := mF_o44 hG h_175
                        have b_295 : vp_in x_219 120 := (q_in (by omega) (by omega))
                        refine va_iald hx hb hK (va_one at_294) 0 0 rfl rfl b_295 dX10_passes_336 ?_
                        refine lv_topi (fun x_296 e_297 => ?_)
                        have w_x_296 : x_296 = S (M + yi.toInt).toNat := by rw [e_297]; exact congrArg (fun q : Int => S q.toNat) (show x_219.toInt = M + yi.toInt by omega)
                        have i_x_296 : x_296.toInt = (S (M + yi.toInt).toNat).toInt := by rw [w_x_296]
                        refine lv_if_lt (tgt := 357) hx hb dX10_passes_337 (by decide) (fun c_298 => ?_) (fun c_298 => ?_)
                        · skip
                          have c_298 : x_296.toInt < 0 := q_lt c_298
                          obtain ⟨x_299, e_300⟩ : ∃ y : Int32, y = yi + Int32.ofInt 1 := ⟨_, rfl⟩
                          have i_x_299 : x_299.toInt = yi.toInt + 1 := by rw [e_300, show Int32.ofInt 1 = 1 by decide]; exact (q_add (by rw [show (1 : Int32).toInt = 1 by decide]; omega) (by rw [show (1 : Int32).toInt = 1 by decide]; omega)).trans (by rw [show (1 : Int32).toInt = 1 by decide])
                          refine lv_iinc (v := x_299) (lv' := [(6, .int x_299), (11, .int vj240), (5, .int x_230), (9, .long z_225), (8, .int x_223), (7, .int x_219), (4, .int x_55), (0, .ref a0), (1, .int a1), (2, .int a2), (3, .int a3)]) hx hb dX10_passes_357 hl (k := 5) rfl e_300.symm (by decide) rfl (fun ls hl => ?_)
                          refine lv_goto (tgt := 82) hx hb dX10_passes_360 (by decide) ?_
                          exact (hWW58 _ _ _).mp (ih58 x_299 x_230 H locs ls (by omega) (by omega) (by omega) (by omega) (by omega) hG hS (lv_sub hl [0, 2, 6, 7, 8, 9, 10] rfl))
                        · skip
                          have c_298 : 0 ≤ x_296.toInt := q_nlt c_298
                          refine lv_aload_n hx hb dX10_passes_340 rfl (lv_at hl 7 rfl) ?_
                          refine va_get (D := D) (ci := 9) (v := .ref r_180) (C := RX10) (T := TX10) (N := 36) hx hb hts in10 hown hK (va_one at_215) 0 rfl rfl 10 (by decide) (hts (.fieldLink RX10 28 "RiverModelModel" "m" "[J") (List.mem_of_getElem? (i := 1) rfl)) (fun _ h9 => h9) rfl dX10_passes_341 ?_
                          refine lv_aload_n hx hb dX10_passes_344 rfl (lv_at hl 7 rfl) ?_
                          refine va_get (D := D) (ci := 9) (v := .ref r_174) (C := RX10) (T := TX10) (N := 36) hx hb hts in10 hown hK (va_one at_215) 0 rfl rfl 6 (by decide) (hts (.fieldLink RX10 19 "RiverModelModel" "second" "[I") (List.mem_of_getElem? (i := 9) rfl)) (fun _ h9 => h9) rfl dX10_passes_345 ?_
                          refine lv_pc (pc2 := 348) rfl ?_
                          refine lv_iload hx hb dX10_passes_348 (lv_at hl 4 rfl) ?_
                          have b_301 : vp_in x_219 120 := (q_in (by omega) (by omega))
                          refine va_iald hx hb hK (va_one at_294) 0 0 rfl rfl b_301 dX10_passes_350 ?_
                          refine lv_seti (y := x_296) e_297.symm ?_
                          refine lv_dup2_11 hx hb dX10_passes_351 rfl rfl ?_
                          obtain ⟨f_302, at_303, h_304⟩ := mF_o47 hG h_181
                          have b_305 : vp_in x_296 280 := (q_in (by omega) (by omega))
                          refine va_lald hx hb hK (va_one at_303) 0 1 rfl rfl b_305 dX10_passes_352 ?_
                          refine lv_topl (fun z_306 e_307 => ?_)
                          refine lv_lload hx hb dX10_passes_353 (lv_at hl 2 rfl) ?_
                          refine lv_ladd hx hb dX10_passes_355 ?_
                          refine lv_topl (fun z_308 e_309 => ?_)
                          have b_310 : vp_in x_296 280 := (q_in (by omega) (by omega))
                          refine ty_last (F2 := (mF cI cL cC gC gE gW gA gT gI gS gM K F S N gH gJ ge gk gf gs gg gr RN gb rV rN)) hx hb hK hG hS 1 at_303 (by rw [h_181]; rfl) rfl b_310 (by rw [h_181]; exact ⟨_, rfl, gHr_ne ⟨by omega, by omega⟩ h_304⟩) tFF dX10_passes_356 (fun H locs hG hS at_311 o_312 => ?_)
                          have at_215 := va_at.keptK at_215 o_312 h_181 k_a0 rfl
                          have at_221 := va_at.keptK at_221 o_312 h_181 h_171 rfl
                          have at_241 := va_at.keptK at_241 o_312 h_181 h_173 rfl
                          have at_294 := va_at.keptK at_294 o_312 h_181 h_175 rfl
                          obtain ⟨x_313, e_314⟩ : ∃ y : Int32, y = yi + Int32.ofInt 1 := ⟨_, rfl⟩
                          have i_x_313 : x_313.toInt = yi.toInt + 1 := by rw [e_314, show Int32.ofInt 1 = 1 by decide]; exact (q_add (by rw [show (1 : Int32).toInt = 1 by decide]; omega) (by rw [show (1 : Int32).toInt = 1 by decide]; omega)).trans (by rw [show (1 : Int32).toInt = 1 by decide])
                          refine lv_iinc (v := x_313) (lv' := [(6, .int x_313), (11, .int vj240), (5, .int x_230), (9, .long z_225), (8, .int x_223), (7, .int x_219), (4, .int x_55), (0, .ref a0), (1, .int a1), (2, .int a2), (3, .int a3)]) hx hb dX10_passes_357 hl (k := 5) rfl e_314.symm (by decide) rfl (fun ls hl => ?_)
                          refine lv_pc (pc2 := 360) rfl ?_
                          refine lv_goto (tgt := 82) hx hb dX10_passes_360 (by decide) ?_
                          exact (hWW58 _ _ _).mp (ih58 x_313 x_230 H locs ls (by omega) (by omega) (by omega) (by omega) (by omega) hG hS (lv_sub hl [0, 2, 6, 7, 8, 9, 10] rfl))
                      · skip
                        have c_293 : x_223.toInt = 116 := q_eq c_293
                        have o6 := hok.2.2.2.2.2.1 (by omega)
                        refine lv_aload_n hx hb dX10_passes_288 rfl (lv_at hl 7 rfl) ?_
                        refine va_get (D := D) (ci := 9) (v := .ref r_180) (C := RX10) (T := TX10) (N := 36) hx hb hts in10 hown hK (va_one at_215) 0 rfl rfl 10 (by decide) (hts (.fieldLink RX10 28 "RiverModelModel" "m" "[J") (List.mem_of_getElem? (i := 1) rfl)) (fun _ h9 => h9) rfl dX10_passes_289 ?_
                        refine lv_bipush (v := 16) hx hb dX10_passes_292 (by decide) ?_
                        refine lv_bipush (v := 13) hx hb dX10_passes_294 (by decide) ?_
                        refine lv_aload_n hx hb dX10_passes_296 rfl (lv_at hl 7 rfl) ?_
                        refine va_get (D := D) (ci := 9) (v := .ref r_174) (C := RX10) (T := TX10) (N := 36) hx hb hts in10 hown hK (va_one at_215) 0 rfl rfl 6 (by decide) (hts (.fieldLink RX10 19 "RiverModelModel" "second" "[I") (List.mem_of_getElem? (i := 9) rfl)) (fun _ h9 => h9) rfl dX10_passes_297 ?_
                        refine lv_iload hx hb dX10_passes_300 (lv_at hl 4 rfl) ?_
                        refine lv_pc (pc2 := 302) rfl ?_
                        have at_315 := mF_o44 hG h_175
                        have b_316 : vp_in x_219 120 := (q_in (by omega) (by omega))
                        refine va_iald hx hb hK (va_one at_315) 0 0 rfl rfl b_316 dX10_passes_302 ?_
                        refine lv_topi (fun x_317 e_318 => ?_)
                        have w_x_317 : x_317 = S (M + yi.toInt).toNat := by rw [e_318]; exact congrArg (fun q : Int => S q.toNat) (show x_219.toInt = M + yi.toInt by omega)
                        have i_x_317 : x_317.toInt = (S (M + yi.toInt).toNat).toInt := by rw [w_x_317]
                        refine lv_imul hx hb dX10_passes_303 ?_
                        refine lv_topi (fun x_319 e_320 => ?_)
                        have i_x_319 : x_319.toInt = 13 * x_317.toInt := by rw [e_320]; exact (q_mul (by rw [show (13 : Int32).toInt = 13 by decide]; omega) (by rw [show (13 : Int32).toInt = 13 by decide]; omega)).trans (by rw [show (13 : Int32).toInt = 13 by decide])
                        refine lv_iadd hx hb dX10_passes_304 ?_
                        refine lv_topi (fun x_321 e_322 => ?_)
                        have i_x_321 : x_321.toInt = 16 + x_319.toInt := by rw [e_322]; exact (q_add (by rw [show (16 : Int32).toInt = 16 by decide]; omega) (by rw [show (16 : Int32).toInt = 16 by decide]; omega)).trans (by rw [show (16 : Int32).toInt = 16 by decide])
                        refine lv_iload hx hb dX10_passes_305 (lv_at hl 6 rfl) ?_
                        refine lv_aload_n hx hb dX10_passes_307 rfl (lv_at hl 7 rfl) ?_
                        refine va_get (D := D) (ci := 9) (v := .ref r_176) (C := RX10) (T := TX10) (N := 36) hx hb hts in10 hown hK (va_one at_215) 0 rfl rfl 7 (by decide) (hts (.fieldLink RX10 22 "RiverModelModel" "number" "[I") (List.mem_of_getElem? (i := 10) rfl)) (fun _ h9 => h9) rfl dX10_passes_308 ?_
                        refine lv_iconst (v := 3) hx hb dX10_passes_311 (by decide) ?_
                        refine lv_iload hx hb dX10_passes_312 (lv_at hl 4 rfl) ?_
                        refine lv_pc (pc2 := 314) rfl ?_
                        refine lv_imul hx hb dX10_passes_314 ?_
                        refine lv_topi (fun x_323 e_324 => ?_)
                        have i_x_323 : x_323.toInt = 3 * x_219.toInt := by rw [e_324]; exact (q_mul (by rw [show (3 : Int32).toInt = 3 by decide]; omega) (by rw [show (3 : Int32).toInt = 3 by decide]; omega)).trans (by rw [show (3 : Int32).toInt = 3 by decide])
                        have at_325 := mF_o45 hG h_177
                        have b_326 : vp_in x_323 360 := (q_in (by omega) (by omega))
                        refine va_iald hx hb hK (va_one at_325) 0 0 rfl rfl b_326 dX10_passes_315 ?_
                        refine lv_topi (fun x_327 e_328 => ?_)
                        have w_x_327 : x_327 = N (3 * (M + yi.toInt)).toNat := by rw [e_328]; exact congrArg (fun q : Int => N q.toNat) (show x_323.toInt = 3 * (M + yi.toInt) by omega)
                        have i_x_327 : x_327.toInt = (N (3 * (M + yi.toInt)).toNat).toInt := by rw [w_x_327]
                        refine lv_iadd hx hb dX10_passes_316 ?_
                        refine lv_topi (fun x_329 e_330 => ?_)
                        have i_x_329 : x_329.toInt = x_55.toInt + x_327.toInt := by rw [e_330]; exact (q_add (by omega) (by omega)).trans (by rfl)
                        refine lv_bipush (v := 13) hx hb dX10_passes_317 (by decide) ?_
                        refine lv_irem hx hb dX10_passes_319 (by decide) ?_
                        refine lv_topi (fun x_331 e_332 => ?_)
                        have i_x_331 : x_331.toInt = x_329.toInt % 13 := by rw [e_332]; exact q_remE (n := 13) rfl (by decide) (by omega)
                        refine lv_iadd hx hb dX10_passes_320 ?_
                        refine lv_topi (fun x_333 e_334 => ?_)
                        have i_x_333 : x_333.toInt = x_321.toInt + x_331.toInt := by rw [e_334]; exact (q_add (by omega) (by omega)).trans (by rfl)
                        refine lv_dup2_11 hx hb dX10_passes_321 rfl rfl ?_
                        obtain ⟨f_335, at_336, h_337⟩ := mF_o47 hG h_181
                        have b_338 : vp_in x_333 280 := (q_in (by omega) (by omega))
                        refine va_lald hx hb hK (va_one at_336) 0 1 rfl rfl b_338 dX10_passes_322 ?_
                        refine lv_topl (fun z_339 e_340 => ?_)
                        refine lv_pc (pc2 := 323) rfl ?_
                        refine lv_lload hx hb dX10_passes_323 (lv_at hl 2 rfl) ?_
                        refine lv_ladd hx hb dX10_passes_325 ?_
                        refine lv_topl (fun z_341 e_342 => ?_)
                        have b_343 : vp_in x_333 280 := (q_in (by omega) (by omega))
                        refine ty_last (F2 := (mF cI cL cC gC gE gW gA gT gI gS gM K F S N gH gJ ge gk gf gs gg gr RN gb rV rN)) hx hb hK hG hS 1 at_336 (by rw [h_181]; rfl) rfl b_343 (by rw [h_181]; exact ⟨_, rfl, gHr_ne ⟨by omega, by omega⟩ h_337⟩) tFF dX10_passes_326 (fun H locs hG hS at_344 o_345 => ?_)
                        have at_215 := va_at.keptK at_215 o_345 h_181 k_a0 rfl
                        have at_221 := va_at.keptK at_221 o_345 h_181 h_171 rfl
                        have at_241 := va_at.keptK at_241 o_345 h_181 h_173 rfl
                        have at_315 := va_at.keptK at_315 o_345 h_181 h_175 rfl
                        have at_325 := va_at.keptK at_325 o_345 h_181 h_177 rfl
                        refine lv_goto (tgt := 357) hx hb dX10_passes_327 (by decide) ?_
                        obtain ⟨x_346, e_347⟩ : ∃ y : Int32, y = yi + Int32.ofInt 1 := ⟨_, rfl⟩
                        have i_x_346 : x_346.toInt = yi.toInt + 1 := by rw [e_347, show Int32.ofInt 1 = 1 by decide]; exact (q_add (by rw [show (1 : Int32).toInt = 1 by decide]; omega) (by rw [show (1 : Int32).toInt = 1 by decide]; omega)).trans (by rw [show (1 : Int32).toInt = 1 by decide])
                        refine lv_iinc (v := x_346) (lv' := [(6, .int x_346), (11, .int vj240), (5, .int x_230), (9, .long z_225), (8, .int x_223), (7, .int x_219), (4, .int x_55), (0, .ref a0), (1, .int a1), (2, .int a2), (3, .int a3)]) hx hb dX10_passes_357 hl (k := 5) rfl e_347.symm (by decide) rfl (fun ls hl => ?_)
                        refine lv_goto (tgt := 82) hx hb dX10_passes_360 (by decide) ?_
                        exact (hWW58 _ _ _).mp (ih58 x_346 x_230 H locs ls (by omega) (by omega) (by omega) (by omega) (by omega) hG hS (lv_sub hl [0, 2, 6, 7, 8, 9, 10] rfl))
                    refine (hWW287 _ _ _).mpr ?_
                    refine lv_iload hx hb dX10_passes_266 (lv_at hl 3 rfl) ?_
                    refine lv_bipush (v := 122) hx hb dX10_passes_268 (by decide) ?_
                    refine lv_pc (pc2 := 270) rfl ?_
                    refine lv_icmp_ne (tgt := 278) hx hb dX10_passes_270 (by decide) (fun c_348 => ?_) (fun c_348 => ?_)
                    · skip
                      have c_348 : x_223.toInt ≠ 122 := q_ne c_348
                      refine lv_lconst (v := 0) hx hb dX10_passes_278 (by decide) ?_
                      have zl_0 : (0 : Int64).toInt = 0 := by decide
                      exact (hWW287 _ _ _).mp (jn287 0)
                    · skip
                      have c_348 : x_223.toInt = 122 := q_eq c_348
                      refine lv_lload hx hb dX10_passes_273 (lv_at hl 2 rfl) ?_
                      refine lv_goto (tgt := 279) hx hb dX10_passes_275 (by decide) ?_
                      exact (hWW287 _ _ _).mp (jn287 z_225)
                  refine (hWW275 _ _ _).mpr ?_
                  refine lv_iload hx hb dX10_passes_242 (lv_at hl 3 rfl) ?_
                  refine lv_bipush (v := 101) hx hb dX10_passes_244 (by decide) ?_
                  refine lv_icmp_ne (tgt := 254) hx hb dX10_passes_246 (by decide) (fun c_349 => ?_) (fun c_349 => ?_)
                  · skip
                    have c_349 : x_223.toInt ≠ 101 := q_ne c_349
                    refine lv_lconst (v := 0) hx hb dX10_passes_254 (by decide) ?_
                    have zl_0 : (0 : Int64).toInt = 0 := by decide
                    exact (hWW275 _ _ _).mp (jn275 0)
                  · skip
                    have c_349 : x_223.toInt = 101 := q_eq c_349
                    refine lv_pc (pc2 := 249) rfl ?_
                    refine lv_lload hx hb dX10_passes_249 (lv_at hl 2 rfl) ?_
                    refine lv_goto (tgt := 255) hx hb dX10_passes_251 (by decide) ?_
                    exact (hWW275 _ _ _).mp (jn275 z_225)
                refine (hWW263 _ _ _).mpr ?_
                refine lv_iload hx hb dX10_passes_220 (lv_at hl 0 rfl) ?_
                refine lv_if_eq (tgt := 230) hx hb dX10_passes_222 (by decide) (fun c_350 => ?_) (fun c_350 => ?_)
                · skip
                  have c_350 : vj240.toInt = 0 := q_eq c_350
                  refine lv_lconst (v := 0) hx hb dX10_passes_230 (by decide) ?_
                  have zl_0 : (0 : Int64).toInt = 0 := by decide
                  exact (hWW263 _ _ _).mp (jn263 0)
                · skip
                  have c_350 : vj240.toInt ≠ 0 := q_ne c_350
                  refine lv_lload hx hb dX10_passes_225 (lv_at hl 2 rfl) ?_
                  refine lv_goto (tgt := 231) hx hb dX10_passes_227 (by decide) ?_
                  exact (hWW263 _ _ _).mp (jn263 z_225)
              refine (hWW251 _ _ _).mpr ?_
              refine lv_iload hx hb dX10_passes_185 (lv_at hl 0 rfl) ?_
              refine lv_pc (pc2 := 187) rfl ?_
              refine lv_if_eq (tgt := 195) hx hb dX10_passes_187 (by decide) (fun c_351 => ?_) (fun c_351 => ?_)
              · skip
                have c_351 : vj240.toInt = 0 := q_eq c_351
                refine lv_iload hx hb dX10_passes_195 (lv_at hl 3 rfl) ?_
                refine lv_bipush (v := 115) hx hb dX10_passes_197 (by decide) ?_
                refine lv_icmp_ne (tgt := 206) hx hb dX10_passes_199 (by decide) (fun c_352 => ?_) (fun c_352 => ?_)
                · skip
                  have c_352 : x_223.toInt ≠ 115 := q_ne c_352
                  refine lv_lload hx hb dX10_passes_206 (lv_at hl 2 rfl) ?_
                  refine lv_lneg hx hb dX10_passes_208 ?_
                  refine lv_topl (fun z_353 e_354 => ?_)
                  exact (hWW251 _ _ _).mp (jn251 z_353)
                · skip
                  have c_352 : x_223.toInt = 115 := q_eq c_352
                  refine lv_lconst (v := 0) hx hb dX10_passes_202 (by decide) ?_
                  refine lv_goto (tgt := 209) hx hb dX10_passes_203 (by decide) ?_
                  have zl_0 : (0 : Int64).toInt = 0 := by decide
                  exact (hWW251 _ _ _).mp (jn251 0)
              · skip
                have c_351 : vj240.toInt ≠ 0 := q_ne c_351
                refine lv_pc (pc2 := 190) rfl ?_
                refine lv_lload hx hb dX10_passes_190 (lv_at hl 2 rfl) ?_
                refine lv_goto (tgt := 209) hx hb dX10_passes_192 (by decide) ?_
                exact (hWW251 _ _ _).mp (jn251 z_225)
            refine (hWW240 _ _ _).mpr ?_
            refine lv_iload hx hb dX10_passes_151 (lv_at hl 2 rfl) ?_
            refine lv_bipush (v := 114) hx hb dX10_passes_153 (by decide) ?_
            refine lv_icmp_eq (tgt := 165) hx hb dX10_passes_155 (by decide) (fun c_355 => ?_) (fun c_355 => ?_)
            · skip
              have c_355 : x_223.toInt = 114 := q_eq c_355
              refine lv_iconst (v := 1) hx hb dX10_passes_165 (by decide) ?_
              refine lv_goto (tgt := 170) hx hb dX10_passes_166 (by decide) ?_
              have zi_1 : (1 : Int32).toInt = 1 := by decide
              exact (hWW240 _ _ _).mp (jn240 1)
            · skip
              have c_355 : x_223.toInt ≠ 114 := q_ne c_355
              refine lv_iload hx hb dX10_passes_158 (lv_at hl 2 rfl) ?_
              refine lv_pc (pc2 := 160) rfl ?_
              refine lv_bipush (v := 110) hx hb dX10_passes_160 (by decide) ?_
              refine lv_icmp_ne (tgt := 169) hx hb dX10_passes_162 (by decide) (fun c_356 => ?_) (fun c_356 => ?_)
              · skip
                have c_356 : x_223.toInt ≠ 110 := q_ne c_356
                refine lv_iconst (v := 0) hx hb dX10_passes_169 (by decide) ?_
                have zi_0 : (0 : Int32).toInt = 0 := by decide
                exact (hWW240 _ _ _).mp (jn240 0)
              · skip
                have c_356 : x_223.toInt = 110 := q_eq c_356
                refine lv_iconst (v := 1) hx hb dX10_passes_165 (by decide) ?_
                refine lv_goto (tgt := 170) hx hb dX10_passes_166 (by decide) ?_
                have zi_1 : (1 : Int32).toInt = 1 := by decide
                exact (hWW240 _ _ _).mp (jn240 1)
          refine (hWW229 _ _ _).mpr ?_
          refine lv_iload hx hb dX10_passes_123 (lv_at hl 1 rfl) ?_
          refine lv_bipush (v := 103) hx hb dX10_passes_125 (by decide) ?_
          refine lv_icmp_ne (tgt := 134) hx hb dX10_passes_127 (by decide) (fun c_357 => ?_) (fun c_357 => ?_)
          · skip
            have c_357 : x_223.toInt ≠ 103 := q_ne c_357
            refine lv_pc (pc2 := 134) rfl ?_
            refine lv_iconst (v := 0) hx hb dX10_passes_134 (by decide) ?_
            have zi_0 : (0 : Int32).toInt = 0 := by decide
            exact (hWW229 _ _ _).mp (jn229 0 (by omega) (by omega))
          · skip
            have c_357 : x_223.toInt = 103 := q_eq c_357
            refine lv_iconst (v := 1) hx hb dX10_passes_130 (by decide) ?_
            refine lv_goto (tgt := 135) hx hb dX10_passes_131 (by decide) ?_
            have zi_1 : (1 : Int32).toInt = 1 := by decide
            exact (hWW229 _ _ _).mp (jn229 1 (by omega) (by omega))
    have zi_0 : (0 : Int32).toInt = 0 := by decide
    exact lp58 (gI.toInt - (0 : Int32).toInt : Int).toNat 0 0 H locs ls (by omega) (by omega) (by omega) (by omega) (by omega) hG hS (lv_sub hl [0, 1, 2, 3, 4, 5, 6] rfl)
  have lp57 : ∀ (kk57 : Nat) (yk : Int32) (H1 : Heap) (locs1 : List Loc) (ls1 : Array Slot), 16 - yk.toInt ≤ (kk57 : Int) → (0 ≤ yk.toInt) → (yk.toInt ≤ 16) → tG D (mF cI cL cC gC gE gW gA gT gI gS gM K F S N gH gJ ge gk gf gs gg gr RN gb rV rN) t H1 → tF t wm s.heap H1 locs1 → lv_has ls1 12 [(5, .int yk), (4, .int x_55), (0, .ref a0), (1, .int a1), (2, .int a2), (3, .int a3)] → WW57 H1 locs1 (F0 m 14 ls1 []) := by
    intro kk57
    induction kk57 with
    | zero =>
      intro yk H locs ls hk57 v57_0 v57_1 hG hS hl
      refine (hWW57 _ _ _).mpr ?_
      refine lv_iload hx hb dX10_passes_14 (lv_at hl 0 rfl) ?_
      refine lv_bipush (v := 16) hx hb dX10_passes_16 (by decide) ?_
      refine lv_icmp_ge (tgt := 76) hx hb dX10_passes_18 (by decide) (fun c_358 => ?_) (fun c_358 => ?_)
      · skip
        have c_358 : 16 ≤ yk.toInt := q_le c_358
        exact (hWW57 _ _ _).mp (kx57 yk H locs ls v57_0 v57_1 hG hS (lv_sub hl [0, 1, 2, 3, 4, 5] rfl))
      · skip
        have c_358 : yk.toInt < 16 := q_nle c_358
        exfalso; omega
    | succ kk57 ih57 =>
      intro yk H locs ls hk57 v57_0 v57_1 hG hS hl
      refine (hWW57 _ _ _).mpr ?_
      refine lv_iload hx hb dX10_passes_14 (lv_at hl 0 rfl) ?_
      refine lv_bipush (v := 16) hx hb dX10_passes_16 (by decide) ?_
      refine lv_pc (pc2 := 18) rfl ?_
      refine lv_icmp_ge (tgt := 76) hx hb dX10_passes_18 (by decide) (fun c_359 => ?_) (fun c_359 => ?_)
      · skip
        have c_359 : 16 ≤ yk.toInt := q_le c_359
        exact (hWW57 _ _ _).mp (kx57 yk H locs ls v57_0 v57_1 hG hS (lv_sub hl [0, 1, 2, 3, 4, 5] rfl))
      · skip
        have c_359 : yk.toInt < 16 := q_nle c_359
        refine lv_aload_n hx hb dX10_passes_21 rfl (lv_at hl 2 rfl) ?_
        obtain ⟨r_360, r_362, r_364, r_366, r_368, r_370, r_372, r_374, r_376, r_378, r_380, r_382, r_384, r_386, r_388, r_390, r_392, r_394, r_396, r_398, r_400, r_402, v_404, r_405, at_407, h_361, h_363, h_365, h_367, h_369, h_371, h_373, h_375, h_377, h_379, h_381, h_383, h_385, h_387, h_389, h_391, h_393, h_395, h_397, h_399, h_401, h_403, h_406⟩ := mF_o40 hG k_a0
        refine va_get (D := D) (ci := 9) (v := .ref r_372) (C := RX10) (T := TX10) (N := 36) hx hb hts in10 hown hK (va_one at_407) 0 rfl rfl 10 (by decide) (hts (.fieldLink RX10 28 "RiverModelModel" "m" "[J") (List.mem_of_getElem? (i := 1) rfl)) (fun _ h9 => h9) rfl dX10_passes_22 ?_
        refine lv_iload hx hb dX10_passes_25 (lv_at hl 0 rfl) ?_
        refine lv_dup2_11 hx hb dX10_passes_27 rfl rfl ?_
        obtain ⟨f_408, at_409, h_410⟩ := mF_o47 hG h_373
        have b_411 : vp_in yk 280 := (q_in (by omega) (by omega))
        refine va_lald hx hb hK (va_one at_409) 0 1 rfl rfl b_411 dX10_passes_28 ?_
        refine lv_topl (fun z_412 e_413 => ?_)
        refine lv_aload_n hx hb dX10_passes_29 rfl (lv_at hl 2 rfl) ?_
        refine va_get (D := D) (ci := 9) (v := .ref r_372) (C := RX10) (T := TX10) (N := 36) hx hb hts in10 hown hK (va_one at_407) 0 rfl rfl 10 (by decide) (hts (.fieldLink RX10 28 "RiverModelModel" "m" "[J") (List.mem_of_getElem? (i := 1) rfl)) (fun _ h9 => h9) rfl dX10_passes_30 ?_
        refine lv_pc (pc2 := 33) rfl ?_
        refine lv_bipush (v := 16) hx hb dX10_passes_33 (by decide) ?_
        refine lv_bipush (v := 13) hx hb dX10_passes_35 (by decide) ?_
        refine lv_iload hx hb dX10_passes_37 (lv_at hl 0 rfl) ?_
        refine lv_imul hx hb dX10_passes_39 ?_
        refine lv_topi (fun x_414 e_415 => ?_)
        have i_x_414 : x_414.toInt = 13 * yk.toInt := by rw [e_415]; exact (q_mul (by rw [show (13 : Int32).toInt = 13 by decide]; omega) (by rw [show (13 : Int32).toInt = 13 by decide]; omega)).trans (by rw [show (13 : Int32).toInt = 13 by decide])
        refine lv_iadd hx hb dX10_passes_40 ?_
        refine lv_topi (fun x_416 e_417 => ?_)
        have i_x_416 : x_416.toInt = 16 + x_414.toInt := by rw [e_417]; exact (q_add (by rw [show (16 : Int32).toInt = 16 by decide]; omega) (by rw [show (16 : Int32).toInt = 16 by decide]; omega)).trans (by rw [show (16 : Int32).toInt = 16 by decide])
        refine lv_iload hx hb dX10_passes_41 (lv_at hl 1 rfl) ?_
        refine lv_bipush (v := 13) hx hb dX10_passes_43 (by decide) ?_
        refine lv_irem hx hb dX10_passes_45 (by decide) ?_
        refine lv_topi (fun x_418 e_419 => ?_)
        have i_x_418 : x_418.toInt = x_55.toInt % 13 := by rw [e_419]; exact q_remE (n := 13) rfl (by decide) (by omega)
        refine lv_pc (pc2 := 46) rfl ?_
        refine lv_iadd hx hb dX10_passes_46 ?_
        refine lv_topi (fun x_420 e_421 => ?_)
        have i_x_420 : x_420.toInt = x_416.toInt + x_418.toInt := by rw [e_421]; exact (q_add (by omega) (by omega)).trans (by rfl)
        have b_422 : vp_in x_420 280 := (q_in (by omega) (by omega))
        refine va_lald hx hb hK (va_one at_409) 0 1 rfl rfl b_422 dX10_passes_47 ?_
        refine lv_topl (fun z_423 e_424 => ?_)
        refine lv_ladd hx hb dX10_passes_48 ?_
        refine lv_topl (fun z_425 e_426 => ?_)
        have b_427 : vp_in yk 280 := (q_in (by omega) (by omega))
        refine ty_last (F2 := (mF cI cL cC gC gE gW gA gT gI gS gM K F S N gH gJ ge gk gf gs gg gr RN gb rV rN)) hx hb hK hG hS 1 at_409 (by rw [h_373]; rfl) rfl b_427 (by rw [h_373]; exact ⟨_, rfl, gHr_ne ⟨by omega, by omega⟩ h_410⟩) tFF dX10_passes_49 (fun H locs hG hS at_428 o_429 => ?_)
        have at_407 := va_at.keptK at_407 o_429 h_373 k_a0 rfl
        refine lv_aload_n hx hb dX10_passes_50 rfl (lv_at hl 2 rfl) ?_
        refine va_get (D := D) (ci := 9) (v := .ref r_372) (C := RX10) (T := TX10) (N := 36) hx hb hts in10 hown hK (va_one at_407) 0 rfl rfl 10 (by decide) (hts (.fieldLink RX10 28 "RiverModelModel" "m" "[J") (List.mem_of_getElem? (i := 1) rfl)) (fun _ h9 => h9) rfl dX10_passes_51 ?_
        refine lv_bipush (v := 16) hx hb dX10_passes_54 (by decide) ?_
        refine lv_bipush (v := 13) hx hb dX10_passes_56 (by decide) ?_
        refine lv_pc (pc2 := 58) rfl ?_
        refine lv_iload hx hb dX10_passes_58 (lv_at hl 0 rfl) ?_
        refine lv_imul hx hb dX10_passes_60 ?_
        refine lv_topi (fun x_430 e_431 => ?_)
        have i_x_430 : x_430.toInt = 13 * yk.toInt := by rw [e_431]; exact (q_mul (by rw [show (13 : Int32).toInt = 13 by decide]; omega) (by rw [show (13 : Int32).toInt = 13 by decide]; omega)).trans (by rw [show (13 : Int32).toInt = 13 by decide])
        refine lv_iadd hx hb dX10_passes_61 ?_
        refine lv_topi (fun x_432 e_433 => ?_)
        have i_x_432 : x_432.toInt = 16 + x_430.toInt := by rw [e_433]; exact (q_add (by rw [show (16 : Int32).toInt = 16 by decide]; omega) (by rw [show (16 : Int32).toInt = 16 by decide]; omega)).trans (by rw [show (16 : Int32).toInt = 16 by decide])
        refine lv_iload hx hb dX10_passes_62 (lv_at hl 1 rfl) ?_
        refine lv_bipush (v := 13) hx hb dX10_passes_64 (by decide) ?_
        refine lv_irem hx hb dX10_passes_66 (by decide) ?_
        refine lv_topi (fun x_434 e_435 => ?_)
        have i_x_434 : x_434.toInt = x_55.toInt % 13 := by rw [e_435]; exact q_remE (n := 13) rfl (by decide) (by omega)
        refine lv_iadd hx hb dX10_passes_67 ?_
        refine lv_topi (fun x_436 e_437 => ?_)
        have i_x_436 : x_436.toInt = x_432.toInt + x_434.toInt := by rw [e_437]; exact (q_add (by omega) (by omega)).trans (by rfl)
        refine lv_lconst (v := 0) hx hb dX10_passes_68 (by decide) ?_
        refine lv_pc (pc2 := 69) rfl ?_
        obtain ⟨f_438, at_439, h_440⟩ := mF_o47 hG h_373
        have b_441 : vp_in x_436 280 := (q_in (by omega) (by omega))
        have zl_0 : (0 : Int64).toInt = 0 := by decide
        refine ty_last (F2 := (mF cI cL cC gC gE gW gA gT gI gS gM K F S N gH gJ ge gk gf gs gg gr RN gb rV rN)) hx hb hK hG hS 1 at_439 (by rw [h_373]; rfl) rfl b_441 (by rw [h_373]; exact ⟨_, rfl, gHr_ne ⟨by omega, by omega⟩ h_440⟩) tFF dX10_passes_69 (fun H locs hG hS at_442 o_443 => ?_)
        have at_407 := va_at.keptK at_407 o_443 h_373 k_a0 rfl
        obtain ⟨x_444, e_445⟩ : ∃ y : Int32, y = yk + Int32.ofInt 1 := ⟨_, rfl⟩
        have i_x_444 : x_444.toInt = yk.toInt + 1 := by rw [e_445, show Int32.ofInt 1 = 1 by decide]; exact (q_add (by rw [show (1 : Int32).toInt = 1 by decide]; omega) (by rw [show (1 : Int32).toInt = 1 by decide]; omega)).trans (by rw [show (1 : Int32).toInt = 1 by decide])
        refine lv_iinc (v := x_444) (lv' := [(5, .int x_444), (4, .int x_55), (0, .ref a0), (1, .int a1), (2, .int a2), (3, .int a3)]) hx hb dX10_passes_70 hl (k := 0) rfl e_445.symm (by decide) rfl (fun ls hl => ?_)
        refine lv_goto (tgt := 14) hx hb dX10_passes_73 (by decide) ?_
        exact (hWW57 _ _ _).mp (ih57 x_444 H locs ls (by omega) (by omega) (by omega) hG hS (lv_sub hl [0, 1, 2, 3, 4, 5] rfl))
  have zi_0 : (0 : Int32).toInt = 0 := by decide
  exact lp57 (16 - (0 : Int32).toInt : Int).toNat 0 H locs ls (by omega) (by omega) (by omega) hG hS (lv_sub hl [0, 1, 2, 3, 4, 5] rfl)

def uX10_goes : List Cond := .code yX10_goes cX10_goes 4 none :: ([.fieldLink RX10 28 "RiverModelModel" "m" "[J", .fieldLink RX10 25 "RiverModelModel" "weather" "[I", .methodLink RX10 225 yX10_passes, .instanceMethod yX10_passes, .selects RX10 yX10_passes yX10_passes, .initialized RX10, .code yX10_passes cX10_passes 12 none, .fieldLink RX10 163 "RiverModelModel" "items" "I", .fieldLink RX10 13 "RiverModelModel" "kind" "[I", .methodLink RX10 221 yX10_moves, .instanceMethod yX10_moves, .selects RX10 yX10_moves yX10_moves, .fieldLink RX10 16 "RiverModelModel" "first" "[I", .fieldLink RX10 19 "RiverModelModel" "second" "[I", .fieldLink RX10 22 "RiverModelModel" "number" "[I", .code yX10_moves cX10_moves 8 (some .long), .constantLong RX10 219 (10), .methodLink RX10 215 yX10_most, .instanceMethod yX10_most, .selects RX10 yX10_most yX10_most, .constantLong RX10 107 (100), .methodLink RX10 211 yX10_capacity, .instanceMethod yX10_capacity, .selects RX10 yX10_capacity yX10_capacity, .code yX10_most cX10_most 4 (some .long), .code yX10_capacity cX10_capacity 3 (some .long), .methodLink RX10 166 yX10_storeAt, .instanceMethod yX10_storeAt, .selects RX10 yX10_storeAt yX10_storeAt, .code yX10_storeAt cX10_storeAt 5 (some .int)] ++ wsX100)
set_option maxRecDepth 20000 in
theorem gu_X10_goes_X10_passes_225 : GoodIn uX10_goes (wsV RX10 225 RX10 yX10_passes uX10_passes) := goodIn_r _ [3, 4, 5, 6, 7, 1, 8, 9, 10, 11, 12, 6, 13, 14, 15, 16, 17, 18, 19, 20, 21, 22, 23, 24, 25, 26, 27, 28, 29, 30, 31, 32, 33, 34, 35, 36, 37, 38, 39, 40, 41, 42, 43, 44, 45, 46, 47, 48, 49, 50, 51, 52, 53, 54, 55, 56, 57, 58, 59, 60, 61, 62, 63, 64, 65, 66] rfl (by decide +kernel)
set_option maxHeartbeats 4000000 in
set_option maxRecDepth 100000 in
theorem m_X10_goes (l : Launch) (D : va_G) (t : Nat → Nat) (cI cL cC : ClassId) (gC : Int32) (gE : Int32) (gW : Nat → Int32) (gA : Nat → Int32) (gT : Nat → Int32) (gI : Int32) (gS : Int32) (gM : Int32) (K : Nat → Int32) (F : Nat → Int32) (S : Nat → Int32) (N : Nat → Int32) (gH : Int) (gJ : Int) (ge : Int32) (gk : Int32) (gf : Int32) (gs : Int32) (gg : Int32) (gr : Int32) (RN : Nat → Int32) (gb : Int32) (rV : Nat → Int32) (rN : Nat → Int32) (a0 : Nat) (a1 : Int32) (a2 : Int32) (M : Int) (uq : ∀ b c : Nat, t b = t c → t b ≠ 0 → b = c) (hMb : 40 * a1.toInt = M) (hM0 : 0 ≤ a1.toInt) (hM2 : a1.toInt ≤ 2) (hI0 : 0 ≤ gI.toInt) (hI4 : gI.toInt ≤ 40) (hO : okM K F S N M gI.toInt) (hH0 : 0 ≤ gH) (hH5 : gH ≤ 95) (hw0 : 0 ≤ a2.toInt) (hw1 : a2.toInt ≤ 1) (k_a0 : t a0 = 40) : tMx (Z := (Int)) l yX10_goes uX10_goes 4 104 D (mF cI cL cC gC gE gW gA gT gI gS gM K F S N gH gJ ge gk gf gs gg gr RN gb rV rN) (fun z => (mF cI cL cC gC gE gW gA gT gI gS gM K F S N z gJ ge gk gf gs gg gr RN gb rV rN)) t cI cL cC [.ref a0, .int a1, .int a2] wm (xV (fun (z : (Int)) => z = gH + 1)) := by
  refine tMx.ofW (cc := cX10_goes) (maxL := 4) (ret := none) (by decide) rfl (Nat.le_of_ble_eq_true rfl) ?_
  intro p e s m below meth c hx hb hr hml hown hts hlk H locs hG hK hE hS ls hl
  have hl : lv_has ls 4 [(0, .ref a0), (1, .int a1), (2, .int a2)] := hl
  have in10 : ∀ w ∈ wsX100, w ∈ uX10_goes := fun w h => List.mem_cons_of_mem _ (List.mem_append_right _ h)
  refine lv_aload_n hx hb dX10_goes_0 rfl (lv_at hl 0 rfl) ?_
  obtain ⟨r_1, r_3, r_5, r_7, r_9, r_11, r_13, r_15, r_17, r_19, r_21, r_23, r_25, r_27, r_29, r_31, r_33, r_35, r_37, r_39, r_41, r_43, v_45, r_46, at_48, h_2, h_4, h_6, h_8, h_10, h_12, h_14, h_16, h_18, h_20, h_22, h_24, h_26, h_28, h_30, h_32, h_34, h_36, h_38, h_40, h_42, h_44, h_47⟩ := mF_o40 hG k_a0
  refine va_get (D := D) (ci := 9) (v := .ref r_13) (C := RX10) (T := TX10) (N := 36) hx hb hts in10 hown hK (va_one at_48) 0 rfl rfl 10 (by decide) (hts (.fieldLink RX10 28 "RiverModelModel" "m" "[J") (List.mem_of_getElem? (i := 1) rfl)) (fun _ h9 => h9) rfl dX10_goes_1 ?_
  refine lv_sipush (v := 231) hx hb dX10_goes_4 (by decide) ?_
  obtain ⟨f_49, at_50, h_51⟩ := mF_o47 hG h_14
  have b_52 : vp_in 231 280 := (q_in (by decide) (by decide))
  refine va_lald hx hb hK (va_one at_50) 0 1 rfl rfl b_52 dX10_goes_7 ?_
  refine lv_topl (fun z_53 e_54 => ?_)
  have i_z_53 : z_53.toInt = gH := by rw [e_54]; exact gHr_ld h_51 (by decide)
  refine lv_l2i (v := z_53.toInt32) hx hb dX10_goes_8 rfl ?_
  refine lv_topi (fun x_55 e_56 => ?_)
  have i_x_55 : x_55.toInt = z_53.toInt := by rw [e_56]; exact q_l2i (by omega) (by omega)
  refine lv_istore_n (lv' := [(3, .int x_55), (0, .ref a0), (1, .int a1), (2, .int a2)]) hx hb dX10_goes_9 rfl hl (by decide) rfl (fun ls hl => ?_)
  refine lv_aload_n hx hb dX10_goes_10 rfl (lv_at hl 1 rfl) ?_
  refine lv_pc (pc2 := 11) rfl ?_
  refine lv_iload_n hx hb dX10_goes_11 rfl (lv_at hl 2 rfl) ?_
  refine lv_aload_n hx hb dX10_goes_12 rfl (lv_at hl 1 rfl) ?_
  refine va_get (D := D) (ci := 9) (v := .ref r_11) (C := RX10) (T := TX10) (N := 36) hx hb hts in10 hown hK (va_one at_48) 0 rfl rfl 9 (by decide) (hts (.fieldLink RX10 25 "RiverModelModel" "weather" "[I") (List.mem_of_getElem? (i := 2) rfl)) (fun _ h9 => h9) rfl dX10_goes_13 ?_
  refine lv_sipush (v := 192) hx hb dX10_goes_16 (by decide) ?_
  refine lv_iload_n hx hb dX10_goes_19 rfl (lv_at hl 3 rfl) ?_
  refine lv_imul hx hb dX10_goes_20 ?_
  refine lv_topi (fun x_57 e_58 => ?_)
  have i_x_57 : x_57.toInt = 192 * a2.toInt := by rw [e_58]; exact (q_mul (by rw [show (192 : Int32).toInt = 192 by decide]; omega) (by rw [show (192 : Int32).toInt = 192 by decide]; omega)).trans (by rw [show (192 : Int32).toInt = 192 by decide])
  refine lv_iconst (v := 2) hx hb dX10_goes_21 (by decide) ?_
  refine lv_iload_n hx hb dX10_goes_22 rfl (lv_at hl 0 rfl) ?_
  refine lv_pc (pc2 := 23) rfl ?_
  refine lv_imul hx hb dX10_goes_23 ?_
  refine lv_topi (fun x_59 e_60 => ?_)
  have i_x_59 : x_59.toInt = 2 * x_55.toInt := by rw [e_60]; exact (q_mul (by rw [show (2 : Int32).toInt = 2 by decide]; omega) (by rw [show (2 : Int32).toInt = 2 by decide]; omega)).trans (by rw [show (2 : Int32).toInt = 2 by decide])
  refine lv_iadd hx hb dX10_goes_24 ?_
  refine lv_topi (fun x_61 e_62 => ?_)
  have i_x_61 : x_61.toInt = x_57.toInt + x_59.toInt := by rw [e_62]; exact (q_add (by omega) (by omega)).trans (by rfl)
  obtain ⟨f_63, at_64⟩ := mF_o46 hG h_12
  have b_65 : vp_in x_61 384 := (q_in (by omega) (by omega))
  refine va_iald hx hb hK (va_one at_64) 0 0 rfl rfl b_65 dX10_goes_25 ?_
  refine lv_topi (fun x_66 e_67 => ?_)
  refine lv_aload_n hx hb dX10_goes_26 rfl (lv_at hl 1 rfl) ?_
  refine va_get (D := D) (ci := 9) (v := .ref r_11) (C := RX10) (T := TX10) (N := 36) hx hb hts in10 hown hK (va_one at_48) 0 rfl rfl 9 (by decide) (hts (.fieldLink RX10 25 "RiverModelModel" "weather" "[I") (List.mem_of_getElem? (i := 2) rfl)) (fun _ h9 => h9) rfl dX10_goes_27 ?_
  refine lv_sipush (v := 192) hx hb dX10_goes_30 (by decide) ?_
  refine lv_iload_n hx hb dX10_goes_33 rfl (lv_at hl 3 rfl) ?_
  refine lv_imul hx hb dX10_goes_34 ?_
  refine lv_topi (fun x_68 e_69 => ?_)
  have i_x_68 : x_68.toInt = 192 * a2.toInt := by rw [e_69]; exact (q_mul (by rw [show (192 : Int32).toInt = 192 by decide]; omega) (by rw [show (192 : Int32).toInt = 192 by decide]; omega)).trans (by rw [show (192 : Int32).toInt = 192 by decide])
  refine lv_pc (pc2 := 35) rfl ?_
  refine lv_iconst (v := 2) hx hb dX10_goes_35 (by decide) ?_
  refine lv_iload_n hx hb dX10_goes_36 rfl (lv_at hl 0 rfl) ?_
  refine lv_imul hx hb dX10_goes_37 ?_
  refine lv_topi (fun x_70 e_71 => ?_)
  have i_x_70 : x_70.toInt = 2 * x_55.toInt := by rw [e_71]; exact (q_mul (by rw [show (2 : Int32).toInt = 2 by decide]; omega) (by rw [show (2 : Int32).toInt = 2 by decide]; omega)).trans (by rw [show (2 : Int32).toInt = 2 by decide])
  refine lv_iadd hx hb dX10_goes_38 ?_
  refine lv_topi (fun x_72 e_73 => ?_)
  have i_x_72 : x_72.toInt = x_68.toInt + x_70.toInt := by rw [e_73]; exact (q_add (by omega) (by omega)).trans (by rfl)
  refine lv_iconst (v := 1) hx hb dX10_goes_39 (by decide) ?_
  refine lv_iadd hx hb dX10_goes_40 ?_
  refine lv_topi (fun x_74 e_75 => ?_)
  have i_x_74 : x_74.toInt = x_72.toInt + 1 := by rw [e_75]; exact (q_add (by rw [show (1 : Int32).toInt = 1 by decide]; omega) (by rw [show (1 : Int32).toInt = 1 by decide]; omega)).trans (by rw [show (1 : Int32).toInt = 1 by decide])
  have b_76 : vp_in x_74 384 := (q_in (by omega) (by omega))
  refine va_iald hx hb hK (va_one at_64) 0 0 rfl rfl b_76 dX10_goes_41 ?_
  refine lv_topi (fun x_77 e_78 => ?_)
  refine tx_callv (W.runV (As := [.int a1, .int x_66, .int x_77]) (rest := []) ⟨hx, hb, hml, hown, hts⟩ (m_X10_passes l D t cI cL cC gC gE gW gA gT gI gS gM K F S N gH gJ ge gk gf gs gg gr RN gb rV rN a0 a1 x_66 x_77 M uq (by omega) (by omega) (by omega) (by omega) (by omega) hO (by omega) (by omega) k_a0) (cwV 3 hts gu_X10_goes_X10_passes_225 rfl rfl rfl (by decide +kernel) ⟨Nat.le_of_ble_eq_true rfl, Nat.le_of_ble_eq_true rfl⟩) (tP_V hG hE at_48 rfl) rfl rfl hl.1 rfl (lv_room (Nat.le_of_ble_eq_true rfl)) dX10_goes_42 ⟨Nat.le_of_ble_eq_true rfl, Nat.le_of_ble_eq_true rfl⟩) hS (fun _ h => h) (fun gH_83 H locs hp_80 hG hS o_81 => ?_)
  have at_48 := va_at.keptC at_48 o_81 k_a0 rfl
  have at_64 := va_at.keptC at_64 o_81 h_12 rfl
  replace hG : tG D (mF cI cL cC gC gE gW gA gT gI gS gM K F S N gH_83 gJ ge gk gf gs gg gr RN gb rV rN) t H := hG
  have hp_80 : gH_83 = gH + 1 := hp_80
  have p_84 := hp_80
  refine lv_pc (pc2 := 45) rfl ?_
  exact tx_vret (z := (gH_83)) hx hb hr hlk hG hS (by show gH_83 = gH + 1; omega) dX10_goes_45

def uX10_asides : List Cond := .code yX10_asides cX10_asides 2 none :: ([.fieldLink RX10 32 "RiverModelModel" "aside" "[J", .fieldLink RX10 28 "RiverModelModel" "m" "[J"] ++ wsX100)
set_option maxHeartbeats 4000000 in
set_option maxRecDepth 100000 in
theorem m_X10_asides (l : Launch) (D : va_G) (t : Nat → Nat) (cI cL cC : ClassId) (gC : Int32) (gE : Int32) (gW : Nat → Int32) (gA : Nat → Int32) (gT : Nat → Int32) (gI : Int32) (gS : Int32) (gM : Int32) (K : Nat → Int32) (F : Nat → Int32) (S : Nat → Int32) (N : Nat → Int32) (gH : Int) (gJ : Int) (ge : Int32) (gk : Int32) (gf : Int32) (gs : Int32) (gg : Int32) (gr : Int32) (RN : Nat → Int32) (gb : Int32) (rV : Nat → Int32) (rN : Nat → Int32) (a0 : Nat) (uq : ∀ b c : Nat, t b = t c → t b ≠ 0 → b = c) (k_a0 : t a0 = 40) : tMx (Z := (Int)) l yX10_asides uX10_asides 0 0 D (mF cI cL cC gC gE gW gA gT gI gS gM K F S N gH gJ ge gk gf gs gg gr RN gb rV rN) (fun z => (mF cI cL cC gC gE gW gA gT gI gS gM K F S N gH z ge gk gf gs gg gr RN gb rV rN)) t cI cL cC [.ref a0] wj (xV (fun (z : (Int)) => z = gH)) := by
  refine tMx.ofW (cc := cX10_asides) (maxL := 2) (ret := none) (by decide) rfl (Nat.le_of_ble_eq_true rfl) ?_
  intro p e s m below meth c hx hb hr hml hown hts hlk H locs hG hK hE hS ls hl
  have hl : lv_has ls 2 [(0, .ref a0)] := hl
  have in10 : ∀ w ∈ wsX100, w ∈ uX10_asides := fun w h => List.mem_cons_of_mem _ (List.mem_append_right _ h)
  refine lv_iconst (v := 0) hx hb dX10_asides_0 (by decide) ?_
  refine lv_istore_n (lv' := [(1, .int 0), (0, .ref a0)]) hx hb dX10_asides_1 rfl hl (by decide) rfl (fun ls hl => ?_)
  refine lv_pc (pc2 := 2) rfl ?_
  refine lp_gen (fun WW1 hWW1 => ?_)
  have kx1 : ∀ (yk : Int32) (hj : Int) (H1 : Heap) (locs1 : List Loc) (ls1 : Array Slot), (0 ≤ yk.toInt) → (yk.toInt ≤ 280) → (231 < yk.toInt → hj = gH) → (280 ≤ yk.toInt) → tG D (mF cI cL cC gC gE gW gA gT gI gS gM K F S N gH hj ge gk gf gs gg gr RN gb rV rN) t H1 → tF t wj s.heap H1 locs1 → lv_has ls1 2 [(1, .int yk), (0, .ref a0)] → WW1 H1 locs1 (F0 m 27 ls1 []) := by
    intro yk hj H locs ls v1_0 v1_1 v1_2 xf1_0 hG hS hl
    refine (hWW1 _ _ _).mpr ?_
    exact tx_vret (z := (hj)) hx hb hr hlk hG hS (by show hj = gH; omega) dX10_asides_27
  have lp1 : ∀ (kk1 : Nat) (yk : Int32) (hj : Int) (H1 : Heap) (locs1 : List Loc) (ls1 : Array Slot), 280 - yk.toInt ≤ (kk1 : Int) → (0 ≤ yk.toInt) → (yk.toInt ≤ 280) → (231 < yk.toInt → hj = gH) → tG D (mF cI cL cC gC gE gW gA gT gI gS gM K F S N gH hj ge gk gf gs gg gr RN gb rV rN) t H1 → tF t wj s.heap H1 locs1 → lv_has ls1 2 [(1, .int yk), (0, .ref a0)] → WW1 H1 locs1 (F0 m 2 ls1 []) := by
    intro kk1
    induction kk1 with
    | zero =>
      intro yk hj H locs ls hk1 v1_0 v1_1 v1_2 hG hS hl
      refine (hWW1 _ _ _).mpr ?_
      refine lv_iload_n hx hb dX10_asides_2 rfl (lv_at hl 0 rfl) ?_
      refine lv_sipush (v := 280) hx hb dX10_asides_3 (by decide) ?_
      refine lv_icmp_ge (tgt := 27) hx hb dX10_asides_6 (by decide) (fun c_2 => ?_) (fun c_2 => ?_)
      · skip
        have c_2 : 280 ≤ yk.toInt := q_le c_2
        exact (hWW1 _ _ _).mp (kx1 yk hj H locs ls v1_0 v1_1 v1_2 (by omega) hG hS (lv_sub hl [0, 1] rfl))
      · skip
        have c_2 : yk.toInt < 280 := q_nle c_2
        exfalso; omega
    | succ kk1 ih1 =>
      intro yk hj H locs ls hk1 v1_0 v1_1 v1_2 hG hS hl
      refine (hWW1 _ _ _).mpr ?_
      refine lv_iload_n hx hb dX10_asides_2 rfl (lv_at hl 0 rfl) ?_
      refine lv_pc (pc2 := 3) rfl ?_
      refine lv_sipush (v := 280) hx hb dX10_asides_3 (by decide) ?_
      refine lv_icmp_ge (tgt := 27) hx hb dX10_asides_6 (by decide) (fun c_3 => ?_) (fun c_3 => ?_)
      · skip
        have c_3 : 280 ≤ yk.toInt := q_le c_3
        exact (hWW1 _ _ _).mp (kx1 yk hj H locs ls v1_0 v1_1 v1_2 (by omega) hG hS (lv_sub hl [0, 1] rfl))
      · skip
        have c_3 : yk.toInt < 280 := q_nle c_3
        refine lv_aload_n hx hb dX10_asides_9 rfl (lv_at hl 1 rfl) ?_
        obtain ⟨r_4, r_6, r_8, r_10, r_12, r_14, r_16, r_18, r_20, r_22, r_24, r_26, r_28, r_30, r_32, r_34, r_36, r_38, r_40, r_42, r_44, r_46, v_48, r_49, at_51, h_5, h_7, h_9, h_11, h_13, h_15, h_17, h_19, h_21, h_23, h_25, h_27, h_29, h_31, h_33, h_35, h_37, h_39, h_41, h_43, h_45, h_47, h_50⟩ := mF_o40 hG k_a0
        refine va_get (D := D) (ci := 9) (v := .ref r_18) (C := RX10) (T := TX10) (N := 36) hx hb hts in10 hown hK (va_one at_51) 0 rfl rfl 11 (by decide) (hts (.fieldLink RX10 32 "RiverModelModel" "aside" "[J") (List.mem_of_getElem? (i := 1) rfl)) (fun _ h9 => h9) rfl dX10_asides_10 ?_
        refine lv_iload_n hx hb dX10_asides_13 rfl (lv_at hl 0 rfl) ?_
        refine lv_aload_n hx hb dX10_asides_14 rfl (lv_at hl 1 rfl) ?_
        refine va_get (D := D) (ci := 9) (v := .ref r_16) (C := RX10) (T := TX10) (N := 36) hx hb hts in10 hown hK (va_one at_51) 0 rfl rfl 10 (by decide) (hts (.fieldLink RX10 28 "RiverModelModel" "m" "[J") (List.mem_of_getElem? (i := 2) rfl)) (fun _ h9 => h9) rfl dX10_asides_15 ?_
        refine lv_iload_n hx hb dX10_asides_18 rfl (lv_at hl 0 rfl) ?_
        refine lv_pc (pc2 := 19) rfl ?_
        obtain ⟨f_52, at_53, h_54⟩ := mF_o47 hG h_17
        have b_55 : vp_in yk 280 := (q_in (by omega) (by omega))
        refine va_lald hx hb hK (va_one at_53) 0 1 rfl rfl b_55 dX10_asides_19 ?_
        refine lv_topl (fun z_56 e_57 => ?_)
        have i_z_56 : yk.toInt = 231 → z_56.toInt = gH := by rw [e_57]; exact gHr_ld h_54
        obtain ⟨f_58, at_59, h_60⟩ := mF_o48 hG h_19
        have b_61 : vp_in yk 280 := (q_in (by omega) (by omega))
        obtain ⟨h_62, gh_62, dh_62⟩ := gHr_ex yk z_56 (by omega) h_60
        refine ty_last (F2 := (mF cI cL cC gC gE gW gA gT gI gS gM K F S N gH h_62 ge gk gf gs gg gr RN gb rV rN)) hx hb hK hG hS 1 at_59 (by rw [h_19]; rfl) rfl b_61 (by rw [h_19]; exact ⟨_, rfl, gh_62⟩) (fun hG b hb h0 => by obtain ⟨e, g1, g2⟩ := hG b h0; exact ⟨e, g1, mF_gJ (fun h => hb (uq b r_18 (h.trans h_19.symm) h0)) g2⟩) dX10_asides_20 (fun H locs hG hS at_63 o_64 => ?_)
        have at_51 := va_at.keptK at_51 o_64 h_19 k_a0 rfl
        have at_53 := va_at.keptK at_53 o_64 h_19 h_17 rfl
        obtain ⟨x_65, e_66⟩ : ∃ y : Int32, y = yk + Int32.ofInt 1 := ⟨_, rfl⟩
        have i_x_65 : x_65.toInt = yk.toInt + 1 := by rw [e_66, show Int32.ofInt 1 = 1 by decide]; exact (q_add (by rw [show (1 : Int32).toInt = 1 by decide]; omega) (by rw [show (1 : Int32).toInt = 1 by decide]; omega)).trans (by rw [show (1 : Int32).toInt = 1 by decide])
        refine lv_iinc (v := x_65) (lv' := [(1, .int x_65), (0, .ref a0)]) hx hb dX10_asides_21 hl (k := 0) rfl e_66.symm (by decide) rfl (fun ls hl => ?_)
        refine lv_goto (tgt := 2) hx hb dX10_asides_24 (by decide) ?_
        exact (hWW1 _ _ _).mp (ih1 x_65 h_62 H locs ls (by omega) (by omega) (by omega) (by omega) hG hS (lv_sub hl [0, 1] rfl))
  have zi_0 : (0 : Int32).toInt = 0 := by decide
  exact lp1 (280 - (0 : Int32).toInt : Int).toNat 0 gJ H locs ls (by omega) (by omega) (by omega) (by omega) hG hS (lv_sub hl [0, 1] rfl)

def uX10_returns : List Cond := .code yX10_returns cX10_returns 2 none :: ([.fieldLink RX10 28 "RiverModelModel" "m" "[J", .fieldLink RX10 32 "RiverModelModel" "aside" "[J"] ++ wsX100)
set_option maxHeartbeats 4000000 in
set_option maxRecDepth 100000 in
theorem m_X10_returns (l : Launch) (D : va_G) (t : Nat → Nat) (cI cL cC : ClassId) (gC : Int32) (gE : Int32) (gW : Nat → Int32) (gA : Nat → Int32) (gT : Nat → Int32) (gI : Int32) (gS : Int32) (gM : Int32) (K : Nat → Int32) (F : Nat → Int32) (S : Nat → Int32) (N : Nat → Int32) (gH : Int) (gJ : Int) (ge : Int32) (gk : Int32) (gf : Int32) (gs : Int32) (gg : Int32) (gr : Int32) (RN : Nat → Int32) (gb : Int32) (rV : Nat → Int32) (rN : Nat → Int32) (a0 : Nat) (uq : ∀ b c : Nat, t b = t c → t b ≠ 0 → b = c) (k_a0 : t a0 = 40) : tMx (Z := (Int)) l yX10_returns uX10_returns 0 0 D (mF cI cL cC gC gE gW gA gT gI gS gM K F S N gH gJ ge gk gf gs gg gr RN gb rV rN) (fun z => (mF cI cL cC gC gE gW gA gT gI gS gM K F S N z gJ ge gk gf gs gg gr RN gb rV rN)) t cI cL cC [.ref a0] wm (xV (fun (z : (Int)) => z = gJ)) := by
  refine tMx.ofW (cc := cX10_returns) (maxL := 2) (ret := none) (by decide) rfl (Nat.le_of_ble_eq_true rfl) ?_
  intro p e s m below meth c hx hb hr hml hown hts hlk H locs hG hK hE hS ls hl
  have hl : lv_has ls 2 [(0, .ref a0)] := hl
  have in10 : ∀ w ∈ wsX100, w ∈ uX10_returns := fun w h => List.mem_cons_of_mem _ (List.mem_append_right _ h)
  refine lv_iconst (v := 0) hx hb dX10_returns_0 (by decide) ?_
  refine lv_istore_n (lv' := [(1, .int 0), (0, .ref a0)]) hx hb dX10_returns_1 rfl hl (by decide) rfl (fun ls hl => ?_)
  refine lv_pc (pc2 := 2) rfl ?_
  refine lp_gen (fun WW1 hWW1 => ?_)
  have kx1 : ∀ (yk : Int32) (hm : Int) (H1 : Heap) (locs1 : List Loc) (ls1 : Array Slot), (0 ≤ yk.toInt) → (yk.toInt ≤ 280) → (231 < yk.toInt → hm = gJ) → (280 ≤ yk.toInt) → tG D (mF cI cL cC gC gE gW gA gT gI gS gM K F S N hm gJ ge gk gf gs gg gr RN gb rV rN) t H1 → tF t wm s.heap H1 locs1 → lv_has ls1 2 [(1, .int yk), (0, .ref a0)] → WW1 H1 locs1 (F0 m 27 ls1 []) := by
    intro yk hm H locs ls v1_0 v1_1 v1_2 xf1_0 hG hS hl
    refine (hWW1 _ _ _).mpr ?_
    exact tx_vret (z := (hm)) hx hb hr hlk hG hS (by show hm = gJ; omega) dX10_returns_27
  have lp1 : ∀ (kk1 : Nat) (yk : Int32) (hm : Int) (H1 : Heap) (locs1 : List Loc) (ls1 : Array Slot), 280 - yk.toInt ≤ (kk1 : Int) → (0 ≤ yk.toInt) → (yk.toInt ≤ 280) → (231 < yk.toInt → hm = gJ) → tG D (mF cI cL cC gC gE gW gA gT gI gS gM K F S N hm gJ ge gk gf gs gg gr RN gb rV rN) t H1 → tF t wm s.heap H1 locs1 → lv_has ls1 2 [(1, .int yk), (0, .ref a0)] → WW1 H1 locs1 (F0 m 2 ls1 []) := by
    intro kk1
    induction kk1 with
    | zero =>
      intro yk hm H locs ls hk1 v1_0 v1_1 v1_2 hG hS hl
      refine (hWW1 _ _ _).mpr ?_
      refine lv_iload_n hx hb dX10_returns_2 rfl (lv_at hl 0 rfl) ?_
      refine lv_sipush (v := 280) hx hb dX10_returns_3 (by decide) ?_
      refine lv_icmp_ge (tgt := 27) hx hb dX10_returns_6 (by decide) (fun c_2 => ?_) (fun c_2 => ?_)
      · skip
        have c_2 : 280 ≤ yk.toInt := q_le c_2
        exact (hWW1 _ _ _).mp (kx1 yk hm H locs ls v1_0 v1_1 v1_2 (by omega) hG hS (lv_sub hl [0, 1] rfl))
      · skip
        have c_2 : yk.toInt < 280 := q_nle c_2
        exfalso; omega
    | succ kk1 ih1 =>
      intro yk hm H locs ls hk1 v1_0 v1_1 v1_2 hG hS hl
      refine (hWW1 _ _ _).mpr ?_
      refine lv_iload_n hx hb dX10_returns_2 rfl (lv_at hl 0 rfl) ?_
      refine lv_pc (pc2 := 3) rfl ?_
      refine lv_sipush (v := 280) hx hb dX10_returns_3 (by decide) ?_
      refine lv_icmp_ge (tgt := 27) hx hb dX10_returns_6 (by decide) (fun c_3 => ?_) (fun c_3 => ?_)
      · skip
        have c_3 : 280 ≤ yk.toInt := q_le c_3
        exact (hWW1 _ _ _).mp (kx1 yk hm H locs ls v1_0 v1_1 v1_2 (by omega) hG hS (lv_sub hl [0, 1] rfl))
      · skip
        have c_3 : yk.toInt < 280 := q_nle c_3
        refine lv_aload_n hx hb dX10_returns_9 rfl (lv_at hl 1 rfl) ?_
        obtain ⟨r_4, r_6, r_8, r_10, r_12, r_14, r_16, r_18, r_20, r_22, r_24, r_26, r_28, r_30, r_32, r_34, r_36, r_38, r_40, r_42, r_44, r_46, v_48, r_49, at_51, h_5, h_7, h_9, h_11, h_13, h_15, h_17, h_19, h_21, h_23, h_25, h_27, h_29, h_31, h_33, h_35, h_37, h_39, h_41, h_43, h_45, h_47, h_50⟩ := mF_o40 hG k_a0
        refine va_get (D := D) (ci := 9) (v := .ref r_16) (C := RX10) (T := TX10) (N := 36) hx hb hts in10 hown hK (va_one at_51) 0 rfl rfl 10 (by decide) (hts (.fieldLink RX10 28 "RiverModelModel" "m" "[J") (List.mem_of_getElem? (i := 1) rfl)) (fun _ h9 => h9) rfl dX10_returns_10 ?_
        refine lv_iload_n hx hb dX10_returns_13 rfl (lv_at hl 0 rfl) ?_
        refine lv_aload_n hx hb dX10_returns_14 rfl (lv_at hl 1 rfl) ?_
        refine va_get (D := D) (ci := 9) (v := .ref r_18) (C := RX10) (T := TX10) (N := 36) hx hb hts in10 hown hK (va_one at_51) 0 rfl rfl 11 (by decide) (hts (.fieldLink RX10 32 "RiverModelModel" "aside" "[J") (List.mem_of_getElem? (i := 2) rfl)) (fun _ h9 => h9) rfl dX10_returns_15 ?_
        refine lv_iload_n hx hb dX10_returns_18 rfl (lv_at hl 0 rfl) ?_
        refine lv_pc (pc2 := 19) rfl ?_
        obtain ⟨f_52, at_53, h_54⟩ := mF_o48 hG h_19
        have b_55 : vp_in yk 280 := (q_in (by omega) (by omega))
        refine va_lald hx hb hK (va_one at_53) 0 1 rfl rfl b_55 dX10_returns_19 ?_
        refine lv_topl (fun z_56 e_57 => ?_)
        have i_z_56 : yk.toInt = 231 → z_56.toInt = gJ := by rw [e_57]; exact gHr_ld h_54
        obtain ⟨f_58, at_59, h_60⟩ := mF_o47 hG h_17
        have b_61 : vp_in yk 280 := (q_in (by omega) (by omega))
        obtain ⟨h_62, gh_62, dh_62⟩ := gHr_ex yk z_56 (by omega) h_60
        refine ty_last (F2 := (mF cI cL cC gC gE gW gA gT gI gS gM K F S N h_62 gJ ge gk gf gs gg gr RN gb rV rN)) hx hb hK hG hS 1 at_59 (by rw [h_17]; rfl) rfl b_61 (by rw [h_17]; exact ⟨_, rfl, gh_62⟩) (fun hG b hb h0 => by obtain ⟨e, g1, g2⟩ := hG b h0; exact ⟨e, g1, mF_gH (fun h => hb (uq b r_16 (h.trans h_17.symm) h0)) g2⟩) dX10_returns_20 (fun H locs hG hS at_63 o_64 => ?_)
        have at_51 := va_at.keptK at_51 o_64 h_17 k_a0 rfl
        have at_53 := va_at.keptK at_53 o_64 h_17 h_19 rfl
        obtain ⟨x_65, e_66⟩ : ∃ y : Int32, y = yk + Int32.ofInt 1 := ⟨_, rfl⟩
        have i_x_65 : x_65.toInt = yk.toInt + 1 := by rw [e_66, show Int32.ofInt 1 = 1 by decide]; exact (q_add (by rw [show (1 : Int32).toInt = 1 by decide]; omega) (by rw [show (1 : Int32).toInt = 1 by decide]; omega)).trans (by rw [show (1 : Int32).toInt = 1 by decide])
        refine lv_iinc (v := x_65) (lv' := [(1, .int x_65), (0, .ref a0)]) hx hb dX10_returns_21 hl (k := 0) rfl e_66.symm (by decide) rfl (fun ls hl => ?_)
        refine lv_goto (tgt := 2) hx hb dX10_returns_24 (by decide) ?_
        exact (hWW1 _ _ _).mp (ih1 x_65 h_62 H locs ls (by omega) (by omega) (by omega) (by omega) hG hS (lv_sub hl [0, 1] rfl))
  have zi_0 : (0 : Int32).toInt = 0 := by decide
  exact lp1 (280 - (0 : Int32).toInt : Int).toNat 0 gH H locs ls (by omega) (by omega) (by omega) (by omega) hG hS (lv_sub hl [0, 1] rfl)

def uX10_begins : List Cond := .code yX10_begins cX10_begins 4 none :: ([.fieldLink RX10 28 "RiverModelModel" "m" "[J", .methodLink RX10 183 yX10_startOf, .instanceMethod yX10_startOf, .selects RX10 yX10_startOf yX10_startOf, .initialized RX10, .methodLink RX10 208 yX10_isStore, .instanceMethod yX10_isStore, .selects RX10 yX10_isStore yX10_isStore, .fieldLink RX10 71 "RiverModelModel" "startB" "[I", .constantLong RX10 204 (224), .constantLong RX10 206 (227), .methodLink RX10 85 yX10_in, .static yX10_in, .constantLong RX10 196 (5), .code yX10_startOf cX10_startOf 4 (some .int), .methodLink RX10 166 yX10_storeAt, .instanceMethod yX10_storeAt, .selects RX10 yX10_storeAt yX10_storeAt, .fieldLink RX10 22 "RiverModelModel" "number" "[I", .code yX10_storeAt cX10_storeAt 5 (some .int), .fieldLink RX10 163 "RiverModelModel" "items" "I", .fieldLink RX10 13 "RiverModelModel" "kind" "[I", .fieldLink RX10 16 "RiverModelModel" "first" "[I", .code yX10_isStore cX10_isStore 2 (some .boolean), .code yX10_in cX10_in 6 (some .boolean)] ++ wsX100)
set_option maxRecDepth 20000 in
theorem gu_X10_begins_X10_startOf_183 : GoodIn uX10_begins (wsV RX10 183 RX10 yX10_startOf uX10_startOf) := goodIn_r _ [2, 3, 4, 5, 15, 16, 17, 18, 5, 19, 20, 21, 22, 23, 26, 27, 28, 29, 30, 31, 32, 33, 34, 35, 36, 37, 38, 39, 40, 41, 42, 43, 44, 45, 46, 47, 48, 49, 50, 51, 52, 53, 54, 55, 56, 57, 58, 59, 60, 61] rfl (by decide +kernel)
set_option maxRecDepth 20000 in
theorem gu_X10_begins_X10_isStore_208 : GoodIn uX10_begins (wsV RX10 208 RX10 yX10_isStore uX10_isStore) := goodIn_r _ [6, 7, 8, 5, 24, 16, 17, 18, 5, 20, 21, 22, 23, 26, 27, 28, 29, 30, 31, 32, 33, 34, 35, 36, 37, 38, 39, 40, 41, 42, 43, 44, 45, 46, 47, 48, 49, 50, 51, 52, 53, 54, 55, 56, 57, 58, 59, 60, 61] rfl (by decide +kernel)
set_option maxRecDepth 20000 in
theorem gu_X10_begins_X10_in_85 : GoodIn uX10_begins (va_wsS RX10 85 yX10_in uX10_in) := goodIn_r _ [12, 13, 5, 25] rfl (by decide +kernel)
set_option maxHeartbeats 4000000 in
set_option maxRecDepth 100000 in
theorem m_X10_begins (l : Launch) (D : va_G) (t : Nat → Nat) (cI cL cC : ClassId) (gC : Int32) (gE : Int32) (gW : Nat → Int32) (gA : Nat → Int32) (gT : Nat → Int32) (gI : Int32) (gS : Int32) (gM : Int32) (K : Nat → Int32) (F : Nat → Int32) (S : Nat → Int32) (N : Nat → Int32) (gH : Int) (gJ : Int) (ge : Int32) (gk : Int32) (gf : Int32) (gs : Int32) (gg : Int32) (gr : Int32) (RN : Nat → Int32) (gb : Int32) (rV : Nat → Int32) (rN : Nat → Int32) (a0 : Nat) (a1 : Int32) (a2 : Int32) (M : Int) (uq : ∀ b c : Nat, t b = t c → t b ≠ 0 → b = c) (hMb : 40 * a1.toInt = M) (hM0 : 0 ≤ a1.toInt) (hM2 : a1.toInt ≤ 2) (hI0 : 0 ≤ gI.toInt) (hI4 : gI.toInt ≤ 40) (k_a0 : t a0 = 40) : tMx (Z := (Int)) l yX10_begins uX10_begins 2 47 D (mF cI cL cC gC gE gW gA gT gI gS gM K F S N gH gJ ge gk gf gs gg gr RN gb rV rN) (fun z => (mF cI cL cC gC gE gW gA gT gI gS gM K F S N z gJ ge gk gf gs gg gr RN gb rV rN)) t cI cL cC [.ref a0, .int a1, .int a2] wm (xV (fun (z : (Int)) => z = 0)) := by
  refine tMx.ofW (cc := cX10_begins) (maxL := 4) (ret := none) (by decide) rfl (Nat.le_of_ble_eq_true rfl) ?_
  intro p e s m below meth c hx hb hr hml hown hts hlk H locs hG hK hE hS ls hl
  have hl : lv_has ls 4 [(0, .ref a0), (1, .int a1), (2, .int a2)] := hl
  have in10 : ∀ w ∈ wsX100, w ∈ uX10_begins := fun w h => List.mem_cons_of_mem _ (List.mem_append_right _ h)
  refine lv_iconst (v := 0) hx hb dX10_begins_0 (by decide) ?_
  refine lv_istore_n (lv' := [(3, .int 0), (0, .ref a0), (1, .int a1), (2, .int a2)]) hx hb dX10_begins_1 rfl hl (by decide) rfl (fun ls hl => ?_)
  refine lv_pc (pc2 := 2) rfl ?_
  refine lp_gen (fun WW1 hWW1 => ?_)
  have kx1 : ∀ (yk : Int32) (hm : Int) (H1 : Heap) (locs1 : List Loc) (ls1 : Array Slot), (0 ≤ yk.toInt) → (yk.toInt ≤ 280) → (231 < yk.toInt → hm = 0) → (280 ≤ yk.toInt) → tG D (mF cI cL cC gC gE gW gA gT gI gS gM K F S N hm gJ ge gk gf gs gg gr RN gb rV rN) t H1 → tF t wm s.heap H1 locs1 → lv_has ls1 4 [(3, .int yk), (0, .ref a0), (1, .int a1), (2, .int a2)] → WW1 H1 locs1 (F0 m 42 ls1 []) := by
    intro yk hm H locs ls v1_0 v1_1 v1_2 xf1_0 hG hS hl
    refine (hWW1 _ _ _).mpr ?_
    refine lv_iconst (v := 0) hx hb dX10_begins_42 (by decide) ?_
    refine lv_istore_n (lv' := [(3, .int 0), (0, .ref a0), (1, .int a1), (2, .int a2)]) hx hb dX10_begins_43 rfl hl (by decide) rfl (fun ls hl => ?_)
    refine lv_pc (pc2 := 44) rfl ?_
    refine lp_gen (fun WW2 hWW2 => ?_)
    have kx2 : ∀ (yk : Int32) (H1 : Heap) (locs1 : List Loc) (ls1 : Array Slot), (0 ≤ yk.toInt) → (yk.toInt ≤ 16) → tG D (mF cI cL cC gC gE gW gA gT gI gS gM K F S N hm gJ ge gk gf gs gg gr RN gb rV rN) t H1 → tF t wm s.heap H1 locs1 → lv_has ls1 4 [(3, .int yk), (0, .ref a0), (1, .int a1), (2, .int a2)] → WW2 H1 locs1 (F0 m 91 ls1 []) := by
      intro yk H locs ls v2_0 v2_1 hG hS hl
      refine (hWW2 _ _ _).mpr ?_
      exact tx_vret (z := (hm)) hx hb hr hlk hG hS (by show hm = 0; omega) dX10_begins_91
    have lp2 : ∀ (kk2 : Nat) (yk : Int32) (H1 : Heap) (locs1 : List Loc) (ls1 : Array Slot), 16 - yk.toInt ≤ (kk2 : Int) → (0 ≤ yk.toInt) → (yk.toInt ≤ 16) → tG D (mF cI cL cC gC gE gW gA gT gI gS gM K F S N hm gJ ge gk gf gs gg gr RN gb rV rN) t H1 → tF t wm s.heap H1 locs1 → lv_has ls1 4 [(3, .int yk), (0, .ref a0), (1, .int a1), (2, .int a2)] → WW2 H1 locs1 (F0 m 44 ls1 []) := by
      intro kk2
      induction kk2 with
      | zero =>
        intro yk H locs ls hk2 v2_0 v2_1 hG hS hl
        refine (hWW2 _ _ _).mpr ?_
        refine lv_iload_n hx hb dX10_begins_44 rfl (lv_at hl 0 rfl) ?_
        refine lv_bipush (v := 16) hx hb dX10_begins_45 (by decide) ?_
        refine lv_pc (pc2 := 47) rfl ?_
        refine lv_icmp_ge (tgt := 91) hx hb dX10_begins_47 (by decide) (fun c_3 => ?_) (fun c_3 => ?_)
        · skip
          have c_3 : 16 ≤ yk.toInt := q_le c_3
          exact (hWW2 _ _ _).mp (kx2 yk H locs ls v2_0 v2_1 hG hS (lv_sub hl [0, 1, 2, 3] rfl))
        · skip
          have c_3 : yk.toInt < 16 := q_nle c_3
          exfalso; omega
      | succ kk2 ih2 =>
        intro yk H locs ls hk2 v2_0 v2_1 hG hS hl
        refine (hWW2 _ _ _).mpr ?_
        refine lv_iload_n hx hb dX10_begins_44 rfl (lv_at hl 0 rfl) ?_
        refine lv_bipush (v := 16) hx hb dX10_begins_45 (by decide) ?_
        refine lv_icmp_ge (tgt := 91) hx hb dX10_begins_47 (by decide) (fun c_4 => ?_) (fun c_4 => ?_)
        · skip
          have c_4 : 16 ≤ yk.toInt := q_le c_4
          exact (hWW2 _ _ _).mp (kx2 yk H locs ls v2_0 v2_1 hG hS (lv_sub hl [0, 1, 2, 3] rfl))
        · skip
          have c_4 : yk.toInt < 16 := q_nle c_4
          refine lv_aload_n hx hb dX10_begins_50 rfl (lv_at hl 1 rfl) ?_
          obtain ⟨r_5, r_7, r_9, r_11, r_13, r_15, r_17, r_19, r_21, r_23, r_25, r_27, r_29, r_31, r_33, r_35, r_37, r_39, r_41, r_43, r_45, r_47, v_49, r_50, at_52, h_6, h_8, h_10, h_12, h_14, h_16, h_18, h_20, h_22, h_24, h_26, h_28, h_30, h_32, h_34, h_36, h_38, h_40, h_42, h_44, h_46, h_48, h_51⟩ := mF_o40 hG k_a0
          refine va_get (D := D) (ci := 9) (v := .ref r_17) (C := RX10) (T := TX10) (N := 36) hx hb hts in10 hown hK (va_one at_52) 0 rfl rfl 10 (by decide) (hts (.fieldLink RX10 28 "RiverModelModel" "m" "[J") (List.mem_of_getElem? (i := 1) rfl)) (fun _ h9 => h9) rfl dX10_begins_51 ?_
          refine lv_iload_n hx hb dX10_begins_54 rfl (lv_at hl 0 rfl) ?_
          refine lv_iload_n hx hb dX10_begins_55 rfl (lv_at hl 3 rfl) ?_
          refine lv_pc (pc2 := 56) rfl ?_
          refine lv_if_eq (tgt := 77) hx hb dX10_begins_56 (by decide) (fun c_53 => ?_) (fun c_53 => ?_)
          · skip
            have c_53 : a2.toInt = 0 := q_eq c_53
            refine lv_aload_n hx hb dX10_begins_77 rfl (lv_at hl 1 rfl) ?_
            refine lv_iload_n hx hb dX10_begins_78 rfl (lv_at hl 2 rfl) ?_
            refine lv_iload_n hx hb dX10_begins_79 rfl (lv_at hl 0 rfl) ?_
            refine ty_calli (W.runV (As := [.int a1, .int yk]) (rest := [.int yk, .ref r_17]) ⟨hx, hb, hml, hown, hts⟩ (m_X10_startOf l D t cI cL cC gC gE gW gA gT gI gS gM K F S N hm gJ ge gk gf gs gg gr RN gb rV rN a0 a1 yk M uq (by omega) (by omega) (by omega) (by omega) (by omega) k_a0) (cwV 2 hts gu_X10_begins_X10_startOf_183 rfl rfl rfl (by decide +kernel) ⟨Nat.le_of_ble_eq_true rfl, Nat.le_of_ble_eq_true rfl⟩) (tP_V hG hE at_52 rfl) rfl rfl hl.1 rfl (lv_room (Nat.le_of_ble_eq_true rfl)) dX10_begins_80 ⟨Nat.le_of_ble_eq_true rfl, Nat.le_of_ble_eq_true rfl⟩) hS (fun k h => by simp [wr0] at h) (fun r_54 H locs hp_55 hG hS o_56 => ?_)
            have at_52 := va_at.keptC at_52 o_56 k_a0 rfl
            refine lv_i2l (v := r_54.toInt64) hx hb dX10_begins_83 rfl ?_
            obtain ⟨f_58, at_59, h_60⟩ := mF_o47 hG h_18
            have b_61 : vp_in yk 280 := (q_in (by omega) (by omega))
            refine ty_last (F2 := (mF cI cL cC gC gE gW gA gT gI gS gM K F S N hm gJ ge gk gf gs gg gr RN gb rV rN)) hx hb hK hG hS 1 at_59 (by rw [h_18]; rfl) rfl b_61 (by rw [h_18]; exact ⟨_, rfl, gHr_ne ⟨by omega, by omega⟩ h_60⟩) tFF dX10_begins_84 (fun H locs hG hS at_62 o_63 => ?_)
            have at_52 := va_at.keptK at_52 o_63 h_18 k_a0 rfl
            obtain ⟨x_64, e_65⟩ : ∃ y : Int32, y = yk + Int32.ofInt 1 := ⟨_, rfl⟩
            have i_x_64 : x_64.toInt = yk.toInt + 1 := by rw [e_65, show Int32.ofInt 1 = 1 by decide]; exact (q_add (by rw [show (1 : Int32).toInt = 1 by decide]; omega) (by rw [show (1 : Int32).toInt = 1 by decide]; omega)).trans (by rw [show (1 : Int32).toInt = 1 by decide])
            refine lv_iinc (v := x_64) (lv' := [(3, .int x_64), (0, .ref a0), (1, .int a1), (2, .int a2)]) hx hb dX10_begins_85 hl (k := 0) rfl e_65.symm (by decide) rfl (fun ls hl => ?_)
            refine lv_pc (pc2 := 88) rfl ?_
            refine lv_goto (tgt := 44) hx hb dX10_begins_88 (by decide) ?_
            exact (hWW2 _ _ _).mp (ih2 x_64 H locs ls (by omega) (by omega) (by omega) hG hS (lv_sub hl [0, 1, 2, 3] rfl))
          · skip
            have c_53 : a2.toInt ≠ 0 := q_ne c_53
            refine lv_aload_n hx hb dX10_begins_59 rfl (lv_at hl 1 rfl) ?_
            refine lv_iload_n hx hb dX10_begins_60 rfl (lv_at hl 0 rfl) ?_
            refine ty_calli (W.runV (As := [.int yk]) (rest := [.int yk, .ref r_17]) ⟨hx, hb, hml, hown, hts⟩ (m_X10_isStore l D t cI cL cC gC gE gW gA gT gI gS gM K F S N hm gJ ge gk gf gs gg gr RN gb rV rN a0 yk  uq (by omega) (by omega) k_a0) (cwV 1 hts gu_X10_begins_X10_isStore_208 rfl rfl rfl (by decide +kernel) ⟨Nat.le_of_ble_eq_true rfl, Nat.le_of_ble_eq_true rfl⟩) (tP_V hG hE at_52 rfl) rfl rfl hl.1 rfl (lv_room (Nat.le_of_ble_eq_true rfl)) dX10_begins_61 ⟨Nat.le_of_ble_eq_true rfl, Nat.le_of_ble_eq_true rfl⟩) hS (fun k h => by simp [wr0] at h) (fun r_66 H locs hp_67 hG hS o_68 => ?_)
            have at_52 := va_at.keptC at_52 o_68 k_a0 rfl
            have hp_67 : (r_66 = 1 ∧ hasS K F 0 gI.toInt yk) ∨ (r_66 = 0 ∧ ¬ hasS K F 0 gI.toInt yk) := hp_67
            rcases hp_67 with ⟨rfl, p_70⟩ | ⟨rfl, p_71⟩
            · skip
              refine lv_if_eq (tgt := 77) hx hb dX10_begins_64 (by decide) (fun q => absurd q (by decide)) (fun _ => ?_)
              refine lv_aload_n hx hb dX10_begins_67 rfl (lv_at hl 1 rfl) ?_
              refine va_get (D := D) (ci := 9) (v := .ref r_45) (C := RX10) (T := TX10) (N := 36) hx hb hts in10 hown hK (va_one at_52) 0 rfl rfl 26 (by decide) (hts (.fieldLink RX10 71 "RiverModelModel" "startB" "[I") (List.mem_of_getElem? (i := 9) rfl)) (fun _ h9 => h9) rfl dX10_begins_68 ?_
              refine lv_iload_n hx hb dX10_begins_71 rfl (lv_at hl 0 rfl) ?_
              refine lv_pc (pc2 := 72) rfl ?_
              obtain ⟨f_72, at_73⟩ := mF_o61 hG h_46
              have b_74 : vp_in yk 16 := (q_in (by omega) (by omega))
              refine va_iald hx hb hK (va_one at_73) 0 0 rfl rfl b_74 dX10_begins_72 ?_
              refine lv_topi (fun x_75 e_76 => ?_)
              refine lv_i2l (v := x_75.toInt64) hx hb dX10_begins_73 rfl ?_
              refine lv_goto (tgt := 84) hx hb dX10_begins_74 (by decide) ?_
              obtain ⟨f_77, at_78, h_79⟩ := mF_o47 hG h_18
              have b_80 : vp_in yk 280 := (q_in (by omega) (by omega))
              refine ty_last (F2 := (mF cI cL cC gC gE gW gA gT gI gS gM K F S N hm gJ ge gk gf gs gg gr RN gb rV rN)) hx hb hK hG hS 1 at_78 (by rw [h_18]; rfl) rfl b_80 (by rw [h_18]; exact ⟨_, rfl, gHr_ne ⟨by omega, by omega⟩ h_79⟩) tFF dX10_begins_84 (fun H locs hG hS at_81 o_82 => ?_)
              have at_52 := va_at.keptK at_52 o_82 h_18 k_a0 rfl
              have at_73 := va_at.keptK at_73 o_82 h_18 h_46 rfl
              obtain ⟨x_83, e_84⟩ : ∃ y : Int32, y = yk + Int32.ofInt 1 := ⟨_, rfl⟩
              have i_x_83 : x_83.toInt = yk.toInt + 1 := by rw [e_84, show Int32.ofInt 1 = 1 by decide]; exact (q_add (by rw [show (1 : Int32).toInt = 1 by decide]; omega) (by rw [show (1 : Int32).toInt = 1 by decide]; omega)).trans (by rw [show (1 : Int32).toInt = 1 by decide])
              refine lv_iinc (v := x_83) (lv' := [(3, .int x_83), (0, .ref a0), (1, .int a1), (2, .int a2)]) hx hb dX10_begins_85 hl (k := 0) rfl e_84.symm (by decide) rfl (fun ls hl => ?_)
              refine lv_goto (tgt := 44) hx hb dX10_begins_88 (by decide) ?_
              exact (hWW2 _ _ _).mp (ih2 x_83 H locs ls (by omega) (by omega) (by omega) hG hS (lv_sub hl [0, 1, 2, 3] rfl))
            · skip
              refine lv_if_eq (tgt := 77) hx hb dX10_begins_64 (by decide) (fun _ => ?_) (fun q => absurd (by decide) q)
              refine lv_aload_n hx hb dX10_begins_77 rfl (lv_at hl 1 rfl) ?_
              refine lv_pc (pc2 := 78) rfl ?_
              refine lv_iload_n hx hb dX10_begins_78 rfl (lv_at hl 2 rfl) ?_
              refine lv_iload_n hx hb dX10_begins_79 rfl (lv_at hl 0 rfl) ?_
              refine ty_calli (W.runV (As := [.int a1, .int yk]) (rest := [.int yk, .ref r_17]) ⟨hx, hb, hml, hown, hts⟩ (m_X10_startOf l D t cI cL cC gC gE gW gA gT gI gS gM K F S N hm gJ ge gk gf gs gg gr RN gb rV rN a0 a1 yk M uq (by omega) (by omega) (by omega) (by omega) (by omega) k_a0) (cwV 2 hts gu_X10_begins_X10_startOf_183 rfl rfl rfl (by decide +kernel) ⟨Nat.le_of_ble_eq_true rfl, Nat.le_of_ble_eq_true rfl⟩) (tP_V hG hE at_52 rfl) rfl rfl hl.1 rfl (lv_room (Nat.le_of_ble_eq_true rfl)) dX10_begins_80 ⟨Nat.le_of_ble_eq_true rfl, Nat.le_of_ble_eq_true rfl⟩) hS (fun k h => by simp [wr0] at h) (fun r_85 H locs hp_86 hG hS o_87 => ?_)
              have at_52 := va_at.keptC at_52 o_87 k_a0 rfl
              refine lv_i2l (v := r_85.toInt64) hx hb dX10_begins_83 rfl ?_
              obtain ⟨f_89, at_90, h_91⟩ := mF_o47 hG h_18
              have b_92 : vp_in yk 280 := (q_in (by omega) (by omega))
              refine ty_last (F2 := (mF cI cL cC gC gE gW gA gT gI gS gM K F S N hm gJ ge gk gf gs gg gr RN gb rV rN)) hx hb hK hG hS 1 at_90 (by rw [h_18]; rfl) rfl b_92 (by rw [h_18]; exact ⟨_, rfl, gHr_ne ⟨by omega, by omega⟩ h_91⟩) tFF dX10_begins_84 (fun H locs hG hS at_93 o_94 => ?_)
              have at_52 := va_at.keptK at_52 o_94 h_18 k_a0 rfl
              obtain ⟨x_95, e_96⟩ : ∃ y : Int32, y = yk + Int32.ofInt 1 := ⟨_, rfl⟩
              have i_x_95 : x_95.toInt = yk.toInt + 1 := by rw [e_96, show Int32.ofInt 1 = 1 by decide]; exact (q_add (by rw [show (1 : Int32).toInt = 1 by decide]; omega) (by rw [show (1 : Int32).toInt = 1 by decide]; omega)).trans (by rw [show (1 : Int32).toInt = 1 by decide])
              refine lv_iinc (v := x_95) (lv' := [(3, .int x_95), (0, .ref a0), (1, .int a1), (2, .int a2)]) hx hb dX10_begins_85 hl (k := 0) rfl e_96.symm (by decide) rfl (fun ls hl => ?_)
              refine lv_goto (tgt := 44) hx hb dX10_begins_88 (by decide) ?_
              exact (hWW2 _ _ _).mp (ih2 x_95 H locs ls (by omega) (by omega) (by omega) hG hS (lv_sub hl [0, 1, 2, 3] rfl))
    have zi_0 : (0 : Int32).toInt = 0 := by decide
    exact lp2 (16 - (0 : Int32).toInt : Int).toNat 0 H locs ls (by omega) (by omega) (by omega) hG hS (lv_sub hl [0, 1, 2, 3] rfl)
  have lp1 : ∀ (kk1 : Nat) (yk : Int32) (hm : Int) (H1 : Heap) (locs1 : List Loc) (ls1 : Array Slot), 280 - yk.toInt ≤ (kk1 : Int) → (0 ≤ yk.toInt) → (yk.toInt ≤ 280) → (231 < yk.toInt → hm = 0) → tG D (mF cI cL cC gC gE gW gA gT gI gS gM K F S N hm gJ ge gk gf gs gg gr RN gb rV rN) t H1 → tF t wm s.heap H1 locs1 → lv_has ls1 4 [(3, .int yk), (0, .ref a0), (1, .int a1), (2, .int a2)] → WW1 H1 locs1 (F0 m 2 ls1 []) := by
    intro kk1
    induction kk1 with
    | zero =>
      intro yk hm H locs ls hk1 v1_0 v1_1 v1_2 hG hS hl
      refine (hWW1 _ _ _).mpr ?_
      refine lv_iload_n hx hb dX10_begins_2 rfl (lv_at hl 0 rfl) ?_
      refine lv_pc (pc2 := 3) rfl ?_
      refine lv_sipush (v := 280) hx hb dX10_begins_3 (by decide) ?_
      refine lv_icmp_ge (tgt := 42) hx hb dX10_begins_6 (by decide) (fun c_97 => ?_) (fun c_97 => ?_)
      · skip
        have c_97 : 280 ≤ yk.toInt := q_le c_97
        exact (hWW1 _ _ _).mp (kx1 yk hm H locs ls v1_0 v1_1 v1_2 (by omega) hG hS (lv_sub hl [0, 1, 2, 3] rfl))
      · skip
        have c_97 : yk.toInt < 280 := q_nle c_97
        exfalso; omega
    | succ kk1 ih1 =>
      intro yk hm H locs ls hk1 v1_0 v1_1 v1_2 hG hS hl
      refine (hWW1 _ _ _).mpr ?_
      refine lv_iload_n hx hb dX10_begins_2 rfl (lv_at hl 0 rfl) ?_
      refine lv_sipush (v := 280) hx hb dX10_begins_3 (by decide) ?_
      refine lv_icmp_ge (tgt := 42) hx hb dX10_begins_6 (by decide) (fun c_98 => ?_) (fun c_98 => ?_)
      · skip
        have c_98 : 280 ≤ yk.toInt := q_le c_98
        exact (hWW1 _ _ _).mp (kx1 yk hm H locs ls v1_0 v1_1 v1_2 (by omega) hG hS (lv_sub hl [0, 1, 2, 3] rfl))
      · skip
        have c_98 : yk.toInt < 280 := q_nle c_98
        refine lv_aload_n hx hb dX10_begins_9 rfl (lv_at hl 1 rfl) ?_
        obtain ⟨r_99, r_101, r_103, r_105, r_107, r_109, r_111, r_113, r_115, r_117, r_119, r_121, r_123, r_125, r_127, r_129, r_131, r_133, r_135, r_137, r_139, r_141, v_143, r_144, at_146, h_100, h_102, h_104, h_106, h_108, h_110, h_112, h_114, h_116, h_118, h_120, h_122, h_124, h_126, h_128, h_130, h_132, h_134, h_136, h_138, h_140, h_142, h_145⟩ := mF_o40 hG k_a0
        refine va_get (D := D) (ci := 9) (v := .ref r_111) (C := RX10) (T := TX10) (N := 36) hx hb hts in10 hown hK (va_one at_146) 0 rfl rfl 10 (by decide) (hts (.fieldLink RX10 28 "RiverModelModel" "m" "[J") (List.mem_of_getElem? (i := 1) rfl)) (fun _ h9 => h9) rfl dX10_begins_10 ?_
        refine lv_iload_n hx hb dX10_begins_13 rfl (lv_at hl 0 rfl) ?_
        refine lv_pc (pc2 := 14) rfl ?_
        refine lv_iload_n hx hb dX10_begins_14 rfl (lv_at hl 0 rfl) ?_
        refine lv_i2l (v := yk.toInt64) hx hb dX10_begins_15 rfl ?_
        refine lv_ldc2 hx hb hown (hts (.constantLong RX10 204 (224)) (List.mem_of_getElem? (i := 10) rfl)) dX10_begins_16 ?_
        refine lv_ldc2 hx hb hown (hts (.constantLong RX10 206 (227)) (List.mem_of_getElem? (i := 11) rfl)) dX10_begins_19 ?_
        have zl_224 : (224 : Int64).toInt = 224 := by decide
        have zl_227 : (227 : Int64).toInt = 227 := by decide
        refine ty_calli (W.runS (As := [.long yk.toInt64, .long 224, .long 227]) (rest := [.int yk, .ref r_111]) ⟨hx, hb, hml, hown, hts⟩ (m_X10_in l D t cI cL cC gC gE gW gA gT gI gS gM K F S N hm gJ ge gk gf gs gg gr RN gb rV rN yk.toInt64 224 227 yk.toInt 224 227 uq (q_i2l _) (by decide) (by decide) ) (va_cwS 3 hts gu_X10_begins_X10_in_85 rfl rfl rfl (by decide +kernel) ⟨Nat.le_of_ble_eq_true rfl, Nat.le_of_ble_eq_true rfl⟩) (tP_S hG hE) rfl rfl hl.1 rfl (lv_room (Nat.le_of_ble_eq_true rfl)) dX10_begins_22 ⟨Nat.le_of_ble_eq_true rfl, Nat.le_of_ble_eq_true rfl⟩) hS (fun k h => by simp [wr0] at h) (fun r_147 H locs hp_148 hG hS o_149 => ?_)
        have at_146 := va_at.keptC at_146 o_149 k_a0 rfl
        have hp_148 : (r_147 = 1 ∧ 224 ≤ yk.toInt ∧ yk.toInt ≤ 227) ∨ (r_147 = 0 ∧ (yk.toInt < 224 ∨ 227 < yk.toInt)) := hp_148
        rcases hp_148 with ⟨rfl, p_151, p_152⟩ | ⟨rfl, p_153⟩
        · skip
          refine lv_if_eq (tgt := 34) hx hb dX10_begins_25 (by decide) (fun q => absurd q (by decide)) (fun _ => ?_)
          refine lv_ldc2 hx hb hown (hts (.constantLong RX10 196 (5)) (List.mem_of_getElem? (i := 14) rfl)) dX10_begins_28 ?_
          refine lv_goto (tgt := 35) hx hb dX10_begins_31 (by decide) ?_
          refine lv_pc (pc2 := 35) rfl ?_
          obtain ⟨f_154, at_155, h_156⟩ := mF_o47 hG h_112
          have b_157 : vp_in yk 280 := (q_in (by omega) (by omega))
          have zl_5 : (5 : Int64).toInt = 5 := by decide
          obtain ⟨h_158, gh_158, dh_158⟩ := gHr_ex yk (5 : Int64) (by omega) h_156
          refine ty_last (F2 := (mF cI cL cC gC gE gW gA gT gI gS gM K F S N h_158 gJ ge gk gf gs gg gr RN gb rV rN)) hx hb hK hG hS 1 at_155 (by rw [h_112]; rfl) rfl b_157 (by rw [h_112]; exact ⟨_, rfl, gh_158⟩) (fun hG b hb h0 => by obtain ⟨e, g1, g2⟩ := hG b h0; exact ⟨e, g1, mF_gH (fun h => hb (uq b r_111 (h.trans h_112.symm) h0)) g2⟩) dX10_begins_35 (fun H locs hG hS at_159 o_160 => ?_)
          have at_146 := va_at.keptK at_146 o_160 h_112 k_a0 rfl
          obtain ⟨x_161, e_162⟩ : ∃ y : Int32, y = yk + Int32.ofInt 1 := ⟨_, rfl⟩
          have i_x_161 : x_161.toInt = yk.toInt + 1 := by rw [e_162, show Int32.ofInt 1 = 1 by decide]; exact (q_add (by rw [show (1 : Int32).toInt = 1 by decide]; omega) (by rw [show (1 : Int32).toInt = 1 by decide]; omega)).trans (by rw [show (1 : Int32).toInt = 1 by decide])
          refine lv_iinc (v := x_161) (lv' := [(3, .int x_161), (0, .ref a0), (1, .int a1), (2, .int a2)]) hx hb dX10_begins_36 hl (k := 0) rfl e_162.symm (by decide) rfl (fun ls hl => ?_)
          refine lv_goto (tgt := 2) hx hb dX10_begins_39 (by decide) ?_
          exact (hWW1 _ _ _).mp (ih1 x_161 h_158 H locs ls (by omega) (by omega) (by omega) (by omega) hG hS (lv_sub hl [0, 1, 2, 3] rfl))
        · skip
          refine lv_if_eq (tgt := 34) hx hb dX10_begins_25 (by decide) (fun _ => ?_) (fun q => absurd (by decide) q)
          refine lv_lconst (v := 0) hx hb dX10_begins_34 (by decide) ?_
          obtain ⟨f_163, at_164, h_165⟩ := mF_o47 hG h_112
          have b_166 : vp_in yk 280 := (q_in (by omega) (by omega))
          have zl_0 : (0 : Int64).toInt = 0 := by decide
          obtain ⟨h_167, gh_167, dh_167⟩ := gHr_ex yk (0 : Int64) (by omega) h_165
          refine ty_last (F2 := (mF cI cL cC gC gE gW gA gT gI gS gM K F S N h_167 gJ ge gk gf gs gg gr RN gb rV rN)) hx hb hK hG hS 1 at_164 (by rw [h_112]; rfl) rfl b_166 (by rw [h_112]; exact ⟨_, rfl, gh_167⟩) (fun hG b hb h0 => by obtain ⟨e, g1, g2⟩ := hG b h0; exact ⟨e, g1, mF_gH (fun h => hb (uq b r_111 (h.trans h_112.symm) h0)) g2⟩) dX10_begins_35 (fun H locs hG hS at_168 o_169 => ?_)
          have at_146 := va_at.keptK at_146 o_169 h_112 k_a0 rfl
          obtain ⟨x_170, e_171⟩ : ∃ y : Int32, y = yk + Int32.ofInt 1 := ⟨_, rfl⟩
          have i_x_170 : x_170.toInt = yk.toInt + 1 := by rw [e_171, show Int32.ofInt 1 = 1 by decide]; exact (q_add (by rw [show (1 : Int32).toInt = 1 by decide]; omega) (by rw [show (1 : Int32).toInt = 1 by decide]; omega)).trans (by rw [show (1 : Int32).toInt = 1 by decide])
          refine lv_iinc (v := x_170) (lv' := [(3, .int x_170), (0, .ref a0), (1, .int a1), (2, .int a2)]) hx hb dX10_begins_36 hl (k := 0) rfl e_171.symm (by decide) rfl (fun ls hl => ?_)
          refine lv_goto (tgt := 2) hx hb dX10_begins_39 (by decide) ?_
          exact (hWW1 _ _ _).mp (ih1 x_170 h_167 H locs ls (by omega) (by omega) (by omega) (by omega) hG hS (lv_sub hl [0, 1, 2, 3] rfl))
  have zi_0 : (0 : Int32).toInt = 0 := by decide
  exact lp1 (280 - (0 : Int32).toInt : Int).toNat 0 gH H locs ls (by omega) (by omega) (by omega) (by omega) hG hS (lv_sub hl [0, 1, 2, 3] rfl)

def uX10_becomes : List Cond := .code yX10_becomes cX10_becomes 3 none :: ([.methodLink RX10 170 yX10_copies, .instanceMethod yX10_copies, .selects RX10 yX10_copies yX10_copies, .initialized RX10, .fieldLink RX10 173 "RiverModelModel" "isBuilt" "Z", .fieldLink RX10 177 "RiverModelModel" "isSwapped" "Z", .fieldLink RX10 180 "RiverModelModel" "keptMany" "I", .methodLink RX10 186 yX10_begins, .instanceMethod yX10_begins, .selects RX10 yX10_begins yX10_begins, .fieldLink RX10 71 "RiverModelModel" "startB" "[I", .methodLink RX10 183 yX10_startOf, .instanceMethod yX10_startOf, .selects RX10 yX10_startOf yX10_startOf, .code yX10_copies cX10_copies 4 none, .fieldLink RX10 22 "RiverModelModel" "number" "[I", .fieldLink RX10 13 "RiverModelModel" "kind" "[I", .fieldLink RX10 16 "RiverModelModel" "first" "[I", .fieldLink RX10 19 "RiverModelModel" "second" "[I", .code yX10_begins cX10_begins 4 none, .fieldLink RX10 28 "RiverModelModel" "m" "[J", .methodLink RX10 208 yX10_isStore, .instanceMethod yX10_isStore, .selects RX10 yX10_isStore yX10_isStore, .constantLong RX10 204 (224), .constantLong RX10 206 (227), .methodLink RX10 85 yX10_in, .static yX10_in, .constantLong RX10 196 (5), .code yX10_startOf cX10_startOf 4 (some .int), .methodLink RX10 166 yX10_storeAt, .instanceMethod yX10_storeAt, .selects RX10 yX10_storeAt yX10_storeAt, .code yX10_storeAt cX10_storeAt 5 (some .int), .fieldLink RX10 163 "RiverModelModel" "items" "I", .code yX10_isStore cX10_isStore 2 (some .boolean), .code yX10_in cX10_in 6 (some .boolean)] ++ wsX100)
set_option maxRecDepth 20000 in
theorem gu_X10_becomes_X10_copies_170 : GoodIn uX10_becomes (wsV RX10 170 RX10 yX10_copies uX10_copies) := goodIn_r _ [1, 2, 3, 4, 15, 16, 17, 18, 19, 38, 39, 40, 41, 42, 43, 44, 45, 46, 47, 48, 49, 50, 51, 52, 53, 54, 55, 56, 57, 58, 59, 60, 61, 62, 63, 64, 65, 66, 67, 68, 69, 70, 71, 72, 73] rfl (by decide +kernel)
set_option maxRecDepth 20000 in
theorem gu_X10_becomes_X10_begins_186 : GoodIn uX10_becomes (wsV RX10 186 RX10 yX10_begins uX10_begins) := goodIn_r _ [8, 9, 10, 4, 20, 21, 12, 13, 14, 4, 22, 23, 24, 11, 25, 26, 27, 28, 29, 30, 31, 32, 33, 16, 34, 35, 17, 18, 36, 37, 38, 39, 40, 41, 42, 43, 44, 45, 46, 47, 48, 49, 50, 51, 52, 53, 54, 55, 56, 57, 58, 59, 60, 61, 62, 63, 64, 65, 66, 67, 68, 69, 70, 71, 72, 73] rfl (by decide +kernel)
set_option maxRecDepth 20000 in
theorem gu_X10_becomes_X10_startOf_183 : GoodIn uX10_becomes (wsV RX10 183 RX10 yX10_startOf uX10_startOf) := goodIn_r _ [12, 13, 14, 4, 30, 31, 32, 33, 4, 16, 34, 35, 17, 18, 38, 39, 40, 41, 42, 43, 44, 45, 46, 47, 48, 49, 50, 51, 52, 53, 54, 55, 56, 57, 58, 59, 60, 61, 62, 63, 64, 65, 66, 67, 68, 69, 70, 71, 72, 73] rfl (by decide +kernel)
set_option maxHeartbeats 4000000 in
set_option maxRecDepth 100000 in
theorem m_X10_becomes (l : Launch) (D : va_G) (t : Nat → Nat) (cI cL cC : ClassId) (gC : Int32) (gE : Int32) (gW : Nat → Int32) (gA : Nat → Int32) (gT : Nat → Int32) (gI : Int32) (gS : Int32) (gM : Int32) (K : Nat → Int32) (F : Nat → Int32) (S : Nat → Int32) (N : Nat → Int32) (gH : Int) (gJ : Int) (ge : Int32) (gk : Int32) (gf : Int32) (gs : Int32) (gg : Int32) (gr : Int32) (RN : Nat → Int32) (gb : Int32) (rV : Nat → Int32) (rN : Nat → Int32) (a0 : Nat) (a1 : Int32) (M : Int) (uq : ∀ b c : Nat, t b = t c → t b ≠ 0 → b = c) (hMb : 40 * a1.toInt = M) (hM1 : 1 ≤ a1.toInt) (hM2 : a1.toInt ≤ 2) (hI0 : 0 ≤ gI.toInt) (hI4 : gI.toInt ≤ 40) (hO : okM K F S N M gI.toInt) (k_a0 : t a0 = 40) : tMx (Z := (Nat → Int32) × (Nat → Int32) × (Nat → Int32) × (Nat → Int32) × (Int32) × (Int32) × (Int) × (Int32)) l yX10_becomes uX10_becomes 3 70 D (mF cI cL cC gC gE gW gA gT gI gS gM K F S N gH gJ ge gk gf gs gg gr RN gb rV rN) (fun z => (mF cI cL cC gC gE gW gA gT gI z.2.2.2.2.1 z.2.2.2.2.2.1 z.1 z.2.1 z.2.2.1 z.2.2.2.1 z.2.2.2.2.2.2.1 gJ ge gk gf gs gg gr RN z.2.2.2.2.2.2.2 rV rN)) t cI cL cC [.ref a0, .int a1] wB (xV (fun (z : (Nat → Int32) × (Nat → Int32) × (Nat → Int32) × (Nat → Int32) × (Int32) × (Int32) × (Int) × (Int32)) => z.2.2.2.2.1.toInt = 0 ∧ z.2.2.2.2.2.1.toInt = 0 ∧ z.2.2.2.2.2.2.1 = 0 ∧ okM z.1 z.2.1 z.2.2.1 z.2.2.2.1 0 gI.toInt ∧ z.2.2.2.2.2.2.2.toInt = 1 ∧ becM K F z.1 z.2.1 M)) := by
  refine tMx.ofW (cc := cX10_becomes) (maxL := 3) (ret := none) (by decide) rfl (Nat.le_of_ble_eq_true rfl) ?_
  intro p e s m below meth c hx hb hr hml hown hts hlk H locs hG hK hE hS ls hl
  have hl : lv_has ls 3 [(0, .ref a0), (1, .int a1)] := hl
  have in10 : ∀ w ∈ wsX100, w ∈ uX10_becomes := fun w h => List.mem_cons_of_mem _ (List.mem_append_right _ h)
  refine lv_aload_n hx hb dX10_becomes_0 rfl (lv_at hl 0 rfl) ?_
  refine lv_iconst (v := 0) hx hb dX10_becomes_1 (by decide) ?_
  refine lv_iload_n hx hb dX10_becomes_2 rfl (lv_at hl 1 rfl) ?_
  have zi_0 : (0 : Int32).toInt = 0 := by decide
  obtain ⟨r_1, r_3, r_5, r_7, r_9, r_11, r_13, r_15, r_17, r_19, r_21, r_23, r_25, r_27, r_29, r_31, r_33, r_35, r_37, r_39, r_41, r_43, v_45, r_46, at_48, h_2, h_4, h_6, h_8, h_10, h_12, h_14, h_16, h_18, h_20, h_22, h_24, h_26, h_28, h_30, h_32, h_34, h_36, h_38, h_40, h_42, h_44, h_47⟩ := mF_o40 hG k_a0
  refine tx_callv (W.runV (As := [.int 0, .int a1]) (rest := []) ⟨hx, hb, hml, hown, hts⟩ (m_X10_copies l D t cI cL cC gC gE gW gA gT gI gS gM K F S N gH gJ ge gk gf gs gg gr RN gb rV rN a0 0 a1 0 M 0 (3 * M) uq (by omega) (by omega) (by omega) (by omega) (by omega) (by omega) (by omega) (by omega) (by omega) k_a0) (cwV 2 hts gu_X10_becomes_X10_copies_170 rfl rfl rfl (by decide +kernel) ⟨Nat.le_of_ble_eq_true rfl, Nat.le_of_ble_eq_true rfl⟩) (tP_V hG hE at_48 rfl) rfl rfl hl.1 rfl (lv_room (Nat.le_of_ble_eq_true rfl)) dX10_becomes_3 ⟨Nat.le_of_ble_eq_true rfl, Nat.le_of_ble_eq_true rfl⟩) hS (wrL_sub (by decide)) (fun zz_52 H locs hp_50 hG hS o_51 => ?_)
  obtain ⟨K_53, F_54, S_55, N_56⟩ := zz_52
  have at_48 := va_at.keptC at_48 o_51 k_a0 rfl
  replace hG : tG D (mF cI cL cC gC gE gW gA gT gI gS gM K_53 F_54 S_55 N_56 gH gJ ge gk gf gs gg gr RN gb rV rN) t H := hG
  have hp_50 : cpd K K_53 0 M 40 ∧ cpd F F_54 0 M 40 ∧ cpd S S_55 0 M 40 ∧ cpd N N_56 0 (3 * M) 120 := hp_50
  obtain ⟨p_57, p_58, p_59, p_60⟩ := hp_50
  have hOb : okM K_53 F_54 S_55 N_56 0 gI.toInt := okM.cpy (a := 0) (b := M) (by omega) (by omega) (by omega) p_57 p_58 p_59 p_60 hO
  refine lv_aload_n hx hb dX10_becomes_6 rfl (lv_at hl 0 rfl) ?_
  refine lv_iconst (v := 1) hx hb dX10_becomes_7 (by decide) ?_
  have zi_1 : (1 : Int32).toInt = 1 := by decide
  refine ty_put (D := D) (ci := 9) (v := .int 1) (ty := .boolean) (C := RX10) (T := TX10) (N := 36) (F2 := (mF cI cL cC gC gE gW gA gT gI gS gM K_53 F_54 S_55 N_56 gH gJ ge gk gf gs gg gr RN 1 rV rN)) hx hb hts in10 tyX10 tyX10_ok nmX10 hown hK hG hS at_48 (by rw [k_a0]; rfl) rfl 2 (by decide) (hts (.fieldLink RX10 173 "RiverModelModel" "isBuilt" "Z") (List.mem_of_getElem? (i := 5) rfl)) (fun _ h9 => h9) rfl (by decide +kernel) (by decide) (by decide) (Nat.le_of_ble_eq_true rfl) (by rw [k_a0]; exact ⟨r_1, r_3, r_5, r_7, r_9, r_11, r_13, r_15, r_17, r_19, r_21, r_23, r_25, r_27, r_29, r_31, r_33, r_35, r_37, r_39, r_41, r_43, v_45, r_46, rfl, h_2, h_4, h_6, h_8, h_10, h_12, h_14, h_16, h_18, h_20, h_22, h_24, h_26, h_28, h_30, h_32, h_34, h_36, h_38, h_40, h_42, h_44, h_47⟩) (fun hG b hb h0 => by obtain ⟨e, g1, g2⟩ := hG b h0; exact ⟨e, g1, mF_gb (fun h => hb (uq b a0 (h.trans k_a0.symm) h0)) g2⟩) dX10_becomes_8 (fun H locs hG hS at_61 o_62 => ?_)
  have at_61 : va_at D vwCl (a0, .inr (9, [.int gC, .ref r_1, .int 1, .int gI, .ref r_3, .ref r_5, .ref r_7, .ref r_9, .int gS, .ref r_11, .ref r_13, .ref r_15, .ref r_17, .int gM, .ref r_19, .ref r_21, .ref r_23, .int gE, .ref r_25, .ref r_27, .ref r_29, .ref r_31, .ref r_33, .ref r_35, .ref r_37, .ref r_39, .ref r_41, .int ge, .int gk, .int gf, .int gs, .int gg, .ref r_43, .int gr, .int v_45, .ref r_46])) H := at_61
  refine lv_pc (pc2 := 11) rfl ?_
  refine lv_aload_n hx hb dX10_becomes_11 rfl (lv_at hl 0 rfl) ?_
  refine lv_iconst (v := 0) hx hb dX10_becomes_12 (by decide) ?_
  refine ty_put (D := D) (ci := 9) (v := .int 0) (ty := .boolean) (C := RX10) (T := TX10) (N := 36) (F2 := (mF cI cL cC gC gE gW gA gT gI 0 gM K_53 F_54 S_55 N_56 gH gJ ge gk gf gs gg gr RN 1 rV rN)) hx hb hts in10 tyX10 tyX10_ok nmX10 hown hK hG hS at_61 (by rw [k_a0]; rfl) rfl 8 (by decide) (hts (.fieldLink RX10 177 "RiverModelModel" "isSwapped" "Z") (List.mem_of_getElem? (i := 6) rfl)) (fun _ h9 => h9) rfl (by decide +kernel) (by decide) (by decide) (Nat.le_of_ble_eq_true rfl) (by rw [k_a0]; exact ⟨r_1, r_3, r_5, r_7, r_9, r_11, r_13, r_15, r_17, r_19, r_21, r_23, r_25, r_27, r_29, r_31, r_33, r_35, r_37, r_39, r_41, r_43, v_45, r_46, rfl, h_2, h_4, h_6, h_8, h_10, h_12, h_14, h_16, h_18, h_20, h_22, h_24, h_26, h_28, h_30, h_32, h_34, h_36, h_38, h_40, h_42, h_44, h_47⟩) (fun hG b hb h0 => by obtain ⟨e, g1, g2⟩ := hG b h0; exact ⟨e, g1, mF_gS (fun h => hb (uq b a0 (h.trans k_a0.symm) h0)) g2⟩) dX10_becomes_13 (fun H locs hG hS at_63 o_64 => ?_)
  have at_63 : va_at D vwCl (a0, .inr (9, [.int gC, .ref r_1, .int 1, .int gI, .ref r_3, .ref r_5, .ref r_7, .ref r_9, .int 0, .ref r_11, .ref r_13, .ref r_15, .ref r_17, .int gM, .ref r_19, .ref r_21, .ref r_23, .int gE, .ref r_25, .ref r_27, .ref r_29, .ref r_31, .ref r_33, .ref r_35, .ref r_37, .ref r_39, .ref r_41, .int ge, .int gk, .int gf, .int gs, .int gg, .ref r_43, .int gr, .int v_45, .ref r_46])) H := at_63
  refine lv_aload_n hx hb dX10_becomes_16 rfl (lv_at hl 0 rfl) ?_
  refine lv_iconst (v := 0) hx hb dX10_becomes_17 (by decide) ?_
  refine ty_put (D := D) (ci := 9) (v := .int 0) (ty := .int) (C := RX10) (T := TX10) (N := 36) (F2 := (mF cI cL cC gC gE gW gA gT gI 0 0 K_53 F_54 S_55 N_56 gH gJ ge gk gf gs gg gr RN 1 rV rN)) hx hb hts in10 tyX10 tyX10_ok nmX10 hown hK hG hS at_63 (by rw [k_a0]; rfl) rfl 13 (by decide) (hts (.fieldLink RX10 180 "RiverModelModel" "keptMany" "I") (List.mem_of_getElem? (i := 7) rfl)) (fun _ h9 => h9) rfl (by decide +kernel) rfl rfl (Nat.le_of_ble_eq_true rfl) (by rw [k_a0]; exact ⟨r_1, r_3, r_5, r_7, r_9, r_11, r_13, r_15, r_17, r_19, r_21, r_23, r_25, r_27, r_29, r_31, r_33, r_35, r_37, r_39, r_41, r_43, v_45, r_46, rfl, h_2, h_4, h_6, h_8, h_10, h_12, h_14, h_16, h_18, h_20, h_22, h_24, h_26, h_28, h_30, h_32, h_34, h_36, h_38, h_40, h_42, h_44, h_47⟩) (fun hG b hb h0 => by obtain ⟨e, g1, g2⟩ := hG b h0; exact ⟨e, g1, mF_gM (fun h => hb (uq b a0 (h.trans k_a0.symm) h0)) g2⟩) dX10_becomes_18 (fun H locs hG hS at_65 o_66 => ?_)
  have at_65 : va_at D vwCl (a0, .inr (9, [.int gC, .ref r_1, .int 1, .int gI, .ref r_3, .ref r_5, .ref r_7, .ref r_9, .int 0, .ref r_11, .ref r_13, .ref r_15, .ref r_17, .int 0, .ref r_19, .ref r_21, .ref r_23, .int gE, .ref r_25, .ref r_27, .ref r_29, .ref r_31, .ref r_33, .ref r_35, .ref r_37, .ref r_39, .ref r_41, .int ge, .int gk, .int gf, .int gs, .int gg, .ref r_43, .int gr, .int v_45, .ref r_46])) H := at_65
  refine lv_iconst (v := 0) hx hb dX10_becomes_21 (by decide) ?_
  refine lv_istore_n (lv' := [(2, .int 0), (0, .ref a0), (1, .int a1)]) hx hb dX10_becomes_22 rfl hl (by decide) rfl (fun ls hl => ?_)
  refine lv_pc (pc2 := 23) rfl ?_
  refine lp_gen (fun WW67 hWW67 => ?_)
  have kx67 : ∀ (yk : Int32) (H1 : Heap) (locs1 : List Loc) (ls1 : Array Slot), (0 ≤ yk.toInt) → (yk.toInt ≤ 16) → tG D (mF cI cL cC gC gE gW gA gT gI 0 0 K_53 F_54 S_55 N_56 gH gJ ge gk gf gs gg gr RN 1 rV rN) t H1 → tF t wB s.heap H1 locs1 → lv_has ls1 3 [(2, .int yk), (0, .ref a0), (1, .int a1)] → WW67 H1 locs1 (F0 m 47 ls1 []) := by
    intro yk H locs ls v67_0 v67_1 hG hS hl
    refine (hWW67 _ _ _).mpr ?_
    refine lv_pc (pc2 := 47) rfl ?_
    refine lv_aload_n hx hb dX10_becomes_47 rfl (lv_at hl 1 rfl) ?_
    refine lv_iconst (v := 0) hx hb dX10_becomes_48 (by decide) ?_
    refine lv_iconst (v := 0) hx hb dX10_becomes_49 (by decide) ?_
    obtain ⟨r_68, r_70, r_72, r_74, r_76, r_78, r_80, r_82, r_84, r_86, r_88, r_90, r_92, r_94, r_96, r_98, r_100, r_102, r_104, r_106, r_108, r_110, v_112, r_113, at_115, h_69, h_71, h_73, h_75, h_77, h_79, h_81, h_83, h_85, h_87, h_89, h_91, h_93, h_95, h_97, h_99, h_101, h_103, h_105, h_107, h_109, h_111, h_114⟩ := mF_o40 hG k_a0
    refine tx_callv (W.runV (As := [.int 0, .int 0]) (rest := []) ⟨hx, hb, hml, hown, hts⟩ (m_X10_begins l D t cI cL cC gC gE gW gA gT gI 0 0 K_53 F_54 S_55 N_56 gH gJ ge gk gf gs gg gr RN 1 rV rN a0 0 0 0 uq (by omega) (by omega) (by omega) (by omega) (by omega) k_a0) (cwV 2 hts gu_X10_becomes_X10_begins_186 rfl rfl rfl (by decide +kernel) ⟨Nat.le_of_ble_eq_true rfl, Nat.le_of_ble_eq_true rfl⟩) (tP_V hG hE at_115 rfl) rfl rfl hl.1 rfl (lv_room (Nat.le_of_ble_eq_true rfl)) dX10_becomes_50 ⟨Nat.le_of_ble_eq_true rfl, Nat.le_of_ble_eq_true rfl⟩) hS (wrL_sub (by decide)) (fun gH_120 H locs hp_117 hG hS o_118 => ?_)
    have at_115 := va_at.keptC at_115 o_118 k_a0 rfl
    replace hG : tG D (mF cI cL cC gC gE gW gA gT gI 0 0 K_53 F_54 S_55 N_56 gH_120 gJ ge gk gf gs gg gr RN 1 rV rN) t H := hG
    have hp_117 : gH_120 = 0 := hp_117
    have p_121 := hp_117
    exact tx_vret (z := (K_53, F_54, S_55, N_56, 0, 0, gH_120, 1)) hx hb hr hlk hG hS ⟨(by show (0 : Int32).toInt = 0; omega), (by show (0 : Int32).toInt = 0; omega), (by show gH_120 = 0; omega), (show okM K_53 F_54 S_55 N_56 0 gI.toInt from hOb), (by show (1 : Int32).toInt = 1; omega), (show becM K F K_53 F_54 M from ⟨p_57.1, p_58.1⟩)⟩ dX10_becomes_53
  have lp67 : ∀ (kk67 : Nat) (yk : Int32) (H1 : Heap) (locs1 : List Loc) (ls1 : Array Slot), 16 - yk.toInt ≤ (kk67 : Int) → (0 ≤ yk.toInt) → (yk.toInt ≤ 16) → tG D (mF cI cL cC gC gE gW gA gT gI 0 0 K_53 F_54 S_55 N_56 gH gJ ge gk gf gs gg gr RN 1 rV rN) t H1 → tF t wB s.heap H1 locs1 → lv_has ls1 3 [(2, .int yk), (0, .ref a0), (1, .int a1)] → WW67 H1 locs1 (F0 m 23 ls1 []) := by
    intro kk67
    induction kk67 with
    | zero =>
      intro yk H locs ls hk67 v67_0 v67_1 hG hS hl
      refine (hWW67 _ _ _).mpr ?_
      refine lv_iload_n hx hb dX10_becomes_23 rfl (lv_at hl 0 rfl) ?_
      refine lv_bipush (v := 16) hx hb dX10_becomes_24 (by decide) ?_
      refine lv_icmp_ge (tgt := 47) hx hb dX10_becomes_26 (by decide) (fun c_122 => ?_) (fun c_122 => ?_)
      · skip
        have c_122 : 16 ≤ yk.toInt := q_le c_122
        exact (hWW67 _ _ _).mp (kx67 yk H locs ls v67_0 v67_1 hG hS (lv_sub hl [0, 1, 2] rfl))
      · skip
        have c_122 : yk.toInt < 16 := q_nle c_122
        exfalso; omega
    | succ kk67 ih67 =>
      intro yk H locs ls hk67 v67_0 v67_1 hG hS hl
      refine (hWW67 _ _ _).mpr ?_
      refine lv_pc (pc2 := 23) rfl ?_
      refine lv_iload_n hx hb dX10_becomes_23 rfl (lv_at hl 0 rfl) ?_
      refine lv_bipush (v := 16) hx hb dX10_becomes_24 (by decide) ?_
      refine lv_icmp_ge (tgt := 47) hx hb dX10_becomes_26 (by decide) (fun c_123 => ?_) (fun c_123 => ?_)
      · skip
        have c_123 : 16 ≤ yk.toInt := q_le c_123
        exact (hWW67 _ _ _).mp (kx67 yk H locs ls v67_0 v67_1 hG hS (lv_sub hl [0, 1, 2] rfl))
      · skip
        have c_123 : yk.toInt < 16 := q_nle c_123
        refine lv_aload_n hx hb dX10_becomes_29 rfl (lv_at hl 1 rfl) ?_
        obtain ⟨r_124, r_126, r_128, r_130, r_132, r_134, r_136, r_138, r_140, r_142, r_144, r_146, r_148, r_150, r_152, r_154, r_156, r_158, r_160, r_162, r_164, r_166, v_168, r_169, at_171, h_125, h_127, h_129, h_131, h_133, h_135, h_137, h_139, h_141, h_143, h_145, h_147, h_149, h_151, h_153, h_155, h_157, h_159, h_161, h_163, h_165, h_167, h_170⟩ := mF_o40 hG k_a0
        refine va_get (D := D) (ci := 9) (v := .ref r_164) (C := RX10) (T := TX10) (N := 36) hx hb hts in10 hown hK (va_one at_171) 0 rfl rfl 26 (by decide) (hts (.fieldLink RX10 71 "RiverModelModel" "startB" "[I") (List.mem_of_getElem? (i := 11) rfl)) (fun _ h9 => h9) rfl dX10_becomes_30 ?_
        refine lv_iload_n hx hb dX10_becomes_33 rfl (lv_at hl 0 rfl) ?_
        refine lv_aload_n hx hb dX10_becomes_34 rfl (lv_at hl 1 rfl) ?_
        refine lv_iconst (v := 0) hx hb dX10_becomes_35 (by decide) ?_
        refine lv_pc (pc2 := 36) rfl ?_
        refine lv_iload_n hx hb dX10_becomes_36 rfl (lv_at hl 0 rfl) ?_
        refine ty_calli (W.runV (As := [.int 0, .int yk]) (rest := [.int yk, .ref r_164]) ⟨hx, hb, hml, hown, hts⟩ (m_X10_startOf l D t cI cL cC gC gE gW gA gT gI 0 0 K_53 F_54 S_55 N_56 gH gJ ge gk gf gs gg gr RN 1 rV rN a0 0 yk 0 uq (by omega) (by omega) (by omega) (by omega) (by omega) k_a0) (cwV 2 hts gu_X10_becomes_X10_startOf_183 rfl rfl rfl (by decide +kernel) ⟨Nat.le_of_ble_eq_true rfl, Nat.le_of_ble_eq_true rfl⟩) (tP_V hG hE at_171 rfl) rfl rfl hl.1 rfl (lv_room (Nat.le_of_ble_eq_true rfl)) dX10_becomes_37 ⟨Nat.le_of_ble_eq_true rfl, Nat.le_of_ble_eq_true rfl⟩) hS (fun k h => by simp [wr0] at h) (fun r_172 H locs hp_173 hG hS o_174 => ?_)
        have at_171 := va_at.keptC at_171 o_174 k_a0 rfl
        obtain ⟨f_176, at_177⟩ := mF_o61 hG h_165
        have b_178 : vp_in yk 16 := (q_in (by omega) (by omega))
        refine ty_iast (F2 := (mF cI cL cC gC gE gW gA gT gI 0 0 K_53 F_54 S_55 N_56 gH gJ ge gk gf gs gg gr RN 1 rV rN)) hx hb hK hG hS 0 at_177 (by rw [h_165]; rfl) rfl b_178 (by rw [h_165]; exact ⟨_, rfl⟩) tFF dX10_becomes_40 (fun H locs hG hS at_179 o_180 => ?_)
        have at_171 := va_at.keptK at_171 o_180 h_165 k_a0 rfl
        obtain ⟨x_181, e_182⟩ : ∃ y : Int32, y = yk + Int32.ofInt 1 := ⟨_, rfl⟩
        have i_x_181 : x_181.toInt = yk.toInt + 1 := by rw [e_182, show Int32.ofInt 1 = 1 by decide]; exact (q_add (by rw [show (1 : Int32).toInt = 1 by decide]; omega) (by rw [show (1 : Int32).toInt = 1 by decide]; omega)).trans (by rw [show (1 : Int32).toInt = 1 by decide])
        refine lv_iinc (v := x_181) (lv' := [(2, .int x_181), (0, .ref a0), (1, .int a1)]) hx hb dX10_becomes_41 hl (k := 0) rfl e_182.symm (by decide) rfl (fun ls hl => ?_)
        refine lv_goto (tgt := 23) hx hb dX10_becomes_44 (by decide) ?_
        exact (hWW67 _ _ _).mp (ih67 x_181 H locs ls (by omega) (by omega) (by omega) hG hS (lv_sub hl [0, 1, 2] rfl))
  exact lp67 (16 - (0 : Int32).toInt : Int).toNat 0 H locs ls (by omega) (by omega) (by omega) hG hS (lv_sub hl [0, 1, 2] rfl)
