theorem dX10_becomes_0 : decode cX10_becomes 0 = .ok (.aload_n 0, 1) := by decide +kernel
theorem dX10_becomes_1 : decode cX10_becomes 1 = .ok (.iconst 0, 1) := by decide +kernel
theorem dX10_becomes_2 : decode cX10_becomes 2 = .ok (.iload_n 1, 1) := by decide +kernel
theorem dX10_becomes_3 : decode cX10_becomes 3 = .ok (.invokevirtual 170, 3) := by decide +kernel
theorem dX10_becomes_6 : decode cX10_becomes 6 = .ok (.aload_n 0, 1) := by decide +kernel
theorem dX10_becomes_7 : decode cX10_becomes 7 = .ok (.iconst 1, 1) := by decide +kernel
theorem dX10_becomes_8 : decode cX10_becomes 8 = .ok (.putfield 173, 3) := by decide +kernel
theorem dX10_becomes_11 : decode cX10_becomes 11 = .ok (.aload_n 0, 1) := by decide +kernel
theorem dX10_becomes_12 : decode cX10_becomes 12 = .ok (.iconst 0, 1) := by decide +kernel
theorem dX10_becomes_13 : decode cX10_becomes 13 = .ok (.putfield 177, 3) := by decide +kernel
theorem dX10_becomes_16 : decode cX10_becomes 16 = .ok (.aload_n 0, 1) := by decide +kernel
theorem dX10_becomes_17 : decode cX10_becomes 17 = .ok (.iconst 0, 1) := by decide +kernel
theorem dX10_becomes_18 : decode cX10_becomes 18 = .ok (.putfield 180, 3) := by decide +kernel
theorem dX10_becomes_21 : decode cX10_becomes 21 = .ok (.iconst 0, 1) := by decide +kernel
theorem dX10_becomes_22 : decode cX10_becomes 22 = .ok (.istore_n 2, 1) := by decide +kernel
theorem dX10_becomes_23 : decode cX10_becomes 23 = .ok (.iload_n 2, 1) := by decide +kernel
theorem dX10_becomes_24 : decode cX10_becomes 24 = .ok (.bipush 16, 2) := by decide +kernel
theorem dX10_becomes_26 : decode cX10_becomes 26 = .ok (.if_icmp .ge 21, 3) := by decide +kernel
theorem dX10_becomes_29 : decode cX10_becomes 29 = .ok (.aload_n 0, 1) := by decide +kernel
theorem dX10_becomes_30 : decode cX10_becomes 30 = .ok (.getfield 71, 3) := by decide +kernel
theorem dX10_becomes_33 : decode cX10_becomes 33 = .ok (.iload_n 2, 1) := by decide +kernel
theorem dX10_becomes_34 : decode cX10_becomes 34 = .ok (.aload_n 0, 1) := by decide +kernel
theorem dX10_becomes_35 : decode cX10_becomes 35 = .ok (.iconst 0, 1) := by decide +kernel
theorem dX10_becomes_36 : decode cX10_becomes 36 = .ok (.iload_n 2, 1) := by decide +kernel
theorem dX10_becomes_37 : decode cX10_becomes 37 = .ok (.invokevirtual 183, 3) := by decide +kernel
theorem dX10_becomes_40 : decode cX10_becomes 40 = .ok (.iastore, 1) := by decide +kernel
theorem dX10_becomes_41 : decode cX10_becomes 41 = .ok (.iinc 2 1, 3) := by decide +kernel
theorem dX10_becomes_44 : decode cX10_becomes 44 = .ok (.goto (-21), 3) := by decide +kernel
theorem dX10_becomes_47 : decode cX10_becomes 47 = .ok (.aload_n 0, 1) := by decide +kernel
theorem dX10_becomes_48 : decode cX10_becomes 48 = .ok (.iconst 0, 1) := by decide +kernel
theorem dX10_becomes_49 : decode cX10_becomes 49 = .ok (.iconst 0, 1) := by decide +kernel
theorem dX10_becomes_50 : decode cX10_becomes 50 = .ok (.invokevirtual 186, 3) := by decide +kernel
theorem dX10_becomes_53 : decode cX10_becomes 53 = .ok (.return_, 1) := by decide +kernel
theorem dX10_begins_0 : decode cX10_begins 0 = .ok (.iconst 0, 1) := by decide +kernel
theorem dX10_begins_1 : decode cX10_begins 1 = .ok (.istore_n 3, 1) := by decide +kernel
theorem dX10_begins_2 : decode cX10_begins 2 = .ok (.iload_n 3, 1) := by decide +kernel
theorem dX10_begins_3 : decode cX10_begins 3 = .ok (.sipush 280, 3) := by decide +kernel
theorem dX10_begins_6 : decode cX10_begins 6 = .ok (.if_icmp .ge 36, 3) := by decide +kernel
theorem dX10_begins_9 : decode cX10_begins 9 = .ok (.aload_n 0, 1) := by decide +kernel
theorem dX10_begins_10 : decode cX10_begins 10 = .ok (.getfield 28, 3) := by decide +kernel
theorem dX10_begins_13 : decode cX10_begins 13 = .ok (.iload_n 3, 1) := by decide +kernel
theorem dX10_begins_14 : decode cX10_begins 14 = .ok (.iload_n 3, 1) := by decide +kernel
theorem dX10_begins_15 : decode cX10_begins 15 = .ok (.i2l, 1) := by decide +kernel
theorem dX10_begins_16 : decode cX10_begins 16 = .ok (.ldc2_w 204, 3) := by decide +kernel
theorem dX10_begins_19 : decode cX10_begins 19 = .ok (.ldc2_w 206, 3) := by decide +kernel
theorem dX10_begins_22 : decode cX10_begins 22 = .ok (.invokestatic 85, 3) := by decide +kernel
theorem dX10_begins_25 : decode cX10_begins 25 = .ok (.ifCond .eq 9, 3) := by decide +kernel
theorem dX10_begins_28 : decode cX10_begins 28 = .ok (.ldc2_w 196, 3) := by decide +kernel
theorem dX10_begins_31 : decode cX10_begins 31 = .ok (.goto 4, 3) := by decide +kernel
theorem dX10_begins_34 : decode cX10_begins 34 = .ok (.lconst 0, 1) := by decide +kernel
theorem dX10_begins_35 : decode cX10_begins 35 = .ok (.lastore, 1) := by decide +kernel
theorem dX10_begins_36 : decode cX10_begins 36 = .ok (.iinc 3 1, 3) := by decide +kernel
theorem dX10_begins_39 : decode cX10_begins 39 = .ok (.goto (-37), 3) := by decide +kernel
theorem dX10_begins_42 : decode cX10_begins 42 = .ok (.iconst 0, 1) := by decide +kernel
theorem dX10_begins_43 : decode cX10_begins 43 = .ok (.istore_n 3, 1) := by decide +kernel
theorem dX10_begins_44 : decode cX10_begins 44 = .ok (.iload_n 3, 1) := by decide +kernel
theorem dX10_begins_45 : decode cX10_begins 45 = .ok (.bipush 16, 2) := by decide +kernel
theorem dX10_begins_47 : decode cX10_begins 47 = .ok (.if_icmp .ge 44, 3) := by decide +kernel
theorem dX10_begins_50 : decode cX10_begins 50 = .ok (.aload_n 0, 1) := by decide +kernel
theorem dX10_begins_51 : decode cX10_begins 51 = .ok (.getfield 28, 3) := by decide +kernel
theorem dX10_begins_54 : decode cX10_begins 54 = .ok (.iload_n 3, 1) := by decide +kernel
theorem dX10_begins_55 : decode cX10_begins 55 = .ok (.iload_n 2, 1) := by decide +kernel
theorem dX10_begins_56 : decode cX10_begins 56 = .ok (.ifCond .eq 21, 3) := by decide +kernel
theorem dX10_begins_59 : decode cX10_begins 59 = .ok (.aload_n 0, 1) := by decide +kernel
theorem dX10_begins_60 : decode cX10_begins 60 = .ok (.iload_n 3, 1) := by decide +kernel
theorem dX10_begins_61 : decode cX10_begins 61 = .ok (.invokevirtual 208, 3) := by decide +kernel
theorem dX10_begins_64 : decode cX10_begins 64 = .ok (.ifCond .eq 13, 3) := by decide +kernel
theorem dX10_begins_67 : decode cX10_begins 67 = .ok (.aload_n 0, 1) := by decide +kernel
theorem dX10_begins_68 : decode cX10_begins 68 = .ok (.getfield 71, 3) := by decide +kernel
theorem dX10_begins_71 : decode cX10_begins 71 = .ok (.iload_n 3, 1) := by decide +kernel
theorem dX10_begins_72 : decode cX10_begins 72 = .ok (.iaload, 1) := by decide +kernel
theorem dX10_begins_73 : decode cX10_begins 73 = .ok (.i2l, 1) := by decide +kernel
theorem dX10_begins_74 : decode cX10_begins 74 = .ok (.goto 10, 3) := by decide +kernel
theorem dX10_begins_77 : decode cX10_begins 77 = .ok (.aload_n 0, 1) := by decide +kernel
theorem dX10_begins_78 : decode cX10_begins 78 = .ok (.iload_n 1, 1) := by decide +kernel
theorem dX10_begins_79 : decode cX10_begins 79 = .ok (.iload_n 3, 1) := by decide +kernel
theorem dX10_begins_80 : decode cX10_begins 80 = .ok (.invokevirtual 183, 3) := by decide +kernel
theorem dX10_begins_83 : decode cX10_begins 83 = .ok (.i2l, 1) := by decide +kernel
theorem dX10_begins_84 : decode cX10_begins 84 = .ok (.lastore, 1) := by decide +kernel
theorem dX10_begins_85 : decode cX10_begins 85 = .ok (.iinc 3 1, 3) := by decide +kernel
theorem dX10_begins_88 : decode cX10_begins 88 = .ok (.goto (-44), 3) := by decide +kernel
theorem dX10_begins_91 : decode cX10_begins 91 = .ok (.return_, 1) := by decide +kernel
theorem dX10_passes_0 : decode cX10_passes 0 = .ok (.aload_n 0, 1) := by decide +kernel
theorem dX10_passes_1 : decode cX10_passes 1 = .ok (.getfield 28, 3) := by decide +kernel
theorem dX10_passes_4 : decode cX10_passes 4 = .ok (.sipush 231, 3) := by decide +kernel
theorem dX10_passes_7 : decode cX10_passes 7 = .ok (.laload, 1) := by decide +kernel
theorem dX10_passes_8 : decode cX10_passes 8 = .ok (.l2i, 1) := by decide +kernel
theorem dX10_passes_9 : decode cX10_passes 9 = .ok (.istore 4, 2) := by decide +kernel
theorem dX10_passes_11 : decode cX10_passes 11 = .ok (.iconst 0, 1) := by decide +kernel
theorem dX10_passes_12 : decode cX10_passes 12 = .ok (.istore 5, 2) := by decide +kernel
theorem dX10_passes_14 : decode cX10_passes 14 = .ok (.iload 5, 2) := by decide +kernel
theorem dX10_passes_16 : decode cX10_passes 16 = .ok (.bipush 16, 2) := by decide +kernel
theorem dX10_passes_18 : decode cX10_passes 18 = .ok (.if_icmp .ge 58, 3) := by decide +kernel
theorem dX10_passes_21 : decode cX10_passes 21 = .ok (.aload_n 0, 1) := by decide +kernel
theorem dX10_passes_22 : decode cX10_passes 22 = .ok (.getfield 28, 3) := by decide +kernel
theorem dX10_passes_25 : decode cX10_passes 25 = .ok (.iload 5, 2) := by decide +kernel
theorem dX10_passes_27 : decode cX10_passes 27 = .ok (.dup2, 1) := by decide +kernel
theorem dX10_passes_28 : decode cX10_passes 28 = .ok (.laload, 1) := by decide +kernel
theorem dX10_passes_29 : decode cX10_passes 29 = .ok (.aload_n 0, 1) := by decide +kernel
theorem dX10_passes_30 : decode cX10_passes 30 = .ok (.getfield 28, 3) := by decide +kernel
theorem dX10_passes_33 : decode cX10_passes 33 = .ok (.bipush 16, 2) := by decide +kernel
theorem dX10_passes_35 : decode cX10_passes 35 = .ok (.bipush 13, 2) := by decide +kernel
theorem dX10_passes_37 : decode cX10_passes 37 = .ok (.iload 5, 2) := by decide +kernel
theorem dX10_passes_39 : decode cX10_passes 39 = .ok (.imul, 1) := by decide +kernel
theorem dX10_passes_40 : decode cX10_passes 40 = .ok (.iadd, 1) := by decide +kernel
theorem dX10_passes_41 : decode cX10_passes 41 = .ok (.iload 4, 2) := by decide +kernel
theorem dX10_passes_43 : decode cX10_passes 43 = .ok (.bipush 13, 2) := by decide +kernel
theorem dX10_passes_45 : decode cX10_passes 45 = .ok (.irem, 1) := by decide +kernel
theorem dX10_passes_46 : decode cX10_passes 46 = .ok (.iadd, 1) := by decide +kernel
theorem dX10_passes_47 : decode cX10_passes 47 = .ok (.laload, 1) := by decide +kernel
theorem dX10_passes_48 : decode cX10_passes 48 = .ok (.ladd, 1) := by decide +kernel
theorem dX10_passes_49 : decode cX10_passes 49 = .ok (.lastore, 1) := by decide +kernel
theorem dX10_passes_50 : decode cX10_passes 50 = .ok (.aload_n 0, 1) := by decide +kernel
theorem dX10_passes_51 : decode cX10_passes 51 = .ok (.getfield 28, 3) := by decide +kernel
theorem dX10_passes_54 : decode cX10_passes 54 = .ok (.bipush 16, 2) := by decide +kernel
theorem dX10_passes_56 : decode cX10_passes 56 = .ok (.bipush 13, 2) := by decide +kernel
theorem dX10_passes_58 : decode cX10_passes 58 = .ok (.iload 5, 2) := by decide +kernel
theorem dX10_passes_60 : decode cX10_passes 60 = .ok (.imul, 1) := by decide +kernel
theorem dX10_passes_61 : decode cX10_passes 61 = .ok (.iadd, 1) := by decide +kernel
theorem dX10_passes_62 : decode cX10_passes 62 = .ok (.iload 4, 2) := by decide +kernel
theorem dX10_passes_64 : decode cX10_passes 64 = .ok (.bipush 13, 2) := by decide +kernel
theorem dX10_passes_66 : decode cX10_passes 66 = .ok (.irem, 1) := by decide +kernel
theorem dX10_passes_67 : decode cX10_passes 67 = .ok (.iadd, 1) := by decide +kernel
theorem dX10_passes_68 : decode cX10_passes 68 = .ok (.lconst 0, 1) := by decide +kernel
theorem dX10_passes_69 : decode cX10_passes 69 = .ok (.lastore, 1) := by decide +kernel
theorem dX10_passes_70 : decode cX10_passes 70 = .ok (.iinc 5 1, 3) := by decide +kernel
theorem dX10_passes_73 : decode cX10_passes 73 = .ok (.goto (-59), 3) := by decide +kernel
theorem dX10_passes_76 : decode cX10_passes 76 = .ok (.iconst 0, 1) := by decide +kernel
theorem dX10_passes_77 : decode cX10_passes 77 = .ok (.istore 5, 2) := by decide +kernel
theorem dX10_passes_79 : decode cX10_passes 79 = .ok (.iconst 0, 1) := by decide +kernel
theorem dX10_passes_80 : decode cX10_passes 80 = .ok (.istore 6, 2) := by decide +kernel
theorem dX10_passes_82 : decode cX10_passes 82 = .ok (.iload 6, 2) := by decide +kernel
theorem dX10_passes_84 : decode cX10_passes 84 = .ok (.aload_n 0, 1) := by decide +kernel
theorem dX10_passes_85 : decode cX10_passes 85 = .ok (.getfield 163, 3) := by decide +kernel
theorem dX10_passes_88 : decode cX10_passes 88 = .ok (.if_icmp .ge 275, 3) := by decide +kernel
theorem dX10_passes_91 : decode cX10_passes 91 = .ok (.bipush 40, 2) := by decide +kernel
theorem dX10_passes_93 : decode cX10_passes 93 = .ok (.iload_n 1, 1) := by decide +kernel
theorem dX10_passes_94 : decode cX10_passes 94 = .ok (.imul, 1) := by decide +kernel
theorem dX10_passes_95 : decode cX10_passes 95 = .ok (.iload 6, 2) := by decide +kernel
theorem dX10_passes_97 : decode cX10_passes 97 = .ok (.iadd, 1) := by decide +kernel
theorem dX10_passes_98 : decode cX10_passes 98 = .ok (.istore 7, 2) := by decide +kernel
theorem dX10_passes_100 : decode cX10_passes 100 = .ok (.aload_n 0, 1) := by decide +kernel
theorem dX10_passes_101 : decode cX10_passes 101 = .ok (.getfield 13, 3) := by decide +kernel
theorem dX10_passes_104 : decode cX10_passes 104 = .ok (.iload 7, 2) := by decide +kernel
theorem dX10_passes_106 : decode cX10_passes 106 = .ok (.iaload, 1) := by decide +kernel
theorem dX10_passes_107 : decode cX10_passes 107 = .ok (.istore 8, 2) := by decide +kernel
theorem dX10_passes_109 : decode cX10_passes 109 = .ok (.aload_n 0, 1) := by decide +kernel
theorem dX10_passes_110 : decode cX10_passes 110 = .ok (.iload 7, 2) := by decide +kernel
theorem dX10_passes_112 : decode cX10_passes 112 = .ok (.iload 5, 2) := by decide +kernel
theorem dX10_passes_114 : decode cX10_passes 114 = .ok (.iload_n 2, 1) := by decide +kernel
theorem dX10_passes_115 : decode cX10_passes 115 = .ok (.iload_n 3, 1) := by decide +kernel
theorem dX10_passes_116 : decode cX10_passes 116 = .ok (.invokevirtual 221, 3) := by decide +kernel
theorem dX10_passes_119 : decode cX10_passes 119 = .ok (.lstore 9, 2) := by decide +kernel
theorem dX10_passes_121 : decode cX10_passes 121 = .ok (.iload 5, 2) := by decide +kernel
theorem dX10_passes_123 : decode cX10_passes 123 = .ok (.iload 8, 2) := by decide +kernel
theorem dX10_passes_125 : decode cX10_passes 125 = .ok (.bipush 103, 2) := by decide +kernel
theorem dX10_passes_127 : decode cX10_passes 127 = .ok (.if_icmp .ne 7, 3) := by decide +kernel
theorem dX10_passes_130 : decode cX10_passes 130 = .ok (.iconst 1, 1) := by decide +kernel
theorem dX10_passes_131 : decode cX10_passes 131 = .ok (.goto 4, 3) := by decide +kernel
theorem dX10_passes_134 : decode cX10_passes 134 = .ok (.iconst 0, 1) := by decide +kernel
theorem dX10_passes_135 : decode cX10_passes 135 = .ok (.iadd, 1) := by decide +kernel
theorem dX10_passes_136 : decode cX10_passes 136 = .ok (.istore 5, 2) := by decide +kernel
theorem dX10_passes_138 : decode cX10_passes 138 = .ok (.aload_n 0, 1) := by decide +kernel
theorem dX10_passes_139 : decode cX10_passes 139 = .ok (.getfield 28, 3) := by decide +kernel
theorem dX10_passes_142 : decode cX10_passes 142 = .ok (.sipush 240, 3) := by decide +kernel
theorem dX10_passes_145 : decode cX10_passes 145 = .ok (.iload 6, 2) := by decide +kernel
theorem dX10_passes_147 : decode cX10_passes 147 = .ok (.iadd, 1) := by decide +kernel
theorem dX10_passes_148 : decode cX10_passes 148 = .ok (.lload 9, 2) := by decide +kernel
theorem dX10_passes_150 : decode cX10_passes 150 = .ok (.lastore, 1) := by decide +kernel
theorem dX10_passes_151 : decode cX10_passes 151 = .ok (.iload 8, 2) := by decide +kernel
theorem dX10_passes_153 : decode cX10_passes 153 = .ok (.bipush 114, 2) := by decide +kernel
theorem dX10_passes_155 : decode cX10_passes 155 = .ok (.if_icmp .eq 10, 3) := by decide +kernel
theorem dX10_passes_158 : decode cX10_passes 158 = .ok (.iload 8, 2) := by decide +kernel
theorem dX10_passes_160 : decode cX10_passes 160 = .ok (.bipush 110, 2) := by decide +kernel
theorem dX10_passes_162 : decode cX10_passes 162 = .ok (.if_icmp .ne 7, 3) := by decide +kernel
theorem dX10_passes_165 : decode cX10_passes 165 = .ok (.iconst 1, 1) := by decide +kernel
theorem dX10_passes_166 : decode cX10_passes 166 = .ok (.goto 4, 3) := by decide +kernel
theorem dX10_passes_169 : decode cX10_passes 169 = .ok (.iconst 0, 1) := by decide +kernel
theorem dX10_passes_170 : decode cX10_passes 170 = .ok (.istore 11, 2) := by decide +kernel
theorem dX10_passes_172 : decode cX10_passes 172 = .ok (.aload_n 0, 1) := by decide +kernel
theorem dX10_passes_173 : decode cX10_passes 173 = .ok (.getfield 28, 3) := by decide +kernel
theorem dX10_passes_176 : decode cX10_passes 176 = .ok (.aload_n 0, 1) := by decide +kernel
theorem dX10_passes_177 : decode cX10_passes 177 = .ok (.getfield 16, 3) := by decide +kernel
theorem dX10_passes_180 : decode cX10_passes 180 = .ok (.iload 7, 2) := by decide +kernel
theorem dX10_passes_182 : decode cX10_passes 182 = .ok (.iaload, 1) := by decide +kernel
theorem dX10_passes_183 : decode cX10_passes 183 = .ok (.dup2, 1) := by decide +kernel
theorem dX10_passes_184 : decode cX10_passes 184 = .ok (.laload, 1) := by decide +kernel
theorem dX10_passes_185 : decode cX10_passes 185 = .ok (.iload 11, 2) := by decide +kernel
theorem dX10_passes_187 : decode cX10_passes 187 = .ok (.ifCond .eq 8, 3) := by decide +kernel
theorem dX10_passes_190 : decode cX10_passes 190 = .ok (.lload 9, 2) := by decide +kernel
theorem dX10_passes_192 : decode cX10_passes 192 = .ok (.goto 17, 3) := by decide +kernel
theorem dX10_passes_195 : decode cX10_passes 195 = .ok (.iload 8, 2) := by decide +kernel
theorem dX10_passes_197 : decode cX10_passes 197 = .ok (.bipush 115, 2) := by decide +kernel
theorem dX10_passes_199 : decode cX10_passes 199 = .ok (.if_icmp .ne 7, 3) := by decide +kernel
theorem dX10_passes_202 : decode cX10_passes 202 = .ok (.lconst 0, 1) := by decide +kernel
theorem dX10_passes_203 : decode cX10_passes 203 = .ok (.goto 6, 3) := by decide +kernel
theorem dX10_passes_206 : decode cX10_passes 206 = .ok (.lload 9, 2) := by decide +kernel
theorem dX10_passes_208 : decode cX10_passes 208 = .ok (.lneg, 1) := by decide +kernel
theorem dX10_passes_209 : decode cX10_passes 209 = .ok (.ladd, 1) := by decide +kernel
theorem dX10_passes_210 : decode cX10_passes 210 = .ok (.lastore, 1) := by decide +kernel
theorem dX10_passes_211 : decode cX10_passes 211 = .ok (.aload_n 0, 1) := by decide +kernel
theorem dX10_passes_212 : decode cX10_passes 212 = .ok (.getfield 28, 3) := by decide +kernel
theorem dX10_passes_215 : decode cX10_passes 215 = .ok (.sipush 230, 3) := by decide +kernel
theorem dX10_passes_218 : decode cX10_passes 218 = .ok (.dup2, 1) := by decide +kernel
theorem dX10_passes_219 : decode cX10_passes 219 = .ok (.laload, 1) := by decide +kernel
theorem dX10_passes_220 : decode cX10_passes 220 = .ok (.iload 11, 2) := by decide +kernel
theorem dX10_passes_222 : decode cX10_passes 222 = .ok (.ifCond .eq 8, 3) := by decide +kernel
theorem dX10_passes_225 : decode cX10_passes 225 = .ok (.lload 9, 2) := by decide +kernel
theorem dX10_passes_227 : decode cX10_passes 227 = .ok (.goto 4, 3) := by decide +kernel
theorem dX10_passes_230 : decode cX10_passes 230 = .ok (.lconst 0, 1) := by decide +kernel
theorem dX10_passes_231 : decode cX10_passes 231 = .ok (.ladd, 1) := by decide +kernel
theorem dX10_passes_232 : decode cX10_passes 232 = .ok (.lastore, 1) := by decide +kernel
theorem dX10_passes_233 : decode cX10_passes 233 = .ok (.aload_n 0, 1) := by decide +kernel
theorem dX10_passes_234 : decode cX10_passes 234 = .ok (.getfield 28, 3) := by decide +kernel
theorem dX10_passes_237 : decode cX10_passes 237 = .ok (.sipush 228, 3) := by decide +kernel
theorem dX10_passes_240 : decode cX10_passes 240 = .ok (.dup2, 1) := by decide +kernel
theorem dX10_passes_241 : decode cX10_passes 241 = .ok (.laload, 1) := by decide +kernel
theorem dX10_passes_242 : decode cX10_passes 242 = .ok (.iload 8, 2) := by decide +kernel
theorem dX10_passes_244 : decode cX10_passes 244 = .ok (.bipush 101, 2) := by decide +kernel
theorem dX10_passes_246 : decode cX10_passes 246 = .ok (.if_icmp .ne 8, 3) := by decide +kernel
theorem dX10_passes_249 : decode cX10_passes 249 = .ok (.lload 9, 2) := by decide +kernel
theorem dX10_passes_251 : decode cX10_passes 251 = .ok (.goto 4, 3) := by decide +kernel
theorem dX10_passes_254 : decode cX10_passes 254 = .ok (.lconst 0, 1) := by decide +kernel
theorem dX10_passes_255 : decode cX10_passes 255 = .ok (.ladd, 1) := by decide +kernel
theorem dX10_passes_256 : decode cX10_passes 256 = .ok (.lastore, 1) := by decide +kernel
theorem dX10_passes_257 : decode cX10_passes 257 = .ok (.aload_n 0, 1) := by decide +kernel
theorem dX10_passes_258 : decode cX10_passes 258 = .ok (.getfield 28, 3) := by decide +kernel
theorem dX10_passes_261 : decode cX10_passes 261 = .ok (.sipush 229, 3) := by decide +kernel
theorem dX10_passes_264 : decode cX10_passes 264 = .ok (.dup2, 1) := by decide +kernel
theorem dX10_passes_265 : decode cX10_passes 265 = .ok (.laload, 1) := by decide +kernel
theorem dX10_passes_266 : decode cX10_passes 266 = .ok (.iload 8, 2) := by decide +kernel
theorem dX10_passes_268 : decode cX10_passes 268 = .ok (.bipush 122, 2) := by decide +kernel
theorem dX10_passes_270 : decode cX10_passes 270 = .ok (.if_icmp .ne 8, 3) := by decide +kernel
theorem dX10_passes_273 : decode cX10_passes 273 = .ok (.lload 9, 2) := by decide +kernel
theorem dX10_passes_275 : decode cX10_passes 275 = .ok (.goto 4, 3) := by decide +kernel
theorem dX10_passes_278 : decode cX10_passes 278 = .ok (.lconst 0, 1) := by decide +kernel
theorem dX10_passes_279 : decode cX10_passes 279 = .ok (.ladd, 1) := by decide +kernel
theorem dX10_passes_280 : decode cX10_passes 280 = .ok (.lastore, 1) := by decide +kernel
theorem dX10_passes_281 : decode cX10_passes 281 = .ok (.iload 8, 2) := by decide +kernel
theorem dX10_passes_283 : decode cX10_passes 283 = .ok (.bipush 116, 2) := by decide +kernel
theorem dX10_passes_285 : decode cX10_passes 285 = .ok (.if_icmp .ne 45, 3) := by decide +kernel
theorem dX10_passes_288 : decode cX10_passes 288 = .ok (.aload_n 0, 1) := by decide +kernel
theorem dX10_passes_289 : decode cX10_passes 289 = .ok (.getfield 28, 3) := by decide +kernel
theorem dX10_passes_292 : decode cX10_passes 292 = .ok (.bipush 16, 2) := by decide +kernel
theorem dX10_passes_294 : decode cX10_passes 294 = .ok (.bipush 13, 2) := by decide +kernel
theorem dX10_passes_296 : decode cX10_passes 296 = .ok (.aload_n 0, 1) := by decide +kernel
theorem dX10_passes_297 : decode cX10_passes 297 = .ok (.getfield 19, 3) := by decide +kernel
theorem dX10_passes_300 : decode cX10_passes 300 = .ok (.iload 7, 2) := by decide +kernel
theorem dX10_passes_302 : decode cX10_passes 302 = .ok (.iaload, 1) := by decide +kernel
theorem dX10_passes_303 : decode cX10_passes 303 = .ok (.imul, 1) := by decide +kernel
theorem dX10_passes_304 : decode cX10_passes 304 = .ok (.iadd, 1) := by decide +kernel
theorem dX10_passes_305 : decode cX10_passes 305 = .ok (.iload 4, 2) := by decide +kernel
theorem dX10_passes_307 : decode cX10_passes 307 = .ok (.aload_n 0, 1) := by decide +kernel
theorem dX10_passes_308 : decode cX10_passes 308 = .ok (.getfield 22, 3) := by decide +kernel
theorem dX10_passes_311 : decode cX10_passes 311 = .ok (.iconst 3, 1) := by decide +kernel
theorem dX10_passes_312 : decode cX10_passes 312 = .ok (.iload 7, 2) := by decide +kernel
theorem dX10_passes_314 : decode cX10_passes 314 = .ok (.imul, 1) := by decide +kernel
theorem dX10_passes_315 : decode cX10_passes 315 = .ok (.iaload, 1) := by decide +kernel
theorem dX10_passes_316 : decode cX10_passes 316 = .ok (.iadd, 1) := by decide +kernel
theorem dX10_passes_317 : decode cX10_passes 317 = .ok (.bipush 13, 2) := by decide +kernel
theorem dX10_passes_319 : decode cX10_passes 319 = .ok (.irem, 1) := by decide +kernel
theorem dX10_passes_320 : decode cX10_passes 320 = .ok (.iadd, 1) := by decide +kernel
theorem dX10_passes_321 : decode cX10_passes 321 = .ok (.dup2, 1) := by decide +kernel
theorem dX10_passes_322 : decode cX10_passes 322 = .ok (.laload, 1) := by decide +kernel
theorem dX10_passes_323 : decode cX10_passes 323 = .ok (.lload 9, 2) := by decide +kernel
theorem dX10_passes_325 : decode cX10_passes 325 = .ok (.ladd, 1) := by decide +kernel
theorem dX10_passes_326 : decode cX10_passes 326 = .ok (.lastore, 1) := by decide +kernel
theorem dX10_passes_327 : decode cX10_passes 327 = .ok (.goto 30, 3) := by decide +kernel
theorem dX10_passes_330 : decode cX10_passes 330 = .ok (.aload_n 0, 1) := by decide +kernel
theorem dX10_passes_331 : decode cX10_passes 331 = .ok (.getfield 19, 3) := by decide +kernel
theorem dX10_passes_334 : decode cX10_passes 334 = .ok (.iload 7, 2) := by decide +kernel
theorem dX10_passes_336 : decode cX10_passes 336 = .ok (.iaload, 1) := by decide +kernel
theorem dX10_passes_337 : decode cX10_passes 337 = .ok (.ifCond .lt 20, 3) := by decide +kernel
theorem dX10_passes_340 : decode cX10_passes 340 = .ok (.aload_n 0, 1) := by decide +kernel
theorem dX10_passes_341 : decode cX10_passes 341 = .ok (.getfield 28, 3) := by decide +kernel
theorem dX10_passes_344 : decode cX10_passes 344 = .ok (.aload_n 0, 1) := by decide +kernel
theorem dX10_passes_345 : decode cX10_passes 345 = .ok (.getfield 19, 3) := by decide +kernel
theorem dX10_passes_348 : decode cX10_passes 348 = .ok (.iload 7, 2) := by decide +kernel
theorem dX10_passes_350 : decode cX10_passes 350 = .ok (.iaload, 1) := by decide +kernel
theorem dX10_passes_351 : decode cX10_passes 351 = .ok (.dup2, 1) := by decide +kernel
theorem dX10_passes_352 : decode cX10_passes 352 = .ok (.laload, 1) := by decide +kernel
theorem dX10_passes_353 : decode cX10_passes 353 = .ok (.lload 9, 2) := by decide +kernel
theorem dX10_passes_355 : decode cX10_passes 355 = .ok (.ladd, 1) := by decide +kernel
theorem dX10_passes_356 : decode cX10_passes 356 = .ok (.lastore, 1) := by decide +kernel
theorem dX10_passes_357 : decode cX10_passes 357 = .ok (.iinc 6 1, 3) := by decide +kernel
theorem dX10_passes_360 : decode cX10_passes 360 = .ok (.goto (-278), 3) := by decide +kernel
theorem dX10_passes_363 : decode cX10_passes 363 = .ok (.aload_n 0, 1) := by decide +kernel
theorem dX10_passes_364 : decode cX10_passes 364 = .ok (.getfield 28, 3) := by decide +kernel
theorem dX10_passes_367 : decode cX10_passes 367 = .ok (.sipush 231, 3) := by decide +kernel
theorem dX10_passes_370 : decode cX10_passes 370 = .ok (.dup2, 1) := by decide +kernel
theorem dX10_passes_371 : decode cX10_passes 371 = .ok (.laload, 1) := by decide +kernel
theorem dX10_passes_372 : decode cX10_passes 372 = .ok (.lconst 1, 1) := by decide +kernel
theorem dX10_passes_373 : decode cX10_passes 373 = .ok (.ladd, 1) := by decide +kernel
theorem dX10_passes_374 : decode cX10_passes 374 = .ok (.lastore, 1) := by decide +kernel
theorem dX10_passes_375 : decode cX10_passes 375 = .ok (.return_, 1) := by decide +kernel
theorem dX10_goes_0 : decode cX10_goes 0 = .ok (.aload_n 0, 1) := by decide +kernel
theorem dX10_goes_1 : decode cX10_goes 1 = .ok (.getfield 28, 3) := by decide +kernel
theorem dX10_goes_4 : decode cX10_goes 4 = .ok (.sipush 231, 3) := by decide +kernel
theorem dX10_goes_7 : decode cX10_goes 7 = .ok (.laload, 1) := by decide +kernel
theorem dX10_goes_8 : decode cX10_goes 8 = .ok (.l2i, 1) := by decide +kernel
theorem dX10_goes_9 : decode cX10_goes 9 = .ok (.istore_n 3, 1) := by decide +kernel
theorem dX10_goes_10 : decode cX10_goes 10 = .ok (.aload_n 0, 1) := by decide +kernel
theorem dX10_goes_11 : decode cX10_goes 11 = .ok (.iload_n 1, 1) := by decide +kernel
theorem dX10_goes_12 : decode cX10_goes 12 = .ok (.aload_n 0, 1) := by decide +kernel
theorem dX10_goes_13 : decode cX10_goes 13 = .ok (.getfield 25, 3) := by decide +kernel
theorem dX10_goes_16 : decode cX10_goes 16 = .ok (.sipush 192, 3) := by decide +kernel
theorem dX10_goes_19 : decode cX10_goes 19 = .ok (.iload_n 2, 1) := by decide +kernel
theorem dX10_goes_20 : decode cX10_goes 20 = .ok (.imul, 1) := by decide +kernel
theorem dX10_goes_21 : decode cX10_goes 21 = .ok (.iconst 2, 1) := by decide +kernel
theorem dX10_goes_22 : decode cX10_goes 22 = .ok (.iload_n 3, 1) := by decide +kernel
theorem dX10_goes_23 : decode cX10_goes 23 = .ok (.imul, 1) := by decide +kernel
theorem dX10_goes_24 : decode cX10_goes 24 = .ok (.iadd, 1) := by decide +kernel
theorem dX10_goes_25 : decode cX10_goes 25 = .ok (.iaload, 1) := by decide +kernel
theorem dX10_goes_26 : decode cX10_goes 26 = .ok (.aload_n 0, 1) := by decide +kernel
theorem dX10_goes_27 : decode cX10_goes 27 = .ok (.getfield 25, 3) := by decide +kernel
theorem dX10_goes_30 : decode cX10_goes 30 = .ok (.sipush 192, 3) := by decide +kernel
theorem dX10_goes_33 : decode cX10_goes 33 = .ok (.iload_n 2, 1) := by decide +kernel
theorem dX10_goes_34 : decode cX10_goes 34 = .ok (.imul, 1) := by decide +kernel
theorem dX10_goes_35 : decode cX10_goes 35 = .ok (.iconst 2, 1) := by decide +kernel
theorem dX10_goes_36 : decode cX10_goes 36 = .ok (.iload_n 3, 1) := by decide +kernel
theorem dX10_goes_37 : decode cX10_goes 37 = .ok (.imul, 1) := by decide +kernel
theorem dX10_goes_38 : decode cX10_goes 38 = .ok (.iadd, 1) := by decide +kernel
theorem dX10_goes_39 : decode cX10_goes 39 = .ok (.iconst 1, 1) := by decide +kernel
theorem dX10_goes_40 : decode cX10_goes 40 = .ok (.iadd, 1) := by decide +kernel
theorem dX10_goes_41 : decode cX10_goes 41 = .ok (.iaload, 1) := by decide +kernel
theorem dX10_goes_42 : decode cX10_goes 42 = .ok (.invokevirtual 225, 3) := by decide +kernel
theorem dX10_goes_45 : decode cX10_goes 45 = .ok (.return_, 1) := by decide +kernel
theorem dX10_asides_0 : decode cX10_asides 0 = .ok (.iconst 0, 1) := by decide +kernel
theorem dX10_asides_1 : decode cX10_asides 1 = .ok (.istore_n 1, 1) := by decide +kernel
theorem dX10_asides_2 : decode cX10_asides 2 = .ok (.iload_n 1, 1) := by decide +kernel
theorem dX10_asides_3 : decode cX10_asides 3 = .ok (.sipush 280, 3) := by decide +kernel
theorem dX10_asides_6 : decode cX10_asides 6 = .ok (.if_icmp .ge 21, 3) := by decide +kernel
theorem dX10_asides_9 : decode cX10_asides 9 = .ok (.aload_n 0, 1) := by decide +kernel
theorem dX10_asides_10 : decode cX10_asides 10 = .ok (.getfield 32, 3) := by decide +kernel
theorem dX10_asides_13 : decode cX10_asides 13 = .ok (.iload_n 1, 1) := by decide +kernel
theorem dX10_asides_14 : decode cX10_asides 14 = .ok (.aload_n 0, 1) := by decide +kernel
theorem dX10_asides_15 : decode cX10_asides 15 = .ok (.getfield 28, 3) := by decide +kernel
theorem dX10_asides_18 : decode cX10_asides 18 = .ok (.iload_n 1, 1) := by decide +kernel
theorem dX10_asides_19 : decode cX10_asides 19 = .ok (.laload, 1) := by decide +kernel
theorem dX10_asides_20 : decode cX10_asides 20 = .ok (.lastore, 1) := by decide +kernel
theorem dX10_asides_21 : decode cX10_asides 21 = .ok (.iinc 1 1, 3) := by decide +kernel
theorem dX10_asides_24 : decode cX10_asides 24 = .ok (.goto (-22), 3) := by decide +kernel
theorem dX10_asides_27 : decode cX10_asides 27 = .ok (.return_, 1) := by decide +kernel
theorem dX10_returns_0 : decode cX10_returns 0 = .ok (.iconst 0, 1) := by decide +kernel
theorem dX10_returns_1 : decode cX10_returns 1 = .ok (.istore_n 1, 1) := by decide +kernel
theorem dX10_returns_2 : decode cX10_returns 2 = .ok (.iload_n 1, 1) := by decide +kernel
theorem dX10_returns_3 : decode cX10_returns 3 = .ok (.sipush 280, 3) := by decide +kernel
theorem dX10_returns_6 : decode cX10_returns 6 = .ok (.if_icmp .ge 21, 3) := by decide +kernel
theorem dX10_returns_9 : decode cX10_returns 9 = .ok (.aload_n 0, 1) := by decide +kernel
theorem dX10_returns_10 : decode cX10_returns 10 = .ok (.getfield 28, 3) := by decide +kernel
theorem dX10_returns_13 : decode cX10_returns 13 = .ok (.iload_n 1, 1) := by decide +kernel
theorem dX10_returns_14 : decode cX10_returns 14 = .ok (.aload_n 0, 1) := by decide +kernel
theorem dX10_returns_15 : decode cX10_returns 15 = .ok (.getfield 32, 3) := by decide +kernel
theorem dX10_returns_18 : decode cX10_returns 18 = .ok (.iload_n 1, 1) := by decide +kernel
theorem dX10_returns_19 : decode cX10_returns 19 = .ok (.laload, 1) := by decide +kernel
theorem dX10_returns_20 : decode cX10_returns 20 = .ok (.lastore, 1) := by decide +kernel
theorem dX10_returns_21 : decode cX10_returns 21 = .ok (.iinc 1 1, 3) := by decide +kernel
theorem dX10_returns_24 : decode cX10_returns 24 = .ok (.goto (-22), 3) := by decide +kernel
theorem dX10_returns_27 : decode cX10_returns 27 = .ok (.return_, 1) := by decide +kernel
def uX10_passes : List Cond := .code yX10_passes cX10_passes 12 none :: ([.fieldLink RX10 28 "RiverModelModel" "m" "[J", .fieldLink RX10 163 "RiverModelModel" "items" "I", .fieldLink RX10 13 "RiverModelModel" "kind" "[I", .methodLink RX10 221 yX10_moves, .instanceMethod yX10_moves, .selects RX10 yX10_moves yX10_moves, .initialized RX10, .fieldLink RX10 16 "RiverModelModel" "first" "[I", .fieldLink RX10 19 "RiverModelModel" "second" "[I", .fieldLink RX10 22 "RiverModelModel" "number" "[I", .code yX10_moves cX10_moves 8 (some .long), .constantLong RX10 219 (10), .methodLink RX10 215 yX10_most, .instanceMethod yX10_most, .selects RX10 yX10_most yX10_most, .constantLong RX10 107 (100), .methodLink RX10 211 yX10_capacity, .instanceMethod yX10_capacity, .selects RX10 yX10_capacity yX10_capacity, .code yX10_most cX10_most 4 (some .long), .code yX10_capacity cX10_capacity 3 (some .long), .methodLink RX10 166 yX10_storeAt, .instanceMethod yX10_storeAt, .selects RX10 yX10_storeAt yX10_storeAt, .code yX10_storeAt cX10_storeAt 5 (some .int)] ++ wsX100)
set_option maxRecDepth 20000 in
theorem gu_X10_passes_X10_moves_221 : GoodIn uX10_passes (wsV RX10 221 RX10 yX10_moves uX10_moves) := goodIn_r _ [4, 5, 6, 7, 11, 8, 10, 3, 12, 13, 14, 15, 7, 1, 16, 17, 18, 19, 20, 21, 22, 23, 24, 25, 2, 26, 27, 28, 29, 30, 31, 32, 33, 34, 35, 36, 37, 38, 39, 40, 41, 42, 43, 44, 45, 46, 47, 48, 49, 50, 51, 52, 53, 54, 55, 56, 57, 58, 59, 60, 61] rfl (by decide +kernel)
set_option maxHeartbeats 4000000 in
set_option maxRecDepth 100000 in
theorem m_X10_passes (l : Launch) (D : va_G) (t : Nat → Nat) (cI cL cC : ClassId) (gC : Int32) (gE : Int32) (gW : Nat → Int32) (gA : Nat → Int32) (gT : Nat → Int32) (gI : Int32) (gS : Int32) (gM : Int32) (K : Nat → Int32) (F : Nat → Int32) (S : Nat → Int32) (N : Nat → Int32) (gH : Int) (gJ : Int) (ge : Int32) (gk : Int32) (gf : Int32) (gs : Int32) (gg : Int32) (gr : Int32) (RN : Nat → Int32) (a0 : Nat) (a1 : Int32) (a2 : Int32) (a3 : Int32) (M : Int) (uq : ∀ b c : Nat, t b = t c → t b ≠ 0 → b = c) (hMb : 40 * a1.toInt = M) (hM0 : 0 ≤ a1.toInt) (hM2 : a1.toInt ≤ 2) (hI0 : 0 ≤ gI.toInt) (hI4 : gI.toInt ≤ 40) (hO : okM K F S N M gI.toInt) (hH0 : 0 ≤ gH) (hH5 : gH ≤ 95) (k_a0 : t a0 = 40) : tMx (Z := (Int)) l yX10_passes uX10_passes 3 73 D (mF cI cL cC gC gE gW gA gT gI gS gM K F S N gH gJ ge gk gf gs gg gr RN) (fun z => (mF cI cL cC gC gE gW gA gT gI gS gM K F S N z gJ ge gk gf gs gg gr RN)) t cI cL cC [.ref a0, .int a1, .int a2, .int a3] wm (xV (fun (z : (Int)) => z = gH + 1)) := by
  refine tMx.ofW (cc := cX10_passes) (maxL := 12) (ret := none) (by decide) rfl (Nat.le_of_ble_eq_true rfl) ?_
  intro p e s m below meth c hx hb hr hml hown hts hlk H locs hG hK hE hS ls hl
  have hl : lv_has ls 12 [(0, .ref a0), (1, .int a1), (2, .int a2), (3, .int a3)] := hl
  have in10 : ∀ w ∈ wsX100, w ∈ uX10_passes := fun w h => List.mem_cons_of_mem _ (List.mem_append_right _ h)
  refine lv_aload_n hx hb dX10_passes_0 rfl (lv_at hl 0 rfl) ?_
  obtain ⟨r_1, v_3, r_4, r_6, r_8, r_10, r_12, r_14, r_16, r_18, r_20, r_22, r_24, r_26, r_28, r_30, r_32, r_34, r_36, r_38, r_40, r_42, r_44, v_46, r_47, at_49, h_2, h_5, h_7, h_9, h_11, h_13, h_15, h_17, h_19, h_21, h_23, h_25, h_27, h_29, h_31, h_33, h_35, h_37, h_39, h_41, h_43, h_45, h_48⟩ := mF_o40 hG k_a0
  refine va_get (D := D) (ci := 9) (v := .ref r_14) (C := RX10) (T := TX10) (N := 36) hx hb hts in10 hown hK (va_one at_49) 0 rfl rfl 10 (by decide) (hts (.fieldLink RX10 28 "RiverModelModel" "m" "[J") (List.mem_of_getElem? (i := 1) rfl)) (fun _ h9 => h9) rfl dX10_passes_1 ?_
  refine lv_sipush (v := 231) hx hb dX10_passes_4 (by decide) ?_
  obtain ⟨f_50, at_51, h_52⟩ := mF_o47 hG h_15
  have b_53 : vp_in 231 280 := (q_in (by decide) (by decide))
  refine va_lald hx hb hK (va_one at_51) 0 1 rfl rfl b_53 dX10_passes_7 ?_
  refine lv_topl (fun z_54 e_55 => ?_)
  have i_z_54 : z_54.toInt = gH := by rw [e_55]; exact gHr_ld h_52 (by decide)
  refine lv_l2i (v := z_54.toInt32) hx hb dX10_passes_8 rfl ?_
  refine lv_topi (fun x_56 e_57 => ?_)
  have i_x_56 : x_56.toInt = z_54.toInt := by rw [e_57]; exact q_l2i (by omega) (by omega)
  refine lv_istore (lv' := [(4, .int x_56), (0, .ref a0), (1, .int a1), (2, .int a2), (3, .int a3)]) hx hb dX10_passes_9 hl (by decide) rfl (fun ls hl => ?_)
  refine lv_iconst (v := 0) hx hb dX10_passes_11 (by decide) ?_
  refine lv_pc (pc2 := 12) rfl ?_
  refine lv_istore (lv' := [(5, .int 0), (4, .int x_56), (0, .ref a0), (1, .int a1), (2, .int a2), (3, .int a3)]) hx hb dX10_passes_12 hl (by decide) rfl (fun ls hl => ?_)
  refine lv_pc (pc2 := 14) rfl ?_
  refine lp_gen (fun WW58 hWW58 => ?_)
  have kx58 : ∀ (yk : Int32) (H1 : Heap) (locs1 : List Loc) (ls1 : Array Slot), (0 ≤ yk.toInt) → (yk.toInt ≤ 16) → tG D (mF cI cL cC gC gE gW gA gT gI gS gM K F S N gH gJ ge gk gf gs gg gr RN) t H1 → tF t wm s.heap H1 locs1 → lv_has ls1 12 [(5, .int yk), (4, .int x_56), (0, .ref a0), (1, .int a1), (2, .int a2), (3, .int a3)] → WW58 H1 locs1 (F0 m 76 ls1 []) := by
    intro yk H locs ls v58_0 v58_1 hG hS hl
    refine (hWW58 _ _ _).mpr ?_
    refine lv_iconst (v := 0) hx hb dX10_passes_76 (by decide) ?_
    refine lv_istore (lv' := [(5, .int 0), (4, .int x_56), (0, .ref a0), (1, .int a1), (2, .int a2), (3, .int a3)]) hx hb dX10_passes_77 hl (by decide) rfl (fun ls hl => ?_)
    refine lv_iconst (v := 0) hx hb dX10_passes_79 (by decide) ?_
    refine lv_istore (lv' := [(6, .int 0), (5, .int 0), (4, .int x_56), (0, .ref a0), (1, .int a1), (2, .int a2), (3, .int a3)]) hx hb dX10_passes_80 hl (by decide) rfl (fun ls hl => ?_)
    refine lv_pc (pc2 := 82) rfl ?_
    refine lp_gen (fun WW59 hWW59 => ?_)
    have kx59 : ∀ (yi : Int32) (yg : Int32) (H1 : Heap) (locs1 : List Loc) (ls1 : Array Slot), (0 ≤ yi.toInt) → (yi.toInt ≤ gI.toInt) → (0 ≤ yg.toInt) → (yg.toInt ≤ yi.toInt) → tG D (mF cI cL cC gC gE gW gA gT gI gS gM K F S N gH gJ ge gk gf gs gg gr RN) t H1 → tF t wm s.heap H1 locs1 → lv_has ls1 12 [(6, .int yi), (5, .int yg), (4, .int x_56), (0, .ref a0), (1, .int a1), (2, .int a2), (3, .int a3)] → WW59 H1 locs1 (F0 m 363 ls1 []) := by
      intro yi yg H locs ls v59_0 v59_1 v59_2 v59_3 hG hS hl
      refine (hWW59 _ _ _).mpr ?_
      refine lv_aload_n hx hb dX10_passes_363 rfl (lv_at hl 3 rfl) ?_
      obtain ⟨r_60, v_62, r_63, r_65, r_67, r_69, r_71, r_73, r_75, r_77, r_79, r_81, r_83, r_85, r_87, r_89, r_91, r_93, r_95, r_97, r_99, r_101, r_103, v_105, r_106, at_108, h_61, h_64, h_66, h_68, h_70, h_72, h_74, h_76, h_78, h_80, h_82, h_84, h_86, h_88, h_90, h_92, h_94, h_96, h_98, h_100, h_102, h_104, h_107⟩ := mF_o40 hG k_a0
      refine va_get (D := D) (ci := 9) (v := .ref r_73) (C := RX10) (T := TX10) (N := 36) hx hb hts in10 hown hK (va_one at_108) 0 rfl rfl 10 (by decide) (hts (.fieldLink RX10 28 "RiverModelModel" "m" "[J") (List.mem_of_getElem? (i := 1) rfl)) (fun _ h9 => h9) rfl dX10_passes_364 ?_
      refine lv_sipush (v := 231) hx hb dX10_passes_367 (by decide) ?_
      refine lv_pc (pc2 := 370) rfl ?_
      refine lv_dup2_11 hx hb dX10_passes_370 rfl rfl ?_
      obtain ⟨f_109, at_110, h_111⟩ := mF_o47 hG h_74
      have b_112 : vp_in 231 280 := (q_in (by decide) (by decide))
      refine va_lald hx hb hK (va_one at_110) 0 1 rfl rfl b_112 dX10_passes_371 ?_
      refine lv_topl (fun z_113 e_114 => ?_)
      have i_z_113 : z_113.toInt = gH := by rw [e_114]; exact gHr_ld h_111 (by decide)
      refine lv_lconst (v := 1) hx hb dX10_passes_372 (by decide) ?_
      have zl_1 : (1 : Int64).toInt = 1 := by decide
      refine lv_ladd hx hb dX10_passes_373 ?_
      refine lv_topl (fun z_115 e_116 => ?_)
      have i_z_115 : z_115.toInt = z_113.toInt + 1 := by rw [e_116]; exact (qL_add (by omega) (by omega)).trans (by first | (done) | (omega) | omega)
      have b_117 : vp_in 231 280 := (q_in (by decide) (by decide))
      have zi_231 : (231 : Int32).toInt = 231 := by decide
      obtain ⟨h_118, qh_118⟩ : ∃ h : Int, h = z_115.toInt := ⟨_, rfl⟩
      refine ty_last (F2 := (mF cI cL cC gC gE gW gA gT gI gS gM K F S N h_118 gJ ge gk gf gs gg gr RN)) hx hb hK hG hS 1 at_110 (by rw [h_74]; rfl) rfl b_117 (by rw [h_74]; exact ⟨_, rfl, gHr_eq (by decide) qh_118.symm⟩) (fun hG b hb h0 => by obtain ⟨e, g1, g2⟩ := hG b h0; exact ⟨e, g1, mF_gH (fun h => hb (uq b r_73 (h.trans h_74.symm) h0)) g2⟩) dX10_passes_374 (fun H locs hG hS at_119 o_120 => ?_)
      have at_108 := va_at.keptK at_108 o_120 h_74 k_a0 rfl
      exact tx_vret (z := (h_118)) hx hb hr hlk hG hS (by show h_118 = gH + 1; omega) dX10_passes_375
    have lp59 : ∀ (kk59 : Nat) (yi : Int32) (yg : Int32) (H1 : Heap) (locs1 : List Loc) (ls1 : Array Slot), gI.toInt - yi.toInt ≤ (kk59 : Int) → (0 ≤ yi.toInt) → (yi.toInt ≤ gI.toInt) → (0 ≤ yg.toInt) → (yg.toInt ≤ yi.toInt) → tG D (mF cI cL cC gC gE gW gA gT gI gS gM K F S N gH gJ ge gk gf gs gg gr RN) t H1 → tF t wm s.heap H1 locs1 → lv_has ls1 12 [(6, .int yi), (5, .int yg), (4, .int x_56), (0, .ref a0), (1, .int a1), (2, .int a2), (3, .int a3)] → WW59 H1 locs1 (F0 m 82 ls1 []) := by
      intro kk59
      induction kk59 with
      | zero =>
        intro yi yg H locs ls hk59 v59_0 v59_1 v59_2 v59_3 hG hS hl
        refine (hWW59 _ _ _).mpr ?_
        refine lv_iload hx hb dX10_passes_82 (lv_at hl 0 rfl) ?_
        refine lv_aload_n hx hb dX10_passes_84 rfl (lv_at hl 3 rfl) ?_
        refine lv_pc (pc2 := 85) rfl ?_
        obtain ⟨r_121, v_123, r_124, r_126, r_128, r_130, r_132, r_134, r_136, r_138, r_140, r_142, r_144, r_146, r_148, r_150, r_152, r_154, r_156, r_158, r_160, r_162, r_164, v_166, r_167, at_169, h_122, h_125, h_127, h_129, h_131, h_133, h_135, h_137, h_139, h_141, h_143, h_145, h_147, h_149, h_151, h_153, h_155, h_157, h_159, h_161, h_163, h_165, h_168⟩ := mF_o40 hG k_a0
        refine va_get (D := D) (ci := 9) (v := .int gI) (C := RX10) (T := TX10) (N := 36) hx hb hts in10 hown hK (va_one at_169) 0 rfl rfl 3 (by decide) (hts (.fieldLink RX10 163 "RiverModelModel" "items" "I") (List.mem_of_getElem? (i := 2) rfl)) (fun _ h9 => h9) rfl dX10_passes_85 ?_
        refine lv_icmp_ge (tgt := 363) hx hb dX10_passes_88 (by decide) (fun c_170 => ?_) (fun c_170 => ?_)
        · skip
          have c_170 : gI.toInt ≤ yi.toInt := q_le c_170
          exact (hWW59 _ _ _).mp (kx59 yi yg H locs ls v59_0 v59_1 v59_2 v59_3 hG hS (lv_sub hl [0, 1, 2, 3, 4, 5, 6] rfl))
        · skip
          have c_170 : yi.toInt < gI.toInt := q_nle c_170
          exfalso; omega
      | succ kk59 ih59 =>
        intro yi yg H locs ls hk59 v59_0 v59_1 v59_2 v59_3 hG hS hl
        refine (hWW59 _ _ _).mpr ?_
        refine lv_iload hx hb dX10_passes_82 (lv_at hl 0 rfl) ?_
        refine lv_aload_n hx hb dX10_passes_84 rfl (lv_at hl 3 rfl) ?_
        obtain ⟨r_171, v_173, r_174, r_176, r_178, r_180, r_182, r_184, r_186, r_188, r_190, r_192, r_194, r_196, r_198, r_200, r_202, r_204, r_206, r_208, r_210, r_212, r_214, v_216, r_217, at_219, h_172, h_175, h_177, h_179, h_181, h_183, h_185, h_187, h_189, h_191, h_193, h_195, h_197, h_199, h_201, h_203, h_205, h_207, h_209, h_211, h_213, h_215, h_218⟩ := mF_o40 hG k_a0
        refine va_get (D := D) (ci := 9) (v := .int gI) (C := RX10) (T := TX10) (N := 36) hx hb hts in10 hown hK (va_one at_219) 0 rfl rfl 3 (by decide) (hts (.fieldLink RX10 163 "RiverModelModel" "items" "I") (List.mem_of_getElem? (i := 2) rfl)) (fun _ h9 => h9) rfl dX10_passes_85 ?_
        refine lv_icmp_ge (tgt := 363) hx hb dX10_passes_88 (by decide) (fun c_220 => ?_) (fun c_220 => ?_)
        · skip
          have c_220 : gI.toInt ≤ yi.toInt := q_le c_220
          exact (hWW59 _ _ _).mp (kx59 yi yg H locs ls v59_0 v59_1 v59_2 v59_3 hG hS (lv_sub hl [0, 1, 2, 3, 4, 5, 6] rfl))
        · skip
          have c_220 : yi.toInt < gI.toInt := q_nle c_220
          have hok := hO yi.toInt (by omega) (by omega)
          have o1 := hok.1
          have o2 := hok.2.1
          have o4 := hok.2.2.2.1
          refine lv_bipush (v := 40) hx hb dX10_passes_91 (by decide) ?_
          refine lv_iload_n hx hb dX10_passes_93 rfl (lv_at hl 4 rfl) ?_
          refine lv_pc (pc2 := 94) rfl ?_
          refine lv_imul hx hb dX10_passes_94 ?_
          refine lv_topi (fun x_221 e_222 => ?_)
          have i_x_221 : x_221.toInt = 40 * a1.toInt := by rw [e_222]; exact (q_mul (by rw [show (40 : Int32).toInt = 40 by decide]; omega) (by rw [show (40 : Int32).toInt = 40 by decide]; omega)).trans (by rw [show (40 : Int32).toInt = 40 by decide])
          refine lv_iload hx hb dX10_passes_95 (lv_at hl 0 rfl) ?_
          refine lv_iadd hx hb dX10_passes_97 ?_
          refine lv_topi (fun x_223 e_224 => ?_)
          have i_x_223 : x_223.toInt = x_221.toInt + yi.toInt := by rw [e_224]; exact (q_add (by omega) (by omega)).trans (by rfl)
          refine lv_istore (lv' := [(7, .int x_223), (6, .int yi), (5, .int yg), (4, .int x_56), (0, .ref a0), (1, .int a1), (2, .int a2), (3, .int a3)]) hx hb dX10_passes_98 hl (by decide) rfl (fun ls hl => ?_)
          refine lv_aload_n hx hb dX10_passes_100 rfl (lv_at hl 4 rfl) ?_
          refine va_get (D := D) (ci := 9) (v := .ref r_174) (C := RX10) (T := TX10) (N := 36) hx hb hts in10 hown hK (va_one at_219) 0 rfl rfl 4 (by decide) (hts (.fieldLink RX10 13 "RiverModelModel" "kind" "[I") (List.mem_of_getElem? (i := 3) rfl)) (fun _ h9 => h9) rfl dX10_passes_101 ?_
          refine lv_iload hx hb dX10_passes_104 (lv_at hl 0 rfl) ?_
          have at_225 := mF_o42 hG h_175
          have b_226 : vp_in x_223 120 := (q_in (by omega) (by omega))
          refine va_iald hx hb hK (va_one at_225) 0 0 rfl rfl b_226 dX10_passes_106 ?_
          refine lv_topi (fun x_227 e_228 => ?_)
          have w_x_227 : x_227 = K (M + yi.toInt).toNat := by rw [e_228]; exact congrArg (fun q : Int => K q.toNat) (show x_223.toInt = M + yi.toInt by omega)
          have i_x_227 : x_227.toInt = (K (M + yi.toInt).toNat).toInt := by rw [w_x_227]
          refine lv_pc (pc2 := 107) rfl ?_
          refine lv_istore (lv' := [(8, .int x_227), (7, .int x_223), (6, .int yi), (5, .int yg), (4, .int x_56), (0, .ref a0), (1, .int a1), (2, .int a2), (3, .int a3)]) hx hb dX10_passes_107 hl (by decide) rfl (fun ls hl => ?_)
          refine lv_aload_n hx hb dX10_passes_109 rfl (lv_at hl 5 rfl) ?_
          refine lv_iload hx hb dX10_passes_110 (lv_at hl 1 rfl) ?_
          refine lv_iload hx hb dX10_passes_112 (lv_at hl 3 rfl) ?_
          refine lv_iload_n hx hb dX10_passes_114 rfl (lv_at hl 7 rfl) ?_
          refine lv_iload_n hx hb dX10_passes_115 rfl (lv_at hl 8 rfl) ?_
          refine ty_calll (W.runV (As := [.int x_223, .int yg, .int a2, .int a3]) (rest := []) ⟨hx, hb, hml, hown, hts⟩ (m_X10_moves l D t cI cL cC gC gE gW gA gT gI gS gM K F S N gH gJ ge gk gf gs gg gr RN a0 x_223 yg a2 a3 M a1.toInt yi.toInt uq (by omega) (by omega) (by omega) (by omega) (by omega) (by omega) (by omega) (by omega) hok (by omega) (by omega) k_a0) (cwV 4 hts gu_X10_passes_X10_moves_221 rfl rfl rfl (by decide +kernel) ⟨Nat.le_of_ble_eq_true rfl, Nat.le_of_ble_eq_true rfl⟩) (tP_V hG hE at_219 rfl) rfl rfl hl.1 rfl (lv_room (Nat.le_of_ble_eq_true rfl)) dX10_passes_116 ⟨Nat.le_of_ble_eq_true rfl, Nat.le_of_ble_eq_true rfl⟩) hS (fun k h => by simp [wr0] at h) (fun z_229 H locs hp_230 hG hS o_231 => ?_)
          have at_219 := va_at.keptC at_219 o_231 k_a0 rfl
          have at_225 := va_at.keptC at_225 o_231 h_175 rfl
          refine lv_lstore (lv' := [(9, .long z_229), (8, .int x_227), (7, .int x_223), (6, .int yi), (5, .int yg), (4, .int x_56), (0, .ref a0), (1, .int a1), (2, .int a2), (3, .int a3)]) hx hb dX10_passes_119 hl (by decide) rfl (fun ls hl => ?_)
          refine lv_pc (pc2 := 121) rfl ?_
          refine lv_iload hx hb dX10_passes_121 (lv_at hl 4 rfl) ?_
          refine lv_pc (pc2 := 123) rfl ?_
          refine lp_gen (fun WW233 hWW233 => ?_)
          have jn233 : ∀ (vj233 : Int32), (0 ≤ vj233.toInt) → (vj233.toInt ≤ 1) → WW233 H locs (F0 m 135 ls (.int vj233 :: .int yg :: [])) := by
            intro vj233 fj233_0 fj233_1
            refine (hWW233 _ _ _).mpr ?_
            refine lv_iadd hx hb dX10_passes_135 ?_
            refine lv_topi (fun x_234 e_235 => ?_)
            have i_x_234 : x_234.toInt = yg.toInt + vj233.toInt := by rw [e_235]; exact (q_add (by omega) (by omega)).trans (by rfl)
            refine lv_istore (lv' := [(5, .int x_234), (9, .long z_229), (8, .int x_227), (7, .int x_223), (6, .int yi), (4, .int x_56), (0, .ref a0), (1, .int a1), (2, .int a2), (3, .int a3)]) hx hb dX10_passes_136 hl (by decide) rfl (fun ls hl => ?_)
            refine lv_aload_n hx hb dX10_passes_138 rfl (lv_at hl 6 rfl) ?_
            refine va_get (D := D) (ci := 9) (v := .ref r_184) (C := RX10) (T := TX10) (N := 36) hx hb hts in10 hown hK (va_one at_219) 0 rfl rfl 10 (by decide) (hts (.fieldLink RX10 28 "RiverModelModel" "m" "[J") (List.mem_of_getElem? (i := 1) rfl)) (fun _ h9 => h9) rfl dX10_passes_139 ?_
            refine lv_sipush (v := 240) hx hb dX10_passes_142 (by decide) ?_
            refine lv_iload hx hb dX10_passes_145 (lv_at hl 4 rfl) ?_
            refine lv_iadd hx hb dX10_passes_147 ?_
            refine lv_topi (fun x_236 e_237 => ?_)
            have i_x_236 : x_236.toInt = 240 + yi.toInt := by rw [e_237]; exact (q_add (by rw [show (240 : Int32).toInt = 240 by decide]; omega) (by rw [show (240 : Int32).toInt = 240 by decide]; omega)).trans (by rw [show (240 : Int32).toInt = 240 by decide])
            refine lv_pc (pc2 := 148) rfl ?_
            refine lv_lload hx hb dX10_passes_148 (lv_at hl 1 rfl) ?_
            obtain ⟨f_238, at_239, h_240⟩ := mF_o47 hG h_185
            have b_241 : vp_in x_236 280 := (q_in (by omega) (by omega))
            refine ty_last (F2 := (mF cI cL cC gC gE gW gA gT gI gS gM K F S N gH gJ ge gk gf gs gg gr RN)) hx hb hK hG hS 1 at_239 (by rw [h_185]; rfl) rfl b_241 (by rw [h_185]; exact ⟨_, rfl, gHr_ne ⟨by omega, by omega⟩ h_240⟩) tFF dX10_passes_150 (fun H locs hG hS at_242 o_243 => ?_)
            have at_219 := va_at.keptK at_219 o_243 h_185 k_a0 rfl
            have at_225 := va_at.keptK at_225 o_243 h_185 h_175 rfl
            refine lv_pc (pc2 := 151) rfl ?_
            refine lp_gen (fun WW244 hWW244 => ?_)
            have jn244 : ∀ (vj244 : Int32), WW244 H locs (F0 m 170 ls (.int vj244 :: [])) := by
              intro vj244
              refine (hWW244 _ _ _).mpr ?_
              refine lv_istore (lv' := [(11, .int vj244), (5, .int x_234), (9, .long z_229), (8, .int x_227), (7, .int x_223), (6, .int yi), (4, .int x_56), (0, .ref a0), (1, .int a1), (2, .int a2), (3, .int a3)]) hx hb dX10_passes_170 hl (by decide) rfl (fun ls hl => ?_)
              refine lv_aload_n hx hb dX10_passes_172 rfl (lv_at hl 7 rfl) ?_
              refine va_get (D := D) (ci := 9) (v := .ref r_184) (C := RX10) (T := TX10) (N := 36) hx hb hts in10 hown hK (va_one at_219) 0 rfl rfl 10 (by decide) (hts (.fieldLink RX10 28 "RiverModelModel" "m" "[J") (List.mem_of_getElem? (i := 1) rfl)) (fun _ h9 => h9) rfl dX10_passes_173 ?_
              refine lv_aload_n hx hb dX10_passes_176 rfl (lv_at hl 7 rfl) ?_
              refine va_get (D := D) (ci := 9) (v := .ref r_176) (C := RX10) (T := TX10) (N := 36) hx hb hts in10 hown hK (va_one at_219) 0 rfl rfl 5 (by decide) (hts (.fieldLink RX10 16 "RiverModelModel" "first" "[I") (List.mem_of_getElem? (i := 8) rfl)) (fun _ h9 => h9) rfl dX10_passes_177 ?_
              refine lv_iload hx hb dX10_passes_180 (lv_at hl 4 rfl) ?_
              refine lv_pc (pc2 := 182) rfl ?_
              have at_245 := mF_o43 hG h_177
              have b_246 : vp_in x_223 120 := (q_in (by omega) (by omega))
              refine va_iald hx hb hK (va_one at_245) 0 0 rfl rfl b_246 dX10_passes_182 ?_
              refine lv_topi (fun x_247 e_248 => ?_)
              have w_x_247 : x_247 = F (M + yi.toInt).toNat := by rw [e_248]; exact congrArg (fun q : Int => F q.toNat) (show x_223.toInt = M + yi.toInt by omega)
              have i_x_247 : x_247.toInt = (F (M + yi.toInt).toNat).toInt := by rw [w_x_247]
              refine lv_dup2_11 hx hb dX10_passes_183 rfl rfl ?_
              obtain ⟨f_249, at_250, h_251⟩ := mF_o47 hG h_185
              have b_252 : vp_in x_247 280 := (q_in (by omega) (by omega))
              refine va_lald hx hb hK (va_one at_250) 0 1 rfl rfl b_252 dX10_passes_184 ?_
              refine lv_topl (fun z_253 e_254 => ?_)
              refine lv_pc (pc2 := 185) rfl ?_
              refine lp_gen (fun WW255 hWW255 => ?_)
              have jn255 : ∀ (vj255 : Int64), WW255 H locs (F0 m 209 ls (.long vj255 :: .long z_253 :: .int x_247 :: .ref r_184 :: [])) := by
                intro vj255
                refine (hWW255 _ _ _).mpr ?_
                refine lv_ladd hx hb dX10_passes_209 ?_
                refine lv_topl (fun z_256 e_257 => ?_)
                have b_258 : vp_in x_247 280 := (q_in (by omega) (by omega))
                refine ty_last (F2 := (mF cI cL cC gC gE gW gA gT gI gS gM K F S N gH gJ ge gk gf gs gg gr RN)) hx hb hK hG hS 1 at_250 (by rw [h_185]; rfl) rfl b_258 (by rw [h_185]; exact ⟨_, rfl, gHr_ne ⟨by omega, by omega⟩ h_251⟩) tFF dX10_passes_210 (fun H locs hG hS at_259 o_260 => ?_)
                have at_219 := va_at.keptK at_219 o_260 h_185 k_a0 rfl
                have at_225 := va_at.keptK at_225 o_260 h_185 h_175 rfl
                have at_245 := va_at.keptK at_245 o_260 h_185 h_177 rfl
                refine lv_aload_n hx hb dX10_passes_211 rfl (lv_at hl 7 rfl) ?_
                refine va_get (D := D) (ci := 9) (v := .ref r_184) (C := RX10) (T := TX10) (N := 36) hx hb hts in10 hown hK (va_one at_219) 0 rfl rfl 10 (by decide) (hts (.fieldLink RX10 28 "RiverModelModel" "m" "[J") (List.mem_of_getElem? (i := 1) rfl)) (fun _ h9 => h9) rfl dX10_passes_212 ?_
                refine lv_sipush (v := 230) hx hb dX10_passes_215 (by decide) ?_
                refine lv_pc (pc2 := 218) rfl ?_
                refine lv_dup2_11 hx hb dX10_passes_218 rfl rfl ?_
                obtain ⟨f_261, at_262, h_263⟩ := mF_o47 hG h_185
                have b_264 : vp_in 230 280 := (q_in (by decide) (by decide))
                refine va_lald hx hb hK (va_one at_262) 0 1 rfl rfl b_264 dX10_passes_219 ?_
                refine lv_topl (fun z_265 e_266 => ?_)
                refine lv_pc (pc2 := 220) rfl ?_
                refine lp_gen (fun WW267 hWW267 => ?_)
                have jn267 : ∀ (vj267 : Int64), WW267 H locs (F0 m 231 ls (.long vj267 :: .long z_265 :: .int 230 :: .ref r_184 :: [])) := by
                  intro vj267
                  refine (hWW267 _ _ _).mpr ?_
                  refine lv_ladd hx hb dX10_passes_231 ?_
                  refine lv_topl (fun z_268 e_269 => ?_)
                  have b_270 : vp_in 230 280 := (q_in (by decide) (by decide))
                  have zi_230 : (230 : Int32).toInt = 230 := by decide
                  refine ty_last (F2 := (mF cI cL cC gC gE gW gA gT gI gS gM K F S N gH gJ ge gk gf gs gg gr RN)) hx hb hK hG hS 1 at_262 (by rw [h_185]; rfl) rfl b_270 (by rw [h_185]; exact ⟨_, rfl, gHr_ne (by decide) h_263⟩) tFF dX10_passes_232 (fun H locs hG hS at_271 o_272 => ?_)
                  have at_219 := va_at.keptK at_219 o_272 h_185 k_a0 rfl
                  have at_225 := va_at.keptK at_225 o_272 h_185 h_175 rfl
                  have at_245 := va_at.keptK at_245 o_272 h_185 h_177 rfl
                  refine lv_aload_n hx hb dX10_passes_233 rfl (lv_at hl 7 rfl) ?_
                  refine va_get (D := D) (ci := 9) (v := .ref r_184) (C := RX10) (T := TX10) (N := 36) hx hb hts in10 hown hK (va_one at_219) 0 rfl rfl 10 (by decide) (hts (.fieldLink RX10 28 "RiverModelModel" "m" "[J") (List.mem_of_getElem? (i := 1) rfl)) (fun _ h9 => h9) rfl dX10_passes_234 ?_
                  refine lv_sipush (v := 228) hx hb dX10_passes_237 (by decide) ?_
                  refine lv_dup2_11 hx hb dX10_passes_240 rfl rfl ?_
                  refine lv_pc (pc2 := 241) rfl ?_
                  obtain ⟨f_273, at_274, h_275⟩ := mF_o47 hG h_185
                  have b_276 : vp_in 228 280 := (q_in (by decide) (by decide))
                  refine va_lald hx hb hK (va_one at_274) 0 1 rfl rfl b_276 dX10_passes_241 ?_
                  refine lv_topl (fun z_277 e_278 => ?_)
                  refine lv_pc (pc2 := 242) rfl ?_
                  refine lp_gen (fun WW279 hWW279 => ?_)
                  have jn279 : ∀ (vj279 : Int64), WW279 H locs (F0 m 255 ls (.long vj279 :: .long z_277 :: .int 228 :: .ref r_184 :: [])) := by
                    intro vj279
                    refine (hWW279 _ _ _).mpr ?_
                    refine lv_ladd hx hb dX10_passes_255 ?_
                    refine lv_topl (fun z_280 e_281 => ?_)
                    have b_282 : vp_in 228 280 := (q_in (by decide) (by decide))
                    have zi_228 : (228 : Int32).toInt = 228 := by decide
                    refine ty_last (F2 := (mF cI cL cC gC gE gW gA gT gI gS gM K F S N gH gJ ge gk gf gs gg gr RN)) hx hb hK hG hS 1 at_274 (by rw [h_185]; rfl) rfl b_282 (by rw [h_185]; exact ⟨_, rfl, gHr_ne (by decide) h_275⟩) tFF dX10_passes_256 (fun H locs hG hS at_283 o_284 => ?_)
                    have at_219 := va_at.keptK at_219 o_284 h_185 k_a0 rfl
                    have at_225 := va_at.keptK at_225 o_284 h_185 h_175 rfl
                    have at_245 := va_at.keptK at_245 o_284 h_185 h_177 rfl
                    refine lv_aload_n hx hb dX10_passes_257 rfl (lv_at hl 7 rfl) ?_
                    refine va_get (D := D) (ci := 9) (v := .ref r_184) (C := RX10) (T := TX10) (N := 36) hx hb hts in10 hown hK (va_one at_219) 0 rfl rfl 10 (by decide) (hts (.fieldLink RX10 28 "RiverModelModel" "m" "[J") (List.mem_of_getElem? (i := 1) rfl)) (fun _ h9 => h9) rfl dX10_passes_258 ?_
                    refine lv_sipush (v := 229) hx hb dX10_passes_261 (by decide) ?_
                    refine lv_dup2_11 hx hb dX10_passes_264 rfl rfl ?_
                    obtain ⟨f_285, at_286, h_287⟩ := mF_o47 hG h_185
                    have b_288 : vp_in 229 280 := (q_in (by decide) (by decide))
                    refine va_lald hx hb hK (va_one at_286) 0 1 rfl rfl b_288 dX10_passes_265 ?_
                    refine lv_topl (fun z_289 e_290 => ?_)
                    refine lv_pc (pc2 := 266) rfl ?_
                    refine lp_gen (fun WW291 hWW291 => ?_)
                    have jn291 : ∀ (vj291 : Int64), WW291 H locs (F0 m 279 ls (.long vj291 :: .long z_289 :: .int 229 :: .ref r_184 :: [])) := by
                      intro vj291
                      refine (hWW291 _ _ _).mpr ?_
                      refine lv_pc (pc2 := 279) rfl ?_
                      refine lv_ladd hx hb dX10_passes_279 ?_
                      refine lv_topl (fun z_292 e_293 => ?_)
                      have b_294 : vp_in 229 280 := (q_in (by decide) (by decide))
                      have zi_229 : (229 : Int32).toInt = 229 := by decide
                      refine ty_last (F2 := (mF cI cL cC gC gE gW gA gT gI gS gM K F S N gH gJ ge gk gf gs gg gr RN)) hx hb hK hG hS 1 at_286 (by rw [h_185]; rfl) rfl b_294 (by rw [h_185]; exact ⟨_, rfl, gHr_ne (by decide) h_287⟩) tFF dX10_passes_280 (fun H locs hG hS at_295 o_296 => ?_)
                      have at_219 := va_at.keptK at_219 o_296 h_185 k_a0 rfl
                      have at_225 := va_at.keptK at_225 o_296 h_185 h_175 rfl
                      have at_245 := va_at.keptK at_245 o_296 h_185 h_177 rfl
                      refine lv_iload hx hb dX10_passes_281 (lv_at hl 3 rfl) ?_
                      refine lv_bipush (v := 116) hx hb dX10_passes_283 (by decide) ?_
                      refine lv_icmp_ne (tgt := 330) hx hb dX10_passes_285 (by decide) (fun c_297 => ?_) (fun c_297 => ?_)
                      · skip
                        have c_297 : x_227.toInt ≠ 116 := q_ne c_297
                        refine lv_aload_n hx hb dX10_passes_330 rfl (lv_at hl 7 rfl) ?_
                        refine va_get (D := D) (ci := 9) (v := .ref r_178) (C := RX10) (T := TX10) (N := 36) hx hb hts in10 hown hK (va_one at_219) 0 rfl rfl 6 (by decide) (hts (.fieldLink RX10 19 "RiverModelModel" "second" "[I") (List.mem_of_getElem? (i := 9) rfl)) (fun _ h9 => h9) rfl dX10_passes_331 ?_
                        refine lv_iload hx hb dX10_passes_334 (lv_at hl 4 rfl) ?_
                        refine lv_pc (pc2 := 336) rfl ?_
                        have at_298 := mF_o44 hG h_179
                        have b_299 : vp_in x_223 120 := (q_in (by omega) (by omega))
                        refine va_iald hx hb hK (va_one at_298) 0 0 rfl rfl b_299 dX10_passes_336 ?_
                        refine lv_topi (fun x_300 e_301 => ?_)
                        have w_x_300 : x_300 = S (M + yi.toInt).toNat := by rw [e_301]; exact congrArg (fun q : Int => S q.toNat) (show x_223.toInt = M + yi.toInt by omega)
                        have i_x_300 : x_300.toInt = (S (M + yi.toInt).toNat).toInt := by rw [w_x_300]
                        refine lv_if_lt (tgt := 357) hx hb dX10_passes_337 (by decide) (fun c_302 => ?_) (fun c_302 => ?_)
                        · skip
                          have c_302 : x_300.toInt < 0 := q_lt c_302
                          obtain ⟨x_303, e_304⟩ : ∃ y : Int32, y = yi + Int32.ofInt 1 := ⟨_, rfl⟩
                          have i_x_303 : x_303.toInt = yi.toInt + 1 := by rw [e_304, show Int32.ofInt 1 = 1 by decide]; exact (q_add (by rw [show (1 : Int32).toInt = 1 by decide]; omega) (by rw [show (1 : Int32).toInt = 1 by decide]; omega)).trans (by rw [show (1 : Int32).toInt = 1 by decide])
                          refine lv_iinc (v := x_303) (lv' := [(6, .int x_303), (11, .int vj244), (5, .int x_234), (9, .long z_229), (8, .int x_227), (7, .int x_223), (4, .int x_56), (0, .ref a0), (1, .int a1), (2, .int a2), (3, .int a3)]) hx hb dX10_passes_357 hl (k := 5) rfl e_304.symm (by decide) rfl (fun ls hl => ?_)
                          refine lv_goto (tgt := 82) hx hb dX10_passes_360 (by decide) ?_
                          exact (hWW59 _ _ _).mp (ih59 x_303 x_234 H locs ls (by omega) (by omega) (by omega) (by omega) (by omega) hG hS (lv_sub hl [0, 2, 6, 7, 8, 9, 10] rfl))
                        · skip
                          have c_302 : 0 ≤ x_300.toInt := q_nlt c_302
                          refine lv_aload_n hx hb dX10_passes_340 rfl (lv_at hl 7 rfl) ?_
                          refine va_get (D := D) (ci := 9) (v := .ref r_184) (C := RX10) (T := TX10) (N := 36) hx hb hts in10 hown hK (va_one at_219) 0 rfl rfl 10 (by decide) (hts (.fieldLink RX10 28 "RiverModelModel" "m" "[J") (List.mem_of_getElem? (i := 1) rfl)) (fun _ h9 => h9) rfl dX10_passes_341 ?_
                          refine lv_aload_n hx hb dX10_passes_344 rfl (lv_at hl 7 rfl) ?_
                          refine va_get (D := D) (ci := 9) (v := .ref r_178) (C := RX10) (T := TX10) (N := 36) hx hb hts in10 hown hK (va_one at_219) 0 rfl rfl 6 (by decide) (hts (.fieldLink RX10 19 "RiverModelModel" "second" "[I") (List.mem_of_getElem? (i := 9) rfl)) (fun _ h9 => h9) rfl dX10_passes_345 ?_
                          refine lv_pc (pc2 := 348) rfl ?_
                          refine lv_iload hx hb dX10_passes_348 (lv_at hl 4 rfl) ?_
                          have b_305 : vp_in x_223 120 := (q_in (by omega) (by omega))
                          refine va_iald hx hb hK (va_one at_298) 0 0 rfl rfl b_305 dX10_passes_350 ?_
                          refine lv_seti (y := x_300) e_301.symm ?_
                          refine lv_dup2_11 hx hb dX10_passes_351 rfl rfl ?_
                          obtain ⟨f_306, at_307, h_308⟩ := mF_o47 hG h_185
                          have b_309 : vp_in x_300 280 := (q_in (by omega) (by omega))
                          refine va_lald hx hb hK (va_one at_307) 0 1 rfl rfl b_309 dX10_passes_352 ?_
                          refine lv_topl (fun z_310 e_311 => ?_)
                          refine lv_lload hx hb dX10_passes_353 (lv_at hl 2 rfl) ?_
                          refine lv_ladd hx hb dX10_passes_355 ?_
                          refine lv_topl (fun z_312 e_313 => ?_)
                          have b_314 : vp_in x_300 280 := (q_in (by omega) (by omega))
                          refine ty_last (F2 := (mF cI cL cC gC gE gW gA gT gI gS gM K F S N gH gJ ge gk gf gs gg gr RN)) hx hb hK hG hS 1 at_307 (by rw [h_185]; rfl) rfl b_314 (by rw [h_185]; exact ⟨_, rfl, gHr_ne ⟨by omega, by omega⟩ h_308⟩) tFF dX10_passes_356 (fun H locs hG hS at_315 o_316 => ?_)
                          have at_219 := va_at.keptK at_219 o_316 h_185 k_a0 rfl
                          have at_225 := va_at.keptK at_225 o_316 h_185 h_175 rfl
                          have at_245 := va_at.keptK at_245 o_316 h_185 h_177 rfl
                          have at_298 := va_at.keptK at_298 o_316 h_185 h_179 rfl
                          obtain ⟨x_317, e_318⟩ : ∃ y : Int32, y = yi + Int32.ofInt 1 := ⟨_, rfl⟩
                          have i_x_317 : x_317.toInt = yi.toInt + 1 := by rw [e_318, show Int32.ofInt 1 = 1 by decide]; exact (q_add (by rw [show (1 : Int32).toInt = 1 by decide]; omega) (by rw [show (1 : Int32).toInt = 1 by decide]; omega)).trans (by rw [show (1 : Int32).toInt = 1 by decide])
                          refine lv_iinc (v := x_317) (lv' := [(6, .int x_317), (11, .int vj244), (5, .int x_234), (9, .long z_229), (8, .int x_227), (7, .int x_223), (4, .int x_56), (0, .ref a0), (1, .int a1), (2, .int a2), (3, .int a3)]) hx hb dX10_passes_357 hl (k := 5) rfl e_318.symm (by decide) rfl (fun ls hl => ?_)
                          refine lv_pc (pc2 := 360) rfl ?_
                          refine lv_goto (tgt := 82) hx hb dX10_passes_360 (by decide) ?_
                          exact (hWW59 _ _ _).mp (ih59 x_317 x_234 H locs ls (by omega) (by omega) (by omega) (by omega) (by omega) hG hS (lv_sub hl [0, 2, 6, 7, 8, 9, 10] rfl))
                      · skip
                        have c_297 : x_227.toInt = 116 := q_eq c_297
                        have o6 := hok.2.2.2.2.2.1 (by omega)
                        refine lv_aload_n hx hb dX10_passes_288 rfl (lv_at hl 7 rfl) ?_
                        refine va_get (D := D) (ci := 9) (v := .ref r_184) (C := RX10) (T := TX10) (N := 36) hx hb hts in10 hown hK (va_one at_219) 0 rfl rfl 10 (by decide) (hts (.fieldLink RX10 28 "RiverModelModel" "m" "[J") (List.mem_of_getElem? (i := 1) rfl)) (fun _ h9 => h9) rfl dX10_passes_289 ?_
                        refine lv_bipush (v := 16) hx hb dX10_passes_292 (by decide) ?_
                        refine lv_bipush (v := 13) hx hb dX10_passes_294 (by decide) ?_
                        refine lv_aload_n hx hb dX10_passes_296 rfl (lv_at hl 7 rfl) ?_
                        refine va_get (D := D) (ci := 9) (v := .ref r_178) (C := RX10) (T := TX10) (N := 36) hx hb hts in10 hown hK (va_one at_219) 0 rfl rfl 6 (by decide) (hts (.fieldLink RX10 19 "RiverModelModel" "second" "[I") (List.mem_of_getElem? (i := 9) rfl)) (fun _ h9 => h9) rfl dX10_passes_297 ?_
                        refine lv_iload hx hb dX10_passes_300 (lv_at hl 4 rfl) ?_
                        refine lv_pc (pc2 := 302) rfl ?_
                        have at_319 := mF_o44 hG h_179
                        have b_320 : vp_in x_223 120 := (q_in (by omega) (by omega))
                        refine va_iald hx hb hK (va_one at_319) 0 0 rfl rfl b_320 dX10_passes_302 ?_
                        refine lv_topi (fun x_321 e_322 => ?_)
                        have w_x_321 : x_321 = S (M + yi.toInt).toNat := by rw [e_322]; exact congrArg (fun q : Int => S q.toNat) (show x_223.toInt = M + yi.toInt by omega)
                        have i_x_321 : x_321.toInt = (S (M + yi.toInt).toNat).toInt := by rw [w_x_321]
                        refine lv_imul hx hb dX10_passes_303 ?_
                        refine lv_topi (fun x_323 e_324 => ?_)
                        have i_x_323 : x_323.toInt = 13 * x_321.toInt := by rw [e_324]; exact (q_mul (by rw [show (13 : Int32).toInt = 13 by decide]; omega) (by rw [show (13 : Int32).toInt = 13 by decide]; omega)).trans (by rw [show (13 : Int32).toInt = 13 by decide])
                        refine lv_iadd hx hb dX10_passes_304 ?_
                        refine lv_topi (fun x_325 e_326 => ?_)
                        have i_x_325 : x_325.toInt = 16 + x_323.toInt := by rw [e_326]; exact (q_add (by rw [show (16 : Int32).toInt = 16 by decide]; omega) (by rw [show (16 : Int32).toInt = 16 by decide]; omega)).trans (by rw [show (16 : Int32).toInt = 16 by decide])
                        refine lv_iload hx hb dX10_passes_305 (lv_at hl 6 rfl) ?_
                        refine lv_aload_n hx hb dX10_passes_307 rfl (lv_at hl 7 rfl) ?_
                        refine va_get (D := D) (ci := 9) (v := .ref r_180) (C := RX10) (T := TX10) (N := 36) hx hb hts in10 hown hK (va_one at_219) 0 rfl rfl 7 (by decide) (hts (.fieldLink RX10 22 "RiverModelModel" "number" "[I") (List.mem_of_getElem? (i := 10) rfl)) (fun _ h9 => h9) rfl dX10_passes_308 ?_
                        refine lv_iconst (v := 3) hx hb dX10_passes_311 (by decide) ?_
                        refine lv_iload hx hb dX10_passes_312 (lv_at hl 4 rfl) ?_
                        refine lv_pc (pc2 := 314) rfl ?_
                        refine lv_imul hx hb dX10_passes_314 ?_
                        refine lv_topi (fun x_327 e_328 => ?_)
                        have i_x_327 : x_327.toInt = 3 * x_223.toInt := by rw [e_328]; exact (q_mul (by rw [show (3 : Int32).toInt = 3 by decide]; omega) (by rw [show (3 : Int32).toInt = 3 by decide]; omega)).trans (by rw [show (3 : Int32).toInt = 3 by decide])
                        have at_329 := mF_o45 hG h_181
                        have b_330 : vp_in x_327 360 := (q_in (by omega) (by omega))
                        refine va_iald hx hb hK (va_one at_329) 0 0 rfl rfl b_330 dX10_passes_315 ?_
                        refine lv_topi (fun x_331 e_332 => ?_)
                        have w_x_331 : x_331 = N (3 * (M + yi.toInt)).toNat := by rw [e_332]; exact congrArg (fun q : Int => N q.toNat) (show x_327.toInt = 3 * (M + yi.toInt) by omega)
                        have i_x_331 : x_331.toInt = (N (3 * (M + yi.toInt)).toNat).toInt := by rw [w_x_331]
                        refine lv_iadd hx hb dX10_passes_316 ?_
                        refine lv_topi (fun x_333 e_334 => ?_)
                        have i_x_333 : x_333.toInt = x_56.toInt + x_331.toInt := by rw [e_334]; exact (q_add (by omega) (by omega)).trans (by rfl)
                        refine lv_bipush (v := 13) hx hb dX10_passes_317 (by decide) ?_
                        refine lv_irem hx hb dX10_passes_319 (by decide) ?_
                        refine lv_topi (fun x_335 e_336 => ?_)
                        have i_x_335 : x_335.toInt = x_333.toInt % 13 := by rw [e_336]; exact q_remE (n := 13) rfl (by decide) (by omega)
                        refine lv_iadd hx hb dX10_passes_320 ?_
                        refine lv_topi (fun x_337 e_338 => ?_)
                        have i_x_337 : x_337.toInt = x_325.toInt + x_335.toInt := by rw [e_338]; exact (q_add (by omega) (by omega)).trans (by rfl)
                        refine lv_dup2_11 hx hb dX10_passes_321 rfl rfl ?_
                        obtain ⟨f_339, at_340, h_341⟩ := mF_o47 hG h_185
                        have b_342 : vp_in x_337 280 := (q_in (by omega) (by omega))
                        refine va_lald hx hb hK (va_one at_340) 0 1 rfl rfl b_342 dX10_passes_322 ?_
                        refine lv_topl (fun z_343 e_344 => ?_)
                        refine lv_pc (pc2 := 323) rfl ?_
                        refine lv_lload hx hb dX10_passes_323 (lv_at hl 2 rfl) ?_
                        refine lv_ladd hx hb dX10_passes_325 ?_
                        refine lv_topl (fun z_345 e_346 => ?_)
                        have b_347 : vp_in x_337 280 := (q_in (by omega) (by omega))
                        refine ty_last (F2 := (mF cI cL cC gC gE gW gA gT gI gS gM K F S N gH gJ ge gk gf gs gg gr RN)) hx hb hK hG hS 1 at_340 (by rw [h_185]; rfl) rfl b_347 (by rw [h_185]; exact ⟨_, rfl, gHr_ne ⟨by omega, by omega⟩ h_341⟩) tFF dX10_passes_326 (fun H locs hG hS at_348 o_349 => ?_)
                        have at_219 := va_at.keptK at_219 o_349 h_185 k_a0 rfl
                        have at_225 := va_at.keptK at_225 o_349 h_185 h_175 rfl
                        have at_245 := va_at.keptK at_245 o_349 h_185 h_177 rfl
                        have at_319 := va_at.keptK at_319 o_349 h_185 h_179 rfl
                        have at_329 := va_at.keptK at_329 o_349 h_185 h_181 rfl
                        refine lv_goto (tgt := 357) hx hb dX10_passes_327 (by decide) ?_
                        obtain ⟨x_350, e_351⟩ : ∃ y : Int32, y = yi + Int32.ofInt 1 := ⟨_, rfl⟩
                        have i_x_350 : x_350.toInt = yi.toInt + 1 := by rw [e_351, show Int32.ofInt 1 = 1 by decide]; exact (q_add (by rw [show (1 : Int32).toInt = 1 by decide]; omega) (by rw [show (1 : Int32).toInt = 1 by decide]; omega)).trans (by rw [show (1 : Int32).toInt = 1 by decide])
                        refine lv_iinc (v := x_350) (lv' := [(6, .int x_350), (11, .int vj244), (5, .int x_234), (9, .long z_229), (8, .int x_227), (7, .int x_223), (4, .int x_56), (0, .ref a0), (1, .int a1), (2, .int a2), (3, .int a3)]) hx hb dX10_passes_357 hl (k := 5) rfl e_351.symm (by decide) rfl (fun ls hl => ?_)
                        refine lv_goto (tgt := 82) hx hb dX10_passes_360 (by decide) ?_
                        exact (hWW59 _ _ _).mp (ih59 x_350 x_234 H locs ls (by omega) (by omega) (by omega) (by omega) (by omega) hG hS (lv_sub hl [0, 2, 6, 7, 8, 9, 10] rfl))
                    refine (hWW291 _ _ _).mpr ?_
                    refine lv_iload hx hb dX10_passes_266 (lv_at hl 3 rfl) ?_
                    refine lv_bipush (v := 122) hx hb dX10_passes_268 (by decide) ?_
                    refine lv_pc (pc2 := 270) rfl ?_
                    refine lv_icmp_ne (tgt := 278) hx hb dX10_passes_270 (by decide) (fun c_352 => ?_) (fun c_352 => ?_)
                    · skip
                      have c_352 : x_227.toInt ≠ 122 := q_ne c_352
                      refine lv_lconst (v := 0) hx hb dX10_passes_278 (by decide) ?_
                      have zl_0 : (0 : Int64).toInt = 0 := by decide
                      exact (hWW291 _ _ _).mp (jn291 0)
                    · skip
                      have c_352 : x_227.toInt = 122 := q_eq c_352
                      refine lv_lload hx hb dX10_passes_273 (lv_at hl 2 rfl) ?_
                      refine lv_goto (tgt := 279) hx hb dX10_passes_275 (by decide) ?_
                      exact (hWW291 _ _ _).mp (jn291 z_229)
                  refine (hWW279 _ _ _).mpr ?_
                  refine lv_iload hx hb dX10_passes_242 (lv_at hl 3 rfl) ?_
                  refine lv_bipush (v := 101) hx hb dX10_passes_244 (by decide) ?_
                  refine lv_icmp_ne (tgt := 254) hx hb dX10_passes_246 (by decide) (fun c_353 => ?_) (fun c_353 => ?_)
                  · skip
                    have c_353 : x_227.toInt ≠ 101 := q_ne c_353
                    refine lv_lconst (v := 0) hx hb dX10_passes_254 (by decide) ?_
                    have zl_0 : (0 : Int64).toInt = 0 := by decide
                    exact (hWW279 _ _ _).mp (jn279 0)
                  · skip
                    have c_353 : x_227.toInt = 101 := q_eq c_353
                    refine lv_pc (pc2 := 249) rfl ?_
                    refine lv_lload hx hb dX10_passes_249 (lv_at hl 2 rfl) ?_
                    refine lv_goto (tgt := 255) hx hb dX10_passes_251 (by decide) ?_
                    exact (hWW279 _ _ _).mp (jn279 z_229)
                refine (hWW267 _ _ _).mpr ?_
                refine lv_iload hx hb dX10_passes_220 (lv_at hl 0 rfl) ?_
                refine lv_if_eq (tgt := 230) hx hb dX10_passes_222 (by decide) (fun c_354 => ?_) (fun c_354 => ?_)
                · skip
                  have c_354 : vj244.toInt = 0 := q_eq c_354
                  refine lv_lconst (v := 0) hx hb dX10_passes_230 (by decide) ?_
                  have zl_0 : (0 : Int64).toInt = 0 := by decide
                  exact (hWW267 _ _ _).mp (jn267 0)
                · skip
                  have c_354 : vj244.toInt ≠ 0 := q_ne c_354
                  refine lv_lload hx hb dX10_passes_225 (lv_at hl 2 rfl) ?_
                  refine lv_goto (tgt := 231) hx hb dX10_passes_227 (by decide) ?_
                  exact (hWW267 _ _ _).mp (jn267 z_229)
              refine (hWW255 _ _ _).mpr ?_
              refine lv_iload hx hb dX10_passes_185 (lv_at hl 0 rfl) ?_
              refine lv_pc (pc2 := 187) rfl ?_
              refine lv_if_eq (tgt := 195) hx hb dX10_passes_187 (by decide) (fun c_355 => ?_) (fun c_355 => ?_)
              · skip
                have c_355 : vj244.toInt = 0 := q_eq c_355
                refine lv_iload hx hb dX10_passes_195 (lv_at hl 3 rfl) ?_
                refine lv_bipush (v := 115) hx hb dX10_passes_197 (by decide) ?_
                refine lv_icmp_ne (tgt := 206) hx hb dX10_passes_199 (by decide) (fun c_356 => ?_) (fun c_356 => ?_)
                · skip
                  have c_356 : x_227.toInt ≠ 115 := q_ne c_356
                  refine lv_lload hx hb dX10_passes_206 (lv_at hl 2 rfl) ?_
                  refine lv_lneg hx hb dX10_passes_208 ?_
                  refine lv_topl (fun z_357 e_358 => ?_)
                  exact (hWW255 _ _ _).mp (jn255 z_357)
                · skip
                  have c_356 : x_227.toInt = 115 := q_eq c_356
                  refine lv_lconst (v := 0) hx hb dX10_passes_202 (by decide) ?_
                  refine lv_goto (tgt := 209) hx hb dX10_passes_203 (by decide) ?_
                  have zl_0 : (0 : Int64).toInt = 0 := by decide
                  exact (hWW255 _ _ _).mp (jn255 0)
              · skip
                have c_355 : vj244.toInt ≠ 0 := q_ne c_355
                refine lv_pc (pc2 := 190) rfl ?_
                refine lv_lload hx hb dX10_passes_190 (lv_at hl 2 rfl) ?_
                refine lv_goto (tgt := 209) hx hb dX10_passes_192 (by decide) ?_
                exact (hWW255 _ _ _).mp (jn255 z_229)
            refine (hWW244 _ _ _).mpr ?_
            refine lv_iload hx hb dX10_passes_151 (lv_at hl 2 rfl) ?_
            refine lv_bipush (v := 114) hx hb dX10_passes_153 (by decide) ?_
            refine lv_icmp_eq (tgt := 165) hx hb dX10_passes_155 (by decide) (fun c_359 => ?_) (fun c_359 => ?_)
            · skip
              have c_359 : x_227.toInt = 114 := q_eq c_359
              refine lv_iconst (v := 1) hx hb dX10_passes_165 (by decide) ?_
              refine lv_goto (tgt := 170) hx hb dX10_passes_166 (by decide) ?_
              have zi_1 : (1 : Int32).toInt = 1 := by decide
              exact (hWW244 _ _ _).mp (jn244 1)
            · skip
              have c_359 : x_227.toInt ≠ 114 := q_ne c_359
              refine lv_iload hx hb dX10_passes_158 (lv_at hl 2 rfl) ?_
              refine lv_pc (pc2 := 160) rfl ?_
              refine lv_bipush (v := 110) hx hb dX10_passes_160 (by decide) ?_
              refine lv_icmp_ne (tgt := 169) hx hb dX10_passes_162 (by decide) (fun c_360 => ?_) (fun c_360 => ?_)
              · skip
                have c_360 : x_227.toInt ≠ 110 := q_ne c_360
                refine lv_iconst (v := 0) hx hb dX10_passes_169 (by decide) ?_
                have zi_0 : (0 : Int32).toInt = 0 := by decide
                exact (hWW244 _ _ _).mp (jn244 0)
              · skip
                have c_360 : x_227.toInt = 110 := q_eq c_360
                refine lv_iconst (v := 1) hx hb dX10_passes_165 (by decide) ?_
                refine lv_goto (tgt := 170) hx hb dX10_passes_166 (by decide) ?_
                have zi_1 : (1 : Int32).toInt = 1 := by decide
                exact (hWW244 _ _ _).mp (jn244 1)
          refine (hWW233 _ _ _).mpr ?_
          refine lv_iload hx hb dX10_passes_123 (lv_at hl 1 rfl) ?_
          refine lv_bipush (v := 103) hx hb dX10_passes_125 (by decide) ?_
          refine lv_icmp_ne (tgt := 134) hx hb dX10_passes_127 (by decide) (fun c_361 => ?_) (fun c_361 => ?_)
          · skip
            have c_361 : x_227.toInt ≠ 103 := q_ne c_361
            refine lv_pc (pc2 := 134) rfl ?_
            refine lv_iconst (v := 0) hx hb dX10_passes_134 (by decide) ?_
            have zi_0 : (0 : Int32).toInt = 0 := by decide
            exact (hWW233 _ _ _).mp (jn233 0 (by omega) (by omega))
          · skip
            have c_361 : x_227.toInt = 103 := q_eq c_361
            refine lv_iconst (v := 1) hx hb dX10_passes_130 (by decide) ?_
            refine lv_goto (tgt := 135) hx hb dX10_passes_131 (by decide) ?_
            have zi_1 : (1 : Int32).toInt = 1 := by decide
            exact (hWW233 _ _ _).mp (jn233 1 (by omega) (by omega))
    have zi_0 : (0 : Int32).toInt = 0 := by decide
    exact lp59 (gI.toInt - (0 : Int32).toInt : Int).toNat 0 0 H locs ls (by omega) (by omega) (by omega) (by omega) (by omega) hG hS (lv_sub hl [0, 1, 2, 3, 4, 5, 6] rfl)
  have lp58 : ∀ (kk58 : Nat) (yk : Int32) (H1 : Heap) (locs1 : List Loc) (ls1 : Array Slot), 16 - yk.toInt ≤ (kk58 : Int) → (0 ≤ yk.toInt) → (yk.toInt ≤ 16) → tG D (mF cI cL cC gC gE gW gA gT gI gS gM K F S N gH gJ ge gk gf gs gg gr RN) t H1 → tF t wm s.heap H1 locs1 → lv_has ls1 12 [(5, .int yk), (4, .int x_56), (0, .ref a0), (1, .int a1), (2, .int a2), (3, .int a3)] → WW58 H1 locs1 (F0 m 14 ls1 []) := by
    intro kk58
    induction kk58 with
    | zero =>
      intro yk H locs ls hk58 v58_0 v58_1 hG hS hl
      refine (hWW58 _ _ _).mpr ?_
      refine lv_iload hx hb dX10_passes_14 (lv_at hl 0 rfl) ?_
      refine lv_bipush (v := 16) hx hb dX10_passes_16 (by decide) ?_
      refine lv_icmp_ge (tgt := 76) hx hb dX10_passes_18 (by decide) (fun c_362 => ?_) (fun c_362 => ?_)
      · skip
        have c_362 : 16 ≤ yk.toInt := q_le c_362
        exact (hWW58 _ _ _).mp (kx58 yk H locs ls v58_0 v58_1 hG hS (lv_sub hl [0, 1, 2, 3, 4, 5] rfl))
      · skip
        have c_362 : yk.toInt < 16 := q_nle c_362
        exfalso; omega
    | succ kk58 ih58 =>
      intro yk H locs ls hk58 v58_0 v58_1 hG hS hl
      refine (hWW58 _ _ _).mpr ?_
      refine lv_iload hx hb dX10_passes_14 (lv_at hl 0 rfl) ?_
      refine lv_bipush (v := 16) hx hb dX10_passes_16 (by decide) ?_
      refine lv_pc (pc2 := 18) rfl ?_
      refine lv_icmp_ge (tgt := 76) hx hb dX10_passes_18 (by decide) (fun c_363 => ?_) (fun c_363 => ?_)
      · skip
        have c_363 : 16 ≤ yk.toInt := q_le c_363
        exact (hWW58 _ _ _).mp (kx58 yk H locs ls v58_0 v58_1 hG hS (lv_sub hl [0, 1, 2, 3, 4, 5] rfl))
      · skip
        have c_363 : yk.toInt < 16 := q_nle c_363
        refine lv_aload_n hx hb dX10_passes_21 rfl (lv_at hl 2 rfl) ?_
        obtain ⟨r_364, v_366, r_367, r_369, r_371, r_373, r_375, r_377, r_379, r_381, r_383, r_385, r_387, r_389, r_391, r_393, r_395, r_397, r_399, r_401, r_403, r_405, r_407, v_409, r_410, at_412, h_365, h_368, h_370, h_372, h_374, h_376, h_378, h_380, h_382, h_384, h_386, h_388, h_390, h_392, h_394, h_396, h_398, h_400, h_402, h_404, h_406, h_408, h_411⟩ := mF_o40 hG k_a0
        refine va_get (D := D) (ci := 9) (v := .ref r_377) (C := RX10) (T := TX10) (N := 36) hx hb hts in10 hown hK (va_one at_412) 0 rfl rfl 10 (by decide) (hts (.fieldLink RX10 28 "RiverModelModel" "m" "[J") (List.mem_of_getElem? (i := 1) rfl)) (fun _ h9 => h9) rfl dX10_passes_22 ?_
        refine lv_iload hx hb dX10_passes_25 (lv_at hl 0 rfl) ?_
        refine lv_dup2_11 hx hb dX10_passes_27 rfl rfl ?_
        obtain ⟨f_413, at_414, h_415⟩ := mF_o47 hG h_378
        have b_416 : vp_in yk 280 := (q_in (by omega) (by omega))
        refine va_lald hx hb hK (va_one at_414) 0 1 rfl rfl b_416 dX10_passes_28 ?_
        refine lv_topl (fun z_417 e_418 => ?_)
        refine lv_aload_n hx hb dX10_passes_29 rfl (lv_at hl 2 rfl) ?_
        refine va_get (D := D) (ci := 9) (v := .ref r_377) (C := RX10) (T := TX10) (N := 36) hx hb hts in10 hown hK (va_one at_412) 0 rfl rfl 10 (by decide) (hts (.fieldLink RX10 28 "RiverModelModel" "m" "[J") (List.mem_of_getElem? (i := 1) rfl)) (fun _ h9 => h9) rfl dX10_passes_30 ?_
        refine lv_pc (pc2 := 33) rfl ?_
        refine lv_bipush (v := 16) hx hb dX10_passes_33 (by decide) ?_
        refine lv_bipush (v := 13) hx hb dX10_passes_35 (by decide) ?_
        refine lv_iload hx hb dX10_passes_37 (lv_at hl 0 rfl) ?_
        refine lv_imul hx hb dX10_passes_39 ?_
        refine lv_topi (fun x_419 e_420 => ?_)
        have i_x_419 : x_419.toInt = 13 * yk.toInt := by rw [e_420]; exact (q_mul (by rw [show (13 : Int32).toInt = 13 by decide]; omega) (by rw [show (13 : Int32).toInt = 13 by decide]; omega)).trans (by rw [show (13 : Int32).toInt = 13 by decide])
        refine lv_iadd hx hb dX10_passes_40 ?_
        refine lv_topi (fun x_421 e_422 => ?_)
        have i_x_421 : x_421.toInt = 16 + x_419.toInt := by rw [e_422]; exact (q_add (by rw [show (16 : Int32).toInt = 16 by decide]; omega) (by rw [show (16 : Int32).toInt = 16 by decide]; omega)).trans (by rw [show (16 : Int32).toInt = 16 by decide])
        refine lv_iload hx hb dX10_passes_41 (lv_at hl 1 rfl) ?_
        refine lv_bipush (v := 13) hx hb dX10_passes_43 (by decide) ?_
        refine lv_irem hx hb dX10_passes_45 (by decide) ?_
        refine lv_topi (fun x_423 e_424 => ?_)
        have i_x_423 : x_423.toInt = x_56.toInt % 13 := by rw [e_424]; exact q_remE (n := 13) rfl (by decide) (by omega)
        refine lv_pc (pc2 := 46) rfl ?_
        refine lv_iadd hx hb dX10_passes_46 ?_
        refine lv_topi (fun x_425 e_426 => ?_)
        have i_x_425 : x_425.toInt = x_421.toInt + x_423.toInt := by rw [e_426]; exact (q_add (by omega) (by omega)).trans (by rfl)
        have b_427 : vp_in x_425 280 := (q_in (by omega) (by omega))
        refine va_lald hx hb hK (va_one at_414) 0 1 rfl rfl b_427 dX10_passes_47 ?_
        refine lv_topl (fun z_428 e_429 => ?_)
        refine lv_ladd hx hb dX10_passes_48 ?_
        refine lv_topl (fun z_430 e_431 => ?_)
        have b_432 : vp_in yk 280 := (q_in (by omega) (by omega))
        refine ty_last (F2 := (mF cI cL cC gC gE gW gA gT gI gS gM K F S N gH gJ ge gk gf gs gg gr RN)) hx hb hK hG hS 1 at_414 (by rw [h_378]; rfl) rfl b_432 (by rw [h_378]; exact ⟨_, rfl, gHr_ne ⟨by omega, by omega⟩ h_415⟩) tFF dX10_passes_49 (fun H locs hG hS at_433 o_434 => ?_)
        have at_412 := va_at.keptK at_412 o_434 h_378 k_a0 rfl
        refine lv_aload_n hx hb dX10_passes_50 rfl (lv_at hl 2 rfl) ?_
        refine va_get (D := D) (ci := 9) (v := .ref r_377) (C := RX10) (T := TX10) (N := 36) hx hb hts in10 hown hK (va_one at_412) 0 rfl rfl 10 (by decide) (hts (.fieldLink RX10 28 "RiverModelModel" "m" "[J") (List.mem_of_getElem? (i := 1) rfl)) (fun _ h9 => h9) rfl dX10_passes_51 ?_
        refine lv_bipush (v := 16) hx hb dX10_passes_54 (by decide) ?_
        refine lv_bipush (v := 13) hx hb dX10_passes_56 (by decide) ?_
        refine lv_pc (pc2 := 58) rfl ?_
        refine lv_iload hx hb dX10_passes_58 (lv_at hl 0 rfl) ?_
        refine lv_imul hx hb dX10_passes_60 ?_
        refine lv_topi (fun x_435 e_436 => ?_)
        have i_x_435 : x_435.toInt = 13 * yk.toInt := by rw [e_436]; exact (q_mul (by rw [show (13 : Int32).toInt = 13 by decide]; omega) (by rw [show (13 : Int32).toInt = 13 by decide]; omega)).trans (by rw [show (13 : Int32).toInt = 13 by decide])
        refine lv_iadd hx hb dX10_passes_61 ?_
        refine lv_topi (fun x_437 e_438 => ?_)
        have i_x_437 : x_437.toInt = 16 + x_435.toInt := by rw [e_438]; exact (q_add (by rw [show (16 : Int32).toInt = 16 by decide]; omega) (by rw [show (16 : Int32).toInt = 16 by decide]; omega)).trans (by rw [show (16 : Int32).toInt = 16 by decide])
        refine lv_iload hx hb dX10_passes_62 (lv_at hl 1 rfl) ?_
        refine lv_bipush (v := 13) hx hb dX10_passes_64 (by decide) ?_
        refine lv_irem hx hb dX10_passes_66 (by decide) ?_
        refine lv_topi (fun x_439 e_440 => ?_)
        have i_x_439 : x_439.toInt = x_56.toInt % 13 := by rw [e_440]; exact q_remE (n := 13) rfl (by decide) (by omega)
        refine lv_iadd hx hb dX10_passes_67 ?_
        refine lv_topi (fun x_441 e_442 => ?_)
        have i_x_441 : x_441.toInt = x_437.toInt + x_439.toInt := by rw [e_442]; exact (q_add (by omega) (by omega)).trans (by rfl)
        refine lv_lconst (v := 0) hx hb dX10_passes_68 (by decide) ?_
        refine lv_pc (pc2 := 69) rfl ?_
        obtain ⟨f_443, at_444, h_445⟩ := mF_o47 hG h_378
        have b_446 : vp_in x_441 280 := (q_in (by omega) (by omega))
        have zl_0 : (0 : Int64).toInt = 0 := by decide
        refine ty_last (F2 := (mF cI cL cC gC gE gW gA gT gI gS gM K F S N gH gJ ge gk gf gs gg gr RN)) hx hb hK hG hS 1 at_444 (by rw [h_378]; rfl) rfl b_446 (by rw [h_378]; exact ⟨_, rfl, gHr_ne ⟨by omega, by omega⟩ h_445⟩) tFF dX10_passes_69 (fun H locs hG hS at_447 o_448 => ?_)
        have at_412 := va_at.keptK at_412 o_448 h_378 k_a0 rfl
        obtain ⟨x_449, e_450⟩ : ∃ y : Int32, y = yk + Int32.ofInt 1 := ⟨_, rfl⟩
        have i_x_449 : x_449.toInt = yk.toInt + 1 := by rw [e_450, show Int32.ofInt 1 = 1 by decide]; exact (q_add (by rw [show (1 : Int32).toInt = 1 by decide]; omega) (by rw [show (1 : Int32).toInt = 1 by decide]; omega)).trans (by rw [show (1 : Int32).toInt = 1 by decide])
        refine lv_iinc (v := x_449) (lv' := [(5, .int x_449), (4, .int x_56), (0, .ref a0), (1, .int a1), (2, .int a2), (3, .int a3)]) hx hb dX10_passes_70 hl (k := 0) rfl e_450.symm (by decide) rfl (fun ls hl => ?_)
        refine lv_goto (tgt := 14) hx hb dX10_passes_73 (by decide) ?_
        exact (hWW58 _ _ _).mp (ih58 x_449 H locs ls (by omega) (by omega) (by omega) hG hS (lv_sub hl [0, 1, 2, 3, 4, 5] rfl))
  have zi_0 : (0 : Int32).toInt = 0 := by decide
  exact lp58 (16 - (0 : Int32).toInt : Int).toNat 0 H locs ls (by omega) (by omega) (by omega) hG hS (lv_sub hl [0, 1, 2, 3, 4, 5] rfl)

def uX10_goes : List Cond := .code yX10_goes cX10_goes 4 none :: ([.fieldLink RX10 28 "RiverModelModel" "m" "[J", .fieldLink RX10 25 "RiverModelModel" "weather" "[I", .methodLink RX10 225 yX10_passes, .instanceMethod yX10_passes, .selects RX10 yX10_passes yX10_passes, .initialized RX10, .code yX10_passes cX10_passes 12 none, .fieldLink RX10 163 "RiverModelModel" "items" "I", .fieldLink RX10 13 "RiverModelModel" "kind" "[I", .methodLink RX10 221 yX10_moves, .instanceMethod yX10_moves, .selects RX10 yX10_moves yX10_moves, .fieldLink RX10 16 "RiverModelModel" "first" "[I", .fieldLink RX10 19 "RiverModelModel" "second" "[I", .fieldLink RX10 22 "RiverModelModel" "number" "[I", .code yX10_moves cX10_moves 8 (some .long), .constantLong RX10 219 (10), .methodLink RX10 215 yX10_most, .instanceMethod yX10_most, .selects RX10 yX10_most yX10_most, .constantLong RX10 107 (100), .methodLink RX10 211 yX10_capacity, .instanceMethod yX10_capacity, .selects RX10 yX10_capacity yX10_capacity, .code yX10_most cX10_most 4 (some .long), .code yX10_capacity cX10_capacity 3 (some .long), .methodLink RX10 166 yX10_storeAt, .instanceMethod yX10_storeAt, .selects RX10 yX10_storeAt yX10_storeAt, .code yX10_storeAt cX10_storeAt 5 (some .int)] ++ wsX100)
set_option maxRecDepth 20000 in
theorem gu_X10_goes_X10_passes_225 : GoodIn uX10_goes (wsV RX10 225 RX10 yX10_passes uX10_passes) := goodIn_r _ [3, 4, 5, 6, 7, 1, 8, 9, 10, 11, 12, 6, 13, 14, 15, 16, 17, 18, 19, 20, 21, 22, 23, 24, 25, 26, 27, 28, 29, 30, 31, 32, 33, 34, 35, 36, 37, 38, 39, 40, 41, 42, 43, 44, 45, 46, 47, 48, 49, 50, 51, 52, 53, 54, 55, 56, 57, 58, 59, 60, 61, 62, 63, 64, 65, 66] rfl (by decide +kernel)
set_option maxHeartbeats 4000000 in
set_option maxRecDepth 100000 in
theorem m_X10_goes (l : Launch) (D : va_G) (t : Nat → Nat) (cI cL cC : ClassId) (gC : Int32) (gE : Int32) (gW : Nat → Int32) (gA : Nat → Int32) (gT : Nat → Int32) (gI : Int32) (gS : Int32) (gM : Int32) (K : Nat → Int32) (F : Nat → Int32) (S : Nat → Int32) (N : Nat → Int32) (gH : Int) (gJ : Int) (ge : Int32) (gk : Int32) (gf : Int32) (gs : Int32) (gg : Int32) (gr : Int32) (RN : Nat → Int32) (a0 : Nat) (a1 : Int32) (a2 : Int32) (M : Int) (uq : ∀ b c : Nat, t b = t c → t b ≠ 0 → b = c) (hMb : 40 * a1.toInt = M) (hM0 : 0 ≤ a1.toInt) (hM2 : a1.toInt ≤ 2) (hI0 : 0 ≤ gI.toInt) (hI4 : gI.toInt ≤ 40) (hO : okM K F S N M gI.toInt) (hH0 : 0 ≤ gH) (hH5 : gH ≤ 95) (hw0 : 0 ≤ a2.toInt) (hw1 : a2.toInt ≤ 1) (k_a0 : t a0 = 40) : tMx (Z := (Int)) l yX10_goes uX10_goes 4 104 D (mF cI cL cC gC gE gW gA gT gI gS gM K F S N gH gJ ge gk gf gs gg gr RN) (fun z => (mF cI cL cC gC gE gW gA gT gI gS gM K F S N z gJ ge gk gf gs gg gr RN)) t cI cL cC [.ref a0, .int a1, .int a2] wm (xV (fun (z : (Int)) => z = gH + 1)) := by
  refine tMx.ofW (cc := cX10_goes) (maxL := 4) (ret := none) (by decide) rfl (Nat.le_of_ble_eq_true rfl) ?_
  intro p e s m below meth c hx hb hr hml hown hts hlk H locs hG hK hE hS ls hl
  have hl : lv_has ls 4 [(0, .ref a0), (1, .int a1), (2, .int a2)] := hl
  have in10 : ∀ w ∈ wsX100, w ∈ uX10_goes := fun w h => List.mem_cons_of_mem _ (List.mem_append_right _ h)
  refine lv_aload_n hx hb dX10_goes_0 rfl (lv_at hl 0 rfl) ?_
  obtain ⟨r_1, v_3, r_4, r_6, r_8, r_10, r_12, r_14, r_16, r_18, r_20, r_22, r_24, r_26, r_28, r_30, r_32, r_34, r_36, r_38, r_40, r_42, r_44, v_46, r_47, at_49, h_2, h_5, h_7, h_9, h_11, h_13, h_15, h_17, h_19, h_21, h_23, h_25, h_27, h_29, h_31, h_33, h_35, h_37, h_39, h_41, h_43, h_45, h_48⟩ := mF_o40 hG k_a0
  refine va_get (D := D) (ci := 9) (v := .ref r_14) (C := RX10) (T := TX10) (N := 36) hx hb hts in10 hown hK (va_one at_49) 0 rfl rfl 10 (by decide) (hts (.fieldLink RX10 28 "RiverModelModel" "m" "[J") (List.mem_of_getElem? (i := 1) rfl)) (fun _ h9 => h9) rfl dX10_goes_1 ?_
  refine lv_sipush (v := 231) hx hb dX10_goes_4 (by decide) ?_
  obtain ⟨f_50, at_51, h_52⟩ := mF_o47 hG h_15
  have b_53 : vp_in 231 280 := (q_in (by decide) (by decide))
  refine va_lald hx hb hK (va_one at_51) 0 1 rfl rfl b_53 dX10_goes_7 ?_
  refine lv_topl (fun z_54 e_55 => ?_)
  have i_z_54 : z_54.toInt = gH := by rw [e_55]; exact gHr_ld h_52 (by decide)
  refine lv_l2i (v := z_54.toInt32) hx hb dX10_goes_8 rfl ?_
  refine lv_topi (fun x_56 e_57 => ?_)
  have i_x_56 : x_56.toInt = z_54.toInt := by rw [e_57]; exact q_l2i (by omega) (by omega)
  refine lv_istore_n (lv' := [(3, .int x_56), (0, .ref a0), (1, .int a1), (2, .int a2)]) hx hb dX10_goes_9 rfl hl (by decide) rfl (fun ls hl => ?_)
  refine lv_aload_n hx hb dX10_goes_10 rfl (lv_at hl 1 rfl) ?_
  refine lv_pc (pc2 := 11) rfl ?_
  refine lv_iload_n hx hb dX10_goes_11 rfl (lv_at hl 2 rfl) ?_
  refine lv_aload_n hx hb dX10_goes_12 rfl (lv_at hl 1 rfl) ?_
  refine va_get (D := D) (ci := 9) (v := .ref r_12) (C := RX10) (T := TX10) (N := 36) hx hb hts in10 hown hK (va_one at_49) 0 rfl rfl 9 (by decide) (hts (.fieldLink RX10 25 "RiverModelModel" "weather" "[I") (List.mem_of_getElem? (i := 2) rfl)) (fun _ h9 => h9) rfl dX10_goes_13 ?_
  refine lv_sipush (v := 192) hx hb dX10_goes_16 (by decide) ?_
  refine lv_iload_n hx hb dX10_goes_19 rfl (lv_at hl 3 rfl) ?_
  refine lv_imul hx hb dX10_goes_20 ?_
  refine lv_topi (fun x_58 e_59 => ?_)
  have i_x_58 : x_58.toInt = 192 * a2.toInt := by rw [e_59]; exact (q_mul (by rw [show (192 : Int32).toInt = 192 by decide]; omega) (by rw [show (192 : Int32).toInt = 192 by decide]; omega)).trans (by rw [show (192 : Int32).toInt = 192 by decide])
  refine lv_iconst (v := 2) hx hb dX10_goes_21 (by decide) ?_
  refine lv_iload_n hx hb dX10_goes_22 rfl (lv_at hl 0 rfl) ?_
  refine lv_pc (pc2 := 23) rfl ?_
  refine lv_imul hx hb dX10_goes_23 ?_
  refine lv_topi (fun x_60 e_61 => ?_)
  have i_x_60 : x_60.toInt = 2 * x_56.toInt := by rw [e_61]; exact (q_mul (by rw [show (2 : Int32).toInt = 2 by decide]; omega) (by rw [show (2 : Int32).toInt = 2 by decide]; omega)).trans (by rw [show (2 : Int32).toInt = 2 by decide])
  refine lv_iadd hx hb dX10_goes_24 ?_
  refine lv_topi (fun x_62 e_63 => ?_)
  have i_x_62 : x_62.toInt = x_58.toInt + x_60.toInt := by rw [e_63]; exact (q_add (by omega) (by omega)).trans (by rfl)
  obtain ⟨f_64, at_65⟩ := mF_o46 hG h_13
  have b_66 : vp_in x_62 384 := (q_in (by omega) (by omega))
  refine va_iald hx hb hK (va_one at_65) 0 0 rfl rfl b_66 dX10_goes_25 ?_
  refine lv_topi (fun x_67 e_68 => ?_)
  refine lv_aload_n hx hb dX10_goes_26 rfl (lv_at hl 1 rfl) ?_
  refine va_get (D := D) (ci := 9) (v := .ref r_12) (C := RX10) (T := TX10) (N := 36) hx hb hts in10 hown hK (va_one at_49) 0 rfl rfl 9 (by decide) (hts (.fieldLink RX10 25 "RiverModelModel" "weather" "[I") (List.mem_of_getElem? (i := 2) rfl)) (fun _ h9 => h9) rfl dX10_goes_27 ?_
  refine lv_sipush (v := 192) hx hb dX10_goes_30 (by decide) ?_
  refine lv_iload_n hx hb dX10_goes_33 rfl (lv_at hl 3 rfl) ?_
  refine lv_imul hx hb dX10_goes_34 ?_
  refine lv_topi (fun x_69 e_70 => ?_)
  have i_x_69 : x_69.toInt = 192 * a2.toInt := by rw [e_70]; exact (q_mul (by rw [show (192 : Int32).toInt = 192 by decide]; omega) (by rw [show (192 : Int32).toInt = 192 by decide]; omega)).trans (by rw [show (192 : Int32).toInt = 192 by decide])
  refine lv_pc (pc2 := 35) rfl ?_
  refine lv_iconst (v := 2) hx hb dX10_goes_35 (by decide) ?_
  refine lv_iload_n hx hb dX10_goes_36 rfl (lv_at hl 0 rfl) ?_
  refine lv_imul hx hb dX10_goes_37 ?_
  refine lv_topi (fun x_71 e_72 => ?_)
  have i_x_71 : x_71.toInt = 2 * x_56.toInt := by rw [e_72]; exact (q_mul (by rw [show (2 : Int32).toInt = 2 by decide]; omega) (by rw [show (2 : Int32).toInt = 2 by decide]; omega)).trans (by rw [show (2 : Int32).toInt = 2 by decide])
  refine lv_iadd hx hb dX10_goes_38 ?_
  refine lv_topi (fun x_73 e_74 => ?_)
  have i_x_73 : x_73.toInt = x_69.toInt + x_71.toInt := by rw [e_74]; exact (q_add (by omega) (by omega)).trans (by rfl)
  refine lv_iconst (v := 1) hx hb dX10_goes_39 (by decide) ?_
  refine lv_iadd hx hb dX10_goes_40 ?_
  refine lv_topi (fun x_75 e_76 => ?_)
  have i_x_75 : x_75.toInt = x_73.toInt + 1 := by rw [e_76]; exact (q_add (by rw [show (1 : Int32).toInt = 1 by decide]; omega) (by rw [show (1 : Int32).toInt = 1 by decide]; omega)).trans (by rw [show (1 : Int32).toInt = 1 by decide])
  have b_77 : vp_in x_75 384 := (q_in (by omega) (by omega))
  refine va_iald hx hb hK (va_one at_65) 0 0 rfl rfl b_77 dX10_goes_41 ?_
  refine lv_topi (fun x_78 e_79 => ?_)
  refine tx_callv (W.runV (As := [.int a1, .int x_67, .int x_78]) (rest := []) ⟨hx, hb, hml, hown, hts⟩ (m_X10_passes l D t cI cL cC gC gE gW gA gT gI gS gM K F S N gH gJ ge gk gf gs gg gr RN a0 a1 x_67 x_78 M uq (by omega) (by omega) (by omega) (by omega) (by omega) hO (by omega) (by omega) k_a0) (cwV 3 hts gu_X10_goes_X10_passes_225 rfl rfl rfl (by decide +kernel) ⟨Nat.le_of_ble_eq_true rfl, Nat.le_of_ble_eq_true rfl⟩) (tP_V hG hE at_49 rfl) rfl rfl hl.1 rfl (lv_room (Nat.le_of_ble_eq_true rfl)) dX10_goes_42 ⟨Nat.le_of_ble_eq_true rfl, Nat.le_of_ble_eq_true rfl⟩) hS (fun _ h => h) (fun gH_84 H locs hp_81 hG hS o_82 => ?_)
  have at_49 := va_at.keptC at_49 o_82 k_a0 rfl
  have at_65 := va_at.keptC at_65 o_82 h_13 rfl
  replace hG : tG D (mF cI cL cC gC gE gW gA gT gI gS gM K F S N gH_84 gJ ge gk gf gs gg gr RN) t H := hG
  have hp_81 : gH_84 = gH + 1 := hp_81
  have p_85 := hp_81
  refine lv_pc (pc2 := 45) rfl ?_
  exact tx_vret (z := (gH_84)) hx hb hr hlk hG hS (by show gH_84 = gH + 1; omega) dX10_goes_45

def uX10_asides : List Cond := .code yX10_asides cX10_asides 2 none :: ([.fieldLink RX10 32 "RiverModelModel" "aside" "[J", .fieldLink RX10 28 "RiverModelModel" "m" "[J"] ++ wsX100)
set_option maxHeartbeats 4000000 in
set_option maxRecDepth 100000 in
theorem m_X10_asides (l : Launch) (D : va_G) (t : Nat → Nat) (cI cL cC : ClassId) (gC : Int32) (gE : Int32) (gW : Nat → Int32) (gA : Nat → Int32) (gT : Nat → Int32) (gI : Int32) (gS : Int32) (gM : Int32) (K : Nat → Int32) (F : Nat → Int32) (S : Nat → Int32) (N : Nat → Int32) (gH : Int) (gJ : Int) (ge : Int32) (gk : Int32) (gf : Int32) (gs : Int32) (gg : Int32) (gr : Int32) (RN : Nat → Int32) (a0 : Nat) (uq : ∀ b c : Nat, t b = t c → t b ≠ 0 → b = c) (k_a0 : t a0 = 40) : tMx (Z := (Int)) l yX10_asides uX10_asides 0 0 D (mF cI cL cC gC gE gW gA gT gI gS gM K F S N gH gJ ge gk gf gs gg gr RN) (fun z => (mF cI cL cC gC gE gW gA gT gI gS gM K F S N gH z ge gk gf gs gg gr RN)) t cI cL cC [.ref a0] wj (xV (fun (z : (Int)) => z = gH)) := by
  refine tMx.ofW (cc := cX10_asides) (maxL := 2) (ret := none) (by decide) rfl (Nat.le_of_ble_eq_true rfl) ?_
  intro p e s m below meth c hx hb hr hml hown hts hlk H locs hG hK hE hS ls hl
  have hl : lv_has ls 2 [(0, .ref a0)] := hl
  have in10 : ∀ w ∈ wsX100, w ∈ uX10_asides := fun w h => List.mem_cons_of_mem _ (List.mem_append_right _ h)
  refine lv_iconst (v := 0) hx hb dX10_asides_0 (by decide) ?_
  refine lv_istore_n (lv' := [(1, .int 0), (0, .ref a0)]) hx hb dX10_asides_1 rfl hl (by decide) rfl (fun ls hl => ?_)
  refine lv_pc (pc2 := 2) rfl ?_
  refine lp_gen (fun WW1 hWW1 => ?_)
  have kx1 : ∀ (yk : Int32) (hj : Int) (H1 : Heap) (locs1 : List Loc) (ls1 : Array Slot), (0 ≤ yk.toInt) → (yk.toInt ≤ 280) → (231 < yk.toInt → hj = gH) → (280 ≤ yk.toInt) → tG D (mF cI cL cC gC gE gW gA gT gI gS gM K F S N gH hj ge gk gf gs gg gr RN) t H1 → tF t wj s.heap H1 locs1 → lv_has ls1 2 [(1, .int yk), (0, .ref a0)] → WW1 H1 locs1 (F0 m 27 ls1 []) := by
    intro yk hj H locs ls v1_0 v1_1 v1_2 xf1_0 hG hS hl
    refine (hWW1 _ _ _).mpr ?_
    exact tx_vret (z := (hj)) hx hb hr hlk hG hS (by show hj = gH; omega) dX10_asides_27
  have lp1 : ∀ (kk1 : Nat) (yk : Int32) (hj : Int) (H1 : Heap) (locs1 : List Loc) (ls1 : Array Slot), 280 - yk.toInt ≤ (kk1 : Int) → (0 ≤ yk.toInt) → (yk.toInt ≤ 280) → (231 < yk.toInt → hj = gH) → tG D (mF cI cL cC gC gE gW gA gT gI gS gM K F S N gH hj ge gk gf gs gg gr RN) t H1 → tF t wj s.heap H1 locs1 → lv_has ls1 2 [(1, .int yk), (0, .ref a0)] → WW1 H1 locs1 (F0 m 2 ls1 []) := by
    intro kk1
    induction kk1 with
    | zero =>
      intro yk hj H locs ls hk1 v1_0 v1_1 v1_2 hG hS hl
      refine (hWW1 _ _ _).mpr ?_
      refine lv_iload_n hx hb dX10_asides_2 rfl (lv_at hl 0 rfl) ?_
      refine lv_sipush (v := 280) hx hb dX10_asides_3 (by decide) ?_
      refine lv_icmp_ge (tgt := 27) hx hb dX10_asides_6 (by decide) (fun c_2 => ?_) (fun c_2 => ?_)
      · skip
        have c_2 : 280 ≤ yk.toInt := q_le c_2
        exact (hWW1 _ _ _).mp (kx1 yk hj H locs ls v1_0 v1_1 v1_2 (by omega) hG hS (lv_sub hl [0, 1] rfl))
      · skip
        have c_2 : yk.toInt < 280 := q_nle c_2
        exfalso; omega
    | succ kk1 ih1 =>
      intro yk hj H locs ls hk1 v1_0 v1_1 v1_2 hG hS hl
      refine (hWW1 _ _ _).mpr ?_
      refine lv_iload_n hx hb dX10_asides_2 rfl (lv_at hl 0 rfl) ?_
      refine lv_pc (pc2 := 3) rfl ?_
      refine lv_sipush (v := 280) hx hb dX10_asides_3 (by decide) ?_
      refine lv_icmp_ge (tgt := 27) hx hb dX10_asides_6 (by decide) (fun c_3 => ?_) (fun c_3 => ?_)
      · skip
        have c_3 : 280 ≤ yk.toInt := q_le c_3
        exact (hWW1 _ _ _).mp (kx1 yk hj H locs ls v1_0 v1_1 v1_2 (by omega) hG hS (lv_sub hl [0, 1] rfl))
      · skip
        have c_3 : yk.toInt < 280 := q_nle c_3
        refine lv_aload_n hx hb dX10_asides_9 rfl (lv_at hl 1 rfl) ?_
        obtain ⟨r_4, v_6, r_7, r_9, r_11, r_13, r_15, r_17, r_19, r_21, r_23, r_25, r_27, r_29, r_31, r_33, r_35, r_37, r_39, r_41, r_43, r_45, r_47, v_49, r_50, at_52, h_5, h_8, h_10, h_12, h_14, h_16, h_18, h_20, h_22, h_24, h_26, h_28, h_30, h_32, h_34, h_36, h_38, h_40, h_42, h_44, h_46, h_48, h_51⟩ := mF_o40 hG k_a0
        refine va_get (D := D) (ci := 9) (v := .ref r_19) (C := RX10) (T := TX10) (N := 36) hx hb hts in10 hown hK (va_one at_52) 0 rfl rfl 11 (by decide) (hts (.fieldLink RX10 32 "RiverModelModel" "aside" "[J") (List.mem_of_getElem? (i := 1) rfl)) (fun _ h9 => h9) rfl dX10_asides_10 ?_
        refine lv_iload_n hx hb dX10_asides_13 rfl (lv_at hl 0 rfl) ?_
        refine lv_aload_n hx hb dX10_asides_14 rfl (lv_at hl 1 rfl) ?_
        refine va_get (D := D) (ci := 9) (v := .ref r_17) (C := RX10) (T := TX10) (N := 36) hx hb hts in10 hown hK (va_one at_52) 0 rfl rfl 10 (by decide) (hts (.fieldLink RX10 28 "RiverModelModel" "m" "[J") (List.mem_of_getElem? (i := 2) rfl)) (fun _ h9 => h9) rfl dX10_asides_15 ?_
        refine lv_iload_n hx hb dX10_asides_18 rfl (lv_at hl 0 rfl) ?_
        refine lv_pc (pc2 := 19) rfl ?_
        obtain ⟨f_53, at_54, h_55⟩ := mF_o47 hG h_18
        have b_56 : vp_in yk 280 := (q_in (by omega) (by omega))
        refine va_lald hx hb hK (va_one at_54) 0 1 rfl rfl b_56 dX10_asides_19 ?_
        refine lv_topl (fun z_57 e_58 => ?_)
        have i_z_57 : yk.toInt = 231 → z_57.toInt = gH := by rw [e_58]; exact gHr_ld h_55
        obtain ⟨f_59, at_60, h_61⟩ := mF_o48 hG h_20
        have b_62 : vp_in yk 280 := (q_in (by omega) (by omega))
        obtain ⟨h_63, gh_63, dh_63⟩ := gHr_ex yk z_57 (by omega) h_61
        refine ty_last (F2 := (mF cI cL cC gC gE gW gA gT gI gS gM K F S N gH h_63 ge gk gf gs gg gr RN)) hx hb hK hG hS 1 at_60 (by rw [h_20]; rfl) rfl b_62 (by rw [h_20]; exact ⟨_, rfl, gh_63⟩) (fun hG b hb h0 => by obtain ⟨e, g1, g2⟩ := hG b h0; exact ⟨e, g1, mF_gJ (fun h => hb (uq b r_19 (h.trans h_20.symm) h0)) g2⟩) dX10_asides_20 (fun H locs hG hS at_64 o_65 => ?_)
        have at_52 := va_at.keptK at_52 o_65 h_20 k_a0 rfl
        have at_54 := va_at.keptK at_54 o_65 h_20 h_18 rfl
        obtain ⟨x_66, e_67⟩ : ∃ y : Int32, y = yk + Int32.ofInt 1 := ⟨_, rfl⟩
        have i_x_66 : x_66.toInt = yk.toInt + 1 := by rw [e_67, show Int32.ofInt 1 = 1 by decide]; exact (q_add (by rw [show (1 : Int32).toInt = 1 by decide]; omega) (by rw [show (1 : Int32).toInt = 1 by decide]; omega)).trans (by rw [show (1 : Int32).toInt = 1 by decide])
        refine lv_iinc (v := x_66) (lv' := [(1, .int x_66), (0, .ref a0)]) hx hb dX10_asides_21 hl (k := 0) rfl e_67.symm (by decide) rfl (fun ls hl => ?_)
        refine lv_goto (tgt := 2) hx hb dX10_asides_24 (by decide) ?_
        exact (hWW1 _ _ _).mp (ih1 x_66 h_63 H locs ls (by omega) (by omega) (by omega) (by omega) hG hS (lv_sub hl [0, 1] rfl))
  have zi_0 : (0 : Int32).toInt = 0 := by decide
  exact lp1 (280 - (0 : Int32).toInt : Int).toNat 0 gJ H locs ls (by omega) (by omega) (by omega) (by omega) hG hS (lv_sub hl [0, 1] rfl)

def uX10_returns : List Cond := .code yX10_returns cX10_returns 2 none :: ([.fieldLink RX10 28 "RiverModelModel" "m" "[J", .fieldLink RX10 32 "RiverModelModel" "aside" "[J"] ++ wsX100)
set_option maxHeartbeats 4000000 in
set_option maxRecDepth 100000 in
theorem m_X10_returns (l : Launch) (D : va_G) (t : Nat → Nat) (cI cL cC : ClassId) (gC : Int32) (gE : Int32) (gW : Nat → Int32) (gA : Nat → Int32) (gT : Nat → Int32) (gI : Int32) (gS : Int32) (gM : Int32) (K : Nat → Int32) (F : Nat → Int32) (S : Nat → Int32) (N : Nat → Int32) (gH : Int) (gJ : Int) (ge : Int32) (gk : Int32) (gf : Int32) (gs : Int32) (gg : Int32) (gr : Int32) (RN : Nat → Int32) (a0 : Nat) (uq : ∀ b c : Nat, t b = t c → t b ≠ 0 → b = c) (k_a0 : t a0 = 40) : tMx (Z := (Int)) l yX10_returns uX10_returns 0 0 D (mF cI cL cC gC gE gW gA gT gI gS gM K F S N gH gJ ge gk gf gs gg gr RN) (fun z => (mF cI cL cC gC gE gW gA gT gI gS gM K F S N z gJ ge gk gf gs gg gr RN)) t cI cL cC [.ref a0] wm (xV (fun (z : (Int)) => z = gJ)) := by
  refine tMx.ofW (cc := cX10_returns) (maxL := 2) (ret := none) (by decide) rfl (Nat.le_of_ble_eq_true rfl) ?_
  intro p e s m below meth c hx hb hr hml hown hts hlk H locs hG hK hE hS ls hl
  have hl : lv_has ls 2 [(0, .ref a0)] := hl
  have in10 : ∀ w ∈ wsX100, w ∈ uX10_returns := fun w h => List.mem_cons_of_mem _ (List.mem_append_right _ h)
  refine lv_iconst (v := 0) hx hb dX10_returns_0 (by decide) ?_
  refine lv_istore_n (lv' := [(1, .int 0), (0, .ref a0)]) hx hb dX10_returns_1 rfl hl (by decide) rfl (fun ls hl => ?_)
  refine lv_pc (pc2 := 2) rfl ?_
  refine lp_gen (fun WW1 hWW1 => ?_)
  have kx1 : ∀ (yk : Int32) (hm : Int) (H1 : Heap) (locs1 : List Loc) (ls1 : Array Slot), (0 ≤ yk.toInt) → (yk.toInt ≤ 280) → (231 < yk.toInt → hm = gJ) → (280 ≤ yk.toInt) → tG D (mF cI cL cC gC gE gW gA gT gI gS gM K F S N hm gJ ge gk gf gs gg gr RN) t H1 → tF t wm s.heap H1 locs1 → lv_has ls1 2 [(1, .int yk), (0, .ref a0)] → WW1 H1 locs1 (F0 m 27 ls1 []) := by
    intro yk hm H locs ls v1_0 v1_1 v1_2 xf1_0 hG hS hl
    refine (hWW1 _ _ _).mpr ?_
    exact tx_vret (z := (hm)) hx hb hr hlk hG hS (by show hm = gJ; omega) dX10_returns_27
  have lp1 : ∀ (kk1 : Nat) (yk : Int32) (hm : Int) (H1 : Heap) (locs1 : List Loc) (ls1 : Array Slot), 280 - yk.toInt ≤ (kk1 : Int) → (0 ≤ yk.toInt) → (yk.toInt ≤ 280) → (231 < yk.toInt → hm = gJ) → tG D (mF cI cL cC gC gE gW gA gT gI gS gM K F S N hm gJ ge gk gf gs gg gr RN) t H1 → tF t wm s.heap H1 locs1 → lv_has ls1 2 [(1, .int yk), (0, .ref a0)] → WW1 H1 locs1 (F0 m 2 ls1 []) := by
    intro kk1
    induction kk1 with
    | zero =>
      intro yk hm H locs ls hk1 v1_0 v1_1 v1_2 hG hS hl
      refine (hWW1 _ _ _).mpr ?_
      refine lv_iload_n hx hb dX10_returns_2 rfl (lv_at hl 0 rfl) ?_
      refine lv_sipush (v := 280) hx hb dX10_returns_3 (by decide) ?_
      refine lv_icmp_ge (tgt := 27) hx hb dX10_returns_6 (by decide) (fun c_2 => ?_) (fun c_2 => ?_)
      · skip
        have c_2 : 280 ≤ yk.toInt := q_le c_2
        exact (hWW1 _ _ _).mp (kx1 yk hm H locs ls v1_0 v1_1 v1_2 (by omega) hG hS (lv_sub hl [0, 1] rfl))
      · skip
        have c_2 : yk.toInt < 280 := q_nle c_2
        exfalso; omega
    | succ kk1 ih1 =>
      intro yk hm H locs ls hk1 v1_0 v1_1 v1_2 hG hS hl
      refine (hWW1 _ _ _).mpr ?_
      refine lv_iload_n hx hb dX10_returns_2 rfl (lv_at hl 0 rfl) ?_
      refine lv_pc (pc2 := 3) rfl ?_
      refine lv_sipush (v := 280) hx hb dX10_returns_3 (by decide) ?_
      refine lv_icmp_ge (tgt := 27) hx hb dX10_returns_6 (by decide) (fun c_3 => ?_) (fun c_3 => ?_)
      · skip
        have c_3 : 280 ≤ yk.toInt := q_le c_3
        exact (hWW1 _ _ _).mp (kx1 yk hm H locs ls v1_0 v1_1 v1_2 (by omega) hG hS (lv_sub hl [0, 1] rfl))
      · skip
        have c_3 : yk.toInt < 280 := q_nle c_3
        refine lv_aload_n hx hb dX10_returns_9 rfl (lv_at hl 1 rfl) ?_
        obtain ⟨r_4, v_6, r_7, r_9, r_11, r_13, r_15, r_17, r_19, r_21, r_23, r_25, r_27, r_29, r_31, r_33, r_35, r_37, r_39, r_41, r_43, r_45, r_47, v_49, r_50, at_52, h_5, h_8, h_10, h_12, h_14, h_16, h_18, h_20, h_22, h_24, h_26, h_28, h_30, h_32, h_34, h_36, h_38, h_40, h_42, h_44, h_46, h_48, h_51⟩ := mF_o40 hG k_a0
        refine va_get (D := D) (ci := 9) (v := .ref r_17) (C := RX10) (T := TX10) (N := 36) hx hb hts in10 hown hK (va_one at_52) 0 rfl rfl 10 (by decide) (hts (.fieldLink RX10 28 "RiverModelModel" "m" "[J") (List.mem_of_getElem? (i := 1) rfl)) (fun _ h9 => h9) rfl dX10_returns_10 ?_
        refine lv_iload_n hx hb dX10_returns_13 rfl (lv_at hl 0 rfl) ?_
        refine lv_aload_n hx hb dX10_returns_14 rfl (lv_at hl 1 rfl) ?_
        refine va_get (D := D) (ci := 9) (v := .ref r_19) (C := RX10) (T := TX10) (N := 36) hx hb hts in10 hown hK (va_one at_52) 0 rfl rfl 11 (by decide) (hts (.fieldLink RX10 32 "RiverModelModel" "aside" "[J") (List.mem_of_getElem? (i := 2) rfl)) (fun _ h9 => h9) rfl dX10_returns_15 ?_
        refine lv_iload_n hx hb dX10_returns_18 rfl (lv_at hl 0 rfl) ?_
        refine lv_pc (pc2 := 19) rfl ?_
        obtain ⟨f_53, at_54, h_55⟩ := mF_o48 hG h_20
        have b_56 : vp_in yk 280 := (q_in (by omega) (by omega))
        refine va_lald hx hb hK (va_one at_54) 0 1 rfl rfl b_56 dX10_returns_19 ?_
        refine lv_topl (fun z_57 e_58 => ?_)
        have i_z_57 : yk.toInt = 231 → z_57.toInt = gJ := by rw [e_58]; exact gHr_ld h_55
        obtain ⟨f_59, at_60, h_61⟩ := mF_o47 hG h_18
        have b_62 : vp_in yk 280 := (q_in (by omega) (by omega))
        obtain ⟨h_63, gh_63, dh_63⟩ := gHr_ex yk z_57 (by omega) h_61
        refine ty_last (F2 := (mF cI cL cC gC gE gW gA gT gI gS gM K F S N h_63 gJ ge gk gf gs gg gr RN)) hx hb hK hG hS 1 at_60 (by rw [h_18]; rfl) rfl b_62 (by rw [h_18]; exact ⟨_, rfl, gh_63⟩) (fun hG b hb h0 => by obtain ⟨e, g1, g2⟩ := hG b h0; exact ⟨e, g1, mF_gH (fun h => hb (uq b r_17 (h.trans h_18.symm) h0)) g2⟩) dX10_returns_20 (fun H locs hG hS at_64 o_65 => ?_)
        have at_52 := va_at.keptK at_52 o_65 h_18 k_a0 rfl
        have at_54 := va_at.keptK at_54 o_65 h_18 h_20 rfl
        obtain ⟨x_66, e_67⟩ : ∃ y : Int32, y = yk + Int32.ofInt 1 := ⟨_, rfl⟩
        have i_x_66 : x_66.toInt = yk.toInt + 1 := by rw [e_67, show Int32.ofInt 1 = 1 by decide]; exact (q_add (by rw [show (1 : Int32).toInt = 1 by decide]; omega) (by rw [show (1 : Int32).toInt = 1 by decide]; omega)).trans (by rw [show (1 : Int32).toInt = 1 by decide])
        refine lv_iinc (v := x_66) (lv' := [(1, .int x_66), (0, .ref a0)]) hx hb dX10_returns_21 hl (k := 0) rfl e_67.symm (by decide) rfl (fun ls hl => ?_)
        refine lv_goto (tgt := 2) hx hb dX10_returns_24 (by decide) ?_
        exact (hWW1 _ _ _).mp (ih1 x_66 h_63 H locs ls (by omega) (by omega) (by omega) (by omega) hG hS (lv_sub hl [0, 1] rfl))
  have zi_0 : (0 : Int32).toInt = 0 := by decide
  exact lp1 (280 - (0 : Int32).toInt : Int).toNat 0 gH H locs ls (by omega) (by omega) (by omega) (by omega) hG hS (lv_sub hl [0, 1] rfl)

def uX10_begins : List Cond := .code yX10_begins cX10_begins 4 none :: ([.fieldLink RX10 28 "RiverModelModel" "m" "[J", .methodLink RX10 183 yX10_startOf, .instanceMethod yX10_startOf, .selects RX10 yX10_startOf yX10_startOf, .initialized RX10, .methodLink RX10 208 yX10_isStore, .instanceMethod yX10_isStore, .selects RX10 yX10_isStore yX10_isStore, .fieldLink RX10 71 "RiverModelModel" "startB" "[I", .constantLong RX10 204 (224), .constantLong RX10 206 (227), .methodLink RX10 85 yX10_in, .static yX10_in, .constantLong RX10 196 (5), .code yX10_startOf cX10_startOf 4 (some .int), .methodLink RX10 166 yX10_storeAt, .instanceMethod yX10_storeAt, .selects RX10 yX10_storeAt yX10_storeAt, .fieldLink RX10 22 "RiverModelModel" "number" "[I", .code yX10_storeAt cX10_storeAt 5 (some .int), .fieldLink RX10 163 "RiverModelModel" "items" "I", .fieldLink RX10 13 "RiverModelModel" "kind" "[I", .fieldLink RX10 16 "RiverModelModel" "first" "[I", .code yX10_isStore cX10_isStore 2 (some .boolean), .code yX10_in cX10_in 6 (some .boolean)] ++ wsX100)
set_option maxRecDepth 20000 in
theorem gu_X10_begins_X10_startOf_183 : GoodIn uX10_begins (wsV RX10 183 RX10 yX10_startOf uX10_startOf) := goodIn_r _ [2, 3, 4, 5, 15, 16, 17, 18, 5, 19, 20, 21, 22, 23, 26, 27, 28, 29, 30, 31, 32, 33, 34, 35, 36, 37, 38, 39, 40, 41, 42, 43, 44, 45, 46, 47, 48, 49, 50, 51, 52, 53, 54, 55, 56, 57, 58, 59, 60, 61] rfl (by decide +kernel)
set_option maxRecDepth 20000 in
theorem gu_X10_begins_X10_isStore_208 : GoodIn uX10_begins (wsV RX10 208 RX10 yX10_isStore uX10_isStore) := goodIn_r _ [6, 7, 8, 5, 24, 16, 17, 18, 5, 20, 21, 22, 23, 26, 27, 28, 29, 30, 31, 32, 33, 34, 35, 36, 37, 38, 39, 40, 41, 42, 43, 44, 45, 46, 47, 48, 49, 50, 51, 52, 53, 54, 55, 56, 57, 58, 59, 60, 61] rfl (by decide +kernel)
set_option maxRecDepth 20000 in
theorem gu_X10_begins_X10_in_85 : GoodIn uX10_begins (va_wsS RX10 85 yX10_in uX10_in) := goodIn_r _ [12, 13, 5, 25] rfl (by decide +kernel)
set_option maxHeartbeats 4000000 in
set_option maxRecDepth 100000 in
theorem m_X10_begins (l : Launch) (D : va_G) (t : Nat → Nat) (cI cL cC : ClassId) (gC : Int32) (gE : Int32) (gW : Nat → Int32) (gA : Nat → Int32) (gT : Nat → Int32) (gI : Int32) (gS : Int32) (gM : Int32) (K : Nat → Int32) (F : Nat → Int32) (S : Nat → Int32) (N : Nat → Int32) (gH : Int) (gJ : Int) (ge : Int32) (gk : Int32) (gf : Int32) (gs : Int32) (gg : Int32) (gr : Int32) (RN : Nat → Int32) (a0 : Nat) (a1 : Int32) (a2 : Int32) (M : Int) (uq : ∀ b c : Nat, t b = t c → t b ≠ 0 → b = c) (hMb : 40 * a1.toInt = M) (hM0 : 0 ≤ a1.toInt) (hM2 : a1.toInt ≤ 2) (hI0 : 0 ≤ gI.toInt) (hI4 : gI.toInt ≤ 40) (k_a0 : t a0 = 40) : tMx (Z := (Int)) l yX10_begins uX10_begins 2 47 D (mF cI cL cC gC gE gW gA gT gI gS gM K F S N gH gJ ge gk gf gs gg gr RN) (fun z => (mF cI cL cC gC gE gW gA gT gI gS gM K F S N z gJ ge gk gf gs gg gr RN)) t cI cL cC [.ref a0, .int a1, .int a2] wm (xV (fun (z : (Int)) => z = 0)) := by
  refine tMx.ofW (cc := cX10_begins) (maxL := 4) (ret := none) (by decide) rfl (Nat.le_of_ble_eq_true rfl) ?_
  intro p e s m below meth c hx hb hr hml hown hts hlk H locs hG hK hE hS ls hl
  have hl : lv_has ls 4 [(0, .ref a0), (1, .int a1), (2, .int a2)] := hl
  have in10 : ∀ w ∈ wsX100, w ∈ uX10_begins := fun w h => List.mem_cons_of_mem _ (List.mem_append_right _ h)
  refine lv_iconst (v := 0) hx hb dX10_begins_0 (by decide) ?_
  refine lv_istore_n (lv' := [(3, .int 0), (0, .ref a0), (1, .int a1), (2, .int a2)]) hx hb dX10_begins_1 rfl hl (by decide) rfl (fun ls hl => ?_)
  refine lv_pc (pc2 := 2) rfl ?_
  refine lp_gen (fun WW1 hWW1 => ?_)
  have kx1 : ∀ (yk : Int32) (hm : Int) (H1 : Heap) (locs1 : List Loc) (ls1 : Array Slot), (0 ≤ yk.toInt) → (yk.toInt ≤ 280) → (231 < yk.toInt → hm = 0) → (280 ≤ yk.toInt) → tG D (mF cI cL cC gC gE gW gA gT gI gS gM K F S N hm gJ ge gk gf gs gg gr RN) t H1 → tF t wm s.heap H1 locs1 → lv_has ls1 4 [(3, .int yk), (0, .ref a0), (1, .int a1), (2, .int a2)] → WW1 H1 locs1 (F0 m 42 ls1 []) := by
    intro yk hm H locs ls v1_0 v1_1 v1_2 xf1_0 hG hS hl
    refine (hWW1 _ _ _).mpr ?_
    refine lv_iconst (v := 0) hx hb dX10_begins_42 (by decide) ?_
    refine lv_istore_n (lv' := [(3, .int 0), (0, .ref a0), (1, .int a1), (2, .int a2)]) hx hb dX10_begins_43 rfl hl (by decide) rfl (fun ls hl => ?_)
    refine lv_pc (pc2 := 44) rfl ?_
    refine lp_gen (fun WW2 hWW2 => ?_)
    have kx2 : ∀ (yk : Int32) (H1 : Heap) (locs1 : List Loc) (ls1 : Array Slot), (0 ≤ yk.toInt) → (yk.toInt ≤ 16) → tG D (mF cI cL cC gC gE gW gA gT gI gS gM K F S N hm gJ ge gk gf gs gg gr RN) t H1 → tF t wm s.heap H1 locs1 → lv_has ls1 4 [(3, .int yk), (0, .ref a0), (1, .int a1), (2, .int a2)] → WW2 H1 locs1 (F0 m 91 ls1 []) := by
      intro yk H locs ls v2_0 v2_1 hG hS hl
      refine (hWW2 _ _ _).mpr ?_
      exact tx_vret (z := (hm)) hx hb hr hlk hG hS (by show hm = 0; omega) dX10_begins_91
    have lp2 : ∀ (kk2 : Nat) (yk : Int32) (H1 : Heap) (locs1 : List Loc) (ls1 : Array Slot), 16 - yk.toInt ≤ (kk2 : Int) → (0 ≤ yk.toInt) → (yk.toInt ≤ 16) → tG D (mF cI cL cC gC gE gW gA gT gI gS gM K F S N hm gJ ge gk gf gs gg gr RN) t H1 → tF t wm s.heap H1 locs1 → lv_has ls1 4 [(3, .int yk), (0, .ref a0), (1, .int a1), (2, .int a2)] → WW2 H1 locs1 (F0 m 44 ls1 []) := by
      intro kk2
      induction kk2 with
      | zero =>
        intro yk H locs ls hk2 v2_0 v2_1 hG hS hl
        refine (hWW2 _ _ _).mpr ?_
        refine lv_iload_n hx hb dX10_begins_44 rfl (lv_at hl 0 rfl) ?_
        refine lv_bipush (v := 16) hx hb dX10_begins_45 (by decide) ?_
        refine lv_pc (pc2 := 47) rfl ?_
        refine lv_icmp_ge (tgt := 91) hx hb dX10_begins_47 (by decide) (fun c_3 => ?_) (fun c_3 => ?_)
        · skip
          have c_3 : 16 ≤ yk.toInt := q_le c_3
          exact (hWW2 _ _ _).mp (kx2 yk H locs ls v2_0 v2_1 hG hS (lv_sub hl [0, 1, 2, 3] rfl))
        · skip
          have c_3 : yk.toInt < 16 := q_nle c_3
          exfalso; omega
      | succ kk2 ih2 =>
        intro yk H locs ls hk2 v2_0 v2_1 hG hS hl
        refine (hWW2 _ _ _).mpr ?_
        refine lv_iload_n hx hb dX10_begins_44 rfl (lv_at hl 0 rfl) ?_
        refine lv_bipush (v := 16) hx hb dX10_begins_45 (by decide) ?_
        refine lv_icmp_ge (tgt := 91) hx hb dX10_begins_47 (by decide) (fun c_4 => ?_) (fun c_4 => ?_)
        · skip
          have c_4 : 16 ≤ yk.toInt := q_le c_4
          exact (hWW2 _ _ _).mp (kx2 yk H locs ls v2_0 v2_1 hG hS (lv_sub hl [0, 1, 2, 3] rfl))
        · skip
          have c_4 : yk.toInt < 16 := q_nle c_4
          refine lv_aload_n hx hb dX10_begins_50 rfl (lv_at hl 1 rfl) ?_
          obtain ⟨r_5, v_7, r_8, r_10, r_12, r_14, r_16, r_18, r_20, r_22, r_24, r_26, r_28, r_30, r_32, r_34, r_36, r_38, r_40, r_42, r_44, r_46, r_48, v_50, r_51, at_53, h_6, h_9, h_11, h_13, h_15, h_17, h_19, h_21, h_23, h_25, h_27, h_29, h_31, h_33, h_35, h_37, h_39, h_41, h_43, h_45, h_47, h_49, h_52⟩ := mF_o40 hG k_a0
          refine va_get (D := D) (ci := 9) (v := .ref r_18) (C := RX10) (T := TX10) (N := 36) hx hb hts in10 hown hK (va_one at_53) 0 rfl rfl 10 (by decide) (hts (.fieldLink RX10 28 "RiverModelModel" "m" "[J") (List.mem_of_getElem? (i := 1) rfl)) (fun _ h9 => h9) rfl dX10_begins_51 ?_
          refine lv_iload_n hx hb dX10_begins_54 rfl (lv_at hl 0 rfl) ?_
          refine lv_iload_n hx hb dX10_begins_55 rfl (lv_at hl 3 rfl) ?_
          refine lv_pc (pc2 := 56) rfl ?_
          refine lv_if_eq (tgt := 77) hx hb dX10_begins_56 (by decide) (fun c_54 => ?_) (fun c_54 => ?_)
          · skip
            have c_54 : a2.toInt = 0 := q_eq c_54
            refine lv_aload_n hx hb dX10_begins_77 rfl (lv_at hl 1 rfl) ?_
            refine lv_iload_n hx hb dX10_begins_78 rfl (lv_at hl 2 rfl) ?_
            refine lv_iload_n hx hb dX10_begins_79 rfl (lv_at hl 0 rfl) ?_
            refine ty_calli (W.runV (As := [.int a1, .int yk]) (rest := [.int yk, .ref r_18]) ⟨hx, hb, hml, hown, hts⟩ (m_X10_startOf l D t cI cL cC gC gE gW gA gT gI gS gM K F S N hm gJ ge gk gf gs gg gr RN a0 a1 yk M uq (by omega) (by omega) (by omega) (by omega) (by omega) k_a0) (cwV 2 hts gu_X10_begins_X10_startOf_183 rfl rfl rfl (by decide +kernel) ⟨Nat.le_of_ble_eq_true rfl, Nat.le_of_ble_eq_true rfl⟩) (tP_V hG hE at_53 rfl) rfl rfl hl.1 rfl (lv_room (Nat.le_of_ble_eq_true rfl)) dX10_begins_80 ⟨Nat.le_of_ble_eq_true rfl, Nat.le_of_ble_eq_true rfl⟩) hS (fun k h => by simp [wr0] at h) (fun r_55 H locs hp_56 hG hS o_57 => ?_)
            have at_53 := va_at.keptC at_53 o_57 k_a0 rfl
            refine lv_i2l (v := r_55.toInt64) hx hb dX10_begins_83 rfl ?_
            obtain ⟨f_59, at_60, h_61⟩ := mF_o47 hG h_19
            have b_62 : vp_in yk 280 := (q_in (by omega) (by omega))
            refine ty_last (F2 := (mF cI cL cC gC gE gW gA gT gI gS gM K F S N hm gJ ge gk gf gs gg gr RN)) hx hb hK hG hS 1 at_60 (by rw [h_19]; rfl) rfl b_62 (by rw [h_19]; exact ⟨_, rfl, gHr_ne ⟨by omega, by omega⟩ h_61⟩) tFF dX10_begins_84 (fun H locs hG hS at_63 o_64 => ?_)
            have at_53 := va_at.keptK at_53 o_64 h_19 k_a0 rfl
            obtain ⟨x_65, e_66⟩ : ∃ y : Int32, y = yk + Int32.ofInt 1 := ⟨_, rfl⟩
            have i_x_65 : x_65.toInt = yk.toInt + 1 := by rw [e_66, show Int32.ofInt 1 = 1 by decide]; exact (q_add (by rw [show (1 : Int32).toInt = 1 by decide]; omega) (by rw [show (1 : Int32).toInt = 1 by decide]; omega)).trans (by rw [show (1 : Int32).toInt = 1 by decide])
            refine lv_iinc (v := x_65) (lv' := [(3, .int x_65), (0, .ref a0), (1, .int a1), (2, .int a2)]) hx hb dX10_begins_85 hl (k := 0) rfl e_66.symm (by decide) rfl (fun ls hl => ?_)
            refine lv_pc (pc2 := 88) rfl ?_
            refine lv_goto (tgt := 44) hx hb dX10_begins_88 (by decide) ?_
            exact (hWW2 _ _ _).mp (ih2 x_65 H locs ls (by omega) (by omega) (by omega) hG hS (lv_sub hl [0, 1, 2, 3] rfl))
          · skip
            have c_54 : a2.toInt ≠ 0 := q_ne c_54
            refine lv_aload_n hx hb dX10_begins_59 rfl (lv_at hl 1 rfl) ?_
            refine lv_iload_n hx hb dX10_begins_60 rfl (lv_at hl 0 rfl) ?_
            refine ty_calli (W.runV (As := [.int yk]) (rest := [.int yk, .ref r_18]) ⟨hx, hb, hml, hown, hts⟩ (m_X10_isStore l D t cI cL cC gC gE gW gA gT gI gS gM K F S N hm gJ ge gk gf gs gg gr RN a0 yk  uq (by omega) (by omega) k_a0) (cwV 1 hts gu_X10_begins_X10_isStore_208 rfl rfl rfl (by decide +kernel) ⟨Nat.le_of_ble_eq_true rfl, Nat.le_of_ble_eq_true rfl⟩) (tP_V hG hE at_53 rfl) rfl rfl hl.1 rfl (lv_room (Nat.le_of_ble_eq_true rfl)) dX10_begins_61 ⟨Nat.le_of_ble_eq_true rfl, Nat.le_of_ble_eq_true rfl⟩) hS (fun k h => by simp [wr0] at h) (fun r_67 H locs hp_68 hG hS o_69 => ?_)
            have at_53 := va_at.keptC at_53 o_69 k_a0 rfl
            have hp_68 : (r_67 = 1 ∧ hasS K F 0 gI.toInt yk) ∨ (r_67 = 0 ∧ ¬ hasS K F 0 gI.toInt yk) := hp_68
            rcases hp_68 with ⟨rfl, p_71⟩ | ⟨rfl, p_72⟩
            · skip
              refine lv_if_eq (tgt := 77) hx hb dX10_begins_64 (by decide) (fun q => absurd q (by decide)) (fun _ => ?_)
              refine lv_aload_n hx hb dX10_begins_67 rfl (lv_at hl 1 rfl) ?_
              refine va_get (D := D) (ci := 9) (v := .ref r_46) (C := RX10) (T := TX10) (N := 36) hx hb hts in10 hown hK (va_one at_53) 0 rfl rfl 26 (by decide) (hts (.fieldLink RX10 71 "RiverModelModel" "startB" "[I") (List.mem_of_getElem? (i := 9) rfl)) (fun _ h9 => h9) rfl dX10_begins_68 ?_
              refine lv_iload_n hx hb dX10_begins_71 rfl (lv_at hl 0 rfl) ?_
              refine lv_pc (pc2 := 72) rfl ?_
              obtain ⟨f_73, at_74⟩ := mF_o61 hG h_47
              have b_75 : vp_in yk 16 := (q_in (by omega) (by omega))
              refine va_iald hx hb hK (va_one at_74) 0 0 rfl rfl b_75 dX10_begins_72 ?_
              refine lv_topi (fun x_76 e_77 => ?_)
              refine lv_i2l (v := x_76.toInt64) hx hb dX10_begins_73 rfl ?_
              refine lv_goto (tgt := 84) hx hb dX10_begins_74 (by decide) ?_
              obtain ⟨f_78, at_79, h_80⟩ := mF_o47 hG h_19
              have b_81 : vp_in yk 280 := (q_in (by omega) (by omega))
              refine ty_last (F2 := (mF cI cL cC gC gE gW gA gT gI gS gM K F S N hm gJ ge gk gf gs gg gr RN)) hx hb hK hG hS 1 at_79 (by rw [h_19]; rfl) rfl b_81 (by rw [h_19]; exact ⟨_, rfl, gHr_ne ⟨by omega, by omega⟩ h_80⟩) tFF dX10_begins_84 (fun H locs hG hS at_82 o_83 => ?_)
              have at_53 := va_at.keptK at_53 o_83 h_19 k_a0 rfl
              have at_74 := va_at.keptK at_74 o_83 h_19 h_47 rfl
              obtain ⟨x_84, e_85⟩ : ∃ y : Int32, y = yk + Int32.ofInt 1 := ⟨_, rfl⟩
              have i_x_84 : x_84.toInt = yk.toInt + 1 := by rw [e_85, show Int32.ofInt 1 = 1 by decide]; exact (q_add (by rw [show (1 : Int32).toInt = 1 by decide]; omega) (by rw [show (1 : Int32).toInt = 1 by decide]; omega)).trans (by rw [show (1 : Int32).toInt = 1 by decide])
              refine lv_iinc (v := x_84) (lv' := [(3, .int x_84), (0, .ref a0), (1, .int a1), (2, .int a2)]) hx hb dX10_begins_85 hl (k := 0) rfl e_85.symm (by decide) rfl (fun ls hl => ?_)
              refine lv_goto (tgt := 44) hx hb dX10_begins_88 (by decide) ?_
              exact (hWW2 _ _ _).mp (ih2 x_84 H locs ls (by omega) (by omega) (by omega) hG hS (lv_sub hl [0, 1, 2, 3] rfl))
            · skip
              refine lv_if_eq (tgt := 77) hx hb dX10_begins_64 (by decide) (fun _ => ?_) (fun q => absurd (by decide) q)
              refine lv_aload_n hx hb dX10_begins_77 rfl (lv_at hl 1 rfl) ?_
              refine lv_pc (pc2 := 78) rfl ?_
              refine lv_iload_n hx hb dX10_begins_78 rfl (lv_at hl 2 rfl) ?_
              refine lv_iload_n hx hb dX10_begins_79 rfl (lv_at hl 0 rfl) ?_
              refine ty_calli (W.runV (As := [.int a1, .int yk]) (rest := [.int yk, .ref r_18]) ⟨hx, hb, hml, hown, hts⟩ (m_X10_startOf l D t cI cL cC gC gE gW gA gT gI gS gM K F S N hm gJ ge gk gf gs gg gr RN a0 a1 yk M uq (by omega) (by omega) (by omega) (by omega) (by omega) k_a0) (cwV 2 hts gu_X10_begins_X10_startOf_183 rfl rfl rfl (by decide +kernel) ⟨Nat.le_of_ble_eq_true rfl, Nat.le_of_ble_eq_true rfl⟩) (tP_V hG hE at_53 rfl) rfl rfl hl.1 rfl (lv_room (Nat.le_of_ble_eq_true rfl)) dX10_begins_80 ⟨Nat.le_of_ble_eq_true rfl, Nat.le_of_ble_eq_true rfl⟩) hS (fun k h => by simp [wr0] at h) (fun r_86 H locs hp_87 hG hS o_88 => ?_)
              have at_53 := va_at.keptC at_53 o_88 k_a0 rfl
              refine lv_i2l (v := r_86.toInt64) hx hb dX10_begins_83 rfl ?_
              obtain ⟨f_90, at_91, h_92⟩ := mF_o47 hG h_19
              have b_93 : vp_in yk 280 := (q_in (by omega) (by omega))
              refine ty_last (F2 := (mF cI cL cC gC gE gW gA gT gI gS gM K F S N hm gJ ge gk gf gs gg gr RN)) hx hb hK hG hS 1 at_91 (by rw [h_19]; rfl) rfl b_93 (by rw [h_19]; exact ⟨_, rfl, gHr_ne ⟨by omega, by omega⟩ h_92⟩) tFF dX10_begins_84 (fun H locs hG hS at_94 o_95 => ?_)
              have at_53 := va_at.keptK at_53 o_95 h_19 k_a0 rfl
              obtain ⟨x_96, e_97⟩ : ∃ y : Int32, y = yk + Int32.ofInt 1 := ⟨_, rfl⟩
              have i_x_96 : x_96.toInt = yk.toInt + 1 := by rw [e_97, show Int32.ofInt 1 = 1 by decide]; exact (q_add (by rw [show (1 : Int32).toInt = 1 by decide]; omega) (by rw [show (1 : Int32).toInt = 1 by decide]; omega)).trans (by rw [show (1 : Int32).toInt = 1 by decide])
              refine lv_iinc (v := x_96) (lv' := [(3, .int x_96), (0, .ref a0), (1, .int a1), (2, .int a2)]) hx hb dX10_begins_85 hl (k := 0) rfl e_97.symm (by decide) rfl (fun ls hl => ?_)
              refine lv_goto (tgt := 44) hx hb dX10_begins_88 (by decide) ?_
              exact (hWW2 _ _ _).mp (ih2 x_96 H locs ls (by omega) (by omega) (by omega) hG hS (lv_sub hl [0, 1, 2, 3] rfl))
    have zi_0 : (0 : Int32).toInt = 0 := by decide
    exact lp2 (16 - (0 : Int32).toInt : Int).toNat 0 H locs ls (by omega) (by omega) (by omega) hG hS (lv_sub hl [0, 1, 2, 3] rfl)
  have lp1 : ∀ (kk1 : Nat) (yk : Int32) (hm : Int) (H1 : Heap) (locs1 : List Loc) (ls1 : Array Slot), 280 - yk.toInt ≤ (kk1 : Int) → (0 ≤ yk.toInt) → (yk.toInt ≤ 280) → (231 < yk.toInt → hm = 0) → tG D (mF cI cL cC gC gE gW gA gT gI gS gM K F S N hm gJ ge gk gf gs gg gr RN) t H1 → tF t wm s.heap H1 locs1 → lv_has ls1 4 [(3, .int yk), (0, .ref a0), (1, .int a1), (2, .int a2)] → WW1 H1 locs1 (F0 m 2 ls1 []) := by
    intro kk1
    induction kk1 with
    | zero =>
      intro yk hm H locs ls hk1 v1_0 v1_1 v1_2 hG hS hl
      refine (hWW1 _ _ _).mpr ?_
      refine lv_iload_n hx hb dX10_begins_2 rfl (lv_at hl 0 rfl) ?_
      refine lv_pc (pc2 := 3) rfl ?_
      refine lv_sipush (v := 280) hx hb dX10_begins_3 (by decide) ?_
      refine lv_icmp_ge (tgt := 42) hx hb dX10_begins_6 (by decide) (fun c_98 => ?_) (fun c_98 => ?_)
      · skip
        have c_98 : 280 ≤ yk.toInt := q_le c_98
        exact (hWW1 _ _ _).mp (kx1 yk hm H locs ls v1_0 v1_1 v1_2 (by omega) hG hS (lv_sub hl [0, 1, 2, 3] rfl))
      · skip
        have c_98 : yk.toInt < 280 := q_nle c_98
        exfalso; omega
    | succ kk1 ih1 =>
      intro yk hm H locs ls hk1 v1_0 v1_1 v1_2 hG hS hl
      refine (hWW1 _ _ _).mpr ?_
      refine lv_iload_n hx hb dX10_begins_2 rfl (lv_at hl 0 rfl) ?_
      refine lv_sipush (v := 280) hx hb dX10_begins_3 (by decide) ?_
      refine lv_icmp_ge (tgt := 42) hx hb dX10_begins_6 (by decide) (fun c_99 => ?_) (fun c_99 => ?_)
      · skip
        have c_99 : 280 ≤ yk.toInt := q_le c_99
        exact (hWW1 _ _ _).mp (kx1 yk hm H locs ls v1_0 v1_1 v1_2 (by omega) hG hS (lv_sub hl [0, 1, 2, 3] rfl))
      · skip
        have c_99 : yk.toInt < 280 := q_nle c_99
        refine lv_aload_n hx hb dX10_begins_9 rfl (lv_at hl 1 rfl) ?_
        obtain ⟨r_100, v_102, r_103, r_105, r_107, r_109, r_111, r_113, r_115, r_117, r_119, r_121, r_123, r_125, r_127, r_129, r_131, r_133, r_135, r_137, r_139, r_141, r_143, v_145, r_146, at_148, h_101, h_104, h_106, h_108, h_110, h_112, h_114, h_116, h_118, h_120, h_122, h_124, h_126, h_128, h_130, h_132, h_134, h_136, h_138, h_140, h_142, h_144, h_147⟩ := mF_o40 hG k_a0
        refine va_get (D := D) (ci := 9) (v := .ref r_113) (C := RX10) (T := TX10) (N := 36) hx hb hts in10 hown hK (va_one at_148) 0 rfl rfl 10 (by decide) (hts (.fieldLink RX10 28 "RiverModelModel" "m" "[J") (List.mem_of_getElem? (i := 1) rfl)) (fun _ h9 => h9) rfl dX10_begins_10 ?_
        refine lv_iload_n hx hb dX10_begins_13 rfl (lv_at hl 0 rfl) ?_
        refine lv_pc (pc2 := 14) rfl ?_
        refine lv_iload_n hx hb dX10_begins_14 rfl (lv_at hl 0 rfl) ?_
        refine lv_i2l (v := yk.toInt64) hx hb dX10_begins_15 rfl ?_
        refine lv_ldc2 hx hb hown (hts (.constantLong RX10 204 (224)) (List.mem_of_getElem? (i := 10) rfl)) dX10_begins_16 ?_
        refine lv_ldc2 hx hb hown (hts (.constantLong RX10 206 (227)) (List.mem_of_getElem? (i := 11) rfl)) dX10_begins_19 ?_
        have zl_224 : (224 : Int64).toInt = 224 := by decide
        have zl_227 : (227 : Int64).toInt = 227 := by decide
        refine ty_calli (W.runS (As := [.long yk.toInt64, .long 224, .long 227]) (rest := [.int yk, .ref r_113]) ⟨hx, hb, hml, hown, hts⟩ (m_X10_in l D t cI cL cC gC gE gW gA gT gI gS gM K F S N hm gJ ge gk gf gs gg gr RN yk.toInt64 224 227 yk.toInt 224 227 uq (q_i2l _) (by decide) (by decide) ) (va_cwS 3 hts gu_X10_begins_X10_in_85 rfl rfl rfl (by decide +kernel) ⟨Nat.le_of_ble_eq_true rfl, Nat.le_of_ble_eq_true rfl⟩) (tP_S hG hE) rfl rfl hl.1 rfl (lv_room (Nat.le_of_ble_eq_true rfl)) dX10_begins_22 ⟨Nat.le_of_ble_eq_true rfl, Nat.le_of_ble_eq_true rfl⟩) hS (fun k h => by simp [wr0] at h) (fun r_149 H locs hp_150 hG hS o_151 => ?_)
        have at_148 := va_at.keptC at_148 o_151 k_a0 rfl
        have hp_150 : (r_149 = 1 ∧ 224 ≤ yk.toInt ∧ yk.toInt ≤ 227) ∨ (r_149 = 0 ∧ (yk.toInt < 224 ∨ 227 < yk.toInt)) := hp_150
        rcases hp_150 with ⟨rfl, p_153, p_154⟩ | ⟨rfl, p_155⟩
        · skip
          refine lv_if_eq (tgt := 34) hx hb dX10_begins_25 (by decide) (fun q => absurd q (by decide)) (fun _ => ?_)
          refine lv_ldc2 hx hb hown (hts (.constantLong RX10 196 (5)) (List.mem_of_getElem? (i := 14) rfl)) dX10_begins_28 ?_
          refine lv_goto (tgt := 35) hx hb dX10_begins_31 (by decide) ?_
          refine lv_pc (pc2 := 35) rfl ?_
          obtain ⟨f_156, at_157, h_158⟩ := mF_o47 hG h_114
          have b_159 : vp_in yk 280 := (q_in (by omega) (by omega))
          have zl_5 : (5 : Int64).toInt = 5 := by decide
          obtain ⟨h_160, gh_160, dh_160⟩ := gHr_ex yk (5 : Int64) (by omega) h_158
          refine ty_last (F2 := (mF cI cL cC gC gE gW gA gT gI gS gM K F S N h_160 gJ ge gk gf gs gg gr RN)) hx hb hK hG hS 1 at_157 (by rw [h_114]; rfl) rfl b_159 (by rw [h_114]; exact ⟨_, rfl, gh_160⟩) (fun hG b hb h0 => by obtain ⟨e, g1, g2⟩ := hG b h0; exact ⟨e, g1, mF_gH (fun h => hb (uq b r_113 (h.trans h_114.symm) h0)) g2⟩) dX10_begins_35 (fun H locs hG hS at_161 o_162 => ?_)
          have at_148 := va_at.keptK at_148 o_162 h_114 k_a0 rfl
          obtain ⟨x_163, e_164⟩ : ∃ y : Int32, y = yk + Int32.ofInt 1 := ⟨_, rfl⟩
          have i_x_163 : x_163.toInt = yk.toInt + 1 := by rw [e_164, show Int32.ofInt 1 = 1 by decide]; exact (q_add (by rw [show (1 : Int32).toInt = 1 by decide]; omega) (by rw [show (1 : Int32).toInt = 1 by decide]; omega)).trans (by rw [show (1 : Int32).toInt = 1 by decide])
          refine lv_iinc (v := x_163) (lv' := [(3, .int x_163), (0, .ref a0), (1, .int a1), (2, .int a2)]) hx hb dX10_begins_36 hl (k := 0) rfl e_164.symm (by decide) rfl (fun ls hl => ?_)
          refine lv_goto (tgt := 2) hx hb dX10_begins_39 (by decide) ?_
          exact (hWW1 _ _ _).mp (ih1 x_163 h_160 H locs ls (by omega) (by omega) (by omega) (by omega) hG hS (lv_sub hl [0, 1, 2, 3] rfl))
        · skip
          refine lv_if_eq (tgt := 34) hx hb dX10_begins_25 (by decide) (fun _ => ?_) (fun q => absurd (by decide) q)
          refine lv_lconst (v := 0) hx hb dX10_begins_34 (by decide) ?_
          obtain ⟨f_165, at_166, h_167⟩ := mF_o47 hG h_114
          have b_168 : vp_in yk 280 := (q_in (by omega) (by omega))
          have zl_0 : (0 : Int64).toInt = 0 := by decide
          obtain ⟨h_169, gh_169, dh_169⟩ := gHr_ex yk (0 : Int64) (by omega) h_167
          refine ty_last (F2 := (mF cI cL cC gC gE gW gA gT gI gS gM K F S N h_169 gJ ge gk gf gs gg gr RN)) hx hb hK hG hS 1 at_166 (by rw [h_114]; rfl) rfl b_168 (by rw [h_114]; exact ⟨_, rfl, gh_169⟩) (fun hG b hb h0 => by obtain ⟨e, g1, g2⟩ := hG b h0; exact ⟨e, g1, mF_gH (fun h => hb (uq b r_113 (h.trans h_114.symm) h0)) g2⟩) dX10_begins_35 (fun H locs hG hS at_170 o_171 => ?_)
          have at_148 := va_at.keptK at_148 o_171 h_114 k_a0 rfl
          obtain ⟨x_172, e_173⟩ : ∃ y : Int32, y = yk + Int32.ofInt 1 := ⟨_, rfl⟩
          have i_x_172 : x_172.toInt = yk.toInt + 1 := by rw [e_173, show Int32.ofInt 1 = 1 by decide]; exact (q_add (by rw [show (1 : Int32).toInt = 1 by decide]; omega) (by rw [show (1 : Int32).toInt = 1 by decide]; omega)).trans (by rw [show (1 : Int32).toInt = 1 by decide])
          refine lv_iinc (v := x_172) (lv' := [(3, .int x_172), (0, .ref a0), (1, .int a1), (2, .int a2)]) hx hb dX10_begins_36 hl (k := 0) rfl e_173.symm (by decide) rfl (fun ls hl => ?_)
          refine lv_goto (tgt := 2) hx hb dX10_begins_39 (by decide) ?_
          exact (hWW1 _ _ _).mp (ih1 x_172 h_169 H locs ls (by omega) (by omega) (by omega) (by omega) hG hS (lv_sub hl [0, 1, 2, 3] rfl))
  have zi_0 : (0 : Int32).toInt = 0 := by decide
  exact lp1 (280 - (0 : Int32).toInt : Int).toNat 0 gH H locs ls (by omega) (by omega) (by omega) (by omega) hG hS (lv_sub hl [0, 1, 2, 3] rfl)

def uX10_becomes : List Cond := .code yX10_becomes cX10_becomes 3 none :: ([.methodLink RX10 170 yX10_copies, .instanceMethod yX10_copies, .selects RX10 yX10_copies yX10_copies, .initialized RX10, .fieldLink RX10 173 "RiverModelModel" "isBuilt" "Z", .fieldLink RX10 177 "RiverModelModel" "isSwapped" "Z", .fieldLink RX10 180 "RiverModelModel" "keptMany" "I", .methodLink RX10 186 yX10_begins, .instanceMethod yX10_begins, .selects RX10 yX10_begins yX10_begins, .fieldLink RX10 71 "RiverModelModel" "startB" "[I", .methodLink RX10 183 yX10_startOf, .instanceMethod yX10_startOf, .selects RX10 yX10_startOf yX10_startOf, .code yX10_copies cX10_copies 4 none, .fieldLink RX10 22 "RiverModelModel" "number" "[I", .fieldLink RX10 13 "RiverModelModel" "kind" "[I", .fieldLink RX10 16 "RiverModelModel" "first" "[I", .fieldLink RX10 19 "RiverModelModel" "second" "[I", .code yX10_begins cX10_begins 4 none, .fieldLink RX10 28 "RiverModelModel" "m" "[J", .methodLink RX10 208 yX10_isStore, .instanceMethod yX10_isStore, .selects RX10 yX10_isStore yX10_isStore, .constantLong RX10 204 (224), .constantLong RX10 206 (227), .methodLink RX10 85 yX10_in, .static yX10_in, .constantLong RX10 196 (5), .code yX10_startOf cX10_startOf 4 (some .int), .methodLink RX10 166 yX10_storeAt, .instanceMethod yX10_storeAt, .selects RX10 yX10_storeAt yX10_storeAt, .code yX10_storeAt cX10_storeAt 5 (some .int), .fieldLink RX10 163 "RiverModelModel" "items" "I", .code yX10_isStore cX10_isStore 2 (some .boolean), .code yX10_in cX10_in 6 (some .boolean)] ++ wsX100)
set_option maxRecDepth 20000 in
theorem gu_X10_becomes_X10_copies_170 : GoodIn uX10_becomes (wsV RX10 170 RX10 yX10_copies uX10_copies) := goodIn_r _ [1, 2, 3, 4, 15, 16, 17, 18, 19, 38, 39, 40, 41, 42, 43, 44, 45, 46, 47, 48, 49, 50, 51, 52, 53, 54, 55, 56, 57, 58, 59, 60, 61, 62, 63, 64, 65, 66, 67, 68, 69, 70, 71, 72, 73] rfl (by decide +kernel)
set_option maxRecDepth 20000 in
theorem gu_X10_becomes_X10_begins_186 : GoodIn uX10_becomes (wsV RX10 186 RX10 yX10_begins uX10_begins) := goodIn_r _ [8, 9, 10, 4, 20, 21, 12, 13, 14, 4, 22, 23, 24, 11, 25, 26, 27, 28, 29, 30, 31, 32, 33, 16, 34, 35, 17, 18, 36, 37, 38, 39, 40, 41, 42, 43, 44, 45, 46, 47, 48, 49, 50, 51, 52, 53, 54, 55, 56, 57, 58, 59, 60, 61, 62, 63, 64, 65, 66, 67, 68, 69, 70, 71, 72, 73] rfl (by decide +kernel)
set_option maxRecDepth 20000 in
theorem gu_X10_becomes_X10_startOf_183 : GoodIn uX10_becomes (wsV RX10 183 RX10 yX10_startOf uX10_startOf) := goodIn_r _ [12, 13, 14, 4, 30, 31, 32, 33, 4, 16, 34, 35, 17, 18, 38, 39, 40, 41, 42, 43, 44, 45, 46, 47, 48, 49, 50, 51, 52, 53, 54, 55, 56, 57, 58, 59, 60, 61, 62, 63, 64, 65, 66, 67, 68, 69, 70, 71, 72, 73] rfl (by decide +kernel)
set_option maxHeartbeats 4000000 in
set_option maxRecDepth 100000 in
theorem m_X10_becomes (l : Launch) (D : va_G) (t : Nat → Nat) (cI cL cC : ClassId) (gC : Int32) (gE : Int32) (gW : Nat → Int32) (gA : Nat → Int32) (gT : Nat → Int32) (gI : Int32) (gS : Int32) (gM : Int32) (K : Nat → Int32) (F : Nat → Int32) (S : Nat → Int32) (N : Nat → Int32) (gH : Int) (gJ : Int) (ge : Int32) (gk : Int32) (gf : Int32) (gs : Int32) (gg : Int32) (gr : Int32) (RN : Nat → Int32) (a0 : Nat) (a1 : Int32) (M : Int) (uq : ∀ b c : Nat, t b = t c → t b ≠ 0 → b = c) (hMb : 40 * a1.toInt = M) (hM1 : 1 ≤ a1.toInt) (hM2 : a1.toInt ≤ 2) (hI0 : 0 ≤ gI.toInt) (hI4 : gI.toInt ≤ 40) (hO : okM K F S N M gI.toInt) (k_a0 : t a0 = 40) : tMx (Z := (Nat → Int32) × (Nat → Int32) × (Nat → Int32) × (Nat → Int32) × (Int32) × (Int32) × (Int)) l yX10_becomes uX10_becomes 3 70 D (mF cI cL cC gC gE gW gA gT gI gS gM K F S N gH gJ ge gk gf gs gg gr RN) (fun z => (mF cI cL cC gC gE gW gA gT gI z.2.2.2.2.1 z.2.2.2.2.2.1 z.1 z.2.1 z.2.2.1 z.2.2.2.1 z.2.2.2.2.2.2 gJ ge gk gf gs gg gr RN)) t cI cL cC [.ref a0, .int a1] wB (xV (fun (z : (Nat → Int32) × (Nat → Int32) × (Nat → Int32) × (Nat → Int32) × (Int32) × (Int32) × (Int)) => z.2.2.2.2.1.toInt = 0 ∧ z.2.2.2.2.2.1.toInt = 0 ∧ z.2.2.2.2.2.2 = 0 ∧ okM z.1 z.2.1 z.2.2.1 z.2.2.2.1 0 gI.toInt)) := by
  refine tMx.ofW (cc := cX10_becomes) (maxL := 3) (ret := none) (by decide) rfl (Nat.le_of_ble_eq_true rfl) ?_
  intro p e s m below meth c hx hb hr hml hown hts hlk H locs hG hK hE hS ls hl
  have hl : lv_has ls 3 [(0, .ref a0), (1, .int a1)] := hl
  have in10 : ∀ w ∈ wsX100, w ∈ uX10_becomes := fun w h => List.mem_cons_of_mem _ (List.mem_append_right _ h)
  refine lv_aload_n hx hb dX10_becomes_0 rfl (lv_at hl 0 rfl) ?_
  refine lv_iconst (v := 0) hx hb dX10_becomes_1 (by decide) ?_
  refine lv_iload_n hx hb dX10_becomes_2 rfl (lv_at hl 1 rfl) ?_
  have zi_0 : (0 : Int32).toInt = 0 := by decide
  obtain ⟨r_1, v_3, r_4, r_6, r_8, r_10, r_12, r_14, r_16, r_18, r_20, r_22, r_24, r_26, r_28, r_30, r_32, r_34, r_36, r_38, r_40, r_42, r_44, v_46, r_47, at_49, h_2, h_5, h_7, h_9, h_11, h_13, h_15, h_17, h_19, h_21, h_23, h_25, h_27, h_29, h_31, h_33, h_35, h_37, h_39, h_41, h_43, h_45, h_48⟩ := mF_o40 hG k_a0
  refine tx_callv (W.runV (As := [.int 0, .int a1]) (rest := []) ⟨hx, hb, hml, hown, hts⟩ (m_X10_copies l D t cI cL cC gC gE gW gA gT gI gS gM K F S N gH gJ ge gk gf gs gg gr RN a0 0 a1 0 M 0 (3 * M) uq (by omega) (by omega) (by omega) (by omega) (by omega) (by omega) (by omega) (by omega) (by omega) k_a0) (cwV 2 hts gu_X10_becomes_X10_copies_170 rfl rfl rfl (by decide +kernel) ⟨Nat.le_of_ble_eq_true rfl, Nat.le_of_ble_eq_true rfl⟩) (tP_V hG hE at_49 rfl) rfl rfl hl.1 rfl (lv_room (Nat.le_of_ble_eq_true rfl)) dX10_becomes_3 ⟨Nat.le_of_ble_eq_true rfl, Nat.le_of_ble_eq_true rfl⟩) hS (wrL_sub (by decide)) (fun zz_53 H locs hp_51 hG hS o_52 => ?_)
  obtain ⟨K_54, F_55, S_56, N_57⟩ := zz_53
  have at_49 := va_at.keptC at_49 o_52 k_a0 rfl
  replace hG : tG D (mF cI cL cC gC gE gW gA gT gI gS gM K_54 F_55 S_56 N_57 gH gJ ge gk gf gs gg gr RN) t H := hG
  have hp_51 : cpd K K_54 0 M 40 ∧ cpd F F_55 0 M 40 ∧ cpd S S_56 0 M 40 ∧ cpd N N_57 0 (3 * M) 120 := hp_51
  obtain ⟨p_58, p_59, p_60, p_61⟩ := hp_51
  have hOb : okM K_54 F_55 S_56 N_57 0 gI.toInt := okM.cpy (a := 0) (b := M) (by omega) (by omega) (by omega) p_58 p_59 p_60 p_61 hO
  refine lv_aload_n hx hb dX10_becomes_6 rfl (lv_at hl 0 rfl) ?_
  refine lv_iconst (v := 1) hx hb dX10_becomes_7 (by decide) ?_
  have zi_1 : (1 : Int32).toInt = 1 := by decide
  refine ty_put (D := D) (ci := 9) (v := .int 1) (ty := .boolean) (C := RX10) (T := TX10) (N := 36) (F2 := (mF cI cL cC gC gE gW gA gT gI gS gM K_54 F_55 S_56 N_57 gH gJ ge gk gf gs gg gr RN)) hx hb hts in10 tyX10 tyX10_ok nmX10 hown hK hG hS at_49 (by rw [k_a0]; rfl) rfl 2 (by decide) (hts (.fieldLink RX10 173 "RiverModelModel" "isBuilt" "Z") (List.mem_of_getElem? (i := 5) rfl)) (fun _ h9 => h9) rfl (by decide +kernel) (by decide) (by decide) (Nat.le_of_ble_eq_true rfl) (by rw [k_a0]; exact ⟨r_1, 1, r_4, r_6, r_8, r_10, r_12, r_14, r_16, r_18, r_20, r_22, r_24, r_26, r_28, r_30, r_32, r_34, r_36, r_38, r_40, r_42, r_44, v_46, r_47, rfl, h_2, h_5, h_7, h_9, h_11, h_13, h_15, h_17, h_19, h_21, h_23, h_25, h_27, h_29, h_31, h_33, h_35, h_37, h_39, h_41, h_43, h_45, h_48⟩) tFF dX10_becomes_8 (fun H locs hG hS at_62 o_63 => ?_)
  have at_62 : va_at D vwCl (a0, .inr (9, [.int gC, .ref r_1, .int 1, .int gI, .ref r_4, .ref r_6, .ref r_8, .ref r_10, .int gS, .ref r_12, .ref r_14, .ref r_16, .ref r_18, .int gM, .ref r_20, .ref r_22, .ref r_24, .int gE, .ref r_26, .ref r_28, .ref r_30, .ref r_32, .ref r_34, .ref r_36, .ref r_38, .ref r_40, .ref r_42, .int ge, .int gk, .int gf, .int gs, .int gg, .ref r_44, .int gr, .int v_46, .ref r_47])) H := at_62
  refine lv_pc (pc2 := 11) rfl ?_
  refine lv_aload_n hx hb dX10_becomes_11 rfl (lv_at hl 0 rfl) ?_
  refine lv_iconst (v := 0) hx hb dX10_becomes_12 (by decide) ?_
  refine ty_put (D := D) (ci := 9) (v := .int 0) (ty := .boolean) (C := RX10) (T := TX10) (N := 36) (F2 := (mF cI cL cC gC gE gW gA gT gI 0 gM K_54 F_55 S_56 N_57 gH gJ ge gk gf gs gg gr RN)) hx hb hts in10 tyX10 tyX10_ok nmX10 hown hK hG hS at_62 (by rw [k_a0]; rfl) rfl 8 (by decide) (hts (.fieldLink RX10 177 "RiverModelModel" "isSwapped" "Z") (List.mem_of_getElem? (i := 6) rfl)) (fun _ h9 => h9) rfl (by decide +kernel) (by decide) (by decide) (Nat.le_of_ble_eq_true rfl) (by rw [k_a0]; exact ⟨r_1, 1, r_4, r_6, r_8, r_10, r_12, r_14, r_16, r_18, r_20, r_22, r_24, r_26, r_28, r_30, r_32, r_34, r_36, r_38, r_40, r_42, r_44, v_46, r_47, rfl, h_2, h_5, h_7, h_9, h_11, h_13, h_15, h_17, h_19, h_21, h_23, h_25, h_27, h_29, h_31, h_33, h_35, h_37, h_39, h_41, h_43, h_45, h_48⟩) (fun hG b hb h0 => by obtain ⟨e, g1, g2⟩ := hG b h0; exact ⟨e, g1, mF_gS (fun h => hb (uq b a0 (h.trans k_a0.symm) h0)) g2⟩) dX10_becomes_13 (fun H locs hG hS at_64 o_65 => ?_)
  have at_64 : va_at D vwCl (a0, .inr (9, [.int gC, .ref r_1, .int 1, .int gI, .ref r_4, .ref r_6, .ref r_8, .ref r_10, .int 0, .ref r_12, .ref r_14, .ref r_16, .ref r_18, .int gM, .ref r_20, .ref r_22, .ref r_24, .int gE, .ref r_26, .ref r_28, .ref r_30, .ref r_32, .ref r_34, .ref r_36, .ref r_38, .ref r_40, .ref r_42, .int ge, .int gk, .int gf, .int gs, .int gg, .ref r_44, .int gr, .int v_46, .ref r_47])) H := at_64
  refine lv_aload_n hx hb dX10_becomes_16 rfl (lv_at hl 0 rfl) ?_
  refine lv_iconst (v := 0) hx hb dX10_becomes_17 (by decide) ?_
  refine ty_put (D := D) (ci := 9) (v := .int 0) (ty := .int) (C := RX10) (T := TX10) (N := 36) (F2 := (mF cI cL cC gC gE gW gA gT gI 0 0 K_54 F_55 S_56 N_57 gH gJ ge gk gf gs gg gr RN)) hx hb hts in10 tyX10 tyX10_ok nmX10 hown hK hG hS at_64 (by rw [k_a0]; rfl) rfl 13 (by decide) (hts (.fieldLink RX10 180 "RiverModelModel" "keptMany" "I") (List.mem_of_getElem? (i := 7) rfl)) (fun _ h9 => h9) rfl (by decide +kernel) rfl rfl (Nat.le_of_ble_eq_true rfl) (by rw [k_a0]; exact ⟨r_1, 1, r_4, r_6, r_8, r_10, r_12, r_14, r_16, r_18, r_20, r_22, r_24, r_26, r_28, r_30, r_32, r_34, r_36, r_38, r_40, r_42, r_44, v_46, r_47, rfl, h_2, h_5, h_7, h_9, h_11, h_13, h_15, h_17, h_19, h_21, h_23, h_25, h_27, h_29, h_31, h_33, h_35, h_37, h_39, h_41, h_43, h_45, h_48⟩) (fun hG b hb h0 => by obtain ⟨e, g1, g2⟩ := hG b h0; exact ⟨e, g1, mF_gM (fun h => hb (uq b a0 (h.trans k_a0.symm) h0)) g2⟩) dX10_becomes_18 (fun H locs hG hS at_66 o_67 => ?_)
  have at_66 : va_at D vwCl (a0, .inr (9, [.int gC, .ref r_1, .int 1, .int gI, .ref r_4, .ref r_6, .ref r_8, .ref r_10, .int 0, .ref r_12, .ref r_14, .ref r_16, .ref r_18, .int 0, .ref r_20, .ref r_22, .ref r_24, .int gE, .ref r_26, .ref r_28, .ref r_30, .ref r_32, .ref r_34, .ref r_36, .ref r_38, .ref r_40, .ref r_42, .int ge, .int gk, .int gf, .int gs, .int gg, .ref r_44, .int gr, .int v_46, .ref r_47])) H := at_66
  refine lv_iconst (v := 0) hx hb dX10_becomes_21 (by decide) ?_
  refine lv_istore_n (lv' := [(2, .int 0), (0, .ref a0), (1, .int a1)]) hx hb dX10_becomes_22 rfl hl (by decide) rfl (fun ls hl => ?_)
  refine lv_pc (pc2 := 23) rfl ?_
  refine lp_gen (fun WW68 hWW68 => ?_)
  have kx68 : ∀ (yk : Int32) (H1 : Heap) (locs1 : List Loc) (ls1 : Array Slot), (0 ≤ yk.toInt) → (yk.toInt ≤ 16) → tG D (mF cI cL cC gC gE gW gA gT gI 0 0 K_54 F_55 S_56 N_57 gH gJ ge gk gf gs gg gr RN) t H1 → tF t wB s.heap H1 locs1 → lv_has ls1 3 [(2, .int yk), (0, .ref a0), (1, .int a1)] → WW68 H1 locs1 (F0 m 47 ls1 []) := by
    intro yk H locs ls v68_0 v68_1 hG hS hl
    refine (hWW68 _ _ _).mpr ?_
    refine lv_pc (pc2 := 47) rfl ?_
    refine lv_aload_n hx hb dX10_becomes_47 rfl (lv_at hl 1 rfl) ?_
    refine lv_iconst (v := 0) hx hb dX10_becomes_48 (by decide) ?_
    refine lv_iconst (v := 0) hx hb dX10_becomes_49 (by decide) ?_
    obtain ⟨r_69, v_71, r_72, r_74, r_76, r_78, r_80, r_82, r_84, r_86, r_88, r_90, r_92, r_94, r_96, r_98, r_100, r_102, r_104, r_106, r_108, r_110, r_112, v_114, r_115, at_117, h_70, h_73, h_75, h_77, h_79, h_81, h_83, h_85, h_87, h_89, h_91, h_93, h_95, h_97, h_99, h_101, h_103, h_105, h_107, h_109, h_111, h_113, h_116⟩ := mF_o40 hG k_a0
    refine tx_callv (W.runV (As := [.int 0, .int 0]) (rest := []) ⟨hx, hb, hml, hown, hts⟩ (m_X10_begins l D t cI cL cC gC gE gW gA gT gI 0 0 K_54 F_55 S_56 N_57 gH gJ ge gk gf gs gg gr RN a0 0 0 0 uq (by omega) (by omega) (by omega) (by omega) (by omega) k_a0) (cwV 2 hts gu_X10_becomes_X10_begins_186 rfl rfl rfl (by decide +kernel) ⟨Nat.le_of_ble_eq_true rfl, Nat.le_of_ble_eq_true rfl⟩) (tP_V hG hE at_117 rfl) rfl rfl hl.1 rfl (lv_room (Nat.le_of_ble_eq_true rfl)) dX10_becomes_50 ⟨Nat.le_of_ble_eq_true rfl, Nat.le_of_ble_eq_true rfl⟩) hS (wrL_sub (by decide)) (fun gH_122 H locs hp_119 hG hS o_120 => ?_)
    have at_117 := va_at.keptC at_117 o_120 k_a0 rfl
    replace hG : tG D (mF cI cL cC gC gE gW gA gT gI 0 0 K_54 F_55 S_56 N_57 gH_122 gJ ge gk gf gs gg gr RN) t H := hG
    have hp_119 : gH_122 = 0 := hp_119
    have p_123 := hp_119
    exact tx_vret (z := (K_54, F_55, S_56, N_57, 0, 0, gH_122)) hx hb hr hlk hG hS ⟨(by show (0 : Int32).toInt = 0; omega), (by show (0 : Int32).toInt = 0; omega), (by show gH_122 = 0; omega), (show okM K_54 F_55 S_56 N_57 0 gI.toInt from hOb)⟩ dX10_becomes_53
  have lp68 : ∀ (kk68 : Nat) (yk : Int32) (H1 : Heap) (locs1 : List Loc) (ls1 : Array Slot), 16 - yk.toInt ≤ (kk68 : Int) → (0 ≤ yk.toInt) → (yk.toInt ≤ 16) → tG D (mF cI cL cC gC gE gW gA gT gI 0 0 K_54 F_55 S_56 N_57 gH gJ ge gk gf gs gg gr RN) t H1 → tF t wB s.heap H1 locs1 → lv_has ls1 3 [(2, .int yk), (0, .ref a0), (1, .int a1)] → WW68 H1 locs1 (F0 m 23 ls1 []) := by
    intro kk68
    induction kk68 with
    | zero =>
      intro yk H locs ls hk68 v68_0 v68_1 hG hS hl
      refine (hWW68 _ _ _).mpr ?_
      refine lv_iload_n hx hb dX10_becomes_23 rfl (lv_at hl 0 rfl) ?_
      refine lv_bipush (v := 16) hx hb dX10_becomes_24 (by decide) ?_
      refine lv_icmp_ge (tgt := 47) hx hb dX10_becomes_26 (by decide) (fun c_124 => ?_) (fun c_124 => ?_)
      · skip
        have c_124 : 16 ≤ yk.toInt := q_le c_124
        exact (hWW68 _ _ _).mp (kx68 yk H locs ls v68_0 v68_1 hG hS (lv_sub hl [0, 1, 2] rfl))
      · skip
        have c_124 : yk.toInt < 16 := q_nle c_124
        exfalso; omega
    | succ kk68 ih68 =>
      intro yk H locs ls hk68 v68_0 v68_1 hG hS hl
      refine (hWW68 _ _ _).mpr ?_
      refine lv_pc (pc2 := 23) rfl ?_
      refine lv_iload_n hx hb dX10_becomes_23 rfl (lv_at hl 0 rfl) ?_
      refine lv_bipush (v := 16) hx hb dX10_becomes_24 (by decide) ?_
      refine lv_icmp_ge (tgt := 47) hx hb dX10_becomes_26 (by decide) (fun c_125 => ?_) (fun c_125 => ?_)
      · skip
        have c_125 : 16 ≤ yk.toInt := q_le c_125
        exact (hWW68 _ _ _).mp (kx68 yk H locs ls v68_0 v68_1 hG hS (lv_sub hl [0, 1, 2] rfl))
      · skip
        have c_125 : yk.toInt < 16 := q_nle c_125
        refine lv_aload_n hx hb dX10_becomes_29 rfl (lv_at hl 1 rfl) ?_
        obtain ⟨r_126, v_128, r_129, r_131, r_133, r_135, r_137, r_139, r_141, r_143, r_145, r_147, r_149, r_151, r_153, r_155, r_157, r_159, r_161, r_163, r_165, r_167, r_169, v_171, r_172, at_174, h_127, h_130, h_132, h_134, h_136, h_138, h_140, h_142, h_144, h_146, h_148, h_150, h_152, h_154, h_156, h_158, h_160, h_162, h_164, h_166, h_168, h_170, h_173⟩ := mF_o40 hG k_a0
        refine va_get (D := D) (ci := 9) (v := .ref r_167) (C := RX10) (T := TX10) (N := 36) hx hb hts in10 hown hK (va_one at_174) 0 rfl rfl 26 (by decide) (hts (.fieldLink RX10 71 "RiverModelModel" "startB" "[I") (List.mem_of_getElem? (i := 11) rfl)) (fun _ h9 => h9) rfl dX10_becomes_30 ?_
        refine lv_iload_n hx hb dX10_becomes_33 rfl (lv_at hl 0 rfl) ?_
        refine lv_aload_n hx hb dX10_becomes_34 rfl (lv_at hl 1 rfl) ?_
        refine lv_iconst (v := 0) hx hb dX10_becomes_35 (by decide) ?_
        refine lv_pc (pc2 := 36) rfl ?_
        refine lv_iload_n hx hb dX10_becomes_36 rfl (lv_at hl 0 rfl) ?_
        refine ty_calli (W.runV (As := [.int 0, .int yk]) (rest := [.int yk, .ref r_167]) ⟨hx, hb, hml, hown, hts⟩ (m_X10_startOf l D t cI cL cC gC gE gW gA gT gI 0 0 K_54 F_55 S_56 N_57 gH gJ ge gk gf gs gg gr RN a0 0 yk 0 uq (by omega) (by omega) (by omega) (by omega) (by omega) k_a0) (cwV 2 hts gu_X10_becomes_X10_startOf_183 rfl rfl rfl (by decide +kernel) ⟨Nat.le_of_ble_eq_true rfl, Nat.le_of_ble_eq_true rfl⟩) (tP_V hG hE at_174 rfl) rfl rfl hl.1 rfl (lv_room (Nat.le_of_ble_eq_true rfl)) dX10_becomes_37 ⟨Nat.le_of_ble_eq_true rfl, Nat.le_of_ble_eq_true rfl⟩) hS (fun k h => by simp [wr0] at h) (fun r_175 H locs hp_176 hG hS o_177 => ?_)
        have at_174 := va_at.keptC at_174 o_177 k_a0 rfl
        obtain ⟨f_179, at_180⟩ := mF_o61 hG h_168
        have b_181 : vp_in yk 16 := (q_in (by omega) (by omega))
        refine ty_iast (F2 := (mF cI cL cC gC gE gW gA gT gI 0 0 K_54 F_55 S_56 N_57 gH gJ ge gk gf gs gg gr RN)) hx hb hK hG hS 0 at_180 (by rw [h_168]; rfl) rfl b_181 (by rw [h_168]; exact ⟨_, rfl⟩) tFF dX10_becomes_40 (fun H locs hG hS at_182 o_183 => ?_)
        have at_174 := va_at.keptK at_174 o_183 h_168 k_a0 rfl
        obtain ⟨x_184, e_185⟩ : ∃ y : Int32, y = yk + Int32.ofInt 1 := ⟨_, rfl⟩
        have i_x_184 : x_184.toInt = yk.toInt + 1 := by rw [e_185, show Int32.ofInt 1 = 1 by decide]; exact (q_add (by rw [show (1 : Int32).toInt = 1 by decide]; omega) (by rw [show (1 : Int32).toInt = 1 by decide]; omega)).trans (by rw [show (1 : Int32).toInt = 1 by decide])
        refine lv_iinc (v := x_184) (lv' := [(2, .int x_184), (0, .ref a0), (1, .int a1)]) hx hb dX10_becomes_41 hl (k := 0) rfl e_185.symm (by decide) rfl (fun ls hl => ?_)
        refine lv_goto (tgt := 23) hx hb dX10_becomes_44 (by decide) ?_
        exact (hWW68 _ _ _).mp (ih68 x_184 H locs ls (by omega) (by omega) (by omega) hG hS (lv_sub hl [0, 1, 2] rfl))
  exact lp68 (16 - (0 : Int32).toInt : Int).toNat 0 H locs ls (by omega) (by omega) (by omega) hG hS (lv_sub hl [0, 1, 2] rfl)
