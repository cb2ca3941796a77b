theorem dX10_byOpenings_0 : decode cX10_byOpenings 0 = .ok (.aload_n 0, 1) := by decide +kernel
theorem dX10_byOpenings_1 : decode cX10_byOpenings 1 = .ok (.invokevirtual 274, 3) := by decide +kernel
theorem dX10_byOpenings_4 : decode cX10_byOpenings 4 = .ok (.ldc2_w 236, 3) := by decide +kernel
theorem dX10_byOpenings_7 : decode cX10_byOpenings 7 = .ok (.lstore 8, 2) := by decide +kernel
theorem dX10_byOpenings_9 : decode cX10_byOpenings 9 = .ok (.iconst 1, 1) := by decide +kernel
theorem dX10_byOpenings_10 : decode cX10_byOpenings 10 = .ok (.istore 10, 2) := by decide +kernel
theorem dX10_byOpenings_12 : decode cX10_byOpenings 12 = .ok (.sipush 216, 3) := by decide +kernel
theorem dX10_byOpenings_15 : decode cX10_byOpenings 15 = .ok (.istore 11, 2) := by decide +kernel
theorem dX10_byOpenings_17 : decode cX10_byOpenings 17 = .ok (.iconst 0, 1) := by decide +kernel
theorem dX10_byOpenings_18 : decode cX10_byOpenings 18 = .ok (.istore 12, 2) := by decide +kernel
theorem dX10_byOpenings_20 : decode cX10_byOpenings 20 = .ok (.iload 12, 2) := by decide +kernel
theorem dX10_byOpenings_22 : decode cX10_byOpenings 22 = .ok (.iconst 4, 1) := by decide +kernel
theorem dX10_byOpenings_23 : decode cX10_byOpenings 23 = .ok (.if_icmp .ge 108, 3) := by decide +kernel
theorem dX10_byOpenings_26 : decode cX10_byOpenings 26 = .ok (.aload_n 0, 1) := by decide +kernel
theorem dX10_byOpenings_27 : decode cX10_byOpenings 27 = .ok (.getfield 28, 3) := by decide +kernel
theorem dX10_byOpenings_30 : decode cX10_byOpenings 30 = .ok (.sipush 224, 3) := by decide +kernel
theorem dX10_byOpenings_33 : decode cX10_byOpenings 33 = .ok (.iload_n 1, 1) := by decide +kernel
theorem dX10_byOpenings_34 : decode cX10_byOpenings 34 = .ok (.iadd, 1) := by decide +kernel
theorem dX10_byOpenings_35 : decode cX10_byOpenings 35 = .ok (.ldc2_w 261, 3) := by decide +kernel
theorem dX10_byOpenings_38 : decode cX10_byOpenings 38 = .ok (.iload 7, 2) := by decide +kernel
theorem dX10_byOpenings_40 : decode cX10_byOpenings 40 = .ok (.iload 11, 2) := by decide +kernel
theorem dX10_byOpenings_42 : decode cX10_byOpenings 42 = .ok (.idiv, 1) := by decide +kernel
theorem dX10_byOpenings_43 : decode cX10_byOpenings 43 = .ok (.bipush 6, 2) := by decide +kernel
theorem dX10_byOpenings_45 : decode cX10_byOpenings 45 = .ok (.irem, 1) := by decide +kernel
theorem dX10_byOpenings_46 : decode cX10_byOpenings 46 = .ok (.i2l, 1) := by decide +kernel
theorem dX10_byOpenings_47 : decode cX10_byOpenings 47 = .ok (.lmul, 1) := by decide +kernel
theorem dX10_byOpenings_48 : decode cX10_byOpenings 48 = .ok (.lastore, 1) := by decide +kernel
theorem dX10_byOpenings_49 : decode cX10_byOpenings 49 = .ok (.iload 11, 2) := by decide +kernel
theorem dX10_byOpenings_51 : decode cX10_byOpenings 51 = .ok (.bipush 6, 2) := by decide +kernel
theorem dX10_byOpenings_53 : decode cX10_byOpenings 53 = .ok (.idiv, 1) := by decide +kernel
theorem dX10_byOpenings_54 : decode cX10_byOpenings 54 = .ok (.istore 11, 2) := by decide +kernel
theorem dX10_byOpenings_56 : decode cX10_byOpenings 56 = .ok (.iconst 0, 1) := by decide +kernel
theorem dX10_byOpenings_57 : decode cX10_byOpenings 57 = .ok (.istore 13, 2) := by decide +kernel
theorem dX10_byOpenings_59 : decode cX10_byOpenings 59 = .ok (.iload 13, 2) := by decide +kernel
theorem dX10_byOpenings_61 : decode cX10_byOpenings 61 = .ok (.iload_n 2, 1) := by decide +kernel
theorem dX10_byOpenings_62 : decode cX10_byOpenings 62 = .ok (.if_icmp .ge 63, 3) := by decide +kernel
theorem dX10_byOpenings_65 : decode cX10_byOpenings 65 = .ok (.iload 10, 2) := by decide +kernel
theorem dX10_byOpenings_67 : decode cX10_byOpenings 67 = .ok (.ifCond .eq 58, 3) := by decide +kernel
theorem dX10_byOpenings_70 : decode cX10_byOpenings 70 = .ok (.aload_n 0, 1) := by decide +kernel
theorem dX10_byOpenings_71 : decode cX10_byOpenings 71 = .ok (.iconst 0, 1) := by decide +kernel
theorem dX10_byOpenings_72 : decode cX10_byOpenings 72 = .ok (.iconst 0, 1) := by decide +kernel
theorem dX10_byOpenings_73 : decode cX10_byOpenings 73 = .ok (.invokevirtual 231, 3) := by decide +kernel
theorem dX10_byOpenings_76 : decode cX10_byOpenings 76 = .ok (.aload_n 0, 1) := by decide +kernel
theorem dX10_byOpenings_77 : decode cX10_byOpenings 77 = .ok (.getfield 28, 3) := by decide +kernel
theorem dX10_byOpenings_80 : decode cX10_byOpenings 80 = .ok (.iload 4, 2) := by decide +kernel
theorem dX10_byOpenings_82 : decode cX10_byOpenings 82 = .ok (.laload, 1) := by decide +kernel
theorem dX10_byOpenings_83 : decode cX10_byOpenings 83 = .ok (.lload 5, 2) := by decide +kernel
theorem dX10_byOpenings_85 : decode cX10_byOpenings 85 = .ok (.lcmp, 1) := by decide +kernel
theorem dX10_byOpenings_86 : decode cX10_byOpenings 86 = .ok (.ifCond .gt 7, 3) := by decide +kernel
theorem dX10_byOpenings_89 : decode cX10_byOpenings 89 = .ok (.iconst 1, 1) := by decide +kernel
theorem dX10_byOpenings_90 : decode cX10_byOpenings 90 = .ok (.goto 4, 3) := by decide +kernel
theorem dX10_byOpenings_93 : decode cX10_byOpenings 93 = .ok (.iconst 0, 1) := by decide +kernel
theorem dX10_byOpenings_94 : decode cX10_byOpenings 94 = .ok (.istore 10, 2) := by decide +kernel
theorem dX10_byOpenings_96 : decode cX10_byOpenings 96 = .ok (.aload_n 0, 1) := by decide +kernel
theorem dX10_byOpenings_97 : decode cX10_byOpenings 97 = .ok (.iload_n 3, 1) := by decide +kernel
theorem dX10_byOpenings_98 : decode cX10_byOpenings 98 = .ok (.invokevirtual 251, 3) := by decide +kernel
theorem dX10_byOpenings_101 : decode cX10_byOpenings 101 = .ok (.lload 8, 2) := by decide +kernel
theorem dX10_byOpenings_103 : decode cX10_byOpenings 103 = .ok (.lcmp, 1) := by decide +kernel
theorem dX10_byOpenings_104 : decode cX10_byOpenings 104 = .ok (.ifCond .le 11, 3) := by decide +kernel
theorem dX10_byOpenings_107 : decode cX10_byOpenings 107 = .ok (.aload_n 0, 1) := by decide +kernel
theorem dX10_byOpenings_108 : decode cX10_byOpenings 108 = .ok (.iload_n 3, 1) := by decide +kernel
theorem dX10_byOpenings_109 : decode cX10_byOpenings 109 = .ok (.invokevirtual 251, 3) := by decide +kernel
theorem dX10_byOpenings_112 : decode cX10_byOpenings 112 = .ok (.goto 5, 3) := by decide +kernel
theorem dX10_byOpenings_115 : decode cX10_byOpenings 115 = .ok (.lload 8, 2) := by decide +kernel
theorem dX10_byOpenings_117 : decode cX10_byOpenings 117 = .ok (.lstore 8, 2) := by decide +kernel
theorem dX10_byOpenings_119 : decode cX10_byOpenings 119 = .ok (.iinc 13 1, 3) := by decide +kernel
theorem dX10_byOpenings_122 : decode cX10_byOpenings 122 = .ok (.goto (-63), 3) := by decide +kernel
theorem dX10_byOpenings_125 : decode cX10_byOpenings 125 = .ok (.iinc 12 1, 3) := by decide +kernel
theorem dX10_byOpenings_128 : decode cX10_byOpenings 128 = .ok (.goto (-108), 3) := by decide +kernel
theorem dX10_byOpenings_131 : decode cX10_byOpenings 131 = .ok (.aload_n 0, 1) := by decide +kernel
theorem dX10_byOpenings_132 : decode cX10_byOpenings 132 = .ok (.invokevirtual 277, 3) := by decide +kernel
theorem dX10_byOpenings_135 : decode cX10_byOpenings 135 = .ok (.iload 10, 2) := by decide +kernel
theorem dX10_byOpenings_137 : decode cX10_byOpenings 137 = .ok (.ifCond .eq 8, 3) := by decide +kernel
theorem dX10_byOpenings_140 : decode cX10_byOpenings 140 = .ok (.lload 8, 2) := by decide +kernel
theorem dX10_byOpenings_142 : decode cX10_byOpenings 142 = .ok (.goto 6, 3) := by decide +kernel
theorem dX10_byOpenings_145 : decode cX10_byOpenings 145 = .ok (.ldc2_w 236, 3) := by decide +kernel
theorem dX10_byOpenings_148 : decode cX10_byOpenings 148 = .ok (.lreturn, 1) := by decide +kernel
theorem dX10_best_0 : decode cX10_best 0 = .ok (.iload_n 1, 1) := by decide +kernel
theorem dX10_best_1 : decode cX10_best 1 = .ok (.i2l, 1) := by decide +kernel
theorem dX10_best_2 : decode cX10_best 2 = .ok (.lconst 0, 1) := by decide +kernel
theorem dX10_best_3 : decode cX10_best 3 = .ok (.ldc2_w 243, 3) := by decide +kernel
theorem dX10_best_6 : decode cX10_best 6 = .ok (.invokestatic 85, 3) := by decide +kernel
theorem dX10_best_9 : decode cX10_best 9 = .ok (.ifCond .eq 55, 3) := by decide +kernel
theorem dX10_best_12 : decode cX10_best 12 = .ok (.iload_n 2, 1) := by decide +kernel
theorem dX10_best_13 : decode cX10_best 13 = .ok (.i2l, 1) := by decide +kernel
theorem dX10_best_14 : decode cX10_best 14 = .ok (.lconst 1, 1) := by decide +kernel
theorem dX10_best_15 : decode cX10_best 15 = .ok (.ldc2_w 305, 3) := by decide +kernel
theorem dX10_best_18 : decode cX10_best 18 = .ok (.invokestatic 85, 3) := by decide +kernel
theorem dX10_best_21 : decode cX10_best 21 = .ok (.ifCond .eq 43, 3) := by decide +kernel
theorem dX10_best_24 : decode cX10_best 24 = .ok (.iload_n 3, 1) := by decide +kernel
theorem dX10_best_25 : decode cX10_best 25 = .ok (.i2l, 1) := by decide +kernel
theorem dX10_best_26 : decode cX10_best 26 = .ok (.lconst 0, 1) := by decide +kernel
theorem dX10_best_27 : decode cX10_best 27 = .ok (.ldc2_w 243, 3) := by decide +kernel
theorem dX10_best_30 : decode cX10_best 30 = .ok (.invokestatic 85, 3) := by decide +kernel
theorem dX10_best_33 : decode cX10_best 33 = .ok (.ifCond .eq 31, 3) := by decide +kernel
theorem dX10_best_36 : decode cX10_best 36 = .ok (.iload 4, 2) := by decide +kernel
theorem dX10_best_38 : decode cX10_best 38 = .ok (.i2l, 1) := by decide +kernel
theorem dX10_best_39 : decode cX10_best 39 = .ok (.lconst 0, 1) := by decide +kernel
theorem dX10_best_40 : decode cX10_best 40 = .ok (.ldc2_w 234, 3) := by decide +kernel
theorem dX10_best_43 : decode cX10_best 43 = .ok (.invokestatic 85, 3) := by decide +kernel
theorem dX10_best_46 : decode cX10_best 46 = .ok (.ifCond .eq 18, 3) := by decide +kernel
theorem dX10_best_49 : decode cX10_best 49 = .ok (.iload 7, 2) := by decide +kernel
theorem dX10_best_51 : decode cX10_best 51 = .ok (.i2l, 1) := by decide +kernel
theorem dX10_best_52 : decode cX10_best 52 = .ok (.ldc2_w 236, 3) := by decide +kernel
theorem dX10_best_55 : decode cX10_best 55 = .ok (.ldc2_w 243, 3) := by decide +kernel
theorem dX10_best_58 : decode cX10_best 58 = .ok (.invokestatic 85, 3) := by decide +kernel
theorem dX10_best_61 : decode cX10_best 61 = .ok (.ifCond .ne 7, 3) := by decide +kernel
theorem dX10_best_64 : decode cX10_best 64 = .ok (.ldc2_w 236, 3) := by decide +kernel
theorem dX10_best_67 : decode cX10_best 67 = .ok (.lreturn, 1) := by decide +kernel
theorem dX10_best_68 : decode cX10_best 68 = .ok (.aload_n 0, 1) := by decide +kernel
theorem dX10_best_69 : decode cX10_best 69 = .ok (.iload_n 3, 1) := by decide +kernel
theorem dX10_best_70 : decode cX10_best 70 = .ok (.iconst 4, 1) := by decide +kernel
theorem dX10_best_71 : decode cX10_best 71 = .ok (.iload_n 2, 1) := by decide +kernel
theorem dX10_best_72 : decode cX10_best 72 = .ok (.imul, 1) := by decide +kernel
theorem dX10_best_73 : decode cX10_best 73 = .ok (.invokevirtual 297, 3) := by decide +kernel
theorem dX10_best_76 : decode cX10_best 76 = .ok (.ifCond .eq 22, 3) := by decide +kernel
theorem dX10_best_79 : decode cX10_best 79 = .ok (.iload_n 1, 1) := by decide +kernel
theorem dX10_best_80 : decode cX10_best 80 = .ok (.aload_n 0, 1) := by decide +kernel
theorem dX10_best_81 : decode cX10_best 81 = .ok (.bipush 103, 2) := by decide +kernel
theorem dX10_best_83 : decode cX10_best 83 = .ok (.invokevirtual 245, 3) := by decide +kernel
theorem dX10_best_86 : decode cX10_best 86 = .ok (.if_icmp .ge 12, 3) := by decide +kernel
theorem dX10_best_89 : decode cX10_best 89 = .ok (.aload_n 0, 1) := by decide +kernel
theorem dX10_best_90 : decode cX10_best 90 = .ok (.iload 4, 2) := by decide +kernel
theorem dX10_best_92 : decode cX10_best 92 = .ok (.invokevirtual 208, 3) := by decide +kernel
theorem dX10_best_95 : decode cX10_best 95 = .ok (.ifCond .ne 7, 3) := by decide +kernel
theorem dX10_best_98 : decode cX10_best 98 = .ok (.ldc2_w 238, 3) := by decide +kernel
theorem dX10_best_101 : decode cX10_best 101 = .ok (.lreturn, 1) := by decide +kernel
theorem dX10_best_102 : decode cX10_best 102 = .ok (.ldc2_w 236, 3) := by decide +kernel
theorem dX10_best_105 : decode cX10_best 105 = .ok (.lstore 8, 2) := by decide +kernel
theorem dX10_best_107 : decode cX10_best 107 = .ok (.bipush (-4), 2) := by decide +kernel
theorem dX10_best_109 : decode cX10_best 109 = .ok (.istore 10, 2) := by decide +kernel
theorem dX10_best_111 : decode cX10_best 111 = .ok (.iconst 0, 1) := by decide +kernel
theorem dX10_best_112 : decode cX10_best 112 = .ok (.istore 11, 2) := by decide +kernel
theorem dX10_best_114 : decode cX10_best 114 = .ok (.iload 11, 2) := by decide +kernel
theorem dX10_best_116 : decode cX10_best 116 = .ok (.sipush 1296, 3) := by decide +kernel
theorem dX10_best_119 : decode cX10_best 119 = .ok (.if_icmp .ge 52, 3) := by decide +kernel
theorem dX10_best_122 : decode cX10_best 122 = .ok (.aload_n 0, 1) := by decide +kernel
theorem dX10_best_123 : decode cX10_best 123 = .ok (.iload_n 1, 1) := by decide +kernel
theorem dX10_best_124 : decode cX10_best 124 = .ok (.iload_n 2, 1) := by decide +kernel
theorem dX10_best_125 : decode cX10_best 125 = .ok (.iload_n 3, 1) := by decide +kernel
theorem dX10_best_126 : decode cX10_best 126 = .ok (.iload 4, 2) := by decide +kernel
theorem dX10_best_128 : decode cX10_best 128 = .ok (.lload 5, 2) := by decide +kernel
theorem dX10_best_130 : decode cX10_best 130 = .ok (.iload 11, 2) := by decide +kernel
theorem dX10_best_132 : decode cX10_best 132 = .ok (.invokevirtual 307, 3) := by decide +kernel
theorem dX10_best_135 : decode cX10_best 135 = .ok (.lstore 12, 2) := by decide +kernel
theorem dX10_best_137 : decode cX10_best 137 = .ok (.lload 12, 2) := by decide +kernel
theorem dX10_best_139 : decode cX10_best 139 = .ok (.lconst 0, 1) := by decide +kernel
theorem dX10_best_140 : decode cX10_best 140 = .ok (.lcmp, 1) := by decide +kernel
theorem dX10_best_141 : decode cX10_best 141 = .ok (.ifCond .lt 24, 3) := by decide +kernel
theorem dX10_best_144 : decode cX10_best 144 = .ok (.iload 10, 2) := by decide +kernel
theorem dX10_best_146 : decode cX10_best 146 = .ok (.ifCond .lt 11, 3) := by decide +kernel
theorem dX10_best_149 : decode cX10_best 149 = .ok (.lload 12, 2) := by decide +kernel
theorem dX10_best_151 : decode cX10_best 151 = .ok (.lload 8, 2) := by decide +kernel
theorem dX10_best_153 : decode cX10_best 153 = .ok (.lcmp, 1) := by decide +kernel
theorem dX10_best_154 : decode cX10_best 154 = .ok (.ifCond .ge 11, 3) := by decide +kernel
theorem dX10_best_157 : decode cX10_best 157 = .ok (.lload 12, 2) := by decide +kernel
theorem dX10_best_159 : decode cX10_best 159 = .ok (.lstore 8, 2) := by decide +kernel
theorem dX10_best_161 : decode cX10_best 161 = .ok (.iload 11, 2) := by decide +kernel
theorem dX10_best_163 : decode cX10_best 163 = .ok (.istore 10, 2) := by decide +kernel
theorem dX10_best_165 : decode cX10_best 165 = .ok (.iinc 11 1, 3) := by decide +kernel
theorem dX10_best_168 : decode cX10_best 168 = .ok (.goto (-54), 3) := by decide +kernel
theorem dX10_best_171 : decode cX10_best 171 = .ok (.iload 10, 2) := by decide +kernel
theorem dX10_best_173 : decode cX10_best 173 = .ok (.ifCond .ge 7, 3) := by decide +kernel
theorem dX10_best_176 : decode cX10_best 176 = .ok (.ldc2_w 311, 3) := by decide +kernel
theorem dX10_best_179 : decode cX10_best 179 = .ok (.lreturn, 1) := by decide +kernel
theorem dX10_best_180 : decode cX10_best 180 = .ok (.sipush 216, 3) := by decide +kernel
theorem dX10_best_183 : decode cX10_best 183 = .ok (.istore 11, 2) := by decide +kernel
theorem dX10_best_185 : decode cX10_best 185 = .ok (.iconst 0, 1) := by decide +kernel
theorem dX10_best_186 : decode cX10_best 186 = .ok (.istore 12, 2) := by decide +kernel
theorem dX10_best_188 : decode cX10_best 188 = .ok (.iload 12, 2) := by decide +kernel
theorem dX10_best_190 : decode cX10_best 190 = .ok (.iload 7, 2) := by decide +kernel
theorem dX10_best_192 : decode cX10_best 192 = .ok (.if_icmp .ge 16, 3) := by decide +kernel
theorem dX10_best_195 : decode cX10_best 195 = .ok (.iload 11, 2) := by decide +kernel
theorem dX10_best_197 : decode cX10_best 197 = .ok (.bipush 6, 2) := by decide +kernel
theorem dX10_best_199 : decode cX10_best 199 = .ok (.idiv, 1) := by decide +kernel
theorem dX10_best_200 : decode cX10_best 200 = .ok (.istore 11, 2) := by decide +kernel
theorem dX10_best_202 : decode cX10_best 202 = .ok (.iinc 12 1, 3) := by decide +kernel
theorem dX10_best_205 : decode cX10_best 205 = .ok (.goto (-17), 3) := by decide +kernel
theorem dX10_best_208 : decode cX10_best 208 = .ok (.iload 7, 2) := by decide +kernel
theorem dX10_best_210 : decode cX10_best 210 = .ok (.ifCond .ge 8, 3) := by decide +kernel
theorem dX10_best_213 : decode cX10_best 213 = .ok (.lload 8, 2) := by decide +kernel
theorem dX10_best_215 : decode cX10_best 215 = .ok (.goto 16, 3) := by decide +kernel
theorem dX10_best_218 : decode cX10_best 218 = .ok (.ldc2_w 261, 3) := by decide +kernel
theorem dX10_best_221 : decode cX10_best 221 = .ok (.iload 10, 2) := by decide +kernel
theorem dX10_best_223 : decode cX10_best 223 = .ok (.iload 11, 2) := by decide +kernel
theorem dX10_best_225 : decode cX10_best 225 = .ok (.idiv, 1) := by decide +kernel
theorem dX10_best_226 : decode cX10_best 226 = .ok (.bipush 6, 2) := by decide +kernel
theorem dX10_best_228 : decode cX10_best 228 = .ok (.irem, 1) := by decide +kernel
theorem dX10_best_229 : decode cX10_best 229 = .ok (.i2l, 1) := by decide +kernel
theorem dX10_best_230 : decode cX10_best 230 = .ok (.lmul, 1) := by decide +kernel
theorem dX10_best_231 : decode cX10_best 231 = .ok (.lreturn, 1) := by decide +kernel
def uX10_byOpenings : List Cond := .code yX10_byOpenings cX10_byOpenings 14 (some .long) :: ([.methodLink RX10 274 yX10_asides, .instanceMethod yX10_asides, .selects RX10 yX10_asides yX10_asides, .initialized RX10, .constantLong RX10 236 (-1), .fieldLink RX10 28 "RiverModelModel" "m" "[J", .constantLong RX10 261 (2), .methodLink RX10 277 yX10_returns, .instanceMethod yX10_returns, .selects RX10 yX10_returns yX10_returns, .methodLink RX10 231 yX10_goes, .instanceMethod yX10_goes, .selects RX10 yX10_goes yX10_goes, .methodLink RX10 251 yX10_reading, .instanceMethod yX10_reading, .selects RX10 yX10_reading yX10_reading, .code yX10_asides cX10_asides 2 none, .fieldLink RX10 32 "RiverModelModel" "aside" "[J", .code yX10_returns cX10_returns 2 none, .code yX10_goes cX10_goes 4 none, .fieldLink RX10 25 "RiverModelModel" "weather" "[I", .methodLink RX10 225 yX10_passes, .instanceMethod yX10_passes, .selects RX10 yX10_passes yX10_passes, .code yX10_passes cX10_passes 12 none, .fieldLink RX10 163 "RiverModelModel" "items" "I", .fieldLink RX10 13 "RiverModelModel" "kind" "[I", .methodLink RX10 221 yX10_moves, .instanceMethod yX10_moves, .selects RX10 yX10_moves yX10_moves, .fieldLink RX10 16 "RiverModelModel" "first" "[I", .fieldLink RX10 19 "RiverModelModel" "second" "[I", .fieldLink RX10 22 "RiverModelModel" "number" "[I", .code yX10_moves cX10_moves 8 (some .long), .constantLong RX10 219 (10), .methodLink RX10 215 yX10_most, .instanceMethod yX10_most, .selects RX10 yX10_most yX10_most, .constantLong RX10 107 (100), .methodLink RX10 211 yX10_capacity, .instanceMethod yX10_capacity, .selects RX10 yX10_capacity yX10_capacity, .code yX10_most cX10_most 4 (some .long), .code yX10_capacity cX10_capacity 3 (some .long), .methodLink RX10 166 yX10_storeAt, .instanceMethod yX10_storeAt, .selects RX10 yX10_storeAt yX10_storeAt, .code yX10_storeAt cX10_storeAt 5 (some .int), .code yX10_reading cX10_reading 2 (some .long), .fieldLink RX10 38 "RiverModelModel" "gaugeKind" "[I", .fieldLink RX10 41 "RiverModelModel" "gaugeAt" "[I"] ++ wsX100)
set_option maxRecDepth 20000 in
theorem gu_X10_byOpenings_X10_asides_274 : GoodIn uX10_byOpenings (wsV RX10 274 RX10 yX10_asides uX10_asides) := goodIn_r _ [1, 2, 3, 4, 17, 18, 6, 52, 53, 54, 55, 56, 57, 58, 59, 60, 61, 62, 63, 64, 65, 66, 67, 68, 69, 70, 71, 72, 73, 74, 75, 76, 77, 78, 79, 80, 81, 82, 83, 84, 85, 86, 87] rfl (by decide +kernel)
set_option maxRecDepth 20000 in
theorem gu_X10_byOpenings_X10_returns_277 : GoodIn uX10_byOpenings (wsV RX10 277 RX10 yX10_returns uX10_returns) := goodIn_r _ [8, 9, 10, 4, 19, 6, 18, 52, 53, 54, 55, 56, 57, 58, 59, 60, 61, 62, 63, 64, 65, 66, 67, 68, 69, 70, 71, 72, 73, 74, 75, 76, 77, 78, 79, 80, 81, 82, 83, 84, 85, 86, 87] rfl (by decide +kernel)
set_option maxRecDepth 20000 in
theorem gu_X10_byOpenings_X10_goes_231 : GoodIn uX10_byOpenings (wsV RX10 231 RX10 yX10_goes uX10_goes) := goodIn_r _ [11, 12, 13, 4, 20, 6, 21, 22, 23, 24, 4, 25, 26, 27, 28, 29, 30, 31, 32, 33, 34, 35, 36, 37, 38, 39, 40, 41, 42, 43, 44, 45, 46, 47, 48, 52, 53, 54, 55, 56, 57, 58, 59, 60, 61, 62, 63, 64, 65, 66, 67, 68, 69, 70, 71, 72, 73, 74, 75, 76, 77, 78, 79, 80, 81, 82, 83, 84, 85, 86, 87] rfl (by decide +kernel)
set_option maxRecDepth 20000 in
theorem gu_X10_byOpenings_X10_reading_251 : GoodIn uX10_byOpenings (wsV RX10 251 RX10 yX10_reading uX10_reading) := goodIn_r _ [14, 15, 16, 4, 49, 50, 6, 51, 52, 53, 54, 55, 56, 57, 58, 59, 60, 61, 62, 63, 64, 65, 66, 67, 68, 69, 70, 71, 72, 73, 74, 75, 76, 77, 78, 79, 80, 81, 82, 83, 84, 85, 86, 87] rfl (by decide +kernel)
set_option maxHeartbeats 4000000 in
set_option maxRecDepth 100000 in
theorem m_X10_byOpenings (l : Launch) (D : va_G) (t : Nat → Nat) (cI cL cC : ClassId) (gC : Int32) (gE : Int32) (gW : Nat → Int32) (gA : Nat → Int32) (gT : Nat → Int32) (gI : Int32) (gS : Int32) (gM : Int32) (K : Nat → Int32) (F : Nat → Int32) (S : Nat → Int32) (N : Nat → Int32) (gH : Int) (gJ : Int) (ge : Int32) (gk : Int32) (gf : Int32) (gs : Int32) (gg : Int32) (gr : Int32) (RN : Nat → Int32) (gb : Int32) (rV : Nat → Int32) (rN : Nat → Int32) (a0 : Nat) (a1 : Int32) (a2 : Int32) (a3 : Int32) (a4 : Int32) (a5 : Int64) (a6 : Int32) (uq : ∀ b c : Nat, t b = t c → t b ≠ 0 → b = c) (hI0 : 0 ≤ gI.toInt) (hI4 : gI.toInt ≤ 40) (hH0 : 0 ≤ gH) (hH9 : gH ≤ 96) (hO0 : okM K F S N 0 gI.toInt) (hga0 : 0 ≤ a1.toInt) (hga3 : a1.toInt ≤ 3) (hb1 : 1 ≤ a2.toInt) (hb6 : a2.toInt ≤ 6) (hk0 : 0 ≤ a3.toInt) (hk3 : a3.toInt ≤ 3) (hs0 : 0 ≤ a4.toInt) (hs15 : a4.toInt ≤ 15) (hc0 : 0 ≤ a6.toInt) (hc9 : a6.toInt < 1296) (hn9 : gH + 4 * a2.toInt ≤ 96) (k_a0 : t a0 = 40) : tMx (Z := (Int) × (Int)) l yX10_byOpenings uX10_byOpenings 5 127 D (mF cI cL cC gC gE gW gA gT gI gS gM K F S N gH gJ ge gk gf gs gg gr RN gb rV rN) (fun z => (mF cI cL cC gC gE gW gA gT gI gS gM K F S N z.1 z.2 ge gk gf gs gg gr RN gb rV rN)) t cI cL cC [.ref a0, .int a1, .int a2, .int a3, .int a4, .long a5, .int a6] wmj (xL (fun r (z : (Int) × (Int)) => z.1 = gH)) := by
  refine tMx.ofW (cc := cX10_byOpenings) (maxL := 14) (ret := (some .long)) (by decide) rfl (Nat.le_of_ble_eq_true rfl) ?_
  intro p e s m below meth c hx hb hr hml hown hts hlk H locs hG hK hE hS ls hl
  have hl : lv_has ls 14 [(0, .ref a0), (1, .int a1), (2, .int a2), (3, .int a3), (4, .int a4), (5, .long a5), (7, .int a6)] := hl
  have in10 : ∀ w ∈ wsX100, w ∈ uX10_byOpenings := fun w h => List.mem_cons_of_mem _ (List.mem_append_right _ h)
  refine lv_aload_n hx hb dX10_byOpenings_0 rfl (lv_at hl 0 rfl) ?_
  obtain ⟨r_1, r_3, r_5, r_7, r_9, r_11, r_13, r_15, r_17, r_19, r_21, r_23, r_25, r_27, r_29, r_31, r_33, r_35, r_37, r_39, r_41, r_43, v_45, r_46, at_48, h_2, h_4, h_6, h_8, h_10, h_12, h_14, h_16, h_18, h_20, h_22, h_24, h_26, h_28, h_30, h_32, h_34, h_36, h_38, h_40, h_42, h_44, h_47⟩ := mF_o40 hG k_a0
  refine tx_callv (W.runV (As := []) (rest := []) ⟨hx, hb, hml, hown, hts⟩ (m_X10_asides l D t cI cL cC gC gE gW gA gT gI gS gM K F S N gH gJ ge gk gf gs gg gr RN gb rV rN a0  uq  k_a0) (cwV 0 hts gu_X10_byOpenings_X10_asides_274 rfl rfl rfl (by decide +kernel) ⟨Nat.le_of_ble_eq_true rfl, Nat.le_of_ble_eq_true rfl⟩) (tP_V hG hE at_48 rfl) rfl rfl hl.1 rfl (lv_room (Nat.le_of_ble_eq_true rfl)) dX10_byOpenings_1 ⟨Nat.le_of_ble_eq_true rfl, Nat.le_of_ble_eq_true rfl⟩) hS (wrL_sub (by decide)) (fun gJ_53 H locs hp_50 hG hS o_51 => ?_)
  have at_48 := va_at.keptC at_48 o_51 k_a0 rfl
  replace hG : tG D (mF cI cL cC gC gE gW gA gT gI gS gM K F S N gH gJ_53 ge gk gf gs gg gr RN gb rV rN) t H := hG
  have hp_50 : gJ_53 = gH := hp_50
  have p_54 := hp_50
  refine lv_ldc2 hx hb hown (hts (.constantLong RX10 236 (-1)) (List.mem_of_getElem? (i := 5) rfl)) dX10_byOpenings_4 ?_
  refine lv_lstore (lv' := [(8, .long (-1)), (0, .ref a0), (1, .int a1), (2, .int a2), (3, .int a3), (4, .int a4), (5, .long a5), (7, .int a6)]) hx hb dX10_byOpenings_7 hl (by decide) rfl (fun ls hl => ?_)
  refine lv_iconst (v := 1) hx hb dX10_byOpenings_9 (by decide) ?_
  refine lv_istore (lv' := [(10, .int 1), (8, .long (-1)), (0, .ref a0), (1, .int a1), (2, .int a2), (3, .int a3), (4, .int a4), (5, .long a5), (7, .int a6)]) hx hb dX10_byOpenings_10 hl (by decide) rfl (fun ls hl => ?_)
  refine lv_sipush (v := 216) hx hb dX10_byOpenings_12 (by decide) ?_
  refine lv_pc (pc2 := 15) rfl ?_
  refine lv_istore (lv' := [(11, .int 216), (10, .int 1), (8, .long (-1)), (0, .ref a0), (1, .int a1), (2, .int a2), (3, .int a3), (4, .int a4), (5, .long a5), (7, .int a6)]) hx hb dX10_byOpenings_15 hl (by decide) rfl (fun ls hl => ?_)
  refine lv_iconst (v := 0) hx hb dX10_byOpenings_17 (by decide) ?_
  refine lv_istore (lv' := [(12, .int 0), (11, .int 216), (10, .int 1), (8, .long (-1)), (0, .ref a0), (1, .int a1), (2, .int a2), (3, .int a3), (4, .int a4), (5, .long a5), (7, .int a6)]) hx hb dX10_byOpenings_18 hl (by decide) rfl (fun ls hl => ?_)
  refine lv_iload hx hb dX10_byOpenings_20 (lv_at hl 0 rfl) ?_
  refine lv_iconst (v := 4) hx hb dX10_byOpenings_22 (by decide) ?_
  refine lv_icmp_ge (tgt := 131) hx hb dX10_byOpenings_23 (by decide) (fun q => absurd q (by decide)) (fun _ => ?_)
  refine lv_aload_n hx hb dX10_byOpenings_26 rfl (lv_at hl 4 rfl) ?_
  refine va_get (D := D) (ci := 9) (v := .ref r_13) (C := RX10) (T := TX10) (N := 36) hx hb hts in10 hown hK (va_one at_48) 0 rfl rfl 10 (by decide) (hts (.fieldLink RX10 28 "RiverModelModel" "m" "[J") (List.mem_of_getElem? (i := 6) rfl)) (fun _ h9 => h9) rfl dX10_byOpenings_27 ?_
  refine lv_pc (pc2 := 30) rfl ?_
  refine lv_sipush (v := 224) hx hb dX10_byOpenings_30 (by decide) ?_
  refine lv_iload_n hx hb dX10_byOpenings_33 rfl (lv_at hl 5 rfl) ?_
  refine lv_iadd hx hb dX10_byOpenings_34 ?_
  refine lv_topi (fun x_55 e_56 => ?_)
  have i_x_55 : x_55.toInt = 224 + a1.toInt := by rw [e_56]; exact (q_add (by rw [show (224 : Int32).toInt = 224 by decide]; omega) (by rw [show (224 : Int32).toInt = 224 by decide]; omega)).trans (by rw [show (224 : Int32).toInt = 224 by decide])
  refine lv_ldc2 hx hb hown (hts (.constantLong RX10 261 (2)) (List.mem_of_getElem? (i := 7) rfl)) dX10_byOpenings_35 ?_
  refine lv_iload hx hb dX10_byOpenings_38 (lv_at hl 10 rfl) ?_
  refine lv_iload hx hb dX10_byOpenings_40 (lv_at hl 1 rfl) ?_
  refine lv_idiv hx hb dX10_byOpenings_42 (by decide) ?_
  refine lv_topi (fun x_57 e_58 => ?_)
  have i_x_57 : x_57.toInt = a6.toInt / 216 := by rw [e_58]; exact q_divE (n := 216) rfl (by decide) (by omega)
  refine lv_bipush (v := 6) hx hb dX10_byOpenings_43 (by decide) ?_
  refine lv_pc (pc2 := 45) rfl ?_
  refine lv_irem hx hb dX10_byOpenings_45 (by decide) ?_
  refine lv_topi (fun x_59 e_60 => ?_)
  have i_x_59 : x_59.toInt = x_57.toInt % 6 := by rw [e_60]; exact q_remE (n := 6) rfl (by decide) (by omega)
  refine lv_i2l (v := x_59.toInt64) hx hb dX10_byOpenings_46 rfl ?_
  refine lv_lmul hx hb dX10_byOpenings_47 ?_
  refine lv_topl (fun z_61 e_62 => ?_)
  obtain ⟨f_63, at_64, h_65⟩ := mF_o47 hG h_14
  have b_66 : vp_in x_55 280 := (q_in (by omega) (by omega))
  refine ty_last (F2 := (mF cI cL cC gC gE gW gA gT gI gS gM K F S N gH gJ_53 ge gk gf gs gg gr RN gb rV rN)) hx hb hK hG hS 1 at_64 (by rw [h_14]; rfl) rfl b_66 (by rw [h_14]; exact ⟨_, rfl, gHr_ne ⟨by omega, by omega⟩ h_65⟩) tFF dX10_byOpenings_48 (fun H locs hG hS at_67 o_68 => ?_)
  have at_48 := va_at.keptK at_48 o_68 h_14 k_a0 rfl
  refine lv_iload hx hb dX10_byOpenings_49 (lv_at hl 1 rfl) ?_
  refine lv_bipush (v := 6) hx hb dX10_byOpenings_51 (by decide) ?_
  refine lv_idiv hx hb dX10_byOpenings_53 (by decide) ?_
  refine lv_seti (y := 36) (by decide) ?_
  refine lv_istore (lv' := [(11, .int 36), (12, .int 0), (10, .int 1), (8, .long (-1)), (0, .ref a0), (1, .int a1), (2, .int a2), (3, .int a3), (4, .int a4), (5, .long a5), (7, .int a6)]) hx hb dX10_byOpenings_54 hl (by decide) rfl (fun ls hl => ?_)
  refine lv_pc (pc2 := 56) rfl ?_
  refine lv_iconst (v := 0) hx hb dX10_byOpenings_56 (by decide) ?_
  refine lv_istore (lv' := [(13, .int 0), (11, .int 36), (12, .int 0), (10, .int 1), (8, .long (-1)), (0, .ref a0), (1, .int a1), (2, .int a2), (3, .int a3), (4, .int a4), (5, .long a5), (7, .int a6)]) hx hb dX10_byOpenings_57 hl (by decide) rfl (fun ls hl => ?_)
  refine lv_pc (pc2 := 59) rfl ?_
  refine lp_gen (fun WW69 hWW69 => ?_)
  have kx69 : ∀ (yi : Int32) (yb : Int32) (ym : Int64) (hm69 : Int) (H1 : Heap) (locs1 : List Loc) (ls1 : Array Slot), (0 ≤ yi.toInt) → (yi.toInt ≤ a2.toInt) → (0 ≤ hm69) → (hm69 ≤ gH + yi.toInt) → tG D (mF cI cL cC gC gE gW gA gT gI gS gM K F S N hm69 gJ_53 ge gk gf gs gg gr RN gb rV rN) t H1 → tF t wmj s.heap H1 locs1 → lv_has ls1 14 [(13, .int yi), (11, .int 36), (12, .int 0), (10, .int yb), (8, .long ym), (0, .ref a0), (1, .int a1), (2, .int a2), (3, .int a3), (4, .int a4), (5, .long a5), (7, .int a6)] → WW69 H1 locs1 (F0 m 125 ls1 []) := by
    intro yi yb ym hm69 H locs ls v69_0 v69_1 v69_2 v69_3 hG hS hl
    refine (hWW69 _ _ _).mpr ?_
    refine lv_iinc (v := 1) (lv' := [(12, .int 1), (13, .int yi), (11, .int 36), (10, .int yb), (8, .long ym), (0, .ref a0), (1, .int a1), (2, .int a2), (3, .int a3), (4, .int a4), (5, .long a5), (7, .int a6)]) hx hb dX10_byOpenings_125 hl (k := 2) rfl (by decide) (by decide) rfl (fun ls hl => ?_)
    refine lv_goto (tgt := 20) hx hb dX10_byOpenings_128 (by decide) ?_
    refine lv_iload hx hb dX10_byOpenings_20 (lv_at hl 0 rfl) ?_
    refine lv_iconst (v := 4) hx hb dX10_byOpenings_22 (by decide) ?_
    refine lv_icmp_ge (tgt := 131) hx hb dX10_byOpenings_23 (by decide) (fun q => absurd q (by decide)) (fun _ => ?_)
    refine lv_aload_n hx hb dX10_byOpenings_26 rfl (lv_at hl 5 rfl) ?_
    refine lv_pc (pc2 := 27) rfl ?_
    obtain ⟨r_70, r_72, r_74, r_76, r_78, r_80, r_82, r_84, r_86, r_88, r_90, r_92, r_94, r_96, r_98, r_100, r_102, r_104, r_106, r_108, r_110, r_112, v_114, r_115, at_117, h_71, h_73, h_75, h_77, h_79, h_81, h_83, h_85, h_87, h_89, h_91, h_93, h_95, h_97, h_99, h_101, h_103, h_105, h_107, h_109, h_111, h_113, h_116⟩ := mF_o40 hG k_a0
    refine va_get (D := D) (ci := 9) (v := .ref r_82) (C := RX10) (T := TX10) (N := 36) hx hb hts in10 hown hK (va_one at_117) 0 rfl rfl 10 (by decide) (hts (.fieldLink RX10 28 "RiverModelModel" "m" "[J") (List.mem_of_getElem? (i := 6) rfl)) (fun _ h9 => h9) rfl dX10_byOpenings_27 ?_
    refine lv_sipush (v := 224) hx hb dX10_byOpenings_30 (by decide) ?_
    refine lv_iload_n hx hb dX10_byOpenings_33 rfl (lv_at hl 6 rfl) ?_
    refine lv_iadd hx hb dX10_byOpenings_34 ?_
    refine lv_topi (fun x_118 e_119 => ?_)
    have i_x_118 : x_118.toInt = 224 + a1.toInt := by rw [e_119]; exact (q_add (by rw [show (224 : Int32).toInt = 224 by decide]; omega) (by rw [show (224 : Int32).toInt = 224 by decide]; omega)).trans (by rw [show (224 : Int32).toInt = 224 by decide])
    refine lv_ldc2 hx hb hown (hts (.constantLong RX10 261 (2)) (List.mem_of_getElem? (i := 7) rfl)) dX10_byOpenings_35 ?_
    refine lv_iload hx hb dX10_byOpenings_38 (lv_at hl 11 rfl) ?_
    refine lv_iload hx hb dX10_byOpenings_40 (lv_at hl 2 rfl) ?_
    refine lv_idiv hx hb dX10_byOpenings_42 (by decide) ?_
    refine lv_topi (fun x_120 e_121 => ?_)
    have i_x_120 : x_120.toInt = a6.toInt / 36 := by rw [e_121]; exact q_divE (n := 36) rfl (by decide) (by omega)
    refine lv_pc (pc2 := 43) rfl ?_
    refine lv_bipush (v := 6) hx hb dX10_byOpenings_43 (by decide) ?_
    refine lv_irem hx hb dX10_byOpenings_45 (by decide) ?_
    refine lv_topi (fun x_122 e_123 => ?_)
    have i_x_122 : x_122.toInt = x_120.toInt % 6 := by rw [e_123]; exact q_remE (n := 6) rfl (by decide) (by omega)
    refine lv_i2l (v := x_122.toInt64) hx hb dX10_byOpenings_46 rfl ?_
    refine lv_lmul hx hb dX10_byOpenings_47 ?_
    refine lv_topl (fun z_124 e_125 => ?_)
    obtain ⟨f_126, at_127, h_128⟩ := mF_o47 hG h_83
    have b_129 : vp_in x_118 280 := (q_in (by omega) (by omega))
    refine ty_last (F2 := (mF cI cL cC gC gE gW gA gT gI gS gM K F S N hm69 gJ_53 ge gk gf gs gg gr RN gb rV rN)) hx hb hK hG hS 1 at_127 (by rw [h_83]; rfl) rfl b_129 (by rw [h_83]; exact ⟨_, rfl, gHr_ne ⟨by omega, by omega⟩ h_128⟩) tFF dX10_byOpenings_48 (fun H locs hG hS at_130 o_131 => ?_)
    have at_117 := va_at.keptK at_117 o_131 h_83 k_a0 rfl
    refine lv_iload hx hb dX10_byOpenings_49 (lv_at hl 2 rfl) ?_
    refine lv_bipush (v := 6) hx hb dX10_byOpenings_51 (by decide) ?_
    refine lv_idiv hx hb dX10_byOpenings_53 (by decide) ?_
    refine lv_seti (y := 6) (by decide) ?_
    refine lv_pc (pc2 := 54) rfl ?_
    refine lv_istore (lv' := [(11, .int 6), (12, .int 1), (13, .int yi), (10, .int yb), (8, .long ym), (0, .ref a0), (1, .int a1), (2, .int a2), (3, .int a3), (4, .int a4), (5, .long a5), (7, .int a6)]) hx hb dX10_byOpenings_54 hl (by decide) rfl (fun ls hl => ?_)
    refine lv_iconst (v := 0) hx hb dX10_byOpenings_56 (by decide) ?_
    refine lv_istore (lv' := [(13, .int 0), (11, .int 6), (12, .int 1), (10, .int yb), (8, .long ym), (0, .ref a0), (1, .int a1), (2, .int a2), (3, .int a3), (4, .int a4), (5, .long a5), (7, .int a6)]) hx hb dX10_byOpenings_57 hl (by decide) rfl (fun ls hl => ?_)
    refine lv_pc (pc2 := 59) rfl ?_
    refine lp_gen (fun WW132 hWW132 => ?_)
    have kx132 : ∀ (yi : Int32) (yb : Int32) (ym : Int64) (hm132 : Int) (H1 : Heap) (locs1 : List Loc) (ls1 : Array Slot), (0 ≤ yi.toInt) → (yi.toInt ≤ a2.toInt) → (0 ≤ hm132) → (hm132 ≤ hm69 + yi.toInt) → tG D (mF cI cL cC gC gE gW gA gT gI gS gM K F S N hm132 gJ_53 ge gk gf gs gg gr RN gb rV rN) t H1 → tF t wmj s.heap H1 locs1 → lv_has ls1 14 [(13, .int yi), (11, .int 6), (12, .int 1), (10, .int yb), (8, .long ym), (0, .ref a0), (1, .int a1), (2, .int a2), (3, .int a3), (4, .int a4), (5, .long a5), (7, .int a6)] → WW132 H1 locs1 (F0 m 125 ls1 []) := by
      intro yi yb ym hm132 H locs ls v132_0 v132_1 v132_2 v132_3 hG hS hl
      refine (hWW132 _ _ _).mpr ?_
      refine lv_iinc (v := 2) (lv' := [(12, .int 2), (13, .int yi), (11, .int 6), (10, .int yb), (8, .long ym), (0, .ref a0), (1, .int a1), (2, .int a2), (3, .int a3), (4, .int a4), (5, .long a5), (7, .int a6)]) hx hb dX10_byOpenings_125 hl (k := 2) rfl (by decide) (by decide) rfl (fun ls hl => ?_)
      refine lv_goto (tgt := 20) hx hb dX10_byOpenings_128 (by decide) ?_
      refine lv_iload hx hb dX10_byOpenings_20 (lv_at hl 0 rfl) ?_
      refine lv_iconst (v := 4) hx hb dX10_byOpenings_22 (by decide) ?_
      refine lv_icmp_ge (tgt := 131) hx hb dX10_byOpenings_23 (by decide) (fun q => absurd q (by decide)) (fun _ => ?_)
      refine lv_pc (pc2 := 26) rfl ?_
      refine lv_aload_n hx hb dX10_byOpenings_26 rfl (lv_at hl 5 rfl) ?_
      obtain ⟨r_133, r_135, r_137, r_139, r_141, r_143, r_145, r_147, r_149, r_151, r_153, r_155, r_157, r_159, r_161, r_163, r_165, r_167, r_169, r_171, r_173, r_175, v_177, r_178, at_180, h_134, h_136, h_138, h_140, h_142, h_144, h_146, h_148, h_150, h_152, h_154, h_156, h_158, h_160, h_162, h_164, h_166, h_168, h_170, h_172, h_174, h_176, h_179⟩ := mF_o40 hG k_a0
      refine va_get (D := D) (ci := 9) (v := .ref r_145) (C := RX10) (T := TX10) (N := 36) hx hb hts in10 hown hK (va_one at_180) 0 rfl rfl 10 (by decide) (hts (.fieldLink RX10 28 "RiverModelModel" "m" "[J") (List.mem_of_getElem? (i := 6) rfl)) (fun _ h9 => h9) rfl dX10_byOpenings_27 ?_
      refine lv_sipush (v := 224) hx hb dX10_byOpenings_30 (by decide) ?_
      refine lv_iload_n hx hb dX10_byOpenings_33 rfl (lv_at hl 6 rfl) ?_
      refine lv_iadd hx hb dX10_byOpenings_34 ?_
      refine lv_topi (fun x_181 e_182 => ?_)
      have i_x_181 : x_181.toInt = 224 + a1.toInt := by rw [e_182]; exact (q_add (by rw [show (224 : Int32).toInt = 224 by decide]; omega) (by rw [show (224 : Int32).toInt = 224 by decide]; omega)).trans (by rw [show (224 : Int32).toInt = 224 by decide])
      refine lv_ldc2 hx hb hown (hts (.constantLong RX10 261 (2)) (List.mem_of_getElem? (i := 7) rfl)) dX10_byOpenings_35 ?_
      refine lv_iload hx hb dX10_byOpenings_38 (lv_at hl 11 rfl) ?_
      refine lv_iload hx hb dX10_byOpenings_40 (lv_at hl 2 rfl) ?_
      refine lv_pc (pc2 := 42) rfl ?_
      refine lv_idiv hx hb dX10_byOpenings_42 (by decide) ?_
      refine lv_topi (fun x_183 e_184 => ?_)
      have i_x_183 : x_183.toInt = a6.toInt / 6 := by rw [e_184]; exact q_divE (n := 6) rfl (by decide) (by omega)
      refine lv_bipush (v := 6) hx hb dX10_byOpenings_43 (by decide) ?_
      refine lv_irem hx hb dX10_byOpenings_45 (by decide) ?_
      refine lv_topi (fun x_185 e_186 => ?_)
      have i_x_185 : x_185.toInt = x_183.toInt % 6 := by rw [e_186]; exact q_remE (n := 6) rfl (by decide) (by omega)
      refine lv_i2l (v := x_185.toInt64) hx hb dX10_byOpenings_46 rfl ?_
      refine lv_lmul hx hb dX10_byOpenings_47 ?_
      refine lv_topl (fun z_187 e_188 => ?_)
      obtain ⟨f_189, at_190, h_191⟩ := mF_o47 hG h_146
      have b_192 : vp_in x_181 280 := (q_in (by omega) (by omega))
      refine ty_last (F2 := (mF cI cL cC gC gE gW gA gT gI gS gM K F S N hm132 gJ_53 ge gk gf gs gg gr RN gb rV rN)) hx hb hK hG hS 1 at_190 (by rw [h_146]; rfl) rfl b_192 (by rw [h_146]; exact ⟨_, rfl, gHr_ne ⟨by omega, by omega⟩ h_191⟩) tFF dX10_byOpenings_48 (fun H locs hG hS at_193 o_194 => ?_)
      have at_180 := va_at.keptK at_180 o_194 h_146 k_a0 rfl
      refine lv_iload hx hb dX10_byOpenings_49 (lv_at hl 2 rfl) ?_
      refine lv_bipush (v := 6) hx hb dX10_byOpenings_51 (by decide) ?_
      refine lv_pc (pc2 := 53) rfl ?_
      refine lv_idiv hx hb dX10_byOpenings_53 (by decide) ?_
      refine lv_seti (y := 1) (by decide) ?_
      refine lv_istore (lv' := [(11, .int 1), (12, .int 2), (13, .int yi), (10, .int yb), (8, .long ym), (0, .ref a0), (1, .int a1), (2, .int a2), (3, .int a3), (4, .int a4), (5, .long a5), (7, .int a6)]) hx hb dX10_byOpenings_54 hl (by decide) rfl (fun ls hl => ?_)
      refine lv_iconst (v := 0) hx hb dX10_byOpenings_56 (by decide) ?_
      refine lv_istore (lv' := [(13, .int 0), (11, .int 1), (12, .int 2), (10, .int yb), (8, .long ym), (0, .ref a0), (1, .int a1), (2, .int a2), (3, .int a3), (4, .int a4), (5, .long a5), (7, .int a6)]) hx hb dX10_byOpenings_57 hl (by decide) rfl (fun ls hl => ?_)
      refine lv_pc (pc2 := 59) rfl ?_
      refine lp_gen (fun WW195 hWW195 => ?_)
      have kx195 : ∀ (yi : Int32) (yb : Int32) (ym : Int64) (hm195 : Int) (H1 : Heap) (locs1 : List Loc) (ls1 : Array Slot), (0 ≤ yi.toInt) → (yi.toInt ≤ a2.toInt) → (0 ≤ hm195) → (hm195 ≤ hm132 + yi.toInt) → tG D (mF cI cL cC gC gE gW gA gT gI gS gM K F S N hm195 gJ_53 ge gk gf gs gg gr RN gb rV rN) t H1 → tF t wmj s.heap H1 locs1 → lv_has ls1 14 [(13, .int yi), (11, .int 1), (12, .int 2), (10, .int yb), (8, .long ym), (0, .ref a0), (1, .int a1), (2, .int a2), (3, .int a3), (4, .int a4), (5, .long a5), (7, .int a6)] → WW195 H1 locs1 (F0 m 125 ls1 []) := by
        intro yi yb ym hm195 H locs ls v195_0 v195_1 v195_2 v195_3 hG hS hl
        refine (hWW195 _ _ _).mpr ?_
        refine lv_iinc (v := 3) (lv' := [(12, .int 3), (13, .int yi), (11, .int 1), (10, .int yb), (8, .long ym), (0, .ref a0), (1, .int a1), (2, .int a2), (3, .int a3), (4, .int a4), (5, .long a5), (7, .int a6)]) hx hb dX10_byOpenings_125 hl (k := 2) rfl (by decide) (by decide) rfl (fun ls hl => ?_)
        refine lv_goto (tgt := 20) hx hb dX10_byOpenings_128 (by decide) ?_
        refine lv_iload hx hb dX10_byOpenings_20 (lv_at hl 0 rfl) ?_
        refine lv_iconst (v := 4) hx hb dX10_byOpenings_22 (by decide) ?_
        refine lv_pc (pc2 := 23) rfl ?_
        refine lv_icmp_ge (tgt := 131) hx hb dX10_byOpenings_23 (by decide) (fun q => absurd q (by decide)) (fun _ => ?_)
        refine lv_aload_n hx hb dX10_byOpenings_26 rfl (lv_at hl 5 rfl) ?_
        obtain ⟨r_196, r_198, r_200, r_202, r_204, r_206, r_208, r_210, r_212, r_214, r_216, r_218, r_220, r_222, r_224, r_226, r_228, r_230, r_232, r_234, r_236, r_238, v_240, r_241, at_243, h_197, h_199, h_201, h_203, h_205, h_207, h_209, h_211, h_213, h_215, h_217, h_219, h_221, h_223, h_225, h_227, h_229, h_231, h_233, h_235, h_237, h_239, h_242⟩ := mF_o40 hG k_a0
        refine va_get (D := D) (ci := 9) (v := .ref r_208) (C := RX10) (T := TX10) (N := 36) hx hb hts in10 hown hK (va_one at_243) 0 rfl rfl 10 (by decide) (hts (.fieldLink RX10 28 "RiverModelModel" "m" "[J") (List.mem_of_getElem? (i := 6) rfl)) (fun _ h9 => h9) rfl dX10_byOpenings_27 ?_
        refine lv_sipush (v := 224) hx hb dX10_byOpenings_30 (by decide) ?_
        refine lv_iload_n hx hb dX10_byOpenings_33 rfl (lv_at hl 6 rfl) ?_
        refine lv_iadd hx hb dX10_byOpenings_34 ?_
        refine lv_topi (fun x_244 e_245 => ?_)
        have i_x_244 : x_244.toInt = 224 + a1.toInt := by rw [e_245]; exact (q_add (by rw [show (224 : Int32).toInt = 224 by decide]; omega) (by rw [show (224 : Int32).toInt = 224 by decide]; omega)).trans (by rw [show (224 : Int32).toInt = 224 by decide])
        refine lv_ldc2 hx hb hown (hts (.constantLong RX10 261 (2)) (List.mem_of_getElem? (i := 7) rfl)) dX10_byOpenings_35 ?_
        refine lv_iload hx hb dX10_byOpenings_38 (lv_at hl 11 rfl) ?_
        refine lv_pc (pc2 := 40) rfl ?_
        refine lv_iload hx hb dX10_byOpenings_40 (lv_at hl 2 rfl) ?_
        refine lv_idiv hx hb dX10_byOpenings_42 (by decide) ?_
        refine lv_topi (fun x_246 e_247 => ?_)
        have i_x_246 : x_246.toInt = a6.toInt / 1 := by rw [e_247]; exact q_divE (n := 1) rfl (by decide) (by omega)
        refine lv_bipush (v := 6) hx hb dX10_byOpenings_43 (by decide) ?_
        refine lv_irem hx hb dX10_byOpenings_45 (by decide) ?_
        refine lv_topi (fun x_248 e_249 => ?_)
        have i_x_248 : x_248.toInt = x_246.toInt % 6 := by rw [e_249]; exact q_remE (n := 6) rfl (by decide) (by omega)
        refine lv_i2l (v := x_248.toInt64) hx hb dX10_byOpenings_46 rfl ?_
        refine lv_lmul hx hb dX10_byOpenings_47 ?_
        refine lv_topl (fun z_250 e_251 => ?_)
        obtain ⟨f_252, at_253, h_254⟩ := mF_o47 hG h_209
        have b_255 : vp_in x_244 280 := (q_in (by omega) (by omega))
        refine ty_last (F2 := (mF cI cL cC gC gE gW gA gT gI gS gM K F S N hm195 gJ_53 ge gk gf gs gg gr RN gb rV rN)) hx hb hK hG hS 1 at_253 (by rw [h_209]; rfl) rfl b_255 (by rw [h_209]; exact ⟨_, rfl, gHr_ne ⟨by omega, by omega⟩ h_254⟩) tFF dX10_byOpenings_48 (fun H locs hG hS at_256 o_257 => ?_)
        have at_243 := va_at.keptK at_243 o_257 h_209 k_a0 rfl
        refine lv_iload hx hb dX10_byOpenings_49 (lv_at hl 2 rfl) ?_
        refine lv_pc (pc2 := 51) rfl ?_
        refine lv_bipush (v := 6) hx hb dX10_byOpenings_51 (by decide) ?_
        refine lv_idiv hx hb dX10_byOpenings_53 (by decide) ?_
        refine lv_seti (y := 0) (by decide) ?_
        refine lv_istore (lv' := [(11, .int 0), (12, .int 3), (13, .int yi), (10, .int yb), (8, .long ym), (0, .ref a0), (1, .int a1), (2, .int a2), (3, .int a3), (4, .int a4), (5, .long a5), (7, .int a6)]) hx hb dX10_byOpenings_54 hl (by decide) rfl (fun ls hl => ?_)
        refine lv_iconst (v := 0) hx hb dX10_byOpenings_56 (by decide) ?_
        refine lv_istore (lv' := [(13, .int 0), (11, .int 0), (12, .int 3), (10, .int yb), (8, .long ym), (0, .ref a0), (1, .int a1), (2, .int a2), (3, .int a3), (4, .int a4), (5, .long a5), (7, .int a6)]) hx hb dX10_byOpenings_57 hl (by decide) rfl (fun ls hl => ?_)
        refine lv_pc (pc2 := 59) rfl ?_
        refine lp_gen (fun WW258 hWW258 => ?_)
        have kx258 : ∀ (yi : Int32) (yb : Int32) (ym : Int64) (hm258 : Int) (H1 : Heap) (locs1 : List Loc) (ls1 : Array Slot), (0 ≤ yi.toInt) → (yi.toInt ≤ a2.toInt) → (0 ≤ hm258) → (hm258 ≤ hm195 + yi.toInt) → tG D (mF cI cL cC gC gE gW gA gT gI gS gM K F S N hm258 gJ_53 ge gk gf gs gg gr RN gb rV rN) t H1 → tF t wmj s.heap H1 locs1 → lv_has ls1 14 [(13, .int yi), (11, .int 0), (12, .int 3), (10, .int yb), (8, .long ym), (0, .ref a0), (1, .int a1), (2, .int a2), (3, .int a3), (4, .int a4), (5, .long a5), (7, .int a6)] → WW258 H1 locs1 (F0 m 125 ls1 []) := by
          intro yi yb ym hm258 H locs ls v258_0 v258_1 v258_2 v258_3 hG hS hl
          refine (hWW258 _ _ _).mpr ?_
          refine lv_iinc (v := 4) (lv' := [(12, .int 4), (13, .int yi), (11, .int 0), (10, .int yb), (8, .long ym), (0, .ref a0), (1, .int a1), (2, .int a2), (3, .int a3), (4, .int a4), (5, .long a5), (7, .int a6)]) hx hb dX10_byOpenings_125 hl (k := 2) rfl (by decide) (by decide) rfl (fun ls hl => ?_)
          refine lv_goto (tgt := 20) hx hb dX10_byOpenings_128 (by decide) ?_
          refine lv_iload hx hb dX10_byOpenings_20 (lv_at hl 0 rfl) ?_
          refine lv_pc (pc2 := 22) rfl ?_
          refine lv_iconst (v := 4) hx hb dX10_byOpenings_22 (by decide) ?_
          refine lv_icmp_ge (tgt := 131) hx hb dX10_byOpenings_23 (by decide) (fun _ => ?_) (fun q => absurd (by decide) q)
          refine lv_aload_n hx hb dX10_byOpenings_131 rfl (lv_at hl 5 rfl) ?_
          obtain ⟨r_259, r_261, r_263, r_265, r_267, r_269, r_271, r_273, r_275, r_277, r_279, r_281, r_283, r_285, r_287, r_289, r_291, r_293, r_295, r_297, r_299, r_301, v_303, r_304, at_306, h_260, h_262, h_264, h_266, h_268, h_270, h_272, h_274, h_276, h_278, h_280, h_282, h_284, h_286, h_288, h_290, h_292, h_294, h_296, h_298, h_300, h_302, h_305⟩ := mF_o40 hG k_a0
          refine tx_callv (W.runV (As := []) (rest := []) ⟨hx, hb, hml, hown, hts⟩ (m_X10_returns l D t cI cL cC gC gE gW gA gT gI gS gM K F S N hm258 gJ_53 ge gk gf gs gg gr RN gb rV rN a0  uq  k_a0) (cwV 0 hts gu_X10_byOpenings_X10_returns_277 rfl rfl rfl (by decide +kernel) ⟨Nat.le_of_ble_eq_true rfl, Nat.le_of_ble_eq_true rfl⟩) (tP_V hG hE at_306 rfl) rfl rfl hl.1 rfl (lv_room (Nat.le_of_ble_eq_true rfl)) dX10_byOpenings_132 ⟨Nat.le_of_ble_eq_true rfl, Nat.le_of_ble_eq_true rfl⟩) hS (wrL_sub (by decide)) (fun gH_311 H locs hp_308 hG hS o_309 => ?_)
          have at_306 := va_at.keptC at_306 o_309 k_a0 rfl
          replace hG : tG D (mF cI cL cC gC gE gW gA gT gI gS gM K F S N gH_311 gJ_53 ge gk gf gs gg gr RN gb rV rN) t H := hG
          have hp_308 : gH_311 = gJ_53 := hp_308
          have p_312 := hp_308
          refine lv_iload hx hb dX10_byOpenings_135 (lv_at hl 3 rfl) ?_
          refine lv_if_eq (tgt := 145) hx hb dX10_byOpenings_137 (by decide) (fun c_313 => ?_) (fun c_313 => ?_)
          · skip
            have c_313 : yb.toInt = 0 := q_eq c_313
            refine lv_ldc2 hx hb hown (hts (.constantLong RX10 236 (-1)) (List.mem_of_getElem? (i := 5) rfl)) dX10_byOpenings_145 ?_
            have zl_m1 : ((-1) : Int64).toInt = (-1) := by decide
            exact tx_lret (z := (gH_311, gJ_53)) hx hb hr hlk hG hS (by show gH_311 = gH; omega) dX10_byOpenings_148
          · skip
            have c_313 : yb.toInt ≠ 0 := q_ne c_313
            refine lv_pc (pc2 := 140) rfl ?_
            refine lv_lload hx hb dX10_byOpenings_140 (lv_at hl 4 rfl) ?_
            refine lv_goto (tgt := 148) hx hb dX10_byOpenings_142 (by decide) ?_
            exact tx_lret (z := (gH_311, gJ_53)) hx hb hr hlk hG hS (by show gH_311 = gH; omega) dX10_byOpenings_148
        have lp258 : ∀ (kk258 : Nat) (yi : Int32) (yb : Int32) (ym : Int64) (hm258 : Int) (H1 : Heap) (locs1 : List Loc) (ls1 : Array Slot), a2.toInt - yi.toInt ≤ (kk258 : Int) → (0 ≤ yi.toInt) → (yi.toInt ≤ a2.toInt) → (0 ≤ hm258) → (hm258 ≤ hm195 + yi.toInt) → tG D (mF cI cL cC gC gE gW gA gT gI gS gM K F S N hm258 gJ_53 ge gk gf gs gg gr RN gb rV rN) t H1 → tF t wmj s.heap H1 locs1 → lv_has ls1 14 [(13, .int yi), (11, .int 0), (12, .int 3), (10, .int yb), (8, .long ym), (0, .ref a0), (1, .int a1), (2, .int a2), (3, .int a3), (4, .int a4), (5, .long a5), (7, .int a6)] → WW258 H1 locs1 (F0 m 59 ls1 []) := by
          intro kk258
          induction kk258 with
          | zero =>
            intro yi yb ym hm258 H locs ls hk258 v258_0 v258_1 v258_2 v258_3 hG hS hl
            refine (hWW258 _ _ _).mpr ?_
            refine lv_iload hx hb dX10_byOpenings_59 (lv_at hl 0 rfl) ?_
            refine lv_iload_n hx hb dX10_byOpenings_61 rfl (lv_at hl 7 rfl) ?_
            refine lv_icmp_ge (tgt := 125) hx hb dX10_byOpenings_62 (by decide) (fun c_314 => ?_) (fun c_314 => ?_)
            · skip
              have c_314 : a2.toInt ≤ yi.toInt := q_le c_314
              exact (hWW258 _ _ _).mp (kx258 yi yb ym hm258 H locs ls v258_0 v258_1 v258_2 v258_3 hG hS (lv_sub hl [0, 1, 2, 3, 4, 5, 6, 7, 8, 9, 10, 11] rfl))
            · skip
              have c_314 : yi.toInt < a2.toInt := q_nle c_314
              exfalso; omega
          | succ kk258 ih258 =>
            intro yi yb ym hm258 H locs ls hk258 v258_0 v258_1 v258_2 v258_3 hG hS hl
            refine (hWW258 _ _ _).mpr ?_
            refine lv_iload hx hb dX10_byOpenings_59 (lv_at hl 0 rfl) ?_
            refine lv_iload_n hx hb dX10_byOpenings_61 rfl (lv_at hl 7 rfl) ?_
            refine lv_pc (pc2 := 62) rfl ?_
            refine lv_icmp_ge (tgt := 125) hx hb dX10_byOpenings_62 (by decide) (fun c_315 => ?_) (fun c_315 => ?_)
            · skip
              have c_315 : a2.toInt ≤ yi.toInt := q_le c_315
              exact (hWW258 _ _ _).mp (kx258 yi yb ym hm258 H locs ls v258_0 v258_1 v258_2 v258_3 hG hS (lv_sub hl [0, 1, 2, 3, 4, 5, 6, 7, 8, 9, 10, 11] rfl))
            · skip
              have c_315 : yi.toInt < a2.toInt := q_nle c_315
              refine lv_iload hx hb dX10_byOpenings_65 (lv_at hl 3 rfl) ?_
              refine lv_if_eq (tgt := 125) hx hb dX10_byOpenings_67 (by decide) (fun c_316 => ?_) (fun c_316 => ?_)
              · skip
                have c_316 : yb.toInt = 0 := q_eq c_316
                exact (hWW258 _ _ _).mp (kx258 yi yb ym hm258 H locs ls v258_0 v258_1 v258_2 v258_3 hG hS (lv_sub hl [0, 1, 2, 3, 4, 5, 6, 7, 8, 9, 10, 11] rfl))
              · skip
                have c_316 : yb.toInt ≠ 0 := q_ne c_316
                refine lv_aload_n hx hb dX10_byOpenings_70 rfl (lv_at hl 5 rfl) ?_
                refine lv_iconst (v := 0) hx hb dX10_byOpenings_71 (by decide) ?_
                refine lv_iconst (v := 0) hx hb dX10_byOpenings_72 (by decide) ?_
                have zi_0 : (0 : Int32).toInt = 0 := by decide
                obtain ⟨r_317, r_319, r_321, r_323, r_325, r_327, r_329, r_331, r_333, r_335, r_337, r_339, r_341, r_343, r_345, r_347, r_349, r_351, r_353, r_355, r_357, r_359, v_361, r_362, at_364, h_318, h_320, h_322, h_324, h_326, h_328, h_330, h_332, h_334, h_336, h_338, h_340, h_342, h_344, h_346, h_348, h_350, h_352, h_354, h_356, h_358, h_360, h_363⟩ := mF_o40 hG k_a0
                refine tx_callv (W.runV (As := [.int 0, .int 0]) (rest := []) ⟨hx, hb, hml, hown, hts⟩ (m_X10_goes l D t cI cL cC gC gE gW gA gT gI gS gM K F S N hm258 gJ_53 ge gk gf gs gg gr RN gb rV rN a0 0 0 0 uq (by omega) (by omega) (by omega) (by omega) (by omega) hO0 (by omega) (by omega) (by omega) (by omega) k_a0) (cwV 2 hts gu_X10_byOpenings_X10_goes_231 rfl rfl rfl (by decide +kernel) ⟨Nat.le_of_ble_eq_true rfl, Nat.le_of_ble_eq_true rfl⟩) (tP_V hG hE at_364 rfl) rfl rfl hl.1 rfl (lv_room (Nat.le_of_ble_eq_true rfl)) dX10_byOpenings_73 ⟨Nat.le_of_ble_eq_true rfl, Nat.le_of_ble_eq_true rfl⟩) hS (wrL_sub (by decide)) (fun gH_369 H locs hp_366 hG hS o_367 => ?_)
                have at_364 := va_at.keptC at_364 o_367 k_a0 rfl
                replace hG : tG D (mF cI cL cC gC gE gW gA gT gI gS gM K F S N gH_369 gJ_53 ge gk gf gs gg gr RN gb rV rN) t H := hG
                have hp_366 : gH_369 = hm258 + 1 := hp_366
                have p_370 := hp_366
                refine lv_aload_n hx hb dX10_byOpenings_76 rfl (lv_at hl 5 rfl) ?_
                refine lv_pc (pc2 := 77) rfl ?_
                refine va_get (D := D) (ci := 9) (v := .ref r_329) (C := RX10) (T := TX10) (N := 36) hx hb hts in10 hown hK (va_one at_364) 0 rfl rfl 10 (by decide) (hts (.fieldLink RX10 28 "RiverModelModel" "m" "[J") (List.mem_of_getElem? (i := 6) rfl)) (fun _ h9 => h9) rfl dX10_byOpenings_77 ?_
                refine lv_iload hx hb dX10_byOpenings_80 (lv_at hl 9 rfl) ?_
                obtain ⟨f_371, at_372, h_373⟩ := mF_o47 hG h_330
                have b_374 : vp_in a4 280 := (q_in (by omega) (by omega))
                refine va_lald hx hb hK (va_one at_372) 0 1 rfl rfl b_374 dX10_byOpenings_82 ?_
                refine lv_topl (fun z_375 e_376 => ?_)
                refine lv_lload hx hb dX10_byOpenings_83 (lv_at hl 10 rfl) ?_
                refine W.lcmp hx hb dX10_byOpenings_85 ?_
                refine lv_if_gt (tgt := 93) hx hb dX10_byOpenings_86 (by decide) (fun c_377 => ?_) (fun c_377 => ?_)
                · skip
                  have c_377 : a5.toInt < z_375.toInt := q_cmp_gt c_377
                  refine lv_iconst (v := 0) hx hb dX10_byOpenings_93 (by decide) ?_
                  refine lv_istore (lv' := [(10, .int 0), (13, .int yi), (11, .int 0), (12, .int 3), (8, .long ym), (0, .ref a0), (1, .int a1), (2, .int a2), (3, .int a3), (4, .int a4), (5, .long a5), (7, .int a6)]) hx hb dX10_byOpenings_94 hl (by decide) rfl (fun ls hl => ?_)
                  refine lv_pc (pc2 := 96) rfl ?_
                  refine lv_aload_n hx hb dX10_byOpenings_96 rfl (lv_at hl 5 rfl) ?_
                  refine lv_iload_n hx hb dX10_byOpenings_97 rfl (lv_at hl 8 rfl) ?_
                  refine ty_calll (W.runV (As := [.int a3]) (rest := []) ⟨hx, hb, hml, hown, hts⟩ (m_X10_reading l D t cI cL cC gC gE gW gA gT gI gS gM K F S N gH_369 gJ_53 ge gk gf gs gg gr RN gb rV rN a0 a3  uq (by omega) (by omega) k_a0) (cwV 1 hts gu_X10_byOpenings_X10_reading_251 rfl rfl rfl (by decide +kernel) ⟨Nat.le_of_ble_eq_true rfl, Nat.le_of_ble_eq_true rfl⟩) (tP_V hG hE at_364 rfl) rfl rfl hl.1 rfl (lv_room (Nat.le_of_ble_eq_true rfl)) dX10_byOpenings_98 ⟨Nat.le_of_ble_eq_true rfl, Nat.le_of_ble_eq_true rfl⟩) hS (fun k h => by simp [wr0] at h) (fun z_378 H locs hp_379 hG hS o_380 => ?_)
                  have at_364 := va_at.keptC at_364 o_380 k_a0 rfl
                  have at_372 := va_at.keptC at_372 o_380 h_330 rfl
                  refine lv_lload hx hb dX10_byOpenings_101 (lv_at hl 4 rfl) ?_
                  refine W.lcmp hx hb dX10_byOpenings_103 ?_
                  refine lv_if_le (tgt := 115) hx hb dX10_byOpenings_104 (by decide) (fun c_382 => ?_) (fun c_382 => ?_)
                  · skip
                    have c_382 : z_378.toInt ≤ ym.toInt := q_cmp_le c_382
                    refine lv_lload hx hb dX10_byOpenings_115 (lv_at hl 4 rfl) ?_
                    refine lv_lstore (lv' := [(8, .long ym), (10, .int 0), (13, .int yi), (11, .int 0), (12, .int 3), (0, .ref a0), (1, .int a1), (2, .int a2), (3, .int a3), (4, .int a4), (5, .long a5), (7, .int a6)]) hx hb dX10_byOpenings_117 hl (by decide) rfl (fun ls hl => ?_)
                    refine lv_pc (pc2 := 119) rfl ?_
                    obtain ⟨x_383, e_384⟩ : ∃ y : Int32, y = yi + Int32.ofInt 1 := ⟨_, rfl⟩
                    have i_x_383 : x_383.toInt = yi.toInt + 1 := by rw [e_384, show Int32.ofInt 1 = 1 by decide]; exact (q_add (by rw [show (1 : Int32).toInt = 1 by decide]; omega) (by rw [show (1 : Int32).toInt = 1 by decide]; omega)).trans (by rw [show (1 : Int32).toInt = 1 by decide])
                    refine lv_iinc (v := x_383) (lv' := [(13, .int x_383), (8, .long ym), (10, .int 0), (11, .int 0), (12, .int 3), (0, .ref a0), (1, .int a1), (2, .int a2), (3, .int a3), (4, .int a4), (5, .long a5), (7, .int a6)]) hx hb dX10_byOpenings_119 hl (k := 2) rfl e_384.symm (by decide) rfl (fun ls hl => ?_)
                    refine lv_goto (tgt := 59) hx hb dX10_byOpenings_122 (by decide) ?_
                    exact (hWW258 _ _ _).mp (ih258 x_383 0 ym gH_369 H locs ls (by omega) (by omega) (by omega) (by omega) (by omega) hG hS (lv_sub hl [0, 3, 4, 2, 1, 5, 6, 7, 8, 9, 10, 11] rfl))
                  · skip
                    have c_382 : ym.toInt < z_378.toInt := q_cmp_nle c_382
                    refine lv_aload_n hx hb dX10_byOpenings_107 rfl (lv_at hl 5 rfl) ?_
                    refine lv_iload_n hx hb dX10_byOpenings_108 rfl (lv_at hl 8 rfl) ?_
                    refine ty_calll (W.runV (As := [.int a3]) (rest := []) ⟨hx, hb, hml, hown, hts⟩ (m_X10_reading l D t cI cL cC gC gE gW gA gT gI gS gM K F S N gH_369 gJ_53 ge gk gf gs gg gr RN gb rV rN a0 a3  uq (by omega) (by omega) k_a0) (cwV 1 hts gu_X10_byOpenings_X10_reading_251 rfl rfl rfl (by decide +kernel) ⟨Nat.le_of_ble_eq_true rfl, Nat.le_of_ble_eq_true rfl⟩) (tP_V hG hE at_364 rfl) rfl rfl hl.1 rfl (lv_room (Nat.le_of_ble_eq_true rfl)) dX10_byOpenings_109 ⟨Nat.le_of_ble_eq_true rfl, Nat.le_of_ble_eq_true rfl⟩) hS (fun k h => by simp [wr0] at h) (fun z_385 H locs hp_386 hG hS o_387 => ?_)
                    have at_364 := va_at.keptC at_364 o_387 k_a0 rfl
                    have at_372 := va_at.keptC at_372 o_387 h_330 rfl
                    refine lv_goto (tgt := 117) hx hb dX10_byOpenings_112 (by decide) ?_
                    refine lv_lstore (lv' := [(8, .long z_385), (10, .int 0), (13, .int yi), (11, .int 0), (12, .int 3), (0, .ref a0), (1, .int a1), (2, .int a2), (3, .int a3), (4, .int a4), (5, .long a5), (7, .int a6)]) hx hb dX10_byOpenings_117 hl (by decide) rfl (fun ls hl => ?_)
                    obtain ⟨x_389, e_390⟩ : ∃ y : Int32, y = yi + Int32.ofInt 1 := ⟨_, rfl⟩
                    have i_x_389 : x_389.toInt = yi.toInt + 1 := by rw [e_390, show Int32.ofInt 1 = 1 by decide]; exact (q_add (by rw [show (1 : Int32).toInt = 1 by decide]; omega) (by rw [show (1 : Int32).toInt = 1 by decide]; omega)).trans (by rw [show (1 : Int32).toInt = 1 by decide])
                    refine lv_iinc (v := x_389) (lv' := [(13, .int x_389), (8, .long z_385), (10, .int 0), (11, .int 0), (12, .int 3), (0, .ref a0), (1, .int a1), (2, .int a2), (3, .int a3), (4, .int a4), (5, .long a5), (7, .int a6)]) hx hb dX10_byOpenings_119 hl (k := 2) rfl e_390.symm (by decide) rfl (fun ls hl => ?_)
                    refine lv_pc (pc2 := 122) rfl ?_
                    refine lv_goto (tgt := 59) hx hb dX10_byOpenings_122 (by decide) ?_
                    exact (hWW258 _ _ _).mp (ih258 x_389 0 z_385 gH_369 H locs ls (by omega) (by omega) (by omega) (by omega) (by omega) hG hS (lv_sub hl [0, 3, 4, 2, 1, 5, 6, 7, 8, 9, 10, 11] rfl))
                · skip
                  have c_377 : z_375.toInt ≤ a5.toInt := q_cmp_ngt c_377
                  refine lv_iconst (v := 1) hx hb dX10_byOpenings_89 (by decide) ?_
                  refine lv_goto (tgt := 94) hx hb dX10_byOpenings_90 (by decide) ?_
                  refine lv_istore (lv' := [(10, .int 1), (13, .int yi), (11, .int 0), (12, .int 3), (8, .long ym), (0, .ref a0), (1, .int a1), (2, .int a2), (3, .int a3), (4, .int a4), (5, .long a5), (7, .int a6)]) hx hb dX10_byOpenings_94 hl (by decide) rfl (fun ls hl => ?_)
                  refine lv_aload_n hx hb dX10_byOpenings_96 rfl (lv_at hl 5 rfl) ?_
                  refine lv_iload_n hx hb dX10_byOpenings_97 rfl (lv_at hl 8 rfl) ?_
                  refine ty_calll (W.runV (As := [.int a3]) (rest := []) ⟨hx, hb, hml, hown, hts⟩ (m_X10_reading l D t cI cL cC gC gE gW gA gT gI gS gM K F S N gH_369 gJ_53 ge gk gf gs gg gr RN gb rV rN a0 a3  uq (by omega) (by omega) k_a0) (cwV 1 hts gu_X10_byOpenings_X10_reading_251 rfl rfl rfl (by decide +kernel) ⟨Nat.le_of_ble_eq_true rfl, Nat.le_of_ble_eq_true rfl⟩) (tP_V hG hE at_364 rfl) rfl rfl hl.1 rfl (lv_room (Nat.le_of_ble_eq_true rfl)) dX10_byOpenings_98 ⟨Nat.le_of_ble_eq_true rfl, Nat.le_of_ble_eq_true rfl⟩) hS (fun k h => by simp [wr0] at h) (fun z_391 H locs hp_392 hG hS o_393 => ?_)
                  have at_364 := va_at.keptC at_364 o_393 k_a0 rfl
                  have at_372 := va_at.keptC at_372 o_393 h_330 rfl
                  refine lv_lload hx hb dX10_byOpenings_101 (lv_at hl 4 rfl) ?_
                  refine lv_pc (pc2 := 103) rfl ?_
                  refine W.lcmp hx hb dX10_byOpenings_103 ?_
                  refine lv_if_le (tgt := 115) hx hb dX10_byOpenings_104 (by decide) (fun c_395 => ?_) (fun c_395 => ?_)
                  · skip
                    have c_395 : z_391.toInt ≤ ym.toInt := q_cmp_le c_395
                    refine lv_lload hx hb dX10_byOpenings_115 (lv_at hl 4 rfl) ?_
                    refine lv_lstore (lv' := [(8, .long ym), (10, .int 1), (13, .int yi), (11, .int 0), (12, .int 3), (0, .ref a0), (1, .int a1), (2, .int a2), (3, .int a3), (4, .int a4), (5, .long a5), (7, .int a6)]) hx hb dX10_byOpenings_117 hl (by decide) rfl (fun ls hl => ?_)
                    obtain ⟨x_396, e_397⟩ : ∃ y : Int32, y = yi + Int32.ofInt 1 := ⟨_, rfl⟩
                    have i_x_396 : x_396.toInt = yi.toInt + 1 := by rw [e_397, show Int32.ofInt 1 = 1 by decide]; exact (q_add (by rw [show (1 : Int32).toInt = 1 by decide]; omega) (by rw [show (1 : Int32).toInt = 1 by decide]; omega)).trans (by rw [show (1 : Int32).toInt = 1 by decide])
                    refine lv_iinc (v := x_396) (lv' := [(13, .int x_396), (8, .long ym), (10, .int 1), (11, .int 0), (12, .int 3), (0, .ref a0), (1, .int a1), (2, .int a2), (3, .int a3), (4, .int a4), (5, .long a5), (7, .int a6)]) hx hb dX10_byOpenings_119 hl (k := 2) rfl e_397.symm (by decide) rfl (fun ls hl => ?_)
                    refine lv_goto (tgt := 59) hx hb dX10_byOpenings_122 (by decide) ?_
                    have zi_1 : (1 : Int32).toInt = 1 := by decide
                    exact (hWW258 _ _ _).mp (ih258 x_396 1 ym gH_369 H locs ls (by omega) (by omega) (by omega) (by omega) (by omega) hG hS (lv_sub hl [0, 3, 4, 2, 1, 5, 6, 7, 8, 9, 10, 11] rfl))
                  · skip
                    have c_395 : ym.toInt < z_391.toInt := q_cmp_nle c_395
                    refine lv_aload_n hx hb dX10_byOpenings_107 rfl (lv_at hl 5 rfl) ?_
                    refine lv_iload_n hx hb dX10_byOpenings_108 rfl (lv_at hl 8 rfl) ?_
                    refine lv_pc (pc2 := 109) rfl ?_
                    refine ty_calll (W.runV (As := [.int a3]) (rest := []) ⟨hx, hb, hml, hown, hts⟩ (m_X10_reading l D t cI cL cC gC gE gW gA gT gI gS gM K F S N gH_369 gJ_53 ge gk gf gs gg gr RN gb rV rN a0 a3  uq (by omega) (by omega) k_a0) (cwV 1 hts gu_X10_byOpenings_X10_reading_251 rfl rfl rfl (by decide +kernel) ⟨Nat.le_of_ble_eq_true rfl, Nat.le_of_ble_eq_true rfl⟩) (tP_V hG hE at_364 rfl) rfl rfl hl.1 rfl (lv_room (Nat.le_of_ble_eq_true rfl)) dX10_byOpenings_109 ⟨Nat.le_of_ble_eq_true rfl, Nat.le_of_ble_eq_true rfl⟩) hS (fun k h => by simp [wr0] at h) (fun z_398 H locs hp_399 hG hS o_400 => ?_)
                    have at_364 := va_at.keptC at_364 o_400 k_a0 rfl
                    have at_372 := va_at.keptC at_372 o_400 h_330 rfl
                    refine lv_goto (tgt := 117) hx hb dX10_byOpenings_112 (by decide) ?_
                    refine lv_lstore (lv' := [(8, .long z_398), (10, .int 1), (13, .int yi), (11, .int 0), (12, .int 3), (0, .ref a0), (1, .int a1), (2, .int a2), (3, .int a3), (4, .int a4), (5, .long a5), (7, .int a6)]) hx hb dX10_byOpenings_117 hl (by decide) rfl (fun ls hl => ?_)
                    obtain ⟨x_402, e_403⟩ : ∃ y : Int32, y = yi + Int32.ofInt 1 := ⟨_, rfl⟩
                    have i_x_402 : x_402.toInt = yi.toInt + 1 := by rw [e_403, show Int32.ofInt 1 = 1 by decide]; exact (q_add (by rw [show (1 : Int32).toInt = 1 by decide]; omega) (by rw [show (1 : Int32).toInt = 1 by decide]; omega)).trans (by rw [show (1 : Int32).toInt = 1 by decide])
                    refine lv_iinc (v := x_402) (lv' := [(13, .int x_402), (8, .long z_398), (10, .int 1), (11, .int 0), (12, .int 3), (0, .ref a0), (1, .int a1), (2, .int a2), (3, .int a3), (4, .int a4), (5, .long a5), (7, .int a6)]) hx hb dX10_byOpenings_119 hl (k := 2) rfl e_403.symm (by decide) rfl (fun ls hl => ?_)
                    refine lv_goto (tgt := 59) hx hb dX10_byOpenings_122 (by decide) ?_
                    have zi_1 : (1 : Int32).toInt = 1 := by decide
                    exact (hWW258 _ _ _).mp (ih258 x_402 1 z_398 gH_369 H locs ls (by omega) (by omega) (by omega) (by omega) (by omega) hG hS (lv_sub hl [0, 3, 4, 2, 1, 5, 6, 7, 8, 9, 10, 11] rfl))
        have zi_0 : (0 : Int32).toInt = 0 := by decide
        exact lp258 (a2.toInt - (0 : Int32).toInt : Int).toNat 0 yb ym hm195 H locs ls (by omega) (by omega) (by omega) (by omega) (by omega) hG hS (lv_sub hl [0, 1, 2, 3, 4, 5, 6, 7, 8, 9, 10, 11] rfl)
      have lp195 : ∀ (kk195 : Nat) (yi : Int32) (yb : Int32) (ym : Int64) (hm195 : Int) (H1 : Heap) (locs1 : List Loc) (ls1 : Array Slot), a2.toInt - yi.toInt ≤ (kk195 : Int) → (0 ≤ yi.toInt) → (yi.toInt ≤ a2.toInt) → (0 ≤ hm195) → (hm195 ≤ hm132 + yi.toInt) → tG D (mF cI cL cC gC gE gW gA gT gI gS gM K F S N hm195 gJ_53 ge gk gf gs gg gr RN gb rV rN) t H1 → tF t wmj s.heap H1 locs1 → lv_has ls1 14 [(13, .int yi), (11, .int 1), (12, .int 2), (10, .int yb), (8, .long ym), (0, .ref a0), (1, .int a1), (2, .int a2), (3, .int a3), (4, .int a4), (5, .long a5), (7, .int a6)] → WW195 H1 locs1 (F0 m 59 ls1 []) := by
        intro kk195
        induction kk195 with
        | zero =>
          intro yi yb ym hm195 H locs ls hk195 v195_0 v195_1 v195_2 v195_3 hG hS hl
          refine (hWW195 _ _ _).mpr ?_
          refine lv_iload hx hb dX10_byOpenings_59 (lv_at hl 0 rfl) ?_
          refine lv_iload_n hx hb dX10_byOpenings_61 rfl (lv_at hl 7 rfl) ?_
          refine lv_icmp_ge (tgt := 125) hx hb dX10_byOpenings_62 (by decide) (fun c_404 => ?_) (fun c_404 => ?_)
          · skip
            have c_404 : a2.toInt ≤ yi.toInt := q_le c_404
            exact (hWW195 _ _ _).mp (kx195 yi yb ym hm195 H locs ls v195_0 v195_1 v195_2 v195_3 hG hS (lv_sub hl [0, 1, 2, 3, 4, 5, 6, 7, 8, 9, 10, 11] rfl))
          · skip
            have c_404 : yi.toInt < a2.toInt := q_nle c_404
            exfalso; omega
        | succ kk195 ih195 =>
          intro yi yb ym hm195 H locs ls hk195 v195_0 v195_1 v195_2 v195_3 hG hS hl
          refine (hWW195 _ _ _).mpr ?_
          refine lv_pc (pc2 := 59) rfl ?_
          refine lv_iload hx hb dX10_byOpenings_59 (lv_at hl 0 rfl) ?_
          refine lv_iload_n hx hb dX10_byOpenings_61 rfl (lv_at hl 7 rfl) ?_
          refine lv_icmp_ge (tgt := 125) hx hb dX10_byOpenings_62 (by decide) (fun c_405 => ?_) (fun c_405 => ?_)
          · skip
            have c_405 : a2.toInt ≤ yi.toInt := q_le c_405
            exact (hWW195 _ _ _).mp (kx195 yi yb ym hm195 H locs ls v195_0 v195_1 v195_2 v195_3 hG hS (lv_sub hl [0, 1, 2, 3, 4, 5, 6, 7, 8, 9, 10, 11] rfl))
          · skip
            have c_405 : yi.toInt < a2.toInt := q_nle c_405
            refine lv_iload hx hb dX10_byOpenings_65 (lv_at hl 3 rfl) ?_
            refine lv_if_eq (tgt := 125) hx hb dX10_byOpenings_67 (by decide) (fun c_406 => ?_) (fun c_406 => ?_)
            · skip
              have c_406 : yb.toInt = 0 := q_eq c_406
              exact (hWW195 _ _ _).mp (kx195 yi yb ym hm195 H locs ls v195_0 v195_1 v195_2 v195_3 hG hS (lv_sub hl [0, 1, 2, 3, 4, 5, 6, 7, 8, 9, 10, 11] rfl))
            · skip
              have c_406 : yb.toInt ≠ 0 := q_ne c_406
              refine lv_aload_n hx hb dX10_byOpenings_70 rfl (lv_at hl 5 rfl) ?_
              refine lv_iconst (v := 0) hx hb dX10_byOpenings_71 (by decide) ?_
              refine lv_iconst (v := 0) hx hb dX10_byOpenings_72 (by decide) ?_
              refine lv_pc (pc2 := 73) rfl ?_
              have zi_0 : (0 : Int32).toInt = 0 := by decide
              obtain ⟨r_407, r_409, r_411, r_413, r_415, r_417, r_419, r_421, r_423, r_425, r_427, r_429, r_431, r_433, r_435, r_437, r_439, r_441, r_443, r_445, r_447, r_449, v_451, r_452, at_454, h_408, h_410, h_412, h_414, h_416, h_418, h_420, h_422, h_424, h_426, h_428, h_430, h_432, h_434, h_436, h_438, h_440, h_442, h_444, h_446, h_448, h_450, h_453⟩ := mF_o40 hG k_a0
              refine tx_callv (W.runV (As := [.int 0, .int 0]) (rest := []) ⟨hx, hb, hml, hown, hts⟩ (m_X10_goes l D t cI cL cC gC gE gW gA gT gI gS gM K F S N hm195 gJ_53 ge gk gf gs gg gr RN gb rV rN a0 0 0 0 uq (by omega) (by omega) (by omega) (by omega) (by omega) hO0 (by omega) (by omega) (by omega) (by omega) k_a0) (cwV 2 hts gu_X10_byOpenings_X10_goes_231 rfl rfl rfl (by decide +kernel) ⟨Nat.le_of_ble_eq_true rfl, Nat.le_of_ble_eq_true rfl⟩) (tP_V hG hE at_454 rfl) rfl rfl hl.1 rfl (lv_room (Nat.le_of_ble_eq_true rfl)) dX10_byOpenings_73 ⟨Nat.le_of_ble_eq_true rfl, Nat.le_of_ble_eq_true rfl⟩) hS (wrL_sub (by decide)) (fun gH_459 H locs hp_456 hG hS o_457 => ?_)
              have at_454 := va_at.keptC at_454 o_457 k_a0 rfl
              replace hG : tG D (mF cI cL cC gC gE gW gA gT gI gS gM K F S N gH_459 gJ_53 ge gk gf gs gg gr RN gb rV rN) t H := hG
              have hp_456 : gH_459 = hm195 + 1 := hp_456
              have p_460 := hp_456
              refine lv_aload_n hx hb dX10_byOpenings_76 rfl (lv_at hl 5 rfl) ?_
              refine va_get (D := D) (ci := 9) (v := .ref r_419) (C := RX10) (T := TX10) (N := 36) hx hb hts in10 hown hK (va_one at_454) 0 rfl rfl 10 (by decide) (hts (.fieldLink RX10 28 "RiverModelModel" "m" "[J") (List.mem_of_getElem? (i := 6) rfl)) (fun _ h9 => h9) rfl dX10_byOpenings_77 ?_
              refine lv_iload hx hb dX10_byOpenings_80 (lv_at hl 9 rfl) ?_
              obtain ⟨f_461, at_462, h_463⟩ := mF_o47 hG h_420
              have b_464 : vp_in a4 280 := (q_in (by omega) (by omega))
              refine va_lald hx hb hK (va_one at_462) 0 1 rfl rfl b_464 dX10_byOpenings_82 ?_
              refine lv_topl (fun z_465 e_466 => ?_)
              refine lv_lload hx hb dX10_byOpenings_83 (lv_at hl 10 rfl) ?_
              refine W.lcmp hx hb dX10_byOpenings_85 ?_
              refine lv_if_gt (tgt := 93) hx hb dX10_byOpenings_86 (by decide) (fun c_467 => ?_) (fun c_467 => ?_)
              · skip
                have c_467 : a5.toInt < z_465.toInt := q_cmp_gt c_467
                refine lv_pc (pc2 := 93) rfl ?_
                refine lv_iconst (v := 0) hx hb dX10_byOpenings_93 (by decide) ?_
                refine lv_istore (lv' := [(10, .int 0), (13, .int yi), (11, .int 1), (12, .int 2), (8, .long ym), (0, .ref a0), (1, .int a1), (2, .int a2), (3, .int a3), (4, .int a4), (5, .long a5), (7, .int a6)]) hx hb dX10_byOpenings_94 hl (by decide) rfl (fun ls hl => ?_)
                refine lv_aload_n hx hb dX10_byOpenings_96 rfl (lv_at hl 5 rfl) ?_
                refine lv_iload_n hx hb dX10_byOpenings_97 rfl (lv_at hl 8 rfl) ?_
                refine ty_calll (W.runV (As := [.int a3]) (rest := []) ⟨hx, hb, hml, hown, hts⟩ (m_X10_reading l D t cI cL cC gC gE gW gA gT gI gS gM K F S N gH_459 gJ_53 ge gk gf gs gg gr RN gb rV rN a0 a3  uq (by omega) (by omega) k_a0) (cwV 1 hts gu_X10_byOpenings_X10_reading_251 rfl rfl rfl (by decide +kernel) ⟨Nat.le_of_ble_eq_true rfl, Nat.le_of_ble_eq_true rfl⟩) (tP_V hG hE at_454 rfl) rfl rfl hl.1 rfl (lv_room (Nat.le_of_ble_eq_true rfl)) dX10_byOpenings_98 ⟨Nat.le_of_ble_eq_true rfl, Nat.le_of_ble_eq_true rfl⟩) hS (fun k h => by simp [wr0] at h) (fun z_468 H locs hp_469 hG hS o_470 => ?_)
                have at_454 := va_at.keptC at_454 o_470 k_a0 rfl
                have at_462 := va_at.keptC at_462 o_470 h_420 rfl
                refine lv_lload hx hb dX10_byOpenings_101 (lv_at hl 4 rfl) ?_
                refine W.lcmp hx hb dX10_byOpenings_103 ?_
                refine lv_if_le (tgt := 115) hx hb dX10_byOpenings_104 (by decide) (fun c_472 => ?_) (fun c_472 => ?_)
                · skip
                  have c_472 : z_468.toInt ≤ ym.toInt := q_cmp_le c_472
                  refine lv_pc (pc2 := 115) rfl ?_
                  refine lv_lload hx hb dX10_byOpenings_115 (lv_at hl 4 rfl) ?_
                  refine lv_lstore (lv' := [(8, .long ym), (10, .int 0), (13, .int yi), (11, .int 1), (12, .int 2), (0, .ref a0), (1, .int a1), (2, .int a2), (3, .int a3), (4, .int a4), (5, .long a5), (7, .int a6)]) hx hb dX10_byOpenings_117 hl (by decide) rfl (fun ls hl => ?_)
                  obtain ⟨x_473, e_474⟩ : ∃ y : Int32, y = yi + Int32.ofInt 1 := ⟨_, rfl⟩
                  have i_x_473 : x_473.toInt = yi.toInt + 1 := by rw [e_474, show Int32.ofInt 1 = 1 by decide]; exact (q_add (by rw [show (1 : Int32).toInt = 1 by decide]; omega) (by rw [show (1 : Int32).toInt = 1 by decide]; omega)).trans (by rw [show (1 : Int32).toInt = 1 by decide])
                  refine lv_iinc (v := x_473) (lv' := [(13, .int x_473), (8, .long ym), (10, .int 0), (11, .int 1), (12, .int 2), (0, .ref a0), (1, .int a1), (2, .int a2), (3, .int a3), (4, .int a4), (5, .long a5), (7, .int a6)]) hx hb dX10_byOpenings_119 hl (k := 2) rfl e_474.symm (by decide) rfl (fun ls hl => ?_)
                  refine lv_goto (tgt := 59) hx hb dX10_byOpenings_122 (by decide) ?_
                  exact (hWW195 _ _ _).mp (ih195 x_473 0 ym gH_459 H locs ls (by omega) (by omega) (by omega) (by omega) (by omega) hG hS (lv_sub hl [0, 3, 4, 2, 1, 5, 6, 7, 8, 9, 10, 11] rfl))
                · skip
                  have c_472 : ym.toInt < z_468.toInt := q_cmp_nle c_472
                  refine lv_aload_n hx hb dX10_byOpenings_107 rfl (lv_at hl 5 rfl) ?_
                  refine lv_iload_n hx hb dX10_byOpenings_108 rfl (lv_at hl 8 rfl) ?_
                  refine ty_calll (W.runV (As := [.int a3]) (rest := []) ⟨hx, hb, hml, hown, hts⟩ (m_X10_reading l D t cI cL cC gC gE gW gA gT gI gS gM K F S N gH_459 gJ_53 ge gk gf gs gg gr RN gb rV rN a0 a3  uq (by omega) (by omega) k_a0) (cwV 1 hts gu_X10_byOpenings_X10_reading_251 rfl rfl rfl (by decide +kernel) ⟨Nat.le_of_ble_eq_true rfl, Nat.le_of_ble_eq_true rfl⟩) (tP_V hG hE at_454 rfl) rfl rfl hl.1 rfl (lv_room (Nat.le_of_ble_eq_true rfl)) dX10_byOpenings_109 ⟨Nat.le_of_ble_eq_true rfl, Nat.le_of_ble_eq_true rfl⟩) hS (fun k h => by simp [wr0] at h) (fun z_475 H locs hp_476 hG hS o_477 => ?_)
                  have at_454 := va_at.keptC at_454 o_477 k_a0 rfl
                  have at_462 := va_at.keptC at_462 o_477 h_420 rfl
                  refine lv_goto (tgt := 117) hx hb dX10_byOpenings_112 (by decide) ?_
                  refine lv_pc (pc2 := 117) rfl ?_
                  refine lv_lstore (lv' := [(8, .long z_475), (10, .int 0), (13, .int yi), (11, .int 1), (12, .int 2), (0, .ref a0), (1, .int a1), (2, .int a2), (3, .int a3), (4, .int a4), (5, .long a5), (7, .int a6)]) hx hb dX10_byOpenings_117 hl (by decide) rfl (fun ls hl => ?_)
                  obtain ⟨x_479, e_480⟩ : ∃ y : Int32, y = yi + Int32.ofInt 1 := ⟨_, rfl⟩
                  have i_x_479 : x_479.toInt = yi.toInt + 1 := by rw [e_480, show Int32.ofInt 1 = 1 by decide]; exact (q_add (by rw [show (1 : Int32).toInt = 1 by decide]; omega) (by rw [show (1 : Int32).toInt = 1 by decide]; omega)).trans (by rw [show (1 : Int32).toInt = 1 by decide])
                  refine lv_iinc (v := x_479) (lv' := [(13, .int x_479), (8, .long z_475), (10, .int 0), (11, .int 1), (12, .int 2), (0, .ref a0), (1, .int a1), (2, .int a2), (3, .int a3), (4, .int a4), (5, .long a5), (7, .int a6)]) hx hb dX10_byOpenings_119 hl (k := 2) rfl e_480.symm (by decide) rfl (fun ls hl => ?_)
                  refine lv_goto (tgt := 59) hx hb dX10_byOpenings_122 (by decide) ?_
                  exact (hWW195 _ _ _).mp (ih195 x_479 0 z_475 gH_459 H locs ls (by omega) (by omega) (by omega) (by omega) (by omega) hG hS (lv_sub hl [0, 3, 4, 2, 1, 5, 6, 7, 8, 9, 10, 11] rfl))
              · skip
                have c_467 : z_465.toInt ≤ a5.toInt := q_cmp_ngt c_467
                refine lv_iconst (v := 1) hx hb dX10_byOpenings_89 (by decide) ?_
                refine lv_goto (tgt := 94) hx hb dX10_byOpenings_90 (by decide) ?_
                refine lv_istore (lv' := [(10, .int 1), (13, .int yi), (11, .int 1), (12, .int 2), (8, .long ym), (0, .ref a0), (1, .int a1), (2, .int a2), (3, .int a3), (4, .int a4), (5, .long a5), (7, .int a6)]) hx hb dX10_byOpenings_94 hl (by decide) rfl (fun ls hl => ?_)
                refine lv_aload_n hx hb dX10_byOpenings_96 rfl (lv_at hl 5 rfl) ?_
                refine lv_iload_n hx hb dX10_byOpenings_97 rfl (lv_at hl 8 rfl) ?_
                refine lv_pc (pc2 := 98) rfl ?_
                refine ty_calll (W.runV (As := [.int a3]) (rest := []) ⟨hx, hb, hml, hown, hts⟩ (m_X10_reading l D t cI cL cC gC gE gW gA gT gI gS gM K F S N gH_459 gJ_53 ge gk gf gs gg gr RN gb rV rN a0 a3  uq (by omega) (by omega) k_a0) (cwV 1 hts gu_X10_byOpenings_X10_reading_251 rfl rfl rfl (by decide +kernel) ⟨Nat.le_of_ble_eq_true rfl, Nat.le_of_ble_eq_true rfl⟩) (tP_V hG hE at_454 rfl) rfl rfl hl.1 rfl (lv_room (Nat.le_of_ble_eq_true rfl)) dX10_byOpenings_98 ⟨Nat.le_of_ble_eq_true rfl, Nat.le_of_ble_eq_true rfl⟩) hS (fun k h => by simp [wr0] at h) (fun z_481 H locs hp_482 hG hS o_483 => ?_)
                have at_454 := va_at.keptC at_454 o_483 k_a0 rfl
                have at_462 := va_at.keptC at_462 o_483 h_420 rfl
                refine lv_lload hx hb dX10_byOpenings_101 (lv_at hl 4 rfl) ?_
                refine W.lcmp hx hb dX10_byOpenings_103 ?_
                refine lv_if_le (tgt := 115) hx hb dX10_byOpenings_104 (by decide) (fun c_485 => ?_) (fun c_485 => ?_)
                · skip
                  have c_485 : z_481.toInt ≤ ym.toInt := q_cmp_le c_485
                  refine lv_lload hx hb dX10_byOpenings_115 (lv_at hl 4 rfl) ?_
                  refine lv_lstore (lv' := [(8, .long ym), (10, .int 1), (13, .int yi), (11, .int 1), (12, .int 2), (0, .ref a0), (1, .int a1), (2, .int a2), (3, .int a3), (4, .int a4), (5, .long a5), (7, .int a6)]) hx hb dX10_byOpenings_117 hl (by decide) rfl (fun ls hl => ?_)
                  obtain ⟨x_486, e_487⟩ : ∃ y : Int32, y = yi + Int32.ofInt 1 := ⟨_, rfl⟩
                  have i_x_486 : x_486.toInt = yi.toInt + 1 := by rw [e_487, show Int32.ofInt 1 = 1 by decide]; exact (q_add (by rw [show (1 : Int32).toInt = 1 by decide]; omega) (by rw [show (1 : Int32).toInt = 1 by decide]; omega)).trans (by rw [show (1 : Int32).toInt = 1 by decide])
                  refine lv_iinc (v := x_486) (lv' := [(13, .int x_486), (8, .long ym), (10, .int 1), (11, .int 1), (12, .int 2), (0, .ref a0), (1, .int a1), (2, .int a2), (3, .int a3), (4, .int a4), (5, .long a5), (7, .int a6)]) hx hb dX10_byOpenings_119 hl (k := 2) rfl e_487.symm (by decide) rfl (fun ls hl => ?_)
                  refine lv_goto (tgt := 59) hx hb dX10_byOpenings_122 (by decide) ?_
                  have zi_1 : (1 : Int32).toInt = 1 := by decide
                  exact (hWW195 _ _ _).mp (ih195 x_486 1 ym gH_459 H locs ls (by omega) (by omega) (by omega) (by omega) (by omega) hG hS (lv_sub hl [0, 3, 4, 2, 1, 5, 6, 7, 8, 9, 10, 11] rfl))
                · skip
                  have c_485 : ym.toInt < z_481.toInt := q_cmp_nle c_485
                  refine lv_pc (pc2 := 107) rfl ?_
                  refine lv_aload_n hx hb dX10_byOpenings_107 rfl (lv_at hl 5 rfl) ?_
                  refine lv_iload_n hx hb dX10_byOpenings_108 rfl (lv_at hl 8 rfl) ?_
                  refine ty_calll (W.runV (As := [.int a3]) (rest := []) ⟨hx, hb, hml, hown, hts⟩ (m_X10_reading l D t cI cL cC gC gE gW gA gT gI gS gM K F S N gH_459 gJ_53 ge gk gf gs gg gr RN gb rV rN a0 a3  uq (by omega) (by omega) k_a0) (cwV 1 hts gu_X10_byOpenings_X10_reading_251 rfl rfl rfl (by decide +kernel) ⟨Nat.le_of_ble_eq_true rfl, Nat.le_of_ble_eq_true rfl⟩) (tP_V hG hE at_454 rfl) rfl rfl hl.1 rfl (lv_room (Nat.le_of_ble_eq_true rfl)) dX10_byOpenings_109 ⟨Nat.le_of_ble_eq_true rfl, Nat.le_of_ble_eq_true rfl⟩) hS (fun k h => by simp [wr0] at h) (fun z_488 H locs hp_489 hG hS o_490 => ?_)
                  have at_454 := va_at.keptC at_454 o_490 k_a0 rfl
                  have at_462 := va_at.keptC at_462 o_490 h_420 rfl
                  refine lv_goto (tgt := 117) hx hb dX10_byOpenings_112 (by decide) ?_
                  refine lv_lstore (lv' := [(8, .long z_488), (10, .int 1), (13, .int yi), (11, .int 1), (12, .int 2), (0, .ref a0), (1, .int a1), (2, .int a2), (3, .int a3), (4, .int a4), (5, .long a5), (7, .int a6)]) hx hb dX10_byOpenings_117 hl (by decide) rfl (fun ls hl => ?_)
                  obtain ⟨x_492, e_493⟩ : ∃ y : Int32, y = yi + Int32.ofInt 1 := ⟨_, rfl⟩
                  have i_x_492 : x_492.toInt = yi.toInt + 1 := by rw [e_493, show Int32.ofInt 1 = 1 by decide]; exact (q_add (by rw [show (1 : Int32).toInt = 1 by decide]; omega) (by rw [show (1 : Int32).toInt = 1 by decide]; omega)).trans (by rw [show (1 : Int32).toInt = 1 by decide])
                  refine lv_iinc (v := x_492) (lv' := [(13, .int x_492), (8, .long z_488), (10, .int 1), (11, .int 1), (12, .int 2), (0, .ref a0), (1, .int a1), (2, .int a2), (3, .int a3), (4, .int a4), (5, .long a5), (7, .int a6)]) hx hb dX10_byOpenings_119 hl (k := 2) rfl e_493.symm (by decide) rfl (fun ls hl => ?_)
                  refine lv_goto (tgt := 59) hx hb dX10_byOpenings_122 (by decide) ?_
                  have zi_1 : (1 : Int32).toInt = 1 := by decide
                  exact (hWW195 _ _ _).mp (ih195 x_492 1 z_488 gH_459 H locs ls (by omega) (by omega) (by omega) (by omega) (by omega) hG hS (lv_sub hl [0, 3, 4, 2, 1, 5, 6, 7, 8, 9, 10, 11] rfl))
      have zi_0 : (0 : Int32).toInt = 0 := by decide
      exact lp195 (a2.toInt - (0 : Int32).toInt : Int).toNat 0 yb ym hm132 H locs ls (by omega) (by omega) (by omega) (by omega) (by omega) hG hS (lv_sub hl [0, 1, 2, 3, 4, 5, 6, 7, 8, 9, 10, 11] rfl)
    have lp132 : ∀ (kk132 : Nat) (yi : Int32) (yb : Int32) (ym : Int64) (hm132 : Int) (H1 : Heap) (locs1 : List Loc) (ls1 : Array Slot), a2.toInt - yi.toInt ≤ (kk132 : Int) → (0 ≤ yi.toInt) → (yi.toInt ≤ a2.toInt) → (0 ≤ hm132) → (hm132 ≤ hm69 + yi.toInt) → tG D (mF cI cL cC gC gE gW gA gT gI gS gM K F S N hm132 gJ_53 ge gk gf gs gg gr RN gb rV rN) t H1 → tF t wmj s.heap H1 locs1 → lv_has ls1 14 [(13, .int yi), (11, .int 6), (12, .int 1), (10, .int yb), (8, .long ym), (0, .ref a0), (1, .int a1), (2, .int a2), (3, .int a3), (4, .int a4), (5, .long a5), (7, .int a6)] → WW132 H1 locs1 (F0 m 59 ls1 []) := by
      intro kk132
      induction kk132 with
      | zero =>
        intro yi yb ym hm132 H locs ls hk132 v132_0 v132_1 v132_2 v132_3 hG hS hl
        refine (hWW132 _ _ _).mpr ?_
        refine lv_iload hx hb dX10_byOpenings_59 (lv_at hl 0 rfl) ?_
        refine lv_pc (pc2 := 61) rfl ?_
        refine lv_iload_n hx hb dX10_byOpenings_61 rfl (lv_at hl 7 rfl) ?_
        refine lv_icmp_ge (tgt := 125) hx hb dX10_byOpenings_62 (by decide) (fun c_494 => ?_) (fun c_494 => ?_)
        · skip
          have c_494 : a2.toInt ≤ yi.toInt := q_le c_494
          exact (hWW132 _ _ _).mp (kx132 yi yb ym hm132 H locs ls v132_0 v132_1 v132_2 v132_3 hG hS (lv_sub hl [0, 1, 2, 3, 4, 5, 6, 7, 8, 9, 10, 11] rfl))
        · skip
          have c_494 : yi.toInt < a2.toInt := q_nle c_494
          exfalso; omega
      | succ kk132 ih132 =>
        intro yi yb ym hm132 H locs ls hk132 v132_0 v132_1 v132_2 v132_3 hG hS hl
        refine (hWW132 _ _ _).mpr ?_
        refine lv_iload hx hb dX10_byOpenings_59 (lv_at hl 0 rfl) ?_
        refine lv_iload_n hx hb dX10_byOpenings_61 rfl (lv_at hl 7 rfl) ?_
        refine lv_icmp_ge (tgt := 125) hx hb dX10_byOpenings_62 (by decide) (fun c_495 => ?_) (fun c_495 => ?_)
        · skip
          have c_495 : a2.toInt ≤ yi.toInt := q_le c_495
          exact (hWW132 _ _ _).mp (kx132 yi yb ym hm132 H locs ls v132_0 v132_1 v132_2 v132_3 hG hS (lv_sub hl [0, 1, 2, 3, 4, 5, 6, 7, 8, 9, 10, 11] rfl))
        · skip
          have c_495 : yi.toInt < a2.toInt := q_nle c_495
          refine lv_iload hx hb dX10_byOpenings_65 (lv_at hl 3 rfl) ?_
          refine lv_if_eq (tgt := 125) hx hb dX10_byOpenings_67 (by decide) (fun c_496 => ?_) (fun c_496 => ?_)
          · skip
            have c_496 : yb.toInt = 0 := q_eq c_496
            exact (hWW132 _ _ _).mp (kx132 yi yb ym hm132 H locs ls v132_0 v132_1 v132_2 v132_3 hG hS (lv_sub hl [0, 1, 2, 3, 4, 5, 6, 7, 8, 9, 10, 11] rfl))
          · skip
            have c_496 : yb.toInt ≠ 0 := q_ne c_496
            refine lv_aload_n hx hb dX10_byOpenings_70 rfl (lv_at hl 5 rfl) ?_
            refine lv_pc (pc2 := 71) rfl ?_
            refine lv_iconst (v := 0) hx hb dX10_byOpenings_71 (by decide) ?_
            refine lv_iconst (v := 0) hx hb dX10_byOpenings_72 (by decide) ?_
            have zi_0 : (0 : Int32).toInt = 0 := by decide
            obtain ⟨r_497, r_499, r_501, r_503, r_505, r_507, r_509, r_511, r_513, r_515, r_517, r_519, r_521, r_523, r_525, r_527, r_529, r_531, r_533, r_535, r_537, r_539, v_541, r_542, at_544, h_498, h_500, h_502, h_504, h_506, h_508, h_510, h_512, h_514, h_516, h_518, h_520, h_522, h_524, h_526, h_528, h_530, h_532, h_534, h_536, h_538, h_540, h_543⟩ := mF_o40 hG k_a0
            refine tx_callv (W.runV (As := [.int 0, .int 0]) (rest := []) ⟨hx, hb, hml, hown, hts⟩ (m_X10_goes l D t cI cL cC gC gE gW gA gT gI gS gM K F S N hm132 gJ_53 ge gk gf gs gg gr RN gb rV rN a0 0 0 0 uq (by omega) (by omega) (by omega) (by omega) (by omega) hO0 (by omega) (by omega) (by omega) (by omega) k_a0) (cwV 2 hts gu_X10_byOpenings_X10_goes_231 rfl rfl rfl (by decide +kernel) ⟨Nat.le_of_ble_eq_true rfl, Nat.le_of_ble_eq_true rfl⟩) (tP_V hG hE at_544 rfl) rfl rfl hl.1 rfl (lv_room (Nat.le_of_ble_eq_true rfl)) dX10_byOpenings_73 ⟨Nat.le_of_ble_eq_true rfl, Nat.le_of_ble_eq_true rfl⟩) hS (wrL_sub (by decide)) (fun gH_549 H locs hp_546 hG hS o_547 => ?_)
            have at_544 := va_at.keptC at_544 o_547 k_a0 rfl
            replace hG : tG D (mF cI cL cC gC gE gW gA gT gI gS gM K F S N gH_549 gJ_53 ge gk gf gs gg gr RN gb rV rN) t H := hG
            have hp_546 : gH_549 = hm132 + 1 := hp_546
            have p_550 := hp_546
            refine lv_aload_n hx hb dX10_byOpenings_76 rfl (lv_at hl 5 rfl) ?_
            refine va_get (D := D) (ci := 9) (v := .ref r_509) (C := RX10) (T := TX10) (N := 36) hx hb hts in10 hown hK (va_one at_544) 0 rfl rfl 10 (by decide) (hts (.fieldLink RX10 28 "RiverModelModel" "m" "[J") (List.mem_of_getElem? (i := 6) rfl)) (fun _ h9 => h9) rfl dX10_byOpenings_77 ?_
            refine lv_iload hx hb dX10_byOpenings_80 (lv_at hl 9 rfl) ?_
            obtain ⟨f_551, at_552, h_553⟩ := mF_o47 hG h_510
            have b_554 : vp_in a4 280 := (q_in (by omega) (by omega))
            refine va_lald hx hb hK (va_one at_552) 0 1 rfl rfl b_554 dX10_byOpenings_82 ?_
            refine lv_topl (fun z_555 e_556 => ?_)
            refine lv_lload hx hb dX10_byOpenings_83 (lv_at hl 10 rfl) ?_
            refine lv_pc (pc2 := 85) rfl ?_
            refine W.lcmp hx hb dX10_byOpenings_85 ?_
            refine lv_if_gt (tgt := 93) hx hb dX10_byOpenings_86 (by decide) (fun c_557 => ?_) (fun c_557 => ?_)
            · skip
              have c_557 : a5.toInt < z_555.toInt := q_cmp_gt c_557
              refine lv_iconst (v := 0) hx hb dX10_byOpenings_93 (by decide) ?_
              refine lv_istore (lv' := [(10, .int 0), (13, .int yi), (11, .int 6), (12, .int 1), (8, .long ym), (0, .ref a0), (1, .int a1), (2, .int a2), (3, .int a3), (4, .int a4), (5, .long a5), (7, .int a6)]) hx hb dX10_byOpenings_94 hl (by decide) rfl (fun ls hl => ?_)
              refine lv_aload_n hx hb dX10_byOpenings_96 rfl (lv_at hl 5 rfl) ?_
              refine lv_iload_n hx hb dX10_byOpenings_97 rfl (lv_at hl 8 rfl) ?_
              refine ty_calll (W.runV (As := [.int a3]) (rest := []) ⟨hx, hb, hml, hown, hts⟩ (m_X10_reading l D t cI cL cC gC gE gW gA gT gI gS gM K F S N gH_549 gJ_53 ge gk gf gs gg gr RN gb rV rN a0 a3  uq (by omega) (by omega) k_a0) (cwV 1 hts gu_X10_byOpenings_X10_reading_251 rfl rfl rfl (by decide +kernel) ⟨Nat.le_of_ble_eq_true rfl, Nat.le_of_ble_eq_true rfl⟩) (tP_V hG hE at_544 rfl) rfl rfl hl.1 rfl (lv_room (Nat.le_of_ble_eq_true rfl)) dX10_byOpenings_98 ⟨Nat.le_of_ble_eq_true rfl, Nat.le_of_ble_eq_true rfl⟩) hS (fun k h => by simp [wr0] at h) (fun z_558 H locs hp_559 hG hS o_560 => ?_)
              have at_544 := va_at.keptC at_544 o_560 k_a0 rfl
              have at_552 := va_at.keptC at_552 o_560 h_510 rfl
              refine lv_lload hx hb dX10_byOpenings_101 (lv_at hl 4 rfl) ?_
              refine lv_pc (pc2 := 103) rfl ?_
              refine W.lcmp hx hb dX10_byOpenings_103 ?_
              refine lv_if_le (tgt := 115) hx hb dX10_byOpenings_104 (by decide) (fun c_562 => ?_) (fun c_562 => ?_)
              · skip
                have c_562 : z_558.toInt ≤ ym.toInt := q_cmp_le c_562
                refine lv_lload hx hb dX10_byOpenings_115 (lv_at hl 4 rfl) ?_
                refine lv_lstore (lv' := [(8, .long ym), (10, .int 0), (13, .int yi), (11, .int 6), (12, .int 1), (0, .ref a0), (1, .int a1), (2, .int a2), (3, .int a3), (4, .int a4), (5, .long a5), (7, .int a6)]) hx hb dX10_byOpenings_117 hl (by decide) rfl (fun ls hl => ?_)
                obtain ⟨x_563, e_564⟩ : ∃ y : Int32, y = yi + Int32.ofInt 1 := ⟨_, rfl⟩
                have i_x_563 : x_563.toInt = yi.toInt + 1 := by rw [e_564, show Int32.ofInt 1 = 1 by decide]; exact (q_add (by rw [show (1 : Int32).toInt = 1 by decide]; omega) (by rw [show (1 : Int32).toInt = 1 by decide]; omega)).trans (by rw [show (1 : Int32).toInt = 1 by decide])
                refine lv_iinc (v := x_563) (lv' := [(13, .int x_563), (8, .long ym), (10, .int 0), (11, .int 6), (12, .int 1), (0, .ref a0), (1, .int a1), (2, .int a2), (3, .int a3), (4, .int a4), (5, .long a5), (7, .int a6)]) hx hb dX10_byOpenings_119 hl (k := 2) rfl e_564.symm (by decide) rfl (fun ls hl => ?_)
                refine lv_goto (tgt := 59) hx hb dX10_byOpenings_122 (by decide) ?_
                exact (hWW132 _ _ _).mp (ih132 x_563 0 ym gH_549 H locs ls (by omega) (by omega) (by omega) (by omega) (by omega) hG hS (lv_sub hl [0, 3, 4, 2, 1, 5, 6, 7, 8, 9, 10, 11] rfl))
              · skip
                have c_562 : ym.toInt < z_558.toInt := q_cmp_nle c_562
                refine lv_aload_n hx hb dX10_byOpenings_107 rfl (lv_at hl 5 rfl) ?_
                refine lv_iload_n hx hb dX10_byOpenings_108 rfl (lv_at hl 8 rfl) ?_
                refine lv_pc (pc2 := 109) rfl ?_
                refine ty_calll (W.runV (As := [.int a3]) (rest := []) ⟨hx, hb, hml, hown, hts⟩ (m_X10_reading l D t cI cL cC gC gE gW gA gT gI gS gM K F S N gH_549 gJ_53 ge gk gf gs gg gr RN gb rV rN a0 a3  uq (by omega) (by omega) k_a0) (cwV 1 hts gu_X10_byOpenings_X10_reading_251 rfl rfl rfl (by decide +kernel) ⟨Nat.le_of_ble_eq_true rfl, Nat.le_of_ble_eq_true rfl⟩) (tP_V hG hE at_544 rfl) rfl rfl hl.1 rfl (lv_room (Nat.le_of_ble_eq_true rfl)) dX10_byOpenings_109 ⟨Nat.le_of_ble_eq_true rfl, Nat.le_of_ble_eq_true rfl⟩) hS (fun k h => by simp [wr0] at h) (fun z_565 H locs hp_566 hG hS o_567 => ?_)
                have at_544 := va_at.keptC at_544 o_567 k_a0 rfl
                have at_552 := va_at.keptC at_552 o_567 h_510 rfl
                refine lv_goto (tgt := 117) hx hb dX10_byOpenings_112 (by decide) ?_
                refine lv_lstore (lv' := [(8, .long z_565), (10, .int 0), (13, .int yi), (11, .int 6), (12, .int 1), (0, .ref a0), (1, .int a1), (2, .int a2), (3, .int a3), (4, .int a4), (5, .long a5), (7, .int a6)]) hx hb dX10_byOpenings_117 hl (by decide) rfl (fun ls hl => ?_)
                obtain ⟨x_569, e_570⟩ : ∃ y : Int32, y = yi + Int32.ofInt 1 := ⟨_, rfl⟩
                have i_x_569 : x_569.toInt = yi.toInt + 1 := by rw [e_570, show Int32.ofInt 1 = 1 by decide]; exact (q_add (by rw [show (1 : Int32).toInt = 1 by decide]; omega) (by rw [show (1 : Int32).toInt = 1 by decide]; omega)).trans (by rw [show (1 : Int32).toInt = 1 by decide])
                refine lv_iinc (v := x_569) (lv' := [(13, .int x_569), (8, .long z_565), (10, .int 0), (11, .int 6), (12, .int 1), (0, .ref a0), (1, .int a1), (2, .int a2), (3, .int a3), (4, .int a4), (5, .long a5), (7, .int a6)]) hx hb dX10_byOpenings_119 hl (k := 2) rfl e_570.symm (by decide) rfl (fun ls hl => ?_)
                refine lv_goto (tgt := 59) hx hb dX10_byOpenings_122 (by decide) ?_
                exact (hWW132 _ _ _).mp (ih132 x_569 0 z_565 gH_549 H locs ls (by omega) (by omega) (by omega) (by omega) (by omega) hG hS (lv_sub hl [0, 3, 4, 2, 1, 5, 6, 7, 8, 9, 10, 11] rfl))
            · skip
              have c_557 : z_555.toInt ≤ a5.toInt := q_cmp_ngt c_557
              refine lv_iconst (v := 1) hx hb dX10_byOpenings_89 (by decide) ?_
              refine lv_goto (tgt := 94) hx hb dX10_byOpenings_90 (by decide) ?_
              refine lv_istore (lv' := [(10, .int 1), (13, .int yi), (11, .int 6), (12, .int 1), (8, .long ym), (0, .ref a0), (1, .int a1), (2, .int a2), (3, .int a3), (4, .int a4), (5, .long a5), (7, .int a6)]) hx hb dX10_byOpenings_94 hl (by decide) rfl (fun ls hl => ?_)
              refine lv_pc (pc2 := 96) rfl ?_
              refine lv_aload_n hx hb dX10_byOpenings_96 rfl (lv_at hl 5 rfl) ?_
              refine lv_iload_n hx hb dX10_byOpenings_97 rfl (lv_at hl 8 rfl) ?_
              refine ty_calll (W.runV (As := [.int a3]) (rest := []) ⟨hx, hb, hml, hown, hts⟩ (m_X10_reading l D t cI cL cC gC gE gW gA gT gI gS gM K F S N gH_549 gJ_53 ge gk gf gs gg gr RN gb rV rN a0 a3  uq (by omega) (by omega) k_a0) (cwV 1 hts gu_X10_byOpenings_X10_reading_251 rfl rfl rfl (by decide +kernel) ⟨Nat.le_of_ble_eq_true rfl, Nat.le_of_ble_eq_true rfl⟩) (tP_V hG hE at_544 rfl) rfl rfl hl.1 rfl (lv_room (Nat.le_of_ble_eq_true rfl)) dX10_byOpenings_98 ⟨Nat.le_of_ble_eq_true rfl, Nat.le_of_ble_eq_true rfl⟩) hS (fun k h => by simp [wr0] at h) (fun z_571 H locs hp_572 hG hS o_573 => ?_)
              have at_544 := va_at.keptC at_544 o_573 k_a0 rfl
              have at_552 := va_at.keptC at_552 o_573 h_510 rfl
              refine lv_lload hx hb dX10_byOpenings_101 (lv_at hl 4 rfl) ?_
              refine W.lcmp hx hb dX10_byOpenings_103 ?_
              refine lv_if_le (tgt := 115) hx hb dX10_byOpenings_104 (by decide) (fun c_575 => ?_) (fun c_575 => ?_)
              · skip
                have c_575 : z_571.toInt ≤ ym.toInt := q_cmp_le c_575
                refine lv_lload hx hb dX10_byOpenings_115 (lv_at hl 4 rfl) ?_
                refine lv_lstore (lv' := [(8, .long ym), (10, .int 1), (13, .int yi), (11, .int 6), (12, .int 1), (0, .ref a0), (1, .int a1), (2, .int a2), (3, .int a3), (4, .int a4), (5, .long a5), (7, .int a6)]) hx hb dX10_byOpenings_117 hl (by decide) rfl (fun ls hl => ?_)
                refine lv_pc (pc2 := 119) rfl ?_
                obtain ⟨x_576, e_577⟩ : ∃ y : Int32, y = yi + Int32.ofInt 1 := ⟨_, rfl⟩
                have i_x_576 : x_576.toInt = yi.toInt + 1 := by rw [e_577, show Int32.ofInt 1 = 1 by decide]; exact (q_add (by rw [show (1 : Int32).toInt = 1 by decide]; omega) (by rw [show (1 : Int32).toInt = 1 by decide]; omega)).trans (by rw [show (1 : Int32).toInt = 1 by decide])
                refine lv_iinc (v := x_576) (lv' := [(13, .int x_576), (8, .long ym), (10, .int 1), (11, .int 6), (12, .int 1), (0, .ref a0), (1, .int a1), (2, .int a2), (3, .int a3), (4, .int a4), (5, .long a5), (7, .int a6)]) hx hb dX10_byOpenings_119 hl (k := 2) rfl e_577.symm (by decide) rfl (fun ls hl => ?_)
                refine lv_goto (tgt := 59) hx hb dX10_byOpenings_122 (by decide) ?_
                have zi_1 : (1 : Int32).toInt = 1 := by decide
                exact (hWW132 _ _ _).mp (ih132 x_576 1 ym gH_549 H locs ls (by omega) (by omega) (by omega) (by omega) (by omega) hG hS (lv_sub hl [0, 3, 4, 2, 1, 5, 6, 7, 8, 9, 10, 11] rfl))
              · skip
                have c_575 : ym.toInt < z_571.toInt := q_cmp_nle c_575
                refine lv_aload_n hx hb dX10_byOpenings_107 rfl (lv_at hl 5 rfl) ?_
                refine lv_iload_n hx hb dX10_byOpenings_108 rfl (lv_at hl 8 rfl) ?_
                refine ty_calll (W.runV (As := [.int a3]) (rest := []) ⟨hx, hb, hml, hown, hts⟩ (m_X10_reading l D t cI cL cC gC gE gW gA gT gI gS gM K F S N gH_549 gJ_53 ge gk gf gs gg gr RN gb rV rN a0 a3  uq (by omega) (by omega) k_a0) (cwV 1 hts gu_X10_byOpenings_X10_reading_251 rfl rfl rfl (by decide +kernel) ⟨Nat.le_of_ble_eq_true rfl, Nat.le_of_ble_eq_true rfl⟩) (tP_V hG hE at_544 rfl) rfl rfl hl.1 rfl (lv_room (Nat.le_of_ble_eq_true rfl)) dX10_byOpenings_109 ⟨Nat.le_of_ble_eq_true rfl, Nat.le_of_ble_eq_true rfl⟩) hS (fun k h => by simp [wr0] at h) (fun z_578 H locs hp_579 hG hS o_580 => ?_)
                have at_544 := va_at.keptC at_544 o_580 k_a0 rfl
                have at_552 := va_at.keptC at_552 o_580 h_510 rfl
                refine lv_goto (tgt := 117) hx hb dX10_byOpenings_112 (by decide) ?_
                refine lv_lstore (lv' := [(8, .long z_578), (10, .int 1), (13, .int yi), (11, .int 6), (12, .int 1), (0, .ref a0), (1, .int a1), (2, .int a2), (3, .int a3), (4, .int a4), (5, .long a5), (7, .int a6)]) hx hb dX10_byOpenings_117 hl (by decide) rfl (fun ls hl => ?_)
                obtain ⟨x_582, e_583⟩ : ∃ y : Int32, y = yi + Int32.ofInt 1 := ⟨_, rfl⟩
                have i_x_582 : x_582.toInt = yi.toInt + 1 := by rw [e_583, show Int32.ofInt 1 = 1 by decide]; exact (q_add (by rw [show (1 : Int32).toInt = 1 by decide]; omega) (by rw [show (1 : Int32).toInt = 1 by decide]; omega)).trans (by rw [show (1 : Int32).toInt = 1 by decide])
                refine lv_iinc (v := x_582) (lv' := [(13, .int x_582), (8, .long z_578), (10, .int 1), (11, .int 6), (12, .int 1), (0, .ref a0), (1, .int a1), (2, .int a2), (3, .int a3), (4, .int a4), (5, .long a5), (7, .int a6)]) hx hb dX10_byOpenings_119 hl (k := 2) rfl e_583.symm (by decide) rfl (fun ls hl => ?_)
                refine lv_pc (pc2 := 122) rfl ?_
                refine lv_goto (tgt := 59) hx hb dX10_byOpenings_122 (by decide) ?_
                have zi_1 : (1 : Int32).toInt = 1 := by decide
                exact (hWW132 _ _ _).mp (ih132 x_582 1 z_578 gH_549 H locs ls (by omega) (by omega) (by omega) (by omega) (by omega) hG hS (lv_sub hl [0, 3, 4, 2, 1, 5, 6, 7, 8, 9, 10, 11] rfl))
    have zi_0 : (0 : Int32).toInt = 0 := by decide
    exact lp132 (a2.toInt - (0 : Int32).toInt : Int).toNat 0 yb ym hm69 H locs ls (by omega) (by omega) (by omega) (by omega) (by omega) hG hS (lv_sub hl [0, 1, 2, 3, 4, 5, 6, 7, 8, 9, 10, 11] rfl)
  have lp69 : ∀ (kk69 : Nat) (yi : Int32) (yb : Int32) (ym : Int64) (hm69 : Int) (H1 : Heap) (locs1 : List Loc) (ls1 : Array Slot), a2.toInt - yi.toInt ≤ (kk69 : Int) → (0 ≤ yi.toInt) → (yi.toInt ≤ a2.toInt) → (0 ≤ hm69) → (hm69 ≤ gH + yi.toInt) → tG D (mF cI cL cC gC gE gW gA gT gI gS gM K F S N hm69 gJ_53 ge gk gf gs gg gr RN gb rV rN) t H1 → tF t wmj s.heap H1 locs1 → lv_has ls1 14 [(13, .int yi), (11, .int 36), (12, .int 0), (10, .int yb), (8, .long ym), (0, .ref a0), (1, .int a1), (2, .int a2), (3, .int a3), (4, .int a4), (5, .long a5), (7, .int a6)] → WW69 H1 locs1 (F0 m 59 ls1 []) := by
    intro kk69
    induction kk69 with
    | zero =>
      intro yi yb ym hm69 H locs ls hk69 v69_0 v69_1 v69_2 v69_3 hG hS hl
      refine (hWW69 _ _ _).mpr ?_
      refine lv_iload hx hb dX10_byOpenings_59 (lv_at hl 0 rfl) ?_
      refine lv_iload_n hx hb dX10_byOpenings_61 rfl (lv_at hl 7 rfl) ?_
      refine lv_icmp_ge (tgt := 125) hx hb dX10_byOpenings_62 (by decide) (fun c_584 => ?_) (fun c_584 => ?_)
      · skip
        have c_584 : a2.toInt ≤ yi.toInt := q_le c_584
        exact (hWW69 _ _ _).mp (kx69 yi yb ym hm69 H locs ls v69_0 v69_1 v69_2 v69_3 hG hS (lv_sub hl [0, 1, 2, 3, 4, 5, 6, 7, 8, 9, 10, 11] rfl))
      · skip
        have c_584 : yi.toInt < a2.toInt := q_nle c_584
        exfalso; omega
    | succ kk69 ih69 =>
      intro yi yb ym hm69 H locs ls hk69 v69_0 v69_1 v69_2 v69_3 hG hS hl
      refine (hWW69 _ _ _).mpr ?_
      refine lv_iload hx hb dX10_byOpenings_59 (lv_at hl 0 rfl) ?_
      refine lv_iload_n hx hb dX10_byOpenings_61 rfl (lv_at hl 7 rfl) ?_
      refine lv_icmp_ge (tgt := 125) hx hb dX10_byOpenings_62 (by decide) (fun c_585 => ?_) (fun c_585 => ?_)
      · skip
        have c_585 : a2.toInt ≤ yi.toInt := q_le c_585
        exact (hWW69 _ _ _).mp (kx69 yi yb ym hm69 H locs ls v69_0 v69_1 v69_2 v69_3 hG hS (lv_sub hl [0, 1, 2, 3, 4, 5, 6, 7, 8, 9, 10, 11] rfl))
      · skip
        have c_585 : yi.toInt < a2.toInt := q_nle c_585
        refine lv_iload hx hb dX10_byOpenings_65 (lv_at hl 3 rfl) ?_
        refine lv_pc (pc2 := 67) rfl ?_
        refine lv_if_eq (tgt := 125) hx hb dX10_byOpenings_67 (by decide) (fun c_586 => ?_) (fun c_586 => ?_)
        · skip
          have c_586 : yb.toInt = 0 := q_eq c_586
          exact (hWW69 _ _ _).mp (kx69 yi yb ym hm69 H locs ls v69_0 v69_1 v69_2 v69_3 hG hS (lv_sub hl [0, 1, 2, 3, 4, 5, 6, 7, 8, 9, 10, 11] rfl))
        · skip
          have c_586 : yb.toInt ≠ 0 := q_ne c_586
          refine lv_aload_n hx hb dX10_byOpenings_70 rfl (lv_at hl 5 rfl) ?_
          refine lv_iconst (v := 0) hx hb dX10_byOpenings_71 (by decide) ?_
          refine lv_iconst (v := 0) hx hb dX10_byOpenings_72 (by decide) ?_
          have zi_0 : (0 : Int32).toInt = 0 := by decide
          obtain ⟨r_587, r_589, r_591, r_593, r_595, r_597, r_599, r_601, r_603, r_605, r_607, r_609, r_611, r_613, r_615, r_617, r_619, r_621, r_623, r_625, r_627, r_629, v_631, r_632, at_634, h_588, h_590, h_592, h_594, h_596, h_598, h_600, h_602, h_604, h_606, h_608, h_610, h_612, h_614, h_616, h_618, h_620, h_622, h_624, h_626, h_628, h_630, h_633⟩ := mF_o40 hG k_a0
          refine tx_callv (W.runV (As := [.int 0, .int 0]) (rest := []) ⟨hx, hb, hml, hown, hts⟩ (m_X10_goes l D t cI cL cC gC gE gW gA gT gI gS gM K F S N hm69 gJ_53 ge gk gf gs gg gr RN gb rV rN a0 0 0 0 uq (by omega) (by omega) (by omega) (by omega) (by omega) hO0 (by omega) (by omega) (by omega) (by omega) k_a0) (cwV 2 hts gu_X10_byOpenings_X10_goes_231 rfl rfl rfl (by decide +kernel) ⟨Nat.le_of_ble_eq_true rfl, Nat.le_of_ble_eq_true rfl⟩) (tP_V hG hE at_634 rfl) rfl rfl hl.1 rfl (lv_room (Nat.le_of_ble_eq_true rfl)) dX10_byOpenings_73 ⟨Nat.le_of_ble_eq_true rfl, Nat.le_of_ble_eq_true rfl⟩) hS (wrL_sub (by decide)) (fun gH_639 H locs hp_636 hG hS o_637 => ?_)
          have at_634 := va_at.keptC at_634 o_637 k_a0 rfl
          replace hG : tG D (mF cI cL cC gC gE gW gA gT gI gS gM K F S N gH_639 gJ_53 ge gk gf gs gg gr RN gb rV rN) t H := hG
          have hp_636 : gH_639 = hm69 + 1 := hp_636
          have p_640 := hp_636
          refine lv_aload_n hx hb dX10_byOpenings_76 rfl (lv_at hl 5 rfl) ?_
          refine va_get (D := D) (ci := 9) (v := .ref r_599) (C := RX10) (T := TX10) (N := 36) hx hb hts in10 hown hK (va_one at_634) 0 rfl rfl 10 (by decide) (hts (.fieldLink RX10 28 "RiverModelModel" "m" "[J") (List.mem_of_getElem? (i := 6) rfl)) (fun _ h9 => h9) rfl dX10_byOpenings_77 ?_
          refine lv_iload hx hb dX10_byOpenings_80 (lv_at hl 9 rfl) ?_
          refine lv_pc (pc2 := 82) rfl ?_
          obtain ⟨f_641, at_642, h_643⟩ := mF_o47 hG h_600
          have b_644 : vp_in a4 280 := (q_in (by omega) (by omega))
          refine va_lald hx hb hK (va_one at_642) 0 1 rfl rfl b_644 dX10_byOpenings_82 ?_
          refine lv_topl (fun z_645 e_646 => ?_)
          refine lv_lload hx hb dX10_byOpenings_83 (lv_at hl 10 rfl) ?_
          refine W.lcmp hx hb dX10_byOpenings_85 ?_
          refine lv_if_gt (tgt := 93) hx hb dX10_byOpenings_86 (by decide) (fun c_647 => ?_) (fun c_647 => ?_)
          · skip
            have c_647 : a5.toInt < z_645.toInt := q_cmp_gt c_647
            refine lv_iconst (v := 0) hx hb dX10_byOpenings_93 (by decide) ?_
            refine lv_istore (lv' := [(10, .int 0), (13, .int yi), (11, .int 36), (12, .int 0), (8, .long ym), (0, .ref a0), (1, .int a1), (2, .int a2), (3, .int a3), (4, .int a4), (5, .long a5), (7, .int a6)]) hx hb dX10_byOpenings_94 hl (by decide) rfl (fun ls hl => ?_)
            refine lv_aload_n hx hb dX10_byOpenings_96 rfl (lv_at hl 5 rfl) ?_
            refine lv_iload_n hx hb dX10_byOpenings_97 rfl (lv_at hl 8 rfl) ?_
            refine lv_pc (pc2 := 98) rfl ?_
            refine ty_calll (W.runV (As := [.int a3]) (rest := []) ⟨hx, hb, hml, hown, hts⟩ (m_X10_reading l D t cI cL cC gC gE gW gA gT gI gS gM K F S N gH_639 gJ_53 ge gk gf gs gg gr RN gb rV rN a0 a3  uq (by omega) (by omega) k_a0) (cwV 1 hts gu_X10_byOpenings_X10_reading_251 rfl rfl rfl (by decide +kernel) ⟨Nat.le_of_ble_eq_true rfl, Nat.le_of_ble_eq_true rfl⟩) (tP_V hG hE at_634 rfl) rfl rfl hl.1 rfl (lv_room (Nat.le_of_ble_eq_true rfl)) dX10_byOpenings_98 ⟨Nat.le_of_ble_eq_true rfl, Nat.le_of_ble_eq_true rfl⟩) hS (fun k h => by simp [wr0] at h) (fun z_648 H locs hp_649 hG hS o_650 => ?_)
            have at_634 := va_at.keptC at_634 o_650 k_a0 rfl
            have at_642 := va_at.keptC at_642 o_650 h_600 rfl
            refine lv_lload hx hb dX10_byOpenings_101 (lv_at hl 4 rfl) ?_
            refine W.lcmp hx hb dX10_byOpenings_103 ?_
            refine lv_if_le (tgt := 115) hx hb dX10_byOpenings_104 (by decide) (fun c_652 => ?_) (fun c_652 => ?_)
            · skip
              have c_652 : z_648.toInt ≤ ym.toInt := q_cmp_le c_652
              refine lv_lload hx hb dX10_byOpenings_115 (lv_at hl 4 rfl) ?_
              refine lv_lstore (lv' := [(8, .long ym), (10, .int 0), (13, .int yi), (11, .int 36), (12, .int 0), (0, .ref a0), (1, .int a1), (2, .int a2), (3, .int a3), (4, .int a4), (5, .long a5), (7, .int a6)]) hx hb dX10_byOpenings_117 hl (by decide) rfl (fun ls hl => ?_)
              obtain ⟨x_653, e_654⟩ : ∃ y : Int32, y = yi + Int32.ofInt 1 := ⟨_, rfl⟩
              have i_x_653 : x_653.toInt = yi.toInt + 1 := by rw [e_654, show Int32.ofInt 1 = 1 by decide]; exact (q_add (by rw [show (1 : Int32).toInt = 1 by decide]; omega) (by rw [show (1 : Int32).toInt = 1 by decide]; omega)).trans (by rw [show (1 : Int32).toInt = 1 by decide])
              refine lv_iinc (v := x_653) (lv' := [(13, .int x_653), (8, .long ym), (10, .int 0), (11, .int 36), (12, .int 0), (0, .ref a0), (1, .int a1), (2, .int a2), (3, .int a3), (4, .int a4), (5, .long a5), (7, .int a6)]) hx hb dX10_byOpenings_119 hl (k := 2) rfl e_654.symm (by decide) rfl (fun ls hl => ?_)
              refine lv_goto (tgt := 59) hx hb dX10_byOpenings_122 (by decide) ?_
              exact (hWW69 _ _ _).mp (ih69 x_653 0 ym gH_639 H locs ls (by omega) (by omega) (by omega) (by omega) (by omega) hG hS (lv_sub hl [0, 3, 4, 2, 1, 5, 6, 7, 8, 9, 10, 11] rfl))
            · skip
              have c_652 : ym.toInt < z_648.toInt := q_cmp_nle c_652
              refine lv_pc (pc2 := 107) rfl ?_
              refine lv_aload_n hx hb dX10_byOpenings_107 rfl (lv_at hl 5 rfl) ?_
              refine lv_iload_n hx hb dX10_byOpenings_108 rfl (lv_at hl 8 rfl) ?_
              refine ty_calll (W.runV (As := [.int a3]) (rest := []) ⟨hx, hb, hml, hown, hts⟩ (m_X10_reading l D t cI cL cC gC gE gW gA gT gI gS gM K F S N gH_639 gJ_53 ge gk gf gs gg gr RN gb rV rN a0 a3  uq (by omega) (by omega) k_a0) (cwV 1 hts gu_X10_byOpenings_X10_reading_251 rfl rfl rfl (by decide +kernel) ⟨Nat.le_of_ble_eq_true rfl, Nat.le_of_ble_eq_true rfl⟩) (tP_V hG hE at_634 rfl) rfl rfl hl.1 rfl (lv_room (Nat.le_of_ble_eq_true rfl)) dX10_byOpenings_109 ⟨Nat.le_of_ble_eq_true rfl, Nat.le_of_ble_eq_true rfl⟩) hS (fun k h => by simp [wr0] at h) (fun z_655 H locs hp_656 hG hS o_657 => ?_)
              have at_634 := va_at.keptC at_634 o_657 k_a0 rfl
              have at_642 := va_at.keptC at_642 o_657 h_600 rfl
              refine lv_goto (tgt := 117) hx hb dX10_byOpenings_112 (by decide) ?_
              refine lv_lstore (lv' := [(8, .long z_655), (10, .int 0), (13, .int yi), (11, .int 36), (12, .int 0), (0, .ref a0), (1, .int a1), (2, .int a2), (3, .int a3), (4, .int a4), (5, .long a5), (7, .int a6)]) hx hb dX10_byOpenings_117 hl (by decide) rfl (fun ls hl => ?_)
              obtain ⟨x_659, e_660⟩ : ∃ y : Int32, y = yi + Int32.ofInt 1 := ⟨_, rfl⟩
              have i_x_659 : x_659.toInt = yi.toInt + 1 := by rw [e_660, show Int32.ofInt 1 = 1 by decide]; exact (q_add (by rw [show (1 : Int32).toInt = 1 by decide]; omega) (by rw [show (1 : Int32).toInt = 1 by decide]; omega)).trans (by rw [show (1 : Int32).toInt = 1 by decide])
              refine lv_iinc (v := x_659) (lv' := [(13, .int x_659), (8, .long z_655), (10, .int 0), (11, .int 36), (12, .int 0), (0, .ref a0), (1, .int a1), (2, .int a2), (3, .int a3), (4, .int a4), (5, .long a5), (7, .int a6)]) hx hb dX10_byOpenings_119 hl (k := 2) rfl e_660.symm (by decide) rfl (fun ls hl => ?_)
              refine lv_goto (tgt := 59) hx hb dX10_byOpenings_122 (by decide) ?_
              exact (hWW69 _ _ _).mp (ih69 x_659 0 z_655 gH_639 H locs ls (by omega) (by omega) (by omega) (by omega) (by omega) hG hS (lv_sub hl [0, 3, 4, 2, 1, 5, 6, 7, 8, 9, 10, 11] rfl))
          · skip
            have c_647 : z_645.toInt ≤ a5.toInt := q_cmp_ngt c_647
            refine lv_iconst (v := 1) hx hb dX10_byOpenings_89 (by decide) ?_
            refine lv_pc (pc2 := 90) rfl ?_
            refine lv_goto (tgt := 94) hx hb dX10_byOpenings_90 (by decide) ?_
            refine lv_istore (lv' := [(10, .int 1), (13, .int yi), (11, .int 36), (12, .int 0), (8, .long ym), (0, .ref a0), (1, .int a1), (2, .int a2), (3, .int a3), (4, .int a4), (5, .long a5), (7, .int a6)]) hx hb dX10_byOpenings_94 hl (by decide) rfl (fun ls hl => ?_)
            refine lv_aload_n hx hb dX10_byOpenings_96 rfl (lv_at hl 5 rfl) ?_
            refine lv_iload_n hx hb dX10_byOpenings_97 rfl (lv_at hl 8 rfl) ?_
            refine ty_calll (W.runV (As := [.int a3]) (rest := []) ⟨hx, hb, hml, hown, hts⟩ (m_X10_reading l D t cI cL cC gC gE gW gA gT gI gS gM K F S N gH_639 gJ_53 ge gk gf gs gg gr RN gb rV rN a0 a3  uq (by omega) (by omega) k_a0) (cwV 1 hts gu_X10_byOpenings_X10_reading_251 rfl rfl rfl (by decide +kernel) ⟨Nat.le_of_ble_eq_true rfl, Nat.le_of_ble_eq_true rfl⟩) (tP_V hG hE at_634 rfl) rfl rfl hl.1 rfl (lv_room (Nat.le_of_ble_eq_true rfl)) dX10_byOpenings_98 ⟨Nat.le_of_ble_eq_true rfl, Nat.le_of_ble_eq_true rfl⟩) hS (fun k h => by simp [wr0] at h) (fun z_661 H locs hp_662 hG hS o_663 => ?_)
            have at_634 := va_at.keptC at_634 o_663 k_a0 rfl
            have at_642 := va_at.keptC at_642 o_663 h_600 rfl
            refine lv_lload hx hb dX10_byOpenings_101 (lv_at hl 4 rfl) ?_
            refine W.lcmp hx hb dX10_byOpenings_103 ?_
            refine lv_if_le (tgt := 115) hx hb dX10_byOpenings_104 (by decide) (fun c_665 => ?_) (fun c_665 => ?_)
            · skip
              have c_665 : z_661.toInt ≤ ym.toInt := q_cmp_le c_665
              refine lv_pc (pc2 := 115) rfl ?_
              refine lv_lload hx hb dX10_byOpenings_115 (lv_at hl 4 rfl) ?_
              refine lv_lstore (lv' := [(8, .long ym), (10, .int 1), (13, .int yi), (11, .int 36), (12, .int 0), (0, .ref a0), (1, .int a1), (2, .int a2), (3, .int a3), (4, .int a4), (5, .long a5), (7, .int a6)]) hx hb dX10_byOpenings_117 hl (by decide) rfl (fun ls hl => ?_)
              obtain ⟨x_666, e_667⟩ : ∃ y : Int32, y = yi + Int32.ofInt 1 := ⟨_, rfl⟩
              have i_x_666 : x_666.toInt = yi.toInt + 1 := by rw [e_667, show Int32.ofInt 1 = 1 by decide]; exact (q_add (by rw [show (1 : Int32).toInt = 1 by decide]; omega) (by rw [show (1 : Int32).toInt = 1 by decide]; omega)).trans (by rw [show (1 : Int32).toInt = 1 by decide])
              refine lv_iinc (v := x_666) (lv' := [(13, .int x_666), (8, .long ym), (10, .int 1), (11, .int 36), (12, .int 0), (0, .ref a0), (1, .int a1), (2, .int a2), (3, .int a3), (4, .int a4), (5, .long a5), (7, .int a6)]) hx hb dX10_byOpenings_119 hl (k := 2) rfl e_667.symm (by decide) rfl (fun ls hl => ?_)
              refine lv_goto (tgt := 59) hx hb dX10_byOpenings_122 (by decide) ?_
              have zi_1 : (1 : Int32).toInt = 1 := by decide
              exact (hWW69 _ _ _).mp (ih69 x_666 1 ym gH_639 H locs ls (by omega) (by omega) (by omega) (by omega) (by omega) hG hS (lv_sub hl [0, 3, 4, 2, 1, 5, 6, 7, 8, 9, 10, 11] rfl))
            · skip
              have c_665 : ym.toInt < z_661.toInt := q_cmp_nle c_665
              refine lv_aload_n hx hb dX10_byOpenings_107 rfl (lv_at hl 5 rfl) ?_
              refine lv_iload_n hx hb dX10_byOpenings_108 rfl (lv_at hl 8 rfl) ?_
              refine ty_calll (W.runV (As := [.int a3]) (rest := []) ⟨hx, hb, hml, hown, hts⟩ (m_X10_reading l D t cI cL cC gC gE gW gA gT gI gS gM K F S N gH_639 gJ_53 ge gk gf gs gg gr RN gb rV rN a0 a3  uq (by omega) (by omega) k_a0) (cwV 1 hts gu_X10_byOpenings_X10_reading_251 rfl rfl rfl (by decide +kernel) ⟨Nat.le_of_ble_eq_true rfl, Nat.le_of_ble_eq_true rfl⟩) (tP_V hG hE at_634 rfl) rfl rfl hl.1 rfl (lv_room (Nat.le_of_ble_eq_true rfl)) dX10_byOpenings_109 ⟨Nat.le_of_ble_eq_true rfl, Nat.le_of_ble_eq_true rfl⟩) hS (fun k h => by simp [wr0] at h) (fun z_668 H locs hp_669 hG hS o_670 => ?_)
              have at_634 := va_at.keptC at_634 o_670 k_a0 rfl
              have at_642 := va_at.keptC at_642 o_670 h_600 rfl
              refine lv_goto (tgt := 117) hx hb dX10_byOpenings_112 (by decide) ?_
              refine lv_pc (pc2 := 117) rfl ?_
              refine lv_lstore (lv' := [(8, .long z_668), (10, .int 1), (13, .int yi), (11, .int 36), (12, .int 0), (0, .ref a0), (1, .int a1), (2, .int a2), (3, .int a3), (4, .int a4), (5, .long a5), (7, .int a6)]) hx hb dX10_byOpenings_117 hl (by decide) rfl (fun ls hl => ?_)
              obtain ⟨x_672, e_673⟩ : ∃ y : Int32, y = yi + Int32.ofInt 1 := ⟨_, rfl⟩
              have i_x_672 : x_672.toInt = yi.toInt + 1 := by rw [e_673, show Int32.ofInt 1 = 1 by decide]; exact (q_add (by rw [show (1 : Int32).toInt = 1 by decide]; omega) (by rw [show (1 : Int32).toInt = 1 by decide]; omega)).trans (by rw [show (1 : Int32).toInt = 1 by decide])
              refine lv_iinc (v := x_672) (lv' := [(13, .int x_672), (8, .long z_668), (10, .int 1), (11, .int 36), (12, .int 0), (0, .ref a0), (1, .int a1), (2, .int a2), (3, .int a3), (4, .int a4), (5, .long a5), (7, .int a6)]) hx hb dX10_byOpenings_119 hl (k := 2) rfl e_673.symm (by decide) rfl (fun ls hl => ?_)
              refine lv_goto (tgt := 59) hx hb dX10_byOpenings_122 (by decide) ?_
              have zi_1 : (1 : Int32).toInt = 1 := by decide
              exact (hWW69 _ _ _).mp (ih69 x_672 1 z_668 gH_639 H locs ls (by omega) (by omega) (by omega) (by omega) (by omega) hG hS (lv_sub hl [0, 3, 4, 2, 1, 5, 6, 7, 8, 9, 10, 11] rfl))
  have zi_0 : (0 : Int32).toInt = 0 := by decide
  have zi_1 : (1 : Int32).toInt = 1 := by decide
  have zl_m1 : ((-1) : Int64).toInt = (-1) := by decide
  exact lp69 (a2.toInt - (0 : Int32).toInt : Int).toNat 0 1 (-1) gH H locs ls (by omega) (by omega) (by omega) (by omega) (by omega) hG hS (lv_sub hl [0, 1, 2, 3, 4, 5, 6, 7, 8, 9, 10, 11] rfl)

def uX10_best : List Cond := .code yX10_best cX10_best 14 (some .long) :: ([.constantLong RX10 243 (3), .methodLink RX10 85 yX10_in, .static yX10_in, .initialized RX10, .constantLong RX10 305 (6), .constantLong RX10 234 (15), .constantLong RX10 236 (-1), .methodLink RX10 297 yX10_canSee, .instanceMethod yX10_canSee, .selects RX10 yX10_canSee yX10_canSee, .methodLink RX10 245 yX10_ofKind, .instanceMethod yX10_ofKind, .selects RX10 yX10_ofKind yX10_ofKind, .constantLong RX10 238 (-2), .methodLink RX10 208 yX10_isStore, .instanceMethod yX10_isStore, .selects RX10 yX10_isStore yX10_isStore, .constantLong RX10 261 (2), .constantLong RX10 311 (-4), .methodLink RX10 307 yX10_byOpenings, .instanceMethod yX10_byOpenings, .selects RX10 yX10_byOpenings yX10_byOpenings, .code yX10_in cX10_in 6 (some .boolean), .code yX10_canSee cX10_canSee 3 (some .boolean), .methodLink RX10 248 yX10_isSet, .instanceMethod yX10_isSet, .selects RX10 yX10_isSet yX10_isSet, .fieldLink RX10 28 "RiverModelModel" "m" "[J", .constantLong RX10 229 (96), .code yX10_isSet cX10_isSet 2 (some .boolean), .fieldLink RX10 173 "RiverModelModel" "isBuilt" "Z", .fieldLink RX10 38 "RiverModelModel" "gaugeKind" "[I", .code yX10_ofKind cX10_ofKind 4 (some .int), .fieldLink RX10 163 "RiverModelModel" "items" "I", .fieldLink RX10 13 "RiverModelModel" "kind" "[I", .code yX10_isStore cX10_isStore 2 (some .boolean), .methodLink RX10 166 yX10_storeAt, .instanceMethod yX10_storeAt, .selects RX10 yX10_storeAt yX10_storeAt, .code yX10_storeAt cX10_storeAt 5 (some .int), .fieldLink RX10 16 "RiverModelModel" "first" "[I", .code yX10_byOpenings cX10_byOpenings 14 (some .long), .methodLink RX10 274 yX10_asides, .instanceMethod yX10_asides, .selects RX10 yX10_asides yX10_asides, .methodLink RX10 277 yX10_returns, .instanceMethod yX10_returns, .selects RX10 yX10_returns yX10_returns, .methodLink RX10 231 yX10_goes, .instanceMethod yX10_goes, .selects RX10 yX10_goes yX10_goes, .methodLink RX10 251 yX10_reading, .instanceMethod yX10_reading, .selects RX10 yX10_reading yX10_reading, .code yX10_asides cX10_asides 2 none, .fieldLink RX10 32 "RiverModelModel" "aside" "[J", .code yX10_returns cX10_returns 2 none, .code yX10_goes cX10_goes 4 none, .fieldLink RX10 25 "RiverModelModel" "weather" "[I", .methodLink RX10 225 yX10_passes, .instanceMethod yX10_passes, .selects RX10 yX10_passes yX10_passes, .code yX10_passes cX10_passes 12 none, .methodLink RX10 221 yX10_moves, .instanceMethod yX10_moves, .selects RX10 yX10_moves yX10_moves, .fieldLink RX10 19 "RiverModelModel" "second" "[I", .fieldLink RX10 22 "RiverModelModel" "number" "[I", .code yX10_moves cX10_moves 8 (some .long), .constantLong RX10 219 (10), .methodLink RX10 215 yX10_most, .instanceMethod yX10_most, .selects RX10 yX10_most yX10_most, .constantLong RX10 107 (100), .methodLink RX10 211 yX10_capacity, .instanceMethod yX10_capacity, .selects RX10 yX10_capacity yX10_capacity, .code yX10_most cX10_most 4 (some .long), .code yX10_capacity cX10_capacity 3 (some .long), .code yX10_reading cX10_reading 2 (some .long), .fieldLink RX10 41 "RiverModelModel" "gaugeAt" "[I"] ++ wsX100)
set_option maxRecDepth 20000 in
theorem gu_X10_best_X10_in_85 : GoodIn uX10_best (va_wsS RX10 85 yX10_in uX10_in) := goodIn_r _ [2, 3, 4, 23] rfl (by decide +kernel)
set_option maxRecDepth 20000 in
theorem gu_X10_best_X10_canSee_297 : GoodIn uX10_best (wsV RX10 297 RX10 yX10_canSee uX10_canSee) := goodIn_r _ [8, 9, 10, 4, 24, 25, 26, 27, 4, 28, 29, 30, 31, 32, 82, 83, 84, 85, 86, 87, 88, 89, 90, 91, 92, 93, 94, 95, 96, 97, 98, 99, 100, 101, 102, 103, 104, 105, 106, 107, 108, 109, 110, 111, 112, 113, 114, 115, 116, 117] rfl (by decide +kernel)
set_option maxRecDepth 20000 in
theorem gu_X10_best_X10_ofKind_245 : GoodIn uX10_best (wsV RX10 245 RX10 yX10_ofKind uX10_ofKind) := goodIn_r _ [11, 12, 13, 4, 33, 34, 31, 35, 82, 83, 84, 85, 86, 87, 88, 89, 90, 91, 92, 93, 94, 95, 96, 97, 98, 99, 100, 101, 102, 103, 104, 105, 106, 107, 108, 109, 110, 111, 112, 113, 114, 115, 116, 117] rfl (by decide +kernel)
set_option maxRecDepth 20000 in
theorem gu_X10_best_X10_isStore_208 : GoodIn uX10_best (wsV RX10 208 RX10 yX10_isStore uX10_isStore) := goodIn_r _ [15, 16, 17, 4, 36, 37, 38, 39, 4, 40, 34, 35, 41, 82, 83, 84, 85, 86, 87, 88, 89, 90, 91, 92, 93, 94, 95, 96, 97, 98, 99, 100, 101, 102, 103, 104, 105, 106, 107, 108, 109, 110, 111, 112, 113, 114, 115, 116, 117] rfl (by decide +kernel)
set_option maxRecDepth 20000 in
theorem gu_X10_best_X10_byOpenings_307 : GoodIn uX10_best (wsV RX10 307 RX10 yX10_byOpenings uX10_byOpenings) := goodIn_r _ [20, 21, 22, 4, 42, 43, 44, 45, 4, 7, 28, 18, 46, 47, 48, 49, 50, 51, 52, 53, 54, 55, 56, 57, 58, 59, 60, 61, 62, 63, 34, 35, 64, 65, 66, 41, 67, 68, 69, 70, 71, 72, 73, 74, 75, 76, 77, 78, 79, 37, 38, 39, 40, 80, 32, 81, 82, 83, 84, 85, 86, 87, 88, 89, 90, 91, 92, 93, 94, 95, 96, 97, 98, 99, 100, 101, 102, 103, 104, 105, 106, 107, 108, 109, 110, 111, 112, 113, 114, 115, 116, 117] rfl (by decide +kernel)
set_option maxHeartbeats 4000000 in
set_option maxRecDepth 100000 in
theorem m_X10_best (l : Launch) (D : va_G) (t : Nat → Nat) (cI cL cC : ClassId) (gC : Int32) (gE : Int32) (gW : Nat → Int32) (gA : Nat → Int32) (gT : Nat → Int32) (gI : Int32) (gS : Int32) (gM : Int32) (K : Nat → Int32) (F : Nat → Int32) (S : Nat → Int32) (N : Nat → Int32) (gH : Int) (gJ : Int) (ge : Int32) (gk : Int32) (gf : Int32) (gs : Int32) (gg : Int32) (gr : Int32) (RN : Nat → Int32) (gb : Int32) (rV : Nat → Int32) (rN : Nat → Int32) (a0 : Nat) (a1 : Int32) (a2 : Int32) (a3 : Int32) (a4 : Int32) (a5 : Int64) (a6 : Int32) (uq : ∀ b c : Nat, t b = t c → t b ≠ 0 → b = c) (hC0 : 0 ≤ gC.toInt) (hC4 : gC.toInt ≤ 400) (hI0 : 0 ≤ gI.toInt) (hI4 : gI.toInt ≤ 40) (hH0 : 0 ≤ gH) (hH9 : gH ≤ 96) (hm0 : 0 ≤ gM.toInt) (hm3 : gM.toInt ≤ 3) (hO0 : okM K F S N 0 gI.toInt) (hW : swM gS K F S N gI.toInt) (hoR : othR gb gS gI K F) (k_a0 : t a0 = 40) : tMx (Z := (Int) × (Int)) l yX10_best uX10_best 6 160 D (mF cI cL cC gC gE gW gA gT gI gS gM K F S N gH gJ ge gk gf gs gg gr RN gb rV rN) (fun z => (mF cI cL cC gC gE gW gA gT gI gS gM K F S N z.1 z.2 ge gk gf gs gg gr RN gb rV rN)) t cI cL cC [.ref a0, .int a1, .int a2, .int a3, .int a4, .long a5, .int a6] wmj (xL (fun r (z : (Int) × (Int)) => 0 ≤ z.1 ∧ z.1 ≤ 96)) := by
  refine tMx.ofW (cc := cX10_best) (maxL := 14) (ret := (some .long)) (by decide) rfl (Nat.le_of_ble_eq_true rfl) ?_
  intro p e s m below meth c hx hb hr hml hown hts hlk H locs hG hK hE hS ls hl
  have hl : lv_has ls 14 [(0, .ref a0), (1, .int a1), (2, .int a2), (3, .int a3), (4, .int a4), (5, .long a5), (7, .int a6)] := hl
  skip
  refine lv_iload_n hx hb dX10_best_0 rfl (lv_at hl 1 rfl) ?_
  refine lv_i2l (v := a1.toInt64) hx hb dX10_best_1 rfl ?_
  refine lv_lconst (v := 0) hx hb dX10_best_2 (by decide) ?_
  refine lv_ldc2 hx hb hown (hts (.constantLong RX10 243 (3)) (List.mem_of_getElem? (i := 1) rfl)) dX10_best_3 ?_
  have zl_0 : (0 : Int64).toInt = 0 := by decide
  have zl_3 : (3 : Int64).toInt = 3 := by decide
  refine ty_calli (W.runS (As := [.long a1.toInt64, .long 0, .long 3]) (rest := []) ⟨hx, hb, hml, hown, hts⟩ (m_X10_in l D t cI cL cC gC gE gW gA gT gI gS gM K F S N gH gJ ge gk gf gs gg gr RN gb rV rN a1.toInt64 0 3 a1.toInt 0 3 uq (q_i2l _) (by decide) (by decide) ) (va_cwS 3 hts gu_X10_best_X10_in_85 rfl rfl rfl (by decide +kernel) ⟨Nat.le_of_ble_eq_true rfl, Nat.le_of_ble_eq_true rfl⟩) (tP_S hG hE) rfl rfl hl.1 rfl (lv_room (Nat.le_of_ble_eq_true rfl)) dX10_best_6 ⟨Nat.le_of_ble_eq_true rfl, Nat.le_of_ble_eq_true rfl⟩) hS (fun k h => by simp [wr0] at h) (fun r_1 H locs hp_2 hG hS o_3 => ?_)
  have hp_2 : (r_1 = 1 ∧ 0 ≤ a1.toInt ∧ a1.toInt ≤ 3) ∨ (r_1 = 0 ∧ (a1.toInt < 0 ∨ 3 < a1.toInt)) := hp_2
  rcases hp_2 with ⟨rfl, p_5, p_6⟩ | ⟨rfl, p_7⟩
  · skip
    refine lv_if_eq (tgt := 64) hx hb dX10_best_9 (by decide) (fun q => absurd q (by decide)) (fun _ => ?_)
    refine lv_iload_n hx hb dX10_best_12 rfl (lv_at hl 2 rfl) ?_
    refine lv_pc (pc2 := 13) rfl ?_
    refine lv_i2l (v := a2.toInt64) hx hb dX10_best_13 rfl ?_
    refine lv_lconst (v := 1) hx hb dX10_best_14 (by decide) ?_
    refine lv_ldc2 hx hb hown (hts (.constantLong RX10 305 (6)) (List.mem_of_getElem? (i := 5) rfl)) dX10_best_15 ?_
    have zl_1 : (1 : Int64).toInt = 1 := by decide
    have zl_6 : (6 : Int64).toInt = 6 := by decide
    refine ty_calli (W.runS (As := [.long a2.toInt64, .long 1, .long 6]) (rest := []) ⟨hx, hb, hml, hown, hts⟩ (m_X10_in l D t cI cL cC gC gE gW gA gT gI gS gM K F S N gH gJ ge gk gf gs gg gr RN gb rV rN a2.toInt64 1 6 a2.toInt 1 6 uq (q_i2l _) (by decide) (by decide) ) (va_cwS 3 hts gu_X10_best_X10_in_85 rfl rfl rfl (by decide +kernel) ⟨Nat.le_of_ble_eq_true rfl, Nat.le_of_ble_eq_true rfl⟩) (tP_S hG hE) rfl rfl hl.1 rfl (lv_room (Nat.le_of_ble_eq_true rfl)) dX10_best_18 ⟨Nat.le_of_ble_eq_true rfl, Nat.le_of_ble_eq_true rfl⟩) hS (fun k h => by simp [wr0] at h) (fun r_8 H locs hp_9 hG hS o_10 => ?_)
    have hp_9 : (r_8 = 1 ∧ 1 ≤ a2.toInt ∧ a2.toInt ≤ 6) ∨ (r_8 = 0 ∧ (a2.toInt < 1 ∨ 6 < a2.toInt)) := hp_9
    rcases hp_9 with ⟨rfl, p_12, p_13⟩ | ⟨rfl, p_14⟩
    · skip
      refine lv_if_eq (tgt := 64) hx hb dX10_best_21 (by decide) (fun q => absurd q (by decide)) (fun _ => ?_)
      refine lv_iload_n hx hb dX10_best_24 rfl (lv_at hl 3 rfl) ?_
      refine lv_i2l (v := a3.toInt64) hx hb dX10_best_25 rfl ?_
      refine lv_lconst (v := 0) hx hb dX10_best_26 (by decide) ?_
      refine lv_pc (pc2 := 27) rfl ?_
      refine lv_ldc2 hx hb hown (hts (.constantLong RX10 243 (3)) (List.mem_of_getElem? (i := 1) rfl)) dX10_best_27 ?_
      refine ty_calli (W.runS (As := [.long a3.toInt64, .long 0, .long 3]) (rest := []) ⟨hx, hb, hml, hown, hts⟩ (m_X10_in l D t cI cL cC gC gE gW gA gT gI gS gM K F S N gH gJ ge gk gf gs gg gr RN gb rV rN a3.toInt64 0 3 a3.toInt 0 3 uq (q_i2l _) (by decide) (by decide) ) (va_cwS 3 hts gu_X10_best_X10_in_85 rfl rfl rfl (by decide +kernel) ⟨Nat.le_of_ble_eq_true rfl, Nat.le_of_ble_eq_true rfl⟩) (tP_S hG hE) rfl rfl hl.1 rfl (lv_room (Nat.le_of_ble_eq_true rfl)) dX10_best_30 ⟨Nat.le_of_ble_eq_true rfl, Nat.le_of_ble_eq_true rfl⟩) hS (fun k h => by simp [wr0] at h) (fun r_15 H locs hp_16 hG hS o_17 => ?_)
      have hp_16 : (r_15 = 1 ∧ 0 ≤ a3.toInt ∧ a3.toInt ≤ 3) ∨ (r_15 = 0 ∧ (a3.toInt < 0 ∨ 3 < a3.toInt)) := hp_16
      rcases hp_16 with ⟨rfl, p_19, p_20⟩ | ⟨rfl, p_21⟩
      · skip
        refine lv_if_eq (tgt := 64) hx hb dX10_best_33 (by decide) (fun q => absurd q (by decide)) (fun _ => ?_)
        refine lv_iload hx hb dX10_best_36 (lv_at hl 4 rfl) ?_
        refine lv_i2l (v := a4.toInt64) hx hb dX10_best_38 rfl ?_
        refine lv_lconst (v := 0) hx hb dX10_best_39 (by decide) ?_
        refine lv_ldc2 hx hb hown (hts (.constantLong RX10 234 (15)) (List.mem_of_getElem? (i := 6) rfl)) dX10_best_40 ?_
        have zl_15 : (15 : Int64).toInt = 15 := by decide
        refine ty_calli (W.runS (As := [.long a4.toInt64, .long 0, .long 15]) (rest := []) ⟨hx, hb, hml, hown, hts⟩ (m_X10_in l D t cI cL cC gC gE gW gA gT gI gS gM K F S N gH gJ ge gk gf gs gg gr RN gb rV rN a4.toInt64 0 15 a4.toInt 0 15 uq (q_i2l _) (by decide) (by decide) ) (va_cwS 3 hts gu_X10_best_X10_in_85 rfl rfl rfl (by decide +kernel) ⟨Nat.le_of_ble_eq_true rfl, Nat.le_of_ble_eq_true rfl⟩) (tP_S hG hE) rfl rfl hl.1 rfl (lv_room (Nat.le_of_ble_eq_true rfl)) dX10_best_43 ⟨Nat.le_of_ble_eq_true rfl, Nat.le_of_ble_eq_true rfl⟩) hS (fun k h => by simp [wr0] at h) (fun r_22 H locs hp_23 hG hS o_24 => ?_)
        have hp_23 : (r_22 = 1 ∧ 0 ≤ a4.toInt ∧ a4.toInt ≤ 15) ∨ (r_22 = 0 ∧ (a4.toInt < 0 ∨ 15 < a4.toInt)) := hp_23
        rcases hp_23 with ⟨rfl, p_26, p_27⟩ | ⟨rfl, p_28⟩
        · skip
          refine lv_pc (pc2 := 46) rfl ?_
          refine lv_if_eq (tgt := 64) hx hb dX10_best_46 (by decide) (fun q => absurd q (by decide)) (fun _ => ?_)
          refine lv_iload hx hb dX10_best_49 (lv_at hl 6 rfl) ?_
          refine lv_i2l (v := a6.toInt64) hx hb dX10_best_51 rfl ?_
          refine lv_ldc2 hx hb hown (hts (.constantLong RX10 236 (-1)) (List.mem_of_getElem? (i := 7) rfl)) dX10_best_52 ?_
          refine lv_ldc2 hx hb hown (hts (.constantLong RX10 243 (3)) (List.mem_of_getElem? (i := 1) rfl)) dX10_best_55 ?_
          have zl_m1 : ((-1) : Int64).toInt = (-1) := by decide
          refine ty_calli (W.runS (As := [.long a6.toInt64, .long (-1), .long 3]) (rest := []) ⟨hx, hb, hml, hown, hts⟩ (m_X10_in l D t cI cL cC gC gE gW gA gT gI gS gM K F S N gH gJ ge gk gf gs gg gr RN gb rV rN a6.toInt64 (-1) 3 a6.toInt (-1) 3 uq (q_i2l _) (by decide) (by decide) ) (va_cwS 3 hts gu_X10_best_X10_in_85 rfl rfl rfl (by decide +kernel) ⟨Nat.le_of_ble_eq_true rfl, Nat.le_of_ble_eq_true rfl⟩) (tP_S hG hE) rfl rfl hl.1 rfl (lv_room (Nat.le_of_ble_eq_true rfl)) dX10_best_58 ⟨Nat.le_of_ble_eq_true rfl, Nat.le_of_ble_eq_true rfl⟩) hS (fun k h => by simp [wr0] at h) (fun r_29 H locs hp_30 hG hS o_31 => ?_)
          have hp_30 : (r_29 = 1 ∧ (-1) ≤ a6.toInt ∧ a6.toInt ≤ 3) ∨ (r_29 = 0 ∧ (a6.toInt < (-1) ∨ 3 < a6.toInt)) := hp_30
          rcases hp_30 with ⟨rfl, p_33, p_34⟩ | ⟨rfl, p_35⟩
          · skip
            refine lv_if_ne (tgt := 68) hx hb dX10_best_61 (by decide) (fun _ => ?_) (fun q => absurd q (by decide))
            refine lv_aload_n hx hb dX10_best_68 rfl (lv_at hl 0 rfl) ?_
            refine lv_pc (pc2 := 69) rfl ?_
            refine lv_iload_n hx hb dX10_best_69 rfl (lv_at hl 3 rfl) ?_
            refine lv_iconst (v := 4) hx hb dX10_best_70 (by decide) ?_
            refine lv_iload_n hx hb dX10_best_71 rfl (lv_at hl 2 rfl) ?_
            refine lv_imul hx hb dX10_best_72 ?_
            refine lv_topi (fun x_36 e_37 => ?_)
            have i_x_36 : x_36.toInt = 4 * a2.toInt := by rw [e_37]; exact (q_mul (by rw [show (4 : Int32).toInt = 4 by decide]; omega) (by rw [show (4 : Int32).toInt = 4 by decide]; omega)).trans (by rw [show (4 : Int32).toInt = 4 by decide])
            obtain ⟨r_38, r_40, r_42, r_44, r_46, r_48, r_50, r_52, r_54, r_56, r_58, r_60, r_62, r_64, r_66, r_68, r_70, r_72, r_74, r_76, r_78, r_80, v_82, r_83, at_85, h_39, h_41, h_43, h_45, h_47, h_49, h_51, h_53, h_55, h_57, h_59, h_61, h_63, h_65, h_67, h_69, h_71, h_73, h_75, h_77, h_79, h_81, h_84⟩ := mF_o40 hG k_a0
            refine ty_calli (W.runV (As := [.int a3, .int x_36]) (rest := []) ⟨hx, hb, hml, hown, hts⟩ (m_X10_canSee l D t cI cL cC gC gE gW gA gT gI gS gM K F S N gH gJ ge gk gf gs gg gr RN gb rV rN a0 a3 x_36  uq (by omega) (by omega) (by omega) (by omega) (by omega) (by omega) k_a0) (cwV 2 hts gu_X10_best_X10_canSee_297 rfl rfl rfl (by decide +kernel) ⟨Nat.le_of_ble_eq_true rfl, Nat.le_of_ble_eq_true rfl⟩) (tP_V hG hE at_85 rfl) rfl rfl hl.1 rfl (lv_room (Nat.le_of_ble_eq_true rfl)) dX10_best_73 ⟨Nat.le_of_ble_eq_true rfl, Nat.le_of_ble_eq_true rfl⟩) hS (fun k h => by simp [wr0] at h) (fun r_86 H locs hp_87 hG hS o_88 => ?_)
            have at_85 := va_at.keptC at_85 o_88 k_a0 rfl
            have hp_87 : (r_86 = 1 ∧ gH + x_36.toInt ≤ 96) ∨ (r_86 = 0) := hp_87
            rcases hp_87 with ⟨rfl, p_90⟩ | rfl
            · skip
              refine lv_if_eq (tgt := 98) hx hb dX10_best_76 (by decide) (fun q => absurd q (by decide)) (fun _ => ?_)
              refine lv_iload_n hx hb dX10_best_79 rfl (lv_at hl 1 rfl) ?_
              refine lv_aload_n hx hb dX10_best_80 rfl (lv_at hl 0 rfl) ?_
              refine lv_pc (pc2 := 81) rfl ?_
              refine lv_bipush (v := 103) hx hb dX10_best_81 (by decide) ?_
              have zi_103 : (103 : Int32).toInt = 103 := by decide
              refine ty_calli (W.runV (As := [.int 103]) (rest := [.int a1]) ⟨hx, hb, hml, hown, hts⟩ (m_X10_ofKind l D t cI cL cC gC gE gW gA gT gI gS gM K F S N gH gJ ge gk gf gs gg gr RN gb rV rN a0 103  uq (by omega) (by omega) k_a0) (cwV 1 hts gu_X10_best_X10_ofKind_245 rfl rfl rfl (by decide +kernel) ⟨Nat.le_of_ble_eq_true rfl, Nat.le_of_ble_eq_true rfl⟩) (tP_V hG hE at_85 rfl) rfl rfl hl.1 rfl (lv_room (Nat.le_of_ble_eq_true rfl)) dX10_best_83 ⟨Nat.le_of_ble_eq_true rfl, Nat.le_of_ble_eq_true rfl⟩) hS (fun k h => by simp [wr0] at h) (fun r_91 H locs hp_92 hG hS o_93 => ?_)
              have at_85 := va_at.keptC at_85 o_93 k_a0 rfl
              refine lv_icmp_ge (tgt := 98) hx hb dX10_best_86 (by decide) (fun c_95 => ?_) (fun c_95 => ?_)
              · skip
                have c_95 : r_91.toInt ≤ a1.toInt := q_le c_95
                refine lv_ldc2 hx hb hown (hts (.constantLong RX10 238 (-2)) (List.mem_of_getElem? (i := 14) rfl)) dX10_best_98 ?_
                have zl_m2 : ((-2) : Int64).toInt = (-2) := by decide
                exact tx_lret (z := (gH, gJ)) hx hb hr hlk hG hS ⟨(by show 0 ≤ gH; omega), (by show gH ≤ 96; omega)⟩ dX10_best_101
              · skip
                have c_95 : a1.toInt < r_91.toInt := q_nle c_95
                refine lv_aload_n hx hb dX10_best_89 rfl (lv_at hl 0 rfl) ?_
                refine lv_iload hx hb dX10_best_90 (lv_at hl 4 rfl) ?_
                refine ty_calli (W.runV (As := [.int a4]) (rest := []) ⟨hx, hb, hml, hown, hts⟩ (m_X10_isStore l D t cI cL cC gC gE gW gA gT gI gS gM K F S N gH gJ ge gk gf gs gg gr RN gb rV rN a0 a4  uq (by omega) (by omega) k_a0) (cwV 1 hts gu_X10_best_X10_isStore_208 rfl rfl rfl (by decide +kernel) ⟨Nat.le_of_ble_eq_true rfl, Nat.le_of_ble_eq_true rfl⟩) (tP_V hG hE at_85 rfl) rfl rfl hl.1 rfl (lv_room (Nat.le_of_ble_eq_true rfl)) dX10_best_92 ⟨Nat.le_of_ble_eq_true rfl, Nat.le_of_ble_eq_true rfl⟩) hS (fun k h => by simp [wr0] at h) (fun r_96 H locs hp_97 hG hS o_98 => ?_)
                have at_85 := va_at.keptC at_85 o_98 k_a0 rfl
                have hp_97 : (r_96 = 1 ∧ hasS K F 0 gI.toInt a4) ∨ (r_96 = 0 ∧ ¬ hasS K F 0 gI.toInt a4) := hp_97
                rcases hp_97 with ⟨rfl, p_100⟩ | ⟨rfl, p_101⟩
                · skip
                  refine lv_pc (pc2 := 95) rfl ?_
                  refine lv_if_ne (tgt := 102) hx hb dX10_best_95 (by decide) (fun _ => ?_) (fun q => absurd q (by decide))
                  refine lv_ldc2 hx hb hown (hts (.constantLong RX10 236 (-1)) (List.mem_of_getElem? (i := 7) rfl)) dX10_best_102 ?_
                  refine lv_lstore (lv' := [(8, .long (-1)), (0, .ref a0), (1, .int a1), (2, .int a2), (3, .int a3), (4, .int a4), (5, .long a5), (7, .int a6)]) hx hb dX10_best_105 hl (by decide) rfl (fun ls hl => ?_)
                  refine lv_bipush (v := (-4)) hx hb dX10_best_107 (by decide) ?_
                  refine lv_istore (lv' := [(10, .int (-4)), (8, .long (-1)), (0, .ref a0), (1, .int a1), (2, .int a2), (3, .int a3), (4, .int a4), (5, .long a5), (7, .int a6)]) hx hb dX10_best_109 hl (by decide) rfl (fun ls hl => ?_)
                  refine lv_iconst (v := 0) hx hb dX10_best_111 (by decide) ?_
                  refine lv_istore (lv' := [(11, .int 0), (10, .int (-4)), (8, .long (-1)), (0, .ref a0), (1, .int a1), (2, .int a2), (3, .int a3), (4, .int a4), (5, .long a5), (7, .int a6)]) hx hb dX10_best_112 hl (by decide) rfl (fun ls hl => ?_)
                  refine lv_pc (pc2 := 114) rfl ?_
                  refine lp_gen (fun WW102 hWW102 => ?_)
                  have kx102 : ∀ (yc : Int32) (yf : Int32) (yl : Int64) (hm : Int) (hj : Int) (H1 : Heap) (locs1 : List Loc) (ls1 : Array Slot), (0 ≤ yc.toInt) → (yc.toInt ≤ 1296) → (hm = gH) → tG D (mF cI cL cC gC gE gW gA gT gI gS gM K F S N hm hj ge gk gf gs gg gr RN gb rV rN) t H1 → tF t wmj s.heap H1 locs1 → lv_has ls1 14 [(11, .int yc), (10, .int yf), (8, .long yl), (0, .ref a0), (1, .int a1), (2, .int a2), (3, .int a3), (4, .int a4), (5, .long a5), (7, .int a6)] → WW102 H1 locs1 (F0 m 171 ls1 []) := by
                    intro yc yf yl hm hj H locs ls v102_0 v102_1 v102_2 hG hS hl
                    refine (hWW102 _ _ _).mpr ?_
                    refine lv_iload hx hb dX10_best_171 (lv_at hl 1 rfl) ?_
                    refine lv_pc (pc2 := 173) rfl ?_
                    refine lv_if_ge (tgt := 180) hx hb dX10_best_173 (by decide) (fun c_103 => ?_) (fun c_103 => ?_)
                    · skip
                      have c_103 : 0 ≤ yf.toInt := q_le c_103
                      refine lv_sipush (v := 216) hx hb dX10_best_180 (by decide) ?_
                      refine lv_istore (lv' := [(11, .int 216), (10, .int yf), (8, .long yl), (0, .ref a0), (1, .int a1), (2, .int a2), (3, .int a3), (4, .int a4), (5, .long a5), (7, .int a6)]) hx hb dX10_best_183 hl (by decide) rfl (fun ls hl => ?_)
                      refine lv_iconst (v := 0) hx hb dX10_best_185 (by decide) ?_
                      refine lv_istore (lv' := [(12, .int 0), (11, .int 216), (10, .int yf), (8, .long yl), (0, .ref a0), (1, .int a1), (2, .int a2), (3, .int a3), (4, .int a4), (5, .long a5), (7, .int a6)]) hx hb dX10_best_186 hl (by decide) rfl (fun ls hl => ?_)
                      refine lv_pc (pc2 := 188) rfl ?_
                      refine lp_gen (fun WW104 hWW104 => ?_)
                      have kx104 : ∀ (yq : Int32) (yb : Int32) (H1 : Heap) (locs1 : List Loc) (ls1 : Array Slot), ((yq.toInt = 0 ∧ yb.toInt = 216) ∨ (yq.toInt = 1 ∧ yb.toInt = 36) ∨ (yq.toInt = 2 ∧ yb.toInt = 6) ∨ (yq.toInt = 3 ∧ yb.toInt = 1)) → tG D (mF cI cL cC gC gE gW gA gT gI gS gM K F S N hm hj ge gk gf gs gg gr RN gb rV rN) t H1 → tF t wmj s.heap H1 locs1 → lv_has ls1 14 [(12, .int yq), (11, .int yb), (10, .int yf), (8, .long yl), (0, .ref a0), (1, .int a1), (2, .int a2), (3, .int a3), (4, .int a4), (5, .long a5), (7, .int a6)] → WW104 H1 locs1 (F0 m 208 ls1 []) := by
                        intro yq yb H locs ls v104_0 hG hS hl
                        refine (hWW104 _ _ _).mpr ?_
                        refine lv_iload hx hb dX10_best_208 (lv_at hl 10 rfl) ?_
                        refine lv_if_ge (tgt := 218) hx hb dX10_best_210 (by decide) (fun c_105 => ?_) (fun c_105 => ?_)
                        · skip
                          have c_105 : 0 ≤ a6.toInt := q_le c_105
                          refine lv_ldc2 hx hb hown (hts (.constantLong RX10 261 (2)) (List.mem_of_getElem? (i := 18) rfl)) dX10_best_218 ?_
                          refine lv_pc (pc2 := 221) rfl ?_
                          refine lv_iload hx hb dX10_best_221 (lv_at hl 2 rfl) ?_
                          refine lv_iload hx hb dX10_best_223 (lv_at hl 1 rfl) ?_
                          refine lv_idiv hx hb dX10_best_225 (q_nz (by omega)) ?_
                          refine lv_topi (fun x_106 e_107 => ?_)
                          refine lv_bipush (v := 6) hx hb dX10_best_226 (by decide) ?_
                          refine lv_irem hx hb dX10_best_228 (by decide) ?_
                          refine lv_topi (fun x_108 e_109 => ?_)
                          refine lv_i2l (v := x_108.toInt64) hx hb dX10_best_229 rfl ?_
                          refine lv_lmul hx hb dX10_best_230 ?_
                          refine lv_topl (fun z_110 e_111 => ?_)
                          exact tx_lret (z := (hm, hj)) hx hb hr hlk hG hS ⟨(by show 0 ≤ hm; omega), (by show hm ≤ 96; omega)⟩ dX10_best_231
                        · skip
                          have c_105 : a6.toInt < 0 := q_nle c_105
                          refine lv_pc (pc2 := 213) rfl ?_
                          refine lv_lload hx hb dX10_best_213 (lv_at hl 3 rfl) ?_
                          refine lv_goto (tgt := 231) hx hb dX10_best_215 (by decide) ?_
                          exact tx_lret (z := (hm, hj)) hx hb hr hlk hG hS ⟨(by show 0 ≤ hm; omega), (by show hm ≤ 96; omega)⟩ dX10_best_231
                      have lp104 : ∀ (kk104 : Nat) (yq : Int32) (yb : Int32) (H1 : Heap) (locs1 : List Loc) (ls1 : Array Slot), 3 - yq.toInt ≤ (kk104 : Int) → ((yq.toInt = 0 ∧ yb.toInt = 216) ∨ (yq.toInt = 1 ∧ yb.toInt = 36) ∨ (yq.toInt = 2 ∧ yb.toInt = 6) ∨ (yq.toInt = 3 ∧ yb.toInt = 1)) → tG D (mF cI cL cC gC gE gW gA gT gI gS gM K F S N hm hj ge gk gf gs gg gr RN gb rV rN) t H1 → tF t wmj s.heap H1 locs1 → lv_has ls1 14 [(12, .int yq), (11, .int yb), (10, .int yf), (8, .long yl), (0, .ref a0), (1, .int a1), (2, .int a2), (3, .int a3), (4, .int a4), (5, .long a5), (7, .int a6)] → WW104 H1 locs1 (F0 m 188 ls1 []) := by
                        intro kk104
                        induction kk104 with
                        | zero =>
                          intro yq yb H locs ls hk104 v104_0 hG hS hl
                          refine (hWW104 _ _ _).mpr ?_
                          refine lv_iload hx hb dX10_best_188 (lv_at hl 0 rfl) ?_
                          refine lv_iload hx hb dX10_best_190 (lv_at hl 10 rfl) ?_
                          refine lv_icmp_ge (tgt := 208) hx hb dX10_best_192 (by decide) (fun c_112 => ?_) (fun c_112 => ?_)
                          · skip
                            have c_112 : a6.toInt ≤ yq.toInt := q_le c_112
                            exact (hWW104 _ _ _).mp (kx104 yq yb H locs ls v104_0 hG hS (lv_sub hl [0, 1, 2, 3, 4, 5, 6, 7, 8, 9, 10] rfl))
                          · skip
                            have c_112 : yq.toInt < a6.toInt := q_nle c_112
                            exfalso; omega
                        | succ kk104 ih104 =>
                          intro yq yb H locs ls hk104 v104_0 hG hS hl
                          refine (hWW104 _ _ _).mpr ?_
                          refine lv_iload hx hb dX10_best_188 (lv_at hl 0 rfl) ?_
                          refine lv_iload hx hb dX10_best_190 (lv_at hl 10 rfl) ?_
                          refine lv_pc (pc2 := 192) rfl ?_
                          refine lv_icmp_ge (tgt := 208) hx hb dX10_best_192 (by decide) (fun c_113 => ?_) (fun c_113 => ?_)
                          · skip
                            have c_113 : a6.toInt ≤ yq.toInt := q_le c_113
                            exact (hWW104 _ _ _).mp (kx104 yq yb H locs ls v104_0 hG hS (lv_sub hl [0, 1, 2, 3, 4, 5, 6, 7, 8, 9, 10] rfl))
                          · skip
                            have c_113 : yq.toInt < a6.toInt := q_nle c_113
                            refine lv_iload hx hb dX10_best_195 (lv_at hl 1 rfl) ?_
                            refine lv_bipush (v := 6) hx hb dX10_best_197 (by decide) ?_
                            refine lv_idiv hx hb dX10_best_199 (by decide) ?_
                            refine lv_topi (fun x_114 e_115 => ?_)
                            have i_x_114 : x_114.toInt = yb.toInt / 6 := by rw [e_115]; exact q_divE (n := 6) rfl (by decide) (by omega)
                            refine lv_istore (lv' := [(11, .int x_114), (12, .int yq), (10, .int yf), (8, .long yl), (0, .ref a0), (1, .int a1), (2, .int a2), (3, .int a3), (4, .int a4), (5, .long a5), (7, .int a6)]) hx hb dX10_best_200 hl (by decide) rfl (fun ls hl => ?_)
                            obtain ⟨x_116, e_117⟩ : ∃ y : Int32, y = yq + Int32.ofInt 1 := ⟨_, rfl⟩
                            have i_x_116 : x_116.toInt = yq.toInt + 1 := by rw [e_117, show Int32.ofInt 1 = 1 by decide]; exact (q_add (by rw [show (1 : Int32).toInt = 1 by decide]; omega) (by rw [show (1 : Int32).toInt = 1 by decide]; omega)).trans (by rw [show (1 : Int32).toInt = 1 by decide])
                            refine lv_iinc (v := x_116) (lv' := [(12, .int x_116), (11, .int x_114), (10, .int yf), (8, .long yl), (0, .ref a0), (1, .int a1), (2, .int a2), (3, .int a3), (4, .int a4), (5, .long a5), (7, .int a6)]) hx hb dX10_best_202 hl (k := 1) rfl e_117.symm (by decide) rfl (fun ls hl => ?_)
                            refine lv_goto (tgt := 188) hx hb dX10_best_205 (by decide) ?_
                            exact (hWW104 _ _ _).mp (ih104 x_116 x_114 H locs ls (by omega) (by omega) hG hS (lv_sub hl [0, 1, 2, 3, 4, 5, 6, 7, 8, 9, 10] rfl))
                      have zi_0 : (0 : Int32).toInt = 0 := by decide
                      have zi_216 : (216 : Int32).toInt = 216 := by decide
                      exact lp104 (3 - (0 : Int32).toInt : Int).toNat 0 216 H locs ls (by omega) (by omega) hG hS (lv_sub hl [0, 1, 2, 3, 4, 5, 6, 7, 8, 9, 10] rfl)
                    · skip
                      have c_103 : yf.toInt < 0 := q_nle c_103
                      refine lv_ldc2 hx hb hown (hts (.constantLong RX10 311 (-4)) (List.mem_of_getElem? (i := 19) rfl)) dX10_best_176 ?_
                      refine lv_pc (pc2 := 179) rfl ?_
                      have zl_m4 : ((-4) : Int64).toInt = (-4) := by decide
                      exact tx_lret (z := (hm, hj)) hx hb hr hlk hG hS ⟨(by show 0 ≤ hm; omega), (by show hm ≤ 96; omega)⟩ dX10_best_179
                  have lp102 : ∀ (kk102 : Nat) (yc : Int32) (yf : Int32) (yl : Int64) (hm : Int) (hj : Int) (H1 : Heap) (locs1 : List Loc) (ls1 : Array Slot), 1296 - yc.toInt ≤ (kk102 : Int) → (0 ≤ yc.toInt) → (yc.toInt ≤ 1296) → (hm = gH) → tG D (mF cI cL cC gC gE gW gA gT gI gS gM K F S N hm hj ge gk gf gs gg gr RN gb rV rN) t H1 → tF t wmj s.heap H1 locs1 → lv_has ls1 14 [(11, .int yc), (10, .int yf), (8, .long yl), (0, .ref a0), (1, .int a1), (2, .int a2), (3, .int a3), (4, .int a4), (5, .long a5), (7, .int a6)] → WW102 H1 locs1 (F0 m 114 ls1 []) := by
                    intro kk102
                    induction kk102 with
                    | zero =>
                      intro yc yf yl hm hj H locs ls hk102 v102_0 v102_1 v102_2 hG hS hl
                      refine (hWW102 _ _ _).mpr ?_
                      refine lv_iload hx hb dX10_best_114 (lv_at hl 0 rfl) ?_
                      refine lv_sipush (v := 1296) hx hb dX10_best_116 (by decide) ?_
                      refine lv_icmp_ge (tgt := 171) hx hb dX10_best_119 (by decide) (fun c_118 => ?_) (fun c_118 => ?_)
                      · skip
                        have c_118 : 1296 ≤ yc.toInt := q_le c_118
                        exact (hWW102 _ _ _).mp (kx102 yc yf yl hm hj H locs ls v102_0 v102_1 v102_2 hG hS (lv_sub hl [0, 1, 2, 3, 4, 5, 6, 7, 8, 9] rfl))
                      · skip
                        have c_118 : yc.toInt < 1296 := q_nle c_118
                        exfalso; omega
                    | succ kk102 ih102 =>
                      intro yc yf yl hm hj H locs ls hk102 v102_0 v102_1 v102_2 hG hS hl
                      refine (hWW102 _ _ _).mpr ?_
                      refine lv_iload hx hb dX10_best_114 (lv_at hl 0 rfl) ?_
                      refine lv_sipush (v := 1296) hx hb dX10_best_116 (by decide) ?_
                      refine lv_icmp_ge (tgt := 171) hx hb dX10_best_119 (by decide) (fun c_119 => ?_) (fun c_119 => ?_)
                      · skip
                        have c_119 : 1296 ≤ yc.toInt := q_le c_119
                        exact (hWW102 _ _ _).mp (kx102 yc yf yl hm hj H locs ls v102_0 v102_1 v102_2 hG hS (lv_sub hl [0, 1, 2, 3, 4, 5, 6, 7, 8, 9] rfl))
                      · skip
                        have c_119 : yc.toInt < 1296 := q_nle c_119
                        refine lv_aload_n hx hb dX10_best_122 rfl (lv_at hl 3 rfl) ?_
                        refine lv_pc (pc2 := 123) rfl ?_
                        refine lv_iload_n hx hb dX10_best_123 rfl (lv_at hl 4 rfl) ?_
                        refine lv_iload_n hx hb dX10_best_124 rfl (lv_at hl 5 rfl) ?_
                        refine lv_iload_n hx hb dX10_best_125 rfl (lv_at hl 6 rfl) ?_
                        refine lv_iload hx hb dX10_best_126 (lv_at hl 7 rfl) ?_
                        refine lv_lload hx hb dX10_best_128 (lv_at hl 8 rfl) ?_
                        refine lv_iload hx hb dX10_best_130 (lv_at hl 0 rfl) ?_
                        obtain ⟨r_120, r_122, r_124, r_126, r_128, r_130, r_132, r_134, r_136, r_138, r_140, r_142, r_144, r_146, r_148, r_150, r_152, r_154, r_156, r_158, r_160, r_162, v_164, r_165, at_167, h_121, h_123, h_125, h_127, h_129, h_131, h_133, h_135, h_137, h_139, h_141, h_143, h_145, h_147, h_149, h_151, h_153, h_155, h_157, h_159, h_161, h_163, h_166⟩ := mF_o40 hG k_a0
                        refine tx_calll (W.runV (As := [.int a1, .int a2, .int a3, .int a4, .long a5, .int yc]) (rest := []) ⟨hx, hb, hml, hown, hts⟩ (m_X10_byOpenings l D t cI cL cC gC gE gW gA gT gI gS gM K F S N hm hj ge gk gf gs gg gr RN gb rV rN a0 a1 a2 a3 a4 a5 yc  uq (by omega) (by omega) (by omega) (by omega) hO0 (by omega) (by omega) (by omega) (by omega) (by omega) (by omega) (by omega) (by omega) (by omega) (by omega) (by omega) k_a0) (cwV 6 hts gu_X10_best_X10_byOpenings_307 rfl rfl rfl (by decide +kernel) ⟨Nat.le_of_ble_eq_true rfl, Nat.le_of_ble_eq_true rfl⟩) (tP_V hG hE at_167 rfl) rfl rfl hl.1 rfl (lv_room (Nat.le_of_ble_eq_true rfl)) dX10_best_132 ⟨Nat.le_of_ble_eq_true rfl, Nat.le_of_ble_eq_true rfl⟩) hS (fun _ h => h) (fun z_168 zz_171 H locs hp_169 hG hS o_170 => ?_)
                        obtain ⟨gH_172, gJ_173⟩ := zz_171
                        have at_167 := va_at.keptC at_167 o_170 k_a0 rfl
                        replace hG : tG D (mF cI cL cC gC gE gW gA gT gI gS gM K F S N gH_172 gJ_173 ge gk gf gs gg gr RN gb rV rN) t H := hG
                        have hp_169 : gH_172 = hm := hp_169
                        have p_174 := hp_169
                        refine lv_lstore (lv' := [(12, .long z_168), (11, .int yc), (10, .int yf), (8, .long yl), (0, .ref a0), (1, .int a1), (2, .int a2), (3, .int a3), (4, .int a4), (5, .long a5), (7, .int a6)]) hx hb dX10_best_135 hl (by decide) rfl (fun ls hl => ?_)
                        refine lv_pc (pc2 := 137) rfl ?_
                        refine lv_lload hx hb dX10_best_137 (lv_at hl 0 rfl) ?_
                        refine lv_lconst (v := 0) hx hb dX10_best_139 (by decide) ?_
                        refine W.lcmp hx hb dX10_best_140 ?_
                        refine lv_if_lt (tgt := 165) hx hb dX10_best_141 (by decide) (fun c_175 => ?_) (fun c_175 => ?_)
                        · skip
                          have c_175 : z_168.toInt < 0 := q_cmp_lt c_175
                          obtain ⟨x_176, e_177⟩ : ∃ y : Int32, y = yc + Int32.ofInt 1 := ⟨_, rfl⟩
                          have i_x_176 : x_176.toInt = yc.toInt + 1 := by rw [e_177, show Int32.ofInt 1 = 1 by decide]; exact (q_add (by rw [show (1 : Int32).toInt = 1 by decide]; omega) (by rw [show (1 : Int32).toInt = 1 by decide]; omega)).trans (by rw [show (1 : Int32).toInt = 1 by decide])
                          refine lv_iinc (v := x_176) (lv' := [(11, .int x_176), (12, .long z_168), (10, .int yf), (8, .long yl), (0, .ref a0), (1, .int a1), (2, .int a2), (3, .int a3), (4, .int a4), (5, .long a5), (7, .int a6)]) hx hb dX10_best_165 hl (k := 1) rfl e_177.symm (by decide) rfl (fun ls hl => ?_)
                          refine lv_goto (tgt := 114) hx hb dX10_best_168 (by decide) ?_
                          exact (hWW102 _ _ _).mp (ih102 x_176 yf yl gH_172 gJ_173 H locs ls (by omega) (by omega) (by omega) (by omega) hG hS (lv_sub hl [0, 2, 3, 4, 5, 6, 7, 8, 9, 10] rfl))
                        · skip
                          have c_175 : 0 ≤ z_168.toInt := q_cmp_nlt c_175
                          refine lv_iload hx hb dX10_best_144 (lv_at hl 2 rfl) ?_
                          refine lv_if_lt (tgt := 157) hx hb dX10_best_146 (by decide) (fun c_178 => ?_) (fun c_178 => ?_)
                          · skip
                            have c_178 : yf.toInt < 0 := q_lt c_178
                            refine lv_pc (pc2 := 157) rfl ?_
                            refine lv_lload hx hb dX10_best_157 (lv_at hl 0 rfl) ?_
                            refine lv_lstore (lv' := [(8, .long z_168), (12, .long z_168), (11, .int yc), (10, .int yf), (0, .ref a0), (1, .int a1), (2, .int a2), (3, .int a3), (4, .int a4), (5, .long a5), (7, .int a6)]) hx hb dX10_best_159 hl (by decide) rfl (fun ls hl => ?_)
                            refine lv_iload hx hb dX10_best_161 (lv_at hl 2 rfl) ?_
                            refine lv_istore (lv' := [(10, .int yc), (8, .long z_168), (12, .long z_168), (11, .int yc), (0, .ref a0), (1, .int a1), (2, .int a2), (3, .int a3), (4, .int a4), (5, .long a5), (7, .int a6)]) hx hb dX10_best_163 hl (by decide) rfl (fun ls hl => ?_)
                            obtain ⟨x_179, e_180⟩ : ∃ y : Int32, y = yc + Int32.ofInt 1 := ⟨_, rfl⟩
                            have i_x_179 : x_179.toInt = yc.toInt + 1 := by rw [e_180, show Int32.ofInt 1 = 1 by decide]; exact (q_add (by rw [show (1 : Int32).toInt = 1 by decide]; omega) (by rw [show (1 : Int32).toInt = 1 by decide]; omega)).trans (by rw [show (1 : Int32).toInt = 1 by decide])
                            refine lv_iinc (v := x_179) (lv' := [(11, .int x_179), (10, .int yc), (8, .long z_168), (12, .long z_168), (0, .ref a0), (1, .int a1), (2, .int a2), (3, .int a3), (4, .int a4), (5, .long a5), (7, .int a6)]) hx hb dX10_best_165 hl (k := 3) rfl e_180.symm (by decide) rfl (fun ls hl => ?_)
                            refine lv_goto (tgt := 114) hx hb dX10_best_168 (by decide) ?_
                            exact (hWW102 _ _ _).mp (ih102 x_179 yc z_168 gH_172 gJ_173 H locs ls (by omega) (by omega) (by omega) (by omega) hG hS (lv_sub hl [0, 1, 2, 4, 5, 6, 7, 8, 9, 10] rfl))
                          · skip
                            have c_178 : 0 ≤ yf.toInt := q_nlt c_178
                            refine lv_lload hx hb dX10_best_149 (lv_at hl 0 rfl) ?_
                            refine lv_lload hx hb dX10_best_151 (lv_at hl 3 rfl) ?_
                            refine lv_pc (pc2 := 153) rfl ?_
                            refine W.lcmp hx hb dX10_best_153 ?_
                            refine lv_if_ge (tgt := 165) hx hb dX10_best_154 (by decide) (fun c_181 => ?_) (fun c_181 => ?_)
                            · skip
                              have c_181 : yl.toInt ≤ z_168.toInt := q_cmp_ge c_181
                              obtain ⟨x_182, e_183⟩ : ∃ y : Int32, y = yc + Int32.ofInt 1 := ⟨_, rfl⟩
                              have i_x_182 : x_182.toInt = yc.toInt + 1 := by rw [e_183, show Int32.ofInt 1 = 1 by decide]; exact (q_add (by rw [show (1 : Int32).toInt = 1 by decide]; omega) (by rw [show (1 : Int32).toInt = 1 by decide]; omega)).trans (by rw [show (1 : Int32).toInt = 1 by decide])
                              refine lv_iinc (v := x_182) (lv' := [(11, .int x_182), (12, .long z_168), (10, .int yf), (8, .long yl), (0, .ref a0), (1, .int a1), (2, .int a2), (3, .int a3), (4, .int a4), (5, .long a5), (7, .int a6)]) hx hb dX10_best_165 hl (k := 1) rfl e_183.symm (by decide) rfl (fun ls hl => ?_)
                              refine lv_goto (tgt := 114) hx hb dX10_best_168 (by decide) ?_
                              exact (hWW102 _ _ _).mp (ih102 x_182 yf yl gH_172 gJ_173 H locs ls (by omega) (by omega) (by omega) (by omega) hG hS (lv_sub hl [0, 2, 3, 4, 5, 6, 7, 8, 9, 10] rfl))
                            · skip
                              have c_181 : z_168.toInt < yl.toInt := q_cmp_nge c_181
                              refine lv_lload hx hb dX10_best_157 (lv_at hl 0 rfl) ?_
                              refine lv_lstore (lv' := [(8, .long z_168), (12, .long z_168), (11, .int yc), (10, .int yf), (0, .ref a0), (1, .int a1), (2, .int a2), (3, .int a3), (4, .int a4), (5, .long a5), (7, .int a6)]) hx hb dX10_best_159 hl (by decide) rfl (fun ls hl => ?_)
                              refine lv_iload hx hb dX10_best_161 (lv_at hl 2 rfl) ?_
                              refine lv_istore (lv' := [(10, .int yc), (8, .long z_168), (12, .long z_168), (11, .int yc), (0, .ref a0), (1, .int a1), (2, .int a2), (3, .int a3), (4, .int a4), (5, .long a5), (7, .int a6)]) hx hb dX10_best_163 hl (by decide) rfl (fun ls hl => ?_)
                              refine lv_pc (pc2 := 165) rfl ?_
                              obtain ⟨x_184, e_185⟩ : ∃ y : Int32, y = yc + Int32.ofInt 1 := ⟨_, rfl⟩
                              have i_x_184 : x_184.toInt = yc.toInt + 1 := by rw [e_185, show Int32.ofInt 1 = 1 by decide]; exact (q_add (by rw [show (1 : Int32).toInt = 1 by decide]; omega) (by rw [show (1 : Int32).toInt = 1 by decide]; omega)).trans (by rw [show (1 : Int32).toInt = 1 by decide])
                              refine lv_iinc (v := x_184) (lv' := [(11, .int x_184), (10, .int yc), (8, .long z_168), (12, .long z_168), (0, .ref a0), (1, .int a1), (2, .int a2), (3, .int a3), (4, .int a4), (5, .long a5), (7, .int a6)]) hx hb dX10_best_165 hl (k := 3) rfl e_185.symm (by decide) rfl (fun ls hl => ?_)
                              refine lv_goto (tgt := 114) hx hb dX10_best_168 (by decide) ?_
                              exact (hWW102 _ _ _).mp (ih102 x_184 yc z_168 gH_172 gJ_173 H locs ls (by omega) (by omega) (by omega) (by omega) hG hS (lv_sub hl [0, 1, 2, 4, 5, 6, 7, 8, 9, 10] rfl))
                  have zi_0 : (0 : Int32).toInt = 0 := by decide
                  have zi_m4 : ((-4) : Int32).toInt = (-4) := by decide
                  exact lp102 (1296 - (0 : Int32).toInt : Int).toNat 0 (-4) (-1) gH gJ H locs ls (by omega) (by omega) (by omega) (by omega) hG hS (lv_sub hl [0, 1, 2, 3, 4, 5, 6, 7, 8, 9] rfl)
                · skip
                  refine lv_if_ne (tgt := 102) hx hb dX10_best_95 (by decide) (fun q => absurd rfl q) (fun _ => ?_)
                  refine lv_ldc2 hx hb hown (hts (.constantLong RX10 238 (-2)) (List.mem_of_getElem? (i := 14) rfl)) dX10_best_98 ?_
                  have zl_m2 : ((-2) : Int64).toInt = (-2) := by decide
                  exact tx_lret (z := (gH, gJ)) hx hb hr hlk hG hS ⟨(by show 0 ≤ gH; omega), (by show gH ≤ 96; omega)⟩ dX10_best_101
            · skip
              refine lv_if_eq (tgt := 98) hx hb dX10_best_76 (by decide) (fun _ => ?_) (fun q => absurd (by decide) q)
              refine lv_ldc2 hx hb hown (hts (.constantLong RX10 238 (-2)) (List.mem_of_getElem? (i := 14) rfl)) dX10_best_98 ?_
              have zl_m2 : ((-2) : Int64).toInt = (-2) := by decide
              exact tx_lret (z := (gH, gJ)) hx hb hr hlk hG hS ⟨(by show 0 ≤ gH; omega), (by show gH ≤ 96; omega)⟩ dX10_best_101
          · skip
            refine lv_pc (pc2 := 61) rfl ?_
            refine lv_if_ne (tgt := 68) hx hb dX10_best_61 (by decide) (fun q => absurd rfl q) (fun _ => ?_)
            refine lv_ldc2 hx hb hown (hts (.constantLong RX10 236 (-1)) (List.mem_of_getElem? (i := 7) rfl)) dX10_best_64 ?_
            exact tx_lret (z := (gH, gJ)) hx hb hr hlk hG hS ⟨(by show 0 ≤ gH; omega), (by show gH ≤ 96; omega)⟩ dX10_best_67
        · skip
          refine lv_if_eq (tgt := 64) hx hb dX10_best_46 (by decide) (fun _ => ?_) (fun q => absurd (by decide) q)
          refine lv_ldc2 hx hb hown (hts (.constantLong RX10 236 (-1)) (List.mem_of_getElem? (i := 7) rfl)) dX10_best_64 ?_
          have zl_m1 : ((-1) : Int64).toInt = (-1) := by decide
          exact tx_lret (z := (gH, gJ)) hx hb hr hlk hG hS ⟨(by show 0 ≤ gH; omega), (by show gH ≤ 96; omega)⟩ dX10_best_67
      · skip
        refine lv_if_eq (tgt := 64) hx hb dX10_best_33 (by decide) (fun _ => ?_) (fun q => absurd (by decide) q)
        refine lv_ldc2 hx hb hown (hts (.constantLong RX10 236 (-1)) (List.mem_of_getElem? (i := 7) rfl)) dX10_best_64 ?_
        refine lv_pc (pc2 := 67) rfl ?_
        have zl_m1 : ((-1) : Int64).toInt = (-1) := by decide
        exact tx_lret (z := (gH, gJ)) hx hb hr hlk hG hS ⟨(by show 0 ≤ gH; omega), (by show gH ≤ 96; omega)⟩ dX10_best_67
    · skip
      refine lv_if_eq (tgt := 64) hx hb dX10_best_21 (by decide) (fun _ => ?_) (fun q => absurd (by decide) q)
      refine lv_ldc2 hx hb hown (hts (.constantLong RX10 236 (-1)) (List.mem_of_getElem? (i := 7) rfl)) dX10_best_64 ?_
      have zl_m1 : ((-1) : Int64).toInt = (-1) := by decide
      exact tx_lret (z := (gH, gJ)) hx hb hr hlk hG hS ⟨(by show 0 ≤ gH; omega), (by show gH ≤ 96; omega)⟩ dX10_best_67
  · skip
    refine lv_if_eq (tgt := 64) hx hb dX10_best_9 (by decide) (fun _ => ?_) (fun q => absurd (by decide) q)
    refine lv_ldc2 hx hb hown (hts (.constantLong RX10 236 (-1)) (List.mem_of_getElem? (i := 7) rfl)) dX10_best_64 ?_
    have zl_m1 : ((-1) : Int64).toInt = (-1) := by decide
    exact tx_lret (z := (gH, gJ)) hx hb hr hlk hG hS ⟨(by show 0 ≤ gH; omega), (by show gH ≤ 96; omega)⟩ dX10_best_67
