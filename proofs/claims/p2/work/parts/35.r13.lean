theorem dX10_byOpenings_0 : decode cX10_byOpenings 0 = .ok (.aload_n 0, 1) := by decide +kernel
theorem dX10_byOpenings_1 : decode cX10_byOpenings 1 = .ok (.invokevirtual 274, 3) := by decide +kernel
theorem dX10_byOpenings_4 : decode cX10_byOpenings 4 = .ok (.ldc2_w 236, 3) := by decide +kernel
theorem dX10_byOpenings_7 : decode cX10_byOpenings 7 = .ok (.lstore 8, 2) := by decide +kernel
theorem dX10_byOpenings_9 : decode cX10_byOpenings 9 = .ok (.iconst 1, 1) := by decide +kernel
theorem dX10_byOpenings_10 : decode cX10_byOpenings 10 = .ok (.istore 10, 2) := by decide +kernel
theorem dX10_byOpenings_12 : decode cX10_byOpenings 12 = .ok (.sipush 216, 3) := by decide +kernel
theorem dX10_byOpenings_15 : decode cX10_byOpenings 15 = .ok (.istore 11, 2) := by decide +kernel
theorem dX10_byOpenings_17 : decode cX10_byOpenings 17 = .ok (.iconst 0, 1) := by decide +kernel
theorem dX10_byOpenings_18 : decode cX10_byOpenings 18 = .ok (.istore 12, 2) := by decide +kernel
theorem dX10_byOpenings_20 : decode cX10_byOpenings 20 = .ok (.iload 12, 2) := by decide +kernel
theorem dX10_byOpenings_22 : decode cX10_byOpenings 22 = .ok (.iconst 4, 1) := by decide +kernel
theorem dX10_byOpenings_23 : decode cX10_byOpenings 23 = .ok (.if_icmp .ge 108, 3) := by decide +kernel
theorem dX10_byOpenings_26 : decode cX10_byOpenings 26 = .ok (.aload_n 0, 1) := by decide +kernel
theorem dX10_byOpenings_27 : decode cX10_byOpenings 27 = .ok (.getfield 28, 3) := by decide +kernel
theorem dX10_byOpenings_30 : decode cX10_byOpenings 30 = .ok (.sipush 224, 3) := by decide +kernel
theorem dX10_byOpenings_33 : decode cX10_byOpenings 33 = .ok (.iload_n 1, 1) := by decide +kernel
theorem dX10_byOpenings_34 : decode cX10_byOpenings 34 = .ok (.iadd, 1) := by decide +kernel
theorem dX10_byOpenings_35 : decode cX10_byOpenings 35 = .ok (.ldc2_w 261, 3) := by decide +kernel
theorem dX10_byOpenings_38 : decode cX10_byOpenings 38 = .ok (.iload 7, 2) := by decide +kernel
theorem dX10_byOpenings_40 : decode cX10_byOpenings 40 = .ok (.iload 11, 2) := by decide +kernel
theorem dX10_byOpenings_42 : decode cX10_byOpenings 42 = .ok (.idiv, 1) := by decide +kernel
theorem dX10_byOpenings_43 : decode cX10_byOpenings 43 = .ok (.bipush 6, 2) := by decide +kernel
theorem dX10_byOpenings_45 : decode cX10_byOpenings 45 = .ok (.irem, 1) := by decide +kernel
theorem dX10_byOpenings_46 : decode cX10_byOpenings 46 = .ok (.i2l, 1) := by decide +kernel
theorem dX10_byOpenings_47 : decode cX10_byOpenings 47 = .ok (.lmul, 1) := by decide +kernel
theorem dX10_byOpenings_48 : decode cX10_byOpenings 48 = .ok (.lastore, 1) := by decide +kernel
theorem dX10_byOpenings_49 : decode cX10_byOpenings 49 = .ok (.iload 11, 2) := by decide +kernel
theorem dX10_byOpenings_51 : decode cX10_byOpenings 51 = .ok (.bipush 6, 2) := by decide +kernel
theorem dX10_byOpenings_53 : decode cX10_byOpenings 53 = .ok (.idiv, 1) := by decide +kernel
theorem dX10_byOpenings_54 : decode cX10_byOpenings 54 = .ok (.istore 11, 2) := by decide +kernel
theorem dX10_byOpenings_56 : decode cX10_byOpenings 56 = .ok (.iconst 0, 1) := by decide +kernel
theorem dX10_byOpenings_57 : decode cX10_byOpenings 57 = .ok (.istore 13, 2) := by decide +kernel
theorem dX10_byOpenings_59 : decode cX10_byOpenings 59 = .ok (.iload 13, 2) := by decide +kernel
theorem dX10_byOpenings_61 : decode cX10_byOpenings 61 = .ok (.iload_n 2, 1) := by decide +kernel
theorem dX10_byOpenings_62 : decode cX10_byOpenings 62 = .ok (.if_icmp .ge 63, 3) := by decide +kernel
theorem dX10_byOpenings_65 : decode cX10_byOpenings 65 = .ok (.iload 10, 2) := by decide +kernel
theorem dX10_byOpenings_67 : decode cX10_byOpenings 67 = .ok (.ifCond .eq 58, 3) := by decide +kernel
theorem dX10_byOpenings_70 : decode cX10_byOpenings 70 = .ok (.aload_n 0, 1) := by decide +kernel
theorem dX10_byOpenings_71 : decode cX10_byOpenings 71 = .ok (.iconst 0, 1) := by decide +kernel
theorem dX10_byOpenings_72 : decode cX10_byOpenings 72 = .ok (.iconst 0, 1) := by decide +kernel
theorem dX10_byOpenings_73 : decode cX10_byOpenings 73 = .ok (.invokevirtual 231, 3) := by decide +kernel
theorem dX10_byOpenings_76 : decode cX10_byOpenings 76 = .ok (.aload_n 0, 1) := by decide +kernel
theorem dX10_byOpenings_77 : decode cX10_byOpenings 77 = .ok (.getfield 28, 3) := by decide +kernel
theorem dX10_byOpenings_80 : decode cX10_byOpenings 80 = .ok (.iload 4, 2) := by decide +kernel
theorem dX10_byOpenings_82 : decode cX10_byOpenings 82 = .ok (.laload, 1) := by decide +kernel
theorem dX10_byOpenings_83 : decode cX10_byOpenings 83 = .ok (.lload 5, 2) := by decide +kernel
theorem dX10_byOpenings_85 : decode cX10_byOpenings 85 = .ok (.lcmp, 1) := by decide +kernel
theorem dX10_byOpenings_86 : decode cX10_byOpenings 86 = .ok (.ifCond .gt 7, 3) := by decide +kernel
theorem dX10_byOpenings_89 : decode cX10_byOpenings 89 = .ok (.iconst 1, 1) := by decide +kernel
theorem dX10_byOpenings_90 : decode cX10_byOpenings 90 = .ok (.goto 4, 3) := by decide +kernel
theorem dX10_byOpenings_93 : decode cX10_byOpenings 93 = .ok (.iconst 0, 1) := by decide +kernel
theorem dX10_byOpenings_94 : decode cX10_byOpenings 94 = .ok (.istore 10, 2) := by decide +kernel
theorem dX10_byOpenings_96 : decode cX10_byOpenings 96 = .ok (.aload_n 0, 1) := by decide +kernel
theorem dX10_byOpenings_97 : decode cX10_byOpenings 97 = .ok (.iload_n 3, 1) := by decide +kernel
theorem dX10_byOpenings_98 : decode cX10_byOpenings 98 = .ok (.invokevirtual 251, 3) := by decide +kernel
theorem dX10_byOpenings_101 : decode cX10_byOpenings 101 = .ok (.lload 8, 2) := by decide +kernel
theorem dX10_byOpenings_103 : decode cX10_byOpenings 103 = .ok (.lcmp, 1) := by decide +kernel
theorem dX10_byOpenings_104 : decode cX10_byOpenings 104 = .ok (.ifCond .le 11, 3) := by decide +kernel
theorem dX10_byOpenings_107 : decode cX10_byOpenings 107 = .ok (.aload_n 0, 1) := by decide +kernel
theorem dX10_byOpenings_108 : decode cX10_byOpenings 108 = .ok (.iload_n 3, 1) := by decide +kernel
theorem dX10_byOpenings_109 : decode cX10_byOpenings 109 = .ok (.invokevirtual 251, 3) := by decide +kernel
theorem dX10_byOpenings_112 : decode cX10_byOpenings 112 = .ok (.goto 5, 3) := by decide +kernel
theorem dX10_byOpenings_115 : decode cX10_byOpenings 115 = .ok (.lload 8, 2) := by decide +kernel
theorem dX10_byOpenings_117 : decode cX10_byOpenings 117 = .ok (.lstore 8, 2) := by decide +kernel
theorem dX10_byOpenings_119 : decode cX10_byOpenings 119 = .ok (.iinc 13 1, 3) := by decide +kernel
theorem dX10_byOpenings_122 : decode cX10_byOpenings 122 = .ok (.goto (-63), 3) := by decide +kernel
theorem dX10_byOpenings_125 : decode cX10_byOpenings 125 = .ok (.iinc 12 1, 3) := by decide +kernel
theorem dX10_byOpenings_128 : decode cX10_byOpenings 128 = .ok (.goto (-108), 3) := by decide +kernel
theorem dX10_byOpenings_131 : decode cX10_byOpenings 131 = .ok (.aload_n 0, 1) := by decide +kernel
theorem dX10_byOpenings_132 : decode cX10_byOpenings 132 = .ok (.invokevirtual 277, 3) := by decide +kernel
theorem dX10_byOpenings_135 : decode cX10_byOpenings 135 = .ok (.iload 10, 2) := by decide +kernel
theorem dX10_byOpenings_137 : decode cX10_byOpenings 137 = .ok (.ifCond .eq 8, 3) := by decide +kernel
theorem dX10_byOpenings_140 : decode cX10_byOpenings 140 = .ok (.lload 8, 2) := by decide +kernel
theorem dX10_byOpenings_142 : decode cX10_byOpenings 142 = .ok (.goto 6, 3) := by decide +kernel
theorem dX10_byOpenings_145 : decode cX10_byOpenings 145 = .ok (.ldc2_w 236, 3) := by decide +kernel
theorem dX10_byOpenings_148 : decode cX10_byOpenings 148 = .ok (.lreturn, 1) := by decide +kernel
theorem dX10_best_0 : decode cX10_best 0 = .ok (.iload_n 1, 1) := by decide +kernel
theorem dX10_best_1 : decode cX10_best 1 = .ok (.i2l, 1) := by decide +kernel
theorem dX10_best_2 : decode cX10_best 2 = .ok (.lconst 0, 1) := by decide +kernel
theorem dX10_best_3 : decode cX10_best 3 = .ok (.ldc2_w 243, 3) := by decide +kernel
theorem dX10_best_6 : decode cX10_best 6 = .ok (.invokestatic 85, 3) := by decide +kernel
theorem dX10_best_9 : decode cX10_best 9 = .ok (.ifCond .eq 55, 3) := by decide +kernel
theorem dX10_best_12 : decode cX10_best 12 = .ok (.iload_n 2, 1) := by decide +kernel
theorem dX10_best_13 : decode cX10_best 13 = .ok (.i2l, 1) := by decide +kernel
theorem dX10_best_14 : decode cX10_best 14 = .ok (.lconst 1, 1) := by decide +kernel
theorem dX10_best_15 : decode cX10_best 15 = .ok (.ldc2_w 305, 3) := by decide +kernel
theorem dX10_best_18 : decode cX10_best 18 = .ok (.invokestatic 85, 3) := by decide +kernel
theorem dX10_best_21 : decode cX10_best 21 = .ok (.ifCond .eq 43, 3) := by decide +kernel
theorem dX10_best_24 : decode cX10_best 24 = .ok (.iload_n 3, 1) := by decide +kernel
theorem dX10_best_25 : decode cX10_best 25 = .ok (.i2l, 1) := by decide +kernel
theorem dX10_best_26 : decode cX10_best 26 = .ok (.lconst 0, 1) := by decide +kernel
theorem dX10_best_27 : decode cX10_best 27 = .ok (.ldc2_w 243, 3) := by decide +kernel
theorem dX10_best_30 : decode cX10_best 30 = .ok (.invokestatic 85, 3) := by decide +kernel
theorem dX10_best_33 : decode cX10_best 33 = .ok (.ifCond .eq 31, 3) := by decide +kernel
theorem dX10_best_36 : decode cX10_best 36 = .ok (.iload 4, 2) := by decide +kernel
theorem dX10_best_38 : decode cX10_best 38 = .ok (.i2l, 1) := by decide +kernel
theorem dX10_best_39 : decode cX10_best 39 = .ok (.lconst 0, 1) := by decide +kernel
theorem dX10_best_40 : decode cX10_best 40 = .ok (.ldc2_w 234, 3) := by decide +kernel
theorem dX10_best_43 : decode cX10_best 43 = .ok (.invokestatic 85, 3) := by decide +kernel
theorem dX10_best_46 : decode cX10_best 46 = .ok (.ifCond .eq 18, 3) := by decide +kernel
theorem dX10_best_49 : decode cX10_best 49 = .ok (.iload 7, 2) := by decide +kernel
theorem dX10_best_51 : decode cX10_best 51 = .ok (.i2l, 1) := by decide +kernel
theorem dX10_best_52 : decode cX10_best 52 = .ok (.ldc2_w 236, 3) := by decide +kernel
theorem dX10_best_55 : decode cX10_best 55 = .ok (.ldc2_w 243, 3) := by decide +kernel
theorem dX10_best_58 : decode cX10_best 58 = .ok (.invokestatic 85, 3) := by decide +kernel
theorem dX10_best_61 : decode cX10_best 61 = .ok (.ifCond .ne 7, 3) := by decide +kernel
theorem dX10_best_64 : decode cX10_best 64 = .ok (.ldc2_w 236, 3) := by decide +kernel
theorem dX10_best_67 : decode cX10_best 67 = .ok (.lreturn, 1) := by decide +kernel
theorem dX10_best_68 : decode cX10_best 68 = .ok (.aload_n 0, 1) := by decide +kernel
theorem dX10_best_69 : decode cX10_best 69 = .ok (.iload_n 3, 1) := by decide +kernel
theorem dX10_best_70 : decode cX10_best 70 = .ok (.iconst 4, 1) := by decide +kernel
theorem dX10_best_71 : decode cX10_best 71 = .ok (.iload_n 2, 1) := by decide +kernel
theorem dX10_best_72 : decode cX10_best 72 = .ok (.imul, 1) := by decide +kernel
theorem dX10_best_73 : decode cX10_best 73 = .ok (.invokevirtual 297, 3) := by decide +kernel
theorem dX10_best_76 : decode cX10_best 76 = .ok (.ifCond .eq 22, 3) := by decide +kernel
theorem dX10_best_79 : decode cX10_best 79 = .ok (.iload_n 1, 1) := by decide +kernel
theorem dX10_best_80 : decode cX10_best 80 = .ok (.aload_n 0, 1) := by decide +kernel
theorem dX10_best_81 : decode cX10_best 81 = .ok (.bipush 103, 2) := by decide +kernel
theorem dX10_best_83 : decode cX10_best 83 = .ok (.invokevirtual 245, 3) := by decide +kernel
theorem dX10_best_86 : decode cX10_best 86 = .ok (.if_icmp .ge 12, 3) := by decide +kernel
theorem dX10_best_89 : decode cX10_best 89 = .ok (.aload_n 0, 1) := by decide +kernel
theorem dX10_best_90 : decode cX10_best 90 = .ok (.iload 4, 2) := by decide +kernel
theorem dX10_best_92 : decode cX10_best 92 = .ok (.invokevirtual 208, 3) := by decide +kernel
theorem dX10_best_95 : decode cX10_best 95 = .ok (.ifCond .ne 7, 3) := by decide +kernel
theorem dX10_best_98 : decode cX10_best 98 = .ok (.ldc2_w 238, 3) := by decide +kernel
theorem dX10_best_101 : decode cX10_best 101 = .ok (.lreturn, 1) := by decide +kernel
theorem dX10_best_102 : decode cX10_best 102 = .ok (.ldc2_w 236, 3) := by decide +kernel
theorem dX10_best_105 : decode cX10_best 105 = .ok (.lstore 8, 2) := by decide +kernel
theorem dX10_best_107 : decode cX10_best 107 = .ok (.bipush (-4), 2) := by decide +kernel
theorem dX10_best_109 : decode cX10_best 109 = .ok (.istore 10, 2) := by decide +kernel
theorem dX10_best_111 : decode cX10_best 111 = .ok (.iconst 0, 1) := by decide +kernel
theorem dX10_best_112 : decode cX10_best 112 = .ok (.istore 11, 2) := by decide +kernel
theorem dX10_best_114 : decode cX10_best 114 = .ok (.iload 11, 2) := by decide +kernel
theorem dX10_best_116 : decode cX10_best 116 = .ok (.sipush 1296, 3) := by decide +kernel
theorem dX10_best_119 : decode cX10_best 119 = .ok (.if_icmp .ge 52, 3) := by decide +kernel
theorem dX10_best_122 : decode cX10_best 122 = .ok (.aload_n 0, 1) := by decide +kernel
theorem dX10_best_123 : decode cX10_best 123 = .ok (.iload_n 1, 1) := by decide +kernel
theorem dX10_best_124 : decode cX10_best 124 = .ok (.iload_n 2, 1) := by decide +kernel
theorem dX10_best_125 : decode cX10_best 125 = .ok (.iload_n 3, 1) := by decide +kernel
theorem dX10_best_126 : decode cX10_best 126 = .ok (.iload 4, 2) := by decide +kernel
theorem dX10_best_128 : decode cX10_best 128 = .ok (.lload 5, 2) := by decide +kernel
theorem dX10_best_130 : decode cX10_best 130 = .ok (.iload 11, 2) := by decide +kernel
theorem dX10_best_132 : decode cX10_best 132 = .ok (.invokevirtual 307, 3) := by decide +kernel
theorem dX10_best_135 : decode cX10_best 135 = .ok (.lstore 12, 2) := by decide +kernel
theorem dX10_best_137 : decode cX10_best 137 = .ok (.lload 12, 2) := by decide +kernel
theorem dX10_best_139 : decode cX10_best 139 = .ok (.lconst 0, 1) := by decide +kernel
theorem dX10_best_140 : decode cX10_best 140 = .ok (.lcmp, 1) := by decide +kernel
theorem dX10_best_141 : decode cX10_best 141 = .ok (.ifCond .lt 24, 3) := by decide +kernel
theorem dX10_best_144 : decode cX10_best 144 = .ok (.iload 10, 2) := by decide +kernel
theorem dX10_best_146 : decode cX10_best 146 = .ok (.ifCond .lt 11, 3) := by decide +kernel
theorem dX10_best_149 : decode cX10_best 149 = .ok (.lload 12, 2) := by decide +kernel
theorem dX10_best_151 : decode cX10_best 151 = .ok (.lload 8, 2) := by decide +kernel
theorem dX10_best_153 : decode cX10_best 153 = .ok (.lcmp, 1) := by decide +kernel
theorem dX10_best_154 : decode cX10_best 154 = .ok (.ifCond .ge 11, 3) := by decide +kernel
theorem dX10_best_157 : decode cX10_best 157 = .ok (.lload 12, 2) := by decide +kernel
theorem dX10_best_159 : decode cX10_best 159 = .ok (.lstore 8, 2) := by decide +kernel
theorem dX10_best_161 : decode cX10_best 161 = .ok (.iload 11, 2) := by decide +kernel
theorem dX10_best_163 : decode cX10_best 163 = .ok (.istore 10, 2) := by decide +kernel
theorem dX10_best_165 : decode cX10_best 165 = .ok (.iinc 11 1, 3) := by decide +kernel
theorem dX10_best_168 : decode cX10_best 168 = .ok (.goto (-54), 3) := by decide +kernel
theorem dX10_best_171 : decode cX10_best 171 = .ok (.iload 10, 2) := by decide +kernel
theorem dX10_best_173 : decode cX10_best 173 = .ok (.ifCond .ge 7, 3) := by decide +kernel
theorem dX10_best_176 : decode cX10_best 176 = .ok (.ldc2_w 311, 3) := by decide +kernel
theorem dX10_best_179 : decode cX10_best 179 = .ok (.lreturn, 1) := by decide +kernel
theorem dX10_best_180 : decode cX10_best 180 = .ok (.sipush 216, 3) := by decide +kernel
theorem dX10_best_183 : decode cX10_best 183 = .ok (.istore 11, 2) := by decide +kernel
theorem dX10_best_185 : decode cX10_best 185 = .ok (.iconst 0, 1) := by decide +kernel
theorem dX10_best_186 : decode cX10_best 186 = .ok (.istore 12, 2) := by decide +kernel
theorem dX10_best_188 : decode cX10_best 188 = .ok (.iload 12, 2) := by decide +kernel
theorem dX10_best_190 : decode cX10_best 190 = .ok (.iload 7, 2) := by decide +kernel
theorem dX10_best_192 : decode cX10_best 192 = .ok (.if_icmp .ge 16, 3) := by decide +kernel
theorem dX10_best_195 : decode cX10_best 195 = .ok (.iload 11, 2) := by decide +kernel
theorem dX10_best_197 : decode cX10_best 197 = .ok (.bipush 6, 2) := by decide +kernel
theorem dX10_best_199 : decode cX10_best 199 = .ok (.idiv, 1) := by decide +kernel
theorem dX10_best_200 : decode cX10_best 200 = .ok (.istore 11, 2) := by decide +kernel
theorem dX10_best_202 : decode cX10_best 202 = .ok (.iinc 12 1, 3) := by decide +kernel
theorem dX10_best_205 : decode cX10_best 205 = .ok (.goto (-17), 3) := by decide +kernel
theorem dX10_best_208 : decode cX10_best 208 = .ok (.iload 7, 2) := by decide +kernel
theorem dX10_best_210 : decode cX10_best 210 = .ok (.ifCond .ge 8, 3) := by decide +kernel
theorem dX10_best_213 : decode cX10_best 213 = .ok (.lload 8, 2) := by decide +kernel
theorem dX10_best_215 : decode cX10_best 215 = .ok (.goto 16, 3) := by decide +kernel
theorem dX10_best_218 : decode cX10_best 218 = .ok (.ldc2_w 261, 3) := by decide +kernel
theorem dX10_best_221 : decode cX10_best 221 = .ok (.iload 10, 2) := by decide +kernel
theorem dX10_best_223 : decode cX10_best 223 = .ok (.iload 11, 2) := by decide +kernel
theorem dX10_best_225 : decode cX10_best 225 = .ok (.idiv, 1) := by decide +kernel
theorem dX10_best_226 : decode cX10_best 226 = .ok (.bipush 6, 2) := by decide +kernel
theorem dX10_best_228 : decode cX10_best 228 = .ok (.irem, 1) := by decide +kernel
theorem dX10_best_229 : decode cX10_best 229 = .ok (.i2l, 1) := by decide +kernel
theorem dX10_best_230 : decode cX10_best 230 = .ok (.lmul, 1) := by decide +kernel
theorem dX10_best_231 : decode cX10_best 231 = .ok (.lreturn, 1) := by decide +kernel
def uX10_byOpenings : List Cond := .code yX10_byOpenings cX10_byOpenings 14 (some .long) :: ([.methodLink RX10 274 yX10_asides, .instanceMethod yX10_asides, .selects RX10 yX10_asides yX10_asides, .initialized RX10, .constantLong RX10 236 (-1), .fieldLink RX10 28 "RiverModelModel" "m" "[J", .constantLong RX10 261 (2), .methodLink RX10 277 yX10_returns, .instanceMethod yX10_returns, .selects RX10 yX10_returns yX10_returns, .methodLink RX10 231 yX10_goes, .instanceMethod yX10_goes, .selects RX10 yX10_goes yX10_goes, .methodLink RX10 251 yX10_reading, .instanceMethod yX10_reading, .selects RX10 yX10_reading yX10_reading, .code yX10_asides cX10_asides 2 none, .fieldLink RX10 32 "RiverModelModel" "aside" "[J", .code yX10_returns cX10_returns 2 none, .code yX10_goes cX10_goes 4 none, .fieldLink RX10 25 "RiverModelModel" "weather" "[I", .methodLink RX10 225 yX10_passes, .instanceMethod yX10_passes, .selects RX10 yX10_passes yX10_passes, .code yX10_passes cX10_passes 12 none, .fieldLink RX10 163 "RiverModelModel" "items" "I", .fieldLink RX10 13 "RiverModelModel" "kind" "[I", .methodLink RX10 221 yX10_moves, .instanceMethod yX10_moves, .selects RX10 yX10_moves yX10_moves, .fieldLink RX10 16 "RiverModelModel" "first" "[I", .fieldLink RX10 19 "RiverModelModel" "second" "[I", .fieldLink RX10 22 "RiverModelModel" "number" "[I", .code yX10_moves cX10_moves 8 (some .long), .constantLong RX10 219 (10), .methodLink RX10 215 yX10_most, .instanceMethod yX10_most, .selects RX10 yX10_most yX10_most, .constantLong RX10 107 (100), .methodLink RX10 211 yX10_capacity, .instanceMethod yX10_capacity, .selects RX10 yX10_capacity yX10_capacity, .code yX10_most cX10_most 4 (some .long), .code yX10_capacity cX10_capacity 3 (some .long), .methodLink RX10 166 yX10_storeAt, .instanceMethod yX10_storeAt, .selects RX10 yX10_storeAt yX10_storeAt, .code yX10_storeAt cX10_storeAt 5 (some .int), .code yX10_reading cX10_reading 2 (some .long), .fieldLink RX10 38 "RiverModelModel" "gaugeKind" "[I", .fieldLink RX10 41 "RiverModelModel" "gaugeAt" "[I"] ++ wsX100)
set_option maxRecDepth 20000 in
theorem gu_X10_byOpenings_X10_asides_274 : GoodIn uX10_byOpenings (wsV RX10 274 RX10 yX10_asides uX10_asides) := goodIn_r _ [1, 2, 3, 4, 17, 18, 6, 52, 53, 54, 55, 56, 57, 58, 59, 60, 61, 62, 63, 64, 65, 66, 67, 68, 69, 70, 71, 72, 73, 74, 75, 76, 77, 78, 79, 80, 81, 82, 83, 84, 85, 86, 87] rfl (by decide +kernel)
set_option maxRecDepth 20000 in
theorem gu_X10_byOpenings_X10_returns_277 : GoodIn uX10_byOpenings (wsV RX10 277 RX10 yX10_returns uX10_returns) := goodIn_r _ [8, 9, 10, 4, 19, 6, 18, 52, 53, 54, 55, 56, 57, 58, 59, 60, 61, 62, 63, 64, 65, 66, 67, 68, 69, 70, 71, 72, 73, 74, 75, 76, 77, 78, 79, 80, 81, 82, 83, 84, 85, 86, 87] rfl (by decide +kernel)
set_option maxRecDepth 20000 in
theorem gu_X10_byOpenings_X10_goes_231 : GoodIn uX10_byOpenings (wsV RX10 231 RX10 yX10_goes uX10_goes) := goodIn_r _ [11, 12, 13, 4, 20, 6, 21, 22, 23, 24, 4, 25, 26, 27, 28, 29, 30, 31, 32, 33, 34, 35, 36, 37, 38, 39, 40, 41, 42, 43, 44, 45, 46, 47, 48, 52, 53, 54, 55, 56, 57, 58, 59, 60, 61, 62, 63, 64, 65, 66, 67, 68, 69, 70, 71, 72, 73, 74, 75, 76, 77, 78, 79, 80, 81, 82, 83, 84, 85, 86, 87] rfl (by decide +kernel)
set_option maxRecDepth 20000 in
theorem gu_X10_byOpenings_X10_reading_251 : GoodIn uX10_byOpenings (wsV RX10 251 RX10 yX10_reading uX10_reading) := goodIn_r _ [14, 15, 16, 4, 49, 50, 6, 51, 52, 53, 54, 55, 56, 57, 58, 59, 60, 61, 62, 63, 64, 65, 66, 67, 68, 69, 70, 71, 72, 73, 74, 75, 76, 77, 78, 79, 80, 81, 82, 83, 84, 85, 86, 87] rfl (by decide +kernel)
set_option maxHeartbeats 4000000 in
set_option maxRecDepth 100000 in
theorem m_X10_byOpenings (l : Launch) (D : va_G) (t : Nat → Nat) (cI cL cC : ClassId) (gC : Int32) (gE : Int32) (gW : Nat → Int32) (gA : Nat → Int32) (gT : Nat → Int32) (gI : Int32) (gS : Int32) (gM : Int32) (K : Nat → Int32) (F : Nat → Int32) (S : Nat → Int32) (N : Nat → Int32) (gH : Int) (gJ : Int) (ge : Int32) (gk : Int32) (gf : Int32) (gs : Int32) (gg : Int32) (gr : Int32) (RN : Nat → Int32) (a0 : Nat) (a1 : Int32) (a2 : Int32) (a3 : Int32) (a4 : Int32) (a5 : Int64) (a6 : Int32) (uq : ∀ b c : Nat, t b = t c → t b ≠ 0 → b = c) (hI0 : 0 ≤ gI.toInt) (hI4 : gI.toInt ≤ 40) (hH0 : 0 ≤ gH) (hH9 : gH ≤ 96) (hO0 : okM K F S N 0 gI.toInt) (hga0 : 0 ≤ a1.toInt) (hga3 : a1.toInt ≤ 3) (hb1 : 1 ≤ a2.toInt) (hb6 : a2.toInt ≤ 6) (hk0 : 0 ≤ a3.toInt) (hk3 : a3.toInt ≤ 3) (hs0 : 0 ≤ a4.toInt) (hs15 : a4.toInt ≤ 15) (hc0 : 0 ≤ a6.toInt) (hc9 : a6.toInt < 1296) (hn9 : gH + 4 * a2.toInt ≤ 96) (k_a0 : t a0 = 40) : tMx (Z := (Int) × (Int)) l yX10_byOpenings uX10_byOpenings 5 127 D (mF cI cL cC gC gE gW gA gT gI gS gM K F S N gH gJ ge gk gf gs gg gr RN) (fun z => (mF cI cL cC gC gE gW gA gT gI gS gM K F S N z.1 z.2 ge gk gf gs gg gr RN)) t cI cL cC [.ref a0, .int a1, .int a2, .int a3, .int a4, .long a5, .int a6] wmj (xL (fun r (z : (Int) × (Int)) => z.1 = gH)) := by
  refine tMx.ofW (cc := cX10_byOpenings) (maxL := 14) (ret := (some .long)) (by decide) rfl (Nat.le_of_ble_eq_true rfl) ?_
  intro p e s m below meth c hx hb hr hml hown hts hlk H locs hG hK hE hS ls hl
  have hl : lv_has ls 14 [(0, .ref a0), (1, .int a1), (2, .int a2), (3, .int a3), (4, .int a4), (5, .long a5), (7, .int a6)] := hl
  have in10 : ∀ w ∈ wsX100, w ∈ uX10_byOpenings := fun w h => List.mem_cons_of_mem _ (List.mem_append_right _ h)
  refine lv_aload_n hx hb dX10_byOpenings_0 rfl (lv_at hl 0 rfl) ?_
  obtain ⟨r_1, v_3, r_4, r_6, r_8, r_10, r_12, r_14, r_16, r_18, r_20, r_22, r_24, r_26, r_28, r_30, r_32, r_34, r_36, r_38, r_40, r_42, r_44, v_46, r_47, at_49, h_2, h_5, h_7, h_9, h_11, h_13, h_15, h_17, h_19, h_21, h_23, h_25, h_27, h_29, h_31, h_33, h_35, h_37, h_39, h_41, h_43, h_45, h_48⟩ := mF_o40 hG k_a0
  refine tx_callv (W.runV (As := []) (rest := []) ⟨hx, hb, hml, hown, hts⟩ (m_X10_asides l D t cI cL cC gC gE gW gA gT gI gS gM K F S N gH gJ ge gk gf gs gg gr RN a0  uq  k_a0) (cwV 0 hts gu_X10_byOpenings_X10_asides_274 rfl rfl rfl (by decide +kernel) ⟨Nat.le_of_ble_eq_true rfl, Nat.le_of_ble_eq_true rfl⟩) (tP_V hG hE at_49 rfl) rfl rfl hl.1 rfl (lv_room (Nat.le_of_ble_eq_true rfl)) dX10_byOpenings_1 ⟨Nat.le_of_ble_eq_true rfl, Nat.le_of_ble_eq_true rfl⟩) hS (wrL_sub (by decide)) (fun gJ_54 H locs hp_51 hG hS o_52 => ?_)
  have at_49 := va_at.keptC at_49 o_52 k_a0 rfl
  replace hG : tG D (mF cI cL cC gC gE gW gA gT gI gS gM K F S N gH gJ_54 ge gk gf gs gg gr RN) t H := hG
  have hp_51 : gJ_54 = gH := hp_51
  have p_55 := hp_51
  refine lv_ldc2 hx hb hown (hts (.constantLong RX10 236 (-1)) (List.mem_of_getElem? (i := 5) rfl)) dX10_byOpenings_4 ?_
  refine lv_lstore (lv' := [(8, .long (-1)), (0, .ref a0), (1, .int a1), (2, .int a2), (3, .int a3), (4, .int a4), (5, .long a5), (7, .int a6)]) hx hb dX10_byOpenings_7 hl (by decide) rfl (fun ls hl => ?_)
  refine lv_iconst (v := 1) hx hb dX10_byOpenings_9 (by decide) ?_
  refine lv_istore (lv' := [(10, .int 1), (8, .long (-1)), (0, .ref a0), (1, .int a1), (2, .int a2), (3, .int a3), (4, .int a4), (5, .long a5), (7, .int a6)]) hx hb dX10_byOpenings_10 hl (by decide) rfl (fun ls hl => ?_)
  refine lv_sipush (v := 216) hx hb dX10_byOpenings_12 (by decide) ?_
  refine lv_pc (pc2 := 15) rfl ?_
  refine lv_istore (lv' := [(11, .int 216), (10, .int 1), (8, .long (-1)), (0, .ref a0), (1, .int a1), (2, .int a2), (3, .int a3), (4, .int a4), (5, .long a5), (7, .int a6)]) hx hb dX10_byOpenings_15 hl (by decide) rfl (fun ls hl => ?_)
  refine lv_iconst (v := 0) hx hb dX10_byOpenings_17 (by decide) ?_
  refine lv_istore (lv' := [(12, .int 0), (11, .int 216), (10, .int 1), (8, .long (-1)), (0, .ref a0), (1, .int a1), (2, .int a2), (3, .int a3), (4, .int a4), (5, .long a5), (7, .int a6)]) hx hb dX10_byOpenings_18 hl (by decide) rfl (fun ls hl => ?_)
  refine lv_iload hx hb dX10_byOpenings_20 (lv_at hl 0 rfl) ?_
  refine lv_iconst (v := 4) hx hb dX10_byOpenings_22 (by decide) ?_
  refine lv_icmp_ge (tgt := 131) hx hb dX10_byOpenings_23 (by decide) (fun q => absurd q (by decide)) (fun _ => ?_)
  refine lv_aload_n hx hb dX10_byOpenings_26 rfl (lv_at hl 4 rfl) ?_
  refine va_get (D := D) (ci := 9) (v := .ref r_14) (C := RX10) (T := TX10) (N := 36) hx hb hts in10 hown hK (va_one at_49) 0 rfl rfl 10 (by decide) (hts (.fieldLink RX10 28 "RiverModelModel" "m" "[J") (List.mem_of_getElem? (i := 6) rfl)) (fun _ h9 => h9) rfl dX10_byOpenings_27 ?_
  refine lv_pc (pc2 := 30) rfl ?_
  refine lv_sipush (v := 224) hx hb dX10_byOpenings_30 (by decide) ?_
  refine lv_iload_n hx hb dX10_byOpenings_33 rfl (lv_at hl 5 rfl) ?_
  refine lv_iadd hx hb dX10_byOpenings_34 ?_
  refine lv_topi (fun x_56 e_57 => ?_)
  have i_x_56 : x_56.toInt = 224 + a1.toInt := by rw [e_57]; exact (q_add (by rw [show (224 : Int32).toInt = 224 by decide]; omega) (by rw [show (224 : Int32).toInt = 224 by decide]; omega)).trans (by rw [show (224 : Int32).toInt = 224 by decide])
  refine lv_ldc2 hx hb hown (hts (.constantLong RX10 261 (2)) (List.mem_of_getElem? (i := 7) rfl)) dX10_byOpenings_35 ?_
  refine lv_iload hx hb dX10_byOpenings_38 (lv_at hl 10 rfl) ?_
  refine lv_iload hx hb dX10_byOpenings_40 (lv_at hl 1 rfl) ?_
  refine lv_idiv hx hb dX10_byOpenings_42 (by decide) ?_
  refine lv_topi (fun x_58 e_59 => ?_)
  have i_x_58 : x_58.toInt = a6.toInt / 216 := by rw [e_59]; exact q_divE (n := 216) rfl (by decide) (by omega)
  refine lv_bipush (v := 6) hx hb dX10_byOpenings_43 (by decide) ?_
  refine lv_pc (pc2 := 45) rfl ?_
  refine lv_irem hx hb dX10_byOpenings_45 (by decide) ?_
  refine lv_topi (fun x_60 e_61 => ?_)
  have i_x_60 : x_60.toInt = x_58.toInt % 6 := by rw [e_61]; exact q_remE (n := 6) rfl (by decide) (by omega)
  refine lv_i2l (v := x_60.toInt64) hx hb dX10_byOpenings_46 rfl ?_
  refine lv_lmul hx hb dX10_byOpenings_47 ?_
  refine lv_topl (fun z_62 e_63 => ?_)
  obtain ⟨f_64, at_65, h_66⟩ := mF_o47 hG h_15
  have b_67 : vp_in x_56 280 := (q_in (by omega) (by omega))
  refine ty_last (F2 := (mF cI cL cC gC gE gW gA gT gI gS gM K F S N gH gJ_54 ge gk gf gs gg gr RN)) hx hb hK hG hS 1 at_65 (by rw [h_15]; rfl) rfl b_67 (by rw [h_15]; exact ⟨_, rfl, gHr_ne ⟨by omega, by omega⟩ h_66⟩) tFF dX10_byOpenings_48 (fun H locs hG hS at_68 o_69 => ?_)
  have at_49 := va_at.keptK at_49 o_69 h_15 k_a0 rfl
  refine lv_iload hx hb dX10_byOpenings_49 (lv_at hl 1 rfl) ?_
  refine lv_bipush (v := 6) hx hb dX10_byOpenings_51 (by decide) ?_
  refine lv_idiv hx hb dX10_byOpenings_53 (by decide) ?_
  refine lv_seti (y := 36) (by decide) ?_
  refine lv_istore (lv' := [(11, .int 36), (12, .int 0), (10, .int 1), (8, .long (-1)), (0, .ref a0), (1, .int a1), (2, .int a2), (3, .int a3), (4, .int a4), (5, .long a5), (7, .int a6)]) hx hb dX10_byOpenings_54 hl (by decide) rfl (fun ls hl => ?_)
  refine lv_pc (pc2 := 56) rfl ?_
  refine lv_iconst (v := 0) hx hb dX10_byOpenings_56 (by decide) ?_
  refine lv_istore (lv' := [(13, .int 0), (11, .int 36), (12, .int 0), (10, .int 1), (8, .long (-1)), (0, .ref a0), (1, .int a1), (2, .int a2), (3, .int a3), (4, .int a4), (5, .long a5), (7, .int a6)]) hx hb dX10_byOpenings_57 hl (by decide) rfl (fun ls hl => ?_)
  refine lv_pc (pc2 := 59) rfl ?_
  refine lp_gen (fun WW70 hWW70 => ?_)
  have kx70 : ∀ (yi : Int32) (yb : Int32) (ym : Int64) (hm70 : Int) (H1 : Heap) (locs1 : List Loc) (ls1 : Array Slot), (0 ≤ yi.toInt) → (yi.toInt ≤ a2.toInt) → (0 ≤ hm70) → (hm70 ≤ gH + yi.toInt) → tG D (mF cI cL cC gC gE gW gA gT gI gS gM K F S N hm70 gJ_54 ge gk gf gs gg gr RN) t H1 → tF t wmj s.heap H1 locs1 → lv_has ls1 14 [(13, .int yi), (11, .int 36), (12, .int 0), (10, .int yb), (8, .long ym), (0, .ref a0), (1, .int a1), (2, .int a2), (3, .int a3), (4, .int a4), (5, .long a5), (7, .int a6)] → WW70 H1 locs1 (F0 m 125 ls1 []) := by
    intro yi yb ym hm70 H locs ls v70_0 v70_1 v70_2 v70_3 hG hS hl
    refine (hWW70 _ _ _).mpr ?_
    refine lv_iinc (v := 1) (lv' := [(12, .int 1), (13, .int yi), (11, .int 36), (10, .int yb), (8, .long ym), (0, .ref a0), (1, .int a1), (2, .int a2), (3, .int a3), (4, .int a4), (5, .long a5), (7, .int a6)]) hx hb dX10_byOpenings_125 hl (k := 2) rfl (by decide) (by decide) rfl (fun ls hl => ?_)
    refine lv_goto (tgt := 20) hx hb dX10_byOpenings_128 (by decide) ?_
    refine lv_iload hx hb dX10_byOpenings_20 (lv_at hl 0 rfl) ?_
    refine lv_iconst (v := 4) hx hb dX10_byOpenings_22 (by decide) ?_
    refine lv_icmp_ge (tgt := 131) hx hb dX10_byOpenings_23 (by decide) (fun q => absurd q (by decide)) (fun _ => ?_)
    refine lv_aload_n hx hb dX10_byOpenings_26 rfl (lv_at hl 5 rfl) ?_
    refine lv_pc (pc2 := 27) rfl ?_
    obtain ⟨r_71, v_73, r_74, r_76, r_78, r_80, r_82, r_84, r_86, r_88, r_90, r_92, r_94, r_96, r_98, r_100, r_102, r_104, r_106, r_108, r_110, r_112, r_114, v_116, r_117, at_119, h_72, h_75, h_77, h_79, h_81, h_83, h_85, h_87, h_89, h_91, h_93, h_95, h_97, h_99, h_101, h_103, h_105, h_107, h_109, h_111, h_113, h_115, h_118⟩ := mF_o40 hG k_a0
    refine va_get (D := D) (ci := 9) (v := .ref r_84) (C := RX10) (T := TX10) (N := 36) hx hb hts in10 hown hK (va_one at_119) 0 rfl rfl 10 (by decide) (hts (.fieldLink RX10 28 "RiverModelModel" "m" "[J") (List.mem_of_getElem? (i := 6) rfl)) (fun _ h9 => h9) rfl dX10_byOpenings_27 ?_
    refine lv_sipush (v := 224) hx hb dX10_byOpenings_30 (by decide) ?_
    refine lv_iload_n hx hb dX10_byOpenings_33 rfl (lv_at hl 6 rfl) ?_
    refine lv_iadd hx hb dX10_byOpenings_34 ?_
    refine lv_topi (fun x_120 e_121 => ?_)
    have i_x_120 : x_120.toInt = 224 + a1.toInt := by rw [e_121]; exact (q_add (by rw [show (224 : Int32).toInt = 224 by decide]; omega) (by rw [show (224 : Int32).toInt = 224 by decide]; omega)).trans (by rw [show (224 : Int32).toInt = 224 by decide])
    refine lv_ldc2 hx hb hown (hts (.constantLong RX10 261 (2)) (List.mem_of_getElem? (i := 7) rfl)) dX10_byOpenings_35 ?_
    refine lv_iload hx hb dX10_byOpenings_38 (lv_at hl 11 rfl) ?_
    refine lv_iload hx hb dX10_byOpenings_40 (lv_at hl 2 rfl) ?_
    refine lv_idiv hx hb dX10_byOpenings_42 (by decide) ?_
    refine lv_topi (fun x_122 e_123 => ?_)
    have i_x_122 : x_122.toInt = a6.toInt / 36 := by rw [e_123]; exact q_divE (n := 36) rfl (by decide) (by omega)
    refine lv_pc (pc2 := 43) rfl ?_
    refine lv_bipush (v := 6) hx hb dX10_byOpenings_43 (by decide) ?_
    refine lv_irem hx hb dX10_byOpenings_45 (by decide) ?_
    refine lv_topi (fun x_124 e_125 => ?_)
    have i_x_124 : x_124.toInt = x_122.toInt % 6 := by rw [e_125]; exact q_remE (n := 6) rfl (by decide) (by omega)
    refine lv_i2l (v := x_124.toInt64) hx hb dX10_byOpenings_46 rfl ?_
    refine lv_lmul hx hb dX10_byOpenings_47 ?_
    refine lv_topl (fun z_126 e_127 => ?_)
    obtain ⟨f_128, at_129, h_130⟩ := mF_o47 hG h_85
    have b_131 : vp_in x_120 280 := (q_in (by omega) (by omega))
    refine ty_last (F2 := (mF cI cL cC gC gE gW gA gT gI gS gM K F S N hm70 gJ_54 ge gk gf gs gg gr RN)) hx hb hK hG hS 1 at_129 (by rw [h_85]; rfl) rfl b_131 (by rw [h_85]; exact ⟨_, rfl, gHr_ne ⟨by omega, by omega⟩ h_130⟩) tFF dX10_byOpenings_48 (fun H locs hG hS at_132 o_133 => ?_)
    have at_119 := va_at.keptK at_119 o_133 h_85 k_a0 rfl
    refine lv_iload hx hb dX10_byOpenings_49 (lv_at hl 2 rfl) ?_
    refine lv_bipush (v := 6) hx hb dX10_byOpenings_51 (by decide) ?_
    refine lv_idiv hx hb dX10_byOpenings_53 (by decide) ?_
    refine lv_seti (y := 6) (by decide) ?_
    refine lv_pc (pc2 := 54) rfl ?_
    refine lv_istore (lv' := [(11, .int 6), (12, .int 1), (13, .int yi), (10, .int yb), (8, .long ym), (0, .ref a0), (1, .int a1), (2, .int a2), (3, .int a3), (4, .int a4), (5, .long a5), (7, .int a6)]) hx hb dX10_byOpenings_54 hl (by decide) rfl (fun ls hl => ?_)
    refine lv_iconst (v := 0) hx hb dX10_byOpenings_56 (by decide) ?_
    refine lv_istore (lv' := [(13, .int 0), (11, .int 6), (12, .int 1), (10, .int yb), (8, .long ym), (0, .ref a0), (1, .int a1), (2, .int a2), (3, .int a3), (4, .int a4), (5, .long a5), (7, .int a6)]) hx hb dX10_byOpenings_57 hl (by decide) rfl (fun ls hl => ?_)
    refine lv_pc (pc2 := 59) rfl ?_
    refine lp_gen (fun WW134 hWW134 => ?_)
    have kx134 : ∀ (yi : Int32) (yb : Int32) (ym : Int64) (hm134 : Int) (H1 : Heap) (locs1 : List Loc) (ls1 : Array Slot), (0 ≤ yi.toInt) → (yi.toInt ≤ a2.toInt) → (0 ≤ hm134) → (hm134 ≤ hm70 + yi.toInt) → tG D (mF cI cL cC gC gE gW gA gT gI gS gM K F S N hm134 gJ_54 ge gk gf gs gg gr RN) t H1 → tF t wmj s.heap H1 locs1 → lv_has ls1 14 [(13, .int yi), (11, .int 6), (12, .int 1), (10, .int yb), (8, .long ym), (0, .ref a0), (1, .int a1), (2, .int a2), (3, .int a3), (4, .int a4), (5, .long a5), (7, .int a6)] → WW134 H1 locs1 (F0 m 125 ls1 []) := by
      intro yi yb ym hm134 H locs ls v134_0 v134_1 v134_2 v134_3 hG hS hl
      refine (hWW134 _ _ _).mpr ?_
      refine lv_iinc (v := 2) (lv' := [(12, .int 2), (13, .int yi), (11, .int 6), (10, .int yb), (8, .long ym), (0, .ref a0), (1, .int a1), (2, .int a2), (3, .int a3), (4, .int a4), (5, .long a5), (7, .int a6)]) hx hb dX10_byOpenings_125 hl (k := 2) rfl (by decide) (by decide) rfl (fun ls hl => ?_)
      refine lv_goto (tgt := 20) hx hb dX10_byOpenings_128 (by decide) ?_
      refine lv_iload hx hb dX10_byOpenings_20 (lv_at hl 0 rfl) ?_
      refine lv_iconst (v := 4) hx hb dX10_byOpenings_22 (by decide) ?_
      refine lv_icmp_ge (tgt := 131) hx hb dX10_byOpenings_23 (by decide) (fun q => absurd q (by decide)) (fun _ => ?_)
      refine lv_pc (pc2 := 26) rfl ?_
      refine lv_aload_n hx hb dX10_byOpenings_26 rfl (lv_at hl 5 rfl) ?_
      obtain ⟨r_135, v_137, r_138, r_140, r_142, r_144, r_146, r_148, r_150, r_152, r_154, r_156, r_158, r_160, r_162, r_164, r_166, r_168, r_170, r_172, r_174, r_176, r_178, v_180, r_181, at_183, h_136, h_139, h_141, h_143, h_145, h_147, h_149, h_151, h_153, h_155, h_157, h_159, h_161, h_163, h_165, h_167, h_169, h_171, h_173, h_175, h_177, h_179, h_182⟩ := mF_o40 hG k_a0
      refine va_get (D := D) (ci := 9) (v := .ref r_148) (C := RX10) (T := TX10) (N := 36) hx hb hts in10 hown hK (va_one at_183) 0 rfl rfl 10 (by decide) (hts (.fieldLink RX10 28 "RiverModelModel" "m" "[J") (List.mem_of_getElem? (i := 6) rfl)) (fun _ h9 => h9) rfl dX10_byOpenings_27 ?_
      refine lv_sipush (v := 224) hx hb dX10_byOpenings_30 (by decide) ?_
      refine lv_iload_n hx hb dX10_byOpenings_33 rfl (lv_at hl 6 rfl) ?_
      refine lv_iadd hx hb dX10_byOpenings_34 ?_
      refine lv_topi (fun x_184 e_185 => ?_)
      have i_x_184 : x_184.toInt = 224 + a1.toInt := by rw [e_185]; exact (q_add (by rw [show (224 : Int32).toInt = 224 by decide]; omega) (by rw [show (224 : Int32).toInt = 224 by decide]; omega)).trans (by rw [show (224 : Int32).toInt = 224 by decide])
      refine lv_ldc2 hx hb hown (hts (.constantLong RX10 261 (2)) (List.mem_of_getElem? (i := 7) rfl)) dX10_byOpenings_35 ?_
      refine lv_iload hx hb dX10_byOpenings_38 (lv_at hl 11 rfl) ?_
      refine lv_iload hx hb dX10_byOpenings_40 (lv_at hl 2 rfl) ?_
      refine lv_pc (pc2 := 42) rfl ?_
      refine lv_idiv hx hb dX10_byOpenings_42 (by decide) ?_
      refine lv_topi (fun x_186 e_187 => ?_)
      have i_x_186 : x_186.toInt = a6.toInt / 6 := by rw [e_187]; exact q_divE (n := 6) rfl (by decide) (by omega)
      refine lv_bipush (v := 6) hx hb dX10_byOpenings_43 (by decide) ?_
      refine lv_irem hx hb dX10_byOpenings_45 (by decide) ?_
      refine lv_topi (fun x_188 e_189 => ?_)
      have i_x_188 : x_188.toInt = x_186.toInt % 6 := by rw [e_189]; exact q_remE (n := 6) rfl (by decide) (by omega)
      refine lv_i2l (v := x_188.toInt64) hx hb dX10_byOpenings_46 rfl ?_
      refine lv_lmul hx hb dX10_byOpenings_47 ?_
      refine lv_topl (fun z_190 e_191 => ?_)
      obtain ⟨f_192, at_193, h_194⟩ := mF_o47 hG h_149
      have b_195 : vp_in x_184 280 := (q_in (by omega) (by omega))
      refine ty_last (F2 := (mF cI cL cC gC gE gW gA gT gI gS gM K F S N hm134 gJ_54 ge gk gf gs gg gr RN)) hx hb hK hG hS 1 at_193 (by rw [h_149]; rfl) rfl b_195 (by rw [h_149]; exact ⟨_, rfl, gHr_ne ⟨by omega, by omega⟩ h_194⟩) tFF dX10_byOpenings_48 (fun H locs hG hS at_196 o_197 => ?_)
      have at_183 := va_at.keptK at_183 o_197 h_149 k_a0 rfl
      refine lv_iload hx hb dX10_byOpenings_49 (lv_at hl 2 rfl) ?_
      refine lv_bipush (v := 6) hx hb dX10_byOpenings_51 (by decide) ?_
      refine lv_pc (pc2 := 53) rfl ?_
      refine lv_idiv hx hb dX10_byOpenings_53 (by decide) ?_
      refine lv_seti (y := 1) (by decide) ?_
      refine lv_istore (lv' := [(11, .int 1), (12, .int 2), (13, .int yi), (10, .int yb), (8, .long ym), (0, .ref a0), (1, .int a1), (2, .int a2), (3, .int a3), (4, .int a4), (5, .long a5), (7, .int a6)]) hx hb dX10_byOpenings_54 hl (by decide) rfl (fun ls hl => ?_)
      refine lv_iconst (v := 0) hx hb dX10_byOpenings_56 (by decide) ?_
      refine lv_istore (lv' := [(13, .int 0), (11, .int 1), (12, .int 2), (10, .int yb), (8, .long ym), (0, .ref a0), (1, .int a1), (2, .int a2), (3, .int a3), (4, .int a4), (5, .long a5), (7, .int a6)]) hx hb dX10_byOpenings_57 hl (by decide) rfl (fun ls hl => ?_)
      refine lv_pc (pc2 := 59) rfl ?_
      refine lp_gen (fun WW198 hWW198 => ?_)
      have kx198 : ∀ (yi : Int32) (yb : Int32) (ym : Int64) (hm198 : Int) (H1 : Heap) (locs1 : List Loc) (ls1 : Array Slot), (0 ≤ yi.toInt) → (yi.toInt ≤ a2.toInt) → (0 ≤ hm198) → (hm198 ≤ hm134 + yi.toInt) → tG D (mF cI cL cC gC gE gW gA gT gI gS gM K F S N hm198 gJ_54 ge gk gf gs gg gr RN) t H1 → tF t wmj s.heap H1 locs1 → lv_has ls1 14 [(13, .int yi), (11, .int 1), (12, .int 2), (10, .int yb), (8, .long ym), (0, .ref a0), (1, .int a1), (2, .int a2), (3, .int a3), (4, .int a4), (5, .long a5), (7, .int a6)] → WW198 H1 locs1 (F0 m 125 ls1 []) := by
        intro yi yb ym hm198 H locs ls v198_0 v198_1 v198_2 v198_3 hG hS hl
        refine (hWW198 _ _ _).mpr ?_
        refine lv_iinc (v := 3) (lv' := [(12, .int 3), (13, .int yi), (11, .int 1), (10, .int yb), (8, .long ym), (0, .ref a0), (1, .int a1), (2, .int a2), (3, .int a3), (4, .int a4), (5, .long a5), (7, .int a6)]) hx hb dX10_byOpenings_125 hl (k := 2) rfl (by decide) (by decide) rfl (fun ls hl => ?_)
        refine lv_goto (tgt := 20) hx hb dX10_byOpenings_128 (by decide) ?_
        refine lv_iload hx hb dX10_byOpenings_20 (lv_at hl 0 rfl) ?_
        refine lv_iconst (v := 4) hx hb dX10_byOpenings_22 (by decide) ?_
        refine lv_pc (pc2 := 23) rfl ?_
        refine lv_icmp_ge (tgt := 131) hx hb dX10_byOpenings_23 (by decide) (fun q => absurd q (by decide)) (fun _ => ?_)
        refine lv_aload_n hx hb dX10_byOpenings_26 rfl (lv_at hl 5 rfl) ?_
        obtain ⟨r_199, v_201, r_202, r_204, r_206, r_208, r_210, r_212, r_214, r_216, r_218, r_220, r_222, r_224, r_226, r_228, r_230, r_232, r_234, r_236, r_238, r_240, r_242, v_244, r_245, at_247, h_200, h_203, h_205, h_207, h_209, h_211, h_213, h_215, h_217, h_219, h_221, h_223, h_225, h_227, h_229, h_231, h_233, h_235, h_237, h_239, h_241, h_243, h_246⟩ := mF_o40 hG k_a0
        refine va_get (D := D) (ci := 9) (v := .ref r_212) (C := RX10) (T := TX10) (N := 36) hx hb hts in10 hown hK (va_one at_247) 0 rfl rfl 10 (by decide) (hts (.fieldLink RX10 28 "RiverModelModel" "m" "[J") (List.mem_of_getElem? (i := 6) rfl)) (fun _ h9 => h9) rfl dX10_byOpenings_27 ?_
        refine lv_sipush (v := 224) hx hb dX10_byOpenings_30 (by decide) ?_
        refine lv_iload_n hx hb dX10_byOpenings_33 rfl (lv_at hl 6 rfl) ?_
        refine lv_iadd hx hb dX10_byOpenings_34 ?_
        refine lv_topi (fun x_248 e_249 => ?_)
        have i_x_248 : x_248.toInt = 224 + a1.toInt := by rw [e_249]; exact (q_add (by rw [show (224 : Int32).toInt = 224 by decide]; omega) (by rw [show (224 : Int32).toInt = 224 by decide]; omega)).trans (by rw [show (224 : Int32).toInt = 224 by decide])
        refine lv_ldc2 hx hb hown (hts (.constantLong RX10 261 (2)) (List.mem_of_getElem? (i := 7) rfl)) dX10_byOpenings_35 ?_
        refine lv_iload hx hb dX10_byOpenings_38 (lv_at hl 11 rfl) ?_
        refine lv_pc (pc2 := 40) rfl ?_
        refine lv_iload hx hb dX10_byOpenings_40 (lv_at hl 2 rfl) ?_
        refine lv_idiv hx hb dX10_byOpenings_42 (by decide) ?_
        refine lv_topi (fun x_250 e_251 => ?_)
        have i_x_250 : x_250.toInt = a6.toInt / 1 := by rw [e_251]; exact q_divE (n := 1) rfl (by decide) (by omega)
        refine lv_bipush (v := 6) hx hb dX10_byOpenings_43 (by decide) ?_
        refine lv_irem hx hb dX10_byOpenings_45 (by decide) ?_
        refine lv_topi (fun x_252 e_253 => ?_)
        have i_x_252 : x_252.toInt = x_250.toInt % 6 := by rw [e_253]; exact q_remE (n := 6) rfl (by decide) (by omega)
        refine lv_i2l (v := x_252.toInt64) hx hb dX10_byOpenings_46 rfl ?_
        refine lv_lmul hx hb dX10_byOpenings_47 ?_
        refine lv_topl (fun z_254 e_255 => ?_)
        obtain ⟨f_256, at_257, h_258⟩ := mF_o47 hG h_213
        have b_259 : vp_in x_248 280 := (q_in (by omega) (by omega))
        refine ty_last (F2 := (mF cI cL cC gC gE gW gA gT gI gS gM K F S N hm198 gJ_54 ge gk gf gs gg gr RN)) hx hb hK hG hS 1 at_257 (by rw [h_213]; rfl) rfl b_259 (by rw [h_213]; exact ⟨_, rfl, gHr_ne ⟨by omega, by omega⟩ h_258⟩) tFF dX10_byOpenings_48 (fun H locs hG hS at_260 o_261 => ?_)
        have at_247 := va_at.keptK at_247 o_261 h_213 k_a0 rfl
        refine lv_iload hx hb dX10_byOpenings_49 (lv_at hl 2 rfl) ?_
        refine lv_pc (pc2 := 51) rfl ?_
        refine lv_bipush (v := 6) hx hb dX10_byOpenings_51 (by decide) ?_
        refine lv_idiv hx hb dX10_byOpenings_53 (by decide) ?_
        refine lv_seti (y := 0) (by decide) ?_
        refine lv_istore (lv' := [(11, .int 0), (12, .int 3), (13, .int yi), (10, .int yb), (8, .long ym), (0, .ref a0), (1, .int a1), (2, .int a2), (3, .int a3), (4, .int a4), (5, .long a5), (7, .int a6)]) hx hb dX10_byOpenings_54 hl (by decide) rfl (fun ls hl => ?_)
        refine lv_iconst (v := 0) hx hb dX10_byOpenings_56 (by decide) ?_
        refine lv_istore (lv' := [(13, .int 0), (11, .int 0), (12, .int 3), (10, .int yb), (8, .long ym), (0, .ref a0), (1, .int a1), (2, .int a2), (3, .int a3), (4, .int a4), (5, .long a5), (7, .int a6)]) hx hb dX10_byOpenings_57 hl (by decide) rfl (fun ls hl => ?_)
        refine lv_pc (pc2 := 59) rfl ?_
        refine lp_gen (fun WW262 hWW262 => ?_)
        have kx262 : ∀ (yi : Int32) (yb : Int32) (ym : Int64) (hm262 : Int) (H1 : Heap) (locs1 : List Loc) (ls1 : Array Slot), (0 ≤ yi.toInt) → (yi.toInt ≤ a2.toInt) → (0 ≤ hm262) → (hm262 ≤ hm198 + yi.toInt) → tG D (mF cI cL cC gC gE gW gA gT gI gS gM K F S N hm262 gJ_54 ge gk gf gs gg gr RN) t H1 → tF t wmj s.heap H1 locs1 → lv_has ls1 14 [(13, .int yi), (11, .int 0), (12, .int 3), (10, .int yb), (8, .long ym), (0, .ref a0), (1, .int a1), (2, .int a2), (3, .int a3), (4, .int a4), (5, .long a5), (7, .int a6)] → WW262 H1 locs1 (F0 m 125 ls1 []) := by
          intro yi yb ym hm262 H locs ls v262_0 v262_1 v262_2 v262_3 hG hS hl
          refine (hWW262 _ _ _).mpr ?_
          refine lv_iinc (v := 4) (lv' := [(12, .int 4), (13, .int yi), (11, .int 0), (10, .int yb), (8, .long ym), (0, .ref a0), (1, .int a1), (2, .int a2), (3, .int a3), (4, .int a4), (5, .long a5), (7, .int a6)]) hx hb dX10_byOpenings_125 hl (k := 2) rfl (by decide) (by decide) rfl (fun ls hl => ?_)
          refine lv_goto (tgt := 20) hx hb dX10_byOpenings_128 (by decide) ?_
          refine lv_iload hx hb dX10_byOpenings_20 (lv_at hl 0 rfl) ?_
          refine lv_pc (pc2 := 22) rfl ?_
          refine lv_iconst (v := 4) hx hb dX10_byOpenings_22 (by decide) ?_
          refine lv_icmp_ge (tgt := 131) hx hb dX10_byOpenings_23 (by decide) (fun _ => ?_) (fun q => absurd (by decide) q)
          refine lv_aload_n hx hb dX10_byOpenings_131 rfl (lv_at hl 5 rfl) ?_
          obtain ⟨r_263, v_265, r_266, r_268, r_270, r_272, r_274, r_276, r_278, r_280, r_282, r_284, r_286, r_288, r_290, r_292, r_294, r_296, r_298, r_300, r_302, r_304, r_306, v_308, r_309, at_311, h_264, h_267, h_269, h_271, h_273, h_275, h_277, h_279, h_281, h_283, h_285, h_287, h_289, h_291, h_293, h_295, h_297, h_299, h_301, h_303, h_305, h_307, h_310⟩ := mF_o40 hG k_a0
          refine tx_callv (W.runV (As := []) (rest := []) ⟨hx, hb, hml, hown, hts⟩ (m_X10_returns l D t cI cL cC gC gE gW gA gT gI gS gM K F S N hm262 gJ_54 ge gk gf gs gg gr RN a0  uq  k_a0) (cwV 0 hts gu_X10_byOpenings_X10_returns_277 rfl rfl rfl (by decide +kernel) ⟨Nat.le_of_ble_eq_true rfl, Nat.le_of_ble_eq_true rfl⟩) (tP_V hG hE at_311 rfl) rfl rfl hl.1 rfl (lv_room (Nat.le_of_ble_eq_true rfl)) dX10_byOpenings_132 ⟨Nat.le_of_ble_eq_true rfl, Nat.le_of_ble_eq_true rfl⟩) hS (wrL_sub (by decide)) (fun gH_316 H locs hp_313 hG hS o_314 => ?_)
          have at_311 := va_at.keptC at_311 o_314 k_a0 rfl
          replace hG : tG D (mF cI cL cC gC gE gW gA gT gI gS gM K F S N gH_316 gJ_54 ge gk gf gs gg gr RN) t H := hG
          have hp_313 : gH_316 = gJ_54 := hp_313
          have p_317 := hp_313
          refine lv_iload hx hb dX10_byOpenings_135 (lv_at hl 3 rfl) ?_
          refine lv_if_eq (tgt := 145) hx hb dX10_byOpenings_137 (by decide) (fun c_318 => ?_) (fun c_318 => ?_)
          · skip
            have c_318 : yb.toInt = 0 := q_eq c_318
            refine lv_ldc2 hx hb hown (hts (.constantLong RX10 236 (-1)) (List.mem_of_getElem? (i := 5) rfl)) dX10_byOpenings_145 ?_
            have zl_m1 : ((-1) : Int64).toInt = (-1) := by decide
            exact tx_lret (z := (gH_316, gJ_54)) hx hb hr hlk hG hS (by show gH_316 = gH; omega) dX10_byOpenings_148
          · skip
            have c_318 : yb.toInt ≠ 0 := q_ne c_318
            refine lv_pc (pc2 := 140) rfl ?_
            refine lv_lload hx hb dX10_byOpenings_140 (lv_at hl 4 rfl) ?_
            refine lv_goto (tgt := 148) hx hb dX10_byOpenings_142 (by decide) ?_
            exact tx_lret (z := (gH_316, gJ_54)) hx hb hr hlk hG hS (by show gH_316 = gH; omega) dX10_byOpenings_148
        have lp262 : ∀ (kk262 : Nat) (yi : Int32) (yb : Int32) (ym : Int64) (hm262 : Int) (H1 : Heap) (locs1 : List Loc) (ls1 : Array Slot), a2.toInt - yi.toInt ≤ (kk262 : Int) → (0 ≤ yi.toInt) → (yi.toInt ≤ a2.toInt) → (0 ≤ hm262) → (hm262 ≤ hm198 + yi.toInt) → tG D (mF cI cL cC gC gE gW gA gT gI gS gM K F S N hm262 gJ_54 ge gk gf gs gg gr RN) t H1 → tF t wmj s.heap H1 locs1 → lv_has ls1 14 [(13, .int yi), (11, .int 0), (12, .int 3), (10, .int yb), (8, .long ym), (0, .ref a0), (1, .int a1), (2, .int a2), (3, .int a3), (4, .int a4), (5, .long a5), (7, .int a6)] → WW262 H1 locs1 (F0 m 59 ls1 []) := by
          intro kk262
          induction kk262 with
          | zero =>
            intro yi yb ym hm262 H locs ls hk262 v262_0 v262_1 v262_2 v262_3 hG hS hl
            refine (hWW262 _ _ _).mpr ?_
            refine lv_iload hx hb dX10_byOpenings_59 (lv_at hl 0 rfl) ?_
            refine lv_iload_n hx hb dX10_byOpenings_61 rfl (lv_at hl 7 rfl) ?_
            refine lv_icmp_ge (tgt := 125) hx hb dX10_byOpenings_62 (by decide) (fun c_319 => ?_) (fun c_319 => ?_)
            · skip
              have c_319 : a2.toInt ≤ yi.toInt := q_le c_319
              exact (hWW262 _ _ _).mp (kx262 yi yb ym hm262 H locs ls v262_0 v262_1 v262_2 v262_3 hG hS (lv_sub hl [0, 1, 2, 3, 4, 5, 6, 7, 8, 9, 10, 11] rfl))
            · skip
              have c_319 : yi.toInt < a2.toInt := q_nle c_319
              exfalso; omega
          | succ kk262 ih262 =>
            intro yi yb ym hm262 H locs ls hk262 v262_0 v262_1 v262_2 v262_3 hG hS hl
            refine (hWW262 _ _ _).mpr ?_
            refine lv_iload hx hb dX10_byOpenings_59 (lv_at hl 0 rfl) ?_
            refine lv_iload_n hx hb dX10_byOpenings_61 rfl (lv_at hl 7 rfl) ?_
            refine lv_pc (pc2 := 62) rfl ?_
            refine lv_icmp_ge (tgt := 125) hx hb dX10_byOpenings_62 (by decide) (fun c_320 => ?_) (fun c_320 => ?_)
            · skip
              have c_320 : a2.toInt ≤ yi.toInt := q_le c_320
              exact (hWW262 _ _ _).mp (kx262 yi yb ym hm262 H locs ls v262_0 v262_1 v262_2 v262_3 hG hS (lv_sub hl [0, 1, 2, 3, 4, 5, 6, 7, 8, 9, 10, 11] rfl))
            · skip
              have c_320 : yi.toInt < a2.toInt := q_nle c_320
              refine lv_iload hx hb dX10_byOpenings_65 (lv_at hl 3 rfl) ?_
              refine lv_if_eq (tgt := 125) hx hb dX10_byOpenings_67 (by decide) (fun c_321 => ?_) (fun c_321 => ?_)
              · skip
                have c_321 : yb.toInt = 0 := q_eq c_321
                exact (hWW262 _ _ _).mp (kx262 yi yb ym hm262 H locs ls v262_0 v262_1 v262_2 v262_3 hG hS (lv_sub hl [0, 1, 2, 3, 4, 5, 6, 7, 8, 9, 10, 11] rfl))
              · skip
                have c_321 : yb.toInt ≠ 0 := q_ne c_321
                refine lv_aload_n hx hb dX10_byOpenings_70 rfl (lv_at hl 5 rfl) ?_
                refine lv_iconst (v := 0) hx hb dX10_byOpenings_71 (by decide) ?_
                refine lv_iconst (v := 0) hx hb dX10_byOpenings_72 (by decide) ?_
                have zi_0 : (0 : Int32).toInt = 0 := by decide
                obtain ⟨r_322, v_324, r_325, r_327, r_329, r_331, r_333, r_335, r_337, r_339, r_341, r_343, r_345, r_347, r_349, r_351, r_353, r_355, r_357, r_359, r_361, r_363, r_365, v_367, r_368, at_370, h_323, h_326, h_328, h_330, h_332, h_334, h_336, h_338, h_340, h_342, h_344, h_346, h_348, h_350, h_352, h_354, h_356, h_358, h_360, h_362, h_364, h_366, h_369⟩ := mF_o40 hG k_a0
                refine tx_callv (W.runV (As := [.int 0, .int 0]) (rest := []) ⟨hx, hb, hml, hown, hts⟩ (m_X10_goes l D t cI cL cC gC gE gW gA gT gI gS gM K F S N hm262 gJ_54 ge gk gf gs gg gr RN a0 0 0 0 uq (by omega) (by omega) (by omega) (by omega) (by omega) hO0 (by omega) (by omega) (by omega) (by omega) k_a0) (cwV 2 hts gu_X10_byOpenings_X10_goes_231 rfl rfl rfl (by decide +kernel) ⟨Nat.le_of_ble_eq_true rfl, Nat.le_of_ble_eq_true rfl⟩) (tP_V hG hE at_370 rfl) rfl rfl hl.1 rfl (lv_room (Nat.le_of_ble_eq_true rfl)) dX10_byOpenings_73 ⟨Nat.le_of_ble_eq_true rfl, Nat.le_of_ble_eq_true rfl⟩) hS (wrL_sub (by decide)) (fun gH_375 H locs hp_372 hG hS o_373 => ?_)
                have at_370 := va_at.keptC at_370 o_373 k_a0 rfl
                replace hG : tG D (mF cI cL cC gC gE gW gA gT gI gS gM K F S N gH_375 gJ_54 ge gk gf gs gg gr RN) t H := hG
                have hp_372 : gH_375 = hm262 + 1 := hp_372
                have p_376 := hp_372
                refine lv_aload_n hx hb dX10_byOpenings_76 rfl (lv_at hl 5 rfl) ?_
                refine lv_pc (pc2 := 77) rfl ?_
                refine va_get (D := D) (ci := 9) (v := .ref r_335) (C := RX10) (T := TX10) (N := 36) hx hb hts in10 hown hK (va_one at_370) 0 rfl rfl 10 (by decide) (hts (.fieldLink RX10 28 "RiverModelModel" "m" "[J") (List.mem_of_getElem? (i := 6) rfl)) (fun _ h9 => h9) rfl dX10_byOpenings_77 ?_
                refine lv_iload hx hb dX10_byOpenings_80 (lv_at hl 9 rfl) ?_
                obtain ⟨f_377, at_378, h_379⟩ := mF_o47 hG h_336
                have b_380 : vp_in a4 280 := (q_in (by omega) (by omega))
                refine va_lald hx hb hK (va_one at_378) 0 1 rfl rfl b_380 dX10_byOpenings_82 ?_
                refine lv_topl (fun z_381 e_382 => ?_)
                refine lv_lload hx hb dX10_byOpenings_83 (lv_at hl 10 rfl) ?_
                refine W.lcmp hx hb dX10_byOpenings_85 ?_
                refine lv_if_gt (tgt := 93) hx hb dX10_byOpenings_86 (by decide) (fun c_383 => ?_) (fun c_383 => ?_)
                · skip
                  have c_383 : a5.toInt < z_381.toInt := q_cmp_gt c_383
                  refine lv_iconst (v := 0) hx hb dX10_byOpenings_93 (by decide) ?_
                  refine lv_istore (lv' := [(10, .int 0), (13, .int yi), (11, .int 0), (12, .int 3), (8, .long ym), (0, .ref a0), (1, .int a1), (2, .int a2), (3, .int a3), (4, .int a4), (5, .long a5), (7, .int a6)]) hx hb dX10_byOpenings_94 hl (by decide) rfl (fun ls hl => ?_)
                  refine lv_pc (pc2 := 96) rfl ?_
                  refine lv_aload_n hx hb dX10_byOpenings_96 rfl (lv_at hl 5 rfl) ?_
                  refine lv_iload_n hx hb dX10_byOpenings_97 rfl (lv_at hl 8 rfl) ?_
                  refine ty_calll (W.runV (As := [.int a3]) (rest := []) ⟨hx, hb, hml, hown, hts⟩ (m_X10_reading l D t cI cL cC gC gE gW gA gT gI gS gM K F S N gH_375 gJ_54 ge gk gf gs gg gr RN a0 a3  uq (by omega) (by omega) k_a0) (cwV 1 hts gu_X10_byOpenings_X10_reading_251 rfl rfl rfl (by decide +kernel) ⟨Nat.le_of_ble_eq_true rfl, Nat.le_of_ble_eq_true rfl⟩) (tP_V hG hE at_370 rfl) rfl rfl hl.1 rfl (lv_room (Nat.le_of_ble_eq_true rfl)) dX10_byOpenings_98 ⟨Nat.le_of_ble_eq_true rfl, Nat.le_of_ble_eq_true rfl⟩) hS (fun k h => by simp [wr0] at h) (fun z_384 H locs hp_385 hG hS o_386 => ?_)
                  have at_370 := va_at.keptC at_370 o_386 k_a0 rfl
                  have at_378 := va_at.keptC at_378 o_386 h_336 rfl
                  refine lv_lload hx hb dX10_byOpenings_101 (lv_at hl 4 rfl) ?_
                  refine W.lcmp hx hb dX10_byOpenings_103 ?_
                  refine lv_if_le (tgt := 115) hx hb dX10_byOpenings_104 (by decide) (fun c_388 => ?_) (fun c_388 => ?_)
                  · skip
                    have c_388 : z_384.toInt ≤ ym.toInt := q_cmp_le c_388
                    refine lv_lload hx hb dX10_byOpenings_115 (lv_at hl 4 rfl) ?_
                    refine lv_lstore (lv' := [(8, .long ym), (10, .int 0), (13, .int yi), (11, .int 0), (12, .int 3), (0, .ref a0), (1, .int a1), (2, .int a2), (3, .int a3), (4, .int a4), (5, .long a5), (7, .int a6)]) hx hb dX10_byOpenings_117 hl (by decide) rfl (fun ls hl => ?_)
                    refine lv_pc (pc2 := 119) rfl ?_
                    obtain ⟨x_389, e_390⟩ : ∃ y : Int32, y = yi + Int32.ofInt 1 := ⟨_, rfl⟩
                    have i_x_389 : x_389.toInt = yi.toInt + 1 := by rw [e_390, show Int32.ofInt 1 = 1 by decide]; exact (q_add (by rw [show (1 : Int32).toInt = 1 by decide]; omega) (by rw [show (1 : Int32).toInt = 1 by decide]; omega)).trans (by rw [show (1 : Int32).toInt = 1 by decide])
                    refine lv_iinc (v := x_389) (lv' := [(13, .int x_389), (8, .long ym), (10, .int 0), (11, .int 0), (12, .int 3), (0, .ref a0), (1, .int a1), (2, .int a2), (3, .int a3), (4, .int a4), (5, .long a5), (7, .int a6)]) hx hb dX10_byOpenings_119 hl (k := 2) rfl e_390.symm (by decide) rfl (fun ls hl => ?_)
                    refine lv_goto (tgt := 59) hx hb dX10_byOpenings_122 (by decide) ?_
                    exact (hWW262 _ _ _).mp (ih262 x_389 0 ym gH_375 H locs ls (by omega) (by omega) (by omega) (by omega) (by omega) hG hS (lv_sub hl [0, 3, 4, 2, 1, 5, 6, 7, 8, 9, 10, 11] rfl))
                  · skip
                    have c_388 : ym.toInt < z_384.toInt := q_cmp_nle c_388
                    refine lv_aload_n hx hb dX10_byOpenings_107 rfl (lv_at hl 5 rfl) ?_
                    refine lv_iload_n hx hb dX10_byOpenings_108 rfl (lv_at hl 8 rfl) ?_
                    refine ty_calll (W.runV (As := [.int a3]) (rest := []) ⟨hx, hb, hml, hown, hts⟩ (m_X10_reading l D t cI cL cC gC gE gW gA gT gI gS gM K F S N gH_375 gJ_54 ge gk gf gs gg gr RN a0 a3  uq (by omega) (by omega) k_a0) (cwV 1 hts gu_X10_byOpenings_X10_reading_251 rfl rfl rfl (by decide +kernel) ⟨Nat.le_of_ble_eq_true rfl, Nat.le_of_ble_eq_true rfl⟩) (tP_V hG hE at_370 rfl) rfl rfl hl.1 rfl (lv_room (Nat.le_of_ble_eq_true rfl)) dX10_byOpenings_109 ⟨Nat.le_of_ble_eq_true rfl, Nat.le_of_ble_eq_true rfl⟩) hS (fun k h => by simp [wr0] at h) (fun z_391 H locs hp_392 hG hS o_393 => ?_)
                    have at_370 := va_at.keptC at_370 o_393 k_a0 rfl
                    have at_378 := va_at.keptC at_378 o_393 h_336 rfl
                    refine lv_goto (tgt := 117) hx hb dX10_byOpenings_112 (by decide) ?_
                    refine lv_lstore (lv' := [(8, .long z_391), (10, .int 0), (13, .int yi), (11, .int 0), (12, .int 3), (0, .ref a0), (1, .int a1), (2, .int a2), (3, .int a3), (4, .int a4), (5, .long a5), (7, .int a6)]) hx hb dX10_byOpenings_117 hl (by decide) rfl (fun ls hl => ?_)
                    obtain ⟨x_395, e_396⟩ : ∃ y : Int32, y = yi + Int32.ofInt 1 := ⟨_, rfl⟩
                    have i_x_395 : x_395.toInt = yi.toInt + 1 := by rw [e_396, show Int32.ofInt 1 = 1 by decide]; exact (q_add (by rw [show (1 : Int32).toInt = 1 by decide]; omega) (by rw [show (1 : Int32).toInt = 1 by decide]; omega)).trans (by rw [show (1 : Int32).toInt = 1 by decide])
                    refine lv_iinc (v := x_395) (lv' := [(13, .int x_395), (8, .long z_391), (10, .int 0), (11, .int 0), (12, .int 3), (0, .ref a0), (1, .int a1), (2, .int a2), (3, .int a3), (4, .int a4), (5, .long a5), (7, .int a6)]) hx hb dX10_byOpenings_119 hl (k := 2) rfl e_396.symm (by decide) rfl (fun ls hl => ?_)
                    refine lv_pc (pc2 := 122) rfl ?_
                    refine lv_goto (tgt := 59) hx hb dX10_byOpenings_122 (by decide) ?_
                    exact (hWW262 _ _ _).mp (ih262 x_395 0 z_391 gH_375 H locs ls (by omega) (by omega) (by omega) (by omega) (by omega) hG hS (lv_sub hl [0, 3, 4, 2, 1, 5, 6, 7, 8, 9, 10, 11] rfl))
                · skip
                  have c_383 : z_381.toInt ≤ a5.toInt := q_cmp_ngt c_383
                  refine lv_iconst (v := 1) hx hb dX10_byOpenings_89 (by decide) ?_
                  refine lv_goto (tgt := 94) hx hb dX10_byOpenings_90 (by decide) ?_
                  refine lv_istore (lv' := [(10, .int 1), (13, .int yi), (11, .int 0), (12, .int 3), (8, .long ym), (0, .ref a0), (1, .int a1), (2, .int a2), (3, .int a3), (4, .int a4), (5, .long a5), (7, .int a6)]) hx hb dX10_byOpenings_94 hl (by decide) rfl (fun ls hl => ?_)
                  refine lv_aload_n hx hb dX10_byOpenings_96 rfl (lv_at hl 5 rfl) ?_
                  refine lv_iload_n hx hb dX10_byOpenings_97 rfl (lv_at hl 8 rfl) ?_
                  refine ty_calll (W.runV (As := [.int a3]) (rest := []) ⟨hx, hb, hml, hown, hts⟩ (m_X10_reading l D t cI cL cC gC gE gW gA gT gI gS gM K F S N gH_375 gJ_54 ge gk gf gs gg gr RN a0 a3  uq (by omega) (by omega) k_a0) (cwV 1 hts gu_X10_byOpenings_X10_reading_251 rfl rfl rfl (by decide +kernel) ⟨Nat.le_of_ble_eq_true rfl, Nat.le_of_ble_eq_true rfl⟩) (tP_V hG hE at_370 rfl) rfl rfl hl.1 rfl (lv_room (Nat.le_of_ble_eq_true rfl)) dX10_byOpenings_98 ⟨Nat.le_of_ble_eq_true rfl, Nat.le_of_ble_eq_true rfl⟩) hS (fun k h => by simp [wr0] at h) (fun z_397 H locs hp_398 hG hS o_399 => ?_)
                  have at_370 := va_at.keptC at_370 o_399 k_a0 rfl
                  have at_378 := va_at.keptC at_378 o_399 h_336 rfl
                  refine lv_lload hx hb dX10_byOpenings_101 (lv_at hl 4 rfl) ?_
                  refine lv_pc (pc2 := 103) rfl ?_
                  refine W.lcmp hx hb dX10_byOpenings_103 ?_
                  refine lv_if_le (tgt := 115) hx hb dX10_byOpenings_104 (by decide) (fun c_401 => ?_) (fun c_401 => ?_)
                  · skip
                    have c_401 : z_397.toInt ≤ ym.toInt := q_cmp_le c_401
                    refine lv_lload hx hb dX10_byOpenings_115 (lv_at hl 4 rfl) ?_
                    refine lv_lstore (lv' := [(8, .long ym), (10, .int 1), (13, .int yi), (11, .int 0), (12, .int 3), (0, .ref a0), (1, .int a1), (2, .int a2), (3, .int a3), (4, .int a4), (5, .long a5), (7, .int a6)]) hx hb dX10_byOpenings_117 hl (by decide) rfl (fun ls hl => ?_)
                    obtain ⟨x_402, e_403⟩ : ∃ y : Int32, y = yi + Int32.ofInt 1 := ⟨_, rfl⟩
                    have i_x_402 : x_402.toInt = yi.toInt + 1 := by rw [e_403, show Int32.ofInt 1 = 1 by decide]; exact (q_add (by rw [show (1 : Int32).toInt = 1 by decide]; omega) (by rw [show (1 : Int32).toInt = 1 by decide]; omega)).trans (by rw [show (1 : Int32).toInt = 1 by decide])
                    refine lv_iinc (v := x_402) (lv' := [(13, .int x_402), (8, .long ym), (10, .int 1), (11, .int 0), (12, .int 3), (0, .ref a0), (1, .int a1), (2, .int a2), (3, .int a3), (4, .int a4), (5, .long a5), (7, .int a6)]) hx hb dX10_byOpenings_119 hl (k := 2) rfl e_403.symm (by decide) rfl (fun ls hl => ?_)
                    refine lv_goto (tgt := 59) hx hb dX10_byOpenings_122 (by decide) ?_
                    have zi_1 : (1 : Int32).toInt = 1 := by decide
                    exact (hWW262 _ _ _).mp (ih262 x_402 1 ym gH_375 H locs ls (by omega) (by omega) (by omega) (by omega) (by omega) hG hS (lv_sub hl [0, 3, 4, 2, 1, 5, 6, 7, 8, 9, 10, 11] rfl))
                  · skip
                    have c_401 : ym.toInt < z_397.toInt := q_cmp_nle c_401
                    refine lv_aload_n hx hb dX10_byOpenings_107 rfl (lv_at hl 5 rfl) ?_
                    refine lv_iload_n hx hb dX10_byOpenings_108 rfl (lv_at hl 8 rfl) ?_
                    refine lv_pc (pc2 := 109) rfl ?_
                    refine ty_calll (W.runV (As := [.int a3]) (rest := []) ⟨hx, hb, hml, hown, hts⟩ (m_X10_reading l D t cI cL cC gC gE gW gA gT gI gS gM K F S N gH_375 gJ_54 ge gk gf gs gg gr RN a0 a3  uq (by omega) (by omega) k_a0) (cwV 1 hts gu_X10_byOpenings_X10_reading_251 rfl rfl rfl (by decide +kernel) ⟨Nat.le_of_ble_eq_true rfl, Nat.le_of_ble_eq_true rfl⟩) (tP_V hG hE at_370 rfl) rfl rfl hl.1 rfl (lv_room (Nat.le_of_ble_eq_true rfl)) dX10_byOpenings_109 ⟨Nat.le_of_ble_eq_true rfl, Nat.le_of_ble_eq_true rfl⟩) hS (fun k h => by simp [wr0] at h) (fun z_404 H locs hp_405 hG hS o_406 => ?_)
                    have at_370 := va_at.keptC at_370 o_406 k_a0 rfl
                    have at_378 := va_at.keptC at_378 o_406 h_336 rfl
                    refine lv_goto (tgt := 117) hx hb dX10_byOpenings_112 (by decide) ?_
                    refine lv_lstore (lv' := [(8, .long z_404), (10, .int 1), (13, .int yi), (11, .int 0), (12, .int 3), (0, .ref a0), (1, .int a1), (2, .int a2), (3, .int a3), (4, .int a4), (5, .long a5), (7, .int a6)]) hx hb dX10_byOpenings_117 hl (by decide) rfl (fun ls hl => ?_)
                    obtain ⟨x_408, e_409⟩ : ∃ y : Int32, y = yi + Int32.ofInt 1 := ⟨_, rfl⟩
                    have i_x_408 : x_408.toInt = yi.toInt + 1 := by rw [e_409, show Int32.ofInt 1 = 1 by decide]; exact (q_add (by rw [show (1 : Int32).toInt = 1 by decide]; omega) (by rw [show (1 : Int32).toInt = 1 by decide]; omega)).trans (by rw [show (1 : Int32).toInt = 1 by decide])
                    refine lv_iinc (v := x_408) (lv' := [(13, .int x_408), (8, .long z_404), (10, .int 1), (11, .int 0), (12, .int 3), (0, .ref a0), (1, .int a1), (2, .int a2), (3, .int a3), (4, .int a4), (5, .long a5), (7, .int a6)]) hx hb dX10_byOpenings_119 hl (k := 2) rfl e_409.symm (by decide) rfl (fun ls hl => ?_)
                    refine lv_goto (tgt := 59) hx hb dX10_byOpenings_122 (by decide) ?_
                    have zi_1 : (1 : Int32).toInt = 1 := by decide
                    exact (hWW262 _ _ _).mp (ih262 x_408 1 z_404 gH_375 H locs ls (by omega) (by omega) (by omega) (by omega) (by omega) hG hS (lv_sub hl [0, 3, 4, 2, 1, 5, 6, 7, 8, 9, 10, 11] rfl))
        have zi_0 : (0 : Int32).toInt = 0 := by decide
        exact lp262 (a2.toInt - (0 : Int32).toInt : Int).toNat 0 yb ym hm198 H locs ls (by omega) (by omega) (by omega) (by omega) (by omega) hG hS (lv_sub hl [0, 1, 2, 3, 4, 5, 6, 7, 8, 9, 10, 11] rfl)
      have lp198 : ∀ (kk198 : Nat) (yi : Int32) (yb : Int32) (ym : Int64) (hm198 : Int) (H1 : Heap) (locs1 : List Loc) (ls1 : Array Slot), a2.toInt - yi.toInt ≤ (kk198 : Int) → (0 ≤ yi.toInt) → (yi.toInt ≤ a2.toInt) → (0 ≤ hm198) → (hm198 ≤ hm134 + yi.toInt) → tG D (mF cI cL cC gC gE gW gA gT gI gS gM K F S N hm198 gJ_54 ge gk gf gs gg gr RN) t H1 → tF t wmj s.heap H1 locs1 → lv_has ls1 14 [(13, .int yi), (11, .int 1), (12, .int 2), (10, .int yb), (8, .long ym), (0, .ref a0), (1, .int a1), (2, .int a2), (3, .int a3), (4, .int a4), (5, .long a5), (7, .int a6)] → WW198 H1 locs1 (F0 m 59 ls1 []) := by
        intro kk198
        induction kk198 with
        | zero =>
          intro yi yb ym hm198 H locs ls hk198 v198_0 v198_1 v198_2 v198_3 hG hS hl
          refine (hWW198 _ _ _).mpr ?_
          refine lv_iload hx hb dX10_byOpenings_59 (lv_at hl 0 rfl) ?_
          refine lv_iload_n hx hb dX10_byOpenings_61 rfl (lv_at hl 7 rfl) ?_
          refine lv_icmp_ge (tgt := 125) hx hb dX10_byOpenings_62 (by decide) (fun c_410 => ?_) (fun c_410 => ?_)
          · skip
            have c_410 : a2.toInt ≤ yi.toInt := q_le c_410
            exact (hWW198 _ _ _).mp (kx198 yi yb ym hm198 H locs ls v198_0 v198_1 v198_2 v198_3 hG hS (lv_sub hl [0, 1, 2, 3, 4, 5, 6, 7, 8, 9, 10, 11] rfl))
          · skip
            have c_410 : yi.toInt < a2.toInt := q_nle c_410
            exfalso; omega
        | succ kk198 ih198 =>
          intro yi yb ym hm198 H locs ls hk198 v198_0 v198_1 v198_2 v198_3 hG hS hl
          refine (hWW198 _ _ _).mpr ?_
          refine lv_pc (pc2 := 59) rfl ?_
          refine lv_iload hx hb dX10_byOpenings_59 (lv_at hl 0 rfl) ?_
          refine lv_iload_n hx hb dX10_byOpenings_61 rfl (lv_at hl 7 rfl) ?_
          refine lv_icmp_ge (tgt := 125) hx hb dX10_byOpenings_62 (by decide) (fun c_411 => ?_) (fun c_411 => ?_)
          · skip
            have c_411 : a2.toInt ≤ yi.toInt := q_le c_411
            exact (hWW198 _ _ _).mp (kx198 yi yb ym hm198 H locs ls v198_0 v198_1 v198_2 v198_3 hG hS (lv_sub hl [0, 1, 2, 3, 4, 5, 6, 7, 8, 9, 10, 11] rfl))
          · skip
            have c_411 : yi.toInt < a2.toInt := q_nle c_411
            refine lv_iload hx hb dX10_byOpenings_65 (lv_at hl 3 rfl) ?_
            refine lv_if_eq (tgt := 125) hx hb dX10_byOpenings_67 (by decide) (fun c_412 => ?_) (fun c_412 => ?_)
            · skip
              have c_412 : yb.toInt = 0 := q_eq c_412
              exact (hWW198 _ _ _).mp (kx198 yi yb ym hm198 H locs ls v198_0 v198_1 v198_2 v198_3 hG hS (lv_sub hl [0, 1, 2, 3, 4, 5, 6, 7, 8, 9, 10, 11] rfl))
            · skip
              have c_412 : yb.toInt ≠ 0 := q_ne c_412
              refine lv_aload_n hx hb dX10_byOpenings_70 rfl (lv_at hl 5 rfl) ?_
              refine lv_iconst (v := 0) hx hb dX10_byOpenings_71 (by decide) ?_
              refine lv_iconst (v := 0) hx hb dX10_byOpenings_72 (by decide) ?_
              refine lv_pc (pc2 := 73) rfl ?_
              have zi_0 : (0 : Int32).toInt = 0 := by decide
              obtain ⟨r_413, v_415, r_416, r_418, r_420, r_422, r_424, r_426, r_428, r_430, r_432, r_434, r_436, r_438, r_440, r_442, r_444, r_446, r_448, r_450, r_452, r_454, r_456, v_458, r_459, at_461, h_414, h_417, h_419, h_421, h_423, h_425, h_427, h_429, h_431, h_433, h_435, h_437, h_439, h_441, h_443, h_445, h_447, h_449, h_451, h_453, h_455, h_457, h_460⟩ := mF_o40 hG k_a0
              refine tx_callv (W.runV (As := [.int 0, .int 0]) (rest := []) ⟨hx, hb, hml, hown, hts⟩ (m_X10_goes l D t cI cL cC gC gE gW gA gT gI gS gM K F S N hm198 gJ_54 ge gk gf gs gg gr RN a0 0 0 0 uq (by omega) (by omega) (by omega) (by omega) (by omega) hO0 (by omega) (by omega) (by omega) (by omega) k_a0) (cwV 2 hts gu_X10_byOpenings_X10_goes_231 rfl rfl rfl (by decide +kernel) ⟨Nat.le_of_ble_eq_true rfl, Nat.le_of_ble_eq_true rfl⟩) (tP_V hG hE at_461 rfl) rfl rfl hl.1 rfl (lv_room (Nat.le_of_ble_eq_true rfl)) dX10_byOpenings_73 ⟨Nat.le_of_ble_eq_true rfl, Nat.le_of_ble_eq_true rfl⟩) hS (wrL_sub (by decide)) (fun gH_466 H locs hp_463 hG hS o_464 => ?_)
              have at_461 := va_at.keptC at_461 o_464 k_a0 rfl
              replace hG : tG D (mF cI cL cC gC gE gW gA gT gI gS gM K F S N gH_466 gJ_54 ge gk gf gs gg gr RN) t H := hG
              have hp_463 : gH_466 = hm198 + 1 := hp_463
              have p_467 := hp_463
              refine lv_aload_n hx hb dX10_byOpenings_76 rfl (lv_at hl 5 rfl) ?_
              refine va_get (D := D) (ci := 9) (v := .ref r_426) (C := RX10) (T := TX10) (N := 36) hx hb hts in10 hown hK (va_one at_461) 0 rfl rfl 10 (by decide) (hts (.fieldLink RX10 28 "RiverModelModel" "m" "[J") (List.mem_of_getElem? (i := 6) rfl)) (fun _ h9 => h9) rfl dX10_byOpenings_77 ?_
              refine lv_iload hx hb dX10_byOpenings_80 (lv_at hl 9 rfl) ?_
              obtain ⟨f_468, at_469, h_470⟩ := mF_o47 hG h_427
              have b_471 : vp_in a4 280 := (q_in (by omega) (by omega))
              refine va_lald hx hb hK (va_one at_469) 0 1 rfl rfl b_471 dX10_byOpenings_82 ?_
              refine lv_topl (fun z_472 e_473 => ?_)
              refine lv_lload hx hb dX10_byOpenings_83 (lv_at hl 10 rfl) ?_
              refine W.lcmp hx hb dX10_byOpenings_85 ?_
              refine lv_if_gt (tgt := 93) hx hb dX10_byOpenings_86 (by decide) (fun c_474 => ?_) (fun c_474 => ?_)
              · skip
                have c_474 : a5.toInt < z_472.toInt := q_cmp_gt c_474
                refine lv_pc (pc2 := 93) rfl ?_
                refine lv_iconst (v := 0) hx hb dX10_byOpenings_93 (by decide) ?_
                refine lv_istore (lv' := [(10, .int 0), (13, .int yi), (11, .int 1), (12, .int 2), (8, .long ym), (0, .ref a0), (1, .int a1), (2, .int a2), (3, .int a3), (4, .int a4), (5, .long a5), (7, .int a6)]) hx hb dX10_byOpenings_94 hl (by decide) rfl (fun ls hl => ?_)
                refine lv_aload_n hx hb dX10_byOpenings_96 rfl (lv_at hl 5 rfl) ?_
                refine lv_iload_n hx hb dX10_byOpenings_97 rfl (lv_at hl 8 rfl) ?_
                refine ty_calll (W.runV (As := [.int a3]) (rest := []) ⟨hx, hb, hml, hown, hts⟩ (m_X10_reading l D t cI cL cC gC gE gW gA gT gI gS gM K F S N gH_466 gJ_54 ge gk gf gs gg gr RN a0 a3  uq (by omega) (by omega) k_a0) (cwV 1 hts gu_X10_byOpenings_X10_reading_251 rfl rfl rfl (by decide +kernel) ⟨Nat.le_of_ble_eq_true rfl, Nat.le_of_ble_eq_true rfl⟩) (tP_V hG hE at_461 rfl) rfl rfl hl.1 rfl (lv_room (Nat.le_of_ble_eq_true rfl)) dX10_byOpenings_98 ⟨Nat.le_of_ble_eq_true rfl, Nat.le_of_ble_eq_true rfl⟩) hS (fun k h => by simp [wr0] at h) (fun z_475 H locs hp_476 hG hS o_477 => ?_)
                have at_461 := va_at.keptC at_461 o_477 k_a0 rfl
                have at_469 := va_at.keptC at_469 o_477 h_427 rfl
                refine lv_lload hx hb dX10_byOpenings_101 (lv_at hl 4 rfl) ?_
                refine W.lcmp hx hb dX10_byOpenings_103 ?_
                refine lv_if_le (tgt := 115) hx hb dX10_byOpenings_104 (by decide) (fun c_479 => ?_) (fun c_479 => ?_)
                · skip
                  have c_479 : z_475.toInt ≤ ym.toInt := q_cmp_le c_479
                  refine lv_pc (pc2 := 115) rfl ?_
                  refine lv_lload hx hb dX10_byOpenings_115 (lv_at hl 4 rfl) ?_
                  refine lv_lstore (lv' := [(8, .long ym), (10, .int 0), (13, .int yi), (11, .int 1), (12, .int 2), (0, .ref a0), (1, .int a1), (2, .int a2), (3, .int a3), (4, .int a4), (5, .long a5), (7, .int a6)]) hx hb dX10_byOpenings_117 hl (by decide) rfl (fun ls hl => ?_)
                  obtain ⟨x_480, e_481⟩ : ∃ y : Int32, y = yi + Int32.ofInt 1 := ⟨_, rfl⟩
                  have i_x_480 : x_480.toInt = yi.toInt + 1 := by rw [e_481, show Int32.ofInt 1 = 1 by decide]; exact (q_add (by rw [show (1 : Int32).toInt = 1 by decide]; omega) (by rw [show (1 : Int32).toInt = 1 by decide]; omega)).trans (by rw [show (1 : Int32).toInt = 1 by decide])
                  refine lv_iinc (v := x_480) (lv' := [(13, .int x_480), (8, .long ym), (10, .int 0), (11, .int 1), (12, .int 2), (0, .ref a0), (1, .int a1), (2, .int a2), (3, .int a3), (4, .int a4), (5, .long a5), (7, .int a6)]) hx hb dX10_byOpenings_119 hl (k := 2) rfl e_481.symm (by decide) rfl (fun ls hl => ?_)
                  refine lv_goto (tgt := 59) hx hb dX10_byOpenings_122 (by decide) ?_
                  exact (hWW198 _ _ _).mp (ih198 x_480 0 ym gH_466 H locs ls (by omega) (by omega) (by omega) (by omega) (by omega) hG hS (lv_sub hl [0, 3, 4, 2, 1, 5, 6, 7, 8, 9, 10, 11] rfl))
                · skip
                  have c_479 : ym.toInt < z_475.toInt := q_cmp_nle c_479
                  refine lv_aload_n hx hb dX10_byOpenings_107 rfl (lv_at hl 5 rfl) ?_
                  refine lv_iload_n hx hb dX10_byOpenings_108 rfl (lv_at hl 8 rfl) ?_
                  refine ty_calll (W.runV (As := [.int a3]) (rest := []) ⟨hx, hb, hml, hown, hts⟩ (m_X10_reading l D t cI cL cC gC gE gW gA gT gI gS gM K F S N gH_466 gJ_54 ge gk gf gs gg gr RN a0 a3  uq (by omega) (by omega) k_a0) (cwV 1 hts gu_X10_byOpenings_X10_reading_251 rfl rfl rfl (by decide +kernel) ⟨Nat.le_of_ble_eq_true rfl, Nat.le_of_ble_eq_true rfl⟩) (tP_V hG hE at_461 rfl) rfl rfl hl.1 rfl (lv_room (Nat.le_of_ble_eq_true rfl)) dX10_byOpenings_109 ⟨Nat.le_of_ble_eq_true rfl, Nat.le_of_ble_eq_true rfl⟩) hS (fun k h => by simp [wr0] at h) (fun z_482 H locs hp_483 hG hS o_484 => ?_)
                  have at_461 := va_at.keptC at_461 o_484 k_a0 rfl
                  have at_469 := va_at.keptC at_469 o_484 h_427 rfl
                  refine lv_goto (tgt := 117) hx hb dX10_byOpenings_112 (by decide) ?_
                  refine lv_pc (pc2 := 117) rfl ?_
                  refine lv_lstore (lv' := [(8, .long z_482), (10, .int 0), (13, .int yi), (11, .int 1), (12, .int 2), (0, .ref a0), (1, .int a1), (2, .int a2), (3, .int a3), (4, .int a4), (5, .long a5), (7, .int a6)]) hx hb dX10_byOpenings_117 hl (by decide) rfl (fun ls hl => ?_)
                  obtain ⟨x_486, e_487⟩ : ∃ y : Int32, y = yi + Int32.ofInt 1 := ⟨_, rfl⟩
                  have i_x_486 : x_486.toInt = yi.toInt + 1 := by rw [e_487, show Int32.ofInt 1 = 1 by decide]; exact (q_add (by rw [show (1 : Int32).toInt = 1 by decide]; omega) (by rw [show (1 : Int32).toInt = 1 by decide]; omega)).trans (by rw [show (1 : Int32).toInt = 1 by decide])
                  refine lv_iinc (v := x_486) (lv' := [(13, .int x_486), (8, .long z_482), (10, .int 0), (11, .int 1), (12, .int 2), (0, .ref a0), (1, .int a1), (2, .int a2), (3, .int a3), (4, .int a4), (5, .long a5), (7, .int a6)]) hx hb dX10_byOpenings_119 hl (k := 2) rfl e_487.symm (by decide) rfl (fun ls hl => ?_)
                  refine lv_goto (tgt := 59) hx hb dX10_byOpenings_122 (by decide) ?_
                  exact (hWW198 _ _ _).mp (ih198 x_486 0 z_482 gH_466 H locs ls (by omega) (by omega) (by omega) (by omega) (by omega) hG hS (lv_sub hl [0, 3, 4, 2, 1, 5, 6, 7, 8, 9, 10, 11] rfl))
              · skip
                have c_474 : z_472.toInt ≤ a5.toInt := q_cmp_ngt c_474
                refine lv_iconst (v := 1) hx hb dX10_byOpenings_89 (by decide) ?_
                refine lv_goto (tgt := 94) hx hb dX10_byOpenings_90 (by decide) ?_
                refine lv_istore (lv' := [(10, .int 1), (13, .int yi), (11, .int 1), (12, .int 2), (8, .long ym), (0, .ref a0), (1, .int a1), (2, .int a2), (3, .int a3), (4, .int a4), (5, .long a5), (7, .int a6)]) hx hb dX10_byOpenings_94 hl (by decide) rfl (fun ls hl => ?_)
                refine lv_aload_n hx hb dX10_byOpenings_96 rfl (lv_at hl 5 rfl) ?_
                refine lv_iload_n hx hb dX10_byOpenings_97 rfl (lv_at hl 8 rfl) ?_
                refine lv_pc (pc2 := 98) rfl ?_
                refine ty_calll (W.runV (As := [.int a3]) (rest := []) ⟨hx, hb, hml, hown, hts⟩ (m_X10_reading l D t cI cL cC gC gE gW gA gT gI gS gM K F S N gH_466 gJ_54 ge gk gf gs gg gr RN a0 a3  uq (by omega) (by omega) k_a0) (cwV 1 hts gu_X10_byOpenings_X10_reading_251 rfl rfl rfl (by decide +kernel) ⟨Nat.le_of_ble_eq_true rfl, Nat.le_of_ble_eq_true rfl⟩) (tP_V hG hE at_461 rfl) rfl rfl hl.1 rfl (lv_room (Nat.le_of_ble_eq_true rfl)) dX10_byOpenings_98 ⟨Nat.le_of_ble_eq_true rfl, Nat.le_of_ble_eq_true rfl⟩) hS (fun k h => by simp [wr0] at h) (fun z_488 H locs hp_489 hG hS o_490 => ?_)
                have at_461 := va_at.keptC at_461 o_490 k_a0 rfl
                have at_469 := va_at.keptC at_469 o_490 h_427 rfl
                refine lv_lload hx hb dX10_byOpenings_101 (lv_at hl 4 rfl) ?_
                refine W.lcmp hx hb dX10_byOpenings_103 ?_
                refine lv_if_le (tgt := 115) hx hb dX10_byOpenings_104 (by decide) (fun c_492 => ?_) (fun c_492 => ?_)
                · skip
                  have c_492 : z_488.toInt ≤ ym.toInt := q_cmp_le c_492
                  refine lv_lload hx hb dX10_byOpenings_115 (lv_at hl 4 rfl) ?_
                  refine lv_lstore (lv' := [(8, .long ym), (10, .int 1), (13, .int yi), (11, .int 1), (12, .int 2), (0, .ref a0), (1, .int a1), (2, .int a2), (3, .int a3), (4, .int a4), (5, .long a5), (7, .int a6)]) hx hb dX10_byOpenings_117 hl (by decide) rfl (fun ls hl => ?_)
                  obtain ⟨x_493, e_494⟩ : ∃ y : Int32, y = yi + Int32.ofInt 1 := ⟨_, rfl⟩
                  have i_x_493 : x_493.toInt = yi.toInt + 1 := by rw [e_494, show Int32.ofInt 1 = 1 by decide]; exact (q_add (by rw [show (1 : Int32).toInt = 1 by decide]; omega) (by rw [show (1 : Int32).toInt = 1 by decide]; omega)).trans (by rw [show (1 : Int32).toInt = 1 by decide])
                  refine lv_iinc (v := x_493) (lv' := [(13, .int x_493), (8, .long ym), (10, .int 1), (11, .int 1), (12, .int 2), (0, .ref a0), (1, .int a1), (2, .int a2), (3, .int a3), (4, .int a4), (5, .long a5), (7, .int a6)]) hx hb dX10_byOpenings_119 hl (k := 2) rfl e_494.symm (by decide) rfl (fun ls hl => ?_)
                  refine lv_goto (tgt := 59) hx hb dX10_byOpenings_122 (by decide) ?_
                  have zi_1 : (1 : Int32).toInt = 1 := by decide
                  exact (hWW198 _ _ _).mp (ih198 x_493 1 ym gH_466 H locs ls (by omega) (by omega) (by omega) (by omega) (by omega) hG hS (lv_sub hl [0, 3, 4, 2, 1, 5, 6, 7, 8, 9, 10, 11] rfl))
                · skip
                  have c_492 : ym.toInt < z_488.toInt := q_cmp_nle c_492
                  refine lv_pc (pc2 := 107) rfl ?_
                  refine lv_aload_n hx hb dX10_byOpenings_107 rfl (lv_at hl 5 rfl) ?_
                  refine lv_iload_n hx hb dX10_byOpenings_108 rfl (lv_at hl 8 rfl) ?_
                  refine ty_calll (W.runV (As := [.int a3]) (rest := []) ⟨hx, hb, hml, hown, hts⟩ (m_X10_reading l D t cI cL cC gC gE gW gA gT gI gS gM K F S N gH_466 gJ_54 ge gk gf gs gg gr RN a0 a3  uq (by omega) (by omega) k_a0) (cwV 1 hts gu_X10_byOpenings_X10_reading_251 rfl rfl rfl (by decide +kernel) ⟨Nat.le_of_ble_eq_true rfl, Nat.le_of_ble_eq_true rfl⟩) (tP_V hG hE at_461 rfl) rfl rfl hl.1 rfl (lv_room (Nat.le_of_ble_eq_true rfl)) dX10_byOpenings_109 ⟨Nat.le_of_ble_eq_true rfl, Nat.le_of_ble_eq_true rfl⟩) hS (fun k h => by simp [wr0] at h) (fun z_495 H locs hp_496 hG hS o_497 => ?_)
                  have at_461 := va_at.keptC at_461 o_497 k_a0 rfl
                  have at_469 := va_at.keptC at_469 o_497 h_427 rfl
                  refine lv_goto (tgt := 117) hx hb dX10_byOpenings_112 (by decide) ?_
                  refine lv_lstore (lv' := [(8, .long z_495), (10, .int 1), (13, .int yi), (11, .int 1), (12, .int 2), (0, .ref a0), (1, .int a1), (2, .int a2), (3, .int a3), (4, .int a4), (5, .long a5), (7, .int a6)]) hx hb dX10_byOpenings_117 hl (by decide) rfl (fun ls hl => ?_)
                  obtain ⟨x_499, e_500⟩ : ∃ y : Int32, y = yi + Int32.ofInt 1 := ⟨_, rfl⟩
                  have i_x_499 : x_499.toInt = yi.toInt + 1 := by rw [e_500, show Int32.ofInt 1 = 1 by decide]; exact (q_add (by rw [show (1 : Int32).toInt = 1 by decide]; omega) (by rw [show (1 : Int32).toInt = 1 by decide]; omega)).trans (by rw [show (1 : Int32).toInt = 1 by decide])
                  refine lv_iinc (v := x_499) (lv' := [(13, .int x_499), (8, .long z_495), (10, .int 1), (11, .int 1), (12, .int 2), (0, .ref a0), (1, .int a1), (2, .int a2), (3, .int a3), (4, .int a4), (5, .long a5), (7, .int a6)]) hx hb dX10_byOpenings_119 hl (k := 2) rfl e_500.symm (by decide) rfl (fun ls hl => ?_)
                  refine lv_goto (tgt := 59) hx hb dX10_byOpenings_122 (by decide) ?_
                  have zi_1 : (1 : Int32).toInt = 1 := by decide
                  exact (hWW198 _ _ _).mp (ih198 x_499 1 z_495 gH_466 H locs ls (by omega) (by omega) (by omega) (by omega) (by omega) hG hS (lv_sub hl [0, 3, 4, 2, 1, 5, 6, 7, 8, 9, 10, 11] rfl))
      have zi_0 : (0 : Int32).toInt = 0 := by decide
      exact lp198 (a2.toInt - (0 : Int32).toInt : Int).toNat 0 yb ym hm134 H locs ls (by omega) (by omega) (by omega) (by omega) (by omega) hG hS (lv_sub hl [0, 1, 2, 3, 4, 5, 6, 7, 8, 9, 10, 11] rfl)
    have lp134 : ∀ (kk134 : Nat) (yi : Int32) (yb : Int32) (ym : Int64) (hm134 : Int) (H1 : Heap) (locs1 : List Loc) (ls1 : Array Slot), a2.toInt - yi.toInt ≤ (kk134 : Int) → (0 ≤ yi.toInt) → (yi.toInt ≤ a2.toInt) → (0 ≤ hm134) → (hm134 ≤ hm70 + yi.toInt) → tG D (mF cI cL cC gC gE gW gA gT gI gS gM K F S N hm134 gJ_54 ge gk gf gs gg gr RN) t H1 → tF t wmj s.heap H1 locs1 → lv_has ls1 14 [(13, .int yi), (11, .int 6), (12, .int 1), (10, .int yb), (8, .long ym), (0, .ref a0), (1, .int a1), (2, .int a2), (3, .int a3), (4, .int a4), (5, .long a5), (7, .int a6)] → WW134 H1 locs1 (F0 m 59 ls1 []) := by
      intro kk134
      induction kk134 with
      | zero =>
        intro yi yb ym hm134 H locs ls hk134 v134_0 v134_1 v134_2 v134_3 hG hS hl
        refine (hWW134 _ _ _).mpr ?_
        refine lv_iload hx hb dX10_byOpenings_59 (lv_at hl 0 rfl) ?_
        refine lv_pc (pc2 := 61) rfl ?_
        refine lv_iload_n hx hb dX10_byOpenings_61 rfl (lv_at hl 7 rfl) ?_
        refine lv_icmp_ge (tgt := 125) hx hb dX10_byOpenings_62 (by decide) (fun c_501 => ?_) (fun c_501 => ?_)
        · skip
          have c_501 : a2.toInt ≤ yi.toInt := q_le c_501
          exact (hWW134 _ _ _).mp (kx134 yi yb ym hm134 H locs ls v134_0 v134_1 v134_2 v134_3 hG hS (lv_sub hl [0, 1, 2, 3, 4, 5, 6, 7, 8, 9, 10, 11] rfl))
        · skip
          have c_501 : yi.toInt < a2.toInt := q_nle c_501
          exfalso; omega
      | succ kk134 ih134 =>
        intro yi yb ym hm134 H locs ls hk134 v134_0 v134_1 v134_2 v134_3 hG hS hl
        refine (hWW134 _ _ _).mpr ?_
        refine lv_iload hx hb dX10_byOpenings_59 (lv_at hl 0 rfl) ?_
        refine lv_iload_n hx hb dX10_byOpenings_61 rfl (lv_at hl 7 rfl) ?_
        refine lv_icmp_ge (tgt := 125) hx hb dX10_byOpenings_62 (by decide) (fun c_502 => ?_) (fun c_502 => ?_)
        · skip
          have c_502 : a2.toInt ≤ yi.toInt := q_le c_502
          exact (hWW134 _ _ _).mp (kx134 yi yb ym hm134 H locs ls v134_0 v134_1 v134_2 v134_3 hG hS (lv_sub hl [0, 1, 2, 3, 4, 5, 6, 7, 8, 9, 10, 11] rfl))
        · skip
          have c_502 : yi.toInt < a2.toInt := q_nle c_502
          refine lv_iload hx hb dX10_byOpenings_65 (lv_at hl 3 rfl) ?_
          refine lv_if_eq (tgt := 125) hx hb dX10_byOpenings_67 (by decide) (fun c_503 => ?_) (fun c_503 => ?_)
          · skip
            have c_503 : yb.toInt = 0 := q_eq c_503
            exact (hWW134 _ _ _).mp (kx134 yi yb ym hm134 H locs ls v134_0 v134_1 v134_2 v134_3 hG hS (lv_sub hl [0, 1, 2, 3, 4, 5, 6, 7, 8, 9, 10, 11] rfl))
          · skip
            have c_503 : yb.toInt ≠ 0 := q_ne c_503
            refine lv_aload_n hx hb dX10_byOpenings_70 rfl (lv_at hl 5 rfl) ?_
            refine lv_pc (pc2 := 71) rfl ?_
            refine lv_iconst (v := 0) hx hb dX10_byOpenings_71 (by decide) ?_
            refine lv_iconst (v := 0) hx hb dX10_byOpenings_72 (by decide) ?_
            have zi_0 : (0 : Int32).toInt = 0 := by decide
            obtain ⟨r_504, v_506, r_507, r_509, r_511, r_513, r_515, r_517, r_519, r_521, r_523, r_525, r_527, r_529, r_531, r_533, r_535, r_537, r_539, r_541, r_543, r_545, r_547, v_549, r_550, at_552, h_505, h_508, h_510, h_512, h_514, h_516, h_518, h_520, h_522, h_524, h_526, h_528, h_530, h_532, h_534, h_536, h_538, h_540, h_542, h_544, h_546, h_548, h_551⟩ := mF_o40 hG k_a0
            refine tx_callv (W.runV (As := [.int 0, .int 0]) (rest := []) ⟨hx, hb, hml, hown, hts⟩ (m_X10_goes l D t cI cL cC gC gE gW gA gT gI gS gM K F S N hm134 gJ_54 ge gk gf gs gg gr RN a0 0 0 0 uq (by omega) (by omega) (by omega) (by omega) (by omega) hO0 (by omega) (by omega) (by omega) (by omega) k_a0) (cwV 2 hts gu_X10_byOpenings_X10_goes_231 rfl rfl rfl (by decide +kernel) ⟨Nat.le_of_ble_eq_true rfl, Nat.le_of_ble_eq_true rfl⟩) (tP_V hG hE at_552 rfl) rfl rfl hl.1 rfl (lv_room (Nat.le_of_ble_eq_true rfl)) dX10_byOpenings_73 ⟨Nat.le_of_ble_eq_true rfl, Nat.le_of_ble_eq_true rfl⟩) hS (wrL_sub (by decide)) (fun gH_557 H locs hp_554 hG hS o_555 => ?_)
            have at_552 := va_at.keptC at_552 o_555 k_a0 rfl
            replace hG : tG D (mF cI cL cC gC gE gW gA gT gI gS gM K F S N gH_557 gJ_54 ge gk gf gs gg gr RN) t H := hG
            have hp_554 : gH_557 = hm134 + 1 := hp_554
            have p_558 := hp_554
            refine lv_aload_n hx hb dX10_byOpenings_76 rfl (lv_at hl 5 rfl) ?_
            refine va_get (D := D) (ci := 9) (v := .ref r_517) (C := RX10) (T := TX10) (N := 36) hx hb hts in10 hown hK (va_one at_552) 0 rfl rfl 10 (by decide) (hts (.fieldLink RX10 28 "RiverModelModel" "m" "[J") (List.mem_of_getElem? (i := 6) rfl)) (fun _ h9 => h9) rfl dX10_byOpenings_77 ?_
            refine lv_iload hx hb dX10_byOpenings_80 (lv_at hl 9 rfl) ?_
            obtain ⟨f_559, at_560, h_561⟩ := mF_o47 hG h_518
            have b_562 : vp_in a4 280 := (q_in (by omega) (by omega))
            refine va_lald hx hb hK (va_one at_560) 0 1 rfl rfl b_562 dX10_byOpenings_82 ?_
            refine lv_topl (fun z_563 e_564 => ?_)
            refine lv_lload hx hb dX10_byOpenings_83 (lv_at hl 10 rfl) ?_
            refine lv_pc (pc2 := 85) rfl ?_
            refine W.lcmp hx hb dX10_byOpenings_85 ?_
            refine lv_if_gt (tgt := 93) hx hb dX10_byOpenings_86 (by decide) (fun c_565 => ?_) (fun c_565 => ?_)
            · skip
              have c_565 : a5.toInt < z_563.toInt := q_cmp_gt c_565
              refine lv_iconst (v := 0) hx hb dX10_byOpenings_93 (by decide) ?_
              refine lv_istore (lv' := [(10, .int 0), (13, .int yi), (11, .int 6), (12, .int 1), (8, .long ym), (0, .ref a0), (1, .int a1), (2, .int a2), (3, .int a3), (4, .int a4), (5, .long a5), (7, .int a6)]) hx hb dX10_byOpenings_94 hl (by decide) rfl (fun ls hl => ?_)
              refine lv_aload_n hx hb dX10_byOpenings_96 rfl (lv_at hl 5 rfl) ?_
              refine lv_iload_n hx hb dX10_byOpenings_97 rfl (lv_at hl 8 rfl) ?_
              refine ty_calll (W.runV (As := [.int a3]) (rest := []) ⟨hx, hb, hml, hown, hts⟩ (m_X10_reading l D t cI cL cC gC gE gW gA gT gI gS gM K F S N gH_557 gJ_54 ge gk gf gs gg gr RN a0 a3  uq (by omega) (by omega) k_a0) (cwV 1 hts gu_X10_byOpenings_X10_reading_251 rfl rfl rfl (by decide +kernel) ⟨Nat.le_of_ble_eq_true rfl, Nat.le_of_ble_eq_true rfl⟩) (tP_V hG hE at_552 rfl) rfl rfl hl.1 rfl (lv_room (Nat.le_of_ble_eq_true rfl)) dX10_byOpenings_98 ⟨Nat.le_of_ble_eq_true rfl, Nat.le_of_ble_eq_true rfl⟩) hS (fun k h => by simp [wr0] at h) (fun z_566 H locs hp_567 hG hS o_568 => ?_)
              have at_552 := va_at.keptC at_552 o_568 k_a0 rfl
              have at_560 := va_at.keptC at_560 o_568 h_518 rfl
              refine lv_lload hx hb dX10_byOpenings_101 (lv_at hl 4 rfl) ?_
              refine lv_pc (pc2 := 103) rfl ?_
              refine W.lcmp hx hb dX10_byOpenings_103 ?_
              refine lv_if_le (tgt := 115) hx hb dX10_byOpenings_104 (by decide) (fun c_570 => ?_) (fun c_570 => ?_)
              · skip
                have c_570 : z_566.toInt ≤ ym.toInt := q_cmp_le c_570
                refine lv_lload hx hb dX10_byOpenings_115 (lv_at hl 4 rfl) ?_
                refine lv_lstore (lv' := [(8, .long ym), (10, .int 0), (13, .int yi), (11, .int 6), (12, .int 1), (0, .ref a0), (1, .int a1), (2, .int a2), (3, .int a3), (4, .int a4), (5, .long a5), (7, .int a6)]) hx hb dX10_byOpenings_117 hl (by decide) rfl (fun ls hl => ?_)
                obtain ⟨x_571, e_572⟩ : ∃ y : Int32, y = yi + Int32.ofInt 1 := ⟨_, rfl⟩
                have i_x_571 : x_571.toInt = yi.toInt + 1 := by rw [e_572, show Int32.ofInt 1 = 1 by decide]; exact (q_add (by rw [show (1 : Int32).toInt = 1 by decide]; omega) (by rw [show (1 : Int32).toInt = 1 by decide]; omega)).trans (by rw [show (1 : Int32).toInt = 1 by decide])
                refine lv_iinc (v := x_571) (lv' := [(13, .int x_571), (8, .long ym), (10, .int 0), (11, .int 6), (12, .int 1), (0, .ref a0), (1, .int a1), (2, .int a2), (3, .int a3), (4, .int a4), (5, .long a5), (7, .int a6)]) hx hb dX10_byOpenings_119 hl (k := 2) rfl e_572.symm (by decide) rfl (fun ls hl => ?_)
                refine lv_goto (tgt := 59) hx hb dX10_byOpenings_122 (by decide) ?_
                exact (hWW134 _ _ _).mp (ih134 x_571 0 ym gH_557 H locs ls (by omega) (by omega) (by omega) (by omega) (by omega) hG hS (lv_sub hl [0, 3, 4, 2, 1, 5, 6, 7, 8, 9, 10, 11] rfl))
              · skip
                have c_570 : ym.toInt < z_566.toInt := q_cmp_nle c_570
                refine lv_aload_n hx hb dX10_byOpenings_107 rfl (lv_at hl 5 rfl) ?_
                refine lv_iload_n hx hb dX10_byOpenings_108 rfl (lv_at hl 8 rfl) ?_
                refine lv_pc (pc2 := 109) rfl ?_
                refine ty_calll (W.runV (As := [.int a3]) (rest := []) ⟨hx, hb, hml, hown, hts⟩ (m_X10_reading l D t cI cL cC gC gE gW gA gT gI gS gM K F S N gH_557 gJ_54 ge gk gf gs gg gr RN a0 a3  uq (by omega) (by omega) k_a0) (cwV 1 hts gu_X10_byOpenings_X10_reading_251 rfl rfl rfl (by decide +kernel) ⟨Nat.le_of_ble_eq_true rfl, Nat.le_of_ble_eq_true rfl⟩) (tP_V hG hE at_552 rfl) rfl rfl hl.1 rfl (lv_room (Nat.le_of_ble_eq_true rfl)) dX10_byOpenings_109 ⟨Nat.le_of_ble_eq_true rfl, Nat.le_of_ble_eq_true rfl⟩) hS (fun k h => by simp [wr0] at h) (fun z_573 H locs hp_574 hG hS o_575 => ?_)
                have at_552 := va_at.keptC at_552 o_575 k_a0 rfl
                have at_560 := va_at.keptC at_560 o_575 h_518 rfl
                refine lv_goto (tgt := 117) hx hb dX10_byOpenings_112 (by decide) ?_
                refine lv_lstore (lv' := [(8, .long z_573), (10, .int 0), (13, .int yi), (11, .int 6), (12, .int 1), (0, .ref a0), (1, .int a1), (2, .int a2), (3, .int a3), (4, .int a4), (5, .long a5), (7, .int a6)]) hx hb dX10_byOpenings_117 hl (by decide) rfl (fun ls hl => ?_)
                obtain ⟨x_577, e_578⟩ : ∃ y : Int32, y = yi + Int32.ofInt 1 := ⟨_, rfl⟩
                have i_x_577 : x_577.toInt = yi.toInt + 1 := by rw [e_578, show Int32.ofInt 1 = 1 by decide]; exact (q_add (by rw [show (1 : Int32).toInt = 1 by decide]; omega) (by rw [show (1 : Int32).toInt = 1 by decide]; omega)).trans (by rw [show (1 : Int32).toInt = 1 by decide])
                refine lv_iinc (v := x_577) (lv' := [(13, .int x_577), (8, .long z_573), (10, .int 0), (11, .int 6), (12, .int 1), (0, .ref a0), (1, .int a1), (2, .int a2), (3, .int a3), (4, .int a4), (5, .long a5), (7, .int a6)]) hx hb dX10_byOpenings_119 hl (k := 2) rfl e_578.symm (by decide) rfl (fun ls hl => ?_)
                refine lv_goto (tgt := 59) hx hb dX10_byOpenings_122 (by decide) ?_
                exact (hWW134 _ _ _).mp (ih134 x_577 0 z_573 gH_557 H locs ls (by omega) (by omega) (by omega) (by omega) (by omega) hG hS (lv_sub hl [0, 3, 4, 2, 1, 5, 6, 7, 8, 9, 10, 11] rfl))
            · skip
              have c_565 : z_563.toInt ≤ a5.toInt := q_cmp_ngt c_565
              refine lv_iconst (v := 1) hx hb dX10_byOpenings_89 (by decide) ?_
              refine lv_goto (tgt := 94) hx hb dX10_byOpenings_90 (by decide) ?_
              refine lv_istore (lv' := [(10, .int 1), (13, .int yi), (11, .int 6), (12, .int 1), (8, .long ym), (0, .ref a0), (1, .int a1), (2, .int a2), (3, .int a3), (4, .int a4), (5, .long a5), (7, .int a6)]) hx hb dX10_byOpenings_94 hl (by decide) rfl (fun ls hl => ?_)
              refine lv_pc (pc2 := 96) rfl ?_
              refine lv_aload_n hx hb dX10_byOpenings_96 rfl (lv_at hl 5 rfl) ?_
              refine lv_iload_n hx hb dX10_byOpenings_97 rfl (lv_at hl 8 rfl) ?_
              refine ty_calll (W.runV (As := [.int a3]) (rest := []) ⟨hx, hb, hml, hown, hts⟩ (m_X10_reading l D t cI cL cC gC gE gW gA gT gI gS gM K F S N gH_557 gJ_54 ge gk gf gs gg gr RN a0 a3  uq (by omega) (by omega) k_a0) (cwV 1 hts gu_X10_byOpenings_X10_reading_251 rfl rfl rfl (by decide +kernel) ⟨Nat.le_of_ble_eq_true rfl, Nat.le_of_ble_eq_true rfl⟩) (tP_V hG hE at_552 rfl) rfl rfl hl.1 rfl (lv_room (Nat.le_of_ble_eq_true rfl)) dX10_byOpenings_98 ⟨Nat.le_of_ble_eq_true rfl, Nat.le_of_ble_eq_true rfl⟩) hS (fun k h => by simp [wr0] at h) (fun z_579 H locs hp_580 hG hS o_581 => ?_)
              have at_552 := va_at.keptC at_552 o_581 k_a0 rfl
              have at_560 := va_at.keptC at_560 o_581 h_518 rfl
              refine lv_lload hx hb dX10_byOpenings_101 (lv_at hl 4 rfl) ?_
              refine W.lcmp hx hb dX10_byOpenings_103 ?_
              refine lv_if_le (tgt := 115) hx hb dX10_byOpenings_104 (by decide) (fun c_583 => ?_) (fun c_583 => ?_)
              · skip
                have c_583 : z_579.toInt ≤ ym.toInt := q_cmp_le c_583
                refine lv_lload hx hb dX10_byOpenings_115 (lv_at hl 4 rfl) ?_
                refine lv_lstore (lv' := [(8, .long ym), (10, .int 1), (13, .int yi), (11, .int 6), (12, .int 1), (0, .ref a0), (1, .int a1), (2, .int a2), (3, .int a3), (4, .int a4), (5, .long a5), (7, .int a6)]) hx hb dX10_byOpenings_117 hl (by decide) rfl (fun ls hl => ?_)
                refine lv_pc (pc2 := 119) rfl ?_
                obtain ⟨x_584, e_585⟩ : ∃ y : Int32, y = yi + Int32.ofInt 1 := ⟨_, rfl⟩
                have i_x_584 : x_584.toInt = yi.toInt + 1 := by rw [e_585, show Int32.ofInt 1 = 1 by decide]; exact (q_add (by rw [show (1 : Int32).toInt = 1 by decide]; omega) (by rw [show (1 : Int32).toInt = 1 by decide]; omega)).trans (by rw [show (1 : Int32).toInt = 1 by decide])
                refine lv_iinc (v := x_584) (lv' := [(13, .int x_584), (8, .long ym), (10, .int 1), (11, .int 6), (12, .int 1), (0, .ref a0), (1, .int a1), (2, .int a2), (3, .int a3), (4, .int a4), (5, .long a5), (7, .int a6)]) hx hb dX10_byOpenings_119 hl (k := 2) rfl e_585.symm (by decide) rfl (fun ls hl => ?_)
                refine lv_goto (tgt := 59) hx hb dX10_byOpenings_122 (by decide) ?_
                have zi_1 : (1 : Int32).toInt = 1 := by decide
                exact (hWW134 _ _ _).mp (ih134 x_584 1 ym gH_557 H locs ls (by omega) (by omega) (by omega) (by omega) (by omega) hG hS (lv_sub hl [0, 3, 4, 2, 1, 5, 6, 7, 8, 9, 10, 11] rfl))
              · skip
                have c_583 : ym.toInt < z_579.toInt := q_cmp_nle c_583
                refine lv_aload_n hx hb dX10_byOpenings_107 rfl (lv_at hl 5 rfl) ?_
                refine lv_iload_n hx hb dX10_byOpenings_108 rfl (lv_at hl 8 rfl) ?_
                refine ty_calll (W.runV (As := [.int a3]) (rest := []) ⟨hx, hb, hml, hown, hts⟩ (m_X10_reading l D t cI cL cC gC gE gW gA gT gI gS gM K F S N gH_557 gJ_54 ge gk gf gs gg gr RN a0 a3  uq (by omega) (by omega) k_a0) (cwV 1 hts gu_X10_byOpenings_X10_reading_251 rfl rfl rfl (by decide +kernel) ⟨Nat.le_of_ble_eq_true rfl, Nat.le_of_ble_eq_true rfl⟩) (tP_V hG hE at_552 rfl) rfl rfl hl.1 rfl (lv_room (Nat.le_of_ble_eq_true rfl)) dX10_byOpenings_109 ⟨Nat.le_of_ble_eq_true rfl, Nat.le_of_ble_eq_true rfl⟩) hS (fun k h => by simp [wr0] at h) (fun z_586 H locs hp_587 hG hS o_588 => ?_)
                have at_552 := va_at.keptC at_552 o_588 k_a0 rfl
                have at_560 := va_at.keptC at_560 o_588 h_518 rfl
                refine lv_goto (tgt := 117) hx hb dX10_byOpenings_112 (by decide) ?_
                refine lv_lstore (lv' := [(8, .long z_586), (10, .int 1), (13, .int yi), (11, .int 6), (12, .int 1), (0, .ref a0), (1, .int a1), (2, .int a2), (3, .int a3), (4, .int a4), (5, .long a5), (7, .int a6)]) hx hb dX10_byOpenings_117 hl (by decide) rfl (fun ls hl => ?_)
                obtain ⟨x_590, e_591⟩ : ∃ y : Int32, y = yi + Int32.ofInt 1 := ⟨_, rfl⟩
                have i_x_590 : x_590.toInt = yi.toInt + 1 := by rw [e_591, show Int32.ofInt 1 = 1 by decide]; exact (q_add (by rw [show (1 : Int32).toInt = 1 by decide]; omega) (by rw [show (1 : Int32).toInt = 1 by decide]; omega)).trans (by rw [show (1 : Int32).toInt = 1 by decide])
                refine lv_iinc (v := x_590) (lv' := [(13, .int x_590), (8, .long z_586), (10, .int 1), (11, .int 6), (12, .int 1), (0, .ref a0), (1, .int a1), (2, .int a2), (3, .int a3), (4, .int a4), (5, .long a5), (7, .int a6)]) hx hb dX10_byOpenings_119 hl (k := 2) rfl e_591.symm (by decide) rfl (fun ls hl => ?_)
                refine lv_pc (pc2 := 122) rfl ?_
                refine lv_goto (tgt := 59) hx hb dX10_byOpenings_122 (by decide) ?_
                have zi_1 : (1 : Int32).toInt = 1 := by decide
                exact (hWW134 _ _ _).mp (ih134 x_590 1 z_586 gH_557 H locs ls (by omega) (by omega) (by omega) (by omega) (by omega) hG hS (lv_sub hl [0, 3, 4, 2, 1, 5, 6, 7, 8, 9, 10, 11] rfl))
    have zi_0 : (0 : Int32).toInt = 0 := by decide
    exact lp134 (a2.toInt - (0 : Int32).toInt : Int).toNat 0 yb ym hm70 H locs ls (by omega) (by omega) (by omega) (by omega) (by omega) hG hS (lv_sub hl [0, 1, 2, 3, 4, 5, 6, 7, 8, 9, 10, 11] rfl)
  have lp70 : ∀ (kk70 : Nat) (yi : Int32) (yb : Int32) (ym : Int64) (hm70 : Int) (H1 : Heap) (locs1 : List Loc) (ls1 : Array Slot), a2.toInt - yi.toInt ≤ (kk70 : Int) → (0 ≤ yi.toInt) → (yi.toInt ≤ a2.toInt) → (0 ≤ hm70) → (hm70 ≤ gH + yi.toInt) → tG D (mF cI cL cC gC gE gW gA gT gI gS gM K F S N hm70 gJ_54 ge gk gf gs gg gr RN) t H1 → tF t wmj s.heap H1 locs1 → lv_has ls1 14 [(13, .int yi), (11, .int 36), (12, .int 0), (10, .int yb), (8, .long ym), (0, .ref a0), (1, .int a1), (2, .int a2), (3, .int a3), (4, .int a4), (5, .long a5), (7, .int a6)] → WW70 H1 locs1 (F0 m 59 ls1 []) := by
    intro kk70
    induction kk70 with
    | zero =>
      intro yi yb ym hm70 H locs ls hk70 v70_0 v70_1 v70_2 v70_3 hG hS hl
      refine (hWW70 _ _ _).mpr ?_
      refine lv_iload hx hb dX10_byOpenings_59 (lv_at hl 0 rfl) ?_
      refine lv_iload_n hx hb dX10_byOpenings_61 rfl (lv_at hl 7 rfl) ?_
      refine lv_icmp_ge (tgt := 125) hx hb dX10_byOpenings_62 (by decide) (fun c_592 => ?_) (fun c_592 => ?_)
      · skip
        have c_592 : a2.toInt ≤ yi.toInt := q_le c_592
        exact (hWW70 _ _ _).mp (kx70 yi yb ym hm70 H locs ls v70_0 v70_1 v70_2 v70_3 hG hS (lv_sub hl [0, 1, 2, 3, 4, 5, 6, 7, 8, 9, 10, 11] rfl))
      · skip
        have c_592 : yi.toInt < a2.toInt := q_nle c_592
        exfalso; omega
    | succ kk70 ih70 =>
      intro yi yb ym hm70 H locs ls hk70 v70_0 v70_1 v70_2 v70_3 hG hS hl
      refine (hWW70 _ _ _).mpr ?_
      refine lv_iload hx hb dX10_byOpenings_59 (lv_at hl 0 rfl) ?_
      refine lv_iload_n hx hb dX10_byOpenings_61 rfl (lv_at hl 7 rfl) ?_
      refine lv_icmp_ge (tgt := 125) hx hb dX10_byOpenings_62 (by decide) (fun c_593 => ?_) (fun c_593 => ?_)
      · skip
        have c_593 : a2.toInt ≤ yi.toInt := q_le c_593
        exact (hWW70 _ _ _).mp (kx70 yi yb ym hm70 H locs ls v70_0 v70_1 v70_2 v70_3 hG hS (lv_sub hl [0, 1, 2, 3, 4, 5, 6, 7, 8, 9, 10, 11] rfl))
      · skip
        have c_593 : yi.toInt < a2.toInt := q_nle c_593
        refine lv_iload hx hb dX10_byOpenings_65 (lv_at hl 3 rfl) ?_
        refine lv_pc (pc2 := 67) rfl ?_
        refine lv_if_eq (tgt := 125) hx hb dX10_byOpenings_67 (by decide) (fun c_594 => ?_) (fun c_594 => ?_)
        · skip
          have c_594 : yb.toInt = 0 := q_eq c_594
          exact (hWW70 _ _ _).mp (kx70 yi yb ym hm70 H locs ls v70_0 v70_1 v70_2 v70_3 hG hS (lv_sub hl [0, 1, 2, 3, 4, 5, 6, 7, 8, 9, 10, 11] rfl))
        · skip
          have c_594 : yb.toInt ≠ 0 := q_ne c_594
          refine lv_aload_n hx hb dX10_byOpenings_70 rfl (lv_at hl 5 rfl) ?_
          refine lv_iconst (v := 0) hx hb dX10_byOpenings_71 (by decide) ?_
          refine lv_iconst (v := 0) hx hb dX10_byOpenings_72 (by decide) ?_
          have zi_0 : (0 : Int32).toInt = 0 := by decide
          obtain ⟨r_595, v_597, r_598, r_600, r_602, r_604, r_606, r_608, r_610, r_612, r_614, r_616, r_618, r_620, r_622, r_624, r_626, r_628, r_630, r_632, r_634, r_636, r_638, v_640, r_641, at_643, h_596, h_599, h_601, h_603, h_605, h_607, h_609, h_611, h_613, h_615, h_617, h_619, h_621, h_623, h_625, h_627, h_629, h_631, h_633, h_635, h_637, h_639, h_642⟩ := mF_o40 hG k_a0
          refine tx_callv (W.runV (As := [.int 0, .int 0]) (rest := []) ⟨hx, hb, hml, hown, hts⟩ (m_X10_goes l D t cI cL cC gC gE gW gA gT gI gS gM K F S N hm70 gJ_54 ge gk gf gs gg gr RN a0 0 0 0 uq (by omega) (by omega) (by omega) (by omega) (by omega) hO0 (by omega) (by omega) (by omega) (by omega) k_a0) (cwV 2 hts gu_X10_byOpenings_X10_goes_231 rfl rfl rfl (by decide +kernel) ⟨Nat.le_of_ble_eq_true rfl, Nat.le_of_ble_eq_true rfl⟩) (tP_V hG hE at_643 rfl) rfl rfl hl.1 rfl (lv_room (Nat.le_of_ble_eq_true rfl)) dX10_byOpenings_73 ⟨Nat.le_of_ble_eq_true rfl, Nat.le_of_ble_eq_true rfl⟩) hS (wrL_sub (by decide)) (fun gH_648 H locs hp_645 hG hS o_646 => ?_)
          have at_643 := va_at.keptC at_643 o_646 k_a0 rfl
          replace hG : tG D (mF cI cL cC gC gE gW gA gT gI gS gM K F S N gH_648 gJ_54 ge gk gf gs gg gr RN) t H := hG
          have hp_645 : gH_648 = hm70 + 1 := hp_645
          have p_649 := hp_645
          refine lv_aload_n hx hb dX10_byOpenings_76 rfl (lv_at hl 5 rfl) ?_
          refine va_get (D := D) (ci := 9) (v := .ref r_608) (C := RX10) (T := TX10) (N := 36) hx hb hts in10 hown hK (va_one at_643) 0 rfl rfl 10 (by decide) (hts (.fieldLink RX10 28 "RiverModelModel" "m" "[J") (List.mem_of_getElem? (i := 6) rfl)) (fun _ h9 => h9) rfl dX10_byOpenings_77 ?_
          refine lv_iload hx hb dX10_byOpenings_80 (lv_at hl 9 rfl) ?_
          refine lv_pc (pc2 := 82) rfl ?_
          obtain ⟨f_650, at_651, h_652⟩ := mF_o47 hG h_609
          have b_653 : vp_in a4 280 := (q_in (by omega) (by omega))
          refine va_lald hx hb hK (va_one at_651) 0 1 rfl rfl b_653 dX10_byOpenings_82 ?_
          refine lv_topl (fun z_654 e_655 => ?_)
          refine lv_lload hx hb dX10_byOpenings_83 (lv_at hl 10 rfl) ?_
          refine W.lcmp hx hb dX10_byOpenings_85 ?_
          refine lv_if_gt (tgt := 93) hx hb dX10_byOpenings_86 (by decide) (fun c_656 => ?_) (fun c_656 => ?_)
          · skip
            have c_656 : a5.toInt < z_654.toInt := q_cmp_gt c_656
            refine lv_iconst (v := 0) hx hb dX10_byOpenings_93 (by decide) ?_
            refine lv_istore (lv' := [(10, .int 0), (13, .int yi), (11, .int 36), (12, .int 0), (8, .long ym), (0, .ref a0), (1, .int a1), (2, .int a2), (3, .int a3), (4, .int a4), (5, .long a5), (7, .int a6)]) hx hb dX10_byOpenings_94 hl (by decide) rfl (fun ls hl => ?_)
            refine lv_aload_n hx hb dX10_byOpenings_96 rfl (lv_at hl 5 rfl) ?_
            refine lv_iload_n hx hb dX10_byOpenings_97 rfl (lv_at hl 8 rfl) ?_
            refine lv_pc (pc2 := 98) rfl ?_
            refine ty_calll (W.runV (As := [.int a3]) (rest := []) ⟨hx, hb, hml, hown, hts⟩ (m_X10_reading l D t cI cL cC gC gE gW gA gT gI gS gM K F S N gH_648 gJ_54 ge gk gf gs gg gr RN a0 a3  uq (by omega) (by omega) k_a0) (cwV 1 hts gu_X10_byOpenings_X10_reading_251 rfl rfl rfl (by decide +kernel) ⟨Nat.le_of_ble_eq_true rfl, Nat.le_of_ble_eq_true rfl⟩) (tP_V hG hE at_643 rfl) rfl rfl hl.1 rfl (lv_room (Nat.le_of_ble_eq_true rfl)) dX10_byOpenings_98 ⟨Nat.le_of_ble_eq_true rfl, Nat.le_of_ble_eq_true rfl⟩) hS (fun k h => by simp [wr0] at h) (fun z_657 H locs hp_658 hG hS o_659 => ?_)
            have at_643 := va_at.keptC at_643 o_659 k_a0 rfl
            have at_651 := va_at.keptC at_651 o_659 h_609 rfl
            refine lv_lload hx hb dX10_byOpenings_101 (lv_at hl 4 rfl) ?_
            refine W.lcmp hx hb dX10_byOpenings_103 ?_
            refine lv_if_le (tgt := 115) hx hb dX10_byOpenings_104 (by decide) (fun c_661 => ?_) (fun c_661 => ?_)
            · skip
              have c_661 : z_657.toInt ≤ ym.toInt := q_cmp_le c_661
              refine lv_lload hx hb dX10_byOpenings_115 (lv_at hl 4 rfl) ?_
              refine lv_lstore (lv' := [(8, .long ym), (10, .int 0), (13, .int yi), (11, .int 36), (12, .int 0), (0, .ref a0), (1, .int a1), (2, .int a2), (3, .int a3), (4, .int a4), (5, .long a5), (7, .int a6)]) hx hb dX10_byOpenings_117 hl (by decide) rfl (fun ls hl => ?_)
              obtain ⟨x_662, e_663⟩ : ∃ y : Int32, y = yi + Int32.ofInt 1 := ⟨_, rfl⟩
              have i_x_662 : x_662.toInt = yi.toInt + 1 := by rw [e_663, show Int32.ofInt 1 = 1 by decide]; exact (q_add (by rw [show (1 : Int32).toInt = 1 by decide]; omega) (by rw [show (1 : Int32).toInt = 1 by decide]; omega)).trans (by rw [show (1 : Int32).toInt = 1 by decide])
              refine lv_iinc (v := x_662) (lv' := [(13, .int x_662), (8, .long ym), (10, .int 0), (11, .int 36), (12, .int 0), (0, .ref a0), (1, .int a1), (2, .int a2), (3, .int a3), (4, .int a4), (5, .long a5), (7, .int a6)]) hx hb dX10_byOpenings_119 hl (k := 2) rfl e_663.symm (by decide) rfl (fun ls hl => ?_)
              refine lv_goto (tgt := 59) hx hb dX10_byOpenings_122 (by decide) ?_
              exact (hWW70 _ _ _).mp (ih70 x_662 0 ym gH_648 H locs ls (by omega) (by omega) (by omega) (by omega) (by omega) hG hS (lv_sub hl [0, 3, 4, 2, 1, 5, 6, 7, 8, 9, 10, 11] rfl))
            · skip
              have c_661 : ym.toInt < z_657.toInt := q_cmp_nle c_661
              refine lv_pc (pc2 := 107) rfl ?_
              refine lv_aload_n hx hb dX10_byOpenings_107 rfl (lv_at hl 5 rfl) ?_
              refine lv_iload_n hx hb dX10_byOpenings_108 rfl (lv_at hl 8 rfl) ?_
              refine ty_calll (W.runV (As := [.int a3]) (rest := []) ⟨hx, hb, hml, hown, hts⟩ (m_X10_reading l D t cI cL cC gC gE gW gA gT gI gS gM K F S N gH_648 gJ_54 ge gk gf gs gg gr RN a0 a3  uq (by omega) (by omega) k_a0) (cwV 1 hts gu_X10_byOpenings_X10_reading_251 rfl rfl rfl (by decide +kernel) ⟨Nat.le_of_ble_eq_true rfl, Nat.le_of_ble_eq_true rfl⟩) (tP_V hG hE at_643 rfl) rfl rfl hl.1 rfl (lv_room (Nat.le_of_ble_eq_true rfl)) dX10_byOpenings_109 ⟨Nat.le_of_ble_eq_true rfl, Nat.le_of_ble_eq_true rfl⟩) hS (fun k h => by simp [wr0] at h) (fun z_664 H locs hp_665 hG hS o_666 => ?_)
              have at_643 := va_at.keptC at_643 o_666 k_a0 rfl
              have at_651 := va_at.keptC at_651 o_666 h_609 rfl
              refine lv_goto (tgt := 117) hx hb dX10_byOpenings_112 (by decide) ?_
              refine lv_lstore (lv' := [(8, .long z_664), (10, .int 0), (13, .int yi), (11, .int 36), (12, .int 0), (0, .ref a0), (1, .int a1), (2, .int a2), (3, .int a3), (4, .int a4), (5, .long a5), (7, .int a6)]) hx hb dX10_byOpenings_117 hl (by decide) rfl (fun ls hl => ?_)
              obtain ⟨x_668, e_669⟩ : ∃ y : Int32, y = yi + Int32.ofInt 1 := ⟨_, rfl⟩
              have i_x_668 : x_668.toInt = yi.toInt + 1 := by rw [e_669, show Int32.ofInt 1 = 1 by decide]; exact (q_add (by rw [show (1 : Int32).toInt = 1 by decide]; omega) (by rw [show (1 : Int32).toInt = 1 by decide]; omega)).trans (by rw [show (1 : Int32).toInt = 1 by decide])
              refine lv_iinc (v := x_668) (lv' := [(13, .int x_668), (8, .long z_664), (10, .int 0), (11, .int 36), (12, .int 0), (0, .ref a0), (1, .int a1), (2, .int a2), (3, .int a3), (4, .int a4), (5, .long a5), (7, .int a6)]) hx hb dX10_byOpenings_119 hl (k := 2) rfl e_669.symm (by decide) rfl (fun ls hl => ?_)
              refine lv_goto (tgt := 59) hx hb dX10_byOpenings_122 (by decide) ?_
              exact (hWW70 _ _ _).mp (ih70 x_668 0 z_664 gH_648 H locs ls (by omega) (by omega) (by omega) (by omega) (by omega) hG hS (lv_sub hl [0, 3, 4, 2, 1, 5, 6, 7, 8, 9, 10, 11] rfl))
          · skip
            have c_656 : z_654.toInt ≤ a5.toInt := q_cmp_ngt c_656
            refine lv_iconst (v := 1) hx hb dX10_byOpenings_89 (by decide) ?_
            refine lv_pc (pc2 := 90) rfl ?_
            refine lv_goto (tgt := 94) hx hb dX10_byOpenings_90 (by decide) ?_
            refine lv_istore (lv' := [(10, .int 1), (13, .int yi), (11, .int 36), (12, .int 0), (8, .long ym), (0, .ref a0), (1, .int a1), (2, .int a2), (3, .int a3), (4, .int a4), (5, .long a5), (7, .int a6)]) hx hb dX10_byOpenings_94 hl (by decide) rfl (fun ls hl => ?_)
            refine lv_aload_n hx hb dX10_byOpenings_96 rfl (lv_at hl 5 rfl) ?_
            refine lv_iload_n hx hb dX10_byOpenings_97 rfl (lv_at hl 8 rfl) ?_
            refine ty_calll (W.runV (As := [.int a3]) (rest := []) ⟨hx, hb, hml, hown, hts⟩ (m_X10_reading l D t cI cL cC gC gE gW gA gT gI gS gM K F S N gH_648 gJ_54 ge gk gf gs gg gr RN a0 a3  uq (by omega) (by omega) k_a0) (cwV 1 hts gu_X10_byOpenings_X10_reading_251 rfl rfl rfl (by decide +kernel) ⟨Nat.le_of_ble_eq_true rfl, Nat.le_of_ble_eq_true rfl⟩) (tP_V hG hE at_643 rfl) rfl rfl hl.1 rfl (lv_room (Nat.le_of_ble_eq_true rfl)) dX10_byOpenings_98 ⟨Nat.le_of_ble_eq_true rfl, Nat.le_of_ble_eq_true rfl⟩) hS (fun k h => by simp [wr0] at h) (fun z_670 H locs hp_671 hG hS o_672 => ?_)
            have at_643 := va_at.keptC at_643 o_672 k_a0 rfl
            have at_651 := va_at.keptC at_651 o_672 h_609 rfl
            refine lv_lload hx hb dX10_byOpenings_101 (lv_at hl 4 rfl) ?_
            refine W.lcmp hx hb dX10_byOpenings_103 ?_
            refine lv_if_le (tgt := 115) hx hb dX10_byOpenings_104 (by decide) (fun c_674 => ?_) (fun c_674 => ?_)
            · skip
              have c_674 : z_670.toInt ≤ ym.toInt := q_cmp_le c_674
              refine lv_pc (pc2 := 115) rfl ?_
              refine lv_lload hx hb dX10_byOpenings_115 (lv_at hl 4 rfl) ?_
              refine lv_lstore (lv' := [(8, .long ym), (10, .int 1), (13, .int yi), (11, .int 36), (12, .int 0), (0, .ref a0), (1, .int a1), (2, .int a2), (3, .int a3), (4, .int a4), (5, .long a5), (7, .int a6)]) hx hb dX10_byOpenings_117 hl (by decide) rfl (fun ls hl => ?_)
              obtain ⟨x_675, e_676⟩ : ∃ y : Int32, y = yi + Int32.ofInt 1 := ⟨_, rfl⟩
              have i_x_675 : x_675.toInt = yi.toInt + 1 := by rw [e_676, show Int32.ofInt 1 = 1 by decide]; exact (q_add (by rw [show (1 : Int32).toInt = 1 by decide]; omega) (by rw [show (1 : Int32).toInt = 1 by decide]; omega)).trans (by rw [show (1 : Int32).toInt = 1 by decide])
              refine lv_iinc (v := x_675) (lv' := [(13, .int x_675), (8, .long ym), (10, .int 1), (11, .int 36), (12, .int 0), (0, .ref a0), (1, .int a1), (2, .int a2), (3, .int a3), (4, .int a4), (5, .long a5), (7, .int a6)]) hx hb dX10_byOpenings_119 hl (k := 2) rfl e_676.symm (by decide) rfl (fun ls hl => ?_)
              refine lv_goto (tgt := 59) hx hb dX10_byOpenings_122 (by decide) ?_
              have zi_1 : (1 : Int32).toInt = 1 := by decide
              exact (hWW70 _ _ _).mp (ih70 x_675 1 ym gH_648 H locs ls (by omega) (by omega) (by omega) (by omega) (by omega) hG hS (lv_sub hl [0, 3, 4, 2, 1, 5, 6, 7, 8, 9, 10, 11] rfl))
            · skip
              have c_674 : ym.toInt < z_670.toInt := q_cmp_nle c_674
              refine lv_aload_n hx hb dX10_byOpenings_107 rfl (lv_at hl 5 rfl) ?_
              refine lv_iload_n hx hb dX10_byOpenings_108 rfl (lv_at hl 8 rfl) ?_
              refine ty_calll (W.runV (As := [.int a3]) (rest := []) ⟨hx, hb, hml, hown, hts⟩ (m_X10_reading l D t cI cL cC gC gE gW gA gT gI gS gM K F S N gH_648 gJ_54 ge gk gf gs gg gr RN a0 a3  uq (by omega) (by omega) k_a0) (cwV 1 hts gu_X10_byOpenings_X10_reading_251 rfl rfl rfl (by decide +kernel) ⟨Nat.le_of_ble_eq_true rfl, Nat.le_of_ble_eq_true rfl⟩) (tP_V hG hE at_643 rfl) rfl rfl hl.1 rfl (lv_room (Nat.le_of_ble_eq_true rfl)) dX10_byOpenings_109 ⟨Nat.le_of_ble_eq_true rfl, Nat.le_of_ble_eq_true rfl⟩) hS (fun k h => by simp [wr0] at h) (fun z_677 H locs hp_678 hG hS o_679 => ?_)
              have at_643 := va_at.keptC at_643 o_679 k_a0 rfl
              have at_651 := va_at.keptC at_651 o_679 h_609 rfl
              refine lv_goto (tgt := 117) hx hb dX10_byOpenings_112 (by decide) ?_
              refine lv_pc (pc2 := 117) rfl ?_
              refine lv_lstore (lv' := [(8, .long z_677), (10, .int 1), (13, .int yi), (11, .int 36), (12, .int 0), (0, .ref a0), (1, .int a1), (2, .int a2), (3, .int a3), (4, .int a4), (5, .long a5), (7, .int a6)]) hx hb dX10_byOpenings_117 hl (by decide) rfl (fun ls hl => ?_)
              obtain ⟨x_681, e_682⟩ : ∃ y : Int32, y = yi + Int32.ofInt 1 := ⟨_, rfl⟩
              have i_x_681 : x_681.toInt = yi.toInt + 1 := by rw [e_682, show Int32.ofInt 1 = 1 by decide]; exact (q_add (by rw [show (1 : Int32).toInt = 1 by decide]; omega) (by rw [show (1 : Int32).toInt = 1 by decide]; omega)).trans (by rw [show (1 : Int32).toInt = 1 by decide])
              refine lv_iinc (v := x_681) (lv' := [(13, .int x_681), (8, .long z_677), (10, .int 1), (11, .int 36), (12, .int 0), (0, .ref a0), (1, .int a1), (2, .int a2), (3, .int a3), (4, .int a4), (5, .long a5), (7, .int a6)]) hx hb dX10_byOpenings_119 hl (k := 2) rfl e_682.symm (by decide) rfl (fun ls hl => ?_)
              refine lv_goto (tgt := 59) hx hb dX10_byOpenings_122 (by decide) ?_
              have zi_1 : (1 : Int32).toInt = 1 := by decide
              exact (hWW70 _ _ _).mp (ih70 x_681 1 z_677 gH_648 H locs ls (by omega) (by omega) (by omega) (by omega) (by omega) hG hS (lv_sub hl [0, 3, 4, 2, 1, 5, 6, 7, 8, 9, 10, 11] rfl))
  have zi_0 : (0 : Int32).toInt = 0 := by decide
  have zi_1 : (1 : Int32).toInt = 1 := by decide
  have zl_m1 : ((-1) : Int64).toInt = (-1) := by decide
  exact lp70 (a2.toInt - (0 : Int32).toInt : Int).toNat 0 1 (-1) gH H locs ls (by omega) (by omega) (by omega) (by omega) (by omega) hG hS (lv_sub hl [0, 1, 2, 3, 4, 5, 6, 7, 8, 9, 10, 11] rfl)

def uX10_best : List Cond := .code yX10_best cX10_best 14 (some .long) :: ([.constantLong RX10 243 (3), .methodLink RX10 85 yX10_in, .static yX10_in, .initialized RX10, .constantLong RX10 305 (6), .constantLong RX10 234 (15), .constantLong RX10 236 (-1), .methodLink RX10 297 yX10_canSee, .instanceMethod yX10_canSee, .selects RX10 yX10_canSee yX10_canSee, .methodLink RX10 245 yX10_ofKind, .instanceMethod yX10_ofKind, .selects RX10 yX10_ofKind yX10_ofKind, .constantLong RX10 238 (-2), .methodLink RX10 208 yX10_isStore, .instanceMethod yX10_isStore, .selects RX10 yX10_isStore yX10_isStore, .constantLong RX10 261 (2), .constantLong RX10 311 (-4), .methodLink RX10 307 yX10_byOpenings, .instanceMethod yX10_byOpenings, .selects RX10 yX10_byOpenings yX10_byOpenings, .code yX10_in cX10_in 6 (some .boolean), .code yX10_canSee cX10_canSee 3 (some .boolean), .methodLink RX10 248 yX10_isSet, .instanceMethod yX10_isSet, .selects RX10 yX10_isSet yX10_isSet, .fieldLink RX10 28 "RiverModelModel" "m" "[J", .constantLong RX10 229 (96), .code yX10_isSet cX10_isSet 2 (some .boolean), .fieldLink RX10 173 "RiverModelModel" "isBuilt" "Z", .fieldLink RX10 38 "RiverModelModel" "gaugeKind" "[I", .code yX10_ofKind cX10_ofKind 4 (some .int), .fieldLink RX10 163 "RiverModelModel" "items" "I", .fieldLink RX10 13 "RiverModelModel" "kind" "[I", .code yX10_isStore cX10_isStore 2 (some .boolean), .methodLink RX10 166 yX10_storeAt, .instanceMethod yX10_storeAt, .selects RX10 yX10_storeAt yX10_storeAt, .code yX10_storeAt cX10_storeAt 5 (some .int), .fieldLink RX10 16 "RiverModelModel" "first" "[I", .code yX10_byOpenings cX10_byOpenings 14 (some .long), .methodLink RX10 274 yX10_asides, .instanceMethod yX10_asides, .selects RX10 yX10_asides yX10_asides, .methodLink RX10 277 yX10_returns, .instanceMethod yX10_returns, .selects RX10 yX10_returns yX10_returns, .methodLink RX10 231 yX10_goes, .instanceMethod yX10_goes, .selects RX10 yX10_goes yX10_goes, .methodLink RX10 251 yX10_reading, .instanceMethod yX10_reading, .selects RX10 yX10_reading yX10_reading, .code yX10_asides cX10_asides 2 none, .fieldLink RX10 32 "RiverModelModel" "aside" "[J", .code yX10_returns cX10_returns 2 none, .code yX10_goes cX10_goes 4 none, .fieldLink RX10 25 "RiverModelModel" "weather" "[I", .methodLink RX10 225 yX10_passes, .instanceMethod yX10_passes, .selects RX10 yX10_passes yX10_passes, .code yX10_passes cX10_passes 12 none, .methodLink RX10 221 yX10_moves, .instanceMethod yX10_moves, .selects RX10 yX10_moves yX10_moves, .fieldLink RX10 19 "RiverModelModel" "second" "[I", .fieldLink RX10 22 "RiverModelModel" "number" "[I", .code yX10_moves cX10_moves 8 (some .long), .constantLong RX10 219 (10), .methodLink RX10 215 yX10_most, .instanceMethod yX10_most, .selects RX10 yX10_most yX10_most, .constantLong RX10 107 (100), .methodLink RX10 211 yX10_capacity, .instanceMethod yX10_capacity, .selects RX10 yX10_capacity yX10_capacity, .code yX10_most cX10_most 4 (some .long), .code yX10_capacity cX10_capacity 3 (some .long), .code yX10_reading cX10_reading 2 (some .long), .fieldLink RX10 41 "RiverModelModel" "gaugeAt" "[I"] ++ wsX100)
set_option maxRecDepth 20000 in
theorem gu_X10_best_X10_in_85 : GoodIn uX10_best (va_wsS RX10 85 yX10_in uX10_in) := goodIn_r _ [2, 3, 4, 23] rfl (by decide +kernel)
set_option maxRecDepth 20000 in
theorem gu_X10_best_X10_canSee_297 : GoodIn uX10_best (wsV RX10 297 RX10 yX10_canSee uX10_canSee) := goodIn_r _ [8, 9, 10, 4, 24, 25, 26, 27, 4, 28, 29, 30, 31, 32, 82, 83, 84, 85, 86, 87, 88, 89, 90, 91, 92, 93, 94, 95, 96, 97, 98, 99, 100, 101, 102, 103, 104, 105, 106, 107, 108, 109, 110, 111, 112, 113, 114, 115, 116, 117] rfl (by decide +kernel)
set_option maxRecDepth 20000 in
theorem gu_X10_best_X10_ofKind_245 : GoodIn uX10_best (wsV RX10 245 RX10 yX10_ofKind uX10_ofKind) := goodIn_r _ [11, 12, 13, 4, 33, 34, 31, 35, 82, 83, 84, 85, 86, 87, 88, 89, 90, 91, 92, 93, 94, 95, 96, 97, 98, 99, 100, 101, 102, 103, 104, 105, 106, 107, 108, 109, 110, 111, 112, 113, 114, 115, 116, 117] rfl (by decide +kernel)
set_option maxRecDepth 20000 in
theorem gu_X10_best_X10_isStore_208 : GoodIn uX10_best (wsV RX10 208 RX10 yX10_isStore uX10_isStore) := goodIn_r _ [15, 16, 17, 4, 36, 37, 38, 39, 4, 40, 34, 35, 41, 82, 83, 84, 85, 86, 87, 88, 89, 90, 91, 92, 93, 94, 95, 96, 97, 98, 99, 100, 101, 102, 103, 104, 105, 106, 107, 108, 109, 110, 111, 112, 113, 114, 115, 116, 117] rfl (by decide +kernel)
set_option maxRecDepth 20000 in
theorem gu_X10_best_X10_byOpenings_307 : GoodIn uX10_best (wsV RX10 307 RX10 yX10_byOpenings uX10_byOpenings) := goodIn_r _ [20, 21, 22, 4, 42, 43, 44, 45, 4, 7, 28, 18, 46, 47, 48, 49, 50, 51, 52, 53, 54, 55, 56, 57, 58, 59, 60, 61, 62, 63, 34, 35, 64, 65, 66, 41, 67, 68, 69, 70, 71, 72, 73, 74, 75, 76, 77, 78, 79, 37, 38, 39, 40, 80, 32, 81, 82, 83, 84, 85, 86, 87, 88, 89, 90, 91, 92, 93, 94, 95, 96, 97, 98, 99, 100, 101, 102, 103, 104, 105, 106, 107, 108, 109, 110, 111, 112, 113, 114, 115, 116, 117] rfl (by decide +kernel)
set_option maxHeartbeats 4000000 in
set_option maxRecDepth 100000 in
theorem m_X10_best (l : Launch) (D : va_G) (t : Nat → Nat) (cI cL cC : ClassId) (gC : Int32) (gE : Int32) (gW : Nat → Int32) (gA : Nat → Int32) (gT : Nat → Int32) (gI : Int32) (gS : Int32) (gM : Int32) (K : Nat → Int32) (F : Nat → Int32) (S : Nat → Int32) (N : Nat → Int32) (gH : Int) (gJ : Int) (ge : Int32) (gk : Int32) (gf : Int32) (gs : Int32) (gg : Int32) (gr : Int32) (RN : Nat → Int32) (a0 : Nat) (a1 : Int32) (a2 : Int32) (a3 : Int32) (a4 : Int32) (a5 : Int64) (a6 : Int32) (uq : ∀ b c : Nat, t b = t c → t b ≠ 0 → b = c) (hC0 : 0 ≤ gC.toInt) (hC4 : gC.toInt ≤ 400) (hI0 : 0 ≤ gI.toInt) (hI4 : gI.toInt ≤ 40) (hH0 : 0 ≤ gH) (hH9 : gH ≤ 96) (hm0 : 0 ≤ gM.toInt) (hm3 : gM.toInt ≤ 3) (hO0 : okM K F S N 0 gI.toInt) (hW : swM gS K F S N gI.toInt) (k_a0 : t a0 = 40) : tMx (Z := (Int) × (Int)) l yX10_best uX10_best 6 160 D (mF cI cL cC gC gE gW gA gT gI gS gM K F S N gH gJ ge gk gf gs gg gr RN) (fun z => (mF cI cL cC gC gE gW gA gT gI gS gM K F S N z.1 z.2 ge gk gf gs gg gr RN)) t cI cL cC [.ref a0, .int a1, .int a2, .int a3, .int a4, .long a5, .int a6] wmj (xL (fun r (z : (Int) × (Int)) => 0 ≤ z.1 ∧ z.1 ≤ 96)) := by
  refine tMx.ofW (cc := cX10_best) (maxL := 14) (ret := (some .long)) (by decide) rfl (Nat.le_of_ble_eq_true rfl) ?_
  intro p e s m below meth c hx hb hr hml hown hts hlk H locs hG hK hE hS ls hl
  have hl : lv_has ls 14 [(0, .ref a0), (1, .int a1), (2, .int a2), (3, .int a3), (4, .int a4), (5, .long a5), (7, .int a6)] := hl
  skip
  refine lv_iload_n hx hb dX10_best_0 rfl (lv_at hl 1 rfl) ?_
  refine lv_i2l (v := a1.toInt64) hx hb dX10_best_1 rfl ?_
  refine lv_lconst (v := 0) hx hb dX10_best_2 (by decide) ?_
  refine lv_ldc2 hx hb hown (hts (.constantLong RX10 243 (3)) (List.mem_of_getElem? (i := 1) rfl)) dX10_best_3 ?_
  have zl_0 : (0 : Int64).toInt = 0 := by decide
  have zl_3 : (3 : Int64).toInt = 3 := by decide
  refine ty_calli (W.runS (As := [.long a1.toInt64, .long 0, .long 3]) (rest := []) ⟨hx, hb, hml, hown, hts⟩ (m_X10_in l D t cI cL cC gC gE gW gA gT gI gS gM K F S N gH gJ ge gk gf gs gg gr RN a1.toInt64 0 3 a1.toInt 0 3 uq (q_i2l _) (by decide) (by decide) ) (va_cwS 3 hts gu_X10_best_X10_in_85 rfl rfl rfl (by decide +kernel) ⟨Nat.le_of_ble_eq_true rfl, Nat.le_of_ble_eq_true rfl⟩) (tP_S hG hE) rfl rfl hl.1 rfl (lv_room (Nat.le_of_ble_eq_true rfl)) dX10_best_6 ⟨Nat.le_of_ble_eq_true rfl, Nat.le_of_ble_eq_true rfl⟩) hS (fun k h => by simp [wr0] at h) (fun r_1 H locs hp_2 hG hS o_3 => ?_)
  have hp_2 : (r_1 = 1 ∧ 0 ≤ a1.toInt ∧ a1.toInt ≤ 3) ∨ (r_1 = 0 ∧ (a1.toInt < 0 ∨ 3 < a1.toInt)) := hp_2
  rcases hp_2 with ⟨rfl, p_5, p_6⟩ | ⟨rfl, p_7⟩
  · skip
    refine lv_if_eq (tgt := 64) hx hb dX10_best_9 (by decide) (fun q => absurd q (by decide)) (fun _ => ?_)
    refine lv_iload_n hx hb dX10_best_12 rfl (lv_at hl 2 rfl) ?_
    refine lv_pc (pc2 := 13) rfl ?_
    refine lv_i2l (v := a2.toInt64) hx hb dX10_best_13 rfl ?_
    refine lv_lconst (v := 1) hx hb dX10_best_14 (by decide) ?_
    refine lv_ldc2 hx hb hown (hts (.constantLong RX10 305 (6)) (List.mem_of_getElem? (i := 5) rfl)) dX10_best_15 ?_
    have zl_1 : (1 : Int64).toInt = 1 := by decide
    have zl_6 : (6 : Int64).toInt = 6 := by decide
    refine ty_calli (W.runS (As := [.long a2.toInt64, .long 1, .long 6]) (rest := []) ⟨hx, hb, hml, hown, hts⟩ (m_X10_in l D t cI cL cC gC gE gW gA gT gI gS gM K F S N gH gJ ge gk gf gs gg gr RN a2.toInt64 1 6 a2.toInt 1 6 uq (q_i2l _) (by decide) (by decide) ) (va_cwS 3 hts gu_X10_best_X10_in_85 rfl rfl rfl (by decide +kernel) ⟨Nat.le_of_ble_eq_true rfl, Nat.le_of_ble_eq_true rfl⟩) (tP_S hG hE) rfl rfl hl.1 rfl (lv_room (Nat.le_of_ble_eq_true rfl)) dX10_best_18 ⟨Nat.le_of_ble_eq_true rfl, Nat.le_of_ble_eq_true rfl⟩) hS (fun k h => by simp [wr0] at h) (fun r_8 H locs hp_9 hG hS o_10 => ?_)
    have hp_9 : (r_8 = 1 ∧ 1 ≤ a2.toInt ∧ a2.toInt ≤ 6) ∨ (r_8 = 0 ∧ (a2.toInt < 1 ∨ 6 < a2.toInt)) := hp_9
    rcases hp_9 with ⟨rfl, p_12, p_13⟩ | ⟨rfl, p_14⟩
    · skip
      refine lv_if_eq (tgt := 64) hx hb dX10_best_21 (by decide) (fun q => absurd q (by decide)) (fun _ => ?_)
      refine lv_iload_n hx hb dX10_best_24 rfl (lv_at hl 3 rfl) ?_
      refine lv_i2l (v := a3.toInt64) hx hb dX10_best_25 rfl ?_
      refine lv_lconst (v := 0) hx hb dX10_best_26 (by decide) ?_
      refine lv_pc (pc2 := 27) rfl ?_
      refine lv_ldc2 hx hb hown (hts (.constantLong RX10 243 (3)) (List.mem_of_getElem? (i := 1) rfl)) dX10_best_27 ?_
      refine ty_calli (W.runS (As := [.long a3.toInt64, .long 0, .long 3]) (rest := []) ⟨hx, hb, hml, hown, hts⟩ (m_X10_in l D t cI cL cC gC gE gW gA gT gI gS gM K F S N gH gJ ge gk gf gs gg gr RN a3.toInt64 0 3 a3.toInt 0 3 uq (q_i2l _) (by decide) (by decide) ) (va_cwS 3 hts gu_X10_best_X10_in_85 rfl rfl rfl (by decide +kernel) ⟨Nat.le_of_ble_eq_true rfl, Nat.le_of_ble_eq_true rfl⟩) (tP_S hG hE) rfl rfl hl.1 rfl (lv_room (Nat.le_of_ble_eq_true rfl)) dX10_best_30 ⟨Nat.le_of_ble_eq_true rfl, Nat.le_of_ble_eq_true rfl⟩) hS (fun k h => by simp [wr0] at h) (fun r_15 H locs hp_16 hG hS o_17 => ?_)
      have hp_16 : (r_15 = 1 ∧ 0 ≤ a3.toInt ∧ a3.toInt ≤ 3) ∨ (r_15 = 0 ∧ (a3.toInt < 0 ∨ 3 < a3.toInt)) := hp_16
      rcases hp_16 with ⟨rfl, p_19, p_20⟩ | ⟨rfl, p_21⟩
      · skip
        refine lv_if_eq (tgt := 64) hx hb dX10_best_33 (by decide) (fun q => absurd q (by decide)) (fun _ => ?_)
        refine lv_iload hx hb dX10_best_36 (lv_at hl 4 rfl) ?_
        refine lv_i2l (v := a4.toInt64) hx hb dX10_best_38 rfl ?_
        refine lv_lconst (v := 0) hx hb dX10_best_39 (by decide) ?_
        refine lv_ldc2 hx hb hown (hts (.constantLong RX10 234 (15)) (List.mem_of_getElem? (i := 6) rfl)) dX10_best_40 ?_
        have zl_15 : (15 : Int64).toInt = 15 := by decide
        refine ty_calli (W.runS (As := [.long a4.toInt64, .long 0, .long 15]) (rest := []) ⟨hx, hb, hml, hown, hts⟩ (m_X10_in l D t cI cL cC gC gE gW gA gT gI gS gM K F S N gH gJ ge gk gf gs gg gr RN a4.toInt64 0 15 a4.toInt 0 15 uq (q_i2l _) (by decide) (by decide) ) (va_cwS 3 hts gu_X10_best_X10_in_85 rfl rfl rfl (by decide +kernel) ⟨Nat.le_of_ble_eq_true rfl, Nat.le_of_ble_eq_true rfl⟩) (tP_S hG hE) rfl rfl hl.1 rfl (lv_room (Nat.le_of_ble_eq_true rfl)) dX10_best_43 ⟨Nat.le_of_ble_eq_true rfl, Nat.le_of_ble_eq_true rfl⟩) hS (fun k h => by simp [wr0] at h) (fun r_22 H locs hp_23 hG hS o_24 => ?_)
        have hp_23 : (r_22 = 1 ∧ 0 ≤ a4.toInt ∧ a4.toInt ≤ 15) ∨ (r_22 = 0 ∧ (a4.toInt < 0 ∨ 15 < a4.toInt)) := hp_23
        rcases hp_23 with ⟨rfl, p_26, p_27⟩ | ⟨rfl, p_28⟩
        · skip
          refine lv_pc (pc2 := 46) rfl ?_
          refine lv_if_eq (tgt := 64) hx hb dX10_best_46 (by decide) (fun q => absurd q (by decide)) (fun _ => ?_)
          refine lv_iload hx hb dX10_best_49 (lv_at hl 6 rfl) ?_
          refine lv_i2l (v := a6.toInt64) hx hb dX10_best_51 rfl ?_
          refine lv_ldc2 hx hb hown (hts (.constantLong RX10 236 (-1)) (List.mem_of_getElem? (i := 7) rfl)) dX10_best_52 ?_
          refine lv_ldc2 hx hb hown (hts (.constantLong RX10 243 (3)) (List.mem_of_getElem? (i := 1) rfl)) dX10_best_55 ?_
          have zl_m1 : ((-1) : Int64).toInt = (-1) := by decide
          refine ty_calli (W.runS (As := [.long a6.toInt64, .long (-1), .long 3]) (rest := []) ⟨hx, hb, hml, hown, hts⟩ (m_X10_in l D t cI cL cC gC gE gW gA gT gI gS gM K F S N gH gJ ge gk gf gs gg gr RN a6.toInt64 (-1) 3 a6.toInt (-1) 3 uq (q_i2l _) (by decide) (by decide) ) (va_cwS 3 hts gu_X10_best_X10_in_85 rfl rfl rfl (by decide +kernel) ⟨Nat.le_of_ble_eq_true rfl, Nat.le_of_ble_eq_true rfl⟩) (tP_S hG hE) rfl rfl hl.1 rfl (lv_room (Nat.le_of_ble_eq_true rfl)) dX10_best_58 ⟨Nat.le_of_ble_eq_true rfl, Nat.le_of_ble_eq_true rfl⟩) hS (fun k h => by simp [wr0] at h) (fun r_29 H locs hp_30 hG hS o_31 => ?_)
          have hp_30 : (r_29 = 1 ∧ (-1) ≤ a6.toInt ∧ a6.toInt ≤ 3) ∨ (r_29 = 0 ∧ (a6.toInt < (-1) ∨ 3 < a6.toInt)) := hp_30
          rcases hp_30 with ⟨rfl, p_33, p_34⟩ | ⟨rfl, p_35⟩
          · skip
            refine lv_if_ne (tgt := 68) hx hb dX10_best_61 (by decide) (fun _ => ?_) (fun q => absurd q (by decide))
            refine lv_aload_n hx hb dX10_best_68 rfl (lv_at hl 0 rfl) ?_
            refine lv_pc (pc2 := 69) rfl ?_
            refine lv_iload_n hx hb dX10_best_69 rfl (lv_at hl 3 rfl) ?_
            refine lv_iconst (v := 4) hx hb dX10_best_70 (by decide) ?_
            refine lv_iload_n hx hb dX10_best_71 rfl (lv_at hl 2 rfl) ?_
            refine lv_imul hx hb dX10_best_72 ?_
            refine lv_topi (fun x_36 e_37 => ?_)
            have i_x_36 : x_36.toInt = 4 * a2.toInt := by rw [e_37]; exact (q_mul (by rw [show (4 : Int32).toInt = 4 by decide]; omega) (by rw [show (4 : Int32).toInt = 4 by decide]; omega)).trans (by rw [show (4 : Int32).toInt = 4 by decide])
            obtain ⟨r_38, v_40, r_41, r_43, r_45, r_47, r_49, r_51, r_53, r_55, r_57, r_59, r_61, r_63, r_65, r_67, r_69, r_71, r_73, r_75, r_77, r_79, r_81, v_83, r_84, at_86, h_39, h_42, h_44, h_46, h_48, h_50, h_52, h_54, h_56, h_58, h_60, h_62, h_64, h_66, h_68, h_70, h_72, h_74, h_76, h_78, h_80, h_82, h_85⟩ := mF_o40 hG k_a0
            refine ty_calli (W.runV (As := [.int a3, .int x_36]) (rest := []) ⟨hx, hb, hml, hown, hts⟩ (m_X10_canSee l D t cI cL cC gC gE gW gA gT gI gS gM K F S N gH gJ ge gk gf gs gg gr RN a0 a3 x_36  uq (by omega) (by omega) (by omega) (by omega) (by omega) (by omega) k_a0) (cwV 2 hts gu_X10_best_X10_canSee_297 rfl rfl rfl (by decide +kernel) ⟨Nat.le_of_ble_eq_true rfl, Nat.le_of_ble_eq_true rfl⟩) (tP_V hG hE at_86 rfl) rfl rfl hl.1 rfl (lv_room (Nat.le_of_ble_eq_true rfl)) dX10_best_73 ⟨Nat.le_of_ble_eq_true rfl, Nat.le_of_ble_eq_true rfl⟩) hS (fun k h => by simp [wr0] at h) (fun r_87 H locs hp_88 hG hS o_89 => ?_)
            have at_86 := va_at.keptC at_86 o_89 k_a0 rfl
            have hp_88 : (r_87 = 1 ∧ gH + x_36.toInt ≤ 96) ∨ (r_87 = 0) := hp_88
            rcases hp_88 with ⟨rfl, p_91⟩ | rfl
            · skip
              refine lv_if_eq (tgt := 98) hx hb dX10_best_76 (by decide) (fun q => absurd q (by decide)) (fun _ => ?_)
              refine lv_iload_n hx hb dX10_best_79 rfl (lv_at hl 1 rfl) ?_
              refine lv_aload_n hx hb dX10_best_80 rfl (lv_at hl 0 rfl) ?_
              refine lv_pc (pc2 := 81) rfl ?_
              refine lv_bipush (v := 103) hx hb dX10_best_81 (by decide) ?_
              have zi_103 : (103 : Int32).toInt = 103 := by decide
              refine ty_calli (W.runV (As := [.int 103]) (rest := [.int a1]) ⟨hx, hb, hml, hown, hts⟩ (m_X10_ofKind l D t cI cL cC gC gE gW gA gT gI gS gM K F S N gH gJ ge gk gf gs gg gr RN a0 103  uq (by omega) (by omega) k_a0) (cwV 1 hts gu_X10_best_X10_ofKind_245 rfl rfl rfl (by decide +kernel) ⟨Nat.le_of_ble_eq_true rfl, Nat.le_of_ble_eq_true rfl⟩) (tP_V hG hE at_86 rfl) rfl rfl hl.1 rfl (lv_room (Nat.le_of_ble_eq_true rfl)) dX10_best_83 ⟨Nat.le_of_ble_eq_true rfl, Nat.le_of_ble_eq_true rfl⟩) hS (fun k h => by simp [wr0] at h) (fun r_92 H locs hp_93 hG hS o_94 => ?_)
              have at_86 := va_at.keptC at_86 o_94 k_a0 rfl
              refine lv_icmp_ge (tgt := 98) hx hb dX10_best_86 (by decide) (fun c_96 => ?_) (fun c_96 => ?_)
              · skip
                have c_96 : r_92.toInt ≤ a1.toInt := q_le c_96
                refine lv_ldc2 hx hb hown (hts (.constantLong RX10 238 (-2)) (List.mem_of_getElem? (i := 14) rfl)) dX10_best_98 ?_
                have zl_m2 : ((-2) : Int64).toInt = (-2) := by decide
                exact tx_lret (z := (gH, gJ)) hx hb hr hlk hG hS ⟨(by show 0 ≤ gH; omega), (by show gH ≤ 96; omega)⟩ dX10_best_101
              · skip
                have c_96 : a1.toInt < r_92.toInt := q_nle c_96
                refine lv_aload_n hx hb dX10_best_89 rfl (lv_at hl 0 rfl) ?_
                refine lv_iload hx hb dX10_best_90 (lv_at hl 4 rfl) ?_
                refine ty_calli (W.runV (As := [.int a4]) (rest := []) ⟨hx, hb, hml, hown, hts⟩ (m_X10_isStore l D t cI cL cC gC gE gW gA gT gI gS gM K F S N gH gJ ge gk gf gs gg gr RN a0 a4  uq (by omega) (by omega) k_a0) (cwV 1 hts gu_X10_best_X10_isStore_208 rfl rfl rfl (by decide +kernel) ⟨Nat.le_of_ble_eq_true rfl, Nat.le_of_ble_eq_true rfl⟩) (tP_V hG hE at_86 rfl) rfl rfl hl.1 rfl (lv_room (Nat.le_of_ble_eq_true rfl)) dX10_best_92 ⟨Nat.le_of_ble_eq_true rfl, Nat.le_of_ble_eq_true rfl⟩) hS (fun k h => by simp [wr0] at h) (fun r_97 H locs hp_98 hG hS o_99 => ?_)
                have at_86 := va_at.keptC at_86 o_99 k_a0 rfl
                have hp_98 : (r_97 = 1 ∧ hasS K F 0 gI.toInt a4) ∨ (r_97 = 0 ∧ ¬ hasS K F 0 gI.toInt a4) := hp_98
                rcases hp_98 with ⟨rfl, p_101⟩ | ⟨rfl, p_102⟩
                · skip
                  refine lv_pc (pc2 := 95) rfl ?_
                  refine lv_if_ne (tgt := 102) hx hb dX10_best_95 (by decide) (fun _ => ?_) (fun q => absurd q (by decide))
                  refine lv_ldc2 hx hb hown (hts (.constantLong RX10 236 (-1)) (List.mem_of_getElem? (i := 7) rfl)) dX10_best_102 ?_
                  refine lv_lstore (lv' := [(8, .long (-1)), (0, .ref a0), (1, .int a1), (2, .int a2), (3, .int a3), (4, .int a4), (5, .long a5), (7, .int a6)]) hx hb dX10_best_105 hl (by decide) rfl (fun ls hl => ?_)
                  refine lv_bipush (v := (-4)) hx hb dX10_best_107 (by decide) ?_
                  refine lv_istore (lv' := [(10, .int (-4)), (8, .long (-1)), (0, .ref a0), (1, .int a1), (2, .int a2), (3, .int a3), (4, .int a4), (5, .long a5), (7, .int a6)]) hx hb dX10_best_109 hl (by decide) rfl (fun ls hl => ?_)
                  refine lv_iconst (v := 0) hx hb dX10_best_111 (by decide) ?_
                  refine lv_istore (lv' := [(11, .int 0), (10, .int (-4)), (8, .long (-1)), (0, .ref a0), (1, .int a1), (2, .int a2), (3, .int a3), (4, .int a4), (5, .long a5), (7, .int a6)]) hx hb dX10_best_112 hl (by decide) rfl (fun ls hl => ?_)
                  refine lv_pc (pc2 := 114) rfl ?_
                  refine lp_gen (fun WW103 hWW103 => ?_)
                  have kx103 : ∀ (yc : Int32) (yf : Int32) (yl : Int64) (hm : Int) (hj : Int) (H1 : Heap) (locs1 : List Loc) (ls1 : Array Slot), (0 ≤ yc.toInt) → (yc.toInt ≤ 1296) → (hm = gH) → tG D (mF cI cL cC gC gE gW gA gT gI gS gM K F S N hm hj ge gk gf gs gg gr RN) t H1 → tF t wmj s.heap H1 locs1 → lv_has ls1 14 [(11, .int yc), (10, .int yf), (8, .long yl), (0, .ref a0), (1, .int a1), (2, .int a2), (3, .int a3), (4, .int a4), (5, .long a5), (7, .int a6)] → WW103 H1 locs1 (F0 m 171 ls1 []) := by
                    intro yc yf yl hm hj H locs ls v103_0 v103_1 v103_2 hG hS hl
                    refine (hWW103 _ _ _).mpr ?_
                    refine lv_iload hx hb dX10_best_171 (lv_at hl 1 rfl) ?_
                    refine lv_pc (pc2 := 173) rfl ?_
                    refine lv_if_ge (tgt := 180) hx hb dX10_best_173 (by decide) (fun c_104 => ?_) (fun c_104 => ?_)
                    · skip
                      have c_104 : 0 ≤ yf.toInt := q_le c_104
                      refine lv_sipush (v := 216) hx hb dX10_best_180 (by decide) ?_
                      refine lv_istore (lv' := [(11, .int 216), (10, .int yf), (8, .long yl), (0, .ref a0), (1, .int a1), (2, .int a2), (3, .int a3), (4, .int a4), (5, .long a5), (7, .int a6)]) hx hb dX10_best_183 hl (by decide) rfl (fun ls hl => ?_)
                      refine lv_iconst (v := 0) hx hb dX10_best_185 (by decide) ?_
                      refine lv_istore (lv' := [(12, .int 0), (11, .int 216), (10, .int yf), (8, .long yl), (0, .ref a0), (1, .int a1), (2, .int a2), (3, .int a3), (4, .int a4), (5, .long a5), (7, .int a6)]) hx hb dX10_best_186 hl (by decide) rfl (fun ls hl => ?_)
                      refine lv_pc (pc2 := 188) rfl ?_
                      refine lp_gen (fun WW105 hWW105 => ?_)
                      have kx105 : ∀ (yq : Int32) (yb : Int32) (H1 : Heap) (locs1 : List Loc) (ls1 : Array Slot), ((yq.toInt = 0 ∧ yb.toInt = 216) ∨ (yq.toInt = 1 ∧ yb.toInt = 36) ∨ (yq.toInt = 2 ∧ yb.toInt = 6) ∨ (yq.toInt = 3 ∧ yb.toInt = 1)) → tG D (mF cI cL cC gC gE gW gA gT gI gS gM K F S N hm hj ge gk gf gs gg gr RN) t H1 → tF t wmj s.heap H1 locs1 → lv_has ls1 14 [(12, .int yq), (11, .int yb), (10, .int yf), (8, .long yl), (0, .ref a0), (1, .int a1), (2, .int a2), (3, .int a3), (4, .int a4), (5, .long a5), (7, .int a6)] → WW105 H1 locs1 (F0 m 208 ls1 []) := by
                        intro yq yb H locs ls v105_0 hG hS hl
                        refine (hWW105 _ _ _).mpr ?_
                        refine lv_iload hx hb dX10_best_208 (lv_at hl 10 rfl) ?_
                        refine lv_if_ge (tgt := 218) hx hb dX10_best_210 (by decide) (fun c_106 => ?_) (fun c_106 => ?_)
                        · skip
                          have c_106 : 0 ≤ a6.toInt := q_le c_106
                          refine lv_ldc2 hx hb hown (hts (.constantLong RX10 261 (2)) (List.mem_of_getElem? (i := 18) rfl)) dX10_best_218 ?_
                          refine lv_pc (pc2 := 221) rfl ?_
                          refine lv_iload hx hb dX10_best_221 (lv_at hl 2 rfl) ?_
                          refine lv_iload hx hb dX10_best_223 (lv_at hl 1 rfl) ?_
                          refine lv_idiv hx hb dX10_best_225 (q_nz (by omega)) ?_
                          refine lv_topi (fun x_107 e_108 => ?_)
                          refine lv_bipush (v := 6) hx hb dX10_best_226 (by decide) ?_
                          refine lv_irem hx hb dX10_best_228 (by decide) ?_
                          refine lv_topi (fun x_109 e_110 => ?_)
                          refine lv_i2l (v := x_109.toInt64) hx hb dX10_best_229 rfl ?_
                          refine lv_lmul hx hb dX10_best_230 ?_
                          refine lv_topl (fun z_111 e_112 => ?_)
                          exact tx_lret (z := (hm, hj)) hx hb hr hlk hG hS ⟨(by show 0 ≤ hm; omega), (by show hm ≤ 96; omega)⟩ dX10_best_231
                        · skip
                          have c_106 : a6.toInt < 0 := q_nle c_106
                          refine lv_pc (pc2 := 213) rfl ?_
                          refine lv_lload hx hb dX10_best_213 (lv_at hl 3 rfl) ?_
                          refine lv_goto (tgt := 231) hx hb dX10_best_215 (by decide) ?_
                          exact tx_lret (z := (hm, hj)) hx hb hr hlk hG hS ⟨(by show 0 ≤ hm; omega), (by show hm ≤ 96; omega)⟩ dX10_best_231
                      have lp105 : ∀ (kk105 : Nat) (yq : Int32) (yb : Int32) (H1 : Heap) (locs1 : List Loc) (ls1 : Array Slot), 3 - yq.toInt ≤ (kk105 : Int) → ((yq.toInt = 0 ∧ yb.toInt = 216) ∨ (yq.toInt = 1 ∧ yb.toInt = 36) ∨ (yq.toInt = 2 ∧ yb.toInt = 6) ∨ (yq.toInt = 3 ∧ yb.toInt = 1)) → tG D (mF cI cL cC gC gE gW gA gT gI gS gM K F S N hm hj ge gk gf gs gg gr RN) t H1 → tF t wmj s.heap H1 locs1 → lv_has ls1 14 [(12, .int yq), (11, .int yb), (10, .int yf), (8, .long yl), (0, .ref a0), (1, .int a1), (2, .int a2), (3, .int a3), (4, .int a4), (5, .long a5), (7, .int a6)] → WW105 H1 locs1 (F0 m 188 ls1 []) := by
                        intro kk105
                        induction kk105 with
                        | zero =>
                          intro yq yb H locs ls hk105 v105_0 hG hS hl
                          refine (hWW105 _ _ _).mpr ?_
                          refine lv_iload hx hb dX10_best_188 (lv_at hl 0 rfl) ?_
                          refine lv_iload hx hb dX10_best_190 (lv_at hl 10 rfl) ?_
                          refine lv_icmp_ge (tgt := 208) hx hb dX10_best_192 (by decide) (fun c_113 => ?_) (fun c_113 => ?_)
                          · skip
                            have c_113 : a6.toInt ≤ yq.toInt := q_le c_113
                            exact (hWW105 _ _ _).mp (kx105 yq yb H locs ls v105_0 hG hS (lv_sub hl [0, 1, 2, 3, 4, 5, 6, 7, 8, 9, 10] rfl))
                          · skip
                            have c_113 : yq.toInt < a6.toInt := q_nle c_113
                            exfalso; omega
                        | succ kk105 ih105 =>
                          intro yq yb H locs ls hk105 v105_0 hG hS hl
                          refine (hWW105 _ _ _).mpr ?_
                          refine lv_iload hx hb dX10_best_188 (lv_at hl 0 rfl) ?_
                          refine lv_iload hx hb dX10_best_190 (lv_at hl 10 rfl) ?_
                          refine lv_pc (pc2 := 192) rfl ?_
                          refine lv_icmp_ge (tgt := 208) hx hb dX10_best_192 (by decide) (fun c_114 => ?_) (fun c_114 => ?_)
                          · skip
                            have c_114 : a6.toInt ≤ yq.toInt := q_le c_114
                            exact (hWW105 _ _ _).mp (kx105 yq yb H locs ls v105_0 hG hS (lv_sub hl [0, 1, 2, 3, 4, 5, 6, 7, 8, 9, 10] rfl))
                          · skip
                            have c_114 : yq.toInt < a6.toInt := q_nle c_114
                            refine lv_iload hx hb dX10_best_195 (lv_at hl 1 rfl) ?_
                            refine lv_bipush (v := 6) hx hb dX10_best_197 (by decide) ?_
                            refine lv_idiv hx hb dX10_best_199 (by decide) ?_
                            refine lv_topi (fun x_115 e_116 => ?_)
                            have i_x_115 : x_115.toInt = yb.toInt / 6 := by rw [e_116]; exact q_divE (n := 6) rfl (by decide) (by omega)
                            refine lv_istore (lv' := [(11, .int x_115), (12, .int yq), (10, .int yf), (8, .long yl), (0, .ref a0), (1, .int a1), (2, .int a2), (3, .int a3), (4, .int a4), (5, .long a5), (7, .int a6)]) hx hb dX10_best_200 hl (by decide) rfl (fun ls hl => ?_)
                            obtain ⟨x_117, e_118⟩ : ∃ y : Int32, y = yq + Int32.ofInt 1 := ⟨_, rfl⟩
                            have i_x_117 : x_117.toInt = yq.toInt + 1 := by rw [e_118, show Int32.ofInt 1 = 1 by decide]; exact (q_add (by rw [show (1 : Int32).toInt = 1 by decide]; omega) (by rw [show (1 : Int32).toInt = 1 by decide]; omega)).trans (by rw [show (1 : Int32).toInt = 1 by decide])
                            refine lv_iinc (v := x_117) (lv' := [(12, .int x_117), (11, .int x_115), (10, .int yf), (8, .long yl), (0, .ref a0), (1, .int a1), (2, .int a2), (3, .int a3), (4, .int a4), (5, .long a5), (7, .int a6)]) hx hb dX10_best_202 hl (k := 1) rfl e_118.symm (by decide) rfl (fun ls hl => ?_)
                            refine lv_goto (tgt := 188) hx hb dX10_best_205 (by decide) ?_
                            exact (hWW105 _ _ _).mp (ih105 x_117 x_115 H locs ls (by omega) (by omega) hG hS (lv_sub hl [0, 1, 2, 3, 4, 5, 6, 7, 8, 9, 10] rfl))
                      have zi_0 : (0 : Int32).toInt = 0 := by decide
                      have zi_216 : (216 : Int32).toInt = 216 := by decide
                      exact lp105 (3 - (0 : Int32).toInt : Int).toNat 0 216 H locs ls (by omega) (by omega) hG hS (lv_sub hl [0, 1, 2, 3, 4, 5, 6, 7, 8, 9, 10] rfl)
                    · skip
                      have c_104 : yf.toInt < 0 := q_nle c_104
                      refine lv_ldc2 hx hb hown (hts (.constantLong RX10 311 (-4)) (List.mem_of_getElem? (i := 19) rfl)) dX10_best_176 ?_
                      refine lv_pc (pc2 := 179) rfl ?_
                      have zl_m4 : ((-4) : Int64).toInt = (-4) := by decide
                      exact tx_lret (z := (hm, hj)) hx hb hr hlk hG hS ⟨(by show 0 ≤ hm; omega), (by show hm ≤ 96; omega)⟩ dX10_best_179
                  have lp103 : ∀ (kk103 : Nat) (yc : Int32) (yf : Int32) (yl : Int64) (hm : Int) (hj : Int) (H1 : Heap) (locs1 : List Loc) (ls1 : Array Slot), 1296 - yc.toInt ≤ (kk103 : Int) → (0 ≤ yc.toInt) → (yc.toInt ≤ 1296) → (hm = gH) → tG D (mF cI cL cC gC gE gW gA gT gI gS gM K F S N hm hj ge gk gf gs gg gr RN) t H1 → tF t wmj s.heap H1 locs1 → lv_has ls1 14 [(11, .int yc), (10, .int yf), (8, .long yl), (0, .ref a0), (1, .int a1), (2, .int a2), (3, .int a3), (4, .int a4), (5, .long a5), (7, .int a6)] → WW103 H1 locs1 (F0 m 114 ls1 []) := by
                    intro kk103
                    induction kk103 with
                    | zero =>
                      intro yc yf yl hm hj H locs ls hk103 v103_0 v103_1 v103_2 hG hS hl
                      refine (hWW103 _ _ _).mpr ?_
                      refine lv_iload hx hb dX10_best_114 (lv_at hl 0 rfl) ?_
                      refine lv_sipush (v := 1296) hx hb dX10_best_116 (by decide) ?_
                      refine lv_icmp_ge (tgt := 171) hx hb dX10_best_119 (by decide) (fun c_119 => ?_) (fun c_119 => ?_)
                      · skip
                        have c_119 : 1296 ≤ yc.toInt := q_le c_119
                        exact (hWW103 _ _ _).mp (kx103 yc yf yl hm hj H locs ls v103_0 v103_1 v103_2 hG hS (lv_sub hl [0, 1, 2, 3, 4, 5, 6, 7, 8, 9] rfl))
                      · skip
                        have c_119 : yc.toInt < 1296 := q_nle c_119
                        exfalso; omega
                    | succ kk103 ih103 =>
                      intro yc yf yl hm hj H locs ls hk103 v103_0 v103_1 v103_2 hG hS hl
                      refine (hWW103 _ _ _).mpr ?_
                      refine lv_iload hx hb dX10_best_114 (lv_at hl 0 rfl) ?_
                      refine lv_sipush (v := 1296) hx hb dX10_best_116 (by decide) ?_
                      refine lv_icmp_ge (tgt := 171) hx hb dX10_best_119 (by decide) (fun c_120 => ?_) (fun c_120 => ?_)
                      · skip
                        have c_120 : 1296 ≤ yc.toInt := q_le c_120
                        exact (hWW103 _ _ _).mp (kx103 yc yf yl hm hj H locs ls v103_0 v103_1 v103_2 hG hS (lv_sub hl [0, 1, 2, 3, 4, 5, 6, 7, 8, 9] rfl))
                      · skip
                        have c_120 : yc.toInt < 1296 := q_nle c_120
                        refine lv_aload_n hx hb dX10_best_122 rfl (lv_at hl 3 rfl) ?_
                        refine lv_pc (pc2 := 123) rfl ?_
                        refine lv_iload_n hx hb dX10_best_123 rfl (lv_at hl 4 rfl) ?_
                        refine lv_iload_n hx hb dX10_best_124 rfl (lv_at hl 5 rfl) ?_
                        refine lv_iload_n hx hb dX10_best_125 rfl (lv_at hl 6 rfl) ?_
                        refine lv_iload hx hb dX10_best_126 (lv_at hl 7 rfl) ?_
                        refine lv_lload hx hb dX10_best_128 (lv_at hl 8 rfl) ?_
                        refine lv_iload hx hb dX10_best_130 (lv_at hl 0 rfl) ?_
                        obtain ⟨r_121, v_123, r_124, r_126, r_128, r_130, r_132, r_134, r_136, r_138, r_140, r_142, r_144, r_146, r_148, r_150, r_152, r_154, r_156, r_158, r_160, r_162, r_164, v_166, r_167, at_169, h_122, h_125, h_127, h_129, h_131, h_133, h_135, h_137, h_139, h_141, h_143, h_145, h_147, h_149, h_151, h_153, h_155, h_157, h_159, h_161, h_163, h_165, h_168⟩ := mF_o40 hG k_a0
                        refine tx_calll (W.runV (As := [.int a1, .int a2, .int a3, .int a4, .long a5, .int yc]) (rest := []) ⟨hx, hb, hml, hown, hts⟩ (m_X10_byOpenings l D t cI cL cC gC gE gW gA gT gI gS gM K F S N hm hj ge gk gf gs gg gr RN a0 a1 a2 a3 a4 a5 yc  uq (by omega) (by omega) (by omega) (by omega) hO0 (by omega) (by omega) (by omega) (by omega) (by omega) (by omega) (by omega) (by omega) (by omega) (by omega) (by omega) k_a0) (cwV 6 hts gu_X10_best_X10_byOpenings_307 rfl rfl rfl (by decide +kernel) ⟨Nat.le_of_ble_eq_true rfl, Nat.le_of_ble_eq_true rfl⟩) (tP_V hG hE at_169 rfl) rfl rfl hl.1 rfl (lv_room (Nat.le_of_ble_eq_true rfl)) dX10_best_132 ⟨Nat.le_of_ble_eq_true rfl, Nat.le_of_ble_eq_true rfl⟩) hS (fun _ h => h) (fun z_170 zz_173 H locs hp_171 hG hS o_172 => ?_)
                        obtain ⟨gH_174, gJ_175⟩ := zz_173
                        have at_169 := va_at.keptC at_169 o_172 k_a0 rfl
                        replace hG : tG D (mF cI cL cC gC gE gW gA gT gI gS gM K F S N gH_174 gJ_175 ge gk gf gs gg gr RN) t H := hG
                        have hp_171 : gH_174 = hm := hp_171
                        have p_176 := hp_171
                        refine lv_lstore (lv' := [(12, .long z_170), (11, .int yc), (10, .int yf), (8, .long yl), (0, .ref a0), (1, .int a1), (2, .int a2), (3, .int a3), (4, .int a4), (5, .long a5), (7, .int a6)]) hx hb dX10_best_135 hl (by decide) rfl (fun ls hl => ?_)
                        refine lv_pc (pc2 := 137) rfl ?_
                        refine lv_lload hx hb dX10_best_137 (lv_at hl 0 rfl) ?_
                        refine lv_lconst (v := 0) hx hb dX10_best_139 (by decide) ?_
                        refine W.lcmp hx hb dX10_best_140 ?_
                        refine lv_if_lt (tgt := 165) hx hb dX10_best_141 (by decide) (fun c_177 => ?_) (fun c_177 => ?_)
                        · skip
                          have c_177 : z_170.toInt < 0 := q_cmp_lt c_177
                          obtain ⟨x_178, e_179⟩ : ∃ y : Int32, y = yc + Int32.ofInt 1 := ⟨_, rfl⟩
                          have i_x_178 : x_178.toInt = yc.toInt + 1 := by rw [e_179, show Int32.ofInt 1 = 1 by decide]; exact (q_add (by rw [show (1 : Int32).toInt = 1 by decide]; omega) (by rw [show (1 : Int32).toInt = 1 by decide]; omega)).trans (by rw [show (1 : Int32).toInt = 1 by decide])
                          refine lv_iinc (v := x_178) (lv' := [(11, .int x_178), (12, .long z_170), (10, .int yf), (8, .long yl), (0, .ref a0), (1, .int a1), (2, .int a2), (3, .int a3), (4, .int a4), (5, .long a5), (7, .int a6)]) hx hb dX10_best_165 hl (k := 1) rfl e_179.symm (by decide) rfl (fun ls hl => ?_)
                          refine lv_goto (tgt := 114) hx hb dX10_best_168 (by decide) ?_
                          exact (hWW103 _ _ _).mp (ih103 x_178 yf yl gH_174 gJ_175 H locs ls (by omega) (by omega) (by omega) (by omega) hG hS (lv_sub hl [0, 2, 3, 4, 5, 6, 7, 8, 9, 10] rfl))
                        · skip
                          have c_177 : 0 ≤ z_170.toInt := q_cmp_nlt c_177
                          refine lv_iload hx hb dX10_best_144 (lv_at hl 2 rfl) ?_
                          refine lv_if_lt (tgt := 157) hx hb dX10_best_146 (by decide) (fun c_180 => ?_) (fun c_180 => ?_)
                          · skip
                            have c_180 : yf.toInt < 0 := q_lt c_180
                            refine lv_pc (pc2 := 157) rfl ?_
                            refine lv_lload hx hb dX10_best_157 (lv_at hl 0 rfl) ?_
                            refine lv_lstore (lv' := [(8, .long z_170), (12, .long z_170), (11, .int yc), (10, .int yf), (0, .ref a0), (1, .int a1), (2, .int a2), (3, .int a3), (4, .int a4), (5, .long a5), (7, .int a6)]) hx hb dX10_best_159 hl (by decide) rfl (fun ls hl => ?_)
                            refine lv_iload hx hb dX10_best_161 (lv_at hl 2 rfl) ?_
                            refine lv_istore (lv' := [(10, .int yc), (8, .long z_170), (12, .long z_170), (11, .int yc), (0, .ref a0), (1, .int a1), (2, .int a2), (3, .int a3), (4, .int a4), (5, .long a5), (7, .int a6)]) hx hb dX10_best_163 hl (by decide) rfl (fun ls hl => ?_)
                            obtain ⟨x_181, e_182⟩ : ∃ y : Int32, y = yc + Int32.ofInt 1 := ⟨_, rfl⟩
                            have i_x_181 : x_181.toInt = yc.toInt + 1 := by rw [e_182, show Int32.ofInt 1 = 1 by decide]; exact (q_add (by rw [show (1 : Int32).toInt = 1 by decide]; omega) (by rw [show (1 : Int32).toInt = 1 by decide]; omega)).trans (by rw [show (1 : Int32).toInt = 1 by decide])
                            refine lv_iinc (v := x_181) (lv' := [(11, .int x_181), (10, .int yc), (8, .long z_170), (12, .long z_170), (0, .ref a0), (1, .int a1), (2, .int a2), (3, .int a3), (4, .int a4), (5, .long a5), (7, .int a6)]) hx hb dX10_best_165 hl (k := 3) rfl e_182.symm (by decide) rfl (fun ls hl => ?_)
                            refine lv_goto (tgt := 114) hx hb dX10_best_168 (by decide) ?_
                            exact (hWW103 _ _ _).mp (ih103 x_181 yc z_170 gH_174 gJ_175 H locs ls (by omega) (by omega) (by omega) (by omega) hG hS (lv_sub hl [0, 1, 2, 4, 5, 6, 7, 8, 9, 10] rfl))
                          · skip
                            have c_180 : 0 ≤ yf.toInt := q_nlt c_180
                            refine lv_lload hx hb dX10_best_149 (lv_at hl 0 rfl) ?_
                            refine lv_lload hx hb dX10_best_151 (lv_at hl 3 rfl) ?_
                            refine lv_pc (pc2 := 153) rfl ?_
                            refine W.lcmp hx hb dX10_best_153 ?_
                            refine lv_if_ge (tgt := 165) hx hb dX10_best_154 (by decide) (fun c_183 => ?_) (fun c_183 => ?_)
                            · skip
                              have c_183 : yl.toInt ≤ z_170.toInt := q_cmp_ge c_183
                              obtain ⟨x_184, e_185⟩ : ∃ y : Int32, y = yc + Int32.ofInt 1 := ⟨_, rfl⟩
                              have i_x_184 : x_184.toInt = yc.toInt + 1 := by rw [e_185, show Int32.ofInt 1 = 1 by decide]; exact (q_add (by rw [show (1 : Int32).toInt = 1 by decide]; omega) (by rw [show (1 : Int32).toInt = 1 by decide]; omega)).trans (by rw [show (1 : Int32).toInt = 1 by decide])
                              refine lv_iinc (v := x_184) (lv' := [(11, .int x_184), (12, .long z_170), (10, .int yf), (8, .long yl), (0, .ref a0), (1, .int a1), (2, .int a2), (3, .int a3), (4, .int a4), (5, .long a5), (7, .int a6)]) hx hb dX10_best_165 hl (k := 1) rfl e_185.symm (by decide) rfl (fun ls hl => ?_)
                              refine lv_goto (tgt := 114) hx hb dX10_best_168 (by decide) ?_
                              exact (hWW103 _ _ _).mp (ih103 x_184 yf yl gH_174 gJ_175 H locs ls (by omega) (by omega) (by omega) (by omega) hG hS (lv_sub hl [0, 2, 3, 4, 5, 6, 7, 8, 9, 10] rfl))
                            · skip
                              have c_183 : z_170.toInt < yl.toInt := q_cmp_nge c_183
                              refine lv_lload hx hb dX10_best_157 (lv_at hl 0 rfl) ?_
                              refine lv_lstore (lv' := [(8, .long z_170), (12, .long z_170), (11, .int yc), (10, .int yf), (0, .ref a0), (1, .int a1), (2, .int a2), (3, .int a3), (4, .int a4), (5, .long a5), (7, .int a6)]) hx hb dX10_best_159 hl (by decide) rfl (fun ls hl => ?_)
                              refine lv_iload hx hb dX10_best_161 (lv_at hl 2 rfl) ?_
                              refine lv_istore (lv' := [(10, .int yc), (8, .long z_170), (12, .long z_170), (11, .int yc), (0, .ref a0), (1, .int a1), (2, .int a2), (3, .int a3), (4, .int a4), (5, .long a5), (7, .int a6)]) hx hb dX10_best_163 hl (by decide) rfl (fun ls hl => ?_)
                              refine lv_pc (pc2 := 165) rfl ?_
                              obtain ⟨x_186, e_187⟩ : ∃ y : Int32, y = yc + Int32.ofInt 1 := ⟨_, rfl⟩
                              have i_x_186 : x_186.toInt = yc.toInt + 1 := by rw [e_187, show Int32.ofInt 1 = 1 by decide]; exact (q_add (by rw [show (1 : Int32).toInt = 1 by decide]; omega) (by rw [show (1 : Int32).toInt = 1 by decide]; omega)).trans (by rw [show (1 : Int32).toInt = 1 by decide])
                              refine lv_iinc (v := x_186) (lv' := [(11, .int x_186), (10, .int yc), (8, .long z_170), (12, .long z_170), (0, .ref a0), (1, .int a1), (2, .int a2), (3, .int a3), (4, .int a4), (5, .long a5), (7, .int a6)]) hx hb dX10_best_165 hl (k := 3) rfl e_187.symm (by decide) rfl (fun ls hl => ?_)
                              refine lv_goto (tgt := 114) hx hb dX10_best_168 (by decide) ?_
                              exact (hWW103 _ _ _).mp (ih103 x_186 yc z_170 gH_174 gJ_175 H locs ls (by omega) (by omega) (by omega) (by omega) hG hS (lv_sub hl [0, 1, 2, 4, 5, 6, 7, 8, 9, 10] rfl))
                  have zi_0 : (0 : Int32).toInt = 0 := by decide
                  have zi_m4 : ((-4) : Int32).toInt = (-4) := by decide
                  exact lp103 (1296 - (0 : Int32).toInt : Int).toNat 0 (-4) (-1) gH gJ H locs ls (by omega) (by omega) (by omega) (by omega) hG hS (lv_sub hl [0, 1, 2, 3, 4, 5, 6, 7, 8, 9] rfl)
                · skip
                  refine lv_if_ne (tgt := 102) hx hb dX10_best_95 (by decide) (fun q => absurd rfl q) (fun _ => ?_)
                  refine lv_ldc2 hx hb hown (hts (.constantLong RX10 238 (-2)) (List.mem_of_getElem? (i := 14) rfl)) dX10_best_98 ?_
                  have zl_m2 : ((-2) : Int64).toInt = (-2) := by decide
                  exact tx_lret (z := (gH, gJ)) hx hb hr hlk hG hS ⟨(by show 0 ≤ gH; omega), (by show gH ≤ 96; omega)⟩ dX10_best_101
            · skip
              refine lv_if_eq (tgt := 98) hx hb dX10_best_76 (by decide) (fun _ => ?_) (fun q => absurd (by decide) q)
              refine lv_ldc2 hx hb hown (hts (.constantLong RX10 238 (-2)) (List.mem_of_getElem? (i := 14) rfl)) dX10_best_98 ?_
              have zl_m2 : ((-2) : Int64).toInt = (-2) := by decide
              exact tx_lret (z := (gH, gJ)) hx hb hr hlk hG hS ⟨(by show 0 ≤ gH; omega), (by show gH ≤ 96; omega)⟩ dX10_best_101
          · skip
            refine lv_pc (pc2 := 61) rfl ?_
            refine lv_if_ne (tgt := 68) hx hb dX10_best_61 (by decide) (fun q => absurd rfl q) (fun _ => ?_)
            refine lv_ldc2 hx hb hown (hts (.constantLong RX10 236 (-1)) (List.mem_of_getElem? (i := 7) rfl)) dX10_best_64 ?_
            exact tx_lret (z := (gH, gJ)) hx hb hr hlk hG hS ⟨(by show 0 ≤ gH; omega), (by show gH ≤ 96; omega)⟩ dX10_best_67
        · skip
          refine lv_if_eq (tgt := 64) hx hb dX10_best_46 (by decide) (fun _ => ?_) (fun q => absurd (by decide) q)
          refine lv_ldc2 hx hb hown (hts (.constantLong RX10 236 (-1)) (List.mem_of_getElem? (i := 7) rfl)) dX10_best_64 ?_
          have zl_m1 : ((-1) : Int64).toInt = (-1) := by decide
          exact tx_lret (z := (gH, gJ)) hx hb hr hlk hG hS ⟨(by show 0 ≤ gH; omega), (by show gH ≤ 96; omega)⟩ dX10_best_67
      · skip
        refine lv_if_eq (tgt := 64) hx hb dX10_best_33 (by decide) (fun _ => ?_) (fun q => absurd (by decide) q)
        refine lv_ldc2 hx hb hown (hts (.constantLong RX10 236 (-1)) (List.mem_of_getElem? (i := 7) rfl)) dX10_best_64 ?_
        refine lv_pc (pc2 := 67) rfl ?_
        have zl_m1 : ((-1) : Int64).toInt = (-1) := by decide
        exact tx_lret (z := (gH, gJ)) hx hb hr hlk hG hS ⟨(by show 0 ≤ gH; omega), (by show gH ≤ 96; omega)⟩ dX10_best_67
    · skip
      refine lv_if_eq (tgt := 64) hx hb dX10_best_21 (by decide) (fun _ => ?_) (fun q => absurd (by decide) q)
      refine lv_ldc2 hx hb hown (hts (.constantLong RX10 236 (-1)) (List.mem_of_getElem? (i := 7) rfl)) dX10_best_64 ?_
      have zl_m1 : ((-1) : Int64).toInt = (-1) := by decide
      exact tx_lret (z := (gH, gJ)) hx hb hr hlk hG hS ⟨(by show 0 ≤ gH; omega), (by show gH ≤ 96; omega)⟩ dX10_best_67
  · skip
    refine lv_if_eq (tgt := 64) hx hb dX10_best_9 (by decide) (fun _ => ?_) (fun q => absurd (by decide) q)
    refine lv_ldc2 hx hb hown (hts (.constantLong RX10 236 (-1)) (List.mem_of_getElem? (i := 7) rfl)) dX10_best_64 ?_
    have zl_m1 : ((-1) : Int64).toInt = (-1) := by decide
    exact tx_lret (z := (gH, gJ)) hx hb hr hlk hG hS ⟨(by show 0 ≤ gH; omega), (by show gH ≤ 96; omega)⟩ dX10_best_67
