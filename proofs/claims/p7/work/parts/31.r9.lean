theorem dX10_holds_0 : decode cX10_holds 0 = .ok (.aload_n 0, 1) := by decide +kernel
theorem dX10_holds_1 : decode cX10_holds 1 = .ok (.iconst 1, 1) := by decide +kernel
theorem dX10_holds_2 : decode cX10_holds 2 = .ok (.iconst 0, 1) := by decide +kernel
theorem dX10_holds_3 : decode cX10_holds 3 = .ok (.invokevirtual 170, 3) := by decide +kernel
theorem dX10_holds_6 : decode cX10_holds 6 = .ok (.iconst 0, 1) := by decide +kernel
theorem dX10_holds_7 : decode cX10_holds 7 = .ok (.istore_n 2, 1) := by decide +kernel
theorem dX10_holds_8 : decode cX10_holds 8 = .ok (.iload_n 2, 1) := by decide +kernel
theorem dX10_holds_9 : decode cX10_holds 9 = .ok (.iconst 2, 1) := by decide +kernel
theorem dX10_holds_10 : decode cX10_holds 10 = .ok (.if_icmp .ge 70, 3) := by decide +kernel
theorem dX10_holds_13 : decode cX10_holds 13 = .ok (.aload_n 0, 1) := by decide +kernel
theorem dX10_holds_14 : decode cX10_holds 14 = .ok (.getfield 59, 3) := by decide +kernel
theorem dX10_holds_17 : decode cX10_holds 17 = .ok (.iload_n 2, 1) := by decide +kernel
theorem dX10_holds_18 : decode cX10_holds 18 = .ok (.iaload, 1) := by decide +kernel
theorem dX10_holds_19 : decode cX10_holds 19 = .ok (.ifCond .le 55, 3) := by decide +kernel
theorem dX10_holds_22 : decode cX10_holds 22 = .ok (.aload_n 0, 1) := by decide +kernel
theorem dX10_holds_23 : decode cX10_holds 23 = .ok (.getfield 22, 3) := by decide +kernel
theorem dX10_holds_26 : decode cX10_holds 26 = .ok (.iconst 3, 1) := by decide +kernel
theorem dX10_holds_27 : decode cX10_holds 27 = .ok (.aload_n 0, 1) := by decide +kernel
theorem dX10_holds_28 : decode cX10_holds 28 = .ok (.getfield 47, 3) := by decide +kernel
theorem dX10_holds_31 : decode cX10_holds 31 = .ok (.iload_n 2, 1) := by decide +kernel
theorem dX10_holds_32 : decode cX10_holds 32 = .ok (.iaload, 1) := by decide +kernel
theorem dX10_holds_33 : decode cX10_holds 33 = .ok (.imul, 1) := by decide +kernel
theorem dX10_holds_34 : decode cX10_holds 34 = .ok (.aload_n 0, 1) := by decide +kernel
theorem dX10_holds_35 : decode cX10_holds 35 = .ok (.getfield 50, 3) := by decide +kernel
theorem dX10_holds_38 : decode cX10_holds 38 = .ok (.iload_n 2, 1) := by decide +kernel
theorem dX10_holds_39 : decode cX10_holds 39 = .ok (.iaload, 1) := by decide +kernel
theorem dX10_holds_40 : decode cX10_holds 40 = .ok (.iadd, 1) := by decide +kernel
theorem dX10_holds_41 : decode cX10_holds 41 = .ok (.iaload, 1) := by decide +kernel
theorem dX10_holds_42 : decode cX10_holds 42 = .ok (.ifCond .lt 32, 3) := by decide +kernel
theorem dX10_holds_45 : decode cX10_holds 45 = .ok (.aload_n 0, 1) := by decide +kernel
theorem dX10_holds_46 : decode cX10_holds 46 = .ok (.getfield 22, 3) := by decide +kernel
theorem dX10_holds_49 : decode cX10_holds 49 = .ok (.bipush 120, 2) := by decide +kernel
theorem dX10_holds_51 : decode cX10_holds 51 = .ok (.iconst 3, 1) := by decide +kernel
theorem dX10_holds_52 : decode cX10_holds 52 = .ok (.aload_n 0, 1) := by decide +kernel
theorem dX10_holds_53 : decode cX10_holds 53 = .ok (.getfield 47, 3) := by decide +kernel
theorem dX10_holds_56 : decode cX10_holds 56 = .ok (.iload_n 2, 1) := by decide +kernel
theorem dX10_holds_57 : decode cX10_holds 57 = .ok (.iaload, 1) := by decide +kernel
theorem dX10_holds_58 : decode cX10_holds 58 = .ok (.imul, 1) := by decide +kernel
theorem dX10_holds_59 : decode cX10_holds 59 = .ok (.iadd, 1) := by decide +kernel
theorem dX10_holds_60 : decode cX10_holds 60 = .ok (.aload_n 0, 1) := by decide +kernel
theorem dX10_holds_61 : decode cX10_holds 61 = .ok (.getfield 50, 3) := by decide +kernel
theorem dX10_holds_64 : decode cX10_holds 64 = .ok (.iload_n 2, 1) := by decide +kernel
theorem dX10_holds_65 : decode cX10_holds 65 = .ok (.iaload, 1) := by decide +kernel
theorem dX10_holds_66 : decode cX10_holds 66 = .ok (.iadd, 1) := by decide +kernel
theorem dX10_holds_67 : decode cX10_holds 67 = .ok (.aload_n 0, 1) := by decide +kernel
theorem dX10_holds_68 : decode cX10_holds 68 = .ok (.iload_n 2, 1) := by decide +kernel
theorem dX10_holds_69 : decode cX10_holds 69 = .ok (.iload_n 1, 1) := by decide +kernel
theorem dX10_holds_70 : decode cX10_holds 70 = .ok (.invokevirtual 268, 3) := by decide +kernel
theorem dX10_holds_73 : decode cX10_holds 73 = .ok (.iastore, 1) := by decide +kernel
theorem dX10_holds_74 : decode cX10_holds 74 = .ok (.iinc 2 1, 3) := by decide +kernel
theorem dX10_holds_77 : decode cX10_holds 77 = .ok (.goto (-69), 3) := by decide +kernel
theorem dX10_holds_80 : decode cX10_holds 80 = .ok (.iconst 0, 1) := by decide +kernel
theorem dX10_holds_81 : decode cX10_holds 81 = .ok (.istore_n 2, 1) := by decide +kernel
theorem dX10_holds_82 : decode cX10_holds 82 = .ok (.iload_n 2, 1) := by decide +kernel
theorem dX10_holds_83 : decode cX10_holds 83 = .ok (.aload_n 0, 1) := by decide +kernel
theorem dX10_holds_84 : decode cX10_holds 84 = .ok (.getfield 163, 3) := by decide +kernel
theorem dX10_holds_87 : decode cX10_holds 87 = .ok (.if_icmp .ge 55, 3) := by decide +kernel
theorem dX10_holds_90 : decode cX10_holds 90 = .ok (.iconst 3, 1) := by decide +kernel
theorem dX10_holds_91 : decode cX10_holds 91 = .ok (.bipush 40, 2) := by decide +kernel
theorem dX10_holds_93 : decode cX10_holds 93 = .ok (.iload_n 2, 1) := by decide +kernel
theorem dX10_holds_94 : decode cX10_holds 94 = .ok (.iadd, 1) := by decide +kernel
theorem dX10_holds_95 : decode cX10_holds 95 = .ok (.imul, 1) := by decide +kernel
theorem dX10_holds_96 : decode cX10_holds 96 = .ok (.istore_n 3, 1) := by decide +kernel
theorem dX10_holds_97 : decode cX10_holds 97 = .ok (.aload_n 0, 1) := by decide +kernel
theorem dX10_holds_98 : decode cX10_holds 98 = .ok (.getfield 13, 3) := by decide +kernel
theorem dX10_holds_101 : decode cX10_holds 101 = .ok (.bipush 40, 2) := by decide +kernel
theorem dX10_holds_103 : decode cX10_holds 103 = .ok (.iload_n 2, 1) := by decide +kernel
theorem dX10_holds_104 : decode cX10_holds 104 = .ok (.iadd, 1) := by decide +kernel
theorem dX10_holds_105 : decode cX10_holds 105 = .ok (.iaload, 1) := by decide +kernel
theorem dX10_holds_106 : decode cX10_holds 106 = .ok (.aload_n 0, 1) := by decide +kernel
theorem dX10_holds_107 : decode cX10_holds 107 = .ok (.getfield 22, 3) := by decide +kernel
theorem dX10_holds_110 : decode cX10_holds 110 = .ok (.iload_n 3, 1) := by decide +kernel
theorem dX10_holds_111 : decode cX10_holds 111 = .ok (.iaload, 1) := by decide +kernel
theorem dX10_holds_112 : decode cX10_holds 112 = .ok (.aload_n 0, 1) := by decide +kernel
theorem dX10_holds_113 : decode cX10_holds 113 = .ok (.getfield 22, 3) := by decide +kernel
theorem dX10_holds_116 : decode cX10_holds 116 = .ok (.iload_n 3, 1) := by decide +kernel
theorem dX10_holds_117 : decode cX10_holds 117 = .ok (.iconst 1, 1) := by decide +kernel
theorem dX10_holds_118 : decode cX10_holds 118 = .ok (.iadd, 1) := by decide +kernel
theorem dX10_holds_119 : decode cX10_holds 119 = .ok (.iaload, 1) := by decide +kernel
theorem dX10_holds_120 : decode cX10_holds 120 = .ok (.aload_n 0, 1) := by decide +kernel
theorem dX10_holds_121 : decode cX10_holds 121 = .ok (.getfield 22, 3) := by decide +kernel
theorem dX10_holds_124 : decode cX10_holds 124 = .ok (.iload_n 3, 1) := by decide +kernel
theorem dX10_holds_125 : decode cX10_holds 125 = .ok (.iconst 2, 1) := by decide +kernel
theorem dX10_holds_126 : decode cX10_holds 126 = .ok (.iadd, 1) := by decide +kernel
theorem dX10_holds_127 : decode cX10_holds 127 = .ok (.iaload, 1) := by decide +kernel
theorem dX10_holds_128 : decode cX10_holds 128 = .ok (.invokestatic 144, 3) := by decide +kernel
theorem dX10_holds_131 : decode cX10_holds 131 = .ok (.ifCond .ne 5, 3) := by decide +kernel
theorem dX10_holds_134 : decode cX10_holds 134 = .ok (.iconst 0, 1) := by decide +kernel
theorem dX10_holds_135 : decode cX10_holds 135 = .ok (.ireturn, 1) := by decide +kernel
theorem dX10_holds_136 : decode cX10_holds 136 = .ok (.iinc 2 1, 3) := by decide +kernel
theorem dX10_holds_139 : decode cX10_holds 139 = .ok (.goto (-57), 3) := by decide +kernel
theorem dX10_holds_142 : decode cX10_holds 142 = .ok (.aload_n 0, 1) := by decide +kernel
theorem dX10_holds_143 : decode cX10_holds 143 = .ok (.invokevirtual 271, 3) := by decide +kernel
theorem dX10_holds_146 : decode cX10_holds 146 = .ok (.istore_n 2, 1) := by decide +kernel
theorem dX10_holds_147 : decode cX10_holds 147 = .ok (.iconst 1, 1) := by decide +kernel
theorem dX10_holds_148 : decode cX10_holds 148 = .ok (.istore_n 3, 1) := by decide +kernel
theorem dX10_holds_149 : decode cX10_holds 149 = .ok (.aload_n 0, 1) := by decide +kernel
theorem dX10_holds_150 : decode cX10_holds 150 = .ok (.invokevirtual 274, 3) := by decide +kernel
theorem dX10_holds_153 : decode cX10_holds 153 = .ok (.aload_n 0, 1) := by decide +kernel
theorem dX10_holds_154 : decode cX10_holds 154 = .ok (.iconst 1, 1) := by decide +kernel
theorem dX10_holds_155 : decode cX10_holds 155 = .ok (.iconst 0, 1) := by decide +kernel
theorem dX10_holds_156 : decode cX10_holds 156 = .ok (.invokevirtual 186, 3) := by decide +kernel
theorem dX10_holds_159 : decode cX10_holds 159 = .ok (.iconst 0, 1) := by decide +kernel
theorem dX10_holds_160 : decode cX10_holds 160 = .ok (.istore 4, 2) := by decide +kernel
theorem dX10_holds_162 : decode cX10_holds 162 = .ok (.iload 4, 2) := by decide +kernel
theorem dX10_holds_164 : decode cX10_holds 164 = .ok (.iload_n 2, 1) := by decide +kernel
theorem dX10_holds_165 : decode cX10_holds 165 = .ok (.if_icmp .gt 99, 3) := by decide +kernel
theorem dX10_holds_168 : decode cX10_holds 168 = .ok (.iload_n 3, 1) := by decide +kernel
theorem dX10_holds_169 : decode cX10_holds 169 = .ok (.ifCond .eq 95, 3) := by decide +kernel
theorem dX10_holds_172 : decode cX10_holds 172 = .ok (.aload_n 0, 1) := by decide +kernel
theorem dX10_holds_173 : decode cX10_holds 173 = .ok (.iconst 1, 1) := by decide +kernel
theorem dX10_holds_174 : decode cX10_holds 174 = .ok (.iconst 0, 1) := by decide +kernel
theorem dX10_holds_175 : decode cX10_holds 175 = .ok (.invokevirtual 231, 3) := by decide +kernel
theorem dX10_holds_178 : decode cX10_holds 178 = .ok (.iconst 0, 1) := by decide +kernel
theorem dX10_holds_179 : decode cX10_holds 179 = .ok (.istore 5, 2) := by decide +kernel
theorem dX10_holds_181 : decode cX10_holds 181 = .ok (.iload 5, 2) := by decide +kernel
theorem dX10_holds_183 : decode cX10_holds 183 = .ok (.iconst 4, 1) := by decide +kernel
theorem dX10_holds_184 : decode cX10_holds 184 = .ok (.if_icmp .ge 74, 3) := by decide +kernel
theorem dX10_holds_187 : decode cX10_holds 187 = .ok (.aload_n 0, 1) := by decide +kernel
theorem dX10_holds_188 : decode cX10_holds 188 = .ok (.getfield 44, 3) := by decide +kernel
theorem dX10_holds_191 : decode cX10_holds 191 = .ok (.bipush 96, 2) := by decide +kernel
theorem dX10_holds_193 : decode cX10_holds 193 = .ok (.iload 5, 2) := by decide +kernel
theorem dX10_holds_195 : decode cX10_holds 195 = .ok (.imul, 1) := by decide +kernel
theorem dX10_holds_196 : decode cX10_holds 196 = .ok (.iload 4, 2) := by decide +kernel
theorem dX10_holds_198 : decode cX10_holds 198 = .ok (.iadd, 1) := by decide +kernel
theorem dX10_holds_199 : decode cX10_holds 199 = .ok (.iaload, 1) := by decide +kernel
theorem dX10_holds_200 : decode cX10_holds 200 = .ok (.istore 6, 2) := by decide +kernel
theorem dX10_holds_202 : decode cX10_holds 202 = .ok (.iload 6, 2) := by decide +kernel
theorem dX10_holds_204 : decode cX10_holds 204 = .ok (.ifCond .ge 7, 3) := by decide +kernel
theorem dX10_holds_207 : decode cX10_holds 207 = .ok (.lconst 0, 1) := by decide +kernel
theorem dX10_holds_208 : decode cX10_holds 208 = .ok (.goto 13, 3) := by decide +kernel
theorem dX10_holds_211 : decode cX10_holds 211 = .ok (.aload_n 0, 1) := by decide +kernel
theorem dX10_holds_212 : decode cX10_holds 212 = .ok (.iload 5, 2) := by decide +kernel
theorem dX10_holds_214 : decode cX10_holds 214 = .ok (.invokevirtual 251, 3) := by decide +kernel
theorem dX10_holds_217 : decode cX10_holds 217 = .ok (.iload 6, 2) := by decide +kernel
theorem dX10_holds_219 : decode cX10_holds 219 = .ok (.i2l, 1) := by decide +kernel
theorem dX10_holds_220 : decode cX10_holds 220 = .ok (.lsub, 1) := by decide +kernel
theorem dX10_holds_221 : decode cX10_holds 221 = .ok (.lstore 7, 2) := by decide +kernel
theorem dX10_holds_223 : decode cX10_holds 223 = .ok (.iload_n 3, 1) := by decide +kernel
theorem dX10_holds_224 : decode cX10_holds 224 = .ok (.ifCond .eq 26, 3) := by decide +kernel
theorem dX10_holds_227 : decode cX10_holds 227 = .ok (.lload 7, 2) := by decide +kernel
theorem dX10_holds_229 : decode cX10_holds 229 = .ok (.aload_n 0, 1) := by decide +kernel
theorem dX10_holds_230 : decode cX10_holds 230 = .ok (.getfield 258, 3) := by decide +kernel
theorem dX10_holds_233 : decode cX10_holds 233 = .ok (.ineg, 1) := by decide +kernel
theorem dX10_holds_234 : decode cX10_holds 234 = .ok (.i2l, 1) := by decide +kernel
theorem dX10_holds_235 : decode cX10_holds 235 = .ok (.aload_n 0, 1) := by decide +kernel
theorem dX10_holds_236 : decode cX10_holds 236 = .ok (.getfield 258, 3) := by decide +kernel
theorem dX10_holds_239 : decode cX10_holds 239 = .ok (.i2l, 1) := by decide +kernel
theorem dX10_holds_240 : decode cX10_holds 240 = .ok (.invokestatic 85, 3) := by decide +kernel
theorem dX10_holds_243 : decode cX10_holds 243 = .ok (.ifCond .eq 7, 3) := by decide +kernel
theorem dX10_holds_246 : decode cX10_holds 246 = .ok (.iconst 1, 1) := by decide +kernel
theorem dX10_holds_247 : decode cX10_holds 247 = .ok (.goto 4, 3) := by decide +kernel
theorem dX10_holds_250 : decode cX10_holds 250 = .ok (.iconst 0, 1) := by decide +kernel
theorem dX10_holds_251 : decode cX10_holds 251 = .ok (.istore_n 3, 1) := by decide +kernel
theorem dX10_holds_252 : decode cX10_holds 252 = .ok (.iinc 5 1, 3) := by decide +kernel
theorem dX10_holds_255 : decode cX10_holds 255 = .ok (.goto (-74), 3) := by decide +kernel
theorem dX10_holds_258 : decode cX10_holds 258 = .ok (.iinc 4 1, 3) := by decide +kernel
theorem dX10_holds_261 : decode cX10_holds 261 = .ok (.goto (-99), 3) := by decide +kernel
theorem dX10_holds_264 : decode cX10_holds 264 = .ok (.aload_n 0, 1) := by decide +kernel
theorem dX10_holds_265 : decode cX10_holds 265 = .ok (.invokevirtual 277, 3) := by decide +kernel
theorem dX10_holds_268 : decode cX10_holds 268 = .ok (.iload_n 3, 1) := by decide +kernel
theorem dX10_holds_269 : decode cX10_holds 269 = .ok (.ireturn, 1) := by decide +kernel
theorem dX10_fitsTo_0 : decode cX10_fitsTo 0 = .ok (.iconst 0, 1) := by decide +kernel
theorem dX10_fitsTo_1 : decode cX10_fitsTo 1 = .ok (.istore_n 2, 1) := by decide +kernel
theorem dX10_fitsTo_2 : decode cX10_fitsTo 2 = .ok (.aload_n 0, 1) := by decide +kernel
theorem dX10_fitsTo_3 : decode cX10_fitsTo 3 = .ok (.iconst 0, 1) := by decide +kernel
theorem dX10_fitsTo_4 : decode cX10_fitsTo 4 = .ok (.invokevirtual 265, 3) := by decide +kernel
theorem dX10_fitsTo_7 : decode cX10_fitsTo 7 = .ok (.aload_n 0, 1) := by decide +kernel
theorem dX10_fitsTo_8 : decode cX10_fitsTo 8 = .ok (.iconst 1, 1) := by decide +kernel
theorem dX10_fitsTo_9 : decode cX10_fitsTo 9 = .ok (.invokevirtual 265, 3) := by decide +kernel
theorem dX10_fitsTo_12 : decode cX10_fitsTo 12 = .ok (.imul, 1) := by decide +kernel
theorem dX10_fitsTo_13 : decode cX10_fitsTo 13 = .ok (.istore_n 3, 1) := by decide +kernel
theorem dX10_fitsTo_14 : decode cX10_fitsTo 14 = .ok (.iconst 0, 1) := by decide +kernel
theorem dX10_fitsTo_15 : decode cX10_fitsTo 15 = .ok (.istore 4, 2) := by decide +kernel
theorem dX10_fitsTo_17 : decode cX10_fitsTo 17 = .ok (.iload 4, 2) := by decide +kernel
theorem dX10_fitsTo_19 : decode cX10_fitsTo 19 = .ok (.iload_n 3, 1) := by decide +kernel
theorem dX10_fitsTo_20 : decode cX10_fitsTo 20 = .ok (.if_icmp .ge 36, 3) := by decide +kernel
theorem dX10_fitsTo_23 : decode cX10_fitsTo 23 = .ok (.aload_n 0, 1) := by decide +kernel
theorem dX10_fitsTo_24 : decode cX10_fitsTo 24 = .ok (.iload 4, 2) := by decide +kernel
theorem dX10_fitsTo_26 : decode cX10_fitsTo 26 = .ok (.invokevirtual 280, 3) := by decide +kernel
theorem dX10_fitsTo_29 : decode cX10_fitsTo 29 = .ok (.ifCond .eq 21, 3) := by decide +kernel
theorem dX10_fitsTo_32 : decode cX10_fitsTo 32 = .ok (.iload_n 2, 1) := by decide +kernel
theorem dX10_fitsTo_33 : decode cX10_fitsTo 33 = .ok (.iload_n 1, 1) := by decide +kernel
theorem dX10_fitsTo_34 : decode cX10_fitsTo 34 = .ok (.if_icmp .ne 13, 3) := by decide +kernel
theorem dX10_fitsTo_37 : decode cX10_fitsTo 37 = .ok (.aload_n 0, 1) := by decide +kernel
theorem dX10_fitsTo_38 : decode cX10_fitsTo 38 = .ok (.iload 4, 2) := by decide +kernel
theorem dX10_fitsTo_40 : decode cX10_fitsTo 40 = .ok (.putfield 283, 3) := by decide +kernel
theorem dX10_fitsTo_43 : decode cX10_fitsTo 43 = .ok (.iload_n 2, 1) := by decide +kernel
theorem dX10_fitsTo_44 : decode cX10_fitsTo 44 = .ok (.iconst 1, 1) := by decide +kernel
theorem dX10_fitsTo_45 : decode cX10_fitsTo 45 = .ok (.iadd, 1) := by decide +kernel
theorem dX10_fitsTo_46 : decode cX10_fitsTo 46 = .ok (.ireturn, 1) := by decide +kernel
theorem dX10_fitsTo_47 : decode cX10_fitsTo 47 = .ok (.iinc 2 1, 3) := by decide +kernel
theorem dX10_fitsTo_50 : decode cX10_fitsTo 50 = .ok (.iinc 4 1, 3) := by decide +kernel
theorem dX10_fitsTo_53 : decode cX10_fitsTo 53 = .ok (.goto (-36), 3) := by decide +kernel
theorem dX10_fitsTo_56 : decode cX10_fitsTo 56 = .ok (.iload_n 2, 1) := by decide +kernel
theorem dX10_fitsTo_57 : decode cX10_fitsTo 57 = .ok (.ireturn, 1) := by decide +kernel
theorem dX10_fits_0 : decode cX10_fits 0 = .ok (.aload_n 0, 1) := by decide +kernel
theorem dX10_fits_1 : decode cX10_fits 1 = .ok (.getfield 173, 3) := by decide +kernel
theorem dX10_fits_4 : decode cX10_fits 4 = .ok (.ifCond .eq 11, 3) := by decide +kernel
theorem dX10_fits_7 : decode cX10_fits 7 = .ok (.aload_n 0, 1) := by decide +kernel
theorem dX10_fits_8 : decode cX10_fits 8 = .ok (.iconst (-1), 1) := by decide +kernel
theorem dX10_fits_9 : decode cX10_fits 9 = .ok (.invokevirtual 286, 3) := by decide +kernel
theorem dX10_fits_12 : decode cX10_fits 12 = .ok (.goto 5, 3) := by decide +kernel
theorem dX10_fits_15 : decode cX10_fits 15 = .ok (.bipush (-2), 2) := by decide +kernel
theorem dX10_fits_17 : decode cX10_fits 17 = .ok (.ireturn, 1) := by decide +kernel
theorem dX10_fit_0 : decode cX10_fit 0 = .ok (.iload_n 1, 1) := by decide +kernel
theorem dX10_fit_1 : decode cX10_fit 1 = .ok (.ifCond .lt 13, 3) := by decide +kernel
theorem dX10_fit_4 : decode cX10_fit 4 = .ok (.iload_n 2, 1) := by decide +kernel
theorem dX10_fit_5 : decode cX10_fit 5 = .ok (.i2l, 1) := by decide +kernel
theorem dX10_fit_6 : decode cX10_fit 6 = .ok (.lconst 0, 1) := by decide +kernel
theorem dX10_fit_7 : decode cX10_fit 7 = .ok (.lconst 1, 1) := by decide +kernel
theorem dX10_fit_8 : decode cX10_fit 8 = .ok (.invokestatic 85, 3) := by decide +kernel
theorem dX10_fit_11 : decode cX10_fit 11 = .ok (.ifCond .ne 5, 3) := by decide +kernel
theorem dX10_fit_14 : decode cX10_fit 14 = .ok (.iconst (-1), 1) := by decide +kernel
theorem dX10_fit_15 : decode cX10_fit 15 = .ok (.ireturn, 1) := by decide +kernel
theorem dX10_fit_16 : decode cX10_fit 16 = .ok (.aload_n 0, 1) := by decide +kernel
theorem dX10_fit_17 : decode cX10_fit 17 = .ok (.getfield 173, 3) := by decide +kernel
theorem dX10_fit_20 : decode cX10_fit 20 = .ok (.ifCond .ne 6, 3) := by decide +kernel
theorem dX10_fit_23 : decode cX10_fit 23 = .ok (.bipush (-2), 2) := by decide +kernel
theorem dX10_fit_25 : decode cX10_fit 25 = .ok (.ireturn, 1) := by decide +kernel
theorem dX10_fit_26 : decode cX10_fit 26 = .ok (.aload_n 0, 1) := by decide +kernel
theorem dX10_fit_27 : decode cX10_fit 27 = .ok (.getfield 59, 3) := by decide +kernel
theorem dX10_fit_30 : decode cX10_fit 30 = .ok (.iload_n 2, 1) := by decide +kernel
theorem dX10_fit_31 : decode cX10_fit 31 = .ok (.iaload, 1) := by decide +kernel
theorem dX10_fit_32 : decode cX10_fit 32 = .ok (.ifCond .eq 12, 3) := by decide +kernel
theorem dX10_fit_35 : decode cX10_fit 35 = .ok (.aload_n 0, 1) := by decide +kernel
theorem dX10_fit_36 : decode cX10_fit 36 = .ok (.iload_n 1, 1) := by decide +kernel
theorem dX10_fit_37 : decode cX10_fit 37 = .ok (.invokevirtual 286, 3) := by decide +kernel
theorem dX10_fit_40 : decode cX10_fit 40 = .ok (.iload_n 1, 1) := by decide +kernel
theorem dX10_fit_41 : decode cX10_fit 41 = .ok (.if_icmp .gt 8, 3) := by decide +kernel
theorem dX10_fit_44 : decode cX10_fit 44 = .ok (.bipush (-4), 2) := by decide +kernel
theorem dX10_fit_46 : decode cX10_fit 46 = .ok (.goto 12, 3) := by decide +kernel
theorem dX10_fit_49 : decode cX10_fit 49 = .ok (.aload_n 0, 1) := by decide +kernel
theorem dX10_fit_50 : decode cX10_fit 50 = .ok (.iload_n 2, 1) := by decide +kernel
theorem dX10_fit_51 : decode cX10_fit 51 = .ok (.aload_n 0, 1) := by decide +kernel
theorem dX10_fit_52 : decode cX10_fit 52 = .ok (.getfield 283, 3) := by decide +kernel
theorem dX10_fit_55 : decode cX10_fit 55 = .ok (.invokevirtual 268, 3) := by decide +kernel
theorem dX10_fit_58 : decode cX10_fit 58 = .ok (.ireturn, 1) := by decide +kernel
def uX10_holds : List Cond := .code yX10_holds cX10_holds 9 (some .boolean) :: ([.methodLink RX10 170 yX10_copies, .instanceMethod yX10_copies, .selects RX10 yX10_copies yX10_copies, .initialized RX10, .methodLink RX10 271 yX10_lastSeen, .instanceMethod yX10_lastSeen, .selects RX10 yX10_lastSeen yX10_lastSeen, .methodLink RX10 274 yX10_asides, .instanceMethod yX10_asides, .selects RX10 yX10_asides yX10_asides, .methodLink RX10 186 yX10_begins, .instanceMethod yX10_begins, .selects RX10 yX10_begins yX10_begins, .methodLink RX10 277 yX10_returns, .instanceMethod yX10_returns, .selects RX10 yX10_returns yX10_returns, .methodLink RX10 231 yX10_goes, .instanceMethod yX10_goes, .selects RX10 yX10_goes yX10_goes, .fieldLink RX10 44 "RiverModelModel" "seen" "[I", .methodLink RX10 251 yX10_reading, .instanceMethod yX10_reading, .selects RX10 yX10_reading yX10_reading, .fieldLink RX10 258 "RiverModelModel" "ends" "I", .methodLink RX10 85 yX10_in, .static yX10_in, .fieldLink RX10 163 "RiverModelModel" "items" "I", .fieldLink RX10 13 "RiverModelModel" "kind" "[I", .fieldLink RX10 22 "RiverModelModel" "number" "[I", .methodLink RX10 144 yX10_areWell, .static yX10_areWell, .fieldLink RX10 59 "RiverModelModel" "knobMany" "[I", .fieldLink RX10 47 "RiverModelModel" "knobItem" "[I", .fieldLink RX10 50 "RiverModelModel" "knobAt" "[I", .methodLink RX10 268 yX10_knobValue, .instanceMethod yX10_knobValue, .selects RX10 yX10_knobValue yX10_knobValue, .code yX10_copies cX10_copies 4 none, .fieldLink RX10 16 "RiverModelModel" "first" "[I", .fieldLink RX10 19 "RiverModelModel" "second" "[I", .code yX10_lastSeen cX10_lastSeen 3 (some .int), .code yX10_asides cX10_asides 2 none, .fieldLink RX10 32 "RiverModelModel" "aside" "[J", .fieldLink RX10 28 "RiverModelModel" "m" "[J", .code yX10_begins cX10_begins 4 none, .methodLink RX10 183 yX10_startOf, .instanceMethod yX10_startOf, .selects RX10 yX10_startOf yX10_startOf, .methodLink RX10 208 yX10_isStore, .instanceMethod yX10_isStore, .selects RX10 yX10_isStore yX10_isStore, .fieldLink RX10 71 "RiverModelModel" "startB" "[I", .constantLong RX10 204 (224), .constantLong RX10 206 (227), .constantLong RX10 196 (5), .code yX10_startOf cX10_startOf 4 (some .int), .methodLink RX10 166 yX10_storeAt, .instanceMethod yX10_storeAt, .selects RX10 yX10_storeAt yX10_storeAt, .code yX10_storeAt cX10_storeAt 5 (some .int), .code yX10_isStore cX10_isStore 2 (some .boolean), .code yX10_in cX10_in 6 (some .boolean), .code yX10_returns cX10_returns 2 none, .code yX10_goes cX10_goes 4 none, .fieldLink RX10 25 "RiverModelModel" "weather" "[I", .methodLink RX10 225 yX10_passes, .instanceMethod yX10_passes, .selects RX10 yX10_passes yX10_passes, .code yX10_passes cX10_passes 12 none, .methodLink RX10 221 yX10_moves, .instanceMethod yX10_moves, .selects RX10 yX10_moves yX10_moves, .code yX10_moves cX10_moves 8 (some .long), .constantLong RX10 219 (10), .methodLink RX10 215 yX10_most, .instanceMethod yX10_most, .selects RX10 yX10_most yX10_most, .constantLong RX10 107 (100), .methodLink RX10 211 yX10_capacity, .instanceMethod yX10_capacity, .selects RX10 yX10_capacity yX10_capacity, .code yX10_most cX10_most 4 (some .long), .code yX10_capacity cX10_capacity 3 (some .long), .code yX10_reading cX10_reading 2 (some .long), .fieldLink RX10 38 "RiverModelModel" "gaugeKind" "[I", .fieldLink RX10 41 "RiverModelModel" "gaugeAt" "[I", .code yX10_areWell cX10_areWell 4 (some .boolean), .constantLong RX10 101 (1000), .constantLong RX10 103 (10000), .constantLong RX10 99 (1000000), .constantLong RX10 105 (12), .code yX10_knobValue cX10_knobValue 4 (some .int), .methodLink RX10 265 yX10_knobs, .instanceMethod yX10_knobs, .selects RX10 yX10_knobs yX10_knobs, .fieldLink RX10 53 "RiverModelModel" "knobFrom" "[I", .fieldLink RX10 56 "RiverModelModel" "knobStep" "[I", .code yX10_knobs cX10_knobs 2 (some .int)] ++ wsX100)
set_option maxRecDepth 20000 in
theorem gu_X10_holds_X10_copies_170 : GoodIn uX10_holds (wsV RX10 170 RX10 yX10_copies uX10_copies) := goodIn_r _ [1, 2, 3, 4, 38, 29, 28, 39, 40, 99, 100, 101, 102, 103, 104, 105, 106, 107, 108, 109, 110, 111, 112, 113, 114, 115, 116, 117, 118, 119, 120, 121, 122, 123, 124, 125, 126, 127, 128, 129, 130, 131, 132, 133, 134] (by decide +kernel) (by decide +kernel)
set_option maxRecDepth 20000 in
theorem gu_X10_holds_X10_lastSeen_271 : GoodIn uX10_holds (wsV RX10 271 RX10 yX10_lastSeen uX10_lastSeen) := goodIn_r _ [5, 6, 7, 4, 41, 20, 99, 100, 101, 102, 103, 104, 105, 106, 107, 108, 109, 110, 111, 112, 113, 114, 115, 116, 117, 118, 119, 120, 121, 122, 123, 124, 125, 126, 127, 128, 129, 130, 131, 132, 133, 134] (by decide +kernel) (by decide +kernel)
set_option maxRecDepth 20000 in
theorem gu_X10_holds_X10_asides_274 : GoodIn uX10_holds (wsV RX10 274 RX10 yX10_asides uX10_asides) := goodIn_r _ [8, 9, 10, 4, 42, 43, 44, 99, 100, 101, 102, 103, 104, 105, 106, 107, 108, 109, 110, 111, 112, 113, 114, 115, 116, 117, 118, 119, 120, 121, 122, 123, 124, 125, 126, 127, 128, 129, 130, 131, 132, 133, 134] (by decide +kernel) (by decide +kernel)
set_option maxRecDepth 20000 in
theorem gu_X10_holds_X10_begins_186 : GoodIn uX10_holds (wsV RX10 186 RX10 yX10_begins uX10_begins) := goodIn_r _ [11, 12, 13, 4, 45, 44, 46, 47, 48, 4, 49, 50, 51, 52, 53, 54, 25, 26, 55, 56, 57, 58, 59, 29, 60, 27, 28, 39, 61, 62, 99, 100, 101, 102, 103, 104, 105, 106, 107, 108, 109, 110, 111, 112, 113, 114, 115, 116, 117, 118, 119, 120, 121, 122, 123, 124, 125, 126, 127, 128, 129, 130, 131, 132, 133, 134] (by decide +kernel) (by decide +kernel)
set_option maxRecDepth 20000 in
theorem gu_X10_holds_X10_returns_277 : GoodIn uX10_holds (wsV RX10 277 RX10 yX10_returns uX10_returns) := goodIn_r _ [14, 15, 16, 4, 63, 44, 43, 99, 100, 101, 102, 103, 104, 105, 106, 107, 108, 109, 110, 111, 112, 113, 114, 115, 116, 117, 118, 119, 120, 121, 122, 123, 124, 125, 126, 127, 128, 129, 130, 131, 132, 133, 134] (by decide +kernel) (by decide +kernel)
set_option maxRecDepth 20000 in
theorem gu_X10_holds_X10_goes_231 : GoodIn uX10_holds (wsV RX10 231 RX10 yX10_goes uX10_goes) := goodIn_r _ [17, 18, 19, 4, 64, 44, 65, 66, 67, 68, 4, 69, 27, 28, 70, 71, 72, 39, 40, 29, 73, 74, 75, 76, 77, 78, 79, 80, 81, 82, 83, 57, 58, 59, 60, 99, 100, 101, 102, 103, 104, 105, 106, 107, 108, 109, 110, 111, 112, 113, 114, 115, 116, 117, 118, 119, 120, 121, 122, 123, 124, 125, 126, 127, 128, 129, 130, 131, 132, 133, 134] (by decide +kernel) (by decide +kernel)
set_option maxRecDepth 20000 in
theorem gu_X10_holds_X10_reading_251 : GoodIn uX10_holds (wsV RX10 251 RX10 yX10_reading uX10_reading) := goodIn_r _ [21, 22, 23, 4, 84, 85, 44, 86, 99, 100, 101, 102, 103, 104, 105, 106, 107, 108, 109, 110, 111, 112, 113, 114, 115, 116, 117, 118, 119, 120, 121, 122, 123, 124, 125, 126, 127, 128, 129, 130, 131, 132, 133, 134] (by decide +kernel) (by decide +kernel)
set_option maxRecDepth 20000 in
theorem gu_X10_holds_X10_in_85 : GoodIn uX10_holds (va_wsS RX10 85 yX10_in uX10_in) := goodIn_r _ [25, 26, 4, 62] (by decide +kernel) (by decide +kernel)
set_option maxRecDepth 20000 in
theorem gu_X10_holds_X10_areWell_144 : GoodIn uX10_holds (va_wsS RX10 144 yX10_areWell uX10_areWell) := goodIn_r _ [30, 31, 4, 87, 88, 25, 26, 4, 89, 90, 78, 91, 62] (by decide +kernel) (by decide +kernel)
set_option maxRecDepth 20000 in
theorem gu_X10_holds_X10_knobValue_268 : GoodIn uX10_holds (wsV RX10 268 RX10 yX10_knobValue uX10_knobValue) := goodIn_r _ [35, 36, 37, 4, 92, 93, 94, 95, 4, 96, 97, 98, 32, 99, 100, 101, 102, 103, 104, 105, 106, 107, 108, 109, 110, 111, 112, 113, 114, 115, 116, 117, 118, 119, 120, 121, 122, 123, 124, 125, 126, 127, 128, 129, 130, 131, 132, 133, 134] (by decide +kernel) (by decide +kernel)
set_option maxHeartbeats 4000000 in
set_option maxRecDepth 100000 in
theorem m_X10_holds (l : Launch) (D : va_G) (t : Nat → Nat) (cI cL cC : ClassId) (gC : Int32) (gE : Int32) (gW : Nat → Int32) (gA : Nat → Int32) (gT : Nat → Int32) (gI : Int32) (gS : Int32) (gM : Int32) (K : Nat → Int32) (F : Nat → Int32) (S : Nat → Int32) (N : Nat → Int32) (gH : Int) (gJ : Int) (ge : Int32) (gk : Int32) (gf : Int32) (gs : Int32) (gg : Int32) (gr : Int32) (RN : Nat → Int32) (a0 : Nat) (a1 : Int32) (uq : ∀ b c : Nat, t b = t c → t b ≠ 0 → b = c) (hI0 : 0 ≤ gI.toInt) (hI4 : gI.toInt ≤ 40) (hH0 : 0 ≤ gH) (hH9 : gH ≤ 96) (hO0 : okM K F S N 0 gI.toInt) (k_a0 : t a0 = 40) : tMx (Z := (Nat → Int32) × (Nat → Int32) × (Nat → Int32) × (Nat → Int32) × (Int) × (Int)) l yX10_holds uX10_holds 5 127 D (mF cI cL cC gC gE gW gA gT gI gS gM K F S N gH gJ ge gk gf gs gg gr RN) (fun z => (mF cI cL cC gC gE gW gA gT gI gS gM z.1 z.2.1 z.2.2.1 z.2.2.2.1 z.2.2.2.2.1 z.2.2.2.2.2 ge gk gf gs gg gr RN)) t cI cL cC [.ref a0, .int a1] wHo (xI (fun r (z : (Nat → Int32) × (Nat → Int32) × (Nat → Int32) × (Nat → Int32) × (Int) × (Int)) => (r = 1 ∧ z.2.2.2.2.1 = gH ∧ kpO K z.1 40 40 ∧ kpO F z.2.1 40 40 ∧ kpO S z.2.2.1 40 40 ∧ kpO N z.2.2.2.1 120 120 ∧ okM z.1 z.2.1 z.2.2.1 z.2.2.2.1 40 gI.toInt) ∨ (r = 0 ∧ z.2.2.2.2.1 = gH ∧ kpO K z.1 40 40 ∧ kpO F z.2.1 40 40 ∧ kpO S z.2.2.1 40 40 ∧ kpO N z.2.2.2.1 120 120))) := by
  refine tMx.ofW (cc := cX10_holds) (maxL := 9) (ret := (some .boolean)) (by decide) rfl (Nat.le_of_ble_eq_true rfl) ?_
  intro p e s m below meth c hx hb hr hml hown hts hlk H locs hG hK hE hS ls hl
  have hl : lv_has ls 9 [(0, .ref a0), (1, .int a1)] := hl
  have in10 : ∀ w ∈ wsX100, w ∈ uX10_holds := fun w h => List.mem_cons_of_mem _ (List.mem_append_right _ h)
  refine lv_aload_n hx hb dX10_holds_0 rfl (lv_at hl 0 rfl) ?_
  refine lv_iconst (v := 1) hx hb dX10_holds_1 (by decide) ?_
  refine lv_iconst (v := 0) hx hb dX10_holds_2 (by decide) ?_
  have zi_1 : (1 : Int32).toInt = 1 := by decide
  have zi_0 : (0 : Int32).toInt = 0 := by decide
  obtain ⟨r_1, v_3, r_4, r_6, r_8, r_10, r_12, r_14, r_16, r_18, r_20, r_22, r_24, r_26, r_28, r_30, r_32, r_34, r_36, r_38, r_40, r_42, r_44, v_46, r_47, at_49, h_2, h_5, h_7, h_9, h_11, h_13, h_15, h_17, h_19, h_21, h_23, h_25, h_27, h_29, h_31, h_33, h_35, h_37, h_39, h_41, h_43, h_45, h_48⟩ := mF_o40 hG k_a0
  refine tx_callv (W.runV (As := [.int 1, .int 0]) (rest := []) ⟨hx, hb, hml, hown, hts⟩ (m_X10_copies l D t cI cL cC gC gE gW gA gT gI gS gM K F S N gH gJ ge gk gf gs gg gr RN a0 1 0 40 0 120 0 uq (by omega) (by omega) (by omega) (by omega) (by omega) (by omega) (by omega) (by omega) (by omega) k_a0) (cwV 2 hts gu_X10_holds_X10_copies_170 rfl rfl rfl (by decide +kernel) ⟨Nat.le_of_ble_eq_true rfl, Nat.le_of_ble_eq_true rfl⟩) (tP_V hG hE at_49 rfl) rfl rfl hl.1 rfl (lv_room (Nat.le_of_ble_eq_true rfl)) dX10_holds_3 ⟨Nat.le_of_ble_eq_true rfl, Nat.le_of_ble_eq_true rfl⟩) hS (wrL_sub (by decide)) (fun zz_53 H locs hp_51 hG hS o_52 => ?_)
  obtain ⟨K_54, F_55, S_56, N_57⟩ := zz_53
  have at_49 := va_at.keptC at_49 o_52 k_a0 rfl
  replace hG : tG D (mF cI cL cC gC gE gW gA gT gI gS gM K_54 F_55 S_56 N_57 gH gJ ge gk gf gs gg gr RN) t H := hG
  have hp_51 : cpd K K_54 40 0 40 ∧ cpd F F_55 40 0 40 ∧ cpd S S_56 40 0 40 ∧ cpd N N_57 120 0 120 := hp_51
  obtain ⟨p_58, p_59, p_60, p_61⟩ := hp_51
  refine lv_iconst (v := 0) hx hb dX10_holds_6 (by decide) ?_
  refine lv_istore_n (lv' := [(2, .int 0), (0, .ref a0), (1, .int a1)]) hx hb dX10_holds_7 rfl hl (by decide) rfl (fun ls hl => ?_)
  refine lv_pc (pc2 := 8) rfl ?_
  refine lp_gen (fun WW62 hWW62 => ?_)
  have kx62 : ∀ (yk : Int32) (n1 : Nat → Int32) (H1 : Heap) (locs1 : List Loc) (ls1 : Array Slot), (0 ≤ yk.toInt) → (yk.toInt ≤ 2) → (kpO N n1 120 120) → tG D (mF cI cL cC gC gE gW gA gT gI gS gM K_54 F_55 S_56 n1 gH gJ ge gk gf gs gg gr RN) t H1 → tF t wHo s.heap H1 locs1 → lv_has ls1 9 [(2, .int yk), (0, .ref a0), (1, .int a1)] → WW62 H1 locs1 (F0 m 80 ls1 []) := by
    intro yk n1 H locs ls v62_0 v62_1 v62_2 hG hS hl
    refine (hWW62 _ _ _).mpr ?_
    refine lv_iconst (v := 0) hx hb dX10_holds_80 (by decide) ?_
    refine lv_pc (pc2 := 81) rfl ?_
    refine lv_istore_n (lv' := [(2, .int 0), (0, .ref a0), (1, .int a1)]) hx hb dX10_holds_81 rfl hl (by decide) rfl (fun ls hl => ?_)
    refine lv_pc (pc2 := 82) rfl ?_
    refine lp_gen (fun WW63 hWW63 => ?_)
    have kx63 : ∀ (yi : Int32) (H1 : Heap) (locs1 : List Loc) (ls1 : Array Slot), (0 ≤ yi.toInt) → (yi.toInt ≤ gI.toInt) → (welM K_54 n1 40 yi.toInt) → (gI.toInt ≤ yi.toInt) → tG D (mF cI cL cC gC gE gW gA gT gI gS gM K_54 F_55 S_56 n1 gH gJ ge gk gf gs gg gr RN) t H1 → tF t wHo s.heap H1 locs1 → lv_has ls1 9 [(2, .int yi), (0, .ref a0), (1, .int a1)] → WW63 H1 locs1 (F0 m 142 ls1 []) := by
      intro yi H locs ls v63_0 v63_1 v63_2 xf63_0 hG hS hl
      refine (hWW63 _ _ _).mpr ?_
      have hT := okM.tried (by omega) p_58 p_59 p_60 (by rw [show gI.toInt = yi.toInt by omega]; exact v63_2) hO0
      refine lv_aload_n hx hb dX10_holds_142 rfl (lv_at hl 1 rfl) ?_
      obtain ⟨r_64, v_66, r_67, r_69, r_71, r_73, r_75, r_77, r_79, r_81, r_83, r_85, r_87, r_89, r_91, r_93, r_95, r_97, r_99, r_101, r_103, r_105, r_107, v_109, r_110, at_112, h_65, h_68, h_70, h_72, h_74, h_76, h_78, h_80, h_82, h_84, h_86, h_88, h_90, h_92, h_94, h_96, h_98, h_100, h_102, h_104, h_106, h_108, h_111⟩ := mF_o40 hG k_a0
      refine ty_calli (W.runV (As := []) (rest := []) ⟨hx, hb, hml, hown, hts⟩ (m_X10_lastSeen l D t cI cL cC gC gE gW gA gT gI gS gM K_54 F_55 S_56 n1 gH gJ ge gk gf gs gg gr RN a0  uq  k_a0) (cwV 0 hts gu_X10_holds_X10_lastSeen_271 rfl rfl rfl (by decide +kernel) ⟨Nat.le_of_ble_eq_true rfl, Nat.le_of_ble_eq_true rfl⟩) (tP_V hG hE at_112 rfl) rfl rfl hl.1 rfl (lv_room (Nat.le_of_ble_eq_true rfl)) dX10_holds_143 ⟨Nat.le_of_ble_eq_true rfl, Nat.le_of_ble_eq_true rfl⟩) hS (fun k h => by simp [wr0] at h) (fun r_113 H locs hp_114 hG hS o_115 => ?_)
      have at_112 := va_at.keptC at_112 o_115 k_a0 rfl
      have hp_114 : -1 ≤ r_113.toInt ∧ r_113.toInt ≤ 95 := hp_114
      obtain ⟨p_117, p_118⟩ := hp_114
      refine lv_istore_n (lv' := [(2, .int r_113), (0, .ref a0), (1, .int a1)]) hx hb dX10_holds_146 rfl hl (by decide) rfl (fun ls hl => ?_)
      refine lv_iconst (v := 1) hx hb dX10_holds_147 (by decide) ?_
      refine lv_istore_n (lv' := [(3, .int 1), (2, .int r_113), (0, .ref a0), (1, .int a1)]) hx hb dX10_holds_148 rfl hl (by decide) rfl (fun ls hl => ?_)
      refine lv_aload_n hx hb dX10_holds_149 rfl (lv_at hl 2 rfl) ?_
      refine tx_callv (W.runV (As := []) (rest := []) ⟨hx, hb, hml, hown, hts⟩ (m_X10_asides l D t cI cL cC gC gE gW gA gT gI gS gM K_54 F_55 S_56 n1 gH gJ ge gk gf gs gg gr RN a0  uq  k_a0) (cwV 0 hts gu_X10_holds_X10_asides_274 rfl rfl rfl (by decide +kernel) ⟨Nat.le_of_ble_eq_true rfl, Nat.le_of_ble_eq_true rfl⟩) (tP_V hG hE at_112 rfl) rfl rfl hl.1 rfl (lv_room (Nat.le_of_ble_eq_true rfl)) dX10_holds_150 ⟨Nat.le_of_ble_eq_true rfl, Nat.le_of_ble_eq_true rfl⟩) hS (wrL_sub (by decide)) (fun gJ_123 H locs hp_120 hG hS o_121 => ?_)
      have at_112 := va_at.keptC at_112 o_121 k_a0 rfl
      replace hG : tG D (mF cI cL cC gC gE gW gA gT gI gS gM K_54 F_55 S_56 n1 gH gJ_123 ge gk gf gs gg gr RN) t H := hG
      have hp_120 : gJ_123 = gH := hp_120
      have p_124 := hp_120
      refine lv_pc (pc2 := 153) rfl ?_
      refine lv_aload_n hx hb dX10_holds_153 rfl (lv_at hl 2 rfl) ?_
      refine lv_iconst (v := 1) hx hb dX10_holds_154 (by decide) ?_
      refine lv_iconst (v := 0) hx hb dX10_holds_155 (by decide) ?_
      refine tx_callv (W.runV (As := [.int 1, .int 0]) (rest := []) ⟨hx, hb, hml, hown, hts⟩ (m_X10_begins l D t cI cL cC gC gE gW gA gT gI gS gM K_54 F_55 S_56 n1 gH gJ_123 ge gk gf gs gg gr RN a0 1 0 40 uq (by omega) (by omega) (by omega) (by omega) (by omega) k_a0) (cwV 2 hts gu_X10_holds_X10_begins_186 rfl rfl rfl (by decide +kernel) ⟨Nat.le_of_ble_eq_true rfl, Nat.le_of_ble_eq_true rfl⟩) (tP_V hG hE at_112 rfl) rfl rfl hl.1 rfl (lv_room (Nat.le_of_ble_eq_true rfl)) dX10_holds_156 ⟨Nat.le_of_ble_eq_true rfl, Nat.le_of_ble_eq_true rfl⟩) hS (wrL_sub (by decide)) (fun gH_129 H locs hp_126 hG hS o_127 => ?_)
      have at_112 := va_at.keptC at_112 o_127 k_a0 rfl
      replace hG : tG D (mF cI cL cC gC gE gW gA gT gI gS gM K_54 F_55 S_56 n1 gH_129 gJ_123 ge gk gf gs gg gr RN) t H := hG
      have hp_126 : gH_129 = 0 := hp_126
      have p_130 := hp_126
      refine lv_iconst (v := 0) hx hb dX10_holds_159 (by decide) ?_
      refine lv_istore (lv' := [(4, .int 0), (3, .int 1), (2, .int r_113), (0, .ref a0), (1, .int a1)]) hx hb dX10_holds_160 hl (by decide) rfl (fun ls hl => ?_)
      refine lv_pc (pc2 := 162) rfl ?_
      refine lp_gen (fun WW131 hWW131 => ?_)
      have kx131 : ∀ (yh : Int32) (yb : Int32) (hm : Int) (H1 : Heap) (locs1 : List Loc) (ls1 : Array Slot), (0 ≤ yh.toInt) → (yh.toInt ≤ 96) → (yb = 0 ∨ yb = 1) → (hm = yh.toInt) → tG D (mF cI cL cC gC gE gW gA gT gI gS gM K_54 F_55 S_56 n1 hm gJ_123 ge gk gf gs gg gr RN) t H1 → tF t wHo s.heap H1 locs1 → lv_has ls1 9 [(4, .int yh), (3, .int yb), (2, .int r_113), (0, .ref a0), (1, .int a1)] → WW131 H1 locs1 (F0 m 264 ls1 []) := by
        intro yh yb hm H locs ls v131_0 v131_1 v131_2 v131_3 hG hS hl
        refine (hWW131 _ _ _).mpr ?_
        refine lv_aload_n hx hb dX10_holds_264 rfl (lv_at hl 3 rfl) ?_
        obtain ⟨r_132, v_134, r_135, r_137, r_139, r_141, r_143, r_145, r_147, r_149, r_151, r_153, r_155, r_157, r_159, r_161, r_163, r_165, r_167, r_169, r_171, r_173, r_175, v_177, r_178, at_180, h_133, h_136, h_138, h_140, h_142, h_144, h_146, h_148, h_150, h_152, h_154, h_156, h_158, h_160, h_162, h_164, h_166, h_168, h_170, h_172, h_174, h_176, h_179⟩ := mF_o40 hG k_a0
        refine tx_callv (W.runV (As := []) (rest := []) ⟨hx, hb, hml, hown, hts⟩ (m_X10_returns l D t cI cL cC gC gE gW gA gT gI gS gM K_54 F_55 S_56 n1 hm gJ_123 ge gk gf gs gg gr RN a0  uq  k_a0) (cwV 0 hts gu_X10_holds_X10_returns_277 rfl rfl rfl (by decide +kernel) ⟨Nat.le_of_ble_eq_true rfl, Nat.le_of_ble_eq_true rfl⟩) (tP_V hG hE at_180 rfl) rfl rfl hl.1 rfl (lv_room (Nat.le_of_ble_eq_true rfl)) dX10_holds_265 ⟨Nat.le_of_ble_eq_true rfl, Nat.le_of_ble_eq_true rfl⟩) hS (wrL_sub (by decide)) (fun gH_185 H locs hp_182 hG hS o_183 => ?_)
        have at_180 := va_at.keptC at_180 o_183 k_a0 rfl
        replace hG : tG D (mF cI cL cC gC gE gW gA gT gI gS gM K_54 F_55 S_56 n1 gH_185 gJ_123 ge gk gf gs gg gr RN) t H := hG
        have hp_182 : gH_185 = gJ_123 := hp_182
        have p_186 := hp_182
        rcases v131_2 with rfl | rfl
        · skip
          refine lv_pc (pc2 := 268) rfl ?_
          refine lv_iload_n hx hb dX10_holds_268 rfl (lv_at hl 1 rfl) ?_
          exact tx_zret (z := (K_54, F_55, S_56, n1, gH_185, gJ_123)) hx hb hr hlk rfl hG hS (Or.inr ⟨rfl, (by show gH_185 = gH; omega), (show kpO K K_54 40 40 from p_58.2), (show kpO F F_55 40 40 from p_59.2), (show kpO S S_56 40 40 from p_60.2), (show kpO N n1 120 120 from v62_2)⟩) dX10_holds_269
        · skip
          refine lv_iload_n hx hb dX10_holds_268 rfl (lv_at hl 1 rfl) ?_
          exact tx_zret (z := (K_54, F_55, S_56, n1, gH_185, gJ_123)) hx hb hr hlk rfl hG hS (Or.inl ⟨rfl, (by show gH_185 = gH; omega), (show kpO K K_54 40 40 from p_58.2), (show kpO F F_55 40 40 from p_59.2), (show kpO S S_56 40 40 from p_60.2), (show kpO N n1 120 120 from v62_2), hT⟩) dX10_holds_269
      have lp131 : ∀ (kk131 : Nat) (yh : Int32) (yb : Int32) (hm : Int) (H1 : Heap) (locs1 : List Loc) (ls1 : Array Slot), 96 - yh.toInt ≤ (kk131 : Int) → (0 ≤ yh.toInt) → (yh.toInt ≤ 96) → (yb = 0 ∨ yb = 1) → (hm = yh.toInt) → tG D (mF cI cL cC gC gE gW gA gT gI gS gM K_54 F_55 S_56 n1 hm gJ_123 ge gk gf gs gg gr RN) t H1 → tF t wHo s.heap H1 locs1 → lv_has ls1 9 [(4, .int yh), (3, .int yb), (2, .int r_113), (0, .ref a0), (1, .int a1)] → WW131 H1 locs1 (F0 m 162 ls1 []) := by
        intro kk131
        induction kk131 with
        | zero =>
          intro yh yb hm H locs ls hk131 v131_0 v131_1 v131_2 v131_3 hG hS hl
          refine (hWW131 _ _ _).mpr ?_
          refine lv_iload hx hb dX10_holds_162 (lv_at hl 0 rfl) ?_
          refine lv_iload_n hx hb dX10_holds_164 rfl (lv_at hl 2 rfl) ?_
          refine lv_icmp_gt (tgt := 264) hx hb dX10_holds_165 (by decide) (fun c_187 => ?_) (fun c_187 => ?_)
          · skip
            have c_187 : r_113.toInt < yh.toInt := q_lt c_187
            exact (hWW131 _ _ _).mp (kx131 yh yb hm H locs ls v131_0 v131_1 v131_2 v131_3 hG hS (lv_sub hl [0, 1, 2, 3, 4] rfl))
          · skip
            have c_187 : yh.toInt ≤ r_113.toInt := q_nlt c_187
            exfalso; omega
        | succ kk131 ih131 =>
          intro yh yb hm H locs ls hk131 v131_0 v131_1 v131_2 v131_3 hG hS hl
          refine (hWW131 _ _ _).mpr ?_
          refine lv_iload hx hb dX10_holds_162 (lv_at hl 0 rfl) ?_
          refine lv_pc (pc2 := 164) rfl ?_
          refine lv_iload_n hx hb dX10_holds_164 rfl (lv_at hl 2 rfl) ?_
          refine lv_icmp_gt (tgt := 264) hx hb dX10_holds_165 (by decide) (fun c_188 => ?_) (fun c_188 => ?_)
          · skip
            have c_188 : r_113.toInt < yh.toInt := q_lt c_188
            exact (hWW131 _ _ _).mp (kx131 yh yb hm H locs ls v131_0 v131_1 v131_2 v131_3 hG hS (lv_sub hl [0, 1, 2, 3, 4] rfl))
          · skip
            have c_188 : yh.toInt ≤ r_113.toInt := q_nlt c_188
            refine lv_iload_n hx hb dX10_holds_168 rfl (lv_at hl 1 rfl) ?_
            refine lv_if_eq (tgt := 264) hx hb dX10_holds_169 (by decide) (fun c_189 => ?_) (fun c_189 => ?_)
            · skip
              have c_189 : yb.toInt = 0 := q_eq c_189
              exact (hWW131 _ _ _).mp (kx131 yh yb hm H locs ls v131_0 v131_1 v131_2 v131_3 hG hS (lv_sub hl [0, 1, 2, 3, 4] rfl))
            · skip
              have c_189 : yb.toInt ≠ 0 := q_ne c_189
              refine lv_aload_n hx hb dX10_holds_172 rfl (lv_at hl 3 rfl) ?_
              refine lv_iconst (v := 1) hx hb dX10_holds_173 (by decide) ?_
              refine lv_iconst (v := 0) hx hb dX10_holds_174 (by decide) ?_
              obtain ⟨r_190, v_192, r_193, r_195, r_197, r_199, r_201, r_203, r_205, r_207, r_209, r_211, r_213, r_215, r_217, r_219, r_221, r_223, r_225, r_227, r_229, r_231, r_233, v_235, r_236, at_238, h_191, h_194, h_196, h_198, h_200, h_202, h_204, h_206, h_208, h_210, h_212, h_214, h_216, h_218, h_220, h_222, h_224, h_226, h_228, h_230, h_232, h_234, h_237⟩ := mF_o40 hG k_a0
              refine tx_callv (W.runV (As := [.int 1, .int 0]) (rest := []) ⟨hx, hb, hml, hown, hts⟩ (m_X10_goes l D t cI cL cC gC gE gW gA gT gI gS gM K_54 F_55 S_56 n1 hm gJ_123 ge gk gf gs gg gr RN a0 1 0 40 uq (by omega) (by omega) (by omega) (by omega) (by omega) hT (by omega) (by omega) (by omega) (by omega) k_a0) (cwV 2 hts gu_X10_holds_X10_goes_231 rfl rfl rfl (by decide +kernel) ⟨Nat.le_of_ble_eq_true rfl, Nat.le_of_ble_eq_true rfl⟩) (tP_V hG hE at_238 rfl) rfl rfl hl.1 rfl (lv_room (Nat.le_of_ble_eq_true rfl)) dX10_holds_175 ⟨Nat.le_of_ble_eq_true rfl, Nat.le_of_ble_eq_true rfl⟩) hS (wrL_sub (by decide)) (fun gH_243 H locs hp_240 hG hS o_241 => ?_)
              have at_238 := va_at.keptC at_238 o_241 k_a0 rfl
              replace hG : tG D (mF cI cL cC gC gE gW gA gT gI gS gM K_54 F_55 S_56 n1 gH_243 gJ_123 ge gk gf gs gg gr RN) t H := hG
              have hp_240 : gH_243 = hm + 1 := hp_240
              have p_244 := hp_240
              refine lv_pc (pc2 := 178) rfl ?_
              refine lv_iconst (v := 0) hx hb dX10_holds_178 (by decide) ?_
              refine lv_istore (lv' := [(5, .int 0), (4, .int yh), (3, .int yb), (2, .int r_113), (0, .ref a0), (1, .int a1)]) hx hb dX10_holds_179 hl (by decide) rfl (fun ls hl => ?_)
              refine lv_pc (pc2 := 181) rfl ?_
              refine lp_gen (fun WW245 hWW245 => ?_)
              have kx245 : ∀ (yj : Int32) (yc : Int32) (H1 : Heap) (locs1 : List Loc) (ls1 : Array Slot), (0 ≤ yj.toInt) → (yj.toInt ≤ 4) → (yc = 0 ∨ yc = 1) → tG D (mF cI cL cC gC gE gW gA gT gI gS gM K_54 F_55 S_56 n1 gH_243 gJ_123 ge gk gf gs gg gr RN) t H1 → tF t wHo s.heap H1 locs1 → lv_has ls1 9 [(5, .int yj), (4, .int yh), (3, .int yc), (2, .int r_113), (0, .ref a0), (1, .int a1)] → WW245 H1 locs1 (F0 m 258 ls1 []) := by
                intro yj yc H locs ls v245_0 v245_1 v245_2 hG hS hl
                refine (hWW245 _ _ _).mpr ?_
                obtain ⟨x_246, e_247⟩ : ∃ y : Int32, y = yh + Int32.ofInt 1 := ⟨_, rfl⟩
                have i_x_246 : x_246.toInt = yh.toInt + 1 := by rw [e_247, show Int32.ofInt 1 = 1 by decide]; exact (q_add (by rw [show (1 : Int32).toInt = 1 by decide]; omega) (by rw [show (1 : Int32).toInt = 1 by decide]; omega)).trans (by rw [show (1 : Int32).toInt = 1 by decide])
                refine lv_iinc (v := x_246) (lv' := [(4, .int x_246), (5, .int yj), (3, .int yc), (2, .int r_113), (0, .ref a0), (1, .int a1)]) hx hb dX10_holds_258 hl (k := 1) rfl e_247.symm (by decide) rfl (fun ls hl => ?_)
                refine lv_goto (tgt := 162) hx hb dX10_holds_261 (by decide) ?_
                exact (hWW131 _ _ _).mp (ih131 x_246 yc gH_243 H locs ls (by omega) (by omega) (by omega) v245_2 (by omega) hG hS (lv_sub hl [0, 2, 3, 4, 5] rfl))
              have lp245 : ∀ (kk245 : Nat) (yj : Int32) (yc : Int32) (H1 : Heap) (locs1 : List Loc) (ls1 : Array Slot), 4 - yj.toInt ≤ (kk245 : Int) → (0 ≤ yj.toInt) → (yj.toInt ≤ 4) → (yc = 0 ∨ yc = 1) → tG D (mF cI cL cC gC gE gW gA gT gI gS gM K_54 F_55 S_56 n1 gH_243 gJ_123 ge gk gf gs gg gr RN) t H1 → tF t wHo s.heap H1 locs1 → lv_has ls1 9 [(5, .int yj), (4, .int yh), (3, .int yc), (2, .int r_113), (0, .ref a0), (1, .int a1)] → WW245 H1 locs1 (F0 m 181 ls1 []) := by
                intro kk245
                induction kk245 with
                | zero =>
                  intro yj yc H locs ls hk245 v245_0 v245_1 v245_2 hG hS hl
                  refine (hWW245 _ _ _).mpr ?_
                  refine lv_iload hx hb dX10_holds_181 (lv_at hl 0 rfl) ?_
                  refine lv_iconst (v := 4) hx hb dX10_holds_183 (by decide) ?_
                  refine lv_icmp_ge (tgt := 258) hx hb dX10_holds_184 (by decide) (fun c_248 => ?_) (fun c_248 => ?_)
                  · skip
                    have c_248 : 4 ≤ yj.toInt := q_le c_248
                    exact (hWW245 _ _ _).mp (kx245 yj yc H locs ls v245_0 v245_1 v245_2 hG hS (lv_sub hl [0, 1, 2, 3, 4, 5] rfl))
                  · skip
                    have c_248 : yj.toInt < 4 := q_nle c_248
                    exfalso; omega
                | succ kk245 ih245 =>
                  intro yj yc H locs ls hk245 v245_0 v245_1 v245_2 hG hS hl
                  refine (hWW245 _ _ _).mpr ?_
                  refine lv_iload hx hb dX10_holds_181 (lv_at hl 0 rfl) ?_
                  refine lv_pc (pc2 := 183) rfl ?_
                  refine lv_iconst (v := 4) hx hb dX10_holds_183 (by decide) ?_
                  refine lv_icmp_ge (tgt := 258) hx hb dX10_holds_184 (by decide) (fun c_249 => ?_) (fun c_249 => ?_)
                  · skip
                    have c_249 : 4 ≤ yj.toInt := q_le c_249
                    exact (hWW245 _ _ _).mp (kx245 yj yc H locs ls v245_0 v245_1 v245_2 hG hS (lv_sub hl [0, 1, 2, 3, 4, 5] rfl))
                  · skip
                    have c_249 : yj.toInt < 4 := q_nle c_249
                    refine lv_aload_n hx hb dX10_holds_187 rfl (lv_at hl 4 rfl) ?_
                    obtain ⟨r_250, v_252, r_253, r_255, r_257, r_259, r_261, r_263, r_265, r_267, r_269, r_271, r_273, r_275, r_277, r_279, r_281, r_283, r_285, r_287, r_289, r_291, r_293, v_295, r_296, at_298, h_251, h_254, h_256, h_258, h_260, h_262, h_264, h_266, h_268, h_270, h_272, h_274, h_276, h_278, h_280, h_282, h_284, h_286, h_288, h_290, h_292, h_294, h_297⟩ := mF_o40 hG k_a0
                    refine va_get (D := D) (ci := 9) (v := .ref r_273) (C := RX10) (T := TX10) (N := 36) hx hb hts in10 hown hK (va_one at_298) 0 rfl rfl 16 (by decide) (hts (.fieldLink RX10 44 "RiverModelModel" "seen" "[I") (List.mem_of_getElem? (i := 20) rfl)) (fun _ h9 => h9) rfl dX10_holds_188 ?_
                    refine lv_bipush (v := 96) hx hb dX10_holds_191 (by decide) ?_
                    refine lv_iload hx hb dX10_holds_193 (lv_at hl 0 rfl) ?_
                    refine lv_imul hx hb dX10_holds_195 ?_
                    refine lv_topi (fun x_299 e_300 => ?_)
                    have i_x_299 : x_299.toInt = 96 * yj.toInt := by rw [e_300]; exact (q_mul (by rw [show (96 : Int32).toInt = 96 by decide]; omega) (by rw [show (96 : Int32).toInt = 96 by decide]; omega)).trans (by rw [show (96 : Int32).toInt = 96 by decide])
                    refine lv_iload hx hb dX10_holds_196 (lv_at hl 1 rfl) ?_
                    refine lv_pc (pc2 := 198) rfl ?_
                    refine lv_iadd hx hb dX10_holds_198 ?_
                    refine lv_topi (fun x_301 e_302 => ?_)
                    have i_x_301 : x_301.toInt = x_299.toInt + yh.toInt := by rw [e_302]; exact (q_add (by omega) (by omega)).trans (by rfl)
                    obtain ⟨f_303, at_304⟩ := mF_o52 hG h_274
                    have b_305 : vp_in x_301 384 := (q_in (by omega) (by omega))
                    refine va_iald hx hb hK (va_one at_304) 0 0 rfl rfl b_305 dX10_holds_199 ?_
                    refine lv_topi (fun x_306 e_307 => ?_)
                    refine lv_istore (lv' := [(6, .int x_306), (5, .int yj), (4, .int yh), (3, .int yc), (2, .int r_113), (0, .ref a0), (1, .int a1)]) hx hb dX10_holds_200 hl (by decide) rfl (fun ls hl => ?_)
                    refine lv_iload hx hb dX10_holds_202 (lv_at hl 0 rfl) ?_
                    refine lv_if_ge (tgt := 211) hx hb dX10_holds_204 (by decide) (fun c_308 => ?_) (fun c_308 => ?_)
                    · skip
                      have c_308 : 0 ≤ x_306.toInt := q_le c_308
                      refine lv_aload_n hx hb dX10_holds_211 rfl (lv_at hl 5 rfl) ?_
                      refine lv_iload hx hb dX10_holds_212 (lv_at hl 1 rfl) ?_
                      refine ty_calll (W.runV (As := [.int yj]) (rest := []) ⟨hx, hb, hml, hown, hts⟩ (m_X10_reading l D t cI cL cC gC gE gW gA gT gI gS gM K_54 F_55 S_56 n1 gH_243 gJ_123 ge gk gf gs gg gr RN a0 yj  uq (by omega) (by omega) k_a0) (cwV 1 hts gu_X10_holds_X10_reading_251 rfl rfl rfl (by decide +kernel) ⟨Nat.le_of_ble_eq_true rfl, Nat.le_of_ble_eq_true rfl⟩) (tP_V hG hE at_298 rfl) rfl rfl hl.1 rfl (lv_room (Nat.le_of_ble_eq_true rfl)) dX10_holds_214 ⟨Nat.le_of_ble_eq_true rfl, Nat.le_of_ble_eq_true rfl⟩) hS (fun k h => by simp [wr0] at h) (fun z_309 H locs hp_310 hG hS o_311 => ?_)
                      have at_298 := va_at.keptC at_298 o_311 k_a0 rfl
                      have at_304 := va_at.keptC at_304 o_311 h_274 rfl
                      refine lv_pc (pc2 := 217) rfl ?_
                      refine lv_iload hx hb dX10_holds_217 (lv_at hl 0 rfl) ?_
                      refine lv_i2l (v := x_306.toInt64) hx hb dX10_holds_219 rfl ?_
                      refine lv_lsub hx hb dX10_holds_220 ?_
                      refine lv_topl (fun z_313 e_314 => ?_)
                      refine lv_lstore (lv' := [(7, .long z_313), (6, .int x_306), (5, .int yj), (4, .int yh), (3, .int yc), (2, .int r_113), (0, .ref a0), (1, .int a1)]) hx hb dX10_holds_221 hl (by decide) rfl (fun ls hl => ?_)
                      refine lv_iload_n hx hb dX10_holds_223 rfl (lv_at hl 4 rfl) ?_
                      refine lv_if_eq (tgt := 250) hx hb dX10_holds_224 (by decide) (fun c_315 => ?_) (fun c_315 => ?_)
                      · skip
                        have c_315 : yc.toInt = 0 := q_eq c_315
                        refine lv_iconst (v := 0) hx hb dX10_holds_250 (by decide) ?_
                        refine lv_istore_n (lv' := [(3, .int 0), (7, .long z_313), (6, .int x_306), (5, .int yj), (4, .int yh), (2, .int r_113), (0, .ref a0), (1, .int a1)]) hx hb dX10_holds_251 rfl hl (by decide) rfl (fun ls hl => ?_)
                        refine lv_pc (pc2 := 252) rfl ?_
                        obtain ⟨x_316, e_317⟩ : ∃ y : Int32, y = yj + Int32.ofInt 1 := ⟨_, rfl⟩
                        have i_x_316 : x_316.toInt = yj.toInt + 1 := by rw [e_317, show Int32.ofInt 1 = 1 by decide]; exact (q_add (by rw [show (1 : Int32).toInt = 1 by decide]; omega) (by rw [show (1 : Int32).toInt = 1 by decide]; omega)).trans (by rw [show (1 : Int32).toInt = 1 by decide])
                        refine lv_iinc (v := x_316) (lv' := [(5, .int x_316), (3, .int 0), (7, .long z_313), (6, .int x_306), (4, .int yh), (2, .int r_113), (0, .ref a0), (1, .int a1)]) hx hb dX10_holds_252 hl (k := 3) rfl e_317.symm (by decide) rfl (fun ls hl => ?_)
                        refine lv_goto (tgt := 181) hx hb dX10_holds_255 (by decide) ?_
                        exact (hWW245 _ _ _).mp (ih245 x_316 0 H locs ls (by omega) (by omega) (by omega) (Or.inl rfl) hG hS (lv_sub hl [0, 4, 1, 5, 6, 7] rfl))
                      · skip
                        have c_315 : yc.toInt ≠ 0 := q_ne c_315
                        refine lv_lload hx hb dX10_holds_227 (lv_at hl 0 rfl) ?_
                        refine lv_aload_n hx hb dX10_holds_229 rfl (lv_at hl 6 rfl) ?_
                        refine va_get (D := D) (ci := 9) (v := .int gE) (C := RX10) (T := TX10) (N := 36) hx hb hts in10 hown hK (va_one at_298) 0 rfl rfl 17 (by decide) (hts (.fieldLink RX10 258 "RiverModelModel" "ends" "I") (List.mem_of_getElem? (i := 24) rfl)) (fun _ h9 => h9) rfl dX10_holds_230 ?_
                        refine lv_ineg hx hb dX10_holds_233 ?_
                        refine lv_topi (fun x_318 e_319 => ?_)
                        refine lv_i2l (v := x_318.toInt64) hx hb dX10_holds_234 rfl ?_
                        refine lv_aload_n hx hb dX10_holds_235 rfl (lv_at hl 6 rfl) ?_
                        refine lv_pc (pc2 := 236) rfl ?_
                        refine va_get (D := D) (ci := 9) (v := .int gE) (C := RX10) (T := TX10) (N := 36) hx hb hts in10 hown hK (va_one at_298) 0 rfl rfl 17 (by decide) (hts (.fieldLink RX10 258 "RiverModelModel" "ends" "I") (List.mem_of_getElem? (i := 24) rfl)) (fun _ h9 => h9) rfl dX10_holds_236 ?_
                        refine lv_i2l (v := gE.toInt64) hx hb dX10_holds_239 rfl ?_
                        refine ty_calli (W.runS (As := [.long z_313, .long x_318.toInt64, .long gE.toInt64]) (rest := []) ⟨hx, hb, hml, hown, hts⟩ (m_X10_in l D t cI cL cC gC gE gW gA gT gI gS gM K_54 F_55 S_56 n1 gH_243 gJ_123 ge gk gf gs gg gr RN z_313 x_318.toInt64 gE.toInt64 z_313.toInt x_318.toInt gE.toInt uq rfl (q_i2l _) (q_i2l _) ) (va_cwS 3 hts gu_X10_holds_X10_in_85 rfl rfl rfl (by decide +kernel) ⟨Nat.le_of_ble_eq_true rfl, Nat.le_of_ble_eq_true rfl⟩) (tP_S hG hE) rfl rfl hl.1 rfl (lv_room (Nat.le_of_ble_eq_true rfl)) dX10_holds_240 ⟨Nat.le_of_ble_eq_true rfl, Nat.le_of_ble_eq_true rfl⟩) hS (fun k h => by simp [wr0] at h) (fun r_320 H locs hp_321 hG hS o_322 => ?_)
                        have at_298 := va_at.keptC at_298 o_322 k_a0 rfl
                        have at_304 := va_at.keptC at_304 o_322 h_274 rfl
                        have hp_321 : (r_320 = 1 ∧ x_318.toInt ≤ z_313.toInt ∧ z_313.toInt ≤ gE.toInt) ∨ (r_320 = 0 ∧ (z_313.toInt < x_318.toInt ∨ gE.toInt < z_313.toInt)) := hp_321
                        rcases hp_321 with ⟨rfl, p_324, p_325⟩ | ⟨rfl, p_326⟩
                        · skip
                          refine lv_if_eq (tgt := 250) hx hb dX10_holds_243 (by decide) (fun q => absurd q (by decide)) (fun _ => ?_)
                          refine lv_iconst (v := 1) hx hb dX10_holds_246 (by decide) ?_
                          refine lv_goto (tgt := 251) hx hb dX10_holds_247 (by decide) ?_
                          refine lv_istore_n (lv' := [(3, .int 1), (7, .long z_313), (6, .int x_306), (5, .int yj), (4, .int yh), (2, .int r_113), (0, .ref a0), (1, .int a1)]) hx hb dX10_holds_251 rfl hl (by decide) rfl (fun ls hl => ?_)
                          obtain ⟨x_327, e_328⟩ : ∃ y : Int32, y = yj + Int32.ofInt 1 := ⟨_, rfl⟩
                          have i_x_327 : x_327.toInt = yj.toInt + 1 := by rw [e_328, show Int32.ofInt 1 = 1 by decide]; exact (q_add (by rw [show (1 : Int32).toInt = 1 by decide]; omega) (by rw [show (1 : Int32).toInt = 1 by decide]; omega)).trans (by rw [show (1 : Int32).toInt = 1 by decide])
                          refine lv_iinc (v := x_327) (lv' := [(5, .int x_327), (3, .int 1), (7, .long z_313), (6, .int x_306), (4, .int yh), (2, .int r_113), (0, .ref a0), (1, .int a1)]) hx hb dX10_holds_252 hl (k := 3) rfl e_328.symm (by decide) rfl (fun ls hl => ?_)
                          refine lv_pc (pc2 := 255) rfl ?_
                          refine lv_goto (tgt := 181) hx hb dX10_holds_255 (by decide) ?_
                          exact (hWW245 _ _ _).mp (ih245 x_327 1 H locs ls (by omega) (by omega) (by omega) (Or.inr rfl) hG hS (lv_sub hl [0, 4, 1, 5, 6, 7] rfl))
                        · skip
                          refine lv_if_eq (tgt := 250) hx hb dX10_holds_243 (by decide) (fun _ => ?_) (fun q => absurd (by decide) q)
                          refine lv_iconst (v := 0) hx hb dX10_holds_250 (by decide) ?_
                          refine lv_istore_n (lv' := [(3, .int 0), (7, .long z_313), (6, .int x_306), (5, .int yj), (4, .int yh), (2, .int r_113), (0, .ref a0), (1, .int a1)]) hx hb dX10_holds_251 rfl hl (by decide) rfl (fun ls hl => ?_)
                          obtain ⟨x_329, e_330⟩ : ∃ y : Int32, y = yj + Int32.ofInt 1 := ⟨_, rfl⟩
                          have i_x_329 : x_329.toInt = yj.toInt + 1 := by rw [e_330, show Int32.ofInt 1 = 1 by decide]; exact (q_add (by rw [show (1 : Int32).toInt = 1 by decide]; omega) (by rw [show (1 : Int32).toInt = 1 by decide]; omega)).trans (by rw [show (1 : Int32).toInt = 1 by decide])
                          refine lv_iinc (v := x_329) (lv' := [(5, .int x_329), (3, .int 0), (7, .long z_313), (6, .int x_306), (4, .int yh), (2, .int r_113), (0, .ref a0), (1, .int a1)]) hx hb dX10_holds_252 hl (k := 3) rfl e_330.symm (by decide) rfl (fun ls hl => ?_)
                          refine lv_goto (tgt := 181) hx hb dX10_holds_255 (by decide) ?_
                          exact (hWW245 _ _ _).mp (ih245 x_329 0 H locs ls (by omega) (by omega) (by omega) (Or.inl rfl) hG hS (lv_sub hl [0, 4, 1, 5, 6, 7] rfl))
                    · skip
                      have c_308 : x_306.toInt < 0 := q_nle c_308
                      refine lv_lconst (v := 0) hx hb dX10_holds_207 (by decide) ?_
                      refine lv_goto (tgt := 221) hx hb dX10_holds_208 (by decide) ?_
                      refine lv_pc (pc2 := 221) rfl ?_
                      refine lv_lstore (lv' := [(7, .long 0), (6, .int x_306), (5, .int yj), (4, .int yh), (3, .int yc), (2, .int r_113), (0, .ref a0), (1, .int a1)]) hx hb dX10_holds_221 hl (by decide) rfl (fun ls hl => ?_)
                      refine lv_iload_n hx hb dX10_holds_223 rfl (lv_at hl 4 rfl) ?_
                      refine lv_if_eq (tgt := 250) hx hb dX10_holds_224 (by decide) (fun c_331 => ?_) (fun c_331 => ?_)
                      · skip
                        have c_331 : yc.toInt = 0 := q_eq c_331
                        refine lv_iconst (v := 0) hx hb dX10_holds_250 (by decide) ?_
                        refine lv_istore_n (lv' := [(3, .int 0), (7, .long 0), (6, .int x_306), (5, .int yj), (4, .int yh), (2, .int r_113), (0, .ref a0), (1, .int a1)]) hx hb dX10_holds_251 rfl hl (by decide) rfl (fun ls hl => ?_)
                        obtain ⟨x_332, e_333⟩ : ∃ y : Int32, y = yj + Int32.ofInt 1 := ⟨_, rfl⟩
                        have i_x_332 : x_332.toInt = yj.toInt + 1 := by rw [e_333, show Int32.ofInt 1 = 1 by decide]; exact (q_add (by rw [show (1 : Int32).toInt = 1 by decide]; omega) (by rw [show (1 : Int32).toInt = 1 by decide]; omega)).trans (by rw [show (1 : Int32).toInt = 1 by decide])
                        refine lv_iinc (v := x_332) (lv' := [(5, .int x_332), (3, .int 0), (7, .long 0), (6, .int x_306), (4, .int yh), (2, .int r_113), (0, .ref a0), (1, .int a1)]) hx hb dX10_holds_252 hl (k := 3) rfl e_333.symm (by decide) rfl (fun ls hl => ?_)
                        refine lv_goto (tgt := 181) hx hb dX10_holds_255 (by decide) ?_
                        exact (hWW245 _ _ _).mp (ih245 x_332 0 H locs ls (by omega) (by omega) (by omega) (Or.inl rfl) hG hS (lv_sub hl [0, 4, 1, 5, 6, 7] rfl))
                      · skip
                        have c_331 : yc.toInt ≠ 0 := q_ne c_331
                        refine lv_lload hx hb dX10_holds_227 (lv_at hl 0 rfl) ?_
                        refine lv_pc (pc2 := 229) rfl ?_
                        refine lv_aload_n hx hb dX10_holds_229 rfl (lv_at hl 6 rfl) ?_
                        refine va_get (D := D) (ci := 9) (v := .int gE) (C := RX10) (T := TX10) (N := 36) hx hb hts in10 hown hK (va_one at_298) 0 rfl rfl 17 (by decide) (hts (.fieldLink RX10 258 "RiverModelModel" "ends" "I") (List.mem_of_getElem? (i := 24) rfl)) (fun _ h9 => h9) rfl dX10_holds_230 ?_
                        refine lv_ineg hx hb dX10_holds_233 ?_
                        refine lv_topi (fun x_334 e_335 => ?_)
                        refine lv_i2l (v := x_334.toInt64) hx hb dX10_holds_234 rfl ?_
                        refine lv_aload_n hx hb dX10_holds_235 rfl (lv_at hl 6 rfl) ?_
                        refine va_get (D := D) (ci := 9) (v := .int gE) (C := RX10) (T := TX10) (N := 36) hx hb hts in10 hown hK (va_one at_298) 0 rfl rfl 17 (by decide) (hts (.fieldLink RX10 258 "RiverModelModel" "ends" "I") (List.mem_of_getElem? (i := 24) rfl)) (fun _ h9 => h9) rfl dX10_holds_236 ?_
                        refine lv_i2l (v := gE.toInt64) hx hb dX10_holds_239 rfl ?_
                        have zl_0 : (0 : Int64).toInt = 0 := by decide
                        refine ty_calli (W.runS (As := [.long 0, .long x_334.toInt64, .long gE.toInt64]) (rest := []) ⟨hx, hb, hml, hown, hts⟩ (m_X10_in l D t cI cL cC gC gE gW gA gT gI gS gM K_54 F_55 S_56 n1 gH_243 gJ_123 ge gk gf gs gg gr RN 0 x_334.toInt64 gE.toInt64 0 x_334.toInt gE.toInt uq (by decide) (q_i2l _) (q_i2l _) ) (va_cwS 3 hts gu_X10_holds_X10_in_85 rfl rfl rfl (by decide +kernel) ⟨Nat.le_of_ble_eq_true rfl, Nat.le_of_ble_eq_true rfl⟩) (tP_S hG hE) rfl rfl hl.1 rfl (lv_room (Nat.le_of_ble_eq_true rfl)) dX10_holds_240 ⟨Nat.le_of_ble_eq_true rfl, Nat.le_of_ble_eq_true rfl⟩) hS (fun k h => by simp [wr0] at h) (fun r_336 H locs hp_337 hG hS o_338 => ?_)
                        have at_298 := va_at.keptC at_298 o_338 k_a0 rfl
                        have at_304 := va_at.keptC at_304 o_338 h_274 rfl
                        have hp_337 : (r_336 = 1 ∧ x_334.toInt ≤ 0 ∧ 0 ≤ gE.toInt) ∨ (r_336 = 0 ∧ (0 < x_334.toInt ∨ gE.toInt < 0)) := hp_337
                        rcases hp_337 with ⟨rfl, p_340, p_341⟩ | ⟨rfl, p_342⟩
                        · skip
                          refine lv_pc (pc2 := 243) rfl ?_
                          refine lv_if_eq (tgt := 250) hx hb dX10_holds_243 (by decide) (fun q => absurd q (by decide)) (fun _ => ?_)
                          refine lv_iconst (v := 1) hx hb dX10_holds_246 (by decide) ?_
                          refine lv_goto (tgt := 251) hx hb dX10_holds_247 (by decide) ?_
                          refine lv_istore_n (lv' := [(3, .int 1), (7, .long 0), (6, .int x_306), (5, .int yj), (4, .int yh), (2, .int r_113), (0, .ref a0), (1, .int a1)]) hx hb dX10_holds_251 rfl hl (by decide) rfl (fun ls hl => ?_)
                          obtain ⟨x_343, e_344⟩ : ∃ y : Int32, y = yj + Int32.ofInt 1 := ⟨_, rfl⟩
                          have i_x_343 : x_343.toInt = yj.toInt + 1 := by rw [e_344, show Int32.ofInt 1 = 1 by decide]; exact (q_add (by rw [show (1 : Int32).toInt = 1 by decide]; omega) (by rw [show (1 : Int32).toInt = 1 by decide]; omega)).trans (by rw [show (1 : Int32).toInt = 1 by decide])
                          refine lv_iinc (v := x_343) (lv' := [(5, .int x_343), (3, .int 1), (7, .long 0), (6, .int x_306), (4, .int yh), (2, .int r_113), (0, .ref a0), (1, .int a1)]) hx hb dX10_holds_252 hl (k := 3) rfl e_344.symm (by decide) rfl (fun ls hl => ?_)
                          refine lv_goto (tgt := 181) hx hb dX10_holds_255 (by decide) ?_
                          exact (hWW245 _ _ _).mp (ih245 x_343 1 H locs ls (by omega) (by omega) (by omega) (Or.inr rfl) hG hS (lv_sub hl [0, 4, 1, 5, 6, 7] rfl))
                        · skip
                          refine lv_if_eq (tgt := 250) hx hb dX10_holds_243 (by decide) (fun _ => ?_) (fun q => absurd (by decide) q)
                          refine lv_iconst (v := 0) hx hb dX10_holds_250 (by decide) ?_
                          refine lv_pc (pc2 := 251) rfl ?_
                          refine lv_istore_n (lv' := [(3, .int 0), (7, .long 0), (6, .int x_306), (5, .int yj), (4, .int yh), (2, .int r_113), (0, .ref a0), (1, .int a1)]) hx hb dX10_holds_251 rfl hl (by decide) rfl (fun ls hl => ?_)
                          obtain ⟨x_345, e_346⟩ : ∃ y : Int32, y = yj + Int32.ofInt 1 := ⟨_, rfl⟩
                          have i_x_345 : x_345.toInt = yj.toInt + 1 := by rw [e_346, show Int32.ofInt 1 = 1 by decide]; exact (q_add (by rw [show (1 : Int32).toInt = 1 by decide]; omega) (by rw [show (1 : Int32).toInt = 1 by decide]; omega)).trans (by rw [show (1 : Int32).toInt = 1 by decide])
                          refine lv_iinc (v := x_345) (lv' := [(5, .int x_345), (3, .int 0), (7, .long 0), (6, .int x_306), (4, .int yh), (2, .int r_113), (0, .ref a0), (1, .int a1)]) hx hb dX10_holds_252 hl (k := 3) rfl e_346.symm (by decide) rfl (fun ls hl => ?_)
                          refine lv_goto (tgt := 181) hx hb dX10_holds_255 (by decide) ?_
                          exact (hWW245 _ _ _).mp (ih245 x_345 0 H locs ls (by omega) (by omega) (by omega) (Or.inl rfl) hG hS (lv_sub hl [0, 4, 1, 5, 6, 7] rfl))
              exact lp245 (4 - (0 : Int32).toInt : Int).toNat 0 yb H locs ls (by omega) (by omega) (by omega) v131_2 hG hS (lv_sub hl [0, 1, 2, 3, 4, 5] rfl)
      exact lp131 (96 - (0 : Int32).toInt : Int).toNat 0 1 gH_129 H locs ls (by omega) (by omega) (by omega) (Or.inr rfl) (by omega) hG hS (lv_sub hl [0, 1, 2, 3, 4] rfl)
    have lp63 : ∀ (kk63 : Nat) (yi : Int32) (H1 : Heap) (locs1 : List Loc) (ls1 : Array Slot), gI.toInt - yi.toInt ≤ (kk63 : Int) → (0 ≤ yi.toInt) → (yi.toInt ≤ gI.toInt) → (welM K_54 n1 40 yi.toInt) → tG D (mF cI cL cC gC gE gW gA gT gI gS gM K_54 F_55 S_56 n1 gH gJ ge gk gf gs gg gr RN) t H1 → tF t wHo s.heap H1 locs1 → lv_has ls1 9 [(2, .int yi), (0, .ref a0), (1, .int a1)] → WW63 H1 locs1 (F0 m 82 ls1 []) := by
      intro kk63
      induction kk63 with
      | zero =>
        intro yi H locs ls hk63 v63_0 v63_1 v63_2 hG hS hl
        refine (hWW63 _ _ _).mpr ?_
        refine lv_iload_n hx hb dX10_holds_82 rfl (lv_at hl 0 rfl) ?_
        refine lv_aload_n hx hb dX10_holds_83 rfl (lv_at hl 1 rfl) ?_
        obtain ⟨r_347, v_349, r_350, r_352, r_354, r_356, r_358, r_360, r_362, r_364, r_366, r_368, r_370, r_372, r_374, r_376, r_378, r_380, r_382, r_384, r_386, r_388, r_390, v_392, r_393, at_395, h_348, h_351, h_353, h_355, h_357, h_359, h_361, h_363, h_365, h_367, h_369, h_371, h_373, h_375, h_377, h_379, h_381, h_383, h_385, h_387, h_389, h_391, h_394⟩ := mF_o40 hG k_a0
        refine va_get (D := D) (ci := 9) (v := .int gI) (C := RX10) (T := TX10) (N := 36) hx hb hts in10 hown hK (va_one at_395) 0 rfl rfl 3 (by decide) (hts (.fieldLink RX10 163 "RiverModelModel" "items" "I") (List.mem_of_getElem? (i := 27) rfl)) (fun _ h9 => h9) rfl dX10_holds_84 ?_
        refine lv_icmp_ge (tgt := 142) hx hb dX10_holds_87 (by decide) (fun c_396 => ?_) (fun c_396 => ?_)
        · skip
          have c_396 : gI.toInt ≤ yi.toInt := q_le c_396
          exact (hWW63 _ _ _).mp (kx63 yi H locs ls v63_0 v63_1 v63_2 (by omega) hG hS (lv_sub hl [0, 1, 2] rfl))
        · skip
          have c_396 : yi.toInt < gI.toInt := q_nle c_396
          exfalso; omega
      | succ kk63 ih63 =>
        intro yi H locs ls hk63 v63_0 v63_1 v63_2 hG hS hl
        refine (hWW63 _ _ _).mpr ?_
        refine lv_iload_n hx hb dX10_holds_82 rfl (lv_at hl 0 rfl) ?_
        refine lv_pc (pc2 := 83) rfl ?_
        refine lv_aload_n hx hb dX10_holds_83 rfl (lv_at hl 1 rfl) ?_
        obtain ⟨r_397, v_399, r_400, r_402, r_404, r_406, r_408, r_410, r_412, r_414, r_416, r_418, r_420, r_422, r_424, r_426, r_428, r_430, r_432, r_434, r_436, r_438, r_440, v_442, r_443, at_445, h_398, h_401, h_403, h_405, h_407, h_409, h_411, h_413, h_415, h_417, h_419, h_421, h_423, h_425, h_427, h_429, h_431, h_433, h_435, h_437, h_439, h_441, h_444⟩ := mF_o40 hG k_a0
        refine va_get (D := D) (ci := 9) (v := .int gI) (C := RX10) (T := TX10) (N := 36) hx hb hts in10 hown hK (va_one at_445) 0 rfl rfl 3 (by decide) (hts (.fieldLink RX10 163 "RiverModelModel" "items" "I") (List.mem_of_getElem? (i := 27) rfl)) (fun _ h9 => h9) rfl dX10_holds_84 ?_
        refine lv_icmp_ge (tgt := 142) hx hb dX10_holds_87 (by decide) (fun c_446 => ?_) (fun c_446 => ?_)
        · skip
          have c_446 : gI.toInt ≤ yi.toInt := q_le c_446
          exact (hWW63 _ _ _).mp (kx63 yi H locs ls v63_0 v63_1 v63_2 (by omega) hG hS (lv_sub hl [0, 1, 2] rfl))
        · skip
          have c_446 : yi.toInt < gI.toInt := q_nle c_446
          refine lv_iconst (v := 3) hx hb dX10_holds_90 (by decide) ?_
          refine lv_bipush (v := 40) hx hb dX10_holds_91 (by decide) ?_
          refine lv_iload_n hx hb dX10_holds_93 rfl (lv_at hl 0 rfl) ?_
          refine lv_iadd hx hb dX10_holds_94 ?_
          refine lv_topi (fun x_447 e_448 => ?_)
          have i_x_447 : x_447.toInt = 40 + yi.toInt := by rw [e_448]; exact (q_add (by rw [show (40 : Int32).toInt = 40 by decide]; omega) (by rw [show (40 : Int32).toInt = 40 by decide]; omega)).trans (by rw [show (40 : Int32).toInt = 40 by decide])
          refine lv_imul hx hb dX10_holds_95 ?_
          refine lv_topi (fun x_449 e_450 => ?_)
          have i_x_449 : x_449.toInt = 3 * x_447.toInt := by rw [e_450]; exact (q_mul (by rw [show (3 : Int32).toInt = 3 by decide]; omega) (by rw [show (3 : Int32).toInt = 3 by decide]; omega)).trans (by rw [show (3 : Int32).toInt = 3 by decide])
          refine lv_pc (pc2 := 96) rfl ?_
          refine lv_istore_n (lv' := [(3, .int x_449), (2, .int yi), (0, .ref a0), (1, .int a1)]) hx hb dX10_holds_96 rfl hl (by decide) rfl (fun ls hl => ?_)
          refine lv_aload_n hx hb dX10_holds_97 rfl (lv_at hl 2 rfl) ?_
          refine va_get (D := D) (ci := 9) (v := .ref r_400) (C := RX10) (T := TX10) (N := 36) hx hb hts in10 hown hK (va_one at_445) 0 rfl rfl 4 (by decide) (hts (.fieldLink RX10 13 "RiverModelModel" "kind" "[I") (List.mem_of_getElem? (i := 28) rfl)) (fun _ h9 => h9) rfl dX10_holds_98 ?_
          refine lv_bipush (v := 40) hx hb dX10_holds_101 (by decide) ?_
          refine lv_iload_n hx hb dX10_holds_103 rfl (lv_at hl 1 rfl) ?_
          refine lv_iadd hx hb dX10_holds_104 ?_
          refine lv_topi (fun x_451 e_452 => ?_)
          have i_x_451 : x_451.toInt = 40 + yi.toInt := by rw [e_452]; exact (q_add (by rw [show (40 : Int32).toInt = 40 by decide]; omega) (by rw [show (40 : Int32).toInt = 40 by decide]; omega)).trans (by rw [show (40 : Int32).toInt = 40 by decide])
          have at_453 := mF_o42 hG h_401
          have b_454 : vp_in x_451 120 := (q_in (by omega) (by omega))
          refine va_iald hx hb hK (va_one at_453) 0 0 rfl rfl b_454 dX10_holds_105 ?_
          refine lv_topi (fun x_455 e_456 => ?_)
          have w_x_455 : x_455 = K_54 (40 + yi.toInt).toNat := by rw [e_456]; exact congrArg (fun q : Int => K_54 q.toNat) (show x_451.toInt = 40 + yi.toInt by omega)
          have i_x_455 : x_455.toInt = (K_54 (40 + yi.toInt).toNat).toInt := by rw [w_x_455]
          refine lv_aload_n hx hb dX10_holds_106 rfl (lv_at hl 2 rfl) ?_
          refine lv_pc (pc2 := 107) rfl ?_
          refine va_get (D := D) (ci := 9) (v := .ref r_406) (C := RX10) (T := TX10) (N := 36) hx hb hts in10 hown hK (va_one at_445) 0 rfl rfl 7 (by decide) (hts (.fieldLink RX10 22 "RiverModelModel" "number" "[I") (List.mem_of_getElem? (i := 29) rfl)) (fun _ h9 => h9) rfl dX10_holds_107 ?_
          refine lv_iload_n hx hb dX10_holds_110 rfl (lv_at hl 0 rfl) ?_
          have at_457 := mF_o45 hG h_407
          have b_458 : vp_in x_449 360 := (q_in (by omega) (by omega))
          refine va_iald hx hb hK (va_one at_457) 0 0 rfl rfl b_458 dX10_holds_111 ?_
          refine lv_topi (fun x_459 e_460 => ?_)
          have w_x_459 : x_459 = n1 (3 * (40 + yi.toInt)).toNat := by rw [e_460]; exact congrArg (fun q : Int => n1 q.toNat) (show x_449.toInt = 3 * (40 + yi.toInt) by omega)
          have i_x_459 : x_459.toInt = (n1 (3 * (40 + yi.toInt)).toNat).toInt := by rw [w_x_459]
          refine lv_aload_n hx hb dX10_holds_112 rfl (lv_at hl 2 rfl) ?_
          refine va_get (D := D) (ci := 9) (v := .ref r_406) (C := RX10) (T := TX10) (N := 36) hx hb hts in10 hown hK (va_one at_445) 0 rfl rfl 7 (by decide) (hts (.fieldLink RX10 22 "RiverModelModel" "number" "[I") (List.mem_of_getElem? (i := 29) rfl)) (fun _ h9 => h9) rfl dX10_holds_113 ?_
          refine lv_iload_n hx hb dX10_holds_116 rfl (lv_at hl 0 rfl) ?_
          refine lv_iconst (v := 1) hx hb dX10_holds_117 (by decide) ?_
          refine lv_iadd hx hb dX10_holds_118 ?_
          refine lv_topi (fun x_461 e_462 => ?_)
          have i_x_461 : x_461.toInt = x_449.toInt + 1 := by rw [e_462]; exact (q_add (by rw [show (1 : Int32).toInt = 1 by decide]; omega) (by rw [show (1 : Int32).toInt = 1 by decide]; omega)).trans (by rw [show (1 : Int32).toInt = 1 by decide])
          refine lv_pc (pc2 := 119) rfl ?_
          have b_463 : vp_in x_461 360 := (q_in (by omega) (by omega))
          refine va_iald hx hb hK (va_one at_457) 0 0 rfl rfl b_463 dX10_holds_119 ?_
          refine lv_topi (fun x_464 e_465 => ?_)
          have w_x_464 : x_464 = n1 (3 * (40 + yi.toInt) + 1).toNat := by rw [e_465]; exact congrArg (fun q : Int => n1 q.toNat) (show x_461.toInt = 3 * (40 + yi.toInt) + 1 by omega)
          have i_x_464 : x_464.toInt = (n1 (3 * (40 + yi.toInt) + 1).toNat).toInt := by rw [w_x_464]
          refine lv_aload_n hx hb dX10_holds_120 rfl (lv_at hl 2 rfl) ?_
          refine va_get (D := D) (ci := 9) (v := .ref r_406) (C := RX10) (T := TX10) (N := 36) hx hb hts in10 hown hK (va_one at_445) 0 rfl rfl 7 (by decide) (hts (.fieldLink RX10 22 "RiverModelModel" "number" "[I") (List.mem_of_getElem? (i := 29) rfl)) (fun _ h9 => h9) rfl dX10_holds_121 ?_
          refine lv_iload_n hx hb dX10_holds_124 rfl (lv_at hl 0 rfl) ?_
          refine lv_iconst (v := 2) hx hb dX10_holds_125 (by decide) ?_
          refine lv_iadd hx hb dX10_holds_126 ?_
          refine lv_topi (fun x_466 e_467 => ?_)
          have i_x_466 : x_466.toInt = x_449.toInt + 2 := by rw [e_467]; exact (q_add (by rw [show (2 : Int32).toInt = 2 by decide]; omega) (by rw [show (2 : Int32).toInt = 2 by decide]; omega)).trans (by rw [show (2 : Int32).toInt = 2 by decide])
          have b_468 : vp_in x_466 360 := (q_in (by omega) (by omega))
          refine va_iald hx hb hK (va_one at_457) 0 0 rfl rfl b_468 dX10_holds_127 ?_
          refine lv_topi (fun x_469 e_470 => ?_)
          have w_x_469 : x_469 = n1 (3 * (40 + yi.toInt) + 2).toNat := by rw [e_470]; exact congrArg (fun q : Int => n1 q.toNat) (show x_466.toInt = 3 * (40 + yi.toInt) + 2 by omega)
          have i_x_469 : x_469.toInt = (n1 (3 * (40 + yi.toInt) + 2).toNat).toInt := by rw [w_x_469]
          refine ty_calli (W.runS (As := [.int x_455, .int x_459, .int x_464, .int x_469]) (rest := []) ⟨hx, hb, hml, hown, hts⟩ (m_X10_areWell l D t cI cL cC gC gE gW gA gT gI gS gM K_54 F_55 S_56 n1 gH gJ ge gk gf gs gg gr RN x_455 x_459 x_464 x_469  uq  ) (va_cwS 4 hts gu_X10_holds_X10_areWell_144 rfl rfl rfl (by decide +kernel) ⟨Nat.le_of_ble_eq_true rfl, Nat.le_of_ble_eq_true rfl⟩) (tP_S hG hE) rfl rfl hl.1 rfl (lv_room (Nat.le_of_ble_eq_true rfl)) dX10_holds_128 ⟨Nat.le_of_ble_eq_true rfl, Nat.le_of_ble_eq_true rfl⟩) hS (fun k h => by simp [wr0] at h) (fun r_471 H locs hp_472 hG hS o_473 => ?_)
          have at_445 := va_at.keptC at_445 o_473 k_a0 rfl
          have at_453 := va_at.keptC at_453 o_473 h_401 rfl
          have at_457 := va_at.keptC at_457 o_473 h_407 rfl
          have hp_472 : (r_471 = 1 ∧ weOk x_455 x_459 x_464) ∨ (r_471 = 0) := hp_472
          rcases hp_472 with ⟨rfl, p_475⟩ | rfl
          · skip
            refine lv_pc (pc2 := 131) rfl ?_
            refine lv_if_ne (tgt := 136) hx hb dX10_holds_131 (by decide) (fun _ => ?_) (fun q => absurd q (by decide))
            obtain ⟨x_476, e_477⟩ : ∃ y : Int32, y = yi + Int32.ofInt 1 := ⟨_, rfl⟩
            have i_x_476 : x_476.toInt = yi.toInt + 1 := by rw [e_477, show Int32.ofInt 1 = 1 by decide]; exact (q_add (by rw [show (1 : Int32).toInt = 1 by decide]; omega) (by rw [show (1 : Int32).toInt = 1 by decide]; omega)).trans (by rw [show (1 : Int32).toInt = 1 by decide])
            refine lv_iinc (v := x_476) (lv' := [(2, .int x_476), (3, .int x_449), (0, .ref a0), (1, .int a1)]) hx hb dX10_holds_136 hl (k := 1) rfl e_477.symm (by decide) rfl (fun ls hl => ?_)
            refine lv_goto (tgt := 82) hx hb dX10_holds_139 (by decide) ?_
            exact (hWW63 _ _ _).mp (ih63 x_476 H locs ls (by omega) (by omega) (by omega) (by rw [show x_476.toInt = yi.toInt + 1 by omega]; exact welM.step v63_2 (fun q => by have := p_475.1 (by omega); omega) (fun q => by have := p_475.2 (by omega); omega)) hG hS (lv_sub hl [0, 2, 3] rfl))
          · skip
            refine lv_if_ne (tgt := 136) hx hb dX10_holds_131 (by decide) (fun q => absurd rfl q) (fun _ => ?_)
            refine lv_iconst (v := 0) hx hb dX10_holds_134 (by decide) ?_
            exact tx_zret (z := (K_54, F_55, S_56, n1, gH, gJ)) hx hb hr hlk rfl hG hS (Or.inr ⟨rfl, (by show gH = gH; omega), (show kpO K K_54 40 40 from p_58.2), (show kpO F F_55 40 40 from p_59.2), (show kpO S S_56 40 40 from p_60.2), (show kpO N n1 120 120 from v62_2)⟩) dX10_holds_135
    exact lp63 (gI.toInt - (0 : Int32).toInt : Int).toNat 0 H locs ls (by omega) (by omega) (by omega) (by rw [zi_0]; exact welM.zero) hG hS (lv_sub hl [0, 1, 2] rfl)
  have lp62 : ∀ (kk62 : Nat) (yk : Int32) (n1 : Nat → Int32) (H1 : Heap) (locs1 : List Loc) (ls1 : Array Slot), 2 - yk.toInt ≤ (kk62 : Int) → (0 ≤ yk.toInt) → (yk.toInt ≤ 2) → (kpO N n1 120 120) → tG D (mF cI cL cC gC gE gW gA gT gI gS gM K_54 F_55 S_56 n1 gH gJ ge gk gf gs gg gr RN) t H1 → tF t wHo s.heap H1 locs1 → lv_has ls1 9 [(2, .int yk), (0, .ref a0), (1, .int a1)] → WW62 H1 locs1 (F0 m 8 ls1 []) := by
    intro kk62
    induction kk62 with
    | zero =>
      intro yk n1 H locs ls hk62 v62_0 v62_1 v62_2 hG hS hl
      refine (hWW62 _ _ _).mpr ?_
      refine lv_iload_n hx hb dX10_holds_8 rfl (lv_at hl 0 rfl) ?_
      refine lv_iconst (v := 2) hx hb dX10_holds_9 (by decide) ?_
      refine lv_pc (pc2 := 10) rfl ?_
      refine lv_icmp_ge (tgt := 80) hx hb dX10_holds_10 (by decide) (fun c_478 => ?_) (fun c_478 => ?_)
      · skip
        have c_478 : 2 ≤ yk.toInt := q_le c_478
        exact (hWW62 _ _ _).mp (kx62 yk n1 H locs ls v62_0 v62_1 v62_2 hG hS (lv_sub hl [0, 1, 2] rfl))
      · skip
        have c_478 : yk.toInt < 2 := q_nle c_478
        exfalso; omega
    | succ kk62 ih62 =>
      intro yk n1 H locs ls hk62 v62_0 v62_1 v62_2 hG hS hl
      refine (hWW62 _ _ _).mpr ?_
      refine lv_iload_n hx hb dX10_holds_8 rfl (lv_at hl 0 rfl) ?_
      refine lv_iconst (v := 2) hx hb dX10_holds_9 (by decide) ?_
      refine lv_icmp_ge (tgt := 80) hx hb dX10_holds_10 (by decide) (fun c_479 => ?_) (fun c_479 => ?_)
      · skip
        have c_479 : 2 ≤ yk.toInt := q_le c_479
        exact (hWW62 _ _ _).mp (kx62 yk n1 H locs ls v62_0 v62_1 v62_2 hG hS (lv_sub hl [0, 1, 2] rfl))
      · skip
        have c_479 : yk.toInt < 2 := q_nle c_479
        refine lv_aload_n hx hb dX10_holds_13 rfl (lv_at hl 1 rfl) ?_
        obtain ⟨r_480, v_482, r_483, r_485, r_487, r_489, r_491, r_493, r_495, r_497, r_499, r_501, r_503, r_505, r_507, r_509, r_511, r_513, r_515, r_517, r_519, r_521, r_523, v_525, r_526, at_528, h_481, h_484, h_486, h_488, h_490, h_492, h_494, h_496, h_498, h_500, h_502, h_504, h_506, h_508, h_510, h_512, h_514, h_516, h_518, h_520, h_522, h_524, h_527⟩ := mF_o40 hG k_a0
        refine va_get (D := D) (ci := 9) (v := .ref r_513) (C := RX10) (T := TX10) (N := 36) hx hb hts in10 hown hK (va_one at_528) 0 rfl rfl 22 (by decide) (hts (.fieldLink RX10 59 "RiverModelModel" "knobMany" "[I") (List.mem_of_getElem? (i := 32) rfl)) (fun _ h9 => h9) rfl dX10_holds_14 ?_
        refine lv_iload_n hx hb dX10_holds_17 rfl (lv_at hl 0 rfl) ?_
        obtain ⟨f_529, at_530, h_531⟩ := mF_o57 hG h_514
        have b_532 : vp_in yk 2 := (q_in (by omega) (by omega))
        refine va_iald hx hb hK (va_one at_530) 0 0 rfl rfl b_532 dX10_holds_18 ?_
        refine lv_topi (fun x_533 e_534 => ?_)
        have i_x_533 := by have h := h_531 _ (q_inlt b_532); rw [← e_534] at h; exact h
        refine lv_pc (pc2 := 19) rfl ?_
        refine lv_if_le (tgt := 74) hx hb dX10_holds_19 (by decide) (fun c_535 => ?_) (fun c_535 => ?_)
        · skip
          have c_535 : x_533.toInt ≤ 0 := q_le c_535
          obtain ⟨x_536, e_537⟩ : ∃ y : Int32, y = yk + Int32.ofInt 1 := ⟨_, rfl⟩
          have i_x_536 : x_536.toInt = yk.toInt + 1 := by rw [e_537, show Int32.ofInt 1 = 1 by decide]; exact (q_add (by rw [show (1 : Int32).toInt = 1 by decide]; omega) (by rw [show (1 : Int32).toInt = 1 by decide]; omega)).trans (by rw [show (1 : Int32).toInt = 1 by decide])
          refine lv_iinc (v := x_536) (lv' := [(2, .int x_536), (0, .ref a0), (1, .int a1)]) hx hb dX10_holds_74 hl (k := 0) rfl e_537.symm (by decide) rfl (fun ls hl => ?_)
          refine lv_goto (tgt := 8) hx hb dX10_holds_77 (by decide) ?_
          exact (hWW62 _ _ _).mp (ih62 x_536 n1 H locs ls (by omega) (by omega) (by omega) v62_2 hG hS (lv_sub hl [0, 1, 2] rfl))
        · skip
          have c_535 : 0 < x_533.toInt := q_nle c_535
          refine lv_aload_n hx hb dX10_holds_22 rfl (lv_at hl 1 rfl) ?_
          refine va_get (D := D) (ci := 9) (v := .ref r_489) (C := RX10) (T := TX10) (N := 36) hx hb hts in10 hown hK (va_one at_528) 0 rfl rfl 7 (by decide) (hts (.fieldLink RX10 22 "RiverModelModel" "number" "[I") (List.mem_of_getElem? (i := 29) rfl)) (fun _ h9 => h9) rfl dX10_holds_23 ?_
          refine lv_iconst (v := 3) hx hb dX10_holds_26 (by decide) ?_
          refine lv_aload_n hx hb dX10_holds_27 rfl (lv_at hl 1 rfl) ?_
          refine va_get (D := D) (ci := 9) (v := .ref r_505) (C := RX10) (T := TX10) (N := 36) hx hb hts in10 hown hK (va_one at_528) 0 rfl rfl 18 (by decide) (hts (.fieldLink RX10 47 "RiverModelModel" "knobItem" "[I") (List.mem_of_getElem? (i := 33) rfl)) (fun _ h9 => h9) rfl dX10_holds_28 ?_
          refine lv_pc (pc2 := 31) rfl ?_
          refine lv_iload_n hx hb dX10_holds_31 rfl (lv_at hl 0 rfl) ?_
          obtain ⟨f_538, at_539, h_540⟩ := mF_o53 hG h_506
          have b_541 : vp_in yk 2 := (q_in (by omega) (by omega))
          refine va_iald hx hb hK (va_one at_539) 0 0 rfl rfl b_541 dX10_holds_32 ?_
          refine lv_topi (fun x_542 e_543 => ?_)
          have i_x_542 := by have h := h_540 _ (q_inlt b_541); rw [← e_543] at h; exact h
          refine lv_imul hx hb dX10_holds_33 ?_
          refine lv_topi (fun x_544 e_545 => ?_)
          have i_x_544 : x_544.toInt = 3 * x_542.toInt := by rw [e_545]; exact (q_mul (by rw [show (3 : Int32).toInt = 3 by decide]; omega) (by rw [show (3 : Int32).toInt = 3 by decide]; omega)).trans (by rw [show (3 : Int32).toInt = 3 by decide])
          refine lv_aload_n hx hb dX10_holds_34 rfl (lv_at hl 1 rfl) ?_
          refine va_get (D := D) (ci := 9) (v := .ref r_507) (C := RX10) (T := TX10) (N := 36) hx hb hts in10 hown hK (va_one at_528) 0 rfl rfl 19 (by decide) (hts (.fieldLink RX10 50 "RiverModelModel" "knobAt" "[I") (List.mem_of_getElem? (i := 34) rfl)) (fun _ h9 => h9) rfl dX10_holds_35 ?_
          refine lv_iload_n hx hb dX10_holds_38 rfl (lv_at hl 0 rfl) ?_
          obtain ⟨f_546, at_547, h_548⟩ := mF_o54 hG h_508
          have b_549 : vp_in yk 2 := (q_in (by omega) (by omega))
          refine va_iald hx hb hK (va_one at_547) 0 0 rfl rfl b_549 dX10_holds_39 ?_
          refine lv_topi (fun x_550 e_551 => ?_)
          have i_x_550 := by have h := h_548 _ (q_inlt b_549); rw [← e_551] at h; exact h
          refine lv_iadd hx hb dX10_holds_40 ?_
          refine lv_topi (fun x_552 e_553 => ?_)
          have i_x_552 : x_552.toInt = x_544.toInt + x_550.toInt := by rw [e_553]; exact (q_add (by omega) (by omega)).trans (by rfl)
          refine lv_pc (pc2 := 41) rfl ?_
          have at_554 := mF_o45 hG h_490
          have b_555 : vp_in x_552 360 := (q_in (by omega) (by omega))
          refine va_iald hx hb hK (va_one at_554) 0 0 rfl rfl b_555 dX10_holds_41 ?_
          refine lv_topi (fun x_556 e_557 => ?_)
          have w_x_556 : x_556 = n1 (x_552.toInt).toNat := by rw [e_557]; exact congrArg (fun q : Int => n1 q.toNat) (show x_552.toInt = x_552.toInt by omega)
          have i_x_556 : x_556.toInt = (n1 (x_552.toInt).toNat).toInt := by rw [w_x_556]
          refine lv_if_lt (tgt := 74) hx hb dX10_holds_42 (by decide) (fun c_558 => ?_) (fun c_558 => ?_)
          · skip
            have c_558 : x_556.toInt < 0 := q_lt c_558
            obtain ⟨x_559, e_560⟩ : ∃ y : Int32, y = yk + Int32.ofInt 1 := ⟨_, rfl⟩
            have i_x_559 : x_559.toInt = yk.toInt + 1 := by rw [e_560, show Int32.ofInt 1 = 1 by decide]; exact (q_add (by rw [show (1 : Int32).toInt = 1 by decide]; omega) (by rw [show (1 : Int32).toInt = 1 by decide]; omega)).trans (by rw [show (1 : Int32).toInt = 1 by decide])
            refine lv_iinc (v := x_559) (lv' := [(2, .int x_559), (0, .ref a0), (1, .int a1)]) hx hb dX10_holds_74 hl (k := 0) rfl e_560.symm (by decide) rfl (fun ls hl => ?_)
            refine lv_goto (tgt := 8) hx hb dX10_holds_77 (by decide) ?_
            exact (hWW62 _ _ _).mp (ih62 x_559 n1 H locs ls (by omega) (by omega) (by omega) v62_2 hG hS (lv_sub hl [0, 1, 2] rfl))
          · skip
            have c_558 : 0 ≤ x_556.toInt := q_nlt c_558
            refine lv_aload_n hx hb dX10_holds_45 rfl (lv_at hl 1 rfl) ?_
            refine va_get (D := D) (ci := 9) (v := .ref r_489) (C := RX10) (T := TX10) (N := 36) hx hb hts in10 hown hK (va_one at_528) 0 rfl rfl 7 (by decide) (hts (.fieldLink RX10 22 "RiverModelModel" "number" "[I") (List.mem_of_getElem? (i := 29) rfl)) (fun _ h9 => h9) rfl dX10_holds_46 ?_
            refine lv_bipush (v := 120) hx hb dX10_holds_49 (by decide) ?_
            refine lv_iconst (v := 3) hx hb dX10_holds_51 (by decide) ?_
            refine lv_pc (pc2 := 52) rfl ?_
            refine lv_aload_n hx hb dX10_holds_52 rfl (lv_at hl 1 rfl) ?_
            refine va_get (D := D) (ci := 9) (v := .ref r_505) (C := RX10) (T := TX10) (N := 36) hx hb hts in10 hown hK (va_one at_528) 0 rfl rfl 18 (by decide) (hts (.fieldLink RX10 47 "RiverModelModel" "knobItem" "[I") (List.mem_of_getElem? (i := 33) rfl)) (fun _ h9 => h9) rfl dX10_holds_53 ?_
            refine lv_iload_n hx hb dX10_holds_56 rfl (lv_at hl 0 rfl) ?_
            have b_561 : vp_in yk 2 := (q_in (by omega) (by omega))
            refine va_iald hx hb hK (va_one at_539) 0 0 rfl rfl b_561 dX10_holds_57 ?_
            refine lv_seti (y := x_542) e_543.symm ?_
            refine lv_imul hx hb dX10_holds_58 ?_
            refine lv_topi (fun x_562 e_563 => ?_)
            have i_x_562 : x_562.toInt = 3 * x_542.toInt := by rw [e_563]; exact (q_mul (by rw [show (3 : Int32).toInt = 3 by decide]; omega) (by rw [show (3 : Int32).toInt = 3 by decide]; omega)).trans (by rw [show (3 : Int32).toInt = 3 by decide])
            refine lv_iadd hx hb dX10_holds_59 ?_
            refine lv_topi (fun x_564 e_565 => ?_)
            have i_x_564 : x_564.toInt = 120 + x_562.toInt := by rw [e_565]; exact (q_add (by rw [show (120 : Int32).toInt = 120 by decide]; omega) (by rw [show (120 : Int32).toInt = 120 by decide]; omega)).trans (by rw [show (120 : Int32).toInt = 120 by decide])
            refine lv_aload_n hx hb dX10_holds_60 rfl (lv_at hl 1 rfl) ?_
            refine va_get (D := D) (ci := 9) (v := .ref r_507) (C := RX10) (T := TX10) (N := 36) hx hb hts in10 hown hK (va_one at_528) 0 rfl rfl 19 (by decide) (hts (.fieldLink RX10 50 "RiverModelModel" "knobAt" "[I") (List.mem_of_getElem? (i := 34) rfl)) (fun _ h9 => h9) rfl dX10_holds_61 ?_
            refine lv_pc (pc2 := 64) rfl ?_
            refine lv_iload_n hx hb dX10_holds_64 rfl (lv_at hl 0 rfl) ?_
            have b_566 : vp_in yk 2 := (q_in (by omega) (by omega))
            refine va_iald hx hb hK (va_one at_547) 0 0 rfl rfl b_566 dX10_holds_65 ?_
            refine lv_seti (y := x_550) e_551.symm ?_
            refine lv_iadd hx hb dX10_holds_66 ?_
            refine lv_topi (fun x_567 e_568 => ?_)
            have i_x_567 : x_567.toInt = x_564.toInt + x_550.toInt := by rw [e_568]; exact (q_add (by omega) (by omega)).trans (by rfl)
            refine lv_aload_n hx hb dX10_holds_67 rfl (lv_at hl 1 rfl) ?_
            refine lv_iload_n hx hb dX10_holds_68 rfl (lv_at hl 0 rfl) ?_
            refine lv_iload_n hx hb dX10_holds_69 rfl (lv_at hl 2 rfl) ?_
            refine ty_calli (W.runV (As := [.int yk, .int a1]) (rest := [.int x_567, .ref r_489]) ⟨hx, hb, hml, hown, hts⟩ (m_X10_knobValue l D t cI cL cC gC gE gW gA gT gI gS gM K_54 F_55 S_56 n1 gH gJ ge gk gf gs gg gr RN a0 yk a1  uq (by omega) (by omega) k_a0) (cwV 2 hts gu_X10_holds_X10_knobValue_268 rfl rfl rfl (by decide +kernel) ⟨Nat.le_of_ble_eq_true rfl, Nat.le_of_ble_eq_true rfl⟩) (tP_V hG hE at_528 rfl) rfl rfl hl.1 rfl (lv_room (Nat.le_of_ble_eq_true rfl)) dX10_holds_70 ⟨Nat.le_of_ble_eq_true rfl, Nat.le_of_ble_eq_true rfl⟩) hS (fun k h => by simp [wr0] at h) (fun r_569 H locs hp_570 hG hS o_571 => ?_)
            have at_528 := va_at.keptC at_528 o_571 k_a0 rfl
            have at_530 := va_at.keptC at_530 o_571 h_514 rfl
            have at_539 := va_at.keptC at_539 o_571 h_506 rfl
            have at_547 := va_at.keptC at_547 o_571 h_508 rfl
            have at_554 := va_at.keptC at_554 o_571 h_490 rfl
            have b_573 : vp_in x_567 360 := (q_in (by omega) (by omega))
            obtain ⟨q_574, eq_574⟩ : ∃ q : Nat → Int32, q = upd n1 x_567.toNatClampNeg r_569 := ⟨_, rfl⟩
            refine ty_iast (F2 := (mF cI cL cC gC gE gW gA gT gI gS gM K_54 F_55 S_56 q_574 gH gJ ge gk gf gs gg gr RN)) hx hb hK hG hS 0 at_554 (by rw [h_490]; rfl) rfl b_573 (by rw [h_490]; show _ = _; rw [eq_574]) (fun hG b hb h0 => by obtain ⟨e, g1, g2⟩ := hG b h0; exact ⟨e, g1, mF_N (fun h => hb (uq b r_489 (h.trans h_490.symm) h0)) g2⟩) dX10_holds_73 (fun H locs hG hS at_575 o_576 => ?_)
            have at_528 := va_at.keptK at_528 o_576 h_490 k_a0 rfl
            have at_530 := va_at.keptK at_530 o_576 h_490 h_514 rfl
            have at_539 := va_at.keptK at_539 o_576 h_490 h_506 rfl
            have at_547 := va_at.keptK at_547 o_576 h_490 h_508 rfl
            refine lv_pc (pc2 := 74) rfl ?_
            obtain ⟨x_577, e_578⟩ : ∃ y : Int32, y = yk + Int32.ofInt 1 := ⟨_, rfl⟩
            have i_x_577 : x_577.toInt = yk.toInt + 1 := by rw [e_578, show Int32.ofInt 1 = 1 by decide]; exact (q_add (by rw [show (1 : Int32).toInt = 1 by decide]; omega) (by rw [show (1 : Int32).toInt = 1 by decide]; omega)).trans (by rw [show (1 : Int32).toInt = 1 by decide])
            refine lv_iinc (v := x_577) (lv' := [(2, .int x_577), (0, .ref a0), (1, .int a1)]) hx hb dX10_holds_74 hl (k := 0) rfl e_578.symm (by decide) rfl (fun ls hl => ?_)
            refine lv_goto (tgt := 8) hx hb dX10_holds_77 (by decide) ?_
            exact (hWW62 _ _ _).mp (ih62 x_577 q_574 H locs ls (by omega) (by omega) (by omega) (kpO.upd v62_2 (by decide) (i := x_567.toInt) (by omega) eq_574) hG hS (lv_sub hl [0, 1, 2] rfl))
  exact lp62 (2 - (0 : Int32).toInt : Int).toNat 0 N_57 H locs ls (by omega) (by omega) (by omega) p_61.2 hG hS (lv_sub hl [0, 1, 2] rfl)

def uX10_fitsTo : List Cond := .code yX10_fitsTo cX10_fitsTo 5 (some .int) :: ([.methodLink RX10 265 yX10_knobs, .instanceMethod yX10_knobs, .selects RX10 yX10_knobs yX10_knobs, .initialized RX10, .methodLink RX10 280 yX10_holds, .instanceMethod yX10_holds, .selects RX10 yX10_holds yX10_holds, .fieldLink RX10 283 "RiverModelModel" "point" "I", .code yX10_knobs cX10_knobs 2 (some .int), .fieldLink RX10 59 "RiverModelModel" "knobMany" "[I", .code yX10_holds cX10_holds 9 (some .boolean), .methodLink RX10 170 yX10_copies, .instanceMethod yX10_copies, .selects RX10 yX10_copies yX10_copies, .methodLink RX10 271 yX10_lastSeen, .instanceMethod yX10_lastSeen, .selects RX10 yX10_lastSeen yX10_lastSeen, .methodLink RX10 274 yX10_asides, .instanceMethod yX10_asides, .selects RX10 yX10_asides yX10_asides, .methodLink RX10 186 yX10_begins, .instanceMethod yX10_begins, .selects RX10 yX10_begins yX10_begins, .methodLink RX10 277 yX10_returns, .instanceMethod yX10_returns, .selects RX10 yX10_returns yX10_returns, .methodLink RX10 231 yX10_goes, .instanceMethod yX10_goes, .selects RX10 yX10_goes yX10_goes, .fieldLink RX10 44 "RiverModelModel" "seen" "[I", .methodLink RX10 251 yX10_reading, .instanceMethod yX10_reading, .selects RX10 yX10_reading yX10_reading, .fieldLink RX10 258 "RiverModelModel" "ends" "I", .methodLink RX10 85 yX10_in, .static yX10_in, .fieldLink RX10 163 "RiverModelModel" "items" "I", .fieldLink RX10 13 "RiverModelModel" "kind" "[I", .fieldLink RX10 22 "RiverModelModel" "number" "[I", .methodLink RX10 144 yX10_areWell, .static yX10_areWell, .fieldLink RX10 47 "RiverModelModel" "knobItem" "[I", .fieldLink RX10 50 "RiverModelModel" "knobAt" "[I", .methodLink RX10 268 yX10_knobValue, .instanceMethod yX10_knobValue, .selects RX10 yX10_knobValue yX10_knobValue, .code yX10_copies cX10_copies 4 none, .fieldLink RX10 16 "RiverModelModel" "first" "[I", .fieldLink RX10 19 "RiverModelModel" "second" "[I", .code yX10_lastSeen cX10_lastSeen 3 (some .int), .code yX10_asides cX10_asides 2 none, .fieldLink RX10 32 "RiverModelModel" "aside" "[J", .fieldLink RX10 28 "RiverModelModel" "m" "[J", .code yX10_begins cX10_begins 4 none, .methodLink RX10 183 yX10_startOf, .instanceMethod yX10_startOf, .selects RX10 yX10_startOf yX10_startOf, .methodLink RX10 208 yX10_isStore, .instanceMethod yX10_isStore, .selects RX10 yX10_isStore yX10_isStore, .fieldLink RX10 71 "RiverModelModel" "startB" "[I", .constantLong RX10 204 (224), .constantLong RX10 206 (227), .constantLong RX10 196 (5), .code yX10_startOf cX10_startOf 4 (some .int), .methodLink RX10 166 yX10_storeAt, .instanceMethod yX10_storeAt, .selects RX10 yX10_storeAt yX10_storeAt, .code yX10_storeAt cX10_storeAt 5 (some .int), .code yX10_isStore cX10_isStore 2 (some .boolean), .code yX10_in cX10_in 6 (some .boolean), .code yX10_returns cX10_returns 2 none, .code yX10_goes cX10_goes 4 none, .fieldLink RX10 25 "RiverModelModel" "weather" "[I", .methodLink RX10 225 yX10_passes, .instanceMethod yX10_passes, .selects RX10 yX10_passes yX10_passes, .code yX10_passes cX10_passes 12 none, .methodLink RX10 221 yX10_moves, .instanceMethod yX10_moves, .selects RX10 yX10_moves yX10_moves, .code yX10_moves cX10_moves 8 (some .long), .constantLong RX10 219 (10), .methodLink RX10 215 yX10_most, .instanceMethod yX10_most, .selects RX10 yX10_most yX10_most, .constantLong RX10 107 (100), .methodLink RX10 211 yX10_capacity, .instanceMethod yX10_capacity, .selects RX10 yX10_capacity yX10_capacity, .code yX10_most cX10_most 4 (some .long), .code yX10_capacity cX10_capacity 3 (some .long), .code yX10_reading cX10_reading 2 (some .long), .fieldLink RX10 38 "RiverModelModel" "gaugeKind" "[I", .fieldLink RX10 41 "RiverModelModel" "gaugeAt" "[I", .code yX10_areWell cX10_areWell 4 (some .boolean), .constantLong RX10 101 (1000), .constantLong RX10 103 (10000), .constantLong RX10 99 (1000000), .constantLong RX10 105 (12), .code yX10_knobValue cX10_knobValue 4 (some .int), .fieldLink RX10 53 "RiverModelModel" "knobFrom" "[I", .fieldLink RX10 56 "RiverModelModel" "knobStep" "[I"] ++ wsX100)
set_option maxRecDepth 20000 in
theorem gu_X10_fitsTo_X10_knobs_265 : GoodIn uX10_fitsTo (wsV RX10 265 RX10 yX10_knobs uX10_knobs) := goodIn_r _ [1, 2, 3, 4, 9, 10, 104, 105, 106, 107, 108, 109, 110, 111, 112, 113, 114, 115, 116, 117, 118, 119, 120, 121, 122, 123, 124, 125, 126, 127, 128, 129, 130, 131, 132, 133, 134, 135, 136, 137, 138, 139] (by decide +kernel) (by decide +kernel)
set_option maxRecDepth 20000 in
theorem gu_X10_fitsTo_X10_holds_280 : GoodIn uX10_fitsTo (wsV RX10 280 RX10 yX10_holds uX10_holds) := goodIn_r _ [5, 6, 7, 4, 11, 12, 13, 14, 4, 15, 16, 17, 18, 19, 20, 21, 22, 23, 24, 25, 26, 27, 28, 29, 30, 31, 32, 33, 34, 35, 36, 37, 38, 39, 40, 41, 10, 42, 43, 44, 45, 46, 47, 48, 49, 50, 51, 52, 53, 54, 55, 56, 57, 58, 59, 60, 61, 62, 63, 64, 65, 66, 67, 68, 69, 70, 71, 72, 73, 74, 75, 76, 77, 78, 79, 80, 81, 82, 83, 84, 85, 86, 87, 88, 89, 90, 91, 92, 93, 94, 95, 96, 97, 98, 99, 100, 101, 1, 2, 3, 102, 103, 9, 104, 105, 106, 107, 108, 109, 110, 111, 112, 113, 114, 115, 116, 117, 118, 119, 120, 121, 122, 123, 124, 125, 126, 127, 128, 129, 130, 131, 132, 133, 134, 135, 136, 137, 138, 139] (by decide +kernel) (by decide +kernel)
set_option maxHeartbeats 4000000 in
set_option maxRecDepth 100000 in
theorem m_X10_fitsTo (l : Launch) (D : va_G) (t : Nat → Nat) (cI cL cC : ClassId) (gC : Int32) (gE : Int32) (gW : Nat → Int32) (gA : Nat → Int32) (gT : Nat → Int32) (gI : Int32) (gS : Int32) (gM : Int32) (K : Nat → Int32) (F : Nat → Int32) (S : Nat → Int32) (N : Nat → Int32) (gH : Int) (gJ : Int) (ge : Int32) (gk : Int32) (gf : Int32) (gs : Int32) (gg : Int32) (gr : Int32) (RN : Nat → Int32) (a0 : Nat) (a1 : Int32) (uq : ∀ b c : Nat, t b = t c → t b ≠ 0 → b = c) (hI0 : 0 ≤ gI.toInt) (hI4 : gI.toInt ≤ 40) (hH0 : 0 ≤ gH) (hH9 : gH ≤ 96) (hO0 : okM K F S N 0 gI.toInt) (k_a0 : t a0 = 40) : tMx (Z := (Nat → Int32) × (Nat → Int32) × (Nat → Int32) × (Nat → Int32) × (Int) × (Int)) l yX10_fitsTo uX10_fitsTo 6 155 D (mF cI cL cC gC gE gW gA gT gI gS gM K F S N gH gJ ge gk gf gs gg gr RN) (fun z => (mF cI cL cC gC gE gW gA gT gI gS gM z.1 z.2.1 z.2.2.1 z.2.2.2.1 z.2.2.2.2.1 z.2.2.2.2.2 ge gk gf gs gg gr RN)) t cI cL cC [.ref a0, .int a1] wFi (xI (fun r (z : (Nat → Int32) × (Nat → Int32) × (Nat → Int32) × (Nat → Int32) × (Int) × (Int)) => z.2.2.2.2.1 = gH ∧ kpO K z.1 40 40 ∧ kpO F z.2.1 40 40 ∧ kpO S z.2.2.1 40 40 ∧ kpO N z.2.2.2.1 120 120 ∧ (0 ≤ a1.toInt → a1.toInt < r.toInt → okM z.1 z.2.1 z.2.2.1 z.2.2.2.1 40 gI.toInt))) := by
  refine tMx.ofW (cc := cX10_fitsTo) (maxL := 5) (ret := (some .int)) (by decide) rfl (Nat.le_of_ble_eq_true rfl) ?_
  intro p e s m below meth c hx hb hr hml hown hts hlk H locs hG hK hE hS ls hl
  have hl : lv_has ls 5 [(0, .ref a0), (1, .int a1)] := hl
  have in10 : ∀ w ∈ wsX100, w ∈ uX10_fitsTo := fun w h => List.mem_cons_of_mem _ (List.mem_append_right _ h)
  refine lv_iconst (v := 0) hx hb dX10_fitsTo_0 (by decide) ?_
  refine lv_istore_n (lv' := [(2, .int 0), (0, .ref a0), (1, .int a1)]) hx hb dX10_fitsTo_1 rfl hl (by decide) rfl (fun ls hl => ?_)
  refine lv_aload_n hx hb dX10_fitsTo_2 rfl (lv_at hl 1 rfl) ?_
  refine lv_iconst (v := 0) hx hb dX10_fitsTo_3 (by decide) ?_
  have zi_0 : (0 : Int32).toInt = 0 := by decide
  obtain ⟨r_1, v_3, r_4, r_6, r_8, r_10, r_12, r_14, r_16, r_18, r_20, r_22, r_24, r_26, r_28, r_30, r_32, r_34, r_36, r_38, r_40, r_42, r_44, v_46, r_47, at_49, h_2, h_5, h_7, h_9, h_11, h_13, h_15, h_17, h_19, h_21, h_23, h_25, h_27, h_29, h_31, h_33, h_35, h_37, h_39, h_41, h_43, h_45, h_48⟩ := mF_o40 hG k_a0
  refine ty_calli (W.runV (As := [.int 0]) (rest := []) ⟨hx, hb, hml, hown, hts⟩ (m_X10_knobs l D t cI cL cC gC gE gW gA gT gI gS gM K F S N gH gJ ge gk gf gs gg gr RN a0 0  uq (by omega) (by omega) k_a0) (cwV 1 hts gu_X10_fitsTo_X10_knobs_265 rfl rfl rfl (by decide +kernel) ⟨Nat.le_of_ble_eq_true rfl, Nat.le_of_ble_eq_true rfl⟩) (tP_V hG hE at_49 rfl) rfl rfl hl.1 rfl (lv_room (Nat.le_of_ble_eq_true rfl)) dX10_fitsTo_4 ⟨Nat.le_of_ble_eq_true rfl, Nat.le_of_ble_eq_true rfl⟩) hS (fun k h => by simp [wr0] at h) (fun r_50 H locs hp_51 hG hS o_52 => ?_)
  have at_49 := va_at.keptC at_49 o_52 k_a0 rfl
  have hp_51 : 1 ≤ r_50.toInt ∧ r_50.toInt ≤ 16 := hp_51
  obtain ⟨p_54, p_55⟩ := hp_51
  refine lv_aload_n hx hb dX10_fitsTo_7 rfl (lv_at hl 1 rfl) ?_
  refine lv_iconst (v := 1) hx hb dX10_fitsTo_8 (by decide) ?_
  refine lv_pc (pc2 := 9) rfl ?_
  have zi_1 : (1 : Int32).toInt = 1 := by decide
  refine ty_calli (W.runV (As := [.int 1]) (rest := [.int r_50]) ⟨hx, hb, hml, hown, hts⟩ (m_X10_knobs l D t cI cL cC gC gE gW gA gT gI gS gM K F S N gH gJ ge gk gf gs gg gr RN a0 1  uq (by omega) (by omega) k_a0) (cwV 1 hts gu_X10_fitsTo_X10_knobs_265 rfl rfl rfl (by decide +kernel) ⟨Nat.le_of_ble_eq_true rfl, Nat.le_of_ble_eq_true rfl⟩) (tP_V hG hE at_49 rfl) rfl rfl hl.1 rfl (lv_room (Nat.le_of_ble_eq_true rfl)) dX10_fitsTo_9 ⟨Nat.le_of_ble_eq_true rfl, Nat.le_of_ble_eq_true rfl⟩) hS (fun k h => by simp [wr0] at h) (fun r_56 H locs hp_57 hG hS o_58 => ?_)
  have at_49 := va_at.keptC at_49 o_58 k_a0 rfl
  have hp_57 : 1 ≤ r_56.toInt ∧ r_56.toInt ≤ 16 := hp_57
  obtain ⟨p_60, p_61⟩ := hp_57
  refine lv_imul hx hb dX10_fitsTo_12 ?_
  refine lv_topi (fun x_62 e_63 => ?_)
  have i_x_62 : 0 ≤ x_62.toInt ∧ x_62.toInt ≤ 256 := by rw [e_63]; exact q_mul16 (by omega) (by omega) (by omega) (by omega)
  refine lv_istore_n (lv' := [(3, .int x_62), (2, .int 0), (0, .ref a0), (1, .int a1)]) hx hb dX10_fitsTo_13 rfl hl (by decide) rfl (fun ls hl => ?_)
  refine lv_iconst (v := 0) hx hb dX10_fitsTo_14 (by decide) ?_
  refine lv_istore (lv' := [(4, .int 0), (3, .int x_62), (2, .int 0), (0, .ref a0), (1, .int a1)]) hx hb dX10_fitsTo_15 hl (by decide) rfl (fun ls hl => ?_)
  refine lv_pc (pc2 := 17) rfl ?_
  refine lp_gen (fun WW64 hWW64 => ?_)
  have kx64 : ∀ (yp : Int32) (yn : Int32) (K1 : Nat → Int32) (F1 : Nat → Int32) (S1 : Nat → Int32) (N1 : Nat → Int32) (hm : Int) (hj : Int) (H1 : Heap) (locs1 : List Loc) (ls1 : Array Slot), (0 ≤ yp.toInt) → (yp.toInt ≤ 256) → (0 ≤ yn.toInt) → (yn.toInt ≤ yp.toInt) → (hm = gH) → (0 ≤ a1.toInt → yn.toInt ≤ a1.toInt) → (kpO K K1 40 40) → (kpO F F1 40 40) → (kpO S S1 40 40) → (kpO N N1 120 120) → tG D (mF cI cL cC gC gE gW gA gT gI gS gM K1 F1 S1 N1 hm hj ge gk gf gs gg gr RN) t H1 → tF t wFi s.heap H1 locs1 → lv_has ls1 5 [(4, .int yp), (3, .int x_62), (2, .int yn), (0, .ref a0), (1, .int a1)] → WW64 H1 locs1 (F0 m 56 ls1 []) := by
    intro yp yn K1 F1 S1 N1 hm hj H locs ls v64_0 v64_1 v64_2 v64_3 v64_4 v64_5 v64_6 v64_7 v64_8 v64_9 hG hS hl
    refine (hWW64 _ _ _).mpr ?_
    refine lv_iload_n hx hb dX10_fitsTo_56 rfl (lv_at hl 2 rfl) ?_
    exact tx_iret (z := (K1, F1, S1, N1, hm, hj)) hx hb hr hlk hG hS ⟨(by show hm = gH; omega), v64_6, v64_7, v64_8, v64_9, (fun h1 h2 => by exfalso; omega)⟩ dX10_fitsTo_57
  have lp64 : ∀ (kk64 : Nat) (yp : Int32) (yn : Int32) (K1 : Nat → Int32) (F1 : Nat → Int32) (S1 : Nat → Int32) (N1 : Nat → Int32) (hm : Int) (hj : Int) (H1 : Heap) (locs1 : List Loc) (ls1 : Array Slot), x_62.toInt - yp.toInt ≤ (kk64 : Int) → (0 ≤ yp.toInt) → (yp.toInt ≤ 256) → (0 ≤ yn.toInt) → (yn.toInt ≤ yp.toInt) → (hm = gH) → (0 ≤ a1.toInt → yn.toInt ≤ a1.toInt) → (kpO K K1 40 40) → (kpO F F1 40 40) → (kpO S S1 40 40) → (kpO N N1 120 120) → tG D (mF cI cL cC gC gE gW gA gT gI gS gM K1 F1 S1 N1 hm hj ge gk gf gs gg gr RN) t H1 → tF t wFi s.heap H1 locs1 → lv_has ls1 5 [(4, .int yp), (3, .int x_62), (2, .int yn), (0, .ref a0), (1, .int a1)] → WW64 H1 locs1 (F0 m 17 ls1 []) := by
    intro kk64
    induction kk64 with
    | zero =>
      intro yp yn K1 F1 S1 N1 hm hj H locs ls hk64 v64_0 v64_1 v64_2 v64_3 v64_4 v64_5 v64_6 v64_7 v64_8 v64_9 hG hS hl
      refine (hWW64 _ _ _).mpr ?_
      refine lv_iload hx hb dX10_fitsTo_17 (lv_at hl 0 rfl) ?_
      refine lv_pc (pc2 := 19) rfl ?_
      refine lv_iload_n hx hb dX10_fitsTo_19 rfl (lv_at hl 1 rfl) ?_
      refine lv_icmp_ge (tgt := 56) hx hb dX10_fitsTo_20 (by decide) (fun c_65 => ?_) (fun c_65 => ?_)
      · skip
        have c_65 : x_62.toInt ≤ yp.toInt := q_le c_65
        exact (hWW64 _ _ _).mp (kx64 yp yn K1 F1 S1 N1 hm hj H locs ls v64_0 v64_1 v64_2 v64_3 v64_4 v64_5 v64_6 v64_7 v64_8 v64_9 hG hS (lv_sub hl [0, 1, 2, 3, 4] rfl))
      · skip
        have c_65 : yp.toInt < x_62.toInt := q_nle c_65
        exfalso; omega
    | succ kk64 ih64 =>
      intro yp yn K1 F1 S1 N1 hm hj H locs ls hk64 v64_0 v64_1 v64_2 v64_3 v64_4 v64_5 v64_6 v64_7 v64_8 v64_9 hG hS hl
      refine (hWW64 _ _ _).mpr ?_
      refine lv_iload hx hb dX10_fitsTo_17 (lv_at hl 0 rfl) ?_
      refine lv_iload_n hx hb dX10_fitsTo_19 rfl (lv_at hl 1 rfl) ?_
      refine lv_icmp_ge (tgt := 56) hx hb dX10_fitsTo_20 (by decide) (fun c_66 => ?_) (fun c_66 => ?_)
      · skip
        have c_66 : x_62.toInt ≤ yp.toInt := q_le c_66
        exact (hWW64 _ _ _).mp (kx64 yp yn K1 F1 S1 N1 hm hj H locs ls v64_0 v64_1 v64_2 v64_3 v64_4 v64_5 v64_6 v64_7 v64_8 v64_9 hG hS (lv_sub hl [0, 1, 2, 3, 4] rfl))
      · skip
        have c_66 : yp.toInt < x_62.toInt := q_nle c_66
        have hOl := okM.kpg (a := 40) (a3 := 120) (b := 0) (n := gI.toInt) (by decide) (by decide) (by omega) v64_6 v64_7 v64_8 v64_9 hO0
        refine lv_aload_n hx hb dX10_fitsTo_23 rfl (lv_at hl 3 rfl) ?_
        refine lv_iload hx hb dX10_fitsTo_24 (lv_at hl 0 rfl) ?_
        obtain ⟨r_67, v_69, r_70, r_72, r_74, r_76, r_78, r_80, r_82, r_84, r_86, r_88, r_90, r_92, r_94, r_96, r_98, r_100, r_102, r_104, r_106, r_108, r_110, v_112, r_113, at_115, h_68, h_71, h_73, h_75, h_77, h_79, h_81, h_83, h_85, h_87, h_89, h_91, h_93, h_95, h_97, h_99, h_101, h_103, h_105, h_107, h_109, h_111, h_114⟩ := mF_o40 hG k_a0
        refine tx_calli (W.runV (As := [.int yp]) (rest := []) ⟨hx, hb, hml, hown, hts⟩ (m_X10_holds l D t cI cL cC gC gE gW gA gT gI gS gM K1 F1 S1 N1 hm hj ge gk gf gs gg gr RN a0 yp  uq (by omega) (by omega) (by omega) (by omega) hOl k_a0) (cwV 1 hts gu_X10_fitsTo_X10_holds_280 rfl rfl rfl (by decide +kernel) ⟨Nat.le_of_ble_eq_true rfl, Nat.le_of_ble_eq_true rfl⟩) (tP_V hG hE at_115 rfl) rfl rfl hl.1 rfl (lv_room (Nat.le_of_ble_eq_true rfl)) dX10_fitsTo_26 ⟨Nat.le_of_ble_eq_true rfl, Nat.le_of_ble_eq_true rfl⟩) hS (wrL_sub (by decide)) (fun r_116 zz_119 H locs hp_117 hG hS o_118 => ?_)
        obtain ⟨K_120, F_121, S_122, N_123, gH_124, gJ_125⟩ := zz_119
        have at_115 := va_at.keptC at_115 o_118 k_a0 rfl
        replace hG : tG D (mF cI cL cC gC gE gW gA gT gI gS gM K_120 F_121 S_122 N_123 gH_124 gJ_125 ge gk gf gs gg gr RN) t H := hG
        have hp_117 : (r_116 = 1 ∧ gH_124 = hm ∧ kpO K1 K_120 40 40 ∧ kpO F1 F_121 40 40 ∧ kpO S1 S_122 40 40 ∧ kpO N1 N_123 120 120 ∧ okM K_120 F_121 S_122 N_123 40 gI.toInt) ∨ (r_116 = 0 ∧ gH_124 = hm ∧ kpO K1 K_120 40 40 ∧ kpO F1 F_121 40 40 ∧ kpO S1 S_122 40 40 ∧ kpO N1 N_123 120 120) := hp_117
        rcases hp_117 with ⟨rfl, p_126, p_127, p_128, p_129, p_130, p_131⟩ | ⟨rfl, p_132, p_133, p_134, p_135, p_136⟩
        · skip
          refine lv_pc (pc2 := 29) rfl ?_
          refine lv_if_eq (tgt := 50) hx hb dX10_fitsTo_29 (by decide) (fun q => absurd q (by decide)) (fun _ => ?_)
          refine lv_iload_n hx hb dX10_fitsTo_32 rfl (lv_at hl 2 rfl) ?_
          refine lv_iload_n hx hb dX10_fitsTo_33 rfl (lv_at hl 4 rfl) ?_
          refine lv_icmp_ne (tgt := 47) hx hb dX10_fitsTo_34 (by decide) (fun c_137 => ?_) (fun c_137 => ?_)
          · skip
            have c_137 : yn.toInt ≠ a1.toInt := q_ne c_137
            obtain ⟨x_138, e_139⟩ : ∃ y : Int32, y = yn + Int32.ofInt 1 := ⟨_, rfl⟩
            have i_x_138 : x_138.toInt = yn.toInt + 1 := by rw [e_139, show Int32.ofInt 1 = 1 by decide]; exact (q_add (by rw [show (1 : Int32).toInt = 1 by decide]; omega) (by rw [show (1 : Int32).toInt = 1 by decide]; omega)).trans (by rw [show (1 : Int32).toInt = 1 by decide])
            refine lv_iinc (v := x_138) (lv' := [(2, .int x_138), (4, .int yp), (3, .int x_62), (0, .ref a0), (1, .int a1)]) hx hb dX10_fitsTo_47 hl (k := 2) rfl e_139.symm (by decide) rfl (fun ls hl => ?_)
            obtain ⟨x_140, e_141⟩ : ∃ y : Int32, y = yp + Int32.ofInt 1 := ⟨_, rfl⟩
            have i_x_140 : x_140.toInt = yp.toInt + 1 := by rw [e_141, show Int32.ofInt 1 = 1 by decide]; exact (q_add (by rw [show (1 : Int32).toInt = 1 by decide]; omega) (by rw [show (1 : Int32).toInt = 1 by decide]; omega)).trans (by rw [show (1 : Int32).toInt = 1 by decide])
            refine lv_iinc (v := x_140) (lv' := [(4, .int x_140), (2, .int x_138), (3, .int x_62), (0, .ref a0), (1, .int a1)]) hx hb dX10_fitsTo_50 hl (k := 1) rfl e_141.symm (by decide) rfl (fun ls hl => ?_)
            refine lv_goto (tgt := 17) hx hb dX10_fitsTo_53 (by decide) ?_
            exact (hWW64 _ _ _).mp (ih64 x_140 x_138 K_120 F_121 S_122 N_123 gH_124 gJ_125 H locs ls (by omega) (by omega) (by omega) (by omega) (by omega) (by omega) (by omega) (v64_6.tr p_127) (v64_7.tr p_128) (v64_8.tr p_129) (v64_9.tr p_130) hG hS (lv_sub hl [0, 2, 1, 3, 4] rfl))
          · skip
            have c_137 : yn.toInt = a1.toInt := q_eq c_137
            refine lv_aload_n hx hb dX10_fitsTo_37 rfl (lv_at hl 3 rfl) ?_
            refine lv_pc (pc2 := 38) rfl ?_
            refine lv_iload hx hb dX10_fitsTo_38 (lv_at hl 0 rfl) ?_
            refine ty_put (D := D) (ci := 9) (v := .int yp) (ty := .int) (C := RX10) (T := TX10) (N := 36) (F2 := (mF cI cL cC gC gE gW gA gT gI gS gM K_120 F_121 S_122 N_123 gH_124 gJ_125 ge gk gf gs gg gr RN)) hx hb hts in10 tyX10 tyX10_ok nmX10 hown hK hG hS at_115 (by rw [k_a0]; rfl) rfl 34 (by decide) (hts (.fieldLink RX10 283 "RiverModelModel" "point" "I") (List.mem_of_getElem? (i := 8) rfl)) (fun _ h9 => h9) rfl (by decide +kernel) rfl rfl (Nat.le_of_ble_eq_true rfl) (by rw [k_a0]; exact ⟨r_67, v_69, r_70, r_72, r_74, r_76, r_78, r_80, r_82, r_84, r_86, r_88, r_90, r_92, r_94, r_96, r_98, r_100, r_102, r_104, r_106, r_108, r_110, yp, r_113, rfl, h_68, h_71, h_73, h_75, h_77, h_79, h_81, h_83, h_85, h_87, h_89, h_91, h_93, h_95, h_97, h_99, h_101, h_103, h_105, h_107, h_109, h_111, h_114⟩) tFF dX10_fitsTo_40 (fun H locs hG hS at_142 o_143 => ?_)
            have at_142 : va_at D vwCl (a0, .inr (9, [.int gC, .ref r_67, .int v_69, .int gI, .ref r_70, .ref r_72, .ref r_74, .ref r_76, .int gS, .ref r_78, .ref r_80, .ref r_82, .ref r_84, .int gM, .ref r_86, .ref r_88, .ref r_90, .int gE, .ref r_92, .ref r_94, .ref r_96, .ref r_98, .ref r_100, .ref r_102, .ref r_104, .ref r_106, .ref r_108, .int ge, .int gk, .int gf, .int gs, .int gg, .ref r_110, .int gr, .int yp, .ref r_113])) H := at_142
            refine lv_iload_n hx hb dX10_fitsTo_43 rfl (lv_at hl 2 rfl) ?_
            refine lv_iconst (v := 1) hx hb dX10_fitsTo_44 (by decide) ?_
            refine lv_iadd hx hb dX10_fitsTo_45 ?_
            refine lv_topi (fun x_144 e_145 => ?_)
            have i_x_144 : x_144.toInt = yn.toInt + 1 := by rw [e_145]; exact (q_add (by rw [show (1 : Int32).toInt = 1 by decide]; omega) (by rw [show (1 : Int32).toInt = 1 by decide]; omega)).trans (by rw [show (1 : Int32).toInt = 1 by decide])
            exact tx_iret (z := (K_120, F_121, S_122, N_123, gH_124, gJ_125)) hx hb hr hlk hG hS ⟨(by show gH_124 = gH; omega), (v64_6.tr p_127), (v64_7.tr p_128), (v64_8.tr p_129), (v64_9.tr p_130), (fun _ _ => p_131)⟩ dX10_fitsTo_46
        · skip
          refine lv_if_eq (tgt := 50) hx hb dX10_fitsTo_29 (by decide) (fun _ => ?_) (fun q => absurd (by decide) q)
          obtain ⟨x_146, e_147⟩ : ∃ y : Int32, y = yp + Int32.ofInt 1 := ⟨_, rfl⟩
          have i_x_146 : x_146.toInt = yp.toInt + 1 := by rw [e_147, show Int32.ofInt 1 = 1 by decide]; exact (q_add (by rw [show (1 : Int32).toInt = 1 by decide]; omega) (by rw [show (1 : Int32).toInt = 1 by decide]; omega)).trans (by rw [show (1 : Int32).toInt = 1 by decide])
          refine lv_iinc (v := x_146) (lv' := [(4, .int x_146), (3, .int x_62), (2, .int yn), (0, .ref a0), (1, .int a1)]) hx hb dX10_fitsTo_50 hl (k := 0) rfl e_147.symm (by decide) rfl (fun ls hl => ?_)
          refine lv_pc (pc2 := 53) rfl ?_
          refine lv_goto (tgt := 17) hx hb dX10_fitsTo_53 (by decide) ?_
          exact (hWW64 _ _ _).mp (ih64 x_146 yn K_120 F_121 S_122 N_123 gH_124 gJ_125 H locs ls (by omega) (by omega) (by omega) (by omega) (by omega) (by omega) (by omega) (v64_6.tr p_133) (v64_7.tr p_134) (v64_8.tr p_135) (v64_9.tr p_136) hG hS (lv_sub hl [0, 1, 2, 3, 4] rfl))
  exact lp64 (x_62.toInt - (0 : Int32).toInt : Int).toNat 0 0 K F S N gH gJ H locs ls (by omega) (by omega) (by omega) (by omega) (by omega) (by omega) (by omega) kpO.rf kpO.rf kpO.rf kpO.rf hG hS (lv_sub hl [0, 1, 2, 3, 4] rfl)

def uX10_fits : List Cond := .code yX10_fits cX10_fits 1 (some .int) :: ([.fieldLink RX10 173 "RiverModelModel" "isBuilt" "Z", .methodLink RX10 286 yX10_fitsTo, .instanceMethod yX10_fitsTo, .selects RX10 yX10_fitsTo yX10_fitsTo, .initialized RX10, .code yX10_fitsTo cX10_fitsTo 5 (some .int), .methodLink RX10 265 yX10_knobs, .instanceMethod yX10_knobs, .selects RX10 yX10_knobs yX10_knobs, .methodLink RX10 280 yX10_holds, .instanceMethod yX10_holds, .selects RX10 yX10_holds yX10_holds, .fieldLink RX10 283 "RiverModelModel" "point" "I", .code yX10_knobs cX10_knobs 2 (some .int), .fieldLink RX10 59 "RiverModelModel" "knobMany" "[I", .code yX10_holds cX10_holds 9 (some .boolean), .methodLink RX10 170 yX10_copies, .instanceMethod yX10_copies, .selects RX10 yX10_copies yX10_copies, .methodLink RX10 271 yX10_lastSeen, .instanceMethod yX10_lastSeen, .selects RX10 yX10_lastSeen yX10_lastSeen, .methodLink RX10 274 yX10_asides, .instanceMethod yX10_asides, .selects RX10 yX10_asides yX10_asides, .methodLink RX10 186 yX10_begins, .instanceMethod yX10_begins, .selects RX10 yX10_begins yX10_begins, .methodLink RX10 277 yX10_returns, .instanceMethod yX10_returns, .selects RX10 yX10_returns yX10_returns, .methodLink RX10 231 yX10_goes, .instanceMethod yX10_goes, .selects RX10 yX10_goes yX10_goes, .fieldLink RX10 44 "RiverModelModel" "seen" "[I", .methodLink RX10 251 yX10_reading, .instanceMethod yX10_reading, .selects RX10 yX10_reading yX10_reading, .fieldLink RX10 258 "RiverModelModel" "ends" "I", .methodLink RX10 85 yX10_in, .static yX10_in, .fieldLink RX10 163 "RiverModelModel" "items" "I", .fieldLink RX10 13 "RiverModelModel" "kind" "[I", .fieldLink RX10 22 "RiverModelModel" "number" "[I", .methodLink RX10 144 yX10_areWell, .static yX10_areWell, .fieldLink RX10 47 "RiverModelModel" "knobItem" "[I", .fieldLink RX10 50 "RiverModelModel" "knobAt" "[I", .methodLink RX10 268 yX10_knobValue, .instanceMethod yX10_knobValue, .selects RX10 yX10_knobValue yX10_knobValue, .code yX10_copies cX10_copies 4 none, .fieldLink RX10 16 "RiverModelModel" "first" "[I", .fieldLink RX10 19 "RiverModelModel" "second" "[I", .code yX10_lastSeen cX10_lastSeen 3 (some .int), .code yX10_asides cX10_asides 2 none, .fieldLink RX10 32 "RiverModelModel" "aside" "[J", .fieldLink RX10 28 "RiverModelModel" "m" "[J", .code yX10_begins cX10_begins 4 none, .methodLink RX10 183 yX10_startOf, .instanceMethod yX10_startOf, .selects RX10 yX10_startOf yX10_startOf, .methodLink RX10 208 yX10_isStore, .instanceMethod yX10_isStore, .selects RX10 yX10_isStore yX10_isStore, .fieldLink RX10 71 "RiverModelModel" "startB" "[I", .constantLong RX10 204 (224), .constantLong RX10 206 (227), .constantLong RX10 196 (5), .code yX10_startOf cX10_startOf 4 (some .int), .methodLink RX10 166 yX10_storeAt, .instanceMethod yX10_storeAt, .selects RX10 yX10_storeAt yX10_storeAt, .code yX10_storeAt cX10_storeAt 5 (some .int), .code yX10_isStore cX10_isStore 2 (some .boolean), .code yX10_in cX10_in 6 (some .boolean), .code yX10_returns cX10_returns 2 none, .code yX10_goes cX10_goes 4 none, .fieldLink RX10 25 "RiverModelModel" "weather" "[I", .methodLink RX10 225 yX10_passes, .instanceMethod yX10_passes, .selects RX10 yX10_passes yX10_passes, .code yX10_passes cX10_passes 12 none, .methodLink RX10 221 yX10_moves, .instanceMethod yX10_moves, .selects RX10 yX10_moves yX10_moves, .code yX10_moves cX10_moves 8 (some .long), .constantLong RX10 219 (10), .methodLink RX10 215 yX10_most, .instanceMethod yX10_most, .selects RX10 yX10_most yX10_most, .constantLong RX10 107 (100), .methodLink RX10 211 yX10_capacity, .instanceMethod yX10_capacity, .selects RX10 yX10_capacity yX10_capacity, .code yX10_most cX10_most 4 (some .long), .code yX10_capacity cX10_capacity 3 (some .long), .code yX10_reading cX10_reading 2 (some .long), .fieldLink RX10 38 "RiverModelModel" "gaugeKind" "[I", .fieldLink RX10 41 "RiverModelModel" "gaugeAt" "[I", .code yX10_areWell cX10_areWell 4 (some .boolean), .constantLong RX10 101 (1000), .constantLong RX10 103 (10000), .constantLong RX10 99 (1000000), .constantLong RX10 105 (12), .code yX10_knobValue cX10_knobValue 4 (some .int), .fieldLink RX10 53 "RiverModelModel" "knobFrom" "[I", .fieldLink RX10 56 "RiverModelModel" "knobStep" "[I"] ++ wsX100)
set_option maxRecDepth 20000 in
theorem gu_X10_fits_X10_fitsTo_286 : GoodIn uX10_fits (wsV RX10 286 RX10 yX10_fitsTo uX10_fitsTo) := goodIn_r _ [2, 3, 4, 5, 6, 7, 8, 9, 5, 10, 11, 12, 13, 14, 15, 16, 17, 18, 19, 20, 21, 22, 23, 24, 25, 26, 27, 28, 29, 30, 31, 32, 33, 34, 35, 36, 37, 38, 39, 40, 41, 42, 43, 44, 45, 46, 47, 48, 49, 50, 51, 52, 53, 54, 55, 56, 57, 58, 59, 60, 61, 62, 63, 64, 65, 66, 67, 68, 69, 70, 71, 72, 73, 74, 75, 76, 77, 78, 79, 80, 81, 82, 83, 84, 85, 86, 87, 88, 89, 90, 91, 92, 93, 94, 95, 96, 97, 98, 99, 100, 101, 102, 103, 104, 105, 106, 107, 108, 109, 110, 111, 112, 113, 114, 115, 116, 117, 118, 119, 120, 121, 122, 123, 124, 125, 126, 127, 128, 129, 130, 131, 132, 133, 134, 135, 136, 137, 138, 139, 140, 141, 142, 143, 144] (by decide +kernel) (by decide +kernel)
set_option maxHeartbeats 4000000 in
set_option maxRecDepth 100000 in
theorem m_X10_fits (l : Launch) (D : va_G) (t : Nat → Nat) (cI cL cC : ClassId) (gC : Int32) (gE : Int32) (gW : Nat → Int32) (gA : Nat → Int32) (gT : Nat → Int32) (gI : Int32) (gS : Int32) (gM : Int32) (K : Nat → Int32) (F : Nat → Int32) (S : Nat → Int32) (N : Nat → Int32) (gH : Int) (gJ : Int) (ge : Int32) (gk : Int32) (gf : Int32) (gs : Int32) (gg : Int32) (gr : Int32) (RN : Nat → Int32) (a0 : Nat) (uq : ∀ b c : Nat, t b = t c → t b ≠ 0 → b = c) (hC0 : 0 ≤ gC.toInt) (hC4 : gC.toInt ≤ 400) (hI0 : 0 ≤ gI.toInt) (hI4 : gI.toInt ≤ 40) (hH0 : 0 ≤ gH) (hH9 : gH ≤ 96) (hm0 : 0 ≤ gM.toInt) (hm3 : gM.toInt ≤ 3) (hO0 : okM K F S N 0 gI.toInt) (hW : swM gS K F S N gI.toInt) (k_a0 : t a0 = 40) : tMx (Z := (Nat → Int32) × (Nat → Int32) × (Nat → Int32) × (Nat → Int32) × (Int) × (Int)) l yX10_fits uX10_fits 7 179 D (mF cI cL cC gC gE gW gA gT gI gS gM K F S N gH gJ ge gk gf gs gg gr RN) (fun z => (mF cI cL cC gC gE gW gA gT gI gS gM z.1 z.2.1 z.2.2.1 z.2.2.2.1 z.2.2.2.2.1 z.2.2.2.2.2 ge gk gf gs gg gr RN)) t cI cL cC [.ref a0] wFi (xI (fun r (z : (Nat → Int32) × (Nat → Int32) × (Nat → Int32) × (Nat → Int32) × (Int) × (Int)) => 0 ≤ z.2.2.2.2.1 ∧ z.2.2.2.2.1 ≤ 96 ∧ okM z.1 z.2.1 z.2.2.1 z.2.2.2.1 0 gI.toInt ∧ swM gS z.1 z.2.1 z.2.2.1 z.2.2.2.1 gI.toInt)) := by
  refine tMx.ofW (cc := cX10_fits) (maxL := 1) (ret := (some .int)) (by decide) rfl (Nat.le_of_ble_eq_true rfl) ?_
  intro p e s m below meth c hx hb hr hml hown hts hlk H locs hG hK hE hS ls hl
  have hl : lv_has ls 1 [(0, .ref a0)] := hl
  have in10 : ∀ w ∈ wsX100, w ∈ uX10_fits := fun w h => List.mem_cons_of_mem _ (List.mem_append_right _ h)
  refine lv_aload_n hx hb dX10_fits_0 rfl (lv_at hl 0 rfl) ?_
  obtain ⟨r_1, v_3, r_4, r_6, r_8, r_10, r_12, r_14, r_16, r_18, r_20, r_22, r_24, r_26, r_28, r_30, r_32, r_34, r_36, r_38, r_40, r_42, r_44, v_46, r_47, at_49, h_2, h_5, h_7, h_9, h_11, h_13, h_15, h_17, h_19, h_21, h_23, h_25, h_27, h_29, h_31, h_33, h_35, h_37, h_39, h_41, h_43, h_45, h_48⟩ := mF_o40 hG k_a0
  refine va_get (D := D) (ci := 9) (v := .int v_3) (C := RX10) (T := TX10) (N := 36) hx hb hts in10 hown hK (va_one at_49) 0 rfl rfl 2 (by decide) (hts (.fieldLink RX10 173 "RiverModelModel" "isBuilt" "Z") (List.mem_of_getElem? (i := 1) rfl)) (fun _ h9 => h9) rfl dX10_fits_1 ?_
  refine lv_if_eq (tgt := 15) hx hb dX10_fits_4 (by decide) (fun c_50 => ?_) (fun c_50 => ?_)
  · skip
    have c_50 : v_3.toInt = 0 := q_eq c_50
    refine lv_bipush (v := (-2)) hx hb dX10_fits_15 (by decide) ?_
    have zi_m2 : ((-2) : Int32).toInt = (-2) := by decide
    exact tx_iret (z := (K, F, S, N, gH, gJ)) hx hb hr hlk hG hS ⟨(by show 0 ≤ gH; omega), (by show gH ≤ 96; omega), (show okM K F S N 0 gI.toInt from hO0), (show swM gS K F S N gI.toInt from hW)⟩ dX10_fits_17
  · skip
    have c_50 : v_3.toInt ≠ 0 := q_ne c_50
    refine lv_aload_n hx hb dX10_fits_7 rfl (lv_at hl 0 rfl) ?_
    refine lv_iconst (v := (-1)) hx hb dX10_fits_8 (by decide) ?_
    refine lv_pc (pc2 := 9) rfl ?_
    have zi_m1 : ((-1) : Int32).toInt = (-1) := by decide
    refine tx_calli (W.runV (As := [.int (-1)]) (rest := []) ⟨hx, hb, hml, hown, hts⟩ (m_X10_fitsTo l D t cI cL cC gC gE gW gA gT gI gS gM K F S N gH gJ ge gk gf gs gg gr RN a0 (-1)  uq (by omega) (by omega) (by omega) (by omega) hO0 k_a0) (cwV 1 hts gu_X10_fits_X10_fitsTo_286 rfl rfl rfl (by decide +kernel) ⟨Nat.le_of_ble_eq_true rfl, Nat.le_of_ble_eq_true rfl⟩) (tP_V hG hE at_49 rfl) rfl rfl hl.1 rfl (lv_room (Nat.le_of_ble_eq_true rfl)) dX10_fits_9 ⟨Nat.le_of_ble_eq_true rfl, Nat.le_of_ble_eq_true rfl⟩) hS (fun _ h => h) (fun r_51 zz_54 H locs hp_52 hG hS o_53 => ?_)
    obtain ⟨K_55, F_56, S_57, N_58, gH_59, gJ_60⟩ := zz_54
    replace hG : tG D (mF cI cL cC gC gE gW gA gT gI gS gM K_55 F_56 S_57 N_58 gH_59 gJ_60 ge gk gf gs gg gr RN) t H := hG
    have hp_52 : gH_59 = gH ∧ kpO K K_55 40 40 ∧ kpO F F_56 40 40 ∧ kpO S S_57 40 40 ∧ kpO N N_58 120 120 ∧ (0 ≤ ((-1) : Int32).toInt → ((-1) : Int32).toInt < r_51.toInt → okM K_55 F_56 S_57 N_58 40 gI.toInt) := hp_52
    obtain ⟨p_61, p_62, p_63, p_64, p_65, p_66⟩ := hp_52
    have ok_67 := okM.kpg (a := 40) (a3 := 120) (b := 0) (n := gI.toInt) (by decide) (by decide) (by omega) p_62 p_63 p_64 p_65 hO0
    have ok_68 : swM gS K_55 F_56 S_57 N_58 gI.toInt := Or.imp id (fun h => okM.kpg (a := 40) (a3 := 120) (b := 80) (n := gI.toInt) (by decide) (by decide) (by omega) p_62 p_63 p_64 p_65 h) hW
    refine lv_goto (tgt := 17) hx hb dX10_fits_12 (by decide) ?_
    exact tx_iret (z := (K_55, F_56, S_57, N_58, gH_59, gJ_60)) hx hb hr hlk hG hS ⟨(by show 0 ≤ gH_59; omega), (by show gH_59 ≤ 96; omega), (show okM K_55 F_56 S_57 N_58 0 gI.toInt from ok_67), (show swM gS K_55 F_56 S_57 N_58 gI.toInt from ok_68)⟩ dX10_fits_17

def uX10_fit : List Cond := .code yX10_fit cX10_fit 3 (some .int) :: ([.methodLink RX10 85 yX10_in, .static yX10_in, .initialized RX10, .fieldLink RX10 173 "RiverModelModel" "isBuilt" "Z", .fieldLink RX10 59 "RiverModelModel" "knobMany" "[I", .methodLink RX10 286 yX10_fitsTo, .instanceMethod yX10_fitsTo, .selects RX10 yX10_fitsTo yX10_fitsTo, .fieldLink RX10 283 "RiverModelModel" "point" "I", .methodLink RX10 268 yX10_knobValue, .instanceMethod yX10_knobValue, .selects RX10 yX10_knobValue yX10_knobValue, .code yX10_in cX10_in 6 (some .boolean), .code yX10_fitsTo cX10_fitsTo 5 (some .int), .methodLink RX10 265 yX10_knobs, .instanceMethod yX10_knobs, .selects RX10 yX10_knobs yX10_knobs, .methodLink RX10 280 yX10_holds, .instanceMethod yX10_holds, .selects RX10 yX10_holds yX10_holds, .code yX10_knobs cX10_knobs 2 (some .int), .code yX10_holds cX10_holds 9 (some .boolean), .methodLink RX10 170 yX10_copies, .instanceMethod yX10_copies, .selects RX10 yX10_copies yX10_copies, .methodLink RX10 271 yX10_lastSeen, .instanceMethod yX10_lastSeen, .selects RX10 yX10_lastSeen yX10_lastSeen, .methodLink RX10 274 yX10_asides, .instanceMethod yX10_asides, .selects RX10 yX10_asides yX10_asides, .methodLink RX10 186 yX10_begins, .instanceMethod yX10_begins, .selects RX10 yX10_begins yX10_begins, .methodLink RX10 277 yX10_returns, .instanceMethod yX10_returns, .selects RX10 yX10_returns yX10_returns, .methodLink RX10 231 yX10_goes, .instanceMethod yX10_goes, .selects RX10 yX10_goes yX10_goes, .fieldLink RX10 44 "RiverModelModel" "seen" "[I", .methodLink RX10 251 yX10_reading, .instanceMethod yX10_reading, .selects RX10 yX10_reading yX10_reading, .fieldLink RX10 258 "RiverModelModel" "ends" "I", .fieldLink RX10 163 "RiverModelModel" "items" "I", .fieldLink RX10 13 "RiverModelModel" "kind" "[I", .fieldLink RX10 22 "RiverModelModel" "number" "[I", .methodLink RX10 144 yX10_areWell, .static yX10_areWell, .fieldLink RX10 47 "RiverModelModel" "knobItem" "[I", .fieldLink RX10 50 "RiverModelModel" "knobAt" "[I", .code yX10_copies cX10_copies 4 none, .fieldLink RX10 16 "RiverModelModel" "first" "[I", .fieldLink RX10 19 "RiverModelModel" "second" "[I", .code yX10_lastSeen cX10_lastSeen 3 (some .int), .code yX10_asides cX10_asides 2 none, .fieldLink RX10 32 "RiverModelModel" "aside" "[J", .fieldLink RX10 28 "RiverModelModel" "m" "[J", .code yX10_begins cX10_begins 4 none, .methodLink RX10 183 yX10_startOf, .instanceMethod yX10_startOf, .selects RX10 yX10_startOf yX10_startOf, .methodLink RX10 208 yX10_isStore, .instanceMethod yX10_isStore, .selects RX10 yX10_isStore yX10_isStore, .fieldLink RX10 71 "RiverModelModel" "startB" "[I", .constantLong RX10 204 (224), .constantLong RX10 206 (227), .constantLong RX10 196 (5), .code yX10_startOf cX10_startOf 4 (some .int), .methodLink RX10 166 yX10_storeAt, .instanceMethod yX10_storeAt, .selects RX10 yX10_storeAt yX10_storeAt, .code yX10_storeAt cX10_storeAt 5 (some .int), .code yX10_isStore cX10_isStore 2 (some .boolean), .code yX10_returns cX10_returns 2 none, .code yX10_goes cX10_goes 4 none, .fieldLink RX10 25 "RiverModelModel" "weather" "[I", .methodLink RX10 225 yX10_passes, .instanceMethod yX10_passes, .selects RX10 yX10_passes yX10_passes, .code yX10_passes cX10_passes 12 none, .methodLink RX10 221 yX10_moves, .instanceMethod yX10_moves, .selects RX10 yX10_moves yX10_moves, .code yX10_moves cX10_moves 8 (some .long), .constantLong RX10 219 (10), .methodLink RX10 215 yX10_most, .instanceMethod yX10_most, .selects RX10 yX10_most yX10_most, .constantLong RX10 107 (100), .methodLink RX10 211 yX10_capacity, .instanceMethod yX10_capacity, .selects RX10 yX10_capacity yX10_capacity, .code yX10_most cX10_most 4 (some .long), .code yX10_capacity cX10_capacity 3 (some .long), .code yX10_reading cX10_reading 2 (some .long), .fieldLink RX10 38 "RiverModelModel" "gaugeKind" "[I", .fieldLink RX10 41 "RiverModelModel" "gaugeAt" "[I", .code yX10_areWell cX10_areWell 4 (some .boolean), .constantLong RX10 101 (1000), .constantLong RX10 103 (10000), .constantLong RX10 99 (1000000), .constantLong RX10 105 (12), .code yX10_knobValue cX10_knobValue 4 (some .int), .fieldLink RX10 53 "RiverModelModel" "knobFrom" "[I", .fieldLink RX10 56 "RiverModelModel" "knobStep" "[I"] ++ wsX100)
set_option maxRecDepth 20000 in
theorem gu_X10_fit_X10_in_85 : GoodIn uX10_fit (va_wsS RX10 85 yX10_in uX10_in) := goodIn_r _ [1, 2, 3, 13] (by decide +kernel) (by decide +kernel)
set_option maxRecDepth 20000 in
theorem gu_X10_fit_X10_fitsTo_286 : GoodIn uX10_fit (wsV RX10 286 RX10 yX10_fitsTo uX10_fitsTo) := goodIn_r _ [6, 7, 8, 3, 14, 15, 16, 17, 3, 18, 19, 20, 9, 21, 5, 22, 23, 24, 25, 26, 27, 28, 29, 30, 31, 32, 33, 34, 35, 36, 37, 38, 39, 40, 41, 42, 43, 44, 45, 1, 2, 46, 47, 48, 49, 50, 51, 52, 10, 11, 12, 53, 54, 55, 56, 57, 58, 59, 60, 61, 62, 63, 64, 65, 66, 67, 68, 69, 70, 71, 72, 73, 74, 75, 76, 13, 77, 78, 79, 80, 81, 82, 83, 84, 85, 86, 87, 88, 89, 90, 91, 92, 93, 94, 95, 96, 97, 98, 99, 100, 101, 102, 103, 104, 105, 106, 107, 108, 109, 110, 111, 112, 113, 114, 115, 116, 117, 118, 119, 120, 121, 122, 123, 124, 125, 126, 127, 128, 129, 130, 131, 132, 133, 134, 135, 136, 137, 138, 139, 140, 141, 142, 143, 144] (by decide +kernel) (by decide +kernel)
set_option maxRecDepth 20000 in
theorem gu_X10_fit_X10_knobValue_268 : GoodIn uX10_fit (wsV RX10 268 RX10 yX10_knobValue uX10_knobValue) := goodIn_r _ [10, 11, 12, 3, 106, 15, 16, 17, 3, 107, 108, 21, 5, 109, 110, 111, 112, 113, 114, 115, 116, 117, 118, 119, 120, 121, 122, 123, 124, 125, 126, 127, 128, 129, 130, 131, 132, 133, 134, 135, 136, 137, 138, 139, 140, 141, 142, 143, 144] (by decide +kernel) (by decide +kernel)
set_option maxHeartbeats 4000000 in
set_option maxRecDepth 100000 in
theorem m_X10_fit (l : Launch) (D : va_G) (t : Nat → Nat) (cI cL cC : ClassId) (gC : Int32) (gE : Int32) (gW : Nat → Int32) (gA : Nat → Int32) (gT : Nat → Int32) (gI : Int32) (gS : Int32) (gM : Int32) (K : Nat → Int32) (F : Nat → Int32) (S : Nat → Int32) (N : Nat → Int32) (gH : Int) (gJ : Int) (ge : Int32) (gk : Int32) (gf : Int32) (gs : Int32) (gg : Int32) (gr : Int32) (RN : Nat → Int32) (a0 : Nat) (a1 : Int32) (a2 : Int32) (uq : ∀ b c : Nat, t b = t c → t b ≠ 0 → b = c) (hC0 : 0 ≤ gC.toInt) (hC4 : gC.toInt ≤ 400) (hI0 : 0 ≤ gI.toInt) (hI4 : gI.toInt ≤ 40) (hH0 : 0 ≤ gH) (hH9 : gH ≤ 96) (hm0 : 0 ≤ gM.toInt) (hm3 : gM.toInt ≤ 3) (hO0 : okM K F S N 0 gI.toInt) (hW : swM gS K F S N gI.toInt) (k_a0 : t a0 = 40) : tMx (Z := (Nat → Int32) × (Nat → Int32) × (Nat → Int32) × (Nat → Int32) × (Int) × (Int)) l yX10_fit uX10_fit 7 179 D (mF cI cL cC gC gE gW gA gT gI gS gM K F S N gH gJ ge gk gf gs gg gr RN) (fun z => (mF cI cL cC gC gE gW gA gT gI gS gM z.1 z.2.1 z.2.2.1 z.2.2.2.1 z.2.2.2.2.1 z.2.2.2.2.2 ge gk gf gs gg gr RN)) t cI cL cC [.ref a0, .int a1, .int a2] wFi (xI (fun r (z : (Nat → Int32) × (Nat → Int32) × (Nat → Int32) × (Nat → Int32) × (Int) × (Int)) => 0 ≤ z.2.2.2.2.1 ∧ z.2.2.2.2.1 ≤ 96 ∧ okM z.1 z.2.1 z.2.2.1 z.2.2.2.1 0 gI.toInt ∧ swM gS z.1 z.2.1 z.2.2.1 z.2.2.2.1 gI.toInt)) := by
  refine tMx.ofW (cc := cX10_fit) (maxL := 3) (ret := (some .int)) (by decide) rfl (Nat.le_of_ble_eq_true rfl) ?_
  intro p e s m below meth c hx hb hr hml hown hts hlk H locs hG hK hE hS ls hl
  have hl : lv_has ls 3 [(0, .ref a0), (1, .int a1), (2, .int a2)] := hl
  have in10 : ∀ w ∈ wsX100, w ∈ uX10_fit := fun w h => List.mem_cons_of_mem _ (List.mem_append_right _ h)
  refine lv_iload_n hx hb dX10_fit_0 rfl (lv_at hl 1 rfl) ?_
  refine lv_if_lt (tgt := 14) hx hb dX10_fit_1 (by decide) (fun c_1 => ?_) (fun c_1 => ?_)
  · skip
    have c_1 : a1.toInt < 0 := q_lt c_1
    refine lv_iconst (v := (-1)) hx hb dX10_fit_14 (by decide) ?_
    have zi_m1 : ((-1) : Int32).toInt = (-1) := by decide
    exact tx_iret (z := (K, F, S, N, gH, gJ)) hx hb hr hlk hG hS ⟨(by show 0 ≤ gH; omega), (by show gH ≤ 96; omega), (show okM K F S N 0 gI.toInt from hO0), (show swM gS K F S N gI.toInt from hW)⟩ dX10_fit_15
  · skip
    have c_1 : 0 ≤ a1.toInt := q_nlt c_1
    refine lv_iload_n hx hb dX10_fit_4 rfl (lv_at hl 2 rfl) ?_
    refine lv_i2l (v := a2.toInt64) hx hb dX10_fit_5 rfl ?_
    refine lv_lconst (v := 0) hx hb dX10_fit_6 (by decide) ?_
    refine lv_pc (pc2 := 7) rfl ?_
    refine lv_lconst (v := 1) hx hb dX10_fit_7 (by decide) ?_
    have zl_0 : (0 : Int64).toInt = 0 := by decide
    have zl_1 : (1 : Int64).toInt = 1 := by decide
    refine ty_calli (W.runS (As := [.long a2.toInt64, .long 0, .long 1]) (rest := []) ⟨hx, hb, hml, hown, hts⟩ (m_X10_in l D t cI cL cC gC gE gW gA gT gI gS gM K F S N gH gJ ge gk gf gs gg gr RN a2.toInt64 0 1 a2.toInt 0 1 uq (q_i2l _) (by decide) (by decide) ) (va_cwS 3 hts gu_X10_fit_X10_in_85 rfl rfl rfl (by decide +kernel) ⟨Nat.le_of_ble_eq_true rfl, Nat.le_of_ble_eq_true rfl⟩) (tP_S hG hE) rfl rfl hl.1 rfl (lv_room (Nat.le_of_ble_eq_true rfl)) dX10_fit_8 ⟨Nat.le_of_ble_eq_true rfl, Nat.le_of_ble_eq_true rfl⟩) hS (fun k h => by simp [wr0] at h) (fun r_2 H locs hp_3 hG hS o_4 => ?_)
    have hp_3 : (r_2 = 1 ∧ 0 ≤ a2.toInt ∧ a2.toInt ≤ 1) ∨ (r_2 = 0 ∧ (a2.toInt < 0 ∨ 1 < a2.toInt)) := hp_3
    rcases hp_3 with ⟨rfl, p_6, p_7⟩ | ⟨rfl, p_8⟩
    · skip
      refine lv_if_ne (tgt := 16) hx hb dX10_fit_11 (by decide) (fun _ => ?_) (fun q => absurd q (by decide))
      refine lv_aload_n hx hb dX10_fit_16 rfl (lv_at hl 0 rfl) ?_
      obtain ⟨r_9, v_11, r_12, r_14, r_16, r_18, r_20, r_22, r_24, r_26, r_28, r_30, r_32, r_34, r_36, r_38, r_40, r_42, r_44, r_46, r_48, r_50, r_52, v_54, r_55, at_57, h_10, h_13, h_15, h_17, h_19, h_21, h_23, h_25, h_27, h_29, h_31, h_33, h_35, h_37, h_39, h_41, h_43, h_45, h_47, h_49, h_51, h_53, h_56⟩ := mF_o40 hG k_a0
      refine va_get (D := D) (ci := 9) (v := .int v_11) (C := RX10) (T := TX10) (N := 36) hx hb hts in10 hown hK (va_one at_57) 0 rfl rfl 2 (by decide) (hts (.fieldLink RX10 173 "RiverModelModel" "isBuilt" "Z") (List.mem_of_getElem? (i := 4) rfl)) (fun _ h9 => h9) rfl dX10_fit_17 ?_
      refine lv_if_ne (tgt := 26) hx hb dX10_fit_20 (by decide) (fun c_58 => ?_) (fun c_58 => ?_)
      · skip
        have c_58 : v_11.toInt ≠ 0 := q_ne c_58
        refine lv_aload_n hx hb dX10_fit_26 rfl (lv_at hl 0 rfl) ?_
        refine va_get (D := D) (ci := 9) (v := .ref r_42) (C := RX10) (T := TX10) (N := 36) hx hb hts in10 hown hK (va_one at_57) 0 rfl rfl 22 (by decide) (hts (.fieldLink RX10 59 "RiverModelModel" "knobMany" "[I") (List.mem_of_getElem? (i := 5) rfl)) (fun _ h9 => h9) rfl dX10_fit_27 ?_
        refine lv_pc (pc2 := 30) rfl ?_
        refine lv_iload_n hx hb dX10_fit_30 rfl (lv_at hl 2 rfl) ?_
        obtain ⟨f_59, at_60, h_61⟩ := mF_o57 hG h_43
        have b_62 : vp_in a2 2 := (q_in (by omega) (by omega))
        refine va_iald hx hb hK (va_one at_60) 0 0 rfl rfl b_62 dX10_fit_31 ?_
        refine lv_topi (fun x_63 e_64 => ?_)
        have i_x_63 := by have h := h_61 _ (q_inlt b_62); rw [← e_64] at h; exact h
        refine lv_if_eq (tgt := 44) hx hb dX10_fit_32 (by decide) (fun c_65 => ?_) (fun c_65 => ?_)
        · skip
          have c_65 : x_63.toInt = 0 := q_eq c_65
          refine lv_bipush (v := (-4)) hx hb dX10_fit_44 (by decide) ?_
          refine lv_goto (tgt := 58) hx hb dX10_fit_46 (by decide) ?_
          have zi_m4 : ((-4) : Int32).toInt = (-4) := by decide
          exact tx_iret (z := (K, F, S, N, gH, gJ)) hx hb hr hlk hG hS ⟨(by show 0 ≤ gH; omega), (by show gH ≤ 96; omega), (show okM K F S N 0 gI.toInt from hO0), (show swM gS K F S N gI.toInt from hW)⟩ dX10_fit_58
        · skip
          have c_65 : x_63.toInt ≠ 0 := q_ne c_65
          refine lv_aload_n hx hb dX10_fit_35 rfl (lv_at hl 0 rfl) ?_
          refine lv_iload_n hx hb dX10_fit_36 rfl (lv_at hl 1 rfl) ?_
          refine lv_pc (pc2 := 37) rfl ?_
          refine tx_calli (W.runV (As := [.int a1]) (rest := []) ⟨hx, hb, hml, hown, hts⟩ (m_X10_fitsTo l D t cI cL cC gC gE gW gA gT gI gS gM K F S N gH gJ ge gk gf gs gg gr RN a0 a1  uq (by omega) (by omega) (by omega) (by omega) hO0 k_a0) (cwV 1 hts gu_X10_fit_X10_fitsTo_286 rfl rfl rfl (by decide +kernel) ⟨Nat.le_of_ble_eq_true rfl, Nat.le_of_ble_eq_true rfl⟩) (tP_V hG hE at_57 rfl) rfl rfl hl.1 rfl (lv_room (Nat.le_of_ble_eq_true rfl)) dX10_fit_37 ⟨Nat.le_of_ble_eq_true rfl, Nat.le_of_ble_eq_true rfl⟩) hS (fun _ h => h) (fun r_66 zz_69 H locs hp_67 hG hS o_68 => ?_)
          obtain ⟨K_70, F_71, S_72, N_73, gH_74, gJ_75⟩ := zz_69
          have at_60 := va_at.keptC at_60 o_68 h_43 rfl
          replace hG : tG D (mF cI cL cC gC gE gW gA gT gI gS gM K_70 F_71 S_72 N_73 gH_74 gJ_75 ge gk gf gs gg gr RN) t H := hG
          have hp_67 : gH_74 = gH ∧ kpO K K_70 40 40 ∧ kpO F F_71 40 40 ∧ kpO S S_72 40 40 ∧ kpO N N_73 120 120 ∧ (0 ≤ a1.toInt → a1.toInt < r_66.toInt → okM K_70 F_71 S_72 N_73 40 gI.toInt) := hp_67
          obtain ⟨p_76, p_77, p_78, p_79, p_80, p_81⟩ := hp_67
          have ok_82 := okM.kpg (a := 40) (a3 := 120) (b := 0) (n := gI.toInt) (by decide) (by decide) (by omega) p_77 p_78 p_79 p_80 hO0
          have ok_83 : swM gS K_70 F_71 S_72 N_73 gI.toInt := Or.imp id (fun h => okM.kpg (a := 40) (a3 := 120) (b := 80) (n := gI.toInt) (by decide) (by decide) (by omega) p_77 p_78 p_79 p_80 h) hW
          refine lv_iload_n hx hb dX10_fit_40 rfl (lv_at hl 1 rfl) ?_
          refine lv_icmp_gt (tgt := 49) hx hb dX10_fit_41 (by decide) (fun c_84 => ?_) (fun c_84 => ?_)
          · skip
            have c_84 : a1.toInt < r_66.toInt := q_lt c_84
            refine lv_aload_n hx hb dX10_fit_49 rfl (lv_at hl 0 rfl) ?_
            refine lv_iload_n hx hb dX10_fit_50 rfl (lv_at hl 2 rfl) ?_
            refine lv_aload_n hx hb dX10_fit_51 rfl (lv_at hl 0 rfl) ?_
            obtain ⟨r_85, v_87, r_88, r_90, r_92, r_94, r_96, r_98, r_100, r_102, r_104, r_106, r_108, r_110, r_112, r_114, r_116, r_118, r_120, r_122, r_124, r_126, r_128, v_130, r_131, at_133, h_86, h_89, h_91, h_93, h_95, h_97, h_99, h_101, h_103, h_105, h_107, h_109, h_111, h_113, h_115, h_117, h_119, h_121, h_123, h_125, h_127, h_129, h_132⟩ := mF_o40 hG k_a0
            refine va_get (D := D) (ci := 9) (v := .int v_130) (C := RX10) (T := TX10) (N := 36) hx hb hts in10 hown hK (va_one at_133) 0 rfl rfl 34 (by decide) (hts (.fieldLink RX10 283 "RiverModelModel" "point" "I") (List.mem_of_getElem? (i := 9) rfl)) (fun _ h9 => h9) rfl dX10_fit_52 ?_
            refine ty_calli (W.runV (As := [.int a2, .int v_130]) (rest := []) ⟨hx, hb, hml, hown, hts⟩ (m_X10_knobValue l D t cI cL cC gC gE gW gA gT gI gS gM K_70 F_71 S_72 N_73 gH_74 gJ_75 ge gk gf gs gg gr RN a0 a2 v_130  uq (by omega) (by omega) k_a0) (cwV 2 hts gu_X10_fit_X10_knobValue_268 rfl rfl rfl (by decide +kernel) ⟨Nat.le_of_ble_eq_true rfl, Nat.le_of_ble_eq_true rfl⟩) (tP_V hG hE at_133 rfl) rfl rfl hl.1 rfl (lv_room (Nat.le_of_ble_eq_true rfl)) dX10_fit_55 ⟨Nat.le_of_ble_eq_true rfl, Nat.le_of_ble_eq_true rfl⟩) hS (fun k h => by simp [wr0] at h) (fun r_134 H locs hp_135 hG hS o_136 => ?_)
            have at_60 := va_at.keptC at_60 o_136 h_43 rfl
            have at_133 := va_at.keptC at_133 o_136 k_a0 rfl
            refine lv_pc (pc2 := 58) rfl ?_
            exact tx_iret (z := (K_70, F_71, S_72, N_73, gH_74, gJ_75)) hx hb hr hlk hG hS ⟨(by show 0 ≤ gH_74; omega), (by show gH_74 ≤ 96; omega), (show okM K_70 F_71 S_72 N_73 0 gI.toInt from ok_82), (show swM gS K_70 F_71 S_72 N_73 gI.toInt from ok_83)⟩ dX10_fit_58
          · skip
            have c_84 : r_66.toInt ≤ a1.toInt := q_nlt c_84
            refine lv_bipush (v := (-4)) hx hb dX10_fit_44 (by decide) ?_
            refine lv_goto (tgt := 58) hx hb dX10_fit_46 (by decide) ?_
            have zi_m4 : ((-4) : Int32).toInt = (-4) := by decide
            exact tx_iret (z := (K_70, F_71, S_72, N_73, gH_74, gJ_75)) hx hb hr hlk hG hS ⟨(by show 0 ≤ gH_74; omega), (by show gH_74 ≤ 96; omega), (show okM K_70 F_71 S_72 N_73 0 gI.toInt from ok_82), (show swM gS K_70 F_71 S_72 N_73 gI.toInt from ok_83)⟩ dX10_fit_58
      · skip
        have c_58 : v_11.toInt = 0 := q_eq c_58
        refine lv_bipush (v := (-2)) hx hb dX10_fit_23 (by decide) ?_
        have zi_m2 : ((-2) : Int32).toInt = (-2) := by decide
        exact tx_iret (z := (K, F, S, N, gH, gJ)) hx hb hr hlk hG hS ⟨(by show 0 ≤ gH; omega), (by show gH ≤ 96; omega), (show okM K F S N 0 gI.toInt from hO0), (show swM gS K F S N gI.toInt from hW)⟩ dX10_fit_25
    · skip
      refine lv_if_ne (tgt := 16) hx hb dX10_fit_11 (by decide) (fun q => absurd rfl q) (fun _ => ?_)
      refine lv_iconst (v := (-1)) hx hb dX10_fit_14 (by decide) ?_
      refine lv_pc (pc2 := 15) rfl ?_
      have zi_m1 : ((-1) : Int32).toInt = (-1) := by decide
      exact tx_iret (z := (K, F, S, N, gH, gJ)) hx hb hr hlk hG hS ⟨(by show 0 ≤ gH; omega), (by show gH ≤ 96; omega), (show okM K F S N 0 gI.toInt from hO0), (show swM gS K F S N gI.toInt from hW)⟩ dX10_fit_15
