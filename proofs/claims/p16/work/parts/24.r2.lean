theorem dX10_readsItem_0 : decode cX10_readsItem 0 = .ok (.aload_n 0, 1) := by decide +kernel
theorem dX10_readsItem_1 : decode cX10_readsItem 1 = .ok (.iload_n 1, 1) := by decide +kernel
theorem dX10_readsItem_2 : decode cX10_readsItem 2 = .ok (.iconst 1, 1) := by decide +kernel
theorem dX10_readsItem_3 : decode cX10_readsItem 3 = .ok (.iadd, 1) := by decide +kernel
theorem dX10_readsItem_4 : decode cX10_readsItem 4 = .ok (.putfield 109, 3) := by decide +kernel
theorem dX10_readsItem_7 : decode cX10_readsItem 7 = .ok (.aload_n 0, 1) := by decide +kernel
theorem dX10_readsItem_8 : decode cX10_readsItem 8 = .ok (.aload_n 0, 1) := by decide +kernel
theorem dX10_readsItem_9 : decode cX10_readsItem 9 = .ok (.iload_n 1, 1) := by decide +kernel
theorem dX10_readsItem_10 : decode cX10_readsItem 10 = .ok (.invokevirtual 112, 3) := by decide +kernel
theorem dX10_readsItem_13 : decode cX10_readsItem 13 = .ok (.putfield 125, 3) := by decide +kernel
theorem dX10_readsItem_16 : decode cX10_readsItem 16 = .ok (.aload_n 0, 1) := by decide +kernel
theorem dX10_readsItem_17 : decode cX10_readsItem 17 = .ok (.getfield 125, 3) := by decide +kernel
theorem dX10_readsItem_20 : decode cX10_readsItem 20 = .ok (.invokestatic 128, 3) := by decide +kernel
theorem dX10_readsItem_23 : decode cX10_readsItem 23 = .ok (.istore 4, 2) := by decide +kernel
theorem dX10_readsItem_25 : decode cX10_readsItem 25 = .ok (.iload 4, 2) := by decide +kernel
theorem dX10_readsItem_27 : decode cX10_readsItem 27 = .ok (.ifCond .lt 17, 3) := by decide +kernel
theorem dX10_readsItem_30 : decode cX10_readsItem 30 = .ok (.aload_n 0, 1) := by decide +kernel
theorem dX10_readsItem_31 : decode cX10_readsItem 31 = .ok (.aload_n 0, 1) := by decide +kernel
theorem dX10_readsItem_32 : decode cX10_readsItem 32 = .ok (.getfield 109, 3) := by decide +kernel
theorem dX10_readsItem_35 : decode cX10_readsItem 35 = .ok (.invokevirtual 112, 3) := by decide +kernel
theorem dX10_readsItem_38 : decode cX10_readsItem 38 = .ok (.invokestatic 131, 3) := by decide +kernel
theorem dX10_readsItem_41 : decode cX10_readsItem 41 = .ok (.ifCond .ne 5, 3) := by decide +kernel
theorem dX10_readsItem_44 : decode cX10_readsItem 44 = .ok (.iconst 0, 1) := by decide +kernel
theorem dX10_readsItem_45 : decode cX10_readsItem 45 = .ok (.ireturn, 1) := by decide +kernel
theorem dX10_readsItem_46 : decode cX10_readsItem 46 = .ok (.aload_n 0, 1) := by decide +kernel
theorem dX10_readsItem_47 : decode cX10_readsItem 47 = .ok (.aload_n 0, 1) := by decide +kernel
theorem dX10_readsItem_48 : decode cX10_readsItem 48 = .ok (.aload_n 0, 1) := by decide +kernel
theorem dX10_readsItem_49 : decode cX10_readsItem 49 = .ok (.getfield 109, 3) := by decide +kernel
theorem dX10_readsItem_52 : decode cX10_readsItem 52 = .ok (.invokevirtual 112, 3) := by decide +kernel
theorem dX10_readsItem_55 : decode cX10_readsItem 55 = .ok (.bipush 97, 2) := by decide +kernel
theorem dX10_readsItem_57 : decode cX10_readsItem 57 = .ok (.isub, 1) := by decide +kernel
theorem dX10_readsItem_58 : decode cX10_readsItem 58 = .ok (.putfield 135, 3) := by decide +kernel
theorem dX10_readsItem_61 : decode cX10_readsItem 61 = .ok (.aload_n 0, 1) := by decide +kernel
theorem dX10_readsItem_62 : decode cX10_readsItem 62 = .ok (.bipush (-4), 2) := by decide +kernel
theorem dX10_readsItem_64 : decode cX10_readsItem 64 = .ok (.putfield 138, 3) := by decide +kernel
theorem dX10_readsItem_67 : decode cX10_readsItem 67 = .ok (.aload_n 0, 1) := by decide +kernel
theorem dX10_readsItem_68 : decode cX10_readsItem 68 = .ok (.dup, 1) := by decide +kernel
theorem dX10_readsItem_69 : decode cX10_readsItem 69 = .ok (.getfield 109, 3) := by decide +kernel
theorem dX10_readsItem_72 : decode cX10_readsItem 72 = .ok (.iconst 1, 1) := by decide +kernel
theorem dX10_readsItem_73 : decode cX10_readsItem 73 = .ok (.iadd, 1) := by decide +kernel
theorem dX10_readsItem_74 : decode cX10_readsItem 74 = .ok (.putfield 109, 3) := by decide +kernel
theorem dX10_readsItem_77 : decode cX10_readsItem 77 = .ok (.iload 4, 2) := by decide +kernel
theorem dX10_readsItem_79 : decode cX10_readsItem 79 = .ok (.bipush 19, 2) := by decide +kernel
theorem dX10_readsItem_81 : decode cX10_readsItem 81 = .ok (.if_icmp .le 44, 3) := by decide +kernel
theorem dX10_readsItem_84 : decode cX10_readsItem 84 = .ok (.aload_n 0, 1) := by decide +kernel
theorem dX10_readsItem_85 : decode cX10_readsItem 85 = .ok (.aload_n 0, 1) := by decide +kernel
theorem dX10_readsItem_86 : decode cX10_readsItem 86 = .ok (.getfield 109, 3) := by decide +kernel
theorem dX10_readsItem_89 : decode cX10_readsItem 89 = .ok (.invokevirtual 112, 3) := by decide +kernel
theorem dX10_readsItem_92 : decode cX10_readsItem 92 = .ok (.invokestatic 131, 3) := by decide +kernel
theorem dX10_readsItem_95 : decode cX10_readsItem 95 = .ok (.ifCond .ne 5, 3) := by decide +kernel
theorem dX10_readsItem_98 : decode cX10_readsItem 98 = .ok (.iconst 0, 1) := by decide +kernel
theorem dX10_readsItem_99 : decode cX10_readsItem 99 = .ok (.ireturn, 1) := by decide +kernel
theorem dX10_readsItem_100 : decode cX10_readsItem 100 = .ok (.aload_n 0, 1) := by decide +kernel
theorem dX10_readsItem_101 : decode cX10_readsItem 101 = .ok (.aload_n 0, 1) := by decide +kernel
theorem dX10_readsItem_102 : decode cX10_readsItem 102 = .ok (.aload_n 0, 1) := by decide +kernel
theorem dX10_readsItem_103 : decode cX10_readsItem 103 = .ok (.getfield 109, 3) := by decide +kernel
theorem dX10_readsItem_106 : decode cX10_readsItem 106 = .ok (.invokevirtual 112, 3) := by decide +kernel
theorem dX10_readsItem_109 : decode cX10_readsItem 109 = .ok (.bipush 97, 2) := by decide +kernel
theorem dX10_readsItem_111 : decode cX10_readsItem 111 = .ok (.isub, 1) := by decide +kernel
theorem dX10_readsItem_112 : decode cX10_readsItem 112 = .ok (.putfield 138, 3) := by decide +kernel
theorem dX10_readsItem_115 : decode cX10_readsItem 115 = .ok (.aload_n 0, 1) := by decide +kernel
theorem dX10_readsItem_116 : decode cX10_readsItem 116 = .ok (.dup, 1) := by decide +kernel
theorem dX10_readsItem_117 : decode cX10_readsItem 117 = .ok (.getfield 109, 3) := by decide +kernel
theorem dX10_readsItem_120 : decode cX10_readsItem 120 = .ok (.iconst 1, 1) := by decide +kernel
theorem dX10_readsItem_121 : decode cX10_readsItem 121 = .ok (.iadd, 1) := by decide +kernel
theorem dX10_readsItem_122 : decode cX10_readsItem 122 = .ok (.putfield 109, 3) := by decide +kernel
theorem dX10_readsItem_125 : decode cX10_readsItem 125 = .ok (.iconst 0, 1) := by decide +kernel
theorem dX10_readsItem_126 : decode cX10_readsItem 126 = .ok (.istore 5, 2) := by decide +kernel
theorem dX10_readsItem_128 : decode cX10_readsItem 128 = .ok (.iload 5, 2) := by decide +kernel
theorem dX10_readsItem_130 : decode cX10_readsItem 130 = .ok (.iconst 3, 1) := by decide +kernel
theorem dX10_readsItem_131 : decode cX10_readsItem 131 = .ok (.if_icmp .ge 18, 3) := by decide +kernel
theorem dX10_readsItem_134 : decode cX10_readsItem 134 = .ok (.aload_n 0, 1) := by decide +kernel
theorem dX10_readsItem_135 : decode cX10_readsItem 135 = .ok (.getfield 74, 3) := by decide +kernel
theorem dX10_readsItem_138 : decode cX10_readsItem 138 = .ok (.iload 5, 2) := by decide +kernel
theorem dX10_readsItem_140 : decode cX10_readsItem 140 = .ok (.bipush (-4), 2) := by decide +kernel
theorem dX10_readsItem_142 : decode cX10_readsItem 142 = .ok (.iastore, 1) := by decide +kernel
theorem dX10_readsItem_143 : decode cX10_readsItem 143 = .ok (.iinc 5 1, 3) := by decide +kernel
theorem dX10_readsItem_146 : decode cX10_readsItem 146 = .ok (.goto (-18), 3) := by decide +kernel
theorem dX10_readsItem_149 : decode cX10_readsItem 149 = .ok (.iconst 0, 1) := by decide +kernel
theorem dX10_readsItem_150 : decode cX10_readsItem 150 = .ok (.istore 5, 2) := by decide +kernel
theorem dX10_readsItem_152 : decode cX10_readsItem 152 = .ok (.iload 5, 2) := by decide +kernel
theorem dX10_readsItem_154 : decode cX10_readsItem 154 = .ok (.iload 4, 2) := by decide +kernel
theorem dX10_readsItem_156 : decode cX10_readsItem 156 = .ok (.bipush 10, 2) := by decide +kernel
theorem dX10_readsItem_158 : decode cX10_readsItem 158 = .ok (.irem, 1) := by decide +kernel
theorem dX10_readsItem_159 : decode cX10_readsItem 159 = .ok (.if_icmp .ge 20, 3) := by decide +kernel
theorem dX10_readsItem_162 : decode cX10_readsItem 162 = .ok (.aload_n 0, 1) := by decide +kernel
theorem dX10_readsItem_163 : decode cX10_readsItem 163 = .ok (.iload 5, 2) := by decide +kernel
theorem dX10_readsItem_165 : decode cX10_readsItem 165 = .ok (.invokevirtual 141, 3) := by decide +kernel
theorem dX10_readsItem_168 : decode cX10_readsItem 168 = .ok (.ifCond .ne 5, 3) := by decide +kernel
theorem dX10_readsItem_171 : decode cX10_readsItem 171 = .ok (.iconst 0, 1) := by decide +kernel
theorem dX10_readsItem_172 : decode cX10_readsItem 172 = .ok (.ireturn, 1) := by decide +kernel
theorem dX10_readsItem_173 : decode cX10_readsItem 173 = .ok (.iinc 5 1, 3) := by decide +kernel
theorem dX10_readsItem_176 : decode cX10_readsItem 176 = .ok (.goto (-24), 3) := by decide +kernel
theorem dX10_readsItem_179 : decode cX10_readsItem 179 = .ok (.iload_n 2, 1) := by decide +kernel
theorem dX10_readsItem_180 : decode cX10_readsItem 180 = .ok (.aload_n 0, 1) := by decide +kernel
theorem dX10_readsItem_181 : decode cX10_readsItem 181 = .ok (.getfield 135, 3) := by decide +kernel
theorem dX10_readsItem_184 : decode cX10_readsItem 184 = .ok (.ishr, 1) := by decide +kernel
theorem dX10_readsItem_185 : decode cX10_readsItem 185 = .ok (.iconst 1, 1) := by decide +kernel
theorem dX10_readsItem_186 : decode cX10_readsItem 186 = .ok (.iand, 1) := by decide +kernel
theorem dX10_readsItem_187 : decode cX10_readsItem 187 = .ok (.aload_n 0, 1) := by decide +kernel
theorem dX10_readsItem_188 : decode cX10_readsItem 188 = .ok (.getfield 125, 3) := by decide +kernel
theorem dX10_readsItem_191 : decode cX10_readsItem 191 = .ok (.bipush 115, 2) := by decide +kernel
theorem dX10_readsItem_193 : decode cX10_readsItem 193 = .ok (.if_icmp .ne 7, 3) := by decide +kernel
theorem dX10_readsItem_196 : decode cX10_readsItem 196 = .ok (.iconst 0, 1) := by decide +kernel
theorem dX10_readsItem_197 : decode cX10_readsItem 197 = .ok (.goto 4, 3) := by decide +kernel
theorem dX10_readsItem_200 : decode cX10_readsItem 200 = .ok (.iconst 1, 1) := by decide +kernel
theorem dX10_readsItem_201 : decode cX10_readsItem 201 = .ok (.if_icmp .ne 7, 3) := by decide +kernel
theorem dX10_readsItem_204 : decode cX10_readsItem 204 = .ok (.iconst 1, 1) := by decide +kernel
theorem dX10_readsItem_205 : decode cX10_readsItem 205 = .ok (.goto 4, 3) := by decide +kernel
theorem dX10_readsItem_208 : decode cX10_readsItem 208 = .ok (.iconst 0, 1) := by decide +kernel
theorem dX10_readsItem_209 : decode cX10_readsItem 209 = .ok (.istore 5, 2) := by decide +kernel
theorem dX10_readsItem_211 : decode cX10_readsItem 211 = .ok (.aload_n 0, 1) := by decide +kernel
theorem dX10_readsItem_212 : decode cX10_readsItem 212 = .ok (.getfield 138, 3) := by decide +kernel
theorem dX10_readsItem_215 : decode cX10_readsItem 215 = .ok (.ifCond .lt 26, 3) := by decide +kernel
theorem dX10_readsItem_218 : decode cX10_readsItem 218 = .ok (.aload_n 0, 1) := by decide +kernel
theorem dX10_readsItem_219 : decode cX10_readsItem 219 = .ok (.getfield 138, 3) := by decide +kernel
theorem dX10_readsItem_222 : decode cX10_readsItem 222 = .ok (.aload_n 0, 1) := by decide +kernel
theorem dX10_readsItem_223 : decode cX10_readsItem 223 = .ok (.getfield 135, 3) := by decide +kernel
theorem dX10_readsItem_226 : decode cX10_readsItem 226 = .ok (.if_icmp .eq 19, 3) := by decide +kernel
theorem dX10_readsItem_229 : decode cX10_readsItem 229 = .ok (.iload_n 2, 1) := by decide +kernel
theorem dX10_readsItem_230 : decode cX10_readsItem 230 = .ok (.aload_n 0, 1) := by decide +kernel
theorem dX10_readsItem_231 : decode cX10_readsItem 231 = .ok (.getfield 138, 3) := by decide +kernel
theorem dX10_readsItem_234 : decode cX10_readsItem 234 = .ok (.ishr, 1) := by decide +kernel
theorem dX10_readsItem_235 : decode cX10_readsItem 235 = .ok (.iconst 1, 1) := by decide +kernel
theorem dX10_readsItem_236 : decode cX10_readsItem 236 = .ok (.iand, 1) := by decide +kernel
theorem dX10_readsItem_237 : decode cX10_readsItem 237 = .ok (.iconst 1, 1) := by decide +kernel
theorem dX10_readsItem_238 : decode cX10_readsItem 238 = .ok (.if_icmp .ne 7, 3) := by decide +kernel
theorem dX10_readsItem_241 : decode cX10_readsItem 241 = .ok (.iconst 1, 1) := by decide +kernel
theorem dX10_readsItem_242 : decode cX10_readsItem 242 = .ok (.goto 4, 3) := by decide +kernel
theorem dX10_readsItem_245 : decode cX10_readsItem 245 = .ok (.iconst 0, 1) := by decide +kernel
theorem dX10_readsItem_246 : decode cX10_readsItem 246 = .ok (.istore 6, 2) := by decide +kernel
theorem dX10_readsItem_248 : decode cX10_readsItem 248 = .ok (.aload_n 0, 1) := by decide +kernel
theorem dX10_readsItem_249 : decode cX10_readsItem 249 = .ok (.aload_n 0, 1) := by decide +kernel
theorem dX10_readsItem_250 : decode cX10_readsItem 250 = .ok (.getfield 109, 3) := by decide +kernel
theorem dX10_readsItem_253 : decode cX10_readsItem 253 = .ok (.invokevirtual 112, 3) := by decide +kernel
theorem dX10_readsItem_256 : decode cX10_readsItem 256 = .ok (.bipush 59, 2) := by decide +kernel
theorem dX10_readsItem_258 : decode cX10_readsItem 258 = .ok (.if_icmp .ne 59, 3) := by decide +kernel
theorem dX10_readsItem_261 : decode cX10_readsItem 261 = .ok (.iload 5, 2) := by decide +kernel
theorem dX10_readsItem_263 : decode cX10_readsItem 263 = .ok (.ifCond .eq 54, 3) := by decide +kernel
theorem dX10_readsItem_266 : decode cX10_readsItem 266 = .ok (.iload 6, 2) := by decide +kernel
theorem dX10_readsItem_268 : decode cX10_readsItem 268 = .ok (.ifCond .eq 49, 3) := by decide +kernel
theorem dX10_readsItem_271 : decode cX10_readsItem 271 = .ok (.aload_n 0, 1) := by decide +kernel
theorem dX10_readsItem_272 : decode cX10_readsItem 272 = .ok (.getfield 125, 3) := by decide +kernel
theorem dX10_readsItem_275 : decode cX10_readsItem 275 = .ok (.bipush 103, 2) := by decide +kernel
theorem dX10_readsItem_277 : decode cX10_readsItem 277 = .ok (.if_icmp .ne 8, 3) := by decide +kernel
theorem dX10_readsItem_280 : decode cX10_readsItem 280 = .ok (.iload_n 3, 1) := by decide +kernel
theorem dX10_readsItem_281 : decode cX10_readsItem 281 = .ok (.iconst 4, 1) := by decide +kernel
theorem dX10_readsItem_282 : decode cX10_readsItem 282 = .ok (.if_icmp .ge 35, 3) := by decide +kernel
theorem dX10_readsItem_285 : decode cX10_readsItem 285 = .ok (.aload_n 0, 1) := by decide +kernel
theorem dX10_readsItem_286 : decode cX10_readsItem 286 = .ok (.getfield 125, 3) := by decide +kernel
theorem dX10_readsItem_289 : decode cX10_readsItem 289 = .ok (.aload_n 0, 1) := by decide +kernel
theorem dX10_readsItem_290 : decode cX10_readsItem 290 = .ok (.getfield 74, 3) := by decide +kernel
theorem dX10_readsItem_293 : decode cX10_readsItem 293 = .ok (.iconst 0, 1) := by decide +kernel
theorem dX10_readsItem_294 : decode cX10_readsItem 294 = .ok (.iaload, 1) := by decide +kernel
theorem dX10_readsItem_295 : decode cX10_readsItem 295 = .ok (.aload_n 0, 1) := by decide +kernel
theorem dX10_readsItem_296 : decode cX10_readsItem 296 = .ok (.getfield 74, 3) := by decide +kernel
theorem dX10_readsItem_299 : decode cX10_readsItem 299 = .ok (.iconst 1, 1) := by decide +kernel
theorem dX10_readsItem_300 : decode cX10_readsItem 300 = .ok (.iaload, 1) := by decide +kernel
theorem dX10_readsItem_301 : decode cX10_readsItem 301 = .ok (.aload_n 0, 1) := by decide +kernel
theorem dX10_readsItem_302 : decode cX10_readsItem 302 = .ok (.getfield 74, 3) := by decide +kernel
theorem dX10_readsItem_305 : decode cX10_readsItem 305 = .ok (.iconst 2, 1) := by decide +kernel
theorem dX10_readsItem_306 : decode cX10_readsItem 306 = .ok (.iaload, 1) := by decide +kernel
theorem dX10_readsItem_307 : decode cX10_readsItem 307 = .ok (.invokestatic 144, 3) := by decide +kernel
theorem dX10_readsItem_310 : decode cX10_readsItem 310 = .ok (.ifCond .eq 7, 3) := by decide +kernel
theorem dX10_readsItem_313 : decode cX10_readsItem 313 = .ok (.iconst 1, 1) := by decide +kernel
theorem dX10_readsItem_314 : decode cX10_readsItem 314 = .ok (.goto 4, 3) := by decide +kernel
theorem dX10_readsItem_317 : decode cX10_readsItem 317 = .ok (.iconst 0, 1) := by decide +kernel
theorem dX10_readsItem_318 : decode cX10_readsItem 318 = .ok (.istore 7, 2) := by decide +kernel
theorem dX10_readsItem_320 : decode cX10_readsItem 320 = .ok (.aload_n 0, 1) := by decide +kernel
theorem dX10_readsItem_321 : decode cX10_readsItem 321 = .ok (.dup, 1) := by decide +kernel
theorem dX10_readsItem_322 : decode cX10_readsItem 322 = .ok (.getfield 109, 3) := by decide +kernel
theorem dX10_readsItem_325 : decode cX10_readsItem 325 = .ok (.iconst 1, 1) := by decide +kernel
theorem dX10_readsItem_326 : decode cX10_readsItem 326 = .ok (.iadd, 1) := by decide +kernel
theorem dX10_readsItem_327 : decode cX10_readsItem 327 = .ok (.putfield 109, 3) := by decide +kernel
theorem dX10_readsItem_330 : decode cX10_readsItem 330 = .ok (.iload 7, 2) := by decide +kernel
theorem dX10_readsItem_332 : decode cX10_readsItem 332 = .ok (.ireturn, 1) := by decide +kernel
def uX10_readsItem : List Cond := .code yX10_readsItem cX10_readsItem 8 (some .boolean) :: ([.fieldLink RX10 109 "RiverModelModel" "end" "I", .methodLink RX10 112 yX10_byteAt, .instanceMethod yX10_byteAt, .selects RX10 yX10_byteAt yX10_byteAt, .initialized RX10, .fieldLink RX10 125 "RiverModelModel" "readKind" "I", .methodLink RX10 128 yX10_shape, .static yX10_shape, .methodLink RX10 131 yX10_isName, .static yX10_isName, .fieldLink RX10 135 "RiverModelModel" "readFirst" "I", .fieldLink RX10 138 "RiverModelModel" "readSecond" "I", .fieldLink RX10 74 "RiverModelModel" "readNumber" "[I", .methodLink RX10 144 yX10_areWell, .static yX10_areWell, .methodLink RX10 141 yX10_readsNumber, .instanceMethod yX10_readsNumber, .selects RX10 yX10_readsNumber yX10_readsNumber, .code yX10_byteAt cX10_byteAt 2 (some .int), .fieldLink RX10 89 "RiverModelModel" "length" "I", .fieldLink RX10 7 "RiverModelModel" "text" "[I", .code yX10_shape cX10_shape 1 (some .int), .code yX10_isName cX10_isName 1 (some .boolean), .constantLong RX10 95 (97), .constantLong RX10 97 (112), .methodLink RX10 85 yX10_in, .static yX10_in, .code yX10_in cX10_in 6 (some .boolean), .code yX10_areWell cX10_areWell 4 (some .boolean), .constantLong RX10 101 (1000), .constantLong RX10 103 (10000), .constantLong RX10 99 (1000000), .constantLong RX10 107 (100), .constantLong RX10 105 (12), .code yX10_readsNumber cX10_readsNumber 3 (some .boolean), .fieldLink RX10 116 "RiverModelModel" "figures" "I", .constantLong RX10 123 (7), .constantLong RX10 119 (48), .constantLong RX10 121 (57)] ++ wsX100)
set_option maxRecDepth 20000 in
theorem gu_X10_readsItem_X10_byteAt_112 : GoodIn uX10_readsItem (wsV RX10 112 RX10 yX10_byteAt uX10_byteAt) := goodIn_r _ [2, 3, 4, 5, 19, 20, 21, 40, 41, 42, 43, 44, 45, 46, 47, 48, 49, 50, 51, 52, 53, 54, 55, 56, 57, 58, 59, 60, 61, 62, 63, 64, 65, 66, 67, 68, 69, 70, 71, 72, 73, 74, 75] rfl (by decide +kernel)
set_option maxRecDepth 20000 in
theorem gu_X10_readsItem_X10_shape_128 : GoodIn uX10_readsItem (va_wsS RX10 128 yX10_shape uX10_shape) := goodIn_r _ [7, 8, 5, 22] rfl (by decide +kernel)
set_option maxRecDepth 20000 in
theorem gu_X10_readsItem_X10_isName_131 : GoodIn uX10_readsItem (va_wsS RX10 131 yX10_isName uX10_isName) := goodIn_r _ [9, 10, 5, 23, 24, 25, 26, 27, 5, 28] rfl (by decide +kernel)
set_option maxRecDepth 20000 in
theorem gu_X10_readsItem_X10_areWell_144 : GoodIn uX10_readsItem (va_wsS RX10 144 yX10_areWell uX10_areWell) := goodIn_r _ [14, 15, 5, 29, 30, 26, 27, 5, 31, 32, 33, 34, 28] rfl (by decide +kernel)
set_option maxRecDepth 20000 in
theorem gu_X10_readsItem_X10_readsNumber_141 : GoodIn uX10_readsItem (wsV RX10 141 RX10 yX10_readsNumber uX10_readsNumber) := goodIn_r _ [16, 17, 18, 5, 35, 1, 2, 3, 4, 5, 36, 13, 37, 26, 27, 38, 39, 19, 20, 21, 28, 40, 41, 42, 43, 44, 45, 46, 47, 48, 49, 50, 51, 52, 53, 54, 55, 56, 57, 58, 59, 60, 61, 62, 63, 64, 65, 66, 67, 68, 69, 70, 71, 72, 73, 74, 75] rfl (by decide +kernel)
set_option maxHeartbeats 4000000 in
set_option maxRecDepth 100000 in
theorem m_X10_readsItem (l : Launch) (D : va_G) (t : Nat → Nat) (cI cL cC : ClassId) (gC : Int32) (gE : Int32) (gW : Nat → Int32) (gA : Nat → Int32) (gT : Nat → Int32) (gI : Int32) (gS : Int32) (gM : Int32) (K : Nat → Int32) (F : Nat → Int32) (S : Nat → Int32) (N : Nat → Int32) (gH : Int) (gJ : Int) (ge : Int32) (gk : Int32) (gf : Int32) (gs : Int32) (gg : Int32) (gr : Int32) (RN : Nat → Int32) (gb : Int32) (rV : Nat → Int32) (rN : Nat → Int32) (a0 : Nat) (a1 : Int32) (a2 : Int32) (a3 : Int32) (uq : ∀ b c : Nat, t b = t c → t b ≠ 0 → b = c) (hC0 : 0 ≤ gC.toInt) (hC4 : gC.toInt ≤ 400) (h0 : 0 ≤ a1.toInt) (h4 : a1.toInt ≤ 400) (k_a0 : t a0 = 40) : tMx (Z := (Int32) × (Int32) × (Int32) × (Int32) × (Int32) × (Nat → Int32)) l yX10_readsItem uX10_readsItem 2 48 D (mF cI cL cC gC gE gW gA gT gI gS gM K F S N gH gJ ge gk gf gs gg gr RN gb rV rN) (fun z => (mF cI cL cC gC gE gW gA gT gI gS gM K F S N gH gJ z.1 z.2.1 z.2.2.1 z.2.2.2.1 z.2.2.2.2.1 gr z.2.2.2.2.2 gb rV rN)) t cI cL cC [.ref a0, .int a1, .int a2, .int a3] wP (xI (fun r (z : (Int32) × (Int32) × (Int32) × (Int32) × (Int32) × (Nat → Int32)) => (r = 1 ∧ a1.toInt < z.1.toInt ∧ z.1.toInt ≤ a1.toInt + 40 ∧ itOk z.2.1 z.2.2.1 z.2.2.2.1 (z.2.2.2.2.2 0) (z.2.2.2.2.2 1) ∧ nmOk z.2.1 z.2.2.1 a2 ∧ itemAt (byT gT gC) a1.toInt z.2.1 z.2.2.1 z.2.2.2.1 (z.2.2.2.2.2 0) (z.2.2.2.2.2 1) (z.2.2.2.2.2 2) z.1.toInt ∧ okIt a2 a3.toInt z.2.1 z.2.2.1 z.2.2.2.1 (z.2.2.2.2.2 0) (z.2.2.2.2.2 1) (z.2.2.2.2.2 2)) ∨ (r = 0 ∧ noVit (byT gT gC) a1.toInt a2 a3.toInt))) := by
  refine tMx.ofW (cc := cX10_readsItem) (maxL := 8) (ret := (some .boolean)) (by decide) rfl (Nat.le_of_ble_eq_true rfl) ?_
  intro p e s m below meth c hx hb hr hml hown hts hlk H locs hG hK hE hS ls hl
  have hl : lv_has ls 8 [(0, .ref a0), (1, .int a1), (2, .int a2), (3, .int a3)] := hl
  have in10 : ∀ w ∈ wsX100, w ∈ uX10_readsItem := fun w h => List.mem_cons_of_mem _ (List.mem_append_right _ h)
  refine lv_aload_n hx hb dX10_readsItem_0 rfl (lv_at hl 0 rfl) ?_
  refine lv_iload_n hx hb dX10_readsItem_1 rfl (lv_at hl 1 rfl) ?_
  refine lv_iconst (v := 1) hx hb dX10_readsItem_2 (by decide) ?_
  refine lv_iadd hx hb dX10_readsItem_3 ?_
  refine lv_topi (fun x_1 e_2 => ?_)
  have i_x_1 : x_1.toInt = a1.toInt + 1 := by rw [e_2]; exact (q_add (by rw [show (1 : Int32).toInt = 1 by decide]; omega) (by rw [show (1 : Int32).toInt = 1 by decide]; omega)).trans (by rw [show (1 : Int32).toInt = 1 by decide])
  obtain ⟨r_3, r_5, r_7, r_9, r_11, r_13, r_15, r_17, r_19, r_21, r_23, r_25, r_27, r_29, r_31, r_33, r_35, r_37, r_39, r_41, r_43, r_45, v_47, r_48, at_50, h_4, h_6, h_8, h_10, h_12, h_14, h_16, h_18, h_20, h_22, h_24, h_26, h_28, h_30, h_32, h_34, h_36, h_38, h_40, h_42, h_44, h_46, h_49⟩ := mF_o40 hG k_a0
  refine ty_put (D := D) (ci := 9) (v := .int x_1) (ty := .int) (C := RX10) (T := TX10) (N := 36) (F2 := (mF cI cL cC gC gE gW gA gT gI gS gM K F S N gH gJ x_1 gk gf gs gg gr RN gb rV rN)) hx hb hts in10 tyX10 tyX10_ok nmX10 hown hK hG hS at_50 (by rw [k_a0]; rfl) rfl 27 (by decide) (hts (.fieldLink RX10 109 "RiverModelModel" "end" "I") (List.mem_of_getElem? (i := 1) rfl)) (fun _ h9 => h9) rfl (by decide +kernel) rfl rfl (Nat.le_of_ble_eq_true rfl) (by rw [k_a0]; exact ⟨r_3, r_5, r_7, r_9, r_11, r_13, r_15, r_17, r_19, r_21, r_23, r_25, r_27, r_29, r_31, r_33, r_35, r_37, r_39, r_41, r_43, r_45, v_47, r_48, rfl, h_4, h_6, h_8, h_10, h_12, h_14, h_16, h_18, h_20, h_22, h_24, h_26, h_28, h_30, h_32, h_34, h_36, h_38, h_40, h_42, h_44, h_46, h_49⟩) (fun hG b hb h0 => by obtain ⟨e, g1, g2⟩ := hG b h0; exact ⟨e, g1, mF_ge (fun h => hb (uq b a0 (h.trans k_a0.symm) h0)) g2⟩) dX10_readsItem_4 (fun H locs hG hS at_51 o_52 => ?_)
  have at_51 : va_at D vwCl (a0, .inr (9, [.int gC, .ref r_3, .int gb, .int gI, .ref r_5, .ref r_7, .ref r_9, .ref r_11, .int gS, .ref r_13, .ref r_15, .ref r_17, .ref r_19, .int gM, .ref r_21, .ref r_23, .ref r_25, .int gE, .ref r_27, .ref r_29, .ref r_31, .ref r_33, .ref r_35, .ref r_37, .ref r_39, .ref r_41, .ref r_43, .int x_1, .int gk, .int gf, .int gs, .int gg, .ref r_45, .int gr, .int v_47, .ref r_48])) H := at_51
  refine lv_aload_n hx hb dX10_readsItem_7 rfl (lv_at hl 0 rfl) ?_
  refine lv_aload_n hx hb dX10_readsItem_8 rfl (lv_at hl 0 rfl) ?_
  refine lv_pc (pc2 := 9) rfl ?_
  refine lv_iload_n hx hb dX10_readsItem_9 rfl (lv_at hl 1 rfl) ?_
  refine ty_calli (W.runV (As := [.int a1]) (rest := [.ref a0]) ⟨hx, hb, hml, hown, hts⟩ (m_X10_byteAt l D t cI cL cC gC gE gW gA gT gI gS gM K F S N gH gJ x_1 gk gf gs gg gr RN gb rV rN a0 a1 a1.toInt uq (by omega) (by omega) (by omega) (by omega) k_a0) (cwV 1 hts gu_X10_readsItem_X10_byteAt_112 rfl rfl rfl (by decide +kernel) ⟨Nat.le_of_ble_eq_true rfl, Nat.le_of_ble_eq_true rfl⟩) (tP_V hG hE at_51 rfl) rfl rfl hl.1 rfl (lv_room (Nat.le_of_ble_eq_true rfl)) dX10_readsItem_10 ⟨Nat.le_of_ble_eq_true rfl, Nat.le_of_ble_eq_true rfl⟩) hS (fun k h => by simp [wr0] at h) (fun r_53 H locs hp_54 hG hS o_55 => ?_)
  have at_51 := va_at.keptC at_51 o_55 k_a0 rfl
  have hp_54 : r_53.toInt = byT gT gC a1.toInt := hp_54
  have p_57 := hp_54
  refine ty_put (D := D) (ci := 9) (v := .int r_53) (ty := .int) (C := RX10) (T := TX10) (N := 36) (F2 := (mF cI cL cC gC gE gW gA gT gI gS gM K F S N gH gJ x_1 r_53 gf gs gg gr RN gb rV rN)) hx hb hts in10 tyX10 tyX10_ok nmX10 hown hK hG hS at_51 (by rw [k_a0]; rfl) rfl 28 (by decide) (hts (.fieldLink RX10 125 "RiverModelModel" "readKind" "I") (List.mem_of_getElem? (i := 6) rfl)) (fun _ h9 => h9) rfl (by decide +kernel) rfl rfl (Nat.le_of_ble_eq_true rfl) (by rw [k_a0]; exact ⟨r_3, r_5, r_7, r_9, r_11, r_13, r_15, r_17, r_19, r_21, r_23, r_25, r_27, r_29, r_31, r_33, r_35, r_37, r_39, r_41, r_43, r_45, v_47, r_48, rfl, h_4, h_6, h_8, h_10, h_12, h_14, h_16, h_18, h_20, h_22, h_24, h_26, h_28, h_30, h_32, h_34, h_36, h_38, h_40, h_42, h_44, h_46, h_49⟩) (fun hG b hb h0 => by obtain ⟨e, g1, g2⟩ := hG b h0; exact ⟨e, g1, mF_gk (fun h => hb (uq b a0 (h.trans k_a0.symm) h0)) g2⟩) dX10_readsItem_13 (fun H locs hG hS at_58 o_59 => ?_)
  have at_58 : va_at D vwCl (a0, .inr (9, [.int gC, .ref r_3, .int gb, .int gI, .ref r_5, .ref r_7, .ref r_9, .ref r_11, .int gS, .ref r_13, .ref r_15, .ref r_17, .ref r_19, .int gM, .ref r_21, .ref r_23, .ref r_25, .int gE, .ref r_27, .ref r_29, .ref r_31, .ref r_33, .ref r_35, .ref r_37, .ref r_39, .ref r_41, .ref r_43, .int x_1, .int r_53, .int gf, .int gs, .int gg, .ref r_45, .int gr, .int v_47, .ref r_48])) H := at_58
  refine lv_aload_n hx hb dX10_readsItem_16 rfl (lv_at hl 0 rfl) ?_
  refine va_get (D := D) (ci := 9) (v := .int r_53) (C := RX10) (T := TX10) (N := 36) hx hb hts in10 hown hK (va_one at_58) 0 rfl rfl 28 (by decide) (hts (.fieldLink RX10 125 "RiverModelModel" "readKind" "I") (List.mem_of_getElem? (i := 6) rfl)) (fun _ h9 => h9) rfl dX10_readsItem_17 ?_
  refine ty_calli (W.runS (As := [.int r_53]) (rest := []) ⟨hx, hb, hml, hown, hts⟩ (m_X10_shape l D t cI cL cC gC gE gW gA gT gI gS gM K F S N gH gJ x_1 r_53 gf gs gg gr RN gb rV rN r_53 (byT gT gC (a1.toInt)) uq (by omega) ) (va_cwS 1 hts gu_X10_readsItem_X10_shape_128 rfl rfl rfl (by decide +kernel) ⟨Nat.le_of_ble_eq_true rfl, Nat.le_of_ble_eq_true rfl⟩) (tP_S hG hE) rfl rfl hl.1 rfl (lv_room (Nat.le_of_ble_eq_true rfl)) dX10_readsItem_20 ⟨Nat.le_of_ble_eq_true rfl, Nat.le_of_ble_eq_true rfl⟩) hS (fun k h => by simp [wr0] at h) (fun r_60 H locs hp_61 hG hS o_62 => ?_)
  have at_58 := va_at.keptC at_58 o_62 k_a0 rfl
  have hp_61 : (r_60.toInt = -1 ∨ (10 ≤ r_60.toInt ∧ r_60.toInt ≤ 23 ∧ r_60.toInt % 10 ≤ 3)) ∧ (r_53.toInt = 116 → r_60.toInt = 21) ∧ r_60.toInt = shp (byT gT gC (a1.toInt)) := hp_61
  obtain ⟨p_64, p_65, p_66⟩ := hp_61
  refine lv_istore (lv' := [(4, .int r_60), (0, .ref a0), (1, .int a1), (2, .int a2), (3, .int a3)]) hx hb dX10_readsItem_23 hl (by decide) rfl (fun ls hl => ?_)
  refine lv_iload hx hb dX10_readsItem_25 (lv_at hl 0 rfl) ?_
  refine lv_pc (pc2 := 27) rfl ?_
  refine lv_if_lt (tgt := 44) hx hb dX10_readsItem_27 (by decide) (fun c_67 => ?_) (fun c_67 => ?_)
  · skip
    have c_67 : r_60.toInt < 0 := q_lt c_67
    refine lv_iconst (v := 0) hx hb dX10_readsItem_44 (by decide) ?_
    have zi_0 : (0 : Int32).toInt = 0 := by decide
    exact tx_zret (z := (x_1, r_53, gf, gs, gg, RN)) hx hb hr hlk rfl hG hS (Or.inr ⟨rfl, (by show noVit (byT gT gC) a1.toInt a2 a3.toInt; exact noItem.v (noItem.shape (by omega)))⟩) dX10_readsItem_45
  · skip
    have c_67 : 0 ≤ r_60.toInt := q_nlt c_67
    refine lv_aload_n hx hb dX10_readsItem_30 rfl (lv_at hl 1 rfl) ?_
    refine lv_aload_n hx hb dX10_readsItem_31 rfl (lv_at hl 1 rfl) ?_
    refine va_get (D := D) (ci := 9) (v := .int x_1) (C := RX10) (T := TX10) (N := 36) hx hb hts in10 hown hK (va_one at_58) 0 rfl rfl 27 (by decide) (hts (.fieldLink RX10 109 "RiverModelModel" "end" "I") (List.mem_of_getElem? (i := 1) rfl)) (fun _ h9 => h9) rfl dX10_readsItem_32 ?_
    refine ty_calli (W.runV (As := [.int x_1]) (rest := []) ⟨hx, hb, hml, hown, hts⟩ (m_X10_byteAt l D t cI cL cC gC gE gW gA gT gI gS gM K F S N gH gJ x_1 r_53 gf gs gg gr RN gb rV rN a0 x_1 (a1.toInt + 1) uq (by omega) (by omega) (by omega) (by omega) k_a0) (cwV 1 hts gu_X10_readsItem_X10_byteAt_112 rfl rfl rfl (by decide +kernel) ⟨Nat.le_of_ble_eq_true rfl, Nat.le_of_ble_eq_true rfl⟩) (tP_V hG hE at_58 rfl) rfl rfl hl.1 rfl (lv_room (Nat.le_of_ble_eq_true rfl)) dX10_readsItem_35 ⟨Nat.le_of_ble_eq_true rfl, Nat.le_of_ble_eq_true rfl⟩) hS (fun k h => by simp [wr0] at h) (fun r_68 H locs hp_69 hG hS o_70 => ?_)
    have at_58 := va_at.keptC at_58 o_70 k_a0 rfl
    have hp_69 : r_68.toInt = byT gT gC (a1.toInt + 1) := hp_69
    have p_72 := hp_69
    refine ty_calli (W.runS (As := [.int r_68]) (rest := []) ⟨hx, hb, hml, hown, hts⟩ (m_X10_isName l D t cI cL cC gC gE gW gA gT gI gS gM K F S N gH gJ x_1 r_53 gf gs gg gr RN gb rV rN r_68  uq  ) (va_cwS 1 hts gu_X10_readsItem_X10_isName_131 rfl rfl rfl (by decide +kernel) ⟨Nat.le_of_ble_eq_true rfl, Nat.le_of_ble_eq_true rfl⟩) (tP_S hG hE) rfl rfl hl.1 rfl (lv_room (Nat.le_of_ble_eq_true rfl)) dX10_readsItem_38 ⟨Nat.le_of_ble_eq_true rfl, Nat.le_of_ble_eq_true rfl⟩) hS (fun k h => by simp [wr0] at h) (fun r_73 H locs hp_74 hG hS o_75 => ?_)
    have at_58 := va_at.keptC at_58 o_75 k_a0 rfl
    have hp_74 : (r_73 = 1 ∧ 97 ≤ r_68.toInt ∧ r_68.toInt ≤ 112) ∨ (r_73 = 0 ∧ (r_68.toInt < 97 ∨ 112 < r_68.toInt)) := hp_74
    rcases hp_74 with ⟨rfl, p_77, p_78⟩ | ⟨rfl, p_79⟩
    · skip
      refine lv_pc (pc2 := 41) rfl ?_
      refine lv_if_ne (tgt := 46) hx hb dX10_readsItem_41 (by decide) (fun _ => ?_) (fun q => absurd q (by decide))
      refine lv_aload_n hx hb dX10_readsItem_46 rfl (lv_at hl 1 rfl) ?_
      refine lv_aload_n hx hb dX10_readsItem_47 rfl (lv_at hl 1 rfl) ?_
      refine lv_aload_n hx hb dX10_readsItem_48 rfl (lv_at hl 1 rfl) ?_
      refine va_get (D := D) (ci := 9) (v := .int x_1) (C := RX10) (T := TX10) (N := 36) hx hb hts in10 hown hK (va_one at_58) 0 rfl rfl 27 (by decide) (hts (.fieldLink RX10 109 "RiverModelModel" "end" "I") (List.mem_of_getElem? (i := 1) rfl)) (fun _ h9 => h9) rfl dX10_readsItem_49 ?_
      refine ty_calli (W.runV (As := [.int x_1]) (rest := [.ref a0]) ⟨hx, hb, hml, hown, hts⟩ (m_X10_byteAt l D t cI cL cC gC gE gW gA gT gI gS gM K F S N gH gJ x_1 r_53 gf gs gg gr RN gb rV rN a0 x_1 (a1.toInt + 1) uq (by omega) (by omega) (by omega) (by omega) k_a0) (cwV 1 hts gu_X10_readsItem_X10_byteAt_112 rfl rfl rfl (by decide +kernel) ⟨Nat.le_of_ble_eq_true rfl, Nat.le_of_ble_eq_true rfl⟩) (tP_V hG hE at_58 rfl) rfl rfl hl.1 rfl (lv_room (Nat.le_of_ble_eq_true rfl)) dX10_readsItem_52 ⟨Nat.le_of_ble_eq_true rfl, Nat.le_of_ble_eq_true rfl⟩) hS (fun k h => by simp [wr0] at h) (fun r_80 H locs hp_81 hG hS o_82 => ?_)
      have at_58 := va_at.keptC at_58 o_82 k_a0 rfl
      have hp_81 : r_80.toInt = byT gT gC (a1.toInt + 1) := hp_81
      have p_84 := hp_81
      refine lv_bipush (v := 97) hx hb dX10_readsItem_55 (by decide) ?_
      refine lv_isub hx hb dX10_readsItem_57 ?_
      refine lv_topi (fun x_85 e_86 => ?_)
      have i_x_85 : x_85.toInt = r_80.toInt - 97 := by rw [e_86]; exact (q_sub (by rw [show (97 : Int32).toInt = 97 by decide]; omega) (by rw [show (97 : Int32).toInt = 97 by decide]; omega)).trans (by rw [show (97 : Int32).toInt = 97 by decide])
      refine lv_pc (pc2 := 58) rfl ?_
      refine ty_put (D := D) (ci := 9) (v := .int x_85) (ty := .int) (C := RX10) (T := TX10) (N := 36) (F2 := (mF cI cL cC gC gE gW gA gT gI gS gM K F S N gH gJ x_1 r_53 x_85 gs gg gr RN gb rV rN)) hx hb hts in10 tyX10 tyX10_ok nmX10 hown hK hG hS at_58 (by rw [k_a0]; rfl) rfl 29 (by decide) (hts (.fieldLink RX10 135 "RiverModelModel" "readFirst" "I") (List.mem_of_getElem? (i := 11) rfl)) (fun _ h9 => h9) rfl (by decide +kernel) rfl rfl (Nat.le_of_ble_eq_true rfl) (by rw [k_a0]; exact ⟨r_3, r_5, r_7, r_9, r_11, r_13, r_15, r_17, r_19, r_21, r_23, r_25, r_27, r_29, r_31, r_33, r_35, r_37, r_39, r_41, r_43, r_45, v_47, r_48, rfl, h_4, h_6, h_8, h_10, h_12, h_14, h_16, h_18, h_20, h_22, h_24, h_26, h_28, h_30, h_32, h_34, h_36, h_38, h_40, h_42, h_44, h_46, h_49⟩) (fun hG b hb h0 => by obtain ⟨e, g1, g2⟩ := hG b h0; exact ⟨e, g1, mF_gf (fun h => hb (uq b a0 (h.trans k_a0.symm) h0)) g2⟩) dX10_readsItem_58 (fun H locs hG hS at_87 o_88 => ?_)
      have at_87 : va_at D vwCl (a0, .inr (9, [.int gC, .ref r_3, .int gb, .int gI, .ref r_5, .ref r_7, .ref r_9, .ref r_11, .int gS, .ref r_13, .ref r_15, .ref r_17, .ref r_19, .int gM, .ref r_21, .ref r_23, .ref r_25, .int gE, .ref r_27, .ref r_29, .ref r_31, .ref r_33, .ref r_35, .ref r_37, .ref r_39, .ref r_41, .ref r_43, .int x_1, .int r_53, .int x_85, .int gs, .int gg, .ref r_45, .int gr, .int v_47, .ref r_48])) H := at_87
      refine lv_aload_n hx hb dX10_readsItem_61 rfl (lv_at hl 1 rfl) ?_
      refine lv_bipush (v := (-4)) hx hb dX10_readsItem_62 (by decide) ?_
      have zi_m4 : ((-4) : Int32).toInt = (-4) := by decide
      refine ty_put (D := D) (ci := 9) (v := .int (-4)) (ty := .int) (C := RX10) (T := TX10) (N := 36) (F2 := (mF cI cL cC gC gE gW gA gT gI gS gM K F S N gH gJ x_1 r_53 x_85 (-4) gg gr RN gb rV rN)) hx hb hts in10 tyX10 tyX10_ok nmX10 hown hK hG hS at_87 (by rw [k_a0]; rfl) rfl 30 (by decide) (hts (.fieldLink RX10 138 "RiverModelModel" "readSecond" "I") (List.mem_of_getElem? (i := 12) rfl)) (fun _ h9 => h9) rfl (by decide +kernel) rfl rfl (Nat.le_of_ble_eq_true rfl) (by rw [k_a0]; exact ⟨r_3, r_5, r_7, r_9, r_11, r_13, r_15, r_17, r_19, r_21, r_23, r_25, r_27, r_29, r_31, r_33, r_35, r_37, r_39, r_41, r_43, r_45, v_47, r_48, rfl, h_4, h_6, h_8, h_10, h_12, h_14, h_16, h_18, h_20, h_22, h_24, h_26, h_28, h_30, h_32, h_34, h_36, h_38, h_40, h_42, h_44, h_46, h_49⟩) (fun hG b hb h0 => by obtain ⟨e, g1, g2⟩ := hG b h0; exact ⟨e, g1, mF_gs (fun h => hb (uq b a0 (h.trans k_a0.symm) h0)) g2⟩) dX10_readsItem_64 (fun H locs hG hS at_89 o_90 => ?_)
      have at_89 : va_at D vwCl (a0, .inr (9, [.int gC, .ref r_3, .int gb, .int gI, .ref r_5, .ref r_7, .ref r_9, .ref r_11, .int gS, .ref r_13, .ref r_15, .ref r_17, .ref r_19, .int gM, .ref r_21, .ref r_23, .ref r_25, .int gE, .ref r_27, .ref r_29, .ref r_31, .ref r_33, .ref r_35, .ref r_37, .ref r_39, .ref r_41, .ref r_43, .int x_1, .int r_53, .int x_85, .int (-4), .int gg, .ref r_45, .int gr, .int v_47, .ref r_48])) H := at_89
      refine lv_aload_n hx hb dX10_readsItem_67 rfl (lv_at hl 1 rfl) ?_
      refine lv_dup hx hb dX10_readsItem_68 rfl ?_
      refine va_get (D := D) (ci := 9) (v := .int x_1) (C := RX10) (T := TX10) (N := 36) hx hb hts in10 hown hK (va_one at_89) 0 rfl rfl 27 (by decide) (hts (.fieldLink RX10 109 "RiverModelModel" "end" "I") (List.mem_of_getElem? (i := 1) rfl)) (fun _ h9 => h9) rfl dX10_readsItem_69 ?_
      refine lv_iconst (v := 1) hx hb dX10_readsItem_72 (by decide) ?_
      refine lv_pc (pc2 := 73) rfl ?_
      refine lv_iadd hx hb dX10_readsItem_73 ?_
      refine lv_topi (fun x_91 e_92 => ?_)
      have i_x_91 : x_91.toInt = x_1.toInt + 1 := by rw [e_92]; exact (q_add (by rw [show (1 : Int32).toInt = 1 by decide]; omega) (by rw [show (1 : Int32).toInt = 1 by decide]; omega)).trans (by rw [show (1 : Int32).toInt = 1 by decide])
      refine ty_put (D := D) (ci := 9) (v := .int x_91) (ty := .int) (C := RX10) (T := TX10) (N := 36) (F2 := (mF cI cL cC gC gE gW gA gT gI gS gM K F S N gH gJ x_91 r_53 x_85 (-4) gg gr RN gb rV rN)) hx hb hts in10 tyX10 tyX10_ok nmX10 hown hK hG hS at_89 (by rw [k_a0]; rfl) rfl 27 (by decide) (hts (.fieldLink RX10 109 "RiverModelModel" "end" "I") (List.mem_of_getElem? (i := 1) rfl)) (fun _ h9 => h9) rfl (by decide +kernel) rfl rfl (Nat.le_of_ble_eq_true rfl) (by rw [k_a0]; exact ⟨r_3, r_5, r_7, r_9, r_11, r_13, r_15, r_17, r_19, r_21, r_23, r_25, r_27, r_29, r_31, r_33, r_35, r_37, r_39, r_41, r_43, r_45, v_47, r_48, rfl, h_4, h_6, h_8, h_10, h_12, h_14, h_16, h_18, h_20, h_22, h_24, h_26, h_28, h_30, h_32, h_34, h_36, h_38, h_40, h_42, h_44, h_46, h_49⟩) (fun hG b hb h0 => by obtain ⟨e, g1, g2⟩ := hG b h0; exact ⟨e, g1, mF_ge (fun h => hb (uq b a0 (h.trans k_a0.symm) h0)) g2⟩) dX10_readsItem_74 (fun H locs hG hS at_93 o_94 => ?_)
      have at_93 : va_at D vwCl (a0, .inr (9, [.int gC, .ref r_3, .int gb, .int gI, .ref r_5, .ref r_7, .ref r_9, .ref r_11, .int gS, .ref r_13, .ref r_15, .ref r_17, .ref r_19, .int gM, .ref r_21, .ref r_23, .ref r_25, .int gE, .ref r_27, .ref r_29, .ref r_31, .ref r_33, .ref r_35, .ref r_37, .ref r_39, .ref r_41, .ref r_43, .int x_91, .int r_53, .int x_85, .int (-4), .int gg, .ref r_45, .int gr, .int v_47, .ref r_48])) H := at_93
      refine lv_iload hx hb dX10_readsItem_77 (lv_at hl 0 rfl) ?_
      refine lv_bipush (v := 19) hx hb dX10_readsItem_79 (by decide) ?_
      refine lv_icmp_le (tgt := 125) hx hb dX10_readsItem_81 (by decide) (fun c_95 => ?_) (fun c_95 => ?_)
      · skip
        have c_95 : r_60.toInt ≤ 19 := q_le c_95
        refine lv_iconst (v := 0) hx hb dX10_readsItem_125 (by decide) ?_
        refine lv_istore (lv' := [(5, .int 0), (4, .int r_60), (0, .ref a0), (1, .int a1), (2, .int a2), (3, .int a3)]) hx hb dX10_readsItem_126 hl (by decide) rfl (fun ls hl => ?_)
        refine lv_iload hx hb dX10_readsItem_128 (lv_at hl 0 rfl) ?_
        refine lv_pc (pc2 := 130) rfl ?_
        refine lv_iconst (v := 3) hx hb dX10_readsItem_130 (by decide) ?_
        refine lv_icmp_ge (tgt := 149) hx hb dX10_readsItem_131 (by decide) (fun q => absurd q (by decide)) (fun _ => ?_)
        refine lv_aload_n hx hb dX10_readsItem_134 rfl (lv_at hl 2 rfl) ?_
        refine va_get (D := D) (ci := 9) (v := .ref r_45) (C := RX10) (T := TX10) (N := 36) hx hb hts in10 hown hK (va_one at_93) 0 rfl rfl 32 (by decide) (hts (.fieldLink RX10 74 "RiverModelModel" "readNumber" "[I") (List.mem_of_getElem? (i := 13) rfl)) (fun _ h9 => h9) rfl dX10_readsItem_135 ?_
        refine lv_iload hx hb dX10_readsItem_138 (lv_at hl 0 rfl) ?_
        refine lv_bipush (v := (-4)) hx hb dX10_readsItem_140 (by decide) ?_
        have at_96 := mF_o62 hG h_46
        have b_97 : vp_in 0 3 := (q_in (by decide) (by decide))
        have zi_0 : (0 : Int32).toInt = 0 := by decide
        obtain ⟨q_98, eq_98⟩ : ∃ q : Nat → Int32, q = upd RN (0 : Int32).toNatClampNeg (-4) := ⟨_, rfl⟩
        refine ty_iast (F2 := (mF cI cL cC gC gE gW gA gT gI gS gM K F S N gH gJ x_91 r_53 x_85 (-4) gg gr q_98 gb rV rN)) hx hb hK hG hS 0 at_96 (by rw [h_46]; rfl) rfl b_97 (by rw [h_46]; show _ = _; rw [eq_98]) (fun hG b hb h0 => by obtain ⟨e, g1, g2⟩ := hG b h0; exact ⟨e, g1, mF_RN (fun h => hb (uq b r_45 (h.trans h_46.symm) h0)) g2⟩) dX10_readsItem_142 (fun H locs hG hS at_99 o_100 => ?_)
        have at_93 := va_at.keptK at_93 o_100 h_46 k_a0 rfl
        refine lv_iinc (v := 1) (lv' := [(5, .int 1), (4, .int r_60), (0, .ref a0), (1, .int a1), (2, .int a2), (3, .int a3)]) hx hb dX10_readsItem_143 hl (k := 0) rfl (by decide) (by decide) rfl (fun ls hl => ?_)
        refine lv_pc (pc2 := 146) rfl ?_
        refine lv_goto (tgt := 128) hx hb dX10_readsItem_146 (by decide) ?_
        refine lv_iload hx hb dX10_readsItem_128 (lv_at hl 0 rfl) ?_
        refine lv_iconst (v := 3) hx hb dX10_readsItem_130 (by decide) ?_
        refine lv_icmp_ge (tgt := 149) hx hb dX10_readsItem_131 (by decide) (fun q => absurd q (by decide)) (fun _ => ?_)
        refine lv_aload_n hx hb dX10_readsItem_134 rfl (lv_at hl 2 rfl) ?_
        refine va_get (D := D) (ci := 9) (v := .ref r_45) (C := RX10) (T := TX10) (N := 36) hx hb hts in10 hown hK (va_one at_93) 0 rfl rfl 32 (by decide) (hts (.fieldLink RX10 74 "RiverModelModel" "readNumber" "[I") (List.mem_of_getElem? (i := 13) rfl)) (fun _ h9 => h9) rfl dX10_readsItem_135 ?_
        refine lv_iload hx hb dX10_readsItem_138 (lv_at hl 0 rfl) ?_
        refine lv_bipush (v := (-4)) hx hb dX10_readsItem_140 (by decide) ?_
        refine lv_pc (pc2 := 142) rfl ?_
        have at_101 := mF_o62 hG h_46
        have b_102 : vp_in 1 3 := (q_in (by decide) (by decide))
        have zi_1 : (1 : Int32).toInt = 1 := by decide
        obtain ⟨q_103, eq_103⟩ : ∃ q : Nat → Int32, q = upd q_98 (1 : Int32).toNatClampNeg (-4) := ⟨_, rfl⟩
        refine ty_iast (F2 := (mF cI cL cC gC gE gW gA gT gI gS gM K F S N gH gJ x_91 r_53 x_85 (-4) gg gr q_103 gb rV rN)) hx hb hK hG hS 0 at_101 (by rw [h_46]; rfl) rfl b_102 (by rw [h_46]; show _ = _; rw [eq_103]) (fun hG b hb h0 => by obtain ⟨e, g1, g2⟩ := hG b h0; exact ⟨e, g1, mF_RN (fun h => hb (uq b r_45 (h.trans h_46.symm) h0)) g2⟩) dX10_readsItem_142 (fun H locs hG hS at_104 o_105 => ?_)
        have at_93 := va_at.keptK at_93 o_105 h_46 k_a0 rfl
        refine lv_iinc (v := 2) (lv' := [(5, .int 2), (4, .int r_60), (0, .ref a0), (1, .int a1), (2, .int a2), (3, .int a3)]) hx hb dX10_readsItem_143 hl (k := 0) rfl (by decide) (by decide) rfl (fun ls hl => ?_)
        refine lv_goto (tgt := 128) hx hb dX10_readsItem_146 (by decide) ?_
        refine lv_iload hx hb dX10_readsItem_128 (lv_at hl 0 rfl) ?_
        refine lv_iconst (v := 3) hx hb dX10_readsItem_130 (by decide) ?_
        refine lv_icmp_ge (tgt := 149) hx hb dX10_readsItem_131 (by decide) (fun q => absurd q (by decide)) (fun _ => ?_)
        refine lv_aload_n hx hb dX10_readsItem_134 rfl (lv_at hl 2 rfl) ?_
        refine va_get (D := D) (ci := 9) (v := .ref r_45) (C := RX10) (T := TX10) (N := 36) hx hb hts in10 hown hK (va_one at_93) 0 rfl rfl 32 (by decide) (hts (.fieldLink RX10 74 "RiverModelModel" "readNumber" "[I") (List.mem_of_getElem? (i := 13) rfl)) (fun _ h9 => h9) rfl dX10_readsItem_135 ?_
        refine lv_pc (pc2 := 138) rfl ?_
        refine lv_iload hx hb dX10_readsItem_138 (lv_at hl 0 rfl) ?_
        refine lv_bipush (v := (-4)) hx hb dX10_readsItem_140 (by decide) ?_
        have at_106 := mF_o62 hG h_46
        have b_107 : vp_in 2 3 := (q_in (by decide) (by decide))
        have zi_2 : (2 : Int32).toInt = 2 := by decide
        obtain ⟨q_108, eq_108⟩ : ∃ q : Nat → Int32, q = upd q_103 (2 : Int32).toNatClampNeg (-4) := ⟨_, rfl⟩
        refine ty_iast (F2 := (mF cI cL cC gC gE gW gA gT gI gS gM K F S N gH gJ x_91 r_53 x_85 (-4) gg gr q_108 gb rV rN)) hx hb hK hG hS 0 at_106 (by rw [h_46]; rfl) rfl b_107 (by rw [h_46]; show _ = _; rw [eq_108]) (fun hG b hb h0 => by obtain ⟨e, g1, g2⟩ := hG b h0; exact ⟨e, g1, mF_RN (fun h => hb (uq b r_45 (h.trans h_46.symm) h0)) g2⟩) dX10_readsItem_142 (fun H locs hG hS at_109 o_110 => ?_)
        have at_93 := va_at.keptK at_93 o_110 h_46 k_a0 rfl
        refine lv_iinc (v := 3) (lv' := [(5, .int 3), (4, .int r_60), (0, .ref a0), (1, .int a1), (2, .int a2), (3, .int a3)]) hx hb dX10_readsItem_143 hl (k := 0) rfl (by decide) (by decide) rfl (fun ls hl => ?_)
        refine lv_goto (tgt := 128) hx hb dX10_readsItem_146 (by decide) ?_
        refine lv_iload hx hb dX10_readsItem_128 (lv_at hl 0 rfl) ?_
        refine lv_iconst (v := 3) hx hb dX10_readsItem_130 (by decide) ?_
        refine lv_icmp_ge (tgt := 149) hx hb dX10_readsItem_131 (by decide) (fun _ => ?_) (fun q => absurd (by decide) q)
        have hnm : names (byT gT gC) a1.toInt x_85 ((-4) : Int32) (a1.toInt + 2) := ⟨by unfold nmB; omega, by omega, Or.inl ⟨by omega, by omega, rfl⟩⟩
        refine lv_pc (pc2 := 149) rfl ?_
        refine lv_iconst (v := 0) hx hb dX10_readsItem_149 (by decide) ?_
        refine lv_istore (lv' := [(5, .int 0), (4, .int r_60), (0, .ref a0), (1, .int a1), (2, .int a2), (3, .int a3)]) hx hb dX10_readsItem_150 hl (by decide) rfl (fun ls hl => ?_)
        refine lv_pc (pc2 := 152) rfl ?_
        refine lp_gen (fun WW111 hWW111 => ?_)
        have kx111 : ∀ (yi : Int32) (e1 : Int32) (g1 : Int32) (n1 : Nat → Int32) (H1 : Heap) (locs1 : List Loc) (ls1 : Array Slot), (0 ≤ yi.toInt) → (yi.toInt ≤ 3) → (a1.toInt < e1.toInt) → (e1.toInt ≤ a1.toInt + 3 + 9 * yi.toInt) → (yi.toInt ≤ shp (byT gT gC a1.toInt) % 10) → (numsR (byT gT gC) (a1.toInt + 2) yi.toInt 0 n1 e1.toInt) → (shp (byT gT gC a1.toInt) % 10 ≤ yi.toInt) → tG D (mF cI cL cC gC gE gW gA gT gI gS gM K F S N gH gJ e1 r_53 x_85 (-4) g1 gr n1 gb rV rN) t H1 → tF t wP s.heap H1 locs1 → lv_has ls1 8 [(5, .int yi), (4, .int r_60), (0, .ref a0), (1, .int a1), (2, .int a2), (3, .int a3)] → WW111 H1 locs1 (F0 m 179 ls1 []) := by
          intro yi e1 g1 n1 H locs ls v111_0 v111_1 v111_2 v111_3 v111_4 v111_5 xf111_0 hG hS hl
          refine (hWW111 _ _ _).mpr ?_
          refine lv_pc (pc2 := 179) rfl ?_
          refine lp_gen (fun WW112 hWW112 => ?_)
          have jn112 : ∀ (vj112 : Int32), (0 ≤ vj112.toInt) → (vj112.toInt ≤ 1) → (oneQ vj112.toInt r_53.toInt (bitI a2 x_85).toInt) → WW112 H locs (F0 m 209 ls (.int vj112 :: [])) := by
            intro vj112 fj112_0 fj112_1 fj112_2
            refine (hWW112 _ _ _).mpr ?_
            refine lv_istore (lv' := [(5, .int vj112), (4, .int r_60), (0, .ref a0), (1, .int a1), (2, .int a2), (3, .int a3)]) hx hb dX10_readsItem_209 hl (by decide) rfl (fun ls hl => ?_)
            refine lv_pc (pc2 := 211) rfl ?_
            refine lp_gen (fun WW113 hWW113 => ?_)
            have jn113 : ∀ (vj113 : Int32), (0 ≤ vj113.toInt) → (vj113.toInt ≤ 1) → (twoQ vj113.toInt ((-4) : Int32).toInt x_85.toInt (bitI a2 ((-4) : Int32)).toInt) → WW113 H locs (F0 m 246 ls (.int vj113 :: [])) := by
              intro vj113 fj113_0 fj113_1 fj113_2
              refine (hWW113 _ _ _).mpr ?_
              refine lv_istore (lv' := [(6, .int vj113), (5, .int vj112), (4, .int r_60), (0, .ref a0), (1, .int a1), (2, .int a2), (3, .int a3)]) hx hb dX10_readsItem_246 hl (by decide) rfl (fun ls hl => ?_)
              refine lv_aload_n hx hb dX10_readsItem_248 rfl (lv_at hl 3 rfl) ?_
              refine lv_aload_n hx hb dX10_readsItem_249 rfl (lv_at hl 3 rfl) ?_
              obtain ⟨r_114, r_116, r_118, r_120, r_122, r_124, r_126, r_128, r_130, r_132, r_134, r_136, r_138, r_140, r_142, r_144, r_146, r_148, r_150, r_152, r_154, r_156, v_158, r_159, at_161, h_115, h_117, h_119, h_121, h_123, h_125, h_127, h_129, h_131, h_133, h_135, h_137, h_139, h_141, h_143, h_145, h_147, h_149, h_151, h_153, h_155, h_157, h_160⟩ := mF_o40 hG k_a0
              refine va_get (D := D) (ci := 9) (v := .int e1) (C := RX10) (T := TX10) (N := 36) hx hb hts in10 hown hK (va_one at_161) 0 rfl rfl 27 (by decide) (hts (.fieldLink RX10 109 "RiverModelModel" "end" "I") (List.mem_of_getElem? (i := 1) rfl)) (fun _ h9 => h9) rfl dX10_readsItem_250 ?_
              refine ty_calli (W.runV (As := [.int e1]) (rest := []) ⟨hx, hb, hml, hown, hts⟩ (m_X10_byteAt l D t cI cL cC gC gE gW gA gT gI gS gM K F S N gH gJ e1 r_53 x_85 (-4) g1 gr n1 gb rV rN a0 e1 e1.toInt uq (by omega) (by omega) (by omega) (by omega) k_a0) (cwV 1 hts gu_X10_readsItem_X10_byteAt_112 rfl rfl rfl (by decide +kernel) ⟨Nat.le_of_ble_eq_true rfl, Nat.le_of_ble_eq_true rfl⟩) (tP_V hG hE at_161 rfl) rfl rfl hl.1 rfl (lv_room (Nat.le_of_ble_eq_true rfl)) dX10_readsItem_253 ⟨Nat.le_of_ble_eq_true rfl, Nat.le_of_ble_eq_true rfl⟩) hS (fun k h => by simp [wr0] at h) (fun r_162 H locs hp_163 hG hS o_164 => ?_)
              have at_161 := va_at.keptC at_161 o_164 k_a0 rfl
              have hp_163 : r_162.toInt = byT gT gC e1.toInt := hp_163
              have p_166 := hp_163
              refine lv_pc (pc2 := 256) rfl ?_
              refine lv_bipush (v := 59) hx hb dX10_readsItem_256 (by decide) ?_
              refine lv_icmp_ne (tgt := 317) hx hb dX10_readsItem_258 (by decide) (fun c_167 => ?_) (fun c_167 => ?_)
              · skip
                have c_167 : r_162.toInt ≠ 59 := q_ne c_167
                refine lv_iconst (v := 0) hx hb dX10_readsItem_317 (by decide) ?_
                refine lv_istore (lv' := [(7, .int 0), (6, .int vj113), (5, .int vj112), (4, .int r_60), (0, .ref a0), (1, .int a1), (2, .int a2), (3, .int a3)]) hx hb dX10_readsItem_318 hl (by decide) rfl (fun ls hl => ?_)
                refine lv_aload_n hx hb dX10_readsItem_320 rfl (lv_at hl 4 rfl) ?_
                refine lv_dup hx hb dX10_readsItem_321 rfl ?_
                refine va_get (D := D) (ci := 9) (v := .int e1) (C := RX10) (T := TX10) (N := 36) hx hb hts in10 hown hK (va_one at_161) 0 rfl rfl 27 (by decide) (hts (.fieldLink RX10 109 "RiverModelModel" "end" "I") (List.mem_of_getElem? (i := 1) rfl)) (fun _ h9 => h9) rfl dX10_readsItem_322 ?_
                refine lv_iconst (v := 1) hx hb dX10_readsItem_325 (by decide) ?_
                refine lv_pc (pc2 := 326) rfl ?_
                refine lv_iadd hx hb dX10_readsItem_326 ?_
                refine lv_topi (fun x_168 e_169 => ?_)
                have i_x_168 : x_168.toInt = e1.toInt + 1 := by rw [e_169]; exact (q_add (by rw [show (1 : Int32).toInt = 1 by decide]; omega) (by rw [show (1 : Int32).toInt = 1 by decide]; omega)).trans (by rw [show (1 : Int32).toInt = 1 by decide])
                refine ty_put (D := D) (ci := 9) (v := .int x_168) (ty := .int) (C := RX10) (T := TX10) (N := 36) (F2 := (mF cI cL cC gC gE gW gA gT gI gS gM K F S N gH gJ x_168 r_53 x_85 (-4) g1 gr n1 gb rV rN)) hx hb hts in10 tyX10 tyX10_ok nmX10 hown hK hG hS at_161 (by rw [k_a0]; rfl) rfl 27 (by decide) (hts (.fieldLink RX10 109 "RiverModelModel" "end" "I") (List.mem_of_getElem? (i := 1) rfl)) (fun _ h9 => h9) rfl (by decide +kernel) rfl rfl (Nat.le_of_ble_eq_true rfl) (by rw [k_a0]; exact ⟨r_114, r_116, r_118, r_120, r_122, r_124, r_126, r_128, r_130, r_132, r_134, r_136, r_138, r_140, r_142, r_144, r_146, r_148, r_150, r_152, r_154, r_156, v_158, r_159, rfl, h_115, h_117, h_119, h_121, h_123, h_125, h_127, h_129, h_131, h_133, h_135, h_137, h_139, h_141, h_143, h_145, h_147, h_149, h_151, h_153, h_155, h_157, h_160⟩) (fun hG b hb h0 => by obtain ⟨e, g1, g2⟩ := hG b h0; exact ⟨e, g1, mF_ge (fun h => hb (uq b a0 (h.trans k_a0.symm) h0)) g2⟩) dX10_readsItem_327 (fun H locs hG hS at_170 o_171 => ?_)
                have at_170 : va_at D vwCl (a0, .inr (9, [.int gC, .ref r_114, .int gb, .int gI, .ref r_116, .ref r_118, .ref r_120, .ref r_122, .int gS, .ref r_124, .ref r_126, .ref r_128, .ref r_130, .int gM, .ref r_132, .ref r_134, .ref r_136, .int gE, .ref r_138, .ref r_140, .ref r_142, .ref r_144, .ref r_146, .ref r_148, .ref r_150, .ref r_152, .ref r_154, .int x_168, .int r_53, .int x_85, .int (-4), .int g1, .ref r_156, .int gr, .int v_158, .ref r_159])) H := at_170
                refine lv_iload hx hb dX10_readsItem_330 (lv_at hl 0 rfl) ?_
                exact tx_zret (z := (x_168, r_53, x_85, -4, g1, n1)) hx hb hr hlk rfl hG hS (Or.inr ⟨rfl, (by show noVit (byT gT gC) a1.toInt a2 a3.toInt; exact noItem.v (noItem.lastR hnm v111_5 (by omega) (by omega)))⟩) dX10_readsItem_332
              · skip
                have c_167 : r_162.toInt = 59 := q_eq c_167
                refine lv_iload hx hb dX10_readsItem_261 (lv_at hl 1 rfl) ?_
                refine lv_if_eq (tgt := 317) hx hb dX10_readsItem_263 (by decide) (fun c_172 => ?_) (fun c_172 => ?_)
                · skip
                  have c_172 : vj112.toInt = 0 := q_eq c_172
                  refine lv_iconst (v := 0) hx hb dX10_readsItem_317 (by decide) ?_
                  refine lv_istore (lv' := [(7, .int 0), (6, .int vj113), (5, .int vj112), (4, .int r_60), (0, .ref a0), (1, .int a1), (2, .int a2), (3, .int a3)]) hx hb dX10_readsItem_318 hl (by decide) rfl (fun ls hl => ?_)
                  refine lv_pc (pc2 := 320) rfl ?_
                  refine lv_aload_n hx hb dX10_readsItem_320 rfl (lv_at hl 4 rfl) ?_
                  refine lv_dup hx hb dX10_readsItem_321 rfl ?_
                  refine va_get (D := D) (ci := 9) (v := .int e1) (C := RX10) (T := TX10) (N := 36) hx hb hts in10 hown hK (va_one at_161) 0 rfl rfl 27 (by decide) (hts (.fieldLink RX10 109 "RiverModelModel" "end" "I") (List.mem_of_getElem? (i := 1) rfl)) (fun _ h9 => h9) rfl dX10_readsItem_322 ?_
                  refine lv_iconst (v := 1) hx hb dX10_readsItem_325 (by decide) ?_
                  refine lv_iadd hx hb dX10_readsItem_326 ?_
                  refine lv_topi (fun x_173 e_174 => ?_)
                  have i_x_173 : x_173.toInt = e1.toInt + 1 := by rw [e_174]; exact (q_add (by rw [show (1 : Int32).toInt = 1 by decide]; omega) (by rw [show (1 : Int32).toInt = 1 by decide]; omega)).trans (by rw [show (1 : Int32).toInt = 1 by decide])
                  refine ty_put (D := D) (ci := 9) (v := .int x_173) (ty := .int) (C := RX10) (T := TX10) (N := 36) (F2 := (mF cI cL cC gC gE gW gA gT gI gS gM K F S N gH gJ x_173 r_53 x_85 (-4) g1 gr n1 gb rV rN)) hx hb hts in10 tyX10 tyX10_ok nmX10 hown hK hG hS at_161 (by rw [k_a0]; rfl) rfl 27 (by decide) (hts (.fieldLink RX10 109 "RiverModelModel" "end" "I") (List.mem_of_getElem? (i := 1) rfl)) (fun _ h9 => h9) rfl (by decide +kernel) rfl rfl (Nat.le_of_ble_eq_true rfl) (by rw [k_a0]; exact ⟨r_114, r_116, r_118, r_120, r_122, r_124, r_126, r_128, r_130, r_132, r_134, r_136, r_138, r_140, r_142, r_144, r_146, r_148, r_150, r_152, r_154, r_156, v_158, r_159, rfl, h_115, h_117, h_119, h_121, h_123, h_125, h_127, h_129, h_131, h_133, h_135, h_137, h_139, h_141, h_143, h_145, h_147, h_149, h_151, h_153, h_155, h_157, h_160⟩) (fun hG b hb h0 => by obtain ⟨e, g1, g2⟩ := hG b h0; exact ⟨e, g1, mF_ge (fun h => hb (uq b a0 (h.trans k_a0.symm) h0)) g2⟩) dX10_readsItem_327 (fun H locs hG hS at_175 o_176 => ?_)
                  have at_175 : va_at D vwCl (a0, .inr (9, [.int gC, .ref r_114, .int gb, .int gI, .ref r_116, .ref r_118, .ref r_120, .ref r_122, .int gS, .ref r_124, .ref r_126, .ref r_128, .ref r_130, .int gM, .ref r_132, .ref r_134, .ref r_136, .int gE, .ref r_138, .ref r_140, .ref r_142, .ref r_144, .ref r_146, .ref r_148, .ref r_150, .ref r_152, .ref r_154, .int x_173, .int r_53, .int x_85, .int (-4), .int g1, .ref r_156, .int gr, .int v_158, .ref r_159])) H := at_175
                  refine lv_iload hx hb dX10_readsItem_330 (lv_at hl 0 rfl) ?_
                  exact tx_zret (z := (x_173, r_53, x_85, -4, g1, n1)) hx hb hr hlk rfl hG hS (Or.inr ⟨rfl, (by show noVit (byT gT gC) a1.toInt a2 a3.toInt; exact vIt.no (itemAt.ofR (k := r_53) (by omega) (by omega) hnm v111_5 (by omega) (by omega) (by omega)) (okIt.no1 fj112_2 (by omega)))⟩) dX10_readsItem_332
                · skip
                  have c_172 : vj112.toInt ≠ 0 := q_ne c_172
                  refine lv_pc (pc2 := 266) rfl ?_
                  refine lv_iload hx hb dX10_readsItem_266 (lv_at hl 0 rfl) ?_
                  refine lv_if_eq (tgt := 317) hx hb dX10_readsItem_268 (by decide) (fun c_177 => ?_) (fun c_177 => ?_)
                  · skip
                    have c_177 : vj113.toInt = 0 := q_eq c_177
                    refine lv_iconst (v := 0) hx hb dX10_readsItem_317 (by decide) ?_
                    refine lv_istore (lv' := [(7, .int 0), (6, .int vj113), (5, .int vj112), (4, .int r_60), (0, .ref a0), (1, .int a1), (2, .int a2), (3, .int a3)]) hx hb dX10_readsItem_318 hl (by decide) rfl (fun ls hl => ?_)
                    refine lv_aload_n hx hb dX10_readsItem_320 rfl (lv_at hl 4 rfl) ?_
                    refine lv_dup hx hb dX10_readsItem_321 rfl ?_
                    refine va_get (D := D) (ci := 9) (v := .int e1) (C := RX10) (T := TX10) (N := 36) hx hb hts in10 hown hK (va_one at_161) 0 rfl rfl 27 (by decide) (hts (.fieldLink RX10 109 "RiverModelModel" "end" "I") (List.mem_of_getElem? (i := 1) rfl)) (fun _ h9 => h9) rfl dX10_readsItem_322 ?_
                    refine lv_iconst (v := 1) hx hb dX10_readsItem_325 (by decide) ?_
                    refine lv_pc (pc2 := 326) rfl ?_
                    refine lv_iadd hx hb dX10_readsItem_326 ?_
                    refine lv_topi (fun x_178 e_179 => ?_)
                    have i_x_178 : x_178.toInt = e1.toInt + 1 := by rw [e_179]; exact (q_add (by rw [show (1 : Int32).toInt = 1 by decide]; omega) (by rw [show (1 : Int32).toInt = 1 by decide]; omega)).trans (by rw [show (1 : Int32).toInt = 1 by decide])
                    refine ty_put (D := D) (ci := 9) (v := .int x_178) (ty := .int) (C := RX10) (T := TX10) (N := 36) (F2 := (mF cI cL cC gC gE gW gA gT gI gS gM K F S N gH gJ x_178 r_53 x_85 (-4) g1 gr n1 gb rV rN)) hx hb hts in10 tyX10 tyX10_ok nmX10 hown hK hG hS at_161 (by rw [k_a0]; rfl) rfl 27 (by decide) (hts (.fieldLink RX10 109 "RiverModelModel" "end" "I") (List.mem_of_getElem? (i := 1) rfl)) (fun _ h9 => h9) rfl (by decide +kernel) rfl rfl (Nat.le_of_ble_eq_true rfl) (by rw [k_a0]; exact ⟨r_114, r_116, r_118, r_120, r_122, r_124, r_126, r_128, r_130, r_132, r_134, r_136, r_138, r_140, r_142, r_144, r_146, r_148, r_150, r_152, r_154, r_156, v_158, r_159, rfl, h_115, h_117, h_119, h_121, h_123, h_125, h_127, h_129, h_131, h_133, h_135, h_137, h_139, h_141, h_143, h_145, h_147, h_149, h_151, h_153, h_155, h_157, h_160⟩) (fun hG b hb h0 => by obtain ⟨e, g1, g2⟩ := hG b h0; exact ⟨e, g1, mF_ge (fun h => hb (uq b a0 (h.trans k_a0.symm) h0)) g2⟩) dX10_readsItem_327 (fun H locs hG hS at_180 o_181 => ?_)
                    have at_180 : va_at D vwCl (a0, .inr (9, [.int gC, .ref r_114, .int gb, .int gI, .ref r_116, .ref r_118, .ref r_120, .ref r_122, .int gS, .ref r_124, .ref r_126, .ref r_128, .ref r_130, .int gM, .ref r_132, .ref r_134, .ref r_136, .int gE, .ref r_138, .ref r_140, .ref r_142, .ref r_144, .ref r_146, .ref r_148, .ref r_150, .ref r_152, .ref r_154, .int x_178, .int r_53, .int x_85, .int (-4), .int g1, .ref r_156, .int gr, .int v_158, .ref r_159])) H := at_180
                    refine lv_iload hx hb dX10_readsItem_330 (lv_at hl 0 rfl) ?_
                    exact tx_zret (z := (x_178, r_53, x_85, -4, g1, n1)) hx hb hr hlk rfl hG hS (Or.inr ⟨rfl, (by show noVit (byT gT gC) a1.toInt a2 a3.toInt; exact vIt.no (itemAt.ofR (k := r_53) (by omega) (by omega) hnm v111_5 (by omega) (by omega) (by omega)) (okIt.no2 fj113_2 (by omega)))⟩) dX10_readsItem_332
                  · skip
                    have c_177 : vj113.toInt ≠ 0 := q_ne c_177
                    refine lv_aload_n hx hb dX10_readsItem_271 rfl (lv_at hl 3 rfl) ?_
                    refine va_get (D := D) (ci := 9) (v := .int r_53) (C := RX10) (T := TX10) (N := 36) hx hb hts in10 hown hK (va_one at_161) 0 rfl rfl 28 (by decide) (hts (.fieldLink RX10 125 "RiverModelModel" "readKind" "I") (List.mem_of_getElem? (i := 6) rfl)) (fun _ h9 => h9) rfl dX10_readsItem_272 ?_
                    refine lv_bipush (v := 103) hx hb dX10_readsItem_275 (by decide) ?_
                    refine lv_icmp_ne (tgt := 285) hx hb dX10_readsItem_277 (by decide) (fun c_182 => ?_) (fun c_182 => ?_)
                    · skip
                      have c_182 : r_53.toInt ≠ 103 := q_ne c_182
                      refine lv_pc (pc2 := 285) rfl ?_
                      refine lv_aload_n hx hb dX10_readsItem_285 rfl (lv_at hl 3 rfl) ?_
                      refine va_get (D := D) (ci := 9) (v := .int r_53) (C := RX10) (T := TX10) (N := 36) hx hb hts in10 hown hK (va_one at_161) 0 rfl rfl 28 (by decide) (hts (.fieldLink RX10 125 "RiverModelModel" "readKind" "I") (List.mem_of_getElem? (i := 6) rfl)) (fun _ h9 => h9) rfl dX10_readsItem_286 ?_
                      refine lv_aload_n hx hb dX10_readsItem_289 rfl (lv_at hl 3 rfl) ?_
                      refine va_get (D := D) (ci := 9) (v := .ref r_156) (C := RX10) (T := TX10) (N := 36) hx hb hts in10 hown hK (va_one at_161) 0 rfl rfl 32 (by decide) (hts (.fieldLink RX10 74 "RiverModelModel" "readNumber" "[I") (List.mem_of_getElem? (i := 13) rfl)) (fun _ h9 => h9) rfl dX10_readsItem_290 ?_
                      refine lv_iconst (v := 0) hx hb dX10_readsItem_293 (by decide) ?_
                      have at_183 := mF_o62 hG h_157
                      have b_184 : vp_in 0 3 := (q_in (by decide) (by decide))
                      refine va_iald hx hb hK (va_one at_183) 0 0 rfl rfl b_184 dX10_readsItem_294 ?_
                      refine lv_topi (fun x_185 e_186 => ?_)
                      have w_x_185 : x_185 = n1 0 := by rw [e_186]; rfl
                      have i_x_185 : x_185.toInt = (n1 0).toInt := by rw [w_x_185]
                      refine lv_aload_n hx hb dX10_readsItem_295 rfl (lv_at hl 3 rfl) ?_
                      refine va_get (D := D) (ci := 9) (v := .ref r_156) (C := RX10) (T := TX10) (N := 36) hx hb hts in10 hown hK (va_one at_161) 0 rfl rfl 32 (by decide) (hts (.fieldLink RX10 74 "RiverModelModel" "readNumber" "[I") (List.mem_of_getElem? (i := 13) rfl)) (fun _ h9 => h9) rfl dX10_readsItem_296 ?_
                      refine lv_pc (pc2 := 299) rfl ?_
                      refine lv_iconst (v := 1) hx hb dX10_readsItem_299 (by decide) ?_
                      have b_187 : vp_in 1 3 := (q_in (by decide) (by decide))
                      refine va_iald hx hb hK (va_one at_183) 0 0 rfl rfl b_187 dX10_readsItem_300 ?_
                      refine lv_topi (fun x_188 e_189 => ?_)
                      have w_x_188 : x_188 = n1 1 := by rw [e_189]; rfl
                      have i_x_188 : x_188.toInt = (n1 1).toInt := by rw [w_x_188]
                      refine lv_aload_n hx hb dX10_readsItem_301 rfl (lv_at hl 3 rfl) ?_
                      refine va_get (D := D) (ci := 9) (v := .ref r_156) (C := RX10) (T := TX10) (N := 36) hx hb hts in10 hown hK (va_one at_161) 0 rfl rfl 32 (by decide) (hts (.fieldLink RX10 74 "RiverModelModel" "readNumber" "[I") (List.mem_of_getElem? (i := 13) rfl)) (fun _ h9 => h9) rfl dX10_readsItem_302 ?_
                      refine lv_iconst (v := 2) hx hb dX10_readsItem_305 (by decide) ?_
                      have b_190 : vp_in 2 3 := (q_in (by decide) (by decide))
                      refine va_iald hx hb hK (va_one at_183) 0 0 rfl rfl b_190 dX10_readsItem_306 ?_
                      refine lv_topi (fun x_191 e_192 => ?_)
                      have w_x_191 : x_191 = n1 2 := by rw [e_192]; rfl
                      have i_x_191 : x_191.toInt = (n1 2).toInt := by rw [w_x_191]
                      refine ty_calli (W.runS (As := [.int r_53, .int x_185, .int x_188, .int x_191]) (rest := []) ⟨hx, hb, hml, hown, hts⟩ (m_X10_areWell l D t cI cL cC gC gE gW gA gT gI gS gM K F S N gH gJ e1 r_53 x_85 (-4) g1 gr n1 gb rV rN r_53 x_185 x_188 x_191  uq  ) (va_cwS 4 hts gu_X10_readsItem_X10_areWell_144 rfl rfl rfl (by decide +kernel) ⟨Nat.le_of_ble_eq_true rfl, Nat.le_of_ble_eq_true rfl⟩) (tP_S hG hE) rfl rfl hl.1 rfl (lv_room (Nat.le_of_ble_eq_true rfl)) dX10_readsItem_307 ⟨Nat.le_of_ble_eq_true rfl, Nat.le_of_ble_eq_true rfl⟩) hS (fun k h => by simp [wr0] at h) (fun r_193 H locs hp_194 hG hS o_195 => ?_)
                      have at_161 := va_at.keptC at_161 o_195 k_a0 rfl
                      have at_183 := va_at.keptC at_183 o_195 h_157 rfl
                      have hp_194 : (r_193 = 1 ∧ weOk r_53 x_185 x_188 ∧ well r_53.toInt x_185 x_188 x_191) ∨ (r_193 = 0 ∧ ¬ well r_53.toInt x_185 x_188 x_191) := hp_194
                      rcases hp_194 with ⟨rfl, p_197, p_198⟩ | ⟨rfl, p_199⟩
                      · skip
                        refine lv_if_eq (tgt := 317) hx hb dX10_readsItem_310 (by decide) (fun q => absurd q (by decide)) (fun _ => ?_)
                        refine lv_pc (pc2 := 313) rfl ?_
                        refine lv_iconst (v := 1) hx hb dX10_readsItem_313 (by decide) ?_
                        refine lv_goto (tgt := 318) hx hb dX10_readsItem_314 (by decide) ?_
                        refine lv_istore (lv' := [(7, .int 1), (6, .int vj113), (5, .int vj112), (4, .int r_60), (0, .ref a0), (1, .int a1), (2, .int a2), (3, .int a3)]) hx hb dX10_readsItem_318 hl (by decide) rfl (fun ls hl => ?_)
                        refine lv_aload_n hx hb dX10_readsItem_320 rfl (lv_at hl 4 rfl) ?_
                        refine lv_dup hx hb dX10_readsItem_321 rfl ?_
                        refine va_get (D := D) (ci := 9) (v := .int e1) (C := RX10) (T := TX10) (N := 36) hx hb hts in10 hown hK (va_one at_161) 0 rfl rfl 27 (by decide) (hts (.fieldLink RX10 109 "RiverModelModel" "end" "I") (List.mem_of_getElem? (i := 1) rfl)) (fun _ h9 => h9) rfl dX10_readsItem_322 ?_
                        refine lv_iconst (v := 1) hx hb dX10_readsItem_325 (by decide) ?_
                        refine lv_iadd hx hb dX10_readsItem_326 ?_
                        refine lv_topi (fun x_200 e_201 => ?_)
                        have i_x_200 : x_200.toInt = e1.toInt + 1 := by rw [e_201]; exact (q_add (by rw [show (1 : Int32).toInt = 1 by decide]; omega) (by rw [show (1 : Int32).toInt = 1 by decide]; omega)).trans (by rw [show (1 : Int32).toInt = 1 by decide])
                        refine lv_pc (pc2 := 327) rfl ?_
                        refine ty_put (D := D) (ci := 9) (v := .int x_200) (ty := .int) (C := RX10) (T := TX10) (N := 36) (F2 := (mF cI cL cC gC gE gW gA gT gI gS gM K F S N gH gJ x_200 r_53 x_85 (-4) g1 gr n1 gb rV rN)) hx hb hts in10 tyX10 tyX10_ok nmX10 hown hK hG hS at_161 (by rw [k_a0]; rfl) rfl 27 (by decide) (hts (.fieldLink RX10 109 "RiverModelModel" "end" "I") (List.mem_of_getElem? (i := 1) rfl)) (fun _ h9 => h9) rfl (by decide +kernel) rfl rfl (Nat.le_of_ble_eq_true rfl) (by rw [k_a0]; exact ⟨r_114, r_116, r_118, r_120, r_122, r_124, r_126, r_128, r_130, r_132, r_134, r_136, r_138, r_140, r_142, r_144, r_146, r_148, r_150, r_152, r_154, r_156, v_158, r_159, rfl, h_115, h_117, h_119, h_121, h_123, h_125, h_127, h_129, h_131, h_133, h_135, h_137, h_139, h_141, h_143, h_145, h_147, h_149, h_151, h_153, h_155, h_157, h_160⟩) (fun hG b hb h0 => by obtain ⟨e, g1, g2⟩ := hG b h0; exact ⟨e, g1, mF_ge (fun h => hb (uq b a0 (h.trans k_a0.symm) h0)) g2⟩) dX10_readsItem_327 (fun H locs hG hS at_202 o_203 => ?_)
                        have at_202 : va_at D vwCl (a0, .inr (9, [.int gC, .ref r_114, .int gb, .int gI, .ref r_116, .ref r_118, .ref r_120, .ref r_122, .int gS, .ref r_124, .ref r_126, .ref r_128, .ref r_130, .int gM, .ref r_132, .ref r_134, .ref r_136, .int gE, .ref r_138, .ref r_140, .ref r_142, .ref r_144, .ref r_146, .ref r_148, .ref r_150, .ref r_152, .ref r_154, .int x_200, .int r_53, .int x_85, .int (-4), .int g1, .ref r_156, .int gr, .int v_158, .ref r_159])) H := at_202
                        have at_183 := va_at.keptK at_183 o_203 k_a0 h_157 rfl
                        refine lv_iload hx hb dX10_readsItem_330 (lv_at hl 0 rfl) ?_
                        exact tx_zret (z := (x_200, r_53, x_85, -4, g1, n1)) hx hb hr hlk rfl hG hS (Or.inl ⟨rfl, (by show a1.toInt < x_200.toInt; omega), (by show x_200.toInt ≤ a1.toInt + 40; omega), (by show itOk r_53 x_85 ((-4) : Int32) (n1 0) (n1 1); exact ⟨by omega, by omega, by omega, by omega, fun q => by have := p_197.1 (by omega); omega, fun q => by have := p_197.2 (by omega); omega⟩), (by show nmOk r_53 x_85 a2; exact nmOk.of fj112_2 (by omega)), (by show itemAt (byT gT gC) a1.toInt r_53 x_85 ((-4) : Int32) (n1 0) (n1 1) (n1 2) x_200.toInt; exact (itemAt.ofR (k := r_53) (by omega) (by omega) hnm v111_5 (by omega) (by omega) (by omega))), (by show okIt a2 a3.toInt r_53 x_85 ((-4) : Int32) (n1 0) (n1 1) (n1 2); exact okIt.of (by rw [← w_x_185, ← w_x_188, ← w_x_191]; exact p_198) fj112_2 fj113_2 (by omega) (by omega) (fun q => by omega))⟩) dX10_readsItem_332
                      · skip
                        refine lv_if_eq (tgt := 317) hx hb dX10_readsItem_310 (by decide) (fun _ => ?_) (fun q => absurd (by decide) q)
                        refine lv_iconst (v := 0) hx hb dX10_readsItem_317 (by decide) ?_
                        refine lv_istore (lv' := [(7, .int 0), (6, .int vj113), (5, .int vj112), (4, .int r_60), (0, .ref a0), (1, .int a1), (2, .int a2), (3, .int a3)]) hx hb dX10_readsItem_318 hl (by decide) rfl (fun ls hl => ?_)
                        refine lv_aload_n hx hb dX10_readsItem_320 rfl (lv_at hl 4 rfl) ?_
                        refine lv_dup hx hb dX10_readsItem_321 rfl ?_
                        refine lv_pc (pc2 := 322) rfl ?_
                        refine va_get (D := D) (ci := 9) (v := .int e1) (C := RX10) (T := TX10) (N := 36) hx hb hts in10 hown hK (va_one at_161) 0 rfl rfl 27 (by decide) (hts (.fieldLink RX10 109 "RiverModelModel" "end" "I") (List.mem_of_getElem? (i := 1) rfl)) (fun _ h9 => h9) rfl dX10_readsItem_322 ?_
                        refine lv_iconst (v := 1) hx hb dX10_readsItem_325 (by decide) ?_
                        refine lv_iadd hx hb dX10_readsItem_326 ?_
                        refine lv_topi (fun x_204 e_205 => ?_)
                        have i_x_204 : x_204.toInt = e1.toInt + 1 := by rw [e_205]; exact (q_add (by rw [show (1 : Int32).toInt = 1 by decide]; omega) (by rw [show (1 : Int32).toInt = 1 by decide]; omega)).trans (by rw [show (1 : Int32).toInt = 1 by decide])
                        refine ty_put (D := D) (ci := 9) (v := .int x_204) (ty := .int) (C := RX10) (T := TX10) (N := 36) (F2 := (mF cI cL cC gC gE gW gA gT gI gS gM K F S N gH gJ x_204 r_53 x_85 (-4) g1 gr n1 gb rV rN)) hx hb hts in10 tyX10 tyX10_ok nmX10 hown hK hG hS at_161 (by rw [k_a0]; rfl) rfl 27 (by decide) (hts (.fieldLink RX10 109 "RiverModelModel" "end" "I") (List.mem_of_getElem? (i := 1) rfl)) (fun _ h9 => h9) rfl (by decide +kernel) rfl rfl (Nat.le_of_ble_eq_true rfl) (by rw [k_a0]; exact ⟨r_114, r_116, r_118, r_120, r_122, r_124, r_126, r_128, r_130, r_132, r_134, r_136, r_138, r_140, r_142, r_144, r_146, r_148, r_150, r_152, r_154, r_156, v_158, r_159, rfl, h_115, h_117, h_119, h_121, h_123, h_125, h_127, h_129, h_131, h_133, h_135, h_137, h_139, h_141, h_143, h_145, h_147, h_149, h_151, h_153, h_155, h_157, h_160⟩) (fun hG b hb h0 => by obtain ⟨e, g1, g2⟩ := hG b h0; exact ⟨e, g1, mF_ge (fun h => hb (uq b a0 (h.trans k_a0.symm) h0)) g2⟩) dX10_readsItem_327 (fun H locs hG hS at_206 o_207 => ?_)
                        have at_206 : va_at D vwCl (a0, .inr (9, [.int gC, .ref r_114, .int gb, .int gI, .ref r_116, .ref r_118, .ref r_120, .ref r_122, .int gS, .ref r_124, .ref r_126, .ref r_128, .ref r_130, .int gM, .ref r_132, .ref r_134, .ref r_136, .int gE, .ref r_138, .ref r_140, .ref r_142, .ref r_144, .ref r_146, .ref r_148, .ref r_150, .ref r_152, .ref r_154, .int x_204, .int r_53, .int x_85, .int (-4), .int g1, .ref r_156, .int gr, .int v_158, .ref r_159])) H := at_206
                        have at_183 := va_at.keptK at_183 o_207 k_a0 h_157 rfl
                        refine lv_iload hx hb dX10_readsItem_330 (lv_at hl 0 rfl) ?_
                        exact tx_zret (z := (x_204, r_53, x_85, -4, g1, n1)) hx hb hr hlk rfl hG hS (Or.inr ⟨rfl, (by show noVit (byT gT gC) a1.toInt a2 a3.toInt; exact vIt.no (itemAt.ofR (k := r_53) (by omega) (by omega) hnm v111_5 (by omega) (by omega) (by omega)) (okIt.now (by rw [← w_x_185, ← w_x_188, ← w_x_191]; exact p_199)))⟩) dX10_readsItem_332
                    · skip
                      have c_182 : r_53.toInt = 103 := q_eq c_182
                      refine lv_iload_n hx hb dX10_readsItem_280 rfl (lv_at hl 6 rfl) ?_
                      refine lv_iconst (v := 4) hx hb dX10_readsItem_281 (by decide) ?_
                      refine lv_pc (pc2 := 282) rfl ?_
                      refine lv_icmp_ge (tgt := 317) hx hb dX10_readsItem_282 (by decide) (fun c_208 => ?_) (fun c_208 => ?_)
                      · skip
                        have c_208 : 4 ≤ a3.toInt := q_le c_208
                        refine lv_iconst (v := 0) hx hb dX10_readsItem_317 (by decide) ?_
                        refine lv_istore (lv' := [(7, .int 0), (6, .int vj113), (5, .int vj112), (4, .int r_60), (0, .ref a0), (1, .int a1), (2, .int a2), (3, .int a3)]) hx hb dX10_readsItem_318 hl (by decide) rfl (fun ls hl => ?_)
                        refine lv_aload_n hx hb dX10_readsItem_320 rfl (lv_at hl 4 rfl) ?_
                        refine lv_dup hx hb dX10_readsItem_321 rfl ?_
                        refine va_get (D := D) (ci := 9) (v := .int e1) (C := RX10) (T := TX10) (N := 36) hx hb hts in10 hown hK (va_one at_161) 0 rfl rfl 27 (by decide) (hts (.fieldLink RX10 109 "RiverModelModel" "end" "I") (List.mem_of_getElem? (i := 1) rfl)) (fun _ h9 => h9) rfl dX10_readsItem_322 ?_
                        refine lv_iconst (v := 1) hx hb dX10_readsItem_325 (by decide) ?_
                        refine lv_iadd hx hb dX10_readsItem_326 ?_
                        refine lv_topi (fun x_209 e_210 => ?_)
                        have i_x_209 : x_209.toInt = e1.toInt + 1 := by rw [e_210]; exact (q_add (by rw [show (1 : Int32).toInt = 1 by decide]; omega) (by rw [show (1 : Int32).toInt = 1 by decide]; omega)).trans (by rw [show (1 : Int32).toInt = 1 by decide])
                        refine lv_pc (pc2 := 327) rfl ?_
                        refine ty_put (D := D) (ci := 9) (v := .int x_209) (ty := .int) (C := RX10) (T := TX10) (N := 36) (F2 := (mF cI cL cC gC gE gW gA gT gI gS gM K F S N gH gJ x_209 r_53 x_85 (-4) g1 gr n1 gb rV rN)) hx hb hts in10 tyX10 tyX10_ok nmX10 hown hK hG hS at_161 (by rw [k_a0]; rfl) rfl 27 (by decide) (hts (.fieldLink RX10 109 "RiverModelModel" "end" "I") (List.mem_of_getElem? (i := 1) rfl)) (fun _ h9 => h9) rfl (by decide +kernel) rfl rfl (Nat.le_of_ble_eq_true rfl) (by rw [k_a0]; exact ⟨r_114, r_116, r_118, r_120, r_122, r_124, r_126, r_128, r_130, r_132, r_134, r_136, r_138, r_140, r_142, r_144, r_146, r_148, r_150, r_152, r_154, r_156, v_158, r_159, rfl, h_115, h_117, h_119, h_121, h_123, h_125, h_127, h_129, h_131, h_133, h_135, h_137, h_139, h_141, h_143, h_145, h_147, h_149, h_151, h_153, h_155, h_157, h_160⟩) (fun hG b hb h0 => by obtain ⟨e, g1, g2⟩ := hG b h0; exact ⟨e, g1, mF_ge (fun h => hb (uq b a0 (h.trans k_a0.symm) h0)) g2⟩) dX10_readsItem_327 (fun H locs hG hS at_211 o_212 => ?_)
                        have at_211 : va_at D vwCl (a0, .inr (9, [.int gC, .ref r_114, .int gb, .int gI, .ref r_116, .ref r_118, .ref r_120, .ref r_122, .int gS, .ref r_124, .ref r_126, .ref r_128, .ref r_130, .int gM, .ref r_132, .ref r_134, .ref r_136, .int gE, .ref r_138, .ref r_140, .ref r_142, .ref r_144, .ref r_146, .ref r_148, .ref r_150, .ref r_152, .ref r_154, .int x_209, .int r_53, .int x_85, .int (-4), .int g1, .ref r_156, .int gr, .int v_158, .ref r_159])) H := at_211
                        refine lv_iload hx hb dX10_readsItem_330 (lv_at hl 0 rfl) ?_
                        exact tx_zret (z := (x_209, r_53, x_85, -4, g1, n1)) hx hb hr hlk rfl hG hS (Or.inr ⟨rfl, (by show noVit (byT gT gC) a1.toInt a2 a3.toInt; exact vIt.no (itemAt.ofR (k := r_53) (by omega) (by omega) hnm v111_5 (by omega) (by omega) (by omega)) (okIt.nog (by omega) (by omega)))⟩) dX10_readsItem_332
                      · skip
                        have c_208 : a3.toInt < 4 := q_nle c_208
                        refine lv_aload_n hx hb dX10_readsItem_285 rfl (lv_at hl 3 rfl) ?_
                        refine va_get (D := D) (ci := 9) (v := .int r_53) (C := RX10) (T := TX10) (N := 36) hx hb hts in10 hown hK (va_one at_161) 0 rfl rfl 28 (by decide) (hts (.fieldLink RX10 125 "RiverModelModel" "readKind" "I") (List.mem_of_getElem? (i := 6) rfl)) (fun _ h9 => h9) rfl dX10_readsItem_286 ?_
                        refine lv_aload_n hx hb dX10_readsItem_289 rfl (lv_at hl 3 rfl) ?_
                        refine va_get (D := D) (ci := 9) (v := .ref r_156) (C := RX10) (T := TX10) (N := 36) hx hb hts in10 hown hK (va_one at_161) 0 rfl rfl 32 (by decide) (hts (.fieldLink RX10 74 "RiverModelModel" "readNumber" "[I") (List.mem_of_getElem? (i := 13) rfl)) (fun _ h9 => h9) rfl dX10_readsItem_290 ?_
                        refine lv_iconst (v := 0) hx hb dX10_readsItem_293 (by decide) ?_
                        refine lv_pc (pc2 := 294) rfl ?_
                        have at_213 := mF_o62 hG h_157
                        have b_214 : vp_in 0 3 := (q_in (by decide) (by decide))
                        refine va_iald hx hb hK (va_one at_213) 0 0 rfl rfl b_214 dX10_readsItem_294 ?_
                        refine lv_topi (fun x_215 e_216 => ?_)
                        have w_x_215 : x_215 = n1 0 := by rw [e_216]; rfl
                        have i_x_215 : x_215.toInt = (n1 0).toInt := by rw [w_x_215]
                        refine lv_aload_n hx hb dX10_readsItem_295 rfl (lv_at hl 3 rfl) ?_
                        refine va_get (D := D) (ci := 9) (v := .ref r_156) (C := RX10) (T := TX10) (N := 36) hx hb hts in10 hown hK (va_one at_161) 0 rfl rfl 32 (by decide) (hts (.fieldLink RX10 74 "RiverModelModel" "readNumber" "[I") (List.mem_of_getElem? (i := 13) rfl)) (fun _ h9 => h9) rfl dX10_readsItem_296 ?_
                        refine lv_iconst (v := 1) hx hb dX10_readsItem_299 (by decide) ?_
                        have b_217 : vp_in 1 3 := (q_in (by decide) (by decide))
                        refine va_iald hx hb hK (va_one at_213) 0 0 rfl rfl b_217 dX10_readsItem_300 ?_
                        refine lv_topi (fun x_218 e_219 => ?_)
                        have w_x_218 : x_218 = n1 1 := by rw [e_219]; rfl
                        have i_x_218 : x_218.toInt = (n1 1).toInt := by rw [w_x_218]
                        refine lv_aload_n hx hb dX10_readsItem_301 rfl (lv_at hl 3 rfl) ?_
                        refine va_get (D := D) (ci := 9) (v := .ref r_156) (C := RX10) (T := TX10) (N := 36) hx hb hts in10 hown hK (va_one at_161) 0 rfl rfl 32 (by decide) (hts (.fieldLink RX10 74 "RiverModelModel" "readNumber" "[I") (List.mem_of_getElem? (i := 13) rfl)) (fun _ h9 => h9) rfl dX10_readsItem_302 ?_
                        refine lv_iconst (v := 2) hx hb dX10_readsItem_305 (by decide) ?_
                        refine lv_pc (pc2 := 306) rfl ?_
                        have b_220 : vp_in 2 3 := (q_in (by decide) (by decide))
                        refine va_iald hx hb hK (va_one at_213) 0 0 rfl rfl b_220 dX10_readsItem_306 ?_
                        refine lv_topi (fun x_221 e_222 => ?_)
                        have w_x_221 : x_221 = n1 2 := by rw [e_222]; rfl
                        have i_x_221 : x_221.toInt = (n1 2).toInt := by rw [w_x_221]
                        refine ty_calli (W.runS (As := [.int r_53, .int x_215, .int x_218, .int x_221]) (rest := []) ⟨hx, hb, hml, hown, hts⟩ (m_X10_areWell l D t cI cL cC gC gE gW gA gT gI gS gM K F S N gH gJ e1 r_53 x_85 (-4) g1 gr n1 gb rV rN r_53 x_215 x_218 x_221  uq  ) (va_cwS 4 hts gu_X10_readsItem_X10_areWell_144 rfl rfl rfl (by decide +kernel) ⟨Nat.le_of_ble_eq_true rfl, Nat.le_of_ble_eq_true rfl⟩) (tP_S hG hE) rfl rfl hl.1 rfl (lv_room (Nat.le_of_ble_eq_true rfl)) dX10_readsItem_307 ⟨Nat.le_of_ble_eq_true rfl, Nat.le_of_ble_eq_true rfl⟩) hS (fun k h => by simp [wr0] at h) (fun r_223 H locs hp_224 hG hS o_225 => ?_)
                        have at_161 := va_at.keptC at_161 o_225 k_a0 rfl
                        have at_213 := va_at.keptC at_213 o_225 h_157 rfl
                        have hp_224 : (r_223 = 1 ∧ weOk r_53 x_215 x_218 ∧ well r_53.toInt x_215 x_218 x_221) ∨ (r_223 = 0 ∧ ¬ well r_53.toInt x_215 x_218 x_221) := hp_224
                        rcases hp_224 with ⟨rfl, p_227, p_228⟩ | ⟨rfl, p_229⟩
                        · skip
                          refine lv_if_eq (tgt := 317) hx hb dX10_readsItem_310 (by decide) (fun q => absurd q (by decide)) (fun _ => ?_)
                          refine lv_iconst (v := 1) hx hb dX10_readsItem_313 (by decide) ?_
                          refine lv_goto (tgt := 318) hx hb dX10_readsItem_314 (by decide) ?_
                          refine lv_istore (lv' := [(7, .int 1), (6, .int vj113), (5, .int vj112), (4, .int r_60), (0, .ref a0), (1, .int a1), (2, .int a2), (3, .int a3)]) hx hb dX10_readsItem_318 hl (by decide) rfl (fun ls hl => ?_)
                          refine lv_aload_n hx hb dX10_readsItem_320 rfl (lv_at hl 4 rfl) ?_
                          refine lv_dup hx hb dX10_readsItem_321 rfl ?_
                          refine lv_pc (pc2 := 322) rfl ?_
                          refine va_get (D := D) (ci := 9) (v := .int e1) (C := RX10) (T := TX10) (N := 36) hx hb hts in10 hown hK (va_one at_161) 0 rfl rfl 27 (by decide) (hts (.fieldLink RX10 109 "RiverModelModel" "end" "I") (List.mem_of_getElem? (i := 1) rfl)) (fun _ h9 => h9) rfl dX10_readsItem_322 ?_
                          refine lv_iconst (v := 1) hx hb dX10_readsItem_325 (by decide) ?_
                          refine lv_iadd hx hb dX10_readsItem_326 ?_
                          refine lv_topi (fun x_230 e_231 => ?_)
                          have i_x_230 : x_230.toInt = e1.toInt + 1 := by rw [e_231]; exact (q_add (by rw [show (1 : Int32).toInt = 1 by decide]; omega) (by rw [show (1 : Int32).toInt = 1 by decide]; omega)).trans (by rw [show (1 : Int32).toInt = 1 by decide])
                          refine ty_put (D := D) (ci := 9) (v := .int x_230) (ty := .int) (C := RX10) (T := TX10) (N := 36) (F2 := (mF cI cL cC gC gE gW gA gT gI gS gM K F S N gH gJ x_230 r_53 x_85 (-4) g1 gr n1 gb rV rN)) hx hb hts in10 tyX10 tyX10_ok nmX10 hown hK hG hS at_161 (by rw [k_a0]; rfl) rfl 27 (by decide) (hts (.fieldLink RX10 109 "RiverModelModel" "end" "I") (List.mem_of_getElem? (i := 1) rfl)) (fun _ h9 => h9) rfl (by decide +kernel) rfl rfl (Nat.le_of_ble_eq_true rfl) (by rw [k_a0]; exact ⟨r_114, r_116, r_118, r_120, r_122, r_124, r_126, r_128, r_130, r_132, r_134, r_136, r_138, r_140, r_142, r_144, r_146, r_148, r_150, r_152, r_154, r_156, v_158, r_159, rfl, h_115, h_117, h_119, h_121, h_123, h_125, h_127, h_129, h_131, h_133, h_135, h_137, h_139, h_141, h_143, h_145, h_147, h_149, h_151, h_153, h_155, h_157, h_160⟩) (fun hG b hb h0 => by obtain ⟨e, g1, g2⟩ := hG b h0; exact ⟨e, g1, mF_ge (fun h => hb (uq b a0 (h.trans k_a0.symm) h0)) g2⟩) dX10_readsItem_327 (fun H locs hG hS at_232 o_233 => ?_)
                          have at_232 : va_at D vwCl (a0, .inr (9, [.int gC, .ref r_114, .int gb, .int gI, .ref r_116, .ref r_118, .ref r_120, .ref r_122, .int gS, .ref r_124, .ref r_126, .ref r_128, .ref r_130, .int gM, .ref r_132, .ref r_134, .ref r_136, .int gE, .ref r_138, .ref r_140, .ref r_142, .ref r_144, .ref r_146, .ref r_148, .ref r_150, .ref r_152, .ref r_154, .int x_230, .int r_53, .int x_85, .int (-4), .int g1, .ref r_156, .int gr, .int v_158, .ref r_159])) H := at_232
                          have at_213 := va_at.keptK at_213 o_233 k_a0 h_157 rfl
                          refine lv_iload hx hb dX10_readsItem_330 (lv_at hl 0 rfl) ?_
                          exact tx_zret (z := (x_230, r_53, x_85, -4, g1, n1)) hx hb hr hlk rfl hG hS (Or.inl ⟨rfl, (by show a1.toInt < x_230.toInt; omega), (by show x_230.toInt ≤ a1.toInt + 40; omega), (by show itOk r_53 x_85 ((-4) : Int32) (n1 0) (n1 1); exact ⟨by omega, by omega, by omega, by omega, fun q => by have := p_227.1 (by omega); omega, fun q => by have := p_227.2 (by omega); omega⟩), (by show nmOk r_53 x_85 a2; exact nmOk.of fj112_2 (by omega)), (by show itemAt (byT gT gC) a1.toInt r_53 x_85 ((-4) : Int32) (n1 0) (n1 1) (n1 2) x_230.toInt; exact (itemAt.ofR (k := r_53) (by omega) (by omega) hnm v111_5 (by omega) (by omega) (by omega))), (by show okIt a2 a3.toInt r_53 x_85 ((-4) : Int32) (n1 0) (n1 1) (n1 2); exact okIt.of (by rw [← w_x_215, ← w_x_218, ← w_x_221]; exact p_228) fj112_2 fj113_2 (by omega) (by omega) (fun q => by omega))⟩) dX10_readsItem_332
                        · skip
                          refine lv_if_eq (tgt := 317) hx hb dX10_readsItem_310 (by decide) (fun _ => ?_) (fun q => absurd (by decide) q)
                          refine lv_iconst (v := 0) hx hb dX10_readsItem_317 (by decide) ?_
                          refine lv_pc (pc2 := 318) rfl ?_
                          refine lv_istore (lv' := [(7, .int 0), (6, .int vj113), (5, .int vj112), (4, .int r_60), (0, .ref a0), (1, .int a1), (2, .int a2), (3, .int a3)]) hx hb dX10_readsItem_318 hl (by decide) rfl (fun ls hl => ?_)
                          refine lv_aload_n hx hb dX10_readsItem_320 rfl (lv_at hl 4 rfl) ?_
                          refine lv_dup hx hb dX10_readsItem_321 rfl ?_
                          refine va_get (D := D) (ci := 9) (v := .int e1) (C := RX10) (T := TX10) (N := 36) hx hb hts in10 hown hK (va_one at_161) 0 rfl rfl 27 (by decide) (hts (.fieldLink RX10 109 "RiverModelModel" "end" "I") (List.mem_of_getElem? (i := 1) rfl)) (fun _ h9 => h9) rfl dX10_readsItem_322 ?_
                          refine lv_iconst (v := 1) hx hb dX10_readsItem_325 (by decide) ?_
                          refine lv_iadd hx hb dX10_readsItem_326 ?_
                          refine lv_topi (fun x_234 e_235 => ?_)
                          have i_x_234 : x_234.toInt = e1.toInt + 1 := by rw [e_235]; exact (q_add (by rw [show (1 : Int32).toInt = 1 by decide]; omega) (by rw [show (1 : Int32).toInt = 1 by decide]; omega)).trans (by rw [show (1 : Int32).toInt = 1 by decide])
                          refine ty_put (D := D) (ci := 9) (v := .int x_234) (ty := .int) (C := RX10) (T := TX10) (N := 36) (F2 := (mF cI cL cC gC gE gW gA gT gI gS gM K F S N gH gJ x_234 r_53 x_85 (-4) g1 gr n1 gb rV rN)) hx hb hts in10 tyX10 tyX10_ok nmX10 hown hK hG hS at_161 (by rw [k_a0]; rfl) rfl 27 (by decide) (hts (.fieldLink RX10 109 "RiverModelModel" "end" "I") (List.mem_of_getElem? (i := 1) rfl)) (fun _ h9 => h9) rfl (by decide +kernel) rfl rfl (Nat.le_of_ble_eq_true rfl) (by rw [k_a0]; exact ⟨r_114, r_116, r_118, r_120, r_122, r_124, r_126, r_128, r_130, r_132, r_134, r_136, r_138, r_140, r_142, r_144, r_146, r_148, r_150, r_152, r_154, r_156, v_158, r_159, rfl, h_115, h_117, h_119, h_121, h_123, h_125, h_127, h_129, h_131, h_133, h_135, h_137, h_139, h_141, h_143, h_145, h_147, h_149, h_151, h_153, h_155, h_157, h_160⟩) (fun hG b hb h0 => by obtain ⟨e, g1, g2⟩ := hG b h0; exact ⟨e, g1, mF_ge (fun h => hb (uq b a0 (h.trans k_a0.symm) h0)) g2⟩) dX10_readsItem_327 (fun H locs hG hS at_236 o_237 => ?_)
                          have at_236 : va_at D vwCl (a0, .inr (9, [.int gC, .ref r_114, .int gb, .int gI, .ref r_116, .ref r_118, .ref r_120, .ref r_122, .int gS, .ref r_124, .ref r_126, .ref r_128, .ref r_130, .int gM, .ref r_132, .ref r_134, .ref r_136, .int gE, .ref r_138, .ref r_140, .ref r_142, .ref r_144, .ref r_146, .ref r_148, .ref r_150, .ref r_152, .ref r_154, .int x_234, .int r_53, .int x_85, .int (-4), .int g1, .ref r_156, .int gr, .int v_158, .ref r_159])) H := at_236
                          have at_213 := va_at.keptK at_213 o_237 k_a0 h_157 rfl
                          refine lv_iload hx hb dX10_readsItem_330 (lv_at hl 0 rfl) ?_
                          refine lv_pc (pc2 := 332) rfl ?_
                          exact tx_zret (z := (x_234, r_53, x_85, -4, g1, n1)) hx hb hr hlk rfl hG hS (Or.inr ⟨rfl, (by show noVit (byT gT gC) a1.toInt a2 a3.toInt; exact vIt.no (itemAt.ofR (k := r_53) (by omega) (by omega) hnm v111_5 (by omega) (by omega) (by omega)) (okIt.now (by rw [← w_x_215, ← w_x_218, ← w_x_221]; exact p_229)))⟩) dX10_readsItem_332
            refine (hWW113 _ _ _).mpr ?_
            refine lv_aload_n hx hb dX10_readsItem_211 rfl (lv_at hl 2 rfl) ?_
            obtain ⟨r_238, r_240, r_242, r_244, r_246, r_248, r_250, r_252, r_254, r_256, r_258, r_260, r_262, r_264, r_266, r_268, r_270, r_272, r_274, r_276, r_278, r_280, v_282, r_283, at_285, h_239, h_241, h_243, h_245, h_247, h_249, h_251, h_253, h_255, h_257, h_259, h_261, h_263, h_265, h_267, h_269, h_271, h_273, h_275, h_277, h_279, h_281, h_284⟩ := mF_o40 hG k_a0
            refine va_get (D := D) (ci := 9) (v := .int (-4)) (C := RX10) (T := TX10) (N := 36) hx hb hts in10 hown hK (va_one at_285) 0 rfl rfl 30 (by decide) (hts (.fieldLink RX10 138 "RiverModelModel" "readSecond" "I") (List.mem_of_getElem? (i := 12) rfl)) (fun _ h9 => h9) rfl dX10_readsItem_212 ?_
            refine lv_if_lt (tgt := 241) hx hb dX10_readsItem_215 (by decide) (fun _ => ?_) (fun q => absurd (by decide) q)
            refine lv_iconst (v := 1) hx hb dX10_readsItem_241 (by decide) ?_
            refine lv_goto (tgt := 246) hx hb dX10_readsItem_242 (by decide) ?_
            exact (hWW113 _ _ _).mp (jn113 1 (by omega) (by omega) (by show twoQ (1 : Int32).toInt ((-4) : Int32).toInt x_85.toInt (bitI a2 ((-4) : Int32)).toInt; unfold twoQ; omega))
          refine (hWW112 _ _ _).mpr ?_
          refine lv_iload_n hx hb dX10_readsItem_179 rfl (lv_at hl 4 rfl) ?_
          refine lv_aload_n hx hb dX10_readsItem_180 rfl (lv_at hl 2 rfl) ?_
          refine lv_pc (pc2 := 181) rfl ?_
          obtain ⟨r_286, r_288, r_290, r_292, r_294, r_296, r_298, r_300, r_302, r_304, r_306, r_308, r_310, r_312, r_314, r_316, r_318, r_320, r_322, r_324, r_326, r_328, v_330, r_331, at_333, h_287, h_289, h_291, h_293, h_295, h_297, h_299, h_301, h_303, h_305, h_307, h_309, h_311, h_313, h_315, h_317, h_319, h_321, h_323, h_325, h_327, h_329, h_332⟩ := mF_o40 hG k_a0
          refine va_get (D := D) (ci := 9) (v := .int x_85) (C := RX10) (T := TX10) (N := 36) hx hb hts in10 hown hK (va_one at_333) 0 rfl rfl 29 (by decide) (hts (.fieldLink RX10 135 "RiverModelModel" "readFirst" "I") (List.mem_of_getElem? (i := 11) rfl)) (fun _ h9 => h9) rfl dX10_readsItem_181 ?_
          refine lv_ishr hx hb dX10_readsItem_184 ?_
          refine lv_topi (fun x_334 e_335 => ?_)
          refine lv_iconst (v := 1) hx hb dX10_readsItem_185 (by decide) ?_
          refine lv_iand hx hb dX10_readsItem_186 ?_
          refine lv_topi (fun x_336 e_337 => ?_)
          have w_x_336 : x_336 = bitI a2 x_85 := by rw [e_337, e_335]; rfl
          have i_x_336 : x_336.toInt = (bitI a2 x_85).toInt := by rw [w_x_336]
          refine lv_aload_n hx hb dX10_readsItem_187 rfl (lv_at hl 2 rfl) ?_
          refine va_get (D := D) (ci := 9) (v := .int r_53) (C := RX10) (T := TX10) (N := 36) hx hb hts in10 hown hK (va_one at_333) 0 rfl rfl 28 (by decide) (hts (.fieldLink RX10 125 "RiverModelModel" "readKind" "I") (List.mem_of_getElem? (i := 6) rfl)) (fun _ h9 => h9) rfl dX10_readsItem_188 ?_
          refine lv_bipush (v := 115) hx hb dX10_readsItem_191 (by decide) ?_
          refine lv_icmp_ne (tgt := 200) hx hb dX10_readsItem_193 (by decide) (fun c_338 => ?_) (fun c_338 => ?_)
          · skip
            have c_338 : r_53.toInt ≠ 115 := q_ne c_338
            refine lv_pc (pc2 := 200) rfl ?_
            refine lv_iconst (v := 1) hx hb dX10_readsItem_200 (by decide) ?_
            refine lv_icmp_ne (tgt := 208) hx hb dX10_readsItem_201 (by decide) (fun c_339 => ?_) (fun c_339 => ?_)
            · skip
              have c_339 : x_336.toInt ≠ 1 := q_ne c_339
              refine lv_iconst (v := 0) hx hb dX10_readsItem_208 (by decide) ?_
              exact (hWW112 _ _ _).mp (jn112 0 (by omega) (by omega) (by show oneQ (0 : Int32).toInt r_53.toInt (bitI a2 x_85).toInt; unfold oneQ; have := bit_01 a2 (f := x_85) (by omega) (by omega); omega))
            · skip
              have c_339 : x_336.toInt = 1 := q_eq c_339
              refine lv_iconst (v := 1) hx hb dX10_readsItem_204 (by decide) ?_
              refine lv_goto (tgt := 209) hx hb dX10_readsItem_205 (by decide) ?_
              exact (hWW112 _ _ _).mp (jn112 1 (by omega) (by omega) (by show oneQ (1 : Int32).toInt r_53.toInt (bitI a2 x_85).toInt; unfold oneQ; have := bit_01 a2 (f := x_85) (by omega) (by omega); omega))
          · skip
            have c_338 : r_53.toInt = 115 := q_eq c_338
            refine lv_iconst (v := 0) hx hb dX10_readsItem_196 (by decide) ?_
            refine lv_goto (tgt := 201) hx hb dX10_readsItem_197 (by decide) ?_
            refine lv_icmp_ne (tgt := 208) hx hb dX10_readsItem_201 (by decide) (fun c_340 => ?_) (fun c_340 => ?_)
            · skip
              have c_340 : x_336.toInt ≠ 0 := q_ne c_340
              refine lv_pc (pc2 := 208) rfl ?_
              refine lv_iconst (v := 0) hx hb dX10_readsItem_208 (by decide) ?_
              exact (hWW112 _ _ _).mp (jn112 0 (by omega) (by omega) (by show oneQ (0 : Int32).toInt r_53.toInt (bitI a2 x_85).toInt; unfold oneQ; have := bit_01 a2 (f := x_85) (by omega) (by omega); omega))
            · skip
              have c_340 : x_336.toInt = 0 := q_eq c_340
              refine lv_iconst (v := 1) hx hb dX10_readsItem_204 (by decide) ?_
              refine lv_goto (tgt := 209) hx hb dX10_readsItem_205 (by decide) ?_
              exact (hWW112 _ _ _).mp (jn112 1 (by omega) (by omega) (by show oneQ (1 : Int32).toInt r_53.toInt (bitI a2 x_85).toInt; unfold oneQ; have := bit_01 a2 (f := x_85) (by omega) (by omega); omega))
        have lp111 : ∀ (kk111 : Nat) (yi : Int32) (e1 : Int32) (g1 : Int32) (n1 : Nat → Int32) (H1 : Heap) (locs1 : List Loc) (ls1 : Array Slot), 3 - yi.toInt ≤ (kk111 : Int) → (0 ≤ yi.toInt) → (yi.toInt ≤ 3) → (a1.toInt < e1.toInt) → (e1.toInt ≤ a1.toInt + 3 + 9 * yi.toInt) → (yi.toInt ≤ shp (byT gT gC a1.toInt) % 10) → (numsR (byT gT gC) (a1.toInt + 2) yi.toInt 0 n1 e1.toInt) → tG D (mF cI cL cC gC gE gW gA gT gI gS gM K F S N gH gJ e1 r_53 x_85 (-4) g1 gr n1 gb rV rN) t H1 → tF t wP s.heap H1 locs1 → lv_has ls1 8 [(5, .int yi), (4, .int r_60), (0, .ref a0), (1, .int a1), (2, .int a2), (3, .int a3)] → WW111 H1 locs1 (F0 m 152 ls1 []) := by
          intro kk111
          induction kk111 with
          | zero =>
            intro yi e1 g1 n1 H locs ls hk111 v111_0 v111_1 v111_2 v111_3 v111_4 v111_5 hG hS hl
            refine (hWW111 _ _ _).mpr ?_
            refine lv_iload hx hb dX10_readsItem_152 (lv_at hl 0 rfl) ?_
            refine lv_iload hx hb dX10_readsItem_154 (lv_at hl 1 rfl) ?_
            refine lv_bipush (v := 10) hx hb dX10_readsItem_156 (by decide) ?_
            refine lv_irem hx hb dX10_readsItem_158 (by decide) ?_
            refine lv_topi (fun x_341 e_342 => ?_)
            have i_x_341 : x_341.toInt = r_60.toInt % 10 := by rw [e_342]; exact q_remE (n := 10) rfl (by decide) (by omega)
            refine lv_icmp_ge (tgt := 179) hx hb dX10_readsItem_159 (by decide) (fun c_343 => ?_) (fun c_343 => ?_)
            · skip
              have c_343 : x_341.toInt ≤ yi.toInt := q_le c_343
              exact (hWW111 _ _ _).mp (kx111 yi e1 g1 n1 H locs ls v111_0 v111_1 v111_2 v111_3 v111_4 v111_5 (by omega) hG hS (lv_sub hl [0, 1, 2, 3, 4, 5] rfl))
            · skip
              have c_343 : yi.toInt < x_341.toInt := q_nle c_343
              exfalso; omega
          | succ kk111 ih111 =>
            intro yi e1 g1 n1 H locs ls hk111 v111_0 v111_1 v111_2 v111_3 v111_4 v111_5 hG hS hl
            refine (hWW111 _ _ _).mpr ?_
            refine lv_pc (pc2 := 152) rfl ?_
            refine lv_iload hx hb dX10_readsItem_152 (lv_at hl 0 rfl) ?_
            refine lv_iload hx hb dX10_readsItem_154 (lv_at hl 1 rfl) ?_
            refine lv_bipush (v := 10) hx hb dX10_readsItem_156 (by decide) ?_
            refine lv_irem hx hb dX10_readsItem_158 (by decide) ?_
            refine lv_topi (fun x_344 e_345 => ?_)
            have i_x_344 : x_344.toInt = r_60.toInt % 10 := by rw [e_345]; exact q_remE (n := 10) rfl (by decide) (by omega)
            refine lv_icmp_ge (tgt := 179) hx hb dX10_readsItem_159 (by decide) (fun c_346 => ?_) (fun c_346 => ?_)
            · skip
              have c_346 : x_344.toInt ≤ yi.toInt := q_le c_346
              exact (hWW111 _ _ _).mp (kx111 yi e1 g1 n1 H locs ls v111_0 v111_1 v111_2 v111_3 v111_4 v111_5 (by omega) hG hS (lv_sub hl [0, 1, 2, 3, 4, 5] rfl))
            · skip
              have c_346 : yi.toInt < x_344.toInt := q_nle c_346
              refine lv_aload_n hx hb dX10_readsItem_162 rfl (lv_at hl 2 rfl) ?_
              refine lv_iload hx hb dX10_readsItem_163 (lv_at hl 0 rfl) ?_
              obtain ⟨r_347, r_349, r_351, r_353, r_355, r_357, r_359, r_361, r_363, r_365, r_367, r_369, r_371, r_373, r_375, r_377, r_379, r_381, r_383, r_385, r_387, r_389, v_391, r_392, at_394, h_348, h_350, h_352, h_354, h_356, h_358, h_360, h_362, h_364, h_366, h_368, h_370, h_372, h_374, h_376, h_378, h_380, h_382, h_384, h_386, h_388, h_390, h_393⟩ := mF_o40 hG k_a0
              refine tx_calli (W.runV (As := [.int yi]) (rest := []) ⟨hx, hb, hml, hown, hts⟩ (m_X10_readsNumber l D t cI cL cC gC gE gW gA gT gI gS gM K F S N gH gJ e1 r_53 x_85 (-4) g1 gr n1 gb rV rN a0 yi  uq (by omega) (by omega) (by omega) (by omega) (by omega) (by omega) k_a0) (cwV 1 hts gu_X10_readsItem_X10_readsNumber_141 rfl rfl rfl (by decide +kernel) ⟨Nat.le_of_ble_eq_true rfl, Nat.le_of_ble_eq_true rfl⟩) (tP_V hG hE at_394 rfl) rfl rfl hl.1 rfl (lv_room (Nat.le_of_ble_eq_true rfl)) dX10_readsItem_165 ⟨Nat.le_of_ble_eq_true rfl, Nat.le_of_ble_eq_true rfl⟩) hS (fun _ h => h) (fun r_395 zz_398 H locs hp_396 hG hS o_397 => ?_)
              obtain ⟨ge_399, gg_400, RN_401⟩ := zz_398
              replace hG : tG D (mF cI cL cC gC gE gW gA gT gI gS gM K F S N gH gJ ge_399 r_53 x_85 (-4) gg_400 gr RN_401 gb rV rN) t H := hG
              have hp_396 : (r_395 = 1 ∧ e1.toInt < ge_399.toInt ∧ ge_399.toInt ≤ e1.toInt + 9 ∧ numR (byT gT gC) e1.toInt ge_399.toInt n1 RN_401 yi.toInt.toNat) ∨ (r_395 = 0 ∧ noNum (byT gT gC) e1.toInt) := hp_396
              rcases hp_396 with ⟨rfl, p_402, p_403, p_404⟩ | ⟨rfl, p_405⟩
              · skip
                refine lv_pc (pc2 := 168) rfl ?_
                refine lv_if_ne (tgt := 173) hx hb dX10_readsItem_168 (by decide) (fun _ => ?_) (fun q => absurd q (by decide))
                obtain ⟨x_406, e_407⟩ : ∃ y : Int32, y = yi + Int32.ofInt 1 := ⟨_, rfl⟩
                have i_x_406 : x_406.toInt = yi.toInt + 1 := by rw [e_407, show Int32.ofInt 1 = 1 by decide]; exact (q_add (by rw [show (1 : Int32).toInt = 1 by decide]; omega) (by rw [show (1 : Int32).toInt = 1 by decide]; omega)).trans (by rw [show (1 : Int32).toInt = 1 by decide])
                refine lv_iinc (v := x_406) (lv' := [(5, .int x_406), (4, .int r_60), (0, .ref a0), (1, .int a1), (2, .int a2), (3, .int a3)]) hx hb dX10_readsItem_173 hl (k := 0) rfl e_407.symm (by decide) rfl (fun ls hl => ?_)
                refine lv_goto (tgt := 152) hx hb dX10_readsItem_176 (by decide) ?_
                exact (hWW111 _ _ _).mp (ih111 x_406 ge_399 gg_400 RN_401 H locs ls (by omega) (by omega) (by omega) (by omega) (by omega) (by omega) (numsR.step v111_5 p_404 (by omega) (by omega) (by omega)) hG hS (lv_sub hl [0, 1, 2, 3, 4, 5] rfl))
              · skip
                refine lv_if_ne (tgt := 173) hx hb dX10_readsItem_168 (by decide) (fun q => absurd rfl q) (fun _ => ?_)
                refine lv_iconst (v := 0) hx hb dX10_readsItem_171 (by decide) ?_
                exact tx_zret (z := (ge_399, r_53, x_85, -4, gg_400, RN_401)) hx hb hr hlk rfl hG hS (Or.inr ⟨rfl, (by show noVit (byT gT gC) a1.toInt a2 a3.toInt; exact noItem.v (noItem.numN hnm (noNums.of v111_5 p_405) (by omega)))⟩) dX10_readsItem_172
        exact lp111 (3 - (0 : Int32).toInt : Int).toNat 0 x_91 gg q_108 H locs ls (by omega) (by omega) (by omega) (by omega) (by omega) (by omega) (by rw [zi_0]; exact numsR.zero (by rw [eq_108, eq_103, eq_98]; rfl) (by rw [eq_108, eq_103, eq_98]; rfl) (by rw [eq_108, eq_103, eq_98]; rfl) (by omega)) hG hS (lv_sub hl [0, 1, 2, 3, 4, 5] rfl)
      · skip
        have c_95 : 19 < r_60.toInt := q_nle c_95
        refine lv_aload_n hx hb dX10_readsItem_84 rfl (lv_at hl 1 rfl) ?_
        refine lv_aload_n hx hb dX10_readsItem_85 rfl (lv_at hl 1 rfl) ?_
        refine lv_pc (pc2 := 86) rfl ?_
        refine va_get (D := D) (ci := 9) (v := .int x_91) (C := RX10) (T := TX10) (N := 36) hx hb hts in10 hown hK (va_one at_93) 0 rfl rfl 27 (by decide) (hts (.fieldLink RX10 109 "RiverModelModel" "end" "I") (List.mem_of_getElem? (i := 1) rfl)) (fun _ h9 => h9) rfl dX10_readsItem_86 ?_
        refine ty_calli (W.runV (As := [.int x_91]) (rest := []) ⟨hx, hb, hml, hown, hts⟩ (m_X10_byteAt l D t cI cL cC gC gE gW gA gT gI gS gM K F S N gH gJ x_91 r_53 x_85 (-4) gg gr RN gb rV rN a0 x_91 (a1.toInt + 2) uq (by omega) (by omega) (by omega) (by omega) k_a0) (cwV 1 hts gu_X10_readsItem_X10_byteAt_112 rfl rfl rfl (by decide +kernel) ⟨Nat.le_of_ble_eq_true rfl, Nat.le_of_ble_eq_true rfl⟩) (tP_V hG hE at_93 rfl) rfl rfl hl.1 rfl (lv_room (Nat.le_of_ble_eq_true rfl)) dX10_readsItem_89 ⟨Nat.le_of_ble_eq_true rfl, Nat.le_of_ble_eq_true rfl⟩) hS (fun k h => by simp [wr0] at h) (fun r_408 H locs hp_409 hG hS o_410 => ?_)
        have at_93 := va_at.keptC at_93 o_410 k_a0 rfl
        have hp_409 : r_408.toInt = byT gT gC (a1.toInt + 2) := hp_409
        have p_412 := hp_409
        refine ty_calli (W.runS (As := [.int r_408]) (rest := []) ⟨hx, hb, hml, hown, hts⟩ (m_X10_isName l D t cI cL cC gC gE gW gA gT gI gS gM K F S N gH gJ x_91 r_53 x_85 (-4) gg gr RN gb rV rN r_408  uq  ) (va_cwS 1 hts gu_X10_readsItem_X10_isName_131 rfl rfl rfl (by decide +kernel) ⟨Nat.le_of_ble_eq_true rfl, Nat.le_of_ble_eq_true rfl⟩) (tP_S hG hE) rfl rfl hl.1 rfl (lv_room (Nat.le_of_ble_eq_true rfl)) dX10_readsItem_92 ⟨Nat.le_of_ble_eq_true rfl, Nat.le_of_ble_eq_true rfl⟩) hS (fun k h => by simp [wr0] at h) (fun r_413 H locs hp_414 hG hS o_415 => ?_)
        have at_93 := va_at.keptC at_93 o_415 k_a0 rfl
        have hp_414 : (r_413 = 1 ∧ 97 ≤ r_408.toInt ∧ r_408.toInt ≤ 112) ∨ (r_413 = 0 ∧ (r_408.toInt < 97 ∨ 112 < r_408.toInt)) := hp_414
        rcases hp_414 with ⟨rfl, p_417, p_418⟩ | ⟨rfl, p_419⟩
        · skip
          refine lv_if_ne (tgt := 100) hx hb dX10_readsItem_95 (by decide) (fun _ => ?_) (fun q => absurd q (by decide))
          refine lv_aload_n hx hb dX10_readsItem_100 rfl (lv_at hl 1 rfl) ?_
          refine lv_aload_n hx hb dX10_readsItem_101 rfl (lv_at hl 1 rfl) ?_
          refine lv_aload_n hx hb dX10_readsItem_102 rfl (lv_at hl 1 rfl) ?_
          refine va_get (D := D) (ci := 9) (v := .int x_91) (C := RX10) (T := TX10) (N := 36) hx hb hts in10 hown hK (va_one at_93) 0 rfl rfl 27 (by decide) (hts (.fieldLink RX10 109 "RiverModelModel" "end" "I") (List.mem_of_getElem? (i := 1) rfl)) (fun _ h9 => h9) rfl dX10_readsItem_103 ?_
          refine lv_pc (pc2 := 106) rfl ?_
          refine ty_calli (W.runV (As := [.int x_91]) (rest := [.ref a0]) ⟨hx, hb, hml, hown, hts⟩ (m_X10_byteAt l D t cI cL cC gC gE gW gA gT gI gS gM K F S N gH gJ x_91 r_53 x_85 (-4) gg gr RN gb rV rN a0 x_91 (a1.toInt + 2) uq (by omega) (by omega) (by omega) (by omega) k_a0) (cwV 1 hts gu_X10_readsItem_X10_byteAt_112 rfl rfl rfl (by decide +kernel) ⟨Nat.le_of_ble_eq_true rfl, Nat.le_of_ble_eq_true rfl⟩) (tP_V hG hE at_93 rfl) rfl rfl hl.1 rfl (lv_room (Nat.le_of_ble_eq_true rfl)) dX10_readsItem_106 ⟨Nat.le_of_ble_eq_true rfl, Nat.le_of_ble_eq_true rfl⟩) hS (fun k h => by simp [wr0] at h) (fun r_420 H locs hp_421 hG hS o_422 => ?_)
          have at_93 := va_at.keptC at_93 o_422 k_a0 rfl
          have hp_421 : r_420.toInt = byT gT gC (a1.toInt + 2) := hp_421
          have p_424 := hp_421
          refine lv_bipush (v := 97) hx hb dX10_readsItem_109 (by decide) ?_
          refine lv_isub hx hb dX10_readsItem_111 ?_
          refine lv_topi (fun x_425 e_426 => ?_)
          have i_x_425 : x_425.toInt = r_420.toInt - 97 := by rw [e_426]; exact (q_sub (by rw [show (97 : Int32).toInt = 97 by decide]; omega) (by rw [show (97 : Int32).toInt = 97 by decide]; omega)).trans (by rw [show (97 : Int32).toInt = 97 by decide])
          refine ty_put (D := D) (ci := 9) (v := .int x_425) (ty := .int) (C := RX10) (T := TX10) (N := 36) (F2 := (mF cI cL cC gC gE gW gA gT gI gS gM K F S N gH gJ x_91 r_53 x_85 x_425 gg gr RN gb rV rN)) hx hb hts in10 tyX10 tyX10_ok nmX10 hown hK hG hS at_93 (by rw [k_a0]; rfl) rfl 30 (by decide) (hts (.fieldLink RX10 138 "RiverModelModel" "readSecond" "I") (List.mem_of_getElem? (i := 12) rfl)) (fun _ h9 => h9) rfl (by decide +kernel) rfl rfl (Nat.le_of_ble_eq_true rfl) (by rw [k_a0]; exact ⟨r_3, r_5, r_7, r_9, r_11, r_13, r_15, r_17, r_19, r_21, r_23, r_25, r_27, r_29, r_31, r_33, r_35, r_37, r_39, r_41, r_43, r_45, v_47, r_48, rfl, h_4, h_6, h_8, h_10, h_12, h_14, h_16, h_18, h_20, h_22, h_24, h_26, h_28, h_30, h_32, h_34, h_36, h_38, h_40, h_42, h_44, h_46, h_49⟩) (fun hG b hb h0 => by obtain ⟨e, g1, g2⟩ := hG b h0; exact ⟨e, g1, mF_gs (fun h => hb (uq b a0 (h.trans k_a0.symm) h0)) g2⟩) dX10_readsItem_112 (fun H locs hG hS at_427 o_428 => ?_)
          have at_427 : va_at D vwCl (a0, .inr (9, [.int gC, .ref r_3, .int gb, .int gI, .ref r_5, .ref r_7, .ref r_9, .ref r_11, .int gS, .ref r_13, .ref r_15, .ref r_17, .ref r_19, .int gM, .ref r_21, .ref r_23, .ref r_25, .int gE, .ref r_27, .ref r_29, .ref r_31, .ref r_33, .ref r_35, .ref r_37, .ref r_39, .ref r_41, .ref r_43, .int x_91, .int r_53, .int x_85, .int x_425, .int gg, .ref r_45, .int gr, .int v_47, .ref r_48])) H := at_427
          refine lv_aload_n hx hb dX10_readsItem_115 rfl (lv_at hl 1 rfl) ?_
          refine lv_dup hx hb dX10_readsItem_116 rfl ?_
          refine va_get (D := D) (ci := 9) (v := .int x_91) (C := RX10) (T := TX10) (N := 36) hx hb hts in10 hown hK (va_one at_427) 0 rfl rfl 27 (by decide) (hts (.fieldLink RX10 109 "RiverModelModel" "end" "I") (List.mem_of_getElem? (i := 1) rfl)) (fun _ h9 => h9) rfl dX10_readsItem_117 ?_
          refine lv_iconst (v := 1) hx hb dX10_readsItem_120 (by decide) ?_
          refine lv_pc (pc2 := 121) rfl ?_
          refine lv_iadd hx hb dX10_readsItem_121 ?_
          refine lv_topi (fun x_429 e_430 => ?_)
          have i_x_429 : x_429.toInt = x_91.toInt + 1 := by rw [e_430]; exact (q_add (by rw [show (1 : Int32).toInt = 1 by decide]; omega) (by rw [show (1 : Int32).toInt = 1 by decide]; omega)).trans (by rw [show (1 : Int32).toInt = 1 by decide])
          refine ty_put (D := D) (ci := 9) (v := .int x_429) (ty := .int) (C := RX10) (T := TX10) (N := 36) (F2 := (mF cI cL cC gC gE gW gA gT gI gS gM K F S N gH gJ x_429 r_53 x_85 x_425 gg gr RN gb rV rN)) hx hb hts in10 tyX10 tyX10_ok nmX10 hown hK hG hS at_427 (by rw [k_a0]; rfl) rfl 27 (by decide) (hts (.fieldLink RX10 109 "RiverModelModel" "end" "I") (List.mem_of_getElem? (i := 1) rfl)) (fun _ h9 => h9) rfl (by decide +kernel) rfl rfl (Nat.le_of_ble_eq_true rfl) (by rw [k_a0]; exact ⟨r_3, r_5, r_7, r_9, r_11, r_13, r_15, r_17, r_19, r_21, r_23, r_25, r_27, r_29, r_31, r_33, r_35, r_37, r_39, r_41, r_43, r_45, v_47, r_48, rfl, h_4, h_6, h_8, h_10, h_12, h_14, h_16, h_18, h_20, h_22, h_24, h_26, h_28, h_30, h_32, h_34, h_36, h_38, h_40, h_42, h_44, h_46, h_49⟩) (fun hG b hb h0 => by obtain ⟨e, g1, g2⟩ := hG b h0; exact ⟨e, g1, mF_ge (fun h => hb (uq b a0 (h.trans k_a0.symm) h0)) g2⟩) dX10_readsItem_122 (fun H locs hG hS at_431 o_432 => ?_)
          have at_431 : va_at D vwCl (a0, .inr (9, [.int gC, .ref r_3, .int gb, .int gI, .ref r_5, .ref r_7, .ref r_9, .ref r_11, .int gS, .ref r_13, .ref r_15, .ref r_17, .ref r_19, .int gM, .ref r_21, .ref r_23, .ref r_25, .int gE, .ref r_27, .ref r_29, .ref r_31, .ref r_33, .ref r_35, .ref r_37, .ref r_39, .ref r_41, .ref r_43, .int x_429, .int r_53, .int x_85, .int x_425, .int gg, .ref r_45, .int gr, .int v_47, .ref r_48])) H := at_431
          refine lv_iconst (v := 0) hx hb dX10_readsItem_125 (by decide) ?_
          refine lv_istore (lv' := [(5, .int 0), (4, .int r_60), (0, .ref a0), (1, .int a1), (2, .int a2), (3, .int a3)]) hx hb dX10_readsItem_126 hl (by decide) rfl (fun ls hl => ?_)
          refine lv_iload hx hb dX10_readsItem_128 (lv_at hl 0 rfl) ?_
          refine lv_iconst (v := 3) hx hb dX10_readsItem_130 (by decide) ?_
          refine lv_icmp_ge (tgt := 149) hx hb dX10_readsItem_131 (by decide) (fun q => absurd q (by decide)) (fun _ => ?_)
          refine lv_aload_n hx hb dX10_readsItem_134 rfl (lv_at hl 2 rfl) ?_
          refine lv_pc (pc2 := 135) rfl ?_
          refine va_get (D := D) (ci := 9) (v := .ref r_45) (C := RX10) (T := TX10) (N := 36) hx hb hts in10 hown hK (va_one at_431) 0 rfl rfl 32 (by decide) (hts (.fieldLink RX10 74 "RiverModelModel" "readNumber" "[I") (List.mem_of_getElem? (i := 13) rfl)) (fun _ h9 => h9) rfl dX10_readsItem_135 ?_
          refine lv_iload hx hb dX10_readsItem_138 (lv_at hl 0 rfl) ?_
          refine lv_bipush (v := (-4)) hx hb dX10_readsItem_140 (by decide) ?_
          have at_433 := mF_o62 hG h_46
          have b_434 : vp_in 0 3 := (q_in (by decide) (by decide))
          have zi_0 : (0 : Int32).toInt = 0 := by decide
          obtain ⟨q_435, eq_435⟩ : ∃ q : Nat → Int32, q = upd RN (0 : Int32).toNatClampNeg (-4) := ⟨_, rfl⟩
          refine ty_iast (F2 := (mF cI cL cC gC gE gW gA gT gI gS gM K F S N gH gJ x_429 r_53 x_85 x_425 gg gr q_435 gb rV rN)) hx hb hK hG hS 0 at_433 (by rw [h_46]; rfl) rfl b_434 (by rw [h_46]; show _ = _; rw [eq_435]) (fun hG b hb h0 => by obtain ⟨e, g1, g2⟩ := hG b h0; exact ⟨e, g1, mF_RN (fun h => hb (uq b r_45 (h.trans h_46.symm) h0)) g2⟩) dX10_readsItem_142 (fun H locs hG hS at_436 o_437 => ?_)
          have at_431 := va_at.keptK at_431 o_437 h_46 k_a0 rfl
          refine lv_iinc (v := 1) (lv' := [(5, .int 1), (4, .int r_60), (0, .ref a0), (1, .int a1), (2, .int a2), (3, .int a3)]) hx hb dX10_readsItem_143 hl (k := 0) rfl (by decide) (by decide) rfl (fun ls hl => ?_)
          refine lv_goto (tgt := 128) hx hb dX10_readsItem_146 (by decide) ?_
          refine lv_iload hx hb dX10_readsItem_128 (lv_at hl 0 rfl) ?_
          refine lv_iconst (v := 3) hx hb dX10_readsItem_130 (by decide) ?_
          refine lv_pc (pc2 := 131) rfl ?_
          refine lv_icmp_ge (tgt := 149) hx hb dX10_readsItem_131 (by decide) (fun q => absurd q (by decide)) (fun _ => ?_)
          refine lv_aload_n hx hb dX10_readsItem_134 rfl (lv_at hl 2 rfl) ?_
          refine va_get (D := D) (ci := 9) (v := .ref r_45) (C := RX10) (T := TX10) (N := 36) hx hb hts in10 hown hK (va_one at_431) 0 rfl rfl 32 (by decide) (hts (.fieldLink RX10 74 "RiverModelModel" "readNumber" "[I") (List.mem_of_getElem? (i := 13) rfl)) (fun _ h9 => h9) rfl dX10_readsItem_135 ?_
          refine lv_iload hx hb dX10_readsItem_138 (lv_at hl 0 rfl) ?_
          refine lv_bipush (v := (-4)) hx hb dX10_readsItem_140 (by decide) ?_
          have at_438 := mF_o62 hG h_46
          have b_439 : vp_in 1 3 := (q_in (by decide) (by decide))
          have zi_1 : (1 : Int32).toInt = 1 := by decide
          obtain ⟨q_440, eq_440⟩ : ∃ q : Nat → Int32, q = upd q_435 (1 : Int32).toNatClampNeg (-4) := ⟨_, rfl⟩
          refine ty_iast (F2 := (mF cI cL cC gC gE gW gA gT gI gS gM K F S N gH gJ x_429 r_53 x_85 x_425 gg gr q_440 gb rV rN)) hx hb hK hG hS 0 at_438 (by rw [h_46]; rfl) rfl b_439 (by rw [h_46]; show _ = _; rw [eq_440]) (fun hG b hb h0 => by obtain ⟨e, g1, g2⟩ := hG b h0; exact ⟨e, g1, mF_RN (fun h => hb (uq b r_45 (h.trans h_46.symm) h0)) g2⟩) dX10_readsItem_142 (fun H locs hG hS at_441 o_442 => ?_)
          have at_431 := va_at.keptK at_431 o_442 h_46 k_a0 rfl
          refine lv_iinc (v := 2) (lv' := [(5, .int 2), (4, .int r_60), (0, .ref a0), (1, .int a1), (2, .int a2), (3, .int a3)]) hx hb dX10_readsItem_143 hl (k := 0) rfl (by decide) (by decide) rfl (fun ls hl => ?_)
          refine lv_goto (tgt := 128) hx hb dX10_readsItem_146 (by decide) ?_
          refine lv_pc (pc2 := 128) rfl ?_
          refine lv_iload hx hb dX10_readsItem_128 (lv_at hl 0 rfl) ?_
          refine lv_iconst (v := 3) hx hb dX10_readsItem_130 (by decide) ?_
          refine lv_icmp_ge (tgt := 149) hx hb dX10_readsItem_131 (by decide) (fun q => absurd q (by decide)) (fun _ => ?_)
          refine lv_aload_n hx hb dX10_readsItem_134 rfl (lv_at hl 2 rfl) ?_
          refine va_get (D := D) (ci := 9) (v := .ref r_45) (C := RX10) (T := TX10) (N := 36) hx hb hts in10 hown hK (va_one at_431) 0 rfl rfl 32 (by decide) (hts (.fieldLink RX10 74 "RiverModelModel" "readNumber" "[I") (List.mem_of_getElem? (i := 13) rfl)) (fun _ h9 => h9) rfl dX10_readsItem_135 ?_
          refine lv_iload hx hb dX10_readsItem_138 (lv_at hl 0 rfl) ?_
          refine lv_bipush (v := (-4)) hx hb dX10_readsItem_140 (by decide) ?_
          have at_443 := mF_o62 hG h_46
          have b_444 : vp_in 2 3 := (q_in (by decide) (by decide))
          have zi_2 : (2 : Int32).toInt = 2 := by decide
          obtain ⟨q_445, eq_445⟩ : ∃ q : Nat → Int32, q = upd q_440 (2 : Int32).toNatClampNeg (-4) := ⟨_, rfl⟩
          refine ty_iast (F2 := (mF cI cL cC gC gE gW gA gT gI gS gM K F S N gH gJ x_429 r_53 x_85 x_425 gg gr q_445 gb rV rN)) hx hb hK hG hS 0 at_443 (by rw [h_46]; rfl) rfl b_444 (by rw [h_46]; show _ = _; rw [eq_445]) (fun hG b hb h0 => by obtain ⟨e, g1, g2⟩ := hG b h0; exact ⟨e, g1, mF_RN (fun h => hb (uq b r_45 (h.trans h_46.symm) h0)) g2⟩) dX10_readsItem_142 (fun H locs hG hS at_446 o_447 => ?_)
          have at_431 := va_at.keptK at_431 o_447 h_46 k_a0 rfl
          refine lv_pc (pc2 := 143) rfl ?_
          refine lv_iinc (v := 3) (lv' := [(5, .int 3), (4, .int r_60), (0, .ref a0), (1, .int a1), (2, .int a2), (3, .int a3)]) hx hb dX10_readsItem_143 hl (k := 0) rfl (by decide) (by decide) rfl (fun ls hl => ?_)
          refine lv_goto (tgt := 128) hx hb dX10_readsItem_146 (by decide) ?_
          refine lv_iload hx hb dX10_readsItem_128 (lv_at hl 0 rfl) ?_
          refine lv_iconst (v := 3) hx hb dX10_readsItem_130 (by decide) ?_
          refine lv_icmp_ge (tgt := 149) hx hb dX10_readsItem_131 (by decide) (fun _ => ?_) (fun q => absurd (by decide) q)
          have hnm : names (byT gT gC) a1.toInt x_85 x_425 (a1.toInt + 3) := ⟨by unfold nmB; omega, by omega, Or.inr ⟨by omega, by unfold nmB; omega, by omega, rfl⟩⟩
          refine lv_iconst (v := 0) hx hb dX10_readsItem_149 (by decide) ?_
          refine lv_istore (lv' := [(5, .int 0), (4, .int r_60), (0, .ref a0), (1, .int a1), (2, .int a2), (3, .int a3)]) hx hb dX10_readsItem_150 hl (by decide) rfl (fun ls hl => ?_)
          refine lv_pc (pc2 := 152) rfl ?_
          refine lp_gen (fun WW448 hWW448 => ?_)
          have kx448 : ∀ (yi : Int32) (e1 : Int32) (g1 : Int32) (n1 : Nat → Int32) (H1 : Heap) (locs1 : List Loc) (ls1 : Array Slot), (0 ≤ yi.toInt) → (yi.toInt ≤ 3) → (a1.toInt < e1.toInt) → (e1.toInt ≤ a1.toInt + 3 + 9 * yi.toInt) → (yi.toInt ≤ shp (byT gT gC a1.toInt) % 10) → (numsR (byT gT gC) (a1.toInt + 3) yi.toInt 0 n1 e1.toInt) → (shp (byT gT gC a1.toInt) % 10 ≤ yi.toInt) → tG D (mF cI cL cC gC gE gW gA gT gI gS gM K F S N gH gJ e1 r_53 x_85 x_425 g1 gr n1 gb rV rN) t H1 → tF t wP s.heap H1 locs1 → lv_has ls1 8 [(5, .int yi), (4, .int r_60), (0, .ref a0), (1, .int a1), (2, .int a2), (3, .int a3)] → WW448 H1 locs1 (F0 m 179 ls1 []) := by
            intro yi e1 g1 n1 H locs ls v448_0 v448_1 v448_2 v448_3 v448_4 v448_5 xf448_0 hG hS hl
            refine (hWW448 _ _ _).mpr ?_
            refine lv_pc (pc2 := 179) rfl ?_
            refine lp_gen (fun WW449 hWW449 => ?_)
            have jn449 : ∀ (vj449 : Int32), (0 ≤ vj449.toInt) → (vj449.toInt ≤ 1) → (oneQ vj449.toInt r_53.toInt (bitI a2 x_85).toInt) → WW449 H locs (F0 m 209 ls (.int vj449 :: [])) := by
              intro vj449 fj449_0 fj449_1 fj449_2
              refine (hWW449 _ _ _).mpr ?_
              refine lv_istore (lv' := [(5, .int vj449), (4, .int r_60), (0, .ref a0), (1, .int a1), (2, .int a2), (3, .int a3)]) hx hb dX10_readsItem_209 hl (by decide) rfl (fun ls hl => ?_)
              refine lv_pc (pc2 := 211) rfl ?_
              refine lp_gen (fun WW450 hWW450 => ?_)
              have jn450 : ∀ (vj450 : Int32), (0 ≤ vj450.toInt) → (vj450.toInt ≤ 1) → (twoQ vj450.toInt x_425.toInt x_85.toInt (bitI a2 x_425).toInt) → WW450 H locs (F0 m 246 ls (.int vj450 :: [])) := by
                intro vj450 fj450_0 fj450_1 fj450_2
                refine (hWW450 _ _ _).mpr ?_
                refine lv_pc (pc2 := 246) rfl ?_
                refine lv_istore (lv' := [(6, .int vj450), (5, .int vj449), (4, .int r_60), (0, .ref a0), (1, .int a1), (2, .int a2), (3, .int a3)]) hx hb dX10_readsItem_246 hl (by decide) rfl (fun ls hl => ?_)
                refine lv_aload_n hx hb dX10_readsItem_248 rfl (lv_at hl 3 rfl) ?_
                refine lv_aload_n hx hb dX10_readsItem_249 rfl (lv_at hl 3 rfl) ?_
                obtain ⟨r_451, r_453, r_455, r_457, r_459, r_461, r_463, r_465, r_467, r_469, r_471, r_473, r_475, r_477, r_479, r_481, r_483, r_485, r_487, r_489, r_491, r_493, v_495, r_496, at_498, h_452, h_454, h_456, h_458, h_460, h_462, h_464, h_466, h_468, h_470, h_472, h_474, h_476, h_478, h_480, h_482, h_484, h_486, h_488, h_490, h_492, h_494, h_497⟩ := mF_o40 hG k_a0
                refine va_get (D := D) (ci := 9) (v := .int e1) (C := RX10) (T := TX10) (N := 36) hx hb hts in10 hown hK (va_one at_498) 0 rfl rfl 27 (by decide) (hts (.fieldLink RX10 109 "RiverModelModel" "end" "I") (List.mem_of_getElem? (i := 1) rfl)) (fun _ h9 => h9) rfl dX10_readsItem_250 ?_
                refine ty_calli (W.runV (As := [.int e1]) (rest := []) ⟨hx, hb, hml, hown, hts⟩ (m_X10_byteAt l D t cI cL cC gC gE gW gA gT gI gS gM K F S N gH gJ e1 r_53 x_85 x_425 g1 gr n1 gb rV rN a0 e1 e1.toInt uq (by omega) (by omega) (by omega) (by omega) k_a0) (cwV 1 hts gu_X10_readsItem_X10_byteAt_112 rfl rfl rfl (by decide +kernel) ⟨Nat.le_of_ble_eq_true rfl, Nat.le_of_ble_eq_true rfl⟩) (tP_V hG hE at_498 rfl) rfl rfl hl.1 rfl (lv_room (Nat.le_of_ble_eq_true rfl)) dX10_readsItem_253 ⟨Nat.le_of_ble_eq_true rfl, Nat.le_of_ble_eq_true rfl⟩) hS (fun k h => by simp [wr0] at h) (fun r_499 H locs hp_500 hG hS o_501 => ?_)
                have at_498 := va_at.keptC at_498 o_501 k_a0 rfl
                have hp_500 : r_499.toInt = byT gT gC e1.toInt := hp_500
                have p_503 := hp_500
                refine lv_bipush (v := 59) hx hb dX10_readsItem_256 (by decide) ?_
                refine lv_icmp_ne (tgt := 317) hx hb dX10_readsItem_258 (by decide) (fun c_504 => ?_) (fun c_504 => ?_)
                · skip
                  have c_504 : r_499.toInt ≠ 59 := q_ne c_504
                  refine lv_iconst (v := 0) hx hb dX10_readsItem_317 (by decide) ?_
                  refine lv_pc (pc2 := 318) rfl ?_
                  refine lv_istore (lv' := [(7, .int 0), (6, .int vj450), (5, .int vj449), (4, .int r_60), (0, .ref a0), (1, .int a1), (2, .int a2), (3, .int a3)]) hx hb dX10_readsItem_318 hl (by decide) rfl (fun ls hl => ?_)
                  refine lv_aload_n hx hb dX10_readsItem_320 rfl (lv_at hl 4 rfl) ?_
                  refine lv_dup hx hb dX10_readsItem_321 rfl ?_
                  refine va_get (D := D) (ci := 9) (v := .int e1) (C := RX10) (T := TX10) (N := 36) hx hb hts in10 hown hK (va_one at_498) 0 rfl rfl 27 (by decide) (hts (.fieldLink RX10 109 "RiverModelModel" "end" "I") (List.mem_of_getElem? (i := 1) rfl)) (fun _ h9 => h9) rfl dX10_readsItem_322 ?_
                  refine lv_iconst (v := 1) hx hb dX10_readsItem_325 (by decide) ?_
                  refine lv_iadd hx hb dX10_readsItem_326 ?_
                  refine lv_topi (fun x_505 e_506 => ?_)
                  have i_x_505 : x_505.toInt = e1.toInt + 1 := by rw [e_506]; exact (q_add (by rw [show (1 : Int32).toInt = 1 by decide]; omega) (by rw [show (1 : Int32).toInt = 1 by decide]; omega)).trans (by rw [show (1 : Int32).toInt = 1 by decide])
                  refine ty_put (D := D) (ci := 9) (v := .int x_505) (ty := .int) (C := RX10) (T := TX10) (N := 36) (F2 := (mF cI cL cC gC gE gW gA gT gI gS gM K F S N gH gJ x_505 r_53 x_85 x_425 g1 gr n1 gb rV rN)) hx hb hts in10 tyX10 tyX10_ok nmX10 hown hK hG hS at_498 (by rw [k_a0]; rfl) rfl 27 (by decide) (hts (.fieldLink RX10 109 "RiverModelModel" "end" "I") (List.mem_of_getElem? (i := 1) rfl)) (fun _ h9 => h9) rfl (by decide +kernel) rfl rfl (Nat.le_of_ble_eq_true rfl) (by rw [k_a0]; exact ⟨r_451, r_453, r_455, r_457, r_459, r_461, r_463, r_465, r_467, r_469, r_471, r_473, r_475, r_477, r_479, r_481, r_483, r_485, r_487, r_489, r_491, r_493, v_495, r_496, rfl, h_452, h_454, h_456, h_458, h_460, h_462, h_464, h_466, h_468, h_470, h_472, h_474, h_476, h_478, h_480, h_482, h_484, h_486, h_488, h_490, h_492, h_494, h_497⟩) (fun hG b hb h0 => by obtain ⟨e, g1, g2⟩ := hG b h0; exact ⟨e, g1, mF_ge (fun h => hb (uq b a0 (h.trans k_a0.symm) h0)) g2⟩) dX10_readsItem_327 (fun H locs hG hS at_507 o_508 => ?_)
                  have at_507 : va_at D vwCl (a0, .inr (9, [.int gC, .ref r_451, .int gb, .int gI, .ref r_453, .ref r_455, .ref r_457, .ref r_459, .int gS, .ref r_461, .ref r_463, .ref r_465, .ref r_467, .int gM, .ref r_469, .ref r_471, .ref r_473, .int gE, .ref r_475, .ref r_477, .ref r_479, .ref r_481, .ref r_483, .ref r_485, .ref r_487, .ref r_489, .ref r_491, .int x_505, .int r_53, .int x_85, .int x_425, .int g1, .ref r_493, .int gr, .int v_495, .ref r_496])) H := at_507
                  refine lv_iload hx hb dX10_readsItem_330 (lv_at hl 0 rfl) ?_
                  refine lv_pc (pc2 := 332) rfl ?_
                  exact tx_zret (z := (x_505, r_53, x_85, x_425, g1, n1)) hx hb hr hlk rfl hG hS (Or.inr ⟨rfl, (by show noVit (byT gT gC) a1.toInt a2 a3.toInt; exact noItem.v (noItem.lastR hnm v448_5 (by omega) (by omega)))⟩) dX10_readsItem_332
                · skip
                  have c_504 : r_499.toInt = 59 := q_eq c_504
                  refine lv_iload hx hb dX10_readsItem_261 (lv_at hl 1 rfl) ?_
                  refine lv_if_eq (tgt := 317) hx hb dX10_readsItem_263 (by decide) (fun c_509 => ?_) (fun c_509 => ?_)
                  · skip
                    have c_509 : vj449.toInt = 0 := q_eq c_509
                    refine lv_iconst (v := 0) hx hb dX10_readsItem_317 (by decide) ?_
                    refine lv_istore (lv' := [(7, .int 0), (6, .int vj450), (5, .int vj449), (4, .int r_60), (0, .ref a0), (1, .int a1), (2, .int a2), (3, .int a3)]) hx hb dX10_readsItem_318 hl (by decide) rfl (fun ls hl => ?_)
                    refine lv_aload_n hx hb dX10_readsItem_320 rfl (lv_at hl 4 rfl) ?_
                    refine lv_dup hx hb dX10_readsItem_321 rfl ?_
                    refine va_get (D := D) (ci := 9) (v := .int e1) (C := RX10) (T := TX10) (N := 36) hx hb hts in10 hown hK (va_one at_498) 0 rfl rfl 27 (by decide) (hts (.fieldLink RX10 109 "RiverModelModel" "end" "I") (List.mem_of_getElem? (i := 1) rfl)) (fun _ h9 => h9) rfl dX10_readsItem_322 ?_
                    refine lv_pc (pc2 := 325) rfl ?_
                    refine lv_iconst (v := 1) hx hb dX10_readsItem_325 (by decide) ?_
                    refine lv_iadd hx hb dX10_readsItem_326 ?_
                    refine lv_topi (fun x_510 e_511 => ?_)
                    have i_x_510 : x_510.toInt = e1.toInt + 1 := by rw [e_511]; exact (q_add (by rw [show (1 : Int32).toInt = 1 by decide]; omega) (by rw [show (1 : Int32).toInt = 1 by decide]; omega)).trans (by rw [show (1 : Int32).toInt = 1 by decide])
                    refine ty_put (D := D) (ci := 9) (v := .int x_510) (ty := .int) (C := RX10) (T := TX10) (N := 36) (F2 := (mF cI cL cC gC gE gW gA gT gI gS gM K F S N gH gJ x_510 r_53 x_85 x_425 g1 gr n1 gb rV rN)) hx hb hts in10 tyX10 tyX10_ok nmX10 hown hK hG hS at_498 (by rw [k_a0]; rfl) rfl 27 (by decide) (hts (.fieldLink RX10 109 "RiverModelModel" "end" "I") (List.mem_of_getElem? (i := 1) rfl)) (fun _ h9 => h9) rfl (by decide +kernel) rfl rfl (Nat.le_of_ble_eq_true rfl) (by rw [k_a0]; exact ⟨r_451, r_453, r_455, r_457, r_459, r_461, r_463, r_465, r_467, r_469, r_471, r_473, r_475, r_477, r_479, r_481, r_483, r_485, r_487, r_489, r_491, r_493, v_495, r_496, rfl, h_452, h_454, h_456, h_458, h_460, h_462, h_464, h_466, h_468, h_470, h_472, h_474, h_476, h_478, h_480, h_482, h_484, h_486, h_488, h_490, h_492, h_494, h_497⟩) (fun hG b hb h0 => by obtain ⟨e, g1, g2⟩ := hG b h0; exact ⟨e, g1, mF_ge (fun h => hb (uq b a0 (h.trans k_a0.symm) h0)) g2⟩) dX10_readsItem_327 (fun H locs hG hS at_512 o_513 => ?_)
                    have at_512 : va_at D vwCl (a0, .inr (9, [.int gC, .ref r_451, .int gb, .int gI, .ref r_453, .ref r_455, .ref r_457, .ref r_459, .int gS, .ref r_461, .ref r_463, .ref r_465, .ref r_467, .int gM, .ref r_469, .ref r_471, .ref r_473, .int gE, .ref r_475, .ref r_477, .ref r_479, .ref r_481, .ref r_483, .ref r_485, .ref r_487, .ref r_489, .ref r_491, .int x_510, .int r_53, .int x_85, .int x_425, .int g1, .ref r_493, .int gr, .int v_495, .ref r_496])) H := at_512
                    refine lv_iload hx hb dX10_readsItem_330 (lv_at hl 0 rfl) ?_
                    exact tx_zret (z := (x_510, r_53, x_85, x_425, g1, n1)) hx hb hr hlk rfl hG hS (Or.inr ⟨rfl, (by show noVit (byT gT gC) a1.toInt a2 a3.toInt; exact vIt.no (itemAt.ofR (k := r_53) (by omega) (by omega) hnm v448_5 (by omega) (by omega) (by omega)) (okIt.no1 fj449_2 (by omega)))⟩) dX10_readsItem_332
                  · skip
                    have c_509 : vj449.toInt ≠ 0 := q_ne c_509
                    refine lv_iload hx hb dX10_readsItem_266 (lv_at hl 0 rfl) ?_
                    refine lv_if_eq (tgt := 317) hx hb dX10_readsItem_268 (by decide) (fun c_514 => ?_) (fun c_514 => ?_)
                    · skip
                      have c_514 : vj450.toInt = 0 := q_eq c_514
                      refine lv_iconst (v := 0) hx hb dX10_readsItem_317 (by decide) ?_
                      refine lv_pc (pc2 := 318) rfl ?_
                      refine lv_istore (lv' := [(7, .int 0), (6, .int vj450), (5, .int vj449), (4, .int r_60), (0, .ref a0), (1, .int a1), (2, .int a2), (3, .int a3)]) hx hb dX10_readsItem_318 hl (by decide) rfl (fun ls hl => ?_)
                      refine lv_aload_n hx hb dX10_readsItem_320 rfl (lv_at hl 4 rfl) ?_
                      refine lv_dup hx hb dX10_readsItem_321 rfl ?_
                      refine va_get (D := D) (ci := 9) (v := .int e1) (C := RX10) (T := TX10) (N := 36) hx hb hts in10 hown hK (va_one at_498) 0 rfl rfl 27 (by decide) (hts (.fieldLink RX10 109 "RiverModelModel" "end" "I") (List.mem_of_getElem? (i := 1) rfl)) (fun _ h9 => h9) rfl dX10_readsItem_322 ?_
                      refine lv_iconst (v := 1) hx hb dX10_readsItem_325 (by decide) ?_
                      refine lv_iadd hx hb dX10_readsItem_326 ?_
                      refine lv_topi (fun x_515 e_516 => ?_)
                      have i_x_515 : x_515.toInt = e1.toInt + 1 := by rw [e_516]; exact (q_add (by rw [show (1 : Int32).toInt = 1 by decide]; omega) (by rw [show (1 : Int32).toInt = 1 by decide]; omega)).trans (by rw [show (1 : Int32).toInt = 1 by decide])
                      refine ty_put (D := D) (ci := 9) (v := .int x_515) (ty := .int) (C := RX10) (T := TX10) (N := 36) (F2 := (mF cI cL cC gC gE gW gA gT gI gS gM K F S N gH gJ x_515 r_53 x_85 x_425 g1 gr n1 gb rV rN)) hx hb hts in10 tyX10 tyX10_ok nmX10 hown hK hG hS at_498 (by rw [k_a0]; rfl) rfl 27 (by decide) (hts (.fieldLink RX10 109 "RiverModelModel" "end" "I") (List.mem_of_getElem? (i := 1) rfl)) (fun _ h9 => h9) rfl (by decide +kernel) rfl rfl (Nat.le_of_ble_eq_true rfl) (by rw [k_a0]; exact ⟨r_451, r_453, r_455, r_457, r_459, r_461, r_463, r_465, r_467, r_469, r_471, r_473, r_475, r_477, r_479, r_481, r_483, r_485, r_487, r_489, r_491, r_493, v_495, r_496, rfl, h_452, h_454, h_456, h_458, h_460, h_462, h_464, h_466, h_468, h_470, h_472, h_474, h_476, h_478, h_480, h_482, h_484, h_486, h_488, h_490, h_492, h_494, h_497⟩) (fun hG b hb h0 => by obtain ⟨e, g1, g2⟩ := hG b h0; exact ⟨e, g1, mF_ge (fun h => hb (uq b a0 (h.trans k_a0.symm) h0)) g2⟩) dX10_readsItem_327 (fun H locs hG hS at_517 o_518 => ?_)
                      have at_517 : va_at D vwCl (a0, .inr (9, [.int gC, .ref r_451, .int gb, .int gI, .ref r_453, .ref r_455, .ref r_457, .ref r_459, .int gS, .ref r_461, .ref r_463, .ref r_465, .ref r_467, .int gM, .ref r_469, .ref r_471, .ref r_473, .int gE, .ref r_475, .ref r_477, .ref r_479, .ref r_481, .ref r_483, .ref r_485, .ref r_487, .ref r_489, .ref r_491, .int x_515, .int r_53, .int x_85, .int x_425, .int g1, .ref r_493, .int gr, .int v_495, .ref r_496])) H := at_517
                      refine lv_iload hx hb dX10_readsItem_330 (lv_at hl 0 rfl) ?_
                      refine lv_pc (pc2 := 332) rfl ?_
                      exact tx_zret (z := (x_515, r_53, x_85, x_425, g1, n1)) hx hb hr hlk rfl hG hS (Or.inr ⟨rfl, (by show noVit (byT gT gC) a1.toInt a2 a3.toInt; exact vIt.no (itemAt.ofR (k := r_53) (by omega) (by omega) hnm v448_5 (by omega) (by omega) (by omega)) (okIt.no2 fj450_2 (by omega)))⟩) dX10_readsItem_332
                    · skip
                      have c_514 : vj450.toInt ≠ 0 := q_ne c_514
                      refine lv_aload_n hx hb dX10_readsItem_271 rfl (lv_at hl 3 rfl) ?_
                      refine va_get (D := D) (ci := 9) (v := .int r_53) (C := RX10) (T := TX10) (N := 36) hx hb hts in10 hown hK (va_one at_498) 0 rfl rfl 28 (by decide) (hts (.fieldLink RX10 125 "RiverModelModel" "readKind" "I") (List.mem_of_getElem? (i := 6) rfl)) (fun _ h9 => h9) rfl dX10_readsItem_272 ?_
                      refine lv_bipush (v := 103) hx hb dX10_readsItem_275 (by decide) ?_
                      refine lv_icmp_ne (tgt := 285) hx hb dX10_readsItem_277 (by decide) (fun c_519 => ?_) (fun c_519 => ?_)
                      · skip
                        have c_519 : r_53.toInt ≠ 103 := q_ne c_519
                        refine lv_aload_n hx hb dX10_readsItem_285 rfl (lv_at hl 3 rfl) ?_
                        refine va_get (D := D) (ci := 9) (v := .int r_53) (C := RX10) (T := TX10) (N := 36) hx hb hts in10 hown hK (va_one at_498) 0 rfl rfl 28 (by decide) (hts (.fieldLink RX10 125 "RiverModelModel" "readKind" "I") (List.mem_of_getElem? (i := 6) rfl)) (fun _ h9 => h9) rfl dX10_readsItem_286 ?_
                        refine lv_aload_n hx hb dX10_readsItem_289 rfl (lv_at hl 3 rfl) ?_
                        refine lv_pc (pc2 := 290) rfl ?_
                        refine va_get (D := D) (ci := 9) (v := .ref r_493) (C := RX10) (T := TX10) (N := 36) hx hb hts in10 hown hK (va_one at_498) 0 rfl rfl 32 (by decide) (hts (.fieldLink RX10 74 "RiverModelModel" "readNumber" "[I") (List.mem_of_getElem? (i := 13) rfl)) (fun _ h9 => h9) rfl dX10_readsItem_290 ?_
                        refine lv_iconst (v := 0) hx hb dX10_readsItem_293 (by decide) ?_
                        have at_520 := mF_o62 hG h_494
                        have b_521 : vp_in 0 3 := (q_in (by decide) (by decide))
                        refine va_iald hx hb hK (va_one at_520) 0 0 rfl rfl b_521 dX10_readsItem_294 ?_
                        refine lv_topi (fun x_522 e_523 => ?_)
                        have w_x_522 : x_522 = n1 0 := by rw [e_523]; rfl
                        have i_x_522 : x_522.toInt = (n1 0).toInt := by rw [w_x_522]
                        refine lv_aload_n hx hb dX10_readsItem_295 rfl (lv_at hl 3 rfl) ?_
                        refine va_get (D := D) (ci := 9) (v := .ref r_493) (C := RX10) (T := TX10) (N := 36) hx hb hts in10 hown hK (va_one at_498) 0 rfl rfl 32 (by decide) (hts (.fieldLink RX10 74 "RiverModelModel" "readNumber" "[I") (List.mem_of_getElem? (i := 13) rfl)) (fun _ h9 => h9) rfl dX10_readsItem_296 ?_
                        refine lv_iconst (v := 1) hx hb dX10_readsItem_299 (by decide) ?_
                        have b_524 : vp_in 1 3 := (q_in (by decide) (by decide))
                        refine va_iald hx hb hK (va_one at_520) 0 0 rfl rfl b_524 dX10_readsItem_300 ?_
                        refine lv_topi (fun x_525 e_526 => ?_)
                        have w_x_525 : x_525 = n1 1 := by rw [e_526]; rfl
                        have i_x_525 : x_525.toInt = (n1 1).toInt := by rw [w_x_525]
                        refine lv_aload_n hx hb dX10_readsItem_301 rfl (lv_at hl 3 rfl) ?_
                        refine lv_pc (pc2 := 302) rfl ?_
                        refine va_get (D := D) (ci := 9) (v := .ref r_493) (C := RX10) (T := TX10) (N := 36) hx hb hts in10 hown hK (va_one at_498) 0 rfl rfl 32 (by decide) (hts (.fieldLink RX10 74 "RiverModelModel" "readNumber" "[I") (List.mem_of_getElem? (i := 13) rfl)) (fun _ h9 => h9) rfl dX10_readsItem_302 ?_
                        refine lv_iconst (v := 2) hx hb dX10_readsItem_305 (by decide) ?_
                        have b_527 : vp_in 2 3 := (q_in (by decide) (by decide))
                        refine va_iald hx hb hK (va_one at_520) 0 0 rfl rfl b_527 dX10_readsItem_306 ?_
                        refine lv_topi (fun x_528 e_529 => ?_)
                        have w_x_528 : x_528 = n1 2 := by rw [e_529]; rfl
                        have i_x_528 : x_528.toInt = (n1 2).toInt := by rw [w_x_528]
                        refine ty_calli (W.runS (As := [.int r_53, .int x_522, .int x_525, .int x_528]) (rest := []) ⟨hx, hb, hml, hown, hts⟩ (m_X10_areWell l D t cI cL cC gC gE gW gA gT gI gS gM K F S N gH gJ e1 r_53 x_85 x_425 g1 gr n1 gb rV rN r_53 x_522 x_525 x_528  uq  ) (va_cwS 4 hts gu_X10_readsItem_X10_areWell_144 rfl rfl rfl (by decide +kernel) ⟨Nat.le_of_ble_eq_true rfl, Nat.le_of_ble_eq_true rfl⟩) (tP_S hG hE) rfl rfl hl.1 rfl (lv_room (Nat.le_of_ble_eq_true rfl)) dX10_readsItem_307 ⟨Nat.le_of_ble_eq_true rfl, Nat.le_of_ble_eq_true rfl⟩) hS (fun k h => by simp [wr0] at h) (fun r_530 H locs hp_531 hG hS o_532 => ?_)
                        have at_498 := va_at.keptC at_498 o_532 k_a0 rfl
                        have at_520 := va_at.keptC at_520 o_532 h_494 rfl
                        have hp_531 : (r_530 = 1 ∧ weOk r_53 x_522 x_525 ∧ well r_53.toInt x_522 x_525 x_528) ∨ (r_530 = 0 ∧ ¬ well r_53.toInt x_522 x_525 x_528) := hp_531
                        rcases hp_531 with ⟨rfl, p_534, p_535⟩ | ⟨rfl, p_536⟩
                        · skip
                          refine lv_if_eq (tgt := 317) hx hb dX10_readsItem_310 (by decide) (fun q => absurd q (by decide)) (fun _ => ?_)
                          refine lv_iconst (v := 1) hx hb dX10_readsItem_313 (by decide) ?_
                          refine lv_goto (tgt := 318) hx hb dX10_readsItem_314 (by decide) ?_
                          refine lv_istore (lv' := [(7, .int 1), (6, .int vj450), (5, .int vj449), (4, .int r_60), (0, .ref a0), (1, .int a1), (2, .int a2), (3, .int a3)]) hx hb dX10_readsItem_318 hl (by decide) rfl (fun ls hl => ?_)
                          refine lv_pc (pc2 := 320) rfl ?_
                          refine lv_aload_n hx hb dX10_readsItem_320 rfl (lv_at hl 4 rfl) ?_
                          refine lv_dup hx hb dX10_readsItem_321 rfl ?_
                          refine va_get (D := D) (ci := 9) (v := .int e1) (C := RX10) (T := TX10) (N := 36) hx hb hts in10 hown hK (va_one at_498) 0 rfl rfl 27 (by decide) (hts (.fieldLink RX10 109 "RiverModelModel" "end" "I") (List.mem_of_getElem? (i := 1) rfl)) (fun _ h9 => h9) rfl dX10_readsItem_322 ?_
                          refine lv_iconst (v := 1) hx hb dX10_readsItem_325 (by decide) ?_
                          refine lv_iadd hx hb dX10_readsItem_326 ?_
                          refine lv_topi (fun x_537 e_538 => ?_)
                          have i_x_537 : x_537.toInt = e1.toInt + 1 := by rw [e_538]; exact (q_add (by rw [show (1 : Int32).toInt = 1 by decide]; omega) (by rw [show (1 : Int32).toInt = 1 by decide]; omega)).trans (by rw [show (1 : Int32).toInt = 1 by decide])
                          refine ty_put (D := D) (ci := 9) (v := .int x_537) (ty := .int) (C := RX10) (T := TX10) (N := 36) (F2 := (mF cI cL cC gC gE gW gA gT gI gS gM K F S N gH gJ x_537 r_53 x_85 x_425 g1 gr n1 gb rV rN)) hx hb hts in10 tyX10 tyX10_ok nmX10 hown hK hG hS at_498 (by rw [k_a0]; rfl) rfl 27 (by decide) (hts (.fieldLink RX10 109 "RiverModelModel" "end" "I") (List.mem_of_getElem? (i := 1) rfl)) (fun _ h9 => h9) rfl (by decide +kernel) rfl rfl (Nat.le_of_ble_eq_true rfl) (by rw [k_a0]; exact ⟨r_451, r_453, r_455, r_457, r_459, r_461, r_463, r_465, r_467, r_469, r_471, r_473, r_475, r_477, r_479, r_481, r_483, r_485, r_487, r_489, r_491, r_493, v_495, r_496, rfl, h_452, h_454, h_456, h_458, h_460, h_462, h_464, h_466, h_468, h_470, h_472, h_474, h_476, h_478, h_480, h_482, h_484, h_486, h_488, h_490, h_492, h_494, h_497⟩) (fun hG b hb h0 => by obtain ⟨e, g1, g2⟩ := hG b h0; exact ⟨e, g1, mF_ge (fun h => hb (uq b a0 (h.trans k_a0.symm) h0)) g2⟩) dX10_readsItem_327 (fun H locs hG hS at_539 o_540 => ?_)
                          have at_539 : va_at D vwCl (a0, .inr (9, [.int gC, .ref r_451, .int gb, .int gI, .ref r_453, .ref r_455, .ref r_457, .ref r_459, .int gS, .ref r_461, .ref r_463, .ref r_465, .ref r_467, .int gM, .ref r_469, .ref r_471, .ref r_473, .int gE, .ref r_475, .ref r_477, .ref r_479, .ref r_481, .ref r_483, .ref r_485, .ref r_487, .ref r_489, .ref r_491, .int x_537, .int r_53, .int x_85, .int x_425, .int g1, .ref r_493, .int gr, .int v_495, .ref r_496])) H := at_539
                          have at_520 := va_at.keptK at_520 o_540 k_a0 h_494 rfl
                          refine lv_iload hx hb dX10_readsItem_330 (lv_at hl 0 rfl) ?_
                          exact tx_zret (z := (x_537, r_53, x_85, x_425, g1, n1)) hx hb hr hlk rfl hG hS (Or.inl ⟨rfl, (by show a1.toInt < x_537.toInt; omega), (by show x_537.toInt ≤ a1.toInt + 40; omega), (by show itOk r_53 x_85 x_425 (n1 0) (n1 1); exact ⟨by omega, by omega, by omega, by omega, fun q => by have := p_534.1 (by omega); omega, fun q => by have := p_534.2 (by omega); omega⟩), (by show nmOk r_53 x_85 a2; exact nmOk.of fj449_2 (by omega)), (by show itemAt (byT gT gC) a1.toInt r_53 x_85 x_425 (n1 0) (n1 1) (n1 2) x_537.toInt; exact (itemAt.ofR (k := r_53) (by omega) (by omega) hnm v448_5 (by omega) (by omega) (by omega))), (by show okIt a2 a3.toInt r_53 x_85 x_425 (n1 0) (n1 1) (n1 2); exact okIt.of (by rw [← w_x_522, ← w_x_525, ← w_x_528]; exact p_535) fj449_2 fj450_2 (by omega) (by omega) (fun q => by omega))⟩) dX10_readsItem_332
                        · skip
                          refine lv_pc (pc2 := 310) rfl ?_
                          refine lv_if_eq (tgt := 317) hx hb dX10_readsItem_310 (by decide) (fun _ => ?_) (fun q => absurd (by decide) q)
                          refine lv_iconst (v := 0) hx hb dX10_readsItem_317 (by decide) ?_
                          refine lv_istore (lv' := [(7, .int 0), (6, .int vj450), (5, .int vj449), (4, .int r_60), (0, .ref a0), (1, .int a1), (2, .int a2), (3, .int a3)]) hx hb dX10_readsItem_318 hl (by decide) rfl (fun ls hl => ?_)
                          refine lv_aload_n hx hb dX10_readsItem_320 rfl (lv_at hl 4 rfl) ?_
                          refine lv_dup hx hb dX10_readsItem_321 rfl ?_
                          refine va_get (D := D) (ci := 9) (v := .int e1) (C := RX10) (T := TX10) (N := 36) hx hb hts in10 hown hK (va_one at_498) 0 rfl rfl 27 (by decide) (hts (.fieldLink RX10 109 "RiverModelModel" "end" "I") (List.mem_of_getElem? (i := 1) rfl)) (fun _ h9 => h9) rfl dX10_readsItem_322 ?_
                          refine lv_iconst (v := 1) hx hb dX10_readsItem_325 (by decide) ?_
                          refine lv_iadd hx hb dX10_readsItem_326 ?_
                          refine lv_topi (fun x_541 e_542 => ?_)
                          have i_x_541 : x_541.toInt = e1.toInt + 1 := by rw [e_542]; exact (q_add (by rw [show (1 : Int32).toInt = 1 by decide]; omega) (by rw [show (1 : Int32).toInt = 1 by decide]; omega)).trans (by rw [show (1 : Int32).toInt = 1 by decide])
                          refine lv_pc (pc2 := 327) rfl ?_
                          refine ty_put (D := D) (ci := 9) (v := .int x_541) (ty := .int) (C := RX10) (T := TX10) (N := 36) (F2 := (mF cI cL cC gC gE gW gA gT gI gS gM K F S N gH gJ x_541 r_53 x_85 x_425 g1 gr n1 gb rV rN)) hx hb hts in10 tyX10 tyX10_ok nmX10 hown hK hG hS at_498 (by rw [k_a0]; rfl) rfl 27 (by decide) (hts (.fieldLink RX10 109 "RiverModelModel" "end" "I") (List.mem_of_getElem? (i := 1) rfl)) (fun _ h9 => h9) rfl (by decide +kernel) rfl rfl (Nat.le_of_ble_eq_true rfl) (by rw [k_a0]; exact ⟨r_451, r_453, r_455, r_457, r_459, r_461, r_463, r_465, r_467, r_469, r_471, r_473, r_475, r_477, r_479, r_481, r_483, r_485, r_487, r_489, r_491, r_493, v_495, r_496, rfl, h_452, h_454, h_456, h_458, h_460, h_462, h_464, h_466, h_468, h_470, h_472, h_474, h_476, h_478, h_480, h_482, h_484, h_486, h_488, h_490, h_492, h_494, h_497⟩) (fun hG b hb h0 => by obtain ⟨e, g1, g2⟩ := hG b h0; exact ⟨e, g1, mF_ge (fun h => hb (uq b a0 (h.trans k_a0.symm) h0)) g2⟩) dX10_readsItem_327 (fun H locs hG hS at_543 o_544 => ?_)
                          have at_543 : va_at D vwCl (a0, .inr (9, [.int gC, .ref r_451, .int gb, .int gI, .ref r_453, .ref r_455, .ref r_457, .ref r_459, .int gS, .ref r_461, .ref r_463, .ref r_465, .ref r_467, .int gM, .ref r_469, .ref r_471, .ref r_473, .int gE, .ref r_475, .ref r_477, .ref r_479, .ref r_481, .ref r_483, .ref r_485, .ref r_487, .ref r_489, .ref r_491, .int x_541, .int r_53, .int x_85, .int x_425, .int g1, .ref r_493, .int gr, .int v_495, .ref r_496])) H := at_543
                          have at_520 := va_at.keptK at_520 o_544 k_a0 h_494 rfl
                          refine lv_iload hx hb dX10_readsItem_330 (lv_at hl 0 rfl) ?_
                          exact tx_zret (z := (x_541, r_53, x_85, x_425, g1, n1)) hx hb hr hlk rfl hG hS (Or.inr ⟨rfl, (by show noVit (byT gT gC) a1.toInt a2 a3.toInt; exact vIt.no (itemAt.ofR (k := r_53) (by omega) (by omega) hnm v448_5 (by omega) (by omega) (by omega)) (okIt.now (by rw [← w_x_522, ← w_x_525, ← w_x_528]; exact p_536)))⟩) dX10_readsItem_332
                      · skip
                        have c_519 : r_53.toInt = 103 := q_eq c_519
                        refine lv_iload_n hx hb dX10_readsItem_280 rfl (lv_at hl 6 rfl) ?_
                        refine lv_iconst (v := 4) hx hb dX10_readsItem_281 (by decide) ?_
                        refine lv_icmp_ge (tgt := 317) hx hb dX10_readsItem_282 (by decide) (fun c_545 => ?_) (fun c_545 => ?_)
                        · skip
                          have c_545 : 4 ≤ a3.toInt := q_le c_545
                          refine lv_iconst (v := 0) hx hb dX10_readsItem_317 (by decide) ?_
                          refine lv_istore (lv' := [(7, .int 0), (6, .int vj450), (5, .int vj449), (4, .int r_60), (0, .ref a0), (1, .int a1), (2, .int a2), (3, .int a3)]) hx hb dX10_readsItem_318 hl (by decide) rfl (fun ls hl => ?_)
                          refine lv_pc (pc2 := 320) rfl ?_
                          refine lv_aload_n hx hb dX10_readsItem_320 rfl (lv_at hl 4 rfl) ?_
                          refine lv_dup hx hb dX10_readsItem_321 rfl ?_
                          refine va_get (D := D) (ci := 9) (v := .int e1) (C := RX10) (T := TX10) (N := 36) hx hb hts in10 hown hK (va_one at_498) 0 rfl rfl 27 (by decide) (hts (.fieldLink RX10 109 "RiverModelModel" "end" "I") (List.mem_of_getElem? (i := 1) rfl)) (fun _ h9 => h9) rfl dX10_readsItem_322 ?_
                          refine lv_iconst (v := 1) hx hb dX10_readsItem_325 (by decide) ?_
                          refine lv_iadd hx hb dX10_readsItem_326 ?_
                          refine lv_topi (fun x_546 e_547 => ?_)
                          have i_x_546 : x_546.toInt = e1.toInt + 1 := by rw [e_547]; exact (q_add (by rw [show (1 : Int32).toInt = 1 by decide]; omega) (by rw [show (1 : Int32).toInt = 1 by decide]; omega)).trans (by rw [show (1 : Int32).toInt = 1 by decide])
                          refine ty_put (D := D) (ci := 9) (v := .int x_546) (ty := .int) (C := RX10) (T := TX10) (N := 36) (F2 := (mF cI cL cC gC gE gW gA gT gI gS gM K F S N gH gJ x_546 r_53 x_85 x_425 g1 gr n1 gb rV rN)) hx hb hts in10 tyX10 tyX10_ok nmX10 hown hK hG hS at_498 (by rw [k_a0]; rfl) rfl 27 (by decide) (hts (.fieldLink RX10 109 "RiverModelModel" "end" "I") (List.mem_of_getElem? (i := 1) rfl)) (fun _ h9 => h9) rfl (by decide +kernel) rfl rfl (Nat.le_of_ble_eq_true rfl) (by rw [k_a0]; exact ⟨r_451, r_453, r_455, r_457, r_459, r_461, r_463, r_465, r_467, r_469, r_471, r_473, r_475, r_477, r_479, r_481, r_483, r_485, r_487, r_489, r_491, r_493, v_495, r_496, rfl, h_452, h_454, h_456, h_458, h_460, h_462, h_464, h_466, h_468, h_470, h_472, h_474, h_476, h_478, h_480, h_482, h_484, h_486, h_488, h_490, h_492, h_494, h_497⟩) (fun hG b hb h0 => by obtain ⟨e, g1, g2⟩ := hG b h0; exact ⟨e, g1, mF_ge (fun h => hb (uq b a0 (h.trans k_a0.symm) h0)) g2⟩) dX10_readsItem_327 (fun H locs hG hS at_548 o_549 => ?_)
                          have at_548 : va_at D vwCl (a0, .inr (9, [.int gC, .ref r_451, .int gb, .int gI, .ref r_453, .ref r_455, .ref r_457, .ref r_459, .int gS, .ref r_461, .ref r_463, .ref r_465, .ref r_467, .int gM, .ref r_469, .ref r_471, .ref r_473, .int gE, .ref r_475, .ref r_477, .ref r_479, .ref r_481, .ref r_483, .ref r_485, .ref r_487, .ref r_489, .ref r_491, .int x_546, .int r_53, .int x_85, .int x_425, .int g1, .ref r_493, .int gr, .int v_495, .ref r_496])) H := at_548
                          refine lv_iload hx hb dX10_readsItem_330 (lv_at hl 0 rfl) ?_
                          exact tx_zret (z := (x_546, r_53, x_85, x_425, g1, n1)) hx hb hr hlk rfl hG hS (Or.inr ⟨rfl, (by show noVit (byT gT gC) a1.toInt a2 a3.toInt; exact vIt.no (itemAt.ofR (k := r_53) (by omega) (by omega) hnm v448_5 (by omega) (by omega) (by omega)) (okIt.nog (by omega) (by omega)))⟩) dX10_readsItem_332
                        · skip
                          have c_545 : a3.toInt < 4 := q_nle c_545
                          refine lv_pc (pc2 := 285) rfl ?_
                          refine lv_aload_n hx hb dX10_readsItem_285 rfl (lv_at hl 3 rfl) ?_
                          refine va_get (D := D) (ci := 9) (v := .int r_53) (C := RX10) (T := TX10) (N := 36) hx hb hts in10 hown hK (va_one at_498) 0 rfl rfl 28 (by decide) (hts (.fieldLink RX10 125 "RiverModelModel" "readKind" "I") (List.mem_of_getElem? (i := 6) rfl)) (fun _ h9 => h9) rfl dX10_readsItem_286 ?_
                          refine lv_aload_n hx hb dX10_readsItem_289 rfl (lv_at hl 3 rfl) ?_
                          refine va_get (D := D) (ci := 9) (v := .ref r_493) (C := RX10) (T := TX10) (N := 36) hx hb hts in10 hown hK (va_one at_498) 0 rfl rfl 32 (by decide) (hts (.fieldLink RX10 74 "RiverModelModel" "readNumber" "[I") (List.mem_of_getElem? (i := 13) rfl)) (fun _ h9 => h9) rfl dX10_readsItem_290 ?_
                          refine lv_iconst (v := 0) hx hb dX10_readsItem_293 (by decide) ?_
                          have at_550 := mF_o62 hG h_494
                          have b_551 : vp_in 0 3 := (q_in (by decide) (by decide))
                          refine va_iald hx hb hK (va_one at_550) 0 0 rfl rfl b_551 dX10_readsItem_294 ?_
                          refine lv_topi (fun x_552 e_553 => ?_)
                          have w_x_552 : x_552 = n1 0 := by rw [e_553]; rfl
                          have i_x_552 : x_552.toInt = (n1 0).toInt := by rw [w_x_552]
                          refine lv_aload_n hx hb dX10_readsItem_295 rfl (lv_at hl 3 rfl) ?_
                          refine va_get (D := D) (ci := 9) (v := .ref r_493) (C := RX10) (T := TX10) (N := 36) hx hb hts in10 hown hK (va_one at_498) 0 rfl rfl 32 (by decide) (hts (.fieldLink RX10 74 "RiverModelModel" "readNumber" "[I") (List.mem_of_getElem? (i := 13) rfl)) (fun _ h9 => h9) rfl dX10_readsItem_296 ?_
                          refine lv_pc (pc2 := 299) rfl ?_
                          refine lv_iconst (v := 1) hx hb dX10_readsItem_299 (by decide) ?_
                          have b_554 : vp_in 1 3 := (q_in (by decide) (by decide))
                          refine va_iald hx hb hK (va_one at_550) 0 0 rfl rfl b_554 dX10_readsItem_300 ?_
                          refine lv_topi (fun x_555 e_556 => ?_)
                          have w_x_555 : x_555 = n1 1 := by rw [e_556]; rfl
                          have i_x_555 : x_555.toInt = (n1 1).toInt := by rw [w_x_555]
                          refine lv_aload_n hx hb dX10_readsItem_301 rfl (lv_at hl 3 rfl) ?_
                          refine va_get (D := D) (ci := 9) (v := .ref r_493) (C := RX10) (T := TX10) (N := 36) hx hb hts in10 hown hK (va_one at_498) 0 rfl rfl 32 (by decide) (hts (.fieldLink RX10 74 "RiverModelModel" "readNumber" "[I") (List.mem_of_getElem? (i := 13) rfl)) (fun _ h9 => h9) rfl dX10_readsItem_302 ?_
                          refine lv_iconst (v := 2) hx hb dX10_readsItem_305 (by decide) ?_
                          have b_557 : vp_in 2 3 := (q_in (by decide) (by decide))
                          refine va_iald hx hb hK (va_one at_550) 0 0 rfl rfl b_557 dX10_readsItem_306 ?_
                          refine lv_topi (fun x_558 e_559 => ?_)
                          have w_x_558 : x_558 = n1 2 := by rw [e_559]; rfl
                          have i_x_558 : x_558.toInt = (n1 2).toInt := by rw [w_x_558]
                          refine ty_calli (W.runS (As := [.int r_53, .int x_552, .int x_555, .int x_558]) (rest := []) ⟨hx, hb, hml, hown, hts⟩ (m_X10_areWell l D t cI cL cC gC gE gW gA gT gI gS gM K F S N gH gJ e1 r_53 x_85 x_425 g1 gr n1 gb rV rN r_53 x_552 x_555 x_558  uq  ) (va_cwS 4 hts gu_X10_readsItem_X10_areWell_144 rfl rfl rfl (by decide +kernel) ⟨Nat.le_of_ble_eq_true rfl, Nat.le_of_ble_eq_true rfl⟩) (tP_S hG hE) rfl rfl hl.1 rfl (lv_room (Nat.le_of_ble_eq_true rfl)) dX10_readsItem_307 ⟨Nat.le_of_ble_eq_true rfl, Nat.le_of_ble_eq_true rfl⟩) hS (fun k h => by simp [wr0] at h) (fun r_560 H locs hp_561 hG hS o_562 => ?_)
                          have at_498 := va_at.keptC at_498 o_562 k_a0 rfl
                          have at_550 := va_at.keptC at_550 o_562 h_494 rfl
                          have hp_561 : (r_560 = 1 ∧ weOk r_53 x_552 x_555 ∧ well r_53.toInt x_552 x_555 x_558) ∨ (r_560 = 0 ∧ ¬ well r_53.toInt x_552 x_555 x_558) := hp_561
                          rcases hp_561 with ⟨rfl, p_564, p_565⟩ | ⟨rfl, p_566⟩
                          · skip
                            refine lv_if_eq (tgt := 317) hx hb dX10_readsItem_310 (by decide) (fun q => absurd q (by decide)) (fun _ => ?_)
                            refine lv_pc (pc2 := 313) rfl ?_
                            refine lv_iconst (v := 1) hx hb dX10_readsItem_313 (by decide) ?_
                            refine lv_goto (tgt := 318) hx hb dX10_readsItem_314 (by decide) ?_
                            refine lv_istore (lv' := [(7, .int 1), (6, .int vj450), (5, .int vj449), (4, .int r_60), (0, .ref a0), (1, .int a1), (2, .int a2), (3, .int a3)]) hx hb dX10_readsItem_318 hl (by decide) rfl (fun ls hl => ?_)
                            refine lv_aload_n hx hb dX10_readsItem_320 rfl (lv_at hl 4 rfl) ?_
                            refine lv_dup hx hb dX10_readsItem_321 rfl ?_
                            refine va_get (D := D) (ci := 9) (v := .int e1) (C := RX10) (T := TX10) (N := 36) hx hb hts in10 hown hK (va_one at_498) 0 rfl rfl 27 (by decide) (hts (.fieldLink RX10 109 "RiverModelModel" "end" "I") (List.mem_of_getElem? (i := 1) rfl)) (fun _ h9 => h9) rfl dX10_readsItem_322 ?_
                            refine lv_iconst (v := 1) hx hb dX10_readsItem_325 (by decide) ?_
                            refine lv_iadd hx hb dX10_readsItem_326 ?_
                            refine lv_topi (fun x_567 e_568 => ?_)
                            have i_x_567 : x_567.toInt = e1.toInt + 1 := by rw [e_568]; exact (q_add (by rw [show (1 : Int32).toInt = 1 by decide]; omega) (by rw [show (1 : Int32).toInt = 1 by decide]; omega)).trans (by rw [show (1 : Int32).toInt = 1 by decide])
                            refine lv_pc (pc2 := 327) rfl ?_
                            refine ty_put (D := D) (ci := 9) (v := .int x_567) (ty := .int) (C := RX10) (T := TX10) (N := 36) (F2 := (mF cI cL cC gC gE gW gA gT gI gS gM K F S N gH gJ x_567 r_53 x_85 x_425 g1 gr n1 gb rV rN)) hx hb hts in10 tyX10 tyX10_ok nmX10 hown hK hG hS at_498 (by rw [k_a0]; rfl) rfl 27 (by decide) (hts (.fieldLink RX10 109 "RiverModelModel" "end" "I") (List.mem_of_getElem? (i := 1) rfl)) (fun _ h9 => h9) rfl (by decide +kernel) rfl rfl (Nat.le_of_ble_eq_true rfl) (by rw [k_a0]; exact ⟨r_451, r_453, r_455, r_457, r_459, r_461, r_463, r_465, r_467, r_469, r_471, r_473, r_475, r_477, r_479, r_481, r_483, r_485, r_487, r_489, r_491, r_493, v_495, r_496, rfl, h_452, h_454, h_456, h_458, h_460, h_462, h_464, h_466, h_468, h_470, h_472, h_474, h_476, h_478, h_480, h_482, h_484, h_486, h_488, h_490, h_492, h_494, h_497⟩) (fun hG b hb h0 => by obtain ⟨e, g1, g2⟩ := hG b h0; exact ⟨e, g1, mF_ge (fun h => hb (uq b a0 (h.trans k_a0.symm) h0)) g2⟩) dX10_readsItem_327 (fun H locs hG hS at_569 o_570 => ?_)
                            have at_569 : va_at D vwCl (a0, .inr (9, [.int gC, .ref r_451, .int gb, .int gI, .ref r_453, .ref r_455, .ref r_457, .ref r_459, .int gS, .ref r_461, .ref r_463, .ref r_465, .ref r_467, .int gM, .ref r_469, .ref r_471, .ref r_473, .int gE, .ref r_475, .ref r_477, .ref r_479, .ref r_481, .ref r_483, .ref r_485, .ref r_487, .ref r_489, .ref r_491, .int x_567, .int r_53, .int x_85, .int x_425, .int g1, .ref r_493, .int gr, .int v_495, .ref r_496])) H := at_569
                            have at_550 := va_at.keptK at_550 o_570 k_a0 h_494 rfl
                            refine lv_iload hx hb dX10_readsItem_330 (lv_at hl 0 rfl) ?_
                            exact tx_zret (z := (x_567, r_53, x_85, x_425, g1, n1)) hx hb hr hlk rfl hG hS (Or.inl ⟨rfl, (by show a1.toInt < x_567.toInt; omega), (by show x_567.toInt ≤ a1.toInt + 40; omega), (by show itOk r_53 x_85 x_425 (n1 0) (n1 1); exact ⟨by omega, by omega, by omega, by omega, fun q => by have := p_564.1 (by omega); omega, fun q => by have := p_564.2 (by omega); omega⟩), (by show nmOk r_53 x_85 a2; exact nmOk.of fj449_2 (by omega)), (by show itemAt (byT gT gC) a1.toInt r_53 x_85 x_425 (n1 0) (n1 1) (n1 2) x_567.toInt; exact (itemAt.ofR (k := r_53) (by omega) (by omega) hnm v448_5 (by omega) (by omega) (by omega))), (by show okIt a2 a3.toInt r_53 x_85 x_425 (n1 0) (n1 1) (n1 2); exact okIt.of (by rw [← w_x_552, ← w_x_555, ← w_x_558]; exact p_565) fj449_2 fj450_2 (by omega) (by omega) (fun q => by omega))⟩) dX10_readsItem_332
                          · skip
                            refine lv_if_eq (tgt := 317) hx hb dX10_readsItem_310 (by decide) (fun _ => ?_) (fun q => absurd (by decide) q)
                            refine lv_iconst (v := 0) hx hb dX10_readsItem_317 (by decide) ?_
                            refine lv_istore (lv' := [(7, .int 0), (6, .int vj450), (5, .int vj449), (4, .int r_60), (0, .ref a0), (1, .int a1), (2, .int a2), (3, .int a3)]) hx hb dX10_readsItem_318 hl (by decide) rfl (fun ls hl => ?_)
                            refine lv_aload_n hx hb dX10_readsItem_320 rfl (lv_at hl 4 rfl) ?_
                            refine lv_dup hx hb dX10_readsItem_321 rfl ?_
                            refine lv_pc (pc2 := 322) rfl ?_
                            refine va_get (D := D) (ci := 9) (v := .int e1) (C := RX10) (T := TX10) (N := 36) hx hb hts in10 hown hK (va_one at_498) 0 rfl rfl 27 (by decide) (hts (.fieldLink RX10 109 "RiverModelModel" "end" "I") (List.mem_of_getElem? (i := 1) rfl)) (fun _ h9 => h9) rfl dX10_readsItem_322 ?_
                            refine lv_iconst (v := 1) hx hb dX10_readsItem_325 (by decide) ?_
                            refine lv_iadd hx hb dX10_readsItem_326 ?_
                            refine lv_topi (fun x_571 e_572 => ?_)
                            have i_x_571 : x_571.toInt = e1.toInt + 1 := by rw [e_572]; exact (q_add (by rw [show (1 : Int32).toInt = 1 by decide]; omega) (by rw [show (1 : Int32).toInt = 1 by decide]; omega)).trans (by rw [show (1 : Int32).toInt = 1 by decide])
                            refine ty_put (D := D) (ci := 9) (v := .int x_571) (ty := .int) (C := RX10) (T := TX10) (N := 36) (F2 := (mF cI cL cC gC gE gW gA gT gI gS gM K F S N gH gJ x_571 r_53 x_85 x_425 g1 gr n1 gb rV rN)) hx hb hts in10 tyX10 tyX10_ok nmX10 hown hK hG hS at_498 (by rw [k_a0]; rfl) rfl 27 (by decide) (hts (.fieldLink RX10 109 "RiverModelModel" "end" "I") (List.mem_of_getElem? (i := 1) rfl)) (fun _ h9 => h9) rfl (by decide +kernel) rfl rfl (Nat.le_of_ble_eq_true rfl) (by rw [k_a0]; exact ⟨r_451, r_453, r_455, r_457, r_459, r_461, r_463, r_465, r_467, r_469, r_471, r_473, r_475, r_477, r_479, r_481, r_483, r_485, r_487, r_489, r_491, r_493, v_495, r_496, rfl, h_452, h_454, h_456, h_458, h_460, h_462, h_464, h_466, h_468, h_470, h_472, h_474, h_476, h_478, h_480, h_482, h_484, h_486, h_488, h_490, h_492, h_494, h_497⟩) (fun hG b hb h0 => by obtain ⟨e, g1, g2⟩ := hG b h0; exact ⟨e, g1, mF_ge (fun h => hb (uq b a0 (h.trans k_a0.symm) h0)) g2⟩) dX10_readsItem_327 (fun H locs hG hS at_573 o_574 => ?_)
                            have at_573 : va_at D vwCl (a0, .inr (9, [.int gC, .ref r_451, .int gb, .int gI, .ref r_453, .ref r_455, .ref r_457, .ref r_459, .int gS, .ref r_461, .ref r_463, .ref r_465, .ref r_467, .int gM, .ref r_469, .ref r_471, .ref r_473, .int gE, .ref r_475, .ref r_477, .ref r_479, .ref r_481, .ref r_483, .ref r_485, .ref r_487, .ref r_489, .ref r_491, .int x_571, .int r_53, .int x_85, .int x_425, .int g1, .ref r_493, .int gr, .int v_495, .ref r_496])) H := at_573
                            have at_550 := va_at.keptK at_550 o_574 k_a0 h_494 rfl
                            refine lv_iload hx hb dX10_readsItem_330 (lv_at hl 0 rfl) ?_
                            exact tx_zret (z := (x_571, r_53, x_85, x_425, g1, n1)) hx hb hr hlk rfl hG hS (Or.inr ⟨rfl, (by show noVit (byT gT gC) a1.toInt a2 a3.toInt; exact vIt.no (itemAt.ofR (k := r_53) (by omega) (by omega) hnm v448_5 (by omega) (by omega) (by omega)) (okIt.now (by rw [← w_x_552, ← w_x_555, ← w_x_558]; exact p_566)))⟩) dX10_readsItem_332
              refine (hWW450 _ _ _).mpr ?_
              refine lv_aload_n hx hb dX10_readsItem_211 rfl (lv_at hl 2 rfl) ?_
              obtain ⟨r_575, r_577, r_579, r_581, r_583, r_585, r_587, r_589, r_591, r_593, r_595, r_597, r_599, r_601, r_603, r_605, r_607, r_609, r_611, r_613, r_615, r_617, v_619, r_620, at_622, h_576, h_578, h_580, h_582, h_584, h_586, h_588, h_590, h_592, h_594, h_596, h_598, h_600, h_602, h_604, h_606, h_608, h_610, h_612, h_614, h_616, h_618, h_621⟩ := mF_o40 hG k_a0
              refine va_get (D := D) (ci := 9) (v := .int x_425) (C := RX10) (T := TX10) (N := 36) hx hb hts in10 hown hK (va_one at_622) 0 rfl rfl 30 (by decide) (hts (.fieldLink RX10 138 "RiverModelModel" "readSecond" "I") (List.mem_of_getElem? (i := 12) rfl)) (fun _ h9 => h9) rfl dX10_readsItem_212 ?_
              refine lv_pc (pc2 := 215) rfl ?_
              refine lv_if_lt (tgt := 241) hx hb dX10_readsItem_215 (by decide) (fun c_623 => ?_) (fun c_623 => ?_)
              · skip
                have c_623 : x_425.toInt < 0 := q_lt c_623
                refine lv_iconst (v := 1) hx hb dX10_readsItem_241 (by decide) ?_
                refine lv_goto (tgt := 246) hx hb dX10_readsItem_242 (by decide) ?_
                exact (hWW450 _ _ _).mp (jn450 1 (by omega) (by omega) (by show twoQ (1 : Int32).toInt x_425.toInt x_85.toInt (bitI a2 x_425).toInt; unfold twoQ; omega))
              · skip
                have c_623 : 0 ≤ x_425.toInt := q_nlt c_623
                refine lv_aload_n hx hb dX10_readsItem_218 rfl (lv_at hl 2 rfl) ?_
                refine va_get (D := D) (ci := 9) (v := .int x_425) (C := RX10) (T := TX10) (N := 36) hx hb hts in10 hown hK (va_one at_622) 0 rfl rfl 30 (by decide) (hts (.fieldLink RX10 138 "RiverModelModel" "readSecond" "I") (List.mem_of_getElem? (i := 12) rfl)) (fun _ h9 => h9) rfl dX10_readsItem_219 ?_
                refine lv_aload_n hx hb dX10_readsItem_222 rfl (lv_at hl 2 rfl) ?_
                refine va_get (D := D) (ci := 9) (v := .int x_85) (C := RX10) (T := TX10) (N := 36) hx hb hts in10 hown hK (va_one at_622) 0 rfl rfl 29 (by decide) (hts (.fieldLink RX10 135 "RiverModelModel" "readFirst" "I") (List.mem_of_getElem? (i := 11) rfl)) (fun _ h9 => h9) rfl dX10_readsItem_223 ?_
                refine lv_icmp_eq (tgt := 245) hx hb dX10_readsItem_226 (by decide) (fun c_624 => ?_) (fun c_624 => ?_)
                · skip
                  have c_624 : x_425.toInt = x_85.toInt := q_eq c_624
                  refine lv_pc (pc2 := 245) rfl ?_
                  refine lv_iconst (v := 0) hx hb dX10_readsItem_245 (by decide) ?_
                  exact (hWW450 _ _ _).mp (jn450 0 (by omega) (by omega) (by show twoQ (0 : Int32).toInt x_425.toInt x_85.toInt (bitI a2 x_425).toInt; unfold twoQ; omega))
                · skip
                  have c_624 : x_425.toInt ≠ x_85.toInt := q_ne c_624
                  refine lv_iload_n hx hb dX10_readsItem_229 rfl (lv_at hl 4 rfl) ?_
                  refine lv_aload_n hx hb dX10_readsItem_230 rfl (lv_at hl 2 rfl) ?_
                  refine va_get (D := D) (ci := 9) (v := .int x_425) (C := RX10) (T := TX10) (N := 36) hx hb hts in10 hown hK (va_one at_622) 0 rfl rfl 30 (by decide) (hts (.fieldLink RX10 138 "RiverModelModel" "readSecond" "I") (List.mem_of_getElem? (i := 12) rfl)) (fun _ h9 => h9) rfl dX10_readsItem_231 ?_
                  refine lv_ishr hx hb dX10_readsItem_234 ?_
                  refine lv_topi (fun x_625 e_626 => ?_)
                  refine lv_iconst (v := 1) hx hb dX10_readsItem_235 (by decide) ?_
                  refine lv_iand hx hb dX10_readsItem_236 ?_
                  refine lv_topi (fun x_627 e_628 => ?_)
                  have w_x_627 : x_627 = bitI a2 x_425 := by rw [e_628, e_626]; rfl
                  have i_x_627 : x_627.toInt = (bitI a2 x_425).toInt := by rw [w_x_627]
                  refine lv_iconst (v := 1) hx hb dX10_readsItem_237 (by decide) ?_
                  refine lv_pc (pc2 := 238) rfl ?_
                  refine lv_icmp_ne (tgt := 245) hx hb dX10_readsItem_238 (by decide) (fun c_629 => ?_) (fun c_629 => ?_)
                  · skip
                    have c_629 : x_627.toInt ≠ 1 := q_ne c_629
                    refine lv_iconst (v := 0) hx hb dX10_readsItem_245 (by decide) ?_
                    exact (hWW450 _ _ _).mp (jn450 0 (by omega) (by omega) (by show twoQ (0 : Int32).toInt x_425.toInt x_85.toInt (bitI a2 x_425).toInt; unfold twoQ; omega))
                  · skip
                    have c_629 : x_627.toInt = 1 := q_eq c_629
                    refine lv_iconst (v := 1) hx hb dX10_readsItem_241 (by decide) ?_
                    refine lv_goto (tgt := 246) hx hb dX10_readsItem_242 (by decide) ?_
                    exact (hWW450 _ _ _).mp (jn450 1 (by omega) (by omega) (by show twoQ (1 : Int32).toInt x_425.toInt x_85.toInt (bitI a2 x_425).toInt; unfold twoQ; omega))
            refine (hWW449 _ _ _).mpr ?_
            refine lv_iload_n hx hb dX10_readsItem_179 rfl (lv_at hl 4 rfl) ?_
            refine lv_aload_n hx hb dX10_readsItem_180 rfl (lv_at hl 2 rfl) ?_
            obtain ⟨r_630, r_632, r_634, r_636, r_638, r_640, r_642, r_644, r_646, r_648, r_650, r_652, r_654, r_656, r_658, r_660, r_662, r_664, r_666, r_668, r_670, r_672, v_674, r_675, at_677, h_631, h_633, h_635, h_637, h_639, h_641, h_643, h_645, h_647, h_649, h_651, h_653, h_655, h_657, h_659, h_661, h_663, h_665, h_667, h_669, h_671, h_673, h_676⟩ := mF_o40 hG k_a0
            refine va_get (D := D) (ci := 9) (v := .int x_85) (C := RX10) (T := TX10) (N := 36) hx hb hts in10 hown hK (va_one at_677) 0 rfl rfl 29 (by decide) (hts (.fieldLink RX10 135 "RiverModelModel" "readFirst" "I") (List.mem_of_getElem? (i := 11) rfl)) (fun _ h9 => h9) rfl dX10_readsItem_181 ?_
            refine lv_ishr hx hb dX10_readsItem_184 ?_
            refine lv_topi (fun x_678 e_679 => ?_)
            refine lv_pc (pc2 := 185) rfl ?_
            refine lv_iconst (v := 1) hx hb dX10_readsItem_185 (by decide) ?_
            refine lv_iand hx hb dX10_readsItem_186 ?_
            refine lv_topi (fun x_680 e_681 => ?_)
            have w_x_680 : x_680 = bitI a2 x_85 := by rw [e_681, e_679]; rfl
            have i_x_680 : x_680.toInt = (bitI a2 x_85).toInt := by rw [w_x_680]
            refine lv_aload_n hx hb dX10_readsItem_187 rfl (lv_at hl 2 rfl) ?_
            refine va_get (D := D) (ci := 9) (v := .int r_53) (C := RX10) (T := TX10) (N := 36) hx hb hts in10 hown hK (va_one at_677) 0 rfl rfl 28 (by decide) (hts (.fieldLink RX10 125 "RiverModelModel" "readKind" "I") (List.mem_of_getElem? (i := 6) rfl)) (fun _ h9 => h9) rfl dX10_readsItem_188 ?_
            refine lv_bipush (v := 115) hx hb dX10_readsItem_191 (by decide) ?_
            refine lv_icmp_ne (tgt := 200) hx hb dX10_readsItem_193 (by decide) (fun c_682 => ?_) (fun c_682 => ?_)
            · skip
              have c_682 : r_53.toInt ≠ 115 := q_ne c_682
              refine lv_iconst (v := 1) hx hb dX10_readsItem_200 (by decide) ?_
              refine lv_icmp_ne (tgt := 208) hx hb dX10_readsItem_201 (by decide) (fun c_683 => ?_) (fun c_683 => ?_)
              · skip
                have c_683 : x_680.toInt ≠ 1 := q_ne c_683
                refine lv_pc (pc2 := 208) rfl ?_
                refine lv_iconst (v := 0) hx hb dX10_readsItem_208 (by decide) ?_
                exact (hWW449 _ _ _).mp (jn449 0 (by omega) (by omega) (by show oneQ (0 : Int32).toInt r_53.toInt (bitI a2 x_85).toInt; unfold oneQ; have := bit_01 a2 (f := x_85) (by omega) (by omega); omega))
              · skip
                have c_683 : x_680.toInt = 1 := q_eq c_683
                refine lv_iconst (v := 1) hx hb dX10_readsItem_204 (by decide) ?_
                refine lv_goto (tgt := 209) hx hb dX10_readsItem_205 (by decide) ?_
                exact (hWW449 _ _ _).mp (jn449 1 (by omega) (by omega) (by show oneQ (1 : Int32).toInt r_53.toInt (bitI a2 x_85).toInt; unfold oneQ; have := bit_01 a2 (f := x_85) (by omega) (by omega); omega))
            · skip
              have c_682 : r_53.toInt = 115 := q_eq c_682
              refine lv_iconst (v := 0) hx hb dX10_readsItem_196 (by decide) ?_
              refine lv_goto (tgt := 201) hx hb dX10_readsItem_197 (by decide) ?_
              refine lv_icmp_ne (tgt := 208) hx hb dX10_readsItem_201 (by decide) (fun c_684 => ?_) (fun c_684 => ?_)
              · skip
                have c_684 : x_680.toInt ≠ 0 := q_ne c_684
                refine lv_iconst (v := 0) hx hb dX10_readsItem_208 (by decide) ?_
                exact (hWW449 _ _ _).mp (jn449 0 (by omega) (by omega) (by show oneQ (0 : Int32).toInt r_53.toInt (bitI a2 x_85).toInt; unfold oneQ; have := bit_01 a2 (f := x_85) (by omega) (by omega); omega))
              · skip
                have c_684 : x_680.toInt = 0 := q_eq c_684
                refine lv_iconst (v := 1) hx hb dX10_readsItem_204 (by decide) ?_
                refine lv_pc (pc2 := 205) rfl ?_
                refine lv_goto (tgt := 209) hx hb dX10_readsItem_205 (by decide) ?_
                exact (hWW449 _ _ _).mp (jn449 1 (by omega) (by omega) (by show oneQ (1 : Int32).toInt r_53.toInt (bitI a2 x_85).toInt; unfold oneQ; have := bit_01 a2 (f := x_85) (by omega) (by omega); omega))
          have lp448 : ∀ (kk448 : Nat) (yi : Int32) (e1 : Int32) (g1 : Int32) (n1 : Nat → Int32) (H1 : Heap) (locs1 : List Loc) (ls1 : Array Slot), 3 - yi.toInt ≤ (kk448 : Int) → (0 ≤ yi.toInt) → (yi.toInt ≤ 3) → (a1.toInt < e1.toInt) → (e1.toInt ≤ a1.toInt + 3 + 9 * yi.toInt) → (yi.toInt ≤ shp (byT gT gC a1.toInt) % 10) → (numsR (byT gT gC) (a1.toInt + 3) yi.toInt 0 n1 e1.toInt) → tG D (mF cI cL cC gC gE gW gA gT gI gS gM K F S N gH gJ e1 r_53 x_85 x_425 g1 gr n1 gb rV rN) t H1 → tF t wP s.heap H1 locs1 → lv_has ls1 8 [(5, .int yi), (4, .int r_60), (0, .ref a0), (1, .int a1), (2, .int a2), (3, .int a3)] → WW448 H1 locs1 (F0 m 152 ls1 []) := by
            intro kk448
            induction kk448 with
            | zero =>
              intro yi e1 g1 n1 H locs ls hk448 v448_0 v448_1 v448_2 v448_3 v448_4 v448_5 hG hS hl
              refine (hWW448 _ _ _).mpr ?_
              refine lv_iload hx hb dX10_readsItem_152 (lv_at hl 0 rfl) ?_
              refine lv_iload hx hb dX10_readsItem_154 (lv_at hl 1 rfl) ?_
              refine lv_bipush (v := 10) hx hb dX10_readsItem_156 (by decide) ?_
              refine lv_irem hx hb dX10_readsItem_158 (by decide) ?_
              refine lv_topi (fun x_685 e_686 => ?_)
              have i_x_685 : x_685.toInt = r_60.toInt % 10 := by rw [e_686]; exact q_remE (n := 10) rfl (by decide) (by omega)
              refine lv_icmp_ge (tgt := 179) hx hb dX10_readsItem_159 (by decide) (fun c_687 => ?_) (fun c_687 => ?_)
              · skip
                have c_687 : x_685.toInt ≤ yi.toInt := q_le c_687
                exact (hWW448 _ _ _).mp (kx448 yi e1 g1 n1 H locs ls v448_0 v448_1 v448_2 v448_3 v448_4 v448_5 (by omega) hG hS (lv_sub hl [0, 1, 2, 3, 4, 5] rfl))
              · skip
                have c_687 : yi.toInt < x_685.toInt := q_nle c_687
                exfalso; omega
            | succ kk448 ih448 =>
              intro yi e1 g1 n1 H locs ls hk448 v448_0 v448_1 v448_2 v448_3 v448_4 v448_5 hG hS hl
              refine (hWW448 _ _ _).mpr ?_
              refine lv_iload hx hb dX10_readsItem_152 (lv_at hl 0 rfl) ?_
              refine lv_iload hx hb dX10_readsItem_154 (lv_at hl 1 rfl) ?_
              refine lv_pc (pc2 := 156) rfl ?_
              refine lv_bipush (v := 10) hx hb dX10_readsItem_156 (by decide) ?_
              refine lv_irem hx hb dX10_readsItem_158 (by decide) ?_
              refine lv_topi (fun x_688 e_689 => ?_)
              have i_x_688 : x_688.toInt = r_60.toInt % 10 := by rw [e_689]; exact q_remE (n := 10) rfl (by decide) (by omega)
              refine lv_icmp_ge (tgt := 179) hx hb dX10_readsItem_159 (by decide) (fun c_690 => ?_) (fun c_690 => ?_)
              · skip
                have c_690 : x_688.toInt ≤ yi.toInt := q_le c_690
                exact (hWW448 _ _ _).mp (kx448 yi e1 g1 n1 H locs ls v448_0 v448_1 v448_2 v448_3 v448_4 v448_5 (by omega) hG hS (lv_sub hl [0, 1, 2, 3, 4, 5] rfl))
              · skip
                have c_690 : yi.toInt < x_688.toInt := q_nle c_690
                refine lv_aload_n hx hb dX10_readsItem_162 rfl (lv_at hl 2 rfl) ?_
                refine lv_iload hx hb dX10_readsItem_163 (lv_at hl 0 rfl) ?_
                obtain ⟨r_691, r_693, r_695, r_697, r_699, r_701, r_703, r_705, r_707, r_709, r_711, r_713, r_715, r_717, r_719, r_721, r_723, r_725, r_727, r_729, r_731, r_733, v_735, r_736, at_738, h_692, h_694, h_696, h_698, h_700, h_702, h_704, h_706, h_708, h_710, h_712, h_714, h_716, h_718, h_720, h_722, h_724, h_726, h_728, h_730, h_732, h_734, h_737⟩ := mF_o40 hG k_a0
                refine tx_calli (W.runV (As := [.int yi]) (rest := []) ⟨hx, hb, hml, hown, hts⟩ (m_X10_readsNumber l D t cI cL cC gC gE gW gA gT gI gS gM K F S N gH gJ e1 r_53 x_85 x_425 g1 gr n1 gb rV rN a0 yi  uq (by omega) (by omega) (by omega) (by omega) (by omega) (by omega) k_a0) (cwV 1 hts gu_X10_readsItem_X10_readsNumber_141 rfl rfl rfl (by decide +kernel) ⟨Nat.le_of_ble_eq_true rfl, Nat.le_of_ble_eq_true rfl⟩) (tP_V hG hE at_738 rfl) rfl rfl hl.1 rfl (lv_room (Nat.le_of_ble_eq_true rfl)) dX10_readsItem_165 ⟨Nat.le_of_ble_eq_true rfl, Nat.le_of_ble_eq_true rfl⟩) hS (fun _ h => h) (fun r_739 zz_742 H locs hp_740 hG hS o_741 => ?_)
                obtain ⟨ge_743, gg_744, RN_745⟩ := zz_742
                replace hG : tG D (mF cI cL cC gC gE gW gA gT gI gS gM K F S N gH gJ ge_743 r_53 x_85 x_425 gg_744 gr RN_745 gb rV rN) t H := hG
                have hp_740 : (r_739 = 1 ∧ e1.toInt < ge_743.toInt ∧ ge_743.toInt ≤ e1.toInt + 9 ∧ numR (byT gT gC) e1.toInt ge_743.toInt n1 RN_745 yi.toInt.toNat) ∨ (r_739 = 0 ∧ noNum (byT gT gC) e1.toInt) := hp_740
                rcases hp_740 with ⟨rfl, p_746, p_747, p_748⟩ | ⟨rfl, p_749⟩
                · skip
                  refine lv_if_ne (tgt := 173) hx hb dX10_readsItem_168 (by decide) (fun _ => ?_) (fun q => absurd q (by decide))
                  obtain ⟨x_750, e_751⟩ : ∃ y : Int32, y = yi + Int32.ofInt 1 := ⟨_, rfl⟩
                  have i_x_750 : x_750.toInt = yi.toInt + 1 := by rw [e_751, show Int32.ofInt 1 = 1 by decide]; exact (q_add (by rw [show (1 : Int32).toInt = 1 by decide]; omega) (by rw [show (1 : Int32).toInt = 1 by decide]; omega)).trans (by rw [show (1 : Int32).toInt = 1 by decide])
                  refine lv_iinc (v := x_750) (lv' := [(5, .int x_750), (4, .int r_60), (0, .ref a0), (1, .int a1), (2, .int a2), (3, .int a3)]) hx hb dX10_readsItem_173 hl (k := 0) rfl e_751.symm (by decide) rfl (fun ls hl => ?_)
                  refine lv_pc (pc2 := 176) rfl ?_
                  refine lv_goto (tgt := 152) hx hb dX10_readsItem_176 (by decide) ?_
                  exact (hWW448 _ _ _).mp (ih448 x_750 ge_743 gg_744 RN_745 H locs ls (by omega) (by omega) (by omega) (by omega) (by omega) (by omega) (numsR.step v448_5 p_748 (by omega) (by omega) (by omega)) hG hS (lv_sub hl [0, 1, 2, 3, 4, 5] rfl))
                · skip
                  refine lv_if_ne (tgt := 173) hx hb dX10_readsItem_168 (by decide) (fun q => absurd rfl q) (fun _ => ?_)
                  refine lv_iconst (v := 0) hx hb dX10_readsItem_171 (by decide) ?_
                  exact tx_zret (z := (ge_743, r_53, x_85, x_425, gg_744, RN_745)) hx hb hr hlk rfl hG hS (Or.inr ⟨rfl, (by show noVit (byT gT gC) a1.toInt a2 a3.toInt; exact noItem.v (noItem.numN hnm (noNums.of v448_5 p_749) (by omega)))⟩) dX10_readsItem_172
          exact lp448 (3 - (0 : Int32).toInt : Int).toNat 0 x_429 gg q_445 H locs ls (by omega) (by omega) (by omega) (by omega) (by omega) (by omega) (by rw [zi_0]; exact numsR.zero (by rw [eq_445, eq_440, eq_435]; rfl) (by rw [eq_445, eq_440, eq_435]; rfl) (by rw [eq_445, eq_440, eq_435]; rfl) (by omega)) hG hS (lv_sub hl [0, 1, 2, 3, 4, 5] rfl)
        · skip
          refine lv_if_ne (tgt := 100) hx hb dX10_readsItem_95 (by decide) (fun q => absurd rfl q) (fun _ => ?_)
          refine lv_iconst (v := 0) hx hb dX10_readsItem_98 (by decide) ?_
          have zi_0 : (0 : Int32).toInt = 0 := by decide
          exact tx_zret (z := (x_91, r_53, x_85, -4, gg, RN)) hx hb hr hlk rfl hG hS (Or.inr ⟨rfl, (by show noVit (byT gT gC) a1.toInt a2 a3.toInt; exact noItem.v (noItem.name2 (by omega) (by unfold nmB; omega)))⟩) dX10_readsItem_99
    · skip
      refine lv_if_ne (tgt := 46) hx hb dX10_readsItem_41 (by decide) (fun q => absurd rfl q) (fun _ => ?_)
      refine lv_pc (pc2 := 44) rfl ?_
      refine lv_iconst (v := 0) hx hb dX10_readsItem_44 (by decide) ?_
      have zi_0 : (0 : Int32).toInt = 0 := by decide
      exact tx_zret (z := (x_1, r_53, gf, gs, gg, RN)) hx hb hr hlk rfl hG hS (Or.inr ⟨rfl, (by show noVit (byT gT gC) a1.toInt a2 a3.toInt; exact noItem.v (noItem.name1 (by unfold nmB; omega)))⟩) dX10_readsItem_45
