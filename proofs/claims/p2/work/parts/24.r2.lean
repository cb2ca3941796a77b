theorem dX10_readsItem_0 : decode cX10_readsItem 0 = .ok (.aload_n 0, 1) := by decide +kernel
theorem dX10_readsItem_1 : decode cX10_readsItem 1 = .ok (.iload_n 1, 1) := by decide +kernel
theorem dX10_readsItem_2 : decode cX10_readsItem 2 = .ok (.iconst 1, 1) := by decide +kernel
theorem dX10_readsItem_3 : decode cX10_readsItem 3 = .ok (.iadd, 1) := by decide +kernel
theorem dX10_readsItem_4 : decode cX10_readsItem 4 = .ok (.putfield 109, 3) := by decide +kernel
theorem dX10_readsItem_7 : decode cX10_readsItem 7 = .ok (.aload_n 0, 1) := by decide +kernel
theorem dX10_readsItem_8 : decode cX10_readsItem 8 = .ok (.aload_n 0, 1) := by decide +kernel
theorem dX10_readsItem_9 : decode cX10_readsItem 9 = .ok (.iload_n 1, 1) := by decide +kernel
theorem dX10_readsItem_10 : decode cX10_readsItem 10 = .ok (.invokevirtual 112, 3) := by decide +kernel
theorem dX10_readsItem_13 : decode cX10_readsItem 13 = .ok (.putfield 125, 3) := by decide +kernel
theorem dX10_readsItem_16 : decode cX10_readsItem 16 = .ok (.aload_n 0, 1) := by decide +kernel
theorem dX10_readsItem_17 : decode cX10_readsItem 17 = .ok (.getfield 125, 3) := by decide +kernel
theorem dX10_readsItem_20 : decode cX10_readsItem 20 = .ok (.invokestatic 128, 3) := by decide +kernel
theorem dX10_readsItem_23 : decode cX10_readsItem 23 = .ok (.istore 4, 2) := by decide +kernel
theorem dX10_readsItem_25 : decode cX10_readsItem 25 = .ok (.iload 4, 2) := by decide +kernel
theorem dX10_readsItem_27 : decode cX10_readsItem 27 = .ok (.ifCond .lt 17, 3) := by decide +kernel
theorem dX10_readsItem_30 : decode cX10_readsItem 30 = .ok (.aload_n 0, 1) := by decide +kernel
theorem dX10_readsItem_31 : decode cX10_readsItem 31 = .ok (.aload_n 0, 1) := by decide +kernel
theorem dX10_readsItem_32 : decode cX10_readsItem 32 = .ok (.getfield 109, 3) := by decide +kernel
theorem dX10_readsItem_35 : decode cX10_readsItem 35 = .ok (.invokevirtual 112, 3) := by decide +kernel
theorem dX10_readsItem_38 : decode cX10_readsItem 38 = .ok (.invokestatic 131, 3) := by decide +kernel
theorem dX10_readsItem_41 : decode cX10_readsItem 41 = .ok (.ifCond .ne 5, 3) := by decide +kernel
theorem dX10_readsItem_44 : decode cX10_readsItem 44 = .ok (.iconst 0, 1) := by decide +kernel
theorem dX10_readsItem_45 : decode cX10_readsItem 45 = .ok (.ireturn, 1) := by decide +kernel
theorem dX10_readsItem_46 : decode cX10_readsItem 46 = .ok (.aload_n 0, 1) := by decide +kernel
theorem dX10_readsItem_47 : decode cX10_readsItem 47 = .ok (.aload_n 0, 1) := by decide +kernel
theorem dX10_readsItem_48 : decode cX10_readsItem 48 = .ok (.aload_n 0, 1) := by decide +kernel
theorem dX10_readsItem_49 : decode cX10_readsItem 49 = .ok (.getfield 109, 3) := by decide +kernel
theorem dX10_readsItem_52 : decode cX10_readsItem 52 = .ok (.invokevirtual 112, 3) := by decide +kernel
theorem dX10_readsItem_55 : decode cX10_readsItem 55 = .ok (.bipush 97, 2) := by decide +kernel
theorem dX10_readsItem_57 : decode cX10_readsItem 57 = .ok (.isub, 1) := by decide +kernel
theorem dX10_readsItem_58 : decode cX10_readsItem 58 = .ok (.putfield 135, 3) := by decide +kernel
theorem dX10_readsItem_61 : decode cX10_readsItem 61 = .ok (.aload_n 0, 1) := by decide +kernel
theorem dX10_readsItem_62 : decode cX10_readsItem 62 = .ok (.bipush (-4), 2) := by decide +kernel
theorem dX10_readsItem_64 : decode cX10_readsItem 64 = .ok (.putfield 138, 3) := by decide +kernel
theorem dX10_readsItem_67 : decode cX10_readsItem 67 = .ok (.aload_n 0, 1) := by decide +kernel
theorem dX10_readsItem_68 : decode cX10_readsItem 68 = .ok (.dup, 1) := by decide +kernel
theorem dX10_readsItem_69 : decode cX10_readsItem 69 = .ok (.getfield 109, 3) := by decide +kernel
theorem dX10_readsItem_72 : decode cX10_readsItem 72 = .ok (.iconst 1, 1) := by decide +kernel
theorem dX10_readsItem_73 : decode cX10_readsItem 73 = .ok (.iadd, 1) := by decide +kernel
theorem dX10_readsItem_74 : decode cX10_readsItem 74 = .ok (.putfield 109, 3) := by decide +kernel
theorem dX10_readsItem_77 : decode cX10_readsItem 77 = .ok (.iload 4, 2) := by decide +kernel
theorem dX10_readsItem_79 : decode cX10_readsItem 79 = .ok (.bipush 19, 2) := by decide +kernel
theorem dX10_readsItem_81 : decode cX10_readsItem 81 = .ok (.if_icmp .le 44, 3) := by decide +kernel
theorem dX10_readsItem_84 : decode cX10_readsItem 84 = .ok (.aload_n 0, 1) := by decide +kernel
theorem dX10_readsItem_85 : decode cX10_readsItem 85 = .ok (.aload_n 0, 1) := by decide +kernel
theorem dX10_readsItem_86 : decode cX10_readsItem 86 = .ok (.getfield 109, 3) := by decide +kernel
theorem dX10_readsItem_89 : decode cX10_readsItem 89 = .ok (.invokevirtual 112, 3) := by decide +kernel
theorem dX10_readsItem_92 : decode cX10_readsItem 92 = .ok (.invokestatic 131, 3) := by decide +kernel
theorem dX10_readsItem_95 : decode cX10_readsItem 95 = .ok (.ifCond .ne 5, 3) := by decide +kernel
theorem dX10_readsItem_98 : decode cX10_readsItem 98 = .ok (.iconst 0, 1) := by decide +kernel
theorem dX10_readsItem_99 : decode cX10_readsItem 99 = .ok (.ireturn, 1) := by decide +kernel
theorem dX10_readsItem_100 : decode cX10_readsItem 100 = .ok (.aload_n 0, 1) := by decide +kernel
theorem dX10_readsItem_101 : decode cX10_readsItem 101 = .ok (.aload_n 0, 1) := by decide +kernel
theorem dX10_readsItem_102 : decode cX10_readsItem 102 = .ok (.aload_n 0, 1) := by decide +kernel
theorem dX10_readsItem_103 : decode cX10_readsItem 103 = .ok (.getfield 109, 3) := by decide +kernel
theorem dX10_readsItem_106 : decode cX10_readsItem 106 = .ok (.invokevirtual 112, 3) := by decide +kernel
theorem dX10_readsItem_109 : decode cX10_readsItem 109 = .ok (.bipush 97, 2) := by decide +kernel
theorem dX10_readsItem_111 : decode cX10_readsItem 111 = .ok (.isub, 1) := by decide +kernel
theorem dX10_readsItem_112 : decode cX10_readsItem 112 = .ok (.putfield 138, 3) := by decide +kernel
theorem dX10_readsItem_115 : decode cX10_readsItem 115 = .ok (.aload_n 0, 1) := by decide +kernel
theorem dX10_readsItem_116 : decode cX10_readsItem 116 = .ok (.dup, 1) := by decide +kernel
theorem dX10_readsItem_117 : decode cX10_readsItem 117 = .ok (.getfield 109, 3) := by decide +kernel
theorem dX10_readsItem_120 : decode cX10_readsItem 120 = .ok (.iconst 1, 1) := by decide +kernel
theorem dX10_readsItem_121 : decode cX10_readsItem 121 = .ok (.iadd, 1) := by decide +kernel
theorem dX10_readsItem_122 : decode cX10_readsItem 122 = .ok (.putfield 109, 3) := by decide +kernel
theorem dX10_readsItem_125 : decode cX10_readsItem 125 = .ok (.iconst 0, 1) := by decide +kernel
theorem dX10_readsItem_126 : decode cX10_readsItem 126 = .ok (.istore 5, 2) := by decide +kernel
theorem dX10_readsItem_128 : decode cX10_readsItem 128 = .ok (.iload 5, 2) := by decide +kernel
theorem dX10_readsItem_130 : decode cX10_readsItem 130 = .ok (.iconst 3, 1) := by decide +kernel
theorem dX10_readsItem_131 : decode cX10_readsItem 131 = .ok (.if_icmp .ge 18, 3) := by decide +kernel
theorem dX10_readsItem_134 : decode cX10_readsItem 134 = .ok (.aload_n 0, 1) := by decide +kernel
theorem dX10_readsItem_135 : decode cX10_readsItem 135 = .ok (.getfield 74, 3) := by decide +kernel
theorem dX10_readsItem_138 : decode cX10_readsItem 138 = .ok (.iload 5, 2) := by decide +kernel
theorem dX10_readsItem_140 : decode cX10_readsItem 140 = .ok (.bipush (-4), 2) := by decide +kernel
theorem dX10_readsItem_142 : decode cX10_readsItem 142 = .ok (.iastore, 1) := by decide +kernel
theorem dX10_readsItem_143 : decode cX10_readsItem 143 = .ok (.iinc 5 1, 3) := by decide +kernel
theorem dX10_readsItem_146 : decode cX10_readsItem 146 = .ok (.goto (-18), 3) := by decide +kernel
theorem dX10_readsItem_149 : decode cX10_readsItem 149 = .ok (.iconst 0, 1) := by decide +kernel
theorem dX10_readsItem_150 : decode cX10_readsItem 150 = .ok (.istore 5, 2) := by decide +kernel
theorem dX10_readsItem_152 : decode cX10_readsItem 152 = .ok (.iload 5, 2) := by decide +kernel
theorem dX10_readsItem_154 : decode cX10_readsItem 154 = .ok (.iload 4, 2) := by decide +kernel
theorem dX10_readsItem_156 : decode cX10_readsItem 156 = .ok (.bipush 10, 2) := by decide +kernel
theorem dX10_readsItem_158 : decode cX10_readsItem 158 = .ok (.irem, 1) := by decide +kernel
theorem dX10_readsItem_159 : decode cX10_readsItem 159 = .ok (.if_icmp .ge 20, 3) := by decide +kernel
theorem dX10_readsItem_162 : decode cX10_readsItem 162 = .ok (.aload_n 0, 1) := by decide +kernel
theorem dX10_readsItem_163 : decode cX10_readsItem 163 = .ok (.iload 5, 2) := by decide +kernel
theorem dX10_readsItem_165 : decode cX10_readsItem 165 = .ok (.invokevirtual 141, 3) := by decide +kernel
theorem dX10_readsItem_168 : decode cX10_readsItem 168 = .ok (.ifCond .ne 5, 3) := by decide +kernel
theorem dX10_readsItem_171 : decode cX10_readsItem 171 = .ok (.iconst 0, 1) := by decide +kernel
theorem dX10_readsItem_172 : decode cX10_readsItem 172 = .ok (.ireturn, 1) := by decide +kernel
theorem dX10_readsItem_173 : decode cX10_readsItem 173 = .ok (.iinc 5 1, 3) := by decide +kernel
theorem dX10_readsItem_176 : decode cX10_readsItem 176 = .ok (.goto (-24), 3) := by decide +kernel
theorem dX10_readsItem_179 : decode cX10_readsItem 179 = .ok (.iload_n 2, 1) := by decide +kernel
theorem dX10_readsItem_180 : decode cX10_readsItem 180 = .ok (.aload_n 0, 1) := by decide +kernel
theorem dX10_readsItem_181 : decode cX10_readsItem 181 = .ok (.getfield 135, 3) := by decide +kernel
theorem dX10_readsItem_184 : decode cX10_readsItem 184 = .ok (.ishr, 1) := by decide +kernel
theorem dX10_readsItem_185 : decode cX10_readsItem 185 = .ok (.iconst 1, 1) := by decide +kernel
theorem dX10_readsItem_186 : decode cX10_readsItem 186 = .ok (.iand, 1) := by decide +kernel
theorem dX10_readsItem_187 : decode cX10_readsItem 187 = .ok (.aload_n 0, 1) := by decide +kernel
theorem dX10_readsItem_188 : decode cX10_readsItem 188 = .ok (.getfield 125, 3) := by decide +kernel
theorem dX10_readsItem_191 : decode cX10_readsItem 191 = .ok (.bipush 115, 2) := by decide +kernel
theorem dX10_readsItem_193 : decode cX10_readsItem 193 = .ok (.if_icmp .ne 7, 3) := by decide +kernel
theorem dX10_readsItem_196 : decode cX10_readsItem 196 = .ok (.iconst 0, 1) := by decide +kernel
theorem dX10_readsItem_197 : decode cX10_readsItem 197 = .ok (.goto 4, 3) := by decide +kernel
theorem dX10_readsItem_200 : decode cX10_readsItem 200 = .ok (.iconst 1, 1) := by decide +kernel
theorem dX10_readsItem_201 : decode cX10_readsItem 201 = .ok (.if_icmp .ne 7, 3) := by decide +kernel
theorem dX10_readsItem_204 : decode cX10_readsItem 204 = .ok (.iconst 1, 1) := by decide +kernel
theorem dX10_readsItem_205 : decode cX10_readsItem 205 = .ok (.goto 4, 3) := by decide +kernel
theorem dX10_readsItem_208 : decode cX10_readsItem 208 = .ok (.iconst 0, 1) := by decide +kernel
theorem dX10_readsItem_209 : decode cX10_readsItem 209 = .ok (.istore 5, 2) := by decide +kernel
theorem dX10_readsItem_211 : decode cX10_readsItem 211 = .ok (.aload_n 0, 1) := by decide +kernel
theorem dX10_readsItem_212 : decode cX10_readsItem 212 = .ok (.getfield 138, 3) := by decide +kernel
theorem dX10_readsItem_215 : decode cX10_readsItem 215 = .ok (.ifCond .lt 26, 3) := by decide +kernel
theorem dX10_readsItem_218 : decode cX10_readsItem 218 = .ok (.aload_n 0, 1) := by decide +kernel
theorem dX10_readsItem_219 : decode cX10_readsItem 219 = .ok (.getfield 138, 3) := by decide +kernel
theorem dX10_readsItem_222 : decode cX10_readsItem 222 = .ok (.aload_n 0, 1) := by decide +kernel
theorem dX10_readsItem_223 : decode cX10_readsItem 223 = .ok (.getfield 135, 3) := by decide +kernel
theorem dX10_readsItem_226 : decode cX10_readsItem 226 = .ok (.if_icmp .eq 19, 3) := by decide +kernel
theorem dX10_readsItem_229 : decode cX10_readsItem 229 = .ok (.iload_n 2, 1) := by decide +kernel
theorem dX10_readsItem_230 : decode cX10_readsItem 230 = .ok (.aload_n 0, 1) := by decide +kernel
theorem dX10_readsItem_231 : decode cX10_readsItem 231 = .ok (.getfield 138, 3) := by decide +kernel
theorem dX10_readsItem_234 : decode cX10_readsItem 234 = .ok (.ishr, 1) := by decide +kernel
theorem dX10_readsItem_235 : decode cX10_readsItem 235 = .ok (.iconst 1, 1) := by decide +kernel
theorem dX10_readsItem_236 : decode cX10_readsItem 236 = .ok (.iand, 1) := by decide +kernel
theorem dX10_readsItem_237 : decode cX10_readsItem 237 = .ok (.iconst 1, 1) := by decide +kernel
theorem dX10_readsItem_238 : decode cX10_readsItem 238 = .ok (.if_icmp .ne 7, 3) := by decide +kernel
theorem dX10_readsItem_241 : decode cX10_readsItem 241 = .ok (.iconst 1, 1) := by decide +kernel
theorem dX10_readsItem_242 : decode cX10_readsItem 242 = .ok (.goto 4, 3) := by decide +kernel
theorem dX10_readsItem_245 : decode cX10_readsItem 245 = .ok (.iconst 0, 1) := by decide +kernel
theorem dX10_readsItem_246 : decode cX10_readsItem 246 = .ok (.istore 6, 2) := by decide +kernel
theorem dX10_readsItem_248 : decode cX10_readsItem 248 = .ok (.aload_n 0, 1) := by decide +kernel
theorem dX10_readsItem_249 : decode cX10_readsItem 249 = .ok (.aload_n 0, 1) := by decide +kernel
theorem dX10_readsItem_250 : decode cX10_readsItem 250 = .ok (.getfield 109, 3) := by decide +kernel
theorem dX10_readsItem_253 : decode cX10_readsItem 253 = .ok (.invokevirtual 112, 3) := by decide +kernel
theorem dX10_readsItem_256 : decode cX10_readsItem 256 = .ok (.bipush 59, 2) := by decide +kernel
theorem dX10_readsItem_258 : decode cX10_readsItem 258 = .ok (.if_icmp .ne 59, 3) := by decide +kernel
theorem dX10_readsItem_261 : decode cX10_readsItem 261 = .ok (.iload 5, 2) := by decide +kernel
theorem dX10_readsItem_263 : decode cX10_readsItem 263 = .ok (.ifCond .eq 54, 3) := by decide +kernel
theorem dX10_readsItem_266 : decode cX10_readsItem 266 = .ok (.iload 6, 2) := by decide +kernel
theorem dX10_readsItem_268 : decode cX10_readsItem 268 = .ok (.ifCond .eq 49, 3) := by decide +kernel
theorem dX10_readsItem_271 : decode cX10_readsItem 271 = .ok (.aload_n 0, 1) := by decide +kernel
theorem dX10_readsItem_272 : decode cX10_readsItem 272 = .ok (.getfield 125, 3) := by decide +kernel
theorem dX10_readsItem_275 : decode cX10_readsItem 275 = .ok (.bipush 103, 2) := by decide +kernel
theorem dX10_readsItem_277 : decode cX10_readsItem 277 = .ok (.if_icmp .ne 8, 3) := by decide +kernel
theorem dX10_readsItem_280 : decode cX10_readsItem 280 = .ok (.iload_n 3, 1) := by decide +kernel
theorem dX10_readsItem_281 : decode cX10_readsItem 281 = .ok (.iconst 4, 1) := by decide +kernel
theorem dX10_readsItem_282 : decode cX10_readsItem 282 = .ok (.if_icmp .ge 35, 3) := by decide +kernel
theorem dX10_readsItem_285 : decode cX10_readsItem 285 = .ok (.aload_n 0, 1) := by decide +kernel
theorem dX10_readsItem_286 : decode cX10_readsItem 286 = .ok (.getfield 125, 3) := by decide +kernel
theorem dX10_readsItem_289 : decode cX10_readsItem 289 = .ok (.aload_n 0, 1) := by decide +kernel
theorem dX10_readsItem_290 : decode cX10_readsItem 290 = .ok (.getfield 74, 3) := by decide +kernel
theorem dX10_readsItem_293 : decode cX10_readsItem 293 = .ok (.iconst 0, 1) := by decide +kernel
theorem dX10_readsItem_294 : decode cX10_readsItem 294 = .ok (.iaload, 1) := by decide +kernel
theorem dX10_readsItem_295 : decode cX10_readsItem 295 = .ok (.aload_n 0, 1) := by decide +kernel
theorem dX10_readsItem_296 : decode cX10_readsItem 296 = .ok (.getfield 74, 3) := by decide +kernel
theorem dX10_readsItem_299 : decode cX10_readsItem 299 = .ok (.iconst 1, 1) := by decide +kernel
theorem dX10_readsItem_300 : decode cX10_readsItem 300 = .ok (.iaload, 1) := by decide +kernel
theorem dX10_readsItem_301 : decode cX10_readsItem 301 = .ok (.aload_n 0, 1) := by decide +kernel
theorem dX10_readsItem_302 : decode cX10_readsItem 302 = .ok (.getfield 74, 3) := by decide +kernel
theorem dX10_readsItem_305 : decode cX10_readsItem 305 = .ok (.iconst 2, 1) := by decide +kernel
theorem dX10_readsItem_306 : decode cX10_readsItem 306 = .ok (.iaload, 1) := by decide +kernel
theorem dX10_readsItem_307 : decode cX10_readsItem 307 = .ok (.invokestatic 144, 3) := by decide +kernel
theorem dX10_readsItem_310 : decode cX10_readsItem 310 = .ok (.ifCond .eq 7, 3) := by decide +kernel
theorem dX10_readsItem_313 : decode cX10_readsItem 313 = .ok (.iconst 1, 1) := by decide +kernel
theorem dX10_readsItem_314 : decode cX10_readsItem 314 = .ok (.goto 4, 3) := by decide +kernel
theorem dX10_readsItem_317 : decode cX10_readsItem 317 = .ok (.iconst 0, 1) := by decide +kernel
theorem dX10_readsItem_318 : decode cX10_readsItem 318 = .ok (.istore 7, 2) := by decide +kernel
theorem dX10_readsItem_320 : decode cX10_readsItem 320 = .ok (.aload_n 0, 1) := by decide +kernel
theorem dX10_readsItem_321 : decode cX10_readsItem 321 = .ok (.dup, 1) := by decide +kernel
theorem dX10_readsItem_322 : decode cX10_readsItem 322 = .ok (.getfield 109, 3) := by decide +kernel
theorem dX10_readsItem_325 : decode cX10_readsItem 325 = .ok (.iconst 1, 1) := by decide +kernel
theorem dX10_readsItem_326 : decode cX10_readsItem 326 = .ok (.iadd, 1) := by decide +kernel
theorem dX10_readsItem_327 : decode cX10_readsItem 327 = .ok (.putfield 109, 3) := by decide +kernel
theorem dX10_readsItem_330 : decode cX10_readsItem 330 = .ok (.iload 7, 2) := by decide +kernel
theorem dX10_readsItem_332 : decode cX10_readsItem 332 = .ok (.ireturn, 1) := by decide +kernel
def uX10_readsItem : List Cond := .code yX10_readsItem cX10_readsItem 8 (some .boolean) :: ([.fieldLink RX10 109 "RiverModelModel" "end" "I", .methodLink RX10 112 yX10_byteAt, .instanceMethod yX10_byteAt, .selects RX10 yX10_byteAt yX10_byteAt, .initialized RX10, .fieldLink RX10 125 "RiverModelModel" "readKind" "I", .methodLink RX10 128 yX10_shape, .static yX10_shape, .methodLink RX10 131 yX10_isName, .static yX10_isName, .fieldLink RX10 135 "RiverModelModel" "readFirst" "I", .fieldLink RX10 138 "RiverModelModel" "readSecond" "I", .fieldLink RX10 74 "RiverModelModel" "readNumber" "[I", .methodLink RX10 144 yX10_areWell, .static yX10_areWell, .methodLink RX10 141 yX10_readsNumber, .instanceMethod yX10_readsNumber, .selects RX10 yX10_readsNumber yX10_readsNumber, .code yX10_byteAt cX10_byteAt 2 (some .int), .fieldLink RX10 89 "RiverModelModel" "length" "I", .fieldLink RX10 7 "RiverModelModel" "text" "[I", .code yX10_shape cX10_shape 1 (some .int), .code yX10_isName cX10_isName 1 (some .boolean), .constantLong RX10 95 (97), .constantLong RX10 97 (112), .methodLink RX10 85 yX10_in, .static yX10_in, .code yX10_in cX10_in 6 (some .boolean), .code yX10_areWell cX10_areWell 4 (some .boolean), .constantLong RX10 101 (1000), .constantLong RX10 103 (10000), .constantLong RX10 99 (1000000), .constantLong RX10 107 (100), .constantLong RX10 105 (12), .code yX10_readsNumber cX10_readsNumber 3 (some .boolean), .fieldLink RX10 116 "RiverModelModel" "figures" "I", .constantLong RX10 123 (7), .constantLong RX10 119 (48), .constantLong RX10 121 (57)] ++ wsX100)
set_option maxRecDepth 20000 in
theorem gu_X10_readsItem_X10_byteAt_112 : GoodIn uX10_readsItem (wsV RX10 112 RX10 yX10_byteAt uX10_byteAt) := goodIn_r _ [2, 3, 4, 5, 19, 20, 21, 40, 41, 42, 43, 44, 45, 46, 47, 48, 49, 50, 51, 52, 53, 54, 55, 56, 57, 58, 59, 60, 61, 62, 63, 64, 65, 66, 67, 68, 69, 70, 71, 72, 73, 74, 75] rfl (by decide +kernel)
set_option maxRecDepth 20000 in
theorem gu_X10_readsItem_X10_shape_128 : GoodIn uX10_readsItem (va_wsS RX10 128 yX10_shape uX10_shape) := goodIn_r _ [7, 8, 5, 22] rfl (by decide +kernel)
set_option maxRecDepth 20000 in
theorem gu_X10_readsItem_X10_isName_131 : GoodIn uX10_readsItem (va_wsS RX10 131 yX10_isName uX10_isName) := goodIn_r _ [9, 10, 5, 23, 24, 25, 26, 27, 5, 28] rfl (by decide +kernel)
set_option maxRecDepth 20000 in
theorem gu_X10_readsItem_X10_areWell_144 : GoodIn uX10_readsItem (va_wsS RX10 144 yX10_areWell uX10_areWell) := goodIn_r _ [14, 15, 5, 29, 30, 26, 27, 5, 31, 32, 33, 34, 28] rfl (by decide +kernel)
set_option maxRecDepth 20000 in
theorem gu_X10_readsItem_X10_readsNumber_141 : GoodIn uX10_readsItem (wsV RX10 141 RX10 yX10_readsNumber uX10_readsNumber) := goodIn_r _ [16, 17, 18, 5, 35, 1, 2, 3, 4, 5, 36, 13, 37, 26, 27, 38, 39, 19, 20, 21, 28, 40, 41, 42, 43, 44, 45, 46, 47, 48, 49, 50, 51, 52, 53, 54, 55, 56, 57, 58, 59, 60, 61, 62, 63, 64, 65, 66, 67, 68, 69, 70, 71, 72, 73, 74, 75] rfl (by decide +kernel)
set_option maxHeartbeats 4000000 in
set_option maxRecDepth 100000 in
theorem m_X10_readsItem (l : Launch) (D : va_G) (t : Nat → Nat) (cI cL cC : ClassId) (gC : Int32) (gE : Int32) (gW : Nat → Int32) (gA : Nat → Int32) (gT : Nat → Int32) (gI : Int32) (gS : Int32) (gM : Int32) (K : Nat → Int32) (F : Nat → Int32) (S : Nat → Int32) (N : Nat → Int32) (gH : Int) (gJ : Int) (ge : Int32) (gk : Int32) (gf : Int32) (gs : Int32) (gg : Int32) (gr : Int32) (RN : Nat → Int32) (a0 : Nat) (a1 : Int32) (a2 : Int32) (a3 : Int32) (uq : ∀ b c : Nat, t b = t c → t b ≠ 0 → b = c) (hC0 : 0 ≤ gC.toInt) (hC4 : gC.toInt ≤ 400) (h0 : 0 ≤ a1.toInt) (h4 : a1.toInt ≤ 400) (k_a0 : t a0 = 40) : tMx (Z := (Int32) × (Int32) × (Int32) × (Int32) × (Int32) × (Nat → Int32)) l yX10_readsItem uX10_readsItem 2 48 D (mF cI cL cC gC gE gW gA gT gI gS gM K F S N gH gJ ge gk gf gs gg gr RN) (fun z => (mF cI cL cC gC gE gW gA gT gI gS gM K F S N gH gJ z.1 z.2.1 z.2.2.1 z.2.2.2.1 z.2.2.2.2.1 gr z.2.2.2.2.2)) t cI cL cC [.ref a0, .int a1, .int a2, .int a3] wP (xI (fun r (z : (Int32) × (Int32) × (Int32) × (Int32) × (Int32) × (Nat → Int32)) => (r = 1 ∧ a1.toInt < z.1.toInt ∧ z.1.toInt ≤ a1.toInt + 40 ∧ itOk z.2.1 z.2.2.1 z.2.2.2.1 (z.2.2.2.2.2 0) (z.2.2.2.2.2 1) ∧ nmOk z.2.1 z.2.2.1 a2) ∨ (r = 0))) := by
  refine tMx.ofW (cc := cX10_readsItem) (maxL := 8) (ret := (some .boolean)) (by decide) rfl (Nat.le_of_ble_eq_true rfl) ?_
  intro p e s m below meth c hx hb hr hml hown hts hlk H locs hG hK hE hS ls hl
  have hl : lv_has ls 8 [(0, .ref a0), (1, .int a1), (2, .int a2), (3, .int a3)] := hl
  have in10 : ∀ w ∈ wsX100, w ∈ uX10_readsItem := fun w h => List.mem_cons_of_mem _ (List.mem_append_right _ h)
  refine lv_aload_n hx hb dX10_readsItem_0 rfl (lv_at hl 0 rfl) ?_
  refine lv_iload_n hx hb dX10_readsItem_1 rfl (lv_at hl 1 rfl) ?_
  refine lv_iconst (v := 1) hx hb dX10_readsItem_2 (by decide) ?_
  refine lv_iadd hx hb dX10_readsItem_3 ?_
  refine lv_topi (fun x_1 e_2 => ?_)
  have i_x_1 : x_1.toInt = a1.toInt + 1 := by rw [e_2]; exact (q_add (by rw [show (1 : Int32).toInt = 1 by decide]; omega) (by rw [show (1 : Int32).toInt = 1 by decide]; omega)).trans (by rw [show (1 : Int32).toInt = 1 by decide])
  obtain ⟨r_3, v_5, r_6, r_8, r_10, r_12, r_14, r_16, r_18, r_20, r_22, r_24, r_26, r_28, r_30, r_32, r_34, r_36, r_38, r_40, r_42, r_44, r_46, v_48, r_49, at_51, h_4, h_7, h_9, h_11, h_13, h_15, h_17, h_19, h_21, h_23, h_25, h_27, h_29, h_31, h_33, h_35, h_37, h_39, h_41, h_43, h_45, h_47, h_50⟩ := mF_o40 hG k_a0
  refine ty_put (D := D) (ci := 9) (v := .int x_1) (ty := .int) (C := RX10) (T := TX10) (N := 36) (F2 := (mF cI cL cC gC gE gW gA gT gI gS gM K F S N gH gJ x_1 gk gf gs gg gr RN)) hx hb hts in10 tyX10 tyX10_ok nmX10 hown hK hG hS at_51 (by rw [k_a0]; rfl) rfl 27 (by decide) (hts (.fieldLink RX10 109 "RiverModelModel" "end" "I") (List.mem_of_getElem? (i := 1) rfl)) (fun _ h9 => h9) rfl (by decide +kernel) rfl rfl (Nat.le_of_ble_eq_true rfl) (by rw [k_a0]; exact ⟨r_3, v_5, r_6, r_8, r_10, r_12, r_14, r_16, r_18, r_20, r_22, r_24, r_26, r_28, r_30, r_32, r_34, r_36, r_38, r_40, r_42, r_44, r_46, v_48, r_49, rfl, h_4, h_7, h_9, h_11, h_13, h_15, h_17, h_19, h_21, h_23, h_25, h_27, h_29, h_31, h_33, h_35, h_37, h_39, h_41, h_43, h_45, h_47, h_50⟩) (fun hG b hb h0 => by obtain ⟨e, g1, g2⟩ := hG b h0; exact ⟨e, g1, mF_ge (fun h => hb (uq b a0 (h.trans k_a0.symm) h0)) g2⟩) dX10_readsItem_4 (fun H locs hG hS at_52 o_53 => ?_)
  have at_52 : va_at D vwCl (a0, .inr (9, [.int gC, .ref r_3, .int v_5, .int gI, .ref r_6, .ref r_8, .ref r_10, .ref r_12, .int gS, .ref r_14, .ref r_16, .ref r_18, .ref r_20, .int gM, .ref r_22, .ref r_24, .ref r_26, .int gE, .ref r_28, .ref r_30, .ref r_32, .ref r_34, .ref r_36, .ref r_38, .ref r_40, .ref r_42, .ref r_44, .int x_1, .int gk, .int gf, .int gs, .int gg, .ref r_46, .int gr, .int v_48, .ref r_49])) H := at_52
  refine lv_aload_n hx hb dX10_readsItem_7 rfl (lv_at hl 0 rfl) ?_
  refine lv_aload_n hx hb dX10_readsItem_8 rfl (lv_at hl 0 rfl) ?_
  refine lv_pc (pc2 := 9) rfl ?_
  refine lv_iload_n hx hb dX10_readsItem_9 rfl (lv_at hl 1 rfl) ?_
  refine ty_calli (W.runV (As := [.int a1]) (rest := [.ref a0]) ⟨hx, hb, hml, hown, hts⟩ (m_X10_byteAt l D t cI cL cC gC gE gW gA gT gI gS gM K F S N gH gJ x_1 gk gf gs gg gr RN a0 a1  uq (by omega) (by omega) (by omega) k_a0) (cwV 1 hts gu_X10_readsItem_X10_byteAt_112 rfl rfl rfl (by decide +kernel) ⟨Nat.le_of_ble_eq_true rfl, Nat.le_of_ble_eq_true rfl⟩) (tP_V hG hE at_52 rfl) rfl rfl hl.1 rfl (lv_room (Nat.le_of_ble_eq_true rfl)) dX10_readsItem_10 ⟨Nat.le_of_ble_eq_true rfl, Nat.le_of_ble_eq_true rfl⟩) hS (fun k h => by simp [wr0] at h) (fun r_54 H locs hp_55 hG hS o_56 => ?_)
  have at_52 := va_at.keptC at_52 o_56 k_a0 rfl
  have hp_55 : r_54 = bA gT gC a1 ∧ r_54.toInt = (bA gT gC a1).toInt := hp_55
  obtain ⟨p_58, p_59⟩ := hp_55
  refine ty_put (D := D) (ci := 9) (v := .int r_54) (ty := .int) (C := RX10) (T := TX10) (N := 36) (F2 := (mF cI cL cC gC gE gW gA gT gI gS gM K F S N gH gJ x_1 r_54 gf gs gg gr RN)) hx hb hts in10 tyX10 tyX10_ok nmX10 hown hK hG hS at_52 (by rw [k_a0]; rfl) rfl 28 (by decide) (hts (.fieldLink RX10 125 "RiverModelModel" "readKind" "I") (List.mem_of_getElem? (i := 6) rfl)) (fun _ h9 => h9) rfl (by decide +kernel) rfl rfl (Nat.le_of_ble_eq_true rfl) (by rw [k_a0]; exact ⟨r_3, v_5, r_6, r_8, r_10, r_12, r_14, r_16, r_18, r_20, r_22, r_24, r_26, r_28, r_30, r_32, r_34, r_36, r_38, r_40, r_42, r_44, r_46, v_48, r_49, rfl, h_4, h_7, h_9, h_11, h_13, h_15, h_17, h_19, h_21, h_23, h_25, h_27, h_29, h_31, h_33, h_35, h_37, h_39, h_41, h_43, h_45, h_47, h_50⟩) (fun hG b hb h0 => by obtain ⟨e, g1, g2⟩ := hG b h0; exact ⟨e, g1, mF_gk (fun h => hb (uq b a0 (h.trans k_a0.symm) h0)) g2⟩) dX10_readsItem_13 (fun H locs hG hS at_60 o_61 => ?_)
  have at_60 : va_at D vwCl (a0, .inr (9, [.int gC, .ref r_3, .int v_5, .int gI, .ref r_6, .ref r_8, .ref r_10, .ref r_12, .int gS, .ref r_14, .ref r_16, .ref r_18, .ref r_20, .int gM, .ref r_22, .ref r_24, .ref r_26, .int gE, .ref r_28, .ref r_30, .ref r_32, .ref r_34, .ref r_36, .ref r_38, .ref r_40, .ref r_42, .ref r_44, .int x_1, .int r_54, .int gf, .int gs, .int gg, .ref r_46, .int gr, .int v_48, .ref r_49])) H := at_60
  refine lv_aload_n hx hb dX10_readsItem_16 rfl (lv_at hl 0 rfl) ?_
  refine va_get (D := D) (ci := 9) (v := .int r_54) (C := RX10) (T := TX10) (N := 36) hx hb hts in10 hown hK (va_one at_60) 0 rfl rfl 28 (by decide) (hts (.fieldLink RX10 125 "RiverModelModel" "readKind" "I") (List.mem_of_getElem? (i := 6) rfl)) (fun _ h9 => h9) rfl dX10_readsItem_17 ?_
  refine ty_calli (W.runS (As := [.int r_54]) (rest := []) ⟨hx, hb, hml, hown, hts⟩ (m_X10_shape l D t cI cL cC gC gE gW gA gT gI gS gM K F S N gH gJ x_1 r_54 gf gs gg gr RN r_54  uq  ) (va_cwS 1 hts gu_X10_readsItem_X10_shape_128 rfl rfl rfl (by decide +kernel) ⟨Nat.le_of_ble_eq_true rfl, Nat.le_of_ble_eq_true rfl⟩) (tP_S hG hE) rfl rfl hl.1 rfl (lv_room (Nat.le_of_ble_eq_true rfl)) dX10_readsItem_20 ⟨Nat.le_of_ble_eq_true rfl, Nat.le_of_ble_eq_true rfl⟩) hS (fun k h => by simp [wr0] at h) (fun r_62 H locs hp_63 hG hS o_64 => ?_)
  have at_60 := va_at.keptC at_60 o_64 k_a0 rfl
  have hp_63 : (r_62.toInt = -1 ∨ (10 ≤ r_62.toInt ∧ r_62.toInt ≤ 23 ∧ r_62.toInt % 10 ≤ 3)) ∧ (r_54.toInt = 116 → r_62.toInt = 21) := hp_63
  obtain ⟨p_66, p_67⟩ := hp_63
  refine lv_istore (lv' := [(4, .int r_62), (0, .ref a0), (1, .int a1), (2, .int a2), (3, .int a3)]) hx hb dX10_readsItem_23 hl (by decide) rfl (fun ls hl => ?_)
  refine lv_iload hx hb dX10_readsItem_25 (lv_at hl 0 rfl) ?_
  refine lv_pc (pc2 := 27) rfl ?_
  refine lv_if_lt (tgt := 44) hx hb dX10_readsItem_27 (by decide) (fun c_68 => ?_) (fun c_68 => ?_)
  · skip
    have c_68 : r_62.toInt < 0 := q_lt c_68
    refine lv_iconst (v := 0) hx hb dX10_readsItem_44 (by decide) ?_
    have zi_0 : (0 : Int32).toInt = 0 := by decide
    exact tx_zret (z := (x_1, r_54, gf, gs, gg, RN)) hx hb hr hlk rfl hG hS (Or.inr rfl) dX10_readsItem_45
  · skip
    have c_68 : 0 ≤ r_62.toInt := q_nlt c_68
    refine lv_aload_n hx hb dX10_readsItem_30 rfl (lv_at hl 1 rfl) ?_
    refine lv_aload_n hx hb dX10_readsItem_31 rfl (lv_at hl 1 rfl) ?_
    refine va_get (D := D) (ci := 9) (v := .int x_1) (C := RX10) (T := TX10) (N := 36) hx hb hts in10 hown hK (va_one at_60) 0 rfl rfl 27 (by decide) (hts (.fieldLink RX10 109 "RiverModelModel" "end" "I") (List.mem_of_getElem? (i := 1) rfl)) (fun _ h9 => h9) rfl dX10_readsItem_32 ?_
    refine ty_calli (W.runV (As := [.int x_1]) (rest := []) ⟨hx, hb, hml, hown, hts⟩ (m_X10_byteAt l D t cI cL cC gC gE gW gA gT gI gS gM K F S N gH gJ x_1 r_54 gf gs gg gr RN a0 x_1  uq (by omega) (by omega) (by omega) k_a0) (cwV 1 hts gu_X10_readsItem_X10_byteAt_112 rfl rfl rfl (by decide +kernel) ⟨Nat.le_of_ble_eq_true rfl, Nat.le_of_ble_eq_true rfl⟩) (tP_V hG hE at_60 rfl) rfl rfl hl.1 rfl (lv_room (Nat.le_of_ble_eq_true rfl)) dX10_readsItem_35 ⟨Nat.le_of_ble_eq_true rfl, Nat.le_of_ble_eq_true rfl⟩) hS (fun k h => by simp [wr0] at h) (fun r_69 H locs hp_70 hG hS o_71 => ?_)
    have at_60 := va_at.keptC at_60 o_71 k_a0 rfl
    have hp_70 : r_69 = bA gT gC x_1 ∧ r_69.toInt = (bA gT gC x_1).toInt := hp_70
    obtain ⟨p_73, p_74⟩ := hp_70
    refine ty_calli (W.runS (As := [.int r_69]) (rest := []) ⟨hx, hb, hml, hown, hts⟩ (m_X10_isName l D t cI cL cC gC gE gW gA gT gI gS gM K F S N gH gJ x_1 r_54 gf gs gg gr RN r_69  uq  ) (va_cwS 1 hts gu_X10_readsItem_X10_isName_131 rfl rfl rfl (by decide +kernel) ⟨Nat.le_of_ble_eq_true rfl, Nat.le_of_ble_eq_true rfl⟩) (tP_S hG hE) rfl rfl hl.1 rfl (lv_room (Nat.le_of_ble_eq_true rfl)) dX10_readsItem_38 ⟨Nat.le_of_ble_eq_true rfl, Nat.le_of_ble_eq_true rfl⟩) hS (fun k h => by simp [wr0] at h) (fun r_75 H locs hp_76 hG hS o_77 => ?_)
    have at_60 := va_at.keptC at_60 o_77 k_a0 rfl
    have hp_76 : (r_75 = 1 ∧ 97 ≤ r_69.toInt ∧ r_69.toInt ≤ 112) ∨ (r_75 = 0 ∧ (r_69.toInt < 97 ∨ 112 < r_69.toInt)) := hp_76
    rcases hp_76 with ⟨rfl, p_79, p_80⟩ | ⟨rfl, p_81⟩
    · skip
      refine lv_pc (pc2 := 41) rfl ?_
      refine lv_if_ne (tgt := 46) hx hb dX10_readsItem_41 (by decide) (fun _ => ?_) (fun q => absurd q (by decide))
      refine lv_aload_n hx hb dX10_readsItem_46 rfl (lv_at hl 1 rfl) ?_
      refine lv_aload_n hx hb dX10_readsItem_47 rfl (lv_at hl 1 rfl) ?_
      refine lv_aload_n hx hb dX10_readsItem_48 rfl (lv_at hl 1 rfl) ?_
      refine va_get (D := D) (ci := 9) (v := .int x_1) (C := RX10) (T := TX10) (N := 36) hx hb hts in10 hown hK (va_one at_60) 0 rfl rfl 27 (by decide) (hts (.fieldLink RX10 109 "RiverModelModel" "end" "I") (List.mem_of_getElem? (i := 1) rfl)) (fun _ h9 => h9) rfl dX10_readsItem_49 ?_
      refine ty_calli (W.runV (As := [.int x_1]) (rest := [.ref a0]) ⟨hx, hb, hml, hown, hts⟩ (m_X10_byteAt l D t cI cL cC gC gE gW gA gT gI gS gM K F S N gH gJ x_1 r_54 gf gs gg gr RN a0 x_1  uq (by omega) (by omega) (by omega) k_a0) (cwV 1 hts gu_X10_readsItem_X10_byteAt_112 rfl rfl rfl (by decide +kernel) ⟨Nat.le_of_ble_eq_true rfl, Nat.le_of_ble_eq_true rfl⟩) (tP_V hG hE at_60 rfl) rfl rfl hl.1 rfl (lv_room (Nat.le_of_ble_eq_true rfl)) dX10_readsItem_52 ⟨Nat.le_of_ble_eq_true rfl, Nat.le_of_ble_eq_true rfl⟩) hS (fun k h => by simp [wr0] at h) (fun r_82 H locs hp_83 hG hS o_84 => ?_)
      have at_60 := va_at.keptC at_60 o_84 k_a0 rfl
      have hp_83 : r_82 = bA gT gC x_1 ∧ r_82.toInt = (bA gT gC x_1).toInt := hp_83
      obtain ⟨p_86, p_87⟩ := hp_83
      refine lv_bipush (v := 97) hx hb dX10_readsItem_55 (by decide) ?_
      refine lv_isub hx hb dX10_readsItem_57 ?_
      refine lv_topi (fun x_88 e_89 => ?_)
      have i_x_88 : x_88.toInt = r_82.toInt - 97 := by rw [e_89]; exact (q_sub (by rw [show (97 : Int32).toInt = 97 by decide]; omega) (by rw [show (97 : Int32).toInt = 97 by decide]; omega)).trans (by rw [show (97 : Int32).toInt = 97 by decide])
      refine lv_pc (pc2 := 58) rfl ?_
      refine ty_put (D := D) (ci := 9) (v := .int x_88) (ty := .int) (C := RX10) (T := TX10) (N := 36) (F2 := (mF cI cL cC gC gE gW gA gT gI gS gM K F S N gH gJ x_1 r_54 x_88 gs gg gr RN)) hx hb hts in10 tyX10 tyX10_ok nmX10 hown hK hG hS at_60 (by rw [k_a0]; rfl) rfl 29 (by decide) (hts (.fieldLink RX10 135 "RiverModelModel" "readFirst" "I") (List.mem_of_getElem? (i := 11) rfl)) (fun _ h9 => h9) rfl (by decide +kernel) rfl rfl (Nat.le_of_ble_eq_true rfl) (by rw [k_a0]; exact ⟨r_3, v_5, r_6, r_8, r_10, r_12, r_14, r_16, r_18, r_20, r_22, r_24, r_26, r_28, r_30, r_32, r_34, r_36, r_38, r_40, r_42, r_44, r_46, v_48, r_49, rfl, h_4, h_7, h_9, h_11, h_13, h_15, h_17, h_19, h_21, h_23, h_25, h_27, h_29, h_31, h_33, h_35, h_37, h_39, h_41, h_43, h_45, h_47, h_50⟩) (fun hG b hb h0 => by obtain ⟨e, g1, g2⟩ := hG b h0; exact ⟨e, g1, mF_gf (fun h => hb (uq b a0 (h.trans k_a0.symm) h0)) g2⟩) dX10_readsItem_58 (fun H locs hG hS at_90 o_91 => ?_)
      have at_90 : va_at D vwCl (a0, .inr (9, [.int gC, .ref r_3, .int v_5, .int gI, .ref r_6, .ref r_8, .ref r_10, .ref r_12, .int gS, .ref r_14, .ref r_16, .ref r_18, .ref r_20, .int gM, .ref r_22, .ref r_24, .ref r_26, .int gE, .ref r_28, .ref r_30, .ref r_32, .ref r_34, .ref r_36, .ref r_38, .ref r_40, .ref r_42, .ref r_44, .int x_1, .int r_54, .int x_88, .int gs, .int gg, .ref r_46, .int gr, .int v_48, .ref r_49])) H := at_90
      refine lv_aload_n hx hb dX10_readsItem_61 rfl (lv_at hl 1 rfl) ?_
      refine lv_bipush (v := (-4)) hx hb dX10_readsItem_62 (by decide) ?_
      have zi_m4 : ((-4) : Int32).toInt = (-4) := by decide
      refine ty_put (D := D) (ci := 9) (v := .int (-4)) (ty := .int) (C := RX10) (T := TX10) (N := 36) (F2 := (mF cI cL cC gC gE gW gA gT gI gS gM K F S N gH gJ x_1 r_54 x_88 (-4) gg gr RN)) hx hb hts in10 tyX10 tyX10_ok nmX10 hown hK hG hS at_90 (by rw [k_a0]; rfl) rfl 30 (by decide) (hts (.fieldLink RX10 138 "RiverModelModel" "readSecond" "I") (List.mem_of_getElem? (i := 12) rfl)) (fun _ h9 => h9) rfl (by decide +kernel) rfl rfl (Nat.le_of_ble_eq_true rfl) (by rw [k_a0]; exact ⟨r_3, v_5, r_6, r_8, r_10, r_12, r_14, r_16, r_18, r_20, r_22, r_24, r_26, r_28, r_30, r_32, r_34, r_36, r_38, r_40, r_42, r_44, r_46, v_48, r_49, rfl, h_4, h_7, h_9, h_11, h_13, h_15, h_17, h_19, h_21, h_23, h_25, h_27, h_29, h_31, h_33, h_35, h_37, h_39, h_41, h_43, h_45, h_47, h_50⟩) (fun hG b hb h0 => by obtain ⟨e, g1, g2⟩ := hG b h0; exact ⟨e, g1, mF_gs (fun h => hb (uq b a0 (h.trans k_a0.symm) h0)) g2⟩) dX10_readsItem_64 (fun H locs hG hS at_92 o_93 => ?_)
      have at_92 : va_at D vwCl (a0, .inr (9, [.int gC, .ref r_3, .int v_5, .int gI, .ref r_6, .ref r_8, .ref r_10, .ref r_12, .int gS, .ref r_14, .ref r_16, .ref r_18, .ref r_20, .int gM, .ref r_22, .ref r_24, .ref r_26, .int gE, .ref r_28, .ref r_30, .ref r_32, .ref r_34, .ref r_36, .ref r_38, .ref r_40, .ref r_42, .ref r_44, .int x_1, .int r_54, .int x_88, .int (-4), .int gg, .ref r_46, .int gr, .int v_48, .ref r_49])) H := at_92
      refine lv_aload_n hx hb dX10_readsItem_67 rfl (lv_at hl 1 rfl) ?_
      refine lv_dup hx hb dX10_readsItem_68 rfl ?_
      refine va_get (D := D) (ci := 9) (v := .int x_1) (C := RX10) (T := TX10) (N := 36) hx hb hts in10 hown hK (va_one at_92) 0 rfl rfl 27 (by decide) (hts (.fieldLink RX10 109 "RiverModelModel" "end" "I") (List.mem_of_getElem? (i := 1) rfl)) (fun _ h9 => h9) rfl dX10_readsItem_69 ?_
      refine lv_iconst (v := 1) hx hb dX10_readsItem_72 (by decide) ?_
      refine lv_pc (pc2 := 73) rfl ?_
      refine lv_iadd hx hb dX10_readsItem_73 ?_
      refine lv_topi (fun x_94 e_95 => ?_)
      have i_x_94 : x_94.toInt = x_1.toInt + 1 := by rw [e_95]; exact (q_add (by rw [show (1 : Int32).toInt = 1 by decide]; omega) (by rw [show (1 : Int32).toInt = 1 by decide]; omega)).trans (by rw [show (1 : Int32).toInt = 1 by decide])
      refine ty_put (D := D) (ci := 9) (v := .int x_94) (ty := .int) (C := RX10) (T := TX10) (N := 36) (F2 := (mF cI cL cC gC gE gW gA gT gI gS gM K F S N gH gJ x_94 r_54 x_88 (-4) gg gr RN)) hx hb hts in10 tyX10 tyX10_ok nmX10 hown hK hG hS at_92 (by rw [k_a0]; rfl) rfl 27 (by decide) (hts (.fieldLink RX10 109 "RiverModelModel" "end" "I") (List.mem_of_getElem? (i := 1) rfl)) (fun _ h9 => h9) rfl (by decide +kernel) rfl rfl (Nat.le_of_ble_eq_true rfl) (by rw [k_a0]; exact ⟨r_3, v_5, r_6, r_8, r_10, r_12, r_14, r_16, r_18, r_20, r_22, r_24, r_26, r_28, r_30, r_32, r_34, r_36, r_38, r_40, r_42, r_44, r_46, v_48, r_49, rfl, h_4, h_7, h_9, h_11, h_13, h_15, h_17, h_19, h_21, h_23, h_25, h_27, h_29, h_31, h_33, h_35, h_37, h_39, h_41, h_43, h_45, h_47, h_50⟩) (fun hG b hb h0 => by obtain ⟨e, g1, g2⟩ := hG b h0; exact ⟨e, g1, mF_ge (fun h => hb (uq b a0 (h.trans k_a0.symm) h0)) g2⟩) dX10_readsItem_74 (fun H locs hG hS at_96 o_97 => ?_)
      have at_96 : va_at D vwCl (a0, .inr (9, [.int gC, .ref r_3, .int v_5, .int gI, .ref r_6, .ref r_8, .ref r_10, .ref r_12, .int gS, .ref r_14, .ref r_16, .ref r_18, .ref r_20, .int gM, .ref r_22, .ref r_24, .ref r_26, .int gE, .ref r_28, .ref r_30, .ref r_32, .ref r_34, .ref r_36, .ref r_38, .ref r_40, .ref r_42, .ref r_44, .int x_94, .int r_54, .int x_88, .int (-4), .int gg, .ref r_46, .int gr, .int v_48, .ref r_49])) H := at_96
      refine lv_iload hx hb dX10_readsItem_77 (lv_at hl 0 rfl) ?_
      refine lv_bipush (v := 19) hx hb dX10_readsItem_79 (by decide) ?_
      refine lv_icmp_le (tgt := 125) hx hb dX10_readsItem_81 (by decide) (fun c_98 => ?_) (fun c_98 => ?_)
      · skip
        have c_98 : r_62.toInt ≤ 19 := q_le c_98
        refine lv_iconst (v := 0) hx hb dX10_readsItem_125 (by decide) ?_
        refine lv_istore (lv' := [(5, .int 0), (4, .int r_62), (0, .ref a0), (1, .int a1), (2, .int a2), (3, .int a3)]) hx hb dX10_readsItem_126 hl (by decide) rfl (fun ls hl => ?_)
        refine lv_iload hx hb dX10_readsItem_128 (lv_at hl 0 rfl) ?_
        refine lv_pc (pc2 := 130) rfl ?_
        refine lv_iconst (v := 3) hx hb dX10_readsItem_130 (by decide) ?_
        refine lv_icmp_ge (tgt := 149) hx hb dX10_readsItem_131 (by decide) (fun q => absurd q (by decide)) (fun _ => ?_)
        refine lv_aload_n hx hb dX10_readsItem_134 rfl (lv_at hl 2 rfl) ?_
        refine va_get (D := D) (ci := 9) (v := .ref r_46) (C := RX10) (T := TX10) (N := 36) hx hb hts in10 hown hK (va_one at_96) 0 rfl rfl 32 (by decide) (hts (.fieldLink RX10 74 "RiverModelModel" "readNumber" "[I") (List.mem_of_getElem? (i := 13) rfl)) (fun _ h9 => h9) rfl dX10_readsItem_135 ?_
        refine lv_iload hx hb dX10_readsItem_138 (lv_at hl 0 rfl) ?_
        refine lv_bipush (v := (-4)) hx hb dX10_readsItem_140 (by decide) ?_
        have at_99 := mF_o62 hG h_47
        have b_100 : vp_in 0 3 := (q_in (by decide) (by decide))
        have zi_0 : (0 : Int32).toInt = 0 := by decide
        obtain ⟨q_101, eq_101⟩ : ∃ q : Nat → Int32, q = upd RN (0 : Int32).toNatClampNeg (-4) := ⟨_, rfl⟩
        refine ty_iast (F2 := (mF cI cL cC gC gE gW gA gT gI gS gM K F S N gH gJ x_94 r_54 x_88 (-4) gg gr q_101)) hx hb hK hG hS 0 at_99 (by rw [h_47]; rfl) rfl b_100 (by rw [h_47]; show _ = _; rw [eq_101]) (fun hG b hb h0 => by obtain ⟨e, g1, g2⟩ := hG b h0; exact ⟨e, g1, mF_RN (fun h => hb (uq b r_46 (h.trans h_47.symm) h0)) g2⟩) dX10_readsItem_142 (fun H locs hG hS at_102 o_103 => ?_)
        have at_96 := va_at.keptK at_96 o_103 h_47 k_a0 rfl
        refine lv_iinc (v := 1) (lv' := [(5, .int 1), (4, .int r_62), (0, .ref a0), (1, .int a1), (2, .int a2), (3, .int a3)]) hx hb dX10_readsItem_143 hl (k := 0) rfl (by decide) (by decide) rfl (fun ls hl => ?_)
        refine lv_pc (pc2 := 146) rfl ?_
        refine lv_goto (tgt := 128) hx hb dX10_readsItem_146 (by decide) ?_
        refine lv_iload hx hb dX10_readsItem_128 (lv_at hl 0 rfl) ?_
        refine lv_iconst (v := 3) hx hb dX10_readsItem_130 (by decide) ?_
        refine lv_icmp_ge (tgt := 149) hx hb dX10_readsItem_131 (by decide) (fun q => absurd q (by decide)) (fun _ => ?_)
        refine lv_aload_n hx hb dX10_readsItem_134 rfl (lv_at hl 2 rfl) ?_
        refine va_get (D := D) (ci := 9) (v := .ref r_46) (C := RX10) (T := TX10) (N := 36) hx hb hts in10 hown hK (va_one at_96) 0 rfl rfl 32 (by decide) (hts (.fieldLink RX10 74 "RiverModelModel" "readNumber" "[I") (List.mem_of_getElem? (i := 13) rfl)) (fun _ h9 => h9) rfl dX10_readsItem_135 ?_
        refine lv_iload hx hb dX10_readsItem_138 (lv_at hl 0 rfl) ?_
        refine lv_bipush (v := (-4)) hx hb dX10_readsItem_140 (by decide) ?_
        refine lv_pc (pc2 := 142) rfl ?_
        have at_104 := mF_o62 hG h_47
        have b_105 : vp_in 1 3 := (q_in (by decide) (by decide))
        have zi_1 : (1 : Int32).toInt = 1 := by decide
        obtain ⟨q_106, eq_106⟩ : ∃ q : Nat → Int32, q = upd q_101 (1 : Int32).toNatClampNeg (-4) := ⟨_, rfl⟩
        refine ty_iast (F2 := (mF cI cL cC gC gE gW gA gT gI gS gM K F S N gH gJ x_94 r_54 x_88 (-4) gg gr q_106)) hx hb hK hG hS 0 at_104 (by rw [h_47]; rfl) rfl b_105 (by rw [h_47]; show _ = _; rw [eq_106]) (fun hG b hb h0 => by obtain ⟨e, g1, g2⟩ := hG b h0; exact ⟨e, g1, mF_RN (fun h => hb (uq b r_46 (h.trans h_47.symm) h0)) g2⟩) dX10_readsItem_142 (fun H locs hG hS at_107 o_108 => ?_)
        have at_96 := va_at.keptK at_96 o_108 h_47 k_a0 rfl
        refine lv_iinc (v := 2) (lv' := [(5, .int 2), (4, .int r_62), (0, .ref a0), (1, .int a1), (2, .int a2), (3, .int a3)]) hx hb dX10_readsItem_143 hl (k := 0) rfl (by decide) (by decide) rfl (fun ls hl => ?_)
        refine lv_goto (tgt := 128) hx hb dX10_readsItem_146 (by decide) ?_
        refine lv_iload hx hb dX10_readsItem_128 (lv_at hl 0 rfl) ?_
        refine lv_iconst (v := 3) hx hb dX10_readsItem_130 (by decide) ?_
        refine lv_icmp_ge (tgt := 149) hx hb dX10_readsItem_131 (by decide) (fun q => absurd q (by decide)) (fun _ => ?_)
        refine lv_aload_n hx hb dX10_readsItem_134 rfl (lv_at hl 2 rfl) ?_
        refine va_get (D := D) (ci := 9) (v := .ref r_46) (C := RX10) (T := TX10) (N := 36) hx hb hts in10 hown hK (va_one at_96) 0 rfl rfl 32 (by decide) (hts (.fieldLink RX10 74 "RiverModelModel" "readNumber" "[I") (List.mem_of_getElem? (i := 13) rfl)) (fun _ h9 => h9) rfl dX10_readsItem_135 ?_
        refine lv_pc (pc2 := 138) rfl ?_
        refine lv_iload hx hb dX10_readsItem_138 (lv_at hl 0 rfl) ?_
        refine lv_bipush (v := (-4)) hx hb dX10_readsItem_140 (by decide) ?_
        have at_109 := mF_o62 hG h_47
        have b_110 : vp_in 2 3 := (q_in (by decide) (by decide))
        have zi_2 : (2 : Int32).toInt = 2 := by decide
        obtain ⟨q_111, eq_111⟩ : ∃ q : Nat → Int32, q = upd q_106 (2 : Int32).toNatClampNeg (-4) := ⟨_, rfl⟩
        refine ty_iast (F2 := (mF cI cL cC gC gE gW gA gT gI gS gM K F S N gH gJ x_94 r_54 x_88 (-4) gg gr q_111)) hx hb hK hG hS 0 at_109 (by rw [h_47]; rfl) rfl b_110 (by rw [h_47]; show _ = _; rw [eq_111]) (fun hG b hb h0 => by obtain ⟨e, g1, g2⟩ := hG b h0; exact ⟨e, g1, mF_RN (fun h => hb (uq b r_46 (h.trans h_47.symm) h0)) g2⟩) dX10_readsItem_142 (fun H locs hG hS at_112 o_113 => ?_)
        have at_96 := va_at.keptK at_96 o_113 h_47 k_a0 rfl
        refine lv_iinc (v := 3) (lv' := [(5, .int 3), (4, .int r_62), (0, .ref a0), (1, .int a1), (2, .int a2), (3, .int a3)]) hx hb dX10_readsItem_143 hl (k := 0) rfl (by decide) (by decide) rfl (fun ls hl => ?_)
        refine lv_goto (tgt := 128) hx hb dX10_readsItem_146 (by decide) ?_
        refine lv_iload hx hb dX10_readsItem_128 (lv_at hl 0 rfl) ?_
        refine lv_iconst (v := 3) hx hb dX10_readsItem_130 (by decide) ?_
        refine lv_icmp_ge (tgt := 149) hx hb dX10_readsItem_131 (by decide) (fun _ => ?_) (fun q => absurd (by decide) q)
        refine lv_pc (pc2 := 149) rfl ?_
        refine lv_iconst (v := 0) hx hb dX10_readsItem_149 (by decide) ?_
        refine lv_istore (lv' := [(5, .int 0), (4, .int r_62), (0, .ref a0), (1, .int a1), (2, .int a2), (3, .int a3)]) hx hb dX10_readsItem_150 hl (by decide) rfl (fun ls hl => ?_)
        refine lv_pc (pc2 := 152) rfl ?_
        refine lp_gen (fun WW114 hWW114 => ?_)
        have kx114 : ∀ (yi : Int32) (e1 : Int32) (g1 : Int32) (n1 : Nat → Int32) (H1 : Heap) (locs1 : List Loc) (ls1 : Array Slot), (0 ≤ yi.toInt) → (yi.toInt ≤ 3) → (a1.toInt < e1.toInt) → (e1.toInt ≤ a1.toInt + 3 + 9 * yi.toInt) → tG D (mF cI cL cC gC gE gW gA gT gI gS gM K F S N gH gJ e1 r_54 x_88 (-4) g1 gr n1) t H1 → tF t wP s.heap H1 locs1 → lv_has ls1 8 [(5, .int yi), (4, .int r_62), (0, .ref a0), (1, .int a1), (2, .int a2), (3, .int a3)] → WW114 H1 locs1 (F0 m 179 ls1 []) := by
          intro yi e1 g1 n1 H locs ls v114_0 v114_1 v114_2 v114_3 hG hS hl
          refine (hWW114 _ _ _).mpr ?_
          refine lv_pc (pc2 := 179) rfl ?_
          refine lp_gen (fun WW115 hWW115 => ?_)
          have jn115 : ∀ (vj115 : Int32), (0 ≤ vj115.toInt) → (vj115.toInt ≤ 1) → (vj115.toInt ≠ 0 → r_54.toInt ≠ 115 → (bitI a2 x_88).toInt = 1) → WW115 H locs (F0 m 209 ls (.int vj115 :: [])) := by
            intro vj115 fj115_0 fj115_1 fj115_2
            refine (hWW115 _ _ _).mpr ?_
            refine lv_istore (lv' := [(5, .int vj115), (4, .int r_62), (0, .ref a0), (1, .int a1), (2, .int a2), (3, .int a3)]) hx hb dX10_readsItem_209 hl (by decide) rfl (fun ls hl => ?_)
            refine lv_pc (pc2 := 211) rfl ?_
            refine lp_gen (fun WW116 hWW116 => ?_)
            have jn116 : ∀ (vj116 : Int32), WW116 H locs (F0 m 246 ls (.int vj116 :: [])) := by
              intro vj116
              refine (hWW116 _ _ _).mpr ?_
              refine lv_istore (lv' := [(6, .int vj116), (5, .int vj115), (4, .int r_62), (0, .ref a0), (1, .int a1), (2, .int a2), (3, .int a3)]) hx hb dX10_readsItem_246 hl (by decide) rfl (fun ls hl => ?_)
              refine lv_aload_n hx hb dX10_readsItem_248 rfl (lv_at hl 3 rfl) ?_
              refine lv_aload_n hx hb dX10_readsItem_249 rfl (lv_at hl 3 rfl) ?_
              obtain ⟨r_117, v_119, r_120, r_122, r_124, r_126, r_128, r_130, r_132, r_134, r_136, r_138, r_140, r_142, r_144, r_146, r_148, r_150, r_152, r_154, r_156, r_158, r_160, v_162, r_163, at_165, h_118, h_121, h_123, h_125, h_127, h_129, h_131, h_133, h_135, h_137, h_139, h_141, h_143, h_145, h_147, h_149, h_151, h_153, h_155, h_157, h_159, h_161, h_164⟩ := mF_o40 hG k_a0
              refine va_get (D := D) (ci := 9) (v := .int e1) (C := RX10) (T := TX10) (N := 36) hx hb hts in10 hown hK (va_one at_165) 0 rfl rfl 27 (by decide) (hts (.fieldLink RX10 109 "RiverModelModel" "end" "I") (List.mem_of_getElem? (i := 1) rfl)) (fun _ h9 => h9) rfl dX10_readsItem_250 ?_
              refine ty_calli (W.runV (As := [.int e1]) (rest := []) ⟨hx, hb, hml, hown, hts⟩ (m_X10_byteAt l D t cI cL cC gC gE gW gA gT gI gS gM K F S N gH gJ e1 r_54 x_88 (-4) g1 gr n1 a0 e1  uq (by omega) (by omega) (by omega) k_a0) (cwV 1 hts gu_X10_readsItem_X10_byteAt_112 rfl rfl rfl (by decide +kernel) ⟨Nat.le_of_ble_eq_true rfl, Nat.le_of_ble_eq_true rfl⟩) (tP_V hG hE at_165 rfl) rfl rfl hl.1 rfl (lv_room (Nat.le_of_ble_eq_true rfl)) dX10_readsItem_253 ⟨Nat.le_of_ble_eq_true rfl, Nat.le_of_ble_eq_true rfl⟩) hS (fun k h => by simp [wr0] at h) (fun r_166 H locs hp_167 hG hS o_168 => ?_)
              have at_165 := va_at.keptC at_165 o_168 k_a0 rfl
              have hp_167 : r_166 = bA gT gC e1 ∧ r_166.toInt = (bA gT gC e1).toInt := hp_167
              obtain ⟨p_170, p_171⟩ := hp_167
              refine lv_pc (pc2 := 256) rfl ?_
              refine lv_bipush (v := 59) hx hb dX10_readsItem_256 (by decide) ?_
              refine lv_icmp_ne (tgt := 317) hx hb dX10_readsItem_258 (by decide) (fun c_172 => ?_) (fun c_172 => ?_)
              · skip
                have c_172 : r_166.toInt ≠ 59 := q_ne c_172
                refine lv_iconst (v := 0) hx hb dX10_readsItem_317 (by decide) ?_
                refine lv_istore (lv' := [(7, .int 0), (6, .int vj116), (5, .int vj115), (4, .int r_62), (0, .ref a0), (1, .int a1), (2, .int a2), (3, .int a3)]) hx hb dX10_readsItem_318 hl (by decide) rfl (fun ls hl => ?_)
                refine lv_aload_n hx hb dX10_readsItem_320 rfl (lv_at hl 4 rfl) ?_
                refine lv_dup hx hb dX10_readsItem_321 rfl ?_
                refine va_get (D := D) (ci := 9) (v := .int e1) (C := RX10) (T := TX10) (N := 36) hx hb hts in10 hown hK (va_one at_165) 0 rfl rfl 27 (by decide) (hts (.fieldLink RX10 109 "RiverModelModel" "end" "I") (List.mem_of_getElem? (i := 1) rfl)) (fun _ h9 => h9) rfl dX10_readsItem_322 ?_
                refine lv_iconst (v := 1) hx hb dX10_readsItem_325 (by decide) ?_
                refine lv_pc (pc2 := 326) rfl ?_
                refine lv_iadd hx hb dX10_readsItem_326 ?_
                refine lv_topi (fun x_173 e_174 => ?_)
                have i_x_173 : x_173.toInt = e1.toInt + 1 := by rw [e_174]; exact (q_add (by rw [show (1 : Int32).toInt = 1 by decide]; omega) (by rw [show (1 : Int32).toInt = 1 by decide]; omega)).trans (by rw [show (1 : Int32).toInt = 1 by decide])
                refine ty_put (D := D) (ci := 9) (v := .int x_173) (ty := .int) (C := RX10) (T := TX10) (N := 36) (F2 := (mF cI cL cC gC gE gW gA gT gI gS gM K F S N gH gJ x_173 r_54 x_88 (-4) g1 gr n1)) hx hb hts in10 tyX10 tyX10_ok nmX10 hown hK hG hS at_165 (by rw [k_a0]; rfl) rfl 27 (by decide) (hts (.fieldLink RX10 109 "RiverModelModel" "end" "I") (List.mem_of_getElem? (i := 1) rfl)) (fun _ h9 => h9) rfl (by decide +kernel) rfl rfl (Nat.le_of_ble_eq_true rfl) (by rw [k_a0]; exact ⟨r_117, v_119, r_120, r_122, r_124, r_126, r_128, r_130, r_132, r_134, r_136, r_138, r_140, r_142, r_144, r_146, r_148, r_150, r_152, r_154, r_156, r_158, r_160, v_162, r_163, rfl, h_118, h_121, h_123, h_125, h_127, h_129, h_131, h_133, h_135, h_137, h_139, h_141, h_143, h_145, h_147, h_149, h_151, h_153, h_155, h_157, h_159, h_161, h_164⟩) (fun hG b hb h0 => by obtain ⟨e, g1, g2⟩ := hG b h0; exact ⟨e, g1, mF_ge (fun h => hb (uq b a0 (h.trans k_a0.symm) h0)) g2⟩) dX10_readsItem_327 (fun H locs hG hS at_175 o_176 => ?_)
                have at_175 : va_at D vwCl (a0, .inr (9, [.int gC, .ref r_117, .int v_119, .int gI, .ref r_120, .ref r_122, .ref r_124, .ref r_126, .int gS, .ref r_128, .ref r_130, .ref r_132, .ref r_134, .int gM, .ref r_136, .ref r_138, .ref r_140, .int gE, .ref r_142, .ref r_144, .ref r_146, .ref r_148, .ref r_150, .ref r_152, .ref r_154, .ref r_156, .ref r_158, .int x_173, .int r_54, .int x_88, .int (-4), .int g1, .ref r_160, .int gr, .int v_162, .ref r_163])) H := at_175
                refine lv_iload hx hb dX10_readsItem_330 (lv_at hl 0 rfl) ?_
                exact tx_zret (z := (x_173, r_54, x_88, -4, g1, n1)) hx hb hr hlk rfl hG hS (Or.inr rfl) dX10_readsItem_332
              · skip
                have c_172 : r_166.toInt = 59 := q_eq c_172
                refine lv_iload hx hb dX10_readsItem_261 (lv_at hl 1 rfl) ?_
                refine lv_if_eq (tgt := 317) hx hb dX10_readsItem_263 (by decide) (fun c_177 => ?_) (fun c_177 => ?_)
                · skip
                  have c_177 : vj115.toInt = 0 := q_eq c_177
                  refine lv_iconst (v := 0) hx hb dX10_readsItem_317 (by decide) ?_
                  refine lv_istore (lv' := [(7, .int 0), (6, .int vj116), (5, .int vj115), (4, .int r_62), (0, .ref a0), (1, .int a1), (2, .int a2), (3, .int a3)]) hx hb dX10_readsItem_318 hl (by decide) rfl (fun ls hl => ?_)
                  refine lv_pc (pc2 := 320) rfl ?_
                  refine lv_aload_n hx hb dX10_readsItem_320 rfl (lv_at hl 4 rfl) ?_
                  refine lv_dup hx hb dX10_readsItem_321 rfl ?_
                  refine va_get (D := D) (ci := 9) (v := .int e1) (C := RX10) (T := TX10) (N := 36) hx hb hts in10 hown hK (va_one at_165) 0 rfl rfl 27 (by decide) (hts (.fieldLink RX10 109 "RiverModelModel" "end" "I") (List.mem_of_getElem? (i := 1) rfl)) (fun _ h9 => h9) rfl dX10_readsItem_322 ?_
                  refine lv_iconst (v := 1) hx hb dX10_readsItem_325 (by decide) ?_
                  refine lv_iadd hx hb dX10_readsItem_326 ?_
                  refine lv_topi (fun x_178 e_179 => ?_)
                  have i_x_178 : x_178.toInt = e1.toInt + 1 := by rw [e_179]; exact (q_add (by rw [show (1 : Int32).toInt = 1 by decide]; omega) (by rw [show (1 : Int32).toInt = 1 by decide]; omega)).trans (by rw [show (1 : Int32).toInt = 1 by decide])
                  refine ty_put (D := D) (ci := 9) (v := .int x_178) (ty := .int) (C := RX10) (T := TX10) (N := 36) (F2 := (mF cI cL cC gC gE gW gA gT gI gS gM K F S N gH gJ x_178 r_54 x_88 (-4) g1 gr n1)) hx hb hts in10 tyX10 tyX10_ok nmX10 hown hK hG hS at_165 (by rw [k_a0]; rfl) rfl 27 (by decide) (hts (.fieldLink RX10 109 "RiverModelModel" "end" "I") (List.mem_of_getElem? (i := 1) rfl)) (fun _ h9 => h9) rfl (by decide +kernel) rfl rfl (Nat.le_of_ble_eq_true rfl) (by rw [k_a0]; exact ⟨r_117, v_119, r_120, r_122, r_124, r_126, r_128, r_130, r_132, r_134, r_136, r_138, r_140, r_142, r_144, r_146, r_148, r_150, r_152, r_154, r_156, r_158, r_160, v_162, r_163, rfl, h_118, h_121, h_123, h_125, h_127, h_129, h_131, h_133, h_135, h_137, h_139, h_141, h_143, h_145, h_147, h_149, h_151, h_153, h_155, h_157, h_159, h_161, h_164⟩) (fun hG b hb h0 => by obtain ⟨e, g1, g2⟩ := hG b h0; exact ⟨e, g1, mF_ge (fun h => hb (uq b a0 (h.trans k_a0.symm) h0)) g2⟩) dX10_readsItem_327 (fun H locs hG hS at_180 o_181 => ?_)
                  have at_180 : va_at D vwCl (a0, .inr (9, [.int gC, .ref r_117, .int v_119, .int gI, .ref r_120, .ref r_122, .ref r_124, .ref r_126, .int gS, .ref r_128, .ref r_130, .ref r_132, .ref r_134, .int gM, .ref r_136, .ref r_138, .ref r_140, .int gE, .ref r_142, .ref r_144, .ref r_146, .ref r_148, .ref r_150, .ref r_152, .ref r_154, .ref r_156, .ref r_158, .int x_178, .int r_54, .int x_88, .int (-4), .int g1, .ref r_160, .int gr, .int v_162, .ref r_163])) H := at_180
                  refine lv_iload hx hb dX10_readsItem_330 (lv_at hl 0 rfl) ?_
                  exact tx_zret (z := (x_178, r_54, x_88, -4, g1, n1)) hx hb hr hlk rfl hG hS (Or.inr rfl) dX10_readsItem_332
                · skip
                  have c_177 : vj115.toInt ≠ 0 := q_ne c_177
                  refine lv_pc (pc2 := 266) rfl ?_
                  refine lv_iload hx hb dX10_readsItem_266 (lv_at hl 0 rfl) ?_
                  refine lv_if_eq (tgt := 317) hx hb dX10_readsItem_268 (by decide) (fun c_182 => ?_) (fun c_182 => ?_)
                  · skip
                    have c_182 : vj116.toInt = 0 := q_eq c_182
                    refine lv_iconst (v := 0) hx hb dX10_readsItem_317 (by decide) ?_
                    refine lv_istore (lv' := [(7, .int 0), (6, .int vj116), (5, .int vj115), (4, .int r_62), (0, .ref a0), (1, .int a1), (2, .int a2), (3, .int a3)]) hx hb dX10_readsItem_318 hl (by decide) rfl (fun ls hl => ?_)
                    refine lv_aload_n hx hb dX10_readsItem_320 rfl (lv_at hl 4 rfl) ?_
                    refine lv_dup hx hb dX10_readsItem_321 rfl ?_
                    refine va_get (D := D) (ci := 9) (v := .int e1) (C := RX10) (T := TX10) (N := 36) hx hb hts in10 hown hK (va_one at_165) 0 rfl rfl 27 (by decide) (hts (.fieldLink RX10 109 "RiverModelModel" "end" "I") (List.mem_of_getElem? (i := 1) rfl)) (fun _ h9 => h9) rfl dX10_readsItem_322 ?_
                    refine lv_iconst (v := 1) hx hb dX10_readsItem_325 (by decide) ?_
                    refine lv_pc (pc2 := 326) rfl ?_
                    refine lv_iadd hx hb dX10_readsItem_326 ?_
                    refine lv_topi (fun x_183 e_184 => ?_)
                    have i_x_183 : x_183.toInt = e1.toInt + 1 := by rw [e_184]; exact (q_add (by rw [show (1 : Int32).toInt = 1 by decide]; omega) (by rw [show (1 : Int32).toInt = 1 by decide]; omega)).trans (by rw [show (1 : Int32).toInt = 1 by decide])
                    refine ty_put (D := D) (ci := 9) (v := .int x_183) (ty := .int) (C := RX10) (T := TX10) (N := 36) (F2 := (mF cI cL cC gC gE gW gA gT gI gS gM K F S N gH gJ x_183 r_54 x_88 (-4) g1 gr n1)) hx hb hts in10 tyX10 tyX10_ok nmX10 hown hK hG hS at_165 (by rw [k_a0]; rfl) rfl 27 (by decide) (hts (.fieldLink RX10 109 "RiverModelModel" "end" "I") (List.mem_of_getElem? (i := 1) rfl)) (fun _ h9 => h9) rfl (by decide +kernel) rfl rfl (Nat.le_of_ble_eq_true rfl) (by rw [k_a0]; exact ⟨r_117, v_119, r_120, r_122, r_124, r_126, r_128, r_130, r_132, r_134, r_136, r_138, r_140, r_142, r_144, r_146, r_148, r_150, r_152, r_154, r_156, r_158, r_160, v_162, r_163, rfl, h_118, h_121, h_123, h_125, h_127, h_129, h_131, h_133, h_135, h_137, h_139, h_141, h_143, h_145, h_147, h_149, h_151, h_153, h_155, h_157, h_159, h_161, h_164⟩) (fun hG b hb h0 => by obtain ⟨e, g1, g2⟩ := hG b h0; exact ⟨e, g1, mF_ge (fun h => hb (uq b a0 (h.trans k_a0.symm) h0)) g2⟩) dX10_readsItem_327 (fun H locs hG hS at_185 o_186 => ?_)
                    have at_185 : va_at D vwCl (a0, .inr (9, [.int gC, .ref r_117, .int v_119, .int gI, .ref r_120, .ref r_122, .ref r_124, .ref r_126, .int gS, .ref r_128, .ref r_130, .ref r_132, .ref r_134, .int gM, .ref r_136, .ref r_138, .ref r_140, .int gE, .ref r_142, .ref r_144, .ref r_146, .ref r_148, .ref r_150, .ref r_152, .ref r_154, .ref r_156, .ref r_158, .int x_183, .int r_54, .int x_88, .int (-4), .int g1, .ref r_160, .int gr, .int v_162, .ref r_163])) H := at_185
                    refine lv_iload hx hb dX10_readsItem_330 (lv_at hl 0 rfl) ?_
                    exact tx_zret (z := (x_183, r_54, x_88, -4, g1, n1)) hx hb hr hlk rfl hG hS (Or.inr rfl) dX10_readsItem_332
                  · skip
                    have c_182 : vj116.toInt ≠ 0 := q_ne c_182
                    refine lv_aload_n hx hb dX10_readsItem_271 rfl (lv_at hl 3 rfl) ?_
                    refine va_get (D := D) (ci := 9) (v := .int r_54) (C := RX10) (T := TX10) (N := 36) hx hb hts in10 hown hK (va_one at_165) 0 rfl rfl 28 (by decide) (hts (.fieldLink RX10 125 "RiverModelModel" "readKind" "I") (List.mem_of_getElem? (i := 6) rfl)) (fun _ h9 => h9) rfl dX10_readsItem_272 ?_
                    refine lv_bipush (v := 103) hx hb dX10_readsItem_275 (by decide) ?_
                    refine lv_icmp_ne (tgt := 285) hx hb dX10_readsItem_277 (by decide) (fun c_187 => ?_) (fun c_187 => ?_)
                    · skip
                      have c_187 : r_54.toInt ≠ 103 := q_ne c_187
                      refine lv_pc (pc2 := 285) rfl ?_
                      refine lv_aload_n hx hb dX10_readsItem_285 rfl (lv_at hl 3 rfl) ?_
                      refine va_get (D := D) (ci := 9) (v := .int r_54) (C := RX10) (T := TX10) (N := 36) hx hb hts in10 hown hK (va_one at_165) 0 rfl rfl 28 (by decide) (hts (.fieldLink RX10 125 "RiverModelModel" "readKind" "I") (List.mem_of_getElem? (i := 6) rfl)) (fun _ h9 => h9) rfl dX10_readsItem_286 ?_
                      refine lv_aload_n hx hb dX10_readsItem_289 rfl (lv_at hl 3 rfl) ?_
                      refine va_get (D := D) (ci := 9) (v := .ref r_160) (C := RX10) (T := TX10) (N := 36) hx hb hts in10 hown hK (va_one at_165) 0 rfl rfl 32 (by decide) (hts (.fieldLink RX10 74 "RiverModelModel" "readNumber" "[I") (List.mem_of_getElem? (i := 13) rfl)) (fun _ h9 => h9) rfl dX10_readsItem_290 ?_
                      refine lv_iconst (v := 0) hx hb dX10_readsItem_293 (by decide) ?_
                      have at_188 := mF_o62 hG h_161
                      have b_189 : vp_in 0 3 := (q_in (by decide) (by decide))
                      refine va_iald hx hb hK (va_one at_188) 0 0 rfl rfl b_189 dX10_readsItem_294 ?_
                      refine lv_topi (fun x_190 e_191 => ?_)
                      have w_x_190 : x_190 = n1 0 := by rw [e_191]; rfl
                      have i_x_190 : x_190.toInt = (n1 0).toInt := by rw [w_x_190]
                      refine lv_aload_n hx hb dX10_readsItem_295 rfl (lv_at hl 3 rfl) ?_
                      refine va_get (D := D) (ci := 9) (v := .ref r_160) (C := RX10) (T := TX10) (N := 36) hx hb hts in10 hown hK (va_one at_165) 0 rfl rfl 32 (by decide) (hts (.fieldLink RX10 74 "RiverModelModel" "readNumber" "[I") (List.mem_of_getElem? (i := 13) rfl)) (fun _ h9 => h9) rfl dX10_readsItem_296 ?_
                      refine lv_pc (pc2 := 299) rfl ?_
                      refine lv_iconst (v := 1) hx hb dX10_readsItem_299 (by decide) ?_
                      have b_192 : vp_in 1 3 := (q_in (by decide) (by decide))
                      refine va_iald hx hb hK (va_one at_188) 0 0 rfl rfl b_192 dX10_readsItem_300 ?_
                      refine lv_topi (fun x_193 e_194 => ?_)
                      have w_x_193 : x_193 = n1 1 := by rw [e_194]; rfl
                      have i_x_193 : x_193.toInt = (n1 1).toInt := by rw [w_x_193]
                      refine lv_aload_n hx hb dX10_readsItem_301 rfl (lv_at hl 3 rfl) ?_
                      refine va_get (D := D) (ci := 9) (v := .ref r_160) (C := RX10) (T := TX10) (N := 36) hx hb hts in10 hown hK (va_one at_165) 0 rfl rfl 32 (by decide) (hts (.fieldLink RX10 74 "RiverModelModel" "readNumber" "[I") (List.mem_of_getElem? (i := 13) rfl)) (fun _ h9 => h9) rfl dX10_readsItem_302 ?_
                      refine lv_iconst (v := 2) hx hb dX10_readsItem_305 (by decide) ?_
                      have b_195 : vp_in 2 3 := (q_in (by decide) (by decide))
                      refine va_iald hx hb hK (va_one at_188) 0 0 rfl rfl b_195 dX10_readsItem_306 ?_
                      refine lv_topi (fun x_196 e_197 => ?_)
                      have w_x_196 : x_196 = n1 2 := by rw [e_197]; rfl
                      have i_x_196 : x_196.toInt = (n1 2).toInt := by rw [w_x_196]
                      refine ty_calli (W.runS (As := [.int r_54, .int x_190, .int x_193, .int x_196]) (rest := []) ⟨hx, hb, hml, hown, hts⟩ (m_X10_areWell l D t cI cL cC gC gE gW gA gT gI gS gM K F S N gH gJ e1 r_54 x_88 (-4) g1 gr n1 r_54 x_190 x_193 x_196  uq  ) (va_cwS 4 hts gu_X10_readsItem_X10_areWell_144 rfl rfl rfl (by decide +kernel) ⟨Nat.le_of_ble_eq_true rfl, Nat.le_of_ble_eq_true rfl⟩) (tP_S hG hE) rfl rfl hl.1 rfl (lv_room (Nat.le_of_ble_eq_true rfl)) dX10_readsItem_307 ⟨Nat.le_of_ble_eq_true rfl, Nat.le_of_ble_eq_true rfl⟩) hS (fun k h => by simp [wr0] at h) (fun r_198 H locs hp_199 hG hS o_200 => ?_)
                      have at_165 := va_at.keptC at_165 o_200 k_a0 rfl
                      have at_188 := va_at.keptC at_188 o_200 h_161 rfl
                      have hp_199 : (r_198 = 1 ∧ weOk r_54 x_190 x_193) ∨ (r_198 = 0) := hp_199
                      rcases hp_199 with ⟨rfl, p_202⟩ | rfl
                      · skip
                        refine lv_if_eq (tgt := 317) hx hb dX10_readsItem_310 (by decide) (fun q => absurd q (by decide)) (fun _ => ?_)
                        refine lv_pc (pc2 := 313) rfl ?_
                        refine lv_iconst (v := 1) hx hb dX10_readsItem_313 (by decide) ?_
                        refine lv_goto (tgt := 318) hx hb dX10_readsItem_314 (by decide) ?_
                        refine lv_istore (lv' := [(7, .int 1), (6, .int vj116), (5, .int vj115), (4, .int r_62), (0, .ref a0), (1, .int a1), (2, .int a2), (3, .int a3)]) hx hb dX10_readsItem_318 hl (by decide) rfl (fun ls hl => ?_)
                        refine lv_aload_n hx hb dX10_readsItem_320 rfl (lv_at hl 4 rfl) ?_
                        refine lv_dup hx hb dX10_readsItem_321 rfl ?_
                        refine va_get (D := D) (ci := 9) (v := .int e1) (C := RX10) (T := TX10) (N := 36) hx hb hts in10 hown hK (va_one at_165) 0 rfl rfl 27 (by decide) (hts (.fieldLink RX10 109 "RiverModelModel" "end" "I") (List.mem_of_getElem? (i := 1) rfl)) (fun _ h9 => h9) rfl dX10_readsItem_322 ?_
                        refine lv_iconst (v := 1) hx hb dX10_readsItem_325 (by decide) ?_
                        refine lv_iadd hx hb dX10_readsItem_326 ?_
                        refine lv_topi (fun x_203 e_204 => ?_)
                        have i_x_203 : x_203.toInt = e1.toInt + 1 := by rw [e_204]; exact (q_add (by rw [show (1 : Int32).toInt = 1 by decide]; omega) (by rw [show (1 : Int32).toInt = 1 by decide]; omega)).trans (by rw [show (1 : Int32).toInt = 1 by decide])
                        refine lv_pc (pc2 := 327) rfl ?_
                        refine ty_put (D := D) (ci := 9) (v := .int x_203) (ty := .int) (C := RX10) (T := TX10) (N := 36) (F2 := (mF cI cL cC gC gE gW gA gT gI gS gM K F S N gH gJ x_203 r_54 x_88 (-4) g1 gr n1)) hx hb hts in10 tyX10 tyX10_ok nmX10 hown hK hG hS at_165 (by rw [k_a0]; rfl) rfl 27 (by decide) (hts (.fieldLink RX10 109 "RiverModelModel" "end" "I") (List.mem_of_getElem? (i := 1) rfl)) (fun _ h9 => h9) rfl (by decide +kernel) rfl rfl (Nat.le_of_ble_eq_true rfl) (by rw [k_a0]; exact ⟨r_117, v_119, r_120, r_122, r_124, r_126, r_128, r_130, r_132, r_134, r_136, r_138, r_140, r_142, r_144, r_146, r_148, r_150, r_152, r_154, r_156, r_158, r_160, v_162, r_163, rfl, h_118, h_121, h_123, h_125, h_127, h_129, h_131, h_133, h_135, h_137, h_139, h_141, h_143, h_145, h_147, h_149, h_151, h_153, h_155, h_157, h_159, h_161, h_164⟩) (fun hG b hb h0 => by obtain ⟨e, g1, g2⟩ := hG b h0; exact ⟨e, g1, mF_ge (fun h => hb (uq b a0 (h.trans k_a0.symm) h0)) g2⟩) dX10_readsItem_327 (fun H locs hG hS at_205 o_206 => ?_)
                        have at_205 : va_at D vwCl (a0, .inr (9, [.int gC, .ref r_117, .int v_119, .int gI, .ref r_120, .ref r_122, .ref r_124, .ref r_126, .int gS, .ref r_128, .ref r_130, .ref r_132, .ref r_134, .int gM, .ref r_136, .ref r_138, .ref r_140, .int gE, .ref r_142, .ref r_144, .ref r_146, .ref r_148, .ref r_150, .ref r_152, .ref r_154, .ref r_156, .ref r_158, .int x_203, .int r_54, .int x_88, .int (-4), .int g1, .ref r_160, .int gr, .int v_162, .ref r_163])) H := at_205
                        have at_188 := va_at.keptK at_188 o_206 k_a0 h_161 rfl
                        refine lv_iload hx hb dX10_readsItem_330 (lv_at hl 0 rfl) ?_
                        exact tx_zret (z := (x_203, r_54, x_88, -4, g1, n1)) hx hb hr hlk rfl hG hS (Or.inl ⟨rfl, (by show a1.toInt < x_203.toInt; omega), (by show x_203.toInt ≤ a1.toInt + 40; omega), (by show itOk r_54 x_88 ((-4) : Int32) (n1 0) (n1 1); exact ⟨by omega, by omega, by omega, by omega, fun q => by have := p_202.1 (by omega); omega, fun q => by have := p_202.2 (by omega); omega⟩), (by show nmOk r_54 x_88 a2; exact fun q => by omega)⟩) dX10_readsItem_332
                      · skip
                        refine lv_if_eq (tgt := 317) hx hb dX10_readsItem_310 (by decide) (fun _ => ?_) (fun q => absurd (by decide) q)
                        refine lv_iconst (v := 0) hx hb dX10_readsItem_317 (by decide) ?_
                        refine lv_istore (lv' := [(7, .int 0), (6, .int vj116), (5, .int vj115), (4, .int r_62), (0, .ref a0), (1, .int a1), (2, .int a2), (3, .int a3)]) hx hb dX10_readsItem_318 hl (by decide) rfl (fun ls hl => ?_)
                        refine lv_aload_n hx hb dX10_readsItem_320 rfl (lv_at hl 4 rfl) ?_
                        refine lv_dup hx hb dX10_readsItem_321 rfl ?_
                        refine lv_pc (pc2 := 322) rfl ?_
                        refine va_get (D := D) (ci := 9) (v := .int e1) (C := RX10) (T := TX10) (N := 36) hx hb hts in10 hown hK (va_one at_165) 0 rfl rfl 27 (by decide) (hts (.fieldLink RX10 109 "RiverModelModel" "end" "I") (List.mem_of_getElem? (i := 1) rfl)) (fun _ h9 => h9) rfl dX10_readsItem_322 ?_
                        refine lv_iconst (v := 1) hx hb dX10_readsItem_325 (by decide) ?_
                        refine lv_iadd hx hb dX10_readsItem_326 ?_
                        refine lv_topi (fun x_207 e_208 => ?_)
                        have i_x_207 : x_207.toInt = e1.toInt + 1 := by rw [e_208]; exact (q_add (by rw [show (1 : Int32).toInt = 1 by decide]; omega) (by rw [show (1 : Int32).toInt = 1 by decide]; omega)).trans (by rw [show (1 : Int32).toInt = 1 by decide])
                        refine ty_put (D := D) (ci := 9) (v := .int x_207) (ty := .int) (C := RX10) (T := TX10) (N := 36) (F2 := (mF cI cL cC gC gE gW gA gT gI gS gM K F S N gH gJ x_207 r_54 x_88 (-4) g1 gr n1)) hx hb hts in10 tyX10 tyX10_ok nmX10 hown hK hG hS at_165 (by rw [k_a0]; rfl) rfl 27 (by decide) (hts (.fieldLink RX10 109 "RiverModelModel" "end" "I") (List.mem_of_getElem? (i := 1) rfl)) (fun _ h9 => h9) rfl (by decide +kernel) rfl rfl (Nat.le_of_ble_eq_true rfl) (by rw [k_a0]; exact ⟨r_117, v_119, r_120, r_122, r_124, r_126, r_128, r_130, r_132, r_134, r_136, r_138, r_140, r_142, r_144, r_146, r_148, r_150, r_152, r_154, r_156, r_158, r_160, v_162, r_163, rfl, h_118, h_121, h_123, h_125, h_127, h_129, h_131, h_133, h_135, h_137, h_139, h_141, h_143, h_145, h_147, h_149, h_151, h_153, h_155, h_157, h_159, h_161, h_164⟩) (fun hG b hb h0 => by obtain ⟨e, g1, g2⟩ := hG b h0; exact ⟨e, g1, mF_ge (fun h => hb (uq b a0 (h.trans k_a0.symm) h0)) g2⟩) dX10_readsItem_327 (fun H locs hG hS at_209 o_210 => ?_)
                        have at_209 : va_at D vwCl (a0, .inr (9, [.int gC, .ref r_117, .int v_119, .int gI, .ref r_120, .ref r_122, .ref r_124, .ref r_126, .int gS, .ref r_128, .ref r_130, .ref r_132, .ref r_134, .int gM, .ref r_136, .ref r_138, .ref r_140, .int gE, .ref r_142, .ref r_144, .ref r_146, .ref r_148, .ref r_150, .ref r_152, .ref r_154, .ref r_156, .ref r_158, .int x_207, .int r_54, .int x_88, .int (-4), .int g1, .ref r_160, .int gr, .int v_162, .ref r_163])) H := at_209
                        have at_188 := va_at.keptK at_188 o_210 k_a0 h_161 rfl
                        refine lv_iload hx hb dX10_readsItem_330 (lv_at hl 0 rfl) ?_
                        exact tx_zret (z := (x_207, r_54, x_88, -4, g1, n1)) hx hb hr hlk rfl hG hS (Or.inr rfl) dX10_readsItem_332
                    · skip
                      have c_187 : r_54.toInt = 103 := q_eq c_187
                      refine lv_iload_n hx hb dX10_readsItem_280 rfl (lv_at hl 6 rfl) ?_
                      refine lv_iconst (v := 4) hx hb dX10_readsItem_281 (by decide) ?_
                      refine lv_pc (pc2 := 282) rfl ?_
                      refine lv_icmp_ge (tgt := 317) hx hb dX10_readsItem_282 (by decide) (fun c_211 => ?_) (fun c_211 => ?_)
                      · skip
                        have c_211 : 4 ≤ a3.toInt := q_le c_211
                        refine lv_iconst (v := 0) hx hb dX10_readsItem_317 (by decide) ?_
                        refine lv_istore (lv' := [(7, .int 0), (6, .int vj116), (5, .int vj115), (4, .int r_62), (0, .ref a0), (1, .int a1), (2, .int a2), (3, .int a3)]) hx hb dX10_readsItem_318 hl (by decide) rfl (fun ls hl => ?_)
                        refine lv_aload_n hx hb dX10_readsItem_320 rfl (lv_at hl 4 rfl) ?_
                        refine lv_dup hx hb dX10_readsItem_321 rfl ?_
                        refine va_get (D := D) (ci := 9) (v := .int e1) (C := RX10) (T := TX10) (N := 36) hx hb hts in10 hown hK (va_one at_165) 0 rfl rfl 27 (by decide) (hts (.fieldLink RX10 109 "RiverModelModel" "end" "I") (List.mem_of_getElem? (i := 1) rfl)) (fun _ h9 => h9) rfl dX10_readsItem_322 ?_
                        refine lv_iconst (v := 1) hx hb dX10_readsItem_325 (by decide) ?_
                        refine lv_iadd hx hb dX10_readsItem_326 ?_
                        refine lv_topi (fun x_212 e_213 => ?_)
                        have i_x_212 : x_212.toInt = e1.toInt + 1 := by rw [e_213]; exact (q_add (by rw [show (1 : Int32).toInt = 1 by decide]; omega) (by rw [show (1 : Int32).toInt = 1 by decide]; omega)).trans (by rw [show (1 : Int32).toInt = 1 by decide])
                        refine lv_pc (pc2 := 327) rfl ?_
                        refine ty_put (D := D) (ci := 9) (v := .int x_212) (ty := .int) (C := RX10) (T := TX10) (N := 36) (F2 := (mF cI cL cC gC gE gW gA gT gI gS gM K F S N gH gJ x_212 r_54 x_88 (-4) g1 gr n1)) hx hb hts in10 tyX10 tyX10_ok nmX10 hown hK hG hS at_165 (by rw [k_a0]; rfl) rfl 27 (by decide) (hts (.fieldLink RX10 109 "RiverModelModel" "end" "I") (List.mem_of_getElem? (i := 1) rfl)) (fun _ h9 => h9) rfl (by decide +kernel) rfl rfl (Nat.le_of_ble_eq_true rfl) (by rw [k_a0]; exact ⟨r_117, v_119, r_120, r_122, r_124, r_126, r_128, r_130, r_132, r_134, r_136, r_138, r_140, r_142, r_144, r_146, r_148, r_150, r_152, r_154, r_156, r_158, r_160, v_162, r_163, rfl, h_118, h_121, h_123, h_125, h_127, h_129, h_131, h_133, h_135, h_137, h_139, h_141, h_143, h_145, h_147, h_149, h_151, h_153, h_155, h_157, h_159, h_161, h_164⟩) (fun hG b hb h0 => by obtain ⟨e, g1, g2⟩ := hG b h0; exact ⟨e, g1, mF_ge (fun h => hb (uq b a0 (h.trans k_a0.symm) h0)) g2⟩) dX10_readsItem_327 (fun H locs hG hS at_214 o_215 => ?_)
                        have at_214 : va_at D vwCl (a0, .inr (9, [.int gC, .ref r_117, .int v_119, .int gI, .ref r_120, .ref r_122, .ref r_124, .ref r_126, .int gS, .ref r_128, .ref r_130, .ref r_132, .ref r_134, .int gM, .ref r_136, .ref r_138, .ref r_140, .int gE, .ref r_142, .ref r_144, .ref r_146, .ref r_148, .ref r_150, .ref r_152, .ref r_154, .ref r_156, .ref r_158, .int x_212, .int r_54, .int x_88, .int (-4), .int g1, .ref r_160, .int gr, .int v_162, .ref r_163])) H := at_214
                        refine lv_iload hx hb dX10_readsItem_330 (lv_at hl 0 rfl) ?_
                        exact tx_zret (z := (x_212, r_54, x_88, -4, g1, n1)) hx hb hr hlk rfl hG hS (Or.inr rfl) dX10_readsItem_332
                      · skip
                        have c_211 : a3.toInt < 4 := q_nle c_211
                        refine lv_aload_n hx hb dX10_readsItem_285 rfl (lv_at hl 3 rfl) ?_
                        refine va_get (D := D) (ci := 9) (v := .int r_54) (C := RX10) (T := TX10) (N := 36) hx hb hts in10 hown hK (va_one at_165) 0 rfl rfl 28 (by decide) (hts (.fieldLink RX10 125 "RiverModelModel" "readKind" "I") (List.mem_of_getElem? (i := 6) rfl)) (fun _ h9 => h9) rfl dX10_readsItem_286 ?_
                        refine lv_aload_n hx hb dX10_readsItem_289 rfl (lv_at hl 3 rfl) ?_
                        refine va_get (D := D) (ci := 9) (v := .ref r_160) (C := RX10) (T := TX10) (N := 36) hx hb hts in10 hown hK (va_one at_165) 0 rfl rfl 32 (by decide) (hts (.fieldLink RX10 74 "RiverModelModel" "readNumber" "[I") (List.mem_of_getElem? (i := 13) rfl)) (fun _ h9 => h9) rfl dX10_readsItem_290 ?_
                        refine lv_iconst (v := 0) hx hb dX10_readsItem_293 (by decide) ?_
                        refine lv_pc (pc2 := 294) rfl ?_
                        have at_216 := mF_o62 hG h_161
                        have b_217 : vp_in 0 3 := (q_in (by decide) (by decide))
                        refine va_iald hx hb hK (va_one at_216) 0 0 rfl rfl b_217 dX10_readsItem_294 ?_
                        refine lv_topi (fun x_218 e_219 => ?_)
                        have w_x_218 : x_218 = n1 0 := by rw [e_219]; rfl
                        have i_x_218 : x_218.toInt = (n1 0).toInt := by rw [w_x_218]
                        refine lv_aload_n hx hb dX10_readsItem_295 rfl (lv_at hl 3 rfl) ?_
                        refine va_get (D := D) (ci := 9) (v := .ref r_160) (C := RX10) (T := TX10) (N := 36) hx hb hts in10 hown hK (va_one at_165) 0 rfl rfl 32 (by decide) (hts (.fieldLink RX10 74 "RiverModelModel" "readNumber" "[I") (List.mem_of_getElem? (i := 13) rfl)) (fun _ h9 => h9) rfl dX10_readsItem_296 ?_
                        refine lv_iconst (v := 1) hx hb dX10_readsItem_299 (by decide) ?_
                        have b_220 : vp_in 1 3 := (q_in (by decide) (by decide))
                        refine va_iald hx hb hK (va_one at_216) 0 0 rfl rfl b_220 dX10_readsItem_300 ?_
                        refine lv_topi (fun x_221 e_222 => ?_)
                        have w_x_221 : x_221 = n1 1 := by rw [e_222]; rfl
                        have i_x_221 : x_221.toInt = (n1 1).toInt := by rw [w_x_221]
                        refine lv_aload_n hx hb dX10_readsItem_301 rfl (lv_at hl 3 rfl) ?_
                        refine va_get (D := D) (ci := 9) (v := .ref r_160) (C := RX10) (T := TX10) (N := 36) hx hb hts in10 hown hK (va_one at_165) 0 rfl rfl 32 (by decide) (hts (.fieldLink RX10 74 "RiverModelModel" "readNumber" "[I") (List.mem_of_getElem? (i := 13) rfl)) (fun _ h9 => h9) rfl dX10_readsItem_302 ?_
                        refine lv_iconst (v := 2) hx hb dX10_readsItem_305 (by decide) ?_
                        refine lv_pc (pc2 := 306) rfl ?_
                        have b_223 : vp_in 2 3 := (q_in (by decide) (by decide))
                        refine va_iald hx hb hK (va_one at_216) 0 0 rfl rfl b_223 dX10_readsItem_306 ?_
                        refine lv_topi (fun x_224 e_225 => ?_)
                        have w_x_224 : x_224 = n1 2 := by rw [e_225]; rfl
                        have i_x_224 : x_224.toInt = (n1 2).toInt := by rw [w_x_224]
                        refine ty_calli (W.runS (As := [.int r_54, .int x_218, .int x_221, .int x_224]) (rest := []) ⟨hx, hb, hml, hown, hts⟩ (m_X10_areWell l D t cI cL cC gC gE gW gA gT gI gS gM K F S N gH gJ e1 r_54 x_88 (-4) g1 gr n1 r_54 x_218 x_221 x_224  uq  ) (va_cwS 4 hts gu_X10_readsItem_X10_areWell_144 rfl rfl rfl (by decide +kernel) ⟨Nat.le_of_ble_eq_true rfl, Nat.le_of_ble_eq_true rfl⟩) (tP_S hG hE) rfl rfl hl.1 rfl (lv_room (Nat.le_of_ble_eq_true rfl)) dX10_readsItem_307 ⟨Nat.le_of_ble_eq_true rfl, Nat.le_of_ble_eq_true rfl⟩) hS (fun k h => by simp [wr0] at h) (fun r_226 H locs hp_227 hG hS o_228 => ?_)
                        have at_165 := va_at.keptC at_165 o_228 k_a0 rfl
                        have at_216 := va_at.keptC at_216 o_228 h_161 rfl
                        have hp_227 : (r_226 = 1 ∧ weOk r_54 x_218 x_221) ∨ (r_226 = 0) := hp_227
                        rcases hp_227 with ⟨rfl, p_230⟩ | rfl
                        · skip
                          refine lv_if_eq (tgt := 317) hx hb dX10_readsItem_310 (by decide) (fun q => absurd q (by decide)) (fun _ => ?_)
                          refine lv_iconst (v := 1) hx hb dX10_readsItem_313 (by decide) ?_
                          refine lv_goto (tgt := 318) hx hb dX10_readsItem_314 (by decide) ?_
                          refine lv_istore (lv' := [(7, .int 1), (6, .int vj116), (5, .int vj115), (4, .int r_62), (0, .ref a0), (1, .int a1), (2, .int a2), (3, .int a3)]) hx hb dX10_readsItem_318 hl (by decide) rfl (fun ls hl => ?_)
                          refine lv_aload_n hx hb dX10_readsItem_320 rfl (lv_at hl 4 rfl) ?_
                          refine lv_dup hx hb dX10_readsItem_321 rfl ?_
                          refine lv_pc (pc2 := 322) rfl ?_
                          refine va_get (D := D) (ci := 9) (v := .int e1) (C := RX10) (T := TX10) (N := 36) hx hb hts in10 hown hK (va_one at_165) 0 rfl rfl 27 (by decide) (hts (.fieldLink RX10 109 "RiverModelModel" "end" "I") (List.mem_of_getElem? (i := 1) rfl)) (fun _ h9 => h9) rfl dX10_readsItem_322 ?_
                          refine lv_iconst (v := 1) hx hb dX10_readsItem_325 (by decide) ?_
                          refine lv_iadd hx hb dX10_readsItem_326 ?_
                          refine lv_topi (fun x_231 e_232 => ?_)
                          have i_x_231 : x_231.toInt = e1.toInt + 1 := by rw [e_232]; exact (q_add (by rw [show (1 : Int32).toInt = 1 by decide]; omega) (by rw [show (1 : Int32).toInt = 1 by decide]; omega)).trans (by rw [show (1 : Int32).toInt = 1 by decide])
                          refine ty_put (D := D) (ci := 9) (v := .int x_231) (ty := .int) (C := RX10) (T := TX10) (N := 36) (F2 := (mF cI cL cC gC gE gW gA gT gI gS gM K F S N gH gJ x_231 r_54 x_88 (-4) g1 gr n1)) hx hb hts in10 tyX10 tyX10_ok nmX10 hown hK hG hS at_165 (by rw [k_a0]; rfl) rfl 27 (by decide) (hts (.fieldLink RX10 109 "RiverModelModel" "end" "I") (List.mem_of_getElem? (i := 1) rfl)) (fun _ h9 => h9) rfl (by decide +kernel) rfl rfl (Nat.le_of_ble_eq_true rfl) (by rw [k_a0]; exact ⟨r_117, v_119, r_120, r_122, r_124, r_126, r_128, r_130, r_132, r_134, r_136, r_138, r_140, r_142, r_144, r_146, r_148, r_150, r_152, r_154, r_156, r_158, r_160, v_162, r_163, rfl, h_118, h_121, h_123, h_125, h_127, h_129, h_131, h_133, h_135, h_137, h_139, h_141, h_143, h_145, h_147, h_149, h_151, h_153, h_155, h_157, h_159, h_161, h_164⟩) (fun hG b hb h0 => by obtain ⟨e, g1, g2⟩ := hG b h0; exact ⟨e, g1, mF_ge (fun h => hb (uq b a0 (h.trans k_a0.symm) h0)) g2⟩) dX10_readsItem_327 (fun H locs hG hS at_233 o_234 => ?_)
                          have at_233 : va_at D vwCl (a0, .inr (9, [.int gC, .ref r_117, .int v_119, .int gI, .ref r_120, .ref r_122, .ref r_124, .ref r_126, .int gS, .ref r_128, .ref r_130, .ref r_132, .ref r_134, .int gM, .ref r_136, .ref r_138, .ref r_140, .int gE, .ref r_142, .ref r_144, .ref r_146, .ref r_148, .ref r_150, .ref r_152, .ref r_154, .ref r_156, .ref r_158, .int x_231, .int r_54, .int x_88, .int (-4), .int g1, .ref r_160, .int gr, .int v_162, .ref r_163])) H := at_233
                          have at_216 := va_at.keptK at_216 o_234 k_a0 h_161 rfl
                          refine lv_iload hx hb dX10_readsItem_330 (lv_at hl 0 rfl) ?_
                          exact tx_zret (z := (x_231, r_54, x_88, -4, g1, n1)) hx hb hr hlk rfl hG hS (Or.inl ⟨rfl, (by show a1.toInt < x_231.toInt; omega), (by show x_231.toInt ≤ a1.toInt + 40; omega), (by show itOk r_54 x_88 ((-4) : Int32) (n1 0) (n1 1); exact ⟨by omega, by omega, by omega, by omega, fun q => by have := p_230.1 (by omega); omega, fun q => by have := p_230.2 (by omega); omega⟩), (by show nmOk r_54 x_88 a2; exact fun q => by omega)⟩) dX10_readsItem_332
                        · skip
                          refine lv_if_eq (tgt := 317) hx hb dX10_readsItem_310 (by decide) (fun _ => ?_) (fun q => absurd (by decide) q)
                          refine lv_iconst (v := 0) hx hb dX10_readsItem_317 (by decide) ?_
                          refine lv_pc (pc2 := 318) rfl ?_
                          refine lv_istore (lv' := [(7, .int 0), (6, .int vj116), (5, .int vj115), (4, .int r_62), (0, .ref a0), (1, .int a1), (2, .int a2), (3, .int a3)]) hx hb dX10_readsItem_318 hl (by decide) rfl (fun ls hl => ?_)
                          refine lv_aload_n hx hb dX10_readsItem_320 rfl (lv_at hl 4 rfl) ?_
                          refine lv_dup hx hb dX10_readsItem_321 rfl ?_
                          refine va_get (D := D) (ci := 9) (v := .int e1) (C := RX10) (T := TX10) (N := 36) hx hb hts in10 hown hK (va_one at_165) 0 rfl rfl 27 (by decide) (hts (.fieldLink RX10 109 "RiverModelModel" "end" "I") (List.mem_of_getElem? (i := 1) rfl)) (fun _ h9 => h9) rfl dX10_readsItem_322 ?_
                          refine lv_iconst (v := 1) hx hb dX10_readsItem_325 (by decide) ?_
                          refine lv_iadd hx hb dX10_readsItem_326 ?_
                          refine lv_topi (fun x_235 e_236 => ?_)
                          have i_x_235 : x_235.toInt = e1.toInt + 1 := by rw [e_236]; exact (q_add (by rw [show (1 : Int32).toInt = 1 by decide]; omega) (by rw [show (1 : Int32).toInt = 1 by decide]; omega)).trans (by rw [show (1 : Int32).toInt = 1 by decide])
                          refine ty_put (D := D) (ci := 9) (v := .int x_235) (ty := .int) (C := RX10) (T := TX10) (N := 36) (F2 := (mF cI cL cC gC gE gW gA gT gI gS gM K F S N gH gJ x_235 r_54 x_88 (-4) g1 gr n1)) hx hb hts in10 tyX10 tyX10_ok nmX10 hown hK hG hS at_165 (by rw [k_a0]; rfl) rfl 27 (by decide) (hts (.fieldLink RX10 109 "RiverModelModel" "end" "I") (List.mem_of_getElem? (i := 1) rfl)) (fun _ h9 => h9) rfl (by decide +kernel) rfl rfl (Nat.le_of_ble_eq_true rfl) (by rw [k_a0]; exact ⟨r_117, v_119, r_120, r_122, r_124, r_126, r_128, r_130, r_132, r_134, r_136, r_138, r_140, r_142, r_144, r_146, r_148, r_150, r_152, r_154, r_156, r_158, r_160, v_162, r_163, rfl, h_118, h_121, h_123, h_125, h_127, h_129, h_131, h_133, h_135, h_137, h_139, h_141, h_143, h_145, h_147, h_149, h_151, h_153, h_155, h_157, h_159, h_161, h_164⟩) (fun hG b hb h0 => by obtain ⟨e, g1, g2⟩ := hG b h0; exact ⟨e, g1, mF_ge (fun h => hb (uq b a0 (h.trans k_a0.symm) h0)) g2⟩) dX10_readsItem_327 (fun H locs hG hS at_237 o_238 => ?_)
                          have at_237 : va_at D vwCl (a0, .inr (9, [.int gC, .ref r_117, .int v_119, .int gI, .ref r_120, .ref r_122, .ref r_124, .ref r_126, .int gS, .ref r_128, .ref r_130, .ref r_132, .ref r_134, .int gM, .ref r_136, .ref r_138, .ref r_140, .int gE, .ref r_142, .ref r_144, .ref r_146, .ref r_148, .ref r_150, .ref r_152, .ref r_154, .ref r_156, .ref r_158, .int x_235, .int r_54, .int x_88, .int (-4), .int g1, .ref r_160, .int gr, .int v_162, .ref r_163])) H := at_237
                          have at_216 := va_at.keptK at_216 o_238 k_a0 h_161 rfl
                          refine lv_iload hx hb dX10_readsItem_330 (lv_at hl 0 rfl) ?_
                          refine lv_pc (pc2 := 332) rfl ?_
                          exact tx_zret (z := (x_235, r_54, x_88, -4, g1, n1)) hx hb hr hlk rfl hG hS (Or.inr rfl) dX10_readsItem_332
            refine (hWW116 _ _ _).mpr ?_
            refine lv_aload_n hx hb dX10_readsItem_211 rfl (lv_at hl 2 rfl) ?_
            obtain ⟨r_239, v_241, r_242, r_244, r_246, r_248, r_250, r_252, r_254, r_256, r_258, r_260, r_262, r_264, r_266, r_268, r_270, r_272, r_274, r_276, r_278, r_280, r_282, v_284, r_285, at_287, h_240, h_243, h_245, h_247, h_249, h_251, h_253, h_255, h_257, h_259, h_261, h_263, h_265, h_267, h_269, h_271, h_273, h_275, h_277, h_279, h_281, h_283, h_286⟩ := mF_o40 hG k_a0
            refine va_get (D := D) (ci := 9) (v := .int (-4)) (C := RX10) (T := TX10) (N := 36) hx hb hts in10 hown hK (va_one at_287) 0 rfl rfl 30 (by decide) (hts (.fieldLink RX10 138 "RiverModelModel" "readSecond" "I") (List.mem_of_getElem? (i := 12) rfl)) (fun _ h9 => h9) rfl dX10_readsItem_212 ?_
            refine lv_if_lt (tgt := 241) hx hb dX10_readsItem_215 (by decide) (fun _ => ?_) (fun q => absurd (by decide) q)
            refine lv_iconst (v := 1) hx hb dX10_readsItem_241 (by decide) ?_
            refine lv_goto (tgt := 246) hx hb dX10_readsItem_242 (by decide) ?_
            exact (hWW116 _ _ _).mp (jn116 1)
          refine (hWW115 _ _ _).mpr ?_
          refine lv_iload_n hx hb dX10_readsItem_179 rfl (lv_at hl 4 rfl) ?_
          refine lv_aload_n hx hb dX10_readsItem_180 rfl (lv_at hl 2 rfl) ?_
          refine lv_pc (pc2 := 181) rfl ?_
          obtain ⟨r_288, v_290, r_291, r_293, r_295, r_297, r_299, r_301, r_303, r_305, r_307, r_309, r_311, r_313, r_315, r_317, r_319, r_321, r_323, r_325, r_327, r_329, r_331, v_333, r_334, at_336, h_289, h_292, h_294, h_296, h_298, h_300, h_302, h_304, h_306, h_308, h_310, h_312, h_314, h_316, h_318, h_320, h_322, h_324, h_326, h_328, h_330, h_332, h_335⟩ := mF_o40 hG k_a0
          refine va_get (D := D) (ci := 9) (v := .int x_88) (C := RX10) (T := TX10) (N := 36) hx hb hts in10 hown hK (va_one at_336) 0 rfl rfl 29 (by decide) (hts (.fieldLink RX10 135 "RiverModelModel" "readFirst" "I") (List.mem_of_getElem? (i := 11) rfl)) (fun _ h9 => h9) rfl dX10_readsItem_181 ?_
          refine lv_ishr hx hb dX10_readsItem_184 ?_
          refine lv_topi (fun x_337 e_338 => ?_)
          refine lv_iconst (v := 1) hx hb dX10_readsItem_185 (by decide) ?_
          refine lv_iand hx hb dX10_readsItem_186 ?_
          refine lv_topi (fun x_339 e_340 => ?_)
          have w_x_339 : x_339 = bitI a2 x_88 := by rw [e_340, e_338]; rfl
          have i_x_339 : x_339.toInt = (bitI a2 x_88).toInt := by rw [w_x_339]
          refine lv_aload_n hx hb dX10_readsItem_187 rfl (lv_at hl 2 rfl) ?_
          refine va_get (D := D) (ci := 9) (v := .int r_54) (C := RX10) (T := TX10) (N := 36) hx hb hts in10 hown hK (va_one at_336) 0 rfl rfl 28 (by decide) (hts (.fieldLink RX10 125 "RiverModelModel" "readKind" "I") (List.mem_of_getElem? (i := 6) rfl)) (fun _ h9 => h9) rfl dX10_readsItem_188 ?_
          refine lv_bipush (v := 115) hx hb dX10_readsItem_191 (by decide) ?_
          refine lv_icmp_ne (tgt := 200) hx hb dX10_readsItem_193 (by decide) (fun c_341 => ?_) (fun c_341 => ?_)
          · skip
            have c_341 : r_54.toInt ≠ 115 := q_ne c_341
            refine lv_pc (pc2 := 200) rfl ?_
            refine lv_iconst (v := 1) hx hb dX10_readsItem_200 (by decide) ?_
            refine lv_icmp_ne (tgt := 208) hx hb dX10_readsItem_201 (by decide) (fun c_342 => ?_) (fun c_342 => ?_)
            · skip
              have c_342 : x_339.toInt ≠ 1 := q_ne c_342
              refine lv_iconst (v := 0) hx hb dX10_readsItem_208 (by decide) ?_
              exact (hWW115 _ _ _).mp (jn115 0 (by omega) (by omega) (by omega))
            · skip
              have c_342 : x_339.toInt = 1 := q_eq c_342
              refine lv_iconst (v := 1) hx hb dX10_readsItem_204 (by decide) ?_
              refine lv_goto (tgt := 209) hx hb dX10_readsItem_205 (by decide) ?_
              exact (hWW115 _ _ _).mp (jn115 1 (by omega) (by omega) (by omega))
          · skip
            have c_341 : r_54.toInt = 115 := q_eq c_341
            refine lv_iconst (v := 0) hx hb dX10_readsItem_196 (by decide) ?_
            refine lv_goto (tgt := 201) hx hb dX10_readsItem_197 (by decide) ?_
            refine lv_icmp_ne (tgt := 208) hx hb dX10_readsItem_201 (by decide) (fun c_343 => ?_) (fun c_343 => ?_)
            · skip
              have c_343 : x_339.toInt ≠ 0 := q_ne c_343
              refine lv_pc (pc2 := 208) rfl ?_
              refine lv_iconst (v := 0) hx hb dX10_readsItem_208 (by decide) ?_
              exact (hWW115 _ _ _).mp (jn115 0 (by omega) (by omega) (by omega))
            · skip
              have c_343 : x_339.toInt = 0 := q_eq c_343
              refine lv_iconst (v := 1) hx hb dX10_readsItem_204 (by decide) ?_
              refine lv_goto (tgt := 209) hx hb dX10_readsItem_205 (by decide) ?_
              exact (hWW115 _ _ _).mp (jn115 1 (by omega) (by omega) (by omega))
        have lp114 : ∀ (kk114 : Nat) (yi : Int32) (e1 : Int32) (g1 : Int32) (n1 : Nat → Int32) (H1 : Heap) (locs1 : List Loc) (ls1 : Array Slot), 3 - yi.toInt ≤ (kk114 : Int) → (0 ≤ yi.toInt) → (yi.toInt ≤ 3) → (a1.toInt < e1.toInt) → (e1.toInt ≤ a1.toInt + 3 + 9 * yi.toInt) → tG D (mF cI cL cC gC gE gW gA gT gI gS gM K F S N gH gJ e1 r_54 x_88 (-4) g1 gr n1) t H1 → tF t wP s.heap H1 locs1 → lv_has ls1 8 [(5, .int yi), (4, .int r_62), (0, .ref a0), (1, .int a1), (2, .int a2), (3, .int a3)] → WW114 H1 locs1 (F0 m 152 ls1 []) := by
          intro kk114
          induction kk114 with
          | zero =>
            intro yi e1 g1 n1 H locs ls hk114 v114_0 v114_1 v114_2 v114_3 hG hS hl
            refine (hWW114 _ _ _).mpr ?_
            refine lv_iload hx hb dX10_readsItem_152 (lv_at hl 0 rfl) ?_
            refine lv_iload hx hb dX10_readsItem_154 (lv_at hl 1 rfl) ?_
            refine lv_bipush (v := 10) hx hb dX10_readsItem_156 (by decide) ?_
            refine lv_irem hx hb dX10_readsItem_158 (by decide) ?_
            refine lv_topi (fun x_344 e_345 => ?_)
            have i_x_344 : x_344.toInt = r_62.toInt % 10 := by rw [e_345]; exact q_remE (n := 10) rfl (by decide) (by omega)
            refine lv_icmp_ge (tgt := 179) hx hb dX10_readsItem_159 (by decide) (fun c_346 => ?_) (fun c_346 => ?_)
            · skip
              have c_346 : x_344.toInt ≤ yi.toInt := q_le c_346
              exact (hWW114 _ _ _).mp (kx114 yi e1 g1 n1 H locs ls v114_0 v114_1 v114_2 v114_3 hG hS (lv_sub hl [0, 1, 2, 3, 4, 5] rfl))
            · skip
              have c_346 : yi.toInt < x_344.toInt := q_nle c_346
              exfalso; omega
          | succ kk114 ih114 =>
            intro yi e1 g1 n1 H locs ls hk114 v114_0 v114_1 v114_2 v114_3 hG hS hl
            refine (hWW114 _ _ _).mpr ?_
            refine lv_pc (pc2 := 152) rfl ?_
            refine lv_iload hx hb dX10_readsItem_152 (lv_at hl 0 rfl) ?_
            refine lv_iload hx hb dX10_readsItem_154 (lv_at hl 1 rfl) ?_
            refine lv_bipush (v := 10) hx hb dX10_readsItem_156 (by decide) ?_
            refine lv_irem hx hb dX10_readsItem_158 (by decide) ?_
            refine lv_topi (fun x_347 e_348 => ?_)
            have i_x_347 : x_347.toInt = r_62.toInt % 10 := by rw [e_348]; exact q_remE (n := 10) rfl (by decide) (by omega)
            refine lv_icmp_ge (tgt := 179) hx hb dX10_readsItem_159 (by decide) (fun c_349 => ?_) (fun c_349 => ?_)
            · skip
              have c_349 : x_347.toInt ≤ yi.toInt := q_le c_349
              exact (hWW114 _ _ _).mp (kx114 yi e1 g1 n1 H locs ls v114_0 v114_1 v114_2 v114_3 hG hS (lv_sub hl [0, 1, 2, 3, 4, 5] rfl))
            · skip
              have c_349 : yi.toInt < x_347.toInt := q_nle c_349
              refine lv_aload_n hx hb dX10_readsItem_162 rfl (lv_at hl 2 rfl) ?_
              refine lv_iload hx hb dX10_readsItem_163 (lv_at hl 0 rfl) ?_
              obtain ⟨r_350, v_352, r_353, r_355, r_357, r_359, r_361, r_363, r_365, r_367, r_369, r_371, r_373, r_375, r_377, r_379, r_381, r_383, r_385, r_387, r_389, r_391, r_393, v_395, r_396, at_398, h_351, h_354, h_356, h_358, h_360, h_362, h_364, h_366, h_368, h_370, h_372, h_374, h_376, h_378, h_380, h_382, h_384, h_386, h_388, h_390, h_392, h_394, h_397⟩ := mF_o40 hG k_a0
              refine tx_calli (W.runV (As := [.int yi]) (rest := []) ⟨hx, hb, hml, hown, hts⟩ (m_X10_readsNumber l D t cI cL cC gC gE gW gA gT gI gS gM K F S N gH gJ e1 r_54 x_88 (-4) g1 gr n1 a0 yi  uq (by omega) (by omega) (by omega) (by omega) (by omega) (by omega) k_a0) (cwV 1 hts gu_X10_readsItem_X10_readsNumber_141 rfl rfl rfl (by decide +kernel) ⟨Nat.le_of_ble_eq_true rfl, Nat.le_of_ble_eq_true rfl⟩) (tP_V hG hE at_398 rfl) rfl rfl hl.1 rfl (lv_room (Nat.le_of_ble_eq_true rfl)) dX10_readsItem_165 ⟨Nat.le_of_ble_eq_true rfl, Nat.le_of_ble_eq_true rfl⟩) hS (fun _ h => h) (fun r_399 zz_402 H locs hp_400 hG hS o_401 => ?_)
              obtain ⟨ge_403, gg_404, RN_405⟩ := zz_402
              replace hG : tG D (mF cI cL cC gC gE gW gA gT gI gS gM K F S N gH gJ ge_403 r_54 x_88 (-4) gg_404 gr RN_405) t H := hG
              have hp_400 : (r_399 = 1 ∧ e1.toInt < ge_403.toInt ∧ ge_403.toInt ≤ e1.toInt + 9) ∨ (r_399 = 0) := hp_400
              rcases hp_400 with ⟨rfl, p_406, p_407⟩ | rfl
              · skip
                refine lv_pc (pc2 := 168) rfl ?_
                refine lv_if_ne (tgt := 173) hx hb dX10_readsItem_168 (by decide) (fun _ => ?_) (fun q => absurd q (by decide))
                obtain ⟨x_408, e_409⟩ : ∃ y : Int32, y = yi + Int32.ofInt 1 := ⟨_, rfl⟩
                have i_x_408 : x_408.toInt = yi.toInt + 1 := by rw [e_409, show Int32.ofInt 1 = 1 by decide]; exact (q_add (by rw [show (1 : Int32).toInt = 1 by decide]; omega) (by rw [show (1 : Int32).toInt = 1 by decide]; omega)).trans (by rw [show (1 : Int32).toInt = 1 by decide])
                refine lv_iinc (v := x_408) (lv' := [(5, .int x_408), (4, .int r_62), (0, .ref a0), (1, .int a1), (2, .int a2), (3, .int a3)]) hx hb dX10_readsItem_173 hl (k := 0) rfl e_409.symm (by decide) rfl (fun ls hl => ?_)
                refine lv_goto (tgt := 152) hx hb dX10_readsItem_176 (by decide) ?_
                exact (hWW114 _ _ _).mp (ih114 x_408 ge_403 gg_404 RN_405 H locs ls (by omega) (by omega) (by omega) (by omega) (by omega) hG hS (lv_sub hl [0, 1, 2, 3, 4, 5] rfl))
              · skip
                refine lv_if_ne (tgt := 173) hx hb dX10_readsItem_168 (by decide) (fun q => absurd rfl q) (fun _ => ?_)
                refine lv_iconst (v := 0) hx hb dX10_readsItem_171 (by decide) ?_
                exact tx_zret (z := (ge_403, r_54, x_88, -4, gg_404, RN_405)) hx hb hr hlk rfl hG hS (Or.inr rfl) dX10_readsItem_172
        exact lp114 (3 - (0 : Int32).toInt : Int).toNat 0 x_94 gg q_111 H locs ls (by omega) (by omega) (by omega) (by omega) (by omega) hG hS (lv_sub hl [0, 1, 2, 3, 4, 5] rfl)
      · skip
        have c_98 : 19 < r_62.toInt := q_nle c_98
        refine lv_aload_n hx hb dX10_readsItem_84 rfl (lv_at hl 1 rfl) ?_
        refine lv_aload_n hx hb dX10_readsItem_85 rfl (lv_at hl 1 rfl) ?_
        refine lv_pc (pc2 := 86) rfl ?_
        refine va_get (D := D) (ci := 9) (v := .int x_94) (C := RX10) (T := TX10) (N := 36) hx hb hts in10 hown hK (va_one at_96) 0 rfl rfl 27 (by decide) (hts (.fieldLink RX10 109 "RiverModelModel" "end" "I") (List.mem_of_getElem? (i := 1) rfl)) (fun _ h9 => h9) rfl dX10_readsItem_86 ?_
        refine ty_calli (W.runV (As := [.int x_94]) (rest := []) ⟨hx, hb, hml, hown, hts⟩ (m_X10_byteAt l D t cI cL cC gC gE gW gA gT gI gS gM K F S N gH gJ x_94 r_54 x_88 (-4) gg gr RN a0 x_94  uq (by omega) (by omega) (by omega) k_a0) (cwV 1 hts gu_X10_readsItem_X10_byteAt_112 rfl rfl rfl (by decide +kernel) ⟨Nat.le_of_ble_eq_true rfl, Nat.le_of_ble_eq_true rfl⟩) (tP_V hG hE at_96 rfl) rfl rfl hl.1 rfl (lv_room (Nat.le_of_ble_eq_true rfl)) dX10_readsItem_89 ⟨Nat.le_of_ble_eq_true rfl, Nat.le_of_ble_eq_true rfl⟩) hS (fun k h => by simp [wr0] at h) (fun r_410 H locs hp_411 hG hS o_412 => ?_)
        have at_96 := va_at.keptC at_96 o_412 k_a0 rfl
        have hp_411 : r_410 = bA gT gC x_94 ∧ r_410.toInt = (bA gT gC x_94).toInt := hp_411
        obtain ⟨p_414, p_415⟩ := hp_411
        refine ty_calli (W.runS (As := [.int r_410]) (rest := []) ⟨hx, hb, hml, hown, hts⟩ (m_X10_isName l D t cI cL cC gC gE gW gA gT gI gS gM K F S N gH gJ x_94 r_54 x_88 (-4) gg gr RN r_410  uq  ) (va_cwS 1 hts gu_X10_readsItem_X10_isName_131 rfl rfl rfl (by decide +kernel) ⟨Nat.le_of_ble_eq_true rfl, Nat.le_of_ble_eq_true rfl⟩) (tP_S hG hE) rfl rfl hl.1 rfl (lv_room (Nat.le_of_ble_eq_true rfl)) dX10_readsItem_92 ⟨Nat.le_of_ble_eq_true rfl, Nat.le_of_ble_eq_true rfl⟩) hS (fun k h => by simp [wr0] at h) (fun r_416 H locs hp_417 hG hS o_418 => ?_)
        have at_96 := va_at.keptC at_96 o_418 k_a0 rfl
        have hp_417 : (r_416 = 1 ∧ 97 ≤ r_410.toInt ∧ r_410.toInt ≤ 112) ∨ (r_416 = 0 ∧ (r_410.toInt < 97 ∨ 112 < r_410.toInt)) := hp_417
        rcases hp_417 with ⟨rfl, p_420, p_421⟩ | ⟨rfl, p_422⟩
        · skip
          refine lv_if_ne (tgt := 100) hx hb dX10_readsItem_95 (by decide) (fun _ => ?_) (fun q => absurd q (by decide))
          refine lv_aload_n hx hb dX10_readsItem_100 rfl (lv_at hl 1 rfl) ?_
          refine lv_aload_n hx hb dX10_readsItem_101 rfl (lv_at hl 1 rfl) ?_
          refine lv_aload_n hx hb dX10_readsItem_102 rfl (lv_at hl 1 rfl) ?_
          refine va_get (D := D) (ci := 9) (v := .int x_94) (C := RX10) (T := TX10) (N := 36) hx hb hts in10 hown hK (va_one at_96) 0 rfl rfl 27 (by decide) (hts (.fieldLink RX10 109 "RiverModelModel" "end" "I") (List.mem_of_getElem? (i := 1) rfl)) (fun _ h9 => h9) rfl dX10_readsItem_103 ?_
          refine lv_pc (pc2 := 106) rfl ?_
          refine ty_calli (W.runV (As := [.int x_94]) (rest := [.ref a0]) ⟨hx, hb, hml, hown, hts⟩ (m_X10_byteAt l D t cI cL cC gC gE gW gA gT gI gS gM K F S N gH gJ x_94 r_54 x_88 (-4) gg gr RN a0 x_94  uq (by omega) (by omega) (by omega) k_a0) (cwV 1 hts gu_X10_readsItem_X10_byteAt_112 rfl rfl rfl (by decide +kernel) ⟨Nat.le_of_ble_eq_true rfl, Nat.le_of_ble_eq_true rfl⟩) (tP_V hG hE at_96 rfl) rfl rfl hl.1 rfl (lv_room (Nat.le_of_ble_eq_true rfl)) dX10_readsItem_106 ⟨Nat.le_of_ble_eq_true rfl, Nat.le_of_ble_eq_true rfl⟩) hS (fun k h => by simp [wr0] at h) (fun r_423 H locs hp_424 hG hS o_425 => ?_)
          have at_96 := va_at.keptC at_96 o_425 k_a0 rfl
          have hp_424 : r_423 = bA gT gC x_94 ∧ r_423.toInt = (bA gT gC x_94).toInt := hp_424
          obtain ⟨p_427, p_428⟩ := hp_424
          refine lv_bipush (v := 97) hx hb dX10_readsItem_109 (by decide) ?_
          refine lv_isub hx hb dX10_readsItem_111 ?_
          refine lv_topi (fun x_429 e_430 => ?_)
          have i_x_429 : x_429.toInt = r_423.toInt - 97 := by rw [e_430]; exact (q_sub (by rw [show (97 : Int32).toInt = 97 by decide]; omega) (by rw [show (97 : Int32).toInt = 97 by decide]; omega)).trans (by rw [show (97 : Int32).toInt = 97 by decide])
          refine ty_put (D := D) (ci := 9) (v := .int x_429) (ty := .int) (C := RX10) (T := TX10) (N := 36) (F2 := (mF cI cL cC gC gE gW gA gT gI gS gM K F S N gH gJ x_94 r_54 x_88 x_429 gg gr RN)) hx hb hts in10 tyX10 tyX10_ok nmX10 hown hK hG hS at_96 (by rw [k_a0]; rfl) rfl 30 (by decide) (hts (.fieldLink RX10 138 "RiverModelModel" "readSecond" "I") (List.mem_of_getElem? (i := 12) rfl)) (fun _ h9 => h9) rfl (by decide +kernel) rfl rfl (Nat.le_of_ble_eq_true rfl) (by rw [k_a0]; exact ⟨r_3, v_5, r_6, r_8, r_10, r_12, r_14, r_16, r_18, r_20, r_22, r_24, r_26, r_28, r_30, r_32, r_34, r_36, r_38, r_40, r_42, r_44, r_46, v_48, r_49, rfl, h_4, h_7, h_9, h_11, h_13, h_15, h_17, h_19, h_21, h_23, h_25, h_27, h_29, h_31, h_33, h_35, h_37, h_39, h_41, h_43, h_45, h_47, h_50⟩) (fun hG b hb h0 => by obtain ⟨e, g1, g2⟩ := hG b h0; exact ⟨e, g1, mF_gs (fun h => hb (uq b a0 (h.trans k_a0.symm) h0)) g2⟩) dX10_readsItem_112 (fun H locs hG hS at_431 o_432 => ?_)
          have at_431 : va_at D vwCl (a0, .inr (9, [.int gC, .ref r_3, .int v_5, .int gI, .ref r_6, .ref r_8, .ref r_10, .ref r_12, .int gS, .ref r_14, .ref r_16, .ref r_18, .ref r_20, .int gM, .ref r_22, .ref r_24, .ref r_26, .int gE, .ref r_28, .ref r_30, .ref r_32, .ref r_34, .ref r_36, .ref r_38, .ref r_40, .ref r_42, .ref r_44, .int x_94, .int r_54, .int x_88, .int x_429, .int gg, .ref r_46, .int gr, .int v_48, .ref r_49])) H := at_431
          refine lv_aload_n hx hb dX10_readsItem_115 rfl (lv_at hl 1 rfl) ?_
          refine lv_dup hx hb dX10_readsItem_116 rfl ?_
          refine va_get (D := D) (ci := 9) (v := .int x_94) (C := RX10) (T := TX10) (N := 36) hx hb hts in10 hown hK (va_one at_431) 0 rfl rfl 27 (by decide) (hts (.fieldLink RX10 109 "RiverModelModel" "end" "I") (List.mem_of_getElem? (i := 1) rfl)) (fun _ h9 => h9) rfl dX10_readsItem_117 ?_
          refine lv_iconst (v := 1) hx hb dX10_readsItem_120 (by decide) ?_
          refine lv_pc (pc2 := 121) rfl ?_
          refine lv_iadd hx hb dX10_readsItem_121 ?_
          refine lv_topi (fun x_433 e_434 => ?_)
          have i_x_433 : x_433.toInt = x_94.toInt + 1 := by rw [e_434]; exact (q_add (by rw [show (1 : Int32).toInt = 1 by decide]; omega) (by rw [show (1 : Int32).toInt = 1 by decide]; omega)).trans (by rw [show (1 : Int32).toInt = 1 by decide])
          refine ty_put (D := D) (ci := 9) (v := .int x_433) (ty := .int) (C := RX10) (T := TX10) (N := 36) (F2 := (mF cI cL cC gC gE gW gA gT gI gS gM K F S N gH gJ x_433 r_54 x_88 x_429 gg gr RN)) hx hb hts in10 tyX10 tyX10_ok nmX10 hown hK hG hS at_431 (by rw [k_a0]; rfl) rfl 27 (by decide) (hts (.fieldLink RX10 109 "RiverModelModel" "end" "I") (List.mem_of_getElem? (i := 1) rfl)) (fun _ h9 => h9) rfl (by decide +kernel) rfl rfl (Nat.le_of_ble_eq_true rfl) (by rw [k_a0]; exact ⟨r_3, v_5, r_6, r_8, r_10, r_12, r_14, r_16, r_18, r_20, r_22, r_24, r_26, r_28, r_30, r_32, r_34, r_36, r_38, r_40, r_42, r_44, r_46, v_48, r_49, rfl, h_4, h_7, h_9, h_11, h_13, h_15, h_17, h_19, h_21, h_23, h_25, h_27, h_29, h_31, h_33, h_35, h_37, h_39, h_41, h_43, h_45, h_47, h_50⟩) (fun hG b hb h0 => by obtain ⟨e, g1, g2⟩ := hG b h0; exact ⟨e, g1, mF_ge (fun h => hb (uq b a0 (h.trans k_a0.symm) h0)) g2⟩) dX10_readsItem_122 (fun H locs hG hS at_435 o_436 => ?_)
          have at_435 : va_at D vwCl (a0, .inr (9, [.int gC, .ref r_3, .int v_5, .int gI, .ref r_6, .ref r_8, .ref r_10, .ref r_12, .int gS, .ref r_14, .ref r_16, .ref r_18, .ref r_20, .int gM, .ref r_22, .ref r_24, .ref r_26, .int gE, .ref r_28, .ref r_30, .ref r_32, .ref r_34, .ref r_36, .ref r_38, .ref r_40, .ref r_42, .ref r_44, .int x_433, .int r_54, .int x_88, .int x_429, .int gg, .ref r_46, .int gr, .int v_48, .ref r_49])) H := at_435
          refine lv_iconst (v := 0) hx hb dX10_readsItem_125 (by decide) ?_
          refine lv_istore (lv' := [(5, .int 0), (4, .int r_62), (0, .ref a0), (1, .int a1), (2, .int a2), (3, .int a3)]) hx hb dX10_readsItem_126 hl (by decide) rfl (fun ls hl => ?_)
          refine lv_iload hx hb dX10_readsItem_128 (lv_at hl 0 rfl) ?_
          refine lv_iconst (v := 3) hx hb dX10_readsItem_130 (by decide) ?_
          refine lv_icmp_ge (tgt := 149) hx hb dX10_readsItem_131 (by decide) (fun q => absurd q (by decide)) (fun _ => ?_)
          refine lv_aload_n hx hb dX10_readsItem_134 rfl (lv_at hl 2 rfl) ?_
          refine lv_pc (pc2 := 135) rfl ?_
          refine va_get (D := D) (ci := 9) (v := .ref r_46) (C := RX10) (T := TX10) (N := 36) hx hb hts in10 hown hK (va_one at_435) 0 rfl rfl 32 (by decide) (hts (.fieldLink RX10 74 "RiverModelModel" "readNumber" "[I") (List.mem_of_getElem? (i := 13) rfl)) (fun _ h9 => h9) rfl dX10_readsItem_135 ?_
          refine lv_iload hx hb dX10_readsItem_138 (lv_at hl 0 rfl) ?_
          refine lv_bipush (v := (-4)) hx hb dX10_readsItem_140 (by decide) ?_
          have at_437 := mF_o62 hG h_47
          have b_438 : vp_in 0 3 := (q_in (by decide) (by decide))
          have zi_0 : (0 : Int32).toInt = 0 := by decide
          obtain ⟨q_439, eq_439⟩ : ∃ q : Nat → Int32, q = upd RN (0 : Int32).toNatClampNeg (-4) := ⟨_, rfl⟩
          refine ty_iast (F2 := (mF cI cL cC gC gE gW gA gT gI gS gM K F S N gH gJ x_433 r_54 x_88 x_429 gg gr q_439)) hx hb hK hG hS 0 at_437 (by rw [h_47]; rfl) rfl b_438 (by rw [h_47]; show _ = _; rw [eq_439]) (fun hG b hb h0 => by obtain ⟨e, g1, g2⟩ := hG b h0; exact ⟨e, g1, mF_RN (fun h => hb (uq b r_46 (h.trans h_47.symm) h0)) g2⟩) dX10_readsItem_142 (fun H locs hG hS at_440 o_441 => ?_)
          have at_435 := va_at.keptK at_435 o_441 h_47 k_a0 rfl
          refine lv_iinc (v := 1) (lv' := [(5, .int 1), (4, .int r_62), (0, .ref a0), (1, .int a1), (2, .int a2), (3, .int a3)]) hx hb dX10_readsItem_143 hl (k := 0) rfl (by decide) (by decide) rfl (fun ls hl => ?_)
          refine lv_goto (tgt := 128) hx hb dX10_readsItem_146 (by decide) ?_
          refine lv_iload hx hb dX10_readsItem_128 (lv_at hl 0 rfl) ?_
          refine lv_iconst (v := 3) hx hb dX10_readsItem_130 (by decide) ?_
          refine lv_pc (pc2 := 131) rfl ?_
          refine lv_icmp_ge (tgt := 149) hx hb dX10_readsItem_131 (by decide) (fun q => absurd q (by decide)) (fun _ => ?_)
          refine lv_aload_n hx hb dX10_readsItem_134 rfl (lv_at hl 2 rfl) ?_
          refine va_get (D := D) (ci := 9) (v := .ref r_46) (C := RX10) (T := TX10) (N := 36) hx hb hts in10 hown hK (va_one at_435) 0 rfl rfl 32 (by decide) (hts (.fieldLink RX10 74 "RiverModelModel" "readNumber" "[I") (List.mem_of_getElem? (i := 13) rfl)) (fun _ h9 => h9) rfl dX10_readsItem_135 ?_
          refine lv_iload hx hb dX10_readsItem_138 (lv_at hl 0 rfl) ?_
          refine lv_bipush (v := (-4)) hx hb dX10_readsItem_140 (by decide) ?_
          have at_442 := mF_o62 hG h_47
          have b_443 : vp_in 1 3 := (q_in (by decide) (by decide))
          have zi_1 : (1 : Int32).toInt = 1 := by decide
          obtain ⟨q_444, eq_444⟩ : ∃ q : Nat → Int32, q = upd q_439 (1 : Int32).toNatClampNeg (-4) := ⟨_, rfl⟩
          refine ty_iast (F2 := (mF cI cL cC gC gE gW gA gT gI gS gM K F S N gH gJ x_433 r_54 x_88 x_429 gg gr q_444)) hx hb hK hG hS 0 at_442 (by rw [h_47]; rfl) rfl b_443 (by rw [h_47]; show _ = _; rw [eq_444]) (fun hG b hb h0 => by obtain ⟨e, g1, g2⟩ := hG b h0; exact ⟨e, g1, mF_RN (fun h => hb (uq b r_46 (h.trans h_47.symm) h0)) g2⟩) dX10_readsItem_142 (fun H locs hG hS at_445 o_446 => ?_)
          have at_435 := va_at.keptK at_435 o_446 h_47 k_a0 rfl
          refine lv_iinc (v := 2) (lv' := [(5, .int 2), (4, .int r_62), (0, .ref a0), (1, .int a1), (2, .int a2), (3, .int a3)]) hx hb dX10_readsItem_143 hl (k := 0) rfl (by decide) (by decide) rfl (fun ls hl => ?_)
          refine lv_goto (tgt := 128) hx hb dX10_readsItem_146 (by decide) ?_
          refine lv_pc (pc2 := 128) rfl ?_
          refine lv_iload hx hb dX10_readsItem_128 (lv_at hl 0 rfl) ?_
          refine lv_iconst (v := 3) hx hb dX10_readsItem_130 (by decide) ?_
          refine lv_icmp_ge (tgt := 149) hx hb dX10_readsItem_131 (by decide) (fun q => absurd q (by decide)) (fun _ => ?_)
          refine lv_aload_n hx hb dX10_readsItem_134 rfl (lv_at hl 2 rfl) ?_
          refine va_get (D := D) (ci := 9) (v := .ref r_46) (C := RX10) (T := TX10) (N := 36) hx hb hts in10 hown hK (va_one at_435) 0 rfl rfl 32 (by decide) (hts (.fieldLink RX10 74 "RiverModelModel" "readNumber" "[I") (List.mem_of_getElem? (i := 13) rfl)) (fun _ h9 => h9) rfl dX10_readsItem_135 ?_
          refine lv_iload hx hb dX10_readsItem_138 (lv_at hl 0 rfl) ?_
          refine lv_bipush (v := (-4)) hx hb dX10_readsItem_140 (by decide) ?_
          have at_447 := mF_o62 hG h_47
          have b_448 : vp_in 2 3 := (q_in (by decide) (by decide))
          have zi_2 : (2 : Int32).toInt = 2 := by decide
          obtain ⟨q_449, eq_449⟩ : ∃ q : Nat → Int32, q = upd q_444 (2 : Int32).toNatClampNeg (-4) := ⟨_, rfl⟩
          refine ty_iast (F2 := (mF cI cL cC gC gE gW gA gT gI gS gM K F S N gH gJ x_433 r_54 x_88 x_429 gg gr q_449)) hx hb hK hG hS 0 at_447 (by rw [h_47]; rfl) rfl b_448 (by rw [h_47]; show _ = _; rw [eq_449]) (fun hG b hb h0 => by obtain ⟨e, g1, g2⟩ := hG b h0; exact ⟨e, g1, mF_RN (fun h => hb (uq b r_46 (h.trans h_47.symm) h0)) g2⟩) dX10_readsItem_142 (fun H locs hG hS at_450 o_451 => ?_)
          have at_435 := va_at.keptK at_435 o_451 h_47 k_a0 rfl
          refine lv_pc (pc2 := 143) rfl ?_
          refine lv_iinc (v := 3) (lv' := [(5, .int 3), (4, .int r_62), (0, .ref a0), (1, .int a1), (2, .int a2), (3, .int a3)]) hx hb dX10_readsItem_143 hl (k := 0) rfl (by decide) (by decide) rfl (fun ls hl => ?_)
          refine lv_goto (tgt := 128) hx hb dX10_readsItem_146 (by decide) ?_
          refine lv_iload hx hb dX10_readsItem_128 (lv_at hl 0 rfl) ?_
          refine lv_iconst (v := 3) hx hb dX10_readsItem_130 (by decide) ?_
          refine lv_icmp_ge (tgt := 149) hx hb dX10_readsItem_131 (by decide) (fun _ => ?_) (fun q => absurd (by decide) q)
          refine lv_iconst (v := 0) hx hb dX10_readsItem_149 (by decide) ?_
          refine lv_istore (lv' := [(5, .int 0), (4, .int r_62), (0, .ref a0), (1, .int a1), (2, .int a2), (3, .int a3)]) hx hb dX10_readsItem_150 hl (by decide) rfl (fun ls hl => ?_)
          refine lv_pc (pc2 := 152) rfl ?_
          refine lp_gen (fun WW452 hWW452 => ?_)
          have kx452 : ∀ (yi : Int32) (e1 : Int32) (g1 : Int32) (n1 : Nat → Int32) (H1 : Heap) (locs1 : List Loc) (ls1 : Array Slot), (0 ≤ yi.toInt) → (yi.toInt ≤ 3) → (a1.toInt < e1.toInt) → (e1.toInt ≤ a1.toInt + 3 + 9 * yi.toInt) → tG D (mF cI cL cC gC gE gW gA gT gI gS gM K F S N gH gJ e1 r_54 x_88 x_429 g1 gr n1) t H1 → tF t wP s.heap H1 locs1 → lv_has ls1 8 [(5, .int yi), (4, .int r_62), (0, .ref a0), (1, .int a1), (2, .int a2), (3, .int a3)] → WW452 H1 locs1 (F0 m 179 ls1 []) := by
            intro yi e1 g1 n1 H locs ls v452_0 v452_1 v452_2 v452_3 hG hS hl
            refine (hWW452 _ _ _).mpr ?_
            refine lv_pc (pc2 := 179) rfl ?_
            refine lp_gen (fun WW453 hWW453 => ?_)
            have jn453 : ∀ (vj453 : Int32), (0 ≤ vj453.toInt) → (vj453.toInt ≤ 1) → (vj453.toInt ≠ 0 → r_54.toInt ≠ 115 → (bitI a2 x_88).toInt = 1) → WW453 H locs (F0 m 209 ls (.int vj453 :: [])) := by
              intro vj453 fj453_0 fj453_1 fj453_2
              refine (hWW453 _ _ _).mpr ?_
              refine lv_istore (lv' := [(5, .int vj453), (4, .int r_62), (0, .ref a0), (1, .int a1), (2, .int a2), (3, .int a3)]) hx hb dX10_readsItem_209 hl (by decide) rfl (fun ls hl => ?_)
              refine lv_pc (pc2 := 211) rfl ?_
              refine lp_gen (fun WW454 hWW454 => ?_)
              have jn454 : ∀ (vj454 : Int32), WW454 H locs (F0 m 246 ls (.int vj454 :: [])) := by
                intro vj454
                refine (hWW454 _ _ _).mpr ?_
                refine lv_pc (pc2 := 246) rfl ?_
                refine lv_istore (lv' := [(6, .int vj454), (5, .int vj453), (4, .int r_62), (0, .ref a0), (1, .int a1), (2, .int a2), (3, .int a3)]) hx hb dX10_readsItem_246 hl (by decide) rfl (fun ls hl => ?_)
                refine lv_aload_n hx hb dX10_readsItem_248 rfl (lv_at hl 3 rfl) ?_
                refine lv_aload_n hx hb dX10_readsItem_249 rfl (lv_at hl 3 rfl) ?_
                obtain ⟨r_455, v_457, r_458, r_460, r_462, r_464, r_466, r_468, r_470, r_472, r_474, r_476, r_478, r_480, r_482, r_484, r_486, r_488, r_490, r_492, r_494, r_496, r_498, v_500, r_501, at_503, h_456, h_459, h_461, h_463, h_465, h_467, h_469, h_471, h_473, h_475, h_477, h_479, h_481, h_483, h_485, h_487, h_489, h_491, h_493, h_495, h_497, h_499, h_502⟩ := mF_o40 hG k_a0
                refine va_get (D := D) (ci := 9) (v := .int e1) (C := RX10) (T := TX10) (N := 36) hx hb hts in10 hown hK (va_one at_503) 0 rfl rfl 27 (by decide) (hts (.fieldLink RX10 109 "RiverModelModel" "end" "I") (List.mem_of_getElem? (i := 1) rfl)) (fun _ h9 => h9) rfl dX10_readsItem_250 ?_
                refine ty_calli (W.runV (As := [.int e1]) (rest := []) ⟨hx, hb, hml, hown, hts⟩ (m_X10_byteAt l D t cI cL cC gC gE gW gA gT gI gS gM K F S N gH gJ e1 r_54 x_88 x_429 g1 gr n1 a0 e1  uq (by omega) (by omega) (by omega) k_a0) (cwV 1 hts gu_X10_readsItem_X10_byteAt_112 rfl rfl rfl (by decide +kernel) ⟨Nat.le_of_ble_eq_true rfl, Nat.le_of_ble_eq_true rfl⟩) (tP_V hG hE at_503 rfl) rfl rfl hl.1 rfl (lv_room (Nat.le_of_ble_eq_true rfl)) dX10_readsItem_253 ⟨Nat.le_of_ble_eq_true rfl, Nat.le_of_ble_eq_true rfl⟩) hS (fun k h => by simp [wr0] at h) (fun r_504 H locs hp_505 hG hS o_506 => ?_)
                have at_503 := va_at.keptC at_503 o_506 k_a0 rfl
                have hp_505 : r_504 = bA gT gC e1 ∧ r_504.toInt = (bA gT gC e1).toInt := hp_505
                obtain ⟨p_508, p_509⟩ := hp_505
                refine lv_bipush (v := 59) hx hb dX10_readsItem_256 (by decide) ?_
                refine lv_icmp_ne (tgt := 317) hx hb dX10_readsItem_258 (by decide) (fun c_510 => ?_) (fun c_510 => ?_)
                · skip
                  have c_510 : r_504.toInt ≠ 59 := q_ne c_510
                  refine lv_iconst (v := 0) hx hb dX10_readsItem_317 (by decide) ?_
                  refine lv_pc (pc2 := 318) rfl ?_
                  refine lv_istore (lv' := [(7, .int 0), (6, .int vj454), (5, .int vj453), (4, .int r_62), (0, .ref a0), (1, .int a1), (2, .int a2), (3, .int a3)]) hx hb dX10_readsItem_318 hl (by decide) rfl (fun ls hl => ?_)
                  refine lv_aload_n hx hb dX10_readsItem_320 rfl (lv_at hl 4 rfl) ?_
                  refine lv_dup hx hb dX10_readsItem_321 rfl ?_
                  refine va_get (D := D) (ci := 9) (v := .int e1) (C := RX10) (T := TX10) (N := 36) hx hb hts in10 hown hK (va_one at_503) 0 rfl rfl 27 (by decide) (hts (.fieldLink RX10 109 "RiverModelModel" "end" "I") (List.mem_of_getElem? (i := 1) rfl)) (fun _ h9 => h9) rfl dX10_readsItem_322 ?_
                  refine lv_iconst (v := 1) hx hb dX10_readsItem_325 (by decide) ?_
                  refine lv_iadd hx hb dX10_readsItem_326 ?_
                  refine lv_topi (fun x_511 e_512 => ?_)
                  have i_x_511 : x_511.toInt = e1.toInt + 1 := by rw [e_512]; exact (q_add (by rw [show (1 : Int32).toInt = 1 by decide]; omega) (by rw [show (1 : Int32).toInt = 1 by decide]; omega)).trans (by rw [show (1 : Int32).toInt = 1 by decide])
                  refine ty_put (D := D) (ci := 9) (v := .int x_511) (ty := .int) (C := RX10) (T := TX10) (N := 36) (F2 := (mF cI cL cC gC gE gW gA gT gI gS gM K F S N gH gJ x_511 r_54 x_88 x_429 g1 gr n1)) hx hb hts in10 tyX10 tyX10_ok nmX10 hown hK hG hS at_503 (by rw [k_a0]; rfl) rfl 27 (by decide) (hts (.fieldLink RX10 109 "RiverModelModel" "end" "I") (List.mem_of_getElem? (i := 1) rfl)) (fun _ h9 => h9) rfl (by decide +kernel) rfl rfl (Nat.le_of_ble_eq_true rfl) (by rw [k_a0]; exact ⟨r_455, v_457, r_458, r_460, r_462, r_464, r_466, r_468, r_470, r_472, r_474, r_476, r_478, r_480, r_482, r_484, r_486, r_488, r_490, r_492, r_494, r_496, r_498, v_500, r_501, rfl, h_456, h_459, h_461, h_463, h_465, h_467, h_469, h_471, h_473, h_475, h_477, h_479, h_481, h_483, h_485, h_487, h_489, h_491, h_493, h_495, h_497, h_499, h_502⟩) (fun hG b hb h0 => by obtain ⟨e, g1, g2⟩ := hG b h0; exact ⟨e, g1, mF_ge (fun h => hb (uq b a0 (h.trans k_a0.symm) h0)) g2⟩) dX10_readsItem_327 (fun H locs hG hS at_513 o_514 => ?_)
                  have at_513 : va_at D vwCl (a0, .inr (9, [.int gC, .ref r_455, .int v_457, .int gI, .ref r_458, .ref r_460, .ref r_462, .ref r_464, .int gS, .ref r_466, .ref r_468, .ref r_470, .ref r_472, .int gM, .ref r_474, .ref r_476, .ref r_478, .int gE, .ref r_480, .ref r_482, .ref r_484, .ref r_486, .ref r_488, .ref r_490, .ref r_492, .ref r_494, .ref r_496, .int x_511, .int r_54, .int x_88, .int x_429, .int g1, .ref r_498, .int gr, .int v_500, .ref r_501])) H := at_513
                  refine lv_iload hx hb dX10_readsItem_330 (lv_at hl 0 rfl) ?_
                  refine lv_pc (pc2 := 332) rfl ?_
                  exact tx_zret (z := (x_511, r_54, x_88, x_429, g1, n1)) hx hb hr hlk rfl hG hS (Or.inr rfl) dX10_readsItem_332
                · skip
                  have c_510 : r_504.toInt = 59 := q_eq c_510
                  refine lv_iload hx hb dX10_readsItem_261 (lv_at hl 1 rfl) ?_
                  refine lv_if_eq (tgt := 317) hx hb dX10_readsItem_263 (by decide) (fun c_515 => ?_) (fun c_515 => ?_)
                  · skip
                    have c_515 : vj453.toInt = 0 := q_eq c_515
                    refine lv_iconst (v := 0) hx hb dX10_readsItem_317 (by decide) ?_
                    refine lv_istore (lv' := [(7, .int 0), (6, .int vj454), (5, .int vj453), (4, .int r_62), (0, .ref a0), (1, .int a1), (2, .int a2), (3, .int a3)]) hx hb dX10_readsItem_318 hl (by decide) rfl (fun ls hl => ?_)
                    refine lv_aload_n hx hb dX10_readsItem_320 rfl (lv_at hl 4 rfl) ?_
                    refine lv_dup hx hb dX10_readsItem_321 rfl ?_
                    refine va_get (D := D) (ci := 9) (v := .int e1) (C := RX10) (T := TX10) (N := 36) hx hb hts in10 hown hK (va_one at_503) 0 rfl rfl 27 (by decide) (hts (.fieldLink RX10 109 "RiverModelModel" "end" "I") (List.mem_of_getElem? (i := 1) rfl)) (fun _ h9 => h9) rfl dX10_readsItem_322 ?_
                    refine lv_pc (pc2 := 325) rfl ?_
                    refine lv_iconst (v := 1) hx hb dX10_readsItem_325 (by decide) ?_
                    refine lv_iadd hx hb dX10_readsItem_326 ?_
                    refine lv_topi (fun x_516 e_517 => ?_)
                    have i_x_516 : x_516.toInt = e1.toInt + 1 := by rw [e_517]; exact (q_add (by rw [show (1 : Int32).toInt = 1 by decide]; omega) (by rw [show (1 : Int32).toInt = 1 by decide]; omega)).trans (by rw [show (1 : Int32).toInt = 1 by decide])
                    refine ty_put (D := D) (ci := 9) (v := .int x_516) (ty := .int) (C := RX10) (T := TX10) (N := 36) (F2 := (mF cI cL cC gC gE gW gA gT gI gS gM K F S N gH gJ x_516 r_54 x_88 x_429 g1 gr n1)) hx hb hts in10 tyX10 tyX10_ok nmX10 hown hK hG hS at_503 (by rw [k_a0]; rfl) rfl 27 (by decide) (hts (.fieldLink RX10 109 "RiverModelModel" "end" "I") (List.mem_of_getElem? (i := 1) rfl)) (fun _ h9 => h9) rfl (by decide +kernel) rfl rfl (Nat.le_of_ble_eq_true rfl) (by rw [k_a0]; exact ⟨r_455, v_457, r_458, r_460, r_462, r_464, r_466, r_468, r_470, r_472, r_474, r_476, r_478, r_480, r_482, r_484, r_486, r_488, r_490, r_492, r_494, r_496, r_498, v_500, r_501, rfl, h_456, h_459, h_461, h_463, h_465, h_467, h_469, h_471, h_473, h_475, h_477, h_479, h_481, h_483, h_485, h_487, h_489, h_491, h_493, h_495, h_497, h_499, h_502⟩) (fun hG b hb h0 => by obtain ⟨e, g1, g2⟩ := hG b h0; exact ⟨e, g1, mF_ge (fun h => hb (uq b a0 (h.trans k_a0.symm) h0)) g2⟩) dX10_readsItem_327 (fun H locs hG hS at_518 o_519 => ?_)
                    have at_518 : va_at D vwCl (a0, .inr (9, [.int gC, .ref r_455, .int v_457, .int gI, .ref r_458, .ref r_460, .ref r_462, .ref r_464, .int gS, .ref r_466, .ref r_468, .ref r_470, .ref r_472, .int gM, .ref r_474, .ref r_476, .ref r_478, .int gE, .ref r_480, .ref r_482, .ref r_484, .ref r_486, .ref r_488, .ref r_490, .ref r_492, .ref r_494, .ref r_496, .int x_516, .int r_54, .int x_88, .int x_429, .int g1, .ref r_498, .int gr, .int v_500, .ref r_501])) H := at_518
                    refine lv_iload hx hb dX10_readsItem_330 (lv_at hl 0 rfl) ?_
                    exact tx_zret (z := (x_516, r_54, x_88, x_429, g1, n1)) hx hb hr hlk rfl hG hS (Or.inr rfl) dX10_readsItem_332
                  · skip
                    have c_515 : vj453.toInt ≠ 0 := q_ne c_515
                    refine lv_iload hx hb dX10_readsItem_266 (lv_at hl 0 rfl) ?_
                    refine lv_if_eq (tgt := 317) hx hb dX10_readsItem_268 (by decide) (fun c_520 => ?_) (fun c_520 => ?_)
                    · skip
                      have c_520 : vj454.toInt = 0 := q_eq c_520
                      refine lv_iconst (v := 0) hx hb dX10_readsItem_317 (by decide) ?_
                      refine lv_pc (pc2 := 318) rfl ?_
                      refine lv_istore (lv' := [(7, .int 0), (6, .int vj454), (5, .int vj453), (4, .int r_62), (0, .ref a0), (1, .int a1), (2, .int a2), (3, .int a3)]) hx hb dX10_readsItem_318 hl (by decide) rfl (fun ls hl => ?_)
                      refine lv_aload_n hx hb dX10_readsItem_320 rfl (lv_at hl 4 rfl) ?_
                      refine lv_dup hx hb dX10_readsItem_321 rfl ?_
                      refine va_get (D := D) (ci := 9) (v := .int e1) (C := RX10) (T := TX10) (N := 36) hx hb hts in10 hown hK (va_one at_503) 0 rfl rfl 27 (by decide) (hts (.fieldLink RX10 109 "RiverModelModel" "end" "I") (List.mem_of_getElem? (i := 1) rfl)) (fun _ h9 => h9) rfl dX10_readsItem_322 ?_
                      refine lv_iconst (v := 1) hx hb dX10_readsItem_325 (by decide) ?_
                      refine lv_iadd hx hb dX10_readsItem_326 ?_
                      refine lv_topi (fun x_521 e_522 => ?_)
                      have i_x_521 : x_521.toInt = e1.toInt + 1 := by rw [e_522]; exact (q_add (by rw [show (1 : Int32).toInt = 1 by decide]; omega) (by rw [show (1 : Int32).toInt = 1 by decide]; omega)).trans (by rw [show (1 : Int32).toInt = 1 by decide])
                      refine ty_put (D := D) (ci := 9) (v := .int x_521) (ty := .int) (C := RX10) (T := TX10) (N := 36) (F2 := (mF cI cL cC gC gE gW gA gT gI gS gM K F S N gH gJ x_521 r_54 x_88 x_429 g1 gr n1)) hx hb hts in10 tyX10 tyX10_ok nmX10 hown hK hG hS at_503 (by rw [k_a0]; rfl) rfl 27 (by decide) (hts (.fieldLink RX10 109 "RiverModelModel" "end" "I") (List.mem_of_getElem? (i := 1) rfl)) (fun _ h9 => h9) rfl (by decide +kernel) rfl rfl (Nat.le_of_ble_eq_true rfl) (by rw [k_a0]; exact ⟨r_455, v_457, r_458, r_460, r_462, r_464, r_466, r_468, r_470, r_472, r_474, r_476, r_478, r_480, r_482, r_484, r_486, r_488, r_490, r_492, r_494, r_496, r_498, v_500, r_501, rfl, h_456, h_459, h_461, h_463, h_465, h_467, h_469, h_471, h_473, h_475, h_477, h_479, h_481, h_483, h_485, h_487, h_489, h_491, h_493, h_495, h_497, h_499, h_502⟩) (fun hG b hb h0 => by obtain ⟨e, g1, g2⟩ := hG b h0; exact ⟨e, g1, mF_ge (fun h => hb (uq b a0 (h.trans k_a0.symm) h0)) g2⟩) dX10_readsItem_327 (fun H locs hG hS at_523 o_524 => ?_)
                      have at_523 : va_at D vwCl (a0, .inr (9, [.int gC, .ref r_455, .int v_457, .int gI, .ref r_458, .ref r_460, .ref r_462, .ref r_464, .int gS, .ref r_466, .ref r_468, .ref r_470, .ref r_472, .int gM, .ref r_474, .ref r_476, .ref r_478, .int gE, .ref r_480, .ref r_482, .ref r_484, .ref r_486, .ref r_488, .ref r_490, .ref r_492, .ref r_494, .ref r_496, .int x_521, .int r_54, .int x_88, .int x_429, .int g1, .ref r_498, .int gr, .int v_500, .ref r_501])) H := at_523
                      refine lv_iload hx hb dX10_readsItem_330 (lv_at hl 0 rfl) ?_
                      refine lv_pc (pc2 := 332) rfl ?_
                      exact tx_zret (z := (x_521, r_54, x_88, x_429, g1, n1)) hx hb hr hlk rfl hG hS (Or.inr rfl) dX10_readsItem_332
                    · skip
                      have c_520 : vj454.toInt ≠ 0 := q_ne c_520
                      refine lv_aload_n hx hb dX10_readsItem_271 rfl (lv_at hl 3 rfl) ?_
                      refine va_get (D := D) (ci := 9) (v := .int r_54) (C := RX10) (T := TX10) (N := 36) hx hb hts in10 hown hK (va_one at_503) 0 rfl rfl 28 (by decide) (hts (.fieldLink RX10 125 "RiverModelModel" "readKind" "I") (List.mem_of_getElem? (i := 6) rfl)) (fun _ h9 => h9) rfl dX10_readsItem_272 ?_
                      refine lv_bipush (v := 103) hx hb dX10_readsItem_275 (by decide) ?_
                      refine lv_icmp_ne (tgt := 285) hx hb dX10_readsItem_277 (by decide) (fun c_525 => ?_) (fun c_525 => ?_)
                      · skip
                        have c_525 : r_54.toInt ≠ 103 := q_ne c_525
                        refine lv_aload_n hx hb dX10_readsItem_285 rfl (lv_at hl 3 rfl) ?_
                        refine va_get (D := D) (ci := 9) (v := .int r_54) (C := RX10) (T := TX10) (N := 36) hx hb hts in10 hown hK (va_one at_503) 0 rfl rfl 28 (by decide) (hts (.fieldLink RX10 125 "RiverModelModel" "readKind" "I") (List.mem_of_getElem? (i := 6) rfl)) (fun _ h9 => h9) rfl dX10_readsItem_286 ?_
                        refine lv_aload_n hx hb dX10_readsItem_289 rfl (lv_at hl 3 rfl) ?_
                        refine lv_pc (pc2 := 290) rfl ?_
                        refine va_get (D := D) (ci := 9) (v := .ref r_498) (C := RX10) (T := TX10) (N := 36) hx hb hts in10 hown hK (va_one at_503) 0 rfl rfl 32 (by decide) (hts (.fieldLink RX10 74 "RiverModelModel" "readNumber" "[I") (List.mem_of_getElem? (i := 13) rfl)) (fun _ h9 => h9) rfl dX10_readsItem_290 ?_
                        refine lv_iconst (v := 0) hx hb dX10_readsItem_293 (by decide) ?_
                        have at_526 := mF_o62 hG h_499
                        have b_527 : vp_in 0 3 := (q_in (by decide) (by decide))
                        refine va_iald hx hb hK (va_one at_526) 0 0 rfl rfl b_527 dX10_readsItem_294 ?_
                        refine lv_topi (fun x_528 e_529 => ?_)
                        have w_x_528 : x_528 = n1 0 := by rw [e_529]; rfl
                        have i_x_528 : x_528.toInt = (n1 0).toInt := by rw [w_x_528]
                        refine lv_aload_n hx hb dX10_readsItem_295 rfl (lv_at hl 3 rfl) ?_
                        refine va_get (D := D) (ci := 9) (v := .ref r_498) (C := RX10) (T := TX10) (N := 36) hx hb hts in10 hown hK (va_one at_503) 0 rfl rfl 32 (by decide) (hts (.fieldLink RX10 74 "RiverModelModel" "readNumber" "[I") (List.mem_of_getElem? (i := 13) rfl)) (fun _ h9 => h9) rfl dX10_readsItem_296 ?_
                        refine lv_iconst (v := 1) hx hb dX10_readsItem_299 (by decide) ?_
                        have b_530 : vp_in 1 3 := (q_in (by decide) (by decide))
                        refine va_iald hx hb hK (va_one at_526) 0 0 rfl rfl b_530 dX10_readsItem_300 ?_
                        refine lv_topi (fun x_531 e_532 => ?_)
                        have w_x_531 : x_531 = n1 1 := by rw [e_532]; rfl
                        have i_x_531 : x_531.toInt = (n1 1).toInt := by rw [w_x_531]
                        refine lv_aload_n hx hb dX10_readsItem_301 rfl (lv_at hl 3 rfl) ?_
                        refine lv_pc (pc2 := 302) rfl ?_
                        refine va_get (D := D) (ci := 9) (v := .ref r_498) (C := RX10) (T := TX10) (N := 36) hx hb hts in10 hown hK (va_one at_503) 0 rfl rfl 32 (by decide) (hts (.fieldLink RX10 74 "RiverModelModel" "readNumber" "[I") (List.mem_of_getElem? (i := 13) rfl)) (fun _ h9 => h9) rfl dX10_readsItem_302 ?_
                        refine lv_iconst (v := 2) hx hb dX10_readsItem_305 (by decide) ?_
                        have b_533 : vp_in 2 3 := (q_in (by decide) (by decide))
                        refine va_iald hx hb hK (va_one at_526) 0 0 rfl rfl b_533 dX10_readsItem_306 ?_
                        refine lv_topi (fun x_534 e_535 => ?_)
                        have w_x_534 : x_534 = n1 2 := by rw [e_535]; rfl
                        have i_x_534 : x_534.toInt = (n1 2).toInt := by rw [w_x_534]
                        refine ty_calli (W.runS (As := [.int r_54, .int x_528, .int x_531, .int x_534]) (rest := []) ⟨hx, hb, hml, hown, hts⟩ (m_X10_areWell l D t cI cL cC gC gE gW gA gT gI gS gM K F S N gH gJ e1 r_54 x_88 x_429 g1 gr n1 r_54 x_528 x_531 x_534  uq  ) (va_cwS 4 hts gu_X10_readsItem_X10_areWell_144 rfl rfl rfl (by decide +kernel) ⟨Nat.le_of_ble_eq_true rfl, Nat.le_of_ble_eq_true rfl⟩) (tP_S hG hE) rfl rfl hl.1 rfl (lv_room (Nat.le_of_ble_eq_true rfl)) dX10_readsItem_307 ⟨Nat.le_of_ble_eq_true rfl, Nat.le_of_ble_eq_true rfl⟩) hS (fun k h => by simp [wr0] at h) (fun r_536 H locs hp_537 hG hS o_538 => ?_)
                        have at_503 := va_at.keptC at_503 o_538 k_a0 rfl
                        have at_526 := va_at.keptC at_526 o_538 h_499 rfl
                        have hp_537 : (r_536 = 1 ∧ weOk r_54 x_528 x_531) ∨ (r_536 = 0) := hp_537
                        rcases hp_537 with ⟨rfl, p_540⟩ | rfl
                        · skip
                          refine lv_if_eq (tgt := 317) hx hb dX10_readsItem_310 (by decide) (fun q => absurd q (by decide)) (fun _ => ?_)
                          refine lv_iconst (v := 1) hx hb dX10_readsItem_313 (by decide) ?_
                          refine lv_goto (tgt := 318) hx hb dX10_readsItem_314 (by decide) ?_
                          refine lv_istore (lv' := [(7, .int 1), (6, .int vj454), (5, .int vj453), (4, .int r_62), (0, .ref a0), (1, .int a1), (2, .int a2), (3, .int a3)]) hx hb dX10_readsItem_318 hl (by decide) rfl (fun ls hl => ?_)
                          refine lv_pc (pc2 := 320) rfl ?_
                          refine lv_aload_n hx hb dX10_readsItem_320 rfl (lv_at hl 4 rfl) ?_
                          refine lv_dup hx hb dX10_readsItem_321 rfl ?_
                          refine va_get (D := D) (ci := 9) (v := .int e1) (C := RX10) (T := TX10) (N := 36) hx hb hts in10 hown hK (va_one at_503) 0 rfl rfl 27 (by decide) (hts (.fieldLink RX10 109 "RiverModelModel" "end" "I") (List.mem_of_getElem? (i := 1) rfl)) (fun _ h9 => h9) rfl dX10_readsItem_322 ?_
                          refine lv_iconst (v := 1) hx hb dX10_readsItem_325 (by decide) ?_
                          refine lv_iadd hx hb dX10_readsItem_326 ?_
                          refine lv_topi (fun x_541 e_542 => ?_)
                          have i_x_541 : x_541.toInt = e1.toInt + 1 := by rw [e_542]; exact (q_add (by rw [show (1 : Int32).toInt = 1 by decide]; omega) (by rw [show (1 : Int32).toInt = 1 by decide]; omega)).trans (by rw [show (1 : Int32).toInt = 1 by decide])
                          refine ty_put (D := D) (ci := 9) (v := .int x_541) (ty := .int) (C := RX10) (T := TX10) (N := 36) (F2 := (mF cI cL cC gC gE gW gA gT gI gS gM K F S N gH gJ x_541 r_54 x_88 x_429 g1 gr n1)) hx hb hts in10 tyX10 tyX10_ok nmX10 hown hK hG hS at_503 (by rw [k_a0]; rfl) rfl 27 (by decide) (hts (.fieldLink RX10 109 "RiverModelModel" "end" "I") (List.mem_of_getElem? (i := 1) rfl)) (fun _ h9 => h9) rfl (by decide +kernel) rfl rfl (Nat.le_of_ble_eq_true rfl) (by rw [k_a0]; exact ⟨r_455, v_457, r_458, r_460, r_462, r_464, r_466, r_468, r_470, r_472, r_474, r_476, r_478, r_480, r_482, r_484, r_486, r_488, r_490, r_492, r_494, r_496, r_498, v_500, r_501, rfl, h_456, h_459, h_461, h_463, h_465, h_467, h_469, h_471, h_473, h_475, h_477, h_479, h_481, h_483, h_485, h_487, h_489, h_491, h_493, h_495, h_497, h_499, h_502⟩) (fun hG b hb h0 => by obtain ⟨e, g1, g2⟩ := hG b h0; exact ⟨e, g1, mF_ge (fun h => hb (uq b a0 (h.trans k_a0.symm) h0)) g2⟩) dX10_readsItem_327 (fun H locs hG hS at_543 o_544 => ?_)
                          have at_543 : va_at D vwCl (a0, .inr (9, [.int gC, .ref r_455, .int v_457, .int gI, .ref r_458, .ref r_460, .ref r_462, .ref r_464, .int gS, .ref r_466, .ref r_468, .ref r_470, .ref r_472, .int gM, .ref r_474, .ref r_476, .ref r_478, .int gE, .ref r_480, .ref r_482, .ref r_484, .ref r_486, .ref r_488, .ref r_490, .ref r_492, .ref r_494, .ref r_496, .int x_541, .int r_54, .int x_88, .int x_429, .int g1, .ref r_498, .int gr, .int v_500, .ref r_501])) H := at_543
                          have at_526 := va_at.keptK at_526 o_544 k_a0 h_499 rfl
                          refine lv_iload hx hb dX10_readsItem_330 (lv_at hl 0 rfl) ?_
                          exact tx_zret (z := (x_541, r_54, x_88, x_429, g1, n1)) hx hb hr hlk rfl hG hS (Or.inl ⟨rfl, (by show a1.toInt < x_541.toInt; omega), (by show x_541.toInt ≤ a1.toInt + 40; omega), (by show itOk r_54 x_88 x_429 (n1 0) (n1 1); exact ⟨by omega, by omega, by omega, by omega, fun q => by have := p_540.1 (by omega); omega, fun q => by have := p_540.2 (by omega); omega⟩), (by show nmOk r_54 x_88 a2; exact fun q => by omega)⟩) dX10_readsItem_332
                        · skip
                          refine lv_pc (pc2 := 310) rfl ?_
                          refine lv_if_eq (tgt := 317) hx hb dX10_readsItem_310 (by decide) (fun _ => ?_) (fun q => absurd (by decide) q)
                          refine lv_iconst (v := 0) hx hb dX10_readsItem_317 (by decide) ?_
                          refine lv_istore (lv' := [(7, .int 0), (6, .int vj454), (5, .int vj453), (4, .int r_62), (0, .ref a0), (1, .int a1), (2, .int a2), (3, .int a3)]) hx hb dX10_readsItem_318 hl (by decide) rfl (fun ls hl => ?_)
                          refine lv_aload_n hx hb dX10_readsItem_320 rfl (lv_at hl 4 rfl) ?_
                          refine lv_dup hx hb dX10_readsItem_321 rfl ?_
                          refine va_get (D := D) (ci := 9) (v := .int e1) (C := RX10) (T := TX10) (N := 36) hx hb hts in10 hown hK (va_one at_503) 0 rfl rfl 27 (by decide) (hts (.fieldLink RX10 109 "RiverModelModel" "end" "I") (List.mem_of_getElem? (i := 1) rfl)) (fun _ h9 => h9) rfl dX10_readsItem_322 ?_
                          refine lv_iconst (v := 1) hx hb dX10_readsItem_325 (by decide) ?_
                          refine lv_iadd hx hb dX10_readsItem_326 ?_
                          refine lv_topi (fun x_545 e_546 => ?_)
                          have i_x_545 : x_545.toInt = e1.toInt + 1 := by rw [e_546]; exact (q_add (by rw [show (1 : Int32).toInt = 1 by decide]; omega) (by rw [show (1 : Int32).toInt = 1 by decide]; omega)).trans (by rw [show (1 : Int32).toInt = 1 by decide])
                          refine lv_pc (pc2 := 327) rfl ?_
                          refine ty_put (D := D) (ci := 9) (v := .int x_545) (ty := .int) (C := RX10) (T := TX10) (N := 36) (F2 := (mF cI cL cC gC gE gW gA gT gI gS gM K F S N gH gJ x_545 r_54 x_88 x_429 g1 gr n1)) hx hb hts in10 tyX10 tyX10_ok nmX10 hown hK hG hS at_503 (by rw [k_a0]; rfl) rfl 27 (by decide) (hts (.fieldLink RX10 109 "RiverModelModel" "end" "I") (List.mem_of_getElem? (i := 1) rfl)) (fun _ h9 => h9) rfl (by decide +kernel) rfl rfl (Nat.le_of_ble_eq_true rfl) (by rw [k_a0]; exact ⟨r_455, v_457, r_458, r_460, r_462, r_464, r_466, r_468, r_470, r_472, r_474, r_476, r_478, r_480, r_482, r_484, r_486, r_488, r_490, r_492, r_494, r_496, r_498, v_500, r_501, rfl, h_456, h_459, h_461, h_463, h_465, h_467, h_469, h_471, h_473, h_475, h_477, h_479, h_481, h_483, h_485, h_487, h_489, h_491, h_493, h_495, h_497, h_499, h_502⟩) (fun hG b hb h0 => by obtain ⟨e, g1, g2⟩ := hG b h0; exact ⟨e, g1, mF_ge (fun h => hb (uq b a0 (h.trans k_a0.symm) h0)) g2⟩) dX10_readsItem_327 (fun H locs hG hS at_547 o_548 => ?_)
                          have at_547 : va_at D vwCl (a0, .inr (9, [.int gC, .ref r_455, .int v_457, .int gI, .ref r_458, .ref r_460, .ref r_462, .ref r_464, .int gS, .ref r_466, .ref r_468, .ref r_470, .ref r_472, .int gM, .ref r_474, .ref r_476, .ref r_478, .int gE, .ref r_480, .ref r_482, .ref r_484, .ref r_486, .ref r_488, .ref r_490, .ref r_492, .ref r_494, .ref r_496, .int x_545, .int r_54, .int x_88, .int x_429, .int g1, .ref r_498, .int gr, .int v_500, .ref r_501])) H := at_547
                          have at_526 := va_at.keptK at_526 o_548 k_a0 h_499 rfl
                          refine lv_iload hx hb dX10_readsItem_330 (lv_at hl 0 rfl) ?_
                          exact tx_zret (z := (x_545, r_54, x_88, x_429, g1, n1)) hx hb hr hlk rfl hG hS (Or.inr rfl) dX10_readsItem_332
                      · skip
                        have c_525 : r_54.toInt = 103 := q_eq c_525
                        refine lv_iload_n hx hb dX10_readsItem_280 rfl (lv_at hl 6 rfl) ?_
                        refine lv_iconst (v := 4) hx hb dX10_readsItem_281 (by decide) ?_
                        refine lv_icmp_ge (tgt := 317) hx hb dX10_readsItem_282 (by decide) (fun c_549 => ?_) (fun c_549 => ?_)
                        · skip
                          have c_549 : 4 ≤ a3.toInt := q_le c_549
                          refine lv_iconst (v := 0) hx hb dX10_readsItem_317 (by decide) ?_
                          refine lv_istore (lv' := [(7, .int 0), (6, .int vj454), (5, .int vj453), (4, .int r_62), (0, .ref a0), (1, .int a1), (2, .int a2), (3, .int a3)]) hx hb dX10_readsItem_318 hl (by decide) rfl (fun ls hl => ?_)
                          refine lv_pc (pc2 := 320) rfl ?_
                          refine lv_aload_n hx hb dX10_readsItem_320 rfl (lv_at hl 4 rfl) ?_
                          refine lv_dup hx hb dX10_readsItem_321 rfl ?_
                          refine va_get (D := D) (ci := 9) (v := .int e1) (C := RX10) (T := TX10) (N := 36) hx hb hts in10 hown hK (va_one at_503) 0 rfl rfl 27 (by decide) (hts (.fieldLink RX10 109 "RiverModelModel" "end" "I") (List.mem_of_getElem? (i := 1) rfl)) (fun _ h9 => h9) rfl dX10_readsItem_322 ?_
                          refine lv_iconst (v := 1) hx hb dX10_readsItem_325 (by decide) ?_
                          refine lv_iadd hx hb dX10_readsItem_326 ?_
                          refine lv_topi (fun x_550 e_551 => ?_)
                          have i_x_550 : x_550.toInt = e1.toInt + 1 := by rw [e_551]; exact (q_add (by rw [show (1 : Int32).toInt = 1 by decide]; omega) (by rw [show (1 : Int32).toInt = 1 by decide]; omega)).trans (by rw [show (1 : Int32).toInt = 1 by decide])
                          refine ty_put (D := D) (ci := 9) (v := .int x_550) (ty := .int) (C := RX10) (T := TX10) (N := 36) (F2 := (mF cI cL cC gC gE gW gA gT gI gS gM K F S N gH gJ x_550 r_54 x_88 x_429 g1 gr n1)) hx hb hts in10 tyX10 tyX10_ok nmX10 hown hK hG hS at_503 (by rw [k_a0]; rfl) rfl 27 (by decide) (hts (.fieldLink RX10 109 "RiverModelModel" "end" "I") (List.mem_of_getElem? (i := 1) rfl)) (fun _ h9 => h9) rfl (by decide +kernel) rfl rfl (Nat.le_of_ble_eq_true rfl) (by rw [k_a0]; exact ⟨r_455, v_457, r_458, r_460, r_462, r_464, r_466, r_468, r_470, r_472, r_474, r_476, r_478, r_480, r_482, r_484, r_486, r_488, r_490, r_492, r_494, r_496, r_498, v_500, r_501, rfl, h_456, h_459, h_461, h_463, h_465, h_467, h_469, h_471, h_473, h_475, h_477, h_479, h_481, h_483, h_485, h_487, h_489, h_491, h_493, h_495, h_497, h_499, h_502⟩) (fun hG b hb h0 => by obtain ⟨e, g1, g2⟩ := hG b h0; exact ⟨e, g1, mF_ge (fun h => hb (uq b a0 (h.trans k_a0.symm) h0)) g2⟩) dX10_readsItem_327 (fun H locs hG hS at_552 o_553 => ?_)
                          have at_552 : va_at D vwCl (a0, .inr (9, [.int gC, .ref r_455, .int v_457, .int gI, .ref r_458, .ref r_460, .ref r_462, .ref r_464, .int gS, .ref r_466, .ref r_468, .ref r_470, .ref r_472, .int gM, .ref r_474, .ref r_476, .ref r_478, .int gE, .ref r_480, .ref r_482, .ref r_484, .ref r_486, .ref r_488, .ref r_490, .ref r_492, .ref r_494, .ref r_496, .int x_550, .int r_54, .int x_88, .int x_429, .int g1, .ref r_498, .int gr, .int v_500, .ref r_501])) H := at_552
                          refine lv_iload hx hb dX10_readsItem_330 (lv_at hl 0 rfl) ?_
                          exact tx_zret (z := (x_550, r_54, x_88, x_429, g1, n1)) hx hb hr hlk rfl hG hS (Or.inr rfl) dX10_readsItem_332
                        · skip
                          have c_549 : a3.toInt < 4 := q_nle c_549
                          refine lv_pc (pc2 := 285) rfl ?_
                          refine lv_aload_n hx hb dX10_readsItem_285 rfl (lv_at hl 3 rfl) ?_
                          refine va_get (D := D) (ci := 9) (v := .int r_54) (C := RX10) (T := TX10) (N := 36) hx hb hts in10 hown hK (va_one at_503) 0 rfl rfl 28 (by decide) (hts (.fieldLink RX10 125 "RiverModelModel" "readKind" "I") (List.mem_of_getElem? (i := 6) rfl)) (fun _ h9 => h9) rfl dX10_readsItem_286 ?_
                          refine lv_aload_n hx hb dX10_readsItem_289 rfl (lv_at hl 3 rfl) ?_
                          refine va_get (D := D) (ci := 9) (v := .ref r_498) (C := RX10) (T := TX10) (N := 36) hx hb hts in10 hown hK (va_one at_503) 0 rfl rfl 32 (by decide) (hts (.fieldLink RX10 74 "RiverModelModel" "readNumber" "[I") (List.mem_of_getElem? (i := 13) rfl)) (fun _ h9 => h9) rfl dX10_readsItem_290 ?_
                          refine lv_iconst (v := 0) hx hb dX10_readsItem_293 (by decide) ?_
                          have at_554 := mF_o62 hG h_499
                          have b_555 : vp_in 0 3 := (q_in (by decide) (by decide))
                          refine va_iald hx hb hK (va_one at_554) 0 0 rfl rfl b_555 dX10_readsItem_294 ?_
                          refine lv_topi (fun x_556 e_557 => ?_)
                          have w_x_556 : x_556 = n1 0 := by rw [e_557]; rfl
                          have i_x_556 : x_556.toInt = (n1 0).toInt := by rw [w_x_556]
                          refine lv_aload_n hx hb dX10_readsItem_295 rfl (lv_at hl 3 rfl) ?_
                          refine va_get (D := D) (ci := 9) (v := .ref r_498) (C := RX10) (T := TX10) (N := 36) hx hb hts in10 hown hK (va_one at_503) 0 rfl rfl 32 (by decide) (hts (.fieldLink RX10 74 "RiverModelModel" "readNumber" "[I") (List.mem_of_getElem? (i := 13) rfl)) (fun _ h9 => h9) rfl dX10_readsItem_296 ?_
                          refine lv_pc (pc2 := 299) rfl ?_
                          refine lv_iconst (v := 1) hx hb dX10_readsItem_299 (by decide) ?_
                          have b_558 : vp_in 1 3 := (q_in (by decide) (by decide))
                          refine va_iald hx hb hK (va_one at_554) 0 0 rfl rfl b_558 dX10_readsItem_300 ?_
                          refine lv_topi (fun x_559 e_560 => ?_)
                          have w_x_559 : x_559 = n1 1 := by rw [e_560]; rfl
                          have i_x_559 : x_559.toInt = (n1 1).toInt := by rw [w_x_559]
                          refine lv_aload_n hx hb dX10_readsItem_301 rfl (lv_at hl 3 rfl) ?_
                          refine va_get (D := D) (ci := 9) (v := .ref r_498) (C := RX10) (T := TX10) (N := 36) hx hb hts in10 hown hK (va_one at_503) 0 rfl rfl 32 (by decide) (hts (.fieldLink RX10 74 "RiverModelModel" "readNumber" "[I") (List.mem_of_getElem? (i := 13) rfl)) (fun _ h9 => h9) rfl dX10_readsItem_302 ?_
                          refine lv_iconst (v := 2) hx hb dX10_readsItem_305 (by decide) ?_
                          have b_561 : vp_in 2 3 := (q_in (by decide) (by decide))
                          refine va_iald hx hb hK (va_one at_554) 0 0 rfl rfl b_561 dX10_readsItem_306 ?_
                          refine lv_topi (fun x_562 e_563 => ?_)
                          have w_x_562 : x_562 = n1 2 := by rw [e_563]; rfl
                          have i_x_562 : x_562.toInt = (n1 2).toInt := by rw [w_x_562]
                          refine ty_calli (W.runS (As := [.int r_54, .int x_556, .int x_559, .int x_562]) (rest := []) ⟨hx, hb, hml, hown, hts⟩ (m_X10_areWell l D t cI cL cC gC gE gW gA gT gI gS gM K F S N gH gJ e1 r_54 x_88 x_429 g1 gr n1 r_54 x_556 x_559 x_562  uq  ) (va_cwS 4 hts gu_X10_readsItem_X10_areWell_144 rfl rfl rfl (by decide +kernel) ⟨Nat.le_of_ble_eq_true rfl, Nat.le_of_ble_eq_true rfl⟩) (tP_S hG hE) rfl rfl hl.1 rfl (lv_room (Nat.le_of_ble_eq_true rfl)) dX10_readsItem_307 ⟨Nat.le_of_ble_eq_true rfl, Nat.le_of_ble_eq_true rfl⟩) hS (fun k h => by simp [wr0] at h) (fun r_564 H locs hp_565 hG hS o_566 => ?_)
                          have at_503 := va_at.keptC at_503 o_566 k_a0 rfl
                          have at_554 := va_at.keptC at_554 o_566 h_499 rfl
                          have hp_565 : (r_564 = 1 ∧ weOk r_54 x_556 x_559) ∨ (r_564 = 0) := hp_565
                          rcases hp_565 with ⟨rfl, p_568⟩ | rfl
                          · skip
                            refine lv_if_eq (tgt := 317) hx hb dX10_readsItem_310 (by decide) (fun q => absurd q (by decide)) (fun _ => ?_)
                            refine lv_pc (pc2 := 313) rfl ?_
                            refine lv_iconst (v := 1) hx hb dX10_readsItem_313 (by decide) ?_
                            refine lv_goto (tgt := 318) hx hb dX10_readsItem_314 (by decide) ?_
                            refine lv_istore (lv' := [(7, .int 1), (6, .int vj454), (5, .int vj453), (4, .int r_62), (0, .ref a0), (1, .int a1), (2, .int a2), (3, .int a3)]) hx hb dX10_readsItem_318 hl (by decide) rfl (fun ls hl => ?_)
                            refine lv_aload_n hx hb dX10_readsItem_320 rfl (lv_at hl 4 rfl) ?_
                            refine lv_dup hx hb dX10_readsItem_321 rfl ?_
                            refine va_get (D := D) (ci := 9) (v := .int e1) (C := RX10) (T := TX10) (N := 36) hx hb hts in10 hown hK (va_one at_503) 0 rfl rfl 27 (by decide) (hts (.fieldLink RX10 109 "RiverModelModel" "end" "I") (List.mem_of_getElem? (i := 1) rfl)) (fun _ h9 => h9) rfl dX10_readsItem_322 ?_
                            refine lv_iconst (v := 1) hx hb dX10_readsItem_325 (by decide) ?_
                            refine lv_iadd hx hb dX10_readsItem_326 ?_
                            refine lv_topi (fun x_569 e_570 => ?_)
                            have i_x_569 : x_569.toInt = e1.toInt + 1 := by rw [e_570]; exact (q_add (by rw [show (1 : Int32).toInt = 1 by decide]; omega) (by rw [show (1 : Int32).toInt = 1 by decide]; omega)).trans (by rw [show (1 : Int32).toInt = 1 by decide])
                            refine lv_pc (pc2 := 327) rfl ?_
                            refine ty_put (D := D) (ci := 9) (v := .int x_569) (ty := .int) (C := RX10) (T := TX10) (N := 36) (F2 := (mF cI cL cC gC gE gW gA gT gI gS gM K F S N gH gJ x_569 r_54 x_88 x_429 g1 gr n1)) hx hb hts in10 tyX10 tyX10_ok nmX10 hown hK hG hS at_503 (by rw [k_a0]; rfl) rfl 27 (by decide) (hts (.fieldLink RX10 109 "RiverModelModel" "end" "I") (List.mem_of_getElem? (i := 1) rfl)) (fun _ h9 => h9) rfl (by decide +kernel) rfl rfl (Nat.le_of_ble_eq_true rfl) (by rw [k_a0]; exact ⟨r_455, v_457, r_458, r_460, r_462, r_464, r_466, r_468, r_470, r_472, r_474, r_476, r_478, r_480, r_482, r_484, r_486, r_488, r_490, r_492, r_494, r_496, r_498, v_500, r_501, rfl, h_456, h_459, h_461, h_463, h_465, h_467, h_469, h_471, h_473, h_475, h_477, h_479, h_481, h_483, h_485, h_487, h_489, h_491, h_493, h_495, h_497, h_499, h_502⟩) (fun hG b hb h0 => by obtain ⟨e, g1, g2⟩ := hG b h0; exact ⟨e, g1, mF_ge (fun h => hb (uq b a0 (h.trans k_a0.symm) h0)) g2⟩) dX10_readsItem_327 (fun H locs hG hS at_571 o_572 => ?_)
                            have at_571 : va_at D vwCl (a0, .inr (9, [.int gC, .ref r_455, .int v_457, .int gI, .ref r_458, .ref r_460, .ref r_462, .ref r_464, .int gS, .ref r_466, .ref r_468, .ref r_470, .ref r_472, .int gM, .ref r_474, .ref r_476, .ref r_478, .int gE, .ref r_480, .ref r_482, .ref r_484, .ref r_486, .ref r_488, .ref r_490, .ref r_492, .ref r_494, .ref r_496, .int x_569, .int r_54, .int x_88, .int x_429, .int g1, .ref r_498, .int gr, .int v_500, .ref r_501])) H := at_571
                            have at_554 := va_at.keptK at_554 o_572 k_a0 h_499 rfl
                            refine lv_iload hx hb dX10_readsItem_330 (lv_at hl 0 rfl) ?_
                            exact tx_zret (z := (x_569, r_54, x_88, x_429, g1, n1)) hx hb hr hlk rfl hG hS (Or.inl ⟨rfl, (by show a1.toInt < x_569.toInt; omega), (by show x_569.toInt ≤ a1.toInt + 40; omega), (by show itOk r_54 x_88 x_429 (n1 0) (n1 1); exact ⟨by omega, by omega, by omega, by omega, fun q => by have := p_568.1 (by omega); omega, fun q => by have := p_568.2 (by omega); omega⟩), (by show nmOk r_54 x_88 a2; exact fun q => by omega)⟩) dX10_readsItem_332
                          · skip
                            refine lv_if_eq (tgt := 317) hx hb dX10_readsItem_310 (by decide) (fun _ => ?_) (fun q => absurd (by decide) q)
                            refine lv_iconst (v := 0) hx hb dX10_readsItem_317 (by decide) ?_
                            refine lv_istore (lv' := [(7, .int 0), (6, .int vj454), (5, .int vj453), (4, .int r_62), (0, .ref a0), (1, .int a1), (2, .int a2), (3, .int a3)]) hx hb dX10_readsItem_318 hl (by decide) rfl (fun ls hl => ?_)
                            refine lv_aload_n hx hb dX10_readsItem_320 rfl (lv_at hl 4 rfl) ?_
                            refine lv_dup hx hb dX10_readsItem_321 rfl ?_
                            refine lv_pc (pc2 := 322) rfl ?_
                            refine va_get (D := D) (ci := 9) (v := .int e1) (C := RX10) (T := TX10) (N := 36) hx hb hts in10 hown hK (va_one at_503) 0 rfl rfl 27 (by decide) (hts (.fieldLink RX10 109 "RiverModelModel" "end" "I") (List.mem_of_getElem? (i := 1) rfl)) (fun _ h9 => h9) rfl dX10_readsItem_322 ?_
                            refine lv_iconst (v := 1) hx hb dX10_readsItem_325 (by decide) ?_
                            refine lv_iadd hx hb dX10_readsItem_326 ?_
                            refine lv_topi (fun x_573 e_574 => ?_)
                            have i_x_573 : x_573.toInt = e1.toInt + 1 := by rw [e_574]; exact (q_add (by rw [show (1 : Int32).toInt = 1 by decide]; omega) (by rw [show (1 : Int32).toInt = 1 by decide]; omega)).trans (by rw [show (1 : Int32).toInt = 1 by decide])
                            refine ty_put (D := D) (ci := 9) (v := .int x_573) (ty := .int) (C := RX10) (T := TX10) (N := 36) (F2 := (mF cI cL cC gC gE gW gA gT gI gS gM K F S N gH gJ x_573 r_54 x_88 x_429 g1 gr n1)) hx hb hts in10 tyX10 tyX10_ok nmX10 hown hK hG hS at_503 (by rw [k_a0]; rfl) rfl 27 (by decide) (hts (.fieldLink RX10 109 "RiverModelModel" "end" "I") (List.mem_of_getElem? (i := 1) rfl)) (fun _ h9 => h9) rfl (by decide +kernel) rfl rfl (Nat.le_of_ble_eq_true rfl) (by rw [k_a0]; exact ⟨r_455, v_457, r_458, r_460, r_462, r_464, r_466, r_468, r_470, r_472, r_474, r_476, r_478, r_480, r_482, r_484, r_486, r_488, r_490, r_492, r_494, r_496, r_498, v_500, r_501, rfl, h_456, h_459, h_461, h_463, h_465, h_467, h_469, h_471, h_473, h_475, h_477, h_479, h_481, h_483, h_485, h_487, h_489, h_491, h_493, h_495, h_497, h_499, h_502⟩) (fun hG b hb h0 => by obtain ⟨e, g1, g2⟩ := hG b h0; exact ⟨e, g1, mF_ge (fun h => hb (uq b a0 (h.trans k_a0.symm) h0)) g2⟩) dX10_readsItem_327 (fun H locs hG hS at_575 o_576 => ?_)
                            have at_575 : va_at D vwCl (a0, .inr (9, [.int gC, .ref r_455, .int v_457, .int gI, .ref r_458, .ref r_460, .ref r_462, .ref r_464, .int gS, .ref r_466, .ref r_468, .ref r_470, .ref r_472, .int gM, .ref r_474, .ref r_476, .ref r_478, .int gE, .ref r_480, .ref r_482, .ref r_484, .ref r_486, .ref r_488, .ref r_490, .ref r_492, .ref r_494, .ref r_496, .int x_573, .int r_54, .int x_88, .int x_429, .int g1, .ref r_498, .int gr, .int v_500, .ref r_501])) H := at_575
                            have at_554 := va_at.keptK at_554 o_576 k_a0 h_499 rfl
                            refine lv_iload hx hb dX10_readsItem_330 (lv_at hl 0 rfl) ?_
                            exact tx_zret (z := (x_573, r_54, x_88, x_429, g1, n1)) hx hb hr hlk rfl hG hS (Or.inr rfl) dX10_readsItem_332
              refine (hWW454 _ _ _).mpr ?_
              refine lv_aload_n hx hb dX10_readsItem_211 rfl (lv_at hl 2 rfl) ?_
              obtain ⟨r_577, v_579, r_580, r_582, r_584, r_586, r_588, r_590, r_592, r_594, r_596, r_598, r_600, r_602, r_604, r_606, r_608, r_610, r_612, r_614, r_616, r_618, r_620, v_622, r_623, at_625, h_578, h_581, h_583, h_585, h_587, h_589, h_591, h_593, h_595, h_597, h_599, h_601, h_603, h_605, h_607, h_609, h_611, h_613, h_615, h_617, h_619, h_621, h_624⟩ := mF_o40 hG k_a0
              refine va_get (D := D) (ci := 9) (v := .int x_429) (C := RX10) (T := TX10) (N := 36) hx hb hts in10 hown hK (va_one at_625) 0 rfl rfl 30 (by decide) (hts (.fieldLink RX10 138 "RiverModelModel" "readSecond" "I") (List.mem_of_getElem? (i := 12) rfl)) (fun _ h9 => h9) rfl dX10_readsItem_212 ?_
              refine lv_pc (pc2 := 215) rfl ?_
              refine lv_if_lt (tgt := 241) hx hb dX10_readsItem_215 (by decide) (fun c_626 => ?_) (fun c_626 => ?_)
              · skip
                have c_626 : x_429.toInt < 0 := q_lt c_626
                refine lv_iconst (v := 1) hx hb dX10_readsItem_241 (by decide) ?_
                refine lv_goto (tgt := 246) hx hb dX10_readsItem_242 (by decide) ?_
                exact (hWW454 _ _ _).mp (jn454 1)
              · skip
                have c_626 : 0 ≤ x_429.toInt := q_nlt c_626
                refine lv_aload_n hx hb dX10_readsItem_218 rfl (lv_at hl 2 rfl) ?_
                refine va_get (D := D) (ci := 9) (v := .int x_429) (C := RX10) (T := TX10) (N := 36) hx hb hts in10 hown hK (va_one at_625) 0 rfl rfl 30 (by decide) (hts (.fieldLink RX10 138 "RiverModelModel" "readSecond" "I") (List.mem_of_getElem? (i := 12) rfl)) (fun _ h9 => h9) rfl dX10_readsItem_219 ?_
                refine lv_aload_n hx hb dX10_readsItem_222 rfl (lv_at hl 2 rfl) ?_
                refine va_get (D := D) (ci := 9) (v := .int x_88) (C := RX10) (T := TX10) (N := 36) hx hb hts in10 hown hK (va_one at_625) 0 rfl rfl 29 (by decide) (hts (.fieldLink RX10 135 "RiverModelModel" "readFirst" "I") (List.mem_of_getElem? (i := 11) rfl)) (fun _ h9 => h9) rfl dX10_readsItem_223 ?_
                refine lv_icmp_eq (tgt := 245) hx hb dX10_readsItem_226 (by decide) (fun c_627 => ?_) (fun c_627 => ?_)
                · skip
                  have c_627 : x_429.toInt = x_88.toInt := q_eq c_627
                  refine lv_pc (pc2 := 245) rfl ?_
                  refine lv_iconst (v := 0) hx hb dX10_readsItem_245 (by decide) ?_
                  exact (hWW454 _ _ _).mp (jn454 0)
                · skip
                  have c_627 : x_429.toInt ≠ x_88.toInt := q_ne c_627
                  refine lv_iload_n hx hb dX10_readsItem_229 rfl (lv_at hl 4 rfl) ?_
                  refine lv_aload_n hx hb dX10_readsItem_230 rfl (lv_at hl 2 rfl) ?_
                  refine va_get (D := D) (ci := 9) (v := .int x_429) (C := RX10) (T := TX10) (N := 36) hx hb hts in10 hown hK (va_one at_625) 0 rfl rfl 30 (by decide) (hts (.fieldLink RX10 138 "RiverModelModel" "readSecond" "I") (List.mem_of_getElem? (i := 12) rfl)) (fun _ h9 => h9) rfl dX10_readsItem_231 ?_
                  refine lv_ishr hx hb dX10_readsItem_234 ?_
                  refine lv_topi (fun x_628 e_629 => ?_)
                  refine lv_iconst (v := 1) hx hb dX10_readsItem_235 (by decide) ?_
                  refine lv_iand hx hb dX10_readsItem_236 ?_
                  refine lv_topi (fun x_630 e_631 => ?_)
                  have w_x_630 : x_630 = bitI a2 x_429 := by rw [e_631, e_629]; rfl
                  have i_x_630 : x_630.toInt = (bitI a2 x_429).toInt := by rw [w_x_630]
                  refine lv_iconst (v := 1) hx hb dX10_readsItem_237 (by decide) ?_
                  refine lv_pc (pc2 := 238) rfl ?_
                  refine lv_icmp_ne (tgt := 245) hx hb dX10_readsItem_238 (by decide) (fun c_632 => ?_) (fun c_632 => ?_)
                  · skip
                    have c_632 : x_630.toInt ≠ 1 := q_ne c_632
                    refine lv_iconst (v := 0) hx hb dX10_readsItem_245 (by decide) ?_
                    exact (hWW454 _ _ _).mp (jn454 0)
                  · skip
                    have c_632 : x_630.toInt = 1 := q_eq c_632
                    refine lv_iconst (v := 1) hx hb dX10_readsItem_241 (by decide) ?_
                    refine lv_goto (tgt := 246) hx hb dX10_readsItem_242 (by decide) ?_
                    exact (hWW454 _ _ _).mp (jn454 1)
            refine (hWW453 _ _ _).mpr ?_
            refine lv_iload_n hx hb dX10_readsItem_179 rfl (lv_at hl 4 rfl) ?_
            refine lv_aload_n hx hb dX10_readsItem_180 rfl (lv_at hl 2 rfl) ?_
            obtain ⟨r_633, v_635, r_636, r_638, r_640, r_642, r_644, r_646, r_648, r_650, r_652, r_654, r_656, r_658, r_660, r_662, r_664, r_666, r_668, r_670, r_672, r_674, r_676, v_678, r_679, at_681, h_634, h_637, h_639, h_641, h_643, h_645, h_647, h_649, h_651, h_653, h_655, h_657, h_659, h_661, h_663, h_665, h_667, h_669, h_671, h_673, h_675, h_677, h_680⟩ := mF_o40 hG k_a0
            refine va_get (D := D) (ci := 9) (v := .int x_88) (C := RX10) (T := TX10) (N := 36) hx hb hts in10 hown hK (va_one at_681) 0 rfl rfl 29 (by decide) (hts (.fieldLink RX10 135 "RiverModelModel" "readFirst" "I") (List.mem_of_getElem? (i := 11) rfl)) (fun _ h9 => h9) rfl dX10_readsItem_181 ?_
            refine lv_ishr hx hb dX10_readsItem_184 ?_
            refine lv_topi (fun x_682 e_683 => ?_)
            refine lv_pc (pc2 := 185) rfl ?_
            refine lv_iconst (v := 1) hx hb dX10_readsItem_185 (by decide) ?_
            refine lv_iand hx hb dX10_readsItem_186 ?_
            refine lv_topi (fun x_684 e_685 => ?_)
            have w_x_684 : x_684 = bitI a2 x_88 := by rw [e_685, e_683]; rfl
            have i_x_684 : x_684.toInt = (bitI a2 x_88).toInt := by rw [w_x_684]
            refine lv_aload_n hx hb dX10_readsItem_187 rfl (lv_at hl 2 rfl) ?_
            refine va_get (D := D) (ci := 9) (v := .int r_54) (C := RX10) (T := TX10) (N := 36) hx hb hts in10 hown hK (va_one at_681) 0 rfl rfl 28 (by decide) (hts (.fieldLink RX10 125 "RiverModelModel" "readKind" "I") (List.mem_of_getElem? (i := 6) rfl)) (fun _ h9 => h9) rfl dX10_readsItem_188 ?_
            refine lv_bipush (v := 115) hx hb dX10_readsItem_191 (by decide) ?_
            refine lv_icmp_ne (tgt := 200) hx hb dX10_readsItem_193 (by decide) (fun c_686 => ?_) (fun c_686 => ?_)
            · skip
              have c_686 : r_54.toInt ≠ 115 := q_ne c_686
              refine lv_iconst (v := 1) hx hb dX10_readsItem_200 (by decide) ?_
              refine lv_icmp_ne (tgt := 208) hx hb dX10_readsItem_201 (by decide) (fun c_687 => ?_) (fun c_687 => ?_)
              · skip
                have c_687 : x_684.toInt ≠ 1 := q_ne c_687
                refine lv_pc (pc2 := 208) rfl ?_
                refine lv_iconst (v := 0) hx hb dX10_readsItem_208 (by decide) ?_
                exact (hWW453 _ _ _).mp (jn453 0 (by omega) (by omega) (by omega))
              · skip
                have c_687 : x_684.toInt = 1 := q_eq c_687
                refine lv_iconst (v := 1) hx hb dX10_readsItem_204 (by decide) ?_
                refine lv_goto (tgt := 209) hx hb dX10_readsItem_205 (by decide) ?_
                exact (hWW453 _ _ _).mp (jn453 1 (by omega) (by omega) (by omega))
            · skip
              have c_686 : r_54.toInt = 115 := q_eq c_686
              refine lv_iconst (v := 0) hx hb dX10_readsItem_196 (by decide) ?_
              refine lv_goto (tgt := 201) hx hb dX10_readsItem_197 (by decide) ?_
              refine lv_icmp_ne (tgt := 208) hx hb dX10_readsItem_201 (by decide) (fun c_688 => ?_) (fun c_688 => ?_)
              · skip
                have c_688 : x_684.toInt ≠ 0 := q_ne c_688
                refine lv_iconst (v := 0) hx hb dX10_readsItem_208 (by decide) ?_
                exact (hWW453 _ _ _).mp (jn453 0 (by omega) (by omega) (by omega))
              · skip
                have c_688 : x_684.toInt = 0 := q_eq c_688
                refine lv_iconst (v := 1) hx hb dX10_readsItem_204 (by decide) ?_
                refine lv_pc (pc2 := 205) rfl ?_
                refine lv_goto (tgt := 209) hx hb dX10_readsItem_205 (by decide) ?_
                exact (hWW453 _ _ _).mp (jn453 1 (by omega) (by omega) (by omega))
          have lp452 : ∀ (kk452 : Nat) (yi : Int32) (e1 : Int32) (g1 : Int32) (n1 : Nat → Int32) (H1 : Heap) (locs1 : List Loc) (ls1 : Array Slot), 3 - yi.toInt ≤ (kk452 : Int) → (0 ≤ yi.toInt) → (yi.toInt ≤ 3) → (a1.toInt < e1.toInt) → (e1.toInt ≤ a1.toInt + 3 + 9 * yi.toInt) → tG D (mF cI cL cC gC gE gW gA gT gI gS gM K F S N gH gJ e1 r_54 x_88 x_429 g1 gr n1) t H1 → tF t wP s.heap H1 locs1 → lv_has ls1 8 [(5, .int yi), (4, .int r_62), (0, .ref a0), (1, .int a1), (2, .int a2), (3, .int a3)] → WW452 H1 locs1 (F0 m 152 ls1 []) := by
            intro kk452
            induction kk452 with
            | zero =>
              intro yi e1 g1 n1 H locs ls hk452 v452_0 v452_1 v452_2 v452_3 hG hS hl
              refine (hWW452 _ _ _).mpr ?_
              refine lv_iload hx hb dX10_readsItem_152 (lv_at hl 0 rfl) ?_
              refine lv_iload hx hb dX10_readsItem_154 (lv_at hl 1 rfl) ?_
              refine lv_bipush (v := 10) hx hb dX10_readsItem_156 (by decide) ?_
              refine lv_irem hx hb dX10_readsItem_158 (by decide) ?_
              refine lv_topi (fun x_689 e_690 => ?_)
              have i_x_689 : x_689.toInt = r_62.toInt % 10 := by rw [e_690]; exact q_remE (n := 10) rfl (by decide) (by omega)
              refine lv_icmp_ge (tgt := 179) hx hb dX10_readsItem_159 (by decide) (fun c_691 => ?_) (fun c_691 => ?_)
              · skip
                have c_691 : x_689.toInt ≤ yi.toInt := q_le c_691
                exact (hWW452 _ _ _).mp (kx452 yi e1 g1 n1 H locs ls v452_0 v452_1 v452_2 v452_3 hG hS (lv_sub hl [0, 1, 2, 3, 4, 5] rfl))
              · skip
                have c_691 : yi.toInt < x_689.toInt := q_nle c_691
                exfalso; omega
            | succ kk452 ih452 =>
              intro yi e1 g1 n1 H locs ls hk452 v452_0 v452_1 v452_2 v452_3 hG hS hl
              refine (hWW452 _ _ _).mpr ?_
              refine lv_iload hx hb dX10_readsItem_152 (lv_at hl 0 rfl) ?_
              refine lv_iload hx hb dX10_readsItem_154 (lv_at hl 1 rfl) ?_
              refine lv_pc (pc2 := 156) rfl ?_
              refine lv_bipush (v := 10) hx hb dX10_readsItem_156 (by decide) ?_
              refine lv_irem hx hb dX10_readsItem_158 (by decide) ?_
              refine lv_topi (fun x_692 e_693 => ?_)
              have i_x_692 : x_692.toInt = r_62.toInt % 10 := by rw [e_693]; exact q_remE (n := 10) rfl (by decide) (by omega)
              refine lv_icmp_ge (tgt := 179) hx hb dX10_readsItem_159 (by decide) (fun c_694 => ?_) (fun c_694 => ?_)
              · skip
                have c_694 : x_692.toInt ≤ yi.toInt := q_le c_694
                exact (hWW452 _ _ _).mp (kx452 yi e1 g1 n1 H locs ls v452_0 v452_1 v452_2 v452_3 hG hS (lv_sub hl [0, 1, 2, 3, 4, 5] rfl))
              · skip
                have c_694 : yi.toInt < x_692.toInt := q_nle c_694
                refine lv_aload_n hx hb dX10_readsItem_162 rfl (lv_at hl 2 rfl) ?_
                refine lv_iload hx hb dX10_readsItem_163 (lv_at hl 0 rfl) ?_
                obtain ⟨r_695, v_697, r_698, r_700, r_702, r_704, r_706, r_708, r_710, r_712, r_714, r_716, r_718, r_720, r_722, r_724, r_726, r_728, r_730, r_732, r_734, r_736, r_738, v_740, r_741, at_743, h_696, h_699, h_701, h_703, h_705, h_707, h_709, h_711, h_713, h_715, h_717, h_719, h_721, h_723, h_725, h_727, h_729, h_731, h_733, h_735, h_737, h_739, h_742⟩ := mF_o40 hG k_a0
                refine tx_calli (W.runV (As := [.int yi]) (rest := []) ⟨hx, hb, hml, hown, hts⟩ (m_X10_readsNumber l D t cI cL cC gC gE gW gA gT gI gS gM K F S N gH gJ e1 r_54 x_88 x_429 g1 gr n1 a0 yi  uq (by omega) (by omega) (by omega) (by omega) (by omega) (by omega) k_a0) (cwV 1 hts gu_X10_readsItem_X10_readsNumber_141 rfl rfl rfl (by decide +kernel) ⟨Nat.le_of_ble_eq_true rfl, Nat.le_of_ble_eq_true rfl⟩) (tP_V hG hE at_743 rfl) rfl rfl hl.1 rfl (lv_room (Nat.le_of_ble_eq_true rfl)) dX10_readsItem_165 ⟨Nat.le_of_ble_eq_true rfl, Nat.le_of_ble_eq_true rfl⟩) hS (fun _ h => h) (fun r_744 zz_747 H locs hp_745 hG hS o_746 => ?_)
                obtain ⟨ge_748, gg_749, RN_750⟩ := zz_747
                replace hG : tG D (mF cI cL cC gC gE gW gA gT gI gS gM K F S N gH gJ ge_748 r_54 x_88 x_429 gg_749 gr RN_750) t H := hG
                have hp_745 : (r_744 = 1 ∧ e1.toInt < ge_748.toInt ∧ ge_748.toInt ≤ e1.toInt + 9) ∨ (r_744 = 0) := hp_745
                rcases hp_745 with ⟨rfl, p_751, p_752⟩ | rfl
                · skip
                  refine lv_if_ne (tgt := 173) hx hb dX10_readsItem_168 (by decide) (fun _ => ?_) (fun q => absurd q (by decide))
                  obtain ⟨x_753, e_754⟩ : ∃ y : Int32, y = yi + Int32.ofInt 1 := ⟨_, rfl⟩
                  have i_x_753 : x_753.toInt = yi.toInt + 1 := by rw [e_754, show Int32.ofInt 1 = 1 by decide]; exact (q_add (by rw [show (1 : Int32).toInt = 1 by decide]; omega) (by rw [show (1 : Int32).toInt = 1 by decide]; omega)).trans (by rw [show (1 : Int32).toInt = 1 by decide])
                  refine lv_iinc (v := x_753) (lv' := [(5, .int x_753), (4, .int r_62), (0, .ref a0), (1, .int a1), (2, .int a2), (3, .int a3)]) hx hb dX10_readsItem_173 hl (k := 0) rfl e_754.symm (by decide) rfl (fun ls hl => ?_)
                  refine lv_pc (pc2 := 176) rfl ?_
                  refine lv_goto (tgt := 152) hx hb dX10_readsItem_176 (by decide) ?_
                  exact (hWW452 _ _ _).mp (ih452 x_753 ge_748 gg_749 RN_750 H locs ls (by omega) (by omega) (by omega) (by omega) (by omega) hG hS (lv_sub hl [0, 1, 2, 3, 4, 5] rfl))
                · skip
                  refine lv_if_ne (tgt := 173) hx hb dX10_readsItem_168 (by decide) (fun q => absurd rfl q) (fun _ => ?_)
                  refine lv_iconst (v := 0) hx hb dX10_readsItem_171 (by decide) ?_
                  exact tx_zret (z := (ge_748, r_54, x_88, x_429, gg_749, RN_750)) hx hb hr hlk rfl hG hS (Or.inr rfl) dX10_readsItem_172
          exact lp452 (3 - (0 : Int32).toInt : Int).toNat 0 x_433 gg q_449 H locs ls (by omega) (by omega) (by omega) (by omega) (by omega) hG hS (lv_sub hl [0, 1, 2, 3, 4, 5] rfl)
        · skip
          refine lv_if_ne (tgt := 100) hx hb dX10_readsItem_95 (by decide) (fun q => absurd rfl q) (fun _ => ?_)
          refine lv_iconst (v := 0) hx hb dX10_readsItem_98 (by decide) ?_
          have zi_0 : (0 : Int32).toInt = 0 := by decide
          exact tx_zret (z := (x_94, r_54, x_88, -4, gg, RN)) hx hb hr hlk rfl hG hS (Or.inr rfl) dX10_readsItem_99
    · skip
      refine lv_if_ne (tgt := 46) hx hb dX10_readsItem_41 (by decide) (fun q => absurd rfl q) (fun _ => ?_)
      refine lv_pc (pc2 := 44) rfl ?_
      refine lv_iconst (v := 0) hx hb dX10_readsItem_44 (by decide) ?_
      have zi_0 : (0 : Int32).toInt = 0 := by decide
      exact tx_zret (z := (x_1, r_54, gf, gs, gg, RN)) hx hb hr hlk rfl hG hS (Or.inr rfl) dX10_readsItem_45
