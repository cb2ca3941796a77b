theorem dX10_holds_0 : decode cX10_holds 0 = .ok (.aload_n 0, 1) := by decide +kernel
theorem dX10_holds_1 : decode cX10_holds 1 = .ok (.iconst 1, 1) := by decide +kernel
theorem dX10_holds_2 : decode cX10_holds 2 = .ok (.iconst 0, 1) := by decide +kernel
theorem dX10_holds_3 : decode cX10_holds 3 = .ok (.invokevirtual 170, 3) := by decide +kernel
theorem dX10_holds_6 : decode cX10_holds 6 = .ok (.iconst 0, 1) := by decide +kernel
theorem dX10_holds_7 : decode cX10_holds 7 = .ok (.istore_n 2, 1) := by decide +kernel
theorem dX10_holds_8 : decode cX10_holds 8 = .ok (.iload_n 2, 1) := by decide +kernel
theorem dX10_holds_9 : decode cX10_holds 9 = .ok (.iconst 2, 1) := by decide +kernel
theorem dX10_holds_10 : decode cX10_holds 10 = .ok (.if_icmp .ge 70, 3) := by decide +kernel
theorem dX10_holds_13 : decode cX10_holds 13 = .ok (.aload_n 0, 1) := by decide +kernel
theorem dX10_holds_14 : decode cX10_holds 14 = .ok (.getfield 59, 3) := by decide +kernel
theorem dX10_holds_17 : decode cX10_holds 17 = .ok (.iload_n 2, 1) := by decide +kernel
theorem dX10_holds_18 : decode cX10_holds 18 = .ok (.iaload, 1) := by decide +kernel
theorem dX10_holds_19 : decode cX10_holds 19 = .ok (.ifCond .le 55, 3) := by decide +kernel
theorem dX10_holds_22 : decode cX10_holds 22 = .ok (.aload_n 0, 1) := by decide +kernel
theorem dX10_holds_23 : decode cX10_holds 23 = .ok (.getfield 22, 3) := by decide +kernel
theorem dX10_holds_26 : decode cX10_holds 26 = .ok (.iconst 3, 1) := by decide +kernel
theorem dX10_holds_27 : decode cX10_holds 27 = .ok (.aload_n 0, 1) := by decide +kernel
theorem dX10_holds_28 : decode cX10_holds 28 = .ok (.getfield 47, 3) := by decide +kernel
theorem dX10_holds_31 : decode cX10_holds 31 = .ok (.iload_n 2, 1) := by decide +kernel
theorem dX10_holds_32 : decode cX10_holds 32 = .ok (.iaload, 1) := by decide +kernel
theorem dX10_holds_33 : decode cX10_holds 33 = .ok (.imul, 1) := by decide +kernel
theorem dX10_holds_34 : decode cX10_holds 34 = .ok (.aload_n 0, 1) := by decide +kernel
theorem dX10_holds_35 : decode cX10_holds 35 = .ok (.getfield 50, 3) := by decide +kernel
theorem dX10_holds_38 : decode cX10_holds 38 = .ok (.iload_n 2, 1) := by decide +kernel
theorem dX10_holds_39 : decode cX10_holds 39 = .ok (.iaload, 1) := by decide +kernel
theorem dX10_holds_40 : decode cX10_holds 40 = .ok (.iadd, 1) := by decide +kernel
theorem dX10_holds_41 : decode cX10_holds 41 = .ok (.iaload, 1) := by decide +kernel
theorem dX10_holds_42 : decode cX10_holds 42 = .ok (.ifCond .lt 32, 3) := by decide +kernel
theorem dX10_holds_45 : decode cX10_holds 45 = .ok (.aload_n 0, 1) := by decide +kernel
theorem dX10_holds_46 : decode cX10_holds 46 = .ok (.getfield 22, 3) := by decide +kernel
theorem dX10_holds_49 : decode cX10_holds 49 = .ok (.bipush 120, 2) := by decide +kernel
theorem dX10_holds_51 : decode cX10_holds 51 = .ok (.iconst 3, 1) := by decide +kernel
theorem dX10_holds_52 : decode cX10_holds 52 = .ok (.aload_n 0, 1) := by decide +kernel
theorem dX10_holds_53 : decode cX10_holds 53 = .ok (.getfield 47, 3) := by decide +kernel
theorem dX10_holds_56 : decode cX10_holds 56 = .ok (.iload_n 2, 1) := by decide +kernel
theorem dX10_holds_57 : decode cX10_holds 57 = .ok (.iaload, 1) := by decide +kernel
theorem dX10_holds_58 : decode cX10_holds 58 = .ok (.imul, 1) := by decide +kernel
theorem dX10_holds_59 : decode cX10_holds 59 = .ok (.iadd, 1) := by decide +kernel
theorem dX10_holds_60 : decode cX10_holds 60 = .ok (.aload_n 0, 1) := by decide +kernel
theorem dX10_holds_61 : decode cX10_holds 61 = .ok (.getfield 50, 3) := by decide +kernel
theorem dX10_holds_64 : decode cX10_holds 64 = .ok (.iload_n 2, 1) := by decide +kernel
theorem dX10_holds_65 : decode cX10_holds 65 = .ok (.iaload, 1) := by decide +kernel
theorem dX10_holds_66 : decode cX10_holds 66 = .ok (.iadd, 1) := by decide +kernel
theorem dX10_holds_67 : decode cX10_holds 67 = .ok (.aload_n 0, 1) := by decide +kernel
theorem dX10_holds_68 : decode cX10_holds 68 = .ok (.iload_n 2, 1) := by decide +kernel
theorem dX10_holds_69 : decode cX10_holds 69 = .ok (.iload_n 1, 1) := by decide +kernel
theorem dX10_holds_70 : decode cX10_holds 70 = .ok (.invokevirtual 268, 3) := by decide +kernel
theorem dX10_holds_73 : decode cX10_holds 73 = .ok (.iastore, 1) := by decide +kernel
theorem dX10_holds_74 : decode cX10_holds 74 = .ok (.iinc 2 1, 3) := by decide +kernel
theorem dX10_holds_77 : decode cX10_holds 77 = .ok (.goto (-69), 3) := by decide +kernel
theorem dX10_holds_80 : decode cX10_holds 80 = .ok (.iconst 0, 1) := by decide +kernel
theorem dX10_holds_81 : decode cX10_holds 81 = .ok (.istore_n 2, 1) := by decide +kernel
theorem dX10_holds_82 : decode cX10_holds 82 = .ok (.iload_n 2, 1) := by decide +kernel
theorem dX10_holds_83 : decode cX10_holds 83 = .ok (.aload_n 0, 1) := by decide +kernel
theorem dX10_holds_84 : decode cX10_holds 84 = .ok (.getfield 163, 3) := by decide +kernel
theorem dX10_holds_87 : decode cX10_holds 87 = .ok (.if_icmp .ge 55, 3) := by decide +kernel
theorem dX10_holds_90 : decode cX10_holds 90 = .ok (.iconst 3, 1) := by decide +kernel
theorem dX10_holds_91 : decode cX10_holds 91 = .ok (.bipush 40, 2) := by decide +kernel
theorem dX10_holds_93 : decode cX10_holds 93 = .ok (.iload_n 2, 1) := by decide +kernel
theorem dX10_holds_94 : decode cX10_holds 94 = .ok (.iadd, 1) := by decide +kernel
theorem dX10_holds_95 : decode cX10_holds 95 = .ok (.imul, 1) := by decide +kernel
theorem dX10_holds_96 : decode cX10_holds 96 = .ok (.istore_n 3, 1) := by decide +kernel
theorem dX10_holds_97 : decode cX10_holds 97 = .ok (.aload_n 0, 1) := by decide +kernel
theorem dX10_holds_98 : decode cX10_holds 98 = .ok (.getfield 13, 3) := by decide +kernel
theorem dX10_holds_101 : decode cX10_holds 101 = .ok (.bipush 40, 2) := by decide +kernel
theorem dX10_holds_103 : decode cX10_holds 103 = .ok (.iload_n 2, 1) := by decide +kernel
theorem dX10_holds_104 : decode cX10_holds 104 = .ok (.iadd, 1) := by decide +kernel
theorem dX10_holds_105 : decode cX10_holds 105 = .ok (.iaload, 1) := by decide +kernel
theorem dX10_holds_106 : decode cX10_holds 106 = .ok (.aload_n 0, 1) := by decide +kernel
theorem dX10_holds_107 : decode cX10_holds 107 = .ok (.getfield 22, 3) := by decide +kernel
theorem dX10_holds_110 : decode cX10_holds 110 = .ok (.iload_n 3, 1) := by decide +kernel
theorem dX10_holds_111 : decode cX10_holds 111 = .ok (.iaload, 1) := by decide +kernel
theorem dX10_holds_112 : decode cX10_holds 112 = .ok (.aload_n 0, 1) := by decide +kernel
theorem dX10_holds_113 : decode cX10_holds 113 = .ok (.getfield 22, 3) := by decide +kernel
theorem dX10_holds_116 : decode cX10_holds 116 = .ok (.iload_n 3, 1) := by decide +kernel
theorem dX10_holds_117 : decode cX10_holds 117 = .ok (.iconst 1, 1) := by decide +kernel
theorem dX10_holds_118 : decode cX10_holds 118 = .ok (.iadd, 1) := by decide +kernel
theorem dX10_holds_119 : decode cX10_holds 119 = .ok (.iaload, 1) := by decide +kernel
theorem dX10_holds_120 : decode cX10_holds 120 = .ok (.aload_n 0, 1) := by decide +kernel
theorem dX10_holds_121 : decode cX10_holds 121 = .ok (.getfield 22, 3) := by decide +kernel
theorem dX10_holds_124 : decode cX10_holds 124 = .ok (.iload_n 3, 1) := by decide +kernel
theorem dX10_holds_125 : decode cX10_holds 125 = .ok (.iconst 2, 1) := by decide +kernel
theorem dX10_holds_126 : decode cX10_holds 126 = .ok (.iadd, 1) := by decide +kernel
theorem dX10_holds_127 : decode cX10_holds 127 = .ok (.iaload, 1) := by decide +kernel
theorem dX10_holds_128 : decode cX10_holds 128 = .ok (.invokestatic 144, 3) := by decide +kernel
theorem dX10_holds_131 : decode cX10_holds 131 = .ok (.ifCond .ne 5, 3) := by decide +kernel
theorem dX10_holds_134 : decode cX10_holds 134 = .ok (.iconst 0, 1) := by decide +kernel
theorem dX10_holds_135 : decode cX10_holds 135 = .ok (.ireturn, 1) := by decide +kernel
theorem dX10_holds_136 : decode cX10_holds 136 = .ok (.iinc 2 1, 3) := by decide +kernel
theorem dX10_holds_139 : decode cX10_holds 139 = .ok (.goto (-57), 3) := by decide +kernel
theorem dX10_holds_142 : decode cX10_holds 142 = .ok (.aload_n 0, 1) := by decide +kernel
theorem dX10_holds_143 : decode cX10_holds 143 = .ok (.invokevirtual 271, 3) := by decide +kernel
theorem dX10_holds_146 : decode cX10_holds 146 = .ok (.istore_n 2, 1) := by decide +kernel
theorem dX10_holds_147 : decode cX10_holds 147 = .ok (.iconst 1, 1) := by decide +kernel
theorem dX10_holds_148 : decode cX10_holds 148 = .ok (.istore_n 3, 1) := by decide +kernel
theorem dX10_holds_149 : decode cX10_holds 149 = .ok (.aload_n 0, 1) := by decide +kernel
theorem dX10_holds_150 : decode cX10_holds 150 = .ok (.invokevirtual 274, 3) := by decide +kernel
theorem dX10_holds_153 : decode cX10_holds 153 = .ok (.aload_n 0, 1) := by decide +kernel
theorem dX10_holds_154 : decode cX10_holds 154 = .ok (.iconst 1, 1) := by decide +kernel
theorem dX10_holds_155 : decode cX10_holds 155 = .ok (.iconst 0, 1) := by decide +kernel
theorem dX10_holds_156 : decode cX10_holds 156 = .ok (.invokevirtual 186, 3) := by decide +kernel
theorem dX10_holds_159 : decode cX10_holds 159 = .ok (.iconst 0, 1) := by decide +kernel
theorem dX10_holds_160 : decode cX10_holds 160 = .ok (.istore 4, 2) := by decide +kernel
theorem dX10_holds_162 : decode cX10_holds 162 = .ok (.iload 4, 2) := by decide +kernel
theorem dX10_holds_164 : decode cX10_holds 164 = .ok (.iload_n 2, 1) := by decide +kernel
theorem dX10_holds_165 : decode cX10_holds 165 = .ok (.if_icmp .gt 99, 3) := by decide +kernel
theorem dX10_holds_168 : decode cX10_holds 168 = .ok (.iload_n 3, 1) := by decide +kernel
theorem dX10_holds_169 : decode cX10_holds 169 = .ok (.ifCond .eq 95, 3) := by decide +kernel
theorem dX10_holds_172 : decode cX10_holds 172 = .ok (.aload_n 0, 1) := by decide +kernel
theorem dX10_holds_173 : decode cX10_holds 173 = .ok (.iconst 1, 1) := by decide +kernel
theorem dX10_holds_174 : decode cX10_holds 174 = .ok (.iconst 0, 1) := by decide +kernel
theorem dX10_holds_175 : decode cX10_holds 175 = .ok (.invokevirtual 231, 3) := by decide +kernel
theorem dX10_holds_178 : decode cX10_holds 178 = .ok (.iconst 0, 1) := by decide +kernel
theorem dX10_holds_179 : decode cX10_holds 179 = .ok (.istore 5, 2) := by decide +kernel
theorem dX10_holds_181 : decode cX10_holds 181 = .ok (.iload 5, 2) := by decide +kernel
theorem dX10_holds_183 : decode cX10_holds 183 = .ok (.iconst 4, 1) := by decide +kernel
theorem dX10_holds_184 : decode cX10_holds 184 = .ok (.if_icmp .ge 74, 3) := by decide +kernel
theorem dX10_holds_187 : decode cX10_holds 187 = .ok (.aload_n 0, 1) := by decide +kernel
theorem dX10_holds_188 : decode cX10_holds 188 = .ok (.getfield 44, 3) := by decide +kernel
theorem dX10_holds_191 : decode cX10_holds 191 = .ok (.bipush 96, 2) := by decide +kernel
theorem dX10_holds_193 : decode cX10_holds 193 = .ok (.iload 5, 2) := by decide +kernel
theorem dX10_holds_195 : decode cX10_holds 195 = .ok (.imul, 1) := by decide +kernel
theorem dX10_holds_196 : decode cX10_holds 196 = .ok (.iload 4, 2) := by decide +kernel
theorem dX10_holds_198 : decode cX10_holds 198 = .ok (.iadd, 1) := by decide +kernel
theorem dX10_holds_199 : decode cX10_holds 199 = .ok (.iaload, 1) := by decide +kernel
theorem dX10_holds_200 : decode cX10_holds 200 = .ok (.istore 6, 2) := by decide +kernel
theorem dX10_holds_202 : decode cX10_holds 202 = .ok (.iload 6, 2) := by decide +kernel
theorem dX10_holds_204 : decode cX10_holds 204 = .ok (.ifCond .ge 7, 3) := by decide +kernel
theorem dX10_holds_207 : decode cX10_holds 207 = .ok (.lconst 0, 1) := by decide +kernel
theorem dX10_holds_208 : decode cX10_holds 208 = .ok (.goto 13, 3) := by decide +kernel
theorem dX10_holds_211 : decode cX10_holds 211 = .ok (.aload_n 0, 1) := by decide +kernel
theorem dX10_holds_212 : decode cX10_holds 212 = .ok (.iload 5, 2) := by decide +kernel
theorem dX10_holds_214 : decode cX10_holds 214 = .ok (.invokevirtual 251, 3) := by decide +kernel
theorem dX10_holds_217 : decode cX10_holds 217 = .ok (.iload 6, 2) := by decide +kernel
theorem dX10_holds_219 : decode cX10_holds 219 = .ok (.i2l, 1) := by decide +kernel
theorem dX10_holds_220 : decode cX10_holds 220 = .ok (.lsub, 1) := by decide +kernel
theorem dX10_holds_221 : decode cX10_holds 221 = .ok (.lstore 7, 2) := by decide +kernel
theorem dX10_holds_223 : decode cX10_holds 223 = .ok (.iload_n 3, 1) := by decide +kernel
theorem dX10_holds_224 : decode cX10_holds 224 = .ok (.ifCond .eq 26, 3) := by decide +kernel
theorem dX10_holds_227 : decode cX10_holds 227 = .ok (.lload 7, 2) := by decide +kernel
theorem dX10_holds_229 : decode cX10_holds 229 = .ok (.aload_n 0, 1) := by decide +kernel
theorem dX10_holds_230 : decode cX10_holds 230 = .ok (.getfield 258, 3) := by decide +kernel
theorem dX10_holds_233 : decode cX10_holds 233 = .ok (.ineg, 1) := by decide +kernel
theorem dX10_holds_234 : decode cX10_holds 234 = .ok (.i2l, 1) := by decide +kernel
theorem dX10_holds_235 : decode cX10_holds 235 = .ok (.aload_n 0, 1) := by decide +kernel
theorem dX10_holds_236 : decode cX10_holds 236 = .ok (.getfield 258, 3) := by decide +kernel
theorem dX10_holds_239 : decode cX10_holds 239 = .ok (.i2l, 1) := by decide +kernel
theorem dX10_holds_240 : decode cX10_holds 240 = .ok (.invokestatic 85, 3) := by decide +kernel
theorem dX10_holds_243 : decode cX10_holds 243 = .ok (.ifCond .eq 7, 3) := by decide +kernel
theorem dX10_holds_246 : decode cX10_holds 246 = .ok (.iconst 1, 1) := by decide +kernel
theorem dX10_holds_247 : decode cX10_holds 247 = .ok (.goto 4, 3) := by decide +kernel
theorem dX10_holds_250 : decode cX10_holds 250 = .ok (.iconst 0, 1) := by decide +kernel
theorem dX10_holds_251 : decode cX10_holds 251 = .ok (.istore_n 3, 1) := by decide +kernel
theorem dX10_holds_252 : decode cX10_holds 252 = .ok (.iinc 5 1, 3) := by decide +kernel
theorem dX10_holds_255 : decode cX10_holds 255 = .ok (.goto (-74), 3) := by decide +kernel
theorem dX10_holds_258 : decode cX10_holds 258 = .ok (.iinc 4 1, 3) := by decide +kernel
theorem dX10_holds_261 : decode cX10_holds 261 = .ok (.goto (-99), 3) := by decide +kernel
theorem dX10_holds_264 : decode cX10_holds 264 = .ok (.aload_n 0, 1) := by decide +kernel
theorem dX10_holds_265 : decode cX10_holds 265 = .ok (.invokevirtual 277, 3) := by decide +kernel
theorem dX10_holds_268 : decode cX10_holds 268 = .ok (.iload_n 3, 1) := by decide +kernel
theorem dX10_holds_269 : decode cX10_holds 269 = .ok (.ireturn, 1) := by decide +kernel
def uX10_holds : List Cond := .code yX10_holds cX10_holds 9 (some .boolean) :: ([.methodLink RX10 170 yX10_copies, .instanceMethod yX10_copies, .selects RX10 yX10_copies yX10_copies, .initialized RX10, .methodLink RX10 271 yX10_lastSeen, .instanceMethod yX10_lastSeen, .selects RX10 yX10_lastSeen yX10_lastSeen, .methodLink RX10 274 yX10_asides, .instanceMethod yX10_asides, .selects RX10 yX10_asides yX10_asides, .methodLink RX10 186 yX10_begins, .instanceMethod yX10_begins, .selects RX10 yX10_begins yX10_begins, .methodLink RX10 277 yX10_returns, .instanceMethod yX10_returns, .selects RX10 yX10_returns yX10_returns, .methodLink RX10 231 yX10_goes, .instanceMethod yX10_goes, .selects RX10 yX10_goes yX10_goes, .fieldLink RX10 44 "RiverModelModel" "seen" "[I", .methodLink RX10 251 yX10_reading, .instanceMethod yX10_reading, .selects RX10 yX10_reading yX10_reading, .fieldLink RX10 258 "RiverModelModel" "ends" "I", .methodLink RX10 85 yX10_in, .static yX10_in, .fieldLink RX10 163 "RiverModelModel" "items" "I", .fieldLink RX10 13 "RiverModelModel" "kind" "[I", .fieldLink RX10 22 "RiverModelModel" "number" "[I", .methodLink RX10 144 yX10_areWell, .static yX10_areWell, .fieldLink RX10 59 "RiverModelModel" "knobMany" "[I", .fieldLink RX10 47 "RiverModelModel" "knobItem" "[I", .fieldLink RX10 50 "RiverModelModel" "knobAt" "[I", .methodLink RX10 268 yX10_knobValue, .instanceMethod yX10_knobValue, .selects RX10 yX10_knobValue yX10_knobValue, .code yX10_copies cX10_copies 4 none, .fieldLink RX10 16 "RiverModelModel" "first" "[I", .fieldLink RX10 19 "RiverModelModel" "second" "[I", .code yX10_lastSeen cX10_lastSeen 3 (some .int), .code yX10_asides cX10_asides 2 none, .fieldLink RX10 32 "RiverModelModel" "aside" "[J", .fieldLink RX10 28 "RiverModelModel" "m" "[J", .code yX10_begins cX10_begins 4 none, .methodLink RX10 183 yX10_startOf, .instanceMethod yX10_startOf, .selects RX10 yX10_startOf yX10_startOf, .methodLink RX10 208 yX10_isStore, .instanceMethod yX10_isStore, .selects RX10 yX10_isStore yX10_isStore, .fieldLink RX10 71 "RiverModelModel" "startB" "[I", .constantLong RX10 204 (224), .constantLong RX10 206 (227), .constantLong RX10 196 (5), .code yX10_startOf cX10_startOf 4 (some .int), .methodLink RX10 166 yX10_storeAt, .instanceMethod yX10_storeAt, .selects RX10 yX10_storeAt yX10_storeAt, .code yX10_storeAt cX10_storeAt 5 (some .int), .code yX10_isStore cX10_isStore 2 (some .boolean), .code yX10_in cX10_in 6 (some .boolean), .code yX10_returns cX10_returns 2 none, .code yX10_goes cX10_goes 4 none, .fieldLink RX10 25 "RiverModelModel" "weather" "[I", .methodLink RX10 225 yX10_passes, .instanceMethod yX10_passes, .selects RX10 yX10_passes yX10_passes, .code yX10_passes cX10_passes 12 none, .methodLink RX10 221 yX10_moves, .instanceMethod yX10_moves, .selects RX10 yX10_moves yX10_moves, .code yX10_moves cX10_moves 8 (some .long), .constantLong RX10 219 (10), .methodLink RX10 215 yX10_most, .instanceMethod yX10_most, .selects RX10 yX10_most yX10_most, .constantLong RX10 107 (100), .methodLink RX10 211 yX10_capacity, .instanceMethod yX10_capacity, .selects RX10 yX10_capacity yX10_capacity, .code yX10_most cX10_most 4 (some .long), .code yX10_capacity cX10_capacity 3 (some .long), .code yX10_reading cX10_reading 2 (some .long), .fieldLink RX10 38 "RiverModelModel" "gaugeKind" "[I", .fieldLink RX10 41 "RiverModelModel" "gaugeAt" "[I", .code yX10_areWell cX10_areWell 4 (some .boolean), .constantLong RX10 101 (1000), .constantLong RX10 103 (10000), .constantLong RX10 99 (1000000), .constantLong RX10 105 (12), .code yX10_knobValue cX10_knobValue 4 (some .int), .methodLink RX10 265 yX10_knobs, .instanceMethod yX10_knobs, .selects RX10 yX10_knobs yX10_knobs, .fieldLink RX10 53 "RiverModelModel" "knobFrom" "[I", .fieldLink RX10 56 "RiverModelModel" "knobStep" "[I", .code yX10_knobs cX10_knobs 2 (some .int)] ++ wsX100)
set_option maxRecDepth 20000 in
theorem gu_X10_holds_X10_copies_170 : GoodIn uX10_holds (wsV RX10 170 RX10 yX10_copies uX10_copies) := goodIn_r _ [1, 2, 3, 4, 38, 29, 28, 39, 40, 99, 100, 101, 102, 103, 104, 105, 106, 107, 108, 109, 110, 111, 112, 113, 114, 115, 116, 117, 118, 119, 120, 121, 122, 123, 124, 125, 126, 127, 128, 129, 130, 131, 132, 133, 134] rfl (by decide +kernel)
set_option maxRecDepth 20000 in
theorem gu_X10_holds_X10_lastSeen_271 : GoodIn uX10_holds (wsV RX10 271 RX10 yX10_lastSeen uX10_lastSeen) := goodIn_r _ [5, 6, 7, 4, 41, 20, 99, 100, 101, 102, 103, 104, 105, 106, 107, 108, 109, 110, 111, 112, 113, 114, 115, 116, 117, 118, 119, 120, 121, 122, 123, 124, 125, 126, 127, 128, 129, 130, 131, 132, 133, 134] rfl (by decide +kernel)
set_option maxRecDepth 20000 in
theorem gu_X10_holds_X10_asides_274 : GoodIn uX10_holds (wsV RX10 274 RX10 yX10_asides uX10_asides) := goodIn_r _ [8, 9, 10, 4, 42, 43, 44, 99, 100, 101, 102, 103, 104, 105, 106, 107, 108, 109, 110, 111, 112, 113, 114, 115, 116, 117, 118, 119, 120, 121, 122, 123, 124, 125, 126, 127, 128, 129, 130, 131, 132, 133, 134] rfl (by decide +kernel)
set_option maxRecDepth 20000 in
theorem gu_X10_holds_X10_begins_186 : GoodIn uX10_holds (wsV RX10 186 RX10 yX10_begins uX10_begins) := goodIn_r _ [11, 12, 13, 4, 45, 44, 46, 47, 48, 4, 49, 50, 51, 52, 53, 54, 25, 26, 55, 56, 57, 58, 59, 29, 60, 27, 28, 39, 61, 62, 99, 100, 101, 102, 103, 104, 105, 106, 107, 108, 109, 110, 111, 112, 113, 114, 115, 116, 117, 118, 119, 120, 121, 122, 123, 124, 125, 126, 127, 128, 129, 130, 131, 132, 133, 134] rfl (by decide +kernel)
set_option maxRecDepth 20000 in
theorem gu_X10_holds_X10_returns_277 : GoodIn uX10_holds (wsV RX10 277 RX10 yX10_returns uX10_returns) := goodIn_r _ [14, 15, 16, 4, 63, 44, 43, 99, 100, 101, 102, 103, 104, 105, 106, 107, 108, 109, 110, 111, 112, 113, 114, 115, 116, 117, 118, 119, 120, 121, 122, 123, 124, 125, 126, 127, 128, 129, 130, 131, 132, 133, 134] rfl (by decide +kernel)
set_option maxRecDepth 20000 in
theorem gu_X10_holds_X10_goes_231 : GoodIn uX10_holds (wsV RX10 231 RX10 yX10_goes uX10_goes) := goodIn_r _ [17, 18, 19, 4, 64, 44, 65, 66, 67, 68, 4, 69, 27, 28, 70, 71, 72, 39, 40, 29, 73, 74, 75, 76, 77, 78, 79, 80, 81, 82, 83, 57, 58, 59, 60, 99, 100, 101, 102, 103, 104, 105, 106, 107, 108, 109, 110, 111, 112, 113, 114, 115, 116, 117, 118, 119, 120, 121, 122, 123, 124, 125, 126, 127, 128, 129, 130, 131, 132, 133, 134] rfl (by decide +kernel)
set_option maxRecDepth 20000 in
theorem gu_X10_holds_X10_reading_251 : GoodIn uX10_holds (wsV RX10 251 RX10 yX10_reading uX10_reading) := goodIn_r _ [21, 22, 23, 4, 84, 85, 44, 86, 99, 100, 101, 102, 103, 104, 105, 106, 107, 108, 109, 110, 111, 112, 113, 114, 115, 116, 117, 118, 119, 120, 121, 122, 123, 124, 125, 126, 127, 128, 129, 130, 131, 132, 133, 134] rfl (by decide +kernel)
set_option maxRecDepth 20000 in
theorem gu_X10_holds_X10_in_85 : GoodIn uX10_holds (va_wsS RX10 85 yX10_in uX10_in) := goodIn_r _ [25, 26, 4, 62] rfl (by decide +kernel)
set_option maxRecDepth 20000 in
theorem gu_X10_holds_X10_areWell_144 : GoodIn uX10_holds (va_wsS RX10 144 yX10_areWell uX10_areWell) := goodIn_r _ [30, 31, 4, 87, 88, 25, 26, 4, 89, 90, 78, 91, 62] rfl (by decide +kernel)
set_option maxRecDepth 20000 in
theorem gu_X10_holds_X10_knobValue_268 : GoodIn uX10_holds (wsV RX10 268 RX10 yX10_knobValue uX10_knobValue) := goodIn_r _ [35, 36, 37, 4, 92, 93, 94, 95, 4, 96, 97, 98, 32, 99, 100, 101, 102, 103, 104, 105, 106, 107, 108, 109, 110, 111, 112, 113, 114, 115, 116, 117, 118, 119, 120, 121, 122, 123, 124, 125, 126, 127, 128, 129, 130, 131, 132, 133, 134] rfl (by decide +kernel)
set_option maxHeartbeats 4000000 in
set_option maxRecDepth 100000 in
theorem m_X10_holds (l : Launch) (D : va_G) (t : Nat → Nat) (cI cL cC : ClassId) (gC : Int32) (gE : Int32) (gW : Nat → Int32) (gA : Nat → Int32) (gT : Nat → Int32) (gI : Int32) (gS : Int32) (gM : Int32) (K : Nat → Int32) (F : Nat → Int32) (S : Nat → Int32) (N : Nat → Int32) (gH : Int) (gJ : Int) (ge : Int32) (gk : Int32) (gf : Int32) (gs : Int32) (gg : Int32) (gr : Int32) (RN : Nat → Int32) (gb : Int32) (rV : Nat → Int32) (rN : Nat → Int32) (a0 : Nat) (a1 : Int32) (uq : ∀ b c : Nat, t b = t c → t b ≠ 0 → b = c) (hI0 : 0 ≤ gI.toInt) (hI4 : gI.toInt ≤ 40) (hH0 : 0 ≤ gH) (hH9 : gH ≤ 96) (hO0 : okM K F S N 0 gI.toInt) (k_a0 : t a0 = 40) : tMx (Z := (Nat → Int32) × (Nat → Int32) × (Nat → Int32) × (Nat → Int32) × (Int) × (Int)) l yX10_holds uX10_holds 5 127 D (mF cI cL cC gC gE gW gA gT gI gS gM K F S N gH gJ ge gk gf gs gg gr RN gb rV rN) (fun z => (mF cI cL cC gC gE gW gA gT gI gS gM z.1 z.2.1 z.2.2.1 z.2.2.2.1 z.2.2.2.2.1 z.2.2.2.2.2 ge gk gf gs gg gr RN gb rV rN)) t cI cL cC [.ref a0, .int a1] wHo (xI (fun r (z : (Nat → Int32) × (Nat → Int32) × (Nat → Int32) × (Nat → Int32) × (Int) × (Int)) => (r = 1 ∧ z.2.2.2.2.1 = gH ∧ kpO K z.1 40 40 ∧ kpO F z.2.1 40 40 ∧ kpO S z.2.2.1 40 40 ∧ kpO N z.2.2.2.1 120 120 ∧ okM z.1 z.2.1 z.2.2.1 z.2.2.2.1 40 gI.toInt ∧ trd K F z.1 z.2.1) ∨ (r = 0 ∧ z.2.2.2.2.1 = gH ∧ kpO K z.1 40 40 ∧ kpO F z.2.1 40 40 ∧ kpO S z.2.2.1 40 40 ∧ kpO N z.2.2.2.1 120 120))) := by
  refine tMx.ofW (cc := cX10_holds) (maxL := 9) (ret := (some .boolean)) (by decide) rfl (Nat.le_of_ble_eq_true rfl) ?_
  intro p e s m below meth c hx hb hr hml hown hts hlk H locs hG hK hE hS ls hl
  have hl : lv_has ls 9 [(0, .ref a0), (1, .int a1)] := hl
  have in10 : ∀ w ∈ wsX100, w ∈ uX10_holds := fun w h => List.mem_cons_of_mem _ (List.mem_append_right _ h)
  refine lv_aload_n hx hb dX10_holds_0 rfl (lv_at hl 0 rfl) ?_
  refine lv_iconst (v := 1) hx hb dX10_holds_1 (by decide) ?_
  refine lv_iconst (v := 0) hx hb dX10_holds_2 (by decide) ?_
  have zi_1 : (1 : Int32).toInt = 1 := by decide
  have zi_0 : (0 : Int32).toInt = 0 := by decide
  obtain ⟨r_1, r_3, r_5, r_7, r_9, r_11, r_13, r_15, r_17, r_19, r_21, r_23, r_25, r_27, r_29, r_31, r_33, r_35, r_37, r_39, r_41, r_43, v_45, r_46, at_48, h_2, h_4, h_6, h_8, h_10, h_12, h_14, h_16, h_18, h_20, h_22, h_24, h_26, h_28, h_30, h_32, h_34, h_36, h_38, h_40, h_42, h_44, h_47⟩ := mF_o40 hG k_a0
  refine tx_callv (W.runV (As := [.int 1, .int 0]) (rest := []) ⟨hx, hb, hml, hown, hts⟩ (m_X10_copies l D t cI cL cC gC gE gW gA gT gI gS gM K F S N gH gJ ge gk gf gs gg gr RN gb rV rN a0 1 0 40 0 120 0 uq (by omega) (by omega) (by omega) (by omega) (by omega) (by omega) (by omega) (by omega) (by omega) k_a0) (cwV 2 hts gu_X10_holds_X10_copies_170 rfl rfl rfl (by decide +kernel) ⟨Nat.le_of_ble_eq_true rfl, Nat.le_of_ble_eq_true rfl⟩) (tP_V hG hE at_48 rfl) rfl rfl hl.1 rfl (lv_room (Nat.le_of_ble_eq_true rfl)) dX10_holds_3 ⟨Nat.le_of_ble_eq_true rfl, Nat.le_of_ble_eq_true rfl⟩) hS (wrL_sub (by decide)) (fun zz_52 H locs hp_50 hG hS o_51 => ?_)
  obtain ⟨K_53, F_54, S_55, N_56⟩ := zz_52
  have at_48 := va_at.keptC at_48 o_51 k_a0 rfl
  replace hG : tG D (mF cI cL cC gC gE gW gA gT gI gS gM K_53 F_54 S_55 N_56 gH gJ ge gk gf gs gg gr RN gb rV rN) t H := hG
  have hp_50 : cpd K K_53 40 0 40 ∧ cpd F F_54 40 0 40 ∧ cpd S S_55 40 0 40 ∧ cpd N N_56 120 0 120 := hp_50
  obtain ⟨p_57, p_58, p_59, p_60⟩ := hp_50
  refine lv_iconst (v := 0) hx hb dX10_holds_6 (by decide) ?_
  refine lv_istore_n (lv' := [(2, .int 0), (0, .ref a0), (1, .int a1)]) hx hb dX10_holds_7 rfl hl (by decide) rfl (fun ls hl => ?_)
  refine lv_pc (pc2 := 8) rfl ?_
  refine lp_gen (fun WW61 hWW61 => ?_)
  have kx61 : ∀ (yk : Int32) (n1 : Nat → Int32) (H1 : Heap) (locs1 : List Loc) (ls1 : Array Slot), (0 ≤ yk.toInt) → (yk.toInt ≤ 2) → (kpO N n1 120 120) → tG D (mF cI cL cC gC gE gW gA gT gI gS gM K_53 F_54 S_55 n1 gH gJ ge gk gf gs gg gr RN gb rV rN) t H1 → tF t wHo s.heap H1 locs1 → lv_has ls1 9 [(2, .int yk), (0, .ref a0), (1, .int a1)] → WW61 H1 locs1 (F0 m 80 ls1 []) := by
    intro yk n1 H locs ls v61_0 v61_1 v61_2 hG hS hl
    refine (hWW61 _ _ _).mpr ?_
    refine lv_iconst (v := 0) hx hb dX10_holds_80 (by decide) ?_
    refine lv_pc (pc2 := 81) rfl ?_
    refine lv_istore_n (lv' := [(2, .int 0), (0, .ref a0), (1, .int a1)]) hx hb dX10_holds_81 rfl hl (by decide) rfl (fun ls hl => ?_)
    refine lv_pc (pc2 := 82) rfl ?_
    refine lp_gen (fun WW62 hWW62 => ?_)
    have kx62 : ∀ (yi : Int32) (H1 : Heap) (locs1 : List Loc) (ls1 : Array Slot), (0 ≤ yi.toInt) → (yi.toInt ≤ gI.toInt) → (welM K_53 n1 40 yi.toInt) → (gI.toInt ≤ yi.toInt) → tG D (mF cI cL cC gC gE gW gA gT gI gS gM K_53 F_54 S_55 n1 gH gJ ge gk gf gs gg gr RN gb rV rN) t H1 → tF t wHo s.heap H1 locs1 → lv_has ls1 9 [(2, .int yi), (0, .ref a0), (1, .int a1)] → WW62 H1 locs1 (F0 m 142 ls1 []) := by
      intro yi H locs ls v62_0 v62_1 v62_2 xf62_0 hG hS hl
      refine (hWW62 _ _ _).mpr ?_
      have hT := okM.tried (by omega) p_57 p_58 p_59 (by rw [show gI.toInt = yi.toInt by omega]; exact v62_2) hO0
      refine lv_aload_n hx hb dX10_holds_142 rfl (lv_at hl 1 rfl) ?_
      obtain ⟨r_63, r_65, r_67, r_69, r_71, r_73, r_75, r_77, r_79, r_81, r_83, r_85, r_87, r_89, r_91, r_93, r_95, r_97, r_99, r_101, r_103, r_105, v_107, r_108, at_110, h_64, h_66, h_68, h_70, h_72, h_74, h_76, h_78, h_80, h_82, h_84, h_86, h_88, h_90, h_92, h_94, h_96, h_98, h_100, h_102, h_104, h_106, h_109⟩ := mF_o40 hG k_a0
      refine ty_calli (W.runV (As := []) (rest := []) ⟨hx, hb, hml, hown, hts⟩ (m_X10_lastSeen l D t cI cL cC gC gE gW gA gT gI gS gM K_53 F_54 S_55 n1 gH gJ ge gk gf gs gg gr RN gb rV rN a0  uq  k_a0) (cwV 0 hts gu_X10_holds_X10_lastSeen_271 rfl rfl rfl (by decide +kernel) ⟨Nat.le_of_ble_eq_true rfl, Nat.le_of_ble_eq_true rfl⟩) (tP_V hG hE at_110 rfl) rfl rfl hl.1 rfl (lv_room (Nat.le_of_ble_eq_true rfl)) dX10_holds_143 ⟨Nat.le_of_ble_eq_true rfl, Nat.le_of_ble_eq_true rfl⟩) hS (fun k h => by simp [wr0] at h) (fun r_111 H locs hp_112 hG hS o_113 => ?_)
      have at_110 := va_at.keptC at_110 o_113 k_a0 rfl
      have hp_112 : -1 ≤ r_111.toInt ∧ r_111.toInt ≤ 95 := hp_112
      obtain ⟨p_115, p_116⟩ := hp_112
      refine lv_istore_n (lv' := [(2, .int r_111), (0, .ref a0), (1, .int a1)]) hx hb dX10_holds_146 rfl hl (by decide) rfl (fun ls hl => ?_)
      refine lv_iconst (v := 1) hx hb dX10_holds_147 (by decide) ?_
      refine lv_istore_n (lv' := [(3, .int 1), (2, .int r_111), (0, .ref a0), (1, .int a1)]) hx hb dX10_holds_148 rfl hl (by decide) rfl (fun ls hl => ?_)
      refine lv_aload_n hx hb dX10_holds_149 rfl (lv_at hl 2 rfl) ?_
      refine tx_callv (W.runV (As := []) (rest := []) ⟨hx, hb, hml, hown, hts⟩ (m_X10_asides l D t cI cL cC gC gE gW gA gT gI gS gM K_53 F_54 S_55 n1 gH gJ ge gk gf gs gg gr RN gb rV rN a0  uq  k_a0) (cwV 0 hts gu_X10_holds_X10_asides_274 rfl rfl rfl (by decide +kernel) ⟨Nat.le_of_ble_eq_true rfl, Nat.le_of_ble_eq_true rfl⟩) (tP_V hG hE at_110 rfl) rfl rfl hl.1 rfl (lv_room (Nat.le_of_ble_eq_true rfl)) dX10_holds_150 ⟨Nat.le_of_ble_eq_true rfl, Nat.le_of_ble_eq_true rfl⟩) hS (wrL_sub (by decide)) (fun gJ_121 H locs hp_118 hG hS o_119 => ?_)
      have at_110 := va_at.keptC at_110 o_119 k_a0 rfl
      replace hG : tG D (mF cI cL cC gC gE gW gA gT gI gS gM K_53 F_54 S_55 n1 gH gJ_121 ge gk gf gs gg gr RN gb rV rN) t H := hG
      have hp_118 : gJ_121 = gH := hp_118
      have p_122 := hp_118
      refine lv_pc (pc2 := 153) rfl ?_
      refine lv_aload_n hx hb dX10_holds_153 rfl (lv_at hl 2 rfl) ?_
      refine lv_iconst (v := 1) hx hb dX10_holds_154 (by decide) ?_
      refine lv_iconst (v := 0) hx hb dX10_holds_155 (by decide) ?_
      refine tx_callv (W.runV (As := [.int 1, .int 0]) (rest := []) ⟨hx, hb, hml, hown, hts⟩ (m_X10_begins l D t cI cL cC gC gE gW gA gT gI gS gM K_53 F_54 S_55 n1 gH gJ_121 ge gk gf gs gg gr RN gb rV rN a0 1 0 40 uq (by omega) (by omega) (by omega) (by omega) (by omega) k_a0) (cwV 2 hts gu_X10_holds_X10_begins_186 rfl rfl rfl (by decide +kernel) ⟨Nat.le_of_ble_eq_true rfl, Nat.le_of_ble_eq_true rfl⟩) (tP_V hG hE at_110 rfl) rfl rfl hl.1 rfl (lv_room (Nat.le_of_ble_eq_true rfl)) dX10_holds_156 ⟨Nat.le_of_ble_eq_true rfl, Nat.le_of_ble_eq_true rfl⟩) hS (wrL_sub (by decide)) (fun gH_127 H locs hp_124 hG hS o_125 => ?_)
      have at_110 := va_at.keptC at_110 o_125 k_a0 rfl
      replace hG : tG D (mF cI cL cC gC gE gW gA gT gI gS gM K_53 F_54 S_55 n1 gH_127 gJ_121 ge gk gf gs gg gr RN gb rV rN) t H := hG
      have hp_124 : gH_127 = 0 := hp_124
      have p_128 := hp_124
      refine lv_iconst (v := 0) hx hb dX10_holds_159 (by decide) ?_
      refine lv_istore (lv' := [(4, .int 0), (3, .int 1), (2, .int r_111), (0, .ref a0), (1, .int a1)]) hx hb dX10_holds_160 hl (by decide) rfl (fun ls hl => ?_)
      refine lv_pc (pc2 := 162) rfl ?_
      refine lp_gen (fun WW129 hWW129 => ?_)
      have kx129 : ∀ (yh : Int32) (yb : Int32) (hm : Int) (H1 : Heap) (locs1 : List Loc) (ls1 : Array Slot), (0 ≤ yh.toInt) → (yh.toInt ≤ 96) → (yb = 0 ∨ yb = 1) → (hm = yh.toInt) → tG D (mF cI cL cC gC gE gW gA gT gI gS gM K_53 F_54 S_55 n1 hm gJ_121 ge gk gf gs gg gr RN gb rV rN) t H1 → tF t wHo s.heap H1 locs1 → lv_has ls1 9 [(4, .int yh), (3, .int yb), (2, .int r_111), (0, .ref a0), (1, .int a1)] → WW129 H1 locs1 (F0 m 264 ls1 []) := by
        intro yh yb hm H locs ls v129_0 v129_1 v129_2 v129_3 hG hS hl
        refine (hWW129 _ _ _).mpr ?_
        refine lv_aload_n hx hb dX10_holds_264 rfl (lv_at hl 3 rfl) ?_
        obtain ⟨r_130, r_132, r_134, r_136, r_138, r_140, r_142, r_144, r_146, r_148, r_150, r_152, r_154, r_156, r_158, r_160, r_162, r_164, r_166, r_168, r_170, r_172, v_174, r_175, at_177, h_131, h_133, h_135, h_137, h_139, h_141, h_143, h_145, h_147, h_149, h_151, h_153, h_155, h_157, h_159, h_161, h_163, h_165, h_167, h_169, h_171, h_173, h_176⟩ := mF_o40 hG k_a0
        refine tx_callv (W.runV (As := []) (rest := []) ⟨hx, hb, hml, hown, hts⟩ (m_X10_returns l D t cI cL cC gC gE gW gA gT gI gS gM K_53 F_54 S_55 n1 hm gJ_121 ge gk gf gs gg gr RN gb rV rN a0  uq  k_a0) (cwV 0 hts gu_X10_holds_X10_returns_277 rfl rfl rfl (by decide +kernel) ⟨Nat.le_of_ble_eq_true rfl, Nat.le_of_ble_eq_true rfl⟩) (tP_V hG hE at_177 rfl) rfl rfl hl.1 rfl (lv_room (Nat.le_of_ble_eq_true rfl)) dX10_holds_265 ⟨Nat.le_of_ble_eq_true rfl, Nat.le_of_ble_eq_true rfl⟩) hS (wrL_sub (by decide)) (fun gH_182 H locs hp_179 hG hS o_180 => ?_)
        have at_177 := va_at.keptC at_177 o_180 k_a0 rfl
        replace hG : tG D (mF cI cL cC gC gE gW gA gT gI gS gM K_53 F_54 S_55 n1 gH_182 gJ_121 ge gk gf gs gg gr RN gb rV rN) t H := hG
        have hp_179 : gH_182 = gJ_121 := hp_179
        have p_183 := hp_179
        rcases v129_2 with rfl | rfl
        · skip
          refine lv_pc (pc2 := 268) rfl ?_
          refine lv_iload_n hx hb dX10_holds_268 rfl (lv_at hl 1 rfl) ?_
          exact tx_zret (z := (K_53, F_54, S_55, n1, gH_182, gJ_121)) hx hb hr hlk rfl hG hS (Or.inr ⟨rfl, (by show gH_182 = gH; omega), (show kpO K K_53 40 40 from p_57.2), (show kpO F F_54 40 40 from p_58.2), (show kpO S S_55 40 40 from p_59.2), (show kpO N n1 120 120 from v61_2)⟩) dX10_holds_269
        · skip
          refine lv_iload_n hx hb dX10_holds_268 rfl (lv_at hl 1 rfl) ?_
          exact tx_zret (z := (K_53, F_54, S_55, n1, gH_182, gJ_121)) hx hb hr hlk rfl hG hS (Or.inl ⟨rfl, (by show gH_182 = gH; omega), (show kpO K K_53 40 40 from p_57.2), (show kpO F F_54 40 40 from p_58.2), (show kpO S S_55 40 40 from p_59.2), (show kpO N n1 120 120 from v61_2), hT, (show trd K F K_53 F_54 from ⟨p_57.1, p_58.1⟩)⟩) dX10_holds_269
      have lp129 : ∀ (kk129 : Nat) (yh : Int32) (yb : Int32) (hm : Int) (H1 : Heap) (locs1 : List Loc) (ls1 : Array Slot), 96 - yh.toInt ≤ (kk129 : Int) → (0 ≤ yh.toInt) → (yh.toInt ≤ 96) → (yb = 0 ∨ yb = 1) → (hm = yh.toInt) → tG D (mF cI cL cC gC gE gW gA gT gI gS gM K_53 F_54 S_55 n1 hm gJ_121 ge gk gf gs gg gr RN gb rV rN) t H1 → tF t wHo s.heap H1 locs1 → lv_has ls1 9 [(4, .int yh), (3, .int yb), (2, .int r_111), (0, .ref a0), (1, .int a1)] → WW129 H1 locs1 (F0 m 162 ls1 []) := by
        intro kk129
        induction kk129 with
        | zero =>
          intro yh yb hm H locs ls hk129 v129_0 v129_1 v129_2 v129_3 hG hS hl
          refine (hWW129 _ _ _).mpr ?_
          refine lv_iload hx hb dX10_holds_162 (lv_at hl 0 rfl) ?_
          refine lv_iload_n hx hb dX10_holds_164 rfl (lv_at hl 2 rfl) ?_
          refine lv_icmp_gt (tgt := 264) hx hb dX10_holds_165 (by decide) (fun c_184 => ?_) (fun c_184 => ?_)
          · skip
            have c_184 : r_111.toInt < yh.toInt := q_lt c_184
            exact (hWW129 _ _ _).mp (kx129 yh yb hm H locs ls v129_0 v129_1 v129_2 v129_3 hG hS (lv_sub hl [0, 1, 2, 3, 4] rfl))
          · skip
            have c_184 : yh.toInt ≤ r_111.toInt := q_nlt c_184
            exfalso; omega
        | succ kk129 ih129 =>
          intro yh yb hm H locs ls hk129 v129_0 v129_1 v129_2 v129_3 hG hS hl
          refine (hWW129 _ _ _).mpr ?_
          refine lv_iload hx hb dX10_holds_162 (lv_at hl 0 rfl) ?_
          refine lv_pc (pc2 := 164) rfl ?_
          refine lv_iload_n hx hb dX10_holds_164 rfl (lv_at hl 2 rfl) ?_
          refine lv_icmp_gt (tgt := 264) hx hb dX10_holds_165 (by decide) (fun c_185 => ?_) (fun c_185 => ?_)
          · skip
            have c_185 : r_111.toInt < yh.toInt := q_lt c_185
            exact (hWW129 _ _ _).mp (kx129 yh yb hm H locs ls v129_0 v129_1 v129_2 v129_3 hG hS (lv_sub hl [0, 1, 2, 3, 4] rfl))
          · skip
            have c_185 : yh.toInt ≤ r_111.toInt := q_nlt c_185
            refine lv_iload_n hx hb dX10_holds_168 rfl (lv_at hl 1 rfl) ?_
            refine lv_if_eq (tgt := 264) hx hb dX10_holds_169 (by decide) (fun c_186 => ?_) (fun c_186 => ?_)
            · skip
              have c_186 : yb.toInt = 0 := q_eq c_186
              exact (hWW129 _ _ _).mp (kx129 yh yb hm H locs ls v129_0 v129_1 v129_2 v129_3 hG hS (lv_sub hl [0, 1, 2, 3, 4] rfl))
            · skip
              have c_186 : yb.toInt ≠ 0 := q_ne c_186
              refine lv_aload_n hx hb dX10_holds_172 rfl (lv_at hl 3 rfl) ?_
              refine lv_iconst (v := 1) hx hb dX10_holds_173 (by decide) ?_
              refine lv_iconst (v := 0) hx hb dX10_holds_174 (by decide) ?_
              obtain ⟨r_187, r_189, r_191, r_193, r_195, r_197, r_199, r_201, r_203, r_205, r_207, r_209, r_211, r_213, r_215, r_217, r_219, r_221, r_223, r_225, r_227, r_229, v_231, r_232, at_234, h_188, h_190, h_192, h_194, h_196, h_198, h_200, h_202, h_204, h_206, h_208, h_210, h_212, h_214, h_216, h_218, h_220, h_222, h_224, h_226, h_228, h_230, h_233⟩ := mF_o40 hG k_a0
              refine tx_callv (W.runV (As := [.int 1, .int 0]) (rest := []) ⟨hx, hb, hml, hown, hts⟩ (m_X10_goes l D t cI cL cC gC gE gW gA gT gI gS gM K_53 F_54 S_55 n1 hm gJ_121 ge gk gf gs gg gr RN gb rV rN a0 1 0 40 uq (by omega) (by omega) (by omega) (by omega) (by omega) hT (by omega) (by omega) (by omega) (by omega) k_a0) (cwV 2 hts gu_X10_holds_X10_goes_231 rfl rfl rfl (by decide +kernel) ⟨Nat.le_of_ble_eq_true rfl, Nat.le_of_ble_eq_true rfl⟩) (tP_V hG hE at_234 rfl) rfl rfl hl.1 rfl (lv_room (Nat.le_of_ble_eq_true rfl)) dX10_holds_175 ⟨Nat.le_of_ble_eq_true rfl, Nat.le_of_ble_eq_true rfl⟩) hS (wrL_sub (by decide)) (fun gH_239 H locs hp_236 hG hS o_237 => ?_)
              have at_234 := va_at.keptC at_234 o_237 k_a0 rfl
              replace hG : tG D (mF cI cL cC gC gE gW gA gT gI gS gM K_53 F_54 S_55 n1 gH_239 gJ_121 ge gk gf gs gg gr RN gb rV rN) t H := hG
              have hp_236 : gH_239 = hm + 1 := hp_236
              have p_240 := hp_236
              refine lv_pc (pc2 := 178) rfl ?_
              refine lv_iconst (v := 0) hx hb dX10_holds_178 (by decide) ?_
              refine lv_istore (lv' := [(5, .int 0), (4, .int yh), (3, .int yb), (2, .int r_111), (0, .ref a0), (1, .int a1)]) hx hb dX10_holds_179 hl (by decide) rfl (fun ls hl => ?_)
              refine lv_pc (pc2 := 181) rfl ?_
              refine lp_gen (fun WW241 hWW241 => ?_)
              have kx241 : ∀ (yj : Int32) (yc : Int32) (H1 : Heap) (locs1 : List Loc) (ls1 : Array Slot), (0 ≤ yj.toInt) → (yj.toInt ≤ 4) → (yc = 0 ∨ yc = 1) → tG D (mF cI cL cC gC gE gW gA gT gI gS gM K_53 F_54 S_55 n1 gH_239 gJ_121 ge gk gf gs gg gr RN gb rV rN) t H1 → tF t wHo s.heap H1 locs1 → lv_has ls1 9 [(5, .int yj), (4, .int yh), (3, .int yc), (2, .int r_111), (0, .ref a0), (1, .int a1)] → WW241 H1 locs1 (F0 m 258 ls1 []) := by
                intro yj yc H locs ls v241_0 v241_1 v241_2 hG hS hl
                refine (hWW241 _ _ _).mpr ?_
                obtain ⟨x_242, e_243⟩ : ∃ y : Int32, y = yh + Int32.ofInt 1 := ⟨_, rfl⟩
                have i_x_242 : x_242.toInt = yh.toInt + 1 := by rw [e_243, show Int32.ofInt 1 = 1 by decide]; exact (q_add (by rw [show (1 : Int32).toInt = 1 by decide]; omega) (by rw [show (1 : Int32).toInt = 1 by decide]; omega)).trans (by rw [show (1 : Int32).toInt = 1 by decide])
                refine lv_iinc (v := x_242) (lv' := [(4, .int x_242), (5, .int yj), (3, .int yc), (2, .int r_111), (0, .ref a0), (1, .int a1)]) hx hb dX10_holds_258 hl (k := 1) rfl e_243.symm (by decide) rfl (fun ls hl => ?_)
                refine lv_goto (tgt := 162) hx hb dX10_holds_261 (by decide) ?_
                exact (hWW129 _ _ _).mp (ih129 x_242 yc gH_239 H locs ls (by omega) (by omega) (by omega) v241_2 (by omega) hG hS (lv_sub hl [0, 2, 3, 4, 5] rfl))
              have lp241 : ∀ (kk241 : Nat) (yj : Int32) (yc : Int32) (H1 : Heap) (locs1 : List Loc) (ls1 : Array Slot), 4 - yj.toInt ≤ (kk241 : Int) → (0 ≤ yj.toInt) → (yj.toInt ≤ 4) → (yc = 0 ∨ yc = 1) → tG D (mF cI cL cC gC gE gW gA gT gI gS gM K_53 F_54 S_55 n1 gH_239 gJ_121 ge gk gf gs gg gr RN gb rV rN) t H1 → tF t wHo s.heap H1 locs1 → lv_has ls1 9 [(5, .int yj), (4, .int yh), (3, .int yc), (2, .int r_111), (0, .ref a0), (1, .int a1)] → WW241 H1 locs1 (F0 m 181 ls1 []) := by
                intro kk241
                induction kk241 with
                | zero =>
                  intro yj yc H locs ls hk241 v241_0 v241_1 v241_2 hG hS hl
                  refine (hWW241 _ _ _).mpr ?_
                  refine lv_iload hx hb dX10_holds_181 (lv_at hl 0 rfl) ?_
                  refine lv_iconst (v := 4) hx hb dX10_holds_183 (by decide) ?_
                  refine lv_icmp_ge (tgt := 258) hx hb dX10_holds_184 (by decide) (fun c_244 => ?_) (fun c_244 => ?_)
                  · skip
                    have c_244 : 4 ≤ yj.toInt := q_le c_244
                    exact (hWW241 _ _ _).mp (kx241 yj yc H locs ls v241_0 v241_1 v241_2 hG hS (lv_sub hl [0, 1, 2, 3, 4, 5] rfl))
                  · skip
                    have c_244 : yj.toInt < 4 := q_nle c_244
                    exfalso; omega
                | succ kk241 ih241 =>
                  intro yj yc H locs ls hk241 v241_0 v241_1 v241_2 hG hS hl
                  refine (hWW241 _ _ _).mpr ?_
                  refine lv_iload hx hb dX10_holds_181 (lv_at hl 0 rfl) ?_
                  refine lv_pc (pc2 := 183) rfl ?_
                  refine lv_iconst (v := 4) hx hb dX10_holds_183 (by decide) ?_
                  refine lv_icmp_ge (tgt := 258) hx hb dX10_holds_184 (by decide) (fun c_245 => ?_) (fun c_245 => ?_)
                  · skip
                    have c_245 : 4 ≤ yj.toInt := q_le c_245
                    exact (hWW241 _ _ _).mp (kx241 yj yc H locs ls v241_0 v241_1 v241_2 hG hS (lv_sub hl [0, 1, 2, 3, 4, 5] rfl))
                  · skip
                    have c_245 : yj.toInt < 4 := q_nle c_245
                    refine lv_aload_n hx hb dX10_holds_187 rfl (lv_at hl 4 rfl) ?_
                    obtain ⟨r_246, r_248, r_250, r_252, r_254, r_256, r_258, r_260, r_262, r_264, r_266, r_268, r_270, r_272, r_274, r_276, r_278, r_280, r_282, r_284, r_286, r_288, v_290, r_291, at_293, h_247, h_249, h_251, h_253, h_255, h_257, h_259, h_261, h_263, h_265, h_267, h_269, h_271, h_273, h_275, h_277, h_279, h_281, h_283, h_285, h_287, h_289, h_292⟩ := mF_o40 hG k_a0
                    refine va_get (D := D) (ci := 9) (v := .ref r_268) (C := RX10) (T := TX10) (N := 36) hx hb hts in10 hown hK (va_one at_293) 0 rfl rfl 16 (by decide) (hts (.fieldLink RX10 44 "RiverModelModel" "seen" "[I") (List.mem_of_getElem? (i := 20) rfl)) (fun _ h9 => h9) rfl dX10_holds_188 ?_
                    refine lv_bipush (v := 96) hx hb dX10_holds_191 (by decide) ?_
                    refine lv_iload hx hb dX10_holds_193 (lv_at hl 0 rfl) ?_
                    refine lv_imul hx hb dX10_holds_195 ?_
                    refine lv_topi (fun x_294 e_295 => ?_)
                    have i_x_294 : x_294.toInt = 96 * yj.toInt := by rw [e_295]; exact (q_mul (by rw [show (96 : Int32).toInt = 96 by decide]; omega) (by rw [show (96 : Int32).toInt = 96 by decide]; omega)).trans (by rw [show (96 : Int32).toInt = 96 by decide])
                    refine lv_iload hx hb dX10_holds_196 (lv_at hl 1 rfl) ?_
                    refine lv_pc (pc2 := 198) rfl ?_
                    refine lv_iadd hx hb dX10_holds_198 ?_
                    refine lv_topi (fun x_296 e_297 => ?_)
                    have i_x_296 : x_296.toInt = x_294.toInt + yh.toInt := by rw [e_297]; exact (q_add (by omega) (by omega)).trans (by rfl)
                    have at_298 := mF_o52 hG h_269
                    have b_299 : vp_in x_296 384 := (q_in (by omega) (by omega))
                    refine va_iald hx hb hK (va_one at_298) 0 0 rfl rfl b_299 dX10_holds_199 ?_
                    refine lv_topi (fun x_300 e_301 => ?_)
                    have w_x_300 : x_300 = rN (x_296.toInt).toNat := by rw [e_301]; exact congrArg (fun q : Int => rN q.toNat) (show x_296.toInt = x_296.toInt by omega)
                    have i_x_300 : x_300.toInt = (rN (x_296.toInt).toNat).toInt := by rw [w_x_300]
                    refine lv_istore (lv' := [(6, .int x_300), (5, .int yj), (4, .int yh), (3, .int yc), (2, .int r_111), (0, .ref a0), (1, .int a1)]) hx hb dX10_holds_200 hl (by decide) rfl (fun ls hl => ?_)
                    refine lv_iload hx hb dX10_holds_202 (lv_at hl 0 rfl) ?_
                    refine lv_if_ge (tgt := 211) hx hb dX10_holds_204 (by decide) (fun c_302 => ?_) (fun c_302 => ?_)
                    · skip
                      have c_302 : 0 ≤ x_300.toInt := q_le c_302
                      refine lv_aload_n hx hb dX10_holds_211 rfl (lv_at hl 5 rfl) ?_
                      refine lv_iload hx hb dX10_holds_212 (lv_at hl 1 rfl) ?_
                      refine ty_calll (W.runV (As := [.int yj]) (rest := []) ⟨hx, hb, hml, hown, hts⟩ (m_X10_reading l D t cI cL cC gC gE gW gA gT gI gS gM K_53 F_54 S_55 n1 gH_239 gJ_121 ge gk gf gs gg gr RN gb rV rN a0 yj  uq (by omega) (by omega) k_a0) (cwV 1 hts gu_X10_holds_X10_reading_251 rfl rfl rfl (by decide +kernel) ⟨Nat.le_of_ble_eq_true rfl, Nat.le_of_ble_eq_true rfl⟩) (tP_V hG hE at_293 rfl) rfl rfl hl.1 rfl (lv_room (Nat.le_of_ble_eq_true rfl)) dX10_holds_214 ⟨Nat.le_of_ble_eq_true rfl, Nat.le_of_ble_eq_true rfl⟩) hS (fun k h => by simp [wr0] at h) (fun z_303 H locs hp_304 hG hS o_305 => ?_)
                      have at_293 := va_at.keptC at_293 o_305 k_a0 rfl
                      have at_298 := va_at.keptC at_298 o_305 h_269 rfl
                      refine lv_pc (pc2 := 217) rfl ?_
                      refine lv_iload hx hb dX10_holds_217 (lv_at hl 0 rfl) ?_
                      refine lv_i2l (v := x_300.toInt64) hx hb dX10_holds_219 rfl ?_
                      refine lv_lsub hx hb dX10_holds_220 ?_
                      refine lv_topl (fun z_307 e_308 => ?_)
                      refine lv_lstore (lv' := [(7, .long z_307), (6, .int x_300), (5, .int yj), (4, .int yh), (3, .int yc), (2, .int r_111), (0, .ref a0), (1, .int a1)]) hx hb dX10_holds_221 hl (by decide) rfl (fun ls hl => ?_)
                      refine lv_iload_n hx hb dX10_holds_223 rfl (lv_at hl 4 rfl) ?_
                      refine lv_if_eq (tgt := 250) hx hb dX10_holds_224 (by decide) (fun c_309 => ?_) (fun c_309 => ?_)
                      · skip
                        have c_309 : yc.toInt = 0 := q_eq c_309
                        refine lv_iconst (v := 0) hx hb dX10_holds_250 (by decide) ?_
                        refine lv_istore_n (lv' := [(3, .int 0), (7, .long z_307), (6, .int x_300), (5, .int yj), (4, .int yh), (2, .int r_111), (0, .ref a0), (1, .int a1)]) hx hb dX10_holds_251 rfl hl (by decide) rfl (fun ls hl => ?_)
                        refine lv_pc (pc2 := 252) rfl ?_
                        obtain ⟨x_310, e_311⟩ : ∃ y : Int32, y = yj + Int32.ofInt 1 := ⟨_, rfl⟩
                        have i_x_310 : x_310.toInt = yj.toInt + 1 := by rw [e_311, show Int32.ofInt 1 = 1 by decide]; exact (q_add (by rw [show (1 : Int32).toInt = 1 by decide]; omega) (by rw [show (1 : Int32).toInt = 1 by decide]; omega)).trans (by rw [show (1 : Int32).toInt = 1 by decide])
                        refine lv_iinc (v := x_310) (lv' := [(5, .int x_310), (3, .int 0), (7, .long z_307), (6, .int x_300), (4, .int yh), (2, .int r_111), (0, .ref a0), (1, .int a1)]) hx hb dX10_holds_252 hl (k := 3) rfl e_311.symm (by decide) rfl (fun ls hl => ?_)
                        refine lv_goto (tgt := 181) hx hb dX10_holds_255 (by decide) ?_
                        exact (hWW241 _ _ _).mp (ih241 x_310 0 H locs ls (by omega) (by omega) (by omega) (Or.inl rfl) hG hS (lv_sub hl [0, 4, 1, 5, 6, 7] rfl))
                      · skip
                        have c_309 : yc.toInt ≠ 0 := q_ne c_309
                        refine lv_lload hx hb dX10_holds_227 (lv_at hl 0 rfl) ?_
                        refine lv_aload_n hx hb dX10_holds_229 rfl (lv_at hl 6 rfl) ?_
                        refine va_get (D := D) (ci := 9) (v := .int gE) (C := RX10) (T := TX10) (N := 36) hx hb hts in10 hown hK (va_one at_293) 0 rfl rfl 17 (by decide) (hts (.fieldLink RX10 258 "RiverModelModel" "ends" "I") (List.mem_of_getElem? (i := 24) rfl)) (fun _ h9 => h9) rfl dX10_holds_230 ?_
                        refine lv_ineg hx hb dX10_holds_233 ?_
                        refine lv_topi (fun x_312 e_313 => ?_)
                        refine lv_i2l (v := x_312.toInt64) hx hb dX10_holds_234 rfl ?_
                        refine lv_aload_n hx hb dX10_holds_235 rfl (lv_at hl 6 rfl) ?_
                        refine lv_pc (pc2 := 236) rfl ?_
                        refine va_get (D := D) (ci := 9) (v := .int gE) (C := RX10) (T := TX10) (N := 36) hx hb hts in10 hown hK (va_one at_293) 0 rfl rfl 17 (by decide) (hts (.fieldLink RX10 258 "RiverModelModel" "ends" "I") (List.mem_of_getElem? (i := 24) rfl)) (fun _ h9 => h9) rfl dX10_holds_236 ?_
                        refine lv_i2l (v := gE.toInt64) hx hb dX10_holds_239 rfl ?_
                        refine ty_calli (W.runS (As := [.long z_307, .long x_312.toInt64, .long gE.toInt64]) (rest := []) ⟨hx, hb, hml, hown, hts⟩ (m_X10_in l D t cI cL cC gC gE gW gA gT gI gS gM K_53 F_54 S_55 n1 gH_239 gJ_121 ge gk gf gs gg gr RN gb rV rN z_307 x_312.toInt64 gE.toInt64 z_307.toInt x_312.toInt gE.toInt uq rfl (q_i2l _) (q_i2l _) ) (va_cwS 3 hts gu_X10_holds_X10_in_85 rfl rfl rfl (by decide +kernel) ⟨Nat.le_of_ble_eq_true rfl, Nat.le_of_ble_eq_true rfl⟩) (tP_S hG hE) rfl rfl hl.1 rfl (lv_room (Nat.le_of_ble_eq_true rfl)) dX10_holds_240 ⟨Nat.le_of_ble_eq_true rfl, Nat.le_of_ble_eq_true rfl⟩) hS (fun k h => by simp [wr0] at h) (fun r_314 H locs hp_315 hG hS o_316 => ?_)
                        have at_293 := va_at.keptC at_293 o_316 k_a0 rfl
                        have at_298 := va_at.keptC at_298 o_316 h_269 rfl
                        have hp_315 : (r_314 = 1 ∧ x_312.toInt ≤ z_307.toInt ∧ z_307.toInt ≤ gE.toInt) ∨ (r_314 = 0 ∧ (z_307.toInt < x_312.toInt ∨ gE.toInt < z_307.toInt)) := hp_315
                        rcases hp_315 with ⟨rfl, p_318, p_319⟩ | ⟨rfl, p_320⟩
                        · skip
                          refine lv_if_eq (tgt := 250) hx hb dX10_holds_243 (by decide) (fun q => absurd q (by decide)) (fun _ => ?_)
                          refine lv_iconst (v := 1) hx hb dX10_holds_246 (by decide) ?_
                          refine lv_goto (tgt := 251) hx hb dX10_holds_247 (by decide) ?_
                          refine lv_istore_n (lv' := [(3, .int 1), (7, .long z_307), (6, .int x_300), (5, .int yj), (4, .int yh), (2, .int r_111), (0, .ref a0), (1, .int a1)]) hx hb dX10_holds_251 rfl hl (by decide) rfl (fun ls hl => ?_)
                          obtain ⟨x_321, e_322⟩ : ∃ y : Int32, y = yj + Int32.ofInt 1 := ⟨_, rfl⟩
                          have i_x_321 : x_321.toInt = yj.toInt + 1 := by rw [e_322, show Int32.ofInt 1 = 1 by decide]; exact (q_add (by rw [show (1 : Int32).toInt = 1 by decide]; omega) (by rw [show (1 : Int32).toInt = 1 by decide]; omega)).trans (by rw [show (1 : Int32).toInt = 1 by decide])
                          refine lv_iinc (v := x_321) (lv' := [(5, .int x_321), (3, .int 1), (7, .long z_307), (6, .int x_300), (4, .int yh), (2, .int r_111), (0, .ref a0), (1, .int a1)]) hx hb dX10_holds_252 hl (k := 3) rfl e_322.symm (by decide) rfl (fun ls hl => ?_)
                          refine lv_pc (pc2 := 255) rfl ?_
                          refine lv_goto (tgt := 181) hx hb dX10_holds_255 (by decide) ?_
                          exact (hWW241 _ _ _).mp (ih241 x_321 1 H locs ls (by omega) (by omega) (by omega) (Or.inr rfl) hG hS (lv_sub hl [0, 4, 1, 5, 6, 7] rfl))
                        · skip
                          refine lv_if_eq (tgt := 250) hx hb dX10_holds_243 (by decide) (fun _ => ?_) (fun q => absurd (by decide) q)
                          refine lv_iconst (v := 0) hx hb dX10_holds_250 (by decide) ?_
                          refine lv_istore_n (lv' := [(3, .int 0), (7, .long z_307), (6, .int x_300), (5, .int yj), (4, .int yh), (2, .int r_111), (0, .ref a0), (1, .int a1)]) hx hb dX10_holds_251 rfl hl (by decide) rfl (fun ls hl => ?_)
                          obtain ⟨x_323, e_324⟩ : ∃ y : Int32, y = yj + Int32.ofInt 1 := ⟨_, rfl⟩
                          have i_x_323 : x_323.toInt = yj.toInt + 1 := by rw [e_324, show Int32.ofInt 1 = 1 by decide]; exact (q_add (by rw [show (1 : Int32).toInt = 1 by decide]; omega) (by rw [show (1 : Int32).toInt = 1 by decide]; omega)).trans (by rw [show (1 : Int32).toInt = 1 by decide])
                          refine lv_iinc (v := x_323) (lv' := [(5, .int x_323), (3, .int 0), (7, .long z_307), (6, .int x_300), (4, .int yh), (2, .int r_111), (0, .ref a0), (1, .int a1)]) hx hb dX10_holds_252 hl (k := 3) rfl e_324.symm (by decide) rfl (fun ls hl => ?_)
                          refine lv_goto (tgt := 181) hx hb dX10_holds_255 (by decide) ?_
                          exact (hWW241 _ _ _).mp (ih241 x_323 0 H locs ls (by omega) (by omega) (by omega) (Or.inl rfl) hG hS (lv_sub hl [0, 4, 1, 5, 6, 7] rfl))
                    · skip
                      have c_302 : x_300.toInt < 0 := q_nle c_302
                      refine lv_lconst (v := 0) hx hb dX10_holds_207 (by decide) ?_
                      refine lv_goto (tgt := 221) hx hb dX10_holds_208 (by decide) ?_
                      refine lv_pc (pc2 := 221) rfl ?_
                      refine lv_lstore (lv' := [(7, .long 0), (6, .int x_300), (5, .int yj), (4, .int yh), (3, .int yc), (2, .int r_111), (0, .ref a0), (1, .int a1)]) hx hb dX10_holds_221 hl (by decide) rfl (fun ls hl => ?_)
                      refine lv_iload_n hx hb dX10_holds_223 rfl (lv_at hl 4 rfl) ?_
                      refine lv_if_eq (tgt := 250) hx hb dX10_holds_224 (by decide) (fun c_325 => ?_) (fun c_325 => ?_)
                      · skip
                        have c_325 : yc.toInt = 0 := q_eq c_325
                        refine lv_iconst (v := 0) hx hb dX10_holds_250 (by decide) ?_
                        refine lv_istore_n (lv' := [(3, .int 0), (7, .long 0), (6, .int x_300), (5, .int yj), (4, .int yh), (2, .int r_111), (0, .ref a0), (1, .int a1)]) hx hb dX10_holds_251 rfl hl (by decide) rfl (fun ls hl => ?_)
                        obtain ⟨x_326, e_327⟩ : ∃ y : Int32, y = yj + Int32.ofInt 1 := ⟨_, rfl⟩
                        have i_x_326 : x_326.toInt = yj.toInt + 1 := by rw [e_327, show Int32.ofInt 1 = 1 by decide]; exact (q_add (by rw [show (1 : Int32).toInt = 1 by decide]; omega) (by rw [show (1 : Int32).toInt = 1 by decide]; omega)).trans (by rw [show (1 : Int32).toInt = 1 by decide])
                        refine lv_iinc (v := x_326) (lv' := [(5, .int x_326), (3, .int 0), (7, .long 0), (6, .int x_300), (4, .int yh), (2, .int r_111), (0, .ref a0), (1, .int a1)]) hx hb dX10_holds_252 hl (k := 3) rfl e_327.symm (by decide) rfl (fun ls hl => ?_)
                        refine lv_goto (tgt := 181) hx hb dX10_holds_255 (by decide) ?_
                        exact (hWW241 _ _ _).mp (ih241 x_326 0 H locs ls (by omega) (by omega) (by omega) (Or.inl rfl) hG hS (lv_sub hl [0, 4, 1, 5, 6, 7] rfl))
                      · skip
                        have c_325 : yc.toInt ≠ 0 := q_ne c_325
                        refine lv_lload hx hb dX10_holds_227 (lv_at hl 0 rfl) ?_
                        refine lv_pc (pc2 := 229) rfl ?_
                        refine lv_aload_n hx hb dX10_holds_229 rfl (lv_at hl 6 rfl) ?_
                        refine va_get (D := D) (ci := 9) (v := .int gE) (C := RX10) (T := TX10) (N := 36) hx hb hts in10 hown hK (va_one at_293) 0 rfl rfl 17 (by decide) (hts (.fieldLink RX10 258 "RiverModelModel" "ends" "I") (List.mem_of_getElem? (i := 24) rfl)) (fun _ h9 => h9) rfl dX10_holds_230 ?_
                        refine lv_ineg hx hb dX10_holds_233 ?_
                        refine lv_topi (fun x_328 e_329 => ?_)
                        refine lv_i2l (v := x_328.toInt64) hx hb dX10_holds_234 rfl ?_
                        refine lv_aload_n hx hb dX10_holds_235 rfl (lv_at hl 6 rfl) ?_
                        refine va_get (D := D) (ci := 9) (v := .int gE) (C := RX10) (T := TX10) (N := 36) hx hb hts in10 hown hK (va_one at_293) 0 rfl rfl 17 (by decide) (hts (.fieldLink RX10 258 "RiverModelModel" "ends" "I") (List.mem_of_getElem? (i := 24) rfl)) (fun _ h9 => h9) rfl dX10_holds_236 ?_
                        refine lv_i2l (v := gE.toInt64) hx hb dX10_holds_239 rfl ?_
                        have zl_0 : (0 : Int64).toInt = 0 := by decide
                        refine ty_calli (W.runS (As := [.long 0, .long x_328.toInt64, .long gE.toInt64]) (rest := []) ⟨hx, hb, hml, hown, hts⟩ (m_X10_in l D t cI cL cC gC gE gW gA gT gI gS gM K_53 F_54 S_55 n1 gH_239 gJ_121 ge gk gf gs gg gr RN gb rV rN 0 x_328.toInt64 gE.toInt64 0 x_328.toInt gE.toInt uq (by decide) (q_i2l _) (q_i2l _) ) (va_cwS 3 hts gu_X10_holds_X10_in_85 rfl rfl rfl (by decide +kernel) ⟨Nat.le_of_ble_eq_true rfl, Nat.le_of_ble_eq_true rfl⟩) (tP_S hG hE) rfl rfl hl.1 rfl (lv_room (Nat.le_of_ble_eq_true rfl)) dX10_holds_240 ⟨Nat.le_of_ble_eq_true rfl, Nat.le_of_ble_eq_true rfl⟩) hS (fun k h => by simp [wr0] at h) (fun r_330 H locs hp_331 hG hS o_332 => ?_)
                        have at_293 := va_at.keptC at_293 o_332 k_a0 rfl
                        have at_298 := va_at.keptC at_298 o_332 h_269 rfl
                        have hp_331 : (r_330 = 1 ∧ x_328.toInt ≤ 0 ∧ 0 ≤ gE.toInt) ∨ (r_330 = 0 ∧ (0 < x_328.toInt ∨ gE.toInt < 0)) := hp_331
                        rcases hp_331 with ⟨rfl, p_334, p_335⟩ | ⟨rfl, p_336⟩
                        · skip
                          refine lv_pc (pc2 := 243) rfl ?_
                          refine lv_if_eq (tgt := 250) hx hb dX10_holds_243 (by decide) (fun q => absurd q (by decide)) (fun _ => ?_)
                          refine lv_iconst (v := 1) hx hb dX10_holds_246 (by decide) ?_
                          refine lv_goto (tgt := 251) hx hb dX10_holds_247 (by decide) ?_
                          refine lv_istore_n (lv' := [(3, .int 1), (7, .long 0), (6, .int x_300), (5, .int yj), (4, .int yh), (2, .int r_111), (0, .ref a0), (1, .int a1)]) hx hb dX10_holds_251 rfl hl (by decide) rfl (fun ls hl => ?_)
                          obtain ⟨x_337, e_338⟩ : ∃ y : Int32, y = yj + Int32.ofInt 1 := ⟨_, rfl⟩
                          have i_x_337 : x_337.toInt = yj.toInt + 1 := by rw [e_338, show Int32.ofInt 1 = 1 by decide]; exact (q_add (by rw [show (1 : Int32).toInt = 1 by decide]; omega) (by rw [show (1 : Int32).toInt = 1 by decide]; omega)).trans (by rw [show (1 : Int32).toInt = 1 by decide])
                          refine lv_iinc (v := x_337) (lv' := [(5, .int x_337), (3, .int 1), (7, .long 0), (6, .int x_300), (4, .int yh), (2, .int r_111), (0, .ref a0), (1, .int a1)]) hx hb dX10_holds_252 hl (k := 3) rfl e_338.symm (by decide) rfl (fun ls hl => ?_)
                          refine lv_goto (tgt := 181) hx hb dX10_holds_255 (by decide) ?_
                          exact (hWW241 _ _ _).mp (ih241 x_337 1 H locs ls (by omega) (by omega) (by omega) (Or.inr rfl) hG hS (lv_sub hl [0, 4, 1, 5, 6, 7] rfl))
                        · skip
                          refine lv_if_eq (tgt := 250) hx hb dX10_holds_243 (by decide) (fun _ => ?_) (fun q => absurd (by decide) q)
                          refine lv_iconst (v := 0) hx hb dX10_holds_250 (by decide) ?_
                          refine lv_pc (pc2 := 251) rfl ?_
                          refine lv_istore_n (lv' := [(3, .int 0), (7, .long 0), (6, .int x_300), (5, .int yj), (4, .int yh), (2, .int r_111), (0, .ref a0), (1, .int a1)]) hx hb dX10_holds_251 rfl hl (by decide) rfl (fun ls hl => ?_)
                          obtain ⟨x_339, e_340⟩ : ∃ y : Int32, y = yj + Int32.ofInt 1 := ⟨_, rfl⟩
                          have i_x_339 : x_339.toInt = yj.toInt + 1 := by rw [e_340, show Int32.ofInt 1 = 1 by decide]; exact (q_add (by rw [show (1 : Int32).toInt = 1 by decide]; omega) (by rw [show (1 : Int32).toInt = 1 by decide]; omega)).trans (by rw [show (1 : Int32).toInt = 1 by decide])
                          refine lv_iinc (v := x_339) (lv' := [(5, .int x_339), (3, .int 0), (7, .long 0), (6, .int x_300), (4, .int yh), (2, .int r_111), (0, .ref a0), (1, .int a1)]) hx hb dX10_holds_252 hl (k := 3) rfl e_340.symm (by decide) rfl (fun ls hl => ?_)
                          refine lv_goto (tgt := 181) hx hb dX10_holds_255 (by decide) ?_
                          exact (hWW241 _ _ _).mp (ih241 x_339 0 H locs ls (by omega) (by omega) (by omega) (Or.inl rfl) hG hS (lv_sub hl [0, 4, 1, 5, 6, 7] rfl))
              exact lp241 (4 - (0 : Int32).toInt : Int).toNat 0 yb H locs ls (by omega) (by omega) (by omega) v129_2 hG hS (lv_sub hl [0, 1, 2, 3, 4, 5] rfl)
      exact lp129 (96 - (0 : Int32).toInt : Int).toNat 0 1 gH_127 H locs ls (by omega) (by omega) (by omega) (Or.inr rfl) (by omega) hG hS (lv_sub hl [0, 1, 2, 3, 4] rfl)
    have lp62 : ∀ (kk62 : Nat) (yi : Int32) (H1 : Heap) (locs1 : List Loc) (ls1 : Array Slot), gI.toInt - yi.toInt ≤ (kk62 : Int) → (0 ≤ yi.toInt) → (yi.toInt ≤ gI.toInt) → (welM K_53 n1 40 yi.toInt) → tG D (mF cI cL cC gC gE gW gA gT gI gS gM K_53 F_54 S_55 n1 gH gJ ge gk gf gs gg gr RN gb rV rN) t H1 → tF t wHo s.heap H1 locs1 → lv_has ls1 9 [(2, .int yi), (0, .ref a0), (1, .int a1)] → WW62 H1 locs1 (F0 m 82 ls1 []) := by
      intro kk62
      induction kk62 with
      | zero =>
        intro yi H locs ls hk62 v62_0 v62_1 v62_2 hG hS hl
        refine (hWW62 _ _ _).mpr ?_
        refine lv_iload_n hx hb dX10_holds_82 rfl (lv_at hl 0 rfl) ?_
        refine lv_aload_n hx hb dX10_holds_83 rfl (lv_at hl 1 rfl) ?_
        obtain ⟨r_341, r_343, r_345, r_347, r_349, r_351, r_353, r_355, r_357, r_359, r_361, r_363, r_365, r_367, r_369, r_371, r_373, r_375, r_377, r_379, r_381, r_383, v_385, r_386, at_388, h_342, h_344, h_346, h_348, h_350, h_352, h_354, h_356, h_358, h_360, h_362, h_364, h_366, h_368, h_370, h_372, h_374, h_376, h_378, h_380, h_382, h_384, h_387⟩ := mF_o40 hG k_a0
        refine va_get (D := D) (ci := 9) (v := .int gI) (C := RX10) (T := TX10) (N := 36) hx hb hts in10 hown hK (va_one at_388) 0 rfl rfl 3 (by decide) (hts (.fieldLink RX10 163 "RiverModelModel" "items" "I") (List.mem_of_getElem? (i := 27) rfl)) (fun _ h9 => h9) rfl dX10_holds_84 ?_
        refine lv_icmp_ge (tgt := 142) hx hb dX10_holds_87 (by decide) (fun c_389 => ?_) (fun c_389 => ?_)
        · skip
          have c_389 : gI.toInt ≤ yi.toInt := q_le c_389
          exact (hWW62 _ _ _).mp (kx62 yi H locs ls v62_0 v62_1 v62_2 (by omega) hG hS (lv_sub hl [0, 1, 2] rfl))
        · skip
          have c_389 : yi.toInt < gI.toInt := q_nle c_389
          exfalso; omega
      | succ kk62 ih62 =>
        intro yi H locs ls hk62 v62_0 v62_1 v62_2 hG hS hl
        refine (hWW62 _ _ _).mpr ?_
        refine lv_iload_n hx hb dX10_holds_82 rfl (lv_at hl 0 rfl) ?_
        refine lv_pc (pc2 := 83) rfl ?_
        refine lv_aload_n hx hb dX10_holds_83 rfl (lv_at hl 1 rfl) ?_
        obtain ⟨r_390, r_392, r_394, r_396, r_398, r_400, r_402, r_404, r_406, r_408, r_410, r_412, r_414, r_416, r_418, r_420, r_422, r_424, r_426, r_428, r_430, r_432, v_434, r_435, at_437, h_391, h_393, h_395, h_397, h_399, h_401, h_403, h_405, h_407, h_409, h_411, h_413, h_415, h_417, h_419, h_421, h_423, h_425, h_427, h_429, h_431, h_433, h_436⟩ := mF_o40 hG k_a0
        refine va_get (D := D) (ci := 9) (v := .int gI) (C := RX10) (T := TX10) (N := 36) hx hb hts in10 hown hK (va_one at_437) 0 rfl rfl 3 (by decide) (hts (.fieldLink RX10 163 "RiverModelModel" "items" "I") (List.mem_of_getElem? (i := 27) rfl)) (fun _ h9 => h9) rfl dX10_holds_84 ?_
        refine lv_icmp_ge (tgt := 142) hx hb dX10_holds_87 (by decide) (fun c_438 => ?_) (fun c_438 => ?_)
        · skip
          have c_438 : gI.toInt ≤ yi.toInt := q_le c_438
          exact (hWW62 _ _ _).mp (kx62 yi H locs ls v62_0 v62_1 v62_2 (by omega) hG hS (lv_sub hl [0, 1, 2] rfl))
        · skip
          have c_438 : yi.toInt < gI.toInt := q_nle c_438
          refine lv_iconst (v := 3) hx hb dX10_holds_90 (by decide) ?_
          refine lv_bipush (v := 40) hx hb dX10_holds_91 (by decide) ?_
          refine lv_iload_n hx hb dX10_holds_93 rfl (lv_at hl 0 rfl) ?_
          refine lv_iadd hx hb dX10_holds_94 ?_
          refine lv_topi (fun x_439 e_440 => ?_)
          have i_x_439 : x_439.toInt = 40 + yi.toInt := by rw [e_440]; exact (q_add (by rw [show (40 : Int32).toInt = 40 by decide]; omega) (by rw [show (40 : Int32).toInt = 40 by decide]; omega)).trans (by rw [show (40 : Int32).toInt = 40 by decide])
          refine lv_imul hx hb dX10_holds_95 ?_
          refine lv_topi (fun x_441 e_442 => ?_)
          have i_x_441 : x_441.toInt = 3 * x_439.toInt := by rw [e_442]; exact (q_mul (by rw [show (3 : Int32).toInt = 3 by decide]; omega) (by rw [show (3 : Int32).toInt = 3 by decide]; omega)).trans (by rw [show (3 : Int32).toInt = 3 by decide])
          refine lv_pc (pc2 := 96) rfl ?_
          refine lv_istore_n (lv' := [(3, .int x_441), (2, .int yi), (0, .ref a0), (1, .int a1)]) hx hb dX10_holds_96 rfl hl (by decide) rfl (fun ls hl => ?_)
          refine lv_aload_n hx hb dX10_holds_97 rfl (lv_at hl 2 rfl) ?_
          refine va_get (D := D) (ci := 9) (v := .ref r_392) (C := RX10) (T := TX10) (N := 36) hx hb hts in10 hown hK (va_one at_437) 0 rfl rfl 4 (by decide) (hts (.fieldLink RX10 13 "RiverModelModel" "kind" "[I") (List.mem_of_getElem? (i := 28) rfl)) (fun _ h9 => h9) rfl dX10_holds_98 ?_
          refine lv_bipush (v := 40) hx hb dX10_holds_101 (by decide) ?_
          refine lv_iload_n hx hb dX10_holds_103 rfl (lv_at hl 1 rfl) ?_
          refine lv_iadd hx hb dX10_holds_104 ?_
          refine lv_topi (fun x_443 e_444 => ?_)
          have i_x_443 : x_443.toInt = 40 + yi.toInt := by rw [e_444]; exact (q_add (by rw [show (40 : Int32).toInt = 40 by decide]; omega) (by rw [show (40 : Int32).toInt = 40 by decide]; omega)).trans (by rw [show (40 : Int32).toInt = 40 by decide])
          have at_445 := mF_o42 hG h_393
          have b_446 : vp_in x_443 120 := (q_in (by omega) (by omega))
          refine va_iald hx hb hK (va_one at_445) 0 0 rfl rfl b_446 dX10_holds_105 ?_
          refine lv_topi (fun x_447 e_448 => ?_)
          have w_x_447 : x_447 = K_53 (40 + yi.toInt).toNat := by rw [e_448]; exact congrArg (fun q : Int => K_53 q.toNat) (show x_443.toInt = 40 + yi.toInt by omega)
          have i_x_447 : x_447.toInt = (K_53 (40 + yi.toInt).toNat).toInt := by rw [w_x_447]
          refine lv_aload_n hx hb dX10_holds_106 rfl (lv_at hl 2 rfl) ?_
          refine lv_pc (pc2 := 107) rfl ?_
          refine va_get (D := D) (ci := 9) (v := .ref r_398) (C := RX10) (T := TX10) (N := 36) hx hb hts in10 hown hK (va_one at_437) 0 rfl rfl 7 (by decide) (hts (.fieldLink RX10 22 "RiverModelModel" "number" "[I") (List.mem_of_getElem? (i := 29) rfl)) (fun _ h9 => h9) rfl dX10_holds_107 ?_
          refine lv_iload_n hx hb dX10_holds_110 rfl (lv_at hl 0 rfl) ?_
          have at_449 := mF_o45 hG h_399
          have b_450 : vp_in x_441 360 := (q_in (by omega) (by omega))
          refine va_iald hx hb hK (va_one at_449) 0 0 rfl rfl b_450 dX10_holds_111 ?_
          refine lv_topi (fun x_451 e_452 => ?_)
          have w_x_451 : x_451 = n1 (3 * (40 + yi.toInt)).toNat := by rw [e_452]; exact congrArg (fun q : Int => n1 q.toNat) (show x_441.toInt = 3 * (40 + yi.toInt) by omega)
          have i_x_451 : x_451.toInt = (n1 (3 * (40 + yi.toInt)).toNat).toInt := by rw [w_x_451]
          refine lv_aload_n hx hb dX10_holds_112 rfl (lv_at hl 2 rfl) ?_
          refine va_get (D := D) (ci := 9) (v := .ref r_398) (C := RX10) (T := TX10) (N := 36) hx hb hts in10 hown hK (va_one at_437) 0 rfl rfl 7 (by decide) (hts (.fieldLink RX10 22 "RiverModelModel" "number" "[I") (List.mem_of_getElem? (i := 29) rfl)) (fun _ h9 => h9) rfl dX10_holds_113 ?_
          refine lv_iload_n hx hb dX10_holds_116 rfl (lv_at hl 0 rfl) ?_
          refine lv_iconst (v := 1) hx hb dX10_holds_117 (by decide) ?_
          refine lv_iadd hx hb dX10_holds_118 ?_
          refine lv_topi (fun x_453 e_454 => ?_)
          have i_x_453 : x_453.toInt = x_441.toInt + 1 := by rw [e_454]; exact (q_add (by rw [show (1 : Int32).toInt = 1 by decide]; omega) (by rw [show (1 : Int32).toInt = 1 by decide]; omega)).trans (by rw [show (1 : Int32).toInt = 1 by decide])
          refine lv_pc (pc2 := 119) rfl ?_
          have b_455 : vp_in x_453 360 := (q_in (by omega) (by omega))
          refine va_iald hx hb hK (va_one at_449) 0 0 rfl rfl b_455 dX10_holds_119 ?_
          refine lv_topi (fun x_456 e_457 => ?_)
          have w_x_456 : x_456 = n1 (3 * (40 + yi.toInt) + 1).toNat := by rw [e_457]; exact congrArg (fun q : Int => n1 q.toNat) (show x_453.toInt = 3 * (40 + yi.toInt) + 1 by omega)
          have i_x_456 : x_456.toInt = (n1 (3 * (40 + yi.toInt) + 1).toNat).toInt := by rw [w_x_456]
          refine lv_aload_n hx hb dX10_holds_120 rfl (lv_at hl 2 rfl) ?_
          refine va_get (D := D) (ci := 9) (v := .ref r_398) (C := RX10) (T := TX10) (N := 36) hx hb hts in10 hown hK (va_one at_437) 0 rfl rfl 7 (by decide) (hts (.fieldLink RX10 22 "RiverModelModel" "number" "[I") (List.mem_of_getElem? (i := 29) rfl)) (fun _ h9 => h9) rfl dX10_holds_121 ?_
          refine lv_iload_n hx hb dX10_holds_124 rfl (lv_at hl 0 rfl) ?_
          refine lv_iconst (v := 2) hx hb dX10_holds_125 (by decide) ?_
          refine lv_iadd hx hb dX10_holds_126 ?_
          refine lv_topi (fun x_458 e_459 => ?_)
          have i_x_458 : x_458.toInt = x_441.toInt + 2 := by rw [e_459]; exact (q_add (by rw [show (2 : Int32).toInt = 2 by decide]; omega) (by rw [show (2 : Int32).toInt = 2 by decide]; omega)).trans (by rw [show (2 : Int32).toInt = 2 by decide])
          have b_460 : vp_in x_458 360 := (q_in (by omega) (by omega))
          refine va_iald hx hb hK (va_one at_449) 0 0 rfl rfl b_460 dX10_holds_127 ?_
          refine lv_topi (fun x_461 e_462 => ?_)
          have w_x_461 : x_461 = n1 (3 * (40 + yi.toInt) + 2).toNat := by rw [e_462]; exact congrArg (fun q : Int => n1 q.toNat) (show x_458.toInt = 3 * (40 + yi.toInt) + 2 by omega)
          have i_x_461 : x_461.toInt = (n1 (3 * (40 + yi.toInt) + 2).toNat).toInt := by rw [w_x_461]
          refine ty_calli (W.runS (As := [.int x_447, .int x_451, .int x_456, .int x_461]) (rest := []) ⟨hx, hb, hml, hown, hts⟩ (m_X10_areWell l D t cI cL cC gC gE gW gA gT gI gS gM K_53 F_54 S_55 n1 gH gJ ge gk gf gs gg gr RN gb rV rN x_447 x_451 x_456 x_461  uq  ) (va_cwS 4 hts gu_X10_holds_X10_areWell_144 rfl rfl rfl (by decide +kernel) ⟨Nat.le_of_ble_eq_true rfl, Nat.le_of_ble_eq_true rfl⟩) (tP_S hG hE) rfl rfl hl.1 rfl (lv_room (Nat.le_of_ble_eq_true rfl)) dX10_holds_128 ⟨Nat.le_of_ble_eq_true rfl, Nat.le_of_ble_eq_true rfl⟩) hS (fun k h => by simp [wr0] at h) (fun r_463 H locs hp_464 hG hS o_465 => ?_)
          have at_437 := va_at.keptC at_437 o_465 k_a0 rfl
          have at_445 := va_at.keptC at_445 o_465 h_393 rfl
          have at_449 := va_at.keptC at_449 o_465 h_399 rfl
          have hp_464 : (r_463 = 1 ∧ weOk x_447 x_451 x_456 ∧ well x_447.toInt x_451 x_456 x_461) ∨ (r_463 = 0 ∧ ¬ well x_447.toInt x_451 x_456 x_461) := hp_464
          rcases hp_464 with ⟨rfl, p_467, p_468⟩ | ⟨rfl, p_469⟩
          · skip
            refine lv_pc (pc2 := 131) rfl ?_
            refine lv_if_ne (tgt := 136) hx hb dX10_holds_131 (by decide) (fun _ => ?_) (fun q => absurd q (by decide))
            obtain ⟨x_470, e_471⟩ : ∃ y : Int32, y = yi + Int32.ofInt 1 := ⟨_, rfl⟩
            have i_x_470 : x_470.toInt = yi.toInt + 1 := by rw [e_471, show Int32.ofInt 1 = 1 by decide]; exact (q_add (by rw [show (1 : Int32).toInt = 1 by decide]; omega) (by rw [show (1 : Int32).toInt = 1 by decide]; omega)).trans (by rw [show (1 : Int32).toInt = 1 by decide])
            refine lv_iinc (v := x_470) (lv' := [(2, .int x_470), (3, .int x_441), (0, .ref a0), (1, .int a1)]) hx hb dX10_holds_136 hl (k := 1) rfl e_471.symm (by decide) rfl (fun ls hl => ?_)
            refine lv_goto (tgt := 82) hx hb dX10_holds_139 (by decide) ?_
            exact (hWW62 _ _ _).mp (ih62 x_470 H locs ls (by omega) (by omega) (by omega) (by rw [show x_470.toInt = yi.toInt + 1 by omega]; exact welM.step v62_2 (fun q => by have := p_467.1 (by omega); omega) (fun q => by have := p_467.2 (by omega); omega)) hG hS (lv_sub hl [0, 2, 3] rfl))
          · skip
            refine lv_if_ne (tgt := 136) hx hb dX10_holds_131 (by decide) (fun q => absurd rfl q) (fun _ => ?_)
            refine lv_iconst (v := 0) hx hb dX10_holds_134 (by decide) ?_
            exact tx_zret (z := (K_53, F_54, S_55, n1, gH, gJ)) hx hb hr hlk rfl hG hS (Or.inr ⟨rfl, (by show gH = gH; omega), (show kpO K K_53 40 40 from p_57.2), (show kpO F F_54 40 40 from p_58.2), (show kpO S S_55 40 40 from p_59.2), (show kpO N n1 120 120 from v61_2)⟩) dX10_holds_135
    exact lp62 (gI.toInt - (0 : Int32).toInt : Int).toNat 0 H locs ls (by omega) (by omega) (by omega) (by rw [zi_0]; exact welM.zero) hG hS (lv_sub hl [0, 1, 2] rfl)
  have lp61 : ∀ (kk61 : Nat) (yk : Int32) (n1 : Nat → Int32) (H1 : Heap) (locs1 : List Loc) (ls1 : Array Slot), 2 - yk.toInt ≤ (kk61 : Int) → (0 ≤ yk.toInt) → (yk.toInt ≤ 2) → (kpO N n1 120 120) → tG D (mF cI cL cC gC gE gW gA gT gI gS gM K_53 F_54 S_55 n1 gH gJ ge gk gf gs gg gr RN gb rV rN) t H1 → tF t wHo s.heap H1 locs1 → lv_has ls1 9 [(2, .int yk), (0, .ref a0), (1, .int a1)] → WW61 H1 locs1 (F0 m 8 ls1 []) := by
    intro kk61
    induction kk61 with
    | zero =>
      intro yk n1 H locs ls hk61 v61_0 v61_1 v61_2 hG hS hl
      refine (hWW61 _ _ _).mpr ?_
      refine lv_iload_n hx hb dX10_holds_8 rfl (lv_at hl 0 rfl) ?_
      refine lv_iconst (v := 2) hx hb dX10_holds_9 (by decide) ?_
      refine lv_pc (pc2 := 10) rfl ?_
      refine lv_icmp_ge (tgt := 80) hx hb dX10_holds_10 (by decide) (fun c_472 => ?_) (fun c_472 => ?_)
      · skip
        have c_472 : 2 ≤ yk.toInt := q_le c_472
        exact (hWW61 _ _ _).mp (kx61 yk n1 H locs ls v61_0 v61_1 v61_2 hG hS (lv_sub hl [0, 1, 2] rfl))
      · skip
        have c_472 : yk.toInt < 2 := q_nle c_472
        exfalso; omega
    | succ kk61 ih61 =>
      intro yk n1 H locs ls hk61 v61_0 v61_1 v61_2 hG hS hl
      refine (hWW61 _ _ _).mpr ?_
      refine lv_iload_n hx hb dX10_holds_8 rfl (lv_at hl 0 rfl) ?_
      refine lv_iconst (v := 2) hx hb dX10_holds_9 (by decide) ?_
      refine lv_icmp_ge (tgt := 80) hx hb dX10_holds_10 (by decide) (fun c_473 => ?_) (fun c_473 => ?_)
      · skip
        have c_473 : 2 ≤ yk.toInt := q_le c_473
        exact (hWW61 _ _ _).mp (kx61 yk n1 H locs ls v61_0 v61_1 v61_2 hG hS (lv_sub hl [0, 1, 2] rfl))
      · skip
        have c_473 : yk.toInt < 2 := q_nle c_473
        refine lv_aload_n hx hb dX10_holds_13 rfl (lv_at hl 1 rfl) ?_
        obtain ⟨r_474, r_476, r_478, r_480, r_482, r_484, r_486, r_488, r_490, r_492, r_494, r_496, r_498, r_500, r_502, r_504, r_506, r_508, r_510, r_512, r_514, r_516, v_518, r_519, at_521, h_475, h_477, h_479, h_481, h_483, h_485, h_487, h_489, h_491, h_493, h_495, h_497, h_499, h_501, h_503, h_505, h_507, h_509, h_511, h_513, h_515, h_517, h_520⟩ := mF_o40 hG k_a0
        refine va_get (D := D) (ci := 9) (v := .ref r_506) (C := RX10) (T := TX10) (N := 36) hx hb hts in10 hown hK (va_one at_521) 0 rfl rfl 22 (by decide) (hts (.fieldLink RX10 59 "RiverModelModel" "knobMany" "[I") (List.mem_of_getElem? (i := 32) rfl)) (fun _ h9 => h9) rfl dX10_holds_14 ?_
        refine lv_iload_n hx hb dX10_holds_17 rfl (lv_at hl 0 rfl) ?_
        obtain ⟨f_522, at_523, h_524⟩ := mF_o57 hG h_507
        have b_525 : vp_in yk 2 := (q_in (by omega) (by omega))
        refine va_iald hx hb hK (va_one at_523) 0 0 rfl rfl b_525 dX10_holds_18 ?_
        refine lv_topi (fun x_526 e_527 => ?_)
        have i_x_526 := by have h := h_524 _ (q_inlt b_525); rw [← e_527] at h; exact h
        refine lv_pc (pc2 := 19) rfl ?_
        refine lv_if_le (tgt := 74) hx hb dX10_holds_19 (by decide) (fun c_528 => ?_) (fun c_528 => ?_)
        · skip
          have c_528 : x_526.toInt ≤ 0 := q_le c_528
          obtain ⟨x_529, e_530⟩ : ∃ y : Int32, y = yk + Int32.ofInt 1 := ⟨_, rfl⟩
          have i_x_529 : x_529.toInt = yk.toInt + 1 := by rw [e_530, show Int32.ofInt 1 = 1 by decide]; exact (q_add (by rw [show (1 : Int32).toInt = 1 by decide]; omega) (by rw [show (1 : Int32).toInt = 1 by decide]; omega)).trans (by rw [show (1 : Int32).toInt = 1 by decide])
          refine lv_iinc (v := x_529) (lv' := [(2, .int x_529), (0, .ref a0), (1, .int a1)]) hx hb dX10_holds_74 hl (k := 0) rfl e_530.symm (by decide) rfl (fun ls hl => ?_)
          refine lv_goto (tgt := 8) hx hb dX10_holds_77 (by decide) ?_
          exact (hWW61 _ _ _).mp (ih61 x_529 n1 H locs ls (by omega) (by omega) (by omega) v61_2 hG hS (lv_sub hl [0, 1, 2] rfl))
        · skip
          have c_528 : 0 < x_526.toInt := q_nle c_528
          refine lv_aload_n hx hb dX10_holds_22 rfl (lv_at hl 1 rfl) ?_
          refine va_get (D := D) (ci := 9) (v := .ref r_482) (C := RX10) (T := TX10) (N := 36) hx hb hts in10 hown hK (va_one at_521) 0 rfl rfl 7 (by decide) (hts (.fieldLink RX10 22 "RiverModelModel" "number" "[I") (List.mem_of_getElem? (i := 29) rfl)) (fun _ h9 => h9) rfl dX10_holds_23 ?_
          refine lv_iconst (v := 3) hx hb dX10_holds_26 (by decide) ?_
          refine lv_aload_n hx hb dX10_holds_27 rfl (lv_at hl 1 rfl) ?_
          refine va_get (D := D) (ci := 9) (v := .ref r_498) (C := RX10) (T := TX10) (N := 36) hx hb hts in10 hown hK (va_one at_521) 0 rfl rfl 18 (by decide) (hts (.fieldLink RX10 47 "RiverModelModel" "knobItem" "[I") (List.mem_of_getElem? (i := 33) rfl)) (fun _ h9 => h9) rfl dX10_holds_28 ?_
          refine lv_pc (pc2 := 31) rfl ?_
          refine lv_iload_n hx hb dX10_holds_31 rfl (lv_at hl 0 rfl) ?_
          obtain ⟨f_531, at_532, h_533⟩ := mF_o53 hG h_499
          have b_534 : vp_in yk 2 := (q_in (by omega) (by omega))
          refine va_iald hx hb hK (va_one at_532) 0 0 rfl rfl b_534 dX10_holds_32 ?_
          refine lv_topi (fun x_535 e_536 => ?_)
          have i_x_535 := by have h := h_533 _ (q_inlt b_534); rw [← e_536] at h; exact h
          refine lv_imul hx hb dX10_holds_33 ?_
          refine lv_topi (fun x_537 e_538 => ?_)
          have i_x_537 : x_537.toInt = 3 * x_535.toInt := by rw [e_538]; exact (q_mul (by rw [show (3 : Int32).toInt = 3 by decide]; omega) (by rw [show (3 : Int32).toInt = 3 by decide]; omega)).trans (by rw [show (3 : Int32).toInt = 3 by decide])
          refine lv_aload_n hx hb dX10_holds_34 rfl (lv_at hl 1 rfl) ?_
          refine va_get (D := D) (ci := 9) (v := .ref r_500) (C := RX10) (T := TX10) (N := 36) hx hb hts in10 hown hK (va_one at_521) 0 rfl rfl 19 (by decide) (hts (.fieldLink RX10 50 "RiverModelModel" "knobAt" "[I") (List.mem_of_getElem? (i := 34) rfl)) (fun _ h9 => h9) rfl dX10_holds_35 ?_
          refine lv_iload_n hx hb dX10_holds_38 rfl (lv_at hl 0 rfl) ?_
          obtain ⟨f_539, at_540, h_541⟩ := mF_o54 hG h_501
          have b_542 : vp_in yk 2 := (q_in (by omega) (by omega))
          refine va_iald hx hb hK (va_one at_540) 0 0 rfl rfl b_542 dX10_holds_39 ?_
          refine lv_topi (fun x_543 e_544 => ?_)
          have i_x_543 := by have h := h_541 _ (q_inlt b_542); rw [← e_544] at h; exact h
          refine lv_iadd hx hb dX10_holds_40 ?_
          refine lv_topi (fun x_545 e_546 => ?_)
          have i_x_545 : x_545.toInt = x_537.toInt + x_543.toInt := by rw [e_546]; exact (q_add (by omega) (by omega)).trans (by rfl)
          refine lv_pc (pc2 := 41) rfl ?_
          have at_547 := mF_o45 hG h_483
          have b_548 : vp_in x_545 360 := (q_in (by omega) (by omega))
          refine va_iald hx hb hK (va_one at_547) 0 0 rfl rfl b_548 dX10_holds_41 ?_
          refine lv_topi (fun x_549 e_550 => ?_)
          have w_x_549 : x_549 = n1 (x_545.toInt).toNat := by rw [e_550]; exact congrArg (fun q : Int => n1 q.toNat) (show x_545.toInt = x_545.toInt by omega)
          have i_x_549 : x_549.toInt = (n1 (x_545.toInt).toNat).toInt := by rw [w_x_549]
          refine lv_if_lt (tgt := 74) hx hb dX10_holds_42 (by decide) (fun c_551 => ?_) (fun c_551 => ?_)
          · skip
            have c_551 : x_549.toInt < 0 := q_lt c_551
            obtain ⟨x_552, e_553⟩ : ∃ y : Int32, y = yk + Int32.ofInt 1 := ⟨_, rfl⟩
            have i_x_552 : x_552.toInt = yk.toInt + 1 := by rw [e_553, show Int32.ofInt 1 = 1 by decide]; exact (q_add (by rw [show (1 : Int32).toInt = 1 by decide]; omega) (by rw [show (1 : Int32).toInt = 1 by decide]; omega)).trans (by rw [show (1 : Int32).toInt = 1 by decide])
            refine lv_iinc (v := x_552) (lv' := [(2, .int x_552), (0, .ref a0), (1, .int a1)]) hx hb dX10_holds_74 hl (k := 0) rfl e_553.symm (by decide) rfl (fun ls hl => ?_)
            refine lv_goto (tgt := 8) hx hb dX10_holds_77 (by decide) ?_
            exact (hWW61 _ _ _).mp (ih61 x_552 n1 H locs ls (by omega) (by omega) (by omega) v61_2 hG hS (lv_sub hl [0, 1, 2] rfl))
          · skip
            have c_551 : 0 ≤ x_549.toInt := q_nlt c_551
            refine lv_aload_n hx hb dX10_holds_45 rfl (lv_at hl 1 rfl) ?_
            refine va_get (D := D) (ci := 9) (v := .ref r_482) (C := RX10) (T := TX10) (N := 36) hx hb hts in10 hown hK (va_one at_521) 0 rfl rfl 7 (by decide) (hts (.fieldLink RX10 22 "RiverModelModel" "number" "[I") (List.mem_of_getElem? (i := 29) rfl)) (fun _ h9 => h9) rfl dX10_holds_46 ?_
            refine lv_bipush (v := 120) hx hb dX10_holds_49 (by decide) ?_
            refine lv_iconst (v := 3) hx hb dX10_holds_51 (by decide) ?_
            refine lv_pc (pc2 := 52) rfl ?_
            refine lv_aload_n hx hb dX10_holds_52 rfl (lv_at hl 1 rfl) ?_
            refine va_get (D := D) (ci := 9) (v := .ref r_498) (C := RX10) (T := TX10) (N := 36) hx hb hts in10 hown hK (va_one at_521) 0 rfl rfl 18 (by decide) (hts (.fieldLink RX10 47 "RiverModelModel" "knobItem" "[I") (List.mem_of_getElem? (i := 33) rfl)) (fun _ h9 => h9) rfl dX10_holds_53 ?_
            refine lv_iload_n hx hb dX10_holds_56 rfl (lv_at hl 0 rfl) ?_
            have b_554 : vp_in yk 2 := (q_in (by omega) (by omega))
            refine va_iald hx hb hK (va_one at_532) 0 0 rfl rfl b_554 dX10_holds_57 ?_
            refine lv_seti (y := x_535) e_536.symm ?_
            refine lv_imul hx hb dX10_holds_58 ?_
            refine lv_topi (fun x_555 e_556 => ?_)
            have i_x_555 : x_555.toInt = 3 * x_535.toInt := by rw [e_556]; exact (q_mul (by rw [show (3 : Int32).toInt = 3 by decide]; omega) (by rw [show (3 : Int32).toInt = 3 by decide]; omega)).trans (by rw [show (3 : Int32).toInt = 3 by decide])
            refine lv_iadd hx hb dX10_holds_59 ?_
            refine lv_topi (fun x_557 e_558 => ?_)
            have i_x_557 : x_557.toInt = 120 + x_555.toInt := by rw [e_558]; exact (q_add (by rw [show (120 : Int32).toInt = 120 by decide]; omega) (by rw [show (120 : Int32).toInt = 120 by decide]; omega)).trans (by rw [show (120 : Int32).toInt = 120 by decide])
            refine lv_aload_n hx hb dX10_holds_60 rfl (lv_at hl 1 rfl) ?_
            refine va_get (D := D) (ci := 9) (v := .ref r_500) (C := RX10) (T := TX10) (N := 36) hx hb hts in10 hown hK (va_one at_521) 0 rfl rfl 19 (by decide) (hts (.fieldLink RX10 50 "RiverModelModel" "knobAt" "[I") (List.mem_of_getElem? (i := 34) rfl)) (fun _ h9 => h9) rfl dX10_holds_61 ?_
            refine lv_pc (pc2 := 64) rfl ?_
            refine lv_iload_n hx hb dX10_holds_64 rfl (lv_at hl 0 rfl) ?_
            have b_559 : vp_in yk 2 := (q_in (by omega) (by omega))
            refine va_iald hx hb hK (va_one at_540) 0 0 rfl rfl b_559 dX10_holds_65 ?_
            refine lv_seti (y := x_543) e_544.symm ?_
            refine lv_iadd hx hb dX10_holds_66 ?_
            refine lv_topi (fun x_560 e_561 => ?_)
            have i_x_560 : x_560.toInt = x_557.toInt + x_543.toInt := by rw [e_561]; exact (q_add (by omega) (by omega)).trans (by rfl)
            refine lv_aload_n hx hb dX10_holds_67 rfl (lv_at hl 1 rfl) ?_
            refine lv_iload_n hx hb dX10_holds_68 rfl (lv_at hl 0 rfl) ?_
            refine lv_iload_n hx hb dX10_holds_69 rfl (lv_at hl 2 rfl) ?_
            refine ty_calli (W.runV (As := [.int yk, .int a1]) (rest := [.int x_560, .ref r_482]) ⟨hx, hb, hml, hown, hts⟩ (m_X10_knobValue l D t cI cL cC gC gE gW gA gT gI gS gM K_53 F_54 S_55 n1 gH gJ ge gk gf gs gg gr RN gb rV rN a0 yk a1  uq (by omega) (by omega) k_a0) (cwV 2 hts gu_X10_holds_X10_knobValue_268 rfl rfl rfl (by decide +kernel) ⟨Nat.le_of_ble_eq_true rfl, Nat.le_of_ble_eq_true rfl⟩) (tP_V hG hE at_521 rfl) rfl rfl hl.1 rfl (lv_room (Nat.le_of_ble_eq_true rfl)) dX10_holds_70 ⟨Nat.le_of_ble_eq_true rfl, Nat.le_of_ble_eq_true rfl⟩) hS (fun k h => by simp [wr0] at h) (fun r_562 H locs hp_563 hG hS o_564 => ?_)
            have at_521 := va_at.keptC at_521 o_564 k_a0 rfl
            have at_523 := va_at.keptC at_523 o_564 h_507 rfl
            have at_532 := va_at.keptC at_532 o_564 h_499 rfl
            have at_540 := va_at.keptC at_540 o_564 h_501 rfl
            have at_547 := va_at.keptC at_547 o_564 h_483 rfl
            have b_566 : vp_in x_560 360 := (q_in (by omega) (by omega))
            obtain ⟨q_567, eq_567⟩ : ∃ q : Nat → Int32, q = upd n1 x_560.toNatClampNeg r_562 := ⟨_, rfl⟩
            refine ty_iast (F2 := (mF cI cL cC gC gE gW gA gT gI gS gM K_53 F_54 S_55 q_567 gH gJ ge gk gf gs gg gr RN gb rV rN)) hx hb hK hG hS 0 at_547 (by rw [h_483]; rfl) rfl b_566 (by rw [h_483]; show _ = _; rw [eq_567]) (fun hG b hb h0 => by obtain ⟨e, g1, g2⟩ := hG b h0; exact ⟨e, g1, mF_N (fun h => hb (uq b r_482 (h.trans h_483.symm) h0)) g2⟩) dX10_holds_73 (fun H locs hG hS at_568 o_569 => ?_)
            have at_521 := va_at.keptK at_521 o_569 h_483 k_a0 rfl
            have at_523 := va_at.keptK at_523 o_569 h_483 h_507 rfl
            have at_532 := va_at.keptK at_532 o_569 h_483 h_499 rfl
            have at_540 := va_at.keptK at_540 o_569 h_483 h_501 rfl
            refine lv_pc (pc2 := 74) rfl ?_
            obtain ⟨x_570, e_571⟩ : ∃ y : Int32, y = yk + Int32.ofInt 1 := ⟨_, rfl⟩
            have i_x_570 : x_570.toInt = yk.toInt + 1 := by rw [e_571, show Int32.ofInt 1 = 1 by decide]; exact (q_add (by rw [show (1 : Int32).toInt = 1 by decide]; omega) (by rw [show (1 : Int32).toInt = 1 by decide]; omega)).trans (by rw [show (1 : Int32).toInt = 1 by decide])
            refine lv_iinc (v := x_570) (lv' := [(2, .int x_570), (0, .ref a0), (1, .int a1)]) hx hb dX10_holds_74 hl (k := 0) rfl e_571.symm (by decide) rfl (fun ls hl => ?_)
            refine lv_goto (tgt := 8) hx hb dX10_holds_77 (by decide) ?_
            exact (hWW61 _ _ _).mp (ih61 x_570 q_567 H locs ls (by omega) (by omega) (by omega) (kpO.upd v61_2 (by decide) (i := x_560.toInt) (by omega) eq_567) hG hS (lv_sub hl [0, 1, 2] rfl))
  exact lp61 (2 - (0 : Int32).toInt : Int).toNat 0 N_56 H locs ls (by omega) (by omega) (by omega) p_60.2 hG hS (lv_sub hl [0, 1, 2] rfl)
