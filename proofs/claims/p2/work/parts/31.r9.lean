theorem dX10_holds_0 : decode cX10_holds 0 = .ok (.aload_n 0, 1) := by decide +kernel
theorem dX10_holds_1 : decode cX10_holds 1 = .ok (.iconst 1, 1) := by decide +kernel
theorem dX10_holds_2 : decode cX10_holds 2 = .ok (.iconst 0, 1) := by decide +kernel
theorem dX10_holds_3 : decode cX10_holds 3 = .ok (.invokevirtual 170, 3) := by decide +kernel
theorem dX10_holds_6 : decode cX10_holds 6 = .ok (.iconst 0, 1) := by decide +kernel
theorem dX10_holds_7 : decode cX10_holds 7 = .ok (.istore_n 2, 1) := by decide +kernel
theorem dX10_holds_8 : decode cX10_holds 8 = .ok (.iload_n 2, 1) := by decide +kernel
theorem dX10_holds_9 : decode cX10_holds 9 = .ok (.iconst 2, 1) := by decide +kernel
theorem dX10_holds_10 : decode cX10_holds 10 = .ok (.if_icmp .ge 70, 3) := by decide +kernel
theorem dX10_holds_13 : decode cX10_holds 13 = .ok (.aload_n 0, 1) := by decide +kernel
theorem dX10_holds_14 : decode cX10_holds 14 = .ok (.getfield 59, 3) := by decide +kernel
theorem dX10_holds_17 : decode cX10_holds 17 = .ok (.iload_n 2, 1) := by decide +kernel
theorem dX10_holds_18 : decode cX10_holds 18 = .ok (.iaload, 1) := by decide +kernel
theorem dX10_holds_19 : decode cX10_holds 19 = .ok (.ifCond .le 55, 3) := by decide +kernel
theorem dX10_holds_22 : decode cX10_holds 22 = .ok (.aload_n 0, 1) := by decide +kernel
theorem dX10_holds_23 : decode cX10_holds 23 = .ok (.getfield 22, 3) := by decide +kernel
theorem dX10_holds_26 : decode cX10_holds 26 = .ok (.iconst 3, 1) := by decide +kernel
theorem dX10_holds_27 : decode cX10_holds 27 = .ok (.aload_n 0, 1) := by decide +kernel
theorem dX10_holds_28 : decode cX10_holds 28 = .ok (.getfield 47, 3) := by decide +kernel
theorem dX10_holds_31 : decode cX10_holds 31 = .ok (.iload_n 2, 1) := by decide +kernel
theorem dX10_holds_32 : decode cX10_holds 32 = .ok (.iaload, 1) := by decide +kernel
theorem dX10_holds_33 : decode cX10_holds 33 = .ok (.imul, 1) := by decide +kernel
theorem dX10_holds_34 : decode cX10_holds 34 = .ok (.aload_n 0, 1) := by decide +kernel
theorem dX10_holds_35 : decode cX10_holds 35 = .ok (.getfield 50, 3) := by decide +kernel
theorem dX10_holds_38 : decode cX10_holds 38 = .ok (.iload_n 2, 1) := by decide +kernel
theorem dX10_holds_39 : decode cX10_holds 39 = .ok (.iaload, 1) := by decide +kernel
theorem dX10_holds_40 : decode cX10_holds 40 = .ok (.iadd, 1) := by decide +kernel
theorem dX10_holds_41 : decode cX10_holds 41 = .ok (.iaload, 1) := by decide +kernel
theorem dX10_holds_42 : decode cX10_holds 42 = .ok (.ifCond .lt 32, 3) := by decide +kernel
theorem dX10_holds_45 : decode cX10_holds 45 = .ok (.aload_n 0, 1) := by decide +kernel
theorem dX10_holds_46 : decode cX10_holds 46 = .ok (.getfield 22, 3) := by decide +kernel
theorem dX10_holds_49 : decode cX10_holds 49 = .ok (.bipush 120, 2) := by decide +kernel
theorem dX10_holds_51 : decode cX10_holds 51 = .ok (.iconst 3, 1) := by decide +kernel
theorem dX10_holds_52 : decode cX10_holds 52 = .ok (.aload_n 0, 1) := by decide +kernel
theorem dX10_holds_53 : decode cX10_holds 53 = .ok (.getfield 47, 3) := by decide +kernel
theorem dX10_holds_56 : decode cX10_holds 56 = .ok (.iload_n 2, 1) := by decide +kernel
theorem dX10_holds_57 : decode cX10_holds 57 = .ok (.iaload, 1) := by decide +kernel
theorem dX10_holds_58 : decode cX10_holds 58 = .ok (.imul, 1) := by decide +kernel
theorem dX10_holds_59 : decode cX10_holds 59 = .ok (.iadd, 1) := by decide +kernel
theorem dX10_holds_60 : decode cX10_holds 60 = .ok (.aload_n 0, 1) := by decide +kernel
theorem dX10_holds_61 : decode cX10_holds 61 = .ok (.getfield 50, 3) := by decide +kernel
theorem dX10_holds_64 : decode cX10_holds 64 = .ok (.iload_n 2, 1) := by decide +kernel
theorem dX10_holds_65 : decode cX10_holds 65 = .ok (.iaload, 1) := by decide +kernel
theorem dX10_holds_66 : decode cX10_holds 66 = .ok (.iadd, 1) := by decide +kernel
theorem dX10_holds_67 : decode cX10_holds 67 = .ok (.aload_n 0, 1) := by decide +kernel
theorem dX10_holds_68 : decode cX10_holds 68 = .ok (.iload_n 2, 1) := by decide +kernel
theorem dX10_holds_69 : decode cX10_holds 69 = .ok (.iload_n 1, 1) := by decide +kernel
theorem dX10_holds_70 : decode cX10_holds 70 = .ok (.invokevirtual 268, 3) := by decide +kernel
theorem dX10_holds_73 : decode cX10_holds 73 = .ok (.iastore, 1) := by decide +kernel
theorem dX10_holds_74 : decode cX10_holds 74 = .ok (.iinc 2 1, 3) := by decide +kernel
theorem dX10_holds_77 : decode cX10_holds 77 = .ok (.goto (-69), 3) := by decide +kernel
theorem dX10_holds_80 : decode cX10_holds 80 = .ok (.iconst 0, 1) := by decide +kernel
theorem dX10_holds_81 : decode cX10_holds 81 = .ok (.istore_n 2, 1) := by decide +kernel
theorem dX10_holds_82 : decode cX10_holds 82 = .ok (.iload_n 2, 1) := by decide +kernel
theorem dX10_holds_83 : decode cX10_holds 83 = .ok (.aload_n 0, 1) := by decide +kernel
theorem dX10_holds_84 : decode cX10_holds 84 = .ok (.getfield 163, 3) := by decide +kernel
theorem dX10_holds_87 : decode cX10_holds 87 = .ok (.if_icmp .ge 55, 3) := by decide +kernel
theorem dX10_holds_90 : decode cX10_holds 90 = .ok (.iconst 3, 1) := by decide +kernel
theorem dX10_holds_91 : decode cX10_holds 91 = .ok (.bipush 40, 2) := by decide +kernel
theorem dX10_holds_93 : decode cX10_holds 93 = .ok (.iload_n 2, 1) := by decide +kernel
theorem dX10_holds_94 : decode cX10_holds 94 = .ok (.iadd, 1) := by decide +kernel
theorem dX10_holds_95 : decode cX10_holds 95 = .ok (.imul, 1) := by decide +kernel
theorem dX10_holds_96 : decode cX10_holds 96 = .ok (.istore_n 3, 1) := by decide +kernel
theorem dX10_holds_97 : decode cX10_holds 97 = .ok (.aload_n 0, 1) := by decide +kernel
theorem dX10_holds_98 : decode cX10_holds 98 = .ok (.getfield 13, 3) := by decide +kernel
theorem dX10_holds_101 : decode cX10_holds 101 = .ok (.bipush 40, 2) := by decide +kernel
theorem dX10_holds_103 : decode cX10_holds 103 = .ok (.iload_n 2, 1) := by decide +kernel
theorem dX10_holds_104 : decode cX10_holds 104 = .ok (.iadd, 1) := by decide +kernel
theorem dX10_holds_105 : decode cX10_holds 105 = .ok (.iaload, 1) := by decide +kernel
theorem dX10_holds_106 : decode cX10_holds 106 = .ok (.aload_n 0, 1) := by decide +kernel
theorem dX10_holds_107 : decode cX10_holds 107 = .ok (.getfield 22, 3) := by decide +kernel
theorem dX10_holds_110 : decode cX10_holds 110 = .ok (.iload_n 3, 1) := by decide +kernel
theorem dX10_holds_111 : decode cX10_holds 111 = .ok (.iaload, 1) := by decide +kernel
theorem dX10_holds_112 : decode cX10_holds 112 = .ok (.aload_n 0, 1) := by decide +kernel
theorem dX10_holds_113 : decode cX10_holds 113 = .ok (.getfield 22, 3) := by decide +kernel
theorem dX10_holds_116 : decode cX10_holds 116 = .ok (.iload_n 3, 1) := by decide +kernel
theorem dX10_holds_117 : decode cX10_holds 117 = .ok (.iconst 1, 1) := by decide +kernel
theorem dX10_holds_118 : decode cX10_holds 118 = .ok (.iadd, 1) := by decide +kernel
theorem dX10_holds_119 : decode cX10_holds 119 = .ok (.iaload, 1) := by decide +kernel
theorem dX10_holds_120 : decode cX10_holds 120 = .ok (.aload_n 0, 1) := by decide +kernel
theorem dX10_holds_121 : decode cX10_holds 121 = .ok (.getfield 22, 3) := by decide +kernel
theorem dX10_holds_124 : decode cX10_holds 124 = .ok (.iload_n 3, 1) := by decide +kernel
theorem dX10_holds_125 : decode cX10_holds 125 = .ok (.iconst 2, 1) := by decide +kernel
theorem dX10_holds_126 : decode cX10_holds 126 = .ok (.iadd, 1) := by decide +kernel
theorem dX10_holds_127 : decode cX10_holds 127 = .ok (.iaload, 1) := by decide +kernel
theorem dX10_holds_128 : decode cX10_holds 128 = .ok (.invokestatic 144, 3) := by decide +kernel
theorem dX10_holds_131 : decode cX10_holds 131 = .ok (.ifCond .ne 5, 3) := by decide +kernel
theorem dX10_holds_134 : decode cX10_holds 134 = .ok (.iconst 0, 1) := by decide +kernel
theorem dX10_holds_135 : decode cX10_holds 135 = .ok (.ireturn, 1) := by decide +kernel
theorem dX10_holds_136 : decode cX10_holds 136 = .ok (.iinc 2 1, 3) := by decide +kernel
theorem dX10_holds_139 : decode cX10_holds 139 = .ok (.goto (-57), 3) := by decide +kernel
theorem dX10_holds_142 : decode cX10_holds 142 = .ok (.aload_n 0, 1) := by decide +kernel
theorem dX10_holds_143 : decode cX10_holds 143 = .ok (.invokevirtual 271, 3) := by decide +kernel
theorem dX10_holds_146 : decode cX10_holds 146 = .ok (.istore_n 2, 1) := by decide +kernel
theorem dX10_holds_147 : decode cX10_holds 147 = .ok (.iconst 1, 1) := by decide +kernel
theorem dX10_holds_148 : decode cX10_holds 148 = .ok (.istore_n 3, 1) := by decide +kernel
theorem dX10_holds_149 : decode cX10_holds 149 = .ok (.aload_n 0, 1) := by decide +kernel
theorem dX10_holds_150 : decode cX10_holds 150 = .ok (.invokevirtual 274, 3) := by decide +kernel
theorem dX10_holds_153 : decode cX10_holds 153 = .ok (.aload_n 0, 1) := by decide +kernel
theorem dX10_holds_154 : decode cX10_holds 154 = .ok (.iconst 1, 1) := by decide +kernel
theorem dX10_holds_155 : decode cX10_holds 155 = .ok (.iconst 0, 1) := by decide +kernel
theorem dX10_holds_156 : decode cX10_holds 156 = .ok (.invokevirtual 186, 3) := by decide +kernel
theorem dX10_holds_159 : decode cX10_holds 159 = .ok (.iconst 0, 1) := by decide +kernel
theorem dX10_holds_160 : decode cX10_holds 160 = .ok (.istore 4, 2) := by decide +kernel
theorem dX10_holds_162 : decode cX10_holds 162 = .ok (.iload 4, 2) := by decide +kernel
theorem dX10_holds_164 : decode cX10_holds 164 = .ok (.iload_n 2, 1) := by decide +kernel
theorem dX10_holds_165 : decode cX10_holds 165 = .ok (.if_icmp .gt 99, 3) := by decide +kernel
theorem dX10_holds_168 : decode cX10_holds 168 = .ok (.iload_n 3, 1) := by decide +kernel
theorem dX10_holds_169 : decode cX10_holds 169 = .ok (.ifCond .eq 95, 3) := by decide +kernel
theorem dX10_holds_172 : decode cX10_holds 172 = .ok (.aload_n 0, 1) := by decide +kernel
theorem dX10_holds_173 : decode cX10_holds 173 = .ok (.iconst 1, 1) := by decide +kernel
theorem dX10_holds_174 : decode cX10_holds 174 = .ok (.iconst 0, 1) := by decide +kernel
theorem dX10_holds_175 : decode cX10_holds 175 = .ok (.invokevirtual 231, 3) := by decide +kernel
theorem dX10_holds_178 : decode cX10_holds 178 = .ok (.iconst 0, 1) := by decide +kernel
theorem dX10_holds_179 : decode cX10_holds 179 = .ok (.istore 5, 2) := by decide +kernel
theorem dX10_holds_181 : decode cX10_holds 181 = .ok (.iload 5, 2) := by decide +kernel
theorem dX10_holds_183 : decode cX10_holds 183 = .ok (.iconst 4, 1) := by decide +kernel
theorem dX10_holds_184 : decode cX10_holds 184 = .ok (.if_icmp .ge 74, 3) := by decide +kernel
theorem dX10_holds_187 : decode cX10_holds 187 = .ok (.aload_n 0, 1) := by decide +kernel
theorem dX10_holds_188 : decode cX10_holds 188 = .ok (.getfield 44, 3) := by decide +kernel
theorem dX10_holds_191 : decode cX10_holds 191 = .ok (.bipush 96, 2) := by decide +kernel
theorem dX10_holds_193 : decode cX10_holds 193 = .ok (.iload 5, 2) := by decide +kernel
theorem dX10_holds_195 : decode cX10_holds 195 = .ok (.imul, 1) := by decide +kernel
theorem dX10_holds_196 : decode cX10_holds 196 = .ok (.iload 4, 2) := by decide +kernel
theorem dX10_holds_198 : decode cX10_holds 198 = .ok (.iadd, 1) := by decide +kernel
theorem dX10_holds_199 : decode cX10_holds 199 = .ok (.iaload, 1) := by decide +kernel
theorem dX10_holds_200 : decode cX10_holds 200 = .ok (.istore 6, 2) := by decide +kernel
theorem dX10_holds_202 : decode cX10_holds 202 = .ok (.iload 6, 2) := by decide +kernel
theorem dX10_holds_204 : decode cX10_holds 204 = .ok (.ifCond .ge 7, 3) := by decide +kernel
theorem dX10_holds_207 : decode cX10_holds 207 = .ok (.lconst 0, 1) := by decide +kernel
theorem dX10_holds_208 : decode cX10_holds 208 = .ok (.goto 13, 3) := by decide +kernel
theorem dX10_holds_211 : decode cX10_holds 211 = .ok (.aload_n 0, 1) := by decide +kernel
theorem dX10_holds_212 : decode cX10_holds 212 = .ok (.iload 5, 2) := by decide +kernel
theorem dX10_holds_214 : decode cX10_holds 214 = .ok (.invokevirtual 251, 3) := by decide +kernel
theorem dX10_holds_217 : decode cX10_holds 217 = .ok (.iload 6, 2) := by decide +kernel
theorem dX10_holds_219 : decode cX10_holds 219 = .ok (.i2l, 1) := by decide +kernel
theorem dX10_holds_220 : decode cX10_holds 220 = .ok (.lsub, 1) := by decide +kernel
theorem dX10_holds_221 : decode cX10_holds 221 = .ok (.lstore 7, 2) := by decide +kernel
theorem dX10_holds_223 : decode cX10_holds 223 = .ok (.iload_n 3, 1) := by decide +kernel
theorem dX10_holds_224 : decode cX10_holds 224 = .ok (.ifCond .eq 26, 3) := by decide +kernel
theorem dX10_holds_227 : decode cX10_holds 227 = .ok (.lload 7, 2) := by decide +kernel
theorem dX10_holds_229 : decode cX10_holds 229 = .ok (.aload_n 0, 1) := by decide +kernel
theorem dX10_holds_230 : decode cX10_holds 230 = .ok (.getfield 258, 3) := by decide +kernel
theorem dX10_holds_233 : decode cX10_holds 233 = .ok (.ineg, 1) := by decide +kernel
theorem dX10_holds_234 : decode cX10_holds 234 = .ok (.i2l, 1) := by decide +kernel
theorem dX10_holds_235 : decode cX10_holds 235 = .ok (.aload_n 0, 1) := by decide +kernel
theorem dX10_holds_236 : decode cX10_holds 236 = .ok (.getfield 258, 3) := by decide +kernel
theorem dX10_holds_239 : decode cX10_holds 239 = .ok (.i2l, 1) := by decide +kernel
theorem dX10_holds_240 : decode cX10_holds 240 = .ok (.invokestatic 85, 3) := by decide +kernel
theorem dX10_holds_243 : decode cX10_holds 243 = .ok (.ifCond .eq 7, 3) := by decide +kernel
theorem dX10_holds_246 : decode cX10_holds 246 = .ok (.iconst 1, 1) := by decide +kernel
theorem dX10_holds_247 : decode cX10_holds 247 = .ok (.goto 4, 3) := by decide +kernel
theorem dX10_holds_250 : decode cX10_holds 250 = .ok (.iconst 0, 1) := by decide +kernel
theorem dX10_holds_251 : decode cX10_holds 251 = .ok (.istore_n 3, 1) := by decide +kernel
theorem dX10_holds_252 : decode cX10_holds 252 = .ok (.iinc 5 1, 3) := by decide +kernel
theorem dX10_holds_255 : decode cX10_holds 255 = .ok (.goto (-74), 3) := by decide +kernel
theorem dX10_holds_258 : decode cX10_holds 258 = .ok (.iinc 4 1, 3) := by decide +kernel
theorem dX10_holds_261 : decode cX10_holds 261 = .ok (.goto (-99), 3) := by decide +kernel
theorem dX10_holds_264 : decode cX10_holds 264 = .ok (.aload_n 0, 1) := by decide +kernel
theorem dX10_holds_265 : decode cX10_holds 265 = .ok (.invokevirtual 277, 3) := by decide +kernel
theorem dX10_holds_268 : decode cX10_holds 268 = .ok (.iload_n 3, 1) := by decide +kernel
theorem dX10_holds_269 : decode cX10_holds 269 = .ok (.ireturn, 1) := by decide +kernel
def uX10_holds : List Cond := .code yX10_holds cX10_holds 9 (some .boolean) :: ([.methodLink RX10 170 yX10_copies, .instanceMethod yX10_copies, .selects RX10 yX10_copies yX10_copies, .initialized RX10, .methodLink RX10 271 yX10_lastSeen, .instanceMethod yX10_lastSeen, .selects RX10 yX10_lastSeen yX10_lastSeen, .methodLink RX10 274 yX10_asides, .instanceMethod yX10_asides, .selects RX10 yX10_asides yX10_asides, .methodLink RX10 186 yX10_begins, .instanceMethod yX10_begins, .selects RX10 yX10_begins yX10_begins, .methodLink RX10 277 yX10_returns, .instanceMethod yX10_returns, .selects RX10 yX10_returns yX10_returns, .methodLink RX10 231 yX10_goes, .instanceMethod yX10_goes, .selects RX10 yX10_goes yX10_goes, .fieldLink RX10 44 "RiverModelModel" "seen" "[I", .methodLink RX10 251 yX10_reading, .instanceMethod yX10_reading, .selects RX10 yX10_reading yX10_reading, .fieldLink RX10 258 "RiverModelModel" "ends" "I", .methodLink RX10 85 yX10_in, .static yX10_in, .fieldLink RX10 163 "RiverModelModel" "items" "I", .fieldLink RX10 13 "RiverModelModel" "kind" "[I", .fieldLink RX10 22 "RiverModelModel" "number" "[I", .methodLink RX10 144 yX10_areWell, .static yX10_areWell, .fieldLink RX10 59 "RiverModelModel" "knobMany" "[I", .fieldLink RX10 47 "RiverModelModel" "knobItem" "[I", .fieldLink RX10 50 "RiverModelModel" "knobAt" "[I", .methodLink RX10 268 yX10_knobValue, .instanceMethod yX10_knobValue, .selects RX10 yX10_knobValue yX10_knobValue, .code yX10_copies cX10_copies 4 none, .fieldLink RX10 16 "RiverModelModel" "first" "[I", .fieldLink RX10 19 "RiverModelModel" "second" "[I", .code yX10_lastSeen cX10_lastSeen 3 (some .int), .code yX10_asides cX10_asides 2 none, .fieldLink RX10 32 "RiverModelModel" "aside" "[J", .fieldLink RX10 28 "RiverModelModel" "m" "[J", .code yX10_begins cX10_begins 4 none, .methodLink RX10 183 yX10_startOf, .instanceMethod yX10_startOf, .selects RX10 yX10_startOf yX10_startOf, .methodLink RX10 208 yX10_isStore, .instanceMethod yX10_isStore, .selects RX10 yX10_isStore yX10_isStore, .fieldLink RX10 71 "RiverModelModel" "startB" "[I", .constantLong RX10 204 (224), .constantLong RX10 206 (227), .constantLong RX10 196 (5), .code yX10_startOf cX10_startOf 4 (some .int), .methodLink RX10 166 yX10_storeAt, .instanceMethod yX10_storeAt, .selects RX10 yX10_storeAt yX10_storeAt, .code yX10_storeAt cX10_storeAt 5 (some .int), .code yX10_isStore cX10_isStore 2 (some .boolean), .code yX10_in cX10_in 6 (some .boolean), .code yX10_returns cX10_returns 2 none, .code yX10_goes cX10_goes 4 none, .fieldLink RX10 25 "RiverModelModel" "weather" "[I", .methodLink RX10 225 yX10_passes, .instanceMethod yX10_passes, .selects RX10 yX10_passes yX10_passes, .code yX10_passes cX10_passes 12 none, .methodLink RX10 221 yX10_moves, .instanceMethod yX10_moves, .selects RX10 yX10_moves yX10_moves, .code yX10_moves cX10_moves 8 (some .long), .constantLong RX10 219 (10), .methodLink RX10 215 yX10_most, .instanceMethod yX10_most, .selects RX10 yX10_most yX10_most, .constantLong RX10 107 (100), .methodLink RX10 211 yX10_capacity, .instanceMethod yX10_capacity, .selects RX10 yX10_capacity yX10_capacity, .code yX10_most cX10_most 4 (some .long), .code yX10_capacity cX10_capacity 3 (some .long), .code yX10_reading cX10_reading 2 (some .long), .fieldLink RX10 38 "RiverModelModel" "gaugeKind" "[I", .fieldLink RX10 41 "RiverModelModel" "gaugeAt" "[I", .code yX10_areWell cX10_areWell 4 (some .boolean), .constantLong RX10 101 (1000), .constantLong RX10 103 (10000), .constantLong RX10 99 (1000000), .constantLong RX10 105 (12), .code yX10_knobValue cX10_knobValue 4 (some .int), .methodLink RX10 265 yX10_knobs, .instanceMethod yX10_knobs, .selects RX10 yX10_knobs yX10_knobs, .fieldLink RX10 53 "RiverModelModel" "knobFrom" "[I", .fieldLink RX10 56 "RiverModelModel" "knobStep" "[I", .code yX10_knobs cX10_knobs 2 (some .int)] ++ wsX100)
set_option maxRecDepth 20000 in
theorem gu_X10_holds_X10_copies_170 : GoodIn uX10_holds (wsV RX10 170 RX10 yX10_copies uX10_copies) := goodIn_r _ [1, 2, 3, 4, 38, 29, 28, 39, 40, 99, 100, 101, 102, 103, 104, 105, 106, 107, 108, 109, 110, 111, 112, 113, 114, 115, 116, 117, 118, 119, 120, 121, 122, 123, 124, 125, 126, 127, 128, 129, 130, 131, 132, 133, 134] rfl (by decide +kernel)
set_option maxRecDepth 20000 in
theorem gu_X10_holds_X10_lastSeen_271 : GoodIn uX10_holds (wsV RX10 271 RX10 yX10_lastSeen uX10_lastSeen) := goodIn_r _ [5, 6, 7, 4, 41, 20, 99, 100, 101, 102, 103, 104, 105, 106, 107, 108, 109, 110, 111, 112, 113, 114, 115, 116, 117, 118, 119, 120, 121, 122, 123, 124, 125, 126, 127, 128, 129, 130, 131, 132, 133, 134] rfl (by decide +kernel)
set_option maxRecDepth 20000 in
theorem gu_X10_holds_X10_asides_274 : GoodIn uX10_holds (wsV RX10 274 RX10 yX10_asides uX10_asides) := goodIn_r _ [8, 9, 10, 4, 42, 43, 44, 99, 100, 101, 102, 103, 104, 105, 106, 107, 108, 109, 110, 111, 112, 113, 114, 115, 116, 117, 118, 119, 120, 121, 122, 123, 124, 125, 126, 127, 128, 129, 130, 131, 132, 133, 134] rfl (by decide +kernel)
set_option maxRecDepth 20000 in
theorem gu_X10_holds_X10_begins_186 : GoodIn uX10_holds (wsV RX10 186 RX10 yX10_begins uX10_begins) := goodIn_r _ [11, 12, 13, 4, 45, 44, 46, 47, 48, 4, 49, 50, 51, 52, 53, 54, 25, 26, 55, 56, 57, 58, 59, 29, 60, 27, 28, 39, 61, 62, 99, 100, 101, 102, 103, 104, 105, 106, 107, 108, 109, 110, 111, 112, 113, 114, 115, 116, 117, 118, 119, 120, 121, 122, 123, 124, 125, 126, 127, 128, 129, 130, 131, 132, 133, 134] rfl (by decide +kernel)
set_option maxRecDepth 20000 in
theorem gu_X10_holds_X10_returns_277 : GoodIn uX10_holds (wsV RX10 277 RX10 yX10_returns uX10_returns) := goodIn_r _ [14, 15, 16, 4, 63, 44, 43, 99, 100, 101, 102, 103, 104, 105, 106, 107, 108, 109, 110, 111, 112, 113, 114, 115, 116, 117, 118, 119, 120, 121, 122, 123, 124, 125, 126, 127, 128, 129, 130, 131, 132, 133, 134] rfl (by decide +kernel)
set_option maxRecDepth 20000 in
theorem gu_X10_holds_X10_goes_231 : GoodIn uX10_holds (wsV RX10 231 RX10 yX10_goes uX10_goes) := goodIn_r _ [17, 18, 19, 4, 64, 44, 65, 66, 67, 68, 4, 69, 27, 28, 70, 71, 72, 39, 40, 29, 73, 74, 75, 76, 77, 78, 79, 80, 81, 82, 83, 57, 58, 59, 60, 99, 100, 101, 102, 103, 104, 105, 106, 107, 108, 109, 110, 111, 112, 113, 114, 115, 116, 117, 118, 119, 120, 121, 122, 123, 124, 125, 126, 127, 128, 129, 130, 131, 132, 133, 134] rfl (by decide +kernel)
set_option maxRecDepth 20000 in
theorem gu_X10_holds_X10_reading_251 : GoodIn uX10_holds (wsV RX10 251 RX10 yX10_reading uX10_reading) := goodIn_r _ [21, 22, 23, 4, 84, 85, 44, 86, 99, 100, 101, 102, 103, 104, 105, 106, 107, 108, 109, 110, 111, 112, 113, 114, 115, 116, 117, 118, 119, 120, 121, 122, 123, 124, 125, 126, 127, 128, 129, 130, 131, 132, 133, 134] rfl (by decide +kernel)
set_option maxRecDepth 20000 in
theorem gu_X10_holds_X10_in_85 : GoodIn uX10_holds (va_wsS RX10 85 yX10_in uX10_in) := goodIn_r _ [25, 26, 4, 62] rfl (by decide +kernel)
set_option maxRecDepth 20000 in
theorem gu_X10_holds_X10_areWell_144 : GoodIn uX10_holds (va_wsS RX10 144 yX10_areWell uX10_areWell) := goodIn_r _ [30, 31, 4, 87, 88, 25, 26, 4, 89, 90, 78, 91, 62] rfl (by decide +kernel)
set_option maxRecDepth 20000 in
theorem gu_X10_holds_X10_knobValue_268 : GoodIn uX10_holds (wsV RX10 268 RX10 yX10_knobValue uX10_knobValue) := goodIn_r _ [35, 36, 37, 4, 92, 93, 94, 95, 4, 96, 97, 98, 32, 99, 100, 101, 102, 103, 104, 105, 106, 107, 108, 109, 110, 111, 112, 113, 114, 115, 116, 117, 118, 119, 120, 121, 122, 123, 124, 125, 126, 127, 128, 129, 130, 131, 132, 133, 134] rfl (by decide +kernel)
set_option maxHeartbeats 4000000 in
set_option maxRecDepth 100000 in
theorem m_X10_holds (l : Launch) (D : va_G) (t : Nat → Nat) (cI cL cC : ClassId) (gC : Int32) (gE : Int32) (gW : Nat → Int32) (gA : Nat → Int32) (gT : Nat → Int32) (gI : Int32) (gS : Int32) (gM : Int32) (K : Nat → Int32) (F : Nat → Int32) (S : Nat → Int32) (N : Nat → Int32) (gH : Int) (gJ : Int) (ge : Int32) (gk : Int32) (gf : Int32) (gs : Int32) (gg : Int32) (gr : Int32) (RN : Nat → Int32) (a0 : Nat) (a1 : Int32) (uq : ∀ b c : Nat, t b = t c → t b ≠ 0 → b = c) (hI0 : 0 ≤ gI.toInt) (hI4 : gI.toInt ≤ 40) (hH0 : 0 ≤ gH) (hH9 : gH ≤ 96) (hO0 : okM K F S N 0 gI.toInt) (k_a0 : t a0 = 40) : tMx (Z := (Nat → Int32) × (Nat → Int32) × (Nat → Int32) × (Nat → Int32) × (Int) × (Int)) l yX10_holds uX10_holds 5 127 D (mF cI cL cC gC gE gW gA gT gI gS gM K F S N gH gJ ge gk gf gs gg gr RN) (fun z => (mF cI cL cC gC gE gW gA gT gI gS gM z.1 z.2.1 z.2.2.1 z.2.2.2.1 z.2.2.2.2.1 z.2.2.2.2.2 ge gk gf gs gg gr RN)) t cI cL cC [.ref a0, .int a1] wHo (xI (fun r (z : (Nat → Int32) × (Nat → Int32) × (Nat → Int32) × (Nat → Int32) × (Int) × (Int)) => (r = 1 ∧ z.2.2.2.2.1 = gH ∧ kpO K z.1 40 40 ∧ kpO F z.2.1 40 40 ∧ kpO S z.2.2.1 40 40 ∧ kpO N z.2.2.2.1 120 120 ∧ okM z.1 z.2.1 z.2.2.1 z.2.2.2.1 40 gI.toInt) ∨ (r = 0 ∧ z.2.2.2.2.1 = gH ∧ kpO K z.1 40 40 ∧ kpO F z.2.1 40 40 ∧ kpO S z.2.2.1 40 40 ∧ kpO N z.2.2.2.1 120 120))) := by
  refine tMx.ofW (cc := cX10_holds) (maxL := 9) (ret := (some .boolean)) (by decide) rfl (Nat.le_of_ble_eq_true rfl) ?_
  intro p e s m below meth c hx hb hr hml hown hts hlk H locs hG hK hE hS ls hl
  have hl : lv_has ls 9 [(0, .ref a0), (1, .int a1)] := hl
  have in10 : ∀ w ∈ wsX100, w ∈ uX10_holds := fun w h => List.mem_cons_of_mem _ (List.mem_append_right _ h)
  refine lv_aload_n hx hb dX10_holds_0 rfl (lv_at hl 0 rfl) ?_
  refine lv_iconst (v := 1) hx hb dX10_holds_1 (by decide) ?_
  refine lv_iconst (v := 0) hx hb dX10_holds_2 (by decide) ?_
  have zi_1 : (1 : Int32).toInt = 1 := by decide
  have zi_0 : (0 : Int32).toInt = 0 := by decide
  obtain ⟨r_1, v_3, r_4, r_6, r_8, r_10, r_12, r_14, r_16, r_18, r_20, r_22, r_24, r_26, r_28, r_30, r_32, r_34, r_36, r_38, r_40, r_42, r_44, v_46, r_47, at_49, h_2, h_5, h_7, h_9, h_11, h_13, h_15, h_17, h_19, h_21, h_23, h_25, h_27, h_29, h_31, h_33, h_35, h_37, h_39, h_41, h_43, h_45, h_48⟩ := mF_o40 hG k_a0
  refine tx_callv (W.runV (As := [.int 1, .int 0]) (rest := []) ⟨hx, hb, hml, hown, hts⟩ (m_X10_copies l D t cI cL cC gC gE gW gA gT gI gS gM K F S N gH gJ ge gk gf gs gg gr RN a0 1 0 40 0 120 0 uq (by omega) (by omega) (by omega) (by omega) (by omega) (by omega) (by omega) (by omega) (by omega) k_a0) (cwV 2 hts gu_X10_holds_X10_copies_170 rfl rfl rfl (by decide +kernel) ⟨Nat.le_of_ble_eq_true rfl, Nat.le_of_ble_eq_true rfl⟩) (tP_V hG hE at_49 rfl) rfl rfl hl.1 rfl (lv_room (Nat.le_of_ble_eq_true rfl)) dX10_holds_3 ⟨Nat.le_of_ble_eq_true rfl, Nat.le_of_ble_eq_true rfl⟩) hS (wrL_sub (by decide)) (fun zz_53 H locs hp_51 hG hS o_52 => ?_)
  obtain ⟨K_54, F_55, S_56, N_57⟩ := zz_53
  have at_49 := va_at.keptC at_49 o_52 k_a0 rfl
  replace hG : tG D (mF cI cL cC gC gE gW gA gT gI gS gM K_54 F_55 S_56 N_57 gH gJ ge gk gf gs gg gr RN) t H := hG
  have hp_51 : cpd K K_54 40 0 40 ∧ cpd F F_55 40 0 40 ∧ cpd S S_56 40 0 40 ∧ cpd N N_57 120 0 120 := hp_51
  obtain ⟨p_58, p_59, p_60, p_61⟩ := hp_51
  refine lv_iconst (v := 0) hx hb dX10_holds_6 (by decide) ?_
  refine lv_istore_n (lv' := [(2, .int 0), (0, .ref a0), (1, .int a1)]) hx hb dX10_holds_7 rfl hl (by decide) rfl (fun ls hl => ?_)
  refine lv_pc (pc2 := 8) rfl ?_
  refine lp_gen (fun WW62 hWW62 => ?_)
  have kx62 : ∀ (yk : Int32) (n1 : Nat → Int32) (H1 : Heap) (locs1 : List Loc) (ls1 : Array Slot), (0 ≤ yk.toInt) → (yk.toInt ≤ 2) → (kpO N n1 120 120) → tG D (mF cI cL cC gC gE gW gA gT gI gS gM K_54 F_55 S_56 n1 gH gJ ge gk gf gs gg gr RN) t H1 → tF t wHo s.heap H1 locs1 → lv_has ls1 9 [(2, .int yk), (0, .ref a0), (1, .int a1)] → WW62 H1 locs1 (F0 m 80 ls1 []) := by
    intro yk n1 H locs ls v62_0 v62_1 v62_2 hG hS hl
    refine (hWW62 _ _ _).mpr ?_
    refine lv_iconst (v := 0) hx hb dX10_holds_80 (by decide) ?_
    refine lv_pc (pc2 := 81) rfl ?_
    refine lv_istore_n (lv' := [(2, .int 0), (0, .ref a0), (1, .int a1)]) hx hb dX10_holds_81 rfl hl (by decide) rfl (fun ls hl => ?_)
    refine lv_pc (pc2 := 82) rfl ?_
    refine lp_gen (fun WW63 hWW63 => ?_)
    have kx63 : ∀ (yi : Int32) (H1 : Heap) (locs1 : List Loc) (ls1 : Array Slot), (0 ≤ yi.toInt) → (yi.toInt ≤ gI.toInt) → (welM K_54 n1 40 yi.toInt) → (gI.toInt ≤ yi.toInt) → tG D (mF cI cL cC gC gE gW gA gT gI gS gM K_54 F_55 S_56 n1 gH gJ ge gk gf gs gg gr RN) t H1 → tF t wHo s.heap H1 locs1 → lv_has ls1 9 [(2, .int yi), (0, .ref a0), (1, .int a1)] → WW63 H1 locs1 (F0 m 142 ls1 []) := by
      intro yi H locs ls v63_0 v63_1 v63_2 xf63_0 hG hS hl
      refine (hWW63 _ _ _).mpr ?_
      have hT := okM.tried (by omega) p_58 p_59 p_60 (by rw [show gI.toInt = yi.toInt by omega]; exact v63_2) hO0
      refine lv_aload_n hx hb dX10_holds_142 rfl (lv_at hl 1 rfl) ?_
      obtain ⟨r_64, v_66, r_67, r_69, r_71, r_73, r_75, r_77, r_79, r_81, r_83, r_85, r_87, r_89, r_91, r_93, r_95, r_97, r_99, r_101, r_103, r_105, r_107, v_109, r_110, at_112, h_65, h_68, h_70, h_72, h_74, h_76, h_78, h_80, h_82, h_84, h_86, h_88, h_90, h_92, h_94, h_96, h_98, h_100, h_102, h_104, h_106, h_108, h_111⟩ := mF_o40 hG k_a0
      refine ty_calli (W.runV (As := []) (rest := []) ⟨hx, hb, hml, hown, hts⟩ (m_X10_lastSeen l D t cI cL cC gC gE gW gA gT gI gS gM K_54 F_55 S_56 n1 gH gJ ge gk gf gs gg gr RN a0  uq  k_a0) (cwV 0 hts gu_X10_holds_X10_lastSeen_271 rfl rfl rfl (by decide +kernel) ⟨Nat.le_of_ble_eq_true rfl, Nat.le_of_ble_eq_true rfl⟩) (tP_V hG hE at_112 rfl) rfl rfl hl.1 rfl (lv_room (Nat.le_of_ble_eq_true rfl)) dX10_holds_143 ⟨Nat.le_of_ble_eq_true rfl, Nat.le_of_ble_eq_true rfl⟩) hS (fun k h => by simp [wr0] at h) (fun r_113 H locs hp_114 hG hS o_115 => ?_)
      have at_112 := va_at.keptC at_112 o_115 k_a0 rfl
      have hp_114 : -1 ≤ r_113.toInt ∧ r_113.toInt ≤ 95 := hp_114
      obtain ⟨p_117, p_118⟩ := hp_114
      refine lv_istore_n (lv' := [(2, .int r_113), (0, .ref a0), (1, .int a1)]) hx hb dX10_holds_146 rfl hl (by decide) rfl (fun ls hl => ?_)
      refine lv_iconst (v := 1) hx hb dX10_holds_147 (by decide) ?_
      refine lv_istore_n (lv' := [(3, .int 1), (2, .int r_113), (0, .ref a0), (1, .int a1)]) hx hb dX10_holds_148 rfl hl (by decide) rfl (fun ls hl => ?_)
      refine lv_aload_n hx hb dX10_holds_149 rfl (lv_at hl 2 rfl) ?_
      refine tx_callv (W.runV (As := []) (rest := []) ⟨hx, hb, hml, hown, hts⟩ (m_X10_asides l D t cI cL cC gC gE gW gA gT gI gS gM K_54 F_55 S_56 n1 gH gJ ge gk gf gs gg gr RN a0  uq  k_a0) (cwV 0 hts gu_X10_holds_X10_asides_274 rfl rfl rfl (by decide +kernel) ⟨Nat.le_of_ble_eq_true rfl, Nat.le_of_ble_eq_true rfl⟩) (tP_V hG hE at_112 rfl) rfl rfl hl.1 rfl (lv_room (Nat.le_of_ble_eq_true rfl)) dX10_holds_150 ⟨Nat.le_of_ble_eq_true rfl, Nat.le_of_ble_eq_true rfl⟩) hS (wrL_sub (by decide)) (fun gJ_123 H locs hp_120 hG hS o_121 => ?_)
      have at_112 := va_at.keptC at_112 o_121 k_a0 rfl
      replace hG : tG D (mF cI cL cC gC gE gW gA gT gI gS gM K_54 F_55 S_56 n1 gH gJ_123 ge gk gf gs gg gr RN) t H := hG
      have hp_120 : gJ_123 = gH := hp_120
      have p_124 := hp_120
      refine lv_pc (pc2 := 153) rfl ?_
      refine lv_aload_n hx hb dX10_holds_153 rfl (lv_at hl 2 rfl) ?_
      refine lv_iconst (v := 1) hx hb dX10_holds_154 (by decide) ?_
      refine lv_iconst (v := 0) hx hb dX10_holds_155 (by decide) ?_
      refine tx_callv (W.runV (As := [.int 1, .int 0]) (rest := []) ⟨hx, hb, hml, hown, hts⟩ (m_X10_begins l D t cI cL cC gC gE gW gA gT gI gS gM K_54 F_55 S_56 n1 gH gJ_123 ge gk gf gs gg gr RN a0 1 0 40 uq (by omega) (by omega) (by omega) (by omega) (by omega) k_a0) (cwV 2 hts gu_X10_holds_X10_begins_186 rfl rfl rfl (by decide +kernel) ⟨Nat.le_of_ble_eq_true rfl, Nat.le_of_ble_eq_true rfl⟩) (tP_V hG hE at_112 rfl) rfl rfl hl.1 rfl (lv_room (Nat.le_of_ble_eq_true rfl)) dX10_holds_156 ⟨Nat.le_of_ble_eq_true rfl, Nat.le_of_ble_eq_true rfl⟩) hS (wrL_sub (by decide)) (fun gH_129 H locs hp_126 hG hS o_127 => ?_)
      have at_112 := va_at.keptC at_112 o_127 k_a0 rfl
      replace hG : tG D (mF cI cL cC gC gE gW gA gT gI gS gM K_54 F_55 S_56 n1 gH_129 gJ_123 ge gk gf gs gg gr RN) t H := hG
      have hp_126 : gH_129 = 0 := hp_126
      have p_130 := hp_126
      refine lv_iconst (v := 0) hx hb dX10_holds_159 (by decide) ?_
      refine lv_istore (lv' := [(4, .int 0), (3, .int 1), (2, .int r_113), (0, .ref a0), (1, .int a1)]) hx hb dX10_holds_160 hl (by decide) rfl (fun ls hl => ?_)
      refine lv_pc (pc2 := 162) rfl ?_
      refine lp_gen (fun WW131 hWW131 => ?_)
      have kx131 : ∀ (yh : Int32) (yb : Int32) (hm : Int) (H1 : Heap) (locs1 : List Loc) (ls1 : Array Slot), (0 ≤ yh.toInt) → (yh.toInt ≤ 96) → (yb = 0 ∨ yb = 1) → (hm = yh.toInt) → tG D (mF cI cL cC gC gE gW gA gT gI gS gM K_54 F_55 S_56 n1 hm gJ_123 ge gk gf gs gg gr RN) t H1 → tF t wHo s.heap H1 locs1 → lv_has ls1 9 [(4, .int yh), (3, .int yb), (2, .int r_113), (0, .ref a0), (1, .int a1)] → WW131 H1 locs1 (F0 m 264 ls1 []) := by
        intro yh yb hm H locs ls v131_0 v131_1 v131_2 v131_3 hG hS hl
        refine (hWW131 _ _ _).mpr ?_
        refine lv_aload_n hx hb dX10_holds_264 rfl (lv_at hl 3 rfl) ?_
        obtain ⟨r_132, v_134, r_135, r_137, r_139, r_141, r_143, r_145, r_147, r_149, r_151, r_153, r_155, r_157, r_159, r_161, r_163, r_165, r_167, r_169, r_171, r_173, r_175, v_177, r_178, at_180, h_133, h_136, h_138, h_140, h_142, h_144, h_146, h_148, h_150, h_152, h_154, h_156, h_158, h_160, h_162, h_164, h_166, h_168, h_170, h_172, h_174, h_176, h_179⟩ := mF_o40 hG k_a0
        refine tx_callv (W.runV (As := []) (rest := []) ⟨hx, hb, hml, hown, hts⟩ (m_X10_returns l D t cI cL cC gC gE gW gA gT gI gS gM K_54 F_55 S_56 n1 hm gJ_123 ge gk gf gs gg gr RN a0  uq  k_a0) (cwV 0 hts gu_X10_holds_X10_returns_277 rfl rfl rfl (by decide +kernel) ⟨Nat.le_of_ble_eq_true rfl, Nat.le_of_ble_eq_true rfl⟩) (tP_V hG hE at_180 rfl) rfl rfl hl.1 rfl (lv_room (Nat.le_of_ble_eq_true rfl)) dX10_holds_265 ⟨Nat.le_of_ble_eq_true rfl, Nat.le_of_ble_eq_true rfl⟩) hS (wrL_sub (by decide)) (fun gH_185 H locs hp_182 hG hS o_183 => ?_)
        have at_180 := va_at.keptC at_180 o_183 k_a0 rfl
        replace hG : tG D (mF cI cL cC gC gE gW gA gT gI gS gM K_54 F_55 S_56 n1 gH_185 gJ_123 ge gk gf gs gg gr RN) t H := hG
        have hp_182 : gH_185 = gJ_123 := hp_182
        have p_186 := hp_182
        rcases v131_2 with rfl | rfl
        · skip
          refine lv_pc (pc2 := 268) rfl ?_
          refine lv_iload_n hx hb dX10_holds_268 rfl (lv_at hl 1 rfl) ?_
          exact tx_zret (z := (K_54, F_55, S_56, n1, gH_185, gJ_123)) hx hb hr hlk rfl hG hS (Or.inr ⟨rfl, (by show gH_185 = gH; omega), (show kpO K K_54 40 40 from p_58.2), (show kpO F F_55 40 40 from p_59.2), (show kpO S S_56 40 40 from p_60.2), (show kpO N n1 120 120 from v62_2)⟩) dX10_holds_269
        · skip
          refine lv_iload_n hx hb dX10_holds_268 rfl (lv_at hl 1 rfl) ?_
          exact tx_zret (z := (K_54, F_55, S_56, n1, gH_185, gJ_123)) hx hb hr hlk rfl hG hS (Or.inl ⟨rfl, (by show gH_185 = gH; omega), (show kpO K K_54 40 40 from p_58.2), (show kpO F F_55 40 40 from p_59.2), (show kpO S S_56 40 40 from p_60.2), (show kpO N n1 120 120 from v62_2), hT⟩) dX10_holds_269
      have lp131 : ∀ (kk131 : Nat) (yh : Int32) (yb : Int32) (hm : Int) (H1 : Heap) (locs1 : List Loc) (ls1 : Array Slot), 96 - yh.toInt ≤ (kk131 : Int) → (0 ≤ yh.toInt) → (yh.toInt ≤ 96) → (yb = 0 ∨ yb = 1) → (hm = yh.toInt) → tG D (mF cI cL cC gC gE gW gA gT gI gS gM K_54 F_55 S_56 n1 hm gJ_123 ge gk gf gs gg gr RN) t H1 → tF t wHo s.heap H1 locs1 → lv_has ls1 9 [(4, .int yh), (3, .int yb), (2, .int r_113), (0, .ref a0), (1, .int a1)] → WW131 H1 locs1 (F0 m 162 ls1 []) := by
        intro kk131
        induction kk131 with
        | zero =>
          intro yh yb hm H locs ls hk131 v131_0 v131_1 v131_2 v131_3 hG hS hl
          refine (hWW131 _ _ _).mpr ?_
          refine lv_iload hx hb dX10_holds_162 (lv_at hl 0 rfl) ?_
          refine lv_iload_n hx hb dX10_holds_164 rfl (lv_at hl 2 rfl) ?_
          refine lv_icmp_gt (tgt := 264) hx hb dX10_holds_165 (by decide) (fun c_187 => ?_) (fun c_187 => ?_)
          · skip
            have c_187 : r_113.toInt < yh.toInt := q_lt c_187
            exact (hWW131 _ _ _).mp (kx131 yh yb hm H locs ls v131_0 v131_1 v131_2 v131_3 hG hS (lv_sub hl [0, 1, 2, 3, 4] rfl))
          · skip
            have c_187 : yh.toInt ≤ r_113.toInt := q_nlt c_187
            exfalso; omega
        | succ kk131 ih131 =>
          intro yh yb hm H locs ls hk131 v131_0 v131_1 v131_2 v131_3 hG hS hl
          refine (hWW131 _ _ _).mpr ?_
          refine lv_iload hx hb dX10_holds_162 (lv_at hl 0 rfl) ?_
          refine lv_pc (pc2 := 164) rfl ?_
          refine lv_iload_n hx hb dX10_holds_164 rfl (lv_at hl 2 rfl) ?_
          refine lv_icmp_gt (tgt := 264) hx hb dX10_holds_165 (by decide) (fun c_188 => ?_) (fun c_188 => ?_)
          · skip
            have c_188 : r_113.toInt < yh.toInt := q_lt c_188
            exact (hWW131 _ _ _).mp (kx131 yh yb hm H locs ls v131_0 v131_1 v131_2 v131_3 hG hS (lv_sub hl [0, 1, 2, 3, 4] rfl))
          · skip
            have c_188 : yh.toInt ≤ r_113.toInt := q_nlt c_188
            refine lv_iload_n hx hb dX10_holds_168 rfl (lv_at hl 1 rfl) ?_
            refine lv_if_eq (tgt := 264) hx hb dX10_holds_169 (by decide) (fun c_189 => ?_) (fun c_189 => ?_)
            · skip
              have c_189 : yb.toInt = 0 := q_eq c_189
              exact (hWW131 _ _ _).mp (kx131 yh yb hm H locs ls v131_0 v131_1 v131_2 v131_3 hG hS (lv_sub hl [0, 1, 2, 3, 4] rfl))
            · skip
              have c_189 : yb.toInt ≠ 0 := q_ne c_189
              refine lv_aload_n hx hb dX10_holds_172 rfl (lv_at hl 3 rfl) ?_
              refine lv_iconst (v := 1) hx hb dX10_holds_173 (by decide) ?_
              refine lv_iconst (v := 0) hx hb dX10_holds_174 (by decide) ?_
              obtain ⟨r_190, v_192, r_193, r_195, r_197, r_199, r_201, r_203, r_205, r_207, r_209, r_211, r_213, r_215, r_217, r_219, r_221, r_223, r_225, r_227, r_229, r_231, r_233, v_235, r_236, at_238, h_191, h_194, h_196, h_198, h_200, h_202, h_204, h_206, h_208, h_210, h_212, h_214, h_216, h_218, h_220, h_222, h_224, h_226, h_228, h_230, h_232, h_234, h_237⟩ := mF_o40 hG k_a0
              refine tx_callv (W.runV (As := [.int 1, .int 0]) (rest := []) ⟨hx, hb, hml, hown, hts⟩ (m_X10_goes l D t cI cL cC gC gE gW gA gT gI gS gM K_54 F_55 S_56 n1 hm gJ_123 ge gk gf gs gg gr RN a0 1 0 40 uq (by omega) (by omega) (by omega) (by omega) (by omega) hT (by omega) (by omega) (by omega) (by omega) k_a0) (cwV 2 hts gu_X10_holds_X10_goes_231 rfl rfl rfl (by decide +kernel) ⟨Nat.le_of_ble_eq_true rfl, Nat.le_of_ble_eq_true rfl⟩) (tP_V hG hE at_238 rfl) rfl rfl hl.1 rfl (lv_room (Nat.le_of_ble_eq_true rfl)) dX10_holds_175 ⟨Nat.le_of_ble_eq_true rfl, Nat.le_of_ble_eq_true rfl⟩) hS (wrL_sub (by decide)) (fun gH_243 H locs hp_240 hG hS o_241 => ?_)
              have at_238 := va_at.keptC at_238 o_241 k_a0 rfl
              replace hG : tG D (mF cI cL cC gC gE gW gA gT gI gS gM K_54 F_55 S_56 n1 gH_243 gJ_123 ge gk gf gs gg gr RN) t H := hG
              have hp_240 : gH_243 = hm + 1 := hp_240
              have p_244 := hp_240
              refine lv_pc (pc2 := 178) rfl ?_
              refine lv_iconst (v := 0) hx hb dX10_holds_178 (by decide) ?_
              refine lv_istore (lv' := [(5, .int 0), (4, .int yh), (3, .int yb), (2, .int r_113), (0, .ref a0), (1, .int a1)]) hx hb dX10_holds_179 hl (by decide) rfl (fun ls hl => ?_)
              refine lv_pc (pc2 := 181) rfl ?_
              refine lp_gen (fun WW245 hWW245 => ?_)
              have kx245 : ∀ (yj : Int32) (yc : Int32) (H1 : Heap) (locs1 : List Loc) (ls1 : Array Slot), (0 ≤ yj.toInt) → (yj.toInt ≤ 4) → (yc = 0 ∨ yc = 1) → tG D (mF cI cL cC gC gE gW gA gT gI gS gM K_54 F_55 S_56 n1 gH_243 gJ_123 ge gk gf gs gg gr RN) t H1 → tF t wHo s.heap H1 locs1 → lv_has ls1 9 [(5, .int yj), (4, .int yh), (3, .int yc), (2, .int r_113), (0, .ref a0), (1, .int a1)] → WW245 H1 locs1 (F0 m 258 ls1 []) := by
                intro yj yc H locs ls v245_0 v245_1 v245_2 hG hS hl
                refine (hWW245 _ _ _).mpr ?_
                obtain ⟨x_246, e_247⟩ : ∃ y : Int32, y = yh + Int32.ofInt 1 := ⟨_, rfl⟩
                have i_x_246 : x_246.toInt = yh.toInt + 1 := by rw [e_247, show Int32.ofInt 1 = 1 by decide]; exact (q_add (by rw [show (1 : Int32).toInt = 1 by decide]; omega) (by rw [show (1 : Int32).toInt = 1 by decide]; omega)).trans (by rw [show (1 : Int32).toInt = 1 by decide])
                refine lv_iinc (v := x_246) (lv' := [(4, .int x_246), (5, .int yj), (3, .int yc), (2, .int r_113), (0, .ref a0), (1, .int a1)]) hx hb dX10_holds_258 hl (k := 1) rfl e_247.symm (by decide) rfl (fun ls hl => ?_)
                refine lv_goto (tgt := 162) hx hb dX10_holds_261 (by decide) ?_
                exact (hWW131 _ _ _).mp (ih131 x_246 yc gH_243 H locs ls (by omega) (by omega) (by omega) v245_2 (by omega) hG hS (lv_sub hl [0, 2, 3, 4, 5] rfl))
              have lp245 : ∀ (kk245 : Nat) (yj : Int32) (yc : Int32) (H1 : Heap) (locs1 : List Loc) (ls1 : Array Slot), 4 - yj.toInt ≤ (kk245 : Int) → (0 ≤ yj.toInt) → (yj.toInt ≤ 4) → (yc = 0 ∨ yc = 1) → tG D (mF cI cL cC gC gE gW gA gT gI gS gM K_54 F_55 S_56 n1 gH_243 gJ_123 ge gk gf gs gg gr RN) t H1 → tF t wHo s.heap H1 locs1 → lv_has ls1 9 [(5, .int yj), (4, .int yh), (3, .int yc), (2, .int r_113), (0, .ref a0), (1, .int a1)] → WW245 H1 locs1 (F0 m 181 ls1 []) := by
                intro kk245
                induction kk245 with
                | zero =>
                  intro yj yc H locs ls hk245 v245_0 v245_1 v245_2 hG hS hl
                  refine (hWW245 _ _ _).mpr ?_
                  refine lv_iload hx hb dX10_holds_181 (lv_at hl 0 rfl) ?_
                  refine lv_iconst (v := 4) hx hb dX10_holds_183 (by decide) ?_
                  refine lv_icmp_ge (tgt := 258) hx hb dX10_holds_184 (by decide) (fun c_248 => ?_) (fun c_248 => ?_)
                  · skip
                    have c_248 : 4 ≤ yj.toInt := q_le c_248
                    exact (hWW245 _ _ _).mp (kx245 yj yc H locs ls v245_0 v245_1 v245_2 hG hS (lv_sub hl [0, 1, 2, 3, 4, 5] rfl))
                  · skip
                    have c_248 : yj.toInt < 4 := q_nle c_248
                    exfalso; omega
                | succ kk245 ih245 =>
                  intro yj yc H locs ls hk245 v245_0 v245_1 v245_2 hG hS hl
                  refine (hWW245 _ _ _).mpr ?_
                  refine lv_iload hx hb dX10_holds_181 (lv_at hl 0 rfl) ?_
                  refine lv_pc (pc2 := 183) rfl ?_
                  refine lv_iconst (v := 4) hx hb dX10_holds_183 (by decide) ?_
                  refine lv_icmp_ge (tgt := 258) hx hb dX10_holds_184 (by decide) (fun c_249 => ?_) (fun c_249 => ?_)
                  · skip
                    have c_249 : 4 ≤ yj.toInt := q_le c_249
                    exact (hWW245 _ _ _).mp (kx245 yj yc H locs ls v245_0 v245_1 v245_2 hG hS (lv_sub hl [0, 1, 2, 3, 4, 5] rfl))
                  · skip
                    have c_249 : yj.toInt < 4 := q_nle c_249
                    refine lv_aload_n hx hb dX10_holds_187 rfl (lv_at hl 4 rfl) ?_
                    obtain ⟨r_250, v_252, r_253, r_255, r_257, r_259, r_261, r_263, r_265, r_267, r_269, r_271, r_273, r_275, r_277, r_279, r_281, r_283, r_285, r_287, r_289, r_291, r_293, v_295, r_296, at_298, h_251, h_254, h_256, h_258, h_260, h_262, h_264, h_266, h_268, h_270, h_272, h_274, h_276, h_278, h_280, h_282, h_284, h_286, h_288, h_290, h_292, h_294, h_297⟩ := mF_o40 hG k_a0
                    refine va_get (D := D) (ci := 9) (v := .ref r_273) (C := RX10) (T := TX10) (N := 36) hx hb hts in10 hown hK (va_one at_298) 0 rfl rfl 16 (by decide) (hts (.fieldLink RX10 44 "RiverModelModel" "seen" "[I") (List.mem_of_getElem? (i := 20) rfl)) (fun _ h9 => h9) rfl dX10_holds_188 ?_
                    refine lv_bipush (v := 96) hx hb dX10_holds_191 (by decide) ?_
                    refine lv_iload hx hb dX10_holds_193 (lv_at hl 0 rfl) ?_
                    refine lv_imul hx hb dX10_holds_195 ?_
                    refine lv_topi (fun x_299 e_300 => ?_)
                    have i_x_299 : x_299.toInt = 96 * yj.toInt := by rw [e_300]; exact (q_mul (by rw [show (96 : Int32).toInt = 96 by decide]; omega) (by rw [show (96 : Int32).toInt = 96 by decide]; omega)).trans (by rw [show (96 : Int32).toInt = 96 by decide])
                    refine lv_iload hx hb dX10_holds_196 (lv_at hl 1 rfl) ?_
                    refine lv_pc (pc2 := 198) rfl ?_
                    refine lv_iadd hx hb dX10_holds_198 ?_
                    refine lv_topi (fun x_301 e_302 => ?_)
                    have i_x_301 : x_301.toInt = x_299.toInt + yh.toInt := by rw [e_302]; exact (q_add (by omega) (by omega)).trans (by rfl)
                    obtain ⟨f_303, at_304⟩ := mF_o52 hG h_274
                    have b_305 : vp_in x_301 384 := (q_in (by omega) (by omega))
                    refine va_iald hx hb hK (va_one at_304) 0 0 rfl rfl b_305 dX10_holds_199 ?_
                    refine lv_topi (fun x_306 e_307 => ?_)
                    refine lv_istore (lv' := [(6, .int x_306), (5, .int yj), (4, .int yh), (3, .int yc), (2, .int r_113), (0, .ref a0), (1, .int a1)]) hx hb dX10_holds_200 hl (by decide) rfl (fun ls hl => ?_)
                    refine lv_iload hx hb dX10_holds_202 (lv_at hl 0 rfl) ?_
                    refine lv_if_ge (tgt := 211) hx hb dX10_holds_204 (by decide) (fun c_308 => ?_) (fun c_308 => ?_)
                    · skip
                      have c_308 : 0 ≤ x_306.toInt := q_le c_308
                      refine lv_aload_n hx hb dX10_holds_211 rfl (lv_at hl 5 rfl) ?_
                      refine lv_iload hx hb dX10_holds_212 (lv_at hl 1 rfl) ?_
                      refine ty_calll (W.runV (As := [.int yj]) (rest := []) ⟨hx, hb, hml, hown, hts⟩ (m_X10_reading l D t cI cL cC gC gE gW gA gT gI gS gM K_54 F_55 S_56 n1 gH_243 gJ_123 ge gk gf gs gg gr RN a0 yj  uq (by omega) (by omega) k_a0) (cwV 1 hts gu_X10_holds_X10_reading_251 rfl rfl rfl (by decide +kernel) ⟨Nat.le_of_ble_eq_true rfl, Nat.le_of_ble_eq_true rfl⟩) (tP_V hG hE at_298 rfl) rfl rfl hl.1 rfl (lv_room (Nat.le_of_ble_eq_true rfl)) dX10_holds_214 ⟨Nat.le_of_ble_eq_true rfl, Nat.le_of_ble_eq_true rfl⟩) hS (fun k h => by simp [wr0] at h) (fun z_309 H locs hp_310 hG hS o_311 => ?_)
                      have at_298 := va_at.keptC at_298 o_311 k_a0 rfl
                      have at_304 := va_at.keptC at_304 o_311 h_274 rfl
                      refine lv_pc (pc2 := 217) rfl ?_
                      refine lv_iload hx hb dX10_holds_217 (lv_at hl 0 rfl) ?_
                      refine lv_i2l (v := x_306.toInt64) hx hb dX10_holds_219 rfl ?_
                      refine lv_lsub hx hb dX10_holds_220 ?_
                      refine lv_topl (fun z_313 e_314 => ?_)
                      refine lv_lstore (lv' := [(7, .long z_313), (6, .int x_306), (5, .int yj), (4, .int yh), (3, .int yc), (2, .int r_113), (0, .ref a0), (1, .int a1)]) hx hb dX10_holds_221 hl (by decide) rfl (fun ls hl => ?_)
                      refine lv_iload_n hx hb dX10_holds_223 rfl (lv_at hl 4 rfl) ?_
                      refine lv_if_eq (tgt := 250) hx hb dX10_holds_224 (by decide) (fun c_315 => ?_) (fun c_315 => ?_)
                      · skip
                        have c_315 : yc.toInt = 0 := q_eq c_315
                        refine lv_iconst (v := 0) hx hb dX10_holds_250 (by decide) ?_
                        refine lv_istore_n (lv' := [(3, .int 0), (7, .long z_313), (6, .int x_306), (5, .int yj), (4, .int yh), (2, .int r_113), (0, .ref a0), (1, .int a1)]) hx hb dX10_holds_251 rfl hl (by decide) rfl (fun ls hl => ?_)
                        refine lv_pc (pc2 := 252) rfl ?_
                        obtain ⟨x_316, e_317⟩ : ∃ y : Int32, y = yj + Int32.ofInt 1 := ⟨_, rfl⟩
                        have i_x_316 : x_316.toInt = yj.toInt + 1 := by rw [e_317, show Int32.ofInt 1 = 1 by decide]; exact (q_add (by rw [show (1 : Int32).toInt = 1 by decide]; omega) (by rw [show (1 : Int32).toInt = 1 by decide]; omega)).trans (by rw [show (1 : Int32).toInt = 1 by decide])
                        refine lv_iinc (v := x_316) (lv' := [(5, .int x_316), (3, .int 0), (7, .long z_313), (6, .int x_306), (4, .int yh), (2, .int r_113), (0, .ref a0), (1, .int a1)]) hx hb dX10_holds_252 hl (k := 3) rfl e_317.symm (by decide) rfl (fun ls hl => ?_)
                        refine lv_goto (tgt := 181) hx hb dX10_holds_255 (by decide) ?_
                        exact (hWW245 _ _ _).mp (ih245 x_316 0 H locs ls (by omega) (by omega) (by omega) (Or.inl rfl) hG hS (lv_sub hl [0, 4, 1, 5, 6, 7] rfl))
                      · skip
                        have c_315 : yc.toInt ≠ 0 := q_ne c_315
                        refine lv_lload hx hb dX10_holds_227 (lv_at hl 0 rfl) ?_
                        refine lv_aload_n hx hb dX10_holds_229 rfl (lv_at hl 6 rfl) ?_
                        refine va_get (D := D) (ci := 9) (v := .int gE) (C := RX10) (T := TX10) (N := 36) hx hb hts in10 hown hK (va_one at_298) 0 rfl rfl 17 (by decide) (hts (.fieldLink RX10 258 "RiverModelModel" "ends" "I") (List.mem_of_getElem? (i := 24) rfl)) (fun _ h9 => h9) rfl dX10_holds_230 ?_
                        refine lv_ineg hx hb dX10_holds_233 ?_
                        refine lv_topi (fun x_318 e_319 => ?_)
                        refine lv_i2l (v := x_318.toInt64) hx hb dX10_holds_234 rfl ?_
                        refine lv_aload_n hx hb dX10_holds_235 rfl (lv_at hl 6 rfl) ?_
                        refine lv_pc (pc2 := 236) rfl ?_
                        refine va_get (D := D) (ci := 9) (v := .int gE) (C := RX10) (T := TX10) (N := 36) hx hb hts in10 hown hK (va_one at_298) 0 rfl rfl 17 (by decide) (hts (.fieldLink RX10 258 "RiverModelModel" "ends" "I") (List.mem_of_getElem? (i := 24) rfl)) (fun _ h9 => h9) rfl dX10_holds_236 ?_
                        refine lv_i2l (v := gE.toInt64) hx hb dX10_holds_239 rfl ?_
                        refine ty_calli (W.runS (As := [.long z_313, .long x_318.toInt64, .long gE.toInt64]) (rest := []) ⟨hx, hb, hml, hown, hts⟩ (m_X10_in l D t cI cL cC gC gE gW gA gT gI gS gM K_54 F_55 S_56 n1 gH_243 gJ_123 ge gk gf gs gg gr RN z_313 x_318.toInt64 gE.toInt64 z_313.toInt x_318.toInt gE.toInt uq rfl (q_i2l _) (q_i2l _) ) (va_cwS 3 hts gu_X10_holds_X10_in_85 rfl rfl rfl (by decide +kernel) ⟨Nat.le_of_ble_eq_true rfl, Nat.le_of_ble_eq_true rfl⟩) (tP_S hG hE) rfl rfl hl.1 rfl (lv_room (Nat.le_of_ble_eq_true rfl)) dX10_holds_240 ⟨Nat.le_of_ble_eq_true rfl, Nat.le_of_ble_eq_true rfl⟩) hS (fun k h => by simp [wr0] at h) (fun r_320 H locs hp_321 hG hS o_322 => ?_)
                        have at_298 := va_at.keptC at_298 o_322 k_a0 rfl
                        have at_304 := va_at.keptC at_304 o_322 h_274 rfl
                        have hp_321 : (r_320 = 1 ∧ x_318.toInt ≤ z_313.toInt ∧ z_313.toInt ≤ gE.toInt) ∨ (r_320 = 0 ∧ (z_313.toInt < x_318.toInt ∨ gE.toInt < z_313.toInt)) := hp_321
                        rcases hp_321 with ⟨rfl, p_324, p_325⟩ | ⟨rfl, p_326⟩
                        · skip
                          refine lv_if_eq (tgt := 250) hx hb dX10_holds_243 (by decide) (fun q => absurd q (by decide)) (fun _ => ?_)
                          refine lv_iconst (v := 1) hx hb dX10_holds_246 (by decide) ?_
                          refine lv_goto (tgt := 251) hx hb dX10_holds_247 (by decide) ?_
                          refine lv_istore_n (lv' := [(3, .int 1), (7, .long z_313), (6, .int x_306), (5, .int yj), (4, .int yh), (2, .int r_113), (0, .ref a0), (1, .int a1)]) hx hb dX10_holds_251 rfl hl (by decide) rfl (fun ls hl => ?_)
                          obtain ⟨x_327, e_328⟩ : ∃ y : Int32, y = yj + Int32.ofInt 1 := ⟨_, rfl⟩
                          have i_x_327 : x_327.toInt = yj.toInt + 1 := by rw [e_328, show Int32.ofInt 1 = 1 by decide]; exact (q_add (by rw [show (1 : Int32).toInt = 1 by decide]; omega) (by rw [show (1 : Int32).toInt = 1 by decide]; omega)).trans (by rw [show (1 : Int32).toInt = 1 by decide])
                          refine lv_iinc (v := x_327) (lv' := [(5, .int x_327), (3, .int 1), (7, .long z_313), (6, .int x_306), (4, .int yh), (2, .int r_113), (0, .ref a0), (1, .int a1)]) hx hb dX10_holds_252 hl (k := 3) rfl e_328.symm (by decide) rfl (fun ls hl => ?_)
                          refine lv_pc (pc2 := 255) rfl ?_
                          refine lv_goto (tgt := 181) hx hb dX10_holds_255 (by decide) ?_
                          exact (hWW245 _ _ _).mp (ih245 x_327 1 H locs ls (by omega) (by omega) (by omega) (Or.inr rfl) hG hS (lv_sub hl [0, 4, 1, 5, 6, 7] rfl))
                        · skip
                          refine lv_if_eq (tgt := 250) hx hb dX10_holds_243 (by decide) (fun _ => ?_) (fun q => absurd (by decide) q)
                          refine lv_iconst (v := 0) hx hb dX10_holds_250 (by decide) ?_
                          refine lv_istore_n (lv' := [(3, .int 0), (7, .long z_313), (6, .int x_306), (5, .int yj), (4, .int yh), (2, .int r_113), (0, .ref a0), (1, .int a1)]) hx hb dX10_holds_251 rfl hl (by decide) rfl (fun ls hl => ?_)
                          obtain ⟨x_329, e_330⟩ : ∃ y : Int32, y = yj + Int32.ofInt 1 := ⟨_, rfl⟩
                          have i_x_329 : x_329.toInt = yj.toInt + 1 := by rw [e_330, show Int32.ofInt 1 = 1 by decide]; exact (q_add (by rw [show (1 : Int32).toInt = 1 by decide]; omega) (by rw [show (1 : Int32).toInt = 1 by decide]; omega)).trans (by rw [show (1 : Int32).toInt = 1 by decide])
                          refine lv_iinc (v := x_329) (lv' := [(5, .int x_329), (3, .int 0), (7, .long z_313), (6, .int x_306), (4, .int yh), (2, .int r_113), (0, .ref a0), (1, .int a1)]) hx hb dX10_holds_252 hl (k := 3) rfl e_330.symm (by decide) rfl (fun ls hl => ?_)
                          refine lv_goto (tgt := 181) hx hb dX10_holds_255 (by decide) ?_
                          exact (hWW245 _ _ _).mp (ih245 x_329 0 H locs ls (by omega) (by omega) (by omega) (Or.inl rfl) hG hS (lv_sub hl [0, 4, 1, 5, 6, 7] rfl))
                    · skip
                      have c_308 : x_306.toInt < 0 := q_nle c_308
                      refine lv_lconst (v := 0) hx hb dX10_holds_207 (by decide) ?_
                      refine lv_goto (tgt := 221) hx hb dX10_holds_208 (by decide) ?_
                      refine lv_pc (pc2 := 221) rfl ?_
                      refine lv_lstore (lv' := [(7, .long 0), (6, .int x_306), (5, .int yj), (4, .int yh), (3, .int yc), (2, .int r_113), (0, .ref a0), (1, .int a1)]) hx hb dX10_holds_221 hl (by decide) rfl (fun ls hl => ?_)
                      refine lv_iload_n hx hb dX10_holds_223 rfl (lv_at hl 4 rfl) ?_
                      refine lv_if_eq (tgt := 250) hx hb dX10_holds_224 (by decide) (fun c_331 => ?_) (fun c_331 => ?_)
                      · skip
                        have c_331 : yc.toInt = 0 := q_eq c_331
                        refine lv_iconst (v := 0) hx hb dX10_holds_250 (by decide) ?_
                        refine lv_istore_n (lv' := [(3, .int 0), (7, .long 0), (6, .int x_306), (5, .int yj), (4, .int yh), (2, .int r_113), (0, .ref a0), (1, .int a1)]) hx hb dX10_holds_251 rfl hl (by decide) rfl (fun ls hl => ?_)
                        obtain ⟨x_332, e_333⟩ : ∃ y : Int32, y = yj + Int32.ofInt 1 := ⟨_, rfl⟩
                        have i_x_332 : x_332.toInt = yj.toInt + 1 := by rw [e_333, show Int32.ofInt 1 = 1 by decide]; exact (q_add (by rw [show (1 : Int32).toInt = 1 by decide]; omega) (by rw [show (1 : Int32).toInt = 1 by decide]; omega)).trans (by rw [show (1 : Int32).toInt = 1 by decide])
                        refine lv_iinc (v := x_332) (lv' := [(5, .int x_332), (3, .int 0), (7, .long 0), (6, .int x_306), (4, .int yh), (2, .int r_113), (0, .ref a0), (1, .int a1)]) hx hb dX10_holds_252 hl (k := 3) rfl e_333.symm (by decide) rfl (fun ls hl => ?_)
                        refine lv_goto (tgt := 181) hx hb dX10_holds_255 (by decide) ?_
                        exact (hWW245 _ _ _).mp (ih245 x_332 0 H locs ls (by omega) (by omega) (by omega) (Or.inl rfl) hG hS (lv_sub hl [0, 4, 1, 5, 6, 7] rfl))
                      · skip
                        have c_331 : yc.toInt ≠ 0 := q_ne c_331
                        refine lv_lload hx hb dX10_holds_227 (lv_at hl 0 rfl) ?_
                        refine lv_pc (pc2 := 229) rfl ?_
                        refine lv_aload_n hx hb dX10_holds_229 rfl (lv_at hl 6 rfl) ?_
                        refine va_get (D := D) (ci := 9) (v := .int gE) (C := RX10) (T := TX10) (N := 36) hx hb hts in10 hown hK (va_one at_298) 0 rfl rfl 17 (by decide) (hts (.fieldLink RX10 258 "RiverModelModel" "ends" "I") (List.mem_of_getElem? (i := 24) rfl)) (fun _ h9 => h9) rfl dX10_holds_230 ?_
                        refine lv_ineg hx hb dX10_holds_233 ?_
                        refine lv_topi (fun x_334 e_335 => ?_)
                        refine lv_i2l (v := x_334.toInt64) hx hb dX10_holds_234 rfl ?_
                        refine lv_aload_n hx hb dX10_holds_235 rfl (lv_at hl 6 rfl) ?_
                        refine va_get (D := D) (ci := 9) (v := .int gE) (C := RX10) (T := TX10) (N := 36) hx hb hts in10 hown hK (va_one at_298) 0 rfl rfl 17 (by decide) (hts (.fieldLink RX10 258 "RiverModelModel" "ends" "I") (List.mem_of_getElem? (i := 24) rfl)) (fun _ h9 => h9) rfl dX10_holds_236 ?_
                        refine lv_i2l (v := gE.toInt64) hx hb dX10_holds_239 rfl ?_
                        have zl_0 : (0 : Int64).toInt = 0 := by decide
                        refine ty_calli (W.runS (As := [.long 0, .long x_334.toInt64, .long gE.toInt64]) (rest := []) ⟨hx, hb, hml, hown, hts⟩ (m_X10_in l D t cI cL cC gC gE gW gA gT gI gS gM K_54 F_55 S_56 n1 gH_243 gJ_123 ge gk gf gs gg gr RN 0 x_334.toInt64 gE.toInt64 0 x_334.toInt gE.toInt uq (by decide) (q_i2l _) (q_i2l _) ) (va_cwS 3 hts gu_X10_holds_X10_in_85 rfl rfl rfl (by decide +kernel) ⟨Nat.le_of_ble_eq_true rfl, Nat.le_of_ble_eq_true rfl⟩) (tP_S hG hE) rfl rfl hl.1 rfl (lv_room (Nat.le_of_ble_eq_true rfl)) dX10_holds_240 ⟨Nat.le_of_ble_eq_true rfl, Nat.le_of_ble_eq_true rfl⟩) hS (fun k h => by simp [wr0] at h) (fun r_336 H locs hp_337 hG hS o_338 => ?_)
                        have at_298 := va_at.keptC at_298 o_338 k_a0 rfl
                        have at_304 := va_at.keptC at_304 o_338 h_274 rfl
                        have hp_337 : (r_336 = 1 ∧ x_334.toInt ≤ 0 ∧ 0 ≤ gE.toInt) ∨ (r_336 = 0 ∧ (0 < x_334.toInt ∨ gE.toInt < 0)) := hp_337
                        rcases hp_337 with ⟨rfl, p_340, p_341⟩ | ⟨rfl, p_342⟩
                        · skip
                          refine lv_pc (pc2 := 243) rfl ?_
                          refine lv_if_eq (tgt := 250) hx hb dX10_holds_243 (by decide) (fun q => absurd q (by decide)) (fun _ => ?_)
                          refine lv_iconst (v := 1) hx hb dX10_holds_246 (by decide) ?_
                          refine lv_goto (tgt := 251) hx hb dX10_holds_247 (by decide) ?_
                          refine lv_istore_n (lv' := [(3, .int 1), (7, .long 0), (6, .int x_306), (5, .int yj), (4, .int yh), (2, .int r_113), (0, .ref a0), (1, .int a1)]) hx hb dX10_holds_251 rfl hl (by decide) rfl (fun ls hl => ?_)
                          obtain ⟨x_343, e_344⟩ : ∃ y : Int32, y = yj + Int32.ofInt 1 := ⟨_, rfl⟩
                          have i_x_343 : x_343.toInt = yj.toInt + 1 := by rw [e_344, show Int32.ofInt 1 = 1 by decide]; exact (q_add (by rw [show (1 : Int32).toInt = 1 by decide]; omega) (by rw [show (1 : Int32).toInt = 1 by decide]; omega)).trans (by rw [show (1 : Int32).toInt = 1 by decide])
                          refine lv_iinc (v := x_343) (lv' := [(5, .int x_343), (3, .int 1), (7, .long 0), (6, .int x_306), (4, .int yh), (2, .int r_113), (0, .ref a0), (1, .int a1)]) hx hb dX10_holds_252 hl (k := 3) rfl e_344.symm (by decide) rfl (fun ls hl => ?_)
                          refine lv_goto (tgt := 181) hx hb dX10_holds_255 (by decide) ?_
                          exact (hWW245 _ _ _).mp (ih245 x_343 1 H locs ls (by omega) (by omega) (by omega) (Or.inr rfl) hG hS (lv_sub hl [0, 4, 1, 5, 6, 7] rfl))
                        · skip
                          refine lv_if_eq (tgt := 250) hx hb dX10_holds_243 (by decide) (fun _ => ?_) (fun q => absurd (by decide) q)
                          refine lv_iconst (v := 0) hx hb dX10_holds_250 (by decide) ?_
                          refine lv_pc (pc2 := 251) rfl ?_
                          refine lv_istore_n (lv' := [(3, .int 0), (7, .long 0), (6, .int x_306), (5, .int yj), (4, .int yh), (2, .int r_113), (0, .ref a0), (1, .int a1)]) hx hb dX10_holds_251 rfl hl (by decide) rfl (fun ls hl => ?_)
                          obtain ⟨x_345, e_346⟩ : ∃ y : Int32, y = yj + Int32.ofInt 1 := ⟨_, rfl⟩
                          have i_x_345 : x_345.toInt = yj.toInt + 1 := by rw [e_346, show Int32.ofInt 1 = 1 by decide]; exact (q_add (by rw [show (1 : Int32).toInt = 1 by decide]; omega) (by rw [show (1 : Int32).toInt = 1 by decide]; omega)).trans (by rw [show (1 : Int32).toInt = 1 by decide])
                          refine lv_iinc (v := x_345) (lv' := [(5, .int x_345), (3, .int 0), (7, .long 0), (6, .int x_306), (4, .int yh), (2, .int r_113), (0, .ref a0), (1, .int a1)]) hx hb dX10_holds_252 hl (k := 3) rfl e_346.symm (by decide) rfl (fun ls hl => ?_)
                          refine lv_goto (tgt := 181) hx hb dX10_holds_255 (by decide) ?_
                          exact (hWW245 _ _ _).mp (ih245 x_345 0 H locs ls (by omega) (by omega) (by omega) (Or.inl rfl) hG hS (lv_sub hl [0, 4, 1, 5, 6, 7] rfl))
              exact lp245 (4 - (0 : Int32).toInt : Int).toNat 0 yb H locs ls (by omega) (by omega) (by omega) v131_2 hG hS (lv_sub hl [0, 1, 2, 3, 4, 5] rfl)
      exact lp131 (96 - (0 : Int32).toInt : Int).toNat 0 1 gH_129 H locs ls (by omega) (by omega) (by omega) (Or.inr rfl) (by omega) hG hS (lv_sub hl [0, 1, 2, 3, 4] rfl)
    have lp63 : ∀ (kk63 : Nat) (yi : Int32) (H1 : Heap) (locs1 : List Loc) (ls1 : Array Slot), gI.toInt - yi.toInt ≤ (kk63 : Int) → (0 ≤ yi.toInt) → (yi.toInt ≤ gI.toInt) → (welM K_54 n1 40 yi.toInt) → tG D (mF cI cL cC gC gE gW gA gT gI gS gM K_54 F_55 S_56 n1 gH gJ ge gk gf gs gg gr RN) t H1 → tF t wHo s.heap H1 locs1 → lv_has ls1 9 [(2, .int yi), (0, .ref a0), (1, .int a1)] → WW63 H1 locs1 (F0 m 82 ls1 []) := by
      intro kk63
      induction kk63 with
      | zero =>
        intro yi H locs ls hk63 v63_0 v63_1 v63_2 hG hS hl
        refine (hWW63 _ _ _).mpr ?_
        refine lv_iload_n hx hb dX10_holds_82 rfl (lv_at hl 0 rfl) ?_
        refine lv_aload_n hx hb dX10_holds_83 rfl (lv_at hl 1 rfl) ?_
        obtain ⟨r_347, v_349, r_350, r_352, r_354, r_356, r_358, r_360, r_362, r_364, r_366, r_368, r_370, r_372, r_374, r_376, r_378, r_380, r_382, r_384, r_386, r_388, r_390, v_392, r_393, at_395, h_348, h_351, h_353, h_355, h_357, h_359, h_361, h_363, h_365, h_367, h_369, h_371, h_373, h_375, h_377, h_379, h_381, h_383, h_385, h_387, h_389, h_391, h_394⟩ := mF_o40 hG k_a0
        refine va_get (D := D) (ci := 9) (v := .int gI) (C := RX10) (T := TX10) (N := 36) hx hb hts in10 hown hK (va_one at_395) 0 rfl rfl 3 (by decide) (hts (.fieldLink RX10 163 "RiverModelModel" "items" "I") (List.mem_of_getElem? (i := 27) rfl)) (fun _ h9 => h9) rfl dX10_holds_84 ?_
        refine lv_icmp_ge (tgt := 142) hx hb dX10_holds_87 (by decide) (fun c_396 => ?_) (fun c_396 => ?_)
        · skip
          have c_396 : gI.toInt ≤ yi.toInt := q_le c_396
          exact (hWW63 _ _ _).mp (kx63 yi H locs ls v63_0 v63_1 v63_2 (by omega) hG hS (lv_sub hl [0, 1, 2] rfl))
        · skip
          have c_396 : yi.toInt < gI.toInt := q_nle c_396
          exfalso; omega
      | succ kk63 ih63 =>
        intro yi H locs ls hk63 v63_0 v63_1 v63_2 hG hS hl
        refine (hWW63 _ _ _).mpr ?_
        refine lv_iload_n hx hb dX10_holds_82 rfl (lv_at hl 0 rfl) ?_
        refine lv_pc (pc2 := 83) rfl ?_
        refine lv_aload_n hx hb dX10_holds_83 rfl (lv_at hl 1 rfl) ?_
        obtain ⟨r_397, v_399, r_400, r_402, r_404, r_406, r_408, r_410, r_412, r_414, r_416, r_418, r_420, r_422, r_424, r_426, r_428, r_430, r_432, r_434, r_436, r_438, r_440, v_442, r_443, at_445, h_398, h_401, h_403, h_405, h_407, h_409, h_411, h_413, h_415, h_417, h_419, h_421, h_423, h_425, h_427, h_429, h_431, h_433, h_435, h_437, h_439, h_441, h_444⟩ := mF_o40 hG k_a0
        refine va_get (D := D) (ci := 9) (v := .int gI) (C := RX10) (T := TX10) (N := 36) hx hb hts in10 hown hK (va_one at_445) 0 rfl rfl 3 (by decide) (hts (.fieldLink RX10 163 "RiverModelModel" "items" "I") (List.mem_of_getElem? (i := 27) rfl)) (fun _ h9 => h9) rfl dX10_holds_84 ?_
        refine lv_icmp_ge (tgt := 142) hx hb dX10_holds_87 (by decide) (fun c_446 => ?_) (fun c_446 => ?_)
        · skip
          have c_446 : gI.toInt ≤ yi.toInt := q_le c_446
          exact (hWW63 _ _ _).mp (kx63 yi H locs ls v63_0 v63_1 v63_2 (by omega) hG hS (lv_sub hl [0, 1, 2] rfl))
        · skip
          have c_446 : yi.toInt < gI.toInt := q_nle c_446
          refine lv_iconst (v := 3) hx hb dX10_holds_90 (by decide) ?_
          refine lv_bipush (v := 40) hx hb dX10_holds_91 (by decide) ?_
          refine lv_iload_n hx hb dX10_holds_93 rfl (lv_at hl 0 rfl) ?_
          refine lv_iadd hx hb dX10_holds_94 ?_
          refine lv_topi (fun x_447 e_448 => ?_)
          have i_x_447 : x_447.toInt = 40 + yi.toInt := by rw [e_448]; exact (q_add (by rw [show (40 : Int32).toInt = 40 by decide]; omega) (by rw [show (40 : Int32).toInt = 40 by decide]; omega)).trans (by rw [show (40 : Int32).toInt = 40 by decide])
          refine lv_imul hx hb dX10_holds_95 ?_
          refine lv_topi (fun x_449 e_450 => ?_)
          have i_x_449 : x_449.toInt = 3 * x_447.toInt := by rw [e_450]; exact (q_mul (by rw [show (3 : Int32).toInt = 3 by decide]; omega) (by rw [show (3 : Int32).toInt = 3 by decide]; omega)).trans (by rw [show (3 : Int32).toInt = 3 by decide])
          refine lv_pc (pc2 := 96) rfl ?_
          refine lv_istore_n (lv' := [(3, .int x_449), (2, .int yi), (0, .ref a0), (1, .int a1)]) hx hb dX10_holds_96 rfl hl (by decide) rfl (fun ls hl => ?_)
          refine lv_aload_n hx hb dX10_holds_97 rfl (lv_at hl 2 rfl) ?_
          refine va_get (D := D) (ci := 9) (v := .ref r_400) (C := RX10) (T := TX10) (N := 36) hx hb hts in10 hown hK (va_one at_445) 0 rfl rfl 4 (by decide) (hts (.fieldLink RX10 13 "RiverModelModel" "kind" "[I") (List.mem_of_getElem? (i := 28) rfl)) (fun _ h9 => h9) rfl dX10_holds_98 ?_
          refine lv_bipush (v := 40) hx hb dX10_holds_101 (by decide) ?_
          refine lv_iload_n hx hb dX10_holds_103 rfl (lv_at hl 1 rfl) ?_
          refine lv_iadd hx hb dX10_holds_104 ?_
          refine lv_topi (fun x_451 e_452 => ?_)
          have i_x_451 : x_451.toInt = 40 + yi.toInt := by rw [e_452]; exact (q_add (by rw [show (40 : Int32).toInt = 40 by decide]; omega) (by rw [show (40 : Int32).toInt = 40 by decide]; omega)).trans (by rw [show (40 : Int32).toInt = 40 by decide])
          have at_453 := mF_o42 hG h_401
          have b_454 : vp_in x_451 120 := (q_in (by omega) (by omega))
          refine va_iald hx hb hK (va_one at_453) 0 0 rfl rfl b_454 dX10_holds_105 ?_
          refine lv_topi (fun x_455 e_456 => ?_)
          have w_x_455 : x_455 = K_54 (40 + yi.toInt).toNat := by rw [e_456]; exact congrArg (fun q : Int => K_54 q.toNat) (show x_451.toInt = 40 + yi.toInt by omega)
          have i_x_455 : x_455.toInt = (K_54 (40 + yi.toInt).toNat).toInt := by rw [w_x_455]
          refine lv_aload_n hx hb dX10_holds_106 rfl (lv_at hl 2 rfl) ?_
          refine lv_pc (pc2 := 107) rfl ?_
          refine va_get (D := D) (ci := 9) (v := .ref r_406) (C := RX10) (T := TX10) (N := 36) hx hb hts in10 hown hK (va_one at_445) 0 rfl rfl 7 (by decide) (hts (.fieldLink RX10 22 "RiverModelModel" "number" "[I") (List.mem_of_getElem? (i := 29) rfl)) (fun _ h9 => h9) rfl dX10_holds_107 ?_
          refine lv_iload_n hx hb dX10_holds_110 rfl (lv_at hl 0 rfl) ?_
          have at_457 := mF_o45 hG h_407
          have b_458 : vp_in x_449 360 := (q_in (by omega) (by omega))
          refine va_iald hx hb hK (va_one at_457) 0 0 rfl rfl b_458 dX10_holds_111 ?_
          refine lv_topi (fun x_459 e_460 => ?_)
          have w_x_459 : x_459 = n1 (3 * (40 + yi.toInt)).toNat := by rw [e_460]; exact congrArg (fun q : Int => n1 q.toNat) (show x_449.toInt = 3 * (40 + yi.toInt) by omega)
          have i_x_459 : x_459.toInt = (n1 (3 * (40 + yi.toInt)).toNat).toInt := by rw [w_x_459]
          refine lv_aload_n hx hb dX10_holds_112 rfl (lv_at hl 2 rfl) ?_
          refine va_get (D := D) (ci := 9) (v := .ref r_406) (C := RX10) (T := TX10) (N := 36) hx hb hts in10 hown hK (va_one at_445) 0 rfl rfl 7 (by decide) (hts (.fieldLink RX10 22 "RiverModelModel" "number" "[I") (List.mem_of_getElem? (i := 29) rfl)) (fun _ h9 => h9) rfl dX10_holds_113 ?_
          refine lv_iload_n hx hb dX10_holds_116 rfl (lv_at hl 0 rfl) ?_
          refine lv_iconst (v := 1) hx hb dX10_holds_117 (by decide) ?_
          refine lv_iadd hx hb dX10_holds_118 ?_
          refine lv_topi (fun x_461 e_462 => ?_)
          have i_x_461 : x_461.toInt = x_449.toInt + 1 := by rw [e_462]; exact (q_add (by rw [show (1 : Int32).toInt = 1 by decide]; omega) (by rw [show (1 : Int32).toInt = 1 by decide]; omega)).trans (by rw [show (1 : Int32).toInt = 1 by decide])
          refine lv_pc (pc2 := 119) rfl ?_
          have b_463 : vp_in x_461 360 := (q_in (by omega) (by omega))
          refine va_iald hx hb hK (va_one at_457) 0 0 rfl rfl b_463 dX10_holds_119 ?_
          refine lv_topi (fun x_464 e_465 => ?_)
          have w_x_464 : x_464 = n1 (3 * (40 + yi.toInt) + 1).toNat := by rw [e_465]; exact congrArg (fun q : Int => n1 q.toNat) (show x_461.toInt = 3 * (40 + yi.toInt) + 1 by omega)
          have i_x_464 : x_464.toInt = (n1 (3 * (40 + yi.toInt) + 1).toNat).toInt := by rw [w_x_464]
          refine lv_aload_n hx hb dX10_holds_120 rfl (lv_at hl 2 rfl) ?_
          refine va_get (D := D) (ci := 9) (v := .ref r_406) (C := RX10) (T := TX10) (N := 36) hx hb hts in10 hown hK (va_one at_445) 0 rfl rfl 7 (by decide) (hts (.fieldLink RX10 22 "RiverModelModel" "number" "[I") (List.mem_of_getElem? (i := 29) rfl)) (fun _ h9 => h9) rfl dX10_holds_121 ?_
          refine lv_iload_n hx hb dX10_holds_124 rfl (lv_at hl 0 rfl) ?_
          refine lv_iconst (v := 2) hx hb dX10_holds_125 (by decide) ?_
          refine lv_iadd hx hb dX10_holds_126 ?_
          refine lv_topi (fun x_466 e_467 => ?_)
          have i_x_466 : x_466.toInt = x_449.toInt + 2 := by rw [e_467]; exact (q_add (by rw [show (2 : Int32).toInt = 2 by decide]; omega) (by rw [show (2 : Int32).toInt = 2 by decide]; omega)).trans (by rw [show (2 : Int32).toInt = 2 by decide])
          have b_468 : vp_in x_466 360 := (q_in (by omega) (by omega))
          refine va_iald hx hb hK (va_one at_457) 0 0 rfl rfl b_468 dX10_holds_127 ?_
          refine lv_topi (fun x_469 e_470 => ?_)
          have w_x_469 : x_469 = n1 (3 * (40 + yi.toInt) + 2).toNat := by rw [e_470]; exact congrArg (fun q : Int => n1 q.toNat) (show x_466.toInt = 3 * (40 + yi.toInt) + 2 by omega)
          have i_x_469 : x_469.toInt = (n1 (3 * (40 + yi.toInt) + 2).toNat).toInt := by rw [w_x_469]
          refine ty_calli (W.runS (As := [.int x_455, .int x_459, .int x_464, .int x_469]) (rest := []) ⟨hx, hb, hml, hown, hts⟩ (m_X10_areWell l D t cI cL cC gC gE gW gA gT gI gS gM K_54 F_55 S_56 n1 gH gJ ge gk gf gs gg gr RN x_455 x_459 x_464 x_469  uq  ) (va_cwS 4 hts gu_X10_holds_X10_areWell_144 rfl rfl rfl (by decide +kernel) ⟨Nat.le_of_ble_eq_true rfl, Nat.le_of_ble_eq_true rfl⟩) (tP_S hG hE) rfl rfl hl.1 rfl (lv_room (Nat.le_of_ble_eq_true rfl)) dX10_holds_128 ⟨Nat.le_of_ble_eq_true rfl, Nat.le_of_ble_eq_true rfl⟩) hS (fun k h => by simp [wr0] at h) (fun r_471 H locs hp_472 hG hS o_473 => ?_)
          have at_445 := va_at.keptC at_445 o_473 k_a0 rfl
          have at_453 := va_at.keptC at_453 o_473 h_401 rfl
          have at_457 := va_at.keptC at_457 o_473 h_407 rfl
          have hp_472 : (r_471 = 1 ∧ weOk x_455 x_459 x_464) ∨ (r_471 = 0) := hp_472
          rcases hp_472 with ⟨rfl, p_475⟩ | rfl
          · skip
            refine lv_pc (pc2 := 131) rfl ?_
            refine lv_if_ne (tgt := 136) hx hb dX10_holds_131 (by decide) (fun _ => ?_) (fun q => absurd q (by decide))
            obtain ⟨x_476, e_477⟩ : ∃ y : Int32, y = yi + Int32.ofInt 1 := ⟨_, rfl⟩
            have i_x_476 : x_476.toInt = yi.toInt + 1 := by rw [e_477, show Int32.ofInt 1 = 1 by decide]; exact (q_add (by rw [show (1 : Int32).toInt = 1 by decide]; omega) (by rw [show (1 : Int32).toInt = 1 by decide]; omega)).trans (by rw [show (1 : Int32).toInt = 1 by decide])
            refine lv_iinc (v := x_476) (lv' := [(2, .int x_476), (3, .int x_449), (0, .ref a0), (1, .int a1)]) hx hb dX10_holds_136 hl (k := 1) rfl e_477.symm (by decide) rfl (fun ls hl => ?_)
            refine lv_goto (tgt := 82) hx hb dX10_holds_139 (by decide) ?_
            exact (hWW63 _ _ _).mp (ih63 x_476 H locs ls (by omega) (by omega) (by omega) (by rw [show x_476.toInt = yi.toInt + 1 by omega]; exact welM.step v63_2 (fun q => by have := p_475.1 (by omega); omega) (fun q => by have := p_475.2 (by omega); omega)) hG hS (lv_sub hl [0, 2, 3] rfl))
          · skip
            refine lv_if_ne (tgt := 136) hx hb dX10_holds_131 (by decide) (fun q => absurd rfl q) (fun _ => ?_)
            refine lv_iconst (v := 0) hx hb dX10_holds_134 (by decide) ?_
            exact tx_zret (z := (K_54, F_55, S_56, n1, gH, gJ)) hx hb hr hlk rfl hG hS (Or.inr ⟨rfl, (by show gH = gH; omega), (show kpO K K_54 40 40 from p_58.2), (show kpO F F_55 40 40 from p_59.2), (show kpO S S_56 40 40 from p_60.2), (show kpO N n1 120 120 from v62_2)⟩) dX10_holds_135
    exact lp63 (gI.toInt - (0 : Int32).toInt : Int).toNat 0 H locs ls (by omega) (by omega) (by omega) (by rw [zi_0]; exact welM.zero) hG hS (lv_sub hl [0, 1, 2] rfl)
  have lp62 : ∀ (kk62 : Nat) (yk : Int32) (n1 : Nat → Int32) (H1 : Heap) (locs1 : List Loc) (ls1 : Array Slot), 2 - yk.toInt ≤ (kk62 : Int) → (0 ≤ yk.toInt) → (yk.toInt ≤ 2) → (kpO N n1 120 120) → tG D (mF cI cL cC gC gE gW gA gT gI gS gM K_54 F_55 S_56 n1 gH gJ ge gk gf gs gg gr RN) t H1 → tF t wHo s.heap H1 locs1 → lv_has ls1 9 [(2, .int yk), (0, .ref a0), (1, .int a1)] → WW62 H1 locs1 (F0 m 8 ls1 []) := by
    intro kk62
    induction kk62 with
    | zero =>
      intro yk n1 H locs ls hk62 v62_0 v62_1 v62_2 hG hS hl
      refine (hWW62 _ _ _).mpr ?_
      refine lv_iload_n hx hb dX10_holds_8 rfl (lv_at hl 0 rfl) ?_
      refine lv_iconst (v := 2) hx hb dX10_holds_9 (by decide) ?_
      refine lv_pc (pc2 := 10) rfl ?_
      refine lv_icmp_ge (tgt := 80) hx hb dX10_holds_10 (by decide) (fun c_478 => ?_) (fun c_478 => ?_)
      · skip
        have c_478 : 2 ≤ yk.toInt := q_le c_478
        exact (hWW62 _ _ _).mp (kx62 yk n1 H locs ls v62_0 v62_1 v62_2 hG hS (lv_sub hl [0, 1, 2] rfl))
      · skip
        have c_478 : yk.toInt < 2 := q_nle c_478
        exfalso; omega
    | succ kk62 ih62 =>
      intro yk n1 H locs ls hk62 v62_0 v62_1 v62_2 hG hS hl
      refine (hWW62 _ _ _).mpr ?_
      refine lv_iload_n hx hb dX10_holds_8 rfl (lv_at hl 0 rfl) ?_
      refine lv_iconst (v := 2) hx hb dX10_holds_9 (by decide) ?_
      refine lv_icmp_ge (tgt := 80) hx hb dX10_holds_10 (by decide) (fun c_479 => ?_) (fun c_479 => ?_)
      · skip
        have c_479 : 2 ≤ yk.toInt := q_le c_479
        exact (hWW62 _ _ _).mp (kx62 yk n1 H locs ls v62_0 v62_1 v62_2 hG hS (lv_sub hl [0, 1, 2] rfl))
      · skip
        have c_479 : yk.toInt < 2 := q_nle c_479
        refine lv_aload_n hx hb dX10_holds_13 rfl (lv_at hl 1 rfl) ?_
        obtain ⟨r_480, v_482, r_483, r_485, r_487, r_489, r_491, r_493, r_495, r_497, r_499, r_501, r_503, r_505, r_507, r_509, r_511, r_513, r_515, r_517, r_519, r_521, r_523, v_525, r_526, at_528, h_481, h_484, h_486, h_488, h_490, h_492, h_494, h_496, h_498, h_500, h_502, h_504, h_506, h_508, h_510, h_512, h_514, h_516, h_518, h_520, h_522, h_524, h_527⟩ := mF_o40 hG k_a0
        refine va_get (D := D) (ci := 9) (v := .ref r_513) (C := RX10) (T := TX10) (N := 36) hx hb hts in10 hown hK (va_one at_528) 0 rfl rfl 22 (by decide) (hts (.fieldLink RX10 59 "RiverModelModel" "knobMany" "[I") (List.mem_of_getElem? (i := 32) rfl)) (fun _ h9 => h9) rfl dX10_holds_14 ?_
        refine lv_iload_n hx hb dX10_holds_17 rfl (lv_at hl 0 rfl) ?_
        obtain ⟨f_529, at_530, h_531⟩ := mF_o57 hG h_514
        have b_532 : vp_in yk 2 := (q_in (by omega) (by omega))
        refine va_iald hx hb hK (va_one at_530) 0 0 rfl rfl b_532 dX10_holds_18 ?_
        refine lv_topi (fun x_533 e_534 => ?_)
        have i_x_533 := by have h := h_531 _ (q_inlt b_532); rw [← e_534] at h; exact h
        refine lv_pc (pc2 := 19) rfl ?_
        refine lv_if_le (tgt := 74) hx hb dX10_holds_19 (by decide) (fun c_535 => ?_) (fun c_535 => ?_)
        · skip
          have c_535 : x_533.toInt ≤ 0 := q_le c_535
          obtain ⟨x_536, e_537⟩ : ∃ y : Int32, y = yk + Int32.ofInt 1 := ⟨_, rfl⟩
          have i_x_536 : x_536.toInt = yk.toInt + 1 := by rw [e_537, show Int32.ofInt 1 = 1 by decide]; exact (q_add (by rw [show (1 : Int32).toInt = 1 by decide]; omega) (by rw [show (1 : Int32).toInt = 1 by decide]; omega)).trans (by rw [show (1 : Int32).toInt = 1 by decide])
          refine lv_iinc (v := x_536) (lv' := [(2, .int x_536), (0, .ref a0), (1, .int a1)]) hx hb dX10_holds_74 hl (k := 0) rfl e_537.symm (by decide) rfl (fun ls hl => ?_)
          refine lv_goto (tgt := 8) hx hb dX10_holds_77 (by decide) ?_
          exact (hWW62 _ _ _).mp (ih62 x_536 n1 H locs ls (by omega) (by omega) (by omega) v62_2 hG hS (lv_sub hl [0, 1, 2] rfl))
        · skip
          have c_535 : 0 < x_533.toInt := q_nle c_535
          refine lv_aload_n hx hb dX10_holds_22 rfl (lv_at hl 1 rfl) ?_
          refine va_get (D := D) (ci := 9) (v := .ref r_489) (C := RX10) (T := TX10) (N := 36) hx hb hts in10 hown hK (va_one at_528) 0 rfl rfl 7 (by decide) (hts (.fieldLink RX10 22 "RiverModelModel" "number" "[I") (List.mem_of_getElem? (i := 29) rfl)) (fun _ h9 => h9) rfl dX10_holds_23 ?_
          refine lv_iconst (v := 3) hx hb dX10_holds_26 (by decide) ?_
          refine lv_aload_n hx hb dX10_holds_27 rfl (lv_at hl 1 rfl) ?_
          refine va_get (D := D) (ci := 9) (v := .ref r_505) (C := RX10) (T := TX10) (N := 36) hx hb hts in10 hown hK (va_one at_528) 0 rfl rfl 18 (by decide) (hts (.fieldLink RX10 47 "RiverModelModel" "knobItem" "[I") (List.mem_of_getElem? (i := 33) rfl)) (fun _ h9 => h9) rfl dX10_holds_28 ?_
          refine lv_pc (pc2 := 31) rfl ?_
          refine lv_iload_n hx hb dX10_holds_31 rfl (lv_at hl 0 rfl) ?_
          obtain ⟨f_538, at_539, h_540⟩ := mF_o53 hG h_506
          have b_541 : vp_in yk 2 := (q_in (by omega) (by omega))
          refine va_iald hx hb hK (va_one at_539) 0 0 rfl rfl b_541 dX10_holds_32 ?_
          refine lv_topi (fun x_542 e_543 => ?_)
          have i_x_542 := by have h := h_540 _ (q_inlt b_541); rw [← e_543] at h; exact h
          refine lv_imul hx hb dX10_holds_33 ?_
          refine lv_topi (fun x_544 e_545 => ?_)
          have i_x_544 : x_544.toInt = 3 * x_542.toInt := by rw [e_545]; exact (q_mul (by rw [show (3 : Int32).toInt = 3 by decide]; omega) (by rw [show (3 : Int32).toInt = 3 by decide]; omega)).trans (by rw [show (3 : Int32).toInt = 3 by decide])
          refine lv_aload_n hx hb dX10_holds_34 rfl (lv_at hl 1 rfl) ?_
          refine va_get (D := D) (ci := 9) (v := .ref r_507) (C := RX10) (T := TX10) (N := 36) hx hb hts in10 hown hK (va_one at_528) 0 rfl rfl 19 (by decide) (hts (.fieldLink RX10 50 "RiverModelModel" "knobAt" "[I") (List.mem_of_getElem? (i := 34) rfl)) (fun _ h9 => h9) rfl dX10_holds_35 ?_
          refine lv_iload_n hx hb dX10_holds_38 rfl (lv_at hl 0 rfl) ?_
          obtain ⟨f_546, at_547, h_548⟩ := mF_o54 hG h_508
          have b_549 : vp_in yk 2 := (q_in (by omega) (by omega))
          refine va_iald hx hb hK (va_one at_547) 0 0 rfl rfl b_549 dX10_holds_39 ?_
          refine lv_topi (fun x_550 e_551 => ?_)
          have i_x_550 := by have h := h_548 _ (q_inlt b_549); rw [← e_551] at h; exact h
          refine lv_iadd hx hb dX10_holds_40 ?_
          refine lv_topi (fun x_552 e_553 => ?_)
          have i_x_552 : x_552.toInt = x_544.toInt + x_550.toInt := by rw [e_553]; exact (q_add (by omega) (by omega)).trans (by rfl)
          refine lv_pc (pc2 := 41) rfl ?_
          have at_554 := mF_o45 hG h_490
          have b_555 : vp_in x_552 360 := (q_in (by omega) (by omega))
          refine va_iald hx hb hK (va_one at_554) 0 0 rfl rfl b_555 dX10_holds_41 ?_
          refine lv_topi (fun x_556 e_557 => ?_)
          have w_x_556 : x_556 = n1 (x_552.toInt).toNat := by rw [e_557]; exact congrArg (fun q : Int => n1 q.toNat) (show x_552.toInt = x_552.toInt by omega)
          have i_x_556 : x_556.toInt = (n1 (x_552.toInt).toNat).toInt := by rw [w_x_556]
          refine lv_if_lt (tgt := 74) hx hb dX10_holds_42 (by decide) (fun c_558 => ?_) (fun c_558 => ?_)
          · skip
            have c_558 : x_556.toInt < 0 := q_lt c_558
            obtain ⟨x_559, e_560⟩ : ∃ y : Int32, y = yk + Int32.ofInt 1 := ⟨_, rfl⟩
            have i_x_559 : x_559.toInt = yk.toInt + 1 := by rw [e_560, show Int32.ofInt 1 = 1 by decide]; exact (q_add (by rw [show (1 : Int32).toInt = 1 by decide]; omega) (by rw [show (1 : Int32).toInt = 1 by decide]; omega)).trans (by rw [show (1 : Int32).toInt = 1 by decide])
            refine lv_iinc (v := x_559) (lv' := [(2, .int x_559), (0, .ref a0), (1, .int a1)]) hx hb dX10_holds_74 hl (k := 0) rfl e_560.symm (by decide) rfl (fun ls hl => ?_)
            refine lv_goto (tgt := 8) hx hb dX10_holds_77 (by decide) ?_
            exact (hWW62 _ _ _).mp (ih62 x_559 n1 H locs ls (by omega) (by omega) (by omega) v62_2 hG hS (lv_sub hl [0, 1, 2] rfl))
          · skip
            have c_558 : 0 ≤ x_556.toInt := q_nlt c_558
            refine lv_aload_n hx hb dX10_holds_45 rfl (lv_at hl 1 rfl) ?_
            refine va_get (D := D) (ci := 9) (v := .ref r_489) (C := RX10) (T := TX10) (N := 36) hx hb hts in10 hown hK (va_one at_528) 0 rfl rfl 7 (by decide) (hts (.fieldLink RX10 22 "RiverModelModel" "number" "[I") (List.mem_of_getElem? (i := 29) rfl)) (fun _ h9 => h9) rfl dX10_holds_46 ?_
            refine lv_bipush (v := 120) hx hb dX10_holds_49 (by decide) ?_
            refine lv_iconst (v := 3) hx hb dX10_holds_51 (by decide) ?_
            refine lv_pc (pc2 := 52) rfl ?_
            refine lv_aload_n hx hb dX10_holds_52 rfl (lv_at hl 1 rfl) ?_
            refine va_get (D := D) (ci := 9) (v := .ref r_505) (C := RX10) (T := TX10) (N := 36) hx hb hts in10 hown hK (va_one at_528) 0 rfl rfl 18 (by decide) (hts (.fieldLink RX10 47 "RiverModelModel" "knobItem" "[I") (List.mem_of_getElem? (i := 33) rfl)) (fun _ h9 => h9) rfl dX10_holds_53 ?_
            refine lv_iload_n hx hb dX10_holds_56 rfl (lv_at hl 0 rfl) ?_
            have b_561 : vp_in yk 2 := (q_in (by omega) (by omega))
            refine va_iald hx hb hK (va_one at_539) 0 0 rfl rfl b_561 dX10_holds_57 ?_
            refine lv_seti (y := x_542) e_543.symm ?_
            refine lv_imul hx hb dX10_holds_58 ?_
            refine lv_topi (fun x_562 e_563 => ?_)
            have i_x_562 : x_562.toInt = 3 * x_542.toInt := by rw [e_563]; exact (q_mul (by rw [show (3 : Int32).toInt = 3 by decide]; omega) (by rw [show (3 : Int32).toInt = 3 by decide]; omega)).trans (by rw [show (3 : Int32).toInt = 3 by decide])
            refine lv_iadd hx hb dX10_holds_59 ?_
            refine lv_topi (fun x_564 e_565 => ?_)
            have i_x_564 : x_564.toInt = 120 + x_562.toInt := by rw [e_565]; exact (q_add (by rw [show (120 : Int32).toInt = 120 by decide]; omega) (by rw [show (120 : Int32).toInt = 120 by decide]; omega)).trans (by rw [show (120 : Int32).toInt = 120 by decide])
            refine lv_aload_n hx hb dX10_holds_60 rfl (lv_at hl 1 rfl) ?_
            refine va_get (D := D) (ci := 9) (v := .ref r_507) (C := RX10) (T := TX10) (N := 36) hx hb hts in10 hown hK (va_one at_528) 0 rfl rfl 19 (by decide) (hts (.fieldLink RX10 50 "RiverModelModel" "knobAt" "[I") (List.mem_of_getElem? (i := 34) rfl)) (fun _ h9 => h9) rfl dX10_holds_61 ?_
            refine lv_pc (pc2 := 64) rfl ?_
            refine lv_iload_n hx hb dX10_holds_64 rfl (lv_at hl 0 rfl) ?_
            have b_566 : vp_in yk 2 := (q_in (by omega) (by omega))
            refine va_iald hx hb hK (va_one at_547) 0 0 rfl rfl b_566 dX10_holds_65 ?_
            refine lv_seti (y := x_550) e_551.symm ?_
            refine lv_iadd hx hb dX10_holds_66 ?_
            refine lv_topi (fun x_567 e_568 => ?_)
            have i_x_567 : x_567.toInt = x_564.toInt + x_550.toInt := by rw [e_568]; exact (q_add (by omega) (by omega)).trans (by rfl)
            refine lv_aload_n hx hb dX10_holds_67 rfl (lv_at hl 1 rfl) ?_
            refine lv_iload_n hx hb dX10_holds_68 rfl (lv_at hl 0 rfl) ?_
            refine lv_iload_n hx hb dX10_holds_69 rfl (lv_at hl 2 rfl) ?_
            refine ty_calli (W.runV (As := [.int yk, .int a1]) (rest := [.int x_567, .ref r_489]) ⟨hx, hb, hml, hown, hts⟩ (m_X10_knobValue l D t cI cL cC gC gE gW gA gT gI gS gM K_54 F_55 S_56 n1 gH gJ ge gk gf gs gg gr RN a0 yk a1  uq (by omega) (by omega) k_a0) (cwV 2 hts gu_X10_holds_X10_knobValue_268 rfl rfl rfl (by decide +kernel) ⟨Nat.le_of_ble_eq_true rfl, Nat.le_of_ble_eq_true rfl⟩) (tP_V hG hE at_528 rfl) rfl rfl hl.1 rfl (lv_room (Nat.le_of_ble_eq_true rfl)) dX10_holds_70 ⟨Nat.le_of_ble_eq_true rfl, Nat.le_of_ble_eq_true rfl⟩) hS (fun k h => by simp [wr0] at h) (fun r_569 H locs hp_570 hG hS o_571 => ?_)
            have at_528 := va_at.keptC at_528 o_571 k_a0 rfl
            have at_530 := va_at.keptC at_530 o_571 h_514 rfl
            have at_539 := va_at.keptC at_539 o_571 h_506 rfl
            have at_547 := va_at.keptC at_547 o_571 h_508 rfl
            have at_554 := va_at.keptC at_554 o_571 h_490 rfl
            have b_573 : vp_in x_567 360 := (q_in (by omega) (by omega))
            obtain ⟨q_574, eq_574⟩ : ∃ q : Nat → Int32, q = upd n1 x_567.toNatClampNeg r_569 := ⟨_, rfl⟩
            refine ty_iast (F2 := (mF cI cL cC gC gE gW gA gT gI gS gM K_54 F_55 S_56 q_574 gH gJ ge gk gf gs gg gr RN)) hx hb hK hG hS 0 at_554 (by rw [h_490]; rfl) rfl b_573 (by rw [h_490]; show _ = _; rw [eq_574]) (fun hG b hb h0 => by obtain ⟨e, g1, g2⟩ := hG b h0; exact ⟨e, g1, mF_N (fun h => hb (uq b r_489 (h.trans h_490.symm) h0)) g2⟩) dX10_holds_73 (fun H locs hG hS at_575 o_576 => ?_)
            have at_528 := va_at.keptK at_528 o_576 h_490 k_a0 rfl
            have at_530 := va_at.keptK at_530 o_576 h_490 h_514 rfl
            have at_539 := va_at.keptK at_539 o_576 h_490 h_506 rfl
            have at_547 := va_at.keptK at_547 o_576 h_490 h_508 rfl
            refine lv_pc (pc2 := 74) rfl ?_
            obtain ⟨x_577, e_578⟩ : ∃ y : Int32, y = yk + Int32.ofInt 1 := ⟨_, rfl⟩
            have i_x_577 : x_577.toInt = yk.toInt + 1 := by rw [e_578, show Int32.ofInt 1 = 1 by decide]; exact (q_add (by rw [show (1 : Int32).toInt = 1 by decide]; omega) (by rw [show (1 : Int32).toInt = 1 by decide]; omega)).trans (by rw [show (1 : Int32).toInt = 1 by decide])
            refine lv_iinc (v := x_577) (lv' := [(2, .int x_577), (0, .ref a0), (1, .int a1)]) hx hb dX10_holds_74 hl (k := 0) rfl e_578.symm (by decide) rfl (fun ls hl => ?_)
            refine lv_goto (tgt := 8) hx hb dX10_holds_77 (by decide) ?_
            exact (hWW62 _ _ _).mp (ih62 x_577 q_574 H locs ls (by omega) (by omega) (by omega) (kpO.upd v62_2 (by decide) (i := x_567.toInt) (by omega) eq_574) hG hS (lv_sub hl [0, 1, 2] rfl))
  exact lp62 (2 - (0 : Int32).toInt : Int).toNat 0 N_57 H locs ls (by omega) (by omega) (by omega) p_61.2 hG hS (lv_sub hl [0, 1, 2] rfl)
