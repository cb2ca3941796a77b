theorem dX8_putRain_0 : decode cX8_putRain 0 = .ok (.aload_n 0, 1) := by decide +kernel
theorem dX8_putRain_1 : decode cX8_putRain 1 = .ok (.iload_n 1, 1) := by decide +kernel
theorem dX8_putRain_2 : decode cX8_putRain 2 = .ok (.iload_n 2, 1) := by decide +kernel
theorem dX8_putRain_3 : decode cX8_putRain 3 = .ok (.invokevirtual 21, 3) := by decide +kernel
theorem dX8_putRain_6 : decode cX8_putRain 6 = .ok (.istore 4, 2) := by decide +kernel
theorem dX8_putRain_8 : decode cX8_putRain 8 = .ok (.iload_n 1, 1) := by decide +kernel
theorem dX8_putRain_9 : decode cX8_putRain 9 = .ok (.invokestatic 25, 3) := by decide +kernel
theorem dX8_putRain_12 : decode cX8_putRain 12 = .ok (.ifCond .ne 25, 3) := by decide +kernel
theorem dX8_putRain_15 : decode cX8_putRain 15 = .ok (.iload_n 2, 1) := by decide +kernel
theorem dX8_putRain_16 : decode cX8_putRain 16 = .ok (.iconst 0, 1) := by decide +kernel
theorem dX8_putRain_17 : decode cX8_putRain 17 = .ok (.bipush 23, 2) := by decide +kernel
theorem dX8_putRain_19 : decode cX8_putRain 19 = .ok (.invokestatic 29, 3) := by decide +kernel
theorem dX8_putRain_22 : decode cX8_putRain 22 = .ok (.ifCond .ne 15, 3) := by decide +kernel
theorem dX8_putRain_25 : decode cX8_putRain 25 = .ok (.aload_n 0, 1) := by decide +kernel
theorem dX8_putRain_26 : decode cX8_putRain 26 = .ok (.getfield 18, 3) := by decide +kernel
theorem dX8_putRain_29 : decode cX8_putRain 29 = .ok (.iload_n 1, 1) := by decide +kernel
theorem dX8_putRain_30 : decode cX8_putRain 30 = .ok (.bipush 24, 2) := by decide +kernel
theorem dX8_putRain_32 : decode cX8_putRain 32 = .ok (.imul, 1) := by decide +kernel
theorem dX8_putRain_33 : decode cX8_putRain 33 = .ok (.iload_n 2, 1) := by decide +kernel
theorem dX8_putRain_34 : decode cX8_putRain 34 = .ok (.iadd, 1) := by decide +kernel
theorem dX8_putRain_35 : decode cX8_putRain 35 = .ok (.iload_n 3, 1) := by decide +kernel
theorem dX8_putRain_36 : decode cX8_putRain 36 = .ok (.iastore, 1) := by decide +kernel
theorem dX8_putRain_37 : decode cX8_putRain 37 = .ok (.iload 4, 2) := by decide +kernel
theorem dX8_putRain_39 : decode cX8_putRain 39 = .ok (.ireturn, 1) := by decide +kernel
theorem dX9_weather_0 : decode cX9_weather 0 = .ok (.iload_n 1, 1) := by decide +kernel
theorem dX9_weather_1 : decode cX9_weather 1 = .ok (.iconst 0, 1) := by decide +kernel
theorem dX9_weather_2 : decode cX9_weather 2 = .ok (.iconst 1, 1) := by decide +kernel
theorem dX9_weather_3 : decode cX9_weather 3 = .ok (.invokestatic 99, 3) := by decide +kernel
theorem dX9_weather_6 : decode cX9_weather 6 = .ok (.ifCond .ne 13, 3) := by decide +kernel
theorem dX9_weather_9 : decode cX9_weather 9 = .ok (.iload_n 2, 1) := by decide +kernel
theorem dX9_weather_10 : decode cX9_weather 10 = .ok (.iconst 0, 1) := by decide +kernel
theorem dX9_weather_11 : decode cX9_weather 11 = .ok (.bipush 95, 2) := by decide +kernel
theorem dX9_weather_13 : decode cX9_weather 13 = .ok (.invokestatic 99, 3) := by decide +kernel
theorem dX9_weather_16 : decode cX9_weather 16 = .ok (.ifCond .eq 5, 3) := by decide +kernel
theorem dX9_weather_19 : decode cX9_weather 19 = .ok (.iconst (-1), 1) := by decide +kernel
theorem dX9_weather_20 : decode cX9_weather 20 = .ok (.ireturn, 1) := by decide +kernel
theorem dX9_weather_21 : decode cX9_weather 21 = .ok (.iload_n 3, 1) := by decide +kernel
theorem dX9_weather_22 : decode cX9_weather 22 = .ok (.iconst 0, 1) := by decide +kernel
theorem dX9_weather_23 : decode cX9_weather 23 = .ok (.sipush 10000, 3) := by decide +kernel
theorem dX9_weather_26 : decode cX9_weather 26 = .ok (.invokestatic 99, 3) := by decide +kernel
theorem dX9_weather_29 : decode cX9_weather 29 = .ok (.ifCond .ne 15, 3) := by decide +kernel
theorem dX9_weather_32 : decode cX9_weather 32 = .ok (.iload 4, 2) := by decide +kernel
theorem dX9_weather_34 : decode cX9_weather 34 = .ok (.bipush (-30), 2) := by decide +kernel
theorem dX9_weather_36 : decode cX9_weather 36 = .ok (.bipush 40, 2) := by decide +kernel
theorem dX9_weather_38 : decode cX9_weather 38 = .ok (.invokestatic 99, 3) := by decide +kernel
theorem dX9_weather_41 : decode cX9_weather 41 = .ok (.ifCond .eq 5, 3) := by decide +kernel
theorem dX9_weather_44 : decode cX9_weather 44 = .ok (.iconst (-1), 1) := by decide +kernel
theorem dX9_weather_45 : decode cX9_weather 45 = .ok (.ireturn, 1) := by decide +kernel
theorem dX9_weather_46 : decode cX9_weather 46 = .ok (.iload_n 1, 1) := by decide +kernel
theorem dX9_weather_47 : decode cX9_weather 47 = .ok (.ifCond .ne 10, 3) := by decide +kernel
theorem dX9_weather_50 : decode cX9_weather 50 = .ok (.aload_n 0, 1) := by decide +kernel
theorem dX9_weather_51 : decode cX9_weather 51 = .ok (.getfield 39, 3) := by decide +kernel
theorem dX9_weather_54 : decode cX9_weather 54 = .ok (.goto 7, 3) := by decide +kernel
theorem dX9_weather_57 : decode cX9_weather 57 = .ok (.aload_n 0, 1) := by decide +kernel
theorem dX9_weather_58 : decode cX9_weather 58 = .ok (.getfield 43, 3) := by decide +kernel
theorem dX9_weather_61 : decode cX9_weather 61 = .ok (.astore 5, 2) := by decide +kernel
theorem dX9_weather_63 : decode cX9_weather 63 = .ok (.aload 5, 2) := by decide +kernel
theorem dX9_weather_65 : decode cX9_weather 65 = .ok (.getfield 138, 3) := by decide +kernel
theorem dX9_weather_68 : decode cX9_weather 68 = .ok (.iload_n 2, 1) := by decide +kernel
theorem dX9_weather_69 : decode cX9_weather 69 = .ok (.iload_n 3, 1) := by decide +kernel
theorem dX9_weather_70 : decode cX9_weather 70 = .ok (.iastore, 1) := by decide +kernel
theorem dX9_weather_71 : decode cX9_weather 71 = .ok (.aload 5, 2) := by decide +kernel
theorem dX9_weather_73 : decode cX9_weather 73 = .ok (.getfield 141, 3) := by decide +kernel
theorem dX9_weather_76 : decode cX9_weather 76 = .ok (.iload_n 2, 1) := by decide +kernel
theorem dX9_weather_77 : decode cX9_weather 77 = .ok (.iload 4, 2) := by decide +kernel
theorem dX9_weather_79 : decode cX9_weather 79 = .ok (.iastore, 1) := by decide +kernel
theorem dX9_weather_80 : decode cX9_weather 80 = .ok (.iconst 0, 1) := by decide +kernel
theorem dX9_weather_81 : decode cX9_weather 81 = .ok (.ireturn, 1) := by decide +kernel
theorem dX9_weigh_0 : decode cX9_weigh 0 = .ok (.iload_n 1, 1) := by decide +kernel
theorem dX9_weigh_1 : decode cX9_weigh 1 = .ok (.invokestatic 256, 3) := by decide +kernel
theorem dX9_weigh_4 : decode cX9_weigh 4 = .ok (.ifCond .ne 13, 3) := by decide +kernel
theorem dX9_weigh_7 : decode cX9_weigh 7 = .ok (.iload_n 2, 1) := by decide +kernel
theorem dX9_weigh_8 : decode cX9_weigh 8 = .ok (.iconst 0, 1) := by decide +kernel
theorem dX9_weigh_9 : decode cX9_weigh 9 = .ok (.bipush 100, 2) := by decide +kernel
theorem dX9_weigh_11 : decode cX9_weigh 11 = .ok (.invokestatic 99, 3) := by decide +kernel
theorem dX9_weigh_14 : decode cX9_weigh 14 = .ok (.ifCond .eq 5, 3) := by decide +kernel
theorem dX9_weigh_17 : decode cX9_weigh 17 = .ok (.iconst (-1), 1) := by decide +kernel
theorem dX9_weigh_18 : decode cX9_weigh 18 = .ok (.ireturn, 1) := by decide +kernel
theorem dX9_weigh_19 : decode cX9_weigh 19 = .ok (.aload_n 0, 1) := by decide +kernel
theorem dX9_weigh_20 : decode cX9_weigh 20 = .ok (.getfield 88, 3) := by decide +kernel
theorem dX9_weigh_23 : decode cX9_weigh 23 = .ok (.getfield 259, 3) := by decide +kernel
theorem dX9_weigh_26 : decode cX9_weigh 26 = .ok (.iload_n 1, 1) := by decide +kernel
theorem dX9_weigh_27 : decode cX9_weigh 27 = .ok (.iaload, 1) := by decide +kernel
theorem dX9_weigh_28 : decode cX9_weigh 28 = .ok (.istore_n 3, 1) := by decide +kernel
theorem dX9_weigh_29 : decode cX9_weigh 29 = .ok (.aload_n 0, 1) := by decide +kernel
theorem dX9_weigh_30 : decode cX9_weigh 30 = .ok (.getfield 88, 3) := by decide +kernel
theorem dX9_weigh_33 : decode cX9_weigh 33 = .ok (.getfield 259, 3) := by decide +kernel
theorem dX9_weigh_36 : decode cX9_weigh 36 = .ok (.iload_n 1, 1) := by decide +kernel
theorem dX9_weigh_37 : decode cX9_weigh 37 = .ok (.iload_n 2, 1) := by decide +kernel
theorem dX9_weigh_38 : decode cX9_weigh 38 = .ok (.iastore, 1) := by decide +kernel
theorem dX9_weigh_39 : decode cX9_weigh 39 = .ok (.iload_n 3, 1) := by decide +kernel
theorem dX9_weigh_40 : decode cX9_weigh 40 = .ok (.ireturn, 1) := by decide +kernel
theorem dX9_rain_0 : decode cX9_rain 0 = .ok (.iload_n 1, 1) := by decide +kernel
theorem dX9_rain_1 : decode cX9_rain 1 = .ok (.invokestatic 256, 3) := by decide +kernel
theorem dX9_rain_4 : decode cX9_rain 4 = .ok (.ifCond .ne 24, 3) := by decide +kernel
theorem dX9_rain_7 : decode cX9_rain 7 = .ok (.iload_n 2, 1) := by decide +kernel
theorem dX9_rain_8 : decode cX9_rain 8 = .ok (.iconst 0, 1) := by decide +kernel
theorem dX9_rain_9 : decode cX9_rain 9 = .ok (.bipush 23, 2) := by decide +kernel
theorem dX9_rain_11 : decode cX9_rain 11 = .ok (.invokestatic 99, 3) := by decide +kernel
theorem dX9_rain_14 : decode cX9_rain 14 = .ok (.ifCond .ne 14, 3) := by decide +kernel
theorem dX9_rain_17 : decode cX9_rain 17 = .ok (.iload_n 3, 1) := by decide +kernel
theorem dX9_rain_18 : decode cX9_rain 18 = .ok (.iconst 0, 1) := by decide +kernel
theorem dX9_rain_19 : decode cX9_rain 19 = .ok (.sipush 10000, 3) := by decide +kernel
theorem dX9_rain_22 : decode cX9_rain 22 = .ok (.invokestatic 99, 3) := by decide +kernel
theorem dX9_rain_25 : decode cX9_rain 25 = .ok (.ifCond .eq 5, 3) := by decide +kernel
theorem dX9_rain_28 : decode cX9_rain 28 = .ok (.iconst (-1), 1) := by decide +kernel
theorem dX9_rain_29 : decode cX9_rain 29 = .ok (.ireturn, 1) := by decide +kernel
theorem dX9_rain_30 : decode cX9_rain 30 = .ok (.aload_n 0, 1) := by decide +kernel
theorem dX9_rain_31 : decode cX9_rain 31 = .ok (.getfield 88, 3) := by decide +kernel
theorem dX9_rain_34 : decode cX9_rain 34 = .ok (.iload_n 1, 1) := by decide +kernel
theorem dX9_rain_35 : decode cX9_rain 35 = .ok (.iload_n 2, 1) := by decide +kernel
theorem dX9_rain_36 : decode cX9_rain 36 = .ok (.iload_n 3, 1) := by decide +kernel
theorem dX9_rain_37 : decode cX9_rain 37 = .ok (.invokevirtual 262, 3) := by decide +kernel
theorem dX9_rain_40 : decode cX9_rain 40 = .ok (.ireturn, 1) := by decide +kernel
theorem dX9_count_0 : decode cX9_count 0 = .ok (.iload_n 1, 1) := by decide +kernel
theorem dX9_count_1 : decode cX9_count 1 = .ok (.tableswitch 153 0 8 #[51, 59, 78, 97, 116, 124, 132, 140, 148], 51) := by decide +kernel
theorem dX9_count_52 : decode cX9_count 52 = .ok (.aload_n 0, 1) := by decide +kernel
theorem dX9_count_53 : decode cX9_count 53 = .ok (.getfield 10, 3) := by decide +kernel
theorem dX9_count_56 : decode cX9_count 56 = .ok (.getfield 103, 3) := by decide +kernel
theorem dX9_count_59 : decode cX9_count 59 = .ok (.ireturn, 1) := by decide +kernel
theorem dX9_count_60 : decode cX9_count 60 = .ok (.aload_n 0, 1) := by decide +kernel
theorem dX9_count_61 : decode cX9_count 61 = .ok (.getfield 29, 3) := by decide +kernel
theorem dX9_count_64 : decode cX9_count 64 = .ok (.ifCond .eq 13, 3) := by decide +kernel
theorem dX9_count_67 : decode cX9_count 67 = .ok (.aload_n 0, 1) := by decide +kernel
theorem dX9_count_68 : decode cX9_count 68 = .ok (.getfield 19, 3) := by decide +kernel
theorem dX9_count_71 : decode cX9_count 71 = .ok (.getfield 124, 3) := by decide +kernel
theorem dX9_count_74 : decode cX9_count 74 = .ok (.goto 4, 3) := by decide +kernel
theorem dX9_count_77 : decode cX9_count 77 = .ok (.iconst 0, 1) := by decide +kernel
theorem dX9_count_78 : decode cX9_count 78 = .ok (.ireturn, 1) := by decide +kernel
theorem dX9_count_79 : decode cX9_count 79 = .ok (.aload_n 0, 1) := by decide +kernel
theorem dX9_count_80 : decode cX9_count 80 = .ok (.getfield 29, 3) := by decide +kernel
theorem dX9_count_83 : decode cX9_count 83 = .ok (.ifCond .eq 13, 3) := by decide +kernel
theorem dX9_count_86 : decode cX9_count 86 = .ok (.aload_n 0, 1) := by decide +kernel
theorem dX9_count_87 : decode cX9_count 87 = .ok (.getfield 19, 3) := by decide +kernel
theorem dX9_count_90 : decode cX9_count 90 = .ok (.getfield 114, 3) := by decide +kernel
theorem dX9_count_93 : decode cX9_count 93 = .ok (.goto 4, 3) := by decide +kernel
theorem dX9_count_96 : decode cX9_count 96 = .ok (.iconst 0, 1) := by decide +kernel
theorem dX9_count_97 : decode cX9_count 97 = .ok (.ireturn, 1) := by decide +kernel
theorem dX9_count_98 : decode cX9_count 98 = .ok (.aload_n 0, 1) := by decide +kernel
theorem dX9_count_99 : decode cX9_count 99 = .ok (.getfield 29, 3) := by decide +kernel
theorem dX9_count_102 : decode cX9_count 102 = .ok (.ifCond .eq 13, 3) := by decide +kernel
theorem dX9_count_105 : decode cX9_count 105 = .ok (.aload_n 0, 1) := by decide +kernel
theorem dX9_count_106 : decode cX9_count 106 = .ok (.getfield 19, 3) := by decide +kernel
theorem dX9_count_109 : decode cX9_count 109 = .ok (.getfield 333, 3) := by decide +kernel
theorem dX9_count_112 : decode cX9_count 112 = .ok (.goto 4, 3) := by decide +kernel
theorem dX9_count_115 : decode cX9_count 115 = .ok (.iconst 0, 1) := by decide +kernel
theorem dX9_count_116 : decode cX9_count 116 = .ok (.ireturn, 1) := by decide +kernel
theorem dX9_count_117 : decode cX9_count 117 = .ok (.aload_n 0, 1) := by decide +kernel
theorem dX9_count_118 : decode cX9_count 118 = .ok (.getfield 53, 3) := by decide +kernel
theorem dX9_count_121 : decode cX9_count 121 = .ok (.getfield 144, 3) := by decide +kernel
theorem dX9_count_124 : decode cX9_count 124 = .ok (.ireturn, 1) := by decide +kernel
theorem dX9_count_125 : decode cX9_count 125 = .ok (.aload_n 0, 1) := by decide +kernel
theorem dX9_count_126 : decode cX9_count 126 = .ok (.getfield 81, 3) := by decide +kernel
theorem dX9_count_129 : decode cX9_count 129 = .ok (.invokevirtual 336, 3) := by decide +kernel
theorem dX9_count_132 : decode cX9_count 132 = .ok (.ireturn, 1) := by decide +kernel
theorem dX9_count_133 : decode cX9_count 133 = .ok (.aload_n 0, 1) := by decide +kernel
theorem dX9_count_134 : decode cX9_count 134 = .ok (.getfield 74, 3) := by decide +kernel
theorem dX9_count_137 : decode cX9_count 137 = .ok (.invokevirtual 339, 3) := by decide +kernel
theorem dX9_count_140 : decode cX9_count 140 = .ok (.ireturn, 1) := by decide +kernel
theorem dX9_count_141 : decode cX9_count 141 = .ok (.aload_n 0, 1) := by decide +kernel
theorem dX9_count_142 : decode cX9_count 142 = .ok (.getfield 74, 3) := by decide +kernel
theorem dX9_count_145 : decode cX9_count 145 = .ok (.invokevirtual 340, 3) := by decide +kernel
theorem dX9_count_148 : decode cX9_count 148 = .ok (.ireturn, 1) := by decide +kernel
theorem dX9_count_149 : decode cX9_count 149 = .ok (.aload_n 0, 1) := by decide +kernel
theorem dX9_count_150 : decode cX9_count 150 = .ok (.getfield 67, 3) := by decide +kernel
theorem dX9_count_153 : decode cX9_count 153 = .ok (.ireturn, 1) := by decide +kernel
theorem dX9_count_154 : decode cX9_count 154 = .ok (.iconst (-1), 1) := by decide +kernel
theorem dX9_count_155 : decode cX9_count 155 = .ok (.ireturn, 1) := by decide +kernel
def uX9_count : List Cond := .code yX9_count cX9_count 2 (some .int) :: ([.fieldLink RX9 10 "RiverModel" "text" "LRiverModel$Text;", .fieldLink RX9 103 "RiverModel$Text" "length" "I", .fieldLink RX9 29 "RiverModel" "isBuilt" "Z", .fieldLink RX9 19 "RiverModel" "model" "LRiverModel$Model;", .fieldLink RX9 124 "RiverModel$Model" "many" "I", .fieldLink RX9 114 "RiverModel$Model" "stores" "I", .fieldLink RX9 333 "RiverModel$Model" "gates" "I", .fieldLink RX9 53 "RiverModel" "now" "LRiverModel$Course;", .fieldLink RX9 144 "RiverModel$Course" "hours" "I", .fieldLink RX9 81 "RiverModel" "knobs" "LRiverModel$Knobs;", .methodLink RX9 336 yX3_setMany, .instanceMethod yX3_setMany, .selects RX3 yX3_setMany yX3_setMany, .initialized RX3, .fieldLink RX9 74 "RiverModel" "gauges" "LRiverModel$Gauges;", .methodLink RX9 339 yX1_setMany, .instanceMethod yX1_setMany, .selects RX1 yX1_setMany yX1_setMany, .initialized RX1, .methodLink RX9 340 yX1_seenMany, .instanceMethod yX1_seenMany, .selects RX1 yX1_seenMany yX1_seenMany, .fieldLink RX9 67 "RiverModel" "keptMany" "I", .code yX3_setMany cX3_setMany 1 (some .int), .methodLink RX3 37 yX3_isSet, .instanceMethod yX3_isSet, .selects RX3 yX3_isSet yX3_isSet, .code yX3_isSet cX3_isSet 2 (some .boolean), .fieldLink RX3 24 "RiverModel$Knobs" "manys" "[I", .code yX1_setMany cX1_setMany 3 (some .int), .methodLink RX1 35 yX1_isSet, .instanceMethod yX1_isSet, .selects RX1 yX1_isSet yX1_isSet, .code yX1_isSet cX1_isSet 2 (some .boolean), .fieldLink RX1 9 "RiverModel$Gauges" "whats" "[I", .code yX1_seenMany cX1_seenMany 3 (some .int), .fieldLink RX1 18 "RiverModel$Gauges" "seen" "[I"] ++ wsX90 ++ wsX70 ++ wsX40 ++ wsX00 ++ wsX30 ++ wsX10)
set_option maxRecDepth 20000 in
theorem gu_X9_count_X3_setMany_336 : GoodIn uX9_count (wsV RX9 336 RX3 yX3_setMany uX3_setMany) := goodIn_r _ [11, 12, 13, 14, 24, 25, 26, 27, 14, 28, 29, 74, 75, 76, 77, 78] rfl (by decide +kernel)
set_option maxRecDepth 20000 in
theorem gu_X9_count_X1_setMany_339 : GoodIn uX9_count (wsV RX9 339 RX1 yX1_setMany uX1_setMany) := goodIn_r _ [16, 17, 18, 19, 30, 31, 32, 33, 19, 34, 35, 79, 80, 81, 82] rfl (by decide +kernel)
set_option maxRecDepth 20000 in
theorem gu_X9_count_X1_seenMany_340 : GoodIn uX9_count (wsV RX9 340 RX1 yX1_seenMany uX1_seenMany) := goodIn_r _ [20, 21, 22, 19, 36, 37, 79, 80, 81, 82] rfl (by decide +kernel)
set_option maxHeartbeats 4000000 in
set_option maxRecDepth 100000 in
theorem s_X9_count (l : Launch) (D : va_G) (t : Nat → Nat) (cI cL cC : ClassId) (gC : Int32) (gE : Int32) (G : Nat) (gW : Nat → Int32) (gA : Nat → Int32) (a0 : Nat) (a1 : Int32) (k_a0 : t a0 = 1) : tM l yX9_count uX9_count 2 43 D (gF cI cL cC gC gE G gW gA) (gF cI cL cC gC gE G gW gA) t cI cL cC [.ref a0, .int a1] wr0 (pI (fun r => True)) := by
  refine tM.ofW (cc := cX9_count) (maxL := 2) (ret := (some .int)) (by decide) rfl (Nat.le_of_ble_eq_true rfl) ?_
  intro p e s m below meth c hx hb hr hml hown hts hlk H locs hG hK hE hS ls hl
  have hl : lv_has ls 2 [(0, .ref a0), (1, .int a1)] := hl
  have in9 : ∀ w ∈ wsX90, w ∈ uX9_count := fun w h => List.mem_cons_of_mem _ (List.mem_append_left _ (List.mem_append_left _ (List.mem_append_left _ (List.mem_append_left _ (List.mem_append_left _ (List.mem_append_right _ h))))))
  have in7 : ∀ w ∈ wsX70, w ∈ uX9_count := fun w h => List.mem_cons_of_mem _ (List.mem_append_left _ (List.mem_append_left _ (List.mem_append_left _ (List.mem_append_left _ (List.mem_append_right _ h)))))
  have in4 : ∀ w ∈ wsX40, w ∈ uX9_count := fun w h => List.mem_cons_of_mem _ (List.mem_append_left _ (List.mem_append_left _ (List.mem_append_left _ (List.mem_append_right _ h))))
  have in0 : ∀ w ∈ wsX00, w ∈ uX9_count := fun w h => List.mem_cons_of_mem _ (List.mem_append_left _ (List.mem_append_left _ (List.mem_append_right _ h)))
  refine lv_iload_n hx hb dX9_count_0 rfl (lv_at hl 1 rfl) ?_
  by_cases k_1 : a1.toInt = 0
  · refine lv_tableIn (tgt := 52) hx hb dX9_count_1 (by rw [k_1]; decide) (by rw [k_1]; decide) (by rw [k_1]; rfl) (by decide) ?_
    refine lv_aload_n hx hb dX9_count_52 rfl (lv_at hl 0 rfl) ?_
    obtain ⟨r_2, r_4, r_6, r_8, v_10, v_11, r_12, r_14, r_16, r_18, r_20, r_22, r_24, v_26, r_28, r_30, r_32, r_34, at_36, h_3, h_5, h_7, h_9, h_13, h_15, h_17, h_19, h_21, h_23, h_25, h_27, h_29, h_31, h_33, h_35⟩ := gF_o1 hG k_a0
    refine va_get (D := D) (ci := 8) (v := .ref r_2) (C := RX9) (T := TX9) (N := 18) hx hb hts in9 hown hK (va_one at_36) 0 rfl rfl 0 (by decide) (hts (.fieldLink RX9 10 "RiverModel" "text" "LRiverModel$Text;") (List.mem_of_getElem? (i := 1) rfl)) (fun _ h9 => h9) rfl dX9_count_53 ?_
    obtain ⟨r_37, r_39, v_41, at_43, h_38, h_40, h_42⟩ := gF_o2 hG h_3
    refine va_get (D := D) (ci := 6) (v := .int gC) (C := RX7) (T := TX7) (N := 4) hx hb hts in7 hown hK (va_one at_43) 0 rfl rfl 2 (by decide) (hts (.fieldLink RX9 103 "RiverModel$Text" "length" "I") (List.mem_of_getElem? (i := 2) rfl)) (fun _ h9 => h9) rfl dX9_count_56 ?_
    exact ty_iret hx hb hr hlk hG hS True.intro dX9_count_59
  by_cases k_44 : a1.toInt = 1
  · refine lv_tableIn (tgt := 60) hx hb dX9_count_1 (by rw [k_44]; decide) (by rw [k_44]; decide) (by rw [k_44]; rfl) (by decide) ?_
    refine lv_aload_n hx hb dX9_count_60 rfl (lv_at hl 0 rfl) ?_
    refine lv_pc (pc2 := 61) rfl ?_
    obtain ⟨r_45, r_47, r_49, r_51, v_53, v_54, r_55, r_57, r_59, r_61, r_63, r_65, r_67, v_69, r_71, r_73, r_75, r_77, at_79, h_46, h_48, h_50, h_52, h_56, h_58, h_60, h_62, h_64, h_66, h_68, h_70, h_72, h_74, h_76, h_78⟩ := gF_o1 hG k_a0
    refine va_get (D := D) (ci := 8) (v := .int v_53) (C := RX9) (T := TX9) (N := 18) hx hb hts in9 hown hK (va_one at_79) 0 rfl rfl 4 (by decide) (hts (.fieldLink RX9 29 "RiverModel" "isBuilt" "Z") (List.mem_of_getElem? (i := 3) rfl)) (fun _ h9 => h9) rfl dX9_count_61 ?_
    refine lv_if_eq (tgt := 77) hx hb dX9_count_64 (by decide) (fun c_80 => ?_) (fun c_80 => ?_)
    · skip
      have c_80 : v_53.toInt = 0 := q_eq c_80
      refine lv_iconst (v := 0) hx hb dX9_count_77 (by decide) ?_
      exact ty_iret hx hb hr hlk hG hS True.intro dX9_count_78
    · skip
      have c_80 : v_53.toInt ≠ 0 := q_ne c_80
      refine lv_aload_n hx hb dX9_count_67 rfl (lv_at hl 0 rfl) ?_
      refine va_get (D := D) (ci := 8) (v := .ref r_47) (C := RX9) (T := TX9) (N := 18) hx hb hts in9 hown hK (va_one at_79) 0 rfl rfl 1 (by decide) (hts (.fieldLink RX9 19 "RiverModel" "model" "LRiverModel$Model;") (List.mem_of_getElem? (i := 4) rfl)) (fun _ h9 => h9) rfl dX9_count_68 ?_
      obtain ⟨r_81, r_83, r_85, v_87, v_88, v_89, at_91, h_82, h_84, h_86, h_90⟩ := gF_o3 hG h_48
      refine va_get (D := D) (ci := 3) (v := .int v_87) (C := RX4) (T := TX4) (N := 6) hx hb hts in4 hown hK (va_one at_91) 0 rfl rfl 3 (by decide) (hts (.fieldLink RX9 124 "RiverModel$Model" "many" "I") (List.mem_of_getElem? (i := 5) rfl)) (fun _ h9 => h9) rfl dX9_count_71 ?_
      refine lv_goto (tgt := 78) hx hb dX9_count_74 (by decide) ?_
      refine lv_pc (pc2 := 78) rfl ?_
      exact ty_iret hx hb hr hlk hG hS True.intro dX9_count_78
  by_cases k_92 : a1.toInt = 2
  · refine lv_tableIn (tgt := 79) hx hb dX9_count_1 (by rw [k_92]; decide) (by rw [k_92]; decide) (by rw [k_92]; rfl) (by decide) ?_
    refine lv_aload_n hx hb dX9_count_79 rfl (lv_at hl 0 rfl) ?_
    obtain ⟨r_93, r_95, r_97, r_99, v_101, v_102, r_103, r_105, r_107, r_109, r_111, r_113, r_115, v_117, r_119, r_121, r_123, r_125, at_127, h_94, h_96, h_98, h_100, h_104, h_106, h_108, h_110, h_112, h_114, h_116, h_118, h_120, h_122, h_124, h_126⟩ := gF_o1 hG k_a0
    refine va_get (D := D) (ci := 8) (v := .int v_101) (C := RX9) (T := TX9) (N := 18) hx hb hts in9 hown hK (va_one at_127) 0 rfl rfl 4 (by decide) (hts (.fieldLink RX9 29 "RiverModel" "isBuilt" "Z") (List.mem_of_getElem? (i := 3) rfl)) (fun _ h9 => h9) rfl dX9_count_80 ?_
    refine lv_if_eq (tgt := 96) hx hb dX9_count_83 (by decide) (fun c_128 => ?_) (fun c_128 => ?_)
    · skip
      have c_128 : v_101.toInt = 0 := q_eq c_128
      refine lv_iconst (v := 0) hx hb dX9_count_96 (by decide) ?_
      exact ty_iret hx hb hr hlk hG hS True.intro dX9_count_97
    · skip
      have c_128 : v_101.toInt ≠ 0 := q_ne c_128
      refine lv_aload_n hx hb dX9_count_86 rfl (lv_at hl 0 rfl) ?_
      refine va_get (D := D) (ci := 8) (v := .ref r_95) (C := RX9) (T := TX9) (N := 18) hx hb hts in9 hown hK (va_one at_127) 0 rfl rfl 1 (by decide) (hts (.fieldLink RX9 19 "RiverModel" "model" "LRiverModel$Model;") (List.mem_of_getElem? (i := 4) rfl)) (fun _ h9 => h9) rfl dX9_count_87 ?_
      refine lv_pc (pc2 := 90) rfl ?_
      obtain ⟨r_129, r_131, r_133, v_135, v_136, v_137, at_139, h_130, h_132, h_134, h_138⟩ := gF_o3 hG h_96
      refine va_get (D := D) (ci := 3) (v := .int v_136) (C := RX4) (T := TX4) (N := 6) hx hb hts in4 hown hK (va_one at_139) 0 rfl rfl 4 (by decide) (hts (.fieldLink RX9 114 "RiverModel$Model" "stores" "I") (List.mem_of_getElem? (i := 6) rfl)) (fun _ h9 => h9) rfl dX9_count_90 ?_
      refine lv_goto (tgt := 97) hx hb dX9_count_93 (by decide) ?_
      exact ty_iret hx hb hr hlk hG hS True.intro dX9_count_97
  by_cases k_140 : a1.toInt = 3
  · refine lv_tableIn (tgt := 98) hx hb dX9_count_1 (by rw [k_140]; decide) (by rw [k_140]; decide) (by rw [k_140]; rfl) (by decide) ?_
    refine lv_aload_n hx hb dX9_count_98 rfl (lv_at hl 0 rfl) ?_
    obtain ⟨r_141, r_143, r_145, r_147, v_149, v_150, r_151, r_153, r_155, r_157, r_159, r_161, r_163, v_165, r_167, r_169, r_171, r_173, at_175, h_142, h_144, h_146, h_148, h_152, h_154, h_156, h_158, h_160, h_162, h_164, h_166, h_168, h_170, h_172, h_174⟩ := gF_o1 hG k_a0
    refine va_get (D := D) (ci := 8) (v := .int v_149) (C := RX9) (T := TX9) (N := 18) hx hb hts in9 hown hK (va_one at_175) 0 rfl rfl 4 (by decide) (hts (.fieldLink RX9 29 "RiverModel" "isBuilt" "Z") (List.mem_of_getElem? (i := 3) rfl)) (fun _ h9 => h9) rfl dX9_count_99 ?_
    refine lv_if_eq (tgt := 115) hx hb dX9_count_102 (by decide) (fun c_176 => ?_) (fun c_176 => ?_)
    · skip
      have c_176 : v_149.toInt = 0 := q_eq c_176
      refine lv_iconst (v := 0) hx hb dX9_count_115 (by decide) ?_
      exact ty_iret hx hb hr hlk hG hS True.intro dX9_count_116
    · skip
      have c_176 : v_149.toInt ≠ 0 := q_ne c_176
      refine lv_pc (pc2 := 105) rfl ?_
      refine lv_aload_n hx hb dX9_count_105 rfl (lv_at hl 0 rfl) ?_
      refine va_get (D := D) (ci := 8) (v := .ref r_143) (C := RX9) (T := TX9) (N := 18) hx hb hts in9 hown hK (va_one at_175) 0 rfl rfl 1 (by decide) (hts (.fieldLink RX9 19 "RiverModel" "model" "LRiverModel$Model;") (List.mem_of_getElem? (i := 4) rfl)) (fun _ h9 => h9) rfl dX9_count_106 ?_
      obtain ⟨r_177, r_179, r_181, v_183, v_184, v_185, at_187, h_178, h_180, h_182, h_186⟩ := gF_o3 hG h_144
      refine va_get (D := D) (ci := 3) (v := .int v_185) (C := RX4) (T := TX4) (N := 6) hx hb hts in4 hown hK (va_one at_187) 0 rfl rfl 5 (by decide) (hts (.fieldLink RX9 333 "RiverModel$Model" "gates" "I") (List.mem_of_getElem? (i := 7) rfl)) (fun _ h9 => h9) rfl dX9_count_109 ?_
      refine lv_goto (tgt := 116) hx hb dX9_count_112 (by decide) ?_
      exact ty_iret hx hb hr hlk hG hS True.intro dX9_count_116
  by_cases k_188 : a1.toInt = 4
  · refine lv_tableIn (tgt := 117) hx hb dX9_count_1 (by rw [k_188]; decide) (by rw [k_188]; decide) (by rw [k_188]; rfl) (by decide) ?_
    refine lv_aload_n hx hb dX9_count_117 rfl (lv_at hl 0 rfl) ?_
    obtain ⟨r_189, r_191, r_193, r_195, v_197, v_198, r_199, r_201, r_203, r_205, r_207, r_209, r_211, v_213, r_215, r_217, r_219, r_221, at_223, h_190, h_192, h_194, h_196, h_200, h_202, h_204, h_206, h_208, h_210, h_212, h_214, h_216, h_218, h_220, h_222⟩ := gF_o1 hG k_a0
    refine va_get (D := D) (ci := 8) (v := .ref r_205) (C := RX9) (T := TX9) (N := 18) hx hb hts in9 hown hK (va_one at_223) 0 rfl rfl 9 (by decide) (hts (.fieldLink RX9 53 "RiverModel" "now" "LRiverModel$Course;") (List.mem_of_getElem? (i := 8) rfl)) (fun _ h9 => h9) rfl dX9_count_118 ?_
    obtain ⟨r_224, r_226, r_228, r_230, v_232, v_233, v_234, v_235, at_237, h_225, h_227, h_229, h_231, h_236⟩ := gF_o5 hG h_206
    refine va_get (D := D) (ci := 0) (v := .int v_235) (C := RX0) (T := TX0) (N := 8) hx hb hts in0 hown hK (va_one at_237) 0 rfl rfl 7 (by decide) (hts (.fieldLink RX9 144 "RiverModel$Course" "hours" "I") (List.mem_of_getElem? (i := 9) rfl)) (fun _ h9 => h9) rfl dX9_count_121 ?_
    refine lv_pc (pc2 := 124) rfl ?_
    exact ty_iret hx hb hr hlk hG hS True.intro dX9_count_124
  by_cases k_238 : a1.toInt = 5
  · refine lv_tableIn (tgt := 125) hx hb dX9_count_1 (by rw [k_238]; decide) (by rw [k_238]; decide) (by rw [k_238]; rfl) (by decide) ?_
    refine lv_aload_n hx hb dX9_count_125 rfl (lv_at hl 0 rfl) ?_
    obtain ⟨r_239, r_241, r_243, r_245, v_247, v_248, r_249, r_251, r_253, r_255, r_257, r_259, r_261, v_263, r_265, r_267, r_269, r_271, at_273, h_240, h_242, h_244, h_246, h_250, h_252, h_254, h_256, h_258, h_260, h_262, h_264, h_266, h_268, h_270, h_272⟩ := gF_o1 hG k_a0
    refine va_get (D := D) (ci := 8) (v := .ref r_267) (C := RX9) (T := TX9) (N := 18) hx hb hts in9 hown hK (va_one at_273) 0 rfl rfl 15 (by decide) (hts (.fieldLink RX9 81 "RiverModel" "knobs" "LRiverModel$Knobs;") (List.mem_of_getElem? (i := 10) rfl)) (fun _ h9 => h9) rfl dX9_count_126 ?_
    obtain ⟨r_274, r_276, r_278, r_280, r_282, at_284, h_275, h_277, h_279, h_281, h_283⟩ := gF_o7 hG h_268
    refine ty_calli ((W.runV (As := []) (rest := []) ⟨hx, hb, hml, hown, hts⟩ (s_X3_setMany l D t cI cL cC gC gE G gW gA r_267 h_268) (cwV 0 hts gu_X9_count_X3_setMany_336 rfl rfl rfl (by decide +kernel) ⟨Nat.le_of_ble_eq_true rfl, Nat.le_of_ble_eq_true rfl⟩) (tP_V hG hE at_284 rfl) rfl rfl hl.1 rfl (lv_room (Nat.le_of_ble_eq_true rfl)) dX9_count_129 ⟨Nat.le_of_ble_eq_true rfl, Nat.le_of_ble_eq_true rfl⟩)) hS (fun _ h => h) (fun r_285 H locs hp_286 hG hS o_287 => ?_)
    have at_273 := va_at.keptC at_273 o_287 k_a0 rfl
    have at_284 := va_at.keptC at_284 o_287 h_268 rfl
    exact ty_iret hx hb hr hlk hG hS True.intro dX9_count_132
  by_cases k_288 : a1.toInt = 6
  · refine lv_tableIn (tgt := 133) hx hb dX9_count_1 (by rw [k_288]; decide) (by rw [k_288]; decide) (by rw [k_288]; rfl) (by decide) ?_
    refine lv_aload_n hx hb dX9_count_133 rfl (lv_at hl 0 rfl) ?_
    obtain ⟨r_289, r_291, r_293, r_295, v_297, v_298, r_299, r_301, r_303, r_305, r_307, r_309, r_311, v_313, r_315, r_317, r_319, r_321, at_323, h_290, h_292, h_294, h_296, h_300, h_302, h_304, h_306, h_308, h_310, h_312, h_314, h_316, h_318, h_320, h_322⟩ := gF_o1 hG k_a0
    refine va_get (D := D) (ci := 8) (v := .ref r_315) (C := RX9) (T := TX9) (N := 18) hx hb hts in9 hown hK (va_one at_323) 0 rfl rfl 14 (by decide) (hts (.fieldLink RX9 74 "RiverModel" "gauges" "LRiverModel$Gauges;") (List.mem_of_getElem? (i := 15) rfl)) (fun _ h9 => h9) rfl dX9_count_134 ?_
    obtain ⟨r_324, r_326, r_328, at_330, h_325, h_327, h_329⟩ := gF_o6 hG h_316
    refine ty_calli ((W.runV (As := []) (rest := []) ⟨hx, hb, hml, hown, hts⟩ (s_X1_setMany l D t cI cL cC gC gE G gW gA r_315 h_316) (cwV 0 hts gu_X9_count_X1_setMany_339 rfl rfl rfl (by decide +kernel) ⟨Nat.le_of_ble_eq_true rfl, Nat.le_of_ble_eq_true rfl⟩) (tP_V hG hE at_330 rfl) rfl rfl hl.1 rfl (lv_room (Nat.le_of_ble_eq_true rfl)) dX9_count_137 ⟨Nat.le_of_ble_eq_true rfl, Nat.le_of_ble_eq_true rfl⟩)) hS (fun _ h => h) (fun r_331 H locs hp_332 hG hS o_333 => ?_)
    have at_323 := va_at.keptC at_323 o_333 k_a0 rfl
    have at_330 := va_at.keptC at_330 o_333 h_316 rfl
    refine lv_pc (pc2 := 140) rfl ?_
    exact ty_iret hx hb hr hlk hG hS True.intro dX9_count_140
  by_cases k_334 : a1.toInt = 7
  · refine lv_tableIn (tgt := 141) hx hb dX9_count_1 (by rw [k_334]; decide) (by rw [k_334]; decide) (by rw [k_334]; rfl) (by decide) ?_
    refine lv_aload_n hx hb dX9_count_141 rfl (lv_at hl 0 rfl) ?_
    obtain ⟨r_335, r_337, r_339, r_341, v_343, v_344, r_345, r_347, r_349, r_351, r_353, r_355, r_357, v_359, r_361, r_363, r_365, r_367, at_369, h_336, h_338, h_340, h_342, h_346, h_348, h_350, h_352, h_354, h_356, h_358, h_360, h_362, h_364, h_366, h_368⟩ := gF_o1 hG k_a0
    refine va_get (D := D) (ci := 8) (v := .ref r_361) (C := RX9) (T := TX9) (N := 18) hx hb hts in9 hown hK (va_one at_369) 0 rfl rfl 14 (by decide) (hts (.fieldLink RX9 74 "RiverModel" "gauges" "LRiverModel$Gauges;") (List.mem_of_getElem? (i := 15) rfl)) (fun _ h9 => h9) rfl dX9_count_142 ?_
    obtain ⟨r_370, r_372, r_374, at_376, h_371, h_373, h_375⟩ := gF_o6 hG h_362
    refine ty_calli ((W.runV (As := []) (rest := []) ⟨hx, hb, hml, hown, hts⟩ (s_X1_seenMany l D t cI cL cC gC gE G gW gA r_361 h_362) (cwV 0 hts gu_X9_count_X1_seenMany_340 rfl rfl rfl (by decide +kernel) ⟨Nat.le_of_ble_eq_true rfl, Nat.le_of_ble_eq_true rfl⟩) (tP_V hG hE at_376 rfl) rfl rfl hl.1 rfl (lv_room (Nat.le_of_ble_eq_true rfl)) dX9_count_145 ⟨Nat.le_of_ble_eq_true rfl, Nat.le_of_ble_eq_true rfl⟩)) hS (fun _ h => h) (fun r_377 H locs hp_378 hG hS o_379 => ?_)
    have at_369 := va_at.keptC at_369 o_379 k_a0 rfl
    have at_376 := va_at.keptC at_376 o_379 h_362 rfl
    exact ty_iret hx hb hr hlk hG hS True.intro dX9_count_148
  by_cases k_380 : a1.toInt = 8
  · refine lv_tableIn (tgt := 149) hx hb dX9_count_1 (by rw [k_380]; decide) (by rw [k_380]; decide) (by rw [k_380]; rfl) (by decide) ?_
    refine lv_aload_n hx hb dX9_count_149 rfl (lv_at hl 0 rfl) ?_
    obtain ⟨r_381, r_383, r_385, r_387, v_389, v_390, r_391, r_393, r_395, r_397, r_399, r_401, r_403, v_405, r_407, r_409, r_411, r_413, at_415, h_382, h_384, h_386, h_388, h_392, h_394, h_396, h_398, h_400, h_402, h_404, h_406, h_408, h_410, h_412, h_414⟩ := gF_o1 hG k_a0
    refine va_get (D := D) (ci := 8) (v := .int v_405) (C := RX9) (T := TX9) (N := 18) hx hb hts in9 hown hK (va_one at_415) 0 rfl rfl 13 (by decide) (hts (.fieldLink RX9 67 "RiverModel" "keptMany" "I") (List.mem_of_getElem? (i := 23) rfl)) (fun _ h9 => h9) rfl dX9_count_150 ?_
    exact ty_iret hx hb hr hlk hG hS True.intro dX9_count_153
  refine lv_tableOut (tgt := 154) hx hb dX9_count_1 (by omega) (by decide) ?_
  refine lv_pc (pc2 := 154) rfl ?_
  refine lv_iconst (v := (-1)) hx hb dX9_count_154 (by decide) ?_
  exact ty_iret hx hb hr hlk hG hS True.intro dX9_count_155

def uX9_weather : List Cond := .code yX9_weather cX9_weather 6 (some .int) :: ([.methodLink RX9 99 yX9_isOutside, .static yX9_isOutside, .initialized RX9, .fieldLink RX9 43 "RiverModel" "skyB" "LRiverModel$Sky;", .fieldLink RX9 138 "RiverModel$Sky" "rains" "[I", .fieldLink RX9 141 "RiverModel$Sky" "temps" "[I", .fieldLink RX9 39 "RiverModel" "skyA" "LRiverModel$Sky;", .code yX9_isOutside cX9_isOutside 3 (some .boolean)] ++ wsX90 ++ wsX60)
set_option maxRecDepth 20000 in
theorem gu_X9_weather_X9_isOutside_99 : GoodIn uX9_weather (va_wsS RX9 99 yX9_isOutside uX9_isOutside) := goodIn_r _ [1, 2, 3, 8] rfl (by decide +kernel)
set_option maxHeartbeats 4000000 in
set_option maxRecDepth 100000 in
theorem s_X9_weather (l : Launch) (D : va_G) (t : Nat → Nat) (cI cL cC : ClassId) (gC : Int32) (gE : Int32) (G : Nat) (gW : Nat → Int32) (gA : Nat → Int32) (a0 : Nat) (a1 : Int32) (a2 : Int32) (a3 : Int32) (a4 : Int32) (k_a0 : t a0 = 1) : tM l yX9_weather uX9_weather 1 22 D (gF cI cL cC gC gE G gW gA) (gF cI cL cC gC gE G gW gA) t cI cL cC [.ref a0, .int a1, .int a2, .int a3, .int a4] wrSk (pI (fun r => r = aww a1 a2 a3 a4)) := by
  refine tM.ofW (cc := cX9_weather) (maxL := 6) (ret := (some .int)) (by decide) rfl (Nat.le_of_ble_eq_true rfl) ?_
  intro p e s m below meth c hx hb hr hml hown hts hlk H locs hG hK hE hS ls hl
  have hl : lv_has ls 6 [(0, .ref a0), (1, .int a1), (2, .int a2), (3, .int a3), (4, .int a4)] := hl
  have in9 : ∀ w ∈ wsX90, w ∈ uX9_weather := fun w h => List.mem_cons_of_mem _ (List.mem_append_left _ (List.mem_append_right _ h))
  have in6 : ∀ w ∈ wsX60, w ∈ uX9_weather := fun w h => List.mem_cons_of_mem _ (List.mem_append_right _ h)
  refine lv_iload_n hx hb dX9_weather_0 rfl (lv_at hl 1 rfl) ?_
  refine lv_iconst (v := 0) hx hb dX9_weather_1 (by decide) ?_
  refine lv_iconst (v := 1) hx hb dX9_weather_2 (by decide) ?_
  refine ty_calli ((W.runS (As := [.int a1, .int 0, .int 1]) (rest := []) ⟨hx, hb, hml, hown, hts⟩ (s_X9_isOutside l D t cI cL cC gC gE G gW gA a1 0 1 0 1 (by decide) (by decide) ) (va_cwS 3 hts gu_X9_weather_X9_isOutside_99 rfl rfl rfl (by decide +kernel) ⟨Nat.le_of_ble_eq_true rfl, Nat.le_of_ble_eq_true rfl⟩) (tP_S hG hE) rfl rfl hl.1 rfl (lv_room (Nat.le_of_ble_eq_true rfl)) dX9_weather_3 ⟨Nat.le_of_ble_eq_true rfl, Nat.le_of_ble_eq_true rfl⟩)) hS (fun k h => by simp [wr0] at h) (fun r_1 H locs hp_2 hG hS o_3 => ?_)
  rcases hp_2 with ⟨rfl, hc_271⟩ | ⟨rfl, hc_272, hc_273⟩
  · skip
    refine lv_if_ne (tgt := 19) hx hb dX9_weather_6 (by decide) (fun _ => ?_) (fun q => absurd q (by decide))
    refine lv_iconst (v := (-1)) hx hb dX9_weather_19 (by decide) ?_
    exact ty_iret hx hb hr hlk hG hS (by simp only [aww]; first | (rw [if_pos (by omega)]; done) | (rw [if_neg (by omega)]; done) | (rw [if_neg (by omega), if_pos (by omega)]; done) | (rw [if_neg (by omega), if_neg (by omega)]; done)) dX9_weather_20
  · skip
    refine lv_pc (pc2 := 6) rfl ?_
    refine lv_if_ne (tgt := 19) hx hb dX9_weather_6 (by decide) (fun q => absurd rfl q) (fun _ => ?_)
    refine lv_iload_n hx hb dX9_weather_9 rfl (lv_at hl 2 rfl) ?_
    refine lv_iconst (v := 0) hx hb dX9_weather_10 (by decide) ?_
    refine lv_bipush (v := 95) hx hb dX9_weather_11 (by decide) ?_
    refine ty_calli ((W.runS (As := [.int a2, .int 0, .int 95]) (rest := []) ⟨hx, hb, hml, hown, hts⟩ (s_X9_isOutside l D t cI cL cC gC gE G gW gA a2 0 95 0 95 (by decide) (by decide) ) (va_cwS 3 hts gu_X9_weather_X9_isOutside_99 rfl rfl rfl (by decide +kernel) ⟨Nat.le_of_ble_eq_true rfl, Nat.le_of_ble_eq_true rfl⟩) (tP_S hG hE) rfl rfl hl.1 rfl (lv_room (Nat.le_of_ble_eq_true rfl)) dX9_weather_13 ⟨Nat.le_of_ble_eq_true rfl, Nat.le_of_ble_eq_true rfl⟩)) hS (fun k h => by simp [wr0] at h) (fun r_4 H locs hp_5 hG hS o_6 => ?_)
    rcases hp_5 with ⟨rfl, hc_274⟩ | ⟨rfl, hc_275, hc_276⟩
    · skip
      refine lv_if_eq (tgt := 21) hx hb dX9_weather_16 (by decide) (fun q => absurd q (by decide)) (fun _ => ?_)
      refine lv_iconst (v := (-1)) hx hb dX9_weather_19 (by decide) ?_
      exact ty_iret hx hb hr hlk hG hS (by simp only [aww]; first | (rw [if_pos (by omega)]; done) | (rw [if_neg (by omega)]; done) | (rw [if_neg (by omega), if_pos (by omega)]; done) | (rw [if_neg (by omega), if_neg (by omega)]; done)) dX9_weather_20
    · skip
      refine lv_pc (pc2 := 16) rfl ?_
      refine lv_if_eq (tgt := 21) hx hb dX9_weather_16 (by decide) (fun _ => ?_) (fun q => absurd (by decide) q)
      refine lv_iload_n hx hb dX9_weather_21 rfl (lv_at hl 3 rfl) ?_
      refine lv_iconst (v := 0) hx hb dX9_weather_22 (by decide) ?_
      refine lv_sipush (v := 10000) hx hb dX9_weather_23 (by decide) ?_
      refine ty_calli ((W.runS (As := [.int a3, .int 0, .int 10000]) (rest := []) ⟨hx, hb, hml, hown, hts⟩ (s_X9_isOutside l D t cI cL cC gC gE G gW gA a3 0 10000 0 10000 (by decide) (by decide) ) (va_cwS 3 hts gu_X9_weather_X9_isOutside_99 rfl rfl rfl (by decide +kernel) ⟨Nat.le_of_ble_eq_true rfl, Nat.le_of_ble_eq_true rfl⟩) (tP_S hG hE) rfl rfl hl.1 rfl (lv_room (Nat.le_of_ble_eq_true rfl)) dX9_weather_26 ⟨Nat.le_of_ble_eq_true rfl, Nat.le_of_ble_eq_true rfl⟩)) hS (fun k h => by simp [wr0] at h) (fun r_7 H locs hp_8 hG hS o_9 => ?_)
      rcases hp_8 with ⟨rfl, hc_277⟩ | ⟨rfl, hc_278, hc_279⟩
      · skip
        refine lv_if_ne (tgt := 44) hx hb dX9_weather_29 (by decide) (fun _ => ?_) (fun q => absurd q (by decide))
        refine lv_iconst (v := (-1)) hx hb dX9_weather_44 (by decide) ?_
        exact ty_iret hx hb hr hlk hG hS (by simp only [aww]; first | (rw [if_pos (by omega)]; done) | (rw [if_neg (by omega)]; done) | (rw [if_neg (by omega), if_pos (by omega)]; done) | (rw [if_neg (by omega), if_neg (by omega)]; done)) dX9_weather_45
      · skip
        refine lv_pc (pc2 := 29) rfl ?_
        refine lv_if_ne (tgt := 44) hx hb dX9_weather_29 (by decide) (fun q => absurd rfl q) (fun _ => ?_)
        refine lv_iload hx hb dX9_weather_32 (lv_at hl 4 rfl) ?_
        refine lv_bipush (v := (-30)) hx hb dX9_weather_34 (by decide) ?_
        refine lv_bipush (v := 40) hx hb dX9_weather_36 (by decide) ?_
        refine ty_calli ((W.runS (As := [.int a4, .int (-30), .int 40]) (rest := []) ⟨hx, hb, hml, hown, hts⟩ (s_X9_isOutside l D t cI cL cC gC gE G gW gA a4 (-30) 40 (-30) 40 (by decide) (by decide) ) (va_cwS 3 hts gu_X9_weather_X9_isOutside_99 rfl rfl rfl (by decide +kernel) ⟨Nat.le_of_ble_eq_true rfl, Nat.le_of_ble_eq_true rfl⟩) (tP_S hG hE) rfl rfl hl.1 rfl (lv_room (Nat.le_of_ble_eq_true rfl)) dX9_weather_38 ⟨Nat.le_of_ble_eq_true rfl, Nat.le_of_ble_eq_true rfl⟩)) hS (fun k h => by simp [wr0] at h) (fun r_10 H locs hp_11 hG hS o_12 => ?_)
        rcases hp_11 with ⟨rfl, hc_280⟩ | ⟨rfl, hc_281, hc_282⟩
        · skip
          refine lv_if_eq (tgt := 46) hx hb dX9_weather_41 (by decide) (fun q => absurd q (by decide)) (fun _ => ?_)
          refine lv_iconst (v := (-1)) hx hb dX9_weather_44 (by decide) ?_
          exact ty_iret hx hb hr hlk hG hS (by simp only [aww]; first | (rw [if_pos (by omega)]; done) | (rw [if_neg (by omega)]; done) | (rw [if_neg (by omega), if_pos (by omega)]; done) | (rw [if_neg (by omega), if_neg (by omega)]; done)) dX9_weather_45
        · skip
          refine lv_pc (pc2 := 41) rfl ?_
          refine lv_if_eq (tgt := 46) hx hb dX9_weather_41 (by decide) (fun _ => ?_) (fun q => absurd (by decide) q)
          refine lv_iload_n hx hb dX9_weather_46 rfl (lv_at hl 1 rfl) ?_
          refine lv_if_ne (tgt := 57) hx hb dX9_weather_47 (by decide) (fun c_13 => ?_) (fun c_13 => ?_)
          · skip
            have c_13 : a1.toInt ≠ 0 := q_ne c_13
            refine lv_aload_n hx hb dX9_weather_57 rfl (lv_at hl 0 rfl) ?_
            obtain ⟨r_14, r_16, r_18, r_20, v_22, v_23, r_24, r_26, r_28, r_30, r_32, r_34, r_36, v_38, r_40, r_42, r_44, r_46, at_48, h_15, h_17, h_19, h_21, h_25, h_27, h_29, h_31, h_33, h_35, h_37, h_39, h_41, h_43, h_45, h_47⟩ := gF_o1 hG k_a0
            refine va_get (D := D) (ci := 8) (v := .ref r_26) (C := RX9) (T := TX9) (N := 18) hx hb hts in9 hown hK (va_one at_48) 0 rfl rfl 7 (by decide) (hts (.fieldLink RX9 43 "RiverModel" "skyB" "LRiverModel$Sky;") (List.mem_of_getElem? (i := 4) rfl)) (fun _ h9 => h9) rfl dX9_weather_58 ?_
            refine lv_astore (lv' := [(5, .ref r_26), (0, .ref a0), (1, .int a1), (2, .int a2), (3, .int a3), (4, .int a4)]) hx hb dX9_weather_61 hl (by decide) rfl (fun ls hl => ?_)
            refine lv_aload hx hb dX9_weather_63 (lv_at hl 0 rfl) ?_
            obtain ⟨r_49, r_51, at_53, h_50, h_52⟩ := gF_o4 hG h_27
            refine va_get (D := D) (ci := 5) (v := .ref r_49) (C := RX6) (T := TX6) (N := 2) hx hb hts in6 hown hK (va_one at_53) 0 rfl rfl 0 (by decide) (hts (.fieldLink RX9 138 "RiverModel$Sky" "rains" "[I") (List.mem_of_getElem? (i := 5) rfl)) (fun _ h9 => h9) rfl dX9_weather_65 ?_
            refine lv_pc (pc2 := 68) rfl ?_
            refine lv_iload_n hx hb dX9_weather_68 rfl (lv_at hl 3 rfl) ?_
            refine lv_iload_n hx hb dX9_weather_69 rfl (lv_at hl 4 rfl) ?_
            obtain ⟨f_54, at_55⟩ := gF_o15 hG h_50
            have b_56 : vp_in a2 96 := (q_in (by omega) (by omega))
            refine ty_iast (F2 := (gF cI cL cC gC gE G gW gA)) hx hb hK hG hS 0 at_55 (by rw [h_50]; rfl) rfl b_56 (by rw [h_50]; exact ⟨_, rfl⟩) tFF dX9_weather_70 (fun H locs hG hS at_57 o_58 => ?_)
            have at_48 := va_at.keptK at_48 o_58 h_50 k_a0 rfl
            have at_53 := va_at.keptK at_53 o_58 h_50 h_27 rfl
            refine lv_aload hx hb dX9_weather_71 (lv_at hl 0 rfl) ?_
            refine va_get (D := D) (ci := 5) (v := .ref r_51) (C := RX6) (T := TX6) (N := 2) hx hb hts in6 hown hK (va_one at_53) 0 rfl rfl 1 (by decide) (hts (.fieldLink RX9 141 "RiverModel$Sky" "temps" "[I") (List.mem_of_getElem? (i := 6) rfl)) (fun _ h9 => h9) rfl dX9_weather_73 ?_
            refine lv_iload_n hx hb dX9_weather_76 rfl (lv_at hl 3 rfl) ?_
            refine lv_iload hx hb dX9_weather_77 (lv_at hl 5 rfl) ?_
            obtain ⟨f_59, at_60⟩ := gF_o16 hG h_52
            have b_61 : vp_in a2 96 := (q_in (by omega) (by omega))
            refine ty_iast (F2 := (gF cI cL cC gC gE G gW gA)) hx hb hK hG hS 0 at_60 (by rw [h_52]; rfl) rfl b_61 (by rw [h_52]; exact ⟨_, rfl⟩) tFF dX9_weather_79 (fun H locs hG hS at_62 o_63 => ?_)
            have at_48 := va_at.keptK at_48 o_63 h_52 k_a0 rfl
            have at_53 := va_at.keptK at_53 o_63 h_52 h_27 rfl
            refine lv_pc (pc2 := 80) rfl ?_
            refine lv_iconst (v := 0) hx hb dX9_weather_80 (by decide) ?_
            exact ty_iret hx hb hr hlk hG hS (by simp only [aww]; first | (rw [if_pos (by omega)]; done) | (rw [if_neg (by omega)]; done) | (rw [if_neg (by omega), if_pos (by omega)]; done) | (rw [if_neg (by omega), if_neg (by omega)]; done)) dX9_weather_81
          · skip
            have c_13 : a1.toInt = 0 := q_eq c_13
            refine lv_aload_n hx hb dX9_weather_50 rfl (lv_at hl 0 rfl) ?_
            obtain ⟨r_64, r_66, r_68, r_70, v_72, v_73, r_74, r_76, r_78, r_80, r_82, r_84, r_86, v_88, r_90, r_92, r_94, r_96, at_98, h_65, h_67, h_69, h_71, h_75, h_77, h_79, h_81, h_83, h_85, h_87, h_89, h_91, h_93, h_95, h_97⟩ := gF_o1 hG k_a0
            refine va_get (D := D) (ci := 8) (v := .ref r_74) (C := RX9) (T := TX9) (N := 18) hx hb hts in9 hown hK (va_one at_98) 0 rfl rfl 6 (by decide) (hts (.fieldLink RX9 39 "RiverModel" "skyA" "LRiverModel$Sky;") (List.mem_of_getElem? (i := 7) rfl)) (fun _ h9 => h9) rfl dX9_weather_51 ?_
            refine lv_goto (tgt := 61) hx hb dX9_weather_54 (by decide) ?_
            refine lv_astore (lv' := [(5, .ref r_74), (0, .ref a0), (1, .int a1), (2, .int a2), (3, .int a3), (4, .int a4)]) hx hb dX9_weather_61 hl (by decide) rfl (fun ls hl => ?_)
            refine lv_aload hx hb dX9_weather_63 (lv_at hl 0 rfl) ?_
            obtain ⟨r_99, r_101, at_103, h_100, h_102⟩ := gF_o4 hG h_75
            refine va_get (D := D) (ci := 5) (v := .ref r_99) (C := RX6) (T := TX6) (N := 2) hx hb hts in6 hown hK (va_one at_103) 0 rfl rfl 0 (by decide) (hts (.fieldLink RX9 138 "RiverModel$Sky" "rains" "[I") (List.mem_of_getElem? (i := 5) rfl)) (fun _ h9 => h9) rfl dX9_weather_65 ?_
            refine lv_pc (pc2 := 68) rfl ?_
            refine lv_iload_n hx hb dX9_weather_68 rfl (lv_at hl 3 rfl) ?_
            refine lv_iload_n hx hb dX9_weather_69 rfl (lv_at hl 4 rfl) ?_
            obtain ⟨f_104, at_105⟩ := gF_o15 hG h_100
            have b_106 : vp_in a2 96 := (q_in (by omega) (by omega))
            refine ty_iast (F2 := (gF cI cL cC gC gE G gW gA)) hx hb hK hG hS 0 at_105 (by rw [h_100]; rfl) rfl b_106 (by rw [h_100]; exact ⟨_, rfl⟩) tFF dX9_weather_70 (fun H locs hG hS at_107 o_108 => ?_)
            have at_98 := va_at.keptK at_98 o_108 h_100 k_a0 rfl
            have at_103 := va_at.keptK at_103 o_108 h_100 h_75 rfl
            refine lv_aload hx hb dX9_weather_71 (lv_at hl 0 rfl) ?_
            refine va_get (D := D) (ci := 5) (v := .ref r_101) (C := RX6) (T := TX6) (N := 2) hx hb hts in6 hown hK (va_one at_103) 0 rfl rfl 1 (by decide) (hts (.fieldLink RX9 141 "RiverModel$Sky" "temps" "[I") (List.mem_of_getElem? (i := 6) rfl)) (fun _ h9 => h9) rfl dX9_weather_73 ?_
            refine lv_iload_n hx hb dX9_weather_76 rfl (lv_at hl 3 rfl) ?_
            refine lv_iload hx hb dX9_weather_77 (lv_at hl 5 rfl) ?_
            obtain ⟨f_109, at_110⟩ := gF_o16 hG h_102
            have b_111 : vp_in a2 96 := (q_in (by omega) (by omega))
            refine ty_iast (F2 := (gF cI cL cC gC gE G gW gA)) hx hb hK hG hS 0 at_110 (by rw [h_102]; rfl) rfl b_111 (by rw [h_102]; exact ⟨_, rfl⟩) tFF dX9_weather_79 (fun H locs hG hS at_112 o_113 => ?_)
            have at_98 := va_at.keptK at_98 o_113 h_102 k_a0 rfl
            have at_103 := va_at.keptK at_103 o_113 h_102 h_75 rfl
            refine lv_pc (pc2 := 80) rfl ?_
            refine lv_iconst (v := 0) hx hb dX9_weather_80 (by decide) ?_
            exact ty_iret hx hb hr hlk hG hS (by simp only [aww]; first | (rw [if_pos (by omega)]; done) | (rw [if_neg (by omega)]; done) | (rw [if_neg (by omega), if_pos (by omega)]; done) | (rw [if_neg (by omega), if_neg (by omega)]; done)) dX9_weather_81

def uX9_weigh : List Cond := .code yX9_weigh cX9_weigh 4 (some .int) :: ([.methodLink RX9 256 yX9_isNoWorld, .static yX9_isNoWorld, .initialized RX9, .methodLink RX9 99 yX9_isOutside, .static yX9_isOutside, .fieldLink RX9 88 "RiverModel" "worlds" "LRiverModel$Worlds;", .fieldLink RX9 259 "RiverModel$Worlds" "weights" "[I", .code yX9_isNoWorld cX9_isNoWorld 1 (some .boolean), .code yX9_isOutside cX9_isOutside 3 (some .boolean)] ++ wsX90 ++ wsX80)
set_option maxRecDepth 20000 in
theorem gu_X9_weigh_X9_isNoWorld_256 : GoodIn uX9_weigh (va_wsS RX9 256 yX9_isNoWorld uX9_isNoWorld) := goodIn_r _ [1, 2, 3, 8] rfl (by decide +kernel)
set_option maxRecDepth 20000 in
theorem gu_X9_weigh_X9_isOutside_99 : GoodIn uX9_weigh (va_wsS RX9 99 yX9_isOutside uX9_isOutside) := goodIn_r _ [4, 5, 3, 9] rfl (by decide +kernel)
set_option maxHeartbeats 4000000 in
set_option maxRecDepth 100000 in
theorem s_X9_weigh (l : Launch) (D : va_G) (t : Nat → Nat) (cI cL cC : ClassId) (gC : Int32) (gE : Int32) (G : Nat) (gW : Nat → Int32) (gA : Nat → Int32) (a0 : Nat) (a1 : Int32) (a2 : Int32) (uq_gW : ∀ b c : Nat, t b = 29 → t c = 29 → b = c) (k_a0 : t a0 = 1) : tM l yX9_weigh uX9_weigh 1 22 D (gF cI cL cC gC gE G gW gA) (gF cI cL cC gC gE G (nwe gW a1 a2) gA) t cI cL cC [.ref a0, .int a1, .int a2] wr29 (pI (fun r => r = awe gW a1 a2)) := by
  refine tM.ofW (cc := cX9_weigh) (maxL := 4) (ret := (some .int)) (by decide) rfl (Nat.le_of_ble_eq_true rfl) ?_
  intro p e s m below meth c hx hb hr hml hown hts hlk H locs hG hK hE hS ls hl
  have hl : lv_has ls 4 [(0, .ref a0), (1, .int a1), (2, .int a2)] := hl
  have in9 : ∀ w ∈ wsX90, w ∈ uX9_weigh := fun w h => List.mem_cons_of_mem _ (List.mem_append_left _ (List.mem_append_right _ h))
  have in8 : ∀ w ∈ wsX80, w ∈ uX9_weigh := fun w h => List.mem_cons_of_mem _ (List.mem_append_right _ h)
  refine lv_iload_n hx hb dX9_weigh_0 rfl (lv_at hl 1 rfl) ?_
  refine ty_calli ((W.runS (As := [.int a1]) (rest := []) ⟨hx, hb, hml, hown, hts⟩ (s_X9_isNoWorld l D t cI cL cC gC gE G gW gA a1 ) (va_cwS 1 hts gu_X9_weigh_X9_isNoWorld_256 rfl rfl rfl (by decide +kernel) ⟨Nat.le_of_ble_eq_true rfl, Nat.le_of_ble_eq_true rfl⟩) (tP_S hG hE) rfl rfl hl.1 rfl (lv_room (Nat.le_of_ble_eq_true rfl)) dX9_weigh_1 ⟨Nat.le_of_ble_eq_true rfl, Nat.le_of_ble_eq_true rfl⟩)) hS (fun k h => by simp [wr0] at h) (fun r_1 H locs hp_2 hG hS o_3 => ?_)
  rcases hp_2 with ⟨rfl, hc_286⟩ | ⟨rfl, hc_287, hc_288⟩
  · skip
    refine lv_if_ne (tgt := 17) hx hb dX9_weigh_4 (by decide) (fun _ => ?_) (fun q => absurd q (by decide))
    refine lv_iconst (v := (-1)) hx hb dX9_weigh_17 (by decide) ?_
    exact ty_iret hx hb hr hlk (by rw [show nwe gW a1 a2 = gW from (by simp only [nwe]; first | (rw [if_pos (by omega)]; done) | (rw [if_neg (by omega)]; done) | (rw [if_neg (by omega), if_pos (by omega)]; done) | (rw [if_neg (by omega), if_neg (by omega)]; done))]; exact hG) hS (by simp only [awe]; first | (rw [if_pos (by omega)]; done) | (rw [if_neg (by omega)]; done)) dX9_weigh_18
  · skip
    refine lv_if_ne (tgt := 17) hx hb dX9_weigh_4 (by decide) (fun q => absurd rfl q) (fun _ => ?_)
    refine lv_iload_n hx hb dX9_weigh_7 rfl (lv_at hl 2 rfl) ?_
    refine lv_pc (pc2 := 8) rfl ?_
    refine lv_iconst (v := 0) hx hb dX9_weigh_8 (by decide) ?_
    refine lv_bipush (v := 100) hx hb dX9_weigh_9 (by decide) ?_
    refine ty_calli ((W.runS (As := [.int a2, .int 0, .int 100]) (rest := []) ⟨hx, hb, hml, hown, hts⟩ (s_X9_isOutside l D t cI cL cC gC gE G gW gA a2 0 100 0 100 (by decide) (by decide) ) (va_cwS 3 hts gu_X9_weigh_X9_isOutside_99 rfl rfl rfl (by decide +kernel) ⟨Nat.le_of_ble_eq_true rfl, Nat.le_of_ble_eq_true rfl⟩) (tP_S hG hE) rfl rfl hl.1 rfl (lv_room (Nat.le_of_ble_eq_true rfl)) dX9_weigh_11 ⟨Nat.le_of_ble_eq_true rfl, Nat.le_of_ble_eq_true rfl⟩)) hS (fun k h => by simp [wr0] at h) (fun r_4 H locs hp_5 hG hS o_6 => ?_)
    rcases hp_5 with ⟨rfl, hc_289⟩ | ⟨rfl, hc_290, hc_291⟩
    · skip
      refine lv_if_eq (tgt := 19) hx hb dX9_weigh_14 (by decide) (fun q => absurd q (by decide)) (fun _ => ?_)
      refine lv_iconst (v := (-1)) hx hb dX9_weigh_17 (by decide) ?_
      exact ty_iret hx hb hr hlk (by rw [show nwe gW a1 a2 = gW from (by simp only [nwe]; first | (rw [if_pos (by omega)]; done) | (rw [if_neg (by omega)]; done) | (rw [if_neg (by omega), if_pos (by omega)]; done) | (rw [if_neg (by omega), if_neg (by omega)]; done))]; exact hG) hS (by simp only [awe]; first | (rw [if_pos (by omega)]; done) | (rw [if_neg (by omega)]; done)) dX9_weigh_18
    · skip
      refine lv_if_eq (tgt := 19) hx hb dX9_weigh_14 (by decide) (fun _ => ?_) (fun q => absurd (by decide) q)
      refine lv_aload_n hx hb dX9_weigh_19 rfl (lv_at hl 0 rfl) ?_
      refine lv_pc (pc2 := 20) rfl ?_
      obtain ⟨r_7, r_9, r_11, r_13, v_15, v_16, r_17, r_19, r_21, r_23, r_25, r_27, r_29, v_31, r_33, r_35, r_37, r_39, at_41, h_8, h_10, h_12, h_14, h_18, h_20, h_22, h_24, h_26, h_28, h_30, h_32, h_34, h_36, h_38, h_40⟩ := gF_o1 hG k_a0
      refine va_get (D := D) (ci := 8) (v := .ref r_37) (C := RX9) (T := TX9) (N := 18) hx hb hts in9 hown hK (va_one at_41) 0 rfl rfl 16 (by decide) (hts (.fieldLink RX9 88 "RiverModel" "worlds" "LRiverModel$Worlds;") (List.mem_of_getElem? (i := 6) rfl)) (fun _ h9 => h9) rfl dX9_weigh_20 ?_
      obtain ⟨r_42, r_44, r_46, at_48, h_43, h_45, h_47⟩ := gF_o8 hG h_38
      refine va_get (D := D) (ci := 7) (v := .ref r_42) (C := RX8) (T := TX8) (N := 3) hx hb hts in8 hown hK (va_one at_48) 0 rfl rfl 0 (by decide) (hts (.fieldLink RX9 259 "RiverModel$Worlds" "weights" "[I") (List.mem_of_getElem? (i := 7) rfl)) (fun _ h9 => h9) rfl dX9_weigh_23 ?_
      refine lv_iload_n hx hb dX9_weigh_26 rfl (lv_at hl 1 rfl) ?_
      obtain ⟨f_49, at_50, h_51⟩ := gF_o29 hG h_43
      have b_52 : vp_in a1 4 := (q_in (by omega) (by omega))
      refine va_iald hx hb hK (va_one at_50) 0 0 rfl rfl b_52 dX9_weigh_27 ?_
      refine lv_topi (fun x_53 e_54 => ?_)
      rw [← h_51] at e_54
      refine lv_istore_n (lv' := [(3, .int x_53), (0, .ref a0), (1, .int a1), (2, .int a2)]) hx hb dX9_weigh_28 rfl hl (by decide) rfl (fun ls hl => ?_)
      refine lv_aload_n hx hb dX9_weigh_29 rfl (lv_at hl 1 rfl) ?_
      refine va_get (D := D) (ci := 8) (v := .ref r_37) (C := RX9) (T := TX9) (N := 18) hx hb hts in9 hown hK (va_one at_41) 0 rfl rfl 16 (by decide) (hts (.fieldLink RX9 88 "RiverModel" "worlds" "LRiverModel$Worlds;") (List.mem_of_getElem? (i := 6) rfl)) (fun _ h9 => h9) rfl dX9_weigh_30 ?_
      refine va_get (D := D) (ci := 7) (v := .ref r_42) (C := RX8) (T := TX8) (N := 3) hx hb hts in8 hown hK (va_one at_48) 0 rfl rfl 0 (by decide) (hts (.fieldLink RX9 259 "RiverModel$Worlds" "weights" "[I") (List.mem_of_getElem? (i := 7) rfl)) (fun _ h9 => h9) rfl dX9_weigh_33 ?_
      refine lv_pc (pc2 := 36) rfl ?_
      refine lv_iload_n hx hb dX9_weigh_36 rfl (lv_at hl 2 rfl) ?_
      refine lv_iload_n hx hb dX9_weigh_37 rfl (lv_at hl 3 rfl) ?_
      have b_55 : vp_in a1 4 := (q_in (by omega) (by omega))
      refine ty_iast (F2 := (gF cI cL cC gC gE G (upd gW a1.toNatClampNeg a2) gA)) hx hb hK hG hS 0 at_50 (by rw [h_43]; rfl) rfl b_55 (by rw [h_43]; exact ⟨_, rfl, congrArg (fun q => upd q a1.toNatClampNeg a2) h_51⟩) (fun hG b hb h0 => by obtain ⟨e, g1, g2⟩ := hG b h0; exact ⟨e, g1, gF_gW (fun h => hb (uq_gW b r_42 h h_43)) g2⟩) dX9_weigh_38 (fun H locs hG hS at_56 o_57 => ?_)
      have at_41 := va_at.keptK at_41 o_57 h_43 k_a0 rfl
      have at_48 := va_at.keptK at_48 o_57 h_43 h_38 rfl
      refine lv_iload_n hx hb dX9_weigh_39 rfl (lv_at hl 0 rfl) ?_
      exact ty_iret hx hb hr hlk (by rw [show nwe gW a1 a2 = upd gW a1.toNatClampNeg a2 from (by simp only [nwe]; first | (rw [if_pos (by omega)]; done) | (rw [if_neg (by omega)]; done) | (rw [if_neg (by omega), if_pos (by omega)]; done) | (rw [if_neg (by omega), if_neg (by omega)]; done))]; exact hG) hS (by simp only [awe]; first | (rw [if_pos (by omega)]; done) | (rw [if_neg (by omega)]; exact e_54)) dX9_weigh_40

def uX8_rainAhead_e : List Cond := .code yX8_rainAhead cX8_rainAhead 3 (some .int) :: ([.initialized RX9, .static yX9_isNoWorld, .static yX9_isOutside, .fieldLink RX8 18 "RiverModel$Worlds" "rains" "[I", .code yX9_isNoWorld cX9_isNoWorld 1 (some .boolean), .code yX9_isOutside cX9_isOutside 3 (some .boolean)] ++ wsX80)
set_option maxRecDepth 20000 in
theorem gu_X8_rainAhead_e_X9_isNoWorld_n : GoodIn uX8_rainAhead_e (uX9_isNoWorld) := goodIn_r _ [5] rfl (by decide +kernel)
set_option maxRecDepth 20000 in
theorem gu_X8_rainAhead_e_X9_isOutside_n : GoodIn uX8_rainAhead_e (uX9_isOutside) := goodIn_r _ [6] rfl (by decide +kernel)
set_option maxHeartbeats 4000000 in
set_option maxRecDepth 100000 in
theorem s_X8_rainAhead_e (l : Launch) (D : va_G) (t : Nat → Nat) (cI cL cC : ClassId) (gC : Int32) (gE : Int32) (G : Nat) (gW : Nat → Int32) (gA : Nat → Int32) (a0 : Nat) (a1 : Int32) (a2 : Int32) (h1 : 0 ≤ a1.toInt) (h2 : a1.toInt ≤ 3) (h3 : 0 ≤ a2.toInt) (h4 : a2.toInt ≤ 23) (k_a0 : t a0 = 8) : tM l yX8_rainAhead uX8_rainAhead_e 1 22 D (gF cI cL cC gC gE G gW gA) (gF cI cL cC gC gE G gW gA) t cI cL cC [.ref a0, .int a1, .int a2] wr0 (pI (fun r => r = gA (a1.toInt * 24 + a2.toInt).toNat)) := by
  refine tM.ofW (cc := cX8_rainAhead) (maxL := 3) (ret := (some .int)) (by decide) rfl (Nat.le_of_ble_eq_true rfl) ?_
  intro p e s m below meth c hx hb hr hml hown hts hlk H locs hG hK hE hS ls hl
  have hl : lv_has ls 3 [(0, .ref a0), (1, .int a1), (2, .int a2)] := hl
  have in8 : ∀ w ∈ wsX80, w ∈ uX8_rainAhead_e := fun w h => List.mem_cons_of_mem _ (List.mem_append_right _ h)
  refine lv_iload_n hx hb dX8_rainAhead_0 rfl (lv_at hl 1 rfl) ?_
  refine ty_calli (tRun (va_runSN (As := [.int a1]) (rest := []) ⟨hx, hb, hml, hown, hts⟩ (s_X9_isNoWorld l D t cI cL cC gC gE G gW gA a1 ) ⟨(va_cnB 1 hts gu_X8_rainAhead_e_X9_isNoWorld_n rfl rfl rfl (hE.2.1 _ (List.mem_of_getElem? (i := 20) rfl)) (hts (.initialized RX9) (List.mem_of_getElem? (i := 1) rfl)) (by decide +kernel) ⟨Nat.le_of_ble_eq_true rfl, Nat.le_of_ble_eq_true rfl⟩), (hts (.static yX9_isNoWorld) (List.mem_of_getElem? (i := 2) rfl)), trivial⟩ (tP_S hG hE) rfl rfl hl.1 rfl (lv_room (Nat.le_of_ble_eq_true rfl)) dX8_rainAhead_1 ⟨Nat.le_of_ble_eq_true rfl, Nat.le_of_ble_eq_true rfl⟩)) hS (fun _ h => h) (fun r_1 H locs hp_2 hG hS o_3 => ?_)
  rcases hp_2 with ⟨rfl, hc_292⟩ | ⟨rfl, hc_293, hc_294⟩
  · skip
    refine lv_if_ne (tgt := 17) hx hb dX8_rainAhead_4 (by decide) (fun _ => ?_) (fun q => absurd q (by decide))
    refine lv_iconst (v := 0) hx hb dX8_rainAhead_17 (by decide) ?_
    refine lv_goto (tgt := 32) hx hb dX8_rainAhead_18 (by decide) ?_
    exact ty_iret hx hb hr hlk hG hS (by exfalso; omega) dX8_rainAhead_32
  · skip
    refine lv_if_ne (tgt := 17) hx hb dX8_rainAhead_4 (by decide) (fun q => absurd rfl q) (fun _ => ?_)
    refine lv_pc (pc2 := 7) rfl ?_
    refine lv_iload_n hx hb dX8_rainAhead_7 rfl (lv_at hl 2 rfl) ?_
    refine lv_iconst (v := 0) hx hb dX8_rainAhead_8 (by decide) ?_
    refine lv_bipush (v := 23) hx hb dX8_rainAhead_9 (by decide) ?_
    refine ty_calli (tRun (va_runSN (As := [.int a2, .int 0, .int 23]) (rest := []) ⟨hx, hb, hml, hown, hts⟩ (s_X9_isOutside l D t cI cL cC gC gE G gW gA a2 0 23 0 23 (by decide) (by decide) ) ⟨(va_cnB 3 hts gu_X8_rainAhead_e_X9_isOutside_n rfl rfl rfl (hE.2.1 _ (List.mem_of_getElem? (i := 21) rfl)) (hts (.initialized RX9) (List.mem_of_getElem? (i := 1) rfl)) (by decide +kernel) ⟨Nat.le_of_ble_eq_true rfl, Nat.le_of_ble_eq_true rfl⟩), (hts (.static yX9_isOutside) (List.mem_of_getElem? (i := 3) rfl)), trivial⟩ (tP_S hG hE) rfl rfl hl.1 rfl (lv_room (Nat.le_of_ble_eq_true rfl)) dX8_rainAhead_11 ⟨Nat.le_of_ble_eq_true rfl, Nat.le_of_ble_eq_true rfl⟩)) hS (fun _ h => h) (fun r_4 H locs hp_5 hG hS o_6 => ?_)
    rcases hp_5 with ⟨rfl, hc_295⟩ | ⟨rfl, hc_296, hc_297⟩
    · skip
      refine lv_if_eq (tgt := 21) hx hb dX8_rainAhead_14 (by decide) (fun q => absurd q (by decide)) (fun _ => ?_)
      refine lv_iconst (v := 0) hx hb dX8_rainAhead_17 (by decide) ?_
      refine lv_goto (tgt := 32) hx hb dX8_rainAhead_18 (by decide) ?_
      exact ty_iret hx hb hr hlk hG hS (by exfalso; omega) dX8_rainAhead_32
    · skip
      refine lv_pc (pc2 := 14) rfl ?_
      refine lv_if_eq (tgt := 21) hx hb dX8_rainAhead_14 (by decide) (fun _ => ?_) (fun q => absurd (by decide) q)
      refine lv_aload_n hx hb dX8_rainAhead_21 rfl (lv_at hl 0 rfl) ?_
      obtain ⟨r_7, r_9, r_11, at_13, h_8, h_10, h_12⟩ := gF_o8 hG k_a0
      refine va_get (D := D) (ci := 7) (v := .ref r_11) (C := RX8) (T := TX8) (N := 3) hx hb hts in8 hown hK (va_one at_13) 0 rfl rfl 2 (by decide) (hts (.fieldLink RX8 18 "RiverModel$Worlds" "rains" "[I") (List.mem_of_getElem? (i := 4) rfl)) (fun _ h9 => h9) rfl dX8_rainAhead_22 ?_
      refine lv_iload_n hx hb dX8_rainAhead_25 rfl (lv_at hl 1 rfl) ?_
      refine lv_bipush (v := 24) hx hb dX8_rainAhead_26 (by decide) ?_
      refine lv_imul hx hb dX8_rainAhead_28 ?_
      refine lv_topi (fun x_14 e_15 => ?_)
      have i_x_14 : x_14.toInt = a1.toInt * 24 := by rw [e_15]; exact (q_mul (by rw [show (24 : Int32).toInt = 24 by decide]; omega) (by rw [show (24 : Int32).toInt = 24 by decide]; omega)).trans (by rw [show (24 : Int32).toInt = 24 by decide])
      refine lv_iload_n hx hb dX8_rainAhead_29 rfl (lv_at hl 2 rfl) ?_
      refine lv_iadd hx hb dX8_rainAhead_30 ?_
      refine lv_topi (fun x_16 e_17 => ?_)
      have i_x_16 : x_16.toInt = x_14.toInt + a2.toInt := by rw [e_17]; exact (q_add (by omega) (by omega)).trans (by rfl)
      refine lv_pc (pc2 := 31) rfl ?_
      obtain ⟨f_18, at_19, h_20⟩ := gF_o31 hG h_12
      have b_21 : vp_in x_16 96 := (q_in (by omega) (by omega))
      refine va_iald hx hb hK (va_one at_19) 0 0 rfl rfl b_21 dX8_rainAhead_31 ?_
      refine lv_topi (fun x_22 e_23 => ?_)
      rw [← h_20, show x_16.toNatClampNeg = (a1.toInt * 24 + a2.toInt).toNat from congrArg Int.toNat (by omega)] at e_23
      exact ty_iret hx hb hr hlk hG hS (by first | exact e_23 | (exfalso; omega)) dX8_rainAhead_32

def uX8_putRain : List Cond := .code yX8_putRain cX8_putRain 5 (some .int) :: ([.methodLink RX8 21 yX8_rainAhead, .instanceMethod yX8_rainAhead, .selects RX8 yX8_rainAhead yX8_rainAhead, .initialized RX8, .initialized RX9, .static yX9_isNoWorld, .static yX9_isOutside, .fieldLink RX8 18 "RiverModel$Worlds" "rains" "[I", .code yX8_rainAhead cX8_rainAhead 3 (some .int), .code yX9_isNoWorld cX9_isNoWorld 1 (some .boolean), .code yX9_isOutside cX9_isOutside 3 (some .boolean)] ++ wsX80)
set_option maxRecDepth 20000 in
theorem gu_X8_putRain_X8_rainAhead_e_21 : GoodIn uX8_putRain (wsV RX8 21 RX8 yX8_rainAhead uX8_rainAhead_e) := goodIn_r _ [1, 2, 3, 4, 9, 5, 6, 7, 8, 10, 11, 12, 13, 14] rfl (by decide +kernel)
set_option maxRecDepth 20000 in
theorem gu_X8_putRain_X9_isNoWorld_n : GoodIn uX8_putRain (uX9_isNoWorld) := goodIn_r _ [10] rfl (by decide +kernel)
set_option maxRecDepth 20000 in
theorem gu_X8_putRain_X9_isOutside_n : GoodIn uX8_putRain (uX9_isOutside) := goodIn_r _ [11] rfl (by decide +kernel)
set_option maxHeartbeats 4000000 in
set_option maxRecDepth 100000 in
theorem s_X8_putRain (l : Launch) (D : va_G) (t : Nat → Nat) (cI cL cC : ClassId) (gC : Int32) (gE : Int32) (G : Nat) (gW : Nat → Int32) (gA : Nat → Int32) (a0 : Nat) (a1 : Int32) (a2 : Int32) (a3 : Int32) (uq_gA : ∀ b c : Nat, t b = 31 → t c = 31 → b = c) (h1 : 0 ≤ a1.toInt) (h2 : a1.toInt ≤ 3) (h3 : 0 ≤ a2.toInt) (h4 : a2.toInt ≤ 23) (k_a0 : t a0 = 8) : tM l yX8_putRain uX8_putRain 2 44 D (gF cI cL cC gC gE G gW gA) (gF cI cL cC gC gE G gW (upd gA (a1.toInt * 24 + a2.toInt).toNat a3)) t cI cL cC [.ref a0, .int a1, .int a2, .int a3] wr31 (pI (fun r => r = gA (a1.toInt * 24 + a2.toInt).toNat)) := by
  refine tM.ofW (cc := cX8_putRain) (maxL := 5) (ret := (some .int)) (by decide) rfl (Nat.le_of_ble_eq_true rfl) ?_
  intro p e s m below meth c hx hb hr hml hown hts hlk H locs hG hK hE hS ls hl
  have hl : lv_has ls 5 [(0, .ref a0), (1, .int a1), (2, .int a2), (3, .int a3)] := hl
  have in8 : ∀ w ∈ wsX80, w ∈ uX8_putRain := fun w h => List.mem_cons_of_mem _ (List.mem_append_right _ h)
  refine lv_aload_n hx hb dX8_putRain_0 rfl (lv_at hl 0 rfl) ?_
  refine lv_iload_n hx hb dX8_putRain_1 rfl (lv_at hl 1 rfl) ?_
  refine lv_iload_n hx hb dX8_putRain_2 rfl (lv_at hl 2 rfl) ?_
  obtain ⟨r_1, r_3, r_5, at_7, h_2, h_4, h_6⟩ := gF_o8 hG k_a0
  refine ty_calli ((W.runV (As := [.int a1, .int a2]) (rest := []) ⟨hx, hb, hml, hown, hts⟩ (s_X8_rainAhead_e l D t cI cL cC gC gE G gW gA a0 a1 a2 (by omega) (by omega) (by omega) (by omega) k_a0) (cwV 2 hts gu_X8_putRain_X8_rainAhead_e_21 rfl rfl rfl (by decide +kernel) ⟨Nat.le_of_ble_eq_true rfl, Nat.le_of_ble_eq_true rfl⟩) (tP_V hG hE at_7 rfl) rfl rfl hl.1 rfl (lv_room (Nat.le_of_ble_eq_true rfl)) dX8_putRain_3 ⟨Nat.le_of_ble_eq_true rfl, Nat.le_of_ble_eq_true rfl⟩)) hS (fun k h => by simp [wr0] at h) (fun r_8 H locs hp_9 hG hS o_10 => ?_)
  have at_7 := va_at.keptC at_7 o_10 k_a0 rfl
  have hp_9 := hp_9
  refine lv_istore (lv' := [(4, .int r_8), (0, .ref a0), (1, .int a1), (2, .int a2), (3, .int a3)]) hx hb dX8_putRain_6 hl (by decide) rfl (fun ls hl => ?_)
  refine lv_iload_n hx hb dX8_putRain_8 rfl (lv_at hl 2 rfl) ?_
  refine ty_calli (tRun (va_runSN (As := [.int a1]) (rest := []) ⟨hx, hb, hml, hown, hts⟩ (s_X9_isNoWorld l D t cI cL cC gC gE G gW gA a1 ) ⟨(va_cnB 1 hts gu_X8_putRain_X9_isNoWorld_n rfl rfl rfl (hE.2.1 _ (List.mem_of_getElem? (i := 20) rfl)) (hts (.initialized RX9) (List.mem_of_getElem? (i := 5) rfl)) (by decide +kernel) ⟨Nat.le_of_ble_eq_true rfl, Nat.le_of_ble_eq_true rfl⟩), (hts (.static yX9_isNoWorld) (List.mem_of_getElem? (i := 6) rfl)), trivial⟩ (tP_S hG hE) rfl rfl hl.1 rfl (lv_room (Nat.le_of_ble_eq_true rfl)) dX8_putRain_9 ⟨Nat.le_of_ble_eq_true rfl, Nat.le_of_ble_eq_true rfl⟩)) hS (fun k h => by simp [wr0] at h) (fun r_11 H locs hp_12 hG hS o_13 => ?_)
  have at_7 := va_at.keptC at_7 o_13 k_a0 rfl
  rcases hp_12 with ⟨rfl, hc_298⟩ | ⟨rfl, hc_299, hc_300⟩
  · skip
    refine lv_pc (pc2 := 12) rfl ?_
    refine lv_if_ne (tgt := 37) hx hb dX8_putRain_12 (by decide) (fun _ => ?_) (fun q => absurd q (by decide))
    refine lv_iload hx hb dX8_putRain_37 (lv_at hl 0 rfl) ?_
    exact ty_iret hx hb hr hlk (by exfalso; omega) hS (by first | exact hp_9 | (exfalso; omega)) dX8_putRain_39
  · skip
    refine lv_if_ne (tgt := 37) hx hb dX8_putRain_12 (by decide) (fun q => absurd rfl q) (fun _ => ?_)
    refine lv_iload_n hx hb dX8_putRain_15 rfl (lv_at hl 3 rfl) ?_
    refine lv_iconst (v := 0) hx hb dX8_putRain_16 (by decide) ?_
    refine lv_bipush (v := 23) hx hb dX8_putRain_17 (by decide) ?_
    refine ty_calli (tRun (va_runSN (As := [.int a2, .int 0, .int 23]) (rest := []) ⟨hx, hb, hml, hown, hts⟩ (s_X9_isOutside l D t cI cL cC gC gE G gW gA a2 0 23 0 23 (by decide) (by decide) ) ⟨(va_cnB 3 hts gu_X8_putRain_X9_isOutside_n rfl rfl rfl (hE.2.1 _ (List.mem_of_getElem? (i := 21) rfl)) (hts (.initialized RX9) (List.mem_of_getElem? (i := 5) rfl)) (by decide +kernel) ⟨Nat.le_of_ble_eq_true rfl, Nat.le_of_ble_eq_true rfl⟩), (hts (.static yX9_isOutside) (List.mem_of_getElem? (i := 7) rfl)), trivial⟩ (tP_S hG hE) rfl rfl hl.1 rfl (lv_room (Nat.le_of_ble_eq_true rfl)) dX8_putRain_19 ⟨Nat.le_of_ble_eq_true rfl, Nat.le_of_ble_eq_true rfl⟩)) hS (fun k h => by simp [wr0] at h) (fun r_14 H locs hp_15 hG hS o_16 => ?_)
    have at_7 := va_at.keptC at_7 o_16 k_a0 rfl
    rcases hp_15 with ⟨rfl, hc_301⟩ | ⟨rfl, hc_302, hc_303⟩
    · skip
      refine lv_pc (pc2 := 22) rfl ?_
      refine lv_if_ne (tgt := 37) hx hb dX8_putRain_22 (by decide) (fun _ => ?_) (fun q => absurd q (by decide))
      refine lv_iload hx hb dX8_putRain_37 (lv_at hl 0 rfl) ?_
      exact ty_iret hx hb hr hlk (by exfalso; omega) hS (by first | exact hp_9 | (exfalso; omega)) dX8_putRain_39
    · skip
      refine lv_if_ne (tgt := 37) hx hb dX8_putRain_22 (by decide) (fun q => absurd rfl q) (fun _ => ?_)
      refine lv_aload_n hx hb dX8_putRain_25 rfl (lv_at hl 1 rfl) ?_
      refine va_get (D := D) (ci := 7) (v := .ref r_5) (C := RX8) (T := TX8) (N := 3) hx hb hts in8 hown hK (va_one at_7) 0 rfl rfl 2 (by decide) (hts (.fieldLink RX8 18 "RiverModel$Worlds" "rains" "[I") (List.mem_of_getElem? (i := 8) rfl)) (fun _ h9 => h9) rfl dX8_putRain_26 ?_
      refine lv_iload_n hx hb dX8_putRain_29 rfl (lv_at hl 2 rfl) ?_
      refine lv_bipush (v := 24) hx hb dX8_putRain_30 (by decide) ?_
      refine lv_pc (pc2 := 32) rfl ?_
      refine lv_imul hx hb dX8_putRain_32 ?_
      refine lv_topi (fun x_17 e_18 => ?_)
      have i_x_17 : x_17.toInt = a1.toInt * 24 := by rw [e_18]; exact (q_mul (by rw [show (24 : Int32).toInt = 24 by decide]; omega) (by rw [show (24 : Int32).toInt = 24 by decide]; omega)).trans (by rw [show (24 : Int32).toInt = 24 by decide])
      refine lv_iload_n hx hb dX8_putRain_33 rfl (lv_at hl 3 rfl) ?_
      refine lv_iadd hx hb dX8_putRain_34 ?_
      refine lv_topi (fun x_19 e_20 => ?_)
      have i_x_19 : x_19.toInt = x_17.toInt + a2.toInt := by rw [e_20]; exact (q_add (by omega) (by omega)).trans (by rfl)
      refine lv_iload_n hx hb dX8_putRain_35 rfl (lv_at hl 4 rfl) ?_
      obtain ⟨f_21, at_22, h_23⟩ := gF_o31 hG h_6
      have b_24 : vp_in x_19 96 := (q_in (by omega) (by omega))
      refine ty_iast (F2 := (gF cI cL cC gC gE G gW (upd gA (a1.toInt * 24 + a2.toInt).toNat a3))) hx hb hK hG hS 0 at_22 (by rw [h_6]; rfl) rfl b_24 (by rw [h_6, show x_19.toNatClampNeg = (a1.toInt * 24 + a2.toInt).toNat from congrArg Int.toNat (by omega)]; exact ⟨_, rfl, congrArg (fun q => upd q (a1.toInt * 24 + a2.toInt).toNat a3) h_23⟩) (fun hG b hb h0 => by obtain ⟨e, g1, g2⟩ := hG b h0; exact ⟨e, g1, gF_gA (fun h => hb (uq_gA b r_5 h h_6)) g2⟩) dX8_putRain_36 (fun H locs hG hS at_25 o_26 => ?_)
      have at_7 := va_at.keptK at_7 o_26 h_6 k_a0 rfl
      refine lv_iload hx hb dX8_putRain_37 (lv_at hl 0 rfl) ?_
      exact ty_iret hx hb hr hlk hG hS (by first | exact hp_9 | (exfalso; omega)) dX8_putRain_39

def uX9_rain : List Cond := .code yX9_rain cX9_rain 4 (some .int) :: ([.methodLink RX9 256 yX9_isNoWorld, .static yX9_isNoWorld, .initialized RX9, .methodLink RX9 99 yX9_isOutside, .static yX9_isOutside, .fieldLink RX9 88 "RiverModel" "worlds" "LRiverModel$Worlds;", .methodLink RX9 262 yX8_putRain, .instanceMethod yX8_putRain, .selects RX8 yX8_putRain yX8_putRain, .initialized RX8, .code yX9_isNoWorld cX9_isNoWorld 1 (some .boolean), .code yX9_isOutside cX9_isOutside 3 (some .boolean), .code yX8_putRain cX8_putRain 5 (some .int), .methodLink RX8 21 yX8_rainAhead, .instanceMethod yX8_rainAhead, .selects RX8 yX8_rainAhead yX8_rainAhead, .fieldLink RX8 18 "RiverModel$Worlds" "rains" "[I", .code yX8_rainAhead cX8_rainAhead 3 (some .int)] ++ wsX90 ++ wsX80)
set_option maxRecDepth 20000 in
theorem gu_X9_rain_X9_isNoWorld_256 : GoodIn uX9_rain (va_wsS RX9 256 yX9_isNoWorld uX9_isNoWorld) := goodIn_r _ [1, 2, 3, 11] rfl (by decide +kernel)
set_option maxRecDepth 20000 in
theorem gu_X9_rain_X9_isOutside_99 : GoodIn uX9_rain (va_wsS RX9 99 yX9_isOutside uX9_isOutside) := goodIn_r _ [4, 5, 3, 12] rfl (by decide +kernel)
set_option maxRecDepth 20000 in
theorem gu_X9_rain_X8_putRain_262 : GoodIn uX9_rain (wsV RX9 262 RX8 yX8_putRain uX8_putRain) := goodIn_r _ [7, 8, 9, 10, 13, 14, 15, 16, 10, 3, 2, 5, 17, 18, 11, 12, 37, 38, 39] rfl (by decide +kernel)
set_option maxHeartbeats 4000000 in
set_option maxRecDepth 100000 in
theorem s_X9_rain (l : Launch) (D : va_G) (t : Nat → Nat) (cI cL cC : ClassId) (gC : Int32) (gE : Int32) (G : Nat) (gW : Nat → Int32) (gA : Nat → Int32) (a0 : Nat) (a1 : Int32) (a2 : Int32) (a3 : Int32) (uq_gA : ∀ b c : Nat, t b = 31 → t c = 31 → b = c) (k_a0 : t a0 = 1) : tM l yX9_rain uX9_rain 3 68 D (gF cI cL cC gC gE G gW gA) (gF cI cL cC gC gE G gW (nrw gA a1 a2 a3)) t cI cL cC [.ref a0, .int a1, .int a2, .int a3] wr31 (pI (fun r => r = arw gA a1 a2 a3)) := by
  refine tM.ofW (cc := cX9_rain) (maxL := 4) (ret := (some .int)) (by decide) rfl (Nat.le_of_ble_eq_true rfl) ?_
  intro p e s m below meth c hx hb hr hml hown hts hlk H locs hG hK hE hS ls hl
  have hl : lv_has ls 4 [(0, .ref a0), (1, .int a1), (2, .int a2), (3, .int a3)] := hl
  have in9 : ∀ w ∈ wsX90, w ∈ uX9_rain := fun w h => List.mem_cons_of_mem _ (List.mem_append_left _ (List.mem_append_right _ h))
  refine lv_iload_n hx hb dX9_rain_0 rfl (lv_at hl 1 rfl) ?_
  refine ty_calli ((W.runS (As := [.int a1]) (rest := []) ⟨hx, hb, hml, hown, hts⟩ (s_X9_isNoWorld l D t cI cL cC gC gE G gW gA a1 ) (va_cwS 1 hts gu_X9_rain_X9_isNoWorld_256 rfl rfl rfl (by decide +kernel) ⟨Nat.le_of_ble_eq_true rfl, Nat.le_of_ble_eq_true rfl⟩) (tP_S hG hE) rfl rfl hl.1 rfl (lv_room (Nat.le_of_ble_eq_true rfl)) dX9_rain_1 ⟨Nat.le_of_ble_eq_true rfl, Nat.le_of_ble_eq_true rfl⟩)) hS (fun k h => by simp [wr0] at h) (fun r_1 H locs hp_2 hG hS o_3 => ?_)
  rcases hp_2 with ⟨rfl, hc_304⟩ | ⟨rfl, hc_305, hc_306⟩
  · skip
    refine lv_if_ne (tgt := 28) hx hb dX9_rain_4 (by decide) (fun _ => ?_) (fun q => absurd q (by decide))
    refine lv_iconst (v := (-1)) hx hb dX9_rain_28 (by decide) ?_
    exact ty_iret hx hb hr hlk (by rw [show nrw gA a1 a2 a3 = gA from (by simp only [nrw]; first | (rw [if_pos (by omega)]; done) | (rw [if_neg (by omega)]; done) | (rw [if_neg (by omega), if_pos (by omega)]; done) | (rw [if_neg (by omega), if_neg (by omega)]; done))]; exact hG) hS (by simp only [arw]; first | (rw [if_pos (by omega)]; done) | (rw [if_neg (by omega)]; done)) dX9_rain_29
  · skip
    refine lv_if_ne (tgt := 28) hx hb dX9_rain_4 (by decide) (fun q => absurd rfl q) (fun _ => ?_)
    refine lv_iload_n hx hb dX9_rain_7 rfl (lv_at hl 2 rfl) ?_
    refine lv_pc (pc2 := 8) rfl ?_
    refine lv_iconst (v := 0) hx hb dX9_rain_8 (by decide) ?_
    refine lv_bipush (v := 23) hx hb dX9_rain_9 (by decide) ?_
    refine ty_calli ((W.runS (As := [.int a2, .int 0, .int 23]) (rest := []) ⟨hx, hb, hml, hown, hts⟩ (s_X9_isOutside l D t cI cL cC gC gE G gW gA a2 0 23 0 23 (by decide) (by decide) ) (va_cwS 3 hts gu_X9_rain_X9_isOutside_99 rfl rfl rfl (by decide +kernel) ⟨Nat.le_of_ble_eq_true rfl, Nat.le_of_ble_eq_true rfl⟩) (tP_S hG hE) rfl rfl hl.1 rfl (lv_room (Nat.le_of_ble_eq_true rfl)) dX9_rain_11 ⟨Nat.le_of_ble_eq_true rfl, Nat.le_of_ble_eq_true rfl⟩)) hS (fun k h => by simp [wr0] at h) (fun r_4 H locs hp_5 hG hS o_6 => ?_)
    rcases hp_5 with ⟨rfl, hc_307⟩ | ⟨rfl, hc_308, hc_309⟩
    · skip
      refine lv_if_ne (tgt := 28) hx hb dX9_rain_14 (by decide) (fun _ => ?_) (fun q => absurd q (by decide))
      refine lv_iconst (v := (-1)) hx hb dX9_rain_28 (by decide) ?_
      exact ty_iret hx hb hr hlk (by rw [show nrw gA a1 a2 a3 = gA from (by simp only [nrw]; first | (rw [if_pos (by omega)]; done) | (rw [if_neg (by omega)]; done) | (rw [if_neg (by omega), if_pos (by omega)]; done) | (rw [if_neg (by omega), if_neg (by omega)]; done))]; exact hG) hS (by simp only [arw]; first | (rw [if_pos (by omega)]; done) | (rw [if_neg (by omega)]; done)) dX9_rain_29
    · skip
      refine lv_if_ne (tgt := 28) hx hb dX9_rain_14 (by decide) (fun q => absurd rfl q) (fun _ => ?_)
      refine lv_iload_n hx hb dX9_rain_17 rfl (lv_at hl 3 rfl) ?_
      refine lv_pc (pc2 := 18) rfl ?_
      refine lv_iconst (v := 0) hx hb dX9_rain_18 (by decide) ?_
      refine lv_sipush (v := 10000) hx hb dX9_rain_19 (by decide) ?_
      refine ty_calli ((W.runS (As := [.int a3, .int 0, .int 10000]) (rest := []) ⟨hx, hb, hml, hown, hts⟩ (s_X9_isOutside l D t cI cL cC gC gE G gW gA a3 0 10000 0 10000 (by decide) (by decide) ) (va_cwS 3 hts gu_X9_rain_X9_isOutside_99 rfl rfl rfl (by decide +kernel) ⟨Nat.le_of_ble_eq_true rfl, Nat.le_of_ble_eq_true rfl⟩) (tP_S hG hE) rfl rfl hl.1 rfl (lv_room (Nat.le_of_ble_eq_true rfl)) dX9_rain_22 ⟨Nat.le_of_ble_eq_true rfl, Nat.le_of_ble_eq_true rfl⟩)) hS (fun k h => by simp [wr0] at h) (fun r_7 H locs hp_8 hG hS o_9 => ?_)
      rcases hp_8 with ⟨rfl, hc_310⟩ | ⟨rfl, hc_311, hc_312⟩
      · skip
        refine lv_if_eq (tgt := 30) hx hb dX9_rain_25 (by decide) (fun q => absurd q (by decide)) (fun _ => ?_)
        refine lv_iconst (v := (-1)) hx hb dX9_rain_28 (by decide) ?_
        exact ty_iret hx hb hr hlk (by rw [show nrw gA a1 a2 a3 = gA from (by simp only [nrw]; first | (rw [if_pos (by omega)]; done) | (rw [if_neg (by omega)]; done) | (rw [if_neg (by omega), if_pos (by omega)]; done) | (rw [if_neg (by omega), if_neg (by omega)]; done))]; exact hG) hS (by simp only [arw]; first | (rw [if_pos (by omega)]; done) | (rw [if_neg (by omega)]; done)) dX9_rain_29
      · skip
        refine lv_if_eq (tgt := 30) hx hb dX9_rain_25 (by decide) (fun _ => ?_) (fun q => absurd (by decide) q)
        refine lv_aload_n hx hb dX9_rain_30 rfl (lv_at hl 0 rfl) ?_
        refine lv_pc (pc2 := 31) rfl ?_
        obtain ⟨r_10, r_12, r_14, r_16, v_18, v_19, r_20, r_22, r_24, r_26, r_28, r_30, r_32, v_34, r_36, r_38, r_40, r_42, at_44, h_11, h_13, h_15, h_17, h_21, h_23, h_25, h_27, h_29, h_31, h_33, h_35, h_37, h_39, h_41, h_43⟩ := gF_o1 hG k_a0
        refine va_get (D := D) (ci := 8) (v := .ref r_40) (C := RX9) (T := TX9) (N := 18) hx hb hts in9 hown hK (va_one at_44) 0 rfl rfl 16 (by decide) (hts (.fieldLink RX9 88 "RiverModel" "worlds" "LRiverModel$Worlds;") (List.mem_of_getElem? (i := 6) rfl)) (fun _ h9 => h9) rfl dX9_rain_31 ?_
        refine lv_iload_n hx hb dX9_rain_34 rfl (lv_at hl 1 rfl) ?_
        refine lv_iload_n hx hb dX9_rain_35 rfl (lv_at hl 2 rfl) ?_
        refine lv_iload_n hx hb dX9_rain_36 rfl (lv_at hl 3 rfl) ?_
        obtain ⟨r_45, r_47, r_49, at_51, h_46, h_48, h_50⟩ := gF_o8 hG h_41
        refine ty_calli ((W.runV (As := [.int a1, .int a2, .int a3]) (rest := []) ⟨hx, hb, hml, hown, hts⟩ (s_X8_putRain l D t cI cL cC gC gE G gW gA r_40 a1 a2 a3 uq_gA (by omega) (by omega) (by omega) (by omega) h_41) (cwV 3 hts gu_X9_rain_X8_putRain_262 rfl rfl rfl (by decide +kernel) ⟨Nat.le_of_ble_eq_true rfl, Nat.le_of_ble_eq_true rfl⟩) (tP_V hG hE at_51 rfl) rfl rfl hl.1 rfl (lv_room (Nat.le_of_ble_eq_true rfl)) dX9_rain_37 ⟨Nat.le_of_ble_eq_true rfl, Nat.le_of_ble_eq_true rfl⟩)) hS (fun _ h => h) (fun r_52 H locs hp_53 hG hS o_54 => ?_)
        have at_44 := va_at.keptC at_44 o_54 k_a0 rfl
        have at_51 := va_at.keptC at_51 o_54 h_41 rfl
        have hp_53 := hp_53
        exact ty_iret hx hb hr hlk (by rw [show nrw gA a1 a2 a3 = upd gA (a1.toInt * 24 + a2.toInt).toNat a3 from (by simp only [nrw]; first | (rw [if_pos (by omega)]; done) | (rw [if_neg (by omega)]; done) | (rw [if_neg (by omega), if_pos (by omega)]; done) | (rw [if_neg (by omega), if_neg (by omega)]; done))]; exact hG) hS (by simp only [arw]; first | (rw [if_pos (by omega)]; done) | (rw [if_neg (by omega)]; exact hp_53)) dX9_rain_40
