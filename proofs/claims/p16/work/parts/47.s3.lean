theorem dX5_tryBlock_105 : decode cX5_tryBlock 105 = .ok (.aload_n 0, 1) := by decide +kernel
theorem dX5_tryBlock_106 : decode cX5_tryBlock 106 = .ok (.aload_n 1, 1) := by decide +kernel
theorem dX5_tryBlock_107 : decode cX5_tryBlock 107 = .ok (.aload_n 2, 1) := by decide +kernel
theorem dX5_tryBlock_108 : decode cX5_tryBlock 108 = .ok (.aload_n 3, 1) := by decide +kernel
theorem dX5_tryBlock_109 : decode cX5_tryBlock 109 = .ok (.aload 8, 2) := by decide +kernel
theorem dX5_tryBlock_111 : decode cX5_tryBlock 111 = .ok (.iload 5, 2) := by decide +kernel
theorem dX5_tryBlock_113 : decode cX5_tryBlock 113 = .ok (.iconst 1, 1) := by decide +kernel
theorem dX5_tryBlock_114 : decode cX5_tryBlock 114 = .ok (.iadd, 1) := by decide +kernel
theorem dX5_tryBlock_115 : decode cX5_tryBlock 115 = .ok (.lload 10, 2) := by decide +kernel
theorem dX5_tryBlock_117 : decode cX5_tryBlock 117 = .ok (.invokevirtual 67, 3) := by decide +kernel
theorem dX9_lacksItem_0 : decode cX9_lacksItem 0 = .ok (.aload_n 0, 1) := by decide +kernel
theorem dX9_lacksItem_1 : decode cX9_lacksItem 1 = .ok (.getfield 29, 3) := by decide +kernel
theorem dX9_lacksItem_4 : decode cX9_lacksItem 4 = .ok (.ifCond .eq 14, 3) := by decide +kernel
theorem dX9_lacksItem_7 : decode cX9_lacksItem 7 = .ok (.iload_n 1, 1) := by decide +kernel
theorem dX9_lacksItem_8 : decode cX9_lacksItem 8 = .ok (.aload_n 0, 1) := by decide +kernel
theorem dX9_lacksItem_9 : decode cX9_lacksItem 9 = .ok (.getfield 19, 3) := by decide +kernel
theorem dX9_lacksItem_12 : decode cX9_lacksItem 12 = .ok (.getfield 124, 3) := by decide +kernel
theorem dX9_lacksItem_15 : decode cX9_lacksItem 15 = .ok (.if_icmp .lt 7, 3) := by decide +kernel
theorem dX9_lacksItem_18 : decode cX9_lacksItem 18 = .ok (.iconst 1, 1) := by decide +kernel
theorem dX9_lacksItem_19 : decode cX9_lacksItem 19 = .ok (.goto 4, 3) := by decide +kernel
theorem dX9_lacksItem_22 : decode cX9_lacksItem 22 = .ok (.iconst 0, 1) := by decide +kernel
theorem dX9_lacksItem_23 : decode cX9_lacksItem 23 = .ok (.ireturn, 1) := by decide +kernel
theorem dX9_lacksStore_0 : decode cX9_lacksStore 0 = .ok (.aload_n 0, 1) := by decide +kernel
theorem dX9_lacksStore_1 : decode cX9_lacksStore 1 = .ok (.getfield 29, 3) := by decide +kernel
theorem dX9_lacksStore_4 : decode cX9_lacksStore 4 = .ok (.ifCond .eq 14, 3) := by decide +kernel
theorem dX9_lacksStore_7 : decode cX9_lacksStore 7 = .ok (.aload_n 0, 1) := by decide +kernel
theorem dX9_lacksStore_8 : decode cX9_lacksStore 8 = .ok (.getfield 19, 3) := by decide +kernel
theorem dX9_lacksStore_11 : decode cX9_lacksStore 11 = .ok (.iload_n 1, 1) := by decide +kernel
theorem dX9_lacksStore_12 : decode cX9_lacksStore 12 = .ok (.invokevirtual 343, 3) := by decide +kernel
theorem dX9_lacksStore_15 : decode cX9_lacksStore 15 = .ok (.ifCond .ne 7, 3) := by decide +kernel
theorem dX9_lacksStore_18 : decode cX9_lacksStore 18 = .ok (.iconst 1, 1) := by decide +kernel
theorem dX9_lacksStore_19 : decode cX9_lacksStore 19 = .ok (.goto 4, 3) := by decide +kernel
theorem dX9_lacksStore_22 : decode cX9_lacksStore 22 = .ok (.iconst 0, 1) := by decide +kernel
theorem dX9_lacksStore_23 : decode cX9_lacksStore 23 = .ok (.ireturn, 1) := by decide +kernel
theorem dX9_lacksGate_0 : decode cX9_lacksGate 0 = .ok (.aload_n 0, 1) := by decide +kernel
theorem dX9_lacksGate_1 : decode cX9_lacksGate 1 = .ok (.getfield 29, 3) := by decide +kernel
theorem dX9_lacksGate_4 : decode cX9_lacksGate 4 = .ok (.ifCond .eq 14, 3) := by decide +kernel
theorem dX9_lacksGate_7 : decode cX9_lacksGate 7 = .ok (.iload_n 1, 1) := by decide +kernel
theorem dX9_lacksGate_8 : decode cX9_lacksGate 8 = .ok (.aload_n 0, 1) := by decide +kernel
theorem dX9_lacksGate_9 : decode cX9_lacksGate 9 = .ok (.getfield 19, 3) := by decide +kernel
theorem dX9_lacksGate_12 : decode cX9_lacksGate 12 = .ok (.getfield 333, 3) := by decide +kernel
theorem dX9_lacksGate_15 : decode cX9_lacksGate 15 = .ok (.if_icmp .lt 7, 3) := by decide +kernel
theorem dX9_lacksGate_18 : decode cX9_lacksGate 18 = .ok (.iconst 1, 1) := by decide +kernel
theorem dX9_lacksGate_19 : decode cX9_lacksGate 19 = .ok (.goto 4, 3) := by decide +kernel
theorem dX9_lacksGate_22 : decode cX9_lacksGate 22 = .ok (.iconst 0, 1) := by decide +kernel
theorem dX9_lacksGate_23 : decode cX9_lacksGate 23 = .ok (.ireturn, 1) := by decide +kernel
theorem dX9_lacksGauge_0 : decode cX9_lacksGauge 0 = .ok (.aload_n 0, 1) := by decide +kernel
theorem dX9_lacksGauge_1 : decode cX9_lacksGauge 1 = .ok (.getfield 29, 3) := by decide +kernel
theorem dX9_lacksGauge_4 : decode cX9_lacksGauge 4 = .ok (.ifCond .eq 14, 3) := by decide +kernel
theorem dX9_lacksGauge_7 : decode cX9_lacksGauge 7 = .ok (.aload_n 0, 1) := by decide +kernel
theorem dX9_lacksGauge_8 : decode cX9_lacksGauge 8 = .ok (.getfield 74, 3) := by decide +kernel
theorem dX9_lacksGauge_11 : decode cX9_lacksGauge 11 = .ok (.iload_n 1, 1) := by decide +kernel
theorem dX9_lacksGauge_12 : decode cX9_lacksGauge 12 = .ok (.invokevirtual 346, 3) := by decide +kernel
theorem dX9_lacksGauge_15 : decode cX9_lacksGauge 15 = .ok (.ifCond .ne 7, 3) := by decide +kernel
theorem dX9_lacksGauge_18 : decode cX9_lacksGauge 18 = .ok (.iconst 1, 1) := by decide +kernel
theorem dX9_lacksGauge_19 : decode cX9_lacksGauge 19 = .ok (.goto 4, 3) := by decide +kernel
theorem dX9_lacksGauge_22 : decode cX9_lacksGauge 22 = .ok (.iconst 0, 1) := by decide +kernel
theorem dX9_lacksGauge_23 : decode cX9_lacksGauge 23 = .ok (.ireturn, 1) := by decide +kernel
theorem dX9_isBeyond_0 : decode cX9_isBeyond 0 = .ok (.aload_n 0, 1) := by decide +kernel
theorem dX9_isBeyond_1 : decode cX9_isBeyond 1 = .ok (.getfield 53, 3) := by decide +kernel
theorem dX9_isBeyond_4 : decode cX9_isBeyond 4 = .ok (.getfield 144, 3) := by decide +kernel
theorem dX9_isBeyond_7 : decode cX9_isBeyond 7 = .ok (.iload_n 1, 1) := by decide +kernel
theorem dX9_isBeyond_8 : decode cX9_isBeyond 8 = .ok (.iadd, 1) := by decide +kernel
theorem dX9_isBeyond_9 : decode cX9_isBeyond 9 = .ok (.bipush 96, 2) := by decide +kernel
theorem dX9_isBeyond_11 : decode cX9_isBeyond 11 = .ok (.if_icmp .le 7, 3) := by decide +kernel
theorem dX9_isBeyond_14 : decode cX9_isBeyond 14 = .ok (.iconst 1, 1) := by decide +kernel
theorem dX9_isBeyond_15 : decode cX9_isBeyond 15 = .ok (.goto 4, 3) := by decide +kernel
theorem dX9_isBeyond_18 : decode cX9_isBeyond 18 = .ok (.iconst 0, 1) := by decide +kernel
theorem dX9_isBeyond_19 : decode cX9_isBeyond 19 = .ok (.ireturn, 1) := by decide +kernel
theorem dX9_peakAhead_0 : decode cX9_peakAhead 0 = .ok (.aload_n 0, 1) := by decide +kernel
theorem dX9_peakAhead_1 : decode cX9_peakAhead 1 = .ok (.getfield 57, 3) := by decide +kernel
theorem dX9_peakAhead_4 : decode cX9_peakAhead 4 = .ok (.aload_n 0, 1) := by decide +kernel
theorem dX9_peakAhead_5 : decode cX9_peakAhead 5 = .ok (.getfield 53, 3) := by decide +kernel
theorem dX9_peakAhead_8 : decode cX9_peakAhead 8 = .ok (.invokevirtual 330, 3) := by decide +kernel
theorem dX9_peakAhead_11 : decode cX9_peakAhead 11 = .ok (.lconst 0, 1) := by decide +kernel
theorem dX9_peakAhead_12 : decode cX9_peakAhead 12 = .ok (.lstore 4, 2) := by decide +kernel
theorem dX9_peakAhead_14 : decode cX9_peakAhead 14 = .ok (.iconst 0, 1) := by decide +kernel
theorem dX9_peakAhead_15 : decode cX9_peakAhead 15 = .ok (.istore 6, 2) := by decide +kernel
theorem dX9_peakAhead_17 : decode cX9_peakAhead 17 = .ok (.iload 6, 2) := by decide +kernel
theorem dX9_peakAhead_19 : decode cX9_peakAhead 19 = .ok (.iload_n 2, 1) := by decide +kernel
theorem dX9_peakAhead_20 : decode cX9_peakAhead 20 = .ok (.if_icmp .ge 87, 3) := by decide +kernel
theorem dX9_peakAhead_23 : decode cX9_peakAhead 23 = .ok (.aload_n 0, 1) := by decide +kernel
theorem dX9_peakAhead_24 : decode cX9_peakAhead 24 = .ok (.getfield 57, 3) := by decide +kernel
theorem dX9_peakAhead_27 : decode cX9_peakAhead 27 = .ok (.getfield 144, 3) := by decide +kernel
theorem dX9_peakAhead_30 : decode cX9_peakAhead 30 = .ok (.istore 7, 2) := by decide +kernel
theorem dX9_peakAhead_32 : decode cX9_peakAhead 32 = .ok (.iload_n 3, 1) := by decide +kernel
theorem dX9_peakAhead_33 : decode cX9_peakAhead 33 = .ok (.ifCond .ge 15, 3) := by decide +kernel
theorem dX9_peakAhead_36 : decode cX9_peakAhead 36 = .ok (.aload_n 0, 1) := by decide +kernel
theorem dX9_peakAhead_37 : decode cX9_peakAhead 37 = .ok (.getfield 39, 3) := by decide +kernel
theorem dX9_peakAhead_40 : decode cX9_peakAhead 40 = .ok (.iload 7, 2) := by decide +kernel
theorem dX9_peakAhead_42 : decode cX9_peakAhead 42 = .ok (.invokevirtual 357, 3) := by decide +kernel
theorem dX9_peakAhead_45 : decode cX9_peakAhead 45 = .ok (.goto 13, 3) := by decide +kernel
theorem dX9_peakAhead_48 : decode cX9_peakAhead 48 = .ok (.aload_n 0, 1) := by decide +kernel
theorem dX9_peakAhead_49 : decode cX9_peakAhead 49 = .ok (.getfield 88, 3) := by decide +kernel
theorem dX9_peakAhead_52 : decode cX9_peakAhead 52 = .ok (.iload_n 3, 1) := by decide +kernel
theorem dX9_peakAhead_53 : decode cX9_peakAhead 53 = .ok (.iload 6, 2) := by decide +kernel
theorem dX9_peakAhead_55 : decode cX9_peakAhead 55 = .ok (.invokevirtual 371, 3) := by decide +kernel
theorem dX9_peakAhead_58 : decode cX9_peakAhead 58 = .ok (.istore 8, 2) := by decide +kernel
theorem dX9_peakAhead_60 : decode cX9_peakAhead 60 = .ok (.aload_n 0, 1) := by decide +kernel
theorem dX9_peakAhead_61 : decode cX9_peakAhead 61 = .ok (.getfield 57, 3) := by decide +kernel
theorem dX9_peakAhead_64 : decode cX9_peakAhead 64 = .ok (.aload_n 0, 1) := by decide +kernel
theorem dX9_peakAhead_65 : decode cX9_peakAhead 65 = .ok (.getfield 19, 3) := by decide +kernel
theorem dX9_peakAhead_68 : decode cX9_peakAhead 68 = .ok (.iload 8, 2) := by decide +kernel
theorem dX9_peakAhead_70 : decode cX9_peakAhead 70 = .ok (.aload_n 0, 1) := by decide +kernel
theorem dX9_peakAhead_71 : decode cX9_peakAhead 71 = .ok (.getfield 39, 3) := by decide +kernel
theorem dX9_peakAhead_74 : decode cX9_peakAhead 74 = .ok (.iload 7, 2) := by decide +kernel
theorem dX9_peakAhead_76 : decode cX9_peakAhead 76 = .ok (.invokevirtual 360, 3) := by decide +kernel
theorem dX9_peakAhead_79 : decode cX9_peakAhead 79 = .ok (.invokevirtual 363, 3) := by decide +kernel
theorem dX9_peakAhead_82 : decode cX9_peakAhead 82 = .ok (.lload 4, 2) := by decide +kernel
theorem dX9_peakAhead_84 : decode cX9_peakAhead 84 = .ok (.aload_n 0, 1) := by decide +kernel
theorem dX9_peakAhead_85 : decode cX9_peakAhead 85 = .ok (.getfield 74, 3) := by decide +kernel
theorem dX9_peakAhead_88 : decode cX9_peakAhead 88 = .ok (.aload_n 0, 1) := by decide +kernel
theorem dX9_peakAhead_89 : decode cX9_peakAhead 89 = .ok (.getfield 57, 3) := by decide +kernel
theorem dX9_peakAhead_92 : decode cX9_peakAhead 92 = .ok (.iload_n 1, 1) := by decide +kernel
theorem dX9_peakAhead_93 : decode cX9_peakAhead 93 = .ok (.invokevirtual 215, 3) := by decide +kernel
theorem dX9_peakAhead_96 : decode cX9_peakAhead 96 = .ok (.invokestatic 374, 3) := by decide +kernel
theorem dX9_peakAhead_99 : decode cX9_peakAhead 99 = .ok (.lstore 4, 2) := by decide +kernel
theorem dX9_peakAhead_101 : decode cX9_peakAhead 101 = .ok (.iinc 6 1, 3) := by decide +kernel
theorem dX9_peakAhead_104 : decode cX9_peakAhead 104 = .ok (.goto (-87), 3) := by decide +kernel
theorem dX9_peakAhead_107 : decode cX9_peakAhead 107 = .ok (.lload 4, 2) := by decide +kernel
theorem dX9_peakAhead_109 : decode cX9_peakAhead 109 = .ok (.lreturn, 1) := by decide +kernel
theorem dX9_weightAbove_0 : decode cX9_weightAbove 0 = .ok (.iconst 0, 1) := by decide +kernel
theorem dX9_weightAbove_1 : decode cX9_weightAbove 1 = .ok (.istore 5, 2) := by decide +kernel
theorem dX9_weightAbove_3 : decode cX9_weightAbove 3 = .ok (.iconst 0, 1) := by decide +kernel
theorem dX9_weightAbove_4 : decode cX9_weightAbove 4 = .ok (.istore 6, 2) := by decide +kernel
theorem dX9_weightAbove_6 : decode cX9_weightAbove 6 = .ok (.iload 6, 2) := by decide +kernel
theorem dX9_weightAbove_8 : decode cX9_weightAbove 8 = .ok (.iconst 4, 1) := by decide +kernel
theorem dX9_weightAbove_9 : decode cX9_weightAbove 9 = .ok (.if_icmp .ge 46, 3) := by decide +kernel
theorem dX9_weightAbove_12 : decode cX9_weightAbove 12 = .ok (.aload_n 0, 1) := by decide +kernel
theorem dX9_weightAbove_13 : decode cX9_weightAbove 13 = .ok (.getfield 88, 3) := by decide +kernel
theorem dX9_weightAbove_16 : decode cX9_weightAbove 16 = .ok (.getfield 259, 3) := by decide +kernel
theorem dX9_weightAbove_19 : decode cX9_weightAbove 19 = .ok (.iload 6, 2) := by decide +kernel
theorem dX9_weightAbove_21 : decode cX9_weightAbove 21 = .ok (.iaload, 1) := by decide +kernel
theorem dX9_weightAbove_22 : decode cX9_weightAbove 22 = .ok (.istore 7, 2) := by decide +kernel
theorem dX9_weightAbove_24 : decode cX9_weightAbove 24 = .ok (.iload 7, 2) := by decide +kernel
theorem dX9_weightAbove_26 : decode cX9_weightAbove 26 = .ok (.ifCond .le 23, 3) := by decide +kernel
theorem dX9_weightAbove_29 : decode cX9_weightAbove 29 = .ok (.aload_n 0, 1) := by decide +kernel
theorem dX9_weightAbove_30 : decode cX9_weightAbove 30 = .ok (.iload_n 1, 1) := by decide +kernel
theorem dX9_weightAbove_31 : decode cX9_weightAbove 31 = .ok (.iload_n 2, 1) := by decide +kernel
theorem dX9_weightAbove_32 : decode cX9_weightAbove 32 = .ok (.iload 6, 2) := by decide +kernel
theorem dX9_weightAbove_34 : decode cX9_weightAbove 34 = .ok (.invokevirtual 275, 3) := by decide +kernel
theorem dX9_weightAbove_37 : decode cX9_weightAbove 37 = .ok (.lload_n 3, 1) := by decide +kernel
theorem dX9_weightAbove_38 : decode cX9_weightAbove 38 = .ok (.lcmp, 1) := by decide +kernel
theorem dX9_weightAbove_39 : decode cX9_weightAbove 39 = .ok (.ifCond .le 10, 3) := by decide +kernel
theorem dX9_weightAbove_42 : decode cX9_weightAbove 42 = .ok (.iload 5, 2) := by decide +kernel
theorem dX9_weightAbove_44 : decode cX9_weightAbove 44 = .ok (.iload 7, 2) := by decide +kernel
theorem dX9_weightAbove_46 : decode cX9_weightAbove 46 = .ok (.iadd, 1) := by decide +kernel
theorem dX9_weightAbove_47 : decode cX9_weightAbove 47 = .ok (.istore 5, 2) := by decide +kernel
theorem dX9_weightAbove_49 : decode cX9_weightAbove 49 = .ok (.iinc 6 1, 3) := by decide +kernel
theorem dX9_weightAbove_52 : decode cX9_weightAbove 52 = .ok (.goto (-46), 3) := by decide +kernel
theorem dX9_weightAbove_55 : decode cX9_weightAbove 55 = .ok (.iload 5, 2) := by decide +kernel
theorem dX9_weightAbove_57 : decode cX9_weightAbove 57 = .ok (.ireturn, 1) := by decide +kernel
def uX5_tryBlock_2 : List Cond := .code yX5_tryBlock cX5_tryBlock 12 none :: ([.initialized RX9, .static yX9_isOutside, .fieldLink RX5 11 "RiverModel$Search" "blockEnds" "[LRiverModel$Course;", .fieldLink RX5 17 "RiverModel$Search" "tried" "[I", .methodLink RX5 53 yX0_copyFrom, .instanceMethod yX0_copyFrom, .selects RX0 yX0_copyFrom yX0_copyFrom, .initialized RX0, .methodLink RX5 57 yX5_peakOfBlock, .instanceMethod yX5_peakOfBlock, .selects RX5 yX5_peakOfBlock yX5_peakOfBlock, .initialized RX5, .constantLong RX5 61 (-1), .fieldLink RX5 24 "RiverModel$Search" "isFound" "Z", .methodLink RX5 67 yX5_tryBlock, .instanceMethod yX5_tryBlock, .selects RX5 yX5_tryBlock yX5_tryBlock, .fieldLink RX5 28 "RiverModel$Search" "leastPeak" "J", .code yX9_isOutside cX9_isOutside 3 (some .boolean), .code yX0_copyFrom cX0_copyFrom 2 none, .fieldLink RX0 9 "RiverModel$Course" "held" "[J", .methodLink RX0 54 arraycopyName, .native arraycopyName, .static arraycopyName, .initialized "java/lang/System", .fieldLink RX0 15 "RiverModel$Course" "moved" "[J", .fieldLink RX0 18 "RiverModel$Course" "openings" "[I", .fieldLink RX0 22 "RiverModel$Course" "due" "[J", .fieldLink RX0 25 "RiverModel$Course" "rained" "J", .fieldLink RX0 29 "RiverModel$Course" "air" "J", .fieldLink RX0 32 "RiverModel$Course" "sea" "J", .fieldLink RX0 35 "RiverModel$Course" "hours" "I", .code yX5_peakOfBlock cX5_peakOfBlock 11 (some .long), .fieldLink RX5 32 "RiverModel$Search" "gate" "I", .static yX9_isNoGate, .fieldLink RX5 42 "RiverModel$Search" "store" "I", .static yX9_isNoStore, .fieldLink RX5 78 "RiverModel$Course" "openings" "[I", .fieldLink RX5 36 "RiverModel$Search" "blockHours" "I", .fieldLink RX5 81 "RiverModel$Course" "hours" "I", .methodLink RX5 84 yX6_rainIn, .instanceMethod yX6_rainIn, .selects RX6 yX6_rainIn yX6_rainIn, .initialized RX6, .methodLink RX5 90 yX6_tempIn, .instanceMethod yX6_tempIn, .selects RX6 yX6_tempIn yX6_tempIn, .methodLink RX5 93 yX0_goHour, .instanceMethod yX0_goHour, .selects RX0 yX0_goHour yX0_goHour, .fieldLink RX5 97 "RiverModel$Course" "held" "[J", .fieldLink RX5 45 "RiverModel$Search" "limit" "J", .fieldLink RX5 39 "RiverModel$Search" "gauge" "I", .methodLink RX5 101 yX1_reading, .instanceMethod yX1_reading, .selects RX1 yX1_reading yX1_reading, .initialized RX1, .methodLink RX5 107 Lib.MathLoose.max_long.x, .static Lib.MathLoose.max_long.x, .initialized "java/lang/Math", .code Lib.MathLoose.max_long.x Lib.MathLoose.max_long.code 4 (some .long), .code yX9_isNoGate cX9_isNoGate 1 (some .boolean), .code yX9_isNoStore cX9_isNoStore 1 (some .boolean), .code yX6_rainIn cX6_rainIn 2 (some .int), .fieldLink RX6 9 "RiverModel$Sky" "rains" "[I", .code yX6_tempIn cX6_tempIn 2 (some .int), .fieldLink RX6 15 "RiverModel$Sky" "temps" "[I", .code yX0_goHour cX0_goHour 7 none, .methodLink RX0 72 yX0_bringDue, .instanceMethod yX0_bringDue, .selects RX0 yX0_bringDue yX0_bringDue, .fieldLink RX0 75 "RiverModel$Model" "many" "I", .methodLink RX0 78 yX0_amountOf, .instanceMethod yX0_amountOf, .selects RX0 yX0_amountOf yX0_amountOf, .methodLink RX0 82 yX0_move, .instanceMethod yX0_move, .selects RX0 yX0_move yX0_move, .code yX0_bringDue cX0_bringDue 3 none, .code yX0_amountOf cX0_amountOf 11 (some .long), .methodLink RX0 86 yX4_cell, .instanceMethod yX4_cell, .selects RX4 yX4_cell yX4_cell, .initialized RX4, .methodLink RX0 110 yX4_gateOf, .instanceMethod yX4_gateOf, .selects RX4 yX4_gateOf yX4_gateOf, .methodLink RX0 113 yX0_openingOf, .instanceMethod yX0_openingOf, .selects RX0 yX0_openingOf yX0_openingOf, .methodLink RX0 107 Lib.MathLoose.min_long.x, .static Lib.MathLoose.min_long.x, .code Lib.MathLoose.min_long.x Lib.MathLoose.min_long.code 4 (some .long), .methodLink RX0 94 yX0_leakOf, .static yX0_leakOf, .constantLong RX0 117 (100), .methodLink RX0 98 yX4_capacityOf, .instanceMethod yX4_capacityOf, .selects RX4 yX4_capacityOf yX4_capacityOf, .methodLink RX0 101 Lib.MathLoose.max_long.x, .constantLong RX0 119 (10), .code yX4_cell cX4_cell 3 (some .int), .fieldLink RX4 9 "RiverModel$Model" "cells" "[I", .code yX4_gateOf cX4_gateOf 3 (some .int), .fieldLink RX4 28 "RiverModel$Model" "gates" "I", .fieldLink RX4 18 "RiverModel$Model" "gateItems" "[I", .code yX0_openingOf cX0_openingOf 2 (some .long), .code yX0_leakOf cX0_leakOf 8 (some .long), .code yX4_capacityOf cX4_capacityOf 2 (some .int), .methodLink RX4 66 yX4_hasStore, .instanceMethod yX4_hasStore, .selects RX4 yX4_hasStore yX4_hasStore, .fieldLink RX4 15 "RiverModel$Model" "storeItems" "[I", .methodLink RX4 73 yX4_cell, .code yX4_hasStore cX4_hasStore 2 (some .boolean), .code yX0_move cX0_move 8 none, .methodLink RX0 124 yX0_send, .instanceMethod yX0_send, .selects RX0 yX0_send yX0_send, .code yX0_send cX0_send 5 none, .code yX1_reading cX1_reading 4 (some .long), .methodLink RX1 35 yX1_isSet, .instanceMethod yX1_isSet, .selects RX1 yX1_isSet yX1_isSet, .fieldLink RX1 15 "RiverModel$Gauges" "places" "[I", .fieldLink RX1 9 "RiverModel$Gauges" "whats" "[I", .fieldLink RX1 50 "RiverModel$Course" "held" "[J", .static yX9_isNoItem, .fieldLink RX1 41 "RiverModel$Course" "moved" "[J", .code yX1_isSet cX1_isSet 2 (some .boolean), .code yX9_isNoItem cX9_isNoItem 1 (some .boolean), .methodLink RX5 63 yX5_takeTried, .instanceMethod yX5_takeTried, .selects RX5 yX5_takeTried yX5_takeTried, .code yX5_takeTried cX5_takeTried 3 none, .fieldLink RX5 21 "RiverModel$Search" "found" "[I", .methodLink RX5 113 arraycopyName] ++ wsX50 ++ wsX00 ++ wsX60 ++ wsX40 ++ wsX10)
set_option maxRecDepth 20000 in
theorem gu_X5_tryBlock_2_X9_isOutside_n : GoodIn uX5_tryBlock_2 (uX9_isOutside) := goodIn_r _ [19] rfl (by decide +kernel)
set_option maxRecDepth 20000 in
theorem gu_X5_tryBlock_2_X0_copyFrom_53 : GoodIn uX5_tryBlock_2 (wsV RX5 53 RX0 yX0_copyFrom uX0_copyFrom) := goodIn_r _ [5, 6, 7, 8, 20, 21, 22, 23, 24, 25, 26, 27, 28, 29, 30, 31, 32, 148, 149, 150, 151, 152, 153, 154, 155] rfl (by decide +kernel)
set_option maxRecDepth 20000 in
theorem gu_X5_tryBlock_2_X5_peakOfBlock_57 : GoodIn uX5_tryBlock_2 (wsV RX5 57 RX5 yX5_peakOfBlock uX5_peakOfBlock) := goodIn_r _ [9, 10, 11, 12, 33, 34, 1, 35, 13, 36, 37, 38, 39, 40, 41, 42, 43, 44, 45, 46, 47, 48, 49, 50, 8, 51, 52, 53, 54, 55, 56, 57, 58, 59, 60, 61, 62, 63, 64, 2, 65, 19, 66, 67, 68, 69, 70, 71, 32, 72, 73, 74, 75, 26, 76, 77, 78, 79, 21, 28, 80, 81, 82, 83, 84, 85, 86, 87, 88, 89, 90, 91, 92, 93, 94, 95, 96, 97, 98, 99, 100, 101, 102, 103, 104, 105, 106, 107, 27, 108, 109, 110, 111, 112, 113, 114, 115, 116, 29, 117, 118, 119, 31, 30, 120, 121, 122, 123, 124, 125, 126, 127, 128, 129, 130, 131, 138, 139, 140, 141, 142, 143, 144, 145, 146, 147, 148, 149, 150, 151, 152, 153, 154, 155, 156, 157, 158, 159, 160, 161, 162, 163, 164, 165, 166, 167] rfl (by decide +kernel)
set_option maxRecDepth 20000 in
theorem gu_X5_tryBlock_2_X5_tryBlock_3_67 : GoodIn uX5_tryBlock_2 (wsV RX5 67 RX5 yX5_tryBlock uX5_tryBlock_3) := goodIn_r _ [15, 16, 17, 12, 0, 1, 2, 3, 4, 5, 6, 7, 8, 9, 10, 11, 12, 13, 14, 132, 133, 134, 18, 19, 20, 21, 22, 23, 24, 25, 26, 27, 28, 29, 30, 31, 32, 33, 34, 35, 36, 37, 38, 39, 40, 41, 42, 43, 44, 45, 46, 47, 48, 49, 50, 51, 52, 53, 54, 55, 56, 57, 58, 59, 60, 61, 62, 63, 64, 65, 66, 67, 68, 69, 70, 71, 72, 73, 74, 75, 76, 77, 78, 79, 80, 81, 82, 83, 84, 85, 86, 87, 88, 89, 90, 91, 92, 93, 94, 95, 96, 97, 98, 99, 100, 101, 102, 103, 104, 105, 106, 107, 108, 109, 110, 111, 112, 113, 114, 115, 116, 117, 118, 119, 120, 121, 122, 123, 124, 125, 126, 127, 128, 129, 130, 131, 135, 136, 137, 138, 139, 140, 141, 142, 143, 144, 145, 146, 147, 148, 149, 150, 151, 152, 153, 154, 155, 156, 157, 158, 159, 160, 161, 162, 163, 164, 165, 166, 167] rfl (by decide +kernel)
set_option maxHeartbeats 4000000 in
set_option maxRecDepth 100000 in
theorem s_X5_tryBlock_2 (l : Launch) (D : va_G) (t : Nat → Nat) (cI cL cC : ClassId) (gC : Int32) (gE : Int32) (G : Nat) (gW : Nat → Int32) (gA : Nat → Int32) (a0 : Nat) (a1 : Nat) (a2 : Nat) (a3 : Nat) (a4 : Nat) (a6 : Int64) (hGb : G ≤ 152000000) (k_a0 : t a0 = 9) (k_a1 : t a1 = 3) (k_a2 : t a2 = 4) (k_a3 : t a3 = 6) (k_a4 : t a4 = 5) : tM l yX5_tryBlock uX5_tryBlock_2 6 160 D (gF cI cL cC gC gE G gW gA) (gF cI cL cC gC gE (G + 252) gW gA) t cI cL cC [.ref a0, .ref a1, .ref a2, .ref a3, .ref a4, .int 2, .long a6] wrS (pV (True)) := by
  refine tM.ofW (cc := cX5_tryBlock) (maxL := 12) (ret := none) (by decide) rfl (Nat.le_of_ble_eq_true rfl) ?_
  intro p e s m below meth c hx hb hr hml hown hts hlk H locs hG hK hE hS ls hl
  have hl : lv_has ls 12 [(0, .ref a0), (1, .ref a1), (2, .ref a2), (3, .ref a3), (4, .ref a4), (5, .int 2), (6, .long a6)] := hl
  have in5 : ∀ w ∈ wsX50, w ∈ uX5_tryBlock_2 := fun w h => List.mem_cons_of_mem _ (List.mem_append_left _ (List.mem_append_left _ (List.mem_append_left _ (List.mem_append_left _ (List.mem_append_right _ h)))))
  refine lv_iload hx hb dX5_tryBlock_0 (lv_at hl 5 rfl) ?_
  refine lv_iconst (v := 0) hx hb dX5_tryBlock_2 (by decide) ?_
  refine lv_iconst (v := 3) hx hb dX5_tryBlock_3 (by decide) ?_
  refine ty_calli (tRun (va_runSN (As := [.int 2, .int 0, .int 3]) (rest := []) ⟨hx, hb, hml, hown, hts⟩ (s_X9_isOutside l D t cI cL cC gC gE G gW gA 2 0 3 0 3 (by decide) (by decide) ) ⟨(va_cnB 3 hts gu_X5_tryBlock_2_X9_isOutside_n rfl rfl rfl (hE.2.1 _ (List.mem_of_getElem? (i := 23) rfl)) (hts (.initialized RX9) (List.mem_of_getElem? (i := 1) rfl)) (by decide +kernel) ⟨Nat.le_of_ble_eq_true rfl, Nat.le_of_ble_eq_true rfl⟩), (hts (.static yX9_isOutside) (List.mem_of_getElem? (i := 2) rfl)), trivial⟩ (tP_S hG hE) rfl rfl hl.1 rfl (lv_room (Nat.le_of_ble_eq_true rfl)) dX5_tryBlock_4 ⟨Nat.le_of_ble_eq_true rfl, Nat.le_of_ble_eq_true rfl⟩)) hS (fun k h => by simp [wr0] at h) (fun r_1 H locs hp_2 hG hS o_3 => ?_)
  rcases hp_2 with ⟨rfl, hc_112⟩ | ⟨rfl, hc_113, hc_114⟩
  · skip
    refine lv_if_eq (tgt := 11) hx hb dX5_tryBlock_7 (by decide) (fun q => absurd q (by decide)) (fun _ => ?_)
    exact ty_vret hx hb hr hlk (hG.weak (fun _ _ => gF_mono (by omega))) hS True.intro dX5_tryBlock_10
  · skip
    refine lv_if_eq (tgt := 11) hx hb dX5_tryBlock_7 (by decide) (fun _ => ?_) (fun q => absurd (by decide) q)
    refine lv_pc (pc2 := 11) rfl ?_
    refine lv_aload_n hx hb dX5_tryBlock_11 rfl (lv_at hl 0 rfl) ?_
    obtain ⟨r_4, r_6, r_8, v_10, v_11, v_12, v_14, v_16, v_17, v_19, at_20, h_5, h_7, h_9, h_13, h_15, h_18⟩ := gF_o9 hG k_a0
    refine va_get (D := D) (ci := 4) (v := .ref r_4) (C := RX5) (T := TX5) (N := 10) hx hb hts in5 hown hK (va_one at_20) 0 rfl rfl 0 (by decide) (hts (.fieldLink RX5 11 "RiverModel$Search" "blockEnds" "[LRiverModel$Course;") (List.mem_of_getElem? (i := 3) rfl)) (fun _ h9 => h9) rfl dX5_tryBlock_12 ?_
    refine lv_iload hx hb dX5_tryBlock_15 (lv_at hl 5 rfl) ?_
    obtain ⟨f_21, at_22, h_23⟩ := gF_o32 hG h_5
    have b_24 : vp_in 2 4 := (q_in (by decide) (by decide))
    refine va_aldq hx hb hK (va_one at_22) 0 2 rfl rfl b_24 dX5_tryBlock_17 ?_
    obtain ⟨r_25, e_26, h_27⟩ := h_23 _ (q_inlt b_24)
    rw [e_26]
    show W p l _ _ s m _ below meth c _ _ _ _ _ (F0 m _ ls (.ref r_25 :: _))
    refine lv_astore (lv' := [(8, .ref r_25), (0, .ref a0), (1, .ref a1), (2, .ref a2), (3, .ref a3), (4, .ref a4), (5, .int 2), (6, .long a6)]) hx hb dX5_tryBlock_18 hl (by decide) rfl (fun ls hl => ?_)
    refine lv_iconst (v := 0) hx hb dX5_tryBlock_20 (by decide) ?_
    refine lv_istore (lv' := [(9, .int 0), (8, .ref r_25), (0, .ref a0), (1, .ref a1), (2, .ref a2), (3, .ref a3), (4, .ref a4), (5, .int 2), (6, .long a6)]) hx hb dX5_tryBlock_21 hl (by decide) rfl (fun ls hl => ?_)
    refine lv_pc (pc2 := 23) rfl ?_
    refine lp_gen (fun WW hWW => ?_)
    have kx : ∀ (yo : Int32) (g : Nat) (H1 : Heap) (locs1 : List Loc) (ls1 : Array Slot), 0 ≤ yo.toInt → yo.toInt ≤ 12 → 2 * (g : Int) + 42 * (12 - yo.toInt) ≤ 2 * (G : Int) + 504 → tG D (gF cI cL cC gC gE g gW gA) t H1 → tF t wrS s.heap H1 locs1 → lv_has ls1 12 [(9, .int yo), (8, .ref r_25), (0, .ref a0), (1, .ref a1), (2, .ref a2), (3, .ref a3), (4, .ref a4), (5, .int 2), (6, .long a6)] → WW H1 locs1 (F0 m 126 ls1 []) := by
      intro yo g H locs ls v0 v1 v2 hG hS hl
      refine (hWW _ _ _).mpr ?_
      exact ty_vret hx hb hr hlk (hG.weak (fun _ _ => gF_mono (by omega))) hS True.intro dX5_tryBlock_126
    have loop : ∀ (k : Nat) (yo : Int32) (g : Nat) (H1 : Heap) (locs1 : List Loc) (ls1 : Array Slot), 12 - yo.toInt ≤ (k : Int) → 0 ≤ yo.toInt → yo.toInt ≤ 12 → 2 * (g : Int) + 42 * (12 - yo.toInt) ≤ 2 * (G : Int) + 504 → tG D (gF cI cL cC gC gE g gW gA) t H1 → tF t wrS s.heap H1 locs1 → lv_has ls1 12 [(9, .int yo), (8, .ref r_25), (0, .ref a0), (1, .ref a1), (2, .ref a2), (3, .ref a3), (4, .ref a4), (5, .int 2), (6, .long a6)] → WW H1 locs1 (F0 m 23 ls1 []) := by
      intro k
      induction k with
      | zero =>
        intro yo g H locs ls hk v0 v1 v2 hG hS hl
        refine (hWW _ _ _).mpr ?_
        refine lv_pc (pc2 := 23) rfl ?_
        refine lv_iload hx hb dX5_tryBlock_23 (lv_at hl 0 rfl) ?_
        refine lv_bipush (v := 10) hx hb dX5_tryBlock_25 (by decide) ?_
        refine lv_icmp_gt (tgt := 126) hx hb dX5_tryBlock_27 (by decide) (fun c_28 => ?_) (fun c_28 => ?_)
        · skip
          have c_28 : 10 < yo.toInt := q_lt c_28
          exact (hWW _ _ _).mp (kx yo g H locs ls (by omega) (by omega) (by omega) hG hS (lv_sub hl [0, 1, 2, 3, 4, 5, 6, 7, 8] rfl))
        · skip
          have c_28 : yo.toInt ≤ 10 := q_nlt c_28
          refine lv_aload_n hx hb dX5_tryBlock_30 rfl (lv_at hl 2 rfl) ?_
          obtain ⟨r_29, r_31, r_33, v_35, v_36, v_37, v_39, v_41, v_42, v_44, at_45, h_30, h_32, h_34, h_38, h_40, h_43⟩ := gF_o9 hG k_a0
          refine va_get (D := D) (ci := 4) (v := .ref r_31) (C := RX5) (T := TX5) (N := 10) hx hb hts in5 hown hK (va_one at_45) 0 rfl rfl 1 (by decide) (hts (.fieldLink RX5 17 "RiverModel$Search" "tried" "[I") (List.mem_of_getElem? (i := 4) rfl)) (fun _ h9 => h9) rfl dX5_tryBlock_31 ?_
          refine lv_iload hx hb dX5_tryBlock_34 (lv_at hl 7 rfl) ?_
          refine lv_iload hx hb dX5_tryBlock_36 (lv_at hl 0 rfl) ?_
          obtain ⟨f_46, at_47⟩ := gF_o33 hG h_32
          have b_48 : vp_in 2 4 := (q_in (by decide) (by decide))
          refine ty_iast (F2 := (gF cI cL cC gC gE g gW gA)) hx hb hK hG hS 0 at_47 (by rw [h_32]; rfl) rfl b_48 (by rw [h_32]; exact ⟨_, rfl⟩) tFF dX5_tryBlock_38 (fun H locs hG hS at_49 o_50 => ?_)
          have at_45 := va_at.keptK at_45 o_50 h_32 k_a0 rfl
          refine lv_pc (pc2 := 39) rfl ?_
          refine lv_aload hx hb dX5_tryBlock_39 (lv_at hl 1 rfl) ?_
          refine lv_aload hx hb dX5_tryBlock_41 (lv_at hl 6 rfl) ?_
          obtain ⟨r_51, r_53, r_55, r_57, v_59, v_60, v_61, v_62, at_64, h_52, h_54, h_56, h_58, h_63⟩ := gF_o5 hG h_27
          refine ty_callv ((W.runV (As := [.ref a4]) (rest := []) ⟨hx, hb, hml, hown, hts⟩ (s_X0_copyFrom l D t cI cL cC gC gE g gW gA r_25 a4 h_27 k_a4) (cwV 1 hts gu_X5_tryBlock_2_X0_copyFrom_53 rfl rfl rfl (by decide +kernel) ⟨Nat.le_of_ble_eq_true rfl, Nat.le_of_ble_eq_true rfl⟩) (tP_V hG hE at_64 rfl) rfl rfl hl.1 rfl (lv_room (Nat.le_of_ble_eq_true rfl)) dX5_tryBlock_43 ⟨Nat.le_of_ble_eq_true rfl, Nat.le_of_ble_eq_true rfl⟩)) hS (wrL_sub (by decide)) (fun H locs hp_66 hG hS o_67 => ?_)
          have at_45 := va_at.keptC at_45 o_67 k_a0 rfl
          refine lv_aload_n hx hb dX5_tryBlock_46 rfl (lv_at hl 2 rfl) ?_
          refine lv_aload_n hx hb dX5_tryBlock_47 rfl (lv_at hl 3 rfl) ?_
          refine lv_aload_n hx hb dX5_tryBlock_48 rfl (lv_at hl 4 rfl) ?_
          refine lv_aload_n hx hb dX5_tryBlock_49 rfl (lv_at hl 5 rfl) ?_
          refine lv_aload hx hb dX5_tryBlock_50 (lv_at hl 1 rfl) ?_
          refine lv_pc (pc2 := 52) rfl ?_
          refine lv_iload hx hb dX5_tryBlock_52 (lv_at hl 0 rfl) ?_
          refine lv_lload hx hb dX5_tryBlock_54 (lv_at hl 8 rfl) ?_
          refine ty_calll ((W.runV (As := [.ref a1, .ref a2, .ref a3, .ref r_25, .int yo, .long a6]) (rest := []) ⟨hx, hb, hml, hown, hts⟩ (s_X5_peakOfBlock l D t cI cL cC gC gE g gW gA a0 a1 a2 a3 r_25 yo a6 (by omega) k_a0 k_a1 k_a2 k_a3 h_27) (cwV 6 hts gu_X5_tryBlock_2_X5_peakOfBlock_57 rfl rfl rfl (by decide +kernel) ⟨Nat.le_of_ble_eq_true rfl, Nat.le_of_ble_eq_true rfl⟩) (tP_V hG hE at_45 rfl) rfl rfl hl.1 rfl (lv_room (Nat.le_of_ble_eq_true rfl)) dX5_tryBlock_56 ⟨Nat.le_of_ble_eq_true rfl, Nat.le_of_ble_eq_true rfl⟩)) hS (wrL_sub (by decide)) (fun z_68 H locs hp_69 hG hS o_70 => ?_)
          have at_45 := va_at.keptC at_45 o_70 k_a0 rfl
          refine lv_lstore (lv' := [(10, .long z_68), (9, .int yo), (8, .ref r_25), (0, .ref a0), (1, .ref a1), (2, .ref a2), (3, .ref a3), (4, .ref a4), (5, .int 2), (6, .long a6)]) hx hb dX5_tryBlock_59 hl (by decide) rfl (fun ls hl => ?_)
          refine lv_lload hx hb dX5_tryBlock_61 (lv_at hl 0 rfl) ?_
          refine lv_ldc2 hx hb hown (hts (.constantLong RX5 61 (-1)) (List.mem_of_getElem? (i := 13) rfl)) dX5_tryBlock_63 ?_
          refine W.lcmp hx hb dX5_tryBlock_66 ?_
          refine lv_if_eq (tgt := 120) hx hb dX5_tryBlock_67 (by decide) (fun c_71 => ?_) (fun c_71 => ?_)
          · skip
            have c_71 : z_68.toInt = (-1) := q_cmp_eq c_71
            refine lv_pc (pc2 := 120) rfl ?_
            obtain ⟨x_72, e_73⟩ : ∃ y : Int32, y = yo + Int32.ofInt 2 := ⟨_, rfl⟩
            have i_x_72 : x_72.toInt = yo.toInt + 2 := by rw [e_73, show Int32.ofInt 2 = 2 by decide]; exact (q_add (by rw [show (2 : Int32).toInt = 2 by decide]; omega) (by rw [show (2 : Int32).toInt = 2 by decide]; omega)).trans (by rw [show (2 : Int32).toInt = 2 by decide])
            refine lv_iinc (v := x_72) (lv' := [(9, .int x_72), (10, .long z_68), (8, .ref r_25), (0, .ref a0), (1, .ref a1), (2, .ref a2), (3, .ref a3), (4, .ref a4), (5, .int 2), (6, .long a6)]) hx hb dX5_tryBlock_120 hl (k := 1) rfl e_73.symm (by decide) rfl (fun ls hl => ?_)
            refine lv_goto (tgt := 23) hx hb dX5_tryBlock_123 (by decide) ?_
            exfalso; omega
          · skip
            have c_71 : z_68.toInt ≠ (-1) := q_cmp_ne c_71
            refine lv_aload_n hx hb dX5_tryBlock_70 rfl (lv_at hl 3 rfl) ?_
            refine va_get (D := D) (ci := 4) (v := .int v_35) (C := RX5) (T := TX5) (N := 10) hx hb hts in5 hown hK (va_one at_45) 0 rfl rfl 3 (by decide) (hts (.fieldLink RX5 24 "RiverModel$Search" "isFound" "Z") (List.mem_of_getElem? (i := 14) rfl)) (fun _ h9 => h9) rfl dX5_tryBlock_71 ?_
            refine lv_if_eq (tgt := 90) hx hb dX5_tryBlock_74 (by decide) (fun c_74 => ?_) (fun c_74 => ?_)
            · skip
              have c_74 : v_35.toInt = 0 := q_eq c_74
              refine lv_iload hx hb dX5_tryBlock_90 (lv_at hl 8 rfl) ?_
              refine lv_iconst (v := 3) hx hb dX5_tryBlock_92 (by decide) ?_
              refine lv_icmp_ne (tgt := 105) hx hb dX5_tryBlock_93 (by decide) (fun _ => ?_) (fun q => absurd q (by decide))
              refine lv_pc (pc2 := 105) rfl ?_
              refine lv_aload_n hx hb dX5_tryBlock_105 rfl (lv_at hl 3 rfl) ?_
              refine lv_aload_n hx hb dX5_tryBlock_106 rfl (lv_at hl 4 rfl) ?_
              refine lv_aload_n hx hb dX5_tryBlock_107 rfl (lv_at hl 5 rfl) ?_
              refine lv_aload_n hx hb dX5_tryBlock_108 rfl (lv_at hl 6 rfl) ?_
              refine lv_aload hx hb dX5_tryBlock_109 (lv_at hl 2 rfl) ?_
              refine lv_iload hx hb dX5_tryBlock_111 (lv_at hl 8 rfl) ?_
              refine lv_iconst (v := 1) hx hb dX5_tryBlock_113 (by decide) ?_
              refine lv_iadd hx hb dX5_tryBlock_114 ?_
              refine lv_seti (y := 3) (by decide) ?_
              refine lv_pc (pc2 := 115) rfl ?_
              refine lv_lload hx hb dX5_tryBlock_115 (lv_at hl 0 rfl) ?_
              refine ty_callv ((W.runV (As := [.ref a1, .ref a2, .ref a3, .ref r_25, .int 3, .long z_68]) (rest := []) ⟨hx, hb, hml, hown, hts⟩ (s_X5_tryBlock_3 l D t cI cL cC gC gE (g + 6) gW gA a0 a1 a2 a3 r_25 z_68 (by omega) k_a0 k_a1 k_a2 k_a3 h_27) (cwV 6 hts gu_X5_tryBlock_2_X5_tryBlock_3_67 rfl rfl rfl (by decide +kernel) ⟨Nat.le_of_ble_eq_true rfl, Nat.le_of_ble_eq_true rfl⟩) (tP_V hG hE at_45 rfl) rfl rfl hl.1 rfl (lv_room (Nat.le_of_ble_eq_true rfl)) dX5_tryBlock_117 ⟨Nat.le_of_ble_eq_true rfl, Nat.le_of_ble_eq_true rfl⟩)) hS (fun _ h => h) (fun H locs hp_76 hG hS o_77 => ?_)
              obtain ⟨x_78, e_79⟩ : ∃ y : Int32, y = yo + Int32.ofInt 2 := ⟨_, rfl⟩
              have i_x_78 : x_78.toInt = yo.toInt + 2 := by rw [e_79, show Int32.ofInt 2 = 2 by decide]; exact (q_add (by rw [show (2 : Int32).toInt = 2 by decide]; omega) (by rw [show (2 : Int32).toInt = 2 by decide]; omega)).trans (by rw [show (2 : Int32).toInt = 2 by decide])
              refine lv_iinc (v := x_78) (lv' := [(9, .int x_78), (10, .long z_68), (8, .ref r_25), (0, .ref a0), (1, .ref a1), (2, .ref a2), (3, .ref a3), (4, .ref a4), (5, .int 2), (6, .long a6)]) hx hb dX5_tryBlock_120 hl (k := 1) rfl e_79.symm (by decide) rfl (fun ls hl => ?_)
              refine lv_goto (tgt := 23) hx hb dX5_tryBlock_123 (by decide) ?_
              exfalso; omega
            · skip
              have c_74 : v_35.toInt ≠ 0 := q_ne c_74
              refine lv_lload hx hb dX5_tryBlock_77 (lv_at hl 0 rfl) ?_
              refine lv_aload_n hx hb dX5_tryBlock_79 rfl (lv_at hl 3 rfl) ?_
              refine va_get (D := D) (ci := 4) (v := .long v_36) (C := RX5) (T := TX5) (N := 10) hx hb hts in5 hown hK (va_one at_45) 0 rfl rfl 4 (by decide) (hts (.fieldLink RX5 28 "RiverModel$Search" "leastPeak" "J") (List.mem_of_getElem? (i := 18) rfl)) (fun _ h9 => h9) rfl dX5_tryBlock_80 ?_
              refine W.lcmp hx hb dX5_tryBlock_83 ?_
              refine lv_pc (pc2 := 84) rfl ?_
              refine lv_if_lt (tgt := 90) hx hb dX5_tryBlock_84 (by decide) (fun c_80 => ?_) (fun c_80 => ?_)
              · skip
                have c_80 : z_68.toInt < v_36.toInt := q_cmp_lt c_80
                refine lv_iload hx hb dX5_tryBlock_90 (lv_at hl 8 rfl) ?_
                refine lv_iconst (v := 3) hx hb dX5_tryBlock_92 (by decide) ?_
                refine lv_icmp_ne (tgt := 105) hx hb dX5_tryBlock_93 (by decide) (fun _ => ?_) (fun q => absurd q (by decide))
                refine lv_aload_n hx hb dX5_tryBlock_105 rfl (lv_at hl 3 rfl) ?_
                refine lv_aload_n hx hb dX5_tryBlock_106 rfl (lv_at hl 4 rfl) ?_
                refine lv_aload_n hx hb dX5_tryBlock_107 rfl (lv_at hl 5 rfl) ?_
                refine lv_aload_n hx hb dX5_tryBlock_108 rfl (lv_at hl 6 rfl) ?_
                refine lv_pc (pc2 := 109) rfl ?_
                refine lv_aload hx hb dX5_tryBlock_109 (lv_at hl 2 rfl) ?_
                refine lv_iload hx hb dX5_tryBlock_111 (lv_at hl 8 rfl) ?_
                refine lv_iconst (v := 1) hx hb dX5_tryBlock_113 (by decide) ?_
                refine lv_iadd hx hb dX5_tryBlock_114 ?_
                refine lv_seti (y := 3) (by decide) ?_
                refine lv_lload hx hb dX5_tryBlock_115 (lv_at hl 0 rfl) ?_
                refine ty_callv ((W.runV (As := [.ref a1, .ref a2, .ref a3, .ref r_25, .int 3, .long z_68]) (rest := []) ⟨hx, hb, hml, hown, hts⟩ (s_X5_tryBlock_3 l D t cI cL cC gC gE (g + 6) gW gA a0 a1 a2 a3 r_25 z_68 (by omega) k_a0 k_a1 k_a2 k_a3 h_27) (cwV 6 hts gu_X5_tryBlock_2_X5_tryBlock_3_67 rfl rfl rfl (by decide +kernel) ⟨Nat.le_of_ble_eq_true rfl, Nat.le_of_ble_eq_true rfl⟩) (tP_V hG hE at_45 rfl) rfl rfl hl.1 rfl (lv_room (Nat.le_of_ble_eq_true rfl)) dX5_tryBlock_117 ⟨Nat.le_of_ble_eq_true rfl, Nat.le_of_ble_eq_true rfl⟩)) hS (fun _ h => h) (fun H locs hp_82 hG hS o_83 => ?_)
                obtain ⟨x_84, e_85⟩ : ∃ y : Int32, y = yo + Int32.ofInt 2 := ⟨_, rfl⟩
                have i_x_84 : x_84.toInt = yo.toInt + 2 := by rw [e_85, show Int32.ofInt 2 = 2 by decide]; exact (q_add (by rw [show (2 : Int32).toInt = 2 by decide]; omega) (by rw [show (2 : Int32).toInt = 2 by decide]; omega)).trans (by rw [show (2 : Int32).toInt = 2 by decide])
                refine lv_iinc (v := x_84) (lv' := [(9, .int x_84), (10, .long z_68), (8, .ref r_25), (0, .ref a0), (1, .ref a1), (2, .ref a2), (3, .ref a3), (4, .ref a4), (5, .int 2), (6, .long a6)]) hx hb dX5_tryBlock_120 hl (k := 1) rfl e_85.symm (by decide) rfl (fun ls hl => ?_)
                refine lv_goto (tgt := 23) hx hb dX5_tryBlock_123 (by decide) ?_
                exfalso; omega
              · skip
                have c_80 : v_36.toInt ≤ z_68.toInt := q_cmp_nlt c_80
                refine lv_pc (pc2 := 87) rfl ?_
                refine lv_goto (tgt := 120) hx hb dX5_tryBlock_87 (by decide) ?_
                obtain ⟨x_86, e_87⟩ : ∃ y : Int32, y = yo + Int32.ofInt 2 := ⟨_, rfl⟩
                have i_x_86 : x_86.toInt = yo.toInt + 2 := by rw [e_87, show Int32.ofInt 2 = 2 by decide]; exact (q_add (by rw [show (2 : Int32).toInt = 2 by decide]; omega) (by rw [show (2 : Int32).toInt = 2 by decide]; omega)).trans (by rw [show (2 : Int32).toInt = 2 by decide])
                refine lv_iinc (v := x_86) (lv' := [(9, .int x_86), (10, .long z_68), (8, .ref r_25), (0, .ref a0), (1, .ref a1), (2, .ref a2), (3, .ref a3), (4, .ref a4), (5, .int 2), (6, .long a6)]) hx hb dX5_tryBlock_120 hl (k := 1) rfl e_87.symm (by decide) rfl (fun ls hl => ?_)
                refine lv_goto (tgt := 23) hx hb dX5_tryBlock_123 (by decide) ?_
                exfalso; omega
      | succ k ih =>
        intro yo g H locs ls hk v0 v1 v2 hG hS hl
        refine (hWW _ _ _).mpr ?_
        refine lv_iload hx hb dX5_tryBlock_23 (lv_at hl 0 rfl) ?_
        refine lv_bipush (v := 10) hx hb dX5_tryBlock_25 (by decide) ?_
        refine lv_icmp_gt (tgt := 126) hx hb dX5_tryBlock_27 (by decide) (fun c_88 => ?_) (fun c_88 => ?_)
        · skip
          have c_88 : 10 < yo.toInt := q_lt c_88
          exact (hWW _ _ _).mp (kx yo g H locs ls (by omega) (by omega) (by omega) hG hS (lv_sub hl [0, 1, 2, 3, 4, 5, 6, 7, 8] rfl))
        · skip
          have c_88 : yo.toInt ≤ 10 := q_nlt c_88
          refine lv_aload_n hx hb dX5_tryBlock_30 rfl (lv_at hl 2 rfl) ?_
          obtain ⟨r_89, r_91, r_93, v_95, v_96, v_97, v_99, v_101, v_102, v_104, at_105, h_90, h_92, h_94, h_98, h_100, h_103⟩ := gF_o9 hG k_a0
          refine va_get (D := D) (ci := 4) (v := .ref r_91) (C := RX5) (T := TX5) (N := 10) hx hb hts in5 hown hK (va_one at_105) 0 rfl rfl 1 (by decide) (hts (.fieldLink RX5 17 "RiverModel$Search" "tried" "[I") (List.mem_of_getElem? (i := 4) rfl)) (fun _ h9 => h9) rfl dX5_tryBlock_31 ?_
          refine lv_pc (pc2 := 34) rfl ?_
          refine lv_iload hx hb dX5_tryBlock_34 (lv_at hl 7 rfl) ?_
          refine lv_iload hx hb dX5_tryBlock_36 (lv_at hl 0 rfl) ?_
          obtain ⟨f_106, at_107⟩ := gF_o33 hG h_92
          have b_108 : vp_in 2 4 := (q_in (by decide) (by decide))
          refine ty_iast (F2 := (gF cI cL cC gC gE g gW gA)) hx hb hK hG hS 0 at_107 (by rw [h_92]; rfl) rfl b_108 (by rw [h_92]; exact ⟨_, rfl⟩) tFF dX5_tryBlock_38 (fun H locs hG hS at_109 o_110 => ?_)
          have at_105 := va_at.keptK at_105 o_110 h_92 k_a0 rfl
          refine lv_aload hx hb dX5_tryBlock_39 (lv_at hl 1 rfl) ?_
          refine lv_aload hx hb dX5_tryBlock_41 (lv_at hl 6 rfl) ?_
          obtain ⟨r_111, r_113, r_115, r_117, v_119, v_120, v_121, v_122, at_124, h_112, h_114, h_116, h_118, h_123⟩ := gF_o5 hG h_27
          refine ty_callv ((W.runV (As := [.ref a4]) (rest := []) ⟨hx, hb, hml, hown, hts⟩ (s_X0_copyFrom l D t cI cL cC gC gE g gW gA r_25 a4 h_27 k_a4) (cwV 1 hts gu_X5_tryBlock_2_X0_copyFrom_53 rfl rfl rfl (by decide +kernel) ⟨Nat.le_of_ble_eq_true rfl, Nat.le_of_ble_eq_true rfl⟩) (tP_V hG hE at_124 rfl) rfl rfl hl.1 rfl (lv_room (Nat.le_of_ble_eq_true rfl)) dX5_tryBlock_43 ⟨Nat.le_of_ble_eq_true rfl, Nat.le_of_ble_eq_true rfl⟩)) hS (wrL_sub (by decide)) (fun H locs hp_126 hG hS o_127 => ?_)
          have at_105 := va_at.keptC at_105 o_127 k_a0 rfl
          refine lv_aload_n hx hb dX5_tryBlock_46 rfl (lv_at hl 2 rfl) ?_
          refine lv_aload_n hx hb dX5_tryBlock_47 rfl (lv_at hl 3 rfl) ?_
          refine lv_pc (pc2 := 48) rfl ?_
          refine lv_aload_n hx hb dX5_tryBlock_48 rfl (lv_at hl 4 rfl) ?_
          refine lv_aload_n hx hb dX5_tryBlock_49 rfl (lv_at hl 5 rfl) ?_
          refine lv_aload hx hb dX5_tryBlock_50 (lv_at hl 1 rfl) ?_
          refine lv_iload hx hb dX5_tryBlock_52 (lv_at hl 0 rfl) ?_
          refine lv_lload hx hb dX5_tryBlock_54 (lv_at hl 8 rfl) ?_
          refine ty_calll ((W.runV (As := [.ref a1, .ref a2, .ref a3, .ref r_25, .int yo, .long a6]) (rest := []) ⟨hx, hb, hml, hown, hts⟩ (s_X5_peakOfBlock l D t cI cL cC gC gE g gW gA a0 a1 a2 a3 r_25 yo a6 (by omega) k_a0 k_a1 k_a2 k_a3 h_27) (cwV 6 hts gu_X5_tryBlock_2_X5_peakOfBlock_57 rfl rfl rfl (by decide +kernel) ⟨Nat.le_of_ble_eq_true rfl, Nat.le_of_ble_eq_true rfl⟩) (tP_V hG hE at_105 rfl) rfl rfl hl.1 rfl (lv_room (Nat.le_of_ble_eq_true rfl)) dX5_tryBlock_56 ⟨Nat.le_of_ble_eq_true rfl, Nat.le_of_ble_eq_true rfl⟩)) hS (wrL_sub (by decide)) (fun z_128 H locs hp_129 hG hS o_130 => ?_)
          have at_105 := va_at.keptC at_105 o_130 k_a0 rfl
          refine lv_lstore (lv' := [(10, .long z_128), (9, .int yo), (8, .ref r_25), (0, .ref a0), (1, .ref a1), (2, .ref a2), (3, .ref a3), (4, .ref a4), (5, .int 2), (6, .long a6)]) hx hb dX5_tryBlock_59 hl (by decide) rfl (fun ls hl => ?_)
          refine lv_lload hx hb dX5_tryBlock_61 (lv_at hl 0 rfl) ?_
          refine lv_pc (pc2 := 63) rfl ?_
          refine lv_ldc2 hx hb hown (hts (.constantLong RX5 61 (-1)) (List.mem_of_getElem? (i := 13) rfl)) dX5_tryBlock_63 ?_
          refine W.lcmp hx hb dX5_tryBlock_66 ?_
          refine lv_if_eq (tgt := 120) hx hb dX5_tryBlock_67 (by decide) (fun c_131 => ?_) (fun c_131 => ?_)
          · skip
            have c_131 : z_128.toInt = (-1) := q_cmp_eq c_131
            obtain ⟨x_132, e_133⟩ : ∃ y : Int32, y = yo + Int32.ofInt 2 := ⟨_, rfl⟩
            have i_x_132 : x_132.toInt = yo.toInt + 2 := by rw [e_133, show Int32.ofInt 2 = 2 by decide]; exact (q_add (by rw [show (2 : Int32).toInt = 2 by decide]; omega) (by rw [show (2 : Int32).toInt = 2 by decide]; omega)).trans (by rw [show (2 : Int32).toInt = 2 by decide])
            refine lv_iinc (v := x_132) (lv' := [(9, .int x_132), (10, .long z_128), (8, .ref r_25), (0, .ref a0), (1, .ref a1), (2, .ref a2), (3, .ref a3), (4, .ref a4), (5, .int 2), (6, .long a6)]) hx hb dX5_tryBlock_120 hl (k := 1) rfl e_133.symm (by decide) rfl (fun ls hl => ?_)
            refine lv_goto (tgt := 23) hx hb dX5_tryBlock_123 (by decide) ?_
            exact (hWW _ _ _).mp (ih x_132 (g + 6) H locs ls (by omega) (by omega) (by omega) (by omega) hG hS (lv_sub hl [0, 2, 3, 4, 5, 6, 7, 8, 9] rfl))
          · skip
            have c_131 : z_128.toInt ≠ (-1) := q_cmp_ne c_131
            refine lv_aload_n hx hb dX5_tryBlock_70 rfl (lv_at hl 3 rfl) ?_
            refine va_get (D := D) (ci := 4) (v := .int v_95) (C := RX5) (T := TX5) (N := 10) hx hb hts in5 hown hK (va_one at_105) 0 rfl rfl 3 (by decide) (hts (.fieldLink RX5 24 "RiverModel$Search" "isFound" "Z") (List.mem_of_getElem? (i := 14) rfl)) (fun _ h9 => h9) rfl dX5_tryBlock_71 ?_
            refine lv_if_eq (tgt := 90) hx hb dX5_tryBlock_74 (by decide) (fun c_134 => ?_) (fun c_134 => ?_)
            · skip
              have c_134 : v_95.toInt = 0 := q_eq c_134
              refine lv_pc (pc2 := 90) rfl ?_
              refine lv_iload hx hb dX5_tryBlock_90 (lv_at hl 8 rfl) ?_
              refine lv_iconst (v := 3) hx hb dX5_tryBlock_92 (by decide) ?_
              refine lv_icmp_ne (tgt := 105) hx hb dX5_tryBlock_93 (by decide) (fun _ => ?_) (fun q => absurd q (by decide))
              refine lv_aload_n hx hb dX5_tryBlock_105 rfl (lv_at hl 3 rfl) ?_
              refine lv_aload_n hx hb dX5_tryBlock_106 rfl (lv_at hl 4 rfl) ?_
              refine lv_aload_n hx hb dX5_tryBlock_107 rfl (lv_at hl 5 rfl) ?_
              refine lv_aload_n hx hb dX5_tryBlock_108 rfl (lv_at hl 6 rfl) ?_
              refine lv_aload hx hb dX5_tryBlock_109 (lv_at hl 2 rfl) ?_
              refine lv_pc (pc2 := 111) rfl ?_
              refine lv_iload hx hb dX5_tryBlock_111 (lv_at hl 8 rfl) ?_
              refine lv_iconst (v := 1) hx hb dX5_tryBlock_113 (by decide) ?_
              refine lv_iadd hx hb dX5_tryBlock_114 ?_
              refine lv_seti (y := 3) (by decide) ?_
              refine lv_lload hx hb dX5_tryBlock_115 (lv_at hl 0 rfl) ?_
              refine ty_callv ((W.runV (As := [.ref a1, .ref a2, .ref a3, .ref r_25, .int 3, .long z_128]) (rest := []) ⟨hx, hb, hml, hown, hts⟩ (s_X5_tryBlock_3 l D t cI cL cC gC gE (g + 6) gW gA a0 a1 a2 a3 r_25 z_128 (by omega) k_a0 k_a1 k_a2 k_a3 h_27) (cwV 6 hts gu_X5_tryBlock_2_X5_tryBlock_3_67 rfl rfl rfl (by decide +kernel) ⟨Nat.le_of_ble_eq_true rfl, Nat.le_of_ble_eq_true rfl⟩) (tP_V hG hE at_105 rfl) rfl rfl hl.1 rfl (lv_room (Nat.le_of_ble_eq_true rfl)) dX5_tryBlock_117 ⟨Nat.le_of_ble_eq_true rfl, Nat.le_of_ble_eq_true rfl⟩)) hS (fun _ h => h) (fun H locs hp_136 hG hS o_137 => ?_)
              obtain ⟨x_138, e_139⟩ : ∃ y : Int32, y = yo + Int32.ofInt 2 := ⟨_, rfl⟩
              have i_x_138 : x_138.toInt = yo.toInt + 2 := by rw [e_139, show Int32.ofInt 2 = 2 by decide]; exact (q_add (by rw [show (2 : Int32).toInt = 2 by decide]; omega) (by rw [show (2 : Int32).toInt = 2 by decide]; omega)).trans (by rw [show (2 : Int32).toInt = 2 by decide])
              refine lv_iinc (v := x_138) (lv' := [(9, .int x_138), (10, .long z_128), (8, .ref r_25), (0, .ref a0), (1, .ref a1), (2, .ref a2), (3, .ref a3), (4, .ref a4), (5, .int 2), (6, .long a6)]) hx hb dX5_tryBlock_120 hl (k := 1) rfl e_139.symm (by decide) rfl (fun ls hl => ?_)
              refine lv_goto (tgt := 23) hx hb dX5_tryBlock_123 (by decide) ?_
              exact (hWW _ _ _).mp (ih x_138 (g + 42) H locs ls (by omega) (by omega) (by omega) (by omega) hG hS (lv_sub hl [0, 2, 3, 4, 5, 6, 7, 8, 9] rfl))
            · skip
              have c_134 : v_95.toInt ≠ 0 := q_ne c_134
              refine lv_lload hx hb dX5_tryBlock_77 (lv_at hl 0 rfl) ?_
              refine lv_pc (pc2 := 79) rfl ?_
              refine lv_aload_n hx hb dX5_tryBlock_79 rfl (lv_at hl 3 rfl) ?_
              refine va_get (D := D) (ci := 4) (v := .long v_96) (C := RX5) (T := TX5) (N := 10) hx hb hts in5 hown hK (va_one at_105) 0 rfl rfl 4 (by decide) (hts (.fieldLink RX5 28 "RiverModel$Search" "leastPeak" "J") (List.mem_of_getElem? (i := 18) rfl)) (fun _ h9 => h9) rfl dX5_tryBlock_80 ?_
              refine W.lcmp hx hb dX5_tryBlock_83 ?_
              refine lv_if_lt (tgt := 90) hx hb dX5_tryBlock_84 (by decide) (fun c_140 => ?_) (fun c_140 => ?_)
              · skip
                have c_140 : z_128.toInt < v_96.toInt := q_cmp_lt c_140
                refine lv_iload hx hb dX5_tryBlock_90 (lv_at hl 8 rfl) ?_
                refine lv_iconst (v := 3) hx hb dX5_tryBlock_92 (by decide) ?_
                refine lv_icmp_ne (tgt := 105) hx hb dX5_tryBlock_93 (by decide) (fun _ => ?_) (fun q => absurd q (by decide))
                refine lv_aload_n hx hb dX5_tryBlock_105 rfl (lv_at hl 3 rfl) ?_
                refine lv_pc (pc2 := 106) rfl ?_
                refine lv_aload_n hx hb dX5_tryBlock_106 rfl (lv_at hl 4 rfl) ?_
                refine lv_aload_n hx hb dX5_tryBlock_107 rfl (lv_at hl 5 rfl) ?_
                refine lv_aload_n hx hb dX5_tryBlock_108 rfl (lv_at hl 6 rfl) ?_
                refine lv_aload hx hb dX5_tryBlock_109 (lv_at hl 2 rfl) ?_
                refine lv_iload hx hb dX5_tryBlock_111 (lv_at hl 8 rfl) ?_
                refine lv_iconst (v := 1) hx hb dX5_tryBlock_113 (by decide) ?_
                refine lv_iadd hx hb dX5_tryBlock_114 ?_
                refine lv_seti (y := 3) (by decide) ?_
                refine lv_lload hx hb dX5_tryBlock_115 (lv_at hl 0 rfl) ?_
                refine lv_pc (pc2 := 117) rfl ?_
                refine ty_callv ((W.runV (As := [.ref a1, .ref a2, .ref a3, .ref r_25, .int 3, .long z_128]) (rest := []) ⟨hx, hb, hml, hown, hts⟩ (s_X5_tryBlock_3 l D t cI cL cC gC gE (g + 6) gW gA a0 a1 a2 a3 r_25 z_128 (by omega) k_a0 k_a1 k_a2 k_a3 h_27) (cwV 6 hts gu_X5_tryBlock_2_X5_tryBlock_3_67 rfl rfl rfl (by decide +kernel) ⟨Nat.le_of_ble_eq_true rfl, Nat.le_of_ble_eq_true rfl⟩) (tP_V hG hE at_105 rfl) rfl rfl hl.1 rfl (lv_room (Nat.le_of_ble_eq_true rfl)) dX5_tryBlock_117 ⟨Nat.le_of_ble_eq_true rfl, Nat.le_of_ble_eq_true rfl⟩)) hS (fun _ h => h) (fun H locs hp_142 hG hS o_143 => ?_)
                obtain ⟨x_144, e_145⟩ : ∃ y : Int32, y = yo + Int32.ofInt 2 := ⟨_, rfl⟩
                have i_x_144 : x_144.toInt = yo.toInt + 2 := by rw [e_145, show Int32.ofInt 2 = 2 by decide]; exact (q_add (by rw [show (2 : Int32).toInt = 2 by decide]; omega) (by rw [show (2 : Int32).toInt = 2 by decide]; omega)).trans (by rw [show (2 : Int32).toInt = 2 by decide])
                refine lv_iinc (v := x_144) (lv' := [(9, .int x_144), (10, .long z_128), (8, .ref r_25), (0, .ref a0), (1, .ref a1), (2, .ref a2), (3, .ref a3), (4, .ref a4), (5, .int 2), (6, .long a6)]) hx hb dX5_tryBlock_120 hl (k := 1) rfl e_145.symm (by decide) rfl (fun ls hl => ?_)
                refine lv_goto (tgt := 23) hx hb dX5_tryBlock_123 (by decide) ?_
                exact (hWW _ _ _).mp (ih x_144 (g + 42) H locs ls (by omega) (by omega) (by omega) (by omega) hG hS (lv_sub hl [0, 2, 3, 4, 5, 6, 7, 8, 9] rfl))
              · skip
                have c_140 : v_96.toInt ≤ z_128.toInt := q_cmp_nlt c_140
                refine lv_goto (tgt := 120) hx hb dX5_tryBlock_87 (by decide) ?_
                obtain ⟨x_146, e_147⟩ : ∃ y : Int32, y = yo + Int32.ofInt 2 := ⟨_, rfl⟩
                have i_x_146 : x_146.toInt = yo.toInt + 2 := by rw [e_147, show Int32.ofInt 2 = 2 by decide]; exact (q_add (by rw [show (2 : Int32).toInt = 2 by decide]; omega) (by rw [show (2 : Int32).toInt = 2 by decide]; omega)).trans (by rw [show (2 : Int32).toInt = 2 by decide])
                refine lv_iinc (v := x_146) (lv' := [(9, .int x_146), (10, .long z_128), (8, .ref r_25), (0, .ref a0), (1, .ref a1), (2, .ref a2), (3, .ref a3), (4, .ref a4), (5, .int 2), (6, .long a6)]) hx hb dX5_tryBlock_120 hl (k := 1) rfl e_147.symm (by decide) rfl (fun ls hl => ?_)
                refine lv_goto (tgt := 23) hx hb dX5_tryBlock_123 (by decide) ?_
                exact (hWW _ _ _).mp (ih x_146 (g + 6) H locs ls (by omega) (by omega) (by omega) (by omega) hG hS (lv_sub hl [0, 2, 3, 4, 5, 6, 7, 8, 9] rfl))
    have hz_yo : (0 : Int32).toInt = 0 := by decide
    exact loop (12 - 0 : Int).toNat 0 G H locs ls (by omega) (by omega) (by omega) (by omega) hG hS (lv_sub hl [0, 1, 2, 3, 4, 5, 6, 7, 8] rfl)

def uX5_tryBlock_1 : List Cond := .code yX5_tryBlock cX5_tryBlock 12 none :: ([.initialized RX9, .static yX9_isOutside, .fieldLink RX5 11 "RiverModel$Search" "blockEnds" "[LRiverModel$Course;", .fieldLink RX5 17 "RiverModel$Search" "tried" "[I", .methodLink RX5 53 yX0_copyFrom, .instanceMethod yX0_copyFrom, .selects RX0 yX0_copyFrom yX0_copyFrom, .initialized RX0, .methodLink RX5 57 yX5_peakOfBlock, .instanceMethod yX5_peakOfBlock, .selects RX5 yX5_peakOfBlock yX5_peakOfBlock, .initialized RX5, .constantLong RX5 61 (-1), .fieldLink RX5 24 "RiverModel$Search" "isFound" "Z", .methodLink RX5 67 yX5_tryBlock, .instanceMethod yX5_tryBlock, .selects RX5 yX5_tryBlock yX5_tryBlock, .fieldLink RX5 28 "RiverModel$Search" "leastPeak" "J", .code yX9_isOutside cX9_isOutside 3 (some .boolean), .code yX0_copyFrom cX0_copyFrom 2 none, .fieldLink RX0 9 "RiverModel$Course" "held" "[J", .methodLink RX0 54 arraycopyName, .native arraycopyName, .static arraycopyName, .initialized "java/lang/System", .fieldLink RX0 15 "RiverModel$Course" "moved" "[J", .fieldLink RX0 18 "RiverModel$Course" "openings" "[I", .fieldLink RX0 22 "RiverModel$Course" "due" "[J", .fieldLink RX0 25 "RiverModel$Course" "rained" "J", .fieldLink RX0 29 "RiverModel$Course" "air" "J", .fieldLink RX0 32 "RiverModel$Course" "sea" "J", .fieldLink RX0 35 "RiverModel$Course" "hours" "I", .code yX5_peakOfBlock cX5_peakOfBlock 11 (some .long), .fieldLink RX5 32 "RiverModel$Search" "gate" "I", .static yX9_isNoGate, .fieldLink RX5 42 "RiverModel$Search" "store" "I", .static yX9_isNoStore, .fieldLink RX5 78 "RiverModel$Course" "openings" "[I", .fieldLink RX5 36 "RiverModel$Search" "blockHours" "I", .fieldLink RX5 81 "RiverModel$Course" "hours" "I", .methodLink RX5 84 yX6_rainIn, .instanceMethod yX6_rainIn, .selects RX6 yX6_rainIn yX6_rainIn, .initialized RX6, .methodLink RX5 90 yX6_tempIn, .instanceMethod yX6_tempIn, .selects RX6 yX6_tempIn yX6_tempIn, .methodLink RX5 93 yX0_goHour, .instanceMethod yX0_goHour, .selects RX0 yX0_goHour yX0_goHour, .fieldLink RX5 97 "RiverModel$Course" "held" "[J", .fieldLink RX5 45 "RiverModel$Search" "limit" "J", .fieldLink RX5 39 "RiverModel$Search" "gauge" "I", .methodLink RX5 101 yX1_reading, .instanceMethod yX1_reading, .selects RX1 yX1_reading yX1_reading, .initialized RX1, .methodLink RX5 107 Lib.MathLoose.max_long.x, .static Lib.MathLoose.max_long.x, .initialized "java/lang/Math", .code Lib.MathLoose.max_long.x Lib.MathLoose.max_long.code 4 (some .long), .code yX9_isNoGate cX9_isNoGate 1 (some .boolean), .code yX9_isNoStore cX9_isNoStore 1 (some .boolean), .code yX6_rainIn cX6_rainIn 2 (some .int), .fieldLink RX6 9 "RiverModel$Sky" "rains" "[I", .code yX6_tempIn cX6_tempIn 2 (some .int), .fieldLink RX6 15 "RiverModel$Sky" "temps" "[I", .code yX0_goHour cX0_goHour 7 none, .methodLink RX0 72 yX0_bringDue, .instanceMethod yX0_bringDue, .selects RX0 yX0_bringDue yX0_bringDue, .fieldLink RX0 75 "RiverModel$Model" "many" "I", .methodLink RX0 78 yX0_amountOf, .instanceMethod yX0_amountOf, .selects RX0 yX0_amountOf yX0_amountOf, .methodLink RX0 82 yX0_move, .instanceMethod yX0_move, .selects RX0 yX0_move yX0_move, .code yX0_bringDue cX0_bringDue 3 none, .code yX0_amountOf cX0_amountOf 11 (some .long), .methodLink RX0 86 yX4_cell, .instanceMethod yX4_cell, .selects RX4 yX4_cell yX4_cell, .initialized RX4, .methodLink RX0 110 yX4_gateOf, .instanceMethod yX4_gateOf, .selects RX4 yX4_gateOf yX4_gateOf, .methodLink RX0 113 yX0_openingOf, .instanceMethod yX0_openingOf, .selects RX0 yX0_openingOf yX0_openingOf, .methodLink RX0 107 Lib.MathLoose.min_long.x, .static Lib.MathLoose.min_long.x, .code Lib.MathLoose.min_long.x Lib.MathLoose.min_long.code 4 (some .long), .methodLink RX0 94 yX0_leakOf, .static yX0_leakOf, .constantLong RX0 117 (100), .methodLink RX0 98 yX4_capacityOf, .instanceMethod yX4_capacityOf, .selects RX4 yX4_capacityOf yX4_capacityOf, .methodLink RX0 101 Lib.MathLoose.max_long.x, .constantLong RX0 119 (10), .code yX4_cell cX4_cell 3 (some .int), .fieldLink RX4 9 "RiverModel$Model" "cells" "[I", .code yX4_gateOf cX4_gateOf 3 (some .int), .fieldLink RX4 28 "RiverModel$Model" "gates" "I", .fieldLink RX4 18 "RiverModel$Model" "gateItems" "[I", .code yX0_openingOf cX0_openingOf 2 (some .long), .code yX0_leakOf cX0_leakOf 8 (some .long), .code yX4_capacityOf cX4_capacityOf 2 (some .int), .methodLink RX4 66 yX4_hasStore, .instanceMethod yX4_hasStore, .selects RX4 yX4_hasStore yX4_hasStore, .fieldLink RX4 15 "RiverModel$Model" "storeItems" "[I", .methodLink RX4 73 yX4_cell, .code yX4_hasStore cX4_hasStore 2 (some .boolean), .code yX0_move cX0_move 8 none, .methodLink RX0 124 yX0_send, .instanceMethod yX0_send, .selects RX0 yX0_send yX0_send, .code yX0_send cX0_send 5 none, .code yX1_reading cX1_reading 4 (some .long), .methodLink RX1 35 yX1_isSet, .instanceMethod yX1_isSet, .selects RX1 yX1_isSet yX1_isSet, .fieldLink RX1 15 "RiverModel$Gauges" "places" "[I", .fieldLink RX1 9 "RiverModel$Gauges" "whats" "[I", .fieldLink RX1 50 "RiverModel$Course" "held" "[J", .static yX9_isNoItem, .fieldLink RX1 41 "RiverModel$Course" "moved" "[J", .code yX1_isSet cX1_isSet 2 (some .boolean), .code yX9_isNoItem cX9_isNoItem 1 (some .boolean), .methodLink RX5 63 yX5_takeTried, .instanceMethod yX5_takeTried, .selects RX5 yX5_takeTried yX5_takeTried, .code yX5_takeTried cX5_takeTried 3 none, .fieldLink RX5 21 "RiverModel$Search" "found" "[I", .methodLink RX5 113 arraycopyName] ++ wsX50 ++ wsX00 ++ wsX60 ++ wsX40 ++ wsX10)
set_option maxRecDepth 20000 in
theorem gu_X5_tryBlock_1_X9_isOutside_n : GoodIn uX5_tryBlock_1 (uX9_isOutside) := goodIn_r _ [19] rfl (by decide +kernel)
set_option maxRecDepth 20000 in
theorem gu_X5_tryBlock_1_X0_copyFrom_53 : GoodIn uX5_tryBlock_1 (wsV RX5 53 RX0 yX0_copyFrom uX0_copyFrom) := goodIn_r _ [5, 6, 7, 8, 20, 21, 22, 23, 24, 25, 26, 27, 28, 29, 30, 31, 32, 148, 149, 150, 151, 152, 153, 154, 155] rfl (by decide +kernel)
set_option maxRecDepth 20000 in
theorem gu_X5_tryBlock_1_X5_peakOfBlock_57 : GoodIn uX5_tryBlock_1 (wsV RX5 57 RX5 yX5_peakOfBlock uX5_peakOfBlock) := goodIn_r _ [9, 10, 11, 12, 33, 34, 1, 35, 13, 36, 37, 38, 39, 40, 41, 42, 43, 44, 45, 46, 47, 48, 49, 50, 8, 51, 52, 53, 54, 55, 56, 57, 58, 59, 60, 61, 62, 63, 64, 2, 65, 19, 66, 67, 68, 69, 70, 71, 32, 72, 73, 74, 75, 26, 76, 77, 78, 79, 21, 28, 80, 81, 82, 83, 84, 85, 86, 87, 88, 89, 90, 91, 92, 93, 94, 95, 96, 97, 98, 99, 100, 101, 102, 103, 104, 105, 106, 107, 27, 108, 109, 110, 111, 112, 113, 114, 115, 116, 29, 117, 118, 119, 31, 30, 120, 121, 122, 123, 124, 125, 126, 127, 128, 129, 130, 131, 138, 139, 140, 141, 142, 143, 144, 145, 146, 147, 148, 149, 150, 151, 152, 153, 154, 155, 156, 157, 158, 159, 160, 161, 162, 163, 164, 165, 166, 167] rfl (by decide +kernel)
set_option maxRecDepth 20000 in
theorem gu_X5_tryBlock_1_X5_tryBlock_2_67 : GoodIn uX5_tryBlock_1 (wsV RX5 67 RX5 yX5_tryBlock uX5_tryBlock_2) := goodIn_r _ [15, 16, 17, 12, 0, 1, 2, 3, 4, 5, 6, 7, 8, 9, 10, 11, 12, 13, 14, 15, 16, 17, 18, 19, 20, 21, 22, 23, 24, 25, 26, 27, 28, 29, 30, 31, 32, 33, 34, 35, 36, 37, 38, 39, 40, 41, 42, 43, 44, 45, 46, 47, 48, 49, 50, 51, 52, 53, 54, 55, 56, 57, 58, 59, 60, 61, 62, 63, 64, 65, 66, 67, 68, 69, 70, 71, 72, 73, 74, 75, 76, 77, 78, 79, 80, 81, 82, 83, 84, 85, 86, 87, 88, 89, 90, 91, 92, 93, 94, 95, 96, 97, 98, 99, 100, 101, 102, 103, 104, 105, 106, 107, 108, 109, 110, 111, 112, 113, 114, 115, 116, 117, 118, 119, 120, 121, 122, 123, 124, 125, 126, 127, 128, 129, 130, 131, 132, 133, 134, 135, 136, 137, 138, 139, 140, 141, 142, 143, 144, 145, 146, 147, 148, 149, 150, 151, 152, 153, 154, 155, 156, 157, 158, 159, 160, 161, 162, 163, 164, 165, 166, 167] rfl (by decide +kernel)
set_option maxHeartbeats 4000000 in
set_option maxRecDepth 100000 in
theorem s_X5_tryBlock_1 (l : Launch) (D : va_G) (t : Nat → Nat) (cI cL cC : ClassId) (gC : Int32) (gE : Int32) (G : Nat) (gW : Nat → Int32) (gA : Nat → Int32) (a0 : Nat) (a1 : Nat) (a2 : Nat) (a3 : Nat) (a4 : Nat) (a6 : Int64) (hGb : G ≤ 151000000) (k_a0 : t a0 = 9) (k_a1 : t a1 = 3) (k_a2 : t a2 = 4) (k_a3 : t a3 = 6) (k_a4 : t a4 = 5) : tM l yX5_tryBlock uX5_tryBlock_1 7 191 D (gF cI cL cC gC gE G gW gA) (gF cI cL cC gC gE (G + 1548) gW gA) t cI cL cC [.ref a0, .ref a1, .ref a2, .ref a3, .ref a4, .int 1, .long a6] wrS (pV (True)) := by
  refine tM.ofW (cc := cX5_tryBlock) (maxL := 12) (ret := none) (by decide) rfl (Nat.le_of_ble_eq_true rfl) ?_
  intro p e s m below meth c hx hb hr hml hown hts hlk H locs hG hK hE hS ls hl
  have hl : lv_has ls 12 [(0, .ref a0), (1, .ref a1), (2, .ref a2), (3, .ref a3), (4, .ref a4), (5, .int 1), (6, .long a6)] := hl
  have in5 : ∀ w ∈ wsX50, w ∈ uX5_tryBlock_1 := fun w h => List.mem_cons_of_mem _ (List.mem_append_left _ (List.mem_append_left _ (List.mem_append_left _ (List.mem_append_left _ (List.mem_append_right _ h)))))
  refine lv_iload hx hb dX5_tryBlock_0 (lv_at hl 5 rfl) ?_
  refine lv_iconst (v := 0) hx hb dX5_tryBlock_2 (by decide) ?_
  refine lv_iconst (v := 3) hx hb dX5_tryBlock_3 (by decide) ?_
  refine ty_calli (tRun (va_runSN (As := [.int 1, .int 0, .int 3]) (rest := []) ⟨hx, hb, hml, hown, hts⟩ (s_X9_isOutside l D t cI cL cC gC gE G gW gA 1 0 3 0 3 (by decide) (by decide) ) ⟨(va_cnB 3 hts gu_X5_tryBlock_1_X9_isOutside_n rfl rfl rfl (hE.2.1 _ (List.mem_of_getElem? (i := 23) rfl)) (hts (.initialized RX9) (List.mem_of_getElem? (i := 1) rfl)) (by decide +kernel) ⟨Nat.le_of_ble_eq_true rfl, Nat.le_of_ble_eq_true rfl⟩), (hts (.static yX9_isOutside) (List.mem_of_getElem? (i := 2) rfl)), trivial⟩ (tP_S hG hE) rfl rfl hl.1 rfl (lv_room (Nat.le_of_ble_eq_true rfl)) dX5_tryBlock_4 ⟨Nat.le_of_ble_eq_true rfl, Nat.le_of_ble_eq_true rfl⟩)) hS (fun k h => by simp [wr0] at h) (fun r_1 H locs hp_2 hG hS o_3 => ?_)
  rcases hp_2 with ⟨rfl, hc_115⟩ | ⟨rfl, hc_116, hc_117⟩
  · skip
    refine lv_if_eq (tgt := 11) hx hb dX5_tryBlock_7 (by decide) (fun q => absurd q (by decide)) (fun _ => ?_)
    exact ty_vret hx hb hr hlk (hG.weak (fun _ _ => gF_mono (by omega))) hS True.intro dX5_tryBlock_10
  · skip
    refine lv_if_eq (tgt := 11) hx hb dX5_tryBlock_7 (by decide) (fun _ => ?_) (fun q => absurd (by decide) q)
    refine lv_pc (pc2 := 11) rfl ?_
    refine lv_aload_n hx hb dX5_tryBlock_11 rfl (lv_at hl 0 rfl) ?_
    obtain ⟨r_4, r_6, r_8, v_10, v_11, v_12, v_14, v_16, v_17, v_19, at_20, h_5, h_7, h_9, h_13, h_15, h_18⟩ := gF_o9 hG k_a0
    refine va_get (D := D) (ci := 4) (v := .ref r_4) (C := RX5) (T := TX5) (N := 10) hx hb hts in5 hown hK (va_one at_20) 0 rfl rfl 0 (by decide) (hts (.fieldLink RX5 11 "RiverModel$Search" "blockEnds" "[LRiverModel$Course;") (List.mem_of_getElem? (i := 3) rfl)) (fun _ h9 => h9) rfl dX5_tryBlock_12 ?_
    refine lv_iload hx hb dX5_tryBlock_15 (lv_at hl 5 rfl) ?_
    obtain ⟨f_21, at_22, h_23⟩ := gF_o32 hG h_5
    have b_24 : vp_in 1 4 := (q_in (by decide) (by decide))
    refine va_aldq hx hb hK (va_one at_22) 0 2 rfl rfl b_24 dX5_tryBlock_17 ?_
    obtain ⟨r_25, e_26, h_27⟩ := h_23 _ (q_inlt b_24)
    rw [e_26]
    show W p l _ _ s m _ below meth c _ _ _ _ _ (F0 m _ ls (.ref r_25 :: _))
    refine lv_astore (lv' := [(8, .ref r_25), (0, .ref a0), (1, .ref a1), (2, .ref a2), (3, .ref a3), (4, .ref a4), (5, .int 1), (6, .long a6)]) hx hb dX5_tryBlock_18 hl (by decide) rfl (fun ls hl => ?_)
    refine lv_iconst (v := 0) hx hb dX5_tryBlock_20 (by decide) ?_
    refine lv_istore (lv' := [(9, .int 0), (8, .ref r_25), (0, .ref a0), (1, .ref a1), (2, .ref a2), (3, .ref a3), (4, .ref a4), (5, .int 1), (6, .long a6)]) hx hb dX5_tryBlock_21 hl (by decide) rfl (fun ls hl => ?_)
    refine lv_pc (pc2 := 23) rfl ?_
    refine lp_gen (fun WW hWW => ?_)
    have kx : ∀ (yo : Int32) (g : Nat) (H1 : Heap) (locs1 : List Loc) (ls1 : Array Slot), 0 ≤ yo.toInt → yo.toInt ≤ 12 → 2 * (g : Int) + 258 * (12 - yo.toInt) ≤ 2 * (G : Int) + 3096 → tG D (gF cI cL cC gC gE g gW gA) t H1 → tF t wrS s.heap H1 locs1 → lv_has ls1 12 [(9, .int yo), (8, .ref r_25), (0, .ref a0), (1, .ref a1), (2, .ref a2), (3, .ref a3), (4, .ref a4), (5, .int 1), (6, .long a6)] → WW H1 locs1 (F0 m 126 ls1 []) := by
      intro yo g H locs ls v0 v1 v2 hG hS hl
      refine (hWW _ _ _).mpr ?_
      exact ty_vret hx hb hr hlk (hG.weak (fun _ _ => gF_mono (by omega))) hS True.intro dX5_tryBlock_126
    have loop : ∀ (k : Nat) (yo : Int32) (g : Nat) (H1 : Heap) (locs1 : List Loc) (ls1 : Array Slot), 12 - yo.toInt ≤ (k : Int) → 0 ≤ yo.toInt → yo.toInt ≤ 12 → 2 * (g : Int) + 258 * (12 - yo.toInt) ≤ 2 * (G : Int) + 3096 → tG D (gF cI cL cC gC gE g gW gA) t H1 → tF t wrS s.heap H1 locs1 → lv_has ls1 12 [(9, .int yo), (8, .ref r_25), (0, .ref a0), (1, .ref a1), (2, .ref a2), (3, .ref a3), (4, .ref a4), (5, .int 1), (6, .long a6)] → WW H1 locs1 (F0 m 23 ls1 []) := by
      intro k
      induction k with
      | zero =>
        intro yo g H locs ls hk v0 v1 v2 hG hS hl
        refine (hWW _ _ _).mpr ?_
        refine lv_pc (pc2 := 23) rfl ?_
        refine lv_iload hx hb dX5_tryBlock_23 (lv_at hl 0 rfl) ?_
        refine lv_bipush (v := 10) hx hb dX5_tryBlock_25 (by decide) ?_
        refine lv_icmp_gt (tgt := 126) hx hb dX5_tryBlock_27 (by decide) (fun c_28 => ?_) (fun c_28 => ?_)
        · skip
          have c_28 : 10 < yo.toInt := q_lt c_28
          exact (hWW _ _ _).mp (kx yo g H locs ls (by omega) (by omega) (by omega) hG hS (lv_sub hl [0, 1, 2, 3, 4, 5, 6, 7, 8] rfl))
        · skip
          have c_28 : yo.toInt ≤ 10 := q_nlt c_28
          refine lv_aload_n hx hb dX5_tryBlock_30 rfl (lv_at hl 2 rfl) ?_
          obtain ⟨r_29, r_31, r_33, v_35, v_36, v_37, v_39, v_41, v_42, v_44, at_45, h_30, h_32, h_34, h_38, h_40, h_43⟩ := gF_o9 hG k_a0
          refine va_get (D := D) (ci := 4) (v := .ref r_31) (C := RX5) (T := TX5) (N := 10) hx hb hts in5 hown hK (va_one at_45) 0 rfl rfl 1 (by decide) (hts (.fieldLink RX5 17 "RiverModel$Search" "tried" "[I") (List.mem_of_getElem? (i := 4) rfl)) (fun _ h9 => h9) rfl dX5_tryBlock_31 ?_
          refine lv_iload hx hb dX5_tryBlock_34 (lv_at hl 7 rfl) ?_
          refine lv_iload hx hb dX5_tryBlock_36 (lv_at hl 0 rfl) ?_
          obtain ⟨f_46, at_47⟩ := gF_o33 hG h_32
          have b_48 : vp_in 1 4 := (q_in (by decide) (by decide))
          refine ty_iast (F2 := (gF cI cL cC gC gE g gW gA)) hx hb hK hG hS 0 at_47 (by rw [h_32]; rfl) rfl b_48 (by rw [h_32]; exact ⟨_, rfl⟩) tFF dX5_tryBlock_38 (fun H locs hG hS at_49 o_50 => ?_)
          have at_45 := va_at.keptK at_45 o_50 h_32 k_a0 rfl
          refine lv_pc (pc2 := 39) rfl ?_
          refine lv_aload hx hb dX5_tryBlock_39 (lv_at hl 1 rfl) ?_
          refine lv_aload hx hb dX5_tryBlock_41 (lv_at hl 6 rfl) ?_
          obtain ⟨r_51, r_53, r_55, r_57, v_59, v_60, v_61, v_62, at_64, h_52, h_54, h_56, h_58, h_63⟩ := gF_o5 hG h_27
          refine ty_callv ((W.runV (As := [.ref a4]) (rest := []) ⟨hx, hb, hml, hown, hts⟩ (s_X0_copyFrom l D t cI cL cC gC gE g gW gA r_25 a4 h_27 k_a4) (cwV 1 hts gu_X5_tryBlock_1_X0_copyFrom_53 rfl rfl rfl (by decide +kernel) ⟨Nat.le_of_ble_eq_true rfl, Nat.le_of_ble_eq_true rfl⟩) (tP_V hG hE at_64 rfl) rfl rfl hl.1 rfl (lv_room (Nat.le_of_ble_eq_true rfl)) dX5_tryBlock_43 ⟨Nat.le_of_ble_eq_true rfl, Nat.le_of_ble_eq_true rfl⟩)) hS (wrL_sub (by decide)) (fun H locs hp_66 hG hS o_67 => ?_)
          have at_45 := va_at.keptC at_45 o_67 k_a0 rfl
          refine lv_aload_n hx hb dX5_tryBlock_46 rfl (lv_at hl 2 rfl) ?_
          refine lv_aload_n hx hb dX5_tryBlock_47 rfl (lv_at hl 3 rfl) ?_
          refine lv_aload_n hx hb dX5_tryBlock_48 rfl (lv_at hl 4 rfl) ?_
          refine lv_aload_n hx hb dX5_tryBlock_49 rfl (lv_at hl 5 rfl) ?_
          refine lv_aload hx hb dX5_tryBlock_50 (lv_at hl 1 rfl) ?_
          refine lv_pc (pc2 := 52) rfl ?_
          refine lv_iload hx hb dX5_tryBlock_52 (lv_at hl 0 rfl) ?_
          refine lv_lload hx hb dX5_tryBlock_54 (lv_at hl 8 rfl) ?_
          refine ty_calll ((W.runV (As := [.ref a1, .ref a2, .ref a3, .ref r_25, .int yo, .long a6]) (rest := []) ⟨hx, hb, hml, hown, hts⟩ (s_X5_peakOfBlock l D t cI cL cC gC gE g gW gA a0 a1 a2 a3 r_25 yo a6 (by omega) k_a0 k_a1 k_a2 k_a3 h_27) (cwV 6 hts gu_X5_tryBlock_1_X5_peakOfBlock_57 rfl rfl rfl (by decide +kernel) ⟨Nat.le_of_ble_eq_true rfl, Nat.le_of_ble_eq_true rfl⟩) (tP_V hG hE at_45 rfl) rfl rfl hl.1 rfl (lv_room (Nat.le_of_ble_eq_true rfl)) dX5_tryBlock_56 ⟨Nat.le_of_ble_eq_true rfl, Nat.le_of_ble_eq_true rfl⟩)) hS (wrL_sub (by decide)) (fun z_68 H locs hp_69 hG hS o_70 => ?_)
          have at_45 := va_at.keptC at_45 o_70 k_a0 rfl
          refine lv_lstore (lv' := [(10, .long z_68), (9, .int yo), (8, .ref r_25), (0, .ref a0), (1, .ref a1), (2, .ref a2), (3, .ref a3), (4, .ref a4), (5, .int 1), (6, .long a6)]) hx hb dX5_tryBlock_59 hl (by decide) rfl (fun ls hl => ?_)
          refine lv_lload hx hb dX5_tryBlock_61 (lv_at hl 0 rfl) ?_
          refine lv_ldc2 hx hb hown (hts (.constantLong RX5 61 (-1)) (List.mem_of_getElem? (i := 13) rfl)) dX5_tryBlock_63 ?_
          refine W.lcmp hx hb dX5_tryBlock_66 ?_
          refine lv_if_eq (tgt := 120) hx hb dX5_tryBlock_67 (by decide) (fun c_71 => ?_) (fun c_71 => ?_)
          · skip
            have c_71 : z_68.toInt = (-1) := q_cmp_eq c_71
            refine lv_pc (pc2 := 120) rfl ?_
            obtain ⟨x_72, e_73⟩ : ∃ y : Int32, y = yo + Int32.ofInt 2 := ⟨_, rfl⟩
            have i_x_72 : x_72.toInt = yo.toInt + 2 := by rw [e_73, show Int32.ofInt 2 = 2 by decide]; exact (q_add (by rw [show (2 : Int32).toInt = 2 by decide]; omega) (by rw [show (2 : Int32).toInt = 2 by decide]; omega)).trans (by rw [show (2 : Int32).toInt = 2 by decide])
            refine lv_iinc (v := x_72) (lv' := [(9, .int x_72), (10, .long z_68), (8, .ref r_25), (0, .ref a0), (1, .ref a1), (2, .ref a2), (3, .ref a3), (4, .ref a4), (5, .int 1), (6, .long a6)]) hx hb dX5_tryBlock_120 hl (k := 1) rfl e_73.symm (by decide) rfl (fun ls hl => ?_)
            refine lv_goto (tgt := 23) hx hb dX5_tryBlock_123 (by decide) ?_
            exfalso; omega
          · skip
            have c_71 : z_68.toInt ≠ (-1) := q_cmp_ne c_71
            refine lv_aload_n hx hb dX5_tryBlock_70 rfl (lv_at hl 3 rfl) ?_
            refine va_get (D := D) (ci := 4) (v := .int v_35) (C := RX5) (T := TX5) (N := 10) hx hb hts in5 hown hK (va_one at_45) 0 rfl rfl 3 (by decide) (hts (.fieldLink RX5 24 "RiverModel$Search" "isFound" "Z") (List.mem_of_getElem? (i := 14) rfl)) (fun _ h9 => h9) rfl dX5_tryBlock_71 ?_
            refine lv_if_eq (tgt := 90) hx hb dX5_tryBlock_74 (by decide) (fun c_74 => ?_) (fun c_74 => ?_)
            · skip
              have c_74 : v_35.toInt = 0 := q_eq c_74
              refine lv_iload hx hb dX5_tryBlock_90 (lv_at hl 8 rfl) ?_
              refine lv_iconst (v := 3) hx hb dX5_tryBlock_92 (by decide) ?_
              refine lv_icmp_ne (tgt := 105) hx hb dX5_tryBlock_93 (by decide) (fun _ => ?_) (fun q => absurd q (by decide))
              refine lv_pc (pc2 := 105) rfl ?_
              refine lv_aload_n hx hb dX5_tryBlock_105 rfl (lv_at hl 3 rfl) ?_
              refine lv_aload_n hx hb dX5_tryBlock_106 rfl (lv_at hl 4 rfl) ?_
              refine lv_aload_n hx hb dX5_tryBlock_107 rfl (lv_at hl 5 rfl) ?_
              refine lv_aload_n hx hb dX5_tryBlock_108 rfl (lv_at hl 6 rfl) ?_
              refine lv_aload hx hb dX5_tryBlock_109 (lv_at hl 2 rfl) ?_
              refine lv_iload hx hb dX5_tryBlock_111 (lv_at hl 8 rfl) ?_
              refine lv_iconst (v := 1) hx hb dX5_tryBlock_113 (by decide) ?_
              refine lv_iadd hx hb dX5_tryBlock_114 ?_
              refine lv_seti (y := 2) (by decide) ?_
              refine lv_pc (pc2 := 115) rfl ?_
              refine lv_lload hx hb dX5_tryBlock_115 (lv_at hl 0 rfl) ?_
              refine ty_callv ((W.runV (As := [.ref a1, .ref a2, .ref a3, .ref r_25, .int 2, .long z_68]) (rest := []) ⟨hx, hb, hml, hown, hts⟩ (s_X5_tryBlock_2 l D t cI cL cC gC gE (g + 6) gW gA a0 a1 a2 a3 r_25 z_68 (by omega) k_a0 k_a1 k_a2 k_a3 h_27) (cwV 6 hts gu_X5_tryBlock_1_X5_tryBlock_2_67 rfl rfl rfl (by decide +kernel) ⟨Nat.le_of_ble_eq_true rfl, Nat.le_of_ble_eq_true rfl⟩) (tP_V hG hE at_45 rfl) rfl rfl hl.1 rfl (lv_room (Nat.le_of_ble_eq_true rfl)) dX5_tryBlock_117 ⟨Nat.le_of_ble_eq_true rfl, Nat.le_of_ble_eq_true rfl⟩)) hS (fun _ h => h) (fun H locs hp_76 hG hS o_77 => ?_)
              obtain ⟨x_78, e_79⟩ : ∃ y : Int32, y = yo + Int32.ofInt 2 := ⟨_, rfl⟩
              have i_x_78 : x_78.toInt = yo.toInt + 2 := by rw [e_79, show Int32.ofInt 2 = 2 by decide]; exact (q_add (by rw [show (2 : Int32).toInt = 2 by decide]; omega) (by rw [show (2 : Int32).toInt = 2 by decide]; omega)).trans (by rw [show (2 : Int32).toInt = 2 by decide])
              refine lv_iinc (v := x_78) (lv' := [(9, .int x_78), (10, .long z_68), (8, .ref r_25), (0, .ref a0), (1, .ref a1), (2, .ref a2), (3, .ref a3), (4, .ref a4), (5, .int 1), (6, .long a6)]) hx hb dX5_tryBlock_120 hl (k := 1) rfl e_79.symm (by decide) rfl (fun ls hl => ?_)
              refine lv_goto (tgt := 23) hx hb dX5_tryBlock_123 (by decide) ?_
              exfalso; omega
            · skip
              have c_74 : v_35.toInt ≠ 0 := q_ne c_74
              refine lv_lload hx hb dX5_tryBlock_77 (lv_at hl 0 rfl) ?_
              refine lv_aload_n hx hb dX5_tryBlock_79 rfl (lv_at hl 3 rfl) ?_
              refine va_get (D := D) (ci := 4) (v := .long v_36) (C := RX5) (T := TX5) (N := 10) hx hb hts in5 hown hK (va_one at_45) 0 rfl rfl 4 (by decide) (hts (.fieldLink RX5 28 "RiverModel$Search" "leastPeak" "J") (List.mem_of_getElem? (i := 18) rfl)) (fun _ h9 => h9) rfl dX5_tryBlock_80 ?_
              refine W.lcmp hx hb dX5_tryBlock_83 ?_
              refine lv_pc (pc2 := 84) rfl ?_
              refine lv_if_lt (tgt := 90) hx hb dX5_tryBlock_84 (by decide) (fun c_80 => ?_) (fun c_80 => ?_)
              · skip
                have c_80 : z_68.toInt < v_36.toInt := q_cmp_lt c_80
                refine lv_iload hx hb dX5_tryBlock_90 (lv_at hl 8 rfl) ?_
                refine lv_iconst (v := 3) hx hb dX5_tryBlock_92 (by decide) ?_
                refine lv_icmp_ne (tgt := 105) hx hb dX5_tryBlock_93 (by decide) (fun _ => ?_) (fun q => absurd q (by decide))
                refine lv_aload_n hx hb dX5_tryBlock_105 rfl (lv_at hl 3 rfl) ?_
                refine lv_aload_n hx hb dX5_tryBlock_106 rfl (lv_at hl 4 rfl) ?_
                refine lv_aload_n hx hb dX5_tryBlock_107 rfl (lv_at hl 5 rfl) ?_
                refine lv_aload_n hx hb dX5_tryBlock_108 rfl (lv_at hl 6 rfl) ?_
                refine lv_pc (pc2 := 109) rfl ?_
                refine lv_aload hx hb dX5_tryBlock_109 (lv_at hl 2 rfl) ?_
                refine lv_iload hx hb dX5_tryBlock_111 (lv_at hl 8 rfl) ?_
                refine lv_iconst (v := 1) hx hb dX5_tryBlock_113 (by decide) ?_
                refine lv_iadd hx hb dX5_tryBlock_114 ?_
                refine lv_seti (y := 2) (by decide) ?_
                refine lv_lload hx hb dX5_tryBlock_115 (lv_at hl 0 rfl) ?_
                refine ty_callv ((W.runV (As := [.ref a1, .ref a2, .ref a3, .ref r_25, .int 2, .long z_68]) (rest := []) ⟨hx, hb, hml, hown, hts⟩ (s_X5_tryBlock_2 l D t cI cL cC gC gE (g + 6) gW gA a0 a1 a2 a3 r_25 z_68 (by omega) k_a0 k_a1 k_a2 k_a3 h_27) (cwV 6 hts gu_X5_tryBlock_1_X5_tryBlock_2_67 rfl rfl rfl (by decide +kernel) ⟨Nat.le_of_ble_eq_true rfl, Nat.le_of_ble_eq_true rfl⟩) (tP_V hG hE at_45 rfl) rfl rfl hl.1 rfl (lv_room (Nat.le_of_ble_eq_true rfl)) dX5_tryBlock_117 ⟨Nat.le_of_ble_eq_true rfl, Nat.le_of_ble_eq_true rfl⟩)) hS (fun _ h => h) (fun H locs hp_82 hG hS o_83 => ?_)
                obtain ⟨x_84, e_85⟩ : ∃ y : Int32, y = yo + Int32.ofInt 2 := ⟨_, rfl⟩
                have i_x_84 : x_84.toInt = yo.toInt + 2 := by rw [e_85, show Int32.ofInt 2 = 2 by decide]; exact (q_add (by rw [show (2 : Int32).toInt = 2 by decide]; omega) (by rw [show (2 : Int32).toInt = 2 by decide]; omega)).trans (by rw [show (2 : Int32).toInt = 2 by decide])
                refine lv_iinc (v := x_84) (lv' := [(9, .int x_84), (10, .long z_68), (8, .ref r_25), (0, .ref a0), (1, .ref a1), (2, .ref a2), (3, .ref a3), (4, .ref a4), (5, .int 1), (6, .long a6)]) hx hb dX5_tryBlock_120 hl (k := 1) rfl e_85.symm (by decide) rfl (fun ls hl => ?_)
                refine lv_goto (tgt := 23) hx hb dX5_tryBlock_123 (by decide) ?_
                exfalso; omega
              · skip
                have c_80 : v_36.toInt ≤ z_68.toInt := q_cmp_nlt c_80
                refine lv_pc (pc2 := 87) rfl ?_
                refine lv_goto (tgt := 120) hx hb dX5_tryBlock_87 (by decide) ?_
                obtain ⟨x_86, e_87⟩ : ∃ y : Int32, y = yo + Int32.ofInt 2 := ⟨_, rfl⟩
                have i_x_86 : x_86.toInt = yo.toInt + 2 := by rw [e_87, show Int32.ofInt 2 = 2 by decide]; exact (q_add (by rw [show (2 : Int32).toInt = 2 by decide]; omega) (by rw [show (2 : Int32).toInt = 2 by decide]; omega)).trans (by rw [show (2 : Int32).toInt = 2 by decide])
                refine lv_iinc (v := x_86) (lv' := [(9, .int x_86), (10, .long z_68), (8, .ref r_25), (0, .ref a0), (1, .ref a1), (2, .ref a2), (3, .ref a3), (4, .ref a4), (5, .int 1), (6, .long a6)]) hx hb dX5_tryBlock_120 hl (k := 1) rfl e_87.symm (by decide) rfl (fun ls hl => ?_)
                refine lv_goto (tgt := 23) hx hb dX5_tryBlock_123 (by decide) ?_
                exfalso; omega
      | succ k ih =>
        intro yo g H locs ls hk v0 v1 v2 hG hS hl
        refine (hWW _ _ _).mpr ?_
        refine lv_iload hx hb dX5_tryBlock_23 (lv_at hl 0 rfl) ?_
        refine lv_bipush (v := 10) hx hb dX5_tryBlock_25 (by decide) ?_
        refine lv_icmp_gt (tgt := 126) hx hb dX5_tryBlock_27 (by decide) (fun c_88 => ?_) (fun c_88 => ?_)
        · skip
          have c_88 : 10 < yo.toInt := q_lt c_88
          exact (hWW _ _ _).mp (kx yo g H locs ls (by omega) (by omega) (by omega) hG hS (lv_sub hl [0, 1, 2, 3, 4, 5, 6, 7, 8] rfl))
        · skip
          have c_88 : yo.toInt ≤ 10 := q_nlt c_88
          refine lv_aload_n hx hb dX5_tryBlock_30 rfl (lv_at hl 2 rfl) ?_
          obtain ⟨r_89, r_91, r_93, v_95, v_96, v_97, v_99, v_101, v_102, v_104, at_105, h_90, h_92, h_94, h_98, h_100, h_103⟩ := gF_o9 hG k_a0
          refine va_get (D := D) (ci := 4) (v := .ref r_91) (C := RX5) (T := TX5) (N := 10) hx hb hts in5 hown hK (va_one at_105) 0 rfl rfl 1 (by decide) (hts (.fieldLink RX5 17 "RiverModel$Search" "tried" "[I") (List.mem_of_getElem? (i := 4) rfl)) (fun _ h9 => h9) rfl dX5_tryBlock_31 ?_
          refine lv_pc (pc2 := 34) rfl ?_
          refine lv_iload hx hb dX5_tryBlock_34 (lv_at hl 7 rfl) ?_
          refine lv_iload hx hb dX5_tryBlock_36 (lv_at hl 0 rfl) ?_
          obtain ⟨f_106, at_107⟩ := gF_o33 hG h_92
          have b_108 : vp_in 1 4 := (q_in (by decide) (by decide))
          refine ty_iast (F2 := (gF cI cL cC gC gE g gW gA)) hx hb hK hG hS 0 at_107 (by rw [h_92]; rfl) rfl b_108 (by rw [h_92]; exact ⟨_, rfl⟩) tFF dX5_tryBlock_38 (fun H locs hG hS at_109 o_110 => ?_)
          have at_105 := va_at.keptK at_105 o_110 h_92 k_a0 rfl
          refine lv_aload hx hb dX5_tryBlock_39 (lv_at hl 1 rfl) ?_
          refine lv_aload hx hb dX5_tryBlock_41 (lv_at hl 6 rfl) ?_
          obtain ⟨r_111, r_113, r_115, r_117, v_119, v_120, v_121, v_122, at_124, h_112, h_114, h_116, h_118, h_123⟩ := gF_o5 hG h_27
          refine ty_callv ((W.runV (As := [.ref a4]) (rest := []) ⟨hx, hb, hml, hown, hts⟩ (s_X0_copyFrom l D t cI cL cC gC gE g gW gA r_25 a4 h_27 k_a4) (cwV 1 hts gu_X5_tryBlock_1_X0_copyFrom_53 rfl rfl rfl (by decide +kernel) ⟨Nat.le_of_ble_eq_true rfl, Nat.le_of_ble_eq_true rfl⟩) (tP_V hG hE at_124 rfl) rfl rfl hl.1 rfl (lv_room (Nat.le_of_ble_eq_true rfl)) dX5_tryBlock_43 ⟨Nat.le_of_ble_eq_true rfl, Nat.le_of_ble_eq_true rfl⟩)) hS (wrL_sub (by decide)) (fun H locs hp_126 hG hS o_127 => ?_)
          have at_105 := va_at.keptC at_105 o_127 k_a0 rfl
          refine lv_aload_n hx hb dX5_tryBlock_46 rfl (lv_at hl 2 rfl) ?_
          refine lv_aload_n hx hb dX5_tryBlock_47 rfl (lv_at hl 3 rfl) ?_
          refine lv_pc (pc2 := 48) rfl ?_
          refine lv_aload_n hx hb dX5_tryBlock_48 rfl (lv_at hl 4 rfl) ?_
          refine lv_aload_n hx hb dX5_tryBlock_49 rfl (lv_at hl 5 rfl) ?_
          refine lv_aload hx hb dX5_tryBlock_50 (lv_at hl 1 rfl) ?_
          refine lv_iload hx hb dX5_tryBlock_52 (lv_at hl 0 rfl) ?_
          refine lv_lload hx hb dX5_tryBlock_54 (lv_at hl 8 rfl) ?_
          refine ty_calll ((W.runV (As := [.ref a1, .ref a2, .ref a3, .ref r_25, .int yo, .long a6]) (rest := []) ⟨hx, hb, hml, hown, hts⟩ (s_X5_peakOfBlock l D t cI cL cC gC gE g gW gA a0 a1 a2 a3 r_25 yo a6 (by omega) k_a0 k_a1 k_a2 k_a3 h_27) (cwV 6 hts gu_X5_tryBlock_1_X5_peakOfBlock_57 rfl rfl rfl (by decide +kernel) ⟨Nat.le_of_ble_eq_true rfl, Nat.le_of_ble_eq_true rfl⟩) (tP_V hG hE at_105 rfl) rfl rfl hl.1 rfl (lv_room (Nat.le_of_ble_eq_true rfl)) dX5_tryBlock_56 ⟨Nat.le_of_ble_eq_true rfl, Nat.le_of_ble_eq_true rfl⟩)) hS (wrL_sub (by decide)) (fun z_128 H locs hp_129 hG hS o_130 => ?_)
          have at_105 := va_at.keptC at_105 o_130 k_a0 rfl
          refine lv_lstore (lv' := [(10, .long z_128), (9, .int yo), (8, .ref r_25), (0, .ref a0), (1, .ref a1), (2, .ref a2), (3, .ref a3), (4, .ref a4), (5, .int 1), (6, .long a6)]) hx hb dX5_tryBlock_59 hl (by decide) rfl (fun ls hl => ?_)
          refine lv_lload hx hb dX5_tryBlock_61 (lv_at hl 0 rfl) ?_
          refine lv_pc (pc2 := 63) rfl ?_
          refine lv_ldc2 hx hb hown (hts (.constantLong RX5 61 (-1)) (List.mem_of_getElem? (i := 13) rfl)) dX5_tryBlock_63 ?_
          refine W.lcmp hx hb dX5_tryBlock_66 ?_
          refine lv_if_eq (tgt := 120) hx hb dX5_tryBlock_67 (by decide) (fun c_131 => ?_) (fun c_131 => ?_)
          · skip
            have c_131 : z_128.toInt = (-1) := q_cmp_eq c_131
            obtain ⟨x_132, e_133⟩ : ∃ y : Int32, y = yo + Int32.ofInt 2 := ⟨_, rfl⟩
            have i_x_132 : x_132.toInt = yo.toInt + 2 := by rw [e_133, show Int32.ofInt 2 = 2 by decide]; exact (q_add (by rw [show (2 : Int32).toInt = 2 by decide]; omega) (by rw [show (2 : Int32).toInt = 2 by decide]; omega)).trans (by rw [show (2 : Int32).toInt = 2 by decide])
            refine lv_iinc (v := x_132) (lv' := [(9, .int x_132), (10, .long z_128), (8, .ref r_25), (0, .ref a0), (1, .ref a1), (2, .ref a2), (3, .ref a3), (4, .ref a4), (5, .int 1), (6, .long a6)]) hx hb dX5_tryBlock_120 hl (k := 1) rfl e_133.symm (by decide) rfl (fun ls hl => ?_)
            refine lv_goto (tgt := 23) hx hb dX5_tryBlock_123 (by decide) ?_
            exact (hWW _ _ _).mp (ih x_132 (g + 6) H locs ls (by omega) (by omega) (by omega) (by omega) hG hS (lv_sub hl [0, 2, 3, 4, 5, 6, 7, 8, 9] rfl))
          · skip
            have c_131 : z_128.toInt ≠ (-1) := q_cmp_ne c_131
            refine lv_aload_n hx hb dX5_tryBlock_70 rfl (lv_at hl 3 rfl) ?_
            refine va_get (D := D) (ci := 4) (v := .int v_95) (C := RX5) (T := TX5) (N := 10) hx hb hts in5 hown hK (va_one at_105) 0 rfl rfl 3 (by decide) (hts (.fieldLink RX5 24 "RiverModel$Search" "isFound" "Z") (List.mem_of_getElem? (i := 14) rfl)) (fun _ h9 => h9) rfl dX5_tryBlock_71 ?_
            refine lv_if_eq (tgt := 90) hx hb dX5_tryBlock_74 (by decide) (fun c_134 => ?_) (fun c_134 => ?_)
            · skip
              have c_134 : v_95.toInt = 0 := q_eq c_134
              refine lv_pc (pc2 := 90) rfl ?_
              refine lv_iload hx hb dX5_tryBlock_90 (lv_at hl 8 rfl) ?_
              refine lv_iconst (v := 3) hx hb dX5_tryBlock_92 (by decide) ?_
              refine lv_icmp_ne (tgt := 105) hx hb dX5_tryBlock_93 (by decide) (fun _ => ?_) (fun q => absurd q (by decide))
              refine lv_aload_n hx hb dX5_tryBlock_105 rfl (lv_at hl 3 rfl) ?_
              refine lv_aload_n hx hb dX5_tryBlock_106 rfl (lv_at hl 4 rfl) ?_
              refine lv_aload_n hx hb dX5_tryBlock_107 rfl (lv_at hl 5 rfl) ?_
              refine lv_aload_n hx hb dX5_tryBlock_108 rfl (lv_at hl 6 rfl) ?_
              refine lv_aload hx hb dX5_tryBlock_109 (lv_at hl 2 rfl) ?_
              refine lv_pc (pc2 := 111) rfl ?_
              refine lv_iload hx hb dX5_tryBlock_111 (lv_at hl 8 rfl) ?_
              refine lv_iconst (v := 1) hx hb dX5_tryBlock_113 (by decide) ?_
              refine lv_iadd hx hb dX5_tryBlock_114 ?_
              refine lv_seti (y := 2) (by decide) ?_
              refine lv_lload hx hb dX5_tryBlock_115 (lv_at hl 0 rfl) ?_
              refine ty_callv ((W.runV (As := [.ref a1, .ref a2, .ref a3, .ref r_25, .int 2, .long z_128]) (rest := []) ⟨hx, hb, hml, hown, hts⟩ (s_X5_tryBlock_2 l D t cI cL cC gC gE (g + 6) gW gA a0 a1 a2 a3 r_25 z_128 (by omega) k_a0 k_a1 k_a2 k_a3 h_27) (cwV 6 hts gu_X5_tryBlock_1_X5_tryBlock_2_67 rfl rfl rfl (by decide +kernel) ⟨Nat.le_of_ble_eq_true rfl, Nat.le_of_ble_eq_true rfl⟩) (tP_V hG hE at_105 rfl) rfl rfl hl.1 rfl (lv_room (Nat.le_of_ble_eq_true rfl)) dX5_tryBlock_117 ⟨Nat.le_of_ble_eq_true rfl, Nat.le_of_ble_eq_true rfl⟩)) hS (fun _ h => h) (fun H locs hp_136 hG hS o_137 => ?_)
              obtain ⟨x_138, e_139⟩ : ∃ y : Int32, y = yo + Int32.ofInt 2 := ⟨_, rfl⟩
              have i_x_138 : x_138.toInt = yo.toInt + 2 := by rw [e_139, show Int32.ofInt 2 = 2 by decide]; exact (q_add (by rw [show (2 : Int32).toInt = 2 by decide]; omega) (by rw [show (2 : Int32).toInt = 2 by decide]; omega)).trans (by rw [show (2 : Int32).toInt = 2 by decide])
              refine lv_iinc (v := x_138) (lv' := [(9, .int x_138), (10, .long z_128), (8, .ref r_25), (0, .ref a0), (1, .ref a1), (2, .ref a2), (3, .ref a3), (4, .ref a4), (5, .int 1), (6, .long a6)]) hx hb dX5_tryBlock_120 hl (k := 1) rfl e_139.symm (by decide) rfl (fun ls hl => ?_)
              refine lv_goto (tgt := 23) hx hb dX5_tryBlock_123 (by decide) ?_
              exact (hWW _ _ _).mp (ih x_138 (g + 258) H locs ls (by omega) (by omega) (by omega) (by omega) hG hS (lv_sub hl [0, 2, 3, 4, 5, 6, 7, 8, 9] rfl))
            · skip
              have c_134 : v_95.toInt ≠ 0 := q_ne c_134
              refine lv_lload hx hb dX5_tryBlock_77 (lv_at hl 0 rfl) ?_
              refine lv_pc (pc2 := 79) rfl ?_
              refine lv_aload_n hx hb dX5_tryBlock_79 rfl (lv_at hl 3 rfl) ?_
              refine va_get (D := D) (ci := 4) (v := .long v_96) (C := RX5) (T := TX5) (N := 10) hx hb hts in5 hown hK (va_one at_105) 0 rfl rfl 4 (by decide) (hts (.fieldLink RX5 28 "RiverModel$Search" "leastPeak" "J") (List.mem_of_getElem? (i := 18) rfl)) (fun _ h9 => h9) rfl dX5_tryBlock_80 ?_
              refine W.lcmp hx hb dX5_tryBlock_83 ?_
              refine lv_if_lt (tgt := 90) hx hb dX5_tryBlock_84 (by decide) (fun c_140 => ?_) (fun c_140 => ?_)
              · skip
                have c_140 : z_128.toInt < v_96.toInt := q_cmp_lt c_140
                refine lv_iload hx hb dX5_tryBlock_90 (lv_at hl 8 rfl) ?_
                refine lv_iconst (v := 3) hx hb dX5_tryBlock_92 (by decide) ?_
                refine lv_icmp_ne (tgt := 105) hx hb dX5_tryBlock_93 (by decide) (fun _ => ?_) (fun q => absurd q (by decide))
                refine lv_aload_n hx hb dX5_tryBlock_105 rfl (lv_at hl 3 rfl) ?_
                refine lv_pc (pc2 := 106) rfl ?_
                refine lv_aload_n hx hb dX5_tryBlock_106 rfl (lv_at hl 4 rfl) ?_
                refine lv_aload_n hx hb dX5_tryBlock_107 rfl (lv_at hl 5 rfl) ?_
                refine lv_aload_n hx hb dX5_tryBlock_108 rfl (lv_at hl 6 rfl) ?_
                refine lv_aload hx hb dX5_tryBlock_109 (lv_at hl 2 rfl) ?_
                refine lv_iload hx hb dX5_tryBlock_111 (lv_at hl 8 rfl) ?_
                refine lv_iconst (v := 1) hx hb dX5_tryBlock_113 (by decide) ?_
                refine lv_iadd hx hb dX5_tryBlock_114 ?_
                refine lv_seti (y := 2) (by decide) ?_
                refine lv_lload hx hb dX5_tryBlock_115 (lv_at hl 0 rfl) ?_
                refine lv_pc (pc2 := 117) rfl ?_
                refine ty_callv ((W.runV (As := [.ref a1, .ref a2, .ref a3, .ref r_25, .int 2, .long z_128]) (rest := []) ⟨hx, hb, hml, hown, hts⟩ (s_X5_tryBlock_2 l D t cI cL cC gC gE (g + 6) gW gA a0 a1 a2 a3 r_25 z_128 (by omega) k_a0 k_a1 k_a2 k_a3 h_27) (cwV 6 hts gu_X5_tryBlock_1_X5_tryBlock_2_67 rfl rfl rfl (by decide +kernel) ⟨Nat.le_of_ble_eq_true rfl, Nat.le_of_ble_eq_true rfl⟩) (tP_V hG hE at_105 rfl) rfl rfl hl.1 rfl (lv_room (Nat.le_of_ble_eq_true rfl)) dX5_tryBlock_117 ⟨Nat.le_of_ble_eq_true rfl, Nat.le_of_ble_eq_true rfl⟩)) hS (fun _ h => h) (fun H locs hp_142 hG hS o_143 => ?_)
                obtain ⟨x_144, e_145⟩ : ∃ y : Int32, y = yo + Int32.ofInt 2 := ⟨_, rfl⟩
                have i_x_144 : x_144.toInt = yo.toInt + 2 := by rw [e_145, show Int32.ofInt 2 = 2 by decide]; exact (q_add (by rw [show (2 : Int32).toInt = 2 by decide]; omega) (by rw [show (2 : Int32).toInt = 2 by decide]; omega)).trans (by rw [show (2 : Int32).toInt = 2 by decide])
                refine lv_iinc (v := x_144) (lv' := [(9, .int x_144), (10, .long z_128), (8, .ref r_25), (0, .ref a0), (1, .ref a1), (2, .ref a2), (3, .ref a3), (4, .ref a4), (5, .int 1), (6, .long a6)]) hx hb dX5_tryBlock_120 hl (k := 1) rfl e_145.symm (by decide) rfl (fun ls hl => ?_)
                refine lv_goto (tgt := 23) hx hb dX5_tryBlock_123 (by decide) ?_
                exact (hWW _ _ _).mp (ih x_144 (g + 258) H locs ls (by omega) (by omega) (by omega) (by omega) hG hS (lv_sub hl [0, 2, 3, 4, 5, 6, 7, 8, 9] rfl))
              · skip
                have c_140 : v_96.toInt ≤ z_128.toInt := q_cmp_nlt c_140
                refine lv_goto (tgt := 120) hx hb dX5_tryBlock_87 (by decide) ?_
                obtain ⟨x_146, e_147⟩ : ∃ y : Int32, y = yo + Int32.ofInt 2 := ⟨_, rfl⟩
                have i_x_146 : x_146.toInt = yo.toInt + 2 := by rw [e_147, show Int32.ofInt 2 = 2 by decide]; exact (q_add (by rw [show (2 : Int32).toInt = 2 by decide]; omega) (by rw [show (2 : Int32).toInt = 2 by decide]; omega)).trans (by rw [show (2 : Int32).toInt = 2 by decide])
                refine lv_iinc (v := x_146) (lv' := [(9, .int x_146), (10, .long z_128), (8, .ref r_25), (0, .ref a0), (1, .ref a1), (2, .ref a2), (3, .ref a3), (4, .ref a4), (5, .int 1), (6, .long a6)]) hx hb dX5_tryBlock_120 hl (k := 1) rfl e_147.symm (by decide) rfl (fun ls hl => ?_)
                refine lv_goto (tgt := 23) hx hb dX5_tryBlock_123 (by decide) ?_
                exact (hWW _ _ _).mp (ih x_146 (g + 6) H locs ls (by omega) (by omega) (by omega) (by omega) hG hS (lv_sub hl [0, 2, 3, 4, 5, 6, 7, 8, 9] rfl))
    have hz_yo : (0 : Int32).toInt = 0 := by decide
    exact loop (12 - 0 : Int).toNat 0 G H locs ls (by omega) (by omega) (by omega) (by omega) hG hS (lv_sub hl [0, 1, 2, 3, 4, 5, 6, 7, 8] rfl)

def uX5_tryBlock_0 : List Cond := .code yX5_tryBlock cX5_tryBlock 12 none :: ([.initialized RX9, .static yX9_isOutside, .fieldLink RX5 11 "RiverModel$Search" "blockEnds" "[LRiverModel$Course;", .fieldLink RX5 17 "RiverModel$Search" "tried" "[I", .methodLink RX5 53 yX0_copyFrom, .instanceMethod yX0_copyFrom, .selects RX0 yX0_copyFrom yX0_copyFrom, .initialized RX0, .methodLink RX5 57 yX5_peakOfBlock, .instanceMethod yX5_peakOfBlock, .selects RX5 yX5_peakOfBlock yX5_peakOfBlock, .initialized RX5, .constantLong RX5 61 (-1), .fieldLink RX5 24 "RiverModel$Search" "isFound" "Z", .methodLink RX5 67 yX5_tryBlock, .instanceMethod yX5_tryBlock, .selects RX5 yX5_tryBlock yX5_tryBlock, .fieldLink RX5 28 "RiverModel$Search" "leastPeak" "J", .code yX9_isOutside cX9_isOutside 3 (some .boolean), .code yX0_copyFrom cX0_copyFrom 2 none, .fieldLink RX0 9 "RiverModel$Course" "held" "[J", .methodLink RX0 54 arraycopyName, .native arraycopyName, .static arraycopyName, .initialized "java/lang/System", .fieldLink RX0 15 "RiverModel$Course" "moved" "[J", .fieldLink RX0 18 "RiverModel$Course" "openings" "[I", .fieldLink RX0 22 "RiverModel$Course" "due" "[J", .fieldLink RX0 25 "RiverModel$Course" "rained" "J", .fieldLink RX0 29 "RiverModel$Course" "air" "J", .fieldLink RX0 32 "RiverModel$Course" "sea" "J", .fieldLink RX0 35 "RiverModel$Course" "hours" "I", .code yX5_peakOfBlock cX5_peakOfBlock 11 (some .long), .fieldLink RX5 32 "RiverModel$Search" "gate" "I", .static yX9_isNoGate, .fieldLink RX5 42 "RiverModel$Search" "store" "I", .static yX9_isNoStore, .fieldLink RX5 78 "RiverModel$Course" "openings" "[I", .fieldLink RX5 36 "RiverModel$Search" "blockHours" "I", .fieldLink RX5 81 "RiverModel$Course" "hours" "I", .methodLink RX5 84 yX6_rainIn, .instanceMethod yX6_rainIn, .selects RX6 yX6_rainIn yX6_rainIn, .initialized RX6, .methodLink RX5 90 yX6_tempIn, .instanceMethod yX6_tempIn, .selects RX6 yX6_tempIn yX6_tempIn, .methodLink RX5 93 yX0_goHour, .instanceMethod yX0_goHour, .selects RX0 yX0_goHour yX0_goHour, .fieldLink RX5 97 "RiverModel$Course" "held" "[J", .fieldLink RX5 45 "RiverModel$Search" "limit" "J", .fieldLink RX5 39 "RiverModel$Search" "gauge" "I", .methodLink RX5 101 yX1_reading, .instanceMethod yX1_reading, .selects RX1 yX1_reading yX1_reading, .initialized RX1, .methodLink RX5 107 Lib.MathLoose.max_long.x, .static Lib.MathLoose.max_long.x, .initialized "java/lang/Math", .code Lib.MathLoose.max_long.x Lib.MathLoose.max_long.code 4 (some .long), .code yX9_isNoGate cX9_isNoGate 1 (some .boolean), .code yX9_isNoStore cX9_isNoStore 1 (some .boolean), .code yX6_rainIn cX6_rainIn 2 (some .int), .fieldLink RX6 9 "RiverModel$Sky" "rains" "[I", .code yX6_tempIn cX6_tempIn 2 (some .int), .fieldLink RX6 15 "RiverModel$Sky" "temps" "[I", .code yX0_goHour cX0_goHour 7 none, .methodLink RX0 72 yX0_bringDue, .instanceMethod yX0_bringDue, .selects RX0 yX0_bringDue yX0_bringDue, .fieldLink RX0 75 "RiverModel$Model" "many" "I", .methodLink RX0 78 yX0_amountOf, .instanceMethod yX0_amountOf, .selects RX0 yX0_amountOf yX0_amountOf, .methodLink RX0 82 yX0_move, .instanceMethod yX0_move, .selects RX0 yX0_move yX0_move, .code yX0_bringDue cX0_bringDue 3 none, .code yX0_amountOf cX0_amountOf 11 (some .long), .methodLink RX0 86 yX4_cell, .instanceMethod yX4_cell, .selects RX4 yX4_cell yX4_cell, .initialized RX4, .methodLink RX0 110 yX4_gateOf, .instanceMethod yX4_gateOf, .selects RX4 yX4_gateOf yX4_gateOf, .methodLink RX0 113 yX0_openingOf, .instanceMethod yX0_openingOf, .selects RX0 yX0_openingOf yX0_openingOf, .methodLink RX0 107 Lib.MathLoose.min_long.x, .static Lib.MathLoose.min_long.x, .code Lib.MathLoose.min_long.x Lib.MathLoose.min_long.code 4 (some .long), .methodLink RX0 94 yX0_leakOf, .static yX0_leakOf, .constantLong RX0 117 (100), .methodLink RX0 98 yX4_capacityOf, .instanceMethod yX4_capacityOf, .selects RX4 yX4_capacityOf yX4_capacityOf, .methodLink RX0 101 Lib.MathLoose.max_long.x, .constantLong RX0 119 (10), .code yX4_cell cX4_cell 3 (some .int), .fieldLink RX4 9 "RiverModel$Model" "cells" "[I", .code yX4_gateOf cX4_gateOf 3 (some .int), .fieldLink RX4 28 "RiverModel$Model" "gates" "I", .fieldLink RX4 18 "RiverModel$Model" "gateItems" "[I", .code yX0_openingOf cX0_openingOf 2 (some .long), .code yX0_leakOf cX0_leakOf 8 (some .long), .code yX4_capacityOf cX4_capacityOf 2 (some .int), .methodLink RX4 66 yX4_hasStore, .instanceMethod yX4_hasStore, .selects RX4 yX4_hasStore yX4_hasStore, .fieldLink RX4 15 "RiverModel$Model" "storeItems" "[I", .methodLink RX4 73 yX4_cell, .code yX4_hasStore cX4_hasStore 2 (some .boolean), .code yX0_move cX0_move 8 none, .methodLink RX0 124 yX0_send, .instanceMethod yX0_send, .selects RX0 yX0_send yX0_send, .code yX0_send cX0_send 5 none, .code yX1_reading cX1_reading 4 (some .long), .methodLink RX1 35 yX1_isSet, .instanceMethod yX1_isSet, .selects RX1 yX1_isSet yX1_isSet, .fieldLink RX1 15 "RiverModel$Gauges" "places" "[I", .fieldLink RX1 9 "RiverModel$Gauges" "whats" "[I", .fieldLink RX1 50 "RiverModel$Course" "held" "[J", .static yX9_isNoItem, .fieldLink RX1 41 "RiverModel$Course" "moved" "[J", .code yX1_isSet cX1_isSet 2 (some .boolean), .code yX9_isNoItem cX9_isNoItem 1 (some .boolean), .methodLink RX5 63 yX5_takeTried, .instanceMethod yX5_takeTried, .selects RX5 yX5_takeTried yX5_takeTried, .code yX5_takeTried cX5_takeTried 3 none, .fieldLink RX5 21 "RiverModel$Search" "found" "[I", .methodLink RX5 113 arraycopyName] ++ wsX50 ++ wsX00 ++ wsX60 ++ wsX40 ++ wsX10)
set_option maxRecDepth 20000 in
theorem gu_X5_tryBlock_0_X9_isOutside_n : GoodIn uX5_tryBlock_0 (uX9_isOutside) := goodIn_r _ [19] rfl (by decide +kernel)
set_option maxRecDepth 20000 in
theorem gu_X5_tryBlock_0_X0_copyFrom_53 : GoodIn uX5_tryBlock_0 (wsV RX5 53 RX0 yX0_copyFrom uX0_copyFrom) := goodIn_r _ [5, 6, 7, 8, 20, 21, 22, 23, 24, 25, 26, 27, 28, 29, 30, 31, 32, 148, 149, 150, 151, 152, 153, 154, 155] rfl (by decide +kernel)
set_option maxRecDepth 20000 in
theorem gu_X5_tryBlock_0_X5_peakOfBlock_57 : GoodIn uX5_tryBlock_0 (wsV RX5 57 RX5 yX5_peakOfBlock uX5_peakOfBlock) := goodIn_r _ [9, 10, 11, 12, 33, 34, 1, 35, 13, 36, 37, 38, 39, 40, 41, 42, 43, 44, 45, 46, 47, 48, 49, 50, 8, 51, 52, 53, 54, 55, 56, 57, 58, 59, 60, 61, 62, 63, 64, 2, 65, 19, 66, 67, 68, 69, 70, 71, 32, 72, 73, 74, 75, 26, 76, 77, 78, 79, 21, 28, 80, 81, 82, 83, 84, 85, 86, 87, 88, 89, 90, 91, 92, 93, 94, 95, 96, 97, 98, 99, 100, 101, 102, 103, 104, 105, 106, 107, 27, 108, 109, 110, 111, 112, 113, 114, 115, 116, 29, 117, 118, 119, 31, 30, 120, 121, 122, 123, 124, 125, 126, 127, 128, 129, 130, 131, 138, 139, 140, 141, 142, 143, 144, 145, 146, 147, 148, 149, 150, 151, 152, 153, 154, 155, 156, 157, 158, 159, 160, 161, 162, 163, 164, 165, 166, 167] rfl (by decide +kernel)
set_option maxRecDepth 20000 in
theorem gu_X5_tryBlock_0_X5_tryBlock_1_67 : GoodIn uX5_tryBlock_0 (wsV RX5 67 RX5 yX5_tryBlock uX5_tryBlock_1) := goodIn_r _ [15, 16, 17, 12, 0, 1, 2, 3, 4, 5, 6, 7, 8, 9, 10, 11, 12, 13, 14, 15, 16, 17, 18, 19, 20, 21, 22, 23, 24, 25, 26, 27, 28, 29, 30, 31, 32, 33, 34, 35, 36, 37, 38, 39, 40, 41, 42, 43, 44, 45, 46, 47, 48, 49, 50, 51, 52, 53, 54, 55, 56, 57, 58, 59, 60, 61, 62, 63, 64, 65, 66, 67, 68, 69, 70, 71, 72, 73, 74, 75, 76, 77, 78, 79, 80, 81, 82, 83, 84, 85, 86, 87, 88, 89, 90, 91, 92, 93, 94, 95, 96, 97, 98, 99, 100, 101, 102, 103, 104, 105, 106, 107, 108, 109, 110, 111, 112, 113, 114, 115, 116, 117, 118, 119, 120, 121, 122, 123, 124, 125, 126, 127, 128, 129, 130, 131, 132, 133, 134, 135, 136, 137, 138, 139, 140, 141, 142, 143, 144, 145, 146, 147, 148, 149, 150, 151, 152, 153, 154, 155, 156, 157, 158, 159, 160, 161, 162, 163, 164, 165, 166, 167] rfl (by decide +kernel)
set_option maxHeartbeats 4000000 in
set_option maxRecDepth 100000 in
theorem s_X5_tryBlock_0 (l : Launch) (D : va_G) (t : Nat → Nat) (cI cL cC : ClassId) (gC : Int32) (gE : Int32) (G : Nat) (gW : Nat → Int32) (gA : Nat → Int32) (a0 : Nat) (a1 : Nat) (a2 : Nat) (a3 : Nat) (a4 : Nat) (a6 : Int64) (hGb : G ≤ 150000000) (k_a0 : t a0 = 9) (k_a1 : t a1 = 3) (k_a2 : t a2 = 4) (k_a3 : t a3 = 6) (k_a4 : t a4 = 5) : tM l yX5_tryBlock uX5_tryBlock_0 8 222 D (gF cI cL cC gC gE G gW gA) (gF cI cL cC gC gE (G + 9324) gW gA) t cI cL cC [.ref a0, .ref a1, .ref a2, .ref a3, .ref a4, .int 0, .long a6] wrS (pV (True)) := by
  refine tM.ofW (cc := cX5_tryBlock) (maxL := 12) (ret := none) (by decide) rfl (Nat.le_of_ble_eq_true rfl) ?_
  intro p e s m below meth c hx hb hr hml hown hts hlk H locs hG hK hE hS ls hl
  have hl : lv_has ls 12 [(0, .ref a0), (1, .ref a1), (2, .ref a2), (3, .ref a3), (4, .ref a4), (5, .int 0), (6, .long a6)] := hl
  have in5 : ∀ w ∈ wsX50, w ∈ uX5_tryBlock_0 := fun w h => List.mem_cons_of_mem _ (List.mem_append_left _ (List.mem_append_left _ (List.mem_append_left _ (List.mem_append_left _ (List.mem_append_right _ h)))))
  refine lv_iload hx hb dX5_tryBlock_0 (lv_at hl 5 rfl) ?_
  refine lv_iconst (v := 0) hx hb dX5_tryBlock_2 (by decide) ?_
  refine lv_iconst (v := 3) hx hb dX5_tryBlock_3 (by decide) ?_
  refine ty_calli (tRun (va_runSN (As := [.int 0, .int 0, .int 3]) (rest := []) ⟨hx, hb, hml, hown, hts⟩ (s_X9_isOutside l D t cI cL cC gC gE G gW gA 0 0 3 0 3 (by decide) (by decide) ) ⟨(va_cnB 3 hts gu_X5_tryBlock_0_X9_isOutside_n rfl rfl rfl (hE.2.1 _ (List.mem_of_getElem? (i := 23) rfl)) (hts (.initialized RX9) (List.mem_of_getElem? (i := 1) rfl)) (by decide +kernel) ⟨Nat.le_of_ble_eq_true rfl, Nat.le_of_ble_eq_true rfl⟩), (hts (.static yX9_isOutside) (List.mem_of_getElem? (i := 2) rfl)), trivial⟩ (tP_S hG hE) rfl rfl hl.1 rfl (lv_room (Nat.le_of_ble_eq_true rfl)) dX5_tryBlock_4 ⟨Nat.le_of_ble_eq_true rfl, Nat.le_of_ble_eq_true rfl⟩)) hS (fun k h => by simp [wr0] at h) (fun r_1 H locs hp_2 hG hS o_3 => ?_)
  rcases hp_2 with ⟨rfl, hc_118⟩ | ⟨rfl, hc_119, hc_120⟩
  · skip
    refine lv_if_eq (tgt := 11) hx hb dX5_tryBlock_7 (by decide) (fun q => absurd q (by decide)) (fun _ => ?_)
    exact ty_vret hx hb hr hlk (hG.weak (fun _ _ => gF_mono (by omega))) hS True.intro dX5_tryBlock_10
  · skip
    refine lv_if_eq (tgt := 11) hx hb dX5_tryBlock_7 (by decide) (fun _ => ?_) (fun q => absurd (by decide) q)
    refine lv_pc (pc2 := 11) rfl ?_
    refine lv_aload_n hx hb dX5_tryBlock_11 rfl (lv_at hl 0 rfl) ?_
    obtain ⟨r_4, r_6, r_8, v_10, v_11, v_12, v_14, v_16, v_17, v_19, at_20, h_5, h_7, h_9, h_13, h_15, h_18⟩ := gF_o9 hG k_a0
    refine va_get (D := D) (ci := 4) (v := .ref r_4) (C := RX5) (T := TX5) (N := 10) hx hb hts in5 hown hK (va_one at_20) 0 rfl rfl 0 (by decide) (hts (.fieldLink RX5 11 "RiverModel$Search" "blockEnds" "[LRiverModel$Course;") (List.mem_of_getElem? (i := 3) rfl)) (fun _ h9 => h9) rfl dX5_tryBlock_12 ?_
    refine lv_iload hx hb dX5_tryBlock_15 (lv_at hl 5 rfl) ?_
    obtain ⟨f_21, at_22, h_23⟩ := gF_o32 hG h_5
    have b_24 : vp_in 0 4 := (q_in (by decide) (by decide))
    refine va_aldq hx hb hK (va_one at_22) 0 2 rfl rfl b_24 dX5_tryBlock_17 ?_
    obtain ⟨r_25, e_26, h_27⟩ := h_23 _ (q_inlt b_24)
    rw [e_26]
    show W p l _ _ s m _ below meth c _ _ _ _ _ (F0 m _ ls (.ref r_25 :: _))
    refine lv_astore (lv' := [(8, .ref r_25), (0, .ref a0), (1, .ref a1), (2, .ref a2), (3, .ref a3), (4, .ref a4), (5, .int 0), (6, .long a6)]) hx hb dX5_tryBlock_18 hl (by decide) rfl (fun ls hl => ?_)
    refine lv_iconst (v := 0) hx hb dX5_tryBlock_20 (by decide) ?_
    refine lv_istore (lv' := [(9, .int 0), (8, .ref r_25), (0, .ref a0), (1, .ref a1), (2, .ref a2), (3, .ref a3), (4, .ref a4), (5, .int 0), (6, .long a6)]) hx hb dX5_tryBlock_21 hl (by decide) rfl (fun ls hl => ?_)
    refine lv_pc (pc2 := 23) rfl ?_
    refine lp_gen (fun WW hWW => ?_)
    have kx : ∀ (yo : Int32) (g : Nat) (H1 : Heap) (locs1 : List Loc) (ls1 : Array Slot), 0 ≤ yo.toInt → yo.toInt ≤ 12 → 2 * (g : Int) + 1554 * (12 - yo.toInt) ≤ 2 * (G : Int) + 18648 → tG D (gF cI cL cC gC gE g gW gA) t H1 → tF t wrS s.heap H1 locs1 → lv_has ls1 12 [(9, .int yo), (8, .ref r_25), (0, .ref a0), (1, .ref a1), (2, .ref a2), (3, .ref a3), (4, .ref a4), (5, .int 0), (6, .long a6)] → WW H1 locs1 (F0 m 126 ls1 []) := by
      intro yo g H locs ls v0 v1 v2 hG hS hl
      refine (hWW _ _ _).mpr ?_
      exact ty_vret hx hb hr hlk (hG.weak (fun _ _ => gF_mono (by omega))) hS True.intro dX5_tryBlock_126
    have loop : ∀ (k : Nat) (yo : Int32) (g : Nat) (H1 : Heap) (locs1 : List Loc) (ls1 : Array Slot), 12 - yo.toInt ≤ (k : Int) → 0 ≤ yo.toInt → yo.toInt ≤ 12 → 2 * (g : Int) + 1554 * (12 - yo.toInt) ≤ 2 * (G : Int) + 18648 → tG D (gF cI cL cC gC gE g gW gA) t H1 → tF t wrS s.heap H1 locs1 → lv_has ls1 12 [(9, .int yo), (8, .ref r_25), (0, .ref a0), (1, .ref a1), (2, .ref a2), (3, .ref a3), (4, .ref a4), (5, .int 0), (6, .long a6)] → WW H1 locs1 (F0 m 23 ls1 []) := by
      intro k
      induction k with
      | zero =>
        intro yo g H locs ls hk v0 v1 v2 hG hS hl
        refine (hWW _ _ _).mpr ?_
        refine lv_pc (pc2 := 23) rfl ?_
        refine lv_iload hx hb dX5_tryBlock_23 (lv_at hl 0 rfl) ?_
        refine lv_bipush (v := 10) hx hb dX5_tryBlock_25 (by decide) ?_
        refine lv_icmp_gt (tgt := 126) hx hb dX5_tryBlock_27 (by decide) (fun c_28 => ?_) (fun c_28 => ?_)
        · skip
          have c_28 : 10 < yo.toInt := q_lt c_28
          exact (hWW _ _ _).mp (kx yo g H locs ls (by omega) (by omega) (by omega) hG hS (lv_sub hl [0, 1, 2, 3, 4, 5, 6, 7, 8] rfl))
        · skip
          have c_28 : yo.toInt ≤ 10 := q_nlt c_28
          refine lv_aload_n hx hb dX5_tryBlock_30 rfl (lv_at hl 2 rfl) ?_
          obtain ⟨r_29, r_31, r_33, v_35, v_36, v_37, v_39, v_41, v_42, v_44, at_45, h_30, h_32, h_34, h_38, h_40, h_43⟩ := gF_o9 hG k_a0
          refine va_get (D := D) (ci := 4) (v := .ref r_31) (C := RX5) (T := TX5) (N := 10) hx hb hts in5 hown hK (va_one at_45) 0 rfl rfl 1 (by decide) (hts (.fieldLink RX5 17 "RiverModel$Search" "tried" "[I") (List.mem_of_getElem? (i := 4) rfl)) (fun _ h9 => h9) rfl dX5_tryBlock_31 ?_
          refine lv_iload hx hb dX5_tryBlock_34 (lv_at hl 7 rfl) ?_
          refine lv_iload hx hb dX5_tryBlock_36 (lv_at hl 0 rfl) ?_
          obtain ⟨f_46, at_47⟩ := gF_o33 hG h_32
          have b_48 : vp_in 0 4 := (q_in (by decide) (by decide))
          refine ty_iast (F2 := (gF cI cL cC gC gE g gW gA)) hx hb hK hG hS 0 at_47 (by rw [h_32]; rfl) rfl b_48 (by rw [h_32]; exact ⟨_, rfl⟩) tFF dX5_tryBlock_38 (fun H locs hG hS at_49 o_50 => ?_)
          have at_45 := va_at.keptK at_45 o_50 h_32 k_a0 rfl
          refine lv_pc (pc2 := 39) rfl ?_
          refine lv_aload hx hb dX5_tryBlock_39 (lv_at hl 1 rfl) ?_
          refine lv_aload hx hb dX5_tryBlock_41 (lv_at hl 6 rfl) ?_
          obtain ⟨r_51, r_53, r_55, r_57, v_59, v_60, v_61, v_62, at_64, h_52, h_54, h_56, h_58, h_63⟩ := gF_o5 hG h_27
          refine ty_callv ((W.runV (As := [.ref a4]) (rest := []) ⟨hx, hb, hml, hown, hts⟩ (s_X0_copyFrom l D t cI cL cC gC gE g gW gA r_25 a4 h_27 k_a4) (cwV 1 hts gu_X5_tryBlock_0_X0_copyFrom_53 rfl rfl rfl (by decide +kernel) ⟨Nat.le_of_ble_eq_true rfl, Nat.le_of_ble_eq_true rfl⟩) (tP_V hG hE at_64 rfl) rfl rfl hl.1 rfl (lv_room (Nat.le_of_ble_eq_true rfl)) dX5_tryBlock_43 ⟨Nat.le_of_ble_eq_true rfl, Nat.le_of_ble_eq_true rfl⟩)) hS (wrL_sub (by decide)) (fun H locs hp_66 hG hS o_67 => ?_)
          have at_45 := va_at.keptC at_45 o_67 k_a0 rfl
          refine lv_aload_n hx hb dX5_tryBlock_46 rfl (lv_at hl 2 rfl) ?_
          refine lv_aload_n hx hb dX5_tryBlock_47 rfl (lv_at hl 3 rfl) ?_
          refine lv_aload_n hx hb dX5_tryBlock_48 rfl (lv_at hl 4 rfl) ?_
          refine lv_aload_n hx hb dX5_tryBlock_49 rfl (lv_at hl 5 rfl) ?_
          refine lv_aload hx hb dX5_tryBlock_50 (lv_at hl 1 rfl) ?_
          refine lv_pc (pc2 := 52) rfl ?_
          refine lv_iload hx hb dX5_tryBlock_52 (lv_at hl 0 rfl) ?_
          refine lv_lload hx hb dX5_tryBlock_54 (lv_at hl 8 rfl) ?_
          refine ty_calll ((W.runV (As := [.ref a1, .ref a2, .ref a3, .ref r_25, .int yo, .long a6]) (rest := []) ⟨hx, hb, hml, hown, hts⟩ (s_X5_peakOfBlock l D t cI cL cC gC gE g gW gA a0 a1 a2 a3 r_25 yo a6 (by omega) k_a0 k_a1 k_a2 k_a3 h_27) (cwV 6 hts gu_X5_tryBlock_0_X5_peakOfBlock_57 rfl rfl rfl (by decide +kernel) ⟨Nat.le_of_ble_eq_true rfl, Nat.le_of_ble_eq_true rfl⟩) (tP_V hG hE at_45 rfl) rfl rfl hl.1 rfl (lv_room (Nat.le_of_ble_eq_true rfl)) dX5_tryBlock_56 ⟨Nat.le_of_ble_eq_true rfl, Nat.le_of_ble_eq_true rfl⟩)) hS (wrL_sub (by decide)) (fun z_68 H locs hp_69 hG hS o_70 => ?_)
          have at_45 := va_at.keptC at_45 o_70 k_a0 rfl
          refine lv_lstore (lv' := [(10, .long z_68), (9, .int yo), (8, .ref r_25), (0, .ref a0), (1, .ref a1), (2, .ref a2), (3, .ref a3), (4, .ref a4), (5, .int 0), (6, .long a6)]) hx hb dX5_tryBlock_59 hl (by decide) rfl (fun ls hl => ?_)
          refine lv_lload hx hb dX5_tryBlock_61 (lv_at hl 0 rfl) ?_
          refine lv_ldc2 hx hb hown (hts (.constantLong RX5 61 (-1)) (List.mem_of_getElem? (i := 13) rfl)) dX5_tryBlock_63 ?_
          refine W.lcmp hx hb dX5_tryBlock_66 ?_
          refine lv_if_eq (tgt := 120) hx hb dX5_tryBlock_67 (by decide) (fun c_71 => ?_) (fun c_71 => ?_)
          · skip
            have c_71 : z_68.toInt = (-1) := q_cmp_eq c_71
            refine lv_pc (pc2 := 120) rfl ?_
            obtain ⟨x_72, e_73⟩ : ∃ y : Int32, y = yo + Int32.ofInt 2 := ⟨_, rfl⟩
            have i_x_72 : x_72.toInt = yo.toInt + 2 := by rw [e_73, show Int32.ofInt 2 = 2 by decide]; exact (q_add (by rw [show (2 : Int32).toInt = 2 by decide]; omega) (by rw [show (2 : Int32).toInt = 2 by decide]; omega)).trans (by rw [show (2 : Int32).toInt = 2 by decide])
            refine lv_iinc (v := x_72) (lv' := [(9, .int x_72), (10, .long z_68), (8, .ref r_25), (0, .ref a0), (1, .ref a1), (2, .ref a2), (3, .ref a3), (4, .ref a4), (5, .int 0), (6, .long a6)]) hx hb dX5_tryBlock_120 hl (k := 1) rfl e_73.symm (by decide) rfl (fun ls hl => ?_)
            refine lv_goto (tgt := 23) hx hb dX5_tryBlock_123 (by decide) ?_
            exfalso; omega
          · skip
            have c_71 : z_68.toInt ≠ (-1) := q_cmp_ne c_71
            refine lv_aload_n hx hb dX5_tryBlock_70 rfl (lv_at hl 3 rfl) ?_
            refine va_get (D := D) (ci := 4) (v := .int v_35) (C := RX5) (T := TX5) (N := 10) hx hb hts in5 hown hK (va_one at_45) 0 rfl rfl 3 (by decide) (hts (.fieldLink RX5 24 "RiverModel$Search" "isFound" "Z") (List.mem_of_getElem? (i := 14) rfl)) (fun _ h9 => h9) rfl dX5_tryBlock_71 ?_
            refine lv_if_eq (tgt := 90) hx hb dX5_tryBlock_74 (by decide) (fun c_74 => ?_) (fun c_74 => ?_)
            · skip
              have c_74 : v_35.toInt = 0 := q_eq c_74
              refine lv_iload hx hb dX5_tryBlock_90 (lv_at hl 8 rfl) ?_
              refine lv_iconst (v := 3) hx hb dX5_tryBlock_92 (by decide) ?_
              refine lv_icmp_ne (tgt := 105) hx hb dX5_tryBlock_93 (by decide) (fun _ => ?_) (fun q => absurd q (by decide))
              refine lv_pc (pc2 := 105) rfl ?_
              refine lv_aload_n hx hb dX5_tryBlock_105 rfl (lv_at hl 3 rfl) ?_
              refine lv_aload_n hx hb dX5_tryBlock_106 rfl (lv_at hl 4 rfl) ?_
              refine lv_aload_n hx hb dX5_tryBlock_107 rfl (lv_at hl 5 rfl) ?_
              refine lv_aload_n hx hb dX5_tryBlock_108 rfl (lv_at hl 6 rfl) ?_
              refine lv_aload hx hb dX5_tryBlock_109 (lv_at hl 2 rfl) ?_
              refine lv_iload hx hb dX5_tryBlock_111 (lv_at hl 8 rfl) ?_
              refine lv_iconst (v := 1) hx hb dX5_tryBlock_113 (by decide) ?_
              refine lv_iadd hx hb dX5_tryBlock_114 ?_
              refine lv_seti (y := 1) (by decide) ?_
              refine lv_pc (pc2 := 115) rfl ?_
              refine lv_lload hx hb dX5_tryBlock_115 (lv_at hl 0 rfl) ?_
              refine ty_callv ((W.runV (As := [.ref a1, .ref a2, .ref a3, .ref r_25, .int 1, .long z_68]) (rest := []) ⟨hx, hb, hml, hown, hts⟩ (s_X5_tryBlock_1 l D t cI cL cC gC gE (g + 6) gW gA a0 a1 a2 a3 r_25 z_68 (by omega) k_a0 k_a1 k_a2 k_a3 h_27) (cwV 6 hts gu_X5_tryBlock_0_X5_tryBlock_1_67 rfl rfl rfl (by decide +kernel) ⟨Nat.le_of_ble_eq_true rfl, Nat.le_of_ble_eq_true rfl⟩) (tP_V hG hE at_45 rfl) rfl rfl hl.1 rfl (lv_room (Nat.le_of_ble_eq_true rfl)) dX5_tryBlock_117 ⟨Nat.le_of_ble_eq_true rfl, Nat.le_of_ble_eq_true rfl⟩)) hS (fun _ h => h) (fun H locs hp_76 hG hS o_77 => ?_)
              obtain ⟨x_78, e_79⟩ : ∃ y : Int32, y = yo + Int32.ofInt 2 := ⟨_, rfl⟩
              have i_x_78 : x_78.toInt = yo.toInt + 2 := by rw [e_79, show Int32.ofInt 2 = 2 by decide]; exact (q_add (by rw [show (2 : Int32).toInt = 2 by decide]; omega) (by rw [show (2 : Int32).toInt = 2 by decide]; omega)).trans (by rw [show (2 : Int32).toInt = 2 by decide])
              refine lv_iinc (v := x_78) (lv' := [(9, .int x_78), (10, .long z_68), (8, .ref r_25), (0, .ref a0), (1, .ref a1), (2, .ref a2), (3, .ref a3), (4, .ref a4), (5, .int 0), (6, .long a6)]) hx hb dX5_tryBlock_120 hl (k := 1) rfl e_79.symm (by decide) rfl (fun ls hl => ?_)
              refine lv_goto (tgt := 23) hx hb dX5_tryBlock_123 (by decide) ?_
              exfalso; omega
            · skip
              have c_74 : v_35.toInt ≠ 0 := q_ne c_74
              refine lv_lload hx hb dX5_tryBlock_77 (lv_at hl 0 rfl) ?_
              refine lv_aload_n hx hb dX5_tryBlock_79 rfl (lv_at hl 3 rfl) ?_
              refine va_get (D := D) (ci := 4) (v := .long v_36) (C := RX5) (T := TX5) (N := 10) hx hb hts in5 hown hK (va_one at_45) 0 rfl rfl 4 (by decide) (hts (.fieldLink RX5 28 "RiverModel$Search" "leastPeak" "J") (List.mem_of_getElem? (i := 18) rfl)) (fun _ h9 => h9) rfl dX5_tryBlock_80 ?_
              refine W.lcmp hx hb dX5_tryBlock_83 ?_
              refine lv_pc (pc2 := 84) rfl ?_
              refine lv_if_lt (tgt := 90) hx hb dX5_tryBlock_84 (by decide) (fun c_80 => ?_) (fun c_80 => ?_)
              · skip
                have c_80 : z_68.toInt < v_36.toInt := q_cmp_lt c_80
                refine lv_iload hx hb dX5_tryBlock_90 (lv_at hl 8 rfl) ?_
                refine lv_iconst (v := 3) hx hb dX5_tryBlock_92 (by decide) ?_
                refine lv_icmp_ne (tgt := 105) hx hb dX5_tryBlock_93 (by decide) (fun _ => ?_) (fun q => absurd q (by decide))
                refine lv_aload_n hx hb dX5_tryBlock_105 rfl (lv_at hl 3 rfl) ?_
                refine lv_aload_n hx hb dX5_tryBlock_106 rfl (lv_at hl 4 rfl) ?_
                refine lv_aload_n hx hb dX5_tryBlock_107 rfl (lv_at hl 5 rfl) ?_
                refine lv_aload_n hx hb dX5_tryBlock_108 rfl (lv_at hl 6 rfl) ?_
                refine lv_pc (pc2 := 109) rfl ?_
                refine lv_aload hx hb dX5_tryBlock_109 (lv_at hl 2 rfl) ?_
                refine lv_iload hx hb dX5_tryBlock_111 (lv_at hl 8 rfl) ?_
                refine lv_iconst (v := 1) hx hb dX5_tryBlock_113 (by decide) ?_
                refine lv_iadd hx hb dX5_tryBlock_114 ?_
                refine lv_seti (y := 1) (by decide) ?_
                refine lv_lload hx hb dX5_tryBlock_115 (lv_at hl 0 rfl) ?_
                refine ty_callv ((W.runV (As := [.ref a1, .ref a2, .ref a3, .ref r_25, .int 1, .long z_68]) (rest := []) ⟨hx, hb, hml, hown, hts⟩ (s_X5_tryBlock_1 l D t cI cL cC gC gE (g + 6) gW gA a0 a1 a2 a3 r_25 z_68 (by omega) k_a0 k_a1 k_a2 k_a3 h_27) (cwV 6 hts gu_X5_tryBlock_0_X5_tryBlock_1_67 rfl rfl rfl (by decide +kernel) ⟨Nat.le_of_ble_eq_true rfl, Nat.le_of_ble_eq_true rfl⟩) (tP_V hG hE at_45 rfl) rfl rfl hl.1 rfl (lv_room (Nat.le_of_ble_eq_true rfl)) dX5_tryBlock_117 ⟨Nat.le_of_ble_eq_true rfl, Nat.le_of_ble_eq_true rfl⟩)) hS (fun _ h => h) (fun H locs hp_82 hG hS o_83 => ?_)
                obtain ⟨x_84, e_85⟩ : ∃ y : Int32, y = yo + Int32.ofInt 2 := ⟨_, rfl⟩
                have i_x_84 : x_84.toInt = yo.toInt + 2 := by rw [e_85, show Int32.ofInt 2 = 2 by decide]; exact (q_add (by rw [show (2 : Int32).toInt = 2 by decide]; omega) (by rw [show (2 : Int32).toInt = 2 by decide]; omega)).trans (by rw [show (2 : Int32).toInt = 2 by decide])
                refine lv_iinc (v := x_84) (lv' := [(9, .int x_84), (10, .long z_68), (8, .ref r_25), (0, .ref a0), (1, .ref a1), (2, .ref a2), (3, .ref a3), (4, .ref a4), (5, .int 0), (6, .long a6)]) hx hb dX5_tryBlock_120 hl (k := 1) rfl e_85.symm (by decide) rfl (fun ls hl => ?_)
                refine lv_goto (tgt := 23) hx hb dX5_tryBlock_123 (by decide) ?_
                exfalso; omega
              · skip
                have c_80 : v_36.toInt ≤ z_68.toInt := q_cmp_nlt c_80
                refine lv_pc (pc2 := 87) rfl ?_
                refine lv_goto (tgt := 120) hx hb dX5_tryBlock_87 (by decide) ?_
                obtain ⟨x_86, e_87⟩ : ∃ y : Int32, y = yo + Int32.ofInt 2 := ⟨_, rfl⟩
                have i_x_86 : x_86.toInt = yo.toInt + 2 := by rw [e_87, show Int32.ofInt 2 = 2 by decide]; exact (q_add (by rw [show (2 : Int32).toInt = 2 by decide]; omega) (by rw [show (2 : Int32).toInt = 2 by decide]; omega)).trans (by rw [show (2 : Int32).toInt = 2 by decide])
                refine lv_iinc (v := x_86) (lv' := [(9, .int x_86), (10, .long z_68), (8, .ref r_25), (0, .ref a0), (1, .ref a1), (2, .ref a2), (3, .ref a3), (4, .ref a4), (5, .int 0), (6, .long a6)]) hx hb dX5_tryBlock_120 hl (k := 1) rfl e_87.symm (by decide) rfl (fun ls hl => ?_)
                refine lv_goto (tgt := 23) hx hb dX5_tryBlock_123 (by decide) ?_
                exfalso; omega
      | succ k ih =>
        intro yo g H locs ls hk v0 v1 v2 hG hS hl
        refine (hWW _ _ _).mpr ?_
        refine lv_iload hx hb dX5_tryBlock_23 (lv_at hl 0 rfl) ?_
        refine lv_bipush (v := 10) hx hb dX5_tryBlock_25 (by decide) ?_
        refine lv_icmp_gt (tgt := 126) hx hb dX5_tryBlock_27 (by decide) (fun c_88 => ?_) (fun c_88 => ?_)
        · skip
          have c_88 : 10 < yo.toInt := q_lt c_88
          exact (hWW _ _ _).mp (kx yo g H locs ls (by omega) (by omega) (by omega) hG hS (lv_sub hl [0, 1, 2, 3, 4, 5, 6, 7, 8] rfl))
        · skip
          have c_88 : yo.toInt ≤ 10 := q_nlt c_88
          refine lv_aload_n hx hb dX5_tryBlock_30 rfl (lv_at hl 2 rfl) ?_
          obtain ⟨r_89, r_91, r_93, v_95, v_96, v_97, v_99, v_101, v_102, v_104, at_105, h_90, h_92, h_94, h_98, h_100, h_103⟩ := gF_o9 hG k_a0
          refine va_get (D := D) (ci := 4) (v := .ref r_91) (C := RX5) (T := TX5) (N := 10) hx hb hts in5 hown hK (va_one at_105) 0 rfl rfl 1 (by decide) (hts (.fieldLink RX5 17 "RiverModel$Search" "tried" "[I") (List.mem_of_getElem? (i := 4) rfl)) (fun _ h9 => h9) rfl dX5_tryBlock_31 ?_
          refine lv_pc (pc2 := 34) rfl ?_
          refine lv_iload hx hb dX5_tryBlock_34 (lv_at hl 7 rfl) ?_
          refine lv_iload hx hb dX5_tryBlock_36 (lv_at hl 0 rfl) ?_
          obtain ⟨f_106, at_107⟩ := gF_o33 hG h_92
          have b_108 : vp_in 0 4 := (q_in (by decide) (by decide))
          refine ty_iast (F2 := (gF cI cL cC gC gE g gW gA)) hx hb hK hG hS 0 at_107 (by rw [h_92]; rfl) rfl b_108 (by rw [h_92]; exact ⟨_, rfl⟩) tFF dX5_tryBlock_38 (fun H locs hG hS at_109 o_110 => ?_)
          have at_105 := va_at.keptK at_105 o_110 h_92 k_a0 rfl
          refine lv_aload hx hb dX5_tryBlock_39 (lv_at hl 1 rfl) ?_
          refine lv_aload hx hb dX5_tryBlock_41 (lv_at hl 6 rfl) ?_
          obtain ⟨r_111, r_113, r_115, r_117, v_119, v_120, v_121, v_122, at_124, h_112, h_114, h_116, h_118, h_123⟩ := gF_o5 hG h_27
          refine ty_callv ((W.runV (As := [.ref a4]) (rest := []) ⟨hx, hb, hml, hown, hts⟩ (s_X0_copyFrom l D t cI cL cC gC gE g gW gA r_25 a4 h_27 k_a4) (cwV 1 hts gu_X5_tryBlock_0_X0_copyFrom_53 rfl rfl rfl (by decide +kernel) ⟨Nat.le_of_ble_eq_true rfl, Nat.le_of_ble_eq_true rfl⟩) (tP_V hG hE at_124 rfl) rfl rfl hl.1 rfl (lv_room (Nat.le_of_ble_eq_true rfl)) dX5_tryBlock_43 ⟨Nat.le_of_ble_eq_true rfl, Nat.le_of_ble_eq_true rfl⟩)) hS (wrL_sub (by decide)) (fun H locs hp_126 hG hS o_127 => ?_)
          have at_105 := va_at.keptC at_105 o_127 k_a0 rfl
          refine lv_aload_n hx hb dX5_tryBlock_46 rfl (lv_at hl 2 rfl) ?_
          refine lv_aload_n hx hb dX5_tryBlock_47 rfl (lv_at hl 3 rfl) ?_
          refine lv_pc (pc2 := 48) rfl ?_
          refine lv_aload_n hx hb dX5_tryBlock_48 rfl (lv_at hl 4 rfl) ?_
          refine lv_aload_n hx hb dX5_tryBlock_49 rfl (lv_at hl 5 rfl) ?_
          refine lv_aload hx hb dX5_tryBlock_50 (lv_at hl 1 rfl) ?_
          refine lv_iload hx hb dX5_tryBlock_52 (lv_at hl 0 rfl) ?_
          refine lv_lload hx hb dX5_tryBlock_54 (lv_at hl 8 rfl) ?_
          refine ty_calll ((W.runV (As := [.ref a1, .ref a2, .ref a3, .ref r_25, .int yo, .long a6]) (rest := []) ⟨hx, hb, hml, hown, hts⟩ (s_X5_peakOfBlock l D t cI cL cC gC gE g gW gA a0 a1 a2 a3 r_25 yo a6 (by omega) k_a0 k_a1 k_a2 k_a3 h_27) (cwV 6 hts gu_X5_tryBlock_0_X5_peakOfBlock_57 rfl rfl rfl (by decide +kernel) ⟨Nat.le_of_ble_eq_true rfl, Nat.le_of_ble_eq_true rfl⟩) (tP_V hG hE at_105 rfl) rfl rfl hl.1 rfl (lv_room (Nat.le_of_ble_eq_true rfl)) dX5_tryBlock_56 ⟨Nat.le_of_ble_eq_true rfl, Nat.le_of_ble_eq_true rfl⟩)) hS (wrL_sub (by decide)) (fun z_128 H locs hp_129 hG hS o_130 => ?_)
          have at_105 := va_at.keptC at_105 o_130 k_a0 rfl
          refine lv_lstore (lv' := [(10, .long z_128), (9, .int yo), (8, .ref r_25), (0, .ref a0), (1, .ref a1), (2, .ref a2), (3, .ref a3), (4, .ref a4), (5, .int 0), (6, .long a6)]) hx hb dX5_tryBlock_59 hl (by decide) rfl (fun ls hl => ?_)
          refine lv_lload hx hb dX5_tryBlock_61 (lv_at hl 0 rfl) ?_
          refine lv_pc (pc2 := 63) rfl ?_
          refine lv_ldc2 hx hb hown (hts (.constantLong RX5 61 (-1)) (List.mem_of_getElem? (i := 13) rfl)) dX5_tryBlock_63 ?_
          refine W.lcmp hx hb dX5_tryBlock_66 ?_
          refine lv_if_eq (tgt := 120) hx hb dX5_tryBlock_67 (by decide) (fun c_131 => ?_) (fun c_131 => ?_)
          · skip
            have c_131 : z_128.toInt = (-1) := q_cmp_eq c_131
            obtain ⟨x_132, e_133⟩ : ∃ y : Int32, y = yo + Int32.ofInt 2 := ⟨_, rfl⟩
            have i_x_132 : x_132.toInt = yo.toInt + 2 := by rw [e_133, show Int32.ofInt 2 = 2 by decide]; exact (q_add (by rw [show (2 : Int32).toInt = 2 by decide]; omega) (by rw [show (2 : Int32).toInt = 2 by decide]; omega)).trans (by rw [show (2 : Int32).toInt = 2 by decide])
            refine lv_iinc (v := x_132) (lv' := [(9, .int x_132), (10, .long z_128), (8, .ref r_25), (0, .ref a0), (1, .ref a1), (2, .ref a2), (3, .ref a3), (4, .ref a4), (5, .int 0), (6, .long a6)]) hx hb dX5_tryBlock_120 hl (k := 1) rfl e_133.symm (by decide) rfl (fun ls hl => ?_)
            refine lv_goto (tgt := 23) hx hb dX5_tryBlock_123 (by decide) ?_
            exact (hWW _ _ _).mp (ih x_132 (g + 6) H locs ls (by omega) (by omega) (by omega) (by omega) hG hS (lv_sub hl [0, 2, 3, 4, 5, 6, 7, 8, 9] rfl))
          · skip
            have c_131 : z_128.toInt ≠ (-1) := q_cmp_ne c_131
            refine lv_aload_n hx hb dX5_tryBlock_70 rfl (lv_at hl 3 rfl) ?_
            refine va_get (D := D) (ci := 4) (v := .int v_95) (C := RX5) (T := TX5) (N := 10) hx hb hts in5 hown hK (va_one at_105) 0 rfl rfl 3 (by decide) (hts (.fieldLink RX5 24 "RiverModel$Search" "isFound" "Z") (List.mem_of_getElem? (i := 14) rfl)) (fun _ h9 => h9) rfl dX5_tryBlock_71 ?_
            refine lv_if_eq (tgt := 90) hx hb dX5_tryBlock_74 (by decide) (fun c_134 => ?_) (fun c_134 => ?_)
            · skip
              have c_134 : v_95.toInt = 0 := q_eq c_134
              refine lv_pc (pc2 := 90) rfl ?_
              refine lv_iload hx hb dX5_tryBlock_90 (lv_at hl 8 rfl) ?_
              refine lv_iconst (v := 3) hx hb dX5_tryBlock_92 (by decide) ?_
              refine lv_icmp_ne (tgt := 105) hx hb dX5_tryBlock_93 (by decide) (fun _ => ?_) (fun q => absurd q (by decide))
              refine lv_aload_n hx hb dX5_tryBlock_105 rfl (lv_at hl 3 rfl) ?_
              refine lv_aload_n hx hb dX5_tryBlock_106 rfl (lv_at hl 4 rfl) ?_
              refine lv_aload_n hx hb dX5_tryBlock_107 rfl (lv_at hl 5 rfl) ?_
              refine lv_aload_n hx hb dX5_tryBlock_108 rfl (lv_at hl 6 rfl) ?_
              refine lv_aload hx hb dX5_tryBlock_109 (lv_at hl 2 rfl) ?_
              refine lv_pc (pc2 := 111) rfl ?_
              refine lv_iload hx hb dX5_tryBlock_111 (lv_at hl 8 rfl) ?_
              refine lv_iconst (v := 1) hx hb dX5_tryBlock_113 (by decide) ?_
              refine lv_iadd hx hb dX5_tryBlock_114 ?_
              refine lv_seti (y := 1) (by decide) ?_
              refine lv_lload hx hb dX5_tryBlock_115 (lv_at hl 0 rfl) ?_
              refine ty_callv ((W.runV (As := [.ref a1, .ref a2, .ref a3, .ref r_25, .int 1, .long z_128]) (rest := []) ⟨hx, hb, hml, hown, hts⟩ (s_X5_tryBlock_1 l D t cI cL cC gC gE (g + 6) gW gA a0 a1 a2 a3 r_25 z_128 (by omega) k_a0 k_a1 k_a2 k_a3 h_27) (cwV 6 hts gu_X5_tryBlock_0_X5_tryBlock_1_67 rfl rfl rfl (by decide +kernel) ⟨Nat.le_of_ble_eq_true rfl, Nat.le_of_ble_eq_true rfl⟩) (tP_V hG hE at_105 rfl) rfl rfl hl.1 rfl (lv_room (Nat.le_of_ble_eq_true rfl)) dX5_tryBlock_117 ⟨Nat.le_of_ble_eq_true rfl, Nat.le_of_ble_eq_true rfl⟩)) hS (fun _ h => h) (fun H locs hp_136 hG hS o_137 => ?_)
              obtain ⟨x_138, e_139⟩ : ∃ y : Int32, y = yo + Int32.ofInt 2 := ⟨_, rfl⟩
              have i_x_138 : x_138.toInt = yo.toInt + 2 := by rw [e_139, show Int32.ofInt 2 = 2 by decide]; exact (q_add (by rw [show (2 : Int32).toInt = 2 by decide]; omega) (by rw [show (2 : Int32).toInt = 2 by decide]; omega)).trans (by rw [show (2 : Int32).toInt = 2 by decide])
              refine lv_iinc (v := x_138) (lv' := [(9, .int x_138), (10, .long z_128), (8, .ref r_25), (0, .ref a0), (1, .ref a1), (2, .ref a2), (3, .ref a3), (4, .ref a4), (5, .int 0), (6, .long a6)]) hx hb dX5_tryBlock_120 hl (k := 1) rfl e_139.symm (by decide) rfl (fun ls hl => ?_)
              refine lv_goto (tgt := 23) hx hb dX5_tryBlock_123 (by decide) ?_
              exact (hWW _ _ _).mp (ih x_138 (g + 1554) H locs ls (by omega) (by omega) (by omega) (by omega) hG hS (lv_sub hl [0, 2, 3, 4, 5, 6, 7, 8, 9] rfl))
            · skip
              have c_134 : v_95.toInt ≠ 0 := q_ne c_134
              refine lv_lload hx hb dX5_tryBlock_77 (lv_at hl 0 rfl) ?_
              refine lv_pc (pc2 := 79) rfl ?_
              refine lv_aload_n hx hb dX5_tryBlock_79 rfl (lv_at hl 3 rfl) ?_
              refine va_get (D := D) (ci := 4) (v := .long v_96) (C := RX5) (T := TX5) (N := 10) hx hb hts in5 hown hK (va_one at_105) 0 rfl rfl 4 (by decide) (hts (.fieldLink RX5 28 "RiverModel$Search" "leastPeak" "J") (List.mem_of_getElem? (i := 18) rfl)) (fun _ h9 => h9) rfl dX5_tryBlock_80 ?_
              refine W.lcmp hx hb dX5_tryBlock_83 ?_
              refine lv_if_lt (tgt := 90) hx hb dX5_tryBlock_84 (by decide) (fun c_140 => ?_) (fun c_140 => ?_)
              · skip
                have c_140 : z_128.toInt < v_96.toInt := q_cmp_lt c_140
                refine lv_iload hx hb dX5_tryBlock_90 (lv_at hl 8 rfl) ?_
                refine lv_iconst (v := 3) hx hb dX5_tryBlock_92 (by decide) ?_
                refine lv_icmp_ne (tgt := 105) hx hb dX5_tryBlock_93 (by decide) (fun _ => ?_) (fun q => absurd q (by decide))
                refine lv_aload_n hx hb dX5_tryBlock_105 rfl (lv_at hl 3 rfl) ?_
                refine lv_pc (pc2 := 106) rfl ?_
                refine lv_aload_n hx hb dX5_tryBlock_106 rfl (lv_at hl 4 rfl) ?_
                refine lv_aload_n hx hb dX5_tryBlock_107 rfl (lv_at hl 5 rfl) ?_
                refine lv_aload_n hx hb dX5_tryBlock_108 rfl (lv_at hl 6 rfl) ?_
                refine lv_aload hx hb dX5_tryBlock_109 (lv_at hl 2 rfl) ?_
                refine lv_iload hx hb dX5_tryBlock_111 (lv_at hl 8 rfl) ?_
                refine lv_iconst (v := 1) hx hb dX5_tryBlock_113 (by decide) ?_
                refine lv_iadd hx hb dX5_tryBlock_114 ?_
                refine lv_seti (y := 1) (by decide) ?_
                refine lv_lload hx hb dX5_tryBlock_115 (lv_at hl 0 rfl) ?_
                refine lv_pc (pc2 := 117) rfl ?_
                refine ty_callv ((W.runV (As := [.ref a1, .ref a2, .ref a3, .ref r_25, .int 1, .long z_128]) (rest := []) ⟨hx, hb, hml, hown, hts⟩ (s_X5_tryBlock_1 l D t cI cL cC gC gE (g + 6) gW gA a0 a1 a2 a3 r_25 z_128 (by omega) k_a0 k_a1 k_a2 k_a3 h_27) (cwV 6 hts gu_X5_tryBlock_0_X5_tryBlock_1_67 rfl rfl rfl (by decide +kernel) ⟨Nat.le_of_ble_eq_true rfl, Nat.le_of_ble_eq_true rfl⟩) (tP_V hG hE at_105 rfl) rfl rfl hl.1 rfl (lv_room (Nat.le_of_ble_eq_true rfl)) dX5_tryBlock_117 ⟨Nat.le_of_ble_eq_true rfl, Nat.le_of_ble_eq_true rfl⟩)) hS (fun _ h => h) (fun H locs hp_142 hG hS o_143 => ?_)
                obtain ⟨x_144, e_145⟩ : ∃ y : Int32, y = yo + Int32.ofInt 2 := ⟨_, rfl⟩
                have i_x_144 : x_144.toInt = yo.toInt + 2 := by rw [e_145, show Int32.ofInt 2 = 2 by decide]; exact (q_add (by rw [show (2 : Int32).toInt = 2 by decide]; omega) (by rw [show (2 : Int32).toInt = 2 by decide]; omega)).trans (by rw [show (2 : Int32).toInt = 2 by decide])
                refine lv_iinc (v := x_144) (lv' := [(9, .int x_144), (10, .long z_128), (8, .ref r_25), (0, .ref a0), (1, .ref a1), (2, .ref a2), (3, .ref a3), (4, .ref a4), (5, .int 0), (6, .long a6)]) hx hb dX5_tryBlock_120 hl (k := 1) rfl e_145.symm (by decide) rfl (fun ls hl => ?_)
                refine lv_goto (tgt := 23) hx hb dX5_tryBlock_123 (by decide) ?_
                exact (hWW _ _ _).mp (ih x_144 (g + 1554) H locs ls (by omega) (by omega) (by omega) (by omega) hG hS (lv_sub hl [0, 2, 3, 4, 5, 6, 7, 8, 9] rfl))
              · skip
                have c_140 : v_96.toInt ≤ z_128.toInt := q_cmp_nlt c_140
                refine lv_goto (tgt := 120) hx hb dX5_tryBlock_87 (by decide) ?_
                obtain ⟨x_146, e_147⟩ : ∃ y : Int32, y = yo + Int32.ofInt 2 := ⟨_, rfl⟩
                have i_x_146 : x_146.toInt = yo.toInt + 2 := by rw [e_147, show Int32.ofInt 2 = 2 by decide]; exact (q_add (by rw [show (2 : Int32).toInt = 2 by decide]; omega) (by rw [show (2 : Int32).toInt = 2 by decide]; omega)).trans (by rw [show (2 : Int32).toInt = 2 by decide])
                refine lv_iinc (v := x_146) (lv' := [(9, .int x_146), (10, .long z_128), (8, .ref r_25), (0, .ref a0), (1, .ref a1), (2, .ref a2), (3, .ref a3), (4, .ref a4), (5, .int 0), (6, .long a6)]) hx hb dX5_tryBlock_120 hl (k := 1) rfl e_147.symm (by decide) rfl (fun ls hl => ?_)
                refine lv_goto (tgt := 23) hx hb dX5_tryBlock_123 (by decide) ?_
                exact (hWW _ _ _).mp (ih x_146 (g + 6) H locs ls (by omega) (by omega) (by omega) (by omega) hG hS (lv_sub hl [0, 2, 3, 4, 5, 6, 7, 8, 9] rfl))
    have hz_yo : (0 : Int32).toInt = 0 := by decide
    exact loop (12 - 0 : Int).toNat 0 G H locs ls (by omega) (by omega) (by omega) (by omega) hG hS (lv_sub hl [0, 1, 2, 3, 4, 5, 6, 7, 8] rfl)

def uX9_lacksItem : List Cond := .code yX9_lacksItem cX9_lacksItem 2 (some .boolean) :: ([.fieldLink RX9 29 "RiverModel" "isBuilt" "Z", .fieldLink RX9 19 "RiverModel" "model" "LRiverModel$Model;", .fieldLink RX9 124 "RiverModel$Model" "many" "I"] ++ wsX90 ++ wsX40)
set_option maxHeartbeats 4000000 in
set_option maxRecDepth 100000 in
theorem s_X9_lacksItem (l : Launch) (D : va_G) (t : Nat → Nat) (cI cL cC : ClassId) (gC : Int32) (gE : Int32) (G : Nat) (gW : Nat → Int32) (gA : Nat → Int32) (a0 : Nat) (a1 : Int32) (k_a0 : t a0 = 1) : tM l yX9_lacksItem uX9_lacksItem 0 0 D (gF cI cL cC gC gE G gW gA) (gF cI cL cC gC gE G gW gA) t cI cL cC [.ref a0, .int a1] wr0 (pI (fun r => r = 0 ∨ r = 1)) := by
  refine tM.ofW (cc := cX9_lacksItem) (maxL := 2) (ret := (some .boolean)) (by decide) rfl (Nat.le_of_ble_eq_true rfl) ?_
  intro p e s m below meth c hx hb hr hml hown hts hlk H locs hG hK hE hS ls hl
  have hl : lv_has ls 2 [(0, .ref a0), (1, .int a1)] := hl
  have in9 : ∀ w ∈ wsX90, w ∈ uX9_lacksItem := fun w h => List.mem_cons_of_mem _ (List.mem_append_left _ (List.mem_append_right _ h))
  have in4 : ∀ w ∈ wsX40, w ∈ uX9_lacksItem := fun w h => List.mem_cons_of_mem _ (List.mem_append_right _ h)
  refine lv_aload_n hx hb dX9_lacksItem_0 rfl (lv_at hl 0 rfl) ?_
  obtain ⟨r_1, r_3, r_5, r_7, v_9, v_10, r_11, r_13, r_15, r_17, r_19, r_21, r_23, v_25, r_27, r_29, r_31, r_33, at_35, h_2, h_4, h_6, h_8, h_12, h_14, h_16, h_18, h_20, h_22, h_24, h_26, h_28, h_30, h_32, h_34⟩ := gF_o1 hG k_a0
  refine va_get (D := D) (ci := 8) (v := .int v_9) (C := RX9) (T := TX9) (N := 18) hx hb hts in9 hown hK (va_one at_35) 0 rfl rfl 4 (by decide) (hts (.fieldLink RX9 29 "RiverModel" "isBuilt" "Z") (List.mem_of_getElem? (i := 1) rfl)) (fun _ h9 => h9) rfl dX9_lacksItem_1 ?_
  refine lv_if_eq (tgt := 18) hx hb dX9_lacksItem_4 (by decide) (fun c_36 => ?_) (fun c_36 => ?_)
  · skip
    have c_36 : v_9.toInt = 0 := q_eq c_36
    refine lv_iconst (v := 1) hx hb dX9_lacksItem_18 (by decide) ?_
    refine lv_goto (tgt := 23) hx hb dX9_lacksItem_19 (by decide) ?_
    exact ty_zret hx hb hr hlk rfl hG hS (by decide) dX9_lacksItem_23
  · skip
    have c_36 : v_9.toInt ≠ 0 := q_ne c_36
    refine lv_iload_n hx hb dX9_lacksItem_7 rfl (lv_at hl 1 rfl) ?_
    refine lv_pc (pc2 := 8) rfl ?_
    refine lv_aload_n hx hb dX9_lacksItem_8 rfl (lv_at hl 0 rfl) ?_
    refine va_get (D := D) (ci := 8) (v := .ref r_3) (C := RX9) (T := TX9) (N := 18) hx hb hts in9 hown hK (va_one at_35) 0 rfl rfl 1 (by decide) (hts (.fieldLink RX9 19 "RiverModel" "model" "LRiverModel$Model;") (List.mem_of_getElem? (i := 2) rfl)) (fun _ h9 => h9) rfl dX9_lacksItem_9 ?_
    obtain ⟨r_37, r_39, r_41, v_43, v_44, v_45, at_47, h_38, h_40, h_42, h_46⟩ := gF_o3 hG h_4
    refine va_get (D := D) (ci := 3) (v := .int v_43) (C := RX4) (T := TX4) (N := 6) hx hb hts in4 hown hK (va_one at_47) 0 rfl rfl 3 (by decide) (hts (.fieldLink RX9 124 "RiverModel$Model" "many" "I") (List.mem_of_getElem? (i := 3) rfl)) (fun _ h9 => h9) rfl dX9_lacksItem_12 ?_
    refine lv_icmp_lt (tgt := 22) hx hb dX9_lacksItem_15 (by decide) (fun c_48 => ?_) (fun c_48 => ?_)
    · skip
      have c_48 : a1.toInt < v_43.toInt := q_lt c_48
      refine lv_iconst (v := 0) hx hb dX9_lacksItem_22 (by decide) ?_
      exact ty_zret hx hb hr hlk rfl hG hS (by decide) dX9_lacksItem_23
    · skip
      have c_48 : v_43.toInt ≤ a1.toInt := q_nlt c_48
      refine lv_iconst (v := 1) hx hb dX9_lacksItem_18 (by decide) ?_
      refine lv_goto (tgt := 23) hx hb dX9_lacksItem_19 (by decide) ?_
      refine lv_pc (pc2 := 23) rfl ?_
      exact ty_zret hx hb hr hlk rfl hG hS (by decide) dX9_lacksItem_23

def uX9_lacksStore : List Cond := .code yX9_lacksStore cX9_lacksStore 2 (some .boolean) :: ([.fieldLink RX9 29 "RiverModel" "isBuilt" "Z", .fieldLink RX9 19 "RiverModel" "model" "LRiverModel$Model;", .methodLink RX9 343 yX4_hasStore, .instanceMethod yX4_hasStore, .selects RX4 yX4_hasStore yX4_hasStore, .initialized RX4, .code yX4_hasStore cX4_hasStore 2 (some .boolean), .fieldLink RX4 15 "RiverModel$Model" "storeItems" "[I"] ++ wsX90 ++ wsX40)
set_option maxRecDepth 20000 in
theorem gu_X9_lacksStore_X4_hasStore_343 : GoodIn uX9_lacksStore (wsV RX9 343 RX4 yX4_hasStore uX4_hasStore) := goodIn_r _ [3, 4, 5, 6, 7, 8, 27, 28, 29, 30, 31, 32] rfl (by decide +kernel)
set_option maxHeartbeats 4000000 in
set_option maxRecDepth 100000 in
theorem s_X9_lacksStore (l : Launch) (D : va_G) (t : Nat → Nat) (cI cL cC : ClassId) (gC : Int32) (gE : Int32) (G : Nat) (gW : Nat → Int32) (gA : Nat → Int32) (a0 : Nat) (a1 : Int32) (k_a0 : t a0 = 1) : tM l yX9_lacksStore uX9_lacksStore 1 21 D (gF cI cL cC gC gE G gW gA) (gF cI cL cC gC gE G gW gA) t cI cL cC [.ref a0, .int a1] wr0 (pI (fun r => r = 0 ∨ r = 1)) := by
  refine tM.ofW (cc := cX9_lacksStore) (maxL := 2) (ret := (some .boolean)) (by decide) rfl (Nat.le_of_ble_eq_true rfl) ?_
  intro p e s m below meth c hx hb hr hml hown hts hlk H locs hG hK hE hS ls hl
  have hl : lv_has ls 2 [(0, .ref a0), (1, .int a1)] := hl
  have in9 : ∀ w ∈ wsX90, w ∈ uX9_lacksStore := fun w h => List.mem_cons_of_mem _ (List.mem_append_left _ (List.mem_append_right _ h))
  refine lv_aload_n hx hb dX9_lacksStore_0 rfl (lv_at hl 0 rfl) ?_
  obtain ⟨r_1, r_3, r_5, r_7, v_9, v_10, r_11, r_13, r_15, r_17, r_19, r_21, r_23, v_25, r_27, r_29, r_31, r_33, at_35, h_2, h_4, h_6, h_8, h_12, h_14, h_16, h_18, h_20, h_22, h_24, h_26, h_28, h_30, h_32, h_34⟩ := gF_o1 hG k_a0
  refine va_get (D := D) (ci := 8) (v := .int v_9) (C := RX9) (T := TX9) (N := 18) hx hb hts in9 hown hK (va_one at_35) 0 rfl rfl 4 (by decide) (hts (.fieldLink RX9 29 "RiverModel" "isBuilt" "Z") (List.mem_of_getElem? (i := 1) rfl)) (fun _ h9 => h9) rfl dX9_lacksStore_1 ?_
  refine lv_if_eq (tgt := 18) hx hb dX9_lacksStore_4 (by decide) (fun c_36 => ?_) (fun c_36 => ?_)
  · skip
    have c_36 : v_9.toInt = 0 := q_eq c_36
    refine lv_iconst (v := 1) hx hb dX9_lacksStore_18 (by decide) ?_
    refine lv_goto (tgt := 23) hx hb dX9_lacksStore_19 (by decide) ?_
    exact ty_zret hx hb hr hlk rfl hG hS (by decide) dX9_lacksStore_23
  · skip
    have c_36 : v_9.toInt ≠ 0 := q_ne c_36
    refine lv_aload_n hx hb dX9_lacksStore_7 rfl (lv_at hl 0 rfl) ?_
    refine lv_pc (pc2 := 8) rfl ?_
    refine va_get (D := D) (ci := 8) (v := .ref r_3) (C := RX9) (T := TX9) (N := 18) hx hb hts in9 hown hK (va_one at_35) 0 rfl rfl 1 (by decide) (hts (.fieldLink RX9 19 "RiverModel" "model" "LRiverModel$Model;") (List.mem_of_getElem? (i := 2) rfl)) (fun _ h9 => h9) rfl dX9_lacksStore_8 ?_
    refine lv_iload_n hx hb dX9_lacksStore_11 rfl (lv_at hl 1 rfl) ?_
    obtain ⟨r_37, r_39, r_41, v_43, v_44, v_45, at_47, h_38, h_40, h_42, h_46⟩ := gF_o3 hG h_4
    refine ty_calli ((W.runV (As := [.int a1]) (rest := []) ⟨hx, hb, hml, hown, hts⟩ (s_X4_hasStore l D t cI cL cC gC gE G gW gA r_3 a1 h_4) (cwV 1 hts gu_X9_lacksStore_X4_hasStore_343 rfl rfl rfl (by decide +kernel) ⟨Nat.le_of_ble_eq_true rfl, Nat.le_of_ble_eq_true rfl⟩) (tP_V hG hE at_47 rfl) rfl rfl hl.1 rfl (lv_room (Nat.le_of_ble_eq_true rfl)) dX9_lacksStore_12 ⟨Nat.le_of_ble_eq_true rfl, Nat.le_of_ble_eq_true rfl⟩)) hS (fun _ h => h) (fun r_48 H locs hp_49 hG hS o_50 => ?_)
    have at_35 := va_at.keptC at_35 o_50 k_a0 rfl
    have at_47 := va_at.keptC at_47 o_50 h_4 rfl
    rcases hp_49 with ⟨rfl, hc_121, hc_122⟩ | ⟨rfl, _⟩
    · skip
      refine lv_if_ne (tgt := 22) hx hb dX9_lacksStore_15 (by decide) (fun _ => ?_) (fun q => absurd q (by decide))
      refine lv_iconst (v := 0) hx hb dX9_lacksStore_22 (by decide) ?_
      exact ty_zret hx hb hr hlk rfl hG hS (by decide) dX9_lacksStore_23
    · skip
      refine lv_if_ne (tgt := 22) hx hb dX9_lacksStore_15 (by decide) (fun q => absurd rfl q) (fun _ => ?_)
      refine lv_iconst (v := 1) hx hb dX9_lacksStore_18 (by decide) ?_
      refine lv_pc (pc2 := 19) rfl ?_
      refine lv_goto (tgt := 23) hx hb dX9_lacksStore_19 (by decide) ?_
      exact ty_zret hx hb hr hlk rfl hG hS (by decide) dX9_lacksStore_23

def uX9_lacksGate : List Cond := .code yX9_lacksGate cX9_lacksGate 2 (some .boolean) :: ([.fieldLink RX9 29 "RiverModel" "isBuilt" "Z", .fieldLink RX9 19 "RiverModel" "model" "LRiverModel$Model;", .fieldLink RX9 333 "RiverModel$Model" "gates" "I"] ++ wsX90 ++ wsX40)
set_option maxHeartbeats 4000000 in
set_option maxRecDepth 100000 in
theorem s_X9_lacksGate (l : Launch) (D : va_G) (t : Nat → Nat) (cI cL cC : ClassId) (gC : Int32) (gE : Int32) (G : Nat) (gW : Nat → Int32) (gA : Nat → Int32) (a0 : Nat) (a1 : Int32) (k_a0 : t a0 = 1) : tM l yX9_lacksGate uX9_lacksGate 0 0 D (gF cI cL cC gC gE G gW gA) (gF cI cL cC gC gE G gW gA) t cI cL cC [.ref a0, .int a1] wr0 (pI (fun r => r = 0 ∨ r = 1)) := by
  refine tM.ofW (cc := cX9_lacksGate) (maxL := 2) (ret := (some .boolean)) (by decide) rfl (Nat.le_of_ble_eq_true rfl) ?_
  intro p e s m below meth c hx hb hr hml hown hts hlk H locs hG hK hE hS ls hl
  have hl : lv_has ls 2 [(0, .ref a0), (1, .int a1)] := hl
  have in9 : ∀ w ∈ wsX90, w ∈ uX9_lacksGate := fun w h => List.mem_cons_of_mem _ (List.mem_append_left _ (List.mem_append_right _ h))
  have in4 : ∀ w ∈ wsX40, w ∈ uX9_lacksGate := fun w h => List.mem_cons_of_mem _ (List.mem_append_right _ h)
  refine lv_aload_n hx hb dX9_lacksGate_0 rfl (lv_at hl 0 rfl) ?_
  obtain ⟨r_1, r_3, r_5, r_7, v_9, v_10, r_11, r_13, r_15, r_17, r_19, r_21, r_23, v_25, r_27, r_29, r_31, r_33, at_35, h_2, h_4, h_6, h_8, h_12, h_14, h_16, h_18, h_20, h_22, h_24, h_26, h_28, h_30, h_32, h_34⟩ := gF_o1 hG k_a0
  refine va_get (D := D) (ci := 8) (v := .int v_9) (C := RX9) (T := TX9) (N := 18) hx hb hts in9 hown hK (va_one at_35) 0 rfl rfl 4 (by decide) (hts (.fieldLink RX9 29 "RiverModel" "isBuilt" "Z") (List.mem_of_getElem? (i := 1) rfl)) (fun _ h9 => h9) rfl dX9_lacksGate_1 ?_
  refine lv_if_eq (tgt := 18) hx hb dX9_lacksGate_4 (by decide) (fun c_36 => ?_) (fun c_36 => ?_)
  · skip
    have c_36 : v_9.toInt = 0 := q_eq c_36
    refine lv_iconst (v := 1) hx hb dX9_lacksGate_18 (by decide) ?_
    refine lv_goto (tgt := 23) hx hb dX9_lacksGate_19 (by decide) ?_
    exact ty_zret hx hb hr hlk rfl hG hS (by decide) dX9_lacksGate_23
  · skip
    have c_36 : v_9.toInt ≠ 0 := q_ne c_36
    refine lv_iload_n hx hb dX9_lacksGate_7 rfl (lv_at hl 1 rfl) ?_
    refine lv_pc (pc2 := 8) rfl ?_
    refine lv_aload_n hx hb dX9_lacksGate_8 rfl (lv_at hl 0 rfl) ?_
    refine va_get (D := D) (ci := 8) (v := .ref r_3) (C := RX9) (T := TX9) (N := 18) hx hb hts in9 hown hK (va_one at_35) 0 rfl rfl 1 (by decide) (hts (.fieldLink RX9 19 "RiverModel" "model" "LRiverModel$Model;") (List.mem_of_getElem? (i := 2) rfl)) (fun _ h9 => h9) rfl dX9_lacksGate_9 ?_
    obtain ⟨r_37, r_39, r_41, v_43, v_44, v_45, at_47, h_38, h_40, h_42, h_46⟩ := gF_o3 hG h_4
    refine va_get (D := D) (ci := 3) (v := .int v_45) (C := RX4) (T := TX4) (N := 6) hx hb hts in4 hown hK (va_one at_47) 0 rfl rfl 5 (by decide) (hts (.fieldLink RX9 333 "RiverModel$Model" "gates" "I") (List.mem_of_getElem? (i := 3) rfl)) (fun _ h9 => h9) rfl dX9_lacksGate_12 ?_
    refine lv_icmp_lt (tgt := 22) hx hb dX9_lacksGate_15 (by decide) (fun c_48 => ?_) (fun c_48 => ?_)
    · skip
      have c_48 : a1.toInt < v_45.toInt := q_lt c_48
      refine lv_iconst (v := 0) hx hb dX9_lacksGate_22 (by decide) ?_
      exact ty_zret hx hb hr hlk rfl hG hS (by decide) dX9_lacksGate_23
    · skip
      have c_48 : v_45.toInt ≤ a1.toInt := q_nlt c_48
      refine lv_iconst (v := 1) hx hb dX9_lacksGate_18 (by decide) ?_
      refine lv_goto (tgt := 23) hx hb dX9_lacksGate_19 (by decide) ?_
      refine lv_pc (pc2 := 23) rfl ?_
      exact ty_zret hx hb hr hlk rfl hG hS (by decide) dX9_lacksGate_23

def uX9_lacksGauge : List Cond := .code yX9_lacksGauge cX9_lacksGauge 2 (some .boolean) :: ([.fieldLink RX9 29 "RiverModel" "isBuilt" "Z", .fieldLink RX9 74 "RiverModel" "gauges" "LRiverModel$Gauges;", .methodLink RX9 346 yX1_isSet, .instanceMethod yX1_isSet, .selects RX1 yX1_isSet yX1_isSet, .initialized RX1, .code yX1_isSet cX1_isSet 2 (some .boolean), .fieldLink RX1 9 "RiverModel$Gauges" "whats" "[I"] ++ wsX90 ++ wsX10)
set_option maxRecDepth 20000 in
theorem gu_X9_lacksGauge_X1_isSet_346 : GoodIn uX9_lacksGauge (wsV RX9 346 RX1 yX1_isSet uX1_isSet) := goodIn_r _ [3, 4, 5, 6, 7, 8, 27, 28, 29, 30] rfl (by decide +kernel)
set_option maxHeartbeats 4000000 in
set_option maxRecDepth 100000 in
theorem s_X9_lacksGauge (l : Launch) (D : va_G) (t : Nat → Nat) (cI cL cC : ClassId) (gC : Int32) (gE : Int32) (G : Nat) (gW : Nat → Int32) (gA : Nat → Int32) (a0 : Nat) (a1 : Int32) (k_a0 : t a0 = 1) : tM l yX9_lacksGauge uX9_lacksGauge 1 21 D (gF cI cL cC gC gE G gW gA) (gF cI cL cC gC gE G gW gA) t cI cL cC [.ref a0, .int a1] wr0 (pI (fun r => r = 0 ∨ r = 1)) := by
  refine tM.ofW (cc := cX9_lacksGauge) (maxL := 2) (ret := (some .boolean)) (by decide) rfl (Nat.le_of_ble_eq_true rfl) ?_
  intro p e s m below meth c hx hb hr hml hown hts hlk H locs hG hK hE hS ls hl
  have hl : lv_has ls 2 [(0, .ref a0), (1, .int a1)] := hl
  have in9 : ∀ w ∈ wsX90, w ∈ uX9_lacksGauge := fun w h => List.mem_cons_of_mem _ (List.mem_append_left _ (List.mem_append_right _ h))
  refine lv_aload_n hx hb dX9_lacksGauge_0 rfl (lv_at hl 0 rfl) ?_
  obtain ⟨r_1, r_3, r_5, r_7, v_9, v_10, r_11, r_13, r_15, r_17, r_19, r_21, r_23, v_25, r_27, r_29, r_31, r_33, at_35, h_2, h_4, h_6, h_8, h_12, h_14, h_16, h_18, h_20, h_22, h_24, h_26, h_28, h_30, h_32, h_34⟩ := gF_o1 hG k_a0
  refine va_get (D := D) (ci := 8) (v := .int v_9) (C := RX9) (T := TX9) (N := 18) hx hb hts in9 hown hK (va_one at_35) 0 rfl rfl 4 (by decide) (hts (.fieldLink RX9 29 "RiverModel" "isBuilt" "Z") (List.mem_of_getElem? (i := 1) rfl)) (fun _ h9 => h9) rfl dX9_lacksGauge_1 ?_
  refine lv_if_eq (tgt := 18) hx hb dX9_lacksGauge_4 (by decide) (fun c_36 => ?_) (fun c_36 => ?_)
  · skip
    have c_36 : v_9.toInt = 0 := q_eq c_36
    refine lv_iconst (v := 1) hx hb dX9_lacksGauge_18 (by decide) ?_
    refine lv_goto (tgt := 23) hx hb dX9_lacksGauge_19 (by decide) ?_
    exact ty_zret hx hb hr hlk rfl hG hS (by decide) dX9_lacksGauge_23
  · skip
    have c_36 : v_9.toInt ≠ 0 := q_ne c_36
    refine lv_aload_n hx hb dX9_lacksGauge_7 rfl (lv_at hl 0 rfl) ?_
    refine lv_pc (pc2 := 8) rfl ?_
    refine va_get (D := D) (ci := 8) (v := .ref r_27) (C := RX9) (T := TX9) (N := 18) hx hb hts in9 hown hK (va_one at_35) 0 rfl rfl 14 (by decide) (hts (.fieldLink RX9 74 "RiverModel" "gauges" "LRiverModel$Gauges;") (List.mem_of_getElem? (i := 2) rfl)) (fun _ h9 => h9) rfl dX9_lacksGauge_8 ?_
    refine lv_iload_n hx hb dX9_lacksGauge_11 rfl (lv_at hl 1 rfl) ?_
    obtain ⟨r_37, r_39, r_41, at_43, h_38, h_40, h_42⟩ := gF_o6 hG h_28
    refine ty_calli ((W.runV (As := [.int a1]) (rest := []) ⟨hx, hb, hml, hown, hts⟩ (s_X1_isSet l D t cI cL cC gC gE G gW gA r_27 a1 h_28) (cwV 1 hts gu_X9_lacksGauge_X1_isSet_346 rfl rfl rfl (by decide +kernel) ⟨Nat.le_of_ble_eq_true rfl, Nat.le_of_ble_eq_true rfl⟩) (tP_V hG hE at_43 rfl) rfl rfl hl.1 rfl (lv_room (Nat.le_of_ble_eq_true rfl)) dX9_lacksGauge_12 ⟨Nat.le_of_ble_eq_true rfl, Nat.le_of_ble_eq_true rfl⟩)) hS (fun _ h => h) (fun r_44 H locs hp_45 hG hS o_46 => ?_)
    have at_35 := va_at.keptC at_35 o_46 k_a0 rfl
    have at_43 := va_at.keptC at_43 o_46 h_28 rfl
    rcases hp_45 with ⟨rfl, hc_123, hc_124⟩ | ⟨rfl, _⟩
    · skip
      refine lv_if_ne (tgt := 22) hx hb dX9_lacksGauge_15 (by decide) (fun _ => ?_) (fun q => absurd q (by decide))
      refine lv_iconst (v := 0) hx hb dX9_lacksGauge_22 (by decide) ?_
      exact ty_zret hx hb hr hlk rfl hG hS (by decide) dX9_lacksGauge_23
    · skip
      refine lv_if_ne (tgt := 22) hx hb dX9_lacksGauge_15 (by decide) (fun q => absurd rfl q) (fun _ => ?_)
      refine lv_iconst (v := 1) hx hb dX9_lacksGauge_18 (by decide) ?_
      refine lv_pc (pc2 := 19) rfl ?_
      refine lv_goto (tgt := 23) hx hb dX9_lacksGauge_19 (by decide) ?_
      exact ty_zret hx hb hr hlk rfl hG hS (by decide) dX9_lacksGauge_23

def uX9_isBeyond : List Cond := .code yX9_isBeyond cX9_isBeyond 2 (some .boolean) :: ([.fieldLink RX9 53 "RiverModel" "now" "LRiverModel$Course;", .fieldLink RX9 144 "RiverModel$Course" "hours" "I"] ++ wsX90 ++ wsX00)
set_option maxHeartbeats 4000000 in
set_option maxRecDepth 100000 in
theorem s_X9_isBeyond (l : Launch) (D : va_G) (t : Nat → Nat) (cI cL cC : ClassId) (gC : Int32) (gE : Int32) (G : Nat) (gW : Nat → Int32) (gA : Nat → Int32) (a0 : Nat) (a1 : Int32) (k_a0 : t a0 = 1) : tM l yX9_isBeyond uX9_isBeyond 0 0 D (gF cI cL cC gC gE G gW gA) (gF cI cL cC gC gE G gW gA) t cI cL cC [.ref a0, .int a1] wr0 (pI (fun r => r = 0 ∨ r = 1)) := by
  refine tM.ofW (cc := cX9_isBeyond) (maxL := 2) (ret := (some .boolean)) (by decide) rfl (Nat.le_of_ble_eq_true rfl) ?_
  intro p e s m below meth c hx hb hr hml hown hts hlk H locs hG hK hE hS ls hl
  have hl : lv_has ls 2 [(0, .ref a0), (1, .int a1)] := hl
  have in9 : ∀ w ∈ wsX90, w ∈ uX9_isBeyond := fun w h => List.mem_cons_of_mem _ (List.mem_append_left _ (List.mem_append_right _ h))
  have in0 : ∀ w ∈ wsX00, w ∈ uX9_isBeyond := fun w h => List.mem_cons_of_mem _ (List.mem_append_right _ h)
  refine lv_aload_n hx hb dX9_isBeyond_0 rfl (lv_at hl 0 rfl) ?_
  obtain ⟨r_1, r_3, r_5, r_7, v_9, v_10, r_11, r_13, r_15, r_17, r_19, r_21, r_23, v_25, r_27, r_29, r_31, r_33, at_35, h_2, h_4, h_6, h_8, h_12, h_14, h_16, h_18, h_20, h_22, h_24, h_26, h_28, h_30, h_32, h_34⟩ := gF_o1 hG k_a0
  refine va_get (D := D) (ci := 8) (v := .ref r_17) (C := RX9) (T := TX9) (N := 18) hx hb hts in9 hown hK (va_one at_35) 0 rfl rfl 9 (by decide) (hts (.fieldLink RX9 53 "RiverModel" "now" "LRiverModel$Course;") (List.mem_of_getElem? (i := 1) rfl)) (fun _ h9 => h9) rfl dX9_isBeyond_1 ?_
  obtain ⟨r_36, r_38, r_40, r_42, v_44, v_45, v_46, v_47, at_49, h_37, h_39, h_41, h_43, h_48⟩ := gF_o5 hG h_18
  refine va_get (D := D) (ci := 0) (v := .int v_47) (C := RX0) (T := TX0) (N := 8) hx hb hts in0 hown hK (va_one at_49) 0 rfl rfl 7 (by decide) (hts (.fieldLink RX9 144 "RiverModel$Course" "hours" "I") (List.mem_of_getElem? (i := 2) rfl)) (fun _ h9 => h9) rfl dX9_isBeyond_4 ?_
  refine lv_iload_n hx hb dX9_isBeyond_7 rfl (lv_at hl 1 rfl) ?_
  refine lv_iadd hx hb dX9_isBeyond_8 ?_
  refine lv_topi (fun x_50 e_51 => ?_)
  refine lv_bipush (v := 96) hx hb dX9_isBeyond_9 (by decide) ?_
  refine lv_icmp_le (tgt := 18) hx hb dX9_isBeyond_11 (by decide) (fun c_52 => ?_) (fun c_52 => ?_)
  · skip
    have c_52 : x_50.toInt ≤ 96 := q_le c_52
    refine lv_pc (pc2 := 18) rfl ?_
    refine lv_iconst (v := 0) hx hb dX9_isBeyond_18 (by decide) ?_
    exact ty_zret hx hb hr hlk rfl hG hS (by decide) dX9_isBeyond_19
  · skip
    have c_52 : 96 < x_50.toInt := q_nle c_52
    refine lv_iconst (v := 1) hx hb dX9_isBeyond_14 (by decide) ?_
    refine lv_goto (tgt := 19) hx hb dX9_isBeyond_15 (by decide) ?_
    exact ty_zret hx hb hr hlk rfl hG hS (by decide) dX9_isBeyond_19

def uX9_peakAhead : List Cond := .code yX9_peakAhead cX9_peakAhead 9 (some .long) :: ([.fieldLink RX9 57 "RiverModel" "trial" "LRiverModel$Course;", .fieldLink RX9 53 "RiverModel" "now" "LRiverModel$Course;", .methodLink RX9 330 yX0_copyFrom, .instanceMethod yX0_copyFrom, .selects RX0 yX0_copyFrom yX0_copyFrom, .initialized RX0, .fieldLink RX9 144 "RiverModel$Course" "hours" "I", .fieldLink RX9 88 "RiverModel" "worlds" "LRiverModel$Worlds;", .methodLink RX9 371 yX8_rainAhead, .instanceMethod yX8_rainAhead, .selects RX8 yX8_rainAhead yX8_rainAhead, .initialized RX8, .fieldLink RX9 19 "RiverModel" "model" "LRiverModel$Model;", .fieldLink RX9 39 "RiverModel" "skyA" "LRiverModel$Sky;", .methodLink RX9 360 yX6_tempIn, .instanceMethod yX6_tempIn, .selects RX6 yX6_tempIn yX6_tempIn, .initialized RX6, .methodLink RX9 363 yX0_goHour, .instanceMethod yX0_goHour, .selects RX0 yX0_goHour yX0_goHour, .fieldLink RX9 74 "RiverModel" "gauges" "LRiverModel$Gauges;", .methodLink RX9 215 yX1_reading, .instanceMethod yX1_reading, .selects RX1 yX1_reading yX1_reading, .initialized RX1, .methodLink RX9 374 Lib.MathLoose.max_long.x, .static Lib.MathLoose.max_long.x, .initialized "java/lang/Math", .code Lib.MathLoose.max_long.x Lib.MathLoose.max_long.code 4 (some .long), .methodLink RX9 357 yX6_rainIn, .instanceMethod yX6_rainIn, .selects RX6 yX6_rainIn yX6_rainIn, .code yX0_copyFrom cX0_copyFrom 2 none, .fieldLink RX0 9 "RiverModel$Course" "held" "[J", .methodLink RX0 54 arraycopyName, .native arraycopyName, .static arraycopyName, .initialized "java/lang/System", .fieldLink RX0 15 "RiverModel$Course" "moved" "[J", .fieldLink RX0 18 "RiverModel$Course" "openings" "[I", .fieldLink RX0 22 "RiverModel$Course" "due" "[J", .fieldLink RX0 25 "RiverModel$Course" "rained" "J", .fieldLink RX0 29 "RiverModel$Course" "air" "J", .fieldLink RX0 32 "RiverModel$Course" "sea" "J", .fieldLink RX0 35 "RiverModel$Course" "hours" "I", .code yX8_rainAhead cX8_rainAhead 3 (some .int), .initialized RX9, .static yX9_isNoWorld, .static yX9_isOutside, .fieldLink RX8 18 "RiverModel$Worlds" "rains" "[I", .code yX9_isNoWorld cX9_isNoWorld 1 (some .boolean), .code yX9_isOutside cX9_isOutside 3 (some .boolean), .code yX6_tempIn cX6_tempIn 2 (some .int), .fieldLink RX6 15 "RiverModel$Sky" "temps" "[I", .code yX0_goHour cX0_goHour 7 none, .methodLink RX0 72 yX0_bringDue, .instanceMethod yX0_bringDue, .selects RX0 yX0_bringDue yX0_bringDue, .fieldLink RX0 75 "RiverModel$Model" "many" "I", .methodLink RX0 78 yX0_amountOf, .instanceMethod yX0_amountOf, .selects RX0 yX0_amountOf yX0_amountOf, .methodLink RX0 82 yX0_move, .instanceMethod yX0_move, .selects RX0 yX0_move yX0_move, .code yX0_bringDue cX0_bringDue 3 none, .code yX0_amountOf cX0_amountOf 11 (some .long), .methodLink RX0 86 yX4_cell, .instanceMethod yX4_cell, .selects RX4 yX4_cell yX4_cell, .initialized RX4, .static yX9_isNoStore, .methodLink RX0 110 yX4_gateOf, .instanceMethod yX4_gateOf, .selects RX4 yX4_gateOf yX4_gateOf, .methodLink RX0 113 yX0_openingOf, .instanceMethod yX0_openingOf, .selects RX0 yX0_openingOf yX0_openingOf, .methodLink RX0 107 Lib.MathLoose.min_long.x, .static Lib.MathLoose.min_long.x, .code Lib.MathLoose.min_long.x Lib.MathLoose.min_long.code 4 (some .long), .methodLink RX0 94 yX0_leakOf, .static yX0_leakOf, .constantLong RX0 117 (100), .methodLink RX0 98 yX4_capacityOf, .instanceMethod yX4_capacityOf, .selects RX4 yX4_capacityOf yX4_capacityOf, .methodLink RX0 101 Lib.MathLoose.max_long.x, .constantLong RX0 119 (10), .code yX4_cell cX4_cell 3 (some .int), .fieldLink RX4 9 "RiverModel$Model" "cells" "[I", .code yX9_isNoStore cX9_isNoStore 1 (some .boolean), .code yX4_gateOf cX4_gateOf 3 (some .int), .fieldLink RX4 28 "RiverModel$Model" "gates" "I", .fieldLink RX4 18 "RiverModel$Model" "gateItems" "[I", .code yX0_openingOf cX0_openingOf 2 (some .long), .static yX9_isNoGate, .code yX9_isNoGate cX9_isNoGate 1 (some .boolean), .code yX0_leakOf cX0_leakOf 8 (some .long), .code yX4_capacityOf cX4_capacityOf 2 (some .int), .methodLink RX4 66 yX4_hasStore, .instanceMethod yX4_hasStore, .selects RX4 yX4_hasStore yX4_hasStore, .fieldLink RX4 15 "RiverModel$Model" "storeItems" "[I", .methodLink RX4 73 yX4_cell, .code yX4_hasStore cX4_hasStore 2 (some .boolean), .code yX0_move cX0_move 8 none, .methodLink RX0 124 yX0_send, .instanceMethod yX0_send, .selects RX0 yX0_send yX0_send, .code yX0_send cX0_send 5 none, .code yX1_reading cX1_reading 4 (some .long), .methodLink RX1 35 yX1_isSet, .instanceMethod yX1_isSet, .selects RX1 yX1_isSet yX1_isSet, .fieldLink RX1 15 "RiverModel$Gauges" "places" "[I", .fieldLink RX1 9 "RiverModel$Gauges" "whats" "[I", .fieldLink RX1 50 "RiverModel$Course" "held" "[J", .static yX9_isNoItem, .fieldLink RX1 41 "RiverModel$Course" "moved" "[J", .code yX1_isSet cX1_isSet 2 (some .boolean), .code yX9_isNoItem cX9_isNoItem 1 (some .boolean), .code yX6_rainIn cX6_rainIn 2 (some .int), .fieldLink RX6 9 "RiverModel$Sky" "rains" "[I"] ++ wsX90 ++ wsX00 ++ wsX80 ++ wsX60 ++ wsX40 ++ wsX10)
set_option maxRecDepth 20000 in
theorem gu_X9_peakAhead_X0_copyFrom_330 : GoodIn uX9_peakAhead (wsV RX9 330 RX0 yX0_copyFrom uX0_copyFrom) := goodIn_r _ [3, 4, 5, 6, 34, 35, 36, 37, 38, 39, 40, 41, 42, 43, 44, 45, 46, 144, 145, 146, 147, 148, 149, 150, 151] rfl (by decide +kernel)
set_option maxRecDepth 20000 in
theorem gu_X9_peakAhead_X8_rainAhead_371 : GoodIn uX9_peakAhead (wsV RX9 371 RX8 yX8_rainAhead uX8_rainAhead) := goodIn_r _ [9, 10, 11, 12, 47, 48, 49, 50, 51, 52, 53, 152, 153, 154] rfl (by decide +kernel)
set_option maxRecDepth 20000 in
theorem gu_X9_peakAhead_X6_tempIn_360 : GoodIn uX9_peakAhead (wsV RX9 360 RX6 yX6_tempIn uX6_tempIn) := goodIn_r _ [15, 16, 17, 18, 54, 48, 50, 55, 53, 155, 156] rfl (by decide +kernel)
set_option maxRecDepth 20000 in
theorem gu_X9_peakAhead_X0_goHour_363 : GoodIn uX9_peakAhead (wsV RX9 363 RX0 yX0_goHour uX0_goHour) := goodIn_r _ [19, 20, 21, 6, 56, 57, 58, 59, 6, 46, 60, 61, 62, 63, 40, 64, 65, 66, 67, 35, 42, 68, 69, 70, 71, 72, 48, 73, 74, 75, 76, 77, 78, 79, 80, 81, 29, 82, 83, 84, 85, 86, 87, 88, 89, 28, 30, 90, 91, 92, 93, 94, 95, 96, 97, 98, 41, 99, 100, 101, 102, 103, 104, 105, 106, 107, 108, 43, 109, 110, 111, 45, 44, 112, 50, 53, 144, 145, 146, 147, 148, 149, 150, 151, 157, 158, 159, 160, 161, 162] rfl (by decide +kernel)
set_option maxRecDepth 20000 in
theorem gu_X9_peakAhead_X1_reading_215 : GoodIn uX9_peakAhead (wsV RX9 215 RX1 yX1_reading uX1_reading) := goodIn_r _ [23, 24, 25, 26, 113, 114, 115, 116, 26, 117, 118, 48, 73, 119, 120, 121, 122, 93, 123, 163, 164, 165, 166, 144, 145, 146, 147, 148, 149, 150, 151] rfl (by decide +kernel)
set_option maxRecDepth 20000 in
theorem gu_X9_peakAhead_X6_rainIn_357 : GoodIn uX9_peakAhead (wsV RX9 357 RX6 yX6_rainIn uX6_rainIn) := goodIn_r _ [31, 32, 33, 18, 124, 48, 50, 125, 53, 155, 156] rfl (by decide +kernel)
set_option maxHeartbeats 4000000 in
set_option maxRecDepth 100000 in
theorem s_X9_peakAhead (l : Launch) (D : va_G) (t : Nat → Nat) (cI cL cC : ClassId) (gC : Int32) (gE : Int32) (G : Nat) (gW : Nat → Int32) (gA : Nat → Int32) (a0 : Nat) (a1 : Int32) (a2 : Int32) (a3 : Int32) (h24 : a2.toInt ≤ 24) (hGb : G ≤ 190000000) (k_a0 : t a0 = 1) : tM l yX9_peakAhead uX9_peakAhead 4 99 D (gF cI cL cC gC gE G gW gA) (gF cI cL cC gC gE (G + 24) gW gA) t cI cL cC [.ref a0, .int a1, .int a2, .int a3] wrC (pL (fun r => True)) := by
  refine tM.ofW (cc := cX9_peakAhead) (maxL := 9) (ret := (some .long)) (by decide) rfl (Nat.le_of_ble_eq_true rfl) ?_
  intro p e s m below meth c hx hb hr hml hown hts hlk H locs hG hK hE hS ls hl
  have hl : lv_has ls 9 [(0, .ref a0), (1, .int a1), (2, .int a2), (3, .int a3)] := hl
  have in9 : ∀ w ∈ wsX90, w ∈ uX9_peakAhead := fun w h => List.mem_cons_of_mem _ (List.mem_append_left _ (List.mem_append_left _ (List.mem_append_left _ (List.mem_append_left _ (List.mem_append_left _ (List.mem_append_right _ h))))))
  have in0 : ∀ w ∈ wsX00, w ∈ uX9_peakAhead := fun w h => List.mem_cons_of_mem _ (List.mem_append_left _ (List.mem_append_left _ (List.mem_append_left _ (List.mem_append_left _ (List.mem_append_right _ h)))))
  refine lv_aload_n hx hb dX9_peakAhead_0 rfl (lv_at hl 0 rfl) ?_
  obtain ⟨r_1, r_3, r_5, r_7, v_9, v_10, r_11, r_13, r_15, r_17, r_19, r_21, r_23, v_25, r_27, r_29, r_31, r_33, at_35, h_2, h_4, h_6, h_8, h_12, h_14, h_16, h_18, h_20, h_22, h_24, h_26, h_28, h_30, h_32, h_34⟩ := gF_o1 hG k_a0
  refine va_get (D := D) (ci := 8) (v := .ref r_19) (C := RX9) (T := TX9) (N := 18) hx hb hts in9 hown hK (va_one at_35) 0 rfl rfl 10 (by decide) (hts (.fieldLink RX9 57 "RiverModel" "trial" "LRiverModel$Course;") (List.mem_of_getElem? (i := 1) rfl)) (fun _ h9 => h9) rfl dX9_peakAhead_1 ?_
  refine lv_aload_n hx hb dX9_peakAhead_4 rfl (lv_at hl 0 rfl) ?_
  refine va_get (D := D) (ci := 8) (v := .ref r_17) (C := RX9) (T := TX9) (N := 18) hx hb hts in9 hown hK (va_one at_35) 0 rfl rfl 9 (by decide) (hts (.fieldLink RX9 53 "RiverModel" "now" "LRiverModel$Course;") (List.mem_of_getElem? (i := 2) rfl)) (fun _ h9 => h9) rfl dX9_peakAhead_5 ?_
  obtain ⟨r_36, r_38, r_40, r_42, v_44, v_45, v_46, v_47, at_49, h_37, h_39, h_41, h_43, h_48⟩ := gF_o5 hG h_20
  refine ty_callv ((W.runV (As := [.ref r_17]) (rest := []) ⟨hx, hb, hml, hown, hts⟩ (s_X0_copyFrom l D t cI cL cC gC gE G gW gA r_19 r_17 h_20 h_18) (cwV 1 hts gu_X9_peakAhead_X0_copyFrom_330 rfl rfl rfl (by decide +kernel) ⟨Nat.le_of_ble_eq_true rfl, Nat.le_of_ble_eq_true rfl⟩) (tP_V hG hE at_49 rfl) rfl rfl hl.1 rfl (lv_room (Nat.le_of_ble_eq_true rfl)) dX9_peakAhead_8 ⟨Nat.le_of_ble_eq_true rfl, Nat.le_of_ble_eq_true rfl⟩)) hS (fun _ h => h) (fun H locs hp_51 hG hS o_52 => ?_)
  have at_35 := va_at.keptC at_35 o_52 k_a0 rfl
  refine lv_lconst (v := 0) hx hb dX9_peakAhead_11 (by decide) ?_
  refine lv_lstore (lv' := [(4, .long 0), (0, .ref a0), (1, .int a1), (2, .int a2), (3, .int a3)]) hx hb dX9_peakAhead_12 hl (by decide) rfl (fun ls hl => ?_)
  refine lv_pc (pc2 := 14) rfl ?_
  refine lv_iconst (v := 0) hx hb dX9_peakAhead_14 (by decide) ?_
  refine lv_istore (lv' := [(6, .int 0), (4, .long 0), (0, .ref a0), (1, .int a1), (2, .int a2), (3, .int a3)]) hx hb dX9_peakAhead_15 hl (by decide) rfl (fun ls hl => ?_)
  refine lv_pc (pc2 := 17) rfl ?_
  refine lp_gen (fun WW hWW => ?_)
  have kx : ∀ (ya : Int32) (yg : Int64) (g : Nat) (H1 : Heap) (locs1 : List Loc) (ls1 : Array Slot), 0 ≤ ya.toInt → ya.toInt ≤ 24 → (g : Int) + (24 - ya.toInt) ≤ (G : Int) + 24 → tG D (gF cI cL cC gC gE g gW gA) t H1 → tF t wrC s.heap H1 locs1 → lv_has ls1 9 [(6, .int ya), (4, .long yg), (0, .ref a0), (1, .int a1), (2, .int a2), (3, .int a3)] → WW H1 locs1 (F0 m 107 ls1 []) := by
    intro ya yg g H locs ls v0 v1 v2 hG hS hl
    refine (hWW _ _ _).mpr ?_
    refine lv_lload hx hb dX9_peakAhead_107 (lv_at hl 1 rfl) ?_
    exact ty_lret hx hb hr hlk (hG.weak (fun _ _ => gF_mono (by omega))) hS True.intro dX9_peakAhead_109
  have loop : ∀ (k : Nat) (ya : Int32) (yg : Int64) (g : Nat) (H1 : Heap) (locs1 : List Loc) (ls1 : Array Slot), 24 - ya.toInt ≤ (k : Int) → 0 ≤ ya.toInt → ya.toInt ≤ 24 → (g : Int) + (24 - ya.toInt) ≤ (G : Int) + 24 → tG D (gF cI cL cC gC gE g gW gA) t H1 → tF t wrC s.heap H1 locs1 → lv_has ls1 9 [(6, .int ya), (4, .long yg), (0, .ref a0), (1, .int a1), (2, .int a2), (3, .int a3)] → WW H1 locs1 (F0 m 17 ls1 []) := by
    intro k
    induction k with
    | zero =>
      intro ya yg g H locs ls hk v0 v1 v2 hG hS hl
      refine (hWW _ _ _).mpr ?_
      refine lv_iload hx hb dX9_peakAhead_17 (lv_at hl 0 rfl) ?_
      refine lv_iload_n hx hb dX9_peakAhead_19 rfl (lv_at hl 4 rfl) ?_
      refine lv_icmp_ge (tgt := 107) hx hb dX9_peakAhead_20 (by decide) (fun c_53 => ?_) (fun c_53 => ?_)
      · skip
        have c_53 : a2.toInt ≤ ya.toInt := q_le c_53
        exact (hWW _ _ _).mp (kx ya yg g H locs ls (by omega) (by omega) (by omega) hG hS (lv_sub hl [0, 1, 2, 3, 4, 5] rfl))
      · skip
        have c_53 : ya.toInt < a2.toInt := q_nle c_53
        refine lv_aload_n hx hb dX9_peakAhead_23 rfl (lv_at hl 2 rfl) ?_
        refine lv_pc (pc2 := 24) rfl ?_
        obtain ⟨r_54, r_56, r_58, r_60, v_62, v_63, r_64, r_66, r_68, r_70, r_72, r_74, r_76, v_78, r_80, r_82, r_84, r_86, at_88, h_55, h_57, h_59, h_61, h_65, h_67, h_69, h_71, h_73, h_75, h_77, h_79, h_81, h_83, h_85, h_87⟩ := gF_o1 hG k_a0
        refine va_get (D := D) (ci := 8) (v := .ref r_72) (C := RX9) (T := TX9) (N := 18) hx hb hts in9 hown hK (va_one at_88) 0 rfl rfl 10 (by decide) (hts (.fieldLink RX9 57 "RiverModel" "trial" "LRiverModel$Course;") (List.mem_of_getElem? (i := 1) rfl)) (fun _ h9 => h9) rfl dX9_peakAhead_24 ?_
        obtain ⟨r_89, r_91, r_93, r_95, v_97, v_98, v_99, v_100, at_102, h_90, h_92, h_94, h_96, h_101⟩ := gF_o5 hG h_73
        refine va_get (D := D) (ci := 0) (v := .int v_100) (C := RX0) (T := TX0) (N := 8) hx hb hts in0 hown hK (va_one at_102) 0 rfl rfl 7 (by decide) (hts (.fieldLink RX9 144 "RiverModel$Course" "hours" "I") (List.mem_of_getElem? (i := 7) rfl)) (fun _ h9 => h9) rfl dX9_peakAhead_27 ?_
        refine lv_istore (lv' := [(7, .int v_100), (6, .int ya), (4, .long yg), (0, .ref a0), (1, .int a1), (2, .int a2), (3, .int a3)]) hx hb dX9_peakAhead_30 hl (by decide) rfl (fun ls hl => ?_)
        refine lv_iload_n hx hb dX9_peakAhead_32 rfl (lv_at hl 6 rfl) ?_
        refine lv_if_ge (tgt := 48) hx hb dX9_peakAhead_33 (by decide) (fun c_103 => ?_) (fun c_103 => ?_)
        · skip
          have c_103 : 0 ≤ a3.toInt := q_le c_103
          refine lv_aload_n hx hb dX9_peakAhead_48 rfl (lv_at hl 3 rfl) ?_
          refine va_get (D := D) (ci := 8) (v := .ref r_84) (C := RX9) (T := TX9) (N := 18) hx hb hts in9 hown hK (va_one at_88) 0 rfl rfl 16 (by decide) (hts (.fieldLink RX9 88 "RiverModel" "worlds" "LRiverModel$Worlds;") (List.mem_of_getElem? (i := 8) rfl)) (fun _ h9 => h9) rfl dX9_peakAhead_49 ?_
          refine lv_iload_n hx hb dX9_peakAhead_52 rfl (lv_at hl 6 rfl) ?_
          refine lv_pc (pc2 := 53) rfl ?_
          refine lv_iload hx hb dX9_peakAhead_53 (lv_at hl 1 rfl) ?_
          obtain ⟨r_104, r_106, r_108, at_110, h_105, h_107, h_109⟩ := gF_o8 hG h_85
          refine ty_calli ((W.runV (As := [.int a3, .int ya]) (rest := []) ⟨hx, hb, hml, hown, hts⟩ (s_X8_rainAhead l D t cI cL cC gC gE g gW gA r_84 a3 ya h_85) (cwV 2 hts gu_X9_peakAhead_X8_rainAhead_371 rfl rfl rfl (by decide +kernel) ⟨Nat.le_of_ble_eq_true rfl, Nat.le_of_ble_eq_true rfl⟩) (tP_V hG hE at_110 rfl) rfl rfl hl.1 rfl (lv_room (Nat.le_of_ble_eq_true rfl)) dX9_peakAhead_55 ⟨Nat.le_of_ble_eq_true rfl, Nat.le_of_ble_eq_true rfl⟩)) hS (fun k h => by simp [wr0] at h) (fun r_111 H locs hp_112 hG hS o_113 => ?_)
          have at_88 := va_at.keptC at_88 o_113 k_a0 rfl
          have at_102 := va_at.keptC at_102 o_113 h_73 rfl
          have at_110 := va_at.keptC at_110 o_113 h_85 rfl
          refine lv_istore (lv' := [(8, .int r_111), (7, .int v_100), (6, .int ya), (4, .long yg), (0, .ref a0), (1, .int a1), (2, .int a2), (3, .int a3)]) hx hb dX9_peakAhead_58 hl (by decide) rfl (fun ls hl => ?_)
          refine lv_aload_n hx hb dX9_peakAhead_60 rfl (lv_at hl 4 rfl) ?_
          refine va_get (D := D) (ci := 8) (v := .ref r_72) (C := RX9) (T := TX9) (N := 18) hx hb hts in9 hown hK (va_one at_88) 0 rfl rfl 10 (by decide) (hts (.fieldLink RX9 57 "RiverModel" "trial" "LRiverModel$Course;") (List.mem_of_getElem? (i := 1) rfl)) (fun _ h9 => h9) rfl dX9_peakAhead_61 ?_
          refine lv_aload_n hx hb dX9_peakAhead_64 rfl (lv_at hl 4 rfl) ?_
          refine va_get (D := D) (ci := 8) (v := .ref r_56) (C := RX9) (T := TX9) (N := 18) hx hb hts in9 hown hK (va_one at_88) 0 rfl rfl 1 (by decide) (hts (.fieldLink RX9 19 "RiverModel" "model" "LRiverModel$Model;") (List.mem_of_getElem? (i := 13) rfl)) (fun _ h9 => h9) rfl dX9_peakAhead_65 ?_
          refine lv_iload hx hb dX9_peakAhead_68 (lv_at hl 0 rfl) ?_
          refine lv_pc (pc2 := 70) rfl ?_
          refine lv_aload_n hx hb dX9_peakAhead_70 rfl (lv_at hl 4 rfl) ?_
          refine va_get (D := D) (ci := 8) (v := .ref r_64) (C := RX9) (T := TX9) (N := 18) hx hb hts in9 hown hK (va_one at_88) 0 rfl rfl 6 (by decide) (hts (.fieldLink RX9 39 "RiverModel" "skyA" "LRiverModel$Sky;") (List.mem_of_getElem? (i := 14) rfl)) (fun _ h9 => h9) rfl dX9_peakAhead_71 ?_
          refine lv_iload hx hb dX9_peakAhead_74 (lv_at hl 1 rfl) ?_
          obtain ⟨r_114, r_116, at_118, h_115, h_117⟩ := gF_o4 hG h_65
          refine ty_calli ((W.runV (As := [.int v_100]) (rest := [.int r_111, .ref r_56, .ref r_72]) ⟨hx, hb, hml, hown, hts⟩ (s_X6_tempIn l D t cI cL cC gC gE g gW gA r_64 v_100 h_65) (cwV 1 hts gu_X9_peakAhead_X6_tempIn_360 rfl rfl rfl (by decide +kernel) ⟨Nat.le_of_ble_eq_true rfl, Nat.le_of_ble_eq_true rfl⟩) (tP_V hG hE at_118 rfl) rfl rfl hl.1 rfl (lv_room (Nat.le_of_ble_eq_true rfl)) dX9_peakAhead_76 ⟨Nat.le_of_ble_eq_true rfl, Nat.le_of_ble_eq_true rfl⟩)) hS (fun k h => by simp [wr0] at h) (fun r_119 H locs hp_120 hG hS o_121 => ?_)
          have at_88 := va_at.keptC at_88 o_121 k_a0 rfl
          have at_102 := va_at.keptC at_102 o_121 h_73 rfl
          have at_110 := va_at.keptC at_110 o_121 h_85 rfl
          have at_118 := va_at.keptC at_118 o_121 h_65 rfl
          refine ty_callv ((W.runV (As := [.ref r_56, .int r_111, .int r_119]) (rest := []) ⟨hx, hb, hml, hown, hts⟩ (s_X0_goHour l D t cI cL cC gC gE g gW gA r_72 r_56 r_111 r_119 (by omega) h_73 h_57) (cwV 3 hts gu_X9_peakAhead_X0_goHour_363 rfl rfl rfl (by decide +kernel) ⟨Nat.le_of_ble_eq_true rfl, Nat.le_of_ble_eq_true rfl⟩) (tP_V hG hE at_102 rfl) rfl rfl hl.1 rfl (lv_room (Nat.le_of_ble_eq_true rfl)) dX9_peakAhead_79 ⟨Nat.le_of_ble_eq_true rfl, Nat.le_of_ble_eq_true rfl⟩)) hS (fun _ h => h) (fun H locs hp_123 hG hS o_124 => ?_)
          have at_88 := va_at.keptC at_88 o_124 k_a0 rfl
          have at_110 := va_at.keptC at_110 o_124 h_85 rfl
          have at_118 := va_at.keptC at_118 o_124 h_65 rfl
          refine lv_lload hx hb dX9_peakAhead_82 (lv_at hl 3 rfl) ?_
          refine lv_aload_n hx hb dX9_peakAhead_84 rfl (lv_at hl 4 rfl) ?_
          refine va_get (D := D) (ci := 8) (v := .ref r_80) (C := RX9) (T := TX9) (N := 18) hx hb hts in9 hown hK (va_one at_88) 0 rfl rfl 14 (by decide) (hts (.fieldLink RX9 74 "RiverModel" "gauges" "LRiverModel$Gauges;") (List.mem_of_getElem? (i := 22) rfl)) (fun _ h9 => h9) rfl dX9_peakAhead_85 ?_
          refine lv_pc (pc2 := 88) rfl ?_
          refine lv_aload_n hx hb dX9_peakAhead_88 rfl (lv_at hl 4 rfl) ?_
          refine va_get (D := D) (ci := 8) (v := .ref r_72) (C := RX9) (T := TX9) (N := 18) hx hb hts in9 hown hK (va_one at_88) 0 rfl rfl 10 (by decide) (hts (.fieldLink RX9 57 "RiverModel" "trial" "LRiverModel$Course;") (List.mem_of_getElem? (i := 1) rfl)) (fun _ h9 => h9) rfl dX9_peakAhead_89 ?_
          refine lv_iload_n hx hb dX9_peakAhead_92 rfl (lv_at hl 5 rfl) ?_
          obtain ⟨r_125, r_127, r_129, at_131, h_126, h_128, h_130⟩ := gF_o6 hG h_81
          refine ty_calll ((W.runV (As := [.ref r_72, .int a1]) (rest := [.long yg]) ⟨hx, hb, hml, hown, hts⟩ (s_X1_reading l D t cI cL cC gC gE (g + 1) gW gA r_80 r_72 a1 h_81 h_73) (cwV 2 hts gu_X9_peakAhead_X1_reading_215 rfl rfl rfl (by decide +kernel) ⟨Nat.le_of_ble_eq_true rfl, Nat.le_of_ble_eq_true rfl⟩) (tP_V hG hE at_131 rfl) rfl rfl hl.1 rfl (lv_room (Nat.le_of_ble_eq_true rfl)) dX9_peakAhead_93 ⟨Nat.le_of_ble_eq_true rfl, Nat.le_of_ble_eq_true rfl⟩)) hS (fun k h => by simp [wr0] at h) (fun z_132 H locs hp_133 hG hS o_134 => ?_)
          have at_88 := va_at.keptC at_88 o_134 k_a0 rfl
          have at_110 := va_at.keptC at_110 o_134 h_85 rfl
          have at_118 := va_at.keptC at_118 o_134 h_65 rfl
          have at_131 := va_at.keptC at_131 o_134 h_81 rfl
          refine va_mmax_long hx hb (by rw [hml]; exact hl.1.symm) hown (hts (.methodLink RX9 374 Lib.MathLoose.max_long.x) (List.mem_of_getElem? (i := 27) rfl)) (hts (.static Lib.MathLoose.max_long.x) (List.mem_of_getElem? (i := 28) rfl)) (hts (.initialized "java/lang/Math") (List.mem_of_getElem? (i := 29) rfl)) (hts (.code Lib.MathLoose.max_long.x Lib.MathLoose.max_long.code 4 (some .long)) (List.mem_of_getElem? (i := 30) rfl)) (Nat.le_of_ble_eq_true rfl) (Nat.le_of_ble_eq_true rfl) (Nat.zero_le _) (Nat.zero_le _) dX9_peakAhead_96 ?_
          refine lv_topl (fun z_135 e_136 => ?_)
          refine lv_lstore (lv' := [(4, .long z_135), (8, .int r_111), (7, .int v_100), (6, .int ya), (0, .ref a0), (1, .int a1), (2, .int a2), (3, .int a3)]) hx hb dX9_peakAhead_99 hl (by decide) rfl (fun ls hl => ?_)
          obtain ⟨x_137, e_138⟩ : ∃ y : Int32, y = ya + Int32.ofInt 1 := ⟨_, rfl⟩
          have i_x_137 : x_137.toInt = ya.toInt + 1 := by rw [e_138, show Int32.ofInt 1 = 1 by decide]; exact (q_add (by rw [show (1 : Int32).toInt = 1 by decide]; omega) (by rw [show (1 : Int32).toInt = 1 by decide]; omega)).trans (by rw [show (1 : Int32).toInt = 1 by decide])
          refine lv_iinc (v := x_137) (lv' := [(6, .int x_137), (4, .long z_135), (8, .int r_111), (7, .int v_100), (0, .ref a0), (1, .int a1), (2, .int a2), (3, .int a3)]) hx hb dX9_peakAhead_101 hl (k := 3) rfl e_138.symm (by decide) rfl (fun ls hl => ?_)
          refine lv_goto (tgt := 17) hx hb dX9_peakAhead_104 (by decide) ?_
          exfalso; omega
        · skip
          have c_103 : a3.toInt < 0 := q_nle c_103
          refine lv_pc (pc2 := 36) rfl ?_
          refine lv_aload_n hx hb dX9_peakAhead_36 rfl (lv_at hl 3 rfl) ?_
          refine va_get (D := D) (ci := 8) (v := .ref r_64) (C := RX9) (T := TX9) (N := 18) hx hb hts in9 hown hK (va_one at_88) 0 rfl rfl 6 (by decide) (hts (.fieldLink RX9 39 "RiverModel" "skyA" "LRiverModel$Sky;") (List.mem_of_getElem? (i := 14) rfl)) (fun _ h9 => h9) rfl dX9_peakAhead_37 ?_
          refine lv_iload hx hb dX9_peakAhead_40 (lv_at hl 0 rfl) ?_
          obtain ⟨r_139, r_141, at_143, h_140, h_142⟩ := gF_o4 hG h_65
          refine ty_calli ((W.runV (As := [.int v_100]) (rest := []) ⟨hx, hb, hml, hown, hts⟩ (s_X6_rainIn l D t cI cL cC gC gE g gW gA r_64 v_100 h_65) (cwV 1 hts gu_X9_peakAhead_X6_rainIn_357 rfl rfl rfl (by decide +kernel) ⟨Nat.le_of_ble_eq_true rfl, Nat.le_of_ble_eq_true rfl⟩) (tP_V hG hE at_143 rfl) rfl rfl hl.1 rfl (lv_room (Nat.le_of_ble_eq_true rfl)) dX9_peakAhead_42 ⟨Nat.le_of_ble_eq_true rfl, Nat.le_of_ble_eq_true rfl⟩)) hS (fun k h => by simp [wr0] at h) (fun r_144 H locs hp_145 hG hS o_146 => ?_)
          have at_88 := va_at.keptC at_88 o_146 k_a0 rfl
          have at_102 := va_at.keptC at_102 o_146 h_73 rfl
          have at_143 := va_at.keptC at_143 o_146 h_65 rfl
          refine lv_goto (tgt := 58) hx hb dX9_peakAhead_45 (by decide) ?_
          refine lv_istore (lv' := [(8, .int r_144), (7, .int v_100), (6, .int ya), (4, .long yg), (0, .ref a0), (1, .int a1), (2, .int a2), (3, .int a3)]) hx hb dX9_peakAhead_58 hl (by decide) rfl (fun ls hl => ?_)
          refine lv_aload_n hx hb dX9_peakAhead_60 rfl (lv_at hl 4 rfl) ?_
          refine va_get (D := D) (ci := 8) (v := .ref r_72) (C := RX9) (T := TX9) (N := 18) hx hb hts in9 hown hK (va_one at_88) 0 rfl rfl 10 (by decide) (hts (.fieldLink RX9 57 "RiverModel" "trial" "LRiverModel$Course;") (List.mem_of_getElem? (i := 1) rfl)) (fun _ h9 => h9) rfl dX9_peakAhead_61 ?_
          refine lv_pc (pc2 := 64) rfl ?_
          refine lv_aload_n hx hb dX9_peakAhead_64 rfl (lv_at hl 4 rfl) ?_
          refine va_get (D := D) (ci := 8) (v := .ref r_56) (C := RX9) (T := TX9) (N := 18) hx hb hts in9 hown hK (va_one at_88) 0 rfl rfl 1 (by decide) (hts (.fieldLink RX9 19 "RiverModel" "model" "LRiverModel$Model;") (List.mem_of_getElem? (i := 13) rfl)) (fun _ h9 => h9) rfl dX9_peakAhead_65 ?_
          refine lv_iload hx hb dX9_peakAhead_68 (lv_at hl 0 rfl) ?_
          refine lv_aload_n hx hb dX9_peakAhead_70 rfl (lv_at hl 4 rfl) ?_
          refine va_get (D := D) (ci := 8) (v := .ref r_64) (C := RX9) (T := TX9) (N := 18) hx hb hts in9 hown hK (va_one at_88) 0 rfl rfl 6 (by decide) (hts (.fieldLink RX9 39 "RiverModel" "skyA" "LRiverModel$Sky;") (List.mem_of_getElem? (i := 14) rfl)) (fun _ h9 => h9) rfl dX9_peakAhead_71 ?_
          refine lv_iload hx hb dX9_peakAhead_74 (lv_at hl 1 rfl) ?_
          refine ty_calli ((W.runV (As := [.int v_100]) (rest := [.int r_144, .ref r_56, .ref r_72]) ⟨hx, hb, hml, hown, hts⟩ (s_X6_tempIn l D t cI cL cC gC gE g gW gA r_64 v_100 h_65) (cwV 1 hts gu_X9_peakAhead_X6_tempIn_360 rfl rfl rfl (by decide +kernel) ⟨Nat.le_of_ble_eq_true rfl, Nat.le_of_ble_eq_true rfl⟩) (tP_V hG hE at_143 rfl) rfl rfl hl.1 rfl (lv_room (Nat.le_of_ble_eq_true rfl)) dX9_peakAhead_76 ⟨Nat.le_of_ble_eq_true rfl, Nat.le_of_ble_eq_true rfl⟩)) hS (fun k h => by simp [wr0] at h) (fun r_147 H locs hp_148 hG hS o_149 => ?_)
          have at_88 := va_at.keptC at_88 o_149 k_a0 rfl
          have at_102 := va_at.keptC at_102 o_149 h_73 rfl
          have at_143 := va_at.keptC at_143 o_149 h_65 rfl
          refine ty_callv ((W.runV (As := [.ref r_56, .int r_144, .int r_147]) (rest := []) ⟨hx, hb, hml, hown, hts⟩ (s_X0_goHour l D t cI cL cC gC gE g gW gA r_72 r_56 r_144 r_147 (by omega) h_73 h_57) (cwV 3 hts gu_X9_peakAhead_X0_goHour_363 rfl rfl rfl (by decide +kernel) ⟨Nat.le_of_ble_eq_true rfl, Nat.le_of_ble_eq_true rfl⟩) (tP_V hG hE at_102 rfl) rfl rfl hl.1 rfl (lv_room (Nat.le_of_ble_eq_true rfl)) dX9_peakAhead_79 ⟨Nat.le_of_ble_eq_true rfl, Nat.le_of_ble_eq_true rfl⟩)) hS (fun _ h => h) (fun H locs hp_151 hG hS o_152 => ?_)
          have at_88 := va_at.keptC at_88 o_152 k_a0 rfl
          have at_143 := va_at.keptC at_143 o_152 h_65 rfl
          refine lv_pc (pc2 := 82) rfl ?_
          refine lv_lload hx hb dX9_peakAhead_82 (lv_at hl 3 rfl) ?_
          refine lv_aload_n hx hb dX9_peakAhead_84 rfl (lv_at hl 4 rfl) ?_
          refine va_get (D := D) (ci := 8) (v := .ref r_80) (C := RX9) (T := TX9) (N := 18) hx hb hts in9 hown hK (va_one at_88) 0 rfl rfl 14 (by decide) (hts (.fieldLink RX9 74 "RiverModel" "gauges" "LRiverModel$Gauges;") (List.mem_of_getElem? (i := 22) rfl)) (fun _ h9 => h9) rfl dX9_peakAhead_85 ?_
          refine lv_aload_n hx hb dX9_peakAhead_88 rfl (lv_at hl 4 rfl) ?_
          refine va_get (D := D) (ci := 8) (v := .ref r_72) (C := RX9) (T := TX9) (N := 18) hx hb hts in9 hown hK (va_one at_88) 0 rfl rfl 10 (by decide) (hts (.fieldLink RX9 57 "RiverModel" "trial" "LRiverModel$Course;") (List.mem_of_getElem? (i := 1) rfl)) (fun _ h9 => h9) rfl dX9_peakAhead_89 ?_
          refine lv_iload_n hx hb dX9_peakAhead_92 rfl (lv_at hl 5 rfl) ?_
          obtain ⟨r_153, r_155, r_157, at_159, h_154, h_156, h_158⟩ := gF_o6 hG h_81
          refine ty_calll ((W.runV (As := [.ref r_72, .int a1]) (rest := [.long yg]) ⟨hx, hb, hml, hown, hts⟩ (s_X1_reading l D t cI cL cC gC gE (g + 1) gW gA r_80 r_72 a1 h_81 h_73) (cwV 2 hts gu_X9_peakAhead_X1_reading_215 rfl rfl rfl (by decide +kernel) ⟨Nat.le_of_ble_eq_true rfl, Nat.le_of_ble_eq_true rfl⟩) (tP_V hG hE at_159 rfl) rfl rfl hl.1 rfl (lv_room (Nat.le_of_ble_eq_true rfl)) dX9_peakAhead_93 ⟨Nat.le_of_ble_eq_true rfl, Nat.le_of_ble_eq_true rfl⟩)) hS (fun k h => by simp [wr0] at h) (fun z_160 H locs hp_161 hG hS o_162 => ?_)
          have at_88 := va_at.keptC at_88 o_162 k_a0 rfl
          have at_143 := va_at.keptC at_143 o_162 h_65 rfl
          have at_159 := va_at.keptC at_159 o_162 h_81 rfl
          refine va_mmax_long hx hb (by rw [hml]; exact hl.1.symm) hown (hts (.methodLink RX9 374 Lib.MathLoose.max_long.x) (List.mem_of_getElem? (i := 27) rfl)) (hts (.static Lib.MathLoose.max_long.x) (List.mem_of_getElem? (i := 28) rfl)) (hts (.initialized "java/lang/Math") (List.mem_of_getElem? (i := 29) rfl)) (hts (.code Lib.MathLoose.max_long.x Lib.MathLoose.max_long.code 4 (some .long)) (List.mem_of_getElem? (i := 30) rfl)) (Nat.le_of_ble_eq_true rfl) (Nat.le_of_ble_eq_true rfl) (Nat.zero_le _) (Nat.zero_le _) dX9_peakAhead_96 ?_
          refine lv_topl (fun z_163 e_164 => ?_)
          refine lv_pc (pc2 := 99) rfl ?_
          refine lv_lstore (lv' := [(4, .long z_163), (8, .int r_144), (7, .int v_100), (6, .int ya), (0, .ref a0), (1, .int a1), (2, .int a2), (3, .int a3)]) hx hb dX9_peakAhead_99 hl (by decide) rfl (fun ls hl => ?_)
          obtain ⟨x_165, e_166⟩ : ∃ y : Int32, y = ya + Int32.ofInt 1 := ⟨_, rfl⟩
          have i_x_165 : x_165.toInt = ya.toInt + 1 := by rw [e_166, show Int32.ofInt 1 = 1 by decide]; exact (q_add (by rw [show (1 : Int32).toInt = 1 by decide]; omega) (by rw [show (1 : Int32).toInt = 1 by decide]; omega)).trans (by rw [show (1 : Int32).toInt = 1 by decide])
          refine lv_iinc (v := x_165) (lv' := [(6, .int x_165), (4, .long z_163), (8, .int r_144), (7, .int v_100), (0, .ref a0), (1, .int a1), (2, .int a2), (3, .int a3)]) hx hb dX9_peakAhead_101 hl (k := 3) rfl e_166.symm (by decide) rfl (fun ls hl => ?_)
          refine lv_goto (tgt := 17) hx hb dX9_peakAhead_104 (by decide) ?_
          exfalso; omega
    | succ k ih =>
      intro ya yg g H locs ls hk v0 v1 v2 hG hS hl
      refine (hWW _ _ _).mpr ?_
      refine lv_iload hx hb dX9_peakAhead_17 (lv_at hl 0 rfl) ?_
      refine lv_iload_n hx hb dX9_peakAhead_19 rfl (lv_at hl 4 rfl) ?_
      refine lv_icmp_ge (tgt := 107) hx hb dX9_peakAhead_20 (by decide) (fun c_167 => ?_) (fun c_167 => ?_)
      · skip
        have c_167 : a2.toInt ≤ ya.toInt := q_le c_167
        exact (hWW _ _ _).mp (kx ya yg g H locs ls (by omega) (by omega) (by omega) hG hS (lv_sub hl [0, 1, 2, 3, 4, 5] rfl))
      · skip
        have c_167 : ya.toInt < a2.toInt := q_nle c_167
        refine lv_aload_n hx hb dX9_peakAhead_23 rfl (lv_at hl 2 rfl) ?_
        obtain ⟨r_168, r_170, r_172, r_174, v_176, v_177, r_178, r_180, r_182, r_184, r_186, r_188, r_190, v_192, r_194, r_196, r_198, r_200, at_202, h_169, h_171, h_173, h_175, h_179, h_181, h_183, h_185, h_187, h_189, h_191, h_193, h_195, h_197, h_199, h_201⟩ := gF_o1 hG k_a0
        refine va_get (D := D) (ci := 8) (v := .ref r_186) (C := RX9) (T := TX9) (N := 18) hx hb hts in9 hown hK (va_one at_202) 0 rfl rfl 10 (by decide) (hts (.fieldLink RX9 57 "RiverModel" "trial" "LRiverModel$Course;") (List.mem_of_getElem? (i := 1) rfl)) (fun _ h9 => h9) rfl dX9_peakAhead_24 ?_
        refine lv_pc (pc2 := 27) rfl ?_
        obtain ⟨r_203, r_205, r_207, r_209, v_211, v_212, v_213, v_214, at_216, h_204, h_206, h_208, h_210, h_215⟩ := gF_o5 hG h_187
        refine va_get (D := D) (ci := 0) (v := .int v_214) (C := RX0) (T := TX0) (N := 8) hx hb hts in0 hown hK (va_one at_216) 0 rfl rfl 7 (by decide) (hts (.fieldLink RX9 144 "RiverModel$Course" "hours" "I") (List.mem_of_getElem? (i := 7) rfl)) (fun _ h9 => h9) rfl dX9_peakAhead_27 ?_
        refine lv_istore (lv' := [(7, .int v_214), (6, .int ya), (4, .long yg), (0, .ref a0), (1, .int a1), (2, .int a2), (3, .int a3)]) hx hb dX9_peakAhead_30 hl (by decide) rfl (fun ls hl => ?_)
        refine lv_iload_n hx hb dX9_peakAhead_32 rfl (lv_at hl 6 rfl) ?_
        refine lv_if_ge (tgt := 48) hx hb dX9_peakAhead_33 (by decide) (fun c_217 => ?_) (fun c_217 => ?_)
        · skip
          have c_217 : 0 ≤ a3.toInt := q_le c_217
          refine lv_aload_n hx hb dX9_peakAhead_48 rfl (lv_at hl 3 rfl) ?_
          refine va_get (D := D) (ci := 8) (v := .ref r_198) (C := RX9) (T := TX9) (N := 18) hx hb hts in9 hown hK (va_one at_202) 0 rfl rfl 16 (by decide) (hts (.fieldLink RX9 88 "RiverModel" "worlds" "LRiverModel$Worlds;") (List.mem_of_getElem? (i := 8) rfl)) (fun _ h9 => h9) rfl dX9_peakAhead_49 ?_
          refine lv_iload_n hx hb dX9_peakAhead_52 rfl (lv_at hl 6 rfl) ?_
          refine lv_iload hx hb dX9_peakAhead_53 (lv_at hl 1 rfl) ?_
          refine lv_pc (pc2 := 55) rfl ?_
          obtain ⟨r_218, r_220, r_222, at_224, h_219, h_221, h_223⟩ := gF_o8 hG h_199
          refine ty_calli ((W.runV (As := [.int a3, .int ya]) (rest := []) ⟨hx, hb, hml, hown, hts⟩ (s_X8_rainAhead l D t cI cL cC gC gE g gW gA r_198 a3 ya h_199) (cwV 2 hts gu_X9_peakAhead_X8_rainAhead_371 rfl rfl rfl (by decide +kernel) ⟨Nat.le_of_ble_eq_true rfl, Nat.le_of_ble_eq_true rfl⟩) (tP_V hG hE at_224 rfl) rfl rfl hl.1 rfl (lv_room (Nat.le_of_ble_eq_true rfl)) dX9_peakAhead_55 ⟨Nat.le_of_ble_eq_true rfl, Nat.le_of_ble_eq_true rfl⟩)) hS (fun k h => by simp [wr0] at h) (fun r_225 H locs hp_226 hG hS o_227 => ?_)
          have at_202 := va_at.keptC at_202 o_227 k_a0 rfl
          have at_216 := va_at.keptC at_216 o_227 h_187 rfl
          have at_224 := va_at.keptC at_224 o_227 h_199 rfl
          refine lv_istore (lv' := [(8, .int r_225), (7, .int v_214), (6, .int ya), (4, .long yg), (0, .ref a0), (1, .int a1), (2, .int a2), (3, .int a3)]) hx hb dX9_peakAhead_58 hl (by decide) rfl (fun ls hl => ?_)
          refine lv_aload_n hx hb dX9_peakAhead_60 rfl (lv_at hl 4 rfl) ?_
          refine va_get (D := D) (ci := 8) (v := .ref r_186) (C := RX9) (T := TX9) (N := 18) hx hb hts in9 hown hK (va_one at_202) 0 rfl rfl 10 (by decide) (hts (.fieldLink RX9 57 "RiverModel" "trial" "LRiverModel$Course;") (List.mem_of_getElem? (i := 1) rfl)) (fun _ h9 => h9) rfl dX9_peakAhead_61 ?_
          refine lv_aload_n hx hb dX9_peakAhead_64 rfl (lv_at hl 4 rfl) ?_
          refine va_get (D := D) (ci := 8) (v := .ref r_170) (C := RX9) (T := TX9) (N := 18) hx hb hts in9 hown hK (va_one at_202) 0 rfl rfl 1 (by decide) (hts (.fieldLink RX9 19 "RiverModel" "model" "LRiverModel$Model;") (List.mem_of_getElem? (i := 13) rfl)) (fun _ h9 => h9) rfl dX9_peakAhead_65 ?_
          refine lv_iload hx hb dX9_peakAhead_68 (lv_at hl 0 rfl) ?_
          refine lv_aload_n hx hb dX9_peakAhead_70 rfl (lv_at hl 4 rfl) ?_
          refine lv_pc (pc2 := 71) rfl ?_
          refine va_get (D := D) (ci := 8) (v := .ref r_178) (C := RX9) (T := TX9) (N := 18) hx hb hts in9 hown hK (va_one at_202) 0 rfl rfl 6 (by decide) (hts (.fieldLink RX9 39 "RiverModel" "skyA" "LRiverModel$Sky;") (List.mem_of_getElem? (i := 14) rfl)) (fun _ h9 => h9) rfl dX9_peakAhead_71 ?_
          refine lv_iload hx hb dX9_peakAhead_74 (lv_at hl 1 rfl) ?_
          obtain ⟨r_228, r_230, at_232, h_229, h_231⟩ := gF_o4 hG h_179
          refine ty_calli ((W.runV (As := [.int v_214]) (rest := [.int r_225, .ref r_170, .ref r_186]) ⟨hx, hb, hml, hown, hts⟩ (s_X6_tempIn l D t cI cL cC gC gE g gW gA r_178 v_214 h_179) (cwV 1 hts gu_X9_peakAhead_X6_tempIn_360 rfl rfl rfl (by decide +kernel) ⟨Nat.le_of_ble_eq_true rfl, Nat.le_of_ble_eq_true rfl⟩) (tP_V hG hE at_232 rfl) rfl rfl hl.1 rfl (lv_room (Nat.le_of_ble_eq_true rfl)) dX9_peakAhead_76 ⟨Nat.le_of_ble_eq_true rfl, Nat.le_of_ble_eq_true rfl⟩)) hS (fun k h => by simp [wr0] at h) (fun r_233 H locs hp_234 hG hS o_235 => ?_)
          have at_202 := va_at.keptC at_202 o_235 k_a0 rfl
          have at_216 := va_at.keptC at_216 o_235 h_187 rfl
          have at_224 := va_at.keptC at_224 o_235 h_199 rfl
          have at_232 := va_at.keptC at_232 o_235 h_179 rfl
          refine ty_callv ((W.runV (As := [.ref r_170, .int r_225, .int r_233]) (rest := []) ⟨hx, hb, hml, hown, hts⟩ (s_X0_goHour l D t cI cL cC gC gE g gW gA r_186 r_170 r_225 r_233 (by omega) h_187 h_171) (cwV 3 hts gu_X9_peakAhead_X0_goHour_363 rfl rfl rfl (by decide +kernel) ⟨Nat.le_of_ble_eq_true rfl, Nat.le_of_ble_eq_true rfl⟩) (tP_V hG hE at_216 rfl) rfl rfl hl.1 rfl (lv_room (Nat.le_of_ble_eq_true rfl)) dX9_peakAhead_79 ⟨Nat.le_of_ble_eq_true rfl, Nat.le_of_ble_eq_true rfl⟩)) hS (fun _ h => h) (fun H locs hp_237 hG hS o_238 => ?_)
          have at_202 := va_at.keptC at_202 o_238 k_a0 rfl
          have at_224 := va_at.keptC at_224 o_238 h_199 rfl
          have at_232 := va_at.keptC at_232 o_238 h_179 rfl
          refine lv_lload hx hb dX9_peakAhead_82 (lv_at hl 3 rfl) ?_
          refine lv_aload_n hx hb dX9_peakAhead_84 rfl (lv_at hl 4 rfl) ?_
          refine va_get (D := D) (ci := 8) (v := .ref r_194) (C := RX9) (T := TX9) (N := 18) hx hb hts in9 hown hK (va_one at_202) 0 rfl rfl 14 (by decide) (hts (.fieldLink RX9 74 "RiverModel" "gauges" "LRiverModel$Gauges;") (List.mem_of_getElem? (i := 22) rfl)) (fun _ h9 => h9) rfl dX9_peakAhead_85 ?_
          refine lv_aload_n hx hb dX9_peakAhead_88 rfl (lv_at hl 4 rfl) ?_
          refine lv_pc (pc2 := 89) rfl ?_
          refine va_get (D := D) (ci := 8) (v := .ref r_186) (C := RX9) (T := TX9) (N := 18) hx hb hts in9 hown hK (va_one at_202) 0 rfl rfl 10 (by decide) (hts (.fieldLink RX9 57 "RiverModel" "trial" "LRiverModel$Course;") (List.mem_of_getElem? (i := 1) rfl)) (fun _ h9 => h9) rfl dX9_peakAhead_89 ?_
          refine lv_iload_n hx hb dX9_peakAhead_92 rfl (lv_at hl 5 rfl) ?_
          obtain ⟨r_239, r_241, r_243, at_245, h_240, h_242, h_244⟩ := gF_o6 hG h_195
          refine ty_calll ((W.runV (As := [.ref r_186, .int a1]) (rest := [.long yg]) ⟨hx, hb, hml, hown, hts⟩ (s_X1_reading l D t cI cL cC gC gE (g + 1) gW gA r_194 r_186 a1 h_195 h_187) (cwV 2 hts gu_X9_peakAhead_X1_reading_215 rfl rfl rfl (by decide +kernel) ⟨Nat.le_of_ble_eq_true rfl, Nat.le_of_ble_eq_true rfl⟩) (tP_V hG hE at_245 rfl) rfl rfl hl.1 rfl (lv_room (Nat.le_of_ble_eq_true rfl)) dX9_peakAhead_93 ⟨Nat.le_of_ble_eq_true rfl, Nat.le_of_ble_eq_true rfl⟩)) hS (fun k h => by simp [wr0] at h) (fun z_246 H locs hp_247 hG hS o_248 => ?_)
          have at_202 := va_at.keptC at_202 o_248 k_a0 rfl
          have at_224 := va_at.keptC at_224 o_248 h_199 rfl
          have at_232 := va_at.keptC at_232 o_248 h_179 rfl
          have at_245 := va_at.keptC at_245 o_248 h_195 rfl
          refine va_mmax_long hx hb (by rw [hml]; exact hl.1.symm) hown (hts (.methodLink RX9 374 Lib.MathLoose.max_long.x) (List.mem_of_getElem? (i := 27) rfl)) (hts (.static Lib.MathLoose.max_long.x) (List.mem_of_getElem? (i := 28) rfl)) (hts (.initialized "java/lang/Math") (List.mem_of_getElem? (i := 29) rfl)) (hts (.code Lib.MathLoose.max_long.x Lib.MathLoose.max_long.code 4 (some .long)) (List.mem_of_getElem? (i := 30) rfl)) (Nat.le_of_ble_eq_true rfl) (Nat.le_of_ble_eq_true rfl) (Nat.zero_le _) (Nat.zero_le _) dX9_peakAhead_96 ?_
          refine lv_topl (fun z_249 e_250 => ?_)
          refine lv_lstore (lv' := [(4, .long z_249), (8, .int r_225), (7, .int v_214), (6, .int ya), (0, .ref a0), (1, .int a1), (2, .int a2), (3, .int a3)]) hx hb dX9_peakAhead_99 hl (by decide) rfl (fun ls hl => ?_)
          obtain ⟨x_251, e_252⟩ : ∃ y : Int32, y = ya + Int32.ofInt 1 := ⟨_, rfl⟩
          have i_x_251 : x_251.toInt = ya.toInt + 1 := by rw [e_252, show Int32.ofInt 1 = 1 by decide]; exact (q_add (by rw [show (1 : Int32).toInt = 1 by decide]; omega) (by rw [show (1 : Int32).toInt = 1 by decide]; omega)).trans (by rw [show (1 : Int32).toInt = 1 by decide])
          refine lv_iinc (v := x_251) (lv' := [(6, .int x_251), (4, .long z_249), (8, .int r_225), (7, .int v_214), (0, .ref a0), (1, .int a1), (2, .int a2), (3, .int a3)]) hx hb dX9_peakAhead_101 hl (k := 3) rfl e_252.symm (by decide) rfl (fun ls hl => ?_)
          refine lv_goto (tgt := 17) hx hb dX9_peakAhead_104 (by decide) ?_
          exact (hWW _ _ _).mp (ih x_251 z_249 (g + 1) H locs ls (by omega) (by omega) (by omega) (by omega) hG hS (lv_sub hl [0, 1, 4, 5, 6, 7] rfl))
        · skip
          have c_217 : a3.toInt < 0 := q_nle c_217
          refine lv_aload_n hx hb dX9_peakAhead_36 rfl (lv_at hl 3 rfl) ?_
          refine lv_pc (pc2 := 37) rfl ?_
          refine va_get (D := D) (ci := 8) (v := .ref r_178) (C := RX9) (T := TX9) (N := 18) hx hb hts in9 hown hK (va_one at_202) 0 rfl rfl 6 (by decide) (hts (.fieldLink RX9 39 "RiverModel" "skyA" "LRiverModel$Sky;") (List.mem_of_getElem? (i := 14) rfl)) (fun _ h9 => h9) rfl dX9_peakAhead_37 ?_
          refine lv_iload hx hb dX9_peakAhead_40 (lv_at hl 0 rfl) ?_
          obtain ⟨r_253, r_255, at_257, h_254, h_256⟩ := gF_o4 hG h_179
          refine ty_calli ((W.runV (As := [.int v_214]) (rest := []) ⟨hx, hb, hml, hown, hts⟩ (s_X6_rainIn l D t cI cL cC gC gE g gW gA r_178 v_214 h_179) (cwV 1 hts gu_X9_peakAhead_X6_rainIn_357 rfl rfl rfl (by decide +kernel) ⟨Nat.le_of_ble_eq_true rfl, Nat.le_of_ble_eq_true rfl⟩) (tP_V hG hE at_257 rfl) rfl rfl hl.1 rfl (lv_room (Nat.le_of_ble_eq_true rfl)) dX9_peakAhead_42 ⟨Nat.le_of_ble_eq_true rfl, Nat.le_of_ble_eq_true rfl⟩)) hS (fun k h => by simp [wr0] at h) (fun r_258 H locs hp_259 hG hS o_260 => ?_)
          have at_202 := va_at.keptC at_202 o_260 k_a0 rfl
          have at_216 := va_at.keptC at_216 o_260 h_187 rfl
          have at_257 := va_at.keptC at_257 o_260 h_179 rfl
          refine lv_goto (tgt := 58) hx hb dX9_peakAhead_45 (by decide) ?_
          refine lv_istore (lv' := [(8, .int r_258), (7, .int v_214), (6, .int ya), (4, .long yg), (0, .ref a0), (1, .int a1), (2, .int a2), (3, .int a3)]) hx hb dX9_peakAhead_58 hl (by decide) rfl (fun ls hl => ?_)
          refine lv_aload_n hx hb dX9_peakAhead_60 rfl (lv_at hl 4 rfl) ?_
          refine va_get (D := D) (ci := 8) (v := .ref r_186) (C := RX9) (T := TX9) (N := 18) hx hb hts in9 hown hK (va_one at_202) 0 rfl rfl 10 (by decide) (hts (.fieldLink RX9 57 "RiverModel" "trial" "LRiverModel$Course;") (List.mem_of_getElem? (i := 1) rfl)) (fun _ h9 => h9) rfl dX9_peakAhead_61 ?_
          refine lv_aload_n hx hb dX9_peakAhead_64 rfl (lv_at hl 4 rfl) ?_
          refine lv_pc (pc2 := 65) rfl ?_
          refine va_get (D := D) (ci := 8) (v := .ref r_170) (C := RX9) (T := TX9) (N := 18) hx hb hts in9 hown hK (va_one at_202) 0 rfl rfl 1 (by decide) (hts (.fieldLink RX9 19 "RiverModel" "model" "LRiverModel$Model;") (List.mem_of_getElem? (i := 13) rfl)) (fun _ h9 => h9) rfl dX9_peakAhead_65 ?_
          refine lv_iload hx hb dX9_peakAhead_68 (lv_at hl 0 rfl) ?_
          refine lv_aload_n hx hb dX9_peakAhead_70 rfl (lv_at hl 4 rfl) ?_
          refine va_get (D := D) (ci := 8) (v := .ref r_178) (C := RX9) (T := TX9) (N := 18) hx hb hts in9 hown hK (va_one at_202) 0 rfl rfl 6 (by decide) (hts (.fieldLink RX9 39 "RiverModel" "skyA" "LRiverModel$Sky;") (List.mem_of_getElem? (i := 14) rfl)) (fun _ h9 => h9) rfl dX9_peakAhead_71 ?_
          refine lv_iload hx hb dX9_peakAhead_74 (lv_at hl 1 rfl) ?_
          refine ty_calli ((W.runV (As := [.int v_214]) (rest := [.int r_258, .ref r_170, .ref r_186]) ⟨hx, hb, hml, hown, hts⟩ (s_X6_tempIn l D t cI cL cC gC gE g gW gA r_178 v_214 h_179) (cwV 1 hts gu_X9_peakAhead_X6_tempIn_360 rfl rfl rfl (by decide +kernel) ⟨Nat.le_of_ble_eq_true rfl, Nat.le_of_ble_eq_true rfl⟩) (tP_V hG hE at_257 rfl) rfl rfl hl.1 rfl (lv_room (Nat.le_of_ble_eq_true rfl)) dX9_peakAhead_76 ⟨Nat.le_of_ble_eq_true rfl, Nat.le_of_ble_eq_true rfl⟩)) hS (fun k h => by simp [wr0] at h) (fun r_261 H locs hp_262 hG hS o_263 => ?_)
          have at_202 := va_at.keptC at_202 o_263 k_a0 rfl
          have at_216 := va_at.keptC at_216 o_263 h_187 rfl
          have at_257 := va_at.keptC at_257 o_263 h_179 rfl
          refine ty_callv ((W.runV (As := [.ref r_170, .int r_258, .int r_261]) (rest := []) ⟨hx, hb, hml, hown, hts⟩ (s_X0_goHour l D t cI cL cC gC gE g gW gA r_186 r_170 r_258 r_261 (by omega) h_187 h_171) (cwV 3 hts gu_X9_peakAhead_X0_goHour_363 rfl rfl rfl (by decide +kernel) ⟨Nat.le_of_ble_eq_true rfl, Nat.le_of_ble_eq_true rfl⟩) (tP_V hG hE at_216 rfl) rfl rfl hl.1 rfl (lv_room (Nat.le_of_ble_eq_true rfl)) dX9_peakAhead_79 ⟨Nat.le_of_ble_eq_true rfl, Nat.le_of_ble_eq_true rfl⟩)) hS (fun _ h => h) (fun H locs hp_265 hG hS o_266 => ?_)
          have at_202 := va_at.keptC at_202 o_266 k_a0 rfl
          have at_257 := va_at.keptC at_257 o_266 h_179 rfl
          refine lv_lload hx hb dX9_peakAhead_82 (lv_at hl 3 rfl) ?_
          refine lv_pc (pc2 := 84) rfl ?_
          refine lv_aload_n hx hb dX9_peakAhead_84 rfl (lv_at hl 4 rfl) ?_
          refine va_get (D := D) (ci := 8) (v := .ref r_194) (C := RX9) (T := TX9) (N := 18) hx hb hts in9 hown hK (va_one at_202) 0 rfl rfl 14 (by decide) (hts (.fieldLink RX9 74 "RiverModel" "gauges" "LRiverModel$Gauges;") (List.mem_of_getElem? (i := 22) rfl)) (fun _ h9 => h9) rfl dX9_peakAhead_85 ?_
          refine lv_aload_n hx hb dX9_peakAhead_88 rfl (lv_at hl 4 rfl) ?_
          refine va_get (D := D) (ci := 8) (v := .ref r_186) (C := RX9) (T := TX9) (N := 18) hx hb hts in9 hown hK (va_one at_202) 0 rfl rfl 10 (by decide) (hts (.fieldLink RX9 57 "RiverModel" "trial" "LRiverModel$Course;") (List.mem_of_getElem? (i := 1) rfl)) (fun _ h9 => h9) rfl dX9_peakAhead_89 ?_
          refine lv_iload_n hx hb dX9_peakAhead_92 rfl (lv_at hl 5 rfl) ?_
          obtain ⟨r_267, r_269, r_271, at_273, h_268, h_270, h_272⟩ := gF_o6 hG h_195
          refine ty_calll ((W.runV (As := [.ref r_186, .int a1]) (rest := [.long yg]) ⟨hx, hb, hml, hown, hts⟩ (s_X1_reading l D t cI cL cC gC gE (g + 1) gW gA r_194 r_186 a1 h_195 h_187) (cwV 2 hts gu_X9_peakAhead_X1_reading_215 rfl rfl rfl (by decide +kernel) ⟨Nat.le_of_ble_eq_true rfl, Nat.le_of_ble_eq_true rfl⟩) (tP_V hG hE at_273 rfl) rfl rfl hl.1 rfl (lv_room (Nat.le_of_ble_eq_true rfl)) dX9_peakAhead_93 ⟨Nat.le_of_ble_eq_true rfl, Nat.le_of_ble_eq_true rfl⟩)) hS (fun k h => by simp [wr0] at h) (fun z_274 H locs hp_275 hG hS o_276 => ?_)
          have at_202 := va_at.keptC at_202 o_276 k_a0 rfl
          have at_257 := va_at.keptC at_257 o_276 h_179 rfl
          have at_273 := va_at.keptC at_273 o_276 h_195 rfl
          refine va_mmax_long hx hb (by rw [hml]; exact hl.1.symm) hown (hts (.methodLink RX9 374 Lib.MathLoose.max_long.x) (List.mem_of_getElem? (i := 27) rfl)) (hts (.static Lib.MathLoose.max_long.x) (List.mem_of_getElem? (i := 28) rfl)) (hts (.initialized "java/lang/Math") (List.mem_of_getElem? (i := 29) rfl)) (hts (.code Lib.MathLoose.max_long.x Lib.MathLoose.max_long.code 4 (some .long)) (List.mem_of_getElem? (i := 30) rfl)) (Nat.le_of_ble_eq_true rfl) (Nat.le_of_ble_eq_true rfl) (Nat.zero_le _) (Nat.zero_le _) dX9_peakAhead_96 ?_
          refine lv_topl (fun z_277 e_278 => ?_)
          refine lv_lstore (lv' := [(4, .long z_277), (8, .int r_258), (7, .int v_214), (6, .int ya), (0, .ref a0), (1, .int a1), (2, .int a2), (3, .int a3)]) hx hb dX9_peakAhead_99 hl (by decide) rfl (fun ls hl => ?_)
          refine lv_pc (pc2 := 101) rfl ?_
          obtain ⟨x_279, e_280⟩ : ∃ y : Int32, y = ya + Int32.ofInt 1 := ⟨_, rfl⟩
          have i_x_279 : x_279.toInt = ya.toInt + 1 := by rw [e_280, show Int32.ofInt 1 = 1 by decide]; exact (q_add (by rw [show (1 : Int32).toInt = 1 by decide]; omega) (by rw [show (1 : Int32).toInt = 1 by decide]; omega)).trans (by rw [show (1 : Int32).toInt = 1 by decide])
          refine lv_iinc (v := x_279) (lv' := [(6, .int x_279), (4, .long z_277), (8, .int r_258), (7, .int v_214), (0, .ref a0), (1, .int a1), (2, .int a2), (3, .int a3)]) hx hb dX9_peakAhead_101 hl (k := 3) rfl e_280.symm (by decide) rfl (fun ls hl => ?_)
          refine lv_goto (tgt := 17) hx hb dX9_peakAhead_104 (by decide) ?_
          exact (hWW _ _ _).mp (ih x_279 z_277 (g + 1) H locs ls (by omega) (by omega) (by omega) (by omega) hG hS (lv_sub hl [0, 1, 4, 5, 6, 7] rfl))
  have hz_ya : (0 : Int32).toInt = 0 := by decide
  exact loop (24 - 0 : Int).toNat 0 0 G H locs ls (by omega) (by omega) (by omega) (by omega) hG hS (lv_sub hl [0, 1, 2, 3, 4, 5] rfl)

def uX9_weightAbove : List Cond := .code yX9_weightAbove cX9_weightAbove 8 (some .int) :: ([.fieldLink RX9 88 "RiverModel" "worlds" "LRiverModel$Worlds;", .fieldLink RX9 259 "RiverModel$Worlds" "weights" "[I", .methodLink RX9 275 yX9_peakAhead, .instanceMethod yX9_peakAhead, .selects RX9 yX9_peakAhead yX9_peakAhead, .initialized RX9, .code yX9_peakAhead cX9_peakAhead 9 (some .long), .fieldLink RX9 57 "RiverModel" "trial" "LRiverModel$Course;", .fieldLink RX9 53 "RiverModel" "now" "LRiverModel$Course;", .methodLink RX9 330 yX0_copyFrom, .instanceMethod yX0_copyFrom, .selects RX0 yX0_copyFrom yX0_copyFrom, .initialized RX0, .fieldLink RX9 144 "RiverModel$Course" "hours" "I", .methodLink RX9 371 yX8_rainAhead, .instanceMethod yX8_rainAhead, .selects RX8 yX8_rainAhead yX8_rainAhead, .initialized RX8, .fieldLink RX9 19 "RiverModel" "model" "LRiverModel$Model;", .fieldLink RX9 39 "RiverModel" "skyA" "LRiverModel$Sky;", .methodLink RX9 360 yX6_tempIn, .instanceMethod yX6_tempIn, .selects RX6 yX6_tempIn yX6_tempIn, .initialized RX6, .methodLink RX9 363 yX0_goHour, .instanceMethod yX0_goHour, .selects RX0 yX0_goHour yX0_goHour, .fieldLink RX9 74 "RiverModel" "gauges" "LRiverModel$Gauges;", .methodLink RX9 215 yX1_reading, .instanceMethod yX1_reading, .selects RX1 yX1_reading yX1_reading, .initialized RX1, .methodLink RX9 374 Lib.MathLoose.max_long.x, .static Lib.MathLoose.max_long.x, .initialized "java/lang/Math", .code Lib.MathLoose.max_long.x Lib.MathLoose.max_long.code 4 (some .long), .methodLink RX9 357 yX6_rainIn, .instanceMethod yX6_rainIn, .selects RX6 yX6_rainIn yX6_rainIn, .code yX0_copyFrom cX0_copyFrom 2 none, .fieldLink RX0 9 "RiverModel$Course" "held" "[J", .methodLink RX0 54 arraycopyName, .native arraycopyName, .static arraycopyName, .initialized "java/lang/System", .fieldLink RX0 15 "RiverModel$Course" "moved" "[J", .fieldLink RX0 18 "RiverModel$Course" "openings" "[I", .fieldLink RX0 22 "RiverModel$Course" "due" "[J", .fieldLink RX0 25 "RiverModel$Course" "rained" "J", .fieldLink RX0 29 "RiverModel$Course" "air" "J", .fieldLink RX0 32 "RiverModel$Course" "sea" "J", .fieldLink RX0 35 "RiverModel$Course" "hours" "I", .code yX8_rainAhead cX8_rainAhead 3 (some .int), .static yX9_isNoWorld, .static yX9_isOutside, .fieldLink RX8 18 "RiverModel$Worlds" "rains" "[I", .code yX9_isNoWorld cX9_isNoWorld 1 (some .boolean), .code yX9_isOutside cX9_isOutside 3 (some .boolean), .code yX6_tempIn cX6_tempIn 2 (some .int), .fieldLink RX6 15 "RiverModel$Sky" "temps" "[I", .code yX0_goHour cX0_goHour 7 none, .methodLink RX0 72 yX0_bringDue, .instanceMethod yX0_bringDue, .selects RX0 yX0_bringDue yX0_bringDue, .fieldLink RX0 75 "RiverModel$Model" "many" "I", .methodLink RX0 78 yX0_amountOf, .instanceMethod yX0_amountOf, .selects RX0 yX0_amountOf yX0_amountOf, .methodLink RX0 82 yX0_move, .instanceMethod yX0_move, .selects RX0 yX0_move yX0_move, .code yX0_bringDue cX0_bringDue 3 none, .code yX0_amountOf cX0_amountOf 11 (some .long), .methodLink RX0 86 yX4_cell, .instanceMethod yX4_cell, .selects RX4 yX4_cell yX4_cell, .initialized RX4, .static yX9_isNoStore, .methodLink RX0 110 yX4_gateOf, .instanceMethod yX4_gateOf, .selects RX4 yX4_gateOf yX4_gateOf, .methodLink RX0 113 yX0_openingOf, .instanceMethod yX0_openingOf, .selects RX0 yX0_openingOf yX0_openingOf, .methodLink RX0 107 Lib.MathLoose.min_long.x, .static Lib.MathLoose.min_long.x, .code Lib.MathLoose.min_long.x Lib.MathLoose.min_long.code 4 (some .long), .methodLink RX0 94 yX0_leakOf, .static yX0_leakOf, .constantLong RX0 117 (100), .methodLink RX0 98 yX4_capacityOf, .instanceMethod yX4_capacityOf, .selects RX4 yX4_capacityOf yX4_capacityOf, .methodLink RX0 101 Lib.MathLoose.max_long.x, .constantLong RX0 119 (10), .code yX4_cell cX4_cell 3 (some .int), .fieldLink RX4 9 "RiverModel$Model" "cells" "[I", .code yX9_isNoStore cX9_isNoStore 1 (some .boolean), .code yX4_gateOf cX4_gateOf 3 (some .int), .fieldLink RX4 28 "RiverModel$Model" "gates" "I", .fieldLink RX4 18 "RiverModel$Model" "gateItems" "[I", .code yX0_openingOf cX0_openingOf 2 (some .long), .static yX9_isNoGate, .code yX9_isNoGate cX9_isNoGate 1 (some .boolean), .code yX0_leakOf cX0_leakOf 8 (some .long), .code yX4_capacityOf cX4_capacityOf 2 (some .int), .methodLink RX4 66 yX4_hasStore, .instanceMethod yX4_hasStore, .selects RX4 yX4_hasStore yX4_hasStore, .fieldLink RX4 15 "RiverModel$Model" "storeItems" "[I", .methodLink RX4 73 yX4_cell, .code yX4_hasStore cX4_hasStore 2 (some .boolean), .code yX0_move cX0_move 8 none, .methodLink RX0 124 yX0_send, .instanceMethod yX0_send, .selects RX0 yX0_send yX0_send, .code yX0_send cX0_send 5 none, .code yX1_reading cX1_reading 4 (some .long), .methodLink RX1 35 yX1_isSet, .instanceMethod yX1_isSet, .selects RX1 yX1_isSet yX1_isSet, .fieldLink RX1 15 "RiverModel$Gauges" "places" "[I", .fieldLink RX1 9 "RiverModel$Gauges" "whats" "[I", .fieldLink RX1 50 "RiverModel$Course" "held" "[J", .static yX9_isNoItem, .fieldLink RX1 41 "RiverModel$Course" "moved" "[J", .code yX1_isSet cX1_isSet 2 (some .boolean), .code yX9_isNoItem cX9_isNoItem 1 (some .boolean), .code yX6_rainIn cX6_rainIn 2 (some .int), .fieldLink RX6 9 "RiverModel$Sky" "rains" "[I"] ++ wsX90 ++ wsX80 ++ wsX00 ++ wsX60 ++ wsX40 ++ wsX10)
set_option maxRecDepth 20000 in
theorem gu_X9_weightAbove_X9_peakAhead_275 : GoodIn uX9_weightAbove (wsV RX9 275 RX9 yX9_peakAhead uX9_peakAhead) := goodIn_r _ [3, 4, 5, 6, 7, 8, 9, 10, 11, 12, 13, 14, 1, 15, 16, 17, 18, 19, 20, 21, 22, 23, 24, 25, 26, 27, 28, 29, 30, 31, 32, 33, 34, 35, 36, 37, 38, 39, 40, 41, 42, 43, 44, 45, 46, 47, 48, 49, 50, 51, 52, 53, 6, 54, 55, 56, 57, 58, 59, 60, 61, 62, 63, 64, 65, 66, 67, 68, 69, 70, 71, 72, 73, 74, 75, 76, 77, 78, 79, 80, 81, 82, 83, 84, 85, 86, 87, 88, 89, 90, 91, 92, 93, 94, 95, 96, 97, 98, 99, 100, 101, 102, 103, 104, 105, 106, 107, 108, 109, 110, 111, 112, 113, 114, 115, 116, 117, 118, 119, 120, 121, 122, 123, 124, 125, 126, 127, 128, 129, 130, 131, 132, 133, 134, 135, 136, 137, 138, 139, 140, 141, 142, 143, 144, 145, 146, 147, 148, 152, 153, 154, 155, 156, 157, 158, 159, 149, 150, 151, 160, 161, 162, 163, 164, 165, 166, 167, 168, 169, 170, 171] rfl (by decide +kernel)
set_option maxHeartbeats 4000000 in
set_option maxRecDepth 100000 in
theorem s_X9_weightAbove (l : Launch) (D : va_G) (t : Nat → Nat) (cI cL cC : ClassId) (gC : Int32) (gE : Int32) (G : Nat) (gW : Nat → Int32) (gA : Nat → Int32) (a0 : Nat) (a1 : Int32) (a2 : Int32) (a3 : Int64) (h24 : a2.toInt ≤ 24) (hGb : G ≤ 150000000) (k_a0 : t a0 = 1) : tM l yX9_weightAbove uX9_weightAbove 5 127 D (gF cI cL cC gC gE G gW gA) (gF cI cL cC gC gE (G + 96) gW gA) t cI cL cC [.ref a0, .int a1, .int a2, .long a3] wrC (pI (fun r => True)) := by
  refine tM.ofW (cc := cX9_weightAbove) (maxL := 8) (ret := (some .int)) (by decide) rfl (Nat.le_of_ble_eq_true rfl) ?_
  intro p e s m below meth c hx hb hr hml hown hts hlk H locs hG hK hE hS ls hl
  have hl : lv_has ls 8 [(0, .ref a0), (1, .int a1), (2, .int a2), (3, .long a3)] := hl
  have in9 : ∀ w ∈ wsX90, w ∈ uX9_weightAbove := fun w h => List.mem_cons_of_mem _ (List.mem_append_left _ (List.mem_append_left _ (List.mem_append_left _ (List.mem_append_left _ (List.mem_append_left _ (List.mem_append_right _ h))))))
  have in8 : ∀ w ∈ wsX80, w ∈ uX9_weightAbove := fun w h => List.mem_cons_of_mem _ (List.mem_append_left _ (List.mem_append_left _ (List.mem_append_left _ (List.mem_append_left _ (List.mem_append_right _ h)))))
  refine lv_iconst (v := 0) hx hb dX9_weightAbove_0 (by decide) ?_
  refine lv_istore (lv' := [(5, .int 0), (0, .ref a0), (1, .int a1), (2, .int a2), (3, .long a3)]) hx hb dX9_weightAbove_1 hl (by decide) rfl (fun ls hl => ?_)
  refine lv_iconst (v := 0) hx hb dX9_weightAbove_3 (by decide) ?_
  refine lv_istore (lv' := [(6, .int 0), (5, .int 0), (0, .ref a0), (1, .int a1), (2, .int a2), (3, .long a3)]) hx hb dX9_weightAbove_4 hl (by decide) rfl (fun ls hl => ?_)
  refine lv_pc (pc2 := 6) rfl ?_
  refine lp_gen (fun WW hWW => ?_)
  have kx : ∀ (yw : Int32) (ys : Int32) (g : Nat) (H1 : Heap) (locs1 : List Loc) (ls1 : Array Slot), 0 ≤ yw.toInt → yw.toInt ≤ 4 → (g : Int) + 24 * (4 - yw.toInt) ≤ (G : Int) + 96 → tG D (gF cI cL cC gC gE g gW gA) t H1 → tF t wrC s.heap H1 locs1 → lv_has ls1 8 [(6, .int yw), (5, .int ys), (0, .ref a0), (1, .int a1), (2, .int a2), (3, .long a3)] → WW H1 locs1 (F0 m 55 ls1 []) := by
    intro yw ys g H locs ls v0 v1 v2 hG hS hl
    refine (hWW _ _ _).mpr ?_
    refine lv_iload hx hb dX9_weightAbove_55 (lv_at hl 1 rfl) ?_
    exact ty_iret hx hb hr hlk (hG.weak (fun _ _ => gF_mono (by omega))) hS True.intro dX9_weightAbove_57
  have loop : ∀ (k : Nat) (yw : Int32) (ys : Int32) (g : Nat) (H1 : Heap) (locs1 : List Loc) (ls1 : Array Slot), 4 - yw.toInt ≤ (k : Int) → 0 ≤ yw.toInt → yw.toInt ≤ 4 → (g : Int) + 24 * (4 - yw.toInt) ≤ (G : Int) + 96 → tG D (gF cI cL cC gC gE g gW gA) t H1 → tF t wrC s.heap H1 locs1 → lv_has ls1 8 [(6, .int yw), (5, .int ys), (0, .ref a0), (1, .int a1), (2, .int a2), (3, .long a3)] → WW H1 locs1 (F0 m 6 ls1 []) := by
    intro k
    induction k with
    | zero =>
      intro yw ys g H locs ls hk v0 v1 v2 hG hS hl
      refine (hWW _ _ _).mpr ?_
      refine lv_iload hx hb dX9_weightAbove_6 (lv_at hl 0 rfl) ?_
      refine lv_pc (pc2 := 8) rfl ?_
      refine lv_iconst (v := 4) hx hb dX9_weightAbove_8 (by decide) ?_
      refine lv_icmp_ge (tgt := 55) hx hb dX9_weightAbove_9 (by decide) (fun c_1 => ?_) (fun c_1 => ?_)
      · skip
        have c_1 : 4 ≤ yw.toInt := q_le c_1
        exact (hWW _ _ _).mp (kx yw ys g H locs ls (by omega) (by omega) (by omega) hG hS (lv_sub hl [0, 1, 2, 3, 4, 5] rfl))
      · skip
        have c_1 : yw.toInt < 4 := q_nle c_1
        refine lv_aload_n hx hb dX9_weightAbove_12 rfl (lv_at hl 2 rfl) ?_
        obtain ⟨r_2, r_4, r_6, r_8, v_10, v_11, r_12, r_14, r_16, r_18, r_20, r_22, r_24, v_26, r_28, r_30, r_32, r_34, at_36, h_3, h_5, h_7, h_9, h_13, h_15, h_17, h_19, h_21, h_23, h_25, h_27, h_29, h_31, h_33, h_35⟩ := gF_o1 hG k_a0
        refine va_get (D := D) (ci := 8) (v := .ref r_32) (C := RX9) (T := TX9) (N := 18) hx hb hts in9 hown hK (va_one at_36) 0 rfl rfl 16 (by decide) (hts (.fieldLink RX9 88 "RiverModel" "worlds" "LRiverModel$Worlds;") (List.mem_of_getElem? (i := 1) rfl)) (fun _ h9 => h9) rfl dX9_weightAbove_13 ?_
        obtain ⟨r_37, r_39, r_41, at_43, h_38, h_40, h_42⟩ := gF_o8 hG h_33
        refine va_get (D := D) (ci := 7) (v := .ref r_37) (C := RX8) (T := TX8) (N := 3) hx hb hts in8 hown hK (va_one at_43) 0 rfl rfl 0 (by decide) (hts (.fieldLink RX9 259 "RiverModel$Worlds" "weights" "[I") (List.mem_of_getElem? (i := 2) rfl)) (fun _ h9 => h9) rfl dX9_weightAbove_16 ?_
        refine lv_iload hx hb dX9_weightAbove_19 (lv_at hl 0 rfl) ?_
        obtain ⟨f_44, at_45, h_46⟩ := gF_o29 hG h_38
        have b_47 : vp_in yw 4 := (q_in (by omega) (by omega))
        refine va_iald hx hb hK (va_one at_45) 0 0 rfl rfl b_47 dX9_weightAbove_21 ?_
        refine lv_topi (fun x_48 e_49 => ?_)
        refine lv_istore (lv' := [(7, .int x_48), (6, .int yw), (5, .int ys), (0, .ref a0), (1, .int a1), (2, .int a2), (3, .long a3)]) hx hb dX9_weightAbove_22 hl (by decide) rfl (fun ls hl => ?_)
        refine lv_pc (pc2 := 24) rfl ?_
        refine lv_iload hx hb dX9_weightAbove_24 (lv_at hl 0 rfl) ?_
        refine lv_if_le (tgt := 49) hx hb dX9_weightAbove_26 (by decide) (fun c_50 => ?_) (fun c_50 => ?_)
        · skip
          have c_50 : x_48.toInt ≤ 0 := q_le c_50
          obtain ⟨x_51, e_52⟩ : ∃ y : Int32, y = yw + Int32.ofInt 1 := ⟨_, rfl⟩
          have i_x_51 : x_51.toInt = yw.toInt + 1 := by rw [e_52, show Int32.ofInt 1 = 1 by decide]; exact (q_add (by rw [show (1 : Int32).toInt = 1 by decide]; omega) (by rw [show (1 : Int32).toInt = 1 by decide]; omega)).trans (by rw [show (1 : Int32).toInt = 1 by decide])
          refine lv_iinc (v := x_51) (lv' := [(6, .int x_51), (7, .int x_48), (5, .int ys), (0, .ref a0), (1, .int a1), (2, .int a2), (3, .long a3)]) hx hb dX9_weightAbove_49 hl (k := 1) rfl e_52.symm (by decide) rfl (fun ls hl => ?_)
          refine lv_goto (tgt := 6) hx hb dX9_weightAbove_52 (by decide) ?_
          exfalso; omega
        · skip
          have c_50 : 0 < x_48.toInt := q_nle c_50
          refine lv_aload_n hx hb dX9_weightAbove_29 rfl (lv_at hl 3 rfl) ?_
          refine lv_iload_n hx hb dX9_weightAbove_30 rfl (lv_at hl 4 rfl) ?_
          refine lv_iload_n hx hb dX9_weightAbove_31 rfl (lv_at hl 5 rfl) ?_
          refine lv_iload hx hb dX9_weightAbove_32 (lv_at hl 1 rfl) ?_
          refine lv_pc (pc2 := 34) rfl ?_
          refine ty_calll ((W.runV (As := [.int a1, .int a2, .int yw]) (rest := []) ⟨hx, hb, hml, hown, hts⟩ (s_X9_peakAhead l D t cI cL cC gC gE g gW gA a0 a1 a2 yw (by omega) (by omega) k_a0) (cwV 3 hts gu_X9_weightAbove_X9_peakAhead_275 rfl rfl rfl (by decide +kernel) ⟨Nat.le_of_ble_eq_true rfl, Nat.le_of_ble_eq_true rfl⟩) (tP_V hG hE at_36 rfl) rfl rfl hl.1 rfl (lv_room (Nat.le_of_ble_eq_true rfl)) dX9_weightAbove_34 ⟨Nat.le_of_ble_eq_true rfl, Nat.le_of_ble_eq_true rfl⟩)) hS (fun _ h => h) (fun z_53 H locs hp_54 hG hS o_55 => ?_)
          have at_36 := va_at.keptC at_36 o_55 k_a0 rfl
          have at_43 := va_at.keptC at_43 o_55 h_33 rfl
          have at_45 := va_at.keptC at_45 o_55 h_38 rfl
          refine lv_lload_n hx hb dX9_weightAbove_37 rfl (lv_at hl 6 rfl) ?_
          refine W.lcmp hx hb dX9_weightAbove_38 ?_
          refine lv_if_le (tgt := 49) hx hb dX9_weightAbove_39 (by decide) (fun c_56 => ?_) (fun c_56 => ?_)
          · skip
            have c_56 : z_53.toInt ≤ a3.toInt := q_cmp_le c_56
            obtain ⟨x_57, e_58⟩ : ∃ y : Int32, y = yw + Int32.ofInt 1 := ⟨_, rfl⟩
            have i_x_57 : x_57.toInt = yw.toInt + 1 := by rw [e_58, show Int32.ofInt 1 = 1 by decide]; exact (q_add (by rw [show (1 : Int32).toInt = 1 by decide]; omega) (by rw [show (1 : Int32).toInt = 1 by decide]; omega)).trans (by rw [show (1 : Int32).toInt = 1 by decide])
            refine lv_iinc (v := x_57) (lv' := [(6, .int x_57), (7, .int x_48), (5, .int ys), (0, .ref a0), (1, .int a1), (2, .int a2), (3, .long a3)]) hx hb dX9_weightAbove_49 hl (k := 1) rfl e_58.symm (by decide) rfl (fun ls hl => ?_)
            refine lv_goto (tgt := 6) hx hb dX9_weightAbove_52 (by decide) ?_
            exfalso; omega
          · skip
            have c_56 : a3.toInt < z_53.toInt := q_cmp_nle c_56
            refine lv_iload hx hb dX9_weightAbove_42 (lv_at hl 2 rfl) ?_
            refine lv_iload hx hb dX9_weightAbove_44 (lv_at hl 0 rfl) ?_
            refine lv_pc (pc2 := 46) rfl ?_
            refine lv_iadd hx hb dX9_weightAbove_46 ?_
            refine lv_topi (fun x_59 e_60 => ?_)
            refine lv_istore (lv' := [(5, .int x_59), (7, .int x_48), (6, .int yw), (0, .ref a0), (1, .int a1), (2, .int a2), (3, .long a3)]) hx hb dX9_weightAbove_47 hl (by decide) rfl (fun ls hl => ?_)
            obtain ⟨x_61, e_62⟩ : ∃ y : Int32, y = yw + Int32.ofInt 1 := ⟨_, rfl⟩
            have i_x_61 : x_61.toInt = yw.toInt + 1 := by rw [e_62, show Int32.ofInt 1 = 1 by decide]; exact (q_add (by rw [show (1 : Int32).toInt = 1 by decide]; omega) (by rw [show (1 : Int32).toInt = 1 by decide]; omega)).trans (by rw [show (1 : Int32).toInt = 1 by decide])
            refine lv_iinc (v := x_61) (lv' := [(6, .int x_61), (5, .int x_59), (7, .int x_48), (0, .ref a0), (1, .int a1), (2, .int a2), (3, .long a3)]) hx hb dX9_weightAbove_49 hl (k := 2) rfl e_62.symm (by decide) rfl (fun ls hl => ?_)
            refine lv_goto (tgt := 6) hx hb dX9_weightAbove_52 (by decide) ?_
            exfalso; omega
    | succ k ih =>
      intro yw ys g H locs ls hk v0 v1 v2 hG hS hl
      refine (hWW _ _ _).mpr ?_
      refine lv_iload hx hb dX9_weightAbove_6 (lv_at hl 0 rfl) ?_
      refine lv_iconst (v := 4) hx hb dX9_weightAbove_8 (by decide) ?_
      refine lv_icmp_ge (tgt := 55) hx hb dX9_weightAbove_9 (by decide) (fun c_63 => ?_) (fun c_63 => ?_)
      · skip
        have c_63 : 4 ≤ yw.toInt := q_le c_63
        exact (hWW _ _ _).mp (kx yw ys g H locs ls (by omega) (by omega) (by omega) hG hS (lv_sub hl [0, 1, 2, 3, 4, 5] rfl))
      · skip
        have c_63 : yw.toInt < 4 := q_nle c_63
        refine lv_aload_n hx hb dX9_weightAbove_12 rfl (lv_at hl 2 rfl) ?_
        refine lv_pc (pc2 := 13) rfl ?_
        obtain ⟨r_64, r_66, r_68, r_70, v_72, v_73, r_74, r_76, r_78, r_80, r_82, r_84, r_86, v_88, r_90, r_92, r_94, r_96, at_98, h_65, h_67, h_69, h_71, h_75, h_77, h_79, h_81, h_83, h_85, h_87, h_89, h_91, h_93, h_95, h_97⟩ := gF_o1 hG k_a0
        refine va_get (D := D) (ci := 8) (v := .ref r_94) (C := RX9) (T := TX9) (N := 18) hx hb hts in9 hown hK (va_one at_98) 0 rfl rfl 16 (by decide) (hts (.fieldLink RX9 88 "RiverModel" "worlds" "LRiverModel$Worlds;") (List.mem_of_getElem? (i := 1) rfl)) (fun _ h9 => h9) rfl dX9_weightAbove_13 ?_
        obtain ⟨r_99, r_101, r_103, at_105, h_100, h_102, h_104⟩ := gF_o8 hG h_95
        refine va_get (D := D) (ci := 7) (v := .ref r_99) (C := RX8) (T := TX8) (N := 3) hx hb hts in8 hown hK (va_one at_105) 0 rfl rfl 0 (by decide) (hts (.fieldLink RX9 259 "RiverModel$Worlds" "weights" "[I") (List.mem_of_getElem? (i := 2) rfl)) (fun _ h9 => h9) rfl dX9_weightAbove_16 ?_
        refine lv_iload hx hb dX9_weightAbove_19 (lv_at hl 0 rfl) ?_
        obtain ⟨f_106, at_107, h_108⟩ := gF_o29 hG h_100
        have b_109 : vp_in yw 4 := (q_in (by omega) (by omega))
        refine va_iald hx hb hK (va_one at_107) 0 0 rfl rfl b_109 dX9_weightAbove_21 ?_
        refine lv_topi (fun x_110 e_111 => ?_)
        refine lv_istore (lv' := [(7, .int x_110), (6, .int yw), (5, .int ys), (0, .ref a0), (1, .int a1), (2, .int a2), (3, .long a3)]) hx hb dX9_weightAbove_22 hl (by decide) rfl (fun ls hl => ?_)
        refine lv_iload hx hb dX9_weightAbove_24 (lv_at hl 0 rfl) ?_
        refine lv_if_le (tgt := 49) hx hb dX9_weightAbove_26 (by decide) (fun c_112 => ?_) (fun c_112 => ?_)
        · skip
          have c_112 : x_110.toInt ≤ 0 := q_le c_112
          obtain ⟨x_113, e_114⟩ : ∃ y : Int32, y = yw + Int32.ofInt 1 := ⟨_, rfl⟩
          have i_x_113 : x_113.toInt = yw.toInt + 1 := by rw [e_114, show Int32.ofInt 1 = 1 by decide]; exact (q_add (by rw [show (1 : Int32).toInt = 1 by decide]; omega) (by rw [show (1 : Int32).toInt = 1 by decide]; omega)).trans (by rw [show (1 : Int32).toInt = 1 by decide])
          refine lv_iinc (v := x_113) (lv' := [(6, .int x_113), (7, .int x_110), (5, .int ys), (0, .ref a0), (1, .int a1), (2, .int a2), (3, .long a3)]) hx hb dX9_weightAbove_49 hl (k := 1) rfl e_114.symm (by decide) rfl (fun ls hl => ?_)
          refine lv_pc (pc2 := 52) rfl ?_
          refine lv_goto (tgt := 6) hx hb dX9_weightAbove_52 (by decide) ?_
          exact (hWW _ _ _).mp (ih x_113 ys g H locs ls (by omega) (by omega) (by omega) (by omega) hG hS (lv_sub hl [0, 2, 3, 4, 5, 6] rfl))
        · skip
          have c_112 : 0 < x_110.toInt := q_nle c_112
          refine lv_aload_n hx hb dX9_weightAbove_29 rfl (lv_at hl 3 rfl) ?_
          refine lv_iload_n hx hb dX9_weightAbove_30 rfl (lv_at hl 4 rfl) ?_
          refine lv_iload_n hx hb dX9_weightAbove_31 rfl (lv_at hl 5 rfl) ?_
          refine lv_iload hx hb dX9_weightAbove_32 (lv_at hl 1 rfl) ?_
          refine ty_calll ((W.runV (As := [.int a1, .int a2, .int yw]) (rest := []) ⟨hx, hb, hml, hown, hts⟩ (s_X9_peakAhead l D t cI cL cC gC gE g gW gA a0 a1 a2 yw (by omega) (by omega) k_a0) (cwV 3 hts gu_X9_weightAbove_X9_peakAhead_275 rfl rfl rfl (by decide +kernel) ⟨Nat.le_of_ble_eq_true rfl, Nat.le_of_ble_eq_true rfl⟩) (tP_V hG hE at_98 rfl) rfl rfl hl.1 rfl (lv_room (Nat.le_of_ble_eq_true rfl)) dX9_weightAbove_34 ⟨Nat.le_of_ble_eq_true rfl, Nat.le_of_ble_eq_true rfl⟩)) hS (fun _ h => h) (fun z_115 H locs hp_116 hG hS o_117 => ?_)
          have at_98 := va_at.keptC at_98 o_117 k_a0 rfl
          have at_105 := va_at.keptC at_105 o_117 h_95 rfl
          have at_107 := va_at.keptC at_107 o_117 h_100 rfl
          refine lv_lload_n hx hb dX9_weightAbove_37 rfl (lv_at hl 6 rfl) ?_
          refine W.lcmp hx hb dX9_weightAbove_38 ?_
          refine lv_pc (pc2 := 39) rfl ?_
          refine lv_if_le (tgt := 49) hx hb dX9_weightAbove_39 (by decide) (fun c_118 => ?_) (fun c_118 => ?_)
          · skip
            have c_118 : z_115.toInt ≤ a3.toInt := q_cmp_le c_118
            obtain ⟨x_119, e_120⟩ : ∃ y : Int32, y = yw + Int32.ofInt 1 := ⟨_, rfl⟩
            have i_x_119 : x_119.toInt = yw.toInt + 1 := by rw [e_120, show Int32.ofInt 1 = 1 by decide]; exact (q_add (by rw [show (1 : Int32).toInt = 1 by decide]; omega) (by rw [show (1 : Int32).toInt = 1 by decide]; omega)).trans (by rw [show (1 : Int32).toInt = 1 by decide])
            refine lv_iinc (v := x_119) (lv' := [(6, .int x_119), (7, .int x_110), (5, .int ys), (0, .ref a0), (1, .int a1), (2, .int a2), (3, .long a3)]) hx hb dX9_weightAbove_49 hl (k := 1) rfl e_120.symm (by decide) rfl (fun ls hl => ?_)
            refine lv_goto (tgt := 6) hx hb dX9_weightAbove_52 (by decide) ?_
            exact (hWW _ _ _).mp (ih x_119 ys (g + 24) H locs ls (by omega) (by omega) (by omega) (by omega) hG hS (lv_sub hl [0, 2, 3, 4, 5, 6] rfl))
          · skip
            have c_118 : a3.toInt < z_115.toInt := q_cmp_nle c_118
            refine lv_iload hx hb dX9_weightAbove_42 (lv_at hl 2 rfl) ?_
            refine lv_iload hx hb dX9_weightAbove_44 (lv_at hl 0 rfl) ?_
            refine lv_iadd hx hb dX9_weightAbove_46 ?_
            refine lv_topi (fun x_121 e_122 => ?_)
            refine lv_istore (lv' := [(5, .int x_121), (7, .int x_110), (6, .int yw), (0, .ref a0), (1, .int a1), (2, .int a2), (3, .long a3)]) hx hb dX9_weightAbove_47 hl (by decide) rfl (fun ls hl => ?_)
            obtain ⟨x_123, e_124⟩ : ∃ y : Int32, y = yw + Int32.ofInt 1 := ⟨_, rfl⟩
            have i_x_123 : x_123.toInt = yw.toInt + 1 := by rw [e_124, show Int32.ofInt 1 = 1 by decide]; exact (q_add (by rw [show (1 : Int32).toInt = 1 by decide]; omega) (by rw [show (1 : Int32).toInt = 1 by decide]; omega)).trans (by rw [show (1 : Int32).toInt = 1 by decide])
            refine lv_iinc (v := x_123) (lv' := [(6, .int x_123), (5, .int x_121), (7, .int x_110), (0, .ref a0), (1, .int a1), (2, .int a2), (3, .long a3)]) hx hb dX9_weightAbove_49 hl (k := 2) rfl e_124.symm (by decide) rfl (fun ls hl => ?_)
            refine lv_pc (pc2 := 52) rfl ?_
            refine lv_goto (tgt := 6) hx hb dX9_weightAbove_52 (by decide) ?_
            exact (hWW _ _ _).mp (ih x_123 x_121 (g + 24) H locs ls (by omega) (by omega) (by omega) (by omega) hG hS (lv_sub hl [0, 1, 3, 4, 5, 6] rfl))
  have hz_yw : (0 : Int32).toInt = 0 := by decide
  have hz_ys : (0 : Int32).toInt = 0 := by decide
  exact loop (4 - 0 : Int).toNat 0 0 G H locs ls (by omega) (by omega) (by omega) (by omega) hG hS (lv_sub hl [0, 1, 2, 3, 4, 5] rfl)
