theorem dX9_build_0 : decode cX9_build 0 = .ok (.aload_n 0, 1) := by decide +kernel
theorem dX9_build_1 : decode cX9_build 1 = .ok (.getfield 10, 3) := by decide +kernel
theorem dX9_build_4 : decode cX9_build 4 = .ok (.aload_n 0, 1) := by decide +kernel
theorem dX9_build_5 : decode cX9_build 5 = .ok (.getfield 23, 3) := by decide +kernel
theorem dX9_build_8 : decode cX9_build 8 = .ok (.invokevirtual 110, 3) := by decide +kernel
theorem dX9_build_11 : decode cX9_build 11 = .ok (.bipush (-4), 2) := by decide +kernel
theorem dX9_build_13 : decode cX9_build 13 = .ok (.if_icmp .ne 13, 3) := by decide +kernel
theorem dX9_build_16 : decode cX9_build 16 = .ok (.aload_n 0, 1) := by decide +kernel
theorem dX9_build_17 : decode cX9_build 17 = .ok (.getfield 23, 3) := by decide +kernel
theorem dX9_build_20 : decode cX9_build 20 = .ok (.getfield 114, 3) := by decide +kernel
theorem dX9_build_23 : decode cX9_build 23 = .ok (.ifCond .ne 6, 3) := by decide +kernel
theorem dX9_build_26 : decode cX9_build 26 = .ok (.bipush (-2), 2) := by decide +kernel
theorem dX9_build_28 : decode cX9_build 28 = .ok (.ireturn, 1) := by decide +kernel
theorem dX9_build_29 : decode cX9_build 29 = .ok (.aload_n 0, 1) := by decide +kernel
theorem dX9_build_30 : decode cX9_build 30 = .ok (.getfield 74, 3) := by decide +kernel
theorem dX9_build_33 : decode cX9_build 33 = .ok (.invokevirtual 117, 3) := by decide +kernel
theorem dX9_build_36 : decode cX9_build 36 = .ok (.aload_n 0, 1) := by decide +kernel
theorem dX9_build_37 : decode cX9_build 37 = .ok (.getfield 81, 3) := by decide +kernel
theorem dX9_build_40 : decode cX9_build 40 = .ok (.invokevirtual 120, 3) := by decide +kernel
theorem dX9_build_43 : decode cX9_build 43 = .ok (.aload_n 0, 1) := by decide +kernel
theorem dX9_build_44 : decode cX9_build 44 = .ok (.invokevirtual 121, 3) := by decide +kernel
theorem dX9_build_47 : decode cX9_build 47 = .ok (.aload_n 0, 1) := by decide +kernel
theorem dX9_build_48 : decode cX9_build 48 = .ok (.getfield 19, 3) := by decide +kernel
theorem dX9_build_51 : decode cX9_build 51 = .ok (.getfield 124, 3) := by decide +kernel
theorem dX9_build_54 : decode cX9_build 54 = .ok (.ireturn, 1) := by decide +kernel
theorem dX9_gauge_0 : decode cX9_gauge 0 = .ok (.iload_n 1, 1) := by decide +kernel
theorem dX9_gauge_1 : decode cX9_gauge 1 = .ok (.invokestatic 205, 3) := by decide +kernel
theorem dX9_gauge_4 : decode cX9_gauge 4 = .ok (.ifCond .ne 12, 3) := by decide +kernel
theorem dX9_gauge_7 : decode cX9_gauge 7 = .ok (.iload_n 2, 1) := by decide +kernel
theorem dX9_gauge_8 : decode cX9_gauge 8 = .ok (.iconst 0, 1) := by decide +kernel
theorem dX9_gauge_9 : decode cX9_gauge 9 = .ok (.iconst 1, 1) := by decide +kernel
theorem dX9_gauge_10 : decode cX9_gauge 10 = .ok (.invokestatic 99, 3) := by decide +kernel
theorem dX9_gauge_13 : decode cX9_gauge 13 = .ok (.ifCond .eq 5, 3) := by decide +kernel
theorem dX9_gauge_16 : decode cX9_gauge 16 = .ok (.iconst (-1), 1) := by decide +kernel
theorem dX9_gauge_17 : decode cX9_gauge 17 = .ok (.ireturn, 1) := by decide +kernel
theorem dX9_gauge_18 : decode cX9_gauge 18 = .ok (.iload_n 2, 1) := by decide +kernel
theorem dX9_gauge_19 : decode cX9_gauge 19 = .ok (.ifCond .ne 13, 3) := by decide +kernel
theorem dX9_gauge_22 : decode cX9_gauge 22 = .ok (.iload_n 3, 1) := by decide +kernel
theorem dX9_gauge_23 : decode cX9_gauge 23 = .ok (.invokestatic 127, 3) := by decide +kernel
theorem dX9_gauge_26 : decode cX9_gauge 26 = .ok (.ifCond .eq 15, 3) := by decide +kernel
theorem dX9_gauge_29 : decode cX9_gauge 29 = .ok (.goto 10, 3) := by decide +kernel
theorem dX9_gauge_32 : decode cX9_gauge 32 = .ok (.iload_n 3, 1) := by decide +kernel
theorem dX9_gauge_33 : decode cX9_gauge 33 = .ok (.invokestatic 155, 3) := by decide +kernel
theorem dX9_gauge_36 : decode cX9_gauge 36 = .ok (.ifCond .eq 5, 3) := by decide +kernel
theorem dX9_gauge_39 : decode cX9_gauge 39 = .ok (.iconst (-1), 1) := by decide +kernel
theorem dX9_gauge_40 : decode cX9_gauge 40 = .ok (.ireturn, 1) := by decide +kernel
theorem dX9_gauge_41 : decode cX9_gauge 41 = .ok (.iload_n 2, 1) := by decide +kernel
theorem dX9_gauge_42 : decode cX9_gauge 42 = .ok (.ifCond .ne 14, 3) := by decide +kernel
theorem dX9_gauge_45 : decode cX9_gauge 45 = .ok (.aload_n 0, 1) := by decide +kernel
theorem dX9_gauge_46 : decode cX9_gauge 46 = .ok (.iload_n 3, 1) := by decide +kernel
theorem dX9_gauge_47 : decode cX9_gauge 47 = .ok (.invokevirtual 131, 3) := by decide +kernel
theorem dX9_gauge_50 : decode cX9_gauge 50 = .ok (.ifCond .eq 17, 3) := by decide +kernel
theorem dX9_gauge_53 : decode cX9_gauge 53 = .ok (.goto 11, 3) := by decide +kernel
theorem dX9_gauge_56 : decode cX9_gauge 56 = .ok (.aload_n 0, 1) := by decide +kernel
theorem dX9_gauge_57 : decode cX9_gauge 57 = .ok (.iload_n 3, 1) := by decide +kernel
theorem dX9_gauge_58 : decode cX9_gauge 58 = .ok (.invokevirtual 160, 3) := by decide +kernel
theorem dX9_gauge_61 : decode cX9_gauge 61 = .ok (.ifCond .eq 6, 3) := by decide +kernel
theorem dX9_gauge_64 : decode cX9_gauge 64 = .ok (.bipush (-2), 2) := by decide +kernel
theorem dX9_gauge_66 : decode cX9_gauge 66 = .ok (.ireturn, 1) := by decide +kernel
theorem dX9_gauge_67 : decode cX9_gauge 67 = .ok (.aload_n 0, 1) := by decide +kernel
theorem dX9_gauge_68 : decode cX9_gauge 68 = .ok (.getfield 74, 3) := by decide +kernel
theorem dX9_gauge_71 : decode cX9_gauge 71 = .ok (.iload_n 1, 1) := by decide +kernel
theorem dX9_gauge_72 : decode cX9_gauge 72 = .ok (.iload_n 2, 1) := by decide +kernel
theorem dX9_gauge_73 : decode cX9_gauge 73 = .ok (.iload_n 3, 1) := by decide +kernel
theorem dX9_gauge_74 : decode cX9_gauge 74 = .ok (.invokevirtual 208, 3) := by decide +kernel
theorem dX9_gauge_77 : decode cX9_gauge 77 = .ok (.iconst 0, 1) := by decide +kernel
theorem dX9_gauge_78 : decode cX9_gauge 78 = .ok (.ireturn, 1) := by decide +kernel
theorem dX9_take_0 : decode cX9_take 0 = .ok (.iload_n 1, 1) := by decide +kernel
theorem dX9_take_1 : decode cX9_take 1 = .ok (.ifCond .ge 5, 3) := by decide +kernel
theorem dX9_take_4 : decode cX9_take 4 = .ok (.iconst (-1), 1) := by decide +kernel
theorem dX9_take_5 : decode cX9_take 5 = .ok (.ireturn, 1) := by decide +kernel
theorem dX9_take_6 : decode cX9_take 6 = .ok (.aload_n 0, 1) := by decide +kernel
theorem dX9_take_7 : decode cX9_take 7 = .ok (.getfield 29, 3) := by decide +kernel
theorem dX9_take_10 : decode cX9_take 10 = .ok (.ifCond .ne 6, 3) := by decide +kernel
theorem dX9_take_13 : decode cX9_take 13 = .ok (.bipush (-2), 2) := by decide +kernel
theorem dX9_take_15 : decode cX9_take 15 = .ok (.ireturn, 1) := by decide +kernel
theorem dX9_take_16 : decode cX9_take 16 = .ok (.aload_n 0, 1) := by decide +kernel
theorem dX9_take_17 : decode cX9_take 17 = .ok (.iload_n 1, 1) := by decide +kernel
theorem dX9_take_18 : decode cX9_take 18 = .ok (.invokevirtual 249, 3) := by decide +kernel
theorem dX9_take_21 : decode cX9_take 21 = .ok (.bipush (-4), 2) := by decide +kernel
theorem dX9_take_23 : decode cX9_take 23 = .ok (.if_icmp .ne 6, 3) := by decide +kernel
theorem dX9_take_26 : decode cX9_take 26 = .ok (.bipush (-4), 2) := by decide +kernel
theorem dX9_take_28 : decode cX9_take 28 = .ok (.ireturn, 1) := by decide +kernel
theorem dX9_take_29 : decode cX9_take 29 = .ok (.aload_n 0, 1) := by decide +kernel
theorem dX9_take_30 : decode cX9_take 30 = .ok (.invokevirtual 121, 3) := by decide +kernel
theorem dX9_take_33 : decode cX9_take 33 = .ok (.iconst 0, 1) := by decide +kernel
theorem dX9_take_34 : decode cX9_take 34 = .ok (.ireturn, 1) := by decide +kernel
theorem dX9_swap_0 : decode cX9_swap 0 = .ok (.iload_n 1, 1) := by decide +kernel
theorem dX9_swap_1 : decode cX9_swap 1 = .ok (.invokestatic 127, 3) := by decide +kernel
theorem dX9_swap_4 : decode cX9_swap 4 = .ok (.ifCond .eq 5, 3) := by decide +kernel
theorem dX9_swap_7 : decode cX9_swap 7 = .ok (.iconst (-1), 1) := by decide +kernel
theorem dX9_swap_8 : decode cX9_swap 8 = .ok (.ireturn, 1) := by decide +kernel
theorem dX9_swap_9 : decode cX9_swap 9 = .ok (.aload_n 0, 1) := by decide +kernel
theorem dX9_swap_10 : decode cX9_swap 10 = .ok (.iload_n 1, 1) := by decide +kernel
theorem dX9_swap_11 : decode cX9_swap 11 = .ok (.invokevirtual 131, 3) := by decide +kernel
theorem dX9_swap_14 : decode cX9_swap 14 = .ok (.ifCond .ne 31, 3) := by decide +kernel
theorem dX9_swap_17 : decode cX9_swap 17 = .ok (.aload_n 0, 1) := by decide +kernel
theorem dX9_swap_18 : decode cX9_swap 18 = .ok (.getfield 10, 3) := by decide +kernel
theorem dX9_swap_21 : decode cX9_swap 21 = .ok (.invokevirtual 305, 3) := by decide +kernel
theorem dX9_swap_24 : decode cX9_swap 24 = .ok (.ifCond .eq 21, 3) := by decide +kernel
theorem dX9_swap_27 : decode cX9_swap 27 = .ok (.aload_n 0, 1) := by decide +kernel
theorem dX9_swap_28 : decode cX9_swap 28 = .ok (.getfield 19, 3) := by decide +kernel
theorem dX9_swap_31 : decode cX9_swap 31 = .ok (.iload_n 1, 1) := by decide +kernel
theorem dX9_swap_32 : decode cX9_swap 32 = .ok (.aload_n 0, 1) := by decide +kernel
theorem dX9_swap_33 : decode cX9_swap 33 = .ok (.getfield 10, 3) := by decide +kernel
theorem dX9_swap_36 : decode cX9_swap 36 = .ok (.getfield 309, 3) := by decide +kernel
theorem dX9_swap_39 : decode cX9_swap 39 = .ok (.invokevirtual 312, 3) := by decide +kernel
theorem dX9_swap_42 : decode cX9_swap 42 = .ok (.ifCond .ne 6, 3) := by decide +kernel
theorem dX9_swap_45 : decode cX9_swap 45 = .ok (.bipush (-2), 2) := by decide +kernel
theorem dX9_swap_47 : decode cX9_swap 47 = .ok (.ireturn, 1) := by decide +kernel
theorem dX9_swap_48 : decode cX9_swap 48 = .ok (.aload_n 0, 1) := by decide +kernel
theorem dX9_swap_49 : decode cX9_swap 49 = .ok (.getfield 26, 3) := by decide +kernel
theorem dX9_swap_52 : decode cX9_swap 52 = .ok (.aload_n 0, 1) := by decide +kernel
theorem dX9_swap_53 : decode cX9_swap 53 = .ok (.getfield 19, 3) := by decide +kernel
theorem dX9_swap_56 : decode cX9_swap 56 = .ok (.invokevirtual 316, 3) := by decide +kernel
theorem dX9_swap_59 : decode cX9_swap 59 = .ok (.aload_n 0, 1) := by decide +kernel
theorem dX9_swap_60 : decode cX9_swap 60 = .ok (.getfield 26, 3) := by decide +kernel
theorem dX9_swap_63 : decode cX9_swap 63 = .ok (.iload_n 1, 1) := by decide +kernel
theorem dX9_swap_64 : decode cX9_swap 64 = .ok (.aload_n 0, 1) := by decide +kernel
theorem dX9_swap_65 : decode cX9_swap 65 = .ok (.getfield 10, 3) := by decide +kernel
theorem dX9_swap_68 : decode cX9_swap 68 = .ok (.getfield 309, 3) := by decide +kernel
theorem dX9_swap_71 : decode cX9_swap 71 = .ok (.invokevirtual 319, 3) := by decide +kernel
theorem dX9_swap_74 : decode cX9_swap 74 = .ok (.aload_n 0, 1) := by decide +kernel
theorem dX9_swap_75 : decode cX9_swap 75 = .ok (.iconst 1, 1) := by decide +kernel
theorem dX9_swap_76 : decode cX9_swap 76 = .ok (.putfield 33, 3) := by decide +kernel
theorem dX9_swap_79 : decode cX9_swap 79 = .ok (.iconst 0, 1) := by decide +kernel
theorem dX9_swap_80 : decode cX9_swap 80 = .ok (.ireturn, 1) := by decide +kernel
theorem dX9_laySwap_0 : decode cX9_laySwap 0 = .ok (.aload_n 0, 1) := by decide +kernel
theorem dX9_laySwap_1 : decode cX9_laySwap 1 = .ok (.getfield 33, 3) := by decide +kernel
theorem dX9_laySwap_4 : decode cX9_laySwap 4 = .ok (.ifCond .ne 6, 3) := by decide +kernel
theorem dX9_laySwap_7 : decode cX9_laySwap 7 = .ok (.bipush (-2), 2) := by decide +kernel
theorem dX9_laySwap_9 : decode cX9_laySwap 9 = .ok (.ireturn, 1) := by decide +kernel
theorem dX9_laySwap_10 : decode cX9_laySwap 10 = .ok (.aload_n 0, 1) := by decide +kernel
theorem dX9_laySwap_11 : decode cX9_laySwap 11 = .ok (.getfield 23, 3) := by decide +kernel
theorem dX9_laySwap_14 : decode cX9_laySwap 14 = .ok (.aload_n 0, 1) := by decide +kernel
theorem dX9_laySwap_15 : decode cX9_laySwap 15 = .ok (.getfield 26, 3) := by decide +kernel
theorem dX9_laySwap_18 : decode cX9_laySwap 18 = .ok (.invokevirtual 316, 3) := by decide +kernel
theorem dX9_laySwap_21 : decode cX9_laySwap 21 = .ok (.aload_n 0, 1) := by decide +kernel
theorem dX9_laySwap_22 : decode cX9_laySwap 22 = .ok (.invokevirtual 121, 3) := by decide +kernel
theorem dX9_laySwap_25 : decode cX9_laySwap 25 = .ok (.iconst 0, 1) := by decide +kernel
theorem dX9_laySwap_26 : decode cX9_laySwap 26 = .ok (.ireturn, 1) := by decide +kernel
def uhX9_take : List Cond := .code yX9_take cX9_take 2 (some .int) :: ([.fieldLink RX9 29 "RiverModel" "isBuilt" "Z", .methodLink RX9 249 yX9_holdingPoint, .instanceMethod yX9_holdingPoint, .selects RX9 yX9_holdingPoint yX9_holdingPoint, .initialized RX9, .methodLink RX9 121 yX9_draftBecomesModel, .instanceMethod yX9_draftBecomesModel, .selects RX9 yX9_draftBecomesModel yX9_draftBecomesModel, .code yX9_holdingPoint cX9_holdingPoint 5 (some .int), .fieldLink RX9 81 "RiverModel" "knobs" "LRiverModel$Knobs;", .methodLink RX9 239 yX3_points, .instanceMethod yX3_points, .selects RX3 yX3_points yX3_points, .initialized RX3, .methodLink RX9 243 yX9_pointHolds, .instanceMethod yX9_pointHolds, .selects RX9 yX9_pointHolds yX9_pointHolds, .code yX3_points cX3_points 1 (some .int), .methodLink RX3 40 yX3_pointsOf, .instanceMethod yX3_pointsOf, .selects RX3 yX3_pointsOf yX3_pointsOf, .code yX3_pointsOf cX3_pointsOf 2 (some .int), .methodLink RX3 37 yX3_isSet, .instanceMethod yX3_isSet, .selects RX3 yX3_isSet yX3_isSet, .fieldLink RX3 24 "RiverModel$Knobs" "manys" "[I", .code yX3_isSet cX3_isSet 2 (some .boolean), .code yX9_pointHolds cX9_pointHolds 4 (some .boolean), .fieldLink RX9 23 "RiverModel" "draft" "LRiverModel$Model;", .fieldLink RX9 19 "RiverModel" "model" "LRiverModel$Model;", .methodLink RX9 316 yX4_copyFrom, .instanceMethod yX4_copyFrom, .selects RX4 yX4_copyFrom yX4_copyFrom, .initialized RX4, .methodLink RX9 350 yX3_lay, .instanceMethod yX3_lay, .selects RX3 yX3_lay yX3_lay, .fieldLink RX9 57 "RiverModel" "trial" "LRiverModel$Course;", .methodLink RX9 147 yX0_begin, .instanceMethod yX0_begin, .selects RX0 yX0_begin yX0_begin, .initialized RX0, .fieldLink RX9 74 "RiverModel" "gauges" "LRiverModel$Gauges;", .methodLink RX9 354 yX1_lastSeen, .instanceMethod yX1_lastSeen, .selects RX1 yX1_lastSeen yX1_lastSeen, .initialized RX1, .fieldLink RX9 39 "RiverModel" "skyA" "LRiverModel$Sky;", .methodLink RX9 357 yX6_rainIn, .instanceMethod yX6_rainIn, .selects RX6 yX6_rainIn yX6_rainIn, .initialized RX6, .methodLink RX9 360 yX6_tempIn, .instanceMethod yX6_tempIn, .selects RX6 yX6_tempIn yX6_tempIn, .methodLink RX9 363 yX0_goHour, .instanceMethod yX0_goHour, .selects RX0 yX0_goHour yX0_goHour, .methodLink RX9 367 yX1_agree, .instanceMethod yX1_agree, .selects RX1 yX1_agree yX1_agree, .code yX4_copyFrom cX4_copyFrom 2 none, .fieldLink RX4 9 "RiverModel$Model" "cells" "[I", .methodLink RX4 37 arraycopyName, .native arraycopyName, .static arraycopyName, .initialized "java/lang/System", .fieldLink RX4 15 "RiverModel$Model" "storeItems" "[I", .fieldLink RX4 18 "RiverModel$Model" "gateItems" "[I", .fieldLink RX4 21 "RiverModel$Model" "many" "I", .fieldLink RX4 25 "RiverModel$Model" "stores" "I", .fieldLink RX4 28 "RiverModel$Model" "gates" "I", .code yX3_lay cX3_lay 4 (some .boolean), .fieldLink RX3 9 "RiverModel$Knobs" "items" "[I", .methodLink RX3 63 yX4_isItemAsTold, .instanceMethod yX4_isItemAsTold, .selects RX4 yX4_isItemAsTold yX4_isItemAsTold, .fieldLink RX3 15 "RiverModel$Knobs" "numbers" "[I", .methodLink RX3 50 yX4_hasNumber, .instanceMethod yX4_hasNumber, .selects RX4 yX4_hasNumber yX4_hasNumber, .methodLink RX3 56 yX3_numberAt, .instanceMethod yX3_numberAt, .selects RX3 yX3_numberAt yX3_numberAt, .methodLink RX3 59 yX4_putCell, .instanceMethod yX4_putCell, .selects RX4 yX4_putCell yX4_putCell, .code yX4_isItemAsTold cX4_isItemAsTold 2 (some .boolean), .methodLink RX4 73 yX4_cell, .instanceMethod yX4_cell, .selects RX4 yX4_cell yX4_cell, .methodLink RX4 77 yX2_areNumbersAsTold, .static yX2_areNumbersAsTold, .initialized RX2, .code yX4_cell cX4_cell 3 (some .int), .code yX2_areNumbersAsTold cX2_areNumbersAsTold 4 (some .boolean), .methodLink RX2 10 yX2_isUpTo, .static yX2_isUpTo, .constant RX2 9 (1000000), .code yX2_isUpTo cX2_isUpTo 2 (some .boolean), .code yX4_hasNumber cX4_hasNumber 3 (some .boolean), .methodLink RX4 86 yX2_numbersOf, .static yX2_numbersOf, .code yX2_numbersOf cX2_numbersOf 1 (some .int), .code yX3_numberAt cX3_numberAt 4 (some .int), .static yX9_isNoKnob, .methodLink RX3 44 Lib.Math.max.name, .static Lib.Math.max.name, .initialized "java/lang/Math", .code Lib.Math.max.name Lib.Math.max.code 2 (some .int), .fieldLink RX3 18 "RiverModel$Knobs" "froms" "[I", .fieldLink RX3 21 "RiverModel$Knobs" "steps" "[I", .code yX9_isNoKnob cX9_isNoKnob 1 (some .boolean), .code yX4_putCell cX4_putCell 4 none, .static yX9_isNoItem, .static yX9_isOutside, .code yX9_isNoItem cX9_isNoItem 1 (some .boolean), .code yX9_isOutside cX9_isOutside 3 (some .boolean), .code yX0_begin cX0_begin 3 none, .fieldLink RX0 15 "RiverModel$Course" "moved" "[J", .methodLink RX0 45 yJ7_fill_d0a16, .static yJ7_fill_d0a16, .initialized RJ7, .fieldLink RX0 18 "RiverModel$Course" "openings" "[I", .methodLink RX0 51 yJ7_fill_53178, .static yJ7_fill_53178, .fieldLink RX0 22 "RiverModel$Course" "due" "[J", .fieldLink RX0 25 "RiverModel$Course" "rained" "J", .fieldLink RX0 29 "RiverModel$Course" "air" "J", .fieldLink RX0 32 "RiverModel$Course" "sea" "J", .fieldLink RX0 35 "RiverModel$Course" "hours" "I", .fieldLink RX0 9 "RiverModel$Course" "held" "[J", .methodLink RX0 39 yX4_startOf, .instanceMethod yX4_startOf, .selects RX4 yX4_startOf yX4_startOf, .code yJ7_fill_d0a16 cJ7_fill_d0a16 5 none, .code yJ7_fill_53178 cJ7_fill_53178 4 none, .code yX4_startOf cX4_startOf 2 (some .int), .methodLink RX4 66 yX4_hasStore, .instanceMethod yX4_hasStore, .selects RX4 yX4_hasStore yX4_hasStore, .code yX4_hasStore cX4_hasStore 2 (some .boolean), .code yX1_lastSeen cX1_lastSeen 3 (some .int), .fieldLink RX1 18 "RiverModel$Gauges" "seen" "[I", .methodLink RX1 67 Lib.Math.max.name, .code yX6_rainIn cX6_rainIn 2 (some .int), .fieldLink RX6 9 "RiverModel$Sky" "rains" "[I", .code yX6_tempIn cX6_tempIn 2 (some .int), .fieldLink RX6 15 "RiverModel$Sky" "temps" "[I", .code yX0_goHour cX0_goHour 7 none, .methodLink RX0 72 yX0_bringDue, .instanceMethod yX0_bringDue, .selects RX0 yX0_bringDue yX0_bringDue, .fieldLink RX0 75 "RiverModel$Model" "many" "I", .methodLink RX0 78 yX0_amountOf, .instanceMethod yX0_amountOf, .selects RX0 yX0_amountOf yX0_amountOf, .methodLink RX0 82 yX0_move, .instanceMethod yX0_move, .selects RX0 yX0_move yX0_move, .code yX0_bringDue cX0_bringDue 3 none, .code yX0_amountOf cX0_amountOf 11 (some .long), .methodLink RX0 86 yX4_cell, .static yX9_isNoStore, .methodLink RX0 110 yX4_gateOf, .instanceMethod yX4_gateOf, .selects RX4 yX4_gateOf yX4_gateOf, .methodLink RX0 113 yX0_openingOf, .instanceMethod yX0_openingOf, .selects RX0 yX0_openingOf yX0_openingOf, .methodLink RX0 107 Lib.MathLoose.min_long.x, .static Lib.MathLoose.min_long.x, .code Lib.MathLoose.min_long.x Lib.MathLoose.min_long.code 4 (some .long), .methodLink RX0 94 yX0_leakOf, .static yX0_leakOf, .constantLong RX0 117 (100), .methodLink RX0 98 yX4_capacityOf, .instanceMethod yX4_capacityOf, .selects RX4 yX4_capacityOf yX4_capacityOf, .methodLink RX0 101 Lib.MathLoose.max_long.x, .static Lib.MathLoose.max_long.x, .code Lib.MathLoose.max_long.x Lib.MathLoose.max_long.code 4 (some .long), .constantLong RX0 119 (10), .code yX9_isNoStore cX9_isNoStore 1 (some .boolean), .code yX4_gateOf cX4_gateOf 3 (some .int), .code yX0_openingOf cX0_openingOf 2 (some .long), .static yX9_isNoGate, .code yX9_isNoGate cX9_isNoGate 1 (some .boolean), .code yX0_leakOf cX0_leakOf 8 (some .long), .code yX4_capacityOf cX4_capacityOf 2 (some .int), .code yX0_move cX0_move 8 none, .methodLink RX0 124 yX0_send, .instanceMethod yX0_send, .selects RX0 yX0_send yX0_send, .code yX0_send cX0_send 5 none, .code yX1_agree cX1_agree 5 (some .boolean), .methodLink RX1 57 yX1_reading, .instanceMethod yX1_reading, .selects RX1 yX1_reading yX1_reading, .methodLink RX1 61 Lib.MathLoose.abs_long.x, .static Lib.MathLoose.abs_long.x, .code Lib.MathLoose.abs_long.x Lib.MathLoose.abs_long.code 2 (some .long), .fieldLink RX1 21 "RiverModel$Gauges" "mayBeOff" "I", .code yX1_reading cX1_reading 4 (some .long), .methodLink RX1 35 yX1_isSet, .instanceMethod yX1_isSet, .selects RX1 yX1_isSet yX1_isSet, .fieldLink RX1 15 "RiverModel$Gauges" "places" "[I", .fieldLink RX1 9 "RiverModel$Gauges" "whats" "[I", .fieldLink RX1 50 "RiverModel$Course" "held" "[J", .fieldLink RX1 41 "RiverModel$Course" "moved" "[J", .code yX1_isSet cX1_isSet 2 (some .boolean), .code yX9_draftBecomesModel cX9_draftBecomesModel 3 none, .fieldLink RX9 33 "RiverModel" "isOtherLaid" "Z", .fieldLink RX9 67 "RiverModel" "keptMany" "I", .fieldLink RX9 53 "RiverModel" "now" "LRiverModel$Course;", .fieldLink RX9 46 "RiverModel" "startsB" "[I", .methodLink RX9 347 yX4_startOf] ++ wsX90 ++ wsX30 ++ wsX40 ++ wsX00 ++ wsX10 ++ wsX60)
set_option maxRecDepth 20000 in
theorem gu_hX9_take_hX9_holdingPoint_249 : GoodIn uhX9_take (wsV RX9 249 RX9 yX9_holdingPoint uhX9_holdingPoint) := goodIn_r _ [2, 3, 4, 5, 9, 10, 11, 12, 13, 14, 15, 16, 17, 5, 18, 19, 20, 21, 22, 23, 24, 25, 26, 27, 28, 29, 30, 31, 32, 33, 34, 35, 36, 37, 38, 39, 40, 41, 42, 43, 44, 45, 46, 47, 48, 49, 50, 51, 52, 53, 54, 55, 56, 57, 58, 59, 60, 61, 62, 63, 64, 65, 66, 67, 68, 69, 70, 71, 72, 73, 74, 75, 76, 77, 78, 79, 80, 81, 82, 83, 84, 85, 86, 87, 88, 89, 90, 91, 92, 93, 94, 95, 96, 97, 98, 99, 100, 101, 102, 103, 104, 105, 106, 107, 108, 109, 110, 111, 112, 113, 114, 115, 116, 117, 118, 119, 120, 121, 122, 123, 124, 125, 126, 127, 128, 129, 130, 131, 132, 133, 134, 135, 136, 137, 138, 139, 140, 141, 142, 143, 144, 145, 146, 147, 148, 149, 150, 151, 152, 153, 154, 155, 156, 157, 158, 159, 160, 161, 162, 163, 164, 165, 166, 167, 168, 169, 170, 171, 172, 173, 174, 175, 176, 177, 178, 179, 180, 181, 182, 183, 184, 185, 186, 187, 188, 189, 190, 191, 192, 193, 194, 195, 196, 197, 198, 199, 200, 201, 202, 203, 204, 205, 206, 207, 208, 209, 210, 211, 212, 219, 220, 221, 222, 223, 224, 225, 226, 227, 228, 229, 230, 231, 232, 233, 234, 235, 236, 237, 238, 239, 240, 241, 242, 243, 244, 245, 246, 247, 248, 249, 250, 251, 252, 253, 254, 255, 256, 257, 258, 259, 260, 261] rfl (by decide +kernel)
set_option maxRecDepth 20000 in
theorem gu_hX9_take_hX9_draftBecomesModel_121 : GoodIn uhX9_take (wsV RX9 121 RX9 yX9_draftBecomesModel uhX9_draftBecomesModel) := goodIn_r _ [6, 7, 8, 5, 213, 30, 29, 1, 214, 215, 216, 39, 40, 41, 42, 217, 218, 134, 135, 34, 119, 120, 121, 122, 123, 124, 125, 126, 127, 128, 129, 130, 131, 132, 133, 136, 137, 138, 139, 140, 141, 68, 89, 90, 91, 142, 95, 63, 219, 220, 221, 222, 223, 224, 225, 226, 227, 228, 229, 230, 231, 232, 233, 234, 235, 236, 248, 249, 250, 251, 252, 253, 254, 255, 242, 243, 244, 245, 246, 247] rfl (by decide +kernel)
set_option maxHeartbeats 4000000 in
set_option maxRecDepth 100000 in
theorem h_X9_take (l : Launch) (D : va_G) (t : Nat → Nat) (cI cL cC : ClassId) (gC : Int32) (gP : Int32) (gT : Nat → Int32) (gR : Nat → Int32) (mm : Int32) (ms : Int32) (mg : Int32) (mL : Nat → Int32) (mQ : Nat → Int32) (mZ : Nat → Int32) (dm : Int32) (ds : Int32) (dg : Int32) (dL : Nat → Int32) (dQ : Nat → Int32) (dZ : Nat → Int32) (om : Int32) (os : Int32) (og : Int32) (oL : Nat → Int32) (oQ : Nat → Int32) (oZ : Nat → Int32) (gB : Int32) (gO : Int32) (xk : Int32) (gE : Int32) (gV : Nat → Int32) (gU : Nat → Int32) (gN : Nat → Int32) (G : Nat) (gW : Nat → Int32) (gA : Nat → Int32) (a0 : Nat) (a1 : Int32) (uq : ∀ b c : Nat, t b = t c → uqK (t b) = true → b = c) (hC0 : 0 ≤ gC.toInt) (hC4 : gC.toInt ≤ 400) (hP0 : 0 ≤ gP.toInt) (hP4 : gP.toInt ≤ 400) (hTg : gBd 400 0 255 gT) (mg0 : 0 ≤ mg.toInt) (mg4 : mg.toInt ≤ 4) (dg0 : 0 ≤ dg.toInt) (dg4 : dg.toInt ≤ 4) (og0 : 0 ≤ og.toInt) (og4 : og.toInt ≤ 4) (xk0 : 0 ≤ xk.toInt) (xk3 : xk.toInt ≤ 3) (hGb : G ≤ 100000000) (hoC : othC gB gO mm om mL mQ oL oQ) (hm40 : m40 gB mm) (k_a0 : t a0 = 1) : tMz (Z := Bool × (Int32) × (Int32) × (Int32) × (Nat → Int32) × (Nat → Int32) × (Nat → Int32) × (Int32) × (Int32) × (Int32) × (Nat → Int32) × (Nat → Int32) × (Nat → Int32) × (Int32) × (Int32) × (Int32) × (Nat)) l yX9_take uhX9_take 6 146 D (hF cI cL cC gC gP gT gR mm ms mg mL mQ mZ dm ds dg dL dQ dZ om os og oL oQ oZ gB gO xk gE gV gU gN G gW gA) (fun z => (hF cI cL cC gC gP gT gR z.2.1 z.2.2.1 z.2.2.2.1 z.2.2.2.2.1 z.2.2.2.2.2.1 z.2.2.2.2.2.2.1 z.2.2.2.2.2.2.2.1 z.2.2.2.2.2.2.2.2.1 z.2.2.2.2.2.2.2.2.2.1 z.2.2.2.2.2.2.2.2.2.2.1 z.2.2.2.2.2.2.2.2.2.2.2.1 z.2.2.2.2.2.2.2.2.2.2.2.2.1 om os og oL oQ oZ z.2.2.2.2.2.2.2.2.2.2.2.2.2.1 z.2.2.2.2.2.2.2.2.2.2.2.2.2.2.1 z.2.2.2.2.2.2.2.2.2.2.2.2.2.2.2.1 gE gV gU gN z.2.2.2.2.2.2.2.2.2.2.2.2.2.2.2.2 gW gA)) (fun z => cond z.1 (fun q => sg (t q)) t) t cI cL cC [.ref a0, .int a1] hTake (xI (fun r (z : Bool × (Int32) × (Int32) × (Int32) × (Nat → Int32) × (Nat → Int32) × (Nat → Int32) × (Int32) × (Int32) × (Int32) × (Nat → Int32) × (Nat → Int32) × (Nat → Int32) × (Int32) × (Int32) × (Int32) × (Nat)) => 0 ≤ z.2.2.2.1.toInt ∧ z.2.2.2.1.toInt ≤ 4 ∧ 0 ≤ z.2.2.2.2.2.2.2.2.2.1.toInt ∧ z.2.2.2.2.2.2.2.2.2.1.toInt ≤ 4 ∧ 0 ≤ z.2.2.2.2.2.2.2.2.2.2.2.2.2.2.2.1.toInt ∧ z.2.2.2.2.2.2.2.2.2.2.2.2.2.2.2.1.toInt ≤ 3 ∧ (z.2.2.2.2.2.2.2.2.2.2.2.2.2.2.2.2 : Int) ≤ (G : Int) + 24576 ∧ smC gB z.2.2.2.2.2.2.2.2.2.2.2.2.2.1 mm z.2.1 mL mQ z.2.2.2.2.1 z.2.2.2.2.2.1 ∧ othC z.2.2.2.2.2.2.2.2.2.2.2.2.2.1 z.2.2.2.2.2.2.2.2.2.2.2.2.2.2.1 z.2.1 om z.2.2.2.2.1 z.2.2.2.2.2.1 oL oQ)) := by
  refine tMz.ofW (cc := cX9_take) (maxL := 2) (ret := (some .int)) (by decide) rfl (Nat.le_of_ble_eq_true rfl) ?_
  intro p e s m below meth c hx hb hr hml hown hts hlk H locs hG hK hE hS ls hl
  have hl : lv_has ls 2 [(0, .ref a0), (1, .int a1)] := hl
  have in9 : ∀ w ∈ wsX90, w ∈ uhX9_take := fun w h => List.mem_cons_of_mem _ (List.mem_append_left _ (List.mem_append_left _ (List.mem_append_left _ (List.mem_append_left _ (List.mem_append_left _ (List.mem_append_right _ h))))))
  refine lv_iload_n hx hb dX9_take_0 rfl (lv_at hl 1 rfl) ?_
  refine lv_if_ge (tgt := 6) hx hb dX9_take_1 (by decide) (fun c_1 => ?_) (fun c_1 => ?_)
  · skip
    have c_1 : 0 ≤ a1.toInt := q_le c_1
    refine lv_aload_n hx hb dX9_take_6 rfl (lv_at hl 0 rfl) ?_
    obtain ⟨r_2, r_4, r_6, r_8, r_10, r_12, r_14, r_16, r_18, r_20, r_22, r_24, r_26, r_28, r_30, at_32, h_3, h_5, h_7, h_9, h_11, h_13, h_15, h_17, h_19, h_21, h_23, h_25, h_27, h_29, h_31⟩ := hF_o1 hG k_a0
    refine va_get (D := D) (ci := 8) (v := .int gB) (C := RX9) (T := TX9) (N := 18) hx hb hts in9 hown hK (va_one at_32) 0 rfl rfl 4 (by decide) (hts (.fieldLink RX9 29 "RiverModel" "isBuilt" "Z") (List.mem_of_getElem? (i := 1) rfl)) (fun _ h9 => h9) rfl dX9_take_7 ?_
    refine lv_if_ne (tgt := 16) hx hb dX9_take_10 (by decide) (fun c_33 => ?_) (fun c_33 => ?_)
    · skip
      have c_33 : gB.toInt ≠ 0 := q_ne c_33
      refine lv_aload_n hx hb dX9_take_16 rfl (lv_at hl 0 rfl) ?_
      refine lv_iload_n hx hb dX9_take_17 rfl (lv_at hl 1 rfl) ?_
      refine lv_pc (pc2 := 18) rfl ?_
      refine tx_calli (W.runV (As := [.int a1]) (rest := []) ⟨hx, hb, hml, hown, hts⟩ (h_X9_holdingPoint l D t cI cL cC gC gP gT gR mm ms mg mL mQ mZ dm ds dg dL dQ dZ om os og oL oQ oZ gB gO xk gE gV gU gN G gW gA a0 a1  uq (by omega) (by omega) (by omega) (by omega) hTg (by omega) (by omega) (by omega) (by omega) (by omega) (by omega) (by omega) (by omega) (by omega) k_a0) (cwV 1 hts gu_hX9_take_hX9_holdingPoint_249 rfl rfl rfl (by decide +kernel) ⟨Nat.le_of_ble_eq_true rfl, Nat.le_of_ble_eq_true rfl⟩) (tP_V hG hE at_32 rfl) rfl rfl hl.1 rfl (lv_room (Nat.le_of_ble_eq_true rfl)) dX9_take_18 ⟨Nat.le_of_ble_eq_true rfl, Nat.le_of_ble_eq_true rfl⟩) hS (wrL_sub (by decide)) (fun r_34 zz_37 H locs hp_35 hG hS o_36 => ?_)
      obtain ⟨dm_38, ds_39, dg_40, dL_41, dQ_42, dZ_43, G_44⟩ := zz_37
      have at_32 := va_at.keptC at_32 o_36 k_a0 rfl
      replace hG : tG D (hF cI cL cC gC gP gT gR mm ms mg mL mQ mZ dm_38 ds_39 dg_40 dL_41 dQ_42 dZ_43 om os og oL oQ oZ gB gO xk gE gV gU gN G_44 gW gA) t H := hG
      have hp_35 : (r_34.toInt ≠ -4 → drK mL mQ mm ms mg dL_41 dQ_42 dm_38 ds_39 dg_40) ∧ (G_44 : Int) ≤ (G : Int) + 24576 ∧ 0 ≤ dg_40.toInt ∧ dg_40.toInt ≤ 4 := hp_35
      obtain ⟨p_45, p_46, p_47, p_48⟩ := hp_35
      refine lv_bipush (v := (-4)) hx hb dX9_take_21 (by decide) ?_
      refine lv_icmp_ne (tgt := 29) hx hb dX9_take_23 (by decide) (fun c_49 => ?_) (fun c_49 => ?_)
      · skip
        have c_49 : r_34.toInt ≠ (-4) := q_ne c_49
        refine lv_aload_n hx hb dX9_take_29 rfl (lv_at hl 0 rfl) ?_
        refine tw_callv (t := t) (W.runV (As := []) (rest := []) ⟨hx, hb, hml, hown, hts⟩ (h_X9_draftBecomesModel l D t (fun q => sg (t q)) rfl cI cL cC gC gP gT gR mm ms mg mL mQ mZ dm_38 ds_39 dg_40 dL_41 dQ_42 dZ_43 om os og oL oQ oZ gB gO xk gE gV gU gN G_44 gW gA a0 uq (by omega) (by omega) (by omega) (by omega) k_a0) (cwV 0 hts gu_hX9_take_hX9_draftBecomesModel_121 rfl rfl rfl (by decide +kernel) ⟨Nat.le_of_ble_eq_true rfl, Nat.le_of_ble_eq_true rfl⟩) (tP_V hG hE at_32 rfl) rfl rfl hl.1 rfl (lv_room (Nat.le_of_ble_eq_true rfl)) dX9_take_30 ⟨Nat.le_of_ble_eq_true rfl, Nat.le_of_ble_eq_true rfl⟩) hS (fun q h => wrL_sub (by decide) _ ((sg_hBec (t q)).symm.trans h)) (fun H locs hp_50 hG hS o_51 => ?_)
        have k_a2 : (fun q => sg (t q)) a0 = 1 := by show sg (t a0) = 1; rw [k_a0]; rfl
        refine lv_iconst (v := 0) hx hb dX9_take_33 (by decide) ?_
        have zi_0 : (0 : Int32).toInt = 0 := by decide
        have zi_1 : (1 : Int32).toInt = 1 := by decide
        exact tz_iret (z := (true, dm_38, ds_39, dg_40, dL_41, dQ_42, dZ_43, mm, ms, mg, mL, mQ, mZ, 1, 0, 0, G_44)) hx hb hr hlk hG hS ⟨(by show 0 ≤ dg_40.toInt; omega), (by show dg_40.toInt ≤ 4; omega), (by show 0 ≤ mg.toInt; omega), (by show mg.toInt ≤ 4; omega), (by show 0 ≤ (0 : Int32).toInt; omega), (by show (0 : Int32).toInt ≤ 3; omega), (by show (G_44 : Int) ≤ (G : Int) + 24576; omega), (by show smC gB (1 : Int32) mm dm_38 mL mQ dL_41 dQ_42; exact smC.take (by omega) (by omega) (p_45 (by omega)) hm40), (by show othC (1 : Int32) (0 : Int32) dm_38 om dL_41 dQ_42 oL oQ; exact othC.none (by omega))⟩ dX9_take_34
      · skip
        have c_49 : r_34.toInt = (-4) := q_eq c_49
        refine lv_bipush (v := (-4)) hx hb dX9_take_26 (by decide) ?_
        refine lv_pc (pc2 := 28) rfl ?_
        have zi_m4 : ((-4) : Int32).toInt = (-4) := by decide
        exact tz_iret (z := (false, mm, ms, mg, mL, mQ, mZ, dm_38, ds_39, dg_40, dL_41, dQ_42, dZ_43, gB, gO, xk, G_44)) hx hb hr hlk hG hS ⟨(by show 0 ≤ mg.toInt; omega), (by show mg.toInt ≤ 4; omega), (by show 0 ≤ dg_40.toInt; omega), (by show dg_40.toInt ≤ 4; omega), (by show 0 ≤ xk.toInt; omega), (by show xk.toInt ≤ 3; omega), (by show (G_44 : Int) ≤ (G : Int) + 24576; omega), (show smC gB gB mm mm mL mQ mL mQ from smC.rf), (show othC gB gO mm om mL mQ oL oQ from hoC)⟩ dX9_take_28
    · skip
      have c_33 : gB.toInt = 0 := q_eq c_33
      refine lv_bipush (v := (-2)) hx hb dX9_take_13 (by decide) ?_
      have zi_m2 : ((-2) : Int32).toInt = (-2) := by decide
      exact tz_iret (z := (false, mm, ms, mg, mL, mQ, mZ, dm, ds, dg, dL, dQ, dZ, gB, gO, xk, G)) hx hb hr hlk hG hS ⟨(by show 0 ≤ mg.toInt; omega), (by show mg.toInt ≤ 4; omega), (by show 0 ≤ dg.toInt; omega), (by show dg.toInt ≤ 4; omega), (by show 0 ≤ xk.toInt; omega), (by show xk.toInt ≤ 3; omega), (by show (G : Int) ≤ (G : Int) + 24576; omega), (show smC gB gB mm mm mL mQ mL mQ from smC.rf), (show othC gB gO mm om mL mQ oL oQ from hoC)⟩ dX9_take_15
  · skip
    have c_1 : a1.toInt < 0 := q_nle c_1
    refine lv_iconst (v := (-1)) hx hb dX9_take_4 (by decide) ?_
    have zi_m1 : ((-1) : Int32).toInt = (-1) := by decide
    exact tz_iret (z := (false, mm, ms, mg, mL, mQ, mZ, dm, ds, dg, dL, dQ, dZ, gB, gO, xk, G)) hx hb hr hlk hG hS ⟨(by show 0 ≤ mg.toInt; omega), (by show mg.toInt ≤ 4; omega), (by show 0 ≤ dg.toInt; omega), (by show dg.toInt ≤ 4; omega), (by show 0 ≤ xk.toInt; omega), (by show xk.toInt ≤ 3; omega), (by show (G : Int) ≤ (G : Int) + 24576; omega), (show smC gB gB mm mm mL mQ mL mQ from smC.rf), (show othC gB gO mm om mL mQ oL oQ from hoC)⟩ dX9_take_5

def uhX9_laySwap : List Cond := .code yX9_laySwap cX9_laySwap 1 (some .int) :: ([.fieldLink RX9 33 "RiverModel" "isOtherLaid" "Z", .fieldLink RX9 23 "RiverModel" "draft" "LRiverModel$Model;", .fieldLink RX9 26 "RiverModel" "other" "LRiverModel$Model;", .methodLink RX9 316 yX4_copyFrom, .instanceMethod yX4_copyFrom, .selects RX4 yX4_copyFrom yX4_copyFrom, .initialized RX4, .methodLink RX9 121 yX9_draftBecomesModel, .instanceMethod yX9_draftBecomesModel, .selects RX9 yX9_draftBecomesModel yX9_draftBecomesModel, .initialized RX9, .code yX4_copyFrom cX4_copyFrom 2 none, .fieldLink RX4 9 "RiverModel$Model" "cells" "[I", .methodLink RX4 37 arraycopyName, .native arraycopyName, .static arraycopyName, .initialized "java/lang/System", .fieldLink RX4 15 "RiverModel$Model" "storeItems" "[I", .fieldLink RX4 18 "RiverModel$Model" "gateItems" "[I", .fieldLink RX4 21 "RiverModel$Model" "many" "I", .fieldLink RX4 25 "RiverModel$Model" "stores" "I", .fieldLink RX4 28 "RiverModel$Model" "gates" "I", .code yX9_draftBecomesModel cX9_draftBecomesModel 3 none, .fieldLink RX9 19 "RiverModel" "model" "LRiverModel$Model;", .fieldLink RX9 29 "RiverModel" "isBuilt" "Z", .fieldLink RX9 67 "RiverModel" "keptMany" "I", .fieldLink RX9 53 "RiverModel" "now" "LRiverModel$Course;", .methodLink RX9 147 yX0_begin, .instanceMethod yX0_begin, .selects RX0 yX0_begin yX0_begin, .initialized RX0, .fieldLink RX9 46 "RiverModel" "startsB" "[I", .methodLink RX9 347 yX4_startOf, .instanceMethod yX4_startOf, .selects RX4 yX4_startOf yX4_startOf, .code yX0_begin cX0_begin 3 none, .fieldLink RX0 15 "RiverModel$Course" "moved" "[J", .methodLink RX0 45 yJ7_fill_d0a16, .static yJ7_fill_d0a16, .initialized RJ7, .fieldLink RX0 18 "RiverModel$Course" "openings" "[I", .methodLink RX0 51 yJ7_fill_53178, .static yJ7_fill_53178, .fieldLink RX0 22 "RiverModel$Course" "due" "[J", .fieldLink RX0 25 "RiverModel$Course" "rained" "J", .fieldLink RX0 29 "RiverModel$Course" "air" "J", .fieldLink RX0 32 "RiverModel$Course" "sea" "J", .fieldLink RX0 35 "RiverModel$Course" "hours" "I", .fieldLink RX0 9 "RiverModel$Course" "held" "[J", .methodLink RX0 39 yX4_startOf, .code yJ7_fill_d0a16 cJ7_fill_d0a16 5 none, .code yJ7_fill_53178 cJ7_fill_53178 4 none, .code yX4_startOf cX4_startOf 2 (some .int), .methodLink RX4 66 yX4_hasStore, .instanceMethod yX4_hasStore, .selects RX4 yX4_hasStore yX4_hasStore, .methodLink RX4 73 yX4_cell, .instanceMethod yX4_cell, .selects RX4 yX4_cell yX4_cell, .code yX4_hasStore cX4_hasStore 2 (some .boolean), .code yX4_cell cX4_cell 3 (some .int)] ++ wsX90 ++ wsX40 ++ wsX00)
set_option maxRecDepth 20000 in
theorem gu_hX9_laySwap_c2X4_copyFrom_316 : GoodIn uhX9_laySwap (wsV RX9 316 RX4 yX4_copyFrom uc2X4_copyFrom) := goodIn_r _ [4, 5, 6, 7, 12, 13, 14, 15, 16, 17, 18, 19, 20, 21, 22, 80, 81, 82, 83, 84, 85] rfl (by decide +kernel)
set_option maxRecDepth 20000 in
theorem gu_hX9_laySwap_hX9_draftBecomesModel_121 : GoodIn uhX9_laySwap (wsV RX9 121 RX9 yX9_draftBecomesModel uhX9_draftBecomesModel) := goodIn_r _ [8, 9, 10, 11, 23, 24, 2, 25, 1, 26, 27, 28, 29, 30, 31, 32, 33, 34, 35, 7, 36, 37, 38, 39, 40, 41, 42, 43, 44, 45, 46, 47, 48, 49, 50, 51, 52, 53, 54, 55, 56, 18, 57, 58, 59, 60, 61, 13, 62, 63, 64, 65, 66, 67, 68, 69, 70, 71, 72, 73, 74, 75, 76, 77, 78, 79, 86, 87, 88, 89, 90, 91, 92, 93, 80, 81, 82, 83, 84, 85] rfl (by decide +kernel)
set_option maxHeartbeats 4000000 in
set_option maxRecDepth 100000 in
theorem h_X9_laySwap (l : Launch) (D : va_G) (t : Nat → Nat) (cI cL cC : ClassId) (gC : Int32) (gP : Int32) (gT : Nat → Int32) (gR : Nat → Int32) (mm : Int32) (ms : Int32) (mg : Int32) (mL : Nat → Int32) (mQ : Nat → Int32) (mZ : Nat → Int32) (dm : Int32) (ds : Int32) (dg : Int32) (dL : Nat → Int32) (dQ : Nat → Int32) (dZ : Nat → Int32) (om : Int32) (os : Int32) (og : Int32) (oL : Nat → Int32) (oQ : Nat → Int32) (oZ : Nat → Int32) (gB : Int32) (gO : Int32) (xk : Int32) (gE : Int32) (gV : Nat → Int32) (gU : Nat → Int32) (gN : Nat → Int32) (G : Nat) (gW : Nat → Int32) (gA : Nat → Int32) (a0 : Nat) (uq : ∀ b c : Nat, t b = t c → uqK (t b) = true → b = c) (hC0 : 0 ≤ gC.toInt) (hC4 : gC.toInt ≤ 400) (hP0 : 0 ≤ gP.toInt) (hP4 : gP.toInt ≤ 400) (hTg : gBd 400 0 255 gT) (mg0 : 0 ≤ mg.toInt) (mg4 : mg.toInt ≤ 4) (dg0 : 0 ≤ dg.toInt) (dg4 : dg.toInt ≤ 4) (og0 : 0 ≤ og.toInt) (og4 : og.toInt ≤ 4) (xk0 : 0 ≤ xk.toInt) (xk3 : xk.toInt ≤ 3) (hoC : othC gB gO mm om mL mQ oL oQ) (hm40 : m40 gB mm) (k_a0 : t a0 = 1) : tMz (Z := Bool × (Int32) × (Int32) × (Int32) × (Nat → Int32) × (Nat → Int32) × (Nat → Int32) × (Int32) × (Int32) × (Int32) × (Nat → Int32) × (Nat → Int32) × (Nat → Int32) × (Int32) × (Int32) × (Int32)) l yX9_laySwap uhX9_laySwap 4 87 D (hF cI cL cC gC gP gT gR mm ms mg mL mQ mZ dm ds dg dL dQ dZ om os og oL oQ oZ gB gO xk gE gV gU gN G gW gA) (fun z => (hF cI cL cC gC gP gT gR z.2.1 z.2.2.1 z.2.2.2.1 z.2.2.2.2.1 z.2.2.2.2.2.1 z.2.2.2.2.2.2.1 z.2.2.2.2.2.2.2.1 z.2.2.2.2.2.2.2.2.1 z.2.2.2.2.2.2.2.2.2.1 z.2.2.2.2.2.2.2.2.2.2.1 z.2.2.2.2.2.2.2.2.2.2.2.1 z.2.2.2.2.2.2.2.2.2.2.2.2.1 om os og oL oQ oZ z.2.2.2.2.2.2.2.2.2.2.2.2.2.1 z.2.2.2.2.2.2.2.2.2.2.2.2.2.2.1 z.2.2.2.2.2.2.2.2.2.2.2.2.2.2.2 gE gV gU gN G gW gA)) (fun z => cond z.1 (fun q => sg (t q)) t) t cI cL cC [.ref a0] hTake (xI (fun r (z : Bool × (Int32) × (Int32) × (Int32) × (Nat → Int32) × (Nat → Int32) × (Nat → Int32) × (Int32) × (Int32) × (Int32) × (Nat → Int32) × (Nat → Int32) × (Nat → Int32) × (Int32) × (Int32) × (Int32)) => 0 ≤ z.2.2.2.1.toInt ∧ z.2.2.2.1.toInt ≤ 4 ∧ 0 ≤ z.2.2.2.2.2.2.2.2.2.1.toInt ∧ z.2.2.2.2.2.2.2.2.2.1.toInt ≤ 4 ∧ 0 ≤ z.2.2.2.2.2.2.2.2.2.2.2.2.2.2.2.toInt ∧ z.2.2.2.2.2.2.2.2.2.2.2.2.2.2.2.toInt ≤ 3 ∧ smC gB z.2.2.2.2.2.2.2.2.2.2.2.2.2.1 mm z.2.1 mL mQ z.2.2.2.2.1 z.2.2.2.2.2.1 ∧ othC z.2.2.2.2.2.2.2.2.2.2.2.2.2.1 z.2.2.2.2.2.2.2.2.2.2.2.2.2.2.1 z.2.1 om z.2.2.2.2.1 z.2.2.2.2.2.1 oL oQ)) := by
  refine tMz.ofW (cc := cX9_laySwap) (maxL := 1) (ret := (some .int)) (by decide) rfl (Nat.le_of_ble_eq_true rfl) ?_
  intro p e s m below meth c hx hb hr hml hown hts hlk H locs hG hK hE hS ls hl
  have hl : lv_has ls 1 [(0, .ref a0)] := hl
  have in9 : ∀ w ∈ wsX90, w ∈ uhX9_laySwap := fun w h => List.mem_cons_of_mem _ (List.mem_append_left _ (List.mem_append_left _ (List.mem_append_right _ h)))
  refine lv_aload_n hx hb dX9_laySwap_0 rfl (lv_at hl 0 rfl) ?_
  obtain ⟨r_1, r_3, r_5, r_7, r_9, r_11, r_13, r_15, r_17, r_19, r_21, r_23, r_25, r_27, r_29, at_31, h_2, h_4, h_6, h_8, h_10, h_12, h_14, h_16, h_18, h_20, h_22, h_24, h_26, h_28, h_30⟩ := hF_o1 hG k_a0
  refine va_get (D := D) (ci := 8) (v := .int gO) (C := RX9) (T := TX9) (N := 18) hx hb hts in9 hown hK (va_one at_31) 0 rfl rfl 5 (by decide) (hts (.fieldLink RX9 33 "RiverModel" "isOtherLaid" "Z") (List.mem_of_getElem? (i := 1) rfl)) (fun _ h9 => h9) rfl dX9_laySwap_1 ?_
  refine lv_if_ne (tgt := 10) hx hb dX9_laySwap_4 (by decide) (fun c_32 => ?_) (fun c_32 => ?_)
  · skip
    have c_32 : gO.toInt ≠ 0 := q_ne c_32
    refine lv_aload_n hx hb dX9_laySwap_10 rfl (lv_at hl 0 rfl) ?_
    refine va_get (D := D) (ci := 8) (v := .ref r_5) (C := RX9) (T := TX9) (N := 18) hx hb hts in9 hown hK (va_one at_31) 0 rfl rfl 2 (by decide) (hts (.fieldLink RX9 23 "RiverModel" "draft" "LRiverModel$Model;") (List.mem_of_getElem? (i := 2) rfl)) (fun _ h9 => h9) rfl dX9_laySwap_11 ?_
    refine lv_aload_n hx hb dX9_laySwap_14 rfl (lv_at hl 0 rfl) ?_
    refine va_get (D := D) (ci := 8) (v := .ref r_7) (C := RX9) (T := TX9) (N := 18) hx hb hts in9 hown hK (va_one at_31) 0 rfl rfl 3 (by decide) (hts (.fieldLink RX9 26 "RiverModel" "other" "LRiverModel$Model;") (List.mem_of_getElem? (i := 3) rfl)) (fun _ h9 => h9) rfl dX9_laySwap_15 ?_
    refine lv_pc (pc2 := 18) rfl ?_
    have hV_33 : tG D (c2F cI cL cC dm ds dg dL dQ dZ om os og oL oQ oZ) (fun q => vcDO (t q)) H := tG.vw hG (vcDO_vw) rfl
    obtain ⟨r_34, r_36, r_38, at_40, h_35, h_37, h_39⟩ := hF_o37 hG h_6
    refine tv_callv (t := t) (W.runV (As := [.ref r_7]) (rest := []) ⟨hx, hb, hml, hown, hts⟩ (c2_X4_copyFrom l D (fun q => vcDO (t q)) cI cL cC dm ds dg dL dQ dZ om os og oL oQ oZ r_5 r_7  (vcDO_inj uq)  (show vcDO (t r_5) = 3 by rw [h_6]; rfl) (show vcDO (t r_7) = 37 by rw [h_8]; rfl)) (cwV 1 hts gu_hX9_laySwap_c2X4_copyFrom_316 rfl rfl rfl (by decide +kernel) ⟨Nat.le_of_ble_eq_true rfl, Nat.le_of_ble_eq_true rfl⟩) (tP_V hV_33 hE at_40 rfl) rfl rfl hl.1 rfl (lv_room (Nat.le_of_ble_eq_true rfl)) dX9_laySwap_18 ⟨Nat.le_of_ble_eq_true rfl, Nat.le_of_ble_eq_true rfl⟩) hS (fun q h => vcDO_c2w_hTake h) (fun zz_44 H locs hp_42 hV_45 hS o_43 => ?_)
    obtain ⟨um_46, us_47, ug_48, uL_49, uQ_50, uZ_51⟩ := zz_44
    replace hG : tG D (hF cI cL cC gC gP gT gR mm ms mg mL mQ mZ um_46 us_47 ug_48 uL_49 uQ_50 uZ_51 om os og oL oQ oZ gB gO xk gE gV gU gN G gW gA) t H := tG.unvw hG hV_45 o_43 rfl (vcDO_c2w_b (dm := dm) (ds := ds) (dg := dg) (dL := dL) (dQ := dQ) (dZ := dZ)) (vcDO_c2w_o)
    have at_31 := va_at.keptC (t := (fun q => vcDO (t q))) at_31 o_43 (show vcDO (t a0) = 0 by rw [k_a0]; rfl) rfl
    clear hV_33 hV_45
    have hp_42 : (∀ j : Nat, j < 240 → uL_49 j = oL j) ∧ (∀ j : Nat, j < 16 → uQ_50 j = oQ j) ∧ (∀ j : Nat, j < 4 → uZ_51 j = oZ j) ∧ um_46.toInt = om.toInt ∧ us_47.toInt = os.toInt ∧ ug_48.toInt = og.toInt := hp_42
    obtain ⟨p_52, p_53, p_54, p_55, p_56, p_57⟩ := hp_42
    refine lv_aload_n hx hb dX9_laySwap_21 rfl (lv_at hl 0 rfl) ?_
    refine tw_callv (t := t) (W.runV (As := []) (rest := []) ⟨hx, hb, hml, hown, hts⟩ (h_X9_draftBecomesModel l D t (fun q => sg (t q)) rfl cI cL cC gC gP gT gR mm ms mg mL mQ mZ um_46 us_47 ug_48 uL_49 uQ_50 uZ_51 om os og oL oQ oZ gB gO xk gE gV gU gN G gW gA a0 uq (by omega) (by omega) (by omega) (by omega) k_a0) (cwV 0 hts gu_hX9_laySwap_hX9_draftBecomesModel_121 rfl rfl rfl (by decide +kernel) ⟨Nat.le_of_ble_eq_true rfl, Nat.le_of_ble_eq_true rfl⟩) (tP_V hG hE at_31 rfl) rfl rfl hl.1 rfl (lv_room (Nat.le_of_ble_eq_true rfl)) dX9_laySwap_22 ⟨Nat.le_of_ble_eq_true rfl, Nat.le_of_ble_eq_true rfl⟩) hS (fun q h => wrL_sub (by decide) _ ((sg_hBec (t q)).symm.trans h)) (fun H locs hp_58 hG hS o_59 => ?_)
    have k_a2 : (fun q => sg (t q)) a0 = 1 := by show sg (t a0) = 1; rw [k_a0]; rfl
    refine lv_iconst (v := 0) hx hb dX9_laySwap_25 (by decide) ?_
    have zi_0 : (0 : Int32).toInt = 0 := by decide
    have zi_1 : (1 : Int32).toInt = 1 := by decide
    exact tz_iret (z := (true, um_46, us_47, ug_48, uL_49, uQ_50, uZ_51, mm, ms, mg, mL, mQ, mZ, 1, 0, 0)) hx hb hr hlk hG hS ⟨(by show 0 ≤ ug_48.toInt; omega), (by show ug_48.toInt ≤ 4; omega), (by show 0 ≤ mg.toInt; omega), (by show mg.toInt ≤ 4; omega), (by show 0 ≤ (0 : Int32).toInt; omega), (by show (0 : Int32).toInt ≤ 3; omega), (by show smC gB (1 : Int32) mm um_46 mL mQ uL_49 uQ_50; exact smC.swp (by omega) hoC (by omega) p_52 p_53 p_55 hm40), (by show othC (1 : Int32) (0 : Int32) um_46 om uL_49 uQ_50 oL oQ; exact othC.none (by omega))⟩ dX9_laySwap_26
  · skip
    have c_32 : gO.toInt = 0 := q_eq c_32
    refine lv_bipush (v := (-2)) hx hb dX9_laySwap_7 (by decide) ?_
    have zi_m2 : ((-2) : Int32).toInt = (-2) := by decide
    exact tz_iret (z := (false, mm, ms, mg, mL, mQ, mZ, dm, ds, dg, dL, dQ, dZ, gB, gO, xk)) hx hb hr hlk hG hS ⟨(by show 0 ≤ mg.toInt; omega), (by show mg.toInt ≤ 4; omega), (by show 0 ≤ dg.toInt; omega), (by show dg.toInt ≤ 4; omega), (by show 0 ≤ xk.toInt; omega), (by show xk.toInt ≤ 3; omega), (show smC gB gB mm mm mL mQ mL mQ from smC.rf), (show othC gB gO mm om mL mQ oL oQ from hoC)⟩ dX9_laySwap_9

def uhX9_build : List Cond := .code yX9_build cX9_build 1 (some .int) :: ([.fieldLink RX9 10 "RiverModel" "text" "LRiverModel$Text;", .fieldLink RX9 23 "RiverModel" "draft" "LRiverModel$Model;", .methodLink RX9 110 yX7_readInto, .instanceMethod yX7_readInto, .selects RX7 yX7_readInto yX7_readInto, .initialized RX7, .fieldLink RX9 114 "RiverModel$Model" "stores" "I", .fieldLink RX9 74 "RiverModel" "gauges" "LRiverModel$Gauges;", .methodLink RX9 117 yX1_unsetAll, .instanceMethod yX1_unsetAll, .selects RX1 yX1_unsetAll yX1_unsetAll, .initialized RX1, .fieldLink RX9 81 "RiverModel" "knobs" "LRiverModel$Knobs;", .methodLink RX9 120 yX3_unsetAll, .instanceMethod yX3_unsetAll, .selects RX3 yX3_unsetAll yX3_unsetAll, .initialized RX3, .methodLink RX9 121 yX9_draftBecomesModel, .instanceMethod yX9_draftBecomesModel, .selects RX9 yX9_draftBecomesModel yX9_draftBecomesModel, .initialized RX9, .fieldLink RX9 19 "RiverModel" "model" "LRiverModel$Model;", .fieldLink RX9 124 "RiverModel$Model" "many" "I", .code yX7_readInto cX7_readInto 4 (some .int), .methodLink RX7 25 yX4_empty, .instanceMethod yX4_empty, .selects RX4 yX4_empty yX4_empty, .initialized RX4, .fieldLink RX7 22 "RiverModel$Text" "at" "I", .fieldLink RX7 18 "RiverModel$Text" "length" "I", .methodLink RX7 30 yX7_readItem, .instanceMethod yX7_readItem, .selects RX7 yX7_readItem yX7_readItem, .fieldLink RX7 15 "RiverModel$Text" "row" "[I", .methodLink RX7 34 yX4_mayFollow, .instanceMethod yX4_mayFollow, .selects RX4 yX4_mayFollow yX4_mayFollow, .methodLink RX7 38 yX4_add, .instanceMethod yX4_add, .selects RX4 yX4_add yX4_add, .code yX4_empty cX4_empty 1 none, .fieldLink RX4 21 "RiverModel$Model" "many" "I", .fieldLink RX4 25 "RiverModel$Model" "stores" "I", .fieldLink RX4 28 "RiverModel$Model" "gates" "I", .fieldLink RX4 15 "RiverModel$Model" "storeItems" "[I", .methodLink RX4 31 yJ7_fill_53178, .static yJ7_fill_53178, .initialized RJ7, .fieldLink RX4 18 "RiverModel$Model" "gateItems" "[I", .code yJ7_fill_53178 cJ7_fill_53178 4 none, .code yX7_readItem cX7_readItem 5 (some .boolean), .methodLink RX7 42 yJ7_fill_53178, .methodLink RX7 48 yX7_nextByte, .instanceMethod yX7_nextByte, .selects RX7 yX7_nextByte yX7_nextByte, .methodLink RX7 52 yX2_namesOf, .static yX2_namesOf, .initialized RX2, .methodLink RX7 62 yX2_numbersOf, .static yX2_numbersOf, .methodLink RX7 65 yX7_readNumber, .instanceMethod yX7_readNumber, .selects RX7 yX7_readNumber yX7_readNumber, .methodLink RX7 58 yX7_readName, .instanceMethod yX7_readName, .selects RX7 yX7_readName yX7_readName, .code yX7_nextByte cX7_nextByte 1 (some .int), .fieldLink RX7 9 "RiverModel$Text" "bytes" "[I", .code yX2_namesOf cX2_namesOf 1 (some .int), .code yX2_numbersOf cX2_numbersOf 1 (some .int), .code yX7_readNumber cX7_readNumber 4 (some .boolean), .methodLink RX7 71 yX7_isAtFigure, .instanceMethod yX7_isAtFigure, .selects RX7 yX7_isAtFigure yX7_isAtFigure, .code yX7_isAtFigure cX7_isAtFigure 1 (some .boolean), .static yX9_isOutside, .code yX9_isOutside cX9_isOutside 3 (some .boolean), .code yX7_readName cX7_readName 3 (some .boolean), .static yX9_isNoStore, .code yX9_isNoStore cX9_isNoStore 1 (some .boolean), .code yX4_mayFollow cX4_mayFollow 2 (some .boolean), .methodLink RX4 62 yX4_areNumbersAsTold, .static yX4_areNumbersAsTold, .methodLink RX4 69 yX4_areNamesAhead, .instanceMethod yX4_areNamesAhead, .selects RX4 yX4_areNamesAhead yX4_areNamesAhead, .methodLink RX4 66 yX4_hasStore, .instanceMethod yX4_hasStore, .selects RX4 yX4_hasStore yX4_hasStore, .code yX4_areNumbersAsTold cX4_areNumbersAsTold 1 (some .boolean), .methodLink RX4 77 yX2_areNumbersAsTold, .static yX2_areNumbersAsTold, .code yX2_areNumbersAsTold cX2_areNumbersAsTold 4 (some .boolean), .methodLink RX2 10 yX2_isUpTo, .static yX2_isUpTo, .constant RX2 9 (1000000), .code yX2_isUpTo cX2_isUpTo 2 (some .boolean), .code yX4_areNamesAhead cX4_areNamesAhead 5 (some .boolean), .methodLink RX4 82 yX4_isStoreAhead, .instanceMethod yX4_isStoreAhead, .selects RX4 yX4_isStoreAhead yX4_isStoreAhead, .code yX4_isStoreAhead cX4_isStoreAhead 3 (some .boolean), .code yX4_hasStore cX4_hasStore 2 (some .boolean), .code yX4_add cX4_add 2 none, .methodLink RX4 55 yX4_put, .instanceMethod yX4_put, .selects RX4 yX4_put yX4_put, .code yX4_put cX4_put 4 none, .methodLink RX4 51 yX4_putCell, .instanceMethod yX4_putCell, .selects RX4 yX4_putCell yX4_putCell, .code yX4_putCell cX4_putCell 4 none, .static yX9_isNoItem, .fieldLink RX4 9 "RiverModel$Model" "cells" "[I", .code yX9_isNoItem cX9_isNoItem 1 (some .boolean), .code yX1_unsetAll cX1_unsetAll 1 none, .fieldLink RX1 9 "RiverModel$Gauges" "whats" "[I", .methodLink RX1 25 yJ7_fill_53178, .fieldLink RX1 18 "RiverModel$Gauges" "seen" "[I", .code yX3_unsetAll cX3_unsetAll 1 none, .fieldLink RX3 24 "RiverModel$Knobs" "manys" "[I", .methodLink RX3 27 yJ7_fill_53178, .code yX9_draftBecomesModel cX9_draftBecomesModel 3 none, .fieldLink RX9 29 "RiverModel" "isBuilt" "Z", .fieldLink RX9 33 "RiverModel" "isOtherLaid" "Z", .fieldLink RX9 67 "RiverModel" "keptMany" "I", .fieldLink RX9 53 "RiverModel" "now" "LRiverModel$Course;", .methodLink RX9 147 yX0_begin, .instanceMethod yX0_begin, .selects RX0 yX0_begin yX0_begin, .initialized RX0, .fieldLink RX9 46 "RiverModel" "startsB" "[I", .methodLink RX9 347 yX4_startOf, .instanceMethod yX4_startOf, .selects RX4 yX4_startOf yX4_startOf, .code yX0_begin cX0_begin 3 none, .fieldLink RX0 15 "RiverModel$Course" "moved" "[J", .methodLink RX0 45 yJ7_fill_d0a16, .static yJ7_fill_d0a16, .fieldLink RX0 18 "RiverModel$Course" "openings" "[I", .methodLink RX0 51 yJ7_fill_53178, .fieldLink RX0 22 "RiverModel$Course" "due" "[J", .fieldLink RX0 25 "RiverModel$Course" "rained" "J", .fieldLink RX0 29 "RiverModel$Course" "air" "J", .fieldLink RX0 32 "RiverModel$Course" "sea" "J", .fieldLink RX0 35 "RiverModel$Course" "hours" "I", .fieldLink RX0 9 "RiverModel$Course" "held" "[J", .methodLink RX0 39 yX4_startOf, .code yJ7_fill_d0a16 cJ7_fill_d0a16 5 none, .code yX4_startOf cX4_startOf 2 (some .int), .methodLink RX4 73 yX4_cell, .instanceMethod yX4_cell, .selects RX4 yX4_cell yX4_cell, .code yX4_cell cX4_cell 3 (some .int)] ++ wsX90 ++ wsX40 ++ wsX70 ++ wsX10 ++ wsX30 ++ wsX00)
set_option maxRecDepth 20000 in
theorem gu_hX9_build_vX7_readInto_110 : GoodIn uhX9_build (wsV RX9 110 RX7 yX7_readInto uvX7_readInto) := goodIn_r _ [3, 4, 5, 6, 24, 25, 26, 27, 28, 29, 30, 31, 32, 33, 6, 34, 35, 36, 37, 38, 39, 40, 41, 42, 43, 44, 45, 46, 47, 48, 49, 50, 51, 52, 53, 54, 55, 56, 57, 58, 59, 60, 61, 62, 63, 64, 65, 66, 67, 68, 69, 70, 71, 72, 73, 74, 75, 21, 76, 77, 78, 79, 80, 81, 82, 83, 84, 85, 86, 87, 88, 89, 90, 91, 92, 93, 94, 95, 96, 97, 98, 99, 100, 101, 102, 103, 104, 105, 106, 107, 108, 109, 110, 111, 112, 113, 114, 115, 179, 180, 181, 182, 173, 174, 175, 176, 177, 178] rfl (by decide +kernel)
set_option maxRecDepth 20000 in
theorem gu_hX9_build_vX1_unsetAll_117 : GoodIn uhX9_build (wsV RX9 117 RX1 yX1_unsetAll uvX1_unsetAll) := goodIn_r _ [9, 10, 11, 12, 116, 117, 118, 47, 48, 119, 50, 183, 184, 185, 186] rfl (by decide +kernel)
set_option maxRecDepth 20000 in
theorem gu_hX9_build_X3_unsetAll_120 : GoodIn uhX9_build (wsV RX9 120 RX3 yX3_unsetAll uX3_unsetAll) := goodIn_r _ [14, 15, 16, 17, 120, 121, 122, 47, 48, 50, 187, 188, 189, 190, 191] rfl (by decide +kernel)
set_option maxRecDepth 20000 in
theorem gu_hX9_build_hX9_draftBecomesModel_121 : GoodIn uhX9_build (wsV RX9 121 RX9 yX9_draftBecomesModel uhX9_draftBecomesModel) := goodIn_r _ [18, 19, 20, 21, 123, 22, 2, 124, 125, 126, 127, 128, 129, 130, 131, 132, 133, 134, 135, 28, 136, 137, 138, 139, 48, 140, 141, 47, 142, 143, 144, 145, 146, 147, 148, 149, 50, 150, 87, 88, 89, 45, 151, 152, 153, 103, 154, 114, 155, 156, 157, 158, 159, 160, 161, 162, 163, 164, 165, 166, 167, 168, 169, 170, 171, 172, 192, 193, 194, 195, 196, 197, 198, 199, 173, 174, 175, 176, 177, 178] rfl (by decide +kernel)
set_option maxHeartbeats 4000000 in
set_option maxRecDepth 100000 in
theorem h_X9_build (l : Launch) (D : va_G) (t : Nat → Nat) (cI cL cC : ClassId) (gC : Int32) (gP : Int32) (gT : Nat → Int32) (gR : Nat → Int32) (mm : Int32) (ms : Int32) (mg : Int32) (mL : Nat → Int32) (mQ : Nat → Int32) (mZ : Nat → Int32) (dm : Int32) (ds : Int32) (dg : Int32) (dL : Nat → Int32) (dQ : Nat → Int32) (dZ : Nat → Int32) (om : Int32) (os : Int32) (og : Int32) (oL : Nat → Int32) (oQ : Nat → Int32) (oZ : Nat → Int32) (gB : Int32) (gO : Int32) (xk : Int32) (gE : Int32) (gV : Nat → Int32) (gU : Nat → Int32) (gN : Nat → Int32) (G : Nat) (gW : Nat → Int32) (gA : Nat → Int32) (a0 : Nat) (uq : ∀ b c : Nat, t b = t c → uqK (t b) = true → b = c) (hC0 : 0 ≤ gC.toInt) (hC4 : gC.toInt ≤ 400) (hP0 : 0 ≤ gP.toInt) (hP4 : gP.toInt ≤ 400) (hTg : gBd 400 0 255 gT) (mg0 : 0 ≤ mg.toInt) (mg4 : mg.toInt ≤ 4) (dg0 : 0 ≤ dg.toInt) (dg4 : dg.toInt ≤ 4) (og0 : 0 ≤ og.toInt) (og4 : og.toInt ≤ 4) (xk0 : 0 ≤ xk.toInt) (xk3 : xk.toInt ≤ 3) (k_a0 : t a0 = 1) : tMz (Z := Bool × (Int32) × (Nat → Int32) × (Int32) × (Int32) × (Int32) × (Nat → Int32) × (Nat → Int32) × (Nat → Int32) × (Int32) × (Int32) × (Int32) × (Nat → Int32) × (Nat → Int32) × (Nat → Int32) × (Int32) × (Int32) × (Int32) × (Nat → Int32) × (Nat → Int32)) l yX9_build uhX9_build 5 112 D (hF cI cL cC gC gP gT gR mm ms mg mL mQ mZ dm ds dg dL dQ dZ om os og oL oQ oZ gB gO xk gE gV gU gN G gW gA) (fun z => (hF cI cL cC gC z.2.1 gT z.2.2.1 z.2.2.2.1 z.2.2.2.2.1 z.2.2.2.2.2.1 z.2.2.2.2.2.2.1 z.2.2.2.2.2.2.2.1 z.2.2.2.2.2.2.2.2.1 z.2.2.2.2.2.2.2.2.2.1 z.2.2.2.2.2.2.2.2.2.2.1 z.2.2.2.2.2.2.2.2.2.2.2.1 z.2.2.2.2.2.2.2.2.2.2.2.2.1 z.2.2.2.2.2.2.2.2.2.2.2.2.2.1 z.2.2.2.2.2.2.2.2.2.2.2.2.2.2.1 om os og oL oQ oZ z.2.2.2.2.2.2.2.2.2.2.2.2.2.2.2.1 z.2.2.2.2.2.2.2.2.2.2.2.2.2.2.2.2.1 z.2.2.2.2.2.2.2.2.2.2.2.2.2.2.2.2.2.1 gE z.2.2.2.2.2.2.2.2.2.2.2.2.2.2.2.2.2.2.1 gU z.2.2.2.2.2.2.2.2.2.2.2.2.2.2.2.2.2.2.2 G gW gA)) (fun z => cond z.1 (fun q => sg (t q)) t) t cI cL cC [.ref a0] hBu (xI (fun r (z : Bool × (Int32) × (Nat → Int32) × (Int32) × (Int32) × (Int32) × (Nat → Int32) × (Nat → Int32) × (Nat → Int32) × (Int32) × (Int32) × (Int32) × (Nat → Int32) × (Nat → Int32) × (Nat → Int32) × (Int32) × (Int32) × (Int32) × (Nat → Int32) × (Nat → Int32)) => resB (byT gT gC) gC.toInt r ∧ 0 ≤ z.2.2.2.2.2.1.toInt ∧ z.2.2.2.2.2.1.toInt ≤ 4 ∧ 0 ≤ z.2.2.2.2.2.2.2.2.2.2.2.1.toInt ∧ z.2.2.2.2.2.2.2.2.2.2.2.1.toInt ≤ 4 ∧ 0 ≤ z.2.2.2.2.2.2.2.2.2.2.2.2.2.2.2.2.2.1.toInt ∧ z.2.2.2.2.2.2.2.2.2.2.2.2.2.2.2.2.2.1.toInt ≤ 3 ∧ 0 ≤ z.2.1.toInt ∧ z.2.1.toInt ≤ 400 ∧ bldC (byT gT gC) gC.toInt r gB z.2.2.2.2.2.2.2.2.2.2.2.2.2.2.2.1 gO z.2.2.2.2.2.2.2.2.2.2.2.2.2.2.2.2.1 mm z.2.2.2.1 mL mQ z.2.2.2.2.2.2.1 z.2.2.2.2.2.2.2.1 gV gN z.2.2.2.2.2.2.2.2.2.2.2.2.2.2.2.2.2.2.1 z.2.2.2.2.2.2.2.2.2.2.2.2.2.2.2.2.2.2.2)) := by
  refine tMz.ofW (cc := cX9_build) (maxL := 1) (ret := (some .int)) (by decide) rfl (Nat.le_of_ble_eq_true rfl) ?_
  intro p e s m below meth c hx hb hr hml hown hts hlk H locs hG hK hE hS ls hl
  have hl : lv_has ls 1 [(0, .ref a0)] := hl
  have in9 : ∀ w ∈ wsX90, w ∈ uhX9_build := fun w h => List.mem_cons_of_mem _ (List.mem_append_left _ (List.mem_append_left _ (List.mem_append_left _ (List.mem_append_left _ (List.mem_append_left _ (List.mem_append_right _ h))))))
  have in4 : ∀ w ∈ wsX40, w ∈ uhX9_build := fun w h => List.mem_cons_of_mem _ (List.mem_append_left _ (List.mem_append_left _ (List.mem_append_left _ (List.mem_append_left _ (List.mem_append_right _ h)))))
  refine lv_aload_n hx hb dX9_build_0 rfl (lv_at hl 0 rfl) ?_
  obtain ⟨r_1, r_3, r_5, r_7, r_9, r_11, r_13, r_15, r_17, r_19, r_21, r_23, r_25, r_27, r_29, at_31, h_2, h_4, h_6, h_8, h_10, h_12, h_14, h_16, h_18, h_20, h_22, h_24, h_26, h_28, h_30⟩ := hF_o1 hG k_a0
  refine va_get (D := D) (ci := 8) (v := .ref r_1) (C := RX9) (T := TX9) (N := 18) hx hb hts in9 hown hK (va_one at_31) 0 rfl rfl 0 (by decide) (hts (.fieldLink RX9 10 "RiverModel" "text" "LRiverModel$Text;") (List.mem_of_getElem? (i := 1) rfl)) (fun _ h9 => h9) rfl dX9_build_1 ?_
  refine lv_aload_n hx hb dX9_build_4 rfl (lv_at hl 0 rfl) ?_
  refine va_get (D := D) (ci := 8) (v := .ref r_5) (C := RX9) (T := TX9) (N := 18) hx hb hts in9 hown hK (va_one at_31) 0 rfl rfl 2 (by decide) (hts (.fieldLink RX9 23 "RiverModel" "draft" "LRiverModel$Model;") (List.mem_of_getElem? (i := 2) rfl)) (fun _ h9 => h9) rfl dX9_build_5 ?_
  have hV_32 : tG D (rF cI cL cC gC gP gT gR dm ds dg dL dQ dZ gE gV gU gN) (fun q => vwD (t q)) H := tG.vw hG (vwD_vw) rfl
  obtain ⟨r_33, r_35, at_37, h_34, h_36⟩ := hF_o2 hG h_2
  refine tv_calli (t := t) (W.runV (As := [.ref r_5]) (rest := []) ⟨hx, hb, hml, hown, hts⟩ (v_X7_readInto l D (fun q => vwD (t q)) cI cL cC gC gP gT gR dm ds dg dL dQ dZ gE gV gU gN r_1 r_5  (vwD_inj uq) (by omega) (by omega) hTg (show vwD (t r_1) = 2 by rw [h_2]; rfl) (show vwD (t r_5) = 3 by rw [h_6]; rfl)) (cwV 1 hts gu_hX9_build_vX7_readInto_110 rfl rfl rfl (by decide +kernel) ⟨Nat.le_of_ble_eq_true rfl, Nat.le_of_ble_eq_true rfl⟩) (tP_V hV_32 hE at_37 rfl) rfl rfl hl.1 rfl (lv_room (Nat.le_of_ble_eq_true rfl)) dX9_build_8 ⟨Nat.le_of_ble_eq_true rfl, Nat.le_of_ble_eq_true rfl⟩) hS (fun q h => vwD_vTM_hBu h) (fun r_38 zz_41 H locs hp_39 hV_42 hS o_40 => ?_)
  obtain ⟨gP_43, gR_44, gm_45, gs_46, gg_47, gL_48, gQ_49, gZ_50⟩ := zz_41
  replace hG : tG D (hF cI cL cC gC gP_43 gT gR_44 mm ms mg mL mQ mZ gm_45 gs_46 gg_47 gL_48 gQ_49 gZ_50 om os og oL oQ oZ gB gO xk gE gV gU gN G gW gA) t H := tG.unvw hG hV_42 o_40 rfl (vwD_vTM_b (gC := gC) (gP := gP) (gR := gR) (dm := dm) (ds := ds) (dg := dg) (dL := dL) (dQ := dQ) (dZ := dZ)) (vwD_vTM_o)
  have at_31 := va_at.keptC (t := (fun q => vwD (t q))) at_31 o_40 (show vwD (t a0) = 0 by rw [k_a0]; rfl) rfl
  clear hV_32 hV_42
  have hp_39 : rdR (byT gT gC) gC.toInt r_38.toInt gL_48 gQ_49 gm_45.toInt gs_46.toInt gg_47.toInt ∧ 0 ≤ gP_43.toInt ∧ gP_43.toInt ≤ 400 ∧ 0 ≤ gg_47.toInt ∧ gg_47.toInt ≤ 4 := hp_39
  obtain ⟨p_51, p_52, p_53, p_54, p_55⟩ := hp_39
  refine lv_bipush (v := (-4)) hx hb dX9_build_11 (by decide) ?_
  refine lv_icmp_ne (tgt := 26) hx hb dX9_build_13 (by decide) (fun c_56 => ?_) (fun c_56 => ?_)
  · skip
    have c_56 : r_38.toInt ≠ (-4) := q_ne c_56
    refine lv_pc (pc2 := 26) rfl ?_
    refine lv_bipush (v := (-2)) hx hb dX9_build_26 (by decide) ?_
    have zi_m2 : ((-2) : Int32).toInt = (-2) := by decide
    exact tz_iret (z := (false, gP_43, gR_44, mm, ms, mg, mL, mQ, mZ, gm_45, gs_46, gg_47, gL_48, gQ_49, gZ_50, gB, gO, xk, gV, gN)) hx hb hr hlk hG hS ⟨(by show resB (byT gT gC) gC.toInt ((-2) : Int32); exact rdR.bno p_51 (by omega) (by omega)), (by show 0 ≤ mg.toInt; omega), (by show mg.toInt ≤ 4; omega), (by show 0 ≤ gg_47.toInt; omega), (by show gg_47.toInt ≤ 4; omega), (by show 0 ≤ xk.toInt; omega), (by show xk.toInt ≤ 3; omega), (by show 0 ≤ gP_43.toInt; omega), (by show gP_43.toInt ≤ 400; omega), (by show bldC (byT gT gC) gC.toInt ((-2) : Int32) gB gB gO gO mm mm mL mQ mL mQ gV gN gV gN; exact Or.inl ⟨by omega, rfl, rfl, rfl, rfl, rfl, rfl, rfl⟩)⟩ dX9_build_28
  · skip
    have c_56 : r_38.toInt = (-4) := q_eq c_56
    refine lv_aload_n hx hb dX9_build_16 rfl (lv_at hl 0 rfl) ?_
    refine va_get (D := D) (ci := 8) (v := .ref r_5) (C := RX9) (T := TX9) (N := 18) hx hb hts in9 hown hK (va_one at_31) 0 rfl rfl 2 (by decide) (hts (.fieldLink RX9 23 "RiverModel" "draft" "LRiverModel$Model;") (List.mem_of_getElem? (i := 2) rfl)) (fun _ h9 => h9) rfl dX9_build_17 ?_
    obtain ⟨r_57, r_59, r_61, at_63, h_58, h_60, h_62⟩ := hF_o37 hG h_6
    refine va_get (D := D) (ci := 3) (v := .int gs_46) (C := RX4) (T := TX4) (N := 6) hx hb hts in4 hown hK (va_one at_63) 0 rfl rfl 4 (by decide) (hts (.fieldLink RX9 114 "RiverModel$Model" "stores" "I") (List.mem_of_getElem? (i := 7) rfl)) (fun _ h9 => h9) rfl dX9_build_20 ?_
    refine lv_if_ne (tgt := 29) hx hb dX9_build_23 (by decide) (fun c_64 => ?_) (fun c_64 => ?_)
    · skip
      have c_64 : gs_46.toInt ≠ 0 := q_ne c_64
      refine lv_aload_n hx hb dX9_build_29 rfl (lv_at hl 0 rfl) ?_
      refine va_get (D := D) (ci := 8) (v := .ref r_23) (C := RX9) (T := TX9) (N := 18) hx hb hts in9 hown hK (va_one at_31) 0 rfl rfl 14 (by decide) (hts (.fieldLink RX9 74 "RiverModel" "gauges" "LRiverModel$Gauges;") (List.mem_of_getElem? (i := 8) rfl)) (fun _ h9 => h9) rfl dX9_build_30 ?_
      refine lv_pc (pc2 := 33) rfl ?_
      have hV_65 : tG D (rF cI cL cC gC gP_43 gT gR_44 mm ms mg mL mQ mZ gE gV gU gN) (fun q => vwM (t q)) H := tG.vw hG (vwM_vw) rfl
      obtain ⟨r_66, r_68, r_70, at_72, h_67, h_69, h_71⟩ := hF_o6 hG h_24
      refine tv_callv (t := t) (W.runV (As := []) (rest := []) ⟨hx, hb, hml, hown, hts⟩ (v_X1_unsetAll l D (fun q => vwM (t q)) cI cL cC gC gP_43 gT gR_44 mm ms mg mL mQ mZ gE gV gU gN r_23  (vwM_inj uq)  (show vwM (t r_23) = 6 by rw [h_24]; rfl)) (cwV 0 hts gu_hX9_build_vX1_unsetAll_117 rfl rfl rfl (by decide +kernel) ⟨Nat.le_of_ble_eq_true rfl, Nat.le_of_ble_eq_true rfl⟩) (tP_V hV_65 hE at_72 rfl) rfl rfl hl.1 rfl (lv_room (Nat.le_of_ble_eq_true rfl)) dX9_build_33 ⟨Nat.le_of_ble_eq_true rfl, Nat.le_of_ble_eq_true rfl⟩) hS (fun q h => vwM_vG_hBu h) (fun zz_76 H locs hp_74 hV_77 hS o_75 => ?_)
      obtain ⟨gV_78, gN_79⟩ := zz_76
      replace hG : tG D (hF cI cL cC gC gP_43 gT gR_44 mm ms mg mL mQ mZ gm_45 gs_46 gg_47 gL_48 gQ_49 gZ_50 om os og oL oQ oZ gB gO xk gE gV_78 gU gN_79 G gW gA) t H := tG.unvw hG hV_77 o_75 rfl (vwM_vG_b (gV := gV) (gU := gU) (gN := gN)) (vwM_vG_o)
      have at_31 := va_at.keptC (t := (fun q => vwM (t q))) at_31 o_75 (show vwM (t a0) = 0 by rw [k_a0]; rfl) rfl
      have at_63 := va_at.keptC (t := (fun q => vwM (t q))) at_63 o_75 (show vwM (t r_5) = 0 by rw [h_6]; rfl) rfl
      have at_72 := va_at.keptC (t := (fun q => vwM (t q))) at_72 o_75 (show vwM (t r_23) = 6 by rw [h_24]; rfl) rfl
      clear hV_65 hV_77
      have hp_74 : (∀ j : Nat, j < 4 → gV_78 j = -4) ∧ (∀ j : Nat, j < 384 → gN_79 j = -1) := hp_74
      obtain ⟨p_80, p_81⟩ := hp_74
      refine lv_aload_n hx hb dX9_build_36 rfl (lv_at hl 0 rfl) ?_
      refine va_get (D := D) (ci := 8) (v := .ref r_25) (C := RX9) (T := TX9) (N := 18) hx hb hts in9 hown hK (va_one at_31) 0 rfl rfl 15 (by decide) (hts (.fieldLink RX9 81 "RiverModel" "knobs" "LRiverModel$Knobs;") (List.mem_of_getElem? (i := 13) rfl)) (fun _ h9 => h9) rfl dX9_build_37 ?_
      have hV_82 : tG D (gF cI cL cC gC gE G gW gA) (fun q => cwM (t q)) H := tG.vw hG (cwM_vw ⟨by omega, by omega⟩) rfl
      obtain ⟨r_83, r_85, r_87, r_89, r_91, at_93, h_84, h_86, h_88, h_90, h_92⟩ := hF_o7 hG h_26
      refine tw_callv (t := t) (W.runV (As := []) (rest := []) ⟨hx, hb, hml, hown, hts⟩ (s_X3_unsetAll l D (fun q => cwM (t q)) cI cL cC gC gE G gW gA r_25 (show cwM (t r_25) = 7 by rw [h_26]; rfl)) (cwV 0 hts gu_hX9_build_X3_unsetAll_120 rfl rfl rfl (by decide +kernel) ⟨Nat.le_of_ble_eq_true rfl, Nat.le_of_ble_eq_true rfl⟩) (tP_V hV_82 hE at_93 rfl) rfl rfl hl.1 rfl (lv_room (Nat.le_of_ble_eq_true rfl)) dX9_build_40 ⟨Nat.le_of_ble_eq_true rfl, Nat.le_of_ble_eq_true rfl⟩) hS (fun q h => cwM_wrKn_hBu h) (fun H locs hp_95 hV_98 hS o_96 => ?_)
      replace hG : tG D (hF cI cL cC gC gP_43 gT gR_44 mm ms mg mL mQ mZ gm_45 gs_46 gg_47 gL_48 gQ_49 gZ_50 om os og oL oQ oZ gB gO xk gE gV_78 gU gN_79 G gW gA) t H := tG.unvw hG hV_98 o_96 rfl (cwM_wrKn_b (G := G)) (cwM_wrKn_o (by omega))
      have at_31 := va_at.keptC (t := (fun q => cwM (t q))) at_31 o_96 (show cwM (t a0) = 0 by rw [k_a0]; rfl) rfl
      have at_63 := va_at.keptC (t := (fun q => cwM (t q))) at_63 o_96 (show cwM (t r_5) = 0 by rw [h_6]; rfl) rfl
      have at_72 := va_at.keptC (t := (fun q => cwM (t q))) at_72 o_96 (show cwM (t r_23) = 6 by rw [h_24]; rfl) rfl
      have at_93 := va_at.keptC (t := (fun q => cwM (t q))) at_93 o_96 (show cwM (t r_25) = 7 by rw [h_26]; rfl) rfl
      clear hV_82 hV_98
      refine lv_aload_n hx hb dX9_build_43 rfl (lv_at hl 0 rfl) ?_
      refine tw_callv (t := t) (W.runV (As := []) (rest := []) ⟨hx, hb, hml, hown, hts⟩ (h_X9_draftBecomesModel l D t (fun q => sg (t q)) rfl cI cL cC gC gP_43 gT gR_44 mm ms mg mL mQ mZ gm_45 gs_46 gg_47 gL_48 gQ_49 gZ_50 om os og oL oQ oZ gB gO xk gE gV_78 gU gN_79 G gW gA a0 uq (by omega) (by omega) (by omega) (by omega) k_a0) (cwV 0 hts gu_hX9_build_hX9_draftBecomesModel_121 rfl rfl rfl (by decide +kernel) ⟨Nat.le_of_ble_eq_true rfl, Nat.le_of_ble_eq_true rfl⟩) (tP_V hG hE at_31 rfl) rfl rfl hl.1 rfl (lv_room (Nat.le_of_ble_eq_true rfl)) dX9_build_44 ⟨Nat.le_of_ble_eq_true rfl, Nat.le_of_ble_eq_true rfl⟩) hS (fun q h => wrL_sub (by decide) _ ((sg_hBec (t q)).symm.trans h)) (fun H locs hp_99 hG hS o_100 => ?_)
      have k_a2 : (fun q => sg (t q)) a0 = 1 := by show sg (t a0) = 1; rw [k_a0]; rfl
      refine lv_aload_n hx hb dX9_build_47 rfl (lv_at hl 0 rfl) ?_
      obtain ⟨r_101, r_103, r_105, r_107, r_109, r_111, r_113, r_115, r_117, r_119, r_121, r_123, r_125, r_127, r_129, at_131, h_102, h_104, h_106, h_108, h_110, h_112, h_114, h_116, h_118, h_120, h_122, h_124, h_126, h_128, h_130⟩ := hF_o1 hG k_a2
      refine va_get (D := D) (ci := 8) (v := .ref r_103) (C := RX9) (T := TX9) (N := 18) hx hb hts in9 hown hK (va_one at_131) 0 rfl rfl 1 (by decide) (hts (.fieldLink RX9 19 "RiverModel" "model" "LRiverModel$Model;") (List.mem_of_getElem? (i := 22) rfl)) (fun _ h9 => h9) rfl dX9_build_48 ?_
      refine lv_pc (pc2 := 51) rfl ?_
      obtain ⟨r_132, r_134, r_136, at_138, h_133, h_135, h_137⟩ := hF_o3 hG h_104
      refine va_get (D := D) (ci := 3) (v := .int gm_45) (C := RX4) (T := TX4) (N := 6) hx hb hts in4 hown hK (va_one at_138) 0 rfl rfl 3 (by decide) (hts (.fieldLink RX9 124 "RiverModel$Model" "many" "I") (List.mem_of_getElem? (i := 23) rfl)) (fun _ h9 => h9) rfl dX9_build_51 ?_
      have zi_1 : (1 : Int32).toInt = 1 := by decide
      have zi_0 : (0 : Int32).toInt = 0 := by decide
      exact tz_iret (z := (true, gP_43, gR_44, gm_45, gs_46, gg_47, gL_48, gQ_49, gZ_50, mm, ms, mg, mL, mQ, mZ, 1, 0, 0, gV_78, gN_79)) hx hb hr hlk hG hS ⟨(by show resB (byT gT gC) gC.toInt gm_45; exact rdR.byes (by rw [show r_38.toInt = -4 by omega] at p_51; exact p_51) (by omega) (by omega) rfl), (by show 0 ≤ gg_47.toInt; omega), (by show gg_47.toInt ≤ 4; omega), (by show 0 ≤ mg.toInt; omega), (by show mg.toInt ≤ 4; omega), (by show 0 ≤ (0 : Int32).toInt; omega), (by show (0 : Int32).toInt ≤ 3; omega), (by show 0 ≤ gP_43.toInt; omega), (by show gP_43.toInt ≤ 400; omega), (by show bldC (byT gT gC) gC.toInt gm_45 gB (1 : Int32) gO (0 : Int32) mm gm_45 mL mQ gL_48 gQ_49 gV gN gV_78 gN_79; exact Or.inr ⟨by have := rdR.mm p_51; omega, by omega, by omega, p_80, p_81, _, _, (by rw [show r_38.toInt = -4 by omega] at p_51; exact p_51)⟩)⟩ dX9_build_54
    · skip
      have c_64 : gs_46.toInt = 0 := q_eq c_64
      refine lv_bipush (v := (-2)) hx hb dX9_build_26 (by decide) ?_
      have zi_m2 : ((-2) : Int32).toInt = (-2) := by decide
      exact tz_iret (z := (false, gP_43, gR_44, mm, ms, mg, mL, mQ, mZ, gm_45, gs_46, gg_47, gL_48, gQ_49, gZ_50, gB, gO, xk, gV, gN)) hx hb hr hlk hG hS ⟨(by show resB (byT gT gC) gC.toInt ((-2) : Int32); exact rdR.bno p_51 (by omega) (by omega)), (by show 0 ≤ mg.toInt; omega), (by show mg.toInt ≤ 4; omega), (by show 0 ≤ gg_47.toInt; omega), (by show gg_47.toInt ≤ 4; omega), (by show 0 ≤ xk.toInt; omega), (by show xk.toInt ≤ 3; omega), (by show 0 ≤ gP_43.toInt; omega), (by show gP_43.toInt ≤ 400; omega), (by show bldC (byT gT gC) gC.toInt ((-2) : Int32) gB gB gO gO mm mm mL mQ mL mQ gV gN gV gN; exact Or.inl ⟨by omega, rfl, rfl, rfl, rfl, rfl, rfl, rfl⟩)⟩ dX9_build_28

def uhX9_swap : List Cond := .code yX9_swap cX9_swap 2 (some .int) :: ([.methodLink RX9 127 yX9_isNoItem, .static yX9_isNoItem, .initialized RX9, .methodLink RX9 131 yX9_lacksItem, .instanceMethod yX9_lacksItem, .selects RX9 yX9_lacksItem yX9_lacksItem, .fieldLink RX9 10 "RiverModel" "text" "LRiverModel$Text;", .methodLink RX9 305 yX7_readAlone, .instanceMethod yX7_readAlone, .selects RX7 yX7_readAlone yX7_readAlone, .initialized RX7, .fieldLink RX9 19 "RiverModel" "model" "LRiverModel$Model;", .fieldLink RX9 309 "RiverModel$Text" "row" "[I", .methodLink RX9 312 yX4_mayReplace, .instanceMethod yX4_mayReplace, .selects RX4 yX4_mayReplace yX4_mayReplace, .initialized RX4, .fieldLink RX9 26 "RiverModel" "other" "LRiverModel$Model;", .methodLink RX9 316 yX4_copyFrom, .instanceMethod yX4_copyFrom, .selects RX4 yX4_copyFrom yX4_copyFrom, .methodLink RX9 319 yX4_put, .instanceMethod yX4_put, .selects RX4 yX4_put yX4_put, .fieldLink RX9 33 "RiverModel" "isOtherLaid" "Z", .code yX9_isNoItem cX9_isNoItem 1 (some .boolean), .code yX9_lacksItem cX9_lacksItem 2 (some .boolean), .fieldLink RX9 29 "RiverModel" "isBuilt" "Z", .fieldLink RX9 124 "RiverModel$Model" "many" "I", .code yX7_readAlone cX7_readAlone 1 (some .boolean), .fieldLink RX7 22 "RiverModel$Text" "at" "I", .methodLink RX7 30 yX7_readItem, .instanceMethod yX7_readItem, .selects RX7 yX7_readItem yX7_readItem, .fieldLink RX7 18 "RiverModel$Text" "length" "I", .code yX7_readItem cX7_readItem 5 (some .boolean), .fieldLink RX7 15 "RiverModel$Text" "row" "[I", .methodLink RX7 42 yJ7_fill_53178, .static yJ7_fill_53178, .initialized RJ7, .methodLink RX7 48 yX7_nextByte, .instanceMethod yX7_nextByte, .selects RX7 yX7_nextByte yX7_nextByte, .methodLink RX7 52 yX2_namesOf, .static yX2_namesOf, .initialized RX2, .methodLink RX7 62 yX2_numbersOf, .static yX2_numbersOf, .methodLink RX7 65 yX7_readNumber, .instanceMethod yX7_readNumber, .selects RX7 yX7_readNumber yX7_readNumber, .methodLink RX7 58 yX7_readName, .instanceMethod yX7_readName, .selects RX7 yX7_readName yX7_readName, .code yJ7_fill_53178 cJ7_fill_53178 4 none, .code yX7_nextByte cX7_nextByte 1 (some .int), .fieldLink RX7 9 "RiverModel$Text" "bytes" "[I", .code yX2_namesOf cX2_namesOf 1 (some .int), .code yX2_numbersOf cX2_numbersOf 1 (some .int), .code yX7_readNumber cX7_readNumber 4 (some .boolean), .methodLink RX7 71 yX7_isAtFigure, .instanceMethod yX7_isAtFigure, .selects RX7 yX7_isAtFigure yX7_isAtFigure, .code yX7_isAtFigure cX7_isAtFigure 1 (some .boolean), .static yX9_isOutside, .code yX9_isOutside cX9_isOutside 3 (some .boolean), .code yX7_readName cX7_readName 3 (some .boolean), .static yX9_isNoStore, .code yX9_isNoStore cX9_isNoStore 1 (some .boolean), .code yX4_mayReplace cX4_mayReplace 4 (some .boolean), .methodLink RX4 73 yX4_cell, .instanceMethod yX4_cell, .selects RX4 yX4_cell yX4_cell, .methodLink RX4 62 yX4_areNumbersAsTold, .static yX4_areNumbersAsTold, .methodLink RX4 69 yX4_areNamesAhead, .instanceMethod yX4_areNamesAhead, .selects RX4 yX4_areNamesAhead yX4_areNamesAhead, .code yX4_cell cX4_cell 3 (some .int), .fieldLink RX4 9 "RiverModel$Model" "cells" "[I", .code yX4_areNumbersAsTold cX4_areNumbersAsTold 1 (some .boolean), .methodLink RX4 77 yX2_areNumbersAsTold, .static yX2_areNumbersAsTold, .code yX2_areNumbersAsTold cX2_areNumbersAsTold 4 (some .boolean), .methodLink RX2 10 yX2_isUpTo, .static yX2_isUpTo, .constant RX2 9 (1000000), .code yX2_isUpTo cX2_isUpTo 2 (some .boolean), .code yX4_areNamesAhead cX4_areNamesAhead 5 (some .boolean), .methodLink RX4 82 yX4_isStoreAhead, .instanceMethod yX4_isStoreAhead, .selects RX4 yX4_isStoreAhead yX4_isStoreAhead, .code yX4_isStoreAhead cX4_isStoreAhead 3 (some .boolean), .methodLink RX4 66 yX4_hasStore, .instanceMethod yX4_hasStore, .selects RX4 yX4_hasStore yX4_hasStore, .fieldLink RX4 15 "RiverModel$Model" "storeItems" "[I", .code yX4_hasStore cX4_hasStore 2 (some .boolean), .code yX4_copyFrom cX4_copyFrom 2 none, .methodLink RX4 37 arraycopyName, .native arraycopyName, .static arraycopyName, .initialized "java/lang/System", .fieldLink RX4 18 "RiverModel$Model" "gateItems" "[I", .fieldLink RX4 21 "RiverModel$Model" "many" "I", .fieldLink RX4 25 "RiverModel$Model" "stores" "I", .fieldLink RX4 28 "RiverModel$Model" "gates" "I", .code yX4_put cX4_put 4 none, .methodLink RX4 51 yX4_putCell, .instanceMethod yX4_putCell, .selects RX4 yX4_putCell yX4_putCell, .code yX4_putCell cX4_putCell 4 none] ++ wsX90 ++ wsX70 ++ wsX40)
set_option maxRecDepth 20000 in
theorem gu_hX9_swap_aX9_isNoItem_127 : GoodIn uhX9_swap (va_wsS RX9 127 yX9_isNoItem uaX9_isNoItem) := goodIn_r _ [1, 2, 3, 26] rfl (by decide +kernel)
set_option maxRecDepth 20000 in
theorem gu_hX9_swap_hX9_lacksItem_131 : GoodIn uhX9_swap (wsV RX9 131 RX9 yX9_lacksItem uhX9_lacksItem) := goodIn_r _ [4, 5, 6, 3, 27, 28, 12, 29, 113, 114, 115, 116, 117, 118, 119, 120, 121, 122, 123, 124, 125, 126, 127, 128, 129, 130, 135, 136, 137, 138, 139, 140] rfl (by decide +kernel)
set_option maxRecDepth 20000 in
theorem gu_hX9_swap_vX7_readAlone_305 : GoodIn uhX9_swap (wsV RX9 305 RX7 yX7_readAlone uvX7_readAlone) := goodIn_r _ [8, 9, 10, 11, 30, 31, 32, 33, 34, 11, 35, 36, 37, 38, 39, 40, 41, 42, 43, 44, 45, 46, 47, 48, 49, 50, 51, 52, 53, 54, 55, 56, 57, 58, 59, 60, 61, 62, 63, 64, 3, 65, 66, 67, 68, 69, 131, 132, 133, 134] rfl (by decide +kernel)
set_option maxRecDepth 20000 in
theorem gu_hX9_swap_vX4_mayReplace_312 : GoodIn uhX9_swap (wsV RX9 312 RX4 yX4_mayReplace uvX4_mayReplace) := goodIn_r _ [14, 15, 16, 17, 70, 71, 72, 73, 17, 74, 75, 76, 77, 78, 79, 80, 81, 82, 83, 46, 84, 85, 86, 87, 88, 89, 90, 91, 92, 93, 94, 95, 96, 97, 98, 135, 136, 137, 138, 139, 140] rfl (by decide +kernel)
set_option maxRecDepth 20000 in
theorem gu_hX9_swap_c2X4_copyFrom_316 : GoodIn uhX9_swap (wsV RX9 316 RX4 yX4_copyFrom uc2X4_copyFrom) := goodIn_r _ [19, 20, 21, 17, 99, 80, 100, 101, 102, 103, 97, 104, 105, 106, 107, 135, 136, 137, 138, 139, 140] rfl (by decide +kernel)
set_option maxRecDepth 20000 in
theorem gu_hX9_swap_vX4_put_319 : GoodIn uhX9_swap (wsV RX9 319 RX4 yX4_put uvX4_put) := goodIn_r _ [22, 23, 24, 17, 108, 109, 110, 111, 17, 112, 3, 2, 65, 80, 26, 66, 135, 136, 137, 138, 139, 140] rfl (by decide +kernel)
set_option maxHeartbeats 4000000 in
set_option maxRecDepth 100000 in
theorem h_X9_swap (l : Launch) (D : va_G) (t : Nat → Nat) (cI cL cC : ClassId) (gC : Int32) (gP : Int32) (gT : Nat → Int32) (gR : Nat → Int32) (mm : Int32) (ms : Int32) (mg : Int32) (mL : Nat → Int32) (mQ : Nat → Int32) (mZ : Nat → Int32) (dm : Int32) (ds : Int32) (dg : Int32) (dL : Nat → Int32) (dQ : Nat → Int32) (dZ : Nat → Int32) (om : Int32) (os : Int32) (og : Int32) (oL : Nat → Int32) (oQ : Nat → Int32) (oZ : Nat → Int32) (gB : Int32) (gO : Int32) (xk : Int32) (gE : Int32) (gV : Nat → Int32) (gU : Nat → Int32) (gN : Nat → Int32) (G : Nat) (gW : Nat → Int32) (gA : Nat → Int32) (a0 : Nat) (a1 : Int32) (uq : ∀ b c : Nat, t b = t c → uqK (t b) = true → b = c) (hC0 : 0 ≤ gC.toInt) (hC4 : gC.toInt ≤ 400) (hP0 : 0 ≤ gP.toInt) (hP4 : gP.toInt ≤ 400) (hTg : gBd 400 0 255 gT) (mg0 : 0 ≤ mg.toInt) (mg4 : mg.toInt ≤ 4) (dg0 : 0 ≤ dg.toInt) (dg4 : dg.toInt ≤ 4) (og0 : 0 ≤ og.toInt) (og4 : og.toInt ≤ 4) (xk0 : 0 ≤ xk.toInt) (xk3 : xk.toInt ≤ 3) (hoC : othC gB gO mm om mL mQ oL oQ) (hm40 : m40 gB mm) (k_a0 : t a0 = 1) : tMx (Z := (Int32) × (Nat → Int32) × (Int32) × (Int32) × (Int32) × (Nat → Int32) × (Nat → Int32) × (Nat → Int32) × (Int32)) l yX9_swap uhX9_swap 5 109 D (hF cI cL cC gC gP gT gR mm ms mg mL mQ mZ dm ds dg dL dQ dZ om os og oL oQ oZ gB gO xk gE gV gU gN G gW gA) (fun z => (hF cI cL cC gC z.1 gT z.2.1 mm ms mg mL mQ mZ dm ds dg dL dQ dZ z.2.2.1 z.2.2.2.1 z.2.2.2.2.1 z.2.2.2.2.2.1 z.2.2.2.2.2.2.1 z.2.2.2.2.2.2.2.1 gB z.2.2.2.2.2.2.2.2 xk gE gV gU gN G gW gA)) t cI cL cC [.ref a0, .int a1] hSw (xI (fun r (z : (Int32) × (Nat → Int32) × (Int32) × (Int32) × (Int32) × (Nat → Int32) × (Nat → Int32) × (Nat → Int32) × (Int32)) => 0 ≤ z.2.2.2.2.1.toInt ∧ z.2.2.2.2.1.toInt ≤ 4 ∧ 0 ≤ z.1.toInt ∧ z.1.toInt ≤ 400 ∧ swpC (byT gT gC) gC.toInt gB mm a1 r mL mQ ∧ othC gB z.2.2.2.2.2.2.2.2 mm z.2.2.1 mL mQ z.2.2.2.2.2.1 z.2.2.2.2.2.2.1)) := by
  refine tMx.ofW (cc := cX9_swap) (maxL := 2) (ret := (some .int)) (by decide) rfl (Nat.le_of_ble_eq_true rfl) ?_
  intro p e s m below meth c hx hb hr hml hown hts hlk H locs hG hK hE hS ls hl
  have hl : lv_has ls 2 [(0, .ref a0), (1, .int a1)] := hl
  have in9 : ∀ w ∈ wsX90, w ∈ uhX9_swap := fun w h => List.mem_cons_of_mem _ (List.mem_append_left _ (List.mem_append_left _ (List.mem_append_right _ h)))
  have in7 : ∀ w ∈ wsX70, w ∈ uhX9_swap := fun w h => List.mem_cons_of_mem _ (List.mem_append_left _ (List.mem_append_right _ h))
  refine lv_iload_n hx hb dX9_swap_0 rfl (lv_at hl 1 rfl) ?_
  refine ty_calli (W.runS (As := [.int a1]) (rest := []) ⟨hx, hb, hml, hown, hts⟩ (a_X9_isNoItem l D t cI cL cC (hF cI cL cC gC gP gT gR mm ms mg mL mQ mZ dm ds dg dL dQ dZ om os og oL oQ oZ gB gO xk gE gV gU gN G gW gA) a1   ) (va_cwS 1 hts gu_hX9_swap_aX9_isNoItem_127 rfl rfl rfl (by decide +kernel) ⟨Nat.le_of_ble_eq_true rfl, Nat.le_of_ble_eq_true rfl⟩) (tP_S hG hE) rfl rfl hl.1 rfl (lv_room (Nat.le_of_ble_eq_true rfl)) dX9_swap_1 ⟨Nat.le_of_ble_eq_true rfl, Nat.le_of_ble_eq_true rfl⟩) hS (fun k h => by simp [wr0] at h) (fun r_1 H locs hp_2 hG hS o_3 => ?_)
  have hp_2 : (r_1 = 1 ∧ (a1.toInt < 0 ∨ 39 < a1.toInt)) ∨ (r_1 = 0 ∧ 0 ≤ a1.toInt ∧ a1.toInt ≤ 39) := hp_2
  rcases hp_2 with ⟨rfl, p_5⟩ | ⟨rfl, p_6, p_7⟩
  · skip
    refine lv_if_eq (tgt := 9) hx hb dX9_swap_4 (by decide) (fun q => absurd q (by decide)) (fun _ => ?_)
    refine lv_iconst (v := (-1)) hx hb dX9_swap_7 (by decide) ?_
    have zi_m1 : ((-1) : Int32).toInt = (-1) := by decide
    exact tx_iret (z := (gP, gR, om, os, og, oL, oQ, oZ, gO)) hx hb hr hlk hG hS ⟨(by show 0 ≤ og.toInt; omega), (by show og.toInt ≤ 4; omega), (by show 0 ≤ gP.toInt; omega), (by show gP.toInt ≤ 400; omega), (by show swpC (byT gT gC) gC.toInt gB mm a1 ((-1) : Int32) mL mQ; exact Or.inl ⟨by omega, by omega⟩), (show othC gB gO mm om mL mQ oL oQ from hoC)⟩ dX9_swap_8
  · skip
    refine lv_if_eq (tgt := 9) hx hb dX9_swap_4 (by decide) (fun _ => ?_) (fun q => absurd (by decide) q)
    refine lv_aload_n hx hb dX9_swap_9 rfl (lv_at hl 0 rfl) ?_
    refine lv_pc (pc2 := 10) rfl ?_
    refine lv_iload_n hx hb dX9_swap_10 rfl (lv_at hl 1 rfl) ?_
    obtain ⟨r_8, r_10, r_12, r_14, r_16, r_18, r_20, r_22, r_24, r_26, r_28, r_30, r_32, r_34, r_36, at_38, h_9, h_11, h_13, h_15, h_17, h_19, h_21, h_23, h_25, h_27, h_29, h_31, h_33, h_35, h_37⟩ := hF_o1 hG k_a0
    refine ty_calli (W.runV (As := [.int a1]) (rest := []) ⟨hx, hb, hml, hown, hts⟩ (h_X9_lacksItem l D t cI cL cC gC gP gT gR mm ms mg mL mQ mZ dm ds dg dL dQ dZ om os og oL oQ oZ gB gO xk gE gV gU gN G gW gA a0 a1  uq  k_a0) (cwV 1 hts gu_hX9_swap_hX9_lacksItem_131 rfl rfl rfl (by decide +kernel) ⟨Nat.le_of_ble_eq_true rfl, Nat.le_of_ble_eq_true rfl⟩) (tP_V hG hE at_38 rfl) rfl rfl hl.1 rfl (lv_room (Nat.le_of_ble_eq_true rfl)) dX9_swap_11 ⟨Nat.le_of_ble_eq_true rfl, Nat.le_of_ble_eq_true rfl⟩) hS (fun k h => by simp [wr0] at h) (fun r_39 H locs hp_40 hG hS o_41 => ?_)
    have at_38 := va_at.keptC at_38 o_41 k_a0 rfl
    have hp_40 : (r_39 = 1 ∧ (gB.toInt = 0 ∨ mm.toInt ≤ a1.toInt)) ∨ (r_39 = 0 ∧ gB.toInt ≠ 0 ∧ a1.toInt < mm.toInt) := hp_40
    rcases hp_40 with ⟨rfl, p_43⟩ | ⟨rfl, p_44, p_45⟩
    · skip
      refine lv_if_ne (tgt := 45) hx hb dX9_swap_14 (by decide) (fun _ => ?_) (fun q => absurd q (by decide))
      refine lv_bipush (v := (-2)) hx hb dX9_swap_45 (by decide) ?_
      have zi_m2 : ((-2) : Int32).toInt = (-2) := by decide
      exact tx_iret (z := (gP, gR, om, os, og, oL, oQ, oZ, gO)) hx hb hr hlk hG hS ⟨(by show 0 ≤ og.toInt; omega), (by show og.toInt ≤ 4; omega), (by show 0 ≤ gP.toInt; omega), (by show gP.toInt ≤ 400; omega), (by show swpC (byT gT gC) gC.toInt gB mm a1 ((-2) : Int32) mL mQ; exact Or.inr (Or.inl ⟨by omega, by omega, by omega, p_43⟩)), (show othC gB gO mm om mL mQ oL oQ from hoC)⟩ dX9_swap_47
    · skip
      refine lv_if_ne (tgt := 45) hx hb dX9_swap_14 (by decide) (fun q => absurd rfl q) (fun _ => ?_)
      refine lv_aload_n hx hb dX9_swap_17 rfl (lv_at hl 0 rfl) ?_
      refine va_get (D := D) (ci := 8) (v := .ref r_8) (C := RX9) (T := TX9) (N := 18) hx hb hts in9 hown hK (va_one at_38) 0 rfl rfl 0 (by decide) (hts (.fieldLink RX9 10 "RiverModel" "text" "LRiverModel$Text;") (List.mem_of_getElem? (i := 7) rfl)) (fun _ h9 => h9) rfl dX9_swap_18 ?_
      refine lv_pc (pc2 := 21) rfl ?_
      have hV_46 : tG D (rF cI cL cC gC gP gT gR mm ms mg mL mQ mZ gE gV gU gN) (fun q => vwM (t q)) H := tG.vw hG (vwM_vw) rfl
      obtain ⟨r_47, r_49, at_51, h_48, h_50⟩ := hF_o2 hG h_9
      refine tv_calli (t := t) (W.runV (As := []) (rest := []) ⟨hx, hb, hml, hown, hts⟩ (v_X7_readAlone l D (fun q => vwM (t q)) cI cL cC gC gP gT gR mm ms mg mL mQ mZ gE gV gU gN r_8  (vwM_inj uq) (by omega) (by omega) hTg (show vwM (t r_8) = 2 by rw [h_9]; rfl)) (cwV 0 hts gu_hX9_swap_vX7_readAlone_305 rfl rfl rfl (by decide +kernel) ⟨Nat.le_of_ble_eq_true rfl, Nat.le_of_ble_eq_true rfl⟩) (tP_V hV_46 hE at_51 rfl) rfl rfl hl.1 rfl (lv_room (Nat.le_of_ble_eq_true rfl)) dX9_swap_21 ⟨Nat.le_of_ble_eq_true rfl, Nat.le_of_ble_eq_true rfl⟩) hS (fun q h => vwM_vTR_hSw h) (fun r_52 zz_55 H locs hp_53 hV_56 hS o_54 => ?_)
      obtain ⟨gP_57, gR_58⟩ := zz_55
      replace hG : tG D (hF cI cL cC gC gP_57 gT gR_58 mm ms mg mL mQ mZ dm ds dg dL dQ dZ om os og oL oQ oZ gB gO xk gE gV gU gN G gW gA) t H := tG.unvw hG hV_56 o_54 rfl (vwM_vTR_b (gC := gC) (gP := gP) (gR := gR)) (vwM_vTR_o)
      have at_38 := va_at.keptC (t := (fun q => vwM (t q))) at_38 o_54 (show vwM (t a0) = 0 by rw [k_a0]; rfl) rfl
      clear hV_46 hV_56
      have hp_53 : (r_52 = 1 ∧ itemAt (byT gT gC) 0 (gR_58 0) (gR_58 1) (gR_58 2) (gR_58 3) (gR_58 4) (gR_58 5) gC.toInt ∧ 0 ≤ gP_57.toInt ∧ gP_57.toInt ≤ 400) ∨ (r_52 = 0 ∧ (∀ (k f s a b c : Int32), ¬ itemAt (byT gT gC) 0 k f s a b c gC.toInt) ∧ 0 ≤ gP_57.toInt ∧ gP_57.toInt ≤ 400) := hp_53
      rcases hp_53 with ⟨rfl, p_59, p_60, p_61⟩ | ⟨rfl, p_62, p_63, p_64⟩
      · skip
        refine lv_if_eq (tgt := 45) hx hb dX9_swap_24 (by decide) (fun q => absurd q (by decide)) (fun _ => ?_)
        refine lv_aload_n hx hb dX9_swap_27 rfl (lv_at hl 0 rfl) ?_
        refine va_get (D := D) (ci := 8) (v := .ref r_10) (C := RX9) (T := TX9) (N := 18) hx hb hts in9 hown hK (va_one at_38) 0 rfl rfl 1 (by decide) (hts (.fieldLink RX9 19 "RiverModel" "model" "LRiverModel$Model;") (List.mem_of_getElem? (i := 12) rfl)) (fun _ h9 => h9) rfl dX9_swap_28 ?_
        refine lv_iload_n hx hb dX9_swap_31 rfl (lv_at hl 1 rfl) ?_
        refine lv_aload_n hx hb dX9_swap_32 rfl (lv_at hl 0 rfl) ?_
        refine va_get (D := D) (ci := 8) (v := .ref r_8) (C := RX9) (T := TX9) (N := 18) hx hb hts in9 hown hK (va_one at_38) 0 rfl rfl 0 (by decide) (hts (.fieldLink RX9 10 "RiverModel" "text" "LRiverModel$Text;") (List.mem_of_getElem? (i := 7) rfl)) (fun _ h9 => h9) rfl dX9_swap_33 ?_
        obtain ⟨r_65, r_67, at_69, h_66, h_68⟩ := hF_o2 hG h_9
        refine va_get (D := D) (ci := 6) (v := .ref r_67) (C := RX7) (T := TX7) (N := 4) hx hb hts in7 hown hK (va_one at_69) 0 rfl rfl 1 (by decide) (hts (.fieldLink RX9 309 "RiverModel$Text" "row" "[I") (List.mem_of_getElem? (i := 13) rfl)) (fun _ h9 => h9) rfl dX9_swap_36 ?_
        refine lv_pc (pc2 := 39) rfl ?_
        have hV_70 : tG D (rF cI cL cC gC gP_57 gT gR_58 mm ms mg mL mQ mZ gE gV gU gN) (fun q => vwM (t q)) H := tG.vw hG (vwM_vw) rfl
        obtain ⟨r_71, r_73, r_75, at_77, h_72, h_74, h_76⟩ := hF_o3 hG h_11
        refine tw_calli (t := t) (W.runV (As := [.int a1, .ref r_67]) (rest := []) ⟨hx, hb, hml, hown, hts⟩ (v_X4_mayReplace l D (fun q => vwM (t q)) cI cL cC gC gP_57 gT gR_58 mm ms mg mL mQ mZ gE gV gU gN r_10 a1 r_67  (vwM_inj uq) (by omega) (by omega) (show vwM (t r_10) = 3 by rw [h_11]; rfl) (show vwM (t r_67) = 11 by rw [h_68]; rfl)) (cwV 2 hts gu_hX9_swap_vX4_mayReplace_312 rfl rfl rfl (by decide +kernel) ⟨Nat.le_of_ble_eq_true rfl, Nat.le_of_ble_eq_true rfl⟩) (tP_V hV_70 hE at_77 rfl) rfl rfl hl.1 rfl (lv_room (Nat.le_of_ble_eq_true rfl)) dX9_swap_39 ⟨Nat.le_of_ble_eq_true rfl, Nat.le_of_ble_eq_true rfl⟩) hS (fun q h => by simp [wr0] at h) (fun r_78 H locs hp_79 hV_82 hS o_80 => ?_)
        replace hG := tG.kept0 hG o_80
        have at_38 := va_at.keptC (t := (fun q => vwM (t q))) at_38 o_80 (show vwM (t a0) = 0 by rw [k_a0]; rfl) rfl
        have at_69 := va_at.keptC (t := (fun q => vwM (t q))) at_69 o_80 (show vwM (t r_8) = 2 by rw [h_9]; rfl) rfl
        have at_77 := va_at.keptC (t := (fun q => vwM (t q))) at_77 o_80 (show vwM (t r_10) = 3 by rw [h_11]; rfl) rfl
        clear hV_70 hV_82
        have hp_79 : (r_78 = 1 ∧ mayR mL mQ gR_58 a1.toInt) ∨ (r_78 = 0 ∧ ¬ mayR mL mQ gR_58 a1.toInt) := hp_79
        rcases hp_79 with ⟨rfl, p_83⟩ | ⟨rfl, p_84⟩
        · skip
          refine lv_if_ne (tgt := 48) hx hb dX9_swap_42 (by decide) (fun _ => ?_) (fun q => absurd q (by decide))
          refine lv_aload_n hx hb dX9_swap_48 rfl (lv_at hl 0 rfl) ?_
          refine va_get (D := D) (ci := 8) (v := .ref r_14) (C := RX9) (T := TX9) (N := 18) hx hb hts in9 hown hK (va_one at_38) 0 rfl rfl 3 (by decide) (hts (.fieldLink RX9 26 "RiverModel" "other" "LRiverModel$Model;") (List.mem_of_getElem? (i := 18) rfl)) (fun _ h9 => h9) rfl dX9_swap_49 ?_
          refine lv_aload_n hx hb dX9_swap_52 rfl (lv_at hl 0 rfl) ?_
          refine va_get (D := D) (ci := 8) (v := .ref r_10) (C := RX9) (T := TX9) (N := 18) hx hb hts in9 hown hK (va_one at_38) 0 rfl rfl 1 (by decide) (hts (.fieldLink RX9 19 "RiverModel" "model" "LRiverModel$Model;") (List.mem_of_getElem? (i := 12) rfl)) (fun _ h9 => h9) rfl dX9_swap_53 ?_
          have hV_85 : tG D (c2F cI cL cC om os og oL oQ oZ mm ms mg mL mQ mZ) (fun q => vcOM (t q)) H := tG.vw hG (vcOM_vw) rfl
          obtain ⟨r_86, r_88, r_90, at_92, h_87, h_89, h_91⟩ := hF_o41 hG h_15
          refine tv_callv (t := t) (W.runV (As := [.ref r_10]) (rest := []) ⟨hx, hb, hml, hown, hts⟩ (c2_X4_copyFrom l D (fun q => vcOM (t q)) cI cL cC om os og oL oQ oZ mm ms mg mL mQ mZ r_14 r_10  (vcOM_inj uq)  (show vcOM (t r_14) = 3 by rw [h_15]; rfl) (show vcOM (t r_10) = 37 by rw [h_11]; rfl)) (cwV 1 hts gu_hX9_swap_c2X4_copyFrom_316 rfl rfl rfl (by decide +kernel) ⟨Nat.le_of_ble_eq_true rfl, Nat.le_of_ble_eq_true rfl⟩) (tP_V hV_85 hE at_92 rfl) rfl rfl hl.1 rfl (lv_room (Nat.le_of_ble_eq_true rfl)) dX9_swap_56 ⟨Nat.le_of_ble_eq_true rfl, Nat.le_of_ble_eq_true rfl⟩) hS (fun q h => vcOM_c2w_hSw h) (fun zz_96 H locs hp_94 hV_97 hS o_95 => ?_)
          obtain ⟨um_98, us_99, ug_100, uL_101, uQ_102, uZ_103⟩ := zz_96
          replace hG : tG D (hF cI cL cC gC gP_57 gT gR_58 mm ms mg mL mQ mZ dm ds dg dL dQ dZ um_98 us_99 ug_100 uL_101 uQ_102 uZ_103 gB gO xk gE gV gU gN G gW gA) t H := tG.unvw hG hV_97 o_95 rfl (vcOM_c2w_b (om := om) (os := os) (og := og) (oL := oL) (oQ := oQ) (oZ := oZ)) (vcOM_c2w_o)
          have at_38 := va_at.keptC (t := (fun q => vcOM (t q))) at_38 o_95 (show vcOM (t a0) = 0 by rw [k_a0]; rfl) rfl
          have at_69 := va_at.keptC (t := (fun q => vcOM (t q))) at_69 o_95 (show vcOM (t r_8) = 0 by rw [h_9]; rfl) rfl
          have at_77 := va_at.keptC (t := (fun q => vcOM (t q))) at_77 o_95 (show vcOM (t r_10) = 37 by rw [h_11]; rfl) rfl
          clear hV_85 hV_97
          have hp_94 : (∀ j : Nat, j < 240 → uL_101 j = mL j) ∧ (∀ j : Nat, j < 16 → uQ_102 j = mQ j) ∧ (∀ j : Nat, j < 4 → uZ_103 j = mZ j) ∧ um_98.toInt = mm.toInt ∧ us_99.toInt = ms.toInt ∧ ug_100.toInt = mg.toInt := hp_94
          obtain ⟨p_104, p_105, p_106, p_107, p_108, p_109⟩ := hp_94
          refine lv_aload_n hx hb dX9_swap_59 rfl (lv_at hl 0 rfl) ?_
          refine lv_pc (pc2 := 60) rfl ?_
          refine va_get (D := D) (ci := 8) (v := .ref r_14) (C := RX9) (T := TX9) (N := 18) hx hb hts in9 hown hK (va_one at_38) 0 rfl rfl 3 (by decide) (hts (.fieldLink RX9 26 "RiverModel" "other" "LRiverModel$Model;") (List.mem_of_getElem? (i := 18) rfl)) (fun _ h9 => h9) rfl dX9_swap_60 ?_
          refine lv_iload_n hx hb dX9_swap_63 rfl (lv_at hl 1 rfl) ?_
          refine lv_aload_n hx hb dX9_swap_64 rfl (lv_at hl 0 rfl) ?_
          refine va_get (D := D) (ci := 8) (v := .ref r_8) (C := RX9) (T := TX9) (N := 18) hx hb hts in9 hown hK (va_one at_38) 0 rfl rfl 0 (by decide) (hts (.fieldLink RX9 10 "RiverModel" "text" "LRiverModel$Text;") (List.mem_of_getElem? (i := 7) rfl)) (fun _ h9 => h9) rfl dX9_swap_65 ?_
          refine va_get (D := D) (ci := 6) (v := .ref r_67) (C := RX7) (T := TX7) (N := 4) hx hb hts in7 hown hK (va_one at_69) 0 rfl rfl 1 (by decide) (hts (.fieldLink RX9 309 "RiverModel$Text" "row" "[I") (List.mem_of_getElem? (i := 13) rfl)) (fun _ h9 => h9) rfl dX9_swap_68 ?_
          have hV_110 : tG D (rF cI cL cC gC gP_57 gT gR_58 um_98 us_99 ug_100 uL_101 uQ_102 uZ_103 gE gV gU gN) (fun q => vwO (t q)) H := tG.vw hG (vwO_vw) rfl
          obtain ⟨r_111, r_113, r_115, at_117, h_112, h_114, h_116⟩ := hF_o41 hG h_15
          refine tv_callv (t := t) (W.runV (As := [.int a1, .ref r_67]) (rest := []) ⟨hx, hb, hml, hown, hts⟩ (v_X4_put l D (fun q => vwO (t q)) cI cL cC gC gP_57 gT gR_58 um_98 us_99 ug_100 uL_101 uQ_102 uZ_103 gE gV gU gN r_14 a1 r_67  (vwO_inj uq) (by omega) (by omega) (show vwO (t r_14) = 3 by rw [h_15]; rfl) (show vwO (t r_67) = 11 by rw [h_68]; rfl)) (cwV 2 hts gu_hX9_swap_vX4_put_319 rfl rfl rfl (by decide +kernel) ⟨Nat.le_of_ble_eq_true rfl, Nat.le_of_ble_eq_true rfl⟩) (tP_V hV_110 hE at_117 rfl) rfl rfl hl.1 rfl (lv_room (Nat.le_of_ble_eq_true rfl)) dX9_swap_71 ⟨Nat.le_of_ble_eq_true rfl, Nat.le_of_ble_eq_true rfl⟩) hS (fun q h => vwO_vL_hSw h) (fun gL_123 H locs hp_119 hV_122 hS o_120 => ?_)
          replace hG : tG D (hF cI cL cC gC gP_57 gT gR_58 mm ms mg mL mQ mZ dm ds dg dL dQ dZ um_98 us_99 ug_100 gL_123 uQ_102 uZ_103 gB gO xk gE gV gU gN G gW gA) t H := tG.unvw hG hV_122 o_120 rfl (vwO_vL_b (oL := uL_101)) (vwO_vL_o)
          have at_38 := va_at.keptC (t := (fun q => vwO (t q))) at_38 o_120 (show vwO (t a0) = 0 by rw [k_a0]; rfl) rfl
          have at_69 := va_at.keptC (t := (fun q => vwO (t q))) at_69 o_120 (show vwO (t r_8) = 2 by rw [h_9]; rfl) rfl
          have at_77 := va_at.keptC (t := (fun q => vwO (t q))) at_77 o_120 (show vwO (t r_10) = 0 by rw [h_11]; rfl) rfl
          have at_117 := va_at.keptC (t := (fun q => vwO (t q))) at_117 o_120 (show vwO (t r_14) = 3 by rw [h_15]; rfl) rfl
          clear hV_110 hV_122
          have hp_119 : cpf uL_101 gL_123 (6 * a1.toInt) gR_58 6 := hp_119
          have p_124 := hp_119
          refine lv_aload_n hx hb dX9_swap_74 rfl (lv_at hl 0 rfl) ?_
          refine lv_iconst (v := 1) hx hb dX9_swap_75 (by decide) ?_
          refine lv_pc (pc2 := 76) rfl ?_
          have zi_1 : (1 : Int32).toInt = 1 := by decide
          refine ty_put (D := D) (ci := 8) (v := .int 1) (ty := .boolean) (C := RX9) (T := TX9) (N := 18) (F2 := (hF cI cL cC gC gP_57 gT gR_58 mm ms mg mL mQ mZ dm ds dg dL dQ dZ um_98 us_99 ug_100 gL_123 uQ_102 uZ_103 gB 1 xk gE gV gU gN G gW gA)) hx hb hts in9 tyX9 tyX9_ok nmX9 hown hK hG hS at_38 (by rw [k_a0]; rfl) rfl 5 (by decide) (hts (.fieldLink RX9 33 "RiverModel" "isOtherLaid" "Z") (List.mem_of_getElem? (i := 25) rfl)) (fun _ h9 => h9) rfl (by decide +kernel) (by decide) (by decide) (Nat.le_of_ble_eq_true rfl) (by rw [k_a0]; exact ⟨r_8, r_10, r_12, r_14, r_16, r_18, r_20, r_22, r_24, r_26, r_28, r_30, r_32, r_34, r_36, rfl, h_9, h_11, h_13, h_15, h_17, h_19, h_21, h_23, h_25, h_27, h_29, h_31, h_33, h_35, h_37⟩) (fun hG b hb h0 => by obtain ⟨e, g1, g2⟩ := hG b h0; exact ⟨e, g1, hF_gO (fun h => hb (uq b a0 (h.trans k_a0.symm) (by rw [h]; rfl))) g2⟩) dX9_swap_76 (fun H locs hG hS at_125 o_126 => ?_)
          have at_125 : va_at D vwCl (a0, .inr (8, [.ref r_8, .ref r_10, .ref r_12, .ref r_14, .int gB, .int 1, .ref r_16, .ref r_18, .ref r_20, .ref r_22, .ref r_24, .ref r_26, .ref r_28, .int xk, .ref r_30, .ref r_32, .ref r_34, .ref r_36])) H := at_125
          have at_69 := va_at.keptK at_69 o_126 k_a0 h_9 rfl
          have at_77 := va_at.keptK at_77 o_126 k_a0 h_11 rfl
          have at_117 := va_at.keptK at_117 o_126 k_a0 h_15 rfl
          refine lv_iconst (v := 0) hx hb dX9_swap_79 (by decide) ?_
          have zi_0 : (0 : Int32).toInt = 0 := by decide
          exact tx_iret (z := (gP_57, gR_58, um_98, us_99, ug_100, gL_123, uQ_102, uZ_103, 1)) hx hb hr hlk hG hS ⟨(by show 0 ≤ ug_100.toInt; omega), (by show ug_100.toInt ≤ 4; omega), (by show 0 ≤ gP_57.toInt; omega), (by show gP_57.toInt ≤ 400; omega), (by show swpC (byT gT gC) gC.toInt gB mm a1 (0 : Int32) mL mQ; exact Or.inr (Or.inr ⟨by omega, by omega, by omega, by omega, Or.inr ⟨by omega, _, p_59, p_83⟩⟩)), (by show othC gB (1 : Int32) mm um_98 mL mQ gL_123 uQ_102; exact othC.new (by omega) (by omega) p_105 p_104 p_124 p_83 (by omega) hm40)⟩ dX9_swap_80
        · skip
          refine lv_if_ne (tgt := 48) hx hb dX9_swap_42 (by decide) (fun q => absurd rfl q) (fun _ => ?_)
          refine lv_bipush (v := (-2)) hx hb dX9_swap_45 (by decide) ?_
          have zi_m2 : ((-2) : Int32).toInt = (-2) := by decide
          exact tx_iret (z := (gP_57, gR_58, om, os, og, oL, oQ, oZ, gO)) hx hb hr hlk hG hS ⟨(by show 0 ≤ og.toInt; omega), (by show og.toInt ≤ 4; omega), (by show 0 ≤ gP_57.toInt; omega), (by show gP_57.toInt ≤ 400; omega), (by show swpC (byT gT gC) gC.toInt gB mm a1 ((-2) : Int32) mL mQ; exact Or.inr (Or.inr ⟨by omega, by omega, by omega, by omega, Or.inl ⟨by omega, swC.no p_59 p_84⟩⟩)), (show othC gB gO mm om mL mQ oL oQ from hoC)⟩ dX9_swap_47
      · skip
        refine lv_if_eq (tgt := 45) hx hb dX9_swap_24 (by decide) (fun _ => ?_) (fun q => absurd (by decide) q)
        refine lv_bipush (v := (-2)) hx hb dX9_swap_45 (by decide) ?_
        refine lv_pc (pc2 := 47) rfl ?_
        have zi_m2 : ((-2) : Int32).toInt = (-2) := by decide
        exact tx_iret (z := (gP_57, gR_58, om, os, og, oL, oQ, oZ, gO)) hx hb hr hlk hG hS ⟨(by show 0 ≤ og.toInt; omega), (by show og.toInt ≤ 4; omega), (by show 0 ≤ gP_57.toInt; omega), (by show gP_57.toInt ≤ 400; omega), (by show swpC (byT gT gC) gC.toInt gB mm a1 ((-2) : Int32) mL mQ; exact Or.inr (Or.inr ⟨by omega, by omega, by omega, by omega, Or.inl ⟨by omega, fun ⟨R, hi, _⟩ => p_62 _ _ _ _ _ _ hi⟩⟩)), (show othC gB gO mm om mL mQ oL oQ from hoC)⟩ dX9_swap_47

def uhX9_gauge : List Cond := .code yX9_gauge cX9_gauge 4 (some .int) :: ([.methodLink RX9 205 yX9_isNoGauge, .static yX9_isNoGauge, .initialized RX9, .methodLink RX9 99 yX9_isOutside, .static yX9_isOutside, .methodLink RX9 155 yX9_isNoStore, .static yX9_isNoStore, .methodLink RX9 160 yX9_lacksStore, .instanceMethod yX9_lacksStore, .selects RX9 yX9_lacksStore yX9_lacksStore, .fieldLink RX9 74 "RiverModel" "gauges" "LRiverModel$Gauges;", .methodLink RX9 208 yX1_set, .instanceMethod yX1_set, .selects RX1 yX1_set yX1_set, .initialized RX1, .methodLink RX9 131 yX9_lacksItem, .instanceMethod yX9_lacksItem, .selects RX9 yX9_lacksItem yX9_lacksItem, .methodLink RX9 127 yX9_isNoItem, .static yX9_isNoItem, .code yX9_isNoGauge cX9_isNoGauge 1 (some .boolean), .code yX9_isOutside cX9_isOutside 3 (some .boolean), .code yX9_isNoStore cX9_isNoStore 1 (some .boolean), .code yX9_lacksStore cX9_lacksStore 2 (some .boolean), .fieldLink RX9 29 "RiverModel" "isBuilt" "Z", .fieldLink RX9 19 "RiverModel" "model" "LRiverModel$Model;", .methodLink RX9 343 yX4_hasStore, .instanceMethod yX4_hasStore, .selects RX4 yX4_hasStore yX4_hasStore, .initialized RX4, .code yX4_hasStore cX4_hasStore 2 (some .boolean), .fieldLink RX4 15 "RiverModel$Model" "storeItems" "[I", .code yX1_set cX1_set 5 none, .fieldLink RX1 9 "RiverModel$Gauges" "whats" "[I", .fieldLink RX1 15 "RiverModel$Gauges" "places" "[I", .fieldLink RX1 18 "RiverModel$Gauges" "seen" "[I", .code yX9_lacksItem cX9_lacksItem 2 (some .boolean), .fieldLink RX9 124 "RiverModel$Model" "many" "I", .code yX9_isNoItem cX9_isNoItem 1 (some .boolean)] ++ wsX90 ++ wsX40 ++ wsX10)
set_option maxRecDepth 20000 in
theorem gu_hX9_gauge_aX9_isNoGauge_205 : GoodIn uhX9_gauge (va_wsS RX9 205 yX9_isNoGauge uaX9_isNoGauge) := goodIn_r _ [1, 2, 3, 21] rfl (by decide +kernel)
set_option maxRecDepth 20000 in
theorem gu_hX9_gauge_aX9_isOutside_99 : GoodIn uhX9_gauge (va_wsS RX9 99 yX9_isOutside uaX9_isOutside) := goodIn_r _ [4, 5, 3, 22] rfl (by decide +kernel)
set_option maxRecDepth 20000 in
theorem gu_hX9_gauge_aX9_isNoStore_155 : GoodIn uhX9_gauge (va_wsS RX9 155 yX9_isNoStore uaX9_isNoStore) := goodIn_r _ [6, 7, 3, 23] rfl (by decide +kernel)
set_option maxRecDepth 20000 in
theorem gu_hX9_gauge_hX9_lacksStore_160 : GoodIn uhX9_gauge (wsV RX9 160 RX9 yX9_lacksStore uhX9_lacksStore) := goodIn_r _ [8, 9, 10, 3, 24, 25, 26, 27, 28, 29, 30, 31, 32, 40, 41, 42, 43, 44, 45, 46, 47, 48, 49, 50, 51, 52, 53, 54, 55, 56, 57, 58, 59, 60, 61, 62, 63] rfl (by decide +kernel)
set_option maxRecDepth 20000 in
theorem gu_hX9_gauge_vX1_set_208 : GoodIn uhX9_gauge (wsV RX9 208 RX1 yX1_set uvX1_set) := goodIn_r _ [12, 13, 14, 15, 33, 3, 2, 34, 35, 36, 21, 64, 65, 66, 67] rfl (by decide +kernel)
set_option maxRecDepth 20000 in
theorem gu_hX9_gauge_hX9_lacksItem_131 : GoodIn uhX9_gauge (wsV RX9 131 RX9 yX9_lacksItem uhX9_lacksItem) := goodIn_r _ [16, 17, 18, 3, 37, 25, 26, 38, 40, 41, 42, 43, 44, 45, 46, 47, 48, 49, 50, 51, 52, 53, 54, 55, 56, 57, 58, 59, 60, 61, 62, 63] rfl (by decide +kernel)
set_option maxRecDepth 20000 in
theorem gu_hX9_gauge_aX9_isNoItem_127 : GoodIn uhX9_gauge (va_wsS RX9 127 yX9_isNoItem uaX9_isNoItem) := goodIn_r _ [19, 20, 3, 39] rfl (by decide +kernel)
set_option maxHeartbeats 4000000 in
set_option maxRecDepth 100000 in
theorem h_X9_gauge (l : Launch) (D : va_G) (t : Nat → Nat) (cI cL cC : ClassId) (gC : Int32) (gP : Int32) (gT : Nat → Int32) (gR : Nat → Int32) (mm : Int32) (ms : Int32) (mg : Int32) (mL : Nat → Int32) (mQ : Nat → Int32) (mZ : Nat → Int32) (dm : Int32) (ds : Int32) (dg : Int32) (dL : Nat → Int32) (dQ : Nat → Int32) (dZ : Nat → Int32) (om : Int32) (os : Int32) (og : Int32) (oL : Nat → Int32) (oQ : Nat → Int32) (oZ : Nat → Int32) (gB : Int32) (gO : Int32) (xk : Int32) (gE : Int32) (gV : Nat → Int32) (gU : Nat → Int32) (gN : Nat → Int32) (G : Nat) (gW : Nat → Int32) (gA : Nat → Int32) (a0 : Nat) (a1 : Int32) (a2 : Int32) (a3 : Int32) (uq : ∀ b c : Nat, t b = t c → uqK (t b) = true → b = c) (hC0 : 0 ≤ gC.toInt) (hC4 : gC.toInt ≤ 400) (hP0 : 0 ≤ gP.toInt) (hP4 : gP.toInt ≤ 400) (hTg : gBd 400 0 255 gT) (mg0 : 0 ≤ mg.toInt) (mg4 : mg.toInt ≤ 4) (dg0 : 0 ≤ dg.toInt) (dg4 : dg.toInt ≤ 4) (og0 : 0 ≤ og.toInt) (og4 : og.toInt ≤ 4) (xk0 : 0 ≤ xk.toInt) (xk3 : xk.toInt ≤ 3) (k_a0 : t a0 = 1) : tMx (Z := (Nat → Int32) × (Nat → Int32) × (Nat → Int32)) l yX9_gauge uhX9_gauge 2 44 D (hF cI cL cC gC gP gT gR mm ms mg mL mQ mZ dm ds dg dL dQ dZ om os og oL oQ oZ gB gO xk gE gV gU gN G gW gA) (fun z => (hF cI cL cC gC gP gT gR mm ms mg mL mQ mZ dm ds dg dL dQ dZ om os og oL oQ oZ gB gO xk gE z.1 z.2.1 z.2.2 G gW gA)) t cI cL cC [.ref a0, .int a1, .int a2, .int a3] hG6 (xI (fun r (z : (Nat → Int32) × (Nat → Int32) × (Nat → Int32)) => (gauR (gB.toInt = 0 ∨ (a2.toInt = 0 ∧ mm.toInt ≤ a3.toInt) ∨ (a2.toInt ≠ 0 ∧ ¬ hsQ mQ a3.toInt)) gV gN a1 a2 a3 r z.1 z.2.2))) := by
  refine tMx.ofW (cc := cX9_gauge) (maxL := 4) (ret := (some .int)) (by decide) rfl (Nat.le_of_ble_eq_true rfl) ?_
  intro p e s m below meth c hx hb hr hml hown hts hlk H locs hG hK hE hS ls hl
  have hl : lv_has ls 4 [(0, .ref a0), (1, .int a1), (2, .int a2), (3, .int a3)] := hl
  have in9 : ∀ w ∈ wsX90, w ∈ uhX9_gauge := fun w h => List.mem_cons_of_mem _ (List.mem_append_left _ (List.mem_append_left _ (List.mem_append_right _ h)))
  refine lv_iload_n hx hb dX9_gauge_0 rfl (lv_at hl 1 rfl) ?_
  refine ty_calli (W.runS (As := [.int a1]) (rest := []) ⟨hx, hb, hml, hown, hts⟩ (a_X9_isNoGauge l D t cI cL cC (hF cI cL cC gC gP gT gR mm ms mg mL mQ mZ dm ds dg dL dQ dZ om os og oL oQ oZ gB gO xk gE gV gU gN G gW gA) a1   ) (va_cwS 1 hts gu_hX9_gauge_aX9_isNoGauge_205 rfl rfl rfl (by decide +kernel) ⟨Nat.le_of_ble_eq_true rfl, Nat.le_of_ble_eq_true rfl⟩) (tP_S hG hE) rfl rfl hl.1 rfl (lv_room (Nat.le_of_ble_eq_true rfl)) dX9_gauge_1 ⟨Nat.le_of_ble_eq_true rfl, Nat.le_of_ble_eq_true rfl⟩) hS (fun k h => by simp [wr0] at h) (fun r_1 H locs hp_2 hG hS o_3 => ?_)
  have hp_2 : (r_1 = 1 ∧ (a1.toInt < 0 ∨ 3 < a1.toInt)) ∨ (r_1 = 0 ∧ 0 ≤ a1.toInt ∧ a1.toInt ≤ 3) := hp_2
  rcases hp_2 with ⟨rfl, p_5⟩ | ⟨rfl, p_6, p_7⟩
  · skip
    refine lv_if_ne (tgt := 16) hx hb dX9_gauge_4 (by decide) (fun _ => ?_) (fun q => absurd q (by decide))
    refine lv_iconst (v := (-1)) hx hb dX9_gauge_16 (by decide) ?_
    have zi_m1 : ((-1) : Int32).toInt = (-1) := by decide
    exact tx_iret (z := (gV, gU, gN)) hx hb hr hlk hG hS (by show gauR (gB.toInt = 0 ∨ (a2.toInt = 0 ∧ mm.toInt ≤ a3.toInt) ∨ (a2.toInt ≠ 0 ∧ ¬ hsQ mQ a3.toInt)) gV gN a1 a2 a3 ((-1) : Int32) gV gN; exact Or.inl ⟨by unfold gaB; omega, by omega, rfl, rfl⟩) dX9_gauge_17
  · skip
    refine lv_if_ne (tgt := 16) hx hb dX9_gauge_4 (by decide) (fun q => absurd rfl q) (fun _ => ?_)
    refine lv_iload_n hx hb dX9_gauge_7 rfl (lv_at hl 2 rfl) ?_
    refine lv_pc (pc2 := 8) rfl ?_
    refine lv_iconst (v := 0) hx hb dX9_gauge_8 (by decide) ?_
    refine lv_iconst (v := 1) hx hb dX9_gauge_9 (by decide) ?_
    have zi_0 : (0 : Int32).toInt = 0 := by decide
    have zi_1 : (1 : Int32).toInt = 1 := by decide
    refine ty_calli (W.runS (As := [.int a2, .int 0, .int 1]) (rest := []) ⟨hx, hb, hml, hown, hts⟩ (a_X9_isOutside l D t cI cL cC (hF cI cL cC gC gP gT gR mm ms mg mL mQ mZ dm ds dg dL dQ dZ om os og oL oQ oZ gB gO xk gE gV gU gN G gW gA) a2 0 1 a2.toInt 0 1 rfl (by decide) (by decide) ) (va_cwS 3 hts gu_hX9_gauge_aX9_isOutside_99 rfl rfl rfl (by decide +kernel) ⟨Nat.le_of_ble_eq_true rfl, Nat.le_of_ble_eq_true rfl⟩) (tP_S hG hE) rfl rfl hl.1 rfl (lv_room (Nat.le_of_ble_eq_true rfl)) dX9_gauge_10 ⟨Nat.le_of_ble_eq_true rfl, Nat.le_of_ble_eq_true rfl⟩) hS (fun k h => by simp [wr0] at h) (fun r_8 H locs hp_9 hG hS o_10 => ?_)
    have hp_9 : (r_8 = 1 ∧ (a2.toInt < 0 ∨ 1 < a2.toInt)) ∨ (r_8 = 0 ∧ 0 ≤ a2.toInt ∧ a2.toInt ≤ 1) := hp_9
    rcases hp_9 with ⟨rfl, p_12⟩ | ⟨rfl, p_13, p_14⟩
    · skip
      refine lv_if_eq (tgt := 18) hx hb dX9_gauge_13 (by decide) (fun q => absurd q (by decide)) (fun _ => ?_)
      refine lv_iconst (v := (-1)) hx hb dX9_gauge_16 (by decide) ?_
      have zi_m1 : ((-1) : Int32).toInt = (-1) := by decide
      exact tx_iret (z := (gV, gU, gN)) hx hb hr hlk hG hS (by show gauR (gB.toInt = 0 ∨ (a2.toInt = 0 ∧ mm.toInt ≤ a3.toInt) ∨ (a2.toInt ≠ 0 ∧ ¬ hsQ mQ a3.toInt)) gV gN a1 a2 a3 ((-1) : Int32) gV gN; exact Or.inl ⟨by unfold gaB; omega, by omega, rfl, rfl⟩) dX9_gauge_17
    · skip
      refine lv_if_eq (tgt := 18) hx hb dX9_gauge_13 (by decide) (fun _ => ?_) (fun q => absurd (by decide) q)
      refine lv_iload_n hx hb dX9_gauge_18 rfl (lv_at hl 2 rfl) ?_
      refine lv_pc (pc2 := 19) rfl ?_
      refine lv_if_ne (tgt := 32) hx hb dX9_gauge_19 (by decide) (fun c_15 => ?_) (fun c_15 => ?_)
      · skip
        have c_15 : a2.toInt ≠ 0 := q_ne c_15
        refine lv_iload_n hx hb dX9_gauge_32 rfl (lv_at hl 3 rfl) ?_
        refine ty_calli (W.runS (As := [.int a3]) (rest := []) ⟨hx, hb, hml, hown, hts⟩ (a_X9_isNoStore l D t cI cL cC (hF cI cL cC gC gP gT gR mm ms mg mL mQ mZ dm ds dg dL dQ dZ om os og oL oQ oZ gB gO xk gE gV gU gN G gW gA) a3   ) (va_cwS 1 hts gu_hX9_gauge_aX9_isNoStore_155 rfl rfl rfl (by decide +kernel) ⟨Nat.le_of_ble_eq_true rfl, Nat.le_of_ble_eq_true rfl⟩) (tP_S hG hE) rfl rfl hl.1 rfl (lv_room (Nat.le_of_ble_eq_true rfl)) dX9_gauge_33 ⟨Nat.le_of_ble_eq_true rfl, Nat.le_of_ble_eq_true rfl⟩) hS (fun k h => by simp [wr0] at h) (fun r_16 H locs hp_17 hG hS o_18 => ?_)
        have hp_17 : (r_16 = 1 ∧ (a3.toInt < 0 ∨ 15 < a3.toInt)) ∨ (r_16 = 0 ∧ 0 ≤ a3.toInt ∧ a3.toInt ≤ 15) := hp_17
        rcases hp_17 with ⟨rfl, p_20⟩ | ⟨rfl, p_21, p_22⟩
        · skip
          refine lv_if_eq (tgt := 41) hx hb dX9_gauge_36 (by decide) (fun q => absurd q (by decide)) (fun _ => ?_)
          refine lv_iconst (v := (-1)) hx hb dX9_gauge_39 (by decide) ?_
          have zi_m1 : ((-1) : Int32).toInt = (-1) := by decide
          exact tx_iret (z := (gV, gU, gN)) hx hb hr hlk hG hS (by show gauR (gB.toInt = 0 ∨ (a2.toInt = 0 ∧ mm.toInt ≤ a3.toInt) ∨ (a2.toInt ≠ 0 ∧ ¬ hsQ mQ a3.toInt)) gV gN a1 a2 a3 ((-1) : Int32) gV gN; exact Or.inl ⟨by unfold gaB; omega, by omega, rfl, rfl⟩) dX9_gauge_40
        · skip
          refine lv_if_eq (tgt := 41) hx hb dX9_gauge_36 (by decide) (fun _ => ?_) (fun q => absurd (by decide) q)
          refine lv_iload_n hx hb dX9_gauge_41 rfl (lv_at hl 2 rfl) ?_
          refine lv_pc (pc2 := 42) rfl ?_
          refine lv_if_ne (tgt := 56) hx hb dX9_gauge_42 (by decide) (fun c_23 => ?_) (fun c_23 => ?_)
          · skip
            have c_23 : a2.toInt ≠ 0 := q_ne c_23
            refine lv_aload_n hx hb dX9_gauge_56 rfl (lv_at hl 0 rfl) ?_
            refine lv_iload_n hx hb dX9_gauge_57 rfl (lv_at hl 3 rfl) ?_
            obtain ⟨r_24, r_26, r_28, r_30, r_32, r_34, r_36, r_38, r_40, r_42, r_44, r_46, r_48, r_50, r_52, at_54, h_25, h_27, h_29, h_31, h_33, h_35, h_37, h_39, h_41, h_43, h_45, h_47, h_49, h_51, h_53⟩ := hF_o1 hG k_a0
            refine ty_calli (W.runV (As := [.int a3]) (rest := []) ⟨hx, hb, hml, hown, hts⟩ (h_X9_lacksStore l D t cI cL cC gC gP gT gR mm ms mg mL mQ mZ dm ds dg dL dQ dZ om os og oL oQ oZ gB gO xk gE gV gU gN G gW gA a0 a3  uq  k_a0) (cwV 1 hts gu_hX9_gauge_hX9_lacksStore_160 rfl rfl rfl (by decide +kernel) ⟨Nat.le_of_ble_eq_true rfl, Nat.le_of_ble_eq_true rfl⟩) (tP_V hG hE at_54 rfl) rfl rfl hl.1 rfl (lv_room (Nat.le_of_ble_eq_true rfl)) dX9_gauge_58 ⟨Nat.le_of_ble_eq_true rfl, Nat.le_of_ble_eq_true rfl⟩) hS (fun k h => by simp [wr0] at h) (fun r_55 H locs hp_56 hG hS o_57 => ?_)
            have at_54 := va_at.keptC at_54 o_57 k_a0 rfl
            have hp_56 : (r_55 = 1 ∧ (gB.toInt = 0 ∨ ¬ hsQ mQ a3.toInt)) ∨ (r_55 = 0 ∧ gB.toInt ≠ 0 ∧ hsQ mQ a3.toInt) := hp_56
            rcases hp_56 with ⟨rfl, p_59⟩ | ⟨rfl, p_60, p_61⟩
            · skip
              refine lv_if_eq (tgt := 67) hx hb dX9_gauge_61 (by decide) (fun q => absurd q (by decide)) (fun _ => ?_)
              refine lv_bipush (v := (-2)) hx hb dX9_gauge_64 (by decide) ?_
              have zi_m2 : ((-2) : Int32).toInt = (-2) := by decide
              exact tx_iret (z := (gV, gU, gN)) hx hb hr hlk hG hS (by show gauR (gB.toInt = 0 ∨ (a2.toInt = 0 ∧ mm.toInt ≤ a3.toInt) ∨ (a2.toInt ≠ 0 ∧ ¬ hsQ mQ a3.toInt)) gV gN a1 a2 a3 ((-2) : Int32) gV gN; exact Or.inr (Or.inl ⟨by unfold gaB; omega, p_59.elim Or.inl (fun q => Or.inr (Or.inr ⟨by omega, q⟩)), by omega, rfl, rfl⟩)) dX9_gauge_66
            · skip
              refine lv_if_eq (tgt := 67) hx hb dX9_gauge_61 (by decide) (fun _ => ?_) (fun q => absurd (by decide) q)
              refine lv_pc (pc2 := 67) rfl ?_
              refine lv_aload_n hx hb dX9_gauge_67 rfl (lv_at hl 0 rfl) ?_
              refine va_get (D := D) (ci := 8) (v := .ref r_46) (C := RX9) (T := TX9) (N := 18) hx hb hts in9 hown hK (va_one at_54) 0 rfl rfl 14 (by decide) (hts (.fieldLink RX9 74 "RiverModel" "gauges" "LRiverModel$Gauges;") (List.mem_of_getElem? (i := 11) rfl)) (fun _ h9 => h9) rfl dX9_gauge_68 ?_
              refine lv_iload_n hx hb dX9_gauge_71 rfl (lv_at hl 1 rfl) ?_
              refine lv_iload_n hx hb dX9_gauge_72 rfl (lv_at hl 2 rfl) ?_
              refine lv_iload_n hx hb dX9_gauge_73 rfl (lv_at hl 3 rfl) ?_
              have hV_62 : tG D (rF cI cL cC gC gP gT gR mm ms mg mL mQ mZ gE gV gU gN) (fun q => vwM (t q)) H := tG.vw hG (vwM_vw) rfl
              obtain ⟨r_63, r_65, r_67, at_69, h_64, h_66, h_68⟩ := hF_o6 hG h_47
              refine tv_callv (t := t) (W.runV (As := [.int a1, .int a2, .int a3]) (rest := []) ⟨hx, hb, hml, hown, hts⟩ (v_X1_set l D (fun q => vwM (t q)) cI cL cC gC gP gT gR mm ms mg mL mQ mZ gE gV gU gN r_46 a1 a2 a3  (vwM_inj uq) (by omega) (by omega) (show vwM (t r_46) = 6 by rw [h_47]; rfl)) (cwV 3 hts gu_hX9_gauge_vX1_set_208 rfl rfl rfl (by decide +kernel) ⟨Nat.le_of_ble_eq_true rfl, Nat.le_of_ble_eq_true rfl⟩) (tP_V hV_62 hE at_69 rfl) rfl rfl hl.1 rfl (lv_room (Nat.le_of_ble_eq_true rfl)) dX9_gauge_74 ⟨Nat.le_of_ble_eq_true rfl, Nat.le_of_ble_eq_true rfl⟩) hS (fun q h => vwM_vG_hG6 h) (fun zz_73 H locs hp_71 hV_74 hS o_72 => ?_)
              obtain ⟨gV_75, gU_76, gN_77⟩ := zz_73
              replace hG : tG D (hF cI cL cC gC gP gT gR mm ms mg mL mQ mZ dm ds dg dL dQ dZ om os og oL oQ oZ gB gO xk gE gV_75 gU_76 gN_77 G gW gA) t H := tG.unvw hG hV_74 o_72 rfl (vwM_vG_b (gV := gV) (gU := gU) (gN := gN)) (vwM_vG_o)
              have at_54 := va_at.keptC (t := (fun q => vwM (t q))) at_54 o_72 (show vwM (t a0) = 0 by rw [k_a0]; rfl) rfl
              have at_69 := va_at.keptC (t := (fun q => vwM (t q))) at_69 o_72 (show vwM (t r_46) = 6 by rw [h_47]; rfl) rfl
              clear hV_62 hV_74
              have hp_71 : gV_75 = upd gV a1.toInt.toNat a2 ∧ cpf gN gN_77 (96 * a1.toInt) (fun _ => -1) 96 := hp_71
              obtain ⟨p_78, p_79⟩ := hp_71
              refine lv_iconst (v := 0) hx hb dX9_gauge_77 (by decide) ?_
              exact tx_iret (z := (gV_75, gU_76, gN_77)) hx hb hr hlk hG hS (by show gauR (gB.toInt = 0 ∨ (a2.toInt = 0 ∧ mm.toInt ≤ a3.toInt) ∨ (a2.toInt ≠ 0 ∧ ¬ hsQ mQ a3.toInt)) gV gN a1 a2 a3 (0 : Int32) gV_75 gN_77; exact Or.inr (Or.inr ⟨by unfold gaB; omega, fun q => q.elim (fun q => by omega) (fun q => q.elim (fun q => by omega) (fun q => q.2 p_61)), by omega, p_78, p_79⟩)) dX9_gauge_78
          · skip
            have c_23 : a2.toInt = 0 := q_eq c_23
            refine lv_pc (pc2 := 45) rfl ?_
            refine lv_aload_n hx hb dX9_gauge_45 rfl (lv_at hl 0 rfl) ?_
            refine lv_iload_n hx hb dX9_gauge_46 rfl (lv_at hl 3 rfl) ?_
            obtain ⟨r_80, r_82, r_84, r_86, r_88, r_90, r_92, r_94, r_96, r_98, r_100, r_102, r_104, r_106, r_108, at_110, h_81, h_83, h_85, h_87, h_89, h_91, h_93, h_95, h_97, h_99, h_101, h_103, h_105, h_107, h_109⟩ := hF_o1 hG k_a0
            refine ty_calli (W.runV (As := [.int a3]) (rest := []) ⟨hx, hb, hml, hown, hts⟩ (h_X9_lacksItem l D t cI cL cC gC gP gT gR mm ms mg mL mQ mZ dm ds dg dL dQ dZ om os og oL oQ oZ gB gO xk gE gV gU gN G gW gA a0 a3  uq  k_a0) (cwV 1 hts gu_hX9_gauge_hX9_lacksItem_131 rfl rfl rfl (by decide +kernel) ⟨Nat.le_of_ble_eq_true rfl, Nat.le_of_ble_eq_true rfl⟩) (tP_V hG hE at_110 rfl) rfl rfl hl.1 rfl (lv_room (Nat.le_of_ble_eq_true rfl)) dX9_gauge_47 ⟨Nat.le_of_ble_eq_true rfl, Nat.le_of_ble_eq_true rfl⟩) hS (fun k h => by simp [wr0] at h) (fun r_111 H locs hp_112 hG hS o_113 => ?_)
            have at_110 := va_at.keptC at_110 o_113 k_a0 rfl
            have hp_112 : (r_111 = 1 ∧ (gB.toInt = 0 ∨ mm.toInt ≤ a3.toInt)) ∨ (r_111 = 0 ∧ gB.toInt ≠ 0 ∧ a3.toInt < mm.toInt) := hp_112
            rcases hp_112 with ⟨rfl, p_115⟩ | ⟨rfl, p_116, p_117⟩
            · skip
              refine lv_if_eq (tgt := 67) hx hb dX9_gauge_50 (by decide) (fun q => absurd q (by decide)) (fun _ => ?_)
              refine lv_goto (tgt := 64) hx hb dX9_gauge_53 (by decide) ?_
              refine lv_bipush (v := (-2)) hx hb dX9_gauge_64 (by decide) ?_
              have zi_m2 : ((-2) : Int32).toInt = (-2) := by decide
              exact tx_iret (z := (gV, gU, gN)) hx hb hr hlk hG hS (by show gauR (gB.toInt = 0 ∨ (a2.toInt = 0 ∧ mm.toInt ≤ a3.toInt) ∨ (a2.toInt ≠ 0 ∧ ¬ hsQ mQ a3.toInt)) gV gN a1 a2 a3 ((-2) : Int32) gV gN; exact Or.inr (Or.inl ⟨by unfold gaB; omega, p_115.elim Or.inl (fun q => Or.inr (Or.inl ⟨by omega, q⟩)), by omega, rfl, rfl⟩)) dX9_gauge_66
            · skip
              refine lv_if_eq (tgt := 67) hx hb dX9_gauge_50 (by decide) (fun _ => ?_) (fun q => absurd (by decide) q)
              refine lv_pc (pc2 := 67) rfl ?_
              refine lv_aload_n hx hb dX9_gauge_67 rfl (lv_at hl 0 rfl) ?_
              refine va_get (D := D) (ci := 8) (v := .ref r_102) (C := RX9) (T := TX9) (N := 18) hx hb hts in9 hown hK (va_one at_110) 0 rfl rfl 14 (by decide) (hts (.fieldLink RX9 74 "RiverModel" "gauges" "LRiverModel$Gauges;") (List.mem_of_getElem? (i := 11) rfl)) (fun _ h9 => h9) rfl dX9_gauge_68 ?_
              refine lv_iload_n hx hb dX9_gauge_71 rfl (lv_at hl 1 rfl) ?_
              refine lv_iload_n hx hb dX9_gauge_72 rfl (lv_at hl 2 rfl) ?_
              refine lv_iload_n hx hb dX9_gauge_73 rfl (lv_at hl 3 rfl) ?_
              have hV_118 : tG D (rF cI cL cC gC gP gT gR mm ms mg mL mQ mZ gE gV gU gN) (fun q => vwM (t q)) H := tG.vw hG (vwM_vw) rfl
              obtain ⟨r_119, r_121, r_123, at_125, h_120, h_122, h_124⟩ := hF_o6 hG h_103
              refine tv_callv (t := t) (W.runV (As := [.int a1, .int a2, .int a3]) (rest := []) ⟨hx, hb, hml, hown, hts⟩ (v_X1_set l D (fun q => vwM (t q)) cI cL cC gC gP gT gR mm ms mg mL mQ mZ gE gV gU gN r_102 a1 a2 a3  (vwM_inj uq) (by omega) (by omega) (show vwM (t r_102) = 6 by rw [h_103]; rfl)) (cwV 3 hts gu_hX9_gauge_vX1_set_208 rfl rfl rfl (by decide +kernel) ⟨Nat.le_of_ble_eq_true rfl, Nat.le_of_ble_eq_true rfl⟩) (tP_V hV_118 hE at_125 rfl) rfl rfl hl.1 rfl (lv_room (Nat.le_of_ble_eq_true rfl)) dX9_gauge_74 ⟨Nat.le_of_ble_eq_true rfl, Nat.le_of_ble_eq_true rfl⟩) hS (fun q h => vwM_vG_hG6 h) (fun zz_129 H locs hp_127 hV_130 hS o_128 => ?_)
              obtain ⟨gV_131, gU_132, gN_133⟩ := zz_129
              replace hG : tG D (hF cI cL cC gC gP gT gR mm ms mg mL mQ mZ dm ds dg dL dQ dZ om os og oL oQ oZ gB gO xk gE gV_131 gU_132 gN_133 G gW gA) t H := tG.unvw hG hV_130 o_128 rfl (vwM_vG_b (gV := gV) (gU := gU) (gN := gN)) (vwM_vG_o)
              have at_110 := va_at.keptC (t := (fun q => vwM (t q))) at_110 o_128 (show vwM (t a0) = 0 by rw [k_a0]; rfl) rfl
              have at_125 := va_at.keptC (t := (fun q => vwM (t q))) at_125 o_128 (show vwM (t r_102) = 6 by rw [h_103]; rfl) rfl
              clear hV_118 hV_130
              have hp_127 : gV_131 = upd gV a1.toInt.toNat a2 ∧ cpf gN gN_133 (96 * a1.toInt) (fun _ => -1) 96 := hp_127
              obtain ⟨p_134, p_135⟩ := hp_127
              refine lv_iconst (v := 0) hx hb dX9_gauge_77 (by decide) ?_
              exact tx_iret (z := (gV_131, gU_132, gN_133)) hx hb hr hlk hG hS (by show gauR (gB.toInt = 0 ∨ (a2.toInt = 0 ∧ mm.toInt ≤ a3.toInt) ∨ (a2.toInt ≠ 0 ∧ ¬ hsQ mQ a3.toInt)) gV gN a1 a2 a3 (0 : Int32) gV_131 gN_133; exact Or.inr (Or.inr ⟨by unfold gaB; omega, fun q => q.elim (fun q => by omega) (fun q => q.elim (fun q => by omega) (fun q => q.1 (by omega))), by omega, p_134, p_135⟩)) dX9_gauge_78
      · skip
        have c_15 : a2.toInt = 0 := q_eq c_15
        refine lv_pc (pc2 := 22) rfl ?_
        refine lv_iload_n hx hb dX9_gauge_22 rfl (lv_at hl 3 rfl) ?_
        refine ty_calli (W.runS (As := [.int a3]) (rest := []) ⟨hx, hb, hml, hown, hts⟩ (a_X9_isNoItem l D t cI cL cC (hF cI cL cC gC gP gT gR mm ms mg mL mQ mZ dm ds dg dL dQ dZ om os og oL oQ oZ gB gO xk gE gV gU gN G gW gA) a3   ) (va_cwS 1 hts gu_hX9_gauge_aX9_isNoItem_127 rfl rfl rfl (by decide +kernel) ⟨Nat.le_of_ble_eq_true rfl, Nat.le_of_ble_eq_true rfl⟩) (tP_S hG hE) rfl rfl hl.1 rfl (lv_room (Nat.le_of_ble_eq_true rfl)) dX9_gauge_23 ⟨Nat.le_of_ble_eq_true rfl, Nat.le_of_ble_eq_true rfl⟩) hS (fun k h => by simp [wr0] at h) (fun r_136 H locs hp_137 hG hS o_138 => ?_)
        have hp_137 : (r_136 = 1 ∧ (a3.toInt < 0 ∨ 39 < a3.toInt)) ∨ (r_136 = 0 ∧ 0 ≤ a3.toInt ∧ a3.toInt ≤ 39) := hp_137
        rcases hp_137 with ⟨rfl, p_140⟩ | ⟨rfl, p_141, p_142⟩
        · skip
          refine lv_if_eq (tgt := 41) hx hb dX9_gauge_26 (by decide) (fun q => absurd q (by decide)) (fun _ => ?_)
          refine lv_goto (tgt := 39) hx hb dX9_gauge_29 (by decide) ?_
          refine lv_iconst (v := (-1)) hx hb dX9_gauge_39 (by decide) ?_
          have zi_m1 : ((-1) : Int32).toInt = (-1) := by decide
          exact tx_iret (z := (gV, gU, gN)) hx hb hr hlk hG hS (by show gauR (gB.toInt = 0 ∨ (a2.toInt = 0 ∧ mm.toInt ≤ a3.toInt) ∨ (a2.toInt ≠ 0 ∧ ¬ hsQ mQ a3.toInt)) gV gN a1 a2 a3 ((-1) : Int32) gV gN; exact Or.inl ⟨by unfold gaB; omega, by omega, rfl, rfl⟩) dX9_gauge_40
        · skip
          refine lv_if_eq (tgt := 41) hx hb dX9_gauge_26 (by decide) (fun _ => ?_) (fun q => absurd (by decide) q)
          refine lv_iload_n hx hb dX9_gauge_41 rfl (lv_at hl 2 rfl) ?_
          refine lv_pc (pc2 := 42) rfl ?_
          refine lv_if_ne (tgt := 56) hx hb dX9_gauge_42 (by decide) (fun c_143 => ?_) (fun c_143 => ?_)
          · skip
            have c_143 : a2.toInt ≠ 0 := q_ne c_143
            refine lv_aload_n hx hb dX9_gauge_56 rfl (lv_at hl 0 rfl) ?_
            refine lv_iload_n hx hb dX9_gauge_57 rfl (lv_at hl 3 rfl) ?_
            obtain ⟨r_144, r_146, r_148, r_150, r_152, r_154, r_156, r_158, r_160, r_162, r_164, r_166, r_168, r_170, r_172, at_174, h_145, h_147, h_149, h_151, h_153, h_155, h_157, h_159, h_161, h_163, h_165, h_167, h_169, h_171, h_173⟩ := hF_o1 hG k_a0
            refine ty_calli (W.runV (As := [.int a3]) (rest := []) ⟨hx, hb, hml, hown, hts⟩ (h_X9_lacksStore l D t cI cL cC gC gP gT gR mm ms mg mL mQ mZ dm ds dg dL dQ dZ om os og oL oQ oZ gB gO xk gE gV gU gN G gW gA a0 a3  uq  k_a0) (cwV 1 hts gu_hX9_gauge_hX9_lacksStore_160 rfl rfl rfl (by decide +kernel) ⟨Nat.le_of_ble_eq_true rfl, Nat.le_of_ble_eq_true rfl⟩) (tP_V hG hE at_174 rfl) rfl rfl hl.1 rfl (lv_room (Nat.le_of_ble_eq_true rfl)) dX9_gauge_58 ⟨Nat.le_of_ble_eq_true rfl, Nat.le_of_ble_eq_true rfl⟩) hS (fun k h => by simp [wr0] at h) (fun r_175 H locs hp_176 hG hS o_177 => ?_)
            have at_174 := va_at.keptC at_174 o_177 k_a0 rfl
            have hp_176 : (r_175 = 1 ∧ (gB.toInt = 0 ∨ ¬ hsQ mQ a3.toInt)) ∨ (r_175 = 0 ∧ gB.toInt ≠ 0 ∧ hsQ mQ a3.toInt) := hp_176
            rcases hp_176 with ⟨rfl, p_179⟩ | ⟨rfl, p_180, p_181⟩
            · skip
              refine lv_if_eq (tgt := 67) hx hb dX9_gauge_61 (by decide) (fun q => absurd q (by decide)) (fun _ => ?_)
              refine lv_bipush (v := (-2)) hx hb dX9_gauge_64 (by decide) ?_
              have zi_m2 : ((-2) : Int32).toInt = (-2) := by decide
              exact tx_iret (z := (gV, gU, gN)) hx hb hr hlk hG hS (by show gauR (gB.toInt = 0 ∨ (a2.toInt = 0 ∧ mm.toInt ≤ a3.toInt) ∨ (a2.toInt ≠ 0 ∧ ¬ hsQ mQ a3.toInt)) gV gN a1 a2 a3 ((-2) : Int32) gV gN; exact Or.inr (Or.inl ⟨by unfold gaB; omega, p_179.elim Or.inl (fun q => Or.inr (Or.inr ⟨by omega, q⟩)), by omega, rfl, rfl⟩)) dX9_gauge_66
            · skip
              refine lv_if_eq (tgt := 67) hx hb dX9_gauge_61 (by decide) (fun _ => ?_) (fun q => absurd (by decide) q)
              refine lv_pc (pc2 := 67) rfl ?_
              refine lv_aload_n hx hb dX9_gauge_67 rfl (lv_at hl 0 rfl) ?_
              refine va_get (D := D) (ci := 8) (v := .ref r_166) (C := RX9) (T := TX9) (N := 18) hx hb hts in9 hown hK (va_one at_174) 0 rfl rfl 14 (by decide) (hts (.fieldLink RX9 74 "RiverModel" "gauges" "LRiverModel$Gauges;") (List.mem_of_getElem? (i := 11) rfl)) (fun _ h9 => h9) rfl dX9_gauge_68 ?_
              refine lv_iload_n hx hb dX9_gauge_71 rfl (lv_at hl 1 rfl) ?_
              refine lv_iload_n hx hb dX9_gauge_72 rfl (lv_at hl 2 rfl) ?_
              refine lv_iload_n hx hb dX9_gauge_73 rfl (lv_at hl 3 rfl) ?_
              have hV_182 : tG D (rF cI cL cC gC gP gT gR mm ms mg mL mQ mZ gE gV gU gN) (fun q => vwM (t q)) H := tG.vw hG (vwM_vw) rfl
              obtain ⟨r_183, r_185, r_187, at_189, h_184, h_186, h_188⟩ := hF_o6 hG h_167
              refine tv_callv (t := t) (W.runV (As := [.int a1, .int a2, .int a3]) (rest := []) ⟨hx, hb, hml, hown, hts⟩ (v_X1_set l D (fun q => vwM (t q)) cI cL cC gC gP gT gR mm ms mg mL mQ mZ gE gV gU gN r_166 a1 a2 a3  (vwM_inj uq) (by omega) (by omega) (show vwM (t r_166) = 6 by rw [h_167]; rfl)) (cwV 3 hts gu_hX9_gauge_vX1_set_208 rfl rfl rfl (by decide +kernel) ⟨Nat.le_of_ble_eq_true rfl, Nat.le_of_ble_eq_true rfl⟩) (tP_V hV_182 hE at_189 rfl) rfl rfl hl.1 rfl (lv_room (Nat.le_of_ble_eq_true rfl)) dX9_gauge_74 ⟨Nat.le_of_ble_eq_true rfl, Nat.le_of_ble_eq_true rfl⟩) hS (fun q h => vwM_vG_hG6 h) (fun zz_193 H locs hp_191 hV_194 hS o_192 => ?_)
              obtain ⟨gV_195, gU_196, gN_197⟩ := zz_193
              replace hG : tG D (hF cI cL cC gC gP gT gR mm ms mg mL mQ mZ dm ds dg dL dQ dZ om os og oL oQ oZ gB gO xk gE gV_195 gU_196 gN_197 G gW gA) t H := tG.unvw hG hV_194 o_192 rfl (vwM_vG_b (gV := gV) (gU := gU) (gN := gN)) (vwM_vG_o)
              have at_174 := va_at.keptC (t := (fun q => vwM (t q))) at_174 o_192 (show vwM (t a0) = 0 by rw [k_a0]; rfl) rfl
              have at_189 := va_at.keptC (t := (fun q => vwM (t q))) at_189 o_192 (show vwM (t r_166) = 6 by rw [h_167]; rfl) rfl
              clear hV_182 hV_194
              have hp_191 : gV_195 = upd gV a1.toInt.toNat a2 ∧ cpf gN gN_197 (96 * a1.toInt) (fun _ => -1) 96 := hp_191
              obtain ⟨p_198, p_199⟩ := hp_191
              refine lv_iconst (v := 0) hx hb dX9_gauge_77 (by decide) ?_
              exact tx_iret (z := (gV_195, gU_196, gN_197)) hx hb hr hlk hG hS (by show gauR (gB.toInt = 0 ∨ (a2.toInt = 0 ∧ mm.toInt ≤ a3.toInt) ∨ (a2.toInt ≠ 0 ∧ ¬ hsQ mQ a3.toInt)) gV gN a1 a2 a3 (0 : Int32) gV_195 gN_197; exact Or.inr (Or.inr ⟨by unfold gaB; omega, fun q => q.elim (fun q => by omega) (fun q => q.elim (fun q => by omega) (fun q => q.2 p_181)), by omega, p_198, p_199⟩)) dX9_gauge_78
          · skip
            have c_143 : a2.toInt = 0 := q_eq c_143
            refine lv_pc (pc2 := 45) rfl ?_
            refine lv_aload_n hx hb dX9_gauge_45 rfl (lv_at hl 0 rfl) ?_
            refine lv_iload_n hx hb dX9_gauge_46 rfl (lv_at hl 3 rfl) ?_
            obtain ⟨r_200, r_202, r_204, r_206, r_208, r_210, r_212, r_214, r_216, r_218, r_220, r_222, r_224, r_226, r_228, at_230, h_201, h_203, h_205, h_207, h_209, h_211, h_213, h_215, h_217, h_219, h_221, h_223, h_225, h_227, h_229⟩ := hF_o1 hG k_a0
            refine ty_calli (W.runV (As := [.int a3]) (rest := []) ⟨hx, hb, hml, hown, hts⟩ (h_X9_lacksItem l D t cI cL cC gC gP gT gR mm ms mg mL mQ mZ dm ds dg dL dQ dZ om os og oL oQ oZ gB gO xk gE gV gU gN G gW gA a0 a3  uq  k_a0) (cwV 1 hts gu_hX9_gauge_hX9_lacksItem_131 rfl rfl rfl (by decide +kernel) ⟨Nat.le_of_ble_eq_true rfl, Nat.le_of_ble_eq_true rfl⟩) (tP_V hG hE at_230 rfl) rfl rfl hl.1 rfl (lv_room (Nat.le_of_ble_eq_true rfl)) dX9_gauge_47 ⟨Nat.le_of_ble_eq_true rfl, Nat.le_of_ble_eq_true rfl⟩) hS (fun k h => by simp [wr0] at h) (fun r_231 H locs hp_232 hG hS o_233 => ?_)
            have at_230 := va_at.keptC at_230 o_233 k_a0 rfl
            have hp_232 : (r_231 = 1 ∧ (gB.toInt = 0 ∨ mm.toInt ≤ a3.toInt)) ∨ (r_231 = 0 ∧ gB.toInt ≠ 0 ∧ a3.toInt < mm.toInt) := hp_232
            rcases hp_232 with ⟨rfl, p_235⟩ | ⟨rfl, p_236, p_237⟩
            · skip
              refine lv_if_eq (tgt := 67) hx hb dX9_gauge_50 (by decide) (fun q => absurd q (by decide)) (fun _ => ?_)
              refine lv_goto (tgt := 64) hx hb dX9_gauge_53 (by decide) ?_
              refine lv_bipush (v := (-2)) hx hb dX9_gauge_64 (by decide) ?_
              have zi_m2 : ((-2) : Int32).toInt = (-2) := by decide
              exact tx_iret (z := (gV, gU, gN)) hx hb hr hlk hG hS (by show gauR (gB.toInt = 0 ∨ (a2.toInt = 0 ∧ mm.toInt ≤ a3.toInt) ∨ (a2.toInt ≠ 0 ∧ ¬ hsQ mQ a3.toInt)) gV gN a1 a2 a3 ((-2) : Int32) gV gN; exact Or.inr (Or.inl ⟨by unfold gaB; omega, p_235.elim Or.inl (fun q => Or.inr (Or.inl ⟨by omega, q⟩)), by omega, rfl, rfl⟩)) dX9_gauge_66
            · skip
              refine lv_if_eq (tgt := 67) hx hb dX9_gauge_50 (by decide) (fun _ => ?_) (fun q => absurd (by decide) q)
              refine lv_pc (pc2 := 67) rfl ?_
              refine lv_aload_n hx hb dX9_gauge_67 rfl (lv_at hl 0 rfl) ?_
              refine va_get (D := D) (ci := 8) (v := .ref r_222) (C := RX9) (T := TX9) (N := 18) hx hb hts in9 hown hK (va_one at_230) 0 rfl rfl 14 (by decide) (hts (.fieldLink RX9 74 "RiverModel" "gauges" "LRiverModel$Gauges;") (List.mem_of_getElem? (i := 11) rfl)) (fun _ h9 => h9) rfl dX9_gauge_68 ?_
              refine lv_iload_n hx hb dX9_gauge_71 rfl (lv_at hl 1 rfl) ?_
              refine lv_iload_n hx hb dX9_gauge_72 rfl (lv_at hl 2 rfl) ?_
              refine lv_iload_n hx hb dX9_gauge_73 rfl (lv_at hl 3 rfl) ?_
              have hV_238 : tG D (rF cI cL cC gC gP gT gR mm ms mg mL mQ mZ gE gV gU gN) (fun q => vwM (t q)) H := tG.vw hG (vwM_vw) rfl
              obtain ⟨r_239, r_241, r_243, at_245, h_240, h_242, h_244⟩ := hF_o6 hG h_223
              refine tv_callv (t := t) (W.runV (As := [.int a1, .int a2, .int a3]) (rest := []) ⟨hx, hb, hml, hown, hts⟩ (v_X1_set l D (fun q => vwM (t q)) cI cL cC gC gP gT gR mm ms mg mL mQ mZ gE gV gU gN r_222 a1 a2 a3  (vwM_inj uq) (by omega) (by omega) (show vwM (t r_222) = 6 by rw [h_223]; rfl)) (cwV 3 hts gu_hX9_gauge_vX1_set_208 rfl rfl rfl (by decide +kernel) ⟨Nat.le_of_ble_eq_true rfl, Nat.le_of_ble_eq_true rfl⟩) (tP_V hV_238 hE at_245 rfl) rfl rfl hl.1 rfl (lv_room (Nat.le_of_ble_eq_true rfl)) dX9_gauge_74 ⟨Nat.le_of_ble_eq_true rfl, Nat.le_of_ble_eq_true rfl⟩) hS (fun q h => vwM_vG_hG6 h) (fun zz_249 H locs hp_247 hV_250 hS o_248 => ?_)
              obtain ⟨gV_251, gU_252, gN_253⟩ := zz_249
              replace hG : tG D (hF cI cL cC gC gP gT gR mm ms mg mL mQ mZ dm ds dg dL dQ dZ om os og oL oQ oZ gB gO xk gE gV_251 gU_252 gN_253 G gW gA) t H := tG.unvw hG hV_250 o_248 rfl (vwM_vG_b (gV := gV) (gU := gU) (gN := gN)) (vwM_vG_o)
              have at_230 := va_at.keptC (t := (fun q => vwM (t q))) at_230 o_248 (show vwM (t a0) = 0 by rw [k_a0]; rfl) rfl
              have at_245 := va_at.keptC (t := (fun q => vwM (t q))) at_245 o_248 (show vwM (t r_222) = 6 by rw [h_223]; rfl) rfl
              clear hV_238 hV_250
              have hp_247 : gV_251 = upd gV a1.toInt.toNat a2 ∧ cpf gN gN_253 (96 * a1.toInt) (fun _ => -1) 96 := hp_247
              obtain ⟨p_254, p_255⟩ := hp_247
              refine lv_iconst (v := 0) hx hb dX9_gauge_77 (by decide) ?_
              exact tx_iret (z := (gV_251, gU_252, gN_253)) hx hb hr hlk hG hS (by show gauR (gB.toInt = 0 ∨ (a2.toInt = 0 ∧ mm.toInt ≤ a3.toInt) ∨ (a2.toInt ≠ 0 ∧ ¬ hsQ mQ a3.toInt)) gV gN a1 a2 a3 (0 : Int32) gV_251 gN_253; exact Or.inr (Or.inr ⟨by unfold gaB; omega, fun q => q.elim (fun q => by omega) (fun q => q.elim (fun q => by omega) (fun q => q.1 (by omega))), by omega, p_254, p_255⟩)) dX9_gauge_78
