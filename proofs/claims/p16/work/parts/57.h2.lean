theorem dX9_ends_0 : decode cX9_ends 0 = .ok (.iload_n 1, 1) := by decide +kernel
theorem dX9_ends_1 : decode cX9_ends 1 = .ok (.iconst 0, 1) := by decide +kernel
theorem dX9_ends_2 : decode cX9_ends 2 = .ok (.ldc 224, 2) := by decide +kernel
theorem dX9_ends_4 : decode cX9_ends 4 = .ok (.invokestatic 99, 3) := by decide +kernel
theorem dX9_ends_7 : decode cX9_ends 7 = .ok (.ifCond .eq 5, 3) := by decide +kernel
theorem dX9_ends_10 : decode cX9_ends 10 = .ok (.iconst (-1), 1) := by decide +kernel
theorem dX9_ends_11 : decode cX9_ends 11 = .ok (.ireturn, 1) := by decide +kernel
theorem dX9_ends_12 : decode cX9_ends 12 = .ok (.aload_n 0, 1) := by decide +kernel
theorem dX9_ends_13 : decode cX9_ends 13 = .ok (.getfield 74, 3) := by decide +kernel
theorem dX9_ends_16 : decode cX9_ends 16 = .ok (.getfield 225, 3) := by decide +kernel
theorem dX9_ends_19 : decode cX9_ends 19 = .ok (.istore_n 2, 1) := by decide +kernel
theorem dX9_ends_20 : decode cX9_ends 20 = .ok (.aload_n 0, 1) := by decide +kernel
theorem dX9_ends_21 : decode cX9_ends 21 = .ok (.getfield 74, 3) := by decide +kernel
theorem dX9_ends_24 : decode cX9_ends 24 = .ok (.iload_n 1, 1) := by decide +kernel
theorem dX9_ends_25 : decode cX9_ends 25 = .ok (.putfield 225, 3) := by decide +kernel
theorem dX9_ends_28 : decode cX9_ends 28 = .ok (.iload_n 2, 1) := by decide +kernel
theorem dX9_ends_29 : decode cX9_ends 29 = .ok (.ireturn, 1) := by decide +kernel
theorem dX9_fits_0 : decode cX9_fits 0 = .ok (.aload_n 0, 1) := by decide +kernel
theorem dX9_fits_1 : decode cX9_fits 1 = .ok (.getfield 29, 3) := by decide +kernel
theorem dX9_fits_4 : decode cX9_fits 4 = .ok (.ifCond .ne 6, 3) := by decide +kernel
theorem dX9_fits_7 : decode cX9_fits 7 = .ok (.bipush (-2), 2) := by decide +kernel
theorem dX9_fits_9 : decode cX9_fits 9 = .ok (.ireturn, 1) := by decide +kernel
theorem dX9_fits_10 : decode cX9_fits 10 = .ok (.iconst 0, 1) := by decide +kernel
theorem dX9_fits_11 : decode cX9_fits 11 = .ok (.istore_n 1, 1) := by decide +kernel
theorem dX9_fits_12 : decode cX9_fits 12 = .ok (.aload_n 0, 1) := by decide +kernel
theorem dX9_fits_13 : decode cX9_fits 13 = .ok (.getfield 81, 3) := by decide +kernel
theorem dX9_fits_16 : decode cX9_fits 16 = .ok (.invokevirtual 239, 3) := by decide +kernel
theorem dX9_fits_19 : decode cX9_fits 19 = .ok (.istore_n 2, 1) := by decide +kernel
theorem dX9_fits_20 : decode cX9_fits 20 = .ok (.iconst 0, 1) := by decide +kernel
theorem dX9_fits_21 : decode cX9_fits 21 = .ok (.istore_n 3, 1) := by decide +kernel
theorem dX9_fits_22 : decode cX9_fits 22 = .ok (.iload_n 3, 1) := by decide +kernel
theorem dX9_fits_23 : decode cX9_fits 23 = .ok (.iload_n 2, 1) := by decide +kernel
theorem dX9_fits_24 : decode cX9_fits 24 = .ok (.if_icmp .ge 20, 3) := by decide +kernel
theorem dX9_fits_27 : decode cX9_fits 27 = .ok (.aload_n 0, 1) := by decide +kernel
theorem dX9_fits_28 : decode cX9_fits 28 = .ok (.iload_n 3, 1) := by decide +kernel
theorem dX9_fits_29 : decode cX9_fits 29 = .ok (.invokevirtual 243, 3) := by decide +kernel
theorem dX9_fits_32 : decode cX9_fits 32 = .ok (.ifCond .eq 6, 3) := by decide +kernel
theorem dX9_fits_35 : decode cX9_fits 35 = .ok (.iinc 1 1, 3) := by decide +kernel
theorem dX9_fits_38 : decode cX9_fits 38 = .ok (.iinc 3 1, 3) := by decide +kernel
theorem dX9_fits_41 : decode cX9_fits 41 = .ok (.goto (-19), 3) := by decide +kernel
theorem dX9_fits_44 : decode cX9_fits 44 = .ok (.iload_n 1, 1) := by decide +kernel
theorem dX9_fits_45 : decode cX9_fits 45 = .ok (.ireturn, 1) := by decide +kernel
theorem dX9_fit_0 : decode cX9_fit 0 = .ok (.iload_n 1, 1) := by decide +kernel
theorem dX9_fit_1 : decode cX9_fit 1 = .ok (.ifCond .lt 10, 3) := by decide +kernel
theorem dX9_fit_4 : decode cX9_fit 4 = .ok (.iload_n 2, 1) := by decide +kernel
theorem dX9_fit_5 : decode cX9_fit 5 = .ok (.invokestatic 228, 3) := by decide +kernel
theorem dX9_fit_8 : decode cX9_fit 8 = .ok (.ifCond .eq 5, 3) := by decide +kernel
theorem dX9_fit_11 : decode cX9_fit 11 = .ok (.iconst (-1), 1) := by decide +kernel
theorem dX9_fit_12 : decode cX9_fit 12 = .ok (.ireturn, 1) := by decide +kernel
theorem dX9_fit_13 : decode cX9_fit 13 = .ok (.aload_n 0, 1) := by decide +kernel
theorem dX9_fit_14 : decode cX9_fit 14 = .ok (.getfield 29, 3) := by decide +kernel
theorem dX9_fit_17 : decode cX9_fit 17 = .ok (.ifCond .ne 6, 3) := by decide +kernel
theorem dX9_fit_20 : decode cX9_fit 20 = .ok (.bipush (-2), 2) := by decide +kernel
theorem dX9_fit_22 : decode cX9_fit 22 = .ok (.ireturn, 1) := by decide +kernel
theorem dX9_fit_23 : decode cX9_fit 23 = .ok (.aload_n 0, 1) := by decide +kernel
theorem dX9_fit_24 : decode cX9_fit 24 = .ok (.getfield 81, 3) := by decide +kernel
theorem dX9_fit_27 : decode cX9_fit 27 = .ok (.iload_n 2, 1) := by decide +kernel
theorem dX9_fit_28 : decode cX9_fit 28 = .ok (.invokevirtual 246, 3) := by decide +kernel
theorem dX9_fit_31 : decode cX9_fit 31 = .ok (.ifCond .eq 11, 3) := by decide +kernel
theorem dX9_fit_34 : decode cX9_fit 34 = .ok (.aload_n 0, 1) := by decide +kernel
theorem dX9_fit_35 : decode cX9_fit 35 = .ok (.iload_n 1, 1) := by decide +kernel
theorem dX9_fit_36 : decode cX9_fit 36 = .ok (.invokevirtual 249, 3) := by decide +kernel
theorem dX9_fit_39 : decode cX9_fit 39 = .ok (.goto 5, 3) := by decide +kernel
theorem dX9_fit_42 : decode cX9_fit 42 = .ok (.bipush (-4), 2) := by decide +kernel
theorem dX9_fit_44 : decode cX9_fit 44 = .ok (.istore_n 3, 1) := by decide +kernel
theorem dX9_fit_45 : decode cX9_fit 45 = .ok (.iload_n 3, 1) := by decide +kernel
theorem dX9_fit_46 : decode cX9_fit 46 = .ok (.bipush (-4), 2) := by decide +kernel
theorem dX9_fit_48 : decode cX9_fit 48 = .ok (.if_icmp .ne 8, 3) := by decide +kernel
theorem dX9_fit_51 : decode cX9_fit 51 = .ok (.bipush (-4), 2) := by decide +kernel
theorem dX9_fit_53 : decode cX9_fit 53 = .ok (.goto 12, 3) := by decide +kernel
theorem dX9_fit_56 : decode cX9_fit 56 = .ok (.aload_n 0, 1) := by decide +kernel
theorem dX9_fit_57 : decode cX9_fit 57 = .ok (.getfield 81, 3) := by decide +kernel
theorem dX9_fit_60 : decode cX9_fit 60 = .ok (.iload_n 2, 1) := by decide +kernel
theorem dX9_fit_61 : decode cX9_fit 61 = .ok (.iload_n 3, 1) := by decide +kernel
theorem dX9_fit_62 : decode cX9_fit 62 = .ok (.invokevirtual 253, 3) := by decide +kernel
theorem dX9_fit_65 : decode cX9_fit 65 = .ok (.ireturn, 1) := by decide +kernel
theorem dX9_keep_0 : decode cX9_keep 0 = .ok (.aload_n 0, 1) := by decide +kernel
theorem dX9_keep_1 : decode cX9_keep 1 = .ok (.getfield 29, 3) := by decide +kernel
theorem dX9_keep_4 : decode cX9_keep 4 = .ok (.ifCond .ne 6, 3) := by decide +kernel
theorem dX9_keep_7 : decode cX9_keep 7 = .ok (.bipush (-2), 2) := by decide +kernel
theorem dX9_keep_9 : decode cX9_keep 9 = .ok (.ireturn, 1) := by decide +kernel
theorem dX9_keep_10 : decode cX9_keep 10 = .ok (.aload_n 0, 1) := by decide +kernel
theorem dX9_keep_11 : decode cX9_keep 11 = .ok (.getfield 67, 3) := by decide +kernel
theorem dX9_keep_14 : decode cX9_keep 14 = .ok (.iconst 3, 1) := by decide +kernel
theorem dX9_keep_15 : decode cX9_keep 15 = .ok (.if_icmp .lt 6, 3) := by decide +kernel
theorem dX9_keep_18 : decode cX9_keep 18 = .ok (.bipush (-3), 2) := by decide +kernel
theorem dX9_keep_20 : decode cX9_keep 20 = .ok (.ireturn, 1) := by decide +kernel
theorem dX9_keep_21 : decode cX9_keep 21 = .ok (.aload_n 0, 1) := by decide +kernel
theorem dX9_keep_22 : decode cX9_keep 22 = .ok (.getfield 63, 3) := by decide +kernel
theorem dX9_keep_25 : decode cX9_keep 25 = .ok (.aload_n 0, 1) := by decide +kernel
theorem dX9_keep_26 : decode cX9_keep 26 = .ok (.getfield 67, 3) := by decide +kernel
theorem dX9_keep_29 : decode cX9_keep 29 = .ok (.aaload, 1) := by decide +kernel
theorem dX9_keep_30 : decode cX9_keep 30 = .ok (.aload_n 0, 1) := by decide +kernel
theorem dX9_keep_31 : decode cX9_keep 31 = .ok (.getfield 53, 3) := by decide +kernel
theorem dX9_keep_34 : decode cX9_keep 34 = .ok (.invokevirtual 330, 3) := by decide +kernel
theorem dX9_keep_37 : decode cX9_keep 37 = .ok (.aload_n 0, 1) := by decide +kernel
theorem dX9_keep_38 : decode cX9_keep 38 = .ok (.dup, 1) := by decide +kernel
theorem dX9_keep_39 : decode cX9_keep 39 = .ok (.getfield 67, 3) := by decide +kernel
theorem dX9_keep_42 : decode cX9_keep 42 = .ok (.iconst 1, 1) := by decide +kernel
theorem dX9_keep_43 : decode cX9_keep 43 = .ok (.iadd, 1) := by decide +kernel
theorem dX9_keep_44 : decode cX9_keep 44 = .ok (.putfield 67, 3) := by decide +kernel
theorem dX9_keep_47 : decode cX9_keep 47 = .ok (.aload_n 0, 1) := by decide +kernel
theorem dX9_keep_48 : decode cX9_keep 48 = .ok (.getfield 67, 3) := by decide +kernel
theorem dX9_keep_51 : decode cX9_keep 51 = .ok (.ireturn, 1) := by decide +kernel
theorem dX9_back_0 : decode cX9_back 0 = .ok (.aload_n 0, 1) := by decide +kernel
theorem dX9_back_1 : decode cX9_back 1 = .ok (.getfield 67, 3) := by decide +kernel
theorem dX9_back_4 : decode cX9_back 4 = .ok (.iconst 1, 1) := by decide +kernel
theorem dX9_back_5 : decode cX9_back 5 = .ok (.iconst 3, 1) := by decide +kernel
theorem dX9_back_6 : decode cX9_back 6 = .ok (.invokestatic 99, 3) := by decide +kernel
theorem dX9_back_9 : decode cX9_back 9 = .ok (.ifCond .eq 6, 3) := by decide +kernel
theorem dX9_back_12 : decode cX9_back 12 = .ok (.bipush (-2), 2) := by decide +kernel
theorem dX9_back_14 : decode cX9_back 14 = .ok (.ireturn, 1) := by decide +kernel
theorem dX9_back_15 : decode cX9_back 15 = .ok (.aload_n 0, 1) := by decide +kernel
theorem dX9_back_16 : decode cX9_back 16 = .ok (.dup, 1) := by decide +kernel
theorem dX9_back_17 : decode cX9_back 17 = .ok (.getfield 67, 3) := by decide +kernel
theorem dX9_back_20 : decode cX9_back 20 = .ok (.iconst 1, 1) := by decide +kernel
theorem dX9_back_21 : decode cX9_back 21 = .ok (.isub, 1) := by decide +kernel
theorem dX9_back_22 : decode cX9_back 22 = .ok (.putfield 67, 3) := by decide +kernel
theorem dX9_back_25 : decode cX9_back 25 = .ok (.aload_n 0, 1) := by decide +kernel
theorem dX9_back_26 : decode cX9_back 26 = .ok (.getfield 53, 3) := by decide +kernel
theorem dX9_back_29 : decode cX9_back 29 = .ok (.aload_n 0, 1) := by decide +kernel
theorem dX9_back_30 : decode cX9_back 30 = .ok (.getfield 63, 3) := by decide +kernel
theorem dX9_back_33 : decode cX9_back 33 = .ok (.aload_n 0, 1) := by decide +kernel
theorem dX9_back_34 : decode cX9_back 34 = .ok (.getfield 67, 3) := by decide +kernel
theorem dX9_back_37 : decode cX9_back 37 = .ok (.aaload, 1) := by decide +kernel
theorem dX9_back_38 : decode cX9_back 38 = .ok (.invokevirtual 330, 3) := by decide +kernel
theorem dX9_back_41 : decode cX9_back 41 = .ok (.aload_n 0, 1) := by decide +kernel
theorem dX9_back_42 : decode cX9_back 42 = .ok (.getfield 67, 3) := by decide +kernel
theorem dX9_back_45 : decode cX9_back 45 = .ok (.ireturn, 1) := by decide +kernel
theorem dX9_holdingPoint_0 : decode cX9_holdingPoint 0 = .ok (.iconst 0, 1) := by decide +kernel
theorem dX9_holdingPoint_1 : decode cX9_holdingPoint 1 = .ok (.istore_n 2, 1) := by decide +kernel
theorem dX9_holdingPoint_2 : decode cX9_holdingPoint 2 = .ok (.aload_n 0, 1) := by decide +kernel
theorem dX9_holdingPoint_3 : decode cX9_holdingPoint 3 = .ok (.getfield 81, 3) := by decide +kernel
theorem dX9_holdingPoint_6 : decode cX9_holdingPoint 6 = .ok (.invokevirtual 239, 3) := by decide +kernel
theorem dX9_holdingPoint_9 : decode cX9_holdingPoint 9 = .ok (.istore_n 3, 1) := by decide +kernel
theorem dX9_holdingPoint_10 : decode cX9_holdingPoint 10 = .ok (.iconst 0, 1) := by decide +kernel
theorem dX9_holdingPoint_11 : decode cX9_holdingPoint 11 = .ok (.istore 4, 2) := by decide +kernel
theorem dX9_holdingPoint_13 : decode cX9_holdingPoint 13 = .ok (.iload 4, 2) := by decide +kernel
theorem dX9_holdingPoint_15 : decode cX9_holdingPoint 15 = .ok (.iload_n 3, 1) := by decide +kernel
theorem dX9_holdingPoint_16 : decode cX9_holdingPoint 16 = .ok (.if_icmp .ge 29, 3) := by decide +kernel
theorem dX9_holdingPoint_19 : decode cX9_holdingPoint 19 = .ok (.aload_n 0, 1) := by decide +kernel
theorem dX9_holdingPoint_20 : decode cX9_holdingPoint 20 = .ok (.iload 4, 2) := by decide +kernel
theorem dX9_holdingPoint_22 : decode cX9_holdingPoint 22 = .ok (.invokevirtual 243, 3) := by decide +kernel
theorem dX9_holdingPoint_25 : decode cX9_holdingPoint 25 = .ok (.ifCond .eq 14, 3) := by decide +kernel
theorem dX9_holdingPoint_28 : decode cX9_holdingPoint 28 = .ok (.iload_n 2, 1) := by decide +kernel
theorem dX9_holdingPoint_29 : decode cX9_holdingPoint 29 = .ok (.iload_n 1, 1) := by decide +kernel
theorem dX9_holdingPoint_30 : decode cX9_holdingPoint 30 = .ok (.if_icmp .ne 6, 3) := by decide +kernel
theorem dX9_holdingPoint_33 : decode cX9_holdingPoint 33 = .ok (.iload 4, 2) := by decide +kernel
theorem dX9_holdingPoint_35 : decode cX9_holdingPoint 35 = .ok (.ireturn, 1) := by decide +kernel
theorem dX9_holdingPoint_36 : decode cX9_holdingPoint 36 = .ok (.iinc 2 1, 3) := by decide +kernel
theorem dX9_holdingPoint_39 : decode cX9_holdingPoint 39 = .ok (.iinc 4 1, 3) := by decide +kernel
theorem dX9_holdingPoint_42 : decode cX9_holdingPoint 42 = .ok (.goto (-29), 3) := by decide +kernel
theorem dX9_holdingPoint_45 : decode cX9_holdingPoint 45 = .ok (.bipush (-4), 2) := by decide +kernel
theorem dX9_holdingPoint_47 : decode cX9_holdingPoint 47 = .ok (.ireturn, 1) := by decide +kernel
def uhX9_holdingPoint : List Cond := .code yX9_holdingPoint cX9_holdingPoint 5 (some .int) :: ([.fieldLink RX9 81 "RiverModel" "knobs" "LRiverModel$Knobs;", .methodLink RX9 239 yX3_points, .instanceMethod yX3_points, .selects RX3 yX3_points yX3_points, .initialized RX3, .methodLink RX9 243 yX9_pointHolds, .instanceMethod yX9_pointHolds, .selects RX9 yX9_pointHolds yX9_pointHolds, .initialized RX9, .code yX3_points cX3_points 1 (some .int), .methodLink RX3 40 yX3_pointsOf, .instanceMethod yX3_pointsOf, .selects RX3 yX3_pointsOf yX3_pointsOf, .code yX3_pointsOf cX3_pointsOf 2 (some .int), .methodLink RX3 37 yX3_isSet, .instanceMethod yX3_isSet, .selects RX3 yX3_isSet yX3_isSet, .fieldLink RX3 24 "RiverModel$Knobs" "manys" "[I", .code yX3_isSet cX3_isSet 2 (some .boolean), .code yX9_pointHolds cX9_pointHolds 4 (some .boolean), .fieldLink RX9 23 "RiverModel" "draft" "LRiverModel$Model;", .fieldLink RX9 19 "RiverModel" "model" "LRiverModel$Model;", .methodLink RX9 316 yX4_copyFrom, .instanceMethod yX4_copyFrom, .selects RX4 yX4_copyFrom yX4_copyFrom, .initialized RX4, .methodLink RX9 350 yX3_lay, .instanceMethod yX3_lay, .selects RX3 yX3_lay yX3_lay, .fieldLink RX9 57 "RiverModel" "trial" "LRiverModel$Course;", .methodLink RX9 147 yX0_begin, .instanceMethod yX0_begin, .selects RX0 yX0_begin yX0_begin, .initialized RX0, .fieldLink RX9 74 "RiverModel" "gauges" "LRiverModel$Gauges;", .methodLink RX9 354 yX1_lastSeen, .instanceMethod yX1_lastSeen, .selects RX1 yX1_lastSeen yX1_lastSeen, .initialized RX1, .fieldLink RX9 39 "RiverModel" "skyA" "LRiverModel$Sky;", .methodLink RX9 357 yX6_rainIn, .instanceMethod yX6_rainIn, .selects RX6 yX6_rainIn yX6_rainIn, .initialized RX6, .methodLink RX9 360 yX6_tempIn, .instanceMethod yX6_tempIn, .selects RX6 yX6_tempIn yX6_tempIn, .methodLink RX9 363 yX0_goHour, .instanceMethod yX0_goHour, .selects RX0 yX0_goHour yX0_goHour, .methodLink RX9 367 yX1_agree, .instanceMethod yX1_agree, .selects RX1 yX1_agree yX1_agree, .code yX4_copyFrom cX4_copyFrom 2 none, .fieldLink RX4 9 "RiverModel$Model" "cells" "[I", .methodLink RX4 37 arraycopyName, .native arraycopyName, .static arraycopyName, .initialized "java/lang/System", .fieldLink RX4 15 "RiverModel$Model" "storeItems" "[I", .fieldLink RX4 18 "RiverModel$Model" "gateItems" "[I", .fieldLink RX4 21 "RiverModel$Model" "many" "I", .fieldLink RX4 25 "RiverModel$Model" "stores" "I", .fieldLink RX4 28 "RiverModel$Model" "gates" "I", .code yX3_lay cX3_lay 4 (some .boolean), .fieldLink RX3 9 "RiverModel$Knobs" "items" "[I", .methodLink RX3 63 yX4_isItemAsTold, .instanceMethod yX4_isItemAsTold, .selects RX4 yX4_isItemAsTold yX4_isItemAsTold, .fieldLink RX3 15 "RiverModel$Knobs" "numbers" "[I", .methodLink RX3 50 yX4_hasNumber, .instanceMethod yX4_hasNumber, .selects RX4 yX4_hasNumber yX4_hasNumber, .methodLink RX3 56 yX3_numberAt, .instanceMethod yX3_numberAt, .selects RX3 yX3_numberAt yX3_numberAt, .methodLink RX3 59 yX4_putCell, .instanceMethod yX4_putCell, .selects RX4 yX4_putCell yX4_putCell, .code yX4_isItemAsTold cX4_isItemAsTold 2 (some .boolean), .methodLink RX4 73 yX4_cell, .instanceMethod yX4_cell, .selects RX4 yX4_cell yX4_cell, .methodLink RX4 77 yX2_areNumbersAsTold, .static yX2_areNumbersAsTold, .initialized RX2, .code yX4_cell cX4_cell 3 (some .int), .code yX2_areNumbersAsTold cX2_areNumbersAsTold 4 (some .boolean), .methodLink RX2 10 yX2_isUpTo, .static yX2_isUpTo, .constant RX2 9 (1000000), .code yX2_isUpTo cX2_isUpTo 2 (some .boolean), .code yX4_hasNumber cX4_hasNumber 3 (some .boolean), .methodLink RX4 86 yX2_numbersOf, .static yX2_numbersOf, .code yX2_numbersOf cX2_numbersOf 1 (some .int), .code yX3_numberAt cX3_numberAt 4 (some .int), .static yX9_isNoKnob, .methodLink RX3 44 Lib.Math.max.name, .static Lib.Math.max.name, .initialized "java/lang/Math", .code Lib.Math.max.name Lib.Math.max.code 2 (some .int), .fieldLink RX3 18 "RiverModel$Knobs" "froms" "[I", .fieldLink RX3 21 "RiverModel$Knobs" "steps" "[I", .code yX9_isNoKnob cX9_isNoKnob 1 (some .boolean), .code yX4_putCell cX4_putCell 4 none, .static yX9_isNoItem, .static yX9_isOutside, .code yX9_isNoItem cX9_isNoItem 1 (some .boolean), .code yX9_isOutside cX9_isOutside 3 (some .boolean), .code yX0_begin cX0_begin 3 none, .fieldLink RX0 15 "RiverModel$Course" "moved" "[J", .methodLink RX0 45 yJ7_fill_d0a16, .static yJ7_fill_d0a16, .initialized RJ7, .fieldLink RX0 18 "RiverModel$Course" "openings" "[I", .methodLink RX0 51 yJ7_fill_53178, .static yJ7_fill_53178, .fieldLink RX0 22 "RiverModel$Course" "due" "[J", .fieldLink RX0 25 "RiverModel$Course" "rained" "J", .fieldLink RX0 29 "RiverModel$Course" "air" "J", .fieldLink RX0 32 "RiverModel$Course" "sea" "J", .fieldLink RX0 35 "RiverModel$Course" "hours" "I", .fieldLink RX0 9 "RiverModel$Course" "held" "[J", .methodLink RX0 39 yX4_startOf, .instanceMethod yX4_startOf, .selects RX4 yX4_startOf yX4_startOf, .code yJ7_fill_d0a16 cJ7_fill_d0a16 5 none, .code yJ7_fill_53178 cJ7_fill_53178 4 none, .code yX4_startOf cX4_startOf 2 (some .int), .methodLink RX4 66 yX4_hasStore, .instanceMethod yX4_hasStore, .selects RX4 yX4_hasStore yX4_hasStore, .code yX4_hasStore cX4_hasStore 2 (some .boolean), .code yX1_lastSeen cX1_lastSeen 3 (some .int), .fieldLink RX1 18 "RiverModel$Gauges" "seen" "[I", .methodLink RX1 67 Lib.Math.max.name, .code yX6_rainIn cX6_rainIn 2 (some .int), .fieldLink RX6 9 "RiverModel$Sky" "rains" "[I", .code yX6_tempIn cX6_tempIn 2 (some .int), .fieldLink RX6 15 "RiverModel$Sky" "temps" "[I", .code yX0_goHour cX0_goHour 7 none, .methodLink RX0 72 yX0_bringDue, .instanceMethod yX0_bringDue, .selects RX0 yX0_bringDue yX0_bringDue, .fieldLink RX0 75 "RiverModel$Model" "many" "I", .methodLink RX0 78 yX0_amountOf, .instanceMethod yX0_amountOf, .selects RX0 yX0_amountOf yX0_amountOf, .methodLink RX0 82 yX0_move, .instanceMethod yX0_move, .selects RX0 yX0_move yX0_move, .code yX0_bringDue cX0_bringDue 3 none, .code yX0_amountOf cX0_amountOf 11 (some .long), .methodLink RX0 86 yX4_cell, .static yX9_isNoStore, .methodLink RX0 110 yX4_gateOf, .instanceMethod yX4_gateOf, .selects RX4 yX4_gateOf yX4_gateOf, .methodLink RX0 113 yX0_openingOf, .instanceMethod yX0_openingOf, .selects RX0 yX0_openingOf yX0_openingOf, .methodLink RX0 107 Lib.MathLoose.min_long.x, .static Lib.MathLoose.min_long.x, .code Lib.MathLoose.min_long.x Lib.MathLoose.min_long.code 4 (some .long), .methodLink RX0 94 yX0_leakOf, .static yX0_leakOf, .constantLong RX0 117 (100), .methodLink RX0 98 yX4_capacityOf, .instanceMethod yX4_capacityOf, .selects RX4 yX4_capacityOf yX4_capacityOf, .methodLink RX0 101 Lib.MathLoose.max_long.x, .static Lib.MathLoose.max_long.x, .code Lib.MathLoose.max_long.x Lib.MathLoose.max_long.code 4 (some .long), .constantLong RX0 119 (10), .code yX9_isNoStore cX9_isNoStore 1 (some .boolean), .code yX4_gateOf cX4_gateOf 3 (some .int), .code yX0_openingOf cX0_openingOf 2 (some .long), .static yX9_isNoGate, .code yX9_isNoGate cX9_isNoGate 1 (some .boolean), .code yX0_leakOf cX0_leakOf 8 (some .long), .code yX4_capacityOf cX4_capacityOf 2 (some .int), .code yX0_move cX0_move 8 none, .methodLink RX0 124 yX0_send, .instanceMethod yX0_send, .selects RX0 yX0_send yX0_send, .code yX0_send cX0_send 5 none, .code yX1_agree cX1_agree 5 (some .boolean), .methodLink RX1 57 yX1_reading, .instanceMethod yX1_reading, .selects RX1 yX1_reading yX1_reading, .methodLink RX1 61 Lib.MathLoose.abs_long.x, .static Lib.MathLoose.abs_long.x, .code Lib.MathLoose.abs_long.x Lib.MathLoose.abs_long.code 2 (some .long), .fieldLink RX1 21 "RiverModel$Gauges" "mayBeOff" "I", .code yX1_reading cX1_reading 4 (some .long), .methodLink RX1 35 yX1_isSet, .instanceMethod yX1_isSet, .selects RX1 yX1_isSet yX1_isSet, .fieldLink RX1 15 "RiverModel$Gauges" "places" "[I", .fieldLink RX1 9 "RiverModel$Gauges" "whats" "[I", .fieldLink RX1 50 "RiverModel$Course" "held" "[J", .fieldLink RX1 41 "RiverModel$Course" "moved" "[J", .code yX1_isSet cX1_isSet 2 (some .boolean)] ++ wsX90 ++ wsX30 ++ wsX40 ++ wsX00 ++ wsX10 ++ wsX60)
set_option maxRecDepth 20000 in
theorem gu_hX9_holdingPoint_X3_points_239 : GoodIn uhX9_holdingPoint (wsV RX9 239 RX3 yX3_points uX3_points) := goodIn_r _ [2, 3, 4, 5, 10, 11, 12, 13, 5, 14, 15, 16, 17, 18, 19, 223, 224, 225, 226, 227] rfl (by decide +kernel)
set_option maxRecDepth 20000 in
theorem gu_hX9_holdingPoint_hX9_pointHolds_243 : GoodIn uhX9_holdingPoint (wsV RX9 243 RX9 yX9_pointHolds uhX9_pointHolds) := goodIn_r _ [6, 7, 8, 9, 20, 21, 22, 23, 24, 25, 26, 1, 27, 28, 29, 5, 30, 31, 32, 33, 34, 35, 36, 37, 38, 39, 40, 41, 42, 43, 44, 45, 46, 47, 48, 49, 50, 51, 52, 53, 54, 55, 56, 57, 58, 59, 60, 61, 62, 63, 64, 65, 15, 16, 17, 66, 67, 68, 69, 70, 71, 72, 73, 74, 75, 76, 77, 78, 79, 19, 18, 80, 81, 82, 83, 84, 85, 86, 87, 88, 89, 90, 91, 92, 93, 94, 95, 96, 97, 9, 98, 11, 12, 13, 99, 100, 101, 102, 103, 104, 105, 14, 106, 107, 108, 109, 110, 111, 112, 113, 114, 115, 116, 117, 118, 119, 120, 121, 122, 123, 124, 125, 126, 127, 128, 129, 130, 131, 132, 133, 134, 135, 136, 137, 138, 139, 140, 141, 142, 143, 144, 145, 146, 147, 148, 149, 150, 151, 152, 153, 154, 155, 156, 157, 158, 159, 160, 161, 162, 163, 164, 165, 166, 167, 168, 169, 170, 171, 172, 173, 174, 175, 176, 177, 178, 179, 180, 181, 182, 183, 184, 185, 186, 187, 188, 189, 190, 191, 192, 193, 194, 195, 196, 197, 198, 199, 200, 201, 202, 203, 204, 205, 206, 207, 208, 209, 210, 211, 212, 213, 214, 215, 216, 217, 218, 219, 220, 221, 222, 228, 229, 230, 231, 232, 233, 223, 224, 225, 226, 227, 234, 235, 236, 237, 238, 239, 240, 241, 242, 243, 244, 245, 246, 247] rfl (by decide +kernel)
set_option maxHeartbeats 4000000 in
set_option maxRecDepth 100000 in
theorem h_X9_holdingPoint (l : Launch) (D : va_G) (t : Nat → Nat) (cI cL cC : ClassId) (gC : Int32) (gP : Int32) (gT : Nat → Int32) (gR : Nat → Int32) (mm : Int32) (ms : Int32) (mg : Int32) (mL : Nat → Int32) (mQ : Nat → Int32) (mZ : Nat → Int32) (dm : Int32) (ds : Int32) (dg : Int32) (dL : Nat → Int32) (dQ : Nat → Int32) (dZ : Nat → Int32) (om : Int32) (os : Int32) (og : Int32) (oL : Nat → Int32) (oQ : Nat → Int32) (oZ : Nat → Int32) (gB : Int32) (gO : Int32) (xk : Int32) (gE : Int32) (gV : Nat → Int32) (gU : Nat → Int32) (gN : Nat → Int32) (G : Nat) (gW : Nat → Int32) (gA : Nat → Int32) (a0 : Nat) (a1 : Int32) (uq : ∀ b c : Nat, t b = t c → uqK (t b) = true → b = c) (hC0 : 0 ≤ gC.toInt) (hC4 : gC.toInt ≤ 400) (hP0 : 0 ≤ gP.toInt) (hP4 : gP.toInt ≤ 400) (hTg : gBd 400 0 255 gT) (mg0 : 0 ≤ mg.toInt) (mg4 : mg.toInt ≤ 4) (dg0 : 0 ≤ dg.toInt) (dg4 : dg.toInt ≤ 4) (og0 : 0 ≤ og.toInt) (og4 : og.toInt ≤ 4) (xk0 : 0 ≤ xk.toInt) (xk3 : xk.toInt ≤ 3) (hGb : G ≤ 150000000) (k_a0 : t a0 = 1) : tMx (Z := (Int32) × (Int32) × (Int32) × (Nat → Int32) × (Nat → Int32) × (Nat → Int32) × (Nat)) l yX9_holdingPoint uhX9_holdingPoint 5 122 D (hF cI cL cC gC gP gT gR mm ms mg mL mQ mZ dm ds dg dL dQ dZ om os og oL oQ oZ gB gO xk gE gV gU gN G gW gA) (fun z => (hF cI cL cC gC gP gT gR mm ms mg mL mQ mZ z.1 z.2.1 z.2.2.1 z.2.2.2.1 z.2.2.2.2.1 z.2.2.2.2.2.1 om os og oL oQ oZ gB gO xk gE gV gU gN z.2.2.2.2.2.2 gW gA)) t cI cL cC [.ref a0, .int a1] hPH (xI (fun r (z : (Int32) × (Int32) × (Int32) × (Nat → Int32) × (Nat → Int32) × (Nat → Int32) × (Nat)) => (r.toInt ≠ -4 → drK mL mQ mm ms mg z.2.2.2.1 z.2.2.2.2.1 z.1 z.2.1 z.2.2.1) ∧ (z.2.2.2.2.2.2 : Int) ≤ (G : Int) + 24576 ∧ 0 ≤ z.2.2.1.toInt ∧ z.2.2.1.toInt ≤ 4)) := by
  refine tMx.ofW (cc := cX9_holdingPoint) (maxL := 5) (ret := (some .int)) (by decide) rfl (Nat.le_of_ble_eq_true rfl) ?_
  intro p e s m below meth c hx hb hr hml hown hts hlk H locs hG hK hE hS ls hl
  have hl : lv_has ls 5 [(0, .ref a0), (1, .int a1)] := hl
  have in9 : ∀ w ∈ wsX90, w ∈ uhX9_holdingPoint := fun w h => List.mem_cons_of_mem _ (List.mem_append_left _ (List.mem_append_left _ (List.mem_append_left _ (List.mem_append_left _ (List.mem_append_left _ (List.mem_append_right _ h))))))
  refine lv_iconst (v := 0) hx hb dX9_holdingPoint_0 (by decide) ?_
  refine lv_istore_n (lv' := [(2, .int 0), (0, .ref a0), (1, .int a1)]) hx hb dX9_holdingPoint_1 rfl hl (by decide) rfl (fun ls hl => ?_)
  refine lv_aload_n hx hb dX9_holdingPoint_2 rfl (lv_at hl 1 rfl) ?_
  obtain ⟨r_1, r_3, r_5, r_7, r_9, r_11, r_13, r_15, r_17, r_19, r_21, r_23, r_25, r_27, r_29, at_31, h_2, h_4, h_6, h_8, h_10, h_12, h_14, h_16, h_18, h_20, h_22, h_24, h_26, h_28, h_30⟩ := hF_o1 hG k_a0
  refine va_get (D := D) (ci := 8) (v := .ref r_25) (C := RX9) (T := TX9) (N := 18) hx hb hts in9 hown hK (va_one at_31) 0 rfl rfl 15 (by decide) (hts (.fieldLink RX9 81 "RiverModel" "knobs" "LRiverModel$Knobs;") (List.mem_of_getElem? (i := 1) rfl)) (fun _ h9 => h9) rfl dX9_holdingPoint_3 ?_
  have hV_32 : tG D (gF cI cL cC gC gE G gW gA) (fun q => cwM (t q)) H := tG.vw hG (cwM_vw ⟨by omega, by omega⟩) rfl
  obtain ⟨r_33, r_35, r_37, r_39, r_41, at_43, h_34, h_36, h_38, h_40, h_42⟩ := hF_o7 hG h_26
  refine tw_calli (t := t) (W.runV (As := []) (rest := []) ⟨hx, hb, hml, hown, hts⟩ (s_X3_points l D (fun q => cwM (t q)) cI cL cC gC gE G gW gA r_25 (show cwM (t r_25) = 7 by rw [h_26]; rfl)) (cwV 0 hts gu_hX9_holdingPoint_X3_points_239 rfl rfl rfl (by decide +kernel) ⟨Nat.le_of_ble_eq_true rfl, Nat.le_of_ble_eq_true rfl⟩) (tP_V hV_32 hE at_43 rfl) rfl rfl hl.1 rfl (lv_room (Nat.le_of_ble_eq_true rfl)) dX9_holdingPoint_6 ⟨Nat.le_of_ble_eq_true rfl, Nat.le_of_ble_eq_true rfl⟩) hS (fun q h => by simp [wr0] at h) (fun r_44 H locs hp_45 hV_48 hS o_46 => ?_)
  replace hG := tG.kept0 hG o_46
  have at_31 := va_at.keptC (t := (fun q => cwM (t q))) at_31 o_46 (show cwM (t a0) = 0 by rw [k_a0]; rfl) rfl
  have at_43 := va_at.keptC (t := (fun q => cwM (t q))) at_43 o_46 (show cwM (t r_25) = 7 by rw [h_26]; rfl) rfl
  clear hV_32 hV_48
  have hp_45 := hp_45
  refine lv_istore_n (lv' := [(3, .int r_44), (2, .int 0), (0, .ref a0), (1, .int a1)]) hx hb dX9_holdingPoint_9 rfl hl (by decide) rfl (fun ls hl => ?_)
  refine lv_iconst (v := 0) hx hb dX9_holdingPoint_10 (by decide) ?_
  refine lv_pc (pc2 := 11) rfl ?_
  refine lv_istore (lv' := [(4, .int 0), (3, .int r_44), (2, .int 0), (0, .ref a0), (1, .int a1)]) hx hb dX9_holdingPoint_11 hl (by decide) rfl (fun ls hl => ?_)
  refine lv_pc (pc2 := 13) rfl ?_
  refine lp_gen (fun WW49 hWW49 => ?_)
  have kx49 : ∀ (yp : Int32) (yb : Int32) (dm1 : Int32) (ds1 : Int32) (dg1 : Int32) (dL1 : Nat → Int32) (dQ1 : Nat → Int32) (dZ1 : Nat → Int32) (g1 : Nat) (H1 : Heap) (locs1 : List Loc) (ls1 : Array Slot), (0 ≤ yp.toInt) → (yp.toInt ≤ 256) → ((g1 : Int) + 96 * (256 - yp.toInt) ≤ (G : Int) + 24576) → (0 ≤ dg1.toInt) → (dg1.toInt ≤ 4) → tG D (hF cI cL cC gC gP gT gR mm ms mg mL mQ mZ dm1 ds1 dg1 dL1 dQ1 dZ1 om os og oL oQ oZ gB gO xk gE gV gU gN g1 gW gA) t H1 → tF t hPH s.heap H1 locs1 → lv_has ls1 5 [(4, .int yp), (3, .int r_44), (2, .int yb), (0, .ref a0), (1, .int a1)] → WW49 H1 locs1 (F0 m 45 ls1 []) := by
    intro yp yb dm1 ds1 dg1 dL1 dQ1 dZ1 g1 H locs ls v49_0 v49_1 v49_2 v49_3 v49_4 hG hS hl
    refine (hWW49 _ _ _).mpr ?_
    refine lv_bipush (v := (-4)) hx hb dX9_holdingPoint_45 (by decide) ?_
    have zi_m4 : ((-4) : Int32).toInt = (-4) := by decide
    exact tx_iret (z := (dm1, ds1, dg1, dL1, dQ1, dZ1, g1)) hx hb hr hlk hG hS ⟨(by show ((-4) : Int32).toInt ≠ -4 → drK mL mQ mm ms mg dL1 dQ1 dm1 ds1 dg1; exact fun q => absurd zi_m4 q), (by show (g1 : Int) ≤ (G : Int) + 24576; omega), (by show 0 ≤ dg1.toInt; omega), (by show dg1.toInt ≤ 4; omega)⟩ dX9_holdingPoint_47
  have lp49 : ∀ (kk49 : Nat) (yp : Int32) (yb : Int32) (dm1 : Int32) (ds1 : Int32) (dg1 : Int32) (dL1 : Nat → Int32) (dQ1 : Nat → Int32) (dZ1 : Nat → Int32) (g1 : Nat) (H1 : Heap) (locs1 : List Loc) (ls1 : Array Slot), 256 - yp.toInt ≤ (kk49 : Int) → (0 ≤ yp.toInt) → (yp.toInt ≤ 256) → ((g1 : Int) + 96 * (256 - yp.toInt) ≤ (G : Int) + 24576) → (0 ≤ dg1.toInt) → (dg1.toInt ≤ 4) → tG D (hF cI cL cC gC gP gT gR mm ms mg mL mQ mZ dm1 ds1 dg1 dL1 dQ1 dZ1 om os og oL oQ oZ gB gO xk gE gV gU gN g1 gW gA) t H1 → tF t hPH s.heap H1 locs1 → lv_has ls1 5 [(4, .int yp), (3, .int r_44), (2, .int yb), (0, .ref a0), (1, .int a1)] → WW49 H1 locs1 (F0 m 13 ls1 []) := by
    intro kk49
    induction kk49 with
    | zero =>
      intro yp yb dm1 ds1 dg1 dL1 dQ1 dZ1 g1 H locs ls hk49 v49_0 v49_1 v49_2 v49_3 v49_4 hG hS hl
      refine (hWW49 _ _ _).mpr ?_
      refine lv_iload hx hb dX9_holdingPoint_13 (lv_at hl 0 rfl) ?_
      refine lv_iload_n hx hb dX9_holdingPoint_15 rfl (lv_at hl 1 rfl) ?_
      refine lv_icmp_ge (tgt := 45) hx hb dX9_holdingPoint_16 (by decide) (fun c_50 => ?_) (fun c_50 => ?_)
      · skip
        have c_50 : r_44.toInt ≤ yp.toInt := q_le c_50
        exact (hWW49 _ _ _).mp (kx49 yp yb dm1 ds1 dg1 dL1 dQ1 dZ1 g1 H locs ls v49_0 v49_1 v49_2 v49_3 v49_4 hG hS (lv_sub hl [0, 1, 2, 3, 4] rfl))
      · skip
        have c_50 : yp.toInt < r_44.toInt := q_nle c_50
        exfalso; omega
    | succ kk49 ih49 =>
      intro yp yb dm1 ds1 dg1 dL1 dQ1 dZ1 g1 H locs ls hk49 v49_0 v49_1 v49_2 v49_3 v49_4 hG hS hl
      refine (hWW49 _ _ _).mpr ?_
      refine lv_iload hx hb dX9_holdingPoint_13 (lv_at hl 0 rfl) ?_
      refine lv_iload_n hx hb dX9_holdingPoint_15 rfl (lv_at hl 1 rfl) ?_
      refine lv_pc (pc2 := 16) rfl ?_
      refine lv_icmp_ge (tgt := 45) hx hb dX9_holdingPoint_16 (by decide) (fun c_51 => ?_) (fun c_51 => ?_)
      · skip
        have c_51 : r_44.toInt ≤ yp.toInt := q_le c_51
        exact (hWW49 _ _ _).mp (kx49 yp yb dm1 ds1 dg1 dL1 dQ1 dZ1 g1 H locs ls v49_0 v49_1 v49_2 v49_3 v49_4 hG hS (lv_sub hl [0, 1, 2, 3, 4] rfl))
      · skip
        have c_51 : yp.toInt < r_44.toInt := q_nle c_51
        refine lv_aload_n hx hb dX9_holdingPoint_19 rfl (lv_at hl 3 rfl) ?_
        refine lv_iload hx hb dX9_holdingPoint_20 (lv_at hl 0 rfl) ?_
        obtain ⟨r_52, r_54, r_56, r_58, r_60, r_62, r_64, r_66, r_68, r_70, r_72, r_74, r_76, r_78, r_80, at_82, h_53, h_55, h_57, h_59, h_61, h_63, h_65, h_67, h_69, h_71, h_73, h_75, h_77, h_79, h_81⟩ := hF_o1 hG k_a0
        refine tx_calli (W.runV (As := [.int yp]) (rest := []) ⟨hx, hb, hml, hown, hts⟩ (h_X9_pointHolds l D t cI cL cC gC gP gT gR mm ms mg mL mQ mZ dm1 ds1 dg1 dL1 dQ1 dZ1 om os og oL oQ oZ gB gO xk gE gV gU gN g1 gW gA a0 yp  uq (by omega) (by omega) (by omega) (by omega) hTg (by omega) (by omega) (by omega) (by omega) (by omega) (by omega) (by omega) (by omega) (by omega) k_a0) (cwV 1 hts gu_hX9_holdingPoint_hX9_pointHolds_243 rfl rfl rfl (by decide +kernel) ⟨Nat.le_of_ble_eq_true rfl, Nat.le_of_ble_eq_true rfl⟩) (tP_V hG hE at_82 rfl) rfl rfl hl.1 rfl (lv_room (Nat.le_of_ble_eq_true rfl)) dX9_holdingPoint_22 ⟨Nat.le_of_ble_eq_true rfl, Nat.le_of_ble_eq_true rfl⟩) hS (fun _ h => h) (fun r_83 zz_86 H locs hp_84 hG hS o_85 => ?_)
        obtain ⟨dm_87, ds_88, dg_89, dL_90, dQ_91, dZ_92, G_93⟩ := zz_86
        have at_82 := va_at.keptC at_82 o_85 k_a0 rfl
        replace hG : tG D (hF cI cL cC gC gP gT gR mm ms mg mL mQ mZ dm_87 ds_88 dg_89 dL_90 dQ_91 dZ_92 om os og oL oQ oZ gB gO xk gE gV gU gN G_93 gW gA) t H := hG
        have hp_84 : (r_83 = 1 ∧ drK mL mQ mm ms mg dL_90 dQ_91 dm_87 ds_88 dg_89 ∧ (G_93 : Int) ≤ (g1 : Int) + 96 ∧ 0 ≤ dg_89.toInt ∧ dg_89.toInt ≤ 4) ∨ (r_83 = 0 ∧ drK mL mQ mm ms mg dL_90 dQ_91 dm_87 ds_88 dg_89 ∧ (G_93 : Int) ≤ (g1 : Int) + 96 ∧ 0 ≤ dg_89.toInt ∧ dg_89.toInt ≤ 4) := hp_84
        rcases hp_84 with ⟨rfl, p_94, p_95, p_96, p_97⟩ | ⟨rfl, p_98, p_99, p_100, p_101⟩
        · skip
          refine lv_if_eq (tgt := 39) hx hb dX9_holdingPoint_25 (by decide) (fun q => absurd q (by decide)) (fun _ => ?_)
          refine lv_iload_n hx hb dX9_holdingPoint_28 rfl (lv_at hl 2 rfl) ?_
          refine lv_iload_n hx hb dX9_holdingPoint_29 rfl (lv_at hl 4 rfl) ?_
          refine lv_icmp_ne (tgt := 36) hx hb dX9_holdingPoint_30 (by decide) (fun c_102 => ?_) (fun c_102 => ?_)
          · skip
            have c_102 : yb.toInt ≠ a1.toInt := q_ne c_102
            refine lv_pc (pc2 := 36) rfl ?_
            obtain ⟨x_103, e_104⟩ : ∃ y : Int32, y = yb + Int32.ofInt 1 := ⟨_, rfl⟩
            refine lv_iinc (v := x_103) (lv' := [(2, .int x_103), (4, .int yp), (3, .int r_44), (0, .ref a0), (1, .int a1)]) hx hb dX9_holdingPoint_36 hl (k := 2) rfl e_104.symm (by decide) rfl (fun ls hl => ?_)
            obtain ⟨x_105, e_106⟩ : ∃ y : Int32, y = yp + Int32.ofInt 1 := ⟨_, rfl⟩
            have i_x_105 : x_105.toInt = yp.toInt + 1 := by rw [e_106, show Int32.ofInt 1 = 1 by decide]; exact (q_add (by rw [show (1 : Int32).toInt = 1 by decide]; omega) (by rw [show (1 : Int32).toInt = 1 by decide]; omega)).trans (by rw [show (1 : Int32).toInt = 1 by decide])
            refine lv_iinc (v := x_105) (lv' := [(4, .int x_105), (2, .int x_103), (3, .int r_44), (0, .ref a0), (1, .int a1)]) hx hb dX9_holdingPoint_39 hl (k := 1) rfl e_106.symm (by decide) rfl (fun ls hl => ?_)
            refine lv_goto (tgt := 13) hx hb dX9_holdingPoint_42 (by decide) ?_
            exact (hWW49 _ _ _).mp (ih49 x_105 x_103 dm_87 ds_88 dg_89 dL_90 dQ_91 dZ_92 G_93 H locs ls (by omega) (by omega) (by omega) (by omega) (by omega) (by omega) hG hS (lv_sub hl [0, 2, 1, 3, 4] rfl))
          · skip
            have c_102 : yb.toInt = a1.toInt := q_eq c_102
            refine lv_iload hx hb dX9_holdingPoint_33 (lv_at hl 0 rfl) ?_
            exact tx_iret (z := (dm_87, ds_88, dg_89, dL_90, dQ_91, dZ_92, G_93)) hx hb hr hlk hG hS ⟨(by show yp.toInt ≠ -4 → drK mL mQ mm ms mg dL_90 dQ_91 dm_87 ds_88 dg_89; exact fun _ => p_94), (by show (G_93 : Int) ≤ (G : Int) + 24576; omega), (by show 0 ≤ dg_89.toInt; omega), (by show dg_89.toInt ≤ 4; omega)⟩ dX9_holdingPoint_35
        · skip
          refine lv_if_eq (tgt := 39) hx hb dX9_holdingPoint_25 (by decide) (fun _ => ?_) (fun q => absurd (by decide) q)
          obtain ⟨x_107, e_108⟩ : ∃ y : Int32, y = yp + Int32.ofInt 1 := ⟨_, rfl⟩
          have i_x_107 : x_107.toInt = yp.toInt + 1 := by rw [e_108, show Int32.ofInt 1 = 1 by decide]; exact (q_add (by rw [show (1 : Int32).toInt = 1 by decide]; omega) (by rw [show (1 : Int32).toInt = 1 by decide]; omega)).trans (by rw [show (1 : Int32).toInt = 1 by decide])
          refine lv_iinc (v := x_107) (lv' := [(4, .int x_107), (3, .int r_44), (2, .int yb), (0, .ref a0), (1, .int a1)]) hx hb dX9_holdingPoint_39 hl (k := 0) rfl e_108.symm (by decide) rfl (fun ls hl => ?_)
          refine lv_goto (tgt := 13) hx hb dX9_holdingPoint_42 (by decide) ?_
          exact (hWW49 _ _ _).mp (ih49 x_107 yb dm_87 ds_88 dg_89 dL_90 dQ_91 dZ_92 G_93 H locs ls (by omega) (by omega) (by omega) (by omega) (by omega) (by omega) hG hS (lv_sub hl [0, 1, 2, 3, 4] rfl))
  have zi_0 : (0 : Int32).toInt = 0 := by decide
  exact lp49 (256 - (0 : Int32).toInt : Int).toNat 0 0 dm ds dg dL dQ dZ G H locs ls (by omega) (by omega) (by omega) (by omega) (by omega) (by omega) hG hS (lv_sub hl [0, 1, 2, 3, 4] rfl)

def uhX9_fits : List Cond := .code yX9_fits cX9_fits 4 (some .int) :: ([.fieldLink RX9 29 "RiverModel" "isBuilt" "Z", .fieldLink RX9 81 "RiverModel" "knobs" "LRiverModel$Knobs;", .methodLink RX9 239 yX3_points, .instanceMethod yX3_points, .selects RX3 yX3_points yX3_points, .initialized RX3, .methodLink RX9 243 yX9_pointHolds, .instanceMethod yX9_pointHolds, .selects RX9 yX9_pointHolds yX9_pointHolds, .initialized RX9, .code yX3_points cX3_points 1 (some .int), .methodLink RX3 40 yX3_pointsOf, .instanceMethod yX3_pointsOf, .selects RX3 yX3_pointsOf yX3_pointsOf, .code yX3_pointsOf cX3_pointsOf 2 (some .int), .methodLink RX3 37 yX3_isSet, .instanceMethod yX3_isSet, .selects RX3 yX3_isSet yX3_isSet, .fieldLink RX3 24 "RiverModel$Knobs" "manys" "[I", .code yX3_isSet cX3_isSet 2 (some .boolean), .code yX9_pointHolds cX9_pointHolds 4 (some .boolean), .fieldLink RX9 23 "RiverModel" "draft" "LRiverModel$Model;", .fieldLink RX9 19 "RiverModel" "model" "LRiverModel$Model;", .methodLink RX9 316 yX4_copyFrom, .instanceMethod yX4_copyFrom, .selects RX4 yX4_copyFrom yX4_copyFrom, .initialized RX4, .methodLink RX9 350 yX3_lay, .instanceMethod yX3_lay, .selects RX3 yX3_lay yX3_lay, .fieldLink RX9 57 "RiverModel" "trial" "LRiverModel$Course;", .methodLink RX9 147 yX0_begin, .instanceMethod yX0_begin, .selects RX0 yX0_begin yX0_begin, .initialized RX0, .fieldLink RX9 74 "RiverModel" "gauges" "LRiverModel$Gauges;", .methodLink RX9 354 yX1_lastSeen, .instanceMethod yX1_lastSeen, .selects RX1 yX1_lastSeen yX1_lastSeen, .initialized RX1, .fieldLink RX9 39 "RiverModel" "skyA" "LRiverModel$Sky;", .methodLink RX9 357 yX6_rainIn, .instanceMethod yX6_rainIn, .selects RX6 yX6_rainIn yX6_rainIn, .initialized RX6, .methodLink RX9 360 yX6_tempIn, .instanceMethod yX6_tempIn, .selects RX6 yX6_tempIn yX6_tempIn, .methodLink RX9 363 yX0_goHour, .instanceMethod yX0_goHour, .selects RX0 yX0_goHour yX0_goHour, .methodLink RX9 367 yX1_agree, .instanceMethod yX1_agree, .selects RX1 yX1_agree yX1_agree, .code yX4_copyFrom cX4_copyFrom 2 none, .fieldLink RX4 9 "RiverModel$Model" "cells" "[I", .methodLink RX4 37 arraycopyName, .native arraycopyName, .static arraycopyName, .initialized "java/lang/System", .fieldLink RX4 15 "RiverModel$Model" "storeItems" "[I", .fieldLink RX4 18 "RiverModel$Model" "gateItems" "[I", .fieldLink RX4 21 "RiverModel$Model" "many" "I", .fieldLink RX4 25 "RiverModel$Model" "stores" "I", .fieldLink RX4 28 "RiverModel$Model" "gates" "I", .code yX3_lay cX3_lay 4 (some .boolean), .fieldLink RX3 9 "RiverModel$Knobs" "items" "[I", .methodLink RX3 63 yX4_isItemAsTold, .instanceMethod yX4_isItemAsTold, .selects RX4 yX4_isItemAsTold yX4_isItemAsTold, .fieldLink RX3 15 "RiverModel$Knobs" "numbers" "[I", .methodLink RX3 50 yX4_hasNumber, .instanceMethod yX4_hasNumber, .selects RX4 yX4_hasNumber yX4_hasNumber, .methodLink RX3 56 yX3_numberAt, .instanceMethod yX3_numberAt, .selects RX3 yX3_numberAt yX3_numberAt, .methodLink RX3 59 yX4_putCell, .instanceMethod yX4_putCell, .selects RX4 yX4_putCell yX4_putCell, .code yX4_isItemAsTold cX4_isItemAsTold 2 (some .boolean), .methodLink RX4 73 yX4_cell, .instanceMethod yX4_cell, .selects RX4 yX4_cell yX4_cell, .methodLink RX4 77 yX2_areNumbersAsTold, .static yX2_areNumbersAsTold, .initialized RX2, .code yX4_cell cX4_cell 3 (some .int), .code yX2_areNumbersAsTold cX2_areNumbersAsTold 4 (some .boolean), .methodLink RX2 10 yX2_isUpTo, .static yX2_isUpTo, .constant RX2 9 (1000000), .code yX2_isUpTo cX2_isUpTo 2 (some .boolean), .code yX4_hasNumber cX4_hasNumber 3 (some .boolean), .methodLink RX4 86 yX2_numbersOf, .static yX2_numbersOf, .code yX2_numbersOf cX2_numbersOf 1 (some .int), .code yX3_numberAt cX3_numberAt 4 (some .int), .static yX9_isNoKnob, .methodLink RX3 44 Lib.Math.max.name, .static Lib.Math.max.name, .initialized "java/lang/Math", .code Lib.Math.max.name Lib.Math.max.code 2 (some .int), .fieldLink RX3 18 "RiverModel$Knobs" "froms" "[I", .fieldLink RX3 21 "RiverModel$Knobs" "steps" "[I", .code yX9_isNoKnob cX9_isNoKnob 1 (some .boolean), .code yX4_putCell cX4_putCell 4 none, .static yX9_isNoItem, .static yX9_isOutside, .code yX9_isNoItem cX9_isNoItem 1 (some .boolean), .code yX9_isOutside cX9_isOutside 3 (some .boolean), .code yX0_begin cX0_begin 3 none, .fieldLink RX0 15 "RiverModel$Course" "moved" "[J", .methodLink RX0 45 yJ7_fill_d0a16, .static yJ7_fill_d0a16, .initialized RJ7, .fieldLink RX0 18 "RiverModel$Course" "openings" "[I", .methodLink RX0 51 yJ7_fill_53178, .static yJ7_fill_53178, .fieldLink RX0 22 "RiverModel$Course" "due" "[J", .fieldLink RX0 25 "RiverModel$Course" "rained" "J", .fieldLink RX0 29 "RiverModel$Course" "air" "J", .fieldLink RX0 32 "RiverModel$Course" "sea" "J", .fieldLink RX0 35 "RiverModel$Course" "hours" "I", .fieldLink RX0 9 "RiverModel$Course" "held" "[J", .methodLink RX0 39 yX4_startOf, .instanceMethod yX4_startOf, .selects RX4 yX4_startOf yX4_startOf, .code yJ7_fill_d0a16 cJ7_fill_d0a16 5 none, .code yJ7_fill_53178 cJ7_fill_53178 4 none, .code yX4_startOf cX4_startOf 2 (some .int), .methodLink RX4 66 yX4_hasStore, .instanceMethod yX4_hasStore, .selects RX4 yX4_hasStore yX4_hasStore, .code yX4_hasStore cX4_hasStore 2 (some .boolean), .code yX1_lastSeen cX1_lastSeen 3 (some .int), .fieldLink RX1 18 "RiverModel$Gauges" "seen" "[I", .methodLink RX1 67 Lib.Math.max.name, .code yX6_rainIn cX6_rainIn 2 (some .int), .fieldLink RX6 9 "RiverModel$Sky" "rains" "[I", .code yX6_tempIn cX6_tempIn 2 (some .int), .fieldLink RX6 15 "RiverModel$Sky" "temps" "[I", .code yX0_goHour cX0_goHour 7 none, .methodLink RX0 72 yX0_bringDue, .instanceMethod yX0_bringDue, .selects RX0 yX0_bringDue yX0_bringDue, .fieldLink RX0 75 "RiverModel$Model" "many" "I", .methodLink RX0 78 yX0_amountOf, .instanceMethod yX0_amountOf, .selects RX0 yX0_amountOf yX0_amountOf, .methodLink RX0 82 yX0_move, .instanceMethod yX0_move, .selects RX0 yX0_move yX0_move, .code yX0_bringDue cX0_bringDue 3 none, .code yX0_amountOf cX0_amountOf 11 (some .long), .methodLink RX0 86 yX4_cell, .static yX9_isNoStore, .methodLink RX0 110 yX4_gateOf, .instanceMethod yX4_gateOf, .selects RX4 yX4_gateOf yX4_gateOf, .methodLink RX0 113 yX0_openingOf, .instanceMethod yX0_openingOf, .selects RX0 yX0_openingOf yX0_openingOf, .methodLink RX0 107 Lib.MathLoose.min_long.x, .static Lib.MathLoose.min_long.x, .code Lib.MathLoose.min_long.x Lib.MathLoose.min_long.code 4 (some .long), .methodLink RX0 94 yX0_leakOf, .static yX0_leakOf, .constantLong RX0 117 (100), .methodLink RX0 98 yX4_capacityOf, .instanceMethod yX4_capacityOf, .selects RX4 yX4_capacityOf yX4_capacityOf, .methodLink RX0 101 Lib.MathLoose.max_long.x, .static Lib.MathLoose.max_long.x, .code Lib.MathLoose.max_long.x Lib.MathLoose.max_long.code 4 (some .long), .constantLong RX0 119 (10), .code yX9_isNoStore cX9_isNoStore 1 (some .boolean), .code yX4_gateOf cX4_gateOf 3 (some .int), .code yX0_openingOf cX0_openingOf 2 (some .long), .static yX9_isNoGate, .code yX9_isNoGate cX9_isNoGate 1 (some .boolean), .code yX0_leakOf cX0_leakOf 8 (some .long), .code yX4_capacityOf cX4_capacityOf 2 (some .int), .code yX0_move cX0_move 8 none, .methodLink RX0 124 yX0_send, .instanceMethod yX0_send, .selects RX0 yX0_send yX0_send, .code yX0_send cX0_send 5 none, .code yX1_agree cX1_agree 5 (some .boolean), .methodLink RX1 57 yX1_reading, .instanceMethod yX1_reading, .selects RX1 yX1_reading yX1_reading, .methodLink RX1 61 Lib.MathLoose.abs_long.x, .static Lib.MathLoose.abs_long.x, .code Lib.MathLoose.abs_long.x Lib.MathLoose.abs_long.code 2 (some .long), .fieldLink RX1 21 "RiverModel$Gauges" "mayBeOff" "I", .code yX1_reading cX1_reading 4 (some .long), .methodLink RX1 35 yX1_isSet, .instanceMethod yX1_isSet, .selects RX1 yX1_isSet yX1_isSet, .fieldLink RX1 15 "RiverModel$Gauges" "places" "[I", .fieldLink RX1 9 "RiverModel$Gauges" "whats" "[I", .fieldLink RX1 50 "RiverModel$Course" "held" "[J", .fieldLink RX1 41 "RiverModel$Course" "moved" "[J", .code yX1_isSet cX1_isSet 2 (some .boolean)] ++ wsX90 ++ wsX30 ++ wsX40 ++ wsX00 ++ wsX10 ++ wsX60)
set_option maxRecDepth 20000 in
theorem gu_hX9_fits_X3_points_239 : GoodIn uhX9_fits (wsV RX9 239 RX3 yX3_points uX3_points) := goodIn_r _ [3, 4, 5, 6, 11, 12, 13, 14, 6, 15, 16, 17, 18, 19, 20, 224, 225, 226, 227, 228] rfl (by decide +kernel)
set_option maxRecDepth 20000 in
theorem gu_hX9_fits_hX9_pointHolds_243 : GoodIn uhX9_fits (wsV RX9 243 RX9 yX9_pointHolds uhX9_pointHolds) := goodIn_r _ [7, 8, 9, 10, 21, 22, 23, 24, 25, 26, 27, 2, 28, 29, 30, 6, 31, 32, 33, 34, 35, 36, 37, 38, 39, 40, 41, 42, 43, 44, 45, 46, 47, 48, 49, 50, 51, 52, 53, 54, 55, 56, 57, 58, 59, 60, 61, 62, 63, 64, 65, 66, 16, 17, 18, 67, 68, 69, 70, 71, 72, 73, 74, 75, 76, 77, 78, 79, 80, 20, 19, 81, 82, 83, 84, 85, 86, 87, 88, 89, 90, 91, 92, 93, 94, 95, 96, 97, 98, 10, 99, 12, 13, 14, 100, 101, 102, 103, 104, 105, 106, 15, 107, 108, 109, 110, 111, 112, 113, 114, 115, 116, 117, 118, 119, 120, 121, 122, 123, 124, 125, 126, 127, 128, 129, 130, 131, 132, 133, 134, 135, 136, 137, 138, 139, 140, 141, 142, 143, 144, 145, 146, 147, 148, 149, 150, 151, 152, 153, 154, 155, 156, 157, 158, 159, 160, 161, 162, 163, 164, 165, 166, 167, 168, 169, 170, 171, 172, 173, 174, 175, 176, 177, 178, 179, 180, 181, 182, 183, 184, 185, 186, 187, 188, 189, 190, 191, 192, 193, 194, 195, 196, 197, 198, 199, 200, 201, 202, 203, 204, 205, 206, 207, 208, 209, 210, 211, 212, 213, 214, 215, 216, 217, 218, 219, 220, 221, 222, 223, 229, 230, 231, 232, 233, 234, 224, 225, 226, 227, 228, 235, 236, 237, 238, 239, 240, 241, 242, 243, 244, 245, 246, 247, 248] rfl (by decide +kernel)
set_option maxHeartbeats 4000000 in
set_option maxRecDepth 100000 in
theorem h_X9_fits (l : Launch) (D : va_G) (t : Nat → Nat) (cI cL cC : ClassId) (gC : Int32) (gP : Int32) (gT : Nat → Int32) (gR : Nat → Int32) (mm : Int32) (ms : Int32) (mg : Int32) (mL : Nat → Int32) (mQ : Nat → Int32) (mZ : Nat → Int32) (dm : Int32) (ds : Int32) (dg : Int32) (dL : Nat → Int32) (dQ : Nat → Int32) (dZ : Nat → Int32) (om : Int32) (os : Int32) (og : Int32) (oL : Nat → Int32) (oQ : Nat → Int32) (oZ : Nat → Int32) (gB : Int32) (gO : Int32) (xk : Int32) (gE : Int32) (gV : Nat → Int32) (gU : Nat → Int32) (gN : Nat → Int32) (G : Nat) (gW : Nat → Int32) (gA : Nat → Int32) (a0 : Nat) (uq : ∀ b c : Nat, t b = t c → uqK (t b) = true → b = c) (hC0 : 0 ≤ gC.toInt) (hC4 : gC.toInt ≤ 400) (hP0 : 0 ≤ gP.toInt) (hP4 : gP.toInt ≤ 400) (hTg : gBd 400 0 255 gT) (mg0 : 0 ≤ mg.toInt) (mg4 : mg.toInt ≤ 4) (dg0 : 0 ≤ dg.toInt) (dg4 : dg.toInt ≤ 4) (og0 : 0 ≤ og.toInt) (og4 : og.toInt ≤ 4) (xk0 : 0 ≤ xk.toInt) (xk3 : xk.toInt ≤ 3) (hGb : G ≤ 100000000) (k_a0 : t a0 = 1) : tMx (Z := (Int32) × (Int32) × (Int32) × (Nat → Int32) × (Nat → Int32) × (Nat → Int32) × (Nat)) l yX9_fits uhX9_fits 5 122 D (hF cI cL cC gC gP gT gR mm ms mg mL mQ mZ dm ds dg dL dQ dZ om os og oL oQ oZ gB gO xk gE gV gU gN G gW gA) (fun z => (hF cI cL cC gC gP gT gR mm ms mg mL mQ mZ z.1 z.2.1 z.2.2.1 z.2.2.2.1 z.2.2.2.2.1 z.2.2.2.2.2.1 om os og oL oQ oZ gB gO xk gE gV gU gN z.2.2.2.2.2.2 gW gA)) t cI cL cC [.ref a0] hPH (xI (fun r (z : (Int32) × (Int32) × (Int32) × (Nat → Int32) × (Nat → Int32) × (Nat → Int32) × (Nat)) => (z.2.2.2.2.2.2 : Int) ≤ (G : Int) + 24576 ∧ 0 ≤ z.2.2.1.toInt ∧ z.2.2.1.toInt ≤ 4)) := by
  refine tMx.ofW (cc := cX9_fits) (maxL := 4) (ret := (some .int)) (by decide) rfl (Nat.le_of_ble_eq_true rfl) ?_
  intro p e s m below meth c hx hb hr hml hown hts hlk H locs hG hK hE hS ls hl
  have hl : lv_has ls 4 [(0, .ref a0)] := hl
  have in9 : ∀ w ∈ wsX90, w ∈ uhX9_fits := fun w h => List.mem_cons_of_mem _ (List.mem_append_left _ (List.mem_append_left _ (List.mem_append_left _ (List.mem_append_left _ (List.mem_append_left _ (List.mem_append_right _ h))))))
  refine lv_aload_n hx hb dX9_fits_0 rfl (lv_at hl 0 rfl) ?_
  obtain ⟨r_1, r_3, r_5, r_7, r_9, r_11, r_13, r_15, r_17, r_19, r_21, r_23, r_25, r_27, r_29, at_31, h_2, h_4, h_6, h_8, h_10, h_12, h_14, h_16, h_18, h_20, h_22, h_24, h_26, h_28, h_30⟩ := hF_o1 hG k_a0
  refine va_get (D := D) (ci := 8) (v := .int gB) (C := RX9) (T := TX9) (N := 18) hx hb hts in9 hown hK (va_one at_31) 0 rfl rfl 4 (by decide) (hts (.fieldLink RX9 29 "RiverModel" "isBuilt" "Z") (List.mem_of_getElem? (i := 1) rfl)) (fun _ h9 => h9) rfl dX9_fits_1 ?_
  refine lv_if_ne (tgt := 10) hx hb dX9_fits_4 (by decide) (fun c_32 => ?_) (fun c_32 => ?_)
  · skip
    have c_32 : gB.toInt ≠ 0 := q_ne c_32
    refine lv_iconst (v := 0) hx hb dX9_fits_10 (by decide) ?_
    refine lv_istore_n (lv' := [(1, .int 0), (0, .ref a0)]) hx hb dX9_fits_11 rfl hl (by decide) rfl (fun ls hl => ?_)
    refine lv_aload_n hx hb dX9_fits_12 rfl (lv_at hl 1 rfl) ?_
    refine va_get (D := D) (ci := 8) (v := .ref r_25) (C := RX9) (T := TX9) (N := 18) hx hb hts in9 hown hK (va_one at_31) 0 rfl rfl 15 (by decide) (hts (.fieldLink RX9 81 "RiverModel" "knobs" "LRiverModel$Knobs;") (List.mem_of_getElem? (i := 2) rfl)) (fun _ h9 => h9) rfl dX9_fits_13 ?_
    refine lv_pc (pc2 := 16) rfl ?_
    have hV_33 : tG D (gF cI cL cC gC gE G gW gA) (fun q => cwM (t q)) H := tG.vw hG (cwM_vw ⟨by omega, by omega⟩) rfl
    obtain ⟨r_34, r_36, r_38, r_40, r_42, at_44, h_35, h_37, h_39, h_41, h_43⟩ := hF_o7 hG h_26
    refine tw_calli (t := t) (W.runV (As := []) (rest := []) ⟨hx, hb, hml, hown, hts⟩ (s_X3_points l D (fun q => cwM (t q)) cI cL cC gC gE G gW gA r_25 (show cwM (t r_25) = 7 by rw [h_26]; rfl)) (cwV 0 hts gu_hX9_fits_X3_points_239 rfl rfl rfl (by decide +kernel) ⟨Nat.le_of_ble_eq_true rfl, Nat.le_of_ble_eq_true rfl⟩) (tP_V hV_33 hE at_44 rfl) rfl rfl hl.1 rfl (lv_room (Nat.le_of_ble_eq_true rfl)) dX9_fits_16 ⟨Nat.le_of_ble_eq_true rfl, Nat.le_of_ble_eq_true rfl⟩) hS (fun q h => by simp [wr0] at h) (fun r_45 H locs hp_46 hV_49 hS o_47 => ?_)
    replace hG := tG.kept0 hG o_47
    have at_31 := va_at.keptC (t := (fun q => cwM (t q))) at_31 o_47 (show cwM (t a0) = 0 by rw [k_a0]; rfl) rfl
    have at_44 := va_at.keptC (t := (fun q => cwM (t q))) at_44 o_47 (show cwM (t r_25) = 7 by rw [h_26]; rfl) rfl
    clear hV_33 hV_49
    have hp_46 := hp_46
    refine lv_istore_n (lv' := [(2, .int r_45), (1, .int 0), (0, .ref a0)]) hx hb dX9_fits_19 rfl hl (by decide) rfl (fun ls hl => ?_)
    refine lv_iconst (v := 0) hx hb dX9_fits_20 (by decide) ?_
    refine lv_istore_n (lv' := [(3, .int 0), (2, .int r_45), (1, .int 0), (0, .ref a0)]) hx hb dX9_fits_21 rfl hl (by decide) rfl (fun ls hl => ?_)
    refine lv_pc (pc2 := 22) rfl ?_
    refine lp_gen (fun WW50 hWW50 => ?_)
    have kx50 : ∀ (yp : Int32) (yb : Int32) (dm1 : Int32) (ds1 : Int32) (dg1 : Int32) (dL1 : Nat → Int32) (dQ1 : Nat → Int32) (dZ1 : Nat → Int32) (g1 : Nat) (H1 : Heap) (locs1 : List Loc) (ls1 : Array Slot), (0 ≤ yp.toInt) → (yp.toInt ≤ 256) → ((g1 : Int) + 96 * (256 - yp.toInt) ≤ (G : Int) + 24576) → (0 ≤ dg1.toInt) → (dg1.toInt ≤ 4) → tG D (hF cI cL cC gC gP gT gR mm ms mg mL mQ mZ dm1 ds1 dg1 dL1 dQ1 dZ1 om os og oL oQ oZ gB gO xk gE gV gU gN g1 gW gA) t H1 → tF t hPH s.heap H1 locs1 → lv_has ls1 4 [(3, .int yp), (2, .int r_45), (1, .int yb), (0, .ref a0)] → WW50 H1 locs1 (F0 m 44 ls1 []) := by
      intro yp yb dm1 ds1 dg1 dL1 dQ1 dZ1 g1 H locs ls v50_0 v50_1 v50_2 v50_3 v50_4 hG hS hl
      refine (hWW50 _ _ _).mpr ?_
      refine lv_iload_n hx hb dX9_fits_44 rfl (lv_at hl 2 rfl) ?_
      exact tx_iret (z := (dm1, ds1, dg1, dL1, dQ1, dZ1, g1)) hx hb hr hlk hG hS ⟨(by show (g1 : Int) ≤ (G : Int) + 24576; omega), (by show 0 ≤ dg1.toInt; omega), (by show dg1.toInt ≤ 4; omega)⟩ dX9_fits_45
    have lp50 : ∀ (kk50 : Nat) (yp : Int32) (yb : Int32) (dm1 : Int32) (ds1 : Int32) (dg1 : Int32) (dL1 : Nat → Int32) (dQ1 : Nat → Int32) (dZ1 : Nat → Int32) (g1 : Nat) (H1 : Heap) (locs1 : List Loc) (ls1 : Array Slot), 256 - yp.toInt ≤ (kk50 : Int) → (0 ≤ yp.toInt) → (yp.toInt ≤ 256) → ((g1 : Int) + 96 * (256 - yp.toInt) ≤ (G : Int) + 24576) → (0 ≤ dg1.toInt) → (dg1.toInt ≤ 4) → tG D (hF cI cL cC gC gP gT gR mm ms mg mL mQ mZ dm1 ds1 dg1 dL1 dQ1 dZ1 om os og oL oQ oZ gB gO xk gE gV gU gN g1 gW gA) t H1 → tF t hPH s.heap H1 locs1 → lv_has ls1 4 [(3, .int yp), (2, .int r_45), (1, .int yb), (0, .ref a0)] → WW50 H1 locs1 (F0 m 22 ls1 []) := by
      intro kk50
      induction kk50 with
      | zero =>
        intro yp yb dm1 ds1 dg1 dL1 dQ1 dZ1 g1 H locs ls hk50 v50_0 v50_1 v50_2 v50_3 v50_4 hG hS hl
        refine (hWW50 _ _ _).mpr ?_
        refine lv_iload_n hx hb dX9_fits_22 rfl (lv_at hl 0 rfl) ?_
        refine lv_iload_n hx hb dX9_fits_23 rfl (lv_at hl 1 rfl) ?_
        refine lv_pc (pc2 := 24) rfl ?_
        refine lv_icmp_ge (tgt := 44) hx hb dX9_fits_24 (by decide) (fun c_51 => ?_) (fun c_51 => ?_)
        · skip
          have c_51 : r_45.toInt ≤ yp.toInt := q_le c_51
          exact (hWW50 _ _ _).mp (kx50 yp yb dm1 ds1 dg1 dL1 dQ1 dZ1 g1 H locs ls v50_0 v50_1 v50_2 v50_3 v50_4 hG hS (lv_sub hl [0, 1, 2, 3] rfl))
        · skip
          have c_51 : yp.toInt < r_45.toInt := q_nle c_51
          exfalso; omega
      | succ kk50 ih50 =>
        intro yp yb dm1 ds1 dg1 dL1 dQ1 dZ1 g1 H locs ls hk50 v50_0 v50_1 v50_2 v50_3 v50_4 hG hS hl
        refine (hWW50 _ _ _).mpr ?_
        refine lv_iload_n hx hb dX9_fits_22 rfl (lv_at hl 0 rfl) ?_
        refine lv_iload_n hx hb dX9_fits_23 rfl (lv_at hl 1 rfl) ?_
        refine lv_icmp_ge (tgt := 44) hx hb dX9_fits_24 (by decide) (fun c_52 => ?_) (fun c_52 => ?_)
        · skip
          have c_52 : r_45.toInt ≤ yp.toInt := q_le c_52
          exact (hWW50 _ _ _).mp (kx50 yp yb dm1 ds1 dg1 dL1 dQ1 dZ1 g1 H locs ls v50_0 v50_1 v50_2 v50_3 v50_4 hG hS (lv_sub hl [0, 1, 2, 3] rfl))
        · skip
          have c_52 : yp.toInt < r_45.toInt := q_nle c_52
          refine lv_aload_n hx hb dX9_fits_27 rfl (lv_at hl 3 rfl) ?_
          refine lv_iload_n hx hb dX9_fits_28 rfl (lv_at hl 0 rfl) ?_
          obtain ⟨r_53, r_55, r_57, r_59, r_61, r_63, r_65, r_67, r_69, r_71, r_73, r_75, r_77, r_79, r_81, at_83, h_54, h_56, h_58, h_60, h_62, h_64, h_66, h_68, h_70, h_72, h_74, h_76, h_78, h_80, h_82⟩ := hF_o1 hG k_a0
          refine tx_calli (W.runV (As := [.int yp]) (rest := []) ⟨hx, hb, hml, hown, hts⟩ (h_X9_pointHolds l D t cI cL cC gC gP gT gR mm ms mg mL mQ mZ dm1 ds1 dg1 dL1 dQ1 dZ1 om os og oL oQ oZ gB gO xk gE gV gU gN g1 gW gA a0 yp  uq (by omega) (by omega) (by omega) (by omega) hTg (by omega) (by omega) (by omega) (by omega) (by omega) (by omega) (by omega) (by omega) (by omega) k_a0) (cwV 1 hts gu_hX9_fits_hX9_pointHolds_243 rfl rfl rfl (by decide +kernel) ⟨Nat.le_of_ble_eq_true rfl, Nat.le_of_ble_eq_true rfl⟩) (tP_V hG hE at_83 rfl) rfl rfl hl.1 rfl (lv_room (Nat.le_of_ble_eq_true rfl)) dX9_fits_29 ⟨Nat.le_of_ble_eq_true rfl, Nat.le_of_ble_eq_true rfl⟩) hS (fun _ h => h) (fun r_84 zz_87 H locs hp_85 hG hS o_86 => ?_)
          obtain ⟨dm_88, ds_89, dg_90, dL_91, dQ_92, dZ_93, G_94⟩ := zz_87
          have at_83 := va_at.keptC at_83 o_86 k_a0 rfl
          replace hG : tG D (hF cI cL cC gC gP gT gR mm ms mg mL mQ mZ dm_88 ds_89 dg_90 dL_91 dQ_92 dZ_93 om os og oL oQ oZ gB gO xk gE gV gU gN G_94 gW gA) t H := hG
          have hp_85 : (r_84 = 1 ∧ drK mL mQ mm ms mg dL_91 dQ_92 dm_88 ds_89 dg_90 ∧ (G_94 : Int) ≤ (g1 : Int) + 96 ∧ 0 ≤ dg_90.toInt ∧ dg_90.toInt ≤ 4) ∨ (r_84 = 0 ∧ drK mL mQ mm ms mg dL_91 dQ_92 dm_88 ds_89 dg_90 ∧ (G_94 : Int) ≤ (g1 : Int) + 96 ∧ 0 ≤ dg_90.toInt ∧ dg_90.toInt ≤ 4) := hp_85
          rcases hp_85 with ⟨rfl, p_95, p_96, p_97, p_98⟩ | ⟨rfl, p_99, p_100, p_101, p_102⟩
          · skip
            refine lv_if_eq (tgt := 38) hx hb dX9_fits_32 (by decide) (fun q => absurd q (by decide)) (fun _ => ?_)
            refine lv_pc (pc2 := 35) rfl ?_
            obtain ⟨x_103, e_104⟩ : ∃ y : Int32, y = yb + Int32.ofInt 1 := ⟨_, rfl⟩
            refine lv_iinc (v := x_103) (lv' := [(1, .int x_103), (3, .int yp), (2, .int r_45), (0, .ref a0)]) hx hb dX9_fits_35 hl (k := 2) rfl e_104.symm (by decide) rfl (fun ls hl => ?_)
            obtain ⟨x_105, e_106⟩ : ∃ y : Int32, y = yp + Int32.ofInt 1 := ⟨_, rfl⟩
            have i_x_105 : x_105.toInt = yp.toInt + 1 := by rw [e_106, show Int32.ofInt 1 = 1 by decide]; exact (q_add (by rw [show (1 : Int32).toInt = 1 by decide]; omega) (by rw [show (1 : Int32).toInt = 1 by decide]; omega)).trans (by rw [show (1 : Int32).toInt = 1 by decide])
            refine lv_iinc (v := x_105) (lv' := [(3, .int x_105), (1, .int x_103), (2, .int r_45), (0, .ref a0)]) hx hb dX9_fits_38 hl (k := 1) rfl e_106.symm (by decide) rfl (fun ls hl => ?_)
            refine lv_goto (tgt := 22) hx hb dX9_fits_41 (by decide) ?_
            exact (hWW50 _ _ _).mp (ih50 x_105 x_103 dm_88 ds_89 dg_90 dL_91 dQ_92 dZ_93 G_94 H locs ls (by omega) (by omega) (by omega) (by omega) (by omega) (by omega) hG hS (lv_sub hl [0, 2, 1, 3] rfl))
          · skip
            refine lv_if_eq (tgt := 38) hx hb dX9_fits_32 (by decide) (fun _ => ?_) (fun q => absurd (by decide) q)
            obtain ⟨x_107, e_108⟩ : ∃ y : Int32, y = yp + Int32.ofInt 1 := ⟨_, rfl⟩
            have i_x_107 : x_107.toInt = yp.toInt + 1 := by rw [e_108, show Int32.ofInt 1 = 1 by decide]; exact (q_add (by rw [show (1 : Int32).toInt = 1 by decide]; omega) (by rw [show (1 : Int32).toInt = 1 by decide]; omega)).trans (by rw [show (1 : Int32).toInt = 1 by decide])
            refine lv_iinc (v := x_107) (lv' := [(3, .int x_107), (2, .int r_45), (1, .int yb), (0, .ref a0)]) hx hb dX9_fits_38 hl (k := 0) rfl e_108.symm (by decide) rfl (fun ls hl => ?_)
            refine lv_goto (tgt := 22) hx hb dX9_fits_41 (by decide) ?_
            exact (hWW50 _ _ _).mp (ih50 x_107 yb dm_88 ds_89 dg_90 dL_91 dQ_92 dZ_93 G_94 H locs ls (by omega) (by omega) (by omega) (by omega) (by omega) (by omega) hG hS (lv_sub hl [0, 1, 2, 3] rfl))
    have zi_0 : (0 : Int32).toInt = 0 := by decide
    exact lp50 (256 - (0 : Int32).toInt : Int).toNat 0 0 dm ds dg dL dQ dZ G H locs ls (by omega) (by omega) (by omega) (by omega) (by omega) (by omega) hG hS (lv_sub hl [0, 1, 2, 3] rfl)
  · skip
    have c_32 : gB.toInt = 0 := q_eq c_32
    refine lv_bipush (v := (-2)) hx hb dX9_fits_7 (by decide) ?_
    have zi_m2 : ((-2) : Int32).toInt = (-2) := by decide
    exact tx_iret (z := (dm, ds, dg, dL, dQ, dZ, G)) hx hb hr hlk hG hS ⟨(by show (G : Int) ≤ (G : Int) + 24576; omega), (by show 0 ≤ dg.toInt; omega), (by show dg.toInt ≤ 4; omega)⟩ dX9_fits_9

def uhX9_fit : List Cond := .code yX9_fit cX9_fit 4 (some .int) :: ([.methodLink RX9 228 yX9_isNoKnob, .static yX9_isNoKnob, .initialized RX9, .fieldLink RX9 29 "RiverModel" "isBuilt" "Z", .fieldLink RX9 81 "RiverModel" "knobs" "LRiverModel$Knobs;", .methodLink RX9 246 yX3_isSet, .instanceMethod yX3_isSet, .selects RX3 yX3_isSet yX3_isSet, .initialized RX3, .methodLink RX9 249 yX9_holdingPoint, .instanceMethod yX9_holdingPoint, .selects RX9 yX9_holdingPoint yX9_holdingPoint, .methodLink RX9 253 yX3_numberAt, .instanceMethod yX3_numberAt, .selects RX3 yX3_numberAt yX3_numberAt, .code yX9_isNoKnob cX9_isNoKnob 1 (some .boolean), .code yX3_isSet cX3_isSet 2 (some .boolean), .fieldLink RX3 24 "RiverModel$Knobs" "manys" "[I", .code yX9_holdingPoint cX9_holdingPoint 5 (some .int), .methodLink RX9 239 yX3_points, .instanceMethod yX3_points, .selects RX3 yX3_points yX3_points, .methodLink RX9 243 yX9_pointHolds, .instanceMethod yX9_pointHolds, .selects RX9 yX9_pointHolds yX9_pointHolds, .code yX3_points cX3_points 1 (some .int), .methodLink RX3 40 yX3_pointsOf, .instanceMethod yX3_pointsOf, .selects RX3 yX3_pointsOf yX3_pointsOf, .code yX3_pointsOf cX3_pointsOf 2 (some .int), .methodLink RX3 37 yX3_isSet, .code yX9_pointHolds cX9_pointHolds 4 (some .boolean), .fieldLink RX9 23 "RiverModel" "draft" "LRiverModel$Model;", .fieldLink RX9 19 "RiverModel" "model" "LRiverModel$Model;", .methodLink RX9 316 yX4_copyFrom, .instanceMethod yX4_copyFrom, .selects RX4 yX4_copyFrom yX4_copyFrom, .initialized RX4, .methodLink RX9 350 yX3_lay, .instanceMethod yX3_lay, .selects RX3 yX3_lay yX3_lay, .fieldLink RX9 57 "RiverModel" "trial" "LRiverModel$Course;", .methodLink RX9 147 yX0_begin, .instanceMethod yX0_begin, .selects RX0 yX0_begin yX0_begin, .initialized RX0, .fieldLink RX9 74 "RiverModel" "gauges" "LRiverModel$Gauges;", .methodLink RX9 354 yX1_lastSeen, .instanceMethod yX1_lastSeen, .selects RX1 yX1_lastSeen yX1_lastSeen, .initialized RX1, .fieldLink RX9 39 "RiverModel" "skyA" "LRiverModel$Sky;", .methodLink RX9 357 yX6_rainIn, .instanceMethod yX6_rainIn, .selects RX6 yX6_rainIn yX6_rainIn, .initialized RX6, .methodLink RX9 360 yX6_tempIn, .instanceMethod yX6_tempIn, .selects RX6 yX6_tempIn yX6_tempIn, .methodLink RX9 363 yX0_goHour, .instanceMethod yX0_goHour, .selects RX0 yX0_goHour yX0_goHour, .methodLink RX9 367 yX1_agree, .instanceMethod yX1_agree, .selects RX1 yX1_agree yX1_agree, .code yX4_copyFrom cX4_copyFrom 2 none, .fieldLink RX4 9 "RiverModel$Model" "cells" "[I", .methodLink RX4 37 arraycopyName, .native arraycopyName, .static arraycopyName, .initialized "java/lang/System", .fieldLink RX4 15 "RiverModel$Model" "storeItems" "[I", .fieldLink RX4 18 "RiverModel$Model" "gateItems" "[I", .fieldLink RX4 21 "RiverModel$Model" "many" "I", .fieldLink RX4 25 "RiverModel$Model" "stores" "I", .fieldLink RX4 28 "RiverModel$Model" "gates" "I", .code yX3_lay cX3_lay 4 (some .boolean), .fieldLink RX3 9 "RiverModel$Knobs" "items" "[I", .methodLink RX3 63 yX4_isItemAsTold, .instanceMethod yX4_isItemAsTold, .selects RX4 yX4_isItemAsTold yX4_isItemAsTold, .fieldLink RX3 15 "RiverModel$Knobs" "numbers" "[I", .methodLink RX3 50 yX4_hasNumber, .instanceMethod yX4_hasNumber, .selects RX4 yX4_hasNumber yX4_hasNumber, .methodLink RX3 56 yX3_numberAt, .methodLink RX3 59 yX4_putCell, .instanceMethod yX4_putCell, .selects RX4 yX4_putCell yX4_putCell, .code yX4_isItemAsTold cX4_isItemAsTold 2 (some .boolean), .methodLink RX4 73 yX4_cell, .instanceMethod yX4_cell, .selects RX4 yX4_cell yX4_cell, .methodLink RX4 77 yX2_areNumbersAsTold, .static yX2_areNumbersAsTold, .initialized RX2, .code yX4_cell cX4_cell 3 (some .int), .code yX2_areNumbersAsTold cX2_areNumbersAsTold 4 (some .boolean), .methodLink RX2 10 yX2_isUpTo, .static yX2_isUpTo, .constant RX2 9 (1000000), .code yX2_isUpTo cX2_isUpTo 2 (some .boolean), .code yX4_hasNumber cX4_hasNumber 3 (some .boolean), .methodLink RX4 86 yX2_numbersOf, .static yX2_numbersOf, .code yX2_numbersOf cX2_numbersOf 1 (some .int), .code yX3_numberAt cX3_numberAt 4 (some .int), .methodLink RX3 44 Lib.Math.max.name, .static Lib.Math.max.name, .initialized "java/lang/Math", .code Lib.Math.max.name Lib.Math.max.code 2 (some .int), .fieldLink RX3 18 "RiverModel$Knobs" "froms" "[I", .fieldLink RX3 21 "RiverModel$Knobs" "steps" "[I", .code yX4_putCell cX4_putCell 4 none, .static yX9_isNoItem, .static yX9_isOutside, .code yX9_isNoItem cX9_isNoItem 1 (some .boolean), .code yX9_isOutside cX9_isOutside 3 (some .boolean), .code yX0_begin cX0_begin 3 none, .fieldLink RX0 15 "RiverModel$Course" "moved" "[J", .methodLink RX0 45 yJ7_fill_d0a16, .static yJ7_fill_d0a16, .initialized RJ7, .fieldLink RX0 18 "RiverModel$Course" "openings" "[I", .methodLink RX0 51 yJ7_fill_53178, .static yJ7_fill_53178, .fieldLink RX0 22 "RiverModel$Course" "due" "[J", .fieldLink RX0 25 "RiverModel$Course" "rained" "J", .fieldLink RX0 29 "RiverModel$Course" "air" "J", .fieldLink RX0 32 "RiverModel$Course" "sea" "J", .fieldLink RX0 35 "RiverModel$Course" "hours" "I", .fieldLink RX0 9 "RiverModel$Course" "held" "[J", .methodLink RX0 39 yX4_startOf, .instanceMethod yX4_startOf, .selects RX4 yX4_startOf yX4_startOf, .code yJ7_fill_d0a16 cJ7_fill_d0a16 5 none, .code yJ7_fill_53178 cJ7_fill_53178 4 none, .code yX4_startOf cX4_startOf 2 (some .int), .methodLink RX4 66 yX4_hasStore, .instanceMethod yX4_hasStore, .selects RX4 yX4_hasStore yX4_hasStore, .code yX4_hasStore cX4_hasStore 2 (some .boolean), .code yX1_lastSeen cX1_lastSeen 3 (some .int), .fieldLink RX1 18 "RiverModel$Gauges" "seen" "[I", .methodLink RX1 67 Lib.Math.max.name, .code yX6_rainIn cX6_rainIn 2 (some .int), .fieldLink RX6 9 "RiverModel$Sky" "rains" "[I", .code yX6_tempIn cX6_tempIn 2 (some .int), .fieldLink RX6 15 "RiverModel$Sky" "temps" "[I", .code yX0_goHour cX0_goHour 7 none, .methodLink RX0 72 yX0_bringDue, .instanceMethod yX0_bringDue, .selects RX0 yX0_bringDue yX0_bringDue, .fieldLink RX0 75 "RiverModel$Model" "many" "I", .methodLink RX0 78 yX0_amountOf, .instanceMethod yX0_amountOf, .selects RX0 yX0_amountOf yX0_amountOf, .methodLink RX0 82 yX0_move, .instanceMethod yX0_move, .selects RX0 yX0_move yX0_move, .code yX0_bringDue cX0_bringDue 3 none, .code yX0_amountOf cX0_amountOf 11 (some .long), .methodLink RX0 86 yX4_cell, .static yX9_isNoStore, .methodLink RX0 110 yX4_gateOf, .instanceMethod yX4_gateOf, .selects RX4 yX4_gateOf yX4_gateOf, .methodLink RX0 113 yX0_openingOf, .instanceMethod yX0_openingOf, .selects RX0 yX0_openingOf yX0_openingOf, .methodLink RX0 107 Lib.MathLoose.min_long.x, .static Lib.MathLoose.min_long.x, .code Lib.MathLoose.min_long.x Lib.MathLoose.min_long.code 4 (some .long), .methodLink RX0 94 yX0_leakOf, .static yX0_leakOf, .constantLong RX0 117 (100), .methodLink RX0 98 yX4_capacityOf, .instanceMethod yX4_capacityOf, .selects RX4 yX4_capacityOf yX4_capacityOf, .methodLink RX0 101 Lib.MathLoose.max_long.x, .static Lib.MathLoose.max_long.x, .code Lib.MathLoose.max_long.x Lib.MathLoose.max_long.code 4 (some .long), .constantLong RX0 119 (10), .code yX9_isNoStore cX9_isNoStore 1 (some .boolean), .code yX4_gateOf cX4_gateOf 3 (some .int), .code yX0_openingOf cX0_openingOf 2 (some .long), .static yX9_isNoGate, .code yX9_isNoGate cX9_isNoGate 1 (some .boolean), .code yX0_leakOf cX0_leakOf 8 (some .long), .code yX4_capacityOf cX4_capacityOf 2 (some .int), .code yX0_move cX0_move 8 none, .methodLink RX0 124 yX0_send, .instanceMethod yX0_send, .selects RX0 yX0_send yX0_send, .code yX0_send cX0_send 5 none, .code yX1_agree cX1_agree 5 (some .boolean), .methodLink RX1 57 yX1_reading, .instanceMethod yX1_reading, .selects RX1 yX1_reading yX1_reading, .methodLink RX1 61 Lib.MathLoose.abs_long.x, .static Lib.MathLoose.abs_long.x, .code Lib.MathLoose.abs_long.x Lib.MathLoose.abs_long.code 2 (some .long), .fieldLink RX1 21 "RiverModel$Gauges" "mayBeOff" "I", .code yX1_reading cX1_reading 4 (some .long), .methodLink RX1 35 yX1_isSet, .instanceMethod yX1_isSet, .selects RX1 yX1_isSet yX1_isSet, .fieldLink RX1 15 "RiverModel$Gauges" "places" "[I", .fieldLink RX1 9 "RiverModel$Gauges" "whats" "[I", .fieldLink RX1 50 "RiverModel$Course" "held" "[J", .fieldLink RX1 41 "RiverModel$Course" "moved" "[J", .code yX1_isSet cX1_isSet 2 (some .boolean)] ++ wsX90 ++ wsX30 ++ wsX40 ++ wsX00 ++ wsX10 ++ wsX60)
set_option maxRecDepth 20000 in
theorem gu_hX9_fit_aX9_isNoKnob_228 : GoodIn uhX9_fit (va_wsS RX9 228 yX9_isNoKnob uaX9_isNoKnob) := goodIn_r _ [1, 2, 3, 16] rfl (by decide +kernel)
set_option maxRecDepth 20000 in
theorem gu_hX9_fit_vX3_isSet_246 : GoodIn uhX9_fit (wsV RX9 246 RX3 yX3_isSet uvX3_isSet) := goodIn_r _ [6, 7, 8, 9, 17, 18, 231, 232, 233, 234, 235] rfl (by decide +kernel)
set_option maxRecDepth 20000 in
theorem gu_hX9_fit_hX9_holdingPoint_249 : GoodIn uhX9_fit (wsV RX9 249 RX9 yX9_holdingPoint uhX9_holdingPoint) := goodIn_r _ [10, 11, 12, 3, 19, 5, 20, 21, 22, 9, 23, 24, 25, 3, 26, 27, 28, 29, 30, 31, 7, 8, 18, 17, 32, 33, 34, 35, 36, 37, 38, 39, 40, 41, 42, 43, 44, 45, 46, 47, 48, 49, 50, 51, 52, 53, 54, 55, 56, 57, 58, 59, 60, 61, 62, 63, 64, 65, 66, 67, 68, 69, 70, 71, 72, 73, 74, 75, 76, 77, 78, 79, 80, 81, 82, 83, 84, 85, 86, 14, 15, 87, 88, 89, 90, 91, 92, 93, 94, 95, 96, 97, 98, 99, 100, 101, 102, 103, 104, 105, 106, 107, 2, 108, 109, 110, 111, 112, 113, 16, 114, 115, 116, 117, 118, 119, 120, 121, 122, 123, 124, 125, 126, 127, 128, 129, 130, 131, 132, 133, 134, 135, 136, 137, 138, 139, 140, 141, 142, 143, 144, 145, 146, 147, 148, 149, 150, 151, 152, 153, 154, 155, 156, 157, 158, 159, 160, 161, 162, 163, 164, 165, 166, 167, 168, 169, 170, 171, 172, 173, 174, 175, 176, 177, 178, 179, 180, 181, 182, 183, 184, 185, 186, 187, 188, 189, 190, 191, 192, 193, 194, 195, 196, 197, 198, 199, 200, 201, 202, 203, 204, 205, 206, 207, 208, 209, 210, 211, 212, 213, 214, 215, 216, 217, 218, 219, 220, 221, 222, 223, 224, 225, 226, 227, 228, 229, 230, 231, 232, 233, 234, 235, 236, 237, 238, 239, 240, 241, 242, 243, 244, 245, 246, 247, 248, 249, 250, 251, 252, 253, 254, 255] rfl (by decide +kernel)
set_option maxRecDepth 20000 in
theorem gu_hX9_fit_vX3_numberAt_253 : GoodIn uhX9_fit (wsV RX9 253 RX3 yX3_numberAt uvX3_numberAt) := goodIn_r _ [13, 14, 15, 9, 107, 3, 2, 27, 28, 29, 9, 108, 109, 110, 111, 112, 113, 16, 30, 31, 7, 8, 18, 17, 231, 232, 233, 234, 235] rfl (by decide +kernel)
set_option maxHeartbeats 4000000 in
set_option maxRecDepth 100000 in
theorem h_X9_fit (l : Launch) (D : va_G) (t : Nat → Nat) (cI cL cC : ClassId) (gC : Int32) (gP : Int32) (gT : Nat → Int32) (gR : Nat → Int32) (mm : Int32) (ms : Int32) (mg : Int32) (mL : Nat → Int32) (mQ : Nat → Int32) (mZ : Nat → Int32) (dm : Int32) (ds : Int32) (dg : Int32) (dL : Nat → Int32) (dQ : Nat → Int32) (dZ : Nat → Int32) (om : Int32) (os : Int32) (og : Int32) (oL : Nat → Int32) (oQ : Nat → Int32) (oZ : Nat → Int32) (gB : Int32) (gO : Int32) (xk : Int32) (gE : Int32) (gV : Nat → Int32) (gU : Nat → Int32) (gN : Nat → Int32) (G : Nat) (gW : Nat → Int32) (gA : Nat → Int32) (a0 : Nat) (a1 : Int32) (a2 : Int32) (uq : ∀ b c : Nat, t b = t c → uqK (t b) = true → b = c) (hC0 : 0 ≤ gC.toInt) (hC4 : gC.toInt ≤ 400) (hP0 : 0 ≤ gP.toInt) (hP4 : gP.toInt ≤ 400) (hTg : gBd 400 0 255 gT) (mg0 : 0 ≤ mg.toInt) (mg4 : mg.toInt ≤ 4) (dg0 : 0 ≤ dg.toInt) (dg4 : dg.toInt ≤ 4) (og0 : 0 ≤ og.toInt) (og4 : og.toInt ≤ 4) (xk0 : 0 ≤ xk.toInt) (xk3 : xk.toInt ≤ 3) (hGb : G ≤ 100000000) (k_a0 : t a0 = 1) : tMx (Z := (Int32) × (Int32) × (Int32) × (Nat → Int32) × (Nat → Int32) × (Nat → Int32) × (Nat)) l yX9_fit uhX9_fit 6 146 D (hF cI cL cC gC gP gT gR mm ms mg mL mQ mZ dm ds dg dL dQ dZ om os og oL oQ oZ gB gO xk gE gV gU gN G gW gA) (fun z => (hF cI cL cC gC gP gT gR mm ms mg mL mQ mZ z.1 z.2.1 z.2.2.1 z.2.2.2.1 z.2.2.2.2.1 z.2.2.2.2.2.1 om os og oL oQ oZ gB gO xk gE gV gU gN z.2.2.2.2.2.2 gW gA)) t cI cL cC [.ref a0, .int a1, .int a2] hPH (xI (fun r (z : (Int32) × (Int32) × (Int32) × (Nat → Int32) × (Nat → Int32) × (Nat → Int32) × (Nat)) => (z.2.2.2.2.2.2 : Int) ≤ (G : Int) + 24576 ∧ 0 ≤ z.2.2.1.toInt ∧ z.2.2.1.toInt ≤ 4)) := by
  refine tMx.ofW (cc := cX9_fit) (maxL := 4) (ret := (some .int)) (by decide) rfl (Nat.le_of_ble_eq_true rfl) ?_
  intro p e s m below meth c hx hb hr hml hown hts hlk H locs hG hK hE hS ls hl
  have hl : lv_has ls 4 [(0, .ref a0), (1, .int a1), (2, .int a2)] := hl
  have in9 : ∀ w ∈ wsX90, w ∈ uhX9_fit := fun w h => List.mem_cons_of_mem _ (List.mem_append_left _ (List.mem_append_left _ (List.mem_append_left _ (List.mem_append_left _ (List.mem_append_left _ (List.mem_append_right _ h))))))
  refine lv_iload_n hx hb dX9_fit_0 rfl (lv_at hl 1 rfl) ?_
  refine lv_if_lt (tgt := 11) hx hb dX9_fit_1 (by decide) (fun c_1 => ?_) (fun c_1 => ?_)
  · skip
    have c_1 : a1.toInt < 0 := q_lt c_1
    refine lv_iconst (v := (-1)) hx hb dX9_fit_11 (by decide) ?_
    have zi_m1 : ((-1) : Int32).toInt = (-1) := by decide
    exact tx_iret (z := (dm, ds, dg, dL, dQ, dZ, G)) hx hb hr hlk hG hS ⟨(by show (G : Int) ≤ (G : Int) + 24576; omega), (by show 0 ≤ dg.toInt; omega), (by show dg.toInt ≤ 4; omega)⟩ dX9_fit_12
  · skip
    have c_1 : 0 ≤ a1.toInt := q_nlt c_1
    refine lv_iload_n hx hb dX9_fit_4 rfl (lv_at hl 2 rfl) ?_
    refine ty_calli (W.runS (As := [.int a2]) (rest := []) ⟨hx, hb, hml, hown, hts⟩ (a_X9_isNoKnob l D t cI cL cC (hF cI cL cC gC gP gT gR mm ms mg mL mQ mZ dm ds dg dL dQ dZ om os og oL oQ oZ gB gO xk gE gV gU gN G gW gA) a2   ) (va_cwS 1 hts gu_hX9_fit_aX9_isNoKnob_228 rfl rfl rfl (by decide +kernel) ⟨Nat.le_of_ble_eq_true rfl, Nat.le_of_ble_eq_true rfl⟩) (tP_S hG hE) rfl rfl hl.1 rfl (lv_room (Nat.le_of_ble_eq_true rfl)) dX9_fit_5 ⟨Nat.le_of_ble_eq_true rfl, Nat.le_of_ble_eq_true rfl⟩) hS (fun k h => by simp [wr0] at h) (fun r_2 H locs hp_3 hG hS o_4 => ?_)
    have hp_3 : (r_2 = 1 ∧ (a2.toInt < 0 ∨ 1 < a2.toInt)) ∨ (r_2 = 0 ∧ 0 ≤ a2.toInt ∧ a2.toInt ≤ 1) := hp_3
    rcases hp_3 with ⟨rfl, p_6⟩ | ⟨rfl, p_7, p_8⟩
    · skip
      refine lv_if_eq (tgt := 13) hx hb dX9_fit_8 (by decide) (fun q => absurd q (by decide)) (fun _ => ?_)
      refine lv_pc (pc2 := 11) rfl ?_
      refine lv_iconst (v := (-1)) hx hb dX9_fit_11 (by decide) ?_
      have zi_m1 : ((-1) : Int32).toInt = (-1) := by decide
      exact tx_iret (z := (dm, ds, dg, dL, dQ, dZ, G)) hx hb hr hlk hG hS ⟨(by show (G : Int) ≤ (G : Int) + 24576; omega), (by show 0 ≤ dg.toInt; omega), (by show dg.toInt ≤ 4; omega)⟩ dX9_fit_12
    · skip
      refine lv_if_eq (tgt := 13) hx hb dX9_fit_8 (by decide) (fun _ => ?_) (fun q => absurd (by decide) q)
      refine lv_aload_n hx hb dX9_fit_13 rfl (lv_at hl 0 rfl) ?_
      obtain ⟨r_9, r_11, r_13, r_15, r_17, r_19, r_21, r_23, r_25, r_27, r_29, r_31, r_33, r_35, r_37, at_39, h_10, h_12, h_14, h_16, h_18, h_20, h_22, h_24, h_26, h_28, h_30, h_32, h_34, h_36, h_38⟩ := hF_o1 hG k_a0
      refine va_get (D := D) (ci := 8) (v := .int gB) (C := RX9) (T := TX9) (N := 18) hx hb hts in9 hown hK (va_one at_39) 0 rfl rfl 4 (by decide) (hts (.fieldLink RX9 29 "RiverModel" "isBuilt" "Z") (List.mem_of_getElem? (i := 4) rfl)) (fun _ h9 => h9) rfl dX9_fit_14 ?_
      refine lv_if_ne (tgt := 23) hx hb dX9_fit_17 (by decide) (fun c_40 => ?_) (fun c_40 => ?_)
      · skip
        have c_40 : gB.toInt ≠ 0 := q_ne c_40
        refine lv_aload_n hx hb dX9_fit_23 rfl (lv_at hl 0 rfl) ?_
        refine va_get (D := D) (ci := 8) (v := .ref r_33) (C := RX9) (T := TX9) (N := 18) hx hb hts in9 hown hK (va_one at_39) 0 rfl rfl 15 (by decide) (hts (.fieldLink RX9 81 "RiverModel" "knobs" "LRiverModel$Knobs;") (List.mem_of_getElem? (i := 5) rfl)) (fun _ h9 => h9) rfl dX9_fit_24 ?_
        refine lv_pc (pc2 := 27) rfl ?_
        refine lv_iload_n hx hb dX9_fit_27 rfl (lv_at hl 2 rfl) ?_
        have hV_41 : tG D (rF cI cL cC gC gP gT gR mm ms mg mL mQ mZ gE gV gU gN) (fun q => vwM (t q)) H := tG.vw hG (vwM_vw) rfl
        obtain ⟨r_42, r_44, r_46, r_48, r_50, at_52, h_43, h_45, h_47, h_49, h_51⟩ := hF_o7 hG h_34
        refine tw_calli (t := t) (W.runV (As := [.int a2]) (rest := []) ⟨hx, hb, hml, hown, hts⟩ (v_X3_isSet l D (fun q => vwM (t q)) cI cL cC gC gP gT gR mm ms mg mL mQ mZ gE gV gU gN r_33 a2  (vwM_inj uq)  (show vwM (t r_33) = 7 by rw [h_34]; rfl)) (cwV 1 hts gu_hX9_fit_vX3_isSet_246 rfl rfl rfl (by decide +kernel) ⟨Nat.le_of_ble_eq_true rfl, Nat.le_of_ble_eq_true rfl⟩) (tP_V hV_41 hE at_52 rfl) rfl rfl hl.1 rfl (lv_room (Nat.le_of_ble_eq_true rfl)) dX9_fit_28 ⟨Nat.le_of_ble_eq_true rfl, Nat.le_of_ble_eq_true rfl⟩) hS (fun q h => by simp [wr0] at h) (fun r_53 H locs hp_54 hV_57 hS o_55 => ?_)
        replace hG := tG.kept0 hG o_55
        have at_39 := va_at.keptC (t := (fun q => vwM (t q))) at_39 o_55 (show vwM (t a0) = 0 by rw [k_a0]; rfl) rfl
        have at_52 := va_at.keptC (t := (fun q => vwM (t q))) at_52 o_55 (show vwM (t r_33) = 7 by rw [h_34]; rfl) rfl
        clear hV_41 hV_57
        have hp_54 : (r_53 = 1 ∧ 0 ≤ a2.toInt ∧ a2.toInt ≤ 1) ∨ (r_53 = 0) := hp_54
        rcases hp_54 with ⟨rfl, p_58, p_59⟩ | rfl
        · skip
          refine lv_if_eq (tgt := 42) hx hb dX9_fit_31 (by decide) (fun q => absurd q (by decide)) (fun _ => ?_)
          refine lv_aload_n hx hb dX9_fit_34 rfl (lv_at hl 0 rfl) ?_
          refine lv_iload_n hx hb dX9_fit_35 rfl (lv_at hl 1 rfl) ?_
          refine tx_calli (W.runV (As := [.int a1]) (rest := []) ⟨hx, hb, hml, hown, hts⟩ (h_X9_holdingPoint l D t cI cL cC gC gP gT gR mm ms mg mL mQ mZ dm ds dg dL dQ dZ om os og oL oQ oZ gB gO xk gE gV gU gN G gW gA a0 a1  uq (by omega) (by omega) (by omega) (by omega) hTg (by omega) (by omega) (by omega) (by omega) (by omega) (by omega) (by omega) (by omega) (by omega) k_a0) (cwV 1 hts gu_hX9_fit_hX9_holdingPoint_249 rfl rfl rfl (by decide +kernel) ⟨Nat.le_of_ble_eq_true rfl, Nat.le_of_ble_eq_true rfl⟩) (tP_V hG hE at_39 rfl) rfl rfl hl.1 rfl (lv_room (Nat.le_of_ble_eq_true rfl)) dX9_fit_36 ⟨Nat.le_of_ble_eq_true rfl, Nat.le_of_ble_eq_true rfl⟩) hS (fun _ h => h) (fun r_60 zz_63 H locs hp_61 hG hS o_62 => ?_)
          obtain ⟨dm_64, ds_65, dg_66, dL_67, dQ_68, dZ_69, G_70⟩ := zz_63
          have at_39 := va_at.keptC at_39 o_62 k_a0 rfl
          have at_52 := va_at.keptC at_52 o_62 h_34 rfl
          replace hG : tG D (hF cI cL cC gC gP gT gR mm ms mg mL mQ mZ dm_64 ds_65 dg_66 dL_67 dQ_68 dZ_69 om os og oL oQ oZ gB gO xk gE gV gU gN G_70 gW gA) t H := hG
          have hp_61 : (r_60.toInt ≠ -4 → drK mL mQ mm ms mg dL_67 dQ_68 dm_64 ds_65 dg_66) ∧ (G_70 : Int) ≤ (G : Int) + 24576 ∧ 0 ≤ dg_66.toInt ∧ dg_66.toInt ≤ 4 := hp_61
          obtain ⟨p_71, p_72, p_73, p_74⟩ := hp_61
          refine lv_goto (tgt := 44) hx hb dX9_fit_39 (by decide) ?_
          refine lv_istore_n (lv' := [(3, .int r_60), (0, .ref a0), (1, .int a1), (2, .int a2)]) hx hb dX9_fit_44 rfl hl (by decide) rfl (fun ls hl => ?_)
          refine lv_pc (pc2 := 45) rfl ?_
          refine lv_iload_n hx hb dX9_fit_45 rfl (lv_at hl 0 rfl) ?_
          refine lv_bipush (v := (-4)) hx hb dX9_fit_46 (by decide) ?_
          refine lv_icmp_ne (tgt := 56) hx hb dX9_fit_48 (by decide) (fun c_75 => ?_) (fun c_75 => ?_)
          · skip
            have c_75 : r_60.toInt ≠ (-4) := q_ne c_75
            refine lv_aload_n hx hb dX9_fit_56 rfl (lv_at hl 1 rfl) ?_
            refine va_get (D := D) (ci := 8) (v := .ref r_33) (C := RX9) (T := TX9) (N := 18) hx hb hts in9 hown hK (va_one at_39) 0 rfl rfl 15 (by decide) (hts (.fieldLink RX9 81 "RiverModel" "knobs" "LRiverModel$Knobs;") (List.mem_of_getElem? (i := 5) rfl)) (fun _ h9 => h9) rfl dX9_fit_57 ?_
            refine lv_iload_n hx hb dX9_fit_60 rfl (lv_at hl 3 rfl) ?_
            refine lv_iload_n hx hb dX9_fit_61 rfl (lv_at hl 0 rfl) ?_
            have hV_76 : tG D (rF cI cL cC gC gP gT gR mm ms mg mL mQ mZ gE gV gU gN) (fun q => vwM (t q)) H := tG.vw hG (vwM_vw) rfl
            refine tw_calli (t := t) (W.runV (As := [.int a2, .int r_60]) (rest := []) ⟨hx, hb, hml, hown, hts⟩ (v_X3_numberAt l D (fun q => vwM (t q)) cI cL cC gC gP gT gR mm ms mg mL mQ mZ gE gV gU gN r_33 a2 r_60  (vwM_inj uq)  (show vwM (t r_33) = 7 by rw [h_34]; rfl)) (cwV 2 hts gu_hX9_fit_vX3_numberAt_253 rfl rfl rfl (by decide +kernel) ⟨Nat.le_of_ble_eq_true rfl, Nat.le_of_ble_eq_true rfl⟩) (tP_V hV_76 hE at_52 rfl) rfl rfl hl.1 rfl (lv_room (Nat.le_of_ble_eq_true rfl)) dX9_fit_62 ⟨Nat.le_of_ble_eq_true rfl, Nat.le_of_ble_eq_true rfl⟩) hS (fun q h => by simp [wr0] at h) (fun r_77 H locs hp_78 hV_81 hS o_79 => ?_)
            replace hG := tG.kept0 hG o_79
            have at_39 := va_at.keptC (t := (fun q => vwM (t q))) at_39 o_79 (show vwM (t a0) = 0 by rw [k_a0]; rfl) rfl
            have at_52 := va_at.keptC (t := (fun q => vwM (t q))) at_52 o_79 (show vwM (t r_33) = 7 by rw [h_34]; rfl) rfl
            clear hV_76 hV_81
            refine lv_pc (pc2 := 65) rfl ?_
            exact tx_iret (z := (dm_64, ds_65, dg_66, dL_67, dQ_68, dZ_69, G_70)) hx hb hr hlk hG hS ⟨(by show (G_70 : Int) ≤ (G : Int) + 24576; omega), (by show 0 ≤ dg_66.toInt; omega), (by show dg_66.toInt ≤ 4; omega)⟩ dX9_fit_65
          · skip
            have c_75 : r_60.toInt = (-4) := q_eq c_75
            refine lv_bipush (v := (-4)) hx hb dX9_fit_51 (by decide) ?_
            refine lv_goto (tgt := 65) hx hb dX9_fit_53 (by decide) ?_
            have zi_m4 : ((-4) : Int32).toInt = (-4) := by decide
            exact tx_iret (z := (dm_64, ds_65, dg_66, dL_67, dQ_68, dZ_69, G_70)) hx hb hr hlk hG hS ⟨(by show (G_70 : Int) ≤ (G : Int) + 24576; omega), (by show 0 ≤ dg_66.toInt; omega), (by show dg_66.toInt ≤ 4; omega)⟩ dX9_fit_65
        · skip
          refine lv_if_eq (tgt := 42) hx hb dX9_fit_31 (by decide) (fun _ => ?_) (fun q => absurd (by decide) q)
          refine lv_bipush (v := (-4)) hx hb dX9_fit_42 (by decide) ?_
          refine lv_istore_n (lv' := [(3, .int (-4)), (0, .ref a0), (1, .int a1), (2, .int a2)]) hx hb dX9_fit_44 rfl hl (by decide) rfl (fun ls hl => ?_)
          refine lv_iload_n hx hb dX9_fit_45 rfl (lv_at hl 0 rfl) ?_
          refine lv_pc (pc2 := 46) rfl ?_
          refine lv_bipush (v := (-4)) hx hb dX9_fit_46 (by decide) ?_
          refine lv_icmp_ne (tgt := 56) hx hb dX9_fit_48 (by decide) (fun q => absurd rfl q) (fun _ => ?_)
          refine lv_bipush (v := (-4)) hx hb dX9_fit_51 (by decide) ?_
          refine lv_goto (tgt := 65) hx hb dX9_fit_53 (by decide) ?_
          have zi_m4 : ((-4) : Int32).toInt = (-4) := by decide
          exact tx_iret (z := (dm, ds, dg, dL, dQ, dZ, G)) hx hb hr hlk hG hS ⟨(by show (G : Int) ≤ (G : Int) + 24576; omega), (by show 0 ≤ dg.toInt; omega), (by show dg.toInt ≤ 4; omega)⟩ dX9_fit_65
      · skip
        have c_40 : gB.toInt = 0 := q_eq c_40
        refine lv_bipush (v := (-2)) hx hb dX9_fit_20 (by decide) ?_
        have zi_m2 : ((-2) : Int32).toInt = (-2) := by decide
        exact tx_iret (z := (dm, ds, dg, dL, dQ, dZ, G)) hx hb hr hlk hG hS ⟨(by show (G : Int) ≤ (G : Int) + 24576; omega), (by show 0 ≤ dg.toInt; omega), (by show dg.toInt ≤ 4; omega)⟩ dX9_fit_22

def uhX9_ends : List Cond := .code yX9_ends cX9_ends 3 (some .int) :: ([.constant RX9 224 (100000), .methodLink RX9 99 yX9_isOutside, .static yX9_isOutside, .initialized RX9, .fieldLink RX9 74 "RiverModel" "gauges" "LRiverModel$Gauges;", .fieldLink RX9 225 "RiverModel$Gauges" "mayBeOff" "I", .code yX9_isOutside cX9_isOutside 3 (some .boolean)] ++ wsX90 ++ wsX10)
set_option maxRecDepth 20000 in
theorem gu_hX9_ends_aX9_isOutside_99 : GoodIn uhX9_ends (va_wsS RX9 99 yX9_isOutside uaX9_isOutside) := goodIn_r _ [2, 3, 4, 7] rfl (by decide +kernel)
set_option maxHeartbeats 4000000 in
set_option maxRecDepth 100000 in
theorem h_X9_ends (l : Launch) (D : va_G) (t : Nat → Nat) (cI cL cC : ClassId) (gC : Int32) (gP : Int32) (gT : Nat → Int32) (gR : Nat → Int32) (mm : Int32) (ms : Int32) (mg : Int32) (mL : Nat → Int32) (mQ : Nat → Int32) (mZ : Nat → Int32) (dm : Int32) (ds : Int32) (dg : Int32) (dL : Nat → Int32) (dQ : Nat → Int32) (dZ : Nat → Int32) (om : Int32) (os : Int32) (og : Int32) (oL : Nat → Int32) (oQ : Nat → Int32) (oZ : Nat → Int32) (gB : Int32) (gO : Int32) (xk : Int32) (gE : Int32) (gV : Nat → Int32) (gU : Nat → Int32) (gN : Nat → Int32) (G : Nat) (gW : Nat → Int32) (gA : Nat → Int32) (a0 : Nat) (a1 : Int32) (uq : ∀ b c : Nat, t b = t c → uqK (t b) = true → b = c) (hC0 : 0 ≤ gC.toInt) (hC4 : gC.toInt ≤ 400) (hP0 : 0 ≤ gP.toInt) (hP4 : gP.toInt ≤ 400) (hTg : gBd 400 0 255 gT) (mg0 : 0 ≤ mg.toInt) (mg4 : mg.toInt ≤ 4) (dg0 : 0 ≤ dg.toInt) (dg4 : dg.toInt ≤ 4) (og0 : 0 ≤ og.toInt) (og4 : og.toInt ≤ 4) (xk0 : 0 ≤ xk.toInt) (xk3 : xk.toInt ≤ 3) (k_a0 : t a0 = 1) : tMx (Z := (Int32)) l yX9_ends uhX9_ends 1 22 D (hF cI cL cC gC gP gT gR mm ms mg mL mQ mZ dm ds dg dL dQ dZ om os og oL oQ oZ gB gO xk gE gV gU gN G gW gA) (fun z => (hF cI cL cC gC gP gT gR mm ms mg mL mQ mZ dm ds dg dL dQ dZ om os og oL oQ oZ gB gO xk z gV gU gN G gW gA)) t cI cL cC [.ref a0, .int a1] hE6 (xI (fun r (z : (Int32)) => r = aen gE a1 ∧ z = nen gE a1)) := by
  refine tMx.ofW (cc := cX9_ends) (maxL := 3) (ret := (some .int)) (by decide) rfl (Nat.le_of_ble_eq_true rfl) ?_
  intro p e s m below meth c hx hb hr hml hown hts hlk H locs hG hK hE hS ls hl
  have hl : lv_has ls 3 [(0, .ref a0), (1, .int a1)] := hl
  have in9 : ∀ w ∈ wsX90, w ∈ uhX9_ends := fun w h => List.mem_cons_of_mem _ (List.mem_append_left _ (List.mem_append_right _ h))
  have in1 : ∀ w ∈ wsX10, w ∈ uhX9_ends := fun w h => List.mem_cons_of_mem _ (List.mem_append_right _ h)
  refine lv_iload_n hx hb dX9_ends_0 rfl (lv_at hl 1 rfl) ?_
  refine lv_iconst (v := 0) hx hb dX9_ends_1 (by decide) ?_
  refine lv_ldc hx hb hown (hts (.constant RX9 224 (100000)) (List.mem_of_getElem? (i := 1) rfl)) dX9_ends_2 ?_
  have zi_0 : (0 : Int32).toInt = 0 := by decide
  have zi_100000 : (100000 : Int32).toInt = 100000 := by decide
  refine ty_calli (W.runS (As := [.int a1, .int 0, .int 100000]) (rest := []) ⟨hx, hb, hml, hown, hts⟩ (a_X9_isOutside l D t cI cL cC (hF cI cL cC gC gP gT gR mm ms mg mL mQ mZ dm ds dg dL dQ dZ om os og oL oQ oZ gB gO xk gE gV gU gN G gW gA) a1 0 100000 a1.toInt 0 100000 rfl (by decide) (by decide) ) (va_cwS 3 hts gu_hX9_ends_aX9_isOutside_99 rfl rfl rfl (by decide +kernel) ⟨Nat.le_of_ble_eq_true rfl, Nat.le_of_ble_eq_true rfl⟩) (tP_S hG hE) rfl rfl hl.1 rfl (lv_room (Nat.le_of_ble_eq_true rfl)) dX9_ends_4 ⟨Nat.le_of_ble_eq_true rfl, Nat.le_of_ble_eq_true rfl⟩) hS (fun k h => by simp [wr0] at h) (fun r_1 H locs hp_2 hG hS o_3 => ?_)
  have hp_2 : (r_1 = 1 ∧ (a1.toInt < 0 ∨ 100000 < a1.toInt)) ∨ (r_1 = 0 ∧ 0 ≤ a1.toInt ∧ a1.toInt ≤ 100000) := hp_2
  rcases hp_2 with ⟨rfl, p_5⟩ | ⟨rfl, p_6, p_7⟩
  · skip
    refine lv_if_eq (tgt := 12) hx hb dX9_ends_7 (by decide) (fun q => absurd q (by decide)) (fun _ => ?_)
    refine lv_iconst (v := (-1)) hx hb dX9_ends_10 (by decide) ?_
    have zi_m1 : ((-1) : Int32).toInt = (-1) := by decide
    exact tx_iret (z := (gE)) hx hb hr hlk hG hS ⟨(by show ((-1) : Int32) = aen gE a1; simp only [aen]; first | (rw [if_pos (by omega)]; done) | (rw [if_neg (by omega)]; done) | (rw [if_neg (by omega), if_pos (by omega)]; done) | (rw [if_neg (by omega), if_neg (by omega)]; done)), (by show gE = nen gE a1; simp only [nen]; first | (rw [if_pos (by omega)]; done) | (rw [if_neg (by omega)]; done) | (rw [if_neg (by omega), if_pos (by omega)]; done) | (rw [if_neg (by omega), if_neg (by omega)]; done))⟩ dX9_ends_11
  · skip
    refine lv_pc (pc2 := 7) rfl ?_
    refine lv_if_eq (tgt := 12) hx hb dX9_ends_7 (by decide) (fun _ => ?_) (fun q => absurd (by decide) q)
    refine lv_aload_n hx hb dX9_ends_12 rfl (lv_at hl 0 rfl) ?_
    obtain ⟨r_8, r_10, r_12, r_14, r_16, r_18, r_20, r_22, r_24, r_26, r_28, r_30, r_32, r_34, r_36, at_38, h_9, h_11, h_13, h_15, h_17, h_19, h_21, h_23, h_25, h_27, h_29, h_31, h_33, h_35, h_37⟩ := hF_o1 hG k_a0
    refine va_get (D := D) (ci := 8) (v := .ref r_30) (C := RX9) (T := TX9) (N := 18) hx hb hts in9 hown hK (va_one at_38) 0 rfl rfl 14 (by decide) (hts (.fieldLink RX9 74 "RiverModel" "gauges" "LRiverModel$Gauges;") (List.mem_of_getElem? (i := 5) rfl)) (fun _ h9 => h9) rfl dX9_ends_13 ?_
    obtain ⟨r_39, r_41, r_43, at_45, h_40, h_42, h_44⟩ := hF_o6 hG h_31
    refine va_get (D := D) (ci := 1) (v := .int gE) (C := RX1) (T := TX1) (N := 4) hx hb hts in1 hown hK (va_one at_45) 0 rfl rfl 3 (by decide) (hts (.fieldLink RX9 225 "RiverModel$Gauges" "mayBeOff" "I") (List.mem_of_getElem? (i := 6) rfl)) (fun _ h9 => h9) rfl dX9_ends_16 ?_
    refine lv_istore_n (lv' := [(2, .int gE), (0, .ref a0), (1, .int a1)]) hx hb dX9_ends_19 rfl hl (by decide) rfl (fun ls hl => ?_)
    refine lv_aload_n hx hb dX9_ends_20 rfl (lv_at hl 1 rfl) ?_
    refine va_get (D := D) (ci := 8) (v := .ref r_30) (C := RX9) (T := TX9) (N := 18) hx hb hts in9 hown hK (va_one at_38) 0 rfl rfl 14 (by decide) (hts (.fieldLink RX9 74 "RiverModel" "gauges" "LRiverModel$Gauges;") (List.mem_of_getElem? (i := 5) rfl)) (fun _ h9 => h9) rfl dX9_ends_21 ?_
    refine lv_iload_n hx hb dX9_ends_24 rfl (lv_at hl 2 rfl) ?_
    refine lv_pc (pc2 := 25) rfl ?_
    refine ty_put (D := D) (ci := 1) (v := .int a1) (ty := .int) (C := RX1) (T := TX1) (N := 4) (F2 := (hF cI cL cC gC gP gT gR mm ms mg mL mQ mZ dm ds dg dL dQ dZ om os og oL oQ oZ gB gO xk a1 gV gU gN G gW gA)) hx hb hts in1 tyX1 tyX1_ok nmX1 hown hK hG hS at_45 (by rw [h_31]; rfl) rfl 3 (by decide) (hts (.fieldLink RX9 225 "RiverModel$Gauges" "mayBeOff" "I") (List.mem_of_getElem? (i := 6) rfl)) (fun _ h9 => h9) rfl (by decide +kernel) rfl rfl (Nat.le_of_ble_eq_true rfl) (by rw [h_31]; exact ⟨r_39, r_41, r_43, rfl, h_40, h_42, h_44⟩) (fun hG b hb h0 => by obtain ⟨e, g1, g2⟩ := hG b h0; exact ⟨e, g1, hF_gE (fun h => hb (uq b r_30 (h.trans h_31.symm) (by rw [h]; rfl))) g2⟩) dX9_ends_25 (fun H locs hG hS at_46 o_47 => ?_)
    have at_46 : va_at D vwCl (r_30, .inr (1, [.ref r_39, .ref r_41, .ref r_43, .int a1])) H := at_46
    have at_38 := va_at.keptK at_38 o_47 h_31 k_a0 rfl
    refine lv_iload_n hx hb dX9_ends_28 rfl (lv_at hl 0 rfl) ?_
    exact tx_iret (z := (a1)) hx hb hr hlk hG hS ⟨(by show gE = aen gE a1; simp only [aen]; first | (rw [if_pos (by omega)]; done) | (rw [if_neg (by omega)]; done) | (rw [if_neg (by omega), if_pos (by omega)]; done) | (rw [if_neg (by omega), if_neg (by omega)]; done)), (by show a1 = nen gE a1; simp only [nen]; first | (rw [if_pos (by omega)]; done) | (rw [if_neg (by omega)]; done) | (rw [if_neg (by omega), if_pos (by omega)]; done) | (rw [if_neg (by omega), if_neg (by omega)]; done))⟩ dX9_ends_29

def uhX9_keep : List Cond := .code yX9_keep cX9_keep 1 (some .int) :: ([.fieldLink RX9 29 "RiverModel" "isBuilt" "Z", .fieldLink RX9 67 "RiverModel" "keptMany" "I", .fieldLink RX9 63 "RiverModel" "kept" "[LRiverModel$Course;", .fieldLink RX9 53 "RiverModel" "now" "LRiverModel$Course;", .methodLink RX9 330 yX0_copyFrom, .instanceMethod yX0_copyFrom, .selects RX0 yX0_copyFrom yX0_copyFrom, .initialized RX0, .code yX0_copyFrom cX0_copyFrom 2 none, .fieldLink RX0 9 "RiverModel$Course" "held" "[J", .methodLink RX0 54 arraycopyName, .native arraycopyName, .static arraycopyName, .initialized "java/lang/System", .fieldLink RX0 15 "RiverModel$Course" "moved" "[J", .fieldLink RX0 18 "RiverModel$Course" "openings" "[I", .fieldLink RX0 22 "RiverModel$Course" "due" "[J", .fieldLink RX0 25 "RiverModel$Course" "rained" "J", .fieldLink RX0 29 "RiverModel$Course" "air" "J", .fieldLink RX0 32 "RiverModel$Course" "sea" "J", .fieldLink RX0 35 "RiverModel$Course" "hours" "I"] ++ wsX90 ++ wsX00)
set_option maxRecDepth 20000 in
theorem gu_hX9_keep_X0_copyFrom_330 : GoodIn uhX9_keep (wsV RX9 330 RX0 yX0_copyFrom uX0_copyFrom) := goodIn_r _ [5, 6, 7, 8, 9, 10, 11, 12, 13, 14, 15, 16, 17, 18, 19, 20, 21, 40, 41, 42, 43, 44, 45, 46, 47] rfl (by decide +kernel)
set_option maxHeartbeats 4000000 in
set_option maxRecDepth 100000 in
theorem h_X9_keep (l : Launch) (D : va_G) (t : Nat → Nat) (cI cL cC : ClassId) (gC : Int32) (gP : Int32) (gT : Nat → Int32) (gR : Nat → Int32) (mm : Int32) (ms : Int32) (mg : Int32) (mL : Nat → Int32) (mQ : Nat → Int32) (mZ : Nat → Int32) (dm : Int32) (ds : Int32) (dg : Int32) (dL : Nat → Int32) (dQ : Nat → Int32) (dZ : Nat → Int32) (om : Int32) (os : Int32) (og : Int32) (oL : Nat → Int32) (oQ : Nat → Int32) (oZ : Nat → Int32) (gB : Int32) (gO : Int32) (xk : Int32) (gE : Int32) (gV : Nat → Int32) (gU : Nat → Int32) (gN : Nat → Int32) (G : Nat) (gW : Nat → Int32) (gA : Nat → Int32) (a0 : Nat) (uq : ∀ b c : Nat, t b = t c → uqK (t b) = true → b = c) (hC0 : 0 ≤ gC.toInt) (hC4 : gC.toInt ≤ 400) (hP0 : 0 ≤ gP.toInt) (hP4 : gP.toInt ≤ 400) (hTg : gBd 400 0 255 gT) (mg0 : 0 ≤ mg.toInt) (mg4 : mg.toInt ≤ 4) (dg0 : 0 ≤ dg.toInt) (dg4 : dg.toInt ≤ 4) (og0 : 0 ≤ og.toInt) (og4 : og.toInt ≤ 4) (xk0 : 0 ≤ xk.toInt) (xk3 : xk.toInt ≤ 3) (k_a0 : t a0 = 1) : tMx (Z := (Int32)) l yX9_keep uhX9_keep 2 81 D (hF cI cL cC gC gP gT gR mm ms mg mL mQ mZ dm ds dg dL dQ dZ om os og oL oQ oZ gB gO xk gE gV gU gN G gW gA) (fun z => (hF cI cL cC gC gP gT gR mm ms mg mL mQ mZ dm ds dg dL dQ dZ om os og oL oQ oZ gB gO z gE gV gU gN G gW gA)) t cI cL cC [.ref a0] hK1 (xI (fun r (z : (Int32)) => 0 ≤ z.toInt ∧ z.toInt ≤ 3)) := by
  refine tMx.ofW (cc := cX9_keep) (maxL := 1) (ret := (some .int)) (by decide) rfl (Nat.le_of_ble_eq_true rfl) ?_
  intro p e s m below meth c hx hb hr hml hown hts hlk H locs hG hK hE hS ls hl
  have hl : lv_has ls 1 [(0, .ref a0)] := hl
  have in9 : ∀ w ∈ wsX90, w ∈ uhX9_keep := fun w h => List.mem_cons_of_mem _ (List.mem_append_left _ (List.mem_append_right _ h))
  refine lv_aload_n hx hb dX9_keep_0 rfl (lv_at hl 0 rfl) ?_
  obtain ⟨r_1, r_3, r_5, r_7, r_9, r_11, r_13, r_15, r_17, r_19, r_21, r_23, r_25, r_27, r_29, at_31, h_2, h_4, h_6, h_8, h_10, h_12, h_14, h_16, h_18, h_20, h_22, h_24, h_26, h_28, h_30⟩ := hF_o1 hG k_a0
  refine va_get (D := D) (ci := 8) (v := .int gB) (C := RX9) (T := TX9) (N := 18) hx hb hts in9 hown hK (va_one at_31) 0 rfl rfl 4 (by decide) (hts (.fieldLink RX9 29 "RiverModel" "isBuilt" "Z") (List.mem_of_getElem? (i := 1) rfl)) (fun _ h9 => h9) rfl dX9_keep_1 ?_
  refine lv_if_ne (tgt := 10) hx hb dX9_keep_4 (by decide) (fun c_32 => ?_) (fun c_32 => ?_)
  · skip
    have c_32 : gB.toInt ≠ 0 := q_ne c_32
    refine lv_aload_n hx hb dX9_keep_10 rfl (lv_at hl 0 rfl) ?_
    refine va_get (D := D) (ci := 8) (v := .int xk) (C := RX9) (T := TX9) (N := 18) hx hb hts in9 hown hK (va_one at_31) 0 rfl rfl 13 (by decide) (hts (.fieldLink RX9 67 "RiverModel" "keptMany" "I") (List.mem_of_getElem? (i := 2) rfl)) (fun _ h9 => h9) rfl dX9_keep_11 ?_
    refine lv_iconst (v := 3) hx hb dX9_keep_14 (by decide) ?_
    refine lv_icmp_lt (tgt := 21) hx hb dX9_keep_15 (by decide) (fun c_33 => ?_) (fun c_33 => ?_)
    · skip
      have c_33 : xk.toInt < 3 := q_lt c_33
      refine lv_pc (pc2 := 21) rfl ?_
      refine lv_aload_n hx hb dX9_keep_21 rfl (lv_at hl 0 rfl) ?_
      refine va_get (D := D) (ci := 8) (v := .ref r_21) (C := RX9) (T := TX9) (N := 18) hx hb hts in9 hown hK (va_one at_31) 0 rfl rfl 12 (by decide) (hts (.fieldLink RX9 63 "RiverModel" "kept" "[LRiverModel$Course;") (List.mem_of_getElem? (i := 3) rfl)) (fun _ h9 => h9) rfl dX9_keep_22 ?_
      refine lv_aload_n hx hb dX9_keep_25 rfl (lv_at hl 0 rfl) ?_
      refine va_get (D := D) (ci := 8) (v := .int xk) (C := RX9) (T := TX9) (N := 18) hx hb hts in9 hown hK (va_one at_31) 0 rfl rfl 13 (by decide) (hts (.fieldLink RX9 67 "RiverModel" "keptMany" "I") (List.mem_of_getElem? (i := 2) rfl)) (fun _ h9 => h9) rfl dX9_keep_26 ?_
      obtain ⟨f_34, at_35, h_36⟩ := hF_o36 hG h_22
      have b_37 : vp_in xk 3 := (q_in (by omega) (by omega))
      refine va_aldq hx hb hK (va_one at_35) 0 2 rfl rfl b_37 dX9_keep_29 ?_
      obtain ⟨r_38, e_39, h_40⟩ := h_36 _ (q_inlt b_37)
      rw [e_39]
      show W p l _ _ s m _ below meth c _ _ _ _ _ (F0 m _ ls (.ref r_38 :: _))
      refine lv_aload_n hx hb dX9_keep_30 rfl (lv_at hl 0 rfl) ?_
      refine va_get (D := D) (ci := 8) (v := .ref r_15) (C := RX9) (T := TX9) (N := 18) hx hb hts in9 hown hK (va_one at_31) 0 rfl rfl 9 (by decide) (hts (.fieldLink RX9 53 "RiverModel" "now" "LRiverModel$Course;") (List.mem_of_getElem? (i := 4) rfl)) (fun _ h9 => h9) rfl dX9_keep_31 ?_
      have hV_41 : tG D (gF cI cL cC gC gE G gW gA) (fun q => cwM (t q)) H := tG.vw hG (cwM_vw ⟨by omega, by omega⟩) rfl
      obtain ⟨r_42, r_44, r_46, r_48, v_50, v_51, v_52, v_53, at_55, h_43, h_45, h_47, h_49, h_54⟩ := hF_o5 hG h_40
      refine tw_callv (t := t) (W.runV (As := [.ref r_15]) (rest := []) ⟨hx, hb, hml, hown, hts⟩ (s_X0_copyFrom l D (fun q => cwM (t q)) cI cL cC gC gE G gW gA r_38 r_15 (show cwM (t r_38) = 5 by rw [h_40]; rfl) (show cwM (t r_15) = 5 by rw [h_16]; rfl)) (cwV 1 hts gu_hX9_keep_X0_copyFrom_330 rfl rfl rfl (by decide +kernel) ⟨Nat.le_of_ble_eq_true rfl, Nat.le_of_ble_eq_true rfl⟩) (tP_V hV_41 hE at_55 rfl) rfl rfl hl.1 rfl (lv_room (Nat.le_of_ble_eq_true rfl)) dX9_keep_34 ⟨Nat.le_of_ble_eq_true rfl, Nat.le_of_ble_eq_true rfl⟩) hS (fun q h => cwM_wrC_hK1 h) (fun H locs hp_57 hV_60 hS o_58 => ?_)
      replace hG : tG D (hF cI cL cC gC gP gT gR mm ms mg mL mQ mZ dm ds dg dL dQ dZ om os og oL oQ oZ gB gO xk gE gV gU gN G gW gA) t H := tG.unvw hG hV_60 o_58 rfl (cwM_wrC_b (G := G)) (cwM_wrC_o (by omega))
      have at_31 := va_at.keptC (t := (fun q => cwM (t q))) at_31 o_58 (show cwM (t a0) = 0 by rw [k_a0]; rfl) rfl
      have at_35 := va_at.keptC (t := (fun q => cwM (t q))) at_35 o_58 (show cwM (t r_21) = 36 by rw [h_22]; rfl) rfl
      clear hV_41 hV_60
      refine lv_pc (pc2 := 37) rfl ?_
      refine lv_aload_n hx hb dX9_keep_37 rfl (lv_at hl 0 rfl) ?_
      refine lv_dup hx hb dX9_keep_38 rfl ?_
      refine va_get (D := D) (ci := 8) (v := .int xk) (C := RX9) (T := TX9) (N := 18) hx hb hts in9 hown hK (va_one at_31) 0 rfl rfl 13 (by decide) (hts (.fieldLink RX9 67 "RiverModel" "keptMany" "I") (List.mem_of_getElem? (i := 2) rfl)) (fun _ h9 => h9) rfl dX9_keep_39 ?_
      refine lv_iconst (v := 1) hx hb dX9_keep_42 (by decide) ?_
      refine lv_iadd hx hb dX9_keep_43 ?_
      refine lv_topi (fun x_61 e_62 => ?_)
      have i_x_61 : x_61.toInt = xk.toInt + 1 := by rw [e_62]; exact (q_add (by rw [show (1 : Int32).toInt = 1 by decide]; omega) (by rw [show (1 : Int32).toInt = 1 by decide]; omega)).trans (by rw [show (1 : Int32).toInt = 1 by decide])
      refine ty_put (D := D) (ci := 8) (v := .int x_61) (ty := .int) (C := RX9) (T := TX9) (N := 18) (F2 := (hF cI cL cC gC gP gT gR mm ms mg mL mQ mZ dm ds dg dL dQ dZ om os og oL oQ oZ gB gO x_61 gE gV gU gN G gW gA)) hx hb hts in9 tyX9 tyX9_ok nmX9 hown hK hG hS at_31 (by rw [k_a0]; rfl) rfl 13 (by decide) (hts (.fieldLink RX9 67 "RiverModel" "keptMany" "I") (List.mem_of_getElem? (i := 2) rfl)) (fun _ h9 => h9) rfl (by decide +kernel) rfl rfl (Nat.le_of_ble_eq_true rfl) (by rw [k_a0]; exact ⟨r_1, r_3, r_5, r_7, r_9, r_11, r_13, r_15, r_17, r_19, r_21, r_23, r_25, r_27, r_29, rfl, h_2, h_4, h_6, h_8, h_10, h_12, h_14, h_16, h_18, h_20, h_22, h_24, h_26, h_28, h_30⟩) (fun hG b hb h0 => by obtain ⟨e, g1, g2⟩ := hG b h0; exact ⟨e, g1, hF_xk (fun h => hb (uq b a0 (h.trans k_a0.symm) (by rw [h]; rfl))) g2⟩) dX9_keep_44 (fun H locs hG hS at_63 o_64 => ?_)
      have at_63 : va_at D vwCl (a0, .inr (8, [.ref r_1, .ref r_3, .ref r_5, .ref r_7, .int gB, .int gO, .ref r_9, .ref r_11, .ref r_13, .ref r_15, .ref r_17, .ref r_19, .ref r_21, .int x_61, .ref r_23, .ref r_25, .ref r_27, .ref r_29])) H := at_63
      have at_35 := va_at.keptK at_35 o_64 k_a0 h_22 rfl
      refine lv_aload_n hx hb dX9_keep_47 rfl (lv_at hl 0 rfl) ?_
      refine va_get (D := D) (ci := 8) (v := .int x_61) (C := RX9) (T := TX9) (N := 18) hx hb hts in9 hown hK (va_one at_63) 0 rfl rfl 13 (by decide) (hts (.fieldLink RX9 67 "RiverModel" "keptMany" "I") (List.mem_of_getElem? (i := 2) rfl)) (fun _ h9 => h9) rfl dX9_keep_48 ?_
      refine lv_pc (pc2 := 51) rfl ?_
      exact tx_iret (z := (x_61)) hx hb hr hlk hG hS ⟨(by show 0 ≤ x_61.toInt; omega), (by show x_61.toInt ≤ 3; omega)⟩ dX9_keep_51
    · skip
      have c_33 : 3 ≤ xk.toInt := q_nlt c_33
      refine lv_bipush (v := (-3)) hx hb dX9_keep_18 (by decide) ?_
      have zi_m3 : ((-3) : Int32).toInt = (-3) := by decide
      exact tx_iret (z := (xk)) hx hb hr hlk hG hS ⟨(by show 0 ≤ xk.toInt; omega), (by show xk.toInt ≤ 3; omega)⟩ dX9_keep_20
  · skip
    have c_32 : gB.toInt = 0 := q_eq c_32
    refine lv_bipush (v := (-2)) hx hb dX9_keep_7 (by decide) ?_
    have zi_m2 : ((-2) : Int32).toInt = (-2) := by decide
    exact tx_iret (z := (xk)) hx hb hr hlk hG hS ⟨(by show 0 ≤ xk.toInt; omega), (by show xk.toInt ≤ 3; omega)⟩ dX9_keep_9

def uhX9_back : List Cond := .code yX9_back cX9_back 1 (some .int) :: ([.fieldLink RX9 67 "RiverModel" "keptMany" "I", .methodLink RX9 99 yX9_isOutside, .static yX9_isOutside, .initialized RX9, .fieldLink RX9 53 "RiverModel" "now" "LRiverModel$Course;", .fieldLink RX9 63 "RiverModel" "kept" "[LRiverModel$Course;", .methodLink RX9 330 yX0_copyFrom, .instanceMethod yX0_copyFrom, .selects RX0 yX0_copyFrom yX0_copyFrom, .initialized RX0, .code yX9_isOutside cX9_isOutside 3 (some .boolean), .code yX0_copyFrom cX0_copyFrom 2 none, .fieldLink RX0 9 "RiverModel$Course" "held" "[J", .methodLink RX0 54 arraycopyName, .native arraycopyName, .static arraycopyName, .initialized "java/lang/System", .fieldLink RX0 15 "RiverModel$Course" "moved" "[J", .fieldLink RX0 18 "RiverModel$Course" "openings" "[I", .fieldLink RX0 22 "RiverModel$Course" "due" "[J", .fieldLink RX0 25 "RiverModel$Course" "rained" "J", .fieldLink RX0 29 "RiverModel$Course" "air" "J", .fieldLink RX0 32 "RiverModel$Course" "sea" "J", .fieldLink RX0 35 "RiverModel$Course" "hours" "I"] ++ wsX90 ++ wsX00)
set_option maxRecDepth 20000 in
theorem gu_hX9_back_aX9_isOutside_99 : GoodIn uhX9_back (va_wsS RX9 99 yX9_isOutside uaX9_isOutside) := goodIn_r _ [2, 3, 4, 11] rfl (by decide +kernel)
set_option maxRecDepth 20000 in
theorem gu_hX9_back_X0_copyFrom_330 : GoodIn uhX9_back (wsV RX9 330 RX0 yX0_copyFrom uX0_copyFrom) := goodIn_r _ [7, 8, 9, 10, 12, 13, 14, 15, 16, 17, 18, 19, 20, 21, 22, 23, 24, 43, 44, 45, 46, 47, 48, 49, 50] rfl (by decide +kernel)
set_option maxHeartbeats 4000000 in
set_option maxRecDepth 100000 in
theorem h_X9_back (l : Launch) (D : va_G) (t : Nat → Nat) (cI cL cC : ClassId) (gC : Int32) (gP : Int32) (gT : Nat → Int32) (gR : Nat → Int32) (mm : Int32) (ms : Int32) (mg : Int32) (mL : Nat → Int32) (mQ : Nat → Int32) (mZ : Nat → Int32) (dm : Int32) (ds : Int32) (dg : Int32) (dL : Nat → Int32) (dQ : Nat → Int32) (dZ : Nat → Int32) (om : Int32) (os : Int32) (og : Int32) (oL : Nat → Int32) (oQ : Nat → Int32) (oZ : Nat → Int32) (gB : Int32) (gO : Int32) (xk : Int32) (gE : Int32) (gV : Nat → Int32) (gU : Nat → Int32) (gN : Nat → Int32) (G : Nat) (gW : Nat → Int32) (gA : Nat → Int32) (a0 : Nat) (uq : ∀ b c : Nat, t b = t c → uqK (t b) = true → b = c) (hC0 : 0 ≤ gC.toInt) (hC4 : gC.toInt ≤ 400) (hP0 : 0 ≤ gP.toInt) (hP4 : gP.toInt ≤ 400) (hTg : gBd 400 0 255 gT) (mg0 : 0 ≤ mg.toInt) (mg4 : mg.toInt ≤ 4) (dg0 : 0 ≤ dg.toInt) (dg4 : dg.toInt ≤ 4) (og0 : 0 ≤ og.toInt) (og4 : og.toInt ≤ 4) (xk0 : 0 ≤ xk.toInt) (xk3 : xk.toInt ≤ 3) (k_a0 : t a0 = 1) : tMx (Z := (Int32)) l yX9_back uhX9_back 2 81 D (hF cI cL cC gC gP gT gR mm ms mg mL mQ mZ dm ds dg dL dQ dZ om os og oL oQ oZ gB gO xk gE gV gU gN G gW gA) (fun z => (hF cI cL cC gC gP gT gR mm ms mg mL mQ mZ dm ds dg dL dQ dZ om os og oL oQ oZ gB gO z gE gV gU gN G gW gA)) t cI cL cC [.ref a0] hK1 (xI (fun r (z : (Int32)) => 0 ≤ z.toInt ∧ z.toInt ≤ 3)) := by
  refine tMx.ofW (cc := cX9_back) (maxL := 1) (ret := (some .int)) (by decide) rfl (Nat.le_of_ble_eq_true rfl) ?_
  intro p e s m below meth c hx hb hr hml hown hts hlk H locs hG hK hE hS ls hl
  have hl : lv_has ls 1 [(0, .ref a0)] := hl
  have in9 : ∀ w ∈ wsX90, w ∈ uhX9_back := fun w h => List.mem_cons_of_mem _ (List.mem_append_left _ (List.mem_append_right _ h))
  refine lv_aload_n hx hb dX9_back_0 rfl (lv_at hl 0 rfl) ?_
  obtain ⟨r_1, r_3, r_5, r_7, r_9, r_11, r_13, r_15, r_17, r_19, r_21, r_23, r_25, r_27, r_29, at_31, h_2, h_4, h_6, h_8, h_10, h_12, h_14, h_16, h_18, h_20, h_22, h_24, h_26, h_28, h_30⟩ := hF_o1 hG k_a0
  refine va_get (D := D) (ci := 8) (v := .int xk) (C := RX9) (T := TX9) (N := 18) hx hb hts in9 hown hK (va_one at_31) 0 rfl rfl 13 (by decide) (hts (.fieldLink RX9 67 "RiverModel" "keptMany" "I") (List.mem_of_getElem? (i := 1) rfl)) (fun _ h9 => h9) rfl dX9_back_1 ?_
  refine lv_iconst (v := 1) hx hb dX9_back_4 (by decide) ?_
  refine lv_iconst (v := 3) hx hb dX9_back_5 (by decide) ?_
  have zi_1 : (1 : Int32).toInt = 1 := by decide
  have zi_3 : (3 : Int32).toInt = 3 := by decide
  refine ty_calli (W.runS (As := [.int xk, .int 1, .int 3]) (rest := []) ⟨hx, hb, hml, hown, hts⟩ (a_X9_isOutside l D t cI cL cC (hF cI cL cC gC gP gT gR mm ms mg mL mQ mZ dm ds dg dL dQ dZ om os og oL oQ oZ gB gO xk gE gV gU gN G gW gA) xk 1 3 xk.toInt 1 3 rfl (by decide) (by decide) ) (va_cwS 3 hts gu_hX9_back_aX9_isOutside_99 rfl rfl rfl (by decide +kernel) ⟨Nat.le_of_ble_eq_true rfl, Nat.le_of_ble_eq_true rfl⟩) (tP_S hG hE) rfl rfl hl.1 rfl (lv_room (Nat.le_of_ble_eq_true rfl)) dX9_back_6 ⟨Nat.le_of_ble_eq_true rfl, Nat.le_of_ble_eq_true rfl⟩) hS (fun k h => by simp [wr0] at h) (fun r_32 H locs hp_33 hG hS o_34 => ?_)
  have at_31 := va_at.keptC at_31 o_34 k_a0 rfl
  have hp_33 : (r_32 = 1 ∧ (xk.toInt < 1 ∨ 3 < xk.toInt)) ∨ (r_32 = 0 ∧ 1 ≤ xk.toInt ∧ xk.toInt ≤ 3) := hp_33
  rcases hp_33 with ⟨rfl, p_36⟩ | ⟨rfl, p_37, p_38⟩
  · skip
    refine lv_if_eq (tgt := 15) hx hb dX9_back_9 (by decide) (fun q => absurd q (by decide)) (fun _ => ?_)
    refine lv_bipush (v := (-2)) hx hb dX9_back_12 (by decide) ?_
    refine lv_pc (pc2 := 14) rfl ?_
    have zi_m2 : ((-2) : Int32).toInt = (-2) := by decide
    exact tx_iret (z := (xk)) hx hb hr hlk hG hS ⟨(by show 0 ≤ xk.toInt; omega), (by show xk.toInt ≤ 3; omega)⟩ dX9_back_14
  · skip
    refine lv_if_eq (tgt := 15) hx hb dX9_back_9 (by decide) (fun _ => ?_) (fun q => absurd (by decide) q)
    refine lv_aload_n hx hb dX9_back_15 rfl (lv_at hl 0 rfl) ?_
    refine lv_dup hx hb dX9_back_16 rfl ?_
    refine va_get (D := D) (ci := 8) (v := .int xk) (C := RX9) (T := TX9) (N := 18) hx hb hts in9 hown hK (va_one at_31) 0 rfl rfl 13 (by decide) (hts (.fieldLink RX9 67 "RiverModel" "keptMany" "I") (List.mem_of_getElem? (i := 1) rfl)) (fun _ h9 => h9) rfl dX9_back_17 ?_
    refine lv_iconst (v := 1) hx hb dX9_back_20 (by decide) ?_
    refine lv_isub hx hb dX9_back_21 ?_
    refine lv_topi (fun x_39 e_40 => ?_)
    have i_x_39 : x_39.toInt = xk.toInt - 1 := by rw [e_40]; exact (q_sub (by rw [show (1 : Int32).toInt = 1 by decide]; omega) (by rw [show (1 : Int32).toInt = 1 by decide]; omega)).trans (by rw [show (1 : Int32).toInt = 1 by decide])
    refine ty_put (D := D) (ci := 8) (v := .int x_39) (ty := .int) (C := RX9) (T := TX9) (N := 18) (F2 := (hF cI cL cC gC gP gT gR mm ms mg mL mQ mZ dm ds dg dL dQ dZ om os og oL oQ oZ gB gO x_39 gE gV gU gN G gW gA)) hx hb hts in9 tyX9 tyX9_ok nmX9 hown hK hG hS at_31 (by rw [k_a0]; rfl) rfl 13 (by decide) (hts (.fieldLink RX9 67 "RiverModel" "keptMany" "I") (List.mem_of_getElem? (i := 1) rfl)) (fun _ h9 => h9) rfl (by decide +kernel) rfl rfl (Nat.le_of_ble_eq_true rfl) (by rw [k_a0]; exact ⟨r_1, r_3, r_5, r_7, r_9, r_11, r_13, r_15, r_17, r_19, r_21, r_23, r_25, r_27, r_29, rfl, h_2, h_4, h_6, h_8, h_10, h_12, h_14, h_16, h_18, h_20, h_22, h_24, h_26, h_28, h_30⟩) (fun hG b hb h0 => by obtain ⟨e, g1, g2⟩ := hG b h0; exact ⟨e, g1, hF_xk (fun h => hb (uq b a0 (h.trans k_a0.symm) (by rw [h]; rfl))) g2⟩) dX9_back_22 (fun H locs hG hS at_41 o_42 => ?_)
    have at_41 : va_at D vwCl (a0, .inr (8, [.ref r_1, .ref r_3, .ref r_5, .ref r_7, .int gB, .int gO, .ref r_9, .ref r_11, .ref r_13, .ref r_15, .ref r_17, .ref r_19, .ref r_21, .int x_39, .ref r_23, .ref r_25, .ref r_27, .ref r_29])) H := at_41
    refine lv_pc (pc2 := 25) rfl ?_
    refine lv_aload_n hx hb dX9_back_25 rfl (lv_at hl 0 rfl) ?_
    refine va_get (D := D) (ci := 8) (v := .ref r_15) (C := RX9) (T := TX9) (N := 18) hx hb hts in9 hown hK (va_one at_41) 0 rfl rfl 9 (by decide) (hts (.fieldLink RX9 53 "RiverModel" "now" "LRiverModel$Course;") (List.mem_of_getElem? (i := 5) rfl)) (fun _ h9 => h9) rfl dX9_back_26 ?_
    refine lv_aload_n hx hb dX9_back_29 rfl (lv_at hl 0 rfl) ?_
    refine va_get (D := D) (ci := 8) (v := .ref r_21) (C := RX9) (T := TX9) (N := 18) hx hb hts in9 hown hK (va_one at_41) 0 rfl rfl 12 (by decide) (hts (.fieldLink RX9 63 "RiverModel" "kept" "[LRiverModel$Course;") (List.mem_of_getElem? (i := 6) rfl)) (fun _ h9 => h9) rfl dX9_back_30 ?_
    refine lv_aload_n hx hb dX9_back_33 rfl (lv_at hl 0 rfl) ?_
    refine va_get (D := D) (ci := 8) (v := .int x_39) (C := RX9) (T := TX9) (N := 18) hx hb hts in9 hown hK (va_one at_41) 0 rfl rfl 13 (by decide) (hts (.fieldLink RX9 67 "RiverModel" "keptMany" "I") (List.mem_of_getElem? (i := 1) rfl)) (fun _ h9 => h9) rfl dX9_back_34 ?_
    obtain ⟨f_43, at_44, h_45⟩ := hF_o36 hG h_22
    have b_46 : vp_in x_39 3 := (q_in (by omega) (by omega))
    refine va_aldq hx hb hK (va_one at_44) 0 2 rfl rfl b_46 dX9_back_37 ?_
    obtain ⟨r_47, e_48, h_49⟩ := h_45 _ (q_inlt b_46)
    rw [e_48]
    show W p l _ _ s m _ below meth c _ _ _ _ _ (F0 m _ ls (.ref r_47 :: _))
    have hV_50 : tG D (gF cI cL cC gC gE G gW gA) (fun q => cwM (t q)) H := tG.vw hG (cwM_vw ⟨by omega, by omega⟩) rfl
    obtain ⟨r_51, r_53, r_55, r_57, v_59, v_60, v_61, v_62, at_64, h_52, h_54, h_56, h_58, h_63⟩ := hF_o5 hG h_16
    refine tw_callv (t := t) (W.runV (As := [.ref r_47]) (rest := []) ⟨hx, hb, hml, hown, hts⟩ (s_X0_copyFrom l D (fun q => cwM (t q)) cI cL cC gC gE G gW gA r_15 r_47 (show cwM (t r_15) = 5 by rw [h_16]; rfl) (show cwM (t r_47) = 5 by rw [h_49]; rfl)) (cwV 1 hts gu_hX9_back_X0_copyFrom_330 rfl rfl rfl (by decide +kernel) ⟨Nat.le_of_ble_eq_true rfl, Nat.le_of_ble_eq_true rfl⟩) (tP_V hV_50 hE at_64 rfl) rfl rfl hl.1 rfl (lv_room (Nat.le_of_ble_eq_true rfl)) dX9_back_38 ⟨Nat.le_of_ble_eq_true rfl, Nat.le_of_ble_eq_true rfl⟩) hS (fun q h => cwM_wrC_hK1 h) (fun H locs hp_66 hV_69 hS o_67 => ?_)
    replace hG : tG D (hF cI cL cC gC gP gT gR mm ms mg mL mQ mZ dm ds dg dL dQ dZ om os og oL oQ oZ gB gO x_39 gE gV gU gN G gW gA) t H := tG.unvw hG hV_69 o_67 rfl (cwM_wrC_b (G := G)) (cwM_wrC_o (by omega))
    have at_41 := va_at.keptC (t := (fun q => cwM (t q))) at_41 o_67 (show cwM (t a0) = 0 by rw [k_a0]; rfl) rfl
    have at_44 := va_at.keptC (t := (fun q => cwM (t q))) at_44 o_67 (show cwM (t r_21) = 36 by rw [h_22]; rfl) rfl
    clear hV_50 hV_69
    refine lv_pc (pc2 := 41) rfl ?_
    refine lv_aload_n hx hb dX9_back_41 rfl (lv_at hl 0 rfl) ?_
    refine va_get (D := D) (ci := 8) (v := .int x_39) (C := RX9) (T := TX9) (N := 18) hx hb hts in9 hown hK (va_one at_41) 0 rfl rfl 13 (by decide) (hts (.fieldLink RX9 67 "RiverModel" "keptMany" "I") (List.mem_of_getElem? (i := 1) rfl)) (fun _ h9 => h9) rfl dX9_back_42 ?_
    exact tx_iret (z := (x_39)) hx hb hr hlk hG hS ⟨(by show 0 ≤ x_39.toInt; omega), (by show x_39.toInt ≤ 3; omega)⟩ dX9_back_45
