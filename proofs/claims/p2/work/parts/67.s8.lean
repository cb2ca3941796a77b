theorem dX7_append_0 : decode cX7_append 0 = .ok (.iload_n 1, 1) := by decide +kernel
theorem dX7_append_1 : decode cX7_append 1 = .ok (.iconst 1, 1) := by decide +kernel
theorem dX7_append_2 : decode cX7_append 2 = .ok (.isub, 1) := by decide +kernel
theorem dX7_append_3 : decode cX7_append 3 = .ok (.istore 4, 2) := by decide +kernel
theorem dX7_append_5 : decode cX7_append 5 = .ok (.iload 4, 2) := by decide +kernel
theorem dX7_append_7 : decode cX7_append 7 = .ok (.ifCond .lt 50, 3) := by decide +kernel
theorem dX7_append_10 : decode cX7_append 10 = .ok (.aload_n 0, 1) := by decide +kernel
theorem dX7_append_11 : decode cX7_append 11 = .ok (.getfield 18, 3) := by decide +kernel
theorem dX7_append_14 : decode cX7_append 14 = .ok (.sipush 400, 3) := by decide +kernel
theorem dX7_append_17 : decode cX7_append 17 = .ok (.if_icmp .ge 40, 3) := by decide +kernel
theorem dX7_append_20 : decode cX7_append 20 = .ok (.aload_n 0, 1) := by decide +kernel
theorem dX7_append_21 : decode cX7_append 21 = .ok (.getfield 9, 3) := by decide +kernel
theorem dX7_append_24 : decode cX7_append 24 = .ok (.aload_n 0, 1) := by decide +kernel
theorem dX7_append_25 : decode cX7_append 25 = .ok (.getfield 18, 3) := by decide +kernel
theorem dX7_append_28 : decode cX7_append 28 = .ok (.lload_n 2, 1) := by decide +kernel
theorem dX7_append_29 : decode cX7_append 29 = .ok (.bipush 8, 2) := by decide +kernel
theorem dX7_append_31 : decode cX7_append 31 = .ok (.iload 4, 2) := by decide +kernel
theorem dX7_append_33 : decode cX7_append 33 = .ok (.imul, 1) := by decide +kernel
theorem dX7_append_34 : decode cX7_append 34 = .ok (.lushr, 1) := by decide +kernel
theorem dX7_append_35 : decode cX7_append 35 = .ok (.l2i, 1) := by decide +kernel
theorem dX7_append_36 : decode cX7_append 36 = .ok (.sipush 255, 3) := by decide +kernel
theorem dX7_append_39 : decode cX7_append 39 = .ok (.iand, 1) := by decide +kernel
theorem dX7_append_40 : decode cX7_append 40 = .ok (.iastore, 1) := by decide +kernel
theorem dX7_append_41 : decode cX7_append 41 = .ok (.aload_n 0, 1) := by decide +kernel
theorem dX7_append_42 : decode cX7_append 42 = .ok (.dup, 1) := by decide +kernel
theorem dX7_append_43 : decode cX7_append 43 = .ok (.getfield 18, 3) := by decide +kernel
theorem dX7_append_46 : decode cX7_append 46 = .ok (.iconst 1, 1) := by decide +kernel
theorem dX7_append_47 : decode cX7_append 47 = .ok (.iadd, 1) := by decide +kernel
theorem dX7_append_48 : decode cX7_append 48 = .ok (.putfield 18, 3) := by decide +kernel
theorem dX7_append_51 : decode cX7_append 51 = .ok (.iinc 4 (-1), 3) := by decide +kernel
theorem dX7_append_54 : decode cX7_append 54 = .ok (.goto (-49), 3) := by decide +kernel
theorem dX7_append_57 : decode cX7_append 57 = .ok (.return_, 1) := by decide +kernel
theorem dX8_putRain_0 : decode cX8_putRain 0 = .ok (.aload_n 0, 1) := by decide +kernel
theorem dX8_putRain_1 : decode cX8_putRain 1 = .ok (.iload_n 1, 1) := by decide +kernel
theorem dX8_putRain_2 : decode cX8_putRain 2 = .ok (.iload_n 2, 1) := by decide +kernel
theorem dX8_putRain_3 : decode cX8_putRain 3 = .ok (.invokevirtual 21, 3) := by decide +kernel
theorem dX8_putRain_6 : decode cX8_putRain 6 = .ok (.istore 4, 2) := by decide +kernel
theorem dX8_putRain_8 : decode cX8_putRain 8 = .ok (.iload_n 1, 1) := by decide +kernel
theorem dX8_putRain_9 : decode cX8_putRain 9 = .ok (.invokestatic 25, 3) := by decide +kernel
theorem dX8_putRain_12 : decode cX8_putRain 12 = .ok (.ifCond .ne 25, 3) := by decide +kernel
theorem dX8_putRain_15 : decode cX8_putRain 15 = .ok (.iload_n 2, 1) := by decide +kernel
theorem dX8_putRain_16 : decode cX8_putRain 16 = .ok (.iconst 0, 1) := by decide +kernel
theorem dX8_putRain_17 : decode cX8_putRain 17 = .ok (.bipush 23, 2) := by decide +kernel
theorem dX8_putRain_19 : decode cX8_putRain 19 = .ok (.invokestatic 29, 3) := by decide +kernel
theorem dX8_putRain_22 : decode cX8_putRain 22 = .ok (.ifCond .ne 15, 3) := by decide +kernel
theorem dX8_putRain_25 : decode cX8_putRain 25 = .ok (.aload_n 0, 1) := by decide +kernel
theorem dX8_putRain_26 : decode cX8_putRain 26 = .ok (.getfield 18, 3) := by decide +kernel
theorem dX8_putRain_29 : decode cX8_putRain 29 = .ok (.iload_n 1, 1) := by decide +kernel
theorem dX8_putRain_30 : decode cX8_putRain 30 = .ok (.bipush 24, 2) := by decide +kernel
theorem dX8_putRain_32 : decode cX8_putRain 32 = .ok (.imul, 1) := by decide +kernel
theorem dX8_putRain_33 : decode cX8_putRain 33 = .ok (.iload_n 2, 1) := by decide +kernel
theorem dX8_putRain_34 : decode cX8_putRain 34 = .ok (.iadd, 1) := by decide +kernel
theorem dX8_putRain_35 : decode cX8_putRain 35 = .ok (.iload_n 3, 1) := by decide +kernel
theorem dX8_putRain_36 : decode cX8_putRain 36 = .ok (.iastore, 1) := by decide +kernel
theorem dX8_putRain_37 : decode cX8_putRain 37 = .ok (.iload 4, 2) := by decide +kernel
theorem dX8_putRain_39 : decode cX8_putRain 39 = .ok (.ireturn, 1) := by decide +kernel
theorem dX9_write_0 : decode cX9_write 0 = .ok (.iload_n 1, 1) := by decide +kernel
theorem dX9_write_1 : decode cX9_write 1 = .ok (.iconst 1, 1) := by decide +kernel
theorem dX9_write_2 : decode cX9_write 2 = .ok (.bipush 8, 2) := by decide +kernel
theorem dX9_write_4 : decode cX9_write 4 = .ok (.invokestatic 99, 3) := by decide +kernel
theorem dX9_write_7 : decode cX9_write 7 = .ok (.ifCond .eq 5, 3) := by decide +kernel
theorem dX9_write_10 : decode cX9_write 10 = .ok (.iconst (-1), 1) := by decide +kernel
theorem dX9_write_11 : decode cX9_write 11 = .ok (.ireturn, 1) := by decide +kernel
theorem dX9_write_12 : decode cX9_write 12 = .ok (.aload_n 0, 1) := by decide +kernel
theorem dX9_write_13 : decode cX9_write 13 = .ok (.getfield 10, 3) := by decide +kernel
theorem dX9_write_16 : decode cX9_write 16 = .ok (.getfield 103, 3) := by decide +kernel
theorem dX9_write_19 : decode cX9_write 19 = .ok (.iload_n 1, 1) := by decide +kernel
theorem dX9_write_20 : decode cX9_write 20 = .ok (.iadd, 1) := by decide +kernel
theorem dX9_write_21 : decode cX9_write 21 = .ok (.sipush 400, 3) := by decide +kernel
theorem dX9_write_24 : decode cX9_write 24 = .ok (.if_icmp .le 6, 3) := by decide +kernel
theorem dX9_write_27 : decode cX9_write 27 = .ok (.bipush (-3), 2) := by decide +kernel
theorem dX9_write_29 : decode cX9_write 29 = .ok (.ireturn, 1) := by decide +kernel
theorem dX9_write_30 : decode cX9_write 30 = .ok (.aload_n 0, 1) := by decide +kernel
theorem dX9_write_31 : decode cX9_write 31 = .ok (.getfield 10, 3) := by decide +kernel
theorem dX9_write_34 : decode cX9_write 34 = .ok (.iload_n 1, 1) := by decide +kernel
theorem dX9_write_35 : decode cX9_write 35 = .ok (.lload_n 2, 1) := by decide +kernel
theorem dX9_write_36 : decode cX9_write 36 = .ok (.invokevirtual 106, 3) := by decide +kernel
theorem dX9_write_39 : decode cX9_write 39 = .ok (.aload_n 0, 1) := by decide +kernel
theorem dX9_write_40 : decode cX9_write 40 = .ok (.getfield 10, 3) := by decide +kernel
theorem dX9_write_43 : decode cX9_write 43 = .ok (.getfield 103, 3) := by decide +kernel
theorem dX9_write_46 : decode cX9_write 46 = .ok (.ireturn, 1) := by decide +kernel
theorem dX9_clear_0 : decode cX9_clear 0 = .ok (.aload_n 0, 1) := by decide +kernel
theorem dX9_clear_1 : decode cX9_clear 1 = .ok (.getfield 10, 3) := by decide +kernel
theorem dX9_clear_4 : decode cX9_clear 4 = .ok (.getfield 103, 3) := by decide +kernel
theorem dX9_clear_7 : decode cX9_clear 7 = .ok (.istore_n 1, 1) := by decide +kernel
theorem dX9_clear_8 : decode cX9_clear 8 = .ok (.aload_n 0, 1) := by decide +kernel
theorem dX9_clear_9 : decode cX9_clear 9 = .ok (.getfield 10, 3) := by decide +kernel
theorem dX9_clear_12 : decode cX9_clear 12 = .ok (.iconst 0, 1) := by decide +kernel
theorem dX9_clear_13 : decode cX9_clear 13 = .ok (.putfield 103, 3) := by decide +kernel
theorem dX9_clear_16 : decode cX9_clear 16 = .ok (.iload_n 1, 1) := by decide +kernel
theorem dX9_clear_17 : decode cX9_clear 17 = .ok (.ireturn, 1) := by decide +kernel
theorem dX9_weather_0 : decode cX9_weather 0 = .ok (.iload_n 1, 1) := by decide +kernel
theorem dX9_weather_1 : decode cX9_weather 1 = .ok (.iconst 0, 1) := by decide +kernel
theorem dX9_weather_2 : decode cX9_weather 2 = .ok (.iconst 1, 1) := by decide +kernel
theorem dX9_weather_3 : decode cX9_weather 3 = .ok (.invokestatic 99, 3) := by decide +kernel
theorem dX9_weather_6 : decode cX9_weather 6 = .ok (.ifCond .ne 13, 3) := by decide +kernel
theorem dX9_weather_9 : decode cX9_weather 9 = .ok (.iload_n 2, 1) := by decide +kernel
theorem dX9_weather_10 : decode cX9_weather 10 = .ok (.iconst 0, 1) := by decide +kernel
theorem dX9_weather_11 : decode cX9_weather 11 = .ok (.bipush 95, 2) := by decide +kernel
theorem dX9_weather_13 : decode cX9_weather 13 = .ok (.invokestatic 99, 3) := by decide +kernel
theorem dX9_weather_16 : decode cX9_weather 16 = .ok (.ifCond .eq 5, 3) := by decide +kernel
theorem dX9_weather_19 : decode cX9_weather 19 = .ok (.iconst (-1), 1) := by decide +kernel
theorem dX9_weather_20 : decode cX9_weather 20 = .ok (.ireturn, 1) := by decide +kernel
theorem dX9_weather_21 : decode cX9_weather 21 = .ok (.iload_n 3, 1) := by decide +kernel
theorem dX9_weather_22 : decode cX9_weather 22 = .ok (.iconst 0, 1) := by decide +kernel
theorem dX9_weather_23 : decode cX9_weather 23 = .ok (.sipush 10000, 3) := by decide +kernel
theorem dX9_weather_26 : decode cX9_weather 26 = .ok (.invokestatic 99, 3) := by decide +kernel
theorem dX9_weather_29 : decode cX9_weather 29 = .ok (.ifCond .ne 15, 3) := by decide +kernel
theorem dX9_weather_32 : decode cX9_weather 32 = .ok (.iload 4, 2) := by decide +kernel
theorem dX9_weather_34 : decode cX9_weather 34 = .ok (.bipush (-30), 2) := by decide +kernel
theorem dX9_weather_36 : decode cX9_weather 36 = .ok (.bipush 40, 2) := by decide +kernel
theorem dX9_weather_38 : decode cX9_weather 38 = .ok (.invokestatic 99, 3) := by decide +kernel
theorem dX9_weather_41 : decode cX9_weather 41 = .ok (.ifCond .eq 5, 3) := by decide +kernel
theorem dX9_weather_44 : decode cX9_weather 44 = .ok (.iconst (-1), 1) := by decide +kernel
theorem dX9_weather_45 : decode cX9_weather 45 = .ok (.ireturn, 1) := by decide +kernel
theorem dX9_weather_46 : decode cX9_weather 46 = .ok (.iload_n 1, 1) := by decide +kernel
theorem dX9_weather_47 : decode cX9_weather 47 = .ok (.ifCond .ne 10, 3) := by decide +kernel
theorem dX9_weather_50 : decode cX9_weather 50 = .ok (.aload_n 0, 1) := by decide +kernel
theorem dX9_weather_51 : decode cX9_weather 51 = .ok (.getfield 39, 3) := by decide +kernel
theorem dX9_weather_54 : decode cX9_weather 54 = .ok (.goto 7, 3) := by decide +kernel
theorem dX9_weather_57 : decode cX9_weather 57 = .ok (.aload_n 0, 1) := by decide +kernel
theorem dX9_weather_58 : decode cX9_weather 58 = .ok (.getfield 43, 3) := by decide +kernel
theorem dX9_weather_61 : decode cX9_weather 61 = .ok (.astore 5, 2) := by decide +kernel
theorem dX9_weather_63 : decode cX9_weather 63 = .ok (.aload 5, 2) := by decide +kernel
theorem dX9_weather_65 : decode cX9_weather 65 = .ok (.getfield 138, 3) := by decide +kernel
theorem dX9_weather_68 : decode cX9_weather 68 = .ok (.iload_n 2, 1) := by decide +kernel
theorem dX9_weather_69 : decode cX9_weather 69 = .ok (.iload_n 3, 1) := by decide +kernel
theorem dX9_weather_70 : decode cX9_weather 70 = .ok (.iastore, 1) := by decide +kernel
theorem dX9_weather_71 : decode cX9_weather 71 = .ok (.aload 5, 2) := by decide +kernel
theorem dX9_weather_73 : decode cX9_weather 73 = .ok (.getfield 141, 3) := by decide +kernel
theorem dX9_weather_76 : decode cX9_weather 76 = .ok (.iload_n 2, 1) := by decide +kernel
theorem dX9_weather_77 : decode cX9_weather 77 = .ok (.iload 4, 2) := by decide +kernel
theorem dX9_weather_79 : decode cX9_weather 79 = .ok (.iastore, 1) := by decide +kernel
theorem dX9_weather_80 : decode cX9_weather 80 = .ok (.iconst 0, 1) := by decide +kernel
theorem dX9_weather_81 : decode cX9_weather 81 = .ok (.ireturn, 1) := by decide +kernel
theorem dX9_ends_0 : decode cX9_ends 0 = .ok (.iload_n 1, 1) := by decide +kernel
theorem dX9_ends_1 : decode cX9_ends 1 = .ok (.iconst 0, 1) := by decide +kernel
theorem dX9_ends_2 : decode cX9_ends 2 = .ok (.ldc 224, 2) := by decide +kernel
theorem dX9_ends_4 : decode cX9_ends 4 = .ok (.invokestatic 99, 3) := by decide +kernel
theorem dX9_ends_7 : decode cX9_ends 7 = .ok (.ifCond .eq 5, 3) := by decide +kernel
theorem dX9_ends_10 : decode cX9_ends 10 = .ok (.iconst (-1), 1) := by decide +kernel
theorem dX9_ends_11 : decode cX9_ends 11 = .ok (.ireturn, 1) := by decide +kernel
theorem dX9_ends_12 : decode cX9_ends 12 = .ok (.aload_n 0, 1) := by decide +kernel
theorem dX9_ends_13 : decode cX9_ends 13 = .ok (.getfield 74, 3) := by decide +kernel
theorem dX9_ends_16 : decode cX9_ends 16 = .ok (.getfield 225, 3) := by decide +kernel
theorem dX9_ends_19 : decode cX9_ends 19 = .ok (.istore_n 2, 1) := by decide +kernel
theorem dX9_ends_20 : decode cX9_ends 20 = .ok (.aload_n 0, 1) := by decide +kernel
theorem dX9_ends_21 : decode cX9_ends 21 = .ok (.getfield 74, 3) := by decide +kernel
theorem dX9_ends_24 : decode cX9_ends 24 = .ok (.iload_n 1, 1) := by decide +kernel
theorem dX9_ends_25 : decode cX9_ends 25 = .ok (.putfield 225, 3) := by decide +kernel
theorem dX9_ends_28 : decode cX9_ends 28 = .ok (.iload_n 2, 1) := by decide +kernel
theorem dX9_ends_29 : decode cX9_ends 29 = .ok (.ireturn, 1) := by decide +kernel
theorem dX9_weigh_0 : decode cX9_weigh 0 = .ok (.iload_n 1, 1) := by decide +kernel
theorem dX9_weigh_1 : decode cX9_weigh 1 = .ok (.invokestatic 256, 3) := by decide +kernel
theorem dX9_weigh_4 : decode cX9_weigh 4 = .ok (.ifCond .ne 13, 3) := by decide +kernel
theorem dX9_weigh_7 : decode cX9_weigh 7 = .ok (.iload_n 2, 1) := by decide +kernel
theorem dX9_weigh_8 : decode cX9_weigh 8 = .ok (.iconst 0, 1) := by decide +kernel
theorem dX9_weigh_9 : decode cX9_weigh 9 = .ok (.bipush 100, 2) := by decide +kernel
theorem dX9_weigh_11 : decode cX9_weigh 11 = .ok (.invokestatic 99, 3) := by decide +kernel
theorem dX9_weigh_14 : decode cX9_weigh 14 = .ok (.ifCond .eq 5, 3) := by decide +kernel
theorem dX9_weigh_17 : decode cX9_weigh 17 = .ok (.iconst (-1), 1) := by decide +kernel
theorem dX9_weigh_18 : decode cX9_weigh 18 = .ok (.ireturn, 1) := by decide +kernel
theorem dX9_weigh_19 : decode cX9_weigh 19 = .ok (.aload_n 0, 1) := by decide +kernel
theorem dX9_weigh_20 : decode cX9_weigh 20 = .ok (.getfield 88, 3) := by decide +kernel
theorem dX9_weigh_23 : decode cX9_weigh 23 = .ok (.getfield 259, 3) := by decide +kernel
theorem dX9_weigh_26 : decode cX9_weigh 26 = .ok (.iload_n 1, 1) := by decide +kernel
theorem dX9_weigh_27 : decode cX9_weigh 27 = .ok (.iaload, 1) := by decide +kernel
theorem dX9_weigh_28 : decode cX9_weigh 28 = .ok (.istore_n 3, 1) := by decide +kernel
theorem dX9_weigh_29 : decode cX9_weigh 29 = .ok (.aload_n 0, 1) := by decide +kernel
theorem dX9_weigh_30 : decode cX9_weigh 30 = .ok (.getfield 88, 3) := by decide +kernel
theorem dX9_weigh_33 : decode cX9_weigh 33 = .ok (.getfield 259, 3) := by decide +kernel
theorem dX9_weigh_36 : decode cX9_weigh 36 = .ok (.iload_n 1, 1) := by decide +kernel
theorem dX9_weigh_37 : decode cX9_weigh 37 = .ok (.iload_n 2, 1) := by decide +kernel
theorem dX9_weigh_38 : decode cX9_weigh 38 = .ok (.iastore, 1) := by decide +kernel
theorem dX9_weigh_39 : decode cX9_weigh 39 = .ok (.iload_n 3, 1) := by decide +kernel
theorem dX9_weigh_40 : decode cX9_weigh 40 = .ok (.ireturn, 1) := by decide +kernel
theorem dX9_rain_0 : decode cX9_rain 0 = .ok (.iload_n 1, 1) := by decide +kernel
theorem dX9_rain_1 : decode cX9_rain 1 = .ok (.invokestatic 256, 3) := by decide +kernel
theorem dX9_rain_4 : decode cX9_rain 4 = .ok (.ifCond .ne 24, 3) := by decide +kernel
theorem dX9_rain_7 : decode cX9_rain 7 = .ok (.iload_n 2, 1) := by decide +kernel
theorem dX9_rain_8 : decode cX9_rain 8 = .ok (.iconst 0, 1) := by decide +kernel
theorem dX9_rain_9 : decode cX9_rain 9 = .ok (.bipush 23, 2) := by decide +kernel
theorem dX9_rain_11 : decode cX9_rain 11 = .ok (.invokestatic 99, 3) := by decide +kernel
theorem dX9_rain_14 : decode cX9_rain 14 = .ok (.ifCond .ne 14, 3) := by decide +kernel
theorem dX9_rain_17 : decode cX9_rain 17 = .ok (.iload_n 3, 1) := by decide +kernel
theorem dX9_rain_18 : decode cX9_rain 18 = .ok (.iconst 0, 1) := by decide +kernel
theorem dX9_rain_19 : decode cX9_rain 19 = .ok (.sipush 10000, 3) := by decide +kernel
theorem dX9_rain_22 : decode cX9_rain 22 = .ok (.invokestatic 99, 3) := by decide +kernel
theorem dX9_rain_25 : decode cX9_rain 25 = .ok (.ifCond .eq 5, 3) := by decide +kernel
theorem dX9_rain_28 : decode cX9_rain 28 = .ok (.iconst (-1), 1) := by decide +kernel
theorem dX9_rain_29 : decode cX9_rain 29 = .ok (.ireturn, 1) := by decide +kernel
theorem dX9_rain_30 : decode cX9_rain 30 = .ok (.aload_n 0, 1) := by decide +kernel
theorem dX9_rain_31 : decode cX9_rain 31 = .ok (.getfield 88, 3) := by decide +kernel
theorem dX9_rain_34 : decode cX9_rain 34 = .ok (.iload_n 1, 1) := by decide +kernel
theorem dX9_rain_35 : decode cX9_rain 35 = .ok (.iload_n 2, 1) := by decide +kernel
theorem dX9_rain_36 : decode cX9_rain 36 = .ok (.iload_n 3, 1) := by decide +kernel
theorem dX9_rain_37 : decode cX9_rain 37 = .ok (.invokevirtual 262, 3) := by decide +kernel
theorem dX9_rain_40 : decode cX9_rain 40 = .ok (.ireturn, 1) := by decide +kernel
def uX9_weather : List Cond := .code yX9_weather cX9_weather 6 (some .int) :: ([.methodLink RX9 99 yX9_isOutside, .static yX9_isOutside, .initialized RX9, .fieldLink RX9 43 "RiverModel" "skyB" "LRiverModel$Sky;", .fieldLink RX9 138 "RiverModel$Sky" "rains" "[I", .fieldLink RX9 141 "RiverModel$Sky" "temps" "[I", .fieldLink RX9 39 "RiverModel" "skyA" "LRiverModel$Sky;", .code yX9_isOutside cX9_isOutside 3 (some .boolean)] ++ wsX90 ++ wsX60)
set_option maxRecDepth 20000 in
theorem gu_X9_weather_X9_isOutside_99 : GoodIn uX9_weather (va_wsS RX9 99 yX9_isOutside uX9_isOutside) := goodIn_r _ [1, 2, 3, 8] rfl (by decide +kernel)
set_option maxHeartbeats 4000000 in
set_option maxRecDepth 100000 in
theorem s_X9_weather (l : Launch) (D : va_G) (t : Nat → Nat) (cI cL cC : ClassId) (gC : Int32) (gE : Int32) (G : Nat) (gW : Nat → Int32) (gA : Nat → Int32) (a0 : Nat) (a1 : Int32) (a2 : Int32) (a3 : Int32) (a4 : Int32) (k_a0 : t a0 = 1) : tM l yX9_weather uX9_weather 1 22 D (gF cI cL cC gC gE G gW gA) (gF cI cL cC gC gE G gW gA) t cI cL cC [.ref a0, .int a1, .int a2, .int a3, .int a4] wrAll (pI (fun r => r = aww a1 a2 a3 a4)) := by
  refine tM.ofW (cc := cX9_weather) (maxL := 6) (ret := (some .int)) (by decide) rfl (Nat.le_of_ble_eq_true rfl) ?_
  intro p e s m below meth c hx hb hr hml hown hts hlk H locs hG hK hE hS ls hl
  have hl : lv_has ls 6 [(0, .ref a0), (1, .int a1), (2, .int a2), (3, .int a3), (4, .int a4)] := hl
  have in9 : ∀ w ∈ wsX90, w ∈ uX9_weather := fun w h => List.mem_cons_of_mem _ (List.mem_append_left _ (List.mem_append_right _ h))
  have in6 : ∀ w ∈ wsX60, w ∈ uX9_weather := fun w h => List.mem_cons_of_mem _ (List.mem_append_right _ h)
  refine lv_iload_n hx hb dX9_weather_0 rfl (lv_at hl 1 rfl) ?_
  refine lv_iconst (v := 0) hx hb dX9_weather_1 (by decide) ?_
  refine lv_iconst (v := 1) hx hb dX9_weather_2 (by decide) ?_
  refine ty_calli ((W.runS (As := [.int a1, .int 0, .int 1]) (rest := []) ⟨hx, hb, hml, hown, hts⟩ (s_X9_isOutside l D t cI cL cC gC gE G gW gA a1 0 1 0 1 (by decide) (by decide) ) (va_cwS 3 hts gu_X9_weather_X9_isOutside_99 rfl rfl rfl (by decide +kernel) ⟨Nat.le_of_ble_eq_true rfl, Nat.le_of_ble_eq_true rfl⟩) (tP_S hG hE) rfl rfl hl.1 rfl (lv_room (Nat.le_of_ble_eq_true rfl)) dX9_weather_3 ⟨Nat.le_of_ble_eq_true rfl, Nat.le_of_ble_eq_true rfl⟩)) hS (fun k h => by simp [wr0] at h) (fun r_1 H locs hp_2 hG hS o_3 => ?_)
  rcases hp_2 with ⟨rfl, hc_271⟩ | ⟨rfl, hc_272, hc_273⟩
  · skip
    refine lv_if_ne (tgt := 19) hx hb dX9_weather_6 (by decide) (fun _ => ?_) (fun q => absurd q (by decide))
    refine lv_iconst (v := (-1)) hx hb dX9_weather_19 (by decide) ?_
    exact ty_iret hx hb hr hlk hG hS (by simp only [aww]; first | (rw [if_pos (by omega)]; done) | (rw [if_neg (by omega)]; done) | (rw [if_neg (by omega), if_pos (by omega)]; done) | (rw [if_neg (by omega), if_neg (by omega)]; done)) dX9_weather_20
  · skip
    refine lv_pc (pc2 := 6) rfl ?_
    refine lv_if_ne (tgt := 19) hx hb dX9_weather_6 (by decide) (fun q => absurd rfl q) (fun _ => ?_)
    refine lv_iload_n hx hb dX9_weather_9 rfl (lv_at hl 2 rfl) ?_
    refine lv_iconst (v := 0) hx hb dX9_weather_10 (by decide) ?_
    refine lv_bipush (v := 95) hx hb dX9_weather_11 (by decide) ?_
    refine ty_calli ((W.runS (As := [.int a2, .int 0, .int 95]) (rest := []) ⟨hx, hb, hml, hown, hts⟩ (s_X9_isOutside l D t cI cL cC gC gE G gW gA a2 0 95 0 95 (by decide) (by decide) ) (va_cwS 3 hts gu_X9_weather_X9_isOutside_99 rfl rfl rfl (by decide +kernel) ⟨Nat.le_of_ble_eq_true rfl, Nat.le_of_ble_eq_true rfl⟩) (tP_S hG hE) rfl rfl hl.1 rfl (lv_room (Nat.le_of_ble_eq_true rfl)) dX9_weather_13 ⟨Nat.le_of_ble_eq_true rfl, Nat.le_of_ble_eq_true rfl⟩)) hS (fun k h => by simp [wr0] at h) (fun r_4 H locs hp_5 hG hS o_6 => ?_)
    rcases hp_5 with ⟨rfl, hc_274⟩ | ⟨rfl, hc_275, hc_276⟩
    · skip
      refine lv_if_eq (tgt := 21) hx hb dX9_weather_16 (by decide) (fun q => absurd q (by decide)) (fun _ => ?_)
      refine lv_iconst (v := (-1)) hx hb dX9_weather_19 (by decide) ?_
      exact ty_iret hx hb hr hlk hG hS (by simp only [aww]; first | (rw [if_pos (by omega)]; done) | (rw [if_neg (by omega)]; done) | (rw [if_neg (by omega), if_pos (by omega)]; done) | (rw [if_neg (by omega), if_neg (by omega)]; done)) dX9_weather_20
    · skip
      refine lv_pc (pc2 := 16) rfl ?_
      refine lv_if_eq (tgt := 21) hx hb dX9_weather_16 (by decide) (fun _ => ?_) (fun q => absurd (by decide) q)
      refine lv_iload_n hx hb dX9_weather_21 rfl (lv_at hl 3 rfl) ?_
      refine lv_iconst (v := 0) hx hb dX9_weather_22 (by decide) ?_
      refine lv_sipush (v := 10000) hx hb dX9_weather_23 (by decide) ?_
      refine ty_calli ((W.runS (As := [.int a3, .int 0, .int 10000]) (rest := []) ⟨hx, hb, hml, hown, hts⟩ (s_X9_isOutside l D t cI cL cC gC gE G gW gA a3 0 10000 0 10000 (by decide) (by decide) ) (va_cwS 3 hts gu_X9_weather_X9_isOutside_99 rfl rfl rfl (by decide +kernel) ⟨Nat.le_of_ble_eq_true rfl, Nat.le_of_ble_eq_true rfl⟩) (tP_S hG hE) rfl rfl hl.1 rfl (lv_room (Nat.le_of_ble_eq_true rfl)) dX9_weather_26 ⟨Nat.le_of_ble_eq_true rfl, Nat.le_of_ble_eq_true rfl⟩)) hS (fun k h => by simp [wr0] at h) (fun r_7 H locs hp_8 hG hS o_9 => ?_)
      rcases hp_8 with ⟨rfl, hc_277⟩ | ⟨rfl, hc_278, hc_279⟩
      · skip
        refine lv_if_ne (tgt := 44) hx hb dX9_weather_29 (by decide) (fun _ => ?_) (fun q => absurd q (by decide))
        refine lv_iconst (v := (-1)) hx hb dX9_weather_44 (by decide) ?_
        exact ty_iret hx hb hr hlk hG hS (by simp only [aww]; first | (rw [if_pos (by omega)]; done) | (rw [if_neg (by omega)]; done) | (rw [if_neg (by omega), if_pos (by omega)]; done) | (rw [if_neg (by omega), if_neg (by omega)]; done)) dX9_weather_45
      · skip
        refine lv_pc (pc2 := 29) rfl ?_
        refine lv_if_ne (tgt := 44) hx hb dX9_weather_29 (by decide) (fun q => absurd rfl q) (fun _ => ?_)
        refine lv_iload hx hb dX9_weather_32 (lv_at hl 4 rfl) ?_
        refine lv_bipush (v := (-30)) hx hb dX9_weather_34 (by decide) ?_
        refine lv_bipush (v := 40) hx hb dX9_weather_36 (by decide) ?_
        refine ty_calli ((W.runS (As := [.int a4, .int (-30), .int 40]) (rest := []) ⟨hx, hb, hml, hown, hts⟩ (s_X9_isOutside l D t cI cL cC gC gE G gW gA a4 (-30) 40 (-30) 40 (by decide) (by decide) ) (va_cwS 3 hts gu_X9_weather_X9_isOutside_99 rfl rfl rfl (by decide +kernel) ⟨Nat.le_of_ble_eq_true rfl, Nat.le_of_ble_eq_true rfl⟩) (tP_S hG hE) rfl rfl hl.1 rfl (lv_room (Nat.le_of_ble_eq_true rfl)) dX9_weather_38 ⟨Nat.le_of_ble_eq_true rfl, Nat.le_of_ble_eq_true rfl⟩)) hS (fun k h => by simp [wr0] at h) (fun r_10 H locs hp_11 hG hS o_12 => ?_)
        rcases hp_11 with ⟨rfl, hc_280⟩ | ⟨rfl, hc_281, hc_282⟩
        · skip
          refine lv_if_eq (tgt := 46) hx hb dX9_weather_41 (by decide) (fun q => absurd q (by decide)) (fun _ => ?_)
          refine lv_iconst (v := (-1)) hx hb dX9_weather_44 (by decide) ?_
          exact ty_iret hx hb hr hlk hG hS (by simp only [aww]; first | (rw [if_pos (by omega)]; done) | (rw [if_neg (by omega)]; done) | (rw [if_neg (by omega), if_pos (by omega)]; done) | (rw [if_neg (by omega), if_neg (by omega)]; done)) dX9_weather_45
        · skip
          refine lv_pc (pc2 := 41) rfl ?_
          refine lv_if_eq (tgt := 46) hx hb dX9_weather_41 (by decide) (fun _ => ?_) (fun q => absurd (by decide) q)
          refine lv_iload_n hx hb dX9_weather_46 rfl (lv_at hl 1 rfl) ?_
          refine lv_if_ne (tgt := 57) hx hb dX9_weather_47 (by decide) (fun c_13 => ?_) (fun c_13 => ?_)
          · skip
            have c_13 : a1.toInt ≠ 0 := q_ne c_13
            refine lv_aload_n hx hb dX9_weather_57 rfl (lv_at hl 0 rfl) ?_
            obtain ⟨r_14, r_16, r_18, r_20, v_22, v_23, r_24, r_26, r_28, r_30, r_32, r_34, r_36, v_38, r_40, r_42, r_44, r_46, at_48, h_15, h_17, h_19, h_21, h_25, h_27, h_29, h_31, h_33, h_35, h_37, h_39, h_41, h_43, h_45, h_47⟩ := gF_o1 hG k_a0
            refine va_get (D := D) (ci := 8) (v := .ref r_26) (C := RX9) (T := TX9) (N := 18) hx hb hts in9 hown hK (va_one at_48) 0 rfl rfl 7 (by decide) (hts (.fieldLink RX9 43 "RiverModel" "skyB" "LRiverModel$Sky;") (List.mem_of_getElem? (i := 4) rfl)) (fun _ h9 => h9) rfl dX9_weather_58 ?_
            refine lv_astore (lv' := [(5, .ref r_26), (0, .ref a0), (1, .int a1), (2, .int a2), (3, .int a3), (4, .int a4)]) hx hb dX9_weather_61 hl (by decide) rfl (fun ls hl => ?_)
            refine lv_aload hx hb dX9_weather_63 (lv_at hl 0 rfl) ?_
            obtain ⟨r_49, r_51, at_53, h_50, h_52⟩ := gF_o4 hG h_27
            refine va_get (D := D) (ci := 5) (v := .ref r_49) (C := RX6) (T := TX6) (N := 2) hx hb hts in6 hown hK (va_one at_53) 0 rfl rfl 0 (by decide) (hts (.fieldLink RX9 138 "RiverModel$Sky" "rains" "[I") (List.mem_of_getElem? (i := 5) rfl)) (fun _ h9 => h9) rfl dX9_weather_65 ?_
            refine lv_pc (pc2 := 68) rfl ?_
            refine lv_iload_n hx hb dX9_weather_68 rfl (lv_at hl 3 rfl) ?_
            refine lv_iload_n hx hb dX9_weather_69 rfl (lv_at hl 4 rfl) ?_
            obtain ⟨f_54, at_55⟩ := gF_o15 hG h_50
            have b_56 : vp_in a2 96 := (q_in (by omega) (by omega))
            refine ty_iast (F2 := (gF cI cL cC gC gE G gW gA)) hx hb hK hG hS 0 at_55 (by rw [h_50]; rfl) rfl b_56 (by rw [h_50]; exact ⟨_, rfl⟩) tFF dX9_weather_70 (fun H locs hG hS at_57 o_58 => ?_)
            have at_48 := va_at.keptK at_48 o_58 h_50 k_a0 rfl
            have at_53 := va_at.keptK at_53 o_58 h_50 h_27 rfl
            refine lv_aload hx hb dX9_weather_71 (lv_at hl 0 rfl) ?_
            refine va_get (D := D) (ci := 5) (v := .ref r_51) (C := RX6) (T := TX6) (N := 2) hx hb hts in6 hown hK (va_one at_53) 0 rfl rfl 1 (by decide) (hts (.fieldLink RX9 141 "RiverModel$Sky" "temps" "[I") (List.mem_of_getElem? (i := 6) rfl)) (fun _ h9 => h9) rfl dX9_weather_73 ?_
            refine lv_iload_n hx hb dX9_weather_76 rfl (lv_at hl 3 rfl) ?_
            refine lv_iload hx hb dX9_weather_77 (lv_at hl 5 rfl) ?_
            obtain ⟨f_59, at_60⟩ := gF_o16 hG h_52
            have b_61 : vp_in a2 96 := (q_in (by omega) (by omega))
            refine ty_iast (F2 := (gF cI cL cC gC gE G gW gA)) hx hb hK hG hS 0 at_60 (by rw [h_52]; rfl) rfl b_61 (by rw [h_52]; exact ⟨_, rfl⟩) tFF dX9_weather_79 (fun H locs hG hS at_62 o_63 => ?_)
            have at_48 := va_at.keptK at_48 o_63 h_52 k_a0 rfl
            have at_53 := va_at.keptK at_53 o_63 h_52 h_27 rfl
            refine lv_pc (pc2 := 80) rfl ?_
            refine lv_iconst (v := 0) hx hb dX9_weather_80 (by decide) ?_
            exact ty_iret hx hb hr hlk hG hS (by simp only [aww]; first | (rw [if_pos (by omega)]; done) | (rw [if_neg (by omega)]; done) | (rw [if_neg (by omega), if_pos (by omega)]; done) | (rw [if_neg (by omega), if_neg (by omega)]; done)) dX9_weather_81
          · skip
            have c_13 : a1.toInt = 0 := q_eq c_13
            refine lv_aload_n hx hb dX9_weather_50 rfl (lv_at hl 0 rfl) ?_
            obtain ⟨r_64, r_66, r_68, r_70, v_72, v_73, r_74, r_76, r_78, r_80, r_82, r_84, r_86, v_88, r_90, r_92, r_94, r_96, at_98, h_65, h_67, h_69, h_71, h_75, h_77, h_79, h_81, h_83, h_85, h_87, h_89, h_91, h_93, h_95, h_97⟩ := gF_o1 hG k_a0
            refine va_get (D := D) (ci := 8) (v := .ref r_74) (C := RX9) (T := TX9) (N := 18) hx hb hts in9 hown hK (va_one at_98) 0 rfl rfl 6 (by decide) (hts (.fieldLink RX9 39 "RiverModel" "skyA" "LRiverModel$Sky;") (List.mem_of_getElem? (i := 7) rfl)) (fun _ h9 => h9) rfl dX9_weather_51 ?_
            refine lv_goto (tgt := 61) hx hb dX9_weather_54 (by decide) ?_
            refine lv_astore (lv' := [(5, .ref r_74), (0, .ref a0), (1, .int a1), (2, .int a2), (3, .int a3), (4, .int a4)]) hx hb dX9_weather_61 hl (by decide) rfl (fun ls hl => ?_)
            refine lv_aload hx hb dX9_weather_63 (lv_at hl 0 rfl) ?_
            obtain ⟨r_99, r_101, at_103, h_100, h_102⟩ := gF_o4 hG h_75
            refine va_get (D := D) (ci := 5) (v := .ref r_99) (C := RX6) (T := TX6) (N := 2) hx hb hts in6 hown hK (va_one at_103) 0 rfl rfl 0 (by decide) (hts (.fieldLink RX9 138 "RiverModel$Sky" "rains" "[I") (List.mem_of_getElem? (i := 5) rfl)) (fun _ h9 => h9) rfl dX9_weather_65 ?_
            refine lv_pc (pc2 := 68) rfl ?_
            refine lv_iload_n hx hb dX9_weather_68 rfl (lv_at hl 3 rfl) ?_
            refine lv_iload_n hx hb dX9_weather_69 rfl (lv_at hl 4 rfl) ?_
            obtain ⟨f_104, at_105⟩ := gF_o15 hG h_100
            have b_106 : vp_in a2 96 := (q_in (by omega) (by omega))
            refine ty_iast (F2 := (gF cI cL cC gC gE G gW gA)) hx hb hK hG hS 0 at_105 (by rw [h_100]; rfl) rfl b_106 (by rw [h_100]; exact ⟨_, rfl⟩) tFF dX9_weather_70 (fun H locs hG hS at_107 o_108 => ?_)
            have at_98 := va_at.keptK at_98 o_108 h_100 k_a0 rfl
            have at_103 := va_at.keptK at_103 o_108 h_100 h_75 rfl
            refine lv_aload hx hb dX9_weather_71 (lv_at hl 0 rfl) ?_
            refine va_get (D := D) (ci := 5) (v := .ref r_101) (C := RX6) (T := TX6) (N := 2) hx hb hts in6 hown hK (va_one at_103) 0 rfl rfl 1 (by decide) (hts (.fieldLink RX9 141 "RiverModel$Sky" "temps" "[I") (List.mem_of_getElem? (i := 6) rfl)) (fun _ h9 => h9) rfl dX9_weather_73 ?_
            refine lv_iload_n hx hb dX9_weather_76 rfl (lv_at hl 3 rfl) ?_
            refine lv_iload hx hb dX9_weather_77 (lv_at hl 5 rfl) ?_
            obtain ⟨f_109, at_110⟩ := gF_o16 hG h_102
            have b_111 : vp_in a2 96 := (q_in (by omega) (by omega))
            refine ty_iast (F2 := (gF cI cL cC gC gE G gW gA)) hx hb hK hG hS 0 at_110 (by rw [h_102]; rfl) rfl b_111 (by rw [h_102]; exact ⟨_, rfl⟩) tFF dX9_weather_79 (fun H locs hG hS at_112 o_113 => ?_)
            have at_98 := va_at.keptK at_98 o_113 h_102 k_a0 rfl
            have at_103 := va_at.keptK at_103 o_113 h_102 h_75 rfl
            refine lv_pc (pc2 := 80) rfl ?_
            refine lv_iconst (v := 0) hx hb dX9_weather_80 (by decide) ?_
            exact ty_iret hx hb hr hlk hG hS (by simp only [aww]; first | (rw [if_pos (by omega)]; done) | (rw [if_neg (by omega)]; done) | (rw [if_neg (by omega), if_pos (by omega)]; done) | (rw [if_neg (by omega), if_neg (by omega)]; done)) dX9_weather_81

def uX9_ends : List Cond := .code yX9_ends cX9_ends 3 (some .int) :: ([.constant RX9 224 (100000), .methodLink RX9 99 yX9_isOutside, .static yX9_isOutside, .initialized RX9, .fieldLink RX9 74 "RiverModel" "gauges" "LRiverModel$Gauges;", .fieldLink RX9 225 "RiverModel$Gauges" "mayBeOff" "I", .code yX9_isOutside cX9_isOutside 3 (some .boolean)] ++ wsX90 ++ wsX10)
set_option maxRecDepth 20000 in
theorem gu_X9_ends_X9_isOutside_99 : GoodIn uX9_ends (va_wsS RX9 99 yX9_isOutside uX9_isOutside) := goodIn_r _ [2, 3, 4, 7] rfl (by decide +kernel)
set_option maxHeartbeats 4000000 in
set_option maxRecDepth 100000 in
theorem s_X9_ends (l : Launch) (D : va_G) (t : Nat → Nat) (cI cL cC : ClassId) (gC : Int32) (gE : Int32) (G : Nat) (gW : Nat → Int32) (gA : Nat → Int32) (a0 : Nat) (a1 : Int32) (uq_gE : ∀ b c : Nat, t b = 6 → t c = 6 → b = c) (k_a0 : t a0 = 1) : tM l yX9_ends uX9_ends 1 22 D (gF cI cL cC gC gE G gW gA) (gF cI cL cC gC (nen gE a1) G gW gA) t cI cL cC [.ref a0, .int a1] wrAll (pI (fun r => r = aen gE a1)) := by
  refine tM.ofW (cc := cX9_ends) (maxL := 3) (ret := (some .int)) (by decide) rfl (Nat.le_of_ble_eq_true rfl) ?_
  intro p e s m below meth c hx hb hr hml hown hts hlk H locs hG hK hE hS ls hl
  have hl : lv_has ls 3 [(0, .ref a0), (1, .int a1)] := hl
  have in9 : ∀ w ∈ wsX90, w ∈ uX9_ends := fun w h => List.mem_cons_of_mem _ (List.mem_append_left _ (List.mem_append_right _ h))
  have in1 : ∀ w ∈ wsX10, w ∈ uX9_ends := fun w h => List.mem_cons_of_mem _ (List.mem_append_right _ h)
  refine lv_iload_n hx hb dX9_ends_0 rfl (lv_at hl 1 rfl) ?_
  refine lv_iconst (v := 0) hx hb dX9_ends_1 (by decide) ?_
  refine lv_ldc hx hb hown (hts (.constant RX9 224 (100000)) (List.mem_of_getElem? (i := 1) rfl)) dX9_ends_2 ?_
  refine ty_calli ((W.runS (As := [.int a1, .int 0, .int 100000]) (rest := []) ⟨hx, hb, hml, hown, hts⟩ (s_X9_isOutside l D t cI cL cC gC gE G gW gA a1 0 100000 0 100000 (by decide) (by decide) ) (va_cwS 3 hts gu_X9_ends_X9_isOutside_99 rfl rfl rfl (by decide +kernel) ⟨Nat.le_of_ble_eq_true rfl, Nat.le_of_ble_eq_true rfl⟩) (tP_S hG hE) rfl rfl hl.1 rfl (lv_room (Nat.le_of_ble_eq_true rfl)) dX9_ends_4 ⟨Nat.le_of_ble_eq_true rfl, Nat.le_of_ble_eq_true rfl⟩)) hS (fun k h => by simp [wr0] at h) (fun r_1 H locs hp_2 hG hS o_3 => ?_)
  rcases hp_2 with ⟨rfl, hc_283⟩ | ⟨rfl, hc_284, hc_285⟩
  · skip
    refine lv_if_eq (tgt := 12) hx hb dX9_ends_7 (by decide) (fun q => absurd q (by decide)) (fun _ => ?_)
    refine lv_iconst (v := (-1)) hx hb dX9_ends_10 (by decide) ?_
    exact ty_iret hx hb hr hlk (by rw [show nen gE a1 = gE from (by simp only [nen]; first | (rw [if_pos (by omega)]; done) | (rw [if_neg (by omega)]; done) | (rw [if_neg (by omega), if_pos (by omega)]; done) | (rw [if_neg (by omega), if_neg (by omega)]; done))]; exact hG) hS (by simp only [aen]; first | (rw [if_pos (by omega)]; done) | (rw [if_neg (by omega)]; done) | (rw [if_neg (by omega), if_pos (by omega)]; done) | (rw [if_neg (by omega), if_neg (by omega)]; done)) dX9_ends_11
  · skip
    refine lv_pc (pc2 := 7) rfl ?_
    refine lv_if_eq (tgt := 12) hx hb dX9_ends_7 (by decide) (fun _ => ?_) (fun q => absurd (by decide) q)
    refine lv_aload_n hx hb dX9_ends_12 rfl (lv_at hl 0 rfl) ?_
    obtain ⟨r_4, r_6, r_8, r_10, v_12, v_13, r_14, r_16, r_18, r_20, r_22, r_24, r_26, v_28, r_30, r_32, r_34, r_36, at_38, h_5, h_7, h_9, h_11, h_15, h_17, h_19, h_21, h_23, h_25, h_27, h_29, h_31, h_33, h_35, h_37⟩ := gF_o1 hG k_a0
    refine va_get (D := D) (ci := 8) (v := .ref r_30) (C := RX9) (T := TX9) (N := 18) hx hb hts in9 hown hK (va_one at_38) 0 rfl rfl 14 (by decide) (hts (.fieldLink RX9 74 "RiverModel" "gauges" "LRiverModel$Gauges;") (List.mem_of_getElem? (i := 5) rfl)) (fun _ h9 => h9) rfl dX9_ends_13 ?_
    obtain ⟨r_39, r_41, r_43, at_45, h_40, h_42, h_44⟩ := gF_o6 hG h_31
    refine va_get (D := D) (ci := 1) (v := .int gE) (C := RX1) (T := TX1) (N := 4) hx hb hts in1 hown hK (va_one at_45) 0 rfl rfl 3 (by decide) (hts (.fieldLink RX9 225 "RiverModel$Gauges" "mayBeOff" "I") (List.mem_of_getElem? (i := 6) rfl)) (fun _ h9 => h9) rfl dX9_ends_16 ?_
    refine lv_istore_n (lv' := [(2, .int gE), (0, .ref a0), (1, .int a1)]) hx hb dX9_ends_19 rfl hl (by decide) rfl (fun ls hl => ?_)
    refine lv_aload_n hx hb dX9_ends_20 rfl (lv_at hl 1 rfl) ?_
    refine va_get (D := D) (ci := 8) (v := .ref r_30) (C := RX9) (T := TX9) (N := 18) hx hb hts in9 hown hK (va_one at_38) 0 rfl rfl 14 (by decide) (hts (.fieldLink RX9 74 "RiverModel" "gauges" "LRiverModel$Gauges;") (List.mem_of_getElem? (i := 5) rfl)) (fun _ h9 => h9) rfl dX9_ends_21 ?_
    refine lv_iload_n hx hb dX9_ends_24 rfl (lv_at hl 2 rfl) ?_
    refine lv_pc (pc2 := 25) rfl ?_
    refine ty_put (D := D) (ci := 1) (v := .int a1) (ty := .int) (C := RX1) (T := TX1) (N := 4) (F2 := (gF cI cL cC gC a1 G gW gA)) hx hb hts in1 tyX1 tyX1_ok nmX1 hown hK hG hS at_45 (by rw [h_31]; rfl) rfl 3 (by decide) (hts (.fieldLink RX9 225 "RiverModel$Gauges" "mayBeOff" "I") (List.mem_of_getElem? (i := 6) rfl)) (fun _ h9 => h9) rfl (by decide +kernel) rfl rfl (Nat.le_of_ble_eq_true rfl) (by rw [h_31]; exact ⟨r_39, r_41, r_43, rfl, h_40, h_42, h_44⟩) (fun hG b hb h0 => by obtain ⟨e, g1, g2⟩ := hG b h0; exact ⟨e, g1, gF_gE (fun h => hb (uq_gE b r_30 h h_31)) g2⟩) dX9_ends_25 (fun H locs hG hS at_46 o_47 => ?_)
    have at_46 : va_at D vwCl (r_30, .inr (1, [.ref r_39, .ref r_41, .ref r_43, .int a1])) H := at_46
    have at_38 := va_at.keptK at_38 o_47 h_31 k_a0 rfl
    refine lv_iload_n hx hb dX9_ends_28 rfl (lv_at hl 0 rfl) ?_
    exact ty_iret hx hb hr hlk (by rw [show nen gE a1 = a1 from (by simp only [nen]; first | (rw [if_pos (by omega)]; done) | (rw [if_neg (by omega)]; done) | (rw [if_neg (by omega), if_pos (by omega)]; done) | (rw [if_neg (by omega), if_neg (by omega)]; done))]; exact hG) hS (by simp only [aen]; first | (rw [if_pos (by omega)]; done) | (rw [if_neg (by omega)]; done) | (rw [if_neg (by omega), if_pos (by omega)]; done) | (rw [if_neg (by omega), if_neg (by omega)]; done)) dX9_ends_29

def uX9_weigh : List Cond := .code yX9_weigh cX9_weigh 4 (some .int) :: ([.methodLink RX9 256 yX9_isNoWorld, .static yX9_isNoWorld, .initialized RX9, .methodLink RX9 99 yX9_isOutside, .static yX9_isOutside, .fieldLink RX9 88 "RiverModel" "worlds" "LRiverModel$Worlds;", .fieldLink RX9 259 "RiverModel$Worlds" "weights" "[I", .code yX9_isNoWorld cX9_isNoWorld 1 (some .boolean), .code yX9_isOutside cX9_isOutside 3 (some .boolean)] ++ wsX90 ++ wsX80)
set_option maxRecDepth 20000 in
theorem gu_X9_weigh_X9_isNoWorld_256 : GoodIn uX9_weigh (va_wsS RX9 256 yX9_isNoWorld uX9_isNoWorld) := goodIn_r _ [1, 2, 3, 8] rfl (by decide +kernel)
set_option maxRecDepth 20000 in
theorem gu_X9_weigh_X9_isOutside_99 : GoodIn uX9_weigh (va_wsS RX9 99 yX9_isOutside uX9_isOutside) := goodIn_r _ [4, 5, 3, 9] rfl (by decide +kernel)
set_option maxHeartbeats 4000000 in
set_option maxRecDepth 100000 in
theorem s_X9_weigh (l : Launch) (D : va_G) (t : Nat → Nat) (cI cL cC : ClassId) (gC : Int32) (gE : Int32) (G : Nat) (gW : Nat → Int32) (gA : Nat → Int32) (a0 : Nat) (a1 : Int32) (a2 : Int32) (uq_gW : ∀ b c : Nat, t b = 29 → t c = 29 → b = c) (k_a0 : t a0 = 1) : tM l yX9_weigh uX9_weigh 1 22 D (gF cI cL cC gC gE G gW gA) (gF cI cL cC gC gE G (nwe gW a1 a2) gA) t cI cL cC [.ref a0, .int a1, .int a2] wrAll (pI (fun r => r = awe gW a1 a2)) := by
  refine tM.ofW (cc := cX9_weigh) (maxL := 4) (ret := (some .int)) (by decide) rfl (Nat.le_of_ble_eq_true rfl) ?_
  intro p e s m below meth c hx hb hr hml hown hts hlk H locs hG hK hE hS ls hl
  have hl : lv_has ls 4 [(0, .ref a0), (1, .int a1), (2, .int a2)] := hl
  have in9 : ∀ w ∈ wsX90, w ∈ uX9_weigh := fun w h => List.mem_cons_of_mem _ (List.mem_append_left _ (List.mem_append_right _ h))
  have in8 : ∀ w ∈ wsX80, w ∈ uX9_weigh := fun w h => List.mem_cons_of_mem _ (List.mem_append_right _ h)
  refine lv_iload_n hx hb dX9_weigh_0 rfl (lv_at hl 1 rfl) ?_
  refine ty_calli ((W.runS (As := [.int a1]) (rest := []) ⟨hx, hb, hml, hown, hts⟩ (s_X9_isNoWorld l D t cI cL cC gC gE G gW gA a1 ) (va_cwS 1 hts gu_X9_weigh_X9_isNoWorld_256 rfl rfl rfl (by decide +kernel) ⟨Nat.le_of_ble_eq_true rfl, Nat.le_of_ble_eq_true rfl⟩) (tP_S hG hE) rfl rfl hl.1 rfl (lv_room (Nat.le_of_ble_eq_true rfl)) dX9_weigh_1 ⟨Nat.le_of_ble_eq_true rfl, Nat.le_of_ble_eq_true rfl⟩)) hS (fun k h => by simp [wr0] at h) (fun r_1 H locs hp_2 hG hS o_3 => ?_)
  rcases hp_2 with ⟨rfl, hc_286⟩ | ⟨rfl, hc_287, hc_288⟩
  · skip
    refine lv_if_ne (tgt := 17) hx hb dX9_weigh_4 (by decide) (fun _ => ?_) (fun q => absurd q (by decide))
    refine lv_iconst (v := (-1)) hx hb dX9_weigh_17 (by decide) ?_
    exact ty_iret hx hb hr hlk (by rw [show nwe gW a1 a2 = gW from (by simp only [nwe]; first | (rw [if_pos (by omega)]; done) | (rw [if_neg (by omega)]; done) | (rw [if_neg (by omega), if_pos (by omega)]; done) | (rw [if_neg (by omega), if_neg (by omega)]; done))]; exact hG) hS (by simp only [awe]; first | (rw [if_pos (by omega)]; done) | (rw [if_neg (by omega)]; done)) dX9_weigh_18
  · skip
    refine lv_if_ne (tgt := 17) hx hb dX9_weigh_4 (by decide) (fun q => absurd rfl q) (fun _ => ?_)
    refine lv_iload_n hx hb dX9_weigh_7 rfl (lv_at hl 2 rfl) ?_
    refine lv_pc (pc2 := 8) rfl ?_
    refine lv_iconst (v := 0) hx hb dX9_weigh_8 (by decide) ?_
    refine lv_bipush (v := 100) hx hb dX9_weigh_9 (by decide) ?_
    refine ty_calli ((W.runS (As := [.int a2, .int 0, .int 100]) (rest := []) ⟨hx, hb, hml, hown, hts⟩ (s_X9_isOutside l D t cI cL cC gC gE G gW gA a2 0 100 0 100 (by decide) (by decide) ) (va_cwS 3 hts gu_X9_weigh_X9_isOutside_99 rfl rfl rfl (by decide +kernel) ⟨Nat.le_of_ble_eq_true rfl, Nat.le_of_ble_eq_true rfl⟩) (tP_S hG hE) rfl rfl hl.1 rfl (lv_room (Nat.le_of_ble_eq_true rfl)) dX9_weigh_11 ⟨Nat.le_of_ble_eq_true rfl, Nat.le_of_ble_eq_true rfl⟩)) hS (fun k h => by simp [wr0] at h) (fun r_4 H locs hp_5 hG hS o_6 => ?_)
    rcases hp_5 with ⟨rfl, hc_289⟩ | ⟨rfl, hc_290, hc_291⟩
    · skip
      refine lv_if_eq (tgt := 19) hx hb dX9_weigh_14 (by decide) (fun q => absurd q (by decide)) (fun _ => ?_)
      refine lv_iconst (v := (-1)) hx hb dX9_weigh_17 (by decide) ?_
      exact ty_iret hx hb hr hlk (by rw [show nwe gW a1 a2 = gW from (by simp only [nwe]; first | (rw [if_pos (by omega)]; done) | (rw [if_neg (by omega)]; done) | (rw [if_neg (by omega), if_pos (by omega)]; done) | (rw [if_neg (by omega), if_neg (by omega)]; done))]; exact hG) hS (by simp only [awe]; first | (rw [if_pos (by omega)]; done) | (rw [if_neg (by omega)]; done)) dX9_weigh_18
    · skip
      refine lv_if_eq (tgt := 19) hx hb dX9_weigh_14 (by decide) (fun _ => ?_) (fun q => absurd (by decide) q)
      refine lv_aload_n hx hb dX9_weigh_19 rfl (lv_at hl 0 rfl) ?_
      refine lv_pc (pc2 := 20) rfl ?_
      obtain ⟨r_7, r_9, r_11, r_13, v_15, v_16, r_17, r_19, r_21, r_23, r_25, r_27, r_29, v_31, r_33, r_35, r_37, r_39, at_41, h_8, h_10, h_12, h_14, h_18, h_20, h_22, h_24, h_26, h_28, h_30, h_32, h_34, h_36, h_38, h_40⟩ := gF_o1 hG k_a0
      refine va_get (D := D) (ci := 8) (v := .ref r_37) (C := RX9) (T := TX9) (N := 18) hx hb hts in9 hown hK (va_one at_41) 0 rfl rfl 16 (by decide) (hts (.fieldLink RX9 88 "RiverModel" "worlds" "LRiverModel$Worlds;") (List.mem_of_getElem? (i := 6) rfl)) (fun _ h9 => h9) rfl dX9_weigh_20 ?_
      obtain ⟨r_42, r_44, r_46, at_48, h_43, h_45, h_47⟩ := gF_o8 hG h_38
      refine va_get (D := D) (ci := 7) (v := .ref r_42) (C := RX8) (T := TX8) (N := 3) hx hb hts in8 hown hK (va_one at_48) 0 rfl rfl 0 (by decide) (hts (.fieldLink RX9 259 "RiverModel$Worlds" "weights" "[I") (List.mem_of_getElem? (i := 7) rfl)) (fun _ h9 => h9) rfl dX9_weigh_23 ?_
      refine lv_iload_n hx hb dX9_weigh_26 rfl (lv_at hl 1 rfl) ?_
      obtain ⟨f_49, at_50, h_51⟩ := gF_o29 hG h_43
      have b_52 : vp_in a1 4 := (q_in (by omega) (by omega))
      refine va_iald hx hb hK (va_one at_50) 0 0 rfl rfl b_52 dX9_weigh_27 ?_
      refine lv_topi (fun x_53 e_54 => ?_)
      rw [← h_51] at e_54
      refine lv_istore_n (lv' := [(3, .int x_53), (0, .ref a0), (1, .int a1), (2, .int a2)]) hx hb dX9_weigh_28 rfl hl (by decide) rfl (fun ls hl => ?_)
      refine lv_aload_n hx hb dX9_weigh_29 rfl (lv_at hl 1 rfl) ?_
      refine va_get (D := D) (ci := 8) (v := .ref r_37) (C := RX9) (T := TX9) (N := 18) hx hb hts in9 hown hK (va_one at_41) 0 rfl rfl 16 (by decide) (hts (.fieldLink RX9 88 "RiverModel" "worlds" "LRiverModel$Worlds;") (List.mem_of_getElem? (i := 6) rfl)) (fun _ h9 => h9) rfl dX9_weigh_30 ?_
      refine va_get (D := D) (ci := 7) (v := .ref r_42) (C := RX8) (T := TX8) (N := 3) hx hb hts in8 hown hK (va_one at_48) 0 rfl rfl 0 (by decide) (hts (.fieldLink RX9 259 "RiverModel$Worlds" "weights" "[I") (List.mem_of_getElem? (i := 7) rfl)) (fun _ h9 => h9) rfl dX9_weigh_33 ?_
      refine lv_pc (pc2 := 36) rfl ?_
      refine lv_iload_n hx hb dX9_weigh_36 rfl (lv_at hl 2 rfl) ?_
      refine lv_iload_n hx hb dX9_weigh_37 rfl (lv_at hl 3 rfl) ?_
      have b_55 : vp_in a1 4 := (q_in (by omega) (by omega))
      refine ty_iast (F2 := (gF cI cL cC gC gE G (upd gW a1.toNatClampNeg a2) gA)) hx hb hK hG hS 0 at_50 (by rw [h_43]; rfl) rfl b_55 (by rw [h_43]; exact ⟨_, rfl, congrArg (fun q => upd q a1.toNatClampNeg a2) h_51⟩) (fun hG b hb h0 => by obtain ⟨e, g1, g2⟩ := hG b h0; exact ⟨e, g1, gF_gW (fun h => hb (uq_gW b r_42 h h_43)) g2⟩) dX9_weigh_38 (fun H locs hG hS at_56 o_57 => ?_)
      have at_41 := va_at.keptK at_41 o_57 h_43 k_a0 rfl
      have at_48 := va_at.keptK at_48 o_57 h_43 h_38 rfl
      refine lv_iload_n hx hb dX9_weigh_39 rfl (lv_at hl 0 rfl) ?_
      exact ty_iret hx hb hr hlk (by rw [show nwe gW a1 a2 = upd gW a1.toNatClampNeg a2 from (by simp only [nwe]; first | (rw [if_pos (by omega)]; done) | (rw [if_neg (by omega)]; done) | (rw [if_neg (by omega), if_pos (by omega)]; done) | (rw [if_neg (by omega), if_neg (by omega)]; done))]; exact hG) hS (by simp only [awe]; first | (rw [if_pos (by omega)]; done) | (rw [if_neg (by omega)]; exact e_54)) dX9_weigh_40

def uX8_rainAhead_e : List Cond := .code yX8_rainAhead cX8_rainAhead 3 (some .int) :: ([.initialized RX9, .static yX9_isNoWorld, .static yX9_isOutside, .fieldLink RX8 18 "RiverModel$Worlds" "rains" "[I", .code yX9_isNoWorld cX9_isNoWorld 1 (some .boolean), .code yX9_isOutside cX9_isOutside 3 (some .boolean)] ++ wsX80)
set_option maxRecDepth 20000 in
theorem gu_X8_rainAhead_e_X9_isNoWorld_n : GoodIn uX8_rainAhead_e (uX9_isNoWorld) := goodIn_r _ [5] rfl (by decide +kernel)
set_option maxRecDepth 20000 in
theorem gu_X8_rainAhead_e_X9_isOutside_n : GoodIn uX8_rainAhead_e (uX9_isOutside) := goodIn_r _ [6] rfl (by decide +kernel)
set_option maxHeartbeats 4000000 in
set_option maxRecDepth 100000 in
theorem s_X8_rainAhead_e (l : Launch) (D : va_G) (t : Nat → Nat) (cI cL cC : ClassId) (gC : Int32) (gE : Int32) (G : Nat) (gW : Nat → Int32) (gA : Nat → Int32) (a0 : Nat) (a1 : Int32) (a2 : Int32) (h1 : 0 ≤ a1.toInt) (h2 : a1.toInt ≤ 3) (h3 : 0 ≤ a2.toInt) (h4 : a2.toInt ≤ 23) (k_a0 : t a0 = 8) : tM l yX8_rainAhead uX8_rainAhead_e 1 22 D (gF cI cL cC gC gE G gW gA) (gF cI cL cC gC gE G gW gA) t cI cL cC [.ref a0, .int a1, .int a2] wr0 (pI (fun r => r = gA (a1.toInt * 24 + a2.toInt).toNat)) := by
  refine tM.ofW (cc := cX8_rainAhead) (maxL := 3) (ret := (some .int)) (by decide) rfl (Nat.le_of_ble_eq_true rfl) ?_
  intro p e s m below meth c hx hb hr hml hown hts hlk H locs hG hK hE hS ls hl
  have hl : lv_has ls 3 [(0, .ref a0), (1, .int a1), (2, .int a2)] := hl
  have in8 : ∀ w ∈ wsX80, w ∈ uX8_rainAhead_e := fun w h => List.mem_cons_of_mem _ (List.mem_append_right _ h)
  refine lv_iload_n hx hb dX8_rainAhead_0 rfl (lv_at hl 1 rfl) ?_
  refine ty_calli (tRun (va_runSN (As := [.int a1]) (rest := []) ⟨hx, hb, hml, hown, hts⟩ (s_X9_isNoWorld l D t cI cL cC gC gE G gW gA a1 ) ⟨(va_cnB 1 hts gu_X8_rainAhead_e_X9_isNoWorld_n rfl rfl rfl (hE.2.1 _ (List.mem_of_getElem? (i := 20) rfl)) (hts (.initialized RX9) (List.mem_of_getElem? (i := 1) rfl)) (by decide +kernel) ⟨Nat.le_of_ble_eq_true rfl, Nat.le_of_ble_eq_true rfl⟩), (hts (.static yX9_isNoWorld) (List.mem_of_getElem? (i := 2) rfl)), trivial⟩ (tP_S hG hE) rfl rfl hl.1 rfl (lv_room (Nat.le_of_ble_eq_true rfl)) dX8_rainAhead_1 ⟨Nat.le_of_ble_eq_true rfl, Nat.le_of_ble_eq_true rfl⟩)) hS (fun _ h => h) (fun r_1 H locs hp_2 hG hS o_3 => ?_)
  rcases hp_2 with ⟨rfl, hc_292⟩ | ⟨rfl, hc_293, hc_294⟩
  · skip
    refine lv_if_ne (tgt := 17) hx hb dX8_rainAhead_4 (by decide) (fun _ => ?_) (fun q => absurd q (by decide))
    refine lv_iconst (v := 0) hx hb dX8_rainAhead_17 (by decide) ?_
    refine lv_goto (tgt := 32) hx hb dX8_rainAhead_18 (by decide) ?_
    exact ty_iret hx hb hr hlk hG hS (by exfalso; omega) dX8_rainAhead_32
  · skip
    refine lv_if_ne (tgt := 17) hx hb dX8_rainAhead_4 (by decide) (fun q => absurd rfl q) (fun _ => ?_)
    refine lv_pc (pc2 := 7) rfl ?_
    refine lv_iload_n hx hb dX8_rainAhead_7 rfl (lv_at hl 2 rfl) ?_
    refine lv_iconst (v := 0) hx hb dX8_rainAhead_8 (by decide) ?_
    refine lv_bipush (v := 23) hx hb dX8_rainAhead_9 (by decide) ?_
    refine ty_calli (tRun (va_runSN (As := [.int a2, .int 0, .int 23]) (rest := []) ⟨hx, hb, hml, hown, hts⟩ (s_X9_isOutside l D t cI cL cC gC gE G gW gA a2 0 23 0 23 (by decide) (by decide) ) ⟨(va_cnB 3 hts gu_X8_rainAhead_e_X9_isOutside_n rfl rfl rfl (hE.2.1 _ (List.mem_of_getElem? (i := 21) rfl)) (hts (.initialized RX9) (List.mem_of_getElem? (i := 1) rfl)) (by decide +kernel) ⟨Nat.le_of_ble_eq_true rfl, Nat.le_of_ble_eq_true rfl⟩), (hts (.static yX9_isOutside) (List.mem_of_getElem? (i := 3) rfl)), trivial⟩ (tP_S hG hE) rfl rfl hl.1 rfl (lv_room (Nat.le_of_ble_eq_true rfl)) dX8_rainAhead_11 ⟨Nat.le_of_ble_eq_true rfl, Nat.le_of_ble_eq_true rfl⟩)) hS (fun _ h => h) (fun r_4 H locs hp_5 hG hS o_6 => ?_)
    rcases hp_5 with ⟨rfl, hc_295⟩ | ⟨rfl, hc_296, hc_297⟩
    · skip
      refine lv_if_eq (tgt := 21) hx hb dX8_rainAhead_14 (by decide) (fun q => absurd q (by decide)) (fun _ => ?_)
      refine lv_iconst (v := 0) hx hb dX8_rainAhead_17 (by decide) ?_
      refine lv_goto (tgt := 32) hx hb dX8_rainAhead_18 (by decide) ?_
      exact ty_iret hx hb hr hlk hG hS (by exfalso; omega) dX8_rainAhead_32
    · skip
      refine lv_pc (pc2 := 14) rfl ?_
      refine lv_if_eq (tgt := 21) hx hb dX8_rainAhead_14 (by decide) (fun _ => ?_) (fun q => absurd (by decide) q)
      refine lv_aload_n hx hb dX8_rainAhead_21 rfl (lv_at hl 0 rfl) ?_
      obtain ⟨r_7, r_9, r_11, at_13, h_8, h_10, h_12⟩ := gF_o8 hG k_a0
      refine va_get (D := D) (ci := 7) (v := .ref r_11) (C := RX8) (T := TX8) (N := 3) hx hb hts in8 hown hK (va_one at_13) 0 rfl rfl 2 (by decide) (hts (.fieldLink RX8 18 "RiverModel$Worlds" "rains" "[I") (List.mem_of_getElem? (i := 4) rfl)) (fun _ h9 => h9) rfl dX8_rainAhead_22 ?_
      refine lv_iload_n hx hb dX8_rainAhead_25 rfl (lv_at hl 1 rfl) ?_
      refine lv_bipush (v := 24) hx hb dX8_rainAhead_26 (by decide) ?_
      refine lv_imul hx hb dX8_rainAhead_28 ?_
      refine lv_topi (fun x_14 e_15 => ?_)
      have i_x_14 : x_14.toInt = a1.toInt * 24 := by rw [e_15]; exact (q_mul (by rw [show (24 : Int32).toInt = 24 by decide]; omega) (by rw [show (24 : Int32).toInt = 24 by decide]; omega)).trans (by rw [show (24 : Int32).toInt = 24 by decide])
      refine lv_iload_n hx hb dX8_rainAhead_29 rfl (lv_at hl 2 rfl) ?_
      refine lv_iadd hx hb dX8_rainAhead_30 ?_
      refine lv_topi (fun x_16 e_17 => ?_)
      have i_x_16 : x_16.toInt = x_14.toInt + a2.toInt := by rw [e_17]; exact (q_add (by omega) (by omega)).trans (by rfl)
      refine lv_pc (pc2 := 31) rfl ?_
      obtain ⟨f_18, at_19, h_20⟩ := gF_o31 hG h_12
      have b_21 : vp_in x_16 96 := (q_in (by omega) (by omega))
      refine va_iald hx hb hK (va_one at_19) 0 0 rfl rfl b_21 dX8_rainAhead_31 ?_
      refine lv_topi (fun x_22 e_23 => ?_)
      rw [← h_20, show x_16.toNatClampNeg = (a1.toInt * 24 + a2.toInt).toNat from congrArg Int.toNat (by omega)] at e_23
      exact ty_iret hx hb hr hlk hG hS (by first | exact e_23 | (exfalso; omega)) dX8_rainAhead_32

def uX8_putRain : List Cond := .code yX8_putRain cX8_putRain 5 (some .int) :: ([.methodLink RX8 21 yX8_rainAhead, .instanceMethod yX8_rainAhead, .selects RX8 yX8_rainAhead yX8_rainAhead, .initialized RX8, .initialized RX9, .static yX9_isNoWorld, .static yX9_isOutside, .fieldLink RX8 18 "RiverModel$Worlds" "rains" "[I", .code yX8_rainAhead cX8_rainAhead 3 (some .int), .code yX9_isNoWorld cX9_isNoWorld 1 (some .boolean), .code yX9_isOutside cX9_isOutside 3 (some .boolean)] ++ wsX80)
set_option maxRecDepth 20000 in
theorem gu_X8_putRain_X8_rainAhead_e_21 : GoodIn uX8_putRain (wsV RX8 21 RX8 yX8_rainAhead uX8_rainAhead_e) := goodIn_r _ [1, 2, 3, 4, 9, 5, 6, 7, 8, 10, 11, 12, 13, 14] rfl (by decide +kernel)
set_option maxRecDepth 20000 in
theorem gu_X8_putRain_X9_isNoWorld_n : GoodIn uX8_putRain (uX9_isNoWorld) := goodIn_r _ [10] rfl (by decide +kernel)
set_option maxRecDepth 20000 in
theorem gu_X8_putRain_X9_isOutside_n : GoodIn uX8_putRain (uX9_isOutside) := goodIn_r _ [11] rfl (by decide +kernel)
set_option maxHeartbeats 4000000 in
set_option maxRecDepth 100000 in
theorem s_X8_putRain (l : Launch) (D : va_G) (t : Nat → Nat) (cI cL cC : ClassId) (gC : Int32) (gE : Int32) (G : Nat) (gW : Nat → Int32) (gA : Nat → Int32) (a0 : Nat) (a1 : Int32) (a2 : Int32) (a3 : Int32) (uq_gA : ∀ b c : Nat, t b = 31 → t c = 31 → b = c) (h1 : 0 ≤ a1.toInt) (h2 : a1.toInt ≤ 3) (h3 : 0 ≤ a2.toInt) (h4 : a2.toInt ≤ 23) (k_a0 : t a0 = 8) : tM l yX8_putRain uX8_putRain 2 44 D (gF cI cL cC gC gE G gW gA) (gF cI cL cC gC gE G gW (upd gA (a1.toInt * 24 + a2.toInt).toNat a3)) t cI cL cC [.ref a0, .int a1, .int a2, .int a3] wrWo (pI (fun r => r = gA (a1.toInt * 24 + a2.toInt).toNat)) := by
  refine tM.ofW (cc := cX8_putRain) (maxL := 5) (ret := (some .int)) (by decide) rfl (Nat.le_of_ble_eq_true rfl) ?_
  intro p e s m below meth c hx hb hr hml hown hts hlk H locs hG hK hE hS ls hl
  have hl : lv_has ls 5 [(0, .ref a0), (1, .int a1), (2, .int a2), (3, .int a3)] := hl
  have in8 : ∀ w ∈ wsX80, w ∈ uX8_putRain := fun w h => List.mem_cons_of_mem _ (List.mem_append_right _ h)
  refine lv_aload_n hx hb dX8_putRain_0 rfl (lv_at hl 0 rfl) ?_
  refine lv_iload_n hx hb dX8_putRain_1 rfl (lv_at hl 1 rfl) ?_
  refine lv_iload_n hx hb dX8_putRain_2 rfl (lv_at hl 2 rfl) ?_
  obtain ⟨r_1, r_3, r_5, at_7, h_2, h_4, h_6⟩ := gF_o8 hG k_a0
  refine ty_calli ((W.runV (As := [.int a1, .int a2]) (rest := []) ⟨hx, hb, hml, hown, hts⟩ (s_X8_rainAhead_e l D t cI cL cC gC gE G gW gA a0 a1 a2 (by omega) (by omega) (by omega) (by omega) k_a0) (cwV 2 hts gu_X8_putRain_X8_rainAhead_e_21 rfl rfl rfl (by decide +kernel) ⟨Nat.le_of_ble_eq_true rfl, Nat.le_of_ble_eq_true rfl⟩) (tP_V hG hE at_7 rfl) rfl rfl hl.1 rfl (lv_room (Nat.le_of_ble_eq_true rfl)) dX8_putRain_3 ⟨Nat.le_of_ble_eq_true rfl, Nat.le_of_ble_eq_true rfl⟩)) hS (fun k h => by simp [wr0] at h) (fun r_8 H locs hp_9 hG hS o_10 => ?_)
  have at_7 := va_at.keptC at_7 o_10 k_a0 rfl
  have hp_9 := hp_9
  refine lv_istore (lv' := [(4, .int r_8), (0, .ref a0), (1, .int a1), (2, .int a2), (3, .int a3)]) hx hb dX8_putRain_6 hl (by decide) rfl (fun ls hl => ?_)
  refine lv_iload_n hx hb dX8_putRain_8 rfl (lv_at hl 2 rfl) ?_
  refine ty_calli (tRun (va_runSN (As := [.int a1]) (rest := []) ⟨hx, hb, hml, hown, hts⟩ (s_X9_isNoWorld l D t cI cL cC gC gE G gW gA a1 ) ⟨(va_cnB 1 hts gu_X8_putRain_X9_isNoWorld_n rfl rfl rfl (hE.2.1 _ (List.mem_of_getElem? (i := 20) rfl)) (hts (.initialized RX9) (List.mem_of_getElem? (i := 5) rfl)) (by decide +kernel) ⟨Nat.le_of_ble_eq_true rfl, Nat.le_of_ble_eq_true rfl⟩), (hts (.static yX9_isNoWorld) (List.mem_of_getElem? (i := 6) rfl)), trivial⟩ (tP_S hG hE) rfl rfl hl.1 rfl (lv_room (Nat.le_of_ble_eq_true rfl)) dX8_putRain_9 ⟨Nat.le_of_ble_eq_true rfl, Nat.le_of_ble_eq_true rfl⟩)) hS (fun k h => by simp [wr0] at h) (fun r_11 H locs hp_12 hG hS o_13 => ?_)
  have at_7 := va_at.keptC at_7 o_13 k_a0 rfl
  rcases hp_12 with ⟨rfl, hc_298⟩ | ⟨rfl, hc_299, hc_300⟩
  · skip
    refine lv_pc (pc2 := 12) rfl ?_
    refine lv_if_ne (tgt := 37) hx hb dX8_putRain_12 (by decide) (fun _ => ?_) (fun q => absurd q (by decide))
    refine lv_iload hx hb dX8_putRain_37 (lv_at hl 0 rfl) ?_
    exact ty_iret hx hb hr hlk (by exfalso; omega) hS (by first | exact hp_9 | (exfalso; omega)) dX8_putRain_39
  · skip
    refine lv_if_ne (tgt := 37) hx hb dX8_putRain_12 (by decide) (fun q => absurd rfl q) (fun _ => ?_)
    refine lv_iload_n hx hb dX8_putRain_15 rfl (lv_at hl 3 rfl) ?_
    refine lv_iconst (v := 0) hx hb dX8_putRain_16 (by decide) ?_
    refine lv_bipush (v := 23) hx hb dX8_putRain_17 (by decide) ?_
    refine ty_calli (tRun (va_runSN (As := [.int a2, .int 0, .int 23]) (rest := []) ⟨hx, hb, hml, hown, hts⟩ (s_X9_isOutside l D t cI cL cC gC gE G gW gA a2 0 23 0 23 (by decide) (by decide) ) ⟨(va_cnB 3 hts gu_X8_putRain_X9_isOutside_n rfl rfl rfl (hE.2.1 _ (List.mem_of_getElem? (i := 21) rfl)) (hts (.initialized RX9) (List.mem_of_getElem? (i := 5) rfl)) (by decide +kernel) ⟨Nat.le_of_ble_eq_true rfl, Nat.le_of_ble_eq_true rfl⟩), (hts (.static yX9_isOutside) (List.mem_of_getElem? (i := 7) rfl)), trivial⟩ (tP_S hG hE) rfl rfl hl.1 rfl (lv_room (Nat.le_of_ble_eq_true rfl)) dX8_putRain_19 ⟨Nat.le_of_ble_eq_true rfl, Nat.le_of_ble_eq_true rfl⟩)) hS (fun k h => by simp [wr0] at h) (fun r_14 H locs hp_15 hG hS o_16 => ?_)
    have at_7 := va_at.keptC at_7 o_16 k_a0 rfl
    rcases hp_15 with ⟨rfl, hc_301⟩ | ⟨rfl, hc_302, hc_303⟩
    · skip
      refine lv_pc (pc2 := 22) rfl ?_
      refine lv_if_ne (tgt := 37) hx hb dX8_putRain_22 (by decide) (fun _ => ?_) (fun q => absurd q (by decide))
      refine lv_iload hx hb dX8_putRain_37 (lv_at hl 0 rfl) ?_
      exact ty_iret hx hb hr hlk (by exfalso; omega) hS (by first | exact hp_9 | (exfalso; omega)) dX8_putRain_39
    · skip
      refine lv_if_ne (tgt := 37) hx hb dX8_putRain_22 (by decide) (fun q => absurd rfl q) (fun _ => ?_)
      refine lv_aload_n hx hb dX8_putRain_25 rfl (lv_at hl 1 rfl) ?_
      refine va_get (D := D) (ci := 7) (v := .ref r_5) (C := RX8) (T := TX8) (N := 3) hx hb hts in8 hown hK (va_one at_7) 0 rfl rfl 2 (by decide) (hts (.fieldLink RX8 18 "RiverModel$Worlds" "rains" "[I") (List.mem_of_getElem? (i := 8) rfl)) (fun _ h9 => h9) rfl dX8_putRain_26 ?_
      refine lv_iload_n hx hb dX8_putRain_29 rfl (lv_at hl 2 rfl) ?_
      refine lv_bipush (v := 24) hx hb dX8_putRain_30 (by decide) ?_
      refine lv_pc (pc2 := 32) rfl ?_
      refine lv_imul hx hb dX8_putRain_32 ?_
      refine lv_topi (fun x_17 e_18 => ?_)
      have i_x_17 : x_17.toInt = a1.toInt * 24 := by rw [e_18]; exact (q_mul (by rw [show (24 : Int32).toInt = 24 by decide]; omega) (by rw [show (24 : Int32).toInt = 24 by decide]; omega)).trans (by rw [show (24 : Int32).toInt = 24 by decide])
      refine lv_iload_n hx hb dX8_putRain_33 rfl (lv_at hl 3 rfl) ?_
      refine lv_iadd hx hb dX8_putRain_34 ?_
      refine lv_topi (fun x_19 e_20 => ?_)
      have i_x_19 : x_19.toInt = x_17.toInt + a2.toInt := by rw [e_20]; exact (q_add (by omega) (by omega)).trans (by rfl)
      refine lv_iload_n hx hb dX8_putRain_35 rfl (lv_at hl 4 rfl) ?_
      obtain ⟨f_21, at_22, h_23⟩ := gF_o31 hG h_6
      have b_24 : vp_in x_19 96 := (q_in (by omega) (by omega))
      refine ty_iast (F2 := (gF cI cL cC gC gE G gW (upd gA (a1.toInt * 24 + a2.toInt).toNat a3))) hx hb hK hG hS 0 at_22 (by rw [h_6]; rfl) rfl b_24 (by rw [h_6, show x_19.toNatClampNeg = (a1.toInt * 24 + a2.toInt).toNat from congrArg Int.toNat (by omega)]; exact ⟨_, rfl, congrArg (fun q => upd q (a1.toInt * 24 + a2.toInt).toNat a3) h_23⟩) (fun hG b hb h0 => by obtain ⟨e, g1, g2⟩ := hG b h0; exact ⟨e, g1, gF_gA (fun h => hb (uq_gA b r_5 h h_6)) g2⟩) dX8_putRain_36 (fun H locs hG hS at_25 o_26 => ?_)
      have at_7 := va_at.keptK at_7 o_26 h_6 k_a0 rfl
      refine lv_iload hx hb dX8_putRain_37 (lv_at hl 0 rfl) ?_
      exact ty_iret hx hb hr hlk hG hS (by first | exact hp_9 | (exfalso; omega)) dX8_putRain_39

def uX9_rain : List Cond := .code yX9_rain cX9_rain 4 (some .int) :: ([.methodLink RX9 256 yX9_isNoWorld, .static yX9_isNoWorld, .initialized RX9, .methodLink RX9 99 yX9_isOutside, .static yX9_isOutside, .fieldLink RX9 88 "RiverModel" "worlds" "LRiverModel$Worlds;", .methodLink RX9 262 yX8_putRain, .instanceMethod yX8_putRain, .selects RX8 yX8_putRain yX8_putRain, .initialized RX8, .code yX9_isNoWorld cX9_isNoWorld 1 (some .boolean), .code yX9_isOutside cX9_isOutside 3 (some .boolean), .code yX8_putRain cX8_putRain 5 (some .int), .methodLink RX8 21 yX8_rainAhead, .instanceMethod yX8_rainAhead, .selects RX8 yX8_rainAhead yX8_rainAhead, .fieldLink RX8 18 "RiverModel$Worlds" "rains" "[I", .code yX8_rainAhead cX8_rainAhead 3 (some .int)] ++ wsX90 ++ wsX80)
set_option maxRecDepth 20000 in
theorem gu_X9_rain_X9_isNoWorld_256 : GoodIn uX9_rain (va_wsS RX9 256 yX9_isNoWorld uX9_isNoWorld) := goodIn_r _ [1, 2, 3, 11] rfl (by decide +kernel)
set_option maxRecDepth 20000 in
theorem gu_X9_rain_X9_isOutside_99 : GoodIn uX9_rain (va_wsS RX9 99 yX9_isOutside uX9_isOutside) := goodIn_r _ [4, 5, 3, 12] rfl (by decide +kernel)
set_option maxRecDepth 20000 in
theorem gu_X9_rain_X8_putRain_262 : GoodIn uX9_rain (wsV RX9 262 RX8 yX8_putRain uX8_putRain) := goodIn_r _ [7, 8, 9, 10, 13, 14, 15, 16, 10, 3, 2, 5, 17, 18, 11, 12, 37, 38, 39] rfl (by decide +kernel)
set_option maxHeartbeats 4000000 in
set_option maxRecDepth 100000 in
theorem s_X9_rain (l : Launch) (D : va_G) (t : Nat → Nat) (cI cL cC : ClassId) (gC : Int32) (gE : Int32) (G : Nat) (gW : Nat → Int32) (gA : Nat → Int32) (a0 : Nat) (a1 : Int32) (a2 : Int32) (a3 : Int32) (uq_gA : ∀ b c : Nat, t b = 31 → t c = 31 → b = c) (k_a0 : t a0 = 1) : tM l yX9_rain uX9_rain 3 68 D (gF cI cL cC gC gE G gW gA) (gF cI cL cC gC gE G gW (nrw gA a1 a2 a3)) t cI cL cC [.ref a0, .int a1, .int a2, .int a3] wrAll (pI (fun r => r = arw gA a1 a2 a3)) := by
  refine tM.ofW (cc := cX9_rain) (maxL := 4) (ret := (some .int)) (by decide) rfl (Nat.le_of_ble_eq_true rfl) ?_
  intro p e s m below meth c hx hb hr hml hown hts hlk H locs hG hK hE hS ls hl
  have hl : lv_has ls 4 [(0, .ref a0), (1, .int a1), (2, .int a2), (3, .int a3)] := hl
  have in9 : ∀ w ∈ wsX90, w ∈ uX9_rain := fun w h => List.mem_cons_of_mem _ (List.mem_append_left _ (List.mem_append_right _ h))
  refine lv_iload_n hx hb dX9_rain_0 rfl (lv_at hl 1 rfl) ?_
  refine ty_calli ((W.runS (As := [.int a1]) (rest := []) ⟨hx, hb, hml, hown, hts⟩ (s_X9_isNoWorld l D t cI cL cC gC gE G gW gA a1 ) (va_cwS 1 hts gu_X9_rain_X9_isNoWorld_256 rfl rfl rfl (by decide +kernel) ⟨Nat.le_of_ble_eq_true rfl, Nat.le_of_ble_eq_true rfl⟩) (tP_S hG hE) rfl rfl hl.1 rfl (lv_room (Nat.le_of_ble_eq_true rfl)) dX9_rain_1 ⟨Nat.le_of_ble_eq_true rfl, Nat.le_of_ble_eq_true rfl⟩)) hS (fun k h => by simp [wr0] at h) (fun r_1 H locs hp_2 hG hS o_3 => ?_)
  rcases hp_2 with ⟨rfl, hc_304⟩ | ⟨rfl, hc_305, hc_306⟩
  · skip
    refine lv_if_ne (tgt := 28) hx hb dX9_rain_4 (by decide) (fun _ => ?_) (fun q => absurd q (by decide))
    refine lv_iconst (v := (-1)) hx hb dX9_rain_28 (by decide) ?_
    exact ty_iret hx hb hr hlk (by rw [show nrw gA a1 a2 a3 = gA from (by simp only [nrw]; first | (rw [if_pos (by omega)]; done) | (rw [if_neg (by omega)]; done) | (rw [if_neg (by omega), if_pos (by omega)]; done) | (rw [if_neg (by omega), if_neg (by omega)]; done))]; exact hG) hS (by simp only [arw]; first | (rw [if_pos (by omega)]; done) | (rw [if_neg (by omega)]; done)) dX9_rain_29
  · skip
    refine lv_if_ne (tgt := 28) hx hb dX9_rain_4 (by decide) (fun q => absurd rfl q) (fun _ => ?_)
    refine lv_iload_n hx hb dX9_rain_7 rfl (lv_at hl 2 rfl) ?_
    refine lv_pc (pc2 := 8) rfl ?_
    refine lv_iconst (v := 0) hx hb dX9_rain_8 (by decide) ?_
    refine lv_bipush (v := 23) hx hb dX9_rain_9 (by decide) ?_
    refine ty_calli ((W.runS (As := [.int a2, .int 0, .int 23]) (rest := []) ⟨hx, hb, hml, hown, hts⟩ (s_X9_isOutside l D t cI cL cC gC gE G gW gA a2 0 23 0 23 (by decide) (by decide) ) (va_cwS 3 hts gu_X9_rain_X9_isOutside_99 rfl rfl rfl (by decide +kernel) ⟨Nat.le_of_ble_eq_true rfl, Nat.le_of_ble_eq_true rfl⟩) (tP_S hG hE) rfl rfl hl.1 rfl (lv_room (Nat.le_of_ble_eq_true rfl)) dX9_rain_11 ⟨Nat.le_of_ble_eq_true rfl, Nat.le_of_ble_eq_true rfl⟩)) hS (fun k h => by simp [wr0] at h) (fun r_4 H locs hp_5 hG hS o_6 => ?_)
    rcases hp_5 with ⟨rfl, hc_307⟩ | ⟨rfl, hc_308, hc_309⟩
    · skip
      refine lv_if_ne (tgt := 28) hx hb dX9_rain_14 (by decide) (fun _ => ?_) (fun q => absurd q (by decide))
      refine lv_iconst (v := (-1)) hx hb dX9_rain_28 (by decide) ?_
      exact ty_iret hx hb hr hlk (by rw [show nrw gA a1 a2 a3 = gA from (by simp only [nrw]; first | (rw [if_pos (by omega)]; done) | (rw [if_neg (by omega)]; done) | (rw [if_neg (by omega), if_pos (by omega)]; done) | (rw [if_neg (by omega), if_neg (by omega)]; done))]; exact hG) hS (by simp only [arw]; first | (rw [if_pos (by omega)]; done) | (rw [if_neg (by omega)]; done)) dX9_rain_29
    · skip
      refine lv_if_ne (tgt := 28) hx hb dX9_rain_14 (by decide) (fun q => absurd rfl q) (fun _ => ?_)
      refine lv_iload_n hx hb dX9_rain_17 rfl (lv_at hl 3 rfl) ?_
      refine lv_pc (pc2 := 18) rfl ?_
      refine lv_iconst (v := 0) hx hb dX9_rain_18 (by decide) ?_
      refine lv_sipush (v := 10000) hx hb dX9_rain_19 (by decide) ?_
      refine ty_calli ((W.runS (As := [.int a3, .int 0, .int 10000]) (rest := []) ⟨hx, hb, hml, hown, hts⟩ (s_X9_isOutside l D t cI cL cC gC gE G gW gA a3 0 10000 0 10000 (by decide) (by decide) ) (va_cwS 3 hts gu_X9_rain_X9_isOutside_99 rfl rfl rfl (by decide +kernel) ⟨Nat.le_of_ble_eq_true rfl, Nat.le_of_ble_eq_true rfl⟩) (tP_S hG hE) rfl rfl hl.1 rfl (lv_room (Nat.le_of_ble_eq_true rfl)) dX9_rain_22 ⟨Nat.le_of_ble_eq_true rfl, Nat.le_of_ble_eq_true rfl⟩)) hS (fun k h => by simp [wr0] at h) (fun r_7 H locs hp_8 hG hS o_9 => ?_)
      rcases hp_8 with ⟨rfl, hc_310⟩ | ⟨rfl, hc_311, hc_312⟩
      · skip
        refine lv_if_eq (tgt := 30) hx hb dX9_rain_25 (by decide) (fun q => absurd q (by decide)) (fun _ => ?_)
        refine lv_iconst (v := (-1)) hx hb dX9_rain_28 (by decide) ?_
        exact ty_iret hx hb hr hlk (by rw [show nrw gA a1 a2 a3 = gA from (by simp only [nrw]; first | (rw [if_pos (by omega)]; done) | (rw [if_neg (by omega)]; done) | (rw [if_neg (by omega), if_pos (by omega)]; done) | (rw [if_neg (by omega), if_neg (by omega)]; done))]; exact hG) hS (by simp only [arw]; first | (rw [if_pos (by omega)]; done) | (rw [if_neg (by omega)]; done)) dX9_rain_29
      · skip
        refine lv_if_eq (tgt := 30) hx hb dX9_rain_25 (by decide) (fun _ => ?_) (fun q => absurd (by decide) q)
        refine lv_aload_n hx hb dX9_rain_30 rfl (lv_at hl 0 rfl) ?_
        refine lv_pc (pc2 := 31) rfl ?_
        obtain ⟨r_10, r_12, r_14, r_16, v_18, v_19, r_20, r_22, r_24, r_26, r_28, r_30, r_32, v_34, r_36, r_38, r_40, r_42, at_44, h_11, h_13, h_15, h_17, h_21, h_23, h_25, h_27, h_29, h_31, h_33, h_35, h_37, h_39, h_41, h_43⟩ := gF_o1 hG k_a0
        refine va_get (D := D) (ci := 8) (v := .ref r_40) (C := RX9) (T := TX9) (N := 18) hx hb hts in9 hown hK (va_one at_44) 0 rfl rfl 16 (by decide) (hts (.fieldLink RX9 88 "RiverModel" "worlds" "LRiverModel$Worlds;") (List.mem_of_getElem? (i := 6) rfl)) (fun _ h9 => h9) rfl dX9_rain_31 ?_
        refine lv_iload_n hx hb dX9_rain_34 rfl (lv_at hl 1 rfl) ?_
        refine lv_iload_n hx hb dX9_rain_35 rfl (lv_at hl 2 rfl) ?_
        refine lv_iload_n hx hb dX9_rain_36 rfl (lv_at hl 3 rfl) ?_
        obtain ⟨r_45, r_47, r_49, at_51, h_46, h_48, h_50⟩ := gF_o8 hG h_41
        refine ty_calli ((W.runV (As := [.int a1, .int a2, .int a3]) (rest := []) ⟨hx, hb, hml, hown, hts⟩ (s_X8_putRain l D t cI cL cC gC gE G gW gA r_40 a1 a2 a3 uq_gA (by omega) (by omega) (by omega) (by omega) h_41) (cwV 3 hts gu_X9_rain_X8_putRain_262 rfl rfl rfl (by decide +kernel) ⟨Nat.le_of_ble_eq_true rfl, Nat.le_of_ble_eq_true rfl⟩) (tP_V hG hE at_51 rfl) rfl rfl hl.1 rfl (lv_room (Nat.le_of_ble_eq_true rfl)) dX9_rain_37 ⟨Nat.le_of_ble_eq_true rfl, Nat.le_of_ble_eq_true rfl⟩)) hS (wrL_sub (by decide)) (fun r_52 H locs hp_53 hG hS o_54 => ?_)
        have at_44 := va_at.keptC at_44 o_54 k_a0 rfl
        have at_51 := va_at.keptC at_51 o_54 h_41 rfl
        have hp_53 := hp_53
        exact ty_iret hx hb hr hlk (by rw [show nrw gA a1 a2 a3 = upd gA (a1.toInt * 24 + a2.toInt).toNat a3 from (by simp only [nrw]; first | (rw [if_pos (by omega)]; done) | (rw [if_neg (by omega)]; done) | (rw [if_neg (by omega), if_pos (by omega)]; done) | (rw [if_neg (by omega), if_neg (by omega)]; done))]; exact hG) hS (by simp only [arw]; first | (rw [if_pos (by omega)]; done) | (rw [if_neg (by omega)]; exact hp_53)) dX9_rain_40

def uX9_clear : List Cond := .code yX9_clear cX9_clear 2 (some .int) :: ([.fieldLink RX9 10 "RiverModel" "text" "LRiverModel$Text;", .fieldLink RX9 103 "RiverModel$Text" "length" "I"] ++ wsX90 ++ wsX70)
set_option maxHeartbeats 4000000 in
set_option maxRecDepth 100000 in
theorem s_X9_clear (l : Launch) (D : va_G) (t : Nat → Nat) (cI cL cC : ClassId) (gC : Int32) (gE : Int32) (G : Nat) (gW : Nat → Int32) (gA : Nat → Int32) (a0 : Nat) (uq_gC : ∀ b c : Nat, t b = 2 → t c = 2 → b = c) (k_a0 : t a0 = 1) : tM l yX9_clear uX9_clear 0 0 D (gF cI cL cC gC gE G gW gA) (gF cI cL cC 0 gE G gW gA) t cI cL cC [.ref a0] wrAll (pI (fun r => r = gC)) := by
  refine tM.ofW (cc := cX9_clear) (maxL := 2) (ret := (some .int)) (by decide) rfl (Nat.le_of_ble_eq_true rfl) ?_
  intro p e s m below meth c hx hb hr hml hown hts hlk H locs hG hK hE hS ls hl
  have hl : lv_has ls 2 [(0, .ref a0)] := hl
  have in9 : ∀ w ∈ wsX90, w ∈ uX9_clear := fun w h => List.mem_cons_of_mem _ (List.mem_append_left _ (List.mem_append_right _ h))
  have in7 : ∀ w ∈ wsX70, w ∈ uX9_clear := fun w h => List.mem_cons_of_mem _ (List.mem_append_right _ h)
  refine lv_aload_n hx hb dX9_clear_0 rfl (lv_at hl 0 rfl) ?_
  obtain ⟨r_1, r_3, r_5, r_7, v_9, v_10, r_11, r_13, r_15, r_17, r_19, r_21, r_23, v_25, r_27, r_29, r_31, r_33, at_35, h_2, h_4, h_6, h_8, h_12, h_14, h_16, h_18, h_20, h_22, h_24, h_26, h_28, h_30, h_32, h_34⟩ := gF_o1 hG k_a0
  refine va_get (D := D) (ci := 8) (v := .ref r_1) (C := RX9) (T := TX9) (N := 18) hx hb hts in9 hown hK (va_one at_35) 0 rfl rfl 0 (by decide) (hts (.fieldLink RX9 10 "RiverModel" "text" "LRiverModel$Text;") (List.mem_of_getElem? (i := 1) rfl)) (fun _ h9 => h9) rfl dX9_clear_1 ?_
  obtain ⟨r_36, r_38, v_40, at_42, h_37, h_39, h_41⟩ := gF_o2 hG h_2
  refine va_get (D := D) (ci := 6) (v := .int gC) (C := RX7) (T := TX7) (N := 4) hx hb hts in7 hown hK (va_one at_42) 0 rfl rfl 2 (by decide) (hts (.fieldLink RX9 103 "RiverModel$Text" "length" "I") (List.mem_of_getElem? (i := 2) rfl)) (fun _ h9 => h9) rfl dX9_clear_4 ?_
  refine lv_istore_n (lv' := [(1, .int gC), (0, .ref a0)]) hx hb dX9_clear_7 rfl hl (by decide) rfl (fun ls hl => ?_)
  refine lv_aload_n hx hb dX9_clear_8 rfl (lv_at hl 1 rfl) ?_
  refine va_get (D := D) (ci := 8) (v := .ref r_1) (C := RX9) (T := TX9) (N := 18) hx hb hts in9 hown hK (va_one at_35) 0 rfl rfl 0 (by decide) (hts (.fieldLink RX9 10 "RiverModel" "text" "LRiverModel$Text;") (List.mem_of_getElem? (i := 1) rfl)) (fun _ h9 => h9) rfl dX9_clear_9 ?_
  refine lv_iconst (v := 0) hx hb dX9_clear_12 (by decide) ?_
  refine lv_pc (pc2 := 13) rfl ?_
  refine ty_put (D := D) (ci := 6) (v := .int 0) (ty := .int) (C := RX7) (T := TX7) (N := 4) (F2 := (gF cI cL cC 0 gE G gW gA)) hx hb hts in7 tyX7 tyX7_ok nmX7 hown hK hG hS at_42 (by rw [h_2]; rfl) rfl 2 (by decide) (hts (.fieldLink RX9 103 "RiverModel$Text" "length" "I") (List.mem_of_getElem? (i := 2) rfl)) (fun _ h9 => h9) rfl (by decide +kernel) rfl rfl (Nat.le_of_ble_eq_true rfl) (by rw [h_2]; exact ⟨r_36, r_38, v_40, rfl, h_37, h_39, (by have hzgC : (0 : Int32).toInt = 0 := (by decide); omega)⟩) (fun hG b hb h0 => by obtain ⟨e, g1, g2⟩ := hG b h0; exact ⟨e, g1, gF_gC (fun h => hb (uq_gC b r_1 h h_2)) g2⟩) dX9_clear_13 (fun H locs hG hS at_43 o_44 => ?_)
  have at_43 : va_at D vwCl (r_1, .inr (6, [.ref r_36, .ref r_38, .int 0, .int v_40])) H := at_43
  have at_35 := va_at.keptK at_35 o_44 h_2 k_a0 rfl
  refine lv_iload_n hx hb dX9_clear_16 rfl (lv_at hl 0 rfl) ?_
  exact ty_iret hx hb hr hlk hG hS rfl dX9_clear_17

def uX7_append : List Cond := .code yX7_append cX7_append 5 none :: ([.fieldLink RX7 18 "RiverModel$Text" "length" "I", .fieldLink RX7 9 "RiverModel$Text" "bytes" "[I"] ++ wsX70)
set_option maxHeartbeats 4000000 in
set_option maxRecDepth 100000 in
theorem s_X7_append (l : Launch) (D : va_G) (t : Nat → Nat) (cI cL cC : ClassId) (gC : Int32) (gE : Int32) (G : Nat) (gW : Nat → Int32) (gA : Nat → Int32) (a0 : Nat) (a1 : Int32) (a2 : Int64) (uq_gC : ∀ b c : Nat, t b = 2 → t c = 2 → b = c) (h0 : 0 ≤ gC.toInt) (h1 : 1 ≤ a1.toInt) (h8 : a1.toInt ≤ 8) (hf : gC.toInt + a1.toInt ≤ 400) (k_a0 : t a0 = 2) : tM l yX7_append uX7_append 0 0 D (gF cI cL cC gC gE G gW gA) (gF cI cL cC (gC + a1) gE G gW gA) t cI cL cC [.ref a0, .int a1, .long a2] wrT (pV (True)) := by
  refine tM.ofW (cc := cX7_append) (maxL := 5) (ret := none) (by decide) rfl (Nat.le_of_ble_eq_true rfl) ?_
  intro p e s m below meth c hx hb hr hml hown hts hlk H locs hG hK hE hS ls hl
  have hl : lv_has ls 5 [(0, .ref a0), (1, .int a1), (2, .long a2)] := hl
  have in7 : ∀ w ∈ wsX70, w ∈ uX7_append := fun w h => List.mem_cons_of_mem _ (List.mem_append_right _ h)
  refine lv_iload_n hx hb dX7_append_0 rfl (lv_at hl 1 rfl) ?_
  refine lv_iconst (v := 1) hx hb dX7_append_1 (by decide) ?_
  refine lv_isub hx hb dX7_append_2 ?_
  refine lv_topi (fun x_1 e_2 => ?_)
  have i_x_1 : x_1.toInt = a1.toInt - 1 := by rw [e_2]; exact (q_sub (by rw [show (1 : Int32).toInt = 1 by decide]; omega) (by rw [show (1 : Int32).toInt = 1 by decide]; omega)).trans (by rw [show (1 : Int32).toInt = 1 by decide])
  refine lv_istore (lv' := [(4, .int x_1), (0, .ref a0), (1, .int a1), (2, .long a2)]) hx hb dX7_append_3 hl (by decide) rfl (fun ls hl => ?_)
  refine lv_pc (pc2 := 5) rfl ?_
  refine lp_gen (fun WW hWW => ?_)
  have loop : ∀ (j : Nat) (x L : Int32) (H1 : Heap) (locs1 : List Loc) (ls1 : Array Slot), x.toInt = (j : Int) - 1 → L.toInt = gC.toInt + a1.toInt - (j : Int) → 0 ≤ L.toInt → tG D (gF cI cL cC L gE G gW gA) t H1 → tF t wrT s.heap H1 locs1 → lv_has ls1 5 [(4, .int x), (0, .ref a0), (1, .int a1), (2, .long a2)] → WW H1 locs1 (F0 m 5 ls1 []) := by
    intro j
    induction j with
    | zero =>
      intro x L H locs ls hj hL hL0 hG hS hl
      refine (hWW _ _ _).mpr ?_
      refine lv_iload hx hb dX7_append_5 (lv_at hl 0 rfl) ?_
      refine lv_if_lt (tgt := 57) hx hb dX7_append_7 (by decide) (fun c_3 => ?_) (fun c_3 => ?_)
      · skip
        have c_3 : x.toInt < 0 := q_lt c_3
        have hLa : L = gC + a1 := Int32.toInt_inj.mp (by rw [q_add (by omega) (by omega)]; omega)
        subst hLa
        exact ty_vret hx hb hr hlk hG hS True.intro dX7_append_57
      · skip
        have c_3 : 0 ≤ x.toInt := q_nlt c_3
        exfalso; omega
    | succ j ih =>
      intro x L H locs ls hj hL hL0 hG hS hl
      refine (hWW _ _ _).mpr ?_
      refine lv_pc (pc2 := 5) rfl ?_
      refine lv_iload hx hb dX7_append_5 (lv_at hl 0 rfl) ?_
      refine lv_if_lt (tgt := 57) hx hb dX7_append_7 (by decide) (fun c_4 => ?_) (fun c_4 => ?_)
      · skip
        have c_4 : x.toInt < 0 := q_lt c_4
        exfalso; omega
      · skip
        have c_4 : 0 ≤ x.toInt := q_nlt c_4
        refine lv_aload_n hx hb dX7_append_10 rfl (lv_at hl 1 rfl) ?_
        obtain ⟨r_5, r_7, v_9, at_11, h_6, h_8, h_10⟩ := gF_o2 hG k_a0
        refine va_get (D := D) (ci := 6) (v := .int L) (C := RX7) (T := TX7) (N := 4) hx hb hts in7 hown hK (va_one at_11) 0 rfl rfl 2 (by decide) (hts (.fieldLink RX7 18 "RiverModel$Text" "length" "I") (List.mem_of_getElem? (i := 1) rfl)) (fun _ h9 => h9) rfl dX7_append_11 ?_
        refine lv_sipush (v := 400) hx hb dX7_append_14 (by decide) ?_
        refine lv_icmp_ge (tgt := 57) hx hb dX7_append_17 (by decide) (fun c_12 => ?_) (fun c_12 => ?_)
        · skip
          have c_12 : 400 ≤ L.toInt := q_le c_12
          exfalso; omega
        · skip
          have c_12 : L.toInt < 400 := q_nle c_12
          refine lv_aload_n hx hb dX7_append_20 rfl (lv_at hl 1 rfl) ?_
          refine va_get (D := D) (ci := 6) (v := .ref r_5) (C := RX7) (T := TX7) (N := 4) hx hb hts in7 hown hK (va_one at_11) 0 rfl rfl 0 (by decide) (hts (.fieldLink RX7 9 "RiverModel$Text" "bytes" "[I") (List.mem_of_getElem? (i := 2) rfl)) (fun _ h9 => h9) rfl dX7_append_21 ?_
          refine lv_pc (pc2 := 24) rfl ?_
          refine lv_aload_n hx hb dX7_append_24 rfl (lv_at hl 1 rfl) ?_
          refine va_get (D := D) (ci := 6) (v := .int L) (C := RX7) (T := TX7) (N := 4) hx hb hts in7 hown hK (va_one at_11) 0 rfl rfl 2 (by decide) (hts (.fieldLink RX7 18 "RiverModel$Text" "length" "I") (List.mem_of_getElem? (i := 1) rfl)) (fun _ h9 => h9) rfl dX7_append_25 ?_
          refine lv_lload_n hx hb dX7_append_28 rfl (lv_at hl 3 rfl) ?_
          refine lv_bipush (v := 8) hx hb dX7_append_29 (by decide) ?_
          refine lv_iload hx hb dX7_append_31 (lv_at hl 0 rfl) ?_
          refine lv_imul hx hb dX7_append_33 ?_
          refine lv_topi (fun x_13 e_14 => ?_)
          refine lv_lushr hx hb dX7_append_34 rfl ?_
          refine lv_topl (fun z_15 e_16 => ?_)
          refine lv_l2i (v := z_15.toInt32) hx hb dX7_append_35 rfl ?_
          refine lv_topi (fun x_17 e_18 => ?_)
          refine lv_pc (pc2 := 36) rfl ?_
          refine lv_sipush (v := 255) hx hb dX7_append_36 (by decide) ?_
          refine lv_iand hx hb dX7_append_39 ?_
          refine lv_topi (fun x_19 e_20 => ?_)
          obtain ⟨f_21, at_22⟩ := gF_o10 hG h_6
          have b_23 : vp_in L 400 := (q_in (by omega) (by omega))
          refine ty_iast (F2 := (gF cI cL cC L gE G gW gA)) hx hb hK hG hS 0 at_22 (by rw [h_6]; rfl) rfl b_23 (by rw [h_6]; exact ⟨_, rfl⟩) tFF dX7_append_40 (fun H locs hG hS at_24 o_25 => ?_)
          have at_11 := va_at.keptK at_11 o_25 h_6 k_a0 rfl
          refine lv_aload_n hx hb dX7_append_41 rfl (lv_at hl 1 rfl) ?_
          refine lv_dup hx hb dX7_append_42 rfl ?_
          refine va_get (D := D) (ci := 6) (v := .int L) (C := RX7) (T := TX7) (N := 4) hx hb hts in7 hown hK (va_one at_11) 0 rfl rfl 2 (by decide) (hts (.fieldLink RX7 18 "RiverModel$Text" "length" "I") (List.mem_of_getElem? (i := 1) rfl)) (fun _ h9 => h9) rfl dX7_append_43 ?_
          refine lv_iconst (v := 1) hx hb dX7_append_46 (by decide) ?_
          refine lv_iadd hx hb dX7_append_47 ?_
          refine lv_topi (fun x_26 e_27 => ?_)
          have i_x_26 : x_26.toInt = L.toInt + 1 := by rw [e_27]; exact (q_add (by rw [show (1 : Int32).toInt = 1 by decide]; omega) (by rw [show (1 : Int32).toInt = 1 by decide]; omega)).trans (by rw [show (1 : Int32).toInt = 1 by decide])
          refine lv_pc (pc2 := 48) rfl ?_
          refine ty_put (D := D) (ci := 6) (v := .int x_26) (ty := .int) (C := RX7) (T := TX7) (N := 4) (F2 := (gF cI cL cC x_26 gE G gW gA)) hx hb hts in7 tyX7 tyX7_ok nmX7 hown hK hG hS at_11 (by rw [k_a0]; rfl) rfl 2 (by decide) (hts (.fieldLink RX7 18 "RiverModel$Text" "length" "I") (List.mem_of_getElem? (i := 1) rfl)) (fun _ h9 => h9) rfl (by decide +kernel) rfl rfl (Nat.le_of_ble_eq_true rfl) (by rw [k_a0]; exact ⟨r_5, r_7, v_9, rfl, h_6, h_8, (by omega)⟩) (fun hG b hb h0 => by obtain ⟨e, g1, g2⟩ := hG b h0; exact ⟨e, g1, gF_gC (fun h => hb (uq_gC b a0 h k_a0)) g2⟩) dX7_append_48 (fun H locs hG hS at_28 o_29 => ?_)
          have at_28 : va_at D vwCl (a0, .inr (6, [.ref r_5, .ref r_7, .int x_26, .int v_9])) H := at_28
          obtain ⟨x_30, e_31⟩ : ∃ y : Int32, y = x + Int32.ofInt (-1) := ⟨_, rfl⟩
          have i_x_30 : x_30.toInt = x.toInt + (-1) := by rw [e_31, show Int32.ofInt (-1) = (-1) by decide]; exact (q_add (by rw [show ((-1) : Int32).toInt = (-1) by decide]; omega) (by rw [show ((-1) : Int32).toInt = (-1) by decide]; omega)).trans (by rw [show ((-1) : Int32).toInt = (-1) by decide])
          refine lv_iinc (v := x_30) (lv' := [(4, .int x_30), (0, .ref a0), (1, .int a1), (2, .long a2)]) hx hb dX7_append_51 hl (k := 0) rfl e_31.symm (by decide) rfl (fun ls hl => ?_)
          refine lv_goto (tgt := 5) hx hb dX7_append_54 (by decide) ?_
          exact (hWW _ _ _).mp (ih x_30 x_26 H locs ls (by omega) (by omega) (by omega) hG hS (lv_sub hl [0, 1, 2, 3] rfl))
  exact loop a1.toInt.toNat x_1 gC H locs ls (by omega) (by omega) (by omega) hG hS (lv_sub hl [0, 1, 2, 3] rfl)

def uX9_write : List Cond := .code yX9_write cX9_write 4 (some .int) :: ([.methodLink RX9 99 yX9_isOutside, .static yX9_isOutside, .initialized RX9, .fieldLink RX9 10 "RiverModel" "text" "LRiverModel$Text;", .fieldLink RX9 103 "RiverModel$Text" "length" "I", .methodLink RX9 106 yX7_append, .instanceMethod yX7_append, .selects RX7 yX7_append yX7_append, .initialized RX7, .code yX9_isOutside cX9_isOutside 3 (some .boolean), .code yX7_append cX7_append 5 none, .fieldLink RX7 18 "RiverModel$Text" "length" "I", .fieldLink RX7 9 "RiverModel$Text" "bytes" "[I"] ++ wsX90 ++ wsX70)
set_option maxRecDepth 20000 in
theorem gu_X9_write_X9_isOutside_99 : GoodIn uX9_write (va_wsS RX9 99 yX9_isOutside uX9_isOutside) := goodIn_r _ [1, 2, 3, 10] rfl (by decide +kernel)
set_option maxRecDepth 20000 in
theorem gu_X9_write_X7_append_106 : GoodIn uX9_write (wsV RX9 106 RX7 yX7_append uX7_append) := goodIn_r _ [6, 7, 8, 9, 11, 12, 13, 32, 33, 34, 35] rfl (by decide +kernel)
set_option maxHeartbeats 4000000 in
set_option maxRecDepth 100000 in
theorem s_X9_write (l : Launch) (D : va_G) (t : Nat → Nat) (cI cL cC : ClassId) (gC : Int32) (gE : Int32) (G : Nat) (gW : Nat → Int32) (gA : Nat → Int32) (a0 : Nat) (a1 : Int32) (a2 : Int64) (uq_gC : ∀ b c : Nat, t b = 2 → t c = 2 → b = c) (k_a0 : t a0 = 1) : tM l yX9_write uX9_write 1 24 D (gF cI cL cC gC gE G gW gA) (gF cI cL cC (nwr gC a1) gE G gW gA) t cI cL cC [.ref a0, .int a1, .long a2] wrAll (pI (fun r => r = awr gC a1)) := by
  refine tM.ofW (cc := cX9_write) (maxL := 4) (ret := (some .int)) (by decide) rfl (Nat.le_of_ble_eq_true rfl) ?_
  intro p e s m below meth c hx hb hr hml hown hts hlk H locs hG hK hE hS ls hl
  have hl : lv_has ls 4 [(0, .ref a0), (1, .int a1), (2, .long a2)] := hl
  have in9 : ∀ w ∈ wsX90, w ∈ uX9_write := fun w h => List.mem_cons_of_mem _ (List.mem_append_left _ (List.mem_append_right _ h))
  have in7 : ∀ w ∈ wsX70, w ∈ uX9_write := fun w h => List.mem_cons_of_mem _ (List.mem_append_right _ h)
  refine lv_iload_n hx hb dX9_write_0 rfl (lv_at hl 1 rfl) ?_
  refine lv_iconst (v := 1) hx hb dX9_write_1 (by decide) ?_
  refine lv_bipush (v := 8) hx hb dX9_write_2 (by decide) ?_
  refine ty_calli ((W.runS (As := [.int a1, .int 1, .int 8]) (rest := []) ⟨hx, hb, hml, hown, hts⟩ (s_X9_isOutside l D t cI cL cC gC gE G gW gA a1 1 8 1 8 (by decide) (by decide) ) (va_cwS 3 hts gu_X9_write_X9_isOutside_99 rfl rfl rfl (by decide +kernel) ⟨Nat.le_of_ble_eq_true rfl, Nat.le_of_ble_eq_true rfl⟩) (tP_S hG hE) rfl rfl hl.1 rfl (lv_room (Nat.le_of_ble_eq_true rfl)) dX9_write_4 ⟨Nat.le_of_ble_eq_true rfl, Nat.le_of_ble_eq_true rfl⟩)) hS (fun k h => by simp [wr0] at h) (fun r_1 H locs hp_2 hG hS o_3 => ?_)
  rcases hp_2 with ⟨rfl, hc_313⟩ | ⟨rfl, hc_314, hc_315⟩
  · skip
    refine lv_if_eq (tgt := 12) hx hb dX9_write_7 (by decide) (fun q => absurd q (by decide)) (fun _ => ?_)
    refine lv_iconst (v := (-1)) hx hb dX9_write_10 (by decide) ?_
    exact ty_iret hx hb hr hlk (by rw [show nwr gC a1 = gC from (by simp only [nwr]; first | (rw [if_pos (by omega)]; done) | (rw [if_neg (by omega)]; done) | (rw [if_neg (by omega), if_pos (by omega)]; done) | (rw [if_neg (by omega), if_neg (by omega)]; done))]; exact hG) hS (by simp only [awr]; first | (rw [if_pos (by omega)]; done) | (rw [if_neg (by omega)]; done) | (rw [if_neg (by omega), if_pos (by omega)]; done) | (rw [if_neg (by omega), if_neg (by omega)]; done)) dX9_write_11
  · skip
    refine lv_pc (pc2 := 7) rfl ?_
    refine lv_if_eq (tgt := 12) hx hb dX9_write_7 (by decide) (fun _ => ?_) (fun q => absurd (by decide) q)
    refine lv_aload_n hx hb dX9_write_12 rfl (lv_at hl 0 rfl) ?_
    obtain ⟨r_4, r_6, r_8, r_10, v_12, v_13, r_14, r_16, r_18, r_20, r_22, r_24, r_26, v_28, r_30, r_32, r_34, r_36, at_38, h_5, h_7, h_9, h_11, h_15, h_17, h_19, h_21, h_23, h_25, h_27, h_29, h_31, h_33, h_35, h_37⟩ := gF_o1 hG k_a0
    refine va_get (D := D) (ci := 8) (v := .ref r_4) (C := RX9) (T := TX9) (N := 18) hx hb hts in9 hown hK (va_one at_38) 0 rfl rfl 0 (by decide) (hts (.fieldLink RX9 10 "RiverModel" "text" "LRiverModel$Text;") (List.mem_of_getElem? (i := 4) rfl)) (fun _ h9 => h9) rfl dX9_write_13 ?_
    obtain ⟨r_39, r_41, v_43, at_45, h_40, h_42, h_44⟩ := gF_o2 hG h_5
    refine va_get (D := D) (ci := 6) (v := .int gC) (C := RX7) (T := TX7) (N := 4) hx hb hts in7 hown hK (va_one at_45) 0 rfl rfl 2 (by decide) (hts (.fieldLink RX9 103 "RiverModel$Text" "length" "I") (List.mem_of_getElem? (i := 5) rfl)) (fun _ h9 => h9) rfl dX9_write_16 ?_
    refine lv_iload_n hx hb dX9_write_19 rfl (lv_at hl 1 rfl) ?_
    refine lv_iadd hx hb dX9_write_20 ?_
    refine lv_topi (fun x_46 e_47 => ?_)
    have i_x_46 : x_46.toInt = gC.toInt + a1.toInt := by rw [e_47]; exact (q_add (by omega) (by omega)).trans (by rfl)
    refine lv_sipush (v := 400) hx hb dX9_write_21 (by decide) ?_
    refine lv_icmp_le (tgt := 30) hx hb dX9_write_24 (by decide) (fun c_48 => ?_) (fun c_48 => ?_)
    · skip
      have c_48 : x_46.toInt ≤ 400 := q_le c_48
      refine lv_pc (pc2 := 30) rfl ?_
      refine lv_aload_n hx hb dX9_write_30 rfl (lv_at hl 0 rfl) ?_
      refine va_get (D := D) (ci := 8) (v := .ref r_4) (C := RX9) (T := TX9) (N := 18) hx hb hts in9 hown hK (va_one at_38) 0 rfl rfl 0 (by decide) (hts (.fieldLink RX9 10 "RiverModel" "text" "LRiverModel$Text;") (List.mem_of_getElem? (i := 4) rfl)) (fun _ h9 => h9) rfl dX9_write_31 ?_
      refine lv_iload_n hx hb dX9_write_34 rfl (lv_at hl 1 rfl) ?_
      refine lv_lload_n hx hb dX9_write_35 rfl (lv_at hl 2 rfl) ?_
      refine ty_callv ((W.runV (As := [.int a1, .long a2]) (rest := []) ⟨hx, hb, hml, hown, hts⟩ (s_X7_append l D t cI cL cC gC gE G gW gA r_4 a1 a2 uq_gC (by omega) (by omega) (by omega) (by omega) h_5) (cwV 2 hts gu_X9_write_X7_append_106 rfl rfl rfl (by decide +kernel) ⟨Nat.le_of_ble_eq_true rfl, Nat.le_of_ble_eq_true rfl⟩) (tP_V hG hE at_45 rfl) rfl rfl hl.1 rfl (lv_room (Nat.le_of_ble_eq_true rfl)) dX9_write_36 ⟨Nat.le_of_ble_eq_true rfl, Nat.le_of_ble_eq_true rfl⟩)) hS (wrL_sub (by decide)) (fun H locs hp_50 hG hS o_51 => ?_)
      have at_38 := va_at.keptC at_38 o_51 k_a0 rfl
      refine lv_aload_n hx hb dX9_write_39 rfl (lv_at hl 0 rfl) ?_
      refine va_get (D := D) (ci := 8) (v := .ref r_4) (C := RX9) (T := TX9) (N := 18) hx hb hts in9 hown hK (va_one at_38) 0 rfl rfl 0 (by decide) (hts (.fieldLink RX9 10 "RiverModel" "text" "LRiverModel$Text;") (List.mem_of_getElem? (i := 4) rfl)) (fun _ h9 => h9) rfl dX9_write_40 ?_
      obtain ⟨r_52, r_54, v_56, at_58, h_53, h_55, h_57⟩ := gF_o2 hG h_5
      refine va_get (D := D) (ci := 6) (v := .int (gC + a1)) (C := RX7) (T := TX7) (N := 4) hx hb hts in7 hown hK (va_one at_58) 0 rfl rfl 2 (by decide) (hts (.fieldLink RX9 103 "RiverModel$Text" "length" "I") (List.mem_of_getElem? (i := 5) rfl)) (fun _ h9 => h9) rfl dX9_write_43 ?_
      refine lv_pc (pc2 := 46) rfl ?_
      exact ty_iret hx hb hr hlk (by rw [show nwr gC a1 = gC + a1 from (by simp only [nwr]; first | (rw [if_pos (by omega)]; done) | (rw [if_neg (by omega)]; done) | (rw [if_neg (by omega), if_pos (by omega)]; done) | (rw [if_neg (by omega), if_neg (by omega)]; done))]; exact hG) hS (by simp only [awr]; first | (rw [if_pos (by omega)]; done) | (rw [if_neg (by omega)]; done) | (rw [if_neg (by omega), if_pos (by omega)]; done) | (rw [if_neg (by omega), if_neg (by omega)]; done)) dX9_write_46
    · skip
      have c_48 : 400 < x_46.toInt := q_nle c_48
      refine lv_bipush (v := (-3)) hx hb dX9_write_27 (by decide) ?_
      exact ty_iret hx hb hr hlk (by rw [show nwr gC a1 = gC from (by simp only [nwr]; first | (rw [if_pos (by omega)]; done) | (rw [if_neg (by omega)]; done) | (rw [if_neg (by omega), if_pos (by omega)]; done) | (rw [if_neg (by omega), if_neg (by omega)]; done))]; exact hG) hS (by simp only [awr]; first | (rw [if_pos (by omega)]; done) | (rw [if_neg (by omega)]; done) | (rw [if_neg (by omega), if_pos (by omega)]; done) | (rw [if_neg (by omega), if_neg (by omega)]; done)) dX9_write_29
