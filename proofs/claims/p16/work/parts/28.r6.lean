theorem dX10_forgets_0 : decode cX10_forgets 0 = .ok (.iconst 0, 1) := by decide +kernel
theorem dX10_forgets_1 : decode cX10_forgets 1 = .ok (.istore_n 1, 1) := by decide +kernel
theorem dX10_forgets_2 : decode cX10_forgets 2 = .ok (.iload_n 1, 1) := by decide +kernel
theorem dX10_forgets_3 : decode cX10_forgets 3 = .ok (.iconst 4, 1) := by decide +kernel
theorem dX10_forgets_4 : decode cX10_forgets 4 = .ok (.if_icmp .ge 17, 3) := by decide +kernel
theorem dX10_forgets_7 : decode cX10_forgets 7 = .ok (.aload_n 0, 1) := by decide +kernel
theorem dX10_forgets_8 : decode cX10_forgets 8 = .ok (.getfield 38, 3) := by decide +kernel
theorem dX10_forgets_11 : decode cX10_forgets 11 = .ok (.iload_n 1, 1) := by decide +kernel
theorem dX10_forgets_12 : decode cX10_forgets 12 = .ok (.bipush (-4), 2) := by decide +kernel
theorem dX10_forgets_14 : decode cX10_forgets 14 = .ok (.iastore, 1) := by decide +kernel
theorem dX10_forgets_15 : decode cX10_forgets 15 = .ok (.iinc 1 1, 3) := by decide +kernel
theorem dX10_forgets_18 : decode cX10_forgets 18 = .ok (.goto (-16), 3) := by decide +kernel
theorem dX10_forgets_21 : decode cX10_forgets 21 = .ok (.iconst 0, 1) := by decide +kernel
theorem dX10_forgets_22 : decode cX10_forgets 22 = .ok (.istore_n 1, 1) := by decide +kernel
theorem dX10_forgets_23 : decode cX10_forgets 23 = .ok (.iload_n 1, 1) := by decide +kernel
theorem dX10_forgets_24 : decode cX10_forgets 24 = .ok (.sipush 384, 3) := by decide +kernel
theorem dX10_forgets_27 : decode cX10_forgets 27 = .ok (.if_icmp .ge 16, 3) := by decide +kernel
theorem dX10_forgets_30 : decode cX10_forgets 30 = .ok (.aload_n 0, 1) := by decide +kernel
theorem dX10_forgets_31 : decode cX10_forgets 31 = .ok (.getfield 44, 3) := by decide +kernel
theorem dX10_forgets_34 : decode cX10_forgets 34 = .ok (.iload_n 1, 1) := by decide +kernel
theorem dX10_forgets_35 : decode cX10_forgets 35 = .ok (.iconst (-1), 1) := by decide +kernel
theorem dX10_forgets_36 : decode cX10_forgets 36 = .ok (.iastore, 1) := by decide +kernel
theorem dX10_forgets_37 : decode cX10_forgets 37 = .ok (.iinc 1 1, 3) := by decide +kernel
theorem dX10_forgets_40 : decode cX10_forgets 40 = .ok (.goto (-17), 3) := by decide +kernel
theorem dX10_forgets_43 : decode cX10_forgets 43 = .ok (.aload_n 0, 1) := by decide +kernel
theorem dX10_forgets_44 : decode cX10_forgets 44 = .ok (.getfield 59, 3) := by decide +kernel
theorem dX10_forgets_47 : decode cX10_forgets 47 = .ok (.iconst 0, 1) := by decide +kernel
theorem dX10_forgets_48 : decode cX10_forgets 48 = .ok (.iconst 0, 1) := by decide +kernel
theorem dX10_forgets_49 : decode cX10_forgets 49 = .ok (.iastore, 1) := by decide +kernel
theorem dX10_forgets_50 : decode cX10_forgets 50 = .ok (.aload_n 0, 1) := by decide +kernel
theorem dX10_forgets_51 : decode cX10_forgets 51 = .ok (.getfield 59, 3) := by decide +kernel
theorem dX10_forgets_54 : decode cX10_forgets 54 = .ok (.iconst 1, 1) := by decide +kernel
theorem dX10_forgets_55 : decode cX10_forgets 55 = .ok (.iconst 0, 1) := by decide +kernel
theorem dX10_forgets_56 : decode cX10_forgets 56 = .ok (.iastore, 1) := by decide +kernel
theorem dX10_forgets_57 : decode cX10_forgets 57 = .ok (.return_, 1) := by decide +kernel
theorem dX10_fault_0 : decode cX10_fault 0 = .ok (.aload_n 0, 1) := by decide +kernel
theorem dX10_fault_1 : decode cX10_fault 1 = .ok (.invokevirtual 159, 3) := by decide +kernel
theorem dX10_fault_4 : decode cX10_fault 4 = .ok (.ireturn, 1) := by decide +kernel
theorem dX10_build_0 : decode cX10_build 0 = .ok (.aload_n 0, 1) := by decide +kernel
theorem dX10_build_1 : decode cX10_build 1 = .ok (.invokevirtual 159, 3) := by decide +kernel
theorem dX10_build_4 : decode cX10_build 4 = .ok (.bipush (-4), 2) := by decide +kernel
theorem dX10_build_6 : decode cX10_build 6 = .ok (.if_icmp .eq 6, 3) := by decide +kernel
theorem dX10_build_9 : decode cX10_build 9 = .ok (.bipush (-2), 2) := by decide +kernel
theorem dX10_build_11 : decode cX10_build 11 = .ok (.ireturn, 1) := by decide +kernel
theorem dX10_build_12 : decode cX10_build 12 = .ok (.iconst 0, 1) := by decide +kernel
theorem dX10_build_13 : decode cX10_build 13 = .ok (.istore_n 1, 1) := by decide +kernel
theorem dX10_build_14 : decode cX10_build 14 = .ok (.iconst 0, 1) := by decide +kernel
theorem dX10_build_15 : decode cX10_build 15 = .ok (.istore_n 2, 1) := by decide +kernel
theorem dX10_build_16 : decode cX10_build 16 = .ok (.iload_n 2, 1) := by decide +kernel
theorem dX10_build_17 : decode cX10_build 17 = .ok (.aload_n 0, 1) := by decide +kernel
theorem dX10_build_18 : decode cX10_build 18 = .ok (.getfield 148, 3) := by decide +kernel
theorem dX10_build_21 : decode cX10_build 21 = .ok (.if_icmp .ge 33, 3) := by decide +kernel
theorem dX10_build_24 : decode cX10_build 24 = .ok (.iload_n 1, 1) := by decide +kernel
theorem dX10_build_25 : decode cX10_build 25 = .ok (.ifCond .ne 17, 3) := by decide +kernel
theorem dX10_build_28 : decode cX10_build 28 = .ok (.aload_n 0, 1) := by decide +kernel
theorem dX10_build_29 : decode cX10_build 29 = .ok (.getfield 13, 3) := by decide +kernel
theorem dX10_build_32 : decode cX10_build 32 = .ok (.bipush 40, 2) := by decide +kernel
theorem dX10_build_34 : decode cX10_build 34 = .ok (.iload_n 2, 1) := by decide +kernel
theorem dX10_build_35 : decode cX10_build 35 = .ok (.iadd, 1) := by decide +kernel
theorem dX10_build_36 : decode cX10_build 36 = .ok (.iaload, 1) := by decide +kernel
theorem dX10_build_37 : decode cX10_build 37 = .ok (.bipush 115, 2) := by decide +kernel
theorem dX10_build_39 : decode cX10_build 39 = .ok (.if_icmp .ne 7, 3) := by decide +kernel
theorem dX10_build_42 : decode cX10_build 42 = .ok (.iconst 1, 1) := by decide +kernel
theorem dX10_build_43 : decode cX10_build 43 = .ok (.goto 4, 3) := by decide +kernel
theorem dX10_build_46 : decode cX10_build 46 = .ok (.iconst 0, 1) := by decide +kernel
theorem dX10_build_47 : decode cX10_build 47 = .ok (.istore_n 1, 1) := by decide +kernel
theorem dX10_build_48 : decode cX10_build 48 = .ok (.iinc 2 1, 3) := by decide +kernel
theorem dX10_build_51 : decode cX10_build 51 = .ok (.goto (-35), 3) := by decide +kernel
theorem dX10_build_54 : decode cX10_build 54 = .ok (.iload_n 1, 1) := by decide +kernel
theorem dX10_build_55 : decode cX10_build 55 = .ok (.ifCond .ne 6, 3) := by decide +kernel
theorem dX10_build_58 : decode cX10_build 58 = .ok (.bipush (-2), 2) := by decide +kernel
theorem dX10_build_60 : decode cX10_build 60 = .ok (.ireturn, 1) := by decide +kernel
theorem dX10_build_61 : decode cX10_build 61 = .ok (.aload_n 0, 1) := by decide +kernel
theorem dX10_build_62 : decode cX10_build 62 = .ok (.aload_n 0, 1) := by decide +kernel
theorem dX10_build_63 : decode cX10_build 63 = .ok (.getfield 148, 3) := by decide +kernel
theorem dX10_build_66 : decode cX10_build 66 = .ok (.putfield 163, 3) := by decide +kernel
theorem dX10_build_69 : decode cX10_build 69 = .ok (.aload_n 0, 1) := by decide +kernel
theorem dX10_build_70 : decode cX10_build 70 = .ok (.iconst 1, 1) := by decide +kernel
theorem dX10_build_71 : decode cX10_build 71 = .ok (.invokevirtual 190, 3) := by decide +kernel
theorem dX10_build_74 : decode cX10_build 74 = .ok (.aload_n 0, 1) := by decide +kernel
theorem dX10_build_75 : decode cX10_build 75 = .ok (.invokevirtual 80, 3) := by decide +kernel
theorem dX10_build_78 : decode cX10_build 78 = .ok (.aload_n 0, 1) := by decide +kernel
theorem dX10_build_79 : decode cX10_build 79 = .ok (.getfield 163, 3) := by decide +kernel
theorem dX10_build_82 : decode cX10_build 82 = .ok (.ireturn, 1) := by decide +kernel
theorem dX10_item_0 : decode cX10_item 0 = .ok (.iload_n 1, 1) := by decide +kernel
theorem dX10_item_1 : decode cX10_item 1 = .ok (.i2l, 1) := by decide +kernel
theorem dX10_item_2 : decode cX10_item 2 = .ok (.lconst 0, 1) := by decide +kernel
theorem dX10_item_3 : decode cX10_item 3 = .ok (.ldc2_w 194, 3) := by decide +kernel
theorem dX10_item_6 : decode cX10_item 6 = .ok (.invokestatic 85, 3) := by decide +kernel
theorem dX10_item_9 : decode cX10_item 9 = .ok (.ifCond .eq 15, 3) := by decide +kernel
theorem dX10_item_12 : decode cX10_item 12 = .ok (.iload_n 2, 1) := by decide +kernel
theorem dX10_item_13 : decode cX10_item 13 = .ok (.i2l, 1) := by decide +kernel
theorem dX10_item_14 : decode cX10_item 14 = .ok (.lconst 0, 1) := by decide +kernel
theorem dX10_item_15 : decode cX10_item 15 = .ok (.ldc2_w 196, 3) := by decide +kernel
theorem dX10_item_18 : decode cX10_item 18 = .ok (.invokestatic 85, 3) := by decide +kernel
theorem dX10_item_21 : decode cX10_item 21 = .ok (.ifCond .ne 5, 3) := by decide +kernel
theorem dX10_item_24 : decode cX10_item 24 = .ok (.iconst (-1), 1) := by decide +kernel
theorem dX10_item_25 : decode cX10_item 25 = .ok (.ireturn, 1) := by decide +kernel
theorem dX10_item_26 : decode cX10_item 26 = .ok (.aload_n 0, 1) := by decide +kernel
theorem dX10_item_27 : decode cX10_item 27 = .ok (.getfield 173, 3) := by decide +kernel
theorem dX10_item_30 : decode cX10_item 30 = .ok (.ifCond .eq 11, 3) := by decide +kernel
theorem dX10_item_33 : decode cX10_item 33 = .ok (.iload_n 1, 1) := by decide +kernel
theorem dX10_item_34 : decode cX10_item 34 = .ok (.aload_n 0, 1) := by decide +kernel
theorem dX10_item_35 : decode cX10_item 35 = .ok (.getfield 163, 3) := by decide +kernel
theorem dX10_item_38 : decode cX10_item 38 = .ok (.if_icmp .lt 6, 3) := by decide +kernel
theorem dX10_item_41 : decode cX10_item 41 = .ok (.bipush (-2), 2) := by decide +kernel
theorem dX10_item_43 : decode cX10_item 43 = .ok (.ireturn, 1) := by decide +kernel
theorem dX10_item_44 : decode cX10_item 44 = .ok (.iload_n 2, 1) := by decide +kernel
theorem dX10_item_45 : decode cX10_item 45 = .ok (.ifCond .ne 12, 3) := by decide +kernel
theorem dX10_item_48 : decode cX10_item 48 = .ok (.aload_n 0, 1) := by decide +kernel
theorem dX10_item_49 : decode cX10_item 49 = .ok (.getfield 13, 3) := by decide +kernel
theorem dX10_item_52 : decode cX10_item 52 = .ok (.iload_n 1, 1) := by decide +kernel
theorem dX10_item_53 : decode cX10_item 53 = .ok (.iaload, 1) := by decide +kernel
theorem dX10_item_54 : decode cX10_item 54 = .ok (.goto 43, 3) := by decide +kernel
theorem dX10_item_57 : decode cX10_item 57 = .ok (.iload_n 2, 1) := by decide +kernel
theorem dX10_item_58 : decode cX10_item 58 = .ok (.iconst 1, 1) := by decide +kernel
theorem dX10_item_59 : decode cX10_item 59 = .ok (.if_icmp .ne 12, 3) := by decide +kernel
theorem dX10_item_62 : decode cX10_item 62 = .ok (.aload_n 0, 1) := by decide +kernel
theorem dX10_item_63 : decode cX10_item 63 = .ok (.getfield 16, 3) := by decide +kernel
theorem dX10_item_66 : decode cX10_item 66 = .ok (.iload_n 1, 1) := by decide +kernel
theorem dX10_item_67 : decode cX10_item 67 = .ok (.iaload, 1) := by decide +kernel
theorem dX10_item_68 : decode cX10_item 68 = .ok (.goto 29, 3) := by decide +kernel
theorem dX10_item_71 : decode cX10_item 71 = .ok (.iload_n 2, 1) := by decide +kernel
theorem dX10_item_72 : decode cX10_item 72 = .ok (.iconst 2, 1) := by decide +kernel
theorem dX10_item_73 : decode cX10_item 73 = .ok (.if_icmp .ne 12, 3) := by decide +kernel
theorem dX10_item_76 : decode cX10_item 76 = .ok (.aload_n 0, 1) := by decide +kernel
theorem dX10_item_77 : decode cX10_item 77 = .ok (.getfield 19, 3) := by decide +kernel
theorem dX10_item_80 : decode cX10_item 80 = .ok (.iload_n 1, 1) := by decide +kernel
theorem dX10_item_81 : decode cX10_item 81 = .ok (.iaload, 1) := by decide +kernel
theorem dX10_item_82 : decode cX10_item 82 = .ok (.goto 15, 3) := by decide +kernel
theorem dX10_item_85 : decode cX10_item 85 = .ok (.aload_n 0, 1) := by decide +kernel
theorem dX10_item_86 : decode cX10_item 86 = .ok (.getfield 22, 3) := by decide +kernel
theorem dX10_item_89 : decode cX10_item 89 = .ok (.iconst 3, 1) := by decide +kernel
theorem dX10_item_90 : decode cX10_item 90 = .ok (.iload_n 1, 1) := by decide +kernel
theorem dX10_item_91 : decode cX10_item 91 = .ok (.imul, 1) := by decide +kernel
theorem dX10_item_92 : decode cX10_item 92 = .ok (.iload_n 2, 1) := by decide +kernel
theorem dX10_item_93 : decode cX10_item 93 = .ok (.iadd, 1) := by decide +kernel
theorem dX10_item_94 : decode cX10_item 94 = .ok (.iconst 3, 1) := by decide +kernel
theorem dX10_item_95 : decode cX10_item 95 = .ok (.isub, 1) := by decide +kernel
theorem dX10_item_96 : decode cX10_item 96 = .ok (.iaload, 1) := by decide +kernel
theorem dX10_item_97 : decode cX10_item 97 = .ok (.ireturn, 1) := by decide +kernel
theorem dX10_weather_0 : decode cX10_weather 0 = .ok (.iload_n 1, 1) := by decide +kernel
theorem dX10_weather_1 : decode cX10_weather 1 = .ok (.i2l, 1) := by decide +kernel
theorem dX10_weather_2 : decode cX10_weather 2 = .ok (.lconst 0, 1) := by decide +kernel
theorem dX10_weather_3 : decode cX10_weather 3 = .ok (.lconst 1, 1) := by decide +kernel
theorem dX10_weather_4 : decode cX10_weather 4 = .ok (.invokestatic 85, 3) := by decide +kernel
theorem dX10_weather_7 : decode cX10_weather 7 = .ok (.ifCond .eq 42, 3) := by decide +kernel
theorem dX10_weather_10 : decode cX10_weather 10 = .ok (.iload_n 2, 1) := by decide +kernel
theorem dX10_weather_11 : decode cX10_weather 11 = .ok (.i2l, 1) := by decide +kernel
theorem dX10_weather_12 : decode cX10_weather 12 = .ok (.lconst 0, 1) := by decide +kernel
theorem dX10_weather_13 : decode cX10_weather 13 = .ok (.ldc2_w 198, 3) := by decide +kernel
theorem dX10_weather_16 : decode cX10_weather 16 = .ok (.invokestatic 85, 3) := by decide +kernel
theorem dX10_weather_19 : decode cX10_weather 19 = .ok (.ifCond .eq 30, 3) := by decide +kernel
theorem dX10_weather_22 : decode cX10_weather 22 = .ok (.iload_n 3, 1) := by decide +kernel
theorem dX10_weather_23 : decode cX10_weather 23 = .ok (.i2l, 1) := by decide +kernel
theorem dX10_weather_24 : decode cX10_weather 24 = .ok (.lconst 0, 1) := by decide +kernel
theorem dX10_weather_25 : decode cX10_weather 25 = .ok (.ldc2_w 103, 3) := by decide +kernel
theorem dX10_weather_28 : decode cX10_weather 28 = .ok (.invokestatic 85, 3) := by decide +kernel
theorem dX10_weather_31 : decode cX10_weather 31 = .ok (.ifCond .eq 18, 3) := by decide +kernel
theorem dX10_weather_34 : decode cX10_weather 34 = .ok (.iload 4, 2) := by decide +kernel
theorem dX10_weather_36 : decode cX10_weather 36 = .ok (.i2l, 1) := by decide +kernel
theorem dX10_weather_37 : decode cX10_weather 37 = .ok (.ldc2_w 200, 3) := by decide +kernel
theorem dX10_weather_40 : decode cX10_weather 40 = .ok (.ldc2_w 202, 3) := by decide +kernel
theorem dX10_weather_43 : decode cX10_weather 43 = .ok (.invokestatic 85, 3) := by decide +kernel
theorem dX10_weather_46 : decode cX10_weather 46 = .ok (.ifCond .ne 5, 3) := by decide +kernel
theorem dX10_weather_49 : decode cX10_weather 49 = .ok (.iconst (-1), 1) := by decide +kernel
theorem dX10_weather_50 : decode cX10_weather 50 = .ok (.ireturn, 1) := by decide +kernel
theorem dX10_weather_51 : decode cX10_weather 51 = .ok (.aload_n 0, 1) := by decide +kernel
theorem dX10_weather_52 : decode cX10_weather 52 = .ok (.getfield 25, 3) := by decide +kernel
theorem dX10_weather_55 : decode cX10_weather 55 = .ok (.sipush 192, 3) := by decide +kernel
theorem dX10_weather_58 : decode cX10_weather 58 = .ok (.iload_n 1, 1) := by decide +kernel
theorem dX10_weather_59 : decode cX10_weather 59 = .ok (.imul, 1) := by decide +kernel
theorem dX10_weather_60 : decode cX10_weather 60 = .ok (.iconst 2, 1) := by decide +kernel
theorem dX10_weather_61 : decode cX10_weather 61 = .ok (.iload_n 2, 1) := by decide +kernel
theorem dX10_weather_62 : decode cX10_weather 62 = .ok (.imul, 1) := by decide +kernel
theorem dX10_weather_63 : decode cX10_weather 63 = .ok (.iadd, 1) := by decide +kernel
theorem dX10_weather_64 : decode cX10_weather 64 = .ok (.iload_n 3, 1) := by decide +kernel
theorem dX10_weather_65 : decode cX10_weather 65 = .ok (.iastore, 1) := by decide +kernel
theorem dX10_weather_66 : decode cX10_weather 66 = .ok (.aload_n 0, 1) := by decide +kernel
theorem dX10_weather_67 : decode cX10_weather 67 = .ok (.getfield 25, 3) := by decide +kernel
theorem dX10_weather_70 : decode cX10_weather 70 = .ok (.sipush 192, 3) := by decide +kernel
theorem dX10_weather_73 : decode cX10_weather 73 = .ok (.iload_n 1, 1) := by decide +kernel
theorem dX10_weather_74 : decode cX10_weather 74 = .ok (.imul, 1) := by decide +kernel
theorem dX10_weather_75 : decode cX10_weather 75 = .ok (.iconst 2, 1) := by decide +kernel
theorem dX10_weather_76 : decode cX10_weather 76 = .ok (.iload_n 2, 1) := by decide +kernel
theorem dX10_weather_77 : decode cX10_weather 77 = .ok (.imul, 1) := by decide +kernel
theorem dX10_weather_78 : decode cX10_weather 78 = .ok (.iadd, 1) := by decide +kernel
theorem dX10_weather_79 : decode cX10_weather 79 = .ok (.iconst 1, 1) := by decide +kernel
theorem dX10_weather_80 : decode cX10_weather 80 = .ok (.iadd, 1) := by decide +kernel
theorem dX10_weather_81 : decode cX10_weather 81 = .ok (.iload 4, 2) := by decide +kernel
theorem dX10_weather_83 : decode cX10_weather 83 = .ok (.iastore, 1) := by decide +kernel
theorem dX10_weather_84 : decode cX10_weather 84 = .ok (.iconst 0, 1) := by decide +kernel
theorem dX10_weather_85 : decode cX10_weather 85 = .ok (.ireturn, 1) := by decide +kernel
theorem dX10_anew_0 : decode cX10_anew 0 = .ok (.aload_n 0, 1) := by decide +kernel
theorem dX10_anew_1 : decode cX10_anew 1 = .ok (.getfield 173, 3) := by decide +kernel
theorem dX10_anew_4 : decode cX10_anew 4 = .ok (.ifCond .ne 6, 3) := by decide +kernel
theorem dX10_anew_7 : decode cX10_anew 7 = .ok (.bipush (-2), 2) := by decide +kernel
theorem dX10_anew_9 : decode cX10_anew 9 = .ok (.ireturn, 1) := by decide +kernel
theorem dX10_anew_10 : decode cX10_anew 10 = .ok (.aload_n 0, 1) := by decide +kernel
theorem dX10_anew_11 : decode cX10_anew 11 = .ok (.getfield 28, 3) := by decide +kernel
theorem dX10_anew_14 : decode cX10_anew 14 = .ok (.sipush 231, 3) := by decide +kernel
theorem dX10_anew_17 : decode cX10_anew 17 = .ok (.laload, 1) := by decide +kernel
theorem dX10_anew_18 : decode cX10_anew 18 = .ok (.l2i, 1) := by decide +kernel
theorem dX10_anew_19 : decode cX10_anew 19 = .ok (.istore_n 1, 1) := by decide +kernel
theorem dX10_anew_20 : decode cX10_anew 20 = .ok (.aload_n 0, 1) := by decide +kernel
theorem dX10_anew_21 : decode cX10_anew 21 = .ok (.iconst 0, 1) := by decide +kernel
theorem dX10_anew_22 : decode cX10_anew 22 = .ok (.iconst 0, 1) := by decide +kernel
theorem dX10_anew_23 : decode cX10_anew 23 = .ok (.invokevirtual 186, 3) := by decide +kernel
theorem dX10_anew_26 : decode cX10_anew 26 = .ok (.iload_n 1, 1) := by decide +kernel
theorem dX10_anew_27 : decode cX10_anew 27 = .ok (.ireturn, 1) := by decide +kernel
theorem dX10_run_0 : decode cX10_run 0 = .ok (.iload_n 1, 1) := by decide +kernel
theorem dX10_run_1 : decode cX10_run 1 = .ok (.i2l, 1) := by decide +kernel
theorem dX10_run_2 : decode cX10_run 2 = .ok (.lconst 1, 1) := by decide +kernel
theorem dX10_run_3 : decode cX10_run 3 = .ok (.ldc2_w 229, 3) := by decide +kernel
theorem dX10_run_6 : decode cX10_run 6 = .ok (.invokestatic 85, 3) := by decide +kernel
theorem dX10_run_9 : decode cX10_run 9 = .ok (.ifCond .ne 5, 3) := by decide +kernel
theorem dX10_run_12 : decode cX10_run 12 = .ok (.iconst (-1), 1) := by decide +kernel
theorem dX10_run_13 : decode cX10_run 13 = .ok (.ireturn, 1) := by decide +kernel
theorem dX10_run_14 : decode cX10_run 14 = .ok (.aload_n 0, 1) := by decide +kernel
theorem dX10_run_15 : decode cX10_run 15 = .ok (.getfield 173, 3) := by decide +kernel
theorem dX10_run_18 : decode cX10_run 18 = .ok (.ifCond .ne 6, 3) := by decide +kernel
theorem dX10_run_21 : decode cX10_run 21 = .ok (.bipush (-2), 2) := by decide +kernel
theorem dX10_run_23 : decode cX10_run 23 = .ok (.ireturn, 1) := by decide +kernel
theorem dX10_run_24 : decode cX10_run 24 = .ok (.aload_n 0, 1) := by decide +kernel
theorem dX10_run_25 : decode cX10_run 25 = .ok (.getfield 28, 3) := by decide +kernel
theorem dX10_run_28 : decode cX10_run 28 = .ok (.sipush 231, 3) := by decide +kernel
theorem dX10_run_31 : decode cX10_run 31 = .ok (.laload, 1) := by decide +kernel
theorem dX10_run_32 : decode cX10_run 32 = .ok (.iload_n 1, 1) := by decide +kernel
theorem dX10_run_33 : decode cX10_run 33 = .ok (.i2l, 1) := by decide +kernel
theorem dX10_run_34 : decode cX10_run 34 = .ok (.ladd, 1) := by decide +kernel
theorem dX10_run_35 : decode cX10_run 35 = .ok (.ldc2_w 229, 3) := by decide +kernel
theorem dX10_run_38 : decode cX10_run 38 = .ok (.lcmp, 1) := by decide +kernel
theorem dX10_run_39 : decode cX10_run 39 = .ok (.ifCond .le 6, 3) := by decide +kernel
theorem dX10_run_42 : decode cX10_run 42 = .ok (.bipush (-3), 2) := by decide +kernel
theorem dX10_run_44 : decode cX10_run 44 = .ok (.ireturn, 1) := by decide +kernel
theorem dX10_run_45 : decode cX10_run 45 = .ok (.iconst 0, 1) := by decide +kernel
theorem dX10_run_46 : decode cX10_run 46 = .ok (.istore_n 2, 1) := by decide +kernel
theorem dX10_run_47 : decode cX10_run 47 = .ok (.iload_n 2, 1) := by decide +kernel
theorem dX10_run_48 : decode cX10_run 48 = .ok (.iload_n 1, 1) := by decide +kernel
theorem dX10_run_49 : decode cX10_run 49 = .ok (.if_icmp .ge 15, 3) := by decide +kernel
theorem dX10_run_52 : decode cX10_run 52 = .ok (.aload_n 0, 1) := by decide +kernel
theorem dX10_run_53 : decode cX10_run 53 = .ok (.iconst 0, 1) := by decide +kernel
theorem dX10_run_54 : decode cX10_run 54 = .ok (.iconst 0, 1) := by decide +kernel
theorem dX10_run_55 : decode cX10_run 55 = .ok (.invokevirtual 231, 3) := by decide +kernel
theorem dX10_run_58 : decode cX10_run 58 = .ok (.iinc 2 1, 3) := by decide +kernel
theorem dX10_run_61 : decode cX10_run 61 = .ok (.goto (-14), 3) := by decide +kernel
theorem dX10_run_64 : decode cX10_run 64 = .ok (.aload_n 0, 1) := by decide +kernel
theorem dX10_run_65 : decode cX10_run 65 = .ok (.getfield 28, 3) := by decide +kernel
theorem dX10_run_68 : decode cX10_run 68 = .ok (.sipush 231, 3) := by decide +kernel
theorem dX10_run_71 : decode cX10_run 71 = .ok (.laload, 1) := by decide +kernel
theorem dX10_run_72 : decode cX10_run 72 = .ok (.l2i, 1) := by decide +kernel
theorem dX10_run_73 : decode cX10_run 73 = .ok (.ireturn, 1) := by decide +kernel
theorem dX10_has_0 : decode cX10_has 0 = .ok (.iload_n 1, 1) := by decide +kernel
theorem dX10_has_1 : decode cX10_has 1 = .ok (.i2l, 1) := by decide +kernel
theorem dX10_has_2 : decode cX10_has 2 = .ok (.lconst 0, 1) := by decide +kernel
theorem dX10_has_3 : decode cX10_has 3 = .ok (.ldc2_w 234, 3) := by decide +kernel
theorem dX10_has_6 : decode cX10_has 6 = .ok (.invokestatic 85, 3) := by decide +kernel
theorem dX10_has_9 : decode cX10_has 9 = .ok (.ifCond .eq 13, 3) := by decide +kernel
theorem dX10_has_12 : decode cX10_has 12 = .ok (.iload_n 2, 1) := by decide +kernel
theorem dX10_has_13 : decode cX10_has 13 = .ok (.i2l, 1) := by decide +kernel
theorem dX10_has_14 : decode cX10_has 14 = .ok (.lconst 0, 1) := by decide +kernel
theorem dX10_has_15 : decode cX10_has 15 = .ok (.lconst 1, 1) := by decide +kernel
theorem dX10_has_16 : decode cX10_has 16 = .ok (.invokestatic 85, 3) := by decide +kernel
theorem dX10_has_19 : decode cX10_has 19 = .ok (.ifCond .ne 7, 3) := by decide +kernel
theorem dX10_has_22 : decode cX10_has 22 = .ok (.ldc2_w 236, 3) := by decide +kernel
theorem dX10_has_25 : decode cX10_has 25 = .ok (.lreturn, 1) := by decide +kernel
theorem dX10_has_26 : decode cX10_has 26 = .ok (.aload_n 0, 1) := by decide +kernel
theorem dX10_has_27 : decode cX10_has 27 = .ok (.getfield 173, 3) := by decide +kernel
theorem dX10_has_30 : decode cX10_has 30 = .ok (.ifCond .eq 11, 3) := by decide +kernel
theorem dX10_has_33 : decode cX10_has 33 = .ok (.aload_n 0, 1) := by decide +kernel
theorem dX10_has_34 : decode cX10_has 34 = .ok (.iload_n 1, 1) := by decide +kernel
theorem dX10_has_35 : decode cX10_has 35 = .ok (.invokevirtual 208, 3) := by decide +kernel
theorem dX10_has_38 : decode cX10_has 38 = .ok (.ifCond .ne 7, 3) := by decide +kernel
theorem dX10_has_41 : decode cX10_has 41 = .ok (.ldc2_w 238, 3) := by decide +kernel
theorem dX10_has_44 : decode cX10_has 44 = .ok (.lreturn, 1) := by decide +kernel
theorem dX10_has_45 : decode cX10_has 45 = .ok (.iload_n 2, 1) := by decide +kernel
theorem dX10_has_46 : decode cX10_has 46 = .ok (.ifCond .ne 12, 3) := by decide +kernel
theorem dX10_has_49 : decode cX10_has 49 = .ok (.aload_n 0, 1) := by decide +kernel
theorem dX10_has_50 : decode cX10_has 50 = .ok (.getfield 28, 3) := by decide +kernel
theorem dX10_has_53 : decode cX10_has 53 = .ok (.iload_n 1, 1) := by decide +kernel
theorem dX10_has_54 : decode cX10_has 54 = .ok (.laload, 1) := by decide +kernel
theorem dX10_has_55 : decode cX10_has 55 = .ok (.goto 8, 3) := by decide +kernel
theorem dX10_has_58 : decode cX10_has 58 = .ok (.aload_n 0, 1) := by decide +kernel
theorem dX10_has_59 : decode cX10_has 59 = .ok (.iload_n 1, 1) := by decide +kernel
theorem dX10_has_60 : decode cX10_has 60 = .ok (.invokevirtual 240, 3) := by decide +kernel
theorem dX10_has_63 : decode cX10_has 63 = .ok (.lreturn, 1) := by decide +kernel
def uX10_forgets : List Cond := .code yX10_forgets cX10_forgets 2 none :: ([.fieldLink RX10 59 "RiverModelModel" "knobMany" "[I", .fieldLink RX10 44 "RiverModelModel" "seen" "[I", .fieldLink RX10 38 "RiverModelModel" "gaugeKind" "[I"] ++ wsX100)
set_option maxHeartbeats 4000000 in
set_option maxRecDepth 100000 in
theorem m_X10_forgets (l : Launch) (D : va_G) (t : Nat → Nat) (cI cL cC : ClassId) (gC : Int32) (gE : Int32) (gW : Nat → Int32) (gA : Nat → Int32) (gT : Nat → Int32) (gI : Int32) (gS : Int32) (gM : Int32) (K : Nat → Int32) (F : Nat → Int32) (S : Nat → Int32) (N : Nat → Int32) (gH : Int) (gJ : Int) (ge : Int32) (gk : Int32) (gf : Int32) (gs : Int32) (gg : Int32) (gr : Int32) (RN : Nat → Int32) (gb : Int32) (rV : Nat → Int32) (rN : Nat → Int32) (a0 : Nat) (uq : ∀ b c : Nat, t b = t c → t b ≠ 0 → b = c) (k_a0 : t a0 = 40) : tMx (Z := (Nat → Int32) × (Nat → Int32)) l yX10_forgets uX10_forgets 0 0 D (mF cI cL cC gC gE gW gA gT gI gS gM K F S N gH gJ ge gk gf gs gg gr RN gb rV rN) (fun z => (mF cI cL cC gC gE gW gA gT gI gS gM K F S N gH gJ ge gk gf gs gg gr RN gb z.1 z.2)) t cI cL cC [.ref a0] wFo (xV (fun (z : (Nat → Int32) × (Nat → Int32)) => (∀ j : Nat, j < 4 → z.1 j = -4) ∧ (∀ j : Nat, j < 384 → z.2 j = -1))) := by
  refine tMx.ofW (cc := cX10_forgets) (maxL := 2) (ret := none) (by decide) rfl (Nat.le_of_ble_eq_true rfl) ?_
  intro p e s m below meth c hx hb hr hml hown hts hlk H locs hG hK hE hS ls hl
  have hl : lv_has ls 2 [(0, .ref a0)] := hl
  have in10 : ∀ w ∈ wsX100, w ∈ uX10_forgets := fun w h => List.mem_cons_of_mem _ (List.mem_append_right _ h)
  refine lv_iconst (v := 0) hx hb dX10_forgets_0 (by decide) ?_
  refine lv_istore_n (lv' := [(1, .int 0), (0, .ref a0)]) hx hb dX10_forgets_1 rfl hl (by decide) rfl (fun ls hl => ?_)
  refine lv_pc (pc2 := 2) rfl ?_
  refine lp_gen (fun WW1 hWW1 => ?_)
  have kx1 : ∀ (yk : Int32) (v1 : Nat → Int32) (H1 : Heap) (locs1 : List Loc) (ls1 : Array Slot), (0 ≤ yk.toInt) → (yk.toInt ≤ 4) → (alT v1 yk.toInt (-4)) → (4 ≤ yk.toInt) → tG D (mF cI cL cC gC gE gW gA gT gI gS gM K F S N gH gJ ge gk gf gs gg gr RN gb v1 rN) t H1 → tF t wFo s.heap H1 locs1 → lv_has ls1 2 [(1, .int yk), (0, .ref a0)] → WW1 H1 locs1 (F0 m 21 ls1 []) := by
    intro yk v1 H locs ls v1_0 v1_1 v1_2 xf1_0 hG hS hl
    refine (hWW1 _ _ _).mpr ?_
    have hv4 := alT.all (N := 4) v1_2 (by omega)
    refine lv_iconst (v := 0) hx hb dX10_forgets_21 (by decide) ?_
    refine lv_istore_n (lv' := [(1, .int 0), (0, .ref a0)]) hx hb dX10_forgets_22 rfl hl (by decide) rfl (fun ls hl => ?_)
    refine lv_pc (pc2 := 23) rfl ?_
    refine lp_gen (fun WW2 hWW2 => ?_)
    have kx2 : ∀ (yk : Int32) (n1 : Nat → Int32) (H1 : Heap) (locs1 : List Loc) (ls1 : Array Slot), (0 ≤ yk.toInt) → (yk.toInt ≤ 384) → (alT n1 yk.toInt (-1)) → (384 ≤ yk.toInt) → tG D (mF cI cL cC gC gE gW gA gT gI gS gM K F S N gH gJ ge gk gf gs gg gr RN gb v1 n1) t H1 → tF t wFo s.heap H1 locs1 → lv_has ls1 2 [(1, .int yk), (0, .ref a0)] → WW2 H1 locs1 (F0 m 43 ls1 []) := by
      intro yk n1 H locs ls v2_0 v2_1 v2_2 xf2_0 hG hS hl
      refine (hWW2 _ _ _).mpr ?_
      refine lv_aload_n hx hb dX10_forgets_43 rfl (lv_at hl 1 rfl) ?_
      obtain ⟨r_3, r_5, r_7, r_9, r_11, r_13, r_15, r_17, r_19, r_21, r_23, r_25, r_27, r_29, r_31, r_33, r_35, r_37, r_39, r_41, r_43, r_45, v_47, r_48, at_50, h_4, h_6, h_8, h_10, h_12, h_14, h_16, h_18, h_20, h_22, h_24, h_26, h_28, h_30, h_32, h_34, h_36, h_38, h_40, h_42, h_44, h_46, h_49⟩ := mF_o40 hG k_a0
      refine va_get (D := D) (ci := 9) (v := .ref r_35) (C := RX10) (T := TX10) (N := 36) hx hb hts in10 hown hK (va_one at_50) 0 rfl rfl 22 (by decide) (hts (.fieldLink RX10 59 "RiverModelModel" "knobMany" "[I") (List.mem_of_getElem? (i := 1) rfl)) (fun _ h9 => h9) rfl dX10_forgets_44 ?_
      refine lv_iconst (v := 0) hx hb dX10_forgets_47 (by decide) ?_
      refine lv_pc (pc2 := 48) rfl ?_
      refine lv_iconst (v := 0) hx hb dX10_forgets_48 (by decide) ?_
      obtain ⟨f_51, at_52, h_53⟩ := mF_o57 hG h_36
      have b_54 : vp_in 0 2 := (q_in (by decide) (by decide))
      have zi_0 : (0 : Int32).toInt = 0 := by decide
      refine ty_iast (F2 := (mF cI cL cC gC gE gW gA gT gI gS gM K F S N gH gJ ge gk gf gs gg gr RN gb v1 n1)) hx hb hK hG hS 0 at_52 (by rw [h_36]; rfl) rfl b_54 (by rw [h_36]; exact ⟨_, rfl, gBd_upd h_53 (by omega)⟩) tFF dX10_forgets_49 (fun H locs hG hS at_55 o_56 => ?_)
      have at_50 := va_at.keptK at_50 o_56 h_36 k_a0 rfl
      refine lv_aload_n hx hb dX10_forgets_50 rfl (lv_at hl 1 rfl) ?_
      refine va_get (D := D) (ci := 9) (v := .ref r_35) (C := RX10) (T := TX10) (N := 36) hx hb hts in10 hown hK (va_one at_50) 0 rfl rfl 22 (by decide) (hts (.fieldLink RX10 59 "RiverModelModel" "knobMany" "[I") (List.mem_of_getElem? (i := 1) rfl)) (fun _ h9 => h9) rfl dX10_forgets_51 ?_
      refine lv_iconst (v := 1) hx hb dX10_forgets_54 (by decide) ?_
      refine lv_iconst (v := 0) hx hb dX10_forgets_55 (by decide) ?_
      obtain ⟨f_57, at_58, h_59⟩ := mF_o57 hG h_36
      have b_60 : vp_in 1 2 := (q_in (by decide) (by decide))
      have zi_1 : (1 : Int32).toInt = 1 := by decide
      refine ty_iast (F2 := (mF cI cL cC gC gE gW gA gT gI gS gM K F S N gH gJ ge gk gf gs gg gr RN gb v1 n1)) hx hb hK hG hS 0 at_58 (by rw [h_36]; rfl) rfl b_60 (by rw [h_36]; exact ⟨_, rfl, gBd_upd h_59 (by omega)⟩) tFF dX10_forgets_56 (fun H locs hG hS at_61 o_62 => ?_)
      have at_50 := va_at.keptK at_50 o_62 h_36 k_a0 rfl
      exact tx_vret (z := (v1, n1)) hx hb hr hlk hG hS ⟨hv4, (alT.all (N := 384) v2_2 (by omega))⟩ dX10_forgets_57
    have lp2 : ∀ (kk2 : Nat) (yk : Int32) (n1 : Nat → Int32) (H1 : Heap) (locs1 : List Loc) (ls1 : Array Slot), 384 - yk.toInt ≤ (kk2 : Int) → (0 ≤ yk.toInt) → (yk.toInt ≤ 384) → (alT n1 yk.toInt (-1)) → tG D (mF cI cL cC gC gE gW gA gT gI gS gM K F S N gH gJ ge gk gf gs gg gr RN gb v1 n1) t H1 → tF t wFo s.heap H1 locs1 → lv_has ls1 2 [(1, .int yk), (0, .ref a0)] → WW2 H1 locs1 (F0 m 23 ls1 []) := by
      intro kk2
      induction kk2 with
      | zero =>
        intro yk n1 H locs ls hk2 v2_0 v2_1 v2_2 hG hS hl
        refine (hWW2 _ _ _).mpr ?_
        refine lv_pc (pc2 := 23) rfl ?_
        refine lv_iload_n hx hb dX10_forgets_23 rfl (lv_at hl 0 rfl) ?_
        refine lv_sipush (v := 384) hx hb dX10_forgets_24 (by decide) ?_
        refine lv_icmp_ge (tgt := 43) hx hb dX10_forgets_27 (by decide) (fun c_63 => ?_) (fun c_63 => ?_)
        · skip
          have c_63 : 384 ≤ yk.toInt := q_le c_63
          exact (hWW2 _ _ _).mp (kx2 yk n1 H locs ls v2_0 v2_1 v2_2 (by omega) hG hS (lv_sub hl [0, 1] rfl))
        · skip
          have c_63 : yk.toInt < 384 := q_nle c_63
          exfalso; omega
      | succ kk2 ih2 =>
        intro yk n1 H locs ls hk2 v2_0 v2_1 v2_2 hG hS hl
        refine (hWW2 _ _ _).mpr ?_
        refine lv_iload_n hx hb dX10_forgets_23 rfl (lv_at hl 0 rfl) ?_
        refine lv_sipush (v := 384) hx hb dX10_forgets_24 (by decide) ?_
        refine lv_icmp_ge (tgt := 43) hx hb dX10_forgets_27 (by decide) (fun c_64 => ?_) (fun c_64 => ?_)
        · skip
          have c_64 : 384 ≤ yk.toInt := q_le c_64
          exact (hWW2 _ _ _).mp (kx2 yk n1 H locs ls v2_0 v2_1 v2_2 (by omega) hG hS (lv_sub hl [0, 1] rfl))
        · skip
          have c_64 : yk.toInt < 384 := q_nle c_64
          refine lv_aload_n hx hb dX10_forgets_30 rfl (lv_at hl 1 rfl) ?_
          obtain ⟨r_65, r_67, r_69, r_71, r_73, r_75, r_77, r_79, r_81, r_83, r_85, r_87, r_89, r_91, r_93, r_95, r_97, r_99, r_101, r_103, r_105, r_107, v_109, r_110, at_112, h_66, h_68, h_70, h_72, h_74, h_76, h_78, h_80, h_82, h_84, h_86, h_88, h_90, h_92, h_94, h_96, h_98, h_100, h_102, h_104, h_106, h_108, h_111⟩ := mF_o40 hG k_a0
          refine va_get (D := D) (ci := 9) (v := .ref r_87) (C := RX10) (T := TX10) (N := 36) hx hb hts in10 hown hK (va_one at_112) 0 rfl rfl 16 (by decide) (hts (.fieldLink RX10 44 "RiverModelModel" "seen" "[I") (List.mem_of_getElem? (i := 2) rfl)) (fun _ h9 => h9) rfl dX10_forgets_31 ?_
          refine lv_pc (pc2 := 34) rfl ?_
          refine lv_iload_n hx hb dX10_forgets_34 rfl (lv_at hl 0 rfl) ?_
          refine lv_iconst (v := (-1)) hx hb dX10_forgets_35 (by decide) ?_
          have at_113 := mF_o52 hG h_88
          have b_114 : vp_in yk 384 := (q_in (by omega) (by omega))
          have zi_m1 : ((-1) : Int32).toInt = (-1) := by decide
          obtain ⟨q_115, eq_115⟩ : ∃ q : Nat → Int32, q = upd n1 yk.toNatClampNeg (-1) := ⟨_, rfl⟩
          refine ty_iast (F2 := (mF cI cL cC gC gE gW gA gT gI gS gM K F S N gH gJ ge gk gf gs gg gr RN gb v1 q_115)) hx hb hK hG hS 0 at_113 (by rw [h_88]; rfl) rfl b_114 (by rw [h_88]; show _ = _; rw [eq_115]) (fun hG b hb h0 => by obtain ⟨e, g1, g2⟩ := hG b h0; exact ⟨e, g1, mF_rN (fun h => hb (uq b r_87 (h.trans h_88.symm) h0)) g2⟩) dX10_forgets_36 (fun H locs hG hS at_116 o_117 => ?_)
          have at_112 := va_at.keptK at_112 o_117 h_88 k_a0 rfl
          obtain ⟨x_118, e_119⟩ : ∃ y : Int32, y = yk + Int32.ofInt 1 := ⟨_, rfl⟩
          have i_x_118 : x_118.toInt = yk.toInt + 1 := by rw [e_119, show Int32.ofInt 1 = 1 by decide]; exact (q_add (by rw [show (1 : Int32).toInt = 1 by decide]; omega) (by rw [show (1 : Int32).toInt = 1 by decide]; omega)).trans (by rw [show (1 : Int32).toInt = 1 by decide])
          refine lv_iinc (v := x_118) (lv' := [(1, .int x_118), (0, .ref a0)]) hx hb dX10_forgets_37 hl (k := 0) rfl e_119.symm (by decide) rfl (fun ls hl => ?_)
          refine lv_goto (tgt := 23) hx hb dX10_forgets_40 (by decide) ?_
          exact (hWW2 _ _ _).mp (ih2 x_118 q_115 H locs ls (by omega) (by omega) (by omega) (alT.step v2_2 eq_115 (by omega) (by omega) (by omega)) hG hS (lv_sub hl [0, 1] rfl))
    have zi_0 : (0 : Int32).toInt = 0 := by decide
    exact lp2 (384 - (0 : Int32).toInt : Int).toNat 0 rN H locs ls (by omega) (by omega) (by omega) (by rw [zi_0]; exact alT.zero) hG hS (lv_sub hl [0, 1] rfl)
  have lp1 : ∀ (kk1 : Nat) (yk : Int32) (v1 : Nat → Int32) (H1 : Heap) (locs1 : List Loc) (ls1 : Array Slot), 4 - yk.toInt ≤ (kk1 : Int) → (0 ≤ yk.toInt) → (yk.toInt ≤ 4) → (alT v1 yk.toInt (-4)) → tG D (mF cI cL cC gC gE gW gA gT gI gS gM K F S N gH gJ ge gk gf gs gg gr RN gb v1 rN) t H1 → tF t wFo s.heap H1 locs1 → lv_has ls1 2 [(1, .int yk), (0, .ref a0)] → WW1 H1 locs1 (F0 m 2 ls1 []) := by
    intro kk1
    induction kk1 with
    | zero =>
      intro yk v1 H locs ls hk1 v1_0 v1_1 v1_2 hG hS hl
      refine (hWW1 _ _ _).mpr ?_
      refine lv_iload_n hx hb dX10_forgets_2 rfl (lv_at hl 0 rfl) ?_
      refine lv_iconst (v := 4) hx hb dX10_forgets_3 (by decide) ?_
      refine lv_icmp_ge (tgt := 21) hx hb dX10_forgets_4 (by decide) (fun c_120 => ?_) (fun c_120 => ?_)
      · skip
        have c_120 : 4 ≤ yk.toInt := q_le c_120
        exact (hWW1 _ _ _).mp (kx1 yk v1 H locs ls v1_0 v1_1 v1_2 (by omega) hG hS (lv_sub hl [0, 1] rfl))
      · skip
        have c_120 : yk.toInt < 4 := q_nle c_120
        exfalso; omega
    | succ kk1 ih1 =>
      intro yk v1 H locs ls hk1 v1_0 v1_1 v1_2 hG hS hl
      refine (hWW1 _ _ _).mpr ?_
      refine lv_pc (pc2 := 2) rfl ?_
      refine lv_iload_n hx hb dX10_forgets_2 rfl (lv_at hl 0 rfl) ?_
      refine lv_iconst (v := 4) hx hb dX10_forgets_3 (by decide) ?_
      refine lv_icmp_ge (tgt := 21) hx hb dX10_forgets_4 (by decide) (fun c_121 => ?_) (fun c_121 => ?_)
      · skip
        have c_121 : 4 ≤ yk.toInt := q_le c_121
        exact (hWW1 _ _ _).mp (kx1 yk v1 H locs ls v1_0 v1_1 v1_2 (by omega) hG hS (lv_sub hl [0, 1] rfl))
      · skip
        have c_121 : yk.toInt < 4 := q_nle c_121
        refine lv_aload_n hx hb dX10_forgets_7 rfl (lv_at hl 1 rfl) ?_
        obtain ⟨r_122, r_124, r_126, r_128, r_130, r_132, r_134, r_136, r_138, r_140, r_142, r_144, r_146, r_148, r_150, r_152, r_154, r_156, r_158, r_160, r_162, r_164, v_166, r_167, at_169, h_123, h_125, h_127, h_129, h_131, h_133, h_135, h_137, h_139, h_141, h_143, h_145, h_147, h_149, h_151, h_153, h_155, h_157, h_159, h_161, h_163, h_165, h_168⟩ := mF_o40 hG k_a0
        refine va_get (D := D) (ci := 9) (v := .ref r_140) (C := RX10) (T := TX10) (N := 36) hx hb hts in10 hown hK (va_one at_169) 0 rfl rfl 14 (by decide) (hts (.fieldLink RX10 38 "RiverModelModel" "gaugeKind" "[I") (List.mem_of_getElem? (i := 3) rfl)) (fun _ h9 => h9) rfl dX10_forgets_8 ?_
        refine lv_iload_n hx hb dX10_forgets_11 rfl (lv_at hl 0 rfl) ?_
        refine lv_bipush (v := (-4)) hx hb dX10_forgets_12 (by decide) ?_
        have at_170 := mF_o50 hG h_141
        have b_171 : vp_in yk 4 := (q_in (by omega) (by omega))
        have zi_m4 : ((-4) : Int32).toInt = (-4) := by decide
        obtain ⟨q_172, eq_172⟩ : ∃ q : Nat → Int32, q = upd v1 yk.toNatClampNeg (-4) := ⟨_, rfl⟩
        refine ty_iast (F2 := (mF cI cL cC gC gE gW gA gT gI gS gM K F S N gH gJ ge gk gf gs gg gr RN gb q_172 rN)) hx hb hK hG hS 0 at_170 (by rw [h_141]; rfl) rfl b_171 (by rw [h_141]; show _ = _; rw [eq_172]) (fun hG b hb h0 => by obtain ⟨e, g1, g2⟩ := hG b h0; exact ⟨e, g1, mF_rV (fun h => hb (uq b r_140 (h.trans h_141.symm) h0)) g2⟩) dX10_forgets_14 (fun H locs hG hS at_173 o_174 => ?_)
        have at_169 := va_at.keptK at_169 o_174 h_141 k_a0 rfl
        refine lv_pc (pc2 := 15) rfl ?_
        obtain ⟨x_175, e_176⟩ : ∃ y : Int32, y = yk + Int32.ofInt 1 := ⟨_, rfl⟩
        have i_x_175 : x_175.toInt = yk.toInt + 1 := by rw [e_176, show Int32.ofInt 1 = 1 by decide]; exact (q_add (by rw [show (1 : Int32).toInt = 1 by decide]; omega) (by rw [show (1 : Int32).toInt = 1 by decide]; omega)).trans (by rw [show (1 : Int32).toInt = 1 by decide])
        refine lv_iinc (v := x_175) (lv' := [(1, .int x_175), (0, .ref a0)]) hx hb dX10_forgets_15 hl (k := 0) rfl e_176.symm (by decide) rfl (fun ls hl => ?_)
        refine lv_goto (tgt := 2) hx hb dX10_forgets_18 (by decide) ?_
        exact (hWW1 _ _ _).mp (ih1 x_175 q_172 H locs ls (by omega) (by omega) (by omega) (alT.step v1_2 eq_172 (by omega) (by omega) (by omega)) hG hS (lv_sub hl [0, 1] rfl))
  have zi_0 : (0 : Int32).toInt = 0 := by decide
  exact lp1 (4 - (0 : Int32).toInt : Int).toNat 0 rV H locs ls (by omega) (by omega) (by omega) (by rw [zi_0]; exact alT.zero) hG hS (lv_sub hl [0, 1] rfl)

def uX10_fault : List Cond := .code yX10_fault cX10_fault 1 (some .int) :: ([.methodLink RX10 159 yX10_faultOf, .instanceMethod yX10_faultOf, .selects RX10 yX10_faultOf yX10_faultOf, .initialized RX10, .code yX10_faultOf cX10_faultOf 4 (some .int), .fieldLink RX10 148 "RiverModelModel" "readItems" "I", .fieldLink RX10 89 "RiverModelModel" "length" "I", .methodLink RX10 151 yX10_readsItem, .instanceMethod yX10_readsItem, .selects RX10 yX10_readsItem yX10_readsItem, .methodLink RX10 155 yX10_lays, .instanceMethod yX10_lays, .selects RX10 yX10_lays yX10_lays, .fieldLink RX10 125 "RiverModelModel" "readKind" "I", .fieldLink RX10 109 "RiverModelModel" "end" "I", .fieldLink RX10 135 "RiverModelModel" "readFirst" "I", .code yX10_readsItem cX10_readsItem 8 (some .boolean), .methodLink RX10 112 yX10_byteAt, .instanceMethod yX10_byteAt, .selects RX10 yX10_byteAt yX10_byteAt, .methodLink RX10 128 yX10_shape, .static yX10_shape, .methodLink RX10 131 yX10_isName, .static yX10_isName, .fieldLink RX10 138 "RiverModelModel" "readSecond" "I", .fieldLink RX10 74 "RiverModelModel" "readNumber" "[I", .methodLink RX10 144 yX10_areWell, .static yX10_areWell, .methodLink RX10 141 yX10_readsNumber, .instanceMethod yX10_readsNumber, .selects RX10 yX10_readsNumber yX10_readsNumber, .code yX10_byteAt cX10_byteAt 2 (some .int), .fieldLink RX10 7 "RiverModelModel" "text" "[I", .code yX10_shape cX10_shape 1 (some .int), .code yX10_isName cX10_isName 1 (some .boolean), .constantLong RX10 95 (97), .constantLong RX10 97 (112), .methodLink RX10 85 yX10_in, .static yX10_in, .code yX10_in cX10_in 6 (some .boolean), .code yX10_areWell cX10_areWell 4 (some .boolean), .constantLong RX10 101 (1000), .constantLong RX10 103 (10000), .constantLong RX10 99 (1000000), .constantLong RX10 107 (100), .constantLong RX10 105 (12), .code yX10_readsNumber cX10_readsNumber 3 (some .boolean), .fieldLink RX10 116 "RiverModelModel" "figures" "I", .constantLong RX10 123 (7), .constantLong RX10 119 (48), .constantLong RX10 121 (57), .code yX10_lays cX10_lays 5 none, .fieldLink RX10 13 "RiverModelModel" "kind" "[I", .fieldLink RX10 16 "RiverModelModel" "first" "[I", .fieldLink RX10 19 "RiverModelModel" "second" "[I", .fieldLink RX10 22 "RiverModelModel" "number" "[I"] ++ wsX100)
set_option maxRecDepth 20000 in
theorem gu_X10_fault_X10_faultOf_159 : GoodIn uX10_fault (wsV RX10 159 RX10 yX10_faultOf uX10_faultOf) := goodIn_r _ [1, 2, 3, 4, 5, 6, 7, 8, 9, 10, 4, 11, 12, 13, 14, 15, 16, 17, 18, 19, 20, 21, 22, 23, 24, 25, 26, 27, 28, 29, 30, 31, 32, 33, 34, 35, 36, 37, 38, 39, 40, 41, 42, 43, 44, 45, 46, 47, 48, 49, 50, 51, 52, 53, 54, 55, 56, 57, 58, 59, 60, 61, 62, 63, 64, 65, 66, 67, 68, 69, 70, 71, 72, 73, 74, 75, 76, 77, 78, 79, 80, 81, 82, 83, 84, 85, 86, 87, 88, 89, 90, 91, 92] rfl (by decide +kernel)
set_option maxHeartbeats 4000000 in
set_option maxRecDepth 100000 in
theorem m_X10_fault (l : Launch) (D : va_G) (t : Nat → Nat) (cI cL cC : ClassId) (gC : Int32) (gE : Int32) (gW : Nat → Int32) (gA : Nat → Int32) (gT : Nat → Int32) (gI : Int32) (gS : Int32) (gM : Int32) (K : Nat → Int32) (F : Nat → Int32) (S : Nat → Int32) (N : Nat → Int32) (gH : Int) (gJ : Int) (ge : Int32) (gk : Int32) (gf : Int32) (gs : Int32) (gg : Int32) (gr : Int32) (RN : Nat → Int32) (gb : Int32) (rV : Nat → Int32) (rN : Nat → Int32) (a0 : Nat) (uq : ∀ b c : Nat, t b = t c → t b ≠ 0 → b = c) (hC0 : 0 ≤ gC.toInt) (hC4 : gC.toInt ≤ 400) (hI0 : 0 ≤ gI.toInt) (hI4 : gI.toInt ≤ 40) (hH0 : 0 ≤ gH) (hH9 : gH ≤ 96) (hm0 : 0 ≤ gM.toInt) (hm3 : gM.toInt ≤ 3) (hO0 : okM K F S N 0 gI.toInt) (hW : swM gS K F S N gI.toInt) (hoR : othR gb gS gI K F) (k_a0 : t a0 = 40) : tMx (Z := (Int32) × (Int32) × (Int32) × (Int32) × (Int32) × (Nat → Int32) × (Int32) × (Nat → Int32) × (Nat → Int32) × (Nat → Int32) × (Nat → Int32)) l yX10_fault uX10_fault 4 98 D (mF cI cL cC gC gE gW gA gT gI gS gM K F S N gH gJ ge gk gf gs gg gr RN gb rV rN) (fun z => (mF cI cL cC gC gE gW gA gT gI gS gM z.2.2.2.2.2.2.2.1 z.2.2.2.2.2.2.2.2.1 z.2.2.2.2.2.2.2.2.2.1 z.2.2.2.2.2.2.2.2.2.2 gH gJ z.1 z.2.1 z.2.2.1 z.2.2.2.1 z.2.2.2.2.1 z.2.2.2.2.2.2.1 z.2.2.2.2.2.1 gb rV rN)) t cI cL cC [.ref a0] wPI (xI (fun r (z : (Int32) × (Int32) × (Int32) × (Int32) × (Int32) × (Nat → Int32) × (Int32) × (Nat → Int32) × (Nat → Int32) × (Nat → Int32) × (Nat → Int32)) => okM z.2.2.2.2.2.2.2.1 z.2.2.2.2.2.2.2.2.1 z.2.2.2.2.2.2.2.2.2.1 z.2.2.2.2.2.2.2.2.2.2 0 gI.toInt ∧ swM gS z.2.2.2.2.2.2.2.1 z.2.2.2.2.2.2.2.2.1 z.2.2.2.2.2.2.2.2.2.1 z.2.2.2.2.2.2.2.2.2.2 gI.toInt ∧ othR gb gS gI z.2.2.2.2.2.2.2.1 z.2.2.2.2.2.2.2.2.1 ∧ smR gb gb gI K F z.2.2.2.2.2.2.2.1 z.2.2.2.2.2.2.2.2.1 ∧ resF (byT gT gC) gC.toInt r)) := by
  refine tMx.ofW (cc := cX10_fault) (maxL := 1) (ret := (some .int)) (by decide) rfl (Nat.le_of_ble_eq_true rfl) ?_
  intro p e s m below meth c hx hb hr hml hown hts hlk H locs hG hK hE hS ls hl
  have hl : lv_has ls 1 [(0, .ref a0)] := hl
  skip
  refine lv_aload_n hx hb dX10_fault_0 rfl (lv_at hl 0 rfl) ?_
  obtain ⟨r_1, r_3, r_5, r_7, r_9, r_11, r_13, r_15, r_17, r_19, r_21, r_23, r_25, r_27, r_29, r_31, r_33, r_35, r_37, r_39, r_41, r_43, v_45, r_46, at_48, h_2, h_4, h_6, h_8, h_10, h_12, h_14, h_16, h_18, h_20, h_22, h_24, h_26, h_28, h_30, h_32, h_34, h_36, h_38, h_40, h_42, h_44, h_47⟩ := mF_o40 hG k_a0
  refine tx_calli (W.runV (As := []) (rest := []) ⟨hx, hb, hml, hown, hts⟩ (m_X10_faultOf l D t cI cL cC gC gE gW gA gT gI gS gM K F S N gH gJ ge gk gf gs gg gr RN gb rV rN a0  uq (by omega) (by omega) k_a0) (cwV 0 hts gu_X10_fault_X10_faultOf_159 rfl rfl rfl (by decide +kernel) ⟨Nat.le_of_ble_eq_true rfl, Nat.le_of_ble_eq_true rfl⟩) (tP_V hG hE at_48 rfl) rfl rfl hl.1 rfl (lv_room (Nat.le_of_ble_eq_true rfl)) dX10_fault_1 ⟨Nat.le_of_ble_eq_true rfl, Nat.le_of_ble_eq_true rfl⟩) hS (fun _ h => h) (fun r_49 zz_52 H locs hp_50 hG hS o_51 => ?_)
  obtain ⟨ge_53, gk_54, gf_55, gs_56, gg_57, RN_58, gr_59, K_60, F_61, S_62, N_63⟩ := zz_52
  replace hG : tG D (mF cI cL cC gC gE gW gA gT gI gS gM K_60 F_61 S_62 N_63 gH gJ ge_53 gk_54 gf_55 gs_56 gg_57 gr_59 RN_58 gb rV rN) t H := hG
  have hp_50 : kpO K K_60 40 40 ∧ kpO F F_61 40 40 ∧ kpO S S_62 40 40 ∧ kpO N N_63 120 120 ∧ 0 ≤ gr_59.toInt ∧ gr_59.toInt ≤ 40 ∧ (r_49.toInt = -4 → okM K_60 F_61 S_62 N_63 40 gr_59.toInt) ∧ rdN (byT gT gC) gC.toInt r_49.toInt gr_59.toInt K_60 F_61 := hp_50
  obtain ⟨p_64, p_65, p_66, p_67, p_68, p_69, p_70, p_71⟩ := hp_50
  have ok_72 := okM.kpg (a := 40) (a3 := 120) (b := 0) (n := gI.toInt) (by decide) (by decide) (by omega) p_64 p_65 p_66 p_67 hO0
  have ok_73 : swM gS K_60 F_61 S_62 N_63 gI.toInt := Or.imp id (fun h => okM.kpg (a := 40) (a3 := 120) (b := 80) (n := gI.toInt) (by decide) (by decide) (by omega) p_64 p_65 p_66 p_67 h) hW
  have ho_74 := othR.kp hoR p_64 p_65 (by omega)
  have sm_75 : smR gb gb gI K F K_60 F_61 := smR.kp p_64 p_65 (by omega)
  exact tx_iret (z := (ge_53, gk_54, gf_55, gs_56, gg_57, RN_58, gr_59, K_60, F_61, S_62, N_63)) hx hb hr hlk hG hS ⟨(show okM K_60 F_61 S_62 N_63 0 gI.toInt from ok_72), (show swM gS K_60 F_61 S_62 N_63 gI.toInt from ok_73), (show othR gb gS gI K_60 F_61 from ho_74), (show smR gb gb gI K F K_60 F_61 from sm_75), (by show resF (byT gT gC) gC.toInt r_49; exact p_71.res)⟩ dX10_fault_4

def uX10_build : List Cond := .code yX10_build cX10_build 3 (some .int) :: ([.methodLink RX10 159 yX10_faultOf, .instanceMethod yX10_faultOf, .selects RX10 yX10_faultOf yX10_faultOf, .initialized RX10, .fieldLink RX10 148 "RiverModelModel" "readItems" "I", .fieldLink RX10 163 "RiverModelModel" "items" "I", .methodLink RX10 190 yX10_becomes, .instanceMethod yX10_becomes, .selects RX10 yX10_becomes yX10_becomes, .methodLink RX10 80 yX10_forgets, .instanceMethod yX10_forgets, .selects RX10 yX10_forgets yX10_forgets, .fieldLink RX10 13 "RiverModelModel" "kind" "[I", .code yX10_faultOf cX10_faultOf 4 (some .int), .fieldLink RX10 89 "RiverModelModel" "length" "I", .methodLink RX10 151 yX10_readsItem, .instanceMethod yX10_readsItem, .selects RX10 yX10_readsItem yX10_readsItem, .methodLink RX10 155 yX10_lays, .instanceMethod yX10_lays, .selects RX10 yX10_lays yX10_lays, .fieldLink RX10 125 "RiverModelModel" "readKind" "I", .fieldLink RX10 109 "RiverModelModel" "end" "I", .fieldLink RX10 135 "RiverModelModel" "readFirst" "I", .code yX10_readsItem cX10_readsItem 8 (some .boolean), .methodLink RX10 112 yX10_byteAt, .instanceMethod yX10_byteAt, .selects RX10 yX10_byteAt yX10_byteAt, .methodLink RX10 128 yX10_shape, .static yX10_shape, .methodLink RX10 131 yX10_isName, .static yX10_isName, .fieldLink RX10 138 "RiverModelModel" "readSecond" "I", .fieldLink RX10 74 "RiverModelModel" "readNumber" "[I", .methodLink RX10 144 yX10_areWell, .static yX10_areWell, .methodLink RX10 141 yX10_readsNumber, .instanceMethod yX10_readsNumber, .selects RX10 yX10_readsNumber yX10_readsNumber, .code yX10_byteAt cX10_byteAt 2 (some .int), .fieldLink RX10 7 "RiverModelModel" "text" "[I", .code yX10_shape cX10_shape 1 (some .int), .code yX10_isName cX10_isName 1 (some .boolean), .constantLong RX10 95 (97), .constantLong RX10 97 (112), .methodLink RX10 85 yX10_in, .static yX10_in, .code yX10_in cX10_in 6 (some .boolean), .code yX10_areWell cX10_areWell 4 (some .boolean), .constantLong RX10 101 (1000), .constantLong RX10 103 (10000), .constantLong RX10 99 (1000000), .constantLong RX10 107 (100), .constantLong RX10 105 (12), .code yX10_readsNumber cX10_readsNumber 3 (some .boolean), .fieldLink RX10 116 "RiverModelModel" "figures" "I", .constantLong RX10 123 (7), .constantLong RX10 119 (48), .constantLong RX10 121 (57), .code yX10_lays cX10_lays 5 none, .fieldLink RX10 16 "RiverModelModel" "first" "[I", .fieldLink RX10 19 "RiverModelModel" "second" "[I", .fieldLink RX10 22 "RiverModelModel" "number" "[I", .code yX10_becomes cX10_becomes 3 none, .methodLink RX10 170 yX10_copies, .instanceMethod yX10_copies, .selects RX10 yX10_copies yX10_copies, .fieldLink RX10 173 "RiverModelModel" "isBuilt" "Z", .fieldLink RX10 177 "RiverModelModel" "isSwapped" "Z", .fieldLink RX10 180 "RiverModelModel" "keptMany" "I", .methodLink RX10 186 yX10_begins, .instanceMethod yX10_begins, .selects RX10 yX10_begins yX10_begins, .fieldLink RX10 71 "RiverModelModel" "startB" "[I", .methodLink RX10 183 yX10_startOf, .instanceMethod yX10_startOf, .selects RX10 yX10_startOf yX10_startOf, .code yX10_copies cX10_copies 4 none, .code yX10_begins cX10_begins 4 none, .fieldLink RX10 28 "RiverModelModel" "m" "[J", .methodLink RX10 208 yX10_isStore, .instanceMethod yX10_isStore, .selects RX10 yX10_isStore yX10_isStore, .constantLong RX10 204 (224), .constantLong RX10 206 (227), .constantLong RX10 196 (5), .code yX10_startOf cX10_startOf 4 (some .int), .methodLink RX10 166 yX10_storeAt, .instanceMethod yX10_storeAt, .selects RX10 yX10_storeAt yX10_storeAt, .code yX10_storeAt cX10_storeAt 5 (some .int), .code yX10_isStore cX10_isStore 2 (some .boolean), .code yX10_forgets cX10_forgets 2 none, .fieldLink RX10 59 "RiverModelModel" "knobMany" "[I", .fieldLink RX10 44 "RiverModelModel" "seen" "[I", .fieldLink RX10 38 "RiverModelModel" "gaugeKind" "[I"] ++ wsX100)
set_option maxRecDepth 20000 in
theorem gu_X10_build_X10_faultOf_159 : GoodIn uX10_build (wsV RX10 159 RX10 yX10_faultOf uX10_faultOf) := goodIn_r _ [1, 2, 3, 4, 14, 5, 15, 16, 17, 18, 4, 19, 20, 21, 22, 23, 24, 25, 26, 27, 28, 29, 30, 31, 32, 33, 34, 35, 36, 37, 38, 39, 40, 41, 42, 43, 44, 45, 46, 47, 48, 49, 50, 51, 52, 53, 54, 55, 56, 57, 58, 59, 60, 13, 61, 62, 63, 97, 98, 99, 100, 101, 102, 103, 104, 105, 106, 107, 108, 109, 110, 111, 112, 113, 114, 115, 116, 117, 118, 119, 120, 121, 122, 123, 124, 125, 126, 127, 128, 129, 130, 131, 132] rfl (by decide +kernel)
set_option maxRecDepth 20000 in
theorem gu_X10_build_X10_becomes_190 : GoodIn uX10_build (wsV RX10 190 RX10 yX10_becomes uX10_becomes) := goodIn_r _ [7, 8, 9, 4, 64, 65, 66, 67, 4, 68, 69, 70, 71, 72, 73, 74, 75, 76, 77, 78, 63, 13, 61, 62, 79, 80, 81, 82, 83, 84, 85, 46, 47, 86, 87, 88, 89, 90, 91, 6, 92, 48, 97, 98, 99, 100, 101, 102, 103, 104, 105, 106, 107, 108, 109, 110, 111, 112, 113, 114, 115, 116, 117, 118, 119, 120, 121, 122, 123, 124, 125, 126, 127, 128, 129, 130, 131, 132] rfl (by decide +kernel)
set_option maxRecDepth 20000 in
theorem gu_X10_build_X10_forgets_80 : GoodIn uX10_build (wsV RX10 80 RX10 yX10_forgets uX10_forgets) := goodIn_r _ [10, 11, 12, 4, 93, 94, 95, 96, 97, 98, 99, 100, 101, 102, 103, 104, 105, 106, 107, 108, 109, 110, 111, 112, 113, 114, 115, 116, 117, 118, 119, 120, 121, 122, 123, 124, 125, 126, 127, 128, 129, 130, 131, 132] rfl (by decide +kernel)
set_option maxHeartbeats 4000000 in
set_option maxRecDepth 100000 in
theorem m_X10_build (l : Launch) (D : va_G) (t : Nat → Nat) (cI cL cC : ClassId) (gC : Int32) (gE : Int32) (gW : Nat → Int32) (gA : Nat → Int32) (gT : Nat → Int32) (gI : Int32) (gS : Int32) (gM : Int32) (K : Nat → Int32) (F : Nat → Int32) (S : Nat → Int32) (N : Nat → Int32) (gH : Int) (gJ : Int) (ge : Int32) (gk : Int32) (gf : Int32) (gs : Int32) (gg : Int32) (gr : Int32) (RN : Nat → Int32) (gb : Int32) (rV : Nat → Int32) (rN : Nat → Int32) (a0 : Nat) (uq : ∀ b c : Nat, t b = t c → t b ≠ 0 → b = c) (hC0 : 0 ≤ gC.toInt) (hC4 : gC.toInt ≤ 400) (hI0 : 0 ≤ gI.toInt) (hI4 : gI.toInt ≤ 40) (hH0 : 0 ≤ gH) (hH9 : gH ≤ 96) (hm0 : 0 ≤ gM.toInt) (hm3 : gM.toInt ≤ 3) (hO0 : okM K F S N 0 gI.toInt) (hW : swM gS K F S N gI.toInt) (hoR : othR gb gS gI K F) (k_a0 : t a0 = 40) : tMx (Z := (Int32) × (Int32) × (Int32) × (Int32) × (Int32) × (Nat → Int32) × (Int32) × (Int32) × (Nat → Int32) × (Nat → Int32) × (Nat → Int32) × (Nat → Int32) × (Int32) × (Int32) × (Int) × (Int32) × (Nat → Int32) × (Nat → Int32)) l yX10_build uX10_build 4 98 D (mF cI cL cC gC gE gW gA gT gI gS gM K F S N gH gJ ge gk gf gs gg gr RN gb rV rN) (fun z => (mF cI cL cC gC gE gW gA gT z.2.2.2.2.2.2.2.1 z.2.2.2.2.2.2.2.2.2.2.2.2.1 z.2.2.2.2.2.2.2.2.2.2.2.2.2.1 z.2.2.2.2.2.2.2.2.1 z.2.2.2.2.2.2.2.2.2.1 z.2.2.2.2.2.2.2.2.2.2.1 z.2.2.2.2.2.2.2.2.2.2.2.1 z.2.2.2.2.2.2.2.2.2.2.2.2.2.2.1 gJ z.1 z.2.1 z.2.2.1 z.2.2.2.1 z.2.2.2.2.1 z.2.2.2.2.2.2.1 z.2.2.2.2.2.1 z.2.2.2.2.2.2.2.2.2.2.2.2.2.2.2.1 z.2.2.2.2.2.2.2.2.2.2.2.2.2.2.2.2.1 z.2.2.2.2.2.2.2.2.2.2.2.2.2.2.2.2.2)) t cI cL cC [.ref a0] wAll2 (xI (fun r (z : (Int32) × (Int32) × (Int32) × (Int32) × (Int32) × (Nat → Int32) × (Int32) × (Int32) × (Nat → Int32) × (Nat → Int32) × (Nat → Int32) × (Nat → Int32) × (Int32) × (Int32) × (Int) × (Int32) × (Nat → Int32) × (Nat → Int32)) => 0 ≤ z.2.2.2.2.2.2.2.1.toInt ∧ z.2.2.2.2.2.2.2.1.toInt ≤ 40 ∧ 0 ≤ z.2.2.2.2.2.2.2.2.2.2.2.2.2.2.1 ∧ z.2.2.2.2.2.2.2.2.2.2.2.2.2.2.1 ≤ 96 ∧ 0 ≤ z.2.2.2.2.2.2.2.2.2.2.2.2.2.1.toInt ∧ z.2.2.2.2.2.2.2.2.2.2.2.2.2.1.toInt ≤ 3 ∧ okM z.2.2.2.2.2.2.2.2.1 z.2.2.2.2.2.2.2.2.2.1 z.2.2.2.2.2.2.2.2.2.2.1 z.2.2.2.2.2.2.2.2.2.2.2.1 0 z.2.2.2.2.2.2.2.1.toInt ∧ swM z.2.2.2.2.2.2.2.2.2.2.2.2.1 z.2.2.2.2.2.2.2.2.1 z.2.2.2.2.2.2.2.2.2.1 z.2.2.2.2.2.2.2.2.2.2.1 z.2.2.2.2.2.2.2.2.2.2.2.1 z.2.2.2.2.2.2.2.1.toInt ∧ othR z.2.2.2.2.2.2.2.2.2.2.2.2.2.2.2.1 z.2.2.2.2.2.2.2.2.2.2.2.2.1 z.2.2.2.2.2.2.2.1 z.2.2.2.2.2.2.2.2.1 z.2.2.2.2.2.2.2.2.2.1 ∧ resB (byT gT gC) gC.toInt r ∧ bldR (byT gT gC) gC.toInt r gb z.2.2.2.2.2.2.2.2.2.2.2.2.2.2.2.1 gS z.2.2.2.2.2.2.2.2.2.2.2.2.1 gI z.2.2.2.2.2.2.2.1 K F z.2.2.2.2.2.2.2.2.1 z.2.2.2.2.2.2.2.2.2.1 rV rN z.2.2.2.2.2.2.2.2.2.2.2.2.2.2.2.2.1 z.2.2.2.2.2.2.2.2.2.2.2.2.2.2.2.2.2)) := by
  refine tMx.ofW (cc := cX10_build) (maxL := 3) (ret := (some .int)) (by decide) rfl (Nat.le_of_ble_eq_true rfl) ?_
  intro p e s m below meth c hx hb hr hml hown hts hlk H locs hG hK hE hS ls hl
  have hl : lv_has ls 3 [(0, .ref a0)] := hl
  have in10 : ∀ w ∈ wsX100, w ∈ uX10_build := fun w h => List.mem_cons_of_mem _ (List.mem_append_right _ h)
  refine lv_aload_n hx hb dX10_build_0 rfl (lv_at hl 0 rfl) ?_
  obtain ⟨r_1, r_3, r_5, r_7, r_9, r_11, r_13, r_15, r_17, r_19, r_21, r_23, r_25, r_27, r_29, r_31, r_33, r_35, r_37, r_39, r_41, r_43, v_45, r_46, at_48, h_2, h_4, h_6, h_8, h_10, h_12, h_14, h_16, h_18, h_20, h_22, h_24, h_26, h_28, h_30, h_32, h_34, h_36, h_38, h_40, h_42, h_44, h_47⟩ := mF_o40 hG k_a0
  refine tx_calli (W.runV (As := []) (rest := []) ⟨hx, hb, hml, hown, hts⟩ (m_X10_faultOf l D t cI cL cC gC gE gW gA gT gI gS gM K F S N gH gJ ge gk gf gs gg gr RN gb rV rN a0  uq (by omega) (by omega) k_a0) (cwV 0 hts gu_X10_build_X10_faultOf_159 rfl rfl rfl (by decide +kernel) ⟨Nat.le_of_ble_eq_true rfl, Nat.le_of_ble_eq_true rfl⟩) (tP_V hG hE at_48 rfl) rfl rfl hl.1 rfl (lv_room (Nat.le_of_ble_eq_true rfl)) dX10_build_1 ⟨Nat.le_of_ble_eq_true rfl, Nat.le_of_ble_eq_true rfl⟩) hS (wrL_sub (by decide)) (fun r_49 zz_52 H locs hp_50 hG hS o_51 => ?_)
  obtain ⟨ge_53, gk_54, gf_55, gs_56, gg_57, RN_58, gr_59, K_60, F_61, S_62, N_63⟩ := zz_52
  replace hG : tG D (mF cI cL cC gC gE gW gA gT gI gS gM K_60 F_61 S_62 N_63 gH gJ ge_53 gk_54 gf_55 gs_56 gg_57 gr_59 RN_58 gb rV rN) t H := hG
  have hp_50 : kpO K K_60 40 40 ∧ kpO F F_61 40 40 ∧ kpO S S_62 40 40 ∧ kpO N N_63 120 120 ∧ 0 ≤ gr_59.toInt ∧ gr_59.toInt ≤ 40 ∧ (r_49.toInt = -4 → okM K_60 F_61 S_62 N_63 40 gr_59.toInt) ∧ rdN (byT gT gC) gC.toInt r_49.toInt gr_59.toInt K_60 F_61 := hp_50
  obtain ⟨p_64, p_65, p_66, p_67, p_68, p_69, p_70, p_71⟩ := hp_50
  have ok_72 := okM.kpg (a := 40) (a3 := 120) (b := 0) (n := gI.toInt) (by decide) (by decide) (by omega) p_64 p_65 p_66 p_67 hO0
  have ok_73 : swM gS K_60 F_61 S_62 N_63 gI.toInt := Or.imp id (fun h => okM.kpg (a := 40) (a3 := 120) (b := 80) (n := gI.toInt) (by decide) (by decide) (by omega) p_64 p_65 p_66 p_67 h) hW
  have ho_74 := othR.kp hoR p_64 p_65 (by omega)
  have sm_75 : smR gb gb gI K F K_60 F_61 := smR.kp p_64 p_65 (by omega)
  refine lv_bipush (v := (-4)) hx hb dX10_build_4 (by decide) ?_
  refine lv_icmp_eq (tgt := 12) hx hb dX10_build_6 (by decide) (fun c_76 => ?_) (fun c_76 => ?_)
  · skip
    have c_76 : r_49.toInt = (-4) := q_eq c_76
    have hr4 : r_49.toInt = -4 := by omega
    refine lv_iconst (v := 0) hx hb dX10_build_12 (by decide) ?_
    refine lv_istore_n (lv' := [(1, .int 0), (0, .ref a0)]) hx hb dX10_build_13 rfl hl (by decide) rfl (fun ls hl => ?_)
    refine lv_iconst (v := 0) hx hb dX10_build_14 (by decide) ?_
    refine lv_pc (pc2 := 15) rfl ?_
    refine lv_istore_n (lv' := [(2, .int 0), (1, .int 0), (0, .ref a0)]) hx hb dX10_build_15 rfl hl (by decide) rfl (fun ls hl => ?_)
    refine lv_pc (pc2 := 16) rfl ?_
    refine lp_gen (fun WW77 hWW77 => ?_)
    have kx77 : ∀ (yk : Int32) (ys : Int32) (H1 : Heap) (locs1 : List Loc) (ls1 : Array Slot), (0 ≤ yk.toInt) → (yk.toInt ≤ gr_59.toInt) → (0 ≤ ys.toInt) → (ys.toInt ≤ 1) → (stQ ys.toInt K_60 yk.toInt) → (gr_59.toInt ≤ yk.toInt) → tG D (mF cI cL cC gC gE gW gA gT gI gS gM K_60 F_61 S_62 N_63 gH gJ ge_53 gk_54 gf_55 gs_56 gg_57 gr_59 RN_58 gb rV rN) t H1 → tF t wAll2 s.heap H1 locs1 → lv_has ls1 3 [(2, .int yk), (1, .int ys), (0, .ref a0)] → WW77 H1 locs1 (F0 m 54 ls1 []) := by
      intro yk ys H locs ls v77_0 v77_1 v77_2 v77_3 v77_4 xf77_0 hG hS hl
      refine (hWW77 _ _ _).mpr ?_
      refine lv_iload_n hx hb dX10_build_54 rfl (lv_at hl 1 rfl) ?_
      refine lv_if_ne (tgt := 61) hx hb dX10_build_55 (by decide) (fun c_78 => ?_) (fun c_78 => ?_)
      · skip
        have c_78 : ys.toInt ≠ 0 := q_ne c_78
        refine lv_aload_n hx hb dX10_build_61 rfl (lv_at hl 2 rfl) ?_
        refine lv_aload_n hx hb dX10_build_62 rfl (lv_at hl 2 rfl) ?_
        obtain ⟨r_79, r_81, r_83, r_85, r_87, r_89, r_91, r_93, r_95, r_97, r_99, r_101, r_103, r_105, r_107, r_109, r_111, r_113, r_115, r_117, r_119, r_121, v_123, r_124, at_126, h_80, h_82, h_84, h_86, h_88, h_90, h_92, h_94, h_96, h_98, h_100, h_102, h_104, h_106, h_108, h_110, h_112, h_114, h_116, h_118, h_120, h_122, h_125⟩ := mF_o40 hG k_a0
        refine va_get (D := D) (ci := 9) (v := .int gr_59) (C := RX10) (T := TX10) (N := 36) hx hb hts in10 hown hK (va_one at_126) 0 rfl rfl 33 (by decide) (hts (.fieldLink RX10 148 "RiverModelModel" "readItems" "I") (List.mem_of_getElem? (i := 5) rfl)) (fun _ h9 => h9) rfl dX10_build_63 ?_
        refine ty_put (D := D) (ci := 9) (v := .int gr_59) (ty := .int) (C := RX10) (T := TX10) (N := 36) (F2 := (mF cI cL cC gC gE gW gA gT gr_59 gS gM K_60 F_61 S_62 N_63 gH gJ ge_53 gk_54 gf_55 gs_56 gg_57 gr_59 RN_58 gb rV rN)) hx hb hts in10 tyX10 tyX10_ok nmX10 hown hK hG hS at_126 (by rw [k_a0]; rfl) rfl 3 (by decide) (hts (.fieldLink RX10 163 "RiverModelModel" "items" "I") (List.mem_of_getElem? (i := 6) rfl)) (fun _ h9 => h9) rfl (by decide +kernel) rfl rfl (Nat.le_of_ble_eq_true rfl) (by rw [k_a0]; exact ⟨r_79, r_81, r_83, r_85, r_87, r_89, r_91, r_93, r_95, r_97, r_99, r_101, r_103, r_105, r_107, r_109, r_111, r_113, r_115, r_117, r_119, r_121, v_123, r_124, rfl, h_80, h_82, h_84, h_86, h_88, h_90, h_92, h_94, h_96, h_98, h_100, h_102, h_104, h_106, h_108, h_110, h_112, h_114, h_116, h_118, h_120, h_122, h_125⟩) (fun hG b hb h0 => by obtain ⟨e, g1, g2⟩ := hG b h0; exact ⟨e, g1, mF_gI (fun h => hb (uq b a0 (h.trans k_a0.symm) h0)) g2⟩) dX10_build_66 (fun H locs hG hS at_127 o_128 => ?_)
        have at_127 : va_at D vwCl (a0, .inr (9, [.int gC, .ref r_79, .int gb, .int gr_59, .ref r_81, .ref r_83, .ref r_85, .ref r_87, .int gS, .ref r_89, .ref r_91, .ref r_93, .ref r_95, .int gM, .ref r_97, .ref r_99, .ref r_101, .int gE, .ref r_103, .ref r_105, .ref r_107, .ref r_109, .ref r_111, .ref r_113, .ref r_115, .ref r_117, .ref r_119, .int ge_53, .int gk_54, .int gf_55, .int gs_56, .int gg_57, .ref r_121, .int gr_59, .int v_123, .ref r_124])) H := at_127
        have okT := p_70 (by omega)
        refine lv_aload_n hx hb dX10_build_69 rfl (lv_at hl 2 rfl) ?_
        refine lv_pc (pc2 := 70) rfl ?_
        refine lv_iconst (v := 1) hx hb dX10_build_70 (by decide) ?_
        have zi_1 : (1 : Int32).toInt = 1 := by decide
        refine tx_callv (W.runV (As := [.int 1]) (rest := []) ⟨hx, hb, hml, hown, hts⟩ (m_X10_becomes l D t cI cL cC gC gE gW gA gT gr_59 gS gM K_60 F_61 S_62 N_63 gH gJ ge_53 gk_54 gf_55 gs_56 gg_57 gr_59 RN_58 gb rV rN a0 1 40 uq (by omega) (by omega) (by omega) (by omega) (by omega) okT k_a0) (cwV 1 hts gu_X10_build_X10_becomes_190 rfl rfl rfl (by decide +kernel) ⟨Nat.le_of_ble_eq_true rfl, Nat.le_of_ble_eq_true rfl⟩) (tP_V hG hE at_127 rfl) rfl rfl hl.1 rfl (lv_room (Nat.le_of_ble_eq_true rfl)) dX10_build_71 ⟨Nat.le_of_ble_eq_true rfl, Nat.le_of_ble_eq_true rfl⟩) hS (wrL_sub (by decide)) (fun zz_132 H locs hp_130 hG hS o_131 => ?_)
        obtain ⟨K_133, F_134, S_135, N_136, gS_137, gM_138, gH_139, gb_140⟩ := zz_132
        replace hG : tG D (mF cI cL cC gC gE gW gA gT gr_59 gS_137 gM_138 K_133 F_134 S_135 N_136 gH_139 gJ ge_53 gk_54 gf_55 gs_56 gg_57 gr_59 RN_58 gb_140 rV rN) t H := hG
        have hp_130 : gS_137.toInt = 0 ∧ gM_138.toInt = 0 ∧ gH_139 = 0 ∧ okM K_133 F_134 S_135 N_136 0 gr_59.toInt ∧ gb_140.toInt = 1 ∧ becM K_60 F_61 K_133 F_134 40 := hp_130
        obtain ⟨p_141, p_142, p_143, p_144, p_145, p_146⟩ := hp_130
        have hw_147 : swM gS_137 K_133 F_134 S_135 N_136 gr_59.toInt := Or.inl p_141
        refine lv_aload_n hx hb dX10_build_74 rfl (lv_at hl 2 rfl) ?_
        obtain ⟨r_148, r_150, r_152, r_154, r_156, r_158, r_160, r_162, r_164, r_166, r_168, r_170, r_172, r_174, r_176, r_178, r_180, r_182, r_184, r_186, r_188, r_190, v_192, r_193, at_195, h_149, h_151, h_153, h_155, h_157, h_159, h_161, h_163, h_165, h_167, h_169, h_171, h_173, h_175, h_177, h_179, h_181, h_183, h_185, h_187, h_189, h_191, h_194⟩ := mF_o40 hG k_a0
        refine tx_callv (W.runV (As := []) (rest := []) ⟨hx, hb, hml, hown, hts⟩ (m_X10_forgets l D t cI cL cC gC gE gW gA gT gr_59 gS_137 gM_138 K_133 F_134 S_135 N_136 gH_139 gJ ge_53 gk_54 gf_55 gs_56 gg_57 gr_59 RN_58 gb_140 rV rN a0  uq  k_a0) (cwV 0 hts gu_X10_build_X10_forgets_80 rfl rfl rfl (by decide +kernel) ⟨Nat.le_of_ble_eq_true rfl, Nat.le_of_ble_eq_true rfl⟩) (tP_V hG hE at_195 rfl) rfl rfl hl.1 rfl (lv_room (Nat.le_of_ble_eq_true rfl)) dX10_build_75 ⟨Nat.le_of_ble_eq_true rfl, Nat.le_of_ble_eq_true rfl⟩) hS (wrL_sub (by decide)) (fun zz_199 H locs hp_197 hG hS o_198 => ?_)
        obtain ⟨rV_200, rN_201⟩ := zz_199
        have at_195 := va_at.keptC at_195 o_198 k_a0 rfl
        replace hG : tG D (mF cI cL cC gC gE gW gA gT gr_59 gS_137 gM_138 K_133 F_134 S_135 N_136 gH_139 gJ ge_53 gk_54 gf_55 gs_56 gg_57 gr_59 RN_58 gb_140 rV_200 rN_201) t H := hG
        have hp_197 : (∀ j : Nat, j < 4 → rV_200 j = -4) ∧ (∀ j : Nat, j < 384 → rN_201 j = -1) := hp_197
        obtain ⟨p_202, p_203⟩ := hp_197
        refine lv_aload_n hx hb dX10_build_78 rfl (lv_at hl 2 rfl) ?_
        refine va_get (D := D) (ci := 9) (v := .int gr_59) (C := RX10) (T := TX10) (N := 36) hx hb hts in10 hown hK (va_one at_195) 0 rfl rfl 3 (by decide) (hts (.fieldLink RX10 163 "RiverModelModel" "items" "I") (List.mem_of_getElem? (i := 6) rfl)) (fun _ h9 => h9) rfl dX10_build_79 ?_
        exact tx_iret (z := (ge_53, gk_54, gf_55, gs_56, gg_57, RN_58, gr_59, gr_59, K_133, F_134, S_135, N_136, gS_137, gM_138, gH_139, gb_140, rV_200, rN_201)) hx hb hr hlk hG hS ⟨(by show 0 ≤ gr_59.toInt; omega), (by show gr_59.toInt ≤ 40; omega), (by show 0 ≤ gH_139; omega), (by show gH_139 ≤ 96; omega), (by show 0 ≤ gM_138.toInt; omega), (by show gM_138.toInt ≤ 3; omega), (show okM K_133 F_134 S_135 N_136 0 gr_59.toInt from p_144), (show swM gS_137 K_133 F_134 S_135 N_136 gr_59.toInt from hw_147), (show othR gb_140 gS_137 gr_59 K_133 F_134 from (othR.none p_141)), (by show resB (byT gT gC) gC.toInt gr_59; exact rdN.yes (by rw [hr4] at p_71; exact p_71) (by omega) (fun _ _ _ _ q => q.pos) rfl (stQ.yes v77_4 (by omega) (by omega))), (by show bldR (byT gT gC) gC.toInt gr_59 gb gb_140 gS gS_137 gI gr_59 K F K_133 F_134 rV rN rV_200 rN_201; exact Or.inr ⟨by omega, by omega, by omega, p_202, p_203, _, _, (by rw [hr4] at p_71; exact p_71), p_146⟩)⟩ dX10_build_82
      · skip
        have c_78 : ys.toInt = 0 := q_eq c_78
        refine lv_bipush (v := (-2)) hx hb dX10_build_58 (by decide) ?_
        refine lv_pc (pc2 := 60) rfl ?_
        have zi_m2 : ((-2) : Int32).toInt = (-2) := by decide
        exact tx_iret (z := (ge_53, gk_54, gf_55, gs_56, gg_57, RN_58, gr_59, gI, K_60, F_61, S_62, N_63, gS, gM, gH, gb, rV, rN)) hx hb hr hlk hG hS ⟨(by show 0 ≤ gI.toInt; omega), (by show gI.toInt ≤ 40; omega), (by show 0 ≤ gH; omega), (by show gH ≤ 96; omega), (by show 0 ≤ gM.toInt; omega), (by show gM.toInt ≤ 3; omega), (show okM K_60 F_61 S_62 N_63 0 gI.toInt from ok_72), (show swM gS K_60 F_61 S_62 N_63 gI.toInt from ok_73), (show othR gb gS gI K_60 F_61 from ho_74), (by show resB (byT gT gC) gC.toInt ((-2) : Int32); exact rdN.no p_71 (by omega) (Or.inr (stQ.no v77_4 (by omega) (by omega)))), (by show bldR (byT gT gC) gC.toInt ((-2) : Int32) gb gb gS gS gI gI K F K_60 F_61 rV rN rV rN; exact Or.inl ⟨by omega, rfl, rfl, rfl, rfl, rfl, p_64, p_65⟩)⟩ dX10_build_60
    have lp77 : ∀ (kk77 : Nat) (yk : Int32) (ys : Int32) (H1 : Heap) (locs1 : List Loc) (ls1 : Array Slot), 40 - yk.toInt ≤ (kk77 : Int) → (0 ≤ yk.toInt) → (yk.toInt ≤ gr_59.toInt) → (0 ≤ ys.toInt) → (ys.toInt ≤ 1) → (stQ ys.toInt K_60 yk.toInt) → tG D (mF cI cL cC gC gE gW gA gT gI gS gM K_60 F_61 S_62 N_63 gH gJ ge_53 gk_54 gf_55 gs_56 gg_57 gr_59 RN_58 gb rV rN) t H1 → tF t wAll2 s.heap H1 locs1 → lv_has ls1 3 [(2, .int yk), (1, .int ys), (0, .ref a0)] → WW77 H1 locs1 (F0 m 16 ls1 []) := by
      intro kk77
      induction kk77 with
      | zero =>
        intro yk ys H locs ls hk77 v77_0 v77_1 v77_2 v77_3 v77_4 hG hS hl
        refine (hWW77 _ _ _).mpr ?_
        refine lv_iload_n hx hb dX10_build_16 rfl (lv_at hl 0 rfl) ?_
        refine lv_aload_n hx hb dX10_build_17 rfl (lv_at hl 2 rfl) ?_
        obtain ⟨r_204, r_206, r_208, r_210, r_212, r_214, r_216, r_218, r_220, r_222, r_224, r_226, r_228, r_230, r_232, r_234, r_236, r_238, r_240, r_242, r_244, r_246, v_248, r_249, at_251, h_205, h_207, h_209, h_211, h_213, h_215, h_217, h_219, h_221, h_223, h_225, h_227, h_229, h_231, h_233, h_235, h_237, h_239, h_241, h_243, h_245, h_247, h_250⟩ := mF_o40 hG k_a0
        refine va_get (D := D) (ci := 9) (v := .int gr_59) (C := RX10) (T := TX10) (N := 36) hx hb hts in10 hown hK (va_one at_251) 0 rfl rfl 33 (by decide) (hts (.fieldLink RX10 148 "RiverModelModel" "readItems" "I") (List.mem_of_getElem? (i := 5) rfl)) (fun _ h9 => h9) rfl dX10_build_18 ?_
        refine lv_icmp_ge (tgt := 54) hx hb dX10_build_21 (by decide) (fun c_252 => ?_) (fun c_252 => ?_)
        · skip
          have c_252 : gr_59.toInt ≤ yk.toInt := q_le c_252
          exact (hWW77 _ _ _).mp (kx77 yk ys H locs ls v77_0 v77_1 v77_2 v77_3 v77_4 (by omega) hG hS (lv_sub hl [0, 1, 2] rfl))
        · skip
          have c_252 : yk.toInt < gr_59.toInt := q_nle c_252
          exfalso; omega
      | succ kk77 ih77 =>
        intro yk ys H locs ls hk77 v77_0 v77_1 v77_2 v77_3 v77_4 hG hS hl
        refine (hWW77 _ _ _).mpr ?_
        refine lv_iload_n hx hb dX10_build_16 rfl (lv_at hl 0 rfl) ?_
        refine lv_aload_n hx hb dX10_build_17 rfl (lv_at hl 2 rfl) ?_
        obtain ⟨r_253, r_255, r_257, r_259, r_261, r_263, r_265, r_267, r_269, r_271, r_273, r_275, r_277, r_279, r_281, r_283, r_285, r_287, r_289, r_291, r_293, r_295, v_297, r_298, at_300, h_254, h_256, h_258, h_260, h_262, h_264, h_266, h_268, h_270, h_272, h_274, h_276, h_278, h_280, h_282, h_284, h_286, h_288, h_290, h_292, h_294, h_296, h_299⟩ := mF_o40 hG k_a0
        refine va_get (D := D) (ci := 9) (v := .int gr_59) (C := RX10) (T := TX10) (N := 36) hx hb hts in10 hown hK (va_one at_300) 0 rfl rfl 33 (by decide) (hts (.fieldLink RX10 148 "RiverModelModel" "readItems" "I") (List.mem_of_getElem? (i := 5) rfl)) (fun _ h9 => h9) rfl dX10_build_18 ?_
        refine lv_pc (pc2 := 21) rfl ?_
        refine lv_icmp_ge (tgt := 54) hx hb dX10_build_21 (by decide) (fun c_301 => ?_) (fun c_301 => ?_)
        · skip
          have c_301 : gr_59.toInt ≤ yk.toInt := q_le c_301
          exact (hWW77 _ _ _).mp (kx77 yk ys H locs ls v77_0 v77_1 v77_2 v77_3 v77_4 (by omega) hG hS (lv_sub hl [0, 1, 2] rfl))
        · skip
          have c_301 : yk.toInt < gr_59.toInt := q_nle c_301
          refine lv_iload_n hx hb dX10_build_24 rfl (lv_at hl 1 rfl) ?_
          refine lv_if_ne (tgt := 42) hx hb dX10_build_25 (by decide) (fun c_302 => ?_) (fun c_302 => ?_)
          · skip
            have c_302 : ys.toInt ≠ 0 := q_ne c_302
            refine lv_iconst (v := 1) hx hb dX10_build_42 (by decide) ?_
            refine lv_goto (tgt := 47) hx hb dX10_build_43 (by decide) ?_
            refine lv_istore_n (lv' := [(1, .int 1), (2, .int yk), (0, .ref a0)]) hx hb dX10_build_47 rfl hl (by decide) rfl (fun ls hl => ?_)
            obtain ⟨x_303, e_304⟩ : ∃ y : Int32, y = yk + Int32.ofInt 1 := ⟨_, rfl⟩
            have i_x_303 : x_303.toInt = yk.toInt + 1 := by rw [e_304, show Int32.ofInt 1 = 1 by decide]; exact (q_add (by rw [show (1 : Int32).toInt = 1 by decide]; omega) (by rw [show (1 : Int32).toInt = 1 by decide]; omega)).trans (by rw [show (1 : Int32).toInt = 1 by decide])
            refine lv_iinc (v := x_303) (lv' := [(2, .int x_303), (1, .int 1), (0, .ref a0)]) hx hb dX10_build_48 hl (k := 1) rfl e_304.symm (by decide) rfl (fun ls hl => ?_)
            refine lv_goto (tgt := 16) hx hb dX10_build_51 (by decide) ?_
            have zi_1 : (1 : Int32).toInt = 1 := by decide
            exact (hWW77 _ _ _).mp (ih77 x_303 1 H locs ls (by omega) (by omega) (by omega) (by omega) (by omega) (stQ.keep v77_4 (by omega) (show x_303.toInt = yk.toInt + 1 by omega) (by omega)) hG hS (lv_sub hl [0, 1, 2] rfl))
          · skip
            have c_302 : ys.toInt = 0 := q_eq c_302
            refine lv_pc (pc2 := 28) rfl ?_
            refine lv_aload_n hx hb dX10_build_28 rfl (lv_at hl 2 rfl) ?_
            refine va_get (D := D) (ci := 9) (v := .ref r_255) (C := RX10) (T := TX10) (N := 36) hx hb hts in10 hown hK (va_one at_300) 0 rfl rfl 4 (by decide) (hts (.fieldLink RX10 13 "RiverModelModel" "kind" "[I") (List.mem_of_getElem? (i := 13) rfl)) (fun _ h9 => h9) rfl dX10_build_29 ?_
            refine lv_bipush (v := 40) hx hb dX10_build_32 (by decide) ?_
            refine lv_iload_n hx hb dX10_build_34 rfl (lv_at hl 0 rfl) ?_
            refine lv_iadd hx hb dX10_build_35 ?_
            refine lv_topi (fun x_305 e_306 => ?_)
            have i_x_305 : x_305.toInt = 40 + yk.toInt := by rw [e_306]; exact (q_add (by rw [show (40 : Int32).toInt = 40 by decide]; omega) (by rw [show (40 : Int32).toInt = 40 by decide]; omega)).trans (by rw [show (40 : Int32).toInt = 40 by decide])
            have at_307 := mF_o42 hG h_256
            have b_308 : vp_in x_305 120 := (q_in (by omega) (by omega))
            refine va_iald hx hb hK (va_one at_307) 0 0 rfl rfl b_308 dX10_build_36 ?_
            refine lv_topi (fun x_309 e_310 => ?_)
            have w_x_309 : x_309 = K_60 (40 + yk.toInt).toNat := by rw [e_310]; exact congrArg (fun q : Int => K_60 q.toNat) (show x_305.toInt = 40 + yk.toInt by omega)
            have i_x_309 : x_309.toInt = (K_60 (40 + yk.toInt).toNat).toInt := by rw [w_x_309]
            refine lv_bipush (v := 115) hx hb dX10_build_37 (by decide) ?_
            refine lv_icmp_ne (tgt := 46) hx hb dX10_build_39 (by decide) (fun c_311 => ?_) (fun c_311 => ?_)
            · skip
              have c_311 : x_309.toInt ≠ 115 := q_ne c_311
              refine lv_pc (pc2 := 46) rfl ?_
              refine lv_iconst (v := 0) hx hb dX10_build_46 (by decide) ?_
              refine lv_istore_n (lv' := [(1, .int 0), (2, .int yk), (0, .ref a0)]) hx hb dX10_build_47 rfl hl (by decide) rfl (fun ls hl => ?_)
              obtain ⟨x_312, e_313⟩ : ∃ y : Int32, y = yk + Int32.ofInt 1 := ⟨_, rfl⟩
              have i_x_312 : x_312.toInt = yk.toInt + 1 := by rw [e_313, show Int32.ofInt 1 = 1 by decide]; exact (q_add (by rw [show (1 : Int32).toInt = 1 by decide]; omega) (by rw [show (1 : Int32).toInt = 1 by decide]; omega)).trans (by rw [show (1 : Int32).toInt = 1 by decide])
              refine lv_iinc (v := x_312) (lv' := [(2, .int x_312), (1, .int 0), (0, .ref a0)]) hx hb dX10_build_48 hl (k := 1) rfl e_313.symm (by decide) rfl (fun ls hl => ?_)
              refine lv_goto (tgt := 16) hx hb dX10_build_51 (by decide) ?_
              have zi_0 : (0 : Int32).toInt = 0 := by decide
              exact (hWW77 _ _ _).mp (ih77 x_312 0 H locs ls (by omega) (by omega) (by omega) (by omega) (by omega) (stQ.miss v77_4 (by omega) (by rw [← i_x_309]; omega) (show x_312.toInt = yk.toInt + 1 by omega) (by omega)) hG hS (lv_sub hl [0, 1, 2] rfl))
            · skip
              have c_311 : x_309.toInt = 115 := q_eq c_311
              refine lv_iconst (v := 1) hx hb dX10_build_42 (by decide) ?_
              refine lv_goto (tgt := 47) hx hb dX10_build_43 (by decide) ?_
              refine lv_istore_n (lv' := [(1, .int 1), (2, .int yk), (0, .ref a0)]) hx hb dX10_build_47 rfl hl (by decide) rfl (fun ls hl => ?_)
              obtain ⟨x_314, e_315⟩ : ∃ y : Int32, y = yk + Int32.ofInt 1 := ⟨_, rfl⟩
              have i_x_314 : x_314.toInt = yk.toInt + 1 := by rw [e_315, show Int32.ofInt 1 = 1 by decide]; exact (q_add (by rw [show (1 : Int32).toInt = 1 by decide]; omega) (by rw [show (1 : Int32).toInt = 1 by decide]; omega)).trans (by rw [show (1 : Int32).toInt = 1 by decide])
              refine lv_iinc (v := x_314) (lv' := [(2, .int x_314), (1, .int 1), (0, .ref a0)]) hx hb dX10_build_48 hl (k := 1) rfl e_315.symm (by decide) rfl (fun ls hl => ?_)
              refine lv_pc (pc2 := 51) rfl ?_
              refine lv_goto (tgt := 16) hx hb dX10_build_51 (by decide) ?_
              have zi_1 : (1 : Int32).toInt = 1 := by decide
              exact (hWW77 _ _ _).mp (ih77 x_314 1 H locs ls (by omega) (by omega) (by omega) (by omega) (by omega) (stQ.hit v77_4 (by omega) (by rw [← i_x_309]; omega) (show x_314.toInt = yk.toInt + 1 by omega) (by omega)) hG hS (lv_sub hl [0, 1, 2] rfl))
    have zi_0 : (0 : Int32).toInt = 0 := by decide
    exact lp77 (40 - (0 : Int32).toInt : Int).toNat 0 0 H locs ls (by omega) (by omega) (by omega) (by omega) (by omega) (by rw [zi_0]; exact stQ.zero) hG hS (lv_sub hl [0, 1, 2] rfl)
  · skip
    have c_76 : r_49.toInt ≠ (-4) := q_ne c_76
    refine lv_bipush (v := (-2)) hx hb dX10_build_9 (by decide) ?_
    have zi_m2 : ((-2) : Int32).toInt = (-2) := by decide
    exact tx_iret (z := (ge_53, gk_54, gf_55, gs_56, gg_57, RN_58, gr_59, gI, K_60, F_61, S_62, N_63, gS, gM, gH, gb, rV, rN)) hx hb hr hlk hG hS ⟨(by show 0 ≤ gI.toInt; omega), (by show gI.toInt ≤ 40; omega), (by show 0 ≤ gH; omega), (by show gH ≤ 96; omega), (by show 0 ≤ gM.toInt; omega), (by show gM.toInt ≤ 3; omega), (show okM K_60 F_61 S_62 N_63 0 gI.toInt from ok_72), (show swM gS K_60 F_61 S_62 N_63 gI.toInt from ok_73), (show othR gb gS gI K_60 F_61 from ho_74), (by show resB (byT gT gC) gC.toInt ((-2) : Int32); exact rdN.no p_71 (by omega) (Or.inl (by omega))), (by show bldR (byT gT gC) gC.toInt ((-2) : Int32) gb gb gS gS gI gI K F K_60 F_61 rV rN rV rN; exact Or.inl ⟨by omega, rfl, rfl, rfl, rfl, rfl, p_64, p_65⟩)⟩ dX10_build_11

def uX10_item : List Cond := .code yX10_item cX10_item 3 (some .int) :: ([.constantLong RX10 194 (39), .methodLink RX10 85 yX10_in, .static yX10_in, .initialized RX10, .constantLong RX10 196 (5), .fieldLink RX10 173 "RiverModelModel" "isBuilt" "Z", .fieldLink RX10 163 "RiverModelModel" "items" "I", .fieldLink RX10 22 "RiverModelModel" "number" "[I", .fieldLink RX10 19 "RiverModelModel" "second" "[I", .fieldLink RX10 16 "RiverModelModel" "first" "[I", .fieldLink RX10 13 "RiverModelModel" "kind" "[I", .code yX10_in cX10_in 6 (some .boolean)] ++ wsX100)
set_option maxRecDepth 20000 in
theorem gu_X10_item_X10_in_85 : GoodIn uX10_item (va_wsS RX10 85 yX10_in uX10_in) := goodIn_r _ [2, 3, 4, 12] rfl (by decide +kernel)
set_option maxHeartbeats 4000000 in
set_option maxRecDepth 100000 in
theorem m_X10_item (l : Launch) (D : va_G) (t : Nat → Nat) (cI cL cC : ClassId) (gC : Int32) (gE : Int32) (gW : Nat → Int32) (gA : Nat → Int32) (gT : Nat → Int32) (gI : Int32) (gS : Int32) (gM : Int32) (K : Nat → Int32) (F : Nat → Int32) (S : Nat → Int32) (N : Nat → Int32) (gH : Int) (gJ : Int) (ge : Int32) (gk : Int32) (gf : Int32) (gs : Int32) (gg : Int32) (gr : Int32) (RN : Nat → Int32) (gb : Int32) (rV : Nat → Int32) (rN : Nat → Int32) (a0 : Nat) (a1 : Int32) (a2 : Int32) (uq : ∀ b c : Nat, t b = t c → t b ≠ 0 → b = c) (hC0 : 0 ≤ gC.toInt) (hC4 : gC.toInt ≤ 400) (hI0 : 0 ≤ gI.toInt) (hI4 : gI.toInt ≤ 40) (hH0 : 0 ≤ gH) (hH9 : gH ≤ 96) (hm0 : 0 ≤ gM.toInt) (hm3 : gM.toInt ≤ 3) (hO0 : okM K F S N 0 gI.toInt) (hW : swM gS K F S N gI.toInt) (hoR : othR gb gS gI K F) (k_a0 : t a0 = 40) : tM l yX10_item uX10_item 1 25 D (mF cI cL cC gC gE gW gA gT gI gS gM K F S N gH gJ ge gk gf gs gg gr RN gb rV rN) (mF cI cL cC gC gE gW gA gT gI gS gM K F S N gH gJ ge gk gf gs gg gr RN gb rV rN) t cI cL cC [.ref a0, .int a1, .int a2] wr0 (pI (fun r => True)) := by
  refine tM.ofW (cc := cX10_item) (maxL := 3) (ret := (some .int)) (by decide) rfl (Nat.le_of_ble_eq_true rfl) ?_
  intro p e s m below meth c hx hb hr hml hown hts hlk H locs hG hK hE hS ls hl
  have hl : lv_has ls 3 [(0, .ref a0), (1, .int a1), (2, .int a2)] := hl
  have in10 : ∀ w ∈ wsX100, w ∈ uX10_item := fun w h => List.mem_cons_of_mem _ (List.mem_append_right _ h)
  refine lv_iload_n hx hb dX10_item_0 rfl (lv_at hl 1 rfl) ?_
  refine lv_i2l (v := a1.toInt64) hx hb dX10_item_1 rfl ?_
  refine lv_lconst (v := 0) hx hb dX10_item_2 (by decide) ?_
  refine lv_ldc2 hx hb hown (hts (.constantLong RX10 194 (39)) (List.mem_of_getElem? (i := 1) rfl)) dX10_item_3 ?_
  have zl_0 : (0 : Int64).toInt = 0 := by decide
  have zl_39 : (39 : Int64).toInt = 39 := by decide
  refine ty_calli (W.runS (As := [.long a1.toInt64, .long 0, .long 39]) (rest := []) ⟨hx, hb, hml, hown, hts⟩ (m_X10_in l D t cI cL cC gC gE gW gA gT gI gS gM K F S N gH gJ ge gk gf gs gg gr RN gb rV rN a1.toInt64 0 39 a1.toInt 0 39 uq (q_i2l _) (by decide) (by decide) ) (va_cwS 3 hts gu_X10_item_X10_in_85 rfl rfl rfl (by decide +kernel) ⟨Nat.le_of_ble_eq_true rfl, Nat.le_of_ble_eq_true rfl⟩) (tP_S hG hE) rfl rfl hl.1 rfl (lv_room (Nat.le_of_ble_eq_true rfl)) dX10_item_6 ⟨Nat.le_of_ble_eq_true rfl, Nat.le_of_ble_eq_true rfl⟩) hS (fun _ h => h) (fun r_1 H locs hp_2 hG hS o_3 => ?_)
  have hp_2 : (r_1 = 1 ∧ 0 ≤ a1.toInt ∧ a1.toInt ≤ 39) ∨ (r_1 = 0 ∧ (a1.toInt < 0 ∨ 39 < a1.toInt)) := hp_2
  rcases hp_2 with ⟨rfl, p_5, p_6⟩ | ⟨rfl, p_7⟩
  · skip
    refine lv_if_eq (tgt := 24) hx hb dX10_item_9 (by decide) (fun q => absurd q (by decide)) (fun _ => ?_)
    refine lv_iload_n hx hb dX10_item_12 rfl (lv_at hl 2 rfl) ?_
    refine lv_pc (pc2 := 13) rfl ?_
    refine lv_i2l (v := a2.toInt64) hx hb dX10_item_13 rfl ?_
    refine lv_lconst (v := 0) hx hb dX10_item_14 (by decide) ?_
    refine lv_ldc2 hx hb hown (hts (.constantLong RX10 196 (5)) (List.mem_of_getElem? (i := 5) rfl)) dX10_item_15 ?_
    have zl_5 : (5 : Int64).toInt = 5 := by decide
    refine ty_calli (W.runS (As := [.long a2.toInt64, .long 0, .long 5]) (rest := []) ⟨hx, hb, hml, hown, hts⟩ (m_X10_in l D t cI cL cC gC gE gW gA gT gI gS gM K F S N gH gJ ge gk gf gs gg gr RN gb rV rN a2.toInt64 0 5 a2.toInt 0 5 uq (q_i2l _) (by decide) (by decide) ) (va_cwS 3 hts gu_X10_item_X10_in_85 rfl rfl rfl (by decide +kernel) ⟨Nat.le_of_ble_eq_true rfl, Nat.le_of_ble_eq_true rfl⟩) (tP_S hG hE) rfl rfl hl.1 rfl (lv_room (Nat.le_of_ble_eq_true rfl)) dX10_item_18 ⟨Nat.le_of_ble_eq_true rfl, Nat.le_of_ble_eq_true rfl⟩) hS (fun _ h => h) (fun r_8 H locs hp_9 hG hS o_10 => ?_)
    have hp_9 : (r_8 = 1 ∧ 0 ≤ a2.toInt ∧ a2.toInt ≤ 5) ∨ (r_8 = 0 ∧ (a2.toInt < 0 ∨ 5 < a2.toInt)) := hp_9
    rcases hp_9 with ⟨rfl, p_12, p_13⟩ | ⟨rfl, p_14⟩
    · skip
      refine lv_if_ne (tgt := 26) hx hb dX10_item_21 (by decide) (fun _ => ?_) (fun q => absurd q (by decide))
      refine lv_aload_n hx hb dX10_item_26 rfl (lv_at hl 0 rfl) ?_
      obtain ⟨r_15, r_17, r_19, r_21, r_23, r_25, r_27, r_29, r_31, r_33, r_35, r_37, r_39, r_41, r_43, r_45, r_47, r_49, r_51, r_53, r_55, r_57, v_59, r_60, at_62, h_16, h_18, h_20, h_22, h_24, h_26, h_28, h_30, h_32, h_34, h_36, h_38, h_40, h_42, h_44, h_46, h_48, h_50, h_52, h_54, h_56, h_58, h_61⟩ := mF_o40 hG k_a0
      refine va_get (D := D) (ci := 9) (v := .int gb) (C := RX10) (T := TX10) (N := 36) hx hb hts in10 hown hK (va_one at_62) 0 rfl rfl 2 (by decide) (hts (.fieldLink RX10 173 "RiverModelModel" "isBuilt" "Z") (List.mem_of_getElem? (i := 6) rfl)) (fun _ h9 => h9) rfl dX10_item_27 ?_
      refine lv_if_eq (tgt := 41) hx hb dX10_item_30 (by decide) (fun c_63 => ?_) (fun c_63 => ?_)
      · skip
        have c_63 : gb.toInt = 0 := q_eq c_63
        refine lv_pc (pc2 := 41) rfl ?_
        refine lv_bipush (v := (-2)) hx hb dX10_item_41 (by decide) ?_
        have zi_m2 : ((-2) : Int32).toInt = (-2) := by decide
        exact ty_iret hx hb hr hlk hG hS True.intro dX10_item_43
      · skip
        have c_63 : gb.toInt ≠ 0 := q_ne c_63
        refine lv_iload_n hx hb dX10_item_33 rfl (lv_at hl 1 rfl) ?_
        refine lv_aload_n hx hb dX10_item_34 rfl (lv_at hl 0 rfl) ?_
        refine va_get (D := D) (ci := 9) (v := .int gI) (C := RX10) (T := TX10) (N := 36) hx hb hts in10 hown hK (va_one at_62) 0 rfl rfl 3 (by decide) (hts (.fieldLink RX10 163 "RiverModelModel" "items" "I") (List.mem_of_getElem? (i := 7) rfl)) (fun _ h9 => h9) rfl dX10_item_35 ?_
        refine lv_icmp_lt (tgt := 44) hx hb dX10_item_38 (by decide) (fun c_64 => ?_) (fun c_64 => ?_)
        · skip
          have c_64 : a1.toInt < gI.toInt := q_lt c_64
          refine lv_iload_n hx hb dX10_item_44 rfl (lv_at hl 2 rfl) ?_
          refine lv_if_ne (tgt := 57) hx hb dX10_item_45 (by decide) (fun c_65 => ?_) (fun c_65 => ?_)
          · skip
            have c_65 : a2.toInt ≠ 0 := q_ne c_65
            refine lv_pc (pc2 := 57) rfl ?_
            refine lv_iload_n hx hb dX10_item_57 rfl (lv_at hl 2 rfl) ?_
            refine lv_iconst (v := 1) hx hb dX10_item_58 (by decide) ?_
            refine lv_icmp_ne (tgt := 71) hx hb dX10_item_59 (by decide) (fun c_66 => ?_) (fun c_66 => ?_)
            · skip
              have c_66 : a2.toInt ≠ 1 := q_ne c_66
              refine lv_iload_n hx hb dX10_item_71 rfl (lv_at hl 2 rfl) ?_
              refine lv_iconst (v := 2) hx hb dX10_item_72 (by decide) ?_
              refine lv_icmp_ne (tgt := 85) hx hb dX10_item_73 (by decide) (fun c_67 => ?_) (fun c_67 => ?_)
              · skip
                have c_67 : a2.toInt ≠ 2 := q_ne c_67
                refine lv_aload_n hx hb dX10_item_85 rfl (lv_at hl 0 rfl) ?_
                refine va_get (D := D) (ci := 9) (v := .ref r_23) (C := RX10) (T := TX10) (N := 36) hx hb hts in10 hown hK (va_one at_62) 0 rfl rfl 7 (by decide) (hts (.fieldLink RX10 22 "RiverModelModel" "number" "[I") (List.mem_of_getElem? (i := 8) rfl)) (fun _ h9 => h9) rfl dX10_item_86 ?_
                refine lv_pc (pc2 := 89) rfl ?_
                refine lv_iconst (v := 3) hx hb dX10_item_89 (by decide) ?_
                refine lv_iload_n hx hb dX10_item_90 rfl (lv_at hl 1 rfl) ?_
                refine lv_imul hx hb dX10_item_91 ?_
                refine lv_topi (fun x_68 e_69 => ?_)
                have i_x_68 : x_68.toInt = 3 * a1.toInt := by rw [e_69]; exact (q_mul (by rw [show (3 : Int32).toInt = 3 by decide]; omega) (by rw [show (3 : Int32).toInt = 3 by decide]; omega)).trans (by rw [show (3 : Int32).toInt = 3 by decide])
                refine lv_iload_n hx hb dX10_item_92 rfl (lv_at hl 2 rfl) ?_
                refine lv_iadd hx hb dX10_item_93 ?_
                refine lv_topi (fun x_70 e_71 => ?_)
                have i_x_70 : x_70.toInt = x_68.toInt + a2.toInt := by rw [e_71]; exact (q_add (by omega) (by omega)).trans (by rfl)
                refine lv_iconst (v := 3) hx hb dX10_item_94 (by decide) ?_
                refine lv_isub hx hb dX10_item_95 ?_
                refine lv_topi (fun x_72 e_73 => ?_)
                have i_x_72 : x_72.toInt = x_70.toInt - 3 := by rw [e_73]; exact (q_sub (by rw [show (3 : Int32).toInt = 3 by decide]; omega) (by rw [show (3 : Int32).toInt = 3 by decide]; omega)).trans (by rw [show (3 : Int32).toInt = 3 by decide])
                have at_74 := mF_o45 hG h_24
                have b_75 : vp_in x_72 360 := (q_in (by omega) (by omega))
                refine va_iald hx hb hK (va_one at_74) 0 0 rfl rfl b_75 dX10_item_96 ?_
                refine lv_topi (fun x_76 e_77 => ?_)
                have w_x_76 : x_76 = N (x_72.toInt).toNat := by rw [e_77]; exact congrArg (fun q : Int => N q.toNat) (show x_72.toInt = x_72.toInt by omega)
                have i_x_76 : x_76.toInt = (N (x_72.toInt).toNat).toInt := by rw [w_x_76]
                refine lv_pc (pc2 := 97) rfl ?_
                exact ty_iret hx hb hr hlk hG hS True.intro dX10_item_97
              · skip
                have c_67 : a2.toInt = 2 := q_eq c_67
                refine lv_aload_n hx hb dX10_item_76 rfl (lv_at hl 0 rfl) ?_
                refine va_get (D := D) (ci := 9) (v := .ref r_21) (C := RX10) (T := TX10) (N := 36) hx hb hts in10 hown hK (va_one at_62) 0 rfl rfl 6 (by decide) (hts (.fieldLink RX10 19 "RiverModelModel" "second" "[I") (List.mem_of_getElem? (i := 9) rfl)) (fun _ h9 => h9) rfl dX10_item_77 ?_
                refine lv_iload_n hx hb dX10_item_80 rfl (lv_at hl 1 rfl) ?_
                have at_78 := mF_o44 hG h_22
                have b_79 : vp_in a1 120 := (q_in (by omega) (by omega))
                refine va_iald hx hb hK (va_one at_78) 0 0 rfl rfl b_79 dX10_item_81 ?_
                refine lv_topi (fun x_80 e_81 => ?_)
                have w_x_80 : x_80 = S (a1.toInt).toNat := by rw [e_81]; exact congrArg (fun q : Int => S q.toNat) (show a1.toInt = a1.toInt by omega)
                have i_x_80 : x_80.toInt = (S (a1.toInt).toNat).toInt := by rw [w_x_80]
                refine lv_goto (tgt := 97) hx hb dX10_item_82 (by decide) ?_
                exact ty_iret hx hb hr hlk hG hS True.intro dX10_item_97
            · skip
              have c_66 : a2.toInt = 1 := q_eq c_66
              refine lv_aload_n hx hb dX10_item_62 rfl (lv_at hl 0 rfl) ?_
              refine lv_pc (pc2 := 63) rfl ?_
              refine va_get (D := D) (ci := 9) (v := .ref r_19) (C := RX10) (T := TX10) (N := 36) hx hb hts in10 hown hK (va_one at_62) 0 rfl rfl 5 (by decide) (hts (.fieldLink RX10 16 "RiverModelModel" "first" "[I") (List.mem_of_getElem? (i := 10) rfl)) (fun _ h9 => h9) rfl dX10_item_63 ?_
              refine lv_iload_n hx hb dX10_item_66 rfl (lv_at hl 1 rfl) ?_
              have at_82 := mF_o43 hG h_20
              have b_83 : vp_in a1 120 := (q_in (by omega) (by omega))
              refine va_iald hx hb hK (va_one at_82) 0 0 rfl rfl b_83 dX10_item_67 ?_
              refine lv_topi (fun x_84 e_85 => ?_)
              have w_x_84 : x_84 = F (a1.toInt).toNat := by rw [e_85]; exact congrArg (fun q : Int => F q.toNat) (show a1.toInt = a1.toInt by omega)
              have i_x_84 : x_84.toInt = (F (a1.toInt).toNat).toInt := by rw [w_x_84]
              refine lv_goto (tgt := 97) hx hb dX10_item_68 (by decide) ?_
              exact ty_iret hx hb hr hlk hG hS True.intro dX10_item_97
          · skip
            have c_65 : a2.toInt = 0 := q_eq c_65
            refine lv_aload_n hx hb dX10_item_48 rfl (lv_at hl 0 rfl) ?_
            refine va_get (D := D) (ci := 9) (v := .ref r_17) (C := RX10) (T := TX10) (N := 36) hx hb hts in10 hown hK (va_one at_62) 0 rfl rfl 4 (by decide) (hts (.fieldLink RX10 13 "RiverModelModel" "kind" "[I") (List.mem_of_getElem? (i := 11) rfl)) (fun _ h9 => h9) rfl dX10_item_49 ?_
            refine lv_iload_n hx hb dX10_item_52 rfl (lv_at hl 1 rfl) ?_
            refine lv_pc (pc2 := 53) rfl ?_
            have at_86 := mF_o42 hG h_18
            have b_87 : vp_in a1 120 := (q_in (by omega) (by omega))
            refine va_iald hx hb hK (va_one at_86) 0 0 rfl rfl b_87 dX10_item_53 ?_
            refine lv_topi (fun x_88 e_89 => ?_)
            have w_x_88 : x_88 = K (a1.toInt).toNat := by rw [e_89]; exact congrArg (fun q : Int => K q.toNat) (show a1.toInt = a1.toInt by omega)
            have i_x_88 : x_88.toInt = (K (a1.toInt).toNat).toInt := by rw [w_x_88]
            refine lv_goto (tgt := 97) hx hb dX10_item_54 (by decide) ?_
            exact ty_iret hx hb hr hlk hG hS True.intro dX10_item_97
        · skip
          have c_64 : gI.toInt ≤ a1.toInt := q_nlt c_64
          refine lv_bipush (v := (-2)) hx hb dX10_item_41 (by decide) ?_
          have zi_m2 : ((-2) : Int32).toInt = (-2) := by decide
          exact ty_iret hx hb hr hlk hG hS True.intro dX10_item_43
    · skip
      refine lv_if_ne (tgt := 26) hx hb dX10_item_21 (by decide) (fun q => absurd rfl q) (fun _ => ?_)
      refine lv_iconst (v := (-1)) hx hb dX10_item_24 (by decide) ?_
      have zi_m1 : ((-1) : Int32).toInt = (-1) := by decide
      exact ty_iret hx hb hr hlk hG hS True.intro dX10_item_25
  · skip
    refine lv_pc (pc2 := 9) rfl ?_
    refine lv_if_eq (tgt := 24) hx hb dX10_item_9 (by decide) (fun _ => ?_) (fun q => absurd (by decide) q)
    refine lv_iconst (v := (-1)) hx hb dX10_item_24 (by decide) ?_
    have zi_m1 : ((-1) : Int32).toInt = (-1) := by decide
    exact ty_iret hx hb hr hlk hG hS True.intro dX10_item_25

def uX10_weather : List Cond := .code yX10_weather cX10_weather 5 (some .int) :: ([.methodLink RX10 85 yX10_in, .static yX10_in, .initialized RX10, .constantLong RX10 198 (95), .constantLong RX10 103 (10000), .constantLong RX10 200 (-30), .constantLong RX10 202 (40), .fieldLink RX10 25 "RiverModelModel" "weather" "[I", .code yX10_in cX10_in 6 (some .boolean)] ++ wsX100)
set_option maxRecDepth 20000 in
theorem gu_X10_weather_X10_in_85 : GoodIn uX10_weather (va_wsS RX10 85 yX10_in uX10_in) := goodIn_r _ [1, 2, 3, 9] rfl (by decide +kernel)
set_option maxHeartbeats 4000000 in
set_option maxRecDepth 100000 in
theorem m_X10_weather (l : Launch) (D : va_G) (t : Nat → Nat) (cI cL cC : ClassId) (gC : Int32) (gE : Int32) (gW : Nat → Int32) (gA : Nat → Int32) (gT : Nat → Int32) (gI : Int32) (gS : Int32) (gM : Int32) (K : Nat → Int32) (F : Nat → Int32) (S : Nat → Int32) (N : Nat → Int32) (gH : Int) (gJ : Int) (ge : Int32) (gk : Int32) (gf : Int32) (gs : Int32) (gg : Int32) (gr : Int32) (RN : Nat → Int32) (gb : Int32) (rV : Nat → Int32) (rN : Nat → Int32) (a0 : Nat) (a1 : Int32) (a2 : Int32) (a3 : Int32) (a4 : Int32) (uq : ∀ b c : Nat, t b = t c → t b ≠ 0 → b = c) (hC0 : 0 ≤ gC.toInt) (hC4 : gC.toInt ≤ 400) (hI0 : 0 ≤ gI.toInt) (hI4 : gI.toInt ≤ 40) (hH0 : 0 ≤ gH) (hH9 : gH ≤ 96) (hm0 : 0 ≤ gM.toInt) (hm3 : gM.toInt ≤ 3) (hO0 : okM K F S N 0 gI.toInt) (hW : swM gS K F S N gI.toInt) (hoR : othR gb gS gI K F) (k_a0 : t a0 = 40) : tM l yX10_weather uX10_weather 1 25 D (mF cI cL cC gC gE gW gA gT gI gS gM K F S N gH gJ ge gk gf gs gg gr RN gb rV rN) (mF cI cL cC gC gE gW gA gT gI gS gM K F S N gH gJ ge gk gf gs gg gr RN gb rV rN) t cI cL cC [.ref a0, .int a1, .int a2, .int a3, .int a4] wWe (pI (fun r => r = aww a1 a2 a3 a4)) := by
  refine tM.ofW (cc := cX10_weather) (maxL := 5) (ret := (some .int)) (by decide) rfl (Nat.le_of_ble_eq_true rfl) ?_
  intro p e s m below meth c hx hb hr hml hown hts hlk H locs hG hK hE hS ls hl
  have hl : lv_has ls 5 [(0, .ref a0), (1, .int a1), (2, .int a2), (3, .int a3), (4, .int a4)] := hl
  have in10 : ∀ w ∈ wsX100, w ∈ uX10_weather := fun w h => List.mem_cons_of_mem _ (List.mem_append_right _ h)
  refine lv_iload_n hx hb dX10_weather_0 rfl (lv_at hl 1 rfl) ?_
  refine lv_i2l (v := a1.toInt64) hx hb dX10_weather_1 rfl ?_
  refine lv_lconst (v := 0) hx hb dX10_weather_2 (by decide) ?_
  refine lv_lconst (v := 1) hx hb dX10_weather_3 (by decide) ?_
  have zl_0 : (0 : Int64).toInt = 0 := by decide
  have zl_1 : (1 : Int64).toInt = 1 := by decide
  refine ty_calli (W.runS (As := [.long a1.toInt64, .long 0, .long 1]) (rest := []) ⟨hx, hb, hml, hown, hts⟩ (m_X10_in l D t cI cL cC gC gE gW gA gT gI gS gM K F S N gH gJ ge gk gf gs gg gr RN gb rV rN a1.toInt64 0 1 a1.toInt 0 1 uq (q_i2l _) (by decide) (by decide) ) (va_cwS 3 hts gu_X10_weather_X10_in_85 rfl rfl rfl (by decide +kernel) ⟨Nat.le_of_ble_eq_true rfl, Nat.le_of_ble_eq_true rfl⟩) (tP_S hG hE) rfl rfl hl.1 rfl (lv_room (Nat.le_of_ble_eq_true rfl)) dX10_weather_4 ⟨Nat.le_of_ble_eq_true rfl, Nat.le_of_ble_eq_true rfl⟩) hS (fun k h => by simp [wr0] at h) (fun r_1 H locs hp_2 hG hS o_3 => ?_)
  have hp_2 : (r_1 = 1 ∧ 0 ≤ a1.toInt ∧ a1.toInt ≤ 1) ∨ (r_1 = 0 ∧ (a1.toInt < 0 ∨ 1 < a1.toInt)) := hp_2
  rcases hp_2 with ⟨rfl, p_5, p_6⟩ | ⟨rfl, p_7⟩
  · skip
    refine lv_if_eq (tgt := 49) hx hb dX10_weather_7 (by decide) (fun q => absurd q (by decide)) (fun _ => ?_)
    refine lv_iload_n hx hb dX10_weather_10 rfl (lv_at hl 2 rfl) ?_
    refine lv_pc (pc2 := 11) rfl ?_
    refine lv_i2l (v := a2.toInt64) hx hb dX10_weather_11 rfl ?_
    refine lv_lconst (v := 0) hx hb dX10_weather_12 (by decide) ?_
    refine lv_ldc2 hx hb hown (hts (.constantLong RX10 198 (95)) (List.mem_of_getElem? (i := 4) rfl)) dX10_weather_13 ?_
    have zl_95 : (95 : Int64).toInt = 95 := by decide
    refine ty_calli (W.runS (As := [.long a2.toInt64, .long 0, .long 95]) (rest := []) ⟨hx, hb, hml, hown, hts⟩ (m_X10_in l D t cI cL cC gC gE gW gA gT gI gS gM K F S N gH gJ ge gk gf gs gg gr RN gb rV rN a2.toInt64 0 95 a2.toInt 0 95 uq (q_i2l _) (by decide) (by decide) ) (va_cwS 3 hts gu_X10_weather_X10_in_85 rfl rfl rfl (by decide +kernel) ⟨Nat.le_of_ble_eq_true rfl, Nat.le_of_ble_eq_true rfl⟩) (tP_S hG hE) rfl rfl hl.1 rfl (lv_room (Nat.le_of_ble_eq_true rfl)) dX10_weather_16 ⟨Nat.le_of_ble_eq_true rfl, Nat.le_of_ble_eq_true rfl⟩) hS (fun k h => by simp [wr0] at h) (fun r_8 H locs hp_9 hG hS o_10 => ?_)
    have hp_9 : (r_8 = 1 ∧ 0 ≤ a2.toInt ∧ a2.toInt ≤ 95) ∨ (r_8 = 0 ∧ (a2.toInt < 0 ∨ 95 < a2.toInt)) := hp_9
    rcases hp_9 with ⟨rfl, p_12, p_13⟩ | ⟨rfl, p_14⟩
    · skip
      refine lv_if_eq (tgt := 49) hx hb dX10_weather_19 (by decide) (fun q => absurd q (by decide)) (fun _ => ?_)
      refine lv_iload_n hx hb dX10_weather_22 rfl (lv_at hl 3 rfl) ?_
      refine lv_i2l (v := a3.toInt64) hx hb dX10_weather_23 rfl ?_
      refine lv_lconst (v := 0) hx hb dX10_weather_24 (by decide) ?_
      refine lv_pc (pc2 := 25) rfl ?_
      refine lv_ldc2 hx hb hown (hts (.constantLong RX10 103 (10000)) (List.mem_of_getElem? (i := 5) rfl)) dX10_weather_25 ?_
      have zl_10000 : (10000 : Int64).toInt = 10000 := by decide
      refine ty_calli (W.runS (As := [.long a3.toInt64, .long 0, .long 10000]) (rest := []) ⟨hx, hb, hml, hown, hts⟩ (m_X10_in l D t cI cL cC gC gE gW gA gT gI gS gM K F S N gH gJ ge gk gf gs gg gr RN gb rV rN a3.toInt64 0 10000 a3.toInt 0 10000 uq (q_i2l _) (by decide) (by decide) ) (va_cwS 3 hts gu_X10_weather_X10_in_85 rfl rfl rfl (by decide +kernel) ⟨Nat.le_of_ble_eq_true rfl, Nat.le_of_ble_eq_true rfl⟩) (tP_S hG hE) rfl rfl hl.1 rfl (lv_room (Nat.le_of_ble_eq_true rfl)) dX10_weather_28 ⟨Nat.le_of_ble_eq_true rfl, Nat.le_of_ble_eq_true rfl⟩) hS (fun k h => by simp [wr0] at h) (fun r_15 H locs hp_16 hG hS o_17 => ?_)
      have hp_16 : (r_15 = 1 ∧ 0 ≤ a3.toInt ∧ a3.toInt ≤ 10000) ∨ (r_15 = 0 ∧ (a3.toInt < 0 ∨ 10000 < a3.toInt)) := hp_16
      rcases hp_16 with ⟨rfl, p_19, p_20⟩ | ⟨rfl, p_21⟩
      · skip
        refine lv_if_eq (tgt := 49) hx hb dX10_weather_31 (by decide) (fun q => absurd q (by decide)) (fun _ => ?_)
        refine lv_iload hx hb dX10_weather_34 (lv_at hl 4 rfl) ?_
        refine lv_i2l (v := a4.toInt64) hx hb dX10_weather_36 rfl ?_
        refine lv_ldc2 hx hb hown (hts (.constantLong RX10 200 (-30)) (List.mem_of_getElem? (i := 6) rfl)) dX10_weather_37 ?_
        refine lv_ldc2 hx hb hown (hts (.constantLong RX10 202 (40)) (List.mem_of_getElem? (i := 7) rfl)) dX10_weather_40 ?_
        have zl_m30 : ((-30) : Int64).toInt = (-30) := by decide
        have zl_40 : (40 : Int64).toInt = 40 := by decide
        refine ty_calli (W.runS (As := [.long a4.toInt64, .long (-30), .long 40]) (rest := []) ⟨hx, hb, hml, hown, hts⟩ (m_X10_in l D t cI cL cC gC gE gW gA gT gI gS gM K F S N gH gJ ge gk gf gs gg gr RN gb rV rN a4.toInt64 (-30) 40 a4.toInt (-30) 40 uq (q_i2l _) (by decide) (by decide) ) (va_cwS 3 hts gu_X10_weather_X10_in_85 rfl rfl rfl (by decide +kernel) ⟨Nat.le_of_ble_eq_true rfl, Nat.le_of_ble_eq_true rfl⟩) (tP_S hG hE) rfl rfl hl.1 rfl (lv_room (Nat.le_of_ble_eq_true rfl)) dX10_weather_43 ⟨Nat.le_of_ble_eq_true rfl, Nat.le_of_ble_eq_true rfl⟩) hS (fun k h => by simp [wr0] at h) (fun r_22 H locs hp_23 hG hS o_24 => ?_)
        have hp_23 : (r_22 = 1 ∧ (-30) ≤ a4.toInt ∧ a4.toInt ≤ 40) ∨ (r_22 = 0 ∧ (a4.toInt < (-30) ∨ 40 < a4.toInt)) := hp_23
        rcases hp_23 with ⟨rfl, p_26, p_27⟩ | ⟨rfl, p_28⟩
        · skip
          refine lv_pc (pc2 := 46) rfl ?_
          refine lv_if_ne (tgt := 51) hx hb dX10_weather_46 (by decide) (fun _ => ?_) (fun q => absurd q (by decide))
          refine lv_aload_n hx hb dX10_weather_51 rfl (lv_at hl 0 rfl) ?_
          obtain ⟨r_29, r_31, r_33, r_35, r_37, r_39, r_41, r_43, r_45, r_47, r_49, r_51, r_53, r_55, r_57, r_59, r_61, r_63, r_65, r_67, r_69, r_71, v_73, r_74, at_76, h_30, h_32, h_34, h_36, h_38, h_40, h_42, h_44, h_46, h_48, h_50, h_52, h_54, h_56, h_58, h_60, h_62, h_64, h_66, h_68, h_70, h_72, h_75⟩ := mF_o40 hG k_a0
          refine va_get (D := D) (ci := 9) (v := .ref r_39) (C := RX10) (T := TX10) (N := 36) hx hb hts in10 hown hK (va_one at_76) 0 rfl rfl 9 (by decide) (hts (.fieldLink RX10 25 "RiverModelModel" "weather" "[I") (List.mem_of_getElem? (i := 8) rfl)) (fun _ h9 => h9) rfl dX10_weather_52 ?_
          refine lv_sipush (v := 192) hx hb dX10_weather_55 (by decide) ?_
          refine lv_iload_n hx hb dX10_weather_58 rfl (lv_at hl 1 rfl) ?_
          refine lv_imul hx hb dX10_weather_59 ?_
          refine lv_topi (fun x_77 e_78 => ?_)
          have i_x_77 : x_77.toInt = 192 * a1.toInt := by rw [e_78]; exact (q_mul (by rw [show (192 : Int32).toInt = 192 by decide]; omega) (by rw [show (192 : Int32).toInt = 192 by decide]; omega)).trans (by rw [show (192 : Int32).toInt = 192 by decide])
          refine lv_iconst (v := 2) hx hb dX10_weather_60 (by decide) ?_
          refine lv_iload_n hx hb dX10_weather_61 rfl (lv_at hl 2 rfl) ?_
          refine lv_pc (pc2 := 62) rfl ?_
          refine lv_imul hx hb dX10_weather_62 ?_
          refine lv_topi (fun x_79 e_80 => ?_)
          have i_x_79 : x_79.toInt = 2 * a2.toInt := by rw [e_80]; exact (q_mul (by rw [show (2 : Int32).toInt = 2 by decide]; omega) (by rw [show (2 : Int32).toInt = 2 by decide]; omega)).trans (by rw [show (2 : Int32).toInt = 2 by decide])
          refine lv_iadd hx hb dX10_weather_63 ?_
          refine lv_topi (fun x_81 e_82 => ?_)
          have i_x_81 : x_81.toInt = x_77.toInt + x_79.toInt := by rw [e_82]; exact (q_add (by omega) (by omega)).trans (by rfl)
          refine lv_iload_n hx hb dX10_weather_64 rfl (lv_at hl 3 rfl) ?_
          obtain ⟨f_83, at_84⟩ := mF_o46 hG h_40
          have b_85 : vp_in x_81 384 := (q_in (by omega) (by omega))
          refine ty_iast (F2 := (mF cI cL cC gC gE gW gA gT gI gS gM K F S N gH gJ ge gk gf gs gg gr RN gb rV rN)) hx hb hK hG hS 0 at_84 (by rw [h_40]; rfl) rfl b_85 (by rw [h_40]; exact ⟨_, rfl⟩) tFF dX10_weather_65 (fun H locs hG hS at_86 o_87 => ?_)
          have at_76 := va_at.keptK at_76 o_87 h_40 k_a0 rfl
          refine lv_aload_n hx hb dX10_weather_66 rfl (lv_at hl 0 rfl) ?_
          refine va_get (D := D) (ci := 9) (v := .ref r_39) (C := RX10) (T := TX10) (N := 36) hx hb hts in10 hown hK (va_one at_76) 0 rfl rfl 9 (by decide) (hts (.fieldLink RX10 25 "RiverModelModel" "weather" "[I") (List.mem_of_getElem? (i := 8) rfl)) (fun _ h9 => h9) rfl dX10_weather_67 ?_
          refine lv_sipush (v := 192) hx hb dX10_weather_70 (by decide) ?_
          refine lv_iload_n hx hb dX10_weather_73 rfl (lv_at hl 1 rfl) ?_
          refine lv_pc (pc2 := 74) rfl ?_
          refine lv_imul hx hb dX10_weather_74 ?_
          refine lv_topi (fun x_88 e_89 => ?_)
          have i_x_88 : x_88.toInt = 192 * a1.toInt := by rw [e_89]; exact (q_mul (by rw [show (192 : Int32).toInt = 192 by decide]; omega) (by rw [show (192 : Int32).toInt = 192 by decide]; omega)).trans (by rw [show (192 : Int32).toInt = 192 by decide])
          refine lv_iconst (v := 2) hx hb dX10_weather_75 (by decide) ?_
          refine lv_iload_n hx hb dX10_weather_76 rfl (lv_at hl 2 rfl) ?_
          refine lv_imul hx hb dX10_weather_77 ?_
          refine lv_topi (fun x_90 e_91 => ?_)
          have i_x_90 : x_90.toInt = 2 * a2.toInt := by rw [e_91]; exact (q_mul (by rw [show (2 : Int32).toInt = 2 by decide]; omega) (by rw [show (2 : Int32).toInt = 2 by decide]; omega)).trans (by rw [show (2 : Int32).toInt = 2 by decide])
          refine lv_iadd hx hb dX10_weather_78 ?_
          refine lv_topi (fun x_92 e_93 => ?_)
          have i_x_92 : x_92.toInt = x_88.toInt + x_90.toInt := by rw [e_93]; exact (q_add (by omega) (by omega)).trans (by rfl)
          refine lv_iconst (v := 1) hx hb dX10_weather_79 (by decide) ?_
          refine lv_iadd hx hb dX10_weather_80 ?_
          refine lv_topi (fun x_94 e_95 => ?_)
          have i_x_94 : x_94.toInt = x_92.toInt + 1 := by rw [e_95]; exact (q_add (by rw [show (1 : Int32).toInt = 1 by decide]; omega) (by rw [show (1 : Int32).toInt = 1 by decide]; omega)).trans (by rw [show (1 : Int32).toInt = 1 by decide])
          refine lv_iload hx hb dX10_weather_81 (lv_at hl 4 rfl) ?_
          refine lv_pc (pc2 := 83) rfl ?_
          obtain ⟨f_96, at_97⟩ := mF_o46 hG h_40
          have b_98 : vp_in x_94 384 := (q_in (by omega) (by omega))
          refine ty_iast (F2 := (mF cI cL cC gC gE gW gA gT gI gS gM K F S N gH gJ ge gk gf gs gg gr RN gb rV rN)) hx hb hK hG hS 0 at_97 (by rw [h_40]; rfl) rfl b_98 (by rw [h_40]; exact ⟨_, rfl⟩) tFF dX10_weather_83 (fun H locs hG hS at_99 o_100 => ?_)
          have at_76 := va_at.keptK at_76 o_100 h_40 k_a0 rfl
          refine lv_iconst (v := 0) hx hb dX10_weather_84 (by decide) ?_
          have zi_0 : (0 : Int32).toInt = 0 := by decide
          exact ty_iret hx hb hr hlk hG hS (by show (0 : Int32) = aww a1 a2 a3 a4; simp only [aww]; first | (rw [if_pos (by omega)]; done) | (rw [if_neg (by omega)]; done) | (rw [if_neg (by omega), if_pos (by omega)]; done) | (rw [if_neg (by omega), if_neg (by omega)]; done)) dX10_weather_85
        · skip
          refine lv_if_ne (tgt := 51) hx hb dX10_weather_46 (by decide) (fun q => absurd rfl q) (fun _ => ?_)
          refine lv_iconst (v := (-1)) hx hb dX10_weather_49 (by decide) ?_
          have zi_m1 : ((-1) : Int32).toInt = (-1) := by decide
          exact ty_iret hx hb hr hlk hG hS (by show ((-1) : Int32) = aww a1 a2 a3 a4; simp only [aww]; first | (rw [if_pos (by omega)]; done) | (rw [if_neg (by omega)]; done) | (rw [if_neg (by omega), if_pos (by omega)]; done) | (rw [if_neg (by omega), if_neg (by omega)]; done)) dX10_weather_50
      · skip
        refine lv_if_eq (tgt := 49) hx hb dX10_weather_31 (by decide) (fun _ => ?_) (fun q => absurd (by decide) q)
        refine lv_iconst (v := (-1)) hx hb dX10_weather_49 (by decide) ?_
        refine lv_pc (pc2 := 50) rfl ?_
        have zi_m1 : ((-1) : Int32).toInt = (-1) := by decide
        exact ty_iret hx hb hr hlk hG hS (by show ((-1) : Int32) = aww a1 a2 a3 a4; simp only [aww]; first | (rw [if_pos (by omega)]; done) | (rw [if_neg (by omega)]; done) | (rw [if_neg (by omega), if_pos (by omega)]; done) | (rw [if_neg (by omega), if_neg (by omega)]; done)) dX10_weather_50
    · skip
      refine lv_if_eq (tgt := 49) hx hb dX10_weather_19 (by decide) (fun _ => ?_) (fun q => absurd (by decide) q)
      refine lv_iconst (v := (-1)) hx hb dX10_weather_49 (by decide) ?_
      have zi_m1 : ((-1) : Int32).toInt = (-1) := by decide
      exact ty_iret hx hb hr hlk hG hS (by show ((-1) : Int32) = aww a1 a2 a3 a4; simp only [aww]; first | (rw [if_pos (by omega)]; done) | (rw [if_neg (by omega)]; done) | (rw [if_neg (by omega), if_pos (by omega)]; done) | (rw [if_neg (by omega), if_neg (by omega)]; done)) dX10_weather_50
  · skip
    refine lv_if_eq (tgt := 49) hx hb dX10_weather_7 (by decide) (fun _ => ?_) (fun q => absurd (by decide) q)
    refine lv_iconst (v := (-1)) hx hb dX10_weather_49 (by decide) ?_
    have zi_m1 : ((-1) : Int32).toInt = (-1) := by decide
    exact ty_iret hx hb hr hlk hG hS (by show ((-1) : Int32) = aww a1 a2 a3 a4; simp only [aww]; first | (rw [if_pos (by omega)]; done) | (rw [if_neg (by omega)]; done) | (rw [if_neg (by omega), if_pos (by omega)]; done) | (rw [if_neg (by omega), if_neg (by omega)]; done)) dX10_weather_50

def uX10_anew : List Cond := .code yX10_anew cX10_anew 2 (some .int) :: ([.fieldLink RX10 173 "RiverModelModel" "isBuilt" "Z", .fieldLink RX10 28 "RiverModelModel" "m" "[J", .methodLink RX10 186 yX10_begins, .instanceMethod yX10_begins, .selects RX10 yX10_begins yX10_begins, .initialized RX10, .code yX10_begins cX10_begins 4 none, .methodLink RX10 183 yX10_startOf, .instanceMethod yX10_startOf, .selects RX10 yX10_startOf yX10_startOf, .methodLink RX10 208 yX10_isStore, .instanceMethod yX10_isStore, .selects RX10 yX10_isStore yX10_isStore, .fieldLink RX10 71 "RiverModelModel" "startB" "[I", .constantLong RX10 204 (224), .constantLong RX10 206 (227), .methodLink RX10 85 yX10_in, .static yX10_in, .constantLong RX10 196 (5), .code yX10_startOf cX10_startOf 4 (some .int), .methodLink RX10 166 yX10_storeAt, .instanceMethod yX10_storeAt, .selects RX10 yX10_storeAt yX10_storeAt, .fieldLink RX10 22 "RiverModelModel" "number" "[I", .code yX10_storeAt cX10_storeAt 5 (some .int), .fieldLink RX10 163 "RiverModelModel" "items" "I", .fieldLink RX10 13 "RiverModelModel" "kind" "[I", .fieldLink RX10 16 "RiverModelModel" "first" "[I", .code yX10_isStore cX10_isStore 2 (some .boolean), .code yX10_in cX10_in 6 (some .boolean)] ++ wsX100)
set_option maxRecDepth 20000 in
theorem gu_X10_anew_X10_begins_186 : GoodIn uX10_anew (wsV RX10 186 RX10 yX10_begins uX10_begins) := goodIn_r _ [3, 4, 5, 6, 7, 2, 8, 9, 10, 6, 11, 12, 13, 14, 15, 16, 17, 18, 19, 20, 21, 22, 23, 24, 25, 26, 27, 28, 29, 30, 31, 32, 33, 34, 35, 36, 37, 38, 39, 40, 41, 42, 43, 44, 45, 46, 47, 48, 49, 50, 51, 52, 53, 54, 55, 56, 57, 58, 59, 60, 61, 62, 63, 64, 65, 66] rfl (by decide +kernel)
set_option maxHeartbeats 4000000 in
set_option maxRecDepth 100000 in
theorem m_X10_anew (l : Launch) (D : va_G) (t : Nat → Nat) (cI cL cC : ClassId) (gC : Int32) (gE : Int32) (gW : Nat → Int32) (gA : Nat → Int32) (gT : Nat → Int32) (gI : Int32) (gS : Int32) (gM : Int32) (K : Nat → Int32) (F : Nat → Int32) (S : Nat → Int32) (N : Nat → Int32) (gH : Int) (gJ : Int) (ge : Int32) (gk : Int32) (gf : Int32) (gs : Int32) (gg : Int32) (gr : Int32) (RN : Nat → Int32) (gb : Int32) (rV : Nat → Int32) (rN : Nat → Int32) (a0 : Nat) (uq : ∀ b c : Nat, t b = t c → t b ≠ 0 → b = c) (hC0 : 0 ≤ gC.toInt) (hC4 : gC.toInt ≤ 400) (hI0 : 0 ≤ gI.toInt) (hI4 : gI.toInt ≤ 40) (hH0 : 0 ≤ gH) (hH9 : gH ≤ 96) (hm0 : 0 ≤ gM.toInt) (hm3 : gM.toInt ≤ 3) (hO0 : okM K F S N 0 gI.toInt) (hW : swM gS K F S N gI.toInt) (hoR : othR gb gS gI K F) (k_a0 : t a0 = 40) : tMx (Z := (Int)) l yX10_anew uX10_anew 3 70 D (mF cI cL cC gC gE gW gA gT gI gS gM K F S N gH gJ ge gk gf gs gg gr RN gb rV rN) (fun z => (mF cI cL cC gC gE gW gA gT gI gS gM K F S N z gJ ge gk gf gs gg gr RN gb rV rN)) t cI cL cC [.ref a0] wm (xI (fun r (z : (Int)) => 0 ≤ z ∧ z ≤ 96)) := by
  refine tMx.ofW (cc := cX10_anew) (maxL := 2) (ret := (some .int)) (by decide) rfl (Nat.le_of_ble_eq_true rfl) ?_
  intro p e s m below meth c hx hb hr hml hown hts hlk H locs hG hK hE hS ls hl
  have hl : lv_has ls 2 [(0, .ref a0)] := hl
  have in10 : ∀ w ∈ wsX100, w ∈ uX10_anew := fun w h => List.mem_cons_of_mem _ (List.mem_append_right _ h)
  refine lv_aload_n hx hb dX10_anew_0 rfl (lv_at hl 0 rfl) ?_
  obtain ⟨r_1, r_3, r_5, r_7, r_9, r_11, r_13, r_15, r_17, r_19, r_21, r_23, r_25, r_27, r_29, r_31, r_33, r_35, r_37, r_39, r_41, r_43, v_45, r_46, at_48, h_2, h_4, h_6, h_8, h_10, h_12, h_14, h_16, h_18, h_20, h_22, h_24, h_26, h_28, h_30, h_32, h_34, h_36, h_38, h_40, h_42, h_44, h_47⟩ := mF_o40 hG k_a0
  refine va_get (D := D) (ci := 9) (v := .int gb) (C := RX10) (T := TX10) (N := 36) hx hb hts in10 hown hK (va_one at_48) 0 rfl rfl 2 (by decide) (hts (.fieldLink RX10 173 "RiverModelModel" "isBuilt" "Z") (List.mem_of_getElem? (i := 1) rfl)) (fun _ h9 => h9) rfl dX10_anew_1 ?_
  refine lv_if_ne (tgt := 10) hx hb dX10_anew_4 (by decide) (fun c_49 => ?_) (fun c_49 => ?_)
  · skip
    have c_49 : gb.toInt ≠ 0 := q_ne c_49
    refine lv_aload_n hx hb dX10_anew_10 rfl (lv_at hl 0 rfl) ?_
    refine va_get (D := D) (ci := 9) (v := .ref r_13) (C := RX10) (T := TX10) (N := 36) hx hb hts in10 hown hK (va_one at_48) 0 rfl rfl 10 (by decide) (hts (.fieldLink RX10 28 "RiverModelModel" "m" "[J") (List.mem_of_getElem? (i := 2) rfl)) (fun _ h9 => h9) rfl dX10_anew_11 ?_
    refine lv_sipush (v := 231) hx hb dX10_anew_14 (by decide) ?_
    obtain ⟨f_50, at_51, h_52⟩ := mF_o47 hG h_14
    have b_53 : vp_in 231 280 := (q_in (by decide) (by decide))
    refine va_lald hx hb hK (va_one at_51) 0 1 rfl rfl b_53 dX10_anew_17 ?_
    refine lv_topl (fun z_54 e_55 => ?_)
    have i_z_54 : z_54.toInt = gH := by rw [e_55]; exact gHr_ld h_52 (by decide)
    refine lv_pc (pc2 := 18) rfl ?_
    refine lv_l2i (v := z_54.toInt32) hx hb dX10_anew_18 rfl ?_
    refine lv_topi (fun x_56 e_57 => ?_)
    refine lv_istore_n (lv' := [(1, .int x_56), (0, .ref a0)]) hx hb dX10_anew_19 rfl hl (by decide) rfl (fun ls hl => ?_)
    refine lv_aload_n hx hb dX10_anew_20 rfl (lv_at hl 1 rfl) ?_
    refine lv_iconst (v := 0) hx hb dX10_anew_21 (by decide) ?_
    refine lv_iconst (v := 0) hx hb dX10_anew_22 (by decide) ?_
    have zi_0 : (0 : Int32).toInt = 0 := by decide
    refine tx_callv (W.runV (As := [.int 0, .int 0]) (rest := []) ⟨hx, hb, hml, hown, hts⟩ (m_X10_begins l D t cI cL cC gC gE gW gA gT gI gS gM K F S N gH gJ ge gk gf gs gg gr RN gb rV rN a0 0 0 0 uq (by omega) (by omega) (by omega) (by omega) (by omega) k_a0) (cwV 2 hts gu_X10_anew_X10_begins_186 rfl rfl rfl (by decide +kernel) ⟨Nat.le_of_ble_eq_true rfl, Nat.le_of_ble_eq_true rfl⟩) (tP_V hG hE at_48 rfl) rfl rfl hl.1 rfl (lv_room (Nat.le_of_ble_eq_true rfl)) dX10_anew_23 ⟨Nat.le_of_ble_eq_true rfl, Nat.le_of_ble_eq_true rfl⟩) hS (fun _ h => h) (fun gH_62 H locs hp_59 hG hS o_60 => ?_)
    have at_48 := va_at.keptC at_48 o_60 k_a0 rfl
    replace hG : tG D (mF cI cL cC gC gE gW gA gT gI gS gM K F S N gH_62 gJ ge gk gf gs gg gr RN gb rV rN) t H := hG
    have hp_59 : gH_62 = 0 := hp_59
    have p_63 := hp_59
    refine lv_iload_n hx hb dX10_anew_26 rfl (lv_at hl 0 rfl) ?_
    exact tx_iret (z := (gH_62)) hx hb hr hlk hG hS ⟨(by show 0 ≤ gH_62; omega), (by show gH_62 ≤ 96; omega)⟩ dX10_anew_27
  · skip
    have c_49 : gb.toInt = 0 := q_eq c_49
    refine lv_pc (pc2 := 7) rfl ?_
    refine lv_bipush (v := (-2)) hx hb dX10_anew_7 (by decide) ?_
    have zi_m2 : ((-2) : Int32).toInt = (-2) := by decide
    exact tx_iret (z := (gH)) hx hb hr hlk hG hS ⟨(by show 0 ≤ gH; omega), (by show gH ≤ 96; omega)⟩ dX10_anew_9

def uX10_run : List Cond := .code yX10_run cX10_run 3 (some .int) :: ([.constantLong RX10 229 (96), .methodLink RX10 85 yX10_in, .static yX10_in, .initialized RX10, .fieldLink RX10 173 "RiverModelModel" "isBuilt" "Z", .fieldLink RX10 28 "RiverModelModel" "m" "[J", .methodLink RX10 231 yX10_goes, .instanceMethod yX10_goes, .selects RX10 yX10_goes yX10_goes, .code yX10_in cX10_in 6 (some .boolean), .code yX10_goes cX10_goes 4 none, .fieldLink RX10 25 "RiverModelModel" "weather" "[I", .methodLink RX10 225 yX10_passes, .instanceMethod yX10_passes, .selects RX10 yX10_passes yX10_passes, .code yX10_passes cX10_passes 12 none, .fieldLink RX10 163 "RiverModelModel" "items" "I", .fieldLink RX10 13 "RiverModelModel" "kind" "[I", .methodLink RX10 221 yX10_moves, .instanceMethod yX10_moves, .selects RX10 yX10_moves yX10_moves, .fieldLink RX10 16 "RiverModelModel" "first" "[I", .fieldLink RX10 19 "RiverModelModel" "second" "[I", .fieldLink RX10 22 "RiverModelModel" "number" "[I", .code yX10_moves cX10_moves 8 (some .long), .constantLong RX10 219 (10), .methodLink RX10 215 yX10_most, .instanceMethod yX10_most, .selects RX10 yX10_most yX10_most, .constantLong RX10 107 (100), .methodLink RX10 211 yX10_capacity, .instanceMethod yX10_capacity, .selects RX10 yX10_capacity yX10_capacity, .code yX10_most cX10_most 4 (some .long), .code yX10_capacity cX10_capacity 3 (some .long), .methodLink RX10 166 yX10_storeAt, .instanceMethod yX10_storeAt, .selects RX10 yX10_storeAt yX10_storeAt, .code yX10_storeAt cX10_storeAt 5 (some .int)] ++ wsX100)
set_option maxRecDepth 20000 in
theorem gu_X10_run_X10_in_85 : GoodIn uX10_run (va_wsS RX10 85 yX10_in uX10_in) := goodIn_r _ [2, 3, 4, 10] rfl (by decide +kernel)
set_option maxRecDepth 20000 in
theorem gu_X10_run_X10_goes_231 : GoodIn uX10_run (wsV RX10 231 RX10 yX10_goes uX10_goes) := goodIn_r _ [7, 8, 9, 4, 11, 6, 12, 13, 14, 15, 4, 16, 17, 18, 19, 20, 21, 22, 23, 24, 25, 26, 27, 28, 29, 30, 31, 32, 33, 34, 35, 36, 37, 38, 39, 40, 41, 42, 43, 44, 45, 46, 47, 48, 49, 50, 51, 52, 53, 54, 55, 56, 57, 58, 59, 60, 61, 62, 63, 64, 65, 66, 67, 68, 69, 70, 71, 72, 73, 74, 75] rfl (by decide +kernel)
set_option maxHeartbeats 4000000 in
set_option maxRecDepth 100000 in
theorem m_X10_run (l : Launch) (D : va_G) (t : Nat → Nat) (cI cL cC : ClassId) (gC : Int32) (gE : Int32) (gW : Nat → Int32) (gA : Nat → Int32) (gT : Nat → Int32) (gI : Int32) (gS : Int32) (gM : Int32) (K : Nat → Int32) (F : Nat → Int32) (S : Nat → Int32) (N : Nat → Int32) (gH : Int) (gJ : Int) (ge : Int32) (gk : Int32) (gf : Int32) (gs : Int32) (gg : Int32) (gr : Int32) (RN : Nat → Int32) (gb : Int32) (rV : Nat → Int32) (rN : Nat → Int32) (a0 : Nat) (a1 : Int32) (uq : ∀ b c : Nat, t b = t c → t b ≠ 0 → b = c) (hC0 : 0 ≤ gC.toInt) (hC4 : gC.toInt ≤ 400) (hI0 : 0 ≤ gI.toInt) (hI4 : gI.toInt ≤ 40) (hH0 : 0 ≤ gH) (hH9 : gH ≤ 96) (hm0 : 0 ≤ gM.toInt) (hm3 : gM.toInt ≤ 3) (hO0 : okM K F S N 0 gI.toInt) (hW : swM gS K F S N gI.toInt) (hoR : othR gb gS gI K F) (k_a0 : t a0 = 40) : tMx (Z := (Int)) l yX10_run uX10_run 5 127 D (mF cI cL cC gC gE gW gA gT gI gS gM K F S N gH gJ ge gk gf gs gg gr RN gb rV rN) (fun z => (mF cI cL cC gC gE gW gA gT gI gS gM K F S N z gJ ge gk gf gs gg gr RN gb rV rN)) t cI cL cC [.ref a0, .int a1] wm (xI (fun r (z : (Int)) => 0 ≤ z ∧ z ≤ 96)) := by
  refine tMx.ofW (cc := cX10_run) (maxL := 3) (ret := (some .int)) (by decide) rfl (Nat.le_of_ble_eq_true rfl) ?_
  intro p e s m below meth c hx hb hr hml hown hts hlk H locs hG hK hE hS ls hl
  have hl : lv_has ls 3 [(0, .ref a0), (1, .int a1)] := hl
  have in10 : ∀ w ∈ wsX100, w ∈ uX10_run := fun w h => List.mem_cons_of_mem _ (List.mem_append_right _ h)
  refine lv_iload_n hx hb dX10_run_0 rfl (lv_at hl 1 rfl) ?_
  refine lv_i2l (v := a1.toInt64) hx hb dX10_run_1 rfl ?_
  refine lv_lconst (v := 1) hx hb dX10_run_2 (by decide) ?_
  refine lv_ldc2 hx hb hown (hts (.constantLong RX10 229 (96)) (List.mem_of_getElem? (i := 1) rfl)) dX10_run_3 ?_
  have zl_1 : (1 : Int64).toInt = 1 := by decide
  have zl_96 : (96 : Int64).toInt = 96 := by decide
  refine ty_calli (W.runS (As := [.long a1.toInt64, .long 1, .long 96]) (rest := []) ⟨hx, hb, hml, hown, hts⟩ (m_X10_in l D t cI cL cC gC gE gW gA gT gI gS gM K F S N gH gJ ge gk gf gs gg gr RN gb rV rN a1.toInt64 1 96 a1.toInt 1 96 uq (q_i2l _) (by decide) (by decide) ) (va_cwS 3 hts gu_X10_run_X10_in_85 rfl rfl rfl (by decide +kernel) ⟨Nat.le_of_ble_eq_true rfl, Nat.le_of_ble_eq_true rfl⟩) (tP_S hG hE) rfl rfl hl.1 rfl (lv_room (Nat.le_of_ble_eq_true rfl)) dX10_run_6 ⟨Nat.le_of_ble_eq_true rfl, Nat.le_of_ble_eq_true rfl⟩) hS (fun k h => by simp [wr0] at h) (fun r_1 H locs hp_2 hG hS o_3 => ?_)
  have hp_2 : (r_1 = 1 ∧ 1 ≤ a1.toInt ∧ a1.toInt ≤ 96) ∨ (r_1 = 0 ∧ (a1.toInt < 1 ∨ 96 < a1.toInt)) := hp_2
  rcases hp_2 with ⟨rfl, p_5, p_6⟩ | ⟨rfl, p_7⟩
  · skip
    refine lv_if_ne (tgt := 14) hx hb dX10_run_9 (by decide) (fun _ => ?_) (fun q => absurd q (by decide))
    refine lv_aload_n hx hb dX10_run_14 rfl (lv_at hl 0 rfl) ?_
    refine lv_pc (pc2 := 15) rfl ?_
    obtain ⟨r_8, r_10, r_12, r_14, r_16, r_18, r_20, r_22, r_24, r_26, r_28, r_30, r_32, r_34, r_36, r_38, r_40, r_42, r_44, r_46, r_48, r_50, v_52, r_53, at_55, h_9, h_11, h_13, h_15, h_17, h_19, h_21, h_23, h_25, h_27, h_29, h_31, h_33, h_35, h_37, h_39, h_41, h_43, h_45, h_47, h_49, h_51, h_54⟩ := mF_o40 hG k_a0
    refine va_get (D := D) (ci := 9) (v := .int gb) (C := RX10) (T := TX10) (N := 36) hx hb hts in10 hown hK (va_one at_55) 0 rfl rfl 2 (by decide) (hts (.fieldLink RX10 173 "RiverModelModel" "isBuilt" "Z") (List.mem_of_getElem? (i := 5) rfl)) (fun _ h9 => h9) rfl dX10_run_15 ?_
    refine lv_if_ne (tgt := 24) hx hb dX10_run_18 (by decide) (fun c_56 => ?_) (fun c_56 => ?_)
    · skip
      have c_56 : gb.toInt ≠ 0 := q_ne c_56
      refine lv_aload_n hx hb dX10_run_24 rfl (lv_at hl 0 rfl) ?_
      refine va_get (D := D) (ci := 9) (v := .ref r_20) (C := RX10) (T := TX10) (N := 36) hx hb hts in10 hown hK (va_one at_55) 0 rfl rfl 10 (by decide) (hts (.fieldLink RX10 28 "RiverModelModel" "m" "[J") (List.mem_of_getElem? (i := 6) rfl)) (fun _ h9 => h9) rfl dX10_run_25 ?_
      refine lv_sipush (v := 231) hx hb dX10_run_28 (by decide) ?_
      obtain ⟨f_57, at_58, h_59⟩ := mF_o47 hG h_21
      have b_60 : vp_in 231 280 := (q_in (by decide) (by decide))
      refine va_lald hx hb hK (va_one at_58) 0 1 rfl rfl b_60 dX10_run_31 ?_
      refine lv_topl (fun z_61 e_62 => ?_)
      have i_z_61 : z_61.toInt = gH := by rw [e_62]; exact gHr_ld h_59 (by decide)
      refine lv_iload_n hx hb dX10_run_32 rfl (lv_at hl 1 rfl) ?_
      refine lv_i2l (v := a1.toInt64) hx hb dX10_run_33 rfl ?_
      refine lv_pc (pc2 := 34) rfl ?_
      refine lv_ladd hx hb dX10_run_34 ?_
      refine lv_topl (fun z_63 e_64 => ?_)
      have i_z_63 : z_63.toInt = z_61.toInt + a1.toInt := by rw [e_64]; exact (qL_add (by rw [q_i2l]; omega) (by rw [q_i2l]; omega)).trans (by first | (rw [q_i2l]; done) | (rw [q_i2l]; omega) | omega)
      refine lv_ldc2 hx hb hown (hts (.constantLong RX10 229 (96)) (List.mem_of_getElem? (i := 1) rfl)) dX10_run_35 ?_
      refine W.lcmp hx hb dX10_run_38 ?_
      refine lv_if_le (tgt := 45) hx hb dX10_run_39 (by decide) (fun c_65 => ?_) (fun c_65 => ?_)
      · skip
        have c_65 : z_63.toInt ≤ 96 := q_cmp_le c_65
        refine lv_iconst (v := 0) hx hb dX10_run_45 (by decide) ?_
        refine lv_istore_n (lv' := [(2, .int 0), (0, .ref a0), (1, .int a1)]) hx hb dX10_run_46 rfl hl (by decide) rfl (fun ls hl => ?_)
        refine lv_pc (pc2 := 47) rfl ?_
        refine lp_gen (fun WW66 hWW66 => ?_)
        have kx66 : ∀ (yk : Int32) (hm : Int) (H1 : Heap) (locs1 : List Loc) (ls1 : Array Slot), (0 ≤ yk.toInt) → (yk.toInt ≤ a1.toInt) → (hm = gH + yk.toInt) → tG D (mF cI cL cC gC gE gW gA gT gI gS gM K F S N hm gJ ge gk gf gs gg gr RN gb rV rN) t H1 → tF t wm s.heap H1 locs1 → lv_has ls1 3 [(2, .int yk), (0, .ref a0), (1, .int a1)] → WW66 H1 locs1 (F0 m 64 ls1 []) := by
          intro yk hm H locs ls v66_0 v66_1 v66_2 hG hS hl
          refine (hWW66 _ _ _).mpr ?_
          refine lv_aload_n hx hb dX10_run_64 rfl (lv_at hl 1 rfl) ?_
          obtain ⟨r_67, r_69, r_71, r_73, r_75, r_77, r_79, r_81, r_83, r_85, r_87, r_89, r_91, r_93, r_95, r_97, r_99, r_101, r_103, r_105, r_107, r_109, v_111, r_112, at_114, h_68, h_70, h_72, h_74, h_76, h_78, h_80, h_82, h_84, h_86, h_88, h_90, h_92, h_94, h_96, h_98, h_100, h_102, h_104, h_106, h_108, h_110, h_113⟩ := mF_o40 hG k_a0
          refine va_get (D := D) (ci := 9) (v := .ref r_79) (C := RX10) (T := TX10) (N := 36) hx hb hts in10 hown hK (va_one at_114) 0 rfl rfl 10 (by decide) (hts (.fieldLink RX10 28 "RiverModelModel" "m" "[J") (List.mem_of_getElem? (i := 6) rfl)) (fun _ h9 => h9) rfl dX10_run_65 ?_
          refine lv_pc (pc2 := 68) rfl ?_
          refine lv_sipush (v := 231) hx hb dX10_run_68 (by decide) ?_
          obtain ⟨f_115, at_116, h_117⟩ := mF_o47 hG h_80
          have b_118 : vp_in 231 280 := (q_in (by decide) (by decide))
          refine va_lald hx hb hK (va_one at_116) 0 1 rfl rfl b_118 dX10_run_71 ?_
          refine lv_topl (fun z_119 e_120 => ?_)
          have i_z_119 : z_119.toInt = hm := by rw [e_120]; exact gHr_ld h_117 (by decide)
          refine lv_l2i (v := z_119.toInt32) hx hb dX10_run_72 rfl ?_
          refine lv_topi (fun x_121 e_122 => ?_)
          exact tx_iret (z := (hm)) hx hb hr hlk hG hS ⟨(by show 0 ≤ hm; omega), (by show hm ≤ 96; omega)⟩ dX10_run_73
        have lp66 : ∀ (kk66 : Nat) (yk : Int32) (hm : Int) (H1 : Heap) (locs1 : List Loc) (ls1 : Array Slot), a1.toInt - yk.toInt ≤ (kk66 : Int) → (0 ≤ yk.toInt) → (yk.toInt ≤ a1.toInt) → (hm = gH + yk.toInt) → tG D (mF cI cL cC gC gE gW gA gT gI gS gM K F S N hm gJ ge gk gf gs gg gr RN gb rV rN) t H1 → tF t wm s.heap H1 locs1 → lv_has ls1 3 [(2, .int yk), (0, .ref a0), (1, .int a1)] → WW66 H1 locs1 (F0 m 47 ls1 []) := by
          intro kk66
          induction kk66 with
          | zero =>
            intro yk hm H locs ls hk66 v66_0 v66_1 v66_2 hG hS hl
            refine (hWW66 _ _ _).mpr ?_
            refine lv_iload_n hx hb dX10_run_47 rfl (lv_at hl 0 rfl) ?_
            refine lv_iload_n hx hb dX10_run_48 rfl (lv_at hl 2 rfl) ?_
            refine lv_icmp_ge (tgt := 64) hx hb dX10_run_49 (by decide) (fun c_123 => ?_) (fun c_123 => ?_)
            · skip
              have c_123 : a1.toInt ≤ yk.toInt := q_le c_123
              exact (hWW66 _ _ _).mp (kx66 yk hm H locs ls v66_0 v66_1 v66_2 hG hS (lv_sub hl [0, 1, 2] rfl))
            · skip
              have c_123 : yk.toInt < a1.toInt := q_nle c_123
              exfalso; omega
          | succ kk66 ih66 =>
            intro yk hm H locs ls hk66 v66_0 v66_1 v66_2 hG hS hl
            refine (hWW66 _ _ _).mpr ?_
            refine lv_iload_n hx hb dX10_run_47 rfl (lv_at hl 0 rfl) ?_
            refine lv_pc (pc2 := 48) rfl ?_
            refine lv_iload_n hx hb dX10_run_48 rfl (lv_at hl 2 rfl) ?_
            refine lv_icmp_ge (tgt := 64) hx hb dX10_run_49 (by decide) (fun c_124 => ?_) (fun c_124 => ?_)
            · skip
              have c_124 : a1.toInt ≤ yk.toInt := q_le c_124
              exact (hWW66 _ _ _).mp (kx66 yk hm H locs ls v66_0 v66_1 v66_2 hG hS (lv_sub hl [0, 1, 2] rfl))
            · skip
              have c_124 : yk.toInt < a1.toInt := q_nle c_124
              refine lv_aload_n hx hb dX10_run_52 rfl (lv_at hl 1 rfl) ?_
              refine lv_iconst (v := 0) hx hb dX10_run_53 (by decide) ?_
              refine lv_iconst (v := 0) hx hb dX10_run_54 (by decide) ?_
              have zi_0 : (0 : Int32).toInt = 0 := by decide
              obtain ⟨r_125, r_127, r_129, r_131, r_133, r_135, r_137, r_139, r_141, r_143, r_145, r_147, r_149, r_151, r_153, r_155, r_157, r_159, r_161, r_163, r_165, r_167, v_169, r_170, at_172, h_126, h_128, h_130, h_132, h_134, h_136, h_138, h_140, h_142, h_144, h_146, h_148, h_150, h_152, h_154, h_156, h_158, h_160, h_162, h_164, h_166, h_168, h_171⟩ := mF_o40 hG k_a0
              refine tx_callv (W.runV (As := [.int 0, .int 0]) (rest := []) ⟨hx, hb, hml, hown, hts⟩ (m_X10_goes l D t cI cL cC gC gE gW gA gT gI gS gM K F S N hm gJ ge gk gf gs gg gr RN gb rV rN a0 0 0 0 uq (by omega) (by omega) (by omega) (by omega) (by omega) hO0 (by omega) (by omega) (by omega) (by omega) k_a0) (cwV 2 hts gu_X10_run_X10_goes_231 rfl rfl rfl (by decide +kernel) ⟨Nat.le_of_ble_eq_true rfl, Nat.le_of_ble_eq_true rfl⟩) (tP_V hG hE at_172 rfl) rfl rfl hl.1 rfl (lv_room (Nat.le_of_ble_eq_true rfl)) dX10_run_55 ⟨Nat.le_of_ble_eq_true rfl, Nat.le_of_ble_eq_true rfl⟩) hS (fun _ h => h) (fun gH_177 H locs hp_174 hG hS o_175 => ?_)
              have at_172 := va_at.keptC at_172 o_175 k_a0 rfl
              replace hG : tG D (mF cI cL cC gC gE gW gA gT gI gS gM K F S N gH_177 gJ ge gk gf gs gg gr RN gb rV rN) t H := hG
              have hp_174 : gH_177 = hm + 1 := hp_174
              have p_178 := hp_174
              obtain ⟨x_179, e_180⟩ : ∃ y : Int32, y = yk + Int32.ofInt 1 := ⟨_, rfl⟩
              have i_x_179 : x_179.toInt = yk.toInt + 1 := by rw [e_180, show Int32.ofInt 1 = 1 by decide]; exact (q_add (by rw [show (1 : Int32).toInt = 1 by decide]; omega) (by rw [show (1 : Int32).toInt = 1 by decide]; omega)).trans (by rw [show (1 : Int32).toInt = 1 by decide])
              refine lv_iinc (v := x_179) (lv' := [(2, .int x_179), (0, .ref a0), (1, .int a1)]) hx hb dX10_run_58 hl (k := 0) rfl e_180.symm (by decide) rfl (fun ls hl => ?_)
              refine lv_goto (tgt := 47) hx hb dX10_run_61 (by decide) ?_
              exact (hWW66 _ _ _).mp (ih66 x_179 gH_177 H locs ls (by omega) (by omega) (by omega) (by omega) hG hS (lv_sub hl [0, 1, 2] rfl))
        have zi_0 : (0 : Int32).toInt = 0 := by decide
        exact lp66 (a1.toInt - (0 : Int32).toInt : Int).toNat 0 gH H locs ls (by omega) (by omega) (by omega) (by omega) hG hS (lv_sub hl [0, 1, 2] rfl)
      · skip
        have c_65 : 96 < z_63.toInt := q_cmp_nle c_65
        refine lv_pc (pc2 := 42) rfl ?_
        refine lv_bipush (v := (-3)) hx hb dX10_run_42 (by decide) ?_
        have zi_m3 : ((-3) : Int32).toInt = (-3) := by decide
        exact tx_iret (z := (gH)) hx hb hr hlk hG hS ⟨(by show 0 ≤ gH; omega), (by show gH ≤ 96; omega)⟩ dX10_run_44
    · skip
      have c_56 : gb.toInt = 0 := q_eq c_56
      refine lv_bipush (v := (-2)) hx hb dX10_run_21 (by decide) ?_
      have zi_m2 : ((-2) : Int32).toInt = (-2) := by decide
      exact tx_iret (z := (gH)) hx hb hr hlk hG hS ⟨(by show 0 ≤ gH; omega), (by show gH ≤ 96; omega)⟩ dX10_run_23
  · skip
    refine lv_if_ne (tgt := 14) hx hb dX10_run_9 (by decide) (fun q => absurd rfl q) (fun _ => ?_)
    refine lv_iconst (v := (-1)) hx hb dX10_run_12 (by decide) ?_
    have zi_m1 : ((-1) : Int32).toInt = (-1) := by decide
    exact tx_iret (z := (gH)) hx hb hr hlk hG hS ⟨(by show 0 ≤ gH; omega), (by show gH ≤ 96; omega)⟩ dX10_run_13

def uX10_has : List Cond := .code yX10_has cX10_has 3 (some .long) :: ([.constantLong RX10 234 (15), .methodLink RX10 85 yX10_in, .static yX10_in, .initialized RX10, .fieldLink RX10 173 "RiverModelModel" "isBuilt" "Z", .constantLong RX10 238 (-2), .methodLink RX10 208 yX10_isStore, .instanceMethod yX10_isStore, .selects RX10 yX10_isStore yX10_isStore, .methodLink RX10 240 yX10_wayTo, .instanceMethod yX10_wayTo, .selects RX10 yX10_wayTo yX10_wayTo, .fieldLink RX10 28 "RiverModelModel" "m" "[J", .constantLong RX10 236 (-1), .code yX10_in cX10_in 6 (some .boolean), .code yX10_isStore cX10_isStore 2 (some .boolean), .methodLink RX10 166 yX10_storeAt, .instanceMethod yX10_storeAt, .selects RX10 yX10_storeAt yX10_storeAt, .code yX10_storeAt cX10_storeAt 5 (some .int), .fieldLink RX10 163 "RiverModelModel" "items" "I", .fieldLink RX10 13 "RiverModelModel" "kind" "[I", .fieldLink RX10 16 "RiverModelModel" "first" "[I", .code yX10_wayTo cX10_wayTo 5 (some .long)] ++ wsX100)
set_option maxRecDepth 20000 in
theorem gu_X10_has_X10_in_85 : GoodIn uX10_has (va_wsS RX10 85 yX10_in uX10_in) := goodIn_r _ [2, 3, 4, 15] rfl (by decide +kernel)
set_option maxRecDepth 20000 in
theorem gu_X10_has_X10_isStore_208 : GoodIn uX10_has (wsV RX10 208 RX10 yX10_isStore uX10_isStore) := goodIn_r _ [7, 8, 9, 4, 16, 17, 18, 19, 4, 20, 21, 22, 23, 25, 26, 27, 28, 29, 30, 31, 32, 33, 34, 35, 36, 37, 38, 39, 40, 41, 42, 43, 44, 45, 46, 47, 48, 49, 50, 51, 52, 53, 54, 55, 56, 57, 58, 59, 60] rfl (by decide +kernel)
set_option maxRecDepth 20000 in
theorem gu_X10_has_X10_wayTo_240 : GoodIn uX10_has (wsV RX10 240 RX10 yX10_wayTo uX10_wayTo) := goodIn_r _ [10, 11, 12, 4, 24, 13, 25, 26, 27, 28, 29, 30, 31, 32, 33, 34, 35, 36, 37, 38, 39, 40, 41, 42, 43, 44, 45, 46, 47, 48, 49, 50, 51, 52, 53, 54, 55, 56, 57, 58, 59, 60] rfl (by decide +kernel)
set_option maxHeartbeats 4000000 in
set_option maxRecDepth 100000 in
theorem m_X10_has (l : Launch) (D : va_G) (t : Nat → Nat) (cI cL cC : ClassId) (gC : Int32) (gE : Int32) (gW : Nat → Int32) (gA : Nat → Int32) (gT : Nat → Int32) (gI : Int32) (gS : Int32) (gM : Int32) (K : Nat → Int32) (F : Nat → Int32) (S : Nat → Int32) (N : Nat → Int32) (gH : Int) (gJ : Int) (ge : Int32) (gk : Int32) (gf : Int32) (gs : Int32) (gg : Int32) (gr : Int32) (RN : Nat → Int32) (gb : Int32) (rV : Nat → Int32) (rN : Nat → Int32) (a0 : Nat) (a1 : Int32) (a2 : Int32) (uq : ∀ b c : Nat, t b = t c → t b ≠ 0 → b = c) (hC0 : 0 ≤ gC.toInt) (hC4 : gC.toInt ≤ 400) (hI0 : 0 ≤ gI.toInt) (hI4 : gI.toInt ≤ 40) (hH0 : 0 ≤ gH) (hH9 : gH ≤ 96) (hm0 : 0 ≤ gM.toInt) (hm3 : gM.toInt ≤ 3) (hO0 : okM K F S N 0 gI.toInt) (hW : swM gS K F S N gI.toInt) (hoR : othR gb gS gI K F) (k_a0 : t a0 = 40) : tM l yX10_has uX10_has 2 45 D (mF cI cL cC gC gE gW gA gT gI gS gM K F S N gH gJ ge gk gf gs gg gr RN gb rV rN) (mF cI cL cC gC gE gW gA gT gI gS gM K F S N gH gJ ge gk gf gs gg gr RN gb rV rN) t cI cL cC [.ref a0, .int a1, .int a2] wr0 (pL (fun r => True)) := by
  refine tM.ofW (cc := cX10_has) (maxL := 3) (ret := (some .long)) (by decide) rfl (Nat.le_of_ble_eq_true rfl) ?_
  intro p e s m below meth c hx hb hr hml hown hts hlk H locs hG hK hE hS ls hl
  have hl : lv_has ls 3 [(0, .ref a0), (1, .int a1), (2, .int a2)] := hl
  have in10 : ∀ w ∈ wsX100, w ∈ uX10_has := fun w h => List.mem_cons_of_mem _ (List.mem_append_right _ h)
  refine lv_iload_n hx hb dX10_has_0 rfl (lv_at hl 1 rfl) ?_
  refine lv_i2l (v := a1.toInt64) hx hb dX10_has_1 rfl ?_
  refine lv_lconst (v := 0) hx hb dX10_has_2 (by decide) ?_
  refine lv_ldc2 hx hb hown (hts (.constantLong RX10 234 (15)) (List.mem_of_getElem? (i := 1) rfl)) dX10_has_3 ?_
  have zl_0 : (0 : Int64).toInt = 0 := by decide
  have zl_15 : (15 : Int64).toInt = 15 := by decide
  refine ty_calli (W.runS (As := [.long a1.toInt64, .long 0, .long 15]) (rest := []) ⟨hx, hb, hml, hown, hts⟩ (m_X10_in l D t cI cL cC gC gE gW gA gT gI gS gM K F S N gH gJ ge gk gf gs gg gr RN gb rV rN a1.toInt64 0 15 a1.toInt 0 15 uq (q_i2l _) (by decide) (by decide) ) (va_cwS 3 hts gu_X10_has_X10_in_85 rfl rfl rfl (by decide +kernel) ⟨Nat.le_of_ble_eq_true rfl, Nat.le_of_ble_eq_true rfl⟩) (tP_S hG hE) rfl rfl hl.1 rfl (lv_room (Nat.le_of_ble_eq_true rfl)) dX10_has_6 ⟨Nat.le_of_ble_eq_true rfl, Nat.le_of_ble_eq_true rfl⟩) hS (fun _ h => h) (fun r_1 H locs hp_2 hG hS o_3 => ?_)
  have hp_2 : (r_1 = 1 ∧ 0 ≤ a1.toInt ∧ a1.toInt ≤ 15) ∨ (r_1 = 0 ∧ (a1.toInt < 0 ∨ 15 < a1.toInt)) := hp_2
  rcases hp_2 with ⟨rfl, p_5, p_6⟩ | ⟨rfl, p_7⟩
  · skip
    refine lv_if_eq (tgt := 22) hx hb dX10_has_9 (by decide) (fun q => absurd q (by decide)) (fun _ => ?_)
    refine lv_iload_n hx hb dX10_has_12 rfl (lv_at hl 2 rfl) ?_
    refine lv_pc (pc2 := 13) rfl ?_
    refine lv_i2l (v := a2.toInt64) hx hb dX10_has_13 rfl ?_
    refine lv_lconst (v := 0) hx hb dX10_has_14 (by decide) ?_
    refine lv_lconst (v := 1) hx hb dX10_has_15 (by decide) ?_
    have zl_1 : (1 : Int64).toInt = 1 := by decide
    refine ty_calli (W.runS (As := [.long a2.toInt64, .long 0, .long 1]) (rest := []) ⟨hx, hb, hml, hown, hts⟩ (m_X10_in l D t cI cL cC gC gE gW gA gT gI gS gM K F S N gH gJ ge gk gf gs gg gr RN gb rV rN a2.toInt64 0 1 a2.toInt 0 1 uq (q_i2l _) (by decide) (by decide) ) (va_cwS 3 hts gu_X10_has_X10_in_85 rfl rfl rfl (by decide +kernel) ⟨Nat.le_of_ble_eq_true rfl, Nat.le_of_ble_eq_true rfl⟩) (tP_S hG hE) rfl rfl hl.1 rfl (lv_room (Nat.le_of_ble_eq_true rfl)) dX10_has_16 ⟨Nat.le_of_ble_eq_true rfl, Nat.le_of_ble_eq_true rfl⟩) hS (fun _ h => h) (fun r_8 H locs hp_9 hG hS o_10 => ?_)
    have hp_9 : (r_8 = 1 ∧ 0 ≤ a2.toInt ∧ a2.toInt ≤ 1) ∨ (r_8 = 0 ∧ (a2.toInt < 0 ∨ 1 < a2.toInt)) := hp_9
    rcases hp_9 with ⟨rfl, p_12, p_13⟩ | ⟨rfl, p_14⟩
    · skip
      refine lv_if_ne (tgt := 26) hx hb dX10_has_19 (by decide) (fun _ => ?_) (fun q => absurd q (by decide))
      refine lv_aload_n hx hb dX10_has_26 rfl (lv_at hl 0 rfl) ?_
      obtain ⟨r_15, r_17, r_19, r_21, r_23, r_25, r_27, r_29, r_31, r_33, r_35, r_37, r_39, r_41, r_43, r_45, r_47, r_49, r_51, r_53, r_55, r_57, v_59, r_60, at_62, h_16, h_18, h_20, h_22, h_24, h_26, h_28, h_30, h_32, h_34, h_36, h_38, h_40, h_42, h_44, h_46, h_48, h_50, h_52, h_54, h_56, h_58, h_61⟩ := mF_o40 hG k_a0
      refine va_get (D := D) (ci := 9) (v := .int gb) (C := RX10) (T := TX10) (N := 36) hx hb hts in10 hown hK (va_one at_62) 0 rfl rfl 2 (by decide) (hts (.fieldLink RX10 173 "RiverModelModel" "isBuilt" "Z") (List.mem_of_getElem? (i := 5) rfl)) (fun _ h9 => h9) rfl dX10_has_27 ?_
      refine lv_if_eq (tgt := 41) hx hb dX10_has_30 (by decide) (fun c_63 => ?_) (fun c_63 => ?_)
      · skip
        have c_63 : gb.toInt = 0 := q_eq c_63
        refine lv_pc (pc2 := 41) rfl ?_
        refine lv_ldc2 hx hb hown (hts (.constantLong RX10 238 (-2)) (List.mem_of_getElem? (i := 6) rfl)) dX10_has_41 ?_
        have zl_m2 : ((-2) : Int64).toInt = (-2) := by decide
        exact ty_lret hx hb hr hlk hG hS True.intro dX10_has_44
      · skip
        have c_63 : gb.toInt ≠ 0 := q_ne c_63
        refine lv_aload_n hx hb dX10_has_33 rfl (lv_at hl 0 rfl) ?_
        refine lv_iload_n hx hb dX10_has_34 rfl (lv_at hl 1 rfl) ?_
        refine ty_calli (W.runV (As := [.int a1]) (rest := []) ⟨hx, hb, hml, hown, hts⟩ (m_X10_isStore l D t cI cL cC gC gE gW gA gT gI gS gM K F S N gH gJ ge gk gf gs gg gr RN gb rV rN a0 a1  uq (by omega) (by omega) k_a0) (cwV 1 hts gu_X10_has_X10_isStore_208 rfl rfl rfl (by decide +kernel) ⟨Nat.le_of_ble_eq_true rfl, Nat.le_of_ble_eq_true rfl⟩) (tP_V hG hE at_62 rfl) rfl rfl hl.1 rfl (lv_room (Nat.le_of_ble_eq_true rfl)) dX10_has_35 ⟨Nat.le_of_ble_eq_true rfl, Nat.le_of_ble_eq_true rfl⟩) hS (fun _ h => h) (fun r_64 H locs hp_65 hG hS o_66 => ?_)
        have at_62 := va_at.keptC at_62 o_66 k_a0 rfl
        have hp_65 : (r_64 = 1 ∧ hasS K F 0 gI.toInt a1) ∨ (r_64 = 0 ∧ ¬ hasS K F 0 gI.toInt a1) := hp_65
        rcases hp_65 with ⟨rfl, p_68⟩ | ⟨rfl, p_69⟩
        · skip
          refine lv_if_ne (tgt := 45) hx hb dX10_has_38 (by decide) (fun _ => ?_) (fun q => absurd q (by decide))
          refine lv_iload_n hx hb dX10_has_45 rfl (lv_at hl 2 rfl) ?_
          refine lv_if_ne (tgt := 58) hx hb dX10_has_46 (by decide) (fun c_70 => ?_) (fun c_70 => ?_)
          · skip
            have c_70 : a2.toInt ≠ 0 := q_ne c_70
            refine lv_pc (pc2 := 58) rfl ?_
            refine lv_aload_n hx hb dX10_has_58 rfl (lv_at hl 0 rfl) ?_
            refine lv_iload_n hx hb dX10_has_59 rfl (lv_at hl 1 rfl) ?_
            refine ty_calll (W.runV (As := [.int a1]) (rest := []) ⟨hx, hb, hml, hown, hts⟩ (m_X10_wayTo l D t cI cL cC gC gE gW gA gT gI gS gM K F S N gH gJ ge gk gf gs gg gr RN gb rV rN a0 a1  uq (by omega) (by omega) k_a0) (cwV 1 hts gu_X10_has_X10_wayTo_240 rfl rfl rfl (by decide +kernel) ⟨Nat.le_of_ble_eq_true rfl, Nat.le_of_ble_eq_true rfl⟩) (tP_V hG hE at_62 rfl) rfl rfl hl.1 rfl (lv_room (Nat.le_of_ble_eq_true rfl)) dX10_has_60 ⟨Nat.le_of_ble_eq_true rfl, Nat.le_of_ble_eq_true rfl⟩) hS (fun _ h => h) (fun z_71 H locs hp_72 hG hS o_73 => ?_)
            have at_62 := va_at.keptC at_62 o_73 k_a0 rfl
            exact ty_lret hx hb hr hlk hG hS True.intro dX10_has_63
          · skip
            have c_70 : a2.toInt = 0 := q_eq c_70
            refine lv_aload_n hx hb dX10_has_49 rfl (lv_at hl 0 rfl) ?_
            refine va_get (D := D) (ci := 9) (v := .ref r_27) (C := RX10) (T := TX10) (N := 36) hx hb hts in10 hown hK (va_one at_62) 0 rfl rfl 10 (by decide) (hts (.fieldLink RX10 28 "RiverModelModel" "m" "[J") (List.mem_of_getElem? (i := 13) rfl)) (fun _ h9 => h9) rfl dX10_has_50 ?_
            refine lv_iload_n hx hb dX10_has_53 rfl (lv_at hl 1 rfl) ?_
            obtain ⟨f_75, at_76, h_77⟩ := mF_o47 hG h_28
            have b_78 : vp_in a1 280 := (q_in (by omega) (by omega))
            refine va_lald hx hb hK (va_one at_76) 0 1 rfl rfl b_78 dX10_has_54 ?_
            refine lv_topl (fun z_79 e_80 => ?_)
            refine lv_pc (pc2 := 55) rfl ?_
            refine lv_goto (tgt := 63) hx hb dX10_has_55 (by decide) ?_
            exact ty_lret hx hb hr hlk hG hS True.intro dX10_has_63
        · skip
          refine lv_if_ne (tgt := 45) hx hb dX10_has_38 (by decide) (fun q => absurd rfl q) (fun _ => ?_)
          refine lv_ldc2 hx hb hown (hts (.constantLong RX10 238 (-2)) (List.mem_of_getElem? (i := 6) rfl)) dX10_has_41 ?_
          have zl_m2 : ((-2) : Int64).toInt = (-2) := by decide
          exact ty_lret hx hb hr hlk hG hS True.intro dX10_has_44
    · skip
      refine lv_if_ne (tgt := 26) hx hb dX10_has_19 (by decide) (fun q => absurd rfl q) (fun _ => ?_)
      refine lv_ldc2 hx hb hown (hts (.constantLong RX10 236 (-1)) (List.mem_of_getElem? (i := 14) rfl)) dX10_has_22 ?_
      have zl_m1 : ((-1) : Int64).toInt = (-1) := by decide
      exact ty_lret hx hb hr hlk hG hS True.intro dX10_has_25
  · skip
    refine lv_pc (pc2 := 9) rfl ?_
    refine lv_if_eq (tgt := 22) hx hb dX10_has_9 (by decide) (fun _ => ?_) (fun q => absurd (by decide) q)
    refine lv_ldc2 hx hb hown (hts (.constantLong RX10 236 (-1)) (List.mem_of_getElem? (i := 14) rfl)) dX10_has_22 ?_
    have zl_m1 : ((-1) : Int64).toInt = (-1) := by decide
    exact ty_lret hx hb hr hlk hG hS True.intro dX10_has_25
