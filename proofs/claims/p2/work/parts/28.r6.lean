theorem dX10_forgets_0 : decode cX10_forgets 0 = .ok (.iconst 0, 1) := by decide +kernel
theorem dX10_forgets_1 : decode cX10_forgets 1 = .ok (.istore_n 1, 1) := by decide +kernel
theorem dX10_forgets_2 : decode cX10_forgets 2 = .ok (.iload_n 1, 1) := by decide +kernel
theorem dX10_forgets_3 : decode cX10_forgets 3 = .ok (.iconst 4, 1) := by decide +kernel
theorem dX10_forgets_4 : decode cX10_forgets 4 = .ok (.if_icmp .ge 17, 3) := by decide +kernel
theorem dX10_forgets_7 : decode cX10_forgets 7 = .ok (.aload_n 0, 1) := by decide +kernel
theorem dX10_forgets_8 : decode cX10_forgets 8 = .ok (.getfield 38, 3) := by decide +kernel
theorem dX10_forgets_11 : decode cX10_forgets 11 = .ok (.iload_n 1, 1) := by decide +kernel
theorem dX10_forgets_12 : decode cX10_forgets 12 = .ok (.bipush (-4), 2) := by decide +kernel
theorem dX10_forgets_14 : decode cX10_forgets 14 = .ok (.iastore, 1) := by decide +kernel
theorem dX10_forgets_15 : decode cX10_forgets 15 = .ok (.iinc 1 1, 3) := by decide +kernel
theorem dX10_forgets_18 : decode cX10_forgets 18 = .ok (.goto (-16), 3) := by decide +kernel
theorem dX10_forgets_21 : decode cX10_forgets 21 = .ok (.iconst 0, 1) := by decide +kernel
theorem dX10_forgets_22 : decode cX10_forgets 22 = .ok (.istore_n 1, 1) := by decide +kernel
theorem dX10_forgets_23 : decode cX10_forgets 23 = .ok (.iload_n 1, 1) := by decide +kernel
theorem dX10_forgets_24 : decode cX10_forgets 24 = .ok (.sipush 384, 3) := by decide +kernel
theorem dX10_forgets_27 : decode cX10_forgets 27 = .ok (.if_icmp .ge 16, 3) := by decide +kernel
theorem dX10_forgets_30 : decode cX10_forgets 30 = .ok (.aload_n 0, 1) := by decide +kernel
theorem dX10_forgets_31 : decode cX10_forgets 31 = .ok (.getfield 44, 3) := by decide +kernel
theorem dX10_forgets_34 : decode cX10_forgets 34 = .ok (.iload_n 1, 1) := by decide +kernel
theorem dX10_forgets_35 : decode cX10_forgets 35 = .ok (.iconst (-1), 1) := by decide +kernel
theorem dX10_forgets_36 : decode cX10_forgets 36 = .ok (.iastore, 1) := by decide +kernel
theorem dX10_forgets_37 : decode cX10_forgets 37 = .ok (.iinc 1 1, 3) := by decide +kernel
theorem dX10_forgets_40 : decode cX10_forgets 40 = .ok (.goto (-17), 3) := by decide +kernel
theorem dX10_forgets_43 : decode cX10_forgets 43 = .ok (.aload_n 0, 1) := by decide +kernel
theorem dX10_forgets_44 : decode cX10_forgets 44 = .ok (.getfield 59, 3) := by decide +kernel
theorem dX10_forgets_47 : decode cX10_forgets 47 = .ok (.iconst 0, 1) := by decide +kernel
theorem dX10_forgets_48 : decode cX10_forgets 48 = .ok (.iconst 0, 1) := by decide +kernel
theorem dX10_forgets_49 : decode cX10_forgets 49 = .ok (.iastore, 1) := by decide +kernel
theorem dX10_forgets_50 : decode cX10_forgets 50 = .ok (.aload_n 0, 1) := by decide +kernel
theorem dX10_forgets_51 : decode cX10_forgets 51 = .ok (.getfield 59, 3) := by decide +kernel
theorem dX10_forgets_54 : decode cX10_forgets 54 = .ok (.iconst 1, 1) := by decide +kernel
theorem dX10_forgets_55 : decode cX10_forgets 55 = .ok (.iconst 0, 1) := by decide +kernel
theorem dX10_forgets_56 : decode cX10_forgets 56 = .ok (.iastore, 1) := by decide +kernel
theorem dX10_forgets_57 : decode cX10_forgets 57 = .ok (.return_, 1) := by decide +kernel
theorem dX10_fault_0 : decode cX10_fault 0 = .ok (.aload_n 0, 1) := by decide +kernel
theorem dX10_fault_1 : decode cX10_fault 1 = .ok (.invokevirtual 159, 3) := by decide +kernel
theorem dX10_fault_4 : decode cX10_fault 4 = .ok (.ireturn, 1) := by decide +kernel
theorem dX10_build_0 : decode cX10_build 0 = .ok (.aload_n 0, 1) := by decide +kernel
theorem dX10_build_1 : decode cX10_build 1 = .ok (.invokevirtual 159, 3) := by decide +kernel
theorem dX10_build_4 : decode cX10_build 4 = .ok (.bipush (-4), 2) := by decide +kernel
theorem dX10_build_6 : decode cX10_build 6 = .ok (.if_icmp .eq 6, 3) := by decide +kernel
theorem dX10_build_9 : decode cX10_build 9 = .ok (.bipush (-2), 2) := by decide +kernel
theorem dX10_build_11 : decode cX10_build 11 = .ok (.ireturn, 1) := by decide +kernel
theorem dX10_build_12 : decode cX10_build 12 = .ok (.iconst 0, 1) := by decide +kernel
theorem dX10_build_13 : decode cX10_build 13 = .ok (.istore_n 1, 1) := by decide +kernel
theorem dX10_build_14 : decode cX10_build 14 = .ok (.iconst 0, 1) := by decide +kernel
theorem dX10_build_15 : decode cX10_build 15 = .ok (.istore_n 2, 1) := by decide +kernel
theorem dX10_build_16 : decode cX10_build 16 = .ok (.iload_n 2, 1) := by decide +kernel
theorem dX10_build_17 : decode cX10_build 17 = .ok (.aload_n 0, 1) := by decide +kernel
theorem dX10_build_18 : decode cX10_build 18 = .ok (.getfield 148, 3) := by decide +kernel
theorem dX10_build_21 : decode cX10_build 21 = .ok (.if_icmp .ge 33, 3) := by decide +kernel
theorem dX10_build_24 : decode cX10_build 24 = .ok (.iload_n 1, 1) := by decide +kernel
theorem dX10_build_25 : decode cX10_build 25 = .ok (.ifCond .ne 17, 3) := by decide +kernel
theorem dX10_build_28 : decode cX10_build 28 = .ok (.aload_n 0, 1) := by decide +kernel
theorem dX10_build_29 : decode cX10_build 29 = .ok (.getfield 13, 3) := by decide +kernel
theorem dX10_build_32 : decode cX10_build 32 = .ok (.bipush 40, 2) := by decide +kernel
theorem dX10_build_34 : decode cX10_build 34 = .ok (.iload_n 2, 1) := by decide +kernel
theorem dX10_build_35 : decode cX10_build 35 = .ok (.iadd, 1) := by decide +kernel
theorem dX10_build_36 : decode cX10_build 36 = .ok (.iaload, 1) := by decide +kernel
theorem dX10_build_37 : decode cX10_build 37 = .ok (.bipush 115, 2) := by decide +kernel
theorem dX10_build_39 : decode cX10_build 39 = .ok (.if_icmp .ne 7, 3) := by decide +kernel
theorem dX10_build_42 : decode cX10_build 42 = .ok (.iconst 1, 1) := by decide +kernel
theorem dX10_build_43 : decode cX10_build 43 = .ok (.goto 4, 3) := by decide +kernel
theorem dX10_build_46 : decode cX10_build 46 = .ok (.iconst 0, 1) := by decide +kernel
theorem dX10_build_47 : decode cX10_build 47 = .ok (.istore_n 1, 1) := by decide +kernel
theorem dX10_build_48 : decode cX10_build 48 = .ok (.iinc 2 1, 3) := by decide +kernel
theorem dX10_build_51 : decode cX10_build 51 = .ok (.goto (-35), 3) := by decide +kernel
theorem dX10_build_54 : decode cX10_build 54 = .ok (.iload_n 1, 1) := by decide +kernel
theorem dX10_build_55 : decode cX10_build 55 = .ok (.ifCond .ne 6, 3) := by decide +kernel
theorem dX10_build_58 : decode cX10_build 58 = .ok (.bipush (-2), 2) := by decide +kernel
theorem dX10_build_60 : decode cX10_build 60 = .ok (.ireturn, 1) := by decide +kernel
theorem dX10_build_61 : decode cX10_build 61 = .ok (.aload_n 0, 1) := by decide +kernel
theorem dX10_build_62 : decode cX10_build 62 = .ok (.aload_n 0, 1) := by decide +kernel
theorem dX10_build_63 : decode cX10_build 63 = .ok (.getfield 148, 3) := by decide +kernel
theorem dX10_build_66 : decode cX10_build 66 = .ok (.putfield 163, 3) := by decide +kernel
theorem dX10_build_69 : decode cX10_build 69 = .ok (.aload_n 0, 1) := by decide +kernel
theorem dX10_build_70 : decode cX10_build 70 = .ok (.iconst 1, 1) := by decide +kernel
theorem dX10_build_71 : decode cX10_build 71 = .ok (.invokevirtual 190, 3) := by decide +kernel
theorem dX10_build_74 : decode cX10_build 74 = .ok (.aload_n 0, 1) := by decide +kernel
theorem dX10_build_75 : decode cX10_build 75 = .ok (.invokevirtual 80, 3) := by decide +kernel
theorem dX10_build_78 : decode cX10_build 78 = .ok (.aload_n 0, 1) := by decide +kernel
theorem dX10_build_79 : decode cX10_build 79 = .ok (.getfield 163, 3) := by decide +kernel
theorem dX10_build_82 : decode cX10_build 82 = .ok (.ireturn, 1) := by decide +kernel
theorem dX10_item_0 : decode cX10_item 0 = .ok (.iload_n 1, 1) := by decide +kernel
theorem dX10_item_1 : decode cX10_item 1 = .ok (.i2l, 1) := by decide +kernel
theorem dX10_item_2 : decode cX10_item 2 = .ok (.lconst 0, 1) := by decide +kernel
theorem dX10_item_3 : decode cX10_item 3 = .ok (.ldc2_w 194, 3) := by decide +kernel
theorem dX10_item_6 : decode cX10_item 6 = .ok (.invokestatic 85, 3) := by decide +kernel
theorem dX10_item_9 : decode cX10_item 9 = .ok (.ifCond .eq 15, 3) := by decide +kernel
theorem dX10_item_12 : decode cX10_item 12 = .ok (.iload_n 2, 1) := by decide +kernel
theorem dX10_item_13 : decode cX10_item 13 = .ok (.i2l, 1) := by decide +kernel
theorem dX10_item_14 : decode cX10_item 14 = .ok (.lconst 0, 1) := by decide +kernel
theorem dX10_item_15 : decode cX10_item 15 = .ok (.ldc2_w 196, 3) := by decide +kernel
theorem dX10_item_18 : decode cX10_item 18 = .ok (.invokestatic 85, 3) := by decide +kernel
theorem dX10_item_21 : decode cX10_item 21 = .ok (.ifCond .ne 5, 3) := by decide +kernel
theorem dX10_item_24 : decode cX10_item 24 = .ok (.iconst (-1), 1) := by decide +kernel
theorem dX10_item_25 : decode cX10_item 25 = .ok (.ireturn, 1) := by decide +kernel
theorem dX10_item_26 : decode cX10_item 26 = .ok (.aload_n 0, 1) := by decide +kernel
theorem dX10_item_27 : decode cX10_item 27 = .ok (.getfield 173, 3) := by decide +kernel
theorem dX10_item_30 : decode cX10_item 30 = .ok (.ifCond .eq 11, 3) := by decide +kernel
theorem dX10_item_33 : decode cX10_item 33 = .ok (.iload_n 1, 1) := by decide +kernel
theorem dX10_item_34 : decode cX10_item 34 = .ok (.aload_n 0, 1) := by decide +kernel
theorem dX10_item_35 : decode cX10_item 35 = .ok (.getfield 163, 3) := by decide +kernel
theorem dX10_item_38 : decode cX10_item 38 = .ok (.if_icmp .lt 6, 3) := by decide +kernel
theorem dX10_item_41 : decode cX10_item 41 = .ok (.bipush (-2), 2) := by decide +kernel
theorem dX10_item_43 : decode cX10_item 43 = .ok (.ireturn, 1) := by decide +kernel
theorem dX10_item_44 : decode cX10_item 44 = .ok (.iload_n 2, 1) := by decide +kernel
theorem dX10_item_45 : decode cX10_item 45 = .ok (.ifCond .ne 12, 3) := by decide +kernel
theorem dX10_item_48 : decode cX10_item 48 = .ok (.aload_n 0, 1) := by decide +kernel
theorem dX10_item_49 : decode cX10_item 49 = .ok (.getfield 13, 3) := by decide +kernel
theorem dX10_item_52 : decode cX10_item 52 = .ok (.iload_n 1, 1) := by decide +kernel
theorem dX10_item_53 : decode cX10_item 53 = .ok (.iaload, 1) := by decide +kernel
theorem dX10_item_54 : decode cX10_item 54 = .ok (.goto 43, 3) := by decide +kernel
theorem dX10_item_57 : decode cX10_item 57 = .ok (.iload_n 2, 1) := by decide +kernel
theorem dX10_item_58 : decode cX10_item 58 = .ok (.iconst 1, 1) := by decide +kernel
theorem dX10_item_59 : decode cX10_item 59 = .ok (.if_icmp .ne 12, 3) := by decide +kernel
theorem dX10_item_62 : decode cX10_item 62 = .ok (.aload_n 0, 1) := by decide +kernel
theorem dX10_item_63 : decode cX10_item 63 = .ok (.getfield 16, 3) := by decide +kernel
theorem dX10_item_66 : decode cX10_item 66 = .ok (.iload_n 1, 1) := by decide +kernel
theorem dX10_item_67 : decode cX10_item 67 = .ok (.iaload, 1) := by decide +kernel
theorem dX10_item_68 : decode cX10_item 68 = .ok (.goto 29, 3) := by decide +kernel
theorem dX10_item_71 : decode cX10_item 71 = .ok (.iload_n 2, 1) := by decide +kernel
theorem dX10_item_72 : decode cX10_item 72 = .ok (.iconst 2, 1) := by decide +kernel
theorem dX10_item_73 : decode cX10_item 73 = .ok (.if_icmp .ne 12, 3) := by decide +kernel
theorem dX10_item_76 : decode cX10_item 76 = .ok (.aload_n 0, 1) := by decide +kernel
theorem dX10_item_77 : decode cX10_item 77 = .ok (.getfield 19, 3) := by decide +kernel
theorem dX10_item_80 : decode cX10_item 80 = .ok (.iload_n 1, 1) := by decide +kernel
theorem dX10_item_81 : decode cX10_item 81 = .ok (.iaload, 1) := by decide +kernel
theorem dX10_item_82 : decode cX10_item 82 = .ok (.goto 15, 3) := by decide +kernel
theorem dX10_item_85 : decode cX10_item 85 = .ok (.aload_n 0, 1) := by decide +kernel
theorem dX10_item_86 : decode cX10_item 86 = .ok (.getfield 22, 3) := by decide +kernel
theorem dX10_item_89 : decode cX10_item 89 = .ok (.iconst 3, 1) := by decide +kernel
theorem dX10_item_90 : decode cX10_item 90 = .ok (.iload_n 1, 1) := by decide +kernel
theorem dX10_item_91 : decode cX10_item 91 = .ok (.imul, 1) := by decide +kernel
theorem dX10_item_92 : decode cX10_item 92 = .ok (.iload_n 2, 1) := by decide +kernel
theorem dX10_item_93 : decode cX10_item 93 = .ok (.iadd, 1) := by decide +kernel
theorem dX10_item_94 : decode cX10_item 94 = .ok (.iconst 3, 1) := by decide +kernel
theorem dX10_item_95 : decode cX10_item 95 = .ok (.isub, 1) := by decide +kernel
theorem dX10_item_96 : decode cX10_item 96 = .ok (.iaload, 1) := by decide +kernel
theorem dX10_item_97 : decode cX10_item 97 = .ok (.ireturn, 1) := by decide +kernel
theorem dX10_weather_0 : decode cX10_weather 0 = .ok (.iload_n 1, 1) := by decide +kernel
theorem dX10_weather_1 : decode cX10_weather 1 = .ok (.i2l, 1) := by decide +kernel
theorem dX10_weather_2 : decode cX10_weather 2 = .ok (.lconst 0, 1) := by decide +kernel
theorem dX10_weather_3 : decode cX10_weather 3 = .ok (.lconst 1, 1) := by decide +kernel
theorem dX10_weather_4 : decode cX10_weather 4 = .ok (.invokestatic 85, 3) := by decide +kernel
theorem dX10_weather_7 : decode cX10_weather 7 = .ok (.ifCond .eq 42, 3) := by decide +kernel
theorem dX10_weather_10 : decode cX10_weather 10 = .ok (.iload_n 2, 1) := by decide +kernel
theorem dX10_weather_11 : decode cX10_weather 11 = .ok (.i2l, 1) := by decide +kernel
theorem dX10_weather_12 : decode cX10_weather 12 = .ok (.lconst 0, 1) := by decide +kernel
theorem dX10_weather_13 : decode cX10_weather 13 = .ok (.ldc2_w 198, 3) := by decide +kernel
theorem dX10_weather_16 : decode cX10_weather 16 = .ok (.invokestatic 85, 3) := by decide +kernel
theorem dX10_weather_19 : decode cX10_weather 19 = .ok (.ifCond .eq 30, 3) := by decide +kernel
theorem dX10_weather_22 : decode cX10_weather 22 = .ok (.iload_n 3, 1) := by decide +kernel
theorem dX10_weather_23 : decode cX10_weather 23 = .ok (.i2l, 1) := by decide +kernel
theorem dX10_weather_24 : decode cX10_weather 24 = .ok (.lconst 0, 1) := by decide +kernel
theorem dX10_weather_25 : decode cX10_weather 25 = .ok (.ldc2_w 103, 3) := by decide +kernel
theorem dX10_weather_28 : decode cX10_weather 28 = .ok (.invokestatic 85, 3) := by decide +kernel
theorem dX10_weather_31 : decode cX10_weather 31 = .ok (.ifCond .eq 18, 3) := by decide +kernel
theorem dX10_weather_34 : decode cX10_weather 34 = .ok (.iload 4, 2) := by decide +kernel
theorem dX10_weather_36 : decode cX10_weather 36 = .ok (.i2l, 1) := by decide +kernel
theorem dX10_weather_37 : decode cX10_weather 37 = .ok (.ldc2_w 200, 3) := by decide +kernel
theorem dX10_weather_40 : decode cX10_weather 40 = .ok (.ldc2_w 202, 3) := by decide +kernel
theorem dX10_weather_43 : decode cX10_weather 43 = .ok (.invokestatic 85, 3) := by decide +kernel
theorem dX10_weather_46 : decode cX10_weather 46 = .ok (.ifCond .ne 5, 3) := by decide +kernel
theorem dX10_weather_49 : decode cX10_weather 49 = .ok (.iconst (-1), 1) := by decide +kernel
theorem dX10_weather_50 : decode cX10_weather 50 = .ok (.ireturn, 1) := by decide +kernel
theorem dX10_weather_51 : decode cX10_weather 51 = .ok (.aload_n 0, 1) := by decide +kernel
theorem dX10_weather_52 : decode cX10_weather 52 = .ok (.getfield 25, 3) := by decide +kernel
theorem dX10_weather_55 : decode cX10_weather 55 = .ok (.sipush 192, 3) := by decide +kernel
theorem dX10_weather_58 : decode cX10_weather 58 = .ok (.iload_n 1, 1) := by decide +kernel
theorem dX10_weather_59 : decode cX10_weather 59 = .ok (.imul, 1) := by decide +kernel
theorem dX10_weather_60 : decode cX10_weather 60 = .ok (.iconst 2, 1) := by decide +kernel
theorem dX10_weather_61 : decode cX10_weather 61 = .ok (.iload_n 2, 1) := by decide +kernel
theorem dX10_weather_62 : decode cX10_weather 62 = .ok (.imul, 1) := by decide +kernel
theorem dX10_weather_63 : decode cX10_weather 63 = .ok (.iadd, 1) := by decide +kernel
theorem dX10_weather_64 : decode cX10_weather 64 = .ok (.iload_n 3, 1) := by decide +kernel
theorem dX10_weather_65 : decode cX10_weather 65 = .ok (.iastore, 1) := by decide +kernel
theorem dX10_weather_66 : decode cX10_weather 66 = .ok (.aload_n 0, 1) := by decide +kernel
theorem dX10_weather_67 : decode cX10_weather 67 = .ok (.getfield 25, 3) := by decide +kernel
theorem dX10_weather_70 : decode cX10_weather 70 = .ok (.sipush 192, 3) := by decide +kernel
theorem dX10_weather_73 : decode cX10_weather 73 = .ok (.iload_n 1, 1) := by decide +kernel
theorem dX10_weather_74 : decode cX10_weather 74 = .ok (.imul, 1) := by decide +kernel
theorem dX10_weather_75 : decode cX10_weather 75 = .ok (.iconst 2, 1) := by decide +kernel
theorem dX10_weather_76 : decode cX10_weather 76 = .ok (.iload_n 2, 1) := by decide +kernel
theorem dX10_weather_77 : decode cX10_weather 77 = .ok (.imul, 1) := by decide +kernel
theorem dX10_weather_78 : decode cX10_weather 78 = .ok (.iadd, 1) := by decide +kernel
theorem dX10_weather_79 : decode cX10_weather 79 = .ok (.iconst 1, 1) := by decide +kernel
theorem dX10_weather_80 : decode cX10_weather 80 = .ok (.iadd, 1) := by decide +kernel
theorem dX10_weather_81 : decode cX10_weather 81 = .ok (.iload 4, 2) := by decide +kernel
theorem dX10_weather_83 : decode cX10_weather 83 = .ok (.iastore, 1) := by decide +kernel
theorem dX10_weather_84 : decode cX10_weather 84 = .ok (.iconst 0, 1) := by decide +kernel
theorem dX10_weather_85 : decode cX10_weather 85 = .ok (.ireturn, 1) := by decide +kernel
theorem dX10_anew_0 : decode cX10_anew 0 = .ok (.aload_n 0, 1) := by decide +kernel
theorem dX10_anew_1 : decode cX10_anew 1 = .ok (.getfield 173, 3) := by decide +kernel
theorem dX10_anew_4 : decode cX10_anew 4 = .ok (.ifCond .ne 6, 3) := by decide +kernel
theorem dX10_anew_7 : decode cX10_anew 7 = .ok (.bipush (-2), 2) := by decide +kernel
theorem dX10_anew_9 : decode cX10_anew 9 = .ok (.ireturn, 1) := by decide +kernel
theorem dX10_anew_10 : decode cX10_anew 10 = .ok (.aload_n 0, 1) := by decide +kernel
theorem dX10_anew_11 : decode cX10_anew 11 = .ok (.getfield 28, 3) := by decide +kernel
theorem dX10_anew_14 : decode cX10_anew 14 = .ok (.sipush 231, 3) := by decide +kernel
theorem dX10_anew_17 : decode cX10_anew 17 = .ok (.laload, 1) := by decide +kernel
theorem dX10_anew_18 : decode cX10_anew 18 = .ok (.l2i, 1) := by decide +kernel
theorem dX10_anew_19 : decode cX10_anew 19 = .ok (.istore_n 1, 1) := by decide +kernel
theorem dX10_anew_20 : decode cX10_anew 20 = .ok (.aload_n 0, 1) := by decide +kernel
theorem dX10_anew_21 : decode cX10_anew 21 = .ok (.iconst 0, 1) := by decide +kernel
theorem dX10_anew_22 : decode cX10_anew 22 = .ok (.iconst 0, 1) := by decide +kernel
theorem dX10_anew_23 : decode cX10_anew 23 = .ok (.invokevirtual 186, 3) := by decide +kernel
theorem dX10_anew_26 : decode cX10_anew 26 = .ok (.iload_n 1, 1) := by decide +kernel
theorem dX10_anew_27 : decode cX10_anew 27 = .ok (.ireturn, 1) := by decide +kernel
theorem dX10_run_0 : decode cX10_run 0 = .ok (.iload_n 1, 1) := by decide +kernel
theorem dX10_run_1 : decode cX10_run 1 = .ok (.i2l, 1) := by decide +kernel
theorem dX10_run_2 : decode cX10_run 2 = .ok (.lconst 1, 1) := by decide +kernel
theorem dX10_run_3 : decode cX10_run 3 = .ok (.ldc2_w 229, 3) := by decide +kernel
theorem dX10_run_6 : decode cX10_run 6 = .ok (.invokestatic 85, 3) := by decide +kernel
theorem dX10_run_9 : decode cX10_run 9 = .ok (.ifCond .ne 5, 3) := by decide +kernel
theorem dX10_run_12 : decode cX10_run 12 = .ok (.iconst (-1), 1) := by decide +kernel
theorem dX10_run_13 : decode cX10_run 13 = .ok (.ireturn, 1) := by decide +kernel
theorem dX10_run_14 : decode cX10_run 14 = .ok (.aload_n 0, 1) := by decide +kernel
theorem dX10_run_15 : decode cX10_run 15 = .ok (.getfield 173, 3) := by decide +kernel
theorem dX10_run_18 : decode cX10_run 18 = .ok (.ifCond .ne 6, 3) := by decide +kernel
theorem dX10_run_21 : decode cX10_run 21 = .ok (.bipush (-2), 2) := by decide +kernel
theorem dX10_run_23 : decode cX10_run 23 = .ok (.ireturn, 1) := by decide +kernel
theorem dX10_run_24 : decode cX10_run 24 = .ok (.aload_n 0, 1) := by decide +kernel
theorem dX10_run_25 : decode cX10_run 25 = .ok (.getfield 28, 3) := by decide +kernel
theorem dX10_run_28 : decode cX10_run 28 = .ok (.sipush 231, 3) := by decide +kernel
theorem dX10_run_31 : decode cX10_run 31 = .ok (.laload, 1) := by decide +kernel
theorem dX10_run_32 : decode cX10_run 32 = .ok (.iload_n 1, 1) := by decide +kernel
theorem dX10_run_33 : decode cX10_run 33 = .ok (.i2l, 1) := by decide +kernel
theorem dX10_run_34 : decode cX10_run 34 = .ok (.ladd, 1) := by decide +kernel
theorem dX10_run_35 : decode cX10_run 35 = .ok (.ldc2_w 229, 3) := by decide +kernel
theorem dX10_run_38 : decode cX10_run 38 = .ok (.lcmp, 1) := by decide +kernel
theorem dX10_run_39 : decode cX10_run 39 = .ok (.ifCond .le 6, 3) := by decide +kernel
theorem dX10_run_42 : decode cX10_run 42 = .ok (.bipush (-3), 2) := by decide +kernel
theorem dX10_run_44 : decode cX10_run 44 = .ok (.ireturn, 1) := by decide +kernel
theorem dX10_run_45 : decode cX10_run 45 = .ok (.iconst 0, 1) := by decide +kernel
theorem dX10_run_46 : decode cX10_run 46 = .ok (.istore_n 2, 1) := by decide +kernel
theorem dX10_run_47 : decode cX10_run 47 = .ok (.iload_n 2, 1) := by decide +kernel
theorem dX10_run_48 : decode cX10_run 48 = .ok (.iload_n 1, 1) := by decide +kernel
theorem dX10_run_49 : decode cX10_run 49 = .ok (.if_icmp .ge 15, 3) := by decide +kernel
theorem dX10_run_52 : decode cX10_run 52 = .ok (.aload_n 0, 1) := by decide +kernel
theorem dX10_run_53 : decode cX10_run 53 = .ok (.iconst 0, 1) := by decide +kernel
theorem dX10_run_54 : decode cX10_run 54 = .ok (.iconst 0, 1) := by decide +kernel
theorem dX10_run_55 : decode cX10_run 55 = .ok (.invokevirtual 231, 3) := by decide +kernel
theorem dX10_run_58 : decode cX10_run 58 = .ok (.iinc 2 1, 3) := by decide +kernel
theorem dX10_run_61 : decode cX10_run 61 = .ok (.goto (-14), 3) := by decide +kernel
theorem dX10_run_64 : decode cX10_run 64 = .ok (.aload_n 0, 1) := by decide +kernel
theorem dX10_run_65 : decode cX10_run 65 = .ok (.getfield 28, 3) := by decide +kernel
theorem dX10_run_68 : decode cX10_run 68 = .ok (.sipush 231, 3) := by decide +kernel
theorem dX10_run_71 : decode cX10_run 71 = .ok (.laload, 1) := by decide +kernel
theorem dX10_run_72 : decode cX10_run 72 = .ok (.l2i, 1) := by decide +kernel
theorem dX10_run_73 : decode cX10_run 73 = .ok (.ireturn, 1) := by decide +kernel
theorem dX10_has_0 : decode cX10_has 0 = .ok (.iload_n 1, 1) := by decide +kernel
theorem dX10_has_1 : decode cX10_has 1 = .ok (.i2l, 1) := by decide +kernel
theorem dX10_has_2 : decode cX10_has 2 = .ok (.lconst 0, 1) := by decide +kernel
theorem dX10_has_3 : decode cX10_has 3 = .ok (.ldc2_w 234, 3) := by decide +kernel
theorem dX10_has_6 : decode cX10_has 6 = .ok (.invokestatic 85, 3) := by decide +kernel
theorem dX10_has_9 : decode cX10_has 9 = .ok (.ifCond .eq 13, 3) := by decide +kernel
theorem dX10_has_12 : decode cX10_has 12 = .ok (.iload_n 2, 1) := by decide +kernel
theorem dX10_has_13 : decode cX10_has 13 = .ok (.i2l, 1) := by decide +kernel
theorem dX10_has_14 : decode cX10_has 14 = .ok (.lconst 0, 1) := by decide +kernel
theorem dX10_has_15 : decode cX10_has 15 = .ok (.lconst 1, 1) := by decide +kernel
theorem dX10_has_16 : decode cX10_has 16 = .ok (.invokestatic 85, 3) := by decide +kernel
theorem dX10_has_19 : decode cX10_has 19 = .ok (.ifCond .ne 7, 3) := by decide +kernel
theorem dX10_has_22 : decode cX10_has 22 = .ok (.ldc2_w 236, 3) := by decide +kernel
theorem dX10_has_25 : decode cX10_has 25 = .ok (.lreturn, 1) := by decide +kernel
theorem dX10_has_26 : decode cX10_has 26 = .ok (.aload_n 0, 1) := by decide +kernel
theorem dX10_has_27 : decode cX10_has 27 = .ok (.getfield 173, 3) := by decide +kernel
theorem dX10_has_30 : decode cX10_has 30 = .ok (.ifCond .eq 11, 3) := by decide +kernel
theorem dX10_has_33 : decode cX10_has 33 = .ok (.aload_n 0, 1) := by decide +kernel
theorem dX10_has_34 : decode cX10_has 34 = .ok (.iload_n 1, 1) := by decide +kernel
theorem dX10_has_35 : decode cX10_has 35 = .ok (.invokevirtual 208, 3) := by decide +kernel
theorem dX10_has_38 : decode cX10_has 38 = .ok (.ifCond .ne 7, 3) := by decide +kernel
theorem dX10_has_41 : decode cX10_has 41 = .ok (.ldc2_w 238, 3) := by decide +kernel
theorem dX10_has_44 : decode cX10_has 44 = .ok (.lreturn, 1) := by decide +kernel
theorem dX10_has_45 : decode cX10_has 45 = .ok (.iload_n 2, 1) := by decide +kernel
theorem dX10_has_46 : decode cX10_has 46 = .ok (.ifCond .ne 12, 3) := by decide +kernel
theorem dX10_has_49 : decode cX10_has 49 = .ok (.aload_n 0, 1) := by decide +kernel
theorem dX10_has_50 : decode cX10_has 50 = .ok (.getfield 28, 3) := by decide +kernel
theorem dX10_has_53 : decode cX10_has 53 = .ok (.iload_n 1, 1) := by decide +kernel
theorem dX10_has_54 : decode cX10_has 54 = .ok (.laload, 1) := by decide +kernel
theorem dX10_has_55 : decode cX10_has 55 = .ok (.goto 8, 3) := by decide +kernel
theorem dX10_has_58 : decode cX10_has 58 = .ok (.aload_n 0, 1) := by decide +kernel
theorem dX10_has_59 : decode cX10_has 59 = .ok (.iload_n 1, 1) := by decide +kernel
theorem dX10_has_60 : decode cX10_has 60 = .ok (.invokevirtual 240, 3) := by decide +kernel
theorem dX10_has_63 : decode cX10_has 63 = .ok (.lreturn, 1) := by decide +kernel
theorem dX10_flow_0 : decode cX10_flow 0 = .ok (.iload_n 1, 1) := by decide +kernel
theorem dX10_flow_1 : decode cX10_flow 1 = .ok (.i2l, 1) := by decide +kernel
theorem dX10_flow_2 : decode cX10_flow 2 = .ok (.lconst 0, 1) := by decide +kernel
theorem dX10_flow_3 : decode cX10_flow 3 = .ok (.ldc2_w 194, 3) := by decide +kernel
theorem dX10_flow_6 : decode cX10_flow 6 = .ok (.invokestatic 85, 3) := by decide +kernel
theorem dX10_flow_9 : decode cX10_flow 9 = .ok (.ifCond .ne 7, 3) := by decide +kernel
theorem dX10_flow_12 : decode cX10_flow 12 = .ok (.ldc2_w 236, 3) := by decide +kernel
theorem dX10_flow_15 : decode cX10_flow 15 = .ok (.lreturn, 1) := by decide +kernel
theorem dX10_flow_16 : decode cX10_flow 16 = .ok (.aload_n 0, 1) := by decide +kernel
theorem dX10_flow_17 : decode cX10_flow 17 = .ok (.getfield 173, 3) := by decide +kernel
theorem dX10_flow_20 : decode cX10_flow 20 = .ok (.ifCond .eq 24, 3) := by decide +kernel
theorem dX10_flow_23 : decode cX10_flow 23 = .ok (.iload_n 1, 1) := by decide +kernel
theorem dX10_flow_24 : decode cX10_flow 24 = .ok (.aload_n 0, 1) := by decide +kernel
theorem dX10_flow_25 : decode cX10_flow 25 = .ok (.getfield 163, 3) := by decide +kernel
theorem dX10_flow_28 : decode cX10_flow 28 = .ok (.if_icmp .ge 16, 3) := by decide +kernel
theorem dX10_flow_31 : decode cX10_flow 31 = .ok (.aload_n 0, 1) := by decide +kernel
theorem dX10_flow_32 : decode cX10_flow 32 = .ok (.getfield 28, 3) := by decide +kernel
theorem dX10_flow_35 : decode cX10_flow 35 = .ok (.sipush 231, 3) := by decide +kernel
theorem dX10_flow_38 : decode cX10_flow 38 = .ok (.laload, 1) := by decide +kernel
theorem dX10_flow_39 : decode cX10_flow 39 = .ok (.lconst 0, 1) := by decide +kernel
theorem dX10_flow_40 : decode cX10_flow 40 = .ok (.lcmp, 1) := by decide +kernel
theorem dX10_flow_41 : decode cX10_flow 41 = .ok (.ifCond .ne 9, 3) := by decide +kernel
theorem dX10_flow_44 : decode cX10_flow 44 = .ok (.ldc2_w 238, 3) := by decide +kernel
theorem dX10_flow_47 : decode cX10_flow 47 = .ok (.goto 13, 3) := by decide +kernel
theorem dX10_flow_50 : decode cX10_flow 50 = .ok (.aload_n 0, 1) := by decide +kernel
theorem dX10_flow_51 : decode cX10_flow 51 = .ok (.getfield 28, 3) := by decide +kernel
theorem dX10_flow_54 : decode cX10_flow 54 = .ok (.sipush 240, 3) := by decide +kernel
theorem dX10_flow_57 : decode cX10_flow 57 = .ok (.iload_n 1, 1) := by decide +kernel
theorem dX10_flow_58 : decode cX10_flow 58 = .ok (.iadd, 1) := by decide +kernel
theorem dX10_flow_59 : decode cX10_flow 59 = .ok (.laload, 1) := by decide +kernel
theorem dX10_flow_60 : decode cX10_flow 60 = .ok (.lreturn, 1) := by decide +kernel
def uX10_forgets : List Cond := .code yX10_forgets cX10_forgets 2 none :: ([.fieldLink RX10 59 "RiverModelModel" "knobMany" "[I", .fieldLink RX10 44 "RiverModelModel" "seen" "[I", .fieldLink RX10 38 "RiverModelModel" "gaugeKind" "[I"] ++ wsX100)
set_option maxHeartbeats 4000000 in
set_option maxRecDepth 100000 in
theorem m_X10_forgets (l : Launch) (D : va_G) (t : Nat → Nat) (cI cL cC : ClassId) (gC : Int32) (gE : Int32) (gW : Nat → Int32) (gA : Nat → Int32) (gT : Nat → Int32) (gI : Int32) (gS : Int32) (gM : Int32) (K : Nat → Int32) (F : Nat → Int32) (S : Nat → Int32) (N : Nat → Int32) (gH : Int) (gJ : Int) (ge : Int32) (gk : Int32) (gf : Int32) (gs : Int32) (gg : Int32) (gr : Int32) (RN : Nat → Int32) (a0 : Nat) (uq : ∀ b c : Nat, t b = t c → t b ≠ 0 → b = c) (k_a0 : t a0 = 40) : tM l yX10_forgets uX10_forgets 0 0 D (mF cI cL cC gC gE gW gA gT gI gS gM K F S N gH gJ ge gk gf gs gg gr RN) (mF cI cL cC gC gE gW gA gT gI gS gM K F S N gH gJ ge gk gf gs gg gr RN) t cI cL cC [.ref a0] wFo (pV (True)) := by
  refine tM.ofW (cc := cX10_forgets) (maxL := 2) (ret := none) (by decide) rfl (Nat.le_of_ble_eq_true rfl) ?_
  intro p e s m below meth c hx hb hr hml hown hts hlk H locs hG hK hE hS ls hl
  have hl : lv_has ls 2 [(0, .ref a0)] := hl
  have in10 : ∀ w ∈ wsX100, w ∈ uX10_forgets := fun w h => List.mem_cons_of_mem _ (List.mem_append_right _ h)
  refine lv_iconst (v := 0) hx hb dX10_forgets_0 (by decide) ?_
  refine lv_istore_n (lv' := [(1, .int 0), (0, .ref a0)]) hx hb dX10_forgets_1 rfl hl (by decide) rfl (fun ls hl => ?_)
  refine lv_pc (pc2 := 2) rfl ?_
  refine lp_gen (fun WW1 hWW1 => ?_)
  have kx1 : ∀ (yk : Int32) (H1 : Heap) (locs1 : List Loc) (ls1 : Array Slot), (0 ≤ yk.toInt) → (yk.toInt ≤ 4) → tG D (mF cI cL cC gC gE gW gA gT gI gS gM K F S N gH gJ ge gk gf gs gg gr RN) t H1 → tF t wFo s.heap H1 locs1 → lv_has ls1 2 [(1, .int yk), (0, .ref a0)] → WW1 H1 locs1 (F0 m 21 ls1 []) := by
    intro yk H locs ls v1_0 v1_1 hG hS hl
    refine (hWW1 _ _ _).mpr ?_
    refine lv_iconst (v := 0) hx hb dX10_forgets_21 (by decide) ?_
    refine lv_istore_n (lv' := [(1, .int 0), (0, .ref a0)]) hx hb dX10_forgets_22 rfl hl (by decide) rfl (fun ls hl => ?_)
    refine lv_pc (pc2 := 23) rfl ?_
    refine lp_gen (fun WW2 hWW2 => ?_)
    have kx2 : ∀ (yk : Int32) (H1 : Heap) (locs1 : List Loc) (ls1 : Array Slot), (0 ≤ yk.toInt) → (yk.toInt ≤ 384) → tG D (mF cI cL cC gC gE gW gA gT gI gS gM K F S N gH gJ ge gk gf gs gg gr RN) t H1 → tF t wFo s.heap H1 locs1 → lv_has ls1 2 [(1, .int yk), (0, .ref a0)] → WW2 H1 locs1 (F0 m 43 ls1 []) := by
      intro yk H locs ls v2_0 v2_1 hG hS hl
      refine (hWW2 _ _ _).mpr ?_
      refine lv_aload_n hx hb dX10_forgets_43 rfl (lv_at hl 1 rfl) ?_
      obtain ⟨r_3, v_5, r_6, r_8, r_10, r_12, r_14, r_16, r_18, r_20, r_22, r_24, r_26, r_28, r_30, r_32, r_34, r_36, r_38, r_40, r_42, r_44, r_46, v_48, r_49, at_51, h_4, h_7, h_9, h_11, h_13, h_15, h_17, h_19, h_21, h_23, h_25, h_27, h_29, h_31, h_33, h_35, h_37, h_39, h_41, h_43, h_45, h_47, h_50⟩ := mF_o40 hG k_a0
      refine va_get (D := D) (ci := 9) (v := .ref r_36) (C := RX10) (T := TX10) (N := 36) hx hb hts in10 hown hK (va_one at_51) 0 rfl rfl 22 (by decide) (hts (.fieldLink RX10 59 "RiverModelModel" "knobMany" "[I") (List.mem_of_getElem? (i := 1) rfl)) (fun _ h9 => h9) rfl dX10_forgets_44 ?_
      refine lv_iconst (v := 0) hx hb dX10_forgets_47 (by decide) ?_
      refine lv_pc (pc2 := 48) rfl ?_
      refine lv_iconst (v := 0) hx hb dX10_forgets_48 (by decide) ?_
      obtain ⟨f_52, at_53, h_54⟩ := mF_o57 hG h_37
      have b_55 : vp_in 0 2 := (q_in (by decide) (by decide))
      have zi_0 : (0 : Int32).toInt = 0 := by decide
      refine ty_iast (F2 := (mF cI cL cC gC gE gW gA gT gI gS gM K F S N gH gJ ge gk gf gs gg gr RN)) hx hb hK hG hS 0 at_53 (by rw [h_37]; rfl) rfl b_55 (by rw [h_37]; exact ⟨_, rfl, gBd_upd h_54 (by omega)⟩) tFF dX10_forgets_49 (fun H locs hG hS at_56 o_57 => ?_)
      have at_51 := va_at.keptK at_51 o_57 h_37 k_a0 rfl
      refine lv_aload_n hx hb dX10_forgets_50 rfl (lv_at hl 1 rfl) ?_
      refine va_get (D := D) (ci := 9) (v := .ref r_36) (C := RX10) (T := TX10) (N := 36) hx hb hts in10 hown hK (va_one at_51) 0 rfl rfl 22 (by decide) (hts (.fieldLink RX10 59 "RiverModelModel" "knobMany" "[I") (List.mem_of_getElem? (i := 1) rfl)) (fun _ h9 => h9) rfl dX10_forgets_51 ?_
      refine lv_iconst (v := 1) hx hb dX10_forgets_54 (by decide) ?_
      refine lv_iconst (v := 0) hx hb dX10_forgets_55 (by decide) ?_
      obtain ⟨f_58, at_59, h_60⟩ := mF_o57 hG h_37
      have b_61 : vp_in 1 2 := (q_in (by decide) (by decide))
      have zi_1 : (1 : Int32).toInt = 1 := by decide
      refine ty_iast (F2 := (mF cI cL cC gC gE gW gA gT gI gS gM K F S N gH gJ ge gk gf gs gg gr RN)) hx hb hK hG hS 0 at_59 (by rw [h_37]; rfl) rfl b_61 (by rw [h_37]; exact ⟨_, rfl, gBd_upd h_60 (by omega)⟩) tFF dX10_forgets_56 (fun H locs hG hS at_62 o_63 => ?_)
      have at_51 := va_at.keptK at_51 o_63 h_37 k_a0 rfl
      exact ty_vret hx hb hr hlk hG hS True.intro dX10_forgets_57
    have lp2 : ∀ (kk2 : Nat) (yk : Int32) (H1 : Heap) (locs1 : List Loc) (ls1 : Array Slot), 384 - yk.toInt ≤ (kk2 : Int) → (0 ≤ yk.toInt) → (yk.toInt ≤ 384) → tG D (mF cI cL cC gC gE gW gA gT gI gS gM K F S N gH gJ ge gk gf gs gg gr RN) t H1 → tF t wFo s.heap H1 locs1 → lv_has ls1 2 [(1, .int yk), (0, .ref a0)] → WW2 H1 locs1 (F0 m 23 ls1 []) := by
      intro kk2
      induction kk2 with
      | zero =>
        intro yk H locs ls hk2 v2_0 v2_1 hG hS hl
        refine (hWW2 _ _ _).mpr ?_
        refine lv_pc (pc2 := 23) rfl ?_
        refine lv_iload_n hx hb dX10_forgets_23 rfl (lv_at hl 0 rfl) ?_
        refine lv_sipush (v := 384) hx hb dX10_forgets_24 (by decide) ?_
        refine lv_icmp_ge (tgt := 43) hx hb dX10_forgets_27 (by decide) (fun c_64 => ?_) (fun c_64 => ?_)
        · skip
          have c_64 : 384 ≤ yk.toInt := q_le c_64
          exact (hWW2 _ _ _).mp (kx2 yk H locs ls v2_0 v2_1 hG hS (lv_sub hl [0, 1] rfl))
        · skip
          have c_64 : yk.toInt < 384 := q_nle c_64
          exfalso; omega
      | succ kk2 ih2 =>
        intro yk H locs ls hk2 v2_0 v2_1 hG hS hl
        refine (hWW2 _ _ _).mpr ?_
        refine lv_iload_n hx hb dX10_forgets_23 rfl (lv_at hl 0 rfl) ?_
        refine lv_sipush (v := 384) hx hb dX10_forgets_24 (by decide) ?_
        refine lv_icmp_ge (tgt := 43) hx hb dX10_forgets_27 (by decide) (fun c_65 => ?_) (fun c_65 => ?_)
        · skip
          have c_65 : 384 ≤ yk.toInt := q_le c_65
          exact (hWW2 _ _ _).mp (kx2 yk H locs ls v2_0 v2_1 hG hS (lv_sub hl [0, 1] rfl))
        · skip
          have c_65 : yk.toInt < 384 := q_nle c_65
          refine lv_aload_n hx hb dX10_forgets_30 rfl (lv_at hl 1 rfl) ?_
          obtain ⟨r_66, v_68, r_69, r_71, r_73, r_75, r_77, r_79, r_81, r_83, r_85, r_87, r_89, r_91, r_93, r_95, r_97, r_99, r_101, r_103, r_105, r_107, r_109, v_111, r_112, at_114, h_67, h_70, h_72, h_74, h_76, h_78, h_80, h_82, h_84, h_86, h_88, h_90, h_92, h_94, h_96, h_98, h_100, h_102, h_104, h_106, h_108, h_110, h_113⟩ := mF_o40 hG k_a0
          refine va_get (D := D) (ci := 9) (v := .ref r_89) (C := RX10) (T := TX10) (N := 36) hx hb hts in10 hown hK (va_one at_114) 0 rfl rfl 16 (by decide) (hts (.fieldLink RX10 44 "RiverModelModel" "seen" "[I") (List.mem_of_getElem? (i := 2) rfl)) (fun _ h9 => h9) rfl dX10_forgets_31 ?_
          refine lv_pc (pc2 := 34) rfl ?_
          refine lv_iload_n hx hb dX10_forgets_34 rfl (lv_at hl 0 rfl) ?_
          refine lv_iconst (v := (-1)) hx hb dX10_forgets_35 (by decide) ?_
          obtain ⟨f_115, at_116⟩ := mF_o52 hG h_90
          have b_117 : vp_in yk 384 := (q_in (by omega) (by omega))
          have zi_m1 : ((-1) : Int32).toInt = (-1) := by decide
          refine ty_iast (F2 := (mF cI cL cC gC gE gW gA gT gI gS gM K F S N gH gJ ge gk gf gs gg gr RN)) hx hb hK hG hS 0 at_116 (by rw [h_90]; rfl) rfl b_117 (by rw [h_90]; exact ⟨_, rfl⟩) tFF dX10_forgets_36 (fun H locs hG hS at_118 o_119 => ?_)
          have at_114 := va_at.keptK at_114 o_119 h_90 k_a0 rfl
          obtain ⟨x_120, e_121⟩ : ∃ y : Int32, y = yk + Int32.ofInt 1 := ⟨_, rfl⟩
          have i_x_120 : x_120.toInt = yk.toInt + 1 := by rw [e_121, show Int32.ofInt 1 = 1 by decide]; exact (q_add (by rw [show (1 : Int32).toInt = 1 by decide]; omega) (by rw [show (1 : Int32).toInt = 1 by decide]; omega)).trans (by rw [show (1 : Int32).toInt = 1 by decide])
          refine lv_iinc (v := x_120) (lv' := [(1, .int x_120), (0, .ref a0)]) hx hb dX10_forgets_37 hl (k := 0) rfl e_121.symm (by decide) rfl (fun ls hl => ?_)
          refine lv_goto (tgt := 23) hx hb dX10_forgets_40 (by decide) ?_
          exact (hWW2 _ _ _).mp (ih2 x_120 H locs ls (by omega) (by omega) (by omega) hG hS (lv_sub hl [0, 1] rfl))
    have zi_0 : (0 : Int32).toInt = 0 := by decide
    exact lp2 (384 - (0 : Int32).toInt : Int).toNat 0 H locs ls (by omega) (by omega) (by omega) hG hS (lv_sub hl [0, 1] rfl)
  have lp1 : ∀ (kk1 : Nat) (yk : Int32) (H1 : Heap) (locs1 : List Loc) (ls1 : Array Slot), 4 - yk.toInt ≤ (kk1 : Int) → (0 ≤ yk.toInt) → (yk.toInt ≤ 4) → tG D (mF cI cL cC gC gE gW gA gT gI gS gM K F S N gH gJ ge gk gf gs gg gr RN) t H1 → tF t wFo s.heap H1 locs1 → lv_has ls1 2 [(1, .int yk), (0, .ref a0)] → WW1 H1 locs1 (F0 m 2 ls1 []) := by
    intro kk1
    induction kk1 with
    | zero =>
      intro yk H locs ls hk1 v1_0 v1_1 hG hS hl
      refine (hWW1 _ _ _).mpr ?_
      refine lv_iload_n hx hb dX10_forgets_2 rfl (lv_at hl 0 rfl) ?_
      refine lv_iconst (v := 4) hx hb dX10_forgets_3 (by decide) ?_
      refine lv_icmp_ge (tgt := 21) hx hb dX10_forgets_4 (by decide) (fun c_122 => ?_) (fun c_122 => ?_)
      · skip
        have c_122 : 4 ≤ yk.toInt := q_le c_122
        exact (hWW1 _ _ _).mp (kx1 yk H locs ls v1_0 v1_1 hG hS (lv_sub hl [0, 1] rfl))
      · skip
        have c_122 : yk.toInt < 4 := q_nle c_122
        exfalso; omega
    | succ kk1 ih1 =>
      intro yk H locs ls hk1 v1_0 v1_1 hG hS hl
      refine (hWW1 _ _ _).mpr ?_
      refine lv_pc (pc2 := 2) rfl ?_
      refine lv_iload_n hx hb dX10_forgets_2 rfl (lv_at hl 0 rfl) ?_
      refine lv_iconst (v := 4) hx hb dX10_forgets_3 (by decide) ?_
      refine lv_icmp_ge (tgt := 21) hx hb dX10_forgets_4 (by decide) (fun c_123 => ?_) (fun c_123 => ?_)
      · skip
        have c_123 : 4 ≤ yk.toInt := q_le c_123
        exact (hWW1 _ _ _).mp (kx1 yk H locs ls v1_0 v1_1 hG hS (lv_sub hl [0, 1] rfl))
      · skip
        have c_123 : yk.toInt < 4 := q_nle c_123
        refine lv_aload_n hx hb dX10_forgets_7 rfl (lv_at hl 1 rfl) ?_
        obtain ⟨r_124, v_126, r_127, r_129, r_131, r_133, r_135, r_137, r_139, r_141, r_143, r_145, r_147, r_149, r_151, r_153, r_155, r_157, r_159, r_161, r_163, r_165, r_167, v_169, r_170, at_172, h_125, h_128, h_130, h_132, h_134, h_136, h_138, h_140, h_142, h_144, h_146, h_148, h_150, h_152, h_154, h_156, h_158, h_160, h_162, h_164, h_166, h_168, h_171⟩ := mF_o40 hG k_a0
        refine va_get (D := D) (ci := 9) (v := .ref r_143) (C := RX10) (T := TX10) (N := 36) hx hb hts in10 hown hK (va_one at_172) 0 rfl rfl 14 (by decide) (hts (.fieldLink RX10 38 "RiverModelModel" "gaugeKind" "[I") (List.mem_of_getElem? (i := 3) rfl)) (fun _ h9 => h9) rfl dX10_forgets_8 ?_
        refine lv_iload_n hx hb dX10_forgets_11 rfl (lv_at hl 0 rfl) ?_
        refine lv_bipush (v := (-4)) hx hb dX10_forgets_12 (by decide) ?_
        obtain ⟨f_173, at_174⟩ := mF_o50 hG h_144
        have b_175 : vp_in yk 4 := (q_in (by omega) (by omega))
        have zi_m4 : ((-4) : Int32).toInt = (-4) := by decide
        refine ty_iast (F2 := (mF cI cL cC gC gE gW gA gT gI gS gM K F S N gH gJ ge gk gf gs gg gr RN)) hx hb hK hG hS 0 at_174 (by rw [h_144]; rfl) rfl b_175 (by rw [h_144]; exact ⟨_, rfl⟩) tFF dX10_forgets_14 (fun H locs hG hS at_176 o_177 => ?_)
        have at_172 := va_at.keptK at_172 o_177 h_144 k_a0 rfl
        refine lv_pc (pc2 := 15) rfl ?_
        obtain ⟨x_178, e_179⟩ : ∃ y : Int32, y = yk + Int32.ofInt 1 := ⟨_, rfl⟩
        have i_x_178 : x_178.toInt = yk.toInt + 1 := by rw [e_179, show Int32.ofInt 1 = 1 by decide]; exact (q_add (by rw [show (1 : Int32).toInt = 1 by decide]; omega) (by rw [show (1 : Int32).toInt = 1 by decide]; omega)).trans (by rw [show (1 : Int32).toInt = 1 by decide])
        refine lv_iinc (v := x_178) (lv' := [(1, .int x_178), (0, .ref a0)]) hx hb dX10_forgets_15 hl (k := 0) rfl e_179.symm (by decide) rfl (fun ls hl => ?_)
        refine lv_goto (tgt := 2) hx hb dX10_forgets_18 (by decide) ?_
        exact (hWW1 _ _ _).mp (ih1 x_178 H locs ls (by omega) (by omega) (by omega) hG hS (lv_sub hl [0, 1] rfl))
  have zi_0 : (0 : Int32).toInt = 0 := by decide
  exact lp1 (4 - (0 : Int32).toInt : Int).toNat 0 H locs ls (by omega) (by omega) (by omega) hG hS (lv_sub hl [0, 1] rfl)

def uX10_fault : List Cond := .code yX10_fault cX10_fault 1 (some .int) :: ([.methodLink RX10 159 yX10_faultOf, .instanceMethod yX10_faultOf, .selects RX10 yX10_faultOf yX10_faultOf, .initialized RX10, .code yX10_faultOf cX10_faultOf 4 (some .int), .fieldLink RX10 148 "RiverModelModel" "readItems" "I", .fieldLink RX10 89 "RiverModelModel" "length" "I", .methodLink RX10 151 yX10_readsItem, .instanceMethod yX10_readsItem, .selects RX10 yX10_readsItem yX10_readsItem, .methodLink RX10 155 yX10_lays, .instanceMethod yX10_lays, .selects RX10 yX10_lays yX10_lays, .fieldLink RX10 125 "RiverModelModel" "readKind" "I", .fieldLink RX10 109 "RiverModelModel" "end" "I", .fieldLink RX10 135 "RiverModelModel" "readFirst" "I", .code yX10_readsItem cX10_readsItem 8 (some .boolean), .methodLink RX10 112 yX10_byteAt, .instanceMethod yX10_byteAt, .selects RX10 yX10_byteAt yX10_byteAt, .methodLink RX10 128 yX10_shape, .static yX10_shape, .methodLink RX10 131 yX10_isName, .static yX10_isName, .fieldLink RX10 138 "RiverModelModel" "readSecond" "I", .fieldLink RX10 74 "RiverModelModel" "readNumber" "[I", .methodLink RX10 144 yX10_areWell, .static yX10_areWell, .methodLink RX10 141 yX10_readsNumber, .instanceMethod yX10_readsNumber, .selects RX10 yX10_readsNumber yX10_readsNumber, .code yX10_byteAt cX10_byteAt 2 (some .int), .fieldLink RX10 7 "RiverModelModel" "text" "[I", .code yX10_shape cX10_shape 1 (some .int), .code yX10_isName cX10_isName 1 (some .boolean), .constantLong RX10 95 (97), .constantLong RX10 97 (112), .methodLink RX10 85 yX10_in, .static yX10_in, .code yX10_in cX10_in 6 (some .boolean), .code yX10_areWell cX10_areWell 4 (some .boolean), .constantLong RX10 101 (1000), .constantLong RX10 103 (10000), .constantLong RX10 99 (1000000), .constantLong RX10 107 (100), .constantLong RX10 105 (12), .code yX10_readsNumber cX10_readsNumber 3 (some .boolean), .fieldLink RX10 116 "RiverModelModel" "figures" "I", .constantLong RX10 123 (7), .constantLong RX10 119 (48), .constantLong RX10 121 (57), .code yX10_lays cX10_lays 5 none, .fieldLink RX10 13 "RiverModelModel" "kind" "[I", .fieldLink RX10 16 "RiverModelModel" "first" "[I", .fieldLink RX10 19 "RiverModelModel" "second" "[I", .fieldLink RX10 22 "RiverModelModel" "number" "[I"] ++ wsX100)
set_option maxRecDepth 20000 in
theorem gu_X10_fault_X10_faultOf_159 : GoodIn uX10_fault (wsV RX10 159 RX10 yX10_faultOf uX10_faultOf) := goodIn_r _ [1, 2, 3, 4, 5, 6, 7, 8, 9, 10, 4, 11, 12, 13, 14, 15, 16, 17, 18, 19, 20, 21, 22, 23, 24, 25, 26, 27, 28, 29, 30, 31, 32, 33, 34, 35, 36, 37, 38, 39, 40, 41, 42, 43, 44, 45, 46, 47, 48, 49, 50, 51, 52, 53, 54, 55, 56, 57, 58, 59, 60, 61, 62, 63, 64, 65, 66, 67, 68, 69, 70, 71, 72, 73, 74, 75, 76, 77, 78, 79, 80, 81, 82, 83, 84, 85, 86, 87, 88, 89, 90, 91, 92] rfl (by decide +kernel)
set_option maxHeartbeats 4000000 in
set_option maxRecDepth 100000 in
theorem m_X10_fault (l : Launch) (D : va_G) (t : Nat → Nat) (cI cL cC : ClassId) (gC : Int32) (gE : Int32) (gW : Nat → Int32) (gA : Nat → Int32) (gT : Nat → Int32) (gI : Int32) (gS : Int32) (gM : Int32) (K : Nat → Int32) (F : Nat → Int32) (S : Nat → Int32) (N : Nat → Int32) (gH : Int) (gJ : Int) (ge : Int32) (gk : Int32) (gf : Int32) (gs : Int32) (gg : Int32) (gr : Int32) (RN : Nat → Int32) (a0 : Nat) (uq : ∀ b c : Nat, t b = t c → t b ≠ 0 → b = c) (hC0 : 0 ≤ gC.toInt) (hC4 : gC.toInt ≤ 400) (hI0 : 0 ≤ gI.toInt) (hI4 : gI.toInt ≤ 40) (hH0 : 0 ≤ gH) (hH9 : gH ≤ 96) (hm0 : 0 ≤ gM.toInt) (hm3 : gM.toInt ≤ 3) (hO0 : okM K F S N 0 gI.toInt) (hW : swM gS K F S N gI.toInt) (k_a0 : t a0 = 40) : tMx (Z := (Int32) × (Int32) × (Int32) × (Int32) × (Int32) × (Nat → Int32) × (Int32) × (Nat → Int32) × (Nat → Int32) × (Nat → Int32) × (Nat → Int32)) l yX10_fault uX10_fault 4 98 D (mF cI cL cC gC gE gW gA gT gI gS gM K F S N gH gJ ge gk gf gs gg gr RN) (fun z => (mF cI cL cC gC gE gW gA gT gI gS gM z.2.2.2.2.2.2.2.1 z.2.2.2.2.2.2.2.2.1 z.2.2.2.2.2.2.2.2.2.1 z.2.2.2.2.2.2.2.2.2.2 gH gJ z.1 z.2.1 z.2.2.1 z.2.2.2.1 z.2.2.2.2.1 z.2.2.2.2.2.2.1 z.2.2.2.2.2.1)) t cI cL cC [.ref a0] wPI (xI (fun r (z : (Int32) × (Int32) × (Int32) × (Int32) × (Int32) × (Nat → Int32) × (Int32) × (Nat → Int32) × (Nat → Int32) × (Nat → Int32) × (Nat → Int32)) => okM z.2.2.2.2.2.2.2.1 z.2.2.2.2.2.2.2.2.1 z.2.2.2.2.2.2.2.2.2.1 z.2.2.2.2.2.2.2.2.2.2 0 gI.toInt ∧ swM gS z.2.2.2.2.2.2.2.1 z.2.2.2.2.2.2.2.2.1 z.2.2.2.2.2.2.2.2.2.1 z.2.2.2.2.2.2.2.2.2.2 gI.toInt)) := by
  refine tMx.ofW (cc := cX10_fault) (maxL := 1) (ret := (some .int)) (by decide) rfl (Nat.le_of_ble_eq_true rfl) ?_
  intro p e s m below meth c hx hb hr hml hown hts hlk H locs hG hK hE hS ls hl
  have hl : lv_has ls 1 [(0, .ref a0)] := hl
  skip
  refine lv_aload_n hx hb dX10_fault_0 rfl (lv_at hl 0 rfl) ?_
  obtain ⟨r_1, v_3, r_4, r_6, r_8, r_10, r_12, r_14, r_16, r_18, r_20, r_22, r_24, r_26, r_28, r_30, r_32, r_34, r_36, r_38, r_40, r_42, r_44, v_46, r_47, at_49, h_2, h_5, h_7, h_9, h_11, h_13, h_15, h_17, h_19, h_21, h_23, h_25, h_27, h_29, h_31, h_33, h_35, h_37, h_39, h_41, h_43, h_45, h_48⟩ := mF_o40 hG k_a0
  refine tx_calli (W.runV (As := []) (rest := []) ⟨hx, hb, hml, hown, hts⟩ (m_X10_faultOf l D t cI cL cC gC gE gW gA gT gI gS gM K F S N gH gJ ge gk gf gs gg gr RN a0  uq (by omega) (by omega) k_a0) (cwV 0 hts gu_X10_fault_X10_faultOf_159 rfl rfl rfl (by decide +kernel) ⟨Nat.le_of_ble_eq_true rfl, Nat.le_of_ble_eq_true rfl⟩) (tP_V hG hE at_49 rfl) rfl rfl hl.1 rfl (lv_room (Nat.le_of_ble_eq_true rfl)) dX10_fault_1 ⟨Nat.le_of_ble_eq_true rfl, Nat.le_of_ble_eq_true rfl⟩) hS (fun _ h => h) (fun r_50 zz_53 H locs hp_51 hG hS o_52 => ?_)
  obtain ⟨ge_54, gk_55, gf_56, gs_57, gg_58, RN_59, gr_60, K_61, F_62, S_63, N_64⟩ := zz_53
  replace hG : tG D (mF cI cL cC gC gE gW gA gT gI gS gM K_61 F_62 S_63 N_64 gH gJ ge_54 gk_55 gf_56 gs_57 gg_58 gr_60 RN_59) t H := hG
  have hp_51 : kpO K K_61 40 40 ∧ kpO F F_62 40 40 ∧ kpO S S_63 40 40 ∧ kpO N N_64 120 120 ∧ 0 ≤ gr_60.toInt ∧ gr_60.toInt ≤ 40 ∧ (r_50.toInt = -4 → okM K_61 F_62 S_63 N_64 40 gr_60.toInt) := hp_51
  obtain ⟨p_65, p_66, p_67, p_68, p_69, p_70, p_71⟩ := hp_51
  have ok_72 := okM.kpg (a := 40) (a3 := 120) (b := 0) (n := gI.toInt) (by decide) (by decide) (by omega) p_65 p_66 p_67 p_68 hO0
  have ok_73 : swM gS K_61 F_62 S_63 N_64 gI.toInt := Or.imp id (fun h => okM.kpg (a := 40) (a3 := 120) (b := 80) (n := gI.toInt) (by decide) (by decide) (by omega) p_65 p_66 p_67 p_68 h) hW
  exact tx_iret (z := (ge_54, gk_55, gf_56, gs_57, gg_58, RN_59, gr_60, K_61, F_62, S_63, N_64)) hx hb hr hlk hG hS ⟨(show okM K_61 F_62 S_63 N_64 0 gI.toInt from ok_72), (show swM gS K_61 F_62 S_63 N_64 gI.toInt from ok_73)⟩ dX10_fault_4

def uX10_build : List Cond := .code yX10_build cX10_build 3 (some .int) :: ([.methodLink RX10 159 yX10_faultOf, .instanceMethod yX10_faultOf, .selects RX10 yX10_faultOf yX10_faultOf, .initialized RX10, .fieldLink RX10 148 "RiverModelModel" "readItems" "I", .fieldLink RX10 163 "RiverModelModel" "items" "I", .methodLink RX10 190 yX10_becomes, .instanceMethod yX10_becomes, .selects RX10 yX10_becomes yX10_becomes, .methodLink RX10 80 yX10_forgets, .instanceMethod yX10_forgets, .selects RX10 yX10_forgets yX10_forgets, .fieldLink RX10 13 "RiverModelModel" "kind" "[I", .code yX10_faultOf cX10_faultOf 4 (some .int), .fieldLink RX10 89 "RiverModelModel" "length" "I", .methodLink RX10 151 yX10_readsItem, .instanceMethod yX10_readsItem, .selects RX10 yX10_readsItem yX10_readsItem, .methodLink RX10 155 yX10_lays, .instanceMethod yX10_lays, .selects RX10 yX10_lays yX10_lays, .fieldLink RX10 125 "RiverModelModel" "readKind" "I", .fieldLink RX10 109 "RiverModelModel" "end" "I", .fieldLink RX10 135 "RiverModelModel" "readFirst" "I", .code yX10_readsItem cX10_readsItem 8 (some .boolean), .methodLink RX10 112 yX10_byteAt, .instanceMethod yX10_byteAt, .selects RX10 yX10_byteAt yX10_byteAt, .methodLink RX10 128 yX10_shape, .static yX10_shape, .methodLink RX10 131 yX10_isName, .static yX10_isName, .fieldLink RX10 138 "RiverModelModel" "readSecond" "I", .fieldLink RX10 74 "RiverModelModel" "readNumber" "[I", .methodLink RX10 144 yX10_areWell, .static yX10_areWell, .methodLink RX10 141 yX10_readsNumber, .instanceMethod yX10_readsNumber, .selects RX10 yX10_readsNumber yX10_readsNumber, .code yX10_byteAt cX10_byteAt 2 (some .int), .fieldLink RX10 7 "RiverModelModel" "text" "[I", .code yX10_shape cX10_shape 1 (some .int), .code yX10_isName cX10_isName 1 (some .boolean), .constantLong RX10 95 (97), .constantLong RX10 97 (112), .methodLink RX10 85 yX10_in, .static yX10_in, .code yX10_in cX10_in 6 (some .boolean), .code yX10_areWell cX10_areWell 4 (some .boolean), .constantLong RX10 101 (1000), .constantLong RX10 103 (10000), .constantLong RX10 99 (1000000), .constantLong RX10 107 (100), .constantLong RX10 105 (12), .code yX10_readsNumber cX10_readsNumber 3 (some .boolean), .fieldLink RX10 116 "RiverModelModel" "figures" "I", .constantLong RX10 123 (7), .constantLong RX10 119 (48), .constantLong RX10 121 (57), .code yX10_lays cX10_lays 5 none, .fieldLink RX10 16 "RiverModelModel" "first" "[I", .fieldLink RX10 19 "RiverModelModel" "second" "[I", .fieldLink RX10 22 "RiverModelModel" "number" "[I", .code yX10_becomes cX10_becomes 3 none, .methodLink RX10 170 yX10_copies, .instanceMethod yX10_copies, .selects RX10 yX10_copies yX10_copies, .fieldLink RX10 173 "RiverModelModel" "isBuilt" "Z", .fieldLink RX10 177 "RiverModelModel" "isSwapped" "Z", .fieldLink RX10 180 "RiverModelModel" "keptMany" "I", .methodLink RX10 186 yX10_begins, .instanceMethod yX10_begins, .selects RX10 yX10_begins yX10_begins, .fieldLink RX10 71 "RiverModelModel" "startB" "[I", .methodLink RX10 183 yX10_startOf, .instanceMethod yX10_startOf, .selects RX10 yX10_startOf yX10_startOf, .code yX10_copies cX10_copies 4 none, .code yX10_begins cX10_begins 4 none, .fieldLink RX10 28 "RiverModelModel" "m" "[J", .methodLink RX10 208 yX10_isStore, .instanceMethod yX10_isStore, .selects RX10 yX10_isStore yX10_isStore, .constantLong RX10 204 (224), .constantLong RX10 206 (227), .constantLong RX10 196 (5), .code yX10_startOf cX10_startOf 4 (some .int), .methodLink RX10 166 yX10_storeAt, .instanceMethod yX10_storeAt, .selects RX10 yX10_storeAt yX10_storeAt, .code yX10_storeAt cX10_storeAt 5 (some .int), .code yX10_isStore cX10_isStore 2 (some .boolean), .code yX10_forgets cX10_forgets 2 none, .fieldLink RX10 59 "RiverModelModel" "knobMany" "[I", .fieldLink RX10 44 "RiverModelModel" "seen" "[I", .fieldLink RX10 38 "RiverModelModel" "gaugeKind" "[I"] ++ wsX100)
set_option maxRecDepth 20000 in
theorem gu_X10_build_X10_faultOf_159 : GoodIn uX10_build (wsV RX10 159 RX10 yX10_faultOf uX10_faultOf) := goodIn_r _ [1, 2, 3, 4, 14, 5, 15, 16, 17, 18, 4, 19, 20, 21, 22, 23, 24, 25, 26, 27, 28, 29, 30, 31, 32, 33, 34, 35, 36, 37, 38, 39, 40, 41, 42, 43, 44, 45, 46, 47, 48, 49, 50, 51, 52, 53, 54, 55, 56, 57, 58, 59, 60, 13, 61, 62, 63, 97, 98, 99, 100, 101, 102, 103, 104, 105, 106, 107, 108, 109, 110, 111, 112, 113, 114, 115, 116, 117, 118, 119, 120, 121, 122, 123, 124, 125, 126, 127, 128, 129, 130, 131, 132] rfl (by decide +kernel)
set_option maxRecDepth 20000 in
theorem gu_X10_build_X10_becomes_190 : GoodIn uX10_build (wsV RX10 190 RX10 yX10_becomes uX10_becomes) := goodIn_r _ [7, 8, 9, 4, 64, 65, 66, 67, 4, 68, 69, 70, 71, 72, 73, 74, 75, 76, 77, 78, 63, 13, 61, 62, 79, 80, 81, 82, 83, 84, 85, 46, 47, 86, 87, 88, 89, 90, 91, 6, 92, 48, 97, 98, 99, 100, 101, 102, 103, 104, 105, 106, 107, 108, 109, 110, 111, 112, 113, 114, 115, 116, 117, 118, 119, 120, 121, 122, 123, 124, 125, 126, 127, 128, 129, 130, 131, 132] rfl (by decide +kernel)
set_option maxRecDepth 20000 in
theorem gu_X10_build_X10_forgets_80 : GoodIn uX10_build (wsV RX10 80 RX10 yX10_forgets uX10_forgets) := goodIn_r _ [10, 11, 12, 4, 93, 94, 95, 96, 97, 98, 99, 100, 101, 102, 103, 104, 105, 106, 107, 108, 109, 110, 111, 112, 113, 114, 115, 116, 117, 118, 119, 120, 121, 122, 123, 124, 125, 126, 127, 128, 129, 130, 131, 132] rfl (by decide +kernel)
set_option maxHeartbeats 4000000 in
set_option maxRecDepth 100000 in
theorem m_X10_build (l : Launch) (D : va_G) (t : Nat → Nat) (cI cL cC : ClassId) (gC : Int32) (gE : Int32) (gW : Nat → Int32) (gA : Nat → Int32) (gT : Nat → Int32) (gI : Int32) (gS : Int32) (gM : Int32) (K : Nat → Int32) (F : Nat → Int32) (S : Nat → Int32) (N : Nat → Int32) (gH : Int) (gJ : Int) (ge : Int32) (gk : Int32) (gf : Int32) (gs : Int32) (gg : Int32) (gr : Int32) (RN : Nat → Int32) (a0 : Nat) (uq : ∀ b c : Nat, t b = t c → t b ≠ 0 → b = c) (hC0 : 0 ≤ gC.toInt) (hC4 : gC.toInt ≤ 400) (hI0 : 0 ≤ gI.toInt) (hI4 : gI.toInt ≤ 40) (hH0 : 0 ≤ gH) (hH9 : gH ≤ 96) (hm0 : 0 ≤ gM.toInt) (hm3 : gM.toInt ≤ 3) (hO0 : okM K F S N 0 gI.toInt) (hW : swM gS K F S N gI.toInt) (k_a0 : t a0 = 40) : tMx (Z := (Int32) × (Int32) × (Int32) × (Int32) × (Int32) × (Nat → Int32) × (Int32) × (Int32) × (Nat → Int32) × (Nat → Int32) × (Nat → Int32) × (Nat → Int32) × (Int32) × (Int32) × (Int)) l yX10_build uX10_build 4 98 D (mF cI cL cC gC gE gW gA gT gI gS gM K F S N gH gJ ge gk gf gs gg gr RN) (fun z => (mF cI cL cC gC gE gW gA gT z.2.2.2.2.2.2.2.1 z.2.2.2.2.2.2.2.2.2.2.2.2.1 z.2.2.2.2.2.2.2.2.2.2.2.2.2.1 z.2.2.2.2.2.2.2.2.1 z.2.2.2.2.2.2.2.2.2.1 z.2.2.2.2.2.2.2.2.2.2.1 z.2.2.2.2.2.2.2.2.2.2.2.1 z.2.2.2.2.2.2.2.2.2.2.2.2.2.2 gJ z.1 z.2.1 z.2.2.1 z.2.2.2.1 z.2.2.2.2.1 z.2.2.2.2.2.2.1 z.2.2.2.2.2.1)) t cI cL cC [.ref a0] wAll2 (xI (fun r (z : (Int32) × (Int32) × (Int32) × (Int32) × (Int32) × (Nat → Int32) × (Int32) × (Int32) × (Nat → Int32) × (Nat → Int32) × (Nat → Int32) × (Nat → Int32) × (Int32) × (Int32) × (Int)) => 0 ≤ z.2.2.2.2.2.2.2.1.toInt ∧ z.2.2.2.2.2.2.2.1.toInt ≤ 40 ∧ 0 ≤ z.2.2.2.2.2.2.2.2.2.2.2.2.2.2 ∧ z.2.2.2.2.2.2.2.2.2.2.2.2.2.2 ≤ 96 ∧ 0 ≤ z.2.2.2.2.2.2.2.2.2.2.2.2.2.1.toInt ∧ z.2.2.2.2.2.2.2.2.2.2.2.2.2.1.toInt ≤ 3 ∧ okM z.2.2.2.2.2.2.2.2.1 z.2.2.2.2.2.2.2.2.2.1 z.2.2.2.2.2.2.2.2.2.2.1 z.2.2.2.2.2.2.2.2.2.2.2.1 0 z.2.2.2.2.2.2.2.1.toInt ∧ swM z.2.2.2.2.2.2.2.2.2.2.2.2.1 z.2.2.2.2.2.2.2.2.1 z.2.2.2.2.2.2.2.2.2.1 z.2.2.2.2.2.2.2.2.2.2.1 z.2.2.2.2.2.2.2.2.2.2.2.1 z.2.2.2.2.2.2.2.1.toInt)) := by
  refine tMx.ofW (cc := cX10_build) (maxL := 3) (ret := (some .int)) (by decide) rfl (Nat.le_of_ble_eq_true rfl) ?_
  intro p e s m below meth c hx hb hr hml hown hts hlk H locs hG hK hE hS ls hl
  have hl : lv_has ls 3 [(0, .ref a0)] := hl
  have in10 : ∀ w ∈ wsX100, w ∈ uX10_build := fun w h => List.mem_cons_of_mem _ (List.mem_append_right _ h)
  refine lv_aload_n hx hb dX10_build_0 rfl (lv_at hl 0 rfl) ?_
  obtain ⟨r_1, v_3, r_4, r_6, r_8, r_10, r_12, r_14, r_16, r_18, r_20, r_22, r_24, r_26, r_28, r_30, r_32, r_34, r_36, r_38, r_40, r_42, r_44, v_46, r_47, at_49, h_2, h_5, h_7, h_9, h_11, h_13, h_15, h_17, h_19, h_21, h_23, h_25, h_27, h_29, h_31, h_33, h_35, h_37, h_39, h_41, h_43, h_45, h_48⟩ := mF_o40 hG k_a0
  refine tx_calli (W.runV (As := []) (rest := []) ⟨hx, hb, hml, hown, hts⟩ (m_X10_faultOf l D t cI cL cC gC gE gW gA gT gI gS gM K F S N gH gJ ge gk gf gs gg gr RN a0  uq (by omega) (by omega) k_a0) (cwV 0 hts gu_X10_build_X10_faultOf_159 rfl rfl rfl (by decide +kernel) ⟨Nat.le_of_ble_eq_true rfl, Nat.le_of_ble_eq_true rfl⟩) (tP_V hG hE at_49 rfl) rfl rfl hl.1 rfl (lv_room (Nat.le_of_ble_eq_true rfl)) dX10_build_1 ⟨Nat.le_of_ble_eq_true rfl, Nat.le_of_ble_eq_true rfl⟩) hS (wrL_sub (by decide)) (fun r_50 zz_53 H locs hp_51 hG hS o_52 => ?_)
  obtain ⟨ge_54, gk_55, gf_56, gs_57, gg_58, RN_59, gr_60, K_61, F_62, S_63, N_64⟩ := zz_53
  replace hG : tG D (mF cI cL cC gC gE gW gA gT gI gS gM K_61 F_62 S_63 N_64 gH gJ ge_54 gk_55 gf_56 gs_57 gg_58 gr_60 RN_59) t H := hG
  have hp_51 : kpO K K_61 40 40 ∧ kpO F F_62 40 40 ∧ kpO S S_63 40 40 ∧ kpO N N_64 120 120 ∧ 0 ≤ gr_60.toInt ∧ gr_60.toInt ≤ 40 ∧ (r_50.toInt = -4 → okM K_61 F_62 S_63 N_64 40 gr_60.toInt) := hp_51
  obtain ⟨p_65, p_66, p_67, p_68, p_69, p_70, p_71⟩ := hp_51
  have ok_72 := okM.kpg (a := 40) (a3 := 120) (b := 0) (n := gI.toInt) (by decide) (by decide) (by omega) p_65 p_66 p_67 p_68 hO0
  have ok_73 : swM gS K_61 F_62 S_63 N_64 gI.toInt := Or.imp id (fun h => okM.kpg (a := 40) (a3 := 120) (b := 80) (n := gI.toInt) (by decide) (by decide) (by omega) p_65 p_66 p_67 p_68 h) hW
  refine lv_bipush (v := (-4)) hx hb dX10_build_4 (by decide) ?_
  refine lv_icmp_eq (tgt := 12) hx hb dX10_build_6 (by decide) (fun c_74 => ?_) (fun c_74 => ?_)
  · skip
    have c_74 : r_50.toInt = (-4) := q_eq c_74
    refine lv_iconst (v := 0) hx hb dX10_build_12 (by decide) ?_
    refine lv_istore_n (lv' := [(1, .int 0), (0, .ref a0)]) hx hb dX10_build_13 rfl hl (by decide) rfl (fun ls hl => ?_)
    refine lv_iconst (v := 0) hx hb dX10_build_14 (by decide) ?_
    refine lv_pc (pc2 := 15) rfl ?_
    refine lv_istore_n (lv' := [(2, .int 0), (1, .int 0), (0, .ref a0)]) hx hb dX10_build_15 rfl hl (by decide) rfl (fun ls hl => ?_)
    refine lv_pc (pc2 := 16) rfl ?_
    refine lp_gen (fun WW75 hWW75 => ?_)
    have kx75 : ∀ (yk : Int32) (ys : Int32) (H1 : Heap) (locs1 : List Loc) (ls1 : Array Slot), (0 ≤ yk.toInt) → (yk.toInt ≤ 40) → tG D (mF cI cL cC gC gE gW gA gT gI gS gM K_61 F_62 S_63 N_64 gH gJ ge_54 gk_55 gf_56 gs_57 gg_58 gr_60 RN_59) t H1 → tF t wAll2 s.heap H1 locs1 → lv_has ls1 3 [(2, .int yk), (1, .int ys), (0, .ref a0)] → WW75 H1 locs1 (F0 m 54 ls1 []) := by
      intro yk ys H locs ls v75_0 v75_1 hG hS hl
      refine (hWW75 _ _ _).mpr ?_
      refine lv_iload_n hx hb dX10_build_54 rfl (lv_at hl 1 rfl) ?_
      refine lv_if_ne (tgt := 61) hx hb dX10_build_55 (by decide) (fun c_76 => ?_) (fun c_76 => ?_)
      · skip
        have c_76 : ys.toInt ≠ 0 := q_ne c_76
        refine lv_aload_n hx hb dX10_build_61 rfl (lv_at hl 2 rfl) ?_
        refine lv_aload_n hx hb dX10_build_62 rfl (lv_at hl 2 rfl) ?_
        obtain ⟨r_77, v_79, r_80, r_82, r_84, r_86, r_88, r_90, r_92, r_94, r_96, r_98, r_100, r_102, r_104, r_106, r_108, r_110, r_112, r_114, r_116, r_118, r_120, v_122, r_123, at_125, h_78, h_81, h_83, h_85, h_87, h_89, h_91, h_93, h_95, h_97, h_99, h_101, h_103, h_105, h_107, h_109, h_111, h_113, h_115, h_117, h_119, h_121, h_124⟩ := mF_o40 hG k_a0
        refine va_get (D := D) (ci := 9) (v := .int gr_60) (C := RX10) (T := TX10) (N := 36) hx hb hts in10 hown hK (va_one at_125) 0 rfl rfl 33 (by decide) (hts (.fieldLink RX10 148 "RiverModelModel" "readItems" "I") (List.mem_of_getElem? (i := 5) rfl)) (fun _ h9 => h9) rfl dX10_build_63 ?_
        refine ty_put (D := D) (ci := 9) (v := .int gr_60) (ty := .int) (C := RX10) (T := TX10) (N := 36) (F2 := (mF cI cL cC gC gE gW gA gT gr_60 gS gM K_61 F_62 S_63 N_64 gH gJ ge_54 gk_55 gf_56 gs_57 gg_58 gr_60 RN_59)) hx hb hts in10 tyX10 tyX10_ok nmX10 hown hK hG hS at_125 (by rw [k_a0]; rfl) rfl 3 (by decide) (hts (.fieldLink RX10 163 "RiverModelModel" "items" "I") (List.mem_of_getElem? (i := 6) rfl)) (fun _ h9 => h9) rfl (by decide +kernel) rfl rfl (Nat.le_of_ble_eq_true rfl) (by rw [k_a0]; exact ⟨r_77, v_79, r_80, r_82, r_84, r_86, r_88, r_90, r_92, r_94, r_96, r_98, r_100, r_102, r_104, r_106, r_108, r_110, r_112, r_114, r_116, r_118, r_120, v_122, r_123, rfl, h_78, h_81, h_83, h_85, h_87, h_89, h_91, h_93, h_95, h_97, h_99, h_101, h_103, h_105, h_107, h_109, h_111, h_113, h_115, h_117, h_119, h_121, h_124⟩) (fun hG b hb h0 => by obtain ⟨e, g1, g2⟩ := hG b h0; exact ⟨e, g1, mF_gI (fun h => hb (uq b a0 (h.trans k_a0.symm) h0)) g2⟩) dX10_build_66 (fun H locs hG hS at_126 o_127 => ?_)
        have at_126 : va_at D vwCl (a0, .inr (9, [.int gC, .ref r_77, .int v_79, .int gr_60, .ref r_80, .ref r_82, .ref r_84, .ref r_86, .int gS, .ref r_88, .ref r_90, .ref r_92, .ref r_94, .int gM, .ref r_96, .ref r_98, .ref r_100, .int gE, .ref r_102, .ref r_104, .ref r_106, .ref r_108, .ref r_110, .ref r_112, .ref r_114, .ref r_116, .ref r_118, .int ge_54, .int gk_55, .int gf_56, .int gs_57, .int gg_58, .ref r_120, .int gr_60, .int v_122, .ref r_123])) H := at_126
        have okT := p_71 (by omega)
        refine lv_aload_n hx hb dX10_build_69 rfl (lv_at hl 2 rfl) ?_
        refine lv_pc (pc2 := 70) rfl ?_
        refine lv_iconst (v := 1) hx hb dX10_build_70 (by decide) ?_
        have zi_1 : (1 : Int32).toInt = 1 := by decide
        refine tx_callv (W.runV (As := [.int 1]) (rest := []) ⟨hx, hb, hml, hown, hts⟩ (m_X10_becomes l D t cI cL cC gC gE gW gA gT gr_60 gS gM K_61 F_62 S_63 N_64 gH gJ ge_54 gk_55 gf_56 gs_57 gg_58 gr_60 RN_59 a0 1 40 uq (by omega) (by omega) (by omega) (by omega) (by omega) okT k_a0) (cwV 1 hts gu_X10_build_X10_becomes_190 rfl rfl rfl (by decide +kernel) ⟨Nat.le_of_ble_eq_true rfl, Nat.le_of_ble_eq_true rfl⟩) (tP_V hG hE at_126 rfl) rfl rfl hl.1 rfl (lv_room (Nat.le_of_ble_eq_true rfl)) dX10_build_71 ⟨Nat.le_of_ble_eq_true rfl, Nat.le_of_ble_eq_true rfl⟩) hS (wrL_sub (by decide)) (fun zz_131 H locs hp_129 hG hS o_130 => ?_)
        obtain ⟨K_132, F_133, S_134, N_135, gS_136, gM_137, gH_138⟩ := zz_131
        replace hG : tG D (mF cI cL cC gC gE gW gA gT gr_60 gS_136 gM_137 K_132 F_133 S_134 N_135 gH_138 gJ ge_54 gk_55 gf_56 gs_57 gg_58 gr_60 RN_59) t H := hG
        have hp_129 : gS_136.toInt = 0 ∧ gM_137.toInt = 0 ∧ gH_138 = 0 ∧ okM K_132 F_133 S_134 N_135 0 gr_60.toInt := hp_129
        obtain ⟨p_139, p_140, p_141, p_142⟩ := hp_129
        have hw_143 : swM gS_136 K_132 F_133 S_134 N_135 gr_60.toInt := Or.inl p_139
        refine lv_aload_n hx hb dX10_build_74 rfl (lv_at hl 2 rfl) ?_
        obtain ⟨r_144, v_146, r_147, r_149, r_151, r_153, r_155, r_157, r_159, r_161, r_163, r_165, r_167, r_169, r_171, r_173, r_175, r_177, r_179, r_181, r_183, r_185, r_187, v_189, r_190, at_192, h_145, h_148, h_150, h_152, h_154, h_156, h_158, h_160, h_162, h_164, h_166, h_168, h_170, h_172, h_174, h_176, h_178, h_180, h_182, h_184, h_186, h_188, h_191⟩ := mF_o40 hG k_a0
        refine ty_callv (W.runV (As := []) (rest := []) ⟨hx, hb, hml, hown, hts⟩ (m_X10_forgets l D t cI cL cC gC gE gW gA gT gr_60 gS_136 gM_137 K_132 F_133 S_134 N_135 gH_138 gJ ge_54 gk_55 gf_56 gs_57 gg_58 gr_60 RN_59 a0  uq  k_a0) (cwV 0 hts gu_X10_build_X10_forgets_80 rfl rfl rfl (by decide +kernel) ⟨Nat.le_of_ble_eq_true rfl, Nat.le_of_ble_eq_true rfl⟩) (tP_V hG hE at_192 rfl) rfl rfl hl.1 rfl (lv_room (Nat.le_of_ble_eq_true rfl)) dX10_build_75 ⟨Nat.le_of_ble_eq_true rfl, Nat.le_of_ble_eq_true rfl⟩) hS (wrL_sub (by decide)) (fun H locs hp_194 hG hS o_195 => ?_)
        have at_192 := va_at.keptC at_192 o_195 k_a0 rfl
        refine lv_aload_n hx hb dX10_build_78 rfl (lv_at hl 2 rfl) ?_
        refine va_get (D := D) (ci := 9) (v := .int gr_60) (C := RX10) (T := TX10) (N := 36) hx hb hts in10 hown hK (va_one at_192) 0 rfl rfl 3 (by decide) (hts (.fieldLink RX10 163 "RiverModelModel" "items" "I") (List.mem_of_getElem? (i := 6) rfl)) (fun _ h9 => h9) rfl dX10_build_79 ?_
        exact tx_iret (z := (ge_54, gk_55, gf_56, gs_57, gg_58, RN_59, gr_60, gr_60, K_132, F_133, S_134, N_135, gS_136, gM_137, gH_138)) hx hb hr hlk hG hS ⟨(by show 0 ≤ gr_60.toInt; omega), (by show gr_60.toInt ≤ 40; omega), (by show 0 ≤ gH_138; omega), (by show gH_138 ≤ 96; omega), (by show 0 ≤ gM_137.toInt; omega), (by show gM_137.toInt ≤ 3; omega), (show okM K_132 F_133 S_134 N_135 0 gr_60.toInt from p_142), (show swM gS_136 K_132 F_133 S_134 N_135 gr_60.toInt from hw_143)⟩ dX10_build_82
      · skip
        have c_76 : ys.toInt = 0 := q_eq c_76
        refine lv_bipush (v := (-2)) hx hb dX10_build_58 (by decide) ?_
        refine lv_pc (pc2 := 60) rfl ?_
        have zi_m2 : ((-2) : Int32).toInt = (-2) := by decide
        exact tx_iret (z := (ge_54, gk_55, gf_56, gs_57, gg_58, RN_59, gr_60, gI, K_61, F_62, S_63, N_64, gS, gM, gH)) hx hb hr hlk hG hS ⟨(by show 0 ≤ gI.toInt; omega), (by show gI.toInt ≤ 40; omega), (by show 0 ≤ gH; omega), (by show gH ≤ 96; omega), (by show 0 ≤ gM.toInt; omega), (by show gM.toInt ≤ 3; omega), (show okM K_61 F_62 S_63 N_64 0 gI.toInt from ok_72), (show swM gS K_61 F_62 S_63 N_64 gI.toInt from ok_73)⟩ dX10_build_60
    have lp75 : ∀ (kk75 : Nat) (yk : Int32) (ys : Int32) (H1 : Heap) (locs1 : List Loc) (ls1 : Array Slot), 40 - yk.toInt ≤ (kk75 : Int) → (0 ≤ yk.toInt) → (yk.toInt ≤ 40) → tG D (mF cI cL cC gC gE gW gA gT gI gS gM K_61 F_62 S_63 N_64 gH gJ ge_54 gk_55 gf_56 gs_57 gg_58 gr_60 RN_59) t H1 → tF t wAll2 s.heap H1 locs1 → lv_has ls1 3 [(2, .int yk), (1, .int ys), (0, .ref a0)] → WW75 H1 locs1 (F0 m 16 ls1 []) := by
      intro kk75
      induction kk75 with
      | zero =>
        intro yk ys H locs ls hk75 v75_0 v75_1 hG hS hl
        refine (hWW75 _ _ _).mpr ?_
        refine lv_iload_n hx hb dX10_build_16 rfl (lv_at hl 0 rfl) ?_
        refine lv_aload_n hx hb dX10_build_17 rfl (lv_at hl 2 rfl) ?_
        obtain ⟨r_197, v_199, r_200, r_202, r_204, r_206, r_208, r_210, r_212, r_214, r_216, r_218, r_220, r_222, r_224, r_226, r_228, r_230, r_232, r_234, r_236, r_238, r_240, v_242, r_243, at_245, h_198, h_201, h_203, h_205, h_207, h_209, h_211, h_213, h_215, h_217, h_219, h_221, h_223, h_225, h_227, h_229, h_231, h_233, h_235, h_237, h_239, h_241, h_244⟩ := mF_o40 hG k_a0
        refine va_get (D := D) (ci := 9) (v := .int gr_60) (C := RX10) (T := TX10) (N := 36) hx hb hts in10 hown hK (va_one at_245) 0 rfl rfl 33 (by decide) (hts (.fieldLink RX10 148 "RiverModelModel" "readItems" "I") (List.mem_of_getElem? (i := 5) rfl)) (fun _ h9 => h9) rfl dX10_build_18 ?_
        refine lv_icmp_ge (tgt := 54) hx hb dX10_build_21 (by decide) (fun c_246 => ?_) (fun c_246 => ?_)
        · skip
          have c_246 : gr_60.toInt ≤ yk.toInt := q_le c_246
          exact (hWW75 _ _ _).mp (kx75 yk ys H locs ls v75_0 v75_1 hG hS (lv_sub hl [0, 1, 2] rfl))
        · skip
          have c_246 : yk.toInt < gr_60.toInt := q_nle c_246
          exfalso; omega
      | succ kk75 ih75 =>
        intro yk ys H locs ls hk75 v75_0 v75_1 hG hS hl
        refine (hWW75 _ _ _).mpr ?_
        refine lv_iload_n hx hb dX10_build_16 rfl (lv_at hl 0 rfl) ?_
        refine lv_aload_n hx hb dX10_build_17 rfl (lv_at hl 2 rfl) ?_
        obtain ⟨r_247, v_249, r_250, r_252, r_254, r_256, r_258, r_260, r_262, r_264, r_266, r_268, r_270, r_272, r_274, r_276, r_278, r_280, r_282, r_284, r_286, r_288, r_290, v_292, r_293, at_295, h_248, h_251, h_253, h_255, h_257, h_259, h_261, h_263, h_265, h_267, h_269, h_271, h_273, h_275, h_277, h_279, h_281, h_283, h_285, h_287, h_289, h_291, h_294⟩ := mF_o40 hG k_a0
        refine va_get (D := D) (ci := 9) (v := .int gr_60) (C := RX10) (T := TX10) (N := 36) hx hb hts in10 hown hK (va_one at_295) 0 rfl rfl 33 (by decide) (hts (.fieldLink RX10 148 "RiverModelModel" "readItems" "I") (List.mem_of_getElem? (i := 5) rfl)) (fun _ h9 => h9) rfl dX10_build_18 ?_
        refine lv_pc (pc2 := 21) rfl ?_
        refine lv_icmp_ge (tgt := 54) hx hb dX10_build_21 (by decide) (fun c_296 => ?_) (fun c_296 => ?_)
        · skip
          have c_296 : gr_60.toInt ≤ yk.toInt := q_le c_296
          exact (hWW75 _ _ _).mp (kx75 yk ys H locs ls v75_0 v75_1 hG hS (lv_sub hl [0, 1, 2] rfl))
        · skip
          have c_296 : yk.toInt < gr_60.toInt := q_nle c_296
          refine lv_iload_n hx hb dX10_build_24 rfl (lv_at hl 1 rfl) ?_
          refine lv_if_ne (tgt := 42) hx hb dX10_build_25 (by decide) (fun c_297 => ?_) (fun c_297 => ?_)
          · skip
            have c_297 : ys.toInt ≠ 0 := q_ne c_297
            refine lv_iconst (v := 1) hx hb dX10_build_42 (by decide) ?_
            refine lv_goto (tgt := 47) hx hb dX10_build_43 (by decide) ?_
            refine lv_istore_n (lv' := [(1, .int 1), (2, .int yk), (0, .ref a0)]) hx hb dX10_build_47 rfl hl (by decide) rfl (fun ls hl => ?_)
            obtain ⟨x_298, e_299⟩ : ∃ y : Int32, y = yk + Int32.ofInt 1 := ⟨_, rfl⟩
            have i_x_298 : x_298.toInt = yk.toInt + 1 := by rw [e_299, show Int32.ofInt 1 = 1 by decide]; exact (q_add (by rw [show (1 : Int32).toInt = 1 by decide]; omega) (by rw [show (1 : Int32).toInt = 1 by decide]; omega)).trans (by rw [show (1 : Int32).toInt = 1 by decide])
            refine lv_iinc (v := x_298) (lv' := [(2, .int x_298), (1, .int 1), (0, .ref a0)]) hx hb dX10_build_48 hl (k := 1) rfl e_299.symm (by decide) rfl (fun ls hl => ?_)
            refine lv_goto (tgt := 16) hx hb dX10_build_51 (by decide) ?_
            have zi_1 : (1 : Int32).toInt = 1 := by decide
            exact (hWW75 _ _ _).mp (ih75 x_298 1 H locs ls (by omega) (by omega) (by omega) hG hS (lv_sub hl [0, 1, 2] rfl))
          · skip
            have c_297 : ys.toInt = 0 := q_eq c_297
            refine lv_pc (pc2 := 28) rfl ?_
            refine lv_aload_n hx hb dX10_build_28 rfl (lv_at hl 2 rfl) ?_
            refine va_get (D := D) (ci := 9) (v := .ref r_250) (C := RX10) (T := TX10) (N := 36) hx hb hts in10 hown hK (va_one at_295) 0 rfl rfl 4 (by decide) (hts (.fieldLink RX10 13 "RiverModelModel" "kind" "[I") (List.mem_of_getElem? (i := 13) rfl)) (fun _ h9 => h9) rfl dX10_build_29 ?_
            refine lv_bipush (v := 40) hx hb dX10_build_32 (by decide) ?_
            refine lv_iload_n hx hb dX10_build_34 rfl (lv_at hl 0 rfl) ?_
            refine lv_iadd hx hb dX10_build_35 ?_
            refine lv_topi (fun x_300 e_301 => ?_)
            have i_x_300 : x_300.toInt = 40 + yk.toInt := by rw [e_301]; exact (q_add (by rw [show (40 : Int32).toInt = 40 by decide]; omega) (by rw [show (40 : Int32).toInt = 40 by decide]; omega)).trans (by rw [show (40 : Int32).toInt = 40 by decide])
            have at_302 := mF_o42 hG h_251
            have b_303 : vp_in x_300 120 := (q_in (by omega) (by omega))
            refine va_iald hx hb hK (va_one at_302) 0 0 rfl rfl b_303 dX10_build_36 ?_
            refine lv_topi (fun x_304 e_305 => ?_)
            have w_x_304 : x_304 = K_61 (x_300.toInt).toNat := by rw [e_305]; exact congrArg (fun q : Int => K_61 q.toNat) (show x_300.toInt = x_300.toInt by omega)
            have i_x_304 : x_304.toInt = (K_61 (x_300.toInt).toNat).toInt := by rw [w_x_304]
            refine lv_bipush (v := 115) hx hb dX10_build_37 (by decide) ?_
            refine lv_icmp_ne (tgt := 46) hx hb dX10_build_39 (by decide) (fun c_306 => ?_) (fun c_306 => ?_)
            · skip
              have c_306 : x_304.toInt ≠ 115 := q_ne c_306
              refine lv_pc (pc2 := 46) rfl ?_
              refine lv_iconst (v := 0) hx hb dX10_build_46 (by decide) ?_
              refine lv_istore_n (lv' := [(1, .int 0), (2, .int yk), (0, .ref a0)]) hx hb dX10_build_47 rfl hl (by decide) rfl (fun ls hl => ?_)
              obtain ⟨x_307, e_308⟩ : ∃ y : Int32, y = yk + Int32.ofInt 1 := ⟨_, rfl⟩
              have i_x_307 : x_307.toInt = yk.toInt + 1 := by rw [e_308, show Int32.ofInt 1 = 1 by decide]; exact (q_add (by rw [show (1 : Int32).toInt = 1 by decide]; omega) (by rw [show (1 : Int32).toInt = 1 by decide]; omega)).trans (by rw [show (1 : Int32).toInt = 1 by decide])
              refine lv_iinc (v := x_307) (lv' := [(2, .int x_307), (1, .int 0), (0, .ref a0)]) hx hb dX10_build_48 hl (k := 1) rfl e_308.symm (by decide) rfl (fun ls hl => ?_)
              refine lv_goto (tgt := 16) hx hb dX10_build_51 (by decide) ?_
              have zi_0 : (0 : Int32).toInt = 0 := by decide
              exact (hWW75 _ _ _).mp (ih75 x_307 0 H locs ls (by omega) (by omega) (by omega) hG hS (lv_sub hl [0, 1, 2] rfl))
            · skip
              have c_306 : x_304.toInt = 115 := q_eq c_306
              refine lv_iconst (v := 1) hx hb dX10_build_42 (by decide) ?_
              refine lv_goto (tgt := 47) hx hb dX10_build_43 (by decide) ?_
              refine lv_istore_n (lv' := [(1, .int 1), (2, .int yk), (0, .ref a0)]) hx hb dX10_build_47 rfl hl (by decide) rfl (fun ls hl => ?_)
              obtain ⟨x_309, e_310⟩ : ∃ y : Int32, y = yk + Int32.ofInt 1 := ⟨_, rfl⟩
              have i_x_309 : x_309.toInt = yk.toInt + 1 := by rw [e_310, show Int32.ofInt 1 = 1 by decide]; exact (q_add (by rw [show (1 : Int32).toInt = 1 by decide]; omega) (by rw [show (1 : Int32).toInt = 1 by decide]; omega)).trans (by rw [show (1 : Int32).toInt = 1 by decide])
              refine lv_iinc (v := x_309) (lv' := [(2, .int x_309), (1, .int 1), (0, .ref a0)]) hx hb dX10_build_48 hl (k := 1) rfl e_310.symm (by decide) rfl (fun ls hl => ?_)
              refine lv_pc (pc2 := 51) rfl ?_
              refine lv_goto (tgt := 16) hx hb dX10_build_51 (by decide) ?_
              have zi_1 : (1 : Int32).toInt = 1 := by decide
              exact (hWW75 _ _ _).mp (ih75 x_309 1 H locs ls (by omega) (by omega) (by omega) hG hS (lv_sub hl [0, 1, 2] rfl))
    have zi_0 : (0 : Int32).toInt = 0 := by decide
    exact lp75 (40 - (0 : Int32).toInt : Int).toNat 0 0 H locs ls (by omega) (by omega) (by omega) hG hS (lv_sub hl [0, 1, 2] rfl)
  · skip
    have c_74 : r_50.toInt ≠ (-4) := q_ne c_74
    refine lv_bipush (v := (-2)) hx hb dX10_build_9 (by decide) ?_
    have zi_m2 : ((-2) : Int32).toInt = (-2) := by decide
    exact tx_iret (z := (ge_54, gk_55, gf_56, gs_57, gg_58, RN_59, gr_60, gI, K_61, F_62, S_63, N_64, gS, gM, gH)) hx hb hr hlk hG hS ⟨(by show 0 ≤ gI.toInt; omega), (by show gI.toInt ≤ 40; omega), (by show 0 ≤ gH; omega), (by show gH ≤ 96; omega), (by show 0 ≤ gM.toInt; omega), (by show gM.toInt ≤ 3; omega), (show okM K_61 F_62 S_63 N_64 0 gI.toInt from ok_72), (show swM gS K_61 F_62 S_63 N_64 gI.toInt from ok_73)⟩ dX10_build_11

def uX10_item : List Cond := .code yX10_item cX10_item 3 (some .int) :: ([.constantLong RX10 194 (39), .methodLink RX10 85 yX10_in, .static yX10_in, .initialized RX10, .constantLong RX10 196 (5), .fieldLink RX10 173 "RiverModelModel" "isBuilt" "Z", .fieldLink RX10 163 "RiverModelModel" "items" "I", .fieldLink RX10 22 "RiverModelModel" "number" "[I", .fieldLink RX10 19 "RiverModelModel" "second" "[I", .fieldLink RX10 16 "RiverModelModel" "first" "[I", .fieldLink RX10 13 "RiverModelModel" "kind" "[I", .code yX10_in cX10_in 6 (some .boolean)] ++ wsX100)
set_option maxRecDepth 20000 in
theorem gu_X10_item_X10_in_85 : GoodIn uX10_item (va_wsS RX10 85 yX10_in uX10_in) := goodIn_r _ [2, 3, 4, 12] rfl (by decide +kernel)
set_option maxHeartbeats 4000000 in
set_option maxRecDepth 100000 in
theorem m_X10_item (l : Launch) (D : va_G) (t : Nat → Nat) (cI cL cC : ClassId) (gC : Int32) (gE : Int32) (gW : Nat → Int32) (gA : Nat → Int32) (gT : Nat → Int32) (gI : Int32) (gS : Int32) (gM : Int32) (K : Nat → Int32) (F : Nat → Int32) (S : Nat → Int32) (N : Nat → Int32) (gH : Int) (gJ : Int) (ge : Int32) (gk : Int32) (gf : Int32) (gs : Int32) (gg : Int32) (gr : Int32) (RN : Nat → Int32) (a0 : Nat) (a1 : Int32) (a2 : Int32) (uq : ∀ b c : Nat, t b = t c → t b ≠ 0 → b = c) (hC0 : 0 ≤ gC.toInt) (hC4 : gC.toInt ≤ 400) (hI0 : 0 ≤ gI.toInt) (hI4 : gI.toInt ≤ 40) (hH0 : 0 ≤ gH) (hH9 : gH ≤ 96) (hm0 : 0 ≤ gM.toInt) (hm3 : gM.toInt ≤ 3) (hO0 : okM K F S N 0 gI.toInt) (hW : swM gS K F S N gI.toInt) (k_a0 : t a0 = 40) : tM l yX10_item uX10_item 1 25 D (mF cI cL cC gC gE gW gA gT gI gS gM K F S N gH gJ ge gk gf gs gg gr RN) (mF cI cL cC gC gE gW gA gT gI gS gM K F S N gH gJ ge gk gf gs gg gr RN) t cI cL cC [.ref a0, .int a1, .int a2] wr0 (pI (fun r => True)) := by
  refine tM.ofW (cc := cX10_item) (maxL := 3) (ret := (some .int)) (by decide) rfl (Nat.le_of_ble_eq_true rfl) ?_
  intro p e s m below meth c hx hb hr hml hown hts hlk H locs hG hK hE hS ls hl
  have hl : lv_has ls 3 [(0, .ref a0), (1, .int a1), (2, .int a2)] := hl
  have in10 : ∀ w ∈ wsX100, w ∈ uX10_item := fun w h => List.mem_cons_of_mem _ (List.mem_append_right _ h)
  refine lv_iload_n hx hb dX10_item_0 rfl (lv_at hl 1 rfl) ?_
  refine lv_i2l (v := a1.toInt64) hx hb dX10_item_1 rfl ?_
  refine lv_lconst (v := 0) hx hb dX10_item_2 (by decide) ?_
  refine lv_ldc2 hx hb hown (hts (.constantLong RX10 194 (39)) (List.mem_of_getElem? (i := 1) rfl)) dX10_item_3 ?_
  have zl_0 : (0 : Int64).toInt = 0 := by decide
  have zl_39 : (39 : Int64).toInt = 39 := by decide
  refine ty_calli (W.runS (As := [.long a1.toInt64, .long 0, .long 39]) (rest := []) ⟨hx, hb, hml, hown, hts⟩ (m_X10_in l D t cI cL cC gC gE gW gA gT gI gS gM K F S N gH gJ ge gk gf gs gg gr RN a1.toInt64 0 39 a1.toInt 0 39 uq (q_i2l _) (by decide) (by decide) ) (va_cwS 3 hts gu_X10_item_X10_in_85 rfl rfl rfl (by decide +kernel) ⟨Nat.le_of_ble_eq_true rfl, Nat.le_of_ble_eq_true rfl⟩) (tP_S hG hE) rfl rfl hl.1 rfl (lv_room (Nat.le_of_ble_eq_true rfl)) dX10_item_6 ⟨Nat.le_of_ble_eq_true rfl, Nat.le_of_ble_eq_true rfl⟩) hS (fun _ h => h) (fun r_1 H locs hp_2 hG hS o_3 => ?_)
  have hp_2 : (r_1 = 1 ∧ 0 ≤ a1.toInt ∧ a1.toInt ≤ 39) ∨ (r_1 = 0 ∧ (a1.toInt < 0 ∨ 39 < a1.toInt)) := hp_2
  rcases hp_2 with ⟨rfl, p_5, p_6⟩ | ⟨rfl, p_7⟩
  · skip
    refine lv_if_eq (tgt := 24) hx hb dX10_item_9 (by decide) (fun q => absurd q (by decide)) (fun _ => ?_)
    refine lv_iload_n hx hb dX10_item_12 rfl (lv_at hl 2 rfl) ?_
    refine lv_pc (pc2 := 13) rfl ?_
    refine lv_i2l (v := a2.toInt64) hx hb dX10_item_13 rfl ?_
    refine lv_lconst (v := 0) hx hb dX10_item_14 (by decide) ?_
    refine lv_ldc2 hx hb hown (hts (.constantLong RX10 196 (5)) (List.mem_of_getElem? (i := 5) rfl)) dX10_item_15 ?_
    have zl_5 : (5 : Int64).toInt = 5 := by decide
    refine ty_calli (W.runS (As := [.long a2.toInt64, .long 0, .long 5]) (rest := []) ⟨hx, hb, hml, hown, hts⟩ (m_X10_in l D t cI cL cC gC gE gW gA gT gI gS gM K F S N gH gJ ge gk gf gs gg gr RN a2.toInt64 0 5 a2.toInt 0 5 uq (q_i2l _) (by decide) (by decide) ) (va_cwS 3 hts gu_X10_item_X10_in_85 rfl rfl rfl (by decide +kernel) ⟨Nat.le_of_ble_eq_true rfl, Nat.le_of_ble_eq_true rfl⟩) (tP_S hG hE) rfl rfl hl.1 rfl (lv_room (Nat.le_of_ble_eq_true rfl)) dX10_item_18 ⟨Nat.le_of_ble_eq_true rfl, Nat.le_of_ble_eq_true rfl⟩) hS (fun _ h => h) (fun r_8 H locs hp_9 hG hS o_10 => ?_)
    have hp_9 : (r_8 = 1 ∧ 0 ≤ a2.toInt ∧ a2.toInt ≤ 5) ∨ (r_8 = 0 ∧ (a2.toInt < 0 ∨ 5 < a2.toInt)) := hp_9
    rcases hp_9 with ⟨rfl, p_12, p_13⟩ | ⟨rfl, p_14⟩
    · skip
      refine lv_if_ne (tgt := 26) hx hb dX10_item_21 (by decide) (fun _ => ?_) (fun q => absurd q (by decide))
      refine lv_aload_n hx hb dX10_item_26 rfl (lv_at hl 0 rfl) ?_
      obtain ⟨r_15, v_17, r_18, r_20, r_22, r_24, r_26, r_28, r_30, r_32, r_34, r_36, r_38, r_40, r_42, r_44, r_46, r_48, r_50, r_52, r_54, r_56, r_58, v_60, r_61, at_63, h_16, h_19, h_21, h_23, h_25, h_27, h_29, h_31, h_33, h_35, h_37, h_39, h_41, h_43, h_45, h_47, h_49, h_51, h_53, h_55, h_57, h_59, h_62⟩ := mF_o40 hG k_a0
      refine va_get (D := D) (ci := 9) (v := .int v_17) (C := RX10) (T := TX10) (N := 36) hx hb hts in10 hown hK (va_one at_63) 0 rfl rfl 2 (by decide) (hts (.fieldLink RX10 173 "RiverModelModel" "isBuilt" "Z") (List.mem_of_getElem? (i := 6) rfl)) (fun _ h9 => h9) rfl dX10_item_27 ?_
      refine lv_if_eq (tgt := 41) hx hb dX10_item_30 (by decide) (fun c_64 => ?_) (fun c_64 => ?_)
      · skip
        have c_64 : v_17.toInt = 0 := q_eq c_64
        refine lv_pc (pc2 := 41) rfl ?_
        refine lv_bipush (v := (-2)) hx hb dX10_item_41 (by decide) ?_
        have zi_m2 : ((-2) : Int32).toInt = (-2) := by decide
        exact ty_iret hx hb hr hlk hG hS True.intro dX10_item_43
      · skip
        have c_64 : v_17.toInt ≠ 0 := q_ne c_64
        refine lv_iload_n hx hb dX10_item_33 rfl (lv_at hl 1 rfl) ?_
        refine lv_aload_n hx hb dX10_item_34 rfl (lv_at hl 0 rfl) ?_
        refine va_get (D := D) (ci := 9) (v := .int gI) (C := RX10) (T := TX10) (N := 36) hx hb hts in10 hown hK (va_one at_63) 0 rfl rfl 3 (by decide) (hts (.fieldLink RX10 163 "RiverModelModel" "items" "I") (List.mem_of_getElem? (i := 7) rfl)) (fun _ h9 => h9) rfl dX10_item_35 ?_
        refine lv_icmp_lt (tgt := 44) hx hb dX10_item_38 (by decide) (fun c_65 => ?_) (fun c_65 => ?_)
        · skip
          have c_65 : a1.toInt < gI.toInt := q_lt c_65
          refine lv_iload_n hx hb dX10_item_44 rfl (lv_at hl 2 rfl) ?_
          refine lv_if_ne (tgt := 57) hx hb dX10_item_45 (by decide) (fun c_66 => ?_) (fun c_66 => ?_)
          · skip
            have c_66 : a2.toInt ≠ 0 := q_ne c_66
            refine lv_pc (pc2 := 57) rfl ?_
            refine lv_iload_n hx hb dX10_item_57 rfl (lv_at hl 2 rfl) ?_
            refine lv_iconst (v := 1) hx hb dX10_item_58 (by decide) ?_
            refine lv_icmp_ne (tgt := 71) hx hb dX10_item_59 (by decide) (fun c_67 => ?_) (fun c_67 => ?_)
            · skip
              have c_67 : a2.toInt ≠ 1 := q_ne c_67
              refine lv_iload_n hx hb dX10_item_71 rfl (lv_at hl 2 rfl) ?_
              refine lv_iconst (v := 2) hx hb dX10_item_72 (by decide) ?_
              refine lv_icmp_ne (tgt := 85) hx hb dX10_item_73 (by decide) (fun c_68 => ?_) (fun c_68 => ?_)
              · skip
                have c_68 : a2.toInt ≠ 2 := q_ne c_68
                refine lv_aload_n hx hb dX10_item_85 rfl (lv_at hl 0 rfl) ?_
                refine va_get (D := D) (ci := 9) (v := .ref r_24) (C := RX10) (T := TX10) (N := 36) hx hb hts in10 hown hK (va_one at_63) 0 rfl rfl 7 (by decide) (hts (.fieldLink RX10 22 "RiverModelModel" "number" "[I") (List.mem_of_getElem? (i := 8) rfl)) (fun _ h9 => h9) rfl dX10_item_86 ?_
                refine lv_pc (pc2 := 89) rfl ?_
                refine lv_iconst (v := 3) hx hb dX10_item_89 (by decide) ?_
                refine lv_iload_n hx hb dX10_item_90 rfl (lv_at hl 1 rfl) ?_
                refine lv_imul hx hb dX10_item_91 ?_
                refine lv_topi (fun x_69 e_70 => ?_)
                have i_x_69 : x_69.toInt = 3 * a1.toInt := by rw [e_70]; exact (q_mul (by rw [show (3 : Int32).toInt = 3 by decide]; omega) (by rw [show (3 : Int32).toInt = 3 by decide]; omega)).trans (by rw [show (3 : Int32).toInt = 3 by decide])
                refine lv_iload_n hx hb dX10_item_92 rfl (lv_at hl 2 rfl) ?_
                refine lv_iadd hx hb dX10_item_93 ?_
                refine lv_topi (fun x_71 e_72 => ?_)
                have i_x_71 : x_71.toInt = x_69.toInt + a2.toInt := by rw [e_72]; exact (q_add (by omega) (by omega)).trans (by rfl)
                refine lv_iconst (v := 3) hx hb dX10_item_94 (by decide) ?_
                refine lv_isub hx hb dX10_item_95 ?_
                refine lv_topi (fun x_73 e_74 => ?_)
                have i_x_73 : x_73.toInt = x_71.toInt - 3 := by rw [e_74]; exact (q_sub (by rw [show (3 : Int32).toInt = 3 by decide]; omega) (by rw [show (3 : Int32).toInt = 3 by decide]; omega)).trans (by rw [show (3 : Int32).toInt = 3 by decide])
                have at_75 := mF_o45 hG h_25
                have b_76 : vp_in x_73 360 := (q_in (by omega) (by omega))
                refine va_iald hx hb hK (va_one at_75) 0 0 rfl rfl b_76 dX10_item_96 ?_
                refine lv_topi (fun x_77 e_78 => ?_)
                have w_x_77 : x_77 = N (x_73.toInt).toNat := by rw [e_78]; exact congrArg (fun q : Int => N q.toNat) (show x_73.toInt = x_73.toInt by omega)
                have i_x_77 : x_77.toInt = (N (x_73.toInt).toNat).toInt := by rw [w_x_77]
                refine lv_pc (pc2 := 97) rfl ?_
                exact ty_iret hx hb hr hlk hG hS True.intro dX10_item_97
              · skip
                have c_68 : a2.toInt = 2 := q_eq c_68
                refine lv_aload_n hx hb dX10_item_76 rfl (lv_at hl 0 rfl) ?_
                refine va_get (D := D) (ci := 9) (v := .ref r_22) (C := RX10) (T := TX10) (N := 36) hx hb hts in10 hown hK (va_one at_63) 0 rfl rfl 6 (by decide) (hts (.fieldLink RX10 19 "RiverModelModel" "second" "[I") (List.mem_of_getElem? (i := 9) rfl)) (fun _ h9 => h9) rfl dX10_item_77 ?_
                refine lv_iload_n hx hb dX10_item_80 rfl (lv_at hl 1 rfl) ?_
                have at_79 := mF_o44 hG h_23
                have b_80 : vp_in a1 120 := (q_in (by omega) (by omega))
                refine va_iald hx hb hK (va_one at_79) 0 0 rfl rfl b_80 dX10_item_81 ?_
                refine lv_topi (fun x_81 e_82 => ?_)
                have w_x_81 : x_81 = S (a1.toInt).toNat := by rw [e_82]; exact congrArg (fun q : Int => S q.toNat) (show a1.toInt = a1.toInt by omega)
                have i_x_81 : x_81.toInt = (S (a1.toInt).toNat).toInt := by rw [w_x_81]
                refine lv_goto (tgt := 97) hx hb dX10_item_82 (by decide) ?_
                exact ty_iret hx hb hr hlk hG hS True.intro dX10_item_97
            · skip
              have c_67 : a2.toInt = 1 := q_eq c_67
              refine lv_aload_n hx hb dX10_item_62 rfl (lv_at hl 0 rfl) ?_
              refine lv_pc (pc2 := 63) rfl ?_
              refine va_get (D := D) (ci := 9) (v := .ref r_20) (C := RX10) (T := TX10) (N := 36) hx hb hts in10 hown hK (va_one at_63) 0 rfl rfl 5 (by decide) (hts (.fieldLink RX10 16 "RiverModelModel" "first" "[I") (List.mem_of_getElem? (i := 10) rfl)) (fun _ h9 => h9) rfl dX10_item_63 ?_
              refine lv_iload_n hx hb dX10_item_66 rfl (lv_at hl 1 rfl) ?_
              have at_83 := mF_o43 hG h_21
              have b_84 : vp_in a1 120 := (q_in (by omega) (by omega))
              refine va_iald hx hb hK (va_one at_83) 0 0 rfl rfl b_84 dX10_item_67 ?_
              refine lv_topi (fun x_85 e_86 => ?_)
              have w_x_85 : x_85 = F (a1.toInt).toNat := by rw [e_86]; exact congrArg (fun q : Int => F q.toNat) (show a1.toInt = a1.toInt by omega)
              have i_x_85 : x_85.toInt = (F (a1.toInt).toNat).toInt := by rw [w_x_85]
              refine lv_goto (tgt := 97) hx hb dX10_item_68 (by decide) ?_
              exact ty_iret hx hb hr hlk hG hS True.intro dX10_item_97
          · skip
            have c_66 : a2.toInt = 0 := q_eq c_66
            refine lv_aload_n hx hb dX10_item_48 rfl (lv_at hl 0 rfl) ?_
            refine va_get (D := D) (ci := 9) (v := .ref r_18) (C := RX10) (T := TX10) (N := 36) hx hb hts in10 hown hK (va_one at_63) 0 rfl rfl 4 (by decide) (hts (.fieldLink RX10 13 "RiverModelModel" "kind" "[I") (List.mem_of_getElem? (i := 11) rfl)) (fun _ h9 => h9) rfl dX10_item_49 ?_
            refine lv_iload_n hx hb dX10_item_52 rfl (lv_at hl 1 rfl) ?_
            refine lv_pc (pc2 := 53) rfl ?_
            have at_87 := mF_o42 hG h_19
            have b_88 : vp_in a1 120 := (q_in (by omega) (by omega))
            refine va_iald hx hb hK (va_one at_87) 0 0 rfl rfl b_88 dX10_item_53 ?_
            refine lv_topi (fun x_89 e_90 => ?_)
            have w_x_89 : x_89 = K (a1.toInt).toNat := by rw [e_90]; exact congrArg (fun q : Int => K q.toNat) (show a1.toInt = a1.toInt by omega)
            have i_x_89 : x_89.toInt = (K (a1.toInt).toNat).toInt := by rw [w_x_89]
            refine lv_goto (tgt := 97) hx hb dX10_item_54 (by decide) ?_
            exact ty_iret hx hb hr hlk hG hS True.intro dX10_item_97
        · skip
          have c_65 : gI.toInt ≤ a1.toInt := q_nlt c_65
          refine lv_bipush (v := (-2)) hx hb dX10_item_41 (by decide) ?_
          have zi_m2 : ((-2) : Int32).toInt = (-2) := by decide
          exact ty_iret hx hb hr hlk hG hS True.intro dX10_item_43
    · skip
      refine lv_if_ne (tgt := 26) hx hb dX10_item_21 (by decide) (fun q => absurd rfl q) (fun _ => ?_)
      refine lv_iconst (v := (-1)) hx hb dX10_item_24 (by decide) ?_
      have zi_m1 : ((-1) : Int32).toInt = (-1) := by decide
      exact ty_iret hx hb hr hlk hG hS True.intro dX10_item_25
  · skip
    refine lv_pc (pc2 := 9) rfl ?_
    refine lv_if_eq (tgt := 24) hx hb dX10_item_9 (by decide) (fun _ => ?_) (fun q => absurd (by decide) q)
    refine lv_iconst (v := (-1)) hx hb dX10_item_24 (by decide) ?_
    have zi_m1 : ((-1) : Int32).toInt = (-1) := by decide
    exact ty_iret hx hb hr hlk hG hS True.intro dX10_item_25

def uX10_weather : List Cond := .code yX10_weather cX10_weather 5 (some .int) :: ([.methodLink RX10 85 yX10_in, .static yX10_in, .initialized RX10, .constantLong RX10 198 (95), .constantLong RX10 103 (10000), .constantLong RX10 200 (-30), .constantLong RX10 202 (40), .fieldLink RX10 25 "RiverModelModel" "weather" "[I", .code yX10_in cX10_in 6 (some .boolean)] ++ wsX100)
set_option maxRecDepth 20000 in
theorem gu_X10_weather_X10_in_85 : GoodIn uX10_weather (va_wsS RX10 85 yX10_in uX10_in) := goodIn_r _ [1, 2, 3, 9] rfl (by decide +kernel)
set_option maxHeartbeats 4000000 in
set_option maxRecDepth 100000 in
theorem m_X10_weather (l : Launch) (D : va_G) (t : Nat → Nat) (cI cL cC : ClassId) (gC : Int32) (gE : Int32) (gW : Nat → Int32) (gA : Nat → Int32) (gT : Nat → Int32) (gI : Int32) (gS : Int32) (gM : Int32) (K : Nat → Int32) (F : Nat → Int32) (S : Nat → Int32) (N : Nat → Int32) (gH : Int) (gJ : Int) (ge : Int32) (gk : Int32) (gf : Int32) (gs : Int32) (gg : Int32) (gr : Int32) (RN : Nat → Int32) (a0 : Nat) (a1 : Int32) (a2 : Int32) (a3 : Int32) (a4 : Int32) (uq : ∀ b c : Nat, t b = t c → t b ≠ 0 → b = c) (hC0 : 0 ≤ gC.toInt) (hC4 : gC.toInt ≤ 400) (hI0 : 0 ≤ gI.toInt) (hI4 : gI.toInt ≤ 40) (hH0 : 0 ≤ gH) (hH9 : gH ≤ 96) (hm0 : 0 ≤ gM.toInt) (hm3 : gM.toInt ≤ 3) (hO0 : okM K F S N 0 gI.toInt) (hW : swM gS K F S N gI.toInt) (k_a0 : t a0 = 40) : tM l yX10_weather uX10_weather 1 25 D (mF cI cL cC gC gE gW gA gT gI gS gM K F S N gH gJ ge gk gf gs gg gr RN) (mF cI cL cC gC gE gW gA gT gI gS gM K F S N gH gJ ge gk gf gs gg gr RN) t cI cL cC [.ref a0, .int a1, .int a2, .int a3, .int a4] wWe (pI (fun r => r = aww a1 a2 a3 a4)) := by
  refine tM.ofW (cc := cX10_weather) (maxL := 5) (ret := (some .int)) (by decide) rfl (Nat.le_of_ble_eq_true rfl) ?_
  intro p e s m below meth c hx hb hr hml hown hts hlk H locs hG hK hE hS ls hl
  have hl : lv_has ls 5 [(0, .ref a0), (1, .int a1), (2, .int a2), (3, .int a3), (4, .int a4)] := hl
  have in10 : ∀ w ∈ wsX100, w ∈ uX10_weather := fun w h => List.mem_cons_of_mem _ (List.mem_append_right _ h)
  refine lv_iload_n hx hb dX10_weather_0 rfl (lv_at hl 1 rfl) ?_
  refine lv_i2l (v := a1.toInt64) hx hb dX10_weather_1 rfl ?_
  refine lv_lconst (v := 0) hx hb dX10_weather_2 (by decide) ?_
  refine lv_lconst (v := 1) hx hb dX10_weather_3 (by decide) ?_
  have zl_0 : (0 : Int64).toInt = 0 := by decide
  have zl_1 : (1 : Int64).toInt = 1 := by decide
  refine ty_calli (W.runS (As := [.long a1.toInt64, .long 0, .long 1]) (rest := []) ⟨hx, hb, hml, hown, hts⟩ (m_X10_in l D t cI cL cC gC gE gW gA gT gI gS gM K F S N gH gJ ge gk gf gs gg gr RN a1.toInt64 0 1 a1.toInt 0 1 uq (q_i2l _) (by decide) (by decide) ) (va_cwS 3 hts gu_X10_weather_X10_in_85 rfl rfl rfl (by decide +kernel) ⟨Nat.le_of_ble_eq_true rfl, Nat.le_of_ble_eq_true rfl⟩) (tP_S hG hE) rfl rfl hl.1 rfl (lv_room (Nat.le_of_ble_eq_true rfl)) dX10_weather_4 ⟨Nat.le_of_ble_eq_true rfl, Nat.le_of_ble_eq_true rfl⟩) hS (fun k h => by simp [wr0] at h) (fun r_1 H locs hp_2 hG hS o_3 => ?_)
  have hp_2 : (r_1 = 1 ∧ 0 ≤ a1.toInt ∧ a1.toInt ≤ 1) ∨ (r_1 = 0 ∧ (a1.toInt < 0 ∨ 1 < a1.toInt)) := hp_2
  rcases hp_2 with ⟨rfl, p_5, p_6⟩ | ⟨rfl, p_7⟩
  · skip
    refine lv_if_eq (tgt := 49) hx hb dX10_weather_7 (by decide) (fun q => absurd q (by decide)) (fun _ => ?_)
    refine lv_iload_n hx hb dX10_weather_10 rfl (lv_at hl 2 rfl) ?_
    refine lv_pc (pc2 := 11) rfl ?_
    refine lv_i2l (v := a2.toInt64) hx hb dX10_weather_11 rfl ?_
    refine lv_lconst (v := 0) hx hb dX10_weather_12 (by decide) ?_
    refine lv_ldc2 hx hb hown (hts (.constantLong RX10 198 (95)) (List.mem_of_getElem? (i := 4) rfl)) dX10_weather_13 ?_
    have zl_95 : (95 : Int64).toInt = 95 := by decide
    refine ty_calli (W.runS (As := [.long a2.toInt64, .long 0, .long 95]) (rest := []) ⟨hx, hb, hml, hown, hts⟩ (m_X10_in l D t cI cL cC gC gE gW gA gT gI gS gM K F S N gH gJ ge gk gf gs gg gr RN a2.toInt64 0 95 a2.toInt 0 95 uq (q_i2l _) (by decide) (by decide) ) (va_cwS 3 hts gu_X10_weather_X10_in_85 rfl rfl rfl (by decide +kernel) ⟨Nat.le_of_ble_eq_true rfl, Nat.le_of_ble_eq_true rfl⟩) (tP_S hG hE) rfl rfl hl.1 rfl (lv_room (Nat.le_of_ble_eq_true rfl)) dX10_weather_16 ⟨Nat.le_of_ble_eq_true rfl, Nat.le_of_ble_eq_true rfl⟩) hS (fun k h => by simp [wr0] at h) (fun r_8 H locs hp_9 hG hS o_10 => ?_)
    have hp_9 : (r_8 = 1 ∧ 0 ≤ a2.toInt ∧ a2.toInt ≤ 95) ∨ (r_8 = 0 ∧ (a2.toInt < 0 ∨ 95 < a2.toInt)) := hp_9
    rcases hp_9 with ⟨rfl, p_12, p_13⟩ | ⟨rfl, p_14⟩
    · skip
      refine lv_if_eq (tgt := 49) hx hb dX10_weather_19 (by decide) (fun q => absurd q (by decide)) (fun _ => ?_)
      refine lv_iload_n hx hb dX10_weather_22 rfl (lv_at hl 3 rfl) ?_
      refine lv_i2l (v := a3.toInt64) hx hb dX10_weather_23 rfl ?_
      refine lv_lconst (v := 0) hx hb dX10_weather_24 (by decide) ?_
      refine lv_pc (pc2 := 25) rfl ?_
      refine lv_ldc2 hx hb hown (hts (.constantLong RX10 103 (10000)) (List.mem_of_getElem? (i := 5) rfl)) dX10_weather_25 ?_
      have zl_10000 : (10000 : Int64).toInt = 10000 := by decide
      refine ty_calli (W.runS (As := [.long a3.toInt64, .long 0, .long 10000]) (rest := []) ⟨hx, hb, hml, hown, hts⟩ (m_X10_in l D t cI cL cC gC gE gW gA gT gI gS gM K F S N gH gJ ge gk gf gs gg gr RN a3.toInt64 0 10000 a3.toInt 0 10000 uq (q_i2l _) (by decide) (by decide) ) (va_cwS 3 hts gu_X10_weather_X10_in_85 rfl rfl rfl (by decide +kernel) ⟨Nat.le_of_ble_eq_true rfl, Nat.le_of_ble_eq_true rfl⟩) (tP_S hG hE) rfl rfl hl.1 rfl (lv_room (Nat.le_of_ble_eq_true rfl)) dX10_weather_28 ⟨Nat.le_of_ble_eq_true rfl, Nat.le_of_ble_eq_true rfl⟩) hS (fun k h => by simp [wr0] at h) (fun r_15 H locs hp_16 hG hS o_17 => ?_)
      have hp_16 : (r_15 = 1 ∧ 0 ≤ a3.toInt ∧ a3.toInt ≤ 10000) ∨ (r_15 = 0 ∧ (a3.toInt < 0 ∨ 10000 < a3.toInt)) := hp_16
      rcases hp_16 with ⟨rfl, p_19, p_20⟩ | ⟨rfl, p_21⟩
      · skip
        refine lv_if_eq (tgt := 49) hx hb dX10_weather_31 (by decide) (fun q => absurd q (by decide)) (fun _ => ?_)
        refine lv_iload hx hb dX10_weather_34 (lv_at hl 4 rfl) ?_
        refine lv_i2l (v := a4.toInt64) hx hb dX10_weather_36 rfl ?_
        refine lv_ldc2 hx hb hown (hts (.constantLong RX10 200 (-30)) (List.mem_of_getElem? (i := 6) rfl)) dX10_weather_37 ?_
        refine lv_ldc2 hx hb hown (hts (.constantLong RX10 202 (40)) (List.mem_of_getElem? (i := 7) rfl)) dX10_weather_40 ?_
        have zl_m30 : ((-30) : Int64).toInt = (-30) := by decide
        have zl_40 : (40 : Int64).toInt = 40 := by decide
        refine ty_calli (W.runS (As := [.long a4.toInt64, .long (-30), .long 40]) (rest := []) ⟨hx, hb, hml, hown, hts⟩ (m_X10_in l D t cI cL cC gC gE gW gA gT gI gS gM K F S N gH gJ ge gk gf gs gg gr RN a4.toInt64 (-30) 40 a4.toInt (-30) 40 uq (q_i2l _) (by decide) (by decide) ) (va_cwS 3 hts gu_X10_weather_X10_in_85 rfl rfl rfl (by decide +kernel) ⟨Nat.le_of_ble_eq_true rfl, Nat.le_of_ble_eq_true rfl⟩) (tP_S hG hE) rfl rfl hl.1 rfl (lv_room (Nat.le_of_ble_eq_true rfl)) dX10_weather_43 ⟨Nat.le_of_ble_eq_true rfl, Nat.le_of_ble_eq_true rfl⟩) hS (fun k h => by simp [wr0] at h) (fun r_22 H locs hp_23 hG hS o_24 => ?_)
        have hp_23 : (r_22 = 1 ∧ (-30) ≤ a4.toInt ∧ a4.toInt ≤ 40) ∨ (r_22 = 0 ∧ (a4.toInt < (-30) ∨ 40 < a4.toInt)) := hp_23
        rcases hp_23 with ⟨rfl, p_26, p_27⟩ | ⟨rfl, p_28⟩
        · skip
          refine lv_pc (pc2 := 46) rfl ?_
          refine lv_if_ne (tgt := 51) hx hb dX10_weather_46 (by decide) (fun _ => ?_) (fun q => absurd q (by decide))
          refine lv_aload_n hx hb dX10_weather_51 rfl (lv_at hl 0 rfl) ?_
          obtain ⟨r_29, v_31, r_32, r_34, r_36, r_38, r_40, r_42, r_44, r_46, r_48, r_50, r_52, r_54, r_56, r_58, r_60, r_62, r_64, r_66, r_68, r_70, r_72, v_74, r_75, at_77, h_30, h_33, h_35, h_37, h_39, h_41, h_43, h_45, h_47, h_49, h_51, h_53, h_55, h_57, h_59, h_61, h_63, h_65, h_67, h_69, h_71, h_73, h_76⟩ := mF_o40 hG k_a0
          refine va_get (D := D) (ci := 9) (v := .ref r_40) (C := RX10) (T := TX10) (N := 36) hx hb hts in10 hown hK (va_one at_77) 0 rfl rfl 9 (by decide) (hts (.fieldLink RX10 25 "RiverModelModel" "weather" "[I") (List.mem_of_getElem? (i := 8) rfl)) (fun _ h9 => h9) rfl dX10_weather_52 ?_
          refine lv_sipush (v := 192) hx hb dX10_weather_55 (by decide) ?_
          refine lv_iload_n hx hb dX10_weather_58 rfl (lv_at hl 1 rfl) ?_
          refine lv_imul hx hb dX10_weather_59 ?_
          refine lv_topi (fun x_78 e_79 => ?_)
          have i_x_78 : x_78.toInt = 192 * a1.toInt := by rw [e_79]; exact (q_mul (by rw [show (192 : Int32).toInt = 192 by decide]; omega) (by rw [show (192 : Int32).toInt = 192 by decide]; omega)).trans (by rw [show (192 : Int32).toInt = 192 by decide])
          refine lv_iconst (v := 2) hx hb dX10_weather_60 (by decide) ?_
          refine lv_iload_n hx hb dX10_weather_61 rfl (lv_at hl 2 rfl) ?_
          refine lv_pc (pc2 := 62) rfl ?_
          refine lv_imul hx hb dX10_weather_62 ?_
          refine lv_topi (fun x_80 e_81 => ?_)
          have i_x_80 : x_80.toInt = 2 * a2.toInt := by rw [e_81]; exact (q_mul (by rw [show (2 : Int32).toInt = 2 by decide]; omega) (by rw [show (2 : Int32).toInt = 2 by decide]; omega)).trans (by rw [show (2 : Int32).toInt = 2 by decide])
          refine lv_iadd hx hb dX10_weather_63 ?_
          refine lv_topi (fun x_82 e_83 => ?_)
          have i_x_82 : x_82.toInt = x_78.toInt + x_80.toInt := by rw [e_83]; exact (q_add (by omega) (by omega)).trans (by rfl)
          refine lv_iload_n hx hb dX10_weather_64 rfl (lv_at hl 3 rfl) ?_
          obtain ⟨f_84, at_85⟩ := mF_o46 hG h_41
          have b_86 : vp_in x_82 384 := (q_in (by omega) (by omega))
          refine ty_iast (F2 := (mF cI cL cC gC gE gW gA gT gI gS gM K F S N gH gJ ge gk gf gs gg gr RN)) hx hb hK hG hS 0 at_85 (by rw [h_41]; rfl) rfl b_86 (by rw [h_41]; exact ⟨_, rfl⟩) tFF dX10_weather_65 (fun H locs hG hS at_87 o_88 => ?_)
          have at_77 := va_at.keptK at_77 o_88 h_41 k_a0 rfl
          refine lv_aload_n hx hb dX10_weather_66 rfl (lv_at hl 0 rfl) ?_
          refine va_get (D := D) (ci := 9) (v := .ref r_40) (C := RX10) (T := TX10) (N := 36) hx hb hts in10 hown hK (va_one at_77) 0 rfl rfl 9 (by decide) (hts (.fieldLink RX10 25 "RiverModelModel" "weather" "[I") (List.mem_of_getElem? (i := 8) rfl)) (fun _ h9 => h9) rfl dX10_weather_67 ?_
          refine lv_sipush (v := 192) hx hb dX10_weather_70 (by decide) ?_
          refine lv_iload_n hx hb dX10_weather_73 rfl (lv_at hl 1 rfl) ?_
          refine lv_pc (pc2 := 74) rfl ?_
          refine lv_imul hx hb dX10_weather_74 ?_
          refine lv_topi (fun x_89 e_90 => ?_)
          have i_x_89 : x_89.toInt = 192 * a1.toInt := by rw [e_90]; exact (q_mul (by rw [show (192 : Int32).toInt = 192 by decide]; omega) (by rw [show (192 : Int32).toInt = 192 by decide]; omega)).trans (by rw [show (192 : Int32).toInt = 192 by decide])
          refine lv_iconst (v := 2) hx hb dX10_weather_75 (by decide) ?_
          refine lv_iload_n hx hb dX10_weather_76 rfl (lv_at hl 2 rfl) ?_
          refine lv_imul hx hb dX10_weather_77 ?_
          refine lv_topi (fun x_91 e_92 => ?_)
          have i_x_91 : x_91.toInt = 2 * a2.toInt := by rw [e_92]; exact (q_mul (by rw [show (2 : Int32).toInt = 2 by decide]; omega) (by rw [show (2 : Int32).toInt = 2 by decide]; omega)).trans (by rw [show (2 : Int32).toInt = 2 by decide])
          refine lv_iadd hx hb dX10_weather_78 ?_
          refine lv_topi (fun x_93 e_94 => ?_)
          have i_x_93 : x_93.toInt = x_89.toInt + x_91.toInt := by rw [e_94]; exact (q_add (by omega) (by omega)).trans (by rfl)
          refine lv_iconst (v := 1) hx hb dX10_weather_79 (by decide) ?_
          refine lv_iadd hx hb dX10_weather_80 ?_
          refine lv_topi (fun x_95 e_96 => ?_)
          have i_x_95 : x_95.toInt = x_93.toInt + 1 := by rw [e_96]; exact (q_add (by rw [show (1 : Int32).toInt = 1 by decide]; omega) (by rw [show (1 : Int32).toInt = 1 by decide]; omega)).trans (by rw [show (1 : Int32).toInt = 1 by decide])
          refine lv_iload hx hb dX10_weather_81 (lv_at hl 4 rfl) ?_
          refine lv_pc (pc2 := 83) rfl ?_
          obtain ⟨f_97, at_98⟩ := mF_o46 hG h_41
          have b_99 : vp_in x_95 384 := (q_in (by omega) (by omega))
          refine ty_iast (F2 := (mF cI cL cC gC gE gW gA gT gI gS gM K F S N gH gJ ge gk gf gs gg gr RN)) hx hb hK hG hS 0 at_98 (by rw [h_41]; rfl) rfl b_99 (by rw [h_41]; exact ⟨_, rfl⟩) tFF dX10_weather_83 (fun H locs hG hS at_100 o_101 => ?_)
          have at_77 := va_at.keptK at_77 o_101 h_41 k_a0 rfl
          refine lv_iconst (v := 0) hx hb dX10_weather_84 (by decide) ?_
          have zi_0 : (0 : Int32).toInt = 0 := by decide
          exact ty_iret hx hb hr hlk hG hS (by show (0 : Int32) = aww a1 a2 a3 a4; simp only [aww]; first | (rw [if_pos (by omega)]; done) | (rw [if_neg (by omega)]; done) | (rw [if_neg (by omega), if_pos (by omega)]; done) | (rw [if_neg (by omega), if_neg (by omega)]; done)) dX10_weather_85
        · skip
          refine lv_if_ne (tgt := 51) hx hb dX10_weather_46 (by decide) (fun q => absurd rfl q) (fun _ => ?_)
          refine lv_iconst (v := (-1)) hx hb dX10_weather_49 (by decide) ?_
          have zi_m1 : ((-1) : Int32).toInt = (-1) := by decide
          exact ty_iret hx hb hr hlk hG hS (by show ((-1) : Int32) = aww a1 a2 a3 a4; simp only [aww]; first | (rw [if_pos (by omega)]; done) | (rw [if_neg (by omega)]; done) | (rw [if_neg (by omega), if_pos (by omega)]; done) | (rw [if_neg (by omega), if_neg (by omega)]; done)) dX10_weather_50
      · skip
        refine lv_if_eq (tgt := 49) hx hb dX10_weather_31 (by decide) (fun _ => ?_) (fun q => absurd (by decide) q)
        refine lv_iconst (v := (-1)) hx hb dX10_weather_49 (by decide) ?_
        refine lv_pc (pc2 := 50) rfl ?_
        have zi_m1 : ((-1) : Int32).toInt = (-1) := by decide
        exact ty_iret hx hb hr hlk hG hS (by show ((-1) : Int32) = aww a1 a2 a3 a4; simp only [aww]; first | (rw [if_pos (by omega)]; done) | (rw [if_neg (by omega)]; done) | (rw [if_neg (by omega), if_pos (by omega)]; done) | (rw [if_neg (by omega), if_neg (by omega)]; done)) dX10_weather_50
    · skip
      refine lv_if_eq (tgt := 49) hx hb dX10_weather_19 (by decide) (fun _ => ?_) (fun q => absurd (by decide) q)
      refine lv_iconst (v := (-1)) hx hb dX10_weather_49 (by decide) ?_
      have zi_m1 : ((-1) : Int32).toInt = (-1) := by decide
      exact ty_iret hx hb hr hlk hG hS (by show ((-1) : Int32) = aww a1 a2 a3 a4; simp only [aww]; first | (rw [if_pos (by omega)]; done) | (rw [if_neg (by omega)]; done) | (rw [if_neg (by omega), if_pos (by omega)]; done) | (rw [if_neg (by omega), if_neg (by omega)]; done)) dX10_weather_50
  · skip
    refine lv_if_eq (tgt := 49) hx hb dX10_weather_7 (by decide) (fun _ => ?_) (fun q => absurd (by decide) q)
    refine lv_iconst (v := (-1)) hx hb dX10_weather_49 (by decide) ?_
    have zi_m1 : ((-1) : Int32).toInt = (-1) := by decide
    exact ty_iret hx hb hr hlk hG hS (by show ((-1) : Int32) = aww a1 a2 a3 a4; simp only [aww]; first | (rw [if_pos (by omega)]; done) | (rw [if_neg (by omega)]; done) | (rw [if_neg (by omega), if_pos (by omega)]; done) | (rw [if_neg (by omega), if_neg (by omega)]; done)) dX10_weather_50

def uX10_anew : List Cond := .code yX10_anew cX10_anew 2 (some .int) :: ([.fieldLink RX10 173 "RiverModelModel" "isBuilt" "Z", .fieldLink RX10 28 "RiverModelModel" "m" "[J", .methodLink RX10 186 yX10_begins, .instanceMethod yX10_begins, .selects RX10 yX10_begins yX10_begins, .initialized RX10, .code yX10_begins cX10_begins 4 none, .methodLink RX10 183 yX10_startOf, .instanceMethod yX10_startOf, .selects RX10 yX10_startOf yX10_startOf, .methodLink RX10 208 yX10_isStore, .instanceMethod yX10_isStore, .selects RX10 yX10_isStore yX10_isStore, .fieldLink RX10 71 "RiverModelModel" "startB" "[I", .constantLong RX10 204 (224), .constantLong RX10 206 (227), .methodLink RX10 85 yX10_in, .static yX10_in, .constantLong RX10 196 (5), .code yX10_startOf cX10_startOf 4 (some .int), .methodLink RX10 166 yX10_storeAt, .instanceMethod yX10_storeAt, .selects RX10 yX10_storeAt yX10_storeAt, .fieldLink RX10 22 "RiverModelModel" "number" "[I", .code yX10_storeAt cX10_storeAt 5 (some .int), .fieldLink RX10 163 "RiverModelModel" "items" "I", .fieldLink RX10 13 "RiverModelModel" "kind" "[I", .fieldLink RX10 16 "RiverModelModel" "first" "[I", .code yX10_isStore cX10_isStore 2 (some .boolean), .code yX10_in cX10_in 6 (some .boolean)] ++ wsX100)
set_option maxRecDepth 20000 in
theorem gu_X10_anew_X10_begins_186 : GoodIn uX10_anew (wsV RX10 186 RX10 yX10_begins uX10_begins) := goodIn_r _ [3, 4, 5, 6, 7, 2, 8, 9, 10, 6, 11, 12, 13, 14, 15, 16, 17, 18, 19, 20, 21, 22, 23, 24, 25, 26, 27, 28, 29, 30, 31, 32, 33, 34, 35, 36, 37, 38, 39, 40, 41, 42, 43, 44, 45, 46, 47, 48, 49, 50, 51, 52, 53, 54, 55, 56, 57, 58, 59, 60, 61, 62, 63, 64, 65, 66] rfl (by decide +kernel)
set_option maxHeartbeats 4000000 in
set_option maxRecDepth 100000 in
theorem m_X10_anew (l : Launch) (D : va_G) (t : Nat → Nat) (cI cL cC : ClassId) (gC : Int32) (gE : Int32) (gW : Nat → Int32) (gA : Nat → Int32) (gT : Nat → Int32) (gI : Int32) (gS : Int32) (gM : Int32) (K : Nat → Int32) (F : Nat → Int32) (S : Nat → Int32) (N : Nat → Int32) (gH : Int) (gJ : Int) (ge : Int32) (gk : Int32) (gf : Int32) (gs : Int32) (gg : Int32) (gr : Int32) (RN : Nat → Int32) (a0 : Nat) (uq : ∀ b c : Nat, t b = t c → t b ≠ 0 → b = c) (hC0 : 0 ≤ gC.toInt) (hC4 : gC.toInt ≤ 400) (hI0 : 0 ≤ gI.toInt) (hI4 : gI.toInt ≤ 40) (hH0 : 0 ≤ gH) (hH9 : gH ≤ 96) (hm0 : 0 ≤ gM.toInt) (hm3 : gM.toInt ≤ 3) (hO0 : okM K F S N 0 gI.toInt) (hW : swM gS K F S N gI.toInt) (k_a0 : t a0 = 40) : tMx (Z := (Int)) l yX10_anew uX10_anew 3 70 D (mF cI cL cC gC gE gW gA gT gI gS gM K F S N gH gJ ge gk gf gs gg gr RN) (fun z => (mF cI cL cC gC gE gW gA gT gI gS gM K F S N z gJ ge gk gf gs gg gr RN)) t cI cL cC [.ref a0] wm (xI (fun r (z : (Int)) => 0 ≤ z ∧ z ≤ 96)) := by
  refine tMx.ofW (cc := cX10_anew) (maxL := 2) (ret := (some .int)) (by decide) rfl (Nat.le_of_ble_eq_true rfl) ?_
  intro p e s m below meth c hx hb hr hml hown hts hlk H locs hG hK hE hS ls hl
  have hl : lv_has ls 2 [(0, .ref a0)] := hl
  have in10 : ∀ w ∈ wsX100, w ∈ uX10_anew := fun w h => List.mem_cons_of_mem _ (List.mem_append_right _ h)
  refine lv_aload_n hx hb dX10_anew_0 rfl (lv_at hl 0 rfl) ?_
  obtain ⟨r_1, v_3, r_4, r_6, r_8, r_10, r_12, r_14, r_16, r_18, r_20, r_22, r_24, r_26, r_28, r_30, r_32, r_34, r_36, r_38, r_40, r_42, r_44, v_46, r_47, at_49, h_2, h_5, h_7, h_9, h_11, h_13, h_15, h_17, h_19, h_21, h_23, h_25, h_27, h_29, h_31, h_33, h_35, h_37, h_39, h_41, h_43, h_45, h_48⟩ := mF_o40 hG k_a0
  refine va_get (D := D) (ci := 9) (v := .int v_3) (C := RX10) (T := TX10) (N := 36) hx hb hts in10 hown hK (va_one at_49) 0 rfl rfl 2 (by decide) (hts (.fieldLink RX10 173 "RiverModelModel" "isBuilt" "Z") (List.mem_of_getElem? (i := 1) rfl)) (fun _ h9 => h9) rfl dX10_anew_1 ?_
  refine lv_if_ne (tgt := 10) hx hb dX10_anew_4 (by decide) (fun c_50 => ?_) (fun c_50 => ?_)
  · skip
    have c_50 : v_3.toInt ≠ 0 := q_ne c_50
    refine lv_aload_n hx hb dX10_anew_10 rfl (lv_at hl 0 rfl) ?_
    refine va_get (D := D) (ci := 9) (v := .ref r_14) (C := RX10) (T := TX10) (N := 36) hx hb hts in10 hown hK (va_one at_49) 0 rfl rfl 10 (by decide) (hts (.fieldLink RX10 28 "RiverModelModel" "m" "[J") (List.mem_of_getElem? (i := 2) rfl)) (fun _ h9 => h9) rfl dX10_anew_11 ?_
    refine lv_sipush (v := 231) hx hb dX10_anew_14 (by decide) ?_
    obtain ⟨f_51, at_52, h_53⟩ := mF_o47 hG h_15
    have b_54 : vp_in 231 280 := (q_in (by decide) (by decide))
    refine va_lald hx hb hK (va_one at_52) 0 1 rfl rfl b_54 dX10_anew_17 ?_
    refine lv_topl (fun z_55 e_56 => ?_)
    have i_z_55 : z_55.toInt = gH := by rw [e_56]; exact gHr_ld h_53 (by decide)
    refine lv_pc (pc2 := 18) rfl ?_
    refine lv_l2i (v := z_55.toInt32) hx hb dX10_anew_18 rfl ?_
    refine lv_topi (fun x_57 e_58 => ?_)
    refine lv_istore_n (lv' := [(1, .int x_57), (0, .ref a0)]) hx hb dX10_anew_19 rfl hl (by decide) rfl (fun ls hl => ?_)
    refine lv_aload_n hx hb dX10_anew_20 rfl (lv_at hl 1 rfl) ?_
    refine lv_iconst (v := 0) hx hb dX10_anew_21 (by decide) ?_
    refine lv_iconst (v := 0) hx hb dX10_anew_22 (by decide) ?_
    have zi_0 : (0 : Int32).toInt = 0 := by decide
    refine tx_callv (W.runV (As := [.int 0, .int 0]) (rest := []) ⟨hx, hb, hml, hown, hts⟩ (m_X10_begins l D t cI cL cC gC gE gW gA gT gI gS gM K F S N gH gJ ge gk gf gs gg gr RN a0 0 0 0 uq (by omega) (by omega) (by omega) (by omega) (by omega) k_a0) (cwV 2 hts gu_X10_anew_X10_begins_186 rfl rfl rfl (by decide +kernel) ⟨Nat.le_of_ble_eq_true rfl, Nat.le_of_ble_eq_true rfl⟩) (tP_V hG hE at_49 rfl) rfl rfl hl.1 rfl (lv_room (Nat.le_of_ble_eq_true rfl)) dX10_anew_23 ⟨Nat.le_of_ble_eq_true rfl, Nat.le_of_ble_eq_true rfl⟩) hS (fun _ h => h) (fun gH_63 H locs hp_60 hG hS o_61 => ?_)
    have at_49 := va_at.keptC at_49 o_61 k_a0 rfl
    replace hG : tG D (mF cI cL cC gC gE gW gA gT gI gS gM K F S N gH_63 gJ ge gk gf gs gg gr RN) t H := hG
    have hp_60 : gH_63 = 0 := hp_60
    have p_64 := hp_60
    refine lv_iload_n hx hb dX10_anew_26 rfl (lv_at hl 0 rfl) ?_
    exact tx_iret (z := (gH_63)) hx hb hr hlk hG hS ⟨(by show 0 ≤ gH_63; omega), (by show gH_63 ≤ 96; omega)⟩ dX10_anew_27
  · skip
    have c_50 : v_3.toInt = 0 := q_eq c_50
    refine lv_pc (pc2 := 7) rfl ?_
    refine lv_bipush (v := (-2)) hx hb dX10_anew_7 (by decide) ?_
    have zi_m2 : ((-2) : Int32).toInt = (-2) := by decide
    exact tx_iret (z := (gH)) hx hb hr hlk hG hS ⟨(by show 0 ≤ gH; omega), (by show gH ≤ 96; omega)⟩ dX10_anew_9

def uX10_run : List Cond := .code yX10_run cX10_run 3 (some .int) :: ([.constantLong RX10 229 (96), .methodLink RX10 85 yX10_in, .static yX10_in, .initialized RX10, .fieldLink RX10 173 "RiverModelModel" "isBuilt" "Z", .fieldLink RX10 28 "RiverModelModel" "m" "[J", .methodLink RX10 231 yX10_goes, .instanceMethod yX10_goes, .selects RX10 yX10_goes yX10_goes, .code yX10_in cX10_in 6 (some .boolean), .code yX10_goes cX10_goes 4 none, .fieldLink RX10 25 "RiverModelModel" "weather" "[I", .methodLink RX10 225 yX10_passes, .instanceMethod yX10_passes, .selects RX10 yX10_passes yX10_passes, .code yX10_passes cX10_passes 12 none, .fieldLink RX10 163 "RiverModelModel" "items" "I", .fieldLink RX10 13 "RiverModelModel" "kind" "[I", .methodLink RX10 221 yX10_moves, .instanceMethod yX10_moves, .selects RX10 yX10_moves yX10_moves, .fieldLink RX10 16 "RiverModelModel" "first" "[I", .fieldLink RX10 19 "RiverModelModel" "second" "[I", .fieldLink RX10 22 "RiverModelModel" "number" "[I", .code yX10_moves cX10_moves 8 (some .long), .constantLong RX10 219 (10), .methodLink RX10 215 yX10_most, .instanceMethod yX10_most, .selects RX10 yX10_most yX10_most, .constantLong RX10 107 (100), .methodLink RX10 211 yX10_capacity, .instanceMethod yX10_capacity, .selects RX10 yX10_capacity yX10_capacity, .code yX10_most cX10_most 4 (some .long), .code yX10_capacity cX10_capacity 3 (some .long), .methodLink RX10 166 yX10_storeAt, .instanceMethod yX10_storeAt, .selects RX10 yX10_storeAt yX10_storeAt, .code yX10_storeAt cX10_storeAt 5 (some .int)] ++ wsX100)
set_option maxRecDepth 20000 in
theorem gu_X10_run_X10_in_85 : GoodIn uX10_run (va_wsS RX10 85 yX10_in uX10_in) := goodIn_r _ [2, 3, 4, 10] rfl (by decide +kernel)
set_option maxRecDepth 20000 in
theorem gu_X10_run_X10_goes_231 : GoodIn uX10_run (wsV RX10 231 RX10 yX10_goes uX10_goes) := goodIn_r _ [7, 8, 9, 4, 11, 6, 12, 13, 14, 15, 4, 16, 17, 18, 19, 20, 21, 22, 23, 24, 25, 26, 27, 28, 29, 30, 31, 32, 33, 34, 35, 36, 37, 38, 39, 40, 41, 42, 43, 44, 45, 46, 47, 48, 49, 50, 51, 52, 53, 54, 55, 56, 57, 58, 59, 60, 61, 62, 63, 64, 65, 66, 67, 68, 69, 70, 71, 72, 73, 74, 75] rfl (by decide +kernel)
set_option maxHeartbeats 4000000 in
set_option maxRecDepth 100000 in
theorem m_X10_run (l : Launch) (D : va_G) (t : Nat → Nat) (cI cL cC : ClassId) (gC : Int32) (gE : Int32) (gW : Nat → Int32) (gA : Nat → Int32) (gT : Nat → Int32) (gI : Int32) (gS : Int32) (gM : Int32) (K : Nat → Int32) (F : Nat → Int32) (S : Nat → Int32) (N : Nat → Int32) (gH : Int) (gJ : Int) (ge : Int32) (gk : Int32) (gf : Int32) (gs : Int32) (gg : Int32) (gr : Int32) (RN : Nat → Int32) (a0 : Nat) (a1 : Int32) (uq : ∀ b c : Nat, t b = t c → t b ≠ 0 → b = c) (hC0 : 0 ≤ gC.toInt) (hC4 : gC.toInt ≤ 400) (hI0 : 0 ≤ gI.toInt) (hI4 : gI.toInt ≤ 40) (hH0 : 0 ≤ gH) (hH9 : gH ≤ 96) (hm0 : 0 ≤ gM.toInt) (hm3 : gM.toInt ≤ 3) (hO0 : okM K F S N 0 gI.toInt) (hW : swM gS K F S N gI.toInt) (k_a0 : t a0 = 40) : tMx (Z := (Int)) l yX10_run uX10_run 5 127 D (mF cI cL cC gC gE gW gA gT gI gS gM K F S N gH gJ ge gk gf gs gg gr RN) (fun z => (mF cI cL cC gC gE gW gA gT gI gS gM K F S N z gJ ge gk gf gs gg gr RN)) t cI cL cC [.ref a0, .int a1] wm (xI (fun r (z : (Int)) => 0 ≤ z ∧ z ≤ 96)) := by
  refine tMx.ofW (cc := cX10_run) (maxL := 3) (ret := (some .int)) (by decide) rfl (Nat.le_of_ble_eq_true rfl) ?_
  intro p e s m below meth c hx hb hr hml hown hts hlk H locs hG hK hE hS ls hl
  have hl : lv_has ls 3 [(0, .ref a0), (1, .int a1)] := hl
  have in10 : ∀ w ∈ wsX100, w ∈ uX10_run := fun w h => List.mem_cons_of_mem _ (List.mem_append_right _ h)
  refine lv_iload_n hx hb dX10_run_0 rfl (lv_at hl 1 rfl) ?_
  refine lv_i2l (v := a1.toInt64) hx hb dX10_run_1 rfl ?_
  refine lv_lconst (v := 1) hx hb dX10_run_2 (by decide) ?_
  refine lv_ldc2 hx hb hown (hts (.constantLong RX10 229 (96)) (List.mem_of_getElem? (i := 1) rfl)) dX10_run_3 ?_
  have zl_1 : (1 : Int64).toInt = 1 := by decide
  have zl_96 : (96 : Int64).toInt = 96 := by decide
  refine ty_calli (W.runS (As := [.long a1.toInt64, .long 1, .long 96]) (rest := []) ⟨hx, hb, hml, hown, hts⟩ (m_X10_in l D t cI cL cC gC gE gW gA gT gI gS gM K F S N gH gJ ge gk gf gs gg gr RN a1.toInt64 1 96 a1.toInt 1 96 uq (q_i2l _) (by decide) (by decide) ) (va_cwS 3 hts gu_X10_run_X10_in_85 rfl rfl rfl (by decide +kernel) ⟨Nat.le_of_ble_eq_true rfl, Nat.le_of_ble_eq_true rfl⟩) (tP_S hG hE) rfl rfl hl.1 rfl (lv_room (Nat.le_of_ble_eq_true rfl)) dX10_run_6 ⟨Nat.le_of_ble_eq_true rfl, Nat.le_of_ble_eq_true rfl⟩) hS (fun k h => by simp [wr0] at h) (fun r_1 H locs hp_2 hG hS o_3 => ?_)
  have hp_2 : (r_1 = 1 ∧ 1 ≤ a1.toInt ∧ a1.toInt ≤ 96) ∨ (r_1 = 0 ∧ (a1.toInt < 1 ∨ 96 < a1.toInt)) := hp_2
  rcases hp_2 with ⟨rfl, p_5, p_6⟩ | ⟨rfl, p_7⟩
  · skip
    refine lv_if_ne (tgt := 14) hx hb dX10_run_9 (by decide) (fun _ => ?_) (fun q => absurd q (by decide))
    refine lv_aload_n hx hb dX10_run_14 rfl (lv_at hl 0 rfl) ?_
    refine lv_pc (pc2 := 15) rfl ?_
    obtain ⟨r_8, v_10, r_11, r_13, r_15, r_17, r_19, r_21, r_23, r_25, r_27, r_29, r_31, r_33, r_35, r_37, r_39, r_41, r_43, r_45, r_47, r_49, r_51, v_53, r_54, at_56, h_9, h_12, h_14, h_16, h_18, h_20, h_22, h_24, h_26, h_28, h_30, h_32, h_34, h_36, h_38, h_40, h_42, h_44, h_46, h_48, h_50, h_52, h_55⟩ := mF_o40 hG k_a0
    refine va_get (D := D) (ci := 9) (v := .int v_10) (C := RX10) (T := TX10) (N := 36) hx hb hts in10 hown hK (va_one at_56) 0 rfl rfl 2 (by decide) (hts (.fieldLink RX10 173 "RiverModelModel" "isBuilt" "Z") (List.mem_of_getElem? (i := 5) rfl)) (fun _ h9 => h9) rfl dX10_run_15 ?_
    refine lv_if_ne (tgt := 24) hx hb dX10_run_18 (by decide) (fun c_57 => ?_) (fun c_57 => ?_)
    · skip
      have c_57 : v_10.toInt ≠ 0 := q_ne c_57
      refine lv_aload_n hx hb dX10_run_24 rfl (lv_at hl 0 rfl) ?_
      refine va_get (D := D) (ci := 9) (v := .ref r_21) (C := RX10) (T := TX10) (N := 36) hx hb hts in10 hown hK (va_one at_56) 0 rfl rfl 10 (by decide) (hts (.fieldLink RX10 28 "RiverModelModel" "m" "[J") (List.mem_of_getElem? (i := 6) rfl)) (fun _ h9 => h9) rfl dX10_run_25 ?_
      refine lv_sipush (v := 231) hx hb dX10_run_28 (by decide) ?_
      obtain ⟨f_58, at_59, h_60⟩ := mF_o47 hG h_22
      have b_61 : vp_in 231 280 := (q_in (by decide) (by decide))
      refine va_lald hx hb hK (va_one at_59) 0 1 rfl rfl b_61 dX10_run_31 ?_
      refine lv_topl (fun z_62 e_63 => ?_)
      have i_z_62 : z_62.toInt = gH := by rw [e_63]; exact gHr_ld h_60 (by decide)
      refine lv_iload_n hx hb dX10_run_32 rfl (lv_at hl 1 rfl) ?_
      refine lv_i2l (v := a1.toInt64) hx hb dX10_run_33 rfl ?_
      refine lv_pc (pc2 := 34) rfl ?_
      refine lv_ladd hx hb dX10_run_34 ?_
      refine lv_topl (fun z_64 e_65 => ?_)
      have i_z_64 : z_64.toInt = z_62.toInt + a1.toInt := by rw [e_65]; exact (qL_add (by rw [q_i2l]; omega) (by rw [q_i2l]; omega)).trans (by first | (rw [q_i2l]; done) | (rw [q_i2l]; omega) | omega)
      refine lv_ldc2 hx hb hown (hts (.constantLong RX10 229 (96)) (List.mem_of_getElem? (i := 1) rfl)) dX10_run_35 ?_
      refine W.lcmp hx hb dX10_run_38 ?_
      refine lv_if_le (tgt := 45) hx hb dX10_run_39 (by decide) (fun c_66 => ?_) (fun c_66 => ?_)
      · skip
        have c_66 : z_64.toInt ≤ 96 := q_cmp_le c_66
        refine lv_iconst (v := 0) hx hb dX10_run_45 (by decide) ?_
        refine lv_istore_n (lv' := [(2, .int 0), (0, .ref a0), (1, .int a1)]) hx hb dX10_run_46 rfl hl (by decide) rfl (fun ls hl => ?_)
        refine lv_pc (pc2 := 47) rfl ?_
        refine lp_gen (fun WW67 hWW67 => ?_)
        have kx67 : ∀ (yk : Int32) (hm : Int) (H1 : Heap) (locs1 : List Loc) (ls1 : Array Slot), (0 ≤ yk.toInt) → (yk.toInt ≤ a1.toInt) → (hm = gH + yk.toInt) → tG D (mF cI cL cC gC gE gW gA gT gI gS gM K F S N hm gJ ge gk gf gs gg gr RN) t H1 → tF t wm s.heap H1 locs1 → lv_has ls1 3 [(2, .int yk), (0, .ref a0), (1, .int a1)] → WW67 H1 locs1 (F0 m 64 ls1 []) := by
          intro yk hm H locs ls v67_0 v67_1 v67_2 hG hS hl
          refine (hWW67 _ _ _).mpr ?_
          refine lv_aload_n hx hb dX10_run_64 rfl (lv_at hl 1 rfl) ?_
          obtain ⟨r_68, v_70, r_71, r_73, r_75, r_77, r_79, r_81, r_83, r_85, r_87, r_89, r_91, r_93, r_95, r_97, r_99, r_101, r_103, r_105, r_107, r_109, r_111, v_113, r_114, at_116, h_69, h_72, h_74, h_76, h_78, h_80, h_82, h_84, h_86, h_88, h_90, h_92, h_94, h_96, h_98, h_100, h_102, h_104, h_106, h_108, h_110, h_112, h_115⟩ := mF_o40 hG k_a0
          refine va_get (D := D) (ci := 9) (v := .ref r_81) (C := RX10) (T := TX10) (N := 36) hx hb hts in10 hown hK (va_one at_116) 0 rfl rfl 10 (by decide) (hts (.fieldLink RX10 28 "RiverModelModel" "m" "[J") (List.mem_of_getElem? (i := 6) rfl)) (fun _ h9 => h9) rfl dX10_run_65 ?_
          refine lv_pc (pc2 := 68) rfl ?_
          refine lv_sipush (v := 231) hx hb dX10_run_68 (by decide) ?_
          obtain ⟨f_117, at_118, h_119⟩ := mF_o47 hG h_82
          have b_120 : vp_in 231 280 := (q_in (by decide) (by decide))
          refine va_lald hx hb hK (va_one at_118) 0 1 rfl rfl b_120 dX10_run_71 ?_
          refine lv_topl (fun z_121 e_122 => ?_)
          have i_z_121 : z_121.toInt = hm := by rw [e_122]; exact gHr_ld h_119 (by decide)
          refine lv_l2i (v := z_121.toInt32) hx hb dX10_run_72 rfl ?_
          refine lv_topi (fun x_123 e_124 => ?_)
          exact tx_iret (z := (hm)) hx hb hr hlk hG hS ⟨(by show 0 ≤ hm; omega), (by show hm ≤ 96; omega)⟩ dX10_run_73
        have lp67 : ∀ (kk67 : Nat) (yk : Int32) (hm : Int) (H1 : Heap) (locs1 : List Loc) (ls1 : Array Slot), a1.toInt - yk.toInt ≤ (kk67 : Int) → (0 ≤ yk.toInt) → (yk.toInt ≤ a1.toInt) → (hm = gH + yk.toInt) → tG D (mF cI cL cC gC gE gW gA gT gI gS gM K F S N hm gJ ge gk gf gs gg gr RN) t H1 → tF t wm s.heap H1 locs1 → lv_has ls1 3 [(2, .int yk), (0, .ref a0), (1, .int a1)] → WW67 H1 locs1 (F0 m 47 ls1 []) := by
          intro kk67
          induction kk67 with
          | zero =>
            intro yk hm H locs ls hk67 v67_0 v67_1 v67_2 hG hS hl
            refine (hWW67 _ _ _).mpr ?_
            refine lv_iload_n hx hb dX10_run_47 rfl (lv_at hl 0 rfl) ?_
            refine lv_iload_n hx hb dX10_run_48 rfl (lv_at hl 2 rfl) ?_
            refine lv_icmp_ge (tgt := 64) hx hb dX10_run_49 (by decide) (fun c_125 => ?_) (fun c_125 => ?_)
            · skip
              have c_125 : a1.toInt ≤ yk.toInt := q_le c_125
              exact (hWW67 _ _ _).mp (kx67 yk hm H locs ls v67_0 v67_1 v67_2 hG hS (lv_sub hl [0, 1, 2] rfl))
            · skip
              have c_125 : yk.toInt < a1.toInt := q_nle c_125
              exfalso; omega
          | succ kk67 ih67 =>
            intro yk hm H locs ls hk67 v67_0 v67_1 v67_2 hG hS hl
            refine (hWW67 _ _ _).mpr ?_
            refine lv_iload_n hx hb dX10_run_47 rfl (lv_at hl 0 rfl) ?_
            refine lv_pc (pc2 := 48) rfl ?_
            refine lv_iload_n hx hb dX10_run_48 rfl (lv_at hl 2 rfl) ?_
            refine lv_icmp_ge (tgt := 64) hx hb dX10_run_49 (by decide) (fun c_126 => ?_) (fun c_126 => ?_)
            · skip
              have c_126 : a1.toInt ≤ yk.toInt := q_le c_126
              exact (hWW67 _ _ _).mp (kx67 yk hm H locs ls v67_0 v67_1 v67_2 hG hS (lv_sub hl [0, 1, 2] rfl))
            · skip
              have c_126 : yk.toInt < a1.toInt := q_nle c_126
              refine lv_aload_n hx hb dX10_run_52 rfl (lv_at hl 1 rfl) ?_
              refine lv_iconst (v := 0) hx hb dX10_run_53 (by decide) ?_
              refine lv_iconst (v := 0) hx hb dX10_run_54 (by decide) ?_
              have zi_0 : (0 : Int32).toInt = 0 := by decide
              obtain ⟨r_127, v_129, r_130, r_132, r_134, r_136, r_138, r_140, r_142, r_144, r_146, r_148, r_150, r_152, r_154, r_156, r_158, r_160, r_162, r_164, r_166, r_168, r_170, v_172, r_173, at_175, h_128, h_131, h_133, h_135, h_137, h_139, h_141, h_143, h_145, h_147, h_149, h_151, h_153, h_155, h_157, h_159, h_161, h_163, h_165, h_167, h_169, h_171, h_174⟩ := mF_o40 hG k_a0
              refine tx_callv (W.runV (As := [.int 0, .int 0]) (rest := []) ⟨hx, hb, hml, hown, hts⟩ (m_X10_goes l D t cI cL cC gC gE gW gA gT gI gS gM K F S N hm gJ ge gk gf gs gg gr RN a0 0 0 0 uq (by omega) (by omega) (by omega) (by omega) (by omega) hO0 (by omega) (by omega) (by omega) (by omega) k_a0) (cwV 2 hts gu_X10_run_X10_goes_231 rfl rfl rfl (by decide +kernel) ⟨Nat.le_of_ble_eq_true rfl, Nat.le_of_ble_eq_true rfl⟩) (tP_V hG hE at_175 rfl) rfl rfl hl.1 rfl (lv_room (Nat.le_of_ble_eq_true rfl)) dX10_run_55 ⟨Nat.le_of_ble_eq_true rfl, Nat.le_of_ble_eq_true rfl⟩) hS (fun _ h => h) (fun gH_180 H locs hp_177 hG hS o_178 => ?_)
              have at_175 := va_at.keptC at_175 o_178 k_a0 rfl
              replace hG : tG D (mF cI cL cC gC gE gW gA gT gI gS gM K F S N gH_180 gJ ge gk gf gs gg gr RN) t H := hG
              have hp_177 : gH_180 = hm + 1 := hp_177
              have p_181 := hp_177
              obtain ⟨x_182, e_183⟩ : ∃ y : Int32, y = yk + Int32.ofInt 1 := ⟨_, rfl⟩
              have i_x_182 : x_182.toInt = yk.toInt + 1 := by rw [e_183, show Int32.ofInt 1 = 1 by decide]; exact (q_add (by rw [show (1 : Int32).toInt = 1 by decide]; omega) (by rw [show (1 : Int32).toInt = 1 by decide]; omega)).trans (by rw [show (1 : Int32).toInt = 1 by decide])
              refine lv_iinc (v := x_182) (lv' := [(2, .int x_182), (0, .ref a0), (1, .int a1)]) hx hb dX10_run_58 hl (k := 0) rfl e_183.symm (by decide) rfl (fun ls hl => ?_)
              refine lv_goto (tgt := 47) hx hb dX10_run_61 (by decide) ?_
              exact (hWW67 _ _ _).mp (ih67 x_182 gH_180 H locs ls (by omega) (by omega) (by omega) (by omega) hG hS (lv_sub hl [0, 1, 2] rfl))
        have zi_0 : (0 : Int32).toInt = 0 := by decide
        exact lp67 (a1.toInt - (0 : Int32).toInt : Int).toNat 0 gH H locs ls (by omega) (by omega) (by omega) (by omega) hG hS (lv_sub hl [0, 1, 2] rfl)
      · skip
        have c_66 : 96 < z_64.toInt := q_cmp_nle c_66
        refine lv_pc (pc2 := 42) rfl ?_
        refine lv_bipush (v := (-3)) hx hb dX10_run_42 (by decide) ?_
        have zi_m3 : ((-3) : Int32).toInt = (-3) := by decide
        exact tx_iret (z := (gH)) hx hb hr hlk hG hS ⟨(by show 0 ≤ gH; omega), (by show gH ≤ 96; omega)⟩ dX10_run_44
    · skip
      have c_57 : v_10.toInt = 0 := q_eq c_57
      refine lv_bipush (v := (-2)) hx hb dX10_run_21 (by decide) ?_
      have zi_m2 : ((-2) : Int32).toInt = (-2) := by decide
      exact tx_iret (z := (gH)) hx hb hr hlk hG hS ⟨(by show 0 ≤ gH; omega), (by show gH ≤ 96; omega)⟩ dX10_run_23
  · skip
    refine lv_if_ne (tgt := 14) hx hb dX10_run_9 (by decide) (fun q => absurd rfl q) (fun _ => ?_)
    refine lv_iconst (v := (-1)) hx hb dX10_run_12 (by decide) ?_
    have zi_m1 : ((-1) : Int32).toInt = (-1) := by decide
    exact tx_iret (z := (gH)) hx hb hr hlk hG hS ⟨(by show 0 ≤ gH; omega), (by show gH ≤ 96; omega)⟩ dX10_run_13

def uX10_has : List Cond := .code yX10_has cX10_has 3 (some .long) :: ([.constantLong RX10 234 (15), .methodLink RX10 85 yX10_in, .static yX10_in, .initialized RX10, .fieldLink RX10 173 "RiverModelModel" "isBuilt" "Z", .constantLong RX10 238 (-2), .methodLink RX10 208 yX10_isStore, .instanceMethod yX10_isStore, .selects RX10 yX10_isStore yX10_isStore, .methodLink RX10 240 yX10_wayTo, .instanceMethod yX10_wayTo, .selects RX10 yX10_wayTo yX10_wayTo, .fieldLink RX10 28 "RiverModelModel" "m" "[J", .constantLong RX10 236 (-1), .code yX10_in cX10_in 6 (some .boolean), .code yX10_isStore cX10_isStore 2 (some .boolean), .methodLink RX10 166 yX10_storeAt, .instanceMethod yX10_storeAt, .selects RX10 yX10_storeAt yX10_storeAt, .code yX10_storeAt cX10_storeAt 5 (some .int), .fieldLink RX10 163 "RiverModelModel" "items" "I", .fieldLink RX10 13 "RiverModelModel" "kind" "[I", .fieldLink RX10 16 "RiverModelModel" "first" "[I", .code yX10_wayTo cX10_wayTo 5 (some .long)] ++ wsX100)
set_option maxRecDepth 20000 in
theorem gu_X10_has_X10_in_85 : GoodIn uX10_has (va_wsS RX10 85 yX10_in uX10_in) := goodIn_r _ [2, 3, 4, 15] rfl (by decide +kernel)
set_option maxRecDepth 20000 in
theorem gu_X10_has_X10_isStore_208 : GoodIn uX10_has (wsV RX10 208 RX10 yX10_isStore uX10_isStore) := goodIn_r _ [7, 8, 9, 4, 16, 17, 18, 19, 4, 20, 21, 22, 23, 25, 26, 27, 28, 29, 30, 31, 32, 33, 34, 35, 36, 37, 38, 39, 40, 41, 42, 43, 44, 45, 46, 47, 48, 49, 50, 51, 52, 53, 54, 55, 56, 57, 58, 59, 60] rfl (by decide +kernel)
set_option maxRecDepth 20000 in
theorem gu_X10_has_X10_wayTo_240 : GoodIn uX10_has (wsV RX10 240 RX10 yX10_wayTo uX10_wayTo) := goodIn_r _ [10, 11, 12, 4, 24, 13, 25, 26, 27, 28, 29, 30, 31, 32, 33, 34, 35, 36, 37, 38, 39, 40, 41, 42, 43, 44, 45, 46, 47, 48, 49, 50, 51, 52, 53, 54, 55, 56, 57, 58, 59, 60] rfl (by decide +kernel)
set_option maxHeartbeats 4000000 in
set_option maxRecDepth 100000 in
theorem m_X10_has (l : Launch) (D : va_G) (t : Nat → Nat) (cI cL cC : ClassId) (gC : Int32) (gE : Int32) (gW : Nat → Int32) (gA : Nat → Int32) (gT : Nat → Int32) (gI : Int32) (gS : Int32) (gM : Int32) (K : Nat → Int32) (F : Nat → Int32) (S : Nat → Int32) (N : Nat → Int32) (gH : Int) (gJ : Int) (ge : Int32) (gk : Int32) (gf : Int32) (gs : Int32) (gg : Int32) (gr : Int32) (RN : Nat → Int32) (a0 : Nat) (a1 : Int32) (a2 : Int32) (uq : ∀ b c : Nat, t b = t c → t b ≠ 0 → b = c) (hC0 : 0 ≤ gC.toInt) (hC4 : gC.toInt ≤ 400) (hI0 : 0 ≤ gI.toInt) (hI4 : gI.toInt ≤ 40) (hH0 : 0 ≤ gH) (hH9 : gH ≤ 96) (hm0 : 0 ≤ gM.toInt) (hm3 : gM.toInt ≤ 3) (hO0 : okM K F S N 0 gI.toInt) (hW : swM gS K F S N gI.toInt) (k_a0 : t a0 = 40) : tM l yX10_has uX10_has 2 45 D (mF cI cL cC gC gE gW gA gT gI gS gM K F S N gH gJ ge gk gf gs gg gr RN) (mF cI cL cC gC gE gW gA gT gI gS gM K F S N gH gJ ge gk gf gs gg gr RN) t cI cL cC [.ref a0, .int a1, .int a2] wr0 (pL (fun r => True)) := by
  refine tM.ofW (cc := cX10_has) (maxL := 3) (ret := (some .long)) (by decide) rfl (Nat.le_of_ble_eq_true rfl) ?_
  intro p e s m below meth c hx hb hr hml hown hts hlk H locs hG hK hE hS ls hl
  have hl : lv_has ls 3 [(0, .ref a0), (1, .int a1), (2, .int a2)] := hl
  have in10 : ∀ w ∈ wsX100, w ∈ uX10_has := fun w h => List.mem_cons_of_mem _ (List.mem_append_right _ h)
  refine lv_iload_n hx hb dX10_has_0 rfl (lv_at hl 1 rfl) ?_
  refine lv_i2l (v := a1.toInt64) hx hb dX10_has_1 rfl ?_
  refine lv_lconst (v := 0) hx hb dX10_has_2 (by decide) ?_
  refine lv_ldc2 hx hb hown (hts (.constantLong RX10 234 (15)) (List.mem_of_getElem? (i := 1) rfl)) dX10_has_3 ?_
  have zl_0 : (0 : Int64).toInt = 0 := by decide
  have zl_15 : (15 : Int64).toInt = 15 := by decide
  refine ty_calli (W.runS (As := [.long a1.toInt64, .long 0, .long 15]) (rest := []) ⟨hx, hb, hml, hown, hts⟩ (m_X10_in l D t cI cL cC gC gE gW gA gT gI gS gM K F S N gH gJ ge gk gf gs gg gr RN a1.toInt64 0 15 a1.toInt 0 15 uq (q_i2l _) (by decide) (by decide) ) (va_cwS 3 hts gu_X10_has_X10_in_85 rfl rfl rfl (by decide +kernel) ⟨Nat.le_of_ble_eq_true rfl, Nat.le_of_ble_eq_true rfl⟩) (tP_S hG hE) rfl rfl hl.1 rfl (lv_room (Nat.le_of_ble_eq_true rfl)) dX10_has_6 ⟨Nat.le_of_ble_eq_true rfl, Nat.le_of_ble_eq_true rfl⟩) hS (fun _ h => h) (fun r_1 H locs hp_2 hG hS o_3 => ?_)
  have hp_2 : (r_1 = 1 ∧ 0 ≤ a1.toInt ∧ a1.toInt ≤ 15) ∨ (r_1 = 0 ∧ (a1.toInt < 0 ∨ 15 < a1.toInt)) := hp_2
  rcases hp_2 with ⟨rfl, p_5, p_6⟩ | ⟨rfl, p_7⟩
  · skip
    refine lv_if_eq (tgt := 22) hx hb dX10_has_9 (by decide) (fun q => absurd q (by decide)) (fun _ => ?_)
    refine lv_iload_n hx hb dX10_has_12 rfl (lv_at hl 2 rfl) ?_
    refine lv_pc (pc2 := 13) rfl ?_
    refine lv_i2l (v := a2.toInt64) hx hb dX10_has_13 rfl ?_
    refine lv_lconst (v := 0) hx hb dX10_has_14 (by decide) ?_
    refine lv_lconst (v := 1) hx hb dX10_has_15 (by decide) ?_
    have zl_1 : (1 : Int64).toInt = 1 := by decide
    refine ty_calli (W.runS (As := [.long a2.toInt64, .long 0, .long 1]) (rest := []) ⟨hx, hb, hml, hown, hts⟩ (m_X10_in l D t cI cL cC gC gE gW gA gT gI gS gM K F S N gH gJ ge gk gf gs gg gr RN a2.toInt64 0 1 a2.toInt 0 1 uq (q_i2l _) (by decide) (by decide) ) (va_cwS 3 hts gu_X10_has_X10_in_85 rfl rfl rfl (by decide +kernel) ⟨Nat.le_of_ble_eq_true rfl, Nat.le_of_ble_eq_true rfl⟩) (tP_S hG hE) rfl rfl hl.1 rfl (lv_room (Nat.le_of_ble_eq_true rfl)) dX10_has_16 ⟨Nat.le_of_ble_eq_true rfl, Nat.le_of_ble_eq_true rfl⟩) hS (fun _ h => h) (fun r_8 H locs hp_9 hG hS o_10 => ?_)
    have hp_9 : (r_8 = 1 ∧ 0 ≤ a2.toInt ∧ a2.toInt ≤ 1) ∨ (r_8 = 0 ∧ (a2.toInt < 0 ∨ 1 < a2.toInt)) := hp_9
    rcases hp_9 with ⟨rfl, p_12, p_13⟩ | ⟨rfl, p_14⟩
    · skip
      refine lv_if_ne (tgt := 26) hx hb dX10_has_19 (by decide) (fun _ => ?_) (fun q => absurd q (by decide))
      refine lv_aload_n hx hb dX10_has_26 rfl (lv_at hl 0 rfl) ?_
      obtain ⟨r_15, v_17, r_18, r_20, r_22, r_24, r_26, r_28, r_30, r_32, r_34, r_36, r_38, r_40, r_42, r_44, r_46, r_48, r_50, r_52, r_54, r_56, r_58, v_60, r_61, at_63, h_16, h_19, h_21, h_23, h_25, h_27, h_29, h_31, h_33, h_35, h_37, h_39, h_41, h_43, h_45, h_47, h_49, h_51, h_53, h_55, h_57, h_59, h_62⟩ := mF_o40 hG k_a0
      refine va_get (D := D) (ci := 9) (v := .int v_17) (C := RX10) (T := TX10) (N := 36) hx hb hts in10 hown hK (va_one at_63) 0 rfl rfl 2 (by decide) (hts (.fieldLink RX10 173 "RiverModelModel" "isBuilt" "Z") (List.mem_of_getElem? (i := 5) rfl)) (fun _ h9 => h9) rfl dX10_has_27 ?_
      refine lv_if_eq (tgt := 41) hx hb dX10_has_30 (by decide) (fun c_64 => ?_) (fun c_64 => ?_)
      · skip
        have c_64 : v_17.toInt = 0 := q_eq c_64
        refine lv_pc (pc2 := 41) rfl ?_
        refine lv_ldc2 hx hb hown (hts (.constantLong RX10 238 (-2)) (List.mem_of_getElem? (i := 6) rfl)) dX10_has_41 ?_
        have zl_m2 : ((-2) : Int64).toInt = (-2) := by decide
        exact ty_lret hx hb hr hlk hG hS True.intro dX10_has_44
      · skip
        have c_64 : v_17.toInt ≠ 0 := q_ne c_64
        refine lv_aload_n hx hb dX10_has_33 rfl (lv_at hl 0 rfl) ?_
        refine lv_iload_n hx hb dX10_has_34 rfl (lv_at hl 1 rfl) ?_
        refine ty_calli (W.runV (As := [.int a1]) (rest := []) ⟨hx, hb, hml, hown, hts⟩ (m_X10_isStore l D t cI cL cC gC gE gW gA gT gI gS gM K F S N gH gJ ge gk gf gs gg gr RN a0 a1  uq (by omega) (by omega) k_a0) (cwV 1 hts gu_X10_has_X10_isStore_208 rfl rfl rfl (by decide +kernel) ⟨Nat.le_of_ble_eq_true rfl, Nat.le_of_ble_eq_true rfl⟩) (tP_V hG hE at_63 rfl) rfl rfl hl.1 rfl (lv_room (Nat.le_of_ble_eq_true rfl)) dX10_has_35 ⟨Nat.le_of_ble_eq_true rfl, Nat.le_of_ble_eq_true rfl⟩) hS (fun _ h => h) (fun r_65 H locs hp_66 hG hS o_67 => ?_)
        have at_63 := va_at.keptC at_63 o_67 k_a0 rfl
        have hp_66 : (r_65 = 1 ∧ hasS K F 0 gI.toInt a1) ∨ (r_65 = 0 ∧ ¬ hasS K F 0 gI.toInt a1) := hp_66
        rcases hp_66 with ⟨rfl, p_69⟩ | ⟨rfl, p_70⟩
        · skip
          refine lv_if_ne (tgt := 45) hx hb dX10_has_38 (by decide) (fun _ => ?_) (fun q => absurd q (by decide))
          refine lv_iload_n hx hb dX10_has_45 rfl (lv_at hl 2 rfl) ?_
          refine lv_if_ne (tgt := 58) hx hb dX10_has_46 (by decide) (fun c_71 => ?_) (fun c_71 => ?_)
          · skip
            have c_71 : a2.toInt ≠ 0 := q_ne c_71
            refine lv_pc (pc2 := 58) rfl ?_
            refine lv_aload_n hx hb dX10_has_58 rfl (lv_at hl 0 rfl) ?_
            refine lv_iload_n hx hb dX10_has_59 rfl (lv_at hl 1 rfl) ?_
            refine ty_calll (W.runV (As := [.int a1]) (rest := []) ⟨hx, hb, hml, hown, hts⟩ (m_X10_wayTo l D t cI cL cC gC gE gW gA gT gI gS gM K F S N gH gJ ge gk gf gs gg gr RN a0 a1  uq (by omega) (by omega) k_a0) (cwV 1 hts gu_X10_has_X10_wayTo_240 rfl rfl rfl (by decide +kernel) ⟨Nat.le_of_ble_eq_true rfl, Nat.le_of_ble_eq_true rfl⟩) (tP_V hG hE at_63 rfl) rfl rfl hl.1 rfl (lv_room (Nat.le_of_ble_eq_true rfl)) dX10_has_60 ⟨Nat.le_of_ble_eq_true rfl, Nat.le_of_ble_eq_true rfl⟩) hS (fun _ h => h) (fun z_72 H locs hp_73 hG hS o_74 => ?_)
            have at_63 := va_at.keptC at_63 o_74 k_a0 rfl
            exact ty_lret hx hb hr hlk hG hS True.intro dX10_has_63
          · skip
            have c_71 : a2.toInt = 0 := q_eq c_71
            refine lv_aload_n hx hb dX10_has_49 rfl (lv_at hl 0 rfl) ?_
            refine va_get (D := D) (ci := 9) (v := .ref r_28) (C := RX10) (T := TX10) (N := 36) hx hb hts in10 hown hK (va_one at_63) 0 rfl rfl 10 (by decide) (hts (.fieldLink RX10 28 "RiverModelModel" "m" "[J") (List.mem_of_getElem? (i := 13) rfl)) (fun _ h9 => h9) rfl dX10_has_50 ?_
            refine lv_iload_n hx hb dX10_has_53 rfl (lv_at hl 1 rfl) ?_
            obtain ⟨f_76, at_77, h_78⟩ := mF_o47 hG h_29
            have b_79 : vp_in a1 280 := (q_in (by omega) (by omega))
            refine va_lald hx hb hK (va_one at_77) 0 1 rfl rfl b_79 dX10_has_54 ?_
            refine lv_topl (fun z_80 e_81 => ?_)
            refine lv_pc (pc2 := 55) rfl ?_
            refine lv_goto (tgt := 63) hx hb dX10_has_55 (by decide) ?_
            exact ty_lret hx hb hr hlk hG hS True.intro dX10_has_63
        · skip
          refine lv_if_ne (tgt := 45) hx hb dX10_has_38 (by decide) (fun q => absurd rfl q) (fun _ => ?_)
          refine lv_ldc2 hx hb hown (hts (.constantLong RX10 238 (-2)) (List.mem_of_getElem? (i := 6) rfl)) dX10_has_41 ?_
          have zl_m2 : ((-2) : Int64).toInt = (-2) := by decide
          exact ty_lret hx hb hr hlk hG hS True.intro dX10_has_44
    · skip
      refine lv_if_ne (tgt := 26) hx hb dX10_has_19 (by decide) (fun q => absurd rfl q) (fun _ => ?_)
      refine lv_ldc2 hx hb hown (hts (.constantLong RX10 236 (-1)) (List.mem_of_getElem? (i := 14) rfl)) dX10_has_22 ?_
      have zl_m1 : ((-1) : Int64).toInt = (-1) := by decide
      exact ty_lret hx hb hr hlk hG hS True.intro dX10_has_25
  · skip
    refine lv_pc (pc2 := 9) rfl ?_
    refine lv_if_eq (tgt := 22) hx hb dX10_has_9 (by decide) (fun _ => ?_) (fun q => absurd (by decide) q)
    refine lv_ldc2 hx hb hown (hts (.constantLong RX10 236 (-1)) (List.mem_of_getElem? (i := 14) rfl)) dX10_has_22 ?_
    have zl_m1 : ((-1) : Int64).toInt = (-1) := by decide
    exact ty_lret hx hb hr hlk hG hS True.intro dX10_has_25

def uX10_flow : List Cond := .code yX10_flow cX10_flow 2 (some .long) :: ([.constantLong RX10 194 (39), .methodLink RX10 85 yX10_in, .static yX10_in, .initialized RX10, .fieldLink RX10 173 "RiverModelModel" "isBuilt" "Z", .constantLong RX10 238 (-2), .fieldLink RX10 163 "RiverModelModel" "items" "I", .fieldLink RX10 28 "RiverModelModel" "m" "[J", .constantLong RX10 236 (-1), .code yX10_in cX10_in 6 (some .boolean)] ++ wsX100)
set_option maxRecDepth 20000 in
theorem gu_X10_flow_X10_in_85 : GoodIn uX10_flow (va_wsS RX10 85 yX10_in uX10_in) := goodIn_r _ [2, 3, 4, 10] rfl (by decide +kernel)
set_option maxHeartbeats 4000000 in
set_option maxRecDepth 100000 in
theorem m_X10_flow (l : Launch) (D : va_G) (t : Nat → Nat) (cI cL cC : ClassId) (gC : Int32) (gE : Int32) (gW : Nat → Int32) (gA : Nat → Int32) (gT : Nat → Int32) (gI : Int32) (gS : Int32) (gM : Int32) (K : Nat → Int32) (F : Nat → Int32) (S : Nat → Int32) (N : Nat → Int32) (gH : Int) (gJ : Int) (ge : Int32) (gk : Int32) (gf : Int32) (gs : Int32) (gg : Int32) (gr : Int32) (RN : Nat → Int32) (a0 : Nat) (a1 : Int32) (uq : ∀ b c : Nat, t b = t c → t b ≠ 0 → b = c) (hC0 : 0 ≤ gC.toInt) (hC4 : gC.toInt ≤ 400) (hI0 : 0 ≤ gI.toInt) (hI4 : gI.toInt ≤ 40) (hH0 : 0 ≤ gH) (hH9 : gH ≤ 96) (hm0 : 0 ≤ gM.toInt) (hm3 : gM.toInt ≤ 3) (hO0 : okM K F S N 0 gI.toInt) (hW : swM gS K F S N gI.toInt) (k_a0 : t a0 = 40) : tM l yX10_flow uX10_flow 1 25 D (mF cI cL cC gC gE gW gA gT gI gS gM K F S N gH gJ ge gk gf gs gg gr RN) (mF cI cL cC gC gE gW gA gT gI gS gM K F S N gH gJ ge gk gf gs gg gr RN) t cI cL cC [.ref a0, .int a1] wr0 (pL (fun r => True)) := by
  refine tM.ofW (cc := cX10_flow) (maxL := 2) (ret := (some .long)) (by decide) rfl (Nat.le_of_ble_eq_true rfl) ?_
  intro p e s m below meth c hx hb hr hml hown hts hlk H locs hG hK hE hS ls hl
  have hl : lv_has ls 2 [(0, .ref a0), (1, .int a1)] := hl
  have in10 : ∀ w ∈ wsX100, w ∈ uX10_flow := fun w h => List.mem_cons_of_mem _ (List.mem_append_right _ h)
  refine lv_iload_n hx hb dX10_flow_0 rfl (lv_at hl 1 rfl) ?_
  refine lv_i2l (v := a1.toInt64) hx hb dX10_flow_1 rfl ?_
  refine lv_lconst (v := 0) hx hb dX10_flow_2 (by decide) ?_
  refine lv_ldc2 hx hb hown (hts (.constantLong RX10 194 (39)) (List.mem_of_getElem? (i := 1) rfl)) dX10_flow_3 ?_
  have zl_0 : (0 : Int64).toInt = 0 := by decide
  have zl_39 : (39 : Int64).toInt = 39 := by decide
  refine ty_calli (W.runS (As := [.long a1.toInt64, .long 0, .long 39]) (rest := []) ⟨hx, hb, hml, hown, hts⟩ (m_X10_in l D t cI cL cC gC gE gW gA gT gI gS gM K F S N gH gJ ge gk gf gs gg gr RN a1.toInt64 0 39 a1.toInt 0 39 uq (q_i2l _) (by decide) (by decide) ) (va_cwS 3 hts gu_X10_flow_X10_in_85 rfl rfl rfl (by decide +kernel) ⟨Nat.le_of_ble_eq_true rfl, Nat.le_of_ble_eq_true rfl⟩) (tP_S hG hE) rfl rfl hl.1 rfl (lv_room (Nat.le_of_ble_eq_true rfl)) dX10_flow_6 ⟨Nat.le_of_ble_eq_true rfl, Nat.le_of_ble_eq_true rfl⟩) hS (fun _ h => h) (fun r_1 H locs hp_2 hG hS o_3 => ?_)
  have hp_2 : (r_1 = 1 ∧ 0 ≤ a1.toInt ∧ a1.toInt ≤ 39) ∨ (r_1 = 0 ∧ (a1.toInt < 0 ∨ 39 < a1.toInt)) := hp_2
  rcases hp_2 with ⟨rfl, p_5, p_6⟩ | ⟨rfl, p_7⟩
  · skip
    refine lv_if_ne (tgt := 16) hx hb dX10_flow_9 (by decide) (fun _ => ?_) (fun q => absurd q (by decide))
    refine lv_aload_n hx hb dX10_flow_16 rfl (lv_at hl 0 rfl) ?_
    refine lv_pc (pc2 := 17) rfl ?_
    obtain ⟨r_8, v_10, r_11, r_13, r_15, r_17, r_19, r_21, r_23, r_25, r_27, r_29, r_31, r_33, r_35, r_37, r_39, r_41, r_43, r_45, r_47, r_49, r_51, v_53, r_54, at_56, h_9, h_12, h_14, h_16, h_18, h_20, h_22, h_24, h_26, h_28, h_30, h_32, h_34, h_36, h_38, h_40, h_42, h_44, h_46, h_48, h_50, h_52, h_55⟩ := mF_o40 hG k_a0
    refine va_get (D := D) (ci := 9) (v := .int v_10) (C := RX10) (T := TX10) (N := 36) hx hb hts in10 hown hK (va_one at_56) 0 rfl rfl 2 (by decide) (hts (.fieldLink RX10 173 "RiverModelModel" "isBuilt" "Z") (List.mem_of_getElem? (i := 5) rfl)) (fun _ h9 => h9) rfl dX10_flow_17 ?_
    refine lv_if_eq (tgt := 44) hx hb dX10_flow_20 (by decide) (fun c_57 => ?_) (fun c_57 => ?_)
    · skip
      have c_57 : v_10.toInt = 0 := q_eq c_57
      refine lv_ldc2 hx hb hown (hts (.constantLong RX10 238 (-2)) (List.mem_of_getElem? (i := 6) rfl)) dX10_flow_44 ?_
      refine lv_goto (tgt := 60) hx hb dX10_flow_47 (by decide) ?_
      have zl_m2 : ((-2) : Int64).toInt = (-2) := by decide
      exact ty_lret hx hb hr hlk hG hS True.intro dX10_flow_60
    · skip
      have c_57 : v_10.toInt ≠ 0 := q_ne c_57
      refine lv_iload_n hx hb dX10_flow_23 rfl (lv_at hl 1 rfl) ?_
      refine lv_aload_n hx hb dX10_flow_24 rfl (lv_at hl 0 rfl) ?_
      refine va_get (D := D) (ci := 9) (v := .int gI) (C := RX10) (T := TX10) (N := 36) hx hb hts in10 hown hK (va_one at_56) 0 rfl rfl 3 (by decide) (hts (.fieldLink RX10 163 "RiverModelModel" "items" "I") (List.mem_of_getElem? (i := 7) rfl)) (fun _ h9 => h9) rfl dX10_flow_25 ?_
      refine lv_pc (pc2 := 28) rfl ?_
      refine lv_icmp_ge (tgt := 44) hx hb dX10_flow_28 (by decide) (fun c_58 => ?_) (fun c_58 => ?_)
      · skip
        have c_58 : gI.toInt ≤ a1.toInt := q_le c_58
        refine lv_ldc2 hx hb hown (hts (.constantLong RX10 238 (-2)) (List.mem_of_getElem? (i := 6) rfl)) dX10_flow_44 ?_
        refine lv_goto (tgt := 60) hx hb dX10_flow_47 (by decide) ?_
        have zl_m2 : ((-2) : Int64).toInt = (-2) := by decide
        exact ty_lret hx hb hr hlk hG hS True.intro dX10_flow_60
      · skip
        have c_58 : a1.toInt < gI.toInt := q_nle c_58
        refine lv_aload_n hx hb dX10_flow_31 rfl (lv_at hl 0 rfl) ?_
        refine va_get (D := D) (ci := 9) (v := .ref r_21) (C := RX10) (T := TX10) (N := 36) hx hb hts in10 hown hK (va_one at_56) 0 rfl rfl 10 (by decide) (hts (.fieldLink RX10 28 "RiverModelModel" "m" "[J") (List.mem_of_getElem? (i := 8) rfl)) (fun _ h9 => h9) rfl dX10_flow_32 ?_
        refine lv_sipush (v := 231) hx hb dX10_flow_35 (by decide) ?_
        obtain ⟨f_59, at_60, h_61⟩ := mF_o47 hG h_22
        have b_62 : vp_in 231 280 := (q_in (by decide) (by decide))
        refine va_lald hx hb hK (va_one at_60) 0 1 rfl rfl b_62 dX10_flow_38 ?_
        refine lv_topl (fun z_63 e_64 => ?_)
        have i_z_63 : z_63.toInt = gH := by rw [e_64]; exact gHr_ld h_61 (by decide)
        refine lv_pc (pc2 := 39) rfl ?_
        refine lv_lconst (v := 0) hx hb dX10_flow_39 (by decide) ?_
        refine W.lcmp hx hb dX10_flow_40 ?_
        refine lv_if_ne (tgt := 50) hx hb dX10_flow_41 (by decide) (fun c_65 => ?_) (fun c_65 => ?_)
        · skip
          have c_65 : z_63.toInt ≠ 0 := q_cmp_ne c_65
          refine lv_aload_n hx hb dX10_flow_50 rfl (lv_at hl 0 rfl) ?_
          refine va_get (D := D) (ci := 9) (v := .ref r_21) (C := RX10) (T := TX10) (N := 36) hx hb hts in10 hown hK (va_one at_56) 0 rfl rfl 10 (by decide) (hts (.fieldLink RX10 28 "RiverModelModel" "m" "[J") (List.mem_of_getElem? (i := 8) rfl)) (fun _ h9 => h9) rfl dX10_flow_51 ?_
          refine lv_sipush (v := 240) hx hb dX10_flow_54 (by decide) ?_
          refine lv_iload_n hx hb dX10_flow_57 rfl (lv_at hl 1 rfl) ?_
          refine lv_iadd hx hb dX10_flow_58 ?_
          refine lv_topi (fun x_66 e_67 => ?_)
          have i_x_66 : x_66.toInt = 240 + a1.toInt := by rw [e_67]; exact (q_add (by rw [show (240 : Int32).toInt = 240 by decide]; omega) (by rw [show (240 : Int32).toInt = 240 by decide]; omega)).trans (by rw [show (240 : Int32).toInt = 240 by decide])
          refine lv_pc (pc2 := 59) rfl ?_
          have b_68 : vp_in x_66 280 := (q_in (by omega) (by omega))
          refine va_lald hx hb hK (va_one at_60) 0 1 rfl rfl b_68 dX10_flow_59 ?_
          refine lv_topl (fun z_69 e_70 => ?_)
          exact ty_lret hx hb hr hlk hG hS True.intro dX10_flow_60
        · skip
          have c_65 : z_63.toInt = 0 := by exact q_cmp_eq c_65
          refine lv_ldc2 hx hb hown (hts (.constantLong RX10 238 (-2)) (List.mem_of_getElem? (i := 6) rfl)) dX10_flow_44 ?_
          refine lv_goto (tgt := 60) hx hb dX10_flow_47 (by decide) ?_
          have zl_m2 : ((-2) : Int64).toInt = (-2) := by decide
          exact ty_lret hx hb hr hlk hG hS True.intro dX10_flow_60
  · skip
    refine lv_if_ne (tgt := 16) hx hb dX10_flow_9 (by decide) (fun q => absurd rfl q) (fun _ => ?_)
    refine lv_ldc2 hx hb hown (hts (.constantLong RX10 236 (-1)) (List.mem_of_getElem? (i := 9) rfl)) dX10_flow_12 ?_
    have zl_m1 : ((-1) : Int64).toInt = (-1) := by decide
    exact ty_lret hx hb hr hlk hG hS True.intro dX10_flow_15
